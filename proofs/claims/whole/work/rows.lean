section
-- ===== PART A: goes FIRST, ahead of the names: the tables' words, and 'selects' of the private methods out of them =====
/-- a private method of a class that the tables say can be made, by its rows of tables_1 -/
def lw_okq (q : MethodName × Nat) : Prop := (q.1.cls ≠ "java/lang/invoke/MethodHandle" ∧ q.1.cls ≠ "java/lang/invoke/VarHandle") ∧ Cond.instantiable q.1.cls q.2 ∈ tables_1 ∧ Cond.privateMethod q.1 ∈ tables_1 ∧ Cond.instanceMethod q.1 ∈ tables_1
theorem lw_p0 : lw_okq (⟨"DrawnFields", "tryField", "(II)I"⟩, 8) := ⟨⟨by decide +kernel, by decide +kernel⟩, List.mem_of_getElem? (i := 15) (by decide +kernel), List.mem_of_getElem? (i := 295) (by decide +kernel), List.mem_of_getElem? (i := 296) (by decide +kernel)⟩
theorem lw_p1 : lw_okq (⟨"DrawnFields", "settled", "(I)I"⟩, 8) := ⟨⟨by decide +kernel, by decide +kernel⟩, List.mem_of_getElem? (i := 15) (by decide +kernel), List.mem_of_getElem? (i := 311) (by decide +kernel), List.mem_of_getElem? (i := 312) (by decide +kernel)⟩
theorem lw_p2 : lw_okq (⟨"DrawnFields", "counted", "(I)I"⟩, 8) := ⟨⟨by decide +kernel, by decide +kernel⟩, List.mem_of_getElem? (i := 15) (by decide +kernel), List.mem_of_getElem? (i := 319) (by decide +kernel), List.mem_of_getElem? (i := 320) (by decide +kernel)⟩
theorem lw_p3 : lw_okq (⟨"DrawnFields", "tryRange", "(III)I"⟩, 8) := ⟨⟨by decide +kernel, by decide +kernel⟩, List.mem_of_getElem? (i := 15) (by decide +kernel), List.mem_of_getElem? (i := 327) (by decide +kernel), List.mem_of_getElem? (i := 328) (by decide +kernel)⟩
theorem lw_p4 : lw_okq (⟨"DrawnFields", "tryWeight", "(III)I"⟩, 8) := ⟨⟨by decide +kernel, by decide +kernel⟩, List.mem_of_getElem? (i := 15) (by decide +kernel), List.mem_of_getElem? (i := 340) (by decide +kernel), List.mem_of_getElem? (i := 341) (by decide +kernel)⟩
theorem lw_p5 : lw_okq (⟨"DrawnFields", "tryRound", "(II)I"⟩, 8) := ⟨⟨by decide +kernel, by decide +kernel⟩, List.mem_of_getElem? (i := 15) (by decide +kernel), List.mem_of_getElem? (i := 348) (by decide +kernel), List.mem_of_getElem? (i := 349) (by decide +kernel)⟩
theorem lw_p6 : lw_okq (⟨"DrawnFields", "tryPlace", "(II)I"⟩, 8) := ⟨⟨by decide +kernel, by decide +kernel⟩, List.mem_of_getElem? (i := 15) (by decide +kernel), List.mem_of_getElem? (i := 356) (by decide +kernel), List.mem_of_getElem? (i := 357) (by decide +kernel)⟩
theorem lw_p7 : lw_okq (⟨"DrawnFields", "tryRule", "(IIIII)I"⟩, 8) := ⟨⟨by decide +kernel, by decide +kernel⟩, List.mem_of_getElem? (i := 15) (by decide +kernel), List.mem_of_getElem? (i := 372) (by decide +kernel), List.mem_of_getElem? (i := 373) (by decide +kernel)⟩
theorem lw_p8 : lw_okq (⟨"DrawnFields", "tryDrop", "(I)I"⟩, 8) := ⟨⟨by decide +kernel, by decide +kernel⟩, List.mem_of_getElem? (i := 15) (by decide +kernel), List.mem_of_getElem? (i := 391) (by decide +kernel), List.mem_of_getElem? (i := 392) (by decide +kernel)⟩
theorem lw_p9 : lw_okq (⟨"DrawnFields$Law", "withSoft", "(LDrawnFields$State;I)I"⟩, 5) := ⟨⟨by decide +kernel, by decide +kernel⟩, List.mem_of_getElem? (i := 163) (by decide +kernel), List.mem_of_getElem? (i := 458) (by decide +kernel), List.mem_of_getElem? (i := 459) (by decide +kernel)⟩
theorem lw_p10 : lw_okq (⟨"DrawnFields$Law", "someRowKeeps", "(I)Z"⟩, 5) := ⟨⟨by decide +kernel, by decide +kernel⟩, List.mem_of_getElem? (i := 163) (by decide +kernel), List.mem_of_getElem? (i := 462) (by decide +kernel), List.mem_of_getElem? (i := 463) (by decide +kernel)⟩
theorem lw_p11 : lw_okq (⟨"DrawnFields$Law", "leastUnkept", "(I)I"⟩, 5) := ⟨⟨by decide +kernel, by decide +kernel⟩, List.mem_of_getElem? (i := 163) (by decide +kernel), List.mem_of_getElem? (i := 466) (by decide +kernel), List.mem_of_getElem? (i := 467) (by decide +kernel)⟩
theorem lw_p12 : lw_okq (⟨"DrawnFields", "factOfRule", "(II)I"⟩, 8) := ⟨⟨by decide +kernel, by decide +kernel⟩, List.mem_of_getElem? (i := 15) (by decide +kernel), List.mem_of_getElem? (i := 479) (by decide +kernel), List.mem_of_getElem? (i := 480) (by decide +kernel)⟩
theorem lw_p13 : lw_okq (⟨"DrawnFields", "tryDraw", "(II)I"⟩, 8) := ⟨⟨by decide +kernel, by decide +kernel⟩, List.mem_of_getElem? (i := 15) (by decide +kernel), List.mem_of_getElem? (i := 552) (by decide +kernel), List.mem_of_getElem? (i := 553) (by decide +kernel)⟩
theorem lw_p14 : lw_okq (⟨"DrawnFields$Drawer", "chanceBelow", "(I)I"⟩, 2) := ⟨⟨by decide +kernel, by decide +kernel⟩, List.mem_of_getElem? (i := 203) (by decide +kernel), List.mem_of_getElem? (i := 584) (by decide +kernel), List.mem_of_getElem? (i := 585) (by decide +kernel)⟩
theorem lw_p15 : lw_okq (⟨"DrawnFields$Drawer", "rowOfWord", "(LDrawnFields$State;IIZ)I"⟩, 2) := ⟨⟨by decide +kernel, by decide +kernel⟩, List.mem_of_getElem? (i := 203) (by decide +kernel), List.mem_of_getElem? (i := 594) (by decide +kernel), List.mem_of_getElem? (i := 595) (by decide +kernel)⟩
def lw_privs_1 : List (MethodName × Nat) := [(⟨"DrawnFields", "tryField", "(II)I"⟩, 8), (⟨"DrawnFields", "settled", "(I)I"⟩, 8), (⟨"DrawnFields", "counted", "(I)I"⟩, 8), (⟨"DrawnFields", "tryRange", "(III)I"⟩, 8), (⟨"DrawnFields", "tryWeight", "(III)I"⟩, 8), (⟨"DrawnFields", "tryRound", "(II)I"⟩, 8), (⟨"DrawnFields", "tryPlace", "(II)I"⟩, 8), (⟨"DrawnFields", "tryRule", "(IIIII)I"⟩, 8), (⟨"DrawnFields", "tryDrop", "(I)I"⟩, 8), (⟨"DrawnFields$Law", "withSoft", "(LDrawnFields$State;I)I"⟩, 5), (⟨"DrawnFields$Law", "someRowKeeps", "(I)Z"⟩, 5), (⟨"DrawnFields$Law", "leastUnkept", "(I)I"⟩, 5), (⟨"DrawnFields", "factOfRule", "(II)I"⟩, 8), (⟨"DrawnFields", "tryDraw", "(II)I"⟩, 8), (⟨"DrawnFields$Drawer", "chanceBelow", "(I)I"⟩, 2), (⟨"DrawnFields$Drawer", "rowOfWord", "(LDrawnFields$State;IIZ)I"⟩, 2)]
theorem lw_r1 : ∀ q ∈ lw_privs_1, lw_okq q := List.forall_mem_cons.mpr ⟨lw_p0, List.forall_mem_cons.mpr ⟨lw_p1, List.forall_mem_cons.mpr ⟨lw_p2, List.forall_mem_cons.mpr ⟨lw_p3, List.forall_mem_cons.mpr ⟨lw_p4, List.forall_mem_cons.mpr ⟨lw_p5, List.forall_mem_cons.mpr ⟨lw_p6, List.forall_mem_cons.mpr ⟨lw_p7, List.forall_mem_cons.mpr ⟨lw_p8, List.forall_mem_cons.mpr ⟨lw_p9, List.forall_mem_cons.mpr ⟨lw_p10, List.forall_mem_cons.mpr ⟨lw_p11, List.forall_mem_cons.mpr ⟨lw_p12, List.forall_mem_cons.mpr ⟨lw_p13, List.forall_mem_cons.mpr ⟨lw_p14, List.forall_mem_cons.mpr ⟨lw_p15, fun _ h => absurd h List.not_mem_nil⟩⟩⟩⟩⟩⟩⟩⟩⟩⟩⟩⟩⟩⟩⟩⟩
theorem lw_p16 : lw_okq (⟨"DrawnFields$Drawer", "takeValue", "(LDrawnFields$Field;I)I"⟩, 2) := ⟨⟨by decide +kernel, by decide +kernel⟩, List.mem_of_getElem? (i := 203) (by decide +kernel), List.mem_of_getElem? (i := 607) (by decide +kernel), List.mem_of_getElem? (i := 608) (by decide +kernel)⟩
theorem lw_p17 : lw_okq (⟨"DrawnFields$Text", "skipBlanks", "()V"⟩, 5) := ⟨⟨by decide +kernel, by decide +kernel⟩, List.mem_of_getElem? (i := 220) (by decide +kernel), List.mem_of_getElem? (i := 654) (by decide +kernel), List.mem_of_getElem? (i := 655) (by decide +kernel)⟩
theorem lw_p18 : lw_okq (⟨"DrawnFields$Text", "readNumber", "(I)Z"⟩, 5) := ⟨⟨by decide +kernel, by decide +kernel⟩, List.mem_of_getElem? (i := 220) (by decide +kernel), List.mem_of_getElem? (i := 661) (by decide +kernel), List.mem_of_getElem? (i := 662) (by decide +kernel)⟩
theorem lw_p19 : lw_okq (⟨"DrawnFields$Text", "isFigure", "()Z"⟩, 5) := ⟨⟨by decide +kernel, by decide +kernel⟩, List.mem_of_getElem? (i := 220) (by decide +kernel), List.mem_of_getElem? (i := 665) (by decide +kernel), List.mem_of_getElem? (i := 666) (by decide +kernel)⟩
theorem lw_p20 : lw_okq (⟨"DrawnFields", "performOrder", "()I"⟩, 8) := ⟨⟨by decide +kernel, by decide +kernel⟩, List.mem_of_getElem? (i := 15) (by decide +kernel), List.mem_of_getElem? (i := 670) (by decide +kernel), List.mem_of_getElem? (i := 671) (by decide +kernel)⟩
theorem lw_p21 : lw_okq (⟨"DrawnFields", "factOfAll", "(I)I"⟩, 8) := ⟨⟨by decide +kernel, by decide +kernel⟩, List.mem_of_getElem? (i := 15) (by decide +kernel), List.mem_of_getElem? (i := 686) (by decide +kernel), List.mem_of_getElem? (i := 687) (by decide +kernel)⟩
theorem lw_p22 : lw_okq (⟨"DrawnFields", "digestOfField", "(JI)J"⟩, 8) := ⟨⟨by decide +kernel, by decide +kernel⟩, List.mem_of_getElem? (i := 15) (by decide +kernel), List.mem_of_getElem? (i := 696) (by decide +kernel), List.mem_of_getElem? (i := 697) (by decide +kernel)⟩
theorem lw_p23 : lw_okq (⟨"DrawnFields", "digestOfDrawn", "(J)J"⟩, 8) := ⟨⟨by decide +kernel, by decide +kernel⟩, List.mem_of_getElem? (i := 15) (by decide +kernel), List.mem_of_getElem? (i := 700) (by decide +kernel), List.mem_of_getElem? (i := 701) (by decide +kernel)⟩
theorem lw_p24 : lw_okq (⟨"DrawnFieldsModel", "refuses", "(I)I"⟩, 22) := ⟨⟨by decide +kernel, by decide +kernel⟩, List.mem_of_getElem? (i := 704) (by decide +kernel), List.mem_of_getElem? (i := 782) (by decide +kernel), List.mem_of_getElem? (i := 783) (by decide +kernel)⟩
theorem lw_p25 : lw_okq (⟨"DrawnFieldsModel", "hold", "()V"⟩, 22) := ⟨⟨by decide +kernel, by decide +kernel⟩, List.mem_of_getElem? (i := 704) (by decide +kernel), List.mem_of_getElem? (i := 790) (by decide +kernel), List.mem_of_getElem? (i := 791) (by decide +kernel)⟩
theorem lw_p26 : lw_okq (⟨"DrawnFieldsModel", "doField", "(II)I"⟩, 22) := ⟨⟨by decide +kernel, by decide +kernel⟩, List.mem_of_getElem? (i := 704) (by decide +kernel), List.mem_of_getElem? (i := 794) (by decide +kernel), List.mem_of_getElem? (i := 795) (by decide +kernel)⟩
theorem lw_p27 : lw_okq (⟨"DrawnFieldsModel", "put", "(III)V"⟩, 22) := ⟨⟨by decide +kernel, by decide +kernel⟩, List.mem_of_getElem? (i := 704) (by decide +kernel), List.mem_of_getElem? (i := 801) (by decide +kernel), List.mem_of_getElem? (i := 802) (by decide +kernel)⟩
theorem lw_p28 : lw_okq (⟨"DrawnFieldsModel", "empty", "()V"⟩, 22) := ⟨⟨by decide +kernel, by decide +kernel⟩, List.mem_of_getElem? (i := 704) (by decide +kernel), List.mem_of_getElem? (i := 805) (by decide +kernel), List.mem_of_getElem? (i := 806) (by decide +kernel)⟩
theorem lw_p29 : lw_okq (⟨"DrawnFieldsModel", "ends", "(I)I"⟩, 22) := ⟨⟨by decide +kernel, by decide +kernel⟩, List.mem_of_getElem? (i := 704) (by decide +kernel), List.mem_of_getElem? (i := 809) (by decide +kernel), List.mem_of_getElem? (i := 810) (by decide +kernel)⟩
theorem lw_p30 : lw_okq (⟨"DrawnFieldsModel", "push", "()V"⟩, 22) := ⟨⟨by decide +kernel, by decide +kernel⟩, List.mem_of_getElem? (i := 704) (by decide +kernel), List.mem_of_getElem? (i := 813) (by decide +kernel), List.mem_of_getElem? (i := 814) (by decide +kernel)⟩
theorem lw_p31 : lw_okq (⟨"DrawnFieldsModel", "doRange", "(III)I"⟩, 22) := ⟨⟨by decide +kernel, by decide +kernel⟩, List.mem_of_getElem? (i := 704) (by decide +kernel), List.mem_of_getElem? (i := 821) (by decide +kernel), List.mem_of_getElem? (i := 822) (by decide +kernel)⟩
def lw_privs_2 : List (MethodName × Nat) := [(⟨"DrawnFields$Drawer", "takeValue", "(LDrawnFields$Field;I)I"⟩, 2), (⟨"DrawnFields$Text", "skipBlanks", "()V"⟩, 5), (⟨"DrawnFields$Text", "readNumber", "(I)Z"⟩, 5), (⟨"DrawnFields$Text", "isFigure", "()Z"⟩, 5), (⟨"DrawnFields", "performOrder", "()I"⟩, 8), (⟨"DrawnFields", "factOfAll", "(I)I"⟩, 8), (⟨"DrawnFields", "digestOfField", "(JI)J"⟩, 8), (⟨"DrawnFields", "digestOfDrawn", "(J)J"⟩, 8), (⟨"DrawnFieldsModel", "refuses", "(I)I"⟩, 22), (⟨"DrawnFieldsModel", "hold", "()V"⟩, 22), (⟨"DrawnFieldsModel", "doField", "(II)I"⟩, 22), (⟨"DrawnFieldsModel", "put", "(III)V"⟩, 22), (⟨"DrawnFieldsModel", "empty", "()V"⟩, 22), (⟨"DrawnFieldsModel", "ends", "(I)I"⟩, 22), (⟨"DrawnFieldsModel", "push", "()V"⟩, 22), (⟨"DrawnFieldsModel", "doRange", "(III)I"⟩, 22)]
theorem lw_r2 : ∀ q ∈ lw_privs_2, lw_okq q := List.forall_mem_cons.mpr ⟨lw_p16, List.forall_mem_cons.mpr ⟨lw_p17, List.forall_mem_cons.mpr ⟨lw_p18, List.forall_mem_cons.mpr ⟨lw_p19, List.forall_mem_cons.mpr ⟨lw_p20, List.forall_mem_cons.mpr ⟨lw_p21, List.forall_mem_cons.mpr ⟨lw_p22, List.forall_mem_cons.mpr ⟨lw_p23, List.forall_mem_cons.mpr ⟨lw_p24, List.forall_mem_cons.mpr ⟨lw_p25, List.forall_mem_cons.mpr ⟨lw_p26, List.forall_mem_cons.mpr ⟨lw_p27, List.forall_mem_cons.mpr ⟨lw_p28, List.forall_mem_cons.mpr ⟨lw_p29, List.forall_mem_cons.mpr ⟨lw_p30, List.forall_mem_cons.mpr ⟨lw_p31, fun _ h => absurd h List.not_mem_nil⟩⟩⟩⟩⟩⟩⟩⟩⟩⟩⟩⟩⟩⟩⟩⟩
theorem lw_p32 : lw_okq (⟨"DrawnFieldsModel", "isField", "(I)Z"⟩, 22) := ⟨⟨by decide +kernel, by decide +kernel⟩, List.mem_of_getElem? (i := 704) (by decide +kernel), List.mem_of_getElem? (i := 825) (by decide +kernel), List.mem_of_getElem? (i := 826) (by decide +kernel)⟩
theorem lw_p33 : lw_okq (⟨"DrawnFieldsModel", "doWeighs", "(III)I"⟩, 22) := ⟨⟨by decide +kernel, by decide +kernel⟩, List.mem_of_getElem? (i := 704) (by decide +kernel), List.mem_of_getElem? (i := 833) (by decide +kernel), List.mem_of_getElem? (i := 834) (by decide +kernel)⟩
theorem lw_p34 : lw_okq (⟨"DrawnFieldsModel", "ofField", "(II)I"⟩, 22) := ⟨⟨by decide +kernel, by decide +kernel⟩, List.mem_of_getElem? (i := 704) (by decide +kernel), List.mem_of_getElem? (i := 837) (by decide +kernel), List.mem_of_getElem? (i := 838) (by decide +kernel)⟩
theorem lw_p35 : lw_okq (⟨"DrawnFieldsModel", "doRound", "(II)I"⟩, 22) := ⟨⟨by decide +kernel, by decide +kernel⟩, List.mem_of_getElem? (i := 704) (by decide +kernel), List.mem_of_getElem? (i := 845) (by decide +kernel), List.mem_of_getElem? (i := 846) (by decide +kernel)⟩
theorem lw_p36 : lw_okq (⟨"DrawnFieldsModel", "placeOf", "(I)I"⟩, 22) := ⟨⟨by decide +kernel, by decide +kernel⟩, List.mem_of_getElem? (i := 704) (by decide +kernel), List.mem_of_getElem? (i := 853) (by decide +kernel), List.mem_of_getElem? (i := 854) (by decide +kernel)⟩
theorem lw_p37 : lw_okq (⟨"DrawnFieldsModel", "doRule", "(IIIII)I"⟩, 22) := ⟨⟨by decide +kernel, by decide +kernel⟩, List.mem_of_getElem? (i := 704) (by decide +kernel), List.mem_of_getElem? (i := 861) (by decide +kernel), List.mem_of_getElem? (i := 862) (by decide +kernel)⟩
theorem lw_p38 : lw_okq (⟨"DrawnFieldsModel", "doDrops", "(I)I"⟩, 22) := ⟨⟨by decide +kernel, by decide +kernel⟩, List.mem_of_getElem? (i := 704) (by decide +kernel), List.mem_of_getElem? (i := 872) (by decide +kernel), List.mem_of_getElem? (i := 873) (by decide +kernel)⟩
theorem lw_p39 : lw_okq (⟨"DrawnFieldsModel", "isRule", "(I)Z"⟩, 22) := ⟨⟨by decide +kernel, by decide +kernel⟩, List.mem_of_getElem? (i := 704) (by decide +kernel), List.mem_of_getElem? (i := 876) (by decide +kernel), List.mem_of_getElem? (i := 877) (by decide +kernel)⟩
theorem lw_p40 : lw_okq (⟨"DrawnFieldsModel", "ofAll", "(II)I"⟩, 22) := ⟨⟨by decide +kernel, by decide +kernel⟩, List.mem_of_getElem? (i := 704) (by decide +kernel), List.mem_of_getElem? (i := 884) (by decide +kernel), List.mem_of_getElem? (i := 885) (by decide +kernel)⟩
theorem lw_p41 : lw_okq (⟨"DrawnFieldsModel", "aboutRule", "(II)I"⟩, 22) := ⟨⟨by decide +kernel, by decide +kernel⟩, List.mem_of_getElem? (i := 704) (by decide +kernel), List.mem_of_getElem? (i := 892) (by decide +kernel), List.mem_of_getElem? (i := 893) (by decide +kernel)⟩
theorem lw_p42 : lw_okq (⟨"DrawnFieldsModel", "ofRule", "(II)I"⟩, 22) := ⟨⟨by decide +kernel, by decide +kernel⟩, List.mem_of_getElem? (i := 704) (by decide +kernel), List.mem_of_getElem? (i := 896) (by decide +kernel), List.mem_of_getElem? (i := 897) (by decide +kernel)⟩
theorem lw_p43 : lw_okq (⟨"DrawnFieldsModel", "lay", "()V"⟩, 22) := ⟨⟨by decide +kernel, by decide +kernel⟩, List.mem_of_getElem? (i := 704) (by decide +kernel), List.mem_of_getElem? (i := 900) (by decide +kernel), List.mem_of_getElem? (i := 901) (by decide +kernel)⟩
theorem lw_p44 : lw_okq (⟨"DrawnFieldsModel", "first", "()I"⟩, 22) := ⟨⟨by decide +kernel, by decide +kernel⟩, List.mem_of_getElem? (i := 704) (by decide +kernel), List.mem_of_getElem? (i := 904) (by decide +kernel), List.mem_of_getElem? (i := 905) (by decide +kernel)⟩
theorem lw_p45 : lw_okq (⟨"DrawnFieldsModel", "fields", "()I"⟩, 22) := ⟨⟨by decide +kernel, by decide +kernel⟩, List.mem_of_getElem? (i := 704) (by decide +kernel), List.mem_of_getElem? (i := 908) (by decide +kernel), List.mem_of_getElem? (i := 909) (by decide +kernel)⟩
theorem lw_p46 : lw_okq (⟨"DrawnFieldsModel", "keptBy", "(I)I"⟩, 22) := ⟨⟨by decide +kernel, by decide +kernel⟩, List.mem_of_getElem? (i := 704) (by decide +kernel), List.mem_of_getElem? (i := 912) (by decide +kernel), List.mem_of_getElem? (i := 913) (by decide +kernel)⟩
theorem lw_p47 : lw_okq (⟨"DrawnFieldsModel", "keeps", "(II)Z"⟩, 22) := ⟨⟨by decide +kernel, by decide +kernel⟩, List.mem_of_getElem? (i := 704) (by decide +kernel), List.mem_of_getElem? (i := 916) (by decide +kernel), List.mem_of_getElem? (i := 917) (by decide +kernel)⟩
def lw_privs_3 : List (MethodName × Nat) := [(⟨"DrawnFieldsModel", "isField", "(I)Z"⟩, 22), (⟨"DrawnFieldsModel", "doWeighs", "(III)I"⟩, 22), (⟨"DrawnFieldsModel", "ofField", "(II)I"⟩, 22), (⟨"DrawnFieldsModel", "doRound", "(II)I"⟩, 22), (⟨"DrawnFieldsModel", "placeOf", "(I)I"⟩, 22), (⟨"DrawnFieldsModel", "doRule", "(IIIII)I"⟩, 22), (⟨"DrawnFieldsModel", "doDrops", "(I)I"⟩, 22), (⟨"DrawnFieldsModel", "isRule", "(I)Z"⟩, 22), (⟨"DrawnFieldsModel", "ofAll", "(II)I"⟩, 22), (⟨"DrawnFieldsModel", "aboutRule", "(II)I"⟩, 22), (⟨"DrawnFieldsModel", "ofRule", "(II)I"⟩, 22), (⟨"DrawnFieldsModel", "lay", "()V"⟩, 22), (⟨"DrawnFieldsModel", "first", "()I"⟩, 22), (⟨"DrawnFieldsModel", "fields", "()I"⟩, 22), (⟨"DrawnFieldsModel", "keptBy", "(I)I"⟩, 22), (⟨"DrawnFieldsModel", "keeps", "(II)Z"⟩, 22)]
theorem lw_r3 : ∀ q ∈ lw_privs_3, lw_okq q := List.forall_mem_cons.mpr ⟨lw_p32, List.forall_mem_cons.mpr ⟨lw_p33, List.forall_mem_cons.mpr ⟨lw_p34, List.forall_mem_cons.mpr ⟨lw_p35, List.forall_mem_cons.mpr ⟨lw_p36, List.forall_mem_cons.mpr ⟨lw_p37, List.forall_mem_cons.mpr ⟨lw_p38, List.forall_mem_cons.mpr ⟨lw_p39, List.forall_mem_cons.mpr ⟨lw_p40, List.forall_mem_cons.mpr ⟨lw_p41, List.forall_mem_cons.mpr ⟨lw_p42, List.forall_mem_cons.mpr ⟨lw_p43, List.forall_mem_cons.mpr ⟨lw_p44, List.forall_mem_cons.mpr ⟨lw_p45, List.forall_mem_cons.mpr ⟨lw_p46, List.forall_mem_cons.mpr ⟨lw_p47, fun _ h => absurd h List.not_mem_nil⟩⟩⟩⟩⟩⟩⟩⟩⟩⟩⟩⟩⟩⟩⟩⟩
theorem lw_p48 : lw_okq (⟨"DrawnFieldsModel", "valueOf", "(II)I"⟩, 22) := ⟨⟨by decide +kernel, by decide +kernel⟩, List.mem_of_getElem? (i := 704) (by decide +kernel), List.mem_of_getElem? (i := 920) (by decide +kernel), List.mem_of_getElem? (i := 921) (by decide +kernel)⟩
theorem lw_p49 : lw_okq (⟨"DrawnFieldsModel", "next", "(I)I"⟩, 22) := ⟨⟨by decide +kernel, by decide +kernel⟩, List.mem_of_getElem? (i := 704) (by decide +kernel), List.mem_of_getElem? (i := 927) (by decide +kernel), List.mem_of_getElem? (i := 928) (by decide +kernel)⟩
theorem lw_p50 : lw_okq (⟨"DrawnFieldsModel", "lookAtSoft", "()V"⟩, 22) := ⟨⟨by decide +kernel, by decide +kernel⟩, List.mem_of_getElem? (i := 704) (by decide +kernel), List.mem_of_getElem? (i := 931) (by decide +kernel), List.mem_of_getElem? (i := 932) (by decide +kernel)⟩
theorem lw_p51 : lw_okq (⟨"DrawnFieldsModel", "hard", "()I"⟩, 22) := ⟨⟨by decide +kernel, by decide +kernel⟩, List.mem_of_getElem? (i := 704) (by decide +kernel), List.mem_of_getElem? (i := 935) (by decide +kernel), List.mem_of_getElem? (i := 936) (by decide +kernel)⟩
theorem lw_p52 : lw_okq (⟨"DrawnFieldsModel", "isSome", "(I)Z"⟩, 22) := ⟨⟨by decide +kernel, by decide +kernel⟩, List.mem_of_getElem? (i := 704) (by decide +kernel), List.mem_of_getElem? (i := 939) (by decide +kernel), List.mem_of_getElem? (i := 940) (by decide +kernel)⟩
theorem lw_p53 : lw_okq (⟨"DrawnFieldsModel", "heavyOf", "(II)I"⟩, 22) := ⟨⟨by decide +kernel, by decide +kernel⟩, List.mem_of_getElem? (i := 704) (by decide +kernel), List.mem_of_getElem? (i := 955) (by decide +kernel), List.mem_of_getElem? (i := 956) (by decide +kernel)⟩
theorem lw_p54 : lw_okq (⟨"DrawnFieldsModel", "weightOf", "(I)I"⟩, 22) := ⟨⟨by decide +kernel, by decide +kernel⟩, List.mem_of_getElem? (i := 704) (by decide +kernel), List.mem_of_getElem? (i := 959) (by decide +kernel), List.mem_of_getElem? (i := 960) (by decide +kernel)⟩
theorem lw_p55 : lw_okq (⟨"DrawnFieldsModel", "sumsOf", "(I)I"⟩, 22) := ⟨⟨by decide +kernel, by decide +kernel⟩, List.mem_of_getElem? (i := 704) (by decide +kernel), List.mem_of_getElem? (i := 967) (by decide +kernel), List.mem_of_getElem? (i := 968) (by decide +kernel)⟩
theorem lw_p56 : lw_okq (⟨"DrawnFieldsModel", "sumOf", "(I)I"⟩, 22) := ⟨⟨by decide +kernel, by decide +kernel⟩, List.mem_of_getElem? (i := 704) (by decide +kernel), List.mem_of_getElem? (i := 971) (by decide +kernel), List.mem_of_getElem? (i := 972) (by decide +kernel)⟩
theorem lw_p57 : lw_okq (⟨"DrawnFieldsModel", "doDraws", "(II)I"⟩, 22) := ⟨⟨by decide +kernel, by decide +kernel⟩, List.mem_of_getElem? (i := 704) (by decide +kernel), List.mem_of_getElem? (i := 991) (by decide +kernel), List.mem_of_getElem? (i := 992) (by decide +kernel)⟩
theorem lw_p58 : lw_okq (⟨"DrawnFieldsModel", "takeTogether", "()I"⟩, 22) := ⟨⟨by decide +kernel, by decide +kernel⟩, List.mem_of_getElem? (i := 704) (by decide +kernel), List.mem_of_getElem? (i := 996) (by decide +kernel), List.mem_of_getElem? (i := 997) (by decide +kernel)⟩
theorem lw_p59 : lw_okq (⟨"DrawnFieldsModel", "valuesOf", "(I)I"⟩, 22) := ⟨⟨by decide +kernel, by decide +kernel⟩, List.mem_of_getElem? (i := 704) (by decide +kernel), List.mem_of_getElem? (i := 1000) (by decide +kernel), List.mem_of_getElem? (i := 1001) (by decide +kernel)⟩
theorem lw_p60 : lw_okq (⟨"DrawnFieldsModel", "limit", "(II)V"⟩, 22) := ⟨⟨by decide +kernel, by decide +kernel⟩, List.mem_of_getElem? (i := 704) (by decide +kernel), List.mem_of_getElem? (i := 1004) (by decide +kernel), List.mem_of_getElem? (i := 1005) (by decide +kernel)⟩
theorem lw_p61 : lw_okq (⟨"DrawnFieldsModel", "drawBy", "(I)I"⟩, 22) := ⟨⟨by decide +kernel, by decide +kernel⟩, List.mem_of_getElem? (i := 704) (by decide +kernel), List.mem_of_getElem? (i := 1008) (by decide +kernel), List.mem_of_getElem? (i := 1009) (by decide +kernel)⟩
theorem lw_p62 : lw_okq (⟨"DrawnFieldsModel", "takeInOrder", "()I"⟩, 22) := ⟨⟨by decide +kernel, by decide +kernel⟩, List.mem_of_getElem? (i := 704) (by decide +kernel), List.mem_of_getElem? (i := 1016) (by decide +kernel), List.mem_of_getElem? (i := 1017) (by decide +kernel)⟩
theorem lw_p63 : lw_okq (⟨"DrawnFieldsModel", "valueDrawn", "(II)I"⟩, 22) := ⟨⟨by decide +kernel, by decide +kernel⟩, List.mem_of_getElem? (i := 704) (by decide +kernel), List.mem_of_getElem? (i := 1020) (by decide +kernel), List.mem_of_getElem? (i := 1021) (by decide +kernel)⟩
def lw_privs_4 : List (MethodName × Nat) := [(⟨"DrawnFieldsModel", "valueOf", "(II)I"⟩, 22), (⟨"DrawnFieldsModel", "next", "(I)I"⟩, 22), (⟨"DrawnFieldsModel", "lookAtSoft", "()V"⟩, 22), (⟨"DrawnFieldsModel", "hard", "()I"⟩, 22), (⟨"DrawnFieldsModel", "isSome", "(I)Z"⟩, 22), (⟨"DrawnFieldsModel", "heavyOf", "(II)I"⟩, 22), (⟨"DrawnFieldsModel", "weightOf", "(I)I"⟩, 22), (⟨"DrawnFieldsModel", "sumsOf", "(I)I"⟩, 22), (⟨"DrawnFieldsModel", "sumOf", "(I)I"⟩, 22), (⟨"DrawnFieldsModel", "doDraws", "(II)I"⟩, 22), (⟨"DrawnFieldsModel", "takeTogether", "()I"⟩, 22), (⟨"DrawnFieldsModel", "valuesOf", "(I)I"⟩, 22), (⟨"DrawnFieldsModel", "limit", "(II)V"⟩, 22), (⟨"DrawnFieldsModel", "drawBy", "(I)I"⟩, 22), (⟨"DrawnFieldsModel", "takeInOrder", "()I"⟩, 22), (⟨"DrawnFieldsModel", "valueDrawn", "(II)I"⟩, 22)]
theorem lw_r4 : ∀ q ∈ lw_privs_4, lw_okq q := List.forall_mem_cons.mpr ⟨lw_p48, List.forall_mem_cons.mpr ⟨lw_p49, List.forall_mem_cons.mpr ⟨lw_p50, List.forall_mem_cons.mpr ⟨lw_p51, List.forall_mem_cons.mpr ⟨lw_p52, List.forall_mem_cons.mpr ⟨lw_p53, List.forall_mem_cons.mpr ⟨lw_p54, List.forall_mem_cons.mpr ⟨lw_p55, List.forall_mem_cons.mpr ⟨lw_p56, List.forall_mem_cons.mpr ⟨lw_p57, List.forall_mem_cons.mpr ⟨lw_p58, List.forall_mem_cons.mpr ⟨lw_p59, List.forall_mem_cons.mpr ⟨lw_p60, List.forall_mem_cons.mpr ⟨lw_p61, List.forall_mem_cons.mpr ⟨lw_p62, List.forall_mem_cons.mpr ⟨lw_p63, fun _ h => absurd h List.not_mem_nil⟩⟩⟩⟩⟩⟩⟩⟩⟩⟩⟩⟩⟩⟩⟩⟩
theorem lw_p64 : lw_okq (⟨"DrawnFieldsModel", "here", "()I"⟩, 22) := ⟨⟨by decide +kernel, by decide +kernel⟩, List.mem_of_getElem? (i := 704) (by decide +kernel), List.mem_of_getElem? (i := 1040) (by decide +kernel), List.mem_of_getElem? (i := 1041) (by decide +kernel)⟩
theorem lw_p65 : lw_okq (⟨"DrawnFieldsModel", "must", "(Z)V"⟩, 22) := ⟨⟨by decide +kernel, by decide +kernel⟩, List.mem_of_getElem? (i := 704) (by decide +kernel), List.mem_of_getElem? (i := 1044) (by decide +kernel), List.mem_of_getElem? (i := 1045) (by decide +kernel)⟩
theorem lw_p66 : lw_okq (⟨"DrawnFieldsModel", "readOrder", "()V"⟩, 22) := ⟨⟨by decide +kernel, by decide +kernel⟩, List.mem_of_getElem? (i := 704) (by decide +kernel), List.mem_of_getElem? (i := 1048) (by decide +kernel), List.mem_of_getElem? (i := 1049) (by decide +kernel)⟩
theorem lw_p67 : lw_okq (⟨"DrawnFieldsModel", "number", "()I"⟩, 22) := ⟨⟨by decide +kernel, by decide +kernel⟩, List.mem_of_getElem? (i := 704) (by decide +kernel), List.mem_of_getElem? (i := 1055) (by decide +kernel), List.mem_of_getElem? (i := 1056) (by decide +kernel)⟩
theorem lw_p68 : lw_okq (⟨"DrawnFieldsModel", "isFigure", "()Z"⟩, 22) := ⟨⟨by decide +kernel, by decide +kernel⟩, List.mem_of_getElem? (i := 704) (by decide +kernel), List.mem_of_getElem? (i := 1059) (by decide +kernel), List.mem_of_getElem? (i := 1060) (by decide +kernel)⟩
theorem lw_p69 : lw_okq (⟨"DrawnFieldsModel", "doOrder", "(I)I"⟩, 22) := ⟨⟨by decide +kernel, by decide +kernel⟩, List.mem_of_getElem? (i := 704) (by decide +kernel), List.mem_of_getElem? (i := 1063) (by decide +kernel), List.mem_of_getElem? (i := 1064) (by decide +kernel)⟩
theorem lw_p70 : lw_okq (⟨"DrawnFieldsModel", "toldOf", "(I)I"⟩, 22) := ⟨⟨by decide +kernel, by decide +kernel⟩, List.mem_of_getElem? (i := 704) (by decide +kernel), List.mem_of_getElem? (i := 1071) (by decide +kernel), List.mem_of_getElem? (i := 1072) (by decide +kernel)⟩
theorem lw_p71 : lw_okq (⟨"DrawnFieldsModel", "mix", "(I)V"⟩, 22) := ⟨⟨by decide +kernel, by decide +kernel⟩, List.mem_of_getElem? (i := 704) (by decide +kernel), List.mem_of_getElem? (i := 1080) (by decide +kernel), List.mem_of_getElem? (i := 1081) (by decide +kernel)⟩
def lw_privs_5 : List (MethodName × Nat) := [(⟨"DrawnFieldsModel", "here", "()I"⟩, 22), (⟨"DrawnFieldsModel", "must", "(Z)V"⟩, 22), (⟨"DrawnFieldsModel", "readOrder", "()V"⟩, 22), (⟨"DrawnFieldsModel", "number", "()I"⟩, 22), (⟨"DrawnFieldsModel", "isFigure", "()Z"⟩, 22), (⟨"DrawnFieldsModel", "doOrder", "(I)I"⟩, 22), (⟨"DrawnFieldsModel", "toldOf", "(I)I"⟩, 22), (⟨"DrawnFieldsModel", "mix", "(I)V"⟩, 22)]
theorem lw_r5 : ∀ q ∈ lw_privs_5, lw_okq q := List.forall_mem_cons.mpr ⟨lw_p64, List.forall_mem_cons.mpr ⟨lw_p65, List.forall_mem_cons.mpr ⟨lw_p66, List.forall_mem_cons.mpr ⟨lw_p67, List.forall_mem_cons.mpr ⟨lw_p68, List.forall_mem_cons.mpr ⟨lw_p69, List.forall_mem_cons.mpr ⟨lw_p70, List.forall_mem_cons.mpr ⟨lw_p71, fun _ h => absurd h List.not_mem_nil⟩⟩⟩⟩⟩⟩⟩⟩
def lw_privs : List (MethodName × Nat) := lw_privs_1 ++ (lw_privs_2 ++ (lw_privs_3 ++ (lw_privs_4 ++ (lw_privs_5))))
def lw_tbl : List Cond := k2_sels lw_privs ++ tables_1
theorem lw_privs_ok : ∀ q ∈ lw_privs, lw_okq q := by
  show ∀ q ∈ lw_privs_1 ++ (lw_privs_2 ++ (lw_privs_3 ++ (lw_privs_4 ++ (lw_privs_5)))), lw_okq q
  exact List.forall_mem_append.mpr ⟨lw_r1, List.forall_mem_append.mpr ⟨lw_r2, List.forall_mem_append.mpr ⟨lw_r3, List.forall_mem_append.mpr ⟨lw_r4, lw_r5⟩⟩⟩⟩

/-! ===== BEGIN words of one list among another's, by their places ===== -/
theorem goodIn_r {big : List Cond} (ws : List Cond) (ps : List Nat) (hp : ws = ps.filterMap (fun i => big[i]?)) (h : ws.all goodWord = true) : GoodIn big ws := by
  intro w hw
  have h1 := List.all_eq_true.mp h w hw
  rw [hp] at hw
  obtain ⟨i, -, hi⟩ := List.mem_filterMap.mp hw
  have hm : w ∈ big := by first | exact List.mem_of_getElem? hi | exact List.getElem?_mem hi
  exact ⟨hm, good_of_word h1⟩
theorem goodIn_app {big a b : List Cond} (ha : GoodIn big a) (hb : GoodIn big b) : GoodIn big (a ++ b) := fun w h => (List.mem_append.mp h).elim (ha w) (hb w)
theorem goodIn_ca {big a b : List Cond} {c : Cond} (ha : GoodIn big (c :: a)) (hb : GoodIn big b) : GoodIn big (c :: (a ++ b)) := fun w h => (List.mem_cons.mp h).elim (fun e => ha w (List.mem_cons.mpr (Or.inl e))) (fun h => (List.mem_append.mp h).elim (fun h => ha w (List.mem_cons.mpr (Or.inr h))) (hb w))
theorem goodIn_sub {big ws : List Cond} (hm : ∀ w ∈ ws, w ∈ big) (h : ws.all goodWord = true) : GoodIn big ws := fun w hw => ⟨hm w hw, good_of_word (List.all_eq_true.mp h w hw)⟩
/-! ===== END ===== -/

/-! ===== BEGIN printed: names, fields, word lists, decode rows ===== -/
def RX0 : String := "DrawnFields$Drawer"
def TX0 : u_T := fun k => match k with
  | 0 => ("DrawnFields$Drawer", "mayBe", "LDrawnFields$RowSet;", true)
  | _ => ("DrawnFields$Drawer", "x", "J", false)
def tyX0 : Nat → FieldType := fun k => match k with
  | 0 => .object "DrawnFields$RowSet"
  | _ => .long
abbrev wsX00 : List Cond := u_ws RX0 TX0 2
theorem nmX0 : ∀ a, a < 2 → ∀ b, b < 2 → a ≠ b → (TX0 a).2.1 ≠ (TX0 b).2.1 := by decide +kernel
theorem tyX0_ok : ∀ k, k < 2 → parseFieldDescriptor (TX0 k).2.2.1 = some (tyX0 k) := by decide +kernel
abbrev cX0_init : ByteArray := prog_2_method_1_code
def yX0_init : MethodName := ⟨RX0, "<init>", "()V"⟩
abbrev cX0_begin : ByteArray := prog_2_method_2_code
def yX0_begin : MethodName := ⟨RX0, "begin", "(LDrawnFields$RowSet;I)V"⟩
abbrev cX0_drawTogether : ByteArray := prog_2_method_3_code
def yX0_drawTogether : MethodName := ⟨RX0, "drawTogether", "(LDrawnFields$State;)I"⟩
abbrev cX0_rowOfWord : ByteArray := prog_2_method_4_code
def yX0_rowOfWord : MethodName := ⟨RX0, "rowOfWord", "(LDrawnFields$State;IIZ)I"⟩
abbrev cX0_drawInOrder : ByteArray := prog_2_method_5_code
def yX0_drawInOrder : MethodName := ⟨RX0, "drawInOrder", "(LDrawnFields$State;)I"⟩
abbrev cX0_takeValue : ByteArray := prog_2_method_6_code
def yX0_takeValue : MethodName := ⟨RX0, "takeValue", "(LDrawnFields$Field;I)I"⟩
abbrev cX0_chanceBelow : ByteArray := prog_2_method_7_code
def yX0_chanceBelow : MethodName := ⟨RX0, "chanceBelow", "(I)I"⟩
def RX1 : String := "DrawnFields$Field"
def TX1 : u_T := fun k => match k with
  | 0 => ("DrawnFields$Field", "low", "I", false)
  | 1 => ("DrawnFields$Field", "high", "I", false)
  | 2 => ("DrawnFields$Field", "round", "I", false)
  | 3 => ("DrawnFields$Field", "turn", "I", false)
  | _ => ("DrawnFields$Field", "weights", "[I", true)
def tyX1 : Nat → FieldType := fun k => match k with
  | 0 => .int
  | 1 => .int
  | 2 => .int
  | 3 => .int
  | _ => .array .int
abbrev wsX10 : List Cond := u_ws RX1 TX1 5
theorem nmX1 : ∀ a, a < 5 → ∀ b, b < 5 → a ≠ b → (TX1 a).2.1 ≠ (TX1 b).2.1 := by decide +kernel
theorem tyX1_ok : ∀ k, k < 5 → parseFieldDescriptor (TX1 k).2.2.1 = some (tyX1 k) := by decide +kernel
abbrev cX1_init : ByteArray := prog_3_method_1_code
def yX1_init : MethodName := ⟨RX1, "<init>", "()V"⟩
abbrev cX1_begin : ByteArray := prog_3_method_2_code
def yX1_begin : MethodName := ⟨RX1, "begin", "(II)V"⟩
abbrev cX1_becomes : ByteArray := prog_3_method_3_code
def yX1_becomes : MethodName := ⟨RX1, "becomes", "(LDrawnFields$Field;)V"⟩
abbrev cX1_valueBits : ByteArray := prog_3_method_4_code
def yX1_valueBits : MethodName := ⟨RX1, "valueBits", "()I"⟩
abbrev cX1_inTurn : ByteArray := prog_3_method_5_code
def yX1_inTurn : MethodName := ⟨RX1, "inTurn", "(I)I"⟩
abbrev cX1_weightOfValues : ByteArray := prog_3_method_6_code
def yX1_weightOfValues : MethodName := ⟨RX1, "weightOfValues", "(I)I"⟩
def RX2 : String := "DrawnFields$Law"
def TX2 : u_T := fun k => match k with
  | 0 => ("DrawnFields$Law", "lawful", "LDrawnFields$RowSet;", true)
  | 1 => ("DrawnFields$Law", "keptRules", "I", false)
  | 2 => ("DrawnFields$Law", "coreRules", "I", false)
  | 3 => ("DrawnFields$Law", "inRanges", "LDrawnFields$RowSet;", true)
  | _ => ("DrawnFields$Law", "keepers", "[LDrawnFields$RowSet;", true)
def tyX2 : Nat → FieldType := fun k => match k with
  | 0 => .object "DrawnFields$RowSet"
  | 1 => .int
  | 2 => .int
  | 3 => .object "DrawnFields$RowSet"
  | _ => .array (.object "DrawnFields$RowSet")
abbrev wsX20 : List Cond := u_ws RX2 TX2 5
theorem nmX2 : ∀ a, a < 5 → ∀ b, b < 5 → a ≠ b → (TX2 a).2.1 ≠ (TX2 b).2.1 := by decide +kernel
theorem tyX2_ok : ∀ k, k < 5 → parseFieldDescriptor (TX2 k).2.2.1 = some (tyX2 k) := by decide +kernel
abbrev cX2_init : ByteArray := prog_4_method_1_code
def yX2_init : MethodName := ⟨RX2, "<init>", "()V"⟩
abbrev cX2_look : ByteArray := prog_4_method_2_code
def yX2_look : MethodName := ⟨RX2, "look", "(LDrawnFields$State;)V"⟩
abbrev cX2_withSoft : ByteArray := prog_4_method_3_code
def yX2_withSoft : MethodName := ⟨RX2, "withSoft", "(LDrawnFields$State;I)I"⟩
abbrev cX2_leastUnkept : ByteArray := prog_4_method_4_code
def yX2_leastUnkept : MethodName := ⟨RX2, "leastUnkept", "(I)I"⟩
abbrev cX2_someRowKeeps : ByteArray := prog_4_method_5_code
def yX2_someRowKeeps : MethodName := ⟨RX2, "someRowKeeps", "(I)Z"⟩
def RX3 : String := "DrawnFields$Past"
def TX3 : u_T := fun k => match k with
  | 0 => ("DrawnFields$Past", "count", "I", false)
  | _ => ("DrawnFields$Past", "slots", "[LDrawnFields$State;", true)
def tyX3 : Nat → FieldType := fun k => match k with
  | 0 => .int
  | _ => .array (.object "DrawnFields$State")
abbrev wsX30 : List Cond := u_ws RX3 TX3 2
theorem nmX3 : ∀ a, a < 2 → ∀ b, b < 2 → a ≠ b → (TX3 a).2.1 ≠ (TX3 b).2.1 := by decide +kernel
theorem tyX3_ok : ∀ k, k < 2 → parseFieldDescriptor (TX3 k).2.2.1 = some (tyX3 k) := by decide +kernel
abbrev cX3_init : ByteArray := prog_5_method_1_code
def yX3_init : MethodName := ⟨RX3, "<init>", "()V"⟩
abbrev cX3_mark : ByteArray := prog_5_method_2_code
def yX3_mark : MethodName := ⟨RX3, "mark", "(LDrawnFields$State;)V"⟩
abbrev cX3_keepMark : ByteArray := prog_5_method_3_code
def yX3_keepMark : MethodName := ⟨RX3, "keepMark", "()V"⟩
abbrev cX3_restore : ByteArray := prog_5_method_4_code
def yX3_restore : MethodName := ⟨RX3, "restore", "(LDrawnFields$State;)I"⟩
def RX4 : String := "DrawnFields$RowSet"
def TX4 : u_T := fun k => match k with
  | _ => ("DrawnFields$RowSet", "words", "[J", true)
def tyX4 : Nat → FieldType := fun k => match k with
  | _ => .array .long
abbrev wsX40 : List Cond := u_ws RX4 TX4 1
theorem nmX4 : ∀ a, a < 1 → ∀ b, b < 1 → a ≠ b → (TX4 a).2.1 ≠ (TX4 b).2.1 := by decide +kernel
theorem tyX4_ok : ∀ k, k < 1 → parseFieldDescriptor (TX4 k).2.2.1 = some (tyX4 k) := by decide +kernel
abbrev cX4_init : ByteArray := prog_6_method_1_code
def yX4_init : MethodName := ⟨RX4, "<init>", "()V"⟩
abbrev cX4_wordValue : ByteArray := prog_6_method_2_code
def yX4_wordValue : MethodName := ⟨RX4, "wordValue", "(II)I"⟩
abbrev cX4_hasWord : ByteArray := prog_6_method_3_code
def yX4_hasWord : MethodName := ⟨RX4, "hasWord", "(III)Z"⟩
abbrev cX4_withinWord : ByteArray := prog_6_method_4_code
def yX4_withinWord : MethodName := ⟨RX4, "withinWord", "(II)J"⟩
abbrev cX4_becomes : ByteArray := prog_6_method_5_code
def yX4_becomes : MethodName := ⟨RX4, "becomes", "(LDrawnFields$RowSet;)V"⟩
abbrev cX4_becomesAll : ByteArray := prog_6_method_6_code
def yX4_becomesAll : MethodName := ⟨RX4, "becomesAll", "()V"⟩
abbrev cX4_becomesKeepersOf : ByteArray := prog_6_method_7_code
def yX4_becomesKeepersOf : MethodName := ⟨RX4, "becomesKeepersOf", "(LDrawnFields$Rule;)V"⟩
abbrev cX4_keepRowsOf : ByteArray := prog_6_method_8_code
def yX4_keepRowsOf : MethodName := ⟨RX4, "keepRowsOf", "(LDrawnFields$RowSet;)V"⟩
abbrev cX4_keepValues : ByteArray := prog_6_method_9_code
def yX4_keepValues : MethodName := ⟨RX4, "keepValues", "(II)V"⟩
abbrev cX4_isEmpty : ByteArray := prog_6_method_10_code
def yX4_isEmpty : MethodName := ⟨RX4, "isEmpty", "()Z"⟩
abbrev cX4_size : ByteArray := prog_6_method_11_code
def yX4_size : MethodName := ⟨RX4, "size", "()I"⟩
abbrev cX4_valuesAt : ByteArray := prog_6_method_12_code
def yX4_valuesAt : MethodName := ⟨RX4, "valuesAt", "(I)I"⟩
abbrev cX4_valuesWithin : ByteArray := prog_6_method_13_code
def yX4_valuesWithin : MethodName := ⟨RX4, "valuesWithin", "(JI)I"⟩
abbrev cX4_codeAt : ByteArray := prog_6_method_14_code
def yX4_codeAt : MethodName := ⟨RX4, "codeAt", "(I)I"⟩
abbrev cX4_bitAt : ByteArray := prog_6_method_15_code
def yX4_bitAt : MethodName := ⟨RX4, "bitAt", "(JI)I"⟩
abbrev cX4_countAhead : ByteArray := prog_6_method_16_code
def yX4_countAhead : MethodName := ⟨RX4, "countAhead", "(I)I"⟩
abbrev cX4_countBySum : ByteArray := prog_6_method_17_code
def yX4_countBySum : MethodName := ⟨RX4, "countBySum", "([I)V"⟩
def RX5 : String := "DrawnFields$Rule"
def TX5 : u_T := fun k => match k with
  | 0 => ("DrawnFields$Rule", "kind", "I", false)
  | 1 => ("DrawnFields$Rule", "x", "I", false)
  | 2 => ("DrawnFields$Rule", "y", "I", false)
  | 3 => ("DrawnFields$Rule", "c", "I", false)
  | _ => ("DrawnFields$Rule", "rank", "I", false)
def tyX5 : Nat → FieldType := fun k => match k with
  | 0 => .int
  | 1 => .int
  | 2 => .int
  | 3 => .int
  | _ => .int
abbrev wsX50 : List Cond := u_ws RX5 TX5 5
theorem nmX5 : ∀ a, a < 5 → ∀ b, b < 5 → a ≠ b → (TX5 a).2.1 ≠ (TX5 b).2.1 := by decide +kernel
theorem tyX5_ok : ∀ k, k < 5 → parseFieldDescriptor (TX5 k).2.2.1 = some (tyX5 k) := by decide +kernel
abbrev cX5_init : ByteArray := prog_7_method_1_code
def yX5_init : MethodName := ⟨RX5, "<init>", "()V"⟩
abbrev cX5_becomes : ByteArray := prog_7_method_2_code
def yX5_becomes : MethodName := ⟨RX5, "becomes", "(LDrawnFields$Rule;)V"⟩
abbrev cX5_isKeptBy : ByteArray := prog_7_method_3_code
def yX5_isKeptBy : MethodName := ⟨RX5, "isKeptBy", "(II)Z"⟩
abbrev cX5_partnersOf : ByteArray := prog_7_method_4_code
def yX5_partnersOf : MethodName := ⟨RX5, "partnersOf", "(I)I"⟩
def RX6 : String := "DrawnFields$State"
def TX6 : u_T := fun k => match k with
  | 0 => ("DrawnFields$State", "fieldCount", "I", false)
  | 1 => ("DrawnFields$State", "fields", "[LDrawnFields$Field;", true)
  | 2 => ("DrawnFields$State", "order", "[I", true)
  | 3 => ("DrawnFields$State", "ruleCount", "I", false)
  | 4 => ("DrawnFields$State", "rules", "[LDrawnFields$Rule;", true)
  | 5 => ("DrawnFields$State", "now", "I", false)
  | 6 => ("DrawnFields$State", "unlikeCount", "I", false)
  | 7 => ("DrawnFields$State", "unlike", "[I", true)
  | _ => ("DrawnFields$State", "lawKnown", "Z", false)
def tyX6 : Nat → FieldType := fun k => match k with
  | 0 => .int
  | 1 => .array (.object "DrawnFields$Field")
  | 2 => .array .int
  | 3 => .int
  | 4 => .array (.object "DrawnFields$Rule")
  | 5 => .int
  | 6 => .int
  | 7 => .array .int
  | _ => .boolean
abbrev wsX60 : List Cond := u_ws RX6 TX6 9
theorem nmX6 : ∀ a, a < 9 → ∀ b, b < 9 → a ≠ b → (TX6 a).2.1 ≠ (TX6 b).2.1 := by decide +kernel
theorem tyX6_ok : ∀ k, k < 9 → parseFieldDescriptor (TX6 k).2.2.1 = some (tyX6 k) := by decide +kernel
abbrev cX6_init : ByteArray := prog_8_method_1_code
def yX6_init : MethodName := ⟨RX6, "<init>", "()V"⟩
abbrev cX6_becomes : ByteArray := prog_8_method_2_code
def yX6_becomes : MethodName := ⟨RX6, "becomes", "(LDrawnFields$State;)V"⟩
abbrev cX6_hasField : ByteArray := prog_8_method_3_code
def yX6_hasField : MethodName := ⟨RX6, "hasField", "(I)Z"⟩
abbrev cX6_hasRule : ByteArray := prog_8_method_4_code
def yX6_hasRule : MethodName := ⟨RX6, "hasRule", "(I)Z"⟩
abbrev cX6_isRule : ByteArray := prog_8_method_5_code
def yX6_isRule : MethodName := ⟨RX6, "isRule", "(IIII)Z"⟩
abbrev cX6_addField : ByteArray := prog_8_method_6_code
def yX6_addField : MethodName := ⟨RX6, "addField", "(II)I"⟩
abbrev cX6_addRule : ByteArray := prog_8_method_7_code
def yX6_addRule : MethodName := ⟨RX6, "addRule", "(IIIII)I"⟩
abbrev cX6_dropRule : ByteArray := prog_8_method_8_code
def yX6_dropRule : MethodName := ⟨RX6, "dropRule", "(I)I"⟩
abbrev cX6_emptyDrawn : ByteArray := prog_8_method_9_code
def yX6_emptyDrawn : MethodName := ⟨RX6, "emptyDrawn", "()V"⟩
abbrev cX6_placeInOrder : ByteArray := prog_8_method_10_code
def yX6_placeInOrder : MethodName := ⟨RX6, "placeInOrder", "(I)I"⟩
abbrev cX6_moveInOrder : ByteArray := prog_8_method_11_code
def yX6_moveInOrder : MethodName := ⟨RX6, "moveInOrder", "(II)I"⟩
abbrev cX6_factOfField : ByteArray := prog_8_method_12_code
def yX6_factOfField : MethodName := ⟨RX6, "factOfField", "(II)I"⟩
abbrev cX6_noteDraw : ByteArray := prog_8_method_13_code
def yX6_noteDraw : MethodName := ⟨RX6, "noteDraw", "(I)V"⟩
abbrev cX6_weightOfRow : ByteArray := prog_8_method_14_code
def yX6_weightOfRow : MethodName := ⟨RX6, "weightOfRow", "(I)I"⟩
abbrev cX6_weightOfRows : ByteArray := prog_8_method_15_code
def yX6_weightOfRows : MethodName := ⟨RX6, "weightOfRows", "(LDrawnFields$RowSet;)I"⟩
abbrev cX6_weightOfWord : ByteArray := prog_8_method_16_code
def yX6_weightOfWord : MethodName := ⟨RX6, "weightOfWord", "(IJ)I"⟩
def RX7 : String := "DrawnFields$Text"
def TX7 : u_T := fun k => match k with
  | 0 => ("DrawnFields$Text", "length", "I", false)
  | 1 => ("DrawnFields$Text", "at", "I", false)
  | 2 => ("DrawnFields$Text", "letter", "I", false)
  | 3 => ("DrawnFields$Text", "numbers", "[I", true)
  | _ => ("DrawnFields$Text", "bytes", "[I", true)
def tyX7 : Nat → FieldType := fun k => match k with
  | 0 => .int
  | 1 => .int
  | 2 => .int
  | 3 => .array .int
  | _ => .array .int
abbrev wsX70 : List Cond := u_ws RX7 TX7 5
theorem nmX7 : ∀ a, a < 5 → ∀ b, b < 5 → a ≠ b → (TX7 a).2.1 ≠ (TX7 b).2.1 := by decide +kernel
theorem tyX7_ok : ∀ k, k < 5 → parseFieldDescriptor (TX7 k).2.2.1 = some (tyX7 k) := by decide +kernel
abbrev cX7_init : ByteArray := prog_9_method_1_code
def yX7_init : MethodName := ⟨RX7, "<init>", "()V"⟩
abbrev cX7_add : ByteArray := prog_9_method_2_code
def yX7_add : MethodName := ⟨RX7, "add", "(I)I"⟩
abbrev cX7_findFault : ByteArray := prog_9_method_3_code
def yX7_findFault : MethodName := ⟨RX7, "findFault", "()I"⟩
abbrev cX7_readOrder : ByteArray := prog_9_method_4_code
def yX7_readOrder : MethodName := ⟨RX7, "readOrder", "()Z"⟩
abbrev cX7_numbersBehind : ByteArray := prog_9_method_5_code
def yX7_numbersBehind : MethodName := ⟨RX7, "numbersBehind", "(I)I"⟩
abbrev cX7_readNumber : ByteArray := prog_9_method_6_code
def yX7_readNumber : MethodName := ⟨RX7, "readNumber", "(I)Z"⟩
abbrev cX7_isFigure : ByteArray := prog_9_method_7_code
def yX7_isFigure : MethodName := ⟨RX7, "isFigure", "()Z"⟩
abbrev cX7_skipBlanks : ByteArray := prog_9_method_8_code
def yX7_skipBlanks : MethodName := ⟨RX7, "skipBlanks", "()V"⟩
def RX8 : String := "DrawnFields"
def TX8 : u_T := fun k => match k with
  | 0 => ("DrawnFields", "state", "LDrawnFields$State;", true)
  | 1 => ("DrawnFields", "past", "LDrawnFields$Past;", true)
  | 2 => ("DrawnFields", "law", "LDrawnFields$Law;", true)
  | 3 => ("DrawnFields", "drawer", "LDrawnFields$Drawer;", true)
  | 4 => ("DrawnFields", "picked", "LDrawnFields$RowSet;", true)
  | 5 => ("DrawnFields", "text", "LDrawnFields$Text;", true)
  | 6 => ("DrawnFields", "refusals", "[I", true)
  | _ => ("DrawnFields", "rowsBySum", "[I", true)
def tyX8 : Nat → FieldType := fun k => match k with
  | 0 => .object "DrawnFields$State"
  | 1 => .object "DrawnFields$Past"
  | 2 => .object "DrawnFields$Law"
  | 3 => .object "DrawnFields$Drawer"
  | 4 => .object "DrawnFields$RowSet"
  | 5 => .object "DrawnFields$Text"
  | 6 => .array .int
  | _ => .array .int
abbrev wsX80 : List Cond := u_ws RX8 TX8 8
theorem nmX8 : ∀ a, a < 8 → ∀ b, b < 8 → a ≠ b → (TX8 a).2.1 ≠ (TX8 b).2.1 := by decide +kernel
theorem tyX8_ok : ∀ k, k < 8 → parseFieldDescriptor (TX8 k).2.2.1 = some (tyX8 k) := by decide +kernel
abbrev cX8_init : ByteArray := prog_1_method_1_code
def yX8_init : MethodName := ⟨RX8, "<init>", "()V"⟩
abbrev cX8_field : ByteArray := prog_1_method_2_code
def yX8_field : MethodName := ⟨RX8, "field", "(II)I"⟩
abbrev cX8_range : ByteArray := prog_1_method_3_code
def yX8_range : MethodName := ⟨RX8, "range", "(III)I"⟩
abbrev cX8_weighs : ByteArray := prog_1_method_4_code
def yX8_weighs : MethodName := ⟨RX8, "weighs", "(III)I"⟩
abbrev cX8_round : ByteArray := prog_1_method_5_code
def yX8_round : MethodName := ⟨RX8, "round", "(II)I"⟩
abbrev cX8_orders : ByteArray := prog_1_method_6_code
def yX8_orders : MethodName := ⟨RX8, "orders", "(II)I"⟩
abbrev cX8_rule : ByteArray := prog_1_method_7_code
def yX8_rule : MethodName := ⟨RX8, "rule", "(IIIII)I"⟩
abbrev cX8_drops : ByteArray := prog_1_method_8_code
def yX8_drops : MethodName := ⟨RX8, "drops", "(I)I"⟩
abbrev cX8_of : ByteArray := prog_1_method_9_code
def yX8_of : MethodName := ⟨RX8, "of", "(II)I"⟩
abbrev cX8_about : ByteArray := prog_1_method_10_code
def yX8_about : MethodName := ⟨RX8, "about", "(II)I"⟩
abbrev cX8_rows : ByteArray := prog_1_method_11_code
def yX8_rows : MethodName := ⟨RX8, "rows", "()I"⟩
abbrev cX8_row : ByteArray := prog_1_method_12_code
def yX8_row : MethodName := ⟨RX8, "row", "(II)I"⟩
abbrev cX8_heavy : ByteArray := prog_1_method_13_code
def yX8_heavy : MethodName := ⟨RX8, "heavy", "(II)I"⟩
abbrev cX8_sums : ByteArray := prog_1_method_14_code
def yX8_sums : MethodName := ⟨RX8, "sums", "(I)I"⟩
abbrev cX8_sum : ByteArray := prog_1_method_15_code
def yX8_sum : MethodName := ⟨RX8, "sum", "(I)I"⟩
abbrev cX8_soft : ByteArray := prog_1_method_16_code
def yX8_soft : MethodName := ⟨RX8, "soft", "(I)I"⟩
abbrev cX8_core : ByteArray := prog_1_method_17_code
def yX8_core : MethodName := ⟨RX8, "core", "()I"⟩
abbrev cX8_draws : ByteArray := prog_1_method_18_code
def yX8_draws : MethodName := ⟨RX8, "draws", "(II)I"⟩
abbrev cX8_drawn : ByteArray := prog_1_method_19_code
def yX8_drawn : MethodName := ⟨RX8, "drawn", "(II)I"⟩
abbrev cX8_type : ByteArray := prog_1_method_20_code
def yX8_type : MethodName := ⟨RX8, "type", "(I)I"⟩
abbrev cX8_clear : ByteArray := prog_1_method_21_code
def yX8_clear : MethodName := ⟨RX8, "clear", "()I"⟩
abbrev cX8_reads : ByteArray := prog_1_method_22_code
def yX8_reads : MethodName := ⟨RX8, "reads", "()I"⟩
abbrev cX8_back : ByteArray := prog_1_method_23_code
def yX8_back : MethodName := ⟨RX8, "back", "()I"⟩
abbrev cX8_told : ByteArray := prog_1_method_24_code
def yX8_told : MethodName := ⟨RX8, "told", "(I)I"⟩
abbrev cX8_digest : ByteArray := prog_1_method_25_code
def yX8_digest : MethodName := ⟨RX8, "digest", "()J"⟩
abbrev cX8_settled : ByteArray := prog_1_method_26_code
def yX8_settled : MethodName := ⟨RX8, "settled", "(I)I"⟩
abbrev cX8_counted : ByteArray := prog_1_method_27_code
def yX8_counted : MethodName := ⟨RX8, "counted", "(I)I"⟩
abbrev cX8_factOfAll : ByteArray := prog_1_method_28_code
def yX8_factOfAll : MethodName := ⟨RX8, "factOfAll", "(I)I"⟩
abbrev cX8_factOfRule : ByteArray := prog_1_method_29_code
def yX8_factOfRule : MethodName := ⟨RX8, "factOfRule", "(II)I"⟩
abbrev cX8_digestOfField : ByteArray := prog_1_method_30_code
def yX8_digestOfField : MethodName := ⟨RX8, "digestOfField", "(JI)J"⟩
abbrev cX8_digestOfDrawn : ByteArray := prog_1_method_31_code
def yX8_digestOfDrawn : MethodName := ⟨RX8, "digestOfDrawn", "(J)J"⟩
abbrev cX8_valueIn : ByteArray := prog_1_method_32_code
def yX8_valueIn : MethodName := ⟨RX8, "valueIn", "(II)I"⟩
abbrev cX8_isRange : ByteArray := prog_1_method_33_code
def yX8_isRange : MethodName := ⟨RX8, "isRange", "(II)Z"⟩
abbrev cX8_tryField : ByteArray := prog_1_method_34_code
def yX8_tryField : MethodName := ⟨RX8, "tryField", "(II)I"⟩
abbrev cX8_tryRange : ByteArray := prog_1_method_35_code
def yX8_tryRange : MethodName := ⟨RX8, "tryRange", "(III)I"⟩
abbrev cX8_tryWeight : ByteArray := prog_1_method_36_code
def yX8_tryWeight : MethodName := ⟨RX8, "tryWeight", "(III)I"⟩
abbrev cX8_tryRound : ByteArray := prog_1_method_37_code
def yX8_tryRound : MethodName := ⟨RX8, "tryRound", "(II)I"⟩
abbrev cX8_tryPlace : ByteArray := prog_1_method_38_code
def yX8_tryPlace : MethodName := ⟨RX8, "tryPlace", "(II)I"⟩
abbrev cX8_tryRule : ByteArray := prog_1_method_39_code
def yX8_tryRule : MethodName := ⟨RX8, "tryRule", "(IIIII)I"⟩
abbrev cX8_tryDrop : ByteArray := prog_1_method_40_code
def yX8_tryDrop : MethodName := ⟨RX8, "tryDrop", "(I)I"⟩
abbrev cX8_tryDraw : ByteArray := prog_1_method_41_code
def yX8_tryDraw : MethodName := ⟨RX8, "tryDraw", "(II)I"⟩
abbrev cX8_performOrder : ByteArray := prog_1_method_42_code
def yX8_performOrder : MethodName := ⟨RX8, "performOrder", "()I"⟩
def RX9 : String := "DrawnFieldsModel"
def TX9 : u_T := fun k => match k with
  | 0 => ("DrawnFieldsModel", "now", "[I", true)
  | 1 => ("DrawnFieldsModel", "held", "[I", true)
  | 2 => ("DrawnFieldsModel", "past", "[I", true)
  | 3 => ("DrawnFieldsModel", "pasts", "I", false)
  | 4 => ("DrawnFieldsModel", "refused", "[I", true)
  | 5 => ("DrawnFieldsModel", "isLaid", "Z", false)
  | 6 => ("DrawnFieldsModel", "lawful", "[I", true)
  | 7 => ("DrawnFieldsModel", "lawfulMany", "I", false)
  | 8 => ("DrawnFieldsModel", "need", "I", false)
  | 9 => ("DrawnFieldsModel", "some", "[Z", true)
  | 10 => ("DrawnFieldsModel", "looked", "[I", true)
  | 11 => ("DrawnFieldsModel", "lookedMany", "I", false)
  | 12 => ("DrawnFieldsModel", "may", "[Z", true)
  | 13 => ("DrawnFieldsModel", "seed", "J", false)
  | 14 => ("DrawnFieldsModel", "text", "[I", true)
  | 15 => ("DrawnFieldsModel", "typed", "I", false)
  | 16 => ("DrawnFieldsModel", "at", "I", false)
  | 17 => ("DrawnFieldsModel", "fault", "I", false)
  | 18 => ("DrawnFieldsModel", "orders", "I", false)
  | 19 => ("DrawnFieldsModel", "letters", "[I", true)
  | 20 => ("DrawnFieldsModel", "numbers", "[I", true)
  | _ => ("DrawnFieldsModel", "h", "J", false)
def tyX9 : Nat → FieldType := fun k => match k with
  | 0 => .array .int
  | 1 => .array .int
  | 2 => .array .int
  | 3 => .int
  | 4 => .array .int
  | 5 => .boolean
  | 6 => .array .int
  | 7 => .int
  | 8 => .int
  | 9 => .array .boolean
  | 10 => .array .int
  | 11 => .int
  | 12 => .array .boolean
  | 13 => .long
  | 14 => .array .int
  | 15 => .int
  | 16 => .int
  | 17 => .int
  | 18 => .int
  | 19 => .array .int
  | 20 => .array .int
  | _ => .long
abbrev wsX90 : List Cond := u_ws RX9 TX9 22
theorem nmX9 : ∀ a, a < 22 → ∀ b, b < 22 → a ≠ b → (TX9 a).2.1 ≠ (TX9 b).2.1 := by decide +kernel
theorem tyX9_ok : ∀ k, k < 22 → parseFieldDescriptor (TX9 k).2.2.1 = some (tyX9 k) := by decide +kernel
abbrev cX9_init : ByteArray := prog_11_method_1_code
def yX9_init : MethodName := ⟨RX9, "<init>", "()V"⟩
abbrev cX9_in : ByteArray := prog_11_method_2_code
def yX9_in : MethodName := ⟨RX9, "in", "(III)Z"⟩
abbrev cX9_has : ByteArray := prog_11_method_3_code
def yX9_has : MethodName := ⟨RX9, "has", "(II)Z"⟩
abbrev cX9_refuses : ByteArray := prog_11_method_4_code
def yX9_refuses : MethodName := ⟨RX9, "refuses", "(I)I"⟩
abbrev cX9_hold : ByteArray := prog_11_method_5_code
def yX9_hold : MethodName := ⟨RX9, "hold", "()V"⟩
abbrev cX9_push : ByteArray := prog_11_method_6_code
def yX9_push : MethodName := ⟨RX9, "push", "()V"⟩
abbrev cX9_ends : ByteArray := prog_11_method_7_code
def yX9_ends : MethodName := ⟨RX9, "ends", "(I)I"⟩
abbrev cX9_back : ByteArray := prog_11_method_8_code
def yX9_back : MethodName := ⟨RX9, "back", "()I"⟩
abbrev cX9_fields : ByteArray := prog_11_method_9_code
def yX9_fields : MethodName := ⟨RX9, "fields", "()I"⟩
abbrev cX9_isField : ByteArray := prog_11_method_10_code
def yX9_isField : MethodName := ⟨RX9, "isField", "(I)Z"⟩
abbrev cX9_isRule : ByteArray := prog_11_method_11_code
def yX9_isRule : MethodName := ⟨RX9, "isRule", "(I)Z"⟩
abbrev cX9_ofField : ByteArray := prog_11_method_12_code
def yX9_ofField : MethodName := ⟨RX9, "ofField", "(II)I"⟩
abbrev cX9_put : ByteArray := prog_11_method_13_code
def yX9_put : MethodName := ⟨RX9, "put", "(III)V"⟩
abbrev cX9_ofRule : ByteArray := prog_11_method_14_code
def yX9_ofRule : MethodName := ⟨RX9, "ofRule", "(II)I"⟩
abbrev cX9_empty : ByteArray := prog_11_method_15_code
def yX9_empty : MethodName := ⟨RX9, "empty", "()V"⟩
abbrev cX9_doField : ByteArray := prog_11_method_16_code
def yX9_doField : MethodName := ⟨RX9, "doField", "(II)I"⟩
abbrev cX9_doRange : ByteArray := prog_11_method_17_code
def yX9_doRange : MethodName := ⟨RX9, "doRange", "(III)I"⟩
abbrev cX9_doWeighs : ByteArray := prog_11_method_18_code
def yX9_doWeighs : MethodName := ⟨RX9, "doWeighs", "(III)I"⟩
abbrev cX9_doRound : ByteArray := prog_11_method_19_code
def yX9_doRound : MethodName := ⟨RX9, "doRound", "(II)I"⟩
abbrev cX9_mostOf : ByteArray := prog_11_method_20_code
def yX9_mostOf : MethodName := ⟨RX9, "mostOf", "(I)I"⟩
abbrev cX9_doRule : ByteArray := prog_11_method_21_code
def yX9_doRule : MethodName := ⟨RX9, "doRule", "(IIIII)I"⟩
abbrev cX9_doDrops : ByteArray := prog_11_method_22_code
def yX9_doDrops : MethodName := ⟨RX9, "doDrops", "(I)I"⟩
abbrev cX9_field : ByteArray := prog_11_method_23_code
def yX9_field : MethodName := ⟨RX9, "field", "(II)I"⟩
abbrev cX9_range : ByteArray := prog_11_method_24_code
def yX9_range : MethodName := ⟨RX9, "range", "(III)I"⟩
abbrev cX9_weighs : ByteArray := prog_11_method_25_code
def yX9_weighs : MethodName := ⟨RX9, "weighs", "(III)I"⟩
abbrev cX9_round : ByteArray := prog_11_method_26_code
def yX9_round : MethodName := ⟨RX9, "round", "(II)I"⟩
abbrev cX9_placeOf : ByteArray := prog_11_method_27_code
def yX9_placeOf : MethodName := ⟨RX9, "placeOf", "(I)I"⟩
abbrev cX9_orders : ByteArray := prog_11_method_28_code
def yX9_orders : MethodName := ⟨RX9, "orders", "(II)I"⟩
abbrev cX9_rule : ByteArray := prog_11_method_29_code
def yX9_rule : MethodName := ⟨RX9, "rule", "(IIIII)I"⟩
abbrev cX9_drops : ByteArray := prog_11_method_30_code
def yX9_drops : MethodName := ⟨RX9, "drops", "(I)I"⟩
abbrev cX9_valueOf : ByteArray := prog_11_method_31_code
def yX9_valueOf : MethodName := ⟨RX9, "valueOf", "(II)I"⟩
abbrev cX9_keeps : ByteArray := prog_11_method_32_code
def yX9_keeps : MethodName := ⟨RX9, "keeps", "(II)Z"⟩
abbrev cX9_keptBy : ByteArray := prog_11_method_33_code
def yX9_keptBy : MethodName := ⟨RX9, "keptBy", "(I)I"⟩
abbrev cX9_isSome : ByteArray := prog_11_method_34_code
def yX9_isSome : MethodName := ⟨RX9, "isSome", "(I)Z"⟩
abbrev cX9_first : ByteArray := prog_11_method_35_code
def yX9_first : MethodName := ⟨RX9, "first", "()I"⟩
abbrev cX9_next : ByteArray := prog_11_method_36_code
def yX9_next : MethodName := ⟨RX9, "next", "(I)I"⟩
abbrev cX9_hard : ByteArray := prog_11_method_37_code
def yX9_hard : MethodName := ⟨RX9, "hard", "()I"⟩
abbrev cX9_lookAtSoft : ByteArray := prog_11_method_38_code
def yX9_lookAtSoft : MethodName := ⟨RX9, "lookAtSoft", "()V"⟩
abbrev cX9_lay : ByteArray := prog_11_method_39_code
def yX9_lay : MethodName := ⟨RX9, "lay", "()V"⟩
abbrev cX9_weightOf : ByteArray := prog_11_method_40_code
def yX9_weightOf : MethodName := ⟨RX9, "weightOf", "(I)I"⟩
abbrev cX9_sumOf : ByteArray := prog_11_method_41_code
def yX9_sumOf : MethodName := ⟨RX9, "sumOf", "(I)I"⟩
abbrev cX9_ofAll : ByteArray := prog_11_method_42_code
def yX9_ofAll : MethodName := ⟨RX9, "ofAll", "(II)I"⟩
abbrev cX9_of : ByteArray := prog_11_method_43_code
def yX9_of : MethodName := ⟨RX9, "of", "(II)I"⟩
abbrev cX9_aboutRule : ByteArray := prog_11_method_44_code
def yX9_aboutRule : MethodName := ⟨RX9, "aboutRule", "(II)I"⟩
abbrev cX9_about : ByteArray := prog_11_method_45_code
def yX9_about : MethodName := ⟨RX9, "about", "(II)I"⟩
abbrev cX9_rows : ByteArray := prog_11_method_46_code
def yX9_rows : MethodName := ⟨RX9, "rows", "()I"⟩
abbrev cX9_row : ByteArray := prog_11_method_47_code
def yX9_row : MethodName := ⟨RX9, "row", "(II)I"⟩
abbrev cX9_heavyOf : ByteArray := prog_11_method_48_code
def yX9_heavyOf : MethodName := ⟨RX9, "heavyOf", "(II)I"⟩
abbrev cX9_heavy : ByteArray := prog_11_method_49_code
def yX9_heavy : MethodName := ⟨RX9, "heavy", "(II)I"⟩
abbrev cX9_sumsOf : ByteArray := prog_11_method_50_code
def yX9_sumsOf : MethodName := ⟨RX9, "sumsOf", "(I)I"⟩
abbrev cX9_sums : ByteArray := prog_11_method_51_code
def yX9_sums : MethodName := ⟨RX9, "sums", "(I)I"⟩
abbrev cX9_sum : ByteArray := prog_11_method_52_code
def yX9_sum : MethodName := ⟨RX9, "sum", "(I)I"⟩
abbrev cX9_soft : ByteArray := prog_11_method_53_code
def yX9_soft : MethodName := ⟨RX9, "soft", "(I)I"⟩
abbrev cX9_core : ByteArray := prog_11_method_54_code
def yX9_core : MethodName := ⟨RX9, "core", "()I"⟩
abbrev cX9_drawBy : ByteArray := prog_11_method_55_code
def yX9_drawBy : MethodName := ⟨RX9, "drawBy", "(I)I"⟩
abbrev cX9_valuesOf : ByteArray := prog_11_method_56_code
def yX9_valuesOf : MethodName := ⟨RX9, "valuesOf", "(I)I"⟩
abbrev cX9_limit : ByteArray := prog_11_method_57_code
def yX9_limit : MethodName := ⟨RX9, "limit", "(II)V"⟩
abbrev cX9_takeTogether : ByteArray := prog_11_method_58_code
def yX9_takeTogether : MethodName := ⟨RX9, "takeTogether", "()I"⟩
abbrev cX9_valueDrawn : ByteArray := prog_11_method_59_code
def yX9_valueDrawn : MethodName := ⟨RX9, "valueDrawn", "(II)I"⟩
abbrev cX9_takeInOrder : ByteArray := prog_11_method_60_code
def yX9_takeInOrder : MethodName := ⟨RX9, "takeInOrder", "()I"⟩
abbrev cX9_doDraws : ByteArray := prog_11_method_61_code
def yX9_doDraws : MethodName := ⟨RX9, "doDraws", "(II)I"⟩
abbrev cX9_draws : ByteArray := prog_11_method_62_code
def yX9_draws : MethodName := ⟨RX9, "draws", "(II)I"⟩
abbrev cX9_drawn : ByteArray := prog_11_method_63_code
def yX9_drawn : MethodName := ⟨RX9, "drawn", "(II)I"⟩
abbrev cX9_type : ByteArray := prog_11_method_64_code
def yX9_type : MethodName := ⟨RX9, "type", "(I)I"⟩
abbrev cX9_clear : ByteArray := prog_11_method_65_code
def yX9_clear : MethodName := ⟨RX9, "clear", "()I"⟩
abbrev cX9_here : ByteArray := prog_11_method_66_code
def yX9_here : MethodName := ⟨RX9, "here", "()I"⟩
abbrev cX9_must : ByteArray := prog_11_method_67_code
def yX9_must : MethodName := ⟨RX9, "must", "(Z)V"⟩
abbrev cX9_isFigure : ByteArray := prog_11_method_68_code
def yX9_isFigure : MethodName := ⟨RX9, "isFigure", "()Z"⟩
abbrev cX9_number : ByteArray := prog_11_method_69_code
def yX9_number : MethodName := ⟨RX9, "number", "()I"⟩
abbrev cX9_numbersOf : ByteArray := prog_11_method_70_code
def yX9_numbersOf : MethodName := ⟨RX9, "numbersOf", "(I)I"⟩
abbrev cX9_readOrder : ByteArray := prog_11_method_71_code
def yX9_readOrder : MethodName := ⟨RX9, "readOrder", "()V"⟩
abbrev cX9_doOrder : ByteArray := prog_11_method_72_code
def yX9_doOrder : MethodName := ⟨RX9, "doOrder", "(I)I"⟩
abbrev cX9_reads : ByteArray := prog_11_method_73_code
def yX9_reads : MethodName := ⟨RX9, "reads", "()I"⟩
abbrev cX9_toldOf : ByteArray := prog_11_method_74_code
def yX9_toldOf : MethodName := ⟨RX9, "toldOf", "(I)I"⟩
abbrev cX9_told : ByteArray := prog_11_method_75_code
def yX9_told : MethodName := ⟨RX9, "told", "(I)I"⟩
abbrev cX9_mix : ByteArray := prog_11_method_76_code
def yX9_mix : MethodName := ⟨RX9, "mix", "(I)V"⟩
abbrev cX9_digest : ByteArray := prog_11_method_77_code
def yX9_digest : MethodName := ⟨RX9, "digest", "()J"⟩
def RJ6 : String := "java/lang/Integer"
def TJ6 : u_T := fun k => match k with
  | _ => ("", "", "", false)
def tyJ6 : Nat → FieldType := fun k => match k with
  | _ => .int
abbrev wsJ60 : List Cond := u_ws RJ6 TJ6 0
theorem nmJ6 : ∀ a, a < 0 → ∀ b, b < 0 → a ≠ b → (TJ6 a).2.1 ≠ (TJ6 b).2.1 := by decide +kernel
theorem tyJ6_ok : ∀ k, k < 0 → parseFieldDescriptor (TJ6 k).2.2.1 = some (tyJ6 k) := by decide +kernel
abbrev cJ6_bitCount_0f7a4 : ByteArray := prog_12_method_49_code
def yJ6_bitCount_0f7a4 : MethodName := ⟨RJ6, "bitCount", "(I)I"⟩
def RJ13 : String := "java/lang/Long"
def TJ13 : u_T := fun k => match k with
  | _ => ("", "", "", false)
def tyJ13 : Nat → FieldType := fun k => match k with
  | _ => .int
abbrev wsJ130 : List Cond := u_ws RJ13 TJ13 0
theorem nmJ13 : ∀ a, a < 0 → ∀ b, b < 0 → a ≠ b → (TJ13 a).2.1 ≠ (TJ13 b).2.1 := by decide +kernel
theorem tyJ13_ok : ∀ k, k < 0 → parseFieldDescriptor (TJ13 k).2.2.1 = some (tyJ13 k) := by decide +kernel
abbrev cJ13_bitCount_95d88 : ByteArray := prog_13_method_50_code
def yJ13_bitCount_95d88 : MethodName := ⟨RJ13, "bitCount", "(J)I"⟩
def RJ10 : String := "java/lang/System"
def TJ10 : u_T := fun k => match k with
  | _ => ("", "", "", false)
def tyJ10 : Nat → FieldType := fun k => match k with
  | _ => .int
abbrev wsJ100 : List Cond := u_ws RJ10 TJ10 0
theorem nmJ10 : ∀ a, a < 0 → ∀ b, b < 0 → a ≠ b → (TJ10 a).2.1 ≠ (TJ10 b).2.1 := by decide +kernel
theorem tyJ10_ok : ∀ k, k < 0 → parseFieldDescriptor (TJ10 k).2.2.1 = some (tyJ10 k) := by decide +kernel
def RL : String := "DrawnFieldsLaw"
abbrev cL_law : ByteArray := code
def yL_law : MethodName := ⟨RL, "law", "([I)Z"⟩
abbrev vwCl : List vw_C := [(RX0, TX0, 2), (RX1, TX1, 5), (RX2, TX2, 5), (RX3, TX3, 2), (RX4, TX4, 1), (RX5, TX5, 5), (RX6, TX6, 9), (RX7, TX7, 5), (RX8, TX8, 8), (RX9, TX9, 22)]
/-- the tables' words that a callee may take over -/
def xT : List Jvm.Cond := lw_tbl.filter goodWord
end
section
/-! ===== the abstract machine: values as the kit's, .ref k the k-th cell; cell 0 the script, cell 1 the static array MOST_C, cell k + 2 the k-th cell made since the law's entry ===== -/
abbrev xC : Type := (Nat × vp_A) ⊕ (Nat × List Value)
abbrev xH : Type := List xC
abbrev xL : Type := List (Option Value)
abbrev xS : Type := List Value
abbrev xR : Type := Option (Option Value × xH)
abbrev xI : Type := Instr ⊕ Instr
/-- tags of arrays: 0 int, 1 long, 2 boolean, 10 + c an array of references to class c -/
def xty (t : Nat) : FieldType := match t with
  | 0 => .int
  | 1 => .long
  | 2 => .boolean
  | n => .object ((vwCl[n - 10]?).elim "" (fun q => q.1))
def xra (t : Nat) : Bool := t == 11 || t == 14 || t == 15 || t == 16
def xld : xL → Nat → Option Value
  | [], _ => none
  | a :: _, 0 => a
  | _ :: t, n + 1 => xld t n
def xis2 : Option Value → Bool
  | some (.long _) => true
  | some (.double _) => true
  | _ => false
/-- a store of one slot; a long ahead of it is gone -/
def xst1 : xL → Nat → Value → Option xL
  | [], _, _ => none
  | _ :: t, 0, v => some (some v :: t)
  | a :: t, 1, v => (xst1 t 0 v).map (fun t' => (if xis2 a then none else a) :: t')
  | a :: t, n + 2, v => (xst1 t (n + 1) v).map (fun t' => a :: t')
/-- a store of two slots -/
def xst2 : xL → Nat → Value → Option xL
  | [], _, _ => none
  | _ :: [], 0, _ => none
  | _ :: _ :: t, 0, v => some (some v :: none :: t)
  | a :: t, 1, v => (xst2 t 0 v).map (fun t' => (if xis2 a then none else a) :: t')
  | a :: t, n + 2, v => (xst2 t (n + 1) v).map (fun t' => a :: t')
def xc1 : Value → Bool
  | .long _ => false
  | .double _ => false
  | _ => true
def xin (i : Int32) (n : Nat) : Bool := decide (0 ≤ i) && decide (i.toNatClampNeg < n)
def xget (h : xH) (a n : Nat) : Option Value := match h[a]? with
  | some (.inr (c, fs)) => if c = n / 32 then fs[n % 32]? else none
  | _ => none
/-- what a field of a type takes: 0 int, 1 long, 2 boolean, 3 a reference (to anything) -/
def xfit (k : Nat) (v : Value) : Bool := match k, v with
  | 0, .int _ => true
  | 1, .long _ => true
  | 2, .int x => x == 0 || x == 1
  | 3, .ref _ => true
  | _, _ => false
/-- kinds of the fields of each class -/
def xkinds : List (List Nat) := [[3, 1], [0, 0, 0, 0, 3], [3, 0, 0, 3, 3], [0, 3], [3], [0, 0, 0, 0, 0], [0, 3, 3, 0, 3, 0, 0, 3, 2], [0, 0, 0, 3, 3], [3, 3, 3, 3, 3, 3, 3, 3], [3, 3, 3, 0, 3, 2, 3, 0, 0, 3, 3, 0, 3, 1, 3, 0, 0, 0, 0, 3, 3, 1]]
def xkd (c k : Nat) : Nat := (xkinds.getD c []).getD k 9
def xput (h : xH) (a n : Nat) (v : Value) : Option xH := match h[a]? with
  | some (.inr (c, fs)) => if c = n / 32 ∧ n % 32 < fs.length ∧ xfit (xkd c (n % 32)) v = true then some (h.set a (.inr (c, fs.set (n % 32) v))) else none
  | _ => none
def xiald (h : xH) (a : Nat) (i : Int32) : Option Value := match h[a]? with
  | some (.inl (0, n, .inl f)) => if xin i n then some (.int (f i.toNatClampNeg)) else none
  | _ => none
def xzald (h : xH) (a : Nat) (i : Int32) : Option Value := match h[a]? with
  | some (.inl (2, n, .inl f)) => if xin i n ∧ 2 ≤ a then some (.int (f i.toNatClampNeg)) else none
  | _ => none
def xlald (h : xH) (a : Nat) (i : Int32) : Option Value := match h[a]? with
  | some (.inl (1, n, .inr (.inl f))) => if xin i n ∧ 2 ≤ a then some (.long (f i.toNatClampNeg)) else none
  | _ => none
def xaald (h : xH) (a : Nat) (i : Int32) : Option Value := match h[a]? with
  | some (.inl (t, n, .inr (.inr (.inr (.inr f))))) => if xin i n ∧ 2 ≤ a ∧ xra t = true then some (va_rf (f i.toNatClampNeg)) else none
  | _ => none
def xiast (h : xH) (a : Nat) (i x : Int32) : Option xH := match h[a]? with
  | some (.inl (0, n, .inl f)) => if xin i n ∧ 2 ≤ a then some (h.set a (.inl (0, n, .inl (upd f i.toNatClampNeg x)))) else none
  | _ => none
def xzast (h : xH) (a : Nat) (i x : Int32) : Option xH := match h[a]? with
  | some (.inl (2, n, .inl f)) => if xin i n ∧ 2 ≤ a ∧ (x = 0 ∨ x = 1) then some (h.set a (.inl (2, n, .inl (upd f i.toNatClampNeg x)))) else none
  | _ => none
def xlast (h : xH) (a : Nat) (i : Int32) (x : Int64) : Option xH := match h[a]? with
  | some (.inl (1, n, .inr (.inl f))) => if xin i n ∧ 2 ≤ a then some (h.set a (.inl (1, n, .inr (.inl (vp_updL f i.toNatClampNeg x))))) else none
  | _ => none
/-- the value's class is the array's -/
def xobj (h : xH) (v c : Nat) : Bool := match h[v]? with
  | some (.inr (c', _)) => c' == c
  | _ => false
def xaast (h : xH) (a : Nat) (i : Int32) (v : Nat) : Option xH := match h[a]? with
  | some (.inl (t, n, .inr (.inr (.inr (.inr f))))) => if xin i n ∧ 2 ≤ a ∧ xra t = true ∧ 2 ≤ v ∧ xobj h v (t - 10) = true then some (h.set a (.inl (t, n, .inr (.inr (.inr (.inr (va_up f i.toNatClampNeg (some v)))))))) else none
  | _ => none
def xlen (h : xH) (a : Nat) : Option Value := match h[a]? with
  | some (.inl (t, n, .inl _)) => if t = 0 then some (.int (Int32.ofNat n)) else none
  | _ => none
/-- at most so many cells, and elements of one -/
def xmost : Nat := 100000
def xnewa (h : xH) (ty : ArrayType) (n : Int32) : Option xH :=
  if 0 ≤ n ∧ n.toNatClampNeg ≤ xmost ∧ h.length < xmost then
    match ty with
    | .int => some (h ++ [.inl (0, n.toNatClampNeg, .inl (fun _ => 0))])
    | .long => some (h ++ [.inl (1, n.toNatClampNeg, .inr (.inl (fun _ => 0)))])
    | .boolean => some (h ++ [.inl (2, n.toNatClampNeg, .inl (fun _ => 0))])
    | _ => none
  else none
def xanew (h : xH) (c : Nat) (n : Int32) : Option xH :=
  if 0 ≤ n ∧ n.toNatClampNeg ≤ xmost ∧ h.length < xmost ∧ xra (10 + c) = true then some (h ++ [.inl (10 + c, n.toNatClampNeg, .inr (.inr (.inr (.inr (fun _ => none)))))])
  else none
def xdef (k : Nat) : Value := match k with
  | 1 => .long 0
  | 3 => .null
  | _ => .int 0
def xnewo (h : xH) (c : Nat) : Option xH := if h.length < xmost then (xkinds[c]?).map (fun ks => h ++ [.inr (c, ks.map xdef)]) else none
/-- System.arraycopy of ints, or of longs -/
def xcopy (h : xH) (s : Nat) (sp : Int32) (d : Nat) (dp n : Int32) : Option xH :=
  if 0 ≤ sp ∧ 0 ≤ dp ∧ 0 ≤ n ∧ 2 ≤ s ∧ 2 ≤ d then
    match h[s]?, h[d]? with
    | some (.inl (0, n0, .inl f)), some (.inl (0, n1, .inl g)) => if sp.toNatClampNeg + n.toNatClampNeg ≤ n0 ∧ dp.toNatClampNeg + n.toNatClampNeg ≤ n1 then some (h.set d (.inl (0, n1, .inl (va_cpy f g sp.toNatClampNeg dp.toNatClampNeg n.toNatClampNeg)))) else none
    | some (.inl (1, n0, .inr (.inl f))), some (.inl (1, n1, .inr (.inl g))) => if sp.toNatClampNeg + n.toNatClampNeg ≤ n0 ∧ dp.toNatClampNeg + n.toNatClampNeg ≤ n1 then some (h.set d (.inl (1, n1, .inr (.inl (va_cpy f g sp.toNatClampNeg dp.toNatClampNeg n.toNatClampNeg))))) else none
    | _, _ => none
  else none
def xii (f : Int32 → Int32 → Int32) : xS → Option xS
  | .int b :: .int a :: r => some (.int (f a b) :: r)
  | _ => none
def xid (f : Int32 → Int32 → Int32) : xS → Option xS
  | .int b :: .int a :: r => if b = 0 then none else some (.int (f a b) :: r)
  | _ => none
def xll (f : Int64 → Int64 → Int64) : xS → Option xS
  | .long b :: .long a :: r => some (.long (f a b) :: r)
  | _ => none
def xlv (f : Int64 → Int64 → Int64) : xS → Option xS
  | .long b :: .long a :: r => if b = 0 then none else some (.long (f a b) :: r)
  | _ => none
def xls (f : Int64 → Int32 → Int64) : xS → Option xS
  | .int b :: .long a :: r => some (.long (f a b) :: r)
  | _ => none
def xlc : xS → Option xS
  | .long b :: .long a :: r => some (.int (lg_cmp a b) :: r)
  | _ => none
def xil (f : Int32 → Int64) : xS → Option xS
  | .int a :: r => some (.long (f a) :: r)
  | _ => none
def xli (f : Int64 → Int32) : xS → Option xS
  | .long a :: r => some (.int (f a) :: r)
  | _ => none
def xdup : xS → Option xS
  | v :: r => if xc1 v then some (v :: v :: r) else none
  | _ => none
def xdup2 : xS → Option xS
  | .long x :: r => some (.long x :: .long x :: r)
  | a :: b :: r => if xc1 a && xc1 b then some (a :: b :: a :: b :: r) else none
  | _ => none
def xrd (f : Nat → Int32 → Option Value) : xS → Option xS
  | .int i :: .ref a :: r => (f a i).map (fun v => v :: r)
  | _ => none
/-- instructions that neither jump nor call -/
def xP : Instr → xL → xS → xH → Option (xL × xS × xH)
  | .iconst v, L, st, h => some (L, .int (Int32.ofInt v) :: st, h)
  | .sipush v, L, st, h => some (L, .long (Int64.ofInt v) :: st, h)
  | .iload i, L, st, h => (match xld L i with | some (.int x) => some (L, .int x :: st, h) | _ => none)
  | .lload i, L, st, h => (match xld L i with | some (.long x) => some (L, .long x :: st, h) | _ => none)
  | .aload i, L, st, h => (match xld L i with | some (.ref x) => some (L, .ref x :: st, h) | _ => none)
  | .istore i, L, st, h => (match st with | .int x :: r => (xst1 L i (.int x)).map (fun L' => (L', r, h)) | _ => none)
  | .lstore i, L, st, h => (match st with | .long x :: r => (xst2 L i (.long x)).map (fun L' => (L', r, h)) | _ => none)
  | .astore i, L, st, h => (match st with | .ref x :: r => (xst1 L i (.ref x)).map (fun L' => (L', r, h)) | _ => none)
  | .iinc i n, L, st, h => (match xld L i with | some (.int x) => (xst1 L i (.int (x + Int32.ofInt n))).map (fun L' => (L', st, h)) | _ => none)
  | .getfield n, L, st, h => (match st with | .ref a :: r => (xget h a n).map (fun v => (L, v :: r, h)) | _ => none)
  | .putfield n, L, st, h => (match st with | v :: .ref a :: r => (xput h a n v).map (fun h' => (L, r, h')) | _ => none)
  | .getstatic _, L, st, h => some (L, .ref 1 :: st, h)
  | .iaload, L, st, h => (xrd (xiald h) st).map (fun st' => (L, st', h))
  | .baload, L, st, h => (xrd (xzald h) st).map (fun st' => (L, st', h))
  | .laload, L, st, h => (xrd (xlald h) st).map (fun st' => (L, st', h))
  | .aaload, L, st, h => (xrd (xaald h) st).map (fun st' => (L, st', h))
  | .iastore, L, st, h => (match st with | .int x :: .int i :: .ref a :: r => (xiast h a i x).map (fun h' => (L, r, h')) | _ => none)
  | .bastore, L, st, h => (match st with | .int x :: .int i :: .ref a :: r => (xzast h a i x).map (fun h' => (L, r, h')) | _ => none)
  | .lastore, L, st, h => (match st with | .long x :: .int i :: .ref a :: r => (xlast h a i x).map (fun h' => (L, r, h')) | _ => none)
  | .aastore, L, st, h => (match st with | .ref v :: .int i :: .ref a :: r => (xaast h a i v).map (fun h' => (L, r, h')) | _ => none)
  | .arraylength, L, st, h => (match st with | .ref a :: r => (xlen h a).map (fun v => (L, v :: r, h)) | _ => none)
  | .newarray ty, L, st, h => (match st with | .int n :: r => (xnewa h ty n).map (fun h' => (L, .ref h.length :: r, h')) | _ => none)
  | .anewarray c, L, st, h => (match st with | .int n :: r => (xanew h c n).map (fun h' => (L, .ref h.length :: r, h')) | _ => none)
  | .new c, L, st, h => (xnewo h c).map (fun h' => (L, .ref h.length :: st, h'))
  | .nop, L, st, h => (match st with | .int n :: .int dp :: .ref d :: .int sp :: .ref s :: r => if r = [] then (xcopy h s sp d dp n).map (fun h' => (L, r, h')) else none | _ => none)
  | .pop, L, st, h => (match st with | .ref _ :: r => if r.length ≤ 4 then some (L, r, h) else none | _ => none)
  | .iadd, L, st, h => (xii (fun a b => a + b) st).map (fun st' => (L, st', h))
  | .isub, L, st, h => (xii (fun a b => a - b) st).map (fun st' => (L, st', h))
  | .imul, L, st, h => (xii (fun a b => a * b) st).map (fun st' => (L, st', h))
  | .idiv, L, st, h => (xid (fun a b => a / b) st).map (fun st' => (L, st', h))
  | .irem, L, st, h => (xid (fun a b => a - a / b * b) st).map (fun st' => (L, st', h))
  | .iand, L, st, h => (xii (fun a b => a &&& b) st).map (fun st' => (L, st', h))
  | .ior, L, st, h => (xii (fun a b => a ||| b) st).map (fun st' => (L, st', h))
  | .ixor, L, st, h => (xii (fun a b => a ^^^ b) st).map (fun st' => (L, st', h))
  | .ishl, L, st, h => (xii (fun a b => a <<< (b &&& 31)) st).map (fun st' => (L, st', h))
  | .ishr, L, st, h => (xii (fun a b => a >>> (b &&& 31)) st).map (fun st' => (L, st', h))
  | .iushr, L, st, h => (xii (fun a b => (a.toUInt32 >>> (b.toUInt32 &&& Int32.toUInt32 31)).toInt32) st).map (fun st' => (L, st', h))
  | .ladd, L, st, h => (xll (fun a b => a + b) st).map (fun st' => (L, st', h))
  | .lsub, L, st, h => (xll (fun a b => a - b) st).map (fun st' => (L, st', h))
  | .lmul, L, st, h => (xll (fun a b => a * b) st).map (fun st' => (L, st', h))
  | .ldiv, L, st, h => (xlv (fun a b => a / b) st).map (fun st' => (L, st', h))
  | .lrem, L, st, h => (xlv (fun a b => a - a / b * b) st).map (fun st' => (L, st', h))
  | .land, L, st, h => (xll (fun a b => a &&& b) st).map (fun st' => (L, st', h))
  | .lor, L, st, h => (xll (fun a b => a ||| b) st).map (fun st' => (L, st', h))
  | .lxor, L, st, h => (xll (fun a b => a ^^^ b) st).map (fun st' => (L, st', h))
  | .lshl, L, st, h => (xls (fun a b => a <<< (b.toInt64 &&& 63)) st).map (fun st' => (L, st', h))
  | .lshr, L, st, h => (xls (fun a b => a >>> (b.toInt64 &&& 63)) st).map (fun st' => (L, st', h))
  | .lushr, L, st, h => (xls (fun a b => (a.toUInt64 >>> (b.toInt64.toUInt64 &&& Int64.toUInt64 63)).toInt64) st).map (fun st' => (L, st', h))
  | .lcmp, L, st, h => (xlc st).map (fun st' => (L, st', h))
  | .i2l, L, st, h => (xil (fun a => a.toInt64) st).map (fun st' => (L, st', h))
  | .l2i, L, st, h => (xli (fun a => a.toInt32) st).map (fun st' => (L, st', h))
  | .dup, L, st, h => (xdup st).map (fun st' => (L, st', h))
  | .dup2, L, st, h => (xdup2 st).map (fun st' => (L, st', h))
  | _, _, _, _ => none
def xcnd (c : Jvm.ClassFile.Cond) (a b : Int32) : Bool := match c with
  | .eq => decide (a = b)
  | .ne => decide (¬ a = b)
  | .lt => decide (a < b)
  | .ge => decide (b ≤ a)
  | .gt => decide (b < a)
  | .le => decide (a ≤ b)
def xsw : List (Int × Int) → Int → Int → Int
  | [], d, _ => d
  | (k, t) :: r, d, a => if a = k then t else xsw r d a
/-- a block of instructions: what neither jumps nor calls on the left; jumps name their targets, calls the method's number and how many values it takes -/
def xB (call : Nat → List Value → xH → xR) (jmp : Nat → xL → xS → xH → xR) : List xI → xL → xS → xH → xR
  | [], _, _, _ => none
  | .inl i :: r, L, st, h => (xP i L st h).bind (fun q => xB call jmp r q.1 q.2.1 q.2.2)
  | .inr (.goto t) :: _, L, st, h => jmp t.toNat L st h
  | .inr (.ifCond c t) :: r, L, st, h => (match st with | .int a :: st' => if xcnd c a 0 = true then jmp t.toNat L st' h else xB call jmp r L st' h | _ => none)
  | .inr (.if_icmp c t) :: r, L, st, h => (match st with | .int b :: .int a :: st' => if xcnd c a b = true then jmp t.toNat L st' h else xB call jmp r L st' h | _ => none)
  | .inr (.lookupswitch d ps) :: _, L, st, h => (match st with | .int a :: st' => jmp (xsw ps.toList d a.toInt).toNat L st' h | _ => none)
  | .inr .ireturn :: _, _, st, h => (match st with | [.int v] => some (some (.int v), h) | _ => none)
  | .inr .areturn :: _, _, st, h => (match st with | [.int v] => if v = 0 ∨ v = 1 then some (some (.int v), h) else none | _ => none)
  | .inr .lreturn :: _, _, st, h => (match st with | [.long v] => some (some (.long v), h) | _ => none)
  | .inr .return_ :: _, _, st, h => (match st with | [] => some (none, h) | _ => none)
  | .inr (.invokeinterface j n) :: r, L, st, h => if n ≤ st.length ∧ (st.drop n).length ≤ 4 then (call j (st.take n).reverse h).bind (fun q => xB call jmp r L (q.1.toList ++ st.drop n) q.2) else none
  | .inr (.goto_w t) :: _, L, st, h => jmp t.toNat L st h
  | .inr _ :: _, _, _, _ => none
/-- a fall into the next block -/
abbrev xto (t : Int) : xI := .inr (.goto_w t)
def xlo : List Value → xL
  | [] => []
  | .long v :: t => some (.long v) :: none :: xlo t
  | .double v :: t => some (.double v) :: none :: xlo t
  | v :: t => some v :: xlo t
end
section
/-! ===== the code of the abstract machine, by program (wip/whole/gen.py) ===== -/
/-- 0: DrawnFields$Drawer.<init>()V -/
def k0_0 : List xI := [.inl (.aload 0), .inl .pop, .inl (.aload 0), .inl (.new 4), .inl .dup, .inr (.invokeinterface 22 1), .inl (.putfield 0), .inr .return_]
def xm0 : List (Nat × List xI) := [(0, k0_0)]
/-- 1: DrawnFields$Drawer.begin(LDrawnFields$RowSet;I)V -/
def k1_0 : List xI := [.inl (.aload 0), .inl (.getfield 0), .inl (.aload 1), .inr (.invokeinterface 26 2), .inl (.aload 0), .inl (.iload 2), .inl .i2l, .inl (.putfield 1), .inr .return_]
def xm1 : List (Nat × List xI) := [(0, k1_0)]
/-- 2: DrawnFields$Drawer.drawTogether(LDrawnFields$State;)I -/
def k2_0 : List xI := [.inl (.iconst 0), .inl (.istore 2), xto 2]
def k2_2 : List xI := [.inl (.iload 2), .inl (.aload 1), .inl (.getfield 192), .inr (.if_icmp .ge 54), .inl (.aload 1), .inl (.getfield 193), .inl (.iload 2), .inl .aaload, .inl (.getfield 34), .inl (.iconst 1), .inr (.if_icmp .ne 48), .inl (.aload 0), .inl (.getfield 0), .inl (.iload 2), .inl (.aload 1), .inl (.getfield 193), .inl (.iload 2), .inl .aaload, .inl (.aload 0), .inl (.getfield 0), .inl (.iload 2), .inr (.invokeinterface 33 2), .inr (.invokeinterface 11 2), .inr (.invokeinterface 30 3), xto 48]
def k2_48 : List xI := [.inl (.iinc 2 1), .inr (.goto 2)]
def k2_54 : List xI := [.inl (.aload 1), .inl (.aload 0), .inl (.getfield 0), .inr (.invokeinterface 57 2), .inl (.istore 2), .inl (.iload 2), .inr (.ifCond .ne 71), .inl (.iconst 1), .inr (.goto 72)]
def k2_71 : List xI := [.inl (.iconst 0), xto 72]
def k2_72 : List xI := [.inl (.istore 3), .inl (.aload 0), .inl (.iload 3), .inr (.ifCond .eq 88), .inl (.aload 0), .inl (.getfield 0), .inr (.invokeinterface 32 1), .inr (.goto 89)]
def k2_88 : List xI := [.inl (.iload 2), xto 89]
def k2_89 : List xI := [.inr (.invokeinterface 6 2), .inl (.istore 4), .inl (.iconst 0), .inl (.istore 5), xto 97]
def k2_97 : List xI := [.inl (.iload 5), .inl (.iconst 64), .inr (.if_icmp .ge 169), .inl (.aload 0), .inl (.getfield 0), .inl (.getfield 128), .inl (.iload 5), .inl .laload, .inl (.lstore 6), .inl (.iload 3), .inr (.ifCond .eq 128), .inl (.lload 6), .inr (.invokeinterface 187 1), .inr (.goto 136)]
def k2_128 : List xI := [.inl (.aload 1), .inl (.iload 5), .inl (.lload 6), .inr (.invokeinterface 58 3), xto 136]
def k2_136 : List xI := [.inl (.istore 8), .inl (.iload 4), .inl (.iload 8), .inr (.if_icmp .ge 156), .inl (.aload 0), .inl (.aload 1), .inl (.iload 5), .inl (.iload 4), .inl (.iload 3), .inr (.invokeinterface 3 5), .inr .ireturn]
def k2_156 : List xI := [.inl (.iload 4), .inl (.iload 8), .inl .isub, .inl (.istore 4), .inl (.iinc 5 1), .inr (.goto 97)]
def k2_169 : List xI := [.inl (.aload 0), .inl (.getfield 0), .inl (.iconst 0), .inr (.invokeinterface 35 2), .inr .ireturn]
def xm2 : List (Nat × List xI) := [(0, k2_0), (2, k2_2), (48, k2_48), (54, k2_54), (71, k2_71), (72, k2_72), (88, k2_88), (89, k2_89), (97, k2_97), (128, k2_128), (136, k2_136), (156, k2_156), (169, k2_169)]
/-- 3: DrawnFields$Drawer.rowOfWord(LDrawnFields$State;IIZ)I -/
def k3_0 : List xI := [.inl (.iload 3), .inl (.istore 5), .inl (.iconst 0), .inl (.istore 6), xto 6]
def k3_6 : List xI := [.inl (.iload 6), .inl (.iconst 64), .inr (.if_icmp .ge 75), .inl (.aload 0), .inl (.getfield 0), .inl (.getfield 128), .inl (.iload 2), .inl .laload, .inl (.iload 6), .inl .lushr, .inl (.sipush 1), .inl .land, .inl (.sipush 0), .inl .lcmp, .inr (.ifCond .eq 69), .inl (.iload 2), .inl (.iconst 64), .inl .imul, .inl (.iload 6), .inl .iadd, .inl (.istore 7), .inl (.iload 5), .inl (.iload 4), .inr (.ifCond .eq 52), .inl (.iconst 1), .inr (.goto 58)]
def k3_52 : List xI := [.inl (.aload 1), .inl (.iload 7), .inr (.invokeinterface 56 2), xto 58]
def k3_58 : List xI := [.inl .isub, .inl (.istore 5), .inl (.iload 5), .inr (.ifCond .ge 69), .inl (.iload 7), .inr .ireturn]
def k3_69 : List xI := [.inl (.iinc 6 1), .inr (.goto 6)]
def k3_75 : List xI := [.inl (.iload 2), .inl (.iconst 64), .inl .imul, .inr .ireturn]
def xm3 : List (Nat × List xI) := [(0, k3_0), (6, k3_6), (52, k3_52), (58, k3_58), (69, k3_69), (75, k3_75)]
/-- 4: DrawnFields$Drawer.drawInOrder(LDrawnFields$State;)I -/
def k4_0 : List xI := [.inl (.iconst 0), .inl (.istore 2), xto 2]
def k4_2 : List xI := [.inl (.iload 2), .inl (.aload 1), .inl (.getfield 192), .inr (.if_icmp .ge 64), .inl (.aload 1), .inl (.getfield 194), .inl (.iload 2), .inl .iaload, .inl (.istore 3), .inl (.aload 1), .inl (.getfield 193), .inl (.iload 3), .inl .aaload, .inl (.aload 0), .inl (.getfield 0), .inl (.iload 3), .inr (.invokeinterface 33 2), .inr (.invokeinterface 11 2), .inl (.istore 4), .inl (.aload 0), .inl (.getfield 0), .inl (.iload 3), .inl (.iconst 1), .inl (.aload 0), .inl (.aload 1), .inl (.getfield 193), .inl (.iload 3), .inl .aaload, .inl (.iload 4), .inr (.invokeinterface 5 3), .inl .ishl, .inr (.invokeinterface 30 3), .inl (.iinc 2 1), .inr (.goto 2)]
def k4_64 : List xI := [.inl (.aload 0), .inl (.getfield 0), .inl (.iconst 0), .inr (.invokeinterface 35 2), .inr .ireturn]
def xm4 : List (Nat × List xI) := [(0, k4_0), (2, k4_2), (64, k4_64)]
/-- 5: DrawnFields$Drawer.takeValue(LDrawnFields$Field;I)I -/
def k5_0 : List xI := [.inl (.aload 1), .inl (.iload 2), .inr (.invokeinterface 12 2), .inl (.istore 3), .inl (.iload 3), .inr (.ifCond .ne 14), .inl (.iconst 1), .inr (.goto 15)]
def k5_14 : List xI := [.inl (.iconst 0), xto 15]
def k5_15 : List xI := [.inl (.istore 4), .inl (.aload 0), .inl (.iload 4), .inr (.ifCond .eq 30), .inl (.iload 2), .inr (.invokeinterface 186 1), .inr (.goto 31)]
def k5_30 : List xI := [.inl (.iload 3), xto 31]
def k5_31 : List xI := [.inr (.invokeinterface 6 2), .inl (.istore 5), .inl (.iconst 0), .inl (.istore 6), xto 39]
def k5_39 : List xI := [.inl (.iload 6), .inl (.iconst 8), .inr (.if_icmp .ge 90), .inl (.iload 2), .inl (.iload 6), .inl .ishr, .inl (.iconst 1), .inl .iand, .inr (.ifCond .eq 84), .inl (.iload 5), .inl (.iload 4), .inr (.ifCond .eq 66), .inl (.iconst 1), .inr (.goto 73)]
def k5_66 : List xI := [.inl (.aload 1), .inl (.getfield 36), .inl (.iload 6), .inl .iaload, xto 73]
def k5_73 : List xI := [.inl .isub, .inl (.istore 5), .inl (.iload 5), .inr (.ifCond .ge 84), .inl (.iload 6), .inr .ireturn]
def k5_84 : List xI := [.inl (.iinc 6 1), .inr (.goto 39)]
def k5_90 : List xI := [.inl (.iconst 0), .inr .ireturn]
def xm5 : List (Nat × List xI) := [(0, k5_0), (14, k5_14), (15, k5_15), (30, k5_30), (31, k5_31), (39, k5_39), (66, k5_66), (73, k5_73), (84, k5_84), (90, k5_90)]
/-- 6: DrawnFields$Drawer.chanceBelow(I)I -/
def k6_0 : List xI := [.inl (.aload 0), .inl (.aload 0), .inl (.getfield 1), .inl (.sipush 1103515245), .inl .lmul, .inl (.sipush 12345), .inl .ladd, .inl (.sipush 2147483648), .inl .lrem, .inl (.putfield 1), .inl (.iload 1), .inr (.ifCond .le 39), .inl (.aload 0), .inl (.getfield 1), .inl (.sipush 65536), .inl .ldiv, .inl (.iload 1), .inl .i2l, .inl .lrem, .inl .l2i, .inr (.goto 40)]
def k6_39 : List xI := [.inl (.iconst 0), xto 40]
def k6_40 : List xI := [.inr .ireturn]
def xm6 : List (Nat × List xI) := [(0, k6_0), (39, k6_39), (40, k6_40)]
/-- 7: DrawnFields$Field.<init>()V -/
def k7_0 : List xI := [.inl (.aload 0), .inl .pop, .inl (.aload 0), .inl (.iconst 8), .inl (.newarray .int), .inl (.putfield 36), .inl (.aload 0), .inl (.iconst 0), .inl (.iconst 0), .inr (.invokeinterface 8 3), .inr .return_]
def xm7 : List (Nat × List xI) := [(0, k7_0)]
/-- 8: DrawnFields$Field.begin(II)V -/
def k8_0 : List xI := [.inl (.aload 0), .inl (.iload 1), .inl (.putfield 32), .inl (.aload 0), .inl (.iload 2), .inl (.putfield 33), .inl (.aload 0), .inl (.iconst 0), .inl (.putfield 34), .inl (.aload 0), .inl (.iconst 0), .inl (.putfield 35), .inl (.iconst 0), .inl (.istore 3), xto 22]
def k8_22 : List xI := [.inl (.iload 3), .inl (.iconst 8), .inr (.if_icmp .ge 41), .inl (.aload 0), .inl (.getfield 36), .inl (.iload 3), .inl (.iconst 1), .inl .iastore, .inl (.iinc 3 1), .inr (.goto 22)]
def k8_41 : List xI := [.inr .return_]
def xm8 : List (Nat × List xI) := [(0, k8_0), (22, k8_22), (41, k8_41)]
/-- 9: DrawnFields$Field.becomes(LDrawnFields$Field;)V -/
def k9_0 : List xI := [.inl (.aload 0), .inl (.aload 1), .inl (.getfield 32), .inl (.putfield 32), .inl (.aload 0), .inl (.aload 1), .inl (.getfield 33), .inl (.putfield 33), .inl (.aload 0), .inl (.aload 1), .inl (.getfield 34), .inl (.putfield 34), .inl (.aload 0), .inl (.aload 1), .inl (.getfield 35), .inl (.putfield 35), .inl (.aload 1), .inl (.getfield 36), .inl (.iconst 0), .inl (.aload 0), .inl (.getfield 36), .inl (.iconst 0), .inl (.iconst 8), .inl .nop, .inr .return_]
def xm9 : List (Nat × List xI) := [(0, k9_0)]
/-- 10: DrawnFields$Field.valueBits()I -/
def k10_0 : List xI := [.inl (.iconst 1), .inl (.aload 0), .inl (.getfield 33), .inl (.iconst 1), .inl .iadd, .inl .ishl, .inl (.iconst 1), .inl (.aload 0), .inl (.getfield 32), .inl .ishl, .inl .isub, .inr .ireturn]
def xm10 : List (Nat × List xI) := [(0, k10_0)]
/-- 11: DrawnFields$Field.inTurn(I)I -/
def k11_0 : List xI := [.inl (.aload 0), .inl (.getfield 34), .inr (.ifCond .ne 9), .inl (.iload 1), .inr .ireturn]
def k11_9 : List xI := [.inl (.iload 1), .inl (.aload 0), .inl (.getfield 35), .inl (.iconst (-1)), .inl .ixor, .inl .iand, .inl (.istore 2), .inl (.iload 2), .inr (.ifCond .ne 29), .inl (.aload 0), .inl (.iconst 0), .inl (.putfield 35), .inl (.iload 1), .inr .ireturn]
def k11_29 : List xI := [.inl (.iload 2), .inr .ireturn]
def xm11 : List (Nat × List xI) := [(0, k11_0), (9, k11_9), (29, k11_29)]
/-- 12: DrawnFields$Field.weightOfValues(I)I -/
def k12_0 : List xI := [.inl (.iconst 0), .inl (.istore 2), .inl (.iconst 0), .inl (.istore 3), xto 4]
def k12_4 : List xI := [.inl (.iload 3), .inl (.iconst 8), .inr (.if_icmp .ge 33), .inl (.iload 1), .inl (.iload 3), .inl .ishr, .inl (.iconst 1), .inl .iand, .inr (.ifCond .eq 27), .inl (.iload 2), .inl (.aload 0), .inl (.getfield 36), .inl (.iload 3), .inl .iaload, .inl .iadd, .inl (.istore 2), xto 27]
def k12_27 : List xI := [.inl (.iinc 3 1), .inr (.goto 4)]
def k12_33 : List xI := [.inl (.iload 2), .inr .ireturn]
def xm12 : List (Nat × List xI) := [(0, k12_0), (4, k12_4), (27, k12_27), (33, k12_33)]
/-- 13: DrawnFields$Law.<init>()V -/
def k13_0 : List xI := [.inl (.aload 0), .inl .pop, .inl (.aload 0), .inl (.new 4), .inl .dup, .inr (.invokeinterface 22 1), .inl (.putfield 64), .inl (.aload 0), .inl (.new 4), .inl .dup, .inr (.invokeinterface 22 1), .inl (.putfield 67), .inl (.aload 0), .inl (.iconst 8), .inl (.anewarray 4), .inl (.putfield 68), .inl (.iconst 0), .inl (.istore 1), xto 37]
def k13_37 : List xI := [.inl (.iload 1), .inl (.iconst 8), .inr (.if_icmp .ge 62), .inl (.aload 0), .inl (.getfield 68), .inl (.iload 1), .inl (.new 4), .inl .dup, .inr (.invokeinterface 22 1), .inl .aastore, .inl (.iinc 1 1), .inr (.goto 37)]
def k13_62 : List xI := [.inr .return_]
def xm13 : List (Nat × List xI) := [(0, k13_0), (37, k13_37), (62, k13_62)]
/-- 14: DrawnFields$Law.look(LDrawnFields$State;)V -/
def k14_0 : List xI := [.inl (.aload 1), .inl (.getfield 200), .inr (.ifCond .eq 8), .inr .return_]
def k14_8 : List xI := [.inl (.aload 1), .inl (.iconst 1), .inl (.putfield 200), .inl (.aload 0), .inl (.getfield 67), .inr (.invokeinterface 27 1), .inl (.iconst 0), .inl (.istore 2), xto 22]
def k14_22 : List xI := [.inl (.iload 2), .inl (.iconst 4), .inr (.if_icmp .ge 50), .inl (.aload 0), .inl (.getfield 67), .inl (.iload 2), .inl (.aload 1), .inl (.getfield 193), .inl (.iload 2), .inl .aaload, .inr (.invokeinterface 10 1), .inr (.invokeinterface 30 3), .inl (.iinc 2 1), .inr (.goto 22)]
def k14_50 : List xI := [.inl (.iconst 0), .inl (.istore 2), .inl (.iconst 0), .inl (.istore 3), xto 54]
def k14_54 : List xI := [.inl (.iload 3), .inl (.aload 1), .inl (.getfield 195), .inr (.if_icmp .ge 102), .inl (.aload 0), .inl (.getfield 68), .inl (.iload 3), .inl .aaload, .inl (.aload 1), .inl (.getfield 196), .inl (.iload 3), .inl .aaload, .inr (.invokeinterface 28 2), .inl (.aload 1), .inl (.getfield 196), .inl (.iload 3), .inl .aaload, .inl (.getfield 164), .inl (.iconst (-1)), .inr (.if_icmp .ne 96), .inl (.iload 2), .inl (.iconst 1), .inl (.iload 3), .inl .ishl, .inl .ior, .inl (.istore 2), xto 96]
def k14_96 : List xI := [.inl (.iinc 3 1), .inr (.goto 54)]
def k14_102 : List xI := [.inl (.aload 0), .inl (.aload 0), .inl (.aload 1), .inl (.iload 2), .inr (.invokeinterface 15 3), .inl (.putfield 65), .inl (.aload 0), .inl (.aload 0), .inl (.iload 2), .inr (.invokeinterface 17 2), .inr (.ifCond .eq 125), .inl (.iconst 0), .inr (.goto 130)]
def k14_125 : List xI := [.inl (.aload 0), .inl (.iload 2), .inr (.invokeinterface 16 2), xto 130]
def k14_130 : List xI := [.inl (.putfield 66), .inl (.aload 0), .inl (.getfield 64), .inl (.aload 0), .inl (.getfield 67), .inr (.invokeinterface 26 2), .inl (.iconst 0), .inl (.istore 3), xto 146]
def k14_146 : List xI := [.inl (.iload 3), .inl (.aload 1), .inl (.getfield 195), .inr (.if_icmp .ge 184), .inl (.aload 0), .inl (.getfield 65), .inl (.iload 3), .inl .ishr, .inl (.iconst 1), .inl .iand, .inr (.ifCond .eq 178), .inl (.aload 0), .inl (.getfield 64), .inl (.aload 0), .inl (.getfield 68), .inl (.iload 3), .inl .aaload, .inr (.invokeinterface 29 2), xto 178]
def k14_178 : List xI := [.inl (.iinc 3 1), .inr (.goto 146)]
def k14_184 : List xI := [.inr .return_]
def xm14 : List (Nat × List xI) := [(0, k14_0), (8, k14_8), (22, k14_22), (50, k14_50), (54, k14_54), (96, k14_96), (102, k14_102), (125, k14_125), (130, k14_130), (146, k14_146), (178, k14_178), (184, k14_184)]
/-- 15: DrawnFields$Law.withSoft(LDrawnFields$State;I)I -/
def k15_0 : List xI := [.inl (.iload 2), .inl (.istore 3), .inl (.iconst 0), .inl (.istore 4), xto 5]
def k15_5 : List xI := [.inl (.iload 4), .inl (.iconst 10), .inr (.if_icmp .ge 71), .inl (.iconst 0), .inl (.istore 5), xto 15]
def k15_15 : List xI := [.inl (.iload 5), .inl (.aload 1), .inl (.getfield 195), .inr (.if_icmp .ge 65), .inl (.aload 1), .inl (.getfield 196), .inl (.iload 5), .inl .aaload, .inl (.getfield 164), .inl (.iload 4), .inr (.if_icmp .ne 59), .inl (.aload 0), .inl (.iload 3), .inl (.iconst 1), .inl (.iload 5), .inl .ishl, .inl .ior, .inr (.invokeinterface 17 2), .inr (.ifCond .eq 59), .inl (.iload 3), .inl (.iconst 1), .inl (.iload 5), .inl .ishl, .inl .ior, .inl (.istore 3), xto 59]
def k15_59 : List xI := [.inl (.iinc 5 1), .inr (.goto 15)]
def k15_65 : List xI := [.inl (.iinc 4 1), .inr (.goto 5)]
def k15_71 : List xI := [.inl (.iload 3), .inr .ireturn]
def xm15 : List (Nat × List xI) := [(0, k15_0), (5, k15_5), (15, k15_15), (59, k15_59), (65, k15_65), (71, k15_71)]
/-- 16: DrawnFields$Law.leastUnkept(I)I -/
def k16_0 : List xI := [.inl (.iload 1), .inl (.istore 2), .inl (.iconst 0), .inl (.istore 3), xto 4]
def k16_4 : List xI := [.inl (.iload 3), .inl (.iconst 8), .inr (.if_icmp .ge 43), .inl (.iload 2), .inl (.iconst 1), .inl (.iload 3), .inl .ishl, .inl (.iconst (-1)), .inl .ixor, .inl .iand, .inl (.istore 4), .inl (.iload 4), .inl (.iload 2), .inr (.if_icmp .eq 37), .inl (.aload 0), .inl (.iload 4), .inr (.invokeinterface 17 2), .inr (.ifCond .ne 37), .inl (.iload 4), .inl (.istore 2), xto 37]
def k16_37 : List xI := [.inl (.iinc 3 1), .inr (.goto 4)]
def k16_43 : List xI := [.inl (.iload 2), .inr .ireturn]
def xm16 : List (Nat × List xI) := [(0, k16_0), (4, k16_4), (37, k16_37), (43, k16_43)]
/-- 17: DrawnFields$Law.someRowKeeps(I)Z -/
def k17_0 : List xI := [.inl (.iconst 0), .inl (.istore 2), xto 2]
def k17_2 : List xI := [.inl (.iload 2), .inl (.iconst 64), .inr (.if_icmp .ge 78), .inl (.aload 0), .inl (.getfield 67), .inl (.getfield 128), .inl (.iload 2), .inl .laload, .inl (.lstore 3), .inl (.iconst 0), .inl (.istore 5), xto 21]
def k17_21 : List xI := [.inl (.iload 5), .inl (.iconst 8), .inr (.if_icmp .ge 64), .inl (.lload 3), .inl (.sipush 0), .inl .lcmp, .inr (.ifCond .eq 64), .inl (.iload 1), .inl (.iload 5), .inl .ishr, .inl (.iconst 1), .inl .iand, .inr (.ifCond .eq 58), .inl (.lload 3), .inl (.aload 0), .inl (.getfield 68), .inl (.iload 5), .inl .aaload, .inl (.getfield 128), .inl (.iload 2), .inl .laload, .inl .land, .inl (.lstore 3), xto 58]
def k17_58 : List xI := [.inl (.iinc 5 1), .inr (.goto 21)]
def k17_64 : List xI := [.inl (.lload 3), .inl (.sipush 0), .inl .lcmp, .inr (.ifCond .eq 72), .inl (.iconst 1), .inr .areturn]
def k17_72 : List xI := [.inl (.iinc 2 1), .inr (.goto 2)]
def k17_78 : List xI := [.inl (.iconst 0), .inr .areturn]
def xm17 : List (Nat × List xI) := [(0, k17_0), (2, k17_2), (21, k17_21), (58, k17_58), (64, k17_64), (72, k17_72), (78, k17_78)]
/-- 18: DrawnFields$Past.<init>()V -/
def k18_0 : List xI := [.inl (.aload 0), .inl .pop, .inl (.aload 0), .inl (.iconst 5), .inl (.anewarray 6), .inl (.putfield 97), .inl (.iconst 0), .inl (.istore 1), xto 14]
def k18_14 : List xI := [.inl (.iload 1), .inl (.iconst 4), .inr (.if_icmp .gt 38), .inl (.aload 0), .inl (.getfield 97), .inl (.iload 1), .inl (.new 6), .inl .dup, .inr (.invokeinterface 43 1), .inl .aastore, .inl (.iinc 1 1), .inr (.goto 14)]
def k18_38 : List xI := [.inr .return_]
def xm18 : List (Nat × List xI) := [(0, k18_0), (14, k18_14), (38, k18_38)]
/-- 19: DrawnFields$Past.mark(LDrawnFields$State;)V -/
def k19_0 : List xI := [.inl (.aload 0), .inl (.getfield 97), .inl (.aload 0), .inl (.getfield 96), .inl .aaload, .inl (.aload 1), .inr (.invokeinterface 44 2), .inr .return_]
def xm19 : List (Nat × List xI) := [(0, k19_0)]
/-- 20: DrawnFields$Past.keepMark()V -/
def k20_0 : List xI := [.inl (.aload 0), .inl (.getfield 96), .inl (.iconst 4), .inr (.if_icmp .ge 19), .inl (.aload 0), .inl .dup, .inl (.getfield 96), .inl (.iconst 1), .inl .iadd, .inl (.putfield 96), .inr .return_]
def k20_19 : List xI := [.inl (.aload 0), .inl (.getfield 97), .inl (.iconst 0), .inl .aaload, .inl (.astore 1), .inl (.iconst 0), .inl (.istore 2), xto 28]
def k20_28 : List xI := [.inl (.iload 2), .inl (.iconst 4), .inr (.if_icmp .ge 53), .inl (.aload 0), .inl (.getfield 97), .inl (.iload 2), .inl (.aload 0), .inl (.getfield 97), .inl (.iload 2), .inl (.iconst 1), .inl .iadd, .inl .aaload, .inl .aastore, .inl (.iinc 2 1), .inr (.goto 28)]
def k20_53 : List xI := [.inl (.aload 0), .inl (.getfield 97), .inl (.iconst 4), .inl (.aload 1), .inl .aastore, .inr .return_]
def xm20 : List (Nat × List xI) := [(0, k20_0), (19, k20_19), (28, k20_28), (53, k20_53)]
/-- 21: DrawnFields$Past.restore(LDrawnFields$State;)I -/
def k21_0 : List xI := [.inl (.aload 0), .inl (.getfield 96), .inr (.ifCond .ne 10), .inl (.iconst (-3)), .inr .ireturn]
def k21_10 : List xI := [.inl (.aload 0), .inl .dup, .inl (.getfield 96), .inl (.iconst 1), .inl .isub, .inl (.putfield 96), .inl (.aload 1), .inl (.aload 0), .inl (.getfield 97), .inl (.aload 0), .inl (.getfield 96), .inl .aaload, .inr (.invokeinterface 44 2), .inl (.aload 0), .inl (.getfield 96), .inr .ireturn]
def xm21 : List (Nat × List xI) := [(0, k21_0), (10, k21_10)]
/-- 22: DrawnFields$RowSet.<init>()V -/
def k22_0 : List xI := [.inl (.aload 0), .inl .pop, .inl (.aload 0), .inl (.iconst 64), .inl (.newarray .long), .inl (.putfield 128), .inr .return_]
def xm22 : List (Nat × List xI) := [(0, k22_0)]
/-- 23: DrawnFields$RowSet.wordValue(II)I -/
def k23_0 : List xI := [.inl (.iload 1), .inr (.ifCond .ne 10), .inl (.iload 0), .inl (.iconst 3), .inl .ishr, .inr (.goto 14)]
def k23_10 : List xI := [.inl (.iload 0), .inl (.iconst 7), .inl .iand, xto 14]
def k23_14 : List xI := [.inr .ireturn]
def xm23 : List (Nat × List xI) := [(0, k23_0), (10, k23_10), (14, k23_14)]
/-- 24: DrawnFields$RowSet.hasWord(III)Z -/
def k24_0 : List xI := [.inl (.iload 1), .inl (.iconst 2), .inr (.if_icmp .ge 17), .inl (.iload 2), .inl (.iload 0), .inl (.iload 1), .inr (.invokeinterface 23 2), .inl .ishr, .inl (.iconst 1), .inl .iand, .inr (.ifCond .eq 21), xto 17]
def k24_17 : List xI := [.inl (.iconst 1), .inr (.goto 22)]
def k24_21 : List xI := [.inl (.iconst 0), xto 22]
def k24_22 : List xI := [.inr .areturn]
def xm24 : List (Nat × List xI) := [(0, k24_0), (17, k24_17), (21, k24_21), (22, k24_22)]
/-- 25: DrawnFields$RowSet.withinWord(II)J -/
def k25_0 : List xI := [.inl (.iload 0), .inl (.iconst 2), .inr (.if_icmp .ge 9), .inl (.sipush (-1)), .inr .lreturn]
def k25_9 : List xI := [.inl (.sipush 0), .inl (.lstore 2), .inl (.iconst 0), .inl (.istore 4), xto 14]
def k25_14 : List xI := [.inl (.iload 4), .inl (.iconst 8), .inr (.if_icmp .ge 62), .inl (.iload 1), .inl (.iload 4), .inl .ishr, .inl (.iconst 1), .inl .iand, .inr (.ifCond .eq 56), .inl (.lload 2), .inl (.iload 0), .inl (.iconst 2), .inr (.if_icmp .ne 48), .inl (.sipush 255), .inl (.iconst 8), .inl (.iload 4), .inl .imul, .inl .lshl, .inr (.goto 54)]
def k25_48 : List xI := [.inl (.sipush 72340172838076673), .inl (.iload 4), .inl .lshl, xto 54]
def k25_54 : List xI := [.inl .lor, .inl (.lstore 2), xto 56]
def k25_56 : List xI := [.inl (.iinc 4 1), .inr (.goto 14)]
def k25_62 : List xI := [.inl (.lload 2), .inr .lreturn]
def xm25 : List (Nat × List xI) := [(0, k25_0), (9, k25_9), (14, k25_14), (48, k25_48), (54, k25_54), (56, k25_56), (62, k25_62)]
/-- 26: DrawnFields$RowSet.becomes(LDrawnFields$RowSet;)V -/
def k26_0 : List xI := [.inl (.aload 1), .inl (.getfield 128), .inl (.iconst 0), .inl (.aload 0), .inl (.getfield 128), .inl (.iconst 0), .inl (.iconst 64), .inl .nop, .inr .return_]
def xm26 : List (Nat × List xI) := [(0, k26_0)]
/-- 27: DrawnFields$RowSet.becomesAll()V -/
def k27_0 : List xI := [.inl (.iconst 0), .inl (.istore 1), xto 2]
def k27_2 : List xI := [.inl (.iload 1), .inl (.iconst 64), .inr (.if_icmp .ge 23), .inl (.aload 0), .inl (.getfield 128), .inl (.iload 1), .inl (.sipush (-1)), .inl .lastore, .inl (.iinc 1 1), .inr (.goto 2)]
def k27_23 : List xI := [.inr .return_]
def xm27 : List (Nat × List xI) := [(0, k27_0), (2, k27_2), (23, k27_23)]
/-- 28: DrawnFields$RowSet.becomesKeepersOf(LDrawnFields$Rule;)V -/
def k28_0 : List xI := [.inl (.iconst 0), .inl (.istore 2), xto 2]
def k28_2 : List xI := [.inl (.iload 2), .inl (.iconst 64), .inr (.if_icmp .ge 21), .inl (.aload 0), .inl (.getfield 128), .inl (.iload 2), .inl (.sipush 0), .inl .lastore, .inl (.iinc 2 1), .inr (.goto 2)]
def k28_21 : List xI := [.inl (.iconst 0), .inl (.istore 2), xto 23]
def k28_23 : List xI := [.inl (.iload 2), .inl (.iconst 8), .inr (.if_icmp .ge 118), .inl (.aload 1), .inl (.iload 2), .inr (.invokeinterface 42 2), .inl (.istore 3), .inl (.aload 1), .inl (.getfield 161), .inl (.iconst 1), .inl (.iload 2), .inl .ishl, .inr (.invokeinterface 25 2), .inl (.aload 1), .inl (.getfield 162), .inl (.iload 3), .inr (.invokeinterface 25 2), .inl .land, .inl (.lstore 4), .inl (.iconst 0), .inl (.istore 6), xto 59]
def k28_59 : List xI := [.inl (.iload 6), .inl (.iconst 64), .inr (.if_icmp .ge 112), .inl (.iload 6), .inl (.aload 1), .inl (.getfield 161), .inl (.iconst 1), .inl (.iload 2), .inl .ishl, .inr (.invokeinterface 24 3), .inr (.ifCond .eq 106), .inl (.iload 6), .inl (.aload 1), .inl (.getfield 162), .inl (.iload 3), .inr (.invokeinterface 24 3), .inr (.ifCond .eq 106), .inl (.aload 0), .inl (.getfield 128), .inl (.iload 6), .inl .dup2, .inl .laload, .inl (.lload 4), .inl .lor, .inl .lastore, xto 106]
def k28_106 : List xI := [.inl (.iinc 6 1), .inr (.goto 59)]
def k28_112 : List xI := [.inl (.iinc 2 1), .inr (.goto 23)]
def k28_118 : List xI := [.inr .return_]
def xm28 : List (Nat × List xI) := [(0, k28_0), (2, k28_2), (21, k28_21), (23, k28_23), (59, k28_59), (106, k28_106), (112, k28_112), (118, k28_118)]
/-- 29: DrawnFields$RowSet.keepRowsOf(LDrawnFields$RowSet;)V -/
def k29_0 : List xI := [.inl (.iconst 0), .inl (.istore 2), xto 2]
def k29_2 : List xI := [.inl (.iload 2), .inl (.iconst 64), .inr (.if_icmp .ge 29), .inl (.aload 0), .inl (.getfield 128), .inl (.iload 2), .inl .dup2, .inl .laload, .inl (.aload 1), .inl (.getfield 128), .inl (.iload 2), .inl .laload, .inl .land, .inl .lastore, .inl (.iinc 2 1), .inr (.goto 2)]
def k29_29 : List xI := [.inr .return_]
def xm29 : List (Nat × List xI) := [(0, k29_0), (2, k29_2), (29, k29_29)]
/-- 30: DrawnFields$RowSet.keepValues(II)V -/
def k30_0 : List xI := [.inl (.iload 1), .inl (.iload 2), .inr (.invokeinterface 25 2), .inl (.lstore 3), .inl (.iconst 0), .inl (.istore 5), xto 9]
def k30_9 : List xI := [.inl (.iload 5), .inl (.iconst 64), .inr (.if_icmp .ge 52), .inl (.aload 0), .inl (.getfield 128), .inl (.iload 5), .inl (.iload 5), .inl (.iload 1), .inl (.iload 2), .inr (.invokeinterface 24 3), .inr (.ifCond .eq 44), .inl (.aload 0), .inl (.getfield 128), .inl (.iload 5), .inl .laload, .inl (.lload 3), .inl .land, .inr (.goto 45)]
def k30_44 : List xI := [.inl (.sipush 0), xto 45]
def k30_45 : List xI := [.inl .lastore, .inl (.iinc 5 1), .inr (.goto 9)]
def k30_52 : List xI := [.inr .return_]
def xm30 : List (Nat × List xI) := [(0, k30_0), (9, k30_9), (44, k30_44), (45, k30_45), (52, k30_52)]
/-- 31: DrawnFields$RowSet.isEmpty()Z -/
def k31_0 : List xI := [.inl (.iconst 0), .inl (.istore 1), xto 2]
def k31_2 : List xI := [.inl (.iload 1), .inl (.iconst 64), .inr (.if_icmp .ge 27), .inl (.aload 0), .inl (.getfield 128), .inl (.iload 1), .inl .laload, .inl (.sipush 0), .inl .lcmp, .inr (.ifCond .eq 21), .inl (.iconst 0), .inr .areturn]
def k31_21 : List xI := [.inl (.iinc 1 1), .inr (.goto 2)]
def k31_27 : List xI := [.inl (.iconst 1), .inr .areturn]
def xm31 : List (Nat × List xI) := [(0, k31_0), (2, k31_2), (21, k31_21), (27, k31_27)]
/-- 32: DrawnFields$RowSet.size()I -/
def k32_0 : List xI := [.inl (.iconst 0), .inl (.istore 1), .inl (.iconst 0), .inl (.istore 2), xto 4]
def k32_4 : List xI := [.inl (.iload 2), .inl (.iconst 64), .inr (.if_icmp .ge 28), .inl (.iload 1), .inl (.aload 0), .inl (.getfield 128), .inl (.iload 2), .inl .laload, .inr (.invokeinterface 187 1), .inl .iadd, .inl (.istore 1), .inl (.iinc 2 1), .inr (.goto 4)]
def k32_28 : List xI := [.inl (.iload 1), .inr .ireturn]
def xm32 : List (Nat × List xI) := [(0, k32_0), (4, k32_4), (28, k32_28)]
/-- 33: DrawnFields$RowSet.valuesAt(I)I -/
def k33_0 : List xI := [.inl (.iconst 0), .inl (.istore 2), .inl (.sipush 0), .inl (.lstore 3), .inl (.iconst 0), .inl (.istore 5), xto 7]
def k33_7 : List xI := [.inl (.iload 5), .inl (.iconst 64), .inr (.if_icmp .ge 53), .inl (.aload 0), .inl (.getfield 128), .inl (.iload 5), .inl .laload, .inl (.sipush 0), .inl .lcmp, .inr (.ifCond .eq 47), .inl (.iload 2), .inl (.iconst 1), .inl (.iload 5), .inl (.iload 1), .inr (.invokeinterface 23 2), .inl .ishl, .inl .ior, .inl (.istore 2), .inl (.lload 3), .inl (.aload 0), .inl (.getfield 128), .inl (.iload 5), .inl .laload, .inl .lor, .inl (.lstore 3), xto 47]
def k33_47 : List xI := [.inl (.iinc 5 1), .inr (.goto 7)]
def k33_53 : List xI := [.inl (.iload 1), .inl (.iconst 2), .inr (.if_icmp .ge 62), .inl (.iload 2), .inr (.goto 67)]
def k33_62 : List xI := [.inl (.lload 3), .inl (.iload 1), .inr (.invokeinterface 34 2), xto 67]
def k33_67 : List xI := [.inr .ireturn]
def xm33 : List (Nat × List xI) := [(0, k33_0), (7, k33_7), (47, k33_47), (53, k33_53), (62, k33_62), (67, k33_67)]
/-- 34: DrawnFields$RowSet.valuesWithin(JI)I -/
def k34_0 : List xI := [.inl (.iconst 0), .inl (.istore 3), .inl (.iconst 0), .inl (.istore 4), xto 5]
def k34_5 : List xI := [.inl (.iload 4), .inl (.iconst 8), .inr (.if_icmp .ge 40), .inl (.lload 0), .inl (.iload 2), .inl (.iconst 1), .inl (.iload 4), .inl .ishl, .inr (.invokeinterface 25 2), .inl .land, .inl (.sipush 0), .inl .lcmp, .inr (.ifCond .eq 34), .inl (.iload 3), .inl (.iconst 1), .inl (.iload 4), .inl .ishl, .inl .ior, .inl (.istore 3), xto 34]
def k34_34 : List xI := [.inl (.iinc 4 1), .inr (.goto 5)]
def k34_40 : List xI := [.inl (.iload 3), .inr .ireturn]
def xm34 : List (Nat × List xI) := [(0, k34_0), (5, k34_5), (34, k34_34), (40, k34_40)]
/-- 35: DrawnFields$RowSet.codeAt(I)I -/
def k35_0 : List xI := [.inl (.iload 1), .inl (.istore 2), .inl (.iconst 0), .inl (.istore 3), xto 4]
def k35_4 : List xI := [.inl (.iload 3), .inl (.iconst 64), .inr (.if_icmp .ge 54), .inl (.aload 0), .inl (.getfield 128), .inl (.iload 3), .inl .laload, .inr (.invokeinterface 187 1), .inl (.istore 4), .inl (.iload 2), .inl (.iload 4), .inr (.if_icmp .ge 43), .inl (.iload 3), .inl (.iconst 64), .inl .imul, .inl (.aload 0), .inl (.getfield 128), .inl (.iload 3), .inl .laload, .inl (.iload 2), .inr (.invokeinterface 36 2), .inl .iadd, .inr .ireturn]
def k35_43 : List xI := [.inl (.iload 2), .inl (.iload 4), .inl .isub, .inl (.istore 2), .inl (.iinc 3 1), .inr (.goto 4)]
def k35_54 : List xI := [.inl (.iconst (-1)), .inr .ireturn]
def xm35 : List (Nat × List xI) := [(0, k35_0), (4, k35_4), (43, k35_43), (54, k35_54)]
/-- 36: DrawnFields$RowSet.bitAt(JI)I -/
def k36_0 : List xI := [.inl (.iload 2), .inl (.istore 3), .inl (.iconst 0), .inl (.istore 4), xto 5]
def k36_5 : List xI := [.inl (.iload 4), .inl (.iconst 64), .inr (.if_icmp .ge 39), .inl (.lload 0), .inl (.iload 4), .inl .lushr, .inl (.sipush 1), .inl .land, .inl (.sipush 0), .inl .lcmp, .inr (.ifCond .eq 33), .inl (.iload 3), .inr (.ifCond .ne 30), .inl (.iload 4), .inr .ireturn]
def k36_30 : List xI := [.inl (.iinc 3 (-1)), xto 33]
def k36_33 : List xI := [.inl (.iinc 4 1), .inr (.goto 5)]
def k36_39 : List xI := [.inl (.iconst 0), .inr .ireturn]
def xm36 : List (Nat × List xI) := [(0, k36_0), (5, k36_5), (30, k36_30), (33, k36_33), (39, k36_39)]
/-- 37: DrawnFields$RowSet.countAhead(I)I -/
def k37_0 : List xI := [.inl (.iconst 0), .inl (.istore 2), .inl (.iconst 0), .inl (.istore 3), xto 4]
def k37_4 : List xI := [.inl (.iload 3), .inl (.iconst 64), .inr (.if_icmp .ge 36), .inl (.iload 3), .inl (.iload 1), .inl (.iconst 64), .inl .idiv, .inr (.if_icmp .ge 36), .inl (.iload 2), .inl (.aload 0), .inl (.getfield 128), .inl (.iload 3), .inl .laload, .inr (.invokeinterface 187 1), .inl .iadd, .inl (.istore 2), .inl (.iinc 3 1), .inr (.goto 4)]
def k37_36 : List xI := [.inl (.sipush 1), .inl (.iload 1), .inl (.iconst 64), .inl .irem, .inl .lshl, .inl (.sipush 1), .inl .lsub, .inl (.lstore 3), .inl (.iload 2), .inl (.aload 0), .inl (.getfield 128), .inl (.iload 1), .inl (.iconst 64), .inl .idiv, .inl (.iconst 63), .inl .iand, .inl .laload, .inl (.lload 3), .inl .land, .inr (.invokeinterface 187 1), .inl .iadd, .inr .ireturn]
def xm37 : List (Nat × List xI) := [(0, k37_0), (4, k37_4), (36, k37_36)]
/-- 38: DrawnFields$RowSet.countBySum([I)V -/
def k38_0 : List xI := [.inl (.iconst 0), .inl (.istore 2), xto 2]
def k38_2 : List xI := [.inl (.iload 2), .inl (.iconst 29), .inr (.if_icmp .ge 24), .inl (.iload 2), .inl (.aload 1), .inl .arraylength, .inr (.if_icmp .ge 24), .inl (.aload 1), .inl (.iload 2), .inl (.iconst 0), .inl .iastore, .inl (.iinc 2 1), .inr (.goto 2)]
def k38_24 : List xI := [.inl (.iconst 0), .inl (.istore 2), xto 26]
def k38_26 : List xI := [.inl (.iload 2), .inl (.iconst 64), .inr (.if_icmp .ge 123), .inl (.iload 2), .inl (.iconst 0), .inr (.invokeinterface 23 2), .inl (.iload 2), .inl (.iconst 1), .inr (.invokeinterface 23 2), .inl .iadd, .inl (.istore 3), .inl (.iconst 0), .inl (.istore 4), xto 47]
def k38_47 : List xI := [.inl (.iload 4), .inl (.iconst 64), .inr (.if_icmp .ge 117), .inl (.aload 0), .inl (.getfield 128), .inl (.iload 2), .inl .laload, .inl (.sipush 0), .inl .lcmp, .inr (.ifCond .eq 117), .inl (.iload 3), .inl (.iload 4), .inl (.iconst 8), .inl .idiv, .inl .iadd, .inl (.iload 4), .inl (.iconst 8), .inl .irem, .inl .iadd, .inl (.istore 5), .inl (.aload 0), .inl (.getfield 128), .inl (.iload 2), .inl .laload, .inl (.iload 4), .inl .lushr, .inl (.sipush 1), .inl .land, .inl (.sipush 0), .inl .lcmp, .inr (.ifCond .eq 111), .inl (.iload 5), .inl (.aload 1), .inl .arraylength, .inr (.if_icmp .ge 111), .inl (.aload 1), .inl (.iload 5), .inl .dup2, .inl .iaload, .inl (.iconst 1), .inl .iadd, .inl .iastore, xto 111]
def k38_111 : List xI := [.inl (.iinc 4 1), .inr (.goto 47)]
def k38_117 : List xI := [.inl (.iinc 2 1), .inr (.goto 26)]
def k38_123 : List xI := [.inr .return_]
def xm38 : List (Nat × List xI) := [(0, k38_0), (2, k38_2), (24, k38_24), (26, k38_26), (47, k38_47), (111, k38_111), (117, k38_117), (123, k38_123)]
/-- 39: DrawnFields$Rule.<init>()V -/
def k39_0 : List xI := [.inl (.aload 0), .inl .pop, .inr .return_]
def xm39 : List (Nat × List xI) := [(0, k39_0)]
/-- 40: DrawnFields$Rule.becomes(LDrawnFields$Rule;)V -/
def k40_0 : List xI := [.inl (.aload 0), .inl (.aload 1), .inl (.getfield 160), .inl (.putfield 160), .inl (.aload 0), .inl (.aload 1), .inl (.getfield 161), .inl (.putfield 161), .inl (.aload 0), .inl (.aload 1), .inl (.getfield 162), .inl (.putfield 162), .inl (.aload 0), .inl (.aload 1), .inl (.getfield 163), .inl (.putfield 163), .inl (.aload 0), .inl (.aload 1), .inl (.getfield 164), .inl (.putfield 164), .inr .return_]
def xm40 : List (Nat × List xI) := [(0, k40_0)]
/-- 41: DrawnFields$Rule.isKeptBy(II)Z -/
def k41_0 : List xI := [.inl (.aload 0), .inl (.getfield 160), .inr (.lookupswitch 123 #[(0, 40), (1, 56), (2, 67), (3, 78), (4, 95)])]
def k41_40 : List xI := [.inl (.iload 1), .inl (.iload 2), .inl .iadd, .inl (.aload 0), .inl (.getfield 163), .inr (.if_icmp .ne 54), .inl (.iconst 1), .inr (.goto 55)]
def k41_54 : List xI := [.inl (.iconst 0), xto 55]
def k41_55 : List xI := [.inr .areturn]
def k41_56 : List xI := [.inl (.iload 1), .inl (.iload 2), .inr (.if_icmp .ge 65), .inl (.iconst 1), .inr (.goto 66)]
def k41_65 : List xI := [.inl (.iconst 0), xto 66]
def k41_66 : List xI := [.inr .areturn]
def k41_67 : List xI := [.inl (.iload 1), .inl (.iload 2), .inr (.if_icmp .eq 76), .inl (.iconst 1), .inr (.goto 77)]
def k41_76 : List xI := [.inl (.iconst 0), xto 77]
def k41_77 : List xI := [.inr .areturn]
def k41_78 : List xI := [.inl (.aload 0), .inl (.getfield 163), .inl (.iload 1), .inl .ishr, .inl (.iconst 1), .inl .iand, .inr (.ifCond .eq 93), .inl (.iconst 1), .inr (.goto 94)]
def k41_93 : List xI := [.inl (.iconst 0), xto 94]
def k41_94 : List xI := [.inr .areturn]
def k41_95 : List xI := [.inl (.iload 1), .inl (.aload 0), .inl (.getfield 163), .inl (.iconst 8), .inl .idiv, .inr (.if_icmp .ne 117), .inl (.iload 2), .inl (.aload 0), .inl (.getfield 163), .inl (.iconst 8), .inl .irem, .inr (.if_icmp .ne 121), xto 117]
def k41_117 : List xI := [.inl (.iconst 1), .inr (.goto 122)]
def k41_121 : List xI := [.inl (.iconst 0), xto 122]
def k41_122 : List xI := [.inr .areturn]
def k41_123 : List xI := [.inl (.iload 1), .inl (.iload 2), .inl .isub, .inl (.aload 0), .inl (.getfield 163), .inr (.if_icmp .ge 143), .inl (.iload 2), .inl (.iload 1), .inl .isub, .inl (.aload 0), .inl (.getfield 163), .inr (.if_icmp .lt 147), xto 143]
def k41_143 : List xI := [.inl (.iconst 1), .inr (.goto 148)]
def k41_147 : List xI := [.inl (.iconst 0), xto 148]
def k41_148 : List xI := [.inr .areturn]
def xm41 : List (Nat × List xI) := [(0, k41_0), (40, k41_40), (54, k41_54), (55, k41_55), (56, k41_56), (65, k41_65), (66, k41_66), (67, k41_67), (76, k41_76), (77, k41_77), (78, k41_78), (93, k41_93), (94, k41_94), (95, k41_95), (117, k41_117), (121, k41_121), (122, k41_122), (123, k41_123), (143, k41_143), (147, k41_147), (148, k41_148)]
/-- 42: DrawnFields$Rule.partnersOf(I)I -/
def k42_0 : List xI := [.inl (.iconst 0), .inl (.istore 2), .inl (.iconst 0), .inl (.istore 3), xto 4]
def k42_4 : List xI := [.inl (.iload 3), .inl (.iconst 8), .inr (.if_icmp .ge 31), .inl (.aload 0), .inl (.iload 1), .inl (.iload 3), .inr (.invokeinterface 41 3), .inr (.ifCond .eq 25), .inl (.iload 2), .inl (.iconst 1), .inl (.iload 3), .inl .ishl, .inl .ior, .inl (.istore 2), xto 25]
def k42_25 : List xI := [.inl (.iinc 3 1), .inr (.goto 4)]
def k42_31 : List xI := [.inl (.iload 2), .inr .ireturn]
def xm42 : List (Nat × List xI) := [(0, k42_0), (4, k42_4), (25, k42_25), (31, k42_31)]
/-- 43: DrawnFields$State.<init>()V -/
def k43_0 : List xI := [.inl (.aload 0), .inl .pop, .inl (.aload 0), .inl (.iconst 4), .inl (.anewarray 1), .inl (.putfield 193), .inl (.aload 0), .inl (.iconst 4), .inl (.newarray .int), .inl (.putfield 194), .inl (.aload 0), .inl (.iconst 8), .inl (.anewarray 5), .inl (.putfield 196), .inl (.aload 0), .inl (.iconst (-1)), .inl (.putfield 197), .inl (.aload 0), .inl (.iconst 16), .inl (.newarray .int), .inl (.putfield 199), .inl (.iconst 0), .inl (.istore 1), xto 43]
def k43_43 : List xI := [.inl (.iload 1), .inl (.iconst 4), .inr (.if_icmp .ge 67), .inl (.aload 0), .inl (.getfield 193), .inl (.iload 1), .inl (.new 1), .inl .dup, .inr (.invokeinterface 7 1), .inl .aastore, .inl (.iinc 1 1), .inr (.goto 43)]
def k43_67 : List xI := [.inl (.iconst 0), .inl (.istore 1), xto 69]
def k43_69 : List xI := [.inl (.iload 1), .inl (.iconst 8), .inr (.if_icmp .ge 94), .inl (.aload 0), .inl (.getfield 196), .inl (.iload 1), .inl (.new 5), .inl .dup, .inr (.invokeinterface 39 1), .inl .aastore, .inl (.iinc 1 1), .inr (.goto 69)]
def k43_94 : List xI := [.inr .return_]
def xm43 : List (Nat × List xI) := [(0, k43_0), (43, k43_43), (67, k43_67), (69, k43_69), (94, k43_94)]
/-- 44: DrawnFields$State.becomes(LDrawnFields$State;)V -/
def k44_0 : List xI := [.inl (.aload 0), .inl (.aload 1), .inl (.getfield 192), .inl (.putfield 192), .inl (.iconst 0), .inl (.istore 2), xto 10]
def k44_10 : List xI := [.inl (.iload 2), .inl (.iconst 4), .inr (.if_icmp .ge 36), .inl (.aload 0), .inl (.getfield 193), .inl (.iload 2), .inl .aaload, .inl (.aload 1), .inl (.getfield 193), .inl (.iload 2), .inl .aaload, .inr (.invokeinterface 9 2), .inl (.iinc 2 1), .inr (.goto 10)]
def k44_36 : List xI := [.inl (.aload 1), .inl (.getfield 194), .inl (.iconst 0), .inl (.aload 0), .inl (.getfield 194), .inl (.iconst 0), .inl (.iconst 4), .inl .nop, .inl (.aload 0), .inl (.aload 1), .inl (.getfield 195), .inl (.putfield 195), .inl (.iconst 0), .inl (.istore 2), xto 60]
def k44_60 : List xI := [.inl (.iload 2), .inl (.aload 0), .inl (.getfield 195), .inr (.if_icmp .ge 89), .inl (.aload 0), .inl (.getfield 196), .inl (.iload 2), .inl .aaload, .inl (.aload 1), .inl (.getfield 196), .inl (.iload 2), .inl .aaload, .inr (.invokeinterface 40 2), .inl (.iinc 2 1), .inr (.goto 60)]
def k44_89 : List xI := [.inl (.aload 0), .inl (.aload 1), .inl (.getfield 197), .inl (.putfield 197), .inl (.aload 0), .inl (.aload 1), .inl (.getfield 198), .inl (.putfield 198), .inl (.aload 1), .inl (.getfield 199), .inl (.iconst 0), .inl (.aload 0), .inl (.getfield 199), .inl (.iconst 0), .inl (.aload 0), .inl (.getfield 198), .inl .nop, .inl (.aload 0), .inl (.iconst 0), .inl (.putfield 200), .inr .return_]
def xm44 : List (Nat × List xI) := [(0, k44_0), (10, k44_10), (36, k44_36), (60, k44_60), (89, k44_89)]
/-- 45: DrawnFields$State.hasField(I)Z -/
def k45_0 : List xI := [.inl (.iload 1), .inr (.ifCond .lt 16), .inl (.iload 1), .inl (.aload 0), .inl (.getfield 192), .inr (.if_icmp .ge 16), .inl (.iconst 1), .inr (.goto 17)]
def k45_16 : List xI := [.inl (.iconst 0), xto 17]
def k45_17 : List xI := [.inr .areturn]
def xm45 : List (Nat × List xI) := [(0, k45_0), (16, k45_16), (17, k45_17)]
/-- 46: DrawnFields$State.hasRule(I)Z -/
def k46_0 : List xI := [.inl (.iload 1), .inr (.ifCond .lt 16), .inl (.iload 1), .inl (.aload 0), .inl (.getfield 195), .inr (.if_icmp .ge 16), .inl (.iconst 1), .inr (.goto 17)]
def k46_16 : List xI := [.inl (.iconst 0), xto 17]
def k46_17 : List xI := [.inr .areturn]
def xm46 : List (Nat × List xI) := [(0, k46_0), (16, k46_16), (17, k46_17)]
/-- 47: DrawnFields$State.isRule(IIII)Z -/
def k47_0 : List xI := [.inl (.iload 1), .inr (.ifCond .lt 25), .inl (.iload 1), .inl (.iconst 5), .inr (.if_icmp .gt 25), .inl (.aload 0), .inl (.iload 2), .inr (.invokeinterface 45 2), .inr (.ifCond .eq 25), .inl (.aload 0), .inl (.iload 3), .inr (.invokeinterface 45 2), .inr (.ifCond .ne 27), xto 25]
def k47_25 : List xI := [.inl (.iconst 0), .inr .areturn]
def k47_27 : List xI := [.inl (.iload 2), .inl (.iload 3), .inr (.if_icmp .ne 36), .inl (.iconst 1), .inr (.goto 37)]
def k47_36 : List xI := [.inl (.iconst 0), xto 37]
def k47_37 : List xI := [.inl (.iload 1), .inl (.iconst 3), .inr (.if_icmp .ne 46), .inl (.iconst 1), .inr (.goto 47)]
def k47_46 : List xI := [.inl (.iconst 0), xto 47]
def k47_47 : List xI := [.inr (.if_icmp .ne 69), .inl (.iload 4), .inr (.ifCond .lt 69), .inl (.iload 4), .inl (.getstatic 0), .inl (.iload 1), .inl .iaload, .inr (.if_icmp .gt 69), .inl (.iconst 1), .inr (.goto 70)]
def k47_69 : List xI := [.inl (.iconst 0), xto 70]
def k47_70 : List xI := [.inr .areturn]
def xm47 : List (Nat × List xI) := [(0, k47_0), (25, k47_25), (27, k47_27), (36, k47_36), (37, k47_37), (46, k47_46), (47, k47_47), (69, k47_69), (70, k47_70)]
/-- 48: DrawnFields$State.addField(II)I -/
def k48_0 : List xI := [.inl (.aload 0), .inl (.getfield 192), .inl (.istore 3), .inl (.aload 0), .inl (.getfield 193), .inl (.iload 3), .inl .aaload, .inl (.iload 1), .inl (.iload 2), .inr (.invokeinterface 8 3), .inl (.aload 0), .inl (.getfield 194), .inl (.iload 3), .inl (.iload 3), .inl .iastore, .inl (.aload 0), .inl .dup, .inl (.getfield 192), .inl (.iconst 1), .inl .iadd, .inl (.putfield 192), .inl (.aload 0), .inr (.invokeinterface 51 1), .inl (.iload 3), .inr .ireturn]
def xm48 : List (Nat × List xI) := [(0, k48_0)]
/-- 49: DrawnFields$State.addRule(IIIII)I -/
def k49_0 : List xI := [.inl (.aload 0), .inl (.getfield 196), .inl (.aload 0), .inl (.getfield 195), .inl .aaload, .inl (.astore 6), .inl (.aload 6), .inl (.iload 1), .inl (.putfield 160), .inl (.aload 6), .inl (.iload 2), .inl (.putfield 161), .inl (.aload 6), .inl (.iload 3), .inl (.putfield 162), .inl (.aload 6), .inl (.iload 4), .inl (.putfield 163), .inl (.aload 6), .inl (.iload 5), .inl (.putfield 164), .inl (.aload 0), .inl .dup, .inl (.getfield 195), .inl (.iconst 1), .inl .iadd, .inl (.putfield 195), .inl (.aload 0), .inr (.invokeinterface 51 1), .inl (.aload 0), .inl (.getfield 195), .inl (.iconst 1), .inl .isub, .inr .ireturn]
def xm49 : List (Nat × List xI) := [(0, k49_0)]
/-- 50: DrawnFields$State.dropRule(I)I -/
def k50_0 : List xI := [.inl (.aload 0), .inl .dup, .inl (.getfield 195), .inl (.iconst 1), .inl .isub, .inl (.putfield 195), .inl (.iload 1), .inl (.istore 2), xto 12]
def k50_12 : List xI := [.inl (.iload 2), .inl (.aload 0), .inl (.getfield 195), .inr (.if_icmp .ge 43), .inl (.aload 0), .inl (.getfield 196), .inl (.iload 2), .inl .aaload, .inl (.aload 0), .inl (.getfield 196), .inl (.iload 2), .inl (.iconst 1), .inl .iadd, .inl .aaload, .inr (.invokeinterface 40 2), .inl (.iinc 2 1), .inr (.goto 12)]
def k50_43 : List xI := [.inl (.aload 0), .inr (.invokeinterface 51 1), .inl (.aload 0), .inl (.getfield 195), .inr .ireturn]
def xm50 : List (Nat × List xI) := [(0, k50_0), (12, k50_12), (43, k50_43)]
/-- 51: DrawnFields$State.emptyDrawn()V -/
def k51_0 : List xI := [.inl (.aload 0), .inl (.iconst (-1)), .inl (.putfield 197), .inl (.aload 0), .inl (.iconst 0), .inl (.putfield 198), .inl (.iconst 0), .inl (.istore 1), xto 12]
def k51_12 : List xI := [.inl (.iload 1), .inl (.iconst 4), .inr (.if_icmp .ge 33), .inl (.aload 0), .inl (.getfield 193), .inl (.iload 1), .inl .aaload, .inl (.iconst 0), .inl (.putfield 35), .inl (.iinc 1 1), .inr (.goto 12)]
def k51_33 : List xI := [.inl (.aload 0), .inl (.iconst 0), .inl (.putfield 200), .inr .return_]
def xm51 : List (Nat × List xI) := [(0, k51_0), (12, k51_12), (33, k51_33)]
/-- 52: DrawnFields$State.placeInOrder(I)I -/
def k52_0 : List xI := [.inl (.iconst 0), .inl (.istore 2), xto 2]
def k52_2 : List xI := [.inl (.iload 2), .inl (.aload 0), .inl (.getfield 192), .inr (.if_icmp .ge 28), .inl (.aload 0), .inl (.getfield 194), .inl (.iload 2), .inl .iaload, .inl (.iload 1), .inr (.if_icmp .ne 22), .inl (.iload 2), .inr .ireturn]
def k52_22 : List xI := [.inl (.iinc 2 1), .inr (.goto 2)]
def k52_28 : List xI := [.inl (.iconst (-1)), .inr .ireturn]
def xm52 : List (Nat × List xI) := [(0, k52_0), (2, k52_2), (22, k52_22), (28, k52_28)]
/-- 53: DrawnFields$State.moveInOrder(II)I -/
def k53_0 : List xI := [.inl (.aload 0), .inl (.iload 1), .inr (.invokeinterface 52 2), .inl (.istore 3), .inl (.iload 3), .inl (.istore 4), xto 9]
def k53_9 : List xI := [.inl (.iload 4), .inr (.ifCond .lt 42), .inl (.iload 4), .inl (.iload 2), .inr (.if_icmp .ge 42), .inl (.aload 0), .inl (.getfield 194), .inl (.iload 4), .inl (.aload 0), .inl (.getfield 194), .inl (.iload 4), .inl (.iconst 1), .inl .iadd, .inl .iaload, .inl .iastore, .inl (.iinc 4 1), .inr (.goto 9)]
def k53_42 : List xI := [.inl (.iload 3), .inl (.istore 4), xto 45]
def k53_45 : List xI := [.inl (.iload 4), .inl (.iload 2), .inr (.if_icmp .le 73), .inl (.aload 0), .inl (.getfield 194), .inl (.iload 4), .inl (.aload 0), .inl (.getfield 194), .inl (.iload 4), .inl (.iconst 1), .inl .isub, .inl .iaload, .inl .iastore, .inl (.iinc 4 (-1)), .inr (.goto 45)]
def k53_73 : List xI := [.inl (.aload 0), .inl (.getfield 194), .inl (.iload 2), .inl (.iload 1), .inl .iastore, .inl (.iload 3), .inr .ireturn]
def xm53 : List (Nat × List xI) := [(0, k53_0), (9, k53_9), (42, k53_42), (45, k53_45), (73, k53_73)]
/-- 54: DrawnFields$State.factOfField(II)I -/
def k54_0 : List xI := [.inl (.iload 2), .inr (.lookupswitch 82 #[(0, 36), (1, 46), (2, 56), (3, 66), (4, 72)])]
def k54_36 : List xI := [.inl (.aload 0), .inl (.getfield 193), .inl (.iload 1), .inl .aaload, .inl (.getfield 32), .inr .ireturn]
def k54_46 : List xI := [.inl (.aload 0), .inl (.getfield 193), .inl (.iload 1), .inl .aaload, .inl (.getfield 33), .inr .ireturn]
def k54_56 : List xI := [.inl (.aload 0), .inl (.getfield 193), .inl (.iload 1), .inl .aaload, .inl (.getfield 34), .inr .ireturn]
def k54_66 : List xI := [.inl (.aload 0), .inl (.iload 1), .inr (.invokeinterface 52 2), .inr .ireturn]
def k54_72 : List xI := [.inl (.aload 0), .inl (.getfield 193), .inl (.iload 1), .inl .aaload, .inl (.getfield 35), .inr .ireturn]
def k54_82 : List xI := [.inl (.aload 0), .inl (.getfield 197), .inl (.iconst (-1)), .inr (.if_icmp .ne 94), .inl (.iconst (-1)), .inr (.goto 102)]
def k54_94 : List xI := [.inl (.aload 0), .inl (.getfield 197), .inl (.iload 1), .inr (.invokeinterface 98 2), xto 102]
def k54_102 : List xI := [.inr .ireturn]
def xm54 : List (Nat × List xI) := [(0, k54_0), (36, k54_36), (46, k54_46), (56, k54_56), (66, k54_66), (72, k54_72), (82, k54_82), (94, k54_94), (102, k54_102)]
/-- 55: DrawnFields$State.noteDraw(I)V -/
def k55_0 : List xI := [.inl (.iconst 0), .inl (.istore 2), xto 2]
def k55_2 : List xI := [.inl (.iload 2), .inl (.aload 0), .inl (.getfield 192), .inr (.if_icmp .ge 50), .inl (.aload 0), .inl (.getfield 193), .inl (.iload 2), .inl .aaload, .inl (.getfield 34), .inl (.iconst 1), .inr (.if_icmp .ne 44), .inl (.aload 0), .inl (.getfield 193), .inl (.iload 2), .inl .aaload, .inl .dup, .inl (.getfield 35), .inl (.iconst 1), .inl (.iload 1), .inl (.iload 2), .inr (.invokeinterface 98 2), .inl .ishl, .inl .ior, .inl (.putfield 35), xto 44]
def k55_44 : List xI := [.inl (.iinc 2 1), .inr (.goto 2)]
def k55_50 : List xI := [.inl (.aload 0), .inl (.iload 1), .inl (.putfield 197), .inl (.iconst 0), .inl (.istore 2), xto 57]
def k55_57 : List xI := [.inl (.iload 2), .inl (.aload 0), .inl (.getfield 198), .inr (.if_icmp .ge 82), .inl (.aload 0), .inl (.getfield 199), .inl (.iload 2), .inl .iaload, .inl (.iload 1), .inr (.if_icmp .ne 76), .inr .return_]
def k55_76 : List xI := [.inl (.iinc 2 1), .inr (.goto 57)]
def k55_82 : List xI := [.inl (.aload 0), .inl (.getfield 198), .inl (.iconst 16), .inr (.if_icmp .ge 111), .inl (.aload 0), .inl (.getfield 199), .inl (.aload 0), .inl (.getfield 198), .inl (.iload 1), .inl .iastore, .inl (.aload 0), .inl .dup, .inl (.getfield 198), .inl (.iconst 1), .inl .iadd, .inl (.putfield 198), xto 111]
def k55_111 : List xI := [.inr .return_]
def xm55 : List (Nat × List xI) := [(0, k55_0), (2, k55_2), (44, k55_44), (50, k55_50), (57, k55_57), (76, k55_76), (82, k55_82), (111, k55_111)]
/-- 56: DrawnFields$State.weightOfRow(I)I -/
def k56_0 : List xI := [.inl (.iconst 1), .inl (.istore 2), .inl (.iconst 0), .inl (.istore 3), xto 4]
def k56_4 : List xI := [.inl (.iload 3), .inl (.iconst 4), .inr (.if_icmp .ge 33), .inl (.iload 2), .inl (.aload 0), .inl (.getfield 193), .inl (.iload 3), .inl .aaload, .inl (.getfield 36), .inl (.iload 1), .inl (.iload 3), .inr (.invokeinterface 98 2), .inl .iaload, .inl .imul, .inl (.istore 2), .inl (.iinc 3 1), .inr (.goto 4)]
def k56_33 : List xI := [.inl (.iload 2), .inr .ireturn]
def xm56 : List (Nat × List xI) := [(0, k56_0), (4, k56_4), (33, k56_33)]
/-- 57: DrawnFields$State.weightOfRows(LDrawnFields$RowSet;)I -/
def k57_0 : List xI := [.inl (.iconst 0), .inl (.istore 2), .inl (.iconst 0), .inl (.istore 3), xto 4]
def k57_4 : List xI := [.inl (.iload 3), .inl (.iconst 64), .inr (.if_icmp .ge 30), .inl (.iload 2), .inl (.aload 0), .inl (.iload 3), .inl (.aload 1), .inl (.getfield 128), .inl (.iload 3), .inl .laload, .inr (.invokeinterface 58 3), .inl .iadd, .inl (.istore 2), .inl (.iinc 3 1), .inr (.goto 4)]
def k57_30 : List xI := [.inl (.iload 2), .inr .ireturn]
def xm57 : List (Nat × List xI) := [(0, k57_0), (4, k57_4), (30, k57_30)]
/-- 58: DrawnFields$State.weightOfWord(IJ)I -/
def k58_0 : List xI := [.inl (.aload 0), .inl (.getfield 193), .inl (.iconst 0), .inl .aaload, .inl (.getfield 36), .inl (.iload 1), .inl (.iconst 0), .inr (.invokeinterface 23 2), .inl .iaload, .inl (.aload 0), .inl (.getfield 193), .inl (.iconst 1), .inl .aaload, .inl (.getfield 36), .inl (.iload 1), .inl (.iconst 1), .inr (.invokeinterface 23 2), .inl .iaload, .inl .imul, .inl (.istore 4), .inl (.lload 2), .inl (.sipush 0), .inl .lcmp, .inr (.ifCond .eq 44), .inl (.iload 4), .inr (.ifCond .ne 46), xto 44]
def k58_44 : List xI := [.inl (.iconst 0), .inr .ireturn]
def k58_46 : List xI := [.inl (.iconst 0), .inl (.istore 5), .inl (.iconst 0), .inl (.istore 6), xto 52]
def k58_52 : List xI := [.inl (.iload 6), .inl (.iconst 8), .inr (.if_icmp .ge 113), .inl (.lload 2), .inl (.iconst 8), .inl (.iload 6), .inl .imul, .inl .lushr, .inl .l2i, .inl (.iconst 255), .inl .iand, .inl (.istore 7), .inl (.iload 7), .inr (.ifCond .eq 107), .inl (.iload 5), .inl (.aload 0), .inl (.getfield 193), .inl (.iconst 2), .inl .aaload, .inl (.getfield 36), .inl (.iload 6), .inl .iaload, .inl (.aload 0), .inl (.getfield 193), .inl (.iconst 3), .inl .aaload, .inl (.iload 7), .inr (.invokeinterface 12 2), .inl .imul, .inl .iadd, .inl (.istore 5), xto 107]
def k58_107 : List xI := [.inl (.iinc 6 1), .inr (.goto 52)]
def k58_113 : List xI := [.inl (.iload 4), .inl (.iload 5), .inl .imul, .inr .ireturn]
def xm58 : List (Nat × List xI) := [(0, k58_0), (44, k58_44), (46, k58_46), (52, k58_52), (107, k58_107), (113, k58_113)]
/-- 59: DrawnFields$Text.<init>()V -/
def k59_0 : List xI := [.inl (.aload 0), .inl .pop, .inl (.aload 0), .inl (.iconst 5), .inl (.newarray .int), .inl (.putfield 227), .inl (.aload 0), .inl (.iconst 150), .inl (.newarray .int), .inl (.putfield 228), .inr .return_]
def xm59 : List (Nat × List xI) := [(0, k59_0)]
/-- 60: DrawnFields$Text.add(I)I -/
def k60_0 : List xI := [.inl (.aload 0), .inl (.getfield 224), .inl (.iconst 150), .inr (.if_icmp .ne 13), .inl (.iconst (-4)), .inr .ireturn]
def k60_13 : List xI := [.inl (.aload 0), .inl (.getfield 228), .inl (.aload 0), .inl (.getfield 224), .inl (.iload 1), .inl .iastore, .inl (.aload 0), .inl .dup, .inl (.getfield 224), .inl (.iconst 1), .inl .iadd, .inl (.putfield 224), .inl (.aload 0), .inl (.getfield 224), .inr .ireturn]
def xm60 : List (Nat × List xI) := [(0, k60_0), (13, k60_13)]
/-- 61: DrawnFields$Text.findFault()I -/
def k61_0 : List xI := [.inl (.aload 0), .inl (.iconst 0), .inl (.putfield 225), .inl (.iconst 0), .inl (.istore 1), xto 7]
def k61_7 : List xI := [.inl (.iload 1), .inl (.iconst 150), .inr (.if_icmp .gt 45), .inl (.aload 0), .inr (.invokeinterface 62 1), .inr (.ifCond .ne 26), .inl (.aload 0), .inl (.getfield 225), .inr .ireturn]
def k61_26 : List xI := [.inl (.aload 0), .inl (.getfield 225), .inl (.aload 0), .inl (.getfield 224), .inr (.if_icmp .ne 39), .inl (.iconst (-1)), .inr .ireturn]
def k61_39 : List xI := [.inl (.iinc 1 1), .inr (.goto 7)]
def k61_45 : List xI := [.inl (.aload 0), .inl (.getfield 225), .inr .ireturn]
def xm61 : List (Nat × List xI) := [(0, k61_0), (7, k61_7), (26, k61_26), (39, k61_39), (45, k61_45)]
/-- 62: DrawnFields$Text.readOrder()Z -/
def k62_0 : List xI := [.inl (.aload 0), .inr (.invokeinterface 66 1), .inl (.aload 0), .inl (.getfield 225), .inl (.aload 0), .inl (.getfield 224), .inr (.if_icmp .ge 30), .inl (.aload 0), .inl (.getfield 228), .inl (.aload 0), .inl (.getfield 225), .inl .iaload, .inr (.invokeinterface 63 1), .inr (.goto 31)]
def k62_30 : List xI := [.inl (.iconst 0), xto 31]
def k62_31 : List xI := [.inl (.istore 1), .inl (.iload 1), .inr (.ifCond .ne 38), .inl (.iconst 0), .inr .areturn]
def k62_38 : List xI := [.inl (.aload 0), .inl (.aload 0), .inl (.getfield 228), .inl (.aload 0), .inl (.getfield 225), .inl .iaload, .inl (.putfield 226), .inl (.aload 0), .inl .dup, .inl (.getfield 225), .inl (.iconst 1), .inl .iadd, .inl (.putfield 225), .inl (.iconst 0), .inl (.istore 2), xto 63]
def k62_63 : List xI := [.inl (.iload 2), .inl (.iload 1), .inr (.if_icmp .ge 88), .inl (.aload 0), .inr (.invokeinterface 66 1), .inl (.aload 0), .inl (.iload 2), .inr (.invokeinterface 64 2), .inr (.ifCond .ne 82), .inl (.iconst 0), .inr .areturn]
def k62_82 : List xI := [.inl (.iinc 2 1), .inr (.goto 63)]
def k62_88 : List xI := [.inl (.aload 0), .inr (.invokeinterface 66 1), .inl (.aload 0), .inl (.getfield 225), .inl (.aload 0), .inl (.getfield 224), .inr (.if_icmp .ge 117), .inl (.aload 0), .inl (.getfield 228), .inl (.aload 0), .inl (.getfield 225), .inl .iaload, .inl (.iconst 59), .inr (.if_icmp .eq 119), xto 117]
def k62_117 : List xI := [.inl (.iconst 0), .inr .areturn]
def k62_119 : List xI := [.inl (.aload 0), .inl .dup, .inl (.getfield 225), .inl (.iconst 1), .inl .iadd, .inl (.putfield 225), .inl (.aload 0), .inr (.invokeinterface 66 1), .inl (.iconst 1), .inr .areturn]
def xm62 : List (Nat × List xI) := [(0, k62_0), (30, k62_30), (31, k62_31), (38, k62_38), (63, k62_63), (82, k62_82), (88, k62_88), (117, k62_117), (119, k62_119)]
/-- 63: DrawnFields$Text.numbersBehind(I)I -/
def k63_0 : List xI := [.inl (.iload 0), .inr (.lookupswitch 110 #[(100, 100), (101, 110), (102, 102), (103, 110), (104, 106), (105, 110), (106, 110), (107, 110), (108, 110), (109, 110), (110, 110), (111, 100), (112, 110), (113, 110), (114, 100), (115, 108), (116, 110), (117, 110), (118, 110), (119, 104), (120, 100)])]
def k63_100 : List xI := [.inl (.iconst 1), .inr .ireturn]
def k63_102 : List xI := [.inl (.iconst 2), .inr .ireturn]
def k63_104 : List xI := [.inl (.iconst 3), .inr .ireturn]
def k63_106 : List xI := [.inl (.iconst 4), .inr .ireturn]
def k63_108 : List xI := [.inl (.iconst 5), .inr .ireturn]
def k63_110 : List xI := [.inl (.iconst 0), .inr .ireturn]
def xm63 : List (Nat × List xI) := [(0, k63_0), (100, k63_100), (102, k63_102), (104, k63_104), (106, k63_106), (108, k63_108), (110, k63_110)]
/-- 64: DrawnFields$Text.readNumber(I)Z -/
def k64_0 : List xI := [.inl (.iconst 0), .inl (.istore 2), .inl (.iconst 0), .inl (.istore 3), xto 4]
def k64_4 : List xI := [.inl (.iload 3), .inl (.iconst 6), .inr (.if_icmp .ge 51), .inl (.aload 0), .inr (.invokeinterface 65 1), .inr (.ifCond .eq 51), .inl (.iload 2), .inl (.iconst 10), .inl .imul, .inl (.aload 0), .inl (.getfield 228), .inl (.aload 0), .inl (.getfield 225), .inl .iaload, .inl .iadd, .inl (.iconst 48), .inl .isub, .inl (.istore 2), .inl (.aload 0), .inl .dup, .inl (.getfield 225), .inl (.iconst 1), .inl .iadd, .inl (.putfield 225), .inl (.iinc 3 1), .inr (.goto 4)]
def k64_51 : List xI := [.inl (.aload 0), .inl (.getfield 227), .inl (.iload 1), .inl (.iload 2), .inl .iastore, .inl (.iload 3), .inr (.ifCond .le 73), .inl (.aload 0), .inr (.invokeinterface 65 1), .inr (.ifCond .ne 73), .inl (.iconst 1), .inr (.goto 74)]
def k64_73 : List xI := [.inl (.iconst 0), xto 74]
def k64_74 : List xI := [.inr .areturn]
def xm64 : List (Nat × List xI) := [(0, k64_0), (4, k64_4), (51, k64_51), (73, k64_73), (74, k64_74)]
/-- 65: DrawnFields$Text.isFigure()Z -/
def k65_0 : List xI := [.inl (.aload 0), .inl (.getfield 225), .inl (.aload 0), .inl (.getfield 224), .inr (.if_icmp .ge 43), .inl (.aload 0), .inl (.getfield 228), .inl (.aload 0), .inl (.getfield 225), .inl .iaload, .inl (.iconst 48), .inr (.if_icmp .lt 43), .inl (.aload 0), .inl (.getfield 228), .inl (.aload 0), .inl (.getfield 225), .inl .iaload, .inl (.iconst 57), .inr (.if_icmp .gt 43), .inl (.iconst 1), .inr (.goto 44)]
def k65_43 : List xI := [.inl (.iconst 0), xto 44]
def k65_44 : List xI := [.inr .areturn]
def xm65 : List (Nat × List xI) := [(0, k65_0), (43, k65_43), (44, k65_44)]
/-- 66: DrawnFields$Text.skipBlanks()V -/
def k66_0 : List xI := [.inl (.aload 0), .inl (.getfield 225), .inl (.aload 0), .inl (.getfield 224), .inr (.if_icmp .ge 38), .inl (.aload 0), .inl (.getfield 228), .inl (.aload 0), .inl (.getfield 225), .inl .iaload, .inl (.iconst 32), .inr (.if_icmp .ne 38), .inl (.aload 0), .inl .dup, .inl (.getfield 225), .inl (.iconst 1), .inl .iadd, .inl (.putfield 225), .inr (.goto 0)]
def k66_38 : List xI := [.inr .return_]
def xm66 : List (Nat × List xI) := [(0, k66_0), (38, k66_38)]
/-- 67: DrawnFields.<init>()V -/
def k67_0 : List xI := [.inl (.aload 0), .inl .pop, .inl (.aload 0), .inl (.new 6), .inl .dup, .inr (.invokeinterface 43 1), .inl (.putfield 256), .inl (.aload 0), .inl (.new 3), .inl .dup, .inr (.invokeinterface 18 1), .inl (.putfield 257), .inl (.aload 0), .inl (.new 2), .inl .dup, .inr (.invokeinterface 13 1), .inl (.putfield 258), .inl (.aload 0), .inl (.new 0), .inl .dup, .inr (.invokeinterface 0 1), .inl (.putfield 259), .inl (.aload 0), .inl (.new 4), .inl .dup, .inr (.invokeinterface 22 1), .inl (.putfield 260), .inl (.aload 0), .inl (.new 7), .inl .dup, .inr (.invokeinterface 59 1), .inl (.putfield 261), .inl (.aload 0), .inl (.iconst 3), .inl (.newarray .int), .inl (.putfield 262), .inl (.aload 0), .inl (.iconst 29), .inl (.newarray .int), .inl (.putfield 263), .inr .return_]
def xm67 : List (Nat × List xI) := [(0, k67_0)]
/-- 68: DrawnFields.field(II)I -/
def k68_0 : List xI := [.inl (.aload 0), .inl (.getfield 257), .inl (.aload 0), .inl (.getfield 256), .inr (.invokeinterface 19 2), .inl (.aload 0), .inl (.aload 0), .inl (.iload 1), .inl (.iload 2), .inr (.invokeinterface 100 3), .inr (.invokeinterface 92 2), .inr .ireturn]
def xm68 : List (Nat × List xI) := [(0, k68_0)]
/-- 69: DrawnFields.range(III)I -/
def k69_0 : List xI := [.inl (.aload 0), .inl (.getfield 257), .inl (.aload 0), .inl (.getfield 256), .inr (.invokeinterface 19 2), .inl (.aload 0), .inl (.aload 0), .inl (.iload 1), .inl (.iload 2), .inl (.iload 3), .inr (.invokeinterface 101 4), .inr (.invokeinterface 92 2), .inr .ireturn]
def xm69 : List (Nat × List xI) := [(0, k69_0)]
/-- 70: DrawnFields.weighs(III)I -/
def k70_0 : List xI := [.inl (.aload 0), .inl (.getfield 257), .inl (.aload 0), .inl (.getfield 256), .inr (.invokeinterface 19 2), .inl (.aload 0), .inl (.aload 0), .inl (.iload 1), .inl (.iload 2), .inl (.iload 3), .inr (.invokeinterface 102 4), .inr (.invokeinterface 92 2), .inr .ireturn]
def xm70 : List (Nat × List xI) := [(0, k70_0)]
/-- 71: DrawnFields.round(II)I -/
def k71_0 : List xI := [.inl (.aload 0), .inl (.getfield 257), .inl (.aload 0), .inl (.getfield 256), .inr (.invokeinterface 19 2), .inl (.aload 0), .inl (.aload 0), .inl (.iload 1), .inl (.iload 2), .inr (.invokeinterface 103 3), .inr (.invokeinterface 92 2), .inr .ireturn]
def xm71 : List (Nat × List xI) := [(0, k71_0)]
/-- 72: DrawnFields.orders(II)I -/
def k72_0 : List xI := [.inl (.aload 0), .inl (.getfield 257), .inl (.aload 0), .inl (.getfield 256), .inr (.invokeinterface 19 2), .inl (.aload 0), .inl (.aload 0), .inl (.iload 1), .inl (.iload 2), .inr (.invokeinterface 104 3), .inr (.invokeinterface 92 2), .inr .ireturn]
def xm72 : List (Nat × List xI) := [(0, k72_0)]
/-- 73: DrawnFields.rule(IIIII)I -/
def k73_0 : List xI := [.inl (.aload 0), .inl (.getfield 257), .inl (.aload 0), .inl (.getfield 256), .inr (.invokeinterface 19 2), .inl (.aload 0), .inl (.aload 0), .inl (.iload 1), .inl (.iload 2), .inl (.iload 3), .inl (.iload 4), .inl (.iload 5), .inr (.invokeinterface 105 6), .inr (.invokeinterface 92 2), .inr .ireturn]
def xm73 : List (Nat × List xI) := [(0, k73_0)]
/-- 74: DrawnFields.drops(I)I -/
def k74_0 : List xI := [.inl (.aload 0), .inl (.getfield 257), .inl (.aload 0), .inl (.getfield 256), .inr (.invokeinterface 19 2), .inl (.aload 0), .inl (.aload 0), .inl (.iload 1), .inr (.invokeinterface 106 2), .inr (.invokeinterface 92 2), .inr .ireturn]
def xm74 : List (Nat × List xI) := [(0, k74_0)]
/-- 75: DrawnFields.of(II)I -/
def k75_0 : List xI := [.inl (.aload 0), .inl (.getfield 256), .inl (.iload 1), .inr (.invokeinterface 45 2), .inr (.ifCond .eq 20), .inl (.iload 2), .inr (.ifCond .lt 20), .inl (.iload 2), .inl (.iconst 5), .inr (.if_icmp .le 27), xto 20]
def k75_20 : List xI := [.inl (.aload 0), .inl (.iconst (-2)), .inr (.invokeinterface 93 2), .inr .ireturn]
def k75_27 : List xI := [.inl (.aload 0), .inl (.getfield 256), .inl (.iload 1), .inl (.iload 2), .inr (.invokeinterface 54 3), .inr .ireturn]
def xm75 : List (Nat × List xI) := [(0, k75_0), (20, k75_20), (27, k75_27)]
/-- 76: DrawnFields.about(II)I -/
def k76_0 : List xI := [.inl (.aload 0), .inl (.getfield 256), .inl (.iload 1), .inr (.invokeinterface 46 2), .inr (.ifCond .eq 20), .inl (.iload 2), .inr (.ifCond .lt 20), .inl (.iload 2), .inl (.iconst 5), .inr (.if_icmp .le 27), xto 20]
def k76_20 : List xI := [.inl (.aload 0), .inl (.iconst (-2)), .inr (.invokeinterface 93 2), .inr .ireturn]
def k76_27 : List xI := [.inl (.aload 0), .inl (.getfield 258), .inl (.aload 0), .inl (.getfield 256), .inr (.invokeinterface 14 2), .inl (.aload 0), .inl (.iload 1), .inl (.iload 2), .inr (.invokeinterface 95 3), .inr .ireturn]
def xm76 : List (Nat × List xI) := [(0, k76_0), (20, k76_20), (27, k76_27)]
/-- 77: DrawnFields.rows()I -/
def k77_0 : List xI := [.inl (.aload 0), .inl (.getfield 258), .inl (.aload 0), .inl (.getfield 256), .inr (.invokeinterface 14 2), .inl (.aload 0), .inl (.getfield 258), .inl (.getfield 64), .inr (.invokeinterface 32 1), .inr .ireturn]
def xm77 : List (Nat × List xI) := [(0, k77_0)]
/-- 78: DrawnFields.row(II)I -/
def k78_0 : List xI := [.inl (.iload 1), .inr (.ifCond .lt 15), .inl (.aload 0), .inl (.getfield 256), .inl (.iload 2), .inr (.invokeinterface 45 2), .inr (.ifCond .ne 22), xto 15]
def k78_15 : List xI := [.inl (.aload 0), .inl (.iconst (-2)), .inr (.invokeinterface 93 2), .inr .ireturn]
def k78_22 : List xI := [.inl (.aload 0), .inl (.getfield 258), .inl (.aload 0), .inl (.getfield 256), .inr (.invokeinterface 14 2), .inl (.aload 0), .inl (.getfield 258), .inl (.getfield 64), .inl (.iload 1), .inr (.invokeinterface 35 2), .inl (.istore 3), .inl (.iload 3), .inl (.iconst (-1)), .inr (.if_icmp .ne 55), .inl (.iconst (-5)), .inr (.goto 60)]
def k78_55 : List xI := [.inl (.iload 3), .inl (.iload 2), .inr (.invokeinterface 98 2), xto 60]
def k78_60 : List xI := [.inr .ireturn]
def xm78 : List (Nat × List xI) := [(0, k78_0), (15, k78_15), (22, k78_22), (55, k78_55), (60, k78_60)]
/-- 79: DrawnFields.heavy(II)I -/
def k79_0 : List xI := [.inl (.iload 1), .inl (.iconst (-1)), .inr (.if_icmp .ne 12), .inl (.iload 2), .inr (.ifCond .eq 40), .inr (.goto 33)]
def k79_12 : List xI := [.inl (.aload 0), .inl (.getfield 256), .inl (.iload 1), .inr (.invokeinterface 45 2), .inr (.ifCond .eq 33), .inl (.iload 2), .inr (.ifCond .lt 33), .inl (.iload 2), .inl (.iconst 8), .inr (.if_icmp .lt 40), xto 33]
def k79_33 : List xI := [.inl (.aload 0), .inl (.iconst (-2)), .inr (.invokeinterface 93 2), .inr .ireturn]
def k79_40 : List xI := [.inl (.aload 0), .inl (.getfield 258), .inl (.aload 0), .inl (.getfield 256), .inr (.invokeinterface 14 2), .inl (.iload 1), .inl (.iconst (-1)), .inr (.if_icmp .ne 71), .inl (.aload 0), .inl (.getfield 256), .inl (.aload 0), .inl (.getfield 258), .inl (.getfield 64), .inr (.invokeinterface 57 2), .inr .ireturn]
def k79_71 : List xI := [.inl (.aload 0), .inl (.getfield 260), .inl (.aload 0), .inl (.getfield 258), .inl (.getfield 64), .inr (.invokeinterface 26 2), .inl (.aload 0), .inl (.getfield 260), .inl (.iload 1), .inl (.iconst 1), .inl (.iload 2), .inl .ishl, .inr (.invokeinterface 30 3), .inl (.aload 0), .inl (.getfield 256), .inl (.aload 0), .inl (.getfield 260), .inr (.invokeinterface 57 2), .inr .ireturn]
def xm79 : List (Nat × List xI) := [(0, k79_0), (12, k79_12), (33, k79_33), (40, k79_40), (71, k79_71)]
/-- 80: DrawnFields.sums(I)I -/
def k80_0 : List xI := [.inl (.iload 1), .inr (.ifCond .ge 11), .inl (.aload 0), .inl (.iconst (-2)), .inr (.invokeinterface 93 2), .inr .ireturn]
def k80_11 : List xI := [.inl (.aload 0), .inl (.getfield 258), .inl (.aload 0), .inl (.getfield 256), .inr (.invokeinterface 14 2), .inl (.aload 0), .inl (.getfield 258), .inl (.getfield 64), .inl (.aload 0), .inl (.getfield 263), .inr (.invokeinterface 38 2), .inl (.iload 1), .inl (.iconst 29), .inr (.if_icmp .ge 51), .inl (.aload 0), .inl (.getfield 263), .inl (.iload 1), .inl .iaload, .inr (.goto 52)]
def k80_51 : List xI := [.inl (.iconst 0), xto 52]
def k80_52 : List xI := [.inr .ireturn]
def xm80 : List (Nat × List xI) := [(0, k80_0), (11, k80_11), (51, k80_51), (52, k80_52)]
/-- 81: DrawnFields.sum(I)I -/
def k81_0 : List xI := [.inl (.iload 1), .inr (.ifCond .ge 11), .inl (.aload 0), .inl (.iconst (-2)), .inr (.invokeinterface 93 2), .inr .ireturn]
def k81_11 : List xI := [.inl (.aload 0), .inl (.getfield 258), .inl (.aload 0), .inl (.getfield 256), .inr (.invokeinterface 14 2), .inl (.aload 0), .inl (.getfield 258), .inl (.getfield 64), .inl (.aload 0), .inl (.getfield 263), .inr (.invokeinterface 38 2), .inl (.iconst 0), .inl (.istore 2), .inl (.iconst 0), .inl (.istore 3), xto 40]
def k81_40 : List xI := [.inl (.iload 3), .inl (.iconst 29), .inr (.if_icmp .ge 71), .inl (.aload 0), .inl (.getfield 263), .inl (.iload 3), .inl .iaload, .inr (.ifCond .le 65), .inl (.iload 2), .inl (.iload 1), .inr (.if_icmp .ne 62), .inl (.iload 3), .inr .ireturn]
def k81_62 : List xI := [.inl (.iinc 2 1), xto 65]
def k81_65 : List xI := [.inl (.iinc 3 1), .inr (.goto 40)]
def k81_71 : List xI := [.inl (.iconst (-5)), .inr .ireturn]
def xm81 : List (Nat × List xI) := [(0, k81_0), (11, k81_11), (40, k81_40), (62, k81_62), (65, k81_65), (71, k81_71)]
/-- 82: DrawnFields.soft(I)I -/
def k82_0 : List xI := [.inl (.iload 1), .inr (.ifCond .ge 11), .inl (.aload 0), .inl (.iconst (-2)), .inr (.invokeinterface 93 2), .inr .ireturn]
def k82_11 : List xI := [.inl (.iconst 0), .inl (.istore 2), .inl (.iconst 0), .inl (.istore 3), xto 15]
def k82_15 : List xI := [.inl (.iload 3), .inl (.iconst 10), .inr (.if_icmp .ge 76), .inl (.iconst 0), .inl (.istore 4), xto 24]
def k82_24 : List xI := [.inl (.iload 4), .inl (.aload 0), .inl (.getfield 256), .inl (.getfield 195), .inr (.if_icmp .ge 70), .inl (.aload 0), .inl (.getfield 256), .inl (.getfield 196), .inl (.iload 4), .inl .aaload, .inl (.getfield 164), .inl (.iload 3), .inr (.if_icmp .ne 64), .inl (.iload 2), .inl (.iload 1), .inr (.if_icmp .ne 61), .inl (.iload 4), .inr .ireturn]
def k82_61 : List xI := [.inl (.iinc 2 1), xto 64]
def k82_64 : List xI := [.inl (.iinc 4 1), .inr (.goto 24)]
def k82_70 : List xI := [.inl (.iinc 3 1), .inr (.goto 15)]
def k82_76 : List xI := [.inl (.iconst (-5)), .inr .ireturn]
def xm82 : List (Nat × List xI) := [(0, k82_0), (11, k82_11), (15, k82_15), (24, k82_24), (61, k82_61), (64, k82_64), (70, k82_70), (76, k82_76)]
/-- 83: DrawnFields.core()I -/
def k83_0 : List xI := [.inl (.aload 0), .inl (.getfield 258), .inl (.aload 0), .inl (.getfield 256), .inr (.invokeinterface 14 2), .inl (.aload 0), .inl (.getfield 258), .inl (.getfield 66), .inr .ireturn]
def xm83 : List (Nat × List xI) := [(0, k83_0)]
/-- 84: DrawnFields.draws(II)I -/
def k84_0 : List xI := [.inl (.aload 0), .inl (.getfield 257), .inl (.aload 0), .inl (.getfield 256), .inr (.invokeinterface 19 2), .inl (.aload 0), .inl (.aload 0), .inl (.iload 1), .inl (.iload 2), .inr (.invokeinterface 107 3), .inr (.invokeinterface 92 2), .inr .ireturn]
def xm84 : List (Nat × List xI) := [(0, k84_0)]
/-- 85: DrawnFields.drawn(II)I -/
def k85_0 : List xI := [.inl (.iload 1), .inl (.iconst (-1)), .inr (.if_icmp .lt 28), .inl (.iload 1), .inl (.iconst (-1)), .inr (.if_icmp .ne 17), .inl (.iload 2), .inr (.ifCond .eq 35), .inr (.goto 28)]
def k85_17 : List xI := [.inl (.aload 0), .inl (.getfield 256), .inl (.iload 2), .inr (.invokeinterface 45 2), .inr (.ifCond .ne 35), xto 28]
def k85_28 : List xI := [.inl (.aload 0), .inl (.iconst (-2)), .inr (.invokeinterface 93 2), .inr .ireturn]
def k85_35 : List xI := [.inl (.iload 1), .inl (.iconst (-1)), .inr (.if_icmp .ne 48), .inl (.aload 0), .inl (.getfield 256), .inl (.getfield 198), .inr .ireturn]
def k85_48 : List xI := [.inl (.iload 1), .inl (.aload 0), .inl (.getfield 256), .inl (.getfield 198), .inr (.if_icmp .ge 75), .inl (.aload 0), .inl (.getfield 256), .inl (.getfield 199), .inl (.iload 1), .inl .iaload, .inl (.iload 2), .inr (.invokeinterface 98 2), .inr (.goto 77)]
def k85_75 : List xI := [.inl (.iconst (-5)), xto 77]
def k85_77 : List xI := [.inr .ireturn]
def xm85 : List (Nat × List xI) := [(0, k85_0), (17, k85_17), (28, k85_28), (35, k85_35), (48, k85_48), (75, k85_75), (77, k85_77)]
/-- 86: DrawnFields.type(I)I -/
def k86_0 : List xI := [.inl (.iload 1), .inr (.ifCond .lt 10), .inl (.iload 1), .inl (.iconst 127), .inr (.if_icmp .le 17), xto 10]
def k86_10 : List xI := [.inl (.aload 0), .inl (.iconst (-2)), .inr (.invokeinterface 93 2), .inr .ireturn]
def k86_17 : List xI := [.inl (.aload 0), .inl (.aload 0), .inl (.getfield 261), .inl (.iload 1), .inr (.invokeinterface 60 2), .inr (.invokeinterface 93 2), .inr .ireturn]
def xm86 : List (Nat × List xI) := [(0, k86_0), (10, k86_10), (17, k86_17)]
/-- 87: DrawnFields.clear()I -/
def k87_0 : List xI := [.inl (.aload 0), .inl (.getfield 261), .inl (.getfield 224), .inl (.istore 1), .inl (.aload 0), .inl (.getfield 261), .inl (.iconst 0), .inl (.putfield 224), .inl (.iload 1), .inr .ireturn]
def xm87 : List (Nat × List xI) := [(0, k87_0)]
/-- 88: DrawnFields.reads()I -/
def k88_0 : List xI := [.inl (.aload 0), .inl (.getfield 261), .inr (.invokeinterface 61 1), .inl (.istore 1), .inl (.iload 1), .inl (.iconst (-1)), .inr (.if_icmp .eq 18), .inl (.iconst (-10)), .inl (.iload 1), .inl .isub, .inr .ireturn]
def k88_18 : List xI := [.inl (.aload 0), .inl (.getfield 257), .inl (.aload 0), .inl (.getfield 256), .inr (.invokeinterface 19 2), .inl (.iconst 0), .inl (.istore 2), .inl (.aload 0), .inl (.getfield 261), .inl (.iconst 0), .inl (.putfield 225), .inl (.iconst 0), .inl (.istore 3), xto 41]
def k88_41 : List xI := [.inl (.iload 3), .inl (.iconst 150), .inr (.if_icmp .ge 74), .inl (.aload 0), .inl (.getfield 261), .inr (.invokeinterface 62 1), .inr (.ifCond .eq 74), .inl (.aload 0), .inr (.invokeinterface 108 1), .inr (.ifCond .lt 68), .inl (.iinc 2 1), xto 68]
def k88_68 : List xI := [.inl (.iinc 3 1), .inr (.goto 41)]
def k88_74 : List xI := [.inl (.aload 0), .inl (.iload 2), .inr (.invokeinterface 92 2), .inr .ireturn]
def xm88 : List (Nat × List xI) := [(0, k88_0), (18, k88_18), (41, k88_41), (68, k88_68), (74, k88_74)]
/-- 89: DrawnFields.back()I -/
def k89_0 : List xI := [.inl (.aload 0), .inl (.aload 0), .inl (.getfield 257), .inl (.aload 0), .inl (.getfield 256), .inr (.invokeinterface 21 2), .inr (.invokeinterface 93 2), .inr .ireturn]
def xm89 : List (Nat × List xI) := [(0, k89_0)]
/-- 90: DrawnFields.told(I)I -/
def k90_0 : List xI := [.inl (.iload 1), .inr (.ifCond .lt 10), .inl (.iload 1), .inl (.iconst 6), .inr (.if_icmp .le 17), xto 10]
def k90_10 : List xI := [.inl (.aload 0), .inl (.iconst (-2)), .inr (.invokeinterface 93 2), .inr .ireturn]
def k90_17 : List xI := [.inl (.aload 0), .inl (.iload 1), .inr (.invokeinterface 94 2), .inr .ireturn]
def xm90 : List (Nat × List xI) := [(0, k90_0), (10, k90_10), (17, k90_17)]
/-- 91: DrawnFields.digest()J -/
def k91_0 : List xI := [.inl (.aload 0), .inl (.getfield 258), .inl (.aload 0), .inl (.getfield 256), .inr (.invokeinterface 14 2), .inl (.sipush 2423), .inl (.lstore 1), .inl (.iconst 0), .inl (.istore 3), xto 17]
def k91_17 : List xI := [.inl (.iload 3), .inl (.iconst 6), .inr (.if_icmp .gt 42), .inl (.sipush 31), .inl (.lload 1), .inl .lmul, .inl (.aload 0), .inl (.iload 3), .inr (.invokeinterface 94 2), .inl .i2l, .inl .ladd, .inl (.lstore 1), .inl (.iinc 3 1), .inr (.goto 17)]
def k91_42 : List xI := [.inl (.iconst 0), .inl (.istore 3), xto 44]
def k91_44 : List xI := [.inl (.iload 3), .inl (.aload 0), .inl (.getfield 256), .inl (.getfield 192), .inr (.if_icmp .ge 68), .inl (.aload 0), .inl (.lload 1), .inl (.iload 3), .inr (.invokeinterface 96 3), .inl (.lstore 1), .inl (.iinc 3 1), .inr (.goto 44)]
def k91_68 : List xI := [.inl (.iconst 0), .inl (.istore 3), xto 70]
def k91_70 : List xI := [.inl (.iload 3), .inl (.aload 0), .inl (.getfield 256), .inl (.getfield 195), .inr (.if_icmp .ge 117), .inl (.iconst 0), .inl (.istore 4), xto 84]
def k91_84 : List xI := [.inl (.iload 4), .inl (.iconst 5), .inr (.if_icmp .gt 111), .inl (.sipush 31), .inl (.lload 1), .inl .lmul, .inl (.aload 0), .inl (.iload 3), .inl (.iload 4), .inr (.invokeinterface 95 3), .inl .i2l, .inl .ladd, .inl (.lstore 1), .inl (.iinc 4 1), .inr (.goto 84)]
def k91_111 : List xI := [.inl (.iinc 3 1), .inr (.goto 70)]
def k91_117 : List xI := [.inl (.sipush 31), .inl (.lload 1), .inl .lmul, .inl (.aload 0), .inl (.getfield 258), .inl (.getfield 64), .inr (.invokeinterface 32 1), .inl .i2l, .inl .ladd, .inl (.lstore 1), .inl (.sipush 31), .inl (.lload 1), .inl .lmul, .inl (.aload 0), .inl (.getfield 256), .inl (.aload 0), .inl (.getfield 258), .inl (.getfield 64), .inr (.invokeinterface 57 2), .inl .i2l, .inl .ladd, .inl (.lstore 1), .inl (.sipush 31), .inl (.lload 1), .inl .lmul, .inl (.aload 0), .inl (.getfield 258), .inl (.getfield 66), .inl .i2l, .inl .ladd, .inl (.lstore 1), .inl (.aload 0), .inl (.lload 1), .inr (.invokeinterface 97 2), .inr .lreturn]
def xm91 : List (Nat × List xI) := [(0, k91_0), (17, k91_17), (42, k91_42), (44, k91_44), (68, k91_68), (70, k91_70), (84, k91_84), (111, k91_111), (117, k91_117)]
/-- 92: DrawnFields.settled(I)I -/
def k92_0 : List xI := [.inl (.iload 1), .inr (.ifCond .lt 11), .inl (.aload 0), .inl (.getfield 257), .inr (.invokeinterface 20 1), xto 11]
def k92_11 : List xI := [.inl (.aload 0), .inl (.iload 1), .inr (.invokeinterface 93 2), .inr .ireturn]
def xm92 : List (Nat × List xI) := [(0, k92_0), (11, k92_11)]
/-- 93: DrawnFields.counted(I)I -/
def k93_0 : List xI := [.inl (.iload 1), .inl (.iconst (-2)), .inr (.if_icmp .gt 25), .inl (.iload 1), .inl (.iconst (-4)), .inr (.if_icmp .lt 25), .inl (.aload 0), .inl (.getfield 262), .inl (.iconst (-2)), .inl (.iload 1), .inl .isub, .inl .dup2, .inl .iaload, .inl (.iconst 1), .inl .iadd, .inl .iastore, xto 25]
def k93_25 : List xI := [.inl (.iload 1), .inr .ireturn]
def xm93 : List (Nat × List xI) := [(0, k93_0), (25, k93_25)]
/-- 94: DrawnFields.factOfAll(I)I -/
def k94_0 : List xI := [.inl (.iload 1), .inr (.lookupswitch 71 #[(0, 40), (1, 40), (2, 40), (3, 47), (4, 55), (5, 63)])]
def k94_40 : List xI := [.inl (.aload 0), .inl (.getfield 262), .inl (.iload 1), .inl .iaload, .inr .ireturn]
def k94_47 : List xI := [.inl (.aload 0), .inl (.getfield 261), .inl (.getfield 224), .inr .ireturn]
def k94_55 : List xI := [.inl (.aload 0), .inl (.getfield 256), .inl (.getfield 192), .inr .ireturn]
def k94_63 : List xI := [.inl (.aload 0), .inl (.getfield 256), .inl (.getfield 195), .inr .ireturn]
def k94_71 : List xI := [.inl (.aload 0), .inl (.getfield 257), .inl (.getfield 96), .inr .ireturn]
def xm94 : List (Nat × List xI) := [(0, k94_0), (40, k94_40), (47, k94_47), (55, k94_55), (63, k94_63), (71, k94_71)]
/-- 95: DrawnFields.factOfRule(II)I -/
def k95_0 : List xI := [.inl (.aload 0), .inl (.getfield 256), .inl (.getfield 196), .inl (.iload 1), .inl .aaload, .inl (.astore 3), .inl (.iload 2), .inr (.lookupswitch 69 #[(0, 44), (1, 49), (2, 54), (3, 59), (4, 64)])]
def k95_44 : List xI := [.inl (.aload 3), .inl (.getfield 160), .inr .ireturn]
def k95_49 : List xI := [.inl (.aload 3), .inl (.getfield 161), .inr .ireturn]
def k95_54 : List xI := [.inl (.aload 3), .inl (.getfield 162), .inr .ireturn]
def k95_59 : List xI := [.inl (.aload 3), .inl (.getfield 163), .inr .ireturn]
def k95_64 : List xI := [.inl (.aload 3), .inl (.getfield 164), .inr .ireturn]
def k95_69 : List xI := [.inl (.aload 0), .inl (.getfield 258), .inl (.getfield 65), .inl (.iload 1), .inl .ishr, .inl (.iconst 1), .inl .iand, .inr .ireturn]
def xm95 : List (Nat × List xI) := [(0, k95_0), (44, k95_44), (49, k95_49), (54, k95_54), (59, k95_59), (64, k95_64), (69, k95_69)]
/-- 96: DrawnFields.digestOfField(JI)J -/
def k96_0 : List xI := [.inl (.lload 1), .inl (.lstore 4), .inl (.iconst 0), .inl (.istore 6), xto 6]
def k96_6 : List xI := [.inl (.iload 6), .inl (.iconst 5), .inr (.if_icmp .gt 38), .inl (.sipush 31), .inl (.lload 4), .inl .lmul, .inl (.aload 0), .inl (.getfield 256), .inl (.iload 3), .inl (.iload 6), .inr (.invokeinterface 54 3), .inl .i2l, .inl .ladd, .inl (.lstore 4), .inl (.iinc 6 1), .inr (.goto 6)]
def k96_38 : List xI := [.inl (.iconst 0), .inl (.istore 6), xto 41]
def k96_41 : List xI := [.inl (.iload 6), .inl (.iconst 8), .inr (.if_icmp .ge 79), .inl (.sipush 31), .inl (.lload 4), .inl .lmul, .inl (.aload 0), .inl (.getfield 256), .inl (.getfield 193), .inl (.iload 3), .inl .aaload, .inl (.getfield 36), .inl (.iload 6), .inl .iaload, .inl .i2l, .inl .ladd, .inl (.lstore 4), .inl (.iinc 6 1), .inr (.goto 41)]
def k96_79 : List xI := [.inl (.lload 4), .inr .lreturn]
def xm96 : List (Nat × List xI) := [(0, k96_0), (6, k96_6), (38, k96_38), (41, k96_41), (79, k96_79)]
/-- 97: DrawnFields.digestOfDrawn(J)J -/
def k97_0 : List xI := [.inl (.sipush 31), .inl (.lload 1), .inl .lmul, .inl (.aload 0), .inl (.getfield 256), .inl (.getfield 198), .inl .i2l, .inl .ladd, .inl (.lstore 3), .inl (.iconst 0), .inl (.istore 5), xto 18]
def k97_18 : List xI := [.inl (.iload 5), .inl (.aload 0), .inl (.getfield 256), .inl (.getfield 198), .inr (.if_icmp .ge 80), .inl (.iconst 0), .inl (.istore 6), xto 33]
def k97_33 : List xI := [.inl (.iload 6), .inl (.aload 0), .inl (.getfield 256), .inl (.getfield 192), .inr (.if_icmp .ge 74), .inl (.sipush 31), .inl (.lload 3), .inl .lmul, .inl (.aload 0), .inl (.getfield 256), .inl (.getfield 199), .inl (.iload 5), .inl .iaload, .inl (.iload 6), .inr (.invokeinterface 98 2), .inl .i2l, .inl .ladd, .inl (.lstore 3), .inl (.iinc 6 1), .inr (.goto 33)]
def k97_74 : List xI := [.inl (.iinc 5 1), .inr (.goto 18)]
def k97_80 : List xI := [.inl (.lload 3), .inr .lreturn]
def xm97 : List (Nat × List xI) := [(0, k97_0), (18, k97_18), (33, k97_33), (74, k97_74), (80, k97_80)]
/-- 98: DrawnFields.valueIn(II)I -/
def k98_0 : List xI := [.inl (.iload 0), .inl (.iconst 3), .inl (.iconst 3), .inl (.iload 1), .inl .isub, .inl .imul, .inl .ishr, .inl (.iconst 7), .inl .iand, .inr .ireturn]
def xm98 : List (Nat × List xI) := [(0, k98_0)]
/-- 99: DrawnFields.isRange(II)Z -/
def k99_0 : List xI := [.inl (.iload 0), .inr (.ifCond .lt 19), .inl (.iload 0), .inl (.iload 1), .inr (.if_icmp .gt 19), .inl (.iload 1), .inl (.iconst 8), .inr (.if_icmp .ge 19), .inl (.iconst 1), .inr (.goto 20)]
def k99_19 : List xI := [.inl (.iconst 0), xto 20]
def k99_20 : List xI := [.inr .areturn]
def xm99 : List (Nat × List xI) := [(0, k99_0), (19, k99_19), (20, k99_20)]
/-- 100: DrawnFields.tryField(II)I -/
def k100_0 : List xI := [.inl (.iload 1), .inl (.iload 2), .inr (.invokeinterface 99 2), .inr (.ifCond .ne 11), .inl (.iconst (-2)), .inr .ireturn]
def k100_11 : List xI := [.inl (.aload 0), .inl (.getfield 256), .inl (.getfield 192), .inl (.iconst 4), .inr (.if_icmp .ne 27), .inl (.iconst (-4)), .inr (.goto 36)]
def k100_27 : List xI := [.inl (.aload 0), .inl (.getfield 256), .inl (.iload 1), .inl (.iload 2), .inr (.invokeinterface 48 3), xto 36]
def k100_36 : List xI := [.inr .ireturn]
def xm100 : List (Nat × List xI) := [(0, k100_0), (11, k100_11), (27, k100_27), (36, k100_36)]
/-- 101: DrawnFields.tryRange(III)I -/
def k101_0 : List xI := [.inl (.aload 0), .inl (.getfield 256), .inl (.iload 1), .inr (.invokeinterface 45 2), .inr (.ifCond .eq 19), .inl (.iload 2), .inl (.iload 3), .inr (.invokeinterface 99 2), .inr (.ifCond .ne 22), xto 19]
def k101_19 : List xI := [.inl (.iconst (-2)), .inr .ireturn]
def k101_22 : List xI := [.inl (.aload 0), .inl (.getfield 256), .inl (.getfield 193), .inl (.iload 1), .inl .aaload, .inl (.iload 2), .inl (.putfield 32), .inl (.aload 0), .inl (.getfield 256), .inl (.getfield 193), .inl (.iload 1), .inl .aaload, .inl (.iload 3), .inl (.putfield 33), .inl (.aload 0), .inl (.getfield 256), .inr (.invokeinterface 51 1), .inl (.iload 3), .inl (.iload 2), .inl .isub, .inl (.iconst 1), .inl .iadd, .inr .ireturn]
def xm101 : List (Nat × List xI) := [(0, k101_0), (19, k101_19), (22, k101_22)]
/-- 102: DrawnFields.tryWeight(III)I -/
def k102_0 : List xI := [.inl (.aload 0), .inl (.getfield 256), .inl (.iload 1), .inr (.invokeinterface 45 2), .inr (.ifCond .eq 31), .inl (.iload 2), .inr (.ifCond .lt 31), .inl (.iload 2), .inl (.iconst 8), .inr (.if_icmp .ge 31), .inl (.iload 3), .inr (.ifCond .lt 31), .inl (.iload 3), .inl (.iconst 9), .inr (.if_icmp .le 34), xto 31]
def k102_31 : List xI := [.inl (.iconst (-2)), .inr .ireturn]
def k102_34 : List xI := [.inl (.aload 0), .inl (.getfield 256), .inl (.getfield 193), .inl (.iload 1), .inl .aaload, .inl (.getfield 36), .inl (.iload 2), .inl .iaload, .inl (.istore 4), .inl (.aload 0), .inl (.getfield 256), .inl (.getfield 193), .inl (.iload 1), .inl .aaload, .inl (.getfield 36), .inl (.iload 2), .inl (.iload 3), .inl .iastore, .inl (.iload 4), .inr .ireturn]
def xm102 : List (Nat × List xI) := [(0, k102_0), (31, k102_31), (34, k102_34)]
/-- 103: DrawnFields.tryRound(II)I -/
def k103_0 : List xI := [.inl (.aload 0), .inl (.getfield 256), .inl (.iload 1), .inr (.invokeinterface 45 2), .inr (.ifCond .eq 20), .inl (.iload 2), .inr (.ifCond .lt 20), .inl (.iload 2), .inl (.iconst 1), .inr (.if_icmp .le 23), xto 20]
def k103_20 : List xI := [.inl (.iconst (-2)), .inr .ireturn]
def k103_23 : List xI := [.inl (.aload 0), .inl (.getfield 256), .inl (.getfield 193), .inl (.iload 1), .inl .aaload, .inl (.getfield 34), .inl (.istore 3), .inl (.aload 0), .inl (.getfield 256), .inl (.getfield 193), .inl (.iload 1), .inl .aaload, .inl (.iload 2), .inl (.putfield 34), .inl (.aload 0), .inl (.getfield 256), .inl (.getfield 193), .inl (.iload 1), .inl .aaload, .inl (.iconst 0), .inl (.putfield 35), .inl (.iload 3), .inr .ireturn]
def xm103 : List (Nat × List xI) := [(0, k103_0), (20, k103_20), (23, k103_23)]
/-- 104: DrawnFields.tryPlace(II)I -/
def k104_0 : List xI := [.inl (.aload 0), .inl (.getfield 256), .inl (.iload 1), .inr (.invokeinterface 45 2), .inr (.ifCond .eq 26), .inl (.iload 2), .inr (.ifCond .lt 26), .inl (.iload 2), .inl (.aload 0), .inl (.getfield 256), .inl (.getfield 192), .inr (.if_icmp .lt 29), xto 26]
def k104_26 : List xI := [.inl (.iconst (-2)), .inr .ireturn]
def k104_29 : List xI := [.inl (.aload 0), .inl (.getfield 256), .inl (.iload 1), .inl (.iload 2), .inr (.invokeinterface 53 3), .inr .ireturn]
def xm104 : List (Nat × List xI) := [(0, k104_0), (26, k104_26), (29, k104_29)]
/-- 105: DrawnFields.tryRule(IIIII)I -/
def k105_0 : List xI := [.inl (.aload 0), .inl (.getfield 256), .inl (.iload 1), .inl (.iload 2), .inl (.iload 3), .inl (.iload 4), .inr (.invokeinterface 47 5), .inr (.ifCond .eq 28), .inl (.iload 5), .inl (.iconst (-1)), .inr (.if_icmp .lt 28), .inl (.iload 5), .inl (.iconst 10), .inr (.if_icmp .lt 31), xto 28]
def k105_28 : List xI := [.inl (.iconst (-2)), .inr .ireturn]
def k105_31 : List xI := [.inl (.aload 0), .inl (.getfield 256), .inl (.getfield 195), .inl (.iconst 8), .inr (.if_icmp .ne 48), .inl (.iconst (-4)), .inr (.goto 62)]
def k105_48 : List xI := [.inl (.aload 0), .inl (.getfield 256), .inl (.iload 1), .inl (.iload 2), .inl (.iload 3), .inl (.iload 4), .inl (.iload 5), .inr (.invokeinterface 49 6), xto 62]
def k105_62 : List xI := [.inr .ireturn]
def xm105 : List (Nat × List xI) := [(0, k105_0), (28, k105_28), (31, k105_31), (48, k105_48), (62, k105_62)]
/-- 106: DrawnFields.tryDrop(I)I -/
def k106_0 : List xI := [.inl (.aload 0), .inl (.getfield 256), .inl (.iload 1), .inr (.invokeinterface 46 2), .inr (.ifCond .eq 22), .inl (.aload 0), .inl (.getfield 256), .inl (.iload 1), .inr (.invokeinterface 50 2), .inr (.goto 24)]
def k106_22 : List xI := [.inl (.iconst (-2)), xto 24]
def k106_24 : List xI := [.inr .ireturn]
def xm106 : List (Nat × List xI) := [(0, k106_0), (22, k106_22), (24, k106_24)]
/-- 107: DrawnFields.tryDraw(II)I -/
def k107_0 : List xI := [.inl (.iload 1), .inr (.ifCond .lt 20), .inl (.iload 1), .inl (.iconst 1), .inr (.if_icmp .gt 20), .inl (.iload 2), .inr (.ifCond .lt 20), .inl (.iload 2), .inl (.iconst 999999), .inr (.if_icmp .le 23), xto 20]
def k107_20 : List xI := [.inl (.iconst (-2)), .inr .ireturn]
def k107_23 : List xI := [.inl (.aload 0), .inl (.getfield 258), .inl (.aload 0), .inl (.getfield 256), .inr (.invokeinterface 14 2), .inl (.aload 0), .inl (.getfield 258), .inl (.getfield 64), .inr (.invokeinterface 31 1), .inr (.ifCond .eq 50), .inl (.iconst (-3)), .inr .ireturn]
def k107_50 : List xI := [.inl (.aload 0), .inl (.getfield 259), .inl (.aload 0), .inl (.getfield 258), .inl (.getfield 64), .inl (.iload 2), .inr (.invokeinterface 1 3), .inl (.iload 1), .inr (.ifCond .ne 83), .inl (.aload 0), .inl (.getfield 259), .inl (.aload 0), .inl (.getfield 256), .inr (.invokeinterface 2 2), .inr (.goto 94)]
def k107_83 : List xI := [.inl (.aload 0), .inl (.getfield 259), .inl (.aload 0), .inl (.getfield 256), .inr (.invokeinterface 4 2), xto 94]
def k107_94 : List xI := [.inl (.istore 3), .inl (.aload 0), .inl (.getfield 256), .inl (.iload 3), .inr (.invokeinterface 55 2), .inl (.aload 0), .inl (.getfield 258), .inl (.getfield 64), .inl (.iload 3), .inr (.invokeinterface 37 2), .inr .ireturn]
def xm107 : List (Nat × List xI) := [(0, k107_0), (20, k107_20), (23, k107_23), (50, k107_50), (83, k107_83), (94, k107_94)]
/-- 108: DrawnFields.performOrder()I -/
def k108_0 : List xI := [.inl (.aload 0), .inl (.getfield 261), .inl (.getfield 227), .inl (.astore 1), .inl (.aload 0), .inl (.getfield 261), .inl (.getfield 226), .inr (.lookupswitch 201 #[(100, 192), (101, 201), (102, 112), (103, 201), (104, 123), (105, 201), (106, 201), (107, 201), (108, 201), (109, 201), (110, 201), (111, 201), (112, 201), (113, 201), (114, 175), (115, 141), (116, 201), (117, 201), (118, 201), (119, 161), (120, 184)])]
def k108_112 : List xI := [.inl (.aload 0), .inl (.aload 1), .inl (.iconst 0), .inl .iaload, .inl (.aload 1), .inl (.iconst 1), .inl .iaload, .inr (.invokeinterface 100 3), .inr .ireturn]
def k108_123 : List xI := [.inl (.aload 0), .inl (.aload 1), .inl (.iconst 0), .inl .iaload, .inl (.aload 1), .inl (.iconst 1), .inl .iaload, .inl (.aload 1), .inl (.iconst 2), .inl .iaload, .inl (.aload 1), .inl (.iconst 3), .inl .iaload, .inl (.iconst (-1)), .inr (.invokeinterface 105 6), .inr .ireturn]
def k108_141 : List xI := [.inl (.aload 0), .inl (.aload 1), .inl (.iconst 1), .inl .iaload, .inl (.aload 1), .inl (.iconst 2), .inl .iaload, .inl (.aload 1), .inl (.iconst 3), .inl .iaload, .inl (.aload 1), .inl (.iconst 4), .inl .iaload, .inl (.aload 1), .inl (.iconst 0), .inl .iaload, .inr (.invokeinterface 105 6), .inr .ireturn]
def k108_161 : List xI := [.inl (.aload 0), .inl (.aload 1), .inl (.iconst 0), .inl .iaload, .inl (.aload 1), .inl (.iconst 1), .inl .iaload, .inl (.aload 1), .inl (.iconst 2), .inl .iaload, .inr (.invokeinterface 102 4), .inr .ireturn]
def k108_175 : List xI := [.inl (.aload 0), .inl (.aload 1), .inl (.iconst 0), .inl .iaload, .inl (.iconst 1), .inr (.invokeinterface 103 3), .inr .ireturn]
def k108_184 : List xI := [.inl (.aload 0), .inl (.aload 1), .inl (.iconst 0), .inl .iaload, .inr (.invokeinterface 106 2), .inr .ireturn]
def k108_192 : List xI := [.inl (.aload 0), .inl (.iconst 0), .inl (.aload 1), .inl (.iconst 0), .inl .iaload, .inr (.invokeinterface 107 3), .inr .ireturn]
def k108_201 : List xI := [.inl (.aload 0), .inl (.iconst 1), .inl (.aload 1), .inl (.iconst 0), .inl .iaload, .inr (.invokeinterface 107 3), .inr .ireturn]
def xm108 : List (Nat × List xI) := [(0, k108_0), (112, k108_112), (123, k108_123), (141, k108_141), (161, k108_161), (175, k108_175), (184, k108_184), (192, k108_192), (201, k108_201)]
/-- 109: DrawnFieldsModel.<init>()V -/
def k109_0 : List xI := [.inl (.aload 0), .inl .pop, .inl (.aload 0), .inl (.iconst 115), .inl (.newarray .int), .inl (.putfield 288), .inl (.aload 0), .inl (.iconst 115), .inl (.newarray .int), .inl (.putfield 289), .inl (.aload 0), .inl (.iconst 460), .inl (.newarray .int), .inl (.putfield 290), .inl (.aload 0), .inl (.iconst 3), .inl (.newarray .int), .inl (.putfield 292), .inl (.aload 0), .inl (.iconst 4096), .inl (.newarray .int), .inl (.putfield 294), .inl (.aload 0), .inl (.iconst 256), .inl (.newarray .boolean), .inl (.putfield 297), .inl (.aload 0), .inl (.iconst 8), .inl (.newarray .int), .inl (.putfield 298), .inl (.aload 0), .inl (.iconst 4096), .inl (.newarray .boolean), .inl (.putfield 300), .inl (.aload 0), .inl (.iconst 150), .inl (.newarray .int), .inl (.putfield 302), .inl (.aload 0), .inl (.iconst 60), .inl (.newarray .int), .inl (.putfield 307), .inl (.aload 0), .inl (.iconst 300), .inl (.newarray .int), .inl (.putfield 308), .inl (.aload 0), .inl (.iconst 0), .inl (.putfield 291), .inr .return_]
def xm109 : List (Nat × List xI) := [(0, k109_0)]
/-- 110: DrawnFieldsModel.in(III)Z -/
def k110_0 : List xI := [.inl (.iload 0), .inl (.iload 1), .inr (.if_icmp .lt 14), .inl (.iload 0), .inl (.iload 2), .inr (.if_icmp .gt 14), .inl (.iconst 1), .inr (.goto 15)]
def k110_14 : List xI := [.inl (.iconst 0), xto 15]
def k110_15 : List xI := [.inr .areturn]
def xm110 : List (Nat × List xI) := [(0, k110_0), (14, k110_14), (15, k110_15)]
/-- 111: DrawnFieldsModel.has(II)Z -/
def k111_0 : List xI := [.inl (.iload 0), .inl (.iload 1), .inl .ishr, .inl (.iconst 1), .inl .iand, .inl (.iconst 1), .inr (.if_icmp .ne 13), .inl (.iconst 1), .inr (.goto 14)]
def k111_13 : List xI := [.inl (.iconst 0), xto 14]
def k111_14 : List xI := [.inr .areturn]
def xm111 : List (Nat × List xI) := [(0, k111_0), (13, k111_13), (14, k111_14)]
/-- 112: DrawnFieldsModel.refuses(I)I -/
def k112_0 : List xI := [.inl (.aload 0), .inl (.getfield 292), .inl (.iconst (-2)), .inl (.iload 1), .inl .isub, .inl .dup2, .inl .iaload, .inl (.iconst 1), .inl .iadd, .inl .iastore, .inl (.iload 1), .inr .ireturn]
def xm112 : List (Nat × List xI) := [(0, k112_0)]
/-- 113: DrawnFieldsModel.hold()V -/
def k113_0 : List xI := [.inl (.iconst 0), .inl (.istore 1), xto 2]
def k113_2 : List xI := [.inl (.iload 1), .inl (.iconst 115), .inr (.if_icmp .ge 26), .inl (.aload 0), .inl (.getfield 289), .inl (.iload 1), .inl (.aload 0), .inl (.getfield 288), .inl (.iload 1), .inl .iaload, .inl .iastore, .inl (.iinc 1 1), .inr (.goto 2)]
def k113_26 : List xI := [.inr .return_]
def xm113 : List (Nat × List xI) := [(0, k113_0), (2, k113_2), (26, k113_26)]
/-- 114: DrawnFieldsModel.push()V -/
def k114_0 : List xI := [.inl (.aload 0), .inl (.getfield 291), .inl (.iconst 4), .inr (.if_icmp .ne 48), .inl (.iconst 0), .inl (.istore 1), xto 10]
def k114_10 : List xI := [.inl (.iload 1), .inl (.iconst 345), .inr (.if_icmp .ge 38), .inl (.aload 0), .inl (.getfield 290), .inl (.iload 1), .inl (.aload 0), .inl (.getfield 290), .inl (.iload 1), .inl (.iconst 115), .inl .iadd, .inl .iaload, .inl .iastore, .inl (.iinc 1 1), .inr (.goto 10)]
def k114_38 : List xI := [.inl (.aload 0), .inl .dup, .inl (.getfield 291), .inl (.iconst 1), .inl .isub, .inl (.putfield 291), xto 48]
def k114_48 : List xI := [.inl (.iconst 0), .inl (.istore 1), xto 50]
def k114_50 : List xI := [.inl (.iload 1), .inl (.iconst 115), .inr (.if_icmp .ge 82), .inl (.aload 0), .inl (.getfield 290), .inl (.iconst 115), .inl (.aload 0), .inl (.getfield 291), .inl .imul, .inl (.iload 1), .inl .iadd, .inl (.aload 0), .inl (.getfield 289), .inl (.iload 1), .inl .iaload, .inl .iastore, .inl (.iinc 1 1), .inr (.goto 50)]
def k114_82 : List xI := [.inl (.aload 0), .inl .dup, .inl (.getfield 291), .inl (.iconst 1), .inl .iadd, .inl (.putfield 291), .inr .return_]
def xm114 : List (Nat × List xI) := [(0, k114_0), (10, k114_10), (38, k114_38), (48, k114_48), (50, k114_50), (82, k114_82)]
/-- 115: DrawnFieldsModel.ends(I)I -/
def k115_0 : List xI := [.inl (.iload 1), .inr (.ifCond .ge 10), .inl (.aload 0), .inl (.iload 1), .inr (.invokeinterface 112 2), .inr .ireturn]
def k115_10 : List xI := [.inl (.aload 0), .inr (.invokeinterface 114 1), .inl (.iload 1), .inr .ireturn]
def xm115 : List (Nat × List xI) := [(0, k115_0), (10, k115_10)]
/-- 116: DrawnFieldsModel.back()I -/
def k116_0 : List xI := [.inl (.aload 0), .inl (.getfield 291), .inr (.ifCond .ne 14), .inl (.aload 0), .inl (.iconst (-3)), .inr (.invokeinterface 112 2), .inr .ireturn]
def k116_14 : List xI := [.inl (.aload 0), .inl .dup, .inl (.getfield 291), .inl (.iconst 1), .inl .isub, .inl (.putfield 291), .inl (.iconst 0), .inl (.istore 1), xto 26]
def k116_26 : List xI := [.inl (.iload 1), .inl (.iconst 115), .inr (.if_icmp .ge 58), .inl (.aload 0), .inl (.getfield 288), .inl (.iload 1), .inl (.aload 0), .inl (.getfield 290), .inl (.iconst 115), .inl (.aload 0), .inl (.getfield 291), .inl .imul, .inl (.iload 1), .inl .iadd, .inl .iaload, .inl .iastore, .inl (.iinc 1 1), .inr (.goto 26)]
def k116_58 : List xI := [.inl (.aload 0), .inl (.iconst 0), .inl (.putfield 293), .inl (.aload 0), .inl (.getfield 291), .inr .ireturn]
def xm116 : List (Nat × List xI) := [(0, k116_0), (14, k116_14), (26, k116_26), (58, k116_58)]
/-- 117: DrawnFieldsModel.fields()I -/
def k117_0 : List xI := [.inl (.aload 0), .inl (.getfield 288), .inl (.iconst 0), .inl .iaload, .inr .ireturn]
def xm117 : List (Nat × List xI) := [(0, k117_0)]
/-- 118: DrawnFieldsModel.isField(I)Z -/
def k118_0 : List xI := [.inl (.iload 1), .inl (.iconst 0), .inl (.aload 0), .inl (.getfield 288), .inl (.iconst 0), .inl .iaload, .inl (.iconst 1), .inl .isub, .inr (.invokeinterface 110 3), .inr .areturn]
def xm118 : List (Nat × List xI) := [(0, k118_0)]
/-- 119: DrawnFieldsModel.isRule(I)Z -/
def k119_0 : List xI := [.inl (.iload 1), .inl (.iconst 0), .inl (.aload 0), .inl (.getfield 288), .inl (.iconst 57), .inl .iaload, .inl (.iconst 1), .inl .isub, .inr (.invokeinterface 110 3), .inr .areturn]
def xm119 : List (Nat × List xI) := [(0, k119_0)]
/-- 120: DrawnFieldsModel.ofField(II)I -/
def k120_0 : List xI := [.inl (.aload 0), .inl (.getfield 288), .inl (.iconst 1), .inl (.iconst 13), .inl (.iload 1), .inl .imul, .inl .iadd, .inl (.iload 2), .inl .iadd, .inl .iaload, .inr .ireturn]
def xm120 : List (Nat × List xI) := [(0, k120_0)]
/-- 121: DrawnFieldsModel.put(III)V -/
def k121_0 : List xI := [.inl (.aload 0), .inl (.getfield 288), .inl (.iconst 1), .inl (.iconst 13), .inl (.iload 1), .inl .imul, .inl .iadd, .inl (.iload 2), .inl .iadd, .inl (.iload 3), .inl .iastore, .inr .return_]
def xm121 : List (Nat × List xI) := [(0, k121_0)]
/-- 122: DrawnFieldsModel.ofRule(II)I -/
def k122_0 : List xI := [.inl (.aload 0), .inl (.getfield 288), .inl (.iconst 58), .inl (.iconst 5), .inl (.iload 1), .inl .imul, .inl .iadd, .inl (.iload 2), .inl .iadd, .inl .iaload, .inr .ireturn]
def xm122 : List (Nat × List xI) := [(0, k122_0)]
/-- 123: DrawnFieldsModel.empty()V -/
def k123_0 : List xI := [.inl (.iconst 0), .inl (.istore 1), xto 2]
def k123_2 : List xI := [.inl (.iload 1), .inl (.iconst 4), .inr (.if_icmp .ge 27), .inl (.aload 0), .inl (.iload 1), .inl (.iconst 3), .inl (.iconst 0), .inr (.invokeinterface 121 4), .inl (.aload 0), .inl (.iload 1), .inl (.iconst 4), .inl (.iconst (-1)), .inr (.invokeinterface 121 4), .inl (.iinc 1 1), .inr (.goto 2)]
def k123_27 : List xI := [.inl (.aload 0), .inl (.getfield 288), .inl (.iconst 98), .inl (.iconst 0), .inl .iastore, .inl (.aload 0), .inl (.iconst 0), .inl (.putfield 293), .inr .return_]
def xm123 : List (Nat × List xI) := [(0, k123_0), (2, k123_2), (27, k123_27)]
/-- 124: DrawnFieldsModel.doField(II)I -/
def k124_0 : List xI := [.inl (.iload 1), .inl (.iconst 0), .inl (.iconst 7), .inr (.invokeinterface 110 3), .inr (.ifCond .eq 20), .inl (.iload 2), .inl (.iload 1), .inl (.iconst 7), .inr (.invokeinterface 110 3), .inr (.ifCond .ne 23), xto 20]
def k124_20 : List xI := [.inl (.iconst (-2)), .inr .ireturn]
def k124_23 : List xI := [.inl (.aload 0), .inl (.getfield 288), .inl (.iconst 0), .inl .iaload, .inl (.iconst 4), .inr (.if_icmp .ne 36), .inl (.iconst (-4)), .inr .ireturn]
def k124_36 : List xI := [.inl (.aload 0), .inl (.getfield 288), .inl (.iconst 0), .inl .iaload, .inl (.istore 3), .inl (.aload 0), .inl (.getfield 288), .inl (.iconst 0), .inl .dup2, .inl .iaload, .inl (.iconst 1), .inl .iadd, .inl .iastore, .inl (.aload 0), .inl (.iload 3), .inl (.iconst 0), .inl (.iload 1), .inr (.invokeinterface 121 4), .inl (.aload 0), .inl (.iload 3), .inl (.iconst 1), .inl (.iload 2), .inr (.invokeinterface 121 4), .inl (.aload 0), .inl (.iload 3), .inl (.iconst 2), .inl (.iconst 0), .inr (.invokeinterface 121 4), .inl (.iconst 0), .inl (.istore 4), xto 77]
def k124_77 : List xI := [.inl (.iload 4), .inl (.iconst 8), .inr (.if_icmp .ge 100), .inl (.aload 0), .inl (.iload 3), .inl (.iconst 5), .inl (.iload 4), .inl .iadd, .inl (.iconst 1), .inr (.invokeinterface 121 4), .inl (.iinc 4 1), .inr (.goto 77)]
def k124_100 : List xI := [.inl (.aload 0), .inl (.getfield 288), .inl (.iconst 53), .inl (.iload 3), .inl .iadd, .inl (.iload 3), .inl .iastore, .inl (.aload 0), .inr (.invokeinterface 123 1), .inl (.iload 3), .inr .ireturn]
def xm124 : List (Nat × List xI) := [(0, k124_0), (20, k124_20), (23, k124_23), (36, k124_36), (77, k124_77), (100, k124_100)]
/-- 125: DrawnFieldsModel.doRange(III)I -/
def k125_0 : List xI := [.inl (.aload 0), .inl (.iload 1), .inr (.invokeinterface 118 2), .inr (.ifCond .eq 28), .inl (.iload 2), .inl (.iconst 0), .inl (.iconst 7), .inr (.invokeinterface 110 3), .inr (.ifCond .eq 28), .inl (.iload 3), .inl (.iload 2), .inl (.iconst 7), .inr (.invokeinterface 110 3), .inr (.ifCond .ne 31), xto 28]
def k125_28 : List xI := [.inl (.iconst (-2)), .inr .ireturn]
def k125_31 : List xI := [.inl (.aload 0), .inl (.iload 1), .inl (.iconst 0), .inl (.iload 2), .inr (.invokeinterface 121 4), .inl (.aload 0), .inl (.iload 1), .inl (.iconst 1), .inl (.iload 3), .inr (.invokeinterface 121 4), .inl (.aload 0), .inr (.invokeinterface 123 1), .inl (.iload 3), .inl (.iload 2), .inl .isub, .inl (.iconst 1), .inl .iadd, .inr .ireturn]
def xm125 : List (Nat × List xI) := [(0, k125_0), (28, k125_28), (31, k125_31)]
/-- 126: DrawnFieldsModel.doWeighs(III)I -/
def k126_0 : List xI := [.inl (.aload 0), .inl (.iload 1), .inr (.invokeinterface 118 2), .inr (.ifCond .eq 28), .inl (.iload 2), .inl (.iconst 0), .inl (.iconst 7), .inr (.invokeinterface 110 3), .inr (.ifCond .eq 28), .inl (.iload 3), .inl (.iconst 0), .inl (.iconst 9), .inr (.invokeinterface 110 3), .inr (.ifCond .ne 31), xto 28]
def k126_28 : List xI := [.inl (.iconst (-2)), .inr .ireturn]
def k126_31 : List xI := [.inl (.aload 0), .inl (.iload 1), .inl (.iconst 5), .inl (.iload 2), .inl .iadd, .inr (.invokeinterface 120 3), .inl (.istore 4), .inl (.aload 0), .inl (.iload 1), .inl (.iconst 5), .inl (.iload 2), .inl .iadd, .inl (.iload 3), .inr (.invokeinterface 121 4), .inl (.iload 4), .inr .ireturn]
def xm126 : List (Nat × List xI) := [(0, k126_0), (28, k126_28), (31, k126_31)]
/-- 127: DrawnFieldsModel.doRound(II)I -/
def k127_0 : List xI := [.inl (.aload 0), .inl (.iload 1), .inr (.invokeinterface 118 2), .inr (.ifCond .eq 17), .inl (.iload 2), .inl (.iconst 0), .inl (.iconst 1), .inr (.invokeinterface 110 3), .inr (.ifCond .ne 20), xto 17]
def k127_17 : List xI := [.inl (.iconst (-2)), .inr .ireturn]
def k127_20 : List xI := [.inl (.aload 0), .inl (.iload 1), .inl (.iconst 2), .inr (.invokeinterface 120 3), .inl (.istore 3), .inl (.aload 0), .inl (.iload 1), .inl (.iconst 2), .inl (.iload 2), .inr (.invokeinterface 121 4), .inl (.aload 0), .inl (.iload 1), .inl (.iconst 3), .inl (.iconst 0), .inr (.invokeinterface 121 4), .inl (.iload 3), .inr .ireturn]
def xm127 : List (Nat × List xI) := [(0, k127_0), (17, k127_17), (20, k127_20)]
/-- 128: DrawnFieldsModel.mostOf(I)I -/
def k128_0 : List xI := [.inl (.iload 0), .inr (.ifCond .ne 9), .inl (.iconst 14), .inr (.goto 41)]
def k128_9 : List xI := [.inl (.iload 0), .inl (.iconst 3), .inr (.if_icmp .ne 20), .inl (.iconst 255), .inr (.goto 41)]
def k128_20 : List xI := [.inl (.iload 0), .inl (.iconst 4), .inr (.if_icmp .ne 30), .inl (.iconst 63), .inr (.goto 41)]
def k128_30 : List xI := [.inl (.iload 0), .inl (.iconst 5), .inr (.if_icmp .ne 40), .inl (.iconst 7), .inr (.goto 41)]
def k128_40 : List xI := [.inl (.iconst 0), xto 41]
def k128_41 : List xI := [.inr .ireturn]
def xm128 : List (Nat × List xI) := [(0, k128_0), (9, k128_9), (20, k128_20), (30, k128_30), (40, k128_40), (41, k128_41)]
/-- 129: DrawnFieldsModel.doRule(IIIII)I -/
def k129_0 : List xI := [.inl (.iload 1), .inl (.iconst 0), .inl (.iconst 5), .inr (.invokeinterface 110 3), .inr (.ifCond .eq 72), .inl (.aload 0), .inl (.iload 2), .inr (.invokeinterface 118 2), .inr (.ifCond .eq 72), .inl (.aload 0), .inl (.iload 3), .inr (.invokeinterface 118 2), .inr (.ifCond .eq 72), .inl (.iload 2), .inl (.iload 3), .inr (.if_icmp .ne 34), .inl (.iconst 1), .inr (.goto 35)]
def k129_34 : List xI := [.inl (.iconst 0), xto 35]
def k129_35 : List xI := [.inl (.iload 1), .inl (.iconst 3), .inr (.if_icmp .ne 44), .inl (.iconst 1), .inr (.goto 45)]
def k129_44 : List xI := [.inl (.iconst 0), xto 45]
def k129_45 : List xI := [.inr (.if_icmp .ne 72), .inl (.iload 4), .inl (.iconst 0), .inl (.iload 1), .inr (.invokeinterface 128 1), .inr (.invokeinterface 110 3), .inr (.ifCond .eq 72), .inl (.iload 5), .inl (.iconst (-1)), .inl (.iconst 9), .inr (.invokeinterface 110 3), .inr (.ifCond .ne 75), xto 72]
def k129_72 : List xI := [.inl (.iconst (-2)), .inr .ireturn]
def k129_75 : List xI := [.inl (.aload 0), .inl (.getfield 288), .inl (.iconst 57), .inl .iaload, .inl (.iconst 8), .inr (.if_icmp .ne 90), .inl (.iconst (-4)), .inr .ireturn]
def k129_90 : List xI := [.inl (.iconst 58), .inl (.iconst 5), .inl (.aload 0), .inl (.getfield 288), .inl (.iconst 57), .inl .iaload, .inl .imul, .inl .iadd, .inl (.istore 6), .inl (.aload 0), .inl (.getfield 288), .inl (.iload 6), .inl (.iload 1), .inl .iastore, .inl (.aload 0), .inl (.getfield 288), .inl (.iload 6), .inl (.iconst 1), .inl .iadd, .inl (.iload 2), .inl .iastore, .inl (.aload 0), .inl (.getfield 288), .inl (.iload 6), .inl (.iconst 2), .inl .iadd, .inl (.iload 3), .inl .iastore, .inl (.aload 0), .inl (.getfield 288), .inl (.iload 6), .inl (.iconst 3), .inl .iadd, .inl (.iload 4), .inl .iastore, .inl (.aload 0), .inl (.getfield 288), .inl (.iload 6), .inl (.iconst 4), .inl .iadd, .inl (.iload 5), .inl .iastore, .inl (.aload 0), .inl (.getfield 288), .inl (.iconst 57), .inl .dup2, .inl .iaload, .inl (.iconst 1), .inl .iadd, .inl .iastore, .inl (.aload 0), .inr (.invokeinterface 123 1), .inl (.aload 0), .inl (.getfield 288), .inl (.iconst 57), .inl .iaload, .inl (.iconst 1), .inl .isub, .inr .ireturn]
def xm129 : List (Nat × List xI) := [(0, k129_0), (34, k129_34), (35, k129_35), (44, k129_44), (45, k129_45), (72, k129_72), (75, k129_75), (90, k129_90)]
/-- 130: DrawnFieldsModel.doDrops(I)I -/
def k130_0 : List xI := [.inl (.aload 0), .inl (.iload 1), .inr (.invokeinterface 119 2), .inr (.ifCond .ne 11), .inl (.iconst (-2)), .inr .ireturn]
def k130_11 : List xI := [.inl (.iconst 58), .inl (.iconst 5), .inl (.iload 1), .inl .imul, .inl .iadd, .inl (.istore 2), xto 18]
def k130_18 : List xI := [.inl (.iload 2), .inl (.iconst 93), .inr (.if_icmp .ge 44), .inl (.aload 0), .inl (.getfield 288), .inl (.iload 2), .inl (.aload 0), .inl (.getfield 288), .inl (.iload 2), .inl (.iconst 5), .inl .iadd, .inl .iaload, .inl .iastore, .inl (.iinc 2 1), .inr (.goto 18)]
def k130_44 : List xI := [.inl (.aload 0), .inl (.getfield 288), .inl (.iconst 57), .inl .dup2, .inl .iaload, .inl (.iconst 1), .inl .isub, .inl .iastore, .inl (.aload 0), .inr (.invokeinterface 123 1), .inl (.aload 0), .inl (.getfield 288), .inl (.iconst 57), .inl .iaload, .inr .ireturn]
def xm130 : List (Nat × List xI) := [(0, k130_0), (11, k130_11), (18, k130_18), (44, k130_44)]
/-- 131: DrawnFieldsModel.field(II)I -/
def k131_0 : List xI := [.inl (.aload 0), .inr (.invokeinterface 113 1), .inl (.aload 0), .inl (.aload 0), .inl (.iload 1), .inl (.iload 2), .inr (.invokeinterface 124 3), .inr (.invokeinterface 115 2), .inr .ireturn]
def xm131 : List (Nat × List xI) := [(0, k131_0)]
/-- 132: DrawnFieldsModel.range(III)I -/
def k132_0 : List xI := [.inl (.aload 0), .inr (.invokeinterface 113 1), .inl (.aload 0), .inl (.aload 0), .inl (.iload 1), .inl (.iload 2), .inl (.iload 3), .inr (.invokeinterface 125 4), .inr (.invokeinterface 115 2), .inr .ireturn]
def xm132 : List (Nat × List xI) := [(0, k132_0)]
/-- 133: DrawnFieldsModel.weighs(III)I -/
def k133_0 : List xI := [.inl (.aload 0), .inr (.invokeinterface 113 1), .inl (.aload 0), .inl (.aload 0), .inl (.iload 1), .inl (.iload 2), .inl (.iload 3), .inr (.invokeinterface 126 4), .inr (.invokeinterface 115 2), .inr .ireturn]
def xm133 : List (Nat × List xI) := [(0, k133_0)]
/-- 134: DrawnFieldsModel.round(II)I -/
def k134_0 : List xI := [.inl (.aload 0), .inr (.invokeinterface 113 1), .inl (.aload 0), .inl (.aload 0), .inl (.iload 1), .inl (.iload 2), .inr (.invokeinterface 127 3), .inr (.invokeinterface 115 2), .inr .ireturn]
def xm134 : List (Nat × List xI) := [(0, k134_0)]
/-- 135: DrawnFieldsModel.placeOf(I)I -/
def k135_0 : List xI := [.inl (.iconst 0), .inl (.istore 2), xto 2]
def k135_2 : List xI := [.inl (.aload 0), .inl (.getfield 288), .inl (.iconst 53), .inl (.iload 2), .inl .iadd, .inl .iaload, .inl (.iload 1), .inr (.if_icmp .eq 21), .inl (.iinc 2 1), .inr (.goto 2)]
def k135_21 : List xI := [.inl (.iload 2), .inr .ireturn]
def xm135 : List (Nat × List xI) := [(0, k135_0), (2, k135_2), (21, k135_21)]
/-- 136: DrawnFieldsModel.orders(II)I -/
def k136_0 : List xI := [.inl (.aload 0), .inl (.iload 1), .inr (.invokeinterface 118 2), .inr (.ifCond .eq 16), .inl (.aload 0), .inl (.iload 2), .inr (.invokeinterface 118 2), .inr (.ifCond .ne 23), xto 16]
def k136_16 : List xI := [.inl (.aload 0), .inl (.iconst (-2)), .inr (.invokeinterface 112 2), .inr .ireturn]
def k136_23 : List xI := [.inl (.aload 0), .inr (.invokeinterface 113 1), .inl (.aload 0), .inl (.iload 1), .inr (.invokeinterface 135 2), .inl (.istore 3), .inl (.iload 3), .inl (.istore 4), xto 36]
def k136_36 : List xI := [.inl (.iload 4), .inl (.iload 2), .inr (.if_icmp .ge 70), .inl (.aload 0), .inl (.getfield 288), .inl (.iconst 53), .inl (.iload 4), .inl .iadd, .inl (.aload 0), .inl (.getfield 288), .inl (.iconst 53), .inl (.iload 4), .inl .iadd, .inl (.iconst 1), .inl .iadd, .inl .iaload, .inl .iastore, .inl (.iinc 4 1), .inr (.goto 36)]
def k136_70 : List xI := [.inl (.iload 3), .inl (.istore 4), xto 73]
def k136_73 : List xI := [.inl (.iload 4), .inl (.iload 2), .inr (.if_icmp .le 107), .inl (.aload 0), .inl (.getfield 288), .inl (.iconst 53), .inl (.iload 4), .inl .iadd, .inl (.aload 0), .inl (.getfield 288), .inl (.iconst 53), .inl (.iload 4), .inl .iadd, .inl (.iconst 1), .inl .isub, .inl .iaload, .inl .iastore, .inl (.iinc 4 (-1)), .inr (.goto 73)]
def k136_107 : List xI := [.inl (.aload 0), .inl (.getfield 288), .inl (.iconst 53), .inl (.iload 2), .inl .iadd, .inl (.iload 1), .inl .iastore, .inl (.aload 0), .inr (.invokeinterface 114 1), .inl (.iload 3), .inr .ireturn]
def xm136 : List (Nat × List xI) := [(0, k136_0), (16, k136_16), (23, k136_23), (36, k136_36), (70, k136_70), (73, k136_73), (107, k136_107)]
/-- 137: DrawnFieldsModel.rule(IIIII)I -/
def k137_0 : List xI := [.inl (.aload 0), .inr (.invokeinterface 113 1), .inl (.aload 0), .inl (.aload 0), .inl (.iload 1), .inl (.iload 2), .inl (.iload 3), .inl (.iload 4), .inl (.iload 5), .inr (.invokeinterface 129 6), .inr (.invokeinterface 115 2), .inr .ireturn]
def xm137 : List (Nat × List xI) := [(0, k137_0)]
/-- 138: DrawnFieldsModel.drops(I)I -/
def k138_0 : List xI := [.inl (.aload 0), .inr (.invokeinterface 113 1), .inl (.aload 0), .inl (.aload 0), .inl (.iload 1), .inr (.invokeinterface 130 2), .inr (.invokeinterface 115 2), .inr .ireturn]
def xm138 : List (Nat × List xI) := [(0, k138_0)]
/-- 139: DrawnFieldsModel.valueOf(II)I -/
def k139_0 : List xI := [.inl (.iload 1), .inl (.iconst 9), .inl (.iconst 3), .inl (.iload 2), .inl .imul, .inl .isub, .inl .ishr, .inl (.iconst 7), .inl .iand, .inr .ireturn]
def xm139 : List (Nat × List xI) := [(0, k139_0)]
/-- 140: DrawnFieldsModel.keeps(II)Z -/
def k140_0 : List xI := [.inl (.aload 0), .inl (.iload 1), .inl (.aload 0), .inl (.iload 2), .inl (.iconst 1), .inr (.invokeinterface 122 3), .inr (.invokeinterface 139 3), .inl (.istore 3), .inl (.aload 0), .inl (.iload 1), .inl (.aload 0), .inl (.iload 2), .inl (.iconst 2), .inr (.invokeinterface 122 3), .inr (.invokeinterface 139 3), .inl (.istore 4), .inl (.aload 0), .inl (.iload 2), .inl (.iconst 3), .inr (.invokeinterface 122 3), .inl (.istore 5), .inl (.aload 0), .inl (.iload 2), .inl (.iconst 0), .inr (.invokeinterface 122 3), .inr (.lookupswitch 143 #[(0, 72), (1, 87), (2, 99), (3, 111), (4, 118)])]
def k140_72 : List xI := [.inl (.iload 3), .inl (.iload 4), .inl .iadd, .inl (.iload 5), .inr (.if_icmp .ne 85), .inl (.iconst 1), .inr (.goto 86)]
def k140_85 : List xI := [.inl (.iconst 0), xto 86]
def k140_86 : List xI := [.inr .areturn]
def k140_87 : List xI := [.inl (.iload 3), .inl (.iload 4), .inr (.if_icmp .ge 97), .inl (.iconst 1), .inr (.goto 98)]
def k140_97 : List xI := [.inl (.iconst 0), xto 98]
def k140_98 : List xI := [.inr .areturn]
def k140_99 : List xI := [.inl (.iload 3), .inl (.iload 4), .inr (.if_icmp .eq 109), .inl (.iconst 1), .inr (.goto 110)]
def k140_109 : List xI := [.inl (.iconst 0), xto 110]
def k140_110 : List xI := [.inr .areturn]
def k140_111 : List xI := [.inl (.iload 5), .inl (.iload 3), .inr (.invokeinterface 111 2), .inr .areturn]
def k140_118 : List xI := [.inl (.iload 3), .inl (.iload 5), .inl (.iconst 8), .inl .idiv, .inr (.if_icmp .ne 137), .inl (.iload 4), .inl (.iload 5), .inl (.iconst 8), .inl .irem, .inr (.if_icmp .ne 141), xto 137]
def k140_137 : List xI := [.inl (.iconst 1), .inr (.goto 142)]
def k140_141 : List xI := [.inl (.iconst 0), xto 142]
def k140_142 : List xI := [.inr .areturn]
def k140_143 : List xI := [.inl (.iload 3), .inl (.iload 4), .inl .isub, .inl (.iload 5), .inr (.if_icmp .ge 161), .inl (.iload 4), .inl (.iload 3), .inl .isub, .inl (.iload 5), .inr (.if_icmp .lt 165), xto 161]
def k140_161 : List xI := [.inl (.iconst 1), .inr (.goto 166)]
def k140_165 : List xI := [.inl (.iconst 0), xto 166]
def k140_166 : List xI := [.inr .areturn]
def xm140 : List (Nat × List xI) := [(0, k140_0), (72, k140_72), (85, k140_85), (86, k140_86), (87, k140_87), (97, k140_97), (98, k140_98), (99, k140_99), (109, k140_109), (110, k140_110), (111, k140_111), (118, k140_118), (137, k140_137), (141, k140_141), (142, k140_142), (143, k140_143), (161, k140_161), (165, k140_165), (166, k140_166)]
/-- 141: DrawnFieldsModel.keptBy(I)I -/
def k141_0 : List xI := [.inl (.iconst 0), .inl (.istore 2), .inl (.iconst 0), .inl (.istore 3), xto 4]
def k141_4 : List xI := [.inl (.iload 3), .inl (.aload 0), .inl (.getfield 288), .inl (.iconst 57), .inl .iaload, .inr (.if_icmp .ge 40), .inl (.iload 2), .inl (.aload 0), .inl (.iload 1), .inl (.iload 3), .inr (.invokeinterface 140 3), .inr (.ifCond .eq 31), .inl (.iconst 1), .inl (.iload 3), .inl .ishl, .inr (.goto 32)]
def k141_31 : List xI := [.inl (.iconst 0), xto 32]
def k141_32 : List xI := [.inl .ior, .inl (.istore 2), .inl (.iinc 3 1), .inr (.goto 4)]
def k141_40 : List xI := [.inl (.iload 2), .inr .ireturn]
def xm141 : List (Nat × List xI) := [(0, k141_0), (4, k141_4), (31, k141_31), (32, k141_32), (40, k141_40)]
/-- 142: DrawnFieldsModel.isSome(I)Z -/
def k142_0 : List xI := [.inl (.iconst 0), .inl (.istore 2), .inl (.iconst 0), .inl (.istore 3), xto 4]
def k142_4 : List xI := [.inl (.iload 3), .inl (.iconst 256), .inr (.if_icmp .ge 44), .inl (.iload 2), .inr (.ifCond .ne 44), .inl (.aload 0), .inl (.getfield 297), .inl (.iload 3), .inl .baload, .inr (.ifCond .eq 36), .inl (.iload 1), .inl (.iload 3), .inl (.iconst (-1)), .inl .ixor, .inl .iand, .inr (.ifCond .ne 36), .inl (.iconst 1), .inr (.goto 37)]
def k142_36 : List xI := [.inl (.iconst 0), xto 37]
def k142_37 : List xI := [.inl (.istore 2), .inl (.iinc 3 1), .inr (.goto 4)]
def k142_44 : List xI := [.inl (.iload 2), .inr .areturn]
def xm142 : List (Nat × List xI) := [(0, k142_0), (4, k142_4), (36, k142_36), (37, k142_37), (44, k142_44)]
/-- 143: DrawnFieldsModel.first()I -/
def k143_0 : List xI := [.inl (.iconst 0), .inl (.istore 1), .inl (.iconst 0), .inl (.istore 2), xto 4]
def k143_4 : List xI := [.inl (.iload 2), .inl (.aload 0), .inr (.invokeinterface 117 1), .inr (.if_icmp .ge 34), .inl (.iload 1), .inl (.aload 0), .inl (.iload 2), .inl (.iconst 0), .inr (.invokeinterface 120 3), .inl (.iconst 9), .inl (.iconst 3), .inl (.iload 2), .inl .imul, .inl .isub, .inl .ishl, .inl .ior, .inl (.istore 1), .inl (.iinc 2 1), .inr (.goto 4)]
def k143_34 : List xI := [.inl (.iload 1), .inr .ireturn]
def xm143 : List (Nat × List xI) := [(0, k143_0), (4, k143_4), (34, k143_34)]
/-- 144: DrawnFieldsModel.next(I)I -/
def k144_0 : List xI := [.inl (.iload 1), .inl (.istore 2), .inl (.aload 0), .inr (.invokeinterface 117 1), .inl (.iconst 1), .inl .isub, .inl (.istore 3), xto 9]
def k144_9 : List xI := [.inl (.iload 3), .inr (.ifCond .lt 69), .inl (.iconst 9), .inl (.iconst 3), .inl (.iload 3), .inl .imul, .inl .isub, .inl (.istore 4), .inl (.aload 0), .inl (.iload 2), .inl (.iload 3), .inr (.invokeinterface 139 3), .inl (.aload 0), .inl (.iload 3), .inl (.iconst 1), .inr (.invokeinterface 120 3), .inr (.if_icmp .ge 43), .inl (.iload 2), .inl (.iconst 1), .inl (.iload 4), .inl .ishl, .inl .iadd, .inr .ireturn]
def k144_43 : List xI := [.inl (.iload 2), .inl (.iconst 7), .inl (.iload 4), .inl .ishl, .inl (.iconst (-1)), .inl .ixor, .inl .iand, .inl (.aload 0), .inl (.iload 3), .inl (.iconst 0), .inr (.invokeinterface 120 3), .inl (.iload 4), .inl .ishl, .inl .ior, .inl (.istore 2), .inl (.iinc 3 (-1)), .inr (.goto 9)]
def k144_69 : List xI := [.inl (.iconst (-1)), .inr .ireturn]
def xm144 : List (Nat × List xI) := [(0, k144_0), (9, k144_9), (43, k144_43), (69, k144_69)]
/-- 145: DrawnFieldsModel.hard()I -/
def k145_0 : List xI := [.inl (.iconst 0), .inl (.istore 1), .inl (.iconst 0), .inl (.istore 2), xto 4]
def k145_4 : List xI := [.inl (.iload 2), .inl (.aload 0), .inl (.getfield 288), .inl (.iconst 57), .inl .iaload, .inr (.if_icmp .ge 41), .inl (.iload 1), .inl (.aload 0), .inl (.iload 2), .inl (.iconst 4), .inr (.invokeinterface 122 3), .inl (.iconst (-1)), .inr (.if_icmp .ne 32), .inl (.iconst 1), .inl (.iload 2), .inl .ishl, .inr (.goto 33)]
def k145_32 : List xI := [.inl (.iconst 0), xto 33]
def k145_33 : List xI := [.inl .ior, .inl (.istore 1), .inl (.iinc 2 1), .inr (.goto 4)]
def k145_41 : List xI := [.inl (.iload 1), .inr .ireturn]
def xm145 : List (Nat × List xI) := [(0, k145_0), (4, k145_4), (32, k145_32), (33, k145_33), (41, k145_41)]
/-- 146: DrawnFieldsModel.lookAtSoft()V -/
def k146_0 : List xI := [.inl (.aload 0), .inl (.iconst 0), .inl (.putfield 299), .inl (.iconst 0), .inl (.istore 1), xto 7]
def k146_7 : List xI := [.inl (.iload 1), .inl (.iconst 10), .inr (.if_icmp .ge 68), .inl (.iconst 0), .inl (.istore 2), xto 15]
def k146_15 : List xI := [.inl (.iload 2), .inl (.aload 0), .inl (.getfield 288), .inl (.iconst 57), .inl .iaload, .inr (.if_icmp .ge 62), .inl (.aload 0), .inl (.iload 2), .inl (.iconst 4), .inr (.invokeinterface 122 3), .inl (.iload 1), .inr (.if_icmp .ne 56), .inl (.aload 0), .inl (.getfield 298), .inl (.aload 0), .inl (.getfield 299), .inl (.iload 2), .inl .iastore, .inl (.aload 0), .inl .dup, .inl (.getfield 299), .inl (.iconst 1), .inl .iadd, .inl (.putfield 299), xto 56]
def k146_56 : List xI := [.inl (.iinc 2 1), .inr (.goto 15)]
def k146_62 : List xI := [.inl (.iinc 1 1), .inr (.goto 7)]
def k146_68 : List xI := [.inl (.aload 0), .inl (.aload 0), .inr (.invokeinterface 145 1), .inl (.putfield 296), .inl (.iconst 0), .inl (.istore 1), xto 78]
def k146_78 : List xI := [.inl (.iload 1), .inl (.aload 0), .inl (.getfield 299), .inr (.if_icmp .ge 133), .inl (.aload 0), .inl .dup, .inl (.getfield 296), .inl (.aload 0), .inl (.aload 0), .inl (.getfield 296), .inl (.iconst 1), .inl (.aload 0), .inl (.getfield 298), .inl (.iload 1), .inl .iaload, .inl .ishl, .inl .ior, .inr (.invokeinterface 142 2), .inr (.ifCond .eq 122), .inl (.iconst 1), .inl (.aload 0), .inl (.getfield 298), .inl (.iload 1), .inl .iaload, .inl .ishl, .inr (.goto 123)]
def k146_122 : List xI := [.inl (.iconst 0), xto 123]
def k146_123 : List xI := [.inl .ior, .inl (.putfield 296), .inl (.iinc 1 1), .inr (.goto 78)]
def k146_133 : List xI := [.inr .return_]
def xm146 : List (Nat × List xI) := [(0, k146_0), (7, k146_7), (15, k146_15), (56, k146_56), (62, k146_62), (68, k146_68), (78, k146_78), (122, k146_122), (123, k146_123), (133, k146_133)]
/-- 147: DrawnFieldsModel.lay()V -/
def k147_0 : List xI := [.inl (.aload 0), .inl (.getfield 293), .inr (.ifCond .eq 8), .inr .return_]
def k147_8 : List xI := [.inl (.aload 0), .inl (.iconst 1), .inl (.putfield 293), .inl (.iconst 0), .inl (.istore 1), xto 15]
def k147_15 : List xI := [.inl (.iload 1), .inl (.iconst 256), .inr (.if_icmp .ge 35), .inl (.aload 0), .inl (.getfield 297), .inl (.iload 1), .inl (.iconst 0), .inl .bastore, .inl (.iinc 1 1), .inr (.goto 15)]
def k147_35 : List xI := [.inl (.aload 0), .inr (.invokeinterface 143 1), .inl (.istore 1), xto 40]
def k147_40 : List xI := [.inl (.iload 1), .inl (.iconst (-1)), .inr (.if_icmp .eq 65), .inl (.aload 0), .inl (.getfield 297), .inl (.aload 0), .inl (.iload 1), .inr (.invokeinterface 141 2), .inl (.iconst 1), .inl .bastore, .inl (.aload 0), .inl (.iload 1), .inr (.invokeinterface 144 2), .inl (.istore 1), .inr (.goto 40)]
def k147_65 : List xI := [.inl (.aload 0), .inr (.invokeinterface 146 1), .inl (.aload 0), .inl (.iconst 0), .inl (.putfield 295), .inl (.aload 0), .inr (.invokeinterface 143 1), .inl (.istore 1), xto 79]
def k147_79 : List xI := [.inl (.iload 1), .inl (.iconst (-1)), .inr (.if_icmp .eq 128), .inl (.aload 0), .inl (.getfield 296), .inl (.aload 0), .inl (.iload 1), .inr (.invokeinterface 141 2), .inl (.iconst (-1)), .inl .ixor, .inl .iand, .inr (.ifCond .ne 119), .inl (.aload 0), .inl (.getfield 294), .inl (.aload 0), .inl (.getfield 295), .inl (.iload 1), .inl .iastore, .inl (.aload 0), .inl .dup, .inl (.getfield 295), .inl (.iconst 1), .inl .iadd, .inl (.putfield 295), xto 119]
def k147_119 : List xI := [.inl (.aload 0), .inl (.iload 1), .inr (.invokeinterface 144 2), .inl (.istore 1), .inr (.goto 79)]
def k147_128 : List xI := [.inr .return_]
def xm147 : List (Nat × List xI) := [(0, k147_0), (8, k147_8), (15, k147_15), (35, k147_35), (40, k147_40), (65, k147_65), (79, k147_79), (119, k147_119), (128, k147_128)]
/-- 148: DrawnFieldsModel.weightOf(I)I -/
def k148_0 : List xI := [.inl (.iconst 1), .inl (.istore 2), .inl (.iconst 0), .inl (.istore 3), xto 4]
def k148_4 : List xI := [.inl (.iload 3), .inl (.aload 0), .inr (.invokeinterface 117 1), .inr (.if_icmp .ge 34), .inl (.iload 2), .inl (.aload 0), .inl (.iload 3), .inl (.iconst 5), .inl (.aload 0), .inl (.iload 1), .inl (.iload 3), .inr (.invokeinterface 139 3), .inl .iadd, .inr (.invokeinterface 120 3), .inl .imul, .inl (.istore 2), .inl (.iinc 3 1), .inr (.goto 4)]
def k148_34 : List xI := [.inl (.iload 2), .inr .ireturn]
def xm148 : List (Nat × List xI) := [(0, k148_0), (4, k148_4), (34, k148_34)]
/-- 149: DrawnFieldsModel.sumOf(I)I -/
def k149_0 : List xI := [.inl (.iconst 0), .inl (.istore 2), .inl (.iconst 0), .inl (.istore 3), xto 4]
def k149_4 : List xI := [.inl (.iload 3), .inl (.aload 0), .inr (.invokeinterface 117 1), .inr (.if_icmp .ge 27), .inl (.iload 2), .inl (.aload 0), .inl (.iload 1), .inl (.iload 3), .inr (.invokeinterface 139 3), .inl .iadd, .inl (.istore 2), .inl (.iinc 3 1), .inr (.goto 4)]
def k149_27 : List xI := [.inl (.iload 2), .inr .ireturn]
def xm149 : List (Nat × List xI) := [(0, k149_0), (4, k149_4), (27, k149_27)]
/-- 150: DrawnFieldsModel.ofAll(II)I -/
def k150_0 : List xI := [.inl (.iload 2), .inl (.iconst 3), .inr (.if_icmp .ge 14), .inl (.aload 0), .inl (.iload 1), .inl (.iload 2), .inr (.invokeinterface 120 3), .inr (.goto 35)]
def k150_14 : List xI := [.inl (.iload 2), .inl (.iconst 3), .inr (.if_icmp .ne 27), .inl (.aload 0), .inl (.iload 1), .inr (.invokeinterface 135 2), .inr (.goto 35)]
def k150_27 : List xI := [.inl (.aload 0), .inl (.iload 1), .inl (.iload 2), .inl (.iconst 1), .inl .isub, .inr (.invokeinterface 120 3), xto 35]
def k150_35 : List xI := [.inr .ireturn]
def xm150 : List (Nat × List xI) := [(0, k150_0), (14, k150_14), (27, k150_27), (35, k150_35)]
/-- 151: DrawnFieldsModel.of(II)I -/
def k151_0 : List xI := [.inl (.aload 0), .inl (.iload 1), .inr (.invokeinterface 118 2), .inr (.ifCond .eq 26), .inl (.iload 2), .inl (.iconst 0), .inl (.iconst 5), .inr (.invokeinterface 110 3), .inr (.ifCond .eq 26), .inl (.aload 0), .inl (.iload 1), .inl (.iload 2), .inr (.invokeinterface 150 3), .inr (.goto 32)]
def k151_26 : List xI := [.inl (.aload 0), .inl (.iconst (-2)), .inr (.invokeinterface 112 2), xto 32]
def k151_32 : List xI := [.inr .ireturn]
def xm151 : List (Nat × List xI) := [(0, k151_0), (26, k151_26), (32, k151_32)]
/-- 152: DrawnFieldsModel.aboutRule(II)I -/
def k152_0 : List xI := [.inl (.iload 2), .inl (.iconst 5), .inr (.if_icmp .ge 12), .inl (.aload 0), .inl (.iload 1), .inl (.iload 2), .inr (.invokeinterface 122 3), .inr .ireturn]
def k152_12 : List xI := [.inl (.aload 0), .inr (.invokeinterface 147 1), .inl (.aload 0), .inl (.iload 1), .inl (.iconst 4), .inr (.invokeinterface 122 3), .inl (.iconst (-1)), .inr (.if_icmp .eq 37), .inl (.aload 0), .inl (.getfield 296), .inl (.iload 1), .inr (.invokeinterface 111 2), .inr (.ifCond .eq 41), xto 37]
def k152_37 : List xI := [.inl (.iconst 1), .inr (.goto 42)]
def k152_41 : List xI := [.inl (.iconst 0), xto 42]
def k152_42 : List xI := [.inr .ireturn]
def xm152 : List (Nat × List xI) := [(0, k152_0), (12, k152_12), (37, k152_37), (41, k152_41), (42, k152_42)]
/-- 153: DrawnFieldsModel.about(II)I -/
def k153_0 : List xI := [.inl (.aload 0), .inl (.iload 1), .inr (.invokeinterface 119 2), .inr (.ifCond .eq 26), .inl (.iload 2), .inl (.iconst 0), .inl (.iconst 5), .inr (.invokeinterface 110 3), .inr (.ifCond .eq 26), .inl (.aload 0), .inl (.iload 1), .inl (.iload 2), .inr (.invokeinterface 152 3), .inr (.goto 32)]
def k153_26 : List xI := [.inl (.aload 0), .inl (.iconst (-2)), .inr (.invokeinterface 112 2), xto 32]
def k153_32 : List xI := [.inr .ireturn]
def xm153 : List (Nat × List xI) := [(0, k153_0), (26, k153_26), (32, k153_32)]
/-- 154: DrawnFieldsModel.rows()I -/
def k154_0 : List xI := [.inl (.aload 0), .inr (.invokeinterface 147 1), .inl (.aload 0), .inl (.getfield 295), .inr .ireturn]
def xm154 : List (Nat × List xI) := [(0, k154_0)]
/-- 155: DrawnFieldsModel.row(II)I -/
def k155_0 : List xI := [.inl (.iload 1), .inr (.ifCond .lt 12), .inl (.aload 0), .inl (.iload 2), .inr (.invokeinterface 118 2), .inr (.ifCond .ne 19), xto 12]
def k155_12 : List xI := [.inl (.aload 0), .inl (.iconst (-2)), .inr (.invokeinterface 112 2), .inr .ireturn]
def k155_19 : List xI := [.inl (.aload 0), .inr (.invokeinterface 147 1), .inl (.iload 1), .inl (.aload 0), .inl (.getfield 295), .inr (.if_icmp .ge 45), .inl (.aload 0), .inl (.aload 0), .inl (.getfield 294), .inl (.iload 1), .inl .iaload, .inl (.iload 2), .inr (.invokeinterface 139 3), .inr (.goto 47)]
def k155_45 : List xI := [.inl (.iconst (-5)), xto 47]
def k155_47 : List xI := [.inr .ireturn]
def xm155 : List (Nat × List xI) := [(0, k155_0), (12, k155_12), (19, k155_19), (45, k155_45), (47, k155_47)]
/-- 156: DrawnFieldsModel.heavyOf(II)I -/
def k156_0 : List xI := [.inl (.aload 0), .inr (.invokeinterface 147 1), .inl (.iconst 0), .inl (.istore 3), .inl (.iconst 0), .inl (.istore 4), xto 9]
def k156_9 : List xI := [.inl (.iload 4), .inl (.aload 0), .inl (.getfield 295), .inr (.if_icmp .ge 63), .inl (.iload 3), .inl (.iload 1), .inl (.iconst (-1)), .inr (.if_icmp .eq 40), .inl (.aload 0), .inl (.aload 0), .inl (.getfield 294), .inl (.iload 4), .inl .iaload, .inl (.iload 1), .inr (.invokeinterface 139 3), .inl (.iload 2), .inr (.if_icmp .ne 54), xto 40]
def k156_40 : List xI := [.inl (.aload 0), .inl (.aload 0), .inl (.getfield 294), .inl (.iload 4), .inl .iaload, .inr (.invokeinterface 148 2), .inr (.goto 55)]
def k156_54 : List xI := [.inl (.iconst 0), xto 55]
def k156_55 : List xI := [.inl .iadd, .inl (.istore 3), .inl (.iinc 4 1), .inr (.goto 9)]
def k156_63 : List xI := [.inl (.iload 3), .inr .ireturn]
def xm156 : List (Nat × List xI) := [(0, k156_0), (9, k156_9), (40, k156_40), (54, k156_54), (55, k156_55), (63, k156_63)]
/-- 157: DrawnFieldsModel.heavy(II)I -/
def k157_0 : List xI := [.inl (.iload 1), .inl (.iconst (-1)), .inr (.if_icmp .ne 17), .inl (.iload 2), .inr (.ifCond .ne 13), .inl (.iconst 1), .inr (.goto 40)]
def k157_13 : List xI := [.inl (.iconst 0), .inr (.goto 40)]
def k157_17 : List xI := [.inl (.aload 0), .inl (.iload 1), .inr (.invokeinterface 118 2), .inr (.ifCond .eq 39), .inl (.iload 2), .inl (.iconst 0), .inl (.iconst 7), .inr (.invokeinterface 110 3), .inr (.ifCond .eq 39), .inl (.iconst 1), .inr (.goto 40)]
def k157_39 : List xI := [.inl (.iconst 0), xto 40]
def k157_40 : List xI := [.inl (.istore 3), .inl (.iload 3), .inr (.ifCond .eq 54), .inl (.aload 0), .inl (.iload 1), .inl (.iload 2), .inr (.invokeinterface 156 3), .inr (.goto 60)]
def k157_54 : List xI := [.inl (.aload 0), .inl (.iconst (-2)), .inr (.invokeinterface 112 2), xto 60]
def k157_60 : List xI := [.inr .ireturn]
def xm157 : List (Nat × List xI) := [(0, k157_0), (13, k157_13), (17, k157_17), (39, k157_39), (40, k157_40), (54, k157_54), (60, k157_60)]
/-- 158: DrawnFieldsModel.sumsOf(I)I -/
def k158_0 : List xI := [.inl (.aload 0), .inr (.invokeinterface 147 1), .inl (.iconst 0), .inl (.istore 2), .inl (.iconst 0), .inl (.istore 3), xto 8]
def k158_8 : List xI := [.inl (.iload 3), .inl (.aload 0), .inl (.getfield 295), .inr (.if_icmp .ge 44), .inl (.iload 2), .inl (.aload 0), .inl (.aload 0), .inl (.getfield 294), .inl (.iload 3), .inl .iaload, .inr (.invokeinterface 149 2), .inl (.iload 1), .inr (.if_icmp .ne 35), .inl (.iconst 1), .inr (.goto 36)]
def k158_35 : List xI := [.inl (.iconst 0), xto 36]
def k158_36 : List xI := [.inl .iadd, .inl (.istore 2), .inl (.iinc 3 1), .inr (.goto 8)]
def k158_44 : List xI := [.inl (.iload 2), .inr .ireturn]
def xm158 : List (Nat × List xI) := [(0, k158_0), (8, k158_8), (35, k158_35), (36, k158_36), (44, k158_44)]
/-- 159: DrawnFieldsModel.sums(I)I -/
def k159_0 : List xI := [.inl (.iload 1), .inr (.ifCond .ge 13), .inl (.aload 0), .inl (.iconst (-2)), .inr (.invokeinterface 112 2), .inr (.goto 18)]
def k159_13 : List xI := [.inl (.aload 0), .inl (.iload 1), .inr (.invokeinterface 158 2), xto 18]
def k159_18 : List xI := [.inr .ireturn]
def xm159 : List (Nat × List xI) := [(0, k159_0), (13, k159_13), (18, k159_18)]
/-- 160: DrawnFieldsModel.sum(I)I -/
def k160_0 : List xI := [.inl (.iload 1), .inr (.ifCond .ge 11), .inl (.aload 0), .inl (.iconst (-2)), .inr (.invokeinterface 112 2), .inr .ireturn]
def k160_11 : List xI := [.inl (.iload 1), .inl (.istore 2), .inl (.iconst 0), .inl (.istore 3), xto 15]
def k160_15 : List xI := [.inl (.iload 3), .inl (.iconst 29), .inr (.if_icmp .ge 44), .inl (.aload 0), .inl (.iload 3), .inr (.invokeinterface 158 2), .inr (.ifCond .le 38), .inl (.iload 2), .inr (.ifCond .ne 35), .inl (.iload 3), .inr .ireturn]
def k160_35 : List xI := [.inl (.iinc 2 (-1)), xto 38]
def k160_38 : List xI := [.inl (.iinc 3 1), .inr (.goto 15)]
def k160_44 : List xI := [.inl (.iconst (-5)), .inr .ireturn]
def xm160 : List (Nat × List xI) := [(0, k160_0), (11, k160_11), (15, k160_15), (35, k160_35), (38, k160_38), (44, k160_44)]
/-- 161: DrawnFieldsModel.soft(I)I -/
def k161_0 : List xI := [.inl (.iload 1), .inr (.ifCond .ge 11), .inl (.aload 0), .inl (.iconst (-2)), .inr (.invokeinterface 112 2), .inr .ireturn]
def k161_11 : List xI := [.inl (.aload 0), .inr (.invokeinterface 147 1), .inl (.iload 1), .inl (.aload 0), .inl (.getfield 299), .inr (.if_icmp .ge 32), .inl (.aload 0), .inl (.getfield 298), .inl (.iload 1), .inl .iaload, .inr (.goto 34)]
def k161_32 : List xI := [.inl (.iconst (-5)), xto 34]
def k161_34 : List xI := [.inr .ireturn]
def xm161 : List (Nat × List xI) := [(0, k161_0), (11, k161_11), (32, k161_32), (34, k161_34)]
/-- 162: DrawnFieldsModel.core()I -/
def k162_0 : List xI := [.inl (.aload 0), .inr (.invokeinterface 147 1), .inl (.aload 0), .inr (.invokeinterface 145 1), .inl (.istore 1), .inl (.aload 0), .inl (.iload 1), .inr (.invokeinterface 142 2), .inr (.ifCond .eq 19), .inl (.iconst 0), .inr .ireturn]
def k162_19 : List xI := [.inl (.iconst 0), .inl (.istore 2), xto 21]
def k162_21 : List xI := [.inl (.iload 2), .inl (.iconst 8), .inr (.if_icmp .ge 63), .inl (.iload 1), .inl (.iload 2), .inr (.invokeinterface 111 2), .inr (.ifCond .eq 57), .inl (.aload 0), .inl (.iload 1), .inl (.iconst 1), .inl (.iload 2), .inl .ishl, .inl (.iconst (-1)), .inl .ixor, .inl .iand, .inr (.invokeinterface 142 2), .inr (.ifCond .ne 57), .inl (.iload 1), .inl (.iconst 1), .inl (.iload 2), .inl .ishl, .inl (.iconst (-1)), .inl .ixor, .inl .iand, .inl (.istore 1), xto 57]
def k162_57 : List xI := [.inl (.iinc 2 1), .inr (.goto 21)]
def k162_63 : List xI := [.inl (.iload 1), .inr .ireturn]
def xm162 : List (Nat × List xI) := [(0, k162_0), (19, k162_19), (21, k162_21), (57, k162_57), (63, k162_63)]
/-- 163: DrawnFieldsModel.drawBy(I)I -/
def k163_0 : List xI := [.inl (.aload 0), .inl (.aload 0), .inl (.getfield 301), .inl (.sipush 1103515245), .inl .lmul, .inl (.sipush 12345), .inl .ladd, .inl (.sipush 2147483648), .inl .lrem, .inl (.putfield 301), .inl (.aload 0), .inl (.getfield 301), .inl (.sipush 65536), .inl .ldiv, .inl (.iload 1), .inl .i2l, .inl .lrem, .inl .l2i, .inr .ireturn]
def xm163 : List (Nat × List xI) := [(0, k163_0)]
/-- 164: DrawnFieldsModel.valuesOf(I)I -/
def k164_0 : List xI := [.inl (.iconst 0), .inl (.istore 2), .inl (.iconst 0), .inl (.istore 3), xto 4]
def k164_4 : List xI := [.inl (.iload 3), .inl (.aload 0), .inl (.getfield 295), .inr (.if_icmp .ge 47), .inl (.iload 2), .inl (.aload 0), .inl (.getfield 300), .inl (.iload 3), .inl .baload, .inr (.ifCond .eq 38), .inl (.iconst 1), .inl (.aload 0), .inl (.aload 0), .inl (.getfield 294), .inl (.iload 3), .inl .iaload, .inl (.iload 1), .inr (.invokeinterface 139 3), .inl .ishl, .inr (.goto 39)]
def k164_38 : List xI := [.inl (.iconst 0), xto 39]
def k164_39 : List xI := [.inl .ior, .inl (.istore 2), .inl (.iinc 3 1), .inr (.goto 4)]
def k164_47 : List xI := [.inl (.iload 2), .inr .ireturn]
def xm164 : List (Nat × List xI) := [(0, k164_0), (4, k164_4), (38, k164_38), (39, k164_39), (47, k164_47)]
/-- 165: DrawnFieldsModel.limit(II)V -/
def k165_0 : List xI := [.inl (.iconst 0), .inl (.istore 3), xto 2]
def k165_2 : List xI := [.inl (.iload 3), .inl (.aload 0), .inl (.getfield 295), .inr (.if_icmp .ge 54), .inl (.aload 0), .inl (.getfield 300), .inl (.iload 3), .inl (.aload 0), .inl (.getfield 300), .inl (.iload 3), .inl .baload, .inr (.ifCond .eq 46), .inl (.iload 2), .inl (.aload 0), .inl (.aload 0), .inl (.getfield 294), .inl (.iload 3), .inl .iaload, .inl (.iload 1), .inr (.invokeinterface 139 3), .inr (.invokeinterface 111 2), .inr (.ifCond .eq 46), .inl (.iconst 1), .inr (.goto 47)]
def k165_46 : List xI := [.inl (.iconst 0), xto 47]
def k165_47 : List xI := [.inl .bastore, .inl (.iinc 3 1), .inr (.goto 2)]
def k165_54 : List xI := [.inr .return_]
def xm165 : List (Nat × List xI) := [(0, k165_0), (2, k165_2), (46, k165_46), (47, k165_47), (54, k165_54)]
/-- 166: DrawnFieldsModel.takeTogether()I -/
def k166_0 : List xI := [.inl (.iconst 0), .inl (.istore 1), xto 2]
def k166_2 : List xI := [.inl (.iload 1), .inl (.aload 0), .inr (.invokeinterface 117 1), .inr (.if_icmp .ge 61), .inl (.aload 0), .inl (.iload 1), .inl (.iconst 2), .inr (.invokeinterface 120 3), .inl (.iconst 1), .inr (.if_icmp .ne 55), .inl (.aload 0), .inl (.iload 1), .inr (.invokeinterface 164 2), .inl (.aload 0), .inl (.iload 1), .inl (.iconst 3), .inr (.invokeinterface 120 3), .inl (.iconst (-1)), .inl .ixor, .inl .iand, .inl (.istore 2), .inl (.iload 2), .inr (.ifCond .ne 49), .inl (.aload 0), .inl (.iload 1), .inl (.iconst 3), .inl (.iconst 0), .inr (.invokeinterface 121 4), .inr (.goto 55)]
def k166_49 : List xI := [.inl (.aload 0), .inl (.iload 1), .inl (.iload 2), .inr (.invokeinterface 165 3), xto 55]
def k166_55 : List xI := [.inl (.iinc 1 1), .inr (.goto 2)]
def k166_61 : List xI := [.inl (.iconst 0), .inl (.istore 1), .inl (.iconst 0), .inl (.istore 2), .inl (.iconst 0), .inl (.istore 3), xto 67]
def k166_67 : List xI := [.inl (.iload 3), .inl (.aload 0), .inl (.getfield 295), .inr (.if_icmp .ge 124), .inl (.iload 1), .inl (.aload 0), .inl (.getfield 300), .inl (.iload 3), .inl .baload, .inr (.ifCond .eq 98), .inl (.aload 0), .inl (.aload 0), .inl (.getfield 294), .inl (.iload 3), .inl .iaload, .inr (.invokeinterface 148 2), .inr (.goto 99)]
def k166_98 : List xI := [.inl (.iconst 0), xto 99]
def k166_99 : List xI := [.inl .iadd, .inl (.istore 1), .inl (.iload 2), .inl (.aload 0), .inl (.getfield 300), .inl (.iload 3), .inl .baload, .inr (.ifCond .eq 115), .inl (.iconst 1), .inr (.goto 116)]
def k166_115 : List xI := [.inl (.iconst 0), xto 116]
def k166_116 : List xI := [.inl .iadd, .inl (.istore 2), .inl (.iinc 3 1), .inr (.goto 67)]
def k166_124 : List xI := [.inl (.aload 0), .inl (.iload 1), .inr (.ifCond .le 133), .inl (.iload 1), .inr (.goto 134)]
def k166_133 : List xI := [.inl (.iload 2), xto 134]
def k166_134 : List xI := [.inr (.invokeinterface 163 2), .inl (.istore 3), .inl (.iconst (-1)), .inl (.istore 4), .inl (.iconst 0), .inl (.istore 5), xto 144]
def k166_144 : List xI := [.inl (.iload 5), .inl (.iload 3), .inr (.if_icmp .gt 194), .inl (.iinc 4 1), .inl (.iload 5), .inl (.aload 0), .inl (.getfield 300), .inl (.iload 4), .inl .baload, .inr (.ifCond .ne 169), .inl (.iconst 0), .inr (.goto 188)]
def k166_169 : List xI := [.inl (.iload 1), .inr (.ifCond .le 187), .inl (.aload 0), .inl (.aload 0), .inl (.getfield 294), .inl (.iload 4), .inl .iaload, .inr (.invokeinterface 148 2), .inr (.goto 188)]
def k166_187 : List xI := [.inl (.iconst 1), xto 188]
def k166_188 : List xI := [.inl .iadd, .inl (.istore 5), .inr (.goto 144)]
def k166_194 : List xI := [.inl (.iload 4), .inr .ireturn]
def xm166 : List (Nat × List xI) := [(0, k166_0), (2, k166_2), (49, k166_49), (55, k166_55), (61, k166_61), (67, k166_67), (98, k166_98), (99, k166_99), (115, k166_115), (116, k166_116), (124, k166_124), (133, k166_133), (134, k166_134), (144, k166_144), (169, k166_169), (187, k166_187), (188, k166_188), (194, k166_194)]
/-- 167: DrawnFieldsModel.valueDrawn(II)I -/
def k167_0 : List xI := [.inl (.iconst 0), .inl (.istore 3), .inl (.iconst 0), .inl (.istore 4), .inl (.iconst 0), .inl (.istore 5), xto 8]
def k167_8 : List xI := [.inl (.iload 5), .inl (.iconst 8), .inr (.if_icmp .ge 65), .inl (.iload 3), .inl (.iload 2), .inl (.iload 5), .inr (.invokeinterface 111 2), .inr (.ifCond .eq 37), .inl (.aload 0), .inl (.iload 1), .inl (.iconst 5), .inl (.iload 5), .inl .iadd, .inr (.invokeinterface 120 3), .inr (.goto 38)]
def k167_37 : List xI := [.inl (.iconst 0), xto 38]
def k167_38 : List xI := [.inl .iadd, .inl (.istore 3), .inl (.iload 4), .inl (.iload 2), .inl (.iload 5), .inr (.invokeinterface 111 2), .inr (.ifCond .eq 55), .inl (.iconst 1), .inr (.goto 56)]
def k167_55 : List xI := [.inl (.iconst 0), xto 56]
def k167_56 : List xI := [.inl .iadd, .inl (.istore 4), .inl (.iinc 5 1), .inr (.goto 8)]
def k167_65 : List xI := [.inl (.aload 0), .inl (.iload 3), .inr (.ifCond .le 74), .inl (.iload 3), .inr (.goto 76)]
def k167_74 : List xI := [.inl (.iload 4), xto 76]
def k167_76 : List xI := [.inr (.invokeinterface 163 2), .inl (.istore 5), .inl (.iconst (-1)), .inl (.istore 6), .inl (.iconst 0), .inl (.istore 7), xto 87]
def k167_87 : List xI := [.inl (.iload 7), .inl (.iload 5), .inr (.if_icmp .gt 135), .inl (.iinc 6 1), .inl (.iload 7), .inl (.iload 2), .inl (.iload 6), .inr (.invokeinterface 111 2), .inr (.ifCond .ne 112), .inl (.iconst 0), .inr (.goto 129)]
def k167_112 : List xI := [.inl (.iload 3), .inr (.ifCond .le 128), .inl (.aload 0), .inl (.iload 1), .inl (.iconst 5), .inl (.iload 6), .inl .iadd, .inr (.invokeinterface 120 3), .inr (.goto 129)]
def k167_128 : List xI := [.inl (.iconst 1), xto 129]
def k167_129 : List xI := [.inl .iadd, .inl (.istore 7), .inr (.goto 87)]
def k167_135 : List xI := [.inl (.iload 6), .inr .ireturn]
def xm167 : List (Nat × List xI) := [(0, k167_0), (8, k167_8), (37, k167_37), (38, k167_38), (55, k167_55), (56, k167_56), (65, k167_65), (74, k167_74), (76, k167_76), (87, k167_87), (112, k167_112), (128, k167_128), (129, k167_129), (135, k167_135)]
/-- 168: DrawnFieldsModel.takeInOrder()I -/
def k168_0 : List xI := [.inl (.iconst 0), .inl (.istore 1), xto 2]
def k168_2 : List xI := [.inl (.iload 1), .inl (.aload 0), .inr (.invokeinterface 117 1), .inr (.if_icmp .ge 86), .inl (.aload 0), .inl (.getfield 288), .inl (.iconst 53), .inl (.iload 1), .inl .iadd, .inl .iaload, .inl (.istore 2), .inl (.aload 0), .inl (.iload 2), .inr (.invokeinterface 164 2), .inl (.istore 3), .inl (.aload 0), .inl (.iload 2), .inl (.iconst 2), .inr (.invokeinterface 120 3), .inl (.iconst 1), .inr (.if_icmp .ne 67), .inl (.iload 3), .inl (.aload 0), .inl (.iload 2), .inl (.iconst 3), .inr (.invokeinterface 120 3), .inl (.iconst (-1)), .inl .ixor, .inl .iand, .inr (.ifCond .ne 56), .inl (.aload 0), .inl (.iload 2), .inl (.iconst 3), .inl (.iconst 0), .inr (.invokeinterface 121 4), xto 56]
def k168_56 : List xI := [.inl (.iload 3), .inl (.aload 0), .inl (.iload 2), .inl (.iconst 3), .inr (.invokeinterface 120 3), .inl (.iconst (-1)), .inl .ixor, .inl .iand, .inl (.istore 3), xto 67]
def k168_67 : List xI := [.inl (.aload 0), .inl (.iload 2), .inl (.iconst 1), .inl (.aload 0), .inl (.iload 2), .inl (.iload 3), .inr (.invokeinterface 167 3), .inl .ishl, .inr (.invokeinterface 165 3), .inl (.iinc 1 1), .inr (.goto 2)]
def k168_86 : List xI := [.inl (.iconst 0), .inl (.istore 1), xto 88]
def k168_88 : List xI := [.inl (.aload 0), .inl (.getfield 300), .inl (.iload 1), .inl .baload, .inr (.ifCond .ne 103), .inl (.iinc 1 1), .inr (.goto 88)]
def k168_103 : List xI := [.inl (.iload 1), .inr .ireturn]
def xm168 : List (Nat × List xI) := [(0, k168_0), (2, k168_2), (56, k168_56), (67, k168_67), (86, k168_86), (88, k168_88), (103, k168_103)]
/-- 169: DrawnFieldsModel.doDraws(II)I -/
def k169_0 : List xI := [.inl (.iload 1), .inl (.iconst 0), .inl (.iconst 1), .inr (.invokeinterface 110 3), .inr (.ifCond .eq 19), .inl (.iload 2), .inl (.iconst 0), .inl (.iconst 999999), .inr (.invokeinterface 110 3), .inr (.ifCond .ne 22), xto 19]
def k169_19 : List xI := [.inl (.iconst (-2)), .inr .ireturn]
def k169_22 : List xI := [.inl (.aload 0), .inr (.invokeinterface 147 1), .inl (.aload 0), .inl (.getfield 295), .inr (.ifCond .ne 36), .inl (.iconst (-3)), .inr .ireturn]
def k169_36 : List xI := [.inl (.iconst 0), .inl (.istore 3), xto 38]
def k169_38 : List xI := [.inl (.iload 3), .inl (.aload 0), .inl (.getfield 295), .inr (.if_icmp .ge 59), .inl (.aload 0), .inl (.getfield 300), .inl (.iload 3), .inl (.iconst 1), .inl .bastore, .inl (.iinc 3 1), .inr (.goto 38)]
def k169_59 : List xI := [.inl (.aload 0), .inl (.iload 2), .inl .i2l, .inl (.putfield 301), .inl (.iload 1), .inr (.ifCond .ne 76), .inl (.aload 0), .inr (.invokeinterface 166 1), .inr (.goto 80)]
def k169_76 : List xI := [.inl (.aload 0), .inr (.invokeinterface 168 1), xto 80]
def k169_80 : List xI := [.inl (.istore 3), .inl (.iconst 0), .inl (.istore 4), xto 84]
def k169_84 : List xI := [.inl (.iload 4), .inl (.aload 0), .inr (.invokeinterface 117 1), .inr (.if_icmp .ge 156), .inl (.aload 0), .inl (.aload 0), .inl (.getfield 294), .inl (.iload 3), .inl .iaload, .inl (.iload 4), .inr (.invokeinterface 139 3), .inl (.istore 5), .inl (.aload 0), .inl (.iload 4), .inl (.iconst 4), .inl (.iload 5), .inr (.invokeinterface 121 4), .inl (.aload 0), .inl (.iload 4), .inl (.iconst 3), .inl (.aload 0), .inl (.iload 4), .inl (.iconst 2), .inr (.invokeinterface 120 3), .inl (.iconst 1), .inr (.if_icmp .ne 146), .inl (.aload 0), .inl (.iload 4), .inl (.iconst 3), .inr (.invokeinterface 120 3), .inl (.iconst 1), .inl (.iload 5), .inl .ishl, .inl .ior, .inr (.goto 147)]
def k169_146 : List xI := [.inl (.iconst 0), xto 147]
def k169_147 : List xI := [.inr (.invokeinterface 121 4), .inl (.iinc 4 1), .inr (.goto 84)]
def k169_156 : List xI := [.inl (.aload 0), .inl (.getfield 288), .inl (.iconst 98), .inl .iaload, .inl (.iconst 16), .inr (.if_icmp .ge 172), .inl (.iconst 1), .inr (.goto 173)]
def k169_172 : List xI := [.inl (.iconst 0), xto 173]
def k169_173 : List xI := [.inl (.istore 4), .inl (.iconst 0), .inl (.istore 5), xto 178]
def k169_178 : List xI := [.inl (.iload 5), .inl (.aload 0), .inl (.getfield 288), .inl (.iconst 98), .inl .iaload, .inr (.if_icmp .ge 227), .inl (.iload 4), .inr (.ifCond .eq 218), .inl (.aload 0), .inl (.getfield 288), .inl (.iconst 99), .inl (.iload 5), .inl .iadd, .inl .iaload, .inl (.aload 0), .inl (.getfield 294), .inl (.iload 3), .inl .iaload, .inr (.if_icmp .eq 218), .inl (.iconst 1), .inr (.goto 219)]
def k169_218 : List xI := [.inl (.iconst 0), xto 219]
def k169_219 : List xI := [.inl (.istore 4), .inl (.iinc 5 1), .inr (.goto 178)]
def k169_227 : List xI := [.inl (.iload 4), .inr (.ifCond .eq 264), .inl (.aload 0), .inl (.getfield 288), .inl (.iconst 99), .inl (.aload 0), .inl (.getfield 288), .inl (.iconst 98), .inl .iaload, .inl .iadd, .inl (.aload 0), .inl (.getfield 294), .inl (.iload 3), .inl .iaload, .inl .iastore, .inl (.aload 0), .inl (.getfield 288), .inl (.iconst 98), .inl .dup2, .inl .iaload, .inl (.iconst 1), .inl .iadd, .inl .iastore, xto 264]
def k169_264 : List xI := [.inl (.iload 3), .inr .ireturn]
def xm169 : List (Nat × List xI) := [(0, k169_0), (19, k169_19), (22, k169_22), (36, k169_36), (38, k169_38), (59, k169_59), (76, k169_76), (80, k169_80), (84, k169_84), (146, k169_146), (147, k169_147), (156, k169_156), (172, k169_172), (173, k169_173), (178, k169_178), (218, k169_218), (219, k169_219), (227, k169_227), (264, k169_264)]
/-- 170: DrawnFieldsModel.draws(II)I -/
def k170_0 : List xI := [.inl (.aload 0), .inr (.invokeinterface 113 1), .inl (.aload 0), .inl (.aload 0), .inl (.iload 1), .inl (.iload 2), .inr (.invokeinterface 169 3), .inr (.invokeinterface 115 2), .inr .ireturn]
def xm170 : List (Nat × List xI) := [(0, k170_0)]
/-- 171: DrawnFieldsModel.drawn(II)I -/
def k171_0 : List xI := [.inl (.iload 1), .inl (.iconst (-1)), .inr (.if_icmp .lt 25), .inl (.iload 1), .inl (.iconst (-1)), .inr (.if_icmp .ne 17), .inl (.iload 2), .inr (.ifCond .eq 32), .inr (.goto 25)]
def k171_17 : List xI := [.inl (.aload 0), .inl (.iload 2), .inr (.invokeinterface 118 2), .inr (.ifCond .ne 32), xto 25]
def k171_25 : List xI := [.inl (.aload 0), .inl (.iconst (-2)), .inr (.invokeinterface 112 2), .inr .ireturn]
def k171_32 : List xI := [.inl (.iload 1), .inl (.iconst (-1)), .inr (.if_icmp .ne 47), .inl (.aload 0), .inl (.getfield 288), .inl (.iconst 98), .inl .iaload, .inr (.goto 77)]
def k171_47 : List xI := [.inl (.iload 1), .inl (.aload 0), .inl (.getfield 288), .inl (.iconst 98), .inl .iaload, .inr (.if_icmp .ge 75), .inl (.aload 0), .inl (.aload 0), .inl (.getfield 288), .inl (.iconst 99), .inl (.iload 1), .inl .iadd, .inl .iaload, .inl (.iload 2), .inr (.invokeinterface 139 3), .inr (.goto 77)]
def k171_75 : List xI := [.inl (.iconst (-5)), xto 77]
def k171_77 : List xI := [.inr .ireturn]
def xm171 : List (Nat × List xI) := [(0, k171_0), (17, k171_17), (25, k171_25), (32, k171_32), (47, k171_47), (75, k171_75), (77, k171_77)]
/-- 172: DrawnFieldsModel.type(I)I -/
def k172_0 : List xI := [.inl (.iload 1), .inl (.iconst 0), .inl (.iconst 127), .inr (.invokeinterface 110 3), .inr (.ifCond .ne 17), .inl (.aload 0), .inl (.iconst (-2)), .inr (.invokeinterface 112 2), .inr .ireturn]
def k172_17 : List xI := [.inl (.aload 0), .inl (.getfield 303), .inl (.iconst 150), .inr (.if_icmp .ne 34), .inl (.aload 0), .inl (.iconst (-4)), .inr (.invokeinterface 112 2), .inr .ireturn]
def k172_34 : List xI := [.inl (.aload 0), .inl (.getfield 302), .inl (.aload 0), .inl (.getfield 303), .inl (.iload 1), .inl .iastore, .inl (.aload 0), .inl .dup, .inl (.getfield 303), .inl (.iconst 1), .inl .iadd, .inl (.putfield 303), .inl (.aload 0), .inl (.getfield 303), .inr .ireturn]
def xm172 : List (Nat × List xI) := [(0, k172_0), (17, k172_17), (34, k172_34)]
/-- 173: DrawnFieldsModel.clear()I -/
def k173_0 : List xI := [.inl (.aload 0), .inl (.getfield 303), .inl (.istore 1), .inl (.aload 0), .inl (.iconst 0), .inl (.putfield 303), .inl (.iload 1), .inr .ireturn]
def xm173 : List (Nat × List xI) := [(0, k173_0)]
/-- 174: DrawnFieldsModel.here()I -/
def k174_0 : List xI := [.inl (.aload 0), .inl (.getfield 304), .inl (.aload 0), .inl (.getfield 303), .inr (.if_icmp .ge 38), .inl (.aload 0), .inl (.getfield 302), .inl (.aload 0), .inl (.getfield 304), .inl .iaload, .inl (.iconst 32), .inr (.if_icmp .ne 38), .inl (.aload 0), .inl .dup, .inl (.getfield 304), .inl (.iconst 1), .inl .iadd, .inl (.putfield 304), .inr (.goto 0)]
def k174_38 : List xI := [.inl (.aload 0), .inl (.getfield 304), .inl (.aload 0), .inl (.getfield 303), .inr (.if_icmp .ge 61), .inl (.aload 0), .inl (.getfield 302), .inl (.aload 0), .inl (.getfield 304), .inl .iaload, .inr (.goto 62)]
def k174_61 : List xI := [.inl (.iconst (-1)), xto 62]
def k174_62 : List xI := [.inr .ireturn]
def xm174 : List (Nat × List xI) := [(0, k174_0), (38, k174_38), (61, k174_61), (62, k174_62)]
/-- 175: DrawnFieldsModel.must(Z)V -/
def k175_0 : List xI := [.inl (.aload 0), .inl (.getfield 305), .inl (.iconst (-1)), .inr (.if_icmp .ne 20), .inl (.iload 1), .inr (.ifCond .ne 20), .inl (.aload 0), .inl (.aload 0), .inl (.getfield 304), .inl (.putfield 305), xto 20]
def k175_20 : List xI := [.inr .return_]
def xm175 : List (Nat × List xI) := [(0, k175_0), (20, k175_20)]
/-- 176: DrawnFieldsModel.isFigure()Z -/
def k176_0 : List xI := [.inl (.aload 0), .inl (.getfield 304), .inl (.aload 0), .inl (.getfield 303), .inr (.if_icmp .ge 34), .inl (.aload 0), .inl (.getfield 302), .inl (.aload 0), .inl (.getfield 304), .inl .iaload, .inl (.iconst 48), .inl (.iconst 57), .inr (.invokeinterface 110 3), .inr (.ifCond .eq 34), .inl (.iconst 1), .inr (.goto 35)]
def k176_34 : List xI := [.inl (.iconst 0), xto 35]
def k176_35 : List xI := [.inr .areturn]
def xm176 : List (Nat × List xI) := [(0, k176_0), (34, k176_34), (35, k176_35)]
/-- 177: DrawnFieldsModel.number()I -/
def k177_0 : List xI := [.inl (.aload 0), .inl (.aload 0), .inr (.invokeinterface 174 1), .inl (.iconst 48), .inl (.iconst 57), .inr (.invokeinterface 110 3), .inr (.invokeinterface 175 2), .inl (.iconst 0), .inl (.istore 1), .inl (.iconst 0), .inl (.istore 2), xto 19]
def k177_19 : List xI := [.inl (.iload 2), .inl (.iconst 6), .inr (.if_icmp .ge 66), .inl (.aload 0), .inr (.invokeinterface 176 1), .inr (.ifCond .eq 66), .inl (.iconst 10), .inl (.iload 1), .inl .imul, .inl (.aload 0), .inl (.getfield 302), .inl (.aload 0), .inl (.getfield 304), .inl .iaload, .inl .iadd, .inl (.iconst 48), .inl .isub, .inl (.istore 1), .inl (.aload 0), .inl .dup, .inl (.getfield 304), .inl (.iconst 1), .inl .iadd, .inl (.putfield 304), .inl (.iinc 2 1), .inr (.goto 19)]
def k177_66 : List xI := [.inl (.aload 0), .inl (.aload 0), .inr (.invokeinterface 176 1), .inr (.ifCond .ne 78), .inl (.iconst 1), .inr (.goto 79)]
def k177_78 : List xI := [.inl (.iconst 0), xto 79]
def k177_79 : List xI := [.inr (.invokeinterface 175 2), .inl (.iload 1), .inr .ireturn]
def xm177 : List (Nat × List xI) := [(0, k177_0), (19, k177_19), (66, k177_66), (78, k177_78), (79, k177_79)]
/-- 178: DrawnFieldsModel.numbersOf(I)I -/
def k178_0 : List xI := [.inl (.iload 0), .inr (.lookupswitch 110 #[(100, 108), (101, 110), (102, 100), (103, 110), (104, 102), (105, 110), (106, 110), (107, 110), (108, 110), (109, 110), (110, 110), (111, 108), (112, 110), (113, 110), (114, 108), (115, 104), (116, 110), (117, 110), (118, 110), (119, 106), (120, 108)])]
def k178_100 : List xI := [.inl (.iconst 2), .inr .ireturn]
def k178_102 : List xI := [.inl (.iconst 4), .inr .ireturn]
def k178_104 : List xI := [.inl (.iconst 5), .inr .ireturn]
def k178_106 : List xI := [.inl (.iconst 3), .inr .ireturn]
def k178_108 : List xI := [.inl (.iconst 1), .inr .ireturn]
def k178_110 : List xI := [.inl (.iconst (-1)), .inr .ireturn]
def xm178 : List (Nat × List xI) := [(0, k178_0), (100, k178_100), (102, k178_102), (104, k178_104), (106, k178_106), (108, k178_108), (110, k178_110)]
/-- 179: DrawnFieldsModel.readOrder()V -/
def k179_0 : List xI := [.inl (.aload 0), .inr (.invokeinterface 174 1), .inl (.istore 1), .inl (.iload 1), .inr (.invokeinterface 178 1), .inl (.istore 2), .inl (.aload 0), .inl (.iload 2), .inl (.iconst (-1)), .inr (.if_icmp .eq 20), .inl (.iconst 1), .inr (.goto 21)]
def k179_20 : List xI := [.inl (.iconst 0), xto 21]
def k179_21 : List xI := [.inr (.invokeinterface 175 2), .inl (.aload 0), .inl .dup, .inl (.getfield 304), .inl (.iconst 1), .inl .iadd, .inl (.putfield 304), .inl (.iconst 0), .inl (.istore 3), xto 36]
def k179_36 : List xI := [.inl (.iload 3), .inl (.iload 2), .inr (.if_icmp .ge 72), .inl (.aload 0), .inl (.getfield 305), .inl (.iconst (-1)), .inr (.if_icmp .ne 72), .inl (.aload 0), .inl (.getfield 308), .inl (.iconst 5), .inl (.aload 0), .inl (.getfield 306), .inl .imul, .inl (.iload 3), .inl .iadd, .inl (.aload 0), .inr (.invokeinterface 177 1), .inl .iastore, .inl (.iinc 3 1), .inr (.goto 36)]
def k179_72 : List xI := [.inl (.aload 0), .inl (.getfield 305), .inl (.iconst (-1)), .inr (.if_icmp .ne 87), .inl (.aload 0), .inr (.invokeinterface 174 1), .inr (.goto 89)]
def k179_87 : List xI := [.inl (.iconst 59), xto 89]
def k179_89 : List xI := [.inl (.istore 3), .inl (.aload 0), .inl (.iload 3), .inl (.iconst 59), .inr (.if_icmp .ne 101), .inl (.iconst 1), .inr (.goto 102)]
def k179_101 : List xI := [.inl (.iconst 0), xto 102]
def k179_102 : List xI := [.inr (.invokeinterface 175 2), .inl (.aload 0), .inl (.getfield 307), .inl (.aload 0), .inl (.getfield 306), .inl (.iload 1), .inl .iastore, .inl (.aload 0), .inl .dup, .inl (.getfield 304), .inl (.iconst 1), .inl .iadd, .inl (.putfield 304), .inl (.aload 0), .inl .dup, .inl (.getfield 306), .inl (.iconst 1), .inl .iadd, .inl (.putfield 306), .inr .return_]
def xm179 : List (Nat × List xI) := [(0, k179_0), (20, k179_20), (21, k179_21), (36, k179_36), (72, k179_72), (87, k179_87), (89, k179_89), (101, k179_101), (102, k179_102)]
/-- 180: DrawnFieldsModel.doOrder(I)I -/
def k180_0 : List xI := [.inl (.aload 0), .inl (.getfield 308), .inl (.iconst 5), .inl (.iload 1), .inl .imul, .inl .iaload, .inl (.istore 2), .inl (.aload 0), .inl (.getfield 308), .inl (.iconst 5), .inl (.iload 1), .inl .imul, .inl (.iconst 1), .inl .iadd, .inl .iaload, .inl (.istore 3), .inl (.aload 0), .inl (.getfield 308), .inl (.iconst 5), .inl (.iload 1), .inl .imul, .inl (.iconst 2), .inl .iadd, .inl .iaload, .inl (.istore 4), .inl (.aload 0), .inl (.getfield 308), .inl (.iconst 5), .inl (.iload 1), .inl .imul, .inl (.iconst 3), .inl .iadd, .inl .iaload, .inl (.istore 5), .inl (.aload 0), .inl (.getfield 307), .inl (.iload 1), .inl .iaload, .inr (.lookupswitch 217 #[(100, 210), (101, 217), (102, 148), (103, 217), (104, 155), (105, 217), (106, 217), (107, 217), (108, 217), (109, 217), (110, 217), (111, 217), (112, 217), (113, 217), (114, 197), (115, 167), (116, 217), (117, 217), (118, 217), (119, 188), (120, 204)])]
def k180_148 : List xI := [.inl (.aload 0), .inl (.iload 2), .inl (.iload 3), .inr (.invokeinterface 124 3), .inr .ireturn]
def k180_155 : List xI := [.inl (.aload 0), .inl (.iload 2), .inl (.iload 3), .inl (.iload 4), .inl (.iload 5), .inl (.iconst (-1)), .inr (.invokeinterface 129 6), .inr .ireturn]
def k180_167 : List xI := [.inl (.aload 0), .inl (.iload 3), .inl (.iload 4), .inl (.iload 5), .inl (.aload 0), .inl (.getfield 308), .inl (.iconst 5), .inl (.iload 1), .inl .imul, .inl (.iconst 4), .inl .iadd, .inl .iaload, .inl (.iload 2), .inr (.invokeinterface 129 6), .inr .ireturn]
def k180_188 : List xI := [.inl (.aload 0), .inl (.iload 2), .inl (.iload 3), .inl (.iload 4), .inr (.invokeinterface 126 4), .inr .ireturn]
def k180_197 : List xI := [.inl (.aload 0), .inl (.iload 2), .inl (.iconst 1), .inr (.invokeinterface 127 3), .inr .ireturn]
def k180_204 : List xI := [.inl (.aload 0), .inl (.iload 2), .inr (.invokeinterface 130 2), .inr .ireturn]
def k180_210 : List xI := [.inl (.aload 0), .inl (.iconst 0), .inl (.iload 2), .inr (.invokeinterface 169 3), .inr .ireturn]
def k180_217 : List xI := [.inl (.aload 0), .inl (.iconst 1), .inl (.iload 2), .inr (.invokeinterface 169 3), .inr .ireturn]
def xm180 : List (Nat × List xI) := [(0, k180_0), (148, k180_148), (155, k180_155), (167, k180_167), (188, k180_188), (197, k180_197), (204, k180_204), (210, k180_210), (217, k180_217)]
/-- 181: DrawnFieldsModel.reads()I -/
def k181_0 : List xI := [.inl (.aload 0), .inl (.iconst 0), .inl (.putfield 304), .inl (.aload 0), .inl (.iconst (-1)), .inl (.putfield 305), .inl (.aload 0), .inl (.iconst 0), .inl (.putfield 306), .inl (.aload 0), .inl (.aload 0), .inr (.invokeinterface 174 1), .inl (.iconst (-1)), .inr (.if_icmp .eq 28), .inl (.iconst 1), .inr (.goto 29)]
def k181_28 : List xI := [.inl (.iconst 0), xto 29]
def k181_29 : List xI := [.inr (.invokeinterface 175 2), xto 32]
def k181_32 : List xI := [.inl (.aload 0), .inl (.getfield 305), .inl (.iconst (-1)), .inr (.if_icmp .ne 55), .inl (.aload 0), .inr (.invokeinterface 174 1), .inl (.iconst (-1)), .inr (.if_icmp .eq 55), .inl (.aload 0), .inr (.invokeinterface 179 1), .inr (.goto 32)]
def k181_55 : List xI := [.inl (.aload 0), .inl (.getfield 305), .inl (.iconst (-1)), .inr (.if_icmp .eq 71), .inl (.iconst (-10)), .inl (.aload 0), .inl (.getfield 305), .inl .isub, .inr .ireturn]
def k181_71 : List xI := [.inl (.aload 0), .inr (.invokeinterface 113 1), .inl (.iconst 0), .inl (.istore 1), .inl (.iconst 0), .inl (.istore 2), xto 79]
def k181_79 : List xI := [.inl (.iload 2), .inl (.aload 0), .inl (.getfield 306), .inr (.if_icmp .ge 109), .inl (.iload 1), .inl (.aload 0), .inl (.iload 2), .inr (.invokeinterface 180 2), .inr (.ifCond .lt 100), .inl (.iconst 1), .inr (.goto 101)]
def k181_100 : List xI := [.inl (.iconst 0), xto 101]
def k181_101 : List xI := [.inl .iadd, .inl (.istore 1), .inl (.iinc 2 1), .inr (.goto 79)]
def k181_109 : List xI := [.inl (.aload 0), .inr (.invokeinterface 114 1), .inl (.iload 1), .inr .ireturn]
def xm181 : List (Nat × List xI) := [(0, k181_0), (28, k181_28), (29, k181_29), (32, k181_32), (55, k181_55), (71, k181_71), (79, k181_79), (100, k181_100), (101, k181_101), (109, k181_109)]
/-- 182: DrawnFieldsModel.toldOf(I)I -/
def k182_0 : List xI := [.inl (.iload 1), .inl (.iconst 3), .inr (.if_icmp .ge 14), .inl (.aload 0), .inl (.getfield 292), .inl (.iload 1), .inl .iaload, .inr (.goto 59)]
def k182_14 : List xI := [.inl (.iload 1), .inl (.iconst 3), .inr (.if_icmp .ne 26), .inl (.aload 0), .inl (.getfield 303), .inr (.goto 59)]
def k182_26 : List xI := [.inl (.iload 1), .inl (.iconst 4), .inr (.if_icmp .ne 40), .inl (.aload 0), .inl (.getfield 288), .inl (.iconst 0), .inl .iaload, .inr (.goto 59)]
def k182_40 : List xI := [.inl (.iload 1), .inl (.iconst 5), .inr (.if_icmp .ne 55), .inl (.aload 0), .inl (.getfield 288), .inl (.iconst 57), .inl .iaload, .inr (.goto 59)]
def k182_55 : List xI := [.inl (.aload 0), .inl (.getfield 291), xto 59]
def k182_59 : List xI := [.inr .ireturn]
def xm182 : List (Nat × List xI) := [(0, k182_0), (14, k182_14), (26, k182_26), (40, k182_40), (55, k182_55), (59, k182_59)]
/-- 183: DrawnFieldsModel.told(I)I -/
def k183_0 : List xI := [.inl (.iload 1), .inl (.iconst 0), .inl (.iconst 6), .inr (.invokeinterface 110 3), .inr (.ifCond .eq 18), .inl (.aload 0), .inl (.iload 1), .inr (.invokeinterface 182 2), .inr (.goto 24)]
def k183_18 : List xI := [.inl (.aload 0), .inl (.iconst (-2)), .inr (.invokeinterface 112 2), xto 24]
def k183_24 : List xI := [.inr .ireturn]
def xm183 : List (Nat × List xI) := [(0, k183_0), (18, k183_18), (24, k183_24)]
/-- 184: DrawnFieldsModel.mix(I)V -/
def k184_0 : List xI := [.inl (.aload 0), .inl (.sipush 31), .inl (.aload 0), .inl (.getfield 309), .inl .lmul, .inl (.iload 1), .inl .i2l, .inl .ladd, .inl (.putfield 309), .inr .return_]
def xm184 : List (Nat × List xI) := [(0, k184_0)]
/-- 185: DrawnFieldsModel.digest()J -/
def k185_0 : List xI := [.inl (.aload 0), .inl (.sipush 2423), .inl (.putfield 309), .inl (.iconst 0), .inl (.istore 1), xto 9]
def k185_9 : List xI := [.inl (.iload 1), .inl (.iconst 7), .inr (.if_icmp .ge 30), .inl (.aload 0), .inl (.aload 0), .inl (.iload 1), .inr (.invokeinterface 182 2), .inr (.invokeinterface 184 2), .inl (.iinc 1 1), .inr (.goto 9)]
def k185_30 : List xI := [.inl (.iconst 0), .inl (.istore 1), xto 32]
def k185_32 : List xI := [.inl (.iload 1), .inl (.aload 0), .inr (.invokeinterface 117 1), .inr (.if_icmp .ge 96), .inl (.iconst 0), .inl (.istore 2), xto 42]
def k185_42 : List xI := [.inl (.iload 2), .inl (.iconst 6), .inr (.if_icmp .ge 64), .inl (.aload 0), .inl (.aload 0), .inl (.iload 1), .inl (.iload 2), .inr (.invokeinterface 150 3), .inr (.invokeinterface 184 2), .inl (.iinc 2 1), .inr (.goto 42)]
def k185_64 : List xI := [.inl (.iconst 0), .inl (.istore 2), xto 66]
def k185_66 : List xI := [.inl (.iload 2), .inl (.iconst 8), .inr (.if_icmp .ge 90), .inl (.aload 0), .inl (.aload 0), .inl (.iload 1), .inl (.iconst 5), .inl (.iload 2), .inl .iadd, .inr (.invokeinterface 120 3), .inr (.invokeinterface 184 2), .inl (.iinc 2 1), .inr (.goto 66)]
def k185_90 : List xI := [.inl (.iinc 1 1), .inr (.goto 32)]
def k185_96 : List xI := [.inl (.iconst 0), .inl (.istore 1), xto 98]
def k185_98 : List xI := [.inl (.iload 1), .inl (.iconst 6), .inl (.aload 0), .inl (.getfield 288), .inl (.iconst 57), .inl .iaload, .inl .imul, .inr (.if_icmp .ge 134), .inl (.aload 0), .inl (.aload 0), .inl (.iload 1), .inl (.iconst 6), .inl .idiv, .inl (.iload 1), .inl (.iconst 6), .inl .irem, .inr (.invokeinterface 152 3), .inr (.invokeinterface 184 2), .inl (.iinc 1 1), .inr (.goto 98)]
def k185_134 : List xI := [.inl (.aload 0), .inl (.aload 0), .inr (.invokeinterface 154 1), .inr (.invokeinterface 184 2), .inl (.aload 0), .inl (.aload 0), .inl (.iconst (-1)), .inl (.iconst 0), .inr (.invokeinterface 156 3), .inr (.invokeinterface 184 2), .inl (.aload 0), .inl (.aload 0), .inr (.invokeinterface 162 1), .inr (.invokeinterface 184 2), .inl (.aload 0), .inl (.aload 0), .inl (.getfield 288), .inl (.iconst 98), .inl .iaload, .inr (.invokeinterface 184 2), .inl (.iconst 0), .inl (.istore 1), xto 173]
def k185_173 : List xI := [.inl (.iload 1), .inl (.aload 0), .inl (.getfield 288), .inl (.iconst 98), .inl .iaload, .inr (.if_icmp .ge 224), .inl (.iconst 0), .inl (.istore 2), xto 186]
def k185_186 : List xI := [.inl (.iload 2), .inl (.aload 0), .inr (.invokeinterface 117 1), .inr (.if_icmp .ge 218), .inl (.aload 0), .inl (.aload 0), .inl (.aload 0), .inl (.getfield 288), .inl (.iconst 99), .inl (.iload 1), .inl .iadd, .inl .iaload, .inl (.iload 2), .inr (.invokeinterface 139 3), .inr (.invokeinterface 184 2), .inl (.iinc 2 1), .inr (.goto 186)]
def k185_218 : List xI := [.inl (.iinc 1 1), .inr (.goto 173)]
def k185_224 : List xI := [.inl (.aload 0), .inl (.getfield 309), .inr .lreturn]
def xm185 : List (Nat × List xI) := [(0, k185_0), (9, k185_9), (30, k185_30), (32, k185_32), (42, k185_42), (64, k185_64), (66, k185_66), (90, k185_90), (96, k185_96), (98, k185_98), (134, k185_134), (173, k185_173), (186, k185_186), (218, k185_218), (224, k185_224)]
/-- 186: java/lang/Integer.bitCount(I)I -/
def k186_0 : List xI := [.inl (.iload 0), .inl (.iload 0), .inl (.iconst 1), .inl .iushr, .inl (.iconst 1431655765), .inl .iand, .inl .isub, .inl (.istore 0), .inl (.iload 0), .inl (.iconst 858993459), .inl .iand, .inl (.iload 0), .inl (.iconst 2), .inl .iushr, .inl (.iconst 858993459), .inl .iand, .inl .iadd, .inl (.istore 0), .inl (.iload 0), .inl (.iload 0), .inl (.iconst 4), .inl .iushr, .inl .iadd, .inl (.iconst 252645135), .inl .iand, .inl (.istore 0), .inl (.iload 0), .inl (.iload 0), .inl (.iconst 8), .inl .iushr, .inl .iadd, .inl (.istore 0), .inl (.iload 0), .inl (.iload 0), .inl (.iconst 16), .inl .iushr, .inl .iadd, .inl (.istore 0), .inl (.iload 0), .inl (.iconst 63), .inl .iand, .inr .ireturn]
def xm186 : List (Nat × List xI) := [(0, k186_0)]
/-- 187: java/lang/Long.bitCount(J)I -/
def k187_0 : List xI := [.inl (.lload 0), .inl (.lload 0), .inl (.iconst 1), .inl .lushr, .inl (.sipush 6148914691236517205), .inl .land, .inl .lsub, .inl (.lstore 0), .inl (.lload 0), .inl (.sipush 3689348814741910323), .inl .land, .inl (.lload 0), .inl (.iconst 2), .inl .lushr, .inl (.sipush 3689348814741910323), .inl .land, .inl .ladd, .inl (.lstore 0), .inl (.lload 0), .inl (.lload 0), .inl (.iconst 4), .inl .lushr, .inl .ladd, .inl (.sipush 1085102592571150095), .inl .land, .inl (.lstore 0), .inl (.lload 0), .inl (.lload 0), .inl (.iconst 8), .inl .lushr, .inl .ladd, .inl (.lstore 0), .inl (.lload 0), .inl (.lload 0), .inl (.iconst 16), .inl .lushr, .inl .ladd, .inl (.lstore 0), .inl (.lload 0), .inl (.lload 0), .inl (.iconst 32), .inl .lushr, .inl .ladd, .inl (.lstore 0), .inl (.lload 0), .inl .l2i, .inl (.iconst 127), .inl .iand, .inr .ireturn]
def xm187 : List (Nat × List xI) := [(0, k187_0)]
/-- 188: DrawnFieldsLaw.law([I)Z -/
def k188_0 : List xI := [.inl (.new 8), .inl .dup, .inr (.invokeinterface 67 1), .inl (.astore 1), .inl (.new 9), .inl .dup, .inr (.invokeinterface 109 1), .inl (.astore 2), .inl (.iconst 0), .inl (.istore 3), xto 18]
def k188_18 : List xI := [.inl (.iload 3), .inl (.aload 0), .inl .arraylength, .inl (.iconst 6), .inl .isub, .inr (.if_icmp .gt 813), .inl (.aload 0), .inl (.iload 3), .inl .iaload, .inl (.iconst 31), .inl .iand, .inr (.lookupswitch 807 #[(0, 144), (1, 177), (2, 220), (3, 263), (4, 296), (5, 329), (6, 392), (7, 415), (8, 448), (9, 481), (10, 494), (11, 527), (12, 560), (13, 583), (14, 606), (15, 629), (16, 642), (17, 675), (18, 708), (19, 731), (20, 744), (21, 757), (22, 770), (23, 793)])]
def k188_144 : List xI := [.inl (.aload 1), .inl (.aload 0), .inl (.iload 3), .inl (.iconst 1), .inl .iadd, .inl .iaload, .inl (.aload 0), .inl (.iload 3), .inl (.iconst 2), .inl .iadd, .inl .iaload, .inr (.invokeinterface 68 3), .inl (.aload 2), .inl (.aload 0), .inl (.iload 3), .inl (.iconst 1), .inl .iadd, .inl .iaload, .inl (.aload 0), .inl (.iload 3), .inl (.iconst 2), .inl .iadd, .inl .iaload, .inr (.invokeinterface 131 3), .inr (.if_icmp .eq 807), .inl (.iconst 0), .inr .areturn]
def k188_177 : List xI := [.inl (.aload 1), .inl (.aload 0), .inl (.iload 3), .inl (.iconst 1), .inl .iadd, .inl .iaload, .inl (.aload 0), .inl (.iload 3), .inl (.iconst 2), .inl .iadd, .inl .iaload, .inl (.aload 0), .inl (.iload 3), .inl (.iconst 3), .inl .iadd, .inl .iaload, .inr (.invokeinterface 69 4), .inl (.aload 2), .inl (.aload 0), .inl (.iload 3), .inl (.iconst 1), .inl .iadd, .inl .iaload, .inl (.aload 0), .inl (.iload 3), .inl (.iconst 2), .inl .iadd, .inl .iaload, .inl (.aload 0), .inl (.iload 3), .inl (.iconst 3), .inl .iadd, .inl .iaload, .inr (.invokeinterface 132 4), .inr (.if_icmp .eq 807), .inl (.iconst 0), .inr .areturn]
def k188_220 : List xI := [.inl (.aload 1), .inl (.aload 0), .inl (.iload 3), .inl (.iconst 1), .inl .iadd, .inl .iaload, .inl (.aload 0), .inl (.iload 3), .inl (.iconst 2), .inl .iadd, .inl .iaload, .inl (.aload 0), .inl (.iload 3), .inl (.iconst 3), .inl .iadd, .inl .iaload, .inr (.invokeinterface 70 4), .inl (.aload 2), .inl (.aload 0), .inl (.iload 3), .inl (.iconst 1), .inl .iadd, .inl .iaload, .inl (.aload 0), .inl (.iload 3), .inl (.iconst 2), .inl .iadd, .inl .iaload, .inl (.aload 0), .inl (.iload 3), .inl (.iconst 3), .inl .iadd, .inl .iaload, .inr (.invokeinterface 133 4), .inr (.if_icmp .eq 807), .inl (.iconst 0), .inr .areturn]
def k188_263 : List xI := [.inl (.aload 1), .inl (.aload 0), .inl (.iload 3), .inl (.iconst 1), .inl .iadd, .inl .iaload, .inl (.aload 0), .inl (.iload 3), .inl (.iconst 2), .inl .iadd, .inl .iaload, .inr (.invokeinterface 71 3), .inl (.aload 2), .inl (.aload 0), .inl (.iload 3), .inl (.iconst 1), .inl .iadd, .inl .iaload, .inl (.aload 0), .inl (.iload 3), .inl (.iconst 2), .inl .iadd, .inl .iaload, .inr (.invokeinterface 134 3), .inr (.if_icmp .eq 807), .inl (.iconst 0), .inr .areturn]
def k188_296 : List xI := [.inl (.aload 1), .inl (.aload 0), .inl (.iload 3), .inl (.iconst 1), .inl .iadd, .inl .iaload, .inl (.aload 0), .inl (.iload 3), .inl (.iconst 2), .inl .iadd, .inl .iaload, .inr (.invokeinterface 72 3), .inl (.aload 2), .inl (.aload 0), .inl (.iload 3), .inl (.iconst 1), .inl .iadd, .inl .iaload, .inl (.aload 0), .inl (.iload 3), .inl (.iconst 2), .inl .iadd, .inl .iaload, .inr (.invokeinterface 136 3), .inr (.if_icmp .eq 807), .inl (.iconst 0), .inr .areturn]
def k188_329 : List xI := [.inl (.aload 1), .inl (.aload 0), .inl (.iload 3), .inl (.iconst 1), .inl .iadd, .inl .iaload, .inl (.aload 0), .inl (.iload 3), .inl (.iconst 2), .inl .iadd, .inl .iaload, .inl (.aload 0), .inl (.iload 3), .inl (.iconst 3), .inl .iadd, .inl .iaload, .inl (.aload 0), .inl (.iload 3), .inl (.iconst 4), .inl .iadd, .inl .iaload, .inl (.aload 0), .inl (.iload 3), .inl (.iconst 5), .inl .iadd, .inl .iaload, .inr (.invokeinterface 73 6), .inl (.aload 2), .inl (.aload 0), .inl (.iload 3), .inl (.iconst 1), .inl .iadd, .inl .iaload, .inl (.aload 0), .inl (.iload 3), .inl (.iconst 2), .inl .iadd, .inl .iaload, .inl (.aload 0), .inl (.iload 3), .inl (.iconst 3), .inl .iadd, .inl .iaload, .inl (.aload 0), .inl (.iload 3), .inl (.iconst 4), .inl .iadd, .inl .iaload, .inl (.aload 0), .inl (.iload 3), .inl (.iconst 5), .inl .iadd, .inl .iaload, .inr (.invokeinterface 137 6), .inr (.if_icmp .eq 807), .inl (.iconst 0), .inr .areturn]
def k188_392 : List xI := [.inl (.aload 1), .inl (.aload 0), .inl (.iload 3), .inl (.iconst 1), .inl .iadd, .inl .iaload, .inr (.invokeinterface 74 2), .inl (.aload 2), .inl (.aload 0), .inl (.iload 3), .inl (.iconst 1), .inl .iadd, .inl .iaload, .inr (.invokeinterface 138 2), .inr (.if_icmp .eq 807), .inl (.iconst 0), .inr .areturn]
def k188_415 : List xI := [.inl (.aload 1), .inl (.aload 0), .inl (.iload 3), .inl (.iconst 1), .inl .iadd, .inl .iaload, .inl (.aload 0), .inl (.iload 3), .inl (.iconst 2), .inl .iadd, .inl .iaload, .inr (.invokeinterface 75 3), .inl (.aload 2), .inl (.aload 0), .inl (.iload 3), .inl (.iconst 1), .inl .iadd, .inl .iaload, .inl (.aload 0), .inl (.iload 3), .inl (.iconst 2), .inl .iadd, .inl .iaload, .inr (.invokeinterface 151 3), .inr (.if_icmp .eq 807), .inl (.iconst 0), .inr .areturn]
def k188_448 : List xI := [.inl (.aload 1), .inl (.aload 0), .inl (.iload 3), .inl (.iconst 1), .inl .iadd, .inl .iaload, .inl (.aload 0), .inl (.iload 3), .inl (.iconst 2), .inl .iadd, .inl .iaload, .inr (.invokeinterface 76 3), .inl (.aload 2), .inl (.aload 0), .inl (.iload 3), .inl (.iconst 1), .inl .iadd, .inl .iaload, .inl (.aload 0), .inl (.iload 3), .inl (.iconst 2), .inl .iadd, .inl .iaload, .inr (.invokeinterface 153 3), .inr (.if_icmp .eq 807), .inl (.iconst 0), .inr .areturn]
def k188_481 : List xI := [.inl (.aload 1), .inr (.invokeinterface 77 1), .inl (.aload 2), .inr (.invokeinterface 154 1), .inr (.if_icmp .eq 807), .inl (.iconst 0), .inr .areturn]
def k188_494 : List xI := [.inl (.aload 1), .inl (.aload 0), .inl (.iload 3), .inl (.iconst 1), .inl .iadd, .inl .iaload, .inl (.aload 0), .inl (.iload 3), .inl (.iconst 2), .inl .iadd, .inl .iaload, .inr (.invokeinterface 78 3), .inl (.aload 2), .inl (.aload 0), .inl (.iload 3), .inl (.iconst 1), .inl .iadd, .inl .iaload, .inl (.aload 0), .inl (.iload 3), .inl (.iconst 2), .inl .iadd, .inl .iaload, .inr (.invokeinterface 155 3), .inr (.if_icmp .eq 807), .inl (.iconst 0), .inr .areturn]
def k188_527 : List xI := [.inl (.aload 1), .inl (.aload 0), .inl (.iload 3), .inl (.iconst 1), .inl .iadd, .inl .iaload, .inl (.aload 0), .inl (.iload 3), .inl (.iconst 2), .inl .iadd, .inl .iaload, .inr (.invokeinterface 79 3), .inl (.aload 2), .inl (.aload 0), .inl (.iload 3), .inl (.iconst 1), .inl .iadd, .inl .iaload, .inl (.aload 0), .inl (.iload 3), .inl (.iconst 2), .inl .iadd, .inl .iaload, .inr (.invokeinterface 157 3), .inr (.if_icmp .eq 807), .inl (.iconst 0), .inr .areturn]
def k188_560 : List xI := [.inl (.aload 1), .inl (.aload 0), .inl (.iload 3), .inl (.iconst 1), .inl .iadd, .inl .iaload, .inr (.invokeinterface 80 2), .inl (.aload 2), .inl (.aload 0), .inl (.iload 3), .inl (.iconst 1), .inl .iadd, .inl .iaload, .inr (.invokeinterface 159 2), .inr (.if_icmp .eq 807), .inl (.iconst 0), .inr .areturn]
def k188_583 : List xI := [.inl (.aload 1), .inl (.aload 0), .inl (.iload 3), .inl (.iconst 1), .inl .iadd, .inl .iaload, .inr (.invokeinterface 81 2), .inl (.aload 2), .inl (.aload 0), .inl (.iload 3), .inl (.iconst 1), .inl .iadd, .inl .iaload, .inr (.invokeinterface 160 2), .inr (.if_icmp .eq 807), .inl (.iconst 0), .inr .areturn]
def k188_606 : List xI := [.inl (.aload 1), .inl (.aload 0), .inl (.iload 3), .inl (.iconst 1), .inl .iadd, .inl .iaload, .inr (.invokeinterface 82 2), .inl (.aload 2), .inl (.aload 0), .inl (.iload 3), .inl (.iconst 1), .inl .iadd, .inl .iaload, .inr (.invokeinterface 161 2), .inr (.if_icmp .eq 807), .inl (.iconst 0), .inr .areturn]
def k188_629 : List xI := [.inl (.aload 1), .inr (.invokeinterface 83 1), .inl (.aload 2), .inr (.invokeinterface 162 1), .inr (.if_icmp .eq 807), .inl (.iconst 0), .inr .areturn]
def k188_642 : List xI := [.inl (.aload 1), .inl (.aload 0), .inl (.iload 3), .inl (.iconst 1), .inl .iadd, .inl .iaload, .inl (.aload 0), .inl (.iload 3), .inl (.iconst 2), .inl .iadd, .inl .iaload, .inr (.invokeinterface 84 3), .inl (.aload 2), .inl (.aload 0), .inl (.iload 3), .inl (.iconst 1), .inl .iadd, .inl .iaload, .inl (.aload 0), .inl (.iload 3), .inl (.iconst 2), .inl .iadd, .inl .iaload, .inr (.invokeinterface 170 3), .inr (.if_icmp .eq 807), .inl (.iconst 0), .inr .areturn]
def k188_675 : List xI := [.inl (.aload 1), .inl (.aload 0), .inl (.iload 3), .inl (.iconst 1), .inl .iadd, .inl .iaload, .inl (.aload 0), .inl (.iload 3), .inl (.iconst 2), .inl .iadd, .inl .iaload, .inr (.invokeinterface 85 3), .inl (.aload 2), .inl (.aload 0), .inl (.iload 3), .inl (.iconst 1), .inl .iadd, .inl .iaload, .inl (.aload 0), .inl (.iload 3), .inl (.iconst 2), .inl .iadd, .inl .iaload, .inr (.invokeinterface 171 3), .inr (.if_icmp .eq 807), .inl (.iconst 0), .inr .areturn]
def k188_708 : List xI := [.inl (.aload 1), .inl (.aload 0), .inl (.iload 3), .inl (.iconst 1), .inl .iadd, .inl .iaload, .inr (.invokeinterface 86 2), .inl (.aload 2), .inl (.aload 0), .inl (.iload 3), .inl (.iconst 1), .inl .iadd, .inl .iaload, .inr (.invokeinterface 172 2), .inr (.if_icmp .eq 807), .inl (.iconst 0), .inr .areturn]
def k188_731 : List xI := [.inl (.aload 1), .inr (.invokeinterface 87 1), .inl (.aload 2), .inr (.invokeinterface 173 1), .inr (.if_icmp .eq 807), .inl (.iconst 0), .inr .areturn]
def k188_744 : List xI := [.inl (.aload 1), .inr (.invokeinterface 88 1), .inl (.aload 2), .inr (.invokeinterface 181 1), .inr (.if_icmp .eq 807), .inl (.iconst 0), .inr .areturn]
def k188_757 : List xI := [.inl (.aload 1), .inr (.invokeinterface 89 1), .inl (.aload 2), .inr (.invokeinterface 116 1), .inr (.if_icmp .eq 807), .inl (.iconst 0), .inr .areturn]
def k188_770 : List xI := [.inl (.aload 1), .inl (.aload 0), .inl (.iload 3), .inl (.iconst 1), .inl .iadd, .inl .iaload, .inr (.invokeinterface 90 2), .inl (.aload 2), .inl (.aload 0), .inl (.iload 3), .inl (.iconst 1), .inl .iadd, .inl .iaload, .inr (.invokeinterface 183 2), .inr (.if_icmp .eq 807), .inl (.iconst 0), .inr .areturn]
def k188_793 : List xI := [.inl (.aload 1), .inr (.invokeinterface 91 1), .inl (.aload 2), .inr (.invokeinterface 185 1), .inl .lcmp, .inr (.ifCond .eq 807), .inl (.iconst 0), .inr .areturn]
def k188_807 : List xI := [.inl (.iinc 3 6), .inr (.goto 18)]
def k188_813 : List xI := [.inl (.iconst 1), .inr .areturn]
def xm188 : List (Nat × List xI) := [(0, k188_0), (18, k188_18), (144, k188_144), (177, k188_177), (220, k188_220), (263, k188_263), (296, k188_296), (329, k188_329), (392, k188_392), (415, k188_415), (448, k188_448), (481, k188_481), (494, k188_494), (527, k188_527), (560, k188_560), (583, k188_583), (606, k188_606), (629, k188_629), (642, k188_642), (675, k188_675), (708, k188_708), (731, k188_731), (744, k188_744), (757, k188_757), (770, k188_770), (793, k188_793), (807, k188_807), (813, k188_813)]
def xtab : List (List (Nat × List xI)) := [xm0, xm1, xm2, xm3, xm4, xm5, xm6, xm7, xm8, xm9, xm10, xm11, xm12, xm13, xm14, xm15, xm16, xm17, xm18, xm19, xm20, xm21, xm22, xm23, xm24, xm25, xm26, xm27, xm28, xm29, xm30, xm31, xm32, xm33, xm34, xm35, xm36, xm37, xm38, xm39, xm40, xm41, xm42, xm43, xm44, xm45, xm46, xm47, xm48, xm49, xm50, xm51, xm52, xm53, xm54, xm55, xm56, xm57, xm58, xm59, xm60, xm61, xm62, xm63, xm64, xm65, xm66, xm67, xm68, xm69, xm70, xm71, xm72, xm73, xm74, xm75, xm76, xm77, xm78, xm79, xm80, xm81, xm82, xm83, xm84, xm85, xm86, xm87, xm88, xm89, xm90, xm91, xm92, xm93, xm94, xm95, xm96, xm97, xm98, xm99, xm100, xm101, xm102, xm103, xm104, xm105, xm106, xm107, xm108, xm109, xm110, xm111, xm112, xm113, xm114, xm115, xm116, xm117, xm118, xm119, xm120, xm121, xm122, xm123, xm124, xm125, xm126, xm127, xm128, xm129, xm130, xm131, xm132, xm133, xm134, xm135, xm136, xm137, xm138, xm139, xm140, xm141, xm142, xm143, xm144, xm145, xm146, xm147, xm148, xm149, xm150, xm151, xm152, xm153, xm154, xm155, xm156, xm157, xm158, xm159, xm160, xm161, xm162, xm163, xm164, xm165, xm166, xm167, xm168, xm169, xm170, xm171, xm172, xm173, xm174, xm175, xm176, xm177, xm178, xm179, xm180, xm181, xm182, xm183, xm184, xm185, xm186, xm187, xm188]
/-- name, bytes, locals, answer; class number, frames, words of locals that it asks for -/
def xinf : List (MethodName × ByteArray × Nat × Option FieldType × Nat × Nat × Nat) := [(yX0_init, cX0_init, 1, none, 0, 2, 40),
  (yX0_begin, cX0_begin, 3, none, 0, 2, 39),
  (yX0_drawTogether, cX0_drawTogether, 9, (some .int), 0, 3, 73),
  (yX0_rowOfWord, cX0_rowOfWord, 8, (some .int), 0, 2, 44),
  (yX0_drawInOrder, cX0_drawInOrder, 5, (some .int), 0, 3, 73),
  (yX0_takeValue, cX0_takeValue, 7, (some .int), 0, 1, 23),
  (yX0_chanceBelow, cX0_chanceBelow, 2, (some .int), 0, 0, 0),
  (yX1_init, cX1_init, 1, none, 1, 1, 23),
  (yX1_begin, cX1_begin, 4, none, 1, 0, 0),
  (yX1_becomes, cX1_becomes, 2, none, 1, 1, 18),
  (yX1_valueBits, cX1_valueBits, 1, (some .int), 1, 0, 0),
  (yX1_inTurn, cX1_inTurn, 3, (some .int), 1, 0, 0),
  (yX1_weightOfValues, cX1_weightOfValues, 4, (some .int), 1, 0, 0),
  (yX2_init, cX2_init, 2, none, 2, 2, 40),
  (yX2_look, cX2_look, 4, none, 2, 3, 71),
  (yX2_withSoft, cX2_withSoft, 6, (some .int), 2, 1, 25),
  (yX2_leastUnkept, cX2_leastUnkept, 5, (some .int), 2, 1, 25),
  (yX2_someRowKeeps, cX2_someRowKeeps, 6, (some .boolean), 2, 0, 0),
  (yX3_init, cX3_init, 2, none, 3, 3, 64),
  (yX3_mark, cX3_mark, 2, none, 3, 3, 61),
  (yX3_keepMark, cX3_keepMark, 3, none, 3, 0, 0),
  (yX3_restore, cX3_restore, 2, (some .int), 3, 3, 61),
  (yX4_init, cX4_init, 1, none, 4, 1, 20),
  (yX4_wordValue, cX4_wordValue, 2, (some .int), 4, 0, 0),
  (yX4_hasWord, cX4_hasWord, 3, (some .boolean), 4, 1, 21),
  (yX4_withinWord, cX4_withinWord, 5, (some .long), 4, 0, 0),
  (yX4_becomes, cX4_becomes, 2, none, 4, 1, 18),
  (yX4_becomesAll, cX4_becomesAll, 2, none, 4, 0, 0),
  (yX4_becomesKeepersOf, cX4_becomesKeepersOf, 7, none, 4, 2, 45),
  (yX4_keepRowsOf, cX4_keepRowsOf, 3, none, 4, 0, 0),
  (yX4_keepValues, cX4_keepValues, 6, none, 4, 2, 43),
  (yX4_isEmpty, cX4_isEmpty, 2, (some .boolean), 4, 0, 0),
  (yX4_size, cX4_size, 3, (some .int), 4, 1, 21),
  (yX4_valuesAt, cX4_valuesAt, 6, (some .int), 4, 2, 48),
  (yX4_valuesWithin, cX4_valuesWithin, 5, (some .int), 4, 1, 24),
  (yX4_codeAt, cX4_codeAt, 5, (some .int), 4, 1, 24),
  (yX4_bitAt, cX4_bitAt, 5, (some .int), 4, 0, 0),
  (yX4_countAhead, cX4_countAhead, 5, (some .int), 4, 1, 21),
  (yX4_countBySum, cX4_countBySum, 6, none, 4, 1, 21),
  (yX5_init, cX5_init, 1, none, 5, 1, 20),
  (yX5_becomes, cX5_becomes, 2, none, 5, 0, 0),
  (yX5_isKeptBy, cX5_isKeptBy, 3, (some .boolean), 5, 0, 0),
  (yX5_partnersOf, cX5_partnersOf, 4, (some .int), 5, 1, 22),
  (yX6_init, cX6_init, 2, none, 6, 2, 43),
  (yX6_becomes, cX6_becomes, 3, none, 6, 2, 39),
  (yX6_hasField, cX6_hasField, 2, (some .boolean), 6, 0, 0),
  (yX6_hasRule, cX6_hasRule, 2, (some .boolean), 6, 0, 0),
  (yX6_isRule, cX6_isRule, 5, (some .boolean), 6, 1, 21),
  (yX6_addField, cX6_addField, 4, (some .int), 6, 1, 23),
  (yX6_addRule, cX6_addRule, 7, (some .int), 6, 1, 21),
  (yX6_dropRule, cX6_dropRule, 3, (some .int), 6, 1, 21),
  (yX6_emptyDrawn, cX6_emptyDrawn, 2, none, 6, 0, 0),
  (yX6_placeInOrder, cX6_placeInOrder, 3, (some .int), 6, 0, 0),
  (yX6_moveInOrder, cX6_moveInOrder, 5, (some .int), 6, 1, 22),
  (yX6_factOfField, cX6_factOfField, 3, (some .int), 6, 1, 22),
  (yX6_noteDraw, cX6_noteDraw, 3, none, 6, 1, 21),
  (yX6_weightOfRow, cX6_weightOfRow, 4, (some .int), 6, 1, 21),
  (yX6_weightOfRows, cX6_weightOfRows, 4, (some .int), 6, 2, 50),
  (yX6_weightOfWord, cX6_weightOfWord, 8, (some .int), 6, 1, 23),
  (yX7_init, cX7_init, 1, none, 7, 1, 20),
  (yX7_add, cX7_add, 2, (some .int), 7, 0, 0),
  (yX7_findFault, cX7_findFault, 2, (some .int), 7, 3, 65),
  (yX7_readOrder, cX7_readOrder, 3, (some .boolean), 7, 2, 43),
  (yX7_numbersBehind, cX7_numbersBehind, 1, (some .int), 7, 0, 0),
  (yX7_readNumber, cX7_readNumber, 4, (some .boolean), 7, 1, 20),
  (yX7_isFigure, cX7_isFigure, 1, (some .boolean), 7, 0, 0),
  (yX7_skipBlanks, cX7_skipBlanks, 1, none, 7, 0, 0),
  (yX8_init, cX8_init, 1, none, 8, 4, 85),
  (yX8_field, cX8_field, 3, (some .int), 8, 4, 82),
  (yX8_range, cX8_range, 4, (some .int), 8, 4, 82),
  (yX8_weighs, cX8_weighs, 4, (some .int), 8, 4, 82),
  (yX8_round, cX8_round, 3, (some .int), 8, 4, 82),
  (yX8_orders, cX8_orders, 3, (some .int), 8, 4, 82),
  (yX8_rule, cX8_rule, 6, (some .int), 8, 4, 82),
  (yX8_drops, cX8_drops, 2, (some .int), 8, 4, 82),
  (yX8_of, cX8_of, 3, (some .int), 8, 2, 44),
  (yX8_about, cX8_about, 3, (some .int), 8, 4, 94),
  (yX8_rows, cX8_rows, 1, (some .int), 8, 4, 94),
  (yX8_row, cX8_row, 4, (some .int), 8, 4, 94),
  (yX8_heavy, cX8_heavy, 3, (some .int), 8, 4, 94),
  (yX8_sums, cX8_sums, 2, (some .int), 8, 4, 94),
  (yX8_sum, cX8_sum, 4, (some .int), 8, 4, 94),
  (yX8_soft, cX8_soft, 5, (some .int), 8, 1, 21),
  (yX8_core, cX8_core, 1, (some .int), 8, 4, 94),
  (yX8_draws, cX8_draws, 3, (some .int), 8, 5, 124),
  (yX8_drawn, cX8_drawn, 3, (some .int), 8, 1, 21),
  (yX8_type, cX8_type, 2, (some .int), 8, 1, 21),
  (yX8_clear, cX8_clear, 2, (some .int), 8, 0, 0),
  (yX8_reads, cX8_reads, 4, (some .int), 8, 6, 145),
  (yX8_back, cX8_back, 1, (some .int), 8, 4, 82),
  (yX8_told, cX8_told, 2, (some .int), 8, 1, 21),
  (yX8_digest, cX8_digest, 5, (some .long), 8, 4, 94),
  (yX8_settled, cX8_settled, 2, (some .int), 8, 1, 22),
  (yX8_counted, cX8_counted, 2, (some .int), 8, 0, 0),
  (yX8_factOfAll, cX8_factOfAll, 2, (some .int), 8, 0, 0),
  (yX8_factOfRule, cX8_factOfRule, 4, (some .int), 8, 0, 0),
  (yX8_digestOfField, cX8_digestOfField, 7, (some .long), 8, 2, 44),
  (yX8_digestOfDrawn, cX8_digestOfDrawn, 7, (some .long), 8, 1, 21),
  (yX8_valueIn, cX8_valueIn, 2, (some .int), 8, 0, 0),
  (yX8_isRange, cX8_isRange, 2, (some .boolean), 8, 0, 0),
  (yX8_tryField, cX8_tryField, 3, (some .int), 8, 2, 46),
  (yX8_tryRange, cX8_tryRange, 4, (some .int), 8, 1, 21),
  (yX8_tryWeight, cX8_tryWeight, 5, (some .int), 8, 1, 21),
  (yX8_tryRound, cX8_tryRound, 4, (some .int), 8, 1, 21),
  (yX8_tryPlace, cX8_tryPlace, 3, (some .int), 8, 2, 46),
  (yX8_tryRule, cX8_tryRule, 6, (some .int), 8, 2, 47),
  (yX8_tryDrop, cX8_tryDrop, 2, (some .int), 8, 2, 43),
  (yX8_tryDraw, cX8_tryDraw, 4, (some .int), 8, 4, 101),
  (yX8_performOrder, cX8_performOrder, 2, (some .int), 8, 5, 124),
  (yX9_init, cX9_init, 1, none, 9, 1, 20),
  (yX9_in, cX9_in, 3, (some .boolean), 9, 0, 0),
  (yX9_has, cX9_has, 2, (some .boolean), 9, 0, 0),
  (yX9_refuses, cX9_refuses, 2, (some .int), 9, 0, 0),
  (yX9_hold, cX9_hold, 2, none, 9, 0, 0),
  (yX9_push, cX9_push, 2, none, 9, 0, 0),
  (yX9_ends, cX9_ends, 2, (some .int), 9, 1, 21),
  (yX9_back, cX9_back, 2, (some .int), 9, 1, 21),
  (yX9_fields, cX9_fields, 1, (some .int), 9, 0, 0),
  (yX9_isField, cX9_isField, 2, (some .boolean), 9, 1, 22),
  (yX9_isRule, cX9_isRule, 2, (some .boolean), 9, 1, 22),
  (yX9_ofField, cX9_ofField, 3, (some .int), 9, 0, 0),
  (yX9_put, cX9_put, 4, none, 9, 0, 0),
  (yX9_ofRule, cX9_ofRule, 3, (some .int), 9, 0, 0),
  (yX9_empty, cX9_empty, 2, none, 9, 1, 23),
  (yX9_doField, cX9_doField, 5, (some .int), 9, 2, 44),
  (yX9_doRange, cX9_doRange, 4, (some .int), 9, 2, 44),
  (yX9_doWeighs, cX9_doWeighs, 5, (some .int), 9, 2, 43),
  (yX9_doRound, cX9_doRound, 4, (some .int), 9, 2, 43),
  (yX9_mostOf, cX9_mostOf, 1, (some .int), 9, 0, 0),
  (yX9_doRule, cX9_doRule, 7, (some .int), 9, 2, 44),
  (yX9_doDrops, cX9_doDrops, 3, (some .int), 9, 2, 44),
  (yX9_field, cX9_field, 3, (some .int), 9, 3, 68),
  (yX9_range, cX9_range, 4, (some .int), 9, 3, 67),
  (yX9_weighs, cX9_weighs, 4, (some .int), 9, 3, 67),
  (yX9_round, cX9_round, 3, (some .int), 9, 3, 66),
  (yX9_placeOf, cX9_placeOf, 3, (some .int), 9, 0, 0),
  (yX9_orders, cX9_orders, 5, (some .int), 9, 2, 43),
  (yX9_rule, cX9_rule, 6, (some .int), 9, 3, 70),
  (yX9_drops, cX9_drops, 2, (some .int), 9, 3, 66),
  (yX9_valueOf, cX9_valueOf, 3, (some .int), 9, 0, 0),
  (yX9_keeps, cX9_keeps, 6, (some .boolean), 9, 1, 22),
  (yX9_keptBy, cX9_keptBy, 4, (some .int), 9, 2, 47),
  (yX9_isSome, cX9_isSome, 4, (some .boolean), 9, 0, 0),
  (yX9_first, cX9_first, 3, (some .int), 9, 1, 22),
  (yX9_next, cX9_next, 5, (some .int), 9, 1, 22),
  (yX9_hard, cX9_hard, 3, (some .int), 9, 1, 22),
  (yX9_lookAtSoft, cX9_lookAtSoft, 3, none, 9, 2, 44),
  (yX9_lay, cX9_lay, 2, none, 9, 3, 70),
  (yX9_weightOf, cX9_weightOf, 4, (some .int), 9, 1, 22),
  (yX9_sumOf, cX9_sumOf, 4, (some .int), 9, 1, 22),
  (yX9_ofAll, cX9_ofAll, 3, (some .int), 9, 1, 22),
  (yX9_of, cX9_of, 3, (some .int), 9, 2, 44),
  (yX9_aboutRule, cX9_aboutRule, 3, (some .int), 9, 4, 91),
  (yX9_about, cX9_about, 3, (some .int), 9, 5, 113),
  (yX9_rows, cX9_rows, 1, (some .int), 9, 4, 91),
  (yX9_row, cX9_row, 3, (some .int), 9, 4, 91),
  (yX9_heavyOf, cX9_heavyOf, 5, (some .int), 9, 4, 91),
  (yX9_heavy, cX9_heavy, 4, (some .int), 9, 5, 115),
  (yX9_sumsOf, cX9_sumsOf, 4, (some .int), 9, 4, 91),
  (yX9_sums, cX9_sums, 2, (some .int), 9, 5, 114),
  (yX9_sum, cX9_sum, 4, (some .int), 9, 5, 114),
  (yX9_soft, cX9_soft, 2, (some .int), 9, 4, 91),
  (yX9_core, cX9_core, 3, (some .int), 9, 4, 91),
  (yX9_drawBy, cX9_drawBy, 2, (some .int), 9, 0, 0),
  (yX9_valuesOf, cX9_valuesOf, 4, (some .int), 9, 1, 22),
  (yX9_limit, cX9_limit, 4, none, 9, 1, 22),
  (yX9_takeTogether, cX9_takeTogether, 6, (some .int), 9, 2, 45),
  (yX9_valueDrawn, cX9_valueDrawn, 8, (some .int), 9, 1, 22),
  (yX9_takeInOrder, cX9_takeInOrder, 4, (some .int), 9, 2, 49),
  (yX9_doDraws, cX9_doDraws, 6, (some .int), 9, 4, 91),
  (yX9_draws, cX9_draws, 3, (some .int), 9, 5, 116),
  (yX9_drawn, cX9_drawn, 3, (some .int), 9, 2, 43),
  (yX9_type, cX9_type, 2, (some .int), 9, 1, 22),
  (yX9_clear, cX9_clear, 2, (some .int), 9, 0, 0),
  (yX9_here, cX9_here, 1, (some .int), 9, 0, 0),
  (yX9_must, cX9_must, 2, none, 9, 0, 0),
  (yX9_isFigure, cX9_isFigure, 1, (some .boolean), 9, 1, 22),
  (yX9_number, cX9_number, 3, (some .int), 9, 2, 42),
  (yX9_numbersOf, cX9_numbersOf, 1, (some .int), 9, 0, 0),
  (yX9_readOrder, cX9_readOrder, 4, none, 9, 3, 64),
  (yX9_doOrder, cX9_doOrder, 6, (some .int), 9, 5, 116),
  (yX9_reads, cX9_reads, 3, (some .int), 9, 6, 141),
  (yX9_toldOf, cX9_toldOf, 2, (some .int), 9, 0, 0),
  (yX9_told, cX9_told, 2, (some .int), 9, 1, 22),
  (yX9_mix, cX9_mix, 2, none, 9, 0, 0),
  (yX9_digest, cX9_digest, 3, (some .long), 9, 5, 115),
  (yJ6_bitCount_0f7a4, cJ6_bitCount_0f7a4, 1, (some .int), 10, 0, 0),
  (yJ13_bitCount_95d88, cJ13_bitCount_95d88, 2, (some .int), 11, 0, 0),
  (yL_law, cL_law, 4, (some .boolean), 12, 9, 338)]
/-- 2 + the class of a method that is called by its receiver, 1 of a constructor, 0 of others -/
def xvk : List Nat := [1, 2, 2, 2, 2, 2, 2, 1, 3, 3, 3, 3, 3, 1, 4, 4, 4, 4, 1, 5, 5, 5, 1, 0, 0, 0, 6, 6, 6, 6, 6, 6, 6, 6, 0, 6, 0, 6, 6, 1, 7, 7, 7, 1, 8, 8, 8, 8, 8, 8, 8, 8, 8, 8, 8, 8, 8, 8, 8, 1, 9, 9, 9, 0, 9, 9, 9, 1, 10, 10, 10, 10, 10, 10, 10, 10, 10, 10, 10, 10, 10, 10, 10, 10, 10, 10, 10, 10, 10, 10, 10, 10, 10, 10, 10, 10, 10, 10, 0, 0, 10, 10, 10, 10, 10, 10, 10, 10, 10, 1, 0, 0, 11, 11, 11, 11, 11, 11, 11, 11, 11, 11, 11, 11, 11, 11, 11, 11, 0, 11, 11, 11, 11, 11, 11, 11, 11, 11, 11, 11, 11, 11, 11, 11, 11, 11, 11, 11, 11, 11, 11, 11, 11, 11, 11, 11, 11, 11, 11, 11, 11, 11, 11, 11, 11, 11, 11, 11, 11, 11, 11, 11, 11, 11, 11, 11, 11, 11, 0, 11, 11, 11, 11, 11, 11, 11, 0, 0, 0]
def xblk (i pc : Nat) : Option (List xI) := (xtab.getD i []).lookup pc
def xmL (i : Nat) : Nat := ((xinf[i]?).map (fun q => q.2.2.1)).getD 0
end
section
/-! ===== runs of the abstract machine: by fuel, then without ===== -/
def xent (j : Nat) (as : List Value) : xL := xlo as ++ List.replicate (xmL j - (xlo as).length) none
/-- the values fit the method's locals, and its receiver is of its class -/
def xcg (j : Nat) (as : List Value) (h : xH) : Bool := decide ((xlo as).length ≤ xmL j) && (match xvk.getD j 0 with
  | 0 => true
  | 1 => (match as with
    | .ref _ :: _ => true
    | _ => false)
  | c + 2 => match as with
    | .ref a :: _ => xobj h a c
    | _ => false)
def xF : Nat → Nat → Nat → xL → xS → xH → xR
  | 0, _, _, _, _, _ => none
  | n + 1, i, pc, L, st, h => (xblk i pc).bind (fun b => xB (fun j as h => if xcg j as h = true then xF n j 0 (xent j as) [] h else none) (fun pc L st h => xF n i pc L st h) b L st h)
theorem xB_mono {c1 c2 : Nat → List Value → xH → xR} {j1 j2 : Nat → xL → xS → xH → xR} (hc : ∀ j as h r, c1 j as h = some r → c2 j as h = some r) (hj : ∀ t L st h r, j1 t L st h = some r → j2 t L st h = some r) :
    ∀ (b : List xI) (L : xL) (st : xS) (h : xH) (r : Option Value × xH), xB c1 j1 b L st h = some r → xB c2 j2 b L st h = some r := by
  intro b
  induction b with
  | nil => intro L st h r e; simp [xB] at e
  | cons i t ih =>
    intro L st h r e
    cases i with
    | inl p =>
      simp only [xB] at e ⊢
      obtain ⟨q, h1, h2⟩ := Option.bind_eq_some_iff.mp e
      exact Option.bind_eq_some_iff.mpr ⟨q, h1, ih _ _ _ _ h2⟩
    | inr c =>
      cases c with
      | goto u => simp only [xB] at e ⊢; exact hj _ _ _ _ _ e
      | goto_w u => simp only [xB] at e ⊢; exact hj _ _ _ _ _ e
      | ifCond c u =>
        simp only [xB] at e ⊢
        split at e
        · split at e
          · next h1 => rw [if_pos h1]; exact hj _ _ _ _ _ e
          · next h1 => rw [if_neg h1]; exact ih _ _ _ _ e
        · cases e
      | if_icmp c u =>
        simp only [xB] at e ⊢
        split at e
        · split at e
          · next h1 => rw [if_pos h1]; exact hj _ _ _ _ _ e
          · next h1 => rw [if_neg h1]; exact ih _ _ _ _ e
        · cases e
      | lookupswitch d ps =>
        simp only [xB] at e ⊢
        split at e
        · exact hj _ _ _ _ _ e
        · cases e
      | ireturn => simp only [xB] at e ⊢; exact e
      | areturn => simp only [xB] at e ⊢; exact e
      | lreturn => simp only [xB] at e ⊢; exact e
      | return_ => simp only [xB] at e ⊢; exact e
      | invokeinterface j n =>
        simp only [xB] at e ⊢
        split at e
        · next h1 =>
          rw [if_pos h1]
          obtain ⟨q, h2, h3⟩ := Option.bind_eq_some_iff.mp e
          exact Option.bind_eq_some_iff.mpr ⟨q, hc _ _ _ _ h2, ih _ _ _ _ h3⟩
        · cases e
      | _ => simp [xB] at e
theorem xB_cont {cF : Nat → Nat → List Value → xH → xR} {jF : Nat → Nat → xL → xS → xH → xR} {c2 : Nat → List Value → xH → xR} {j2 : Nat → xL → xS → xH → xR}
    (mc : ∀ n j as h r, cF n j as h = some r → cF (n + 1) j as h = some r) (mj : ∀ n t L st h r, jF n t L st h = some r → jF (n + 1) t L st h = some r)
    (hc : ∀ j as h r, c2 j as h = some r → ∃ n, cF n j as h = some r) (hj : ∀ t L st h r, j2 t L st h = some r → ∃ n, jF n t L st h = some r) :
    ∀ (b : List xI) (L : xL) (st : xS) (h : xH) (r : Option Value × xH), xB c2 j2 b L st h = some r → ∃ n, xB (cF n) (jF n) b L st h = some r := by
  have mc' : ∀ k n j as h r, cF n j as h = some r → cF (n + k) j as h = some r := by
    intro k
    induction k with
    | zero => intro n j as h r e; exact e
    | succ k ih => intro n j as h r e; exact mc _ _ _ _ _ (ih _ _ _ _ _ e)
  have mj' : ∀ k n j L as h r, jF n j L as h = some r → jF (n + k) j L as h = some r := by
    intro k
    induction k with
    | zero => intro n j L as h r e; exact e
    | succ k ih => intro n j L as h r e; exact mj _ _ _ _ _ _ (ih _ _ _ _ _ _ e)
  intro b
  induction b with
  | nil => intro L st h r e; simp [xB] at e
  | cons i t ih =>
    intro L st h r e
    cases i with
    | inl p =>
      simp only [xB] at e ⊢
      obtain ⟨q, h1, h2⟩ := Option.bind_eq_some_iff.mp e
      obtain ⟨n, h3⟩ := ih _ _ _ _ h2
      exact ⟨n, Option.bind_eq_some_iff.mpr ⟨q, h1, h3⟩⟩
    | inr c =>
      cases c with
      | goto u => simp only [xB] at e ⊢; exact hj _ _ _ _ _ e
      | goto_w u => simp only [xB] at e ⊢; exact hj _ _ _ _ _ e
      | ifCond c u =>
        simp only [xB] at e ⊢
        split at e
        · split at e
          · next h1 => simp only [if_pos h1]; exact hj _ _ _ _ _ e
          · next h1 => simp only [if_neg h1]; exact ih _ _ _ _ e
        · cases e
      | if_icmp c u =>
        simp only [xB] at e ⊢
        split at e
        · split at e
          · next h1 => simp only [if_pos h1]; exact hj _ _ _ _ _ e
          · next h1 => simp only [if_neg h1]; exact ih _ _ _ _ e
        · cases e
      | lookupswitch d ps =>
        simp only [xB] at e ⊢
        split at e
        · exact hj _ _ _ _ _ e
        · cases e
      | ireturn => simp only [xB] at e ⊢; exact ⟨0, e⟩
      | areturn => simp only [xB] at e ⊢; exact ⟨0, e⟩
      | lreturn => simp only [xB] at e ⊢; exact ⟨0, e⟩
      | return_ => simp only [xB] at e ⊢; exact ⟨0, e⟩
      | invokeinterface j n =>
        simp only [xB] at e ⊢
        split at e
        · next h1 =>
          simp only [if_pos h1]
          obtain ⟨q, h2, h3⟩ := Option.bind_eq_some_iff.mp e
          obtain ⟨n1, e1⟩ := hc _ _ _ _ h2
          obtain ⟨n2, e2⟩ := ih _ _ _ _ h3
          refine ⟨n1 + n2, Option.bind_eq_some_iff.mpr ⟨q, mc' n2 n1 _ _ _ _ e1, ?_⟩⟩
          rw [Nat.add_comm]
          exact xB_mono (fun j as h r => mc' n1 n2 j as h r) (fun j L as h r => mj' n1 n2 j L as h r) _ _ _ _ _ e2
        · cases e
      | _ => simp [xB] at e
theorem xF_succ : ∀ (n i pc : Nat) (L : xL) (st : xS) (h : xH) (r : Option Value × xH), xF n i pc L st h = some r → xF (n + 1) i pc L st h = some r := by
  intro n
  induction n with
  | zero => intro i pc L st h r e; simp [xF] at e
  | succ n ih =>
    intro i pc L st h r e
    rw [xF] at e ⊢
    obtain ⟨b, h1, h2⟩ := Option.bind_eq_some_iff.mp e
    exact Option.bind_eq_some_iff.mpr ⟨b, h1, xB_mono (fun j as h r q => by
      split at q
      · next hg => rw [if_pos hg]; exact ih _ _ _ _ _ _ q
      · cases q) (fun t L st h r q => ih _ _ _ _ _ _ q) _ _ _ _ _ h2⟩
theorem xF_add (k n i pc : Nat) (L : xL) (st : xS) (h : xH) (r : Option Value × xH) (e : xF n i pc L st h = some r) : xF (n + k) i pc L st h = some r := by
  induction k with
  | zero => exact e
  | succ k ih => exact xF_succ _ _ _ _ _ _ _ ih
/-- the run from a block's start, if it ends -/
noncomputable def den (i pc : Nat) (L : xL) (st : xS) (h : xH) : xR :=
  @dite xR (∃ r n, xF n i pc L st h = some r) (Classical.propDecidable _) (fun q => some (Classical.choose q)) (fun _ => none)
theorem den_iff (i pc : Nat) (L : xL) (st : xS) (h : xH) (r : Option Value × xH) : den i pc L st h = some r ↔ ∃ n, xF n i pc L st h = some r := by
  unfold den
  constructor
  · intro e
    split at e
    · next q =>
      have := Classical.choose_spec q
      rw [Option.some.inj e] at this
      exact this
    · cases e
  · rintro ⟨n, e⟩
    have q : ∃ r n, xF n i pc L st h = some r := ⟨r, n, e⟩
    rw [dif_pos q]
    obtain ⟨m, e2⟩ := Classical.choose_spec q
    have a1 := xF_add m _ _ _ _ _ _ _ e
    have a2 := xF_add n _ _ _ _ _ _ _ e2
    rw [Nat.add_comm] at a2
    rw [a1] at a2
    exact congrArg some (Option.some.inj a2).symm
noncomputable def xcall (j : Nat) (as : List Value) (h : xH) : xR := if xcg j as h = true then den j 0 (xent j as) [] h else none
theorem den_eq {i pc : Nat} {b : List xI} (hb : xblk i pc = some b) (L : xL) (st : xS) (h : xH) : den i pc L st h = xB xcall (den i) b L st h := by
  apply Option.ext
  intro r
  constructor
  · intro e
    obtain ⟨n, e⟩ := (den_iff _ _ _ _ _ _).mp e
    cases n with
    | zero => simp [xF] at e
    | succ n =>
      rw [xF, hb, Option.bind_some] at e
      exact xB_mono (fun j as h r q => by
        split at q
        · next hg => rw [xcall, if_pos hg]; exact (den_iff _ _ _ _ _ _).mpr ⟨n, q⟩
        · cases q) (fun t L st h r q => (den_iff _ _ _ _ _ _).mpr ⟨n, q⟩) _ _ _ _ _ e
  · intro e
    obtain ⟨n, e⟩ := xB_cont (cF := fun n j as h => if xcg j as h = true then xF n j 0 (xent j as) [] h else none) (jF := fun n t L st h => xF n i t L st h) (fun n j as h r q => by
      split at q
      · next hg => rw [if_pos hg]; exact xF_succ _ _ _ _ _ _ _ q
      · cases q) (fun n t L st h r q => xF_succ _ _ _ _ _ _ _ q) (fun j as h r q => by
      rw [xcall] at q
      split at q
      · next hg => obtain ⟨n, q⟩ := (den_iff _ _ _ _ _ _).mp q; exact ⟨n, by rw [if_pos hg]; exact q⟩
      · cases q) (fun t L st h r q => (den_iff _ _ _ _ _ _).mp q) _ _ _ _ _ e
    exact (den_iff _ _ _ _ _ _).mpr ⟨n + 1, by rw [xF, hb, Option.bind_some]; exact e⟩
end
section
/-! ===== links, by program (wip/whole/gen_link.py): numbers, and where their words stand in lw_tbl ===== -/
def xcns : List String := [RX0, RX1, RX2, RX3, RX4, RX5, RX6, RX7, RX8, RX9, RJ6, RJ13, RL]
def xcn (o : Nat) : String := xcns.getD o ""
/-- owner, entry, 32 * class + slot, place -/
def xFL : List (Nat × Nat × Nat × Nat) := [(0, 12, 0, 282), (0, 22, 1, 283), (0, 26, 192, 177), (0, 32, 193, 181), (0, 36, 34, 120), (0, 63, 128, 247), (0, 87, 194, 184), (0, 102, 36, 127), (1, 9, 36, 126), (1, 19, 32, 113), (1, 23, 33, 116), (1, 26, 34, 119), (1, 29, 35, 123), (2, 12, 64, 255), (2, 18, 67, 261), (2, 21, 68, 262), (2, 25, 200, 196), (2, 34, 193, 180), (2, 48, 195, 186), (2, 52, 196, 189), (2, 60, 164, 162), (2, 69, 65, 257), (2, 80, 66, 259), (2, 90, 128, 248), (3, 11, 97, 228), (3, 18, 96, 226), (4, 9, 128, 246), (4, 37, 161, 152), (4, 45, 162, 156), (5, 9, 160, 147), (5, 15, 161, 150), (5, 18, 162, 154), (5, 21, 163, 158), (5, 24, 164, 161), (6, 11, 193, 179), (6, 17, 194, 183), (6, 23, 196, 188), (6, 27, 197, 191), (6, 31, 199, 194), (6, 36, 192, 176), (6, 49, 195, 185), (6, 55, 198, 192), (6, 58, 200, 197), (6, 76, 160, 148), (6, 79, 161, 151), (6, 82, 162, 155), (6, 85, 163, 159), (6, 88, 164, 163), (6, 91, 35, 124), (6, 98, 32, 114), (6, 101, 33, 117), (6, 104, 34, 121), (6, 111, 36, 128), (6, 114, 128, 249), (7, 11, 227, 303), (7, 15, 228, 305), (7, 18, 224, 297), (7, 22, 225, 299), (7, 36, 226, 301), (8, 10, 256, 317), (8, 19, 257, 318), (8, 26, 258, 319), (8, 33, 259, 320), (8, 40, 260, 321), (8, 47, 261, 322), (8, 51, 262, 323), (8, 55, 263, 324), (8, 109, 64, 256), (8, 138, 195, 187), (8, 142, 196, 190), (8, 146, 164, 164), (8, 151, 66, 260), (8, 157, 198, 193), (8, 160, 199, 195), (8, 166, 224, 298), (8, 172, 225, 300), (8, 193, 192, 178), (8, 207, 96, 227), (8, 210, 160, 149), (8, 213, 161, 153), (8, 216, 162, 157), (8, 219, 163, 160), (8, 222, 65, 258), (8, 225, 193, 182), (8, 229, 36, 129), (8, 241, 32, 115), (8, 244, 33, 118), (8, 250, 34, 122), (8, 253, 35, 125), (8, 290, 227, 304), (8, 293, 226, 302), (9, 7, 288, 781), (9, 13, 289, 782), (9, 16, 290, 783), (9, 19, 292, 785), (9, 22, 294, 787), (9, 25, 297, 790), (9, 29, 298, 791), (9, 32, 300, 793), (9, 35, 302, 795), (9, 38, 307, 800), (9, 41, 308, 801), (9, 44, 291, 784), (9, 55, 293, 786), (9, 130, 299, 792), (9, 136, 296, 789), (9, 154, 295, 788), (9, 178, 301, 794), (9, 213, 303, 796), (9, 216, 304, 797), (9, 219, 305, 798), (9, 236, 306, 799), (9, 253, 309, 802)]
/-- owner, entry, method, kind (0 virtual, 1 special, 2 static; 3, 4, 5 the same of a nest mate), place -/
def xML : List (Nat × Nat × Nat × Nat × Nat) := [(0, 3, 1000, 1, 279), (0, 11, 22, 4, 281), (0, 18, 26, 0, 636), (0, 41, 33, 0, 641), (0, 45, 11, 0, 648), (0, 48, 30, 0, 652), (0, 52, 57, 0, 653), (0, 56, 32, 0, 654), (0, 60, 6, 0, 655), (0, 67, 187, 2, 663), (0, 73, 58, 0, 664), (0, 77, 3, 0, 665), (0, 81, 35, 0, 673), (0, 84, 56, 0, 669), (0, 91, 5, 0, 678), (0, 95, 12, 0, 682), (0, 98, 186, 2, 683), (1, 3, 1000, 1, 108), (1, 15, 8, 0, 109), (1, 32, 1001, 2, 358), (2, 3, 1000, 1, 239), (2, 11, 22, 4, 242), (2, 31, 27, 0, 493), (2, 38, 10, 0, 498), (2, 44, 30, 0, 502), (2, 56, 28, 0, 517), (2, 65, 15, 0, 529), (2, 72, 17, 0, 533), (2, 76, 16, 0, 537), (2, 83, 26, 0, 541), (2, 87, 29, 0, 546), (3, 3, 1000, 1, 222), (3, 17, 43, 1, 225), (3, 22, 44, 0, 350), (4, 3, 1000, 1, 245), (4, 15, 23, 2, 514), (4, 25, 1001, 2, 545), (4, 31, 42, 0, 521), (4, 41, 25, 2, 506), (4, 48, 24, 2, 511), (4, 52, 187, 2, 562), (4, 58, 34, 2, 645), (4, 62, 36, 2, 576), (5, 3, 1000, 1, 146), (5, 27, 41, 0, 525), (6, 3, 1000, 1, 99), (6, 34, 7, 1, 105), (6, 35, 39, 4, 143), (6, 39, 9, 0, 354), (6, 43, 1001, 2, 361), (6, 52, 40, 0, 362), (6, 62, 45, 0, 451), (6, 69, 8, 0, 377), (6, 73, 51, 0, 378), (6, 94, 52, 0, 435), (6, 107, 98, 5, 482), (6, 120, 58, 0, 588), (6, 124, 23, 2, 592), (6, 127, 12, 0, 593), (7, 3, 1000, 1, 296), (7, 25, 62, 0, 721), (7, 29, 66, 0, 725), (7, 32, 63, 2, 729), (7, 39, 64, 0, 732), (7, 43, 65, 0, 736), (8, 1, 1000, 1, 91), (8, 9, 43, 1, 96), (8, 18, 18, 1, 219), (8, 25, 13, 1, 236), (8, 32, 0, 4, 276), (8, 39, 22, 4, 290), (8, 46, 59, 4, 293), (8, 58, 19, 0, 346), (8, 62, 100, 0, 366), (8, 66, 92, 0, 382), (8, 70, 101, 0, 398), (8, 74, 102, 0, 411), (8, 77, 103, 0, 419), (8, 80, 104, 0, 427), (8, 83, 105, 0, 443), (8, 87, 106, 0, 462), (8, 90, 45, 0, 402), (8, 94, 93, 0, 390), (8, 97, 54, 0, 478), (8, 100, 46, 0, 466), (8, 103, 14, 0, 489), (8, 106, 95, 0, 550), (8, 112, 32, 0, 558), (8, 116, 35, 0, 572), (8, 119, 98, 2, 579), (8, 122, 57, 0, 584), (8, 126, 26, 0, 597), (8, 130, 30, 0, 598), (8, 134, 38, 0, 603), (8, 154, 107, 0, 623), (8, 163, 60, 0, 705), (8, 169, 61, 0, 717), (8, 175, 62, 0, 740), (8, 179, 108, 0, 741), (8, 182, 21, 0, 749), (8, 186, 94, 0, 757), (8, 196, 96, 0, 767), (8, 200, 97, 0, 771), (8, 204, 20, 0, 386), (8, 234, 99, 2, 370), (8, 238, 48, 0, 373), (8, 247, 51, 0, 406), (8, 256, 53, 0, 431), (8, 259, 47, 0, 447), (8, 263, 49, 0, 454), (8, 266, 50, 0, 470), (8, 270, 31, 0, 628), (8, 273, 1, 0, 632), (8, 277, 2, 0, 637), (8, 280, 4, 0, 674), (8, 283, 55, 0, 689), (8, 287, 37, 0, 693), (9, 1, 1000, 1, 780), (9, 48, 112, 0, 853), (9, 52, 114, 0, 884), (9, 59, 110, 2, 869), (9, 63, 121, 0, 872), (9, 67, 123, 0, 876), (9, 70, 118, 0, 896), (9, 74, 120, 0, 908), (9, 78, 128, 2, 936), (9, 81, 119, 0, 947), (9, 84, 113, 0, 861), (9, 87, 124, 0, 865), (9, 90, 115, 0, 880), (9, 93, 125, 0, 892), (9, 97, 126, 0, 904), (9, 100, 127, 0, 916), (9, 103, 135, 0, 924), (9, 106, 129, 0, 932), (9, 110, 130, 0, 943), (9, 113, 122, 0, 967), (9, 116, 139, 0, 991), (9, 119, 111, 2, 995), (9, 123, 140, 0, 987), (9, 126, 117, 0, 979), (9, 133, 145, 0, 1006), (9, 139, 142, 0, 1010), (9, 142, 143, 0, 975), (9, 145, 141, 0, 983), (9, 148, 144, 0, 998), (9, 151, 146, 0, 1002), (9, 157, 150, 0, 955), (9, 160, 147, 0, 971), (9, 163, 152, 0, 963), (9, 166, 148, 0, 1030), (9, 169, 156, 0, 1026), (9, 172, 149, 0, 1042), (9, 175, 158, 0, 1038), (9, 190, 164, 0, 1071), (9, 193, 165, 0, 1075), (9, 197, 163, 0, 1079), (9, 200, 167, 0, 1091), (9, 204, 166, 0, 1067), (9, 207, 168, 0, 1087), (9, 210, 169, 0, 1062), (9, 222, 174, 0, 1111), (9, 225, 175, 0, 1115), (9, 229, 176, 0, 1130), (9, 233, 178, 2, 1123), (9, 239, 177, 0, 1126), (9, 242, 179, 0, 1119), (9, 245, 180, 0, 1134), (9, 248, 182, 0, 1142), (9, 258, 184, 0, 1151), (9, 262, 154, 0, 1156), (9, 265, 162, 0, 1157), (12, 9, 67, 1, 88), (12, 12, 109, 1, 777), (12, 13, 68, 0, 342), (12, 17, 131, 0, 857), (12, 18, 69, 0, 394), (12, 22, 132, 0, 888), (12, 23, 70, 0, 407), (12, 26, 133, 0, 900), (12, 27, 71, 0, 415), (12, 30, 134, 0, 912), (12, 31, 72, 0, 423), (12, 34, 136, 0, 920), (12, 35, 73, 0, 439), (12, 39, 137, 0, 928), (12, 40, 74, 0, 458), (12, 44, 138, 0, 939), (12, 45, 75, 0, 474), (12, 48, 151, 0, 951), (12, 49, 76, 0, 485), (12, 52, 153, 0, 959), (12, 53, 77, 0, 554), (12, 57, 154, 0, 1014), (12, 58, 78, 0, 568), (12, 61, 155, 0, 1018), (12, 62, 79, 0, 580), (12, 65, 157, 0, 1022), (12, 66, 80, 0, 599), (12, 69, 159, 0, 1034), (12, 70, 81, 0, 607), (12, 73, 160, 0, 1046), (12, 74, 82, 0, 611), (12, 77, 161, 0, 1050), (12, 78, 83, 0, 615), (12, 81, 162, 0, 1054), (12, 82, 84, 0, 619), (12, 85, 170, 0, 1058), (12, 86, 85, 0, 697), (12, 89, 171, 0, 1095), (12, 90, 86, 0, 701), (12, 93, 172, 0, 1099), (12, 94, 87, 0, 709), (12, 97, 173, 0, 1103), (12, 98, 88, 0, 713), (12, 101, 181, 0, 1107), (12, 102, 89, 0, 745), (12, 105, 116, 0, 849), (12, 106, 90, 0, 753), (12, 109, 183, 0, 1138), (12, 110, 91, 0, 761), (12, 114, 185, 0, 1146)]
/-- owner, entry, class, place -/
def xCL : List (Nat × Nat × Nat × Nat) := [(0, 9, 4, 280), (2, 9, 4, 240), (3, 9, 6, 223), (6, 9, 1, 100), (6, 21, 5, 102), (8, 7, 6, 94), (8, 16, 3, 217), (8, 23, 2, 234), (8, 30, 0, 274), (8, 37, 4, 289), (8, 44, 7, 291), (12, 7, 8, 86), (12, 10, 9, 775)]
/-- owner, entry, value, place: ints, longs -/
def xKI : List (Nat × Nat × Int × Nat) := [(8, 269, 999999, 627), (9, 203, 999999, 1066), (10, 265, 1431655765, 686), (10, 266, 858993459, 687), (10, 267, 252645135, 688)]
def xKJ : List (Nat × Nat × Int × Nat) := [(0, 105, 1103515245, 659), (0, 107, 12345, 660), (0, 109, 2147483648, 661), (0, 111, 65536, 662), (4, 19, (-1), 497), (4, 21, 255, 509), (4, 23, 72340172838076673, 510), (8, 189, 2423, 765), (8, 191, 31, 766), (9, 182, 1103515245, 1083), (9, 184, 12345, 1084), (9, 186, 2147483648, 1085), (9, 188, 65536, 1086), (9, 251, 31, 1155), (9, 256, 2423, 1150), (11, 314, 6148914691236517205, 565), (11, 316, 3689348814741910323, 566), (11, 318, 1085102592571150095, 567)]
/-- of a method the places of its words: code, instance or static, selects; its parameters, whether it is static -/
def xMW : List (Nat × Nat × Nat × Nat × Bool) := [(278, 277, 0, 0, false),
  (635, 633, 634, 2, false),
  (640, 638, 639, 1, false),
  (668, 667, 15, 4, false),
  (677, 675, 676, 1, false),
  (681, 680, 16, 2, false),
  (658, 657, 14, 1, false),
  (107, 106, 0, 0, false),
  (112, 110, 111, 2, false),
  (357, 355, 356, 1, false),
  (501, 499, 500, 0, false),
  (651, 649, 650, 1, false),
  (596, 594, 595, 1, false),
  (238, 237, 0, 0, false),
  (492, 490, 491, 1, false),
  (532, 531, 9, 2, false),
  (540, 539, 11, 1, false),
  (536, 535, 10, 1, false),
  (221, 220, 0, 0, false),
  (349, 347, 348, 1, false),
  (389, 387, 388, 0, false),
  (752, 750, 751, 1, false),
  (244, 243, 0, 0, false),
  (516, 515, 0, 2, true),
  (513, 512, 0, 3, true),
  (508, 507, 0, 2, true),
  (544, 542, 543, 1, false),
  (496, 494, 495, 0, false),
  (520, 518, 519, 1, false),
  (549, 547, 548, 1, false),
  (505, 503, 504, 2, false),
  (631, 629, 630, 0, false),
  (561, 559, 560, 0, false),
  (644, 642, 643, 1, false),
  (647, 646, 0, 2, true),
  (575, 573, 574, 1, false),
  (578, 577, 0, 2, true),
  (696, 694, 695, 1, false),
  (606, 604, 605, 1, false),
  (145, 144, 0, 0, false),
  (365, 363, 364, 1, false),
  (528, 526, 527, 2, false),
  (524, 522, 523, 1, false),
  (98, 97, 0, 0, false),
  (353, 351, 352, 1, false),
  (405, 403, 404, 1, false),
  (469, 467, 468, 1, false),
  (450, 448, 449, 4, false),
  (376, 374, 375, 2, false),
  (457, 455, 456, 5, false),
  (473, 471, 472, 1, false),
  (381, 379, 380, 0, false),
  (438, 436, 437, 1, false),
  (434, 432, 433, 2, false),
  (481, 479, 480, 2, false),
  (692, 690, 691, 1, false),
  (672, 670, 671, 1, false),
  (587, 585, 586, 1, false),
  (591, 589, 590, 2, false),
  (295, 294, 0, 0, false),
  (708, 706, 707, 1, false),
  (720, 718, 719, 0, false),
  (724, 722, 723, 0, false),
  (731, 730, 0, 1, true),
  (735, 734, 18, 1, false),
  (739, 738, 19, 0, false),
  (728, 727, 17, 0, false),
  (90, 89, 0, 0, false),
  (345, 343, 344, 2, false),
  (397, 395, 396, 3, false),
  (410, 408, 409, 3, false),
  (418, 416, 417, 2, false),
  (426, 424, 425, 2, false),
  (442, 440, 441, 5, false),
  (461, 459, 460, 1, false),
  (477, 475, 476, 2, false),
  (488, 486, 487, 2, false),
  (557, 555, 556, 0, false),
  (571, 569, 570, 2, false),
  (583, 581, 582, 2, false),
  (602, 600, 601, 1, false),
  (610, 608, 609, 1, false),
  (614, 612, 613, 1, false),
  (618, 616, 617, 0, false),
  (622, 620, 621, 2, false),
  (700, 698, 699, 2, false),
  (704, 702, 703, 1, false),
  (712, 710, 711, 0, false),
  (716, 714, 715, 0, false),
  (748, 746, 747, 0, false),
  (756, 754, 755, 1, false),
  (764, 762, 763, 0, false),
  (385, 384, 1, 1, false),
  (393, 392, 2, 1, false),
  (760, 759, 21, 1, false),
  (553, 552, 12, 2, false),
  (770, 769, 22, 2, false),
  (774, 773, 23, 1, false),
  (484, 483, 0, 2, true),
  (372, 371, 0, 2, true),
  (369, 368, 0, 2, false),
  (401, 400, 3, 3, false),
  (414, 413, 4, 3, false),
  (422, 421, 5, 2, false),
  (430, 429, 6, 2, false),
  (446, 445, 7, 5, false),
  (465, 464, 8, 1, false),
  (626, 625, 13, 2, false),
  (744, 743, 20, 0, false),
  (779, 778, 0, 0, false),
  (871, 870, 0, 3, true),
  (997, 996, 0, 2, true),
  (856, 855, 24, 1, false),
  (864, 863, 25, 0, false),
  (887, 886, 30, 0, false),
  (883, 882, 29, 1, false),
  (852, 850, 851, 0, false),
  (982, 981, 45, 0, false),
  (899, 898, 32, 1, false),
  (950, 949, 39, 1, false),
  (911, 910, 34, 2, false),
  (875, 874, 27, 3, false),
  (970, 969, 42, 2, false),
  (879, 878, 28, 0, false),
  (868, 867, 26, 2, false),
  (895, 894, 31, 3, false),
  (907, 906, 33, 3, false),
  (919, 918, 35, 2, false),
  (938, 937, 0, 1, true),
  (935, 934, 37, 5, false),
  (946, 945, 38, 1, false),
  (860, 858, 859, 2, false),
  (891, 889, 890, 3, false),
  (903, 901, 902, 3, false),
  (915, 913, 914, 2, false),
  (927, 926, 36, 1, false),
  (923, 921, 922, 2, false),
  (931, 929, 930, 5, false),
  (942, 940, 941, 1, false),
  (994, 993, 48, 2, false),
  (990, 989, 47, 2, false),
  (986, 985, 46, 1, false),
  (1013, 1012, 52, 1, false),
  (978, 977, 44, 0, false),
  (1001, 1000, 49, 1, false),
  (1009, 1008, 51, 0, false),
  (1005, 1004, 50, 0, false),
  (974, 973, 43, 0, false),
  (1033, 1032, 54, 1, false),
  (1045, 1044, 56, 1, false),
  (958, 957, 40, 2, false),
  (954, 952, 953, 2, false),
  (966, 965, 41, 2, false),
  (962, 960, 961, 2, false),
  (1017, 1015, 1016, 0, false),
  (1021, 1019, 1020, 2, false),
  (1029, 1028, 53, 2, false),
  (1025, 1023, 1024, 2, false),
  (1041, 1040, 55, 1, false),
  (1037, 1035, 1036, 1, false),
  (1049, 1047, 1048, 1, false),
  (1053, 1051, 1052, 1, false),
  (1057, 1055, 1056, 0, false),
  (1082, 1081, 61, 1, false),
  (1074, 1073, 59, 1, false),
  (1078, 1077, 60, 2, false),
  (1070, 1069, 58, 0, false),
  (1094, 1093, 63, 2, false),
  (1090, 1089, 62, 0, false),
  (1065, 1064, 57, 2, false),
  (1061, 1059, 1060, 2, false),
  (1098, 1096, 1097, 2, false),
  (1102, 1100, 1101, 1, false),
  (1106, 1104, 1105, 0, false),
  (1114, 1113, 64, 0, false),
  (1118, 1117, 65, 1, false),
  (1133, 1132, 68, 0, false),
  (1129, 1128, 67, 0, false),
  (1125, 1124, 0, 1, true),
  (1122, 1121, 66, 0, false),
  (1137, 1136, 69, 1, false),
  (1110, 1108, 1109, 0, false),
  (1145, 1144, 70, 1, false),
  (1141, 1139, 1140, 1, false),
  (1154, 1153, 71, 1, false),
  (1149, 1147, 1148, 0, false),
  (685, 684, 0, 1, true),
  (564, 563, 0, 1, true),
  (0, 0, 0, 1, true)]
/-- of a class the places of its words: initialized, instantiable -/
def xCW : List (Nat × Nat) := [(80, 275), (75, 104), (78, 235), (77, 218), (79, 241), (76, 142), (74, 95), (81, 292), (73, 87), (82, 776), (85, 0), (84, 0), (72, 0)]
def xinfd (i : Nat) : MethodName × ByteArray × Nat × Option FieldType × Nat × Nat × Nat := xinf.getD i (objectInit, ⟨#[0xb1]⟩, 1, none, 0, 0, 0)
def xyn (i : Nat) : MethodName := (xinfd i).1
def xby (i : Nat) : ByteArray := (xinfd i).2.1
def xrt (i : Nat) : Option FieldType := (xinfd i).2.2.2.1
def xon (i : Nat) : Nat := (xinfd i).2.2.2.2.1
def xfm (i : Nat) : Nat := (xinfd i).2.2.2.2.2.1
def xlw (i : Nat) : Nat := (xinfd i).2.2.2.2.2.2
def xmw (i : Nat) : Nat × Nat × Nat × Nat × Bool := xMW.getD i (0, 0, 0, 0, false)
def xnp (i : Nat) : Nat := (xmw i).2.2.2.1
def xcl (c : Nat) : vw_C := vwCl.getD c ("", fun _ => ("", "", "", false), 0)
def xfd (n : Nat) : String × String × String × Bool := (xcl (n / 32)).2.1 (n % 32)
/-- the word at a place is this one, and a callee may take it over -/
def xat (p : Nat) (w : Jvm.Cond) : Bool := decide (lw_tbl[p]? = some w) && goodWord w
theorem xat_in {p : Nat} {w : Jvm.Cond} (h : xat p w = true) : w ∈ xT := by
  simp only [xat, Bool.and_eq_true, decide_eq_true_eq] at h
  exact List.mem_filter.mpr ⟨List.mem_of_getElem? h.1, h.2⟩
set_option maxRecDepth 100000 in
theorem xFL_ok : xFL.all (fun q => xat q.2.2.2 (.fieldLink (xcn q.1) q.2.1 (xfd q.2.2.1).1 (xfd q.2.2.1).2.1 (xfd q.2.2.1).2.2.1)) = true := by decide +kernel
set_option maxRecDepth 100000 in
theorem xFL_lt : xFL.all (fun q => decide (q.2.2.1 / 32 < 10) && decide (q.2.2.1 % 32 < (xcl (q.2.2.1 / 32)).2.2)) = true := by decide +kernel
/-- words of a nest -/
def xnw (p : Nat) (w : Jvm.Cond) : Bool := decide (lw_tbl[p]? = some w)
def xMLw (q : Nat × Nat × Nat × Nat × Nat) : Bool :=
  if q.2.2.1 = 1000 then xat q.2.2.2.2 (.methodLink (xcn q.1) q.2.1 objectInit)
  else if q.2.2.1 = 1001 then xat q.2.2.2.2 (.methodLink (xcn q.1) q.2.1 arraycopyName)
  else if q.2.2.2.1 < 3 then xat q.2.2.2.2 (.methodLink (xcn q.1) q.2.1 (xyn q.2.2.1))
  else xnw q.2.2.2.2 (.methodLinkNest (xcn q.1) q.2.1 (xyn q.2.2.1) "DrawnFields")
set_option maxRecDepth 100000 in
theorem xML_ok : xML.all xMLw = true := by decide +kernel
set_option maxRecDepth 100000 in
theorem xCL_ok : xCL.all (fun q => xat q.2.2.2 (.classLink (xcn q.1) q.2.1 (xcl q.2.2.1).1)) = true := by decide +kernel
set_option maxRecDepth 100000 in
theorem xKI_ok : xKI.all (fun q => xat q.2.2.2 (.constant (xcn q.1) q.2.1 (Int32.ofInt q.2.2.1))) = true := by decide +kernel
set_option maxRecDepth 100000 in
theorem xKJ_ok : xKJ.all (fun q => xat q.2.2.2 (.constantLong (xcn q.1) q.2.1 (Int64.ofInt q.2.2.1))) = true := by decide +kernel
/-- what stands of each method but the law -/
def xMWw (i : Nat) : Bool := (if (xmw i).2.2.2.2 then xat (xmw i).2.1 (.static (xyn i)) else xat (xmw i).2.1 (.instanceMethod (xyn i))) &&
  (((xmw i).2.2.2.2 || (xyn i).name == "<init>") || xat (xmw i).2.2.1 (.selects (xcn (xon i)) (xyn i) (xyn i))) && decide ((parseMethodDescriptor (xyn i).desc).map (fun d => d.parameters.length) = some (xnp i)) && decide (xcn (xon i) = (xyn i).cls) && plainName (xyn i).cls &&
  decide ((xyn i).cls ≠ "java/lang/invoke/MethodHandle") && decide ((xyn i).cls ≠ "java/lang/invoke/VarHandle") && decide (xon i < 12)
set_option maxRecDepth 100000 in
theorem xMW_ok : (List.range 188).all xMWw = true := by decide +kernel
def xcw (i : Nat) : Jvm.Cond := .code (xyn i) (xby i) (xmL i) (xrt i)
set_option maxRecDepth 100000 in
theorem xcode_c0 : (List.range' 0 24).map (fun i => lw_tbl[(xmw i).1]?) = (List.range' 0 24).map (fun i => some (xcw i)) := rfl
set_option maxRecDepth 100000 in
theorem xcode_c1 : (List.range' 24 24).map (fun i => lw_tbl[(xmw i).1]?) = (List.range' 24 24).map (fun i => some (xcw i)) := rfl
set_option maxRecDepth 100000 in
theorem xcode_c2 : (List.range' 48 24).map (fun i => lw_tbl[(xmw i).1]?) = (List.range' 48 24).map (fun i => some (xcw i)) := rfl
set_option maxRecDepth 100000 in
theorem xcode_c3 : (List.range' 72 24).map (fun i => lw_tbl[(xmw i).1]?) = (List.range' 72 24).map (fun i => some (xcw i)) := rfl
set_option maxRecDepth 100000 in
theorem xcode_c4 : (List.range' 96 24).map (fun i => lw_tbl[(xmw i).1]?) = (List.range' 96 24).map (fun i => some (xcw i)) := rfl
set_option maxRecDepth 100000 in
theorem xcode_c5 : (List.range' 120 24).map (fun i => lw_tbl[(xmw i).1]?) = (List.range' 120 24).map (fun i => some (xcw i)) := rfl
set_option maxRecDepth 100000 in
theorem xcode_c6 : (List.range' 144 24).map (fun i => lw_tbl[(xmw i).1]?) = (List.range' 144 24).map (fun i => some (xcw i)) := rfl
set_option maxRecDepth 100000 in
theorem xcode_c7 : (List.range' 168 20).map (fun i => lw_tbl[(xmw i).1]?) = (List.range' 168 20).map (fun i => some (xcw i)) := rfl
theorem xcode_in {i : Nat} (h : i < 188) : xcw i ∈ xT := by
  have key : lw_tbl[(xmw i).1]? = some (xcw i) := by
    by_cases h0 : i < 24
    · exact List.map_inj_left.mp xcode_c0 i (List.mem_range'_1.mpr ⟨by omega, by omega⟩)
    by_cases h1 : i < 48
    · exact List.map_inj_left.mp xcode_c1 i (List.mem_range'_1.mpr ⟨by omega, by omega⟩)
    by_cases h2 : i < 72
    · exact List.map_inj_left.mp xcode_c2 i (List.mem_range'_1.mpr ⟨by omega, by omega⟩)
    by_cases h3 : i < 96
    · exact List.map_inj_left.mp xcode_c3 i (List.mem_range'_1.mpr ⟨by omega, by omega⟩)
    by_cases h4 : i < 120
    · exact List.map_inj_left.mp xcode_c4 i (List.mem_range'_1.mpr ⟨by omega, by omega⟩)
    by_cases h5 : i < 144
    · exact List.map_inj_left.mp xcode_c5 i (List.mem_range'_1.mpr ⟨by omega, by omega⟩)
    by_cases h6 : i < 168
    · exact List.map_inj_left.mp xcode_c6 i (List.mem_range'_1.mpr ⟨by omega, by omega⟩)
    by_cases h7 : i < 188
    · exact List.map_inj_left.mp xcode_c7 i (List.mem_range'_1.mpr ⟨by omega, by omega⟩)
    omega
  exact List.mem_filter.mpr ⟨List.mem_of_getElem? key, rfl⟩
set_option maxRecDepth 100000 in
theorem xCW_ok : (List.range 13).all (fun c => xat (xCW.getD c (0, 0)).1 (.initialized (xcn c)) && (decide (10 ≤ c) || (xat (xCW.getD c (0, 0)).2 (.instantiable (xcn c) (xcl c).2.2) && decide (xcn c = (xcl c).1)))) = true := by decide +kernel
end
section
/-! ===== a block is what the bytes decode to ===== -/
def xsim (p : Instr) : Bool := match p with
  | .iaload => true
  | .baload => true
  | .laload => true
  | .aaload => true
  | .iastore => true
  | .bastore => true
  | .lastore => true
  | .aastore => true
  | .arraylength => true
  | .iadd => true
  | .isub => true
  | .imul => true
  | .idiv => true
  | .irem => true
  | .iand => true
  | .ior => true
  | .ixor => true
  | .ishl => true
  | .ishr => true
  | .iushr => true
  | .ladd => true
  | .lsub => true
  | .lmul => true
  | .ldiv => true
  | .lrem => true
  | .land => true
  | .lor => true
  | .lxor => true
  | .lshl => true
  | .lshr => true
  | .lushr => true
  | .lcmp => true
  | .i2l => true
  | .l2i => true
  | .dup => true
  | .dup2 => true
  | _ => false
def xhasF (o k n : Nat) : Bool := xFL.any (fun q => q.1 == o && (q.2.1 == k && q.2.2.1 == n))
def xhasM (o k j d : Nat) : Bool := xML.any (fun q => q.1 == o && (q.2.1 == k && (q.2.2.1 == j && q.2.2.2.1 == d)))
def xhasC (o k c : Nat) : Bool := xCL.any (fun q => q.1 == o && (q.2.1 == k && q.2.2.1 == c))
def xhasI (o k : Nat) (v : Int) : Bool := xKI.any (fun q => q.1 == o && (q.2.1 == k && q.2.2.1 == v))
def xhasJ (o k : Nat) (v : Int) : Bool := xKJ.any (fun q => q.1 == o && (q.2.1 == k && q.2.2.1 == v))
def xinit (i : Nat) : Bool := (xyn i).name == "<init>"
def xroom (i j : Nat) : Bool := decide (xfm j + 1 ≤ xfm i) && (decide (8 + (xmL j + 11) + xlw j ≤ xlw i) && decide (j < 188))
/-- an instruction that neither jumps nor calls -/
def xckp (i : Nat) (raw : Instr) (len : Nat) (p : Instr) : Bool := match p with
  | .iconst v => (match raw with
    | .iconst n => n == v && len == 1
    | .bipush n => n == v && (len == 2 && (Int8.ofInt n).toInt32 == Int32.ofInt n)
    | .sipush n => n == v && (len == 3 && (Int16.ofInt n).toInt32 == Int32.ofInt n)
    | .ldc k => len == 2 && xhasI (xon i) k v
    | .ldc_w k => len == 3 && xhasI (xon i) k v
    | _ => false)
  | .sipush v => (match raw with
    | .lconst n => len == 1 && Int64.ofNat n.val == Int64.ofInt v
    | .ldc2_w k => len == 3 && xhasJ (xon i) k v
    | _ => false)
  | .iload k => (match raw with
    | .iload_n n => n.val == k && len == 1
    | .iload n => n == k && len == 2
    | _ => false)
  | .lload k => (match raw with
    | .lload_n n => n.val == k && len == 1
    | .lload n => n == k && len == 2
    | _ => false)
  | .aload k => (match raw with
    | .aload_n n => n.val == k && len == 1
    | .aload n => n == k && len == 2
    | _ => false)
  | .istore k => (match raw with
    | .istore_n n => n.val == k && len == 1
    | .istore n => n == k && len == 2
    | _ => false)
  | .lstore k => (match raw with
    | .lstore_n n => n.val == k && len == 1
    | .lstore n => n == k && len == 2
    | _ => false)
  | .astore k => (match raw with
    | .astore_n n => n.val == k && len == 1
    | .astore n => n == k && len == 2
    | _ => false)
  | .iinc k v => (match raw with
    | .iinc n w => n == k && (w == v && len == 3)
    | _ => false)
  | .getfield n => (match raw with
    | .getfield k => len == 3 && xhasF (xon i) k n
    | _ => false)
  | .putfield n => (match raw with
    | .putfield k => len == 3 && (xhasF (xon i) k n && (!(xfd n).2.2.2 || (xinit i && (xfd n).1 == xcn (xon i))))
    | _ => false)
  | .getstatic n => (match raw with
    | .getstatic k => len == 3 && (n == 0 && (k == 66 && xcn (xon i) == "DrawnFields$State"))
    | _ => false)
  | .new c => (match raw with
    | .new k => len == 3 && (xhasC (xon i) k c && decide (c < 10))
    | _ => false)
  | .anewarray c => (match raw with
    | .anewarray k => len == 3 && (xhasC (xon i) k c && decide (c < 10))
    | _ => false)
  | .newarray t => (match raw with
    | .newarray u => len == 2 && decide (t = u)
    | _ => false)
  | .pop => (match raw with
    | .invokespecial k => len == 3 && (xhasM (xon i) k 1000 1 && (decide (1 ≤ xfm i) && decide (20 ≤ xlw i)))
    | _ => false)
  | .nop => (match raw with
    | .invokestatic k => len == 3 && (xhasM (xon i) k 1001 2 && (decide (1 ≤ xfm i) && decide (18 ≤ xlw i)))
    | _ => false)
  | p => len == 1 && (decide (raw = p) && xsim p)
def xpairs (pc : Nat) (lo : Int) : List Int → List (Int × Int)
  | [] => []
  | o :: r => (lo, (pc : Int) + o) :: xpairs pc (lo + 1) r
def xckc (i pc : Nat) (raw : Instr) (len : Nat) (c : Instr) : Bool := match c with
  | .goto t => (match raw with
    | .goto o => len == 3 && ((pc : Int) + o == t && decide (0 ≤ t))
    | _ => false)
  | .ifCond d t => (match raw with
    | .ifCond e o => len == 3 && (decide (d = e) && ((pc : Int) + o == t && decide (0 ≤ t)))
    | _ => false)
  | .if_icmp d t => (match raw with
    | .if_icmp e o => len == 3 && (decide (d = e) && ((pc : Int) + o == t && decide (0 ≤ t)))
    | _ => false)
  | .lookupswitch d ps => (match raw with
    | .tableswitch e lo hi offs => (pc : Int) + e == d && (decide (0 ≤ d) && (ps.toList == xpairs pc lo offs.toList && (hi == lo + offs.toList.length - 1 && ps.toList.all (fun q => decide (0 ≤ q.2)))))
    | _ => false)
  | .ireturn => (match raw with
    | .ireturn => len == 1 && decide (xrt i = some .int)
    | _ => false)
  | .areturn => (match raw with
    | .ireturn => len == 1 && decide (xrt i = some .boolean)
    | _ => false)
  | .lreturn => (match raw with
    | .lreturn => len == 1 && decide (xrt i = some .long)
    | _ => false)
  | .return_ => (match raw with
    | .return_ => len == 1 && decide (xrt i = none)
    | _ => false)
  | .invokeinterface j n => (match raw with
    | .invokevirtual k => len == 3 && (xhasM (xon i) k j 0 && (n == xnp j + 1 && (xroom i j && (!(xmw j).2.2.2.2 && (!xinit j && xvk.getD j 0 == xon j + 2)))))
    | .invokespecial k => len == 3 && ((xhasM (xon i) k j 1 || xhasM (xon i) k j 4) && (n == xnp j + 1 && (xroom i j && (!(xmw j).2.2.2.2 && (xinit j && xvk.getD j 0 == 1)))))
    | .invokestatic k => len == 3 && ((xhasM (xon i) k j 2 || xhasM (xon i) k j 5) && (n == xnp j && (xroom i j && (xmw j).2.2.2.2)))
    | _ => false)
  | _ => false
/-- whether the block goes on behind an instruction -/
def xend : xI → Bool
  | .inr (.ifCond _ _) => false
  | .inr (.if_icmp _ _) => false
  | .inr (.invokeinterface _ _) => false
  | .inr _ => true
  | .inl _ => false
def xckB (i : Nat) : Nat → List xI → Bool
  | _, [] => true
  | pc, .inr (.goto_w t) :: _ => t == (pc : Int)
  | pc, .inl p :: r => (match decode (xby i) pc with
    | .ok (raw, len) => xckp i raw len p && xckB i (pc + len) r
    | _ => false)
  | pc, .inr c :: r => (match decode (xby i) pc with
    | .ok (raw, len) => xckc i pc raw len c && (xend (.inr c) || xckB i (pc + len) r)
    | _ => false)
def xckM (i : Nat) : Bool := (xtab.getD i []).all (fun q => xckB i q.1 q.2)
end
section
/-! ===== every block of every method is what the bytes decode to (0) ===== -/
set_option maxRecDepth 100000 in
theorem xck_c0 : (List.range' 0 8).all xckM = true := by decide +kernel
set_option maxRecDepth 100000 in
theorem xck_c1 : (List.range' 8 8).all xckM = true := by decide +kernel
set_option maxRecDepth 100000 in
theorem xck_c2 : (List.range' 16 8).all xckM = true := by decide +kernel
set_option maxRecDepth 100000 in
theorem xck_c3 : (List.range' 24 8).all xckM = true := by decide +kernel
set_option maxRecDepth 100000 in
theorem xck_c4 : (List.range' 32 8).all xckM = true := by decide +kernel
set_option maxRecDepth 100000 in
theorem xck_c5 : (List.range' 40 8).all xckM = true := by decide +kernel
set_option maxRecDepth 100000 in
theorem xck_c6 : (List.range' 48 8).all xckM = true := by decide +kernel
set_option maxRecDepth 100000 in
theorem xck_c7 : (List.range' 56 8).all xckM = true := by decide +kernel
end
section
/-! ===== every block of every method is what the bytes decode to (1) ===== -/
set_option maxRecDepth 100000 in
theorem xck_c8 : (List.range' 64 8).all xckM = true := by decide +kernel
set_option maxRecDepth 100000 in
theorem xck_c9 : (List.range' 72 8).all xckM = true := by decide +kernel
set_option maxRecDepth 100000 in
theorem xck_c10 : (List.range' 80 8).all xckM = true := by decide +kernel
set_option maxRecDepth 100000 in
theorem xck_c11 : (List.range' 88 8).all xckM = true := by decide +kernel
set_option maxRecDepth 100000 in
theorem xck_c12 : (List.range' 96 8).all xckM = true := by decide +kernel
set_option maxRecDepth 100000 in
theorem xck_c13 : (List.range' 104 8).all xckM = true := by decide +kernel
set_option maxRecDepth 100000 in
theorem xck_c14 : (List.range' 112 8).all xckM = true := by decide +kernel
set_option maxRecDepth 100000 in
theorem xck_c15 : (List.range' 120 8).all xckM = true := by decide +kernel
end
section
/-! ===== every block of every method is what the bytes decode to (2) ===== -/
set_option maxRecDepth 100000 in
theorem xck_c16 : (List.range' 128 8).all xckM = true := by decide +kernel
set_option maxRecDepth 100000 in
theorem xck_c17 : (List.range' 136 8).all xckM = true := by decide +kernel
set_option maxRecDepth 100000 in
theorem xck_c18 : (List.range' 144 8).all xckM = true := by decide +kernel
set_option maxRecDepth 100000 in
theorem xck_c19 : (List.range' 152 8).all xckM = true := by decide +kernel
set_option maxRecDepth 100000 in
theorem xck_c20 : (List.range' 160 8).all xckM = true := by decide +kernel
set_option maxRecDepth 100000 in
theorem xck_c21 : (List.range' 168 8).all xckM = true := by decide +kernel
set_option maxRecDepth 100000 in
theorem xck_c22 : (List.range' 176 8).all xckM = true := by decide +kernel
set_option maxRecDepth 100000 in
theorem xck_c23 : (List.range' 184 4).all xckM = true := by decide +kernel
end
section
/-! ===== the law's blocks ===== -/
set_option maxRecDepth 100000 in
theorem xck_l0 : ((xm188.drop 0).take 6).all (fun q => xckB 188 q.1 q.2) = true := by decide +kernel
set_option maxRecDepth 100000 in
theorem xck_l1 : ((xm188.drop 6).take 6).all (fun q => xckB 188 q.1 q.2) = true := by decide +kernel
set_option maxRecDepth 100000 in
theorem xck_l2 : ((xm188.drop 12).take 6).all (fun q => xckB 188 q.1 q.2) = true := by decide +kernel
set_option maxRecDepth 100000 in
theorem xck_l3 : ((xm188.drop 18).take 6).all (fun q => xckB 188 q.1 q.2) = true := by decide +kernel
set_option maxRecDepth 100000 in
theorem xck_l4 : ((xm188.drop 24).take 4).all (fun q => xckB 188 q.1 q.2) = true := by decide +kernel
set_option maxRecDepth 100000 in
theorem xck_law : xckM 188 = true := by
  have e : xtab.getD 188 [] = (((((xm188.drop 0).take 6 ++ (xm188.drop 6).take 6) ++ (xm188.drop 12).take 6) ++ (xm188.drop 18).take 6) ++ (xm188.drop 24).take 4) := rfl
  rw [xckM, e]
  simp only [List.all_append, Bool.and_eq_true]
  exact ⟨⟨⟨⟨xck_l0, xck_l1⟩, xck_l2⟩, xck_l3⟩, xck_l4⟩
theorem xck_all (i : Nat) : xckM i = true := by
  by_cases h0 : i < 8
  · exact List.all_eq_true.mp xck_c0 i (List.mem_range'_1.mpr ⟨by omega, by omega⟩)
  by_cases h1 : i < 16
  · exact List.all_eq_true.mp xck_c1 i (List.mem_range'_1.mpr ⟨by omega, by omega⟩)
  by_cases h2 : i < 24
  · exact List.all_eq_true.mp xck_c2 i (List.mem_range'_1.mpr ⟨by omega, by omega⟩)
  by_cases h3 : i < 32
  · exact List.all_eq_true.mp xck_c3 i (List.mem_range'_1.mpr ⟨by omega, by omega⟩)
  by_cases h4 : i < 40
  · exact List.all_eq_true.mp xck_c4 i (List.mem_range'_1.mpr ⟨by omega, by omega⟩)
  by_cases h5 : i < 48
  · exact List.all_eq_true.mp xck_c5 i (List.mem_range'_1.mpr ⟨by omega, by omega⟩)
  by_cases h6 : i < 56
  · exact List.all_eq_true.mp xck_c6 i (List.mem_range'_1.mpr ⟨by omega, by omega⟩)
  by_cases h7 : i < 64
  · exact List.all_eq_true.mp xck_c7 i (List.mem_range'_1.mpr ⟨by omega, by omega⟩)
  by_cases h8 : i < 72
  · exact List.all_eq_true.mp xck_c8 i (List.mem_range'_1.mpr ⟨by omega, by omega⟩)
  by_cases h9 : i < 80
  · exact List.all_eq_true.mp xck_c9 i (List.mem_range'_1.mpr ⟨by omega, by omega⟩)
  by_cases h10 : i < 88
  · exact List.all_eq_true.mp xck_c10 i (List.mem_range'_1.mpr ⟨by omega, by omega⟩)
  by_cases h11 : i < 96
  · exact List.all_eq_true.mp xck_c11 i (List.mem_range'_1.mpr ⟨by omega, by omega⟩)
  by_cases h12 : i < 104
  · exact List.all_eq_true.mp xck_c12 i (List.mem_range'_1.mpr ⟨by omega, by omega⟩)
  by_cases h13 : i < 112
  · exact List.all_eq_true.mp xck_c13 i (List.mem_range'_1.mpr ⟨by omega, by omega⟩)
  by_cases h14 : i < 120
  · exact List.all_eq_true.mp xck_c14 i (List.mem_range'_1.mpr ⟨by omega, by omega⟩)
  by_cases h15 : i < 128
  · exact List.all_eq_true.mp xck_c15 i (List.mem_range'_1.mpr ⟨by omega, by omega⟩)
  by_cases h16 : i < 136
  · exact List.all_eq_true.mp xck_c16 i (List.mem_range'_1.mpr ⟨by omega, by omega⟩)
  by_cases h17 : i < 144
  · exact List.all_eq_true.mp xck_c17 i (List.mem_range'_1.mpr ⟨by omega, by omega⟩)
  by_cases h18 : i < 152
  · exact List.all_eq_true.mp xck_c18 i (List.mem_range'_1.mpr ⟨by omega, by omega⟩)
  by_cases h19 : i < 160
  · exact List.all_eq_true.mp xck_c19 i (List.mem_range'_1.mpr ⟨by omega, by omega⟩)
  by_cases h20 : i < 168
  · exact List.all_eq_true.mp xck_c20 i (List.mem_range'_1.mpr ⟨by omega, by omega⟩)
  by_cases h21 : i < 176
  · exact List.all_eq_true.mp xck_c21 i (List.mem_range'_1.mpr ⟨by omega, by omega⟩)
  by_cases h22 : i < 184
  · exact List.all_eq_true.mp xck_c22 i (List.mem_range'_1.mpr ⟨by omega, by omega⟩)
  by_cases h23 : i < 188
  · exact List.all_eq_true.mp xck_c23 i (List.mem_range'_1.mpr ⟨by omega, by omega⟩)
  by_cases hL : i = 188
  · rw [hL]; exact xck_law
  have hl : xtab.length = 189 := rfl
  have e : xtab.getD i [] = [] := by rw [List.getD_eq_getElem?_getD, List.getElem?_eq_none (by omega)]; rfl
  rw [xckM, e]
  rfl
theorem xblk_ok {i pc : Nat} {b : List xI} (h : xblk i pc = some b) : xckB i pc b = true := by
  have h2 := xck_all i
  unfold xckM at h2
  unfold xblk at h
  have key : ∀ (l : List (Nat × List xI)), l.lookup pc = some b → (pc, b) ∈ l := by
    intro l
    induction l with
    | nil => intro h; simp at h
    | cons q l ih =>
      intro h
      obtain ⟨a, c⟩ := q
      rw [List.lookup_cons] at h
      split at h
      · next e =>
        have e' : pc = a := eq_of_beq e
        cases h
        subst e'
        exact List.mem_cons_self
      · exact List.mem_cons_of_mem _ (ih h)
  exact List.all_eq_true.mp h2 _ (key _ h)
end
section
/-! ===== what the abstract state says of the machine's ===== -/
def xi (bs bS bM : Nat) : Nat → Nat
  | 0 => bS
  | 1 => bM
  | k + 2 => bs + k
def xv (ι : Nat → Nat) : Value → Value
  | .ref k => .ref (ι k)
  | v => v
def xar (ι : Nat → Nat) (a : vp_A) : vp_A := match a with
  | (n, .inl f) => (n, .inl f)
  | (n, .inr (.inl f)) => (n, .inr (.inl f))
  | (n, .inr (.inr (.inl f))) => (n, .inr (.inr (.inl f)))
  | (n, .inr (.inr (.inr (.inl f)))) => (n, .inr (.inr (.inr (.inl f))))
  | (n, .inr (.inr (.inr (.inr f)))) => (n, .inr (.inr (.inr (.inr (fun j => (f j).map ι)))))
def xce (ι : Nat → Nat) (cA : Nat → ClassId) (c : xC) : va_E := match c with
  | .inl (t, a) => .inl (cA t, xar ι a)
  | .inr (k, fs) => .inr (k, fs.map (xv ι))
def xw (bs : Nat) (ι : Nat → Nat) (cA : Nat → ClassId) (h : xH) : va_W := (h.drop 2).mapIdx (fun k c => (bs + k, xce ι cA c))
theorem xw_get {bs : Nat} {ι : Nat → Nat} {cA : Nat → ClassId} {h : xH} {a : Nat} {c : xC} (ha : 2 ≤ a) (hc : h[a]? = some c) : (xw bs ι cA h)[a - 2]? = some (bs + (a - 2), xce ι cA c) := by
  unfold xw
  rw [List.getElem?_mapIdx, List.getElem?_drop, show 2 + (a - 2) = a by omega, hc]
  rfl
theorem xw_set {bs : Nat} {ι : Nat → Nat} {cA : Nat → ClassId} {h : xH} {a : Nat} {c : xC} (ha : 2 ≤ a) : (xw bs ι cA h).set (a - 2) (bs + (a - 2), xce ι cA c) = xw bs ι cA (h.set a c) := by
  unfold xw
  apply List.ext_getElem?
  intro k
  rw [List.getElem?_set, List.getElem?_mapIdx, List.getElem?_mapIdx, List.getElem?_drop, List.getElem?_drop, List.getElem?_set, List.length_mapIdx, List.length_drop]
  by_cases e : a - 2 = k
  · subst e
    rw [if_pos rfl, if_pos (show a = 2 + (a - 2) by omega)]
    by_cases l : a < h.length
    · rw [if_pos (by omega), if_pos (by omega)]
      rfl
    · rw [if_neg (by omega), if_neg (by omega)]
      rfl
  · rw [if_neg e, if_neg (by omega)]
theorem xw_push {bs : Nat} {ι : Nat → Nat} {cA : Nat → ClassId} {h : xH} {c : xC} (h2 : 2 ≤ h.length) : xw bs ι cA (h ++ [c]) = xw bs ι cA h ++ [(bs + (h.length - 2), xce ι cA c)] := by
  unfold xw
  rw [List.drop_append_of_le_length h2, List.mapIdx_concat, List.length_drop]
theorem xw_len {bs : Nat} {ι : Nat → Nat} {cA : Nat → ClassId} {h : xH} : (xw bs ι cA h).length = h.length - 2 := by
  simp [xw]
theorem xw_D {bs : Nat} {ι : Nat → Nat} {cA : Nat → ClassId} {h : xH} : va_D (fun q => bs ≤ q) (xw bs ι cA h) := by
  unfold xw
  refine ⟨fun i j p q hi hj e => ?_, fun k q hk => ?_⟩
  · rw [List.getElem?_mapIdx] at hi hj
    obtain ⟨x, -, rfl⟩ := Option.map_eq_some_iff.mp hi
    obtain ⟨y, -, rfl⟩ := Option.map_eq_some_iff.mp hj
    simp only at e
    omega
  · rw [List.getElem?_mapIdx] at hk
    obtain ⟨x, -, rfl⟩ := Option.map_eq_some_iff.mp hk
    exact Nat.le_add_right _ _
/-- the tags of arrays that are there -/
def xkt (t : Nat) : Bool := t == 0 || (t == 1 || (t == 2 || xra t))
def xKT (cA : Nat → ClassId) (U : State) (t : Nat) : Prop := ArrOfT U (cA t) (xty t) ∧ va_RA U (cA t) (xty t)
def xNW : List Jvm.Cond := lw_tbl.filter (fun w => match w with
  | .methodLinkNest _ _ _ _ => true
  | .fieldLinkNest _ _ _ _ _ _ => true
  | _ => false)
def xmost6 : Nat → Int32 := fun k => match k with
  | 0 => 14
  | 3 => 255
  | 4 => 63
  | 5 => 7
  | _ => 0
/-- what stands at a state of the machine beside the world: classes, array classes, words of the nest, the static array, the script -/
def xG (bs bS bM Ls : Nat) (xs : Nat → Int32) (cA : Nat → ClassId) (Dg : va_G) (U : State) (H : Heap) : Prop :=
  va_K Dg vwCl [] U ∧ (∀ t, xkt t = true → xKT cA U t) ∧ (∀ w ∈ xNW, va_Nw w U) ∧ (∀ t, xra t = true → va_AO (xcl (t - 10)).1 U) ∧
  va_Z "DrawnFields" "MOST_C" "[I" (.ref bM) (fun q => bs ≤ q) U H ∧ va_T .int bM 6 (fun j => .int (xmost6 j)) (fun q => bs ≤ q) U H ∧ va_X bS Ls xs U H ∧ bS < bs ∧ bs ≤ H.size
theorem xG.warm {bs bS bM Ls : Nat} {xs : Nat → Int32} {cA : Nat → ClassId} {Dg : va_G} {s U : State} {H H1 : Heap} (h : xG bs bS bM Ls xs cA Dg s H) (hW : s.WarmedH U.vm) (hs : H.size ≤ H1.size) (hq : ∀ q : Nat, q < H.size → ¬ bs ≤ q → H1[q]? = H[q]?) : xG bs bS bM Ls xs cA Dg U H1 := by
  obtain ⟨h1, h2, h3, h3a, h4, h5, h6, h7, h8⟩ := h
  refine ⟨va_K.moved hW.alike h1, fun t ht => ⟨arrOfT_moved hW.alike (h2 t ht).1, (h2 t ht).2.moved hW.alike⟩, fun w hw => ?_, fun t ht => (h3a t ht).moved hW.alike, (va_Z.moved hW.alike h4).kept hq, (va_T.moved hW.alike h5).kept hq, (va_X.moved hW.alike h6).kept (hq _ (by omega) (by omega)), h7, by omega⟩
  have hk := (List.mem_filter.mp hw).2
  have h9 := h3 w hw
  cases w with
  | methodLinkNest a b c d => exact va_Nw.warmM hW h9
  | fieldLinkNest a b c d e f => exact va_Nw.warmF hW h9
  | _ => simp at hk
theorem xG.calling {bs bS bM Ls : Nat} {xs : Nat → Int32} {cA : Nat → ClassId} {Dg : va_G} {U : State} {H : Heap} (h : xG bs bS bM Ls xs cA Dg U H) (g : JFrame) (mk : MethodId) (a : Array Value) : xG bs bS bM Ls xs cA Dg (U.calling g mk a) H := by
  obtain ⟨h1, h2, h3, h3a, h4, h5, h6, h7, h8⟩ := h
  have hal : U.vm.Alike (U.calling g mk a).vm := Vm.Alike.refl U.vm
  refine ⟨va_K.moved hal h1, fun t ht => ⟨arrOfT_moved hal (h2 t ht).1, (h2 t ht).2.moved hal⟩, fun w hw => ?_, fun t ht => (h3a t ht).moved hal, va_Z.moved hal h4, va_T.moved hal h5, va_X.moved hal h6, h7, h8⟩
  have hk := (List.mem_filter.mp hw).2
  refine va_Nw.same ?_ (U := U.calling g mk a) (u := U) rfl (h3 w hw)
  cases w with
  | methodLinkNest a b c d => rfl
  | fieldLinkNest a b c d e f => rfl
  | _ => simp at hk
/-- the heap holds the abstract one -/
def xRel (bs bS bM Ls : Nat) (xs : Nat → Int32) (cA : Nat → ClassId) (Dg : va_G) (h : xH) (H : Heap) : Prop :=
  va_P Dg vwCl (xw bs (xi bs bS bM) cA h) H ∧ h[0]? = some (.inl (0, Ls, .inl xs)) ∧ h[1]? = some (.inl (0, 6, .inl xmost6))
theorem xRel.two {bs bS bM Ls : Nat} {xs : Nat → Int32} {cA : Nat → ClassId} {Dg : va_G} {h : xH} {H : Heap} (r : xRel bs bS bM Ls xs cA Dg h H) : 2 ≤ h.length := by
  have := (List.getElem?_eq_some_iff.mp r.2.2).1
  omega
/-- slots that the cells have -/
def xsl (c : xC) : Nat := match c with
  | .inl (_, n, _) => n
  | .inr (_, fs) => fs.length
def xslo (h : xH) : Nat := (h.map xsl).sum
theorem xslo_set {h : xH} {a : Nat} {c c' : xC} (hc : h[a]? = some c) (e : xsl c' = xsl c) : xslo (h.set a c') = xslo h := by
  unfold xslo
  congr 1
  rw [List.map_set]
  apply List.ext_getElem?
  intro k
  rw [List.getElem?_set]
  by_cases hk : a = k
  · subst hk
    have hl := (List.getElem?_eq_some_iff.mp hc).1
    rw [if_pos rfl, List.length_map, if_pos hl, List.getElem?_map, hc, e]
    rfl
  · rw [if_neg hk]
theorem xslo_push {h : xH} {c : xC} : xslo (h ++ [c]) = xslo h + xsl c := by
  simp [xslo]
/-- locals -/
def xLs (ι : Nat → Nat) (ls : Array Slot) (nL : Nat) (L : xL) : Prop := ls.size = nL ∧ L.length = nL ∧ lv_wf ls ∧ ∀ (j : Nat) (v : Value), xld L j = some v → ls[j]? = some (.val (xv ι v))
def xprs (ι : Nat → Nat) : Nat → xL → List (Nat × Value)
  | _, [] => []
  | k, none :: t => xprs ι (k + 1) t
  | k, some v :: t => (k, xv ι v) :: xprs ι (k + 1) t
theorem xprs_mem {ι : Nat → Nat} : ∀ (L : xL) (k j : Nat) (w : Value), (j, w) ∈ xprs ι k L ↔ ∃ (d : Nat) (v : Value), j = k + d ∧ w = xv ι v ∧ xld L d = some v
  | [], k, j, w => by simp [xprs, xld]
  | none :: t, k, j, w => by
    rw [xprs, xprs_mem t (k + 1) j w]
    constructor
    · rintro ⟨d, v, h1, h2, h3⟩
      exact ⟨d + 1, v, by omega, h2, h3⟩
    · rintro ⟨d, v, h1, h2, h3⟩
      cases d with
      | zero => simp [xld] at h3
      | succ d => exact ⟨d, v, by omega, h2, h3⟩
  | some x :: t, k, j, w => by
    rw [xprs, List.mem_cons, xprs_mem t (k + 1) j w]
    constructor
    · rintro (e | ⟨d, v, h1, h2, h3⟩)
      · cases e
        exact ⟨0, x, rfl, rfl, rfl⟩
      · exact ⟨d + 1, v, by omega, h2, h3⟩
    · rintro ⟨d, v, h1, h2, h3⟩
      cases d with
      | zero =>
        simp [xld] at h3
        subst h3
        subst h1
        subst h2
        exact Or.inl rfl
      | succ d => exact Or.inr ⟨d, v, by omega, h2, h3⟩
theorem xLs.has {ι : Nat → Nat} {ls : Array Slot} {nL : Nat} {L : xL} (h : xLs ι ls nL L) : lv_has ls nL (xprs ι 0 L) := by
  refine ⟨h.1, h.2.2.1, fun q hq => ?_⟩
  obtain ⟨j, w⟩ := q
  obtain ⟨d, v, h1, h2, h3⟩ := (xprs_mem L 0 j w).mp hq
  have : j = d := by omega
  subst this
  subst h2
  exact h.2.2.2 j v h3
theorem xv_cat (ι : Nat → Nat) (v : Value) : (xv ι v).category = v.category := by cases v <;> rfl
theorem xis2_iff (v : Value) : xis2 (some v) = true ↔ v.category = 2 := by cases v <;> simp [xis2, Value.category]
theorem xst1_spec : ∀ (L L' : xL) (i : Nat) (v : Value), xst1 L i v = some L' → i < L.length ∧ L'.length = L.length ∧ ∀ (j : Nat) (w : Value), xld L' j = some w → (j = i ∧ w = v) ∨ (j ≠ i ∧ xld L j = some w ∧ ¬ (j + 1 = i ∧ w.category = 2))
  | [], L', i, v, h => by cases i <;> simp [xst1] at h
  | a :: t, L', 0, v, h => by
    simp [xst1] at h
    subst h
    refine ⟨by simp, by simp, fun j w hw => ?_⟩
    cases j with
    | zero => simp [xld] at hw; exact Or.inl ⟨rfl, hw.symm⟩
    | succ j => exact Or.inr ⟨by omega, hw, by omega⟩
  | a :: t, L', 1, v, h => by
    rw [xst1] at h
    obtain ⟨t', h1, h2⟩ := Option.map_eq_some_iff.mp h
    obtain ⟨g1, g2, g3⟩ := xst1_spec t t' 0 v h1
    subst h2
    refine ⟨by simp; omega, by simp [g2], fun j w hw => ?_⟩
    cases j with
    | zero =>
      simp only [xld] at hw
      split at hw
      · cases hw
      · next hn =>
        refine Or.inr ⟨by omega, hw, fun hc => ?_⟩
        rw [hw] at hn
        exact hn ((xis2_iff w).mpr hc.2)
    | succ j =>
      rcases g3 j w hw with ⟨e1, e2⟩ | ⟨e1, e2, e3⟩
      · exact Or.inl ⟨by omega, e2⟩
      · exact Or.inr ⟨by omega, e2, by omega⟩
  | a :: t, L', n + 2, v, h => by
    rw [xst1] at h
    obtain ⟨t', h1, h2⟩ := Option.map_eq_some_iff.mp h
    obtain ⟨g1, g2, g3⟩ := xst1_spec t t' (n + 1) v h1
    subst h2
    refine ⟨by simp; omega, by simp [g2], fun j w hw => ?_⟩
    cases j with
    | zero => exact Or.inr ⟨by omega, hw, by omega⟩
    | succ j =>
      rcases g3 j w hw with ⟨e1, e2⟩ | ⟨e1, e2, e3⟩
      · exact Or.inl ⟨by omega, e2⟩
      · exact Or.inr ⟨by omega, e2, fun hc => e3 ⟨by omega, hc.2⟩⟩
theorem xst2_spec : ∀ (L L' : xL) (i : Nat) (v : Value), xst2 L i v = some L' → i + 1 < L.length ∧ L'.length = L.length ∧ ∀ (j : Nat) (w : Value), xld L' j = some w → (j = i ∧ w = v) ∨ (j ≠ i ∧ j ≠ i + 1 ∧ xld L j = some w ∧ ¬ (j + 1 = i ∧ w.category = 2))
  | [], L', i, v, h => by cases i <;> simp [xst2] at h
  | a :: [], L', 0, v, h => by simp [xst2] at h
  | a :: b :: t, L', 0, v, h => by
    simp [xst2] at h
    subst h
    refine ⟨by simp, by simp, fun j w hw => ?_⟩
    cases j with
    | zero => simp [xld] at hw; exact Or.inl ⟨rfl, hw.symm⟩
    | succ j =>
      cases j with
      | zero => simp [xld] at hw
      | succ j => exact Or.inr ⟨by omega, by omega, hw, by omega⟩
  | a :: t, L', 1, v, h => by
    rw [xst2] at h
    obtain ⟨t', h1, h2⟩ := Option.map_eq_some_iff.mp h
    obtain ⟨g1, g2, g3⟩ := xst2_spec t t' 0 v h1
    subst h2
    refine ⟨by simp; omega, by simp [g2], fun j w hw => ?_⟩
    cases j with
    | zero =>
      simp only [xld] at hw
      split at hw
      · cases hw
      · next hn =>
        refine Or.inr ⟨by omega, by omega, hw, fun hc => ?_⟩
        rw [hw] at hn
        exact hn ((xis2_iff w).mpr hc.2)
    | succ j =>
      rcases g3 j w hw with ⟨e1, e2⟩ | ⟨e1, e0, e2, e3⟩
      · exact Or.inl ⟨by omega, e2⟩
      · exact Or.inr ⟨by omega, by omega, e2, by omega⟩
  | a :: t, L', n + 2, v, h => by
    rw [xst2] at h
    obtain ⟨t', h1, h2⟩ := Option.map_eq_some_iff.mp h
    obtain ⟨g1, g2, g3⟩ := xst2_spec t t' (n + 1) v h1
    subst h2
    refine ⟨by simp; omega, by simp [g2], fun j w hw => ?_⟩
    cases j with
    | zero => exact Or.inr ⟨by omega, by omega, hw, by omega⟩
    | succ j =>
      rcases g3 j w hw with ⟨e1, e2⟩ | ⟨e1, e0, e2, e3⟩
      · exact Or.inl ⟨by omega, e2⟩
      · exact Or.inr ⟨by omega, by omega, e2, fun hc => e3 ⟨by omega, hc.2⟩⟩
theorem xLs.st1 {ι : Nat → Nat} {ls ls' : Array Slot} {nL i : Nat} {L L' : xL} {v : Value} (h : xLs ι ls nL L) (e : xst1 L i v = some L') (h' : lv_has ls' nL ((i, xv ι v) :: (xprs ι 0 L).filter (fun q => !(q.1 == i) && !(q.1 + 1 == i && q.2.category == 2)))) : xLs ι ls' nL L' := by
  obtain ⟨g1, g2, g3⟩ := xst1_spec L L' i v e
  refine ⟨h'.1, g2.trans h.2.1, h'.2.1, fun j w hw => ?_⟩
  rcases g3 j w hw with ⟨e1, e2⟩ | ⟨e1, e2, e3⟩
  · subst e1
    subst e2
    exact h'.2.2 (j, xv ι w) List.mem_cons_self
  · refine h'.2.2 (j, xv ι w) (List.mem_cons_of_mem _ (List.mem_filter.mpr ⟨(xprs_mem L 0 j _).mpr ⟨j, w, by omega, rfl, e2⟩, ?_⟩))
    simp only [xv_cat, Bool.and_eq_true, Bool.not_eq_true', beq_eq_false_iff_ne, ne_eq, Bool.and_eq_false_iff]
    refine ⟨e1, ?_⟩
    by_cases q : j + 1 = i
    · exact Or.inr (fun c => e3 ⟨q, c⟩)
    · exact Or.inl q
theorem xLs.st2 {ι : Nat → Nat} {ls ls' : Array Slot} {nL i : Nat} {L L' : xL} {v : Value} (h : xLs ι ls nL L) (e : xst2 L i v = some L') (h' : lv_has ls' nL ((i, xv ι v) :: (xprs ι 0 L).filter (fun q => !(q.1 == i) && (!(q.1 == i + 1) && !(q.1 + 1 == i && q.2.category == 2))))) : xLs ι ls' nL L' := by
  obtain ⟨g1, g2, g3⟩ := xst2_spec L L' i v e
  refine ⟨h'.1, g2.trans h.2.1, h'.2.1, fun j w hw => ?_⟩
  rcases g3 j w hw with ⟨e1, e2⟩ | ⟨e1, e0, e2, e3⟩
  · subst e1
    subst e2
    exact h'.2.2 (j, xv ι w) List.mem_cons_self
  · refine h'.2.2 (j, xv ι w) (List.mem_cons_of_mem _ (List.mem_filter.mpr ⟨(xprs_mem L 0 j _).mpr ⟨j, w, by omega, rfl, e2⟩, ?_⟩))
    simp only [xv_cat, Bool.and_eq_true, Bool.not_eq_true', beq_eq_false_iff_ne, ne_eq, Bool.and_eq_false_iff]
    refine ⟨e1, e0, ?_⟩
    by_cases q : j + 1 = i
    · exact Or.inr (fun c => e3 ⟨q, c⟩)
    · exact Or.inl q
end
section
/-! ===== one instruction of the abstract machine is one of the machine: what neither jumps nor calls ===== -/
/-- an activation of method i, begun at the abstract heap h0 -/
def xAct (bs bS bM Ls : Nat) (xs : Nat → Int32) (cA : Nat → ClassId) (Dg : va_G) (i : Nat) (h0 : xH) (p : Program) (R : Room) (s : State) (m : MethodId) (args : Array Value) (meth : Method) (c : Code) : Prop :=
  p.tables.exec = Jvm.exec ∧ c.code = xby i ∧ c.maxLocals = xmL i ∧ s.vm.findClass (xcn (xon i)) = some m.cls ∧ (∀ w ∈ xT, w.before args s = true) ∧ xG bs bS bM Ls xs cA Dg s s.heap ∧ (s.heap.size ≤ bs + (h0.length - 2) ∧ 2 ≤ h0.length) ∧ xfm i ≤ R.frames ∧ xlw i ≤ R.locals ∧ (xinit i = true → meth.name = "<init>")
/-- the machine stands where the abstract one does -/
def xOn (bs bS bM Ls : Nat) (xs : Nat → Int32) (cA : Nat → ClassId) (Dg : va_G) (i : Nat) (h0 : xH) (s : State) (L : xL) (h : xH) (ls : Array Slot) (H : Heap) (locs : List Loc) (cells slots : Nat) : Prop :=
  xRel bs bS bM Ls xs cA Dg h H ∧ va_S (fun q => bs ≤ q) s.heap H locs ∧ xLs (xi bs bS bM) ls (xmL i) L ∧ cells + h0.length = h.length ∧ slots + xslo h0 = xslo h
/-- what is owed of an instruction -/
def xOK (ins : Instr) : Prop := ∀ {p : Program} {l : Launch} {e : Env} {R : Room} {s : State} {m : MethodId} {args : Array Value} {below : List Frame} {meth : Method} {c : Code} {Q : State → Prop} {bs bS bM Ls : Nat} {xs : Nat → Int32} {cA : Nat → ClassId} {Dg : va_G} {i : Nat} {h0 : xH},
  xAct bs bS bM Ls xs cA Dg i h0 p R s m args meth c → ∀ {raw : Instr} {len pc : Nat} {L L' : xL} {st st' : xS} {h h' : xH}, decode (xby i) pc = .ok (raw, len) → xckp i raw len ins = true → xP ins L st h = some (L', st', h') → h'.length ≤ h0.length + R.cells → xslo h' ≤ xslo h0 + R.slots →
  ∀ {ls : Array Slot} {H : Heap} {locs : List Loc} {cells slots : Nat}, xOn bs bS bM Ls xs cA Dg i h0 s L h ls H locs cells slots →
  (∀ (ls' : Array Slot) (H' : Heap) (locs' : List Loc) (cells' slots' : Nat), xOn bs bS bM Ls xs cA Dg i h0 s L' h' ls' H' locs' cells' slots' → W p l e R s m args below meth c H' locs' cells' slots' Q (F0 m (pc + len) ls' (st'.map (xv (xi bs bS bM))))) →
  W p l e R s m args below meth c H locs cells slots Q (F0 m pc ls (st.map (xv (xi bs bS bM))))
theorem xsimple {i len : Nat} {raw ins : Instr} (hk : xckp i raw len ins = true) (hdef : xckp i raw len ins = (len == 1 && (decide (raw = ins) && xsim ins))) : len = 1 ∧ raw = ins := by
  rw [hdef] at hk
  simp only [Bool.and_eq_true, beq_iff_eq, decide_eq_true_eq] at hk
  exact ⟨hk.1, hk.2.1⟩
theorem xii_inv {f : Int32 → Int32 → Int32} {st st' : xS} (h : xii f st = some st') : ∃ a b r, st = .int b :: .int a :: r ∧ st' = .int (f a b) :: r := by
  unfold xii at h
  split at h
  · cases h; exact ⟨_, _, _, rfl, rfl⟩
  · cases h
theorem xid_inv {f : Int32 → Int32 → Int32} {st st' : xS} (h : xid f st = some st') : ∃ a b r, st = .int b :: .int a :: r ∧ st' = .int (f a b) :: r ∧ ¬ b = 0 := by
  unfold xid at h
  split at h
  · split at h
    · cases h
    · next hb => cases h; exact ⟨_, _, _, rfl, rfl, hb⟩
  · cases h
theorem xll_inv {f : Int64 → Int64 → Int64} {st st' : xS} (h : xll f st = some st') : ∃ a b r, st = .long b :: .long a :: r ∧ st' = .long (f a b) :: r := by
  unfold xll at h
  split at h
  · cases h; exact ⟨_, _, _, rfl, rfl⟩
  · cases h
theorem xlv_inv {f : Int64 → Int64 → Int64} {st st' : xS} (h : xlv f st = some st') : ∃ a b r, st = .long b :: .long a :: r ∧ st' = .long (f a b) :: r ∧ ¬ b = 0 := by
  unfold xlv at h
  split at h
  · split at h
    · cases h
    · next hb => cases h; exact ⟨_, _, _, rfl, rfl, hb⟩
  · cases h
theorem xls_inv {f : Int64 → Int32 → Int64} {st st' : xS} (h : xls f st = some st') : ∃ a b r, st = .int b :: .long a :: r ∧ st' = .long (f a b) :: r := by
  unfold xls at h
  split at h
  · cases h; exact ⟨_, _, _, rfl, rfl⟩
  · cases h
theorem xlc_inv {st st' : xS} (h : xlc st = some st') : ∃ a b r, st = .long b :: .long a :: r ∧ st' = .int (lg_cmp a b) :: r := by
  unfold xlc at h
  split at h
  · cases h; exact ⟨_, _, _, rfl, rfl⟩
  · cases h
theorem xil_inv {f : Int32 → Int64} {st st' : xS} (h : xil f st = some st') : ∃ a r, st = .int a :: r ∧ st' = .long (f a) :: r := by
  unfold xil at h
  split at h
  · cases h; exact ⟨_, _, rfl, rfl⟩
  · cases h
theorem xli_inv {f : Int64 → Int32} {st st' : xS} (h : xli f st = some st') : ∃ a r, st = .long a :: r ∧ st' = .int (f a) :: r := by
  unfold xli at h
  split at h
  · cases h; exact ⟨_, _, rfl, rfl⟩
  · cases h
theorem xrd_inv {f : Nat → Int32 → Option Value} {st st' : xS} (h : xrd f st = some st') : ∃ i a r v, st = .int i :: .ref a :: r ∧ st' = v :: r ∧ f a i = some v := by
  unfold xrd at h
  split at h
  · obtain ⟨v, h1, h2⟩ := Option.map_eq_some_iff.mp h
    exact ⟨_, _, _, v, rfl, h2.symm, h1⟩
  · cases h
theorem xin_in {i : Int32} {n : Nat} (h : xin i n = true) : vp_in i n := by
  simp only [xin, Bool.and_eq_true, decide_eq_true_eq] at h
  rintro (q | q)
  · exact absurd q (Int32.not_lt.mpr h.1)
  · omega

theorem x_iadd : xOK .iadd := by
  intro p l e R s m args below meth c Q bs bS bM Ls xs cA Dg i h0 a raw len pc L L' st st' h h' hd hk hp hc hs ls H locs cells slots o k
  obtain ⟨hx, hb, hml, hown, hts, hG, hsz, hfr, hlo, hini⟩ := a
  simp only [xP] at hp
  obtain ⟨st2, h1, h2⟩ := Option.map_eq_some_iff.mp hp
  cases h2
  obtain ⟨rfl, rfl⟩ := xsimple hk rfl
  obtain ⟨x, y, r, rfl, rfl⟩ := xii_inv h1
  exact lv_iadd hx hb hd (k _ _ _ _ _ o)

theorem x_isub : xOK .isub := by
  intro p l e R s m args below meth c Q bs bS bM Ls xs cA Dg i h0 a raw len pc L L' st st' h h' hd hk hp hc hs ls H locs cells slots o k
  obtain ⟨hx, hb, hml, hown, hts, hG, hsz, hfr, hlo, hini⟩ := a
  simp only [xP] at hp
  obtain ⟨st2, h1, h2⟩ := Option.map_eq_some_iff.mp hp
  cases h2
  obtain ⟨rfl, rfl⟩ := xsimple hk rfl
  obtain ⟨x, y, r, rfl, rfl⟩ := xii_inv h1
  exact lv_isub hx hb hd (k _ _ _ _ _ o)

theorem x_imul : xOK .imul := by
  intro p l e R s m args below meth c Q bs bS bM Ls xs cA Dg i h0 a raw len pc L L' st st' h h' hd hk hp hc hs ls H locs cells slots o k
  obtain ⟨hx, hb, hml, hown, hts, hG, hsz, hfr, hlo, hini⟩ := a
  simp only [xP] at hp
  obtain ⟨st2, h1, h2⟩ := Option.map_eq_some_iff.mp hp
  cases h2
  obtain ⟨rfl, rfl⟩ := xsimple hk rfl
  obtain ⟨x, y, r, rfl, rfl⟩ := xii_inv h1
  exact lv_imul hx hb hd (k _ _ _ _ _ o)

theorem x_iand : xOK .iand := by
  intro p l e R s m args below meth c Q bs bS bM Ls xs cA Dg i h0 a raw len pc L L' st st' h h' hd hk hp hc hs ls H locs cells slots o k
  obtain ⟨hx, hb, hml, hown, hts, hG, hsz, hfr, hlo, hini⟩ := a
  simp only [xP] at hp
  obtain ⟨st2, h1, h2⟩ := Option.map_eq_some_iff.mp hp
  cases h2
  obtain ⟨rfl, rfl⟩ := xsimple hk rfl
  obtain ⟨x, y, r, rfl, rfl⟩ := xii_inv h1
  exact lv_iand hx hb hd (k _ _ _ _ _ o)

theorem x_ior : xOK .ior := by
  intro p l e R s m args below meth c Q bs bS bM Ls xs cA Dg i h0 a raw len pc L L' st st' h h' hd hk hp hc hs ls H locs cells slots o k
  obtain ⟨hx, hb, hml, hown, hts, hG, hsz, hfr, hlo, hini⟩ := a
  simp only [xP] at hp
  obtain ⟨st2, h1, h2⟩ := Option.map_eq_some_iff.mp hp
  cases h2
  obtain ⟨rfl, rfl⟩ := xsimple hk rfl
  obtain ⟨x, y, r, rfl, rfl⟩ := xii_inv h1
  exact lv_ior hx hb hd (k _ _ _ _ _ o)

theorem x_ixor : xOK .ixor := by
  intro p l e R s m args below meth c Q bs bS bM Ls xs cA Dg i h0 a raw len pc L L' st st' h h' hd hk hp hc hs ls H locs cells slots o k
  obtain ⟨hx, hb, hml, hown, hts, hG, hsz, hfr, hlo, hini⟩ := a
  simp only [xP] at hp
  obtain ⟨st2, h1, h2⟩ := Option.map_eq_some_iff.mp hp
  cases h2
  obtain ⟨rfl, rfl⟩ := xsimple hk rfl
  obtain ⟨x, y, r, rfl, rfl⟩ := xii_inv h1
  exact lv_ixor hx hb hd (k _ _ _ _ _ o)

theorem x_ishl : xOK .ishl := by
  intro p l e R s m args below meth c Q bs bS bM Ls xs cA Dg i h0 a raw len pc L L' st st' h h' hd hk hp hc hs ls H locs cells slots o k
  obtain ⟨hx, hb, hml, hown, hts, hG, hsz, hfr, hlo, hini⟩ := a
  simp only [xP] at hp
  obtain ⟨st2, h1, h2⟩ := Option.map_eq_some_iff.mp hp
  cases h2
  obtain ⟨rfl, rfl⟩ := xsimple hk rfl
  obtain ⟨x, y, r, rfl, rfl⟩ := xii_inv h1
  exact lv_ishl hx hb hd (k _ _ _ _ _ o)

theorem x_ishr : xOK .ishr := by
  intro p l e R s m args below meth c Q bs bS bM Ls xs cA Dg i h0 a raw len pc L L' st st' h h' hd hk hp hc hs ls H locs cells slots o k
  obtain ⟨hx, hb, hml, hown, hts, hG, hsz, hfr, hlo, hini⟩ := a
  simp only [xP] at hp
  obtain ⟨st2, h1, h2⟩ := Option.map_eq_some_iff.mp hp
  cases h2
  obtain ⟨rfl, rfl⟩ := xsimple hk rfl
  obtain ⟨x, y, r, rfl, rfl⟩ := xii_inv h1
  exact lv_ishr hx hb hd (k _ _ _ _ _ o)

theorem x_iushr : xOK .iushr := by
  intro p l e R s m args below meth c Q bs bS bM Ls xs cA Dg i h0 a raw len pc L L' st st' h h' hd hk hp hc hs ls H locs cells slots o k
  obtain ⟨hx, hb, hml, hown, hts, hG, hsz, hfr, hlo, hini⟩ := a
  simp only [xP] at hp
  obtain ⟨st2, h1, h2⟩ := Option.map_eq_some_iff.mp hp
  cases h2
  obtain ⟨rfl, rfl⟩ := xsimple hk rfl
  obtain ⟨x, y, r, rfl, rfl⟩ := xii_inv h1
  exact lv_iushr hx hb hd rfl (k _ _ _ _ _ o)

theorem x_idiv : xOK .idiv := by
  intro p l e R s m args below meth c Q bs bS bM Ls xs cA Dg i h0 a raw len pc L L' st st' h h' hd hk hp hc hs ls H locs cells slots o k
  obtain ⟨hx, hb, hml, hown, hts, hG, hsz, hfr, hlo, hini⟩ := a
  simp only [xP] at hp
  obtain ⟨st2, h1, h2⟩ := Option.map_eq_some_iff.mp hp
  cases h2
  obtain ⟨rfl, rfl⟩ := xsimple hk rfl
  obtain ⟨x, y, r, rfl, rfl, hne⟩ := xid_inv h1
  exact lv_idiv hx hb hd hne (k _ _ _ _ _ o)

theorem x_irem : xOK .irem := by
  intro p l e R s m args below meth c Q bs bS bM Ls xs cA Dg i h0 a raw len pc L L' st st' h h' hd hk hp hc hs ls H locs cells slots o k
  obtain ⟨hx, hb, hml, hown, hts, hG, hsz, hfr, hlo, hini⟩ := a
  simp only [xP] at hp
  obtain ⟨st2, h1, h2⟩ := Option.map_eq_some_iff.mp hp
  cases h2
  obtain ⟨rfl, rfl⟩ := xsimple hk rfl
  obtain ⟨x, y, r, rfl, rfl, hne⟩ := xid_inv h1
  exact lv_irem hx hb hd hne (k _ _ _ _ _ o)

theorem x_ladd : xOK .ladd := by
  intro p l e R s m args below meth c Q bs bS bM Ls xs cA Dg i h0 a raw len pc L L' st st' h h' hd hk hp hc hs ls H locs cells slots o k
  obtain ⟨hx, hb, hml, hown, hts, hG, hsz, hfr, hlo, hini⟩ := a
  simp only [xP] at hp
  obtain ⟨st2, h1, h2⟩ := Option.map_eq_some_iff.mp hp
  cases h2
  obtain ⟨rfl, rfl⟩ := xsimple hk rfl
  obtain ⟨x, y, r, rfl, rfl⟩ := xll_inv h1
  exact lv_ladd hx hb hd (k _ _ _ _ _ o)

theorem x_lsub : xOK .lsub := by
  intro p l e R s m args below meth c Q bs bS bM Ls xs cA Dg i h0 a raw len pc L L' st st' h h' hd hk hp hc hs ls H locs cells slots o k
  obtain ⟨hx, hb, hml, hown, hts, hG, hsz, hfr, hlo, hini⟩ := a
  simp only [xP] at hp
  obtain ⟨st2, h1, h2⟩ := Option.map_eq_some_iff.mp hp
  cases h2
  obtain ⟨rfl, rfl⟩ := xsimple hk rfl
  obtain ⟨x, y, r, rfl, rfl⟩ := xll_inv h1
  exact lv_lsub hx hb hd (k _ _ _ _ _ o)

theorem x_lmul : xOK .lmul := by
  intro p l e R s m args below meth c Q bs bS bM Ls xs cA Dg i h0 a raw len pc L L' st st' h h' hd hk hp hc hs ls H locs cells slots o k
  obtain ⟨hx, hb, hml, hown, hts, hG, hsz, hfr, hlo, hini⟩ := a
  simp only [xP] at hp
  obtain ⟨st2, h1, h2⟩ := Option.map_eq_some_iff.mp hp
  cases h2
  obtain ⟨rfl, rfl⟩ := xsimple hk rfl
  obtain ⟨x, y, r, rfl, rfl⟩ := xll_inv h1
  exact lv_lmul hx hb hd (k _ _ _ _ _ o)

theorem x_land : xOK .land := by
  intro p l e R s m args below meth c Q bs bS bM Ls xs cA Dg i h0 a raw len pc L L' st st' h h' hd hk hp hc hs ls H locs cells slots o k
  obtain ⟨hx, hb, hml, hown, hts, hG, hsz, hfr, hlo, hini⟩ := a
  simp only [xP] at hp
  obtain ⟨st2, h1, h2⟩ := Option.map_eq_some_iff.mp hp
  cases h2
  obtain ⟨rfl, rfl⟩ := xsimple hk rfl
  obtain ⟨x, y, r, rfl, rfl⟩ := xll_inv h1
  exact lv_land hx hb hd (k _ _ _ _ _ o)

theorem x_lor : xOK .lor := by
  intro p l e R s m args below meth c Q bs bS bM Ls xs cA Dg i h0 a raw len pc L L' st st' h h' hd hk hp hc hs ls H locs cells slots o k
  obtain ⟨hx, hb, hml, hown, hts, hG, hsz, hfr, hlo, hini⟩ := a
  simp only [xP] at hp
  obtain ⟨st2, h1, h2⟩ := Option.map_eq_some_iff.mp hp
  cases h2
  obtain ⟨rfl, rfl⟩ := xsimple hk rfl
  obtain ⟨x, y, r, rfl, rfl⟩ := xll_inv h1
  exact lv_lor hx hb hd (k _ _ _ _ _ o)

theorem x_lxor : xOK .lxor := by
  intro p l e R s m args below meth c Q bs bS bM Ls xs cA Dg i h0 a raw len pc L L' st st' h h' hd hk hp hc hs ls H locs cells slots o k
  obtain ⟨hx, hb, hml, hown, hts, hG, hsz, hfr, hlo, hini⟩ := a
  simp only [xP] at hp
  obtain ⟨st2, h1, h2⟩ := Option.map_eq_some_iff.mp hp
  cases h2
  obtain ⟨rfl, rfl⟩ := xsimple hk rfl
  obtain ⟨x, y, r, rfl, rfl⟩ := xll_inv h1
  exact lv_lxor hx hb hd (k _ _ _ _ _ o)

theorem x_ldiv : xOK .ldiv := by
  intro p l e R s m args below meth c Q bs bS bM Ls xs cA Dg i h0 a raw len pc L L' st st' h h' hd hk hp hc hs ls H locs cells slots o k
  obtain ⟨hx, hb, hml, hown, hts, hG, hsz, hfr, hlo, hini⟩ := a
  simp only [xP] at hp
  obtain ⟨st2, h1, h2⟩ := Option.map_eq_some_iff.mp hp
  cases h2
  obtain ⟨rfl, rfl⟩ := xsimple hk rfl
  obtain ⟨x, y, r, rfl, rfl, hne⟩ := xlv_inv h1
  exact lv_ldiv hx hb hd hne (k _ _ _ _ _ o)

theorem x_lrem : xOK .lrem := by
  intro p l e R s m args below meth c Q bs bS bM Ls xs cA Dg i h0 a raw len pc L L' st st' h h' hd hk hp hc hs ls H locs cells slots o k
  obtain ⟨hx, hb, hml, hown, hts, hG, hsz, hfr, hlo, hini⟩ := a
  simp only [xP] at hp
  obtain ⟨st2, h1, h2⟩ := Option.map_eq_some_iff.mp hp
  cases h2
  obtain ⟨rfl, rfl⟩ := xsimple hk rfl
  obtain ⟨x, y, r, rfl, rfl, hne⟩ := xlv_inv h1
  exact lv_lrem hx hb hd hne (k _ _ _ _ _ o)

theorem x_lshl : xOK .lshl := by
  intro p l e R s m args below meth c Q bs bS bM Ls xs cA Dg i h0 a raw len pc L L' st st' h h' hd hk hp hc hs ls H locs cells slots o k
  obtain ⟨hx, hb, hml, hown, hts, hG, hsz, hfr, hlo, hini⟩ := a
  simp only [xP] at hp
  obtain ⟨st2, h1, h2⟩ := Option.map_eq_some_iff.mp hp
  cases h2
  obtain ⟨rfl, rfl⟩ := xsimple hk rfl
  obtain ⟨x, y, r, rfl, rfl⟩ := xls_inv h1
  exact lv_lshl hx hb hd rfl (k _ _ _ _ _ o)

theorem x_lshr : xOK .lshr := by
  intro p l e R s m args below meth c Q bs bS bM Ls xs cA Dg i h0 a raw len pc L L' st st' h h' hd hk hp hc hs ls H locs cells slots o k
  obtain ⟨hx, hb, hml, hown, hts, hG, hsz, hfr, hlo, hini⟩ := a
  simp only [xP] at hp
  obtain ⟨st2, h1, h2⟩ := Option.map_eq_some_iff.mp hp
  cases h2
  obtain ⟨rfl, rfl⟩ := xsimple hk rfl
  obtain ⟨x, y, r, rfl, rfl⟩ := xls_inv h1
  exact lv_lshr hx hb hd rfl (k _ _ _ _ _ o)

theorem x_lushr : xOK .lushr := by
  intro p l e R s m args below meth c Q bs bS bM Ls xs cA Dg i h0 a raw len pc L L' st st' h h' hd hk hp hc hs ls H locs cells slots o k
  obtain ⟨hx, hb, hml, hown, hts, hG, hsz, hfr, hlo, hini⟩ := a
  simp only [xP] at hp
  obtain ⟨st2, h1, h2⟩ := Option.map_eq_some_iff.mp hp
  cases h2
  obtain ⟨rfl, rfl⟩ := xsimple hk rfl
  obtain ⟨x, y, r, rfl, rfl⟩ := xls_inv h1
  exact lv_lushr hx hb hd rfl (k _ _ _ _ _ o)

theorem x_lcmp : xOK .lcmp := by
  intro p l e R s m args below meth c Q bs bS bM Ls xs cA Dg i h0 a raw len pc L L' st st' h h' hd hk hp hc hs ls H locs cells slots o k
  obtain ⟨hx, hb, hml, hown, hts, hG, hsz, hfr, hlo, hini⟩ := a
  simp only [xP] at hp
  obtain ⟨st2, h1, h2⟩ := Option.map_eq_some_iff.mp hp
  cases h2
  obtain ⟨rfl, rfl⟩ := xsimple hk rfl
  obtain ⟨x, y, r, rfl, rfl⟩ := xlc_inv h1
  exact W.lcmp hx hb hd (k _ _ _ _ _ o)

theorem x_i2l : xOK .i2l := by
  intro p l e R s m args below meth c Q bs bS bM Ls xs cA Dg i h0 a raw len pc L L' st st' h h' hd hk hp hc hs ls H locs cells slots o k
  obtain ⟨hx, hb, hml, hown, hts, hG, hsz, hfr, hlo, hini⟩ := a
  simp only [xP] at hp
  obtain ⟨st2, h1, h2⟩ := Option.map_eq_some_iff.mp hp
  cases h2
  obtain ⟨rfl, rfl⟩ := xsimple hk rfl
  obtain ⟨x, r, rfl, rfl⟩ := xil_inv h1
  exact lv_i2l hx hb hd rfl (k _ _ _ _ _ o)

theorem x_l2i : xOK .l2i := by
  intro p l e R s m args below meth c Q bs bS bM Ls xs cA Dg i h0 a raw len pc L L' st st' h h' hd hk hp hc hs ls H locs cells slots o k
  obtain ⟨hx, hb, hml, hown, hts, hG, hsz, hfr, hlo, hini⟩ := a
  simp only [xP] at hp
  obtain ⟨st2, h1, h2⟩ := Option.map_eq_some_iff.mp hp
  cases h2
  obtain ⟨rfl, rfl⟩ := xsimple hk rfl
  obtain ⟨x, r, rfl, rfl⟩ := xli_inv h1
  exact lv_l2i hx hb hd rfl (k _ _ _ _ _ o)
end
section
/-! ===== classes: their fields' words, types, kinds ===== -/
def xLW : List (List Nat) := [[284, 286], [130, 132, 134, 136, 138], [263, 265, 267, 269, 271], [229, 231], [250], [165, 167, 169, 171, 173], [198, 200, 202, 204, 206, 208, 210, 212, 214], [306, 308, 310, 312, 314], [325, 327, 329, 331, 333, 335, 337, 339], [803, 805, 807, 809, 811, 813, 815, 817, 819, 821, 823, 825, 827, 829, 831, 833, 835, 837, 839, 841, 843, 845]]
def xtyf (c : Nat) : Nat → FieldType := match c with
  | 0 => tyX0
  | 1 => tyX1
  | 2 => tyX2
  | 3 => tyX3
  | 4 => tyX4
  | 5 => tyX5
  | 6 => tyX6
  | 7 => tyX7
  | 8 => tyX8
  | _ => tyX9
def xkok (k : Nat) (t : FieldType) : Bool := match k, t with
  | 0, .int => true
  | 1, .long => true
  | 2, .boolean => true
  | 3, .object _ => true
  | 3, .array _ => true
  | _, _ => false
theorem xkok_fit {ι : Nat → Nat} {k : Nat} {t : FieldType} {v : Value} (h : xkok k t = true) (hv : xfit k v = true) : narrow t (xv ι v) = xv ι v ∧ fits t (xv ι v) = true := by
  unfold xkok at h
  unfold xfit at hv
  split at h <;> split at hv <;> simp_all [xv, narrow, fits]
  rename_i z _
  rcases hv with rfl | rfl <;> decide
theorem xkok_def {k : Nat} {t : FieldType} (h : xkok k t = true) : defaultValue t = xdef k := by
  unfold xkok at h
  split at h <;> first | rfl | cases h
set_option maxRecDepth 100000 in
theorem xLW_ok : (List.range 10).all (fun c => (List.range (xcl c).2.2).all (fun k => xat ((xLW.getD c []).getD k 0) (u_lay (xcl c).1 (xcl c).2.1 k))) = true := by decide +kernel
set_option maxRecDepth 100000 in
theorem xcl_ok : (List.range 10).all (fun c => (List.range (xcl c).2.2).all (fun k => decide (parseFieldDescriptor ((xcl c).2.1 k).2.2.1 = some (xtyf c k)) && (xkok (xkd c k) (xtyf c k) && (List.range (xcl c).2.2).all (fun j => decide (j = k) || decide (((xcl c).2.1 j).2.1 ≠ ((xcl c).2.1 k).2.1)))) && decide ((xkinds.getD c []).length = (xcl c).2.2)) = true := by decide +kernel
theorem xcl_get {c : Nat} (h : c < 10) : vwCl[c]? = some ((xcl c).1, (xcl c).2.1, (xcl c).2.2) := by
  have hl : vwCl.length = 10 := rfl
  show _ = some (xcl c)
  unfold xcl
  rw [List.getD_eq_getElem?_getD, List.getElem?_eq_getElem (by omega)]
  rfl
theorem xcl_words {c : Nat} (h : c < 10) : ∀ w ∈ u_ws (xcl c).1 (xcl c).2.1 (xcl c).2.2, w ∈ xT := by
  intro w hw
  obtain ⟨k, hk, rfl⟩ := List.mem_map.mp hw
  have h1 := List.all_eq_true.mp xLW_ok c (List.mem_range.mpr h)
  exact xat_in (List.all_eq_true.mp h1 k hk)
theorem xcl_facts {c : Nat} (h : c < 10) : (∀ k, k < (xcl c).2.2 → parseFieldDescriptor ((xcl c).2.1 k).2.2.1 = some (xtyf c k)) ∧ (∀ k, k < (xcl c).2.2 → xkok (xkd c k) (xtyf c k) = true) ∧ (∀ a, a < (xcl c).2.2 → ∀ b, b < (xcl c).2.2 → a ≠ b → ((xcl c).2.1 a).2.1 ≠ ((xcl c).2.1 b).2.1) ∧ (xkinds.getD c []).length = (xcl c).2.2 := by
  have h1 := List.all_eq_true.mp xcl_ok c (List.mem_range.mpr h)
  rw [Bool.and_eq_true, decide_eq_true_eq] at h1
  obtain ⟨h1, h2⟩ := h1
  have h3 := List.all_eq_true.mp h1
  refine ⟨fun k hk => ?_, fun k hk => ?_, fun a ha b hb hab => ?_, h2⟩
  · have := h3 k (List.mem_range.mpr hk)
    simp only [Bool.and_eq_true, decide_eq_true_eq] at this
    exact this.1
  · have := h3 k (List.mem_range.mpr hk)
    simp only [Bool.and_eq_true, decide_eq_true_eq] at this
    exact this.2.1
  · have := h3 b (List.mem_range.mpr hb)
    simp only [Bool.and_eq_true, decide_eq_true_eq] at this
    have := List.all_eq_true.mp this.2.2 a (List.mem_range.mpr ha)
    simp only [Bool.or_eq_true, decide_eq_true_eq] at this
    exact this.resolve_left hab
theorem xcl_inst {c : Nat} (h : c < 10) : Jvm.Cond.initialized (xcl c).1 ∈ xT ∧ Jvm.Cond.instantiable (xcl c).1 (xcl c).2.2 ∈ xT := by
  have h1 := List.all_eq_true.mp xCW_ok c (List.mem_range.mpr (by omega))
  simp only [Bool.and_eq_true, Bool.or_eq_true, decide_eq_true_eq] at h1
  have h2 := h1.2.resolve_left (by omega)
  rw [h2.2] at h1 h2
  exact ⟨xat_in h1.1, xat_in h2.1⟩
theorem xFL_in {o k n : Nat} (h : xhasF o k n = true) : Jvm.Cond.fieldLink (xcn o) k (xfd n).1 (xfd n).2.1 (xfd n).2.2.1 ∈ xT ∧ n / 32 < 10 ∧ n % 32 < (xcl (n / 32)).2.2 := by
  obtain ⟨q, hq, h2⟩ := List.any_eq_true.mp h
  simp only [Bool.and_eq_true, beq_iff_eq] at h2
  obtain ⟨rfl, rfl, rfl⟩ := h2
  have h3 := List.all_eq_true.mp xFL_lt q hq
  simp only [Bool.and_eq_true, decide_eq_true_eq] at h3
  exact ⟨xat_in (List.all_eq_true.mp xFL_ok q hq), h3⟩
theorem xCL_in {o k c : Nat} (h : xhasC o k c = true) : Jvm.Cond.classLink (xcn o) k (xcl c).1 ∈ xT := by
  obtain ⟨q, hq, h2⟩ := List.any_eq_true.mp h
  simp only [Bool.and_eq_true, beq_iff_eq] at h2
  obtain ⟨rfl, rfl, rfl⟩ := h2
  exact xat_in (List.all_eq_true.mp xCL_ok q hq)
theorem xKI_in {o k : Nat} {v : Int} (h : xhasI o k v = true) : Jvm.Cond.constant (xcn o) k (Int32.ofInt v) ∈ xT := by
  obtain ⟨q, hq, h2⟩ := List.any_eq_true.mp h
  simp only [Bool.and_eq_true, beq_iff_eq] at h2
  obtain ⟨rfl, rfl, rfl⟩ := h2
  exact xat_in (List.all_eq_true.mp xKI_ok q hq)
theorem xKJ_in {o k : Nat} {v : Int} (h : xhasJ o k v = true) : Jvm.Cond.constantLong (xcn o) k (Int64.ofInt v) ∈ xT := by
  obtain ⟨q, hq, h2⟩ := List.any_eq_true.mp h
  simp only [Bool.and_eq_true, beq_iff_eq] at h2
  obtain ⟨rfl, rfl, rfl⟩ := h2
  exact xat_in (List.all_eq_true.mp xKJ_ok q hq)
theorem xi_ge {bs bS bM a : Nat} (h : 2 ≤ a) : xi bs bS bM a = bs + (a - 2) := by
  match a, h with
  | a + 2, _ => rfl
theorem xG.K {bs bS bM Ls : Nat} {xs : Nat → Int32} {cA : Nat → ClassId} {Dg : va_G} {U : State} {H : Heap} (h : xG bs bS bM Ls xs cA Dg U H) (t : Nat) (ht : xkt t = true) : va_K Dg vwCl [(cA t, xty t)] U := by
  refine ⟨h.1.1, fun k q hq => ?_⟩
  cases k with
  | zero => cases hq; exact h.2.1 t ht
  | succ k => simp at hq
theorem xRel.obj {bs bS bM Ls : Nat} {xs : Nat → Int32} {cA : Nat → ClassId} {Dg : va_G} {h : xH} {H : Heap} (r : xRel bs bS bM Ls xs cA Dg h H) {a : Nat} {q : Nat × List Value} (ha : h[a]? = some (.inr q)) : 2 ≤ a := by
  match a, ha with
  | 0, ha => rw [r.2.1] at ha; cases ha
  | 1, ha => rw [r.2.2] at ha; cases ha
  | a + 2, _ => omega
/-- a cell written -/
theorem xOn.set {bs bS bM Ls : Nat} {xs : Nat → Int32} {cA : Nat → ClassId} {Dg : va_G} {i : Nat} {h0 : xH} {s : State} {L : xL} {h : xH} {ls : Array Slot} {H H1 : Heap} {locs locs1 : List Loc} {cells slots a : Nat} {c0 c : xC} {e : va_E}
    (o : xOn bs bS bM Ls xs cA Dg i h0 s L h ls H locs cells slots) (ha : 2 ≤ a) (hc : h[a]? = some c0) (hs : xsl c = xsl c0) (he : e = xce (xi bs bS bM) cA c) (hP : va_P Dg vwCl ((xw bs (xi bs bS bM) cA h).set (a - 2) (bs + (a - 2), e)) H1) (hS : va_S (fun q => bs ≤ q) s.heap H1 locs1) :
    xOn bs bS bM Ls xs cA Dg i h0 s L (h.set a c) ls H1 locs1 cells slots := by
  obtain ⟨⟨p1, p2, p3⟩, q1, q2, q3, q4⟩ := o
  subst he
  rw [xw_set ha] at hP
  refine ⟨⟨hP, ?_, ?_⟩, hS, q2, by rw [List.length_set]; exact q3, by rw [xslo_set hc hs]; exact q4⟩
  · rw [List.getElem?_set_ne (by omega)]; exact p2
  · rw [List.getElem?_set_ne (by omega)]; exact p3
theorem xW_size {p : Program} {l : Launch} {e : Env} {R : Room} {s : State} {m : MethodId} {args : Array Value} {below : List Frame} {meth : Method} {c : Code} {H : Heap} {locs : List Loc} {cells slots : Nat} {Q : State → Prop} {g : JFrame} (k : H.size ≤ s.heap.size + cells → W p l e R s m args below meth c H locs cells slots Q g) : W p l e R s m args below meth c H locs cells slots Q g := by
  intro T hT X
  have hz := X.heapSize
  rw [hT] at hz
  exact k hz T hT X
theorem xnew_at {bs : Nat} {ι : Nat → Nat} {cA : Nat → ClassId} {Dg : va_G} {h : xH} {H1 : Heap} {q : Nat} {e : va_E} (hP : va_P Dg vwCl (xw bs ι cA h ++ [(q, e)]) H1) (hD : va_D (fun q => bs ≤ q) (xw bs ι cA h ++ [(q, e)])) (hz : H1.size ≤ bs + (h.length - 2) + 1) : q = bs + (h.length - 2) := by
  have hlast : (xw bs ι cA h ++ [(q, e)])[h.length - 2]? = some (q, e) := by
    rw [List.getElem?_append_right (by rw [xw_len]; omega), xw_len, Nat.sub_self]
    rfl
  have h1 : q < H1.size := (hP _ _ hlast).lt
  have h2 : bs ≤ q := hD.2 _ _ hlast
  by_cases hq : q = bs + (h.length - 2)
  · exact hq
  · exfalso
    have hj : q - bs < (xw bs ι cA h).length := by rw [xw_len]; omega
    have hj2 : q - bs < (h.drop 2).length := by rw [List.length_drop]; rw [xw_len] at hj; exact hj
    have h3 : (xw bs ι cA h ++ [(q, e)])[q - bs]? = some (bs + (q - bs), xce ι cA ((h.drop 2)[q - bs])) := by
      rw [List.getElem?_append_left hj]
      unfold xw
      rw [List.getElem?_mapIdx, List.getElem?_eq_getElem hj2]
      rfl
    have := hD.1 _ _ _ _ h3 hlast (by show bs + (q - bs) = q; omega)
    rw [xw_len] at hj
    omega
/-- a cell made -/
theorem xOn.push {bs bS bM Ls : Nat} {xs : Nat → Int32} {cA : Nat → ClassId} {Dg : va_G} {i : Nat} {h0 : xH} {s : State} {L : xL} {h : xH} {ls : Array Slot} {H H1 : Heap} {locs locs1 : List Loc} {cells slots n : Nat} {c : xC} {e : va_E}
    (o : xOn bs bS bM Ls xs cA Dg i h0 s L h ls H locs cells slots) (hn : xsl c = n) (he : e = xce (xi bs bS bM) cA c) (hP : va_P Dg vwCl (xw bs (xi bs bS bM) cA h ++ [(bs + (h.length - 2), e)]) H1) (hS : va_S (fun q => bs ≤ q) s.heap H1 locs1) :
    xOn bs bS bM Ls xs cA Dg i h0 s L (h ++ [c]) ls H1 locs1 (cells + 1) (slots + n) := by
  have h2 := o.1.two
  obtain ⟨⟨p1, p2, p3⟩, q1, q2, q3, q4⟩ := o
  subst he
  rw [← xw_push h2] at hP
  refine ⟨⟨hP, ?_, ?_⟩, hS, q2, by rw [List.length_append]; show cells + 1 + h0.length = h.length + 1; omega, by rw [xslo_push, hn]; omega⟩
  · rw [List.getElem?_append_left (by omega)]; exact p2
  · rw [List.getElem?_append_left (by omega)]; exact p3
end
section
/-! ===== constants, locals, fields, arrays, new cells ===== -/
theorem x_iconst (v : Int) : xOK (.iconst v) := by
  intro p l e R s m args below meth c Q bs bS bM Ls xs cA Dg i h0 a raw len pc L L' st st' h h' hd hk hp hc hs ls H locs cells slots o k
  obtain ⟨hx, hb, hml, hown, hts, hG, hsz, hfr, hlo, hini⟩ := a
  simp only [xP] at hp
  cases hp
  cases raw with
  | iconst n =>
    simp only [xckp, Bool.and_eq_true, beq_iff_eq] at hk
    obtain ⟨rfl, rfl⟩ := hk
    exact lv_iconst hx hb hd rfl (k _ _ _ _ _ o)
  | bipush n =>
    simp only [xckp, Bool.and_eq_true, beq_iff_eq] at hk
    obtain ⟨rfl, rfl, hv⟩ := hk
    exact lv_bipush hx hb hd hv (k _ _ _ _ _ o)
  | sipush n =>
    simp only [xckp, Bool.and_eq_true, beq_iff_eq] at hk
    obtain ⟨rfl, rfl, hv⟩ := hk
    exact lv_sipush hx hb hd hv (k _ _ _ _ _ o)
  | ldc n =>
    simp only [xckp, Bool.and_eq_true, beq_iff_eq] at hk
    obtain ⟨rfl, hv⟩ := hk
    exact lv_ldc hx hb hown (hts _ (xKI_in hv)) hd (k _ _ _ _ _ o)
  | ldc_w n =>
    simp only [xckp, Bool.and_eq_true, beq_iff_eq] at hk
    obtain ⟨rfl, hv⟩ := hk
    exact lv_ldcw hx hb hown (hts _ (xKI_in hv)) hd (k _ _ _ _ _ o)
  | _ => simp [xckp] at hk
theorem x_sipush (v : Int) : xOK (.sipush v) := by
  intro p l e R s m args below meth c Q bs bS bM Ls xs cA Dg i h0 a raw len pc L L' st st' h h' hd hk hp hc hs ls H locs cells slots o k
  obtain ⟨hx, hb, hml, hown, hts, hG, hsz, hfr, hlo, hini⟩ := a
  simp only [xP] at hp
  cases hp
  cases raw with
  | lconst n =>
    simp only [xckp, Bool.and_eq_true, beq_iff_eq] at hk
    obtain ⟨rfl, hv⟩ := hk
    exact lv_lconst hx hb hd hv (k _ _ _ _ _ o)
  | ldc2_w n =>
    simp only [xckp, Bool.and_eq_true, beq_iff_eq] at hk
    obtain ⟨rfl, hv⟩ := hk
    exact lv_ldc2 hx hb hown (hts _ (xKJ_in hv)) hd (k _ _ _ _ _ o)
  | _ => simp [xckp] at hk
theorem x_iload (j : Nat) : xOK (.iload j) := by
  intro p l e R s m args below meth c Q bs bS bM Ls xs cA Dg i h0 a raw len pc L L' st st' h h' hd hk hp hc hs ls H locs cells slots o k
  obtain ⟨hx, hb, hml, hown, hts, hG, hsz, hfr, hlo, hini⟩ := a
  simp only [xP] at hp
  split at hp
  · next x hx2 =>
    cases hp
    have hl := o.2.2.1.2.2.2 j _ hx2
    cases raw with
    | iload_n n =>
      simp only [xckp, Bool.and_eq_true, beq_iff_eq] at hk
      obtain ⟨hj, rfl⟩ := hk
      exact lv_iload_n hx hb hd hj hl (k _ _ _ _ _ o)
    | iload n =>
      simp only [xckp, Bool.and_eq_true, beq_iff_eq] at hk
      obtain ⟨rfl, rfl⟩ := hk
      exact lv_iload hx hb hd hl (k _ _ _ _ _ o)
    | _ => simp [xckp] at hk
  · cases hp
theorem x_lload (j : Nat) : xOK (.lload j) := by
  intro p l e R s m args below meth c Q bs bS bM Ls xs cA Dg i h0 a raw len pc L L' st st' h h' hd hk hp hc hs ls H locs cells slots o k
  obtain ⟨hx, hb, hml, hown, hts, hG, hsz, hfr, hlo, hini⟩ := a
  simp only [xP] at hp
  split at hp
  · next x hx2 =>
    cases hp
    have hl := o.2.2.1.2.2.2 j _ hx2
    cases raw with
    | lload_n n =>
      simp only [xckp, Bool.and_eq_true, beq_iff_eq] at hk
      obtain ⟨hj, rfl⟩ := hk
      exact lv_lload_n hx hb hd hj hl (k _ _ _ _ _ o)
    | lload n =>
      simp only [xckp, Bool.and_eq_true, beq_iff_eq] at hk
      obtain ⟨rfl, rfl⟩ := hk
      exact lv_lload hx hb hd hl (k _ _ _ _ _ o)
    | _ => simp [xckp] at hk
  · cases hp
theorem x_aload (j : Nat) : xOK (.aload j) := by
  intro p l e R s m args below meth c Q bs bS bM Ls xs cA Dg i h0 a raw len pc L L' st st' h h' hd hk hp hc hs ls H locs cells slots o k
  obtain ⟨hx, hb, hml, hown, hts, hG, hsz, hfr, hlo, hini⟩ := a
  simp only [xP] at hp
  split at hp
  · next x hx2 =>
    cases hp
    have hl := o.2.2.1.2.2.2 j _ hx2
    cases raw with
    | aload_n n =>
      simp only [xckp, Bool.and_eq_true, beq_iff_eq] at hk
      obtain ⟨hj, rfl⟩ := hk
      exact lv_aload_n hx hb hd hj hl (k _ _ _ _ _ o)
    | aload n =>
      simp only [xckp, Bool.and_eq_true, beq_iff_eq] at hk
      obtain ⟨rfl, rfl⟩ := hk
      exact lv_aload hx hb hd hl (k _ _ _ _ _ o)
    | _ => simp [xckp] at hk
  · cases hp
theorem x_istore (j : Nat) : xOK (.istore j) := by
  intro p l e R s m args below meth c Q bs bS bM Ls xs cA Dg i h0 a raw len pc L L' st st' h h' hd hk hp hc hs ls H locs cells slots o k
  obtain ⟨hx, hb, hml, hown, hts, hG, hsz, hfr, hlo, hini⟩ := a
  simp only [xP] at hp
  split at hp
  · next x r =>
    obtain ⟨L2, h1, h2⟩ := Option.map_eq_some_iff.mp hp
    cases h2
    obtain ⟨g1, -, -⟩ := xst1_spec _ _ _ _ h1
    rw [o.2.2.1.2.1] at g1
    cases raw with
    | istore_n n =>
      simp only [xckp, Bool.and_eq_true, beq_iff_eq] at hk
      obtain ⟨hj, rfl⟩ := hk
      exact lv_istore_n hx hb hd hj o.2.2.1.has g1 rfl (fun ls' hl' => k ls' _ _ _ _ ⟨o.1, o.2.1, o.2.2.1.st1 h1 hl', o.2.2.2⟩)
    | istore n =>
      simp only [xckp, Bool.and_eq_true, beq_iff_eq] at hk
      obtain ⟨rfl, rfl⟩ := hk
      exact lv_istore hx hb hd o.2.2.1.has g1 rfl (fun ls' hl' => k ls' _ _ _ _ ⟨o.1, o.2.1, o.2.2.1.st1 h1 hl', o.2.2.2⟩)
    | _ => simp [xckp] at hk
  · cases hp
theorem x_lstore (j : Nat) : xOK (.lstore j) := by
  intro p l e R s m args below meth c Q bs bS bM Ls xs cA Dg i h0 a raw len pc L L' st st' h h' hd hk hp hc hs ls H locs cells slots o k
  obtain ⟨hx, hb, hml, hown, hts, hG, hsz, hfr, hlo, hini⟩ := a
  simp only [xP] at hp
  split at hp
  · next x r =>
    obtain ⟨L2, h1, h2⟩ := Option.map_eq_some_iff.mp hp
    cases h2
    obtain ⟨g1, -, -⟩ := xst2_spec _ _ _ _ h1
    rw [o.2.2.1.2.1] at g1
    cases raw with
    | lstore_n n =>
      simp only [xckp, Bool.and_eq_true, beq_iff_eq] at hk
      obtain ⟨hj, rfl⟩ := hk
      exact lv_lstore_n hx hb hd hj o.2.2.1.has g1 rfl (fun ls' hl' => k ls' _ _ _ _ ⟨o.1, o.2.1, o.2.2.1.st2 h1 hl', o.2.2.2⟩)
    | lstore n =>
      simp only [xckp, Bool.and_eq_true, beq_iff_eq] at hk
      obtain ⟨rfl, rfl⟩ := hk
      exact lv_lstore hx hb hd o.2.2.1.has g1 rfl (fun ls' hl' => k ls' _ _ _ _ ⟨o.1, o.2.1, o.2.2.1.st2 h1 hl', o.2.2.2⟩)
    | _ => simp [xckp] at hk
  · cases hp
theorem x_astore (j : Nat) : xOK (.astore j) := by
  intro p l e R s m args below meth c Q bs bS bM Ls xs cA Dg i h0 a raw len pc L L' st st' h h' hd hk hp hc hs ls H locs cells slots o k
  obtain ⟨hx, hb, hml, hown, hts, hG, hsz, hfr, hlo, hini⟩ := a
  simp only [xP] at hp
  split at hp
  · next x r =>
    obtain ⟨L2, h1, h2⟩ := Option.map_eq_some_iff.mp hp
    cases h2
    obtain ⟨g1, -, -⟩ := xst1_spec _ _ _ _ h1
    rw [o.2.2.1.2.1] at g1
    cases raw with
    | astore_n n =>
      simp only [xckp, Bool.and_eq_true, beq_iff_eq] at hk
      obtain ⟨hj, rfl⟩ := hk
      exact lv_astore_n hx hb hd hj o.2.2.1.has g1 rfl (fun ls' hl' => k ls' _ _ _ _ ⟨o.1, o.2.1, o.2.2.1.st1 h1 hl', o.2.2.2⟩)
    | astore n =>
      simp only [xckp, Bool.and_eq_true, beq_iff_eq] at hk
      obtain ⟨rfl, rfl⟩ := hk
      exact lv_astore hx hb hd o.2.2.1.has g1 rfl (fun ls' hl' => k ls' _ _ _ _ ⟨o.1, o.2.1, o.2.2.1.st1 h1 hl', o.2.2.2⟩)
    | _ => simp [xckp] at hk
  · cases hp
theorem x_iinc (j : Nat) (v : Int) : xOK (.iinc j v) := by
  intro p l e R s m args below meth c Q bs bS bM Ls xs cA Dg i h0 a raw len pc L L' st st' h h' hd hk hp hc hs ls H locs cells slots o k
  obtain ⟨hx, hb, hml, hown, hts, hG, hsz, hfr, hlo, hini⟩ := a
  simp only [xP] at hp
  split at hp
  · next x hx2 =>
    obtain ⟨L2, h1, h2⟩ := Option.map_eq_some_iff.mp hp
    cases h2
    obtain ⟨g1, -, -⟩ := xst1_spec _ _ _ _ h1
    rw [o.2.2.1.2.1] at g1
    cases raw with
    | iinc n w =>
      simp only [xckp, Bool.and_eq_true, beq_iff_eq] at hk
      obtain ⟨rfl, rfl, rfl⟩ := hk
      obtain ⟨d, hd2⟩ := List.getElem?_of_mem ((xprs_mem (ι := xi bs bS bM) L 0 n (.int x)).mpr ⟨n, .int x, by omega, rfl, hx2⟩)
      exact lv_iinc hx hb hd o.2.2.1.has hd2 rfl g1 rfl (fun ls' hl' => k ls' _ _ _ _ ⟨o.1, o.2.1, o.2.2.1.st1 (v := .int (x + Int32.ofInt w)) h1 hl', o.2.2.2⟩)
    | _ => simp [xckp] at hk
  · cases hp
theorem xget_inv {h : xH} {a n : Nat} {v : Value} (e : xget h a n = some v) : ∃ fs, h[a]? = some (.inr (n / 32, fs)) ∧ fs[n % 32]? = some v := by
  unfold xget at e
  split at e
  · next c fs hc =>
    split at e
    · next hn => subst hn; exact ⟨fs, hc, e⟩
    · cases e
  · cases e
theorem xput_inv {h h' : xH} {a n : Nat} {v : Value} (e : xput h a n v = some h') : ∃ fs, h[a]? = some (.inr (n / 32, fs)) ∧ n % 32 < fs.length ∧ xfit (xkd (n / 32) (n % 32)) v = true ∧ h' = h.set a (.inr (n / 32, fs.set (n % 32) v)) := by
  unfold xput at e
  split at e
  · next c fs hc =>
    split at e
    · next hn => obtain ⟨rfl, h2, h3⟩ := hn; cases e; exact ⟨fs, hc, h2, h3, rfl⟩
    · cases e
  · cases e
theorem x_getfield (n : Nat) : xOK (.getfield n) := by
  intro p l e R s m args below meth c Q bs bS bM Ls xs cA Dg i h0 a raw len pc L L' st st' h h' hd hk hp hc hs ls H locs cells slots o k
  obtain ⟨hx, hb, hml, hown, hts, hG, hsz, hfr, hlo, hini⟩ := a
  simp only [xP] at hp
  split at hp
  · next q r =>
    obtain ⟨v, h1, h2⟩ := Option.map_eq_some_iff.mp hp
    cases h2
    obtain ⟨fs, g1, g2⟩ := xget_inv h1
    cases raw with
    | getfield idx =>
      simp only [xckp, Bool.and_eq_true, beq_iff_eq] at hk
      obtain ⟨rfl, hf⟩ := hk
      obtain ⟨w1, w2, w3⟩ := xFL_in hf
      have h2 := o.1.obj g1
      rw [List.map_cons, xv, xi_ge h2]
      exact va_get (D := Dg) (tys := []) (C := (xcl (n / 32)).1) (T := (xcl (n / 32)).2.1) (N := (xcl (n / 32)).2.2) (ci := n / 32) hx hb hts (xcl_words w2) hown hG.1 o.1.1 (q - 2) (xw_get h2 g1) (xcl_get w2) (n % 32) w3 (hts _ w1) (fun _ z => z) (v := xv (xi bs bS bM) v) (by rw [List.getElem?_map, g2]; rfl) hd (k _ _ _ _ _ o)
    | _ => simp [xckp] at hk
  · cases hp
theorem x_putfield (n : Nat) : xOK (.putfield n) := by
  intro p l e R s m args below meth c Q bs bS bM Ls xs cA Dg i h0 a raw len pc L L' st st' h h' hd hk hp hc hs ls H locs cells slots o k
  obtain ⟨hx, hb, hml, hown, hts, hG, hsz, hfr, hlo, hini⟩ := a
  simp only [xP] at hp
  split at hp
  · next v q r =>
    obtain ⟨h2, h1, e2⟩ := Option.map_eq_some_iff.mp hp
    cases e2
    obtain ⟨fs, g1, g2, g3, g4⟩ := xput_inv h1
    subst g4
    cases raw with
    | putfield idx =>
      simp only [xckp, Bool.and_eq_true, beq_iff_eq, Bool.or_eq_true] at hk
      obtain ⟨rfl, hf, hfin⟩ := hk
      obtain ⟨w1, w2, w3⟩ := xFL_in hf
      have h2 := o.1.obj g1
      obtain ⟨t1, t2, t3, t4⟩ := xcl_facts w2
      obtain ⟨u1, u2⟩ := xkok_fit (ι := xi bs bS bM) (t2 _ w3) g3
      have hk2 : ∀ (H1 : Heap) (locs1 : List Loc), va_P Dg vwCl ((xw bs (xi bs bS bM) cA h).set (q - 2) (bs + (q - 2), .inr (n / 32, (fs.map (xv (xi bs bS bM))).set (n % 32) (xv (xi bs bS bM) v)))) H1 → va_D (fun q => bs ≤ q) ((xw bs (xi bs bS bM) cA h).set (q - 2) (bs + (q - 2), .inr (n / 32, (fs.map (xv (xi bs bS bM))).set (n % 32) (xv (xi bs bS bM) v)))) → va_S (fun q => bs ≤ q) s.heap H1 locs1 → W p l e R s m args below meth c H1 locs1 cells slots Q (F0 m (pc + 3) ls (st'.map (xv (xi bs bS bM)))) := by
        intro H1 locs1 a1 a2 a3
        refine k _ _ _ _ _ (o.set (c := .inr (n / 32, fs.set (n % 32) v)) h2 g1 ?_ ?_ a1 a3)
        · simp [xsl]
        · simp [xce, List.map_set]
      rw [List.map_cons, List.map_cons, xv.eq_1, xi_ge h2]
      by_cases hff : (xfd n).2.2.2 = true
      · have hfin2 := hfin.resolve_left (by simp [hff])
        exact va_putF (D := Dg) (tys := []) (C := (xcl (n / 32)).1) (T := (xcl (n / 32)).2.1) (N := (xcl (n / 32)).2.2) (ci := n / 32) hx hb hts (xcl_words w2) (xtyf (n / 32)) t1 t3 hown hG.1 o.1.1 xw_D o.2.1 (q - 2) (xw_get h2 g1) (xcl_get w2) (n % 32) w3 (hts _ w1) (fun _ z => z) hff (hini hfin2.1) hfin2.2 (t1 _ w3) u1 u2 (by rw [List.length_map]; exact g2) hd hk2
      · exact va_put (D := Dg) (tys := []) (C := (xcl (n / 32)).1) (T := (xcl (n / 32)).2.1) (N := (xcl (n / 32)).2.2) (ci := n / 32) hx hb hts (xcl_words w2) (xtyf (n / 32)) t1 t3 hown hG.1 o.1.1 xw_D o.2.1 (q - 2) (xw_get h2 g1) (xcl_get w2) (n % 32) w3 (hts _ w1) (fun _ z => z) (show (xfd n).2.2.2 = false by simpa using hff) (t1 _ w3) u1 u2 (by rw [List.length_map]; exact g2) hd hk2
    | _ => simp [xckp] at hk
  · cases hp
end
section
/-! ===== arrays ===== -/
theorem xiald_inv {h : xH} {a : Nat} {j : Int32} {v : Value} (e : xiald h a j = some v) : ∃ n f, h[a]? = some (.inl (0, n, .inl f)) ∧ xin j n = true ∧ v = .int (f j.toNatClampNeg) := by
  unfold xiald at e
  split at e
  · next n f hc =>
    split at e
    · next hn => cases e; exact ⟨n, f, hc, hn, rfl⟩
    · cases e
  · cases e
theorem xzald_inv {h : xH} {a : Nat} {j : Int32} {v : Value} (e : xzald h a j = some v) : ∃ n f, h[a]? = some (.inl (2, n, .inl f)) ∧ xin j n = true ∧ 2 ≤ a ∧ v = .int (f j.toNatClampNeg) := by
  unfold xzald at e
  split at e
  · next n f hc =>
    split at e
    · next hn => cases e; exact ⟨n, f, hc, hn.1, hn.2, rfl⟩
    · cases e
  · cases e
theorem xlald_inv {h : xH} {a : Nat} {j : Int32} {v : Value} (e : xlald h a j = some v) : ∃ n f, h[a]? = some (.inl (1, n, .inr (.inl f))) ∧ xin j n = true ∧ 2 ≤ a ∧ v = .long (f j.toNatClampNeg) := by
  unfold xlald at e
  split at e
  · next n f hc =>
    split at e
    · next hn => cases e; exact ⟨n, f, hc, hn.1, hn.2, rfl⟩
    · cases e
  · cases e
theorem xaald_inv {h : xH} {a : Nat} {j : Int32} {v : Value} (e : xaald h a j = some v) : ∃ t n f, h[a]? = some (.inl (t, n, .inr (.inr (.inr (.inr f))))) ∧ xin j n = true ∧ 2 ≤ a ∧ xra t = true ∧ v = va_rf (f j.toNatClampNeg) := by
  unfold xaald at e
  split at e
  · next t n f hc =>
    split at e
    · next hn => cases e; exact ⟨t, n, f, hc, hn.1, hn.2.1, hn.2.2, rfl⟩
    · cases e
  · cases e
theorem xiast_inv {h h' : xH} {a : Nat} {j x : Int32} (e : xiast h a j x = some h') : ∃ n f, h[a]? = some (.inl (0, n, .inl f)) ∧ xin j n = true ∧ 2 ≤ a ∧ h' = h.set a (.inl (0, n, .inl (upd f j.toNatClampNeg x))) := by
  unfold xiast at e
  split at e
  · next n f hc =>
    split at e
    · next hn => cases e; exact ⟨n, f, hc, hn.1, hn.2, rfl⟩
    · cases e
  · cases e
theorem xzast_inv {h h' : xH} {a : Nat} {j x : Int32} (e : xzast h a j x = some h') : ∃ n f, h[a]? = some (.inl (2, n, .inl f)) ∧ xin j n = true ∧ 2 ≤ a ∧ (x = 0 ∨ x = 1) ∧ h' = h.set a (.inl (2, n, .inl (upd f j.toNatClampNeg x))) := by
  unfold xzast at e
  split at e
  · next n f hc =>
    split at e
    · next hn => cases e; exact ⟨n, f, hc, hn.1, hn.2.1, hn.2.2, rfl⟩
    · cases e
  · cases e
theorem xlast_inv {h h' : xH} {a : Nat} {j : Int32} {x : Int64} (e : xlast h a j x = some h') : ∃ n f, h[a]? = some (.inl (1, n, .inr (.inl f))) ∧ xin j n = true ∧ 2 ≤ a ∧ h' = h.set a (.inl (1, n, .inr (.inl (vp_updL f j.toNatClampNeg x)))) := by
  unfold xlast at e
  split at e
  · next n f hc =>
    split at e
    · next hn => cases e; exact ⟨n, f, hc, hn.1, hn.2, rfl⟩
    · cases e
  · cases e
theorem xobj_inv {h : xH} {v c : Nat} (e : xobj h v c = true) : ∃ fs, h[v]? = some (.inr (c, fs)) := by
  unfold xobj at e
  split at e
  · next c' fs hc =>
    have := eq_of_beq e
    subst this
    exact ⟨fs, hc⟩
  · cases e
theorem xaast_inv {h h' : xH} {a v : Nat} {j : Int32} (e : xaast h a j v = some h') : ∃ t n f, h[a]? = some (.inl (t, n, .inr (.inr (.inr (.inr f))))) ∧ xin j n = true ∧ 2 ≤ a ∧ xra t = true ∧ 2 ≤ v ∧ xobj h v (t - 10) = true ∧ h' = h.set a (.inl (t, n, .inr (.inr (.inr (.inr (va_up f j.toNatClampNeg (some v))))))) := by
  unfold xaast at e
  split at e
  · next t n f hc =>
    split at e
    · next hn => cases e; exact ⟨t, n, f, hc, hn.1, hn.2.1, hn.2.2.1, hn.2.2.2.1, hn.2.2.2.2, rfl⟩
    · cases e
  · cases e
theorem xlen_inv {h : xH} {a : Nat} {v : Value} (e : xlen h a = some v) : ∃ n f, h[a]? = some (.inl (0, n, .inl f)) ∧ v = .int (Int32.ofNat n) := by
  unfold xlen at e
  split at e
  · next t n f hc =>
    split at e
    · next ht => cases e; subst ht; exact ⟨n, f, hc, rfl⟩
    · cases e
  · cases e
theorem xra_ty {t : Nat} (h : xra t = true) : xkt t = true ∧ t - 10 < 10 ∧ xty t = .object (xcl (t - 10)).1 ∧ 10 + (t - 10) = t := by
  simp only [xra, Bool.or_eq_true, beq_iff_eq] at h
  rcases h with ((rfl | rfl) | rfl) | rfl <;> exact ⟨rfl, by omega, rfl, rfl⟩
theorem xv_rf (ι : Nat → Nat) (r : Option Nat) : xv ι (va_rf r) = va_rf (r.map ι) := by cases r <;> rfl
theorem xsimple' {i len : Nat} {raw ins : Instr} (hk : xckp i raw len ins = true) (hs : xsim ins = true) : len = 1 ∧ raw = ins := by
  cases ins <;> first | exact xsimple hk rfl | cases hs
theorem x_iaload : xOK .iaload := by
  intro p l e R s m args below meth c Q bs bS bM Ls xs cA Dg i h0 a raw len pc L L' st st' h h' hd hk hp hc hs ls H locs cells slots o k
  obtain ⟨hx, hb, hml, hown, hts, hG, hsz, hfr, hlo, hini⟩ := a
  simp only [xP] at hp
  obtain ⟨st2, h1, h2⟩ := Option.map_eq_some_iff.mp hp
  cases h2
  obtain ⟨rfl, rfl⟩ := xsimple hk rfl
  obtain ⟨j, q, r, v, rfl, rfl, hv⟩ := xrd_inv h1
  obtain ⟨n, f, g1, g2, rfl⟩ := xiald_inv hv
  match q, g1 with
  | 0, g1 =>
    rw [o.1.2.1] at g1
    cases g1
    exact va_sld hx hb hG.2.2.2.2.2.2.1 (Nat.lt_of_lt_of_le hG.2.2.2.2.2.2.2.1 hG.2.2.2.2.2.2.2.2) (Nat.not_le.mpr hG.2.2.2.2.2.2.2.1) o.2.1 (xin_in g2) hd (k _ _ _ _ _ o)
  | 1, g1 =>
    rw [o.1.2.2] at g1
    cases g1
    obtain ⟨cell, c1, c2, c3, c4, c5, c6, c7⟩ := hG.2.2.2.2.2.1
    have hj : j.toNatClampNeg < 6 := by
      have := g2
      simp only [xin, Bool.and_eq_true, decide_eq_true_eq] at this
      exact this.2
    refine W.iald (v := .int (xmost6 j.toNatClampNeg)) hx hb (cell := cell) (a := bM) ?_ c2 c3 ?_ (c6 _ hj) rfl rfl hd (k _ _ _ _ _ o)
    · rw [o.2.1.2.1 bM (Array.getElem?_eq_some_iff.mp c1).1 c7]
      exact c1
    · rintro (z | z)
      · exact xin_in g2 (Or.inl z)
      · omega
  | q + 2, g1 =>
    exact va_iald (D := Dg) (cl := vwCl) (a := bs + q) hx hb (hG.K 0 rfl) o.1.1 q 0 (xw_get (by omega) g1) rfl (xin_in g2) hd (k _ _ _ _ _ o)
theorem x_baload : xOK .baload := by
  intro p l e R s m args below meth c Q bs bS bM Ls xs cA Dg i h0 a raw len pc L L' st st' h h' hd hk hp hc hs ls H locs cells slots o k
  obtain ⟨hx, hb, hml, hown, hts, hG, hsz, hfr, hlo, hini⟩ := a
  simp only [xP] at hp
  obtain ⟨st2, h1, h2⟩ := Option.map_eq_some_iff.mp hp
  cases h2
  obtain ⟨rfl, rfl⟩ := xsimple hk rfl
  obtain ⟨j, q, r, v, rfl, rfl, hv⟩ := xrd_inv h1
  obtain ⟨n, f, g1, g2, g3, rfl⟩ := xzald_inv hv
  rw [List.map_cons, List.map_cons, xv.eq_1, xi_ge g3]
  exact va_zald (D := Dg) (cl := vwCl) hx hb (hG.K 2 rfl) o.1.1 (q - 2) 0 (xw_get g3 g1) rfl (xin_in g2) hd (k _ _ _ _ _ o)
theorem x_laload : xOK .laload := by
  intro p l e R s m args below meth c Q bs bS bM Ls xs cA Dg i h0 a raw len pc L L' st st' h h' hd hk hp hc hs ls H locs cells slots o k
  obtain ⟨hx, hb, hml, hown, hts, hG, hsz, hfr, hlo, hini⟩ := a
  simp only [xP] at hp
  obtain ⟨st2, h1, h2⟩ := Option.map_eq_some_iff.mp hp
  cases h2
  obtain ⟨rfl, rfl⟩ := xsimple hk rfl
  obtain ⟨j, q, r, v, rfl, rfl, hv⟩ := xrd_inv h1
  obtain ⟨n, f, g1, g2, g3, rfl⟩ := xlald_inv hv
  rw [List.map_cons, List.map_cons, xv.eq_1, xi_ge g3]
  exact va_lald (D := Dg) (cl := vwCl) hx hb (hG.K 1 rfl) o.1.1 (q - 2) 0 (xw_get g3 g1) rfl (xin_in g2) hd (k _ _ _ _ _ o)
theorem x_aaload : xOK .aaload := by
  intro p l e R s m args below meth c Q bs bS bM Ls xs cA Dg i h0 a raw len pc L L' st st' h h' hd hk hp hc hs ls H locs cells slots o k
  obtain ⟨hx, hb, hml, hown, hts, hG, hsz, hfr, hlo, hini⟩ := a
  simp only [xP] at hp
  obtain ⟨st2, h1, h2⟩ := Option.map_eq_some_iff.mp hp
  cases h2
  obtain ⟨rfl, rfl⟩ := xsimple hk rfl
  obtain ⟨j, q, r, v, rfl, rfl, hv⟩ := xrd_inv h1
  obtain ⟨t, n, f, g1, g2, g3, g4, rfl⟩ := xaald_inv hv
  obtain ⟨t1, t2, t3, t4⟩ := xra_ty g4
  rw [List.map_cons, List.map_cons, xv.eq_1, xi_ge g3]
  have hK := hG.K t t1
  rw [t3] at hK
  refine va_aldq (D := Dg) (cl := vwCl) hx hb hK o.1.1 (q - 2) 0 (xw_get g3 g1) rfl (xin_in g2) hd ?_
  have := k _ _ _ _ _ o
  rw [List.map_cons, xv_rf] at this
  exact this
theorem x_iastore : xOK .iastore := by
  intro p l e R s m args below meth c Q bs bS bM Ls xs cA Dg i h0 a raw len pc L L' st st' h h' hd hk hp hc hs ls H locs cells slots o k
  obtain ⟨hx, hb, hml, hown, hts, hG, hsz, hfr, hlo, hini⟩ := a
  simp only [xP] at hp
  obtain ⟨rfl, rfl⟩ := xsimple hk rfl
  split at hp
  · next x j q r =>
    obtain ⟨h2, h1, e2⟩ := Option.map_eq_some_iff.mp hp
    cases e2
    obtain ⟨n, f, g1, g2, g3, g9⟩ := xiast_inv h1
    subst g9
    rw [List.map_cons, List.map_cons, List.map_cons, xv.eq_1, xi_ge g3]
    exact va_iast (D := Dg) (cl := vwCl) hx hb (hG.K 0 rfl) o.1.1 xw_D o.2.1 (q - 2) 0 (xw_get g3 g1) rfl (xin_in g2) hd (fun H1 locs1 a1 a2 a3 => k _ _ _ _ _ (o.set (c := .inl (0, n, .inl (upd f j.toNatClampNeg x))) g3 g1 rfl rfl a1 a3))
  · cases hp
theorem x_bastore : xOK .bastore := by
  intro p l e R s m args below meth c Q bs bS bM Ls xs cA Dg i h0 a raw len pc L L' st st' h h' hd hk hp hc hs ls H locs cells slots o k
  obtain ⟨hx, hb, hml, hown, hts, hG, hsz, hfr, hlo, hini⟩ := a
  simp only [xP] at hp
  obtain ⟨rfl, rfl⟩ := xsimple hk rfl
  split at hp
  · next x j q r =>
    obtain ⟨h2, h1, e2⟩ := Option.map_eq_some_iff.mp hp
    cases e2
    obtain ⟨n, f, g1, g2, g3, g4, g9⟩ := xzast_inv h1
    subst g9
    rw [List.map_cons, List.map_cons, List.map_cons, xv.eq_1, xi_ge g3]
    have hn : vp_nar .boolean x = x := by rcases g4 with rfl | rfl <;> decide
    refine va_zast (D := Dg) (cl := vwCl) hx hb (hG.K 2 rfl) o.1.1 xw_D o.2.1 (q - 2) 0 (xw_get g3 g1) rfl (xin_in g2) hd (fun H1 locs1 a1 a2 a3 => k _ _ _ _ _ (o.set (c := .inl (2, n, .inl (upd f j.toNatClampNeg x))) g3 g1 rfl ?_ a1 a3))
    rw [hn]
    rfl
  · cases hp
theorem x_lastore : xOK .lastore := by
  intro p l e R s m args below meth c Q bs bS bM Ls xs cA Dg i h0 a raw len pc L L' st st' h h' hd hk hp hc hs ls H locs cells slots o k
  obtain ⟨hx, hb, hml, hown, hts, hG, hsz, hfr, hlo, hini⟩ := a
  simp only [xP] at hp
  obtain ⟨rfl, rfl⟩ := xsimple hk rfl
  split at hp
  · next x j q r =>
    obtain ⟨h2, h1, e2⟩ := Option.map_eq_some_iff.mp hp
    cases e2
    obtain ⟨n, f, g1, g2, g3, g9⟩ := xlast_inv h1
    subst g9
    rw [List.map_cons, List.map_cons, List.map_cons, xv.eq_1, xi_ge g3]
    exact va_last (D := Dg) (cl := vwCl) hx hb (hG.K 1 rfl) o.1.1 xw_D o.2.1 (q - 2) 0 (xw_get g3 g1) rfl (xin_in g2) hd (fun H1 locs1 a1 a2 a3 => k _ _ _ _ _ (o.set (c := .inl (1, n, .inr (.inl (vp_updL f j.toNatClampNeg x)))) g3 g1 rfl rfl a1 a3))
  · cases hp
theorem x_aastore : xOK .aastore := by
  intro p l e R s m args below meth c Q bs bS bM Ls xs cA Dg i h0 a raw len pc L L' st st' h h' hd hk hp hc hs ls H locs cells slots o k
  obtain ⟨hx, hb, hml, hown, hts, hG, hsz, hfr, hlo, hini⟩ := a
  simp only [xP] at hp
  obtain ⟨rfl, rfl⟩ := xsimple hk rfl
  split at hp
  · next x j q r =>
    obtain ⟨h2, h1, e2⟩ := Option.map_eq_some_iff.mp hp
    cases e2
    obtain ⟨t, n, f, g1, g2, g3, g4, g5, g6, g9⟩ := xaast_inv h1
    subst g9
    obtain ⟨fs, g7⟩ := xobj_inv g6
    obtain ⟨t1, t2, t3, t4⟩ := xra_ty g4
    rw [List.map_cons, List.map_cons, List.map_cons, xv.eq_1, xv.eq_1, xi_ge g3, xi_ge g5]
    have hK := hG.K t t1
    rw [t3] at hK
    refine va_astq (D := Dg) (cl := vwCl) hx hb hK o.1.1 xw_D o.2.1 (q - 2) 0 (x - 2) (t - 10) (xw_get g3 g1) rfl (xw_get g5 g7) (xcl_get t2) (xin_in g2) hd (fun H1 locs1 a1 a2 a3 => k _ _ _ _ _ (o.set (c := .inl (t, n, .inr (.inr (.inr (.inr (va_up f j.toNatClampNeg (some x))))))) g3 g1 rfl ?_ a1 a3))
    simp only [xce, xar]
    congr 7
    funext z
    unfold va_up
    split
    · rw [Option.map_some, xi_ge g5]
    · rfl
  · cases hp
theorem x_arraylength : xOK .arraylength := by
  intro p l e R s m args below meth c Q bs bS bM Ls xs cA Dg i h0 a raw len pc L L' st st' h h' hd hk hp hc hs ls H locs cells slots o k
  obtain ⟨hx, hb, hml, hown, hts, hG, hsz, hfr, hlo, hini⟩ := a
  simp only [xP] at hp
  obtain ⟨rfl, rfl⟩ := xsimple hk rfl
  split at hp
  · next q r =>
    obtain ⟨v, h1, e2⟩ := Option.map_eq_some_iff.mp hp
    cases e2
    obtain ⟨n, f, g1, rfl⟩ := xlen_inv h1
    match q, g1 with
    | 0, g1 =>
      rw [o.1.2.1] at g1
      cases g1
      exact va_slen hx hb hG.2.2.2.2.2.2.1 (Nat.lt_of_lt_of_le hG.2.2.2.2.2.2.2.1 hG.2.2.2.2.2.2.2.2) (Nat.not_le.mpr hG.2.2.2.2.2.2.2.1) o.2.1 hd (k _ _ _ _ _ o)
    | 1, g1 =>
      rw [o.1.2.2] at g1
      cases g1
      obtain ⟨cell, c1, c2, c3, c4, c5, c6, c7⟩ := hG.2.2.2.2.2.1
      refine W.alen hx hb (cell := cell) (a := bM) ?_ c2 c5 rfl rfl hd (k _ _ _ _ _ o)
      rw [o.2.1.2.1 bM (Array.getElem?_eq_some_iff.mp c1).1 c7]
      exact c1
    | q + 2, g1 =>
      exact va_alen (D := Dg) (cl := vwCl) (a := bs + q) hx hb (hG.K 0 rfl) o.1.1 q 0 (xw_get (by omega) g1) rfl rfl hd (k _ _ _ _ _ o)
  · cases hp
end
section
/-! ===== new cells, copies, the rest ===== -/
set_option maxRecDepth 100000 in
theorem xac_int : Jvm.Cond.arrayClass .int ∈ xT := xat_in (p := 141) (by decide +kernel)
set_option maxRecDepth 100000 in
theorem xac_long : Jvm.Cond.arrayClass .long ∈ xT := xat_in (p := 253) (by decide +kernel)
set_option maxRecDepth 100000 in
theorem xac_boolean : Jvm.Cond.arrayClass .boolean ∈ xT := xat_in (p := 848) (by decide +kernel)
set_option maxRecDepth 100000 in
theorem xoi_inst : Jvm.Cond.instanceMethod objectInit ∈ xT := xat_in (p := 92) (by decide +kernel)
set_option maxRecDepth 100000 in
theorem xoi_code : Jvm.Cond.code objectInit ⟨#[0xb1]⟩ 1 none ∈ xT := List.mem_filter.mpr ⟨List.mem_of_getElem? (i := 93) rfl, rfl⟩
set_option maxRecDepth 100000 in
theorem xsy_nat : Jvm.Cond.native arraycopyName ∈ xT := xat_in (p := 360) (by decide +kernel)
set_option maxRecDepth 100000 in
theorem xsy_stat : Jvm.Cond.static arraycopyName ∈ xT := xat_in (p := 359) (by decide +kernel)
set_option maxRecDepth 100000 in
theorem xsy_init : Jvm.Cond.initialized "java/lang/System" ∈ xT := xat_in (p := 83) (by decide +kernel)
set_option maxRecDepth 100000 in
theorem xmc_link : Jvm.Cond.fieldLinkNest "DrawnFields$State" 66 "DrawnFields" "MOST_C" "[I" "DrawnFields" ∈ xNW := List.mem_filter.mpr ⟨List.mem_of_getElem? (i := 452) (by decide +kernel), rfl⟩
theorem xML_in {o k j d : Nat} (h : xhasM o k j d = true) : (j = 1000 → Jvm.Cond.methodLink (xcn o) k objectInit ∈ xT) ∧ (j = 1001 → Jvm.Cond.methodLink (xcn o) k arraycopyName ∈ xT) ∧ (j < 1000 → d < 3 → Jvm.Cond.methodLink (xcn o) k (xyn j) ∈ xT) ∧ (j < 1000 → ¬ d < 3 → Jvm.Cond.methodLinkNest (xcn o) k (xyn j) "DrawnFields" ∈ xNW) := by
  obtain ⟨q, hq, h2⟩ := List.any_eq_true.mp h
  simp only [Bool.and_eq_true, beq_iff_eq] at h2
  obtain ⟨rfl, rfl, rfl, rfl⟩ := h2
  have h3 := List.all_eq_true.mp xML_ok q hq
  unfold xMLw at h3
  refine ⟨fun e => ?_, fun e => ?_, fun e e2 => ?_, fun e e2 => ?_⟩
  · rw [if_pos e] at h3
    exact xat_in h3
  · rw [if_neg (by omega), if_pos e] at h3
    exact xat_in h3
  · rw [if_neg (by omega), if_neg (by omega), if_pos e2] at h3
    exact xat_in h3
  · rw [if_neg (by omega), if_neg (by omega), if_neg e2] at h3
    have h4 : lw_tbl[q.2.2.2.2]? = some (.methodLinkNest (xcn q.1) q.2.1 (xyn q.2.2.1) "DrawnFields") := of_decide_eq_true h3
    exact List.mem_filter.mpr ⟨List.mem_of_getElem? h4, rfl⟩
theorem xRA_fc {U : State} {c1 c2 : ClassId} {t : FieldType} (h1 : va_RA U c1 t) (h2 : va_RA U c2 t) : c1 = c2 := by
  cases t with
  | object C =>
    obtain ⟨_, _, _, _, _, e1⟩ := h1
    obtain ⟨_, _, _, _, _, e2⟩ := h2
    exact Option.some.inj (e1.symm.trans e2)
  | _ =>
    have e1 : U.vm.findClass _ = some c1 := h1
    have e2 : U.vm.findClass _ = some c2 := h2
    exact Option.some.inj (e1.symm.trans e2)
theorem x_newarray (t : ArrayType) : xOK (.newarray t) := by
  intro p l e R s m args below meth c Q bs bS bM Ls xs cA Dg i h0 a raw len pc L L' st st' h h' hd hk hp hc hs ls H locs cells slots o k
  obtain ⟨hx, hb, hml, hown, hts, hG, hsz, hfr, hlo, hini⟩ := a
  simp only [xP] at hp
  split at hp
  · next n r =>
    obtain ⟨h2, h1, e2⟩ := Option.map_eq_some_iff.mp hp
    cases e2
    have h2l := o.1.two
    unfold xnewa at h1
    split at h1
    · next hcnd =>
      obtain ⟨c1, c2, c3⟩ := hcnd
      have hn0 : ¬ n < 0 := Int32.not_lt.mpr c1
      cases raw with
      | newarray u =>
        simp only [xckp, Bool.and_eq_true, beq_iff_eq, decide_eq_true_eq] at hk
        obtain ⟨rfl, rfl⟩ := hk
        have hA : ∀ q : Nat, s.heap.size ≤ q → (fun q => bs ≤ q) q := fun q hq => Nat.le_trans hG.2.2.2.2.2.2.2.2 hq
        have fin : ∀ (ty : FieldType) (tg : Nat) (a0 : vp_A) (q : Nat) (c9 : ClassId) (H1 : Heap), xty tg = ty → xkt tg = true → h' = h ++ [.inl (tg, a0)] → xar (xi bs bS bM) a0 = a0 → a0.1 = n.toNatClampNeg → va_K Dg vwCl ([] ++ [(c9, ty)]) s → va_P Dg vwCl (xw bs (xi bs bS bM) cA h ++ [(q, .inl (c9, a0))]) H1 → va_D (fun q => bs ≤ q) (xw bs (xi bs bS bM) cA h ++ [(q, .inl (c9, a0))]) → va_S (fun q => bs ≤ q) s.heap H1 locs → W p l e R s m args below meth c H1 locs (cells + 1) (slots + n.toNatClampNeg) Q (F0 m (pc + 2) ls (.ref q :: r.map (xv (xi bs bS bM)))) := by
          intro ty tg a0 q c9 H1 e1 e2 e3 e4 e5 aK aP aD aS
          refine xW_size (fun hz => ?_)
          have hq := xnew_at aP aD (by have := o.2.2.2.1; omega)
          have hc9 : c9 = cA tg := xRA_fc (aK.2 0 (c9, ty) rfl).2 (e1 ▸ (hG.2.1 tg e2).2)
          subst hq
          subst hc9
          subst e3
          have := k ls H1 locs (cells + 1) (slots + n.toNatClampNeg) (o.push (c := .inl (tg, a0)) (e := .inl (cA tg, a0)) e5 (by simp [xce, e4]) aP aS)
          rw [List.map_cons, xv, xi_ge h2l] at this
          exact this
        have hcell : h'.length = h.length + 1 → cells + 1 ≤ R.cells := fun e => by have := o.2.2.2.1; omega
        have hslot : xslo h' = xslo h + n.toNatClampNeg → slots + n.toNatClampNeg ≤ R.slots := fun e => by have := o.2.2.2.2; omega
        cases t with
        | int =>
          have e9 := (Option.some.inj h1).symm
          exact va_newa (D := Dg) (cl := vwCl) (tys := []) (atype := .int) (ty := .int) (a0 := (n.toNatClampNeg, .inl (fun _ => 0))) hx hb (hts _ xac_int) rfl hG.1 o.1.1 xw_D o.2.1 hA (fun _ => rfl) hn0 rfl (Nat.le_trans (Nat.mul_le_mul_right _ c2) (by decide)) (hcell (by rw [e9]; simp)) (hslot (by rw [e9, xslo_push]; rfl)) hd (fun q c9 H1 aK aP aD aS => fin .int 0 _ q c9 H1 rfl rfl e9 rfl rfl aK aP aD aS)
        | long =>
          have e9 := (Option.some.inj h1).symm
          exact va_newa (D := Dg) (cl := vwCl) (tys := []) (atype := .long) (ty := .long) (a0 := (n.toNatClampNeg, .inr (.inl (fun _ => 0)))) hx hb (hts _ xac_long) rfl hG.1 o.1.1 xw_D o.2.1 hA (fun _ => rfl) hn0 rfl (Nat.le_trans (Nat.mul_le_mul_right _ c2) (by decide)) (hcell (by rw [e9]; simp)) (hslot (by rw [e9, xslo_push]; rfl)) hd (fun q c9 H1 aK aP aD aS => fin .long 1 _ q c9 H1 rfl rfl e9 rfl rfl aK aP aD aS)
        | boolean =>
          have e9 := (Option.some.inj h1).symm
          exact va_newa (D := Dg) (cl := vwCl) (tys := []) (atype := .boolean) (ty := .boolean) (a0 := (n.toNatClampNeg, .inl (fun _ => 0))) hx hb (hts _ xac_boolean) rfl hG.1 o.1.1 xw_D o.2.1 hA (fun _ => rfl) hn0 rfl (Nat.le_trans (Nat.mul_le_mul_right _ c2) (by decide)) (hcell (by rw [e9]; simp)) (hslot (by rw [e9, xslo_push]; rfl)) hd (fun q c9 H1 aK aP aD aS => fin .boolean 2 _ q c9 H1 rfl rfl e9 rfl rfl aK aP aD aS)
        | _ => cases h1
      | _ => simp [xckp] at hk
    · cases h1
  · cases hp
theorem x_anewarray (d : Nat) : xOK (.anewarray d) := by
  intro p l e R s m args below meth c Q bs bS bM Ls xs cA Dg i h0 a raw len pc L L' st st' h h' hd hk hp hc hs ls H locs cells slots o k
  obtain ⟨hx, hb, hml, hown, hts, hG, hsz, hfr, hlo, hini⟩ := a
  simp only [xP] at hp
  split at hp
  · next n r =>
    obtain ⟨h2, h1, e2⟩ := Option.map_eq_some_iff.mp hp
    cases e2
    have h2l := o.1.two
    unfold xanew at h1
    split at h1
    · next hcnd =>
      obtain ⟨c1, c2, c3, c4⟩ := hcnd
      have hn0 : ¬ n < 0 := Int32.not_lt.mpr c1
      cases raw with
      | anewarray u =>
        simp only [xckp, Bool.and_eq_true, beq_iff_eq, decide_eq_true_eq] at hk
        obtain ⟨rfl, hC, hd10⟩ := hk
        have hA : ∀ q : Nat, s.heap.size ≤ q → (fun q => bs ≤ q) q := fun q hq => Nat.le_trans hG.2.2.2.2.2.2.2.2 hq
        have e9 := (Option.some.inj h1).symm
        obtain ⟨t1, t2, t3, t4⟩ := xra_ty c4
        rw [show 10 + d - 10 = d by omega] at t3
        have hAO := hG.2.2.2.1 (10 + d) c4
        rw [show 10 + d - 10 = d by omega] at hAO
        have hlen1 : h'.length = h.length + 1 := by rw [e9]; simp
        have hslo1 : xslo h' = xslo h + n.toNatClampNeg := by rw [e9, xslo_push]; rfl
        have hc1 : cells + 1 ≤ R.cells := by have := o.2.2.2.1; omega
        have hs1 : slots + n.toNatClampNeg ≤ R.slots := by have := o.2.2.2.2; omega
        refine va_newq (D := Dg) (cl := vwCl) (tys := []) (C := (xcl d).1) hx hb hown (hts _ (xCL_in hC)) hAO hG.1 o.1.1 xw_D o.2.1 hA hn0 rfl (Nat.le_trans (Nat.mul_le_mul_right _ c2) (by decide)) hc1 hs1 hd (fun q c9 H1 aK aP aD aS => ?_)
        refine xW_size (fun hz => ?_)
        have hq := xnew_at aP aD (by have := o.2.2.2.1; omega)
        have hc9 : c9 = cA (10 + d) := xRA_fc (aK.2 0 (c9, _) rfl).2 (t3 ▸ (hG.2.1 (10 + d) t1).2)
        subst hq
        subst hc9
        subst e9
        have := k ls H1 locs (cells + 1) (slots + n.toNatClampNeg) (o.push (c := .inl (10 + d, n.toNatClampNeg, .inr (.inr (.inr (.inr (fun _ => none)))))) (e := .inl (cA (10 + d), n.toNatClampNeg, .inr (.inr (.inr (.inr (fun _ => none)))))) rfl rfl aP aS)
        rw [List.map_cons, xv, xi_ge h2l] at this
        exact this
      | _ => simp [xckp] at hk
    · cases h1
  · cases hp
theorem x_new (d : Nat) : xOK (.new d) := by
  intro p l e R s m args below meth c Q bs bS bM Ls xs cA Dg i h0 a raw len pc L L' st st' h h' hd hk hp hc hs ls H locs cells slots o k
  obtain ⟨hx, hb, hml, hown, hts, hG, hsz, hfr, hlo, hini⟩ := a
  simp only [xP] at hp
  obtain ⟨h2, h1, e2⟩ := Option.map_eq_some_iff.mp hp
  cases e2
  have h2l := o.1.two
  unfold xnewo at h1
  split at h1
  · next c3 =>
    obtain ⟨ks, g1, g2⟩ := Option.map_eq_some_iff.mp h1
    have e9 := g2.symm
    cases raw with
    | new u =>
      simp only [xckp, Bool.and_eq_true, beq_iff_eq, decide_eq_true_eq] at hk
      obtain ⟨rfl, hC, hd10⟩ := hk
      have hA : ∀ q : Nat, s.heap.size ≤ q → (fun q => bs ≤ q) q := fun q hq => Nat.le_trans hG.2.2.2.2.2.2.2.2 hq
      obtain ⟨t1, t2, t3, t4⟩ := xcl_facts hd10
      obtain ⟨i1, i2⟩ := xcl_inst hd10
      have eks : xkinds.getD d [] = ks := by rw [List.getD_eq_getElem?_getD, g1]; rfl
      rw [eks] at t4
      have hfs : ∀ j, j < (xcl d).2.2 → defaultValue (xtyf d j) = vp_V (ks.map xdef) j := by
        intro j hj
        rw [xkok_def (t2 j hj)]
        unfold xkd
        rw [eks]
        have hj2 : j < ks.length := by omega
        simp [vp_V, hj2]
      have hlen1 : h'.length = h.length + 1 := by rw [e9]; simp
      have hslo1 : xslo h' = xslo h + (xcl d).2.2 := by rw [e9, xslo_push, ← t4]; simp [xsl]
      have hc1 : cells + 1 ≤ R.cells := by have := o.2.2.2.1; omega
      have hs1 : slots + (xcl d).2.2 ≤ R.slots := by have := o.2.2.2.2; omega
      refine va_new (D := Dg) (cl := vwCl) (tys := []) (ci := d) (C := (xcl d).1) (T := (xcl d).2.1) (N := (xcl d).2.2) (fs := ks.map xdef) hx hb hts (xcl_words hd10) (xtyf d) t1 hown (hts _ (xCL_in hC)) (hts _ i2) (hts _ i1) hG.1 o.1.1 xw_D o.2.1 hA (xcl_get hd10) hfs hc1 hs1 hd (fun q H1 aP aD aS => ?_)
      refine xW_size (fun hz => ?_)
      have hq := xnew_at aP aD (by have := o.2.2.2.1; omega)
      subst hq
      subst e9
      have := k ls H1 locs (cells + 1) (slots + (xcl d).2.2) (o.push (c := .inr (d, ks.map xdef)) (e := .inr (d, ks.map xdef)) (by simp [xsl, t4]) (by
        simp only [xce, List.map_map]
        congr 2
        apply List.map_congr_left
        intro z _
        unfold xdef
        simp only [Function.comp]
        split <;> rfl) aP aS)
      rw [List.map_cons, xv, xi_ge h2l] at this
      exact this
    | _ => simp [xckp] at hk
  · cases h1
theorem x_pop : xOK .pop := by
  intro p l e R s m args below meth c Q bs bS bM Ls xs cA Dg i h0 a raw len pc L L' st st' h h' hd hk hp hc hs ls H locs cells slots o k
  obtain ⟨hx, hb, hml, hown, hts, hG, hsz, hfr, hlo, hini⟩ := a
  simp only [xP] at hp
  split at hp
  · next q r =>
    split at hp
    · next hr4 =>
      cases hp
      cases raw with
      | invokespecial idx =>
        simp only [xckp, Bool.and_eq_true, beq_iff_eq, decide_eq_true_eq] at hk
        obtain ⟨rfl, hM, f1, f2⟩ := hk
        refine W.objInit hx hb hown (hts _ ((xML_in hM).1 rfl)) (hts _ xoi_inst) (hts _ xoi_code) rfl (by rw [hml]; exact o.2.2.1.1) rfl hd (by omega) ?_ ?_
        · have : ∀ (l : List Value), (l.map fun v => v.category).sum ≤ 2 * l.length := by
            intro l
            induction l with
            | nil => simp
            | cons v l ih =>
              simp only [List.map_cons, List.sum_cons, List.length_cons]
              have := lv_cat v
              omega
          have h5 := this (st'.map (xv (xi bs bS bM)))
          rw [List.length_map] at h5
          show 2 * 0 + _ + 12 ≤ _
          omega
        · exact k _ _ _ _ _ o
      | _ => simp [xckp] at hk
    · cases hp
  · cases hp
theorem x_getstatic (n : Nat) : xOK (.getstatic n) := by
  intro p l e R s m args below meth c Q bs bS bM Ls xs cA Dg i h0 a raw len pc L L' st st' h h' hd hk hp hc hs ls H locs cells slots o k
  obtain ⟨hx, hb, hml, hown, hts, hG, hsz, hfr, hlo, hini⟩ := a
  simp only [xP] at hp
  cases hp
  cases raw with
  | getstatic idx =>
    simp only [xckp, Bool.and_eq_true, beq_iff_eq] at hk
    obtain ⟨rfl, -, rfl, ho⟩ := hk
    rw [ho] at hown
    exact va_getsN hx hb hG.2.2.2.2.1 o.2.1 hown (va_Nw.use rfl (hG.2.2.1 _ xmc_link)) (fun _ z => z) hd (k _ _ _ _ _ o)
  | _ => simp [xckp] at hk
theorem xc1_cat {ι : Nat → Nat} {v : Value} (h : xc1 v = true) : (xv ι v).category = 1 := by
  rw [xv_cat]
  cases v <;> first | rfl | cases h
theorem x_dup : xOK .dup := by
  intro p l e R s m args below meth c Q bs bS bM Ls xs cA Dg i h0 a raw len pc L L' st st' h h' hd hk hp hc hs ls H locs cells slots o k
  obtain ⟨hx, hb, hml, hown, hts, hG, hsz, hfr, hlo, hini⟩ := a
  simp only [xP] at hp
  obtain ⟨st2, h1, h2⟩ := Option.map_eq_some_iff.mp hp
  cases h2
  obtain ⟨rfl, rfl⟩ := xsimple hk rfl
  unfold xdup at h1
  split at h1
  · split at h1
    · next hv => cases h1; exact lv_dup hx hb hd (xc1_cat hv) (k _ _ _ _ _ o)
    · cases h1
  · cases h1
theorem x_dup2 : xOK .dup2 := by
  intro p l e R s m args below meth c Q bs bS bM Ls xs cA Dg i h0 a raw len pc L L' st st' h h' hd hk hp hc hs ls H locs cells slots o k
  obtain ⟨hx, hb, hml, hown, hts, hG, hsz, hfr, hlo, hini⟩ := a
  simp only [xP] at hp
  obtain ⟨st2, h1, h2⟩ := Option.map_eq_some_iff.mp hp
  cases h2
  obtain ⟨rfl, rfl⟩ := xsimple hk rfl
  unfold xdup2 at h1
  split at h1
  · cases h1; exact lv_dup2_2 hx hb hd rfl (k _ _ _ _ _ o)
  · split at h1
    · next hv =>
      cases h1
      rw [Bool.and_eq_true] at hv
      exact lv_dup2_11 hx hb hd (xc1_cat hv.1) (xc1_cat hv.2) (k _ _ _ _ _ o)
    · cases h1
  · cases h1
theorem x_nop : xOK .nop := by
  intro p l e R s m args below meth c Q bs bS bM Ls xs cA Dg i h0 a raw len pc L L' st st' h h' hd hk hp hc hs ls H locs cells slots o k
  obtain ⟨hx, hb, hml, hown, hts, hG, hsz, hfr, hlo, hini⟩ := a
  simp only [xP] at hp
  split at hp
  · next n dp d sp q r =>
    split at hp
    · next hr =>
      subst hr
      obtain ⟨h2, h1, e2⟩ := Option.map_eq_some_iff.mp hp
      cases e2
      cases raw with
      | invokestatic idx =>
        simp only [xckp, Bool.and_eq_true, beq_iff_eq, decide_eq_true_eq] at hk
        obtain ⟨rfl, hM, f1, f2⟩ := hk
        unfold xcopy at h1
        split at h1
        · next hcnd =>
          obtain ⟨b1, b2, b3, b4, b5⟩ := hcnd
          have hloc : (([] : List Value).map fun v => v.category).sum + (nativeFrameWords "java/lang/System" "arraycopy" 5 + 11) ≤ R.locals := by
            have : (([] : List Value).map fun v => v.category).sum + (nativeFrameWords "java/lang/System" "arraycopy" 5 + 11) = 18 := by decide
            omega
          have hl1 := hts _ ((xML_in hM).2.1 rfl)
          split at h1
          · next n0 f n1 g g1 g2 =>
            split at h1
            · next hb4 =>
              cases h1
              rw [List.map_cons, List.map_cons, List.map_cons, List.map_cons, List.map_cons, xv.eq_1, xv.eq_1, xi_ge b4, xi_ge b5]
              exact va_copyi (D := Dg) (cl := vwCl) (ty := .int) hx hb (by rw [hml]; exact o.2.2.1.1.symm) hown hl1 (hts _ xsy_nat) (hts _ xsy_stat) (hts _ xsy_init) (hG.K 0 rfl) o.1.1 xw_D o.2.1 (q - 2) (d - 2) 0 0 (xw_get b4 g1) (xw_get b5 g2) rfl rfl rfl (Int32.not_lt.mpr b1) (Int32.not_lt.mpr b2) (Int32.not_lt.mpr b3) hb4.1 hb4.2 (fun _ _ => rfl) (by omega) hloc hd (fun H1 locs1 a1 a2 a3 => k _ _ _ _ _ (o.set (c := .inl (0, n1, .inl (va_cpy f g sp.toNatClampNeg dp.toNatClampNeg n.toNatClampNeg))) b5 g2 rfl rfl a1 a3))
            · cases h1
          · next n0 f n1 g g1 g2 =>
            split at h1
            · next hb4 =>
              cases h1
              rw [List.map_cons, List.map_cons, List.map_cons, List.map_cons, List.map_cons, xv.eq_1, xv.eq_1, xi_ge b4, xi_ge b5]
              exact va_copyl (D := Dg) (cl := vwCl) (ty := .long) hx hb (by rw [hml]; exact o.2.2.1.1.symm) hown hl1 (hts _ xsy_nat) (hts _ xsy_stat) (hts _ xsy_init) (hG.K 1 rfl) o.1.1 xw_D o.2.1 (q - 2) (d - 2) 0 0 (xw_get b4 g1) (xw_get b5 g2) rfl rfl rfl (Int32.not_lt.mpr b1) (Int32.not_lt.mpr b2) (Int32.not_lt.mpr b3) hb4.1 hb4.2 (fun _ _ => rfl) (by omega) hloc hd (fun H1 locs1 a1 a2 a3 => k _ _ _ _ _ (o.set (c := .inl (1, n1, .inr (.inl (va_cpy f g sp.toNatClampNeg dp.toNatClampNeg n.toNatClampNeg)))) b5 g2 rfl rfl a1 a3))
            · cases h1
          · cases h1
        · cases h1
      | _ => simp [xckp] at hk
    · cases hp
  · cases hp
/-- every instruction that neither jumps nor calls -/
theorem xP_ok (ins : Instr) : xOK ins := by
  cases ins with
  | iconst v => exact x_iconst v
  | sipush v => exact x_sipush v
  | iload j => exact x_iload j
  | lload j => exact x_lload j
  | aload j => exact x_aload j
  | istore j => exact x_istore j
  | lstore j => exact x_lstore j
  | astore j => exact x_astore j
  | iinc j v => exact x_iinc j v
  | getfield n => exact x_getfield n
  | putfield n => exact x_putfield n
  | getstatic n => exact x_getstatic n
  | newarray t => exact x_newarray t
  | anewarray d => exact x_anewarray d
  | new d => exact x_new d
  | nop => exact x_nop
  | pop => exact x_pop
  | dup => exact x_dup
  | dup2 => exact x_dup2
  | iaload => exact x_iaload
  | baload => exact x_baload
  | laload => exact x_laload
  | aaload => exact x_aaload
  | iastore => exact x_iastore
  | bastore => exact x_bastore
  | lastore => exact x_lastore
  | aastore => exact x_aastore
  | arraylength => exact x_arraylength
  | iadd => exact x_iadd
  | isub => exact x_isub
  | imul => exact x_imul
  | idiv => exact x_idiv
  | irem => exact x_irem
  | iand => exact x_iand
  | ior => exact x_ior
  | ixor => exact x_ixor
  | ishl => exact x_ishl
  | ishr => exact x_ishr
  | iushr => exact x_iushr
  | ladd => exact x_ladd
  | lsub => exact x_lsub
  | lmul => exact x_lmul
  | ldiv => exact x_ldiv
  | lrem => exact x_lrem
  | land => exact x_land
  | lor => exact x_lor
  | lxor => exact x_lxor
  | lshl => exact x_lshl
  | lshr => exact x_lshr
  | lushr => exact x_lushr
  | lcmp => exact x_lcmp
  | i2l => exact x_i2l
  | l2i => exact x_l2i
  | _ =>
    intro p l e R s m args below meth c Q bs bS bM Ls xs cA Dg i h0 a raw len pc L L' st st' h h' hd hk hp hc hs ls H locs cells slots o k
    simp [xP] at hp
end
section
/-! ===== runs: heaps only grow; a method's entry; switches ===== -/
theorem xP_len {ins : Instr} {L L' : xL} {st st' : xS} {h h' : xH} (hp : xP ins L st h = some (L', st', h')) : h.length ≤ h'.length ∧ xslo h ≤ xslo h' := by
  have same : h' = h → h.length ≤ h'.length ∧ xslo h ≤ xslo h' := fun e => by subst e; exact ⟨Nat.le_refl _, Nat.le_refl _⟩
  have sets : ∀ (a : Nat) (c0 c : xC), h[a]? = some c0 → h' = h.set a c → xsl c = xsl c0 → h.length ≤ h'.length ∧ xslo h ≤ xslo h' := fun a c0 c e1 e3 e2 => by
    subst e3
    rw [List.length_set, xslo_set e1 e2]
    exact ⟨Nat.le_refl _, Nat.le_refl _⟩
  have pushes : ∀ (c : xC), h' = h ++ [c] → h.length ≤ h'.length ∧ xslo h ≤ xslo h' := fun c e => by
    subst e
    rw [xslo_push, List.length_append]
    exact ⟨Nat.le_add_right _ _, Nat.le_add_right _ _⟩
  cases ins with
  | putfield n =>
    simp only [xP] at hp
    split at hp
    · obtain ⟨h2, h1, e2⟩ := Option.map_eq_some_iff.mp hp
      cases e2
      obtain ⟨fs, g1, g2, g3, g4⟩ := xput_inv h1
      exact sets _ _ _ g1 g4 (by simp [xsl])
    · cases hp
  | iastore =>
    simp only [xP] at hp
    split at hp
    · obtain ⟨h2, h1, e2⟩ := Option.map_eq_some_iff.mp hp
      cases e2
      obtain ⟨n, f, g1, g2, g3, g9⟩ := xiast_inv h1
      exact sets _ _ _ g1 g9 rfl
    · cases hp
  | bastore =>
    simp only [xP] at hp
    split at hp
    · obtain ⟨h2, h1, e2⟩ := Option.map_eq_some_iff.mp hp
      cases e2
      obtain ⟨n, f, g1, g2, g3, g4, g9⟩ := xzast_inv h1
      exact sets _ _ _ g1 g9 rfl
    · cases hp
  | lastore =>
    simp only [xP] at hp
    split at hp
    · obtain ⟨h2, h1, e2⟩ := Option.map_eq_some_iff.mp hp
      cases e2
      obtain ⟨n, f, g1, g2, g3, g9⟩ := xlast_inv h1
      exact sets _ _ _ g1 g9 rfl
    · cases hp
  | aastore =>
    simp only [xP] at hp
    split at hp
    · obtain ⟨h2, h1, e2⟩ := Option.map_eq_some_iff.mp hp
      cases e2
      obtain ⟨t, n, f, g1, g2, g3, g4, g5, g6, g9⟩ := xaast_inv h1
      exact sets _ _ _ g1 g9 rfl
    · cases hp
  | newarray t =>
    simp only [xP] at hp
    split at hp
    · obtain ⟨h2, h1, e2⟩ := Option.map_eq_some_iff.mp hp
      cases e2
      unfold xnewa at h1
      split at h1
      · cases t with
        | int => exact pushes _ (Option.some.inj h1).symm
        | long => exact pushes _ (Option.some.inj h1).symm
        | boolean => exact pushes _ (Option.some.inj h1).symm
        | _ => cases h1
      · cases h1
    · cases hp
  | anewarray d =>
    simp only [xP] at hp
    split at hp
    · obtain ⟨h2, h1, e2⟩ := Option.map_eq_some_iff.mp hp
      cases e2
      unfold xanew at h1
      split at h1
      · exact pushes _ (Option.some.inj h1).symm
      · cases h1
    · cases hp
  | new d =>
    simp only [xP] at hp
    obtain ⟨h2, h1, e2⟩ := Option.map_eq_some_iff.mp hp
    cases e2
    unfold xnewo at h1
    split at h1
    · obtain ⟨ks, g1, g2⟩ := Option.map_eq_some_iff.mp h1
      exact pushes _ g2.symm
    · cases h1
  | nop =>
    simp only [xP] at hp
    split at hp
    · split at hp
      · obtain ⟨h2, h1, e2⟩ := Option.map_eq_some_iff.mp hp
        cases e2
        unfold xcopy at h1
        split at h1
        · split at h1
          · next g1 g2 =>
            split at h1
            · exact sets _ _ _ g2 (Option.some.inj h1).symm rfl
            · cases h1
          · next g1 g2 =>
            split at h1
            · exact sets _ _ _ g2 (Option.some.inj h1).symm rfl
            · cases h1
          · cases h1
        · cases h1
      · cases hp
    · cases hp
  | pop =>
    simp only [xP] at hp
    split at hp
    · split at hp
      · cases hp; exact same rfl
      · cases hp
    · cases hp
  | iinc j v =>
    simp only [xP] at hp
    split at hp
    · obtain ⟨_, _, e2⟩ := Option.map_eq_some_iff.mp hp
      cases e2
      exact same rfl
    · cases hp
  | _ =>
    first
      | (simp [xP] at hp; done)
      | (simp only [xP] at hp; cases hp; exact same rfl)
      | (simp only [xP] at hp; obtain ⟨_, _, e2⟩ := Option.map_eq_some_iff.mp hp; cases e2; exact same rfl)
      | (simp only [xP] at hp
         split at hp
         · first
             | (cases hp; exact same rfl)
             | (obtain ⟨_, _, e2⟩ := Option.map_eq_some_iff.mp hp; cases e2; exact same rfl)
         · cases hp)
theorem xB_len {c1 : Nat → List Value → xH → xR} {j1 : Nat → xL → xS → xH → xR} (hc : ∀ j as h v h', c1 j as h = some (v, h') → h.length ≤ h'.length ∧ xslo h ≤ xslo h') (hj : ∀ t L st h v h', j1 t L st h = some (v, h') → h.length ≤ h'.length ∧ xslo h ≤ xslo h') :
    ∀ (b : List xI) (L : xL) (st : xS) (h : xH) (v : Option Value) (h' : xH), xB c1 j1 b L st h = some (v, h') → h.length ≤ h'.length ∧ xslo h ≤ xslo h' := by
  intro b
  induction b with
  | nil => intro L st h v h' e; simp [xB] at e
  | cons i t ih =>
    intro L st h v h' e
    cases i with
    | inl p =>
      simp only [xB] at e
      obtain ⟨⟨q1, q2, q3⟩, h1, h2⟩ := Option.bind_eq_some_iff.mp e
      have a1 := xP_len h1
      have a2 := ih _ _ _ _ _ h2
      simp only at a2
      omega
    | inr c =>
      cases c with
      | goto u => simp only [xB] at e; exact hj _ _ _ _ _ _ e
      | goto_w u => simp only [xB] at e; exact hj _ _ _ _ _ _ e
      | ifCond c u =>
        simp only [xB] at e
        split at e
        · split at e
          · exact hj _ _ _ _ _ _ e
          · exact ih _ _ _ _ _ e
        · cases e
      | if_icmp c u =>
        simp only [xB] at e
        split at e
        · split at e
          · exact hj _ _ _ _ _ _ e
          · exact ih _ _ _ _ _ e
        · cases e
      | lookupswitch d ps =>
        simp only [xB] at e
        split at e
        · exact hj _ _ _ _ _ _ e
        · cases e
      | ireturn =>
        simp only [xB] at e
        split at e
        · cases e; exact ⟨Nat.le_refl _, Nat.le_refl _⟩
        · cases e
      | areturn =>
        simp only [xB] at e
        split at e
        · split at e
          · cases e; exact ⟨Nat.le_refl _, Nat.le_refl _⟩
          · cases e
        · cases e
      | lreturn =>
        simp only [xB] at e
        split at e
        · cases e; exact ⟨Nat.le_refl _, Nat.le_refl _⟩
        · cases e
      | return_ =>
        simp only [xB] at e
        split at e
        · cases e; exact ⟨Nat.le_refl _, Nat.le_refl _⟩
        · cases e
      | invokeinterface j n =>
        simp only [xB] at e
        split at e
        · obtain ⟨⟨q1, q2⟩, h1, h2⟩ := Option.bind_eq_some_iff.mp e
          have a1 := hc _ _ _ _ _ h1
          have a2 := ih _ _ _ _ _ h2
          simp only at a2
          omega
        · cases e
      | _ => simp [xB] at e
theorem xF_len : ∀ (n i pc : Nat) (L : xL) (st : xS) (h : xH) (v : Option Value) (h' : xH), xF n i pc L st h = some (v, h') → h.length ≤ h'.length ∧ xslo h ≤ xslo h' := by
  intro n
  induction n with
  | zero => intro i pc L st h v h' e; simp [xF] at e
  | succ n ih =>
    intro i pc L st h v h' e
    rw [xF] at e
    obtain ⟨b, h1, h2⟩ := Option.bind_eq_some_iff.mp e
    refine xB_len (fun j as h v h' q => ?_) (fun t L st h v h' q => ih _ _ _ _ _ _ _ q) _ _ _ _ _ _ h2
    split at q
    · exact ih _ _ _ _ _ _ _ q
    · cases q
theorem xlo_cons (v : Value) (t : List Value) : xlo (v :: t) = if v.category = 2 then some v :: none :: xlo t else some v :: xlo t := by
  cases v <;> rfl
theorem xlo_len (ι : Nat → Nat) : ∀ as : List Value, (lg_sl (as.map (xv ι))).length = (xlo as).length
  | [] => rfl
  | v :: t => by
    have ih := xlo_len ι t
    rw [xlo_cons, List.map_cons, lg_sl, List.flatMap_cons, List.length_append, xv_cat]
    change _ + (lg_sl (t.map (xv ι))).length = _
    rw [ih]
    split
    · simp; omega
    · simp; omega
theorem xld_none : ∀ (n j : Nat) (v : Value), xld (List.replicate n none) j = some v → False
  | 0, j, v, h => by simp [xld] at h
  | n + 1, 0, v, h => by simp [List.replicate_succ, xld] at h
  | n + 1, j + 1, v, h => xld_none n j v (by simpa [List.replicate_succ, xld] using h)
theorem xlo_args (ι : Nat → Nat) (n : Nat) : ∀ (as : List Value) (k j : Nat) (v : Value), xld (xlo as ++ List.replicate n none) j = some v → (k + j, xv ι v) ∈ lv_args k (as.map (xv ι))
  | [], k, j, v, h => (xld_none n j v (by simpa [xlo] using h)).elim
  | w :: t, k, j, v, h => by
    rw [xlo_cons] at h
    rw [List.map_cons, lv_args, xv_cat]
    split at h
    · next hw =>
      rw [if_pos hw]
      match j, h with
      | 0, h =>
        have : w = v := by simpa [xld] using h
        subst this
        exact List.mem_cons_self
      | 1, h => simp [xld] at h
      | j + 2, h =>
        have := xlo_args ι n t (k + 2) j v (by simpa [xld] using h)
        rw [show k + 2 + j = k + (j + 2) by omega] at this
        exact List.mem_cons_of_mem _ this
    · next hw =>
      rw [if_neg hw]
      match j, h with
      | 0, h =>
        have : w = v := by simpa [xld] using h
        subst this
        exact List.mem_cons_self
      | j + 1, h =>
        have := xlo_args ι n t (k + 1) j v (by simpa [xld] using h)
        rw [show k + 1 + j = k + (j + 1) by omega] at this
        exact List.mem_cons_of_mem _ this
theorem xent_ok (ι : Nat → Nat) {as : List Value} {nL : Nat} (h : (xlo as).length ≤ nL) : xLs ι ((lg_sl (as.map (xv ι)) ++ List.replicate (nL - (lg_sl (as.map (xv ι))).length) Slot.unset).toArray) nL (xlo as ++ List.replicate (nL - (xlo as).length) none) := by
  have hl := lv_entry (as.map (xv ι)) (n := nL) (by rw [xlo_len]; exact h)
  refine ⟨hl.1, by simp; omega, hl.2.1, fun j v hv => ?_⟩
  have := xlo_args ι _ as 0 j v hv
  rw [Nat.zero_add] at this
  exact hl.2.2 (j, xv ι v) this
theorem xsw_out (pc : Nat) (d a : Int) : ∀ (l : List Int) (lo : Int), (a < lo ∨ lo + l.length ≤ a) → xsw (xpairs pc lo l) d a = d
  | [], lo, _ => rfl
  | o :: r, lo, h => by
    rw [xpairs, xsw, if_neg (by simp only [List.length_cons] at h; omega)]
    exact xsw_out pc d a r (lo + 1) (by simp only [List.length_cons] at h; omega)
theorem xsw_in (pc : Nat) (d a : Int) : ∀ (l : List Int) (lo : Int), lo ≤ a → a < lo + l.length → ∃ o, l[(a - lo).toNat]? = some o ∧ xsw (xpairs pc lo l) d a = (pc : Int) + o ∧ (a, (pc : Int) + o) ∈ xpairs pc lo l
  | [], lo, h1, h2 => by simp only [List.length_nil] at h2; omega
  | o :: r, lo, h1, h2 => by
    rw [xpairs, xsw]
    by_cases e : a = lo
    · subst e
      exact ⟨o, by simp, by rw [if_pos rfl], List.mem_cons_self⟩
    · obtain ⟨o', g1, g2, g3⟩ := xsw_in pc d a r (lo + 1) (by omega) (by simp only [List.length_cons] at h2; omega)
      refine ⟨o', ?_, by rw [if_neg e]; exact g2, List.mem_cons_of_mem _ g3⟩
      rw [show (a - lo).toNat = (a - (lo + 1)).toNat + 1 by omega, List.getElem?_cons_succ]
      exact g1
end
section
/-! ===== soundness: what the abstract machine answers, the machine answers ===== -/
/-- a return instruction that fits the method and the answer -/
def xretok (i : Nat) (raw : Instr) (v : Option Value) : Prop :=
  (raw = .ireturn ∧ xrt i = some .int ∧ ∃ x, v = some (.int x)) ∨ (raw = .ireturn ∧ xrt i = some .boolean ∧ ∃ x, v = some (.int x) ∧ (x = 0 ∨ x = 1)) ∨ (raw = .lreturn ∧ xrt i = some .long ∧ ∃ x, v = some (.long x)) ∨ (raw = .return_ ∧ xrt i = none ∧ v = none)
/-- what is taken of a method's end -/
def xRet (bs bS bM Ls : Nat) (xs : Nat → Int32) (cA : Nat → ClassId) (Dg : va_G) (i : Nat) (h0 : xH) (v : Option Value) (h' : xH) (p : Program) (l : Launch) (e : Env) (R : Room) (s : State) (m : MethodId) (args : Array Value) (below : List Frame) (meth : Method) (c : Code) (Q : State → Prop) : Prop :=
  ∀ (pc : Nat) (raw : Instr) (ls : Array Slot) (H : Heap) (locs : List Loc) (cells slots : Nat), xRel bs bS bM Ls xs cA Dg h' H → va_S (fun q => bs ≤ q) s.heap H locs → cells + h0.length = h'.length → slots + xslo h0 = xslo h' → decode (xby i) pc = .ok (raw, 1) → xretok i raw v → W p l e R s m args below meth c H locs cells slots Q (F0 m pc ls (v.toList.map (xv (xi bs bS bM))))
def xSound (n : Nat) : Prop := ∀ (i pc : Nat) (L : xL) (st : xS) (h : xH) (v : Option Value) (h' : xH), xF n i pc L st h = some (v, h') →
  ∀ {p : Program} {l : Launch} {e : Env} {R : Room} {s : State} {m : MethodId} {args : Array Value} {below : List Frame} {meth : Method} {c : Code} {Q : State → Prop} {bs bS bM Ls : Nat} {xs : Nat → Int32} {cA : Nat → ClassId} {Dg : va_G} {h0 : xH},
  xAct bs bS bM Ls xs cA Dg i h0 p R s m args meth c → h'.length ≤ h0.length + R.cells → xslo h' ≤ xslo h0 + R.slots → xRet bs bS bM Ls xs cA Dg i h0 v h' p l e R s m args below meth c Q →
  ∀ {ls : Array Slot} {H : Heap} {locs : List Loc} {cells slots : Nat}, xOn bs bS bM Ls xs cA Dg i h0 s L h ls H locs cells slots → W p l e R s m args below meth c H locs cells slots Q (F0 m pc ls (st.map (xv (xi bs bS bM))))
/-- a method's contract: what stands before and behind a run from heap h to h' -/
def xPre (bs bS bM Ls : Nat) (xs : Nat → Int32) (cA : Nat → ClassId) (Dg : va_G) (h : xH) (as : List Value) : Array Value → State → Prop :=
  va_Pc as (fun U => xG bs bS bM Ls xs cA Dg U U.heap ∧ xRel bs bS bM Ls xs cA Dg h U.heap ∧ U.heap.size ≤ bs + (h.length - 2))
def xPost (bs bS bM Ls : Nat) (xs : Nat → Int32) (cA : Nat → ClassId) (Dg : va_G) (h' : xH) (v : Option Value) : Array Value → State → Outcome → State → Prop :=
  fun _ st oc t => oc = .returned (v.map (xv (xi bs bS bM))) ∧ xRel bs bS bM Ls xs cA Dg h' t.heap ∧ st.heap.size ≤ t.heap.size ∧ ∀ q : Nat, q < st.heap.size → ¬ bs ≤ q → t.heap[q]? = st.heap[q]?
theorem xMWi {j : Nat} (hj : j < 188) : xMWw j = true := List.all_eq_true.mp xMW_ok j (List.mem_range.mpr hj)
theorem xMWf {j : Nat} (hj : j < 188) : ((xmw j).2.2.2.2 = true → Jvm.Cond.static (xyn j) ∈ xT) ∧ ((xmw j).2.2.2.2 = false → Jvm.Cond.instanceMethod (xyn j) ∈ xT) ∧ ((xmw j).2.2.2.2 = false → xinit j = false → Jvm.Cond.selects (xcn (xon j)) (xyn j) (xyn j) ∈ xT) ∧ (parseMethodDescriptor (xyn j).desc).map (fun d => d.parameters.length) = some (xnp j) ∧ xcn (xon j) = (xyn j).cls ∧ plainName (xyn j).cls = true ∧ (xyn j).cls ≠ "java/lang/invoke/MethodHandle" ∧ (xyn j).cls ≠ "java/lang/invoke/VarHandle" ∧ xon j < 12 := by
  have h := xMWi hj
  unfold xMWw at h
  simp only [Bool.and_eq_true, decide_eq_true_eq] at h
  obtain ⟨⟨⟨⟨⟨⟨⟨h1, h2⟩, h3⟩, h4⟩, h5⟩, h6⟩, h7⟩, h8⟩ := h
  refine ⟨fun e => ?_, fun e => ?_, fun e e2 => ?_, h3, h4, h5, h6, h7, h8⟩
  · rw [e] at h1; exact xat_in h1
  · rw [e] at h1; exact xat_in h1
  · unfold xinit at e2
    rw [e, e2] at h2
    exact xat_in (by simpa using h2)
theorem xgood {j : Nat} (hj : j < 188) : GoodIn xT (xcw j :: xT) := by
  intro w hw
  have hm : w ∈ xT := (List.mem_cons.mp hw).elim (fun e => by rw [e]; exact xcode_in hj) id
  exact ⟨hm, good_of_word (List.mem_filter.mp hm).2⟩
theorem xinitd {j : Nat} (hj : j < 188) : Jvm.Cond.initialized (xyn j).cls ∈ xT := by
  obtain ⟨-, -, -, -, h4, -, -, -, h8⟩ := xMWf hj
  have h1 := List.all_eq_true.mp xCW_ok (xon j) (List.mem_range.mpr (by omega))
  simp only [Bool.and_eq_true] at h1
  rw [← h4]
  exact xat_in h1.1
set_option maxRecDepth 100000 in
theorem xinit_rts : (List.range 188).all (fun j => !xinit j || decide (xrt j = none)) = true := by decide +kernel
theorem xinit_rt {j : Nat} (hj : j < 188) (h : xinit j = true) : xrt j = none := by
  have := List.all_eq_true.mp xinit_rts j (List.mem_range.mpr hj)
  rw [h] at this
  simpa using this
/-- METHODS: from the runs of its body -/
theorem xMet {n : Nat} (IH : xSound n) {l : Launch} {bs bS bM Ls : Nat} {xs : Nat → Int32} {cA : Nat → ClassId} {Dg : va_G} {j : Nat} {as : List Value} {h h' : xH} {v : Option Value} (hg : xcg j as h = true) (hj : j < 188) (hr : xF n j 0 (xent j as) [] h = some (v, h')) (h2 : 2 ≤ h.length) :
    Met l (xyn j) (xcw j :: xT) { frames := xfm j, cells := h'.length - h.length, slots := xslo h' - xslo h, locals := xlw j } (xPre bs bS bM Ls xs cA Dg h (as.map (xv (xi bs bS bM)))) (xPost bs bS bM Ls xs cA Dg h' v) (h'.length - h.length) (xslo h' - xslo h) (fun q => bs ≤ q) := by
  obtain ⟨-, -, -, w3, w4, w5, w6, w7, w8⟩ := xMWf hj
  obtain ⟨l1, l2⟩ := xF_len _ _ _ _ _ _ _ _ hr
  refine Met.ofW (cc := xby j) (maxL := xmL j) (ret := xrt j) w5 rfl ?_
  intro p e s m args below meth c s₁ B hml hv
  obtain ⟨rfl, hG, hRel, hsz⟩ := hv
  have hfit : (xlo as).length ≤ xmL j := by
    unfold xcg at hg
    rw [Bool.and_eq_true] at hg
    exact of_decide_eq_true hg.1
  have hts := atoms_spec (ws := xcw j :: xT) B.pre
  have act : xAct bs bS bM Ls xs cA Dg j h p (headSpec (xcw j :: xT) { frames := xfm j, cells := h'.length - h.length, slots := xslo h' - xslo h, locals := xlw j }).room s m (as.map (xv (xi bs bS bM))).toArray meth c := by
    refine ⟨B.exec, B.bytes, hml, by rw [w4]; exact findClass_of_methodNamed B.named, fun w hw => hts w (List.mem_cons_of_mem _ hw), hG, ⟨hsz, h2⟩, Nat.le_refl _, Nat.le_refl _, fun hi => ?_⟩
    rw [(name_of_methodNamed B.named B.method).1]
    exact eq_of_beq hi
  rw [lg_entry_eq]
  have hlocks := B.notSynchronized
  refine IH j 0 (xent j as) [] h v h' hr act (by show h'.length ≤ h.length + (h'.length - h.length); omega) (by show xslo h' ≤ xslo h + (xslo h' - xslo h); omega) ?_ (cells := 0) (slots := 0) ⟨hRel, va_S.rf, xent_ok (xi bs bS bM) hfit, by omega, by omega⟩
  intro pc raw ls H locs cells slots aRel aS c1 c2 hd hok
  have ec : cells = h'.length - h.length := by omega
  have es : slots = xslo h' - xslo h := by omega
  subst ec
  subst es
  rcases hok with ⟨rfl, ht, x, rfl⟩ | ⟨rfl, ht, x, rfl, hx⟩ | ⟨rfl, ht, x, rfl⟩ | ⟨rfl, ht, rfl⟩
  · exact W.iret B.exec B.bytes (B.returns.trans ht) (fun t ht hW => ⟨rfl, by rw [ht]; exact aRel, by rw [ht]; exact aS.1, fun q q1 q2 => by rw [ht]; exact aS.2.1 q q1 q2⟩) aS.2.2 hd hlocks
  · exact W.zret (ty := .boolean) B.exec B.bytes (B.returns.trans ht) (by rcases hx with rfl | rfl <;> decide) (fun t ht hW => ⟨rfl, by rw [ht]; exact aRel, by rw [ht]; exact aS.1, fun q q1 q2 => by rw [ht]; exact aS.2.1 q q1 q2⟩) aS.2.2 hd hlocks
  · exact W.lret B.exec B.bytes (B.returns.trans ht) (fun t ht hW => ⟨rfl, by rw [ht]; exact aRel, by rw [ht]; exact aS.1, fun q q1 q2 => by rw [ht]; exact aS.2.1 q q1 q2⟩) aS.2.2 hd hlocks
  · exact W.vret B.exec B.bytes (B.returns.trans ht) (fun t ht hW => ⟨rfl, by rw [ht]; exact aRel, by rw [ht]; exact aS.1, fun q q1 q2 => by rw [ht]; exact aS.2.1 q q1 q2⟩) aS.2.2 hd hlocks
/-- behind a call -/
theorem xcalled {p : Program} {l : Launch} {e : Env} {R : Room} {s : State} {m : MethodId} {args : Array Value} {below : List Frame} {meth : Method} {c : Code} {Q : State → Prop} {H : Heap} {locs : List Loc} {cells slots mc ms pc : Nat} {ls : Array Slot} {st0 rest : List Value} {a : Array Value}
    {bs bS bM Ls : Nat} {xs : Nat → Int32} {cA : Nat → ClassId} {Dg : va_G} {h' : xH} {v : Option Value}
    (hr : va_Run p l e R s m args below meth c H locs cells slots mc ms (F0 m pc ls st0) rest (xPost bs bS bM Ls xs cA Dg h' v a) (fun q => bs ≤ q)) (hS : va_S (fun q => bs ≤ q) s.heap H locs)
    (kk : ∀ (H1 : Heap) (locs1 : List Loc), xRel bs bS bM Ls xs cA Dg h' H1 → va_S (fun q => bs ≤ q) s.heap H1 locs1 → W p l e R s m args below meth c H1 locs1 (cells + mc) (slots + ms) Q (F0 m (pc + 3) ls ((v.map (xv (xi bs bS bM))).toList ++ rest))) :
    W p l e R s m args below meth c H locs cells slots Q (F0 m pc ls st0) := by
  intro T hT X
  obtain ⟨v', st₀, t, T', L, h0, X', hL, e1, e2, ⟨q1, q2, q3, q4⟩, st⟩ := hr T hT X
  cases q1
  subst h0
  obtain ⟨t2, a1, b1⟩ := kk t.heap (locs ++ L) q2 ⟨Nat.le_trans hS.1 q3, fun q g1 g2 => (q4 q (Nat.lt_of_lt_of_le g1 hS.1) g2).trans (hS.2.1 q g1 g2), fun z hz => (List.mem_append.mp hz).elim (hS.2.2 z) (hL z)⟩ T' e1 X'
  exact ⟨t2, st t2 a1, b1⟩
theorem xPre_blind {bs bS bM Ls : Nat} {xs : Nat → Int32} {cA : Nat → ClassId} {Dg : va_G} {h : xH} {as : List Value} : FrameBlind (xPre bs bS bM Ls xs cA Dg h as) := by
  intro a U g mk q
  exact ⟨q.1, q.2.1.calling g mk a, q.2.2⟩
theorem xcat_sum : ∀ (l : List Value), (l.map fun v => v.category).sum ≤ 2 * l.length
  | [] => by simp
  | v :: l => by
    have := xcat_sum l
    simp only [List.map_cons, List.sum_cons, List.length_cons]
    have := lv_cat v
    omega
/-- CALLS -/
theorem xCall {n : Nat} (IH : xSound n) {p : Program} {l : Launch} {e : Env} {R : Room} {s : State} {m : MethodId} {args : Array Value} {below : List Frame} {meth : Method} {c : Code} {Q : State → Prop} {bs bS bM Ls : Nat} {xs : Nat → Int32} {cA : Nat → ClassId} {Dg : va_G} {i : Nat} {h0 : xH}
    (act : xAct bs bS bM Ls xs cA Dg i h0 p R s m args meth c) {raw : Instr} {len pc j k : Nat} {L : xL} {st : xS} {h h' : xH} {v : Option Value} (hd : decode (xby i) pc = .ok (raw, len)) (hk : xckc i pc raw len (.invokeinterface j k) = true) (hkl : k ≤ st.length) (hk4 : (st.drop k).length ≤ 4)
    (hg : xcg j (st.take k).reverse h = true) (hr : xF n j 0 (xent j (st.take k).reverse) [] h = some (v, h')) (hc : h'.length ≤ h0.length + R.cells) (hs : xslo h' ≤ xslo h0 + R.slots)
    {ls : Array Slot} {H : Heap} {locs : List Loc} {cells slots : Nat} (o : xOn bs bS bM Ls xs cA Dg i h0 s L h ls H locs cells slots)
    (kk : ∀ (H' : Heap) (locs' : List Loc) (cells' slots' : Nat), xOn bs bS bM Ls xs cA Dg i h0 s L h' ls H' locs' cells' slots' → W p l e R s m args below meth c H' locs' cells' slots' Q (F0 m (pc + len) ls ((v.toList ++ st.drop k).map (xv (xi bs bS bM))))) :
    W p l e R s m args below meth c H locs cells slots Q (F0 m pc ls (st.map (xv (xi bs bS bM)))) := by
  obtain ⟨hx, hb, hml, hown, hts, hG, ⟨hsz, h02⟩, hfr, hlo, hini⟩ := act
  obtain ⟨l1, l2⟩ := xF_len _ _ _ _ _ _ _ _ hr
  have h2 := o.1.two
  obtain ⟨oR, oS, oL, oc, os⟩ := o
  refine xW_size (fun hz => ?_)
  have hsize : H.size ≤ bs + (h.length - 2) := by omega
  have hS4 : (((st.drop k).map (xv (xi bs bS bM))).map fun v => v.category).sum ≤ 8 := by
    have := xcat_sum ((st.drop k).map (xv (xi bs bS bM)))
    rw [List.length_map] at this
    omega
  have key : ∀ (idx : Nat), len = 3 → xroom i j = true → (∀ (hj : j < 188), va_Run p l e R s m args below meth c H locs cells slots (h'.length - h.length) (xslo h' - xslo h) (F0 m pc ls (st.map (xv (xi bs bS bM)))) ((st.drop k).map (xv (xi bs bS bM))) (xPost bs bS bM Ls xs cA Dg h' v ((st.take k).reverse.map (xv (xi bs bS bM))).toArray) (fun q => bs ≤ q)) → W p l e R s m args below meth c H locs cells slots Q (F0 m pc ls (st.map (xv (xi bs bS bM)))) := by
    intro idx hl hroom hrun
    subst hl
    unfold xroom at hroom
    simp only [Bool.and_eq_true, decide_eq_true_eq] at hroom
    refine xcalled (hrun hroom.2.2) oS (fun H1 locs1 a1 a2 => ?_)
    have := kk H1 locs1 (cells + (h'.length - h.length)) (slots + (xslo h' - xslo h)) ⟨a1, a2, oL, by omega, by omega⟩
    rw [List.map_append] at this
    cases v with
    | none => exact this
    | some w => exact this
  have hroomR : xroom i j = true → ({ frames := xfm j, cells := h'.length - h.length, slots := xslo h' - xslo h, locals := xlw j } : Room).frames + 1 ≤ R.frames ∧ 8 + (xmL j + 11) + ({ frames := xfm j, cells := h'.length - h.length, slots := xslo h' - xslo h, locals := xlw j } : Room).locals ≤ R.locals := by
    intro hroom
    unfold xroom at hroom
    simp only [Bool.and_eq_true, decide_eq_true_eq] at hroom
    exact ⟨by show xfm j + 1 ≤ R.frames; omega, by show 8 + (xmL j + 11) + xlw j ≤ R.locals; omega⟩
  have hfit2 : cells + (h'.length - h.length) ≤ R.cells ∧ slots + (xslo h' - xslo h) ≤ R.slots := ⟨by omega, by omega⟩
  have hpre : ∀ U : State, U.heap = H → s.WarmedH U.vm → xPre bs bS bM Ls xs cA Dg h ((st.take k).reverse.map (xv (xi bs bS bM))) ((st.take k).reverse.map (xv (xi bs bS bM))).toArray U := by
    intro U hU hW
    refine ⟨rfl, ?_, ?_, ?_⟩
    · rw [hU]; exact hG.warm hW oS.1 oS.2.1
    · rw [hU]; exact oR
    · rw [hU]; exact hsize
  have hstk : st.map (xv (xi bs bS bM)) = ((st.take k).reverse.map (xv (xi bs bS bM))).reverse ++ (st.drop k).map (xv (xi bs bS bM)) := by
    rw [← List.map_reverse, List.reverse_reverse, ← List.map_append, List.take_append_drop]
  have hlen : (st.take k).reverse.length = k := by rw [List.length_reverse, List.length_take]; omega
  cases raw with
  | invokevirtual idx =>
    simp only [xckc, Bool.and_eq_true, beq_iff_eq, Bool.not_eq_true'] at hk
    obtain ⟨hl3, hM, hn, hroom, hns, hni, hvk⟩ := hk
    refine key idx hl3 hroom (fun hj => ?_)
    obtain ⟨-, w1, w2, w3, w4, w5, w6, w7, w8⟩ := xMWf hj
    generalize hAs : (st.take k).reverse = As at hg hr hpre hstk hlen ⊢
    unfold xcg at hg
    rw [Bool.and_eq_true, hvk] at hg
    have hg2 := hg.2
    simp only at hg2
    match As, hlen, hg2 with
    | .ref a :: As', hlen, hg2 =>
      obtain ⟨fs, hfs⟩ := xobj_inv hg2
      have ha2 := oR.obj hfs
      have hon : xon j < 10 := by
        by_cases q : xon j < 10
        · exact q
        · exfalso
          have hrel := oR.1 _ _ (xw_get (bs := bs) (ι := xi bs bS bM) (cA := cA) ha2 hfs)
          obtain ⟨r, hr1, -⟩ := hrel
          have hr2 : vwCl[xon j]? = some r := hr1
          rw [List.getElem?_eq_none (by show 10 ≤ xon j; omega)] at hr2
          cases hr2
      have hcn : xcn (xon j) = (xcl (xon j)).1 := by
        have h1 := List.all_eq_true.mp xCW_ok (xon j) (List.mem_range.mpr (by omega))
        simp only [Bool.and_eq_true, Bool.or_eq_true, decide_eq_true_eq] at h1
        exact (h1.2.resolve_left (by omega)).2
      have hrecv := va_recv hG.1 oR.1 (xcl_get hon) (xw_get (bs := bs) (ι := xi bs bS bM) (cA := cA) ha2 hfs)
      have hxi := xi_ge (bs := bs) (bS := bS) (bM := bM) ha2
      refine va_runV (nL := xmL i) (C := (xyn j).cls) (b := xi bs bS bM a) (As := As'.map (xv (xi bs bS bM))) (Ts := xT) (own := xcn (xon i)) (cc := xby i) (bytes := xby j) (maxL := xmL j) (ret := xrt j) (n := xnp j) (index := idx) ⟨hx, hb, hml, hown, hts⟩ (xMet (l := l) (bs := bs) (bS := bS) (bM := bM) (Ls := Ls) (xs := xs) (cA := cA) (Dg := Dg) IH (by unfold xcg; rw [Bool.and_eq_true, hvk]; exact hg) hj hr h2) ⟨callB_of (ws := xcw j :: xT) (ws' := xT) (xnp j) hts (xgood hj) rfl rfl rfl (hts _ (xinitd hj)) (hts _ ((xML_in hM).2.2.1 (by omega) (by omega))) ⟨w6, w7, w3⟩ (hroomR hroom), hts _ (w1 hns), by rw [← w4]; exact hts _ (w2 hns hni)⟩ ⟨xPre_blind, ?_, hpre⟩ rfl ?_ oL.1 ?_ (lv_room hS4) (by rw [hl3] at hd; exact hd) hfit2
      · rw [← w4, hcn, hxi]; exact hrecv
      · rw [List.length_map]
        rw [List.length_cons] at hlen
        omega
      · show st.map (xv (xi bs bS bM)) = _
        rw [hstk, List.map_cons, xv.eq_1, List.reverse_cons, List.append_assoc]
        rfl
    | [], hlen, hg2 => cases hg2
    | .int x :: As', hlen, hg2 => cases hg2
    | .long x :: As', hlen, hg2 => cases hg2
    | .float x :: As', hlen, hg2 => cases hg2
    | .double x :: As', hlen, hg2 => cases hg2
    | .null :: As', hlen, hg2 => cases hg2
    | .retAddr x :: As', hlen, hg2 => cases hg2
  | invokespecial idx =>
    simp only [xckc, Bool.and_eq_true, beq_iff_eq, Bool.not_eq_true', Bool.or_eq_true] at hk
    obtain ⟨hl3, hM, hn, hroom, hns, hni, hvk⟩ := hk
    refine key idx hl3 hroom (fun hj => ?_)
    obtain ⟨-, w1, w2, w3, w4, w5, w6, w7, w8⟩ := xMWf hj
    have hyi : (xyn j).name = "<init>" := eq_of_beq hni
    have hrt : xrt j = none := xinit_rt hj hni
    generalize hAs : (st.take k).reverse = As at hg hr hpre hstk hlen ⊢
    have hg0 := hg
    unfold xcg at hg
    rw [Bool.and_eq_true, hvk] at hg
    have hg2 := hg.2
    simp only at hg2
    match As, hlen, hg2 with
    | .ref a :: As', hlen, hg2 =>
      have hlen2 : (As'.map (xv (xi bs bS bM))).length = xnp j := by
        rw [List.length_map]
        rw [List.length_cons] at hlen
        omega
      have hstk2 : (F0 m pc ls (st.map (xv (xi bs bS bM)))).stack = (As'.map (xv (xi bs bS bM))).reverse ++ .ref (xi bs bS bM a) :: (st.drop k).map (xv (xi bs bS bM)) := by
        show st.map (xv (xi bs bS bM)) = _
        rw [hstk, List.map_cons, xv.eq_1, List.reverse_cons, List.append_assoc]
        rfl
      have hM2 := xMet (l := l) (bs := bs) (bS := bS) (bM := bM) (Ls := Ls) (xs := xs) (cA := cA) (Dg := Dg) IH hg0 hj hr h2
      have hcode := xcode_in hj
      have hgood := xgood hj
      rw [xcw, hrt] at hM2 hcode hgood
      rcases hM with hM | hM
      · exact va_runI (nL := xmL i) (b := xi bs bS bM a) (As := As'.map (xv (xi bs bS bM))) (Ts := xT) (own := xcn (xon i)) (cc := xby i) (bytes := xby j) (maxL := xmL j) (n := xnp j) (index := idx) ⟨hx, hb, hml, hown, hts⟩ hM2 ⟨callB_of (ws' := xT) (xnp j) hts hgood rfl rfl rfl (hts _ (xinitd hj)) (hts _ ((xML_in hM).2.2.1 (by omega) (by omega))) ⟨w6, w7, w3⟩ (hroomR hroom), hyi, hts _ (w1 hns)⟩ ⟨xPre_blind, hpre⟩ rfl hlen2 oL.1 hstk2 (lv_room hS4) (by rw [hl3] at hd; exact hd) hfit2
      · exact va_runIN (nL := xmL i) (host := "DrawnFields") (b := xi bs bS bM a) (As := As'.map (xv (xi bs bS bM))) (Ts := xT) (own := xcn (xon i)) (cc := xby i) (bytes := xby j) (maxL := xmL j) (n := xnp j) (index := idx) ⟨hx, hb, hml, hown, hts⟩ hM2 ⟨va_cnB (ws' := xT) (xnp j) hts hgood rfl rfl rfl (hG.2.2.1 _ ((xML_in hM).2.2.2 (by omega) (by omega))) (hts _ (xinitd hj)) ⟨w6, w7, w3⟩ (hroomR hroom), hyi, hts _ (w1 hns)⟩ ⟨xPre_blind, hpre⟩ rfl hlen2 oL.1 hstk2 (lv_room hS4) (by rw [hl3] at hd; exact hd) hfit2
    | [], hlen, hg2 => cases hg2
    | .int x :: As', hlen, hg2 => cases hg2
    | .long x :: As', hlen, hg2 => cases hg2
    | .float x :: As', hlen, hg2 => cases hg2
    | .double x :: As', hlen, hg2 => cases hg2
    | .null :: As', hlen, hg2 => cases hg2
    | .retAddr x :: As', hlen, hg2 => cases hg2
  | invokestatic idx =>
    simp only [xckc, Bool.and_eq_true, beq_iff_eq, Bool.or_eq_true] at hk
    obtain ⟨hl3, hM, hn, hroom, hst⟩ := hk
    refine key idx hl3 hroom (fun hj => ?_)
    obtain ⟨w0, w1, w2, w3, w4, w5, w6, w7, w8⟩ := xMWf hj
    have hlen2 : ((st.take k).reverse.map (xv (xi bs bS bM))).length = xnp j := by rw [List.length_map]; omega
    have hM2 := xMet (l := l) (bs := bs) (bS := bS) (bM := bM) (Ls := Ls) (xs := xs) (cA := cA) (Dg := Dg) IH hg hj hr h2
    rcases hM with hM | hM
    · exact va_runS (nL := xmL i) (As := (st.take k).reverse.map (xv (xi bs bS bM))) (Ts := xT) (own := xcn (xon i)) (cc := xby i) (bytes := xby j) (maxL := xmL j) (ret := xrt j) (n := xnp j) (index := idx) ⟨hx, hb, hml, hown, hts⟩ hM2 ⟨callB_of (ws := xcw j :: xT) (ws' := xT) (xnp j) hts (xgood hj) rfl rfl rfl (hts _ (xinitd hj)) (hts _ ((xML_in hM).2.2.1 (by omega) (by omega))) ⟨w6, w7, w3⟩ (hroomR hroom), hts _ (w0 hst)⟩ ⟨xPre_blind, hpre⟩ rfl hlen2 oL.1 hstk (lv_room hS4) (by rw [hl3] at hd; exact hd) hfit2
    · exact va_runSN (nL := xmL i) (host := "DrawnFields") (As := (st.take k).reverse.map (xv (xi bs bS bM))) (Ts := xT) (own := xcn (xon i)) (cc := xby i) (bytes := xby j) (maxL := xmL j) (ret := xrt j) (n := xnp j) (index := idx) ⟨hx, hb, hml, hown, hts⟩ hM2 ⟨va_cnB (ws := xcw j :: xT) (ws' := xT) (xnp j) hts (xgood hj) rfl rfl rfl (hG.2.2.1 _ ((xML_in hM).2.2.2 (by omega) (by omega))) (hts _ (xinitd hj)) ⟨w6, w7, w3⟩ (hroomR hroom), hts _ (w0 hst), trivial⟩ ⟨xPre_blind, hpre⟩ rfl hlen2 oL.1 hstk (lv_room hS4) (by rw [hl3] at hd; exact hd) hfit2
  | _ => simp [xckc] at hk
end
section
/-! ===== blocks, and all runs ===== -/
def xcF (n : Nat) : Nat → List Value → xH → xR := fun j as h => if xcg j as h = true then xF n j 0 (xent j as) [] h else none
theorem xcF_len {n j : Nat} {as : List Value} {h h' : xH} {v : Option Value} (q : xcF n j as h = some (v, h')) : h.length ≤ h'.length ∧ xslo h ≤ xslo h' := by
  unfold xcF at q
  split at q
  · exact xF_len _ _ _ _ _ _ _ _ q
  · cases q
theorem xBF_len {n i : Nat} {b : List xI} {L : xL} {st : xS} {h h' : xH} {v : Option Value} (e : xB (xcF n) (fun pc L st h => xF n i pc L st h) b L st h = some (v, h')) : h.length ≤ h'.length ∧ xslo h ≤ xslo h' :=
  xB_len (fun _ _ _ _ _ q => xcF_len q) (fun _ _ _ _ _ _ q => xF_len _ _ _ _ _ _ _ _ q) _ _ _ _ _ _ e
theorem xBlk {n : Nat} (IH : xSound n) {p : Program} {l : Launch} {e : Env} {R : Room} {s : State} {m : MethodId} {args : Array Value} {below : List Frame} {meth : Method} {c : Code} {Q : State → Prop} {bs bS bM Ls : Nat} {xs : Nat → Int32} {cA : Nat → ClassId} {Dg : va_G} {i : Nat} {h0 h' : xH} {v : Option Value}
    (act : xAct bs bS bM Ls xs cA Dg i h0 p R s m args meth c) (hc : h'.length ≤ h0.length + R.cells) (hs : xslo h' ≤ xslo h0 + R.slots) (hret : xRet bs bS bM Ls xs cA Dg i h0 v h' p l e R s m args below meth c Q) :
    ∀ (b : List xI) (pc : Nat) (L : xL) (st : xS) (h : xH), xckB i pc b = true → xB (xcF n) (fun pc L st h => xF n i pc L st h) b L st h = some (v, h') →
    ∀ {ls : Array Slot} {H : Heap} {locs : List Loc} {cells slots : Nat}, xOn bs bS bM Ls xs cA Dg i h0 s L h ls H locs cells slots → W p l e R s m args below meth c H locs cells slots Q (F0 m pc ls (st.map (xv (xi bs bS bM)))) := by
  intro b
  induction b with
  | nil => intro pc L st h hk hr ls H locs cells slots o; simp [xB] at hr
  | cons ins t ih =>
    intro pc L st h hk hr ls H locs cells slots o
    have hx := act.1
    have hb := act.2.1
    cases ins with
    | inl q =>
      rw [xckB] at hk
      split at hk
      · next raw len hd =>
        rw [Bool.and_eq_true] at hk
        simp only [xB] at hr
        obtain ⟨⟨L2, st2, h2⟩, g1, g2⟩ := Option.bind_eq_some_iff.mp hr
        obtain ⟨l1, l2⟩ := xBF_len g2
        simp only at l1 l2
        exact xP_ok q act hd hk.1 g1 (by omega) (by omega) o (fun ls' H' locs' cells' slots' o' => ih _ _ _ _ hk.2 g2 o')
      · cases hk
    | inr d =>
      cases d with
      | goto_w u =>
        rw [xckB] at hk
        have hu : u = (pc : Int) := eq_of_beq hk
        subst hu
        simp only [xB, Int.toNat_natCast] at hr
        exact IH i pc L st h v h' hr act hc hs hret o
      | goto u =>
        rw [xckB] at hk
        split at hk
        · next raw len hd =>
          rw [Bool.and_eq_true] at hk
          have hk1 := hk.1
          simp only [xB] at hr
          cases raw with
          | goto o1 =>
            simp only [xckc, Bool.and_eq_true, beq_iff_eq, decide_eq_true_eq] at hk1
            obtain ⟨rfl, ht, h0t⟩ := hk1
            exact lv_goto (tgt := u.toNat) hx hb hd (by omega) (IH i _ L st h v h' hr act hc hs hret o)
          | _ => simp [xckc] at hk1
        · cases hk
        · intro t' hh; cases hh
      | ifCond d u =>
        rw [xckB] at hk
        split at hk
        · next raw len hd =>
          rw [Bool.and_eq_true] at hk
          have hk1 := hk.1
          have hk2 : xckB i (pc + len) t = true := by simpa [xend] using hk.2
          simp only [xB] at hr
          split at hr
          · next a st' =>
            cases raw with
            | ifCond d2 o1 =>
              simp only [xckc, Bool.and_eq_true, beq_iff_eq, decide_eq_true_eq] at hk1
              obtain ⟨rfl, rfl, ht, h0t⟩ := hk1
              have kt : xcnd d a 0 = true → W p l e R s m args below meth c H locs cells slots Q (F0 m u.toNat ls (st'.map (xv (xi bs bS bM)))) := fun hh => by
                rw [if_pos hh] at hr
                exact IH i _ L st' h v h' hr act hc hs hret o
              have kf : ¬ xcnd d a 0 = true → W p l e R s m args below meth c H locs cells slots Q (F0 m (pc + 3) ls (st'.map (xv (xi bs bS bM)))) := fun hh => by
                rw [if_neg hh] at hr
                exact ih _ _ _ _ hk2 hr o
              cases d with
              | eq => exact lv_if_eq (tgt := u.toNat) hx hb hd (by omega) (fun z => kt (decide_eq_true z)) (fun z => kf (fun y => z (of_decide_eq_true y)))
              | ne => exact lv_if_ne (tgt := u.toNat) hx hb hd (by omega) (fun z => kt (decide_eq_true z)) (fun z => kf (fun y => (of_decide_eq_true y) z))
              | lt => exact lv_if_lt (tgt := u.toNat) hx hb hd (by omega) (fun z => kt (decide_eq_true z)) (fun z => kf (fun y => z (of_decide_eq_true y)))
              | ge => exact lv_if_ge (tgt := u.toNat) hx hb hd (by omega) (fun z => kt (decide_eq_true z)) (fun z => kf (fun y => z (of_decide_eq_true y)))
              | gt => exact lv_if_gt (tgt := u.toNat) hx hb hd (by omega) (fun z => kt (decide_eq_true z)) (fun z => kf (fun y => z (of_decide_eq_true y)))
              | le => exact lv_if_le (tgt := u.toNat) hx hb hd (by omega) (fun z => kt (decide_eq_true z)) (fun z => kf (fun y => z (of_decide_eq_true y)))
            | _ => simp [xckc] at hk1
          · cases hr
        · cases hk
        · intro t' hh; cases hh
      | if_icmp d u =>
        rw [xckB] at hk
        split at hk
        · next raw len hd =>
          rw [Bool.and_eq_true] at hk
          have hk1 := hk.1
          have hk2 : xckB i (pc + len) t = true := by simpa [xend] using hk.2
          simp only [xB] at hr
          split at hr
          · next b2 a st' =>
            cases raw with
            | if_icmp d2 o1 =>
              simp only [xckc, Bool.and_eq_true, beq_iff_eq, decide_eq_true_eq] at hk1
              obtain ⟨rfl, rfl, ht, h0t⟩ := hk1
              have kt : xcnd d a b2 = true → W p l e R s m args below meth c H locs cells slots Q (F0 m u.toNat ls (st'.map (xv (xi bs bS bM)))) := fun hh => by
                rw [if_pos hh] at hr
                exact IH i _ L st' h v h' hr act hc hs hret o
              have kf : ¬ xcnd d a b2 = true → W p l e R s m args below meth c H locs cells slots Q (F0 m (pc + 3) ls (st'.map (xv (xi bs bS bM)))) := fun hh => by
                rw [if_neg hh] at hr
                exact ih _ _ _ _ hk2 hr o
              cases d with
              | eq => exact lv_icmp_eq (tgt := u.toNat) hx hb hd (by omega) (fun z => kt (decide_eq_true z)) (fun z => kf (fun y => z (of_decide_eq_true y)))
              | ne => exact lv_icmp_ne (tgt := u.toNat) hx hb hd (by omega) (fun z => kt (decide_eq_true z)) (fun z => kf (fun y => (of_decide_eq_true y) z))
              | lt => exact lv_icmp_lt (tgt := u.toNat) hx hb hd (by omega) (fun z => kt (decide_eq_true z)) (fun z => kf (fun y => z (of_decide_eq_true y)))
              | ge => exact lv_icmp_ge (tgt := u.toNat) hx hb hd (by omega) (fun z => kt (decide_eq_true z)) (fun z => kf (fun y => z (of_decide_eq_true y)))
              | gt => exact lv_icmp_gt (tgt := u.toNat) hx hb hd (by omega) (fun z => kt (decide_eq_true z)) (fun z => kf (fun y => z (of_decide_eq_true y)))
              | le => exact lv_icmp_le (tgt := u.toNat) hx hb hd (by omega) (fun z => kt (decide_eq_true z)) (fun z => kf (fun y => z (of_decide_eq_true y)))
            | _ => simp [xckc] at hk1
          · cases hr
        · cases hk
        · intro t' hh; cases hh
      | lookupswitch d ps =>
        rw [xckB] at hk
        split at hk
        · next raw len hd =>
          rw [Bool.and_eq_true] at hk
          have hk1 := hk.1
          simp only [xB] at hr
          split at hr
          · next a st' =>
            cases raw with
            | tableswitch dd lo hi offs =>
              simp only [xckc, Bool.and_eq_true, beq_iff_eq, decide_eq_true_eq] at hk1
              obtain ⟨rfl, h0d, hps, hhi, hall⟩ := hk1
              rw [hps] at hr hall
              by_cases hin : lo ≤ a.toInt ∧ a.toInt < lo + offs.toList.length
              · obtain ⟨o1, q1, q2, q3⟩ := xsw_in pc ((pc : Int) + dd) a.toInt offs.toList lo hin.1 hin.2
                rw [q2] at hr
                have h0t := of_decide_eq_true (List.all_eq_true.mp hall _ q3)
                simp only at h0t
                rw [Array.getElem?_toList] at q1
                exact lv_tableIn (tgt := ((pc : Int) + o1).toNat) hx hb hd (by omega) (by omega) q1 (by omega) (IH i _ L st' h v h' hr act hc hs hret o)
              · rw [xsw_out pc _ a.toInt offs.toList lo (by omega)] at hr
                exact lv_tableOut (tgt := ((pc : Int) + dd).toNat) hx hb hd (by omega) (by omega) (IH i _ L st' h v h' hr act hc hs hret o)
            | _ => simp [xckc] at hk1
          · cases hr
        · cases hk
        · intro t' hh; cases hh
      | ireturn =>
        rw [xckB] at hk
        split at hk
        · next raw len hd =>
          rw [Bool.and_eq_true] at hk
          have hk1 := hk.1
          simp only [xB] at hr
          split at hr
          · next x =>
            cases hr
            cases raw with
            | ireturn =>
              simp only [xckc, Bool.and_eq_true, beq_iff_eq, decide_eq_true_eq] at hk1
              obtain ⟨rfl, ht⟩ := hk1
              exact hret pc _ ls H locs cells slots o.1 o.2.1 o.2.2.2.1 o.2.2.2.2 hd (Or.inl ⟨rfl, ht, _, rfl⟩)
            | _ => simp [xckc] at hk1
          · cases hr
        · cases hk
        · intro t' hh; cases hh
      | areturn =>
        rw [xckB] at hk
        split at hk
        · next raw len hd =>
          rw [Bool.and_eq_true] at hk
          have hk1 := hk.1
          simp only [xB] at hr
          split at hr
          · next x =>
            split at hr
            · next hx01 =>
              cases hr
              cases raw with
              | ireturn =>
                simp only [xckc, Bool.and_eq_true, beq_iff_eq, decide_eq_true_eq] at hk1
                obtain ⟨rfl, ht⟩ := hk1
                exact hret pc _ ls H locs cells slots o.1 o.2.1 o.2.2.2.1 o.2.2.2.2 hd (Or.inr (Or.inl ⟨rfl, ht, _, rfl, hx01⟩))
              | _ => simp [xckc] at hk1
            · cases hr
          · cases hr
        · cases hk
        · intro t' hh; cases hh
      | lreturn =>
        rw [xckB] at hk
        split at hk
        · next raw len hd =>
          rw [Bool.and_eq_true] at hk
          have hk1 := hk.1
          simp only [xB] at hr
          split at hr
          · next x =>
            cases hr
            cases raw with
            | lreturn =>
              simp only [xckc, Bool.and_eq_true, beq_iff_eq, decide_eq_true_eq] at hk1
              obtain ⟨rfl, ht⟩ := hk1
              exact hret pc _ ls H locs cells slots o.1 o.2.1 o.2.2.2.1 o.2.2.2.2 hd (Or.inr (Or.inr (Or.inl ⟨rfl, ht, _, rfl⟩)))
            | _ => simp [xckc] at hk1
          · cases hr
        · cases hk
        · intro t' hh; cases hh
      | return_ =>
        rw [xckB] at hk
        split at hk
        · next raw len hd =>
          rw [Bool.and_eq_true] at hk
          have hk1 := hk.1
          simp only [xB] at hr
          split at hr
          · cases hr
            cases raw with
            | return_ =>
              simp only [xckc, Bool.and_eq_true, beq_iff_eq, decide_eq_true_eq] at hk1
              obtain ⟨rfl, ht⟩ := hk1
              exact hret pc _ ls H locs cells slots o.1 o.2.1 o.2.2.2.1 o.2.2.2.2 hd (Or.inr (Or.inr (Or.inr ⟨rfl, ht, rfl⟩)))
            | _ => simp [xckc] at hk1
          · cases hr
        · cases hk
        · intro t' hh; cases hh
      | invokeinterface j k =>
        rw [xckB] at hk
        split at hk
        · next raw len hd =>
          rw [Bool.and_eq_true] at hk
          have hk1 := hk.1
          have hk2 : xckB i (pc + len) t = true := by simpa [xend] using hk.2
          simp only [xB] at hr
          split at hr
          · next hcnd =>
            obtain ⟨⟨v1, h1⟩, g1, g2⟩ := Option.bind_eq_some_iff.mp hr
            obtain ⟨l1, l2⟩ := xBF_len g2
            simp only at l1 l2
            unfold xcF at g1
            split at g1
            · next hg => exact xCall IH act hd hk1 hcnd.1 hcnd.2 hg g1 (by omega) (by omega) o (fun H' locs' cells' slots' o' => ih _ _ _ _ hk2 g2 o')
            · cases g1
          · cases hr
        · cases hk
        · intro t' hh; cases hh
      | _ => simp [xB] at hr
/-- SOUNDNESS -/
theorem xsound : ∀ n, xSound n := by
  intro n
  induction n with
  | zero => intro i pc L st h v h' hr; simp [xF] at hr
  | succ n IH =>
    intro i pc L st h v h' hr p l e R s m args below meth c Q bs bS bM Ls xs cA Dg h0 act hc hs hret ls H locs cells slots o
    rw [xF] at hr
    obtain ⟨b, hb, h2⟩ := Option.bind_eq_some_iff.mp hr
    exact xBlk IH act hc hs hret b pc L st h (xblk_ok hb) h2 o
end
section
/-! ===== den at each block; a call is den at its entry (by program: wip/whole/gen_blocks.py) ===== -/
theorem D0_0 (L : xL) (st : xS) (h : xH) : den 0 0 L st h = xB xcall (den 0) [.inl (.aload 0), .inl .pop, .inl (.aload 0), .inl (.new 4), .inl .dup, .inr (.invokeinterface 22 1), .inl (.putfield 0), .inr .return_] L st h := den_eq (b := k0_0) rfl L st h
theorem N0 (h : xH) (a0 : Nat) : xcall 0 [.ref a0] h = den 0 0 [some (.ref a0)] [] h := if_pos rfl
theorem D1_0 (L : xL) (st : xS) (h : xH) : den 1 0 L st h = xB xcall (den 1) [.inl (.aload 0), .inl (.getfield 0), .inl (.aload 1), .inr (.invokeinterface 26 2), .inl (.aload 0), .inl (.iload 2), .inl .i2l, .inl (.putfield 1), .inr .return_] L st h := den_eq (b := k1_0) rfl L st h
theorem N1 (h : xH) (a0 : Nat) (a1 : Nat) (a2 : Int32) (ho : xobj h a0 0 = true) : xcall 1 [.ref a0, .ref a1, .int a2] h = den 1 0 [some (.ref a0), some (.ref a1), some (.int a2)] [] h := if_pos ho
theorem D2_0 (L : xL) (st : xS) (h : xH) : den 2 0 L st h = xB xcall (den 2) [.inl (.iconst 0), .inl (.istore 2), xto 2] L st h := den_eq (b := k2_0) rfl L st h
theorem D2_2 (L : xL) (st : xS) (h : xH) : den 2 2 L st h = xB xcall (den 2) [.inl (.iload 2), .inl (.aload 1), .inl (.getfield 192), .inr (.if_icmp .ge 54), .inl (.aload 1), .inl (.getfield 193), .inl (.iload 2), .inl .aaload, .inl (.getfield 34), .inl (.iconst 1), .inr (.if_icmp .ne 48), .inl (.aload 0), .inl (.getfield 0), .inl (.iload 2), .inl (.aload 1), .inl (.getfield 193), .inl (.iload 2), .inl .aaload, .inl (.aload 0), .inl (.getfield 0), .inl (.iload 2), .inr (.invokeinterface 33 2), .inr (.invokeinterface 11 2), .inr (.invokeinterface 30 3), xto 48] L st h := den_eq (b := k2_2) rfl L st h
theorem D2_48 (L : xL) (st : xS) (h : xH) : den 2 48 L st h = xB xcall (den 2) [.inl (.iinc 2 1), .inr (.goto 2)] L st h := den_eq (b := k2_48) rfl L st h
theorem D2_54 (L : xL) (st : xS) (h : xH) : den 2 54 L st h = xB xcall (den 2) [.inl (.aload 1), .inl (.aload 0), .inl (.getfield 0), .inr (.invokeinterface 57 2), .inl (.istore 2), .inl (.iload 2), .inr (.ifCond .ne 71), .inl (.iconst 1), .inr (.goto 72)] L st h := den_eq (b := k2_54) rfl L st h
theorem D2_71 (L : xL) (st : xS) (h : xH) : den 2 71 L st h = xB xcall (den 2) [.inl (.iconst 0), xto 72] L st h := den_eq (b := k2_71) rfl L st h
theorem D2_72 (L : xL) (st : xS) (h : xH) : den 2 72 L st h = xB xcall (den 2) [.inl (.istore 3), .inl (.aload 0), .inl (.iload 3), .inr (.ifCond .eq 88), .inl (.aload 0), .inl (.getfield 0), .inr (.invokeinterface 32 1), .inr (.goto 89)] L st h := den_eq (b := k2_72) rfl L st h
theorem D2_88 (L : xL) (st : xS) (h : xH) : den 2 88 L st h = xB xcall (den 2) [.inl (.iload 2), xto 89] L st h := den_eq (b := k2_88) rfl L st h
theorem D2_89 (L : xL) (st : xS) (h : xH) : den 2 89 L st h = xB xcall (den 2) [.inr (.invokeinterface 6 2), .inl (.istore 4), .inl (.iconst 0), .inl (.istore 5), xto 97] L st h := den_eq (b := k2_89) rfl L st h
theorem D2_97 (L : xL) (st : xS) (h : xH) : den 2 97 L st h = xB xcall (den 2) [.inl (.iload 5), .inl (.iconst 64), .inr (.if_icmp .ge 169), .inl (.aload 0), .inl (.getfield 0), .inl (.getfield 128), .inl (.iload 5), .inl .laload, .inl (.lstore 6), .inl (.iload 3), .inr (.ifCond .eq 128), .inl (.lload 6), .inr (.invokeinterface 187 1), .inr (.goto 136)] L st h := den_eq (b := k2_97) rfl L st h
theorem D2_128 (L : xL) (st : xS) (h : xH) : den 2 128 L st h = xB xcall (den 2) [.inl (.aload 1), .inl (.iload 5), .inl (.lload 6), .inr (.invokeinterface 58 3), xto 136] L st h := den_eq (b := k2_128) rfl L st h
theorem D2_136 (L : xL) (st : xS) (h : xH) : den 2 136 L st h = xB xcall (den 2) [.inl (.istore 8), .inl (.iload 4), .inl (.iload 8), .inr (.if_icmp .ge 156), .inl (.aload 0), .inl (.aload 1), .inl (.iload 5), .inl (.iload 4), .inl (.iload 3), .inr (.invokeinterface 3 5), .inr .ireturn] L st h := den_eq (b := k2_136) rfl L st h
theorem D2_156 (L : xL) (st : xS) (h : xH) : den 2 156 L st h = xB xcall (den 2) [.inl (.iload 4), .inl (.iload 8), .inl .isub, .inl (.istore 4), .inl (.iinc 5 1), .inr (.goto 97)] L st h := den_eq (b := k2_156) rfl L st h
theorem D2_169 (L : xL) (st : xS) (h : xH) : den 2 169 L st h = xB xcall (den 2) [.inl (.aload 0), .inl (.getfield 0), .inl (.iconst 0), .inr (.invokeinterface 35 2), .inr .ireturn] L st h := den_eq (b := k2_169) rfl L st h
theorem N2 (h : xH) (a0 : Nat) (a1 : Nat) (ho : xobj h a0 0 = true) : xcall 2 [.ref a0, .ref a1] h = den 2 0 [some (.ref a0), some (.ref a1), none, none, none, none, none, none, none] [] h := if_pos ho
theorem D3_0 (L : xL) (st : xS) (h : xH) : den 3 0 L st h = xB xcall (den 3) [.inl (.iload 3), .inl (.istore 5), .inl (.iconst 0), .inl (.istore 6), xto 6] L st h := den_eq (b := k3_0) rfl L st h
theorem D3_6 (L : xL) (st : xS) (h : xH) : den 3 6 L st h = xB xcall (den 3) [.inl (.iload 6), .inl (.iconst 64), .inr (.if_icmp .ge 75), .inl (.aload 0), .inl (.getfield 0), .inl (.getfield 128), .inl (.iload 2), .inl .laload, .inl (.iload 6), .inl .lushr, .inl (.sipush 1), .inl .land, .inl (.sipush 0), .inl .lcmp, .inr (.ifCond .eq 69), .inl (.iload 2), .inl (.iconst 64), .inl .imul, .inl (.iload 6), .inl .iadd, .inl (.istore 7), .inl (.iload 5), .inl (.iload 4), .inr (.ifCond .eq 52), .inl (.iconst 1), .inr (.goto 58)] L st h := den_eq (b := k3_6) rfl L st h
theorem D3_52 (L : xL) (st : xS) (h : xH) : den 3 52 L st h = xB xcall (den 3) [.inl (.aload 1), .inl (.iload 7), .inr (.invokeinterface 56 2), xto 58] L st h := den_eq (b := k3_52) rfl L st h
theorem D3_58 (L : xL) (st : xS) (h : xH) : den 3 58 L st h = xB xcall (den 3) [.inl .isub, .inl (.istore 5), .inl (.iload 5), .inr (.ifCond .ge 69), .inl (.iload 7), .inr .ireturn] L st h := den_eq (b := k3_58) rfl L st h
theorem D3_69 (L : xL) (st : xS) (h : xH) : den 3 69 L st h = xB xcall (den 3) [.inl (.iinc 6 1), .inr (.goto 6)] L st h := den_eq (b := k3_69) rfl L st h
theorem D3_75 (L : xL) (st : xS) (h : xH) : den 3 75 L st h = xB xcall (den 3) [.inl (.iload 2), .inl (.iconst 64), .inl .imul, .inr .ireturn] L st h := den_eq (b := k3_75) rfl L st h
theorem N3 (h : xH) (a0 : Nat) (a1 : Nat) (a2 : Int32) (a3 : Int32) (a4 : Int32) (ho : xobj h a0 0 = true) : xcall 3 [.ref a0, .ref a1, .int a2, .int a3, .int a4] h = den 3 0 [some (.ref a0), some (.ref a1), some (.int a2), some (.int a3), some (.int a4), none, none, none] [] h := if_pos ho
theorem D4_0 (L : xL) (st : xS) (h : xH) : den 4 0 L st h = xB xcall (den 4) [.inl (.iconst 0), .inl (.istore 2), xto 2] L st h := den_eq (b := k4_0) rfl L st h
theorem D4_2 (L : xL) (st : xS) (h : xH) : den 4 2 L st h = xB xcall (den 4) [.inl (.iload 2), .inl (.aload 1), .inl (.getfield 192), .inr (.if_icmp .ge 64), .inl (.aload 1), .inl (.getfield 194), .inl (.iload 2), .inl .iaload, .inl (.istore 3), .inl (.aload 1), .inl (.getfield 193), .inl (.iload 3), .inl .aaload, .inl (.aload 0), .inl (.getfield 0), .inl (.iload 3), .inr (.invokeinterface 33 2), .inr (.invokeinterface 11 2), .inl (.istore 4), .inl (.aload 0), .inl (.getfield 0), .inl (.iload 3), .inl (.iconst 1), .inl (.aload 0), .inl (.aload 1), .inl (.getfield 193), .inl (.iload 3), .inl .aaload, .inl (.iload 4), .inr (.invokeinterface 5 3), .inl .ishl, .inr (.invokeinterface 30 3), .inl (.iinc 2 1), .inr (.goto 2)] L st h := den_eq (b := k4_2) rfl L st h
theorem D4_64 (L : xL) (st : xS) (h : xH) : den 4 64 L st h = xB xcall (den 4) [.inl (.aload 0), .inl (.getfield 0), .inl (.iconst 0), .inr (.invokeinterface 35 2), .inr .ireturn] L st h := den_eq (b := k4_64) rfl L st h
theorem N4 (h : xH) (a0 : Nat) (a1 : Nat) (ho : xobj h a0 0 = true) : xcall 4 [.ref a0, .ref a1] h = den 4 0 [some (.ref a0), some (.ref a1), none, none, none] [] h := if_pos ho
theorem D5_0 (L : xL) (st : xS) (h : xH) : den 5 0 L st h = xB xcall (den 5) [.inl (.aload 1), .inl (.iload 2), .inr (.invokeinterface 12 2), .inl (.istore 3), .inl (.iload 3), .inr (.ifCond .ne 14), .inl (.iconst 1), .inr (.goto 15)] L st h := den_eq (b := k5_0) rfl L st h
theorem D5_14 (L : xL) (st : xS) (h : xH) : den 5 14 L st h = xB xcall (den 5) [.inl (.iconst 0), xto 15] L st h := den_eq (b := k5_14) rfl L st h
theorem D5_15 (L : xL) (st : xS) (h : xH) : den 5 15 L st h = xB xcall (den 5) [.inl (.istore 4), .inl (.aload 0), .inl (.iload 4), .inr (.ifCond .eq 30), .inl (.iload 2), .inr (.invokeinterface 186 1), .inr (.goto 31)] L st h := den_eq (b := k5_15) rfl L st h
theorem D5_30 (L : xL) (st : xS) (h : xH) : den 5 30 L st h = xB xcall (den 5) [.inl (.iload 3), xto 31] L st h := den_eq (b := k5_30) rfl L st h
theorem D5_31 (L : xL) (st : xS) (h : xH) : den 5 31 L st h = xB xcall (den 5) [.inr (.invokeinterface 6 2), .inl (.istore 5), .inl (.iconst 0), .inl (.istore 6), xto 39] L st h := den_eq (b := k5_31) rfl L st h
theorem D5_39 (L : xL) (st : xS) (h : xH) : den 5 39 L st h = xB xcall (den 5) [.inl (.iload 6), .inl (.iconst 8), .inr (.if_icmp .ge 90), .inl (.iload 2), .inl (.iload 6), .inl .ishr, .inl (.iconst 1), .inl .iand, .inr (.ifCond .eq 84), .inl (.iload 5), .inl (.iload 4), .inr (.ifCond .eq 66), .inl (.iconst 1), .inr (.goto 73)] L st h := den_eq (b := k5_39) rfl L st h
theorem D5_66 (L : xL) (st : xS) (h : xH) : den 5 66 L st h = xB xcall (den 5) [.inl (.aload 1), .inl (.getfield 36), .inl (.iload 6), .inl .iaload, xto 73] L st h := den_eq (b := k5_66) rfl L st h
theorem D5_73 (L : xL) (st : xS) (h : xH) : den 5 73 L st h = xB xcall (den 5) [.inl .isub, .inl (.istore 5), .inl (.iload 5), .inr (.ifCond .ge 84), .inl (.iload 6), .inr .ireturn] L st h := den_eq (b := k5_73) rfl L st h
theorem D5_84 (L : xL) (st : xS) (h : xH) : den 5 84 L st h = xB xcall (den 5) [.inl (.iinc 6 1), .inr (.goto 39)] L st h := den_eq (b := k5_84) rfl L st h
theorem D5_90 (L : xL) (st : xS) (h : xH) : den 5 90 L st h = xB xcall (den 5) [.inl (.iconst 0), .inr .ireturn] L st h := den_eq (b := k5_90) rfl L st h
theorem N5 (h : xH) (a0 : Nat) (a1 : Nat) (a2 : Int32) (ho : xobj h a0 0 = true) : xcall 5 [.ref a0, .ref a1, .int a2] h = den 5 0 [some (.ref a0), some (.ref a1), some (.int a2), none, none, none, none] [] h := if_pos ho
theorem D6_0 (L : xL) (st : xS) (h : xH) : den 6 0 L st h = xB xcall (den 6) [.inl (.aload 0), .inl (.aload 0), .inl (.getfield 1), .inl (.sipush 1103515245), .inl .lmul, .inl (.sipush 12345), .inl .ladd, .inl (.sipush 2147483648), .inl .lrem, .inl (.putfield 1), .inl (.iload 1), .inr (.ifCond .le 39), .inl (.aload 0), .inl (.getfield 1), .inl (.sipush 65536), .inl .ldiv, .inl (.iload 1), .inl .i2l, .inl .lrem, .inl .l2i, .inr (.goto 40)] L st h := den_eq (b := k6_0) rfl L st h
theorem D6_39 (L : xL) (st : xS) (h : xH) : den 6 39 L st h = xB xcall (den 6) [.inl (.iconst 0), xto 40] L st h := den_eq (b := k6_39) rfl L st h
theorem D6_40 (L : xL) (st : xS) (h : xH) : den 6 40 L st h = xB xcall (den 6) [.inr .ireturn] L st h := den_eq (b := k6_40) rfl L st h
theorem N6 (h : xH) (a0 : Nat) (a1 : Int32) (ho : xobj h a0 0 = true) : xcall 6 [.ref a0, .int a1] h = den 6 0 [some (.ref a0), some (.int a1)] [] h := if_pos ho
theorem D7_0 (L : xL) (st : xS) (h : xH) : den 7 0 L st h = xB xcall (den 7) [.inl (.aload 0), .inl .pop, .inl (.aload 0), .inl (.iconst 8), .inl (.newarray .int), .inl (.putfield 36), .inl (.aload 0), .inl (.iconst 0), .inl (.iconst 0), .inr (.invokeinterface 8 3), .inr .return_] L st h := den_eq (b := k7_0) rfl L st h
theorem N7 (h : xH) (a0 : Nat) : xcall 7 [.ref a0] h = den 7 0 [some (.ref a0)] [] h := if_pos rfl
theorem D8_0 (L : xL) (st : xS) (h : xH) : den 8 0 L st h = xB xcall (den 8) [.inl (.aload 0), .inl (.iload 1), .inl (.putfield 32), .inl (.aload 0), .inl (.iload 2), .inl (.putfield 33), .inl (.aload 0), .inl (.iconst 0), .inl (.putfield 34), .inl (.aload 0), .inl (.iconst 0), .inl (.putfield 35), .inl (.iconst 0), .inl (.istore 3), xto 22] L st h := den_eq (b := k8_0) rfl L st h
theorem D8_22 (L : xL) (st : xS) (h : xH) : den 8 22 L st h = xB xcall (den 8) [.inl (.iload 3), .inl (.iconst 8), .inr (.if_icmp .ge 41), .inl (.aload 0), .inl (.getfield 36), .inl (.iload 3), .inl (.iconst 1), .inl .iastore, .inl (.iinc 3 1), .inr (.goto 22)] L st h := den_eq (b := k8_22) rfl L st h
theorem D8_41 (L : xL) (st : xS) (h : xH) : den 8 41 L st h = xB xcall (den 8) [.inr .return_] L st h := den_eq (b := k8_41) rfl L st h
theorem N8 (h : xH) (a0 : Nat) (a1 : Int32) (a2 : Int32) (ho : xobj h a0 1 = true) : xcall 8 [.ref a0, .int a1, .int a2] h = den 8 0 [some (.ref a0), some (.int a1), some (.int a2), none] [] h := if_pos ho
theorem D9_0 (L : xL) (st : xS) (h : xH) : den 9 0 L st h = xB xcall (den 9) [.inl (.aload 0), .inl (.aload 1), .inl (.getfield 32), .inl (.putfield 32), .inl (.aload 0), .inl (.aload 1), .inl (.getfield 33), .inl (.putfield 33), .inl (.aload 0), .inl (.aload 1), .inl (.getfield 34), .inl (.putfield 34), .inl (.aload 0), .inl (.aload 1), .inl (.getfield 35), .inl (.putfield 35), .inl (.aload 1), .inl (.getfield 36), .inl (.iconst 0), .inl (.aload 0), .inl (.getfield 36), .inl (.iconst 0), .inl (.iconst 8), .inl .nop, .inr .return_] L st h := den_eq (b := k9_0) rfl L st h
theorem N9 (h : xH) (a0 : Nat) (a1 : Nat) (ho : xobj h a0 1 = true) : xcall 9 [.ref a0, .ref a1] h = den 9 0 [some (.ref a0), some (.ref a1)] [] h := if_pos ho
theorem D10_0 (L : xL) (st : xS) (h : xH) : den 10 0 L st h = xB xcall (den 10) [.inl (.iconst 1), .inl (.aload 0), .inl (.getfield 33), .inl (.iconst 1), .inl .iadd, .inl .ishl, .inl (.iconst 1), .inl (.aload 0), .inl (.getfield 32), .inl .ishl, .inl .isub, .inr .ireturn] L st h := den_eq (b := k10_0) rfl L st h
theorem N10 (h : xH) (a0 : Nat) (ho : xobj h a0 1 = true) : xcall 10 [.ref a0] h = den 10 0 [some (.ref a0)] [] h := if_pos ho
theorem D11_0 (L : xL) (st : xS) (h : xH) : den 11 0 L st h = xB xcall (den 11) [.inl (.aload 0), .inl (.getfield 34), .inr (.ifCond .ne 9), .inl (.iload 1), .inr .ireturn] L st h := den_eq (b := k11_0) rfl L st h
theorem D11_9 (L : xL) (st : xS) (h : xH) : den 11 9 L st h = xB xcall (den 11) [.inl (.iload 1), .inl (.aload 0), .inl (.getfield 35), .inl (.iconst (-1)), .inl .ixor, .inl .iand, .inl (.istore 2), .inl (.iload 2), .inr (.ifCond .ne 29), .inl (.aload 0), .inl (.iconst 0), .inl (.putfield 35), .inl (.iload 1), .inr .ireturn] L st h := den_eq (b := k11_9) rfl L st h
theorem D11_29 (L : xL) (st : xS) (h : xH) : den 11 29 L st h = xB xcall (den 11) [.inl (.iload 2), .inr .ireturn] L st h := den_eq (b := k11_29) rfl L st h
theorem N11 (h : xH) (a0 : Nat) (a1 : Int32) (ho : xobj h a0 1 = true) : xcall 11 [.ref a0, .int a1] h = den 11 0 [some (.ref a0), some (.int a1), none] [] h := if_pos ho
theorem D12_0 (L : xL) (st : xS) (h : xH) : den 12 0 L st h = xB xcall (den 12) [.inl (.iconst 0), .inl (.istore 2), .inl (.iconst 0), .inl (.istore 3), xto 4] L st h := den_eq (b := k12_0) rfl L st h
theorem D12_4 (L : xL) (st : xS) (h : xH) : den 12 4 L st h = xB xcall (den 12) [.inl (.iload 3), .inl (.iconst 8), .inr (.if_icmp .ge 33), .inl (.iload 1), .inl (.iload 3), .inl .ishr, .inl (.iconst 1), .inl .iand, .inr (.ifCond .eq 27), .inl (.iload 2), .inl (.aload 0), .inl (.getfield 36), .inl (.iload 3), .inl .iaload, .inl .iadd, .inl (.istore 2), xto 27] L st h := den_eq (b := k12_4) rfl L st h
theorem D12_27 (L : xL) (st : xS) (h : xH) : den 12 27 L st h = xB xcall (den 12) [.inl (.iinc 3 1), .inr (.goto 4)] L st h := den_eq (b := k12_27) rfl L st h
theorem D12_33 (L : xL) (st : xS) (h : xH) : den 12 33 L st h = xB xcall (den 12) [.inl (.iload 2), .inr .ireturn] L st h := den_eq (b := k12_33) rfl L st h
theorem N12 (h : xH) (a0 : Nat) (a1 : Int32) (ho : xobj h a0 1 = true) : xcall 12 [.ref a0, .int a1] h = den 12 0 [some (.ref a0), some (.int a1), none, none] [] h := if_pos ho
theorem D13_0 (L : xL) (st : xS) (h : xH) : den 13 0 L st h = xB xcall (den 13) [.inl (.aload 0), .inl .pop, .inl (.aload 0), .inl (.new 4), .inl .dup, .inr (.invokeinterface 22 1), .inl (.putfield 64), .inl (.aload 0), .inl (.new 4), .inl .dup, .inr (.invokeinterface 22 1), .inl (.putfield 67), .inl (.aload 0), .inl (.iconst 8), .inl (.anewarray 4), .inl (.putfield 68), .inl (.iconst 0), .inl (.istore 1), xto 37] L st h := den_eq (b := k13_0) rfl L st h
theorem D13_37 (L : xL) (st : xS) (h : xH) : den 13 37 L st h = xB xcall (den 13) [.inl (.iload 1), .inl (.iconst 8), .inr (.if_icmp .ge 62), .inl (.aload 0), .inl (.getfield 68), .inl (.iload 1), .inl (.new 4), .inl .dup, .inr (.invokeinterface 22 1), .inl .aastore, .inl (.iinc 1 1), .inr (.goto 37)] L st h := den_eq (b := k13_37) rfl L st h
theorem D13_62 (L : xL) (st : xS) (h : xH) : den 13 62 L st h = xB xcall (den 13) [.inr .return_] L st h := den_eq (b := k13_62) rfl L st h
theorem N13 (h : xH) (a0 : Nat) : xcall 13 [.ref a0] h = den 13 0 [some (.ref a0), none] [] h := if_pos rfl
theorem D14_0 (L : xL) (st : xS) (h : xH) : den 14 0 L st h = xB xcall (den 14) [.inl (.aload 1), .inl (.getfield 200), .inr (.ifCond .eq 8), .inr .return_] L st h := den_eq (b := k14_0) rfl L st h
theorem D14_8 (L : xL) (st : xS) (h : xH) : den 14 8 L st h = xB xcall (den 14) [.inl (.aload 1), .inl (.iconst 1), .inl (.putfield 200), .inl (.aload 0), .inl (.getfield 67), .inr (.invokeinterface 27 1), .inl (.iconst 0), .inl (.istore 2), xto 22] L st h := den_eq (b := k14_8) rfl L st h
theorem D14_22 (L : xL) (st : xS) (h : xH) : den 14 22 L st h = xB xcall (den 14) [.inl (.iload 2), .inl (.iconst 4), .inr (.if_icmp .ge 50), .inl (.aload 0), .inl (.getfield 67), .inl (.iload 2), .inl (.aload 1), .inl (.getfield 193), .inl (.iload 2), .inl .aaload, .inr (.invokeinterface 10 1), .inr (.invokeinterface 30 3), .inl (.iinc 2 1), .inr (.goto 22)] L st h := den_eq (b := k14_22) rfl L st h
theorem D14_50 (L : xL) (st : xS) (h : xH) : den 14 50 L st h = xB xcall (den 14) [.inl (.iconst 0), .inl (.istore 2), .inl (.iconst 0), .inl (.istore 3), xto 54] L st h := den_eq (b := k14_50) rfl L st h
theorem D14_54 (L : xL) (st : xS) (h : xH) : den 14 54 L st h = xB xcall (den 14) [.inl (.iload 3), .inl (.aload 1), .inl (.getfield 195), .inr (.if_icmp .ge 102), .inl (.aload 0), .inl (.getfield 68), .inl (.iload 3), .inl .aaload, .inl (.aload 1), .inl (.getfield 196), .inl (.iload 3), .inl .aaload, .inr (.invokeinterface 28 2), .inl (.aload 1), .inl (.getfield 196), .inl (.iload 3), .inl .aaload, .inl (.getfield 164), .inl (.iconst (-1)), .inr (.if_icmp .ne 96), .inl (.iload 2), .inl (.iconst 1), .inl (.iload 3), .inl .ishl, .inl .ior, .inl (.istore 2), xto 96] L st h := den_eq (b := k14_54) rfl L st h
theorem D14_96 (L : xL) (st : xS) (h : xH) : den 14 96 L st h = xB xcall (den 14) [.inl (.iinc 3 1), .inr (.goto 54)] L st h := den_eq (b := k14_96) rfl L st h
theorem D14_102 (L : xL) (st : xS) (h : xH) : den 14 102 L st h = xB xcall (den 14) [.inl (.aload 0), .inl (.aload 0), .inl (.aload 1), .inl (.iload 2), .inr (.invokeinterface 15 3), .inl (.putfield 65), .inl (.aload 0), .inl (.aload 0), .inl (.iload 2), .inr (.invokeinterface 17 2), .inr (.ifCond .eq 125), .inl (.iconst 0), .inr (.goto 130)] L st h := den_eq (b := k14_102) rfl L st h
theorem D14_125 (L : xL) (st : xS) (h : xH) : den 14 125 L st h = xB xcall (den 14) [.inl (.aload 0), .inl (.iload 2), .inr (.invokeinterface 16 2), xto 130] L st h := den_eq (b := k14_125) rfl L st h
theorem D14_130 (L : xL) (st : xS) (h : xH) : den 14 130 L st h = xB xcall (den 14) [.inl (.putfield 66), .inl (.aload 0), .inl (.getfield 64), .inl (.aload 0), .inl (.getfield 67), .inr (.invokeinterface 26 2), .inl (.iconst 0), .inl (.istore 3), xto 146] L st h := den_eq (b := k14_130) rfl L st h
theorem D14_146 (L : xL) (st : xS) (h : xH) : den 14 146 L st h = xB xcall (den 14) [.inl (.iload 3), .inl (.aload 1), .inl (.getfield 195), .inr (.if_icmp .ge 184), .inl (.aload 0), .inl (.getfield 65), .inl (.iload 3), .inl .ishr, .inl (.iconst 1), .inl .iand, .inr (.ifCond .eq 178), .inl (.aload 0), .inl (.getfield 64), .inl (.aload 0), .inl (.getfield 68), .inl (.iload 3), .inl .aaload, .inr (.invokeinterface 29 2), xto 178] L st h := den_eq (b := k14_146) rfl L st h
theorem D14_178 (L : xL) (st : xS) (h : xH) : den 14 178 L st h = xB xcall (den 14) [.inl (.iinc 3 1), .inr (.goto 146)] L st h := den_eq (b := k14_178) rfl L st h
theorem D14_184 (L : xL) (st : xS) (h : xH) : den 14 184 L st h = xB xcall (den 14) [.inr .return_] L st h := den_eq (b := k14_184) rfl L st h
theorem N14 (h : xH) (a0 : Nat) (a1 : Nat) (ho : xobj h a0 2 = true) : xcall 14 [.ref a0, .ref a1] h = den 14 0 [some (.ref a0), some (.ref a1), none, none] [] h := if_pos ho
theorem D15_0 (L : xL) (st : xS) (h : xH) : den 15 0 L st h = xB xcall (den 15) [.inl (.iload 2), .inl (.istore 3), .inl (.iconst 0), .inl (.istore 4), xto 5] L st h := den_eq (b := k15_0) rfl L st h
theorem D15_5 (L : xL) (st : xS) (h : xH) : den 15 5 L st h = xB xcall (den 15) [.inl (.iload 4), .inl (.iconst 10), .inr (.if_icmp .ge 71), .inl (.iconst 0), .inl (.istore 5), xto 15] L st h := den_eq (b := k15_5) rfl L st h
theorem D15_15 (L : xL) (st : xS) (h : xH) : den 15 15 L st h = xB xcall (den 15) [.inl (.iload 5), .inl (.aload 1), .inl (.getfield 195), .inr (.if_icmp .ge 65), .inl (.aload 1), .inl (.getfield 196), .inl (.iload 5), .inl .aaload, .inl (.getfield 164), .inl (.iload 4), .inr (.if_icmp .ne 59), .inl (.aload 0), .inl (.iload 3), .inl (.iconst 1), .inl (.iload 5), .inl .ishl, .inl .ior, .inr (.invokeinterface 17 2), .inr (.ifCond .eq 59), .inl (.iload 3), .inl (.iconst 1), .inl (.iload 5), .inl .ishl, .inl .ior, .inl (.istore 3), xto 59] L st h := den_eq (b := k15_15) rfl L st h
theorem D15_59 (L : xL) (st : xS) (h : xH) : den 15 59 L st h = xB xcall (den 15) [.inl (.iinc 5 1), .inr (.goto 15)] L st h := den_eq (b := k15_59) rfl L st h
theorem D15_65 (L : xL) (st : xS) (h : xH) : den 15 65 L st h = xB xcall (den 15) [.inl (.iinc 4 1), .inr (.goto 5)] L st h := den_eq (b := k15_65) rfl L st h
theorem D15_71 (L : xL) (st : xS) (h : xH) : den 15 71 L st h = xB xcall (den 15) [.inl (.iload 3), .inr .ireturn] L st h := den_eq (b := k15_71) rfl L st h
theorem N15 (h : xH) (a0 : Nat) (a1 : Nat) (a2 : Int32) (ho : xobj h a0 2 = true) : xcall 15 [.ref a0, .ref a1, .int a2] h = den 15 0 [some (.ref a0), some (.ref a1), some (.int a2), none, none, none] [] h := if_pos ho
theorem D16_0 (L : xL) (st : xS) (h : xH) : den 16 0 L st h = xB xcall (den 16) [.inl (.iload 1), .inl (.istore 2), .inl (.iconst 0), .inl (.istore 3), xto 4] L st h := den_eq (b := k16_0) rfl L st h
theorem D16_4 (L : xL) (st : xS) (h : xH) : den 16 4 L st h = xB xcall (den 16) [.inl (.iload 3), .inl (.iconst 8), .inr (.if_icmp .ge 43), .inl (.iload 2), .inl (.iconst 1), .inl (.iload 3), .inl .ishl, .inl (.iconst (-1)), .inl .ixor, .inl .iand, .inl (.istore 4), .inl (.iload 4), .inl (.iload 2), .inr (.if_icmp .eq 37), .inl (.aload 0), .inl (.iload 4), .inr (.invokeinterface 17 2), .inr (.ifCond .ne 37), .inl (.iload 4), .inl (.istore 2), xto 37] L st h := den_eq (b := k16_4) rfl L st h
theorem D16_37 (L : xL) (st : xS) (h : xH) : den 16 37 L st h = xB xcall (den 16) [.inl (.iinc 3 1), .inr (.goto 4)] L st h := den_eq (b := k16_37) rfl L st h
theorem D16_43 (L : xL) (st : xS) (h : xH) : den 16 43 L st h = xB xcall (den 16) [.inl (.iload 2), .inr .ireturn] L st h := den_eq (b := k16_43) rfl L st h
theorem N16 (h : xH) (a0 : Nat) (a1 : Int32) (ho : xobj h a0 2 = true) : xcall 16 [.ref a0, .int a1] h = den 16 0 [some (.ref a0), some (.int a1), none, none, none] [] h := if_pos ho
theorem D17_0 (L : xL) (st : xS) (h : xH) : den 17 0 L st h = xB xcall (den 17) [.inl (.iconst 0), .inl (.istore 2), xto 2] L st h := den_eq (b := k17_0) rfl L st h
theorem D17_2 (L : xL) (st : xS) (h : xH) : den 17 2 L st h = xB xcall (den 17) [.inl (.iload 2), .inl (.iconst 64), .inr (.if_icmp .ge 78), .inl (.aload 0), .inl (.getfield 67), .inl (.getfield 128), .inl (.iload 2), .inl .laload, .inl (.lstore 3), .inl (.iconst 0), .inl (.istore 5), xto 21] L st h := den_eq (b := k17_2) rfl L st h
theorem D17_21 (L : xL) (st : xS) (h : xH) : den 17 21 L st h = xB xcall (den 17) [.inl (.iload 5), .inl (.iconst 8), .inr (.if_icmp .ge 64), .inl (.lload 3), .inl (.sipush 0), .inl .lcmp, .inr (.ifCond .eq 64), .inl (.iload 1), .inl (.iload 5), .inl .ishr, .inl (.iconst 1), .inl .iand, .inr (.ifCond .eq 58), .inl (.lload 3), .inl (.aload 0), .inl (.getfield 68), .inl (.iload 5), .inl .aaload, .inl (.getfield 128), .inl (.iload 2), .inl .laload, .inl .land, .inl (.lstore 3), xto 58] L st h := den_eq (b := k17_21) rfl L st h
theorem D17_58 (L : xL) (st : xS) (h : xH) : den 17 58 L st h = xB xcall (den 17) [.inl (.iinc 5 1), .inr (.goto 21)] L st h := den_eq (b := k17_58) rfl L st h
theorem D17_64 (L : xL) (st : xS) (h : xH) : den 17 64 L st h = xB xcall (den 17) [.inl (.lload 3), .inl (.sipush 0), .inl .lcmp, .inr (.ifCond .eq 72), .inl (.iconst 1), .inr .areturn] L st h := den_eq (b := k17_64) rfl L st h
theorem D17_72 (L : xL) (st : xS) (h : xH) : den 17 72 L st h = xB xcall (den 17) [.inl (.iinc 2 1), .inr (.goto 2)] L st h := den_eq (b := k17_72) rfl L st h
theorem D17_78 (L : xL) (st : xS) (h : xH) : den 17 78 L st h = xB xcall (den 17) [.inl (.iconst 0), .inr .areturn] L st h := den_eq (b := k17_78) rfl L st h
theorem N17 (h : xH) (a0 : Nat) (a1 : Int32) (ho : xobj h a0 2 = true) : xcall 17 [.ref a0, .int a1] h = den 17 0 [some (.ref a0), some (.int a1), none, none, none, none] [] h := if_pos ho
theorem D18_0 (L : xL) (st : xS) (h : xH) : den 18 0 L st h = xB xcall (den 18) [.inl (.aload 0), .inl .pop, .inl (.aload 0), .inl (.iconst 5), .inl (.anewarray 6), .inl (.putfield 97), .inl (.iconst 0), .inl (.istore 1), xto 14] L st h := den_eq (b := k18_0) rfl L st h
theorem D18_14 (L : xL) (st : xS) (h : xH) : den 18 14 L st h = xB xcall (den 18) [.inl (.iload 1), .inl (.iconst 4), .inr (.if_icmp .gt 38), .inl (.aload 0), .inl (.getfield 97), .inl (.iload 1), .inl (.new 6), .inl .dup, .inr (.invokeinterface 43 1), .inl .aastore, .inl (.iinc 1 1), .inr (.goto 14)] L st h := den_eq (b := k18_14) rfl L st h
theorem D18_38 (L : xL) (st : xS) (h : xH) : den 18 38 L st h = xB xcall (den 18) [.inr .return_] L st h := den_eq (b := k18_38) rfl L st h
theorem N18 (h : xH) (a0 : Nat) : xcall 18 [.ref a0] h = den 18 0 [some (.ref a0), none] [] h := if_pos rfl
theorem D19_0 (L : xL) (st : xS) (h : xH) : den 19 0 L st h = xB xcall (den 19) [.inl (.aload 0), .inl (.getfield 97), .inl (.aload 0), .inl (.getfield 96), .inl .aaload, .inl (.aload 1), .inr (.invokeinterface 44 2), .inr .return_] L st h := den_eq (b := k19_0) rfl L st h
theorem N19 (h : xH) (a0 : Nat) (a1 : Nat) (ho : xobj h a0 3 = true) : xcall 19 [.ref a0, .ref a1] h = den 19 0 [some (.ref a0), some (.ref a1)] [] h := if_pos ho
theorem D20_0 (L : xL) (st : xS) (h : xH) : den 20 0 L st h = xB xcall (den 20) [.inl (.aload 0), .inl (.getfield 96), .inl (.iconst 4), .inr (.if_icmp .ge 19), .inl (.aload 0), .inl .dup, .inl (.getfield 96), .inl (.iconst 1), .inl .iadd, .inl (.putfield 96), .inr .return_] L st h := den_eq (b := k20_0) rfl L st h
theorem D20_19 (L : xL) (st : xS) (h : xH) : den 20 19 L st h = xB xcall (den 20) [.inl (.aload 0), .inl (.getfield 97), .inl (.iconst 0), .inl .aaload, .inl (.astore 1), .inl (.iconst 0), .inl (.istore 2), xto 28] L st h := den_eq (b := k20_19) rfl L st h
theorem D20_28 (L : xL) (st : xS) (h : xH) : den 20 28 L st h = xB xcall (den 20) [.inl (.iload 2), .inl (.iconst 4), .inr (.if_icmp .ge 53), .inl (.aload 0), .inl (.getfield 97), .inl (.iload 2), .inl (.aload 0), .inl (.getfield 97), .inl (.iload 2), .inl (.iconst 1), .inl .iadd, .inl .aaload, .inl .aastore, .inl (.iinc 2 1), .inr (.goto 28)] L st h := den_eq (b := k20_28) rfl L st h
theorem D20_53 (L : xL) (st : xS) (h : xH) : den 20 53 L st h = xB xcall (den 20) [.inl (.aload 0), .inl (.getfield 97), .inl (.iconst 4), .inl (.aload 1), .inl .aastore, .inr .return_] L st h := den_eq (b := k20_53) rfl L st h
theorem N20 (h : xH) (a0 : Nat) (ho : xobj h a0 3 = true) : xcall 20 [.ref a0] h = den 20 0 [some (.ref a0), none, none] [] h := if_pos ho
theorem D21_0 (L : xL) (st : xS) (h : xH) : den 21 0 L st h = xB xcall (den 21) [.inl (.aload 0), .inl (.getfield 96), .inr (.ifCond .ne 10), .inl (.iconst (-3)), .inr .ireturn] L st h := den_eq (b := k21_0) rfl L st h
theorem D21_10 (L : xL) (st : xS) (h : xH) : den 21 10 L st h = xB xcall (den 21) [.inl (.aload 0), .inl .dup, .inl (.getfield 96), .inl (.iconst 1), .inl .isub, .inl (.putfield 96), .inl (.aload 1), .inl (.aload 0), .inl (.getfield 97), .inl (.aload 0), .inl (.getfield 96), .inl .aaload, .inr (.invokeinterface 44 2), .inl (.aload 0), .inl (.getfield 96), .inr .ireturn] L st h := den_eq (b := k21_10) rfl L st h
theorem N21 (h : xH) (a0 : Nat) (a1 : Nat) (ho : xobj h a0 3 = true) : xcall 21 [.ref a0, .ref a1] h = den 21 0 [some (.ref a0), some (.ref a1)] [] h := if_pos ho
theorem D22_0 (L : xL) (st : xS) (h : xH) : den 22 0 L st h = xB xcall (den 22) [.inl (.aload 0), .inl .pop, .inl (.aload 0), .inl (.iconst 64), .inl (.newarray .long), .inl (.putfield 128), .inr .return_] L st h := den_eq (b := k22_0) rfl L st h
theorem N22 (h : xH) (a0 : Nat) : xcall 22 [.ref a0] h = den 22 0 [some (.ref a0)] [] h := if_pos rfl
theorem D23_0 (L : xL) (st : xS) (h : xH) : den 23 0 L st h = xB xcall (den 23) [.inl (.iload 1), .inr (.ifCond .ne 10), .inl (.iload 0), .inl (.iconst 3), .inl .ishr, .inr (.goto 14)] L st h := den_eq (b := k23_0) rfl L st h
theorem D23_10 (L : xL) (st : xS) (h : xH) : den 23 10 L st h = xB xcall (den 23) [.inl (.iload 0), .inl (.iconst 7), .inl .iand, xto 14] L st h := den_eq (b := k23_10) rfl L st h
theorem D23_14 (L : xL) (st : xS) (h : xH) : den 23 14 L st h = xB xcall (den 23) [.inr .ireturn] L st h := den_eq (b := k23_14) rfl L st h
theorem N23 (h : xH) (a0 : Int32) (a1 : Int32) : xcall 23 [.int a0, .int a1] h = den 23 0 [some (.int a0), some (.int a1)] [] h := if_pos rfl
theorem D24_0 (L : xL) (st : xS) (h : xH) : den 24 0 L st h = xB xcall (den 24) [.inl (.iload 1), .inl (.iconst 2), .inr (.if_icmp .ge 17), .inl (.iload 2), .inl (.iload 0), .inl (.iload 1), .inr (.invokeinterface 23 2), .inl .ishr, .inl (.iconst 1), .inl .iand, .inr (.ifCond .eq 21), xto 17] L st h := den_eq (b := k24_0) rfl L st h
theorem D24_17 (L : xL) (st : xS) (h : xH) : den 24 17 L st h = xB xcall (den 24) [.inl (.iconst 1), .inr (.goto 22)] L st h := den_eq (b := k24_17) rfl L st h
theorem D24_21 (L : xL) (st : xS) (h : xH) : den 24 21 L st h = xB xcall (den 24) [.inl (.iconst 0), xto 22] L st h := den_eq (b := k24_21) rfl L st h
theorem D24_22 (L : xL) (st : xS) (h : xH) : den 24 22 L st h = xB xcall (den 24) [.inr .areturn] L st h := den_eq (b := k24_22) rfl L st h
theorem N24 (h : xH) (a0 : Int32) (a1 : Int32) (a2 : Int32) : xcall 24 [.int a0, .int a1, .int a2] h = den 24 0 [some (.int a0), some (.int a1), some (.int a2)] [] h := if_pos rfl
theorem D25_0 (L : xL) (st : xS) (h : xH) : den 25 0 L st h = xB xcall (den 25) [.inl (.iload 0), .inl (.iconst 2), .inr (.if_icmp .ge 9), .inl (.sipush (-1)), .inr .lreturn] L st h := den_eq (b := k25_0) rfl L st h
theorem D25_9 (L : xL) (st : xS) (h : xH) : den 25 9 L st h = xB xcall (den 25) [.inl (.sipush 0), .inl (.lstore 2), .inl (.iconst 0), .inl (.istore 4), xto 14] L st h := den_eq (b := k25_9) rfl L st h
theorem D25_14 (L : xL) (st : xS) (h : xH) : den 25 14 L st h = xB xcall (den 25) [.inl (.iload 4), .inl (.iconst 8), .inr (.if_icmp .ge 62), .inl (.iload 1), .inl (.iload 4), .inl .ishr, .inl (.iconst 1), .inl .iand, .inr (.ifCond .eq 56), .inl (.lload 2), .inl (.iload 0), .inl (.iconst 2), .inr (.if_icmp .ne 48), .inl (.sipush 255), .inl (.iconst 8), .inl (.iload 4), .inl .imul, .inl .lshl, .inr (.goto 54)] L st h := den_eq (b := k25_14) rfl L st h
theorem D25_48 (L : xL) (st : xS) (h : xH) : den 25 48 L st h = xB xcall (den 25) [.inl (.sipush 72340172838076673), .inl (.iload 4), .inl .lshl, xto 54] L st h := den_eq (b := k25_48) rfl L st h
theorem D25_54 (L : xL) (st : xS) (h : xH) : den 25 54 L st h = xB xcall (den 25) [.inl .lor, .inl (.lstore 2), xto 56] L st h := den_eq (b := k25_54) rfl L st h
theorem D25_56 (L : xL) (st : xS) (h : xH) : den 25 56 L st h = xB xcall (den 25) [.inl (.iinc 4 1), .inr (.goto 14)] L st h := den_eq (b := k25_56) rfl L st h
theorem D25_62 (L : xL) (st : xS) (h : xH) : den 25 62 L st h = xB xcall (den 25) [.inl (.lload 2), .inr .lreturn] L st h := den_eq (b := k25_62) rfl L st h
theorem N25 (h : xH) (a0 : Int32) (a1 : Int32) : xcall 25 [.int a0, .int a1] h = den 25 0 [some (.int a0), some (.int a1), none, none, none] [] h := if_pos rfl
theorem D26_0 (L : xL) (st : xS) (h : xH) : den 26 0 L st h = xB xcall (den 26) [.inl (.aload 1), .inl (.getfield 128), .inl (.iconst 0), .inl (.aload 0), .inl (.getfield 128), .inl (.iconst 0), .inl (.iconst 64), .inl .nop, .inr .return_] L st h := den_eq (b := k26_0) rfl L st h
theorem N26 (h : xH) (a0 : Nat) (a1 : Nat) (ho : xobj h a0 4 = true) : xcall 26 [.ref a0, .ref a1] h = den 26 0 [some (.ref a0), some (.ref a1)] [] h := if_pos ho
theorem D27_0 (L : xL) (st : xS) (h : xH) : den 27 0 L st h = xB xcall (den 27) [.inl (.iconst 0), .inl (.istore 1), xto 2] L st h := den_eq (b := k27_0) rfl L st h
theorem D27_2 (L : xL) (st : xS) (h : xH) : den 27 2 L st h = xB xcall (den 27) [.inl (.iload 1), .inl (.iconst 64), .inr (.if_icmp .ge 23), .inl (.aload 0), .inl (.getfield 128), .inl (.iload 1), .inl (.sipush (-1)), .inl .lastore, .inl (.iinc 1 1), .inr (.goto 2)] L st h := den_eq (b := k27_2) rfl L st h
theorem D27_23 (L : xL) (st : xS) (h : xH) : den 27 23 L st h = xB xcall (den 27) [.inr .return_] L st h := den_eq (b := k27_23) rfl L st h
theorem N27 (h : xH) (a0 : Nat) (ho : xobj h a0 4 = true) : xcall 27 [.ref a0] h = den 27 0 [some (.ref a0), none] [] h := if_pos ho
theorem D28_0 (L : xL) (st : xS) (h : xH) : den 28 0 L st h = xB xcall (den 28) [.inl (.iconst 0), .inl (.istore 2), xto 2] L st h := den_eq (b := k28_0) rfl L st h
theorem D28_2 (L : xL) (st : xS) (h : xH) : den 28 2 L st h = xB xcall (den 28) [.inl (.iload 2), .inl (.iconst 64), .inr (.if_icmp .ge 21), .inl (.aload 0), .inl (.getfield 128), .inl (.iload 2), .inl (.sipush 0), .inl .lastore, .inl (.iinc 2 1), .inr (.goto 2)] L st h := den_eq (b := k28_2) rfl L st h
theorem D28_21 (L : xL) (st : xS) (h : xH) : den 28 21 L st h = xB xcall (den 28) [.inl (.iconst 0), .inl (.istore 2), xto 23] L st h := den_eq (b := k28_21) rfl L st h
theorem D28_23 (L : xL) (st : xS) (h : xH) : den 28 23 L st h = xB xcall (den 28) [.inl (.iload 2), .inl (.iconst 8), .inr (.if_icmp .ge 118), .inl (.aload 1), .inl (.iload 2), .inr (.invokeinterface 42 2), .inl (.istore 3), .inl (.aload 1), .inl (.getfield 161), .inl (.iconst 1), .inl (.iload 2), .inl .ishl, .inr (.invokeinterface 25 2), .inl (.aload 1), .inl (.getfield 162), .inl (.iload 3), .inr (.invokeinterface 25 2), .inl .land, .inl (.lstore 4), .inl (.iconst 0), .inl (.istore 6), xto 59] L st h := den_eq (b := k28_23) rfl L st h
theorem D28_59 (L : xL) (st : xS) (h : xH) : den 28 59 L st h = xB xcall (den 28) [.inl (.iload 6), .inl (.iconst 64), .inr (.if_icmp .ge 112), .inl (.iload 6), .inl (.aload 1), .inl (.getfield 161), .inl (.iconst 1), .inl (.iload 2), .inl .ishl, .inr (.invokeinterface 24 3), .inr (.ifCond .eq 106), .inl (.iload 6), .inl (.aload 1), .inl (.getfield 162), .inl (.iload 3), .inr (.invokeinterface 24 3), .inr (.ifCond .eq 106), .inl (.aload 0), .inl (.getfield 128), .inl (.iload 6), .inl .dup2, .inl .laload, .inl (.lload 4), .inl .lor, .inl .lastore, xto 106] L st h := den_eq (b := k28_59) rfl L st h
theorem D28_106 (L : xL) (st : xS) (h : xH) : den 28 106 L st h = xB xcall (den 28) [.inl (.iinc 6 1), .inr (.goto 59)] L st h := den_eq (b := k28_106) rfl L st h
theorem D28_112 (L : xL) (st : xS) (h : xH) : den 28 112 L st h = xB xcall (den 28) [.inl (.iinc 2 1), .inr (.goto 23)] L st h := den_eq (b := k28_112) rfl L st h
theorem D28_118 (L : xL) (st : xS) (h : xH) : den 28 118 L st h = xB xcall (den 28) [.inr .return_] L st h := den_eq (b := k28_118) rfl L st h
theorem N28 (h : xH) (a0 : Nat) (a1 : Nat) (ho : xobj h a0 4 = true) : xcall 28 [.ref a0, .ref a1] h = den 28 0 [some (.ref a0), some (.ref a1), none, none, none, none, none] [] h := if_pos ho
theorem D29_0 (L : xL) (st : xS) (h : xH) : den 29 0 L st h = xB xcall (den 29) [.inl (.iconst 0), .inl (.istore 2), xto 2] L st h := den_eq (b := k29_0) rfl L st h
theorem D29_2 (L : xL) (st : xS) (h : xH) : den 29 2 L st h = xB xcall (den 29) [.inl (.iload 2), .inl (.iconst 64), .inr (.if_icmp .ge 29), .inl (.aload 0), .inl (.getfield 128), .inl (.iload 2), .inl .dup2, .inl .laload, .inl (.aload 1), .inl (.getfield 128), .inl (.iload 2), .inl .laload, .inl .land, .inl .lastore, .inl (.iinc 2 1), .inr (.goto 2)] L st h := den_eq (b := k29_2) rfl L st h
theorem D29_29 (L : xL) (st : xS) (h : xH) : den 29 29 L st h = xB xcall (den 29) [.inr .return_] L st h := den_eq (b := k29_29) rfl L st h
theorem N29 (h : xH) (a0 : Nat) (a1 : Nat) (ho : xobj h a0 4 = true) : xcall 29 [.ref a0, .ref a1] h = den 29 0 [some (.ref a0), some (.ref a1), none] [] h := if_pos ho
theorem D30_0 (L : xL) (st : xS) (h : xH) : den 30 0 L st h = xB xcall (den 30) [.inl (.iload 1), .inl (.iload 2), .inr (.invokeinterface 25 2), .inl (.lstore 3), .inl (.iconst 0), .inl (.istore 5), xto 9] L st h := den_eq (b := k30_0) rfl L st h
theorem D30_9 (L : xL) (st : xS) (h : xH) : den 30 9 L st h = xB xcall (den 30) [.inl (.iload 5), .inl (.iconst 64), .inr (.if_icmp .ge 52), .inl (.aload 0), .inl (.getfield 128), .inl (.iload 5), .inl (.iload 5), .inl (.iload 1), .inl (.iload 2), .inr (.invokeinterface 24 3), .inr (.ifCond .eq 44), .inl (.aload 0), .inl (.getfield 128), .inl (.iload 5), .inl .laload, .inl (.lload 3), .inl .land, .inr (.goto 45)] L st h := den_eq (b := k30_9) rfl L st h
theorem D30_44 (L : xL) (st : xS) (h : xH) : den 30 44 L st h = xB xcall (den 30) [.inl (.sipush 0), xto 45] L st h := den_eq (b := k30_44) rfl L st h
theorem D30_45 (L : xL) (st : xS) (h : xH) : den 30 45 L st h = xB xcall (den 30) [.inl .lastore, .inl (.iinc 5 1), .inr (.goto 9)] L st h := den_eq (b := k30_45) rfl L st h
theorem D30_52 (L : xL) (st : xS) (h : xH) : den 30 52 L st h = xB xcall (den 30) [.inr .return_] L st h := den_eq (b := k30_52) rfl L st h
theorem N30 (h : xH) (a0 : Nat) (a1 : Int32) (a2 : Int32) (ho : xobj h a0 4 = true) : xcall 30 [.ref a0, .int a1, .int a2] h = den 30 0 [some (.ref a0), some (.int a1), some (.int a2), none, none, none] [] h := if_pos ho
theorem D31_0 (L : xL) (st : xS) (h : xH) : den 31 0 L st h = xB xcall (den 31) [.inl (.iconst 0), .inl (.istore 1), xto 2] L st h := den_eq (b := k31_0) rfl L st h
theorem D31_2 (L : xL) (st : xS) (h : xH) : den 31 2 L st h = xB xcall (den 31) [.inl (.iload 1), .inl (.iconst 64), .inr (.if_icmp .ge 27), .inl (.aload 0), .inl (.getfield 128), .inl (.iload 1), .inl .laload, .inl (.sipush 0), .inl .lcmp, .inr (.ifCond .eq 21), .inl (.iconst 0), .inr .areturn] L st h := den_eq (b := k31_2) rfl L st h
theorem D31_21 (L : xL) (st : xS) (h : xH) : den 31 21 L st h = xB xcall (den 31) [.inl (.iinc 1 1), .inr (.goto 2)] L st h := den_eq (b := k31_21) rfl L st h
theorem D31_27 (L : xL) (st : xS) (h : xH) : den 31 27 L st h = xB xcall (den 31) [.inl (.iconst 1), .inr .areturn] L st h := den_eq (b := k31_27) rfl L st h
theorem N31 (h : xH) (a0 : Nat) (ho : xobj h a0 4 = true) : xcall 31 [.ref a0] h = den 31 0 [some (.ref a0), none] [] h := if_pos ho
theorem D32_0 (L : xL) (st : xS) (h : xH) : den 32 0 L st h = xB xcall (den 32) [.inl (.iconst 0), .inl (.istore 1), .inl (.iconst 0), .inl (.istore 2), xto 4] L st h := den_eq (b := k32_0) rfl L st h
theorem D32_4 (L : xL) (st : xS) (h : xH) : den 32 4 L st h = xB xcall (den 32) [.inl (.iload 2), .inl (.iconst 64), .inr (.if_icmp .ge 28), .inl (.iload 1), .inl (.aload 0), .inl (.getfield 128), .inl (.iload 2), .inl .laload, .inr (.invokeinterface 187 1), .inl .iadd, .inl (.istore 1), .inl (.iinc 2 1), .inr (.goto 4)] L st h := den_eq (b := k32_4) rfl L st h
theorem D32_28 (L : xL) (st : xS) (h : xH) : den 32 28 L st h = xB xcall (den 32) [.inl (.iload 1), .inr .ireturn] L st h := den_eq (b := k32_28) rfl L st h
theorem N32 (h : xH) (a0 : Nat) (ho : xobj h a0 4 = true) : xcall 32 [.ref a0] h = den 32 0 [some (.ref a0), none, none] [] h := if_pos ho
theorem D33_0 (L : xL) (st : xS) (h : xH) : den 33 0 L st h = xB xcall (den 33) [.inl (.iconst 0), .inl (.istore 2), .inl (.sipush 0), .inl (.lstore 3), .inl (.iconst 0), .inl (.istore 5), xto 7] L st h := den_eq (b := k33_0) rfl L st h
theorem D33_7 (L : xL) (st : xS) (h : xH) : den 33 7 L st h = xB xcall (den 33) [.inl (.iload 5), .inl (.iconst 64), .inr (.if_icmp .ge 53), .inl (.aload 0), .inl (.getfield 128), .inl (.iload 5), .inl .laload, .inl (.sipush 0), .inl .lcmp, .inr (.ifCond .eq 47), .inl (.iload 2), .inl (.iconst 1), .inl (.iload 5), .inl (.iload 1), .inr (.invokeinterface 23 2), .inl .ishl, .inl .ior, .inl (.istore 2), .inl (.lload 3), .inl (.aload 0), .inl (.getfield 128), .inl (.iload 5), .inl .laload, .inl .lor, .inl (.lstore 3), xto 47] L st h := den_eq (b := k33_7) rfl L st h
theorem D33_47 (L : xL) (st : xS) (h : xH) : den 33 47 L st h = xB xcall (den 33) [.inl (.iinc 5 1), .inr (.goto 7)] L st h := den_eq (b := k33_47) rfl L st h
theorem D33_53 (L : xL) (st : xS) (h : xH) : den 33 53 L st h = xB xcall (den 33) [.inl (.iload 1), .inl (.iconst 2), .inr (.if_icmp .ge 62), .inl (.iload 2), .inr (.goto 67)] L st h := den_eq (b := k33_53) rfl L st h
theorem D33_62 (L : xL) (st : xS) (h : xH) : den 33 62 L st h = xB xcall (den 33) [.inl (.lload 3), .inl (.iload 1), .inr (.invokeinterface 34 2), xto 67] L st h := den_eq (b := k33_62) rfl L st h
theorem D33_67 (L : xL) (st : xS) (h : xH) : den 33 67 L st h = xB xcall (den 33) [.inr .ireturn] L st h := den_eq (b := k33_67) rfl L st h
theorem N33 (h : xH) (a0 : Nat) (a1 : Int32) (ho : xobj h a0 4 = true) : xcall 33 [.ref a0, .int a1] h = den 33 0 [some (.ref a0), some (.int a1), none, none, none, none] [] h := if_pos ho
theorem D34_0 (L : xL) (st : xS) (h : xH) : den 34 0 L st h = xB xcall (den 34) [.inl (.iconst 0), .inl (.istore 3), .inl (.iconst 0), .inl (.istore 4), xto 5] L st h := den_eq (b := k34_0) rfl L st h
theorem D34_5 (L : xL) (st : xS) (h : xH) : den 34 5 L st h = xB xcall (den 34) [.inl (.iload 4), .inl (.iconst 8), .inr (.if_icmp .ge 40), .inl (.lload 0), .inl (.iload 2), .inl (.iconst 1), .inl (.iload 4), .inl .ishl, .inr (.invokeinterface 25 2), .inl .land, .inl (.sipush 0), .inl .lcmp, .inr (.ifCond .eq 34), .inl (.iload 3), .inl (.iconst 1), .inl (.iload 4), .inl .ishl, .inl .ior, .inl (.istore 3), xto 34] L st h := den_eq (b := k34_5) rfl L st h
theorem D34_34 (L : xL) (st : xS) (h : xH) : den 34 34 L st h = xB xcall (den 34) [.inl (.iinc 4 1), .inr (.goto 5)] L st h := den_eq (b := k34_34) rfl L st h
theorem D34_40 (L : xL) (st : xS) (h : xH) : den 34 40 L st h = xB xcall (den 34) [.inl (.iload 3), .inr .ireturn] L st h := den_eq (b := k34_40) rfl L st h
theorem N34 (h : xH) (a0 : Int64) (a1 : Int32) : xcall 34 [.long a0, .int a1] h = den 34 0 [some (.long a0), none, some (.int a1), none, none] [] h := if_pos rfl
theorem D35_0 (L : xL) (st : xS) (h : xH) : den 35 0 L st h = xB xcall (den 35) [.inl (.iload 1), .inl (.istore 2), .inl (.iconst 0), .inl (.istore 3), xto 4] L st h := den_eq (b := k35_0) rfl L st h
theorem D35_4 (L : xL) (st : xS) (h : xH) : den 35 4 L st h = xB xcall (den 35) [.inl (.iload 3), .inl (.iconst 64), .inr (.if_icmp .ge 54), .inl (.aload 0), .inl (.getfield 128), .inl (.iload 3), .inl .laload, .inr (.invokeinterface 187 1), .inl (.istore 4), .inl (.iload 2), .inl (.iload 4), .inr (.if_icmp .ge 43), .inl (.iload 3), .inl (.iconst 64), .inl .imul, .inl (.aload 0), .inl (.getfield 128), .inl (.iload 3), .inl .laload, .inl (.iload 2), .inr (.invokeinterface 36 2), .inl .iadd, .inr .ireturn] L st h := den_eq (b := k35_4) rfl L st h
theorem D35_43 (L : xL) (st : xS) (h : xH) : den 35 43 L st h = xB xcall (den 35) [.inl (.iload 2), .inl (.iload 4), .inl .isub, .inl (.istore 2), .inl (.iinc 3 1), .inr (.goto 4)] L st h := den_eq (b := k35_43) rfl L st h
theorem D35_54 (L : xL) (st : xS) (h : xH) : den 35 54 L st h = xB xcall (den 35) [.inl (.iconst (-1)), .inr .ireturn] L st h := den_eq (b := k35_54) rfl L st h
theorem N35 (h : xH) (a0 : Nat) (a1 : Int32) (ho : xobj h a0 4 = true) : xcall 35 [.ref a0, .int a1] h = den 35 0 [some (.ref a0), some (.int a1), none, none, none] [] h := if_pos ho
theorem D36_0 (L : xL) (st : xS) (h : xH) : den 36 0 L st h = xB xcall (den 36) [.inl (.iload 2), .inl (.istore 3), .inl (.iconst 0), .inl (.istore 4), xto 5] L st h := den_eq (b := k36_0) rfl L st h
theorem D36_5 (L : xL) (st : xS) (h : xH) : den 36 5 L st h = xB xcall (den 36) [.inl (.iload 4), .inl (.iconst 64), .inr (.if_icmp .ge 39), .inl (.lload 0), .inl (.iload 4), .inl .lushr, .inl (.sipush 1), .inl .land, .inl (.sipush 0), .inl .lcmp, .inr (.ifCond .eq 33), .inl (.iload 3), .inr (.ifCond .ne 30), .inl (.iload 4), .inr .ireturn] L st h := den_eq (b := k36_5) rfl L st h
theorem D36_30 (L : xL) (st : xS) (h : xH) : den 36 30 L st h = xB xcall (den 36) [.inl (.iinc 3 (-1)), xto 33] L st h := den_eq (b := k36_30) rfl L st h
theorem D36_33 (L : xL) (st : xS) (h : xH) : den 36 33 L st h = xB xcall (den 36) [.inl (.iinc 4 1), .inr (.goto 5)] L st h := den_eq (b := k36_33) rfl L st h
theorem D36_39 (L : xL) (st : xS) (h : xH) : den 36 39 L st h = xB xcall (den 36) [.inl (.iconst 0), .inr .ireturn] L st h := den_eq (b := k36_39) rfl L st h
theorem N36 (h : xH) (a0 : Int64) (a1 : Int32) : xcall 36 [.long a0, .int a1] h = den 36 0 [some (.long a0), none, some (.int a1), none, none] [] h := if_pos rfl
theorem D37_0 (L : xL) (st : xS) (h : xH) : den 37 0 L st h = xB xcall (den 37) [.inl (.iconst 0), .inl (.istore 2), .inl (.iconst 0), .inl (.istore 3), xto 4] L st h := den_eq (b := k37_0) rfl L st h
theorem D37_4 (L : xL) (st : xS) (h : xH) : den 37 4 L st h = xB xcall (den 37) [.inl (.iload 3), .inl (.iconst 64), .inr (.if_icmp .ge 36), .inl (.iload 3), .inl (.iload 1), .inl (.iconst 64), .inl .idiv, .inr (.if_icmp .ge 36), .inl (.iload 2), .inl (.aload 0), .inl (.getfield 128), .inl (.iload 3), .inl .laload, .inr (.invokeinterface 187 1), .inl .iadd, .inl (.istore 2), .inl (.iinc 3 1), .inr (.goto 4)] L st h := den_eq (b := k37_4) rfl L st h
theorem D37_36 (L : xL) (st : xS) (h : xH) : den 37 36 L st h = xB xcall (den 37) [.inl (.sipush 1), .inl (.iload 1), .inl (.iconst 64), .inl .irem, .inl .lshl, .inl (.sipush 1), .inl .lsub, .inl (.lstore 3), .inl (.iload 2), .inl (.aload 0), .inl (.getfield 128), .inl (.iload 1), .inl (.iconst 64), .inl .idiv, .inl (.iconst 63), .inl .iand, .inl .laload, .inl (.lload 3), .inl .land, .inr (.invokeinterface 187 1), .inl .iadd, .inr .ireturn] L st h := den_eq (b := k37_36) rfl L st h
theorem N37 (h : xH) (a0 : Nat) (a1 : Int32) (ho : xobj h a0 4 = true) : xcall 37 [.ref a0, .int a1] h = den 37 0 [some (.ref a0), some (.int a1), none, none, none] [] h := if_pos ho
theorem D38_0 (L : xL) (st : xS) (h : xH) : den 38 0 L st h = xB xcall (den 38) [.inl (.iconst 0), .inl (.istore 2), xto 2] L st h := den_eq (b := k38_0) rfl L st h
theorem D38_2 (L : xL) (st : xS) (h : xH) : den 38 2 L st h = xB xcall (den 38) [.inl (.iload 2), .inl (.iconst 29), .inr (.if_icmp .ge 24), .inl (.iload 2), .inl (.aload 1), .inl .arraylength, .inr (.if_icmp .ge 24), .inl (.aload 1), .inl (.iload 2), .inl (.iconst 0), .inl .iastore, .inl (.iinc 2 1), .inr (.goto 2)] L st h := den_eq (b := k38_2) rfl L st h
theorem D38_24 (L : xL) (st : xS) (h : xH) : den 38 24 L st h = xB xcall (den 38) [.inl (.iconst 0), .inl (.istore 2), xto 26] L st h := den_eq (b := k38_24) rfl L st h
theorem D38_26 (L : xL) (st : xS) (h : xH) : den 38 26 L st h = xB xcall (den 38) [.inl (.iload 2), .inl (.iconst 64), .inr (.if_icmp .ge 123), .inl (.iload 2), .inl (.iconst 0), .inr (.invokeinterface 23 2), .inl (.iload 2), .inl (.iconst 1), .inr (.invokeinterface 23 2), .inl .iadd, .inl (.istore 3), .inl (.iconst 0), .inl (.istore 4), xto 47] L st h := den_eq (b := k38_26) rfl L st h
theorem D38_47 (L : xL) (st : xS) (h : xH) : den 38 47 L st h = xB xcall (den 38) [.inl (.iload 4), .inl (.iconst 64), .inr (.if_icmp .ge 117), .inl (.aload 0), .inl (.getfield 128), .inl (.iload 2), .inl .laload, .inl (.sipush 0), .inl .lcmp, .inr (.ifCond .eq 117), .inl (.iload 3), .inl (.iload 4), .inl (.iconst 8), .inl .idiv, .inl .iadd, .inl (.iload 4), .inl (.iconst 8), .inl .irem, .inl .iadd, .inl (.istore 5), .inl (.aload 0), .inl (.getfield 128), .inl (.iload 2), .inl .laload, .inl (.iload 4), .inl .lushr, .inl (.sipush 1), .inl .land, .inl (.sipush 0), .inl .lcmp, .inr (.ifCond .eq 111), .inl (.iload 5), .inl (.aload 1), .inl .arraylength, .inr (.if_icmp .ge 111), .inl (.aload 1), .inl (.iload 5), .inl .dup2, .inl .iaload, .inl (.iconst 1), .inl .iadd, .inl .iastore, xto 111] L st h := den_eq (b := k38_47) rfl L st h
theorem D38_111 (L : xL) (st : xS) (h : xH) : den 38 111 L st h = xB xcall (den 38) [.inl (.iinc 4 1), .inr (.goto 47)] L st h := den_eq (b := k38_111) rfl L st h
theorem D38_117 (L : xL) (st : xS) (h : xH) : den 38 117 L st h = xB xcall (den 38) [.inl (.iinc 2 1), .inr (.goto 26)] L st h := den_eq (b := k38_117) rfl L st h
theorem D38_123 (L : xL) (st : xS) (h : xH) : den 38 123 L st h = xB xcall (den 38) [.inr .return_] L st h := den_eq (b := k38_123) rfl L st h
theorem N38 (h : xH) (a0 : Nat) (a1 : Nat) (ho : xobj h a0 4 = true) : xcall 38 [.ref a0, .ref a1] h = den 38 0 [some (.ref a0), some (.ref a1), none, none, none, none] [] h := if_pos ho
theorem D39_0 (L : xL) (st : xS) (h : xH) : den 39 0 L st h = xB xcall (den 39) [.inl (.aload 0), .inl .pop, .inr .return_] L st h := den_eq (b := k39_0) rfl L st h
theorem N39 (h : xH) (a0 : Nat) : xcall 39 [.ref a0] h = den 39 0 [some (.ref a0)] [] h := if_pos rfl
theorem D40_0 (L : xL) (st : xS) (h : xH) : den 40 0 L st h = xB xcall (den 40) [.inl (.aload 0), .inl (.aload 1), .inl (.getfield 160), .inl (.putfield 160), .inl (.aload 0), .inl (.aload 1), .inl (.getfield 161), .inl (.putfield 161), .inl (.aload 0), .inl (.aload 1), .inl (.getfield 162), .inl (.putfield 162), .inl (.aload 0), .inl (.aload 1), .inl (.getfield 163), .inl (.putfield 163), .inl (.aload 0), .inl (.aload 1), .inl (.getfield 164), .inl (.putfield 164), .inr .return_] L st h := den_eq (b := k40_0) rfl L st h
theorem N40 (h : xH) (a0 : Nat) (a1 : Nat) (ho : xobj h a0 5 = true) : xcall 40 [.ref a0, .ref a1] h = den 40 0 [some (.ref a0), some (.ref a1)] [] h := if_pos ho
theorem D41_0 (L : xL) (st : xS) (h : xH) : den 41 0 L st h = xB xcall (den 41) [.inl (.aload 0), .inl (.getfield 160), .inr (.lookupswitch 123 #[(0, 40), (1, 56), (2, 67), (3, 78), (4, 95)])] L st h := den_eq (b := k41_0) rfl L st h
theorem D41_40 (L : xL) (st : xS) (h : xH) : den 41 40 L st h = xB xcall (den 41) [.inl (.iload 1), .inl (.iload 2), .inl .iadd, .inl (.aload 0), .inl (.getfield 163), .inr (.if_icmp .ne 54), .inl (.iconst 1), .inr (.goto 55)] L st h := den_eq (b := k41_40) rfl L st h
theorem D41_54 (L : xL) (st : xS) (h : xH) : den 41 54 L st h = xB xcall (den 41) [.inl (.iconst 0), xto 55] L st h := den_eq (b := k41_54) rfl L st h
theorem D41_55 (L : xL) (st : xS) (h : xH) : den 41 55 L st h = xB xcall (den 41) [.inr .areturn] L st h := den_eq (b := k41_55) rfl L st h
theorem D41_56 (L : xL) (st : xS) (h : xH) : den 41 56 L st h = xB xcall (den 41) [.inl (.iload 1), .inl (.iload 2), .inr (.if_icmp .ge 65), .inl (.iconst 1), .inr (.goto 66)] L st h := den_eq (b := k41_56) rfl L st h
theorem D41_65 (L : xL) (st : xS) (h : xH) : den 41 65 L st h = xB xcall (den 41) [.inl (.iconst 0), xto 66] L st h := den_eq (b := k41_65) rfl L st h
theorem D41_66 (L : xL) (st : xS) (h : xH) : den 41 66 L st h = xB xcall (den 41) [.inr .areturn] L st h := den_eq (b := k41_66) rfl L st h
theorem D41_67 (L : xL) (st : xS) (h : xH) : den 41 67 L st h = xB xcall (den 41) [.inl (.iload 1), .inl (.iload 2), .inr (.if_icmp .eq 76), .inl (.iconst 1), .inr (.goto 77)] L st h := den_eq (b := k41_67) rfl L st h
theorem D41_76 (L : xL) (st : xS) (h : xH) : den 41 76 L st h = xB xcall (den 41) [.inl (.iconst 0), xto 77] L st h := den_eq (b := k41_76) rfl L st h
theorem D41_77 (L : xL) (st : xS) (h : xH) : den 41 77 L st h = xB xcall (den 41) [.inr .areturn] L st h := den_eq (b := k41_77) rfl L st h
theorem D41_78 (L : xL) (st : xS) (h : xH) : den 41 78 L st h = xB xcall (den 41) [.inl (.aload 0), .inl (.getfield 163), .inl (.iload 1), .inl .ishr, .inl (.iconst 1), .inl .iand, .inr (.ifCond .eq 93), .inl (.iconst 1), .inr (.goto 94)] L st h := den_eq (b := k41_78) rfl L st h
theorem D41_93 (L : xL) (st : xS) (h : xH) : den 41 93 L st h = xB xcall (den 41) [.inl (.iconst 0), xto 94] L st h := den_eq (b := k41_93) rfl L st h
theorem D41_94 (L : xL) (st : xS) (h : xH) : den 41 94 L st h = xB xcall (den 41) [.inr .areturn] L st h := den_eq (b := k41_94) rfl L st h
theorem D41_95 (L : xL) (st : xS) (h : xH) : den 41 95 L st h = xB xcall (den 41) [.inl (.iload 1), .inl (.aload 0), .inl (.getfield 163), .inl (.iconst 8), .inl .idiv, .inr (.if_icmp .ne 117), .inl (.iload 2), .inl (.aload 0), .inl (.getfield 163), .inl (.iconst 8), .inl .irem, .inr (.if_icmp .ne 121), xto 117] L st h := den_eq (b := k41_95) rfl L st h
theorem D41_117 (L : xL) (st : xS) (h : xH) : den 41 117 L st h = xB xcall (den 41) [.inl (.iconst 1), .inr (.goto 122)] L st h := den_eq (b := k41_117) rfl L st h
theorem D41_121 (L : xL) (st : xS) (h : xH) : den 41 121 L st h = xB xcall (den 41) [.inl (.iconst 0), xto 122] L st h := den_eq (b := k41_121) rfl L st h
theorem D41_122 (L : xL) (st : xS) (h : xH) : den 41 122 L st h = xB xcall (den 41) [.inr .areturn] L st h := den_eq (b := k41_122) rfl L st h
theorem D41_123 (L : xL) (st : xS) (h : xH) : den 41 123 L st h = xB xcall (den 41) [.inl (.iload 1), .inl (.iload 2), .inl .isub, .inl (.aload 0), .inl (.getfield 163), .inr (.if_icmp .ge 143), .inl (.iload 2), .inl (.iload 1), .inl .isub, .inl (.aload 0), .inl (.getfield 163), .inr (.if_icmp .lt 147), xto 143] L st h := den_eq (b := k41_123) rfl L st h
theorem D41_143 (L : xL) (st : xS) (h : xH) : den 41 143 L st h = xB xcall (den 41) [.inl (.iconst 1), .inr (.goto 148)] L st h := den_eq (b := k41_143) rfl L st h
theorem D41_147 (L : xL) (st : xS) (h : xH) : den 41 147 L st h = xB xcall (den 41) [.inl (.iconst 0), xto 148] L st h := den_eq (b := k41_147) rfl L st h
theorem D41_148 (L : xL) (st : xS) (h : xH) : den 41 148 L st h = xB xcall (den 41) [.inr .areturn] L st h := den_eq (b := k41_148) rfl L st h
theorem N41 (h : xH) (a0 : Nat) (a1 : Int32) (a2 : Int32) (ho : xobj h a0 5 = true) : xcall 41 [.ref a0, .int a1, .int a2] h = den 41 0 [some (.ref a0), some (.int a1), some (.int a2)] [] h := if_pos ho
theorem D42_0 (L : xL) (st : xS) (h : xH) : den 42 0 L st h = xB xcall (den 42) [.inl (.iconst 0), .inl (.istore 2), .inl (.iconst 0), .inl (.istore 3), xto 4] L st h := den_eq (b := k42_0) rfl L st h
theorem D42_4 (L : xL) (st : xS) (h : xH) : den 42 4 L st h = xB xcall (den 42) [.inl (.iload 3), .inl (.iconst 8), .inr (.if_icmp .ge 31), .inl (.aload 0), .inl (.iload 1), .inl (.iload 3), .inr (.invokeinterface 41 3), .inr (.ifCond .eq 25), .inl (.iload 2), .inl (.iconst 1), .inl (.iload 3), .inl .ishl, .inl .ior, .inl (.istore 2), xto 25] L st h := den_eq (b := k42_4) rfl L st h
theorem D42_25 (L : xL) (st : xS) (h : xH) : den 42 25 L st h = xB xcall (den 42) [.inl (.iinc 3 1), .inr (.goto 4)] L st h := den_eq (b := k42_25) rfl L st h
theorem D42_31 (L : xL) (st : xS) (h : xH) : den 42 31 L st h = xB xcall (den 42) [.inl (.iload 2), .inr .ireturn] L st h := den_eq (b := k42_31) rfl L st h
theorem N42 (h : xH) (a0 : Nat) (a1 : Int32) (ho : xobj h a0 5 = true) : xcall 42 [.ref a0, .int a1] h = den 42 0 [some (.ref a0), some (.int a1), none, none] [] h := if_pos ho
theorem D43_0 (L : xL) (st : xS) (h : xH) : den 43 0 L st h = xB xcall (den 43) [.inl (.aload 0), .inl .pop, .inl (.aload 0), .inl (.iconst 4), .inl (.anewarray 1), .inl (.putfield 193), .inl (.aload 0), .inl (.iconst 4), .inl (.newarray .int), .inl (.putfield 194), .inl (.aload 0), .inl (.iconst 8), .inl (.anewarray 5), .inl (.putfield 196), .inl (.aload 0), .inl (.iconst (-1)), .inl (.putfield 197), .inl (.aload 0), .inl (.iconst 16), .inl (.newarray .int), .inl (.putfield 199), .inl (.iconst 0), .inl (.istore 1), xto 43] L st h := den_eq (b := k43_0) rfl L st h
theorem D43_43 (L : xL) (st : xS) (h : xH) : den 43 43 L st h = xB xcall (den 43) [.inl (.iload 1), .inl (.iconst 4), .inr (.if_icmp .ge 67), .inl (.aload 0), .inl (.getfield 193), .inl (.iload 1), .inl (.new 1), .inl .dup, .inr (.invokeinterface 7 1), .inl .aastore, .inl (.iinc 1 1), .inr (.goto 43)] L st h := den_eq (b := k43_43) rfl L st h
theorem D43_67 (L : xL) (st : xS) (h : xH) : den 43 67 L st h = xB xcall (den 43) [.inl (.iconst 0), .inl (.istore 1), xto 69] L st h := den_eq (b := k43_67) rfl L st h
theorem D43_69 (L : xL) (st : xS) (h : xH) : den 43 69 L st h = xB xcall (den 43) [.inl (.iload 1), .inl (.iconst 8), .inr (.if_icmp .ge 94), .inl (.aload 0), .inl (.getfield 196), .inl (.iload 1), .inl (.new 5), .inl .dup, .inr (.invokeinterface 39 1), .inl .aastore, .inl (.iinc 1 1), .inr (.goto 69)] L st h := den_eq (b := k43_69) rfl L st h
theorem D43_94 (L : xL) (st : xS) (h : xH) : den 43 94 L st h = xB xcall (den 43) [.inr .return_] L st h := den_eq (b := k43_94) rfl L st h
theorem N43 (h : xH) (a0 : Nat) : xcall 43 [.ref a0] h = den 43 0 [some (.ref a0), none] [] h := if_pos rfl
theorem D44_0 (L : xL) (st : xS) (h : xH) : den 44 0 L st h = xB xcall (den 44) [.inl (.aload 0), .inl (.aload 1), .inl (.getfield 192), .inl (.putfield 192), .inl (.iconst 0), .inl (.istore 2), xto 10] L st h := den_eq (b := k44_0) rfl L st h
theorem D44_10 (L : xL) (st : xS) (h : xH) : den 44 10 L st h = xB xcall (den 44) [.inl (.iload 2), .inl (.iconst 4), .inr (.if_icmp .ge 36), .inl (.aload 0), .inl (.getfield 193), .inl (.iload 2), .inl .aaload, .inl (.aload 1), .inl (.getfield 193), .inl (.iload 2), .inl .aaload, .inr (.invokeinterface 9 2), .inl (.iinc 2 1), .inr (.goto 10)] L st h := den_eq (b := k44_10) rfl L st h
theorem D44_36 (L : xL) (st : xS) (h : xH) : den 44 36 L st h = xB xcall (den 44) [.inl (.aload 1), .inl (.getfield 194), .inl (.iconst 0), .inl (.aload 0), .inl (.getfield 194), .inl (.iconst 0), .inl (.iconst 4), .inl .nop, .inl (.aload 0), .inl (.aload 1), .inl (.getfield 195), .inl (.putfield 195), .inl (.iconst 0), .inl (.istore 2), xto 60] L st h := den_eq (b := k44_36) rfl L st h
theorem D44_60 (L : xL) (st : xS) (h : xH) : den 44 60 L st h = xB xcall (den 44) [.inl (.iload 2), .inl (.aload 0), .inl (.getfield 195), .inr (.if_icmp .ge 89), .inl (.aload 0), .inl (.getfield 196), .inl (.iload 2), .inl .aaload, .inl (.aload 1), .inl (.getfield 196), .inl (.iload 2), .inl .aaload, .inr (.invokeinterface 40 2), .inl (.iinc 2 1), .inr (.goto 60)] L st h := den_eq (b := k44_60) rfl L st h
theorem D44_89 (L : xL) (st : xS) (h : xH) : den 44 89 L st h = xB xcall (den 44) [.inl (.aload 0), .inl (.aload 1), .inl (.getfield 197), .inl (.putfield 197), .inl (.aload 0), .inl (.aload 1), .inl (.getfield 198), .inl (.putfield 198), .inl (.aload 1), .inl (.getfield 199), .inl (.iconst 0), .inl (.aload 0), .inl (.getfield 199), .inl (.iconst 0), .inl (.aload 0), .inl (.getfield 198), .inl .nop, .inl (.aload 0), .inl (.iconst 0), .inl (.putfield 200), .inr .return_] L st h := den_eq (b := k44_89) rfl L st h
theorem N44 (h : xH) (a0 : Nat) (a1 : Nat) (ho : xobj h a0 6 = true) : xcall 44 [.ref a0, .ref a1] h = den 44 0 [some (.ref a0), some (.ref a1), none] [] h := if_pos ho
theorem D45_0 (L : xL) (st : xS) (h : xH) : den 45 0 L st h = xB xcall (den 45) [.inl (.iload 1), .inr (.ifCond .lt 16), .inl (.iload 1), .inl (.aload 0), .inl (.getfield 192), .inr (.if_icmp .ge 16), .inl (.iconst 1), .inr (.goto 17)] L st h := den_eq (b := k45_0) rfl L st h
theorem D45_16 (L : xL) (st : xS) (h : xH) : den 45 16 L st h = xB xcall (den 45) [.inl (.iconst 0), xto 17] L st h := den_eq (b := k45_16) rfl L st h
theorem D45_17 (L : xL) (st : xS) (h : xH) : den 45 17 L st h = xB xcall (den 45) [.inr .areturn] L st h := den_eq (b := k45_17) rfl L st h
theorem N45 (h : xH) (a0 : Nat) (a1 : Int32) (ho : xobj h a0 6 = true) : xcall 45 [.ref a0, .int a1] h = den 45 0 [some (.ref a0), some (.int a1)] [] h := if_pos ho
theorem D46_0 (L : xL) (st : xS) (h : xH) : den 46 0 L st h = xB xcall (den 46) [.inl (.iload 1), .inr (.ifCond .lt 16), .inl (.iload 1), .inl (.aload 0), .inl (.getfield 195), .inr (.if_icmp .ge 16), .inl (.iconst 1), .inr (.goto 17)] L st h := den_eq (b := k46_0) rfl L st h
theorem D46_16 (L : xL) (st : xS) (h : xH) : den 46 16 L st h = xB xcall (den 46) [.inl (.iconst 0), xto 17] L st h := den_eq (b := k46_16) rfl L st h
theorem D46_17 (L : xL) (st : xS) (h : xH) : den 46 17 L st h = xB xcall (den 46) [.inr .areturn] L st h := den_eq (b := k46_17) rfl L st h
theorem N46 (h : xH) (a0 : Nat) (a1 : Int32) (ho : xobj h a0 6 = true) : xcall 46 [.ref a0, .int a1] h = den 46 0 [some (.ref a0), some (.int a1)] [] h := if_pos ho
theorem D47_0 (L : xL) (st : xS) (h : xH) : den 47 0 L st h = xB xcall (den 47) [.inl (.iload 1), .inr (.ifCond .lt 25), .inl (.iload 1), .inl (.iconst 5), .inr (.if_icmp .gt 25), .inl (.aload 0), .inl (.iload 2), .inr (.invokeinterface 45 2), .inr (.ifCond .eq 25), .inl (.aload 0), .inl (.iload 3), .inr (.invokeinterface 45 2), .inr (.ifCond .ne 27), xto 25] L st h := den_eq (b := k47_0) rfl L st h
theorem D47_25 (L : xL) (st : xS) (h : xH) : den 47 25 L st h = xB xcall (den 47) [.inl (.iconst 0), .inr .areturn] L st h := den_eq (b := k47_25) rfl L st h
theorem D47_27 (L : xL) (st : xS) (h : xH) : den 47 27 L st h = xB xcall (den 47) [.inl (.iload 2), .inl (.iload 3), .inr (.if_icmp .ne 36), .inl (.iconst 1), .inr (.goto 37)] L st h := den_eq (b := k47_27) rfl L st h
theorem D47_36 (L : xL) (st : xS) (h : xH) : den 47 36 L st h = xB xcall (den 47) [.inl (.iconst 0), xto 37] L st h := den_eq (b := k47_36) rfl L st h
theorem D47_37 (L : xL) (st : xS) (h : xH) : den 47 37 L st h = xB xcall (den 47) [.inl (.iload 1), .inl (.iconst 3), .inr (.if_icmp .ne 46), .inl (.iconst 1), .inr (.goto 47)] L st h := den_eq (b := k47_37) rfl L st h
theorem D47_46 (L : xL) (st : xS) (h : xH) : den 47 46 L st h = xB xcall (den 47) [.inl (.iconst 0), xto 47] L st h := den_eq (b := k47_46) rfl L st h
theorem D47_47 (L : xL) (st : xS) (h : xH) : den 47 47 L st h = xB xcall (den 47) [.inr (.if_icmp .ne 69), .inl (.iload 4), .inr (.ifCond .lt 69), .inl (.iload 4), .inl (.getstatic 0), .inl (.iload 1), .inl .iaload, .inr (.if_icmp .gt 69), .inl (.iconst 1), .inr (.goto 70)] L st h := den_eq (b := k47_47) rfl L st h
theorem D47_69 (L : xL) (st : xS) (h : xH) : den 47 69 L st h = xB xcall (den 47) [.inl (.iconst 0), xto 70] L st h := den_eq (b := k47_69) rfl L st h
theorem D47_70 (L : xL) (st : xS) (h : xH) : den 47 70 L st h = xB xcall (den 47) [.inr .areturn] L st h := den_eq (b := k47_70) rfl L st h
theorem N47 (h : xH) (a0 : Nat) (a1 : Int32) (a2 : Int32) (a3 : Int32) (a4 : Int32) (ho : xobj h a0 6 = true) : xcall 47 [.ref a0, .int a1, .int a2, .int a3, .int a4] h = den 47 0 [some (.ref a0), some (.int a1), some (.int a2), some (.int a3), some (.int a4)] [] h := if_pos ho
theorem D48_0 (L : xL) (st : xS) (h : xH) : den 48 0 L st h = xB xcall (den 48) [.inl (.aload 0), .inl (.getfield 192), .inl (.istore 3), .inl (.aload 0), .inl (.getfield 193), .inl (.iload 3), .inl .aaload, .inl (.iload 1), .inl (.iload 2), .inr (.invokeinterface 8 3), .inl (.aload 0), .inl (.getfield 194), .inl (.iload 3), .inl (.iload 3), .inl .iastore, .inl (.aload 0), .inl .dup, .inl (.getfield 192), .inl (.iconst 1), .inl .iadd, .inl (.putfield 192), .inl (.aload 0), .inr (.invokeinterface 51 1), .inl (.iload 3), .inr .ireturn] L st h := den_eq (b := k48_0) rfl L st h
theorem N48 (h : xH) (a0 : Nat) (a1 : Int32) (a2 : Int32) (ho : xobj h a0 6 = true) : xcall 48 [.ref a0, .int a1, .int a2] h = den 48 0 [some (.ref a0), some (.int a1), some (.int a2), none] [] h := if_pos ho
theorem D49_0 (L : xL) (st : xS) (h : xH) : den 49 0 L st h = xB xcall (den 49) [.inl (.aload 0), .inl (.getfield 196), .inl (.aload 0), .inl (.getfield 195), .inl .aaload, .inl (.astore 6), .inl (.aload 6), .inl (.iload 1), .inl (.putfield 160), .inl (.aload 6), .inl (.iload 2), .inl (.putfield 161), .inl (.aload 6), .inl (.iload 3), .inl (.putfield 162), .inl (.aload 6), .inl (.iload 4), .inl (.putfield 163), .inl (.aload 6), .inl (.iload 5), .inl (.putfield 164), .inl (.aload 0), .inl .dup, .inl (.getfield 195), .inl (.iconst 1), .inl .iadd, .inl (.putfield 195), .inl (.aload 0), .inr (.invokeinterface 51 1), .inl (.aload 0), .inl (.getfield 195), .inl (.iconst 1), .inl .isub, .inr .ireturn] L st h := den_eq (b := k49_0) rfl L st h
theorem N49 (h : xH) (a0 : Nat) (a1 : Int32) (a2 : Int32) (a3 : Int32) (a4 : Int32) (a5 : Int32) (ho : xobj h a0 6 = true) : xcall 49 [.ref a0, .int a1, .int a2, .int a3, .int a4, .int a5] h = den 49 0 [some (.ref a0), some (.int a1), some (.int a2), some (.int a3), some (.int a4), some (.int a5), none] [] h := if_pos ho
theorem D50_0 (L : xL) (st : xS) (h : xH) : den 50 0 L st h = xB xcall (den 50) [.inl (.aload 0), .inl .dup, .inl (.getfield 195), .inl (.iconst 1), .inl .isub, .inl (.putfield 195), .inl (.iload 1), .inl (.istore 2), xto 12] L st h := den_eq (b := k50_0) rfl L st h
theorem D50_12 (L : xL) (st : xS) (h : xH) : den 50 12 L st h = xB xcall (den 50) [.inl (.iload 2), .inl (.aload 0), .inl (.getfield 195), .inr (.if_icmp .ge 43), .inl (.aload 0), .inl (.getfield 196), .inl (.iload 2), .inl .aaload, .inl (.aload 0), .inl (.getfield 196), .inl (.iload 2), .inl (.iconst 1), .inl .iadd, .inl .aaload, .inr (.invokeinterface 40 2), .inl (.iinc 2 1), .inr (.goto 12)] L st h := den_eq (b := k50_12) rfl L st h
theorem D50_43 (L : xL) (st : xS) (h : xH) : den 50 43 L st h = xB xcall (den 50) [.inl (.aload 0), .inr (.invokeinterface 51 1), .inl (.aload 0), .inl (.getfield 195), .inr .ireturn] L st h := den_eq (b := k50_43) rfl L st h
theorem N50 (h : xH) (a0 : Nat) (a1 : Int32) (ho : xobj h a0 6 = true) : xcall 50 [.ref a0, .int a1] h = den 50 0 [some (.ref a0), some (.int a1), none] [] h := if_pos ho
theorem D51_0 (L : xL) (st : xS) (h : xH) : den 51 0 L st h = xB xcall (den 51) [.inl (.aload 0), .inl (.iconst (-1)), .inl (.putfield 197), .inl (.aload 0), .inl (.iconst 0), .inl (.putfield 198), .inl (.iconst 0), .inl (.istore 1), xto 12] L st h := den_eq (b := k51_0) rfl L st h
theorem D51_12 (L : xL) (st : xS) (h : xH) : den 51 12 L st h = xB xcall (den 51) [.inl (.iload 1), .inl (.iconst 4), .inr (.if_icmp .ge 33), .inl (.aload 0), .inl (.getfield 193), .inl (.iload 1), .inl .aaload, .inl (.iconst 0), .inl (.putfield 35), .inl (.iinc 1 1), .inr (.goto 12)] L st h := den_eq (b := k51_12) rfl L st h
theorem D51_33 (L : xL) (st : xS) (h : xH) : den 51 33 L st h = xB xcall (den 51) [.inl (.aload 0), .inl (.iconst 0), .inl (.putfield 200), .inr .return_] L st h := den_eq (b := k51_33) rfl L st h
theorem N51 (h : xH) (a0 : Nat) (ho : xobj h a0 6 = true) : xcall 51 [.ref a0] h = den 51 0 [some (.ref a0), none] [] h := if_pos ho
theorem D52_0 (L : xL) (st : xS) (h : xH) : den 52 0 L st h = xB xcall (den 52) [.inl (.iconst 0), .inl (.istore 2), xto 2] L st h := den_eq (b := k52_0) rfl L st h
theorem D52_2 (L : xL) (st : xS) (h : xH) : den 52 2 L st h = xB xcall (den 52) [.inl (.iload 2), .inl (.aload 0), .inl (.getfield 192), .inr (.if_icmp .ge 28), .inl (.aload 0), .inl (.getfield 194), .inl (.iload 2), .inl .iaload, .inl (.iload 1), .inr (.if_icmp .ne 22), .inl (.iload 2), .inr .ireturn] L st h := den_eq (b := k52_2) rfl L st h
theorem D52_22 (L : xL) (st : xS) (h : xH) : den 52 22 L st h = xB xcall (den 52) [.inl (.iinc 2 1), .inr (.goto 2)] L st h := den_eq (b := k52_22) rfl L st h
theorem D52_28 (L : xL) (st : xS) (h : xH) : den 52 28 L st h = xB xcall (den 52) [.inl (.iconst (-1)), .inr .ireturn] L st h := den_eq (b := k52_28) rfl L st h
theorem N52 (h : xH) (a0 : Nat) (a1 : Int32) (ho : xobj h a0 6 = true) : xcall 52 [.ref a0, .int a1] h = den 52 0 [some (.ref a0), some (.int a1), none] [] h := if_pos ho
theorem D53_0 (L : xL) (st : xS) (h : xH) : den 53 0 L st h = xB xcall (den 53) [.inl (.aload 0), .inl (.iload 1), .inr (.invokeinterface 52 2), .inl (.istore 3), .inl (.iload 3), .inl (.istore 4), xto 9] L st h := den_eq (b := k53_0) rfl L st h
theorem D53_9 (L : xL) (st : xS) (h : xH) : den 53 9 L st h = xB xcall (den 53) [.inl (.iload 4), .inr (.ifCond .lt 42), .inl (.iload 4), .inl (.iload 2), .inr (.if_icmp .ge 42), .inl (.aload 0), .inl (.getfield 194), .inl (.iload 4), .inl (.aload 0), .inl (.getfield 194), .inl (.iload 4), .inl (.iconst 1), .inl .iadd, .inl .iaload, .inl .iastore, .inl (.iinc 4 1), .inr (.goto 9)] L st h := den_eq (b := k53_9) rfl L st h
theorem D53_42 (L : xL) (st : xS) (h : xH) : den 53 42 L st h = xB xcall (den 53) [.inl (.iload 3), .inl (.istore 4), xto 45] L st h := den_eq (b := k53_42) rfl L st h
theorem D53_45 (L : xL) (st : xS) (h : xH) : den 53 45 L st h = xB xcall (den 53) [.inl (.iload 4), .inl (.iload 2), .inr (.if_icmp .le 73), .inl (.aload 0), .inl (.getfield 194), .inl (.iload 4), .inl (.aload 0), .inl (.getfield 194), .inl (.iload 4), .inl (.iconst 1), .inl .isub, .inl .iaload, .inl .iastore, .inl (.iinc 4 (-1)), .inr (.goto 45)] L st h := den_eq (b := k53_45) rfl L st h
theorem D53_73 (L : xL) (st : xS) (h : xH) : den 53 73 L st h = xB xcall (den 53) [.inl (.aload 0), .inl (.getfield 194), .inl (.iload 2), .inl (.iload 1), .inl .iastore, .inl (.iload 3), .inr .ireturn] L st h := den_eq (b := k53_73) rfl L st h
theorem N53 (h : xH) (a0 : Nat) (a1 : Int32) (a2 : Int32) (ho : xobj h a0 6 = true) : xcall 53 [.ref a0, .int a1, .int a2] h = den 53 0 [some (.ref a0), some (.int a1), some (.int a2), none, none] [] h := if_pos ho
theorem D54_0 (L : xL) (st : xS) (h : xH) : den 54 0 L st h = xB xcall (den 54) [.inl (.iload 2), .inr (.lookupswitch 82 #[(0, 36), (1, 46), (2, 56), (3, 66), (4, 72)])] L st h := den_eq (b := k54_0) rfl L st h
theorem D54_36 (L : xL) (st : xS) (h : xH) : den 54 36 L st h = xB xcall (den 54) [.inl (.aload 0), .inl (.getfield 193), .inl (.iload 1), .inl .aaload, .inl (.getfield 32), .inr .ireturn] L st h := den_eq (b := k54_36) rfl L st h
theorem D54_46 (L : xL) (st : xS) (h : xH) : den 54 46 L st h = xB xcall (den 54) [.inl (.aload 0), .inl (.getfield 193), .inl (.iload 1), .inl .aaload, .inl (.getfield 33), .inr .ireturn] L st h := den_eq (b := k54_46) rfl L st h
theorem D54_56 (L : xL) (st : xS) (h : xH) : den 54 56 L st h = xB xcall (den 54) [.inl (.aload 0), .inl (.getfield 193), .inl (.iload 1), .inl .aaload, .inl (.getfield 34), .inr .ireturn] L st h := den_eq (b := k54_56) rfl L st h
theorem D54_66 (L : xL) (st : xS) (h : xH) : den 54 66 L st h = xB xcall (den 54) [.inl (.aload 0), .inl (.iload 1), .inr (.invokeinterface 52 2), .inr .ireturn] L st h := den_eq (b := k54_66) rfl L st h
theorem D54_72 (L : xL) (st : xS) (h : xH) : den 54 72 L st h = xB xcall (den 54) [.inl (.aload 0), .inl (.getfield 193), .inl (.iload 1), .inl .aaload, .inl (.getfield 35), .inr .ireturn] L st h := den_eq (b := k54_72) rfl L st h
theorem D54_82 (L : xL) (st : xS) (h : xH) : den 54 82 L st h = xB xcall (den 54) [.inl (.aload 0), .inl (.getfield 197), .inl (.iconst (-1)), .inr (.if_icmp .ne 94), .inl (.iconst (-1)), .inr (.goto 102)] L st h := den_eq (b := k54_82) rfl L st h
theorem D54_94 (L : xL) (st : xS) (h : xH) : den 54 94 L st h = xB xcall (den 54) [.inl (.aload 0), .inl (.getfield 197), .inl (.iload 1), .inr (.invokeinterface 98 2), xto 102] L st h := den_eq (b := k54_94) rfl L st h
theorem D54_102 (L : xL) (st : xS) (h : xH) : den 54 102 L st h = xB xcall (den 54) [.inr .ireturn] L st h := den_eq (b := k54_102) rfl L st h
theorem N54 (h : xH) (a0 : Nat) (a1 : Int32) (a2 : Int32) (ho : xobj h a0 6 = true) : xcall 54 [.ref a0, .int a1, .int a2] h = den 54 0 [some (.ref a0), some (.int a1), some (.int a2)] [] h := if_pos ho
theorem D55_0 (L : xL) (st : xS) (h : xH) : den 55 0 L st h = xB xcall (den 55) [.inl (.iconst 0), .inl (.istore 2), xto 2] L st h := den_eq (b := k55_0) rfl L st h
theorem D55_2 (L : xL) (st : xS) (h : xH) : den 55 2 L st h = xB xcall (den 55) [.inl (.iload 2), .inl (.aload 0), .inl (.getfield 192), .inr (.if_icmp .ge 50), .inl (.aload 0), .inl (.getfield 193), .inl (.iload 2), .inl .aaload, .inl (.getfield 34), .inl (.iconst 1), .inr (.if_icmp .ne 44), .inl (.aload 0), .inl (.getfield 193), .inl (.iload 2), .inl .aaload, .inl .dup, .inl (.getfield 35), .inl (.iconst 1), .inl (.iload 1), .inl (.iload 2), .inr (.invokeinterface 98 2), .inl .ishl, .inl .ior, .inl (.putfield 35), xto 44] L st h := den_eq (b := k55_2) rfl L st h
theorem D55_44 (L : xL) (st : xS) (h : xH) : den 55 44 L st h = xB xcall (den 55) [.inl (.iinc 2 1), .inr (.goto 2)] L st h := den_eq (b := k55_44) rfl L st h
theorem D55_50 (L : xL) (st : xS) (h : xH) : den 55 50 L st h = xB xcall (den 55) [.inl (.aload 0), .inl (.iload 1), .inl (.putfield 197), .inl (.iconst 0), .inl (.istore 2), xto 57] L st h := den_eq (b := k55_50) rfl L st h
theorem D55_57 (L : xL) (st : xS) (h : xH) : den 55 57 L st h = xB xcall (den 55) [.inl (.iload 2), .inl (.aload 0), .inl (.getfield 198), .inr (.if_icmp .ge 82), .inl (.aload 0), .inl (.getfield 199), .inl (.iload 2), .inl .iaload, .inl (.iload 1), .inr (.if_icmp .ne 76), .inr .return_] L st h := den_eq (b := k55_57) rfl L st h
theorem D55_76 (L : xL) (st : xS) (h : xH) : den 55 76 L st h = xB xcall (den 55) [.inl (.iinc 2 1), .inr (.goto 57)] L st h := den_eq (b := k55_76) rfl L st h
theorem D55_82 (L : xL) (st : xS) (h : xH) : den 55 82 L st h = xB xcall (den 55) [.inl (.aload 0), .inl (.getfield 198), .inl (.iconst 16), .inr (.if_icmp .ge 111), .inl (.aload 0), .inl (.getfield 199), .inl (.aload 0), .inl (.getfield 198), .inl (.iload 1), .inl .iastore, .inl (.aload 0), .inl .dup, .inl (.getfield 198), .inl (.iconst 1), .inl .iadd, .inl (.putfield 198), xto 111] L st h := den_eq (b := k55_82) rfl L st h
theorem D55_111 (L : xL) (st : xS) (h : xH) : den 55 111 L st h = xB xcall (den 55) [.inr .return_] L st h := den_eq (b := k55_111) rfl L st h
theorem N55 (h : xH) (a0 : Nat) (a1 : Int32) (ho : xobj h a0 6 = true) : xcall 55 [.ref a0, .int a1] h = den 55 0 [some (.ref a0), some (.int a1), none] [] h := if_pos ho
theorem D56_0 (L : xL) (st : xS) (h : xH) : den 56 0 L st h = xB xcall (den 56) [.inl (.iconst 1), .inl (.istore 2), .inl (.iconst 0), .inl (.istore 3), xto 4] L st h := den_eq (b := k56_0) rfl L st h
theorem D56_4 (L : xL) (st : xS) (h : xH) : den 56 4 L st h = xB xcall (den 56) [.inl (.iload 3), .inl (.iconst 4), .inr (.if_icmp .ge 33), .inl (.iload 2), .inl (.aload 0), .inl (.getfield 193), .inl (.iload 3), .inl .aaload, .inl (.getfield 36), .inl (.iload 1), .inl (.iload 3), .inr (.invokeinterface 98 2), .inl .iaload, .inl .imul, .inl (.istore 2), .inl (.iinc 3 1), .inr (.goto 4)] L st h := den_eq (b := k56_4) rfl L st h
theorem D56_33 (L : xL) (st : xS) (h : xH) : den 56 33 L st h = xB xcall (den 56) [.inl (.iload 2), .inr .ireturn] L st h := den_eq (b := k56_33) rfl L st h
theorem N56 (h : xH) (a0 : Nat) (a1 : Int32) (ho : xobj h a0 6 = true) : xcall 56 [.ref a0, .int a1] h = den 56 0 [some (.ref a0), some (.int a1), none, none] [] h := if_pos ho
theorem D57_0 (L : xL) (st : xS) (h : xH) : den 57 0 L st h = xB xcall (den 57) [.inl (.iconst 0), .inl (.istore 2), .inl (.iconst 0), .inl (.istore 3), xto 4] L st h := den_eq (b := k57_0) rfl L st h
theorem D57_4 (L : xL) (st : xS) (h : xH) : den 57 4 L st h = xB xcall (den 57) [.inl (.iload 3), .inl (.iconst 64), .inr (.if_icmp .ge 30), .inl (.iload 2), .inl (.aload 0), .inl (.iload 3), .inl (.aload 1), .inl (.getfield 128), .inl (.iload 3), .inl .laload, .inr (.invokeinterface 58 3), .inl .iadd, .inl (.istore 2), .inl (.iinc 3 1), .inr (.goto 4)] L st h := den_eq (b := k57_4) rfl L st h
theorem D57_30 (L : xL) (st : xS) (h : xH) : den 57 30 L st h = xB xcall (den 57) [.inl (.iload 2), .inr .ireturn] L st h := den_eq (b := k57_30) rfl L st h
theorem N57 (h : xH) (a0 : Nat) (a1 : Nat) (ho : xobj h a0 6 = true) : xcall 57 [.ref a0, .ref a1] h = den 57 0 [some (.ref a0), some (.ref a1), none, none] [] h := if_pos ho
theorem D58_0 (L : xL) (st : xS) (h : xH) : den 58 0 L st h = xB xcall (den 58) [.inl (.aload 0), .inl (.getfield 193), .inl (.iconst 0), .inl .aaload, .inl (.getfield 36), .inl (.iload 1), .inl (.iconst 0), .inr (.invokeinterface 23 2), .inl .iaload, .inl (.aload 0), .inl (.getfield 193), .inl (.iconst 1), .inl .aaload, .inl (.getfield 36), .inl (.iload 1), .inl (.iconst 1), .inr (.invokeinterface 23 2), .inl .iaload, .inl .imul, .inl (.istore 4), .inl (.lload 2), .inl (.sipush 0), .inl .lcmp, .inr (.ifCond .eq 44), .inl (.iload 4), .inr (.ifCond .ne 46), xto 44] L st h := den_eq (b := k58_0) rfl L st h
theorem D58_44 (L : xL) (st : xS) (h : xH) : den 58 44 L st h = xB xcall (den 58) [.inl (.iconst 0), .inr .ireturn] L st h := den_eq (b := k58_44) rfl L st h
theorem D58_46 (L : xL) (st : xS) (h : xH) : den 58 46 L st h = xB xcall (den 58) [.inl (.iconst 0), .inl (.istore 5), .inl (.iconst 0), .inl (.istore 6), xto 52] L st h := den_eq (b := k58_46) rfl L st h
theorem D58_52 (L : xL) (st : xS) (h : xH) : den 58 52 L st h = xB xcall (den 58) [.inl (.iload 6), .inl (.iconst 8), .inr (.if_icmp .ge 113), .inl (.lload 2), .inl (.iconst 8), .inl (.iload 6), .inl .imul, .inl .lushr, .inl .l2i, .inl (.iconst 255), .inl .iand, .inl (.istore 7), .inl (.iload 7), .inr (.ifCond .eq 107), .inl (.iload 5), .inl (.aload 0), .inl (.getfield 193), .inl (.iconst 2), .inl .aaload, .inl (.getfield 36), .inl (.iload 6), .inl .iaload, .inl (.aload 0), .inl (.getfield 193), .inl (.iconst 3), .inl .aaload, .inl (.iload 7), .inr (.invokeinterface 12 2), .inl .imul, .inl .iadd, .inl (.istore 5), xto 107] L st h := den_eq (b := k58_52) rfl L st h
theorem D58_107 (L : xL) (st : xS) (h : xH) : den 58 107 L st h = xB xcall (den 58) [.inl (.iinc 6 1), .inr (.goto 52)] L st h := den_eq (b := k58_107) rfl L st h
theorem D58_113 (L : xL) (st : xS) (h : xH) : den 58 113 L st h = xB xcall (den 58) [.inl (.iload 4), .inl (.iload 5), .inl .imul, .inr .ireturn] L st h := den_eq (b := k58_113) rfl L st h
theorem N58 (h : xH) (a0 : Nat) (a1 : Int32) (a2 : Int64) (ho : xobj h a0 6 = true) : xcall 58 [.ref a0, .int a1, .long a2] h = den 58 0 [some (.ref a0), some (.int a1), some (.long a2), none, none, none, none, none] [] h := if_pos ho
theorem D59_0 (L : xL) (st : xS) (h : xH) : den 59 0 L st h = xB xcall (den 59) [.inl (.aload 0), .inl .pop, .inl (.aload 0), .inl (.iconst 5), .inl (.newarray .int), .inl (.putfield 227), .inl (.aload 0), .inl (.iconst 150), .inl (.newarray .int), .inl (.putfield 228), .inr .return_] L st h := den_eq (b := k59_0) rfl L st h
theorem N59 (h : xH) (a0 : Nat) : xcall 59 [.ref a0] h = den 59 0 [some (.ref a0)] [] h := if_pos rfl
theorem D60_0 (L : xL) (st : xS) (h : xH) : den 60 0 L st h = xB xcall (den 60) [.inl (.aload 0), .inl (.getfield 224), .inl (.iconst 150), .inr (.if_icmp .ne 13), .inl (.iconst (-4)), .inr .ireturn] L st h := den_eq (b := k60_0) rfl L st h
theorem D60_13 (L : xL) (st : xS) (h : xH) : den 60 13 L st h = xB xcall (den 60) [.inl (.aload 0), .inl (.getfield 228), .inl (.aload 0), .inl (.getfield 224), .inl (.iload 1), .inl .iastore, .inl (.aload 0), .inl .dup, .inl (.getfield 224), .inl (.iconst 1), .inl .iadd, .inl (.putfield 224), .inl (.aload 0), .inl (.getfield 224), .inr .ireturn] L st h := den_eq (b := k60_13) rfl L st h
theorem N60 (h : xH) (a0 : Nat) (a1 : Int32) (ho : xobj h a0 7 = true) : xcall 60 [.ref a0, .int a1] h = den 60 0 [some (.ref a0), some (.int a1)] [] h := if_pos ho
theorem D61_0 (L : xL) (st : xS) (h : xH) : den 61 0 L st h = xB xcall (den 61) [.inl (.aload 0), .inl (.iconst 0), .inl (.putfield 225), .inl (.iconst 0), .inl (.istore 1), xto 7] L st h := den_eq (b := k61_0) rfl L st h
theorem D61_7 (L : xL) (st : xS) (h : xH) : den 61 7 L st h = xB xcall (den 61) [.inl (.iload 1), .inl (.iconst 150), .inr (.if_icmp .gt 45), .inl (.aload 0), .inr (.invokeinterface 62 1), .inr (.ifCond .ne 26), .inl (.aload 0), .inl (.getfield 225), .inr .ireturn] L st h := den_eq (b := k61_7) rfl L st h
theorem D61_26 (L : xL) (st : xS) (h : xH) : den 61 26 L st h = xB xcall (den 61) [.inl (.aload 0), .inl (.getfield 225), .inl (.aload 0), .inl (.getfield 224), .inr (.if_icmp .ne 39), .inl (.iconst (-1)), .inr .ireturn] L st h := den_eq (b := k61_26) rfl L st h
theorem D61_39 (L : xL) (st : xS) (h : xH) : den 61 39 L st h = xB xcall (den 61) [.inl (.iinc 1 1), .inr (.goto 7)] L st h := den_eq (b := k61_39) rfl L st h
theorem D61_45 (L : xL) (st : xS) (h : xH) : den 61 45 L st h = xB xcall (den 61) [.inl (.aload 0), .inl (.getfield 225), .inr .ireturn] L st h := den_eq (b := k61_45) rfl L st h
theorem N61 (h : xH) (a0 : Nat) (ho : xobj h a0 7 = true) : xcall 61 [.ref a0] h = den 61 0 [some (.ref a0), none] [] h := if_pos ho
theorem D62_0 (L : xL) (st : xS) (h : xH) : den 62 0 L st h = xB xcall (den 62) [.inl (.aload 0), .inr (.invokeinterface 66 1), .inl (.aload 0), .inl (.getfield 225), .inl (.aload 0), .inl (.getfield 224), .inr (.if_icmp .ge 30), .inl (.aload 0), .inl (.getfield 228), .inl (.aload 0), .inl (.getfield 225), .inl .iaload, .inr (.invokeinterface 63 1), .inr (.goto 31)] L st h := den_eq (b := k62_0) rfl L st h
theorem D62_30 (L : xL) (st : xS) (h : xH) : den 62 30 L st h = xB xcall (den 62) [.inl (.iconst 0), xto 31] L st h := den_eq (b := k62_30) rfl L st h
theorem D62_31 (L : xL) (st : xS) (h : xH) : den 62 31 L st h = xB xcall (den 62) [.inl (.istore 1), .inl (.iload 1), .inr (.ifCond .ne 38), .inl (.iconst 0), .inr .areturn] L st h := den_eq (b := k62_31) rfl L st h
theorem D62_38 (L : xL) (st : xS) (h : xH) : den 62 38 L st h = xB xcall (den 62) [.inl (.aload 0), .inl (.aload 0), .inl (.getfield 228), .inl (.aload 0), .inl (.getfield 225), .inl .iaload, .inl (.putfield 226), .inl (.aload 0), .inl .dup, .inl (.getfield 225), .inl (.iconst 1), .inl .iadd, .inl (.putfield 225), .inl (.iconst 0), .inl (.istore 2), xto 63] L st h := den_eq (b := k62_38) rfl L st h
theorem D62_63 (L : xL) (st : xS) (h : xH) : den 62 63 L st h = xB xcall (den 62) [.inl (.iload 2), .inl (.iload 1), .inr (.if_icmp .ge 88), .inl (.aload 0), .inr (.invokeinterface 66 1), .inl (.aload 0), .inl (.iload 2), .inr (.invokeinterface 64 2), .inr (.ifCond .ne 82), .inl (.iconst 0), .inr .areturn] L st h := den_eq (b := k62_63) rfl L st h
theorem D62_82 (L : xL) (st : xS) (h : xH) : den 62 82 L st h = xB xcall (den 62) [.inl (.iinc 2 1), .inr (.goto 63)] L st h := den_eq (b := k62_82) rfl L st h
theorem D62_88 (L : xL) (st : xS) (h : xH) : den 62 88 L st h = xB xcall (den 62) [.inl (.aload 0), .inr (.invokeinterface 66 1), .inl (.aload 0), .inl (.getfield 225), .inl (.aload 0), .inl (.getfield 224), .inr (.if_icmp .ge 117), .inl (.aload 0), .inl (.getfield 228), .inl (.aload 0), .inl (.getfield 225), .inl .iaload, .inl (.iconst 59), .inr (.if_icmp .eq 119), xto 117] L st h := den_eq (b := k62_88) rfl L st h
theorem D62_117 (L : xL) (st : xS) (h : xH) : den 62 117 L st h = xB xcall (den 62) [.inl (.iconst 0), .inr .areturn] L st h := den_eq (b := k62_117) rfl L st h
theorem D62_119 (L : xL) (st : xS) (h : xH) : den 62 119 L st h = xB xcall (den 62) [.inl (.aload 0), .inl .dup, .inl (.getfield 225), .inl (.iconst 1), .inl .iadd, .inl (.putfield 225), .inl (.aload 0), .inr (.invokeinterface 66 1), .inl (.iconst 1), .inr .areturn] L st h := den_eq (b := k62_119) rfl L st h
theorem N62 (h : xH) (a0 : Nat) (ho : xobj h a0 7 = true) : xcall 62 [.ref a0] h = den 62 0 [some (.ref a0), none, none] [] h := if_pos ho
theorem D63_0 (L : xL) (st : xS) (h : xH) : den 63 0 L st h = xB xcall (den 63) [.inl (.iload 0), .inr (.lookupswitch 110 #[(100, 100), (101, 110), (102, 102), (103, 110), (104, 106), (105, 110), (106, 110), (107, 110), (108, 110), (109, 110), (110, 110), (111, 100), (112, 110), (113, 110), (114, 100), (115, 108), (116, 110), (117, 110), (118, 110), (119, 104), (120, 100)])] L st h := den_eq (b := k63_0) rfl L st h
theorem D63_100 (L : xL) (st : xS) (h : xH) : den 63 100 L st h = xB xcall (den 63) [.inl (.iconst 1), .inr .ireturn] L st h := den_eq (b := k63_100) rfl L st h
theorem D63_102 (L : xL) (st : xS) (h : xH) : den 63 102 L st h = xB xcall (den 63) [.inl (.iconst 2), .inr .ireturn] L st h := den_eq (b := k63_102) rfl L st h
theorem D63_104 (L : xL) (st : xS) (h : xH) : den 63 104 L st h = xB xcall (den 63) [.inl (.iconst 3), .inr .ireturn] L st h := den_eq (b := k63_104) rfl L st h
theorem D63_106 (L : xL) (st : xS) (h : xH) : den 63 106 L st h = xB xcall (den 63) [.inl (.iconst 4), .inr .ireturn] L st h := den_eq (b := k63_106) rfl L st h
theorem D63_108 (L : xL) (st : xS) (h : xH) : den 63 108 L st h = xB xcall (den 63) [.inl (.iconst 5), .inr .ireturn] L st h := den_eq (b := k63_108) rfl L st h
theorem D63_110 (L : xL) (st : xS) (h : xH) : den 63 110 L st h = xB xcall (den 63) [.inl (.iconst 0), .inr .ireturn] L st h := den_eq (b := k63_110) rfl L st h
theorem N63 (h : xH) (a0 : Int32) : xcall 63 [.int a0] h = den 63 0 [some (.int a0)] [] h := if_pos rfl
theorem D64_0 (L : xL) (st : xS) (h : xH) : den 64 0 L st h = xB xcall (den 64) [.inl (.iconst 0), .inl (.istore 2), .inl (.iconst 0), .inl (.istore 3), xto 4] L st h := den_eq (b := k64_0) rfl L st h
theorem D64_4 (L : xL) (st : xS) (h : xH) : den 64 4 L st h = xB xcall (den 64) [.inl (.iload 3), .inl (.iconst 6), .inr (.if_icmp .ge 51), .inl (.aload 0), .inr (.invokeinterface 65 1), .inr (.ifCond .eq 51), .inl (.iload 2), .inl (.iconst 10), .inl .imul, .inl (.aload 0), .inl (.getfield 228), .inl (.aload 0), .inl (.getfield 225), .inl .iaload, .inl .iadd, .inl (.iconst 48), .inl .isub, .inl (.istore 2), .inl (.aload 0), .inl .dup, .inl (.getfield 225), .inl (.iconst 1), .inl .iadd, .inl (.putfield 225), .inl (.iinc 3 1), .inr (.goto 4)] L st h := den_eq (b := k64_4) rfl L st h
theorem D64_51 (L : xL) (st : xS) (h : xH) : den 64 51 L st h = xB xcall (den 64) [.inl (.aload 0), .inl (.getfield 227), .inl (.iload 1), .inl (.iload 2), .inl .iastore, .inl (.iload 3), .inr (.ifCond .le 73), .inl (.aload 0), .inr (.invokeinterface 65 1), .inr (.ifCond .ne 73), .inl (.iconst 1), .inr (.goto 74)] L st h := den_eq (b := k64_51) rfl L st h
theorem D64_73 (L : xL) (st : xS) (h : xH) : den 64 73 L st h = xB xcall (den 64) [.inl (.iconst 0), xto 74] L st h := den_eq (b := k64_73) rfl L st h
theorem D64_74 (L : xL) (st : xS) (h : xH) : den 64 74 L st h = xB xcall (den 64) [.inr .areturn] L st h := den_eq (b := k64_74) rfl L st h
theorem N64 (h : xH) (a0 : Nat) (a1 : Int32) (ho : xobj h a0 7 = true) : xcall 64 [.ref a0, .int a1] h = den 64 0 [some (.ref a0), some (.int a1), none, none] [] h := if_pos ho
theorem D65_0 (L : xL) (st : xS) (h : xH) : den 65 0 L st h = xB xcall (den 65) [.inl (.aload 0), .inl (.getfield 225), .inl (.aload 0), .inl (.getfield 224), .inr (.if_icmp .ge 43), .inl (.aload 0), .inl (.getfield 228), .inl (.aload 0), .inl (.getfield 225), .inl .iaload, .inl (.iconst 48), .inr (.if_icmp .lt 43), .inl (.aload 0), .inl (.getfield 228), .inl (.aload 0), .inl (.getfield 225), .inl .iaload, .inl (.iconst 57), .inr (.if_icmp .gt 43), .inl (.iconst 1), .inr (.goto 44)] L st h := den_eq (b := k65_0) rfl L st h
theorem D65_43 (L : xL) (st : xS) (h : xH) : den 65 43 L st h = xB xcall (den 65) [.inl (.iconst 0), xto 44] L st h := den_eq (b := k65_43) rfl L st h
theorem D65_44 (L : xL) (st : xS) (h : xH) : den 65 44 L st h = xB xcall (den 65) [.inr .areturn] L st h := den_eq (b := k65_44) rfl L st h
theorem N65 (h : xH) (a0 : Nat) (ho : xobj h a0 7 = true) : xcall 65 [.ref a0] h = den 65 0 [some (.ref a0)] [] h := if_pos ho
theorem D66_0 (L : xL) (st : xS) (h : xH) : den 66 0 L st h = xB xcall (den 66) [.inl (.aload 0), .inl (.getfield 225), .inl (.aload 0), .inl (.getfield 224), .inr (.if_icmp .ge 38), .inl (.aload 0), .inl (.getfield 228), .inl (.aload 0), .inl (.getfield 225), .inl .iaload, .inl (.iconst 32), .inr (.if_icmp .ne 38), .inl (.aload 0), .inl .dup, .inl (.getfield 225), .inl (.iconst 1), .inl .iadd, .inl (.putfield 225), .inr (.goto 0)] L st h := den_eq (b := k66_0) rfl L st h
theorem D66_38 (L : xL) (st : xS) (h : xH) : den 66 38 L st h = xB xcall (den 66) [.inr .return_] L st h := den_eq (b := k66_38) rfl L st h
theorem N66 (h : xH) (a0 : Nat) (ho : xobj h a0 7 = true) : xcall 66 [.ref a0] h = den 66 0 [some (.ref a0)] [] h := if_pos ho
theorem D67_0 (L : xL) (st : xS) (h : xH) : den 67 0 L st h = xB xcall (den 67) [.inl (.aload 0), .inl .pop, .inl (.aload 0), .inl (.new 6), .inl .dup, .inr (.invokeinterface 43 1), .inl (.putfield 256), .inl (.aload 0), .inl (.new 3), .inl .dup, .inr (.invokeinterface 18 1), .inl (.putfield 257), .inl (.aload 0), .inl (.new 2), .inl .dup, .inr (.invokeinterface 13 1), .inl (.putfield 258), .inl (.aload 0), .inl (.new 0), .inl .dup, .inr (.invokeinterface 0 1), .inl (.putfield 259), .inl (.aload 0), .inl (.new 4), .inl .dup, .inr (.invokeinterface 22 1), .inl (.putfield 260), .inl (.aload 0), .inl (.new 7), .inl .dup, .inr (.invokeinterface 59 1), .inl (.putfield 261), .inl (.aload 0), .inl (.iconst 3), .inl (.newarray .int), .inl (.putfield 262), .inl (.aload 0), .inl (.iconst 29), .inl (.newarray .int), .inl (.putfield 263), .inr .return_] L st h := den_eq (b := k67_0) rfl L st h
theorem N67 (h : xH) (a0 : Nat) : xcall 67 [.ref a0] h = den 67 0 [some (.ref a0)] [] h := if_pos rfl
theorem D68_0 (L : xL) (st : xS) (h : xH) : den 68 0 L st h = xB xcall (den 68) [.inl (.aload 0), .inl (.getfield 257), .inl (.aload 0), .inl (.getfield 256), .inr (.invokeinterface 19 2), .inl (.aload 0), .inl (.aload 0), .inl (.iload 1), .inl (.iload 2), .inr (.invokeinterface 100 3), .inr (.invokeinterface 92 2), .inr .ireturn] L st h := den_eq (b := k68_0) rfl L st h
theorem N68 (h : xH) (a0 : Nat) (a1 : Int32) (a2 : Int32) (ho : xobj h a0 8 = true) : xcall 68 [.ref a0, .int a1, .int a2] h = den 68 0 [some (.ref a0), some (.int a1), some (.int a2)] [] h := if_pos ho
theorem D69_0 (L : xL) (st : xS) (h : xH) : den 69 0 L st h = xB xcall (den 69) [.inl (.aload 0), .inl (.getfield 257), .inl (.aload 0), .inl (.getfield 256), .inr (.invokeinterface 19 2), .inl (.aload 0), .inl (.aload 0), .inl (.iload 1), .inl (.iload 2), .inl (.iload 3), .inr (.invokeinterface 101 4), .inr (.invokeinterface 92 2), .inr .ireturn] L st h := den_eq (b := k69_0) rfl L st h
theorem N69 (h : xH) (a0 : Nat) (a1 : Int32) (a2 : Int32) (a3 : Int32) (ho : xobj h a0 8 = true) : xcall 69 [.ref a0, .int a1, .int a2, .int a3] h = den 69 0 [some (.ref a0), some (.int a1), some (.int a2), some (.int a3)] [] h := if_pos ho
theorem D70_0 (L : xL) (st : xS) (h : xH) : den 70 0 L st h = xB xcall (den 70) [.inl (.aload 0), .inl (.getfield 257), .inl (.aload 0), .inl (.getfield 256), .inr (.invokeinterface 19 2), .inl (.aload 0), .inl (.aload 0), .inl (.iload 1), .inl (.iload 2), .inl (.iload 3), .inr (.invokeinterface 102 4), .inr (.invokeinterface 92 2), .inr .ireturn] L st h := den_eq (b := k70_0) rfl L st h
theorem N70 (h : xH) (a0 : Nat) (a1 : Int32) (a2 : Int32) (a3 : Int32) (ho : xobj h a0 8 = true) : xcall 70 [.ref a0, .int a1, .int a2, .int a3] h = den 70 0 [some (.ref a0), some (.int a1), some (.int a2), some (.int a3)] [] h := if_pos ho
theorem D71_0 (L : xL) (st : xS) (h : xH) : den 71 0 L st h = xB xcall (den 71) [.inl (.aload 0), .inl (.getfield 257), .inl (.aload 0), .inl (.getfield 256), .inr (.invokeinterface 19 2), .inl (.aload 0), .inl (.aload 0), .inl (.iload 1), .inl (.iload 2), .inr (.invokeinterface 103 3), .inr (.invokeinterface 92 2), .inr .ireturn] L st h := den_eq (b := k71_0) rfl L st h
theorem N71 (h : xH) (a0 : Nat) (a1 : Int32) (a2 : Int32) (ho : xobj h a0 8 = true) : xcall 71 [.ref a0, .int a1, .int a2] h = den 71 0 [some (.ref a0), some (.int a1), some (.int a2)] [] h := if_pos ho
theorem D72_0 (L : xL) (st : xS) (h : xH) : den 72 0 L st h = xB xcall (den 72) [.inl (.aload 0), .inl (.getfield 257), .inl (.aload 0), .inl (.getfield 256), .inr (.invokeinterface 19 2), .inl (.aload 0), .inl (.aload 0), .inl (.iload 1), .inl (.iload 2), .inr (.invokeinterface 104 3), .inr (.invokeinterface 92 2), .inr .ireturn] L st h := den_eq (b := k72_0) rfl L st h
theorem N72 (h : xH) (a0 : Nat) (a1 : Int32) (a2 : Int32) (ho : xobj h a0 8 = true) : xcall 72 [.ref a0, .int a1, .int a2] h = den 72 0 [some (.ref a0), some (.int a1), some (.int a2)] [] h := if_pos ho
theorem D73_0 (L : xL) (st : xS) (h : xH) : den 73 0 L st h = xB xcall (den 73) [.inl (.aload 0), .inl (.getfield 257), .inl (.aload 0), .inl (.getfield 256), .inr (.invokeinterface 19 2), .inl (.aload 0), .inl (.aload 0), .inl (.iload 1), .inl (.iload 2), .inl (.iload 3), .inl (.iload 4), .inl (.iload 5), .inr (.invokeinterface 105 6), .inr (.invokeinterface 92 2), .inr .ireturn] L st h := den_eq (b := k73_0) rfl L st h
theorem N73 (h : xH) (a0 : Nat) (a1 : Int32) (a2 : Int32) (a3 : Int32) (a4 : Int32) (a5 : Int32) (ho : xobj h a0 8 = true) : xcall 73 [.ref a0, .int a1, .int a2, .int a3, .int a4, .int a5] h = den 73 0 [some (.ref a0), some (.int a1), some (.int a2), some (.int a3), some (.int a4), some (.int a5)] [] h := if_pos ho
theorem D74_0 (L : xL) (st : xS) (h : xH) : den 74 0 L st h = xB xcall (den 74) [.inl (.aload 0), .inl (.getfield 257), .inl (.aload 0), .inl (.getfield 256), .inr (.invokeinterface 19 2), .inl (.aload 0), .inl (.aload 0), .inl (.iload 1), .inr (.invokeinterface 106 2), .inr (.invokeinterface 92 2), .inr .ireturn] L st h := den_eq (b := k74_0) rfl L st h
theorem N74 (h : xH) (a0 : Nat) (a1 : Int32) (ho : xobj h a0 8 = true) : xcall 74 [.ref a0, .int a1] h = den 74 0 [some (.ref a0), some (.int a1)] [] h := if_pos ho
theorem D75_0 (L : xL) (st : xS) (h : xH) : den 75 0 L st h = xB xcall (den 75) [.inl (.aload 0), .inl (.getfield 256), .inl (.iload 1), .inr (.invokeinterface 45 2), .inr (.ifCond .eq 20), .inl (.iload 2), .inr (.ifCond .lt 20), .inl (.iload 2), .inl (.iconst 5), .inr (.if_icmp .le 27), xto 20] L st h := den_eq (b := k75_0) rfl L st h
theorem D75_20 (L : xL) (st : xS) (h : xH) : den 75 20 L st h = xB xcall (den 75) [.inl (.aload 0), .inl (.iconst (-2)), .inr (.invokeinterface 93 2), .inr .ireturn] L st h := den_eq (b := k75_20) rfl L st h
theorem D75_27 (L : xL) (st : xS) (h : xH) : den 75 27 L st h = xB xcall (den 75) [.inl (.aload 0), .inl (.getfield 256), .inl (.iload 1), .inl (.iload 2), .inr (.invokeinterface 54 3), .inr .ireturn] L st h := den_eq (b := k75_27) rfl L st h
theorem N75 (h : xH) (a0 : Nat) (a1 : Int32) (a2 : Int32) (ho : xobj h a0 8 = true) : xcall 75 [.ref a0, .int a1, .int a2] h = den 75 0 [some (.ref a0), some (.int a1), some (.int a2)] [] h := if_pos ho
theorem D76_0 (L : xL) (st : xS) (h : xH) : den 76 0 L st h = xB xcall (den 76) [.inl (.aload 0), .inl (.getfield 256), .inl (.iload 1), .inr (.invokeinterface 46 2), .inr (.ifCond .eq 20), .inl (.iload 2), .inr (.ifCond .lt 20), .inl (.iload 2), .inl (.iconst 5), .inr (.if_icmp .le 27), xto 20] L st h := den_eq (b := k76_0) rfl L st h
theorem D76_20 (L : xL) (st : xS) (h : xH) : den 76 20 L st h = xB xcall (den 76) [.inl (.aload 0), .inl (.iconst (-2)), .inr (.invokeinterface 93 2), .inr .ireturn] L st h := den_eq (b := k76_20) rfl L st h
theorem D76_27 (L : xL) (st : xS) (h : xH) : den 76 27 L st h = xB xcall (den 76) [.inl (.aload 0), .inl (.getfield 258), .inl (.aload 0), .inl (.getfield 256), .inr (.invokeinterface 14 2), .inl (.aload 0), .inl (.iload 1), .inl (.iload 2), .inr (.invokeinterface 95 3), .inr .ireturn] L st h := den_eq (b := k76_27) rfl L st h
theorem N76 (h : xH) (a0 : Nat) (a1 : Int32) (a2 : Int32) (ho : xobj h a0 8 = true) : xcall 76 [.ref a0, .int a1, .int a2] h = den 76 0 [some (.ref a0), some (.int a1), some (.int a2)] [] h := if_pos ho
theorem D77_0 (L : xL) (st : xS) (h : xH) : den 77 0 L st h = xB xcall (den 77) [.inl (.aload 0), .inl (.getfield 258), .inl (.aload 0), .inl (.getfield 256), .inr (.invokeinterface 14 2), .inl (.aload 0), .inl (.getfield 258), .inl (.getfield 64), .inr (.invokeinterface 32 1), .inr .ireturn] L st h := den_eq (b := k77_0) rfl L st h
theorem N77 (h : xH) (a0 : Nat) (ho : xobj h a0 8 = true) : xcall 77 [.ref a0] h = den 77 0 [some (.ref a0)] [] h := if_pos ho
theorem D78_0 (L : xL) (st : xS) (h : xH) : den 78 0 L st h = xB xcall (den 78) [.inl (.iload 1), .inr (.ifCond .lt 15), .inl (.aload 0), .inl (.getfield 256), .inl (.iload 2), .inr (.invokeinterface 45 2), .inr (.ifCond .ne 22), xto 15] L st h := den_eq (b := k78_0) rfl L st h
theorem D78_15 (L : xL) (st : xS) (h : xH) : den 78 15 L st h = xB xcall (den 78) [.inl (.aload 0), .inl (.iconst (-2)), .inr (.invokeinterface 93 2), .inr .ireturn] L st h := den_eq (b := k78_15) rfl L st h
theorem D78_22 (L : xL) (st : xS) (h : xH) : den 78 22 L st h = xB xcall (den 78) [.inl (.aload 0), .inl (.getfield 258), .inl (.aload 0), .inl (.getfield 256), .inr (.invokeinterface 14 2), .inl (.aload 0), .inl (.getfield 258), .inl (.getfield 64), .inl (.iload 1), .inr (.invokeinterface 35 2), .inl (.istore 3), .inl (.iload 3), .inl (.iconst (-1)), .inr (.if_icmp .ne 55), .inl (.iconst (-5)), .inr (.goto 60)] L st h := den_eq (b := k78_22) rfl L st h
theorem D78_55 (L : xL) (st : xS) (h : xH) : den 78 55 L st h = xB xcall (den 78) [.inl (.iload 3), .inl (.iload 2), .inr (.invokeinterface 98 2), xto 60] L st h := den_eq (b := k78_55) rfl L st h
theorem D78_60 (L : xL) (st : xS) (h : xH) : den 78 60 L st h = xB xcall (den 78) [.inr .ireturn] L st h := den_eq (b := k78_60) rfl L st h
theorem N78 (h : xH) (a0 : Nat) (a1 : Int32) (a2 : Int32) (ho : xobj h a0 8 = true) : xcall 78 [.ref a0, .int a1, .int a2] h = den 78 0 [some (.ref a0), some (.int a1), some (.int a2), none] [] h := if_pos ho
theorem D79_0 (L : xL) (st : xS) (h : xH) : den 79 0 L st h = xB xcall (den 79) [.inl (.iload 1), .inl (.iconst (-1)), .inr (.if_icmp .ne 12), .inl (.iload 2), .inr (.ifCond .eq 40), .inr (.goto 33)] L st h := den_eq (b := k79_0) rfl L st h
theorem D79_12 (L : xL) (st : xS) (h : xH) : den 79 12 L st h = xB xcall (den 79) [.inl (.aload 0), .inl (.getfield 256), .inl (.iload 1), .inr (.invokeinterface 45 2), .inr (.ifCond .eq 33), .inl (.iload 2), .inr (.ifCond .lt 33), .inl (.iload 2), .inl (.iconst 8), .inr (.if_icmp .lt 40), xto 33] L st h := den_eq (b := k79_12) rfl L st h
theorem D79_33 (L : xL) (st : xS) (h : xH) : den 79 33 L st h = xB xcall (den 79) [.inl (.aload 0), .inl (.iconst (-2)), .inr (.invokeinterface 93 2), .inr .ireturn] L st h := den_eq (b := k79_33) rfl L st h
theorem D79_40 (L : xL) (st : xS) (h : xH) : den 79 40 L st h = xB xcall (den 79) [.inl (.aload 0), .inl (.getfield 258), .inl (.aload 0), .inl (.getfield 256), .inr (.invokeinterface 14 2), .inl (.iload 1), .inl (.iconst (-1)), .inr (.if_icmp .ne 71), .inl (.aload 0), .inl (.getfield 256), .inl (.aload 0), .inl (.getfield 258), .inl (.getfield 64), .inr (.invokeinterface 57 2), .inr .ireturn] L st h := den_eq (b := k79_40) rfl L st h
theorem D79_71 (L : xL) (st : xS) (h : xH) : den 79 71 L st h = xB xcall (den 79) [.inl (.aload 0), .inl (.getfield 260), .inl (.aload 0), .inl (.getfield 258), .inl (.getfield 64), .inr (.invokeinterface 26 2), .inl (.aload 0), .inl (.getfield 260), .inl (.iload 1), .inl (.iconst 1), .inl (.iload 2), .inl .ishl, .inr (.invokeinterface 30 3), .inl (.aload 0), .inl (.getfield 256), .inl (.aload 0), .inl (.getfield 260), .inr (.invokeinterface 57 2), .inr .ireturn] L st h := den_eq (b := k79_71) rfl L st h
theorem N79 (h : xH) (a0 : Nat) (a1 : Int32) (a2 : Int32) (ho : xobj h a0 8 = true) : xcall 79 [.ref a0, .int a1, .int a2] h = den 79 0 [some (.ref a0), some (.int a1), some (.int a2)] [] h := if_pos ho
theorem D80_0 (L : xL) (st : xS) (h : xH) : den 80 0 L st h = xB xcall (den 80) [.inl (.iload 1), .inr (.ifCond .ge 11), .inl (.aload 0), .inl (.iconst (-2)), .inr (.invokeinterface 93 2), .inr .ireturn] L st h := den_eq (b := k80_0) rfl L st h
theorem D80_11 (L : xL) (st : xS) (h : xH) : den 80 11 L st h = xB xcall (den 80) [.inl (.aload 0), .inl (.getfield 258), .inl (.aload 0), .inl (.getfield 256), .inr (.invokeinterface 14 2), .inl (.aload 0), .inl (.getfield 258), .inl (.getfield 64), .inl (.aload 0), .inl (.getfield 263), .inr (.invokeinterface 38 2), .inl (.iload 1), .inl (.iconst 29), .inr (.if_icmp .ge 51), .inl (.aload 0), .inl (.getfield 263), .inl (.iload 1), .inl .iaload, .inr (.goto 52)] L st h := den_eq (b := k80_11) rfl L st h
theorem D80_51 (L : xL) (st : xS) (h : xH) : den 80 51 L st h = xB xcall (den 80) [.inl (.iconst 0), xto 52] L st h := den_eq (b := k80_51) rfl L st h
theorem D80_52 (L : xL) (st : xS) (h : xH) : den 80 52 L st h = xB xcall (den 80) [.inr .ireturn] L st h := den_eq (b := k80_52) rfl L st h
theorem N80 (h : xH) (a0 : Nat) (a1 : Int32) (ho : xobj h a0 8 = true) : xcall 80 [.ref a0, .int a1] h = den 80 0 [some (.ref a0), some (.int a1)] [] h := if_pos ho
theorem D81_0 (L : xL) (st : xS) (h : xH) : den 81 0 L st h = xB xcall (den 81) [.inl (.iload 1), .inr (.ifCond .ge 11), .inl (.aload 0), .inl (.iconst (-2)), .inr (.invokeinterface 93 2), .inr .ireturn] L st h := den_eq (b := k81_0) rfl L st h
theorem D81_11 (L : xL) (st : xS) (h : xH) : den 81 11 L st h = xB xcall (den 81) [.inl (.aload 0), .inl (.getfield 258), .inl (.aload 0), .inl (.getfield 256), .inr (.invokeinterface 14 2), .inl (.aload 0), .inl (.getfield 258), .inl (.getfield 64), .inl (.aload 0), .inl (.getfield 263), .inr (.invokeinterface 38 2), .inl (.iconst 0), .inl (.istore 2), .inl (.iconst 0), .inl (.istore 3), xto 40] L st h := den_eq (b := k81_11) rfl L st h
theorem D81_40 (L : xL) (st : xS) (h : xH) : den 81 40 L st h = xB xcall (den 81) [.inl (.iload 3), .inl (.iconst 29), .inr (.if_icmp .ge 71), .inl (.aload 0), .inl (.getfield 263), .inl (.iload 3), .inl .iaload, .inr (.ifCond .le 65), .inl (.iload 2), .inl (.iload 1), .inr (.if_icmp .ne 62), .inl (.iload 3), .inr .ireturn] L st h := den_eq (b := k81_40) rfl L st h
theorem D81_62 (L : xL) (st : xS) (h : xH) : den 81 62 L st h = xB xcall (den 81) [.inl (.iinc 2 1), xto 65] L st h := den_eq (b := k81_62) rfl L st h
theorem D81_65 (L : xL) (st : xS) (h : xH) : den 81 65 L st h = xB xcall (den 81) [.inl (.iinc 3 1), .inr (.goto 40)] L st h := den_eq (b := k81_65) rfl L st h
theorem D81_71 (L : xL) (st : xS) (h : xH) : den 81 71 L st h = xB xcall (den 81) [.inl (.iconst (-5)), .inr .ireturn] L st h := den_eq (b := k81_71) rfl L st h
theorem N81 (h : xH) (a0 : Nat) (a1 : Int32) (ho : xobj h a0 8 = true) : xcall 81 [.ref a0, .int a1] h = den 81 0 [some (.ref a0), some (.int a1), none, none] [] h := if_pos ho
theorem D82_0 (L : xL) (st : xS) (h : xH) : den 82 0 L st h = xB xcall (den 82) [.inl (.iload 1), .inr (.ifCond .ge 11), .inl (.aload 0), .inl (.iconst (-2)), .inr (.invokeinterface 93 2), .inr .ireturn] L st h := den_eq (b := k82_0) rfl L st h
theorem D82_11 (L : xL) (st : xS) (h : xH) : den 82 11 L st h = xB xcall (den 82) [.inl (.iconst 0), .inl (.istore 2), .inl (.iconst 0), .inl (.istore 3), xto 15] L st h := den_eq (b := k82_11) rfl L st h
theorem D82_15 (L : xL) (st : xS) (h : xH) : den 82 15 L st h = xB xcall (den 82) [.inl (.iload 3), .inl (.iconst 10), .inr (.if_icmp .ge 76), .inl (.iconst 0), .inl (.istore 4), xto 24] L st h := den_eq (b := k82_15) rfl L st h
theorem D82_24 (L : xL) (st : xS) (h : xH) : den 82 24 L st h = xB xcall (den 82) [.inl (.iload 4), .inl (.aload 0), .inl (.getfield 256), .inl (.getfield 195), .inr (.if_icmp .ge 70), .inl (.aload 0), .inl (.getfield 256), .inl (.getfield 196), .inl (.iload 4), .inl .aaload, .inl (.getfield 164), .inl (.iload 3), .inr (.if_icmp .ne 64), .inl (.iload 2), .inl (.iload 1), .inr (.if_icmp .ne 61), .inl (.iload 4), .inr .ireturn] L st h := den_eq (b := k82_24) rfl L st h
theorem D82_61 (L : xL) (st : xS) (h : xH) : den 82 61 L st h = xB xcall (den 82) [.inl (.iinc 2 1), xto 64] L st h := den_eq (b := k82_61) rfl L st h
theorem D82_64 (L : xL) (st : xS) (h : xH) : den 82 64 L st h = xB xcall (den 82) [.inl (.iinc 4 1), .inr (.goto 24)] L st h := den_eq (b := k82_64) rfl L st h
theorem D82_70 (L : xL) (st : xS) (h : xH) : den 82 70 L st h = xB xcall (den 82) [.inl (.iinc 3 1), .inr (.goto 15)] L st h := den_eq (b := k82_70) rfl L st h
theorem D82_76 (L : xL) (st : xS) (h : xH) : den 82 76 L st h = xB xcall (den 82) [.inl (.iconst (-5)), .inr .ireturn] L st h := den_eq (b := k82_76) rfl L st h
theorem N82 (h : xH) (a0 : Nat) (a1 : Int32) (ho : xobj h a0 8 = true) : xcall 82 [.ref a0, .int a1] h = den 82 0 [some (.ref a0), some (.int a1), none, none, none] [] h := if_pos ho
theorem D83_0 (L : xL) (st : xS) (h : xH) : den 83 0 L st h = xB xcall (den 83) [.inl (.aload 0), .inl (.getfield 258), .inl (.aload 0), .inl (.getfield 256), .inr (.invokeinterface 14 2), .inl (.aload 0), .inl (.getfield 258), .inl (.getfield 66), .inr .ireturn] L st h := den_eq (b := k83_0) rfl L st h
theorem N83 (h : xH) (a0 : Nat) (ho : xobj h a0 8 = true) : xcall 83 [.ref a0] h = den 83 0 [some (.ref a0)] [] h := if_pos ho
theorem D84_0 (L : xL) (st : xS) (h : xH) : den 84 0 L st h = xB xcall (den 84) [.inl (.aload 0), .inl (.getfield 257), .inl (.aload 0), .inl (.getfield 256), .inr (.invokeinterface 19 2), .inl (.aload 0), .inl (.aload 0), .inl (.iload 1), .inl (.iload 2), .inr (.invokeinterface 107 3), .inr (.invokeinterface 92 2), .inr .ireturn] L st h := den_eq (b := k84_0) rfl L st h
theorem N84 (h : xH) (a0 : Nat) (a1 : Int32) (a2 : Int32) (ho : xobj h a0 8 = true) : xcall 84 [.ref a0, .int a1, .int a2] h = den 84 0 [some (.ref a0), some (.int a1), some (.int a2)] [] h := if_pos ho
theorem D85_0 (L : xL) (st : xS) (h : xH) : den 85 0 L st h = xB xcall (den 85) [.inl (.iload 1), .inl (.iconst (-1)), .inr (.if_icmp .lt 28), .inl (.iload 1), .inl (.iconst (-1)), .inr (.if_icmp .ne 17), .inl (.iload 2), .inr (.ifCond .eq 35), .inr (.goto 28)] L st h := den_eq (b := k85_0) rfl L st h
theorem D85_17 (L : xL) (st : xS) (h : xH) : den 85 17 L st h = xB xcall (den 85) [.inl (.aload 0), .inl (.getfield 256), .inl (.iload 2), .inr (.invokeinterface 45 2), .inr (.ifCond .ne 35), xto 28] L st h := den_eq (b := k85_17) rfl L st h
theorem D85_28 (L : xL) (st : xS) (h : xH) : den 85 28 L st h = xB xcall (den 85) [.inl (.aload 0), .inl (.iconst (-2)), .inr (.invokeinterface 93 2), .inr .ireturn] L st h := den_eq (b := k85_28) rfl L st h
theorem D85_35 (L : xL) (st : xS) (h : xH) : den 85 35 L st h = xB xcall (den 85) [.inl (.iload 1), .inl (.iconst (-1)), .inr (.if_icmp .ne 48), .inl (.aload 0), .inl (.getfield 256), .inl (.getfield 198), .inr .ireturn] L st h := den_eq (b := k85_35) rfl L st h
theorem D85_48 (L : xL) (st : xS) (h : xH) : den 85 48 L st h = xB xcall (den 85) [.inl (.iload 1), .inl (.aload 0), .inl (.getfield 256), .inl (.getfield 198), .inr (.if_icmp .ge 75), .inl (.aload 0), .inl (.getfield 256), .inl (.getfield 199), .inl (.iload 1), .inl .iaload, .inl (.iload 2), .inr (.invokeinterface 98 2), .inr (.goto 77)] L st h := den_eq (b := k85_48) rfl L st h
theorem D85_75 (L : xL) (st : xS) (h : xH) : den 85 75 L st h = xB xcall (den 85) [.inl (.iconst (-5)), xto 77] L st h := den_eq (b := k85_75) rfl L st h
theorem D85_77 (L : xL) (st : xS) (h : xH) : den 85 77 L st h = xB xcall (den 85) [.inr .ireturn] L st h := den_eq (b := k85_77) rfl L st h
theorem N85 (h : xH) (a0 : Nat) (a1 : Int32) (a2 : Int32) (ho : xobj h a0 8 = true) : xcall 85 [.ref a0, .int a1, .int a2] h = den 85 0 [some (.ref a0), some (.int a1), some (.int a2)] [] h := if_pos ho
theorem D86_0 (L : xL) (st : xS) (h : xH) : den 86 0 L st h = xB xcall (den 86) [.inl (.iload 1), .inr (.ifCond .lt 10), .inl (.iload 1), .inl (.iconst 127), .inr (.if_icmp .le 17), xto 10] L st h := den_eq (b := k86_0) rfl L st h
theorem D86_10 (L : xL) (st : xS) (h : xH) : den 86 10 L st h = xB xcall (den 86) [.inl (.aload 0), .inl (.iconst (-2)), .inr (.invokeinterface 93 2), .inr .ireturn] L st h := den_eq (b := k86_10) rfl L st h
theorem D86_17 (L : xL) (st : xS) (h : xH) : den 86 17 L st h = xB xcall (den 86) [.inl (.aload 0), .inl (.aload 0), .inl (.getfield 261), .inl (.iload 1), .inr (.invokeinterface 60 2), .inr (.invokeinterface 93 2), .inr .ireturn] L st h := den_eq (b := k86_17) rfl L st h
theorem N86 (h : xH) (a0 : Nat) (a1 : Int32) (ho : xobj h a0 8 = true) : xcall 86 [.ref a0, .int a1] h = den 86 0 [some (.ref a0), some (.int a1)] [] h := if_pos ho
theorem D87_0 (L : xL) (st : xS) (h : xH) : den 87 0 L st h = xB xcall (den 87) [.inl (.aload 0), .inl (.getfield 261), .inl (.getfield 224), .inl (.istore 1), .inl (.aload 0), .inl (.getfield 261), .inl (.iconst 0), .inl (.putfield 224), .inl (.iload 1), .inr .ireturn] L st h := den_eq (b := k87_0) rfl L st h
theorem N87 (h : xH) (a0 : Nat) (ho : xobj h a0 8 = true) : xcall 87 [.ref a0] h = den 87 0 [some (.ref a0), none] [] h := if_pos ho
theorem D88_0 (L : xL) (st : xS) (h : xH) : den 88 0 L st h = xB xcall (den 88) [.inl (.aload 0), .inl (.getfield 261), .inr (.invokeinterface 61 1), .inl (.istore 1), .inl (.iload 1), .inl (.iconst (-1)), .inr (.if_icmp .eq 18), .inl (.iconst (-10)), .inl (.iload 1), .inl .isub, .inr .ireturn] L st h := den_eq (b := k88_0) rfl L st h
theorem D88_18 (L : xL) (st : xS) (h : xH) : den 88 18 L st h = xB xcall (den 88) [.inl (.aload 0), .inl (.getfield 257), .inl (.aload 0), .inl (.getfield 256), .inr (.invokeinterface 19 2), .inl (.iconst 0), .inl (.istore 2), .inl (.aload 0), .inl (.getfield 261), .inl (.iconst 0), .inl (.putfield 225), .inl (.iconst 0), .inl (.istore 3), xto 41] L st h := den_eq (b := k88_18) rfl L st h
theorem D88_41 (L : xL) (st : xS) (h : xH) : den 88 41 L st h = xB xcall (den 88) [.inl (.iload 3), .inl (.iconst 150), .inr (.if_icmp .ge 74), .inl (.aload 0), .inl (.getfield 261), .inr (.invokeinterface 62 1), .inr (.ifCond .eq 74), .inl (.aload 0), .inr (.invokeinterface 108 1), .inr (.ifCond .lt 68), .inl (.iinc 2 1), xto 68] L st h := den_eq (b := k88_41) rfl L st h
theorem D88_68 (L : xL) (st : xS) (h : xH) : den 88 68 L st h = xB xcall (den 88) [.inl (.iinc 3 1), .inr (.goto 41)] L st h := den_eq (b := k88_68) rfl L st h
theorem D88_74 (L : xL) (st : xS) (h : xH) : den 88 74 L st h = xB xcall (den 88) [.inl (.aload 0), .inl (.iload 2), .inr (.invokeinterface 92 2), .inr .ireturn] L st h := den_eq (b := k88_74) rfl L st h
theorem N88 (h : xH) (a0 : Nat) (ho : xobj h a0 8 = true) : xcall 88 [.ref a0] h = den 88 0 [some (.ref a0), none, none, none] [] h := if_pos ho
theorem D89_0 (L : xL) (st : xS) (h : xH) : den 89 0 L st h = xB xcall (den 89) [.inl (.aload 0), .inl (.aload 0), .inl (.getfield 257), .inl (.aload 0), .inl (.getfield 256), .inr (.invokeinterface 21 2), .inr (.invokeinterface 93 2), .inr .ireturn] L st h := den_eq (b := k89_0) rfl L st h
theorem N89 (h : xH) (a0 : Nat) (ho : xobj h a0 8 = true) : xcall 89 [.ref a0] h = den 89 0 [some (.ref a0)] [] h := if_pos ho
theorem D90_0 (L : xL) (st : xS) (h : xH) : den 90 0 L st h = xB xcall (den 90) [.inl (.iload 1), .inr (.ifCond .lt 10), .inl (.iload 1), .inl (.iconst 6), .inr (.if_icmp .le 17), xto 10] L st h := den_eq (b := k90_0) rfl L st h
theorem D90_10 (L : xL) (st : xS) (h : xH) : den 90 10 L st h = xB xcall (den 90) [.inl (.aload 0), .inl (.iconst (-2)), .inr (.invokeinterface 93 2), .inr .ireturn] L st h := den_eq (b := k90_10) rfl L st h
theorem D90_17 (L : xL) (st : xS) (h : xH) : den 90 17 L st h = xB xcall (den 90) [.inl (.aload 0), .inl (.iload 1), .inr (.invokeinterface 94 2), .inr .ireturn] L st h := den_eq (b := k90_17) rfl L st h
theorem N90 (h : xH) (a0 : Nat) (a1 : Int32) (ho : xobj h a0 8 = true) : xcall 90 [.ref a0, .int a1] h = den 90 0 [some (.ref a0), some (.int a1)] [] h := if_pos ho
theorem D91_0 (L : xL) (st : xS) (h : xH) : den 91 0 L st h = xB xcall (den 91) [.inl (.aload 0), .inl (.getfield 258), .inl (.aload 0), .inl (.getfield 256), .inr (.invokeinterface 14 2), .inl (.sipush 2423), .inl (.lstore 1), .inl (.iconst 0), .inl (.istore 3), xto 17] L st h := den_eq (b := k91_0) rfl L st h
theorem D91_17 (L : xL) (st : xS) (h : xH) : den 91 17 L st h = xB xcall (den 91) [.inl (.iload 3), .inl (.iconst 6), .inr (.if_icmp .gt 42), .inl (.sipush 31), .inl (.lload 1), .inl .lmul, .inl (.aload 0), .inl (.iload 3), .inr (.invokeinterface 94 2), .inl .i2l, .inl .ladd, .inl (.lstore 1), .inl (.iinc 3 1), .inr (.goto 17)] L st h := den_eq (b := k91_17) rfl L st h
theorem D91_42 (L : xL) (st : xS) (h : xH) : den 91 42 L st h = xB xcall (den 91) [.inl (.iconst 0), .inl (.istore 3), xto 44] L st h := den_eq (b := k91_42) rfl L st h
theorem D91_44 (L : xL) (st : xS) (h : xH) : den 91 44 L st h = xB xcall (den 91) [.inl (.iload 3), .inl (.aload 0), .inl (.getfield 256), .inl (.getfield 192), .inr (.if_icmp .ge 68), .inl (.aload 0), .inl (.lload 1), .inl (.iload 3), .inr (.invokeinterface 96 3), .inl (.lstore 1), .inl (.iinc 3 1), .inr (.goto 44)] L st h := den_eq (b := k91_44) rfl L st h
theorem D91_68 (L : xL) (st : xS) (h : xH) : den 91 68 L st h = xB xcall (den 91) [.inl (.iconst 0), .inl (.istore 3), xto 70] L st h := den_eq (b := k91_68) rfl L st h
theorem D91_70 (L : xL) (st : xS) (h : xH) : den 91 70 L st h = xB xcall (den 91) [.inl (.iload 3), .inl (.aload 0), .inl (.getfield 256), .inl (.getfield 195), .inr (.if_icmp .ge 117), .inl (.iconst 0), .inl (.istore 4), xto 84] L st h := den_eq (b := k91_70) rfl L st h
theorem D91_84 (L : xL) (st : xS) (h : xH) : den 91 84 L st h = xB xcall (den 91) [.inl (.iload 4), .inl (.iconst 5), .inr (.if_icmp .gt 111), .inl (.sipush 31), .inl (.lload 1), .inl .lmul, .inl (.aload 0), .inl (.iload 3), .inl (.iload 4), .inr (.invokeinterface 95 3), .inl .i2l, .inl .ladd, .inl (.lstore 1), .inl (.iinc 4 1), .inr (.goto 84)] L st h := den_eq (b := k91_84) rfl L st h
theorem D91_111 (L : xL) (st : xS) (h : xH) : den 91 111 L st h = xB xcall (den 91) [.inl (.iinc 3 1), .inr (.goto 70)] L st h := den_eq (b := k91_111) rfl L st h
theorem D91_117 (L : xL) (st : xS) (h : xH) : den 91 117 L st h = xB xcall (den 91) [.inl (.sipush 31), .inl (.lload 1), .inl .lmul, .inl (.aload 0), .inl (.getfield 258), .inl (.getfield 64), .inr (.invokeinterface 32 1), .inl .i2l, .inl .ladd, .inl (.lstore 1), .inl (.sipush 31), .inl (.lload 1), .inl .lmul, .inl (.aload 0), .inl (.getfield 256), .inl (.aload 0), .inl (.getfield 258), .inl (.getfield 64), .inr (.invokeinterface 57 2), .inl .i2l, .inl .ladd, .inl (.lstore 1), .inl (.sipush 31), .inl (.lload 1), .inl .lmul, .inl (.aload 0), .inl (.getfield 258), .inl (.getfield 66), .inl .i2l, .inl .ladd, .inl (.lstore 1), .inl (.aload 0), .inl (.lload 1), .inr (.invokeinterface 97 2), .inr .lreturn] L st h := den_eq (b := k91_117) rfl L st h
theorem N91 (h : xH) (a0 : Nat) (ho : xobj h a0 8 = true) : xcall 91 [.ref a0] h = den 91 0 [some (.ref a0), none, none, none, none] [] h := if_pos ho
theorem D92_0 (L : xL) (st : xS) (h : xH) : den 92 0 L st h = xB xcall (den 92) [.inl (.iload 1), .inr (.ifCond .lt 11), .inl (.aload 0), .inl (.getfield 257), .inr (.invokeinterface 20 1), xto 11] L st h := den_eq (b := k92_0) rfl L st h
theorem D92_11 (L : xL) (st : xS) (h : xH) : den 92 11 L st h = xB xcall (den 92) [.inl (.aload 0), .inl (.iload 1), .inr (.invokeinterface 93 2), .inr .ireturn] L st h := den_eq (b := k92_11) rfl L st h
theorem N92 (h : xH) (a0 : Nat) (a1 : Int32) (ho : xobj h a0 8 = true) : xcall 92 [.ref a0, .int a1] h = den 92 0 [some (.ref a0), some (.int a1)] [] h := if_pos ho
theorem D93_0 (L : xL) (st : xS) (h : xH) : den 93 0 L st h = xB xcall (den 93) [.inl (.iload 1), .inl (.iconst (-2)), .inr (.if_icmp .gt 25), .inl (.iload 1), .inl (.iconst (-4)), .inr (.if_icmp .lt 25), .inl (.aload 0), .inl (.getfield 262), .inl (.iconst (-2)), .inl (.iload 1), .inl .isub, .inl .dup2, .inl .iaload, .inl (.iconst 1), .inl .iadd, .inl .iastore, xto 25] L st h := den_eq (b := k93_0) rfl L st h
theorem D93_25 (L : xL) (st : xS) (h : xH) : den 93 25 L st h = xB xcall (den 93) [.inl (.iload 1), .inr .ireturn] L st h := den_eq (b := k93_25) rfl L st h
theorem N93 (h : xH) (a0 : Nat) (a1 : Int32) (ho : xobj h a0 8 = true) : xcall 93 [.ref a0, .int a1] h = den 93 0 [some (.ref a0), some (.int a1)] [] h := if_pos ho
theorem D94_0 (L : xL) (st : xS) (h : xH) : den 94 0 L st h = xB xcall (den 94) [.inl (.iload 1), .inr (.lookupswitch 71 #[(0, 40), (1, 40), (2, 40), (3, 47), (4, 55), (5, 63)])] L st h := den_eq (b := k94_0) rfl L st h
theorem D94_40 (L : xL) (st : xS) (h : xH) : den 94 40 L st h = xB xcall (den 94) [.inl (.aload 0), .inl (.getfield 262), .inl (.iload 1), .inl .iaload, .inr .ireturn] L st h := den_eq (b := k94_40) rfl L st h
theorem D94_47 (L : xL) (st : xS) (h : xH) : den 94 47 L st h = xB xcall (den 94) [.inl (.aload 0), .inl (.getfield 261), .inl (.getfield 224), .inr .ireturn] L st h := den_eq (b := k94_47) rfl L st h
theorem D94_55 (L : xL) (st : xS) (h : xH) : den 94 55 L st h = xB xcall (den 94) [.inl (.aload 0), .inl (.getfield 256), .inl (.getfield 192), .inr .ireturn] L st h := den_eq (b := k94_55) rfl L st h
theorem D94_63 (L : xL) (st : xS) (h : xH) : den 94 63 L st h = xB xcall (den 94) [.inl (.aload 0), .inl (.getfield 256), .inl (.getfield 195), .inr .ireturn] L st h := den_eq (b := k94_63) rfl L st h
theorem D94_71 (L : xL) (st : xS) (h : xH) : den 94 71 L st h = xB xcall (den 94) [.inl (.aload 0), .inl (.getfield 257), .inl (.getfield 96), .inr .ireturn] L st h := den_eq (b := k94_71) rfl L st h
theorem N94 (h : xH) (a0 : Nat) (a1 : Int32) (ho : xobj h a0 8 = true) : xcall 94 [.ref a0, .int a1] h = den 94 0 [some (.ref a0), some (.int a1)] [] h := if_pos ho
theorem D95_0 (L : xL) (st : xS) (h : xH) : den 95 0 L st h = xB xcall (den 95) [.inl (.aload 0), .inl (.getfield 256), .inl (.getfield 196), .inl (.iload 1), .inl .aaload, .inl (.astore 3), .inl (.iload 2), .inr (.lookupswitch 69 #[(0, 44), (1, 49), (2, 54), (3, 59), (4, 64)])] L st h := den_eq (b := k95_0) rfl L st h
theorem D95_44 (L : xL) (st : xS) (h : xH) : den 95 44 L st h = xB xcall (den 95) [.inl (.aload 3), .inl (.getfield 160), .inr .ireturn] L st h := den_eq (b := k95_44) rfl L st h
theorem D95_49 (L : xL) (st : xS) (h : xH) : den 95 49 L st h = xB xcall (den 95) [.inl (.aload 3), .inl (.getfield 161), .inr .ireturn] L st h := den_eq (b := k95_49) rfl L st h
theorem D95_54 (L : xL) (st : xS) (h : xH) : den 95 54 L st h = xB xcall (den 95) [.inl (.aload 3), .inl (.getfield 162), .inr .ireturn] L st h := den_eq (b := k95_54) rfl L st h
theorem D95_59 (L : xL) (st : xS) (h : xH) : den 95 59 L st h = xB xcall (den 95) [.inl (.aload 3), .inl (.getfield 163), .inr .ireturn] L st h := den_eq (b := k95_59) rfl L st h
theorem D95_64 (L : xL) (st : xS) (h : xH) : den 95 64 L st h = xB xcall (den 95) [.inl (.aload 3), .inl (.getfield 164), .inr .ireturn] L st h := den_eq (b := k95_64) rfl L st h
theorem D95_69 (L : xL) (st : xS) (h : xH) : den 95 69 L st h = xB xcall (den 95) [.inl (.aload 0), .inl (.getfield 258), .inl (.getfield 65), .inl (.iload 1), .inl .ishr, .inl (.iconst 1), .inl .iand, .inr .ireturn] L st h := den_eq (b := k95_69) rfl L st h
theorem N95 (h : xH) (a0 : Nat) (a1 : Int32) (a2 : Int32) (ho : xobj h a0 8 = true) : xcall 95 [.ref a0, .int a1, .int a2] h = den 95 0 [some (.ref a0), some (.int a1), some (.int a2), none] [] h := if_pos ho
theorem D96_0 (L : xL) (st : xS) (h : xH) : den 96 0 L st h = xB xcall (den 96) [.inl (.lload 1), .inl (.lstore 4), .inl (.iconst 0), .inl (.istore 6), xto 6] L st h := den_eq (b := k96_0) rfl L st h
theorem D96_6 (L : xL) (st : xS) (h : xH) : den 96 6 L st h = xB xcall (den 96) [.inl (.iload 6), .inl (.iconst 5), .inr (.if_icmp .gt 38), .inl (.sipush 31), .inl (.lload 4), .inl .lmul, .inl (.aload 0), .inl (.getfield 256), .inl (.iload 3), .inl (.iload 6), .inr (.invokeinterface 54 3), .inl .i2l, .inl .ladd, .inl (.lstore 4), .inl (.iinc 6 1), .inr (.goto 6)] L st h := den_eq (b := k96_6) rfl L st h
theorem D96_38 (L : xL) (st : xS) (h : xH) : den 96 38 L st h = xB xcall (den 96) [.inl (.iconst 0), .inl (.istore 6), xto 41] L st h := den_eq (b := k96_38) rfl L st h
theorem D96_41 (L : xL) (st : xS) (h : xH) : den 96 41 L st h = xB xcall (den 96) [.inl (.iload 6), .inl (.iconst 8), .inr (.if_icmp .ge 79), .inl (.sipush 31), .inl (.lload 4), .inl .lmul, .inl (.aload 0), .inl (.getfield 256), .inl (.getfield 193), .inl (.iload 3), .inl .aaload, .inl (.getfield 36), .inl (.iload 6), .inl .iaload, .inl .i2l, .inl .ladd, .inl (.lstore 4), .inl (.iinc 6 1), .inr (.goto 41)] L st h := den_eq (b := k96_41) rfl L st h
theorem D96_79 (L : xL) (st : xS) (h : xH) : den 96 79 L st h = xB xcall (den 96) [.inl (.lload 4), .inr .lreturn] L st h := den_eq (b := k96_79) rfl L st h
theorem N96 (h : xH) (a0 : Nat) (a1 : Int64) (a2 : Int32) (ho : xobj h a0 8 = true) : xcall 96 [.ref a0, .long a1, .int a2] h = den 96 0 [some (.ref a0), some (.long a1), none, some (.int a2), none, none, none] [] h := if_pos ho
theorem D97_0 (L : xL) (st : xS) (h : xH) : den 97 0 L st h = xB xcall (den 97) [.inl (.sipush 31), .inl (.lload 1), .inl .lmul, .inl (.aload 0), .inl (.getfield 256), .inl (.getfield 198), .inl .i2l, .inl .ladd, .inl (.lstore 3), .inl (.iconst 0), .inl (.istore 5), xto 18] L st h := den_eq (b := k97_0) rfl L st h
theorem D97_18 (L : xL) (st : xS) (h : xH) : den 97 18 L st h = xB xcall (den 97) [.inl (.iload 5), .inl (.aload 0), .inl (.getfield 256), .inl (.getfield 198), .inr (.if_icmp .ge 80), .inl (.iconst 0), .inl (.istore 6), xto 33] L st h := den_eq (b := k97_18) rfl L st h
theorem D97_33 (L : xL) (st : xS) (h : xH) : den 97 33 L st h = xB xcall (den 97) [.inl (.iload 6), .inl (.aload 0), .inl (.getfield 256), .inl (.getfield 192), .inr (.if_icmp .ge 74), .inl (.sipush 31), .inl (.lload 3), .inl .lmul, .inl (.aload 0), .inl (.getfield 256), .inl (.getfield 199), .inl (.iload 5), .inl .iaload, .inl (.iload 6), .inr (.invokeinterface 98 2), .inl .i2l, .inl .ladd, .inl (.lstore 3), .inl (.iinc 6 1), .inr (.goto 33)] L st h := den_eq (b := k97_33) rfl L st h
theorem D97_74 (L : xL) (st : xS) (h : xH) : den 97 74 L st h = xB xcall (den 97) [.inl (.iinc 5 1), .inr (.goto 18)] L st h := den_eq (b := k97_74) rfl L st h
theorem D97_80 (L : xL) (st : xS) (h : xH) : den 97 80 L st h = xB xcall (den 97) [.inl (.lload 3), .inr .lreturn] L st h := den_eq (b := k97_80) rfl L st h
theorem N97 (h : xH) (a0 : Nat) (a1 : Int64) (ho : xobj h a0 8 = true) : xcall 97 [.ref a0, .long a1] h = den 97 0 [some (.ref a0), some (.long a1), none, none, none, none, none] [] h := if_pos ho
theorem D98_0 (L : xL) (st : xS) (h : xH) : den 98 0 L st h = xB xcall (den 98) [.inl (.iload 0), .inl (.iconst 3), .inl (.iconst 3), .inl (.iload 1), .inl .isub, .inl .imul, .inl .ishr, .inl (.iconst 7), .inl .iand, .inr .ireturn] L st h := den_eq (b := k98_0) rfl L st h
theorem N98 (h : xH) (a0 : Int32) (a1 : Int32) : xcall 98 [.int a0, .int a1] h = den 98 0 [some (.int a0), some (.int a1)] [] h := if_pos rfl
theorem D99_0 (L : xL) (st : xS) (h : xH) : den 99 0 L st h = xB xcall (den 99) [.inl (.iload 0), .inr (.ifCond .lt 19), .inl (.iload 0), .inl (.iload 1), .inr (.if_icmp .gt 19), .inl (.iload 1), .inl (.iconst 8), .inr (.if_icmp .ge 19), .inl (.iconst 1), .inr (.goto 20)] L st h := den_eq (b := k99_0) rfl L st h
theorem D99_19 (L : xL) (st : xS) (h : xH) : den 99 19 L st h = xB xcall (den 99) [.inl (.iconst 0), xto 20] L st h := den_eq (b := k99_19) rfl L st h
theorem D99_20 (L : xL) (st : xS) (h : xH) : den 99 20 L st h = xB xcall (den 99) [.inr .areturn] L st h := den_eq (b := k99_20) rfl L st h
theorem N99 (h : xH) (a0 : Int32) (a1 : Int32) : xcall 99 [.int a0, .int a1] h = den 99 0 [some (.int a0), some (.int a1)] [] h := if_pos rfl
theorem D100_0 (L : xL) (st : xS) (h : xH) : den 100 0 L st h = xB xcall (den 100) [.inl (.iload 1), .inl (.iload 2), .inr (.invokeinterface 99 2), .inr (.ifCond .ne 11), .inl (.iconst (-2)), .inr .ireturn] L st h := den_eq (b := k100_0) rfl L st h
theorem D100_11 (L : xL) (st : xS) (h : xH) : den 100 11 L st h = xB xcall (den 100) [.inl (.aload 0), .inl (.getfield 256), .inl (.getfield 192), .inl (.iconst 4), .inr (.if_icmp .ne 27), .inl (.iconst (-4)), .inr (.goto 36)] L st h := den_eq (b := k100_11) rfl L st h
theorem D100_27 (L : xL) (st : xS) (h : xH) : den 100 27 L st h = xB xcall (den 100) [.inl (.aload 0), .inl (.getfield 256), .inl (.iload 1), .inl (.iload 2), .inr (.invokeinterface 48 3), xto 36] L st h := den_eq (b := k100_27) rfl L st h
theorem D100_36 (L : xL) (st : xS) (h : xH) : den 100 36 L st h = xB xcall (den 100) [.inr .ireturn] L st h := den_eq (b := k100_36) rfl L st h
theorem N100 (h : xH) (a0 : Nat) (a1 : Int32) (a2 : Int32) (ho : xobj h a0 8 = true) : xcall 100 [.ref a0, .int a1, .int a2] h = den 100 0 [some (.ref a0), some (.int a1), some (.int a2)] [] h := if_pos ho
theorem D101_0 (L : xL) (st : xS) (h : xH) : den 101 0 L st h = xB xcall (den 101) [.inl (.aload 0), .inl (.getfield 256), .inl (.iload 1), .inr (.invokeinterface 45 2), .inr (.ifCond .eq 19), .inl (.iload 2), .inl (.iload 3), .inr (.invokeinterface 99 2), .inr (.ifCond .ne 22), xto 19] L st h := den_eq (b := k101_0) rfl L st h
theorem D101_19 (L : xL) (st : xS) (h : xH) : den 101 19 L st h = xB xcall (den 101) [.inl (.iconst (-2)), .inr .ireturn] L st h := den_eq (b := k101_19) rfl L st h
theorem D101_22 (L : xL) (st : xS) (h : xH) : den 101 22 L st h = xB xcall (den 101) [.inl (.aload 0), .inl (.getfield 256), .inl (.getfield 193), .inl (.iload 1), .inl .aaload, .inl (.iload 2), .inl (.putfield 32), .inl (.aload 0), .inl (.getfield 256), .inl (.getfield 193), .inl (.iload 1), .inl .aaload, .inl (.iload 3), .inl (.putfield 33), .inl (.aload 0), .inl (.getfield 256), .inr (.invokeinterface 51 1), .inl (.iload 3), .inl (.iload 2), .inl .isub, .inl (.iconst 1), .inl .iadd, .inr .ireturn] L st h := den_eq (b := k101_22) rfl L st h
theorem N101 (h : xH) (a0 : Nat) (a1 : Int32) (a2 : Int32) (a3 : Int32) (ho : xobj h a0 8 = true) : xcall 101 [.ref a0, .int a1, .int a2, .int a3] h = den 101 0 [some (.ref a0), some (.int a1), some (.int a2), some (.int a3)] [] h := if_pos ho
theorem D102_0 (L : xL) (st : xS) (h : xH) : den 102 0 L st h = xB xcall (den 102) [.inl (.aload 0), .inl (.getfield 256), .inl (.iload 1), .inr (.invokeinterface 45 2), .inr (.ifCond .eq 31), .inl (.iload 2), .inr (.ifCond .lt 31), .inl (.iload 2), .inl (.iconst 8), .inr (.if_icmp .ge 31), .inl (.iload 3), .inr (.ifCond .lt 31), .inl (.iload 3), .inl (.iconst 9), .inr (.if_icmp .le 34), xto 31] L st h := den_eq (b := k102_0) rfl L st h
theorem D102_31 (L : xL) (st : xS) (h : xH) : den 102 31 L st h = xB xcall (den 102) [.inl (.iconst (-2)), .inr .ireturn] L st h := den_eq (b := k102_31) rfl L st h
theorem D102_34 (L : xL) (st : xS) (h : xH) : den 102 34 L st h = xB xcall (den 102) [.inl (.aload 0), .inl (.getfield 256), .inl (.getfield 193), .inl (.iload 1), .inl .aaload, .inl (.getfield 36), .inl (.iload 2), .inl .iaload, .inl (.istore 4), .inl (.aload 0), .inl (.getfield 256), .inl (.getfield 193), .inl (.iload 1), .inl .aaload, .inl (.getfield 36), .inl (.iload 2), .inl (.iload 3), .inl .iastore, .inl (.iload 4), .inr .ireturn] L st h := den_eq (b := k102_34) rfl L st h
theorem N102 (h : xH) (a0 : Nat) (a1 : Int32) (a2 : Int32) (a3 : Int32) (ho : xobj h a0 8 = true) : xcall 102 [.ref a0, .int a1, .int a2, .int a3] h = den 102 0 [some (.ref a0), some (.int a1), some (.int a2), some (.int a3), none] [] h := if_pos ho
theorem D103_0 (L : xL) (st : xS) (h : xH) : den 103 0 L st h = xB xcall (den 103) [.inl (.aload 0), .inl (.getfield 256), .inl (.iload 1), .inr (.invokeinterface 45 2), .inr (.ifCond .eq 20), .inl (.iload 2), .inr (.ifCond .lt 20), .inl (.iload 2), .inl (.iconst 1), .inr (.if_icmp .le 23), xto 20] L st h := den_eq (b := k103_0) rfl L st h
theorem D103_20 (L : xL) (st : xS) (h : xH) : den 103 20 L st h = xB xcall (den 103) [.inl (.iconst (-2)), .inr .ireturn] L st h := den_eq (b := k103_20) rfl L st h
theorem D103_23 (L : xL) (st : xS) (h : xH) : den 103 23 L st h = xB xcall (den 103) [.inl (.aload 0), .inl (.getfield 256), .inl (.getfield 193), .inl (.iload 1), .inl .aaload, .inl (.getfield 34), .inl (.istore 3), .inl (.aload 0), .inl (.getfield 256), .inl (.getfield 193), .inl (.iload 1), .inl .aaload, .inl (.iload 2), .inl (.putfield 34), .inl (.aload 0), .inl (.getfield 256), .inl (.getfield 193), .inl (.iload 1), .inl .aaload, .inl (.iconst 0), .inl (.putfield 35), .inl (.iload 3), .inr .ireturn] L st h := den_eq (b := k103_23) rfl L st h
theorem N103 (h : xH) (a0 : Nat) (a1 : Int32) (a2 : Int32) (ho : xobj h a0 8 = true) : xcall 103 [.ref a0, .int a1, .int a2] h = den 103 0 [some (.ref a0), some (.int a1), some (.int a2), none] [] h := if_pos ho
theorem D104_0 (L : xL) (st : xS) (h : xH) : den 104 0 L st h = xB xcall (den 104) [.inl (.aload 0), .inl (.getfield 256), .inl (.iload 1), .inr (.invokeinterface 45 2), .inr (.ifCond .eq 26), .inl (.iload 2), .inr (.ifCond .lt 26), .inl (.iload 2), .inl (.aload 0), .inl (.getfield 256), .inl (.getfield 192), .inr (.if_icmp .lt 29), xto 26] L st h := den_eq (b := k104_0) rfl L st h
theorem D104_26 (L : xL) (st : xS) (h : xH) : den 104 26 L st h = xB xcall (den 104) [.inl (.iconst (-2)), .inr .ireturn] L st h := den_eq (b := k104_26) rfl L st h
theorem D104_29 (L : xL) (st : xS) (h : xH) : den 104 29 L st h = xB xcall (den 104) [.inl (.aload 0), .inl (.getfield 256), .inl (.iload 1), .inl (.iload 2), .inr (.invokeinterface 53 3), .inr .ireturn] L st h := den_eq (b := k104_29) rfl L st h
theorem N104 (h : xH) (a0 : Nat) (a1 : Int32) (a2 : Int32) (ho : xobj h a0 8 = true) : xcall 104 [.ref a0, .int a1, .int a2] h = den 104 0 [some (.ref a0), some (.int a1), some (.int a2)] [] h := if_pos ho
theorem D105_0 (L : xL) (st : xS) (h : xH) : den 105 0 L st h = xB xcall (den 105) [.inl (.aload 0), .inl (.getfield 256), .inl (.iload 1), .inl (.iload 2), .inl (.iload 3), .inl (.iload 4), .inr (.invokeinterface 47 5), .inr (.ifCond .eq 28), .inl (.iload 5), .inl (.iconst (-1)), .inr (.if_icmp .lt 28), .inl (.iload 5), .inl (.iconst 10), .inr (.if_icmp .lt 31), xto 28] L st h := den_eq (b := k105_0) rfl L st h
theorem D105_28 (L : xL) (st : xS) (h : xH) : den 105 28 L st h = xB xcall (den 105) [.inl (.iconst (-2)), .inr .ireturn] L st h := den_eq (b := k105_28) rfl L st h
theorem D105_31 (L : xL) (st : xS) (h : xH) : den 105 31 L st h = xB xcall (den 105) [.inl (.aload 0), .inl (.getfield 256), .inl (.getfield 195), .inl (.iconst 8), .inr (.if_icmp .ne 48), .inl (.iconst (-4)), .inr (.goto 62)] L st h := den_eq (b := k105_31) rfl L st h
theorem D105_48 (L : xL) (st : xS) (h : xH) : den 105 48 L st h = xB xcall (den 105) [.inl (.aload 0), .inl (.getfield 256), .inl (.iload 1), .inl (.iload 2), .inl (.iload 3), .inl (.iload 4), .inl (.iload 5), .inr (.invokeinterface 49 6), xto 62] L st h := den_eq (b := k105_48) rfl L st h
theorem D105_62 (L : xL) (st : xS) (h : xH) : den 105 62 L st h = xB xcall (den 105) [.inr .ireturn] L st h := den_eq (b := k105_62) rfl L st h
theorem N105 (h : xH) (a0 : Nat) (a1 : Int32) (a2 : Int32) (a3 : Int32) (a4 : Int32) (a5 : Int32) (ho : xobj h a0 8 = true) : xcall 105 [.ref a0, .int a1, .int a2, .int a3, .int a4, .int a5] h = den 105 0 [some (.ref a0), some (.int a1), some (.int a2), some (.int a3), some (.int a4), some (.int a5)] [] h := if_pos ho
theorem D106_0 (L : xL) (st : xS) (h : xH) : den 106 0 L st h = xB xcall (den 106) [.inl (.aload 0), .inl (.getfield 256), .inl (.iload 1), .inr (.invokeinterface 46 2), .inr (.ifCond .eq 22), .inl (.aload 0), .inl (.getfield 256), .inl (.iload 1), .inr (.invokeinterface 50 2), .inr (.goto 24)] L st h := den_eq (b := k106_0) rfl L st h
theorem D106_22 (L : xL) (st : xS) (h : xH) : den 106 22 L st h = xB xcall (den 106) [.inl (.iconst (-2)), xto 24] L st h := den_eq (b := k106_22) rfl L st h
theorem D106_24 (L : xL) (st : xS) (h : xH) : den 106 24 L st h = xB xcall (den 106) [.inr .ireturn] L st h := den_eq (b := k106_24) rfl L st h
theorem N106 (h : xH) (a0 : Nat) (a1 : Int32) (ho : xobj h a0 8 = true) : xcall 106 [.ref a0, .int a1] h = den 106 0 [some (.ref a0), some (.int a1)] [] h := if_pos ho
theorem D107_0 (L : xL) (st : xS) (h : xH) : den 107 0 L st h = xB xcall (den 107) [.inl (.iload 1), .inr (.ifCond .lt 20), .inl (.iload 1), .inl (.iconst 1), .inr (.if_icmp .gt 20), .inl (.iload 2), .inr (.ifCond .lt 20), .inl (.iload 2), .inl (.iconst 999999), .inr (.if_icmp .le 23), xto 20] L st h := den_eq (b := k107_0) rfl L st h
theorem D107_20 (L : xL) (st : xS) (h : xH) : den 107 20 L st h = xB xcall (den 107) [.inl (.iconst (-2)), .inr .ireturn] L st h := den_eq (b := k107_20) rfl L st h
theorem D107_23 (L : xL) (st : xS) (h : xH) : den 107 23 L st h = xB xcall (den 107) [.inl (.aload 0), .inl (.getfield 258), .inl (.aload 0), .inl (.getfield 256), .inr (.invokeinterface 14 2), .inl (.aload 0), .inl (.getfield 258), .inl (.getfield 64), .inr (.invokeinterface 31 1), .inr (.ifCond .eq 50), .inl (.iconst (-3)), .inr .ireturn] L st h := den_eq (b := k107_23) rfl L st h
theorem D107_50 (L : xL) (st : xS) (h : xH) : den 107 50 L st h = xB xcall (den 107) [.inl (.aload 0), .inl (.getfield 259), .inl (.aload 0), .inl (.getfield 258), .inl (.getfield 64), .inl (.iload 2), .inr (.invokeinterface 1 3), .inl (.iload 1), .inr (.ifCond .ne 83), .inl (.aload 0), .inl (.getfield 259), .inl (.aload 0), .inl (.getfield 256), .inr (.invokeinterface 2 2), .inr (.goto 94)] L st h := den_eq (b := k107_50) rfl L st h
theorem D107_83 (L : xL) (st : xS) (h : xH) : den 107 83 L st h = xB xcall (den 107) [.inl (.aload 0), .inl (.getfield 259), .inl (.aload 0), .inl (.getfield 256), .inr (.invokeinterface 4 2), xto 94] L st h := den_eq (b := k107_83) rfl L st h
theorem D107_94 (L : xL) (st : xS) (h : xH) : den 107 94 L st h = xB xcall (den 107) [.inl (.istore 3), .inl (.aload 0), .inl (.getfield 256), .inl (.iload 3), .inr (.invokeinterface 55 2), .inl (.aload 0), .inl (.getfield 258), .inl (.getfield 64), .inl (.iload 3), .inr (.invokeinterface 37 2), .inr .ireturn] L st h := den_eq (b := k107_94) rfl L st h
theorem N107 (h : xH) (a0 : Nat) (a1 : Int32) (a2 : Int32) (ho : xobj h a0 8 = true) : xcall 107 [.ref a0, .int a1, .int a2] h = den 107 0 [some (.ref a0), some (.int a1), some (.int a2), none] [] h := if_pos ho
theorem D108_0 (L : xL) (st : xS) (h : xH) : den 108 0 L st h = xB xcall (den 108) [.inl (.aload 0), .inl (.getfield 261), .inl (.getfield 227), .inl (.astore 1), .inl (.aload 0), .inl (.getfield 261), .inl (.getfield 226), .inr (.lookupswitch 201 #[(100, 192), (101, 201), (102, 112), (103, 201), (104, 123), (105, 201), (106, 201), (107, 201), (108, 201), (109, 201), (110, 201), (111, 201), (112, 201), (113, 201), (114, 175), (115, 141), (116, 201), (117, 201), (118, 201), (119, 161), (120, 184)])] L st h := den_eq (b := k108_0) rfl L st h
theorem D108_112 (L : xL) (st : xS) (h : xH) : den 108 112 L st h = xB xcall (den 108) [.inl (.aload 0), .inl (.aload 1), .inl (.iconst 0), .inl .iaload, .inl (.aload 1), .inl (.iconst 1), .inl .iaload, .inr (.invokeinterface 100 3), .inr .ireturn] L st h := den_eq (b := k108_112) rfl L st h
theorem D108_123 (L : xL) (st : xS) (h : xH) : den 108 123 L st h = xB xcall (den 108) [.inl (.aload 0), .inl (.aload 1), .inl (.iconst 0), .inl .iaload, .inl (.aload 1), .inl (.iconst 1), .inl .iaload, .inl (.aload 1), .inl (.iconst 2), .inl .iaload, .inl (.aload 1), .inl (.iconst 3), .inl .iaload, .inl (.iconst (-1)), .inr (.invokeinterface 105 6), .inr .ireturn] L st h := den_eq (b := k108_123) rfl L st h
theorem D108_141 (L : xL) (st : xS) (h : xH) : den 108 141 L st h = xB xcall (den 108) [.inl (.aload 0), .inl (.aload 1), .inl (.iconst 1), .inl .iaload, .inl (.aload 1), .inl (.iconst 2), .inl .iaload, .inl (.aload 1), .inl (.iconst 3), .inl .iaload, .inl (.aload 1), .inl (.iconst 4), .inl .iaload, .inl (.aload 1), .inl (.iconst 0), .inl .iaload, .inr (.invokeinterface 105 6), .inr .ireturn] L st h := den_eq (b := k108_141) rfl L st h
theorem D108_161 (L : xL) (st : xS) (h : xH) : den 108 161 L st h = xB xcall (den 108) [.inl (.aload 0), .inl (.aload 1), .inl (.iconst 0), .inl .iaload, .inl (.aload 1), .inl (.iconst 1), .inl .iaload, .inl (.aload 1), .inl (.iconst 2), .inl .iaload, .inr (.invokeinterface 102 4), .inr .ireturn] L st h := den_eq (b := k108_161) rfl L st h
theorem D108_175 (L : xL) (st : xS) (h : xH) : den 108 175 L st h = xB xcall (den 108) [.inl (.aload 0), .inl (.aload 1), .inl (.iconst 0), .inl .iaload, .inl (.iconst 1), .inr (.invokeinterface 103 3), .inr .ireturn] L st h := den_eq (b := k108_175) rfl L st h
theorem D108_184 (L : xL) (st : xS) (h : xH) : den 108 184 L st h = xB xcall (den 108) [.inl (.aload 0), .inl (.aload 1), .inl (.iconst 0), .inl .iaload, .inr (.invokeinterface 106 2), .inr .ireturn] L st h := den_eq (b := k108_184) rfl L st h
theorem D108_192 (L : xL) (st : xS) (h : xH) : den 108 192 L st h = xB xcall (den 108) [.inl (.aload 0), .inl (.iconst 0), .inl (.aload 1), .inl (.iconst 0), .inl .iaload, .inr (.invokeinterface 107 3), .inr .ireturn] L st h := den_eq (b := k108_192) rfl L st h
theorem D108_201 (L : xL) (st : xS) (h : xH) : den 108 201 L st h = xB xcall (den 108) [.inl (.aload 0), .inl (.iconst 1), .inl (.aload 1), .inl (.iconst 0), .inl .iaload, .inr (.invokeinterface 107 3), .inr .ireturn] L st h := den_eq (b := k108_201) rfl L st h
theorem N108 (h : xH) (a0 : Nat) (ho : xobj h a0 8 = true) : xcall 108 [.ref a0] h = den 108 0 [some (.ref a0), none] [] h := if_pos ho
theorem D109_0 (L : xL) (st : xS) (h : xH) : den 109 0 L st h = xB xcall (den 109) [.inl (.aload 0), .inl .pop, .inl (.aload 0), .inl (.iconst 115), .inl (.newarray .int), .inl (.putfield 288), .inl (.aload 0), .inl (.iconst 115), .inl (.newarray .int), .inl (.putfield 289), .inl (.aload 0), .inl (.iconst 460), .inl (.newarray .int), .inl (.putfield 290), .inl (.aload 0), .inl (.iconst 3), .inl (.newarray .int), .inl (.putfield 292), .inl (.aload 0), .inl (.iconst 4096), .inl (.newarray .int), .inl (.putfield 294), .inl (.aload 0), .inl (.iconst 256), .inl (.newarray .boolean), .inl (.putfield 297), .inl (.aload 0), .inl (.iconst 8), .inl (.newarray .int), .inl (.putfield 298), .inl (.aload 0), .inl (.iconst 4096), .inl (.newarray .boolean), .inl (.putfield 300), .inl (.aload 0), .inl (.iconst 150), .inl (.newarray .int), .inl (.putfield 302), .inl (.aload 0), .inl (.iconst 60), .inl (.newarray .int), .inl (.putfield 307), .inl (.aload 0), .inl (.iconst 300), .inl (.newarray .int), .inl (.putfield 308), .inl (.aload 0), .inl (.iconst 0), .inl (.putfield 291), .inr .return_] L st h := den_eq (b := k109_0) rfl L st h
theorem N109 (h : xH) (a0 : Nat) : xcall 109 [.ref a0] h = den 109 0 [some (.ref a0)] [] h := if_pos rfl
theorem D110_0 (L : xL) (st : xS) (h : xH) : den 110 0 L st h = xB xcall (den 110) [.inl (.iload 0), .inl (.iload 1), .inr (.if_icmp .lt 14), .inl (.iload 0), .inl (.iload 2), .inr (.if_icmp .gt 14), .inl (.iconst 1), .inr (.goto 15)] L st h := den_eq (b := k110_0) rfl L st h
theorem D110_14 (L : xL) (st : xS) (h : xH) : den 110 14 L st h = xB xcall (den 110) [.inl (.iconst 0), xto 15] L st h := den_eq (b := k110_14) rfl L st h
theorem D110_15 (L : xL) (st : xS) (h : xH) : den 110 15 L st h = xB xcall (den 110) [.inr .areturn] L st h := den_eq (b := k110_15) rfl L st h
theorem N110 (h : xH) (a0 : Int32) (a1 : Int32) (a2 : Int32) : xcall 110 [.int a0, .int a1, .int a2] h = den 110 0 [some (.int a0), some (.int a1), some (.int a2)] [] h := if_pos rfl
theorem D111_0 (L : xL) (st : xS) (h : xH) : den 111 0 L st h = xB xcall (den 111) [.inl (.iload 0), .inl (.iload 1), .inl .ishr, .inl (.iconst 1), .inl .iand, .inl (.iconst 1), .inr (.if_icmp .ne 13), .inl (.iconst 1), .inr (.goto 14)] L st h := den_eq (b := k111_0) rfl L st h
theorem D111_13 (L : xL) (st : xS) (h : xH) : den 111 13 L st h = xB xcall (den 111) [.inl (.iconst 0), xto 14] L st h := den_eq (b := k111_13) rfl L st h
theorem D111_14 (L : xL) (st : xS) (h : xH) : den 111 14 L st h = xB xcall (den 111) [.inr .areturn] L st h := den_eq (b := k111_14) rfl L st h
theorem N111 (h : xH) (a0 : Int32) (a1 : Int32) : xcall 111 [.int a0, .int a1] h = den 111 0 [some (.int a0), some (.int a1)] [] h := if_pos rfl
theorem D112_0 (L : xL) (st : xS) (h : xH) : den 112 0 L st h = xB xcall (den 112) [.inl (.aload 0), .inl (.getfield 292), .inl (.iconst (-2)), .inl (.iload 1), .inl .isub, .inl .dup2, .inl .iaload, .inl (.iconst 1), .inl .iadd, .inl .iastore, .inl (.iload 1), .inr .ireturn] L st h := den_eq (b := k112_0) rfl L st h
theorem N112 (h : xH) (a0 : Nat) (a1 : Int32) (ho : xobj h a0 9 = true) : xcall 112 [.ref a0, .int a1] h = den 112 0 [some (.ref a0), some (.int a1)] [] h := if_pos ho
theorem D113_0 (L : xL) (st : xS) (h : xH) : den 113 0 L st h = xB xcall (den 113) [.inl (.iconst 0), .inl (.istore 1), xto 2] L st h := den_eq (b := k113_0) rfl L st h
theorem D113_2 (L : xL) (st : xS) (h : xH) : den 113 2 L st h = xB xcall (den 113) [.inl (.iload 1), .inl (.iconst 115), .inr (.if_icmp .ge 26), .inl (.aload 0), .inl (.getfield 289), .inl (.iload 1), .inl (.aload 0), .inl (.getfield 288), .inl (.iload 1), .inl .iaload, .inl .iastore, .inl (.iinc 1 1), .inr (.goto 2)] L st h := den_eq (b := k113_2) rfl L st h
theorem D113_26 (L : xL) (st : xS) (h : xH) : den 113 26 L st h = xB xcall (den 113) [.inr .return_] L st h := den_eq (b := k113_26) rfl L st h
theorem N113 (h : xH) (a0 : Nat) (ho : xobj h a0 9 = true) : xcall 113 [.ref a0] h = den 113 0 [some (.ref a0), none] [] h := if_pos ho
theorem D114_0 (L : xL) (st : xS) (h : xH) : den 114 0 L st h = xB xcall (den 114) [.inl (.aload 0), .inl (.getfield 291), .inl (.iconst 4), .inr (.if_icmp .ne 48), .inl (.iconst 0), .inl (.istore 1), xto 10] L st h := den_eq (b := k114_0) rfl L st h
theorem D114_10 (L : xL) (st : xS) (h : xH) : den 114 10 L st h = xB xcall (den 114) [.inl (.iload 1), .inl (.iconst 345), .inr (.if_icmp .ge 38), .inl (.aload 0), .inl (.getfield 290), .inl (.iload 1), .inl (.aload 0), .inl (.getfield 290), .inl (.iload 1), .inl (.iconst 115), .inl .iadd, .inl .iaload, .inl .iastore, .inl (.iinc 1 1), .inr (.goto 10)] L st h := den_eq (b := k114_10) rfl L st h
theorem D114_38 (L : xL) (st : xS) (h : xH) : den 114 38 L st h = xB xcall (den 114) [.inl (.aload 0), .inl .dup, .inl (.getfield 291), .inl (.iconst 1), .inl .isub, .inl (.putfield 291), xto 48] L st h := den_eq (b := k114_38) rfl L st h
theorem D114_48 (L : xL) (st : xS) (h : xH) : den 114 48 L st h = xB xcall (den 114) [.inl (.iconst 0), .inl (.istore 1), xto 50] L st h := den_eq (b := k114_48) rfl L st h
theorem D114_50 (L : xL) (st : xS) (h : xH) : den 114 50 L st h = xB xcall (den 114) [.inl (.iload 1), .inl (.iconst 115), .inr (.if_icmp .ge 82), .inl (.aload 0), .inl (.getfield 290), .inl (.iconst 115), .inl (.aload 0), .inl (.getfield 291), .inl .imul, .inl (.iload 1), .inl .iadd, .inl (.aload 0), .inl (.getfield 289), .inl (.iload 1), .inl .iaload, .inl .iastore, .inl (.iinc 1 1), .inr (.goto 50)] L st h := den_eq (b := k114_50) rfl L st h
theorem D114_82 (L : xL) (st : xS) (h : xH) : den 114 82 L st h = xB xcall (den 114) [.inl (.aload 0), .inl .dup, .inl (.getfield 291), .inl (.iconst 1), .inl .iadd, .inl (.putfield 291), .inr .return_] L st h := den_eq (b := k114_82) rfl L st h
theorem N114 (h : xH) (a0 : Nat) (ho : xobj h a0 9 = true) : xcall 114 [.ref a0] h = den 114 0 [some (.ref a0), none] [] h := if_pos ho
theorem D115_0 (L : xL) (st : xS) (h : xH) : den 115 0 L st h = xB xcall (den 115) [.inl (.iload 1), .inr (.ifCond .ge 10), .inl (.aload 0), .inl (.iload 1), .inr (.invokeinterface 112 2), .inr .ireturn] L st h := den_eq (b := k115_0) rfl L st h
theorem D115_10 (L : xL) (st : xS) (h : xH) : den 115 10 L st h = xB xcall (den 115) [.inl (.aload 0), .inr (.invokeinterface 114 1), .inl (.iload 1), .inr .ireturn] L st h := den_eq (b := k115_10) rfl L st h
theorem N115 (h : xH) (a0 : Nat) (a1 : Int32) (ho : xobj h a0 9 = true) : xcall 115 [.ref a0, .int a1] h = den 115 0 [some (.ref a0), some (.int a1)] [] h := if_pos ho
theorem D116_0 (L : xL) (st : xS) (h : xH) : den 116 0 L st h = xB xcall (den 116) [.inl (.aload 0), .inl (.getfield 291), .inr (.ifCond .ne 14), .inl (.aload 0), .inl (.iconst (-3)), .inr (.invokeinterface 112 2), .inr .ireturn] L st h := den_eq (b := k116_0) rfl L st h
theorem D116_14 (L : xL) (st : xS) (h : xH) : den 116 14 L st h = xB xcall (den 116) [.inl (.aload 0), .inl .dup, .inl (.getfield 291), .inl (.iconst 1), .inl .isub, .inl (.putfield 291), .inl (.iconst 0), .inl (.istore 1), xto 26] L st h := den_eq (b := k116_14) rfl L st h
theorem D116_26 (L : xL) (st : xS) (h : xH) : den 116 26 L st h = xB xcall (den 116) [.inl (.iload 1), .inl (.iconst 115), .inr (.if_icmp .ge 58), .inl (.aload 0), .inl (.getfield 288), .inl (.iload 1), .inl (.aload 0), .inl (.getfield 290), .inl (.iconst 115), .inl (.aload 0), .inl (.getfield 291), .inl .imul, .inl (.iload 1), .inl .iadd, .inl .iaload, .inl .iastore, .inl (.iinc 1 1), .inr (.goto 26)] L st h := den_eq (b := k116_26) rfl L st h
theorem D116_58 (L : xL) (st : xS) (h : xH) : den 116 58 L st h = xB xcall (den 116) [.inl (.aload 0), .inl (.iconst 0), .inl (.putfield 293), .inl (.aload 0), .inl (.getfield 291), .inr .ireturn] L st h := den_eq (b := k116_58) rfl L st h
theorem N116 (h : xH) (a0 : Nat) (ho : xobj h a0 9 = true) : xcall 116 [.ref a0] h = den 116 0 [some (.ref a0), none] [] h := if_pos ho
theorem D117_0 (L : xL) (st : xS) (h : xH) : den 117 0 L st h = xB xcall (den 117) [.inl (.aload 0), .inl (.getfield 288), .inl (.iconst 0), .inl .iaload, .inr .ireturn] L st h := den_eq (b := k117_0) rfl L st h
theorem N117 (h : xH) (a0 : Nat) (ho : xobj h a0 9 = true) : xcall 117 [.ref a0] h = den 117 0 [some (.ref a0)] [] h := if_pos ho
theorem D118_0 (L : xL) (st : xS) (h : xH) : den 118 0 L st h = xB xcall (den 118) [.inl (.iload 1), .inl (.iconst 0), .inl (.aload 0), .inl (.getfield 288), .inl (.iconst 0), .inl .iaload, .inl (.iconst 1), .inl .isub, .inr (.invokeinterface 110 3), .inr .areturn] L st h := den_eq (b := k118_0) rfl L st h
theorem N118 (h : xH) (a0 : Nat) (a1 : Int32) (ho : xobj h a0 9 = true) : xcall 118 [.ref a0, .int a1] h = den 118 0 [some (.ref a0), some (.int a1)] [] h := if_pos ho
theorem D119_0 (L : xL) (st : xS) (h : xH) : den 119 0 L st h = xB xcall (den 119) [.inl (.iload 1), .inl (.iconst 0), .inl (.aload 0), .inl (.getfield 288), .inl (.iconst 57), .inl .iaload, .inl (.iconst 1), .inl .isub, .inr (.invokeinterface 110 3), .inr .areturn] L st h := den_eq (b := k119_0) rfl L st h
theorem N119 (h : xH) (a0 : Nat) (a1 : Int32) (ho : xobj h a0 9 = true) : xcall 119 [.ref a0, .int a1] h = den 119 0 [some (.ref a0), some (.int a1)] [] h := if_pos ho
theorem D120_0 (L : xL) (st : xS) (h : xH) : den 120 0 L st h = xB xcall (den 120) [.inl (.aload 0), .inl (.getfield 288), .inl (.iconst 1), .inl (.iconst 13), .inl (.iload 1), .inl .imul, .inl .iadd, .inl (.iload 2), .inl .iadd, .inl .iaload, .inr .ireturn] L st h := den_eq (b := k120_0) rfl L st h
theorem N120 (h : xH) (a0 : Nat) (a1 : Int32) (a2 : Int32) (ho : xobj h a0 9 = true) : xcall 120 [.ref a0, .int a1, .int a2] h = den 120 0 [some (.ref a0), some (.int a1), some (.int a2)] [] h := if_pos ho
theorem D121_0 (L : xL) (st : xS) (h : xH) : den 121 0 L st h = xB xcall (den 121) [.inl (.aload 0), .inl (.getfield 288), .inl (.iconst 1), .inl (.iconst 13), .inl (.iload 1), .inl .imul, .inl .iadd, .inl (.iload 2), .inl .iadd, .inl (.iload 3), .inl .iastore, .inr .return_] L st h := den_eq (b := k121_0) rfl L st h
theorem N121 (h : xH) (a0 : Nat) (a1 : Int32) (a2 : Int32) (a3 : Int32) (ho : xobj h a0 9 = true) : xcall 121 [.ref a0, .int a1, .int a2, .int a3] h = den 121 0 [some (.ref a0), some (.int a1), some (.int a2), some (.int a3)] [] h := if_pos ho
theorem D122_0 (L : xL) (st : xS) (h : xH) : den 122 0 L st h = xB xcall (den 122) [.inl (.aload 0), .inl (.getfield 288), .inl (.iconst 58), .inl (.iconst 5), .inl (.iload 1), .inl .imul, .inl .iadd, .inl (.iload 2), .inl .iadd, .inl .iaload, .inr .ireturn] L st h := den_eq (b := k122_0) rfl L st h
theorem N122 (h : xH) (a0 : Nat) (a1 : Int32) (a2 : Int32) (ho : xobj h a0 9 = true) : xcall 122 [.ref a0, .int a1, .int a2] h = den 122 0 [some (.ref a0), some (.int a1), some (.int a2)] [] h := if_pos ho
theorem D123_0 (L : xL) (st : xS) (h : xH) : den 123 0 L st h = xB xcall (den 123) [.inl (.iconst 0), .inl (.istore 1), xto 2] L st h := den_eq (b := k123_0) rfl L st h
theorem D123_2 (L : xL) (st : xS) (h : xH) : den 123 2 L st h = xB xcall (den 123) [.inl (.iload 1), .inl (.iconst 4), .inr (.if_icmp .ge 27), .inl (.aload 0), .inl (.iload 1), .inl (.iconst 3), .inl (.iconst 0), .inr (.invokeinterface 121 4), .inl (.aload 0), .inl (.iload 1), .inl (.iconst 4), .inl (.iconst (-1)), .inr (.invokeinterface 121 4), .inl (.iinc 1 1), .inr (.goto 2)] L st h := den_eq (b := k123_2) rfl L st h
theorem D123_27 (L : xL) (st : xS) (h : xH) : den 123 27 L st h = xB xcall (den 123) [.inl (.aload 0), .inl (.getfield 288), .inl (.iconst 98), .inl (.iconst 0), .inl .iastore, .inl (.aload 0), .inl (.iconst 0), .inl (.putfield 293), .inr .return_] L st h := den_eq (b := k123_27) rfl L st h
theorem N123 (h : xH) (a0 : Nat) (ho : xobj h a0 9 = true) : xcall 123 [.ref a0] h = den 123 0 [some (.ref a0), none] [] h := if_pos ho
theorem D124_0 (L : xL) (st : xS) (h : xH) : den 124 0 L st h = xB xcall (den 124) [.inl (.iload 1), .inl (.iconst 0), .inl (.iconst 7), .inr (.invokeinterface 110 3), .inr (.ifCond .eq 20), .inl (.iload 2), .inl (.iload 1), .inl (.iconst 7), .inr (.invokeinterface 110 3), .inr (.ifCond .ne 23), xto 20] L st h := den_eq (b := k124_0) rfl L st h
theorem D124_20 (L : xL) (st : xS) (h : xH) : den 124 20 L st h = xB xcall (den 124) [.inl (.iconst (-2)), .inr .ireturn] L st h := den_eq (b := k124_20) rfl L st h
theorem D124_23 (L : xL) (st : xS) (h : xH) : den 124 23 L st h = xB xcall (den 124) [.inl (.aload 0), .inl (.getfield 288), .inl (.iconst 0), .inl .iaload, .inl (.iconst 4), .inr (.if_icmp .ne 36), .inl (.iconst (-4)), .inr .ireturn] L st h := den_eq (b := k124_23) rfl L st h
theorem D124_36 (L : xL) (st : xS) (h : xH) : den 124 36 L st h = xB xcall (den 124) [.inl (.aload 0), .inl (.getfield 288), .inl (.iconst 0), .inl .iaload, .inl (.istore 3), .inl (.aload 0), .inl (.getfield 288), .inl (.iconst 0), .inl .dup2, .inl .iaload, .inl (.iconst 1), .inl .iadd, .inl .iastore, .inl (.aload 0), .inl (.iload 3), .inl (.iconst 0), .inl (.iload 1), .inr (.invokeinterface 121 4), .inl (.aload 0), .inl (.iload 3), .inl (.iconst 1), .inl (.iload 2), .inr (.invokeinterface 121 4), .inl (.aload 0), .inl (.iload 3), .inl (.iconst 2), .inl (.iconst 0), .inr (.invokeinterface 121 4), .inl (.iconst 0), .inl (.istore 4), xto 77] L st h := den_eq (b := k124_36) rfl L st h
theorem D124_77 (L : xL) (st : xS) (h : xH) : den 124 77 L st h = xB xcall (den 124) [.inl (.iload 4), .inl (.iconst 8), .inr (.if_icmp .ge 100), .inl (.aload 0), .inl (.iload 3), .inl (.iconst 5), .inl (.iload 4), .inl .iadd, .inl (.iconst 1), .inr (.invokeinterface 121 4), .inl (.iinc 4 1), .inr (.goto 77)] L st h := den_eq (b := k124_77) rfl L st h
theorem D124_100 (L : xL) (st : xS) (h : xH) : den 124 100 L st h = xB xcall (den 124) [.inl (.aload 0), .inl (.getfield 288), .inl (.iconst 53), .inl (.iload 3), .inl .iadd, .inl (.iload 3), .inl .iastore, .inl (.aload 0), .inr (.invokeinterface 123 1), .inl (.iload 3), .inr .ireturn] L st h := den_eq (b := k124_100) rfl L st h
theorem N124 (h : xH) (a0 : Nat) (a1 : Int32) (a2 : Int32) (ho : xobj h a0 9 = true) : xcall 124 [.ref a0, .int a1, .int a2] h = den 124 0 [some (.ref a0), some (.int a1), some (.int a2), none, none] [] h := if_pos ho
theorem D125_0 (L : xL) (st : xS) (h : xH) : den 125 0 L st h = xB xcall (den 125) [.inl (.aload 0), .inl (.iload 1), .inr (.invokeinterface 118 2), .inr (.ifCond .eq 28), .inl (.iload 2), .inl (.iconst 0), .inl (.iconst 7), .inr (.invokeinterface 110 3), .inr (.ifCond .eq 28), .inl (.iload 3), .inl (.iload 2), .inl (.iconst 7), .inr (.invokeinterface 110 3), .inr (.ifCond .ne 31), xto 28] L st h := den_eq (b := k125_0) rfl L st h
theorem D125_28 (L : xL) (st : xS) (h : xH) : den 125 28 L st h = xB xcall (den 125) [.inl (.iconst (-2)), .inr .ireturn] L st h := den_eq (b := k125_28) rfl L st h
theorem D125_31 (L : xL) (st : xS) (h : xH) : den 125 31 L st h = xB xcall (den 125) [.inl (.aload 0), .inl (.iload 1), .inl (.iconst 0), .inl (.iload 2), .inr (.invokeinterface 121 4), .inl (.aload 0), .inl (.iload 1), .inl (.iconst 1), .inl (.iload 3), .inr (.invokeinterface 121 4), .inl (.aload 0), .inr (.invokeinterface 123 1), .inl (.iload 3), .inl (.iload 2), .inl .isub, .inl (.iconst 1), .inl .iadd, .inr .ireturn] L st h := den_eq (b := k125_31) rfl L st h
theorem N125 (h : xH) (a0 : Nat) (a1 : Int32) (a2 : Int32) (a3 : Int32) (ho : xobj h a0 9 = true) : xcall 125 [.ref a0, .int a1, .int a2, .int a3] h = den 125 0 [some (.ref a0), some (.int a1), some (.int a2), some (.int a3)] [] h := if_pos ho
theorem D126_0 (L : xL) (st : xS) (h : xH) : den 126 0 L st h = xB xcall (den 126) [.inl (.aload 0), .inl (.iload 1), .inr (.invokeinterface 118 2), .inr (.ifCond .eq 28), .inl (.iload 2), .inl (.iconst 0), .inl (.iconst 7), .inr (.invokeinterface 110 3), .inr (.ifCond .eq 28), .inl (.iload 3), .inl (.iconst 0), .inl (.iconst 9), .inr (.invokeinterface 110 3), .inr (.ifCond .ne 31), xto 28] L st h := den_eq (b := k126_0) rfl L st h
theorem D126_28 (L : xL) (st : xS) (h : xH) : den 126 28 L st h = xB xcall (den 126) [.inl (.iconst (-2)), .inr .ireturn] L st h := den_eq (b := k126_28) rfl L st h
theorem D126_31 (L : xL) (st : xS) (h : xH) : den 126 31 L st h = xB xcall (den 126) [.inl (.aload 0), .inl (.iload 1), .inl (.iconst 5), .inl (.iload 2), .inl .iadd, .inr (.invokeinterface 120 3), .inl (.istore 4), .inl (.aload 0), .inl (.iload 1), .inl (.iconst 5), .inl (.iload 2), .inl .iadd, .inl (.iload 3), .inr (.invokeinterface 121 4), .inl (.iload 4), .inr .ireturn] L st h := den_eq (b := k126_31) rfl L st h
theorem N126 (h : xH) (a0 : Nat) (a1 : Int32) (a2 : Int32) (a3 : Int32) (ho : xobj h a0 9 = true) : xcall 126 [.ref a0, .int a1, .int a2, .int a3] h = den 126 0 [some (.ref a0), some (.int a1), some (.int a2), some (.int a3), none] [] h := if_pos ho
theorem D127_0 (L : xL) (st : xS) (h : xH) : den 127 0 L st h = xB xcall (den 127) [.inl (.aload 0), .inl (.iload 1), .inr (.invokeinterface 118 2), .inr (.ifCond .eq 17), .inl (.iload 2), .inl (.iconst 0), .inl (.iconst 1), .inr (.invokeinterface 110 3), .inr (.ifCond .ne 20), xto 17] L st h := den_eq (b := k127_0) rfl L st h
theorem D127_17 (L : xL) (st : xS) (h : xH) : den 127 17 L st h = xB xcall (den 127) [.inl (.iconst (-2)), .inr .ireturn] L st h := den_eq (b := k127_17) rfl L st h
theorem D127_20 (L : xL) (st : xS) (h : xH) : den 127 20 L st h = xB xcall (den 127) [.inl (.aload 0), .inl (.iload 1), .inl (.iconst 2), .inr (.invokeinterface 120 3), .inl (.istore 3), .inl (.aload 0), .inl (.iload 1), .inl (.iconst 2), .inl (.iload 2), .inr (.invokeinterface 121 4), .inl (.aload 0), .inl (.iload 1), .inl (.iconst 3), .inl (.iconst 0), .inr (.invokeinterface 121 4), .inl (.iload 3), .inr .ireturn] L st h := den_eq (b := k127_20) rfl L st h
theorem N127 (h : xH) (a0 : Nat) (a1 : Int32) (a2 : Int32) (ho : xobj h a0 9 = true) : xcall 127 [.ref a0, .int a1, .int a2] h = den 127 0 [some (.ref a0), some (.int a1), some (.int a2), none] [] h := if_pos ho
theorem D128_0 (L : xL) (st : xS) (h : xH) : den 128 0 L st h = xB xcall (den 128) [.inl (.iload 0), .inr (.ifCond .ne 9), .inl (.iconst 14), .inr (.goto 41)] L st h := den_eq (b := k128_0) rfl L st h
theorem D128_9 (L : xL) (st : xS) (h : xH) : den 128 9 L st h = xB xcall (den 128) [.inl (.iload 0), .inl (.iconst 3), .inr (.if_icmp .ne 20), .inl (.iconst 255), .inr (.goto 41)] L st h := den_eq (b := k128_9) rfl L st h
theorem D128_20 (L : xL) (st : xS) (h : xH) : den 128 20 L st h = xB xcall (den 128) [.inl (.iload 0), .inl (.iconst 4), .inr (.if_icmp .ne 30), .inl (.iconst 63), .inr (.goto 41)] L st h := den_eq (b := k128_20) rfl L st h
theorem D128_30 (L : xL) (st : xS) (h : xH) : den 128 30 L st h = xB xcall (den 128) [.inl (.iload 0), .inl (.iconst 5), .inr (.if_icmp .ne 40), .inl (.iconst 7), .inr (.goto 41)] L st h := den_eq (b := k128_30) rfl L st h
theorem D128_40 (L : xL) (st : xS) (h : xH) : den 128 40 L st h = xB xcall (den 128) [.inl (.iconst 0), xto 41] L st h := den_eq (b := k128_40) rfl L st h
theorem D128_41 (L : xL) (st : xS) (h : xH) : den 128 41 L st h = xB xcall (den 128) [.inr .ireturn] L st h := den_eq (b := k128_41) rfl L st h
theorem N128 (h : xH) (a0 : Int32) : xcall 128 [.int a0] h = den 128 0 [some (.int a0)] [] h := if_pos rfl
theorem D129_0 (L : xL) (st : xS) (h : xH) : den 129 0 L st h = xB xcall (den 129) [.inl (.iload 1), .inl (.iconst 0), .inl (.iconst 5), .inr (.invokeinterface 110 3), .inr (.ifCond .eq 72), .inl (.aload 0), .inl (.iload 2), .inr (.invokeinterface 118 2), .inr (.ifCond .eq 72), .inl (.aload 0), .inl (.iload 3), .inr (.invokeinterface 118 2), .inr (.ifCond .eq 72), .inl (.iload 2), .inl (.iload 3), .inr (.if_icmp .ne 34), .inl (.iconst 1), .inr (.goto 35)] L st h := den_eq (b := k129_0) rfl L st h
theorem D129_34 (L : xL) (st : xS) (h : xH) : den 129 34 L st h = xB xcall (den 129) [.inl (.iconst 0), xto 35] L st h := den_eq (b := k129_34) rfl L st h
theorem D129_35 (L : xL) (st : xS) (h : xH) : den 129 35 L st h = xB xcall (den 129) [.inl (.iload 1), .inl (.iconst 3), .inr (.if_icmp .ne 44), .inl (.iconst 1), .inr (.goto 45)] L st h := den_eq (b := k129_35) rfl L st h
theorem D129_44 (L : xL) (st : xS) (h : xH) : den 129 44 L st h = xB xcall (den 129) [.inl (.iconst 0), xto 45] L st h := den_eq (b := k129_44) rfl L st h
theorem D129_45 (L : xL) (st : xS) (h : xH) : den 129 45 L st h = xB xcall (den 129) [.inr (.if_icmp .ne 72), .inl (.iload 4), .inl (.iconst 0), .inl (.iload 1), .inr (.invokeinterface 128 1), .inr (.invokeinterface 110 3), .inr (.ifCond .eq 72), .inl (.iload 5), .inl (.iconst (-1)), .inl (.iconst 9), .inr (.invokeinterface 110 3), .inr (.ifCond .ne 75), xto 72] L st h := den_eq (b := k129_45) rfl L st h
theorem D129_72 (L : xL) (st : xS) (h : xH) : den 129 72 L st h = xB xcall (den 129) [.inl (.iconst (-2)), .inr .ireturn] L st h := den_eq (b := k129_72) rfl L st h
theorem D129_75 (L : xL) (st : xS) (h : xH) : den 129 75 L st h = xB xcall (den 129) [.inl (.aload 0), .inl (.getfield 288), .inl (.iconst 57), .inl .iaload, .inl (.iconst 8), .inr (.if_icmp .ne 90), .inl (.iconst (-4)), .inr .ireturn] L st h := den_eq (b := k129_75) rfl L st h
theorem D129_90 (L : xL) (st : xS) (h : xH) : den 129 90 L st h = xB xcall (den 129) [.inl (.iconst 58), .inl (.iconst 5), .inl (.aload 0), .inl (.getfield 288), .inl (.iconst 57), .inl .iaload, .inl .imul, .inl .iadd, .inl (.istore 6), .inl (.aload 0), .inl (.getfield 288), .inl (.iload 6), .inl (.iload 1), .inl .iastore, .inl (.aload 0), .inl (.getfield 288), .inl (.iload 6), .inl (.iconst 1), .inl .iadd, .inl (.iload 2), .inl .iastore, .inl (.aload 0), .inl (.getfield 288), .inl (.iload 6), .inl (.iconst 2), .inl .iadd, .inl (.iload 3), .inl .iastore, .inl (.aload 0), .inl (.getfield 288), .inl (.iload 6), .inl (.iconst 3), .inl .iadd, .inl (.iload 4), .inl .iastore, .inl (.aload 0), .inl (.getfield 288), .inl (.iload 6), .inl (.iconst 4), .inl .iadd, .inl (.iload 5), .inl .iastore, .inl (.aload 0), .inl (.getfield 288), .inl (.iconst 57), .inl .dup2, .inl .iaload, .inl (.iconst 1), .inl .iadd, .inl .iastore, .inl (.aload 0), .inr (.invokeinterface 123 1), .inl (.aload 0), .inl (.getfield 288), .inl (.iconst 57), .inl .iaload, .inl (.iconst 1), .inl .isub, .inr .ireturn] L st h := den_eq (b := k129_90) rfl L st h
theorem N129 (h : xH) (a0 : Nat) (a1 : Int32) (a2 : Int32) (a3 : Int32) (a4 : Int32) (a5 : Int32) (ho : xobj h a0 9 = true) : xcall 129 [.ref a0, .int a1, .int a2, .int a3, .int a4, .int a5] h = den 129 0 [some (.ref a0), some (.int a1), some (.int a2), some (.int a3), some (.int a4), some (.int a5), none] [] h := if_pos ho
theorem D130_0 (L : xL) (st : xS) (h : xH) : den 130 0 L st h = xB xcall (den 130) [.inl (.aload 0), .inl (.iload 1), .inr (.invokeinterface 119 2), .inr (.ifCond .ne 11), .inl (.iconst (-2)), .inr .ireturn] L st h := den_eq (b := k130_0) rfl L st h
theorem D130_11 (L : xL) (st : xS) (h : xH) : den 130 11 L st h = xB xcall (den 130) [.inl (.iconst 58), .inl (.iconst 5), .inl (.iload 1), .inl .imul, .inl .iadd, .inl (.istore 2), xto 18] L st h := den_eq (b := k130_11) rfl L st h
theorem D130_18 (L : xL) (st : xS) (h : xH) : den 130 18 L st h = xB xcall (den 130) [.inl (.iload 2), .inl (.iconst 93), .inr (.if_icmp .ge 44), .inl (.aload 0), .inl (.getfield 288), .inl (.iload 2), .inl (.aload 0), .inl (.getfield 288), .inl (.iload 2), .inl (.iconst 5), .inl .iadd, .inl .iaload, .inl .iastore, .inl (.iinc 2 1), .inr (.goto 18)] L st h := den_eq (b := k130_18) rfl L st h
theorem D130_44 (L : xL) (st : xS) (h : xH) : den 130 44 L st h = xB xcall (den 130) [.inl (.aload 0), .inl (.getfield 288), .inl (.iconst 57), .inl .dup2, .inl .iaload, .inl (.iconst 1), .inl .isub, .inl .iastore, .inl (.aload 0), .inr (.invokeinterface 123 1), .inl (.aload 0), .inl (.getfield 288), .inl (.iconst 57), .inl .iaload, .inr .ireturn] L st h := den_eq (b := k130_44) rfl L st h
theorem N130 (h : xH) (a0 : Nat) (a1 : Int32) (ho : xobj h a0 9 = true) : xcall 130 [.ref a0, .int a1] h = den 130 0 [some (.ref a0), some (.int a1), none] [] h := if_pos ho
theorem D131_0 (L : xL) (st : xS) (h : xH) : den 131 0 L st h = xB xcall (den 131) [.inl (.aload 0), .inr (.invokeinterface 113 1), .inl (.aload 0), .inl (.aload 0), .inl (.iload 1), .inl (.iload 2), .inr (.invokeinterface 124 3), .inr (.invokeinterface 115 2), .inr .ireturn] L st h := den_eq (b := k131_0) rfl L st h
theorem N131 (h : xH) (a0 : Nat) (a1 : Int32) (a2 : Int32) (ho : xobj h a0 9 = true) : xcall 131 [.ref a0, .int a1, .int a2] h = den 131 0 [some (.ref a0), some (.int a1), some (.int a2)] [] h := if_pos ho
theorem D132_0 (L : xL) (st : xS) (h : xH) : den 132 0 L st h = xB xcall (den 132) [.inl (.aload 0), .inr (.invokeinterface 113 1), .inl (.aload 0), .inl (.aload 0), .inl (.iload 1), .inl (.iload 2), .inl (.iload 3), .inr (.invokeinterface 125 4), .inr (.invokeinterface 115 2), .inr .ireturn] L st h := den_eq (b := k132_0) rfl L st h
theorem N132 (h : xH) (a0 : Nat) (a1 : Int32) (a2 : Int32) (a3 : Int32) (ho : xobj h a0 9 = true) : xcall 132 [.ref a0, .int a1, .int a2, .int a3] h = den 132 0 [some (.ref a0), some (.int a1), some (.int a2), some (.int a3)] [] h := if_pos ho
theorem D133_0 (L : xL) (st : xS) (h : xH) : den 133 0 L st h = xB xcall (den 133) [.inl (.aload 0), .inr (.invokeinterface 113 1), .inl (.aload 0), .inl (.aload 0), .inl (.iload 1), .inl (.iload 2), .inl (.iload 3), .inr (.invokeinterface 126 4), .inr (.invokeinterface 115 2), .inr .ireturn] L st h := den_eq (b := k133_0) rfl L st h
theorem N133 (h : xH) (a0 : Nat) (a1 : Int32) (a2 : Int32) (a3 : Int32) (ho : xobj h a0 9 = true) : xcall 133 [.ref a0, .int a1, .int a2, .int a3] h = den 133 0 [some (.ref a0), some (.int a1), some (.int a2), some (.int a3)] [] h := if_pos ho
theorem D134_0 (L : xL) (st : xS) (h : xH) : den 134 0 L st h = xB xcall (den 134) [.inl (.aload 0), .inr (.invokeinterface 113 1), .inl (.aload 0), .inl (.aload 0), .inl (.iload 1), .inl (.iload 2), .inr (.invokeinterface 127 3), .inr (.invokeinterface 115 2), .inr .ireturn] L st h := den_eq (b := k134_0) rfl L st h
theorem N134 (h : xH) (a0 : Nat) (a1 : Int32) (a2 : Int32) (ho : xobj h a0 9 = true) : xcall 134 [.ref a0, .int a1, .int a2] h = den 134 0 [some (.ref a0), some (.int a1), some (.int a2)] [] h := if_pos ho
theorem D135_0 (L : xL) (st : xS) (h : xH) : den 135 0 L st h = xB xcall (den 135) [.inl (.iconst 0), .inl (.istore 2), xto 2] L st h := den_eq (b := k135_0) rfl L st h
theorem D135_2 (L : xL) (st : xS) (h : xH) : den 135 2 L st h = xB xcall (den 135) [.inl (.aload 0), .inl (.getfield 288), .inl (.iconst 53), .inl (.iload 2), .inl .iadd, .inl .iaload, .inl (.iload 1), .inr (.if_icmp .eq 21), .inl (.iinc 2 1), .inr (.goto 2)] L st h := den_eq (b := k135_2) rfl L st h
theorem D135_21 (L : xL) (st : xS) (h : xH) : den 135 21 L st h = xB xcall (den 135) [.inl (.iload 2), .inr .ireturn] L st h := den_eq (b := k135_21) rfl L st h
theorem N135 (h : xH) (a0 : Nat) (a1 : Int32) (ho : xobj h a0 9 = true) : xcall 135 [.ref a0, .int a1] h = den 135 0 [some (.ref a0), some (.int a1), none] [] h := if_pos ho
theorem D136_0 (L : xL) (st : xS) (h : xH) : den 136 0 L st h = xB xcall (den 136) [.inl (.aload 0), .inl (.iload 1), .inr (.invokeinterface 118 2), .inr (.ifCond .eq 16), .inl (.aload 0), .inl (.iload 2), .inr (.invokeinterface 118 2), .inr (.ifCond .ne 23), xto 16] L st h := den_eq (b := k136_0) rfl L st h
theorem D136_16 (L : xL) (st : xS) (h : xH) : den 136 16 L st h = xB xcall (den 136) [.inl (.aload 0), .inl (.iconst (-2)), .inr (.invokeinterface 112 2), .inr .ireturn] L st h := den_eq (b := k136_16) rfl L st h
theorem D136_23 (L : xL) (st : xS) (h : xH) : den 136 23 L st h = xB xcall (den 136) [.inl (.aload 0), .inr (.invokeinterface 113 1), .inl (.aload 0), .inl (.iload 1), .inr (.invokeinterface 135 2), .inl (.istore 3), .inl (.iload 3), .inl (.istore 4), xto 36] L st h := den_eq (b := k136_23) rfl L st h
theorem D136_36 (L : xL) (st : xS) (h : xH) : den 136 36 L st h = xB xcall (den 136) [.inl (.iload 4), .inl (.iload 2), .inr (.if_icmp .ge 70), .inl (.aload 0), .inl (.getfield 288), .inl (.iconst 53), .inl (.iload 4), .inl .iadd, .inl (.aload 0), .inl (.getfield 288), .inl (.iconst 53), .inl (.iload 4), .inl .iadd, .inl (.iconst 1), .inl .iadd, .inl .iaload, .inl .iastore, .inl (.iinc 4 1), .inr (.goto 36)] L st h := den_eq (b := k136_36) rfl L st h
theorem D136_70 (L : xL) (st : xS) (h : xH) : den 136 70 L st h = xB xcall (den 136) [.inl (.iload 3), .inl (.istore 4), xto 73] L st h := den_eq (b := k136_70) rfl L st h
theorem D136_73 (L : xL) (st : xS) (h : xH) : den 136 73 L st h = xB xcall (den 136) [.inl (.iload 4), .inl (.iload 2), .inr (.if_icmp .le 107), .inl (.aload 0), .inl (.getfield 288), .inl (.iconst 53), .inl (.iload 4), .inl .iadd, .inl (.aload 0), .inl (.getfield 288), .inl (.iconst 53), .inl (.iload 4), .inl .iadd, .inl (.iconst 1), .inl .isub, .inl .iaload, .inl .iastore, .inl (.iinc 4 (-1)), .inr (.goto 73)] L st h := den_eq (b := k136_73) rfl L st h
theorem D136_107 (L : xL) (st : xS) (h : xH) : den 136 107 L st h = xB xcall (den 136) [.inl (.aload 0), .inl (.getfield 288), .inl (.iconst 53), .inl (.iload 2), .inl .iadd, .inl (.iload 1), .inl .iastore, .inl (.aload 0), .inr (.invokeinterface 114 1), .inl (.iload 3), .inr .ireturn] L st h := den_eq (b := k136_107) rfl L st h
theorem N136 (h : xH) (a0 : Nat) (a1 : Int32) (a2 : Int32) (ho : xobj h a0 9 = true) : xcall 136 [.ref a0, .int a1, .int a2] h = den 136 0 [some (.ref a0), some (.int a1), some (.int a2), none, none] [] h := if_pos ho
theorem D137_0 (L : xL) (st : xS) (h : xH) : den 137 0 L st h = xB xcall (den 137) [.inl (.aload 0), .inr (.invokeinterface 113 1), .inl (.aload 0), .inl (.aload 0), .inl (.iload 1), .inl (.iload 2), .inl (.iload 3), .inl (.iload 4), .inl (.iload 5), .inr (.invokeinterface 129 6), .inr (.invokeinterface 115 2), .inr .ireturn] L st h := den_eq (b := k137_0) rfl L st h
theorem N137 (h : xH) (a0 : Nat) (a1 : Int32) (a2 : Int32) (a3 : Int32) (a4 : Int32) (a5 : Int32) (ho : xobj h a0 9 = true) : xcall 137 [.ref a0, .int a1, .int a2, .int a3, .int a4, .int a5] h = den 137 0 [some (.ref a0), some (.int a1), some (.int a2), some (.int a3), some (.int a4), some (.int a5)] [] h := if_pos ho
theorem D138_0 (L : xL) (st : xS) (h : xH) : den 138 0 L st h = xB xcall (den 138) [.inl (.aload 0), .inr (.invokeinterface 113 1), .inl (.aload 0), .inl (.aload 0), .inl (.iload 1), .inr (.invokeinterface 130 2), .inr (.invokeinterface 115 2), .inr .ireturn] L st h := den_eq (b := k138_0) rfl L st h
theorem N138 (h : xH) (a0 : Nat) (a1 : Int32) (ho : xobj h a0 9 = true) : xcall 138 [.ref a0, .int a1] h = den 138 0 [some (.ref a0), some (.int a1)] [] h := if_pos ho
theorem D139_0 (L : xL) (st : xS) (h : xH) : den 139 0 L st h = xB xcall (den 139) [.inl (.iload 1), .inl (.iconst 9), .inl (.iconst 3), .inl (.iload 2), .inl .imul, .inl .isub, .inl .ishr, .inl (.iconst 7), .inl .iand, .inr .ireturn] L st h := den_eq (b := k139_0) rfl L st h
theorem N139 (h : xH) (a0 : Nat) (a1 : Int32) (a2 : Int32) (ho : xobj h a0 9 = true) : xcall 139 [.ref a0, .int a1, .int a2] h = den 139 0 [some (.ref a0), some (.int a1), some (.int a2)] [] h := if_pos ho
theorem D140_0 (L : xL) (st : xS) (h : xH) : den 140 0 L st h = xB xcall (den 140) [.inl (.aload 0), .inl (.iload 1), .inl (.aload 0), .inl (.iload 2), .inl (.iconst 1), .inr (.invokeinterface 122 3), .inr (.invokeinterface 139 3), .inl (.istore 3), .inl (.aload 0), .inl (.iload 1), .inl (.aload 0), .inl (.iload 2), .inl (.iconst 2), .inr (.invokeinterface 122 3), .inr (.invokeinterface 139 3), .inl (.istore 4), .inl (.aload 0), .inl (.iload 2), .inl (.iconst 3), .inr (.invokeinterface 122 3), .inl (.istore 5), .inl (.aload 0), .inl (.iload 2), .inl (.iconst 0), .inr (.invokeinterface 122 3), .inr (.lookupswitch 143 #[(0, 72), (1, 87), (2, 99), (3, 111), (4, 118)])] L st h := den_eq (b := k140_0) rfl L st h
theorem D140_72 (L : xL) (st : xS) (h : xH) : den 140 72 L st h = xB xcall (den 140) [.inl (.iload 3), .inl (.iload 4), .inl .iadd, .inl (.iload 5), .inr (.if_icmp .ne 85), .inl (.iconst 1), .inr (.goto 86)] L st h := den_eq (b := k140_72) rfl L st h
theorem D140_85 (L : xL) (st : xS) (h : xH) : den 140 85 L st h = xB xcall (den 140) [.inl (.iconst 0), xto 86] L st h := den_eq (b := k140_85) rfl L st h
theorem D140_86 (L : xL) (st : xS) (h : xH) : den 140 86 L st h = xB xcall (den 140) [.inr .areturn] L st h := den_eq (b := k140_86) rfl L st h
theorem D140_87 (L : xL) (st : xS) (h : xH) : den 140 87 L st h = xB xcall (den 140) [.inl (.iload 3), .inl (.iload 4), .inr (.if_icmp .ge 97), .inl (.iconst 1), .inr (.goto 98)] L st h := den_eq (b := k140_87) rfl L st h
theorem D140_97 (L : xL) (st : xS) (h : xH) : den 140 97 L st h = xB xcall (den 140) [.inl (.iconst 0), xto 98] L st h := den_eq (b := k140_97) rfl L st h
theorem D140_98 (L : xL) (st : xS) (h : xH) : den 140 98 L st h = xB xcall (den 140) [.inr .areturn] L st h := den_eq (b := k140_98) rfl L st h
theorem D140_99 (L : xL) (st : xS) (h : xH) : den 140 99 L st h = xB xcall (den 140) [.inl (.iload 3), .inl (.iload 4), .inr (.if_icmp .eq 109), .inl (.iconst 1), .inr (.goto 110)] L st h := den_eq (b := k140_99) rfl L st h
theorem D140_109 (L : xL) (st : xS) (h : xH) : den 140 109 L st h = xB xcall (den 140) [.inl (.iconst 0), xto 110] L st h := den_eq (b := k140_109) rfl L st h
theorem D140_110 (L : xL) (st : xS) (h : xH) : den 140 110 L st h = xB xcall (den 140) [.inr .areturn] L st h := den_eq (b := k140_110) rfl L st h
theorem D140_111 (L : xL) (st : xS) (h : xH) : den 140 111 L st h = xB xcall (den 140) [.inl (.iload 5), .inl (.iload 3), .inr (.invokeinterface 111 2), .inr .areturn] L st h := den_eq (b := k140_111) rfl L st h
theorem D140_118 (L : xL) (st : xS) (h : xH) : den 140 118 L st h = xB xcall (den 140) [.inl (.iload 3), .inl (.iload 5), .inl (.iconst 8), .inl .idiv, .inr (.if_icmp .ne 137), .inl (.iload 4), .inl (.iload 5), .inl (.iconst 8), .inl .irem, .inr (.if_icmp .ne 141), xto 137] L st h := den_eq (b := k140_118) rfl L st h
theorem D140_137 (L : xL) (st : xS) (h : xH) : den 140 137 L st h = xB xcall (den 140) [.inl (.iconst 1), .inr (.goto 142)] L st h := den_eq (b := k140_137) rfl L st h
theorem D140_141 (L : xL) (st : xS) (h : xH) : den 140 141 L st h = xB xcall (den 140) [.inl (.iconst 0), xto 142] L st h := den_eq (b := k140_141) rfl L st h
theorem D140_142 (L : xL) (st : xS) (h : xH) : den 140 142 L st h = xB xcall (den 140) [.inr .areturn] L st h := den_eq (b := k140_142) rfl L st h
theorem D140_143 (L : xL) (st : xS) (h : xH) : den 140 143 L st h = xB xcall (den 140) [.inl (.iload 3), .inl (.iload 4), .inl .isub, .inl (.iload 5), .inr (.if_icmp .ge 161), .inl (.iload 4), .inl (.iload 3), .inl .isub, .inl (.iload 5), .inr (.if_icmp .lt 165), xto 161] L st h := den_eq (b := k140_143) rfl L st h
theorem D140_161 (L : xL) (st : xS) (h : xH) : den 140 161 L st h = xB xcall (den 140) [.inl (.iconst 1), .inr (.goto 166)] L st h := den_eq (b := k140_161) rfl L st h
theorem D140_165 (L : xL) (st : xS) (h : xH) : den 140 165 L st h = xB xcall (den 140) [.inl (.iconst 0), xto 166] L st h := den_eq (b := k140_165) rfl L st h
theorem D140_166 (L : xL) (st : xS) (h : xH) : den 140 166 L st h = xB xcall (den 140) [.inr .areturn] L st h := den_eq (b := k140_166) rfl L st h
theorem N140 (h : xH) (a0 : Nat) (a1 : Int32) (a2 : Int32) (ho : xobj h a0 9 = true) : xcall 140 [.ref a0, .int a1, .int a2] h = den 140 0 [some (.ref a0), some (.int a1), some (.int a2), none, none, none] [] h := if_pos ho
theorem D141_0 (L : xL) (st : xS) (h : xH) : den 141 0 L st h = xB xcall (den 141) [.inl (.iconst 0), .inl (.istore 2), .inl (.iconst 0), .inl (.istore 3), xto 4] L st h := den_eq (b := k141_0) rfl L st h
theorem D141_4 (L : xL) (st : xS) (h : xH) : den 141 4 L st h = xB xcall (den 141) [.inl (.iload 3), .inl (.aload 0), .inl (.getfield 288), .inl (.iconst 57), .inl .iaload, .inr (.if_icmp .ge 40), .inl (.iload 2), .inl (.aload 0), .inl (.iload 1), .inl (.iload 3), .inr (.invokeinterface 140 3), .inr (.ifCond .eq 31), .inl (.iconst 1), .inl (.iload 3), .inl .ishl, .inr (.goto 32)] L st h := den_eq (b := k141_4) rfl L st h
theorem D141_31 (L : xL) (st : xS) (h : xH) : den 141 31 L st h = xB xcall (den 141) [.inl (.iconst 0), xto 32] L st h := den_eq (b := k141_31) rfl L st h
theorem D141_32 (L : xL) (st : xS) (h : xH) : den 141 32 L st h = xB xcall (den 141) [.inl .ior, .inl (.istore 2), .inl (.iinc 3 1), .inr (.goto 4)] L st h := den_eq (b := k141_32) rfl L st h
theorem D141_40 (L : xL) (st : xS) (h : xH) : den 141 40 L st h = xB xcall (den 141) [.inl (.iload 2), .inr .ireturn] L st h := den_eq (b := k141_40) rfl L st h
theorem N141 (h : xH) (a0 : Nat) (a1 : Int32) (ho : xobj h a0 9 = true) : xcall 141 [.ref a0, .int a1] h = den 141 0 [some (.ref a0), some (.int a1), none, none] [] h := if_pos ho
theorem D142_0 (L : xL) (st : xS) (h : xH) : den 142 0 L st h = xB xcall (den 142) [.inl (.iconst 0), .inl (.istore 2), .inl (.iconst 0), .inl (.istore 3), xto 4] L st h := den_eq (b := k142_0) rfl L st h
theorem D142_4 (L : xL) (st : xS) (h : xH) : den 142 4 L st h = xB xcall (den 142) [.inl (.iload 3), .inl (.iconst 256), .inr (.if_icmp .ge 44), .inl (.iload 2), .inr (.ifCond .ne 44), .inl (.aload 0), .inl (.getfield 297), .inl (.iload 3), .inl .baload, .inr (.ifCond .eq 36), .inl (.iload 1), .inl (.iload 3), .inl (.iconst (-1)), .inl .ixor, .inl .iand, .inr (.ifCond .ne 36), .inl (.iconst 1), .inr (.goto 37)] L st h := den_eq (b := k142_4) rfl L st h
theorem D142_36 (L : xL) (st : xS) (h : xH) : den 142 36 L st h = xB xcall (den 142) [.inl (.iconst 0), xto 37] L st h := den_eq (b := k142_36) rfl L st h
theorem D142_37 (L : xL) (st : xS) (h : xH) : den 142 37 L st h = xB xcall (den 142) [.inl (.istore 2), .inl (.iinc 3 1), .inr (.goto 4)] L st h := den_eq (b := k142_37) rfl L st h
theorem D142_44 (L : xL) (st : xS) (h : xH) : den 142 44 L st h = xB xcall (den 142) [.inl (.iload 2), .inr .areturn] L st h := den_eq (b := k142_44) rfl L st h
theorem N142 (h : xH) (a0 : Nat) (a1 : Int32) (ho : xobj h a0 9 = true) : xcall 142 [.ref a0, .int a1] h = den 142 0 [some (.ref a0), some (.int a1), none, none] [] h := if_pos ho
theorem D143_0 (L : xL) (st : xS) (h : xH) : den 143 0 L st h = xB xcall (den 143) [.inl (.iconst 0), .inl (.istore 1), .inl (.iconst 0), .inl (.istore 2), xto 4] L st h := den_eq (b := k143_0) rfl L st h
theorem D143_4 (L : xL) (st : xS) (h : xH) : den 143 4 L st h = xB xcall (den 143) [.inl (.iload 2), .inl (.aload 0), .inr (.invokeinterface 117 1), .inr (.if_icmp .ge 34), .inl (.iload 1), .inl (.aload 0), .inl (.iload 2), .inl (.iconst 0), .inr (.invokeinterface 120 3), .inl (.iconst 9), .inl (.iconst 3), .inl (.iload 2), .inl .imul, .inl .isub, .inl .ishl, .inl .ior, .inl (.istore 1), .inl (.iinc 2 1), .inr (.goto 4)] L st h := den_eq (b := k143_4) rfl L st h
theorem D143_34 (L : xL) (st : xS) (h : xH) : den 143 34 L st h = xB xcall (den 143) [.inl (.iload 1), .inr .ireturn] L st h := den_eq (b := k143_34) rfl L st h
theorem N143 (h : xH) (a0 : Nat) (ho : xobj h a0 9 = true) : xcall 143 [.ref a0] h = den 143 0 [some (.ref a0), none, none] [] h := if_pos ho
theorem D144_0 (L : xL) (st : xS) (h : xH) : den 144 0 L st h = xB xcall (den 144) [.inl (.iload 1), .inl (.istore 2), .inl (.aload 0), .inr (.invokeinterface 117 1), .inl (.iconst 1), .inl .isub, .inl (.istore 3), xto 9] L st h := den_eq (b := k144_0) rfl L st h
theorem D144_9 (L : xL) (st : xS) (h : xH) : den 144 9 L st h = xB xcall (den 144) [.inl (.iload 3), .inr (.ifCond .lt 69), .inl (.iconst 9), .inl (.iconst 3), .inl (.iload 3), .inl .imul, .inl .isub, .inl (.istore 4), .inl (.aload 0), .inl (.iload 2), .inl (.iload 3), .inr (.invokeinterface 139 3), .inl (.aload 0), .inl (.iload 3), .inl (.iconst 1), .inr (.invokeinterface 120 3), .inr (.if_icmp .ge 43), .inl (.iload 2), .inl (.iconst 1), .inl (.iload 4), .inl .ishl, .inl .iadd, .inr .ireturn] L st h := den_eq (b := k144_9) rfl L st h
theorem D144_43 (L : xL) (st : xS) (h : xH) : den 144 43 L st h = xB xcall (den 144) [.inl (.iload 2), .inl (.iconst 7), .inl (.iload 4), .inl .ishl, .inl (.iconst (-1)), .inl .ixor, .inl .iand, .inl (.aload 0), .inl (.iload 3), .inl (.iconst 0), .inr (.invokeinterface 120 3), .inl (.iload 4), .inl .ishl, .inl .ior, .inl (.istore 2), .inl (.iinc 3 (-1)), .inr (.goto 9)] L st h := den_eq (b := k144_43) rfl L st h
theorem D144_69 (L : xL) (st : xS) (h : xH) : den 144 69 L st h = xB xcall (den 144) [.inl (.iconst (-1)), .inr .ireturn] L st h := den_eq (b := k144_69) rfl L st h
theorem N144 (h : xH) (a0 : Nat) (a1 : Int32) (ho : xobj h a0 9 = true) : xcall 144 [.ref a0, .int a1] h = den 144 0 [some (.ref a0), some (.int a1), none, none, none] [] h := if_pos ho
theorem D145_0 (L : xL) (st : xS) (h : xH) : den 145 0 L st h = xB xcall (den 145) [.inl (.iconst 0), .inl (.istore 1), .inl (.iconst 0), .inl (.istore 2), xto 4] L st h := den_eq (b := k145_0) rfl L st h
theorem D145_4 (L : xL) (st : xS) (h : xH) : den 145 4 L st h = xB xcall (den 145) [.inl (.iload 2), .inl (.aload 0), .inl (.getfield 288), .inl (.iconst 57), .inl .iaload, .inr (.if_icmp .ge 41), .inl (.iload 1), .inl (.aload 0), .inl (.iload 2), .inl (.iconst 4), .inr (.invokeinterface 122 3), .inl (.iconst (-1)), .inr (.if_icmp .ne 32), .inl (.iconst 1), .inl (.iload 2), .inl .ishl, .inr (.goto 33)] L st h := den_eq (b := k145_4) rfl L st h
theorem D145_32 (L : xL) (st : xS) (h : xH) : den 145 32 L st h = xB xcall (den 145) [.inl (.iconst 0), xto 33] L st h := den_eq (b := k145_32) rfl L st h
theorem D145_33 (L : xL) (st : xS) (h : xH) : den 145 33 L st h = xB xcall (den 145) [.inl .ior, .inl (.istore 1), .inl (.iinc 2 1), .inr (.goto 4)] L st h := den_eq (b := k145_33) rfl L st h
theorem D145_41 (L : xL) (st : xS) (h : xH) : den 145 41 L st h = xB xcall (den 145) [.inl (.iload 1), .inr .ireturn] L st h := den_eq (b := k145_41) rfl L st h
theorem N145 (h : xH) (a0 : Nat) (ho : xobj h a0 9 = true) : xcall 145 [.ref a0] h = den 145 0 [some (.ref a0), none, none] [] h := if_pos ho
theorem D146_0 (L : xL) (st : xS) (h : xH) : den 146 0 L st h = xB xcall (den 146) [.inl (.aload 0), .inl (.iconst 0), .inl (.putfield 299), .inl (.iconst 0), .inl (.istore 1), xto 7] L st h := den_eq (b := k146_0) rfl L st h
theorem D146_7 (L : xL) (st : xS) (h : xH) : den 146 7 L st h = xB xcall (den 146) [.inl (.iload 1), .inl (.iconst 10), .inr (.if_icmp .ge 68), .inl (.iconst 0), .inl (.istore 2), xto 15] L st h := den_eq (b := k146_7) rfl L st h
theorem D146_15 (L : xL) (st : xS) (h : xH) : den 146 15 L st h = xB xcall (den 146) [.inl (.iload 2), .inl (.aload 0), .inl (.getfield 288), .inl (.iconst 57), .inl .iaload, .inr (.if_icmp .ge 62), .inl (.aload 0), .inl (.iload 2), .inl (.iconst 4), .inr (.invokeinterface 122 3), .inl (.iload 1), .inr (.if_icmp .ne 56), .inl (.aload 0), .inl (.getfield 298), .inl (.aload 0), .inl (.getfield 299), .inl (.iload 2), .inl .iastore, .inl (.aload 0), .inl .dup, .inl (.getfield 299), .inl (.iconst 1), .inl .iadd, .inl (.putfield 299), xto 56] L st h := den_eq (b := k146_15) rfl L st h
theorem D146_56 (L : xL) (st : xS) (h : xH) : den 146 56 L st h = xB xcall (den 146) [.inl (.iinc 2 1), .inr (.goto 15)] L st h := den_eq (b := k146_56) rfl L st h
theorem D146_62 (L : xL) (st : xS) (h : xH) : den 146 62 L st h = xB xcall (den 146) [.inl (.iinc 1 1), .inr (.goto 7)] L st h := den_eq (b := k146_62) rfl L st h
theorem D146_68 (L : xL) (st : xS) (h : xH) : den 146 68 L st h = xB xcall (den 146) [.inl (.aload 0), .inl (.aload 0), .inr (.invokeinterface 145 1), .inl (.putfield 296), .inl (.iconst 0), .inl (.istore 1), xto 78] L st h := den_eq (b := k146_68) rfl L st h
theorem D146_78 (L : xL) (st : xS) (h : xH) : den 146 78 L st h = xB xcall (den 146) [.inl (.iload 1), .inl (.aload 0), .inl (.getfield 299), .inr (.if_icmp .ge 133), .inl (.aload 0), .inl .dup, .inl (.getfield 296), .inl (.aload 0), .inl (.aload 0), .inl (.getfield 296), .inl (.iconst 1), .inl (.aload 0), .inl (.getfield 298), .inl (.iload 1), .inl .iaload, .inl .ishl, .inl .ior, .inr (.invokeinterface 142 2), .inr (.ifCond .eq 122), .inl (.iconst 1), .inl (.aload 0), .inl (.getfield 298), .inl (.iload 1), .inl .iaload, .inl .ishl, .inr (.goto 123)] L st h := den_eq (b := k146_78) rfl L st h
theorem D146_122 (L : xL) (st : xS) (h : xH) : den 146 122 L st h = xB xcall (den 146) [.inl (.iconst 0), xto 123] L st h := den_eq (b := k146_122) rfl L st h
theorem D146_123 (L : xL) (st : xS) (h : xH) : den 146 123 L st h = xB xcall (den 146) [.inl .ior, .inl (.putfield 296), .inl (.iinc 1 1), .inr (.goto 78)] L st h := den_eq (b := k146_123) rfl L st h
theorem D146_133 (L : xL) (st : xS) (h : xH) : den 146 133 L st h = xB xcall (den 146) [.inr .return_] L st h := den_eq (b := k146_133) rfl L st h
theorem N146 (h : xH) (a0 : Nat) (ho : xobj h a0 9 = true) : xcall 146 [.ref a0] h = den 146 0 [some (.ref a0), none, none] [] h := if_pos ho
theorem D147_0 (L : xL) (st : xS) (h : xH) : den 147 0 L st h = xB xcall (den 147) [.inl (.aload 0), .inl (.getfield 293), .inr (.ifCond .eq 8), .inr .return_] L st h := den_eq (b := k147_0) rfl L st h
theorem D147_8 (L : xL) (st : xS) (h : xH) : den 147 8 L st h = xB xcall (den 147) [.inl (.aload 0), .inl (.iconst 1), .inl (.putfield 293), .inl (.iconst 0), .inl (.istore 1), xto 15] L st h := den_eq (b := k147_8) rfl L st h
theorem D147_15 (L : xL) (st : xS) (h : xH) : den 147 15 L st h = xB xcall (den 147) [.inl (.iload 1), .inl (.iconst 256), .inr (.if_icmp .ge 35), .inl (.aload 0), .inl (.getfield 297), .inl (.iload 1), .inl (.iconst 0), .inl .bastore, .inl (.iinc 1 1), .inr (.goto 15)] L st h := den_eq (b := k147_15) rfl L st h
theorem D147_35 (L : xL) (st : xS) (h : xH) : den 147 35 L st h = xB xcall (den 147) [.inl (.aload 0), .inr (.invokeinterface 143 1), .inl (.istore 1), xto 40] L st h := den_eq (b := k147_35) rfl L st h
theorem D147_40 (L : xL) (st : xS) (h : xH) : den 147 40 L st h = xB xcall (den 147) [.inl (.iload 1), .inl (.iconst (-1)), .inr (.if_icmp .eq 65), .inl (.aload 0), .inl (.getfield 297), .inl (.aload 0), .inl (.iload 1), .inr (.invokeinterface 141 2), .inl (.iconst 1), .inl .bastore, .inl (.aload 0), .inl (.iload 1), .inr (.invokeinterface 144 2), .inl (.istore 1), .inr (.goto 40)] L st h := den_eq (b := k147_40) rfl L st h
theorem D147_65 (L : xL) (st : xS) (h : xH) : den 147 65 L st h = xB xcall (den 147) [.inl (.aload 0), .inr (.invokeinterface 146 1), .inl (.aload 0), .inl (.iconst 0), .inl (.putfield 295), .inl (.aload 0), .inr (.invokeinterface 143 1), .inl (.istore 1), xto 79] L st h := den_eq (b := k147_65) rfl L st h
theorem D147_79 (L : xL) (st : xS) (h : xH) : den 147 79 L st h = xB xcall (den 147) [.inl (.iload 1), .inl (.iconst (-1)), .inr (.if_icmp .eq 128), .inl (.aload 0), .inl (.getfield 296), .inl (.aload 0), .inl (.iload 1), .inr (.invokeinterface 141 2), .inl (.iconst (-1)), .inl .ixor, .inl .iand, .inr (.ifCond .ne 119), .inl (.aload 0), .inl (.getfield 294), .inl (.aload 0), .inl (.getfield 295), .inl (.iload 1), .inl .iastore, .inl (.aload 0), .inl .dup, .inl (.getfield 295), .inl (.iconst 1), .inl .iadd, .inl (.putfield 295), xto 119] L st h := den_eq (b := k147_79) rfl L st h
theorem D147_119 (L : xL) (st : xS) (h : xH) : den 147 119 L st h = xB xcall (den 147) [.inl (.aload 0), .inl (.iload 1), .inr (.invokeinterface 144 2), .inl (.istore 1), .inr (.goto 79)] L st h := den_eq (b := k147_119) rfl L st h
theorem D147_128 (L : xL) (st : xS) (h : xH) : den 147 128 L st h = xB xcall (den 147) [.inr .return_] L st h := den_eq (b := k147_128) rfl L st h
theorem N147 (h : xH) (a0 : Nat) (ho : xobj h a0 9 = true) : xcall 147 [.ref a0] h = den 147 0 [some (.ref a0), none] [] h := if_pos ho
theorem D148_0 (L : xL) (st : xS) (h : xH) : den 148 0 L st h = xB xcall (den 148) [.inl (.iconst 1), .inl (.istore 2), .inl (.iconst 0), .inl (.istore 3), xto 4] L st h := den_eq (b := k148_0) rfl L st h
theorem D148_4 (L : xL) (st : xS) (h : xH) : den 148 4 L st h = xB xcall (den 148) [.inl (.iload 3), .inl (.aload 0), .inr (.invokeinterface 117 1), .inr (.if_icmp .ge 34), .inl (.iload 2), .inl (.aload 0), .inl (.iload 3), .inl (.iconst 5), .inl (.aload 0), .inl (.iload 1), .inl (.iload 3), .inr (.invokeinterface 139 3), .inl .iadd, .inr (.invokeinterface 120 3), .inl .imul, .inl (.istore 2), .inl (.iinc 3 1), .inr (.goto 4)] L st h := den_eq (b := k148_4) rfl L st h
theorem D148_34 (L : xL) (st : xS) (h : xH) : den 148 34 L st h = xB xcall (den 148) [.inl (.iload 2), .inr .ireturn] L st h := den_eq (b := k148_34) rfl L st h
theorem N148 (h : xH) (a0 : Nat) (a1 : Int32) (ho : xobj h a0 9 = true) : xcall 148 [.ref a0, .int a1] h = den 148 0 [some (.ref a0), some (.int a1), none, none] [] h := if_pos ho
theorem D149_0 (L : xL) (st : xS) (h : xH) : den 149 0 L st h = xB xcall (den 149) [.inl (.iconst 0), .inl (.istore 2), .inl (.iconst 0), .inl (.istore 3), xto 4] L st h := den_eq (b := k149_0) rfl L st h
theorem D149_4 (L : xL) (st : xS) (h : xH) : den 149 4 L st h = xB xcall (den 149) [.inl (.iload 3), .inl (.aload 0), .inr (.invokeinterface 117 1), .inr (.if_icmp .ge 27), .inl (.iload 2), .inl (.aload 0), .inl (.iload 1), .inl (.iload 3), .inr (.invokeinterface 139 3), .inl .iadd, .inl (.istore 2), .inl (.iinc 3 1), .inr (.goto 4)] L st h := den_eq (b := k149_4) rfl L st h
theorem D149_27 (L : xL) (st : xS) (h : xH) : den 149 27 L st h = xB xcall (den 149) [.inl (.iload 2), .inr .ireturn] L st h := den_eq (b := k149_27) rfl L st h
theorem N149 (h : xH) (a0 : Nat) (a1 : Int32) (ho : xobj h a0 9 = true) : xcall 149 [.ref a0, .int a1] h = den 149 0 [some (.ref a0), some (.int a1), none, none] [] h := if_pos ho
theorem D150_0 (L : xL) (st : xS) (h : xH) : den 150 0 L st h = xB xcall (den 150) [.inl (.iload 2), .inl (.iconst 3), .inr (.if_icmp .ge 14), .inl (.aload 0), .inl (.iload 1), .inl (.iload 2), .inr (.invokeinterface 120 3), .inr (.goto 35)] L st h := den_eq (b := k150_0) rfl L st h
theorem D150_14 (L : xL) (st : xS) (h : xH) : den 150 14 L st h = xB xcall (den 150) [.inl (.iload 2), .inl (.iconst 3), .inr (.if_icmp .ne 27), .inl (.aload 0), .inl (.iload 1), .inr (.invokeinterface 135 2), .inr (.goto 35)] L st h := den_eq (b := k150_14) rfl L st h
theorem D150_27 (L : xL) (st : xS) (h : xH) : den 150 27 L st h = xB xcall (den 150) [.inl (.aload 0), .inl (.iload 1), .inl (.iload 2), .inl (.iconst 1), .inl .isub, .inr (.invokeinterface 120 3), xto 35] L st h := den_eq (b := k150_27) rfl L st h
theorem D150_35 (L : xL) (st : xS) (h : xH) : den 150 35 L st h = xB xcall (den 150) [.inr .ireturn] L st h := den_eq (b := k150_35) rfl L st h
theorem N150 (h : xH) (a0 : Nat) (a1 : Int32) (a2 : Int32) (ho : xobj h a0 9 = true) : xcall 150 [.ref a0, .int a1, .int a2] h = den 150 0 [some (.ref a0), some (.int a1), some (.int a2)] [] h := if_pos ho
theorem D151_0 (L : xL) (st : xS) (h : xH) : den 151 0 L st h = xB xcall (den 151) [.inl (.aload 0), .inl (.iload 1), .inr (.invokeinterface 118 2), .inr (.ifCond .eq 26), .inl (.iload 2), .inl (.iconst 0), .inl (.iconst 5), .inr (.invokeinterface 110 3), .inr (.ifCond .eq 26), .inl (.aload 0), .inl (.iload 1), .inl (.iload 2), .inr (.invokeinterface 150 3), .inr (.goto 32)] L st h := den_eq (b := k151_0) rfl L st h
theorem D151_26 (L : xL) (st : xS) (h : xH) : den 151 26 L st h = xB xcall (den 151) [.inl (.aload 0), .inl (.iconst (-2)), .inr (.invokeinterface 112 2), xto 32] L st h := den_eq (b := k151_26) rfl L st h
theorem D151_32 (L : xL) (st : xS) (h : xH) : den 151 32 L st h = xB xcall (den 151) [.inr .ireturn] L st h := den_eq (b := k151_32) rfl L st h
theorem N151 (h : xH) (a0 : Nat) (a1 : Int32) (a2 : Int32) (ho : xobj h a0 9 = true) : xcall 151 [.ref a0, .int a1, .int a2] h = den 151 0 [some (.ref a0), some (.int a1), some (.int a2)] [] h := if_pos ho
theorem D152_0 (L : xL) (st : xS) (h : xH) : den 152 0 L st h = xB xcall (den 152) [.inl (.iload 2), .inl (.iconst 5), .inr (.if_icmp .ge 12), .inl (.aload 0), .inl (.iload 1), .inl (.iload 2), .inr (.invokeinterface 122 3), .inr .ireturn] L st h := den_eq (b := k152_0) rfl L st h
theorem D152_12 (L : xL) (st : xS) (h : xH) : den 152 12 L st h = xB xcall (den 152) [.inl (.aload 0), .inr (.invokeinterface 147 1), .inl (.aload 0), .inl (.iload 1), .inl (.iconst 4), .inr (.invokeinterface 122 3), .inl (.iconst (-1)), .inr (.if_icmp .eq 37), .inl (.aload 0), .inl (.getfield 296), .inl (.iload 1), .inr (.invokeinterface 111 2), .inr (.ifCond .eq 41), xto 37] L st h := den_eq (b := k152_12) rfl L st h
theorem D152_37 (L : xL) (st : xS) (h : xH) : den 152 37 L st h = xB xcall (den 152) [.inl (.iconst 1), .inr (.goto 42)] L st h := den_eq (b := k152_37) rfl L st h
theorem D152_41 (L : xL) (st : xS) (h : xH) : den 152 41 L st h = xB xcall (den 152) [.inl (.iconst 0), xto 42] L st h := den_eq (b := k152_41) rfl L st h
theorem D152_42 (L : xL) (st : xS) (h : xH) : den 152 42 L st h = xB xcall (den 152) [.inr .ireturn] L st h := den_eq (b := k152_42) rfl L st h
theorem N152 (h : xH) (a0 : Nat) (a1 : Int32) (a2 : Int32) (ho : xobj h a0 9 = true) : xcall 152 [.ref a0, .int a1, .int a2] h = den 152 0 [some (.ref a0), some (.int a1), some (.int a2)] [] h := if_pos ho
theorem D153_0 (L : xL) (st : xS) (h : xH) : den 153 0 L st h = xB xcall (den 153) [.inl (.aload 0), .inl (.iload 1), .inr (.invokeinterface 119 2), .inr (.ifCond .eq 26), .inl (.iload 2), .inl (.iconst 0), .inl (.iconst 5), .inr (.invokeinterface 110 3), .inr (.ifCond .eq 26), .inl (.aload 0), .inl (.iload 1), .inl (.iload 2), .inr (.invokeinterface 152 3), .inr (.goto 32)] L st h := den_eq (b := k153_0) rfl L st h
theorem D153_26 (L : xL) (st : xS) (h : xH) : den 153 26 L st h = xB xcall (den 153) [.inl (.aload 0), .inl (.iconst (-2)), .inr (.invokeinterface 112 2), xto 32] L st h := den_eq (b := k153_26) rfl L st h
theorem D153_32 (L : xL) (st : xS) (h : xH) : den 153 32 L st h = xB xcall (den 153) [.inr .ireturn] L st h := den_eq (b := k153_32) rfl L st h
theorem N153 (h : xH) (a0 : Nat) (a1 : Int32) (a2 : Int32) (ho : xobj h a0 9 = true) : xcall 153 [.ref a0, .int a1, .int a2] h = den 153 0 [some (.ref a0), some (.int a1), some (.int a2)] [] h := if_pos ho
theorem D154_0 (L : xL) (st : xS) (h : xH) : den 154 0 L st h = xB xcall (den 154) [.inl (.aload 0), .inr (.invokeinterface 147 1), .inl (.aload 0), .inl (.getfield 295), .inr .ireturn] L st h := den_eq (b := k154_0) rfl L st h
theorem N154 (h : xH) (a0 : Nat) (ho : xobj h a0 9 = true) : xcall 154 [.ref a0] h = den 154 0 [some (.ref a0)] [] h := if_pos ho
theorem D155_0 (L : xL) (st : xS) (h : xH) : den 155 0 L st h = xB xcall (den 155) [.inl (.iload 1), .inr (.ifCond .lt 12), .inl (.aload 0), .inl (.iload 2), .inr (.invokeinterface 118 2), .inr (.ifCond .ne 19), xto 12] L st h := den_eq (b := k155_0) rfl L st h
theorem D155_12 (L : xL) (st : xS) (h : xH) : den 155 12 L st h = xB xcall (den 155) [.inl (.aload 0), .inl (.iconst (-2)), .inr (.invokeinterface 112 2), .inr .ireturn] L st h := den_eq (b := k155_12) rfl L st h
theorem D155_19 (L : xL) (st : xS) (h : xH) : den 155 19 L st h = xB xcall (den 155) [.inl (.aload 0), .inr (.invokeinterface 147 1), .inl (.iload 1), .inl (.aload 0), .inl (.getfield 295), .inr (.if_icmp .ge 45), .inl (.aload 0), .inl (.aload 0), .inl (.getfield 294), .inl (.iload 1), .inl .iaload, .inl (.iload 2), .inr (.invokeinterface 139 3), .inr (.goto 47)] L st h := den_eq (b := k155_19) rfl L st h
theorem D155_45 (L : xL) (st : xS) (h : xH) : den 155 45 L st h = xB xcall (den 155) [.inl (.iconst (-5)), xto 47] L st h := den_eq (b := k155_45) rfl L st h
theorem D155_47 (L : xL) (st : xS) (h : xH) : den 155 47 L st h = xB xcall (den 155) [.inr .ireturn] L st h := den_eq (b := k155_47) rfl L st h
theorem N155 (h : xH) (a0 : Nat) (a1 : Int32) (a2 : Int32) (ho : xobj h a0 9 = true) : xcall 155 [.ref a0, .int a1, .int a2] h = den 155 0 [some (.ref a0), some (.int a1), some (.int a2)] [] h := if_pos ho
theorem D156_0 (L : xL) (st : xS) (h : xH) : den 156 0 L st h = xB xcall (den 156) [.inl (.aload 0), .inr (.invokeinterface 147 1), .inl (.iconst 0), .inl (.istore 3), .inl (.iconst 0), .inl (.istore 4), xto 9] L st h := den_eq (b := k156_0) rfl L st h
theorem D156_9 (L : xL) (st : xS) (h : xH) : den 156 9 L st h = xB xcall (den 156) [.inl (.iload 4), .inl (.aload 0), .inl (.getfield 295), .inr (.if_icmp .ge 63), .inl (.iload 3), .inl (.iload 1), .inl (.iconst (-1)), .inr (.if_icmp .eq 40), .inl (.aload 0), .inl (.aload 0), .inl (.getfield 294), .inl (.iload 4), .inl .iaload, .inl (.iload 1), .inr (.invokeinterface 139 3), .inl (.iload 2), .inr (.if_icmp .ne 54), xto 40] L st h := den_eq (b := k156_9) rfl L st h
theorem D156_40 (L : xL) (st : xS) (h : xH) : den 156 40 L st h = xB xcall (den 156) [.inl (.aload 0), .inl (.aload 0), .inl (.getfield 294), .inl (.iload 4), .inl .iaload, .inr (.invokeinterface 148 2), .inr (.goto 55)] L st h := den_eq (b := k156_40) rfl L st h
theorem D156_54 (L : xL) (st : xS) (h : xH) : den 156 54 L st h = xB xcall (den 156) [.inl (.iconst 0), xto 55] L st h := den_eq (b := k156_54) rfl L st h
theorem D156_55 (L : xL) (st : xS) (h : xH) : den 156 55 L st h = xB xcall (den 156) [.inl .iadd, .inl (.istore 3), .inl (.iinc 4 1), .inr (.goto 9)] L st h := den_eq (b := k156_55) rfl L st h
theorem D156_63 (L : xL) (st : xS) (h : xH) : den 156 63 L st h = xB xcall (den 156) [.inl (.iload 3), .inr .ireturn] L st h := den_eq (b := k156_63) rfl L st h
theorem N156 (h : xH) (a0 : Nat) (a1 : Int32) (a2 : Int32) (ho : xobj h a0 9 = true) : xcall 156 [.ref a0, .int a1, .int a2] h = den 156 0 [some (.ref a0), some (.int a1), some (.int a2), none, none] [] h := if_pos ho
theorem D157_0 (L : xL) (st : xS) (h : xH) : den 157 0 L st h = xB xcall (den 157) [.inl (.iload 1), .inl (.iconst (-1)), .inr (.if_icmp .ne 17), .inl (.iload 2), .inr (.ifCond .ne 13), .inl (.iconst 1), .inr (.goto 40)] L st h := den_eq (b := k157_0) rfl L st h
theorem D157_13 (L : xL) (st : xS) (h : xH) : den 157 13 L st h = xB xcall (den 157) [.inl (.iconst 0), .inr (.goto 40)] L st h := den_eq (b := k157_13) rfl L st h
theorem D157_17 (L : xL) (st : xS) (h : xH) : den 157 17 L st h = xB xcall (den 157) [.inl (.aload 0), .inl (.iload 1), .inr (.invokeinterface 118 2), .inr (.ifCond .eq 39), .inl (.iload 2), .inl (.iconst 0), .inl (.iconst 7), .inr (.invokeinterface 110 3), .inr (.ifCond .eq 39), .inl (.iconst 1), .inr (.goto 40)] L st h := den_eq (b := k157_17) rfl L st h
theorem D157_39 (L : xL) (st : xS) (h : xH) : den 157 39 L st h = xB xcall (den 157) [.inl (.iconst 0), xto 40] L st h := den_eq (b := k157_39) rfl L st h
theorem D157_40 (L : xL) (st : xS) (h : xH) : den 157 40 L st h = xB xcall (den 157) [.inl (.istore 3), .inl (.iload 3), .inr (.ifCond .eq 54), .inl (.aload 0), .inl (.iload 1), .inl (.iload 2), .inr (.invokeinterface 156 3), .inr (.goto 60)] L st h := den_eq (b := k157_40) rfl L st h
theorem D157_54 (L : xL) (st : xS) (h : xH) : den 157 54 L st h = xB xcall (den 157) [.inl (.aload 0), .inl (.iconst (-2)), .inr (.invokeinterface 112 2), xto 60] L st h := den_eq (b := k157_54) rfl L st h
theorem D157_60 (L : xL) (st : xS) (h : xH) : den 157 60 L st h = xB xcall (den 157) [.inr .ireturn] L st h := den_eq (b := k157_60) rfl L st h
theorem N157 (h : xH) (a0 : Nat) (a1 : Int32) (a2 : Int32) (ho : xobj h a0 9 = true) : xcall 157 [.ref a0, .int a1, .int a2] h = den 157 0 [some (.ref a0), some (.int a1), some (.int a2), none] [] h := if_pos ho
theorem D158_0 (L : xL) (st : xS) (h : xH) : den 158 0 L st h = xB xcall (den 158) [.inl (.aload 0), .inr (.invokeinterface 147 1), .inl (.iconst 0), .inl (.istore 2), .inl (.iconst 0), .inl (.istore 3), xto 8] L st h := den_eq (b := k158_0) rfl L st h
theorem D158_8 (L : xL) (st : xS) (h : xH) : den 158 8 L st h = xB xcall (den 158) [.inl (.iload 3), .inl (.aload 0), .inl (.getfield 295), .inr (.if_icmp .ge 44), .inl (.iload 2), .inl (.aload 0), .inl (.aload 0), .inl (.getfield 294), .inl (.iload 3), .inl .iaload, .inr (.invokeinterface 149 2), .inl (.iload 1), .inr (.if_icmp .ne 35), .inl (.iconst 1), .inr (.goto 36)] L st h := den_eq (b := k158_8) rfl L st h
theorem D158_35 (L : xL) (st : xS) (h : xH) : den 158 35 L st h = xB xcall (den 158) [.inl (.iconst 0), xto 36] L st h := den_eq (b := k158_35) rfl L st h
theorem D158_36 (L : xL) (st : xS) (h : xH) : den 158 36 L st h = xB xcall (den 158) [.inl .iadd, .inl (.istore 2), .inl (.iinc 3 1), .inr (.goto 8)] L st h := den_eq (b := k158_36) rfl L st h
theorem D158_44 (L : xL) (st : xS) (h : xH) : den 158 44 L st h = xB xcall (den 158) [.inl (.iload 2), .inr .ireturn] L st h := den_eq (b := k158_44) rfl L st h
theorem N158 (h : xH) (a0 : Nat) (a1 : Int32) (ho : xobj h a0 9 = true) : xcall 158 [.ref a0, .int a1] h = den 158 0 [some (.ref a0), some (.int a1), none, none] [] h := if_pos ho
theorem D159_0 (L : xL) (st : xS) (h : xH) : den 159 0 L st h = xB xcall (den 159) [.inl (.iload 1), .inr (.ifCond .ge 13), .inl (.aload 0), .inl (.iconst (-2)), .inr (.invokeinterface 112 2), .inr (.goto 18)] L st h := den_eq (b := k159_0) rfl L st h
theorem D159_13 (L : xL) (st : xS) (h : xH) : den 159 13 L st h = xB xcall (den 159) [.inl (.aload 0), .inl (.iload 1), .inr (.invokeinterface 158 2), xto 18] L st h := den_eq (b := k159_13) rfl L st h
theorem D159_18 (L : xL) (st : xS) (h : xH) : den 159 18 L st h = xB xcall (den 159) [.inr .ireturn] L st h := den_eq (b := k159_18) rfl L st h
theorem N159 (h : xH) (a0 : Nat) (a1 : Int32) (ho : xobj h a0 9 = true) : xcall 159 [.ref a0, .int a1] h = den 159 0 [some (.ref a0), some (.int a1)] [] h := if_pos ho
theorem D160_0 (L : xL) (st : xS) (h : xH) : den 160 0 L st h = xB xcall (den 160) [.inl (.iload 1), .inr (.ifCond .ge 11), .inl (.aload 0), .inl (.iconst (-2)), .inr (.invokeinterface 112 2), .inr .ireturn] L st h := den_eq (b := k160_0) rfl L st h
theorem D160_11 (L : xL) (st : xS) (h : xH) : den 160 11 L st h = xB xcall (den 160) [.inl (.iload 1), .inl (.istore 2), .inl (.iconst 0), .inl (.istore 3), xto 15] L st h := den_eq (b := k160_11) rfl L st h
theorem D160_15 (L : xL) (st : xS) (h : xH) : den 160 15 L st h = xB xcall (den 160) [.inl (.iload 3), .inl (.iconst 29), .inr (.if_icmp .ge 44), .inl (.aload 0), .inl (.iload 3), .inr (.invokeinterface 158 2), .inr (.ifCond .le 38), .inl (.iload 2), .inr (.ifCond .ne 35), .inl (.iload 3), .inr .ireturn] L st h := den_eq (b := k160_15) rfl L st h
theorem D160_35 (L : xL) (st : xS) (h : xH) : den 160 35 L st h = xB xcall (den 160) [.inl (.iinc 2 (-1)), xto 38] L st h := den_eq (b := k160_35) rfl L st h
theorem D160_38 (L : xL) (st : xS) (h : xH) : den 160 38 L st h = xB xcall (den 160) [.inl (.iinc 3 1), .inr (.goto 15)] L st h := den_eq (b := k160_38) rfl L st h
theorem D160_44 (L : xL) (st : xS) (h : xH) : den 160 44 L st h = xB xcall (den 160) [.inl (.iconst (-5)), .inr .ireturn] L st h := den_eq (b := k160_44) rfl L st h
theorem N160 (h : xH) (a0 : Nat) (a1 : Int32) (ho : xobj h a0 9 = true) : xcall 160 [.ref a0, .int a1] h = den 160 0 [some (.ref a0), some (.int a1), none, none] [] h := if_pos ho
theorem D161_0 (L : xL) (st : xS) (h : xH) : den 161 0 L st h = xB xcall (den 161) [.inl (.iload 1), .inr (.ifCond .ge 11), .inl (.aload 0), .inl (.iconst (-2)), .inr (.invokeinterface 112 2), .inr .ireturn] L st h := den_eq (b := k161_0) rfl L st h
theorem D161_11 (L : xL) (st : xS) (h : xH) : den 161 11 L st h = xB xcall (den 161) [.inl (.aload 0), .inr (.invokeinterface 147 1), .inl (.iload 1), .inl (.aload 0), .inl (.getfield 299), .inr (.if_icmp .ge 32), .inl (.aload 0), .inl (.getfield 298), .inl (.iload 1), .inl .iaload, .inr (.goto 34)] L st h := den_eq (b := k161_11) rfl L st h
theorem D161_32 (L : xL) (st : xS) (h : xH) : den 161 32 L st h = xB xcall (den 161) [.inl (.iconst (-5)), xto 34] L st h := den_eq (b := k161_32) rfl L st h
theorem D161_34 (L : xL) (st : xS) (h : xH) : den 161 34 L st h = xB xcall (den 161) [.inr .ireturn] L st h := den_eq (b := k161_34) rfl L st h
theorem N161 (h : xH) (a0 : Nat) (a1 : Int32) (ho : xobj h a0 9 = true) : xcall 161 [.ref a0, .int a1] h = den 161 0 [some (.ref a0), some (.int a1)] [] h := if_pos ho
theorem D162_0 (L : xL) (st : xS) (h : xH) : den 162 0 L st h = xB xcall (den 162) [.inl (.aload 0), .inr (.invokeinterface 147 1), .inl (.aload 0), .inr (.invokeinterface 145 1), .inl (.istore 1), .inl (.aload 0), .inl (.iload 1), .inr (.invokeinterface 142 2), .inr (.ifCond .eq 19), .inl (.iconst 0), .inr .ireturn] L st h := den_eq (b := k162_0) rfl L st h
theorem D162_19 (L : xL) (st : xS) (h : xH) : den 162 19 L st h = xB xcall (den 162) [.inl (.iconst 0), .inl (.istore 2), xto 21] L st h := den_eq (b := k162_19) rfl L st h
theorem D162_21 (L : xL) (st : xS) (h : xH) : den 162 21 L st h = xB xcall (den 162) [.inl (.iload 2), .inl (.iconst 8), .inr (.if_icmp .ge 63), .inl (.iload 1), .inl (.iload 2), .inr (.invokeinterface 111 2), .inr (.ifCond .eq 57), .inl (.aload 0), .inl (.iload 1), .inl (.iconst 1), .inl (.iload 2), .inl .ishl, .inl (.iconst (-1)), .inl .ixor, .inl .iand, .inr (.invokeinterface 142 2), .inr (.ifCond .ne 57), .inl (.iload 1), .inl (.iconst 1), .inl (.iload 2), .inl .ishl, .inl (.iconst (-1)), .inl .ixor, .inl .iand, .inl (.istore 1), xto 57] L st h := den_eq (b := k162_21) rfl L st h
theorem D162_57 (L : xL) (st : xS) (h : xH) : den 162 57 L st h = xB xcall (den 162) [.inl (.iinc 2 1), .inr (.goto 21)] L st h := den_eq (b := k162_57) rfl L st h
theorem D162_63 (L : xL) (st : xS) (h : xH) : den 162 63 L st h = xB xcall (den 162) [.inl (.iload 1), .inr .ireturn] L st h := den_eq (b := k162_63) rfl L st h
theorem N162 (h : xH) (a0 : Nat) (ho : xobj h a0 9 = true) : xcall 162 [.ref a0] h = den 162 0 [some (.ref a0), none, none] [] h := if_pos ho
theorem D163_0 (L : xL) (st : xS) (h : xH) : den 163 0 L st h = xB xcall (den 163) [.inl (.aload 0), .inl (.aload 0), .inl (.getfield 301), .inl (.sipush 1103515245), .inl .lmul, .inl (.sipush 12345), .inl .ladd, .inl (.sipush 2147483648), .inl .lrem, .inl (.putfield 301), .inl (.aload 0), .inl (.getfield 301), .inl (.sipush 65536), .inl .ldiv, .inl (.iload 1), .inl .i2l, .inl .lrem, .inl .l2i, .inr .ireturn] L st h := den_eq (b := k163_0) rfl L st h
theorem N163 (h : xH) (a0 : Nat) (a1 : Int32) (ho : xobj h a0 9 = true) : xcall 163 [.ref a0, .int a1] h = den 163 0 [some (.ref a0), some (.int a1)] [] h := if_pos ho
theorem D164_0 (L : xL) (st : xS) (h : xH) : den 164 0 L st h = xB xcall (den 164) [.inl (.iconst 0), .inl (.istore 2), .inl (.iconst 0), .inl (.istore 3), xto 4] L st h := den_eq (b := k164_0) rfl L st h
theorem D164_4 (L : xL) (st : xS) (h : xH) : den 164 4 L st h = xB xcall (den 164) [.inl (.iload 3), .inl (.aload 0), .inl (.getfield 295), .inr (.if_icmp .ge 47), .inl (.iload 2), .inl (.aload 0), .inl (.getfield 300), .inl (.iload 3), .inl .baload, .inr (.ifCond .eq 38), .inl (.iconst 1), .inl (.aload 0), .inl (.aload 0), .inl (.getfield 294), .inl (.iload 3), .inl .iaload, .inl (.iload 1), .inr (.invokeinterface 139 3), .inl .ishl, .inr (.goto 39)] L st h := den_eq (b := k164_4) rfl L st h
theorem D164_38 (L : xL) (st : xS) (h : xH) : den 164 38 L st h = xB xcall (den 164) [.inl (.iconst 0), xto 39] L st h := den_eq (b := k164_38) rfl L st h
theorem D164_39 (L : xL) (st : xS) (h : xH) : den 164 39 L st h = xB xcall (den 164) [.inl .ior, .inl (.istore 2), .inl (.iinc 3 1), .inr (.goto 4)] L st h := den_eq (b := k164_39) rfl L st h
theorem D164_47 (L : xL) (st : xS) (h : xH) : den 164 47 L st h = xB xcall (den 164) [.inl (.iload 2), .inr .ireturn] L st h := den_eq (b := k164_47) rfl L st h
theorem N164 (h : xH) (a0 : Nat) (a1 : Int32) (ho : xobj h a0 9 = true) : xcall 164 [.ref a0, .int a1] h = den 164 0 [some (.ref a0), some (.int a1), none, none] [] h := if_pos ho
theorem D165_0 (L : xL) (st : xS) (h : xH) : den 165 0 L st h = xB xcall (den 165) [.inl (.iconst 0), .inl (.istore 3), xto 2] L st h := den_eq (b := k165_0) rfl L st h
theorem D165_2 (L : xL) (st : xS) (h : xH) : den 165 2 L st h = xB xcall (den 165) [.inl (.iload 3), .inl (.aload 0), .inl (.getfield 295), .inr (.if_icmp .ge 54), .inl (.aload 0), .inl (.getfield 300), .inl (.iload 3), .inl (.aload 0), .inl (.getfield 300), .inl (.iload 3), .inl .baload, .inr (.ifCond .eq 46), .inl (.iload 2), .inl (.aload 0), .inl (.aload 0), .inl (.getfield 294), .inl (.iload 3), .inl .iaload, .inl (.iload 1), .inr (.invokeinterface 139 3), .inr (.invokeinterface 111 2), .inr (.ifCond .eq 46), .inl (.iconst 1), .inr (.goto 47)] L st h := den_eq (b := k165_2) rfl L st h
theorem D165_46 (L : xL) (st : xS) (h : xH) : den 165 46 L st h = xB xcall (den 165) [.inl (.iconst 0), xto 47] L st h := den_eq (b := k165_46) rfl L st h
theorem D165_47 (L : xL) (st : xS) (h : xH) : den 165 47 L st h = xB xcall (den 165) [.inl .bastore, .inl (.iinc 3 1), .inr (.goto 2)] L st h := den_eq (b := k165_47) rfl L st h
theorem D165_54 (L : xL) (st : xS) (h : xH) : den 165 54 L st h = xB xcall (den 165) [.inr .return_] L st h := den_eq (b := k165_54) rfl L st h
theorem N165 (h : xH) (a0 : Nat) (a1 : Int32) (a2 : Int32) (ho : xobj h a0 9 = true) : xcall 165 [.ref a0, .int a1, .int a2] h = den 165 0 [some (.ref a0), some (.int a1), some (.int a2), none] [] h := if_pos ho
theorem D166_0 (L : xL) (st : xS) (h : xH) : den 166 0 L st h = xB xcall (den 166) [.inl (.iconst 0), .inl (.istore 1), xto 2] L st h := den_eq (b := k166_0) rfl L st h
theorem D166_2 (L : xL) (st : xS) (h : xH) : den 166 2 L st h = xB xcall (den 166) [.inl (.iload 1), .inl (.aload 0), .inr (.invokeinterface 117 1), .inr (.if_icmp .ge 61), .inl (.aload 0), .inl (.iload 1), .inl (.iconst 2), .inr (.invokeinterface 120 3), .inl (.iconst 1), .inr (.if_icmp .ne 55), .inl (.aload 0), .inl (.iload 1), .inr (.invokeinterface 164 2), .inl (.aload 0), .inl (.iload 1), .inl (.iconst 3), .inr (.invokeinterface 120 3), .inl (.iconst (-1)), .inl .ixor, .inl .iand, .inl (.istore 2), .inl (.iload 2), .inr (.ifCond .ne 49), .inl (.aload 0), .inl (.iload 1), .inl (.iconst 3), .inl (.iconst 0), .inr (.invokeinterface 121 4), .inr (.goto 55)] L st h := den_eq (b := k166_2) rfl L st h
theorem D166_49 (L : xL) (st : xS) (h : xH) : den 166 49 L st h = xB xcall (den 166) [.inl (.aload 0), .inl (.iload 1), .inl (.iload 2), .inr (.invokeinterface 165 3), xto 55] L st h := den_eq (b := k166_49) rfl L st h
theorem D166_55 (L : xL) (st : xS) (h : xH) : den 166 55 L st h = xB xcall (den 166) [.inl (.iinc 1 1), .inr (.goto 2)] L st h := den_eq (b := k166_55) rfl L st h
theorem D166_61 (L : xL) (st : xS) (h : xH) : den 166 61 L st h = xB xcall (den 166) [.inl (.iconst 0), .inl (.istore 1), .inl (.iconst 0), .inl (.istore 2), .inl (.iconst 0), .inl (.istore 3), xto 67] L st h := den_eq (b := k166_61) rfl L st h
theorem D166_67 (L : xL) (st : xS) (h : xH) : den 166 67 L st h = xB xcall (den 166) [.inl (.iload 3), .inl (.aload 0), .inl (.getfield 295), .inr (.if_icmp .ge 124), .inl (.iload 1), .inl (.aload 0), .inl (.getfield 300), .inl (.iload 3), .inl .baload, .inr (.ifCond .eq 98), .inl (.aload 0), .inl (.aload 0), .inl (.getfield 294), .inl (.iload 3), .inl .iaload, .inr (.invokeinterface 148 2), .inr (.goto 99)] L st h := den_eq (b := k166_67) rfl L st h
theorem D166_98 (L : xL) (st : xS) (h : xH) : den 166 98 L st h = xB xcall (den 166) [.inl (.iconst 0), xto 99] L st h := den_eq (b := k166_98) rfl L st h
theorem D166_99 (L : xL) (st : xS) (h : xH) : den 166 99 L st h = xB xcall (den 166) [.inl .iadd, .inl (.istore 1), .inl (.iload 2), .inl (.aload 0), .inl (.getfield 300), .inl (.iload 3), .inl .baload, .inr (.ifCond .eq 115), .inl (.iconst 1), .inr (.goto 116)] L st h := den_eq (b := k166_99) rfl L st h
theorem D166_115 (L : xL) (st : xS) (h : xH) : den 166 115 L st h = xB xcall (den 166) [.inl (.iconst 0), xto 116] L st h := den_eq (b := k166_115) rfl L st h
theorem D166_116 (L : xL) (st : xS) (h : xH) : den 166 116 L st h = xB xcall (den 166) [.inl .iadd, .inl (.istore 2), .inl (.iinc 3 1), .inr (.goto 67)] L st h := den_eq (b := k166_116) rfl L st h
theorem D166_124 (L : xL) (st : xS) (h : xH) : den 166 124 L st h = xB xcall (den 166) [.inl (.aload 0), .inl (.iload 1), .inr (.ifCond .le 133), .inl (.iload 1), .inr (.goto 134)] L st h := den_eq (b := k166_124) rfl L st h
theorem D166_133 (L : xL) (st : xS) (h : xH) : den 166 133 L st h = xB xcall (den 166) [.inl (.iload 2), xto 134] L st h := den_eq (b := k166_133) rfl L st h
theorem D166_134 (L : xL) (st : xS) (h : xH) : den 166 134 L st h = xB xcall (den 166) [.inr (.invokeinterface 163 2), .inl (.istore 3), .inl (.iconst (-1)), .inl (.istore 4), .inl (.iconst 0), .inl (.istore 5), xto 144] L st h := den_eq (b := k166_134) rfl L st h
theorem D166_144 (L : xL) (st : xS) (h : xH) : den 166 144 L st h = xB xcall (den 166) [.inl (.iload 5), .inl (.iload 3), .inr (.if_icmp .gt 194), .inl (.iinc 4 1), .inl (.iload 5), .inl (.aload 0), .inl (.getfield 300), .inl (.iload 4), .inl .baload, .inr (.ifCond .ne 169), .inl (.iconst 0), .inr (.goto 188)] L st h := den_eq (b := k166_144) rfl L st h
theorem D166_169 (L : xL) (st : xS) (h : xH) : den 166 169 L st h = xB xcall (den 166) [.inl (.iload 1), .inr (.ifCond .le 187), .inl (.aload 0), .inl (.aload 0), .inl (.getfield 294), .inl (.iload 4), .inl .iaload, .inr (.invokeinterface 148 2), .inr (.goto 188)] L st h := den_eq (b := k166_169) rfl L st h
theorem D166_187 (L : xL) (st : xS) (h : xH) : den 166 187 L st h = xB xcall (den 166) [.inl (.iconst 1), xto 188] L st h := den_eq (b := k166_187) rfl L st h
theorem D166_188 (L : xL) (st : xS) (h : xH) : den 166 188 L st h = xB xcall (den 166) [.inl .iadd, .inl (.istore 5), .inr (.goto 144)] L st h := den_eq (b := k166_188) rfl L st h
theorem D166_194 (L : xL) (st : xS) (h : xH) : den 166 194 L st h = xB xcall (den 166) [.inl (.iload 4), .inr .ireturn] L st h := den_eq (b := k166_194) rfl L st h
theorem N166 (h : xH) (a0 : Nat) (ho : xobj h a0 9 = true) : xcall 166 [.ref a0] h = den 166 0 [some (.ref a0), none, none, none, none, none] [] h := if_pos ho
theorem D167_0 (L : xL) (st : xS) (h : xH) : den 167 0 L st h = xB xcall (den 167) [.inl (.iconst 0), .inl (.istore 3), .inl (.iconst 0), .inl (.istore 4), .inl (.iconst 0), .inl (.istore 5), xto 8] L st h := den_eq (b := k167_0) rfl L st h
theorem D167_8 (L : xL) (st : xS) (h : xH) : den 167 8 L st h = xB xcall (den 167) [.inl (.iload 5), .inl (.iconst 8), .inr (.if_icmp .ge 65), .inl (.iload 3), .inl (.iload 2), .inl (.iload 5), .inr (.invokeinterface 111 2), .inr (.ifCond .eq 37), .inl (.aload 0), .inl (.iload 1), .inl (.iconst 5), .inl (.iload 5), .inl .iadd, .inr (.invokeinterface 120 3), .inr (.goto 38)] L st h := den_eq (b := k167_8) rfl L st h
theorem D167_37 (L : xL) (st : xS) (h : xH) : den 167 37 L st h = xB xcall (den 167) [.inl (.iconst 0), xto 38] L st h := den_eq (b := k167_37) rfl L st h
theorem D167_38 (L : xL) (st : xS) (h : xH) : den 167 38 L st h = xB xcall (den 167) [.inl .iadd, .inl (.istore 3), .inl (.iload 4), .inl (.iload 2), .inl (.iload 5), .inr (.invokeinterface 111 2), .inr (.ifCond .eq 55), .inl (.iconst 1), .inr (.goto 56)] L st h := den_eq (b := k167_38) rfl L st h
theorem D167_55 (L : xL) (st : xS) (h : xH) : den 167 55 L st h = xB xcall (den 167) [.inl (.iconst 0), xto 56] L st h := den_eq (b := k167_55) rfl L st h
theorem D167_56 (L : xL) (st : xS) (h : xH) : den 167 56 L st h = xB xcall (den 167) [.inl .iadd, .inl (.istore 4), .inl (.iinc 5 1), .inr (.goto 8)] L st h := den_eq (b := k167_56) rfl L st h
theorem D167_65 (L : xL) (st : xS) (h : xH) : den 167 65 L st h = xB xcall (den 167) [.inl (.aload 0), .inl (.iload 3), .inr (.ifCond .le 74), .inl (.iload 3), .inr (.goto 76)] L st h := den_eq (b := k167_65) rfl L st h
theorem D167_74 (L : xL) (st : xS) (h : xH) : den 167 74 L st h = xB xcall (den 167) [.inl (.iload 4), xto 76] L st h := den_eq (b := k167_74) rfl L st h
theorem D167_76 (L : xL) (st : xS) (h : xH) : den 167 76 L st h = xB xcall (den 167) [.inr (.invokeinterface 163 2), .inl (.istore 5), .inl (.iconst (-1)), .inl (.istore 6), .inl (.iconst 0), .inl (.istore 7), xto 87] L st h := den_eq (b := k167_76) rfl L st h
theorem D167_87 (L : xL) (st : xS) (h : xH) : den 167 87 L st h = xB xcall (den 167) [.inl (.iload 7), .inl (.iload 5), .inr (.if_icmp .gt 135), .inl (.iinc 6 1), .inl (.iload 7), .inl (.iload 2), .inl (.iload 6), .inr (.invokeinterface 111 2), .inr (.ifCond .ne 112), .inl (.iconst 0), .inr (.goto 129)] L st h := den_eq (b := k167_87) rfl L st h
theorem D167_112 (L : xL) (st : xS) (h : xH) : den 167 112 L st h = xB xcall (den 167) [.inl (.iload 3), .inr (.ifCond .le 128), .inl (.aload 0), .inl (.iload 1), .inl (.iconst 5), .inl (.iload 6), .inl .iadd, .inr (.invokeinterface 120 3), .inr (.goto 129)] L st h := den_eq (b := k167_112) rfl L st h
theorem D167_128 (L : xL) (st : xS) (h : xH) : den 167 128 L st h = xB xcall (den 167) [.inl (.iconst 1), xto 129] L st h := den_eq (b := k167_128) rfl L st h
theorem D167_129 (L : xL) (st : xS) (h : xH) : den 167 129 L st h = xB xcall (den 167) [.inl .iadd, .inl (.istore 7), .inr (.goto 87)] L st h := den_eq (b := k167_129) rfl L st h
theorem D167_135 (L : xL) (st : xS) (h : xH) : den 167 135 L st h = xB xcall (den 167) [.inl (.iload 6), .inr .ireturn] L st h := den_eq (b := k167_135) rfl L st h
theorem N167 (h : xH) (a0 : Nat) (a1 : Int32) (a2 : Int32) (ho : xobj h a0 9 = true) : xcall 167 [.ref a0, .int a1, .int a2] h = den 167 0 [some (.ref a0), some (.int a1), some (.int a2), none, none, none, none, none] [] h := if_pos ho
theorem D168_0 (L : xL) (st : xS) (h : xH) : den 168 0 L st h = xB xcall (den 168) [.inl (.iconst 0), .inl (.istore 1), xto 2] L st h := den_eq (b := k168_0) rfl L st h
theorem D168_2 (L : xL) (st : xS) (h : xH) : den 168 2 L st h = xB xcall (den 168) [.inl (.iload 1), .inl (.aload 0), .inr (.invokeinterface 117 1), .inr (.if_icmp .ge 86), .inl (.aload 0), .inl (.getfield 288), .inl (.iconst 53), .inl (.iload 1), .inl .iadd, .inl .iaload, .inl (.istore 2), .inl (.aload 0), .inl (.iload 2), .inr (.invokeinterface 164 2), .inl (.istore 3), .inl (.aload 0), .inl (.iload 2), .inl (.iconst 2), .inr (.invokeinterface 120 3), .inl (.iconst 1), .inr (.if_icmp .ne 67), .inl (.iload 3), .inl (.aload 0), .inl (.iload 2), .inl (.iconst 3), .inr (.invokeinterface 120 3), .inl (.iconst (-1)), .inl .ixor, .inl .iand, .inr (.ifCond .ne 56), .inl (.aload 0), .inl (.iload 2), .inl (.iconst 3), .inl (.iconst 0), .inr (.invokeinterface 121 4), xto 56] L st h := den_eq (b := k168_2) rfl L st h
theorem D168_56 (L : xL) (st : xS) (h : xH) : den 168 56 L st h = xB xcall (den 168) [.inl (.iload 3), .inl (.aload 0), .inl (.iload 2), .inl (.iconst 3), .inr (.invokeinterface 120 3), .inl (.iconst (-1)), .inl .ixor, .inl .iand, .inl (.istore 3), xto 67] L st h := den_eq (b := k168_56) rfl L st h
theorem D168_67 (L : xL) (st : xS) (h : xH) : den 168 67 L st h = xB xcall (den 168) [.inl (.aload 0), .inl (.iload 2), .inl (.iconst 1), .inl (.aload 0), .inl (.iload 2), .inl (.iload 3), .inr (.invokeinterface 167 3), .inl .ishl, .inr (.invokeinterface 165 3), .inl (.iinc 1 1), .inr (.goto 2)] L st h := den_eq (b := k168_67) rfl L st h
theorem D168_86 (L : xL) (st : xS) (h : xH) : den 168 86 L st h = xB xcall (den 168) [.inl (.iconst 0), .inl (.istore 1), xto 88] L st h := den_eq (b := k168_86) rfl L st h
theorem D168_88 (L : xL) (st : xS) (h : xH) : den 168 88 L st h = xB xcall (den 168) [.inl (.aload 0), .inl (.getfield 300), .inl (.iload 1), .inl .baload, .inr (.ifCond .ne 103), .inl (.iinc 1 1), .inr (.goto 88)] L st h := den_eq (b := k168_88) rfl L st h
theorem D168_103 (L : xL) (st : xS) (h : xH) : den 168 103 L st h = xB xcall (den 168) [.inl (.iload 1), .inr .ireturn] L st h := den_eq (b := k168_103) rfl L st h
theorem N168 (h : xH) (a0 : Nat) (ho : xobj h a0 9 = true) : xcall 168 [.ref a0] h = den 168 0 [some (.ref a0), none, none, none] [] h := if_pos ho
theorem D169_0 (L : xL) (st : xS) (h : xH) : den 169 0 L st h = xB xcall (den 169) [.inl (.iload 1), .inl (.iconst 0), .inl (.iconst 1), .inr (.invokeinterface 110 3), .inr (.ifCond .eq 19), .inl (.iload 2), .inl (.iconst 0), .inl (.iconst 999999), .inr (.invokeinterface 110 3), .inr (.ifCond .ne 22), xto 19] L st h := den_eq (b := k169_0) rfl L st h
theorem D169_19 (L : xL) (st : xS) (h : xH) : den 169 19 L st h = xB xcall (den 169) [.inl (.iconst (-2)), .inr .ireturn] L st h := den_eq (b := k169_19) rfl L st h
theorem D169_22 (L : xL) (st : xS) (h : xH) : den 169 22 L st h = xB xcall (den 169) [.inl (.aload 0), .inr (.invokeinterface 147 1), .inl (.aload 0), .inl (.getfield 295), .inr (.ifCond .ne 36), .inl (.iconst (-3)), .inr .ireturn] L st h := den_eq (b := k169_22) rfl L st h
theorem D169_36 (L : xL) (st : xS) (h : xH) : den 169 36 L st h = xB xcall (den 169) [.inl (.iconst 0), .inl (.istore 3), xto 38] L st h := den_eq (b := k169_36) rfl L st h
theorem D169_38 (L : xL) (st : xS) (h : xH) : den 169 38 L st h = xB xcall (den 169) [.inl (.iload 3), .inl (.aload 0), .inl (.getfield 295), .inr (.if_icmp .ge 59), .inl (.aload 0), .inl (.getfield 300), .inl (.iload 3), .inl (.iconst 1), .inl .bastore, .inl (.iinc 3 1), .inr (.goto 38)] L st h := den_eq (b := k169_38) rfl L st h
theorem D169_59 (L : xL) (st : xS) (h : xH) : den 169 59 L st h = xB xcall (den 169) [.inl (.aload 0), .inl (.iload 2), .inl .i2l, .inl (.putfield 301), .inl (.iload 1), .inr (.ifCond .ne 76), .inl (.aload 0), .inr (.invokeinterface 166 1), .inr (.goto 80)] L st h := den_eq (b := k169_59) rfl L st h
theorem D169_76 (L : xL) (st : xS) (h : xH) : den 169 76 L st h = xB xcall (den 169) [.inl (.aload 0), .inr (.invokeinterface 168 1), xto 80] L st h := den_eq (b := k169_76) rfl L st h
theorem D169_80 (L : xL) (st : xS) (h : xH) : den 169 80 L st h = xB xcall (den 169) [.inl (.istore 3), .inl (.iconst 0), .inl (.istore 4), xto 84] L st h := den_eq (b := k169_80) rfl L st h
theorem D169_84 (L : xL) (st : xS) (h : xH) : den 169 84 L st h = xB xcall (den 169) [.inl (.iload 4), .inl (.aload 0), .inr (.invokeinterface 117 1), .inr (.if_icmp .ge 156), .inl (.aload 0), .inl (.aload 0), .inl (.getfield 294), .inl (.iload 3), .inl .iaload, .inl (.iload 4), .inr (.invokeinterface 139 3), .inl (.istore 5), .inl (.aload 0), .inl (.iload 4), .inl (.iconst 4), .inl (.iload 5), .inr (.invokeinterface 121 4), .inl (.aload 0), .inl (.iload 4), .inl (.iconst 3), .inl (.aload 0), .inl (.iload 4), .inl (.iconst 2), .inr (.invokeinterface 120 3), .inl (.iconst 1), .inr (.if_icmp .ne 146), .inl (.aload 0), .inl (.iload 4), .inl (.iconst 3), .inr (.invokeinterface 120 3), .inl (.iconst 1), .inl (.iload 5), .inl .ishl, .inl .ior, .inr (.goto 147)] L st h := den_eq (b := k169_84) rfl L st h
theorem D169_146 (L : xL) (st : xS) (h : xH) : den 169 146 L st h = xB xcall (den 169) [.inl (.iconst 0), xto 147] L st h := den_eq (b := k169_146) rfl L st h
theorem D169_147 (L : xL) (st : xS) (h : xH) : den 169 147 L st h = xB xcall (den 169) [.inr (.invokeinterface 121 4), .inl (.iinc 4 1), .inr (.goto 84)] L st h := den_eq (b := k169_147) rfl L st h
theorem D169_156 (L : xL) (st : xS) (h : xH) : den 169 156 L st h = xB xcall (den 169) [.inl (.aload 0), .inl (.getfield 288), .inl (.iconst 98), .inl .iaload, .inl (.iconst 16), .inr (.if_icmp .ge 172), .inl (.iconst 1), .inr (.goto 173)] L st h := den_eq (b := k169_156) rfl L st h
theorem D169_172 (L : xL) (st : xS) (h : xH) : den 169 172 L st h = xB xcall (den 169) [.inl (.iconst 0), xto 173] L st h := den_eq (b := k169_172) rfl L st h
theorem D169_173 (L : xL) (st : xS) (h : xH) : den 169 173 L st h = xB xcall (den 169) [.inl (.istore 4), .inl (.iconst 0), .inl (.istore 5), xto 178] L st h := den_eq (b := k169_173) rfl L st h
theorem D169_178 (L : xL) (st : xS) (h : xH) : den 169 178 L st h = xB xcall (den 169) [.inl (.iload 5), .inl (.aload 0), .inl (.getfield 288), .inl (.iconst 98), .inl .iaload, .inr (.if_icmp .ge 227), .inl (.iload 4), .inr (.ifCond .eq 218), .inl (.aload 0), .inl (.getfield 288), .inl (.iconst 99), .inl (.iload 5), .inl .iadd, .inl .iaload, .inl (.aload 0), .inl (.getfield 294), .inl (.iload 3), .inl .iaload, .inr (.if_icmp .eq 218), .inl (.iconst 1), .inr (.goto 219)] L st h := den_eq (b := k169_178) rfl L st h
theorem D169_218 (L : xL) (st : xS) (h : xH) : den 169 218 L st h = xB xcall (den 169) [.inl (.iconst 0), xto 219] L st h := den_eq (b := k169_218) rfl L st h
theorem D169_219 (L : xL) (st : xS) (h : xH) : den 169 219 L st h = xB xcall (den 169) [.inl (.istore 4), .inl (.iinc 5 1), .inr (.goto 178)] L st h := den_eq (b := k169_219) rfl L st h
theorem D169_227 (L : xL) (st : xS) (h : xH) : den 169 227 L st h = xB xcall (den 169) [.inl (.iload 4), .inr (.ifCond .eq 264), .inl (.aload 0), .inl (.getfield 288), .inl (.iconst 99), .inl (.aload 0), .inl (.getfield 288), .inl (.iconst 98), .inl .iaload, .inl .iadd, .inl (.aload 0), .inl (.getfield 294), .inl (.iload 3), .inl .iaload, .inl .iastore, .inl (.aload 0), .inl (.getfield 288), .inl (.iconst 98), .inl .dup2, .inl .iaload, .inl (.iconst 1), .inl .iadd, .inl .iastore, xto 264] L st h := den_eq (b := k169_227) rfl L st h
theorem D169_264 (L : xL) (st : xS) (h : xH) : den 169 264 L st h = xB xcall (den 169) [.inl (.iload 3), .inr .ireturn] L st h := den_eq (b := k169_264) rfl L st h
theorem N169 (h : xH) (a0 : Nat) (a1 : Int32) (a2 : Int32) (ho : xobj h a0 9 = true) : xcall 169 [.ref a0, .int a1, .int a2] h = den 169 0 [some (.ref a0), some (.int a1), some (.int a2), none, none, none] [] h := if_pos ho
theorem D170_0 (L : xL) (st : xS) (h : xH) : den 170 0 L st h = xB xcall (den 170) [.inl (.aload 0), .inr (.invokeinterface 113 1), .inl (.aload 0), .inl (.aload 0), .inl (.iload 1), .inl (.iload 2), .inr (.invokeinterface 169 3), .inr (.invokeinterface 115 2), .inr .ireturn] L st h := den_eq (b := k170_0) rfl L st h
theorem N170 (h : xH) (a0 : Nat) (a1 : Int32) (a2 : Int32) (ho : xobj h a0 9 = true) : xcall 170 [.ref a0, .int a1, .int a2] h = den 170 0 [some (.ref a0), some (.int a1), some (.int a2)] [] h := if_pos ho
theorem D171_0 (L : xL) (st : xS) (h : xH) : den 171 0 L st h = xB xcall (den 171) [.inl (.iload 1), .inl (.iconst (-1)), .inr (.if_icmp .lt 25), .inl (.iload 1), .inl (.iconst (-1)), .inr (.if_icmp .ne 17), .inl (.iload 2), .inr (.ifCond .eq 32), .inr (.goto 25)] L st h := den_eq (b := k171_0) rfl L st h
theorem D171_17 (L : xL) (st : xS) (h : xH) : den 171 17 L st h = xB xcall (den 171) [.inl (.aload 0), .inl (.iload 2), .inr (.invokeinterface 118 2), .inr (.ifCond .ne 32), xto 25] L st h := den_eq (b := k171_17) rfl L st h
theorem D171_25 (L : xL) (st : xS) (h : xH) : den 171 25 L st h = xB xcall (den 171) [.inl (.aload 0), .inl (.iconst (-2)), .inr (.invokeinterface 112 2), .inr .ireturn] L st h := den_eq (b := k171_25) rfl L st h
theorem D171_32 (L : xL) (st : xS) (h : xH) : den 171 32 L st h = xB xcall (den 171) [.inl (.iload 1), .inl (.iconst (-1)), .inr (.if_icmp .ne 47), .inl (.aload 0), .inl (.getfield 288), .inl (.iconst 98), .inl .iaload, .inr (.goto 77)] L st h := den_eq (b := k171_32) rfl L st h
theorem D171_47 (L : xL) (st : xS) (h : xH) : den 171 47 L st h = xB xcall (den 171) [.inl (.iload 1), .inl (.aload 0), .inl (.getfield 288), .inl (.iconst 98), .inl .iaload, .inr (.if_icmp .ge 75), .inl (.aload 0), .inl (.aload 0), .inl (.getfield 288), .inl (.iconst 99), .inl (.iload 1), .inl .iadd, .inl .iaload, .inl (.iload 2), .inr (.invokeinterface 139 3), .inr (.goto 77)] L st h := den_eq (b := k171_47) rfl L st h
theorem D171_75 (L : xL) (st : xS) (h : xH) : den 171 75 L st h = xB xcall (den 171) [.inl (.iconst (-5)), xto 77] L st h := den_eq (b := k171_75) rfl L st h
theorem D171_77 (L : xL) (st : xS) (h : xH) : den 171 77 L st h = xB xcall (den 171) [.inr .ireturn] L st h := den_eq (b := k171_77) rfl L st h
theorem N171 (h : xH) (a0 : Nat) (a1 : Int32) (a2 : Int32) (ho : xobj h a0 9 = true) : xcall 171 [.ref a0, .int a1, .int a2] h = den 171 0 [some (.ref a0), some (.int a1), some (.int a2)] [] h := if_pos ho
theorem D172_0 (L : xL) (st : xS) (h : xH) : den 172 0 L st h = xB xcall (den 172) [.inl (.iload 1), .inl (.iconst 0), .inl (.iconst 127), .inr (.invokeinterface 110 3), .inr (.ifCond .ne 17), .inl (.aload 0), .inl (.iconst (-2)), .inr (.invokeinterface 112 2), .inr .ireturn] L st h := den_eq (b := k172_0) rfl L st h
theorem D172_17 (L : xL) (st : xS) (h : xH) : den 172 17 L st h = xB xcall (den 172) [.inl (.aload 0), .inl (.getfield 303), .inl (.iconst 150), .inr (.if_icmp .ne 34), .inl (.aload 0), .inl (.iconst (-4)), .inr (.invokeinterface 112 2), .inr .ireturn] L st h := den_eq (b := k172_17) rfl L st h
theorem D172_34 (L : xL) (st : xS) (h : xH) : den 172 34 L st h = xB xcall (den 172) [.inl (.aload 0), .inl (.getfield 302), .inl (.aload 0), .inl (.getfield 303), .inl (.iload 1), .inl .iastore, .inl (.aload 0), .inl .dup, .inl (.getfield 303), .inl (.iconst 1), .inl .iadd, .inl (.putfield 303), .inl (.aload 0), .inl (.getfield 303), .inr .ireturn] L st h := den_eq (b := k172_34) rfl L st h
theorem N172 (h : xH) (a0 : Nat) (a1 : Int32) (ho : xobj h a0 9 = true) : xcall 172 [.ref a0, .int a1] h = den 172 0 [some (.ref a0), some (.int a1)] [] h := if_pos ho
theorem D173_0 (L : xL) (st : xS) (h : xH) : den 173 0 L st h = xB xcall (den 173) [.inl (.aload 0), .inl (.getfield 303), .inl (.istore 1), .inl (.aload 0), .inl (.iconst 0), .inl (.putfield 303), .inl (.iload 1), .inr .ireturn] L st h := den_eq (b := k173_0) rfl L st h
theorem N173 (h : xH) (a0 : Nat) (ho : xobj h a0 9 = true) : xcall 173 [.ref a0] h = den 173 0 [some (.ref a0), none] [] h := if_pos ho
theorem D174_0 (L : xL) (st : xS) (h : xH) : den 174 0 L st h = xB xcall (den 174) [.inl (.aload 0), .inl (.getfield 304), .inl (.aload 0), .inl (.getfield 303), .inr (.if_icmp .ge 38), .inl (.aload 0), .inl (.getfield 302), .inl (.aload 0), .inl (.getfield 304), .inl .iaload, .inl (.iconst 32), .inr (.if_icmp .ne 38), .inl (.aload 0), .inl .dup, .inl (.getfield 304), .inl (.iconst 1), .inl .iadd, .inl (.putfield 304), .inr (.goto 0)] L st h := den_eq (b := k174_0) rfl L st h
theorem D174_38 (L : xL) (st : xS) (h : xH) : den 174 38 L st h = xB xcall (den 174) [.inl (.aload 0), .inl (.getfield 304), .inl (.aload 0), .inl (.getfield 303), .inr (.if_icmp .ge 61), .inl (.aload 0), .inl (.getfield 302), .inl (.aload 0), .inl (.getfield 304), .inl .iaload, .inr (.goto 62)] L st h := den_eq (b := k174_38) rfl L st h
theorem D174_61 (L : xL) (st : xS) (h : xH) : den 174 61 L st h = xB xcall (den 174) [.inl (.iconst (-1)), xto 62] L st h := den_eq (b := k174_61) rfl L st h
theorem D174_62 (L : xL) (st : xS) (h : xH) : den 174 62 L st h = xB xcall (den 174) [.inr .ireturn] L st h := den_eq (b := k174_62) rfl L st h
theorem N174 (h : xH) (a0 : Nat) (ho : xobj h a0 9 = true) : xcall 174 [.ref a0] h = den 174 0 [some (.ref a0)] [] h := if_pos ho
theorem D175_0 (L : xL) (st : xS) (h : xH) : den 175 0 L st h = xB xcall (den 175) [.inl (.aload 0), .inl (.getfield 305), .inl (.iconst (-1)), .inr (.if_icmp .ne 20), .inl (.iload 1), .inr (.ifCond .ne 20), .inl (.aload 0), .inl (.aload 0), .inl (.getfield 304), .inl (.putfield 305), xto 20] L st h := den_eq (b := k175_0) rfl L st h
theorem D175_20 (L : xL) (st : xS) (h : xH) : den 175 20 L st h = xB xcall (den 175) [.inr .return_] L st h := den_eq (b := k175_20) rfl L st h
theorem N175 (h : xH) (a0 : Nat) (a1 : Int32) (ho : xobj h a0 9 = true) : xcall 175 [.ref a0, .int a1] h = den 175 0 [some (.ref a0), some (.int a1)] [] h := if_pos ho
theorem D176_0 (L : xL) (st : xS) (h : xH) : den 176 0 L st h = xB xcall (den 176) [.inl (.aload 0), .inl (.getfield 304), .inl (.aload 0), .inl (.getfield 303), .inr (.if_icmp .ge 34), .inl (.aload 0), .inl (.getfield 302), .inl (.aload 0), .inl (.getfield 304), .inl .iaload, .inl (.iconst 48), .inl (.iconst 57), .inr (.invokeinterface 110 3), .inr (.ifCond .eq 34), .inl (.iconst 1), .inr (.goto 35)] L st h := den_eq (b := k176_0) rfl L st h
theorem D176_34 (L : xL) (st : xS) (h : xH) : den 176 34 L st h = xB xcall (den 176) [.inl (.iconst 0), xto 35] L st h := den_eq (b := k176_34) rfl L st h
theorem D176_35 (L : xL) (st : xS) (h : xH) : den 176 35 L st h = xB xcall (den 176) [.inr .areturn] L st h := den_eq (b := k176_35) rfl L st h
theorem N176 (h : xH) (a0 : Nat) (ho : xobj h a0 9 = true) : xcall 176 [.ref a0] h = den 176 0 [some (.ref a0)] [] h := if_pos ho
theorem D177_0 (L : xL) (st : xS) (h : xH) : den 177 0 L st h = xB xcall (den 177) [.inl (.aload 0), .inl (.aload 0), .inr (.invokeinterface 174 1), .inl (.iconst 48), .inl (.iconst 57), .inr (.invokeinterface 110 3), .inr (.invokeinterface 175 2), .inl (.iconst 0), .inl (.istore 1), .inl (.iconst 0), .inl (.istore 2), xto 19] L st h := den_eq (b := k177_0) rfl L st h
theorem D177_19 (L : xL) (st : xS) (h : xH) : den 177 19 L st h = xB xcall (den 177) [.inl (.iload 2), .inl (.iconst 6), .inr (.if_icmp .ge 66), .inl (.aload 0), .inr (.invokeinterface 176 1), .inr (.ifCond .eq 66), .inl (.iconst 10), .inl (.iload 1), .inl .imul, .inl (.aload 0), .inl (.getfield 302), .inl (.aload 0), .inl (.getfield 304), .inl .iaload, .inl .iadd, .inl (.iconst 48), .inl .isub, .inl (.istore 1), .inl (.aload 0), .inl .dup, .inl (.getfield 304), .inl (.iconst 1), .inl .iadd, .inl (.putfield 304), .inl (.iinc 2 1), .inr (.goto 19)] L st h := den_eq (b := k177_19) rfl L st h
theorem D177_66 (L : xL) (st : xS) (h : xH) : den 177 66 L st h = xB xcall (den 177) [.inl (.aload 0), .inl (.aload 0), .inr (.invokeinterface 176 1), .inr (.ifCond .ne 78), .inl (.iconst 1), .inr (.goto 79)] L st h := den_eq (b := k177_66) rfl L st h
theorem D177_78 (L : xL) (st : xS) (h : xH) : den 177 78 L st h = xB xcall (den 177) [.inl (.iconst 0), xto 79] L st h := den_eq (b := k177_78) rfl L st h
theorem D177_79 (L : xL) (st : xS) (h : xH) : den 177 79 L st h = xB xcall (den 177) [.inr (.invokeinterface 175 2), .inl (.iload 1), .inr .ireturn] L st h := den_eq (b := k177_79) rfl L st h
theorem N177 (h : xH) (a0 : Nat) (ho : xobj h a0 9 = true) : xcall 177 [.ref a0] h = den 177 0 [some (.ref a0), none, none] [] h := if_pos ho
theorem D178_0 (L : xL) (st : xS) (h : xH) : den 178 0 L st h = xB xcall (den 178) [.inl (.iload 0), .inr (.lookupswitch 110 #[(100, 108), (101, 110), (102, 100), (103, 110), (104, 102), (105, 110), (106, 110), (107, 110), (108, 110), (109, 110), (110, 110), (111, 108), (112, 110), (113, 110), (114, 108), (115, 104), (116, 110), (117, 110), (118, 110), (119, 106), (120, 108)])] L st h := den_eq (b := k178_0) rfl L st h
theorem D178_100 (L : xL) (st : xS) (h : xH) : den 178 100 L st h = xB xcall (den 178) [.inl (.iconst 2), .inr .ireturn] L st h := den_eq (b := k178_100) rfl L st h
theorem D178_102 (L : xL) (st : xS) (h : xH) : den 178 102 L st h = xB xcall (den 178) [.inl (.iconst 4), .inr .ireturn] L st h := den_eq (b := k178_102) rfl L st h
theorem D178_104 (L : xL) (st : xS) (h : xH) : den 178 104 L st h = xB xcall (den 178) [.inl (.iconst 5), .inr .ireturn] L st h := den_eq (b := k178_104) rfl L st h
theorem D178_106 (L : xL) (st : xS) (h : xH) : den 178 106 L st h = xB xcall (den 178) [.inl (.iconst 3), .inr .ireturn] L st h := den_eq (b := k178_106) rfl L st h
theorem D178_108 (L : xL) (st : xS) (h : xH) : den 178 108 L st h = xB xcall (den 178) [.inl (.iconst 1), .inr .ireturn] L st h := den_eq (b := k178_108) rfl L st h
theorem D178_110 (L : xL) (st : xS) (h : xH) : den 178 110 L st h = xB xcall (den 178) [.inl (.iconst (-1)), .inr .ireturn] L st h := den_eq (b := k178_110) rfl L st h
theorem N178 (h : xH) (a0 : Int32) : xcall 178 [.int a0] h = den 178 0 [some (.int a0)] [] h := if_pos rfl
theorem D179_0 (L : xL) (st : xS) (h : xH) : den 179 0 L st h = xB xcall (den 179) [.inl (.aload 0), .inr (.invokeinterface 174 1), .inl (.istore 1), .inl (.iload 1), .inr (.invokeinterface 178 1), .inl (.istore 2), .inl (.aload 0), .inl (.iload 2), .inl (.iconst (-1)), .inr (.if_icmp .eq 20), .inl (.iconst 1), .inr (.goto 21)] L st h := den_eq (b := k179_0) rfl L st h
theorem D179_20 (L : xL) (st : xS) (h : xH) : den 179 20 L st h = xB xcall (den 179) [.inl (.iconst 0), xto 21] L st h := den_eq (b := k179_20) rfl L st h
theorem D179_21 (L : xL) (st : xS) (h : xH) : den 179 21 L st h = xB xcall (den 179) [.inr (.invokeinterface 175 2), .inl (.aload 0), .inl .dup, .inl (.getfield 304), .inl (.iconst 1), .inl .iadd, .inl (.putfield 304), .inl (.iconst 0), .inl (.istore 3), xto 36] L st h := den_eq (b := k179_21) rfl L st h
theorem D179_36 (L : xL) (st : xS) (h : xH) : den 179 36 L st h = xB xcall (den 179) [.inl (.iload 3), .inl (.iload 2), .inr (.if_icmp .ge 72), .inl (.aload 0), .inl (.getfield 305), .inl (.iconst (-1)), .inr (.if_icmp .ne 72), .inl (.aload 0), .inl (.getfield 308), .inl (.iconst 5), .inl (.aload 0), .inl (.getfield 306), .inl .imul, .inl (.iload 3), .inl .iadd, .inl (.aload 0), .inr (.invokeinterface 177 1), .inl .iastore, .inl (.iinc 3 1), .inr (.goto 36)] L st h := den_eq (b := k179_36) rfl L st h
theorem D179_72 (L : xL) (st : xS) (h : xH) : den 179 72 L st h = xB xcall (den 179) [.inl (.aload 0), .inl (.getfield 305), .inl (.iconst (-1)), .inr (.if_icmp .ne 87), .inl (.aload 0), .inr (.invokeinterface 174 1), .inr (.goto 89)] L st h := den_eq (b := k179_72) rfl L st h
theorem D179_87 (L : xL) (st : xS) (h : xH) : den 179 87 L st h = xB xcall (den 179) [.inl (.iconst 59), xto 89] L st h := den_eq (b := k179_87) rfl L st h
theorem D179_89 (L : xL) (st : xS) (h : xH) : den 179 89 L st h = xB xcall (den 179) [.inl (.istore 3), .inl (.aload 0), .inl (.iload 3), .inl (.iconst 59), .inr (.if_icmp .ne 101), .inl (.iconst 1), .inr (.goto 102)] L st h := den_eq (b := k179_89) rfl L st h
theorem D179_101 (L : xL) (st : xS) (h : xH) : den 179 101 L st h = xB xcall (den 179) [.inl (.iconst 0), xto 102] L st h := den_eq (b := k179_101) rfl L st h
theorem D179_102 (L : xL) (st : xS) (h : xH) : den 179 102 L st h = xB xcall (den 179) [.inr (.invokeinterface 175 2), .inl (.aload 0), .inl (.getfield 307), .inl (.aload 0), .inl (.getfield 306), .inl (.iload 1), .inl .iastore, .inl (.aload 0), .inl .dup, .inl (.getfield 304), .inl (.iconst 1), .inl .iadd, .inl (.putfield 304), .inl (.aload 0), .inl .dup, .inl (.getfield 306), .inl (.iconst 1), .inl .iadd, .inl (.putfield 306), .inr .return_] L st h := den_eq (b := k179_102) rfl L st h
theorem N179 (h : xH) (a0 : Nat) (ho : xobj h a0 9 = true) : xcall 179 [.ref a0] h = den 179 0 [some (.ref a0), none, none, none] [] h := if_pos ho
theorem D180_0 (L : xL) (st : xS) (h : xH) : den 180 0 L st h = xB xcall (den 180) [.inl (.aload 0), .inl (.getfield 308), .inl (.iconst 5), .inl (.iload 1), .inl .imul, .inl .iaload, .inl (.istore 2), .inl (.aload 0), .inl (.getfield 308), .inl (.iconst 5), .inl (.iload 1), .inl .imul, .inl (.iconst 1), .inl .iadd, .inl .iaload, .inl (.istore 3), .inl (.aload 0), .inl (.getfield 308), .inl (.iconst 5), .inl (.iload 1), .inl .imul, .inl (.iconst 2), .inl .iadd, .inl .iaload, .inl (.istore 4), .inl (.aload 0), .inl (.getfield 308), .inl (.iconst 5), .inl (.iload 1), .inl .imul, .inl (.iconst 3), .inl .iadd, .inl .iaload, .inl (.istore 5), .inl (.aload 0), .inl (.getfield 307), .inl (.iload 1), .inl .iaload, .inr (.lookupswitch 217 #[(100, 210), (101, 217), (102, 148), (103, 217), (104, 155), (105, 217), (106, 217), (107, 217), (108, 217), (109, 217), (110, 217), (111, 217), (112, 217), (113, 217), (114, 197), (115, 167), (116, 217), (117, 217), (118, 217), (119, 188), (120, 204)])] L st h := den_eq (b := k180_0) rfl L st h
theorem D180_148 (L : xL) (st : xS) (h : xH) : den 180 148 L st h = xB xcall (den 180) [.inl (.aload 0), .inl (.iload 2), .inl (.iload 3), .inr (.invokeinterface 124 3), .inr .ireturn] L st h := den_eq (b := k180_148) rfl L st h
theorem D180_155 (L : xL) (st : xS) (h : xH) : den 180 155 L st h = xB xcall (den 180) [.inl (.aload 0), .inl (.iload 2), .inl (.iload 3), .inl (.iload 4), .inl (.iload 5), .inl (.iconst (-1)), .inr (.invokeinterface 129 6), .inr .ireturn] L st h := den_eq (b := k180_155) rfl L st h
theorem D180_167 (L : xL) (st : xS) (h : xH) : den 180 167 L st h = xB xcall (den 180) [.inl (.aload 0), .inl (.iload 3), .inl (.iload 4), .inl (.iload 5), .inl (.aload 0), .inl (.getfield 308), .inl (.iconst 5), .inl (.iload 1), .inl .imul, .inl (.iconst 4), .inl .iadd, .inl .iaload, .inl (.iload 2), .inr (.invokeinterface 129 6), .inr .ireturn] L st h := den_eq (b := k180_167) rfl L st h
theorem D180_188 (L : xL) (st : xS) (h : xH) : den 180 188 L st h = xB xcall (den 180) [.inl (.aload 0), .inl (.iload 2), .inl (.iload 3), .inl (.iload 4), .inr (.invokeinterface 126 4), .inr .ireturn] L st h := den_eq (b := k180_188) rfl L st h
theorem D180_197 (L : xL) (st : xS) (h : xH) : den 180 197 L st h = xB xcall (den 180) [.inl (.aload 0), .inl (.iload 2), .inl (.iconst 1), .inr (.invokeinterface 127 3), .inr .ireturn] L st h := den_eq (b := k180_197) rfl L st h
theorem D180_204 (L : xL) (st : xS) (h : xH) : den 180 204 L st h = xB xcall (den 180) [.inl (.aload 0), .inl (.iload 2), .inr (.invokeinterface 130 2), .inr .ireturn] L st h := den_eq (b := k180_204) rfl L st h
theorem D180_210 (L : xL) (st : xS) (h : xH) : den 180 210 L st h = xB xcall (den 180) [.inl (.aload 0), .inl (.iconst 0), .inl (.iload 2), .inr (.invokeinterface 169 3), .inr .ireturn] L st h := den_eq (b := k180_210) rfl L st h
theorem D180_217 (L : xL) (st : xS) (h : xH) : den 180 217 L st h = xB xcall (den 180) [.inl (.aload 0), .inl (.iconst 1), .inl (.iload 2), .inr (.invokeinterface 169 3), .inr .ireturn] L st h := den_eq (b := k180_217) rfl L st h
theorem N180 (h : xH) (a0 : Nat) (a1 : Int32) (ho : xobj h a0 9 = true) : xcall 180 [.ref a0, .int a1] h = den 180 0 [some (.ref a0), some (.int a1), none, none, none, none] [] h := if_pos ho
theorem D181_0 (L : xL) (st : xS) (h : xH) : den 181 0 L st h = xB xcall (den 181) [.inl (.aload 0), .inl (.iconst 0), .inl (.putfield 304), .inl (.aload 0), .inl (.iconst (-1)), .inl (.putfield 305), .inl (.aload 0), .inl (.iconst 0), .inl (.putfield 306), .inl (.aload 0), .inl (.aload 0), .inr (.invokeinterface 174 1), .inl (.iconst (-1)), .inr (.if_icmp .eq 28), .inl (.iconst 1), .inr (.goto 29)] L st h := den_eq (b := k181_0) rfl L st h
theorem D181_28 (L : xL) (st : xS) (h : xH) : den 181 28 L st h = xB xcall (den 181) [.inl (.iconst 0), xto 29] L st h := den_eq (b := k181_28) rfl L st h
theorem D181_29 (L : xL) (st : xS) (h : xH) : den 181 29 L st h = xB xcall (den 181) [.inr (.invokeinterface 175 2), xto 32] L st h := den_eq (b := k181_29) rfl L st h
theorem D181_32 (L : xL) (st : xS) (h : xH) : den 181 32 L st h = xB xcall (den 181) [.inl (.aload 0), .inl (.getfield 305), .inl (.iconst (-1)), .inr (.if_icmp .ne 55), .inl (.aload 0), .inr (.invokeinterface 174 1), .inl (.iconst (-1)), .inr (.if_icmp .eq 55), .inl (.aload 0), .inr (.invokeinterface 179 1), .inr (.goto 32)] L st h := den_eq (b := k181_32) rfl L st h
theorem D181_55 (L : xL) (st : xS) (h : xH) : den 181 55 L st h = xB xcall (den 181) [.inl (.aload 0), .inl (.getfield 305), .inl (.iconst (-1)), .inr (.if_icmp .eq 71), .inl (.iconst (-10)), .inl (.aload 0), .inl (.getfield 305), .inl .isub, .inr .ireturn] L st h := den_eq (b := k181_55) rfl L st h
theorem D181_71 (L : xL) (st : xS) (h : xH) : den 181 71 L st h = xB xcall (den 181) [.inl (.aload 0), .inr (.invokeinterface 113 1), .inl (.iconst 0), .inl (.istore 1), .inl (.iconst 0), .inl (.istore 2), xto 79] L st h := den_eq (b := k181_71) rfl L st h
theorem D181_79 (L : xL) (st : xS) (h : xH) : den 181 79 L st h = xB xcall (den 181) [.inl (.iload 2), .inl (.aload 0), .inl (.getfield 306), .inr (.if_icmp .ge 109), .inl (.iload 1), .inl (.aload 0), .inl (.iload 2), .inr (.invokeinterface 180 2), .inr (.ifCond .lt 100), .inl (.iconst 1), .inr (.goto 101)] L st h := den_eq (b := k181_79) rfl L st h
theorem D181_100 (L : xL) (st : xS) (h : xH) : den 181 100 L st h = xB xcall (den 181) [.inl (.iconst 0), xto 101] L st h := den_eq (b := k181_100) rfl L st h
theorem D181_101 (L : xL) (st : xS) (h : xH) : den 181 101 L st h = xB xcall (den 181) [.inl .iadd, .inl (.istore 1), .inl (.iinc 2 1), .inr (.goto 79)] L st h := den_eq (b := k181_101) rfl L st h
theorem D181_109 (L : xL) (st : xS) (h : xH) : den 181 109 L st h = xB xcall (den 181) [.inl (.aload 0), .inr (.invokeinterface 114 1), .inl (.iload 1), .inr .ireturn] L st h := den_eq (b := k181_109) rfl L st h
theorem N181 (h : xH) (a0 : Nat) (ho : xobj h a0 9 = true) : xcall 181 [.ref a0] h = den 181 0 [some (.ref a0), none, none] [] h := if_pos ho
theorem D182_0 (L : xL) (st : xS) (h : xH) : den 182 0 L st h = xB xcall (den 182) [.inl (.iload 1), .inl (.iconst 3), .inr (.if_icmp .ge 14), .inl (.aload 0), .inl (.getfield 292), .inl (.iload 1), .inl .iaload, .inr (.goto 59)] L st h := den_eq (b := k182_0) rfl L st h
theorem D182_14 (L : xL) (st : xS) (h : xH) : den 182 14 L st h = xB xcall (den 182) [.inl (.iload 1), .inl (.iconst 3), .inr (.if_icmp .ne 26), .inl (.aload 0), .inl (.getfield 303), .inr (.goto 59)] L st h := den_eq (b := k182_14) rfl L st h
theorem D182_26 (L : xL) (st : xS) (h : xH) : den 182 26 L st h = xB xcall (den 182) [.inl (.iload 1), .inl (.iconst 4), .inr (.if_icmp .ne 40), .inl (.aload 0), .inl (.getfield 288), .inl (.iconst 0), .inl .iaload, .inr (.goto 59)] L st h := den_eq (b := k182_26) rfl L st h
theorem D182_40 (L : xL) (st : xS) (h : xH) : den 182 40 L st h = xB xcall (den 182) [.inl (.iload 1), .inl (.iconst 5), .inr (.if_icmp .ne 55), .inl (.aload 0), .inl (.getfield 288), .inl (.iconst 57), .inl .iaload, .inr (.goto 59)] L st h := den_eq (b := k182_40) rfl L st h
theorem D182_55 (L : xL) (st : xS) (h : xH) : den 182 55 L st h = xB xcall (den 182) [.inl (.aload 0), .inl (.getfield 291), xto 59] L st h := den_eq (b := k182_55) rfl L st h
theorem D182_59 (L : xL) (st : xS) (h : xH) : den 182 59 L st h = xB xcall (den 182) [.inr .ireturn] L st h := den_eq (b := k182_59) rfl L st h
theorem N182 (h : xH) (a0 : Nat) (a1 : Int32) (ho : xobj h a0 9 = true) : xcall 182 [.ref a0, .int a1] h = den 182 0 [some (.ref a0), some (.int a1)] [] h := if_pos ho
theorem D183_0 (L : xL) (st : xS) (h : xH) : den 183 0 L st h = xB xcall (den 183) [.inl (.iload 1), .inl (.iconst 0), .inl (.iconst 6), .inr (.invokeinterface 110 3), .inr (.ifCond .eq 18), .inl (.aload 0), .inl (.iload 1), .inr (.invokeinterface 182 2), .inr (.goto 24)] L st h := den_eq (b := k183_0) rfl L st h
theorem D183_18 (L : xL) (st : xS) (h : xH) : den 183 18 L st h = xB xcall (den 183) [.inl (.aload 0), .inl (.iconst (-2)), .inr (.invokeinterface 112 2), xto 24] L st h := den_eq (b := k183_18) rfl L st h
theorem D183_24 (L : xL) (st : xS) (h : xH) : den 183 24 L st h = xB xcall (den 183) [.inr .ireturn] L st h := den_eq (b := k183_24) rfl L st h
theorem N183 (h : xH) (a0 : Nat) (a1 : Int32) (ho : xobj h a0 9 = true) : xcall 183 [.ref a0, .int a1] h = den 183 0 [some (.ref a0), some (.int a1)] [] h := if_pos ho
theorem D184_0 (L : xL) (st : xS) (h : xH) : den 184 0 L st h = xB xcall (den 184) [.inl (.aload 0), .inl (.sipush 31), .inl (.aload 0), .inl (.getfield 309), .inl .lmul, .inl (.iload 1), .inl .i2l, .inl .ladd, .inl (.putfield 309), .inr .return_] L st h := den_eq (b := k184_0) rfl L st h
theorem N184 (h : xH) (a0 : Nat) (a1 : Int32) (ho : xobj h a0 9 = true) : xcall 184 [.ref a0, .int a1] h = den 184 0 [some (.ref a0), some (.int a1)] [] h := if_pos ho
theorem D185_0 (L : xL) (st : xS) (h : xH) : den 185 0 L st h = xB xcall (den 185) [.inl (.aload 0), .inl (.sipush 2423), .inl (.putfield 309), .inl (.iconst 0), .inl (.istore 1), xto 9] L st h := den_eq (b := k185_0) rfl L st h
theorem D185_9 (L : xL) (st : xS) (h : xH) : den 185 9 L st h = xB xcall (den 185) [.inl (.iload 1), .inl (.iconst 7), .inr (.if_icmp .ge 30), .inl (.aload 0), .inl (.aload 0), .inl (.iload 1), .inr (.invokeinterface 182 2), .inr (.invokeinterface 184 2), .inl (.iinc 1 1), .inr (.goto 9)] L st h := den_eq (b := k185_9) rfl L st h
theorem D185_30 (L : xL) (st : xS) (h : xH) : den 185 30 L st h = xB xcall (den 185) [.inl (.iconst 0), .inl (.istore 1), xto 32] L st h := den_eq (b := k185_30) rfl L st h
theorem D185_32 (L : xL) (st : xS) (h : xH) : den 185 32 L st h = xB xcall (den 185) [.inl (.iload 1), .inl (.aload 0), .inr (.invokeinterface 117 1), .inr (.if_icmp .ge 96), .inl (.iconst 0), .inl (.istore 2), xto 42] L st h := den_eq (b := k185_32) rfl L st h
theorem D185_42 (L : xL) (st : xS) (h : xH) : den 185 42 L st h = xB xcall (den 185) [.inl (.iload 2), .inl (.iconst 6), .inr (.if_icmp .ge 64), .inl (.aload 0), .inl (.aload 0), .inl (.iload 1), .inl (.iload 2), .inr (.invokeinterface 150 3), .inr (.invokeinterface 184 2), .inl (.iinc 2 1), .inr (.goto 42)] L st h := den_eq (b := k185_42) rfl L st h
theorem D185_64 (L : xL) (st : xS) (h : xH) : den 185 64 L st h = xB xcall (den 185) [.inl (.iconst 0), .inl (.istore 2), xto 66] L st h := den_eq (b := k185_64) rfl L st h
theorem D185_66 (L : xL) (st : xS) (h : xH) : den 185 66 L st h = xB xcall (den 185) [.inl (.iload 2), .inl (.iconst 8), .inr (.if_icmp .ge 90), .inl (.aload 0), .inl (.aload 0), .inl (.iload 1), .inl (.iconst 5), .inl (.iload 2), .inl .iadd, .inr (.invokeinterface 120 3), .inr (.invokeinterface 184 2), .inl (.iinc 2 1), .inr (.goto 66)] L st h := den_eq (b := k185_66) rfl L st h
theorem D185_90 (L : xL) (st : xS) (h : xH) : den 185 90 L st h = xB xcall (den 185) [.inl (.iinc 1 1), .inr (.goto 32)] L st h := den_eq (b := k185_90) rfl L st h
theorem D185_96 (L : xL) (st : xS) (h : xH) : den 185 96 L st h = xB xcall (den 185) [.inl (.iconst 0), .inl (.istore 1), xto 98] L st h := den_eq (b := k185_96) rfl L st h
theorem D185_98 (L : xL) (st : xS) (h : xH) : den 185 98 L st h = xB xcall (den 185) [.inl (.iload 1), .inl (.iconst 6), .inl (.aload 0), .inl (.getfield 288), .inl (.iconst 57), .inl .iaload, .inl .imul, .inr (.if_icmp .ge 134), .inl (.aload 0), .inl (.aload 0), .inl (.iload 1), .inl (.iconst 6), .inl .idiv, .inl (.iload 1), .inl (.iconst 6), .inl .irem, .inr (.invokeinterface 152 3), .inr (.invokeinterface 184 2), .inl (.iinc 1 1), .inr (.goto 98)] L st h := den_eq (b := k185_98) rfl L st h
theorem D185_134 (L : xL) (st : xS) (h : xH) : den 185 134 L st h = xB xcall (den 185) [.inl (.aload 0), .inl (.aload 0), .inr (.invokeinterface 154 1), .inr (.invokeinterface 184 2), .inl (.aload 0), .inl (.aload 0), .inl (.iconst (-1)), .inl (.iconst 0), .inr (.invokeinterface 156 3), .inr (.invokeinterface 184 2), .inl (.aload 0), .inl (.aload 0), .inr (.invokeinterface 162 1), .inr (.invokeinterface 184 2), .inl (.aload 0), .inl (.aload 0), .inl (.getfield 288), .inl (.iconst 98), .inl .iaload, .inr (.invokeinterface 184 2), .inl (.iconst 0), .inl (.istore 1), xto 173] L st h := den_eq (b := k185_134) rfl L st h
theorem D185_173 (L : xL) (st : xS) (h : xH) : den 185 173 L st h = xB xcall (den 185) [.inl (.iload 1), .inl (.aload 0), .inl (.getfield 288), .inl (.iconst 98), .inl .iaload, .inr (.if_icmp .ge 224), .inl (.iconst 0), .inl (.istore 2), xto 186] L st h := den_eq (b := k185_173) rfl L st h
theorem D185_186 (L : xL) (st : xS) (h : xH) : den 185 186 L st h = xB xcall (den 185) [.inl (.iload 2), .inl (.aload 0), .inr (.invokeinterface 117 1), .inr (.if_icmp .ge 218), .inl (.aload 0), .inl (.aload 0), .inl (.aload 0), .inl (.getfield 288), .inl (.iconst 99), .inl (.iload 1), .inl .iadd, .inl .iaload, .inl (.iload 2), .inr (.invokeinterface 139 3), .inr (.invokeinterface 184 2), .inl (.iinc 2 1), .inr (.goto 186)] L st h := den_eq (b := k185_186) rfl L st h
theorem D185_218 (L : xL) (st : xS) (h : xH) : den 185 218 L st h = xB xcall (den 185) [.inl (.iinc 1 1), .inr (.goto 173)] L st h := den_eq (b := k185_218) rfl L st h
theorem D185_224 (L : xL) (st : xS) (h : xH) : den 185 224 L st h = xB xcall (den 185) [.inl (.aload 0), .inl (.getfield 309), .inr .lreturn] L st h := den_eq (b := k185_224) rfl L st h
theorem N185 (h : xH) (a0 : Nat) (ho : xobj h a0 9 = true) : xcall 185 [.ref a0] h = den 185 0 [some (.ref a0), none, none] [] h := if_pos ho
theorem D186_0 (L : xL) (st : xS) (h : xH) : den 186 0 L st h = xB xcall (den 186) [.inl (.iload 0), .inl (.iload 0), .inl (.iconst 1), .inl .iushr, .inl (.iconst 1431655765), .inl .iand, .inl .isub, .inl (.istore 0), .inl (.iload 0), .inl (.iconst 858993459), .inl .iand, .inl (.iload 0), .inl (.iconst 2), .inl .iushr, .inl (.iconst 858993459), .inl .iand, .inl .iadd, .inl (.istore 0), .inl (.iload 0), .inl (.iload 0), .inl (.iconst 4), .inl .iushr, .inl .iadd, .inl (.iconst 252645135), .inl .iand, .inl (.istore 0), .inl (.iload 0), .inl (.iload 0), .inl (.iconst 8), .inl .iushr, .inl .iadd, .inl (.istore 0), .inl (.iload 0), .inl (.iload 0), .inl (.iconst 16), .inl .iushr, .inl .iadd, .inl (.istore 0), .inl (.iload 0), .inl (.iconst 63), .inl .iand, .inr .ireturn] L st h := den_eq (b := k186_0) rfl L st h
theorem N186 (h : xH) (a0 : Int32) : xcall 186 [.int a0] h = den 186 0 [some (.int a0)] [] h := if_pos rfl
theorem D187_0 (L : xL) (st : xS) (h : xH) : den 187 0 L st h = xB xcall (den 187) [.inl (.lload 0), .inl (.lload 0), .inl (.iconst 1), .inl .lushr, .inl (.sipush 6148914691236517205), .inl .land, .inl .lsub, .inl (.lstore 0), .inl (.lload 0), .inl (.sipush 3689348814741910323), .inl .land, .inl (.lload 0), .inl (.iconst 2), .inl .lushr, .inl (.sipush 3689348814741910323), .inl .land, .inl .ladd, .inl (.lstore 0), .inl (.lload 0), .inl (.lload 0), .inl (.iconst 4), .inl .lushr, .inl .ladd, .inl (.sipush 1085102592571150095), .inl .land, .inl (.lstore 0), .inl (.lload 0), .inl (.lload 0), .inl (.iconst 8), .inl .lushr, .inl .ladd, .inl (.lstore 0), .inl (.lload 0), .inl (.lload 0), .inl (.iconst 16), .inl .lushr, .inl .ladd, .inl (.lstore 0), .inl (.lload 0), .inl (.lload 0), .inl (.iconst 32), .inl .lushr, .inl .ladd, .inl (.lstore 0), .inl (.lload 0), .inl .l2i, .inl (.iconst 127), .inl .iand, .inr .ireturn] L st h := den_eq (b := k187_0) rfl L st h
theorem N187 (h : xH) (a0 : Int64) : xcall 187 [.long a0] h = den 187 0 [some (.long a0), none] [] h := if_pos rfl
theorem D188_0 (L : xL) (st : xS) (h : xH) : den 188 0 L st h = xB xcall (den 188) [.inl (.new 8), .inl .dup, .inr (.invokeinterface 67 1), .inl (.astore 1), .inl (.new 9), .inl .dup, .inr (.invokeinterface 109 1), .inl (.astore 2), .inl (.iconst 0), .inl (.istore 3), xto 18] L st h := den_eq (b := k188_0) rfl L st h
theorem D188_18 (L : xL) (st : xS) (h : xH) : den 188 18 L st h = xB xcall (den 188) [.inl (.iload 3), .inl (.aload 0), .inl .arraylength, .inl (.iconst 6), .inl .isub, .inr (.if_icmp .gt 813), .inl (.aload 0), .inl (.iload 3), .inl .iaload, .inl (.iconst 31), .inl .iand, .inr (.lookupswitch 807 #[(0, 144), (1, 177), (2, 220), (3, 263), (4, 296), (5, 329), (6, 392), (7, 415), (8, 448), (9, 481), (10, 494), (11, 527), (12, 560), (13, 583), (14, 606), (15, 629), (16, 642), (17, 675), (18, 708), (19, 731), (20, 744), (21, 757), (22, 770), (23, 793)])] L st h := den_eq (b := k188_18) rfl L st h
theorem D188_144 (L : xL) (st : xS) (h : xH) : den 188 144 L st h = xB xcall (den 188) [.inl (.aload 1), .inl (.aload 0), .inl (.iload 3), .inl (.iconst 1), .inl .iadd, .inl .iaload, .inl (.aload 0), .inl (.iload 3), .inl (.iconst 2), .inl .iadd, .inl .iaload, .inr (.invokeinterface 68 3), .inl (.aload 2), .inl (.aload 0), .inl (.iload 3), .inl (.iconst 1), .inl .iadd, .inl .iaload, .inl (.aload 0), .inl (.iload 3), .inl (.iconst 2), .inl .iadd, .inl .iaload, .inr (.invokeinterface 131 3), .inr (.if_icmp .eq 807), .inl (.iconst 0), .inr .areturn] L st h := den_eq (b := k188_144) rfl L st h
theorem D188_177 (L : xL) (st : xS) (h : xH) : den 188 177 L st h = xB xcall (den 188) [.inl (.aload 1), .inl (.aload 0), .inl (.iload 3), .inl (.iconst 1), .inl .iadd, .inl .iaload, .inl (.aload 0), .inl (.iload 3), .inl (.iconst 2), .inl .iadd, .inl .iaload, .inl (.aload 0), .inl (.iload 3), .inl (.iconst 3), .inl .iadd, .inl .iaload, .inr (.invokeinterface 69 4), .inl (.aload 2), .inl (.aload 0), .inl (.iload 3), .inl (.iconst 1), .inl .iadd, .inl .iaload, .inl (.aload 0), .inl (.iload 3), .inl (.iconst 2), .inl .iadd, .inl .iaload, .inl (.aload 0), .inl (.iload 3), .inl (.iconst 3), .inl .iadd, .inl .iaload, .inr (.invokeinterface 132 4), .inr (.if_icmp .eq 807), .inl (.iconst 0), .inr .areturn] L st h := den_eq (b := k188_177) rfl L st h
theorem D188_220 (L : xL) (st : xS) (h : xH) : den 188 220 L st h = xB xcall (den 188) [.inl (.aload 1), .inl (.aload 0), .inl (.iload 3), .inl (.iconst 1), .inl .iadd, .inl .iaload, .inl (.aload 0), .inl (.iload 3), .inl (.iconst 2), .inl .iadd, .inl .iaload, .inl (.aload 0), .inl (.iload 3), .inl (.iconst 3), .inl .iadd, .inl .iaload, .inr (.invokeinterface 70 4), .inl (.aload 2), .inl (.aload 0), .inl (.iload 3), .inl (.iconst 1), .inl .iadd, .inl .iaload, .inl (.aload 0), .inl (.iload 3), .inl (.iconst 2), .inl .iadd, .inl .iaload, .inl (.aload 0), .inl (.iload 3), .inl (.iconst 3), .inl .iadd, .inl .iaload, .inr (.invokeinterface 133 4), .inr (.if_icmp .eq 807), .inl (.iconst 0), .inr .areturn] L st h := den_eq (b := k188_220) rfl L st h
theorem D188_263 (L : xL) (st : xS) (h : xH) : den 188 263 L st h = xB xcall (den 188) [.inl (.aload 1), .inl (.aload 0), .inl (.iload 3), .inl (.iconst 1), .inl .iadd, .inl .iaload, .inl (.aload 0), .inl (.iload 3), .inl (.iconst 2), .inl .iadd, .inl .iaload, .inr (.invokeinterface 71 3), .inl (.aload 2), .inl (.aload 0), .inl (.iload 3), .inl (.iconst 1), .inl .iadd, .inl .iaload, .inl (.aload 0), .inl (.iload 3), .inl (.iconst 2), .inl .iadd, .inl .iaload, .inr (.invokeinterface 134 3), .inr (.if_icmp .eq 807), .inl (.iconst 0), .inr .areturn] L st h := den_eq (b := k188_263) rfl L st h
theorem D188_296 (L : xL) (st : xS) (h : xH) : den 188 296 L st h = xB xcall (den 188) [.inl (.aload 1), .inl (.aload 0), .inl (.iload 3), .inl (.iconst 1), .inl .iadd, .inl .iaload, .inl (.aload 0), .inl (.iload 3), .inl (.iconst 2), .inl .iadd, .inl .iaload, .inr (.invokeinterface 72 3), .inl (.aload 2), .inl (.aload 0), .inl (.iload 3), .inl (.iconst 1), .inl .iadd, .inl .iaload, .inl (.aload 0), .inl (.iload 3), .inl (.iconst 2), .inl .iadd, .inl .iaload, .inr (.invokeinterface 136 3), .inr (.if_icmp .eq 807), .inl (.iconst 0), .inr .areturn] L st h := den_eq (b := k188_296) rfl L st h
theorem D188_329 (L : xL) (st : xS) (h : xH) : den 188 329 L st h = xB xcall (den 188) [.inl (.aload 1), .inl (.aload 0), .inl (.iload 3), .inl (.iconst 1), .inl .iadd, .inl .iaload, .inl (.aload 0), .inl (.iload 3), .inl (.iconst 2), .inl .iadd, .inl .iaload, .inl (.aload 0), .inl (.iload 3), .inl (.iconst 3), .inl .iadd, .inl .iaload, .inl (.aload 0), .inl (.iload 3), .inl (.iconst 4), .inl .iadd, .inl .iaload, .inl (.aload 0), .inl (.iload 3), .inl (.iconst 5), .inl .iadd, .inl .iaload, .inr (.invokeinterface 73 6), .inl (.aload 2), .inl (.aload 0), .inl (.iload 3), .inl (.iconst 1), .inl .iadd, .inl .iaload, .inl (.aload 0), .inl (.iload 3), .inl (.iconst 2), .inl .iadd, .inl .iaload, .inl (.aload 0), .inl (.iload 3), .inl (.iconst 3), .inl .iadd, .inl .iaload, .inl (.aload 0), .inl (.iload 3), .inl (.iconst 4), .inl .iadd, .inl .iaload, .inl (.aload 0), .inl (.iload 3), .inl (.iconst 5), .inl .iadd, .inl .iaload, .inr (.invokeinterface 137 6), .inr (.if_icmp .eq 807), .inl (.iconst 0), .inr .areturn] L st h := den_eq (b := k188_329) rfl L st h
theorem D188_392 (L : xL) (st : xS) (h : xH) : den 188 392 L st h = xB xcall (den 188) [.inl (.aload 1), .inl (.aload 0), .inl (.iload 3), .inl (.iconst 1), .inl .iadd, .inl .iaload, .inr (.invokeinterface 74 2), .inl (.aload 2), .inl (.aload 0), .inl (.iload 3), .inl (.iconst 1), .inl .iadd, .inl .iaload, .inr (.invokeinterface 138 2), .inr (.if_icmp .eq 807), .inl (.iconst 0), .inr .areturn] L st h := den_eq (b := k188_392) rfl L st h
theorem D188_415 (L : xL) (st : xS) (h : xH) : den 188 415 L st h = xB xcall (den 188) [.inl (.aload 1), .inl (.aload 0), .inl (.iload 3), .inl (.iconst 1), .inl .iadd, .inl .iaload, .inl (.aload 0), .inl (.iload 3), .inl (.iconst 2), .inl .iadd, .inl .iaload, .inr (.invokeinterface 75 3), .inl (.aload 2), .inl (.aload 0), .inl (.iload 3), .inl (.iconst 1), .inl .iadd, .inl .iaload, .inl (.aload 0), .inl (.iload 3), .inl (.iconst 2), .inl .iadd, .inl .iaload, .inr (.invokeinterface 151 3), .inr (.if_icmp .eq 807), .inl (.iconst 0), .inr .areturn] L st h := den_eq (b := k188_415) rfl L st h
theorem D188_448 (L : xL) (st : xS) (h : xH) : den 188 448 L st h = xB xcall (den 188) [.inl (.aload 1), .inl (.aload 0), .inl (.iload 3), .inl (.iconst 1), .inl .iadd, .inl .iaload, .inl (.aload 0), .inl (.iload 3), .inl (.iconst 2), .inl .iadd, .inl .iaload, .inr (.invokeinterface 76 3), .inl (.aload 2), .inl (.aload 0), .inl (.iload 3), .inl (.iconst 1), .inl .iadd, .inl .iaload, .inl (.aload 0), .inl (.iload 3), .inl (.iconst 2), .inl .iadd, .inl .iaload, .inr (.invokeinterface 153 3), .inr (.if_icmp .eq 807), .inl (.iconst 0), .inr .areturn] L st h := den_eq (b := k188_448) rfl L st h
theorem D188_481 (L : xL) (st : xS) (h : xH) : den 188 481 L st h = xB xcall (den 188) [.inl (.aload 1), .inr (.invokeinterface 77 1), .inl (.aload 2), .inr (.invokeinterface 154 1), .inr (.if_icmp .eq 807), .inl (.iconst 0), .inr .areturn] L st h := den_eq (b := k188_481) rfl L st h
theorem D188_494 (L : xL) (st : xS) (h : xH) : den 188 494 L st h = xB xcall (den 188) [.inl (.aload 1), .inl (.aload 0), .inl (.iload 3), .inl (.iconst 1), .inl .iadd, .inl .iaload, .inl (.aload 0), .inl (.iload 3), .inl (.iconst 2), .inl .iadd, .inl .iaload, .inr (.invokeinterface 78 3), .inl (.aload 2), .inl (.aload 0), .inl (.iload 3), .inl (.iconst 1), .inl .iadd, .inl .iaload, .inl (.aload 0), .inl (.iload 3), .inl (.iconst 2), .inl .iadd, .inl .iaload, .inr (.invokeinterface 155 3), .inr (.if_icmp .eq 807), .inl (.iconst 0), .inr .areturn] L st h := den_eq (b := k188_494) rfl L st h
theorem D188_527 (L : xL) (st : xS) (h : xH) : den 188 527 L st h = xB xcall (den 188) [.inl (.aload 1), .inl (.aload 0), .inl (.iload 3), .inl (.iconst 1), .inl .iadd, .inl .iaload, .inl (.aload 0), .inl (.iload 3), .inl (.iconst 2), .inl .iadd, .inl .iaload, .inr (.invokeinterface 79 3), .inl (.aload 2), .inl (.aload 0), .inl (.iload 3), .inl (.iconst 1), .inl .iadd, .inl .iaload, .inl (.aload 0), .inl (.iload 3), .inl (.iconst 2), .inl .iadd, .inl .iaload, .inr (.invokeinterface 157 3), .inr (.if_icmp .eq 807), .inl (.iconst 0), .inr .areturn] L st h := den_eq (b := k188_527) rfl L st h
theorem D188_560 (L : xL) (st : xS) (h : xH) : den 188 560 L st h = xB xcall (den 188) [.inl (.aload 1), .inl (.aload 0), .inl (.iload 3), .inl (.iconst 1), .inl .iadd, .inl .iaload, .inr (.invokeinterface 80 2), .inl (.aload 2), .inl (.aload 0), .inl (.iload 3), .inl (.iconst 1), .inl .iadd, .inl .iaload, .inr (.invokeinterface 159 2), .inr (.if_icmp .eq 807), .inl (.iconst 0), .inr .areturn] L st h := den_eq (b := k188_560) rfl L st h
theorem D188_583 (L : xL) (st : xS) (h : xH) : den 188 583 L st h = xB xcall (den 188) [.inl (.aload 1), .inl (.aload 0), .inl (.iload 3), .inl (.iconst 1), .inl .iadd, .inl .iaload, .inr (.invokeinterface 81 2), .inl (.aload 2), .inl (.aload 0), .inl (.iload 3), .inl (.iconst 1), .inl .iadd, .inl .iaload, .inr (.invokeinterface 160 2), .inr (.if_icmp .eq 807), .inl (.iconst 0), .inr .areturn] L st h := den_eq (b := k188_583) rfl L st h
theorem D188_606 (L : xL) (st : xS) (h : xH) : den 188 606 L st h = xB xcall (den 188) [.inl (.aload 1), .inl (.aload 0), .inl (.iload 3), .inl (.iconst 1), .inl .iadd, .inl .iaload, .inr (.invokeinterface 82 2), .inl (.aload 2), .inl (.aload 0), .inl (.iload 3), .inl (.iconst 1), .inl .iadd, .inl .iaload, .inr (.invokeinterface 161 2), .inr (.if_icmp .eq 807), .inl (.iconst 0), .inr .areturn] L st h := den_eq (b := k188_606) rfl L st h
theorem D188_629 (L : xL) (st : xS) (h : xH) : den 188 629 L st h = xB xcall (den 188) [.inl (.aload 1), .inr (.invokeinterface 83 1), .inl (.aload 2), .inr (.invokeinterface 162 1), .inr (.if_icmp .eq 807), .inl (.iconst 0), .inr .areturn] L st h := den_eq (b := k188_629) rfl L st h
theorem D188_642 (L : xL) (st : xS) (h : xH) : den 188 642 L st h = xB xcall (den 188) [.inl (.aload 1), .inl (.aload 0), .inl (.iload 3), .inl (.iconst 1), .inl .iadd, .inl .iaload, .inl (.aload 0), .inl (.iload 3), .inl (.iconst 2), .inl .iadd, .inl .iaload, .inr (.invokeinterface 84 3), .inl (.aload 2), .inl (.aload 0), .inl (.iload 3), .inl (.iconst 1), .inl .iadd, .inl .iaload, .inl (.aload 0), .inl (.iload 3), .inl (.iconst 2), .inl .iadd, .inl .iaload, .inr (.invokeinterface 170 3), .inr (.if_icmp .eq 807), .inl (.iconst 0), .inr .areturn] L st h := den_eq (b := k188_642) rfl L st h
theorem D188_675 (L : xL) (st : xS) (h : xH) : den 188 675 L st h = xB xcall (den 188) [.inl (.aload 1), .inl (.aload 0), .inl (.iload 3), .inl (.iconst 1), .inl .iadd, .inl .iaload, .inl (.aload 0), .inl (.iload 3), .inl (.iconst 2), .inl .iadd, .inl .iaload, .inr (.invokeinterface 85 3), .inl (.aload 2), .inl (.aload 0), .inl (.iload 3), .inl (.iconst 1), .inl .iadd, .inl .iaload, .inl (.aload 0), .inl (.iload 3), .inl (.iconst 2), .inl .iadd, .inl .iaload, .inr (.invokeinterface 171 3), .inr (.if_icmp .eq 807), .inl (.iconst 0), .inr .areturn] L st h := den_eq (b := k188_675) rfl L st h
theorem D188_708 (L : xL) (st : xS) (h : xH) : den 188 708 L st h = xB xcall (den 188) [.inl (.aload 1), .inl (.aload 0), .inl (.iload 3), .inl (.iconst 1), .inl .iadd, .inl .iaload, .inr (.invokeinterface 86 2), .inl (.aload 2), .inl (.aload 0), .inl (.iload 3), .inl (.iconst 1), .inl .iadd, .inl .iaload, .inr (.invokeinterface 172 2), .inr (.if_icmp .eq 807), .inl (.iconst 0), .inr .areturn] L st h := den_eq (b := k188_708) rfl L st h
theorem D188_731 (L : xL) (st : xS) (h : xH) : den 188 731 L st h = xB xcall (den 188) [.inl (.aload 1), .inr (.invokeinterface 87 1), .inl (.aload 2), .inr (.invokeinterface 173 1), .inr (.if_icmp .eq 807), .inl (.iconst 0), .inr .areturn] L st h := den_eq (b := k188_731) rfl L st h
theorem D188_744 (L : xL) (st : xS) (h : xH) : den 188 744 L st h = xB xcall (den 188) [.inl (.aload 1), .inr (.invokeinterface 88 1), .inl (.aload 2), .inr (.invokeinterface 181 1), .inr (.if_icmp .eq 807), .inl (.iconst 0), .inr .areturn] L st h := den_eq (b := k188_744) rfl L st h
theorem D188_757 (L : xL) (st : xS) (h : xH) : den 188 757 L st h = xB xcall (den 188) [.inl (.aload 1), .inr (.invokeinterface 89 1), .inl (.aload 2), .inr (.invokeinterface 116 1), .inr (.if_icmp .eq 807), .inl (.iconst 0), .inr .areturn] L st h := den_eq (b := k188_757) rfl L st h
theorem D188_770 (L : xL) (st : xS) (h : xH) : den 188 770 L st h = xB xcall (den 188) [.inl (.aload 1), .inl (.aload 0), .inl (.iload 3), .inl (.iconst 1), .inl .iadd, .inl .iaload, .inr (.invokeinterface 90 2), .inl (.aload 2), .inl (.aload 0), .inl (.iload 3), .inl (.iconst 1), .inl .iadd, .inl .iaload, .inr (.invokeinterface 183 2), .inr (.if_icmp .eq 807), .inl (.iconst 0), .inr .areturn] L st h := den_eq (b := k188_770) rfl L st h
theorem D188_793 (L : xL) (st : xS) (h : xH) : den 188 793 L st h = xB xcall (den 188) [.inl (.aload 1), .inr (.invokeinterface 91 1), .inl (.aload 2), .inr (.invokeinterface 185 1), .inl .lcmp, .inr (.ifCond .eq 807), .inl (.iconst 0), .inr .areturn] L st h := den_eq (b := k188_793) rfl L st h
theorem D188_807 (L : xL) (st : xS) (h : xH) : den 188 807 L st h = xB xcall (den 188) [.inl (.iinc 3 6), .inr (.goto 18)] L st h := den_eq (b := k188_807) rfl L st h
theorem D188_813 (L : xL) (st : xS) (h : xH) : den 188 813 L st h = xB xcall (den 188) [.inl (.iconst 1), .inr .areturn] L st h := den_eq (b := k188_813) rfl L st h
end
section
/-! ===== the heap behind both constructors, by program (wip/whole/lay.py): every id is fixed but the order of the kept states ===== -/
/-- a state: its ints by slot; of each field the ints; of each field the weights; order; of each rule the ints; unlike rows -/
abbrev xSt : Type := (Nat → Int32) × (Nat → Nat → Int32) × (Nat → Nat → Int32) × (Nat → Int32) × (Nat → Nat → Int32) × (Nat → Int32)
/-- the id of the j-th state -/
def sb : Nat → Nat
  | 0 => 3
  | j + 1 => 26 + 21 * j
/-- q the script; S the states; P past: how many, which state in each slot; A law: lawful, kept, core, in ranges, keepers; D drawer: may be, x; K picked; X text: length, at, letter, numbers, bytes; E refusals; Z rows by sum; I, J, V of the reference: its ints, longs and arrays by slot -/
def hp (q : Nat × (Nat → Int32)) (S : Nat → xSt) (P : Int32 × (Nat → Nat)) (A : (Nat → Int64) × Int32 × Int32 × (Nat → Int64) × (Nat → Nat → Int64)) (D : (Nat → Int64) × Int64) (K : Nat → Int64) (X : Int32 × Int32 × Int32 × (Nat → Int32) × (Nat → Int32)) (E Z : Nat → Int32) (I : Nat → Int32) (J : Nat → Int64) (V : Nat → Nat → Int32) : xH := [
  .inl (0, q.1, .inl (q.2)),
  .inl (0, 6, .inl (xmost6)),
  .inr (8, [.ref 3, .ref 24, .ref 131, .ref 153, .ref 156, .ref 158, .ref 161, .ref 162]),
  .inr (6, [.int ((S 0).1 0), .ref 4, .ref 5, .int ((S 0).1 3), .ref 6, .int ((S 0).1 5), .int ((S 0).1 6), .ref 7, .int ((S 0).1 8)]),
  .inl (11, 4, .inr (.inr (.inr (.inr (fun j => if j < 4 then some (8 + 2 * j) else none))))),
  .inl (0, 4, .inl ((S 0).2.2.2.1)),
  .inl (15, 8, .inr (.inr (.inr (.inr (fun j => if j < 8 then some (16 + j) else none))))),
  .inl (0, 16, .inl ((S 0).2.2.2.2.2)),
  .inr (1, [.int ((S 0).2.1 0 0), .int ((S 0).2.1 0 1), .int ((S 0).2.1 0 2), .int ((S 0).2.1 0 3), .ref 9]),
  .inl (0, 8, .inl ((S 0).2.2.1 0)),
  .inr (1, [.int ((S 0).2.1 1 0), .int ((S 0).2.1 1 1), .int ((S 0).2.1 1 2), .int ((S 0).2.1 1 3), .ref 11]),
  .inl (0, 8, .inl ((S 0).2.2.1 1)),
  .inr (1, [.int ((S 0).2.1 2 0), .int ((S 0).2.1 2 1), .int ((S 0).2.1 2 2), .int ((S 0).2.1 2 3), .ref 13]),
  .inl (0, 8, .inl ((S 0).2.2.1 2)),
  .inr (1, [.int ((S 0).2.1 3 0), .int ((S 0).2.1 3 1), .int ((S 0).2.1 3 2), .int ((S 0).2.1 3 3), .ref 15]),
  .inl (0, 8, .inl ((S 0).2.2.1 3)),
  .inr (5, [.int ((S 0).2.2.2.2.1 0 0), .int ((S 0).2.2.2.2.1 0 1), .int ((S 0).2.2.2.2.1 0 2), .int ((S 0).2.2.2.2.1 0 3), .int ((S 0).2.2.2.2.1 0 4)]),
  .inr (5, [.int ((S 0).2.2.2.2.1 1 0), .int ((S 0).2.2.2.2.1 1 1), .int ((S 0).2.2.2.2.1 1 2), .int ((S 0).2.2.2.2.1 1 3), .int ((S 0).2.2.2.2.1 1 4)]),
  .inr (5, [.int ((S 0).2.2.2.2.1 2 0), .int ((S 0).2.2.2.2.1 2 1), .int ((S 0).2.2.2.2.1 2 2), .int ((S 0).2.2.2.2.1 2 3), .int ((S 0).2.2.2.2.1 2 4)]),
  .inr (5, [.int ((S 0).2.2.2.2.1 3 0), .int ((S 0).2.2.2.2.1 3 1), .int ((S 0).2.2.2.2.1 3 2), .int ((S 0).2.2.2.2.1 3 3), .int ((S 0).2.2.2.2.1 3 4)]),
  .inr (5, [.int ((S 0).2.2.2.2.1 4 0), .int ((S 0).2.2.2.2.1 4 1), .int ((S 0).2.2.2.2.1 4 2), .int ((S 0).2.2.2.2.1 4 3), .int ((S 0).2.2.2.2.1 4 4)]),
  .inr (5, [.int ((S 0).2.2.2.2.1 5 0), .int ((S 0).2.2.2.2.1 5 1), .int ((S 0).2.2.2.2.1 5 2), .int ((S 0).2.2.2.2.1 5 3), .int ((S 0).2.2.2.2.1 5 4)]),
  .inr (5, [.int ((S 0).2.2.2.2.1 6 0), .int ((S 0).2.2.2.2.1 6 1), .int ((S 0).2.2.2.2.1 6 2), .int ((S 0).2.2.2.2.1 6 3), .int ((S 0).2.2.2.2.1 6 4)]),
  .inr (5, [.int ((S 0).2.2.2.2.1 7 0), .int ((S 0).2.2.2.2.1 7 1), .int ((S 0).2.2.2.2.1 7 2), .int ((S 0).2.2.2.2.1 7 3), .int ((S 0).2.2.2.2.1 7 4)]),
  .inr (3, [.int (P.1), .ref 25]),
  .inl (16, 5, .inr (.inr (.inr (.inr (fun j => if j < 5 then some (sb (P.2 j)) else none))))),
  .inr (6, [.int ((S 1).1 0), .ref 27, .ref 28, .int ((S 1).1 3), .ref 29, .int ((S 1).1 5), .int ((S 1).1 6), .ref 30, .int ((S 1).1 8)]),
  .inl (11, 4, .inr (.inr (.inr (.inr (fun j => if j < 4 then some (31 + 2 * j) else none))))),
  .inl (0, 4, .inl ((S 1).2.2.2.1)),
  .inl (15, 8, .inr (.inr (.inr (.inr (fun j => if j < 8 then some (39 + j) else none))))),
  .inl (0, 16, .inl ((S 1).2.2.2.2.2)),
  .inr (1, [.int ((S 1).2.1 0 0), .int ((S 1).2.1 0 1), .int ((S 1).2.1 0 2), .int ((S 1).2.1 0 3), .ref 32]),
  .inl (0, 8, .inl ((S 1).2.2.1 0)),
  .inr (1, [.int ((S 1).2.1 1 0), .int ((S 1).2.1 1 1), .int ((S 1).2.1 1 2), .int ((S 1).2.1 1 3), .ref 34]),
  .inl (0, 8, .inl ((S 1).2.2.1 1)),
  .inr (1, [.int ((S 1).2.1 2 0), .int ((S 1).2.1 2 1), .int ((S 1).2.1 2 2), .int ((S 1).2.1 2 3), .ref 36]),
  .inl (0, 8, .inl ((S 1).2.2.1 2)),
  .inr (1, [.int ((S 1).2.1 3 0), .int ((S 1).2.1 3 1), .int ((S 1).2.1 3 2), .int ((S 1).2.1 3 3), .ref 38]),
  .inl (0, 8, .inl ((S 1).2.2.1 3)),
  .inr (5, [.int ((S 1).2.2.2.2.1 0 0), .int ((S 1).2.2.2.2.1 0 1), .int ((S 1).2.2.2.2.1 0 2), .int ((S 1).2.2.2.2.1 0 3), .int ((S 1).2.2.2.2.1 0 4)]),
  .inr (5, [.int ((S 1).2.2.2.2.1 1 0), .int ((S 1).2.2.2.2.1 1 1), .int ((S 1).2.2.2.2.1 1 2), .int ((S 1).2.2.2.2.1 1 3), .int ((S 1).2.2.2.2.1 1 4)]),
  .inr (5, [.int ((S 1).2.2.2.2.1 2 0), .int ((S 1).2.2.2.2.1 2 1), .int ((S 1).2.2.2.2.1 2 2), .int ((S 1).2.2.2.2.1 2 3), .int ((S 1).2.2.2.2.1 2 4)]),
  .inr (5, [.int ((S 1).2.2.2.2.1 3 0), .int ((S 1).2.2.2.2.1 3 1), .int ((S 1).2.2.2.2.1 3 2), .int ((S 1).2.2.2.2.1 3 3), .int ((S 1).2.2.2.2.1 3 4)]),
  .inr (5, [.int ((S 1).2.2.2.2.1 4 0), .int ((S 1).2.2.2.2.1 4 1), .int ((S 1).2.2.2.2.1 4 2), .int ((S 1).2.2.2.2.1 4 3), .int ((S 1).2.2.2.2.1 4 4)]),
  .inr (5, [.int ((S 1).2.2.2.2.1 5 0), .int ((S 1).2.2.2.2.1 5 1), .int ((S 1).2.2.2.2.1 5 2), .int ((S 1).2.2.2.2.1 5 3), .int ((S 1).2.2.2.2.1 5 4)]),
  .inr (5, [.int ((S 1).2.2.2.2.1 6 0), .int ((S 1).2.2.2.2.1 6 1), .int ((S 1).2.2.2.2.1 6 2), .int ((S 1).2.2.2.2.1 6 3), .int ((S 1).2.2.2.2.1 6 4)]),
  .inr (5, [.int ((S 1).2.2.2.2.1 7 0), .int ((S 1).2.2.2.2.1 7 1), .int ((S 1).2.2.2.2.1 7 2), .int ((S 1).2.2.2.2.1 7 3), .int ((S 1).2.2.2.2.1 7 4)]),
  .inr (6, [.int ((S 2).1 0), .ref 48, .ref 49, .int ((S 2).1 3), .ref 50, .int ((S 2).1 5), .int ((S 2).1 6), .ref 51, .int ((S 2).1 8)]),
  .inl (11, 4, .inr (.inr (.inr (.inr (fun j => if j < 4 then some (52 + 2 * j) else none))))),
  .inl (0, 4, .inl ((S 2).2.2.2.1)),
  .inl (15, 8, .inr (.inr (.inr (.inr (fun j => if j < 8 then some (60 + j) else none))))),
  .inl (0, 16, .inl ((S 2).2.2.2.2.2)),
  .inr (1, [.int ((S 2).2.1 0 0), .int ((S 2).2.1 0 1), .int ((S 2).2.1 0 2), .int ((S 2).2.1 0 3), .ref 53]),
  .inl (0, 8, .inl ((S 2).2.2.1 0)),
  .inr (1, [.int ((S 2).2.1 1 0), .int ((S 2).2.1 1 1), .int ((S 2).2.1 1 2), .int ((S 2).2.1 1 3), .ref 55]),
  .inl (0, 8, .inl ((S 2).2.2.1 1)),
  .inr (1, [.int ((S 2).2.1 2 0), .int ((S 2).2.1 2 1), .int ((S 2).2.1 2 2), .int ((S 2).2.1 2 3), .ref 57]),
  .inl (0, 8, .inl ((S 2).2.2.1 2)),
  .inr (1, [.int ((S 2).2.1 3 0), .int ((S 2).2.1 3 1), .int ((S 2).2.1 3 2), .int ((S 2).2.1 3 3), .ref 59]),
  .inl (0, 8, .inl ((S 2).2.2.1 3)),
  .inr (5, [.int ((S 2).2.2.2.2.1 0 0), .int ((S 2).2.2.2.2.1 0 1), .int ((S 2).2.2.2.2.1 0 2), .int ((S 2).2.2.2.2.1 0 3), .int ((S 2).2.2.2.2.1 0 4)]),
  .inr (5, [.int ((S 2).2.2.2.2.1 1 0), .int ((S 2).2.2.2.2.1 1 1), .int ((S 2).2.2.2.2.1 1 2), .int ((S 2).2.2.2.2.1 1 3), .int ((S 2).2.2.2.2.1 1 4)]),
  .inr (5, [.int ((S 2).2.2.2.2.1 2 0), .int ((S 2).2.2.2.2.1 2 1), .int ((S 2).2.2.2.2.1 2 2), .int ((S 2).2.2.2.2.1 2 3), .int ((S 2).2.2.2.2.1 2 4)]),
  .inr (5, [.int ((S 2).2.2.2.2.1 3 0), .int ((S 2).2.2.2.2.1 3 1), .int ((S 2).2.2.2.2.1 3 2), .int ((S 2).2.2.2.2.1 3 3), .int ((S 2).2.2.2.2.1 3 4)]),
  .inr (5, [.int ((S 2).2.2.2.2.1 4 0), .int ((S 2).2.2.2.2.1 4 1), .int ((S 2).2.2.2.2.1 4 2), .int ((S 2).2.2.2.2.1 4 3), .int ((S 2).2.2.2.2.1 4 4)]),
  .inr (5, [.int ((S 2).2.2.2.2.1 5 0), .int ((S 2).2.2.2.2.1 5 1), .int ((S 2).2.2.2.2.1 5 2), .int ((S 2).2.2.2.2.1 5 3), .int ((S 2).2.2.2.2.1 5 4)]),
  .inr (5, [.int ((S 2).2.2.2.2.1 6 0), .int ((S 2).2.2.2.2.1 6 1), .int ((S 2).2.2.2.2.1 6 2), .int ((S 2).2.2.2.2.1 6 3), .int ((S 2).2.2.2.2.1 6 4)]),
  .inr (5, [.int ((S 2).2.2.2.2.1 7 0), .int ((S 2).2.2.2.2.1 7 1), .int ((S 2).2.2.2.2.1 7 2), .int ((S 2).2.2.2.2.1 7 3), .int ((S 2).2.2.2.2.1 7 4)]),
  .inr (6, [.int ((S 3).1 0), .ref 69, .ref 70, .int ((S 3).1 3), .ref 71, .int ((S 3).1 5), .int ((S 3).1 6), .ref 72, .int ((S 3).1 8)]),
  .inl (11, 4, .inr (.inr (.inr (.inr (fun j => if j < 4 then some (73 + 2 * j) else none))))),
  .inl (0, 4, .inl ((S 3).2.2.2.1)),
  .inl (15, 8, .inr (.inr (.inr (.inr (fun j => if j < 8 then some (81 + j) else none))))),
  .inl (0, 16, .inl ((S 3).2.2.2.2.2)),
  .inr (1, [.int ((S 3).2.1 0 0), .int ((S 3).2.1 0 1), .int ((S 3).2.1 0 2), .int ((S 3).2.1 0 3), .ref 74]),
  .inl (0, 8, .inl ((S 3).2.2.1 0)),
  .inr (1, [.int ((S 3).2.1 1 0), .int ((S 3).2.1 1 1), .int ((S 3).2.1 1 2), .int ((S 3).2.1 1 3), .ref 76]),
  .inl (0, 8, .inl ((S 3).2.2.1 1)),
  .inr (1, [.int ((S 3).2.1 2 0), .int ((S 3).2.1 2 1), .int ((S 3).2.1 2 2), .int ((S 3).2.1 2 3), .ref 78]),
  .inl (0, 8, .inl ((S 3).2.2.1 2)),
  .inr (1, [.int ((S 3).2.1 3 0), .int ((S 3).2.1 3 1), .int ((S 3).2.1 3 2), .int ((S 3).2.1 3 3), .ref 80]),
  .inl (0, 8, .inl ((S 3).2.2.1 3)),
  .inr (5, [.int ((S 3).2.2.2.2.1 0 0), .int ((S 3).2.2.2.2.1 0 1), .int ((S 3).2.2.2.2.1 0 2), .int ((S 3).2.2.2.2.1 0 3), .int ((S 3).2.2.2.2.1 0 4)]),
  .inr (5, [.int ((S 3).2.2.2.2.1 1 0), .int ((S 3).2.2.2.2.1 1 1), .int ((S 3).2.2.2.2.1 1 2), .int ((S 3).2.2.2.2.1 1 3), .int ((S 3).2.2.2.2.1 1 4)]),
  .inr (5, [.int ((S 3).2.2.2.2.1 2 0), .int ((S 3).2.2.2.2.1 2 1), .int ((S 3).2.2.2.2.1 2 2), .int ((S 3).2.2.2.2.1 2 3), .int ((S 3).2.2.2.2.1 2 4)]),
  .inr (5, [.int ((S 3).2.2.2.2.1 3 0), .int ((S 3).2.2.2.2.1 3 1), .int ((S 3).2.2.2.2.1 3 2), .int ((S 3).2.2.2.2.1 3 3), .int ((S 3).2.2.2.2.1 3 4)]),
  .inr (5, [.int ((S 3).2.2.2.2.1 4 0), .int ((S 3).2.2.2.2.1 4 1), .int ((S 3).2.2.2.2.1 4 2), .int ((S 3).2.2.2.2.1 4 3), .int ((S 3).2.2.2.2.1 4 4)]),
  .inr (5, [.int ((S 3).2.2.2.2.1 5 0), .int ((S 3).2.2.2.2.1 5 1), .int ((S 3).2.2.2.2.1 5 2), .int ((S 3).2.2.2.2.1 5 3), .int ((S 3).2.2.2.2.1 5 4)]),
  .inr (5, [.int ((S 3).2.2.2.2.1 6 0), .int ((S 3).2.2.2.2.1 6 1), .int ((S 3).2.2.2.2.1 6 2), .int ((S 3).2.2.2.2.1 6 3), .int ((S 3).2.2.2.2.1 6 4)]),
  .inr (5, [.int ((S 3).2.2.2.2.1 7 0), .int ((S 3).2.2.2.2.1 7 1), .int ((S 3).2.2.2.2.1 7 2), .int ((S 3).2.2.2.2.1 7 3), .int ((S 3).2.2.2.2.1 7 4)]),
  .inr (6, [.int ((S 4).1 0), .ref 90, .ref 91, .int ((S 4).1 3), .ref 92, .int ((S 4).1 5), .int ((S 4).1 6), .ref 93, .int ((S 4).1 8)]),
  .inl (11, 4, .inr (.inr (.inr (.inr (fun j => if j < 4 then some (94 + 2 * j) else none))))),
  .inl (0, 4, .inl ((S 4).2.2.2.1)),
  .inl (15, 8, .inr (.inr (.inr (.inr (fun j => if j < 8 then some (102 + j) else none))))),
  .inl (0, 16, .inl ((S 4).2.2.2.2.2)),
  .inr (1, [.int ((S 4).2.1 0 0), .int ((S 4).2.1 0 1), .int ((S 4).2.1 0 2), .int ((S 4).2.1 0 3), .ref 95]),
  .inl (0, 8, .inl ((S 4).2.2.1 0)),
  .inr (1, [.int ((S 4).2.1 1 0), .int ((S 4).2.1 1 1), .int ((S 4).2.1 1 2), .int ((S 4).2.1 1 3), .ref 97]),
  .inl (0, 8, .inl ((S 4).2.2.1 1)),
  .inr (1, [.int ((S 4).2.1 2 0), .int ((S 4).2.1 2 1), .int ((S 4).2.1 2 2), .int ((S 4).2.1 2 3), .ref 99]),
  .inl (0, 8, .inl ((S 4).2.2.1 2)),
  .inr (1, [.int ((S 4).2.1 3 0), .int ((S 4).2.1 3 1), .int ((S 4).2.1 3 2), .int ((S 4).2.1 3 3), .ref 101]),
  .inl (0, 8, .inl ((S 4).2.2.1 3)),
  .inr (5, [.int ((S 4).2.2.2.2.1 0 0), .int ((S 4).2.2.2.2.1 0 1), .int ((S 4).2.2.2.2.1 0 2), .int ((S 4).2.2.2.2.1 0 3), .int ((S 4).2.2.2.2.1 0 4)]),
  .inr (5, [.int ((S 4).2.2.2.2.1 1 0), .int ((S 4).2.2.2.2.1 1 1), .int ((S 4).2.2.2.2.1 1 2), .int ((S 4).2.2.2.2.1 1 3), .int ((S 4).2.2.2.2.1 1 4)]),
  .inr (5, [.int ((S 4).2.2.2.2.1 2 0), .int ((S 4).2.2.2.2.1 2 1), .int ((S 4).2.2.2.2.1 2 2), .int ((S 4).2.2.2.2.1 2 3), .int ((S 4).2.2.2.2.1 2 4)]),
  .inr (5, [.int ((S 4).2.2.2.2.1 3 0), .int ((S 4).2.2.2.2.1 3 1), .int ((S 4).2.2.2.2.1 3 2), .int ((S 4).2.2.2.2.1 3 3), .int ((S 4).2.2.2.2.1 3 4)]),
  .inr (5, [.int ((S 4).2.2.2.2.1 4 0), .int ((S 4).2.2.2.2.1 4 1), .int ((S 4).2.2.2.2.1 4 2), .int ((S 4).2.2.2.2.1 4 3), .int ((S 4).2.2.2.2.1 4 4)]),
  .inr (5, [.int ((S 4).2.2.2.2.1 5 0), .int ((S 4).2.2.2.2.1 5 1), .int ((S 4).2.2.2.2.1 5 2), .int ((S 4).2.2.2.2.1 5 3), .int ((S 4).2.2.2.2.1 5 4)]),
  .inr (5, [.int ((S 4).2.2.2.2.1 6 0), .int ((S 4).2.2.2.2.1 6 1), .int ((S 4).2.2.2.2.1 6 2), .int ((S 4).2.2.2.2.1 6 3), .int ((S 4).2.2.2.2.1 6 4)]),
  .inr (5, [.int ((S 4).2.2.2.2.1 7 0), .int ((S 4).2.2.2.2.1 7 1), .int ((S 4).2.2.2.2.1 7 2), .int ((S 4).2.2.2.2.1 7 3), .int ((S 4).2.2.2.2.1 7 4)]),
  .inr (6, [.int ((S 5).1 0), .ref 111, .ref 112, .int ((S 5).1 3), .ref 113, .int ((S 5).1 5), .int ((S 5).1 6), .ref 114, .int ((S 5).1 8)]),
  .inl (11, 4, .inr (.inr (.inr (.inr (fun j => if j < 4 then some (115 + 2 * j) else none))))),
  .inl (0, 4, .inl ((S 5).2.2.2.1)),
  .inl (15, 8, .inr (.inr (.inr (.inr (fun j => if j < 8 then some (123 + j) else none))))),
  .inl (0, 16, .inl ((S 5).2.2.2.2.2)),
  .inr (1, [.int ((S 5).2.1 0 0), .int ((S 5).2.1 0 1), .int ((S 5).2.1 0 2), .int ((S 5).2.1 0 3), .ref 116]),
  .inl (0, 8, .inl ((S 5).2.2.1 0)),
  .inr (1, [.int ((S 5).2.1 1 0), .int ((S 5).2.1 1 1), .int ((S 5).2.1 1 2), .int ((S 5).2.1 1 3), .ref 118]),
  .inl (0, 8, .inl ((S 5).2.2.1 1)),
  .inr (1, [.int ((S 5).2.1 2 0), .int ((S 5).2.1 2 1), .int ((S 5).2.1 2 2), .int ((S 5).2.1 2 3), .ref 120]),
  .inl (0, 8, .inl ((S 5).2.2.1 2)),
  .inr (1, [.int ((S 5).2.1 3 0), .int ((S 5).2.1 3 1), .int ((S 5).2.1 3 2), .int ((S 5).2.1 3 3), .ref 122]),
  .inl (0, 8, .inl ((S 5).2.2.1 3)),
  .inr (5, [.int ((S 5).2.2.2.2.1 0 0), .int ((S 5).2.2.2.2.1 0 1), .int ((S 5).2.2.2.2.1 0 2), .int ((S 5).2.2.2.2.1 0 3), .int ((S 5).2.2.2.2.1 0 4)]),
  .inr (5, [.int ((S 5).2.2.2.2.1 1 0), .int ((S 5).2.2.2.2.1 1 1), .int ((S 5).2.2.2.2.1 1 2), .int ((S 5).2.2.2.2.1 1 3), .int ((S 5).2.2.2.2.1 1 4)]),
  .inr (5, [.int ((S 5).2.2.2.2.1 2 0), .int ((S 5).2.2.2.2.1 2 1), .int ((S 5).2.2.2.2.1 2 2), .int ((S 5).2.2.2.2.1 2 3), .int ((S 5).2.2.2.2.1 2 4)]),
  .inr (5, [.int ((S 5).2.2.2.2.1 3 0), .int ((S 5).2.2.2.2.1 3 1), .int ((S 5).2.2.2.2.1 3 2), .int ((S 5).2.2.2.2.1 3 3), .int ((S 5).2.2.2.2.1 3 4)]),
  .inr (5, [.int ((S 5).2.2.2.2.1 4 0), .int ((S 5).2.2.2.2.1 4 1), .int ((S 5).2.2.2.2.1 4 2), .int ((S 5).2.2.2.2.1 4 3), .int ((S 5).2.2.2.2.1 4 4)]),
  .inr (5, [.int ((S 5).2.2.2.2.1 5 0), .int ((S 5).2.2.2.2.1 5 1), .int ((S 5).2.2.2.2.1 5 2), .int ((S 5).2.2.2.2.1 5 3), .int ((S 5).2.2.2.2.1 5 4)]),
  .inr (5, [.int ((S 5).2.2.2.2.1 6 0), .int ((S 5).2.2.2.2.1 6 1), .int ((S 5).2.2.2.2.1 6 2), .int ((S 5).2.2.2.2.1 6 3), .int ((S 5).2.2.2.2.1 6 4)]),
  .inr (5, [.int ((S 5).2.2.2.2.1 7 0), .int ((S 5).2.2.2.2.1 7 1), .int ((S 5).2.2.2.2.1 7 2), .int ((S 5).2.2.2.2.1 7 3), .int ((S 5).2.2.2.2.1 7 4)]),
  .inr (2, [.ref 132, .int (A.2.1), .int (A.2.2.1), .ref 134, .ref 136]),
  .inr (4, [.ref 133]),
  .inl (1, 64, .inr (.inl (A.1))),
  .inr (4, [.ref 135]),
  .inl (1, 64, .inr (.inl (A.2.2.2.1))),
  .inl (14, 8, .inr (.inr (.inr (.inr (fun j => if j < 8 then some (137 + 2 * j) else none))))),
  .inr (4, [.ref 138]),
  .inl (1, 64, .inr (.inl (A.2.2.2.2 0))),
  .inr (4, [.ref 140]),
  .inl (1, 64, .inr (.inl (A.2.2.2.2 1))),
  .inr (4, [.ref 142]),
  .inl (1, 64, .inr (.inl (A.2.2.2.2 2))),
  .inr (4, [.ref 144]),
  .inl (1, 64, .inr (.inl (A.2.2.2.2 3))),
  .inr (4, [.ref 146]),
  .inl (1, 64, .inr (.inl (A.2.2.2.2 4))),
  .inr (4, [.ref 148]),
  .inl (1, 64, .inr (.inl (A.2.2.2.2 5))),
  .inr (4, [.ref 150]),
  .inl (1, 64, .inr (.inl (A.2.2.2.2 6))),
  .inr (4, [.ref 152]),
  .inl (1, 64, .inr (.inl (A.2.2.2.2 7))),
  .inr (0, [.ref 154, .long D.2]),
  .inr (4, [.ref 155]),
  .inl (1, 64, .inr (.inl (D.1))),
  .inr (4, [.ref 157]),
  .inl (1, 64, .inr (.inl (K))),
  .inr (7, [.int (X.1), .int (X.2.1), .int (X.2.2.1), .ref 159, .ref 160]),
  .inl (0, 5, .inl (X.2.2.2.1)),
  .inl (0, 150, .inl (X.2.2.2.2)),
  .inl (0, 3, .inl (E)),
  .inl (0, 29, .inl (Z)),
  .inr (9, [.ref 164, .ref 165, .ref 166, .int (I 3), .ref 167, .int (I 5), .ref 168, .int (I 7), .int (I 8), .ref 169, .ref 170, .int (I 11), .ref 171, .long (J 13), .ref 172, .int (I 15), .int (I 16), .int (I 17), .int (I 18), .ref 173, .ref 174, .long (J 21)]),
  .inl (0, 115, .inl (V 0)),
  .inl (0, 115, .inl (V 1)),
  .inl (0, 460, .inl (V 2)),
  .inl (0, 3, .inl (V 4)),
  .inl (0, 4096, .inl (V 6)),
  .inl (2, 256, .inl (V 9)),
  .inl (0, 8, .inl (V 10)),
  .inl (2, 4096, .inl (V 12)),
  .inl (0, 150, .inl (V 14)),
  .inl (0, 60, .inl (V 19)),
  .inl (0, 300, .inl (V 20))]
end
section
/-! ===== reading and writing the fixed heap (by program: wip/whole/lay2.py) ===== -/
def sI (s : xSt) (k : Nat) (x : Int32) : xSt := (upd s.1 k x, s.2)
def sF (s : xSt) (f k : Nat) (x : Int32) : xSt := (s.1, vf_upd s.2.1 f (upd (s.2.1 f) k x), s.2.2)
def sW (s : xSt) (f : Nat) (w : Nat → Int32) : xSt := (s.1, s.2.1, vf_upd s.2.2.1 f w, s.2.2.2)
def sO (s : xSt) (o : Nat → Int32) : xSt := (s.1, s.2.1, s.2.2.1, o, s.2.2.2.2)
def sR (s : xSt) (k i : Nat) (x : Int32) : xSt := (s.1, s.2.1, s.2.2.1, s.2.2.2.1, vf_upd s.2.2.2.2.1 k (upd (s.2.2.2.2.1 k) i x), s.2.2.2.2.2)
def sU (s : xSt) (u : Nat → Int32) : xSt := (s.1, s.2.1, s.2.2.1, s.2.2.2.1, s.2.2.2.2.1, u)
section
variable (q : Nat × (Nat → Int32)) (S : Nat → xSt) (P : Int32 × (Nat → Nat)) (A : (Nat → Int64) × Int32 × Int32 × (Nat → Int64) × (Nat → Nat → Int64)) (D : (Nat → Int64) × Int64) (K : Nat → Int64) (X : Int32 × Int32 × Int32 × (Nat → Int32) × (Nat → Int32)) (E Z : Nat → Int32) (I : Nat → Int32) (J : Nat → Int64) (V : Nat → Nat → Int32)
set_option maxRecDepth 20000 in
theorem o_x : xobj (hp q S P A D K X E Z I J V) 2 8 = true := rfl
set_option maxRecDepth 20000 in
theorem g_x_0 : xget (hp q S P A D K X E Z I J V) 2 256 = some (.ref 3) := rfl
set_option maxRecDepth 20000 in
theorem g_x_1 : xget (hp q S P A D K X E Z I J V) 2 257 = some (.ref 24) := rfl
set_option maxRecDepth 20000 in
theorem g_x_2 : xget (hp q S P A D K X E Z I J V) 2 258 = some (.ref 131) := rfl
set_option maxRecDepth 20000 in
theorem g_x_3 : xget (hp q S P A D K X E Z I J V) 2 259 = some (.ref 153) := rfl
set_option maxRecDepth 20000 in
theorem g_x_4 : xget (hp q S P A D K X E Z I J V) 2 260 = some (.ref 156) := rfl
set_option maxRecDepth 20000 in
theorem g_x_5 : xget (hp q S P A D K X E Z I J V) 2 261 = some (.ref 158) := rfl
set_option maxRecDepth 20000 in
theorem g_x_6 : xget (hp q S P A D K X E Z I J V) 2 262 = some (.ref 161) := rfl
set_option maxRecDepth 20000 in
theorem g_x_7 : xget (hp q S P A D K X E Z I J V) 2 263 = some (.ref 162) := rfl
set_option maxRecDepth 20000 in
theorem o_S : xobj (hp q S P A D K X E Z I J V) 3 6 = true := rfl
set_option maxRecDepth 20000 in
theorem g_S_0 : xget (hp q S P A D K X E Z I J V) 3 192 = some (.int ((S 0).1 0)) := rfl
set_option maxRecDepth 20000 in
theorem g_S_1 : xget (hp q S P A D K X E Z I J V) 3 193 = some (.ref 4) := rfl
set_option maxRecDepth 20000 in
theorem g_S_2 : xget (hp q S P A D K X E Z I J V) 3 194 = some (.ref 5) := rfl
set_option maxRecDepth 20000 in
theorem g_S_3 : xget (hp q S P A D K X E Z I J V) 3 195 = some (.int ((S 0).1 3)) := rfl
set_option maxRecDepth 20000 in
theorem g_S_4 : xget (hp q S P A D K X E Z I J V) 3 196 = some (.ref 6) := rfl
set_option maxRecDepth 20000 in
theorem g_S_5 : xget (hp q S P A D K X E Z I J V) 3 197 = some (.int ((S 0).1 5)) := rfl
set_option maxRecDepth 20000 in
theorem g_S_6 : xget (hp q S P A D K X E Z I J V) 3 198 = some (.int ((S 0).1 6)) := rfl
set_option maxRecDepth 20000 in
theorem g_S_7 : xget (hp q S P A D K X E Z I J V) 3 199 = some (.ref 7) := rfl
set_option maxRecDepth 20000 in
theorem g_S_8 : xget (hp q S P A D K X E Z I J V) 3 200 = some (.int ((S 0).1 8)) := rfl
set_option maxRecDepth 20000 in
theorem p_S_0 (x : Int32) : xput (hp q S P A D K X E Z I J V) 3 192 (.int x) = some (hp q (vf_upd S 0 (sI (S 0) 0 x)) P A D K X E Z I J V) := rfl
set_option maxRecDepth 20000 in
theorem p_S_3 (x : Int32) : xput (hp q S P A D K X E Z I J V) 3 195 (.int x) = some (hp q (vf_upd S 0 (sI (S 0) 3 x)) P A D K X E Z I J V) := rfl
set_option maxRecDepth 20000 in
theorem p_S_5 (x : Int32) : xput (hp q S P A D K X E Z I J V) 3 197 (.int x) = some (hp q (vf_upd S 0 (sI (S 0) 5 x)) P A D K X E Z I J V) := rfl
set_option maxRecDepth 20000 in
theorem p_S_6 (x : Int32) : xput (hp q S P A D K X E Z I J V) 3 198 (.int x) = some (hp q (vf_upd S 0 (sI (S 0) 6 x)) P A D K X E Z I J V) := rfl
set_option maxRecDepth 20000 in
theorem p_S_8_0 : xput (hp q S P A D K X E Z I J V) 3 200 (.int (nI 0)) = some (hp q (vf_upd S 0 (sI (S 0) 8 (nI 0))) P A D K X E Z I J V) := rfl
set_option maxRecDepth 20000 in
theorem p_S_8_1 : xput (hp q S P A D K X E Z I J V) 3 200 (.int (nI 1)) = some (hp q (vf_upd S 0 (sI (S 0) 8 (nI 1))) P A D K X E Z I J V) := rfl
set_option maxRecDepth 20000 in
theorem r_fields (i : Int32) : xaald (hp q S P A D K X E Z I J V) 4 i = if xin i 4 ∧ 2 ≤ 4 ∧ xra 11 = true then some (va_rf (if i.toNatClampNeg < 4 then some (8 + 2 * i.toNatClampNeg) else none)) else none := rfl
set_option maxRecDepth 20000 in
theorem r_rules (i : Int32) : xaald (hp q S P A D K X E Z I J V) 6 i = if xin i 8 ∧ 2 ≤ 6 ∧ xra 15 = true then some (va_rf (if i.toNatClampNeg < 8 then some (16 + i.toNatClampNeg) else none)) else none := rfl
set_option maxRecDepth 20000 in
theorem r_order (i : Int32) : xiald (hp q S P A D K X E Z I J V) 5 i = if xin i 4 then some (.int ((S 0).2.2.2.1 i.toNatClampNeg)) else none := rfl
set_option maxRecDepth 20000 in
theorem s_order (i x : Int32) : xiast (hp q S P A D K X E Z I J V) 5 i x = if xin i 4 ∧ 2 ≤ 5 then some (hp q (vf_upd S 0 (sO (S 0) (upd (S 0).2.2.2.1 i.toNatClampNeg x))) P A D K X E Z I J V) else none := rfl
set_option maxRecDepth 20000 in
theorem r_unlike (i : Int32) : xiald (hp q S P A D K X E Z I J V) 7 i = if xin i 16 then some (.int ((S 0).2.2.2.2.2 i.toNatClampNeg)) else none := rfl
set_option maxRecDepth 20000 in
theorem s_unlike (i x : Int32) : xiast (hp q S P A D K X E Z I J V) 7 i x = if xin i 16 ∧ 2 ≤ 7 then some (hp q (vf_upd S 0 (sU (S 0) (upd (S 0).2.2.2.2.2 i.toNatClampNeg x))) P A D K X E Z I J V) else none := rfl
set_option maxRecDepth 20000 in
theorem o_F (f : Nat) (h : f < 4) : xobj (hp q S P A D K X E Z I J V) (8 + 2 * f) 1 = true := match f, h with
  | 0, _ => rfl
  | 1, _ => rfl
  | 2, _ => rfl
  | 3, _ => rfl
  | n + 4, h => absurd h (by omega)
set_option maxRecDepth 20000 in
theorem g_F_0 (f : Nat) (h : f < 4) : xget (hp q S P A D K X E Z I J V) (8 + 2 * f) 32 = some (.int ((S 0).2.1 f 0)) := match f, h with
  | 0, _ => rfl
  | 1, _ => rfl
  | 2, _ => rfl
  | 3, _ => rfl
  | n + 4, h => absurd h (by omega)
set_option maxRecDepth 20000 in
theorem p_F_0 (f : Nat) (h : f < 4) (x : Int32) : xput (hp q S P A D K X E Z I J V) (8 + 2 * f) 32 (.int x) = some (hp q (vf_upd S 0 (sF (S 0) f 0 x)) P A D K X E Z I J V) := match f, h with
  | 0, _ => rfl
  | 1, _ => rfl
  | 2, _ => rfl
  | 3, _ => rfl
  | n + 4, h => absurd h (by omega)
set_option maxRecDepth 20000 in
theorem g_F_1 (f : Nat) (h : f < 4) : xget (hp q S P A D K X E Z I J V) (8 + 2 * f) 33 = some (.int ((S 0).2.1 f 1)) := match f, h with
  | 0, _ => rfl
  | 1, _ => rfl
  | 2, _ => rfl
  | 3, _ => rfl
  | n + 4, h => absurd h (by omega)
set_option maxRecDepth 20000 in
theorem p_F_1 (f : Nat) (h : f < 4) (x : Int32) : xput (hp q S P A D K X E Z I J V) (8 + 2 * f) 33 (.int x) = some (hp q (vf_upd S 0 (sF (S 0) f 1 x)) P A D K X E Z I J V) := match f, h with
  | 0, _ => rfl
  | 1, _ => rfl
  | 2, _ => rfl
  | 3, _ => rfl
  | n + 4, h => absurd h (by omega)
set_option maxRecDepth 20000 in
theorem g_F_2 (f : Nat) (h : f < 4) : xget (hp q S P A D K X E Z I J V) (8 + 2 * f) 34 = some (.int ((S 0).2.1 f 2)) := match f, h with
  | 0, _ => rfl
  | 1, _ => rfl
  | 2, _ => rfl
  | 3, _ => rfl
  | n + 4, h => absurd h (by omega)
set_option maxRecDepth 20000 in
theorem p_F_2 (f : Nat) (h : f < 4) (x : Int32) : xput (hp q S P A D K X E Z I J V) (8 + 2 * f) 34 (.int x) = some (hp q (vf_upd S 0 (sF (S 0) f 2 x)) P A D K X E Z I J V) := match f, h with
  | 0, _ => rfl
  | 1, _ => rfl
  | 2, _ => rfl
  | 3, _ => rfl
  | n + 4, h => absurd h (by omega)
set_option maxRecDepth 20000 in
theorem g_F_3 (f : Nat) (h : f < 4) : xget (hp q S P A D K X E Z I J V) (8 + 2 * f) 35 = some (.int ((S 0).2.1 f 3)) := match f, h with
  | 0, _ => rfl
  | 1, _ => rfl
  | 2, _ => rfl
  | 3, _ => rfl
  | n + 4, h => absurd h (by omega)
set_option maxRecDepth 20000 in
theorem p_F_3 (f : Nat) (h : f < 4) (x : Int32) : xput (hp q S P A D K X E Z I J V) (8 + 2 * f) 35 (.int x) = some (hp q (vf_upd S 0 (sF (S 0) f 3 x)) P A D K X E Z I J V) := match f, h with
  | 0, _ => rfl
  | 1, _ => rfl
  | 2, _ => rfl
  | 3, _ => rfl
  | n + 4, h => absurd h (by omega)
set_option maxRecDepth 20000 in
theorem g_F_4 (f : Nat) (h : f < 4) : xget (hp q S P A D K X E Z I J V) (8 + 2 * f) 36 = some (.ref (9 + 2 * f)) := match f, h with
  | 0, _ => rfl
  | 1, _ => rfl
  | 2, _ => rfl
  | 3, _ => rfl
  | n + 4, h => absurd h (by omega)
set_option maxRecDepth 20000 in
theorem r_W (f : Nat) (h : f < 4) (i : Int32) : xiald (hp q S P A D K X E Z I J V) (9 + 2 * f) i = if xin i 8 then some (.int ((S 0).2.2.1 f i.toNatClampNeg)) else none := match f, h with
  | 0, _ => rfl
  | 1, _ => rfl
  | 2, _ => rfl
  | 3, _ => rfl
  | n + 4, h => absurd h (by omega)
set_option maxRecDepth 20000 in
theorem s_W (f : Nat) (h : f < 4) (i x : Int32) : xiast (hp q S P A D K X E Z I J V) (9 + 2 * f) i x = if xin i 8 ∧ 2 ≤ 9 + 2 * f then some (hp q (vf_upd S 0 (sW (S 0) f (upd ((S 0).2.2.1 f) i.toNatClampNeg x))) P A D K X E Z I J V) else none := match f, h with
  | 0, _ => rfl
  | 1, _ => rfl
  | 2, _ => rfl
  | 3, _ => rfl
  | n + 4, h => absurd h (by omega)
set_option maxRecDepth 20000 in
theorem o_R (k : Nat) (h : k < 8) : xobj (hp q S P A D K X E Z I J V) (16 + k) 5 = true := match k, h with
  | 0, _ => rfl
  | 1, _ => rfl
  | 2, _ => rfl
  | 3, _ => rfl
  | 4, _ => rfl
  | 5, _ => rfl
  | 6, _ => rfl
  | 7, _ => rfl
  | n + 8, h => absurd h (by omega)
set_option maxRecDepth 20000 in
theorem g_R_0 (k : Nat) (h : k < 8) : xget (hp q S P A D K X E Z I J V) (16 + k) 160 = some (.int ((S 0).2.2.2.2.1 k 0)) := match k, h with
  | 0, _ => rfl
  | 1, _ => rfl
  | 2, _ => rfl
  | 3, _ => rfl
  | 4, _ => rfl
  | 5, _ => rfl
  | 6, _ => rfl
  | 7, _ => rfl
  | n + 8, h => absurd h (by omega)
set_option maxRecDepth 20000 in
theorem p_R_0 (k : Nat) (h : k < 8) (x : Int32) : xput (hp q S P A D K X E Z I J V) (16 + k) 160 (.int x) = some (hp q (vf_upd S 0 (sR (S 0) k 0 x)) P A D K X E Z I J V) := match k, h with
  | 0, _ => rfl
  | 1, _ => rfl
  | 2, _ => rfl
  | 3, _ => rfl
  | 4, _ => rfl
  | 5, _ => rfl
  | 6, _ => rfl
  | 7, _ => rfl
  | n + 8, h => absurd h (by omega)
set_option maxRecDepth 20000 in
theorem g_R_1 (k : Nat) (h : k < 8) : xget (hp q S P A D K X E Z I J V) (16 + k) 161 = some (.int ((S 0).2.2.2.2.1 k 1)) := match k, h with
  | 0, _ => rfl
  | 1, _ => rfl
  | 2, _ => rfl
  | 3, _ => rfl
  | 4, _ => rfl
  | 5, _ => rfl
  | 6, _ => rfl
  | 7, _ => rfl
  | n + 8, h => absurd h (by omega)
set_option maxRecDepth 20000 in
theorem p_R_1 (k : Nat) (h : k < 8) (x : Int32) : xput (hp q S P A D K X E Z I J V) (16 + k) 161 (.int x) = some (hp q (vf_upd S 0 (sR (S 0) k 1 x)) P A D K X E Z I J V) := match k, h with
  | 0, _ => rfl
  | 1, _ => rfl
  | 2, _ => rfl
  | 3, _ => rfl
  | 4, _ => rfl
  | 5, _ => rfl
  | 6, _ => rfl
  | 7, _ => rfl
  | n + 8, h => absurd h (by omega)
set_option maxRecDepth 20000 in
theorem g_R_2 (k : Nat) (h : k < 8) : xget (hp q S P A D K X E Z I J V) (16 + k) 162 = some (.int ((S 0).2.2.2.2.1 k 2)) := match k, h with
  | 0, _ => rfl
  | 1, _ => rfl
  | 2, _ => rfl
  | 3, _ => rfl
  | 4, _ => rfl
  | 5, _ => rfl
  | 6, _ => rfl
  | 7, _ => rfl
  | n + 8, h => absurd h (by omega)
set_option maxRecDepth 20000 in
theorem p_R_2 (k : Nat) (h : k < 8) (x : Int32) : xput (hp q S P A D K X E Z I J V) (16 + k) 162 (.int x) = some (hp q (vf_upd S 0 (sR (S 0) k 2 x)) P A D K X E Z I J V) := match k, h with
  | 0, _ => rfl
  | 1, _ => rfl
  | 2, _ => rfl
  | 3, _ => rfl
  | 4, _ => rfl
  | 5, _ => rfl
  | 6, _ => rfl
  | 7, _ => rfl
  | n + 8, h => absurd h (by omega)
set_option maxRecDepth 20000 in
theorem g_R_3 (k : Nat) (h : k < 8) : xget (hp q S P A D K X E Z I J V) (16 + k) 163 = some (.int ((S 0).2.2.2.2.1 k 3)) := match k, h with
  | 0, _ => rfl
  | 1, _ => rfl
  | 2, _ => rfl
  | 3, _ => rfl
  | 4, _ => rfl
  | 5, _ => rfl
  | 6, _ => rfl
  | 7, _ => rfl
  | n + 8, h => absurd h (by omega)
set_option maxRecDepth 20000 in
theorem p_R_3 (k : Nat) (h : k < 8) (x : Int32) : xput (hp q S P A D K X E Z I J V) (16 + k) 163 (.int x) = some (hp q (vf_upd S 0 (sR (S 0) k 3 x)) P A D K X E Z I J V) := match k, h with
  | 0, _ => rfl
  | 1, _ => rfl
  | 2, _ => rfl
  | 3, _ => rfl
  | 4, _ => rfl
  | 5, _ => rfl
  | 6, _ => rfl
  | 7, _ => rfl
  | n + 8, h => absurd h (by omega)
set_option maxRecDepth 20000 in
theorem g_R_4 (k : Nat) (h : k < 8) : xget (hp q S P A D K X E Z I J V) (16 + k) 164 = some (.int ((S 0).2.2.2.2.1 k 4)) := match k, h with
  | 0, _ => rfl
  | 1, _ => rfl
  | 2, _ => rfl
  | 3, _ => rfl
  | 4, _ => rfl
  | 5, _ => rfl
  | 6, _ => rfl
  | 7, _ => rfl
  | n + 8, h => absurd h (by omega)
set_option maxRecDepth 20000 in
theorem p_R_4 (k : Nat) (h : k < 8) (x : Int32) : xput (hp q S P A D K X E Z I J V) (16 + k) 164 (.int x) = some (hp q (vf_upd S 0 (sR (S 0) k 4 x)) P A D K X E Z I J V) := match k, h with
  | 0, _ => rfl
  | 1, _ => rfl
  | 2, _ => rfl
  | 3, _ => rfl
  | 4, _ => rfl
  | 5, _ => rfl
  | 6, _ => rfl
  | 7, _ => rfl
  | n + 8, h => absurd h (by omega)
set_option maxRecDepth 20000 in
theorem o_past : xobj (hp q S P A D K X E Z I J V) 24 3 = true := rfl
set_option maxRecDepth 20000 in
theorem g_past_0 : xget (hp q S P A D K X E Z I J V) 24 96 = some (.int P.1) := rfl
set_option maxRecDepth 20000 in
theorem g_past_1 : xget (hp q S P A D K X E Z I J V) 24 97 = some (.ref 25) := rfl
set_option maxRecDepth 20000 in
theorem p_past_0 (x : Int32) : xput (hp q S P A D K X E Z I J V) 24 96 (.int x) = some (hp q S (x, P.2) A D K X E Z I J V) := rfl
set_option maxRecDepth 20000 in
theorem r_slots (i : Int32) : xaald (hp q S P A D K X E Z I J V) 25 i = if xin i 5 ∧ 2 ≤ 25 ∧ xra 16 = true then some (va_rf (if i.toNatClampNeg < 5 then some (sb (P.2 i.toNatClampNeg)) else none)) else none := rfl
set_option maxRecDepth 20000 in
theorem o_law : xobj (hp q S P A D K X E Z I J V) 131 2 = true := rfl
set_option maxRecDepth 20000 in
theorem g_law_0 : xget (hp q S P A D K X E Z I J V) 131 64 = some (.ref 132) := rfl
set_option maxRecDepth 20000 in
theorem g_law_1 : xget (hp q S P A D K X E Z I J V) 131 65 = some (.int A.2.1) := rfl
set_option maxRecDepth 20000 in
theorem g_law_2 : xget (hp q S P A D K X E Z I J V) 131 66 = some (.int A.2.2.1) := rfl
set_option maxRecDepth 20000 in
theorem g_law_3 : xget (hp q S P A D K X E Z I J V) 131 67 = some (.ref 134) := rfl
set_option maxRecDepth 20000 in
theorem g_law_4 : xget (hp q S P A D K X E Z I J V) 131 68 = some (.ref 136) := rfl
set_option maxRecDepth 20000 in
theorem p_law_1 (x : Int32) : xput (hp q S P A D K X E Z I J V) 131 65 (.int x) = some (hp q S P (A.1, x, A.2.2) D K X E Z I J V) := rfl
set_option maxRecDepth 20000 in
theorem p_law_2 (x : Int32) : xput (hp q S P A D K X E Z I J V) 131 66 (.int x) = some (hp q S P (A.1, A.2.1, x, A.2.2.2) D K X E Z I J V) := rfl
set_option maxRecDepth 20000 in
theorem o_lawful : xobj (hp q S P A D K X E Z I J V) 132 4 = true := rfl
set_option maxRecDepth 20000 in
theorem g_lawful_0 : xget (hp q S P A D K X E Z I J V) 132 128 = some (.ref 133) := rfl
set_option maxRecDepth 20000 in
theorem r_lawful (i : Int32) : xlald (hp q S P A D K X E Z I J V) 133 i = if xin i 64 ∧ 2 ≤ 133 then some (.long (A.1 i.toNatClampNeg)) else none := rfl
set_option maxRecDepth 20000 in
theorem s_lawful (i : Int32) (x : Int64) : xlast (hp q S P A D K X E Z I J V) 133 i x = if xin i 64 ∧ 2 ≤ 133 then some (hp q S P (vp_updL A.1 i.toNatClampNeg x, A.2) D K X E Z I J V) else none := rfl
set_option maxRecDepth 20000 in
theorem o_inRanges : xobj (hp q S P A D K X E Z I J V) 134 4 = true := rfl
set_option maxRecDepth 20000 in
theorem g_inRanges_0 : xget (hp q S P A D K X E Z I J V) 134 128 = some (.ref 135) := rfl
set_option maxRecDepth 20000 in
theorem r_inRanges (i : Int32) : xlald (hp q S P A D K X E Z I J V) 135 i = if xin i 64 ∧ 2 ≤ 135 then some (.long (A.2.2.2.1 i.toNatClampNeg)) else none := rfl
set_option maxRecDepth 20000 in
theorem s_inRanges (i : Int32) (x : Int64) : xlast (hp q S P A D K X E Z I J V) 135 i x = if xin i 64 ∧ 2 ≤ 135 then some (hp q S P (A.1, A.2.1, A.2.2.1, vp_updL A.2.2.2.1 i.toNatClampNeg x, A.2.2.2.2) D K X E Z I J V) else none := rfl
set_option maxRecDepth 20000 in
theorem o_mayBe : xobj (hp q S P A D K X E Z I J V) 154 4 = true := rfl
set_option maxRecDepth 20000 in
theorem g_mayBe_0 : xget (hp q S P A D K X E Z I J V) 154 128 = some (.ref 155) := rfl
set_option maxRecDepth 20000 in
theorem r_mayBe (i : Int32) : xlald (hp q S P A D K X E Z I J V) 155 i = if xin i 64 ∧ 2 ≤ 155 then some (.long (D.1 i.toNatClampNeg)) else none := rfl
set_option maxRecDepth 20000 in
theorem s_mayBe (i : Int32) (x : Int64) : xlast (hp q S P A D K X E Z I J V) 155 i x = if xin i 64 ∧ 2 ≤ 155 then some (hp q S P A (vp_updL D.1 i.toNatClampNeg x, D.2) K X E Z I J V) else none := rfl
set_option maxRecDepth 20000 in
theorem o_picked : xobj (hp q S P A D K X E Z I J V) 156 4 = true := rfl
set_option maxRecDepth 20000 in
theorem g_picked_0 : xget (hp q S P A D K X E Z I J V) 156 128 = some (.ref 157) := rfl
set_option maxRecDepth 20000 in
theorem r_picked (i : Int32) : xlald (hp q S P A D K X E Z I J V) 157 i = if xin i 64 ∧ 2 ≤ 157 then some (.long (K i.toNatClampNeg)) else none := rfl
set_option maxRecDepth 20000 in
theorem s_picked (i : Int32) (x : Int64) : xlast (hp q S P A D K X E Z I J V) 157 i x = if xin i 64 ∧ 2 ≤ 157 then some (hp q S P A D (vp_updL K i.toNatClampNeg x) X E Z I J V) else none := rfl
set_option maxRecDepth 20000 in
theorem r_keepers (i : Int32) : xaald (hp q S P A D K X E Z I J V) 136 i = if xin i 8 ∧ 2 ≤ 136 ∧ xra 14 = true then some (va_rf (if i.toNatClampNeg < 8 then some (137 + 2 * i.toNatClampNeg) else none)) else none := rfl
set_option maxRecDepth 20000 in
theorem o_keep (k : Nat) (h : k < 8) : xobj (hp q S P A D K X E Z I J V) (137 + 2 * k) 4 = true := match k, h with
  | 0, _ => rfl
  | 1, _ => rfl
  | 2, _ => rfl
  | 3, _ => rfl
  | 4, _ => rfl
  | 5, _ => rfl
  | 6, _ => rfl
  | 7, _ => rfl
  | n + 8, h => absurd h (by omega)
set_option maxRecDepth 20000 in
theorem g_keep_0 (k : Nat) (h : k < 8) : xget (hp q S P A D K X E Z I J V) (137 + 2 * k) 128 = some (.ref (138 + 2 * k)) := match k, h with
  | 0, _ => rfl
  | 1, _ => rfl
  | 2, _ => rfl
  | 3, _ => rfl
  | 4, _ => rfl
  | 5, _ => rfl
  | 6, _ => rfl
  | 7, _ => rfl
  | n + 8, h => absurd h (by omega)
set_option maxRecDepth 20000 in
theorem r_keep (k : Nat) (h : k < 8) (i : Int32) : xlald (hp q S P A D K X E Z I J V) (138 + 2 * k) i = if xin i 64 ∧ 2 ≤ 138 + 2 * k then some (.long (A.2.2.2.2 k i.toNatClampNeg)) else none := match k, h with
  | 0, _ => rfl
  | 1, _ => rfl
  | 2, _ => rfl
  | 3, _ => rfl
  | 4, _ => rfl
  | 5, _ => rfl
  | 6, _ => rfl
  | 7, _ => rfl
  | n + 8, h => absurd h (by omega)
set_option maxRecDepth 20000 in
theorem s_keep (k : Nat) (h : k < 8) (i : Int32) (x : Int64) : xlast (hp q S P A D K X E Z I J V) (138 + 2 * k) i x = if xin i 64 ∧ 2 ≤ 138 + 2 * k then some (hp q S P (A.1, A.2.1, A.2.2.1, A.2.2.2.1, vf_upd A.2.2.2.2 k (vp_updL (A.2.2.2.2 k) i.toNatClampNeg x)) D K X E Z I J V) else none := match k, h with
  | 0, _ => rfl
  | 1, _ => rfl
  | 2, _ => rfl
  | 3, _ => rfl
  | 4, _ => rfl
  | 5, _ => rfl
  | 6, _ => rfl
  | 7, _ => rfl
  | n + 8, h => absurd h (by omega)
set_option maxRecDepth 20000 in
theorem o_drawer : xobj (hp q S P A D K X E Z I J V) 153 0 = true := rfl
set_option maxRecDepth 20000 in
theorem g_drawer_0 : xget (hp q S P A D K X E Z I J V) 153 0 = some (.ref 154) := rfl
set_option maxRecDepth 20000 in
theorem g_drawer_1 : xget (hp q S P A D K X E Z I J V) 153 1 = some (.long D.2) := rfl
set_option maxRecDepth 20000 in
theorem p_drawer_1 (x : Int64) : xput (hp q S P A D K X E Z I J V) 153 1 (.long x) = some (hp q S P A (D.1, x) K X E Z I J V) := rfl
set_option maxRecDepth 20000 in
theorem o_text : xobj (hp q S P A D K X E Z I J V) 158 7 = true := rfl
set_option maxRecDepth 20000 in
theorem g_text_0 : xget (hp q S P A D K X E Z I J V) 158 224 = some (.int X.1) := rfl
set_option maxRecDepth 20000 in
theorem g_text_1 : xget (hp q S P A D K X E Z I J V) 158 225 = some (.int X.2.1) := rfl
set_option maxRecDepth 20000 in
theorem g_text_2 : xget (hp q S P A D K X E Z I J V) 158 226 = some (.int X.2.2.1) := rfl
set_option maxRecDepth 20000 in
theorem g_text_3 : xget (hp q S P A D K X E Z I J V) 158 227 = some (.ref 159) := rfl
set_option maxRecDepth 20000 in
theorem g_text_4 : xget (hp q S P A D K X E Z I J V) 158 228 = some (.ref 160) := rfl
set_option maxRecDepth 20000 in
theorem p_text_0 (x : Int32) : xput (hp q S P A D K X E Z I J V) 158 224 (.int x) = some (hp q S P A D K (x, X.2) E Z I J V) := rfl
set_option maxRecDepth 20000 in
theorem p_text_1 (x : Int32) : xput (hp q S P A D K X E Z I J V) 158 225 (.int x) = some (hp q S P A D K (X.1, x, X.2.2) E Z I J V) := rfl
set_option maxRecDepth 20000 in
theorem p_text_2 (x : Int32) : xput (hp q S P A D K X E Z I J V) 158 226 (.int x) = some (hp q S P A D K (X.1, X.2.1, x, X.2.2.2) E Z I J V) := rfl
set_option maxRecDepth 20000 in
theorem r_numbers (i : Int32) : xiald (hp q S P A D K X E Z I J V) 159 i = if xin i 5 then some (.int (X.2.2.2.1 i.toNatClampNeg)) else none := rfl
set_option maxRecDepth 20000 in
theorem s_numbers (i x : Int32) : xiast (hp q S P A D K X E Z I J V) 159 i x = if xin i 5 ∧ 2 ≤ 159 then some (hp q S P A D K (X.1, X.2.1, X.2.2.1, upd X.2.2.2.1 i.toNatClampNeg x, X.2.2.2.2) E Z I J V) else none := rfl
set_option maxRecDepth 20000 in
theorem r_bytes (i : Int32) : xiald (hp q S P A D K X E Z I J V) 160 i = if xin i 150 then some (.int (X.2.2.2.2 i.toNatClampNeg)) else none := rfl
set_option maxRecDepth 20000 in
theorem s_bytes (i x : Int32) : xiast (hp q S P A D K X E Z I J V) 160 i x = if xin i 150 ∧ 2 ≤ 160 then some (hp q S P A D K (X.1, X.2.1, X.2.2.1, X.2.2.2.1, upd X.2.2.2.2 i.toNatClampNeg x) E Z I J V) else none := rfl
set_option maxRecDepth 20000 in
theorem r_refusals (i : Int32) : xiald (hp q S P A D K X E Z I J V) 161 i = if xin i 3 then some (.int (E i.toNatClampNeg)) else none := rfl
set_option maxRecDepth 20000 in
theorem s_refusals (i x : Int32) : xiast (hp q S P A D K X E Z I J V) 161 i x = if xin i 3 ∧ 2 ≤ 161 then some (hp q S P A D K X (upd E i.toNatClampNeg x) Z I J V) else none := rfl
set_option maxRecDepth 20000 in
theorem r_rowsBySum (i : Int32) : xiald (hp q S P A D K X E Z I J V) 162 i = if xin i 29 then some (.int (Z i.toNatClampNeg)) else none := rfl
set_option maxRecDepth 20000 in
theorem s_rowsBySum (i x : Int32) : xiast (hp q S P A D K X E Z I J V) 162 i x = if xin i 29 ∧ 2 ≤ 162 then some (hp q S P A D K X E (upd Z i.toNatClampNeg x) I J V) else none := rfl
set_option maxRecDepth 20000 in
theorem l_rowsBySum : xlen (hp q S P A D K X E Z I J V) 162 = some (.int (Int32.ofNat 29)) := rfl
set_option maxRecDepth 20000 in
theorem r_most (i : Int32) : xiald (hp q S P A D K X E Z I J V) 1 i = if xin i 6 then some (.int (xmost6 i.toNatClampNeg)) else none := rfl
set_option maxRecDepth 20000 in
theorem r_script (i : Int32) : xiald (hp q S P A D K X E Z I J V) 0 i = if xin i q.1 then some (.int (q.2 i.toNatClampNeg)) else none := rfl
set_option maxRecDepth 20000 in
theorem l_script : xlen (hp q S P A D K X E Z I J V) 0 = some (.int (Int32.ofNat q.1)) := rfl
set_option maxRecDepth 20000 in
theorem o_m : xobj (hp q S P A D K X E Z I J V) 163 9 = true := rfl
set_option maxRecDepth 20000 in
theorem g_m_0 : xget (hp q S P A D K X E Z I J V) 163 288 = some (.ref 164) := rfl
set_option maxRecDepth 20000 in
theorem g_m_1 : xget (hp q S P A D K X E Z I J V) 163 289 = some (.ref 165) := rfl
set_option maxRecDepth 20000 in
theorem g_m_2 : xget (hp q S P A D K X E Z I J V) 163 290 = some (.ref 166) := rfl
set_option maxRecDepth 20000 in
theorem g_m_3 : xget (hp q S P A D K X E Z I J V) 163 291 = some (.int (I 3)) := rfl
set_option maxRecDepth 20000 in
theorem g_m_4 : xget (hp q S P A D K X E Z I J V) 163 292 = some (.ref 167) := rfl
set_option maxRecDepth 20000 in
theorem g_m_5 : xget (hp q S P A D K X E Z I J V) 163 293 = some (.int (I 5)) := rfl
set_option maxRecDepth 20000 in
theorem g_m_6 : xget (hp q S P A D K X E Z I J V) 163 294 = some (.ref 168) := rfl
set_option maxRecDepth 20000 in
theorem g_m_7 : xget (hp q S P A D K X E Z I J V) 163 295 = some (.int (I 7)) := rfl
set_option maxRecDepth 20000 in
theorem g_m_8 : xget (hp q S P A D K X E Z I J V) 163 296 = some (.int (I 8)) := rfl
set_option maxRecDepth 20000 in
theorem g_m_9 : xget (hp q S P A D K X E Z I J V) 163 297 = some (.ref 169) := rfl
set_option maxRecDepth 20000 in
theorem g_m_10 : xget (hp q S P A D K X E Z I J V) 163 298 = some (.ref 170) := rfl
set_option maxRecDepth 20000 in
theorem g_m_11 : xget (hp q S P A D K X E Z I J V) 163 299 = some (.int (I 11)) := rfl
set_option maxRecDepth 20000 in
theorem g_m_12 : xget (hp q S P A D K X E Z I J V) 163 300 = some (.ref 171) := rfl
set_option maxRecDepth 20000 in
theorem g_m_13 : xget (hp q S P A D K X E Z I J V) 163 301 = some (.long (J 13)) := rfl
set_option maxRecDepth 20000 in
theorem g_m_14 : xget (hp q S P A D K X E Z I J V) 163 302 = some (.ref 172) := rfl
set_option maxRecDepth 20000 in
theorem g_m_15 : xget (hp q S P A D K X E Z I J V) 163 303 = some (.int (I 15)) := rfl
set_option maxRecDepth 20000 in
theorem g_m_16 : xget (hp q S P A D K X E Z I J V) 163 304 = some (.int (I 16)) := rfl
set_option maxRecDepth 20000 in
theorem g_m_17 : xget (hp q S P A D K X E Z I J V) 163 305 = some (.int (I 17)) := rfl
set_option maxRecDepth 20000 in
theorem g_m_18 : xget (hp q S P A D K X E Z I J V) 163 306 = some (.int (I 18)) := rfl
set_option maxRecDepth 20000 in
theorem g_m_19 : xget (hp q S P A D K X E Z I J V) 163 307 = some (.ref 173) := rfl
set_option maxRecDepth 20000 in
theorem g_m_20 : xget (hp q S P A D K X E Z I J V) 163 308 = some (.ref 174) := rfl
set_option maxRecDepth 20000 in
theorem g_m_21 : xget (hp q S P A D K X E Z I J V) 163 309 = some (.long (J 21)) := rfl
set_option maxRecDepth 20000 in
theorem p_m_3 (x : Int32) : xput (hp q S P A D K X E Z I J V) 163 291 (.int x) = some (hp q S P A D K X E Z (upd I 3 x) J V) := rfl
set_option maxRecDepth 20000 in
theorem p_m_7 (x : Int32) : xput (hp q S P A D K X E Z I J V) 163 295 (.int x) = some (hp q S P A D K X E Z (upd I 7 x) J V) := rfl
set_option maxRecDepth 20000 in
theorem p_m_8 (x : Int32) : xput (hp q S P A D K X E Z I J V) 163 296 (.int x) = some (hp q S P A D K X E Z (upd I 8 x) J V) := rfl
set_option maxRecDepth 20000 in
theorem p_m_11 (x : Int32) : xput (hp q S P A D K X E Z I J V) 163 299 (.int x) = some (hp q S P A D K X E Z (upd I 11 x) J V) := rfl
set_option maxRecDepth 20000 in
theorem p_m_15 (x : Int32) : xput (hp q S P A D K X E Z I J V) 163 303 (.int x) = some (hp q S P A D K X E Z (upd I 15 x) J V) := rfl
set_option maxRecDepth 20000 in
theorem p_m_16 (x : Int32) : xput (hp q S P A D K X E Z I J V) 163 304 (.int x) = some (hp q S P A D K X E Z (upd I 16 x) J V) := rfl
set_option maxRecDepth 20000 in
theorem p_m_17 (x : Int32) : xput (hp q S P A D K X E Z I J V) 163 305 (.int x) = some (hp q S P A D K X E Z (upd I 17 x) J V) := rfl
set_option maxRecDepth 20000 in
theorem p_m_18 (x : Int32) : xput (hp q S P A D K X E Z I J V) 163 306 (.int x) = some (hp q S P A D K X E Z (upd I 18 x) J V) := rfl
set_option maxRecDepth 20000 in
theorem p_m_5_0 : xput (hp q S P A D K X E Z I J V) 163 293 (.int (nI 0)) = some (hp q S P A D K X E Z (upd I 5 (nI 0)) J V) := rfl
set_option maxRecDepth 20000 in
theorem p_m_5_1 : xput (hp q S P A D K X E Z I J V) 163 293 (.int (nI 1)) = some (hp q S P A D K X E Z (upd I 5 (nI 1)) J V) := rfl
set_option maxRecDepth 20000 in
theorem p_m_13 (x : Int64) : xput (hp q S P A D K X E Z I J V) 163 301 (.long x) = some (hp q S P A D K X E Z I (vp_updL J 13 x) V) := rfl
set_option maxRecDepth 20000 in
theorem p_m_21 (x : Int64) : xput (hp q S P A D K X E Z I J V) 163 309 (.long x) = some (hp q S P A D K X E Z I (vp_updL J 21 x) V) := rfl
set_option maxRecDepth 20000 in
theorem r_m0 (i : Int32) : xiald (hp q S P A D K X E Z I J V) 164 i = if xin i 115 then some (.int (V 0 i.toNatClampNeg)) else none := rfl
set_option maxRecDepth 20000 in
theorem s_m0 (i x : Int32) : xiast (hp q S P A D K X E Z I J V) 164 i x = if xin i 115 ∧ 2 ≤ 164 then some (hp q S P A D K X E Z I J (vf_upd V 0 (upd (V 0) i.toNatClampNeg x))) else none := rfl
set_option maxRecDepth 20000 in
theorem r_m1 (i : Int32) : xiald (hp q S P A D K X E Z I J V) 165 i = if xin i 115 then some (.int (V 1 i.toNatClampNeg)) else none := rfl
set_option maxRecDepth 20000 in
theorem s_m1 (i x : Int32) : xiast (hp q S P A D K X E Z I J V) 165 i x = if xin i 115 ∧ 2 ≤ 165 then some (hp q S P A D K X E Z I J (vf_upd V 1 (upd (V 1) i.toNatClampNeg x))) else none := rfl
set_option maxRecDepth 20000 in
theorem r_m2 (i : Int32) : xiald (hp q S P A D K X E Z I J V) 166 i = if xin i 460 then some (.int (V 2 i.toNatClampNeg)) else none := rfl
set_option maxRecDepth 20000 in
theorem s_m2 (i x : Int32) : xiast (hp q S P A D K X E Z I J V) 166 i x = if xin i 460 ∧ 2 ≤ 166 then some (hp q S P A D K X E Z I J (vf_upd V 2 (upd (V 2) i.toNatClampNeg x))) else none := rfl
set_option maxRecDepth 20000 in
theorem r_m4 (i : Int32) : xiald (hp q S P A D K X E Z I J V) 167 i = if xin i 3 then some (.int (V 4 i.toNatClampNeg)) else none := rfl
set_option maxRecDepth 20000 in
theorem s_m4 (i x : Int32) : xiast (hp q S P A D K X E Z I J V) 167 i x = if xin i 3 ∧ 2 ≤ 167 then some (hp q S P A D K X E Z I J (vf_upd V 4 (upd (V 4) i.toNatClampNeg x))) else none := rfl
set_option maxRecDepth 20000 in
theorem r_m6 (i : Int32) : xiald (hp q S P A D K X E Z I J V) 168 i = if xin i 4096 then some (.int (V 6 i.toNatClampNeg)) else none := rfl
set_option maxRecDepth 20000 in
theorem s_m6 (i x : Int32) : xiast (hp q S P A D K X E Z I J V) 168 i x = if xin i 4096 ∧ 2 ≤ 168 then some (hp q S P A D K X E Z I J (vf_upd V 6 (upd (V 6) i.toNatClampNeg x))) else none := rfl
set_option maxRecDepth 20000 in
theorem r_m9 (i : Int32) : xzald (hp q S P A D K X E Z I J V) 169 i = if xin i 256 ∧ 2 ≤ 169 then some (.int (V 9 i.toNatClampNeg)) else none := rfl
set_option maxRecDepth 20000 in
theorem s_m9 (i x : Int32) : xzast (hp q S P A D K X E Z I J V) 169 i x = if xin i 256 ∧ 2 ≤ 169 ∧ (x = 0 ∨ x = 1) then some (hp q S P A D K X E Z I J (vf_upd V 9 (upd (V 9) i.toNatClampNeg x))) else none := rfl
set_option maxRecDepth 20000 in
theorem r_m10 (i : Int32) : xiald (hp q S P A D K X E Z I J V) 170 i = if xin i 8 then some (.int (V 10 i.toNatClampNeg)) else none := rfl
set_option maxRecDepth 20000 in
theorem s_m10 (i x : Int32) : xiast (hp q S P A D K X E Z I J V) 170 i x = if xin i 8 ∧ 2 ≤ 170 then some (hp q S P A D K X E Z I J (vf_upd V 10 (upd (V 10) i.toNatClampNeg x))) else none := rfl
set_option maxRecDepth 20000 in
theorem r_m12 (i : Int32) : xzald (hp q S P A D K X E Z I J V) 171 i = if xin i 4096 ∧ 2 ≤ 171 then some (.int (V 12 i.toNatClampNeg)) else none := rfl
set_option maxRecDepth 20000 in
theorem s_m12 (i x : Int32) : xzast (hp q S P A D K X E Z I J V) 171 i x = if xin i 4096 ∧ 2 ≤ 171 ∧ (x = 0 ∨ x = 1) then some (hp q S P A D K X E Z I J (vf_upd V 12 (upd (V 12) i.toNatClampNeg x))) else none := rfl
set_option maxRecDepth 20000 in
theorem r_m14 (i : Int32) : xiald (hp q S P A D K X E Z I J V) 172 i = if xin i 150 then some (.int (V 14 i.toNatClampNeg)) else none := rfl
set_option maxRecDepth 20000 in
theorem s_m14 (i x : Int32) : xiast (hp q S P A D K X E Z I J V) 172 i x = if xin i 150 ∧ 2 ≤ 172 then some (hp q S P A D K X E Z I J (vf_upd V 14 (upd (V 14) i.toNatClampNeg x))) else none := rfl
set_option maxRecDepth 20000 in
theorem r_m19 (i : Int32) : xiald (hp q S P A D K X E Z I J V) 173 i = if xin i 60 then some (.int (V 19 i.toNatClampNeg)) else none := rfl
set_option maxRecDepth 20000 in
theorem s_m19 (i x : Int32) : xiast (hp q S P A D K X E Z I J V) 173 i x = if xin i 60 ∧ 2 ≤ 173 then some (hp q S P A D K X E Z I J (vf_upd V 19 (upd (V 19) i.toNatClampNeg x))) else none := rfl
set_option maxRecDepth 20000 in
theorem r_m20 (i : Int32) : xiald (hp q S P A D K X E Z I J V) 174 i = if xin i 300 then some (.int (V 20 i.toNatClampNeg)) else none := rfl
set_option maxRecDepth 20000 in
theorem s_m20 (i x : Int32) : xiast (hp q S P A D K X E Z I J V) 174 i x = if xin i 300 ∧ 2 ≤ 174 then some (hp q S P A D K X E Z I J (vf_upd V 20 (upd (V 20) i.toNatClampNeg x))) else none := rfl
end
end
section
/-! ===== rows for rewriting: blocks instruction by instruction, numbers ===== -/
def xpu : Option Value → xS → xS
  | some v, r => v :: r
  | none, r => r
theorem xpu_eq (v : Option Value) (r : xS) : v.toList ++ r = xpu v r := by cases v <;> rfl
section
variable (call : Nat → List Value → xH → xR) (jmp : Nat → xL → xS → xH → xR) (t : List xI) (L : xL) (h : xH)
theorem e_inl (i : Instr) (st : xS) : xB call jmp (.inl i :: t) L st h = (xP i L st h).bind (fun q => xB call jmp t q.1 q.2.1 q.2.2) := rfl
theorem e_goto (u : Int) (st : xS) : xB call jmp (.inr (.goto u) :: t) L st h = jmp u.toNat L st h := rfl
theorem e_fall (u : Int) (st : xS) : xB call jmp (xto u :: t) L st h = jmp u.toNat L st h := rfl
theorem e_if (c : Jvm.ClassFile.Cond) (u : Int) (a : Int32) (st : xS) : xB call jmp (.inr (.ifCond c u) :: t) L (.int a :: st) h = if xcnd c a 0 = true then jmp u.toNat L st h else xB call jmp t L st h := rfl
theorem e_icmp (c : Jvm.ClassFile.Cond) (u : Int) (a b : Int32) (st : xS) : xB call jmp (.inr (.if_icmp c u) :: t) L (.int b :: .int a :: st) h = if xcnd c a b = true then jmp u.toNat L st h else xB call jmp t L st h := rfl
theorem e_sw (d : Int) (ps : Array (Int × Int)) (a : Int32) (st : xS) : xB call jmp (.inr (.lookupswitch d ps) :: t) L (.int a :: st) h = jmp (xsw ps.toList d a.toInt).toNat L st h := rfl
theorem e_iret (v : Int32) : xB call jmp (.inr .ireturn :: t) L [.int v] h = some (some (.int v), h) := rfl
theorem e_zret (v : Int32) : xB call jmp (.inr .areturn :: t) L [.int v] h = if v = 0 ∨ v = 1 then some (some (.int v), h) else none := rfl
theorem e_lret (v : Int64) : xB call jmp (.inr .lreturn :: t) L [.long v] h = some (some (.long v), h) := rfl
theorem e_vret : xB call jmp (.inr .return_ :: t) L [] h = some (none, h) := rfl
theorem e_call0_0 (j : Nat) : xB call jmp (.inr (.invokeinterface j 0) :: t) L [] h = (call j [] h).bind (fun q => xB call jmp t L (xpu q.1 []) q.2) := by
  rw [xB, if_pos ⟨Nat.le_of_ble_eq_true rfl, Nat.le_of_ble_eq_true rfl⟩]
  simp only [xpu_eq]
  rfl
theorem e_call0_1 (j : Nat) (r0 : Value) : xB call jmp (.inr (.invokeinterface j 0) :: t) L [r0] h = (call j [] h).bind (fun q => xB call jmp t L (xpu q.1 [r0]) q.2) := by
  rw [xB, if_pos ⟨Nat.le_of_ble_eq_true rfl, Nat.le_of_ble_eq_true rfl⟩]
  simp only [xpu_eq]
  rfl
theorem e_call0_2 (j : Nat) (r0 : Value) (r1 : Value) : xB call jmp (.inr (.invokeinterface j 0) :: t) L [r0, r1] h = (call j [] h).bind (fun q => xB call jmp t L (xpu q.1 [r0, r1]) q.2) := by
  rw [xB, if_pos ⟨Nat.le_of_ble_eq_true rfl, Nat.le_of_ble_eq_true rfl⟩]
  simp only [xpu_eq]
  rfl
theorem e_call0_3 (j : Nat) (r0 : Value) (r1 : Value) (r2 : Value) : xB call jmp (.inr (.invokeinterface j 0) :: t) L [r0, r1, r2] h = (call j [] h).bind (fun q => xB call jmp t L (xpu q.1 [r0, r1, r2]) q.2) := by
  rw [xB, if_pos ⟨Nat.le_of_ble_eq_true rfl, Nat.le_of_ble_eq_true rfl⟩]
  simp only [xpu_eq]
  rfl
theorem e_call0_4 (j : Nat) (r0 : Value) (r1 : Value) (r2 : Value) (r3 : Value) : xB call jmp (.inr (.invokeinterface j 0) :: t) L [r0, r1, r2, r3] h = (call j [] h).bind (fun q => xB call jmp t L (xpu q.1 [r0, r1, r2, r3]) q.2) := by
  rw [xB, if_pos ⟨Nat.le_of_ble_eq_true rfl, Nat.le_of_ble_eq_true rfl⟩]
  simp only [xpu_eq]
  rfl
theorem e_call1_0 (j : Nat) (a0 : Value) : xB call jmp (.inr (.invokeinterface j 1) :: t) L [a0] h = (call j [a0] h).bind (fun q => xB call jmp t L (xpu q.1 []) q.2) := by
  rw [xB, if_pos ⟨Nat.le_of_ble_eq_true rfl, Nat.le_of_ble_eq_true rfl⟩]
  simp only [xpu_eq]
  rfl
theorem e_call1_1 (j : Nat) (a0 : Value) (r0 : Value) : xB call jmp (.inr (.invokeinterface j 1) :: t) L [a0, r0] h = (call j [a0] h).bind (fun q => xB call jmp t L (xpu q.1 [r0]) q.2) := by
  rw [xB, if_pos ⟨Nat.le_of_ble_eq_true rfl, Nat.le_of_ble_eq_true rfl⟩]
  simp only [xpu_eq]
  rfl
theorem e_call1_2 (j : Nat) (a0 : Value) (r0 : Value) (r1 : Value) : xB call jmp (.inr (.invokeinterface j 1) :: t) L [a0, r0, r1] h = (call j [a0] h).bind (fun q => xB call jmp t L (xpu q.1 [r0, r1]) q.2) := by
  rw [xB, if_pos ⟨Nat.le_of_ble_eq_true rfl, Nat.le_of_ble_eq_true rfl⟩]
  simp only [xpu_eq]
  rfl
theorem e_call1_3 (j : Nat) (a0 : Value) (r0 : Value) (r1 : Value) (r2 : Value) : xB call jmp (.inr (.invokeinterface j 1) :: t) L [a0, r0, r1, r2] h = (call j [a0] h).bind (fun q => xB call jmp t L (xpu q.1 [r0, r1, r2]) q.2) := by
  rw [xB, if_pos ⟨Nat.le_of_ble_eq_true rfl, Nat.le_of_ble_eq_true rfl⟩]
  simp only [xpu_eq]
  rfl
theorem e_call1_4 (j : Nat) (a0 : Value) (r0 : Value) (r1 : Value) (r2 : Value) (r3 : Value) : xB call jmp (.inr (.invokeinterface j 1) :: t) L [a0, r0, r1, r2, r3] h = (call j [a0] h).bind (fun q => xB call jmp t L (xpu q.1 [r0, r1, r2, r3]) q.2) := by
  rw [xB, if_pos ⟨Nat.le_of_ble_eq_true rfl, Nat.le_of_ble_eq_true rfl⟩]
  simp only [xpu_eq]
  rfl
theorem e_call2_0 (j : Nat) (a0 : Value) (a1 : Value) : xB call jmp (.inr (.invokeinterface j 2) :: t) L [a1, a0] h = (call j [a0, a1] h).bind (fun q => xB call jmp t L (xpu q.1 []) q.2) := by
  rw [xB, if_pos ⟨Nat.le_of_ble_eq_true rfl, Nat.le_of_ble_eq_true rfl⟩]
  simp only [xpu_eq]
  rfl
theorem e_call2_1 (j : Nat) (a0 : Value) (a1 : Value) (r0 : Value) : xB call jmp (.inr (.invokeinterface j 2) :: t) L [a1, a0, r0] h = (call j [a0, a1] h).bind (fun q => xB call jmp t L (xpu q.1 [r0]) q.2) := by
  rw [xB, if_pos ⟨Nat.le_of_ble_eq_true rfl, Nat.le_of_ble_eq_true rfl⟩]
  simp only [xpu_eq]
  rfl
theorem e_call2_2 (j : Nat) (a0 : Value) (a1 : Value) (r0 : Value) (r1 : Value) : xB call jmp (.inr (.invokeinterface j 2) :: t) L [a1, a0, r0, r1] h = (call j [a0, a1] h).bind (fun q => xB call jmp t L (xpu q.1 [r0, r1]) q.2) := by
  rw [xB, if_pos ⟨Nat.le_of_ble_eq_true rfl, Nat.le_of_ble_eq_true rfl⟩]
  simp only [xpu_eq]
  rfl
theorem e_call2_3 (j : Nat) (a0 : Value) (a1 : Value) (r0 : Value) (r1 : Value) (r2 : Value) : xB call jmp (.inr (.invokeinterface j 2) :: t) L [a1, a0, r0, r1, r2] h = (call j [a0, a1] h).bind (fun q => xB call jmp t L (xpu q.1 [r0, r1, r2]) q.2) := by
  rw [xB, if_pos ⟨Nat.le_of_ble_eq_true rfl, Nat.le_of_ble_eq_true rfl⟩]
  simp only [xpu_eq]
  rfl
theorem e_call2_4 (j : Nat) (a0 : Value) (a1 : Value) (r0 : Value) (r1 : Value) (r2 : Value) (r3 : Value) : xB call jmp (.inr (.invokeinterface j 2) :: t) L [a1, a0, r0, r1, r2, r3] h = (call j [a0, a1] h).bind (fun q => xB call jmp t L (xpu q.1 [r0, r1, r2, r3]) q.2) := by
  rw [xB, if_pos ⟨Nat.le_of_ble_eq_true rfl, Nat.le_of_ble_eq_true rfl⟩]
  simp only [xpu_eq]
  rfl
theorem e_call3_0 (j : Nat) (a0 : Value) (a1 : Value) (a2 : Value) : xB call jmp (.inr (.invokeinterface j 3) :: t) L [a2, a1, a0] h = (call j [a0, a1, a2] h).bind (fun q => xB call jmp t L (xpu q.1 []) q.2) := by
  rw [xB, if_pos ⟨Nat.le_of_ble_eq_true rfl, Nat.le_of_ble_eq_true rfl⟩]
  simp only [xpu_eq]
  rfl
theorem e_call3_1 (j : Nat) (a0 : Value) (a1 : Value) (a2 : Value) (r0 : Value) : xB call jmp (.inr (.invokeinterface j 3) :: t) L [a2, a1, a0, r0] h = (call j [a0, a1, a2] h).bind (fun q => xB call jmp t L (xpu q.1 [r0]) q.2) := by
  rw [xB, if_pos ⟨Nat.le_of_ble_eq_true rfl, Nat.le_of_ble_eq_true rfl⟩]
  simp only [xpu_eq]
  rfl
theorem e_call3_2 (j : Nat) (a0 : Value) (a1 : Value) (a2 : Value) (r0 : Value) (r1 : Value) : xB call jmp (.inr (.invokeinterface j 3) :: t) L [a2, a1, a0, r0, r1] h = (call j [a0, a1, a2] h).bind (fun q => xB call jmp t L (xpu q.1 [r0, r1]) q.2) := by
  rw [xB, if_pos ⟨Nat.le_of_ble_eq_true rfl, Nat.le_of_ble_eq_true rfl⟩]
  simp only [xpu_eq]
  rfl
theorem e_call3_3 (j : Nat) (a0 : Value) (a1 : Value) (a2 : Value) (r0 : Value) (r1 : Value) (r2 : Value) : xB call jmp (.inr (.invokeinterface j 3) :: t) L [a2, a1, a0, r0, r1, r2] h = (call j [a0, a1, a2] h).bind (fun q => xB call jmp t L (xpu q.1 [r0, r1, r2]) q.2) := by
  rw [xB, if_pos ⟨Nat.le_of_ble_eq_true rfl, Nat.le_of_ble_eq_true rfl⟩]
  simp only [xpu_eq]
  rfl
theorem e_call3_4 (j : Nat) (a0 : Value) (a1 : Value) (a2 : Value) (r0 : Value) (r1 : Value) (r2 : Value) (r3 : Value) : xB call jmp (.inr (.invokeinterface j 3) :: t) L [a2, a1, a0, r0, r1, r2, r3] h = (call j [a0, a1, a2] h).bind (fun q => xB call jmp t L (xpu q.1 [r0, r1, r2, r3]) q.2) := by
  rw [xB, if_pos ⟨Nat.le_of_ble_eq_true rfl, Nat.le_of_ble_eq_true rfl⟩]
  simp only [xpu_eq]
  rfl
theorem e_call4_0 (j : Nat) (a0 : Value) (a1 : Value) (a2 : Value) (a3 : Value) : xB call jmp (.inr (.invokeinterface j 4) :: t) L [a3, a2, a1, a0] h = (call j [a0, a1, a2, a3] h).bind (fun q => xB call jmp t L (xpu q.1 []) q.2) := by
  rw [xB, if_pos ⟨Nat.le_of_ble_eq_true rfl, Nat.le_of_ble_eq_true rfl⟩]
  simp only [xpu_eq]
  rfl
theorem e_call4_1 (j : Nat) (a0 : Value) (a1 : Value) (a2 : Value) (a3 : Value) (r0 : Value) : xB call jmp (.inr (.invokeinterface j 4) :: t) L [a3, a2, a1, a0, r0] h = (call j [a0, a1, a2, a3] h).bind (fun q => xB call jmp t L (xpu q.1 [r0]) q.2) := by
  rw [xB, if_pos ⟨Nat.le_of_ble_eq_true rfl, Nat.le_of_ble_eq_true rfl⟩]
  simp only [xpu_eq]
  rfl
theorem e_call4_2 (j : Nat) (a0 : Value) (a1 : Value) (a2 : Value) (a3 : Value) (r0 : Value) (r1 : Value) : xB call jmp (.inr (.invokeinterface j 4) :: t) L [a3, a2, a1, a0, r0, r1] h = (call j [a0, a1, a2, a3] h).bind (fun q => xB call jmp t L (xpu q.1 [r0, r1]) q.2) := by
  rw [xB, if_pos ⟨Nat.le_of_ble_eq_true rfl, Nat.le_of_ble_eq_true rfl⟩]
  simp only [xpu_eq]
  rfl
theorem e_call4_3 (j : Nat) (a0 : Value) (a1 : Value) (a2 : Value) (a3 : Value) (r0 : Value) (r1 : Value) (r2 : Value) : xB call jmp (.inr (.invokeinterface j 4) :: t) L [a3, a2, a1, a0, r0, r1, r2] h = (call j [a0, a1, a2, a3] h).bind (fun q => xB call jmp t L (xpu q.1 [r0, r1, r2]) q.2) := by
  rw [xB, if_pos ⟨Nat.le_of_ble_eq_true rfl, Nat.le_of_ble_eq_true rfl⟩]
  simp only [xpu_eq]
  rfl
theorem e_call4_4 (j : Nat) (a0 : Value) (a1 : Value) (a2 : Value) (a3 : Value) (r0 : Value) (r1 : Value) (r2 : Value) (r3 : Value) : xB call jmp (.inr (.invokeinterface j 4) :: t) L [a3, a2, a1, a0, r0, r1, r2, r3] h = (call j [a0, a1, a2, a3] h).bind (fun q => xB call jmp t L (xpu q.1 [r0, r1, r2, r3]) q.2) := by
  rw [xB, if_pos ⟨Nat.le_of_ble_eq_true rfl, Nat.le_of_ble_eq_true rfl⟩]
  simp only [xpu_eq]
  rfl
theorem e_call5_0 (j : Nat) (a0 : Value) (a1 : Value) (a2 : Value) (a3 : Value) (a4 : Value) : xB call jmp (.inr (.invokeinterface j 5) :: t) L [a4, a3, a2, a1, a0] h = (call j [a0, a1, a2, a3, a4] h).bind (fun q => xB call jmp t L (xpu q.1 []) q.2) := by
  rw [xB, if_pos ⟨Nat.le_of_ble_eq_true rfl, Nat.le_of_ble_eq_true rfl⟩]
  simp only [xpu_eq]
  rfl
theorem e_call5_1 (j : Nat) (a0 : Value) (a1 : Value) (a2 : Value) (a3 : Value) (a4 : Value) (r0 : Value) : xB call jmp (.inr (.invokeinterface j 5) :: t) L [a4, a3, a2, a1, a0, r0] h = (call j [a0, a1, a2, a3, a4] h).bind (fun q => xB call jmp t L (xpu q.1 [r0]) q.2) := by
  rw [xB, if_pos ⟨Nat.le_of_ble_eq_true rfl, Nat.le_of_ble_eq_true rfl⟩]
  simp only [xpu_eq]
  rfl
theorem e_call5_2 (j : Nat) (a0 : Value) (a1 : Value) (a2 : Value) (a3 : Value) (a4 : Value) (r0 : Value) (r1 : Value) : xB call jmp (.inr (.invokeinterface j 5) :: t) L [a4, a3, a2, a1, a0, r0, r1] h = (call j [a0, a1, a2, a3, a4] h).bind (fun q => xB call jmp t L (xpu q.1 [r0, r1]) q.2) := by
  rw [xB, if_pos ⟨Nat.le_of_ble_eq_true rfl, Nat.le_of_ble_eq_true rfl⟩]
  simp only [xpu_eq]
  rfl
theorem e_call5_3 (j : Nat) (a0 : Value) (a1 : Value) (a2 : Value) (a3 : Value) (a4 : Value) (r0 : Value) (r1 : Value) (r2 : Value) : xB call jmp (.inr (.invokeinterface j 5) :: t) L [a4, a3, a2, a1, a0, r0, r1, r2] h = (call j [a0, a1, a2, a3, a4] h).bind (fun q => xB call jmp t L (xpu q.1 [r0, r1, r2]) q.2) := by
  rw [xB, if_pos ⟨Nat.le_of_ble_eq_true rfl, Nat.le_of_ble_eq_true rfl⟩]
  simp only [xpu_eq]
  rfl
theorem e_call5_4 (j : Nat) (a0 : Value) (a1 : Value) (a2 : Value) (a3 : Value) (a4 : Value) (r0 : Value) (r1 : Value) (r2 : Value) (r3 : Value) : xB call jmp (.inr (.invokeinterface j 5) :: t) L [a4, a3, a2, a1, a0, r0, r1, r2, r3] h = (call j [a0, a1, a2, a3, a4] h).bind (fun q => xB call jmp t L (xpu q.1 [r0, r1, r2, r3]) q.2) := by
  rw [xB, if_pos ⟨Nat.le_of_ble_eq_true rfl, Nat.le_of_ble_eq_true rfl⟩]
  simp only [xpu_eq]
  rfl
theorem e_call6_0 (j : Nat) (a0 : Value) (a1 : Value) (a2 : Value) (a3 : Value) (a4 : Value) (a5 : Value) : xB call jmp (.inr (.invokeinterface j 6) :: t) L [a5, a4, a3, a2, a1, a0] h = (call j [a0, a1, a2, a3, a4, a5] h).bind (fun q => xB call jmp t L (xpu q.1 []) q.2) := by
  rw [xB, if_pos ⟨Nat.le_of_ble_eq_true rfl, Nat.le_of_ble_eq_true rfl⟩]
  simp only [xpu_eq]
  rfl
theorem e_call6_1 (j : Nat) (a0 : Value) (a1 : Value) (a2 : Value) (a3 : Value) (a4 : Value) (a5 : Value) (r0 : Value) : xB call jmp (.inr (.invokeinterface j 6) :: t) L [a5, a4, a3, a2, a1, a0, r0] h = (call j [a0, a1, a2, a3, a4, a5] h).bind (fun q => xB call jmp t L (xpu q.1 [r0]) q.2) := by
  rw [xB, if_pos ⟨Nat.le_of_ble_eq_true rfl, Nat.le_of_ble_eq_true rfl⟩]
  simp only [xpu_eq]
  rfl
theorem e_call6_2 (j : Nat) (a0 : Value) (a1 : Value) (a2 : Value) (a3 : Value) (a4 : Value) (a5 : Value) (r0 : Value) (r1 : Value) : xB call jmp (.inr (.invokeinterface j 6) :: t) L [a5, a4, a3, a2, a1, a0, r0, r1] h = (call j [a0, a1, a2, a3, a4, a5] h).bind (fun q => xB call jmp t L (xpu q.1 [r0, r1]) q.2) := by
  rw [xB, if_pos ⟨Nat.le_of_ble_eq_true rfl, Nat.le_of_ble_eq_true rfl⟩]
  simp only [xpu_eq]
  rfl
theorem e_call6_3 (j : Nat) (a0 : Value) (a1 : Value) (a2 : Value) (a3 : Value) (a4 : Value) (a5 : Value) (r0 : Value) (r1 : Value) (r2 : Value) : xB call jmp (.inr (.invokeinterface j 6) :: t) L [a5, a4, a3, a2, a1, a0, r0, r1, r2] h = (call j [a0, a1, a2, a3, a4, a5] h).bind (fun q => xB call jmp t L (xpu q.1 [r0, r1, r2]) q.2) := by
  rw [xB, if_pos ⟨Nat.le_of_ble_eq_true rfl, Nat.le_of_ble_eq_true rfl⟩]
  simp only [xpu_eq]
  rfl
theorem e_call6_4 (j : Nat) (a0 : Value) (a1 : Value) (a2 : Value) (a3 : Value) (a4 : Value) (a5 : Value) (r0 : Value) (r1 : Value) (r2 : Value) (r3 : Value) : xB call jmp (.inr (.invokeinterface j 6) :: t) L [a5, a4, a3, a2, a1, a0, r0, r1, r2, r3] h = (call j [a0, a1, a2, a3, a4, a5] h).bind (fun q => xB call jmp t L (xpu q.1 [r0, r1, r2, r3]) q.2) := by
  rw [xB, if_pos ⟨Nat.le_of_ble_eq_true rfl, Nat.le_of_ble_eq_true rfl⟩]
  simp only [xpu_eq]
  rfl
end
theorem c_eq (a b : Int32) : (xcnd .eq a b = true) = (a = b) := decide_eq_true_eq
theorem c_ne (a b : Int32) : (xcnd .ne a b = true) = (¬ a = b) := decide_eq_true_eq
theorem c_lt (a b : Int32) : (xcnd .lt a b = true) = (a < b) := decide_eq_true_eq
theorem c_ge (a b : Int32) : (xcnd .ge a b = true) = (b ≤ a) := decide_eq_true_eq
theorem c_gt (a b : Int32) : (xcnd .gt a b = true) = (b < a) := decide_eq_true_eq
theorem c_le (a b : Int32) : (xcnd .le a b = true) = (a ≤ b) := decide_eq_true_eq
/-- numbers -/
theorem n_lit (n : Nat) : Int32.ofInt (no_index (OfNat.ofNat n)) = nI (no_index (OfNat.ofNat n)) := rfl
theorem n_0 : (0 : Int32) = nI 0 := rfl
theorem n_1 : (1 : Int32) = nI 1 := rfl
theorem n_mul (a b : Nat) : nI a * nI b = nI (a * b) := (Int32.ofNat_mul a b).symm
theorem n_sub {a b : Nat} (h : b ≤ a) : nI a - nI b = nI (a - b) := by
  have e : nI (a - b) + nI b = nI a := by rw [nI_add, Nat.sub_add_cancel h]
  rw [← e, Int32.add_sub_cancel]
theorem x_in {n N : Nat} (h : n < N) (hN : N ≤ 100000) : xin (nI n) N = true := by
  unfold xin
  rw [Bool.and_eq_true, decide_eq_true_eq, decide_eq_true_eq, nI_clamp (by omega)]
  exact ⟨nI_pos' (by omega), h⟩
theorem x_loop {i pc : Nat} (L : Nat → xL) (H : Nat → xH) (n : Nat) (hs : ∀ k, k < n → den i pc (L k) [] (H k) = den i pc (L (k + 1)) [] (H (k + 1))) : den i pc (L 0) [] (H 0) = den i pc (L n) [] (H n) := by
  induction n with
  | zero => rfl
  | succ n ih => rw [ih (fun k hk => hs k (by omega)), hs n (by omega)]
/-- a number folded up -/
def x_it {β : Type} (f : β → Nat → β) (b : β) : Nat → β
  | 0 => b
  | k + 1 => f (x_it f b k) k
end
section
/-! plain facts on numbers and arrays, to paste: each family by itself; over the kit's rows on nI and upd -/
/-! ===== order of ints, in all its forms, and through longs ===== -/
theorem fa_lt (a b : Int32) : a < b ↔ a.toInt < b.toInt := Int32.lt_iff_toInt_lt
theorem fa_le (a b : Int32) : a ≤ b ↔ a.toInt ≤ b.toInt := Int32.le_iff_toInt_le
theorem fa_eq (a b : Int32) : a = b ↔ a.toInt = b.toInt := Int32.toInt_inj.symm
theorem fa_lt64 (a b : Int64) : a < b ↔ a.toInt < b.toInt := Int64.lt_iff_toInt_lt
theorem fa_le64 (a b : Int64) : a ≤ b ↔ a.toInt ≤ b.toInt := Int64.le_iff_toInt_le
theorem fa_eq64 (a b : Int64) : a = b ↔ a.toInt = b.toInt := Int64.toInt_inj.symm
/-- a comparison of two ints taken as longs -/
theorem fa_wide_lt (a b : Int32) : a.toInt64 < b.toInt64 ↔ a < b := by rw [fa_lt64, fa_lt, Int32.toInt_toInt64, Int32.toInt_toInt64]
theorem fa_wide_le (a b : Int32) : a.toInt64 ≤ b.toInt64 ↔ a ≤ b := by rw [fa_le64, fa_le, Int32.toInt_toInt64, Int32.toInt_toInt64]
theorem fa_wide_eq (a b : Int32) : a.toInt64 = b.toInt64 ↔ a = b := by rw [fa_eq64, fa_eq, Int32.toInt_toInt64, Int32.toInt_toInt64]
/-- one strict comparison gives all the others -/
theorem fa_of_lt {a b : Int32} (h : a < b) : a ≤ b ∧ ¬ b ≤ a ∧ ¬ b < a ∧ a ≠ b ∧ b ≠ a := by
  rw [fa_lt] at h
  refine ⟨?_, ?_, ?_, ?_, ?_⟩
  · rw [fa_le]; omega
  · rw [fa_le]; omega
  · rw [fa_lt]; omega
  · intro e; rw [fa_eq] at e; omega
  · intro e; rw [fa_eq] at e; omega
theorem fa_of_nlt {a b : Int32} (h : ¬ a < b) : b ≤ a := by
  rw [fa_lt] at h
  rw [fa_le]
  omega
theorem fa_of_nle {a b : Int32} (h : ¬ a ≤ b) : b < a := by
  rw [fa_le] at h
  rw [fa_lt]
  omega
theorem fa_le_ne {a b : Int32} (h : a ≤ b) (h2 : a ≠ b) : a < b := by
  rw [fa_le] at h
  rw [fa_lt]
  have h3 : a.toInt ≠ b.toInt := fun e => h2 ((fa_eq a b).mpr e)
  omega
theorem fa_three (a b : Int32) : a < b ∨ a = b ∨ b < a := by
  rw [fa_lt, fa_lt, fa_eq]
  omega
theorem fa_trans {a b c : Int32} (h : a < b) (h2 : b ≤ c) : a < c := by
  rw [fa_lt] at *
  rw [fa_le] at h2
  omega
/-! ===== small literals as numbers ===== -/
theorem fa_lit (n : Nat) : (OfNat.ofNat n : Int32) = nI n := rfl
theorem fa_litL (n : Nat) : (OfNat.ofNat n : Int64) = lN n := rfl
/-! ===== bits of a number: 'or', masks, one bit ===== -/
theorem fa_and (a b : Nat) : nI a &&& nI b = nI (a &&& b) := by
  apply Int32.toBitVec_inj.1
  show BitVec.ofNat 32 a &&& BitVec.ofNat 32 b = BitVec.ofNat 32 (a &&& b)
  apply BitVec.eq_of_getLsbD_eq
  intro i hi
  simp [hi]
theorem fa_or (a b : Nat) : nI a ||| nI b = nI (a ||| b) := by
  apply Int32.toBitVec_inj.1
  show BitVec.ofNat 32 a ||| BitVec.ofNat 32 b = BitVec.ofNat 32 (a ||| b)
  apply BitVec.eq_of_getLsbD_eq
  intro i hi
  simp [hi]
/-- a remainder by a power of two, as a mask -/
theorem fa_mask (n k : Nat) : nI n &&& nI (2 ^ k - 1) = nI (n % 2 ^ k) := by rw [fa_and, Nat.and_two_pow_sub_one_eq_mod]
/-- 'or' of a high part and a low one that don't meet is their sum -/
theorem fa_or_sum {a k : Nat} (b : Nat) (h : a < 2 ^ k) : nI (2 ^ k * b) ||| nI a = nI (2 ^ k * b + a) := by rw [fa_or, Nat.two_pow_add_eq_or_of_lt h]
/-- one bit, by 'and' with a power of two -/
theorem fa_bit {n j : Nat} (hj : j < 31) : nI n &&& nI (2 ^ j) = 0 ↔ n.testBit j = false := by
  have h2 : (2 : Nat) ^ j < 2 ^ 31 := Nat.pow_lt_pow_right (by decide) hj
  have hle : n &&& 2 ^ j ≤ 2 ^ j := Nat.and_le_right
  have e : n &&& 2 ^ j = 0 ↔ n.testBit j = false := by
    constructor
    · intro h
      have h1 : (n &&& 2 ^ j).testBit j = false := by rw [h]; simp
      rw [Nat.testBit_and] at h1
      first | simpa using h1 | simpa [Nat.testBit_two_pow_self] using h1 | simpa [Nat.testBit_two_pow] using h1
    · intro h
      apply Nat.eq_of_testBit_eq
      intro i
      rw [Nat.testBit_and]
      by_cases hi : j = i
      · subst hi; simp [h]
      · first | (simp [Nat.testBit_two_pow, hi]; done) | (simp [Nat.testBit_two_pow_of_ne hi]; done)
  rw [fa_and]
  constructor
  · intro h
    apply e.mp
    rcases Nat.eq_zero_or_pos (n &&& 2 ^ j) with z | z
    · exact z
    · exact absurd h (nI_ne0 z (Nat.lt_of_le_of_lt hle h2))
  · intro h
    rw [e.mpr h]; exact nI_0
/-- a remainder by a power of two of a number that isn't negative, as Java divides -/
theorem fa_rem {a k : Nat} (ha : a < 2 ^ 31) (hk : k < 31) : nI a - nI a / nI (2 ^ k) * nI (2 ^ k) = nI (a % 2 ^ k) := pk_rem ha (Nat.two_pow_pos k) (Nat.pow_lt_pow_right (by decide) hk)
/-! ===== cuts to a byte, a short ===== -/
theorem fa_byte_xor (x y : Int32) : (x ^^^ y).toInt8 = x.toInt8 ^^^ y.toInt8 := by
  apply Int8.toBitVec_inj.1
  apply BitVec.eq_of_getLsbD_eq
  intro i hi
  first | (simp [hi]; done) | (simp [hi, BitVec.getLsbD_setWidth, BitVec.getLsbD_signExtend]; done)
theorem fa_short_xor (x y : Int32) : (x ^^^ y).toInt16 = x.toInt16 ^^^ y.toInt16 := by
  apply Int16.toBitVec_inj.1
  apply BitVec.eq_of_getLsbD_eq
  intro i hi
  first | (simp [hi]; done) | (simp [hi, BitVec.getLsbD_setWidth, BitVec.getLsbD_signExtend]; done)
/-- the cut to a byte sees the low byte alone -/
theorem fa_byte_low (x : Int32) : (x &&& 255).toInt8 = x.toInt8 := by
  apply Int8.toBitVec_inj.1
  apply BitVec.eq_of_getLsbD_eq
  intro i hi
  have h2 : (255 : Int32).toBitVec.getLsbD i = true := by
    have : ∀ j : Fin 8, (255 : Int32).toBitVec.getLsbD j.val = true := by decide +kernel
    exact this ⟨i, hi⟩
  have h4 : (x &&& 255).toBitVec.getLsbD i = x.toBitVec.getLsbD i := by
    show (x.toBitVec &&& (255 : Int32).toBitVec).getLsbD i = _
    rw [BitVec.getLsbD_and, h2, Bool.and_true]
  have h3 : i < 32 := by omega
  first
    | (show (((x &&& 255).toBitVec).signExtend 8).getLsbD i = (x.toBitVec.signExtend 8).getLsbD i; rw [BitVec.getLsbD_signExtend, BitVec.getLsbD_signExtend, if_pos h3, if_pos h3, h4])
    | (show (((x &&& 255).toBitVec).setWidth 8).getLsbD i = (x.toBitVec.setWidth 8).getLsbD i; rw [BitVec.getLsbD_setWidth, BitVec.getLsbD_setWidth, h4])
    | (simp [hi, h3, h4]; done)
theorem fa_short_low (x : Int32) : (x &&& 65535).toInt16 = x.toInt16 := by
  apply Int16.toBitVec_inj.1
  apply BitVec.eq_of_getLsbD_eq
  intro i hi
  have h2 : (65535 : Int32).toBitVec.getLsbD i = true := by
    have : ∀ j : Fin 16, (65535 : Int32).toBitVec.getLsbD j.val = true := by decide +kernel
    exact this ⟨i, hi⟩
  have h4 : (x &&& 65535).toBitVec.getLsbD i = x.toBitVec.getLsbD i := by
    show (x.toBitVec &&& (65535 : Int32).toBitVec).getLsbD i = _
    rw [BitVec.getLsbD_and, h2, Bool.and_true]
  have h3 : i < 32 := by omega
  first
    | (show (((x &&& 65535).toBitVec).signExtend 16).getLsbD i = (x.toBitVec.signExtend 16).getLsbD i; rw [BitVec.getLsbD_signExtend, BitVec.getLsbD_signExtend, if_pos h3, if_pos h3, h4])
    | (show (((x &&& 65535).toBitVec).setWidth 16).getLsbD i = (x.toBitVec.setWidth 16).getLsbD i; rw [BitVec.getLsbD_setWidth, BitVec.getLsbD_setWidth, h4])
    | (simp [hi, h3, h4]; done)
/-- a small number is its own byte, its own short -/
theorem fa_byte_small {n : Nat} (h : n < 128) : (nI n).toInt8.toInt32 = nI n := by
  have : ∀ j : Fin 128, (nI j.val).toInt8.toInt32 = nI j.val := by decide +kernel
  exact this ⟨n, h⟩
/-! ===== absolute difference ===== -/
theorem fa_absdiff {a b : Nat} (ha : a < 2 ^ 31) (hb : b < 2 ^ 31) : (if nI a < nI b then nI b - nI a else nI a - nI b) = nI (if a < b then b - a else a - b) := by
  by_cases h : a < b
  · rw [if_pos (nI_lt h hb), if_pos h]
    exact pk_sub (Nat.le_of_lt h)
  · rw [if_neg (nI_nlt (Nat.le_of_not_lt h) ha), if_neg h]
    exact pk_sub (Nat.le_of_not_lt h)
/-! ===== an array behind i stores, a conditional store, a row copied ===== -/
/-- f where k < i, what stood there else -/
def fa_fill {α : Type} (f g : Nat → α) (i : Nat) : Nat → α := fun k => if k < i then f k else g k
theorem fa_fill_0 {α : Type} (f g : Nat → α) : fa_fill f g 0 = g := funext fun k => if_neg (Nat.not_lt_zero k)
theorem fa_fill_in {α : Type} {f g : Nat → α} {i k : Nat} (h : k < i) : fa_fill f g i k = f k := if_pos h
theorem fa_fill_out {α : Type} {f g : Nat → α} {i k : Nat} (h : i ≤ k) : fa_fill f g i k = g k := if_neg (Nat.not_lt.mpr h)
theorem fa_fill_succ (f g : Nat → Int32) (i : Nat) : upd (fa_fill f g i) i (f i) = fa_fill f g (i + 1) := by
  funext k
  by_cases e : k = i
  · subst e
    rw [pk_us]
    exact (if_pos (Nat.lt_succ_self k)).symm
  · rw [pk_un e]
    by_cases h : k < i
    · rw [fa_fill_in h, fa_fill_in (Nat.lt_succ_of_lt h)]
    · rw [fa_fill_out (Nat.le_of_not_lt h), fa_fill_out (by omega)]
/-- a store that changes nothing -/
theorem fa_upd_same {f : Nat → Int32} {i : Nat} {x : Int32} (h : f i = x) : upd f i x = f := by
  funext k
  by_cases e : k = i
  · subst e
    rw [pk_us, h]
  · rw [pk_un e]
/-- a store under a condition, told as one -/
theorem fa_upd_if (c : Prop) [Decidable c] (f : Nat → Int32) (i : Nat) (x : Int32) : (if c then upd f i x else f) = upd f i (if c then x else f i) := by
  by_cases h : c
  · rw [if_pos h, if_pos h]
  · rw [if_neg h, if_neg h, fa_upd_same rfl]
/-- two stores at one place, at two -/
theorem fa_upd_twice (f : Nat → Int32) (i : Nat) (x y : Int32) : upd (upd f i x) i y = upd f i y := by
  funext k
  by_cases e : k = i
  · subst e
    rw [pk_us, pk_us]
  · rw [pk_un e, pk_un e, pk_un e]
theorem fa_upd_swap (f : Nat → Int32) {i j : Nat} (h : i ≠ j) (x y : Int32) : upd (upd f i x) j y = upd (upd f j y) i x := by
  funext k
  by_cases e : k = i
  · subst e
    rw [pk_un h, pk_us, pk_us]
  · by_cases e2 : k = j
    · subst e2
      rw [pk_us, pk_un e, pk_us]
    · rw [pk_un e2, pk_un e, pk_un e, pk_un e2]
/-! ===== the first index with a property; a count ===== -/
/-- the first k < n with p k, n if there is none -/
def fa_first (p : Nat → Bool) : Nat → Nat
  | 0 => 0
  | n + 1 => if fa_first p n < n then fa_first p n else if p n then n else n + 1
theorem fa_first_le (p : Nat → Bool) : ∀ n, fa_first p n ≤ n
  | 0 => Nat.le_refl 0
  | n + 1 => by
    have ih := fa_first_le p n
    unfold fa_first
    split
    · omega
    · split
      · omega
      · omega
theorem fa_first_no (p : Nat → Bool) : ∀ n k, k < fa_first p n → p k = false
  | 0, k, h => absurd h (Nat.not_lt_zero k)
  | n + 1, k, h => by
    have ih := fa_first_no p n
    have hl := fa_first_le p n
    unfold fa_first at h
    split at h
    · exact ih k h
    · rename_i h1
      split at h
      · exact ih k (by omega)
      · rename_i h2
        by_cases e : k = n
        · subst e
          exact Bool.eq_false_iff.mpr h2
        · exact ih k (by omega)
theorem fa_first_yes (p : Nat → Bool) : ∀ n, fa_first p n < n → p (fa_first p n) = true
  | 0, h => absurd h (Nat.not_lt_zero _)
  | n + 1, h => by
    have ih := fa_first_yes p n
    have hl := fa_first_le p n
    unfold fa_first at h ⊢
    split at h
    · rename_i h1
      rw [if_pos h1]
      exact ih h1
    · rename_i h1
      rw [if_neg h1]
      split at h
      · rename_i h2
        rw [if_pos h2]
        exact h2
      · omega
/-- how many k < n have p k -/
def fa_cnt (p : Nat → Bool) : Nat → Nat
  | 0 => 0
  | n + 1 => fa_cnt p n + if p n then 1 else 0
theorem fa_cnt_le (p : Nat → Bool) : ∀ n, fa_cnt p n ≤ n
  | 0 => Nat.le_refl 0
  | n + 1 => by
    have ih := fa_cnt_le p n
    unfold fa_cnt
    split
    · omega
    · omega
theorem fa_cnt_yes {p : Nat → Bool} {n : Nat} (h : p n = true) : fa_cnt p (n + 1) = fa_cnt p n + 1 := by rw [fa_cnt, if_pos h]
theorem fa_cnt_no {p : Nat → Bool} {n : Nat} (h : p n = false) : fa_cnt p (n + 1) = fa_cnt p n := by rw [fa_cnt, if_neg (by rw [h]; decide)]; rfl
theorem fa_cnt_cong {p q : Nat → Bool} : ∀ {n : Nat}, (∀ k, k < n → p k = q k) → fa_cnt p n = fa_cnt q n
  | 0, _ => rfl
  | n + 1, h => by rw [fa_cnt, fa_cnt, fa_cnt_cong (fun k hk => h k (Nat.lt_succ_of_lt hk)), h n (Nat.lt_succ_self n)]
/-! ===== an answer carried into a post; a branch on a boolean answer ===== -/
theorem fa_post {α : Type} {P : α → Prop} {x y : α} (h : x = y) (hp : P y) : P x := h ▸ hp
theorem fa_post2 {α β : Type} {P : α → β → Prop} {x y : α} {u v : β} (h : x = y) (h2 : u = v) (hp : P y v) : P x u := h ▸ h2 ▸ hp
theorem fa_bool {r : Int32} {b : Bool} (h : r = if b then 1 else 0) : (r = 0 ↔ b = false) ∧ (¬ r = 0 ↔ b = true) := by
  subst h
  cases b
  · exact ⟨⟨fun _ => rfl, fun _ => rfl⟩, ⟨fun h => absurd rfl h, fun h => absurd h (by decide)⟩⟩
  · exact ⟨⟨fun h => absurd h (by decide), fun h => absurd h (by decide)⟩, ⟨fun _ => rfl, fun _ => by decide⟩⟩
/-- a boolean's narrowing changes nothing -/
theorem fa_bool_and {r : Int32} (h : r = 0 ∨ r = 1) : r &&& 1 = r := by
  rcases h with rfl | rfl
  · decide
  · decide
theorem fa_bool_prop {c : Prop} [Decidable c] {r : Int32} (h : r = if c then 1 else 0) : (r = 0 ↔ ¬ c) ∧ (¬ r = 0 ↔ c) := by
  subst h
  by_cases hc : c
  · rw [if_pos hc]
    exact ⟨⟨fun h => absurd h (by decide), fun h => absurd hc h⟩, ⟨fun _ => hc, fun _ => by decide⟩⟩
  · rw [if_neg hc]
    exact ⟨⟨fun _ => hc, fun _ => rfl⟩, ⟨fun h => absurd rfl h, fun h => absurd h hc⟩⟩
/-! plain facts to paste, each family by itself; over the kit's nI, lN and upd -/
/-! ===== drawers: more things than places ===== -/
theorem fb_holes : ∀ (m n : Nat) (f : Nat → Nat), (∀ i, i < n → f i < m) → (∀ i j, i < j → j < n → f i ≠ f j) → n ≤ m := by
  intro m
  induction m with
  | zero =>
    intro n f h1 _
    rcases Nat.eq_zero_or_pos n with h | h
    · omega
    · exact absurd (h1 0 h) (Nat.not_lt_zero _)
  | succ m ih =>
    intro n f h1 h2
    by_cases hx : ∃ i, i < n ∧ f i = m
    · obtain ⟨a, ha, hfa⟩ := hx
      have hg := ih (n - 1) (fun i => if i < a then f i else f (i + 1)) (by
        intro i hi
        by_cases q : i < a
        · simp only [if_pos q]
          have b1 := h1 i (by omega)
          have b2 := h2 i a q ha
          omega
        · simp only [if_neg q]
          have b1 := h1 (i + 1) (by omega)
          have b2 := h2 a (i + 1) (by omega) (by omega)
          omega) (by
        intro i j hij hj
        by_cases q : i < a
        · by_cases r : j < a
          · simp only [if_pos q, if_pos r]
            exact h2 i j hij (by omega)
          · simp only [if_pos q, if_neg r]
            exact h2 i (j + 1) (by omega) (by omega)
        · have r : ¬ j < a := by omega
          simp only [if_neg q, if_neg r]
          exact h2 (i + 1) (j + 1) (by omega) (by omega))
      omega
    · have hg := ih n f (fun i hi => by
        have b1 := h1 i hi
        have b2 : f i ≠ m := fun e => hx ⟨i, hi, e⟩
        omega) h2
      omega
/-- two of them in one place -/
theorem fb_twice {m n : Nat} {f : Nat → Nat} (h : ∀ i, i < n → f i < m) (hm : m < n) : ∃ i j, i < j ∧ j < n ∧ f i = f j := by
  refine Classical.byContradiction fun hx => ?_
  have := fb_holes m n f h (fun i j hij hj e => hx ⟨i, j, hij, hj, e⟩)
  omega
/-- as many as places, none twice: each place is taken -/
theorem fb_onto {n : Nat} {f : Nat → Nat} (h : ∀ i, i < n → f i < n) (h2 : ∀ i j, i < j → j < n → f i ≠ f j) {y : Nat} (hy : y < n) : ∃ i, i < n ∧ f i = y := by
  refine Classical.byContradiction fun hx => ?_
  have hne : ∀ i, i < n → f i ≠ y := fun i hi e => hx ⟨i, hi, e⟩
  have := fb_holes (n - 1) n (fun i => if f i < y then f i else f i - 1) (by
    intro i hi
    have b1 := h i hi
    have b2 := hne i hi
    by_cases q : f i < y
    · simp only [if_pos q]; omega
    · simp only [if_neg q]; omega) (by
    intro i j hij hj
    have b1 := hne i (by omega)
    have b2 := hne j hj
    have b3 := h2 i j hij hj
    by_cases q : f i < y
    · by_cases r : f j < y
      · simp only [if_pos q, if_pos r]; exact b3
      · simp only [if_pos q, if_neg r]; omega
    · by_cases r : f j < y
      · simp only [if_neg q, if_pos r]; omega
      · simp only [if_neg q, if_neg r]; omega)
  omega
/-! ===== how many places have a property ===== -/
def fb_ct (p : Nat → Bool) : Nat → Nat
  | 0 => 0
  | n + 1 => fb_ct p n + (if p n then 1 else 0)
theorem fb_ct_succ (p : Nat → Bool) (n : Nat) : fb_ct p (n + 1) = fb_ct p n + (if p n then 1 else 0) := rfl
theorem fb_ct_le (p : Nat → Bool) : ∀ n, fb_ct p n ≤ n
  | 0 => Nat.le_refl _
  | n + 1 => by
    have h := fb_ct_le p n
    rw [fb_ct_succ]
    split <;> omega
theorem fb_ct_step (p : Nat → Bool) (m : Nat) : ∀ n, fb_ct p m ≤ fb_ct p (m + n)
  | 0 => Nat.le_refl _
  | n + 1 => by
    have h := fb_ct_step p m n
    show fb_ct p m ≤ fb_ct p (m + n + 1)
    rw [fb_ct_succ]
    omega
theorem fb_ct_mono (p : Nat → Bool) {m n : Nat} (h : m ≤ n) : fb_ct p m ≤ fb_ct p n := by
  have := fb_ct_step p m (n - m)
  rwa [Nat.add_sub_cancel' h] at this
theorem fb_ct_cong {p q : Nat → Bool} : ∀ {n : Nat}, (∀ k, k < n → p k = q k) → fb_ct p n = fb_ct q n
  | 0, _ => rfl
  | n + 1, h => by
    rw [fb_ct_succ, fb_ct_succ, fb_ct_cong (fun k hk => h k (by omega)), h n (by omega)]
/-- one place changed -/
theorem fb_ct_out (p : Nat → Bool) (b : Bool) {i n : Nat} (h : n ≤ i) : fb_ct (fun k => if k = i then b else p k) n = fb_ct p n :=
  fb_ct_cong fun k hk => if_neg (by omega)
theorem fb_ct_upd (p : Nat → Bool) (b : Bool) {i : Nat} : ∀ {n : Nat}, i < n → fb_ct (fun k => if k = i then b else p k) n + (if p i then 1 else 0) = fb_ct p n + (if b then 1 else 0)
  | 0, h => absurd h (Nat.not_lt_zero i)
  | n + 1, h => by
    rw [fb_ct_succ, fb_ct_succ]
    rcases Nat.lt_or_ge i n with q | q
    · have := fb_ct_upd p b q
      have e : (if n = i then b else p n) = p n := if_neg (by omega)
      rw [e]
      omega
    · have e : i = n := by omega
      subst e
      rw [fb_ct_out p b (Nat.le_refl _)]
      simp only [if_true]
      omega
theorem fb_ct_sub {p q : Nat → Bool} : ∀ {n : Nat}, (∀ k, k < n → p k = true → q k = true) → fb_ct p n ≤ fb_ct q n
  | 0, _ => Nat.le_refl _
  | n + 1, h => by
    have h1 := fb_ct_sub (n := n) (p := p) (q := q) (fun k hk => h k (by omega))
    have h2 := h n (by omega)
    rw [fb_ct_succ, fb_ct_succ]
    cases hp : p n <;> cases hq : q n <;> simp_all <;> omega
theorem fb_ct_or {p q : Nat → Bool} : ∀ {n : Nat}, (∀ k, k < n → ¬ (p k = true ∧ q k = true)) → fb_ct (fun k => p k || q k) n = fb_ct p n + fb_ct q n
  | 0, _ => rfl
  | n + 1, h => by
    have h1 := fb_ct_or (n := n) (p := p) (q := q) (fun k hk => h k (by omega))
    have h2 := h n (by omega)
    rw [fb_ct_succ, fb_ct_succ, fb_ct_succ, h1]
    cases hp : p n <;> cases hq : q n <;> simp_all <;> omega
theorem fb_ct_not (p : Nat → Bool) : ∀ n, fb_ct p n + fb_ct (fun k => !p k) n = n
  | 0 => rfl
  | n + 1 => by
    have h := fb_ct_not p n
    rw [fb_ct_succ, fb_ct_succ]
    cases p n <;> simp <;> omega
theorem fb_ct_split (p : Nat → Bool) (m : Nat) : ∀ n, fb_ct p (m + n) = fb_ct p m + fb_ct (fun k => p (m + k)) n
  | 0 => rfl
  | n + 1 => by
    have h := fb_ct_split p m n
    show fb_ct p (m + n + 1) = _
    rw [fb_ct_succ, fb_ct_succ, h, Nat.add_assoc]
theorem fb_ct_zero {p : Nat → Bool} : ∀ {n : Nat}, fb_ct p n = 0 ↔ ∀ k, k < n → p k = false
  | 0 => ⟨fun _ k hk => absurd hk (Nat.not_lt_zero k), fun _ => rfl⟩
  | n + 1 => by
    have h := fb_ct_zero (p := p) (n := n)
    rw [fb_ct_succ]
    constructor
    · intro e k hk
      have e1 : fb_ct p n = 0 := by omega
      rcases Nat.lt_or_ge k n with q | q
      · exact h.mp e1 k q
      · have ek : k = n := by omega
        subst ek
        cases hp : p k
        · rfl
        · simp [hp] at e
    · intro a
      rw [h.mpr (fun k hk => a k (by omega)), a n (by omega)]
      rfl
theorem fb_ct_pos {p : Nat → Bool} {n : Nat} : 0 < fb_ct p n ↔ ∃ k, k < n ∧ p k = true := by
  constructor
  · intro h
    refine Classical.byContradiction fun hx => ?_
    have := fb_ct_zero.mpr (fun k hk => by
      cases hp : p k
      · rfl
      · exact absurd ⟨k, hk, hp⟩ hx : ∀ k, k < n → p k = false)
    omega
  · rintro ⟨k, hk, hp⟩
    rcases Nat.eq_zero_or_pos (fb_ct p n) with e | e
    · have := fb_ct_zero.mp e k hk
      rw [this] at hp
      cases hp
    · exact e
theorem fb_ct_all {p : Nat → Bool} {n : Nat} : fb_ct p n = n ↔ ∀ k, k < n → p k = true := by
  have h := fb_ct_not p n
  constructor
  · intro e k hk
    have z : fb_ct (fun k => !p k) n = 0 := by omega
    have := fb_ct_zero.mp z k hk
    cases hp : p k
    · simp [hp] at this
    · rfl
  · intro a
    have z : fb_ct (fun k => !p k) n = 0 := fb_ct_zero.mpr (fun k hk => by simp [a k hk])
    omega
/-- the k-th place with the property -/
theorem fb_ct_kth {p : Nat → Bool} {k : Nat} : ∀ {n : Nat}, k < fb_ct p n → ∃ i, i < n ∧ p i = true ∧ fb_ct p i = k
  | 0, h => absurd h (Nat.not_lt_zero k)
  | n + 1, h => by
    rcases Nat.lt_or_ge k (fb_ct p n) with q | q
    · obtain ⟨i, h1, h2⟩ := fb_ct_kth q
      exact ⟨i, by omega, h2⟩
    · rw [fb_ct_succ] at h
      cases hp : p n
      · simp [hp] at h; omega
      · simp [hp] at h
        exact ⟨n, by omega, hp, by omega⟩
theorem fb_ct_kth_one {p : Nat → Bool} {i j : Nat} (hi : p i = true) (hj : p j = true) (e : fb_ct p i = fb_ct p j) : i = j := by
  have key : ∀ a b : Nat, a < b → p a = true → fb_ct p a < fb_ct p b := by
    intro a b hab ha
    have h := fb_ct_mono p (show a + 1 ≤ b from hab)
    rw [fb_ct_succ, ha] at h
    simp at h
    omega
  rcases Nat.lt_trichotomy i j with q | q | q
  · have := key i j q hi; omega
  · exact q
  · have := key j i q hj; omega
/-! ===== sums over a range: one place changed, parts, bounds ===== -/
def fb_sm (f : Nat → Nat) : Nat → Nat
  | 0 => 0
  | n + 1 => fb_sm f n + f n
theorem fb_sm_succ (f : Nat → Nat) (n : Nat) : fb_sm f (n + 1) = fb_sm f n + f n := rfl
theorem fb_sm_cong {f g : Nat → Nat} : ∀ {n : Nat}, (∀ k, k < n → f k = g k) → fb_sm f n = fb_sm g n
  | 0, _ => rfl
  | n + 1, h => by rw [fb_sm_succ, fb_sm_succ, fb_sm_cong (fun k hk => h k (by omega)), h n (by omega)]
theorem fb_sm_out (f : Nat → Nat) (v : Nat) {i n : Nat} (h : n ≤ i) : fb_sm (fun k => if k = i then v else f k) n = fb_sm f n :=
  fb_sm_cong fun k hk => if_neg (by omega)
theorem fb_sm_upd (f : Nat → Nat) (v : Nat) {i : Nat} : ∀ {n : Nat}, i < n → fb_sm (fun k => if k = i then v else f k) n + f i = fb_sm f n + v
  | 0, h => absurd h (Nat.not_lt_zero i)
  | n + 1, h => by
    rw [fb_sm_succ, fb_sm_succ]
    rcases Nat.lt_or_ge i n with q | q
    · have := fb_sm_upd f v q
      have e : (if n = i then v else f n) = f n := if_neg (by omega)
      rw [e]
      omega
    · have e : i = n := by omega
      subst e
      rw [fb_sm_out f v (Nat.le_refl _)]
      simp only [if_true]
      omega
theorem fb_sm_add (f g : Nat → Nat) : ∀ n, fb_sm (fun k => f k + g k) n = fb_sm f n + fb_sm g n
  | 0 => rfl
  | n + 1 => by
    have h := fb_sm_add f g n
    rw [fb_sm_succ, fb_sm_succ, fb_sm_succ, h]
    omega
theorem fb_sm_le {f g : Nat → Nat} : ∀ {n : Nat}, (∀ k, k < n → f k ≤ g k) → fb_sm f n ≤ fb_sm g n
  | 0, _ => Nat.le_refl _
  | n + 1, h => by
    have h1 := fb_sm_le (n := n) (f := f) (g := g) (fun k hk => h k (by omega))
    have h2 := h n (by omega)
    rw [fb_sm_succ, fb_sm_succ]
    omega
theorem fb_sm_const (c : Nat) : ∀ n, fb_sm (fun _ => c) n = n * c
  | 0 => by rw [Nat.zero_mul]; rfl
  | n + 1 => by rw [fb_sm_succ, fb_sm_const c n, Nat.succ_mul]
theorem fb_sm_bound {f : Nat → Nat} {c n : Nat} (h : ∀ k, k < n → f k ≤ c) : fb_sm f n ≤ n * c := by
  rw [← fb_sm_const c n]
  exact fb_sm_le h
theorem fb_sm_mono (f : Nat → Nat) (m : Nat) : ∀ n, fb_sm f m ≤ fb_sm f (m + n)
  | 0 => Nat.le_refl _
  | n + 1 => by
    have h := fb_sm_mono f m n
    show fb_sm f m ≤ fb_sm f (m + n + 1)
    rw [fb_sm_succ]
    omega
theorem fb_sm_part (f : Nat → Nat) {i n : Nat} (h : i < n) : fb_sm f i + f i ≤ fb_sm f n := by
  have := fb_sm_mono f (i + 1) (n - (i + 1))
  rw [fb_sm_succ, show i + 1 + (n - (i + 1)) = n by omega] at this
  exact this
theorem fb_sm_split (f : Nat → Nat) (m : Nat) : ∀ n, fb_sm f (m + n) = fb_sm f m + fb_sm (fun k => f (m + k)) n
  | 0 => rfl
  | n + 1 => by
    have h := fb_sm_split f m n
    show fb_sm f (m + n + 1) = _
    rw [fb_sm_succ, fb_sm_succ, h, Nat.add_assoc]
theorem fb_sm_zero {f : Nat → Nat} {n : Nat} (h : fb_sm f n = 0) : ∀ k, k < n → f k = 0 := fun k hk => by
  have := fb_sm_part f hk
  omega
/-- the same over whole numbers -/
def fb_si (f : Nat → Int) : Nat → Int
  | 0 => 0
  | n + 1 => fb_si f n + f n
theorem fb_si_succ (f : Nat → Int) (n : Nat) : fb_si f (n + 1) = fb_si f n + f n := rfl
theorem fb_si_cong {f g : Nat → Int} : ∀ {n : Nat}, (∀ k, k < n → f k = g k) → fb_si f n = fb_si g n
  | 0, _ => rfl
  | n + 1, h => by rw [fb_si_succ, fb_si_succ, fb_si_cong (fun k hk => h k (by omega)), h n (by omega)]
theorem fb_si_out (f : Nat → Int) (v : Int) {i n : Nat} (h : n ≤ i) : fb_si (fun k => if k = i then v else f k) n = fb_si f n :=
  fb_si_cong fun k hk => if_neg (by omega)
theorem fb_si_upd (f : Nat → Int) (v : Int) {i : Nat} : ∀ {n : Nat}, i < n → fb_si (fun k => if k = i then v else f k) n = fb_si f n - f i + v
  | 0, h => absurd h (Nat.not_lt_zero i)
  | n + 1, h => by
    rw [fb_si_succ, fb_si_succ]
    rcases Nat.lt_or_ge i n with q | q
    · have := fb_si_upd f v q
      have e : (if n = i then v else f n) = f n := if_neg (by omega)
      rw [e]
      omega
    · have e : i = n := by omega
      subst e
      rw [fb_si_out f v (Nat.le_refl _)]
      simp only [if_true]
      omega
theorem fb_si_add (f g : Nat → Int) : ∀ n, fb_si (fun k => f k + g k) n = fb_si f n + fb_si g n
  | 0 => rfl
  | n + 1 => by
    have h := fb_si_add f g n
    rw [fb_si_succ, fb_si_succ, fb_si_succ, h]
    omega
theorem fb_si_sub (f g : Nat → Int) : ∀ n, fb_si (fun k => f k - g k) n = fb_si f n - fb_si g n
  | 0 => rfl
  | n + 1 => by
    have h := fb_si_sub f g n
    rw [fb_si_succ, fb_si_succ, fb_si_succ, h]
    omega
theorem fb_si_mul (c : Int) (f : Nat → Int) : ∀ n, fb_si (fun k => c * f k) n = c * fb_si f n
  | 0 => (Int.mul_zero c).symm
  | n + 1 => by
    have h := fb_si_mul c f n
    rw [fb_si_succ, fb_si_succ, h, Int.mul_add]
theorem fb_si_split (f : Nat → Int) (m : Nat) : ∀ n, fb_si f (m + n) = fb_si f m + fb_si (fun k => f (m + k)) n
  | 0 => (Int.add_zero _).symm
  | n + 1 => by
    have h := fb_si_split f m n
    show fb_si f (m + n + 1) = _
    rw [fb_si_succ, fb_si_succ, h, Int.add_assoc]
theorem fb_si_nat (f : Nat → Nat) : ∀ n, fb_si (fun k => (f k : Int)) n = (fb_sm f n : Int)
  | 0 => rfl
  | n + 1 => by
    have h := fb_si_nat f n
    rw [fb_si_succ, fb_sm_succ, h]
    omega
theorem fb_si_bound {f : Nat → Int} {c : Int} (hc : 0 ≤ c) : ∀ {n : Nat}, (∀ k, k < n → -c ≤ f k ∧ f k ≤ c) → -(n * c) ≤ fb_si f n ∧ fb_si f n ≤ n * c
  | 0, _ => by simp [fb_si]
  | n + 1, h => by
    have h1 := fb_si_bound (n := n) (f := f) hc (fun k hk => h k (by omega))
    have h2 := h n (by omega)
    have e : ((n + 1 : Nat) : Int) * c = n * c + c := by rw [Int.natCast_add, Int.add_mul]; simp
    rw [fb_si_succ, e]
    omega
/-! ===== bits of a long that isn't negative ===== -/
theorem fb_andL (a b : Nat) : lN a &&& lN b = lN (a &&& b) := by
  apply Int64.toBitVec_inj.1
  show BitVec.ofNat 64 a &&& BitVec.ofNat 64 b = BitVec.ofNat 64 (a &&& b)
  apply BitVec.eq_of_getLsbD_eq
  intro i hi
  simp [hi]
theorem fb_orL (a b : Nat) : lN a ||| lN b = lN (a ||| b) := by
  apply Int64.toBitVec_inj.1
  show BitVec.ofNat 64 a ||| BitVec.ofNat 64 b = BitVec.ofNat 64 (a ||| b)
  apply BitVec.eq_of_getLsbD_eq
  intro i hi
  simp [hi]
theorem fb_xorL (a b : Nat) : lN a ^^^ lN b = lN (a ^^^ b) := by
  apply Int64.toBitVec_inj.1
  show BitVec.ofNat 64 a ^^^ BitVec.ofNat 64 b = BitVec.ofNat 64 (a ^^^ b)
  apply BitVec.eq_of_getLsbD_eq
  intro i hi
  simp [hi]
theorem fb_xorI (a b : Nat) : nI a ^^^ nI b = nI (a ^^^ b) := by
  apply Int32.toBitVec_inj.1
  show BitVec.ofNat 32 a ^^^ BitVec.ofNat 32 b = BitVec.ofNat 32 (a ^^^ b)
  apply BitVec.eq_of_getLsbD_eq
  intro i hi
  simp [hi]
theorem fb_maskL (n k : Nat) : lN n &&& lN (2 ^ k - 1) = lN (n % 2 ^ k) := by rw [fb_andL, Nat.and_two_pow_sub_one_eq_mod]
theorem fb_or_sumL {a k : Nat} (b : Nat) (h : a < 2 ^ k) : lN (2 ^ k * b) ||| lN a = lN (2 ^ k * b + a) := by rw [fb_orL, Nat.two_pow_add_eq_or_of_lt h]
theorem fb_lN_inj {a b : Nat} (ha : a < 2 ^ 63) (hb : b < 2 ^ 63) : lN a = lN b ↔ a = b := by
  constructor
  · intro h
    have h1 : (BitVec.ofNat 64 a).toNat = (BitVec.ofNat 64 b).toNat := congrArg (fun x : Int64 => x.toBitVec.toNat) h
    rw [BitVec.toNat_ofNat, BitVec.toNat_ofNat, Nat.mod_eq_of_lt (by omega), Nat.mod_eq_of_lt (by omega)] at h1
    exact h1
  · rintro rfl; rfl
theorem fb_bit_nat (n j : Nat) : n &&& 2 ^ j = 0 ↔ n.testBit j = false := by
  constructor
  · intro h
    have h1 : (n &&& 2 ^ j).testBit j = false := by rw [h]; simp
    rw [Nat.testBit_and] at h1
    simpa using h1
  · intro h
    apply Nat.eq_of_testBit_eq
    intro i
    rw [Nat.testBit_and]
    by_cases hi : j = i
    · subst hi; simp [h]
    · first | (simp [Nat.testBit_two_pow, hi]; done) | (simp [Nat.testBit_two_pow_of_ne hi]; done)
/-- one bit of a long -/
theorem fb_bitL {n j : Nat} (hj : j < 63) : lN n &&& lN (2 ^ j) = 0 ↔ n.testBit j = false := by
  have h2 : (2 : Nat) ^ j < 2 ^ 63 := Nat.pow_lt_pow_right (by decide) hj
  have hle : n &&& 2 ^ j ≤ 2 ^ j := Nat.and_le_right
  rw [fb_andL, ← fb_bit_nat, show (0 : Int64) = lN 0 from rfl]
  exact fb_lN_inj (by omega) (by decide)
/-- a bit set, a bit taken off -/
theorem fb_bit_set (n j i : Nat) : (n ||| 2 ^ j).testBit i = (n.testBit i || decide (i = j)) := by
  rw [Nat.testBit_or]
  by_cases h : j = i
  · subst h; simp
  · have h2 : ¬ i = j := fun e => h e.symm
    first | (simp [Nat.testBit_two_pow, h, h2]; done) | (simp [Nat.testBit_two_pow_of_ne h, h2]; done)
theorem fb_bit_flip (n j i : Nat) : (n ^^^ 2 ^ j).testBit i = (n.testBit i ^^ decide (i = j)) := by
  rw [Nat.testBit_xor]
  by_cases h : j = i
  · subst h; simp
  · have h2 : ¬ i = j := fun e => h e.symm
    first | (simp [Nat.testBit_two_pow, h, h2]; done) | (simp [Nat.testBit_two_pow_of_ne h, h2]; done)
/-! ===== a stretch of an array written over by a function ===== -/
def fb_put {α : Type} (f g : Nat → α) (a n : Nat) : Nat → α := fun k => if a ≤ k ∧ k < a + n then g (k - a) else f k
theorem fb_put_0 {α : Type} (f g : Nat → α) (a : Nat) : fb_put f g a 0 = f := funext fun k => if_neg (by omega)
theorem fb_put_in {α : Type} {f g : Nat → α} {a n k : Nat} (h1 : a ≤ k) (h2 : k < a + n) : fb_put f g a n k = g (k - a) := if_pos ⟨h1, h2⟩
theorem fb_put_out {α : Type} {f g : Nat → α} {a n k : Nat} (h : k < a ∨ a + n ≤ k) : fb_put f g a n k = f k := if_neg (by omega)
theorem fb_put_succ (f g : Nat → Int32) (a n : Nat) : upd (fb_put f g a n) (a + n) (g n) = fb_put f g a (n + 1) := by
  funext k
  by_cases h : k = a + n
  · subst h
    simp [upd, fb_put]
  · by_cases h1 : a ≤ k ∧ k < a + n
    · have h2 : a ≤ k ∧ k < a + (n + 1) := by omega
      simp only [upd, fb_put, if_neg h, if_pos h1, if_pos h2]
    · have h2 : ¬ (a ≤ k ∧ k < a + (n + 1)) := by omega
      simp only [upd, fb_put, if_neg h, if_neg h1, if_neg h2]
/-- .. from the far end down -/
theorem fb_put_down (f g : Nat → Int32) {a n m : Nat} (h : m < n) : upd (fb_put f (fun k => g (k + (m + 1))) (a + (m + 1)) (n - (m + 1))) (a + m) (g m) = fb_put f (fun k => g (k + m)) (a + m) (n - m) := by
  funext k
  by_cases h0 : k = a + m
  · subst h0
    simp only [upd, if_true]
    rw [fb_put_in (by omega) (by omega)]
    exact congrArg g (by omega)
  · simp only [upd, if_neg h0]
    by_cases h1 : a + (m + 1) ≤ k ∧ k < a + (m + 1) + (n - (m + 1))
    · rw [fb_put_in h1.1 h1.2, fb_put_in (by omega) (by omega)]
      exact congrArg g (by omega)
    · rw [fb_put_out (by omega), fb_put_out (by omega)]
theorem fb_put_cong {α : Type} {f f2 g g2 : Nat → α} {a n : Nat} (hf : ∀ k, (k < a ∨ a + n ≤ k) → f k = f2 k) (hg : ∀ k, k < n → g k = g2 k) : fb_put f g a n = fb_put f2 g2 a n := by
  funext k
  by_cases h : a ≤ k ∧ k < a + n
  · rw [fb_put_in h.1 h.2, fb_put_in h.1 h.2, hg _ (by omega)]
  · rw [fb_put_out (by omega), fb_put_out (by omega), hf _ (by omega)]
/-! ===== the least, the first, the best so far; that there is one alone ===== -/
theorem fb_first {p : Nat → Prop} [DecidablePred p] : ∀ {n : Nat}, (∃ i, i < n ∧ p i) → ∃ i, i < n ∧ p i ∧ ∀ j, j < i → ¬ p j
  | 0, h => by obtain ⟨i, hi, -⟩ := h; exact absurd hi (Nat.not_lt_zero i)
  | n + 1, h => by
    by_cases q : ∃ i, i < n ∧ p i
    · obtain ⟨i, h1, h2⟩ := fb_first q
      exact ⟨i, by omega, h2⟩
    · obtain ⟨i, h1, h2⟩ := h
      have e : i = n := by
        rcases Nat.lt_or_ge i n with r | r
        · exact absurd ⟨i, r, h2⟩ q
        · omega
      subst e
      exact ⟨i, by omega, h2, fun j hj hp => q ⟨j, hj, hp⟩⟩
theorem fb_first_one {p : Nat → Prop} {i j : Nat} (hi : p i) (hi2 : ∀ k, k < i → ¬ p k) (hj : p j) (hj2 : ∀ k, k < j → ¬ p k) : i = j := by
  rcases Nat.lt_trichotomy i j with q | q | q
  · exact absurd hi (hj2 i q)
  · exact q
  · exact absurd hj (hi2 j q)
theorem fb_last {p : Nat → Prop} [DecidablePred p] : ∀ {n : Nat}, (∃ i, i < n ∧ p i) → ∃ i, i < n ∧ p i ∧ ∀ j, i < j → j < n → ¬ p j
  | 0, h => by obtain ⟨i, hi, -⟩ := h; exact absurd hi (Nat.not_lt_zero i)
  | n + 1, h => by
    by_cases q : p n
    · exact ⟨n, by omega, q, fun j h1 h2 => by omega⟩
    · obtain ⟨i, h1, h2⟩ := h
      have hi : i < n := by
        rcases Nat.lt_or_ge i n with r | r
        · exact r
        · have e : i = n := by omega
          subst e
          exact absurd h2 q
      obtain ⟨i2, a1, a2, a3⟩ := fb_last (n := n) ⟨i, hi, h2⟩
      refine ⟨i2, by omega, a2, fun j b1 b2 => ?_⟩
      rcases Nat.lt_or_ge j n with r | r
      · exact a3 j b1 r
      · have e : j = n := by omega
        subst e
        exact q
/-- the first greatest -/
theorem fb_best (f : Nat → Int) : ∀ {n : Nat}, 0 < n → ∃ i, i < n ∧ (∀ j, j < n → f j ≤ f i) ∧ ∀ j, j < i → f j < f i
  | 0, h => absurd h (Nat.lt_irrefl 0)
  | 1, _ => ⟨0, by omega, fun j hj => by have e : j = 0 := by omega
                                         subst e; exact Int.le_refl _, fun j hj => absurd hj (Nat.not_lt_zero j)⟩
  | n + 2, _ => by
    obtain ⟨i, h1, h2, h3⟩ := fb_best f (n := n + 1) (by omega)
    by_cases q : f i < f (n + 1)
    · refine ⟨n + 1, by omega, fun j hj => ?_, fun j hj => ?_⟩
      · rcases Nat.lt_or_ge j (n + 1) with r | r
        · have := h2 j r; omega
        · have e : j = n + 1 := by omega
          subst e; exact Int.le_refl _
      · have := h2 j hj; omega
    · refine ⟨i, by omega, fun j hj => ?_, h3⟩
      rcases Nat.lt_or_ge j (n + 1) with r | r
      · exact h2 j r
      · have e : j = n + 1 := by omega
        subst e; omega
theorem fb_best_one {f : Nat → Int} {n i j : Nat} (hi : i < n) (hi2 : ∀ k, k < n → f k ≤ f i) (hi3 : ∀ k, k < i → f k < f i) (hj : j < n) (hj2 : ∀ k, k < n → f k ≤ f j) (hj3 : ∀ k, k < j → f k < f j) : i = j := by
  rcases Nat.lt_trichotomy i j with q | q | q
  · have a := hj3 i q
    have b := hi2 j hj
    omega
  · exact q
  · have a := hi3 j q
    have b := hj2 i hi
    omega
/-- the first least -/
theorem fb_low (f : Nat → Int) {n : Nat} (h : 0 < n) : ∃ i, i < n ∧ (∀ j, j < n → f i ≤ f j) ∧ ∀ j, j < i → f i < f j := by
  obtain ⟨i, h1, h2, h3⟩ := fb_best (fun k => -f k) h
  exact ⟨i, h1, fun j hj => by have := h2 j hj; omega, fun j hj => by have := h3 j hj; omega⟩
/-! ===== signed ints as whole numbers, within bounds ===== -/
theorem fb_rng (x : Int32) : -2147483648 ≤ x.toInt ∧ x.toInt < 2147483648 := by
  have h1 := Int32.le_toInt x
  have h2 := Int32.toInt_lt x
  omega
theorem fb_bmod {z : Int} (h1 : -2147483648 ≤ z) (h2 : z < 2147483648) : z.bmod (2 ^ 32) = z := by
  rw [Int.bmod_eq_of_le (by omega) (by omega)]
theorem fb_addI {x y : Int32} (h1 : -2147483648 ≤ x.toInt + y.toInt) (h2 : x.toInt + y.toInt < 2147483648) : (x + y).toInt = x.toInt + y.toInt := by
  rw [Int32.toInt_add, fb_bmod h1 h2]
theorem fb_subI {x y : Int32} (h1 : -2147483648 ≤ x.toInt - y.toInt) (h2 : x.toInt - y.toInt < 2147483648) : (x - y).toInt = x.toInt - y.toInt := by
  rw [Int32.toInt_sub, fb_bmod h1 h2]
theorem fb_mulI {x y : Int32} (h1 : -2147483648 ≤ x.toInt * y.toInt) (h2 : x.toInt * y.toInt < 2147483648) : (x * y).toInt = x.toInt * y.toInt := by
  rw [Int32.toInt_mul, fb_bmod h1 h2]
theorem fb_negI {x : Int32} (h : x.toInt ≠ -2147483648) : (-x).toInt = -x.toInt := by
  have := fb_rng x
  rw [Int32.toInt_neg, fb_bmod (by omega) (by omega)]
theorem fb_ofI {z : Int} (h1 : -2147483648 ≤ z) (h2 : z < 2147483648) : (Int32.ofInt z).toInt = z := by
  rw [Int32.toInt_ofInt, fb_bmod h1 h2]
theorem fb_asI (x : Int32) : Int32.ofInt x.toInt = x := Int32.ofInt_toInt x
theorem fb_rngL (x : Int64) : -9223372036854775808 ≤ x.toInt ∧ x.toInt < 9223372036854775808 := by
  have h1 := Int64.le_toInt x
  have h2 := Int64.toInt_lt x
  omega
theorem fb_bmodL {z : Int} (h1 : -9223372036854775808 ≤ z) (h2 : z < 9223372036854775808) : z.bmod (2 ^ 64) = z := by
  rw [Int.bmod_eq_of_le (by omega) (by omega)]
theorem fb_addL {x y : Int64} (h1 : -9223372036854775808 ≤ x.toInt + y.toInt) (h2 : x.toInt + y.toInt < 9223372036854775808) : (x + y).toInt = x.toInt + y.toInt := by
  rw [Int64.toInt_add, fb_bmodL h1 h2]
theorem fb_subL {x y : Int64} (h1 : -9223372036854775808 ≤ x.toInt - y.toInt) (h2 : x.toInt - y.toInt < 9223372036854775808) : (x - y).toInt = x.toInt - y.toInt := by
  rw [Int64.toInt_sub, fb_bmodL h1 h2]
theorem fb_mulL {x y : Int64} (h1 : -9223372036854775808 ≤ x.toInt * y.toInt) (h2 : x.toInt * y.toInt < 9223372036854775808) : (x * y).toInt = x.toInt * y.toInt := by
  rw [Int64.toInt_mul, fb_bmodL h1 h2]
/-! ===== cuts of what is narrow already ===== -/
theorem fb_byte {x : Int32} (h1 : -128 ≤ x.toInt) (h2 : x.toInt < 128) : x.toInt8.toInt32 = x := by
  apply Int32.toInt_inj.1
  rw [Int8.toInt_toInt32, Int32.toInt_toInt8, Int.bmod_eq_of_le (by omega) (by omega)]
theorem fb_short {x : Int32} (h1 : -32768 ≤ x.toInt) (h2 : x.toInt < 32768) : x.toInt16.toInt32 = x := by
  apply Int32.toInt_inj.1
  rw [Int16.toInt_toInt32, Int32.toInt_toInt16, Int.bmod_eq_of_le (by omega) (by omega)]
theorem fb_byte_rng (x : Int32) : -128 ≤ x.toInt8.toInt32.toInt ∧ x.toInt8.toInt32.toInt < 128 := by
  rw [Int8.toInt_toInt32]
  have h1 := Int8.le_toInt x.toInt8
  have h2 := Int8.toInt_lt x.toInt8
  omega
theorem fb_short_rng (x : Int32) : -32768 ≤ x.toInt16.toInt32.toInt ∧ x.toInt16.toInt32.toInt < 32768 := by
  rw [Int16.toInt_toInt32]
  have h1 := Int16.le_toInt x.toInt16
  have h2 := Int16.toInt_lt x.toInt16
  omega
theorem fb_byte_twice (x : Int32) : x.toInt8.toInt32.toInt8.toInt32 = x.toInt8.toInt32 := fb_byte (fb_byte_rng x).1 (fb_byte_rng x).2
theorem fb_short_twice (x : Int32) : x.toInt16.toInt32.toInt16.toInt32 = x.toInt16.toInt32 := fb_short (fb_short_rng x).1 (fb_short_rng x).2
theorem fb_char {n : Nat} (h : n < 65536) : (nI n).toUInt32.toUInt16.toUInt32.toInt32 = nI n := by
  apply Int32.toBitVec_inj.1
  apply BitVec.eq_of_toNat_eq
  have e1 : (nI n).toBitVec.toNat = n := by
    show (BitVec.ofNat 32 n).toNat = n
    rw [BitVec.toNat_ofNat, Nat.mod_eq_of_lt (by omega)]
  have e2 : ((nI n).toUInt32.toUInt16.toUInt32).toNat = n := by
    rw [UInt16.toNat_toUInt32, UInt32.toNat_toUInt16]
    show (nI n).toBitVec.toNat % 2 ^ 16 = n
    rw [e1, Nat.mod_eq_of_lt (by omega)]
  rw [e1]
  exact e2
/-! rows on bits, shifts and unsigned numbers, to paste: each family out of a closed proof of our own, whole with what it rests on; each by itself clean at Lean in its own claim (generation 39, form 5). Take a family whole -/
/-! ===== Int32 by its bits: bt x i ===== -/
def bt (x : Int32) (i : Nat) : Bool := x.toBitVec.getLsbD i
theorem b_ext {x y : Int32} (h : ∀ i, i < 32 → bt x i = bt y i) : x = y := Int32.toBitVec_inj.mp (BitVec.eq_of_getLsbD_eq (fun i hi => h i hi))
theorem b_or (x y : Int32) (i : Nat) : bt (x ||| y) i = (bt x i || bt y i) := by unfold bt; rw [Int32.toBitVec_or, BitVec.getLsbD_or]
theorem b_and (x y : Int32) (i : Nat) : bt (x &&& y) i = (bt x i && bt y i) := by unfold bt; rw [Int32.toBitVec_and, BitVec.getLsbD_and]
theorem b_xor (x y : Int32) (i : Nat) : bt (x ^^^ y) i = (bt x i ^^ bt y i) := by unfold bt; rw [Int32.toBitVec_xor, BitVec.getLsbD_xor]
theorem b_big {x : Int32} {i : Nat} (h : 32 ≤ i) : bt x i = false := BitVec.getLsbD_of_ge _ _ h
theorem b_255 (i : Nat) : bt 255 i = decide (i < 8) := by
  rcases Nat.lt_or_ge i 32 with h | h
  · exact (by decide +kernel : ∀ i, i < 32 → bt 255 i = decide (i < 8)) i h
  · rw [b_big h, decide_eq_false (by omega)]
theorem b_65535 (i : Nat) : bt 65535 i = decide (i < 16) := by
  rcases Nat.lt_or_ge i 32 with h | h
  · exact (by decide +kernel : ∀ i, i < 32 → bt 65535 i = decide (i < 16)) i h
  · rw [b_big h, decide_eq_false (by omega)]
theorem b_m1 : ∀ i, i < 32 → bt (-1) i = true := by decide +kernel
theorem b_0 (i : Nat) : bt 0 i = false := BitVec.getLsbD_zero
theorem s_l : ∀ n, n < 32 → ((nI n &&& 31).toBitVec.smod 32).toNat = n := by decide +kernel
theorem s_u : ∀ n, n < 32 → (((nI n).toUInt32 &&& Int32.toUInt32 31).toBitVec % 32).toNat = n := by decide +kernel
theorem b_shl (n : Nat) (hn : n < 32) (x : Int32) {i : Nat} (hi : i < 32) : bt (x <<< (nI n &&& 31)) i = (decide (n ≤ i) && bt x (i - n)) := by
  unfold bt
  rw [Int32.toBitVec_shiftLeft]
  show (x.toBitVec <<< ((nI n &&& 31).toBitVec.smod 32).toNat).getLsbD i = _
  rw [s_l n hn, BitVec.getLsbD_shiftLeft]
  rcases Nat.lt_or_ge i n with h | h
  · simp [h, Nat.not_le.mpr h]
  · simp [hi, h, Nat.not_lt.mpr h]
theorem b_ushr (n : Nat) (hn : n < 32) (x : Int32) (i : Nat) : bt ((x.toUInt32 >>> ((nI n).toUInt32 &&& Int32.toUInt32 31)).toInt32) i = bt x (n + i) := by
  show (x.toUInt32 >>> ((nI n).toUInt32 &&& Int32.toUInt32 31)).toBitVec.getLsbD i = x.toUInt32.toBitVec.getLsbD (n + i)
  rw [UInt32.toBitVec_shiftRight]
  show (x.toUInt32.toBitVec >>> (((nI n).toUInt32 &&& Int32.toUInt32 31).toBitVec % 32).toNat).getLsbD i = _
  rw [s_u n hn, BitVec.getLsbD_ushiftRight]
theorem b_sshr (n : Nat) (hn : n < 32) (x : Int32) {i : Nat} (hi : i < 32) : bt (x >>> (nI n &&& 31)) i = if n + i < 32 then bt x (n + i) else bt x 31 := by
  unfold bt
  rw [Int32.toBitVec_shiftRight]
  show (x.toBitVec.sshiftRight ((nI n &&& 31).toBitVec.smod 32).toNat).getLsbD i = _
  rw [s_l n hn, BitVec.getLsbD_sshiftRight, BitVec.msb_eq_getLsbD_last]
  simp [hi]
theorem b_shl8 (x : Int32) {i : Nat} (hi : i < 32) : bt (x <<< ((8 : Int32) &&& 31)) i = (decide (8 ≤ i) && bt x (i - 8)) := b_shl 8 (by omega) x hi
theorem b_shl16 (x : Int32) {i : Nat} (hi : i < 32) : bt (x <<< ((16 : Int32) &&& 31)) i = (decide (16 ≤ i) && bt x (i - 16)) := b_shl 16 (by omega) x hi
theorem b_shl24 (x : Int32) {i : Nat} (hi : i < 32) : bt (x <<< ((24 : Int32) &&& 31)) i = (decide (24 ≤ i) && bt x (i - 24)) := b_shl 24 (by omega) x hi
theorem b_sshr8 (x : Int32) {i : Nat} (hi : i < 32) : bt (x >>> ((8 : Int32) &&& 31)) i = if 8 + i < 32 then bt x (8 + i) else bt x 31 := b_sshr 8 (by omega) x hi
/-! ===== nI under and, xor, >>>, one bit, 65535 ===== -/
theorem nx_and (a b : Nat) : nI a &&& nI b = nI (a &&& b) := by
  apply Int32.toBitVec_inj.1
  show BitVec.ofNat 32 a &&& BitVec.ofNat 32 b = BitVec.ofNat 32 (a &&& b)
  apply BitVec.eq_of_getLsbD_eq
  intro i hi
  simp [hi]
theorem nx_xor (a b : Nat) : nI a ^^^ nI b = nI (a ^^^ b) := by
  apply Int32.toBitVec_inj.1
  show BitVec.ofNat 32 a ^^^ BitVec.ofNat 32 b = BitVec.ofNat 32 (a ^^^ b)
  apply BitVec.eq_of_getLsbD_eq
  intro i hi
  simp [hi]
theorem nx_cnt : ∀ j : Fin 32, (UInt32.ofNat j.val &&& Int32.toUInt32 31).toNat % 32 = j.val := by decide +kernel
theorem nx_ush {k j : Nat} (hk : k < 65536) (hj : j < 32) : ((nI k).toUInt32 >>> ((nI j).toUInt32 &&& Int32.toUInt32 31)).toInt32 = nI (k >>> j) := by
  have hs : k >>> j ≤ k := by
    rw [Nat.shiftRight_eq_div_pow]
    exact Nat.div_le_self _ _
  have e2 : UInt32.ofNat k >>> (UInt32.ofNat j &&& Int32.toUInt32 31) = UInt32.ofNat (k >>> j) := by
    apply UInt32.toNat_inj.1
    have h1 : (UInt32.ofNat k).toNat = k := Nat.mod_eq_of_lt (by omega)
    have h2 : (UInt32.ofNat (k >>> j)).toNat = k >>> j := Nat.mod_eq_of_lt (by omega)
    rw [UInt32.toNat_shiftRight, nx_cnt ⟨j, hj⟩, h1, h2]
  show (UInt32.ofNat k >>> (UInt32.ofNat j &&& Int32.toUInt32 31)).toInt32 = _
  rw [e2]
  rfl
theorem nx_bit {k j : Nat} (hk : k < 65536) (hj : j < 16) : (((nI k).toUInt32 >>> ((nI j).toUInt32 &&& Int32.toUInt32 31)).toInt32 &&& 1) = 0 ↔ k.testBit j = false := by
  rw [nx_ush hk (by omega)]
  show nI (k >>> j) &&& nI 1 = 0 ↔ _
  rw [nx_and, Nat.and_one_is_mod, ← nI_0, nI_eq (by omega) (by omega), Nat.testBit_eq_decide_div_mod_eq, Nat.shiftRight_eq_div_pow, decide_eq_false_iff_not]
  generalize k / 2 ^ j = z
  omega
theorem nx_mod (k : Nat) : nI k &&& 65535 = nI (k % 65536) := by
  show nI k &&& nI 65535 = _
  rw [nx_and, show (65535 : Nat) = 2 ^ 16 - 1 from rfl, Nat.and_two_pow_sub_one_eq_mod]
theorem nx_m16 {k : Nat} (h : k < 65536) : nI k &&& 65535 = nI k := by rw [nx_mod, Nat.mod_eq_of_lt h]
theorem nx_mask (x : Int32) : ∃ k, k < 65536 ∧ x &&& 65535 = nI k := by
  have e : x = nI x.toBitVec.toNat := by
    apply Int32.toBitVec_inj.1
    show x.toBitVec = BitVec.ofNat 32 x.toBitVec.toNat
    simp
  refine ⟨x.toBitVec.toNat % 65536, Nat.mod_lt _ (by omega), ?_⟩
  rw [← nx_mod, ← e]
/-! ===== Int32 as a set of bits: test, set ===== -/
def nf_M (m : Int32) : Nat := 4294967296 - m.toBitVec.toNat
theorem nf_sh : ∀ l, l < 32 → ((1 : Int32) <<< (nI l &&& 31)).toBitVec = BitVec.twoPow 32 l := by decide +kernel
theorem nf_sl : ∀ l, l < 32 → (((nI l).toUInt32 &&& Int32.toUInt32 31).toBitVec % 32).toNat = l := by decide +kernel
theorem nf_tp : ∀ l, l < 32 → BitVec.twoPow 32 l ≠ 0#32 := by decide +kernel
theorem nf_bit (m : Int32) (l : Nat) (hl : l < 32) : ((m.toUInt32 >>> ((nI l).toUInt32 &&& Int32.toUInt32 31)).toInt32 &&& 1) = 0 ↔ (m &&& ((1 : Int32) <<< (nI l &&& 31))) = 0 := by
  have e : ((m.toUInt32 >>> ((nI l).toUInt32 &&& Int32.toUInt32 31)).toInt32).toBitVec = m.toBitVec >>> l := by
    show m.toBitVec >>> (((nI l).toUInt32 &&& Int32.toUInt32 31).toBitVec % 32) = m.toBitVec >>> l
    rw [BitVec.ushiftRight_eq', nf_sl l hl]
  rw [← Int32.toBitVec_inj, ← Int32.toBitVec_inj, Int32.toBitVec_and, Int32.toBitVec_and, nf_sh l hl, e, BitVec.and_twoPow]
  show (m.toBitVec >>> l &&& 1#32) = 0#32 ↔ _ = 0#32
  rw [BitVec.and_one_eq_setWidth_ofBool_getLsbD, BitVec.getLsbD_ushiftRight, Nat.add_zero]
  cases hb : m.toBitVec.getLsbD l
  · exact ⟨fun _ => by simp, fun _ => by decide⟩
  · exact ⟨fun z => absurd z (by decide), fun z => absurd ((if_pos rfl).symm.trans z) (nf_tp l hl)⟩
theorem nf_gr (m k : Int32) (h : m &&& k = 0) (hk : k ≠ 0) : nf_M (m ||| k) < nf_M m := by
  have hm := m.toBitVec.isLt
  have hm' := (m ||| k).toBitVec.isLt
  have h1 : m.toBitVec.toNat ≤ (m ||| k).toBitVec.toNat := by
    rw [Int32.toBitVec_or, BitVec.toNat_or]
    exact Nat.left_le_or
  have h2 : m.toBitVec.toNat ≠ (m ||| k).toBitVec.toNat := by
    intro e
    have e2 : m = m ||| k := Int32.toBitVec_inj.mp (BitVec.eq_of_toNat_eq e)
    apply hk
    apply Int32.toBitVec_inj.mp
    show k.toBitVec = 0#32
    apply BitVec.eq_of_getLsbD_eq
    intro i hi
    have a : m.toBitVec.getLsbD i = (m.toBitVec.getLsbD i || k.toBitVec.getLsbD i) := by rw [← BitVec.getLsbD_or, ← Int32.toBitVec_or, ← e2]
    have b : (m.toBitVec.getLsbD i && k.toBitVec.getLsbD i) = false := by
      rw [← BitVec.getLsbD_and, ← Int32.toBitVec_and, h]
      exact BitVec.getLsbD_zero
    rw [BitVec.getLsbD_zero]
    revert a b
    cases m.toBitVec.getLsbD i <;> cases k.toBitVec.getLsbD i <;> simp
  unfold nf_M
  omega
/-! ===== a byte read unsigned ===== -/
theorem bp_b (x : Int32) : x.toInt8.toInt32 &&& 255 = x &&& 255 := by
  apply Int32.toBitVec_inj.mp
  rw [Int32.toBitVec_and, Int32.toBitVec_and, Int8.toBitVec_toInt32, Int32.toBitVec_toInt8]
  apply BitVec.eq_of_getLsbD_eq
  intro i hi
  rw [BitVec.getLsbD_and, BitVec.getLsbD_and]
  have hm : ∀ i < 32, 8 ≤ i → (255 : Int32).toBitVec.getLsbD i = false := by decide
  rcases Nat.lt_or_ge i 8 with z | z
  · rw [BitVec.getLsbD_signExtend, BitVec.getLsbD_signExtend, if_pos z, if_pos hi]
    simp only [z, hi, decide_true, Bool.true_and]
  · rw [hm i hi z]; simp
/-! ===== the char cast and 65535 ===== -/
/-! ===== Int64 as a set of bits: test, set, clear ===== -/
theorem ts_nf {x : Bool} (h : ¬ x = false) : x = true := by cases x <;> first | rfl | exact absurd rfl h
theorem ts_nt {x : Bool} (h : ¬ x = true) : x = false := by cases x <;> first | rfl | exact absurd rfl h
theorem ts_bit {w : Int64} {s : UInt64} {j : Nat} (hj : j < 64) (hs : s.toNat = j) : ((w.toUInt64 >>> s).toInt64 &&& 1) = 0 ↔ w.toBitVec.getLsbD j = false := by
  have e : (w.toUInt64 >>> s).toInt64.toBitVec = w.toBitVec >>> j := by
    apply BitVec.eq_of_toNat_eq
    show (w.toUInt64 >>> s).toNat = _
    rw [UInt64.toNat_shiftRight, hs, Nat.mod_eq_of_lt hj, BitVec.toNat_ushiftRight]
    rfl
  rw [← Int64.toBitVec_inj, Int64.toBitVec_and, e]
  show w.toBitVec >>> j &&& 1#64 = 0#64 ↔ _
  constructor
  · intro h
    have t := congrArg (fun x => x.getLsbD 0) h
    simpa using t
  · intro h
    apply BitVec.eq_of_getLsbD_eq
    intro i hi
    cases i with
    | zero => simp [h]
    | succ i => simp
theorem ts_or {w m : Int64} {j : Nat} (hj : j < 64) (hm : m.toBitVec = BitVec.twoPow 64 j) : (w ||| m) = w ↔ w.toBitVec.getLsbD j = true := by
  rw [← Int64.toBitVec_inj, Int64.toBitVec_or, hm]
  constructor
  · intro h
    have t := congrArg (fun x => x.getLsbD j) h
    simp only [BitVec.getLsbD_or, BitVec.getLsbD_twoPow] at t
    simpa [hj] using t.symm
  · intro h
    apply BitVec.eq_of_getLsbD_eq
    intro i hi
    rw [BitVec.getLsbD_or, BitVec.getLsbD_twoPow]
    by_cases e : j = i
    · subst e; rw [h, Bool.true_or]
    · simp [e]
theorem ts_and {w m : Int64} {j : Nat} (hj : j < 64) (hm : m.toBitVec = BitVec.twoPow 64 j) : (w &&& (m ^^^ (-1))) = w ↔ w.toBitVec.getLsbD j = false := by
  have ha : (-1 : Int64).toBitVec = BitVec.allOnes 64 := by decide
  rw [← Int64.toBitVec_inj, Int64.toBitVec_and, Int64.toBitVec_xor, hm, ha]
  constructor
  · intro h
    have t := congrArg (fun x => x.getLsbD j) h
    simp only [BitVec.getLsbD_and, BitVec.getLsbD_xor, BitVec.getLsbD_twoPow, BitVec.getLsbD_allOnes] at t
    simpa [hj] using t.symm
  · intro h
    apply BitVec.eq_of_getLsbD_eq
    intro i hi
    rw [BitVec.getLsbD_and, BitVec.getLsbD_xor, BitVec.getLsbD_twoPow, BitVec.getLsbD_allOnes]
    by_cases e : j = i
    · subst e; rw [h, Bool.false_and]
    · simp [e, hi]
/-! ===== lN n to 2^64: shifts, and, or, masks, one bit ===== -/
theorem wb_tb (n : Nat) : (lN n).toBitVec = BitVec.ofNat 64 n := rfl
theorem wb_inj {a b : Int64} (h : a.toBitVec = b.toBitVec) : a = b := Int64.toBitVec_inj.mp h
theorem wb_tn {n : Nat} (h : n < 2 ^ 64) : (lN n).toBitVec.toNat = n := by rw [wb_tb, BitVec.toNat_ofNat, Nat.mod_eq_of_lt h]
theorem wb_of (x : Int64) : ∃ n, n < 2 ^ 64 ∧ x = lN n := ⟨x.toBitVec.toNat, x.toBitVec.isLt, wb_inj (by rw [wb_tb]; simp)⟩
theorem wb_of32 (x : Int32) : ∃ n, n < 2 ^ 32 ∧ x = nI n := ⟨x.toBitVec.toNat, x.toBitVec.isLt, Int32.toBitVec_inj.mp (by show _ = BitVec.ofNat 32 _; simp)⟩
theorem wb_c : ∀ k, k < 64 → ((nI k).toInt64 &&& 63) = lN k := by decide +kernel
theorem wb_cu : ∀ k, k < 64 → ((nI k).toInt64.toUInt64 &&& Int64.toUInt64 63) = UInt64.ofNat k := by decide +kernel
theorem wb_sm : ∀ k, k < 64 → (BitVec.ofNat 64 k).smod 64 = BitVec.ofNat 64 k := by decide +kernel
theorem wb_pw {a b : Nat} (h : a ≤ b) : 2 ^ b = 2 ^ a * 2 ^ (b - a) := by rw [← Nat.pow_add]; congr 1; omega
theorem wb_lt2 {a b : Nat} (h : a < b) : 2 ^ a < 2 ^ b := Nat.pow_lt_pow_right (by decide) h
theorem wb_mod (n : Nat) : lN n = lN (n % 2 ^ 64) := wb_inj (by rw [wb_tb, wb_tb]; apply BitVec.eq_of_toNat_eq; rw [BitVec.toNat_ofNat, BitVec.toNat_ofNat, Nat.mod_mod])
theorem wb_shr {n k : Nat} (hn : n < 2 ^ 64) (hk : k < 64) : ((lN n).toUInt64 >>> ((nI k).toInt64.toUInt64 &&& Int64.toUInt64 63)).toInt64 = lN (n / 2 ^ k) := by
  rw [wb_cu k hk]
  apply wb_inj
  apply BitVec.eq_of_toNat_eq
  show ((lN n).toUInt64 >>> UInt64.ofNat k).toNat = (BitVec.ofNat 64 _).toNat
  have h1 : (UInt64.ofNat k).toNat = k := by
    show (BitVec.ofNat 64 k).toNat = k
    rw [BitVec.toNat_ofNat, Nat.mod_eq_of_lt (by omega)]
  have h2 : (lN n).toUInt64.toNat = n := wb_tn hn
  rw [UInt64.toNat_shiftRight, h1, h2, Nat.mod_eq_of_lt hk, Nat.shiftRight_eq_div_pow, BitVec.toNat_ofNat, Nat.mod_eq_of_lt (Nat.lt_of_le_of_lt (Nat.div_le_self _ _) hn)]
theorem wb_shl (n : Nat) {k : Nat} (hk : k < 64) : lN n <<< ((nI k).toInt64 &&& 63) = lN (n * 2 ^ k) := by
  rw [wb_c k hk]
  apply wb_inj
  rw [Int64.toBitVec_shiftLeft, wb_tb, wb_tb, wb_tb, wb_sm k hk]
  apply BitVec.eq_of_toNat_eq
  rw [BitVec.shiftLeft_eq', BitVec.toNat_shiftLeft, BitVec.toNat_ofNat, BitVec.toNat_ofNat, BitVec.toNat_ofNat, Nat.mod_eq_of_lt (show k < 2 ^ 64 by omega), Nat.shiftLeft_eq, Nat.mul_mod, Nat.mod_mod, ← Nat.mul_mod]
theorem wb_and {a b : Nat} (ha : a < 2 ^ 64) (hb : b < 2 ^ 64) : lN a &&& lN b = lN (a &&& b) := by
  apply wb_inj
  rw [Int64.toBitVec_and, wb_tb, wb_tb, wb_tb]
  apply BitVec.eq_of_toNat_eq
  rw [BitVec.toNat_and, BitVec.toNat_ofNat, BitVec.toNat_ofNat, BitVec.toNat_ofNat, Nat.mod_eq_of_lt ha, Nat.mod_eq_of_lt hb, Nat.mod_eq_of_lt (Nat.and_lt_two_pow _ hb)]
theorem wb_or {a b : Nat} (ha : a < 2 ^ 64) (hb : b < 2 ^ 64) : lN a ||| lN b = lN (a ||| b) := by
  apply wb_inj
  rw [Int64.toBitVec_or, wb_tb, wb_tb, wb_tb]
  apply BitVec.eq_of_toNat_eq
  rw [BitVec.toNat_or, BitVec.toNat_ofNat, BitVec.toNat_ofNat, BitVec.toNat_ofNat, Nat.mod_eq_of_lt ha, Nat.mod_eq_of_lt hb, Nat.mod_eq_of_lt (Nat.or_lt_two_pow ha hb)]
theorem wb_mask {n k : Nat} (hn : n < 2 ^ 64) (hk : k < 64) : lN n &&& lN (2 ^ k - 1) = lN (n % 2 ^ k) := by
  rw [wb_and hn (by have := wb_lt2 hk; omega), Nat.and_two_pow_sub_one_eq_mod]
theorem wb_a1 {n : Nat} (hn : n < 2 ^ 64) : lN n &&& 1 = lN (n % 2) := wb_mask (k := 1) hn (by decide)
theorem wb_bit {n k : Nat} (hn : n < 2 ^ 64) (hk : k < 64) : ((lN n).toUInt64 >>> ((nI k).toInt64.toUInt64 &&& Int64.toUInt64 63)).toInt64 &&& 1 = lN (n / 2 ^ k % 2) := by
  rw [wb_shr hn hk, wb_a1 (Nat.lt_of_le_of_lt (Nat.div_le_self _ _) hn)]
theorem wb_xor {q k : Nat} (hk : k < 63) (h : 2 ^ k ≤ q) (h2 : q < 2 ^ (k + 1)) : lN q ^^^ lN (2 ^ k) = lN (q - 2 ^ k) := by
  obtain ⟨r, rfl⟩ : ∃ r, q = 2 ^ k + r := ⟨q - 2 ^ k, by omega⟩
  have hr : r < 2 ^ k := by rw [Nat.pow_succ] at h2; omega
  have hx : (2 ^ k + r) ^^^ 2 ^ k = r := by
    apply Nat.eq_of_testBit_eq
    intro i
    rw [Nat.testBit_xor, Nat.testBit_two_pow]
    rcases Nat.lt_trichotomy i k with h | h | h
    · rw [Nat.testBit_two_pow_add_gt h]
      simp [show ¬ k = i by omega]
    · subst h
      rw [Nat.testBit_two_pow_add_eq]
      simp
    · have a1 : 2 ^ (k + 1) ≤ 2 ^ i := Nat.pow_le_pow_right (by decide) h
      rw [Nat.testBit_lt_two_pow (show 2 ^ k + r < 2 ^ i by omega), Nat.testBit_lt_two_pow (show r < 2 ^ i by omega)]
      simp [show ¬ k = i by omega]
  have b1 := wb_lt2 (show k + 1 < 64 by omega)
  have b2 := wb_lt2 (show k < 64 by omega)
  apply wb_inj
  rw [Int64.toBitVec_xor, wb_tb, wb_tb, wb_tb]
  apply BitVec.eq_of_toNat_eq
  rw [BitVec.toNat_xor, BitVec.toNat_ofNat, BitVec.toNat_ofNat, BitVec.toNat_ofNat, Nat.mod_eq_of_lt (by omega : 2 ^ k + r < 2 ^ 64), Nat.mod_eq_of_lt b2, hx, Nat.add_sub_cancel_left, Nat.mod_eq_of_lt (by omega)]
/-! ===== lN: masks, 'or' of parts that don't overlap is a sum ===== -/
theorem u_tn {n : Nat} (h : n < 2 ^ 64) : (UInt64.ofNat n).toNat = n := Nat.mod_eq_of_lt h
theorem g_and {a b c : Nat} (ha : a < 2 ^ 64) (hb : b < 2 ^ 64) (hc : a &&& b = c) : lN a &&& lN b = lN c := by
  subst hc
  have h : UInt64.ofNat a &&& UInt64.ofNat b = UInt64.ofNat (a &&& b) := UInt64.toNat_inj.mp (by rw [UInt64.toNat_and, u_tn ha, u_tn hb, u_tn (Nat.and_lt_two_pow a hb)])
  have h2 := congrArg UInt64.toInt64 h
  exact h2
theorem g_and1 {a : Nat} (ha : a < 2 ^ 64) : lN a &&& 1 = lN (a % 2) := g_and (b := 1) ha (by decide) (Nat.and_two_pow_sub_one_eq_mod a 1)
theorem g_mask {a s p : Nat} (hp : 2 ^ s = p) (hs : s < 64) (ha : a < 2 ^ 64) : lN a &&& lN (p - 1) = lN (a % p) := by
  subst hp
  have := Nat.pow_lt_pow_right (show 1 < 2 by decide) hs
  exact g_and ha (by omega) (Nat.and_two_pow_sub_one_eq_mod a s)
theorem g_or {k p a b : Nat} (hp : 2 ^ k = p) (ha : a < p) (h : b * p + a < 2 ^ 64) : lN (b * p) ||| lN a = lN (b * p + a) := by
  subst hp
  have h1 : b * 2 ^ k ||| a = b * 2 ^ k + a := by rw [← Nat.shiftLeft_eq, Nat.shiftLeft_add_eq_or_of_lt ha]
  have h3 : UInt64.ofNat (b * 2 ^ k) ||| UInt64.ofNat a = UInt64.ofNat (b * 2 ^ k + a) := UInt64.toNat_inj.mp (by rw [UInt64.toNat_or, u_tn (by omega), u_tn (by omega), u_tn h, h1])
  have h2 := congrArg UInt64.toInt64 h3
  exact h2
theorem g_or' {k p a b : Nat} (hp : 2 ^ k = p) (ha : a < p) (h : a + b * p < 2 ^ 64) : lN a ||| lN (b * p) = lN (a + b * p) := by
  rw [Int64.or_comm, g_or hp ha (by omega), Nat.add_comm]
theorem g_ushr {a k p : Nat} {y : UInt64} (hy : y = UInt64.ofNat k) (hk : k < 64) (hp : 2 ^ k = p) (ha : a < 2 ^ 64) : ((lN a).toUInt64 >>> y).toInt64 = lN (a / p) := by
  subst hy hp
  have h : UInt64.ofNat a >>> UInt64.ofNat k = UInt64.ofNat (a / 2 ^ k) := UInt64.toNat_inj.mp (by rw [UInt64.toNat_shiftRight, u_tn ha, u_tn (by omega), u_tn (Nat.lt_of_le_of_lt (Nat.div_le_self _ _) ha), Nat.mod_eq_of_lt hk, Nat.shiftRight_eq_div_pow])
  have h2 := congrArg UInt64.toInt64 h
  exact h2
theorem g_shl {a k p : Nat} {y : Int64} (hy : y.toBitVec.smod 64 = BitVec.ofNat 64 k) (hk : k < 64) (hp : 2 ^ k = p) (ha : a < 2 ^ 64) : lN a <<< y = lN (a * p) := by
  subst hp
  apply Int64.toBitVec_inj.mp
  rw [Int64.toBitVec_shiftLeft, hy]
  apply BitVec.eq_of_toNat_eq
  have hb : (lN a).toBitVec.toNat = a := Nat.mod_eq_of_lt ha
  have hk' : (BitVec.ofNat 64 k).toNat = k := Nat.mod_eq_of_lt (by omega)
  have h : ((lN a).toBitVec <<< BitVec.ofNat 64 k).toNat = (a * 2 ^ k) % 2 ^ 64 := by simp only [BitVec.shiftLeft_eq', BitVec.toNat_shiftLeft, hb, hk', Nat.shiftLeft_eq]
  exact h
/-! ===== lN to 2^62 under >> and >>> ===== -/
theorem pf_lI {a : Nat} (h : a < 2 ^ 63) : (lN a).toInt = (a : Int) := lg_ofNat_toInt h
theorem pf_shr {a d : Nat} {D : Int64} (hD : (D.toBitVec.smod 64).toNat = d) (h : a < 2 ^ 62) : lN a >>> D = lN (a / 2 ^ d) := by
  have hd : a / 2 ^ d ≤ a := Nat.div_le_self _ _
  apply Int64.toInt_inj.mp
  have e : (lN a >>> D).toInt = (lN a).toInt >>> d := by
    rw [← hD]
    exact BitVec.toInt_sshiftRight ..
  rw [e, Int.shiftRight_eq_div_pow, pf_lI (by omega), pf_lI (by omega)]
  rfl
theorem pf_ushr {a d : Nat} {D : UInt64} (hD : D.toNat % 64 = d) (h : a < 2 ^ 62) : ((lN a).toUInt64 >>> D).toInt64 = lN (a / 2 ^ d) := by
  have hd : a / 2 ^ d ≤ a := Nat.div_le_self _ _
  have e : (lN a).toUInt64 >>> D = UInt64.ofNat (a / 2 ^ d) := UInt64.toNat_inj.mp (by
    rw [UInt64.toNat_shiftRight, hD, Nat.shiftRight_eq_div_pow, UInt64.toNat_ofNat']
    show (UInt64.ofNat a).toNat / 2 ^ d = _
    rw [UInt64.toNat_ofNat', Nat.mod_eq_of_lt (by omega), Nat.mod_eq_of_lt (by omega)])
  rw [e]
  rfl
theorem pf_andw (x : Int64) : ∃ m, m < 2 ^ 32 ∧ x &&& 4294967295 = lN m := ⟨x.toBitVec.toNat % 2 ^ 32, Nat.mod_lt _ (by decide), Int64.toBitVec_inj.mp (BitVec.eq_of_toNat_eq (by
  show (x.toBitVec &&& 4294967295#64).toNat = (BitVec.ofNat 64 (x.toBitVec.toNat % 2 ^ 32)).toNat
  rw [BitVec.toNat_and, show (4294967295#64).toNat = 2 ^ 32 - 1 from by decide, Nat.and_two_pow_sub_one_eq_mod, BitVec.toNat_ofNat]
  omega))⟩
/-! ===== Int64 as an unsigned number: uN x ===== -/
def uN (x : Int64) : Nat := x.toUInt64.toNat
theorem uN_lt (x : Int64) : uN x < 18446744073709551616 := x.toUInt64.toNat_lt
theorem uN_inj {x y : Int64} (h : uN x = uN y) : x = y := congrArg UInt64.toInt64 (UInt64.toNat_inj.mp h)
theorem uN_add (x y : Int64) : uN (x + y) = (uN x + uN y) % 18446744073709551616 := by
  show (x.toUInt64 + y.toUInt64).toNat = _
  exact UInt64.toNat_add _ _
theorem uN_mul (x y : Int64) : uN (x * y) = (uN x * uN y) % 18446744073709551616 := by
  show (x.toUInt64 * y.toUInt64).toNat = _
  exact UInt64.toNat_mul _ _
theorem uN_shl (x : Int64) : uN (x <<< ((1 : Int32).toInt64 &&& 63)) = (2 * uN x) % 18446744073709551616 := by
  have h : (((1 : Int32).toInt64 &&& 63).toBitVec.smod 64).toNat = 1 := by decide
  show (x.toBitVec <<< (((1 : Int32).toInt64 &&& 63).toBitVec.smod 64).toNat).toNat = _
  rw [h, BitVec.toNat_shiftLeft, Nat.shiftLeft_eq, Nat.mul_comm]
  rfl
theorem uN_shr (x : Int64) (s : UInt64) : uN (x.toUInt64 >>> s).toInt64 = uN x / 2 ^ (s.toNat % 64) := by
  show (x.toUInt64 >>> s).toNat = _
  rw [UInt64.toNat_shiftRight, Nat.shiftRight_eq_div_pow]
  rfl
theorem uN_s32 (x : Int64) : uN (x.toUInt64 >>> ((32 : Int32).toInt64.toUInt64 &&& Int64.toUInt64 63)).toInt64 = uN x / 4294967296 := by
  have h : ((32 : Int32).toInt64.toUInt64 &&& Int64.toUInt64 63).toNat % 64 = 32 := by decide
  rw [uN_shr, h]
theorem uN_s63 (x : Int64) : uN (x.toUInt64 >>> ((63 : Int32).toInt64.toUInt64 &&& Int64.toUInt64 63)).toInt64 = uN x / 9223372036854775808 := by
  have h : ((63 : Int32).toInt64.toUInt64 &&& Int64.toUInt64 63).toNat % 64 = 63 := by decide
  rw [uN_shr, h]
theorem uN_lo (x : Int64) : uN (x &&& 4294967295) = uN x % 4294967296 := by
  show (x.toUInt64 &&& Int64.toUInt64 4294967295).toNat = _
  rw [UInt64.toNat_and]
  exact Nat.and_two_pow_sub_one_eq_mod _ 32
theorem uN_bit (x : Int64) : (x &&& 1) = 0 ↔ uN x % 2 = 0 := by
  have h : uN (x &&& 1) = uN x % 2 := by
    show (x.toUInt64 &&& Int64.toUInt64 1).toNat = _
    rw [UInt64.toNat_and]
    exact Nat.and_two_pow_sub_one_eq_mod _ 1
  rw [← h]
  exact ⟨fun z => by rw [z]; rfl, fun z => uN_inj (z.trans rfl)⟩
theorem uN_or {x y : Int64} (hy : uN y < 2) : uN ((x <<< ((1 : Int32).toInt64 &&& 63)) ||| y) = (2 * uN x) % 18446744073709551616 + uN y := by
  have h1 : uN ((x <<< ((1 : Int32).toInt64 &&& 63)) ||| y) = uN (x <<< ((1 : Int32).toInt64 &&& 63)) ||| uN y := UInt64.toNat_or _ _
  have h2 : (2 * uN x) % 18446744073709551616 = 2 ^ 1 * (uN x % 9223372036854775808) := by omega
  rw [h1, uN_shl, h2]
  exact (Nat.two_pow_add_eq_or_of_lt (i := 1) hy _).symm
theorem nat_xor {a : Nat} (h : a < 18446744073709551616) : a ^^^ 2 ^ 63 = (a + 9223372036854775808) % 18446744073709551616 := by
  have h1 : (a ^^^ 2 ^ 63) % 2 ^ 63 = a % 2 ^ 63 := by rw [Nat.xor_mod_two_pow, Nat.mod_self, Nat.xor_zero]
  have h2 : (a ^^^ 2 ^ 63) / 2 ^ 63 = (a / 2 ^ 63) ^^^ 1 := by rw [Nat.xor_div_two_pow, Nat.div_self (Nat.two_pow_pos 63)]
  have h3 : a / 2 ^ 63 = 0 ∨ a / 2 ^ 63 = 1 := by omega
  generalize a ^^^ 2 ^ 63 = t at h1 h2
  rcases h3 with h3 | h3
  · rw [h3] at h2
    have h2 : t / 2 ^ 63 = 1 := h2
    omega
  · rw [h3] at h2
    have h2 : t / 2 ^ 63 = 0 := h2
    omega
theorem uN_xor (x : Int64) : uN (x ^^^ (-9223372036854775808)) = (uN x + 9223372036854775808) % 18446744073709551616 := by
  rw [← nat_xor (uN_lt x)]
  exact UInt64.toNat_xor _ _
theorem uN_int (x : Int64) : x.toInt = if 2 * uN x < 18446744073709551616 then (uN x : Int) else (uN x : Int) - 18446744073709551616 := BitVec.toInt_eq_toNat_cond _
theorem uN_le (x y : Int64) : (x ^^^ (-9223372036854775808)) ≤ (y ^^^ (-9223372036854775808)) ↔ uN x ≤ uN y := by
  have hx := uN_lt x
  have hy := uN_lt y
  rw [Int64.le_iff_toInt_le, uN_int, uN_int, uN_xor, uN_xor]
  omega
theorem uN_sk (x : Int64) {k : Nat} (hk : k < 64) : uN (x.toUInt64 >>> ((nI k).toInt64.toUInt64 &&& Int64.toUInt64 63)).toInt64 = uN x / 2 ^ k := by
  have h : ((nI k).toInt64.toUInt64 &&& Int64.toUInt64 63).toNat % 64 = k := by
    rw [nI_l (by omega), UInt64.toNat_and]
    have e : (lN k).toUInt64.toNat = k % 2 ^ 64 := rfl
    have e2 : (Int64.toUInt64 63).toNat = 2 ^ 6 - 1 := by decide
    rw [e, e2, Nat.and_two_pow_sub_one_eq_mod]
    omega
  rw [uN_shr, h]
/-! ===== unsigned comparison by xor with the least ===== -/
theorem lN_bv (n : Nat) : (lN n).toBitVec = BitVec.ofNat 64 n := rfl
theorem lN_nat {n : Nat} (h : n < 2 ^ 64) : (lN n).toBitVec.toNat = n := by rw [lN_bv, BitVec.toNat_ofNat]; exact Nat.mod_eq_of_lt h
theorem lN_xor (a b : Nat) : lN a ^^^ lN b = lN (a ^^^ b) := by
  apply Int64.toBitVec_inj.mp; rw [Int64.toBitVec_xor, lN_bv, lN_bv, lN_bv]; apply BitVec.eq_of_getLsbD_eq; intro i hi; simp [BitVec.getLsbD_ofNat, Nat.testBit_xor, hi]
theorem lN_ti {m : Nat} (h : m < 2 ^ 64) : (lN m).toInt = if m < 2 ^ 63 then (m : Int) else (m : Int) - 2 ^ 64 := by
  have c := BitVec.toInt_eq_toNat_cond (lN m).toBitVec
  rw [lN_nat h] at c
  show (lN m).toBitVec.toInt = _
  rw [c]
  split <;> split <;> omega
theorem xor63 {x : Nat} (h : x < 2 ^ 63) : x ^^^ 2 ^ 63 = 2 ^ 63 + x := by
  apply Nat.eq_of_testBit_eq
  intro i
  rw [Nat.testBit_xor, Nat.testBit_two_pow]
  rcases Nat.lt_trichotomy i 63 with z | z | z
  · rw [Nat.testBit_two_pow_add_gt z, decide_eq_false (by omega)]; simp
  · subst z; rw [Nat.testBit_two_pow_add_eq]; simp
  · have hp : 2 ^ 64 ≤ 2 ^ i := Nat.pow_le_pow_right (by decide) z
    rw [Nat.testBit_lt_two_pow (show x < 2 ^ i by omega), Nat.testBit_lt_two_pow (show 2 ^ 63 + x < 2 ^ i by omega), decide_eq_false (by omega)]; rfl
theorem xorS {a : Nat} (h : a < 2 ^ 64) : (lN a ^^^ (-9223372036854775808)).toInt = (a : Int) - 2 ^ 63 := by
  rw [show (-9223372036854775808 : Int64) = lN (2 ^ 63) from by decide +kernel, lN_xor]
  rcases Nat.lt_or_ge a (2 ^ 63) with z | z
  · rw [xor63 z, lN_ti (by omega), if_neg (by omega)]; omega
  · obtain ⟨x, rfl⟩ : ∃ x, a = 2 ^ 63 + x := ⟨a - 2 ^ 63, by omega⟩
    rw [← xor63 (by omega), Nat.xor_assoc, Nat.xor_self, Nat.xor_zero, lN_ti (by omega), if_pos (by omega), xor63 (by omega)]; omega
theorem ultL {a b : Nat} (ha : a < 2 ^ 64) (hb : b < 2 ^ 64) : ((lN b ^^^ (-9223372036854775808)) ≤ (lN a ^^^ (-9223372036854775808))) ↔ b ≤ a := by
  rw [Int64.le_iff_toInt_le, xorS ha, xorS hb]; omega
/-! ===== Int64 masks of n low bits ===== -/
theorem cr_bits (W U M : BitVec 64) : ((W &&& U) &&& (U &&& (M ^^^ BitVec.allOnes 64))) = 0#64 ↔ (W &&& U) &&& M = W &&& U := by
  constructor
  · intro h
    apply BitVec.eq_of_getLsbD_eq
    intro i hi
    have e := congrArg (fun x => BitVec.getLsbD x i) h
    simp only [BitVec.getLsbD_and, BitVec.getLsbD_xor, BitVec.getLsbD_allOnes, BitVec.getLsbD_zero, hi, decide_true] at e ⊢
    revert e
    cases W.getLsbD i <;> cases U.getLsbD i <;> cases M.getLsbD i <;> decide
  · intro h
    apply BitVec.eq_of_getLsbD_eq
    intro i hi
    have e := congrArg (fun x => BitVec.getLsbD x i) h
    simp only [BitVec.getLsbD_and, BitVec.getLsbD_xor, BitVec.getLsbD_allOnes, BitVec.getLsbD_zero, hi, decide_true] at e ⊢
    revert e
    cases W.getLsbD i <;> cases U.getLsbD i <;> cases M.getLsbD i <;> decide
theorem cr_mask (w U m : Int64) (n : Nat) (hm : m.toBitVec.toNat = 2 ^ n - 1) : ((w &&& U) &&& (U &&& (m ^^^ (-1)))) = 0 ↔ (w &&& U).toBitVec.toNat < 2 ^ n := by
  have e0 : (-1 : Int64).toBitVec = BitVec.allOnes 64 := by decide
  have z0 : (0 : Int64).toBitVec = 0#64 := by decide
  rw [← Int64.toBitVec_inj, z0, Int64.toBitVec_and, Int64.toBitVec_and, Int64.toBitVec_and, Int64.toBitVec_xor, e0, cr_bits]
  generalize w.toBitVec &&& U.toBitVec = T
  rw [← BitVec.toNat_inj, BitVec.toNat_and, hm, Nat.and_two_pow_sub_one_eq_mod]
  constructor
  · intro h
    have t := Nat.mod_lt T.toNat (Nat.two_pow_pos n)
    rw [h] at t
    exact t
  · exact Nat.mod_eq_of_lt
theorem cr_shr (t : Int64) (x : UInt64) (n : Nat) (hx : x.toNat % 64 = n) : (t.toUInt64 >>> x).toInt64 = 0 ↔ t.toBitVec.toNat < 2 ^ n := by
  rw [← Int64.toBitVec_inj, ← BitVec.toNat_inj]
  show (t.toUInt64 >>> x).toNat = 0 ↔ t.toUInt64.toNat < 2 ^ n
  rw [UInt64.toNat_shiftRight, hx, Nat.shiftRight_eq_div_pow]
  constructor
  · intro h
    have d : t.toUInt64.toNat / 2 ^ n < 1 := by
      rw [h]
      decide
    have e := (Nat.div_lt_iff_lt_mul (Nat.two_pow_pos n)).mp d
    rw [Nat.one_mul] at e
    exact e
  · exact Nat.div_eq_of_lt
theorem cr_amt (s : Int64) : ∃ n, n < 64 ∧ s &&& 63 = lN n ∧ (s.toUInt64 &&& Int64.toUInt64 63).toNat % 64 = n := by
  have e : (s.toUInt64 &&& Int64.toUInt64 63).toNat = s.toUInt64.toNat % 2 ^ 6 := by
    rw [UInt64.toNat_and, show (Int64.toUInt64 63).toNat = 2 ^ 6 - 1 from by decide, Nat.and_two_pow_sub_one_eq_mod]
  refine ⟨s.toUInt64.toNat % 2 ^ 6, by omega, ?_, by omega⟩
  rw [← Int64.toBitVec_inj, ← BitVec.toNat_inj]
  show (s.toUInt64 &&& Int64.toUInt64 63).toNat = (BitVec.ofNat 64 (s.toUInt64.toNat % 2 ^ 6)).toNat
  rw [e, BitVec.toNat_ofNat]
  omega
end
section
/-! ===== the reference: its small methods ===== -/
def zB (b : Bool) : Int32 := if b = true then nI 1 else nI 0
theorem zB_tt : zB true = nI 1 := rfl
theorem zB_ff : zB false = nI 0 := rfl
theorem zB_ret (b : Bool) : (zB b = 0 ∨ zB b = 1) = True := by cases b <;> simp [zB, n_0, n_1]
theorem zB_0 (b : Bool) : (zB b = 0) = (b = false) := by cases b <;> simp [zB] <;> decide
theorem zB_n0 (b : Bool) : (¬ zB b = 0) = (b = true) := by cases b <;> simp [zB] <;> decide
section
variable {q : Nat × (Nat → Int32)} {S : Nat → xSt} {P : Int32 × (Nat → Nat)} {A : (Nat → Int64) × Int32 × Int32 × (Nat → Int64) × (Nat → Nat → Int64)} {D : (Nat → Int64) × Int64} {K : Nat → Int64} {X : Int32 × Int32 × Int32 × (Nat → Int32) × (Nat → Int32)} {E Z : Nat → Int32} {I : Nat → Int32} {J : Nat → Int64} {V : Nat → Nat → Int32}
theorem t_in (h : xH) (v a b : Int32) : xcall 110 [.int v, .int a, .int b] h = some (some (.int (zB (decide (a ≤ v) && decide (v ≤ b)))), h) := by
  rw [N110]
  simp only [e_inl, e_goto, e_fall, e_if, e_icmp, e_iret, e_zret, e_lret, e_vret, e_call0_0, e_call0_1, e_call0_2, e_call0_3, e_call0_4, e_call1_0, e_call1_1, e_call1_2, e_call1_3, e_call1_4, e_call2_0, e_call2_1, e_call2_2, e_call2_3, e_call2_4, e_call3_0, e_call3_1, e_call3_2, e_call3_3, e_call3_4, e_call4_0, e_call4_1, e_call4_2, e_call4_3, e_call4_4, e_call5_0, e_call5_1, e_call5_2, e_call5_3, e_call5_4, e_call6_0, e_call6_1, e_call6_2, e_call6_3, e_call6_4, xP, xld, xst1, xst2, xis2, xii, xid, xll, xlv, xls, xlc, xil, xli, xrd, xdup, xdup2, xc1, xpu, c_eq, c_ne, c_lt, c_ge, c_gt, c_le, Option.bind_some, Option.map_some, List.length_nil, List.length_cons, Nat.reduceAdd, Nat.reduceLeDiff, Int.reduceToNat, Bool.and_self, Bool.false_eq_true, if_true, if_false, D110_0, D110_14, D110_15, zB]
  by_cases h1 : v < a
  · have h2 : ¬ a ≤ v := Int32.not_le.mpr h1
    simp only [h1, h2, if_true, decide_false, Bool.false_and, n_lit, n_0, n_1, true_or, Bool.false_eq_true, if_false]
  · have h2 : a ≤ v := Int32.not_lt.mp h1
    by_cases h3 : b < v
    · have h4 : ¬ v ≤ b := Int32.not_le.mpr h3
      simp only [h1, h2, h3, h4, if_true, decide_false, Bool.and_false, n_lit, n_0, n_1, true_or, Bool.false_eq_true, if_false]
    · have h4 : v ≤ b := Int32.not_lt.mp h3
      simp only [h1, h2, h3, h4, if_true, decide_true, Bool.and_self, n_lit, n_0, n_1, or_true, if_false]
theorem t_fields : xcall 117 [.ref 163] (hp q S P A D K X E Z I J V) = some (some (.int (V 0 0)), (hp q S P A D K X E Z I J V)) := by
  rw [N117 _ _ (o_m ..)]
  simp (maxSteps := 2000000) (disch := omega) only [e_inl, e_goto, e_fall, e_if, e_icmp, e_iret, e_zret, e_lret, e_vret, e_call0_0, e_call0_1, e_call0_2, e_call0_3, e_call0_4, e_call1_0, e_call1_1, e_call1_2, e_call1_3, e_call1_4, e_call2_0, e_call2_1, e_call2_2, e_call2_3, e_call2_4, e_call3_0, e_call3_1, e_call3_2, e_call3_3, e_call3_4, e_call4_0, e_call4_1, e_call4_2, e_call4_3, e_call4_4, e_call5_0, e_call5_1, e_call5_2, e_call5_3, e_call5_4, e_call6_0, e_call6_1, e_call6_2, e_call6_3, e_call6_4, xP, xld, xst1, xst2, xis2, xii, xid, xll, xlv, xls, xlc, xil, xli, xrd, xdup, xdup2, xc1, xpu, c_eq, c_ne, c_lt, c_ge, c_gt, c_le, Option.bind_some, Option.map_some, List.length_nil, List.length_cons, Nat.reduceAdd, Nat.reduceLeDiff, Int.reduceToNat, Bool.and_self, Bool.false_eq_true, if_true, if_false, D117_0, o_m, g_m_0, g_m_1, g_m_2, g_m_3, g_m_4, g_m_5, g_m_6, g_m_7, g_m_8, g_m_9, g_m_10, g_m_11, g_m_12, g_m_13, g_m_14, g_m_15, g_m_16, g_m_17, g_m_18, g_m_19, g_m_20, g_m_21, p_m_3, p_m_7, p_m_8, p_m_11, p_m_13, p_m_15, p_m_16, p_m_17, p_m_18, p_m_21, p_m_5_0, p_m_5_1, r_m0, s_m0, r_m1, s_m1, r_m2, s_m2, r_m4, s_m4, r_m6, s_m6, r_m9, s_m9, r_m10, s_m10, r_m12, s_m12, r_m14, s_m14, r_m19, s_m19, r_m20, s_m20, decide_true, decide_false, Bool.true_and, Bool.false_and, Bool.and_true, Bool.and_false, zB_tt, zB_ff, not_false_eq_true, not_true_eq_false, n_lit, n_mul, nI_add, n_sub, x_in, nI_clamp, nI_ltI, nI_leI, nI_eq, and_self, true_and, and_true]
theorem t_ofField {f w : Nat} (hw : 1 + 13 * f + w < 115) : xcall 120 [.ref 163, .int (nI f), .int (nI w)] (hp q S P A D K X E Z I J V) = some (some (.int (V 0 (1 + 13 * f + w))), (hp q S P A D K X E Z I J V)) := by
  rw [N120 _ _ _ _ (o_m ..)]
  simp (maxSteps := 2000000) (disch := omega) only [e_inl, e_goto, e_fall, e_if, e_icmp, e_iret, e_zret, e_lret, e_vret, e_call0_0, e_call0_1, e_call0_2, e_call0_3, e_call0_4, e_call1_0, e_call1_1, e_call1_2, e_call1_3, e_call1_4, e_call2_0, e_call2_1, e_call2_2, e_call2_3, e_call2_4, e_call3_0, e_call3_1, e_call3_2, e_call3_3, e_call3_4, e_call4_0, e_call4_1, e_call4_2, e_call4_3, e_call4_4, e_call5_0, e_call5_1, e_call5_2, e_call5_3, e_call5_4, e_call6_0, e_call6_1, e_call6_2, e_call6_3, e_call6_4, xP, xld, xst1, xst2, xis2, xii, xid, xll, xlv, xls, xlc, xil, xli, xrd, xdup, xdup2, xc1, xpu, c_eq, c_ne, c_lt, c_ge, c_gt, c_le, Option.bind_some, Option.map_some, List.length_nil, List.length_cons, Nat.reduceAdd, Nat.reduceLeDiff, Int.reduceToNat, Bool.and_self, Bool.false_eq_true, if_true, if_false, D120_0, o_m, g_m_0, g_m_1, g_m_2, g_m_3, g_m_4, g_m_5, g_m_6, g_m_7, g_m_8, g_m_9, g_m_10, g_m_11, g_m_12, g_m_13, g_m_14, g_m_15, g_m_16, g_m_17, g_m_18, g_m_19, g_m_20, g_m_21, p_m_3, p_m_7, p_m_8, p_m_11, p_m_13, p_m_15, p_m_16, p_m_17, p_m_18, p_m_21, p_m_5_0, p_m_5_1, r_m0, s_m0, r_m1, s_m1, r_m2, s_m2, r_m4, s_m4, r_m6, s_m6, r_m9, s_m9, r_m10, s_m10, r_m12, s_m12, r_m14, s_m14, r_m19, s_m19, r_m20, s_m20, decide_true, decide_false, Bool.true_and, Bool.false_and, Bool.and_true, Bool.and_false, zB_tt, zB_ff, not_false_eq_true, not_true_eq_false, n_lit, n_mul, nI_add, n_sub, x_in, nI_clamp, nI_ltI, nI_leI, nI_eq, and_self, true_and, and_true]
theorem t_put {f w : Nat} {x : Int32} (hw : 1 + 13 * f + w < 115) : xcall 121 [.ref 163, .int (nI f), .int (nI w), .int x] (hp q S P A D K X E Z I J V) = some (none, (hp q S P A D K X E Z I J (vf_upd V 0 (upd (V 0) (1 + 13 * f + w) x)))) := by
  rw [N121 _ _ _ _ _ (o_m ..)]
  simp (maxSteps := 2000000) (disch := omega) only [e_inl, e_goto, e_fall, e_if, e_icmp, e_iret, e_zret, e_lret, e_vret, e_call0_0, e_call0_1, e_call0_2, e_call0_3, e_call0_4, e_call1_0, e_call1_1, e_call1_2, e_call1_3, e_call1_4, e_call2_0, e_call2_1, e_call2_2, e_call2_3, e_call2_4, e_call3_0, e_call3_1, e_call3_2, e_call3_3, e_call3_4, e_call4_0, e_call4_1, e_call4_2, e_call4_3, e_call4_4, e_call5_0, e_call5_1, e_call5_2, e_call5_3, e_call5_4, e_call6_0, e_call6_1, e_call6_2, e_call6_3, e_call6_4, xP, xld, xst1, xst2, xis2, xii, xid, xll, xlv, xls, xlc, xil, xli, xrd, xdup, xdup2, xc1, xpu, c_eq, c_ne, c_lt, c_ge, c_gt, c_le, Option.bind_some, Option.map_some, List.length_nil, List.length_cons, Nat.reduceAdd, Nat.reduceLeDiff, Int.reduceToNat, Bool.and_self, Bool.false_eq_true, if_true, if_false, D121_0, o_m, g_m_0, g_m_1, g_m_2, g_m_3, g_m_4, g_m_5, g_m_6, g_m_7, g_m_8, g_m_9, g_m_10, g_m_11, g_m_12, g_m_13, g_m_14, g_m_15, g_m_16, g_m_17, g_m_18, g_m_19, g_m_20, g_m_21, p_m_3, p_m_7, p_m_8, p_m_11, p_m_13, p_m_15, p_m_16, p_m_17, p_m_18, p_m_21, p_m_5_0, p_m_5_1, r_m0, s_m0, r_m1, s_m1, r_m2, s_m2, r_m4, s_m4, r_m6, s_m6, r_m9, s_m9, r_m10, s_m10, r_m12, s_m12, r_m14, s_m14, r_m19, s_m19, r_m20, s_m20, decide_true, decide_false, Bool.true_and, Bool.false_and, Bool.and_true, Bool.and_false, zB_tt, zB_ff, not_false_eq_true, not_true_eq_false, n_lit, n_mul, nI_add, n_sub, x_in, nI_clamp, nI_ltI, nI_leI, nI_eq, and_self, true_and, and_true]
theorem t_ofRule {k w : Nat} (hw : 58 + 5 * k + w < 115) : xcall 122 [.ref 163, .int (nI k), .int (nI w)] (hp q S P A D K X E Z I J V) = some (some (.int (V 0 (58 + 5 * k + w))), (hp q S P A D K X E Z I J V)) := by
  rw [N122 _ _ _ _ (o_m ..)]
  simp (maxSteps := 2000000) (disch := omega) only [e_inl, e_goto, e_fall, e_if, e_icmp, e_iret, e_zret, e_lret, e_vret, e_call0_0, e_call0_1, e_call0_2, e_call0_3, e_call0_4, e_call1_0, e_call1_1, e_call1_2, e_call1_3, e_call1_4, e_call2_0, e_call2_1, e_call2_2, e_call2_3, e_call2_4, e_call3_0, e_call3_1, e_call3_2, e_call3_3, e_call3_4, e_call4_0, e_call4_1, e_call4_2, e_call4_3, e_call4_4, e_call5_0, e_call5_1, e_call5_2, e_call5_3, e_call5_4, e_call6_0, e_call6_1, e_call6_2, e_call6_3, e_call6_4, xP, xld, xst1, xst2, xis2, xii, xid, xll, xlv, xls, xlc, xil, xli, xrd, xdup, xdup2, xc1, xpu, c_eq, c_ne, c_lt, c_ge, c_gt, c_le, Option.bind_some, Option.map_some, List.length_nil, List.length_cons, Nat.reduceAdd, Nat.reduceLeDiff, Int.reduceToNat, Bool.and_self, Bool.false_eq_true, if_true, if_false, D122_0, o_m, g_m_0, g_m_1, g_m_2, g_m_3, g_m_4, g_m_5, g_m_6, g_m_7, g_m_8, g_m_9, g_m_10, g_m_11, g_m_12, g_m_13, g_m_14, g_m_15, g_m_16, g_m_17, g_m_18, g_m_19, g_m_20, g_m_21, p_m_3, p_m_7, p_m_8, p_m_11, p_m_13, p_m_15, p_m_16, p_m_17, p_m_18, p_m_21, p_m_5_0, p_m_5_1, r_m0, s_m0, r_m1, s_m1, r_m2, s_m2, r_m4, s_m4, r_m6, s_m6, r_m9, s_m9, r_m10, s_m10, r_m12, s_m12, r_m14, s_m14, r_m19, s_m19, r_m20, s_m20, decide_true, decide_false, Bool.true_and, Bool.false_and, Bool.and_true, Bool.and_false, zB_tt, zB_ff, not_false_eq_true, not_true_eq_false, n_lit, n_mul, nI_add, n_sub, x_in, nI_clamp, nI_ltI, nI_leI, nI_eq, and_self, true_and, and_true]
theorem t_isField (x : Int32) : xcall 118 [.ref 163, .int x] (hp q S P A D K X E Z I J V) = some (some (.int (zB (decide (nI 0 ≤ x) && decide (x ≤ V 0 0 - nI 1)))), (hp q S P A D K X E Z I J V)) := by
  rw [N118 _ _ _ (o_m ..)]
  simp (maxSteps := 2000000) (disch := omega) only [e_inl, e_goto, e_fall, e_if, e_icmp, e_iret, e_zret, e_lret, e_vret, e_call0_0, e_call0_1, e_call0_2, e_call0_3, e_call0_4, e_call1_0, e_call1_1, e_call1_2, e_call1_3, e_call1_4, e_call2_0, e_call2_1, e_call2_2, e_call2_3, e_call2_4, e_call3_0, e_call3_1, e_call3_2, e_call3_3, e_call3_4, e_call4_0, e_call4_1, e_call4_2, e_call4_3, e_call4_4, e_call5_0, e_call5_1, e_call5_2, e_call5_3, e_call5_4, e_call6_0, e_call6_1, e_call6_2, e_call6_3, e_call6_4, xP, xld, xst1, xst2, xis2, xii, xid, xll, xlv, xls, xlc, xil, xli, xrd, xdup, xdup2, xc1, xpu, c_eq, c_ne, c_lt, c_ge, c_gt, c_le, Option.bind_some, Option.map_some, List.length_nil, List.length_cons, Nat.reduceAdd, Nat.reduceLeDiff, Int.reduceToNat, Bool.and_self, Bool.false_eq_true, if_true, if_false, D118_0, o_m, g_m_0, g_m_1, g_m_2, g_m_3, g_m_4, g_m_5, g_m_6, g_m_7, g_m_8, g_m_9, g_m_10, g_m_11, g_m_12, g_m_13, g_m_14, g_m_15, g_m_16, g_m_17, g_m_18, g_m_19, g_m_20, g_m_21, p_m_3, p_m_7, p_m_8, p_m_11, p_m_13, p_m_15, p_m_16, p_m_17, p_m_18, p_m_21, p_m_5_0, p_m_5_1, r_m0, s_m0, r_m1, s_m1, r_m2, s_m2, r_m4, s_m4, r_m6, s_m6, r_m9, s_m9, r_m10, s_m10, r_m12, s_m12, r_m14, s_m14, r_m19, s_m19, r_m20, s_m20, decide_true, decide_false, Bool.true_and, Bool.false_and, Bool.and_true, Bool.and_false, zB_tt, zB_ff, not_false_eq_true, not_true_eq_false, n_lit, n_mul, nI_add, n_sub, x_in, nI_clamp, nI_ltI, nI_leI, nI_eq, and_self, true_and, and_true, t_in, zB_ret]
theorem t_isRule (x : Int32) : xcall 119 [.ref 163, .int x] (hp q S P A D K X E Z I J V) = some (some (.int (zB (decide (nI 0 ≤ x) && decide (x ≤ V 0 57 - nI 1)))), (hp q S P A D K X E Z I J V)) := by
  rw [N119 _ _ _ (o_m ..)]
  simp (maxSteps := 2000000) (disch := omega) only [e_inl, e_goto, e_fall, e_if, e_icmp, e_iret, e_zret, e_lret, e_vret, e_call0_0, e_call0_1, e_call0_2, e_call0_3, e_call0_4, e_call1_0, e_call1_1, e_call1_2, e_call1_3, e_call1_4, e_call2_0, e_call2_1, e_call2_2, e_call2_3, e_call2_4, e_call3_0, e_call3_1, e_call3_2, e_call3_3, e_call3_4, e_call4_0, e_call4_1, e_call4_2, e_call4_3, e_call4_4, e_call5_0, e_call5_1, e_call5_2, e_call5_3, e_call5_4, e_call6_0, e_call6_1, e_call6_2, e_call6_3, e_call6_4, xP, xld, xst1, xst2, xis2, xii, xid, xll, xlv, xls, xlc, xil, xli, xrd, xdup, xdup2, xc1, xpu, c_eq, c_ne, c_lt, c_ge, c_gt, c_le, Option.bind_some, Option.map_some, List.length_nil, List.length_cons, Nat.reduceAdd, Nat.reduceLeDiff, Int.reduceToNat, Bool.and_self, Bool.false_eq_true, if_true, if_false, D119_0, o_m, g_m_0, g_m_1, g_m_2, g_m_3, g_m_4, g_m_5, g_m_6, g_m_7, g_m_8, g_m_9, g_m_10, g_m_11, g_m_12, g_m_13, g_m_14, g_m_15, g_m_16, g_m_17, g_m_18, g_m_19, g_m_20, g_m_21, p_m_3, p_m_7, p_m_8, p_m_11, p_m_13, p_m_15, p_m_16, p_m_17, p_m_18, p_m_21, p_m_5_0, p_m_5_1, r_m0, s_m0, r_m1, s_m1, r_m2, s_m2, r_m4, s_m4, r_m6, s_m6, r_m9, s_m9, r_m10, s_m10, r_m12, s_m12, r_m14, s_m14, r_m19, s_m19, r_m20, s_m20, decide_true, decide_false, Bool.true_and, Bool.false_and, Bool.and_true, Bool.and_false, zB_tt, zB_ff, not_false_eq_true, not_true_eq_false, n_lit, n_mul, nI_add, n_sub, x_in, nI_clamp, nI_ltI, nI_leI, nI_eq, and_self, true_and, and_true, t_in, zB_ret]
theorem k_22 : Int32.ofInt (-2) - Int32.ofInt (-2) = nI 0 := by decide +kernel
theorem k_23 : Int32.ofInt (-2) - Int32.ofInt (-3) = nI 1 := by decide +kernel
theorem k_24 : Int32.ofInt (-2) - Int32.ofInt (-4) = nI 2 := by decide +kernel
theorem t_ref2 : xcall 112 [.ref 163, .int (Int32.ofInt (-2))] (hp q S P A D K X E Z I J V) = some (some (.int (Int32.ofInt (-2))), (hp q S P A D K X E Z I J (vf_upd V 4 (upd (V 4) 0 (V 4 0 + nI 1))))) := by
  rw [N112 _ _ _ (o_m ..)]
  simp (maxSteps := 2000000) (disch := omega) only [e_inl, e_goto, e_fall, e_if, e_icmp, e_iret, e_zret, e_lret, e_vret, e_call0_0, e_call0_1, e_call0_2, e_call0_3, e_call0_4, e_call1_0, e_call1_1, e_call1_2, e_call1_3, e_call1_4, e_call2_0, e_call2_1, e_call2_2, e_call2_3, e_call2_4, e_call3_0, e_call3_1, e_call3_2, e_call3_3, e_call3_4, e_call4_0, e_call4_1, e_call4_2, e_call4_3, e_call4_4, e_call5_0, e_call5_1, e_call5_2, e_call5_3, e_call5_4, e_call6_0, e_call6_1, e_call6_2, e_call6_3, e_call6_4, xP, xld, xst1, xst2, xis2, xii, xid, xll, xlv, xls, xlc, xil, xli, xrd, xdup, xdup2, xc1, xpu, c_eq, c_ne, c_lt, c_ge, c_gt, c_le, Option.bind_some, Option.map_some, List.length_nil, List.length_cons, Nat.reduceAdd, Nat.reduceLeDiff, Int.reduceToNat, Bool.and_self, Bool.false_eq_true, if_true, if_false, D112_0, o_m, g_m_0, g_m_1, g_m_2, g_m_3, g_m_4, g_m_5, g_m_6, g_m_7, g_m_8, g_m_9, g_m_10, g_m_11, g_m_12, g_m_13, g_m_14, g_m_15, g_m_16, g_m_17, g_m_18, g_m_19, g_m_20, g_m_21, p_m_3, p_m_7, p_m_8, p_m_11, p_m_13, p_m_15, p_m_16, p_m_17, p_m_18, p_m_21, p_m_5_0, p_m_5_1, r_m0, s_m0, r_m1, s_m1, r_m2, s_m2, r_m4, s_m4, r_m6, s_m6, r_m9, s_m9, r_m10, s_m10, r_m12, s_m12, r_m14, s_m14, r_m19, s_m19, r_m20, s_m20, decide_true, decide_false, Bool.true_and, Bool.false_and, Bool.and_true, Bool.and_false, zB_tt, zB_ff, not_false_eq_true, not_true_eq_false, n_lit, n_mul, nI_add, n_sub, x_in, nI_clamp, nI_ltI, nI_leI, nI_eq, and_self, true_and, and_true, k_22]
theorem t_ref3 : xcall 112 [.ref 163, .int (Int32.ofInt (-3))] (hp q S P A D K X E Z I J V) = some (some (.int (Int32.ofInt (-3))), (hp q S P A D K X E Z I J (vf_upd V 4 (upd (V 4) 1 (V 4 1 + nI 1))))) := by
  rw [N112 _ _ _ (o_m ..)]
  simp (maxSteps := 2000000) (disch := omega) only [e_inl, e_goto, e_fall, e_if, e_icmp, e_iret, e_zret, e_lret, e_vret, e_call0_0, e_call0_1, e_call0_2, e_call0_3, e_call0_4, e_call1_0, e_call1_1, e_call1_2, e_call1_3, e_call1_4, e_call2_0, e_call2_1, e_call2_2, e_call2_3, e_call2_4, e_call3_0, e_call3_1, e_call3_2, e_call3_3, e_call3_4, e_call4_0, e_call4_1, e_call4_2, e_call4_3, e_call4_4, e_call5_0, e_call5_1, e_call5_2, e_call5_3, e_call5_4, e_call6_0, e_call6_1, e_call6_2, e_call6_3, e_call6_4, xP, xld, xst1, xst2, xis2, xii, xid, xll, xlv, xls, xlc, xil, xli, xrd, xdup, xdup2, xc1, xpu, c_eq, c_ne, c_lt, c_ge, c_gt, c_le, Option.bind_some, Option.map_some, List.length_nil, List.length_cons, Nat.reduceAdd, Nat.reduceLeDiff, Int.reduceToNat, Bool.and_self, Bool.false_eq_true, if_true, if_false, D112_0, o_m, g_m_0, g_m_1, g_m_2, g_m_3, g_m_4, g_m_5, g_m_6, g_m_7, g_m_8, g_m_9, g_m_10, g_m_11, g_m_12, g_m_13, g_m_14, g_m_15, g_m_16, g_m_17, g_m_18, g_m_19, g_m_20, g_m_21, p_m_3, p_m_7, p_m_8, p_m_11, p_m_13, p_m_15, p_m_16, p_m_17, p_m_18, p_m_21, p_m_5_0, p_m_5_1, r_m0, s_m0, r_m1, s_m1, r_m2, s_m2, r_m4, s_m4, r_m6, s_m6, r_m9, s_m9, r_m10, s_m10, r_m12, s_m12, r_m14, s_m14, r_m19, s_m19, r_m20, s_m20, decide_true, decide_false, Bool.true_and, Bool.false_and, Bool.and_true, Bool.and_false, zB_tt, zB_ff, not_false_eq_true, not_true_eq_false, n_lit, n_mul, nI_add, n_sub, x_in, nI_clamp, nI_ltI, nI_leI, nI_eq, and_self, true_and, and_true, k_23]
theorem t_ref4 : xcall 112 [.ref 163, .int (Int32.ofInt (-4))] (hp q S P A D K X E Z I J V) = some (some (.int (Int32.ofInt (-4))), (hp q S P A D K X E Z I J (vf_upd V 4 (upd (V 4) 2 (V 4 2 + nI 1))))) := by
  rw [N112 _ _ _ (o_m ..)]
  simp (maxSteps := 2000000) (disch := omega) only [e_inl, e_goto, e_fall, e_if, e_icmp, e_iret, e_zret, e_lret, e_vret, e_call0_0, e_call0_1, e_call0_2, e_call0_3, e_call0_4, e_call1_0, e_call1_1, e_call1_2, e_call1_3, e_call1_4, e_call2_0, e_call2_1, e_call2_2, e_call2_3, e_call2_4, e_call3_0, e_call3_1, e_call3_2, e_call3_3, e_call3_4, e_call4_0, e_call4_1, e_call4_2, e_call4_3, e_call4_4, e_call5_0, e_call5_1, e_call5_2, e_call5_3, e_call5_4, e_call6_0, e_call6_1, e_call6_2, e_call6_3, e_call6_4, xP, xld, xst1, xst2, xis2, xii, xid, xll, xlv, xls, xlc, xil, xli, xrd, xdup, xdup2, xc1, xpu, c_eq, c_ne, c_lt, c_ge, c_gt, c_le, Option.bind_some, Option.map_some, List.length_nil, List.length_cons, Nat.reduceAdd, Nat.reduceLeDiff, Int.reduceToNat, Bool.and_self, Bool.false_eq_true, if_true, if_false, D112_0, o_m, g_m_0, g_m_1, g_m_2, g_m_3, g_m_4, g_m_5, g_m_6, g_m_7, g_m_8, g_m_9, g_m_10, g_m_11, g_m_12, g_m_13, g_m_14, g_m_15, g_m_16, g_m_17, g_m_18, g_m_19, g_m_20, g_m_21, p_m_3, p_m_7, p_m_8, p_m_11, p_m_13, p_m_15, p_m_16, p_m_17, p_m_18, p_m_21, p_m_5_0, p_m_5_1, r_m0, s_m0, r_m1, s_m1, r_m2, s_m2, r_m4, s_m4, r_m6, s_m6, r_m9, s_m9, r_m10, s_m10, r_m12, s_m12, r_m14, s_m14, r_m19, s_m19, r_m20, s_m20, decide_true, decide_false, Bool.true_and, Bool.false_and, Bool.and_true, Bool.and_false, zB_tt, zB_ff, not_false_eq_true, not_true_eq_false, n_lit, n_mul, nI_add, n_sub, x_in, nI_clamp, nI_ltI, nI_leI, nI_eq, and_self, true_and, and_true, k_24]
end
end
section
/-! ===== the reference: states kept and brought back, nothing drawn ===== -/
theorem vu_s {α : Type} (f : Nat → α) (k : Nat) (x : α) : vf_upd f k x k = x := if_pos rfl
theorem vu_n {α : Type} (f : Nat → α) {k j : Nat} (x : α) (h : j ≠ k) : vf_upd f k x j = f j := if_neg h
theorem vu_vu {α : Type} (f : Nat → α) (k : Nat) (x y : α) : vf_upd (vf_upd f k x) k y = vf_upd f k y := by
  funext j
  unfold vf_upd
  split <;> rfl
theorem vu_id {α : Type} (f : Nat → α) (k : Nat) : vf_upd f k (f k) = f := by
  funext j
  unfold vf_upd
  split
  · next h => rw [h]
  · rfl
theorem u_s (f : Nat → Int32) (k : Nat) (x : Int32) : upd f k x k = x := if_pos rfl
theorem u_n (f : Nat → Int32) {k j : Nat} (x : Int32) (h : j ≠ k) : upd f k x j = f j := if_neg h
theorem vu_sw {α : Type} (f : Nat → α) {k j : Nat} (x y : α) (h : j ≠ k) : vf_upd (vf_upd f k x) j y = vf_upd (vf_upd f j y) k x := by
  funext i
  unfold vf_upd
  by_cases h1 : i = j
  · subst h1
    simp [h]
  · simp [h1]
section
variable {q : Nat × (Nat → Int32)} {S : Nat → xSt} {P : Int32 × (Nat → Nat)} {A : (Nat → Int64) × Int32 × Int32 × (Nat → Int64) × (Nat → Nat → Int64)} {D : (Nat → Int64) × Int64} {K : Nat → Int64} {X : Int32 × Int32 × Int32 × (Nat → Int32) × (Nat → Int32)} {E Z : Nat → Int32} {I : Nat → Int32} {J : Nat → Int64} {V : Nat → Nat → Int32}
theorem t_hold : xcall 113 [.ref 163] (hp q S P A D K X E Z I J V) = some (none, (hp q S P A D K X E Z I J (vf_upd V 1 (fa_fill (V 0) (V 1) 115)))) := by
  rw [N113 _ _ (o_m ..)]
  simp only [e_inl, e_goto, e_fall, e_if, e_icmp, e_iret, e_zret, e_lret, e_vret, e_call0_0, e_call0_1, e_call0_2, e_call0_3, e_call0_4, e_call1_0, e_call1_1, e_call1_2, e_call1_3, e_call1_4, e_call2_0, e_call2_1, e_call2_2, e_call2_3, e_call2_4, e_call3_0, e_call3_1, e_call3_2, e_call3_3, e_call3_4, e_call4_0, e_call4_1, e_call4_2, e_call4_3, e_call4_4, e_call5_0, e_call5_1, e_call5_2, e_call5_3, e_call5_4, e_call6_0, e_call6_1, e_call6_2, e_call6_3, e_call6_4, xP, xld, xst1, xst2, xis2, xii, xid, xll, xlv, xls, xlc, xil, xli, xrd, xdup, xdup2, xc1, xpu, c_eq, c_ne, c_lt, c_ge, c_gt, c_le, Option.bind_some, Option.map_some, List.length_nil, List.length_cons, Nat.reduceAdd, Nat.reduceLeDiff, Int.reduceToNat, Bool.and_self, Bool.false_eq_true, if_true, if_false, D113_0, decide_true, decide_false, Bool.true_and, Bool.false_and, Bool.and_true, Bool.and_false, zB_tt, zB_ff, not_false_eq_true, not_true_eq_false, n_lit, n_mul, nI_add, n_sub, x_in, nI_clamp, nI_ltI, nI_leI, nI_eq, and_self, true_and, and_true]
  have hl := x_loop (i := 113) (pc := 2) (fun k => [some (.ref 163), some (.int (nI k))]) (fun k => (hp q S P A D K X E Z I J (vf_upd V 1 (fa_fill (V 0) (V 1) k)))) 115 (fun k hk => by
    rw [D113_2]
    have h1 : ¬ 115 ≤ k := by omega
    simp (maxSteps := 2000000) (disch := omega) only [e_inl, e_goto, e_fall, e_if, e_icmp, e_iret, e_zret, e_lret, e_vret, e_call0_0, e_call0_1, e_call0_2, e_call0_3, e_call0_4, e_call1_0, e_call1_1, e_call1_2, e_call1_3, e_call1_4, e_call2_0, e_call2_1, e_call2_2, e_call2_3, e_call2_4, e_call3_0, e_call3_1, e_call3_2, e_call3_3, e_call3_4, e_call4_0, e_call4_1, e_call4_2, e_call4_3, e_call4_4, e_call5_0, e_call5_1, e_call5_2, e_call5_3, e_call5_4, e_call6_0, e_call6_1, e_call6_2, e_call6_3, e_call6_4, xP, xld, xst1, xst2, xis2, xii, xid, xll, xlv, xls, xlc, xil, xli, xrd, xdup, xdup2, xc1, xpu, c_eq, c_ne, c_lt, c_ge, c_gt, c_le, Option.bind_some, Option.map_some, List.length_nil, List.length_cons, Nat.reduceAdd, Nat.reduceLeDiff, Int.reduceToNat, Bool.and_self, Bool.false_eq_true, if_true, if_false, o_m, g_m_0, g_m_1, g_m_2, g_m_3, g_m_4, g_m_5, g_m_6, g_m_7, g_m_8, g_m_9, g_m_10, g_m_11, g_m_12, g_m_13, g_m_14, g_m_15, g_m_16, g_m_17, g_m_18, g_m_19, g_m_20, g_m_21, p_m_3, p_m_7, p_m_8, p_m_11, p_m_13, p_m_15, p_m_16, p_m_17, p_m_18, p_m_21, p_m_5_0, p_m_5_1, r_m0, s_m0, r_m1, s_m1, r_m2, s_m2, r_m4, s_m4, r_m6, s_m6, r_m9, s_m9, r_m10, s_m10, r_m12, s_m12, r_m14, s_m14, r_m19, s_m19, r_m20, s_m20, decide_true, decide_false, Bool.true_and, Bool.false_and, Bool.and_true, Bool.and_false, zB_tt, zB_ff, not_false_eq_true, not_true_eq_false, n_lit, n_mul, nI_add, n_sub, x_in, nI_clamp, nI_ltI, nI_leI, nI_eq, and_self, true_and, and_true, h1, vu_s, vu_n, vu_vu, fa_fill_succ])
  simp only [fa_fill_0, vu_id] at hl
  rw [hl, D113_2]
  simp (maxSteps := 2000000) (disch := omega) only [e_inl, e_goto, e_fall, e_if, e_icmp, e_iret, e_zret, e_lret, e_vret, e_call0_0, e_call0_1, e_call0_2, e_call0_3, e_call0_4, e_call1_0, e_call1_1, e_call1_2, e_call1_3, e_call1_4, e_call2_0, e_call2_1, e_call2_2, e_call2_3, e_call2_4, e_call3_0, e_call3_1, e_call3_2, e_call3_3, e_call3_4, e_call4_0, e_call4_1, e_call4_2, e_call4_3, e_call4_4, e_call5_0, e_call5_1, e_call5_2, e_call5_3, e_call5_4, e_call6_0, e_call6_1, e_call6_2, e_call6_3, e_call6_4, xP, xld, xst1, xst2, xis2, xii, xid, xll, xlv, xls, xlc, xil, xli, xrd, xdup, xdup2, xc1, xpu, c_eq, c_ne, c_lt, c_ge, c_gt, c_le, Option.bind_some, Option.map_some, List.length_nil, List.length_cons, Nat.reduceAdd, Nat.reduceLeDiff, Int.reduceToNat, Bool.and_self, Bool.false_eq_true, if_true, if_false, D113_0, D113_26, o_m, g_m_0, g_m_1, g_m_2, g_m_3, g_m_4, g_m_5, g_m_6, g_m_7, g_m_8, g_m_9, g_m_10, g_m_11, g_m_12, g_m_13, g_m_14, g_m_15, g_m_16, g_m_17, g_m_18, g_m_19, g_m_20, g_m_21, p_m_3, p_m_7, p_m_8, p_m_11, p_m_13, p_m_15, p_m_16, p_m_17, p_m_18, p_m_21, p_m_5_0, p_m_5_1, r_m0, s_m0, r_m1, s_m1, r_m2, s_m2, r_m4, s_m4, r_m6, s_m6, r_m9, s_m9, r_m10, s_m10, r_m12, s_m12, r_m14, s_m14, r_m19, s_m19, r_m20, s_m20, decide_true, decide_false, Bool.true_and, Bool.false_and, Bool.and_true, Bool.and_false, zB_tt, zB_ff, not_false_eq_true, not_true_eq_false, n_lit, n_mul, nI_add, n_sub, x_in, nI_clamp, nI_ltI, nI_leI, nI_eq, and_self, true_and, and_true, Nat.le_refl]
theorem t_push_lt {n : Nat} (hn : I 3 = nI n) (h4 : n < 4) : xcall 114 [.ref 163] (hp q S P A D K X E Z I J V) = some (none, (hp q S P A D K X E Z (upd I 3 (nI (n + 1))) J (vf_upd V 2 (fb_put (V 2) (V 1) (115 * n) 115)))) := by
  rw [N114 _ _ (o_m ..)]
  have h5 : ¬ n = 4 := by omega
  simp (maxSteps := 2000000) (disch := omega) only [e_inl, e_goto, e_fall, e_if, e_icmp, e_iret, e_zret, e_lret, e_vret, e_call0_0, e_call0_1, e_call0_2, e_call0_3, e_call0_4, e_call1_0, e_call1_1, e_call1_2, e_call1_3, e_call1_4, e_call2_0, e_call2_1, e_call2_2, e_call2_3, e_call2_4, e_call3_0, e_call3_1, e_call3_2, e_call3_3, e_call3_4, e_call4_0, e_call4_1, e_call4_2, e_call4_3, e_call4_4, e_call5_0, e_call5_1, e_call5_2, e_call5_3, e_call5_4, e_call6_0, e_call6_1, e_call6_2, e_call6_3, e_call6_4, xP, xld, xst1, xst2, xis2, xii, xid, xll, xlv, xls, xlc, xil, xli, xrd, xdup, xdup2, xc1, xpu, c_eq, c_ne, c_lt, c_ge, c_gt, c_le, Option.bind_some, Option.map_some, List.length_nil, List.length_cons, Nat.reduceAdd, Nat.reduceLeDiff, Int.reduceToNat, Bool.and_self, Bool.false_eq_true, if_true, if_false, D114_0, D114_38, D114_48, D114_82, o_m, g_m_0, g_m_1, g_m_2, g_m_3, g_m_4, g_m_5, g_m_6, g_m_7, g_m_8, g_m_9, g_m_10, g_m_11, g_m_12, g_m_13, g_m_14, g_m_15, g_m_16, g_m_17, g_m_18, g_m_19, g_m_20, g_m_21, p_m_3, p_m_7, p_m_8, p_m_11, p_m_13, p_m_15, p_m_16, p_m_17, p_m_18, p_m_21, p_m_5_0, p_m_5_1, r_m0, s_m0, r_m1, s_m1, r_m2, s_m2, r_m4, s_m4, r_m6, s_m6, r_m9, s_m9, r_m10, s_m10, r_m12, s_m12, r_m14, s_m14, r_m19, s_m19, r_m20, s_m20, decide_true, decide_false, Bool.true_and, Bool.false_and, Bool.and_true, Bool.and_false, zB_tt, zB_ff, not_false_eq_true, not_true_eq_false, n_lit, n_mul, nI_add, n_sub, x_in, nI_clamp, nI_ltI, nI_leI, nI_eq, and_self, true_and, and_true, hn, h5]
  have hl := x_loop (i := 114) (pc := 50) (fun k => [some (.ref 163), some (.int (nI k))]) (fun k => (hp q S P A D K X E Z I J (vf_upd V 2 (fb_put (V 2) (V 1) (115 * n) k)))) 115 (fun k hk => by
    rw [D114_50]
    have h1 : ¬ 115 ≤ k := by omega
    simp (maxSteps := 2000000) (disch := omega) only [e_inl, e_goto, e_fall, e_if, e_icmp, e_iret, e_zret, e_lret, e_vret, e_call0_0, e_call0_1, e_call0_2, e_call0_3, e_call0_4, e_call1_0, e_call1_1, e_call1_2, e_call1_3, e_call1_4, e_call2_0, e_call2_1, e_call2_2, e_call2_3, e_call2_4, e_call3_0, e_call3_1, e_call3_2, e_call3_3, e_call3_4, e_call4_0, e_call4_1, e_call4_2, e_call4_3, e_call4_4, e_call5_0, e_call5_1, e_call5_2, e_call5_3, e_call5_4, e_call6_0, e_call6_1, e_call6_2, e_call6_3, e_call6_4, xP, xld, xst1, xst2, xis2, xii, xid, xll, xlv, xls, xlc, xil, xli, xrd, xdup, xdup2, xc1, xpu, c_eq, c_ne, c_lt, c_ge, c_gt, c_le, Option.bind_some, Option.map_some, List.length_nil, List.length_cons, Nat.reduceAdd, Nat.reduceLeDiff, Int.reduceToNat, Bool.and_self, Bool.false_eq_true, if_true, if_false, o_m, g_m_0, g_m_1, g_m_2, g_m_3, g_m_4, g_m_5, g_m_6, g_m_7, g_m_8, g_m_9, g_m_10, g_m_11, g_m_12, g_m_13, g_m_14, g_m_15, g_m_16, g_m_17, g_m_18, g_m_19, g_m_20, g_m_21, p_m_3, p_m_7, p_m_8, p_m_11, p_m_13, p_m_15, p_m_16, p_m_17, p_m_18, p_m_21, p_m_5_0, p_m_5_1, r_m0, s_m0, r_m1, s_m1, r_m2, s_m2, r_m4, s_m4, r_m6, s_m6, r_m9, s_m9, r_m10, s_m10, r_m12, s_m12, r_m14, s_m14, r_m19, s_m19, r_m20, s_m20, decide_true, decide_false, Bool.true_and, Bool.false_and, Bool.and_true, Bool.and_false, zB_tt, zB_ff, not_false_eq_true, not_true_eq_false, n_lit, n_mul, nI_add, n_sub, x_in, nI_clamp, nI_ltI, nI_leI, nI_eq, and_self, true_and, and_true, hn, h1, vu_s, vu_n, vu_vu, fb_put_succ])
  simp only [fb_put_0, vu_id] at hl
  rw [hl, D114_50]
  simp (maxSteps := 2000000) (disch := omega) only [e_inl, e_goto, e_fall, e_if, e_icmp, e_iret, e_zret, e_lret, e_vret, e_call0_0, e_call0_1, e_call0_2, e_call0_3, e_call0_4, e_call1_0, e_call1_1, e_call1_2, e_call1_3, e_call1_4, e_call2_0, e_call2_1, e_call2_2, e_call2_3, e_call2_4, e_call3_0, e_call3_1, e_call3_2, e_call3_3, e_call3_4, e_call4_0, e_call4_1, e_call4_2, e_call4_3, e_call4_4, e_call5_0, e_call5_1, e_call5_2, e_call5_3, e_call5_4, e_call6_0, e_call6_1, e_call6_2, e_call6_3, e_call6_4, xP, xld, xst1, xst2, xis2, xii, xid, xll, xlv, xls, xlc, xil, xli, xrd, xdup, xdup2, xc1, xpu, c_eq, c_ne, c_lt, c_ge, c_gt, c_le, Option.bind_some, Option.map_some, List.length_nil, List.length_cons, Nat.reduceAdd, Nat.reduceLeDiff, Int.reduceToNat, Bool.and_self, Bool.false_eq_true, if_true, if_false, D114_0, D114_38, D114_48, D114_82, o_m, g_m_0, g_m_1, g_m_2, g_m_3, g_m_4, g_m_5, g_m_6, g_m_7, g_m_8, g_m_9, g_m_10, g_m_11, g_m_12, g_m_13, g_m_14, g_m_15, g_m_16, g_m_17, g_m_18, g_m_19, g_m_20, g_m_21, p_m_3, p_m_7, p_m_8, p_m_11, p_m_13, p_m_15, p_m_16, p_m_17, p_m_18, p_m_21, p_m_5_0, p_m_5_1, r_m0, s_m0, r_m1, s_m1, r_m2, s_m2, r_m4, s_m4, r_m6, s_m6, r_m9, s_m9, r_m10, s_m10, r_m12, s_m12, r_m14, s_m14, r_m19, s_m19, r_m20, s_m20, decide_true, decide_false, Bool.true_and, Bool.false_and, Bool.and_true, Bool.and_false, zB_tt, zB_ff, not_false_eq_true, not_true_eq_false, n_lit, n_mul, nI_add, n_sub, x_in, nI_clamp, nI_ltI, nI_leI, nI_eq, and_self, true_and, and_true, hn, Nat.le_refl]
/-- the oldest of four gone -/
def shiftA (p : Nat → Int32) (k : Nat) : Nat → Int32 := fun j => if j < k then p (j + 115) else p j
theorem shiftA_0 (p : Nat → Int32) : shiftA p 0 = p := funext fun j => if_neg (Nat.not_lt_zero j)
theorem shiftA_at (p : Nat → Int32) (k : Nat) : shiftA p k (k + 115) = p (k + 115) := if_neg (by omega)
theorem shiftA_succ (p : Nat → Int32) (k : Nat) : upd (shiftA p k) k (p (k + 115)) = shiftA p (k + 1) := by
  funext j
  unfold upd shiftA
  by_cases h : j = k
  · subst h
    simp
  · by_cases h2 : j < k
    · simp [h, h2, Nat.lt_succ_of_lt h2]
    · have : ¬ j < k + 1 := by omega
      simp [h, h2, this]
theorem t_push_4 (hn : I 3 = nI 4) : xcall 114 [.ref 163] (hp q S P A D K X E Z I J V) = some (none, (hp q S P A D K X E Z (upd (upd I 3 (nI 3)) 3 (nI 4)) J (vf_upd V 2 (fb_put (shiftA (V 2) 345) (V 1) 345 115)))) := by
  rw [N114 _ _ (o_m ..)]
  simp (maxSteps := 2000000) (disch := omega) only [e_inl, e_goto, e_fall, e_if, e_icmp, e_iret, e_zret, e_lret, e_vret, e_call0_0, e_call0_1, e_call0_2, e_call0_3, e_call0_4, e_call1_0, e_call1_1, e_call1_2, e_call1_3, e_call1_4, e_call2_0, e_call2_1, e_call2_2, e_call2_3, e_call2_4, e_call3_0, e_call3_1, e_call3_2, e_call3_3, e_call3_4, e_call4_0, e_call4_1, e_call4_2, e_call4_3, e_call4_4, e_call5_0, e_call5_1, e_call5_2, e_call5_3, e_call5_4, e_call6_0, e_call6_1, e_call6_2, e_call6_3, e_call6_4, xP, xld, xst1, xst2, xis2, xii, xid, xll, xlv, xls, xlc, xil, xli, xrd, xdup, xdup2, xc1, xpu, c_eq, c_ne, c_lt, c_ge, c_gt, c_le, Option.bind_some, Option.map_some, List.length_nil, List.length_cons, Nat.reduceAdd, Nat.reduceLeDiff, Int.reduceToNat, Bool.and_self, Bool.false_eq_true, if_true, if_false, D114_0, D114_38, D114_48, D114_82, o_m, g_m_0, g_m_1, g_m_2, g_m_3, g_m_4, g_m_5, g_m_6, g_m_7, g_m_8, g_m_9, g_m_10, g_m_11, g_m_12, g_m_13, g_m_14, g_m_15, g_m_16, g_m_17, g_m_18, g_m_19, g_m_20, g_m_21, p_m_3, p_m_7, p_m_8, p_m_11, p_m_13, p_m_15, p_m_16, p_m_17, p_m_18, p_m_21, p_m_5_0, p_m_5_1, r_m0, s_m0, r_m1, s_m1, r_m2, s_m2, r_m4, s_m4, r_m6, s_m6, r_m9, s_m9, r_m10, s_m10, r_m12, s_m12, r_m14, s_m14, r_m19, s_m19, r_m20, s_m20, decide_true, decide_false, Bool.true_and, Bool.false_and, Bool.and_true, Bool.and_false, zB_tt, zB_ff, not_false_eq_true, not_true_eq_false, n_lit, n_mul, nI_add, n_sub, x_in, nI_clamp, nI_ltI, nI_leI, nI_eq, and_self, true_and, and_true, hn]
  have hl := x_loop (i := 114) (pc := 10) (fun k => [some (.ref 163), some (.int (nI k))]) (fun k => (hp q S P A D K X E Z I J (vf_upd V 2 (shiftA (V 2) k)))) 345 (fun k hk => by
    rw [D114_10]
    have h1 : ¬ 345 ≤ k := by omega
    simp (maxSteps := 2000000) (disch := omega) only [e_inl, e_goto, e_fall, e_if, e_icmp, e_iret, e_zret, e_lret, e_vret, e_call0_0, e_call0_1, e_call0_2, e_call0_3, e_call0_4, e_call1_0, e_call1_1, e_call1_2, e_call1_3, e_call1_4, e_call2_0, e_call2_1, e_call2_2, e_call2_3, e_call2_4, e_call3_0, e_call3_1, e_call3_2, e_call3_3, e_call3_4, e_call4_0, e_call4_1, e_call4_2, e_call4_3, e_call4_4, e_call5_0, e_call5_1, e_call5_2, e_call5_3, e_call5_4, e_call6_0, e_call6_1, e_call6_2, e_call6_3, e_call6_4, xP, xld, xst1, xst2, xis2, xii, xid, xll, xlv, xls, xlc, xil, xli, xrd, xdup, xdup2, xc1, xpu, c_eq, c_ne, c_lt, c_ge, c_gt, c_le, Option.bind_some, Option.map_some, List.length_nil, List.length_cons, Nat.reduceAdd, Nat.reduceLeDiff, Int.reduceToNat, Bool.and_self, Bool.false_eq_true, if_true, if_false, o_m, g_m_0, g_m_1, g_m_2, g_m_3, g_m_4, g_m_5, g_m_6, g_m_7, g_m_8, g_m_9, g_m_10, g_m_11, g_m_12, g_m_13, g_m_14, g_m_15, g_m_16, g_m_17, g_m_18, g_m_19, g_m_20, g_m_21, p_m_3, p_m_7, p_m_8, p_m_11, p_m_13, p_m_15, p_m_16, p_m_17, p_m_18, p_m_21, p_m_5_0, p_m_5_1, r_m0, s_m0, r_m1, s_m1, r_m2, s_m2, r_m4, s_m4, r_m6, s_m6, r_m9, s_m9, r_m10, s_m10, r_m12, s_m12, r_m14, s_m14, r_m19, s_m19, r_m20, s_m20, decide_true, decide_false, Bool.true_and, Bool.false_and, Bool.and_true, Bool.and_false, zB_tt, zB_ff, not_false_eq_true, not_true_eq_false, n_lit, n_mul, nI_add, n_sub, x_in, nI_clamp, nI_ltI, nI_leI, nI_eq, and_self, true_and, and_true, hn, h1, vu_s, vu_n, vu_vu, shiftA_at, shiftA_succ])
  simp only [shiftA_0, vu_id] at hl
  rw [hl, D114_10]
  simp (maxSteps := 2000000) (disch := omega) only [e_inl, e_goto, e_fall, e_if, e_icmp, e_iret, e_zret, e_lret, e_vret, e_call0_0, e_call0_1, e_call0_2, e_call0_3, e_call0_4, e_call1_0, e_call1_1, e_call1_2, e_call1_3, e_call1_4, e_call2_0, e_call2_1, e_call2_2, e_call2_3, e_call2_4, e_call3_0, e_call3_1, e_call3_2, e_call3_3, e_call3_4, e_call4_0, e_call4_1, e_call4_2, e_call4_3, e_call4_4, e_call5_0, e_call5_1, e_call5_2, e_call5_3, e_call5_4, e_call6_0, e_call6_1, e_call6_2, e_call6_3, e_call6_4, xP, xld, xst1, xst2, xis2, xii, xid, xll, xlv, xls, xlc, xil, xli, xrd, xdup, xdup2, xc1, xpu, c_eq, c_ne, c_lt, c_ge, c_gt, c_le, Option.bind_some, Option.map_some, List.length_nil, List.length_cons, Nat.reduceAdd, Nat.reduceLeDiff, Int.reduceToNat, Bool.and_self, Bool.false_eq_true, if_true, if_false, D114_0, D114_38, D114_48, D114_82, o_m, g_m_0, g_m_1, g_m_2, g_m_3, g_m_4, g_m_5, g_m_6, g_m_7, g_m_8, g_m_9, g_m_10, g_m_11, g_m_12, g_m_13, g_m_14, g_m_15, g_m_16, g_m_17, g_m_18, g_m_19, g_m_20, g_m_21, p_m_3, p_m_7, p_m_8, p_m_11, p_m_13, p_m_15, p_m_16, p_m_17, p_m_18, p_m_21, p_m_5_0, p_m_5_1, r_m0, s_m0, r_m1, s_m1, r_m2, s_m2, r_m4, s_m4, r_m6, s_m6, r_m9, s_m9, r_m10, s_m10, r_m12, s_m12, r_m14, s_m14, r_m19, s_m19, r_m20, s_m20, decide_true, decide_false, Bool.true_and, Bool.false_and, Bool.and_true, Bool.and_false, zB_tt, zB_ff, not_false_eq_true, not_true_eq_false, n_lit, n_mul, nI_add, n_sub, x_in, nI_clamp, nI_ltI, nI_leI, nI_eq, and_self, true_and, and_true, hn, Nat.le_refl]
  have hl := x_loop (i := 114) (pc := 50) (fun k => [some (.ref 163), some (.int (nI k))]) (fun k => (hp q S P A D K X E Z (upd I 3 (nI 3)) J (vf_upd V 2 (fb_put (shiftA (V 2) 345) (V 1) 345 k)))) 115 (fun k hk => by
    rw [D114_50]
    have h1 : ¬ 115 ≤ k := by omega
    simp (maxSteps := 2000000) (disch := omega) only [e_inl, e_goto, e_fall, e_if, e_icmp, e_iret, e_zret, e_lret, e_vret, e_call0_0, e_call0_1, e_call0_2, e_call0_3, e_call0_4, e_call1_0, e_call1_1, e_call1_2, e_call1_3, e_call1_4, e_call2_0, e_call2_1, e_call2_2, e_call2_3, e_call2_4, e_call3_0, e_call3_1, e_call3_2, e_call3_3, e_call3_4, e_call4_0, e_call4_1, e_call4_2, e_call4_3, e_call4_4, e_call5_0, e_call5_1, e_call5_2, e_call5_3, e_call5_4, e_call6_0, e_call6_1, e_call6_2, e_call6_3, e_call6_4, xP, xld, xst1, xst2, xis2, xii, xid, xll, xlv, xls, xlc, xil, xli, xrd, xdup, xdup2, xc1, xpu, c_eq, c_ne, c_lt, c_ge, c_gt, c_le, Option.bind_some, Option.map_some, List.length_nil, List.length_cons, Nat.reduceAdd, Nat.reduceLeDiff, Int.reduceToNat, Bool.and_self, Bool.false_eq_true, if_true, if_false, o_m, g_m_0, g_m_1, g_m_2, g_m_3, g_m_4, g_m_5, g_m_6, g_m_7, g_m_8, g_m_9, g_m_10, g_m_11, g_m_12, g_m_13, g_m_14, g_m_15, g_m_16, g_m_17, g_m_18, g_m_19, g_m_20, g_m_21, p_m_3, p_m_7, p_m_8, p_m_11, p_m_13, p_m_15, p_m_16, p_m_17, p_m_18, p_m_21, p_m_5_0, p_m_5_1, r_m0, s_m0, r_m1, s_m1, r_m2, s_m2, r_m4, s_m4, r_m6, s_m6, r_m9, s_m9, r_m10, s_m10, r_m12, s_m12, r_m14, s_m14, r_m19, s_m19, r_m20, s_m20, decide_true, decide_false, Bool.true_and, Bool.false_and, Bool.and_true, Bool.and_false, zB_tt, zB_ff, not_false_eq_true, not_true_eq_false, n_lit, n_mul, nI_add, n_sub, x_in, nI_clamp, nI_ltI, nI_leI, nI_eq, and_self, true_and, and_true, hn, h1, vu_s, vu_n, vu_vu, u_s, Nat.reduceMul, fb_put_succ])
  simp only [fb_put_0] at hl
  rw [hl, D114_50]
  simp (maxSteps := 2000000) (disch := omega) only [e_inl, e_goto, e_fall, e_if, e_icmp, e_iret, e_zret, e_lret, e_vret, e_call0_0, e_call0_1, e_call0_2, e_call0_3, e_call0_4, e_call1_0, e_call1_1, e_call1_2, e_call1_3, e_call1_4, e_call2_0, e_call2_1, e_call2_2, e_call2_3, e_call2_4, e_call3_0, e_call3_1, e_call3_2, e_call3_3, e_call3_4, e_call4_0, e_call4_1, e_call4_2, e_call4_3, e_call4_4, e_call5_0, e_call5_1, e_call5_2, e_call5_3, e_call5_4, e_call6_0, e_call6_1, e_call6_2, e_call6_3, e_call6_4, xP, xld, xst1, xst2, xis2, xii, xid, xll, xlv, xls, xlc, xil, xli, xrd, xdup, xdup2, xc1, xpu, c_eq, c_ne, c_lt, c_ge, c_gt, c_le, Option.bind_some, Option.map_some, List.length_nil, List.length_cons, Nat.reduceAdd, Nat.reduceLeDiff, Int.reduceToNat, Bool.and_self, Bool.false_eq_true, if_true, if_false, D114_0, D114_38, D114_48, D114_82, o_m, g_m_0, g_m_1, g_m_2, g_m_3, g_m_4, g_m_5, g_m_6, g_m_7, g_m_8, g_m_9, g_m_10, g_m_11, g_m_12, g_m_13, g_m_14, g_m_15, g_m_16, g_m_17, g_m_18, g_m_19, g_m_20, g_m_21, p_m_3, p_m_7, p_m_8, p_m_11, p_m_13, p_m_15, p_m_16, p_m_17, p_m_18, p_m_21, p_m_5_0, p_m_5_1, r_m0, s_m0, r_m1, s_m1, r_m2, s_m2, r_m4, s_m4, r_m6, s_m6, r_m9, s_m9, r_m10, s_m10, r_m12, s_m12, r_m14, s_m14, r_m19, s_m19, r_m20, s_m20, decide_true, decide_false, Bool.true_and, Bool.false_and, Bool.and_true, Bool.and_false, zB_tt, zB_ff, not_false_eq_true, not_true_eq_false, n_lit, n_mul, nI_add, n_sub, x_in, nI_clamp, nI_ltI, nI_leI, nI_eq, and_self, true_and, and_true, hn, Nat.le_refl, u_s]
theorem t_back_0 (hn : I 3 = nI 0) : xcall 116 [.ref 163] (hp q S P A D K X E Z I J V) = some (some (.int (Int32.ofInt (-3))), (hp q S P A D K X E Z I J (vf_upd V 4 (upd (V 4) 1 (V 4 1 + nI 1))))) := by
  rw [N116 _ _ (o_m ..)]
  simp (maxSteps := 2000000) (disch := omega) only [e_inl, e_goto, e_fall, e_if, e_icmp, e_iret, e_zret, e_lret, e_vret, e_call0_0, e_call0_1, e_call0_2, e_call0_3, e_call0_4, e_call1_0, e_call1_1, e_call1_2, e_call1_3, e_call1_4, e_call2_0, e_call2_1, e_call2_2, e_call2_3, e_call2_4, e_call3_0, e_call3_1, e_call3_2, e_call3_3, e_call3_4, e_call4_0, e_call4_1, e_call4_2, e_call4_3, e_call4_4, e_call5_0, e_call5_1, e_call5_2, e_call5_3, e_call5_4, e_call6_0, e_call6_1, e_call6_2, e_call6_3, e_call6_4, xP, xld, xst1, xst2, xis2, xii, xid, xll, xlv, xls, xlc, xil, xli, xrd, xdup, xdup2, xc1, xpu, c_eq, c_ne, c_lt, c_ge, c_gt, c_le, Option.bind_some, Option.map_some, List.length_nil, List.length_cons, Nat.reduceAdd, Nat.reduceLeDiff, Int.reduceToNat, Bool.and_self, Bool.false_eq_true, if_true, if_false, D116_0, D116_14, D116_58, o_m, g_m_0, g_m_1, g_m_2, g_m_3, g_m_4, g_m_5, g_m_6, g_m_7, g_m_8, g_m_9, g_m_10, g_m_11, g_m_12, g_m_13, g_m_14, g_m_15, g_m_16, g_m_17, g_m_18, g_m_19, g_m_20, g_m_21, p_m_3, p_m_7, p_m_8, p_m_11, p_m_13, p_m_15, p_m_16, p_m_17, p_m_18, p_m_21, p_m_5_0, p_m_5_1, r_m0, s_m0, r_m1, s_m1, r_m2, s_m2, r_m4, s_m4, r_m6, s_m6, r_m9, s_m9, r_m10, s_m10, r_m12, s_m12, r_m14, s_m14, r_m19, s_m19, r_m20, s_m20, decide_true, decide_false, Bool.true_and, Bool.false_and, Bool.and_true, Bool.and_false, zB_tt, zB_ff, not_false_eq_true, not_true_eq_false, n_lit, n_mul, nI_add, n_sub, x_in, nI_clamp, nI_ltI, nI_leI, nI_eq, and_self, true_and, and_true, hn, n_0, t_ref3]
theorem t_back {n : Nat} (hn : I 3 = nI (n + 1)) (h4 : n < 4) : xcall 116 [.ref 163] (hp q S P A D K X E Z I J V) = some (some (.int (nI n)), (hp q S P A D K X E Z (upd (upd I 3 (nI n)) 5 (nI 0)) J (vf_upd V 0 (fa_fill (fun k => V 2 (115 * n + k)) (V 0) 115)))) := by
  rw [N116 _ _ (o_m ..)]
  have h5 : ¬ n + 1 = 0 := by omega
  simp (maxSteps := 2000000) (disch := omega) only [e_inl, e_goto, e_fall, e_if, e_icmp, e_iret, e_zret, e_lret, e_vret, e_call0_0, e_call0_1, e_call0_2, e_call0_3, e_call0_4, e_call1_0, e_call1_1, e_call1_2, e_call1_3, e_call1_4, e_call2_0, e_call2_1, e_call2_2, e_call2_3, e_call2_4, e_call3_0, e_call3_1, e_call3_2, e_call3_3, e_call3_4, e_call4_0, e_call4_1, e_call4_2, e_call4_3, e_call4_4, e_call5_0, e_call5_1, e_call5_2, e_call5_3, e_call5_4, e_call6_0, e_call6_1, e_call6_2, e_call6_3, e_call6_4, xP, xld, xst1, xst2, xis2, xii, xid, xll, xlv, xls, xlc, xil, xli, xrd, xdup, xdup2, xc1, xpu, c_eq, c_ne, c_lt, c_ge, c_gt, c_le, Option.bind_some, Option.map_some, List.length_nil, List.length_cons, Nat.reduceAdd, Nat.reduceLeDiff, Int.reduceToNat, Bool.and_self, Bool.false_eq_true, if_true, if_false, D116_0, D116_14, D116_58, o_m, g_m_0, g_m_1, g_m_2, g_m_3, g_m_4, g_m_5, g_m_6, g_m_7, g_m_8, g_m_9, g_m_10, g_m_11, g_m_12, g_m_13, g_m_14, g_m_15, g_m_16, g_m_17, g_m_18, g_m_19, g_m_20, g_m_21, p_m_3, p_m_7, p_m_8, p_m_11, p_m_13, p_m_15, p_m_16, p_m_17, p_m_18, p_m_21, p_m_5_0, p_m_5_1, r_m0, s_m0, r_m1, s_m1, r_m2, s_m2, r_m4, s_m4, r_m6, s_m6, r_m9, s_m9, r_m10, s_m10, r_m12, s_m12, r_m14, s_m14, r_m19, s_m19, r_m20, s_m20, decide_true, decide_false, Bool.true_and, Bool.false_and, Bool.and_true, Bool.and_false, zB_tt, zB_ff, not_false_eq_true, not_true_eq_false, n_lit, n_mul, nI_add, n_sub, x_in, nI_clamp, nI_ltI, nI_leI, nI_eq, and_self, true_and, and_true, hn, n_0, h5, Nat.add_sub_cancel]
  have hl := x_loop (i := 116) (pc := 26) (fun k => [some (.ref 163), some (.int (nI k))]) (fun k => (hp q S P A D K X E Z (upd I 3 (nI n)) J (vf_upd V 0 (fa_fill (fun k => V 2 (115 * n + k)) (V 0) k)))) 115 (fun k hk => by
    rw [D116_26]
    have h1 : ¬ 115 ≤ k := by omega
    have h2 := fa_fill_succ (fun k => V 2 (115 * n + k)) (V 0) k
    simp (maxSteps := 2000000) (disch := omega) only [e_inl, e_goto, e_fall, e_if, e_icmp, e_iret, e_zret, e_lret, e_vret, e_call0_0, e_call0_1, e_call0_2, e_call0_3, e_call0_4, e_call1_0, e_call1_1, e_call1_2, e_call1_3, e_call1_4, e_call2_0, e_call2_1, e_call2_2, e_call2_3, e_call2_4, e_call3_0, e_call3_1, e_call3_2, e_call3_3, e_call3_4, e_call4_0, e_call4_1, e_call4_2, e_call4_3, e_call4_4, e_call5_0, e_call5_1, e_call5_2, e_call5_3, e_call5_4, e_call6_0, e_call6_1, e_call6_2, e_call6_3, e_call6_4, xP, xld, xst1, xst2, xis2, xii, xid, xll, xlv, xls, xlc, xil, xli, xrd, xdup, xdup2, xc1, xpu, c_eq, c_ne, c_lt, c_ge, c_gt, c_le, Option.bind_some, Option.map_some, List.length_nil, List.length_cons, Nat.reduceAdd, Nat.reduceLeDiff, Int.reduceToNat, Bool.and_self, Bool.false_eq_true, if_true, if_false, o_m, g_m_0, g_m_1, g_m_2, g_m_3, g_m_4, g_m_5, g_m_6, g_m_7, g_m_8, g_m_9, g_m_10, g_m_11, g_m_12, g_m_13, g_m_14, g_m_15, g_m_16, g_m_17, g_m_18, g_m_19, g_m_20, g_m_21, p_m_3, p_m_7, p_m_8, p_m_11, p_m_13, p_m_15, p_m_16, p_m_17, p_m_18, p_m_21, p_m_5_0, p_m_5_1, r_m0, s_m0, r_m1, s_m1, r_m2, s_m2, r_m4, s_m4, r_m6, s_m6, r_m9, s_m9, r_m10, s_m10, r_m12, s_m12, r_m14, s_m14, r_m19, s_m19, r_m20, s_m20, decide_true, decide_false, Bool.true_and, Bool.false_and, Bool.and_true, Bool.and_false, zB_tt, zB_ff, not_false_eq_true, not_true_eq_false, n_lit, n_mul, nI_add, n_sub, x_in, nI_clamp, nI_ltI, nI_leI, nI_eq, and_self, true_and, and_true, hn, h1, vu_s, vu_n, vu_vu, u_s, h2])
  simp only [fa_fill_0, vu_id] at hl
  rw [hl, D116_26]
  simp (maxSteps := 2000000) (disch := omega) only [e_inl, e_goto, e_fall, e_if, e_icmp, e_iret, e_zret, e_lret, e_vret, e_call0_0, e_call0_1, e_call0_2, e_call0_3, e_call0_4, e_call1_0, e_call1_1, e_call1_2, e_call1_3, e_call1_4, e_call2_0, e_call2_1, e_call2_2, e_call2_3, e_call2_4, e_call3_0, e_call3_1, e_call3_2, e_call3_3, e_call3_4, e_call4_0, e_call4_1, e_call4_2, e_call4_3, e_call4_4, e_call5_0, e_call5_1, e_call5_2, e_call5_3, e_call5_4, e_call6_0, e_call6_1, e_call6_2, e_call6_3, e_call6_4, xP, xld, xst1, xst2, xis2, xii, xid, xll, xlv, xls, xlc, xil, xli, xrd, xdup, xdup2, xc1, xpu, c_eq, c_ne, c_lt, c_ge, c_gt, c_le, Option.bind_some, Option.map_some, List.length_nil, List.length_cons, Nat.reduceAdd, Nat.reduceLeDiff, Int.reduceToNat, Bool.and_self, Bool.false_eq_true, if_true, if_false, D116_0, D116_14, D116_58, o_m, g_m_0, g_m_1, g_m_2, g_m_3, g_m_4, g_m_5, g_m_6, g_m_7, g_m_8, g_m_9, g_m_10, g_m_11, g_m_12, g_m_13, g_m_14, g_m_15, g_m_16, g_m_17, g_m_18, g_m_19, g_m_20, g_m_21, p_m_3, p_m_7, p_m_8, p_m_11, p_m_13, p_m_15, p_m_16, p_m_17, p_m_18, p_m_21, p_m_5_0, p_m_5_1, r_m0, s_m0, r_m1, s_m1, r_m2, s_m2, r_m4, s_m4, r_m6, s_m6, r_m9, s_m9, r_m10, s_m10, r_m12, s_m12, r_m14, s_m14, r_m19, s_m19, r_m20, s_m20, decide_true, decide_false, Bool.true_and, Bool.false_and, Bool.and_true, Bool.and_false, zB_tt, zB_ff, not_false_eq_true, not_true_eq_false, n_lit, n_mul, nI_add, n_sub, x_in, nI_clamp, nI_ltI, nI_leI, nI_eq, and_self, true_and, and_true, hn, Nat.le_refl, u_s, u_n]
/-- nothing is drawn: of the first k fields -/
def empA (a : Nat → Int32) : Nat → Nat → Int32
  | 0 => a
  | k + 1 => upd (upd (empA a k) (1 + 13 * k + 3) (nI 0)) (1 + 13 * k + 4) (Int32.ofInt (-1))
theorem t_empty : xcall 123 [.ref 163] (hp q S P A D K X E Z I J V) = some (none, (hp q S P A D K X E Z (upd I 5 (nI 0)) J (vf_upd V 0 (upd (empA (V 0) 4) 98 (nI 0))))) := by
  rw [N123 _ _ (o_m ..)]
  simp (maxSteps := 2000000) (disch := omega) only [e_inl, e_goto, e_fall, e_if, e_icmp, e_iret, e_zret, e_lret, e_vret, e_call0_0, e_call0_1, e_call0_2, e_call0_3, e_call0_4, e_call1_0, e_call1_1, e_call1_2, e_call1_3, e_call1_4, e_call2_0, e_call2_1, e_call2_2, e_call2_3, e_call2_4, e_call3_0, e_call3_1, e_call3_2, e_call3_3, e_call3_4, e_call4_0, e_call4_1, e_call4_2, e_call4_3, e_call4_4, e_call5_0, e_call5_1, e_call5_2, e_call5_3, e_call5_4, e_call6_0, e_call6_1, e_call6_2, e_call6_3, e_call6_4, xP, xld, xst1, xst2, xis2, xii, xid, xll, xlv, xls, xlc, xil, xli, xrd, xdup, xdup2, xc1, xpu, c_eq, c_ne, c_lt, c_ge, c_gt, c_le, Option.bind_some, Option.map_some, List.length_nil, List.length_cons, Nat.reduceAdd, Nat.reduceLeDiff, Int.reduceToNat, Bool.and_self, Bool.false_eq_true, if_true, if_false, D123_0, o_m, g_m_0, g_m_1, g_m_2, g_m_3, g_m_4, g_m_5, g_m_6, g_m_7, g_m_8, g_m_9, g_m_10, g_m_11, g_m_12, g_m_13, g_m_14, g_m_15, g_m_16, g_m_17, g_m_18, g_m_19, g_m_20, g_m_21, p_m_3, p_m_7, p_m_8, p_m_11, p_m_13, p_m_15, p_m_16, p_m_17, p_m_18, p_m_21, p_m_5_0, p_m_5_1, r_m0, s_m0, r_m1, s_m1, r_m2, s_m2, r_m4, s_m4, r_m6, s_m6, r_m9, s_m9, r_m10, s_m10, r_m12, s_m12, r_m14, s_m14, r_m19, s_m19, r_m20, s_m20, decide_true, decide_false, Bool.true_and, Bool.false_and, Bool.and_true, Bool.and_false, zB_tt, zB_ff, not_false_eq_true, not_true_eq_false, n_lit, n_mul, nI_add, n_sub, x_in, nI_clamp, nI_ltI, nI_leI, nI_eq, and_self, true_and, and_true]
  have hl := x_loop (i := 123) (pc := 2) (fun k => [some (.ref 163), some (.int (nI k))]) (fun k => (hp q S P A D K X E Z I J (vf_upd V 0 (empA (V 0) k)))) 4 (fun k hk => by
    rw [D123_2]
    have h1 : ¬ 4 ≤ k := by omega
    simp (maxSteps := 2000000) (disch := omega) only [e_inl, e_goto, e_fall, e_if, e_icmp, e_iret, e_zret, e_lret, e_vret, e_call0_0, e_call0_1, e_call0_2, e_call0_3, e_call0_4, e_call1_0, e_call1_1, e_call1_2, e_call1_3, e_call1_4, e_call2_0, e_call2_1, e_call2_2, e_call2_3, e_call2_4, e_call3_0, e_call3_1, e_call3_2, e_call3_3, e_call3_4, e_call4_0, e_call4_1, e_call4_2, e_call4_3, e_call4_4, e_call5_0, e_call5_1, e_call5_2, e_call5_3, e_call5_4, e_call6_0, e_call6_1, e_call6_2, e_call6_3, e_call6_4, xP, xld, xst1, xst2, xis2, xii, xid, xll, xlv, xls, xlc, xil, xli, xrd, xdup, xdup2, xc1, xpu, c_eq, c_ne, c_lt, c_ge, c_gt, c_le, Option.bind_some, Option.map_some, List.length_nil, List.length_cons, Nat.reduceAdd, Nat.reduceLeDiff, Int.reduceToNat, Bool.and_self, Bool.false_eq_true, if_true, if_false, o_m, g_m_0, g_m_1, g_m_2, g_m_3, g_m_4, g_m_5, g_m_6, g_m_7, g_m_8, g_m_9, g_m_10, g_m_11, g_m_12, g_m_13, g_m_14, g_m_15, g_m_16, g_m_17, g_m_18, g_m_19, g_m_20, g_m_21, p_m_3, p_m_7, p_m_8, p_m_11, p_m_13, p_m_15, p_m_16, p_m_17, p_m_18, p_m_21, p_m_5_0, p_m_5_1, r_m0, s_m0, r_m1, s_m1, r_m2, s_m2, r_m4, s_m4, r_m6, s_m6, r_m9, s_m9, r_m10, s_m10, r_m12, s_m12, r_m14, s_m14, r_m19, s_m19, r_m20, s_m20, decide_true, decide_false, Bool.true_and, Bool.false_and, Bool.and_true, Bool.and_false, zB_tt, zB_ff, not_false_eq_true, not_true_eq_false, n_lit, n_mul, nI_add, n_sub, x_in, nI_clamp, nI_ltI, nI_leI, nI_eq, and_self, true_and, and_true, h1, t_put, vu_s, vu_vu, empA])
  simp only [empA, vu_id] at hl
  rw [hl, D123_2]
  simp (maxSteps := 2000000) (disch := omega) only [e_inl, e_goto, e_fall, e_if, e_icmp, e_iret, e_zret, e_lret, e_vret, e_call0_0, e_call0_1, e_call0_2, e_call0_3, e_call0_4, e_call1_0, e_call1_1, e_call1_2, e_call1_3, e_call1_4, e_call2_0, e_call2_1, e_call2_2, e_call2_3, e_call2_4, e_call3_0, e_call3_1, e_call3_2, e_call3_3, e_call3_4, e_call4_0, e_call4_1, e_call4_2, e_call4_3, e_call4_4, e_call5_0, e_call5_1, e_call5_2, e_call5_3, e_call5_4, e_call6_0, e_call6_1, e_call6_2, e_call6_3, e_call6_4, xP, xld, xst1, xst2, xis2, xii, xid, xll, xlv, xls, xlc, xil, xli, xrd, xdup, xdup2, xc1, xpu, c_eq, c_ne, c_lt, c_ge, c_gt, c_le, Option.bind_some, Option.map_some, List.length_nil, List.length_cons, Nat.reduceAdd, Nat.reduceLeDiff, Int.reduceToNat, Bool.and_self, Bool.false_eq_true, if_true, if_false, D123_0, D123_27, o_m, g_m_0, g_m_1, g_m_2, g_m_3, g_m_4, g_m_5, g_m_6, g_m_7, g_m_8, g_m_9, g_m_10, g_m_11, g_m_12, g_m_13, g_m_14, g_m_15, g_m_16, g_m_17, g_m_18, g_m_19, g_m_20, g_m_21, p_m_3, p_m_7, p_m_8, p_m_11, p_m_13, p_m_15, p_m_16, p_m_17, p_m_18, p_m_21, p_m_5_0, p_m_5_1, r_m0, s_m0, r_m1, s_m1, r_m2, s_m2, r_m4, s_m4, r_m6, s_m6, r_m9, s_m9, r_m10, s_m10, r_m12, s_m12, r_m14, s_m14, r_m19, s_m19, r_m20, s_m20, decide_true, decide_false, Bool.true_and, Bool.false_and, Bool.and_true, Bool.and_false, zB_tt, zB_ff, not_false_eq_true, not_true_eq_false, n_lit, n_mul, nI_add, n_sub, x_in, nI_clamp, nI_ltI, nI_leI, nI_eq, and_self, true_and, and_true, Nat.le_refl, vu_s, vu_vu, empA]
end
end
section
/-! ===== the reference: orders that change fields and rules ===== -/
theorem k_g2 : (0 ≤ Int32.ofInt (-2)) = False := by decide
theorem k_g3 : (0 ≤ Int32.ofInt (-3)) = False := by decide
theorem k_g4 : (0 ≤ Int32.ofInt (-4)) = False := by decide
theorem zB_f {b : Bool} (h : b = false) : zB b = nI 0 := by rw [h]; rfl
theorem zB_t {b : Bool} (h : b = true) : zB b = nI 1 := by rw [h]; rfl
/-- a range as told -/
def okR (lo hi : Int32) : Prop := nI 0 ≤ lo ∧ lo ≤ nI 7 ∧ lo ≤ hi ∧ hi ≤ nI 7
theorem okR_nat {lo hi : Int32} (h : okR lo hi) : ∃ l h, lo = nI l ∧ hi = nI h ∧ l ≤ h ∧ h ≤ 7 := by
  obtain ⟨h1, h2, h3, h4⟩ := h
  obtain ⟨l, hl, rfl⟩ := nI_of2 (M := nI 7) (n := 7) rfl (Int32.not_lt.mpr h1) h2
  obtain ⟨k, hk, rfl⟩ := nI_of2 (M := nI 7) (n := 7) rfl (Int32.not_lt.mpr (Int32.le_trans h1 h3)) h4
  exact ⟨l, k, rfl, rfl, (nI_leI (by omega) (by omega)).mp h3, hk⟩
theorem okR_of {l h : Nat} (h1 : l ≤ h) (h2 : h ≤ 7) : okR (nI l) (nI h) :=
  ⟨(nI_leI (by omega) (by omega)).mpr (by omega), (nI_leI (by omega) (by omega)).mpr (by omega), (nI_leI (by omega) (by omega)).mpr h1, (nI_leI (by omega) (by omega)).mpr h2⟩
/-- weights of a new field -/
def wtA (a : Nat → Int32) (f : Nat) : Nat → Nat → Int32
  | 0 => a
  | k + 1 => upd (wtA a f k) (1 + 13 * f + (5 + k)) (nI 1)
section
variable {q : Nat × (Nat → Int32)} {S : Nat → xSt} {P : Int32 × (Nat → Nat)} {A : (Nat → Int64) × Int32 × Int32 × (Nat → Int64) × (Nat → Nat → Int64)} {D : (Nat → Int64) × Int64} {K : Nat → Int64} {X : Int32 × Int32 × Int32 × (Nat → Int32) × (Nat → Int32)} {E Z : Nat → Int32} {I : Nat → Int32} {J : Nat → Int64} {V : Nat → Nat → Int32}
theorem t_ends2 : xcall 115 [.ref 163, .int (Int32.ofInt (-2))] (hp q S P A D K X E Z I J V) = some (some (.int (Int32.ofInt (-2))), (hp q S P A D K X E Z I J (vf_upd V 4 (upd (V 4) 0 (V 4 0 + nI 1))))) := by
  rw [N115 _ _ _ (o_m ..)]
  simp (maxSteps := 2000000) (disch := omega) only [e_inl, e_goto, e_fall, e_if, e_icmp, e_iret, e_zret, e_lret, e_vret, e_call0_0, e_call0_1, e_call0_2, e_call0_3, e_call0_4, e_call1_0, e_call1_1, e_call1_2, e_call1_3, e_call1_4, e_call2_0, e_call2_1, e_call2_2, e_call2_3, e_call2_4, e_call3_0, e_call3_1, e_call3_2, e_call3_3, e_call3_4, e_call4_0, e_call4_1, e_call4_2, e_call4_3, e_call4_4, e_call5_0, e_call5_1, e_call5_2, e_call5_3, e_call5_4, e_call6_0, e_call6_1, e_call6_2, e_call6_3, e_call6_4, xP, xld, xst1, xst2, xis2, xii, xid, xll, xlv, xls, xlc, xil, xli, xrd, xdup, xdup2, xc1, xpu, c_eq, c_ne, c_lt, c_ge, c_gt, c_le, Option.bind_some, Option.map_some, List.length_nil, List.length_cons, Nat.reduceAdd, Nat.reduceLeDiff, Int.reduceToNat, Bool.and_self, Bool.false_eq_true, if_true, if_false, D115_0, D115_10, o_m, g_m_0, g_m_1, g_m_2, g_m_3, g_m_4, g_m_5, g_m_6, g_m_7, g_m_8, g_m_9, g_m_10, g_m_11, g_m_12, g_m_13, g_m_14, g_m_15, g_m_16, g_m_17, g_m_18, g_m_19, g_m_20, g_m_21, p_m_3, p_m_7, p_m_8, p_m_11, p_m_13, p_m_15, p_m_16, p_m_17, p_m_18, p_m_21, p_m_5_0, p_m_5_1, r_m0, s_m0, r_m1, s_m1, r_m2, s_m2, r_m4, s_m4, r_m6, s_m6, r_m9, s_m9, r_m10, s_m10, r_m12, s_m12, r_m14, s_m14, r_m19, s_m19, r_m20, s_m20, decide_true, decide_false, Bool.true_and, Bool.false_and, Bool.and_true, Bool.and_false, zB_tt, zB_ff, not_false_eq_true, not_true_eq_false, n_lit, n_mul, nI_add, n_sub, x_in, nI_clamp, nI_ltI, nI_leI, nI_eq, and_self, true_and, and_true, k_g2, t_ref2]
theorem t_ends3 : xcall 115 [.ref 163, .int (Int32.ofInt (-3))] (hp q S P A D K X E Z I J V) = some (some (.int (Int32.ofInt (-3))), (hp q S P A D K X E Z I J (vf_upd V 4 (upd (V 4) 1 (V 4 1 + nI 1))))) := by
  rw [N115 _ _ _ (o_m ..)]
  simp (maxSteps := 2000000) (disch := omega) only [e_inl, e_goto, e_fall, e_if, e_icmp, e_iret, e_zret, e_lret, e_vret, e_call0_0, e_call0_1, e_call0_2, e_call0_3, e_call0_4, e_call1_0, e_call1_1, e_call1_2, e_call1_3, e_call1_4, e_call2_0, e_call2_1, e_call2_2, e_call2_3, e_call2_4, e_call3_0, e_call3_1, e_call3_2, e_call3_3, e_call3_4, e_call4_0, e_call4_1, e_call4_2, e_call4_3, e_call4_4, e_call5_0, e_call5_1, e_call5_2, e_call5_3, e_call5_4, e_call6_0, e_call6_1, e_call6_2, e_call6_3, e_call6_4, xP, xld, xst1, xst2, xis2, xii, xid, xll, xlv, xls, xlc, xil, xli, xrd, xdup, xdup2, xc1, xpu, c_eq, c_ne, c_lt, c_ge, c_gt, c_le, Option.bind_some, Option.map_some, List.length_nil, List.length_cons, Nat.reduceAdd, Nat.reduceLeDiff, Int.reduceToNat, Bool.and_self, Bool.false_eq_true, if_true, if_false, D115_0, D115_10, o_m, g_m_0, g_m_1, g_m_2, g_m_3, g_m_4, g_m_5, g_m_6, g_m_7, g_m_8, g_m_9, g_m_10, g_m_11, g_m_12, g_m_13, g_m_14, g_m_15, g_m_16, g_m_17, g_m_18, g_m_19, g_m_20, g_m_21, p_m_3, p_m_7, p_m_8, p_m_11, p_m_13, p_m_15, p_m_16, p_m_17, p_m_18, p_m_21, p_m_5_0, p_m_5_1, r_m0, s_m0, r_m1, s_m1, r_m2, s_m2, r_m4, s_m4, r_m6, s_m6, r_m9, s_m9, r_m10, s_m10, r_m12, s_m12, r_m14, s_m14, r_m19, s_m19, r_m20, s_m20, decide_true, decide_false, Bool.true_and, Bool.false_and, Bool.and_true, Bool.and_false, zB_tt, zB_ff, not_false_eq_true, not_true_eq_false, n_lit, n_mul, nI_add, n_sub, x_in, nI_clamp, nI_ltI, nI_leI, nI_eq, and_self, true_and, and_true, k_g3, t_ref3]
theorem t_ends4 : xcall 115 [.ref 163, .int (Int32.ofInt (-4))] (hp q S P A D K X E Z I J V) = some (some (.int (Int32.ofInt (-4))), (hp q S P A D K X E Z I J (vf_upd V 4 (upd (V 4) 2 (V 4 2 + nI 1))))) := by
  rw [N115 _ _ _ (o_m ..)]
  simp (maxSteps := 2000000) (disch := omega) only [e_inl, e_goto, e_fall, e_if, e_icmp, e_iret, e_zret, e_lret, e_vret, e_call0_0, e_call0_1, e_call0_2, e_call0_3, e_call0_4, e_call1_0, e_call1_1, e_call1_2, e_call1_3, e_call1_4, e_call2_0, e_call2_1, e_call2_2, e_call2_3, e_call2_4, e_call3_0, e_call3_1, e_call3_2, e_call3_3, e_call3_4, e_call4_0, e_call4_1, e_call4_2, e_call4_3, e_call4_4, e_call5_0, e_call5_1, e_call5_2, e_call5_3, e_call5_4, e_call6_0, e_call6_1, e_call6_2, e_call6_3, e_call6_4, xP, xld, xst1, xst2, xis2, xii, xid, xll, xlv, xls, xlc, xil, xli, xrd, xdup, xdup2, xc1, xpu, c_eq, c_ne, c_lt, c_ge, c_gt, c_le, Option.bind_some, Option.map_some, List.length_nil, List.length_cons, Nat.reduceAdd, Nat.reduceLeDiff, Int.reduceToNat, Bool.and_self, Bool.false_eq_true, if_true, if_false, D115_0, D115_10, o_m, g_m_0, g_m_1, g_m_2, g_m_3, g_m_4, g_m_5, g_m_6, g_m_7, g_m_8, g_m_9, g_m_10, g_m_11, g_m_12, g_m_13, g_m_14, g_m_15, g_m_16, g_m_17, g_m_18, g_m_19, g_m_20, g_m_21, p_m_3, p_m_7, p_m_8, p_m_11, p_m_13, p_m_15, p_m_16, p_m_17, p_m_18, p_m_21, p_m_5_0, p_m_5_1, r_m0, s_m0, r_m1, s_m1, r_m2, s_m2, r_m4, s_m4, r_m6, s_m6, r_m9, s_m9, r_m10, s_m10, r_m12, s_m12, r_m14, s_m14, r_m19, s_m19, r_m20, s_m20, decide_true, decide_false, Bool.true_and, Bool.false_and, Bool.and_true, Bool.and_false, zB_tt, zB_ff, not_false_eq_true, not_true_eq_false, n_lit, n_mul, nI_add, n_sub, x_in, nI_clamp, nI_ltI, nI_leI, nI_eq, and_self, true_and, and_true, k_g4, t_ref4]
theorem t_ends_lt {n r : Nat} (hn : I 3 = nI n) (h4 : n < 4) (hr : r < 2 ^ 31) : xcall 115 [.ref 163, .int (nI r)] (hp q S P A D K X E Z I J V) = some (some (.int (nI r)), (hp q S P A D K X E Z (upd I 3 (nI (n + 1))) J (vf_upd V 2 (fb_put (V 2) (V 1) (115 * n) 115)))) := by
  rw [N115 _ _ _ (o_m ..)]
  simp (maxSteps := 2000000) (disch := omega) only [e_inl, e_goto, e_fall, e_if, e_icmp, e_iret, e_zret, e_lret, e_vret, e_call0_0, e_call0_1, e_call0_2, e_call0_3, e_call0_4, e_call1_0, e_call1_1, e_call1_2, e_call1_3, e_call1_4, e_call2_0, e_call2_1, e_call2_2, e_call2_3, e_call2_4, e_call3_0, e_call3_1, e_call3_2, e_call3_3, e_call3_4, e_call4_0, e_call4_1, e_call4_2, e_call4_3, e_call4_4, e_call5_0, e_call5_1, e_call5_2, e_call5_3, e_call5_4, e_call6_0, e_call6_1, e_call6_2, e_call6_3, e_call6_4, xP, xld, xst1, xst2, xis2, xii, xid, xll, xlv, xls, xlc, xil, xli, xrd, xdup, xdup2, xc1, xpu, c_eq, c_ne, c_lt, c_ge, c_gt, c_le, Option.bind_some, Option.map_some, List.length_nil, List.length_cons, Nat.reduceAdd, Nat.reduceLeDiff, Int.reduceToNat, Bool.and_self, Bool.false_eq_true, if_true, if_false, D115_0, D115_10, o_m, g_m_0, g_m_1, g_m_2, g_m_3, g_m_4, g_m_5, g_m_6, g_m_7, g_m_8, g_m_9, g_m_10, g_m_11, g_m_12, g_m_13, g_m_14, g_m_15, g_m_16, g_m_17, g_m_18, g_m_19, g_m_20, g_m_21, p_m_3, p_m_7, p_m_8, p_m_11, p_m_13, p_m_15, p_m_16, p_m_17, p_m_18, p_m_21, p_m_5_0, p_m_5_1, r_m0, s_m0, r_m1, s_m1, r_m2, s_m2, r_m4, s_m4, r_m6, s_m6, r_m9, s_m9, r_m10, s_m10, r_m12, s_m12, r_m14, s_m14, r_m19, s_m19, r_m20, s_m20, decide_true, decide_false, Bool.true_and, Bool.false_and, Bool.and_true, Bool.and_false, zB_tt, zB_ff, not_false_eq_true, not_true_eq_false, n_lit, n_mul, nI_add, n_sub, x_in, nI_clamp, nI_ltI, nI_leI, nI_eq, and_self, true_and, and_true, n_0, Nat.zero_le, t_push_lt hn h4]
theorem t_ends_4 {r : Nat} (hn : I 3 = nI 4) (hr : r < 2 ^ 31) : xcall 115 [.ref 163, .int (nI r)] (hp q S P A D K X E Z I J V) = some (some (.int (nI r)), (hp q S P A D K X E Z (upd (upd I 3 (nI 3)) 3 (nI 4)) J (vf_upd V 2 (fb_put (shiftA (V 2) 345) (V 1) 345 115)))) := by
  rw [N115 _ _ _ (o_m ..)]
  simp (maxSteps := 2000000) (disch := omega) only [e_inl, e_goto, e_fall, e_if, e_icmp, e_iret, e_zret, e_lret, e_vret, e_call0_0, e_call0_1, e_call0_2, e_call0_3, e_call0_4, e_call1_0, e_call1_1, e_call1_2, e_call1_3, e_call1_4, e_call2_0, e_call2_1, e_call2_2, e_call2_3, e_call2_4, e_call3_0, e_call3_1, e_call3_2, e_call3_3, e_call3_4, e_call4_0, e_call4_1, e_call4_2, e_call4_3, e_call4_4, e_call5_0, e_call5_1, e_call5_2, e_call5_3, e_call5_4, e_call6_0, e_call6_1, e_call6_2, e_call6_3, e_call6_4, xP, xld, xst1, xst2, xis2, xii, xid, xll, xlv, xls, xlc, xil, xli, xrd, xdup, xdup2, xc1, xpu, c_eq, c_ne, c_lt, c_ge, c_gt, c_le, Option.bind_some, Option.map_some, List.length_nil, List.length_cons, Nat.reduceAdd, Nat.reduceLeDiff, Int.reduceToNat, Bool.and_self, Bool.false_eq_true, if_true, if_false, D115_0, D115_10, o_m, g_m_0, g_m_1, g_m_2, g_m_3, g_m_4, g_m_5, g_m_6, g_m_7, g_m_8, g_m_9, g_m_10, g_m_11, g_m_12, g_m_13, g_m_14, g_m_15, g_m_16, g_m_17, g_m_18, g_m_19, g_m_20, g_m_21, p_m_3, p_m_7, p_m_8, p_m_11, p_m_13, p_m_15, p_m_16, p_m_17, p_m_18, p_m_21, p_m_5_0, p_m_5_1, r_m0, s_m0, r_m1, s_m1, r_m2, s_m2, r_m4, s_m4, r_m6, s_m6, r_m9, s_m9, r_m10, s_m10, r_m12, s_m12, r_m14, s_m14, r_m19, s_m19, r_m20, s_m20, decide_true, decide_false, Bool.true_and, Bool.false_and, Bool.and_true, Bool.and_false, zB_tt, zB_ff, not_false_eq_true, not_true_eq_false, n_lit, n_mul, nI_add, n_sub, x_in, nI_clamp, nI_ltI, nI_leI, nI_eq, and_self, true_and, and_true, n_0, Nat.zero_le, t_push_4 hn]
theorem t_doField_bad {lo hi : Int32} (h : ¬ okR lo hi) : xcall 124 [.ref 163, .int lo, .int hi] (hp q S P A D K X E Z I J V) = some (some (.int (Int32.ofInt (-2))), (hp q S P A D K X E Z I J V)) := by
  rw [N124 _ _ _ _ (o_m ..)]
  by_cases h1 : (decide (nI 0 ≤ lo) && decide (lo ≤ nI 7)) = true
  · by_cases h2 : (decide (lo ≤ hi) && decide (hi ≤ nI 7)) = true
    · exact absurd (by simp only [Bool.and_eq_true, decide_eq_true_eq] at h1 h2; exact ⟨h1.1, h1.2, h2⟩) h
    · simp (maxSteps := 2000000) (disch := omega) only [e_inl, e_goto, e_fall, e_if, e_icmp, e_iret, e_zret, e_lret, e_vret, e_call0_0, e_call0_1, e_call0_2, e_call0_3, e_call0_4, e_call1_0, e_call1_1, e_call1_2, e_call1_3, e_call1_4, e_call2_0, e_call2_1, e_call2_2, e_call2_3, e_call2_4, e_call3_0, e_call3_1, e_call3_2, e_call3_3, e_call3_4, e_call4_0, e_call4_1, e_call4_2, e_call4_3, e_call4_4, e_call5_0, e_call5_1, e_call5_2, e_call5_3, e_call5_4, e_call6_0, e_call6_1, e_call6_2, e_call6_3, e_call6_4, xP, xld, xst1, xst2, xis2, xii, xid, xll, xlv, xls, xlc, xil, xli, xrd, xdup, xdup2, xc1, xpu, c_eq, c_ne, c_lt, c_ge, c_gt, c_le, Option.bind_some, Option.map_some, List.length_nil, List.length_cons, Nat.reduceAdd, Nat.reduceLeDiff, Int.reduceToNat, Bool.and_self, Bool.false_eq_true, if_true, if_false, D124_0, D124_20, o_m, g_m_0, g_m_1, g_m_2, g_m_3, g_m_4, g_m_5, g_m_6, g_m_7, g_m_8, g_m_9, g_m_10, g_m_11, g_m_12, g_m_13, g_m_14, g_m_15, g_m_16, g_m_17, g_m_18, g_m_19, g_m_20, g_m_21, p_m_3, p_m_7, p_m_8, p_m_11, p_m_13, p_m_15, p_m_16, p_m_17, p_m_18, p_m_21, p_m_5_0, p_m_5_1, r_m0, s_m0, r_m1, s_m1, r_m2, s_m2, r_m4, s_m4, r_m6, s_m6, r_m9, s_m9, r_m10, s_m10, r_m12, s_m12, r_m14, s_m14, r_m19, s_m19, r_m20, s_m20, decide_true, decide_false, Bool.true_and, Bool.false_and, Bool.and_true, Bool.and_false, zB_tt, zB_ff, not_false_eq_true, not_true_eq_false, n_lit, n_mul, nI_add, n_sub, x_in, nI_clamp, nI_ltI, nI_leI, nI_eq, and_self, true_and, and_true, t_in, zB_t h1, zB_f (Bool.eq_false_iff.mpr h2), n_0, Nat.one_ne_zero]
  · simp (maxSteps := 2000000) (disch := omega) only [e_inl, e_goto, e_fall, e_if, e_icmp, e_iret, e_zret, e_lret, e_vret, e_call0_0, e_call0_1, e_call0_2, e_call0_3, e_call0_4, e_call1_0, e_call1_1, e_call1_2, e_call1_3, e_call1_4, e_call2_0, e_call2_1, e_call2_2, e_call2_3, e_call2_4, e_call3_0, e_call3_1, e_call3_2, e_call3_3, e_call3_4, e_call4_0, e_call4_1, e_call4_2, e_call4_3, e_call4_4, e_call5_0, e_call5_1, e_call5_2, e_call5_3, e_call5_4, e_call6_0, e_call6_1, e_call6_2, e_call6_3, e_call6_4, xP, xld, xst1, xst2, xis2, xii, xid, xll, xlv, xls, xlc, xil, xli, xrd, xdup, xdup2, xc1, xpu, c_eq, c_ne, c_lt, c_ge, c_gt, c_le, Option.bind_some, Option.map_some, List.length_nil, List.length_cons, Nat.reduceAdd, Nat.reduceLeDiff, Int.reduceToNat, Bool.and_self, Bool.false_eq_true, if_true, if_false, D124_0, D124_20, o_m, g_m_0, g_m_1, g_m_2, g_m_3, g_m_4, g_m_5, g_m_6, g_m_7, g_m_8, g_m_9, g_m_10, g_m_11, g_m_12, g_m_13, g_m_14, g_m_15, g_m_16, g_m_17, g_m_18, g_m_19, g_m_20, g_m_21, p_m_3, p_m_7, p_m_8, p_m_11, p_m_13, p_m_15, p_m_16, p_m_17, p_m_18, p_m_21, p_m_5_0, p_m_5_1, r_m0, s_m0, r_m1, s_m1, r_m2, s_m2, r_m4, s_m4, r_m6, s_m6, r_m9, s_m9, r_m10, s_m10, r_m12, s_m12, r_m14, s_m14, r_m19, s_m19, r_m20, s_m20, decide_true, decide_false, Bool.true_and, Bool.false_and, Bool.and_true, Bool.and_false, zB_tt, zB_ff, not_false_eq_true, not_true_eq_false, n_lit, n_mul, nI_add, n_sub, x_in, nI_clamp, nI_ltI, nI_leI, nI_eq, and_self, true_and, and_true, t_in, zB_f (Bool.eq_false_iff.mpr h1), n_0]
theorem t_doField_full {l h : Nat} (h1 : l ≤ h) (h2 : h ≤ 7) (hn : V 0 0 = nI 4) : xcall 124 [.ref 163, .int (nI l), .int (nI h)] (hp q S P A D K X E Z I J V) = some (some (.int (Int32.ofInt (-4))), (hp q S P A D K X E Z I J V)) := by
  rw [N124 _ _ _ _ (o_m ..)]
  simp (maxSteps := 2000000) (disch := omega) only [e_inl, e_goto, e_fall, e_if, e_icmp, e_iret, e_zret, e_lret, e_vret, e_call0_0, e_call0_1, e_call0_2, e_call0_3, e_call0_4, e_call1_0, e_call1_1, e_call1_2, e_call1_3, e_call1_4, e_call2_0, e_call2_1, e_call2_2, e_call2_3, e_call2_4, e_call3_0, e_call3_1, e_call3_2, e_call3_3, e_call3_4, e_call4_0, e_call4_1, e_call4_2, e_call4_3, e_call4_4, e_call5_0, e_call5_1, e_call5_2, e_call5_3, e_call5_4, e_call6_0, e_call6_1, e_call6_2, e_call6_3, e_call6_4, xP, xld, xst1, xst2, xis2, xii, xid, xll, xlv, xls, xlc, xil, xli, xrd, xdup, xdup2, xc1, xpu, c_eq, c_ne, c_lt, c_ge, c_gt, c_le, Option.bind_some, Option.map_some, List.length_nil, List.length_cons, Nat.reduceAdd, Nat.reduceLeDiff, Int.reduceToNat, Bool.and_self, Bool.false_eq_true, if_true, if_false, D124_0, D124_20, D124_23, o_m, g_m_0, g_m_1, g_m_2, g_m_3, g_m_4, g_m_5, g_m_6, g_m_7, g_m_8, g_m_9, g_m_10, g_m_11, g_m_12, g_m_13, g_m_14, g_m_15, g_m_16, g_m_17, g_m_18, g_m_19, g_m_20, g_m_21, p_m_3, p_m_7, p_m_8, p_m_11, p_m_13, p_m_15, p_m_16, p_m_17, p_m_18, p_m_21, p_m_5_0, p_m_5_1, r_m0, s_m0, r_m1, s_m1, r_m2, s_m2, r_m4, s_m4, r_m6, s_m6, r_m9, s_m9, r_m10, s_m10, r_m12, s_m12, r_m14, s_m14, r_m19, s_m19, r_m20, s_m20, decide_true, decide_false, Bool.true_and, Bool.false_and, Bool.and_true, Bool.and_false, zB_tt, zB_ff, not_false_eq_true, not_true_eq_false, n_lit, n_mul, nI_add, n_sub, x_in, nI_clamp, nI_ltI, nI_leI, nI_eq, and_self, true_and, and_true, t_in, Nat.zero_le, Nat.le_trans h1 h2, h1, h2, n_0, Nat.one_ne_zero, hn]
/-- the fields with one more -/
def fldA (a : Nat → Int32) (n : Nat) (lo hi : Int32) : Nat → Int32 := upd (empA (upd (wtA (upd (upd (upd (upd a 0 (nI (n + 1))) (1 + 13 * n + 0) lo) (1 + 13 * n + 1) hi) (1 + 13 * n + 2) (nI 0)) n 8) (53 + n) (nI n)) 4) 98 (nI 0)
theorem t_doField_ok {l h n : Nat} (h1 : l ≤ h) (h2 : h ≤ 7) (hn : V 0 0 = nI n) (hn4 : n < 4) : xcall 124 [.ref 163, .int (nI l), .int (nI h)] (hp q S P A D K X E Z I J V) = some (some (.int (nI n)), (hp q S P A D K X E Z (upd I 5 (nI 0)) J (vf_upd V 0 (fldA (V 0) n (nI l) (nI h))))) := by
  rw [N124 _ _ _ _ (o_m ..)]
  have h4 : ¬ n = 4 := by omega
  simp (maxSteps := 2000000) (disch := omega) only [e_inl, e_goto, e_fall, e_if, e_icmp, e_iret, e_zret, e_lret, e_vret, e_call0_0, e_call0_1, e_call0_2, e_call0_3, e_call0_4, e_call1_0, e_call1_1, e_call1_2, e_call1_3, e_call1_4, e_call2_0, e_call2_1, e_call2_2, e_call2_3, e_call2_4, e_call3_0, e_call3_1, e_call3_2, e_call3_3, e_call3_4, e_call4_0, e_call4_1, e_call4_2, e_call4_3, e_call4_4, e_call5_0, e_call5_1, e_call5_2, e_call5_3, e_call5_4, e_call6_0, e_call6_1, e_call6_2, e_call6_3, e_call6_4, xP, xld, xst1, xst2, xis2, xii, xid, xll, xlv, xls, xlc, xil, xli, xrd, xdup, xdup2, xc1, xpu, c_eq, c_ne, c_lt, c_ge, c_gt, c_le, Option.bind_some, Option.map_some, List.length_nil, List.length_cons, Nat.reduceAdd, Nat.reduceLeDiff, Int.reduceToNat, Bool.and_self, Bool.false_eq_true, if_true, if_false, D124_0, D124_20, D124_23, D124_36, o_m, g_m_0, g_m_1, g_m_2, g_m_3, g_m_4, g_m_5, g_m_6, g_m_7, g_m_8, g_m_9, g_m_10, g_m_11, g_m_12, g_m_13, g_m_14, g_m_15, g_m_16, g_m_17, g_m_18, g_m_19, g_m_20, g_m_21, p_m_3, p_m_7, p_m_8, p_m_11, p_m_13, p_m_15, p_m_16, p_m_17, p_m_18, p_m_21, p_m_5_0, p_m_5_1, r_m0, s_m0, r_m1, s_m1, r_m2, s_m2, r_m4, s_m4, r_m6, s_m6, r_m9, s_m9, r_m10, s_m10, r_m12, s_m12, r_m14, s_m14, r_m19, s_m19, r_m20, s_m20, decide_true, decide_false, Bool.true_and, Bool.false_and, Bool.and_true, Bool.and_false, zB_tt, zB_ff, not_false_eq_true, not_true_eq_false, n_lit, n_mul, nI_add, n_sub, x_in, nI_clamp, nI_ltI, nI_leI, nI_eq, and_self, true_and, and_true, t_in, Nat.zero_le, Nat.le_trans h1 h2, h1, h2, n_0, Nat.one_ne_zero, hn, h4, t_put, vu_s, vu_vu, u_s, u_n]
  have hl := x_loop (i := 124) (pc := 77) (fun k => [some (.ref 163), some (.int (nI l)), some (.int (nI h)), some (.int (nI n)), some (.int (nI k))]) (fun k => (hp q S P A D K X E Z I J (vf_upd V 0 (wtA (upd (upd (upd (upd (V 0) 0 (nI (n + 1))) (1 + 13 * n + 0) (nI l)) (1 + 13 * n + 1) (nI h)) (1 + 13 * n + 2) (nI 0)) n k)))) 8 (fun k hk => by
    rw [D124_77]
    have h1 : ¬ 8 ≤ k := by omega
    simp (maxSteps := 2000000) (disch := omega) only [e_inl, e_goto, e_fall, e_if, e_icmp, e_iret, e_zret, e_lret, e_vret, e_call0_0, e_call0_1, e_call0_2, e_call0_3, e_call0_4, e_call1_0, e_call1_1, e_call1_2, e_call1_3, e_call1_4, e_call2_0, e_call2_1, e_call2_2, e_call2_3, e_call2_4, e_call3_0, e_call3_1, e_call3_2, e_call3_3, e_call3_4, e_call4_0, e_call4_1, e_call4_2, e_call4_3, e_call4_4, e_call5_0, e_call5_1, e_call5_2, e_call5_3, e_call5_4, e_call6_0, e_call6_1, e_call6_2, e_call6_3, e_call6_4, xP, xld, xst1, xst2, xis2, xii, xid, xll, xlv, xls, xlc, xil, xli, xrd, xdup, xdup2, xc1, xpu, c_eq, c_ne, c_lt, c_ge, c_gt, c_le, Option.bind_some, Option.map_some, List.length_nil, List.length_cons, Nat.reduceAdd, Nat.reduceLeDiff, Int.reduceToNat, Bool.and_self, Bool.false_eq_true, if_true, if_false, o_m, g_m_0, g_m_1, g_m_2, g_m_3, g_m_4, g_m_5, g_m_6, g_m_7, g_m_8, g_m_9, g_m_10, g_m_11, g_m_12, g_m_13, g_m_14, g_m_15, g_m_16, g_m_17, g_m_18, g_m_19, g_m_20, g_m_21, p_m_3, p_m_7, p_m_8, p_m_11, p_m_13, p_m_15, p_m_16, p_m_17, p_m_18, p_m_21, p_m_5_0, p_m_5_1, r_m0, s_m0, r_m1, s_m1, r_m2, s_m2, r_m4, s_m4, r_m6, s_m6, r_m9, s_m9, r_m10, s_m10, r_m12, s_m12, r_m14, s_m14, r_m19, s_m19, r_m20, s_m20, decide_true, decide_false, Bool.true_and, Bool.false_and, Bool.and_true, Bool.and_false, zB_tt, zB_ff, not_false_eq_true, not_true_eq_false, n_lit, n_mul, nI_add, n_sub, x_in, nI_clamp, nI_ltI, nI_leI, nI_eq, and_self, true_and, and_true, h1, t_put, vu_s, vu_vu, wtA])
  simp only [wtA] at hl
  rw [hl, D124_77]
  simp (maxSteps := 2000000) (disch := omega) only [e_inl, e_goto, e_fall, e_if, e_icmp, e_iret, e_zret, e_lret, e_vret, e_call0_0, e_call0_1, e_call0_2, e_call0_3, e_call0_4, e_call1_0, e_call1_1, e_call1_2, e_call1_3, e_call1_4, e_call2_0, e_call2_1, e_call2_2, e_call2_3, e_call2_4, e_call3_0, e_call3_1, e_call3_2, e_call3_3, e_call3_4, e_call4_0, e_call4_1, e_call4_2, e_call4_3, e_call4_4, e_call5_0, e_call5_1, e_call5_2, e_call5_3, e_call5_4, e_call6_0, e_call6_1, e_call6_2, e_call6_3, e_call6_4, xP, xld, xst1, xst2, xis2, xii, xid, xll, xlv, xls, xlc, xil, xli, xrd, xdup, xdup2, xc1, xpu, c_eq, c_ne, c_lt, c_ge, c_gt, c_le, Option.bind_some, Option.map_some, List.length_nil, List.length_cons, Nat.reduceAdd, Nat.reduceLeDiff, Int.reduceToNat, Bool.and_self, Bool.false_eq_true, if_true, if_false, D124_100, o_m, g_m_0, g_m_1, g_m_2, g_m_3, g_m_4, g_m_5, g_m_6, g_m_7, g_m_8, g_m_9, g_m_10, g_m_11, g_m_12, g_m_13, g_m_14, g_m_15, g_m_16, g_m_17, g_m_18, g_m_19, g_m_20, g_m_21, p_m_3, p_m_7, p_m_8, p_m_11, p_m_13, p_m_15, p_m_16, p_m_17, p_m_18, p_m_21, p_m_5_0, p_m_5_1, r_m0, s_m0, r_m1, s_m1, r_m2, s_m2, r_m4, s_m4, r_m6, s_m6, r_m9, s_m9, r_m10, s_m10, r_m12, s_m12, r_m14, s_m14, r_m19, s_m19, r_m20, s_m20, decide_true, decide_false, Bool.true_and, Bool.false_and, Bool.and_true, Bool.and_false, zB_tt, zB_ff, not_false_eq_true, not_true_eq_false, n_lit, n_mul, nI_add, n_sub, x_in, nI_clamp, nI_ltI, nI_leI, nI_eq, and_self, true_and, and_true, Nat.le_refl, vu_s, vu_vu, t_empty, fldA, wtA]
end
end
section
/-! ===== the reference: ranges, weights, rounds, rules ===== -/
def isF (n : Nat) (x : Int32) : Bool := decide (nI 0 ≤ x) && decide (x ≤ nI n - nI 1)
def inB (x a b : Int32) : Bool := decide (a ≤ x) && decide (x ≤ b)
theorem isF_nat {n f : Nat} (h : f < n) (hn : n ≤ 1000) : isF n (nI f) = true := by
  unfold isF
  rw [n_sub (by omega), Bool.and_eq_true, decide_eq_true_eq, decide_eq_true_eq]
  exact ⟨(nI_leI (by omega) (by omega)).mpr (by omega), (nI_leI (by omega) (by omega)).mpr (by omega)⟩
theorem isF_of {n : Nat} {x : Int32} (hn : n ≤ 1000) (h : isF n x = true) : ∃ f, f < n ∧ x = nI f := by
  unfold isF at h
  rw [Bool.and_eq_true, decide_eq_true_eq, decide_eq_true_eq] at h
  obtain ⟨h1, h2⟩ := h
  cases n with
  | zero =>
    exfalso
    have h3 := Int32.le_trans h1 h2
    exact absurd h3 (by decide)
  | succ n =>
    rw [n_sub (by omega), Nat.add_sub_cancel] at h2
    obtain ⟨j, hj, e⟩ := nI_of2 (M := nI n) (n := n) (nI_toInt (by omega)) (Int32.not_lt.mpr h1) h2
    exact ⟨j, by omega, e⟩
theorem inB_nat {k a b : Nat} (h : a ≤ k) (h2 : k ≤ b) (h3 : b < 2 ^ 31) : inB (nI k) (nI a) (nI b) = true := by
  unfold inB
  rw [Bool.and_eq_true, decide_eq_true_eq, decide_eq_true_eq]
  exact ⟨(nI_leI (by omega) (by omega)).mpr h, (nI_leI (by omega) (by omega)).mpr h2⟩
theorem inB_of {x : Int32} {b : Nat} (hb : b < 2 ^ 31) (h : inB x (nI 0) (nI b) = true) : ∃ k, k ≤ b ∧ x = nI k := by
  unfold inB at h
  rw [Bool.and_eq_true, decide_eq_true_eq, decide_eq_true_eq] at h
  exact nI_of2 (M := nI b) (n := b) (nI_toInt hb) (Int32.not_lt.mpr h.1) h.2
section
variable {q : Nat × (Nat → Int32)} {S : Nat → xSt} {P : Int32 × (Nat → Nat)} {A : (Nat → Int64) × Int32 × Int32 × (Nat → Int64) × (Nat → Nat → Int64)} {D : (Nat → Int64) × Int64} {K : Nat → Int64} {X : Int32 × Int32 × Int32 × (Nat → Int32) × (Nat → Int32)} {E Z : Nat → Int32} {I : Nat → Int32} {J : Nat → Int64} {V : Nat → Nat → Int32}
theorem t_inB (h : xH) (v a b : Int32) : xcall 110 [.int v, .int a, .int b] h = some (some (.int (zB (inB v a b))), h) := t_in h v a b
theorem t_isF {n : Nat} (hn : V 0 0 = nI n) (x : Int32) : xcall 118 [.ref 163, .int x] (hp q S P A D K X E Z I J V) = some (some (.int (zB (isF n x))), (hp q S P A D K X E Z I J V)) := by
  rw [t_isField, hn]
  rfl
theorem t_isR {n : Nat} (hn : V 0 57 = nI n) (x : Int32) : xcall 119 [.ref 163, .int x] (hp q S P A D K X E Z I J V) = some (some (.int (zB (isF n x))), (hp q S P A D K X E Z I J V)) := by
  rw [t_isRule, hn]
  rfl
theorem t_doRange_bad {n : Nat} {f lo hi : Int32} (hn : V 0 0 = nI n) (h : (isF n f && (inB lo (nI 0) (nI 7) && inB hi lo (nI 7))) = false) : xcall 125 [.ref 163, .int f, .int lo, .int hi] (hp q S P A D K X E Z I J V) = some (some (.int (Int32.ofInt (-2))), (hp q S P A D K X E Z I J V)) := by
  rw [N125 _ _ _ _ _ (o_m ..)]
  cases h1 : isF n f
  · simp (maxSteps := 2000000) (disch := omega) only [e_inl, e_goto, e_fall, e_if, e_icmp, e_iret, e_zret, e_lret, e_vret, e_call0_0, e_call0_1, e_call0_2, e_call0_3, e_call0_4, e_call1_0, e_call1_1, e_call1_2, e_call1_3, e_call1_4, e_call2_0, e_call2_1, e_call2_2, e_call2_3, e_call2_4, e_call3_0, e_call3_1, e_call3_2, e_call3_3, e_call3_4, e_call4_0, e_call4_1, e_call4_2, e_call4_3, e_call4_4, e_call5_0, e_call5_1, e_call5_2, e_call5_3, e_call5_4, e_call6_0, e_call6_1, e_call6_2, e_call6_3, e_call6_4, xP, xld, xst1, xst2, xis2, xii, xid, xll, xlv, xls, xlc, xil, xli, xrd, xdup, xdup2, xc1, xpu, c_eq, c_ne, c_lt, c_ge, c_gt, c_le, Option.bind_some, Option.map_some, List.length_nil, List.length_cons, Nat.reduceAdd, Nat.reduceLeDiff, Int.reduceToNat, Bool.and_self, Bool.false_eq_true, if_true, if_false, D125_0, D125_28, o_m, g_m_0, g_m_1, g_m_2, g_m_3, g_m_4, g_m_5, g_m_6, g_m_7, g_m_8, g_m_9, g_m_10, g_m_11, g_m_12, g_m_13, g_m_14, g_m_15, g_m_16, g_m_17, g_m_18, g_m_19, g_m_20, g_m_21, p_m_3, p_m_7, p_m_8, p_m_11, p_m_13, p_m_15, p_m_16, p_m_17, p_m_18, p_m_21, p_m_5_0, p_m_5_1, r_m0, s_m0, r_m1, s_m1, r_m2, s_m2, r_m4, s_m4, r_m6, s_m6, r_m9, s_m9, r_m10, s_m10, r_m12, s_m12, r_m14, s_m14, r_m19, s_m19, r_m20, s_m20, decide_true, decide_false, Bool.true_and, Bool.false_and, Bool.and_true, Bool.and_false, zB_tt, zB_ff, not_false_eq_true, not_true_eq_false, n_lit, n_mul, nI_add, n_sub, x_in, nI_clamp, nI_ltI, nI_leI, nI_eq, and_self, true_and, and_true, t_isF hn, t_inB, h1, n_0]
  · cases h2 : inB lo (nI 0) (nI 7)
    · simp (maxSteps := 2000000) (disch := omega) only [e_inl, e_goto, e_fall, e_if, e_icmp, e_iret, e_zret, e_lret, e_vret, e_call0_0, e_call0_1, e_call0_2, e_call0_3, e_call0_4, e_call1_0, e_call1_1, e_call1_2, e_call1_3, e_call1_4, e_call2_0, e_call2_1, e_call2_2, e_call2_3, e_call2_4, e_call3_0, e_call3_1, e_call3_2, e_call3_3, e_call3_4, e_call4_0, e_call4_1, e_call4_2, e_call4_3, e_call4_4, e_call5_0, e_call5_1, e_call5_2, e_call5_3, e_call5_4, e_call6_0, e_call6_1, e_call6_2, e_call6_3, e_call6_4, xP, xld, xst1, xst2, xis2, xii, xid, xll, xlv, xls, xlc, xil, xli, xrd, xdup, xdup2, xc1, xpu, c_eq, c_ne, c_lt, c_ge, c_gt, c_le, Option.bind_some, Option.map_some, List.length_nil, List.length_cons, Nat.reduceAdd, Nat.reduceLeDiff, Int.reduceToNat, Bool.and_self, Bool.false_eq_true, if_true, if_false, D125_0, D125_28, o_m, g_m_0, g_m_1, g_m_2, g_m_3, g_m_4, g_m_5, g_m_6, g_m_7, g_m_8, g_m_9, g_m_10, g_m_11, g_m_12, g_m_13, g_m_14, g_m_15, g_m_16, g_m_17, g_m_18, g_m_19, g_m_20, g_m_21, p_m_3, p_m_7, p_m_8, p_m_11, p_m_13, p_m_15, p_m_16, p_m_17, p_m_18, p_m_21, p_m_5_0, p_m_5_1, r_m0, s_m0, r_m1, s_m1, r_m2, s_m2, r_m4, s_m4, r_m6, s_m6, r_m9, s_m9, r_m10, s_m10, r_m12, s_m12, r_m14, s_m14, r_m19, s_m19, r_m20, s_m20, decide_true, decide_false, Bool.true_and, Bool.false_and, Bool.and_true, Bool.and_false, zB_tt, zB_ff, not_false_eq_true, not_true_eq_false, n_lit, n_mul, nI_add, n_sub, x_in, nI_clamp, nI_ltI, nI_leI, nI_eq, and_self, true_and, and_true, t_isF hn, t_inB, h1, h2, n_0, Nat.one_ne_zero]
    · cases h3 : inB hi lo (nI 7)
      · simp (maxSteps := 2000000) (disch := omega) only [e_inl, e_goto, e_fall, e_if, e_icmp, e_iret, e_zret, e_lret, e_vret, e_call0_0, e_call0_1, e_call0_2, e_call0_3, e_call0_4, e_call1_0, e_call1_1, e_call1_2, e_call1_3, e_call1_4, e_call2_0, e_call2_1, e_call2_2, e_call2_3, e_call2_4, e_call3_0, e_call3_1, e_call3_2, e_call3_3, e_call3_4, e_call4_0, e_call4_1, e_call4_2, e_call4_3, e_call4_4, e_call5_0, e_call5_1, e_call5_2, e_call5_3, e_call5_4, e_call6_0, e_call6_1, e_call6_2, e_call6_3, e_call6_4, xP, xld, xst1, xst2, xis2, xii, xid, xll, xlv, xls, xlc, xil, xli, xrd, xdup, xdup2, xc1, xpu, c_eq, c_ne, c_lt, c_ge, c_gt, c_le, Option.bind_some, Option.map_some, List.length_nil, List.length_cons, Nat.reduceAdd, Nat.reduceLeDiff, Int.reduceToNat, Bool.and_self, Bool.false_eq_true, if_true, if_false, D125_0, D125_28, o_m, g_m_0, g_m_1, g_m_2, g_m_3, g_m_4, g_m_5, g_m_6, g_m_7, g_m_8, g_m_9, g_m_10, g_m_11, g_m_12, g_m_13, g_m_14, g_m_15, g_m_16, g_m_17, g_m_18, g_m_19, g_m_20, g_m_21, p_m_3, p_m_7, p_m_8, p_m_11, p_m_13, p_m_15, p_m_16, p_m_17, p_m_18, p_m_21, p_m_5_0, p_m_5_1, r_m0, s_m0, r_m1, s_m1, r_m2, s_m2, r_m4, s_m4, r_m6, s_m6, r_m9, s_m9, r_m10, s_m10, r_m12, s_m12, r_m14, s_m14, r_m19, s_m19, r_m20, s_m20, decide_true, decide_false, Bool.true_and, Bool.false_and, Bool.and_true, Bool.and_false, zB_tt, zB_ff, not_false_eq_true, not_true_eq_false, n_lit, n_mul, nI_add, n_sub, x_in, nI_clamp, nI_ltI, nI_leI, nI_eq, and_self, true_and, and_true, t_isF hn, t_inB, h1, h2, h3, n_0, Nat.one_ne_zero]
      · rw [h1, h2, h3] at h
        cases h
theorem t_doRange_ok {n f l h : Nat} (hn : V 0 0 = nI n) (hf : f < n) (hn4 : n ≤ 4) (h1 : l ≤ h) (h2 : h ≤ 7) : xcall 125 [.ref 163, .int (nI f), .int (nI l), .int (nI h)] (hp q S P A D K X E Z I J V) = some (some (.int (nI (h - l + 1))), (hp q S P A D K X E Z (upd I 5 (nI 0)) J (vf_upd V 0 (upd (empA (upd (upd (V 0) (1 + 13 * f + 0) (nI l)) (1 + 13 * f + 1) (nI h)) 4) 98 (nI 0))))) := by
  rw [N125 _ _ _ _ _ (o_m ..)]
  simp (maxSteps := 2000000) (disch := omega) only [e_inl, e_goto, e_fall, e_if, e_icmp, e_iret, e_zret, e_lret, e_vret, e_call0_0, e_call0_1, e_call0_2, e_call0_3, e_call0_4, e_call1_0, e_call1_1, e_call1_2, e_call1_3, e_call1_4, e_call2_0, e_call2_1, e_call2_2, e_call2_3, e_call2_4, e_call3_0, e_call3_1, e_call3_2, e_call3_3, e_call3_4, e_call4_0, e_call4_1, e_call4_2, e_call4_3, e_call4_4, e_call5_0, e_call5_1, e_call5_2, e_call5_3, e_call5_4, e_call6_0, e_call6_1, e_call6_2, e_call6_3, e_call6_4, xP, xld, xst1, xst2, xis2, xii, xid, xll, xlv, xls, xlc, xil, xli, xrd, xdup, xdup2, xc1, xpu, c_eq, c_ne, c_lt, c_ge, c_gt, c_le, Option.bind_some, Option.map_some, List.length_nil, List.length_cons, Nat.reduceAdd, Nat.reduceLeDiff, Int.reduceToNat, Bool.and_self, Bool.false_eq_true, if_true, if_false, D125_0, D125_28, D125_31, o_m, g_m_0, g_m_1, g_m_2, g_m_3, g_m_4, g_m_5, g_m_6, g_m_7, g_m_8, g_m_9, g_m_10, g_m_11, g_m_12, g_m_13, g_m_14, g_m_15, g_m_16, g_m_17, g_m_18, g_m_19, g_m_20, g_m_21, p_m_3, p_m_7, p_m_8, p_m_11, p_m_13, p_m_15, p_m_16, p_m_17, p_m_18, p_m_21, p_m_5_0, p_m_5_1, r_m0, s_m0, r_m1, s_m1, r_m2, s_m2, r_m4, s_m4, r_m6, s_m6, r_m9, s_m9, r_m10, s_m10, r_m12, s_m12, r_m14, s_m14, r_m19, s_m19, r_m20, s_m20, decide_true, decide_false, Bool.true_and, Bool.false_and, Bool.and_true, Bool.and_false, zB_tt, zB_ff, not_false_eq_true, not_true_eq_false, n_lit, n_mul, nI_add, n_sub, x_in, nI_clamp, nI_ltI, nI_leI, nI_eq, and_self, true_and, and_true, t_isF hn, t_inB, isF_nat hf (by omega), inB_nat (Nat.zero_le l) (Nat.le_trans h1 h2) (by decide), inB_nat h1 h2 (by decide), n_0, Nat.one_ne_zero, t_put, t_empty, vu_s, vu_vu]
theorem t_doWeighs_bad {n : Nat} {f v w : Int32} (hn : V 0 0 = nI n) (h : (isF n f && (inB v (nI 0) (nI 7) && inB w (nI 0) (nI 9))) = false) : xcall 126 [.ref 163, .int f, .int v, .int w] (hp q S P A D K X E Z I J V) = some (some (.int (Int32.ofInt (-2))), (hp q S P A D K X E Z I J V)) := by
  rw [N126 _ _ _ _ _ (o_m ..)]
  cases h1 : isF n f
  · simp (maxSteps := 2000000) (disch := omega) only [e_inl, e_goto, e_fall, e_if, e_icmp, e_iret, e_zret, e_lret, e_vret, e_call0_0, e_call0_1, e_call0_2, e_call0_3, e_call0_4, e_call1_0, e_call1_1, e_call1_2, e_call1_3, e_call1_4, e_call2_0, e_call2_1, e_call2_2, e_call2_3, e_call2_4, e_call3_0, e_call3_1, e_call3_2, e_call3_3, e_call3_4, e_call4_0, e_call4_1, e_call4_2, e_call4_3, e_call4_4, e_call5_0, e_call5_1, e_call5_2, e_call5_3, e_call5_4, e_call6_0, e_call6_1, e_call6_2, e_call6_3, e_call6_4, xP, xld, xst1, xst2, xis2, xii, xid, xll, xlv, xls, xlc, xil, xli, xrd, xdup, xdup2, xc1, xpu, c_eq, c_ne, c_lt, c_ge, c_gt, c_le, Option.bind_some, Option.map_some, List.length_nil, List.length_cons, Nat.reduceAdd, Nat.reduceLeDiff, Int.reduceToNat, Bool.and_self, Bool.false_eq_true, if_true, if_false, D126_0, D126_28, o_m, g_m_0, g_m_1, g_m_2, g_m_3, g_m_4, g_m_5, g_m_6, g_m_7, g_m_8, g_m_9, g_m_10, g_m_11, g_m_12, g_m_13, g_m_14, g_m_15, g_m_16, g_m_17, g_m_18, g_m_19, g_m_20, g_m_21, p_m_3, p_m_7, p_m_8, p_m_11, p_m_13, p_m_15, p_m_16, p_m_17, p_m_18, p_m_21, p_m_5_0, p_m_5_1, r_m0, s_m0, r_m1, s_m1, r_m2, s_m2, r_m4, s_m4, r_m6, s_m6, r_m9, s_m9, r_m10, s_m10, r_m12, s_m12, r_m14, s_m14, r_m19, s_m19, r_m20, s_m20, decide_true, decide_false, Bool.true_and, Bool.false_and, Bool.and_true, Bool.and_false, zB_tt, zB_ff, not_false_eq_true, not_true_eq_false, n_lit, n_mul, nI_add, n_sub, x_in, nI_clamp, nI_ltI, nI_leI, nI_eq, and_self, true_and, and_true, t_isF hn, t_inB, h1, n_0]
  · cases h2 : inB v (nI 0) (nI 7)
    · simp (maxSteps := 2000000) (disch := omega) only [e_inl, e_goto, e_fall, e_if, e_icmp, e_iret, e_zret, e_lret, e_vret, e_call0_0, e_call0_1, e_call0_2, e_call0_3, e_call0_4, e_call1_0, e_call1_1, e_call1_2, e_call1_3, e_call1_4, e_call2_0, e_call2_1, e_call2_2, e_call2_3, e_call2_4, e_call3_0, e_call3_1, e_call3_2, e_call3_3, e_call3_4, e_call4_0, e_call4_1, e_call4_2, e_call4_3, e_call4_4, e_call5_0, e_call5_1, e_call5_2, e_call5_3, e_call5_4, e_call6_0, e_call6_1, e_call6_2, e_call6_3, e_call6_4, xP, xld, xst1, xst2, xis2, xii, xid, xll, xlv, xls, xlc, xil, xli, xrd, xdup, xdup2, xc1, xpu, c_eq, c_ne, c_lt, c_ge, c_gt, c_le, Option.bind_some, Option.map_some, List.length_nil, List.length_cons, Nat.reduceAdd, Nat.reduceLeDiff, Int.reduceToNat, Bool.and_self, Bool.false_eq_true, if_true, if_false, D126_0, D126_28, o_m, g_m_0, g_m_1, g_m_2, g_m_3, g_m_4, g_m_5, g_m_6, g_m_7, g_m_8, g_m_9, g_m_10, g_m_11, g_m_12, g_m_13, g_m_14, g_m_15, g_m_16, g_m_17, g_m_18, g_m_19, g_m_20, g_m_21, p_m_3, p_m_7, p_m_8, p_m_11, p_m_13, p_m_15, p_m_16, p_m_17, p_m_18, p_m_21, p_m_5_0, p_m_5_1, r_m0, s_m0, r_m1, s_m1, r_m2, s_m2, r_m4, s_m4, r_m6, s_m6, r_m9, s_m9, r_m10, s_m10, r_m12, s_m12, r_m14, s_m14, r_m19, s_m19, r_m20, s_m20, decide_true, decide_false, Bool.true_and, Bool.false_and, Bool.and_true, Bool.and_false, zB_tt, zB_ff, not_false_eq_true, not_true_eq_false, n_lit, n_mul, nI_add, n_sub, x_in, nI_clamp, nI_ltI, nI_leI, nI_eq, and_self, true_and, and_true, t_isF hn, t_inB, h1, h2, n_0, Nat.one_ne_zero]
    · cases h3 : inB w (nI 0) (nI 9)
      · simp (maxSteps := 2000000) (disch := omega) only [e_inl, e_goto, e_fall, e_if, e_icmp, e_iret, e_zret, e_lret, e_vret, e_call0_0, e_call0_1, e_call0_2, e_call0_3, e_call0_4, e_call1_0, e_call1_1, e_call1_2, e_call1_3, e_call1_4, e_call2_0, e_call2_1, e_call2_2, e_call2_3, e_call2_4, e_call3_0, e_call3_1, e_call3_2, e_call3_3, e_call3_4, e_call4_0, e_call4_1, e_call4_2, e_call4_3, e_call4_4, e_call5_0, e_call5_1, e_call5_2, e_call5_3, e_call5_4, e_call6_0, e_call6_1, e_call6_2, e_call6_3, e_call6_4, xP, xld, xst1, xst2, xis2, xii, xid, xll, xlv, xls, xlc, xil, xli, xrd, xdup, xdup2, xc1, xpu, c_eq, c_ne, c_lt, c_ge, c_gt, c_le, Option.bind_some, Option.map_some, List.length_nil, List.length_cons, Nat.reduceAdd, Nat.reduceLeDiff, Int.reduceToNat, Bool.and_self, Bool.false_eq_true, if_true, if_false, D126_0, D126_28, o_m, g_m_0, g_m_1, g_m_2, g_m_3, g_m_4, g_m_5, g_m_6, g_m_7, g_m_8, g_m_9, g_m_10, g_m_11, g_m_12, g_m_13, g_m_14, g_m_15, g_m_16, g_m_17, g_m_18, g_m_19, g_m_20, g_m_21, p_m_3, p_m_7, p_m_8, p_m_11, p_m_13, p_m_15, p_m_16, p_m_17, p_m_18, p_m_21, p_m_5_0, p_m_5_1, r_m0, s_m0, r_m1, s_m1, r_m2, s_m2, r_m4, s_m4, r_m6, s_m6, r_m9, s_m9, r_m10, s_m10, r_m12, s_m12, r_m14, s_m14, r_m19, s_m19, r_m20, s_m20, decide_true, decide_false, Bool.true_and, Bool.false_and, Bool.and_true, Bool.and_false, zB_tt, zB_ff, not_false_eq_true, not_true_eq_false, n_lit, n_mul, nI_add, n_sub, x_in, nI_clamp, nI_ltI, nI_leI, nI_eq, and_self, true_and, and_true, t_isF hn, t_inB, h1, h2, h3, n_0, Nat.one_ne_zero]
      · rw [h1, h2, h3] at h
        cases h
theorem t_doWeighs_ok {n f v w : Nat} (hn : V 0 0 = nI n) (hf : f < n) (hn4 : n ≤ 4) (h1 : v ≤ 7) (h2 : w ≤ 9) : xcall 126 [.ref 163, .int (nI f), .int (nI v), .int (nI w)] (hp q S P A D K X E Z I J V) = some (some (.int (V 0 (1 + 13 * f + (5 + v)))), (hp q S P A D K X E Z I J (vf_upd V 0 (upd (V 0) (1 + 13 * f + (5 + v)) (nI w))))) := by
  rw [N126 _ _ _ _ _ (o_m ..)]
  simp (maxSteps := 2000000) (disch := omega) only [e_inl, e_goto, e_fall, e_if, e_icmp, e_iret, e_zret, e_lret, e_vret, e_call0_0, e_call0_1, e_call0_2, e_call0_3, e_call0_4, e_call1_0, e_call1_1, e_call1_2, e_call1_3, e_call1_4, e_call2_0, e_call2_1, e_call2_2, e_call2_3, e_call2_4, e_call3_0, e_call3_1, e_call3_2, e_call3_3, e_call3_4, e_call4_0, e_call4_1, e_call4_2, e_call4_3, e_call4_4, e_call5_0, e_call5_1, e_call5_2, e_call5_3, e_call5_4, e_call6_0, e_call6_1, e_call6_2, e_call6_3, e_call6_4, xP, xld, xst1, xst2, xis2, xii, xid, xll, xlv, xls, xlc, xil, xli, xrd, xdup, xdup2, xc1, xpu, c_eq, c_ne, c_lt, c_ge, c_gt, c_le, Option.bind_some, Option.map_some, List.length_nil, List.length_cons, Nat.reduceAdd, Nat.reduceLeDiff, Int.reduceToNat, Bool.and_self, Bool.false_eq_true, if_true, if_false, D126_0, D126_28, D126_31, o_m, g_m_0, g_m_1, g_m_2, g_m_3, g_m_4, g_m_5, g_m_6, g_m_7, g_m_8, g_m_9, g_m_10, g_m_11, g_m_12, g_m_13, g_m_14, g_m_15, g_m_16, g_m_17, g_m_18, g_m_19, g_m_20, g_m_21, p_m_3, p_m_7, p_m_8, p_m_11, p_m_13, p_m_15, p_m_16, p_m_17, p_m_18, p_m_21, p_m_5_0, p_m_5_1, r_m0, s_m0, r_m1, s_m1, r_m2, s_m2, r_m4, s_m4, r_m6, s_m6, r_m9, s_m9, r_m10, s_m10, r_m12, s_m12, r_m14, s_m14, r_m19, s_m19, r_m20, s_m20, decide_true, decide_false, Bool.true_and, Bool.false_and, Bool.and_true, Bool.and_false, zB_tt, zB_ff, not_false_eq_true, not_true_eq_false, n_lit, n_mul, nI_add, n_sub, x_in, nI_clamp, nI_ltI, nI_leI, nI_eq, and_self, true_and, and_true, t_isF hn, t_inB, isF_nat hf (by omega), inB_nat (Nat.zero_le v) h1 (by decide), inB_nat (Nat.zero_le w) h2 (by decide), n_0, Nat.one_ne_zero, t_put, t_ofField, vu_s, vu_vu]
theorem t_doRound_bad {n : Nat} {f z : Int32} (hn : V 0 0 = nI n) (h : (isF n f && inB z (nI 0) (nI 1)) = false) : xcall 127 [.ref 163, .int f, .int z] (hp q S P A D K X E Z I J V) = some (some (.int (Int32.ofInt (-2))), (hp q S P A D K X E Z I J V)) := by
  rw [N127 _ _ _ _ (o_m ..)]
  cases h1 : isF n f
  · simp (maxSteps := 2000000) (disch := omega) only [e_inl, e_goto, e_fall, e_if, e_icmp, e_iret, e_zret, e_lret, e_vret, e_call0_0, e_call0_1, e_call0_2, e_call0_3, e_call0_4, e_call1_0, e_call1_1, e_call1_2, e_call1_3, e_call1_4, e_call2_0, e_call2_1, e_call2_2, e_call2_3, e_call2_4, e_call3_0, e_call3_1, e_call3_2, e_call3_3, e_call3_4, e_call4_0, e_call4_1, e_call4_2, e_call4_3, e_call4_4, e_call5_0, e_call5_1, e_call5_2, e_call5_3, e_call5_4, e_call6_0, e_call6_1, e_call6_2, e_call6_3, e_call6_4, xP, xld, xst1, xst2, xis2, xii, xid, xll, xlv, xls, xlc, xil, xli, xrd, xdup, xdup2, xc1, xpu, c_eq, c_ne, c_lt, c_ge, c_gt, c_le, Option.bind_some, Option.map_some, List.length_nil, List.length_cons, Nat.reduceAdd, Nat.reduceLeDiff, Int.reduceToNat, Bool.and_self, Bool.false_eq_true, if_true, if_false, D127_0, D127_17, o_m, g_m_0, g_m_1, g_m_2, g_m_3, g_m_4, g_m_5, g_m_6, g_m_7, g_m_8, g_m_9, g_m_10, g_m_11, g_m_12, g_m_13, g_m_14, g_m_15, g_m_16, g_m_17, g_m_18, g_m_19, g_m_20, g_m_21, p_m_3, p_m_7, p_m_8, p_m_11, p_m_13, p_m_15, p_m_16, p_m_17, p_m_18, p_m_21, p_m_5_0, p_m_5_1, r_m0, s_m0, r_m1, s_m1, r_m2, s_m2, r_m4, s_m4, r_m6, s_m6, r_m9, s_m9, r_m10, s_m10, r_m12, s_m12, r_m14, s_m14, r_m19, s_m19, r_m20, s_m20, decide_true, decide_false, Bool.true_and, Bool.false_and, Bool.and_true, Bool.and_false, zB_tt, zB_ff, not_false_eq_true, not_true_eq_false, n_lit, n_mul, nI_add, n_sub, x_in, nI_clamp, nI_ltI, nI_leI, nI_eq, and_self, true_and, and_true, t_isF hn, t_inB, h1, n_0]
  · cases h2 : inB z (nI 0) (nI 1)
    · simp (maxSteps := 2000000) (disch := omega) only [e_inl, e_goto, e_fall, e_if, e_icmp, e_iret, e_zret, e_lret, e_vret, e_call0_0, e_call0_1, e_call0_2, e_call0_3, e_call0_4, e_call1_0, e_call1_1, e_call1_2, e_call1_3, e_call1_4, e_call2_0, e_call2_1, e_call2_2, e_call2_3, e_call2_4, e_call3_0, e_call3_1, e_call3_2, e_call3_3, e_call3_4, e_call4_0, e_call4_1, e_call4_2, e_call4_3, e_call4_4, e_call5_0, e_call5_1, e_call5_2, e_call5_3, e_call5_4, e_call6_0, e_call6_1, e_call6_2, e_call6_3, e_call6_4, xP, xld, xst1, xst2, xis2, xii, xid, xll, xlv, xls, xlc, xil, xli, xrd, xdup, xdup2, xc1, xpu, c_eq, c_ne, c_lt, c_ge, c_gt, c_le, Option.bind_some, Option.map_some, List.length_nil, List.length_cons, Nat.reduceAdd, Nat.reduceLeDiff, Int.reduceToNat, Bool.and_self, Bool.false_eq_true, if_true, if_false, D127_0, D127_17, o_m, g_m_0, g_m_1, g_m_2, g_m_3, g_m_4, g_m_5, g_m_6, g_m_7, g_m_8, g_m_9, g_m_10, g_m_11, g_m_12, g_m_13, g_m_14, g_m_15, g_m_16, g_m_17, g_m_18, g_m_19, g_m_20, g_m_21, p_m_3, p_m_7, p_m_8, p_m_11, p_m_13, p_m_15, p_m_16, p_m_17, p_m_18, p_m_21, p_m_5_0, p_m_5_1, r_m0, s_m0, r_m1, s_m1, r_m2, s_m2, r_m4, s_m4, r_m6, s_m6, r_m9, s_m9, r_m10, s_m10, r_m12, s_m12, r_m14, s_m14, r_m19, s_m19, r_m20, s_m20, decide_true, decide_false, Bool.true_and, Bool.false_and, Bool.and_true, Bool.and_false, zB_tt, zB_ff, not_false_eq_true, not_true_eq_false, n_lit, n_mul, nI_add, n_sub, x_in, nI_clamp, nI_ltI, nI_leI, nI_eq, and_self, true_and, and_true, t_isF hn, t_inB, h1, h2, n_0, Nat.one_ne_zero]
    · rw [h1, h2] at h
      cases h
theorem t_doRound_ok {n f z : Nat} (hn : V 0 0 = nI n) (hf : f < n) (hn4 : n ≤ 4) (h1 : z ≤ 1) : xcall 127 [.ref 163, .int (nI f), .int (nI z)] (hp q S P A D K X E Z I J V) = some (some (.int (V 0 (1 + 13 * f + 2))), (hp q S P A D K X E Z I J (vf_upd V 0 (upd (upd (V 0) (1 + 13 * f + 2) (nI z)) (1 + 13 * f + 3) (nI 0))))) := by
  rw [N127 _ _ _ _ (o_m ..)]
  simp (maxSteps := 2000000) (disch := omega) only [e_inl, e_goto, e_fall, e_if, e_icmp, e_iret, e_zret, e_lret, e_vret, e_call0_0, e_call0_1, e_call0_2, e_call0_3, e_call0_4, e_call1_0, e_call1_1, e_call1_2, e_call1_3, e_call1_4, e_call2_0, e_call2_1, e_call2_2, e_call2_3, e_call2_4, e_call3_0, e_call3_1, e_call3_2, e_call3_3, e_call3_4, e_call4_0, e_call4_1, e_call4_2, e_call4_3, e_call4_4, e_call5_0, e_call5_1, e_call5_2, e_call5_3, e_call5_4, e_call6_0, e_call6_1, e_call6_2, e_call6_3, e_call6_4, xP, xld, xst1, xst2, xis2, xii, xid, xll, xlv, xls, xlc, xil, xli, xrd, xdup, xdup2, xc1, xpu, c_eq, c_ne, c_lt, c_ge, c_gt, c_le, Option.bind_some, Option.map_some, List.length_nil, List.length_cons, Nat.reduceAdd, Nat.reduceLeDiff, Int.reduceToNat, Bool.and_self, Bool.false_eq_true, if_true, if_false, D127_0, D127_17, D127_20, o_m, g_m_0, g_m_1, g_m_2, g_m_3, g_m_4, g_m_5, g_m_6, g_m_7, g_m_8, g_m_9, g_m_10, g_m_11, g_m_12, g_m_13, g_m_14, g_m_15, g_m_16, g_m_17, g_m_18, g_m_19, g_m_20, g_m_21, p_m_3, p_m_7, p_m_8, p_m_11, p_m_13, p_m_15, p_m_16, p_m_17, p_m_18, p_m_21, p_m_5_0, p_m_5_1, r_m0, s_m0, r_m1, s_m1, r_m2, s_m2, r_m4, s_m4, r_m6, s_m6, r_m9, s_m9, r_m10, s_m10, r_m12, s_m12, r_m14, s_m14, r_m19, s_m19, r_m20, s_m20, decide_true, decide_false, Bool.true_and, Bool.false_and, Bool.and_true, Bool.and_false, zB_tt, zB_ff, not_false_eq_true, not_true_eq_false, n_lit, n_mul, nI_add, n_sub, x_in, nI_clamp, nI_ltI, nI_leI, nI_eq, and_self, true_and, and_true, t_isF hn, t_inB, isF_nat hf (by omega), inB_nat (Nat.zero_le z) h1 (by decide), n_0, Nat.one_ne_zero, t_put, t_ofField, vu_s, vu_vu]
/-- the most that c may be -/
def mostN (k : Nat) : Nat := match k with
  | 0 => 14
  | 3 => 255
  | 4 => 63
  | 5 => 7
  | _ => 0
theorem t_mostOf {k : Nat} (hk : k ≤ 5) (h : xH) : xcall 128 [.int (nI k)] h = some (some (.int (nI (mostN k))), h) := by
  rw [N128]
  match k, hk with
  | 0, _ => simp (maxSteps := 2000000) (disch := omega) only [e_inl, e_goto, e_fall, e_if, e_icmp, e_iret, e_zret, e_lret, e_vret, e_call0_0, e_call0_1, e_call0_2, e_call0_3, e_call0_4, e_call1_0, e_call1_1, e_call1_2, e_call1_3, e_call1_4, e_call2_0, e_call2_1, e_call2_2, e_call2_3, e_call2_4, e_call3_0, e_call3_1, e_call3_2, e_call3_3, e_call3_4, e_call4_0, e_call4_1, e_call4_2, e_call4_3, e_call4_4, e_call5_0, e_call5_1, e_call5_2, e_call5_3, e_call5_4, e_call6_0, e_call6_1, e_call6_2, e_call6_3, e_call6_4, xP, xld, xst1, xst2, xis2, xii, xid, xll, xlv, xls, xlc, xil, xli, xrd, xdup, xdup2, xc1, xpu, c_eq, c_ne, c_lt, c_ge, c_gt, c_le, Option.bind_some, Option.map_some, List.length_nil, List.length_cons, Nat.reduceAdd, Nat.reduceLeDiff, Int.reduceToNat, Bool.and_self, Bool.false_eq_true, if_true, if_false, D128_0, D128_9, D128_20, D128_30, D128_40, D128_41, decide_true, decide_false, Bool.true_and, Bool.false_and, Bool.and_true, Bool.and_false, zB_tt, zB_ff, not_false_eq_true, not_true_eq_false, n_lit, n_mul, nI_add, n_sub, x_in, nI_clamp, nI_ltI, nI_leI, nI_eq, and_self, true_and, and_true, n_0, mostN]
  | 1, _ => simp (maxSteps := 2000000) (disch := omega) only [e_inl, e_goto, e_fall, e_if, e_icmp, e_iret, e_zret, e_lret, e_vret, e_call0_0, e_call0_1, e_call0_2, e_call0_3, e_call0_4, e_call1_0, e_call1_1, e_call1_2, e_call1_3, e_call1_4, e_call2_0, e_call2_1, e_call2_2, e_call2_3, e_call2_4, e_call3_0, e_call3_1, e_call3_2, e_call3_3, e_call3_4, e_call4_0, e_call4_1, e_call4_2, e_call4_3, e_call4_4, e_call5_0, e_call5_1, e_call5_2, e_call5_3, e_call5_4, e_call6_0, e_call6_1, e_call6_2, e_call6_3, e_call6_4, xP, xld, xst1, xst2, xis2, xii, xid, xll, xlv, xls, xlc, xil, xli, xrd, xdup, xdup2, xc1, xpu, c_eq, c_ne, c_lt, c_ge, c_gt, c_le, Option.bind_some, Option.map_some, List.length_nil, List.length_cons, Nat.reduceAdd, Nat.reduceLeDiff, Int.reduceToNat, Bool.and_self, Bool.false_eq_true, if_true, if_false, D128_0, D128_9, D128_20, D128_30, D128_40, D128_41, decide_true, decide_false, Bool.true_and, Bool.false_and, Bool.and_true, Bool.and_false, zB_tt, zB_ff, not_false_eq_true, not_true_eq_false, n_lit, n_mul, nI_add, n_sub, x_in, nI_clamp, nI_ltI, nI_leI, nI_eq, and_self, true_and, and_true, n_0, mostN, Nat.reduceEqDiff]
  | 2, _ => simp (maxSteps := 2000000) (disch := omega) only [e_inl, e_goto, e_fall, e_if, e_icmp, e_iret, e_zret, e_lret, e_vret, e_call0_0, e_call0_1, e_call0_2, e_call0_3, e_call0_4, e_call1_0, e_call1_1, e_call1_2, e_call1_3, e_call1_4, e_call2_0, e_call2_1, e_call2_2, e_call2_3, e_call2_4, e_call3_0, e_call3_1, e_call3_2, e_call3_3, e_call3_4, e_call4_0, e_call4_1, e_call4_2, e_call4_3, e_call4_4, e_call5_0, e_call5_1, e_call5_2, e_call5_3, e_call5_4, e_call6_0, e_call6_1, e_call6_2, e_call6_3, e_call6_4, xP, xld, xst1, xst2, xis2, xii, xid, xll, xlv, xls, xlc, xil, xli, xrd, xdup, xdup2, xc1, xpu, c_eq, c_ne, c_lt, c_ge, c_gt, c_le, Option.bind_some, Option.map_some, List.length_nil, List.length_cons, Nat.reduceAdd, Nat.reduceLeDiff, Int.reduceToNat, Bool.and_self, Bool.false_eq_true, if_true, if_false, D128_0, D128_9, D128_20, D128_30, D128_40, D128_41, decide_true, decide_false, Bool.true_and, Bool.false_and, Bool.and_true, Bool.and_false, zB_tt, zB_ff, not_false_eq_true, not_true_eq_false, n_lit, n_mul, nI_add, n_sub, x_in, nI_clamp, nI_ltI, nI_leI, nI_eq, and_self, true_and, and_true, n_0, mostN, Nat.reduceEqDiff]
  | 3, _ => simp (maxSteps := 2000000) (disch := omega) only [e_inl, e_goto, e_fall, e_if, e_icmp, e_iret, e_zret, e_lret, e_vret, e_call0_0, e_call0_1, e_call0_2, e_call0_3, e_call0_4, e_call1_0, e_call1_1, e_call1_2, e_call1_3, e_call1_4, e_call2_0, e_call2_1, e_call2_2, e_call2_3, e_call2_4, e_call3_0, e_call3_1, e_call3_2, e_call3_3, e_call3_4, e_call4_0, e_call4_1, e_call4_2, e_call4_3, e_call4_4, e_call5_0, e_call5_1, e_call5_2, e_call5_3, e_call5_4, e_call6_0, e_call6_1, e_call6_2, e_call6_3, e_call6_4, xP, xld, xst1, xst2, xis2, xii, xid, xll, xlv, xls, xlc, xil, xli, xrd, xdup, xdup2, xc1, xpu, c_eq, c_ne, c_lt, c_ge, c_gt, c_le, Option.bind_some, Option.map_some, List.length_nil, List.length_cons, Nat.reduceAdd, Nat.reduceLeDiff, Int.reduceToNat, Bool.and_self, Bool.false_eq_true, if_true, if_false, D128_0, D128_9, D128_20, D128_30, D128_40, D128_41, decide_true, decide_false, Bool.true_and, Bool.false_and, Bool.and_true, Bool.and_false, zB_tt, zB_ff, not_false_eq_true, not_true_eq_false, n_lit, n_mul, nI_add, n_sub, x_in, nI_clamp, nI_ltI, nI_leI, nI_eq, and_self, true_and, and_true, n_0, mostN, Nat.reduceEqDiff]
  | 4, _ => simp (maxSteps := 2000000) (disch := omega) only [e_inl, e_goto, e_fall, e_if, e_icmp, e_iret, e_zret, e_lret, e_vret, e_call0_0, e_call0_1, e_call0_2, e_call0_3, e_call0_4, e_call1_0, e_call1_1, e_call1_2, e_call1_3, e_call1_4, e_call2_0, e_call2_1, e_call2_2, e_call2_3, e_call2_4, e_call3_0, e_call3_1, e_call3_2, e_call3_3, e_call3_4, e_call4_0, e_call4_1, e_call4_2, e_call4_3, e_call4_4, e_call5_0, e_call5_1, e_call5_2, e_call5_3, e_call5_4, e_call6_0, e_call6_1, e_call6_2, e_call6_3, e_call6_4, xP, xld, xst1, xst2, xis2, xii, xid, xll, xlv, xls, xlc, xil, xli, xrd, xdup, xdup2, xc1, xpu, c_eq, c_ne, c_lt, c_ge, c_gt, c_le, Option.bind_some, Option.map_some, List.length_nil, List.length_cons, Nat.reduceAdd, Nat.reduceLeDiff, Int.reduceToNat, Bool.and_self, Bool.false_eq_true, if_true, if_false, D128_0, D128_9, D128_20, D128_30, D128_40, D128_41, decide_true, decide_false, Bool.true_and, Bool.false_and, Bool.and_true, Bool.and_false, zB_tt, zB_ff, not_false_eq_true, not_true_eq_false, n_lit, n_mul, nI_add, n_sub, x_in, nI_clamp, nI_ltI, nI_leI, nI_eq, and_self, true_and, and_true, n_0, mostN, Nat.reduceEqDiff]
  | 5, _ => simp (maxSteps := 2000000) (disch := omega) only [e_inl, e_goto, e_fall, e_if, e_icmp, e_iret, e_zret, e_lret, e_vret, e_call0_0, e_call0_1, e_call0_2, e_call0_3, e_call0_4, e_call1_0, e_call1_1, e_call1_2, e_call1_3, e_call1_4, e_call2_0, e_call2_1, e_call2_2, e_call2_3, e_call2_4, e_call3_0, e_call3_1, e_call3_2, e_call3_3, e_call3_4, e_call4_0, e_call4_1, e_call4_2, e_call4_3, e_call4_4, e_call5_0, e_call5_1, e_call5_2, e_call5_3, e_call5_4, e_call6_0, e_call6_1, e_call6_2, e_call6_3, e_call6_4, xP, xld, xst1, xst2, xis2, xii, xid, xll, xlv, xls, xlc, xil, xli, xrd, xdup, xdup2, xc1, xpu, c_eq, c_ne, c_lt, c_ge, c_gt, c_le, Option.bind_some, Option.map_some, List.length_nil, List.length_cons, Nat.reduceAdd, Nat.reduceLeDiff, Int.reduceToNat, Bool.and_self, Bool.false_eq_true, if_true, if_false, D128_0, D128_9, D128_20, D128_30, D128_40, D128_41, decide_true, decide_false, Bool.true_and, Bool.false_and, Bool.and_true, Bool.and_false, zB_tt, zB_ff, not_false_eq_true, not_true_eq_false, n_lit, n_mul, nI_add, n_sub, x_in, nI_clamp, nI_ltI, nI_leI, nI_eq, and_self, true_and, and_true, n_0, mostN, Nat.reduceEqDiff]
end
end
section
/-! ===== the reference: rules come and go, the order ===== -/
/-- a rule as told -/
def okU (n : Nat) (kd x y c rk : Int32) : Bool := inB kd (nI 0) (nI 5) && (isF n x && (isF n y && ((decide (x = y) == decide (kd = nI 3)) && (inB c (nI 0) (nI (mostN kd.toNatClampNeg)) && inB rk (Int32.ofInt (-1)) (nI 9)))))
theorem zB_eq (a b : Bool) : (zB a = zB b) = (a = b) := by cases a <;> cases b <;> simp [zB] <;> decide
section
variable {q : Nat × (Nat → Int32)} {S : Nat → xSt} {P : Int32 × (Nat → Nat)} {A : (Nat → Int64) × Int32 × Int32 × (Nat → Int64) × (Nat → Nat → Int64)} {D : (Nat → Int64) × Int64} {K : Nat → Int64} {X : Int32 × Int32 × Int32 × (Nat → Int32) × (Nat → Int32)} {E Z : Nat → Int32} {I : Nat → Int32} {J : Nat → Int64} {V : Nat → Nat → Int32}
theorem t_doRule_45 {k : Nat} {a6 : Option Value} {x y c rk : Int32} (hk : k ≤ 5) (b1 b2 : Bool) : den 129 45 [some (.ref 163), some (.int (nI k)), some (.int x), some (.int y), some (.int c), some (.int rk), a6] [.int (zB b2), .int (zB b1)] (hp q S P A D K X E Z I J V) = if ((b1 == b2) && (inB c (nI 0) (nI (mostN k)) && inB rk (Int32.ofInt (-1)) (nI 9))) = true then den 129 75 [some (.ref 163), some (.int (nI k)), some (.int x), some (.int y), some (.int c), some (.int rk), a6] [] (hp q S P A D K X E Z I J V) else some (some (.int (Int32.ofInt (-2))), (hp q S P A D K X E Z I J V)) := by
  rw [D129_45]
  cases h0 : (b1 == b2)
  · have h1 : ¬ b1 = b2 := fun e => by rw [e] at h0; simp at h0
    simp (maxSteps := 2000000) (disch := omega) only [e_inl, e_goto, e_fall, e_if, e_icmp, e_iret, e_zret, e_lret, e_vret, e_call0_0, e_call0_1, e_call0_2, e_call0_3, e_call0_4, e_call1_0, e_call1_1, e_call1_2, e_call1_3, e_call1_4, e_call2_0, e_call2_1, e_call2_2, e_call2_3, e_call2_4, e_call3_0, e_call3_1, e_call3_2, e_call3_3, e_call3_4, e_call4_0, e_call4_1, e_call4_2, e_call4_3, e_call4_4, e_call5_0, e_call5_1, e_call5_2, e_call5_3, e_call5_4, e_call6_0, e_call6_1, e_call6_2, e_call6_3, e_call6_4, xP, xld, xst1, xst2, xis2, xii, xid, xll, xlv, xls, xlc, xil, xli, xrd, xdup, xdup2, xc1, xpu, c_eq, c_ne, c_lt, c_ge, c_gt, c_le, Option.bind_some, Option.map_some, List.length_nil, List.length_cons, Nat.reduceAdd, Nat.reduceLeDiff, Int.reduceToNat, Bool.and_self, Bool.false_eq_true, if_true, if_false, D129_72, decide_true, decide_false, Bool.true_and, Bool.false_and, Bool.and_true, Bool.and_false, zB_tt, zB_ff, not_false_eq_true, not_true_eq_false, n_lit, n_mul, nI_add, n_sub, x_in, nI_clamp, nI_ltI, nI_leI, nI_eq, and_self, true_and, and_true, zB_eq, h1]
  · have h1 : b1 = b2 := eq_of_beq h0
    cases h2 : inB c (nI 0) (nI (mostN k))
    · simp (maxSteps := 2000000) (disch := omega) only [e_inl, e_goto, e_fall, e_if, e_icmp, e_iret, e_zret, e_lret, e_vret, e_call0_0, e_call0_1, e_call0_2, e_call0_3, e_call0_4, e_call1_0, e_call1_1, e_call1_2, e_call1_3, e_call1_4, e_call2_0, e_call2_1, e_call2_2, e_call2_3, e_call2_4, e_call3_0, e_call3_1, e_call3_2, e_call3_3, e_call3_4, e_call4_0, e_call4_1, e_call4_2, e_call4_3, e_call4_4, e_call5_0, e_call5_1, e_call5_2, e_call5_3, e_call5_4, e_call6_0, e_call6_1, e_call6_2, e_call6_3, e_call6_4, xP, xld, xst1, xst2, xis2, xii, xid, xll, xlv, xls, xlc, xil, xli, xrd, xdup, xdup2, xc1, xpu, c_eq, c_ne, c_lt, c_ge, c_gt, c_le, Option.bind_some, Option.map_some, List.length_nil, List.length_cons, Nat.reduceAdd, Nat.reduceLeDiff, Int.reduceToNat, Bool.and_self, Bool.false_eq_true, if_true, if_false, D129_72, decide_true, decide_false, Bool.true_and, Bool.false_and, Bool.and_true, Bool.and_false, zB_tt, zB_ff, not_false_eq_true, not_true_eq_false, n_lit, n_mul, nI_add, n_sub, x_in, nI_clamp, nI_ltI, nI_leI, nI_eq, and_self, true_and, and_true, zB_eq, h1, t_inB, t_mostOf hk, h2, n_0]
    · cases h3 : inB rk (Int32.ofInt (-1)) (nI 9)
      · simp (maxSteps := 2000000) (disch := omega) only [e_inl, e_goto, e_fall, e_if, e_icmp, e_iret, e_zret, e_lret, e_vret, e_call0_0, e_call0_1, e_call0_2, e_call0_3, e_call0_4, e_call1_0, e_call1_1, e_call1_2, e_call1_3, e_call1_4, e_call2_0, e_call2_1, e_call2_2, e_call2_3, e_call2_4, e_call3_0, e_call3_1, e_call3_2, e_call3_3, e_call3_4, e_call4_0, e_call4_1, e_call4_2, e_call4_3, e_call4_4, e_call5_0, e_call5_1, e_call5_2, e_call5_3, e_call5_4, e_call6_0, e_call6_1, e_call6_2, e_call6_3, e_call6_4, xP, xld, xst1, xst2, xis2, xii, xid, xll, xlv, xls, xlc, xil, xli, xrd, xdup, xdup2, xc1, xpu, c_eq, c_ne, c_lt, c_ge, c_gt, c_le, Option.bind_some, Option.map_some, List.length_nil, List.length_cons, Nat.reduceAdd, Nat.reduceLeDiff, Int.reduceToNat, Bool.and_self, Bool.false_eq_true, if_true, if_false, D129_72, decide_true, decide_false, Bool.true_and, Bool.false_and, Bool.and_true, Bool.and_false, zB_tt, zB_ff, not_false_eq_true, not_true_eq_false, n_lit, n_mul, nI_add, n_sub, x_in, nI_clamp, nI_ltI, nI_leI, nI_eq, and_self, true_and, and_true, zB_eq, h1, t_inB, t_mostOf hk, h2, h3, n_0, Nat.one_ne_zero]
      · simp (maxSteps := 2000000) (disch := omega) only [e_inl, e_goto, e_fall, e_if, e_icmp, e_iret, e_zret, e_lret, e_vret, e_call0_0, e_call0_1, e_call0_2, e_call0_3, e_call0_4, e_call1_0, e_call1_1, e_call1_2, e_call1_3, e_call1_4, e_call2_0, e_call2_1, e_call2_2, e_call2_3, e_call2_4, e_call3_0, e_call3_1, e_call3_2, e_call3_3, e_call3_4, e_call4_0, e_call4_1, e_call4_2, e_call4_3, e_call4_4, e_call5_0, e_call5_1, e_call5_2, e_call5_3, e_call5_4, e_call6_0, e_call6_1, e_call6_2, e_call6_3, e_call6_4, xP, xld, xst1, xst2, xis2, xii, xid, xll, xlv, xls, xlc, xil, xli, xrd, xdup, xdup2, xc1, xpu, c_eq, c_ne, c_lt, c_ge, c_gt, c_le, Option.bind_some, Option.map_some, List.length_nil, List.length_cons, Nat.reduceAdd, Nat.reduceLeDiff, Int.reduceToNat, Bool.and_self, Bool.false_eq_true, if_true, if_false, D129_72, decide_true, decide_false, Bool.true_and, Bool.false_and, Bool.and_true, Bool.and_false, zB_tt, zB_ff, not_false_eq_true, not_true_eq_false, n_lit, n_mul, nI_add, n_sub, x_in, nI_clamp, nI_ltI, nI_leI, nI_eq, and_self, true_and, and_true, zB_eq, h1, t_inB, t_mostOf hk, h2, h3, n_0, Nat.one_ne_zero]
theorem t_doRule_35 {k : Nat} {a6 : Option Value} {x y c rk : Int32} (hk : k ≤ 5) (b1 : Bool) : den 129 35 [some (.ref 163), some (.int (nI k)), some (.int x), some (.int y), some (.int c), some (.int rk), a6] [.int (zB b1)] (hp q S P A D K X E Z I J V) = den 129 45 [some (.ref 163), some (.int (nI k)), some (.int x), some (.int y), some (.int c), some (.int rk), a6] [.int (zB (decide (nI k = nI 3))), .int (zB b1)] (hp q S P A D K X E Z I J V) := by
  rw [D129_35]
  by_cases h : nI k = nI 3
  · rw [decide_eq_true h]
    simp only [e_inl, e_goto, e_fall, e_if, e_icmp, e_iret, e_zret, e_lret, e_vret, e_call0_0, e_call0_1, e_call0_2, e_call0_3, e_call0_4, e_call1_0, e_call1_1, e_call1_2, e_call1_3, e_call1_4, e_call2_0, e_call2_1, e_call2_2, e_call2_3, e_call2_4, e_call3_0, e_call3_1, e_call3_2, e_call3_3, e_call3_4, e_call4_0, e_call4_1, e_call4_2, e_call4_3, e_call4_4, e_call5_0, e_call5_1, e_call5_2, e_call5_3, e_call5_4, e_call6_0, e_call6_1, e_call6_2, e_call6_3, e_call6_4, xP, xld, xst1, xst2, xis2, xii, xid, xll, xlv, xls, xlc, xil, xli, xrd, xdup, xdup2, xc1, xpu, c_eq, c_ne, c_lt, c_ge, c_gt, c_le, Option.bind_some, Option.map_some, List.length_nil, List.length_cons, Nat.reduceAdd, Nat.reduceLeDiff, Int.reduceToNat, Bool.and_self, Bool.false_eq_true, if_true, if_false, D129_44, n_lit, h, not_true_eq_false]
    rfl
  · rw [decide_eq_false h]
    simp only [e_inl, e_goto, e_fall, e_if, e_icmp, e_iret, e_zret, e_lret, e_vret, e_call0_0, e_call0_1, e_call0_2, e_call0_3, e_call0_4, e_call1_0, e_call1_1, e_call1_2, e_call1_3, e_call1_4, e_call2_0, e_call2_1, e_call2_2, e_call2_3, e_call2_4, e_call3_0, e_call3_1, e_call3_2, e_call3_3, e_call3_4, e_call4_0, e_call4_1, e_call4_2, e_call4_3, e_call4_4, e_call5_0, e_call5_1, e_call5_2, e_call5_3, e_call5_4, e_call6_0, e_call6_1, e_call6_2, e_call6_3, e_call6_4, xP, xld, xst1, xst2, xis2, xii, xid, xll, xlv, xls, xlc, xil, xli, xrd, xdup, xdup2, xc1, xpu, c_eq, c_ne, c_lt, c_ge, c_gt, c_le, Option.bind_some, Option.map_some, List.length_nil, List.length_cons, Nat.reduceAdd, Nat.reduceLeDiff, Int.reduceToNat, Bool.and_self, Bool.false_eq_true, if_true, if_false, D129_44, n_lit, h, not_false_eq_true]
    rfl
theorem t_doRule_0 {n : Nat} {kd x y c rk : Int32} (hn : V 0 0 = nI n) : xcall 129 [.ref 163, .int kd, .int x, .int y, .int c, .int rk] (hp q S P A D K X E Z I J V) = if okU n kd x y c rk = true then den 129 75 [some (.ref 163), some (.int kd), some (.int x), some (.int y), some (.int c), some (.int rk), none] [] (hp q S P A D K X E Z I J V) else some (some (.int (Int32.ofInt (-2))), (hp q S P A D K X E Z I J V)) := by
  rw [N129 _ _ _ _ _ _ _ (o_m ..)]
  unfold okU
  cases h1 : inB kd (nI 0) (nI 5)
  · simp (maxSteps := 2000000) (disch := omega) only [e_inl, e_goto, e_fall, e_if, e_icmp, e_iret, e_zret, e_lret, e_vret, e_call0_0, e_call0_1, e_call0_2, e_call0_3, e_call0_4, e_call1_0, e_call1_1, e_call1_2, e_call1_3, e_call1_4, e_call2_0, e_call2_1, e_call2_2, e_call2_3, e_call2_4, e_call3_0, e_call3_1, e_call3_2, e_call3_3, e_call3_4, e_call4_0, e_call4_1, e_call4_2, e_call4_3, e_call4_4, e_call5_0, e_call5_1, e_call5_2, e_call5_3, e_call5_4, e_call6_0, e_call6_1, e_call6_2, e_call6_3, e_call6_4, xP, xld, xst1, xst2, xis2, xii, xid, xll, xlv, xls, xlc, xil, xli, xrd, xdup, xdup2, xc1, xpu, c_eq, c_ne, c_lt, c_ge, c_gt, c_le, Option.bind_some, Option.map_some, List.length_nil, List.length_cons, Nat.reduceAdd, Nat.reduceLeDiff, Int.reduceToNat, Bool.and_self, Bool.false_eq_true, if_true, if_false, D129_0, D129_72, o_m, g_m_0, g_m_1, g_m_2, g_m_3, g_m_4, g_m_5, g_m_6, g_m_7, g_m_8, g_m_9, g_m_10, g_m_11, g_m_12, g_m_13, g_m_14, g_m_15, g_m_16, g_m_17, g_m_18, g_m_19, g_m_20, g_m_21, p_m_3, p_m_7, p_m_8, p_m_11, p_m_13, p_m_15, p_m_16, p_m_17, p_m_18, p_m_21, p_m_5_0, p_m_5_1, r_m0, s_m0, r_m1, s_m1, r_m2, s_m2, r_m4, s_m4, r_m6, s_m6, r_m9, s_m9, r_m10, s_m10, r_m12, s_m12, r_m14, s_m14, r_m19, s_m19, r_m20, s_m20, decide_true, decide_false, Bool.true_and, Bool.false_and, Bool.and_true, Bool.and_false, zB_tt, zB_ff, not_false_eq_true, not_true_eq_false, n_lit, n_mul, nI_add, n_sub, x_in, nI_clamp, nI_ltI, nI_leI, nI_eq, and_self, true_and, and_true, t_isF hn, t_inB, h1, n_0]
  · obtain ⟨k, hk, rfl⟩ := inB_of (by decide) h1
    rw [nI_clamp (n := k) (by omega)]
    cases h2 : isF n x
    · simp (maxSteps := 2000000) (disch := omega) only [e_inl, e_goto, e_fall, e_if, e_icmp, e_iret, e_zret, e_lret, e_vret, e_call0_0, e_call0_1, e_call0_2, e_call0_3, e_call0_4, e_call1_0, e_call1_1, e_call1_2, e_call1_3, e_call1_4, e_call2_0, e_call2_1, e_call2_2, e_call2_3, e_call2_4, e_call3_0, e_call3_1, e_call3_2, e_call3_3, e_call3_4, e_call4_0, e_call4_1, e_call4_2, e_call4_3, e_call4_4, e_call5_0, e_call5_1, e_call5_2, e_call5_3, e_call5_4, e_call6_0, e_call6_1, e_call6_2, e_call6_3, e_call6_4, xP, xld, xst1, xst2, xis2, xii, xid, xll, xlv, xls, xlc, xil, xli, xrd, xdup, xdup2, xc1, xpu, c_eq, c_ne, c_lt, c_ge, c_gt, c_le, Option.bind_some, Option.map_some, List.length_nil, List.length_cons, Nat.reduceAdd, Nat.reduceLeDiff, Int.reduceToNat, Bool.and_self, Bool.false_eq_true, if_true, if_false, D129_0, D129_72, o_m, g_m_0, g_m_1, g_m_2, g_m_3, g_m_4, g_m_5, g_m_6, g_m_7, g_m_8, g_m_9, g_m_10, g_m_11, g_m_12, g_m_13, g_m_14, g_m_15, g_m_16, g_m_17, g_m_18, g_m_19, g_m_20, g_m_21, p_m_3, p_m_7, p_m_8, p_m_11, p_m_13, p_m_15, p_m_16, p_m_17, p_m_18, p_m_21, p_m_5_0, p_m_5_1, r_m0, s_m0, r_m1, s_m1, r_m2, s_m2, r_m4, s_m4, r_m6, s_m6, r_m9, s_m9, r_m10, s_m10, r_m12, s_m12, r_m14, s_m14, r_m19, s_m19, r_m20, s_m20, decide_true, decide_false, Bool.true_and, Bool.false_and, Bool.and_true, Bool.and_false, zB_tt, zB_ff, not_false_eq_true, not_true_eq_false, n_lit, n_mul, nI_add, n_sub, x_in, nI_clamp, nI_ltI, nI_leI, nI_eq, and_self, true_and, and_true, t_isF hn, t_inB, h1, h2, n_0, Nat.one_ne_zero]
    · cases h3 : isF n y
      · simp (maxSteps := 2000000) (disch := omega) only [e_inl, e_goto, e_fall, e_if, e_icmp, e_iret, e_zret, e_lret, e_vret, e_call0_0, e_call0_1, e_call0_2, e_call0_3, e_call0_4, e_call1_0, e_call1_1, e_call1_2, e_call1_3, e_call1_4, e_call2_0, e_call2_1, e_call2_2, e_call2_3, e_call2_4, e_call3_0, e_call3_1, e_call3_2, e_call3_3, e_call3_4, e_call4_0, e_call4_1, e_call4_2, e_call4_3, e_call4_4, e_call5_0, e_call5_1, e_call5_2, e_call5_3, e_call5_4, e_call6_0, e_call6_1, e_call6_2, e_call6_3, e_call6_4, xP, xld, xst1, xst2, xis2, xii, xid, xll, xlv, xls, xlc, xil, xli, xrd, xdup, xdup2, xc1, xpu, c_eq, c_ne, c_lt, c_ge, c_gt, c_le, Option.bind_some, Option.map_some, List.length_nil, List.length_cons, Nat.reduceAdd, Nat.reduceLeDiff, Int.reduceToNat, Bool.and_self, Bool.false_eq_true, if_true, if_false, D129_0, D129_72, o_m, g_m_0, g_m_1, g_m_2, g_m_3, g_m_4, g_m_5, g_m_6, g_m_7, g_m_8, g_m_9, g_m_10, g_m_11, g_m_12, g_m_13, g_m_14, g_m_15, g_m_16, g_m_17, g_m_18, g_m_19, g_m_20, g_m_21, p_m_3, p_m_7, p_m_8, p_m_11, p_m_13, p_m_15, p_m_16, p_m_17, p_m_18, p_m_21, p_m_5_0, p_m_5_1, r_m0, s_m0, r_m1, s_m1, r_m2, s_m2, r_m4, s_m4, r_m6, s_m6, r_m9, s_m9, r_m10, s_m10, r_m12, s_m12, r_m14, s_m14, r_m19, s_m19, r_m20, s_m20, decide_true, decide_false, Bool.true_and, Bool.false_and, Bool.and_true, Bool.and_false, zB_tt, zB_ff, not_false_eq_true, not_true_eq_false, n_lit, n_mul, nI_add, n_sub, x_in, nI_clamp, nI_ltI, nI_leI, nI_eq, and_self, true_and, and_true, t_isF hn, t_inB, h1, h2, h3, n_0, Nat.one_ne_zero]
      · have e := t_doRule_45 (q := q) (S := S) (P := P) (A := A) (D := D) (K := K) (X := X) (E := E) (Z := Z) (I := I) (J := J) (V := V) (a6 := none) (x := x) (y := y) (c := c) (rk := rk) hk (decide (x = y)) (decide (nI k = nI 3))
        rw [← t_doRule_35 hk] at e
        rw [Bool.true_and, Bool.true_and, Bool.true_and, ← e]
        by_cases h : x = y
        · rw [decide_eq_true h]
          simp (maxSteps := 2000000) (disch := omega) only [e_inl, e_goto, e_fall, e_if, e_icmp, e_iret, e_zret, e_lret, e_vret, e_call0_0, e_call0_1, e_call0_2, e_call0_3, e_call0_4, e_call1_0, e_call1_1, e_call1_2, e_call1_3, e_call1_4, e_call2_0, e_call2_1, e_call2_2, e_call2_3, e_call2_4, e_call3_0, e_call3_1, e_call3_2, e_call3_3, e_call3_4, e_call4_0, e_call4_1, e_call4_2, e_call4_3, e_call4_4, e_call5_0, e_call5_1, e_call5_2, e_call5_3, e_call5_4, e_call6_0, e_call6_1, e_call6_2, e_call6_3, e_call6_4, xP, xld, xst1, xst2, xis2, xii, xid, xll, xlv, xls, xlc, xil, xli, xrd, xdup, xdup2, xc1, xpu, c_eq, c_ne, c_lt, c_ge, c_gt, c_le, Option.bind_some, Option.map_some, List.length_nil, List.length_cons, Nat.reduceAdd, Nat.reduceLeDiff, Int.reduceToNat, Bool.and_self, Bool.false_eq_true, if_true, if_false, D129_0, D129_34, o_m, g_m_0, g_m_1, g_m_2, g_m_3, g_m_4, g_m_5, g_m_6, g_m_7, g_m_8, g_m_9, g_m_10, g_m_11, g_m_12, g_m_13, g_m_14, g_m_15, g_m_16, g_m_17, g_m_18, g_m_19, g_m_20, g_m_21, p_m_3, p_m_7, p_m_8, p_m_11, p_m_13, p_m_15, p_m_16, p_m_17, p_m_18, p_m_21, p_m_5_0, p_m_5_1, r_m0, s_m0, r_m1, s_m1, r_m2, s_m2, r_m4, s_m4, r_m6, s_m6, r_m9, s_m9, r_m10, s_m10, r_m12, s_m12, r_m14, s_m14, r_m19, s_m19, r_m20, s_m20, decide_true, decide_false, Bool.true_and, Bool.false_and, Bool.and_true, Bool.and_false, zB_tt, zB_ff, not_false_eq_true, not_true_eq_false, n_lit, n_mul, nI_add, n_sub, x_in, nI_clamp, nI_ltI, nI_leI, nI_eq, and_self, true_and, and_true, t_isF hn, t_inB, h1, h2, h3, h, n_0, Nat.one_ne_zero]
        · rw [decide_eq_false h]
          simp (maxSteps := 2000000) (disch := omega) only [e_inl, e_goto, e_fall, e_if, e_icmp, e_iret, e_zret, e_lret, e_vret, e_call0_0, e_call0_1, e_call0_2, e_call0_3, e_call0_4, e_call1_0, e_call1_1, e_call1_2, e_call1_3, e_call1_4, e_call2_0, e_call2_1, e_call2_2, e_call2_3, e_call2_4, e_call3_0, e_call3_1, e_call3_2, e_call3_3, e_call3_4, e_call4_0, e_call4_1, e_call4_2, e_call4_3, e_call4_4, e_call5_0, e_call5_1, e_call5_2, e_call5_3, e_call5_4, e_call6_0, e_call6_1, e_call6_2, e_call6_3, e_call6_4, xP, xld, xst1, xst2, xis2, xii, xid, xll, xlv, xls, xlc, xil, xli, xrd, xdup, xdup2, xc1, xpu, c_eq, c_ne, c_lt, c_ge, c_gt, c_le, Option.bind_some, Option.map_some, List.length_nil, List.length_cons, Nat.reduceAdd, Nat.reduceLeDiff, Int.reduceToNat, Bool.and_self, Bool.false_eq_true, if_true, if_false, D129_0, D129_34, o_m, g_m_0, g_m_1, g_m_2, g_m_3, g_m_4, g_m_5, g_m_6, g_m_7, g_m_8, g_m_9, g_m_10, g_m_11, g_m_12, g_m_13, g_m_14, g_m_15, g_m_16, g_m_17, g_m_18, g_m_19, g_m_20, g_m_21, p_m_3, p_m_7, p_m_8, p_m_11, p_m_13, p_m_15, p_m_16, p_m_17, p_m_18, p_m_21, p_m_5_0, p_m_5_1, r_m0, s_m0, r_m1, s_m1, r_m2, s_m2, r_m4, s_m4, r_m6, s_m6, r_m9, s_m9, r_m10, s_m10, r_m12, s_m12, r_m14, s_m14, r_m19, s_m19, r_m20, s_m20, decide_true, decide_false, Bool.true_and, Bool.false_and, Bool.and_true, Bool.and_false, zB_tt, zB_ff, not_false_eq_true, not_true_eq_false, n_lit, n_mul, nI_add, n_sub, x_in, nI_clamp, nI_ltI, nI_leI, nI_eq, and_self, true_and, and_true, t_isF hn, t_inB, h1, h2, h3, h, n_0, Nat.one_ne_zero]
theorem t_doRule_bad {n : Nat} {kd x y c rk : Int32} (hn : V 0 0 = nI n) (h : okU n kd x y c rk = false) : xcall 129 [.ref 163, .int kd, .int x, .int y, .int c, .int rk] (hp q S P A D K X E Z I J V) = some (some (.int (Int32.ofInt (-2))), (hp q S P A D K X E Z I J V)) := by
  rw [t_doRule_0 hn, h]
  rfl
theorem t_doRule_full {n : Nat} {kd x y c rk : Int32} (hn : V 0 0 = nI n) (h : okU n kd x y c rk = true) (hk : V 0 57 = nI 8) : xcall 129 [.ref 163, .int kd, .int x, .int y, .int c, .int rk] (hp q S P A D K X E Z I J V) = some (some (.int (Int32.ofInt (-4))), (hp q S P A D K X E Z I J V)) := by
  rw [t_doRule_0 hn, h, if_pos rfl, D129_75]
  simp (maxSteps := 2000000) (disch := omega) only [e_inl, e_goto, e_fall, e_if, e_icmp, e_iret, e_zret, e_lret, e_vret, e_call0_0, e_call0_1, e_call0_2, e_call0_3, e_call0_4, e_call1_0, e_call1_1, e_call1_2, e_call1_3, e_call1_4, e_call2_0, e_call2_1, e_call2_2, e_call2_3, e_call2_4, e_call3_0, e_call3_1, e_call3_2, e_call3_3, e_call3_4, e_call4_0, e_call4_1, e_call4_2, e_call4_3, e_call4_4, e_call5_0, e_call5_1, e_call5_2, e_call5_3, e_call5_4, e_call6_0, e_call6_1, e_call6_2, e_call6_3, e_call6_4, xP, xld, xst1, xst2, xis2, xii, xid, xll, xlv, xls, xlc, xil, xli, xrd, xdup, xdup2, xc1, xpu, c_eq, c_ne, c_lt, c_ge, c_gt, c_le, Option.bind_some, Option.map_some, List.length_nil, List.length_cons, Nat.reduceAdd, Nat.reduceLeDiff, Int.reduceToNat, Bool.and_self, Bool.false_eq_true, if_true, if_false, o_m, g_m_0, g_m_1, g_m_2, g_m_3, g_m_4, g_m_5, g_m_6, g_m_7, g_m_8, g_m_9, g_m_10, g_m_11, g_m_12, g_m_13, g_m_14, g_m_15, g_m_16, g_m_17, g_m_18, g_m_19, g_m_20, g_m_21, p_m_3, p_m_7, p_m_8, p_m_11, p_m_13, p_m_15, p_m_16, p_m_17, p_m_18, p_m_21, p_m_5_0, p_m_5_1, r_m0, s_m0, r_m1, s_m1, r_m2, s_m2, r_m4, s_m4, r_m6, s_m6, r_m9, s_m9, r_m10, s_m10, r_m12, s_m12, r_m14, s_m14, r_m19, s_m19, r_m20, s_m20, decide_true, decide_false, Bool.true_and, Bool.false_and, Bool.and_true, Bool.and_false, zB_tt, zB_ff, not_false_eq_true, not_true_eq_false, n_lit, n_mul, nI_add, n_sub, x_in, nI_clamp, nI_ltI, nI_leI, nI_eq, and_self, true_and, and_true, hk]
/-- the rules with one more -/
def rulA (a : Nat → Int32) (k : Nat) (kd x y c rk : Int32) : Nat → Int32 := upd (empA (upd (upd (upd (upd (upd (upd a (58 + 5 * k) kd) (58 + 5 * k + 1) x) (58 + 5 * k + 2) y) (58 + 5 * k + 3) c) (58 + 5 * k + 4) rk) 57 (nI (k + 1))) 4) 98 (nI 0)
theorem empA_out (a : Nat → Int32) {j : Nat} (h : j = 0 ∨ 53 ≤ j) : empA a 4 j = a j := by
  simp only [empA, upd]
  rw [if_neg (by omega), if_neg (by omega), if_neg (by omega), if_neg (by omega), if_neg (by omega), if_neg (by omega), if_neg (by omega), if_neg (by omega)]
theorem t_r90a {k : Nat} {kd x y c rk : Int32} (hk : V 0 57 = nI k) (hk8 : k < 8) (jmp : Nat → xL → xS → xH → xR) (t : List xI) : xB xcall jmp (.inl (.iconst 58) :: .inl (.iconst 5) :: .inl (.aload 0) :: .inl (.getfield 288) :: .inl (.iconst 57) :: .inl .iaload :: .inl .imul :: .inl .iadd :: .inl (.istore 6) :: t) [some (.ref 163), some (.int kd), some (.int x), some (.int y), some (.int c), some (.int rk), none] [] (hp q S P A D K X E Z I J V) = xB xcall jmp t [some (.ref 163), some (.int kd), some (.int x), some (.int y), some (.int c), some (.int rk), some (.int (nI (58 + 5 * k)))] [] (hp q S P A D K X E Z I J V) := by
  simp (maxSteps := 2000000) (disch := omega) only [e_inl, e_goto, e_fall, e_if, e_icmp, e_iret, e_zret, e_lret, e_vret, e_call0_0, e_call0_1, e_call0_2, e_call0_3, e_call0_4, e_call1_0, e_call1_1, e_call1_2, e_call1_3, e_call1_4, e_call2_0, e_call2_1, e_call2_2, e_call2_3, e_call2_4, e_call3_0, e_call3_1, e_call3_2, e_call3_3, e_call3_4, e_call4_0, e_call4_1, e_call4_2, e_call4_3, e_call4_4, e_call5_0, e_call5_1, e_call5_2, e_call5_3, e_call5_4, e_call6_0, e_call6_1, e_call6_2, e_call6_3, e_call6_4, xP, xld, xst1, xst2, xis2, xii, xid, xll, xlv, xls, xlc, xil, xli, xrd, xdup, xdup2, xc1, xpu, c_eq, c_ne, c_lt, c_ge, c_gt, c_le, Option.bind_some, Option.map_some, List.length_nil, List.length_cons, Nat.reduceAdd, Nat.reduceLeDiff, Int.reduceToNat, Bool.and_self, Bool.false_eq_true, if_true, if_false, o_m, g_m_0, g_m_1, g_m_2, g_m_3, g_m_4, g_m_5, g_m_6, g_m_7, g_m_8, g_m_9, g_m_10, g_m_11, g_m_12, g_m_13, g_m_14, g_m_15, g_m_16, g_m_17, g_m_18, g_m_19, g_m_20, g_m_21, p_m_3, p_m_7, p_m_8, p_m_11, p_m_13, p_m_15, p_m_16, p_m_17, p_m_18, p_m_21, p_m_5_0, p_m_5_1, r_m0, s_m0, r_m1, s_m1, r_m2, s_m2, r_m4, s_m4, r_m6, s_m6, r_m9, s_m9, r_m10, s_m10, r_m12, s_m12, r_m14, s_m14, r_m19, s_m19, r_m20, s_m20, decide_true, decide_false, Bool.true_and, Bool.false_and, Bool.and_true, Bool.and_false, zB_tt, zB_ff, not_false_eq_true, not_true_eq_false, n_lit, n_mul, nI_add, n_sub, x_in, nI_clamp, nI_ltI, nI_leI, nI_eq, and_self, true_and, and_true, hk]
theorem t_r90b {k : Nat} {kd x y c rk : Int32} (hk8 : k < 8) (jmp : Nat → xL → xS → xH → xR) (t : List xI) : xB xcall jmp (.inl (.aload 0) :: .inl (.getfield 288) :: .inl (.iload 6) :: .inl (.iload 1) :: .inl .iastore :: t) [some (.ref 163), some (.int kd), some (.int x), some (.int y), some (.int c), some (.int rk), some (.int (nI (58 + 5 * k)))] [] (hp q S P A D K X E Z I J V) = xB xcall jmp t [some (.ref 163), some (.int kd), some (.int x), some (.int y), some (.int c), some (.int rk), some (.int (nI (58 + 5 * k)))] [] (hp q S P A D K X E Z I J (vf_upd V 0 (upd (V 0) (58 + 5 * k) kd))) := by
  simp (maxSteps := 2000000) (disch := omega) only [e_inl, e_goto, e_fall, e_if, e_icmp, e_iret, e_zret, e_lret, e_vret, e_call0_0, e_call0_1, e_call0_2, e_call0_3, e_call0_4, e_call1_0, e_call1_1, e_call1_2, e_call1_3, e_call1_4, e_call2_0, e_call2_1, e_call2_2, e_call2_3, e_call2_4, e_call3_0, e_call3_1, e_call3_2, e_call3_3, e_call3_4, e_call4_0, e_call4_1, e_call4_2, e_call4_3, e_call4_4, e_call5_0, e_call5_1, e_call5_2, e_call5_3, e_call5_4, e_call6_0, e_call6_1, e_call6_2, e_call6_3, e_call6_4, xP, xld, xst1, xst2, xis2, xii, xid, xll, xlv, xls, xlc, xil, xli, xrd, xdup, xdup2, xc1, xpu, c_eq, c_ne, c_lt, c_ge, c_gt, c_le, Option.bind_some, Option.map_some, List.length_nil, List.length_cons, Nat.reduceAdd, Nat.reduceLeDiff, Int.reduceToNat, Bool.and_self, Bool.false_eq_true, if_true, if_false, o_m, g_m_0, g_m_1, g_m_2, g_m_3, g_m_4, g_m_5, g_m_6, g_m_7, g_m_8, g_m_9, g_m_10, g_m_11, g_m_12, g_m_13, g_m_14, g_m_15, g_m_16, g_m_17, g_m_18, g_m_19, g_m_20, g_m_21, p_m_3, p_m_7, p_m_8, p_m_11, p_m_13, p_m_15, p_m_16, p_m_17, p_m_18, p_m_21, p_m_5_0, p_m_5_1, r_m0, s_m0, r_m1, s_m1, r_m2, s_m2, r_m4, s_m4, r_m6, s_m6, r_m9, s_m9, r_m10, s_m10, r_m12, s_m12, r_m14, s_m14, r_m19, s_m19, r_m20, s_m20, decide_true, decide_false, Bool.true_and, Bool.false_and, Bool.and_true, Bool.and_false, zB_tt, zB_ff, not_false_eq_true, not_true_eq_false, n_lit, n_mul, nI_add, n_sub, x_in, nI_clamp, nI_ltI, nI_leI, nI_eq, and_self, true_and, and_true]
theorem t_r90c {k : Nat} {kd x y c rk : Int32} (hk8 : k < 8) (jmp : Nat → xL → xS → xH → xR) (t : List xI) : xB xcall jmp (.inl (.aload 0) :: .inl (.getfield 288) :: .inl (.iload 6) :: .inl (.iconst 1) :: .inl .iadd :: .inl (.iload 2) :: .inl .iastore :: t) [some (.ref 163), some (.int kd), some (.int x), some (.int y), some (.int c), some (.int rk), some (.int (nI (58 + 5 * k)))] [] (hp q S P A D K X E Z I J V) = xB xcall jmp t [some (.ref 163), some (.int kd), some (.int x), some (.int y), some (.int c), some (.int rk), some (.int (nI (58 + 5 * k)))] [] (hp q S P A D K X E Z I J (vf_upd V 0 (upd (V 0) (58 + 5 * k + 1) x))) := by
  simp (maxSteps := 2000000) (disch := omega) only [e_inl, e_goto, e_fall, e_if, e_icmp, e_iret, e_zret, e_lret, e_vret, e_call0_0, e_call0_1, e_call0_2, e_call0_3, e_call0_4, e_call1_0, e_call1_1, e_call1_2, e_call1_3, e_call1_4, e_call2_0, e_call2_1, e_call2_2, e_call2_3, e_call2_4, e_call3_0, e_call3_1, e_call3_2, e_call3_3, e_call3_4, e_call4_0, e_call4_1, e_call4_2, e_call4_3, e_call4_4, e_call5_0, e_call5_1, e_call5_2, e_call5_3, e_call5_4, e_call6_0, e_call6_1, e_call6_2, e_call6_3, e_call6_4, xP, xld, xst1, xst2, xis2, xii, xid, xll, xlv, xls, xlc, xil, xli, xrd, xdup, xdup2, xc1, xpu, c_eq, c_ne, c_lt, c_ge, c_gt, c_le, Option.bind_some, Option.map_some, List.length_nil, List.length_cons, Nat.reduceAdd, Nat.reduceLeDiff, Int.reduceToNat, Bool.and_self, Bool.false_eq_true, if_true, if_false, o_m, g_m_0, g_m_1, g_m_2, g_m_3, g_m_4, g_m_5, g_m_6, g_m_7, g_m_8, g_m_9, g_m_10, g_m_11, g_m_12, g_m_13, g_m_14, g_m_15, g_m_16, g_m_17, g_m_18, g_m_19, g_m_20, g_m_21, p_m_3, p_m_7, p_m_8, p_m_11, p_m_13, p_m_15, p_m_16, p_m_17, p_m_18, p_m_21, p_m_5_0, p_m_5_1, r_m0, s_m0, r_m1, s_m1, r_m2, s_m2, r_m4, s_m4, r_m6, s_m6, r_m9, s_m9, r_m10, s_m10, r_m12, s_m12, r_m14, s_m14, r_m19, s_m19, r_m20, s_m20, decide_true, decide_false, Bool.true_and, Bool.false_and, Bool.and_true, Bool.and_false, zB_tt, zB_ff, not_false_eq_true, not_true_eq_false, n_lit, n_mul, nI_add, n_sub, x_in, nI_clamp, nI_ltI, nI_leI, nI_eq, and_self, true_and, and_true]
theorem t_r90d {k : Nat} {kd x y c rk : Int32} (hk8 : k < 8) (jmp : Nat → xL → xS → xH → xR) (t : List xI) : xB xcall jmp (.inl (.aload 0) :: .inl (.getfield 288) :: .inl (.iload 6) :: .inl (.iconst 2) :: .inl .iadd :: .inl (.iload 3) :: .inl .iastore :: t) [some (.ref 163), some (.int kd), some (.int x), some (.int y), some (.int c), some (.int rk), some (.int (nI (58 + 5 * k)))] [] (hp q S P A D K X E Z I J V) = xB xcall jmp t [some (.ref 163), some (.int kd), some (.int x), some (.int y), some (.int c), some (.int rk), some (.int (nI (58 + 5 * k)))] [] (hp q S P A D K X E Z I J (vf_upd V 0 (upd (V 0) (58 + 5 * k + 2) y))) := by
  simp (maxSteps := 2000000) (disch := omega) only [e_inl, e_goto, e_fall, e_if, e_icmp, e_iret, e_zret, e_lret, e_vret, e_call0_0, e_call0_1, e_call0_2, e_call0_3, e_call0_4, e_call1_0, e_call1_1, e_call1_2, e_call1_3, e_call1_4, e_call2_0, e_call2_1, e_call2_2, e_call2_3, e_call2_4, e_call3_0, e_call3_1, e_call3_2, e_call3_3, e_call3_4, e_call4_0, e_call4_1, e_call4_2, e_call4_3, e_call4_4, e_call5_0, e_call5_1, e_call5_2, e_call5_3, e_call5_4, e_call6_0, e_call6_1, e_call6_2, e_call6_3, e_call6_4, xP, xld, xst1, xst2, xis2, xii, xid, xll, xlv, xls, xlc, xil, xli, xrd, xdup, xdup2, xc1, xpu, c_eq, c_ne, c_lt, c_ge, c_gt, c_le, Option.bind_some, Option.map_some, List.length_nil, List.length_cons, Nat.reduceAdd, Nat.reduceLeDiff, Int.reduceToNat, Bool.and_self, Bool.false_eq_true, if_true, if_false, o_m, g_m_0, g_m_1, g_m_2, g_m_3, g_m_4, g_m_5, g_m_6, g_m_7, g_m_8, g_m_9, g_m_10, g_m_11, g_m_12, g_m_13, g_m_14, g_m_15, g_m_16, g_m_17, g_m_18, g_m_19, g_m_20, g_m_21, p_m_3, p_m_7, p_m_8, p_m_11, p_m_13, p_m_15, p_m_16, p_m_17, p_m_18, p_m_21, p_m_5_0, p_m_5_1, r_m0, s_m0, r_m1, s_m1, r_m2, s_m2, r_m4, s_m4, r_m6, s_m6, r_m9, s_m9, r_m10, s_m10, r_m12, s_m12, r_m14, s_m14, r_m19, s_m19, r_m20, s_m20, decide_true, decide_false, Bool.true_and, Bool.false_and, Bool.and_true, Bool.and_false, zB_tt, zB_ff, not_false_eq_true, not_true_eq_false, n_lit, n_mul, nI_add, n_sub, x_in, nI_clamp, nI_ltI, nI_leI, nI_eq, and_self, true_and, and_true]
theorem t_r90e {k : Nat} {kd x y c rk : Int32} (hk8 : k < 8) (jmp : Nat → xL → xS → xH → xR) (t : List xI) : xB xcall jmp (.inl (.aload 0) :: .inl (.getfield 288) :: .inl (.iload 6) :: .inl (.iconst 3) :: .inl .iadd :: .inl (.iload 4) :: .inl .iastore :: t) [some (.ref 163), some (.int kd), some (.int x), some (.int y), some (.int c), some (.int rk), some (.int (nI (58 + 5 * k)))] [] (hp q S P A D K X E Z I J V) = xB xcall jmp t [some (.ref 163), some (.int kd), some (.int x), some (.int y), some (.int c), some (.int rk), some (.int (nI (58 + 5 * k)))] [] (hp q S P A D K X E Z I J (vf_upd V 0 (upd (V 0) (58 + 5 * k + 3) c))) := by
  simp (maxSteps := 2000000) (disch := omega) only [e_inl, e_goto, e_fall, e_if, e_icmp, e_iret, e_zret, e_lret, e_vret, e_call0_0, e_call0_1, e_call0_2, e_call0_3, e_call0_4, e_call1_0, e_call1_1, e_call1_2, e_call1_3, e_call1_4, e_call2_0, e_call2_1, e_call2_2, e_call2_3, e_call2_4, e_call3_0, e_call3_1, e_call3_2, e_call3_3, e_call3_4, e_call4_0, e_call4_1, e_call4_2, e_call4_3, e_call4_4, e_call5_0, e_call5_1, e_call5_2, e_call5_3, e_call5_4, e_call6_0, e_call6_1, e_call6_2, e_call6_3, e_call6_4, xP, xld, xst1, xst2, xis2, xii, xid, xll, xlv, xls, xlc, xil, xli, xrd, xdup, xdup2, xc1, xpu, c_eq, c_ne, c_lt, c_ge, c_gt, c_le, Option.bind_some, Option.map_some, List.length_nil, List.length_cons, Nat.reduceAdd, Nat.reduceLeDiff, Int.reduceToNat, Bool.and_self, Bool.false_eq_true, if_true, if_false, o_m, g_m_0, g_m_1, g_m_2, g_m_3, g_m_4, g_m_5, g_m_6, g_m_7, g_m_8, g_m_9, g_m_10, g_m_11, g_m_12, g_m_13, g_m_14, g_m_15, g_m_16, g_m_17, g_m_18, g_m_19, g_m_20, g_m_21, p_m_3, p_m_7, p_m_8, p_m_11, p_m_13, p_m_15, p_m_16, p_m_17, p_m_18, p_m_21, p_m_5_0, p_m_5_1, r_m0, s_m0, r_m1, s_m1, r_m2, s_m2, r_m4, s_m4, r_m6, s_m6, r_m9, s_m9, r_m10, s_m10, r_m12, s_m12, r_m14, s_m14, r_m19, s_m19, r_m20, s_m20, decide_true, decide_false, Bool.true_and, Bool.false_and, Bool.and_true, Bool.and_false, zB_tt, zB_ff, not_false_eq_true, not_true_eq_false, n_lit, n_mul, nI_add, n_sub, x_in, nI_clamp, nI_ltI, nI_leI, nI_eq, and_self, true_and, and_true]
theorem t_r90f {k : Nat} {kd x y c rk : Int32} (hk8 : k < 8) (jmp : Nat → xL → xS → xH → xR) (t : List xI) : xB xcall jmp (.inl (.aload 0) :: .inl (.getfield 288) :: .inl (.iload 6) :: .inl (.iconst 4) :: .inl .iadd :: .inl (.iload 5) :: .inl .iastore :: t) [some (.ref 163), some (.int kd), some (.int x), some (.int y), some (.int c), some (.int rk), some (.int (nI (58 + 5 * k)))] [] (hp q S P A D K X E Z I J V) = xB xcall jmp t [some (.ref 163), some (.int kd), some (.int x), some (.int y), some (.int c), some (.int rk), some (.int (nI (58 + 5 * k)))] [] (hp q S P A D K X E Z I J (vf_upd V 0 (upd (V 0) (58 + 5 * k + 4) rk))) := by
  simp (maxSteps := 2000000) (disch := omega) only [e_inl, e_goto, e_fall, e_if, e_icmp, e_iret, e_zret, e_lret, e_vret, e_call0_0, e_call0_1, e_call0_2, e_call0_3, e_call0_4, e_call1_0, e_call1_1, e_call1_2, e_call1_3, e_call1_4, e_call2_0, e_call2_1, e_call2_2, e_call2_3, e_call2_4, e_call3_0, e_call3_1, e_call3_2, e_call3_3, e_call3_4, e_call4_0, e_call4_1, e_call4_2, e_call4_3, e_call4_4, e_call5_0, e_call5_1, e_call5_2, e_call5_3, e_call5_4, e_call6_0, e_call6_1, e_call6_2, e_call6_3, e_call6_4, xP, xld, xst1, xst2, xis2, xii, xid, xll, xlv, xls, xlc, xil, xli, xrd, xdup, xdup2, xc1, xpu, c_eq, c_ne, c_lt, c_ge, c_gt, c_le, Option.bind_some, Option.map_some, List.length_nil, List.length_cons, Nat.reduceAdd, Nat.reduceLeDiff, Int.reduceToNat, Bool.and_self, Bool.false_eq_true, if_true, if_false, o_m, g_m_0, g_m_1, g_m_2, g_m_3, g_m_4, g_m_5, g_m_6, g_m_7, g_m_8, g_m_9, g_m_10, g_m_11, g_m_12, g_m_13, g_m_14, g_m_15, g_m_16, g_m_17, g_m_18, g_m_19, g_m_20, g_m_21, p_m_3, p_m_7, p_m_8, p_m_11, p_m_13, p_m_15, p_m_16, p_m_17, p_m_18, p_m_21, p_m_5_0, p_m_5_1, r_m0, s_m0, r_m1, s_m1, r_m2, s_m2, r_m4, s_m4, r_m6, s_m6, r_m9, s_m9, r_m10, s_m10, r_m12, s_m12, r_m14, s_m14, r_m19, s_m19, r_m20, s_m20, decide_true, decide_false, Bool.true_and, Bool.false_and, Bool.and_true, Bool.and_false, zB_tt, zB_ff, not_false_eq_true, not_true_eq_false, n_lit, n_mul, nI_add, n_sub, x_in, nI_clamp, nI_ltI, nI_leI, nI_eq, and_self, true_and, and_true]
theorem t_r90g {k : Nat} {L : xL} (hL : xld L 0 = some (.ref 163)) (hk : V 0 57 = nI k) (hk8 : k < 8) (jmp : Nat → xL → xS → xH → xR) : xB xcall jmp [.inl (.aload 0), .inl (.getfield 288), .inl (.iconst 57), .inl .dup2, .inl .iaload, .inl (.iconst 1), .inl .iadd, .inl .iastore, .inl (.aload 0), .inr (.invokeinterface 123 1), .inl (.aload 0), .inl (.getfield 288), .inl (.iconst 57), .inl .iaload, .inl (.iconst 1), .inl .isub, .inr .ireturn] L [] (hp q S P A D K X E Z I J V) = some (some (.int (nI k)), (hp q S P A D K X E Z (upd I 5 (nI 0)) J (vf_upd V 0 (upd (empA (upd (V 0) 57 (nI (k + 1))) 4) 98 (nI 0))))) := by
  have e2 : upd (empA (upd (V 0) 57 (nI (k + 1))) 4) 98 (nI 0) 57 = nI (k + 1) := by
    rw [u_n _ _ (by omega), empA_out _ (by omega), u_s]
  simp (maxSteps := 2000000) (disch := omega) only [e_inl, e_goto, e_fall, e_if, e_icmp, e_iret, e_zret, e_lret, e_vret, e_call0_0, e_call0_1, e_call0_2, e_call0_3, e_call0_4, e_call1_0, e_call1_1, e_call1_2, e_call1_3, e_call1_4, e_call2_0, e_call2_1, e_call2_2, e_call2_3, e_call2_4, e_call3_0, e_call3_1, e_call3_2, e_call3_3, e_call3_4, e_call4_0, e_call4_1, e_call4_2, e_call4_3, e_call4_4, e_call5_0, e_call5_1, e_call5_2, e_call5_3, e_call5_4, e_call6_0, e_call6_1, e_call6_2, e_call6_3, e_call6_4, xP, xld, xst1, xst2, xis2, xii, xid, xll, xlv, xls, xlc, xil, xli, xrd, xdup, xdup2, xc1, xpu, c_eq, c_ne, c_lt, c_ge, c_gt, c_le, Option.bind_some, Option.map_some, List.length_nil, List.length_cons, Nat.reduceAdd, Nat.reduceLeDiff, Int.reduceToNat, Bool.and_self, Bool.false_eq_true, if_true, if_false, hL, o_m, g_m_0, g_m_1, g_m_2, g_m_3, g_m_4, g_m_5, g_m_6, g_m_7, g_m_8, g_m_9, g_m_10, g_m_11, g_m_12, g_m_13, g_m_14, g_m_15, g_m_16, g_m_17, g_m_18, g_m_19, g_m_20, g_m_21, p_m_3, p_m_7, p_m_8, p_m_11, p_m_13, p_m_15, p_m_16, p_m_17, p_m_18, p_m_21, p_m_5_0, p_m_5_1, r_m0, s_m0, r_m1, s_m1, r_m2, s_m2, r_m4, s_m4, r_m6, s_m6, r_m9, s_m9, r_m10, s_m10, r_m12, s_m12, r_m14, s_m14, r_m19, s_m19, r_m20, s_m20, decide_true, decide_false, Bool.true_and, Bool.false_and, Bool.and_true, Bool.and_false, zB_tt, zB_ff, not_false_eq_true, not_true_eq_false, n_lit, n_mul, nI_add, n_sub, x_in, nI_clamp, nI_ltI, nI_leI, nI_eq, and_self, true_and, and_true, hk, vu_s, vu_vu, t_empty, e2, Nat.add_sub_cancel]
theorem t_doRule_ok {n k : Nat} {kd x y c rk : Int32} (hn : V 0 0 = nI n) (h : okU n kd x y c rk = true) (hk : V 0 57 = nI k) (hk8 : k < 8) : xcall 129 [.ref 163, .int kd, .int x, .int y, .int c, .int rk] (hp q S P A D K X E Z I J V) = some (some (.int (nI k)), (hp q S P A D K X E Z (upd I 5 (nI 0)) J (vf_upd V 0 (rulA (V 0) k kd x y c rk)))) := by
  rw [t_doRule_0 hn, h, if_pos rfl, D129_75]
  have h8 : ¬ k = 8 := by omega
  simp (maxSteps := 2000000) (disch := omega) only [e_inl, e_goto, e_fall, e_if, e_icmp, e_iret, e_zret, e_lret, e_vret, e_call0_0, e_call0_1, e_call0_2, e_call0_3, e_call0_4, e_call1_0, e_call1_1, e_call1_2, e_call1_3, e_call1_4, e_call2_0, e_call2_1, e_call2_2, e_call2_3, e_call2_4, e_call3_0, e_call3_1, e_call3_2, e_call3_3, e_call3_4, e_call4_0, e_call4_1, e_call4_2, e_call4_3, e_call4_4, e_call5_0, e_call5_1, e_call5_2, e_call5_3, e_call5_4, e_call6_0, e_call6_1, e_call6_2, e_call6_3, e_call6_4, xP, xld, xst1, xst2, xis2, xii, xid, xll, xlv, xls, xlc, xil, xli, xrd, xdup, xdup2, xc1, xpu, c_eq, c_ne, c_lt, c_ge, c_gt, c_le, Option.bind_some, Option.map_some, List.length_nil, List.length_cons, Nat.reduceAdd, Nat.reduceLeDiff, Int.reduceToNat, Bool.and_self, Bool.false_eq_true, if_true, if_false, o_m, g_m_0, g_m_1, g_m_2, g_m_3, g_m_4, g_m_5, g_m_6, g_m_7, g_m_8, g_m_9, g_m_10, g_m_11, g_m_12, g_m_13, g_m_14, g_m_15, g_m_16, g_m_17, g_m_18, g_m_19, g_m_20, g_m_21, p_m_3, p_m_7, p_m_8, p_m_11, p_m_13, p_m_15, p_m_16, p_m_17, p_m_18, p_m_21, p_m_5_0, p_m_5_1, r_m0, s_m0, r_m1, s_m1, r_m2, s_m2, r_m4, s_m4, r_m6, s_m6, r_m9, s_m9, r_m10, s_m10, r_m12, s_m12, r_m14, s_m14, r_m19, s_m19, r_m20, s_m20, decide_true, decide_false, Bool.true_and, Bool.false_and, Bool.and_true, Bool.and_false, zB_tt, zB_ff, not_false_eq_true, not_true_eq_false, n_lit, n_mul, nI_add, n_sub, x_in, nI_clamp, nI_ltI, nI_leI, nI_eq, and_self, true_and, and_true, hk, h8]
  rw [D129_90, t_r90a hk hk8, t_r90b hk8, t_r90c hk8, t_r90d hk8, t_r90e hk8, t_r90f hk8]
  simp only [vu_s, vu_vu]
  rw [t_r90g rfl (k := k) _ hk8]
  · simp only [vu_s, vu_vu, rulA]
  · rw [vu_s, u_n _ _ (by omega), u_n _ _ (by omega), u_n _ _ (by omega), u_n _ _ (by omega), u_n _ _ (by omega), hk]
/-- the rules behind one nearer: the places from i up to m -/
def drpA (a : Nat → Int32) (i m : Nat) : Nat → Int32 := fun j => if i ≤ j ∧ j < m then a (j + 5) else a j
theorem drpA_0 (a : Nat → Int32) (i : Nat) : drpA a i i = a := funext fun j => if_neg (by omega)
theorem drpA_at (a : Nat → Int32) (i m : Nat) : drpA a i m (m + 5) = a (m + 5) := if_neg (by omega)
theorem drpA_succ (a : Nat → Int32) {i m : Nat} (h : i ≤ m) : upd (drpA a i m) m (a (m + 5)) = drpA a i (m + 1) := by
  funext j
  unfold upd drpA
  by_cases h1 : j = m
  · subst h1
    rw [if_pos rfl, if_pos (by omega)]
  · rw [if_neg h1]
    by_cases h2 : i ≤ j ∧ j < m
    · rw [if_pos h2, if_pos (by omega)]
    · rw [if_neg h2, if_neg (by omega)]
theorem t_doDrops_bad {k : Nat} {x : Int32} (hk : V 0 57 = nI k) (h : isF k x = false) : xcall 130 [.ref 163, .int x] (hp q S P A D K X E Z I J V) = some (some (.int (Int32.ofInt (-2))), (hp q S P A D K X E Z I J V)) := by
  rw [N130 _ _ _ (o_m ..)]
  simp (maxSteps := 2000000) (disch := omega) only [e_inl, e_goto, e_fall, e_if, e_icmp, e_iret, e_zret, e_lret, e_vret, e_call0_0, e_call0_1, e_call0_2, e_call0_3, e_call0_4, e_call1_0, e_call1_1, e_call1_2, e_call1_3, e_call1_4, e_call2_0, e_call2_1, e_call2_2, e_call2_3, e_call2_4, e_call3_0, e_call3_1, e_call3_2, e_call3_3, e_call3_4, e_call4_0, e_call4_1, e_call4_2, e_call4_3, e_call4_4, e_call5_0, e_call5_1, e_call5_2, e_call5_3, e_call5_4, e_call6_0, e_call6_1, e_call6_2, e_call6_3, e_call6_4, xP, xld, xst1, xst2, xis2, xii, xid, xll, xlv, xls, xlc, xil, xli, xrd, xdup, xdup2, xc1, xpu, c_eq, c_ne, c_lt, c_ge, c_gt, c_le, Option.bind_some, Option.map_some, List.length_nil, List.length_cons, Nat.reduceAdd, Nat.reduceLeDiff, Int.reduceToNat, Bool.and_self, Bool.false_eq_true, if_true, if_false, D130_0, o_m, g_m_0, g_m_1, g_m_2, g_m_3, g_m_4, g_m_5, g_m_6, g_m_7, g_m_8, g_m_9, g_m_10, g_m_11, g_m_12, g_m_13, g_m_14, g_m_15, g_m_16, g_m_17, g_m_18, g_m_19, g_m_20, g_m_21, p_m_3, p_m_7, p_m_8, p_m_11, p_m_13, p_m_15, p_m_16, p_m_17, p_m_18, p_m_21, p_m_5_0, p_m_5_1, r_m0, s_m0, r_m1, s_m1, r_m2, s_m2, r_m4, s_m4, r_m6, s_m6, r_m9, s_m9, r_m10, s_m10, r_m12, s_m12, r_m14, s_m14, r_m19, s_m19, r_m20, s_m20, decide_true, decide_false, Bool.true_and, Bool.false_and, Bool.and_true, Bool.and_false, zB_tt, zB_ff, not_false_eq_true, not_true_eq_false, n_lit, n_mul, nI_add, n_sub, x_in, nI_clamp, nI_ltI, nI_leI, nI_eq, and_self, true_and, and_true, t_isR hk, h, n_0]
theorem t_doDrops_ok {k i : Nat} (hk : V 0 57 = nI k) (h : i < k) (h8 : k ≤ 8) : xcall 130 [.ref 163, .int (nI i)] (hp q S P A D K X E Z I J V) = some (some (.int (nI (k - 1))), (hp q S P A D K X E Z (upd I 5 (nI 0)) J (vf_upd V 0 (upd (empA (upd (drpA (V 0) (58 + 5 * i) 93) 57 (nI (k - 1))) 4) 98 (nI 0))))) := by
  rw [N130 _ _ _ (o_m ..)]
  simp (maxSteps := 2000000) (disch := omega) only [e_inl, e_goto, e_fall, e_if, e_icmp, e_iret, e_zret, e_lret, e_vret, e_call0_0, e_call0_1, e_call0_2, e_call0_3, e_call0_4, e_call1_0, e_call1_1, e_call1_2, e_call1_3, e_call1_4, e_call2_0, e_call2_1, e_call2_2, e_call2_3, e_call2_4, e_call3_0, e_call3_1, e_call3_2, e_call3_3, e_call3_4, e_call4_0, e_call4_1, e_call4_2, e_call4_3, e_call4_4, e_call5_0, e_call5_1, e_call5_2, e_call5_3, e_call5_4, e_call6_0, e_call6_1, e_call6_2, e_call6_3, e_call6_4, xP, xld, xst1, xst2, xis2, xii, xid, xll, xlv, xls, xlc, xil, xli, xrd, xdup, xdup2, xc1, xpu, c_eq, c_ne, c_lt, c_ge, c_gt, c_le, Option.bind_some, Option.map_some, List.length_nil, List.length_cons, Nat.reduceAdd, Nat.reduceLeDiff, Int.reduceToNat, Bool.and_self, Bool.false_eq_true, if_true, if_false, D130_0, D130_11, o_m, g_m_0, g_m_1, g_m_2, g_m_3, g_m_4, g_m_5, g_m_6, g_m_7, g_m_8, g_m_9, g_m_10, g_m_11, g_m_12, g_m_13, g_m_14, g_m_15, g_m_16, g_m_17, g_m_18, g_m_19, g_m_20, g_m_21, p_m_3, p_m_7, p_m_8, p_m_11, p_m_13, p_m_15, p_m_16, p_m_17, p_m_18, p_m_21, p_m_5_0, p_m_5_1, r_m0, s_m0, r_m1, s_m1, r_m2, s_m2, r_m4, s_m4, r_m6, s_m6, r_m9, s_m9, r_m10, s_m10, r_m12, s_m12, r_m14, s_m14, r_m19, s_m19, r_m20, s_m20, decide_true, decide_false, Bool.true_and, Bool.false_and, Bool.and_true, Bool.and_false, zB_tt, zB_ff, not_false_eq_true, not_true_eq_false, n_lit, n_mul, nI_add, n_sub, x_in, nI_clamp, nI_ltI, nI_leI, nI_eq, and_self, true_and, and_true, t_isR hk, isF_nat h (by omega), n_0, Nat.one_ne_zero]
  have hl := x_loop (i := 130) (pc := 18) (fun m => [some (.ref 163), some (.int (nI i)), some (.int (nI (58 + 5 * i + m)))]) (fun m => (hp q S P A D K X E Z I J (vf_upd V 0 (drpA (V 0) (58 + 5 * i) (58 + 5 * i + m))))) (35 - 5 * i) (fun m hm => by
    rw [D130_18]
    have h1 : ¬ 93 ≤ 58 + 5 * i + m := by omega
    simp (maxSteps := 2000000) (disch := omega) only [e_inl, e_goto, e_fall, e_if, e_icmp, e_iret, e_zret, e_lret, e_vret, e_call0_0, e_call0_1, e_call0_2, e_call0_3, e_call0_4, e_call1_0, e_call1_1, e_call1_2, e_call1_3, e_call1_4, e_call2_0, e_call2_1, e_call2_2, e_call2_3, e_call2_4, e_call3_0, e_call3_1, e_call3_2, e_call3_3, e_call3_4, e_call4_0, e_call4_1, e_call4_2, e_call4_3, e_call4_4, e_call5_0, e_call5_1, e_call5_2, e_call5_3, e_call5_4, e_call6_0, e_call6_1, e_call6_2, e_call6_3, e_call6_4, xP, xld, xst1, xst2, xis2, xii, xid, xll, xlv, xls, xlc, xil, xli, xrd, xdup, xdup2, xc1, xpu, c_eq, c_ne, c_lt, c_ge, c_gt, c_le, Option.bind_some, Option.map_some, List.length_nil, List.length_cons, Nat.reduceAdd, Nat.reduceLeDiff, Int.reduceToNat, Bool.and_self, Bool.false_eq_true, if_true, if_false, o_m, g_m_0, g_m_1, g_m_2, g_m_3, g_m_4, g_m_5, g_m_6, g_m_7, g_m_8, g_m_9, g_m_10, g_m_11, g_m_12, g_m_13, g_m_14, g_m_15, g_m_16, g_m_17, g_m_18, g_m_19, g_m_20, g_m_21, p_m_3, p_m_7, p_m_8, p_m_11, p_m_13, p_m_15, p_m_16, p_m_17, p_m_18, p_m_21, p_m_5_0, p_m_5_1, r_m0, s_m0, r_m1, s_m1, r_m2, s_m2, r_m4, s_m4, r_m6, s_m6, r_m9, s_m9, r_m10, s_m10, r_m12, s_m12, r_m14, s_m14, r_m19, s_m19, r_m20, s_m20, decide_true, decide_false, Bool.true_and, Bool.false_and, Bool.and_true, Bool.and_false, zB_tt, zB_ff, not_false_eq_true, not_true_eq_false, n_lit, n_mul, nI_add, n_sub, x_in, nI_clamp, nI_ltI, nI_leI, nI_eq, and_self, true_and, and_true, h1, vu_s, vu_vu, drpA_at, drpA_succ, ← Nat.add_assoc])
  simp only [Nat.add_zero, drpA_0, vu_id] at hl
  rw [hl, D130_18]
  have e : 58 + 5 * i + (35 - 5 * i) = 93 := by omega
  have e57 : drpA (V 0) (58 + 5 * i) 93 57 = nI k := by rw [← hk]; exact if_neg (by omega)
  simp (maxSteps := 2000000) (disch := omega) only [e_inl, e_goto, e_fall, e_if, e_icmp, e_iret, e_zret, e_lret, e_vret, e_call0_0, e_call0_1, e_call0_2, e_call0_3, e_call0_4, e_call1_0, e_call1_1, e_call1_2, e_call1_3, e_call1_4, e_call2_0, e_call2_1, e_call2_2, e_call2_3, e_call2_4, e_call3_0, e_call3_1, e_call3_2, e_call3_3, e_call3_4, e_call4_0, e_call4_1, e_call4_2, e_call4_3, e_call4_4, e_call5_0, e_call5_1, e_call5_2, e_call5_3, e_call5_4, e_call6_0, e_call6_1, e_call6_2, e_call6_3, e_call6_4, xP, xld, xst1, xst2, xis2, xii, xid, xll, xlv, xls, xlc, xil, xli, xrd, xdup, xdup2, xc1, xpu, c_eq, c_ne, c_lt, c_ge, c_gt, c_le, Option.bind_some, Option.map_some, List.length_nil, List.length_cons, Nat.reduceAdd, Nat.reduceLeDiff, Int.reduceToNat, Bool.and_self, Bool.false_eq_true, if_true, if_false, D130_44, o_m, g_m_0, g_m_1, g_m_2, g_m_3, g_m_4, g_m_5, g_m_6, g_m_7, g_m_8, g_m_9, g_m_10, g_m_11, g_m_12, g_m_13, g_m_14, g_m_15, g_m_16, g_m_17, g_m_18, g_m_19, g_m_20, g_m_21, p_m_3, p_m_7, p_m_8, p_m_11, p_m_13, p_m_15, p_m_16, p_m_17, p_m_18, p_m_21, p_m_5_0, p_m_5_1, r_m0, s_m0, r_m1, s_m1, r_m2, s_m2, r_m4, s_m4, r_m6, s_m6, r_m9, s_m9, r_m10, s_m10, r_m12, s_m12, r_m14, s_m14, r_m19, s_m19, r_m20, s_m20, decide_true, decide_false, Bool.true_and, Bool.false_and, Bool.and_true, Bool.and_false, zB_tt, zB_ff, not_false_eq_true, not_true_eq_false, n_lit, n_mul, nI_add, n_sub, x_in, nI_clamp, nI_ltI, nI_leI, nI_eq, and_self, true_and, and_true, e, Nat.le_refl, vu_s, vu_vu, e57, t_empty, u_n, u_s, empA_out]
end
end
section
/-! ===== the reference: the order ===== -/
theorem n_m1 (d : Nat) : nI (d + 1) + Int32.ofInt (-1) = nI d := by
  have e : Int32.ofInt (-1) = -1 := by decide
  rw [e, ← Int32.sub_eq_add_neg]
  exact nI_pred d
section
variable {q : Nat × (Nat → Int32)} {S : Nat → xSt} {P : Int32 × (Nat → Nat)} {A : (Nat → Int64) × Int32 × Int32 × (Nat → Int64) × (Nat → Nat → Int64)} {D : (Nat → Int64) × Int64} {K : Nat → Int64} {X : Int32 × Int32 × Int32 × (Nat → Int32) × (Nat → Int32)} {E Z : Nat → Int32} {I : Nat → Int32} {J : Nat → Int64} {V : Nat → Nat → Int32}
theorem t_placeOf {f p : Nat} (hp0 : V 0 (53 + p) = nI f) (hne : ∀ j, j < p → V 0 (53 + j) ≠ nI f) (hp4 : p < 4) : xcall 135 [.ref 163, .int (nI f)] (hp q S P A D K X E Z I J V) = some (some (.int (nI p)), (hp q S P A D K X E Z I J V)) := by
  rw [N135 _ _ _ (o_m ..)]
  simp (maxSteps := 2000000) (disch := omega) only [e_inl, e_goto, e_fall, e_if, e_icmp, e_iret, e_zret, e_lret, e_vret, e_call0_0, e_call0_1, e_call0_2, e_call0_3, e_call0_4, e_call1_0, e_call1_1, e_call1_2, e_call1_3, e_call1_4, e_call2_0, e_call2_1, e_call2_2, e_call2_3, e_call2_4, e_call3_0, e_call3_1, e_call3_2, e_call3_3, e_call3_4, e_call4_0, e_call4_1, e_call4_2, e_call4_3, e_call4_4, e_call5_0, e_call5_1, e_call5_2, e_call5_3, e_call5_4, e_call6_0, e_call6_1, e_call6_2, e_call6_3, e_call6_4, xP, xld, xst1, xst2, xis2, xii, xid, xll, xlv, xls, xlc, xil, xli, xrd, xdup, xdup2, xc1, xpu, c_eq, c_ne, c_lt, c_ge, c_gt, c_le, Option.bind_some, Option.map_some, List.length_nil, List.length_cons, Nat.reduceAdd, Nat.reduceLeDiff, Int.reduceToNat, Bool.and_self, Bool.false_eq_true, if_true, if_false, D135_0, o_m, g_m_0, g_m_1, g_m_2, g_m_3, g_m_4, g_m_5, g_m_6, g_m_7, g_m_8, g_m_9, g_m_10, g_m_11, g_m_12, g_m_13, g_m_14, g_m_15, g_m_16, g_m_17, g_m_18, g_m_19, g_m_20, g_m_21, p_m_3, p_m_7, p_m_8, p_m_11, p_m_13, p_m_15, p_m_16, p_m_17, p_m_18, p_m_21, p_m_5_0, p_m_5_1, r_m0, s_m0, r_m1, s_m1, r_m2, s_m2, r_m4, s_m4, r_m6, s_m6, r_m9, s_m9, r_m10, s_m10, r_m12, s_m12, r_m14, s_m14, r_m19, s_m19, r_m20, s_m20, decide_true, decide_false, Bool.true_and, Bool.false_and, Bool.and_true, Bool.and_false, zB_tt, zB_ff, not_false_eq_true, not_true_eq_false, n_lit, n_mul, nI_add, n_sub, x_in, nI_clamp, nI_ltI, nI_leI, nI_eq, and_self, true_and, and_true]
  have hl := x_loop (i := 135) (pc := 2) (fun k => [some (.ref 163), some (.int (nI f)), some (.int (nI k))]) (fun k => (hp q S P A D K X E Z I J V)) p (fun k hk => by
    rw [D135_2]
    have h1 := hne k hk
    simp (maxSteps := 2000000) (disch := omega) only [e_inl, e_goto, e_fall, e_if, e_icmp, e_iret, e_zret, e_lret, e_vret, e_call0_0, e_call0_1, e_call0_2, e_call0_3, e_call0_4, e_call1_0, e_call1_1, e_call1_2, e_call1_3, e_call1_4, e_call2_0, e_call2_1, e_call2_2, e_call2_3, e_call2_4, e_call3_0, e_call3_1, e_call3_2, e_call3_3, e_call3_4, e_call4_0, e_call4_1, e_call4_2, e_call4_3, e_call4_4, e_call5_0, e_call5_1, e_call5_2, e_call5_3, e_call5_4, e_call6_0, e_call6_1, e_call6_2, e_call6_3, e_call6_4, xP, xld, xst1, xst2, xis2, xii, xid, xll, xlv, xls, xlc, xil, xli, xrd, xdup, xdup2, xc1, xpu, c_eq, c_ne, c_lt, c_ge, c_gt, c_le, Option.bind_some, Option.map_some, List.length_nil, List.length_cons, Nat.reduceAdd, Nat.reduceLeDiff, Int.reduceToNat, Bool.and_self, Bool.false_eq_true, if_true, if_false, o_m, g_m_0, g_m_1, g_m_2, g_m_3, g_m_4, g_m_5, g_m_6, g_m_7, g_m_8, g_m_9, g_m_10, g_m_11, g_m_12, g_m_13, g_m_14, g_m_15, g_m_16, g_m_17, g_m_18, g_m_19, g_m_20, g_m_21, p_m_3, p_m_7, p_m_8, p_m_11, p_m_13, p_m_15, p_m_16, p_m_17, p_m_18, p_m_21, p_m_5_0, p_m_5_1, r_m0, s_m0, r_m1, s_m1, r_m2, s_m2, r_m4, s_m4, r_m6, s_m6, r_m9, s_m9, r_m10, s_m10, r_m12, s_m12, r_m14, s_m14, r_m19, s_m19, r_m20, s_m20, decide_true, decide_false, Bool.true_and, Bool.false_and, Bool.and_true, Bool.and_false, zB_tt, zB_ff, not_false_eq_true, not_true_eq_false, n_lit, n_mul, nI_add, n_sub, x_in, nI_clamp, nI_ltI, nI_leI, nI_eq, and_self, true_and, and_true, h1])
  rw [hl, D135_2]
  simp (maxSteps := 2000000) (disch := omega) only [e_inl, e_goto, e_fall, e_if, e_icmp, e_iret, e_zret, e_lret, e_vret, e_call0_0, e_call0_1, e_call0_2, e_call0_3, e_call0_4, e_call1_0, e_call1_1, e_call1_2, e_call1_3, e_call1_4, e_call2_0, e_call2_1, e_call2_2, e_call2_3, e_call2_4, e_call3_0, e_call3_1, e_call3_2, e_call3_3, e_call3_4, e_call4_0, e_call4_1, e_call4_2, e_call4_3, e_call4_4, e_call5_0, e_call5_1, e_call5_2, e_call5_3, e_call5_4, e_call6_0, e_call6_1, e_call6_2, e_call6_3, e_call6_4, xP, xld, xst1, xst2, xis2, xii, xid, xll, xlv, xls, xlc, xil, xli, xrd, xdup, xdup2, xc1, xpu, c_eq, c_ne, c_lt, c_ge, c_gt, c_le, Option.bind_some, Option.map_some, List.length_nil, List.length_cons, Nat.reduceAdd, Nat.reduceLeDiff, Int.reduceToNat, Bool.and_self, Bool.false_eq_true, if_true, if_false, D135_21, o_m, g_m_0, g_m_1, g_m_2, g_m_3, g_m_4, g_m_5, g_m_6, g_m_7, g_m_8, g_m_9, g_m_10, g_m_11, g_m_12, g_m_13, g_m_14, g_m_15, g_m_16, g_m_17, g_m_18, g_m_19, g_m_20, g_m_21, p_m_3, p_m_7, p_m_8, p_m_11, p_m_13, p_m_15, p_m_16, p_m_17, p_m_18, p_m_21, p_m_5_0, p_m_5_1, r_m0, s_m0, r_m1, s_m1, r_m2, s_m2, r_m4, s_m4, r_m6, s_m6, r_m9, s_m9, r_m10, s_m10, r_m12, s_m12, r_m14, s_m14, r_m19, s_m19, r_m20, s_m20, decide_true, decide_false, Bool.true_and, Bool.false_and, Bool.and_true, Bool.and_false, zB_tt, zB_ff, not_false_eq_true, not_true_eq_false, n_lit, n_mul, nI_add, n_sub, x_in, nI_clamp, nI_ltI, nI_leI, nI_eq, and_self, true_and, and_true, hp0]
/-- the order with the field at place w brought to place p: shifts up to k -/
def upA (a : Nat → Int32) (w k : Nat) : Nat → Int32 := fun j => if 53 + w ≤ j ∧ j < 53 + k then a (j + 1) else a j
theorem upA_0 (a : Nat → Int32) (w : Nat) : upA a w w = a := funext fun j => if_neg (by omega)
theorem upA_at (a : Nat → Int32) (w k : Nat) : upA a w k (53 + k + 1) = a (53 + k + 1) := if_neg (by omega)
theorem upA_succ (a : Nat → Int32) {w k : Nat} (h : w ≤ k) : upd (upA a w k) (53 + k) (a (53 + k + 1)) = upA a w (k + 1) := by
  funext j
  unfold upd upA
  by_cases h1 : j = 53 + k
  · subst h1
    rw [if_pos rfl, if_pos (by omega)]
  · rw [if_neg h1]
    by_cases h2 : 53 + w ≤ j ∧ j < 53 + k
    · rw [if_pos h2, if_pos (by omega)]
    · rw [if_neg h2, if_neg (by omega)]
def dnA (a : Nat → Int32) (w k : Nat) : Nat → Int32 := fun j => if 53 + k < j ∧ j ≤ 53 + w then a (j - 1) else a j
theorem dnA_0 (a : Nat → Int32) (w : Nat) : dnA a w w = a := funext fun j => if_neg (by omega)
theorem dnA_at (a : Nat → Int32) {w k : Nat} : dnA a w (k + 1) (53 + k) = a (53 + k) := if_neg (by omega)
theorem dnA_succ (a : Nat → Int32) {w k : Nat} (h : k + 1 ≤ w) : upd (dnA a w (k + 1)) (53 + (k + 1)) (a (53 + k)) = dnA a w k := by
  funext j
  unfold upd dnA
  by_cases h1 : j = 53 + (k + 1)
  · subst h1
    rw [if_pos rfl, if_pos (by omega)]
    rfl
  · rw [if_neg h1]
    by_cases h2 : 53 + (k + 1) < j ∧ j ≤ 53 + w
    · rw [if_pos h2, if_pos (by omega)]
    · rw [if_neg h2, if_neg (by omega)]
theorem t_orders_36 {f p w m : Nat} (hw : w < 4) (hp4 : p < 4) (hm : m = if w ≤ p then p else w) : den 136 36 [some (.ref 163), some (.int (nI f)), some (.int (nI p)), some (.int (nI w)), some (.int (nI w))] [] (hp q S P A D K X E Z I J V) = den 136 70 [some (.ref 163), some (.int (nI f)), some (.int (nI p)), some (.int (nI w)), some (.int (nI m))] [] (hp q S P A D K X E Z I J (vf_upd V 0 (upA (V 0) w m))) := by
  have hl := x_loop (i := 136) (pc := 36) (fun k => [some (.ref 163), some (.int (nI f)), some (.int (nI p)), some (.int (nI w)), some (.int (nI (w + k)))]) (fun k => (hp q S P A D K X E Z I J (vf_upd V 0 (upA (V 0) w (w + k))))) (m - w) (fun k hk => by
    rw [D136_36]
    have h1 : ¬ p ≤ w + k := by
      split at hm <;> omega
    have h2 := upA_succ (V 0) (w := w) (k := w + k) (by omega)
    simp (maxSteps := 2000000) (disch := omega) only [e_inl, e_goto, e_fall, e_if, e_icmp, e_iret, e_zret, e_lret, e_vret, e_call0_0, e_call0_1, e_call0_2, e_call0_3, e_call0_4, e_call1_0, e_call1_1, e_call1_2, e_call1_3, e_call1_4, e_call2_0, e_call2_1, e_call2_2, e_call2_3, e_call2_4, e_call3_0, e_call3_1, e_call3_2, e_call3_3, e_call3_4, e_call4_0, e_call4_1, e_call4_2, e_call4_3, e_call4_4, e_call5_0, e_call5_1, e_call5_2, e_call5_3, e_call5_4, e_call6_0, e_call6_1, e_call6_2, e_call6_3, e_call6_4, xP, xld, xst1, xst2, xis2, xii, xid, xll, xlv, xls, xlc, xil, xli, xrd, xdup, xdup2, xc1, xpu, c_eq, c_ne, c_lt, c_ge, c_gt, c_le, Option.bind_some, Option.map_some, List.length_nil, List.length_cons, Nat.reduceAdd, Nat.reduceLeDiff, Int.reduceToNat, Bool.and_self, Bool.false_eq_true, if_true, if_false, o_m, g_m_0, g_m_1, g_m_2, g_m_3, g_m_4, g_m_5, g_m_6, g_m_7, g_m_8, g_m_9, g_m_10, g_m_11, g_m_12, g_m_13, g_m_14, g_m_15, g_m_16, g_m_17, g_m_18, g_m_19, g_m_20, g_m_21, p_m_3, p_m_7, p_m_8, p_m_11, p_m_13, p_m_15, p_m_16, p_m_17, p_m_18, p_m_21, p_m_5_0, p_m_5_1, r_m0, s_m0, r_m1, s_m1, r_m2, s_m2, r_m4, s_m4, r_m6, s_m6, r_m9, s_m9, r_m10, s_m10, r_m12, s_m12, r_m14, s_m14, r_m19, s_m19, r_m20, s_m20, decide_true, decide_false, Bool.true_and, Bool.false_and, Bool.and_true, Bool.and_false, zB_tt, zB_ff, not_false_eq_true, not_true_eq_false, n_lit, n_mul, nI_add, n_sub, x_in, nI_clamp, nI_ltI, nI_leI, nI_eq, and_self, true_and, and_true, h1, vu_s, vu_vu, ← Nat.add_assoc] at h2 ⊢
    have h3 := upA_at (V 0) w (w + k)
    simp only [← Nat.add_assoc] at h3
    rw [h3, h2])
  simp only [Nat.add_zero, upA_0, vu_id] at hl
  have e : w + (m - w) = m := by split at hm <;> omega
  have h4 : p ≤ m := by split at hm <;> omega
  have hm4 : m < 4 := by split at hm <;> omega
  rw [hl, e, D136_36]
  simp (maxSteps := 2000000) (disch := omega) only [e_inl, e_goto, e_fall, e_if, e_icmp, e_iret, e_zret, e_lret, e_vret, e_call0_0, e_call0_1, e_call0_2, e_call0_3, e_call0_4, e_call1_0, e_call1_1, e_call1_2, e_call1_3, e_call1_4, e_call2_0, e_call2_1, e_call2_2, e_call2_3, e_call2_4, e_call3_0, e_call3_1, e_call3_2, e_call3_3, e_call3_4, e_call4_0, e_call4_1, e_call4_2, e_call4_3, e_call4_4, e_call5_0, e_call5_1, e_call5_2, e_call5_3, e_call5_4, e_call6_0, e_call6_1, e_call6_2, e_call6_3, e_call6_4, xP, xld, xst1, xst2, xis2, xii, xid, xll, xlv, xls, xlc, xil, xli, xrd, xdup, xdup2, xc1, xpu, c_eq, c_ne, c_lt, c_ge, c_gt, c_le, Option.bind_some, Option.map_some, List.length_nil, List.length_cons, Nat.reduceAdd, Nat.reduceLeDiff, Int.reduceToNat, Bool.and_self, Bool.false_eq_true, if_true, if_false, o_m, g_m_0, g_m_1, g_m_2, g_m_3, g_m_4, g_m_5, g_m_6, g_m_7, g_m_8, g_m_9, g_m_10, g_m_11, g_m_12, g_m_13, g_m_14, g_m_15, g_m_16, g_m_17, g_m_18, g_m_19, g_m_20, g_m_21, p_m_3, p_m_7, p_m_8, p_m_11, p_m_13, p_m_15, p_m_16, p_m_17, p_m_18, p_m_21, p_m_5_0, p_m_5_1, r_m0, s_m0, r_m1, s_m1, r_m2, s_m2, r_m4, s_m4, r_m6, s_m6, r_m9, s_m9, r_m10, s_m10, r_m12, s_m12, r_m14, s_m14, r_m19, s_m19, r_m20, s_m20, decide_true, decide_false, Bool.true_and, Bool.false_and, Bool.and_true, Bool.and_false, zB_tt, zB_ff, not_false_eq_true, not_true_eq_false, n_lit, n_mul, nI_add, n_sub, x_in, nI_clamp, nI_ltI, nI_leI, nI_eq, and_self, true_and, and_true, h4]
theorem t_orders_73 {f p w m : Nat} (hw : w < 4) (hp4 : p < 4) (hm : m = if p ≤ w then p else w) : den 136 73 [some (.ref 163), some (.int (nI f)), some (.int (nI p)), some (.int (nI w)), some (.int (nI w))] [] (hp q S P A D K X E Z I J V) = den 136 107 [some (.ref 163), some (.int (nI f)), some (.int (nI p)), some (.int (nI w)), some (.int (nI m))] [] (hp q S P A D K X E Z I J (vf_upd V 0 (dnA (V 0) w m))) := by
  have hl := x_loop (i := 136) (pc := 73) (fun k => [some (.ref 163), some (.int (nI f)), some (.int (nI p)), some (.int (nI w)), some (.int (nI (w - k)))]) (fun k => (hp q S P A D K X E Z I J (vf_upd V 0 (dnA (V 0) w (w - k))))) (w - m) (fun k hk => by
    rw [D136_73]
    obtain ⟨d, hd⟩ : ∃ d, w - k = d + 1 := ⟨w - k - 1, by omega⟩
    have hd2 : w - (k + 1) = d := by omega
    have h1 : ¬ d + 1 ≤ p := by split at hm <;> omega
    rw [hd, hd2]
    have h2 := dnA_succ (V 0) (w := w) (k := d) (by omega)
    have h3 := dnA_at (V 0) (w := w) (k := d)
    have h4 := n_m1 d
    have h5 : 53 + (d + 1) - 1 = 53 + d := by omega
    simp (maxSteps := 2000000) (disch := omega) only [e_inl, e_goto, e_fall, e_if, e_icmp, e_iret, e_zret, e_lret, e_vret, e_call0_0, e_call0_1, e_call0_2, e_call0_3, e_call0_4, e_call1_0, e_call1_1, e_call1_2, e_call1_3, e_call1_4, e_call2_0, e_call2_1, e_call2_2, e_call2_3, e_call2_4, e_call3_0, e_call3_1, e_call3_2, e_call3_3, e_call3_4, e_call4_0, e_call4_1, e_call4_2, e_call4_3, e_call4_4, e_call5_0, e_call5_1, e_call5_2, e_call5_3, e_call5_4, e_call6_0, e_call6_1, e_call6_2, e_call6_3, e_call6_4, xP, xld, xst1, xst2, xis2, xii, xid, xll, xlv, xls, xlc, xil, xli, xrd, xdup, xdup2, xc1, xpu, c_eq, c_ne, c_lt, c_ge, c_gt, c_le, Option.bind_some, Option.map_some, List.length_nil, List.length_cons, Nat.reduceAdd, Nat.reduceLeDiff, Int.reduceToNat, Bool.and_self, Bool.false_eq_true, if_true, if_false, o_m, g_m_0, g_m_1, g_m_2, g_m_3, g_m_4, g_m_5, g_m_6, g_m_7, g_m_8, g_m_9, g_m_10, g_m_11, g_m_12, g_m_13, g_m_14, g_m_15, g_m_16, g_m_17, g_m_18, g_m_19, g_m_20, g_m_21, p_m_3, p_m_7, p_m_8, p_m_11, p_m_13, p_m_15, p_m_16, p_m_17, p_m_18, p_m_21, p_m_5_0, p_m_5_1, r_m0, s_m0, r_m1, s_m1, r_m2, s_m2, r_m4, s_m4, r_m6, s_m6, r_m9, s_m9, r_m10, s_m10, r_m12, s_m12, r_m14, s_m14, r_m19, s_m19, r_m20, s_m20, decide_true, decide_false, Bool.true_and, Bool.false_and, Bool.and_true, Bool.and_false, zB_tt, zB_ff, not_false_eq_true, not_true_eq_false, n_lit, n_mul, nI_add, n_sub, x_in, nI_clamp, nI_ltI, nI_leI, nI_eq, and_self, true_and, and_true, h1, vu_s, vu_vu, h4, h5, h3, h2])
  simp only [Nat.sub_zero, dnA_0, vu_id] at hl
  have e : w - (w - m) = m := by split at hm <;> omega
  have h4 : m ≤ p := by split at hm <;> omega
  have hm4 : m < 4 := by split at hm <;> omega
  rw [hl, e, D136_73]
  simp (maxSteps := 2000000) (disch := omega) only [e_inl, e_goto, e_fall, e_if, e_icmp, e_iret, e_zret, e_lret, e_vret, e_call0_0, e_call0_1, e_call0_2, e_call0_3, e_call0_4, e_call1_0, e_call1_1, e_call1_2, e_call1_3, e_call1_4, e_call2_0, e_call2_1, e_call2_2, e_call2_3, e_call2_4, e_call3_0, e_call3_1, e_call3_2, e_call3_3, e_call3_4, e_call4_0, e_call4_1, e_call4_2, e_call4_3, e_call4_4, e_call5_0, e_call5_1, e_call5_2, e_call5_3, e_call5_4, e_call6_0, e_call6_1, e_call6_2, e_call6_3, e_call6_4, xP, xld, xst1, xst2, xis2, xii, xid, xll, xlv, xls, xlc, xil, xli, xrd, xdup, xdup2, xc1, xpu, c_eq, c_ne, c_lt, c_ge, c_gt, c_le, Option.bind_some, Option.map_some, List.length_nil, List.length_cons, Nat.reduceAdd, Nat.reduceLeDiff, Int.reduceToNat, Bool.and_self, Bool.false_eq_true, if_true, if_false, o_m, g_m_0, g_m_1, g_m_2, g_m_3, g_m_4, g_m_5, g_m_6, g_m_7, g_m_8, g_m_9, g_m_10, g_m_11, g_m_12, g_m_13, g_m_14, g_m_15, g_m_16, g_m_17, g_m_18, g_m_19, g_m_20, g_m_21, p_m_3, p_m_7, p_m_8, p_m_11, p_m_13, p_m_15, p_m_16, p_m_17, p_m_18, p_m_21, p_m_5_0, p_m_5_1, r_m0, s_m0, r_m1, s_m1, r_m2, s_m2, r_m4, s_m4, r_m6, s_m6, r_m9, s_m9, r_m10, s_m10, r_m12, s_m12, r_m14, s_m14, r_m19, s_m19, r_m20, s_m20, decide_true, decide_false, Bool.true_and, Bool.false_and, Bool.and_true, Bool.and_false, zB_tt, zB_ff, not_false_eq_true, not_true_eq_false, n_lit, n_mul, nI_add, n_sub, x_in, nI_clamp, nI_ltI, nI_leI, nI_eq, and_self, true_and, and_true, h4]
/-- the order with field f, at place w, brought to place p -/
def ordA (a : Nat → Int32) (w p : Nat) (x : Int32) : Nat → Int32 := upd (if w ≤ p then upA a w p else dnA a w p) (53 + p) x
theorem t_orders_bad {n : Nat} {f p : Int32} (hn : V 0 0 = nI n) (h : (isF n f && isF n p) = false) : xcall 136 [.ref 163, .int f, .int p] (hp q S P A D K X E Z I J V) = some (some (.int (Int32.ofInt (-2))), (hp q S P A D K X E Z I J (vf_upd V 4 (upd (V 4) 0 (V 4 0 + nI 1))))) := by
  rw [N136 _ _ _ _ (o_m ..)]
  cases h1 : isF n f
  · simp (maxSteps := 2000000) (disch := omega) only [e_inl, e_goto, e_fall, e_if, e_icmp, e_iret, e_zret, e_lret, e_vret, e_call0_0, e_call0_1, e_call0_2, e_call0_3, e_call0_4, e_call1_0, e_call1_1, e_call1_2, e_call1_3, e_call1_4, e_call2_0, e_call2_1, e_call2_2, e_call2_3, e_call2_4, e_call3_0, e_call3_1, e_call3_2, e_call3_3, e_call3_4, e_call4_0, e_call4_1, e_call4_2, e_call4_3, e_call4_4, e_call5_0, e_call5_1, e_call5_2, e_call5_3, e_call5_4, e_call6_0, e_call6_1, e_call6_2, e_call6_3, e_call6_4, xP, xld, xst1, xst2, xis2, xii, xid, xll, xlv, xls, xlc, xil, xli, xrd, xdup, xdup2, xc1, xpu, c_eq, c_ne, c_lt, c_ge, c_gt, c_le, Option.bind_some, Option.map_some, List.length_nil, List.length_cons, Nat.reduceAdd, Nat.reduceLeDiff, Int.reduceToNat, Bool.and_self, Bool.false_eq_true, if_true, if_false, D136_0, D136_16, o_m, g_m_0, g_m_1, g_m_2, g_m_3, g_m_4, g_m_5, g_m_6, g_m_7, g_m_8, g_m_9, g_m_10, g_m_11, g_m_12, g_m_13, g_m_14, g_m_15, g_m_16, g_m_17, g_m_18, g_m_19, g_m_20, g_m_21, p_m_3, p_m_7, p_m_8, p_m_11, p_m_13, p_m_15, p_m_16, p_m_17, p_m_18, p_m_21, p_m_5_0, p_m_5_1, r_m0, s_m0, r_m1, s_m1, r_m2, s_m2, r_m4, s_m4, r_m6, s_m6, r_m9, s_m9, r_m10, s_m10, r_m12, s_m12, r_m14, s_m14, r_m19, s_m19, r_m20, s_m20, decide_true, decide_false, Bool.true_and, Bool.false_and, Bool.and_true, Bool.and_false, zB_tt, zB_ff, not_false_eq_true, not_true_eq_false, n_lit, n_mul, nI_add, n_sub, x_in, nI_clamp, nI_ltI, nI_leI, nI_eq, and_self, true_and, and_true, t_isF hn, h1, n_0, t_ref2]
  · cases h2 : isF n p
    · simp (maxSteps := 2000000) (disch := omega) only [e_inl, e_goto, e_fall, e_if, e_icmp, e_iret, e_zret, e_lret, e_vret, e_call0_0, e_call0_1, e_call0_2, e_call0_3, e_call0_4, e_call1_0, e_call1_1, e_call1_2, e_call1_3, e_call1_4, e_call2_0, e_call2_1, e_call2_2, e_call2_3, e_call2_4, e_call3_0, e_call3_1, e_call3_2, e_call3_3, e_call3_4, e_call4_0, e_call4_1, e_call4_2, e_call4_3, e_call4_4, e_call5_0, e_call5_1, e_call5_2, e_call5_3, e_call5_4, e_call6_0, e_call6_1, e_call6_2, e_call6_3, e_call6_4, xP, xld, xst1, xst2, xis2, xii, xid, xll, xlv, xls, xlc, xil, xli, xrd, xdup, xdup2, xc1, xpu, c_eq, c_ne, c_lt, c_ge, c_gt, c_le, Option.bind_some, Option.map_some, List.length_nil, List.length_cons, Nat.reduceAdd, Nat.reduceLeDiff, Int.reduceToNat, Bool.and_self, Bool.false_eq_true, if_true, if_false, D136_0, D136_16, o_m, g_m_0, g_m_1, g_m_2, g_m_3, g_m_4, g_m_5, g_m_6, g_m_7, g_m_8, g_m_9, g_m_10, g_m_11, g_m_12, g_m_13, g_m_14, g_m_15, g_m_16, g_m_17, g_m_18, g_m_19, g_m_20, g_m_21, p_m_3, p_m_7, p_m_8, p_m_11, p_m_13, p_m_15, p_m_16, p_m_17, p_m_18, p_m_21, p_m_5_0, p_m_5_1, r_m0, s_m0, r_m1, s_m1, r_m2, s_m2, r_m4, s_m4, r_m6, s_m6, r_m9, s_m9, r_m10, s_m10, r_m12, s_m12, r_m14, s_m14, r_m19, s_m19, r_m20, s_m20, decide_true, decide_false, Bool.true_and, Bool.false_and, Bool.and_true, Bool.and_false, zB_tt, zB_ff, not_false_eq_true, not_true_eq_false, n_lit, n_mul, nI_add, n_sub, x_in, nI_clamp, nI_ltI, nI_leI, nI_eq, and_self, true_and, and_true, t_isF hn, h1, h2, n_0, Nat.one_ne_zero, t_ref2]
    · rw [h1, h2] at h
      cases h
theorem t_orders_mid {n f p w : Nat} (hn : V 0 0 = nI n) (hn4 : n ≤ 4) (hf : f < n) (hp4 : p < n) (hw : w < n) (hw0 : V 0 (53 + w) = nI f) (hne : ∀ j, j < w → V 0 (53 + j) ≠ nI f) : xcall 136 [.ref 163, .int (nI f), .int (nI p)] (hp q S P A D K X E Z I J V) = den 136 107 [some (.ref 163), some (.int (nI f)), some (.int (nI p)), some (.int (nI w)), some (.int (nI (if p ≤ w then p else w)))] [] (hp q S P A D K X E Z I J (vf_upd (vf_upd V 1 (fa_fill (V 0) (V 1) 115)) 0 (if w ≤ p then upA (V 0) w p else dnA (V 0) w p))) := by
  rw [N136 _ _ _ _ (o_m ..)]
  have e1 := t_placeOf (q := q) (S := S) (P := P) (A := A) (D := D) (K := K) (X := X) (E := E) (Z := Z) (I := I) (J := J) (V := vf_upd V 1 (fa_fill (V 0) (V 1) 115)) (f := f) (p := w) (by rw [vu_n _ _ (by omega)]; exact hw0) (fun j hj => by rw [vu_n _ _ (by omega)]; exact hne j hj) (by omega)
  simp (maxSteps := 2000000) (disch := omega) only [e_inl, e_goto, e_fall, e_if, e_icmp, e_iret, e_zret, e_lret, e_vret, e_call0_0, e_call0_1, e_call0_2, e_call0_3, e_call0_4, e_call1_0, e_call1_1, e_call1_2, e_call1_3, e_call1_4, e_call2_0, e_call2_1, e_call2_2, e_call2_3, e_call2_4, e_call3_0, e_call3_1, e_call3_2, e_call3_3, e_call3_4, e_call4_0, e_call4_1, e_call4_2, e_call4_3, e_call4_4, e_call5_0, e_call5_1, e_call5_2, e_call5_3, e_call5_4, e_call6_0, e_call6_1, e_call6_2, e_call6_3, e_call6_4, xP, xld, xst1, xst2, xis2, xii, xid, xll, xlv, xls, xlc, xil, xli, xrd, xdup, xdup2, xc1, xpu, c_eq, c_ne, c_lt, c_ge, c_gt, c_le, Option.bind_some, Option.map_some, List.length_nil, List.length_cons, Nat.reduceAdd, Nat.reduceLeDiff, Int.reduceToNat, Bool.and_self, Bool.false_eq_true, if_true, if_false, D136_0, D136_23, o_m, g_m_0, g_m_1, g_m_2, g_m_3, g_m_4, g_m_5, g_m_6, g_m_7, g_m_8, g_m_9, g_m_10, g_m_11, g_m_12, g_m_13, g_m_14, g_m_15, g_m_16, g_m_17, g_m_18, g_m_19, g_m_20, g_m_21, p_m_3, p_m_7, p_m_8, p_m_11, p_m_13, p_m_15, p_m_16, p_m_17, p_m_18, p_m_21, p_m_5_0, p_m_5_1, r_m0, s_m0, r_m1, s_m1, r_m2, s_m2, r_m4, s_m4, r_m6, s_m6, r_m9, s_m9, r_m10, s_m10, r_m12, s_m12, r_m14, s_m14, r_m19, s_m19, r_m20, s_m20, decide_true, decide_false, Bool.true_and, Bool.false_and, Bool.and_true, Bool.and_false, zB_tt, zB_ff, not_false_eq_true, not_true_eq_false, n_lit, n_mul, nI_add, n_sub, x_in, nI_clamp, nI_ltI, nI_leI, nI_eq, and_self, true_and, and_true, t_isF hn, isF_nat hf (by omega), isF_nat hp4 (by omega), n_0, Nat.one_ne_zero, t_hold, e1]
  rw [t_orders_36 (m := if w ≤ p then p else w) (by omega) (by omega) rfl, D136_70]
  simp (maxSteps := 2000000) (disch := omega) only [e_inl, e_goto, e_fall, e_if, e_icmp, e_iret, e_zret, e_lret, e_vret, e_call0_0, e_call0_1, e_call0_2, e_call0_3, e_call0_4, e_call1_0, e_call1_1, e_call1_2, e_call1_3, e_call1_4, e_call2_0, e_call2_1, e_call2_2, e_call2_3, e_call2_4, e_call3_0, e_call3_1, e_call3_2, e_call3_3, e_call3_4, e_call4_0, e_call4_1, e_call4_2, e_call4_3, e_call4_4, e_call5_0, e_call5_1, e_call5_2, e_call5_3, e_call5_4, e_call6_0, e_call6_1, e_call6_2, e_call6_3, e_call6_4, xP, xld, xst1, xst2, xis2, xii, xid, xll, xlv, xls, xlc, xil, xli, xrd, xdup, xdup2, xc1, xpu, c_eq, c_ne, c_lt, c_ge, c_gt, c_le, Option.bind_some, Option.map_some, List.length_nil, List.length_cons, Nat.reduceAdd, Nat.reduceLeDiff, Int.reduceToNat, Bool.and_self, Bool.false_eq_true, if_true, if_false, o_m, g_m_0, g_m_1, g_m_2, g_m_3, g_m_4, g_m_5, g_m_6, g_m_7, g_m_8, g_m_9, g_m_10, g_m_11, g_m_12, g_m_13, g_m_14, g_m_15, g_m_16, g_m_17, g_m_18, g_m_19, g_m_20, g_m_21, p_m_3, p_m_7, p_m_8, p_m_11, p_m_13, p_m_15, p_m_16, p_m_17, p_m_18, p_m_21, p_m_5_0, p_m_5_1, r_m0, s_m0, r_m1, s_m1, r_m2, s_m2, r_m4, s_m4, r_m6, s_m6, r_m9, s_m9, r_m10, s_m10, r_m12, s_m12, r_m14, s_m14, r_m19, s_m19, r_m20, s_m20, decide_true, decide_false, Bool.true_and, Bool.false_and, Bool.and_true, Bool.and_false, zB_tt, zB_ff, not_false_eq_true, not_true_eq_false, n_lit, n_mul, nI_add, n_sub, x_in, nI_clamp, nI_ltI, nI_leI, nI_eq, and_self, true_and, and_true]
  rw [t_orders_73 (m := if p ≤ w then p else w) (by omega) (by omega) rfl]
  simp (maxSteps := 2000000) (disch := omega) only [vu_s, vu_n, vu_vu]
  by_cases h1 : w ≤ p
  · by_cases h2 : p ≤ w
    · have e : w = p := by omega
      subst e
      simp only [Nat.le_refl, if_true, upA_0, dnA_0]
    · simp only [h1, h2, if_true, if_false, dnA_0]
  · have h2 : p ≤ w := by omega
    simp only [h1, h2, if_true, if_false, upA_0]
end
end
