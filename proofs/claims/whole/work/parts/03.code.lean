/-! ===== the code of the abstract machine, by program (wip/whole/gen.py) ===== -/
/-- 0: DrawnFields$Drawer.<init>()V -/
def k0_0 : List xI := [.inl (.aload 0), .inl .pop, .inl (.aload 0), .inl (.new 4), .inl .dup, .inr (.invokeinterface 22 1), .inl (.putfield 0), .inr .return_]
def xm0 : List (Nat × List xI) := [(0, k0_0)]
/-- 1: DrawnFields$Drawer.begin(LDrawnFields$RowSet;I)V -/
def k1_0 : List xI := [.inl (.aload 0), .inl (.getfield 0), .inl (.aload 1), .inr (.invokeinterface 26 2), .inl (.aload 0), .inl (.iload 2), .inl .i2l, .inl (.putfield 1), .inr .return_]
def xm1 : List (Nat × List xI) := [(0, k1_0)]
/-- 2: DrawnFields$Drawer.drawTogether(LDrawnFields$State;)I -/
def k2_0 : List xI := [.inl (.iconst 0), .inl (.istore 2), xto 2]
def k2_2 : List xI := [.inl (.iload 2), .inl (.aload 1), .inl (.getfield 192), .inr (.if_icmp .ge 54), .inl (.aload 1), .inl (.getfield 193), .inl (.iload 2), .inl .aaload, .inl (.getfield 34), .inl (.iconst 1), .inr (.if_icmp .ne 48), .inl (.aload 0), .inl (.getfield 0), .inl (.iload 2), .inl (.aload 1), .inl (.getfield 193), .inl (.iload 2), .inl .aaload, .inl (.aload 0), .inl (.getfield 0), .inl (.iload 2), .inr (.invokeinterface 33 2), .inr (.invokeinterface 11 2), .inr (.invokeinterface 30 3), xto 48]
def k2_48 : List xI := [.inl (.iinc 2 1), .inr (.goto 2)]
def k2_54 : List xI := [.inl (.aload 1), .inl (.aload 0), .inl (.getfield 0), .inr (.invokeinterface 57 2), .inl (.istore 2), .inl (.iload 2), .inr (.ifCond .ne 71), .inl (.iconst 1), .inr (.goto 72)]
def k2_71 : List xI := [.inl (.iconst 0), xto 72]
def k2_72 : List xI := [.inl (.istore 3), .inl (.aload 0), .inl (.iload 3), .inr (.ifCond .eq 88), .inl (.aload 0), .inl (.getfield 0), .inr (.invokeinterface 32 1), .inr (.goto 89)]
def k2_88 : List xI := [.inl (.iload 2), xto 89]
def k2_89 : List xI := [.inr (.invokeinterface 6 2), .inl (.istore 4), .inl (.iconst 0), .inl (.istore 5), xto 97]
def k2_97 : List xI := [.inl (.iload 5), .inl (.iconst 64), .inr (.if_icmp .ge 169), .inl (.aload 0), .inl (.getfield 0), .inl (.getfield 128), .inl (.iload 5), .inl .laload, .inl (.lstore 6), .inl (.iload 3), .inr (.ifCond .eq 128), .inl (.lload 6), .inr (.invokeinterface 187 1), .inr (.goto 136)]
def k2_128 : List xI := [.inl (.aload 1), .inl (.iload 5), .inl (.lload 6), .inr (.invokeinterface 58 3), xto 136]
def k2_136 : List xI := [.inl (.istore 8), .inl (.iload 4), .inl (.iload 8), .inr (.if_icmp .ge 156), .inl (.aload 0), .inl (.aload 1), .inl (.iload 5), .inl (.iload 4), .inl (.iload 3), .inr (.invokeinterface 3 5), .inr .ireturn]
def k2_156 : List xI := [.inl (.iload 4), .inl (.iload 8), .inl .isub, .inl (.istore 4), .inl (.iinc 5 1), .inr (.goto 97)]
def k2_169 : List xI := [.inl (.aload 0), .inl (.getfield 0), .inl (.iconst 0), .inr (.invokeinterface 35 2), .inr .ireturn]
def xm2 : List (Nat × List xI) := [(0, k2_0), (2, k2_2), (48, k2_48), (54, k2_54), (71, k2_71), (72, k2_72), (88, k2_88), (89, k2_89), (97, k2_97), (128, k2_128), (136, k2_136), (156, k2_156), (169, k2_169)]
/-- 3: DrawnFields$Drawer.rowOfWord(LDrawnFields$State;IIZ)I -/
def k3_0 : List xI := [.inl (.iload 3), .inl (.istore 5), .inl (.iconst 0), .inl (.istore 6), xto 6]
def k3_6 : List xI := [.inl (.iload 6), .inl (.iconst 64), .inr (.if_icmp .ge 75), .inl (.aload 0), .inl (.getfield 0), .inl (.getfield 128), .inl (.iload 2), .inl .laload, .inl (.iload 6), .inl .lushr, .inl (.sipush 1), .inl .land, .inl (.sipush 0), .inl .lcmp, .inr (.ifCond .eq 69), .inl (.iload 2), .inl (.iconst 64), .inl .imul, .inl (.iload 6), .inl .iadd, .inl (.istore 7), .inl (.iload 5), .inl (.iload 4), .inr (.ifCond .eq 52), .inl (.iconst 1), .inr (.goto 58)]
def k3_52 : List xI := [.inl (.aload 1), .inl (.iload 7), .inr (.invokeinterface 56 2), xto 58]
def k3_58 : List xI := [.inl .isub, .inl (.istore 5), .inl (.iload 5), .inr (.ifCond .ge 69), .inl (.iload 7), .inr .ireturn]
def k3_69 : List xI := [.inl (.iinc 6 1), .inr (.goto 6)]
def k3_75 : List xI := [.inl (.iload 2), .inl (.iconst 64), .inl .imul, .inr .ireturn]
def xm3 : List (Nat × List xI) := [(0, k3_0), (6, k3_6), (52, k3_52), (58, k3_58), (69, k3_69), (75, k3_75)]
/-- 4: DrawnFields$Drawer.drawInOrder(LDrawnFields$State;)I -/
def k4_0 : List xI := [.inl (.iconst 0), .inl (.istore 2), xto 2]
def k4_2 : List xI := [.inl (.iload 2), .inl (.aload 1), .inl (.getfield 192), .inr (.if_icmp .ge 64), .inl (.aload 1), .inl (.getfield 194), .inl (.iload 2), .inl .iaload, .inl (.istore 3), .inl (.aload 1), .inl (.getfield 193), .inl (.iload 3), .inl .aaload, .inl (.aload 0), .inl (.getfield 0), .inl (.iload 3), .inr (.invokeinterface 33 2), .inr (.invokeinterface 11 2), .inl (.istore 4), .inl (.aload 0), .inl (.getfield 0), .inl (.iload 3), .inl (.iconst 1), .inl (.aload 0), .inl (.aload 1), .inl (.getfield 193), .inl (.iload 3), .inl .aaload, .inl (.iload 4), .inr (.invokeinterface 5 3), .inl .ishl, .inr (.invokeinterface 30 3), .inl (.iinc 2 1), .inr (.goto 2)]
def k4_64 : List xI := [.inl (.aload 0), .inl (.getfield 0), .inl (.iconst 0), .inr (.invokeinterface 35 2), .inr .ireturn]
def xm4 : List (Nat × List xI) := [(0, k4_0), (2, k4_2), (64, k4_64)]
/-- 5: DrawnFields$Drawer.takeValue(LDrawnFields$Field;I)I -/
def k5_0 : List xI := [.inl (.aload 1), .inl (.iload 2), .inr (.invokeinterface 12 2), .inl (.istore 3), .inl (.iload 3), .inr (.ifCond .ne 14), .inl (.iconst 1), .inr (.goto 15)]
def k5_14 : List xI := [.inl (.iconst 0), xto 15]
def k5_15 : List xI := [.inl (.istore 4), .inl (.aload 0), .inl (.iload 4), .inr (.ifCond .eq 30), .inl (.iload 2), .inr (.invokeinterface 186 1), .inr (.goto 31)]
def k5_30 : List xI := [.inl (.iload 3), xto 31]
def k5_31 : List xI := [.inr (.invokeinterface 6 2), .inl (.istore 5), .inl (.iconst 0), .inl (.istore 6), xto 39]
def k5_39 : List xI := [.inl (.iload 6), .inl (.iconst 8), .inr (.if_icmp .ge 90), .inl (.iload 2), .inl (.iload 6), .inl .ishr, .inl (.iconst 1), .inl .iand, .inr (.ifCond .eq 84), .inl (.iload 5), .inl (.iload 4), .inr (.ifCond .eq 66), .inl (.iconst 1), .inr (.goto 73)]
def k5_66 : List xI := [.inl (.aload 1), .inl (.getfield 36), .inl (.iload 6), .inl .iaload, xto 73]
def k5_73 : List xI := [.inl .isub, .inl (.istore 5), .inl (.iload 5), .inr (.ifCond .ge 84), .inl (.iload 6), .inr .ireturn]
def k5_84 : List xI := [.inl (.iinc 6 1), .inr (.goto 39)]
def k5_90 : List xI := [.inl (.iconst 0), .inr .ireturn]
def xm5 : List (Nat × List xI) := [(0, k5_0), (14, k5_14), (15, k5_15), (30, k5_30), (31, k5_31), (39, k5_39), (66, k5_66), (73, k5_73), (84, k5_84), (90, k5_90)]
/-- 6: DrawnFields$Drawer.chanceBelow(I)I -/
def k6_0 : List xI := [.inl (.aload 0), .inl (.aload 0), .inl (.getfield 1), .inl (.sipush 1103515245), .inl .lmul, .inl (.sipush 12345), .inl .ladd, .inl (.sipush 2147483648), .inl .lrem, .inl (.putfield 1), .inl (.iload 1), .inr (.ifCond .le 39), .inl (.aload 0), .inl (.getfield 1), .inl (.sipush 65536), .inl .ldiv, .inl (.iload 1), .inl .i2l, .inl .lrem, .inl .l2i, .inr (.goto 40)]
def k6_39 : List xI := [.inl (.iconst 0), xto 40]
def k6_40 : List xI := [.inr .ireturn]
def xm6 : List (Nat × List xI) := [(0, k6_0), (39, k6_39), (40, k6_40)]
/-- 7: DrawnFields$Field.<init>()V -/
def k7_0 : List xI := [.inl (.aload 0), .inl .pop, .inl (.aload 0), .inl (.iconst 8), .inl (.newarray .int), .inl (.putfield 36), .inl (.aload 0), .inl (.iconst 0), .inl (.iconst 0), .inr (.invokeinterface 8 3), .inr .return_]
def xm7 : List (Nat × List xI) := [(0, k7_0)]
/-- 8: DrawnFields$Field.begin(II)V -/
def k8_0 : List xI := [.inl (.aload 0), .inl (.iload 1), .inl (.putfield 32), .inl (.aload 0), .inl (.iload 2), .inl (.putfield 33), .inl (.aload 0), .inl (.iconst 0), .inl (.putfield 34), .inl (.aload 0), .inl (.iconst 0), .inl (.putfield 35), .inl (.iconst 0), .inl (.istore 3), xto 22]
def k8_22 : List xI := [.inl (.iload 3), .inl (.iconst 8), .inr (.if_icmp .ge 41), .inl (.aload 0), .inl (.getfield 36), .inl (.iload 3), .inl (.iconst 1), .inl .iastore, .inl (.iinc 3 1), .inr (.goto 22)]
def k8_41 : List xI := [.inr .return_]
def xm8 : List (Nat × List xI) := [(0, k8_0), (22, k8_22), (41, k8_41)]
/-- 9: DrawnFields$Field.becomes(LDrawnFields$Field;)V -/
def k9_0 : List xI := [.inl (.aload 0), .inl (.aload 1), .inl (.getfield 32), .inl (.putfield 32), .inl (.aload 0), .inl (.aload 1), .inl (.getfield 33), .inl (.putfield 33), .inl (.aload 0), .inl (.aload 1), .inl (.getfield 34), .inl (.putfield 34), .inl (.aload 0), .inl (.aload 1), .inl (.getfield 35), .inl (.putfield 35), .inl (.aload 1), .inl (.getfield 36), .inl (.iconst 0), .inl (.aload 0), .inl (.getfield 36), .inl (.iconst 0), .inl (.iconst 8), .inl .nop, .inr .return_]
def xm9 : List (Nat × List xI) := [(0, k9_0)]
/-- 10: DrawnFields$Field.valueBits()I -/
def k10_0 : List xI := [.inl (.iconst 1), .inl (.aload 0), .inl (.getfield 33), .inl (.iconst 1), .inl .iadd, .inl .ishl, .inl (.iconst 1), .inl (.aload 0), .inl (.getfield 32), .inl .ishl, .inl .isub, .inr .ireturn]
def xm10 : List (Nat × List xI) := [(0, k10_0)]
/-- 11: DrawnFields$Field.inTurn(I)I -/
def k11_0 : List xI := [.inl (.aload 0), .inl (.getfield 34), .inr (.ifCond .ne 9), .inl (.iload 1), .inr .ireturn]
def k11_9 : List xI := [.inl (.iload 1), .inl (.aload 0), .inl (.getfield 35), .inl (.iconst (-1)), .inl .ixor, .inl .iand, .inl (.istore 2), .inl (.iload 2), .inr (.ifCond .ne 29), .inl (.aload 0), .inl (.iconst 0), .inl (.putfield 35), .inl (.iload 1), .inr .ireturn]
def k11_29 : List xI := [.inl (.iload 2), .inr .ireturn]
def xm11 : List (Nat × List xI) := [(0, k11_0), (9, k11_9), (29, k11_29)]
/-- 12: DrawnFields$Field.weightOfValues(I)I -/
def k12_0 : List xI := [.inl (.iconst 0), .inl (.istore 2), .inl (.iconst 0), .inl (.istore 3), xto 4]
def k12_4 : List xI := [.inl (.iload 3), .inl (.iconst 8), .inr (.if_icmp .ge 33), .inl (.iload 1), .inl (.iload 3), .inl .ishr, .inl (.iconst 1), .inl .iand, .inr (.ifCond .eq 27), .inl (.iload 2), .inl (.aload 0), .inl (.getfield 36), .inl (.iload 3), .inl .iaload, .inl .iadd, .inl (.istore 2), xto 27]
def k12_27 : List xI := [.inl (.iinc 3 1), .inr (.goto 4)]
def k12_33 : List xI := [.inl (.iload 2), .inr .ireturn]
def xm12 : List (Nat × List xI) := [(0, k12_0), (4, k12_4), (27, k12_27), (33, k12_33)]
/-- 13: DrawnFields$Law.<init>()V -/
def k13_0 : List xI := [.inl (.aload 0), .inl .pop, .inl (.aload 0), .inl (.new 4), .inl .dup, .inr (.invokeinterface 22 1), .inl (.putfield 64), .inl (.aload 0), .inl (.new 4), .inl .dup, .inr (.invokeinterface 22 1), .inl (.putfield 67), .inl (.aload 0), .inl (.iconst 8), .inl (.anewarray 4), .inl (.putfield 68), .inl (.iconst 0), .inl (.istore 1), xto 37]
def k13_37 : List xI := [.inl (.iload 1), .inl (.iconst 8), .inr (.if_icmp .ge 62), .inl (.aload 0), .inl (.getfield 68), .inl (.iload 1), .inl (.new 4), .inl .dup, .inr (.invokeinterface 22 1), .inl .aastore, .inl (.iinc 1 1), .inr (.goto 37)]
def k13_62 : List xI := [.inr .return_]
def xm13 : List (Nat × List xI) := [(0, k13_0), (37, k13_37), (62, k13_62)]
/-- 14: DrawnFields$Law.look(LDrawnFields$State;)V -/
def k14_0 : List xI := [.inl (.aload 1), .inl (.getfield 200), .inr (.ifCond .eq 8), .inr .return_]
def k14_8 : List xI := [.inl (.aload 1), .inl (.iconst 1), .inl (.putfield 200), .inl (.aload 0), .inl (.getfield 67), .inr (.invokeinterface 27 1), .inl (.iconst 0), .inl (.istore 2), xto 22]
def k14_22 : List xI := [.inl (.iload 2), .inl (.iconst 4), .inr (.if_icmp .ge 50), .inl (.aload 0), .inl (.getfield 67), .inl (.iload 2), .inl (.aload 1), .inl (.getfield 193), .inl (.iload 2), .inl .aaload, .inr (.invokeinterface 10 1), .inr (.invokeinterface 30 3), .inl (.iinc 2 1), .inr (.goto 22)]
def k14_50 : List xI := [.inl (.iconst 0), .inl (.istore 2), .inl (.iconst 0), .inl (.istore 3), xto 54]
def k14_54 : List xI := [.inl (.iload 3), .inl (.aload 1), .inl (.getfield 195), .inr (.if_icmp .ge 102), .inl (.aload 0), .inl (.getfield 68), .inl (.iload 3), .inl .aaload, .inl (.aload 1), .inl (.getfield 196), .inl (.iload 3), .inl .aaload, .inr (.invokeinterface 28 2), .inl (.aload 1), .inl (.getfield 196), .inl (.iload 3), .inl .aaload, .inl (.getfield 164), .inl (.iconst (-1)), .inr (.if_icmp .ne 96), .inl (.iload 2), .inl (.iconst 1), .inl (.iload 3), .inl .ishl, .inl .ior, .inl (.istore 2), xto 96]
def k14_96 : List xI := [.inl (.iinc 3 1), .inr (.goto 54)]
def k14_102 : List xI := [.inl (.aload 0), .inl (.aload 0), .inl (.aload 1), .inl (.iload 2), .inr (.invokeinterface 15 3), .inl (.putfield 65), .inl (.aload 0), .inl (.aload 0), .inl (.iload 2), .inr (.invokeinterface 17 2), .inr (.ifCond .eq 125), .inl (.iconst 0), .inr (.goto 130)]
def k14_125 : List xI := [.inl (.aload 0), .inl (.iload 2), .inr (.invokeinterface 16 2), xto 130]
def k14_130 : List xI := [.inl (.putfield 66), .inl (.aload 0), .inl (.getfield 64), .inl (.aload 0), .inl (.getfield 67), .inr (.invokeinterface 26 2), .inl (.iconst 0), .inl (.istore 3), xto 146]
def k14_146 : List xI := [.inl (.iload 3), .inl (.aload 1), .inl (.getfield 195), .inr (.if_icmp .ge 184), .inl (.aload 0), .inl (.getfield 65), .inl (.iload 3), .inl .ishr, .inl (.iconst 1), .inl .iand, .inr (.ifCond .eq 178), .inl (.aload 0), .inl (.getfield 64), .inl (.aload 0), .inl (.getfield 68), .inl (.iload 3), .inl .aaload, .inr (.invokeinterface 29 2), xto 178]
def k14_178 : List xI := [.inl (.iinc 3 1), .inr (.goto 146)]
def k14_184 : List xI := [.inr .return_]
def xm14 : List (Nat × List xI) := [(0, k14_0), (8, k14_8), (22, k14_22), (50, k14_50), (54, k14_54), (96, k14_96), (102, k14_102), (125, k14_125), (130, k14_130), (146, k14_146), (178, k14_178), (184, k14_184)]
/-- 15: DrawnFields$Law.withSoft(LDrawnFields$State;I)I -/
def k15_0 : List xI := [.inl (.iload 2), .inl (.istore 3), .inl (.iconst 0), .inl (.istore 4), xto 5]
def k15_5 : List xI := [.inl (.iload 4), .inl (.iconst 10), .inr (.if_icmp .ge 71), .inl (.iconst 0), .inl (.istore 5), xto 15]
def k15_15 : List xI := [.inl (.iload 5), .inl (.aload 1), .inl (.getfield 195), .inr (.if_icmp .ge 65), .inl (.aload 1), .inl (.getfield 196), .inl (.iload 5), .inl .aaload, .inl (.getfield 164), .inl (.iload 4), .inr (.if_icmp .ne 59), .inl (.aload 0), .inl (.iload 3), .inl (.iconst 1), .inl (.iload 5), .inl .ishl, .inl .ior, .inr (.invokeinterface 17 2), .inr (.ifCond .eq 59), .inl (.iload 3), .inl (.iconst 1), .inl (.iload 5), .inl .ishl, .inl .ior, .inl (.istore 3), xto 59]
def k15_59 : List xI := [.inl (.iinc 5 1), .inr (.goto 15)]
def k15_65 : List xI := [.inl (.iinc 4 1), .inr (.goto 5)]
def k15_71 : List xI := [.inl (.iload 3), .inr .ireturn]
def xm15 : List (Nat × List xI) := [(0, k15_0), (5, k15_5), (15, k15_15), (59, k15_59), (65, k15_65), (71, k15_71)]
/-- 16: DrawnFields$Law.leastUnkept(I)I -/
def k16_0 : List xI := [.inl (.iload 1), .inl (.istore 2), .inl (.iconst 0), .inl (.istore 3), xto 4]
def k16_4 : List xI := [.inl (.iload 3), .inl (.iconst 8), .inr (.if_icmp .ge 43), .inl (.iload 2), .inl (.iconst 1), .inl (.iload 3), .inl .ishl, .inl (.iconst (-1)), .inl .ixor, .inl .iand, .inl (.istore 4), .inl (.iload 4), .inl (.iload 2), .inr (.if_icmp .eq 37), .inl (.aload 0), .inl (.iload 4), .inr (.invokeinterface 17 2), .inr (.ifCond .ne 37), .inl (.iload 4), .inl (.istore 2), xto 37]
def k16_37 : List xI := [.inl (.iinc 3 1), .inr (.goto 4)]
def k16_43 : List xI := [.inl (.iload 2), .inr .ireturn]
def xm16 : List (Nat × List xI) := [(0, k16_0), (4, k16_4), (37, k16_37), (43, k16_43)]
/-- 17: DrawnFields$Law.someRowKeeps(I)Z -/
def k17_0 : List xI := [.inl (.iconst 0), .inl (.istore 2), xto 2]
def k17_2 : List xI := [.inl (.iload 2), .inl (.iconst 64), .inr (.if_icmp .ge 78), .inl (.aload 0), .inl (.getfield 67), .inl (.getfield 128), .inl (.iload 2), .inl .laload, .inl (.lstore 3), .inl (.iconst 0), .inl (.istore 5), xto 21]
def k17_21 : List xI := [.inl (.iload 5), .inl (.iconst 8), .inr (.if_icmp .ge 64), .inl (.lload 3), .inl (.sipush 0), .inl .lcmp, .inr (.ifCond .eq 64), .inl (.iload 1), .inl (.iload 5), .inl .ishr, .inl (.iconst 1), .inl .iand, .inr (.ifCond .eq 58), .inl (.lload 3), .inl (.aload 0), .inl (.getfield 68), .inl (.iload 5), .inl .aaload, .inl (.getfield 128), .inl (.iload 2), .inl .laload, .inl .land, .inl (.lstore 3), xto 58]
def k17_58 : List xI := [.inl (.iinc 5 1), .inr (.goto 21)]
def k17_64 : List xI := [.inl (.lload 3), .inl (.sipush 0), .inl .lcmp, .inr (.ifCond .eq 72), .inl (.iconst 1), .inr .areturn]
def k17_72 : List xI := [.inl (.iinc 2 1), .inr (.goto 2)]
def k17_78 : List xI := [.inl (.iconst 0), .inr .areturn]
def xm17 : List (Nat × List xI) := [(0, k17_0), (2, k17_2), (21, k17_21), (58, k17_58), (64, k17_64), (72, k17_72), (78, k17_78)]
/-- 18: DrawnFields$Past.<init>()V -/
def k18_0 : List xI := [.inl (.aload 0), .inl .pop, .inl (.aload 0), .inl (.iconst 5), .inl (.anewarray 6), .inl (.putfield 97), .inl (.iconst 0), .inl (.istore 1), xto 14]
def k18_14 : List xI := [.inl (.iload 1), .inl (.iconst 4), .inr (.if_icmp .gt 38), .inl (.aload 0), .inl (.getfield 97), .inl (.iload 1), .inl (.new 6), .inl .dup, .inr (.invokeinterface 43 1), .inl .aastore, .inl (.iinc 1 1), .inr (.goto 14)]
def k18_38 : List xI := [.inr .return_]
def xm18 : List (Nat × List xI) := [(0, k18_0), (14, k18_14), (38, k18_38)]
/-- 19: DrawnFields$Past.mark(LDrawnFields$State;)V -/
def k19_0 : List xI := [.inl (.aload 0), .inl (.getfield 97), .inl (.aload 0), .inl (.getfield 96), .inl .aaload, .inl (.aload 1), .inr (.invokeinterface 44 2), .inr .return_]
def xm19 : List (Nat × List xI) := [(0, k19_0)]
/-- 20: DrawnFields$Past.keepMark()V -/
def k20_0 : List xI := [.inl (.aload 0), .inl (.getfield 96), .inl (.iconst 4), .inr (.if_icmp .ge 19), .inl (.aload 0), .inl .dup, .inl (.getfield 96), .inl (.iconst 1), .inl .iadd, .inl (.putfield 96), .inr .return_]
def k20_19 : List xI := [.inl (.aload 0), .inl (.getfield 97), .inl (.iconst 0), .inl .aaload, .inl (.astore 1), .inl (.iconst 0), .inl (.istore 2), xto 28]
def k20_28 : List xI := [.inl (.iload 2), .inl (.iconst 4), .inr (.if_icmp .ge 53), .inl (.aload 0), .inl (.getfield 97), .inl (.iload 2), .inl (.aload 0), .inl (.getfield 97), .inl (.iload 2), .inl (.iconst 1), .inl .iadd, .inl .aaload, .inl .aastore, .inl (.iinc 2 1), .inr (.goto 28)]
def k20_53 : List xI := [.inl (.aload 0), .inl (.getfield 97), .inl (.iconst 4), .inl (.aload 1), .inl .aastore, .inr .return_]
def xm20 : List (Nat × List xI) := [(0, k20_0), (19, k20_19), (28, k20_28), (53, k20_53)]
/-- 21: DrawnFields$Past.restore(LDrawnFields$State;)I -/
def k21_0 : List xI := [.inl (.aload 0), .inl (.getfield 96), .inr (.ifCond .ne 10), .inl (.iconst (-3)), .inr .ireturn]
def k21_10 : List xI := [.inl (.aload 0), .inl .dup, .inl (.getfield 96), .inl (.iconst 1), .inl .isub, .inl (.putfield 96), .inl (.aload 1), .inl (.aload 0), .inl (.getfield 97), .inl (.aload 0), .inl (.getfield 96), .inl .aaload, .inr (.invokeinterface 44 2), .inl (.aload 0), .inl (.getfield 96), .inr .ireturn]
def xm21 : List (Nat × List xI) := [(0, k21_0), (10, k21_10)]
/-- 22: DrawnFields$RowSet.<init>()V -/
def k22_0 : List xI := [.inl (.aload 0), .inl .pop, .inl (.aload 0), .inl (.iconst 64), .inl (.newarray .long), .inl (.putfield 128), .inr .return_]
def xm22 : List (Nat × List xI) := [(0, k22_0)]
/-- 23: DrawnFields$RowSet.wordValue(II)I -/
def k23_0 : List xI := [.inl (.iload 1), .inr (.ifCond .ne 10), .inl (.iload 0), .inl (.iconst 3), .inl .ishr, .inr (.goto 14)]
def k23_10 : List xI := [.inl (.iload 0), .inl (.iconst 7), .inl .iand, xto 14]
def k23_14 : List xI := [.inr .ireturn]
def xm23 : List (Nat × List xI) := [(0, k23_0), (10, k23_10), (14, k23_14)]
/-- 24: DrawnFields$RowSet.hasWord(III)Z -/
def k24_0 : List xI := [.inl (.iload 1), .inl (.iconst 2), .inr (.if_icmp .ge 17), .inl (.iload 2), .inl (.iload 0), .inl (.iload 1), .inr (.invokeinterface 23 2), .inl .ishr, .inl (.iconst 1), .inl .iand, .inr (.ifCond .eq 21), xto 17]
def k24_17 : List xI := [.inl (.iconst 1), .inr (.goto 22)]
def k24_21 : List xI := [.inl (.iconst 0), xto 22]
def k24_22 : List xI := [.inr .areturn]
def xm24 : List (Nat × List xI) := [(0, k24_0), (17, k24_17), (21, k24_21), (22, k24_22)]
/-- 25: DrawnFields$RowSet.withinWord(II)J -/
def k25_0 : List xI := [.inl (.iload 0), .inl (.iconst 2), .inr (.if_icmp .ge 9), .inl (.sipush (-1)), .inr .lreturn]
def k25_9 : List xI := [.inl (.sipush 0), .inl (.lstore 2), .inl (.iconst 0), .inl (.istore 4), xto 14]
def k25_14 : List xI := [.inl (.iload 4), .inl (.iconst 8), .inr (.if_icmp .ge 62), .inl (.iload 1), .inl (.iload 4), .inl .ishr, .inl (.iconst 1), .inl .iand, .inr (.ifCond .eq 56), .inl (.lload 2), .inl (.iload 0), .inl (.iconst 2), .inr (.if_icmp .ne 48), .inl (.sipush 255), .inl (.iconst 8), .inl (.iload 4), .inl .imul, .inl .lshl, .inr (.goto 54)]
def k25_48 : List xI := [.inl (.sipush 72340172838076673), .inl (.iload 4), .inl .lshl, xto 54]
def k25_54 : List xI := [.inl .lor, .inl (.lstore 2), xto 56]
def k25_56 : List xI := [.inl (.iinc 4 1), .inr (.goto 14)]
def k25_62 : List xI := [.inl (.lload 2), .inr .lreturn]
def xm25 : List (Nat × List xI) := [(0, k25_0), (9, k25_9), (14, k25_14), (48, k25_48), (54, k25_54), (56, k25_56), (62, k25_62)]
/-- 26: DrawnFields$RowSet.becomes(LDrawnFields$RowSet;)V -/
def k26_0 : List xI := [.inl (.aload 1), .inl (.getfield 128), .inl (.iconst 0), .inl (.aload 0), .inl (.getfield 128), .inl (.iconst 0), .inl (.iconst 64), .inl .nop, .inr .return_]
def xm26 : List (Nat × List xI) := [(0, k26_0)]
/-- 27: DrawnFields$RowSet.becomesAll()V -/
def k27_0 : List xI := [.inl (.iconst 0), .inl (.istore 1), xto 2]
def k27_2 : List xI := [.inl (.iload 1), .inl (.iconst 64), .inr (.if_icmp .ge 23), .inl (.aload 0), .inl (.getfield 128), .inl (.iload 1), .inl (.sipush (-1)), .inl .lastore, .inl (.iinc 1 1), .inr (.goto 2)]
def k27_23 : List xI := [.inr .return_]
def xm27 : List (Nat × List xI) := [(0, k27_0), (2, k27_2), (23, k27_23)]
/-- 28: DrawnFields$RowSet.becomesKeepersOf(LDrawnFields$Rule;)V -/
def k28_0 : List xI := [.inl (.iconst 0), .inl (.istore 2), xto 2]
def k28_2 : List xI := [.inl (.iload 2), .inl (.iconst 64), .inr (.if_icmp .ge 21), .inl (.aload 0), .inl (.getfield 128), .inl (.iload 2), .inl (.sipush 0), .inl .lastore, .inl (.iinc 2 1), .inr (.goto 2)]
def k28_21 : List xI := [.inl (.iconst 0), .inl (.istore 2), xto 23]
def k28_23 : List xI := [.inl (.iload 2), .inl (.iconst 8), .inr (.if_icmp .ge 118), .inl (.aload 1), .inl (.iload 2), .inr (.invokeinterface 42 2), .inl (.istore 3), .inl (.aload 1), .inl (.getfield 161), .inl (.iconst 1), .inl (.iload 2), .inl .ishl, .inr (.invokeinterface 25 2), .inl (.aload 1), .inl (.getfield 162), .inl (.iload 3), .inr (.invokeinterface 25 2), .inl .land, .inl (.lstore 4), .inl (.iconst 0), .inl (.istore 6), xto 59]
def k28_59 : List xI := [.inl (.iload 6), .inl (.iconst 64), .inr (.if_icmp .ge 112), .inl (.iload 6), .inl (.aload 1), .inl (.getfield 161), .inl (.iconst 1), .inl (.iload 2), .inl .ishl, .inr (.invokeinterface 24 3), .inr (.ifCond .eq 106), .inl (.iload 6), .inl (.aload 1), .inl (.getfield 162), .inl (.iload 3), .inr (.invokeinterface 24 3), .inr (.ifCond .eq 106), .inl (.aload 0), .inl (.getfield 128), .inl (.iload 6), .inl .dup2, .inl .laload, .inl (.lload 4), .inl .lor, .inl .lastore, xto 106]
def k28_106 : List xI := [.inl (.iinc 6 1), .inr (.goto 59)]
def k28_112 : List xI := [.inl (.iinc 2 1), .inr (.goto 23)]
def k28_118 : List xI := [.inr .return_]
def xm28 : List (Nat × List xI) := [(0, k28_0), (2, k28_2), (21, k28_21), (23, k28_23), (59, k28_59), (106, k28_106), (112, k28_112), (118, k28_118)]
/-- 29: DrawnFields$RowSet.keepRowsOf(LDrawnFields$RowSet;)V -/
def k29_0 : List xI := [.inl (.iconst 0), .inl (.istore 2), xto 2]
def k29_2 : List xI := [.inl (.iload 2), .inl (.iconst 64), .inr (.if_icmp .ge 29), .inl (.aload 0), .inl (.getfield 128), .inl (.iload 2), .inl .dup2, .inl .laload, .inl (.aload 1), .inl (.getfield 128), .inl (.iload 2), .inl .laload, .inl .land, .inl .lastore, .inl (.iinc 2 1), .inr (.goto 2)]
def k29_29 : List xI := [.inr .return_]
def xm29 : List (Nat × List xI) := [(0, k29_0), (2, k29_2), (29, k29_29)]
/-- 30: DrawnFields$RowSet.keepValues(II)V -/
def k30_0 : List xI := [.inl (.iload 1), .inl (.iload 2), .inr (.invokeinterface 25 2), .inl (.lstore 3), .inl (.iconst 0), .inl (.istore 5), xto 9]
def k30_9 : List xI := [.inl (.iload 5), .inl (.iconst 64), .inr (.if_icmp .ge 52), .inl (.aload 0), .inl (.getfield 128), .inl (.iload 5), .inl (.iload 5), .inl (.iload 1), .inl (.iload 2), .inr (.invokeinterface 24 3), .inr (.ifCond .eq 44), .inl (.aload 0), .inl (.getfield 128), .inl (.iload 5), .inl .laload, .inl (.lload 3), .inl .land, .inr (.goto 45)]
def k30_44 : List xI := [.inl (.sipush 0), xto 45]
def k30_45 : List xI := [.inl .lastore, .inl (.iinc 5 1), .inr (.goto 9)]
def k30_52 : List xI := [.inr .return_]
def xm30 : List (Nat × List xI) := [(0, k30_0), (9, k30_9), (44, k30_44), (45, k30_45), (52, k30_52)]
/-- 31: DrawnFields$RowSet.isEmpty()Z -/
def k31_0 : List xI := [.inl (.iconst 0), .inl (.istore 1), xto 2]
def k31_2 : List xI := [.inl (.iload 1), .inl (.iconst 64), .inr (.if_icmp .ge 27), .inl (.aload 0), .inl (.getfield 128), .inl (.iload 1), .inl .laload, .inl (.sipush 0), .inl .lcmp, .inr (.ifCond .eq 21), .inl (.iconst 0), .inr .areturn]
def k31_21 : List xI := [.inl (.iinc 1 1), .inr (.goto 2)]
def k31_27 : List xI := [.inl (.iconst 1), .inr .areturn]
def xm31 : List (Nat × List xI) := [(0, k31_0), (2, k31_2), (21, k31_21), (27, k31_27)]
/-- 32: DrawnFields$RowSet.size()I -/
def k32_0 : List xI := [.inl (.iconst 0), .inl (.istore 1), .inl (.iconst 0), .inl (.istore 2), xto 4]
def k32_4 : List xI := [.inl (.iload 2), .inl (.iconst 64), .inr (.if_icmp .ge 28), .inl (.iload 1), .inl (.aload 0), .inl (.getfield 128), .inl (.iload 2), .inl .laload, .inr (.invokeinterface 187 1), .inl .iadd, .inl (.istore 1), .inl (.iinc 2 1), .inr (.goto 4)]
def k32_28 : List xI := [.inl (.iload 1), .inr .ireturn]
def xm32 : List (Nat × List xI) := [(0, k32_0), (4, k32_4), (28, k32_28)]
/-- 33: DrawnFields$RowSet.valuesAt(I)I -/
def k33_0 : List xI := [.inl (.iconst 0), .inl (.istore 2), .inl (.sipush 0), .inl (.lstore 3), .inl (.iconst 0), .inl (.istore 5), xto 7]
def k33_7 : List xI := [.inl (.iload 5), .inl (.iconst 64), .inr (.if_icmp .ge 53), .inl (.aload 0), .inl (.getfield 128), .inl (.iload 5), .inl .laload, .inl (.sipush 0), .inl .lcmp, .inr (.ifCond .eq 47), .inl (.iload 2), .inl (.iconst 1), .inl (.iload 5), .inl (.iload 1), .inr (.invokeinterface 23 2), .inl .ishl, .inl .ior, .inl (.istore 2), .inl (.lload 3), .inl (.aload 0), .inl (.getfield 128), .inl (.iload 5), .inl .laload, .inl .lor, .inl (.lstore 3), xto 47]
def k33_47 : List xI := [.inl (.iinc 5 1), .inr (.goto 7)]
def k33_53 : List xI := [.inl (.iload 1), .inl (.iconst 2), .inr (.if_icmp .ge 62), .inl (.iload 2), .inr (.goto 67)]
def k33_62 : List xI := [.inl (.lload 3), .inl (.iload 1), .inr (.invokeinterface 34 2), xto 67]
def k33_67 : List xI := [.inr .ireturn]
def xm33 : List (Nat × List xI) := [(0, k33_0), (7, k33_7), (47, k33_47), (53, k33_53), (62, k33_62), (67, k33_67)]
/-- 34: DrawnFields$RowSet.valuesWithin(JI)I -/
def k34_0 : List xI := [.inl (.iconst 0), .inl (.istore 3), .inl (.iconst 0), .inl (.istore 4), xto 5]
def k34_5 : List xI := [.inl (.iload 4), .inl (.iconst 8), .inr (.if_icmp .ge 40), .inl (.lload 0), .inl (.iload 2), .inl (.iconst 1), .inl (.iload 4), .inl .ishl, .inr (.invokeinterface 25 2), .inl .land, .inl (.sipush 0), .inl .lcmp, .inr (.ifCond .eq 34), .inl (.iload 3), .inl (.iconst 1), .inl (.iload 4), .inl .ishl, .inl .ior, .inl (.istore 3), xto 34]
def k34_34 : List xI := [.inl (.iinc 4 1), .inr (.goto 5)]
def k34_40 : List xI := [.inl (.iload 3), .inr .ireturn]
def xm34 : List (Nat × List xI) := [(0, k34_0), (5, k34_5), (34, k34_34), (40, k34_40)]
/-- 35: DrawnFields$RowSet.codeAt(I)I -/
def k35_0 : List xI := [.inl (.iload 1), .inl (.istore 2), .inl (.iconst 0), .inl (.istore 3), xto 4]
def k35_4 : List xI := [.inl (.iload 3), .inl (.iconst 64), .inr (.if_icmp .ge 54), .inl (.aload 0), .inl (.getfield 128), .inl (.iload 3), .inl .laload, .inr (.invokeinterface 187 1), .inl (.istore 4), .inl (.iload 2), .inl (.iload 4), .inr (.if_icmp .ge 43), .inl (.iload 3), .inl (.iconst 64), .inl .imul, .inl (.aload 0), .inl (.getfield 128), .inl (.iload 3), .inl .laload, .inl (.iload 2), .inr (.invokeinterface 36 2), .inl .iadd, .inr .ireturn]
def k35_43 : List xI := [.inl (.iload 2), .inl (.iload 4), .inl .isub, .inl (.istore 2), .inl (.iinc 3 1), .inr (.goto 4)]
def k35_54 : List xI := [.inl (.iconst (-1)), .inr .ireturn]
def xm35 : List (Nat × List xI) := [(0, k35_0), (4, k35_4), (43, k35_43), (54, k35_54)]
/-- 36: DrawnFields$RowSet.bitAt(JI)I -/
def k36_0 : List xI := [.inl (.iload 2), .inl (.istore 3), .inl (.iconst 0), .inl (.istore 4), xto 5]
def k36_5 : List xI := [.inl (.iload 4), .inl (.iconst 64), .inr (.if_icmp .ge 39), .inl (.lload 0), .inl (.iload 4), .inl .lushr, .inl (.sipush 1), .inl .land, .inl (.sipush 0), .inl .lcmp, .inr (.ifCond .eq 33), .inl (.iload 3), .inr (.ifCond .ne 30), .inl (.iload 4), .inr .ireturn]
def k36_30 : List xI := [.inl (.iinc 3 (-1)), xto 33]
def k36_33 : List xI := [.inl (.iinc 4 1), .inr (.goto 5)]
def k36_39 : List xI := [.inl (.iconst 0), .inr .ireturn]
def xm36 : List (Nat × List xI) := [(0, k36_0), (5, k36_5), (30, k36_30), (33, k36_33), (39, k36_39)]
/-- 37: DrawnFields$RowSet.countAhead(I)I -/
def k37_0 : List xI := [.inl (.iconst 0), .inl (.istore 2), .inl (.iconst 0), .inl (.istore 3), xto 4]
def k37_4 : List xI := [.inl (.iload 3), .inl (.iconst 64), .inr (.if_icmp .ge 36), .inl (.iload 3), .inl (.iload 1), .inl (.iconst 64), .inl .idiv, .inr (.if_icmp .ge 36), .inl (.iload 2), .inl (.aload 0), .inl (.getfield 128), .inl (.iload 3), .inl .laload, .inr (.invokeinterface 187 1), .inl .iadd, .inl (.istore 2), .inl (.iinc 3 1), .inr (.goto 4)]
def k37_36 : List xI := [.inl (.sipush 1), .inl (.iload 1), .inl (.iconst 64), .inl .irem, .inl .lshl, .inl (.sipush 1), .inl .lsub, .inl (.lstore 3), .inl (.iload 2), .inl (.aload 0), .inl (.getfield 128), .inl (.iload 1), .inl (.iconst 64), .inl .idiv, .inl (.iconst 63), .inl .iand, .inl .laload, .inl (.lload 3), .inl .land, .inr (.invokeinterface 187 1), .inl .iadd, .inr .ireturn]
def xm37 : List (Nat × List xI) := [(0, k37_0), (4, k37_4), (36, k37_36)]
/-- 38: DrawnFields$RowSet.countBySum([I)V -/
def k38_0 : List xI := [.inl (.iconst 0), .inl (.istore 2), xto 2]
def k38_2 : List xI := [.inl (.iload 2), .inl (.iconst 29), .inr (.if_icmp .ge 24), .inl (.iload 2), .inl (.aload 1), .inl .arraylength, .inr (.if_icmp .ge 24), .inl (.aload 1), .inl (.iload 2), .inl (.iconst 0), .inl .iastore, .inl (.iinc 2 1), .inr (.goto 2)]
def k38_24 : List xI := [.inl (.iconst 0), .inl (.istore 2), xto 26]
def k38_26 : List xI := [.inl (.iload 2), .inl (.iconst 64), .inr (.if_icmp .ge 123), .inl (.iload 2), .inl (.iconst 0), .inr (.invokeinterface 23 2), .inl (.iload 2), .inl (.iconst 1), .inr (.invokeinterface 23 2), .inl .iadd, .inl (.istore 3), .inl (.iconst 0), .inl (.istore 4), xto 47]
def k38_47 : List xI := [.inl (.iload 4), .inl (.iconst 64), .inr (.if_icmp .ge 117), .inl (.aload 0), .inl (.getfield 128), .inl (.iload 2), .inl .laload, .inl (.sipush 0), .inl .lcmp, .inr (.ifCond .eq 117), .inl (.iload 3), .inl (.iload 4), .inl (.iconst 8), .inl .idiv, .inl .iadd, .inl (.iload 4), .inl (.iconst 8), .inl .irem, .inl .iadd, .inl (.istore 5), .inl (.aload 0), .inl (.getfield 128), .inl (.iload 2), .inl .laload, .inl (.iload 4), .inl .lushr, .inl (.sipush 1), .inl .land, .inl (.sipush 0), .inl .lcmp, .inr (.ifCond .eq 111), .inl (.iload 5), .inl (.aload 1), .inl .arraylength, .inr (.if_icmp .ge 111), .inl (.aload 1), .inl (.iload 5), .inl .dup2, .inl .iaload, .inl (.iconst 1), .inl .iadd, .inl .iastore, xto 111]
def k38_111 : List xI := [.inl (.iinc 4 1), .inr (.goto 47)]
def k38_117 : List xI := [.inl (.iinc 2 1), .inr (.goto 26)]
def k38_123 : List xI := [.inr .return_]
def xm38 : List (Nat × List xI) := [(0, k38_0), (2, k38_2), (24, k38_24), (26, k38_26), (47, k38_47), (111, k38_111), (117, k38_117), (123, k38_123)]
/-- 39: DrawnFields$Rule.<init>()V -/
def k39_0 : List xI := [.inl (.aload 0), .inl .pop, .inr .return_]
def xm39 : List (Nat × List xI) := [(0, k39_0)]
/-- 40: DrawnFields$Rule.becomes(LDrawnFields$Rule;)V -/
def k40_0 : List xI := [.inl (.aload 0), .inl (.aload 1), .inl (.getfield 160), .inl (.putfield 160), .inl (.aload 0), .inl (.aload 1), .inl (.getfield 161), .inl (.putfield 161), .inl (.aload 0), .inl (.aload 1), .inl (.getfield 162), .inl (.putfield 162), .inl (.aload 0), .inl (.aload 1), .inl (.getfield 163), .inl (.putfield 163), .inl (.aload 0), .inl (.aload 1), .inl (.getfield 164), .inl (.putfield 164), .inr .return_]
def xm40 : List (Nat × List xI) := [(0, k40_0)]
/-- 41: DrawnFields$Rule.isKeptBy(II)Z -/
def k41_0 : List xI := [.inl (.aload 0), .inl (.getfield 160), .inr (.lookupswitch 123 #[(0, 40), (1, 56), (2, 67), (3, 78), (4, 95)])]
def k41_40 : List xI := [.inl (.iload 1), .inl (.iload 2), .inl .iadd, .inl (.aload 0), .inl (.getfield 163), .inr (.if_icmp .ne 54), .inl (.iconst 1), .inr (.goto 55)]
def k41_54 : List xI := [.inl (.iconst 0), xto 55]
def k41_55 : List xI := [.inr .areturn]
def k41_56 : List xI := [.inl (.iload 1), .inl (.iload 2), .inr (.if_icmp .ge 65), .inl (.iconst 1), .inr (.goto 66)]
def k41_65 : List xI := [.inl (.iconst 0), xto 66]
def k41_66 : List xI := [.inr .areturn]
def k41_67 : List xI := [.inl (.iload 1), .inl (.iload 2), .inr (.if_icmp .eq 76), .inl (.iconst 1), .inr (.goto 77)]
def k41_76 : List xI := [.inl (.iconst 0), xto 77]
def k41_77 : List xI := [.inr .areturn]
def k41_78 : List xI := [.inl (.aload 0), .inl (.getfield 163), .inl (.iload 1), .inl .ishr, .inl (.iconst 1), .inl .iand, .inr (.ifCond .eq 93), .inl (.iconst 1), .inr (.goto 94)]
def k41_93 : List xI := [.inl (.iconst 0), xto 94]
def k41_94 : List xI := [.inr .areturn]
def k41_95 : List xI := [.inl (.iload 1), .inl (.aload 0), .inl (.getfield 163), .inl (.iconst 8), .inl .idiv, .inr (.if_icmp .ne 117), .inl (.iload 2), .inl (.aload 0), .inl (.getfield 163), .inl (.iconst 8), .inl .irem, .inr (.if_icmp .ne 121), xto 117]
def k41_117 : List xI := [.inl (.iconst 1), .inr (.goto 122)]
def k41_121 : List xI := [.inl (.iconst 0), xto 122]
def k41_122 : List xI := [.inr .areturn]
def k41_123 : List xI := [.inl (.iload 1), .inl (.iload 2), .inl .isub, .inl (.aload 0), .inl (.getfield 163), .inr (.if_icmp .ge 143), .inl (.iload 2), .inl (.iload 1), .inl .isub, .inl (.aload 0), .inl (.getfield 163), .inr (.if_icmp .lt 147), xto 143]
def k41_143 : List xI := [.inl (.iconst 1), .inr (.goto 148)]
def k41_147 : List xI := [.inl (.iconst 0), xto 148]
def k41_148 : List xI := [.inr .areturn]
def xm41 : List (Nat × List xI) := [(0, k41_0), (40, k41_40), (54, k41_54), (55, k41_55), (56, k41_56), (65, k41_65), (66, k41_66), (67, k41_67), (76, k41_76), (77, k41_77), (78, k41_78), (93, k41_93), (94, k41_94), (95, k41_95), (117, k41_117), (121, k41_121), (122, k41_122), (123, k41_123), (143, k41_143), (147, k41_147), (148, k41_148)]
/-- 42: DrawnFields$Rule.partnersOf(I)I -/
def k42_0 : List xI := [.inl (.iconst 0), .inl (.istore 2), .inl (.iconst 0), .inl (.istore 3), xto 4]
def k42_4 : List xI := [.inl (.iload 3), .inl (.iconst 8), .inr (.if_icmp .ge 31), .inl (.aload 0), .inl (.iload 1), .inl (.iload 3), .inr (.invokeinterface 41 3), .inr (.ifCond .eq 25), .inl (.iload 2), .inl (.iconst 1), .inl (.iload 3), .inl .ishl, .inl .ior, .inl (.istore 2), xto 25]
def k42_25 : List xI := [.inl (.iinc 3 1), .inr (.goto 4)]
def k42_31 : List xI := [.inl (.iload 2), .inr .ireturn]
def xm42 : List (Nat × List xI) := [(0, k42_0), (4, k42_4), (25, k42_25), (31, k42_31)]
/-- 43: DrawnFields$State.<init>()V -/
def k43_0 : List xI := [.inl (.aload 0), .inl .pop, .inl (.aload 0), .inl (.iconst 4), .inl (.anewarray 1), .inl (.putfield 193), .inl (.aload 0), .inl (.iconst 4), .inl (.newarray .int), .inl (.putfield 194), .inl (.aload 0), .inl (.iconst 8), .inl (.anewarray 5), .inl (.putfield 196), .inl (.aload 0), .inl (.iconst (-1)), .inl (.putfield 197), .inl (.aload 0), .inl (.iconst 16), .inl (.newarray .int), .inl (.putfield 199), .inl (.iconst 0), .inl (.istore 1), xto 43]
def k43_43 : List xI := [.inl (.iload 1), .inl (.iconst 4), .inr (.if_icmp .ge 67), .inl (.aload 0), .inl (.getfield 193), .inl (.iload 1), .inl (.new 1), .inl .dup, .inr (.invokeinterface 7 1), .inl .aastore, .inl (.iinc 1 1), .inr (.goto 43)]
def k43_67 : List xI := [.inl (.iconst 0), .inl (.istore 1), xto 69]
def k43_69 : List xI := [.inl (.iload 1), .inl (.iconst 8), .inr (.if_icmp .ge 94), .inl (.aload 0), .inl (.getfield 196), .inl (.iload 1), .inl (.new 5), .inl .dup, .inr (.invokeinterface 39 1), .inl .aastore, .inl (.iinc 1 1), .inr (.goto 69)]
def k43_94 : List xI := [.inr .return_]
def xm43 : List (Nat × List xI) := [(0, k43_0), (43, k43_43), (67, k43_67), (69, k43_69), (94, k43_94)]
/-- 44: DrawnFields$State.becomes(LDrawnFields$State;)V -/
def k44_0 : List xI := [.inl (.aload 0), .inl (.aload 1), .inl (.getfield 192), .inl (.putfield 192), .inl (.iconst 0), .inl (.istore 2), xto 10]
def k44_10 : List xI := [.inl (.iload 2), .inl (.iconst 4), .inr (.if_icmp .ge 36), .inl (.aload 0), .inl (.getfield 193), .inl (.iload 2), .inl .aaload, .inl (.aload 1), .inl (.getfield 193), .inl (.iload 2), .inl .aaload, .inr (.invokeinterface 9 2), .inl (.iinc 2 1), .inr (.goto 10)]
def k44_36 : List xI := [.inl (.aload 1), .inl (.getfield 194), .inl (.iconst 0), .inl (.aload 0), .inl (.getfield 194), .inl (.iconst 0), .inl (.iconst 4), .inl .nop, .inl (.aload 0), .inl (.aload 1), .inl (.getfield 195), .inl (.putfield 195), .inl (.iconst 0), .inl (.istore 2), xto 60]
def k44_60 : List xI := [.inl (.iload 2), .inl (.aload 0), .inl (.getfield 195), .inr (.if_icmp .ge 89), .inl (.aload 0), .inl (.getfield 196), .inl (.iload 2), .inl .aaload, .inl (.aload 1), .inl (.getfield 196), .inl (.iload 2), .inl .aaload, .inr (.invokeinterface 40 2), .inl (.iinc 2 1), .inr (.goto 60)]
def k44_89 : List xI := [.inl (.aload 0), .inl (.aload 1), .inl (.getfield 197), .inl (.putfield 197), .inl (.aload 0), .inl (.aload 1), .inl (.getfield 198), .inl (.putfield 198), .inl (.aload 1), .inl (.getfield 199), .inl (.iconst 0), .inl (.aload 0), .inl (.getfield 199), .inl (.iconst 0), .inl (.aload 0), .inl (.getfield 198), .inl .nop, .inl (.aload 0), .inl (.iconst 0), .inl (.putfield 200), .inr .return_]
def xm44 : List (Nat × List xI) := [(0, k44_0), (10, k44_10), (36, k44_36), (60, k44_60), (89, k44_89)]
/-- 45: DrawnFields$State.hasField(I)Z -/
def k45_0 : List xI := [.inl (.iload 1), .inr (.ifCond .lt 16), .inl (.iload 1), .inl (.aload 0), .inl (.getfield 192), .inr (.if_icmp .ge 16), .inl (.iconst 1), .inr (.goto 17)]
def k45_16 : List xI := [.inl (.iconst 0), xto 17]
def k45_17 : List xI := [.inr .areturn]
def xm45 : List (Nat × List xI) := [(0, k45_0), (16, k45_16), (17, k45_17)]
/-- 46: DrawnFields$State.hasRule(I)Z -/
def k46_0 : List xI := [.inl (.iload 1), .inr (.ifCond .lt 16), .inl (.iload 1), .inl (.aload 0), .inl (.getfield 195), .inr (.if_icmp .ge 16), .inl (.iconst 1), .inr (.goto 17)]
def k46_16 : List xI := [.inl (.iconst 0), xto 17]
def k46_17 : List xI := [.inr .areturn]
def xm46 : List (Nat × List xI) := [(0, k46_0), (16, k46_16), (17, k46_17)]
/-- 47: DrawnFields$State.isRule(IIII)Z -/
def k47_0 : List xI := [.inl (.iload 1), .inr (.ifCond .lt 25), .inl (.iload 1), .inl (.iconst 5), .inr (.if_icmp .gt 25), .inl (.aload 0), .inl (.iload 2), .inr (.invokeinterface 45 2), .inr (.ifCond .eq 25), .inl (.aload 0), .inl (.iload 3), .inr (.invokeinterface 45 2), .inr (.ifCond .ne 27), xto 25]
def k47_25 : List xI := [.inl (.iconst 0), .inr .areturn]
def k47_27 : List xI := [.inl (.iload 2), .inl (.iload 3), .inr (.if_icmp .ne 36), .inl (.iconst 1), .inr (.goto 37)]
def k47_36 : List xI := [.inl (.iconst 0), xto 37]
def k47_37 : List xI := [.inl (.iload 1), .inl (.iconst 3), .inr (.if_icmp .ne 46), .inl (.iconst 1), .inr (.goto 47)]
def k47_46 : List xI := [.inl (.iconst 0), xto 47]
def k47_47 : List xI := [.inr (.if_icmp .ne 69), .inl (.iload 4), .inr (.ifCond .lt 69), .inl (.iload 4), .inl (.getstatic 0), .inl (.iload 1), .inl .iaload, .inr (.if_icmp .gt 69), .inl (.iconst 1), .inr (.goto 70)]
def k47_69 : List xI := [.inl (.iconst 0), xto 70]
def k47_70 : List xI := [.inr .areturn]
def xm47 : List (Nat × List xI) := [(0, k47_0), (25, k47_25), (27, k47_27), (36, k47_36), (37, k47_37), (46, k47_46), (47, k47_47), (69, k47_69), (70, k47_70)]
/-- 48: DrawnFields$State.addField(II)I -/
def k48_0 : List xI := [.inl (.aload 0), .inl (.getfield 192), .inl (.istore 3), .inl (.aload 0), .inl (.getfield 193), .inl (.iload 3), .inl .aaload, .inl (.iload 1), .inl (.iload 2), .inr (.invokeinterface 8 3), .inl (.aload 0), .inl (.getfield 194), .inl (.iload 3), .inl (.iload 3), .inl .iastore, .inl (.aload 0), .inl .dup, .inl (.getfield 192), .inl (.iconst 1), .inl .iadd, .inl (.putfield 192), .inl (.aload 0), .inr (.invokeinterface 51 1), .inl (.iload 3), .inr .ireturn]
def xm48 : List (Nat × List xI) := [(0, k48_0)]
/-- 49: DrawnFields$State.addRule(IIIII)I -/
def k49_0 : List xI := [.inl (.aload 0), .inl (.getfield 196), .inl (.aload 0), .inl (.getfield 195), .inl .aaload, .inl (.astore 6), .inl (.aload 6), .inl (.iload 1), .inl (.putfield 160), .inl (.aload 6), .inl (.iload 2), .inl (.putfield 161), .inl (.aload 6), .inl (.iload 3), .inl (.putfield 162), .inl (.aload 6), .inl (.iload 4), .inl (.putfield 163), .inl (.aload 6), .inl (.iload 5), .inl (.putfield 164), .inl (.aload 0), .inl .dup, .inl (.getfield 195), .inl (.iconst 1), .inl .iadd, .inl (.putfield 195), .inl (.aload 0), .inr (.invokeinterface 51 1), .inl (.aload 0), .inl (.getfield 195), .inl (.iconst 1), .inl .isub, .inr .ireturn]
def xm49 : List (Nat × List xI) := [(0, k49_0)]
/-- 50: DrawnFields$State.dropRule(I)I -/
def k50_0 : List xI := [.inl (.aload 0), .inl .dup, .inl (.getfield 195), .inl (.iconst 1), .inl .isub, .inl (.putfield 195), .inl (.iload 1), .inl (.istore 2), xto 12]
def k50_12 : List xI := [.inl (.iload 2), .inl (.aload 0), .inl (.getfield 195), .inr (.if_icmp .ge 43), .inl (.aload 0), .inl (.getfield 196), .inl (.iload 2), .inl .aaload, .inl (.aload 0), .inl (.getfield 196), .inl (.iload 2), .inl (.iconst 1), .inl .iadd, .inl .aaload, .inr (.invokeinterface 40 2), .inl (.iinc 2 1), .inr (.goto 12)]
def k50_43 : List xI := [.inl (.aload 0), .inr (.invokeinterface 51 1), .inl (.aload 0), .inl (.getfield 195), .inr .ireturn]
def xm50 : List (Nat × List xI) := [(0, k50_0), (12, k50_12), (43, k50_43)]
/-- 51: DrawnFields$State.emptyDrawn()V -/
def k51_0 : List xI := [.inl (.aload 0), .inl (.iconst (-1)), .inl (.putfield 197), .inl (.aload 0), .inl (.iconst 0), .inl (.putfield 198), .inl (.iconst 0), .inl (.istore 1), xto 12]
def k51_12 : List xI := [.inl (.iload 1), .inl (.iconst 4), .inr (.if_icmp .ge 33), .inl (.aload 0), .inl (.getfield 193), .inl (.iload 1), .inl .aaload, .inl (.iconst 0), .inl (.putfield 35), .inl (.iinc 1 1), .inr (.goto 12)]
def k51_33 : List xI := [.inl (.aload 0), .inl (.iconst 0), .inl (.putfield 200), .inr .return_]
def xm51 : List (Nat × List xI) := [(0, k51_0), (12, k51_12), (33, k51_33)]
/-- 52: DrawnFields$State.placeInOrder(I)I -/
def k52_0 : List xI := [.inl (.iconst 0), .inl (.istore 2), xto 2]
def k52_2 : List xI := [.inl (.iload 2), .inl (.aload 0), .inl (.getfield 192), .inr (.if_icmp .ge 28), .inl (.aload 0), .inl (.getfield 194), .inl (.iload 2), .inl .iaload, .inl (.iload 1), .inr (.if_icmp .ne 22), .inl (.iload 2), .inr .ireturn]
def k52_22 : List xI := [.inl (.iinc 2 1), .inr (.goto 2)]
def k52_28 : List xI := [.inl (.iconst (-1)), .inr .ireturn]
def xm52 : List (Nat × List xI) := [(0, k52_0), (2, k52_2), (22, k52_22), (28, k52_28)]
/-- 53: DrawnFields$State.moveInOrder(II)I -/
def k53_0 : List xI := [.inl (.aload 0), .inl (.iload 1), .inr (.invokeinterface 52 2), .inl (.istore 3), .inl (.iload 3), .inl (.istore 4), xto 9]
def k53_9 : List xI := [.inl (.iload 4), .inr (.ifCond .lt 42), .inl (.iload 4), .inl (.iload 2), .inr (.if_icmp .ge 42), .inl (.aload 0), .inl (.getfield 194), .inl (.iload 4), .inl (.aload 0), .inl (.getfield 194), .inl (.iload 4), .inl (.iconst 1), .inl .iadd, .inl .iaload, .inl .iastore, .inl (.iinc 4 1), .inr (.goto 9)]
def k53_42 : List xI := [.inl (.iload 3), .inl (.istore 4), xto 45]
def k53_45 : List xI := [.inl (.iload 4), .inl (.iload 2), .inr (.if_icmp .le 73), .inl (.aload 0), .inl (.getfield 194), .inl (.iload 4), .inl (.aload 0), .inl (.getfield 194), .inl (.iload 4), .inl (.iconst 1), .inl .isub, .inl .iaload, .inl .iastore, .inl (.iinc 4 (-1)), .inr (.goto 45)]
def k53_73 : List xI := [.inl (.aload 0), .inl (.getfield 194), .inl (.iload 2), .inl (.iload 1), .inl .iastore, .inl (.iload 3), .inr .ireturn]
def xm53 : List (Nat × List xI) := [(0, k53_0), (9, k53_9), (42, k53_42), (45, k53_45), (73, k53_73)]
/-- 54: DrawnFields$State.factOfField(II)I -/
def k54_0 : List xI := [.inl (.iload 2), .inr (.lookupswitch 82 #[(0, 36), (1, 46), (2, 56), (3, 66), (4, 72)])]
def k54_36 : List xI := [.inl (.aload 0), .inl (.getfield 193), .inl (.iload 1), .inl .aaload, .inl (.getfield 32), .inr .ireturn]
def k54_46 : List xI := [.inl (.aload 0), .inl (.getfield 193), .inl (.iload 1), .inl .aaload, .inl (.getfield 33), .inr .ireturn]
def k54_56 : List xI := [.inl (.aload 0), .inl (.getfield 193), .inl (.iload 1), .inl .aaload, .inl (.getfield 34), .inr .ireturn]
def k54_66 : List xI := [.inl (.aload 0), .inl (.iload 1), .inr (.invokeinterface 52 2), .inr .ireturn]
def k54_72 : List xI := [.inl (.aload 0), .inl (.getfield 193), .inl (.iload 1), .inl .aaload, .inl (.getfield 35), .inr .ireturn]
def k54_82 : List xI := [.inl (.aload 0), .inl (.getfield 197), .inl (.iconst (-1)), .inr (.if_icmp .ne 94), .inl (.iconst (-1)), .inr (.goto 102)]
def k54_94 : List xI := [.inl (.aload 0), .inl (.getfield 197), .inl (.iload 1), .inr (.invokeinterface 98 2), xto 102]
def k54_102 : List xI := [.inr .ireturn]
def xm54 : List (Nat × List xI) := [(0, k54_0), (36, k54_36), (46, k54_46), (56, k54_56), (66, k54_66), (72, k54_72), (82, k54_82), (94, k54_94), (102, k54_102)]
/-- 55: DrawnFields$State.noteDraw(I)V -/
def k55_0 : List xI := [.inl (.iconst 0), .inl (.istore 2), xto 2]
def k55_2 : List xI := [.inl (.iload 2), .inl (.aload 0), .inl (.getfield 192), .inr (.if_icmp .ge 50), .inl (.aload 0), .inl (.getfield 193), .inl (.iload 2), .inl .aaload, .inl (.getfield 34), .inl (.iconst 1), .inr (.if_icmp .ne 44), .inl (.aload 0), .inl (.getfield 193), .inl (.iload 2), .inl .aaload, .inl .dup, .inl (.getfield 35), .inl (.iconst 1), .inl (.iload 1), .inl (.iload 2), .inr (.invokeinterface 98 2), .inl .ishl, .inl .ior, .inl (.putfield 35), xto 44]
def k55_44 : List xI := [.inl (.iinc 2 1), .inr (.goto 2)]
def k55_50 : List xI := [.inl (.aload 0), .inl (.iload 1), .inl (.putfield 197), .inl (.iconst 0), .inl (.istore 2), xto 57]
def k55_57 : List xI := [.inl (.iload 2), .inl (.aload 0), .inl (.getfield 198), .inr (.if_icmp .ge 82), .inl (.aload 0), .inl (.getfield 199), .inl (.iload 2), .inl .iaload, .inl (.iload 1), .inr (.if_icmp .ne 76), .inr .return_]
def k55_76 : List xI := [.inl (.iinc 2 1), .inr (.goto 57)]
def k55_82 : List xI := [.inl (.aload 0), .inl (.getfield 198), .inl (.iconst 16), .inr (.if_icmp .ge 111), .inl (.aload 0), .inl (.getfield 199), .inl (.aload 0), .inl (.getfield 198), .inl (.iload 1), .inl .iastore, .inl (.aload 0), .inl .dup, .inl (.getfield 198), .inl (.iconst 1), .inl .iadd, .inl (.putfield 198), xto 111]
def k55_111 : List xI := [.inr .return_]
def xm55 : List (Nat × List xI) := [(0, k55_0), (2, k55_2), (44, k55_44), (50, k55_50), (57, k55_57), (76, k55_76), (82, k55_82), (111, k55_111)]
/-- 56: DrawnFields$State.weightOfRow(I)I -/
def k56_0 : List xI := [.inl (.iconst 1), .inl (.istore 2), .inl (.iconst 0), .inl (.istore 3), xto 4]
def k56_4 : List xI := [.inl (.iload 3), .inl (.iconst 4), .inr (.if_icmp .ge 33), .inl (.iload 2), .inl (.aload 0), .inl (.getfield 193), .inl (.iload 3), .inl .aaload, .inl (.getfield 36), .inl (.iload 1), .inl (.iload 3), .inr (.invokeinterface 98 2), .inl .iaload, .inl .imul, .inl (.istore 2), .inl (.iinc 3 1), .inr (.goto 4)]
def k56_33 : List xI := [.inl (.iload 2), .inr .ireturn]
def xm56 : List (Nat × List xI) := [(0, k56_0), (4, k56_4), (33, k56_33)]
/-- 57: DrawnFields$State.weightOfRows(LDrawnFields$RowSet;)I -/
def k57_0 : List xI := [.inl (.iconst 0), .inl (.istore 2), .inl (.iconst 0), .inl (.istore 3), xto 4]
def k57_4 : List xI := [.inl (.iload 3), .inl (.iconst 64), .inr (.if_icmp .ge 30), .inl (.iload 2), .inl (.aload 0), .inl (.iload 3), .inl (.aload 1), .inl (.getfield 128), .inl (.iload 3), .inl .laload, .inr (.invokeinterface 58 3), .inl .iadd, .inl (.istore 2), .inl (.iinc 3 1), .inr (.goto 4)]
def k57_30 : List xI := [.inl (.iload 2), .inr .ireturn]
def xm57 : List (Nat × List xI) := [(0, k57_0), (4, k57_4), (30, k57_30)]
/-- 58: DrawnFields$State.weightOfWord(IJ)I -/
def k58_0 : List xI := [.inl (.aload 0), .inl (.getfield 193), .inl (.iconst 0), .inl .aaload, .inl (.getfield 36), .inl (.iload 1), .inl (.iconst 0), .inr (.invokeinterface 23 2), .inl .iaload, .inl (.aload 0), .inl (.getfield 193), .inl (.iconst 1), .inl .aaload, .inl (.getfield 36), .inl (.iload 1), .inl (.iconst 1), .inr (.invokeinterface 23 2), .inl .iaload, .inl .imul, .inl (.istore 4), .inl (.lload 2), .inl (.sipush 0), .inl .lcmp, .inr (.ifCond .eq 44), .inl (.iload 4), .inr (.ifCond .ne 46), xto 44]
def k58_44 : List xI := [.inl (.iconst 0), .inr .ireturn]
def k58_46 : List xI := [.inl (.iconst 0), .inl (.istore 5), .inl (.iconst 0), .inl (.istore 6), xto 52]
def k58_52 : List xI := [.inl (.iload 6), .inl (.iconst 8), .inr (.if_icmp .ge 113), .inl (.lload 2), .inl (.iconst 8), .inl (.iload 6), .inl .imul, .inl .lushr, .inl .l2i, .inl (.iconst 255), .inl .iand, .inl (.istore 7), .inl (.iload 7), .inr (.ifCond .eq 107), .inl (.iload 5), .inl (.aload 0), .inl (.getfield 193), .inl (.iconst 2), .inl .aaload, .inl (.getfield 36), .inl (.iload 6), .inl .iaload, .inl (.aload 0), .inl (.getfield 193), .inl (.iconst 3), .inl .aaload, .inl (.iload 7), .inr (.invokeinterface 12 2), .inl .imul, .inl .iadd, .inl (.istore 5), xto 107]
def k58_107 : List xI := [.inl (.iinc 6 1), .inr (.goto 52)]
def k58_113 : List xI := [.inl (.iload 4), .inl (.iload 5), .inl .imul, .inr .ireturn]
def xm58 : List (Nat × List xI) := [(0, k58_0), (44, k58_44), (46, k58_46), (52, k58_52), (107, k58_107), (113, k58_113)]
/-- 59: DrawnFields$Text.<init>()V -/
def k59_0 : List xI := [.inl (.aload 0), .inl .pop, .inl (.aload 0), .inl (.iconst 5), .inl (.newarray .int), .inl (.putfield 227), .inl (.aload 0), .inl (.iconst 150), .inl (.newarray .int), .inl (.putfield 228), .inr .return_]
def xm59 : List (Nat × List xI) := [(0, k59_0)]
/-- 60: DrawnFields$Text.add(I)I -/
def k60_0 : List xI := [.inl (.aload 0), .inl (.getfield 224), .inl (.iconst 150), .inr (.if_icmp .ne 13), .inl (.iconst (-4)), .inr .ireturn]
def k60_13 : List xI := [.inl (.aload 0), .inl (.getfield 228), .inl (.aload 0), .inl (.getfield 224), .inl (.iload 1), .inl .iastore, .inl (.aload 0), .inl .dup, .inl (.getfield 224), .inl (.iconst 1), .inl .iadd, .inl (.putfield 224), .inl (.aload 0), .inl (.getfield 224), .inr .ireturn]
def xm60 : List (Nat × List xI) := [(0, k60_0), (13, k60_13)]
/-- 61: DrawnFields$Text.findFault()I -/
def k61_0 : List xI := [.inl (.aload 0), .inl (.iconst 0), .inl (.putfield 225), .inl (.iconst 0), .inl (.istore 1), xto 7]
def k61_7 : List xI := [.inl (.iload 1), .inl (.iconst 150), .inr (.if_icmp .gt 45), .inl (.aload 0), .inr (.invokeinterface 62 1), .inr (.ifCond .ne 26), .inl (.aload 0), .inl (.getfield 225), .inr .ireturn]
def k61_26 : List xI := [.inl (.aload 0), .inl (.getfield 225), .inl (.aload 0), .inl (.getfield 224), .inr (.if_icmp .ne 39), .inl (.iconst (-1)), .inr .ireturn]
def k61_39 : List xI := [.inl (.iinc 1 1), .inr (.goto 7)]
def k61_45 : List xI := [.inl (.aload 0), .inl (.getfield 225), .inr .ireturn]
def xm61 : List (Nat × List xI) := [(0, k61_0), (7, k61_7), (26, k61_26), (39, k61_39), (45, k61_45)]
/-- 62: DrawnFields$Text.readOrder()Z -/
def k62_0 : List xI := [.inl (.aload 0), .inr (.invokeinterface 66 1), .inl (.aload 0), .inl (.getfield 225), .inl (.aload 0), .inl (.getfield 224), .inr (.if_icmp .ge 30), .inl (.aload 0), .inl (.getfield 228), .inl (.aload 0), .inl (.getfield 225), .inl .iaload, .inr (.invokeinterface 63 1), .inr (.goto 31)]
def k62_30 : List xI := [.inl (.iconst 0), xto 31]
def k62_31 : List xI := [.inl (.istore 1), .inl (.iload 1), .inr (.ifCond .ne 38), .inl (.iconst 0), .inr .areturn]
def k62_38 : List xI := [.inl (.aload 0), .inl (.aload 0), .inl (.getfield 228), .inl (.aload 0), .inl (.getfield 225), .inl .iaload, .inl (.putfield 226), .inl (.aload 0), .inl .dup, .inl (.getfield 225), .inl (.iconst 1), .inl .iadd, .inl (.putfield 225), .inl (.iconst 0), .inl (.istore 2), xto 63]
def k62_63 : List xI := [.inl (.iload 2), .inl (.iload 1), .inr (.if_icmp .ge 88), .inl (.aload 0), .inr (.invokeinterface 66 1), .inl (.aload 0), .inl (.iload 2), .inr (.invokeinterface 64 2), .inr (.ifCond .ne 82), .inl (.iconst 0), .inr .areturn]
def k62_82 : List xI := [.inl (.iinc 2 1), .inr (.goto 63)]
def k62_88 : List xI := [.inl (.aload 0), .inr (.invokeinterface 66 1), .inl (.aload 0), .inl (.getfield 225), .inl (.aload 0), .inl (.getfield 224), .inr (.if_icmp .ge 117), .inl (.aload 0), .inl (.getfield 228), .inl (.aload 0), .inl (.getfield 225), .inl .iaload, .inl (.iconst 59), .inr (.if_icmp .eq 119), xto 117]
def k62_117 : List xI := [.inl (.iconst 0), .inr .areturn]
def k62_119 : List xI := [.inl (.aload 0), .inl .dup, .inl (.getfield 225), .inl (.iconst 1), .inl .iadd, .inl (.putfield 225), .inl (.aload 0), .inr (.invokeinterface 66 1), .inl (.iconst 1), .inr .areturn]
def xm62 : List (Nat × List xI) := [(0, k62_0), (30, k62_30), (31, k62_31), (38, k62_38), (63, k62_63), (82, k62_82), (88, k62_88), (117, k62_117), (119, k62_119)]
/-- 63: DrawnFields$Text.numbersBehind(I)I -/
def k63_0 : List xI := [.inl (.iload 0), .inr (.lookupswitch 110 #[(100, 100), (101, 110), (102, 102), (103, 110), (104, 106), (105, 110), (106, 110), (107, 110), (108, 110), (109, 110), (110, 110), (111, 100), (112, 110), (113, 110), (114, 100), (115, 108), (116, 110), (117, 110), (118, 110), (119, 104), (120, 100)])]
def k63_100 : List xI := [.inl (.iconst 1), .inr .ireturn]
def k63_102 : List xI := [.inl (.iconst 2), .inr .ireturn]
def k63_104 : List xI := [.inl (.iconst 3), .inr .ireturn]
def k63_106 : List xI := [.inl (.iconst 4), .inr .ireturn]
def k63_108 : List xI := [.inl (.iconst 5), .inr .ireturn]
def k63_110 : List xI := [.inl (.iconst 0), .inr .ireturn]
def xm63 : List (Nat × List xI) := [(0, k63_0), (100, k63_100), (102, k63_102), (104, k63_104), (106, k63_106), (108, k63_108), (110, k63_110)]
/-- 64: DrawnFields$Text.readNumber(I)Z -/
def k64_0 : List xI := [.inl (.iconst 0), .inl (.istore 2), .inl (.iconst 0), .inl (.istore 3), xto 4]
def k64_4 : List xI := [.inl (.iload 3), .inl (.iconst 6), .inr (.if_icmp .ge 51), .inl (.aload 0), .inr (.invokeinterface 65 1), .inr (.ifCond .eq 51), .inl (.iload 2), .inl (.iconst 10), .inl .imul, .inl (.aload 0), .inl (.getfield 228), .inl (.aload 0), .inl (.getfield 225), .inl .iaload, .inl .iadd, .inl (.iconst 48), .inl .isub, .inl (.istore 2), .inl (.aload 0), .inl .dup, .inl (.getfield 225), .inl (.iconst 1), .inl .iadd, .inl (.putfield 225), .inl (.iinc 3 1), .inr (.goto 4)]
def k64_51 : List xI := [.inl (.aload 0), .inl (.getfield 227), .inl (.iload 1), .inl (.iload 2), .inl .iastore, .inl (.iload 3), .inr (.ifCond .le 73), .inl (.aload 0), .inr (.invokeinterface 65 1), .inr (.ifCond .ne 73), .inl (.iconst 1), .inr (.goto 74)]
def k64_73 : List xI := [.inl (.iconst 0), xto 74]
def k64_74 : List xI := [.inr .areturn]
def xm64 : List (Nat × List xI) := [(0, k64_0), (4, k64_4), (51, k64_51), (73, k64_73), (74, k64_74)]
/-- 65: DrawnFields$Text.isFigure()Z -/
def k65_0 : List xI := [.inl (.aload 0), .inl (.getfield 225), .inl (.aload 0), .inl (.getfield 224), .inr (.if_icmp .ge 43), .inl (.aload 0), .inl (.getfield 228), .inl (.aload 0), .inl (.getfield 225), .inl .iaload, .inl (.iconst 48), .inr (.if_icmp .lt 43), .inl (.aload 0), .inl (.getfield 228), .inl (.aload 0), .inl (.getfield 225), .inl .iaload, .inl (.iconst 57), .inr (.if_icmp .gt 43), .inl (.iconst 1), .inr (.goto 44)]
def k65_43 : List xI := [.inl (.iconst 0), xto 44]
def k65_44 : List xI := [.inr .areturn]
def xm65 : List (Nat × List xI) := [(0, k65_0), (43, k65_43), (44, k65_44)]
/-- 66: DrawnFields$Text.skipBlanks()V -/
def k66_0 : List xI := [.inl (.aload 0), .inl (.getfield 225), .inl (.aload 0), .inl (.getfield 224), .inr (.if_icmp .ge 38), .inl (.aload 0), .inl (.getfield 228), .inl (.aload 0), .inl (.getfield 225), .inl .iaload, .inl (.iconst 32), .inr (.if_icmp .ne 38), .inl (.aload 0), .inl .dup, .inl (.getfield 225), .inl (.iconst 1), .inl .iadd, .inl (.putfield 225), .inr (.goto 0)]
def k66_38 : List xI := [.inr .return_]
def xm66 : List (Nat × List xI) := [(0, k66_0), (38, k66_38)]
/-- 67: DrawnFields.<init>()V -/
def k67_0 : List xI := [.inl (.aload 0), .inl .pop, .inl (.aload 0), .inl (.new 6), .inl .dup, .inr (.invokeinterface 43 1), .inl (.putfield 256), .inl (.aload 0), .inl (.new 3), .inl .dup, .inr (.invokeinterface 18 1), .inl (.putfield 257), .inl (.aload 0), .inl (.new 2), .inl .dup, .inr (.invokeinterface 13 1), .inl (.putfield 258), .inl (.aload 0), .inl (.new 0), .inl .dup, .inr (.invokeinterface 0 1), .inl (.putfield 259), .inl (.aload 0), .inl (.new 4), .inl .dup, .inr (.invokeinterface 22 1), .inl (.putfield 260), .inl (.aload 0), .inl (.new 7), .inl .dup, .inr (.invokeinterface 59 1), .inl (.putfield 261), .inl (.aload 0), .inl (.iconst 3), .inl (.newarray .int), .inl (.putfield 262), .inl (.aload 0), .inl (.iconst 29), .inl (.newarray .int), .inl (.putfield 263), .inr .return_]
def xm67 : List (Nat × List xI) := [(0, k67_0)]
/-- 68: DrawnFields.field(II)I -/
def k68_0 : List xI := [.inl (.aload 0), .inl (.getfield 257), .inl (.aload 0), .inl (.getfield 256), .inr (.invokeinterface 19 2), .inl (.aload 0), .inl (.aload 0), .inl (.iload 1), .inl (.iload 2), .inr (.invokeinterface 100 3), .inr (.invokeinterface 92 2), .inr .ireturn]
def xm68 : List (Nat × List xI) := [(0, k68_0)]
/-- 69: DrawnFields.range(III)I -/
def k69_0 : List xI := [.inl (.aload 0), .inl (.getfield 257), .inl (.aload 0), .inl (.getfield 256), .inr (.invokeinterface 19 2), .inl (.aload 0), .inl (.aload 0), .inl (.iload 1), .inl (.iload 2), .inl (.iload 3), .inr (.invokeinterface 101 4), .inr (.invokeinterface 92 2), .inr .ireturn]
def xm69 : List (Nat × List xI) := [(0, k69_0)]
/-- 70: DrawnFields.weighs(III)I -/
def k70_0 : List xI := [.inl (.aload 0), .inl (.getfield 257), .inl (.aload 0), .inl (.getfield 256), .inr (.invokeinterface 19 2), .inl (.aload 0), .inl (.aload 0), .inl (.iload 1), .inl (.iload 2), .inl (.iload 3), .inr (.invokeinterface 102 4), .inr (.invokeinterface 92 2), .inr .ireturn]
def xm70 : List (Nat × List xI) := [(0, k70_0)]
/-- 71: DrawnFields.round(II)I -/
def k71_0 : List xI := [.inl (.aload 0), .inl (.getfield 257), .inl (.aload 0), .inl (.getfield 256), .inr (.invokeinterface 19 2), .inl (.aload 0), .inl (.aload 0), .inl (.iload 1), .inl (.iload 2), .inr (.invokeinterface 103 3), .inr (.invokeinterface 92 2), .inr .ireturn]
def xm71 : List (Nat × List xI) := [(0, k71_0)]
/-- 72: DrawnFields.orders(II)I -/
def k72_0 : List xI := [.inl (.aload 0), .inl (.getfield 257), .inl (.aload 0), .inl (.getfield 256), .inr (.invokeinterface 19 2), .inl (.aload 0), .inl (.aload 0), .inl (.iload 1), .inl (.iload 2), .inr (.invokeinterface 104 3), .inr (.invokeinterface 92 2), .inr .ireturn]
def xm72 : List (Nat × List xI) := [(0, k72_0)]
/-- 73: DrawnFields.rule(IIIII)I -/
def k73_0 : List xI := [.inl (.aload 0), .inl (.getfield 257), .inl (.aload 0), .inl (.getfield 256), .inr (.invokeinterface 19 2), .inl (.aload 0), .inl (.aload 0), .inl (.iload 1), .inl (.iload 2), .inl (.iload 3), .inl (.iload 4), .inl (.iload 5), .inr (.invokeinterface 105 6), .inr (.invokeinterface 92 2), .inr .ireturn]
def xm73 : List (Nat × List xI) := [(0, k73_0)]
/-- 74: DrawnFields.drops(I)I -/
def k74_0 : List xI := [.inl (.aload 0), .inl (.getfield 257), .inl (.aload 0), .inl (.getfield 256), .inr (.invokeinterface 19 2), .inl (.aload 0), .inl (.aload 0), .inl (.iload 1), .inr (.invokeinterface 106 2), .inr (.invokeinterface 92 2), .inr .ireturn]
def xm74 : List (Nat × List xI) := [(0, k74_0)]
/-- 75: DrawnFields.of(II)I -/
def k75_0 : List xI := [.inl (.aload 0), .inl (.getfield 256), .inl (.iload 1), .inr (.invokeinterface 45 2), .inr (.ifCond .eq 20), .inl (.iload 2), .inr (.ifCond .lt 20), .inl (.iload 2), .inl (.iconst 5), .inr (.if_icmp .le 27), xto 20]
def k75_20 : List xI := [.inl (.aload 0), .inl (.iconst (-2)), .inr (.invokeinterface 93 2), .inr .ireturn]
def k75_27 : List xI := [.inl (.aload 0), .inl (.getfield 256), .inl (.iload 1), .inl (.iload 2), .inr (.invokeinterface 54 3), .inr .ireturn]
def xm75 : List (Nat × List xI) := [(0, k75_0), (20, k75_20), (27, k75_27)]
/-- 76: DrawnFields.about(II)I -/
def k76_0 : List xI := [.inl (.aload 0), .inl (.getfield 256), .inl (.iload 1), .inr (.invokeinterface 46 2), .inr (.ifCond .eq 20), .inl (.iload 2), .inr (.ifCond .lt 20), .inl (.iload 2), .inl (.iconst 5), .inr (.if_icmp .le 27), xto 20]
def k76_20 : List xI := [.inl (.aload 0), .inl (.iconst (-2)), .inr (.invokeinterface 93 2), .inr .ireturn]
def k76_27 : List xI := [.inl (.aload 0), .inl (.getfield 258), .inl (.aload 0), .inl (.getfield 256), .inr (.invokeinterface 14 2), .inl (.aload 0), .inl (.iload 1), .inl (.iload 2), .inr (.invokeinterface 95 3), .inr .ireturn]
def xm76 : List (Nat × List xI) := [(0, k76_0), (20, k76_20), (27, k76_27)]
/-- 77: DrawnFields.rows()I -/
def k77_0 : List xI := [.inl (.aload 0), .inl (.getfield 258), .inl (.aload 0), .inl (.getfield 256), .inr (.invokeinterface 14 2), .inl (.aload 0), .inl (.getfield 258), .inl (.getfield 64), .inr (.invokeinterface 32 1), .inr .ireturn]
def xm77 : List (Nat × List xI) := [(0, k77_0)]
/-- 78: DrawnFields.row(II)I -/
def k78_0 : List xI := [.inl (.iload 1), .inr (.ifCond .lt 15), .inl (.aload 0), .inl (.getfield 256), .inl (.iload 2), .inr (.invokeinterface 45 2), .inr (.ifCond .ne 22), xto 15]
def k78_15 : List xI := [.inl (.aload 0), .inl (.iconst (-2)), .inr (.invokeinterface 93 2), .inr .ireturn]
def k78_22 : List xI := [.inl (.aload 0), .inl (.getfield 258), .inl (.aload 0), .inl (.getfield 256), .inr (.invokeinterface 14 2), .inl (.aload 0), .inl (.getfield 258), .inl (.getfield 64), .inl (.iload 1), .inr (.invokeinterface 35 2), .inl (.istore 3), .inl (.iload 3), .inl (.iconst (-1)), .inr (.if_icmp .ne 55), .inl (.iconst (-5)), .inr (.goto 60)]
def k78_55 : List xI := [.inl (.iload 3), .inl (.iload 2), .inr (.invokeinterface 98 2), xto 60]
def k78_60 : List xI := [.inr .ireturn]
def xm78 : List (Nat × List xI) := [(0, k78_0), (15, k78_15), (22, k78_22), (55, k78_55), (60, k78_60)]
/-- 79: DrawnFields.heavy(II)I -/
def k79_0 : List xI := [.inl (.iload 1), .inl (.iconst (-1)), .inr (.if_icmp .ne 12), .inl (.iload 2), .inr (.ifCond .eq 40), .inr (.goto 33)]
def k79_12 : List xI := [.inl (.aload 0), .inl (.getfield 256), .inl (.iload 1), .inr (.invokeinterface 45 2), .inr (.ifCond .eq 33), .inl (.iload 2), .inr (.ifCond .lt 33), .inl (.iload 2), .inl (.iconst 8), .inr (.if_icmp .lt 40), xto 33]
def k79_33 : List xI := [.inl (.aload 0), .inl (.iconst (-2)), .inr (.invokeinterface 93 2), .inr .ireturn]
def k79_40 : List xI := [.inl (.aload 0), .inl (.getfield 258), .inl (.aload 0), .inl (.getfield 256), .inr (.invokeinterface 14 2), .inl (.iload 1), .inl (.iconst (-1)), .inr (.if_icmp .ne 71), .inl (.aload 0), .inl (.getfield 256), .inl (.aload 0), .inl (.getfield 258), .inl (.getfield 64), .inr (.invokeinterface 57 2), .inr .ireturn]
def k79_71 : List xI := [.inl (.aload 0), .inl (.getfield 260), .inl (.aload 0), .inl (.getfield 258), .inl (.getfield 64), .inr (.invokeinterface 26 2), .inl (.aload 0), .inl (.getfield 260), .inl (.iload 1), .inl (.iconst 1), .inl (.iload 2), .inl .ishl, .inr (.invokeinterface 30 3), .inl (.aload 0), .inl (.getfield 256), .inl (.aload 0), .inl (.getfield 260), .inr (.invokeinterface 57 2), .inr .ireturn]
def xm79 : List (Nat × List xI) := [(0, k79_0), (12, k79_12), (33, k79_33), (40, k79_40), (71, k79_71)]
/-- 80: DrawnFields.sums(I)I -/
def k80_0 : List xI := [.inl (.iload 1), .inr (.ifCond .ge 11), .inl (.aload 0), .inl (.iconst (-2)), .inr (.invokeinterface 93 2), .inr .ireturn]
def k80_11 : List xI := [.inl (.aload 0), .inl (.getfield 258), .inl (.aload 0), .inl (.getfield 256), .inr (.invokeinterface 14 2), .inl (.aload 0), .inl (.getfield 258), .inl (.getfield 64), .inl (.aload 0), .inl (.getfield 263), .inr (.invokeinterface 38 2), .inl (.iload 1), .inl (.iconst 29), .inr (.if_icmp .ge 51), .inl (.aload 0), .inl (.getfield 263), .inl (.iload 1), .inl .iaload, .inr (.goto 52)]
def k80_51 : List xI := [.inl (.iconst 0), xto 52]
def k80_52 : List xI := [.inr .ireturn]
def xm80 : List (Nat × List xI) := [(0, k80_0), (11, k80_11), (51, k80_51), (52, k80_52)]
/-- 81: DrawnFields.sum(I)I -/
def k81_0 : List xI := [.inl (.iload 1), .inr (.ifCond .ge 11), .inl (.aload 0), .inl (.iconst (-2)), .inr (.invokeinterface 93 2), .inr .ireturn]
def k81_11 : List xI := [.inl (.aload 0), .inl (.getfield 258), .inl (.aload 0), .inl (.getfield 256), .inr (.invokeinterface 14 2), .inl (.aload 0), .inl (.getfield 258), .inl (.getfield 64), .inl (.aload 0), .inl (.getfield 263), .inr (.invokeinterface 38 2), .inl (.iconst 0), .inl (.istore 2), .inl (.iconst 0), .inl (.istore 3), xto 40]
def k81_40 : List xI := [.inl (.iload 3), .inl (.iconst 29), .inr (.if_icmp .ge 71), .inl (.aload 0), .inl (.getfield 263), .inl (.iload 3), .inl .iaload, .inr (.ifCond .le 65), .inl (.iload 2), .inl (.iload 1), .inr (.if_icmp .ne 62), .inl (.iload 3), .inr .ireturn]
def k81_62 : List xI := [.inl (.iinc 2 1), xto 65]
def k81_65 : List xI := [.inl (.iinc 3 1), .inr (.goto 40)]
def k81_71 : List xI := [.inl (.iconst (-5)), .inr .ireturn]
def xm81 : List (Nat × List xI) := [(0, k81_0), (11, k81_11), (40, k81_40), (62, k81_62), (65, k81_65), (71, k81_71)]
/-- 82: DrawnFields.soft(I)I -/
def k82_0 : List xI := [.inl (.iload 1), .inr (.ifCond .ge 11), .inl (.aload 0), .inl (.iconst (-2)), .inr (.invokeinterface 93 2), .inr .ireturn]
def k82_11 : List xI := [.inl (.iconst 0), .inl (.istore 2), .inl (.iconst 0), .inl (.istore 3), xto 15]
def k82_15 : List xI := [.inl (.iload 3), .inl (.iconst 10), .inr (.if_icmp .ge 76), .inl (.iconst 0), .inl (.istore 4), xto 24]
def k82_24 : List xI := [.inl (.iload 4), .inl (.aload 0), .inl (.getfield 256), .inl (.getfield 195), .inr (.if_icmp .ge 70), .inl (.aload 0), .inl (.getfield 256), .inl (.getfield 196), .inl (.iload 4), .inl .aaload, .inl (.getfield 164), .inl (.iload 3), .inr (.if_icmp .ne 64), .inl (.iload 2), .inl (.iload 1), .inr (.if_icmp .ne 61), .inl (.iload 4), .inr .ireturn]
def k82_61 : List xI := [.inl (.iinc 2 1), xto 64]
def k82_64 : List xI := [.inl (.iinc 4 1), .inr (.goto 24)]
def k82_70 : List xI := [.inl (.iinc 3 1), .inr (.goto 15)]
def k82_76 : List xI := [.inl (.iconst (-5)), .inr .ireturn]
def xm82 : List (Nat × List xI) := [(0, k82_0), (11, k82_11), (15, k82_15), (24, k82_24), (61, k82_61), (64, k82_64), (70, k82_70), (76, k82_76)]
/-- 83: DrawnFields.core()I -/
def k83_0 : List xI := [.inl (.aload 0), .inl (.getfield 258), .inl (.aload 0), .inl (.getfield 256), .inr (.invokeinterface 14 2), .inl (.aload 0), .inl (.getfield 258), .inl (.getfield 66), .inr .ireturn]
def xm83 : List (Nat × List xI) := [(0, k83_0)]
/-- 84: DrawnFields.draws(II)I -/
def k84_0 : List xI := [.inl (.aload 0), .inl (.getfield 257), .inl (.aload 0), .inl (.getfield 256), .inr (.invokeinterface 19 2), .inl (.aload 0), .inl (.aload 0), .inl (.iload 1), .inl (.iload 2), .inr (.invokeinterface 107 3), .inr (.invokeinterface 92 2), .inr .ireturn]
def xm84 : List (Nat × List xI) := [(0, k84_0)]
/-- 85: DrawnFields.drawn(II)I -/
def k85_0 : List xI := [.inl (.iload 1), .inl (.iconst (-1)), .inr (.if_icmp .lt 28), .inl (.iload 1), .inl (.iconst (-1)), .inr (.if_icmp .ne 17), .inl (.iload 2), .inr (.ifCond .eq 35), .inr (.goto 28)]
def k85_17 : List xI := [.inl (.aload 0), .inl (.getfield 256), .inl (.iload 2), .inr (.invokeinterface 45 2), .inr (.ifCond .ne 35), xto 28]
def k85_28 : List xI := [.inl (.aload 0), .inl (.iconst (-2)), .inr (.invokeinterface 93 2), .inr .ireturn]
def k85_35 : List xI := [.inl (.iload 1), .inl (.iconst (-1)), .inr (.if_icmp .ne 48), .inl (.aload 0), .inl (.getfield 256), .inl (.getfield 198), .inr .ireturn]
def k85_48 : List xI := [.inl (.iload 1), .inl (.aload 0), .inl (.getfield 256), .inl (.getfield 198), .inr (.if_icmp .ge 75), .inl (.aload 0), .inl (.getfield 256), .inl (.getfield 199), .inl (.iload 1), .inl .iaload, .inl (.iload 2), .inr (.invokeinterface 98 2), .inr (.goto 77)]
def k85_75 : List xI := [.inl (.iconst (-5)), xto 77]
def k85_77 : List xI := [.inr .ireturn]
def xm85 : List (Nat × List xI) := [(0, k85_0), (17, k85_17), (28, k85_28), (35, k85_35), (48, k85_48), (75, k85_75), (77, k85_77)]
/-- 86: DrawnFields.type(I)I -/
def k86_0 : List xI := [.inl (.iload 1), .inr (.ifCond .lt 10), .inl (.iload 1), .inl (.iconst 127), .inr (.if_icmp .le 17), xto 10]
def k86_10 : List xI := [.inl (.aload 0), .inl (.iconst (-2)), .inr (.invokeinterface 93 2), .inr .ireturn]
def k86_17 : List xI := [.inl (.aload 0), .inl (.aload 0), .inl (.getfield 261), .inl (.iload 1), .inr (.invokeinterface 60 2), .inr (.invokeinterface 93 2), .inr .ireturn]
def xm86 : List (Nat × List xI) := [(0, k86_0), (10, k86_10), (17, k86_17)]
/-- 87: DrawnFields.clear()I -/
def k87_0 : List xI := [.inl (.aload 0), .inl (.getfield 261), .inl (.getfield 224), .inl (.istore 1), .inl (.aload 0), .inl (.getfield 261), .inl (.iconst 0), .inl (.putfield 224), .inl (.iload 1), .inr .ireturn]
def xm87 : List (Nat × List xI) := [(0, k87_0)]
/-- 88: DrawnFields.reads()I -/
def k88_0 : List xI := [.inl (.aload 0), .inl (.getfield 261), .inr (.invokeinterface 61 1), .inl (.istore 1), .inl (.iload 1), .inl (.iconst (-1)), .inr (.if_icmp .eq 18), .inl (.iconst (-10)), .inl (.iload 1), .inl .isub, .inr .ireturn]
def k88_18 : List xI := [.inl (.aload 0), .inl (.getfield 257), .inl (.aload 0), .inl (.getfield 256), .inr (.invokeinterface 19 2), .inl (.iconst 0), .inl (.istore 2), .inl (.aload 0), .inl (.getfield 261), .inl (.iconst 0), .inl (.putfield 225), .inl (.iconst 0), .inl (.istore 3), xto 41]
def k88_41 : List xI := [.inl (.iload 3), .inl (.iconst 150), .inr (.if_icmp .ge 74), .inl (.aload 0), .inl (.getfield 261), .inr (.invokeinterface 62 1), .inr (.ifCond .eq 74), .inl (.aload 0), .inr (.invokeinterface 108 1), .inr (.ifCond .lt 68), .inl (.iinc 2 1), xto 68]
def k88_68 : List xI := [.inl (.iinc 3 1), .inr (.goto 41)]
def k88_74 : List xI := [.inl (.aload 0), .inl (.iload 2), .inr (.invokeinterface 92 2), .inr .ireturn]
def xm88 : List (Nat × List xI) := [(0, k88_0), (18, k88_18), (41, k88_41), (68, k88_68), (74, k88_74)]
/-- 89: DrawnFields.back()I -/
def k89_0 : List xI := [.inl (.aload 0), .inl (.aload 0), .inl (.getfield 257), .inl (.aload 0), .inl (.getfield 256), .inr (.invokeinterface 21 2), .inr (.invokeinterface 93 2), .inr .ireturn]
def xm89 : List (Nat × List xI) := [(0, k89_0)]
/-- 90: DrawnFields.told(I)I -/
def k90_0 : List xI := [.inl (.iload 1), .inr (.ifCond .lt 10), .inl (.iload 1), .inl (.iconst 6), .inr (.if_icmp .le 17), xto 10]
def k90_10 : List xI := [.inl (.aload 0), .inl (.iconst (-2)), .inr (.invokeinterface 93 2), .inr .ireturn]
def k90_17 : List xI := [.inl (.aload 0), .inl (.iload 1), .inr (.invokeinterface 94 2), .inr .ireturn]
def xm90 : List (Nat × List xI) := [(0, k90_0), (10, k90_10), (17, k90_17)]
/-- 91: DrawnFields.digest()J -/
def k91_0 : List xI := [.inl (.aload 0), .inl (.getfield 258), .inl (.aload 0), .inl (.getfield 256), .inr (.invokeinterface 14 2), .inl (.sipush 2423), .inl (.lstore 1), .inl (.iconst 0), .inl (.istore 3), xto 17]
def k91_17 : List xI := [.inl (.iload 3), .inl (.iconst 6), .inr (.if_icmp .gt 42), .inl (.sipush 31), .inl (.lload 1), .inl .lmul, .inl (.aload 0), .inl (.iload 3), .inr (.invokeinterface 94 2), .inl .i2l, .inl .ladd, .inl (.lstore 1), .inl (.iinc 3 1), .inr (.goto 17)]
def k91_42 : List xI := [.inl (.iconst 0), .inl (.istore 3), xto 44]
def k91_44 : List xI := [.inl (.iload 3), .inl (.aload 0), .inl (.getfield 256), .inl (.getfield 192), .inr (.if_icmp .ge 68), .inl (.aload 0), .inl (.lload 1), .inl (.iload 3), .inr (.invokeinterface 96 3), .inl (.lstore 1), .inl (.iinc 3 1), .inr (.goto 44)]
def k91_68 : List xI := [.inl (.iconst 0), .inl (.istore 3), xto 70]
def k91_70 : List xI := [.inl (.iload 3), .inl (.aload 0), .inl (.getfield 256), .inl (.getfield 195), .inr (.if_icmp .ge 117), .inl (.iconst 0), .inl (.istore 4), xto 84]
def k91_84 : List xI := [.inl (.iload 4), .inl (.iconst 5), .inr (.if_icmp .gt 111), .inl (.sipush 31), .inl (.lload 1), .inl .lmul, .inl (.aload 0), .inl (.iload 3), .inl (.iload 4), .inr (.invokeinterface 95 3), .inl .i2l, .inl .ladd, .inl (.lstore 1), .inl (.iinc 4 1), .inr (.goto 84)]
def k91_111 : List xI := [.inl (.iinc 3 1), .inr (.goto 70)]
def k91_117 : List xI := [.inl (.sipush 31), .inl (.lload 1), .inl .lmul, .inl (.aload 0), .inl (.getfield 258), .inl (.getfield 64), .inr (.invokeinterface 32 1), .inl .i2l, .inl .ladd, .inl (.lstore 1), .inl (.sipush 31), .inl (.lload 1), .inl .lmul, .inl (.aload 0), .inl (.getfield 256), .inl (.aload 0), .inl (.getfield 258), .inl (.getfield 64), .inr (.invokeinterface 57 2), .inl .i2l, .inl .ladd, .inl (.lstore 1), .inl (.sipush 31), .inl (.lload 1), .inl .lmul, .inl (.aload 0), .inl (.getfield 258), .inl (.getfield 66), .inl .i2l, .inl .ladd, .inl (.lstore 1), .inl (.aload 0), .inl (.lload 1), .inr (.invokeinterface 97 2), .inr .lreturn]
def xm91 : List (Nat × List xI) := [(0, k91_0), (17, k91_17), (42, k91_42), (44, k91_44), (68, k91_68), (70, k91_70), (84, k91_84), (111, k91_111), (117, k91_117)]
/-- 92: DrawnFields.settled(I)I -/
def k92_0 : List xI := [.inl (.iload 1), .inr (.ifCond .lt 11), .inl (.aload 0), .inl (.getfield 257), .inr (.invokeinterface 20 1), xto 11]
def k92_11 : List xI := [.inl (.aload 0), .inl (.iload 1), .inr (.invokeinterface 93 2), .inr .ireturn]
def xm92 : List (Nat × List xI) := [(0, k92_0), (11, k92_11)]
/-- 93: DrawnFields.counted(I)I -/
def k93_0 : List xI := [.inl (.iload 1), .inl (.iconst (-2)), .inr (.if_icmp .gt 25), .inl (.iload 1), .inl (.iconst (-4)), .inr (.if_icmp .lt 25), .inl (.aload 0), .inl (.getfield 262), .inl (.iconst (-2)), .inl (.iload 1), .inl .isub, .inl .dup2, .inl .iaload, .inl (.iconst 1), .inl .iadd, .inl .iastore, xto 25]
def k93_25 : List xI := [.inl (.iload 1), .inr .ireturn]
def xm93 : List (Nat × List xI) := [(0, k93_0), (25, k93_25)]
/-- 94: DrawnFields.factOfAll(I)I -/
def k94_0 : List xI := [.inl (.iload 1), .inr (.lookupswitch 71 #[(0, 40), (1, 40), (2, 40), (3, 47), (4, 55), (5, 63)])]
def k94_40 : List xI := [.inl (.aload 0), .inl (.getfield 262), .inl (.iload 1), .inl .iaload, .inr .ireturn]
def k94_47 : List xI := [.inl (.aload 0), .inl (.getfield 261), .inl (.getfield 224), .inr .ireturn]
def k94_55 : List xI := [.inl (.aload 0), .inl (.getfield 256), .inl (.getfield 192), .inr .ireturn]
def k94_63 : List xI := [.inl (.aload 0), .inl (.getfield 256), .inl (.getfield 195), .inr .ireturn]
def k94_71 : List xI := [.inl (.aload 0), .inl (.getfield 257), .inl (.getfield 96), .inr .ireturn]
def xm94 : List (Nat × List xI) := [(0, k94_0), (40, k94_40), (47, k94_47), (55, k94_55), (63, k94_63), (71, k94_71)]
/-- 95: DrawnFields.factOfRule(II)I -/
def k95_0 : List xI := [.inl (.aload 0), .inl (.getfield 256), .inl (.getfield 196), .inl (.iload 1), .inl .aaload, .inl (.astore 3), .inl (.iload 2), .inr (.lookupswitch 69 #[(0, 44), (1, 49), (2, 54), (3, 59), (4, 64)])]
def k95_44 : List xI := [.inl (.aload 3), .inl (.getfield 160), .inr .ireturn]
def k95_49 : List xI := [.inl (.aload 3), .inl (.getfield 161), .inr .ireturn]
def k95_54 : List xI := [.inl (.aload 3), .inl (.getfield 162), .inr .ireturn]
def k95_59 : List xI := [.inl (.aload 3), .inl (.getfield 163), .inr .ireturn]
def k95_64 : List xI := [.inl (.aload 3), .inl (.getfield 164), .inr .ireturn]
def k95_69 : List xI := [.inl (.aload 0), .inl (.getfield 258), .inl (.getfield 65), .inl (.iload 1), .inl .ishr, .inl (.iconst 1), .inl .iand, .inr .ireturn]
def xm95 : List (Nat × List xI) := [(0, k95_0), (44, k95_44), (49, k95_49), (54, k95_54), (59, k95_59), (64, k95_64), (69, k95_69)]
/-- 96: DrawnFields.digestOfField(JI)J -/
def k96_0 : List xI := [.inl (.lload 1), .inl (.lstore 4), .inl (.iconst 0), .inl (.istore 6), xto 6]
def k96_6 : List xI := [.inl (.iload 6), .inl (.iconst 5), .inr (.if_icmp .gt 38), .inl (.sipush 31), .inl (.lload 4), .inl .lmul, .inl (.aload 0), .inl (.getfield 256), .inl (.iload 3), .inl (.iload 6), .inr (.invokeinterface 54 3), .inl .i2l, .inl .ladd, .inl (.lstore 4), .inl (.iinc 6 1), .inr (.goto 6)]
def k96_38 : List xI := [.inl (.iconst 0), .inl (.istore 6), xto 41]
def k96_41 : List xI := [.inl (.iload 6), .inl (.iconst 8), .inr (.if_icmp .ge 79), .inl (.sipush 31), .inl (.lload 4), .inl .lmul, .inl (.aload 0), .inl (.getfield 256), .inl (.getfield 193), .inl (.iload 3), .inl .aaload, .inl (.getfield 36), .inl (.iload 6), .inl .iaload, .inl .i2l, .inl .ladd, .inl (.lstore 4), .inl (.iinc 6 1), .inr (.goto 41)]
def k96_79 : List xI := [.inl (.lload 4), .inr .lreturn]
def xm96 : List (Nat × List xI) := [(0, k96_0), (6, k96_6), (38, k96_38), (41, k96_41), (79, k96_79)]
/-- 97: DrawnFields.digestOfDrawn(J)J -/
def k97_0 : List xI := [.inl (.sipush 31), .inl (.lload 1), .inl .lmul, .inl (.aload 0), .inl (.getfield 256), .inl (.getfield 198), .inl .i2l, .inl .ladd, .inl (.lstore 3), .inl (.iconst 0), .inl (.istore 5), xto 18]
def k97_18 : List xI := [.inl (.iload 5), .inl (.aload 0), .inl (.getfield 256), .inl (.getfield 198), .inr (.if_icmp .ge 80), .inl (.iconst 0), .inl (.istore 6), xto 33]
def k97_33 : List xI := [.inl (.iload 6), .inl (.aload 0), .inl (.getfield 256), .inl (.getfield 192), .inr (.if_icmp .ge 74), .inl (.sipush 31), .inl (.lload 3), .inl .lmul, .inl (.aload 0), .inl (.getfield 256), .inl (.getfield 199), .inl (.iload 5), .inl .iaload, .inl (.iload 6), .inr (.invokeinterface 98 2), .inl .i2l, .inl .ladd, .inl (.lstore 3), .inl (.iinc 6 1), .inr (.goto 33)]
def k97_74 : List xI := [.inl (.iinc 5 1), .inr (.goto 18)]
def k97_80 : List xI := [.inl (.lload 3), .inr .lreturn]
def xm97 : List (Nat × List xI) := [(0, k97_0), (18, k97_18), (33, k97_33), (74, k97_74), (80, k97_80)]
/-- 98: DrawnFields.valueIn(II)I -/
def k98_0 : List xI := [.inl (.iload 0), .inl (.iconst 3), .inl (.iconst 3), .inl (.iload 1), .inl .isub, .inl .imul, .inl .ishr, .inl (.iconst 7), .inl .iand, .inr .ireturn]
def xm98 : List (Nat × List xI) := [(0, k98_0)]
/-- 99: DrawnFields.isRange(II)Z -/
def k99_0 : List xI := [.inl (.iload 0), .inr (.ifCond .lt 19), .inl (.iload 0), .inl (.iload 1), .inr (.if_icmp .gt 19), .inl (.iload 1), .inl (.iconst 8), .inr (.if_icmp .ge 19), .inl (.iconst 1), .inr (.goto 20)]
def k99_19 : List xI := [.inl (.iconst 0), xto 20]
def k99_20 : List xI := [.inr .areturn]
def xm99 : List (Nat × List xI) := [(0, k99_0), (19, k99_19), (20, k99_20)]
/-- 100: DrawnFields.tryField(II)I -/
def k100_0 : List xI := [.inl (.iload 1), .inl (.iload 2), .inr (.invokeinterface 99 2), .inr (.ifCond .ne 11), .inl (.iconst (-2)), .inr .ireturn]
def k100_11 : List xI := [.inl (.aload 0), .inl (.getfield 256), .inl (.getfield 192), .inl (.iconst 4), .inr (.if_icmp .ne 27), .inl (.iconst (-4)), .inr (.goto 36)]
def k100_27 : List xI := [.inl (.aload 0), .inl (.getfield 256), .inl (.iload 1), .inl (.iload 2), .inr (.invokeinterface 48 3), xto 36]
def k100_36 : List xI := [.inr .ireturn]
def xm100 : List (Nat × List xI) := [(0, k100_0), (11, k100_11), (27, k100_27), (36, k100_36)]
/-- 101: DrawnFields.tryRange(III)I -/
def k101_0 : List xI := [.inl (.aload 0), .inl (.getfield 256), .inl (.iload 1), .inr (.invokeinterface 45 2), .inr (.ifCond .eq 19), .inl (.iload 2), .inl (.iload 3), .inr (.invokeinterface 99 2), .inr (.ifCond .ne 22), xto 19]
def k101_19 : List xI := [.inl (.iconst (-2)), .inr .ireturn]
def k101_22 : List xI := [.inl (.aload 0), .inl (.getfield 256), .inl (.getfield 193), .inl (.iload 1), .inl .aaload, .inl (.iload 2), .inl (.putfield 32), .inl (.aload 0), .inl (.getfield 256), .inl (.getfield 193), .inl (.iload 1), .inl .aaload, .inl (.iload 3), .inl (.putfield 33), .inl (.aload 0), .inl (.getfield 256), .inr (.invokeinterface 51 1), .inl (.iload 3), .inl (.iload 2), .inl .isub, .inl (.iconst 1), .inl .iadd, .inr .ireturn]
def xm101 : List (Nat × List xI) := [(0, k101_0), (19, k101_19), (22, k101_22)]
/-- 102: DrawnFields.tryWeight(III)I -/
def k102_0 : List xI := [.inl (.aload 0), .inl (.getfield 256), .inl (.iload 1), .inr (.invokeinterface 45 2), .inr (.ifCond .eq 31), .inl (.iload 2), .inr (.ifCond .lt 31), .inl (.iload 2), .inl (.iconst 8), .inr (.if_icmp .ge 31), .inl (.iload 3), .inr (.ifCond .lt 31), .inl (.iload 3), .inl (.iconst 9), .inr (.if_icmp .le 34), xto 31]
def k102_31 : List xI := [.inl (.iconst (-2)), .inr .ireturn]
def k102_34 : List xI := [.inl (.aload 0), .inl (.getfield 256), .inl (.getfield 193), .inl (.iload 1), .inl .aaload, .inl (.getfield 36), .inl (.iload 2), .inl .iaload, .inl (.istore 4), .inl (.aload 0), .inl (.getfield 256), .inl (.getfield 193), .inl (.iload 1), .inl .aaload, .inl (.getfield 36), .inl (.iload 2), .inl (.iload 3), .inl .iastore, .inl (.iload 4), .inr .ireturn]
def xm102 : List (Nat × List xI) := [(0, k102_0), (31, k102_31), (34, k102_34)]
/-- 103: DrawnFields.tryRound(II)I -/
def k103_0 : List xI := [.inl (.aload 0), .inl (.getfield 256), .inl (.iload 1), .inr (.invokeinterface 45 2), .inr (.ifCond .eq 20), .inl (.iload 2), .inr (.ifCond .lt 20), .inl (.iload 2), .inl (.iconst 1), .inr (.if_icmp .le 23), xto 20]
def k103_20 : List xI := [.inl (.iconst (-2)), .inr .ireturn]
def k103_23 : List xI := [.inl (.aload 0), .inl (.getfield 256), .inl (.getfield 193), .inl (.iload 1), .inl .aaload, .inl (.getfield 34), .inl (.istore 3), .inl (.aload 0), .inl (.getfield 256), .inl (.getfield 193), .inl (.iload 1), .inl .aaload, .inl (.iload 2), .inl (.putfield 34), .inl (.aload 0), .inl (.getfield 256), .inl (.getfield 193), .inl (.iload 1), .inl .aaload, .inl (.iconst 0), .inl (.putfield 35), .inl (.iload 3), .inr .ireturn]
def xm103 : List (Nat × List xI) := [(0, k103_0), (20, k103_20), (23, k103_23)]
/-- 104: DrawnFields.tryPlace(II)I -/
def k104_0 : List xI := [.inl (.aload 0), .inl (.getfield 256), .inl (.iload 1), .inr (.invokeinterface 45 2), .inr (.ifCond .eq 26), .inl (.iload 2), .inr (.ifCond .lt 26), .inl (.iload 2), .inl (.aload 0), .inl (.getfield 256), .inl (.getfield 192), .inr (.if_icmp .lt 29), xto 26]
def k104_26 : List xI := [.inl (.iconst (-2)), .inr .ireturn]
def k104_29 : List xI := [.inl (.aload 0), .inl (.getfield 256), .inl (.iload 1), .inl (.iload 2), .inr (.invokeinterface 53 3), .inr .ireturn]
def xm104 : List (Nat × List xI) := [(0, k104_0), (26, k104_26), (29, k104_29)]
/-- 105: DrawnFields.tryRule(IIIII)I -/
def k105_0 : List xI := [.inl (.aload 0), .inl (.getfield 256), .inl (.iload 1), .inl (.iload 2), .inl (.iload 3), .inl (.iload 4), .inr (.invokeinterface 47 5), .inr (.ifCond .eq 28), .inl (.iload 5), .inl (.iconst (-1)), .inr (.if_icmp .lt 28), .inl (.iload 5), .inl (.iconst 10), .inr (.if_icmp .lt 31), xto 28]
def k105_28 : List xI := [.inl (.iconst (-2)), .inr .ireturn]
def k105_31 : List xI := [.inl (.aload 0), .inl (.getfield 256), .inl (.getfield 195), .inl (.iconst 8), .inr (.if_icmp .ne 48), .inl (.iconst (-4)), .inr (.goto 62)]
def k105_48 : List xI := [.inl (.aload 0), .inl (.getfield 256), .inl (.iload 1), .inl (.iload 2), .inl (.iload 3), .inl (.iload 4), .inl (.iload 5), .inr (.invokeinterface 49 6), xto 62]
def k105_62 : List xI := [.inr .ireturn]
def xm105 : List (Nat × List xI) := [(0, k105_0), (28, k105_28), (31, k105_31), (48, k105_48), (62, k105_62)]
/-- 106: DrawnFields.tryDrop(I)I -/
def k106_0 : List xI := [.inl (.aload 0), .inl (.getfield 256), .inl (.iload 1), .inr (.invokeinterface 46 2), .inr (.ifCond .eq 22), .inl (.aload 0), .inl (.getfield 256), .inl (.iload 1), .inr (.invokeinterface 50 2), .inr (.goto 24)]
def k106_22 : List xI := [.inl (.iconst (-2)), xto 24]
def k106_24 : List xI := [.inr .ireturn]
def xm106 : List (Nat × List xI) := [(0, k106_0), (22, k106_22), (24, k106_24)]
/-- 107: DrawnFields.tryDraw(II)I -/
def k107_0 : List xI := [.inl (.iload 1), .inr (.ifCond .lt 20), .inl (.iload 1), .inl (.iconst 1), .inr (.if_icmp .gt 20), .inl (.iload 2), .inr (.ifCond .lt 20), .inl (.iload 2), .inl (.iconst 999999), .inr (.if_icmp .le 23), xto 20]
def k107_20 : List xI := [.inl (.iconst (-2)), .inr .ireturn]
def k107_23 : List xI := [.inl (.aload 0), .inl (.getfield 258), .inl (.aload 0), .inl (.getfield 256), .inr (.invokeinterface 14 2), .inl (.aload 0), .inl (.getfield 258), .inl (.getfield 64), .inr (.invokeinterface 31 1), .inr (.ifCond .eq 50), .inl (.iconst (-3)), .inr .ireturn]
def k107_50 : List xI := [.inl (.aload 0), .inl (.getfield 259), .inl (.aload 0), .inl (.getfield 258), .inl (.getfield 64), .inl (.iload 2), .inr (.invokeinterface 1 3), .inl (.iload 1), .inr (.ifCond .ne 83), .inl (.aload 0), .inl (.getfield 259), .inl (.aload 0), .inl (.getfield 256), .inr (.invokeinterface 2 2), .inr (.goto 94)]
def k107_83 : List xI := [.inl (.aload 0), .inl (.getfield 259), .inl (.aload 0), .inl (.getfield 256), .inr (.invokeinterface 4 2), xto 94]
def k107_94 : List xI := [.inl (.istore 3), .inl (.aload 0), .inl (.getfield 256), .inl (.iload 3), .inr (.invokeinterface 55 2), .inl (.aload 0), .inl (.getfield 258), .inl (.getfield 64), .inl (.iload 3), .inr (.invokeinterface 37 2), .inr .ireturn]
def xm107 : List (Nat × List xI) := [(0, k107_0), (20, k107_20), (23, k107_23), (50, k107_50), (83, k107_83), (94, k107_94)]
/-- 108: DrawnFields.performOrder()I -/
def k108_0 : List xI := [.inl (.aload 0), .inl (.getfield 261), .inl (.getfield 227), .inl (.astore 1), .inl (.aload 0), .inl (.getfield 261), .inl (.getfield 226), .inr (.lookupswitch 201 #[(100, 192), (101, 201), (102, 112), (103, 201), (104, 123), (105, 201), (106, 201), (107, 201), (108, 201), (109, 201), (110, 201), (111, 201), (112, 201), (113, 201), (114, 175), (115, 141), (116, 201), (117, 201), (118, 201), (119, 161), (120, 184)])]
def k108_112 : List xI := [.inl (.aload 0), .inl (.aload 1), .inl (.iconst 0), .inl .iaload, .inl (.aload 1), .inl (.iconst 1), .inl .iaload, .inr (.invokeinterface 100 3), .inr .ireturn]
def k108_123 : List xI := [.inl (.aload 0), .inl (.aload 1), .inl (.iconst 0), .inl .iaload, .inl (.aload 1), .inl (.iconst 1), .inl .iaload, .inl (.aload 1), .inl (.iconst 2), .inl .iaload, .inl (.aload 1), .inl (.iconst 3), .inl .iaload, .inl (.iconst (-1)), .inr (.invokeinterface 105 6), .inr .ireturn]
def k108_141 : List xI := [.inl (.aload 0), .inl (.aload 1), .inl (.iconst 1), .inl .iaload, .inl (.aload 1), .inl (.iconst 2), .inl .iaload, .inl (.aload 1), .inl (.iconst 3), .inl .iaload, .inl (.aload 1), .inl (.iconst 4), .inl .iaload, .inl (.aload 1), .inl (.iconst 0), .inl .iaload, .inr (.invokeinterface 105 6), .inr .ireturn]
def k108_161 : List xI := [.inl (.aload 0), .inl (.aload 1), .inl (.iconst 0), .inl .iaload, .inl (.aload 1), .inl (.iconst 1), .inl .iaload, .inl (.aload 1), .inl (.iconst 2), .inl .iaload, .inr (.invokeinterface 102 4), .inr .ireturn]
def k108_175 : List xI := [.inl (.aload 0), .inl (.aload 1), .inl (.iconst 0), .inl .iaload, .inl (.iconst 1), .inr (.invokeinterface 103 3), .inr .ireturn]
def k108_184 : List xI := [.inl (.aload 0), .inl (.aload 1), .inl (.iconst 0), .inl .iaload, .inr (.invokeinterface 106 2), .inr .ireturn]
def k108_192 : List xI := [.inl (.aload 0), .inl (.iconst 0), .inl (.aload 1), .inl (.iconst 0), .inl .iaload, .inr (.invokeinterface 107 3), .inr .ireturn]
def k108_201 : List xI := [.inl (.aload 0), .inl (.iconst 1), .inl (.aload 1), .inl (.iconst 0), .inl .iaload, .inr (.invokeinterface 107 3), .inr .ireturn]
def xm108 : List (Nat × List xI) := [(0, k108_0), (112, k108_112), (123, k108_123), (141, k108_141), (161, k108_161), (175, k108_175), (184, k108_184), (192, k108_192), (201, k108_201)]
/-- 109: DrawnFieldsModel.<init>()V -/
def k109_0 : List xI := [.inl (.aload 0), .inl .pop, .inl (.aload 0), .inl (.iconst 115), .inl (.newarray .int), .inl (.putfield 288), .inl (.aload 0), .inl (.iconst 115), .inl (.newarray .int), .inl (.putfield 289), .inl (.aload 0), .inl (.iconst 460), .inl (.newarray .int), .inl (.putfield 290), .inl (.aload 0), .inl (.iconst 3), .inl (.newarray .int), .inl (.putfield 292), .inl (.aload 0), .inl (.iconst 4096), .inl (.newarray .int), .inl (.putfield 294), .inl (.aload 0), .inl (.iconst 256), .inl (.newarray .boolean), .inl (.putfield 297), .inl (.aload 0), .inl (.iconst 8), .inl (.newarray .int), .inl (.putfield 298), .inl (.aload 0), .inl (.iconst 4096), .inl (.newarray .boolean), .inl (.putfield 300), .inl (.aload 0), .inl (.iconst 150), .inl (.newarray .int), .inl (.putfield 302), .inl (.aload 0), .inl (.iconst 60), .inl (.newarray .int), .inl (.putfield 307), .inl (.aload 0), .inl (.iconst 300), .inl (.newarray .int), .inl (.putfield 308), .inl (.aload 0), .inl (.iconst 0), .inl (.putfield 291), .inr .return_]
def xm109 : List (Nat × List xI) := [(0, k109_0)]
/-- 110: DrawnFieldsModel.in(III)Z -/
def k110_0 : List xI := [.inl (.iload 0), .inl (.iload 1), .inr (.if_icmp .lt 14), .inl (.iload 0), .inl (.iload 2), .inr (.if_icmp .gt 14), .inl (.iconst 1), .inr (.goto 15)]
def k110_14 : List xI := [.inl (.iconst 0), xto 15]
def k110_15 : List xI := [.inr .areturn]
def xm110 : List (Nat × List xI) := [(0, k110_0), (14, k110_14), (15, k110_15)]
/-- 111: DrawnFieldsModel.has(II)Z -/
def k111_0 : List xI := [.inl (.iload 0), .inl (.iload 1), .inl .ishr, .inl (.iconst 1), .inl .iand, .inl (.iconst 1), .inr (.if_icmp .ne 13), .inl (.iconst 1), .inr (.goto 14)]
def k111_13 : List xI := [.inl (.iconst 0), xto 14]
def k111_14 : List xI := [.inr .areturn]
def xm111 : List (Nat × List xI) := [(0, k111_0), (13, k111_13), (14, k111_14)]
/-- 112: DrawnFieldsModel.refuses(I)I -/
def k112_0 : List xI := [.inl (.aload 0), .inl (.getfield 292), .inl (.iconst (-2)), .inl (.iload 1), .inl .isub, .inl .dup2, .inl .iaload, .inl (.iconst 1), .inl .iadd, .inl .iastore, .inl (.iload 1), .inr .ireturn]
def xm112 : List (Nat × List xI) := [(0, k112_0)]
/-- 113: DrawnFieldsModel.hold()V -/
def k113_0 : List xI := [.inl (.iconst 0), .inl (.istore 1), xto 2]
def k113_2 : List xI := [.inl (.iload 1), .inl (.iconst 115), .inr (.if_icmp .ge 26), .inl (.aload 0), .inl (.getfield 289), .inl (.iload 1), .inl (.aload 0), .inl (.getfield 288), .inl (.iload 1), .inl .iaload, .inl .iastore, .inl (.iinc 1 1), .inr (.goto 2)]
def k113_26 : List xI := [.inr .return_]
def xm113 : List (Nat × List xI) := [(0, k113_0), (2, k113_2), (26, k113_26)]
/-- 114: DrawnFieldsModel.push()V -/
def k114_0 : List xI := [.inl (.aload 0), .inl (.getfield 291), .inl (.iconst 4), .inr (.if_icmp .ne 48), .inl (.iconst 0), .inl (.istore 1), xto 10]
def k114_10 : List xI := [.inl (.iload 1), .inl (.iconst 345), .inr (.if_icmp .ge 38), .inl (.aload 0), .inl (.getfield 290), .inl (.iload 1), .inl (.aload 0), .inl (.getfield 290), .inl (.iload 1), .inl (.iconst 115), .inl .iadd, .inl .iaload, .inl .iastore, .inl (.iinc 1 1), .inr (.goto 10)]
def k114_38 : List xI := [.inl (.aload 0), .inl .dup, .inl (.getfield 291), .inl (.iconst 1), .inl .isub, .inl (.putfield 291), xto 48]
def k114_48 : List xI := [.inl (.iconst 0), .inl (.istore 1), xto 50]
def k114_50 : List xI := [.inl (.iload 1), .inl (.iconst 115), .inr (.if_icmp .ge 82), .inl (.aload 0), .inl (.getfield 290), .inl (.iconst 115), .inl (.aload 0), .inl (.getfield 291), .inl .imul, .inl (.iload 1), .inl .iadd, .inl (.aload 0), .inl (.getfield 289), .inl (.iload 1), .inl .iaload, .inl .iastore, .inl (.iinc 1 1), .inr (.goto 50)]
def k114_82 : List xI := [.inl (.aload 0), .inl .dup, .inl (.getfield 291), .inl (.iconst 1), .inl .iadd, .inl (.putfield 291), .inr .return_]
def xm114 : List (Nat × List xI) := [(0, k114_0), (10, k114_10), (38, k114_38), (48, k114_48), (50, k114_50), (82, k114_82)]
/-- 115: DrawnFieldsModel.ends(I)I -/
def k115_0 : List xI := [.inl (.iload 1), .inr (.ifCond .ge 10), .inl (.aload 0), .inl (.iload 1), .inr (.invokeinterface 112 2), .inr .ireturn]
def k115_10 : List xI := [.inl (.aload 0), .inr (.invokeinterface 114 1), .inl (.iload 1), .inr .ireturn]
def xm115 : List (Nat × List xI) := [(0, k115_0), (10, k115_10)]
/-- 116: DrawnFieldsModel.back()I -/
def k116_0 : List xI := [.inl (.aload 0), .inl (.getfield 291), .inr (.ifCond .ne 14), .inl (.aload 0), .inl (.iconst (-3)), .inr (.invokeinterface 112 2), .inr .ireturn]
def k116_14 : List xI := [.inl (.aload 0), .inl .dup, .inl (.getfield 291), .inl (.iconst 1), .inl .isub, .inl (.putfield 291), .inl (.iconst 0), .inl (.istore 1), xto 26]
def k116_26 : List xI := [.inl (.iload 1), .inl (.iconst 115), .inr (.if_icmp .ge 58), .inl (.aload 0), .inl (.getfield 288), .inl (.iload 1), .inl (.aload 0), .inl (.getfield 290), .inl (.iconst 115), .inl (.aload 0), .inl (.getfield 291), .inl .imul, .inl (.iload 1), .inl .iadd, .inl .iaload, .inl .iastore, .inl (.iinc 1 1), .inr (.goto 26)]
def k116_58 : List xI := [.inl (.aload 0), .inl (.iconst 0), .inl (.putfield 293), .inl (.aload 0), .inl (.getfield 291), .inr .ireturn]
def xm116 : List (Nat × List xI) := [(0, k116_0), (14, k116_14), (26, k116_26), (58, k116_58)]
/-- 117: DrawnFieldsModel.fields()I -/
def k117_0 : List xI := [.inl (.aload 0), .inl (.getfield 288), .inl (.iconst 0), .inl .iaload, .inr .ireturn]
def xm117 : List (Nat × List xI) := [(0, k117_0)]
/-- 118: DrawnFieldsModel.isField(I)Z -/
def k118_0 : List xI := [.inl (.iload 1), .inl (.iconst 0), .inl (.aload 0), .inl (.getfield 288), .inl (.iconst 0), .inl .iaload, .inl (.iconst 1), .inl .isub, .inr (.invokeinterface 110 3), .inr .areturn]
def xm118 : List (Nat × List xI) := [(0, k118_0)]
/-- 119: DrawnFieldsModel.isRule(I)Z -/
def k119_0 : List xI := [.inl (.iload 1), .inl (.iconst 0), .inl (.aload 0), .inl (.getfield 288), .inl (.iconst 57), .inl .iaload, .inl (.iconst 1), .inl .isub, .inr (.invokeinterface 110 3), .inr .areturn]
def xm119 : List (Nat × List xI) := [(0, k119_0)]
/-- 120: DrawnFieldsModel.ofField(II)I -/
def k120_0 : List xI := [.inl (.aload 0), .inl (.getfield 288), .inl (.iconst 1), .inl (.iconst 13), .inl (.iload 1), .inl .imul, .inl .iadd, .inl (.iload 2), .inl .iadd, .inl .iaload, .inr .ireturn]
def xm120 : List (Nat × List xI) := [(0, k120_0)]
/-- 121: DrawnFieldsModel.put(III)V -/
def k121_0 : List xI := [.inl (.aload 0), .inl (.getfield 288), .inl (.iconst 1), .inl (.iconst 13), .inl (.iload 1), .inl .imul, .inl .iadd, .inl (.iload 2), .inl .iadd, .inl (.iload 3), .inl .iastore, .inr .return_]
def xm121 : List (Nat × List xI) := [(0, k121_0)]
/-- 122: DrawnFieldsModel.ofRule(II)I -/
def k122_0 : List xI := [.inl (.aload 0), .inl (.getfield 288), .inl (.iconst 58), .inl (.iconst 5), .inl (.iload 1), .inl .imul, .inl .iadd, .inl (.iload 2), .inl .iadd, .inl .iaload, .inr .ireturn]
def xm122 : List (Nat × List xI) := [(0, k122_0)]
/-- 123: DrawnFieldsModel.empty()V -/
def k123_0 : List xI := [.inl (.iconst 0), .inl (.istore 1), xto 2]
def k123_2 : List xI := [.inl (.iload 1), .inl (.iconst 4), .inr (.if_icmp .ge 27), .inl (.aload 0), .inl (.iload 1), .inl (.iconst 3), .inl (.iconst 0), .inr (.invokeinterface 121 4), .inl (.aload 0), .inl (.iload 1), .inl (.iconst 4), .inl (.iconst (-1)), .inr (.invokeinterface 121 4), .inl (.iinc 1 1), .inr (.goto 2)]
def k123_27 : List xI := [.inl (.aload 0), .inl (.getfield 288), .inl (.iconst 98), .inl (.iconst 0), .inl .iastore, .inl (.aload 0), .inl (.iconst 0), .inl (.putfield 293), .inr .return_]
def xm123 : List (Nat × List xI) := [(0, k123_0), (2, k123_2), (27, k123_27)]
/-- 124: DrawnFieldsModel.doField(II)I -/
def k124_0 : List xI := [.inl (.iload 1), .inl (.iconst 0), .inl (.iconst 7), .inr (.invokeinterface 110 3), .inr (.ifCond .eq 20), .inl (.iload 2), .inl (.iload 1), .inl (.iconst 7), .inr (.invokeinterface 110 3), .inr (.ifCond .ne 23), xto 20]
def k124_20 : List xI := [.inl (.iconst (-2)), .inr .ireturn]
def k124_23 : List xI := [.inl (.aload 0), .inl (.getfield 288), .inl (.iconst 0), .inl .iaload, .inl (.iconst 4), .inr (.if_icmp .ne 36), .inl (.iconst (-4)), .inr .ireturn]
def k124_36 : List xI := [.inl (.aload 0), .inl (.getfield 288), .inl (.iconst 0), .inl .iaload, .inl (.istore 3), .inl (.aload 0), .inl (.getfield 288), .inl (.iconst 0), .inl .dup2, .inl .iaload, .inl (.iconst 1), .inl .iadd, .inl .iastore, .inl (.aload 0), .inl (.iload 3), .inl (.iconst 0), .inl (.iload 1), .inr (.invokeinterface 121 4), .inl (.aload 0), .inl (.iload 3), .inl (.iconst 1), .inl (.iload 2), .inr (.invokeinterface 121 4), .inl (.aload 0), .inl (.iload 3), .inl (.iconst 2), .inl (.iconst 0), .inr (.invokeinterface 121 4), .inl (.iconst 0), .inl (.istore 4), xto 77]
def k124_77 : List xI := [.inl (.iload 4), .inl (.iconst 8), .inr (.if_icmp .ge 100), .inl (.aload 0), .inl (.iload 3), .inl (.iconst 5), .inl (.iload 4), .inl .iadd, .inl (.iconst 1), .inr (.invokeinterface 121 4), .inl (.iinc 4 1), .inr (.goto 77)]
def k124_100 : List xI := [.inl (.aload 0), .inl (.getfield 288), .inl (.iconst 53), .inl (.iload 3), .inl .iadd, .inl (.iload 3), .inl .iastore, .inl (.aload 0), .inr (.invokeinterface 123 1), .inl (.iload 3), .inr .ireturn]
def xm124 : List (Nat × List xI) := [(0, k124_0), (20, k124_20), (23, k124_23), (36, k124_36), (77, k124_77), (100, k124_100)]
/-- 125: DrawnFieldsModel.doRange(III)I -/
def k125_0 : List xI := [.inl (.aload 0), .inl (.iload 1), .inr (.invokeinterface 118 2), .inr (.ifCond .eq 28), .inl (.iload 2), .inl (.iconst 0), .inl (.iconst 7), .inr (.invokeinterface 110 3), .inr (.ifCond .eq 28), .inl (.iload 3), .inl (.iload 2), .inl (.iconst 7), .inr (.invokeinterface 110 3), .inr (.ifCond .ne 31), xto 28]
def k125_28 : List xI := [.inl (.iconst (-2)), .inr .ireturn]
def k125_31 : List xI := [.inl (.aload 0), .inl (.iload 1), .inl (.iconst 0), .inl (.iload 2), .inr (.invokeinterface 121 4), .inl (.aload 0), .inl (.iload 1), .inl (.iconst 1), .inl (.iload 3), .inr (.invokeinterface 121 4), .inl (.aload 0), .inr (.invokeinterface 123 1), .inl (.iload 3), .inl (.iload 2), .inl .isub, .inl (.iconst 1), .inl .iadd, .inr .ireturn]
def xm125 : List (Nat × List xI) := [(0, k125_0), (28, k125_28), (31, k125_31)]
/-- 126: DrawnFieldsModel.doWeighs(III)I -/
def k126_0 : List xI := [.inl (.aload 0), .inl (.iload 1), .inr (.invokeinterface 118 2), .inr (.ifCond .eq 28), .inl (.iload 2), .inl (.iconst 0), .inl (.iconst 7), .inr (.invokeinterface 110 3), .inr (.ifCond .eq 28), .inl (.iload 3), .inl (.iconst 0), .inl (.iconst 9), .inr (.invokeinterface 110 3), .inr (.ifCond .ne 31), xto 28]
def k126_28 : List xI := [.inl (.iconst (-2)), .inr .ireturn]
def k126_31 : List xI := [.inl (.aload 0), .inl (.iload 1), .inl (.iconst 5), .inl (.iload 2), .inl .iadd, .inr (.invokeinterface 120 3), .inl (.istore 4), .inl (.aload 0), .inl (.iload 1), .inl (.iconst 5), .inl (.iload 2), .inl .iadd, .inl (.iload 3), .inr (.invokeinterface 121 4), .inl (.iload 4), .inr .ireturn]
def xm126 : List (Nat × List xI) := [(0, k126_0), (28, k126_28), (31, k126_31)]
/-- 127: DrawnFieldsModel.doRound(II)I -/
def k127_0 : List xI := [.inl (.aload 0), .inl (.iload 1), .inr (.invokeinterface 118 2), .inr (.ifCond .eq 17), .inl (.iload 2), .inl (.iconst 0), .inl (.iconst 1), .inr (.invokeinterface 110 3), .inr (.ifCond .ne 20), xto 17]
def k127_17 : List xI := [.inl (.iconst (-2)), .inr .ireturn]
def k127_20 : List xI := [.inl (.aload 0), .inl (.iload 1), .inl (.iconst 2), .inr (.invokeinterface 120 3), .inl (.istore 3), .inl (.aload 0), .inl (.iload 1), .inl (.iconst 2), .inl (.iload 2), .inr (.invokeinterface 121 4), .inl (.aload 0), .inl (.iload 1), .inl (.iconst 3), .inl (.iconst 0), .inr (.invokeinterface 121 4), .inl (.iload 3), .inr .ireturn]
def xm127 : List (Nat × List xI) := [(0, k127_0), (17, k127_17), (20, k127_20)]
/-- 128: DrawnFieldsModel.mostOf(I)I -/
def k128_0 : List xI := [.inl (.iload 0), .inr (.ifCond .ne 9), .inl (.iconst 14), .inr (.goto 41)]
def k128_9 : List xI := [.inl (.iload 0), .inl (.iconst 3), .inr (.if_icmp .ne 20), .inl (.iconst 255), .inr (.goto 41)]
def k128_20 : List xI := [.inl (.iload 0), .inl (.iconst 4), .inr (.if_icmp .ne 30), .inl (.iconst 63), .inr (.goto 41)]
def k128_30 : List xI := [.inl (.iload 0), .inl (.iconst 5), .inr (.if_icmp .ne 40), .inl (.iconst 7), .inr (.goto 41)]
def k128_40 : List xI := [.inl (.iconst 0), xto 41]
def k128_41 : List xI := [.inr .ireturn]
def xm128 : List (Nat × List xI) := [(0, k128_0), (9, k128_9), (20, k128_20), (30, k128_30), (40, k128_40), (41, k128_41)]
/-- 129: DrawnFieldsModel.doRule(IIIII)I -/
def k129_0 : List xI := [.inl (.iload 1), .inl (.iconst 0), .inl (.iconst 5), .inr (.invokeinterface 110 3), .inr (.ifCond .eq 72), .inl (.aload 0), .inl (.iload 2), .inr (.invokeinterface 118 2), .inr (.ifCond .eq 72), .inl (.aload 0), .inl (.iload 3), .inr (.invokeinterface 118 2), .inr (.ifCond .eq 72), .inl (.iload 2), .inl (.iload 3), .inr (.if_icmp .ne 34), .inl (.iconst 1), .inr (.goto 35)]
def k129_34 : List xI := [.inl (.iconst 0), xto 35]
def k129_35 : List xI := [.inl (.iload 1), .inl (.iconst 3), .inr (.if_icmp .ne 44), .inl (.iconst 1), .inr (.goto 45)]
def k129_44 : List xI := [.inl (.iconst 0), xto 45]
def k129_45 : List xI := [.inr (.if_icmp .ne 72), .inl (.iload 4), .inl (.iconst 0), .inl (.iload 1), .inr (.invokeinterface 128 1), .inr (.invokeinterface 110 3), .inr (.ifCond .eq 72), .inl (.iload 5), .inl (.iconst (-1)), .inl (.iconst 9), .inr (.invokeinterface 110 3), .inr (.ifCond .ne 75), xto 72]
def k129_72 : List xI := [.inl (.iconst (-2)), .inr .ireturn]
def k129_75 : List xI := [.inl (.aload 0), .inl (.getfield 288), .inl (.iconst 57), .inl .iaload, .inl (.iconst 8), .inr (.if_icmp .ne 90), .inl (.iconst (-4)), .inr .ireturn]
def k129_90 : List xI := [.inl (.iconst 58), .inl (.iconst 5), .inl (.aload 0), .inl (.getfield 288), .inl (.iconst 57), .inl .iaload, .inl .imul, .inl .iadd, .inl (.istore 6), .inl (.aload 0), .inl (.getfield 288), .inl (.iload 6), .inl (.iload 1), .inl .iastore, .inl (.aload 0), .inl (.getfield 288), .inl (.iload 6), .inl (.iconst 1), .inl .iadd, .inl (.iload 2), .inl .iastore, .inl (.aload 0), .inl (.getfield 288), .inl (.iload 6), .inl (.iconst 2), .inl .iadd, .inl (.iload 3), .inl .iastore, .inl (.aload 0), .inl (.getfield 288), .inl (.iload 6), .inl (.iconst 3), .inl .iadd, .inl (.iload 4), .inl .iastore, .inl (.aload 0), .inl (.getfield 288), .inl (.iload 6), .inl (.iconst 4), .inl .iadd, .inl (.iload 5), .inl .iastore, .inl (.aload 0), .inl (.getfield 288), .inl (.iconst 57), .inl .dup2, .inl .iaload, .inl (.iconst 1), .inl .iadd, .inl .iastore, .inl (.aload 0), .inr (.invokeinterface 123 1), .inl (.aload 0), .inl (.getfield 288), .inl (.iconst 57), .inl .iaload, .inl (.iconst 1), .inl .isub, .inr .ireturn]
def xm129 : List (Nat × List xI) := [(0, k129_0), (34, k129_34), (35, k129_35), (44, k129_44), (45, k129_45), (72, k129_72), (75, k129_75), (90, k129_90)]
/-- 130: DrawnFieldsModel.doDrops(I)I -/
def k130_0 : List xI := [.inl (.aload 0), .inl (.iload 1), .inr (.invokeinterface 119 2), .inr (.ifCond .ne 11), .inl (.iconst (-2)), .inr .ireturn]
def k130_11 : List xI := [.inl (.iconst 58), .inl (.iconst 5), .inl (.iload 1), .inl .imul, .inl .iadd, .inl (.istore 2), xto 18]
def k130_18 : List xI := [.inl (.iload 2), .inl (.iconst 93), .inr (.if_icmp .ge 44), .inl (.aload 0), .inl (.getfield 288), .inl (.iload 2), .inl (.aload 0), .inl (.getfield 288), .inl (.iload 2), .inl (.iconst 5), .inl .iadd, .inl .iaload, .inl .iastore, .inl (.iinc 2 1), .inr (.goto 18)]
def k130_44 : List xI := [.inl (.aload 0), .inl (.getfield 288), .inl (.iconst 57), .inl .dup2, .inl .iaload, .inl (.iconst 1), .inl .isub, .inl .iastore, .inl (.aload 0), .inr (.invokeinterface 123 1), .inl (.aload 0), .inl (.getfield 288), .inl (.iconst 57), .inl .iaload, .inr .ireturn]
def xm130 : List (Nat × List xI) := [(0, k130_0), (11, k130_11), (18, k130_18), (44, k130_44)]
/-- 131: DrawnFieldsModel.field(II)I -/
def k131_0 : List xI := [.inl (.aload 0), .inr (.invokeinterface 113 1), .inl (.aload 0), .inl (.aload 0), .inl (.iload 1), .inl (.iload 2), .inr (.invokeinterface 124 3), .inr (.invokeinterface 115 2), .inr .ireturn]
def xm131 : List (Nat × List xI) := [(0, k131_0)]
/-- 132: DrawnFieldsModel.range(III)I -/
def k132_0 : List xI := [.inl (.aload 0), .inr (.invokeinterface 113 1), .inl (.aload 0), .inl (.aload 0), .inl (.iload 1), .inl (.iload 2), .inl (.iload 3), .inr (.invokeinterface 125 4), .inr (.invokeinterface 115 2), .inr .ireturn]
def xm132 : List (Nat × List xI) := [(0, k132_0)]
/-- 133: DrawnFieldsModel.weighs(III)I -/
def k133_0 : List xI := [.inl (.aload 0), .inr (.invokeinterface 113 1), .inl (.aload 0), .inl (.aload 0), .inl (.iload 1), .inl (.iload 2), .inl (.iload 3), .inr (.invokeinterface 126 4), .inr (.invokeinterface 115 2), .inr .ireturn]
def xm133 : List (Nat × List xI) := [(0, k133_0)]
/-- 134: DrawnFieldsModel.round(II)I -/
def k134_0 : List xI := [.inl (.aload 0), .inr (.invokeinterface 113 1), .inl (.aload 0), .inl (.aload 0), .inl (.iload 1), .inl (.iload 2), .inr (.invokeinterface 127 3), .inr (.invokeinterface 115 2), .inr .ireturn]
def xm134 : List (Nat × List xI) := [(0, k134_0)]
/-- 135: DrawnFieldsModel.placeOf(I)I -/
def k135_0 : List xI := [.inl (.iconst 0), .inl (.istore 2), xto 2]
def k135_2 : List xI := [.inl (.aload 0), .inl (.getfield 288), .inl (.iconst 53), .inl (.iload 2), .inl .iadd, .inl .iaload, .inl (.iload 1), .inr (.if_icmp .eq 21), .inl (.iinc 2 1), .inr (.goto 2)]
def k135_21 : List xI := [.inl (.iload 2), .inr .ireturn]
def xm135 : List (Nat × List xI) := [(0, k135_0), (2, k135_2), (21, k135_21)]
/-- 136: DrawnFieldsModel.orders(II)I -/
def k136_0 : List xI := [.inl (.aload 0), .inl (.iload 1), .inr (.invokeinterface 118 2), .inr (.ifCond .eq 16), .inl (.aload 0), .inl (.iload 2), .inr (.invokeinterface 118 2), .inr (.ifCond .ne 23), xto 16]
def k136_16 : List xI := [.inl (.aload 0), .inl (.iconst (-2)), .inr (.invokeinterface 112 2), .inr .ireturn]
def k136_23 : List xI := [.inl (.aload 0), .inr (.invokeinterface 113 1), .inl (.aload 0), .inl (.iload 1), .inr (.invokeinterface 135 2), .inl (.istore 3), .inl (.iload 3), .inl (.istore 4), xto 36]
def k136_36 : List xI := [.inl (.iload 4), .inl (.iload 2), .inr (.if_icmp .ge 70), .inl (.aload 0), .inl (.getfield 288), .inl (.iconst 53), .inl (.iload 4), .inl .iadd, .inl (.aload 0), .inl (.getfield 288), .inl (.iconst 53), .inl (.iload 4), .inl .iadd, .inl (.iconst 1), .inl .iadd, .inl .iaload, .inl .iastore, .inl (.iinc 4 1), .inr (.goto 36)]
def k136_70 : List xI := [.inl (.iload 3), .inl (.istore 4), xto 73]
def k136_73 : List xI := [.inl (.iload 4), .inl (.iload 2), .inr (.if_icmp .le 107), .inl (.aload 0), .inl (.getfield 288), .inl (.iconst 53), .inl (.iload 4), .inl .iadd, .inl (.aload 0), .inl (.getfield 288), .inl (.iconst 53), .inl (.iload 4), .inl .iadd, .inl (.iconst 1), .inl .isub, .inl .iaload, .inl .iastore, .inl (.iinc 4 (-1)), .inr (.goto 73)]
def k136_107 : List xI := [.inl (.aload 0), .inl (.getfield 288), .inl (.iconst 53), .inl (.iload 2), .inl .iadd, .inl (.iload 1), .inl .iastore, .inl (.aload 0), .inr (.invokeinterface 114 1), .inl (.iload 3), .inr .ireturn]
def xm136 : List (Nat × List xI) := [(0, k136_0), (16, k136_16), (23, k136_23), (36, k136_36), (70, k136_70), (73, k136_73), (107, k136_107)]
/-- 137: DrawnFieldsModel.rule(IIIII)I -/
def k137_0 : List xI := [.inl (.aload 0), .inr (.invokeinterface 113 1), .inl (.aload 0), .inl (.aload 0), .inl (.iload 1), .inl (.iload 2), .inl (.iload 3), .inl (.iload 4), .inl (.iload 5), .inr (.invokeinterface 129 6), .inr (.invokeinterface 115 2), .inr .ireturn]
def xm137 : List (Nat × List xI) := [(0, k137_0)]
/-- 138: DrawnFieldsModel.drops(I)I -/
def k138_0 : List xI := [.inl (.aload 0), .inr (.invokeinterface 113 1), .inl (.aload 0), .inl (.aload 0), .inl (.iload 1), .inr (.invokeinterface 130 2), .inr (.invokeinterface 115 2), .inr .ireturn]
def xm138 : List (Nat × List xI) := [(0, k138_0)]
/-- 139: DrawnFieldsModel.valueOf(II)I -/
def k139_0 : List xI := [.inl (.iload 1), .inl (.iconst 9), .inl (.iconst 3), .inl (.iload 2), .inl .imul, .inl .isub, .inl .ishr, .inl (.iconst 7), .inl .iand, .inr .ireturn]
def xm139 : List (Nat × List xI) := [(0, k139_0)]
/-- 140: DrawnFieldsModel.keeps(II)Z -/
def k140_0 : List xI := [.inl (.aload 0), .inl (.iload 1), .inl (.aload 0), .inl (.iload 2), .inl (.iconst 1), .inr (.invokeinterface 122 3), .inr (.invokeinterface 139 3), .inl (.istore 3), .inl (.aload 0), .inl (.iload 1), .inl (.aload 0), .inl (.iload 2), .inl (.iconst 2), .inr (.invokeinterface 122 3), .inr (.invokeinterface 139 3), .inl (.istore 4), .inl (.aload 0), .inl (.iload 2), .inl (.iconst 3), .inr (.invokeinterface 122 3), .inl (.istore 5), .inl (.aload 0), .inl (.iload 2), .inl (.iconst 0), .inr (.invokeinterface 122 3), .inr (.lookupswitch 143 #[(0, 72), (1, 87), (2, 99), (3, 111), (4, 118)])]
def k140_72 : List xI := [.inl (.iload 3), .inl (.iload 4), .inl .iadd, .inl (.iload 5), .inr (.if_icmp .ne 85), .inl (.iconst 1), .inr (.goto 86)]
def k140_85 : List xI := [.inl (.iconst 0), xto 86]
def k140_86 : List xI := [.inr .areturn]
def k140_87 : List xI := [.inl (.iload 3), .inl (.iload 4), .inr (.if_icmp .ge 97), .inl (.iconst 1), .inr (.goto 98)]
def k140_97 : List xI := [.inl (.iconst 0), xto 98]
def k140_98 : List xI := [.inr .areturn]
def k140_99 : List xI := [.inl (.iload 3), .inl (.iload 4), .inr (.if_icmp .eq 109), .inl (.iconst 1), .inr (.goto 110)]
def k140_109 : List xI := [.inl (.iconst 0), xto 110]
def k140_110 : List xI := [.inr .areturn]
def k140_111 : List xI := [.inl (.iload 5), .inl (.iload 3), .inr (.invokeinterface 111 2), .inr .areturn]
def k140_118 : List xI := [.inl (.iload 3), .inl (.iload 5), .inl (.iconst 8), .inl .idiv, .inr (.if_icmp .ne 137), .inl (.iload 4), .inl (.iload 5), .inl (.iconst 8), .inl .irem, .inr (.if_icmp .ne 141), xto 137]
def k140_137 : List xI := [.inl (.iconst 1), .inr (.goto 142)]
def k140_141 : List xI := [.inl (.iconst 0), xto 142]
def k140_142 : List xI := [.inr .areturn]
def k140_143 : List xI := [.inl (.iload 3), .inl (.iload 4), .inl .isub, .inl (.iload 5), .inr (.if_icmp .ge 161), .inl (.iload 4), .inl (.iload 3), .inl .isub, .inl (.iload 5), .inr (.if_icmp .lt 165), xto 161]
def k140_161 : List xI := [.inl (.iconst 1), .inr (.goto 166)]
def k140_165 : List xI := [.inl (.iconst 0), xto 166]
def k140_166 : List xI := [.inr .areturn]
def xm140 : List (Nat × List xI) := [(0, k140_0), (72, k140_72), (85, k140_85), (86, k140_86), (87, k140_87), (97, k140_97), (98, k140_98), (99, k140_99), (109, k140_109), (110, k140_110), (111, k140_111), (118, k140_118), (137, k140_137), (141, k140_141), (142, k140_142), (143, k140_143), (161, k140_161), (165, k140_165), (166, k140_166)]
/-- 141: DrawnFieldsModel.keptBy(I)I -/
def k141_0 : List xI := [.inl (.iconst 0), .inl (.istore 2), .inl (.iconst 0), .inl (.istore 3), xto 4]
def k141_4 : List xI := [.inl (.iload 3), .inl (.aload 0), .inl (.getfield 288), .inl (.iconst 57), .inl .iaload, .inr (.if_icmp .ge 40), .inl (.iload 2), .inl (.aload 0), .inl (.iload 1), .inl (.iload 3), .inr (.invokeinterface 140 3), .inr (.ifCond .eq 31), .inl (.iconst 1), .inl (.iload 3), .inl .ishl, .inr (.goto 32)]
def k141_31 : List xI := [.inl (.iconst 0), xto 32]
def k141_32 : List xI := [.inl .ior, .inl (.istore 2), .inl (.iinc 3 1), .inr (.goto 4)]
def k141_40 : List xI := [.inl (.iload 2), .inr .ireturn]
def xm141 : List (Nat × List xI) := [(0, k141_0), (4, k141_4), (31, k141_31), (32, k141_32), (40, k141_40)]
/-- 142: DrawnFieldsModel.isSome(I)Z -/
def k142_0 : List xI := [.inl (.iconst 0), .inl (.istore 2), .inl (.iconst 0), .inl (.istore 3), xto 4]
def k142_4 : List xI := [.inl (.iload 3), .inl (.iconst 256), .inr (.if_icmp .ge 44), .inl (.iload 2), .inr (.ifCond .ne 44), .inl (.aload 0), .inl (.getfield 297), .inl (.iload 3), .inl .baload, .inr (.ifCond .eq 36), .inl (.iload 1), .inl (.iload 3), .inl (.iconst (-1)), .inl .ixor, .inl .iand, .inr (.ifCond .ne 36), .inl (.iconst 1), .inr (.goto 37)]
def k142_36 : List xI := [.inl (.iconst 0), xto 37]
def k142_37 : List xI := [.inl (.istore 2), .inl (.iinc 3 1), .inr (.goto 4)]
def k142_44 : List xI := [.inl (.iload 2), .inr .areturn]
def xm142 : List (Nat × List xI) := [(0, k142_0), (4, k142_4), (36, k142_36), (37, k142_37), (44, k142_44)]
/-- 143: DrawnFieldsModel.first()I -/
def k143_0 : List xI := [.inl (.iconst 0), .inl (.istore 1), .inl (.iconst 0), .inl (.istore 2), xto 4]
def k143_4 : List xI := [.inl (.iload 2), .inl (.aload 0), .inr (.invokeinterface 117 1), .inr (.if_icmp .ge 34), .inl (.iload 1), .inl (.aload 0), .inl (.iload 2), .inl (.iconst 0), .inr (.invokeinterface 120 3), .inl (.iconst 9), .inl (.iconst 3), .inl (.iload 2), .inl .imul, .inl .isub, .inl .ishl, .inl .ior, .inl (.istore 1), .inl (.iinc 2 1), .inr (.goto 4)]
def k143_34 : List xI := [.inl (.iload 1), .inr .ireturn]
def xm143 : List (Nat × List xI) := [(0, k143_0), (4, k143_4), (34, k143_34)]
/-- 144: DrawnFieldsModel.next(I)I -/
def k144_0 : List xI := [.inl (.iload 1), .inl (.istore 2), .inl (.aload 0), .inr (.invokeinterface 117 1), .inl (.iconst 1), .inl .isub, .inl (.istore 3), xto 9]
def k144_9 : List xI := [.inl (.iload 3), .inr (.ifCond .lt 69), .inl (.iconst 9), .inl (.iconst 3), .inl (.iload 3), .inl .imul, .inl .isub, .inl (.istore 4), .inl (.aload 0), .inl (.iload 2), .inl (.iload 3), .inr (.invokeinterface 139 3), .inl (.aload 0), .inl (.iload 3), .inl (.iconst 1), .inr (.invokeinterface 120 3), .inr (.if_icmp .ge 43), .inl (.iload 2), .inl (.iconst 1), .inl (.iload 4), .inl .ishl, .inl .iadd, .inr .ireturn]
def k144_43 : List xI := [.inl (.iload 2), .inl (.iconst 7), .inl (.iload 4), .inl .ishl, .inl (.iconst (-1)), .inl .ixor, .inl .iand, .inl (.aload 0), .inl (.iload 3), .inl (.iconst 0), .inr (.invokeinterface 120 3), .inl (.iload 4), .inl .ishl, .inl .ior, .inl (.istore 2), .inl (.iinc 3 (-1)), .inr (.goto 9)]
def k144_69 : List xI := [.inl (.iconst (-1)), .inr .ireturn]
def xm144 : List (Nat × List xI) := [(0, k144_0), (9, k144_9), (43, k144_43), (69, k144_69)]
/-- 145: DrawnFieldsModel.hard()I -/
def k145_0 : List xI := [.inl (.iconst 0), .inl (.istore 1), .inl (.iconst 0), .inl (.istore 2), xto 4]
def k145_4 : List xI := [.inl (.iload 2), .inl (.aload 0), .inl (.getfield 288), .inl (.iconst 57), .inl .iaload, .inr (.if_icmp .ge 41), .inl (.iload 1), .inl (.aload 0), .inl (.iload 2), .inl (.iconst 4), .inr (.invokeinterface 122 3), .inl (.iconst (-1)), .inr (.if_icmp .ne 32), .inl (.iconst 1), .inl (.iload 2), .inl .ishl, .inr (.goto 33)]
def k145_32 : List xI := [.inl (.iconst 0), xto 33]
def k145_33 : List xI := [.inl .ior, .inl (.istore 1), .inl (.iinc 2 1), .inr (.goto 4)]
def k145_41 : List xI := [.inl (.iload 1), .inr .ireturn]
def xm145 : List (Nat × List xI) := [(0, k145_0), (4, k145_4), (32, k145_32), (33, k145_33), (41, k145_41)]
/-- 146: DrawnFieldsModel.lookAtSoft()V -/
def k146_0 : List xI := [.inl (.aload 0), .inl (.iconst 0), .inl (.putfield 299), .inl (.iconst 0), .inl (.istore 1), xto 7]
def k146_7 : List xI := [.inl (.iload 1), .inl (.iconst 10), .inr (.if_icmp .ge 68), .inl (.iconst 0), .inl (.istore 2), xto 15]
def k146_15 : List xI := [.inl (.iload 2), .inl (.aload 0), .inl (.getfield 288), .inl (.iconst 57), .inl .iaload, .inr (.if_icmp .ge 62), .inl (.aload 0), .inl (.iload 2), .inl (.iconst 4), .inr (.invokeinterface 122 3), .inl (.iload 1), .inr (.if_icmp .ne 56), .inl (.aload 0), .inl (.getfield 298), .inl (.aload 0), .inl (.getfield 299), .inl (.iload 2), .inl .iastore, .inl (.aload 0), .inl .dup, .inl (.getfield 299), .inl (.iconst 1), .inl .iadd, .inl (.putfield 299), xto 56]
def k146_56 : List xI := [.inl (.iinc 2 1), .inr (.goto 15)]
def k146_62 : List xI := [.inl (.iinc 1 1), .inr (.goto 7)]
def k146_68 : List xI := [.inl (.aload 0), .inl (.aload 0), .inr (.invokeinterface 145 1), .inl (.putfield 296), .inl (.iconst 0), .inl (.istore 1), xto 78]
def k146_78 : List xI := [.inl (.iload 1), .inl (.aload 0), .inl (.getfield 299), .inr (.if_icmp .ge 133), .inl (.aload 0), .inl .dup, .inl (.getfield 296), .inl (.aload 0), .inl (.aload 0), .inl (.getfield 296), .inl (.iconst 1), .inl (.aload 0), .inl (.getfield 298), .inl (.iload 1), .inl .iaload, .inl .ishl, .inl .ior, .inr (.invokeinterface 142 2), .inr (.ifCond .eq 122), .inl (.iconst 1), .inl (.aload 0), .inl (.getfield 298), .inl (.iload 1), .inl .iaload, .inl .ishl, .inr (.goto 123)]
def k146_122 : List xI := [.inl (.iconst 0), xto 123]
def k146_123 : List xI := [.inl .ior, .inl (.putfield 296), .inl (.iinc 1 1), .inr (.goto 78)]
def k146_133 : List xI := [.inr .return_]
def xm146 : List (Nat × List xI) := [(0, k146_0), (7, k146_7), (15, k146_15), (56, k146_56), (62, k146_62), (68, k146_68), (78, k146_78), (122, k146_122), (123, k146_123), (133, k146_133)]
/-- 147: DrawnFieldsModel.lay()V -/
def k147_0 : List xI := [.inl (.aload 0), .inl (.getfield 293), .inr (.ifCond .eq 8), .inr .return_]
def k147_8 : List xI := [.inl (.aload 0), .inl (.iconst 1), .inl (.putfield 293), .inl (.iconst 0), .inl (.istore 1), xto 15]
def k147_15 : List xI := [.inl (.iload 1), .inl (.iconst 256), .inr (.if_icmp .ge 35), .inl (.aload 0), .inl (.getfield 297), .inl (.iload 1), .inl (.iconst 0), .inl .bastore, .inl (.iinc 1 1), .inr (.goto 15)]
def k147_35 : List xI := [.inl (.aload 0), .inr (.invokeinterface 143 1), .inl (.istore 1), xto 40]
def k147_40 : List xI := [.inl (.iload 1), .inl (.iconst (-1)), .inr (.if_icmp .eq 65), .inl (.aload 0), .inl (.getfield 297), .inl (.aload 0), .inl (.iload 1), .inr (.invokeinterface 141 2), .inl (.iconst 1), .inl .bastore, .inl (.aload 0), .inl (.iload 1), .inr (.invokeinterface 144 2), .inl (.istore 1), .inr (.goto 40)]
def k147_65 : List xI := [.inl (.aload 0), .inr (.invokeinterface 146 1), .inl (.aload 0), .inl (.iconst 0), .inl (.putfield 295), .inl (.aload 0), .inr (.invokeinterface 143 1), .inl (.istore 1), xto 79]
def k147_79 : List xI := [.inl (.iload 1), .inl (.iconst (-1)), .inr (.if_icmp .eq 128), .inl (.aload 0), .inl (.getfield 296), .inl (.aload 0), .inl (.iload 1), .inr (.invokeinterface 141 2), .inl (.iconst (-1)), .inl .ixor, .inl .iand, .inr (.ifCond .ne 119), .inl (.aload 0), .inl (.getfield 294), .inl (.aload 0), .inl (.getfield 295), .inl (.iload 1), .inl .iastore, .inl (.aload 0), .inl .dup, .inl (.getfield 295), .inl (.iconst 1), .inl .iadd, .inl (.putfield 295), xto 119]
def k147_119 : List xI := [.inl (.aload 0), .inl (.iload 1), .inr (.invokeinterface 144 2), .inl (.istore 1), .inr (.goto 79)]
def k147_128 : List xI := [.inr .return_]
def xm147 : List (Nat × List xI) := [(0, k147_0), (8, k147_8), (15, k147_15), (35, k147_35), (40, k147_40), (65, k147_65), (79, k147_79), (119, k147_119), (128, k147_128)]
/-- 148: DrawnFieldsModel.weightOf(I)I -/
def k148_0 : List xI := [.inl (.iconst 1), .inl (.istore 2), .inl (.iconst 0), .inl (.istore 3), xto 4]
def k148_4 : List xI := [.inl (.iload 3), .inl (.aload 0), .inr (.invokeinterface 117 1), .inr (.if_icmp .ge 34), .inl (.iload 2), .inl (.aload 0), .inl (.iload 3), .inl (.iconst 5), .inl (.aload 0), .inl (.iload 1), .inl (.iload 3), .inr (.invokeinterface 139 3), .inl .iadd, .inr (.invokeinterface 120 3), .inl .imul, .inl (.istore 2), .inl (.iinc 3 1), .inr (.goto 4)]
def k148_34 : List xI := [.inl (.iload 2), .inr .ireturn]
def xm148 : List (Nat × List xI) := [(0, k148_0), (4, k148_4), (34, k148_34)]
/-- 149: DrawnFieldsModel.sumOf(I)I -/
def k149_0 : List xI := [.inl (.iconst 0), .inl (.istore 2), .inl (.iconst 0), .inl (.istore 3), xto 4]
def k149_4 : List xI := [.inl (.iload 3), .inl (.aload 0), .inr (.invokeinterface 117 1), .inr (.if_icmp .ge 27), .inl (.iload 2), .inl (.aload 0), .inl (.iload 1), .inl (.iload 3), .inr (.invokeinterface 139 3), .inl .iadd, .inl (.istore 2), .inl (.iinc 3 1), .inr (.goto 4)]
def k149_27 : List xI := [.inl (.iload 2), .inr .ireturn]
def xm149 : List (Nat × List xI) := [(0, k149_0), (4, k149_4), (27, k149_27)]
/-- 150: DrawnFieldsModel.ofAll(II)I -/
def k150_0 : List xI := [.inl (.iload 2), .inl (.iconst 3), .inr (.if_icmp .ge 14), .inl (.aload 0), .inl (.iload 1), .inl (.iload 2), .inr (.invokeinterface 120 3), .inr (.goto 35)]
def k150_14 : List xI := [.inl (.iload 2), .inl (.iconst 3), .inr (.if_icmp .ne 27), .inl (.aload 0), .inl (.iload 1), .inr (.invokeinterface 135 2), .inr (.goto 35)]
def k150_27 : List xI := [.inl (.aload 0), .inl (.iload 1), .inl (.iload 2), .inl (.iconst 1), .inl .isub, .inr (.invokeinterface 120 3), xto 35]
def k150_35 : List xI := [.inr .ireturn]
def xm150 : List (Nat × List xI) := [(0, k150_0), (14, k150_14), (27, k150_27), (35, k150_35)]
/-- 151: DrawnFieldsModel.of(II)I -/
def k151_0 : List xI := [.inl (.aload 0), .inl (.iload 1), .inr (.invokeinterface 118 2), .inr (.ifCond .eq 26), .inl (.iload 2), .inl (.iconst 0), .inl (.iconst 5), .inr (.invokeinterface 110 3), .inr (.ifCond .eq 26), .inl (.aload 0), .inl (.iload 1), .inl (.iload 2), .inr (.invokeinterface 150 3), .inr (.goto 32)]
def k151_26 : List xI := [.inl (.aload 0), .inl (.iconst (-2)), .inr (.invokeinterface 112 2), xto 32]
def k151_32 : List xI := [.inr .ireturn]
def xm151 : List (Nat × List xI) := [(0, k151_0), (26, k151_26), (32, k151_32)]
/-- 152: DrawnFieldsModel.aboutRule(II)I -/
def k152_0 : List xI := [.inl (.iload 2), .inl (.iconst 5), .inr (.if_icmp .ge 12), .inl (.aload 0), .inl (.iload 1), .inl (.iload 2), .inr (.invokeinterface 122 3), .inr .ireturn]
def k152_12 : List xI := [.inl (.aload 0), .inr (.invokeinterface 147 1), .inl (.aload 0), .inl (.iload 1), .inl (.iconst 4), .inr (.invokeinterface 122 3), .inl (.iconst (-1)), .inr (.if_icmp .eq 37), .inl (.aload 0), .inl (.getfield 296), .inl (.iload 1), .inr (.invokeinterface 111 2), .inr (.ifCond .eq 41), xto 37]
def k152_37 : List xI := [.inl (.iconst 1), .inr (.goto 42)]
def k152_41 : List xI := [.inl (.iconst 0), xto 42]
def k152_42 : List xI := [.inr .ireturn]
def xm152 : List (Nat × List xI) := [(0, k152_0), (12, k152_12), (37, k152_37), (41, k152_41), (42, k152_42)]
/-- 153: DrawnFieldsModel.about(II)I -/
def k153_0 : List xI := [.inl (.aload 0), .inl (.iload 1), .inr (.invokeinterface 119 2), .inr (.ifCond .eq 26), .inl (.iload 2), .inl (.iconst 0), .inl (.iconst 5), .inr (.invokeinterface 110 3), .inr (.ifCond .eq 26), .inl (.aload 0), .inl (.iload 1), .inl (.iload 2), .inr (.invokeinterface 152 3), .inr (.goto 32)]
def k153_26 : List xI := [.inl (.aload 0), .inl (.iconst (-2)), .inr (.invokeinterface 112 2), xto 32]
def k153_32 : List xI := [.inr .ireturn]
def xm153 : List (Nat × List xI) := [(0, k153_0), (26, k153_26), (32, k153_32)]
/-- 154: DrawnFieldsModel.rows()I -/
def k154_0 : List xI := [.inl (.aload 0), .inr (.invokeinterface 147 1), .inl (.aload 0), .inl (.getfield 295), .inr .ireturn]
def xm154 : List (Nat × List xI) := [(0, k154_0)]
/-- 155: DrawnFieldsModel.row(II)I -/
def k155_0 : List xI := [.inl (.iload 1), .inr (.ifCond .lt 12), .inl (.aload 0), .inl (.iload 2), .inr (.invokeinterface 118 2), .inr (.ifCond .ne 19), xto 12]
def k155_12 : List xI := [.inl (.aload 0), .inl (.iconst (-2)), .inr (.invokeinterface 112 2), .inr .ireturn]
def k155_19 : List xI := [.inl (.aload 0), .inr (.invokeinterface 147 1), .inl (.iload 1), .inl (.aload 0), .inl (.getfield 295), .inr (.if_icmp .ge 45), .inl (.aload 0), .inl (.aload 0), .inl (.getfield 294), .inl (.iload 1), .inl .iaload, .inl (.iload 2), .inr (.invokeinterface 139 3), .inr (.goto 47)]
def k155_45 : List xI := [.inl (.iconst (-5)), xto 47]
def k155_47 : List xI := [.inr .ireturn]
def xm155 : List (Nat × List xI) := [(0, k155_0), (12, k155_12), (19, k155_19), (45, k155_45), (47, k155_47)]
/-- 156: DrawnFieldsModel.heavyOf(II)I -/
def k156_0 : List xI := [.inl (.aload 0), .inr (.invokeinterface 147 1), .inl (.iconst 0), .inl (.istore 3), .inl (.iconst 0), .inl (.istore 4), xto 9]
def k156_9 : List xI := [.inl (.iload 4), .inl (.aload 0), .inl (.getfield 295), .inr (.if_icmp .ge 63), .inl (.iload 3), .inl (.iload 1), .inl (.iconst (-1)), .inr (.if_icmp .eq 40), .inl (.aload 0), .inl (.aload 0), .inl (.getfield 294), .inl (.iload 4), .inl .iaload, .inl (.iload 1), .inr (.invokeinterface 139 3), .inl (.iload 2), .inr (.if_icmp .ne 54), xto 40]
def k156_40 : List xI := [.inl (.aload 0), .inl (.aload 0), .inl (.getfield 294), .inl (.iload 4), .inl .iaload, .inr (.invokeinterface 148 2), .inr (.goto 55)]
def k156_54 : List xI := [.inl (.iconst 0), xto 55]
def k156_55 : List xI := [.inl .iadd, .inl (.istore 3), .inl (.iinc 4 1), .inr (.goto 9)]
def k156_63 : List xI := [.inl (.iload 3), .inr .ireturn]
def xm156 : List (Nat × List xI) := [(0, k156_0), (9, k156_9), (40, k156_40), (54, k156_54), (55, k156_55), (63, k156_63)]
/-- 157: DrawnFieldsModel.heavy(II)I -/
def k157_0 : List xI := [.inl (.iload 1), .inl (.iconst (-1)), .inr (.if_icmp .ne 17), .inl (.iload 2), .inr (.ifCond .ne 13), .inl (.iconst 1), .inr (.goto 40)]
def k157_13 : List xI := [.inl (.iconst 0), .inr (.goto 40)]
def k157_17 : List xI := [.inl (.aload 0), .inl (.iload 1), .inr (.invokeinterface 118 2), .inr (.ifCond .eq 39), .inl (.iload 2), .inl (.iconst 0), .inl (.iconst 7), .inr (.invokeinterface 110 3), .inr (.ifCond .eq 39), .inl (.iconst 1), .inr (.goto 40)]
def k157_39 : List xI := [.inl (.iconst 0), xto 40]
def k157_40 : List xI := [.inl (.istore 3), .inl (.iload 3), .inr (.ifCond .eq 54), .inl (.aload 0), .inl (.iload 1), .inl (.iload 2), .inr (.invokeinterface 156 3), .inr (.goto 60)]
def k157_54 : List xI := [.inl (.aload 0), .inl (.iconst (-2)), .inr (.invokeinterface 112 2), xto 60]
def k157_60 : List xI := [.inr .ireturn]
def xm157 : List (Nat × List xI) := [(0, k157_0), (13, k157_13), (17, k157_17), (39, k157_39), (40, k157_40), (54, k157_54), (60, k157_60)]
/-- 158: DrawnFieldsModel.sumsOf(I)I -/
def k158_0 : List xI := [.inl (.aload 0), .inr (.invokeinterface 147 1), .inl (.iconst 0), .inl (.istore 2), .inl (.iconst 0), .inl (.istore 3), xto 8]
def k158_8 : List xI := [.inl (.iload 3), .inl (.aload 0), .inl (.getfield 295), .inr (.if_icmp .ge 44), .inl (.iload 2), .inl (.aload 0), .inl (.aload 0), .inl (.getfield 294), .inl (.iload 3), .inl .iaload, .inr (.invokeinterface 149 2), .inl (.iload 1), .inr (.if_icmp .ne 35), .inl (.iconst 1), .inr (.goto 36)]
def k158_35 : List xI := [.inl (.iconst 0), xto 36]
def k158_36 : List xI := [.inl .iadd, .inl (.istore 2), .inl (.iinc 3 1), .inr (.goto 8)]
def k158_44 : List xI := [.inl (.iload 2), .inr .ireturn]
def xm158 : List (Nat × List xI) := [(0, k158_0), (8, k158_8), (35, k158_35), (36, k158_36), (44, k158_44)]
/-- 159: DrawnFieldsModel.sums(I)I -/
def k159_0 : List xI := [.inl (.iload 1), .inr (.ifCond .ge 13), .inl (.aload 0), .inl (.iconst (-2)), .inr (.invokeinterface 112 2), .inr (.goto 18)]
def k159_13 : List xI := [.inl (.aload 0), .inl (.iload 1), .inr (.invokeinterface 158 2), xto 18]
def k159_18 : List xI := [.inr .ireturn]
def xm159 : List (Nat × List xI) := [(0, k159_0), (13, k159_13), (18, k159_18)]
/-- 160: DrawnFieldsModel.sum(I)I -/
def k160_0 : List xI := [.inl (.iload 1), .inr (.ifCond .ge 11), .inl (.aload 0), .inl (.iconst (-2)), .inr (.invokeinterface 112 2), .inr .ireturn]
def k160_11 : List xI := [.inl (.iload 1), .inl (.istore 2), .inl (.iconst 0), .inl (.istore 3), xto 15]
def k160_15 : List xI := [.inl (.iload 3), .inl (.iconst 29), .inr (.if_icmp .ge 44), .inl (.aload 0), .inl (.iload 3), .inr (.invokeinterface 158 2), .inr (.ifCond .le 38), .inl (.iload 2), .inr (.ifCond .ne 35), .inl (.iload 3), .inr .ireturn]
def k160_35 : List xI := [.inl (.iinc 2 (-1)), xto 38]
def k160_38 : List xI := [.inl (.iinc 3 1), .inr (.goto 15)]
def k160_44 : List xI := [.inl (.iconst (-5)), .inr .ireturn]
def xm160 : List (Nat × List xI) := [(0, k160_0), (11, k160_11), (15, k160_15), (35, k160_35), (38, k160_38), (44, k160_44)]
/-- 161: DrawnFieldsModel.soft(I)I -/
def k161_0 : List xI := [.inl (.iload 1), .inr (.ifCond .ge 11), .inl (.aload 0), .inl (.iconst (-2)), .inr (.invokeinterface 112 2), .inr .ireturn]
def k161_11 : List xI := [.inl (.aload 0), .inr (.invokeinterface 147 1), .inl (.iload 1), .inl (.aload 0), .inl (.getfield 299), .inr (.if_icmp .ge 32), .inl (.aload 0), .inl (.getfield 298), .inl (.iload 1), .inl .iaload, .inr (.goto 34)]
def k161_32 : List xI := [.inl (.iconst (-5)), xto 34]
def k161_34 : List xI := [.inr .ireturn]
def xm161 : List (Nat × List xI) := [(0, k161_0), (11, k161_11), (32, k161_32), (34, k161_34)]
/-- 162: DrawnFieldsModel.core()I -/
def k162_0 : List xI := [.inl (.aload 0), .inr (.invokeinterface 147 1), .inl (.aload 0), .inr (.invokeinterface 145 1), .inl (.istore 1), .inl (.aload 0), .inl (.iload 1), .inr (.invokeinterface 142 2), .inr (.ifCond .eq 19), .inl (.iconst 0), .inr .ireturn]
def k162_19 : List xI := [.inl (.iconst 0), .inl (.istore 2), xto 21]
def k162_21 : List xI := [.inl (.iload 2), .inl (.iconst 8), .inr (.if_icmp .ge 63), .inl (.iload 1), .inl (.iload 2), .inr (.invokeinterface 111 2), .inr (.ifCond .eq 57), .inl (.aload 0), .inl (.iload 1), .inl (.iconst 1), .inl (.iload 2), .inl .ishl, .inl (.iconst (-1)), .inl .ixor, .inl .iand, .inr (.invokeinterface 142 2), .inr (.ifCond .ne 57), .inl (.iload 1), .inl (.iconst 1), .inl (.iload 2), .inl .ishl, .inl (.iconst (-1)), .inl .ixor, .inl .iand, .inl (.istore 1), xto 57]
def k162_57 : List xI := [.inl (.iinc 2 1), .inr (.goto 21)]
def k162_63 : List xI := [.inl (.iload 1), .inr .ireturn]
def xm162 : List (Nat × List xI) := [(0, k162_0), (19, k162_19), (21, k162_21), (57, k162_57), (63, k162_63)]
/-- 163: DrawnFieldsModel.drawBy(I)I -/
def k163_0 : List xI := [.inl (.aload 0), .inl (.aload 0), .inl (.getfield 301), .inl (.sipush 1103515245), .inl .lmul, .inl (.sipush 12345), .inl .ladd, .inl (.sipush 2147483648), .inl .lrem, .inl (.putfield 301), .inl (.aload 0), .inl (.getfield 301), .inl (.sipush 65536), .inl .ldiv, .inl (.iload 1), .inl .i2l, .inl .lrem, .inl .l2i, .inr .ireturn]
def xm163 : List (Nat × List xI) := [(0, k163_0)]
/-- 164: DrawnFieldsModel.valuesOf(I)I -/
def k164_0 : List xI := [.inl (.iconst 0), .inl (.istore 2), .inl (.iconst 0), .inl (.istore 3), xto 4]
def k164_4 : List xI := [.inl (.iload 3), .inl (.aload 0), .inl (.getfield 295), .inr (.if_icmp .ge 47), .inl (.iload 2), .inl (.aload 0), .inl (.getfield 300), .inl (.iload 3), .inl .baload, .inr (.ifCond .eq 38), .inl (.iconst 1), .inl (.aload 0), .inl (.aload 0), .inl (.getfield 294), .inl (.iload 3), .inl .iaload, .inl (.iload 1), .inr (.invokeinterface 139 3), .inl .ishl, .inr (.goto 39)]
def k164_38 : List xI := [.inl (.iconst 0), xto 39]
def k164_39 : List xI := [.inl .ior, .inl (.istore 2), .inl (.iinc 3 1), .inr (.goto 4)]
def k164_47 : List xI := [.inl (.iload 2), .inr .ireturn]
def xm164 : List (Nat × List xI) := [(0, k164_0), (4, k164_4), (38, k164_38), (39, k164_39), (47, k164_47)]
/-- 165: DrawnFieldsModel.limit(II)V -/
def k165_0 : List xI := [.inl (.iconst 0), .inl (.istore 3), xto 2]
def k165_2 : List xI := [.inl (.iload 3), .inl (.aload 0), .inl (.getfield 295), .inr (.if_icmp .ge 54), .inl (.aload 0), .inl (.getfield 300), .inl (.iload 3), .inl (.aload 0), .inl (.getfield 300), .inl (.iload 3), .inl .baload, .inr (.ifCond .eq 46), .inl (.iload 2), .inl (.aload 0), .inl (.aload 0), .inl (.getfield 294), .inl (.iload 3), .inl .iaload, .inl (.iload 1), .inr (.invokeinterface 139 3), .inr (.invokeinterface 111 2), .inr (.ifCond .eq 46), .inl (.iconst 1), .inr (.goto 47)]
def k165_46 : List xI := [.inl (.iconst 0), xto 47]
def k165_47 : List xI := [.inl .bastore, .inl (.iinc 3 1), .inr (.goto 2)]
def k165_54 : List xI := [.inr .return_]
def xm165 : List (Nat × List xI) := [(0, k165_0), (2, k165_2), (46, k165_46), (47, k165_47), (54, k165_54)]
/-- 166: DrawnFieldsModel.takeTogether()I -/
def k166_0 : List xI := [.inl (.iconst 0), .inl (.istore 1), xto 2]
def k166_2 : List xI := [.inl (.iload 1), .inl (.aload 0), .inr (.invokeinterface 117 1), .inr (.if_icmp .ge 61), .inl (.aload 0), .inl (.iload 1), .inl (.iconst 2), .inr (.invokeinterface 120 3), .inl (.iconst 1), .inr (.if_icmp .ne 55), .inl (.aload 0), .inl (.iload 1), .inr (.invokeinterface 164 2), .inl (.aload 0), .inl (.iload 1), .inl (.iconst 3), .inr (.invokeinterface 120 3), .inl (.iconst (-1)), .inl .ixor, .inl .iand, .inl (.istore 2), .inl (.iload 2), .inr (.ifCond .ne 49), .inl (.aload 0), .inl (.iload 1), .inl (.iconst 3), .inl (.iconst 0), .inr (.invokeinterface 121 4), .inr (.goto 55)]
def k166_49 : List xI := [.inl (.aload 0), .inl (.iload 1), .inl (.iload 2), .inr (.invokeinterface 165 3), xto 55]
def k166_55 : List xI := [.inl (.iinc 1 1), .inr (.goto 2)]
def k166_61 : List xI := [.inl (.iconst 0), .inl (.istore 1), .inl (.iconst 0), .inl (.istore 2), .inl (.iconst 0), .inl (.istore 3), xto 67]
def k166_67 : List xI := [.inl (.iload 3), .inl (.aload 0), .inl (.getfield 295), .inr (.if_icmp .ge 124), .inl (.iload 1), .inl (.aload 0), .inl (.getfield 300), .inl (.iload 3), .inl .baload, .inr (.ifCond .eq 98), .inl (.aload 0), .inl (.aload 0), .inl (.getfield 294), .inl (.iload 3), .inl .iaload, .inr (.invokeinterface 148 2), .inr (.goto 99)]
def k166_98 : List xI := [.inl (.iconst 0), xto 99]
def k166_99 : List xI := [.inl .iadd, .inl (.istore 1), .inl (.iload 2), .inl (.aload 0), .inl (.getfield 300), .inl (.iload 3), .inl .baload, .inr (.ifCond .eq 115), .inl (.iconst 1), .inr (.goto 116)]
def k166_115 : List xI := [.inl (.iconst 0), xto 116]
def k166_116 : List xI := [.inl .iadd, .inl (.istore 2), .inl (.iinc 3 1), .inr (.goto 67)]
def k166_124 : List xI := [.inl (.aload 0), .inl (.iload 1), .inr (.ifCond .le 133), .inl (.iload 1), .inr (.goto 134)]
def k166_133 : List xI := [.inl (.iload 2), xto 134]
def k166_134 : List xI := [.inr (.invokeinterface 163 2), .inl (.istore 3), .inl (.iconst (-1)), .inl (.istore 4), .inl (.iconst 0), .inl (.istore 5), xto 144]
def k166_144 : List xI := [.inl (.iload 5), .inl (.iload 3), .inr (.if_icmp .gt 194), .inl (.iinc 4 1), .inl (.iload 5), .inl (.aload 0), .inl (.getfield 300), .inl (.iload 4), .inl .baload, .inr (.ifCond .ne 169), .inl (.iconst 0), .inr (.goto 188)]
def k166_169 : List xI := [.inl (.iload 1), .inr (.ifCond .le 187), .inl (.aload 0), .inl (.aload 0), .inl (.getfield 294), .inl (.iload 4), .inl .iaload, .inr (.invokeinterface 148 2), .inr (.goto 188)]
def k166_187 : List xI := [.inl (.iconst 1), xto 188]
def k166_188 : List xI := [.inl .iadd, .inl (.istore 5), .inr (.goto 144)]
def k166_194 : List xI := [.inl (.iload 4), .inr .ireturn]
def xm166 : List (Nat × List xI) := [(0, k166_0), (2, k166_2), (49, k166_49), (55, k166_55), (61, k166_61), (67, k166_67), (98, k166_98), (99, k166_99), (115, k166_115), (116, k166_116), (124, k166_124), (133, k166_133), (134, k166_134), (144, k166_144), (169, k166_169), (187, k166_187), (188, k166_188), (194, k166_194)]
/-- 167: DrawnFieldsModel.valueDrawn(II)I -/
def k167_0 : List xI := [.inl (.iconst 0), .inl (.istore 3), .inl (.iconst 0), .inl (.istore 4), .inl (.iconst 0), .inl (.istore 5), xto 8]
def k167_8 : List xI := [.inl (.iload 5), .inl (.iconst 8), .inr (.if_icmp .ge 65), .inl (.iload 3), .inl (.iload 2), .inl (.iload 5), .inr (.invokeinterface 111 2), .inr (.ifCond .eq 37), .inl (.aload 0), .inl (.iload 1), .inl (.iconst 5), .inl (.iload 5), .inl .iadd, .inr (.invokeinterface 120 3), .inr (.goto 38)]
def k167_37 : List xI := [.inl (.iconst 0), xto 38]
def k167_38 : List xI := [.inl .iadd, .inl (.istore 3), .inl (.iload 4), .inl (.iload 2), .inl (.iload 5), .inr (.invokeinterface 111 2), .inr (.ifCond .eq 55), .inl (.iconst 1), .inr (.goto 56)]
def k167_55 : List xI := [.inl (.iconst 0), xto 56]
def k167_56 : List xI := [.inl .iadd, .inl (.istore 4), .inl (.iinc 5 1), .inr (.goto 8)]
def k167_65 : List xI := [.inl (.aload 0), .inl (.iload 3), .inr (.ifCond .le 74), .inl (.iload 3), .inr (.goto 76)]
def k167_74 : List xI := [.inl (.iload 4), xto 76]
def k167_76 : List xI := [.inr (.invokeinterface 163 2), .inl (.istore 5), .inl (.iconst (-1)), .inl (.istore 6), .inl (.iconst 0), .inl (.istore 7), xto 87]
def k167_87 : List xI := [.inl (.iload 7), .inl (.iload 5), .inr (.if_icmp .gt 135), .inl (.iinc 6 1), .inl (.iload 7), .inl (.iload 2), .inl (.iload 6), .inr (.invokeinterface 111 2), .inr (.ifCond .ne 112), .inl (.iconst 0), .inr (.goto 129)]
def k167_112 : List xI := [.inl (.iload 3), .inr (.ifCond .le 128), .inl (.aload 0), .inl (.iload 1), .inl (.iconst 5), .inl (.iload 6), .inl .iadd, .inr (.invokeinterface 120 3), .inr (.goto 129)]
def k167_128 : List xI := [.inl (.iconst 1), xto 129]
def k167_129 : List xI := [.inl .iadd, .inl (.istore 7), .inr (.goto 87)]
def k167_135 : List xI := [.inl (.iload 6), .inr .ireturn]
def xm167 : List (Nat × List xI) := [(0, k167_0), (8, k167_8), (37, k167_37), (38, k167_38), (55, k167_55), (56, k167_56), (65, k167_65), (74, k167_74), (76, k167_76), (87, k167_87), (112, k167_112), (128, k167_128), (129, k167_129), (135, k167_135)]
/-- 168: DrawnFieldsModel.takeInOrder()I -/
def k168_0 : List xI := [.inl (.iconst 0), .inl (.istore 1), xto 2]
def k168_2 : List xI := [.inl (.iload 1), .inl (.aload 0), .inr (.invokeinterface 117 1), .inr (.if_icmp .ge 86), .inl (.aload 0), .inl (.getfield 288), .inl (.iconst 53), .inl (.iload 1), .inl .iadd, .inl .iaload, .inl (.istore 2), .inl (.aload 0), .inl (.iload 2), .inr (.invokeinterface 164 2), .inl (.istore 3), .inl (.aload 0), .inl (.iload 2), .inl (.iconst 2), .inr (.invokeinterface 120 3), .inl (.iconst 1), .inr (.if_icmp .ne 67), .inl (.iload 3), .inl (.aload 0), .inl (.iload 2), .inl (.iconst 3), .inr (.invokeinterface 120 3), .inl (.iconst (-1)), .inl .ixor, .inl .iand, .inr (.ifCond .ne 56), .inl (.aload 0), .inl (.iload 2), .inl (.iconst 3), .inl (.iconst 0), .inr (.invokeinterface 121 4), xto 56]
def k168_56 : List xI := [.inl (.iload 3), .inl (.aload 0), .inl (.iload 2), .inl (.iconst 3), .inr (.invokeinterface 120 3), .inl (.iconst (-1)), .inl .ixor, .inl .iand, .inl (.istore 3), xto 67]
def k168_67 : List xI := [.inl (.aload 0), .inl (.iload 2), .inl (.iconst 1), .inl (.aload 0), .inl (.iload 2), .inl (.iload 3), .inr (.invokeinterface 167 3), .inl .ishl, .inr (.invokeinterface 165 3), .inl (.iinc 1 1), .inr (.goto 2)]
def k168_86 : List xI := [.inl (.iconst 0), .inl (.istore 1), xto 88]
def k168_88 : List xI := [.inl (.aload 0), .inl (.getfield 300), .inl (.iload 1), .inl .baload, .inr (.ifCond .ne 103), .inl (.iinc 1 1), .inr (.goto 88)]
def k168_103 : List xI := [.inl (.iload 1), .inr .ireturn]
def xm168 : List (Nat × List xI) := [(0, k168_0), (2, k168_2), (56, k168_56), (67, k168_67), (86, k168_86), (88, k168_88), (103, k168_103)]
/-- 169: DrawnFieldsModel.doDraws(II)I -/
def k169_0 : List xI := [.inl (.iload 1), .inl (.iconst 0), .inl (.iconst 1), .inr (.invokeinterface 110 3), .inr (.ifCond .eq 19), .inl (.iload 2), .inl (.iconst 0), .inl (.iconst 999999), .inr (.invokeinterface 110 3), .inr (.ifCond .ne 22), xto 19]
def k169_19 : List xI := [.inl (.iconst (-2)), .inr .ireturn]
def k169_22 : List xI := [.inl (.aload 0), .inr (.invokeinterface 147 1), .inl (.aload 0), .inl (.getfield 295), .inr (.ifCond .ne 36), .inl (.iconst (-3)), .inr .ireturn]
def k169_36 : List xI := [.inl (.iconst 0), .inl (.istore 3), xto 38]
def k169_38 : List xI := [.inl (.iload 3), .inl (.aload 0), .inl (.getfield 295), .inr (.if_icmp .ge 59), .inl (.aload 0), .inl (.getfield 300), .inl (.iload 3), .inl (.iconst 1), .inl .bastore, .inl (.iinc 3 1), .inr (.goto 38)]
def k169_59 : List xI := [.inl (.aload 0), .inl (.iload 2), .inl .i2l, .inl (.putfield 301), .inl (.iload 1), .inr (.ifCond .ne 76), .inl (.aload 0), .inr (.invokeinterface 166 1), .inr (.goto 80)]
def k169_76 : List xI := [.inl (.aload 0), .inr (.invokeinterface 168 1), xto 80]
def k169_80 : List xI := [.inl (.istore 3), .inl (.iconst 0), .inl (.istore 4), xto 84]
def k169_84 : List xI := [.inl (.iload 4), .inl (.aload 0), .inr (.invokeinterface 117 1), .inr (.if_icmp .ge 156), .inl (.aload 0), .inl (.aload 0), .inl (.getfield 294), .inl (.iload 3), .inl .iaload, .inl (.iload 4), .inr (.invokeinterface 139 3), .inl (.istore 5), .inl (.aload 0), .inl (.iload 4), .inl (.iconst 4), .inl (.iload 5), .inr (.invokeinterface 121 4), .inl (.aload 0), .inl (.iload 4), .inl (.iconst 3), .inl (.aload 0), .inl (.iload 4), .inl (.iconst 2), .inr (.invokeinterface 120 3), .inl (.iconst 1), .inr (.if_icmp .ne 146), .inl (.aload 0), .inl (.iload 4), .inl (.iconst 3), .inr (.invokeinterface 120 3), .inl (.iconst 1), .inl (.iload 5), .inl .ishl, .inl .ior, .inr (.goto 147)]
def k169_146 : List xI := [.inl (.iconst 0), xto 147]
def k169_147 : List xI := [.inr (.invokeinterface 121 4), .inl (.iinc 4 1), .inr (.goto 84)]
def k169_156 : List xI := [.inl (.aload 0), .inl (.getfield 288), .inl (.iconst 98), .inl .iaload, .inl (.iconst 16), .inr (.if_icmp .ge 172), .inl (.iconst 1), .inr (.goto 173)]
def k169_172 : List xI := [.inl (.iconst 0), xto 173]
def k169_173 : List xI := [.inl (.istore 4), .inl (.iconst 0), .inl (.istore 5), xto 178]
def k169_178 : List xI := [.inl (.iload 5), .inl (.aload 0), .inl (.getfield 288), .inl (.iconst 98), .inl .iaload, .inr (.if_icmp .ge 227), .inl (.iload 4), .inr (.ifCond .eq 218), .inl (.aload 0), .inl (.getfield 288), .inl (.iconst 99), .inl (.iload 5), .inl .iadd, .inl .iaload, .inl (.aload 0), .inl (.getfield 294), .inl (.iload 3), .inl .iaload, .inr (.if_icmp .eq 218), .inl (.iconst 1), .inr (.goto 219)]
def k169_218 : List xI := [.inl (.iconst 0), xto 219]
def k169_219 : List xI := [.inl (.istore 4), .inl (.iinc 5 1), .inr (.goto 178)]
def k169_227 : List xI := [.inl (.iload 4), .inr (.ifCond .eq 264), .inl (.aload 0), .inl (.getfield 288), .inl (.iconst 99), .inl (.aload 0), .inl (.getfield 288), .inl (.iconst 98), .inl .iaload, .inl .iadd, .inl (.aload 0), .inl (.getfield 294), .inl (.iload 3), .inl .iaload, .inl .iastore, .inl (.aload 0), .inl (.getfield 288), .inl (.iconst 98), .inl .dup2, .inl .iaload, .inl (.iconst 1), .inl .iadd, .inl .iastore, xto 264]
def k169_264 : List xI := [.inl (.iload 3), .inr .ireturn]
def xm169 : List (Nat × List xI) := [(0, k169_0), (19, k169_19), (22, k169_22), (36, k169_36), (38, k169_38), (59, k169_59), (76, k169_76), (80, k169_80), (84, k169_84), (146, k169_146), (147, k169_147), (156, k169_156), (172, k169_172), (173, k169_173), (178, k169_178), (218, k169_218), (219, k169_219), (227, k169_227), (264, k169_264)]
/-- 170: DrawnFieldsModel.draws(II)I -/
def k170_0 : List xI := [.inl (.aload 0), .inr (.invokeinterface 113 1), .inl (.aload 0), .inl (.aload 0), .inl (.iload 1), .inl (.iload 2), .inr (.invokeinterface 169 3), .inr (.invokeinterface 115 2), .inr .ireturn]
def xm170 : List (Nat × List xI) := [(0, k170_0)]
/-- 171: DrawnFieldsModel.drawn(II)I -/
def k171_0 : List xI := [.inl (.iload 1), .inl (.iconst (-1)), .inr (.if_icmp .lt 25), .inl (.iload 1), .inl (.iconst (-1)), .inr (.if_icmp .ne 17), .inl (.iload 2), .inr (.ifCond .eq 32), .inr (.goto 25)]
def k171_17 : List xI := [.inl (.aload 0), .inl (.iload 2), .inr (.invokeinterface 118 2), .inr (.ifCond .ne 32), xto 25]
def k171_25 : List xI := [.inl (.aload 0), .inl (.iconst (-2)), .inr (.invokeinterface 112 2), .inr .ireturn]
def k171_32 : List xI := [.inl (.iload 1), .inl (.iconst (-1)), .inr (.if_icmp .ne 47), .inl (.aload 0), .inl (.getfield 288), .inl (.iconst 98), .inl .iaload, .inr (.goto 77)]
def k171_47 : List xI := [.inl (.iload 1), .inl (.aload 0), .inl (.getfield 288), .inl (.iconst 98), .inl .iaload, .inr (.if_icmp .ge 75), .inl (.aload 0), .inl (.aload 0), .inl (.getfield 288), .inl (.iconst 99), .inl (.iload 1), .inl .iadd, .inl .iaload, .inl (.iload 2), .inr (.invokeinterface 139 3), .inr (.goto 77)]
def k171_75 : List xI := [.inl (.iconst (-5)), xto 77]
def k171_77 : List xI := [.inr .ireturn]
def xm171 : List (Nat × List xI) := [(0, k171_0), (17, k171_17), (25, k171_25), (32, k171_32), (47, k171_47), (75, k171_75), (77, k171_77)]
/-- 172: DrawnFieldsModel.type(I)I -/
def k172_0 : List xI := [.inl (.iload 1), .inl (.iconst 0), .inl (.iconst 127), .inr (.invokeinterface 110 3), .inr (.ifCond .ne 17), .inl (.aload 0), .inl (.iconst (-2)), .inr (.invokeinterface 112 2), .inr .ireturn]
def k172_17 : List xI := [.inl (.aload 0), .inl (.getfield 303), .inl (.iconst 150), .inr (.if_icmp .ne 34), .inl (.aload 0), .inl (.iconst (-4)), .inr (.invokeinterface 112 2), .inr .ireturn]
def k172_34 : List xI := [.inl (.aload 0), .inl (.getfield 302), .inl (.aload 0), .inl (.getfield 303), .inl (.iload 1), .inl .iastore, .inl (.aload 0), .inl .dup, .inl (.getfield 303), .inl (.iconst 1), .inl .iadd, .inl (.putfield 303), .inl (.aload 0), .inl (.getfield 303), .inr .ireturn]
def xm172 : List (Nat × List xI) := [(0, k172_0), (17, k172_17), (34, k172_34)]
/-- 173: DrawnFieldsModel.clear()I -/
def k173_0 : List xI := [.inl (.aload 0), .inl (.getfield 303), .inl (.istore 1), .inl (.aload 0), .inl (.iconst 0), .inl (.putfield 303), .inl (.iload 1), .inr .ireturn]
def xm173 : List (Nat × List xI) := [(0, k173_0)]
/-- 174: DrawnFieldsModel.here()I -/
def k174_0 : List xI := [.inl (.aload 0), .inl (.getfield 304), .inl (.aload 0), .inl (.getfield 303), .inr (.if_icmp .ge 38), .inl (.aload 0), .inl (.getfield 302), .inl (.aload 0), .inl (.getfield 304), .inl .iaload, .inl (.iconst 32), .inr (.if_icmp .ne 38), .inl (.aload 0), .inl .dup, .inl (.getfield 304), .inl (.iconst 1), .inl .iadd, .inl (.putfield 304), .inr (.goto 0)]
def k174_38 : List xI := [.inl (.aload 0), .inl (.getfield 304), .inl (.aload 0), .inl (.getfield 303), .inr (.if_icmp .ge 61), .inl (.aload 0), .inl (.getfield 302), .inl (.aload 0), .inl (.getfield 304), .inl .iaload, .inr (.goto 62)]
def k174_61 : List xI := [.inl (.iconst (-1)), xto 62]
def k174_62 : List xI := [.inr .ireturn]
def xm174 : List (Nat × List xI) := [(0, k174_0), (38, k174_38), (61, k174_61), (62, k174_62)]
/-- 175: DrawnFieldsModel.must(Z)V -/
def k175_0 : List xI := [.inl (.aload 0), .inl (.getfield 305), .inl (.iconst (-1)), .inr (.if_icmp .ne 20), .inl (.iload 1), .inr (.ifCond .ne 20), .inl (.aload 0), .inl (.aload 0), .inl (.getfield 304), .inl (.putfield 305), xto 20]
def k175_20 : List xI := [.inr .return_]
def xm175 : List (Nat × List xI) := [(0, k175_0), (20, k175_20)]
/-- 176: DrawnFieldsModel.isFigure()Z -/
def k176_0 : List xI := [.inl (.aload 0), .inl (.getfield 304), .inl (.aload 0), .inl (.getfield 303), .inr (.if_icmp .ge 34), .inl (.aload 0), .inl (.getfield 302), .inl (.aload 0), .inl (.getfield 304), .inl .iaload, .inl (.iconst 48), .inl (.iconst 57), .inr (.invokeinterface 110 3), .inr (.ifCond .eq 34), .inl (.iconst 1), .inr (.goto 35)]
def k176_34 : List xI := [.inl (.iconst 0), xto 35]
def k176_35 : List xI := [.inr .areturn]
def xm176 : List (Nat × List xI) := [(0, k176_0), (34, k176_34), (35, k176_35)]
/-- 177: DrawnFieldsModel.number()I -/
def k177_0 : List xI := [.inl (.aload 0), .inl (.aload 0), .inr (.invokeinterface 174 1), .inl (.iconst 48), .inl (.iconst 57), .inr (.invokeinterface 110 3), .inr (.invokeinterface 175 2), .inl (.iconst 0), .inl (.istore 1), .inl (.iconst 0), .inl (.istore 2), xto 19]
def k177_19 : List xI := [.inl (.iload 2), .inl (.iconst 6), .inr (.if_icmp .ge 66), .inl (.aload 0), .inr (.invokeinterface 176 1), .inr (.ifCond .eq 66), .inl (.iconst 10), .inl (.iload 1), .inl .imul, .inl (.aload 0), .inl (.getfield 302), .inl (.aload 0), .inl (.getfield 304), .inl .iaload, .inl .iadd, .inl (.iconst 48), .inl .isub, .inl (.istore 1), .inl (.aload 0), .inl .dup, .inl (.getfield 304), .inl (.iconst 1), .inl .iadd, .inl (.putfield 304), .inl (.iinc 2 1), .inr (.goto 19)]
def k177_66 : List xI := [.inl (.aload 0), .inl (.aload 0), .inr (.invokeinterface 176 1), .inr (.ifCond .ne 78), .inl (.iconst 1), .inr (.goto 79)]
def k177_78 : List xI := [.inl (.iconst 0), xto 79]
def k177_79 : List xI := [.inr (.invokeinterface 175 2), .inl (.iload 1), .inr .ireturn]
def xm177 : List (Nat × List xI) := [(0, k177_0), (19, k177_19), (66, k177_66), (78, k177_78), (79, k177_79)]
/-- 178: DrawnFieldsModel.numbersOf(I)I -/
def k178_0 : List xI := [.inl (.iload 0), .inr (.lookupswitch 110 #[(100, 108), (101, 110), (102, 100), (103, 110), (104, 102), (105, 110), (106, 110), (107, 110), (108, 110), (109, 110), (110, 110), (111, 108), (112, 110), (113, 110), (114, 108), (115, 104), (116, 110), (117, 110), (118, 110), (119, 106), (120, 108)])]
def k178_100 : List xI := [.inl (.iconst 2), .inr .ireturn]
def k178_102 : List xI := [.inl (.iconst 4), .inr .ireturn]
def k178_104 : List xI := [.inl (.iconst 5), .inr .ireturn]
def k178_106 : List xI := [.inl (.iconst 3), .inr .ireturn]
def k178_108 : List xI := [.inl (.iconst 1), .inr .ireturn]
def k178_110 : List xI := [.inl (.iconst (-1)), .inr .ireturn]
def xm178 : List (Nat × List xI) := [(0, k178_0), (100, k178_100), (102, k178_102), (104, k178_104), (106, k178_106), (108, k178_108), (110, k178_110)]
/-- 179: DrawnFieldsModel.readOrder()V -/
def k179_0 : List xI := [.inl (.aload 0), .inr (.invokeinterface 174 1), .inl (.istore 1), .inl (.iload 1), .inr (.invokeinterface 178 1), .inl (.istore 2), .inl (.aload 0), .inl (.iload 2), .inl (.iconst (-1)), .inr (.if_icmp .eq 20), .inl (.iconst 1), .inr (.goto 21)]
def k179_20 : List xI := [.inl (.iconst 0), xto 21]
def k179_21 : List xI := [.inr (.invokeinterface 175 2), .inl (.aload 0), .inl .dup, .inl (.getfield 304), .inl (.iconst 1), .inl .iadd, .inl (.putfield 304), .inl (.iconst 0), .inl (.istore 3), xto 36]
def k179_36 : List xI := [.inl (.iload 3), .inl (.iload 2), .inr (.if_icmp .ge 72), .inl (.aload 0), .inl (.getfield 305), .inl (.iconst (-1)), .inr (.if_icmp .ne 72), .inl (.aload 0), .inl (.getfield 308), .inl (.iconst 5), .inl (.aload 0), .inl (.getfield 306), .inl .imul, .inl (.iload 3), .inl .iadd, .inl (.aload 0), .inr (.invokeinterface 177 1), .inl .iastore, .inl (.iinc 3 1), .inr (.goto 36)]
def k179_72 : List xI := [.inl (.aload 0), .inl (.getfield 305), .inl (.iconst (-1)), .inr (.if_icmp .ne 87), .inl (.aload 0), .inr (.invokeinterface 174 1), .inr (.goto 89)]
def k179_87 : List xI := [.inl (.iconst 59), xto 89]
def k179_89 : List xI := [.inl (.istore 3), .inl (.aload 0), .inl (.iload 3), .inl (.iconst 59), .inr (.if_icmp .ne 101), .inl (.iconst 1), .inr (.goto 102)]
def k179_101 : List xI := [.inl (.iconst 0), xto 102]
def k179_102 : List xI := [.inr (.invokeinterface 175 2), .inl (.aload 0), .inl (.getfield 307), .inl (.aload 0), .inl (.getfield 306), .inl (.iload 1), .inl .iastore, .inl (.aload 0), .inl .dup, .inl (.getfield 304), .inl (.iconst 1), .inl .iadd, .inl (.putfield 304), .inl (.aload 0), .inl .dup, .inl (.getfield 306), .inl (.iconst 1), .inl .iadd, .inl (.putfield 306), .inr .return_]
def xm179 : List (Nat × List xI) := [(0, k179_0), (20, k179_20), (21, k179_21), (36, k179_36), (72, k179_72), (87, k179_87), (89, k179_89), (101, k179_101), (102, k179_102)]
/-- 180: DrawnFieldsModel.doOrder(I)I -/
def k180_0 : List xI := [.inl (.aload 0), .inl (.getfield 308), .inl (.iconst 5), .inl (.iload 1), .inl .imul, .inl .iaload, .inl (.istore 2), .inl (.aload 0), .inl (.getfield 308), .inl (.iconst 5), .inl (.iload 1), .inl .imul, .inl (.iconst 1), .inl .iadd, .inl .iaload, .inl (.istore 3), .inl (.aload 0), .inl (.getfield 308), .inl (.iconst 5), .inl (.iload 1), .inl .imul, .inl (.iconst 2), .inl .iadd, .inl .iaload, .inl (.istore 4), .inl (.aload 0), .inl (.getfield 308), .inl (.iconst 5), .inl (.iload 1), .inl .imul, .inl (.iconst 3), .inl .iadd, .inl .iaload, .inl (.istore 5), .inl (.aload 0), .inl (.getfield 307), .inl (.iload 1), .inl .iaload, .inr (.lookupswitch 217 #[(100, 210), (101, 217), (102, 148), (103, 217), (104, 155), (105, 217), (106, 217), (107, 217), (108, 217), (109, 217), (110, 217), (111, 217), (112, 217), (113, 217), (114, 197), (115, 167), (116, 217), (117, 217), (118, 217), (119, 188), (120, 204)])]
def k180_148 : List xI := [.inl (.aload 0), .inl (.iload 2), .inl (.iload 3), .inr (.invokeinterface 124 3), .inr .ireturn]
def k180_155 : List xI := [.inl (.aload 0), .inl (.iload 2), .inl (.iload 3), .inl (.iload 4), .inl (.iload 5), .inl (.iconst (-1)), .inr (.invokeinterface 129 6), .inr .ireturn]
def k180_167 : List xI := [.inl (.aload 0), .inl (.iload 3), .inl (.iload 4), .inl (.iload 5), .inl (.aload 0), .inl (.getfield 308), .inl (.iconst 5), .inl (.iload 1), .inl .imul, .inl (.iconst 4), .inl .iadd, .inl .iaload, .inl (.iload 2), .inr (.invokeinterface 129 6), .inr .ireturn]
def k180_188 : List xI := [.inl (.aload 0), .inl (.iload 2), .inl (.iload 3), .inl (.iload 4), .inr (.invokeinterface 126 4), .inr .ireturn]
def k180_197 : List xI := [.inl (.aload 0), .inl (.iload 2), .inl (.iconst 1), .inr (.invokeinterface 127 3), .inr .ireturn]
def k180_204 : List xI := [.inl (.aload 0), .inl (.iload 2), .inr (.invokeinterface 130 2), .inr .ireturn]
def k180_210 : List xI := [.inl (.aload 0), .inl (.iconst 0), .inl (.iload 2), .inr (.invokeinterface 169 3), .inr .ireturn]
def k180_217 : List xI := [.inl (.aload 0), .inl (.iconst 1), .inl (.iload 2), .inr (.invokeinterface 169 3), .inr .ireturn]
def xm180 : List (Nat × List xI) := [(0, k180_0), (148, k180_148), (155, k180_155), (167, k180_167), (188, k180_188), (197, k180_197), (204, k180_204), (210, k180_210), (217, k180_217)]
/-- 181: DrawnFieldsModel.reads()I -/
def k181_0 : List xI := [.inl (.aload 0), .inl (.iconst 0), .inl (.putfield 304), .inl (.aload 0), .inl (.iconst (-1)), .inl (.putfield 305), .inl (.aload 0), .inl (.iconst 0), .inl (.putfield 306), .inl (.aload 0), .inl (.aload 0), .inr (.invokeinterface 174 1), .inl (.iconst (-1)), .inr (.if_icmp .eq 28), .inl (.iconst 1), .inr (.goto 29)]
def k181_28 : List xI := [.inl (.iconst 0), xto 29]
def k181_29 : List xI := [.inr (.invokeinterface 175 2), xto 32]
def k181_32 : List xI := [.inl (.aload 0), .inl (.getfield 305), .inl (.iconst (-1)), .inr (.if_icmp .ne 55), .inl (.aload 0), .inr (.invokeinterface 174 1), .inl (.iconst (-1)), .inr (.if_icmp .eq 55), .inl (.aload 0), .inr (.invokeinterface 179 1), .inr (.goto 32)]
def k181_55 : List xI := [.inl (.aload 0), .inl (.getfield 305), .inl (.iconst (-1)), .inr (.if_icmp .eq 71), .inl (.iconst (-10)), .inl (.aload 0), .inl (.getfield 305), .inl .isub, .inr .ireturn]
def k181_71 : List xI := [.inl (.aload 0), .inr (.invokeinterface 113 1), .inl (.iconst 0), .inl (.istore 1), .inl (.iconst 0), .inl (.istore 2), xto 79]
def k181_79 : List xI := [.inl (.iload 2), .inl (.aload 0), .inl (.getfield 306), .inr (.if_icmp .ge 109), .inl (.iload 1), .inl (.aload 0), .inl (.iload 2), .inr (.invokeinterface 180 2), .inr (.ifCond .lt 100), .inl (.iconst 1), .inr (.goto 101)]
def k181_100 : List xI := [.inl (.iconst 0), xto 101]
def k181_101 : List xI := [.inl .iadd, .inl (.istore 1), .inl (.iinc 2 1), .inr (.goto 79)]
def k181_109 : List xI := [.inl (.aload 0), .inr (.invokeinterface 114 1), .inl (.iload 1), .inr .ireturn]
def xm181 : List (Nat × List xI) := [(0, k181_0), (28, k181_28), (29, k181_29), (32, k181_32), (55, k181_55), (71, k181_71), (79, k181_79), (100, k181_100), (101, k181_101), (109, k181_109)]
/-- 182: DrawnFieldsModel.toldOf(I)I -/
def k182_0 : List xI := [.inl (.iload 1), .inl (.iconst 3), .inr (.if_icmp .ge 14), .inl (.aload 0), .inl (.getfield 292), .inl (.iload 1), .inl .iaload, .inr (.goto 59)]
def k182_14 : List xI := [.inl (.iload 1), .inl (.iconst 3), .inr (.if_icmp .ne 26), .inl (.aload 0), .inl (.getfield 303), .inr (.goto 59)]
def k182_26 : List xI := [.inl (.iload 1), .inl (.iconst 4), .inr (.if_icmp .ne 40), .inl (.aload 0), .inl (.getfield 288), .inl (.iconst 0), .inl .iaload, .inr (.goto 59)]
def k182_40 : List xI := [.inl (.iload 1), .inl (.iconst 5), .inr (.if_icmp .ne 55), .inl (.aload 0), .inl (.getfield 288), .inl (.iconst 57), .inl .iaload, .inr (.goto 59)]
def k182_55 : List xI := [.inl (.aload 0), .inl (.getfield 291), xto 59]
def k182_59 : List xI := [.inr .ireturn]
def xm182 : List (Nat × List xI) := [(0, k182_0), (14, k182_14), (26, k182_26), (40, k182_40), (55, k182_55), (59, k182_59)]
/-- 183: DrawnFieldsModel.told(I)I -/
def k183_0 : List xI := [.inl (.iload 1), .inl (.iconst 0), .inl (.iconst 6), .inr (.invokeinterface 110 3), .inr (.ifCond .eq 18), .inl (.aload 0), .inl (.iload 1), .inr (.invokeinterface 182 2), .inr (.goto 24)]
def k183_18 : List xI := [.inl (.aload 0), .inl (.iconst (-2)), .inr (.invokeinterface 112 2), xto 24]
def k183_24 : List xI := [.inr .ireturn]
def xm183 : List (Nat × List xI) := [(0, k183_0), (18, k183_18), (24, k183_24)]
/-- 184: DrawnFieldsModel.mix(I)V -/
def k184_0 : List xI := [.inl (.aload 0), .inl (.sipush 31), .inl (.aload 0), .inl (.getfield 309), .inl .lmul, .inl (.iload 1), .inl .i2l, .inl .ladd, .inl (.putfield 309), .inr .return_]
def xm184 : List (Nat × List xI) := [(0, k184_0)]
/-- 185: DrawnFieldsModel.digest()J -/
def k185_0 : List xI := [.inl (.aload 0), .inl (.sipush 2423), .inl (.putfield 309), .inl (.iconst 0), .inl (.istore 1), xto 9]
def k185_9 : List xI := [.inl (.iload 1), .inl (.iconst 7), .inr (.if_icmp .ge 30), .inl (.aload 0), .inl (.aload 0), .inl (.iload 1), .inr (.invokeinterface 182 2), .inr (.invokeinterface 184 2), .inl (.iinc 1 1), .inr (.goto 9)]
def k185_30 : List xI := [.inl (.iconst 0), .inl (.istore 1), xto 32]
def k185_32 : List xI := [.inl (.iload 1), .inl (.aload 0), .inr (.invokeinterface 117 1), .inr (.if_icmp .ge 96), .inl (.iconst 0), .inl (.istore 2), xto 42]
def k185_42 : List xI := [.inl (.iload 2), .inl (.iconst 6), .inr (.if_icmp .ge 64), .inl (.aload 0), .inl (.aload 0), .inl (.iload 1), .inl (.iload 2), .inr (.invokeinterface 150 3), .inr (.invokeinterface 184 2), .inl (.iinc 2 1), .inr (.goto 42)]
def k185_64 : List xI := [.inl (.iconst 0), .inl (.istore 2), xto 66]
def k185_66 : List xI := [.inl (.iload 2), .inl (.iconst 8), .inr (.if_icmp .ge 90), .inl (.aload 0), .inl (.aload 0), .inl (.iload 1), .inl (.iconst 5), .inl (.iload 2), .inl .iadd, .inr (.invokeinterface 120 3), .inr (.invokeinterface 184 2), .inl (.iinc 2 1), .inr (.goto 66)]
def k185_90 : List xI := [.inl (.iinc 1 1), .inr (.goto 32)]
def k185_96 : List xI := [.inl (.iconst 0), .inl (.istore 1), xto 98]
def k185_98 : List xI := [.inl (.iload 1), .inl (.iconst 6), .inl (.aload 0), .inl (.getfield 288), .inl (.iconst 57), .inl .iaload, .inl .imul, .inr (.if_icmp .ge 134), .inl (.aload 0), .inl (.aload 0), .inl (.iload 1), .inl (.iconst 6), .inl .idiv, .inl (.iload 1), .inl (.iconst 6), .inl .irem, .inr (.invokeinterface 152 3), .inr (.invokeinterface 184 2), .inl (.iinc 1 1), .inr (.goto 98)]
def k185_134 : List xI := [.inl (.aload 0), .inl (.aload 0), .inr (.invokeinterface 154 1), .inr (.invokeinterface 184 2), .inl (.aload 0), .inl (.aload 0), .inl (.iconst (-1)), .inl (.iconst 0), .inr (.invokeinterface 156 3), .inr (.invokeinterface 184 2), .inl (.aload 0), .inl (.aload 0), .inr (.invokeinterface 162 1), .inr (.invokeinterface 184 2), .inl (.aload 0), .inl (.aload 0), .inl (.getfield 288), .inl (.iconst 98), .inl .iaload, .inr (.invokeinterface 184 2), .inl (.iconst 0), .inl (.istore 1), xto 173]
def k185_173 : List xI := [.inl (.iload 1), .inl (.aload 0), .inl (.getfield 288), .inl (.iconst 98), .inl .iaload, .inr (.if_icmp .ge 224), .inl (.iconst 0), .inl (.istore 2), xto 186]
def k185_186 : List xI := [.inl (.iload 2), .inl (.aload 0), .inr (.invokeinterface 117 1), .inr (.if_icmp .ge 218), .inl (.aload 0), .inl (.aload 0), .inl (.aload 0), .inl (.getfield 288), .inl (.iconst 99), .inl (.iload 1), .inl .iadd, .inl .iaload, .inl (.iload 2), .inr (.invokeinterface 139 3), .inr (.invokeinterface 184 2), .inl (.iinc 2 1), .inr (.goto 186)]
def k185_218 : List xI := [.inl (.iinc 1 1), .inr (.goto 173)]
def k185_224 : List xI := [.inl (.aload 0), .inl (.getfield 309), .inr .lreturn]
def xm185 : List (Nat × List xI) := [(0, k185_0), (9, k185_9), (30, k185_30), (32, k185_32), (42, k185_42), (64, k185_64), (66, k185_66), (90, k185_90), (96, k185_96), (98, k185_98), (134, k185_134), (173, k185_173), (186, k185_186), (218, k185_218), (224, k185_224)]
/-- 186: java/lang/Integer.bitCount(I)I -/
def k186_0 : List xI := [.inl (.iload 0), .inl (.iload 0), .inl (.iconst 1), .inl .iushr, .inl (.iconst 1431655765), .inl .iand, .inl .isub, .inl (.istore 0), .inl (.iload 0), .inl (.iconst 858993459), .inl .iand, .inl (.iload 0), .inl (.iconst 2), .inl .iushr, .inl (.iconst 858993459), .inl .iand, .inl .iadd, .inl (.istore 0), .inl (.iload 0), .inl (.iload 0), .inl (.iconst 4), .inl .iushr, .inl .iadd, .inl (.iconst 252645135), .inl .iand, .inl (.istore 0), .inl (.iload 0), .inl (.iload 0), .inl (.iconst 8), .inl .iushr, .inl .iadd, .inl (.istore 0), .inl (.iload 0), .inl (.iload 0), .inl (.iconst 16), .inl .iushr, .inl .iadd, .inl (.istore 0), .inl (.iload 0), .inl (.iconst 63), .inl .iand, .inr .ireturn]
def xm186 : List (Nat × List xI) := [(0, k186_0)]
/-- 187: java/lang/Long.bitCount(J)I -/
def k187_0 : List xI := [.inl (.lload 0), .inl (.lload 0), .inl (.iconst 1), .inl .lushr, .inl (.sipush 6148914691236517205), .inl .land, .inl .lsub, .inl (.lstore 0), .inl (.lload 0), .inl (.sipush 3689348814741910323), .inl .land, .inl (.lload 0), .inl (.iconst 2), .inl .lushr, .inl (.sipush 3689348814741910323), .inl .land, .inl .ladd, .inl (.lstore 0), .inl (.lload 0), .inl (.lload 0), .inl (.iconst 4), .inl .lushr, .inl .ladd, .inl (.sipush 1085102592571150095), .inl .land, .inl (.lstore 0), .inl (.lload 0), .inl (.lload 0), .inl (.iconst 8), .inl .lushr, .inl .ladd, .inl (.lstore 0), .inl (.lload 0), .inl (.lload 0), .inl (.iconst 16), .inl .lushr, .inl .ladd, .inl (.lstore 0), .inl (.lload 0), .inl (.lload 0), .inl (.iconst 32), .inl .lushr, .inl .ladd, .inl (.lstore 0), .inl (.lload 0), .inl .l2i, .inl (.iconst 127), .inl .iand, .inr .ireturn]
def xm187 : List (Nat × List xI) := [(0, k187_0)]
/-- 188: DrawnFieldsLaw.law([I)Z -/
def k188_0 : List xI := [.inl (.new 8), .inl .dup, .inr (.invokeinterface 67 1), .inl (.astore 1), .inl (.new 9), .inl .dup, .inr (.invokeinterface 109 1), .inl (.astore 2), .inl (.iconst 0), .inl (.istore 3), xto 18]
def k188_18 : List xI := [.inl (.iload 3), .inl (.aload 0), .inl .arraylength, .inl (.iconst 6), .inl .isub, .inr (.if_icmp .gt 813), .inl (.aload 0), .inl (.iload 3), .inl .iaload, .inl (.iconst 31), .inl .iand, .inr (.lookupswitch 807 #[(0, 144), (1, 177), (2, 220), (3, 263), (4, 296), (5, 329), (6, 392), (7, 415), (8, 448), (9, 481), (10, 494), (11, 527), (12, 560), (13, 583), (14, 606), (15, 629), (16, 642), (17, 675), (18, 708), (19, 731), (20, 744), (21, 757), (22, 770), (23, 793)])]
def k188_144 : List xI := [.inl (.aload 1), .inl (.aload 0), .inl (.iload 3), .inl (.iconst 1), .inl .iadd, .inl .iaload, .inl (.aload 0), .inl (.iload 3), .inl (.iconst 2), .inl .iadd, .inl .iaload, .inr (.invokeinterface 68 3), .inl (.aload 2), .inl (.aload 0), .inl (.iload 3), .inl (.iconst 1), .inl .iadd, .inl .iaload, .inl (.aload 0), .inl (.iload 3), .inl (.iconst 2), .inl .iadd, .inl .iaload, .inr (.invokeinterface 131 3), .inr (.if_icmp .eq 807), .inl (.iconst 0), .inr .areturn]
def k188_177 : List xI := [.inl (.aload 1), .inl (.aload 0), .inl (.iload 3), .inl (.iconst 1), .inl .iadd, .inl .iaload, .inl (.aload 0), .inl (.iload 3), .inl (.iconst 2), .inl .iadd, .inl .iaload, .inl (.aload 0), .inl (.iload 3), .inl (.iconst 3), .inl .iadd, .inl .iaload, .inr (.invokeinterface 69 4), .inl (.aload 2), .inl (.aload 0), .inl (.iload 3), .inl (.iconst 1), .inl .iadd, .inl .iaload, .inl (.aload 0), .inl (.iload 3), .inl (.iconst 2), .inl .iadd, .inl .iaload, .inl (.aload 0), .inl (.iload 3), .inl (.iconst 3), .inl .iadd, .inl .iaload, .inr (.invokeinterface 132 4), .inr (.if_icmp .eq 807), .inl (.iconst 0), .inr .areturn]
def k188_220 : List xI := [.inl (.aload 1), .inl (.aload 0), .inl (.iload 3), .inl (.iconst 1), .inl .iadd, .inl .iaload, .inl (.aload 0), .inl (.iload 3), .inl (.iconst 2), .inl .iadd, .inl .iaload, .inl (.aload 0), .inl (.iload 3), .inl (.iconst 3), .inl .iadd, .inl .iaload, .inr (.invokeinterface 70 4), .inl (.aload 2), .inl (.aload 0), .inl (.iload 3), .inl (.iconst 1), .inl .iadd, .inl .iaload, .inl (.aload 0), .inl (.iload 3), .inl (.iconst 2), .inl .iadd, .inl .iaload, .inl (.aload 0), .inl (.iload 3), .inl (.iconst 3), .inl .iadd, .inl .iaload, .inr (.invokeinterface 133 4), .inr (.if_icmp .eq 807), .inl (.iconst 0), .inr .areturn]
def k188_263 : List xI := [.inl (.aload 1), .inl (.aload 0), .inl (.iload 3), .inl (.iconst 1), .inl .iadd, .inl .iaload, .inl (.aload 0), .inl (.iload 3), .inl (.iconst 2), .inl .iadd, .inl .iaload, .inr (.invokeinterface 71 3), .inl (.aload 2), .inl (.aload 0), .inl (.iload 3), .inl (.iconst 1), .inl .iadd, .inl .iaload, .inl (.aload 0), .inl (.iload 3), .inl (.iconst 2), .inl .iadd, .inl .iaload, .inr (.invokeinterface 134 3), .inr (.if_icmp .eq 807), .inl (.iconst 0), .inr .areturn]
def k188_296 : List xI := [.inl (.aload 1), .inl (.aload 0), .inl (.iload 3), .inl (.iconst 1), .inl .iadd, .inl .iaload, .inl (.aload 0), .inl (.iload 3), .inl (.iconst 2), .inl .iadd, .inl .iaload, .inr (.invokeinterface 72 3), .inl (.aload 2), .inl (.aload 0), .inl (.iload 3), .inl (.iconst 1), .inl .iadd, .inl .iaload, .inl (.aload 0), .inl (.iload 3), .inl (.iconst 2), .inl .iadd, .inl .iaload, .inr (.invokeinterface 136 3), .inr (.if_icmp .eq 807), .inl (.iconst 0), .inr .areturn]
def k188_329 : List xI := [.inl (.aload 1), .inl (.aload 0), .inl (.iload 3), .inl (.iconst 1), .inl .iadd, .inl .iaload, .inl (.aload 0), .inl (.iload 3), .inl (.iconst 2), .inl .iadd, .inl .iaload, .inl (.aload 0), .inl (.iload 3), .inl (.iconst 3), .inl .iadd, .inl .iaload, .inl (.aload 0), .inl (.iload 3), .inl (.iconst 4), .inl .iadd, .inl .iaload, .inl (.aload 0), .inl (.iload 3), .inl (.iconst 5), .inl .iadd, .inl .iaload, .inr (.invokeinterface 73 6), .inl (.aload 2), .inl (.aload 0), .inl (.iload 3), .inl (.iconst 1), .inl .iadd, .inl .iaload, .inl (.aload 0), .inl (.iload 3), .inl (.iconst 2), .inl .iadd, .inl .iaload, .inl (.aload 0), .inl (.iload 3), .inl (.iconst 3), .inl .iadd, .inl .iaload, .inl (.aload 0), .inl (.iload 3), .inl (.iconst 4), .inl .iadd, .inl .iaload, .inl (.aload 0), .inl (.iload 3), .inl (.iconst 5), .inl .iadd, .inl .iaload, .inr (.invokeinterface 137 6), .inr (.if_icmp .eq 807), .inl (.iconst 0), .inr .areturn]
def k188_392 : List xI := [.inl (.aload 1), .inl (.aload 0), .inl (.iload 3), .inl (.iconst 1), .inl .iadd, .inl .iaload, .inr (.invokeinterface 74 2), .inl (.aload 2), .inl (.aload 0), .inl (.iload 3), .inl (.iconst 1), .inl .iadd, .inl .iaload, .inr (.invokeinterface 138 2), .inr (.if_icmp .eq 807), .inl (.iconst 0), .inr .areturn]
def k188_415 : List xI := [.inl (.aload 1), .inl (.aload 0), .inl (.iload 3), .inl (.iconst 1), .inl .iadd, .inl .iaload, .inl (.aload 0), .inl (.iload 3), .inl (.iconst 2), .inl .iadd, .inl .iaload, .inr (.invokeinterface 75 3), .inl (.aload 2), .inl (.aload 0), .inl (.iload 3), .inl (.iconst 1), .inl .iadd, .inl .iaload, .inl (.aload 0), .inl (.iload 3), .inl (.iconst 2), .inl .iadd, .inl .iaload, .inr (.invokeinterface 151 3), .inr (.if_icmp .eq 807), .inl (.iconst 0), .inr .areturn]
def k188_448 : List xI := [.inl (.aload 1), .inl (.aload 0), .inl (.iload 3), .inl (.iconst 1), .inl .iadd, .inl .iaload, .inl (.aload 0), .inl (.iload 3), .inl (.iconst 2), .inl .iadd, .inl .iaload, .inr (.invokeinterface 76 3), .inl (.aload 2), .inl (.aload 0), .inl (.iload 3), .inl (.iconst 1), .inl .iadd, .inl .iaload, .inl (.aload 0), .inl (.iload 3), .inl (.iconst 2), .inl .iadd, .inl .iaload, .inr (.invokeinterface 153 3), .inr (.if_icmp .eq 807), .inl (.iconst 0), .inr .areturn]
def k188_481 : List xI := [.inl (.aload 1), .inr (.invokeinterface 77 1), .inl (.aload 2), .inr (.invokeinterface 154 1), .inr (.if_icmp .eq 807), .inl (.iconst 0), .inr .areturn]
def k188_494 : List xI := [.inl (.aload 1), .inl (.aload 0), .inl (.iload 3), .inl (.iconst 1), .inl .iadd, .inl .iaload, .inl (.aload 0), .inl (.iload 3), .inl (.iconst 2), .inl .iadd, .inl .iaload, .inr (.invokeinterface 78 3), .inl (.aload 2), .inl (.aload 0), .inl (.iload 3), .inl (.iconst 1), .inl .iadd, .inl .iaload, .inl (.aload 0), .inl (.iload 3), .inl (.iconst 2), .inl .iadd, .inl .iaload, .inr (.invokeinterface 155 3), .inr (.if_icmp .eq 807), .inl (.iconst 0), .inr .areturn]
def k188_527 : List xI := [.inl (.aload 1), .inl (.aload 0), .inl (.iload 3), .inl (.iconst 1), .inl .iadd, .inl .iaload, .inl (.aload 0), .inl (.iload 3), .inl (.iconst 2), .inl .iadd, .inl .iaload, .inr (.invokeinterface 79 3), .inl (.aload 2), .inl (.aload 0), .inl (.iload 3), .inl (.iconst 1), .inl .iadd, .inl .iaload, .inl (.aload 0), .inl (.iload 3), .inl (.iconst 2), .inl .iadd, .inl .iaload, .inr (.invokeinterface 157 3), .inr (.if_icmp .eq 807), .inl (.iconst 0), .inr .areturn]
def k188_560 : List xI := [.inl (.aload 1), .inl (.aload 0), .inl (.iload 3), .inl (.iconst 1), .inl .iadd, .inl .iaload, .inr (.invokeinterface 80 2), .inl (.aload 2), .inl (.aload 0), .inl (.iload 3), .inl (.iconst 1), .inl .iadd, .inl .iaload, .inr (.invokeinterface 159 2), .inr (.if_icmp .eq 807), .inl (.iconst 0), .inr .areturn]
def k188_583 : List xI := [.inl (.aload 1), .inl (.aload 0), .inl (.iload 3), .inl (.iconst 1), .inl .iadd, .inl .iaload, .inr (.invokeinterface 81 2), .inl (.aload 2), .inl (.aload 0), .inl (.iload 3), .inl (.iconst 1), .inl .iadd, .inl .iaload, .inr (.invokeinterface 160 2), .inr (.if_icmp .eq 807), .inl (.iconst 0), .inr .areturn]
def k188_606 : List xI := [.inl (.aload 1), .inl (.aload 0), .inl (.iload 3), .inl (.iconst 1), .inl .iadd, .inl .iaload, .inr (.invokeinterface 82 2), .inl (.aload 2), .inl (.aload 0), .inl (.iload 3), .inl (.iconst 1), .inl .iadd, .inl .iaload, .inr (.invokeinterface 161 2), .inr (.if_icmp .eq 807), .inl (.iconst 0), .inr .areturn]
def k188_629 : List xI := [.inl (.aload 1), .inr (.invokeinterface 83 1), .inl (.aload 2), .inr (.invokeinterface 162 1), .inr (.if_icmp .eq 807), .inl (.iconst 0), .inr .areturn]
def k188_642 : List xI := [.inl (.aload 1), .inl (.aload 0), .inl (.iload 3), .inl (.iconst 1), .inl .iadd, .inl .iaload, .inl (.aload 0), .inl (.iload 3), .inl (.iconst 2), .inl .iadd, .inl .iaload, .inr (.invokeinterface 84 3), .inl (.aload 2), .inl (.aload 0), .inl (.iload 3), .inl (.iconst 1), .inl .iadd, .inl .iaload, .inl (.aload 0), .inl (.iload 3), .inl (.iconst 2), .inl .iadd, .inl .iaload, .inr (.invokeinterface 170 3), .inr (.if_icmp .eq 807), .inl (.iconst 0), .inr .areturn]
def k188_675 : List xI := [.inl (.aload 1), .inl (.aload 0), .inl (.iload 3), .inl (.iconst 1), .inl .iadd, .inl .iaload, .inl (.aload 0), .inl (.iload 3), .inl (.iconst 2), .inl .iadd, .inl .iaload, .inr (.invokeinterface 85 3), .inl (.aload 2), .inl (.aload 0), .inl (.iload 3), .inl (.iconst 1), .inl .iadd, .inl .iaload, .inl (.aload 0), .inl (.iload 3), .inl (.iconst 2), .inl .iadd, .inl .iaload, .inr (.invokeinterface 171 3), .inr (.if_icmp .eq 807), .inl (.iconst 0), .inr .areturn]
def k188_708 : List xI := [.inl (.aload 1), .inl (.aload 0), .inl (.iload 3), .inl (.iconst 1), .inl .iadd, .inl .iaload, .inr (.invokeinterface 86 2), .inl (.aload 2), .inl (.aload 0), .inl (.iload 3), .inl (.iconst 1), .inl .iadd, .inl .iaload, .inr (.invokeinterface 172 2), .inr (.if_icmp .eq 807), .inl (.iconst 0), .inr .areturn]
def k188_731 : List xI := [.inl (.aload 1), .inr (.invokeinterface 87 1), .inl (.aload 2), .inr (.invokeinterface 173 1), .inr (.if_icmp .eq 807), .inl (.iconst 0), .inr .areturn]
def k188_744 : List xI := [.inl (.aload 1), .inr (.invokeinterface 88 1), .inl (.aload 2), .inr (.invokeinterface 181 1), .inr (.if_icmp .eq 807), .inl (.iconst 0), .inr .areturn]
def k188_757 : List xI := [.inl (.aload 1), .inr (.invokeinterface 89 1), .inl (.aload 2), .inr (.invokeinterface 116 1), .inr (.if_icmp .eq 807), .inl (.iconst 0), .inr .areturn]
def k188_770 : List xI := [.inl (.aload 1), .inl (.aload 0), .inl (.iload 3), .inl (.iconst 1), .inl .iadd, .inl .iaload, .inr (.invokeinterface 90 2), .inl (.aload 2), .inl (.aload 0), .inl (.iload 3), .inl (.iconst 1), .inl .iadd, .inl .iaload, .inr (.invokeinterface 183 2), .inr (.if_icmp .eq 807), .inl (.iconst 0), .inr .areturn]
def k188_793 : List xI := [.inl (.aload 1), .inr (.invokeinterface 91 1), .inl (.aload 2), .inr (.invokeinterface 185 1), .inl .lcmp, .inr (.ifCond .eq 807), .inl (.iconst 0), .inr .areturn]
def k188_807 : List xI := [.inl (.iinc 3 6), .inr (.goto 18)]
def k188_813 : List xI := [.inl (.iconst 1), .inr .areturn]
def xm188 : List (Nat × List xI) := [(0, k188_0), (18, k188_18), (144, k188_144), (177, k188_177), (220, k188_220), (263, k188_263), (296, k188_296), (329, k188_329), (392, k188_392), (415, k188_415), (448, k188_448), (481, k188_481), (494, k188_494), (527, k188_527), (560, k188_560), (583, k188_583), (606, k188_606), (629, k188_629), (642, k188_642), (675, k188_675), (708, k188_708), (731, k188_731), (744, k188_744), (757, k188_757), (770, k188_770), (793, k188_793), (807, k188_807), (813, k188_813)]
def xtab : List (List (Nat × List xI)) := [xm0, xm1, xm2, xm3, xm4, xm5, xm6, xm7, xm8, xm9, xm10, xm11, xm12, xm13, xm14, xm15, xm16, xm17, xm18, xm19, xm20, xm21, xm22, xm23, xm24, xm25, xm26, xm27, xm28, xm29, xm30, xm31, xm32, xm33, xm34, xm35, xm36, xm37, xm38, xm39, xm40, xm41, xm42, xm43, xm44, xm45, xm46, xm47, xm48, xm49, xm50, xm51, xm52, xm53, xm54, xm55, xm56, xm57, xm58, xm59, xm60, xm61, xm62, xm63, xm64, xm65, xm66, xm67, xm68, xm69, xm70, xm71, xm72, xm73, xm74, xm75, xm76, xm77, xm78, xm79, xm80, xm81, xm82, xm83, xm84, xm85, xm86, xm87, xm88, xm89, xm90, xm91, xm92, xm93, xm94, xm95, xm96, xm97, xm98, xm99, xm100, xm101, xm102, xm103, xm104, xm105, xm106, xm107, xm108, xm109, xm110, xm111, xm112, xm113, xm114, xm115, xm116, xm117, xm118, xm119, xm120, xm121, xm122, xm123, xm124, xm125, xm126, xm127, xm128, xm129, xm130, xm131, xm132, xm133, xm134, xm135, xm136, xm137, xm138, xm139, xm140, xm141, xm142, xm143, xm144, xm145, xm146, xm147, xm148, xm149, xm150, xm151, xm152, xm153, xm154, xm155, xm156, xm157, xm158, xm159, xm160, xm161, xm162, xm163, xm164, xm165, xm166, xm167, xm168, xm169, xm170, xm171, xm172, xm173, xm174, xm175, xm176, xm177, xm178, xm179, xm180, xm181, xm182, xm183, xm184, xm185, xm186, xm187, xm188]
/-- name, bytes, locals, answer; class number, frames, words of locals that it asks for -/
def xinf : List (MethodName × ByteArray × Nat × Option FieldType × Nat × Nat × Nat) := [(yX0_init, cX0_init, 1, none, 0, 2, 40),
  (yX0_begin, cX0_begin, 3, none, 0, 2, 39),
  (yX0_drawTogether, cX0_drawTogether, 9, (some .int), 0, 3, 73),
  (yX0_rowOfWord, cX0_rowOfWord, 8, (some .int), 0, 2, 44),
  (yX0_drawInOrder, cX0_drawInOrder, 5, (some .int), 0, 3, 73),
  (yX0_takeValue, cX0_takeValue, 7, (some .int), 0, 1, 23),
  (yX0_chanceBelow, cX0_chanceBelow, 2, (some .int), 0, 0, 0),
  (yX1_init, cX1_init, 1, none, 1, 1, 23),
  (yX1_begin, cX1_begin, 4, none, 1, 0, 0),
  (yX1_becomes, cX1_becomes, 2, none, 1, 1, 18),
  (yX1_valueBits, cX1_valueBits, 1, (some .int), 1, 0, 0),
  (yX1_inTurn, cX1_inTurn, 3, (some .int), 1, 0, 0),
  (yX1_weightOfValues, cX1_weightOfValues, 4, (some .int), 1, 0, 0),
  (yX2_init, cX2_init, 2, none, 2, 2, 40),
  (yX2_look, cX2_look, 4, none, 2, 3, 71),
  (yX2_withSoft, cX2_withSoft, 6, (some .int), 2, 1, 25),
  (yX2_leastUnkept, cX2_leastUnkept, 5, (some .int), 2, 1, 25),
  (yX2_someRowKeeps, cX2_someRowKeeps, 6, (some .boolean), 2, 0, 0),
  (yX3_init, cX3_init, 2, none, 3, 3, 64),
  (yX3_mark, cX3_mark, 2, none, 3, 3, 61),
  (yX3_keepMark, cX3_keepMark, 3, none, 3, 0, 0),
  (yX3_restore, cX3_restore, 2, (some .int), 3, 3, 61),
  (yX4_init, cX4_init, 1, none, 4, 1, 20),
  (yX4_wordValue, cX4_wordValue, 2, (some .int), 4, 0, 0),
  (yX4_hasWord, cX4_hasWord, 3, (some .boolean), 4, 1, 21),
  (yX4_withinWord, cX4_withinWord, 5, (some .long), 4, 0, 0),
  (yX4_becomes, cX4_becomes, 2, none, 4, 1, 18),
  (yX4_becomesAll, cX4_becomesAll, 2, none, 4, 0, 0),
  (yX4_becomesKeepersOf, cX4_becomesKeepersOf, 7, none, 4, 2, 45),
  (yX4_keepRowsOf, cX4_keepRowsOf, 3, none, 4, 0, 0),
  (yX4_keepValues, cX4_keepValues, 6, none, 4, 2, 43),
  (yX4_isEmpty, cX4_isEmpty, 2, (some .boolean), 4, 0, 0),
  (yX4_size, cX4_size, 3, (some .int), 4, 1, 21),
  (yX4_valuesAt, cX4_valuesAt, 6, (some .int), 4, 2, 48),
  (yX4_valuesWithin, cX4_valuesWithin, 5, (some .int), 4, 1, 24),
  (yX4_codeAt, cX4_codeAt, 5, (some .int), 4, 1, 24),
  (yX4_bitAt, cX4_bitAt, 5, (some .int), 4, 0, 0),
  (yX4_countAhead, cX4_countAhead, 5, (some .int), 4, 1, 21),
  (yX4_countBySum, cX4_countBySum, 6, none, 4, 1, 21),
  (yX5_init, cX5_init, 1, none, 5, 1, 20),
  (yX5_becomes, cX5_becomes, 2, none, 5, 0, 0),
  (yX5_isKeptBy, cX5_isKeptBy, 3, (some .boolean), 5, 0, 0),
  (yX5_partnersOf, cX5_partnersOf, 4, (some .int), 5, 1, 22),
  (yX6_init, cX6_init, 2, none, 6, 2, 43),
  (yX6_becomes, cX6_becomes, 3, none, 6, 2, 39),
  (yX6_hasField, cX6_hasField, 2, (some .boolean), 6, 0, 0),
  (yX6_hasRule, cX6_hasRule, 2, (some .boolean), 6, 0, 0),
  (yX6_isRule, cX6_isRule, 5, (some .boolean), 6, 1, 21),
  (yX6_addField, cX6_addField, 4, (some .int), 6, 1, 23),
  (yX6_addRule, cX6_addRule, 7, (some .int), 6, 1, 21),
  (yX6_dropRule, cX6_dropRule, 3, (some .int), 6, 1, 21),
  (yX6_emptyDrawn, cX6_emptyDrawn, 2, none, 6, 0, 0),
  (yX6_placeInOrder, cX6_placeInOrder, 3, (some .int), 6, 0, 0),
  (yX6_moveInOrder, cX6_moveInOrder, 5, (some .int), 6, 1, 22),
  (yX6_factOfField, cX6_factOfField, 3, (some .int), 6, 1, 22),
  (yX6_noteDraw, cX6_noteDraw, 3, none, 6, 1, 21),
  (yX6_weightOfRow, cX6_weightOfRow, 4, (some .int), 6, 1, 21),
  (yX6_weightOfRows, cX6_weightOfRows, 4, (some .int), 6, 2, 50),
  (yX6_weightOfWord, cX6_weightOfWord, 8, (some .int), 6, 1, 23),
  (yX7_init, cX7_init, 1, none, 7, 1, 20),
  (yX7_add, cX7_add, 2, (some .int), 7, 0, 0),
  (yX7_findFault, cX7_findFault, 2, (some .int), 7, 3, 65),
  (yX7_readOrder, cX7_readOrder, 3, (some .boolean), 7, 2, 43),
  (yX7_numbersBehind, cX7_numbersBehind, 1, (some .int), 7, 0, 0),
  (yX7_readNumber, cX7_readNumber, 4, (some .boolean), 7, 1, 20),
  (yX7_isFigure, cX7_isFigure, 1, (some .boolean), 7, 0, 0),
  (yX7_skipBlanks, cX7_skipBlanks, 1, none, 7, 0, 0),
  (yX8_init, cX8_init, 1, none, 8, 4, 85),
  (yX8_field, cX8_field, 3, (some .int), 8, 4, 82),
  (yX8_range, cX8_range, 4, (some .int), 8, 4, 82),
  (yX8_weighs, cX8_weighs, 4, (some .int), 8, 4, 82),
  (yX8_round, cX8_round, 3, (some .int), 8, 4, 82),
  (yX8_orders, cX8_orders, 3, (some .int), 8, 4, 82),
  (yX8_rule, cX8_rule, 6, (some .int), 8, 4, 82),
  (yX8_drops, cX8_drops, 2, (some .int), 8, 4, 82),
  (yX8_of, cX8_of, 3, (some .int), 8, 2, 44),
  (yX8_about, cX8_about, 3, (some .int), 8, 4, 94),
  (yX8_rows, cX8_rows, 1, (some .int), 8, 4, 94),
  (yX8_row, cX8_row, 4, (some .int), 8, 4, 94),
  (yX8_heavy, cX8_heavy, 3, (some .int), 8, 4, 94),
  (yX8_sums, cX8_sums, 2, (some .int), 8, 4, 94),
  (yX8_sum, cX8_sum, 4, (some .int), 8, 4, 94),
  (yX8_soft, cX8_soft, 5, (some .int), 8, 1, 21),
  (yX8_core, cX8_core, 1, (some .int), 8, 4, 94),
  (yX8_draws, cX8_draws, 3, (some .int), 8, 5, 124),
  (yX8_drawn, cX8_drawn, 3, (some .int), 8, 1, 21),
  (yX8_type, cX8_type, 2, (some .int), 8, 1, 21),
  (yX8_clear, cX8_clear, 2, (some .int), 8, 0, 0),
  (yX8_reads, cX8_reads, 4, (some .int), 8, 6, 145),
  (yX8_back, cX8_back, 1, (some .int), 8, 4, 82),
  (yX8_told, cX8_told, 2, (some .int), 8, 1, 21),
  (yX8_digest, cX8_digest, 5, (some .long), 8, 4, 94),
  (yX8_settled, cX8_settled, 2, (some .int), 8, 1, 22),
  (yX8_counted, cX8_counted, 2, (some .int), 8, 0, 0),
  (yX8_factOfAll, cX8_factOfAll, 2, (some .int), 8, 0, 0),
  (yX8_factOfRule, cX8_factOfRule, 4, (some .int), 8, 0, 0),
  (yX8_digestOfField, cX8_digestOfField, 7, (some .long), 8, 2, 44),
  (yX8_digestOfDrawn, cX8_digestOfDrawn, 7, (some .long), 8, 1, 21),
  (yX8_valueIn, cX8_valueIn, 2, (some .int), 8, 0, 0),
  (yX8_isRange, cX8_isRange, 2, (some .boolean), 8, 0, 0),
  (yX8_tryField, cX8_tryField, 3, (some .int), 8, 2, 46),
  (yX8_tryRange, cX8_tryRange, 4, (some .int), 8, 1, 21),
  (yX8_tryWeight, cX8_tryWeight, 5, (some .int), 8, 1, 21),
  (yX8_tryRound, cX8_tryRound, 4, (some .int), 8, 1, 21),
  (yX8_tryPlace, cX8_tryPlace, 3, (some .int), 8, 2, 46),
  (yX8_tryRule, cX8_tryRule, 6, (some .int), 8, 2, 47),
  (yX8_tryDrop, cX8_tryDrop, 2, (some .int), 8, 2, 43),
  (yX8_tryDraw, cX8_tryDraw, 4, (some .int), 8, 4, 101),
  (yX8_performOrder, cX8_performOrder, 2, (some .int), 8, 5, 124),
  (yX9_init, cX9_init, 1, none, 9, 1, 20),
  (yX9_in, cX9_in, 3, (some .boolean), 9, 0, 0),
  (yX9_has, cX9_has, 2, (some .boolean), 9, 0, 0),
  (yX9_refuses, cX9_refuses, 2, (some .int), 9, 0, 0),
  (yX9_hold, cX9_hold, 2, none, 9, 0, 0),
  (yX9_push, cX9_push, 2, none, 9, 0, 0),
  (yX9_ends, cX9_ends, 2, (some .int), 9, 1, 21),
  (yX9_back, cX9_back, 2, (some .int), 9, 1, 21),
  (yX9_fields, cX9_fields, 1, (some .int), 9, 0, 0),
  (yX9_isField, cX9_isField, 2, (some .boolean), 9, 1, 22),
  (yX9_isRule, cX9_isRule, 2, (some .boolean), 9, 1, 22),
  (yX9_ofField, cX9_ofField, 3, (some .int), 9, 0, 0),
  (yX9_put, cX9_put, 4, none, 9, 0, 0),
  (yX9_ofRule, cX9_ofRule, 3, (some .int), 9, 0, 0),
  (yX9_empty, cX9_empty, 2, none, 9, 1, 23),
  (yX9_doField, cX9_doField, 5, (some .int), 9, 2, 44),
  (yX9_doRange, cX9_doRange, 4, (some .int), 9, 2, 44),
  (yX9_doWeighs, cX9_doWeighs, 5, (some .int), 9, 2, 43),
  (yX9_doRound, cX9_doRound, 4, (some .int), 9, 2, 43),
  (yX9_mostOf, cX9_mostOf, 1, (some .int), 9, 0, 0),
  (yX9_doRule, cX9_doRule, 7, (some .int), 9, 2, 44),
  (yX9_doDrops, cX9_doDrops, 3, (some .int), 9, 2, 44),
  (yX9_field, cX9_field, 3, (some .int), 9, 3, 68),
  (yX9_range, cX9_range, 4, (some .int), 9, 3, 67),
  (yX9_weighs, cX9_weighs, 4, (some .int), 9, 3, 67),
  (yX9_round, cX9_round, 3, (some .int), 9, 3, 66),
  (yX9_placeOf, cX9_placeOf, 3, (some .int), 9, 0, 0),
  (yX9_orders, cX9_orders, 5, (some .int), 9, 2, 43),
  (yX9_rule, cX9_rule, 6, (some .int), 9, 3, 70),
  (yX9_drops, cX9_drops, 2, (some .int), 9, 3, 66),
  (yX9_valueOf, cX9_valueOf, 3, (some .int), 9, 0, 0),
  (yX9_keeps, cX9_keeps, 6, (some .boolean), 9, 1, 22),
  (yX9_keptBy, cX9_keptBy, 4, (some .int), 9, 2, 47),
  (yX9_isSome, cX9_isSome, 4, (some .boolean), 9, 0, 0),
  (yX9_first, cX9_first, 3, (some .int), 9, 1, 22),
  (yX9_next, cX9_next, 5, (some .int), 9, 1, 22),
  (yX9_hard, cX9_hard, 3, (some .int), 9, 1, 22),
  (yX9_lookAtSoft, cX9_lookAtSoft, 3, none, 9, 2, 44),
  (yX9_lay, cX9_lay, 2, none, 9, 3, 70),
  (yX9_weightOf, cX9_weightOf, 4, (some .int), 9, 1, 22),
  (yX9_sumOf, cX9_sumOf, 4, (some .int), 9, 1, 22),
  (yX9_ofAll, cX9_ofAll, 3, (some .int), 9, 1, 22),
  (yX9_of, cX9_of, 3, (some .int), 9, 2, 44),
  (yX9_aboutRule, cX9_aboutRule, 3, (some .int), 9, 4, 91),
  (yX9_about, cX9_about, 3, (some .int), 9, 5, 113),
  (yX9_rows, cX9_rows, 1, (some .int), 9, 4, 91),
  (yX9_row, cX9_row, 3, (some .int), 9, 4, 91),
  (yX9_heavyOf, cX9_heavyOf, 5, (some .int), 9, 4, 91),
  (yX9_heavy, cX9_heavy, 4, (some .int), 9, 5, 115),
  (yX9_sumsOf, cX9_sumsOf, 4, (some .int), 9, 4, 91),
  (yX9_sums, cX9_sums, 2, (some .int), 9, 5, 114),
  (yX9_sum, cX9_sum, 4, (some .int), 9, 5, 114),
  (yX9_soft, cX9_soft, 2, (some .int), 9, 4, 91),
  (yX9_core, cX9_core, 3, (some .int), 9, 4, 91),
  (yX9_drawBy, cX9_drawBy, 2, (some .int), 9, 0, 0),
  (yX9_valuesOf, cX9_valuesOf, 4, (some .int), 9, 1, 22),
  (yX9_limit, cX9_limit, 4, none, 9, 1, 22),
  (yX9_takeTogether, cX9_takeTogether, 6, (some .int), 9, 2, 45),
  (yX9_valueDrawn, cX9_valueDrawn, 8, (some .int), 9, 1, 22),
  (yX9_takeInOrder, cX9_takeInOrder, 4, (some .int), 9, 2, 49),
  (yX9_doDraws, cX9_doDraws, 6, (some .int), 9, 4, 91),
  (yX9_draws, cX9_draws, 3, (some .int), 9, 5, 116),
  (yX9_drawn, cX9_drawn, 3, (some .int), 9, 2, 43),
  (yX9_type, cX9_type, 2, (some .int), 9, 1, 22),
  (yX9_clear, cX9_clear, 2, (some .int), 9, 0, 0),
  (yX9_here, cX9_here, 1, (some .int), 9, 0, 0),
  (yX9_must, cX9_must, 2, none, 9, 0, 0),
  (yX9_isFigure, cX9_isFigure, 1, (some .boolean), 9, 1, 22),
  (yX9_number, cX9_number, 3, (some .int), 9, 2, 42),
  (yX9_numbersOf, cX9_numbersOf, 1, (some .int), 9, 0, 0),
  (yX9_readOrder, cX9_readOrder, 4, none, 9, 3, 64),
  (yX9_doOrder, cX9_doOrder, 6, (some .int), 9, 5, 116),
  (yX9_reads, cX9_reads, 3, (some .int), 9, 6, 141),
  (yX9_toldOf, cX9_toldOf, 2, (some .int), 9, 0, 0),
  (yX9_told, cX9_told, 2, (some .int), 9, 1, 22),
  (yX9_mix, cX9_mix, 2, none, 9, 0, 0),
  (yX9_digest, cX9_digest, 3, (some .long), 9, 5, 115),
  (yJ6_bitCount_0f7a4, cJ6_bitCount_0f7a4, 1, (some .int), 10, 0, 0),
  (yJ13_bitCount_95d88, cJ13_bitCount_95d88, 2, (some .int), 11, 0, 0),
  (yL_law, cL_law, 4, (some .boolean), 12, 9, 338)]
/-- 2 + the class of a method that is called by its receiver, 1 of a constructor, 0 of others -/
def xvk : List Nat := [1, 2, 2, 2, 2, 2, 2, 1, 3, 3, 3, 3, 3, 1, 4, 4, 4, 4, 1, 5, 5, 5, 1, 0, 0, 0, 6, 6, 6, 6, 6, 6, 6, 6, 0, 6, 0, 6, 6, 1, 7, 7, 7, 1, 8, 8, 8, 8, 8, 8, 8, 8, 8, 8, 8, 8, 8, 8, 8, 1, 9, 9, 9, 0, 9, 9, 9, 1, 10, 10, 10, 10, 10, 10, 10, 10, 10, 10, 10, 10, 10, 10, 10, 10, 10, 10, 10, 10, 10, 10, 10, 10, 10, 10, 10, 10, 10, 10, 0, 0, 10, 10, 10, 10, 10, 10, 10, 10, 10, 1, 0, 0, 11, 11, 11, 11, 11, 11, 11, 11, 11, 11, 11, 11, 11, 11, 11, 11, 0, 11, 11, 11, 11, 11, 11, 11, 11, 11, 11, 11, 11, 11, 11, 11, 11, 11, 11, 11, 11, 11, 11, 11, 11, 11, 11, 11, 11, 11, 11, 11, 11, 11, 11, 11, 11, 11, 11, 11, 11, 11, 11, 11, 11, 11, 11, 11, 11, 11, 0, 11, 11, 11, 11, 11, 11, 11, 0, 0, 0]
def xblk (i pc : Nat) : Option (List xI) := (xtab.getD i []).lookup pc
def xmL (i : Nat) : Nat := ((xinf[i]?).map (fun q => q.2.2.1)).getD 0
