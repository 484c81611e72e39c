/-! ===== code ===== -/
def bX7_empty_0 : List (Nat × Instr) := [(0, .iload_n 1)]
theorem bX7_empty_0_ok : ∀ q ∈ bX7_empty_0, decode mX7_empty.2.1 q.1 = .ok (q.2, aLn q.2) := by decide +kernel
def bX7_empty_7 : List (Nat × Instr) := [(7, .iconst (-1))]
theorem bX7_empty_7_ok : ∀ q ∈ bX7_empty_7, decode mX7_empty.2.1 q.1 = .ok (q.2, aLn q.2) := by decide +kernel
def bX7_empty_9 : List (Nat × Instr) := [(9, .aload_n 0), (10, .getfield 9), (13, .aload_n 0), (14, .getfield 13)]
theorem bX7_empty_9_ok : ∀ q ∈ bX7_empty_9, decode mX7_empty.2.1 q.1 = .ok (q.2, aLn q.2) := by decide +kernel
def bX7_empty_20 : List (Nat × Instr) := [(20, .iconst 0), (21, .istore_n 2)]
theorem bX7_empty_20_ok : ∀ q ∈ bX7_empty_20, decode mX7_empty.2.1 q.1 = .ok (q.2, aLn q.2) := by decide +kernel
def bX7_empty_22 : List (Nat × Instr) := [(22, .iload_n 2), (23, .bipush 60)]
theorem bX7_empty_22_ok : ∀ q ∈ bX7_empty_22, decode mX7_empty.2.1 q.1 = .ok (q.2, aLn q.2) := by decide +kernel
def bX7_empty_28 : List (Nat × Instr) := [(28, .aload_n 0), (29, .getfield 13), (32, .bipush 8), (34, .iload_n 1), (35, .iadd), (36, .iaload)]
theorem bX7_empty_28_ok : ∀ q ∈ bX7_empty_28, decode mX7_empty.2.1 q.1 = .ok (q.2, aLn q.2) := by decide +kernel
def bX7_empty_40 : List (Nat × Instr) := [(40, .iload_n 2)]
theorem bX7_empty_40_ok : ∀ q ∈ bX7_empty_40, decode mX7_empty.2.1 q.1 = .ok (q.2, aLn q.2) := by decide +kernel
def bX7_empty_42 : List (Nat × Instr) := [(42, .aload_n 0), (43, .getfield 13)]
theorem bX7_empty_42_ok : ∀ q ∈ bX7_empty_42, decode mX7_empty.2.1 q.1 = .ok (q.2, aLn q.2) := by decide +kernel
def bX7_empty_49 : List (Nat × Instr) := [(49, .iinc 2 1), (52, .goto (-30))]
theorem bX7_empty_49_ok : ∀ q ∈ bX7_empty_49, decode mX7_empty.2.1 q.1 = .ok (q.2, aLn q.2) := by decide +kernel
def bX7_empty_55 : List (Nat × Instr) := [(55, .bipush (-4))]
theorem bX7_empty_55_ok : ∀ q ∈ bX7_empty_55, decode mX7_empty.2.1 q.1 = .ok (q.2, aLn q.2) := by decide +kernel
theorem dX7_empty_1 : decode mX7_empty.2.1 1 = .ok (.invokestatic 125, 3) := by decide +kernel
theorem dX7_empty_4 : decode mX7_empty.2.1 4 = .ok (.ifCond .ne 5, 3) := by decide +kernel
theorem dX7_empty_8 : decode mX7_empty.2.1 8 = .ok (.ireturn, 1) := by decide +kernel
theorem dX7_empty_17 : decode mX7_empty.2.1 17 = .ok (.invokestatic 145, 3) := by decide +kernel
theorem dX7_empty_25 : decode mX7_empty.2.1 25 = .ok (.if_icmp .gt 30, 3) := by decide +kernel
theorem dX7_empty_37 : decode mX7_empty.2.1 37 = .ok (.ifCond .ge 5, 3) := by decide +kernel
theorem dX7_empty_41 : decode mX7_empty.2.1 41 = .ok (.ireturn, 1) := by decide +kernel
theorem dX7_empty_46 : decode mX7_empty.2.1 46 = .ok (.invokestatic 95, 3) := by decide +kernel
theorem dX7_empty_57 : decode mX7_empty.2.1 57 = .ok (.ireturn, 1) := by decide +kernel
def bX7_lastsOf_0 : List (Nat × Instr) := [(0, .aload_n 0), (1, .getfield 9), (4, .aload_n 0), (5, .getfield 13)]
theorem bX7_lastsOf_0_ok : ∀ q ∈ bX7_lastsOf_0, decode mX7_lastsOf.2.1 q.1 = .ok (q.2, aLn q.2) := by decide +kernel
def bX7_lastsOf_11 : List (Nat × Instr) := [(11, .iconst 0), (12, .istore_n 3)]
theorem bX7_lastsOf_11_ok : ∀ q ∈ bX7_lastsOf_11, decode mX7_lastsOf.2.1 q.1 = .ok (q.2, aLn q.2) := by decide +kernel
def bX7_lastsOf_13 : List (Nat × Instr) := [(13, .iload_n 3), (14, .iconst 5)]
theorem bX7_lastsOf_13_ok : ∀ q ∈ bX7_lastsOf_13, decode mX7_lastsOf.2.1 q.1 = .ok (q.2, aLn q.2) := by decide +kernel
def bX7_lastsOf_18 : List (Nat × Instr) := [(18, .aload_n 0), (19, .getfield 13), (22, .bipush 8), (24, .iload_n 3), (25, .iadd), (26, .iload_n 3), (27, .iload_n 1)]
theorem bX7_lastsOf_18_ok : ∀ q ∈ bX7_lastsOf_18, decode mX7_lastsOf.2.1 q.1 = .ok (q.2, aLn q.2) := by decide +kernel
def bX7_lastsOf_31 : List (Nat × Instr) := [(31, .iload_n 2), (32, .goto 5)]
theorem bX7_lastsOf_31_ok : ∀ q ∈ bX7_lastsOf_31, decode mX7_lastsOf.2.1 q.1 = .ok (q.2, aLn q.2) := by decide +kernel
def bX7_lastsOf_35 : List (Nat × Instr) := [(35, .bipush (-4))]
theorem bX7_lastsOf_35_ok : ∀ q ∈ bX7_lastsOf_35, decode mX7_lastsOf.2.1 q.1 = .ok (q.2, aLn q.2) := by decide +kernel
def bX7_lastsOf_37 : List (Nat × Instr) := [(37, .iastore), (38, .iinc 3 1), (41, .goto (-28))]
theorem bX7_lastsOf_37_ok : ∀ q ∈ bX7_lastsOf_37, decode mX7_lastsOf.2.1 q.1 = .ok (q.2, aLn q.2) := by decide +kernel
def bX7_lastsOf_44 : List (Nat × Instr) := [(44, .aload_n 0), (45, .iload_n 1), (46, .iload_n 2)]
theorem bX7_lastsOf_44_ok : ∀ q ∈ bX7_lastsOf_44, decode mX7_lastsOf.2.1 q.1 = .ok (q.2, aLn q.2) := by decide +kernel
def bX7_lastsOf_50 : List (Nat × Instr) := [(50, .istore_n 3), (51, .iload_n 3)]
theorem bX7_lastsOf_50_ok : ∀ q ∈ bX7_lastsOf_50, decode mX7_lastsOf.2.1 q.1 = .ok (q.2, aLn q.2) := by decide +kernel
def bX7_lastsOf_55 : List (Nat × Instr) := [(55, .bipush 60), (57, .goto 4)]
theorem bX7_lastsOf_55_ok : ∀ q ∈ bX7_lastsOf_55, decode mX7_lastsOf.2.1 q.1 = .ok (q.2, aLn q.2) := by decide +kernel
def bX7_lastsOf_60 : List (Nat × Instr) := [(60, .iload_n 3)]
theorem bX7_lastsOf_60_ok : ∀ q ∈ bX7_lastsOf_60, decode mX7_lastsOf.2.1 q.1 = .ok (q.2, aLn q.2) := by decide +kernel
theorem dX7_lastsOf_8 : decode mX7_lastsOf.2.1 8 = .ok (.invokestatic 145, 3) := by decide +kernel
theorem dX7_lastsOf_15 : decode mX7_lastsOf.2.1 15 = .ok (.if_icmp .ge 29, 3) := by decide +kernel
theorem dX7_lastsOf_28 : decode mX7_lastsOf.2.1 28 = .ok (.if_icmp .ne 7, 3) := by decide +kernel
theorem dX7_lastsOf_47 : decode mX7_lastsOf.2.1 47 = .ok (.invokevirtual 181, 3) := by decide +kernel
theorem dX7_lastsOf_52 : decode mX7_lastsOf.2.1 52 = .ok (.ifCond .ge 8, 3) := by decide +kernel
theorem dX7_lastsOf_61 : decode mX7_lastsOf.2.1 61 = .ok (.ireturn, 1) := by decide +kernel
def bX7_lasts_0 : List (Nat × Instr) := [(0, .iload_n 1)]
theorem bX7_lasts_0_ok : ∀ q ∈ bX7_lasts_0, decode mX7_lasts.2.1 q.1 = .ok (q.2, aLn q.2) := by decide +kernel
def bX7_lasts_7 : List (Nat × Instr) := [(7, .aload_n 0), (8, .iload_n 2)]
theorem bX7_lasts_7_ok : ∀ q ∈ bX7_lasts_7, decode mX7_lasts.2.1 q.1 = .ok (q.2, aLn q.2) := by decide +kernel
def bX7_lasts_15 : List (Nat × Instr) := [(15, .aload_n 0), (16, .iload_n 1), (17, .iload_n 2)]
theorem bX7_lasts_15_ok : ∀ q ∈ bX7_lasts_15, decode mX7_lasts.2.1 q.1 = .ok (q.2, aLn q.2) := by decide +kernel
def bX7_lasts_21 : List (Nat × Instr) := [(21, .goto 4)]
theorem bX7_lasts_21_ok : ∀ q ∈ bX7_lasts_21, decode mX7_lasts.2.1 q.1 = .ok (q.2, aLn q.2) := by decide +kernel
def bX7_lasts_24 : List (Nat × Instr) := [(24, .iconst (-1))]
theorem bX7_lasts_24_ok : ∀ q ∈ bX7_lasts_24, decode mX7_lasts.2.1 q.1 = .ok (q.2, aLn q.2) := by decide +kernel
theorem dX7_lasts_1 : decode mX7_lasts.2.1 1 = .ok (.invokestatic 125, 3) := by decide +kernel
theorem dX7_lasts_4 : decode mX7_lasts.2.1 4 = .ok (.ifCond .eq 20, 3) := by decide +kernel
theorem dX7_lasts_9 : decode mX7_lasts.2.1 9 = .ok (.invokevirtual 128, 3) := by decide +kernel
theorem dX7_lasts_12 : decode mX7_lasts.2.1 12 = .ok (.ifCond .eq 12, 3) := by decide +kernel
theorem dX7_lasts_18 : decode mX7_lasts.2.1 18 = .ok (.invokevirtual 184, 3) := by decide +kernel
theorem dX7_lasts_25 : decode mX7_lasts.2.1 25 = .ok (.ireturn, 1) := by decide +kernel
def bX7_bestCostume_0 : List (Nat × Instr) := [(0, .iload_n 1)]
theorem bX7_bestCostume_0_ok : ∀ q ∈ bX7_bestCostume_0, decode mX7_bestCostume.2.1 q.1 = .ok (q.2, aLn q.2) := by decide +kernel
def bX7_bestCostume_7 : List (Nat × Instr) := [(7, .iload_n 2)]
theorem bX7_bestCostume_7_ok : ∀ q ∈ bX7_bestCostume_7, decode mX7_bestCostume.2.1 q.1 = .ok (q.2, aLn q.2) := by decide +kernel
def bX7_bestCostume_14 : List (Nat × Instr) := [(14, .iload_n 3), (15, .iconst 0), (16, .iconst 1)]
theorem bX7_bestCostume_14_ok : ∀ q ∈ bX7_bestCostume_14, decode mX7_bestCostume.2.1 q.1 = .ok (q.2, aLn q.2) := by decide +kernel
def bX7_bestCostume_23 : List (Nat × Instr) := [(23, .iconst (-1))]
theorem bX7_bestCostume_23_ok : ∀ q ∈ bX7_bestCostume_23, decode mX7_bestCostume.2.1 q.1 = .ok (q.2, aLn q.2) := by decide +kernel
def bX7_bestCostume_25 : List (Nat × Instr) := [(25, .iconst 0), (26, .istore 4), (28, .ldc 187), (30, .istore 5), (32, .iconst 0), (33, .istore 6)]
theorem bX7_bestCostume_25_ok : ∀ q ∈ bX7_bestCostume_25, decode mX7_bestCostume.2.1 q.1 = .ok (q.2, aLn q.2) := by decide +kernel
def bX7_bestCostume_35 : List (Nat × Instr) := [(35, .iload 6), (37, .bipush 10)]
theorem bX7_bestCostume_35_ok : ∀ q ∈ bX7_bestCostume_35, decode mX7_bestCostume.2.1 q.1 = .ok (q.2, aLn q.2) := by decide +kernel
def bX7_bestCostume_42 : List (Nat × Instr) := [(42, .aload_n 0), (43, .getfield 9), (46, .aload_n 0), (47, .getfield 13)]
theorem bX7_bestCostume_42_ok : ∀ q ∈ bX7_bestCostume_42, decode mX7_bestCostume.2.1 q.1 = .ok (q.2, aLn q.2) := by decide +kernel
def bX7_bestCostume_53 : List (Nat × Instr) := [(53, .aload_n 0), (54, .getfield 13), (57, .iconst 3), (58, .iload_n 1), (59, .iadd), (60, .iload 6), (62, .iastore), (63, .aload_n 0), (64, .getfield 13), (67, .iload_n 2)]
theorem bX7_bestCostume_53_ok : ∀ q ∈ bX7_bestCostume_53, decode mX7_bestCostume.2.1 q.1 = .ok (q.2, aLn q.2) := by decide +kernel
def bX7_bestCostume_71 : List (Nat × Instr) := [(71, .aload_n 0), (72, .getfield 13), (75, .iconst 2), (76, .iaload), (77, .iload 5)]
theorem bX7_bestCostume_71_ok : ∀ q ∈ bX7_bestCostume_71, decode mX7_bestCostume.2.1 q.1 = .ok (q.2, aLn q.2) := by decide +kernel
def bX7_bestCostume_82 : List (Nat × Instr) := [(82, .goto 15)]
theorem bX7_bestCostume_82_ok : ∀ q ∈ bX7_bestCostume_82, decode mX7_bestCostume.2.1 q.1 = .ok (q.2, aLn q.2) := by decide +kernel
def bX7_bestCostume_85 : List (Nat × Instr) := [(85, .iload 6), (87, .istore 4), (89, .aload_n 0), (90, .getfield 13), (93, .iconst 2), (94, .iaload), (95, .istore 5)]
theorem bX7_bestCostume_85_ok : ∀ q ∈ bX7_bestCostume_85, decode mX7_bestCostume.2.1 q.1 = .ok (q.2, aLn q.2) := by decide +kernel
def bX7_bestCostume_97 : List (Nat × Instr) := [(97, .iinc 6 1), (100, .goto (-65))]
theorem bX7_bestCostume_97_ok : ∀ q ∈ bX7_bestCostume_97, decode mX7_bestCostume.2.1 q.1 = .ok (q.2, aLn q.2) := by decide +kernel
def bX7_bestCostume_103 : List (Nat × Instr) := [(103, .iload_n 3)]
theorem bX7_bestCostume_103_ok : ∀ q ∈ bX7_bestCostume_103, decode mX7_bestCostume.2.1 q.1 = .ok (q.2, aLn q.2) := by decide +kernel
def bX7_bestCostume_107 : List (Nat × Instr) := [(107, .iload 4), (109, .goto 12)]
theorem bX7_bestCostume_107_ok : ∀ q ∈ bX7_bestCostume_107, decode mX7_bestCostume.2.1 q.1 = .ok (q.2, aLn q.2) := by decide +kernel
def bX7_bestCostume_112 : List (Nat × Instr) := [(112, .iload 5), (114, .aload_n 0), (115, .getfield 9), (118, .iconst 2), (119, .iaload), (120, .isub)]
theorem bX7_bestCostume_112_ok : ∀ q ∈ bX7_bestCostume_112, decode mX7_bestCostume.2.1 q.1 = .ok (q.2, aLn q.2) := by decide +kernel
theorem dX7_bestCostume_1 : decode mX7_bestCostume.2.1 1 = .ok (.invokestatic 125, 3) := by decide +kernel
theorem dX7_bestCostume_4 : decode mX7_bestCostume.2.1 4 = .ok (.ifCond .eq 19, 3) := by decide +kernel
theorem dX7_bestCostume_8 : decode mX7_bestCostume.2.1 8 = .ok (.invokestatic 170, 3) := by decide +kernel
theorem dX7_bestCostume_11 : decode mX7_bestCostume.2.1 11 = .ok (.ifCond .eq 12, 3) := by decide +kernel
theorem dX7_bestCostume_17 : decode mX7_bestCostume.2.1 17 = .ok (.invokestatic 49, 3) := by decide +kernel
theorem dX7_bestCostume_20 : decode mX7_bestCostume.2.1 20 = .ok (.ifCond .ne 5, 3) := by decide +kernel
theorem dX7_bestCostume_24 : decode mX7_bestCostume.2.1 24 = .ok (.ireturn, 1) := by decide +kernel
theorem dX7_bestCostume_39 : decode mX7_bestCostume.2.1 39 = .ok (.if_icmp .ge 64, 3) := by decide +kernel
theorem dX7_bestCostume_50 : decode mX7_bestCostume.2.1 50 = .ok (.invokestatic 145, 3) := by decide +kernel
theorem dX7_bestCostume_68 : decode mX7_bestCostume.2.1 68 = .ok (.invokestatic 135, 3) := by decide +kernel
theorem dX7_bestCostume_79 : decode mX7_bestCostume.2.1 79 = .ok (.if_icmp .lt 6, 3) := by decide +kernel
theorem dX7_bestCostume_104 : decode mX7_bestCostume.2.1 104 = .ok (.ifCond .ne 8, 3) := by decide +kernel
theorem dX7_bestCostume_121 : decode mX7_bestCostume.2.1 121 = .ok (.ireturn, 1) := by decide +kernel
def bX7_mostOf_0 : List (Nat × Instr) := [(0, .aload_n 0), (1, .getfield 28), (4, .iload_n 1), (5, .bipush 8), (7, .ishl), (8, .iload_n 2), (9, .ior), (10, .iaload)]
theorem bX7_mostOf_0_ok : ∀ q ∈ bX7_mostOf_0, decode mX7_mostOf.2.1 q.1 = .ok (q.2, aLn q.2) := by decide +kernel
theorem dX7_mostOf_11 : decode mX7_mostOf.2.1 11 = .ok (.ireturn, 1) := by decide +kernel
def bX7_fillsCast_0 : List (Nat × Instr) := [(0, .iconst 0), (1, .istore_n 1)]
theorem bX7_fillsCast_0_ok : ∀ q ∈ bX7_fillsCast_0, decode mX7_fillsCast.2.1 q.1 = .ok (q.2, aLn q.2) := by decide +kernel
def bX7_fillsCast_2 : List (Nat × Instr) := [(2, .iload_n 1), (3, .iconst 5)]
theorem bX7_fillsCast_2_ok : ∀ q ∈ bX7_fillsCast_2, decode mX7_fillsCast.2.1 q.1 = .ok (q.2, aLn q.2) := by decide +kernel
def bX7_fillsCast_7 : List (Nat × Instr) := [(7, .iconst 0), (8, .istore_n 2)]
theorem bX7_fillsCast_7_ok : ∀ q ∈ bX7_fillsCast_7, decode mX7_fillsCast.2.1 q.1 = .ok (q.2, aLn q.2) := by decide +kernel
def bX7_fillsCast_9 : List (Nat × Instr) := [(9, .iload_n 2), (10, .aload_n 0), (11, .getfield 9), (14, .iconst 0), (15, .iaload)]
theorem bX7_fillsCast_9_ok : ∀ q ∈ bX7_fillsCast_9, decode mX7_fillsCast.2.1 q.1 = .ok (q.2, aLn q.2) := by decide +kernel
def bX7_fillsCast_19 : List (Nat × Instr) := [(19, .aload_n 0), (20, .getfield 25), (23, .bipush 8), (25, .iload_n 1), (26, .imul), (27, .iload_n 2), (28, .iadd), (29, .aload_n 0), (30, .iload_n 1), (31, .iload_n 2)]
theorem bX7_fillsCast_19_ok : ∀ q ∈ bX7_fillsCast_19, decode mX7_fillsCast.2.1 q.1 = .ok (q.2, aLn q.2) := by decide +kernel
def bX7_fillsCast_35 : List (Nat × Instr) := [(35, .iastore), (36, .iinc 2 1), (39, .goto (-30))]
theorem bX7_fillsCast_35_ok : ∀ q ∈ bX7_fillsCast_35, decode mX7_fillsCast.2.1 q.1 = .ok (q.2, aLn q.2) := by decide +kernel
def bX7_fillsCast_42 : List (Nat × Instr) := [(42, .iinc 1 1), (45, .goto (-43))]
theorem bX7_fillsCast_42_ok : ∀ q ∈ bX7_fillsCast_42, decode mX7_fillsCast.2.1 q.1 = .ok (q.2, aLn q.2) := by decide +kernel
def bX7_fillsCast_48 : List (Nat × Instr) := [(48, .iconst 5), (49, .istore_n 1)]
theorem bX7_fillsCast_48_ok : ∀ q ∈ bX7_fillsCast_48, decode mX7_fillsCast.2.1 q.1 = .ok (q.2, aLn q.2) := by decide +kernel
def bX7_fillsCast_50 : List (Nat × Instr) := [(50, .iload_n 1)]
theorem bX7_fillsCast_50_ok : ∀ q ∈ bX7_fillsCast_50, decode mX7_fillsCast.2.1 q.1 = .ok (q.2, aLn q.2) := by decide +kernel
def bX7_fillsCast_54 : List (Nat × Instr) := [(54, .iconst 0), (55, .istore_n 2)]
theorem bX7_fillsCast_54_ok : ∀ q ∈ bX7_fillsCast_54, decode mX7_fillsCast.2.1 q.1 = .ok (q.2, aLn q.2) := by decide +kernel
def bX7_fillsCast_56 : List (Nat × Instr) := [(56, .iload_n 2), (57, .iconst 1), (58, .aload_n 0), (59, .getfield 9), (62, .iconst 0), (63, .iaload), (64, .ishl)]
theorem bX7_fillsCast_56_ok : ∀ q ∈ bX7_fillsCast_56, decode mX7_fillsCast.2.1 q.1 = .ok (q.2, aLn q.2) := by decide +kernel
def bX7_fillsCast_68 : List (Nat × Instr) := [(68, .iload_n 1), (69, .iconst 5)]
theorem bX7_fillsCast_68_ok : ∀ q ∈ bX7_fillsCast_68, decode mX7_fillsCast.2.1 q.1 = .ok (q.2, aLn q.2) := by decide +kernel
def bX7_fillsCast_73 : List (Nat × Instr) := [(73, .iconst 0), (74, .goto 11)]
theorem bX7_fillsCast_73_ok : ∀ q ∈ bX7_fillsCast_73, decode mX7_fillsCast.2.1 q.1 = .ok (q.2, aLn q.2) := by decide +kernel
def bX7_fillsCast_77 : List (Nat × Instr) := [(77, .aload_n 0), (78, .iload_n 1), (79, .iconst 1), (80, .iadd), (81, .iload_n 2)]
theorem bX7_fillsCast_77_ok : ∀ q ∈ bX7_fillsCast_77, decode mX7_fillsCast.2.1 q.1 = .ok (q.2, aLn q.2) := by decide +kernel
def bX7_fillsCast_85 : List (Nat × Instr) := [(85, .istore_n 3), (86, .iconst 0), (87, .istore 4)]
theorem bX7_fillsCast_85_ok : ∀ q ∈ bX7_fillsCast_85, decode mX7_fillsCast.2.1 q.1 = .ok (q.2, aLn q.2) := by decide +kernel
def bX7_fillsCast_89 : List (Nat × Instr) := [(89, .iload 4), (91, .aload_n 0), (92, .getfield 9), (95, .iconst 0), (96, .iaload)]
theorem bX7_fillsCast_89_ok : ∀ q ∈ bX7_fillsCast_89, decode mX7_fillsCast.2.1 q.1 = .ok (q.2, aLn q.2) := by decide +kernel
def bX7_fillsCast_100 : List (Nat × Instr) := [(100, .iload_n 1), (101, .iconst 5)]
theorem bX7_fillsCast_100_ok : ∀ q ∈ bX7_fillsCast_100, decode mX7_fillsCast.2.1 q.1 = .ok (q.2, aLn q.2) := by decide +kernel
def bX7_fillsCast_105 : List (Nat × Instr) := [(105, .iload_n 2), (106, .iload 4)]
theorem bX7_fillsCast_105_ok : ∀ q ∈ bX7_fillsCast_105, decode mX7_fillsCast.2.1 q.1 = .ok (q.2, aLn q.2) := by decide +kernel
def bX7_fillsCast_114 : List (Nat × Instr) := [(114, .aload_n 0), (115, .getfield 25), (118, .bipush 8), (120, .iload_n 1), (121, .imul), (122, .iload 4), (124, .iadd), (125, .iaload), (126, .aload_n 0), (127, .iload_n 1), (128, .iconst 1), (129, .iadd), (130, .iload_n 2), (131, .iconst 1), (132, .iload 4), (134, .ishl), (135, .ior)]
theorem bX7_fillsCast_114_ok : ∀ q ∈ bX7_fillsCast_114, decode mX7_fillsCast.2.1 q.1 = .ok (q.2, aLn q.2) := by decide +kernel
def bX7_fillsCast_139 : List (Nat × Instr) := [(139, .iadd), (140, .iload_n 3)]
theorem bX7_fillsCast_139_ok : ∀ q ∈ bX7_fillsCast_139, decode mX7_fillsCast.2.1 q.1 = .ok (q.2, aLn q.2) := by decide +kernel
def bX7_fillsCast_144 : List (Nat × Instr) := [(144, .aload_n 0), (145, .getfield 25), (148, .bipush 8), (150, .iload_n 1), (151, .imul), (152, .iload 4), (154, .iadd), (155, .iaload), (156, .aload_n 0), (157, .iload_n 1), (158, .iconst 1), (159, .iadd), (160, .iload_n 2), (161, .iconst 1), (162, .iload 4), (164, .ishl), (165, .ior)]
theorem bX7_fillsCast_144_ok : ∀ q ∈ bX7_fillsCast_144, decode mX7_fillsCast.2.1 q.1 = .ok (q.2, aLn q.2) := by decide +kernel
def bX7_fillsCast_169 : List (Nat × Instr) := [(169, .iadd), (170, .istore_n 3)]
theorem bX7_fillsCast_169_ok : ∀ q ∈ bX7_fillsCast_169, decode mX7_fillsCast.2.1 q.1 = .ok (q.2, aLn q.2) := by decide +kernel
def bX7_fillsCast_171 : List (Nat × Instr) := [(171, .iinc 4 1), (174, .goto (-85))]
theorem bX7_fillsCast_171_ok : ∀ q ∈ bX7_fillsCast_171, decode mX7_fillsCast.2.1 q.1 = .ok (q.2, aLn q.2) := by decide +kernel
def bX7_fillsCast_177 : List (Nat × Instr) := [(177, .aload_n 0), (178, .getfield 28), (181, .iload_n 1), (182, .bipush 8), (184, .ishl), (185, .iload_n 2), (186, .ior), (187, .iload_n 3), (188, .iastore), (189, .iinc 2 1), (192, .goto (-136))]
theorem bX7_fillsCast_177_ok : ∀ q ∈ bX7_fillsCast_177, decode mX7_fillsCast.2.1 q.1 = .ok (q.2, aLn q.2) := by decide +kernel
def bX7_fillsCast_195 : List (Nat × Instr) := [(195, .iinc 1 (-1)), (198, .goto (-148))]
theorem bX7_fillsCast_195_ok : ∀ q ∈ bX7_fillsCast_195, decode mX7_fillsCast.2.1 q.1 = .ok (q.2, aLn q.2) := by decide +kernel
theorem dX7_fillsCast_4 : decode mX7_fillsCast.2.1 4 = .ok (.if_icmp .ge 44, 3) := by decide +kernel
theorem dX7_fillsCast_16 : decode mX7_fillsCast.2.1 16 = .ok (.if_icmp .ge 26, 3) := by decide +kernel
theorem dX7_fillsCast_32 : decode mX7_fillsCast.2.1 32 = .ok (.invokevirtual 184, 3) := by decide +kernel
theorem dX7_fillsCast_51 : decode mX7_fillsCast.2.1 51 = .ok (.ifCond .lt 150, 3) := by decide +kernel
theorem dX7_fillsCast_65 : decode mX7_fillsCast.2.1 65 = .ok (.if_icmp .ge 130, 3) := by decide +kernel
theorem dX7_fillsCast_70 : decode mX7_fillsCast.2.1 70 = .ok (.if_icmp .ne 7, 3) := by decide +kernel
theorem dX7_fillsCast_82 : decode mX7_fillsCast.2.1 82 = .ok (.invokevirtual 188, 3) := by decide +kernel
theorem dX7_fillsCast_97 : decode mX7_fillsCast.2.1 97 = .ok (.if_icmp .ge 80, 3) := by decide +kernel
theorem dX7_fillsCast_102 : decode mX7_fillsCast.2.1 102 = .ok (.if_icmp .ge 75, 3) := by decide +kernel
theorem dX7_fillsCast_108 : decode mX7_fillsCast.2.1 108 = .ok (.invokestatic 152, 3) := by decide +kernel
theorem dX7_fillsCast_111 : decode mX7_fillsCast.2.1 111 = .ok (.ifCond .ne 60, 3) := by decide +kernel
theorem dX7_fillsCast_136 : decode mX7_fillsCast.2.1 136 = .ok (.invokevirtual 188, 3) := by decide +kernel
theorem dX7_fillsCast_141 : decode mX7_fillsCast.2.1 141 = .ok (.if_icmp .le 30, 3) := by decide +kernel
theorem dX7_fillsCast_166 : decode mX7_fillsCast.2.1 166 = .ok (.invokevirtual 188, 3) := by decide +kernel
theorem dX7_fillsCast_201 : decode mX7_fillsCast.2.1 201 = .ok (.return_, 1) := by decide +kernel
def bX7_holderBy_0 : List (Nat × Instr) := [(0, .iconst 0), (1, .istore_n 3)]
theorem bX7_holderBy_0_ok : ∀ q ∈ bX7_holderBy_0, decode mX7_holderBy.2.1 q.1 = .ok (q.2, aLn q.2) := by decide +kernel
def bX7_holderBy_2 : List (Nat × Instr) := [(2, .iload_n 3), (3, .aload_n 0), (4, .getfield 9), (7, .iconst 0), (8, .iaload)]
theorem bX7_holderBy_2_ok : ∀ q ∈ bX7_holderBy_2, decode mX7_holderBy.2.1 q.1 = .ok (q.2, aLn q.2) := by decide +kernel
def bX7_holderBy_12 : List (Nat × Instr) := [(12, .iload_n 2), (13, .iload_n 3)]
theorem bX7_holderBy_12_ok : ∀ q ∈ bX7_holderBy_12, decode mX7_holderBy.2.1 q.1 = .ok (q.2, aLn q.2) := by decide +kernel
def bX7_holderBy_20 : List (Nat × Instr) := [(20, .aload_n 0), (21, .getfield 25), (24, .bipush 8), (26, .iload_n 1), (27, .imul), (28, .iload_n 3), (29, .iadd), (30, .iaload), (31, .aload_n 0), (32, .iload_n 1), (33, .iconst 1), (34, .iadd), (35, .iload_n 2), (36, .iconst 1), (37, .iload_n 3), (38, .ishl), (39, .ior)]
theorem bX7_holderBy_20_ok : ∀ q ∈ bX7_holderBy_20, decode mX7_holderBy.2.1 q.1 = .ok (q.2, aLn q.2) := by decide +kernel
def bX7_holderBy_43 : List (Nat × Instr) := [(43, .iadd), (44, .aload_n 0), (45, .iload_n 1), (46, .iload_n 2)]
theorem bX7_holderBy_43_ok : ∀ q ∈ bX7_holderBy_43, decode mX7_holderBy.2.1 q.1 = .ok (q.2, aLn q.2) := by decide +kernel
def bX7_holderBy_53 : List (Nat × Instr) := [(53, .iload_n 3)]
theorem bX7_holderBy_53_ok : ∀ q ∈ bX7_holderBy_53, decode mX7_holderBy.2.1 q.1 = .ok (q.2, aLn q.2) := by decide +kernel
def bX7_holderBy_55 : List (Nat × Instr) := [(55, .iinc 3 1), (58, .goto (-56))]
theorem bX7_holderBy_55_ok : ∀ q ∈ bX7_holderBy_55, decode mX7_holderBy.2.1 q.1 = .ok (q.2, aLn q.2) := by decide +kernel
def bX7_holderBy_61 : List (Nat × Instr) := [(61, .bipush (-4))]
theorem bX7_holderBy_61_ok : ∀ q ∈ bX7_holderBy_61, decode mX7_holderBy.2.1 q.1 = .ok (q.2, aLn q.2) := by decide +kernel
theorem dX7_holderBy_9 : decode mX7_holderBy.2.1 9 = .ok (.if_icmp .ge 52, 3) := by decide +kernel
theorem dX7_holderBy_14 : decode mX7_holderBy.2.1 14 = .ok (.invokestatic 152, 3) := by decide +kernel
theorem dX7_holderBy_17 : decode mX7_holderBy.2.1 17 = .ok (.ifCond .ne 38, 3) := by decide +kernel
theorem dX7_holderBy_40 : decode mX7_holderBy.2.1 40 = .ok (.invokevirtual 188, 3) := by decide +kernel
theorem dX7_holderBy_47 : decode mX7_holderBy.2.1 47 = .ok (.invokevirtual 188, 3) := by decide +kernel
theorem dX7_holderBy_50 : decode mX7_holderBy.2.1 50 = .ok (.if_icmp .ne 5, 3) := by decide +kernel
theorem dX7_holderBy_54 : decode mX7_holderBy.2.1 54 = .ok (.ireturn, 1) := by decide +kernel
theorem dX7_holderBy_63 : decode mX7_holderBy.2.1 63 = .ok (.ireturn, 1) := by decide +kernel
def bX7_casts_0 : List (Nat × Instr) := [(0, .iload_n 1), (1, .iconst (-1))]
theorem bX7_casts_0_ok : ∀ q ∈ bX7_casts_0, decode mX7_casts.2.1 q.1 = .ok (q.2, aLn q.2) := by decide +kernel
def bX7_casts_5 : List (Nat × Instr) := [(5, .iload_n 1)]
theorem bX7_casts_5_ok : ∀ q ∈ bX7_casts_5, decode mX7_casts.2.1 q.1 = .ok (q.2, aLn q.2) := by decide +kernel
def bX7_casts_12 : List (Nat × Instr) := [(12, .iconst (-1))]
theorem bX7_casts_12_ok : ∀ q ∈ bX7_casts_12, decode mX7_casts.2.1 q.1 = .ok (q.2, aLn q.2) := by decide +kernel
def bX7_casts_14 : List (Nat × Instr) := [(14, .aload_n 0)]
theorem bX7_casts_14_ok : ∀ q ∈ bX7_casts_14, decode mX7_casts.2.1 q.1 = .ok (q.2, aLn q.2) := by decide +kernel
def bX7_casts_18 : List (Nat × Instr) := [(18, .iload_n 1)]
theorem bX7_casts_18_ok : ∀ q ∈ bX7_casts_18, decode mX7_casts.2.1 q.1 = .ok (q.2, aLn q.2) := by decide +kernel
def bX7_casts_22 : List (Nat × Instr) := [(22, .aload_n 0), (23, .getfield 28), (26, .iconst 0), (27, .iaload)]
theorem bX7_casts_22_ok : ∀ q ∈ bX7_casts_22, decode mX7_casts.2.1 q.1 = .ok (q.2, aLn q.2) := by decide +kernel
def bX7_casts_29 : List (Nat × Instr) := [(29, .iconst 0), (30, .istore_n 2), (31, .iconst 0), (32, .istore_n 3)]
theorem bX7_casts_29_ok : ∀ q ∈ bX7_casts_29, decode mX7_casts.2.1 q.1 = .ok (q.2, aLn q.2) := by decide +kernel
def bX7_casts_33 : List (Nat × Instr) := [(33, .iload_n 3), (34, .iload_n 1)]
theorem bX7_casts_33_ok : ∀ q ∈ bX7_casts_33, decode mX7_casts.2.1 q.1 = .ok (q.2, aLn q.2) := by decide +kernel
def bX7_casts_38 : List (Nat × Instr) := [(38, .aload_n 0), (39, .iload_n 3), (40, .iload_n 2)]
theorem bX7_casts_38_ok : ∀ q ∈ bX7_casts_38, decode mX7_casts.2.1 q.1 = .ok (q.2, aLn q.2) := by decide +kernel
def bX7_casts_44 : List (Nat × Instr) := [(44, .istore 4), (46, .iload_n 2), (47, .iload 4)]
theorem bX7_casts_44_ok : ∀ q ∈ bX7_casts_44, decode mX7_casts.2.1 q.1 = .ok (q.2, aLn q.2) := by decide +kernel
def bX7_casts_52 : List (Nat × Instr) := [(52, .iconst 0), (53, .goto 7)]
theorem bX7_casts_52_ok : ∀ q ∈ bX7_casts_52, decode mX7_casts.2.1 q.1 = .ok (q.2, aLn q.2) := by decide +kernel
def bX7_casts_56 : List (Nat × Instr) := [(56, .iconst 1), (57, .iload 4), (59, .ishl)]
theorem bX7_casts_56_ok : ∀ q ∈ bX7_casts_56, decode mX7_casts.2.1 q.1 = .ok (q.2, aLn q.2) := by decide +kernel
def bX7_casts_60 : List (Nat × Instr) := [(60, .ior), (61, .istore_n 2), (62, .iinc 3 1), (65, .goto (-32))]
theorem bX7_casts_60_ok : ∀ q ∈ bX7_casts_60, decode mX7_casts.2.1 q.1 = .ok (q.2, aLn q.2) := by decide +kernel
def bX7_casts_68 : List (Nat × Instr) := [(68, .aload_n 0), (69, .iload_n 1), (70, .iload_n 2)]
theorem bX7_casts_68_ok : ∀ q ∈ bX7_casts_68, decode mX7_casts.2.1 q.1 = .ok (q.2, aLn q.2) := by decide +kernel
theorem dX7_casts_2 : decode mX7_casts.2.1 2 = .ok (.if_icmp .eq 12, 3) := by decide +kernel
theorem dX7_casts_6 : decode mX7_casts.2.1 6 = .ok (.invokestatic 125, 3) := by decide +kernel
theorem dX7_casts_9 : decode mX7_casts.2.1 9 = .ok (.ifCond .ne 5, 3) := by decide +kernel
theorem dX7_casts_13 : decode mX7_casts.2.1 13 = .ok (.ireturn, 1) := by decide +kernel
theorem dX7_casts_15 : decode mX7_casts.2.1 15 = .ok (.invokevirtual 191, 3) := by decide +kernel
theorem dX7_casts_19 : decode mX7_casts.2.1 19 = .ok (.ifCond .ge 10, 3) := by decide +kernel
theorem dX7_casts_28 : decode mX7_casts.2.1 28 = .ok (.ireturn, 1) := by decide +kernel
theorem dX7_casts_35 : decode mX7_casts.2.1 35 = .ok (.if_icmp .ge 33, 3) := by decide +kernel
theorem dX7_casts_41 : decode mX7_casts.2.1 41 = .ok (.invokevirtual 194, 3) := by decide +kernel
theorem dX7_casts_49 : decode mX7_casts.2.1 49 = .ok (.ifCond .ge 7, 3) := by decide +kernel
theorem dX7_casts_71 : decode mX7_casts.2.1 71 = .ok (.invokevirtual 194, 3) := by decide +kernel
theorem dX7_casts_74 : decode mX7_casts.2.1 74 = .ok (.ireturn, 1) := by decide +kernel
def bX7_send_0 : List (Nat × Instr) := [(0, .iload_n 1)]
theorem bX7_send_0_ok : ∀ q ∈ bX7_send_0, decode mX7_send.2.1 q.1 = .ok (q.2, aLn q.2) := by decide +kernel
def bX7_send_7 : List (Nat × Instr) := [(7, .iconst (-1))]
theorem bX7_send_7_ok : ∀ q ∈ bX7_send_7, decode mX7_send.2.1 q.1 = .ok (q.2, aLn q.2) := by decide +kernel
def bX7_send_9 : List (Nat × Instr) := [(9, .aload_n 0), (10, .iload_n 1)]
theorem bX7_send_9_ok : ∀ q ∈ bX7_send_9, decode mX7_send.2.1 q.1 = .ok (q.2, aLn q.2) := by decide +kernel
def bX7_send_14 : List (Nat × Instr) := [(14, .aload_n 0), (15, .getfield 13), (18, .iconst 2), (19, .iaload), (20, .istore_n 2), (21, .bipush (-4)), (23, .istore_n 3), (24, .iconst 0), (25, .istore 4)]
theorem bX7_send_14_ok : ∀ q ∈ bX7_send_14, decode mX7_send.2.1 q.1 = .ok (q.2, aLn q.2) := by decide +kernel
def bX7_send_27 : List (Nat × Instr) := [(27, .iload 4), (29, .aload_n 0), (30, .getfield 9), (33, .iconst 0), (34, .iaload)]
theorem bX7_send_27_ok : ∀ q ∈ bX7_send_27, decode mX7_send.2.1 q.1 = .ok (q.2, aLn q.2) := by decide +kernel
def bX7_send_38 : List (Nat × Instr) := [(38, .aload_n 0), (39, .getfield 9), (42, .iload 4)]
theorem bX7_send_38_ok : ∀ q ∈ bX7_send_38, decode mX7_send.2.1 q.1 = .ok (q.2, aLn q.2) := by decide +kernel
def bX7_send_47 : List (Nat × Instr) := [(47, .istore 5), (49, .iload 5)]
theorem bX7_send_47_ok : ∀ q ∈ bX7_send_47, decode mX7_send.2.1 q.1 = .ok (q.2, aLn q.2) := by decide +kernel
def bX7_send_54 : List (Nat × Instr) := [(54, .goto 57)]
theorem bX7_send_54_ok : ∀ q ∈ bX7_send_54, decode mX7_send.2.1 q.1 = .ok (q.2, aLn q.2) := by decide +kernel
def bX7_send_57 : List (Nat × Instr) := [(57, .aload_n 0), (58, .getfield 9), (61, .aload_n 0), (62, .getfield 13)]
theorem bX7_send_57_ok : ∀ q ∈ bX7_send_57, decode mX7_send.2.1 q.1 = .ok (q.2, aLn q.2) := by decide +kernel
def bX7_send_68 : List (Nat × Instr) := [(68, .aload_n 0), (69, .getfield 13), (72, .bipush 8), (74, .iload 5), (76, .iadd), (77, .bipush (-4)), (79, .iastore), (80, .aload_n 0), (81, .getfield 13), (84, .iload_n 1)]
theorem bX7_send_68_ok : ∀ q ∈ bX7_send_68, decode mX7_send.2.1 q.1 = .ok (q.2, aLn q.2) := by decide +kernel
def bX7_send_88 : List (Nat × Instr) := [(88, .aload_n 0), (89, .getfield 13), (92, .iconst 2), (93, .iaload), (94, .iload_n 2)]
theorem bX7_send_88_ok : ∀ q ∈ bX7_send_88, decode mX7_send.2.1 q.1 = .ok (q.2, aLn q.2) := by decide +kernel
def bX7_send_98 : List (Nat × Instr) := [(98, .goto 13)]
theorem bX7_send_98_ok : ∀ q ∈ bX7_send_98, decode mX7_send.2.1 q.1 = .ok (q.2, aLn q.2) := by decide +kernel
def bX7_send_101 : List (Nat × Instr) := [(101, .iload 4), (103, .istore_n 3), (104, .aload_n 0), (105, .getfield 13), (108, .iconst 2), (109, .iaload), (110, .istore_n 2)]
theorem bX7_send_101_ok : ∀ q ∈ bX7_send_101, decode mX7_send.2.1 q.1 = .ok (q.2, aLn q.2) := by decide +kernel
def bX7_send_111 : List (Nat × Instr) := [(111, .iinc 4 1), (114, .goto (-87))]
theorem bX7_send_111_ok : ∀ q ∈ bX7_send_111, decode mX7_send.2.1 q.1 = .ok (q.2, aLn q.2) := by decide +kernel
def bX7_send_117 : List (Nat × Instr) := [(117, .iload_n 3)]
theorem bX7_send_117_ok : ∀ q ∈ bX7_send_117, decode mX7_send.2.1 q.1 = .ok (q.2, aLn q.2) := by decide +kernel
theorem dX7_send_1 : decode mX7_send.2.1 1 = .ok (.invokestatic 170, 3) := by decide +kernel
theorem dX7_send_4 : decode mX7_send.2.1 4 = .ok (.ifCond .ne 5, 3) := by decide +kernel
theorem dX7_send_8 : decode mX7_send.2.1 8 = .ok (.ireturn, 1) := by decide +kernel
theorem dX7_send_11 : decode mX7_send.2.1 11 = .ok (.invokevirtual 173, 3) := by decide +kernel
theorem dX7_send_35 : decode mX7_send.2.1 35 = .ok (.if_icmp .ge 82, 3) := by decide +kernel
theorem dX7_send_44 : decode mX7_send.2.1 44 = .ok (.invokestatic 64, 3) := by decide +kernel
theorem dX7_send_51 : decode mX7_send.2.1 51 = .ok (.ifCond .ge 6, 3) := by decide +kernel
theorem dX7_send_65 : decode mX7_send.2.1 65 = .ok (.invokestatic 145, 3) := by decide +kernel
theorem dX7_send_85 : decode mX7_send.2.1 85 = .ok (.invokestatic 135, 3) := by decide +kernel
theorem dX7_send_95 : decode mX7_send.2.1 95 = .ok (.if_icmp .lt 6, 3) := by decide +kernel
theorem dX7_send_118 : decode mX7_send.2.1 118 = .ok (.ireturn, 1) := by decide +kernel
def bX7_change_0 : List (Nat × Instr) := [(0, .iload_n 1)]
theorem bX7_change_0_ok : ∀ q ∈ bX7_change_0, decode mX7_change.2.1 q.1 = .ok (q.2, aLn q.2) := by decide +kernel
def bX7_change_7 : List (Nat × Instr) := [(7, .iconst (-1))]
theorem bX7_change_7_ok : ∀ q ∈ bX7_change_7, decode mX7_change.2.1 q.1 = .ok (q.2, aLn q.2) := by decide +kernel
def bX7_change_9 : List (Nat × Instr) := [(9, .aload_n 0), (10, .iload_n 1)]
theorem bX7_change_9_ok : ∀ q ∈ bX7_change_9, decode mX7_change.2.1 q.1 = .ok (q.2, aLn q.2) := by decide +kernel
def bX7_change_14 : List (Nat × Instr) := [(14, .aload_n 0), (15, .getfield 13), (18, .iconst 2), (19, .iaload), (20, .istore_n 2), (21, .bipush (-4)), (23, .istore_n 3), (24, .iconst 0), (25, .istore 4)]
theorem bX7_change_14_ok : ∀ q ∈ bX7_change_14, decode mX7_change.2.1 q.1 = .ok (q.2, aLn q.2) := by decide +kernel
def bX7_change_27 : List (Nat × Instr) := [(27, .iload 4), (29, .iconst 5)]
theorem bX7_change_27_ok : ∀ q ∈ bX7_change_27, decode mX7_change.2.1 q.1 = .ok (q.2, aLn q.2) := by decide +kernel
def bX7_change_33 : List (Nat × Instr) := [(33, .iload 4), (35, .iconst 1), (36, .iadd), (37, .istore 5)]
theorem bX7_change_33_ok : ∀ q ∈ bX7_change_33, decode mX7_change.2.1 q.1 = .ok (q.2, aLn q.2) := by decide +kernel
def bX7_change_39 : List (Nat × Instr) := [(39, .iload 5), (41, .iconst 5)]
theorem bX7_change_39_ok : ∀ q ∈ bX7_change_39, decode mX7_change.2.1 q.1 = .ok (q.2, aLn q.2) := by decide +kernel
def bX7_change_45 : List (Nat × Instr) := [(45, .aload_n 0), (46, .getfield 9), (49, .aload_n 0), (50, .getfield 13)]
theorem bX7_change_45_ok : ∀ q ∈ bX7_change_45, decode mX7_change.2.1 q.1 = .ok (q.2, aLn q.2) := by decide +kernel
def bX7_change_56 : List (Nat × Instr) := [(56, .aload_n 0), (57, .getfield 13), (60, .iconst 3), (61, .iload 4), (63, .iadd), (64, .aload_n 0), (65, .getfield 9), (68, .iconst 3), (69, .iload 5), (71, .iadd), (72, .iaload), (73, .iastore), (74, .aload_n 0), (75, .getfield 13), (78, .iconst 3), (79, .iload 5), (81, .iadd), (82, .aload_n 0), (83, .getfield 9), (86, .iconst 3), (87, .iload 4), (89, .iadd), (90, .iaload), (91, .iastore), (92, .aload_n 0), (93, .getfield 13), (96, .iload_n 1)]
theorem bX7_change_56_ok : ∀ q ∈ bX7_change_56, decode mX7_change.2.1 q.1 = .ok (q.2, aLn q.2) := by decide +kernel
def bX7_change_100 : List (Nat × Instr) := [(100, .aload_n 0), (101, .getfield 13), (104, .iconst 2), (105, .iaload), (106, .iload_n 2)]
theorem bX7_change_100_ok : ∀ q ∈ bX7_change_100, decode mX7_change.2.1 q.1 = .ok (q.2, aLn q.2) := by decide +kernel
def bX7_change_110 : List (Nat × Instr) := [(110, .goto 19)]
theorem bX7_change_110_ok : ∀ q ∈ bX7_change_110, decode mX7_change.2.1 q.1 = .ok (q.2, aLn q.2) := by decide +kernel
def bX7_change_113 : List (Nat × Instr) := [(113, .bipush 10), (115, .iload 4), (117, .imul), (118, .iload 5), (120, .iadd), (121, .istore_n 3), (122, .aload_n 0), (123, .getfield 13), (126, .iconst 2), (127, .iaload), (128, .istore_n 2)]
theorem bX7_change_113_ok : ∀ q ∈ bX7_change_113, decode mX7_change.2.1 q.1 = .ok (q.2, aLn q.2) := by decide +kernel
def bX7_change_129 : List (Nat × Instr) := [(129, .iinc 5 1), (132, .goto (-93))]
theorem bX7_change_129_ok : ∀ q ∈ bX7_change_129, decode mX7_change.2.1 q.1 = .ok (q.2, aLn q.2) := by decide +kernel
def bX7_change_135 : List (Nat × Instr) := [(135, .iinc 4 1), (138, .goto (-111))]
theorem bX7_change_135_ok : ∀ q ∈ bX7_change_135, decode mX7_change.2.1 q.1 = .ok (q.2, aLn q.2) := by decide +kernel
def bX7_change_141 : List (Nat × Instr) := [(141, .iload_n 3)]
theorem bX7_change_141_ok : ∀ q ∈ bX7_change_141, decode mX7_change.2.1 q.1 = .ok (q.2, aLn q.2) := by decide +kernel
theorem dX7_change_1 : decode mX7_change.2.1 1 = .ok (.invokestatic 170, 3) := by decide +kernel
theorem dX7_change_4 : decode mX7_change.2.1 4 = .ok (.ifCond .ne 5, 3) := by decide +kernel
theorem dX7_change_8 : decode mX7_change.2.1 8 = .ok (.ireturn, 1) := by decide +kernel
theorem dX7_change_11 : decode mX7_change.2.1 11 = .ok (.invokevirtual 173, 3) := by decide +kernel
theorem dX7_change_30 : decode mX7_change.2.1 30 = .ok (.if_icmp .ge 111, 3) := by decide +kernel
theorem dX7_change_42 : decode mX7_change.2.1 42 = .ok (.if_icmp .ge 93, 3) := by decide +kernel
theorem dX7_change_53 : decode mX7_change.2.1 53 = .ok (.invokestatic 145, 3) := by decide +kernel
theorem dX7_change_97 : decode mX7_change.2.1 97 = .ok (.invokestatic 135, 3) := by decide +kernel
theorem dX7_change_107 : decode mX7_change.2.1 107 = .ok (.if_icmp .lt 6, 3) := by decide +kernel
theorem dX7_change_142 : decode mX7_change.2.1 142 = .ok (.ireturn, 1) := by decide +kernel
def bX7_plainOnes_0 : List (Nat × Instr) := [(0, .iconst 0), (1, .istore_n 1), (2, .iconst 0), (3, .istore_n 2)]
theorem bX7_plainOnes_0_ok : ∀ q ∈ bX7_plainOnes_0, decode mX7_plainOnes.2.1 q.1 = .ok (q.2, aLn q.2) := by decide +kernel
def bX7_plainOnes_4 : List (Nat × Instr) := [(4, .iload_n 2), (5, .aload_n 0), (6, .getfield 9), (9, .iconst 0), (10, .iaload)]
theorem bX7_plainOnes_4_ok : ∀ q ∈ bX7_plainOnes_4, decode mX7_plainOnes.2.1 q.1 = .ok (q.2, aLn q.2) := by decide +kernel
def bX7_plainOnes_14 : List (Nat × Instr) := [(14, .iconst 0), (15, .istore_n 3), (16, .iconst 0), (17, .istore 4)]
theorem bX7_plainOnes_14_ok : ∀ q ∈ bX7_plainOnes_14, decode mX7_plainOnes.2.1 q.1 = .ok (q.2, aLn q.2) := by decide +kernel
def bX7_plainOnes_19 : List (Nat × Instr) := [(19, .iload 4), (21, .bipush 10)]
theorem bX7_plainOnes_19_ok : ∀ q ∈ bX7_plainOnes_19, decode mX7_plainOnes.2.1 q.1 = .ok (q.2, aLn q.2) := by decide +kernel
def bX7_plainOnes_26 : List (Nat × Instr) := [(26, .iload_n 3), (27, .aload_n 0), (28, .iload_n 2), (29, .iload 4)]
theorem bX7_plainOnes_26_ok : ∀ q ∈ bX7_plainOnes_26, decode mX7_plainOnes.2.1 q.1 = .ok (q.2, aLn q.2) := by decide +kernel
def bX7_plainOnes_34 : List (Nat × Instr) := [(34, .iadd), (35, .istore_n 3), (36, .iinc 4 1), (39, .goto (-20))]
theorem bX7_plainOnes_34_ok : ∀ q ∈ bX7_plainOnes_34, decode mX7_plainOnes.2.1 q.1 = .ok (q.2, aLn q.2) := by decide +kernel
def bX7_plainOnes_42 : List (Nat × Instr) := [(42, .iload_n 1), (43, .iload_n 3)]
theorem bX7_plainOnes_42_ok : ∀ q ∈ bX7_plainOnes_42, decode mX7_plainOnes.2.1 q.1 = .ok (q.2, aLn q.2) := by decide +kernel
def bX7_plainOnes_47 : List (Nat × Instr) := [(47, .iconst 1), (48, .iload_n 2), (49, .ishl), (50, .goto 4)]
theorem bX7_plainOnes_47_ok : ∀ q ∈ bX7_plainOnes_47, decode mX7_plainOnes.2.1 q.1 = .ok (q.2, aLn q.2) := by decide +kernel
def bX7_plainOnes_53 : List (Nat × Instr) := [(53, .iconst 0)]
theorem bX7_plainOnes_53_ok : ∀ q ∈ bX7_plainOnes_53, decode mX7_plainOnes.2.1 q.1 = .ok (q.2, aLn q.2) := by decide +kernel
def bX7_plainOnes_54 : List (Nat × Instr) := [(54, .ior), (55, .istore_n 1), (56, .iinc 2 1), (59, .goto (-55))]
theorem bX7_plainOnes_54_ok : ∀ q ∈ bX7_plainOnes_54, decode mX7_plainOnes.2.1 q.1 = .ok (q.2, aLn q.2) := by decide +kernel
def bX7_plainOnes_62 : List (Nat × Instr) := [(62, .iload_n 1)]
theorem bX7_plainOnes_62_ok : ∀ q ∈ bX7_plainOnes_62, decode mX7_plainOnes.2.1 q.1 = .ok (q.2, aLn q.2) := by decide +kernel
theorem dX7_plainOnes_11 : decode mX7_plainOnes.2.1 11 = .ok (.if_icmp .ge 51, 3) := by decide +kernel
theorem dX7_plainOnes_23 : decode mX7_plainOnes.2.1 23 = .ok (.if_icmp .ge 19, 3) := by decide +kernel
theorem dX7_plainOnes_31 : decode mX7_plainOnes.2.1 31 = .ok (.invokevirtual 161, 3) := by decide +kernel
theorem dX7_plainOnes_44 : decode mX7_plainOnes.2.1 44 = .ok (.ifCond .ne 9, 3) := by decide +kernel
theorem dX7_plainOnes_63 : decode mX7_plainOnes.2.1 63 = .ok (.ireturn, 1) := by decide +kernel
def bX7_likeOnes_0 : List (Nat × Instr) := [(0, .iconst 0), (1, .istore_n 1), (2, .iconst 0), (3, .istore_n 2)]
theorem bX7_likeOnes_0_ok : ∀ q ∈ bX7_likeOnes_0, decode mX7_likeOnes.2.1 q.1 = .ok (q.2, aLn q.2) := by decide +kernel
def bX7_likeOnes_4 : List (Nat × Instr) := [(4, .iload_n 2), (5, .iconst 5)]
theorem bX7_likeOnes_4_ok : ∀ q ∈ bX7_likeOnes_4, decode mX7_likeOnes.2.1 q.1 = .ok (q.2, aLn q.2) := by decide +kernel
def bX7_likeOnes_9 : List (Nat × Instr) := [(9, .iload_n 2), (10, .iconst 1), (11, .iadd), (12, .istore_n 3)]
theorem bX7_likeOnes_9_ok : ∀ q ∈ bX7_likeOnes_9, decode mX7_likeOnes.2.1 q.1 = .ok (q.2, aLn q.2) := by decide +kernel
def bX7_likeOnes_13 : List (Nat × Instr) := [(13, .iload_n 3), (14, .iconst 5)]
theorem bX7_likeOnes_13_ok : ∀ q ∈ bX7_likeOnes_13, decode mX7_likeOnes.2.1 q.1 = .ok (q.2, aLn q.2) := by decide +kernel
def bX7_likeOnes_18 : List (Nat × Instr) := [(18, .iload_n 1), (19, .aload_n 0), (20, .getfield 9), (23, .bipush 8), (25, .iload_n 2), (26, .iadd), (27, .iaload)]
theorem bX7_likeOnes_18_ok : ∀ q ∈ bX7_likeOnes_18, decode mX7_likeOnes.2.1 q.1 = .ok (q.2, aLn q.2) := by decide +kernel
def bX7_likeOnes_31 : List (Nat × Instr) := [(31, .aload_n 0), (32, .getfield 9), (35, .bipush 8), (37, .iload_n 3), (38, .iadd), (39, .iaload)]
theorem bX7_likeOnes_31_ok : ∀ q ∈ bX7_likeOnes_31, decode mX7_likeOnes.2.1 q.1 = .ok (q.2, aLn q.2) := by decide +kernel
def bX7_likeOnes_43 : List (Nat × Instr) := [(43, .aload_n 0), (44, .getfield 9), (47, .iconst 3), (48, .iload_n 2), (49, .iadd), (50, .iaload), (51, .aload_n 0), (52, .getfield 9), (55, .iconst 3), (56, .iload_n 3), (57, .iadd), (58, .iaload)]
theorem bX7_likeOnes_43_ok : ∀ q ∈ bX7_likeOnes_43, decode mX7_likeOnes.2.1 q.1 = .ok (q.2, aLn q.2) := by decide +kernel
def bX7_likeOnes_62 : List (Nat × Instr) := [(62, .iconst 1), (63, .goto 4)]
theorem bX7_likeOnes_62_ok : ∀ q ∈ bX7_likeOnes_62, decode mX7_likeOnes.2.1 q.1 = .ok (q.2, aLn q.2) := by decide +kernel
def bX7_likeOnes_66 : List (Nat × Instr) := [(66, .iconst 0)]
theorem bX7_likeOnes_66_ok : ∀ q ∈ bX7_likeOnes_66, decode mX7_likeOnes.2.1 q.1 = .ok (q.2, aLn q.2) := by decide +kernel
def bX7_likeOnes_67 : List (Nat × Instr) := [(67, .iadd), (68, .istore_n 1), (69, .iinc 3 1), (72, .goto (-59))]
theorem bX7_likeOnes_67_ok : ∀ q ∈ bX7_likeOnes_67, decode mX7_likeOnes.2.1 q.1 = .ok (q.2, aLn q.2) := by decide +kernel
def bX7_likeOnes_75 : List (Nat × Instr) := [(75, .iinc 2 1), (78, .goto (-74))]
theorem bX7_likeOnes_75_ok : ∀ q ∈ bX7_likeOnes_75, decode mX7_likeOnes.2.1 q.1 = .ok (q.2, aLn q.2) := by decide +kernel
def bX7_likeOnes_81 : List (Nat × Instr) := [(81, .iload_n 1)]
theorem bX7_likeOnes_81_ok : ∀ q ∈ bX7_likeOnes_81, decode mX7_likeOnes.2.1 q.1 = .ok (q.2, aLn q.2) := by decide +kernel
theorem dX7_likeOnes_6 : decode mX7_likeOnes.2.1 6 = .ok (.if_icmp .ge 75, 3) := by decide +kernel
theorem dX7_likeOnes_15 : decode mX7_likeOnes.2.1 15 = .ok (.if_icmp .ge 60, 3) := by decide +kernel
theorem dX7_likeOnes_28 : decode mX7_likeOnes.2.1 28 = .ok (.ifCond .lt 38, 3) := by decide +kernel
theorem dX7_likeOnes_40 : decode mX7_likeOnes.2.1 40 = .ok (.ifCond .lt 26, 3) := by decide +kernel
theorem dX7_likeOnes_59 : decode mX7_likeOnes.2.1 59 = .ok (.if_icmp .ne 7, 3) := by decide +kernel
theorem dX7_likeOnes_82 : decode mX7_likeOnes.2.1 82 = .ok (.ireturn, 1) := by decide +kernel
def bX7_left_0 : List (Nat × Instr) := [(0, .aload_n 0), (1, .getfield 9), (4, .iload_n 1)]
theorem bX7_left_0_ok : ∀ q ∈ bX7_left_0, decode mX7_left.2.1 q.1 = .ok (q.2, aLn q.2) := by decide +kernel
def bX7_left_8 : List (Nat × Instr) := [(8, .aload_n 0), (9, .getfield 9), (12, .iload_n 1), (13, .iconst 2)]
theorem bX7_left_8_ok : ∀ q ∈ bX7_left_8, decode mX7_left.2.1 q.1 = .ok (q.2, aLn q.2) := by decide +kernel
def bX7_left_17 : List (Nat × Instr) := [(17, .iaload), (18, .isub)]
theorem bX7_left_17_ok : ∀ q ∈ bX7_left_17, decode mX7_left.2.1 q.1 = .ok (q.2, aLn q.2) := by decide +kernel
theorem dX7_left_5 : decode mX7_left.2.1 5 = .ok (.invokestatic 85, 3) := by decide +kernel
theorem dX7_left_14 : decode mX7_left.2.1 14 = .ok (.invokestatic 57, 3) := by decide +kernel
theorem dX7_left_19 : decode mX7_left.2.1 19 = .ok (.ireturn, 1) := by decide +kernel
def bX7_closest_0 : List (Nat × Instr) := [(0, .bipush (-4)), (2, .istore_n 1), (3, .iconst 0), (4, .istore_n 2)]
theorem bX7_closest_0_ok : ∀ q ∈ bX7_closest_0, decode mX7_closest.2.1 q.1 = .ok (q.2, aLn q.2) := by decide +kernel
def bX7_closest_5 : List (Nat × Instr) := [(5, .iload_n 2), (6, .aload_n 0), (7, .getfield 9), (10, .iconst 0), (11, .iaload)]
theorem bX7_closest_5_ok : ∀ q ∈ bX7_closest_5, decode mX7_closest.2.1 q.1 = .ok (q.2, aLn q.2) := by decide +kernel
def bX7_closest_15 : List (Nat × Instr) := [(15, .aload_n 0), (16, .getfield 9), (19, .iload_n 2)]
theorem bX7_closest_15_ok : ∀ q ∈ bX7_closest_15, decode mX7_closest.2.1 q.1 = .ok (q.2, aLn q.2) := by decide +kernel
def bX7_closest_26 : List (Nat × Instr) := [(26, .iload_n 1)]
theorem bX7_closest_26_ok : ∀ q ∈ bX7_closest_26, decode mX7_closest.2.1 q.1 = .ok (q.2, aLn q.2) := by decide +kernel
def bX7_closest_30 : List (Nat × Instr) := [(30, .aload_n 0), (31, .iload_n 2)]
theorem bX7_closest_30_ok : ∀ q ∈ bX7_closest_30, decode mX7_closest.2.1 q.1 = .ok (q.2, aLn q.2) := by decide +kernel
def bX7_closest_35 : List (Nat × Instr) := [(35, .aload_n 0), (36, .iload_n 1)]
theorem bX7_closest_35_ok : ∀ q ∈ bX7_closest_35, decode mX7_closest.2.1 q.1 = .ok (q.2, aLn q.2) := by decide +kernel
def bX7_closest_43 : List (Nat × Instr) := [(43, .iload_n 2), (44, .istore_n 1)]
theorem bX7_closest_43_ok : ∀ q ∈ bX7_closest_43, decode mX7_closest.2.1 q.1 = .ok (q.2, aLn q.2) := by decide +kernel
def bX7_closest_45 : List (Nat × Instr) := [(45, .iinc 2 1), (48, .goto (-43))]
theorem bX7_closest_45_ok : ∀ q ∈ bX7_closest_45, decode mX7_closest.2.1 q.1 = .ok (q.2, aLn q.2) := by decide +kernel
def bX7_closest_51 : List (Nat × Instr) := [(51, .iload_n 1)]
theorem bX7_closest_51_ok : ∀ q ∈ bX7_closest_51, decode mX7_closest.2.1 q.1 = .ok (q.2, aLn q.2) := by decide +kernel
theorem dX7_closest_12 : decode mX7_closest.2.1 12 = .ok (.if_icmp .ge 39, 3) := by decide +kernel
theorem dX7_closest_20 : decode mX7_closest.2.1 20 = .ok (.invokestatic 64, 3) := by decide +kernel
theorem dX7_closest_23 : decode mX7_closest.2.1 23 = .ok (.ifCond .lt 22, 3) := by decide +kernel
theorem dX7_closest_27 : decode mX7_closest.2.1 27 = .ok (.ifCond .lt 16, 3) := by decide +kernel
theorem dX7_closest_32 : decode mX7_closest.2.1 32 = .ok (.invokevirtual 197, 3) := by decide +kernel
theorem dX7_closest_37 : decode mX7_closest.2.1 37 = .ok (.invokevirtual 197, 3) := by decide +kernel
theorem dX7_closest_40 : decode mX7_closest.2.1 40 = .ok (.if_icmp .ge 5, 3) := by decide +kernel
theorem dX7_closest_52 : decode mX7_closest.2.1 52 = .ok (.ireturn, 1) := by decide +kernel
def bX7_stable_0 : List (Nat × Instr) := [(0, .aload_n 0), (1, .getfield 9), (4, .aload_n 0), (5, .getfield 13)]
theorem bX7_stable_0_ok : ∀ q ∈ bX7_stable_0, decode mX7_stable.2.1 q.1 = .ok (q.2, aLn q.2) := by decide +kernel
def bX7_stable_11 : List (Nat × Instr) := [(11, .aload_n 0), (12, .getfield 13), (15, .iconst 2), (16, .iconst 0), (17, .iastore), (18, .iconst 0), (19, .istore_n 1), (20, .iconst 0), (21, .istore_n 2)]
theorem bX7_stable_11_ok : ∀ q ∈ bX7_stable_11, decode mX7_stable.2.1 q.1 = .ok (q.2, aLn q.2) := by decide +kernel
def bX7_stable_22 : List (Nat × Instr) := [(22, .iload_n 2), (23, .bipush 60)]
theorem bX7_stable_22_ok : ∀ q ∈ bX7_stable_22, decode mX7_stable.2.1 q.1 = .ok (q.2, aLn q.2) := by decide +kernel
def bX7_stable_28 : List (Nat × Instr) := [(28, .aload_n 0), (29, .getfield 13), (32, .iconst 2), (33, .iaload), (34, .istore_n 3), (35, .aload_n 0), (36, .getfield 13)]
theorem bX7_stable_28_ok : ∀ q ∈ bX7_stable_28, decode mX7_stable.2.1 q.1 = .ok (q.2, aLn q.2) := by decide +kernel
def bX7_stable_42 : List (Nat × Instr) := [(42, .aload_n 0), (43, .getfield 13), (46, .iconst 2), (47, .iaload), (48, .iload_n 3)]
theorem bX7_stable_42_ok : ∀ q ∈ bX7_stable_42, decode mX7_stable.2.1 q.1 = .ok (q.2, aLn q.2) := by decide +kernel
def bX7_stable_52 : List (Nat × Instr) := [(52, .iload_n 1), (53, .iconst 1), (54, .iadd), (55, .goto 4)]
theorem bX7_stable_52_ok : ∀ q ∈ bX7_stable_52, decode mX7_stable.2.1 q.1 = .ok (q.2, aLn q.2) := by decide +kernel
def bX7_stable_58 : List (Nat × Instr) := [(58, .iconst 0)]
theorem bX7_stable_58_ok : ∀ q ∈ bX7_stable_58, decode mX7_stable.2.1 q.1 = .ok (q.2, aLn q.2) := by decide +kernel
def bX7_stable_59 : List (Nat × Instr) := [(59, .istore_n 1), (60, .iload_n 1), (61, .bipush 10)]
theorem bX7_stable_59_ok : ∀ q ∈ bX7_stable_59, decode mX7_stable.2.1 q.1 = .ok (q.2, aLn q.2) := by decide +kernel
def bX7_stable_66 : List (Nat × Instr) := [(66, .iload_n 2), (67, .bipush 9), (69, .isub)]
theorem bX7_stable_66_ok : ∀ q ∈ bX7_stable_66, decode mX7_stable.2.1 q.1 = .ok (q.2, aLn q.2) := by decide +kernel
def bX7_stable_71 : List (Nat × Instr) := [(71, .iinc 2 1), (74, .goto (-52))]
theorem bX7_stable_71_ok : ∀ q ∈ bX7_stable_71, decode mX7_stable.2.1 q.1 = .ok (q.2, aLn q.2) := by decide +kernel
def bX7_stable_77 : List (Nat × Instr) := [(77, .bipush (-4))]
theorem bX7_stable_77_ok : ∀ q ∈ bX7_stable_77, decode mX7_stable.2.1 q.1 = .ok (q.2, aLn q.2) := by decide +kernel
theorem dX7_stable_8 : decode mX7_stable.2.1 8 = .ok (.invokestatic 145, 3) := by decide +kernel
theorem dX7_stable_25 : decode mX7_stable.2.1 25 = .ok (.if_icmp .ge 52, 3) := by decide +kernel
theorem dX7_stable_39 : decode mX7_stable.2.1 39 = .ok (.invokestatic 95, 3) := by decide +kernel
theorem dX7_stable_49 : decode mX7_stable.2.1 49 = .ok (.if_icmp .ne 9, 3) := by decide +kernel
theorem dX7_stable_63 : decode mX7_stable.2.1 63 = .ok (.if_icmp .ne 8, 3) := by decide +kernel
theorem dX7_stable_70 : decode mX7_stable.2.1 70 = .ok (.ireturn, 1) := by decide +kernel
theorem dX7_stable_79 : decode mX7_stable.2.1 79 = .ok (.ireturn, 1) := by decide +kernel
def bX7_over_0 : List (Nat × Instr) := [(0, .iload_n 1)]
theorem bX7_over_0_ok : ∀ q ∈ bX7_over_0, decode mX7_over.2.1 q.1 = .ok (q.2, aLn q.2) := by decide +kernel
def bX7_over_36 : List (Nat × Instr) := [(36, .aload_n 0), (37, .getfield 9), (40, .iconst 0), (41, .iaload), (42, .aload_n 0), (43, .getfield 9)]
theorem bX7_over_36_ok : ∀ q ∈ bX7_over_36, decode mX7_over.2.1 q.1 = .ok (q.2, aLn q.2) := by decide +kernel
def bX7_over_52 : List (Nat × Instr) := [(52, .isub)]
theorem bX7_over_52_ok : ∀ q ∈ bX7_over_52, decode mX7_over.2.1 q.1 = .ok (q.2, aLn q.2) := by decide +kernel
def bX7_over_54 : List (Nat × Instr) := [(54, .aload_n 0)]
theorem bX7_over_54_ok : ∀ q ∈ bX7_over_54, decode mX7_over.2.1 q.1 = .ok (q.2, aLn q.2) := by decide +kernel
def bX7_over_59 : List (Nat × Instr) := [(59, .aload_n 0)]
theorem bX7_over_59_ok : ∀ q ∈ bX7_over_59, decode mX7_over.2.1 q.1 = .ok (q.2, aLn q.2) := by decide +kernel
def bX7_over_64 : List (Nat × Instr) := [(64, .aload_n 0)]
theorem bX7_over_64_ok : ∀ q ∈ bX7_over_64, decode mX7_over.2.1 q.1 = .ok (q.2, aLn q.2) := by decide +kernel
def bX7_over_69 : List (Nat × Instr) := [(69, .aload_n 0)]
theorem bX7_over_69_ok : ∀ q ∈ bX7_over_69, decode mX7_over.2.1 q.1 = .ok (q.2, aLn q.2) := by decide +kernel
def bX7_over_74 : List (Nat × Instr) := [(74, .ldc 212)]
theorem bX7_over_74_ok : ∀ q ∈ bX7_over_74, decode mX7_over.2.1 q.1 = .ok (q.2, aLn q.2) := by decide +kernel
theorem dX7_over_1 : decode mX7_over.2.1 1 = .ok (.tableswitch 73 0 4 #[35, 53, 58, 63, 68], 35) := by decide +kernel
theorem dX7_over_46 : decode mX7_over.2.1 46 = .ok (.invokestatic 177, 3) := by decide +kernel
theorem dX7_over_49 : decode mX7_over.2.1 49 = .ok (.invokestatic 155, 3) := by decide +kernel
theorem dX7_over_53 : decode mX7_over.2.1 53 = .ok (.ireturn, 1) := by decide +kernel
theorem dX7_over_55 : decode mX7_over.2.1 55 = .ok (.invokevirtual 200, 3) := by decide +kernel
theorem dX7_over_58 : decode mX7_over.2.1 58 = .ok (.ireturn, 1) := by decide +kernel
theorem dX7_over_60 : decode mX7_over.2.1 60 = .ok (.invokevirtual 203, 3) := by decide +kernel
theorem dX7_over_63 : decode mX7_over.2.1 63 = .ok (.ireturn, 1) := by decide +kernel
theorem dX7_over_65 : decode mX7_over.2.1 65 = .ok (.invokevirtual 206, 3) := by decide +kernel
theorem dX7_over_68 : decode mX7_over.2.1 68 = .ok (.ireturn, 1) := by decide +kernel
theorem dX7_over_70 : decode mX7_over.2.1 70 = .ok (.invokevirtual 209, 3) := by decide +kernel
theorem dX7_over_73 : decode mX7_over.2.1 73 = .ok (.ireturn, 1) := by decide +kernel
theorem dX7_over_76 : decode mX7_over.2.1 76 = .ok (.ireturn, 1) := by decide +kernel
def bX7_leastOf_0 : List (Nat × Instr) := [(0, .iload_n 0)]
theorem bX7_leastOf_0_ok : ∀ q ∈ bX7_leastOf_0, decode mX7_leastOf.2.1 q.1 = .ok (q.2, aLn q.2) := by decide +kernel
def bX7_leastOf_4 : List (Nat × Instr) := [(4, .bipush (-128)), (6, .goto 16)]
theorem bX7_leastOf_4_ok : ∀ q ∈ bX7_leastOf_4, decode mX7_leastOf.2.1 q.1 = .ok (q.2, aLn q.2) := by decide +kernel
def bX7_leastOf_9 : List (Nat × Instr) := [(9, .iload_n 0), (10, .iconst 1)]
theorem bX7_leastOf_9_ok : ∀ q ∈ bX7_leastOf_9, decode mX7_leastOf.2.1 q.1 = .ok (q.2, aLn q.2) := by decide +kernel
def bX7_leastOf_14 : List (Nat × Instr) := [(14, .sipush (-32768)), (17, .goto 5)]
theorem bX7_leastOf_14_ok : ∀ q ∈ bX7_leastOf_14, decode mX7_leastOf.2.1 q.1 = .ok (q.2, aLn q.2) := by decide +kernel
def bX7_leastOf_20 : List (Nat × Instr) := [(20, .ldc 213)]
theorem bX7_leastOf_20_ok : ∀ q ∈ bX7_leastOf_20, decode mX7_leastOf.2.1 q.1 = .ok (q.2, aLn q.2) := by decide +kernel
theorem dX7_leastOf_1 : decode mX7_leastOf.2.1 1 = .ok (.ifCond .ne 8, 3) := by decide +kernel
theorem dX7_leastOf_11 : decode mX7_leastOf.2.1 11 = .ok (.if_icmp .ne 9, 3) := by decide +kernel
theorem dX7_leastOf_22 : decode mX7_leastOf.2.1 22 = .ok (.ireturn, 1) := by decide +kernel
def bX7_isTold_0 : List (Nat × Instr) := [(0, .aload_n 0), (1, .getfield 46), (4, .bipush 100), (6, .iload_n 1), (7, .imul), (8, .iload_n 2), (9, .iadd), (10, .iaload), (11, .aload_n 0), (12, .getfield 40), (15, .iload_n 1), (16, .iaload)]
theorem bX7_isTold_0_ok : ∀ q ∈ bX7_isTold_0, decode mX7_isTold.2.1 q.1 = .ok (q.2, aLn q.2) := by decide +kernel
def bX7_isTold_23 : List (Nat × Instr) := [(23, .aload_n 0), (24, .getfield 46), (27, .bipush 100), (29, .iload_n 1), (30, .imul), (31, .iload_n 2), (32, .iadd), (33, .iaload), (34, .iload_n 3)]
theorem bX7_isTold_23_ok : ∀ q ∈ bX7_isTold_23, decode mX7_isTold.2.1 q.1 = .ok (q.2, aLn q.2) := by decide +kernel
def bX7_isTold_38 : List (Nat × Instr) := [(38, .iconst 1), (39, .goto 4)]
theorem bX7_isTold_38_ok : ∀ q ∈ bX7_isTold_38, decode mX7_isTold.2.1 q.1 = .ok (q.2, aLn q.2) := by decide +kernel
def bX7_isTold_42 : List (Nat × Instr) := [(42, .iconst 0)]
theorem bX7_isTold_42_ok : ∀ q ∈ bX7_isTold_42, decode mX7_isTold.2.1 q.1 = .ok (q.2, aLn q.2) := by decide +kernel
theorem dX7_isTold_17 : decode mX7_isTold.2.1 17 = .ok (.invokestatic 214, 3) := by decide +kernel
theorem dX7_isTold_20 : decode mX7_isTold.2.1 20 = .ok (.if_icmp .eq 18, 3) := by decide +kernel
theorem dX7_isTold_35 : decode mX7_isTold.2.1 35 = .ok (.if_icmp .ne 7, 3) := by decide +kernel
theorem dX7_isTold_43 : decode mX7_isTold.2.1 43 = .ok (.ireturn, 1) := by decide +kernel
def bX7_whatIs_0 : List (Nat × Instr) := [(0, .aload_n 0), (1, .iload_n 2)]
theorem bX7_whatIs_0_ok : ∀ q ∈ bX7_whatIs_0, decode mX7_whatIs.2.1 q.1 = .ok (q.2, aLn q.2) := by decide +kernel
def bX7_whatIs_8 : List (Nat × Instr) := [(8, .iload_n 3), (9, .iconst 0), (10, .iconst 1)]
theorem bX7_whatIs_8_ok : ∀ q ∈ bX7_whatIs_8, decode mX7_whatIs.2.1 q.1 = .ok (q.2, aLn q.2) := by decide +kernel
def bX7_whatIs_17 : List (Nat × Instr) := [(17, .iconst (-1))]
theorem bX7_whatIs_17_ok : ∀ q ∈ bX7_whatIs_17, decode mX7_whatIs.2.1 q.1 = .ok (q.2, aLn q.2) := by decide +kernel
def bX7_whatIs_19 : List (Nat × Instr) := [(19, .aload_n 0), (20, .iload_n 1), (21, .iconst (-1))]
theorem bX7_whatIs_19_ok : ∀ q ∈ bX7_whatIs_19, decode mX7_whatIs.2.1 q.1 = .ok (q.2, aLn q.2) := by decide +kernel
def bX7_whatIs_25 : List (Nat × Instr) := [(25, .istore 4), (27, .iload 4)]
theorem bX7_whatIs_25_ok : ∀ q ∈ bX7_whatIs_25, decode mX7_whatIs.2.1 q.1 = .ok (q.2, aLn q.2) := by decide +kernel
def bX7_whatIs_32 : List (Nat × Instr) := [(32, .iload 4)]
theorem bX7_whatIs_32_ok : ∀ q ∈ bX7_whatIs_32, decode mX7_whatIs.2.1 q.1 = .ok (q.2, aLn q.2) := by decide +kernel
def bX7_whatIs_35 : List (Nat × Instr) := [(35, .iconst 0), (36, .istore 5), (38, .iconst 0), (39, .istore 6)]
theorem bX7_whatIs_35_ok : ∀ q ∈ bX7_whatIs_35, decode mX7_whatIs.2.1 q.1 = .ok (q.2, aLn q.2) := by decide +kernel
def bX7_whatIs_41 : List (Nat × Instr) := [(41, .iload 6), (43, .iload_n 3)]
theorem bX7_whatIs_41_ok : ∀ q ∈ bX7_whatIs_41, decode mX7_whatIs.2.1 q.1 = .ok (q.2, aLn q.2) := by decide +kernel
def bX7_whatIs_47 : List (Nat × Instr) := [(47, .bipush 8), (49, .goto 5)]
theorem bX7_whatIs_47_ok : ∀ q ∈ bX7_whatIs_47, decode mX7_whatIs.2.1 q.1 = .ok (q.2, aLn q.2) := by decide +kernel
def bX7_whatIs_52 : List (Nat × Instr) := [(52, .bipush 10)]
theorem bX7_whatIs_52_ok : ∀ q ∈ bX7_whatIs_52, decode mX7_whatIs.2.1 q.1 = .ok (q.2, aLn q.2) := by decide +kernel
def bX7_whatIs_57 : List (Nat × Instr) := [(57, .iconst 1), (58, .istore 7), (60, .aload_n 0), (61, .getfield 9), (64, .aload_n 0), (65, .getfield 13)]
theorem bX7_whatIs_57_ok : ∀ q ∈ bX7_whatIs_57, decode mX7_whatIs.2.1 q.1 = .ok (q.2, aLn q.2) := by decide +kernel
def bX7_whatIs_71 : List (Nat × Instr) := [(71, .aload_n 0), (72, .getfield 13), (75, .iload_n 2), (76, .iload_n 3)]
theorem bX7_whatIs_71_ok : ∀ q ∈ bX7_whatIs_71, decode mX7_whatIs.2.1 q.1 = .ok (q.2, aLn q.2) := by decide +kernel
def bX7_whatIs_80 : List (Nat × Instr) := [(80, .iload 6), (82, .iastore), (83, .iconst 0), (84, .istore 8)]
theorem bX7_whatIs_80_ok : ∀ q ∈ bX7_whatIs_80, decode mX7_whatIs.2.1 q.1 = .ok (q.2, aLn q.2) := by decide +kernel
def bX7_whatIs_86 : List (Nat × Instr) := [(86, .iload 8), (88, .aload_n 0), (89, .getfield 43), (92, .iload_n 1), (93, .iaload)]
theorem bX7_whatIs_86_ok : ∀ q ∈ bX7_whatIs_86, decode mX7_whatIs.2.1 q.1 = .ok (q.2, aLn q.2) := by decide +kernel
def bX7_whatIs_97 : List (Nat × Instr) := [(97, .iload 7), (99, .aload_n 0), (100, .iload_n 1), (101, .iload 8), (103, .aload_n 0), (104, .getfield 13), (107, .iload_n 2), (108, .iconst 2)]
theorem bX7_whatIs_97_ok : ∀ q ∈ bX7_whatIs_97, decode mX7_whatIs.2.1 q.1 = .ok (q.2, aLn q.2) := by decide +kernel
def bX7_whatIs_112 : List (Nat × Instr) := [(112, .iaload)]
theorem bX7_whatIs_112_ok : ∀ q ∈ bX7_whatIs_112, decode mX7_whatIs.2.1 q.1 = .ok (q.2, aLn q.2) := by decide +kernel
def bX7_whatIs_116 : List (Nat × Instr) := [(116, .iand), (117, .istore 7), (119, .aload_n 0), (120, .getfield 13)]
theorem bX7_whatIs_116_ok : ∀ q ∈ bX7_whatIs_116, decode mX7_whatIs.2.1 q.1 = .ok (q.2, aLn q.2) := by decide +kernel
def bX7_whatIs_126 : List (Nat × Instr) := [(126, .iinc 8 1), (129, .goto (-43))]
theorem bX7_whatIs_126_ok : ∀ q ∈ bX7_whatIs_126, decode mX7_whatIs.2.1 q.1 = .ok (q.2, aLn q.2) := by decide +kernel
def bX7_whatIs_132 : List (Nat × Instr) := [(132, .iload 5), (134, .iload 7)]
theorem bX7_whatIs_132_ok : ∀ q ∈ bX7_whatIs_132, decode mX7_whatIs.2.1 q.1 = .ok (q.2, aLn q.2) := by decide +kernel
def bX7_whatIs_139 : List (Nat × Instr) := [(139, .iconst 1), (140, .iload 6), (142, .ishl), (143, .goto 4)]
theorem bX7_whatIs_139_ok : ∀ q ∈ bX7_whatIs_139, decode mX7_whatIs.2.1 q.1 = .ok (q.2, aLn q.2) := by decide +kernel
def bX7_whatIs_146 : List (Nat × Instr) := [(146, .iconst 0)]
theorem bX7_whatIs_146_ok : ∀ q ∈ bX7_whatIs_146, decode mX7_whatIs.2.1 q.1 = .ok (q.2, aLn q.2) := by decide +kernel
def bX7_whatIs_147 : List (Nat × Instr) := [(147, .ior), (148, .istore 5), (150, .iinc 6 1), (153, .goto (-112))]
theorem bX7_whatIs_147_ok : ∀ q ∈ bX7_whatIs_147, decode mX7_whatIs.2.1 q.1 = .ok (q.2, aLn q.2) := by decide +kernel
def bX7_whatIs_156 : List (Nat × Instr) := [(156, .iload 5)]
theorem bX7_whatIs_156_ok : ∀ q ∈ bX7_whatIs_156, decode mX7_whatIs.2.1 q.1 = .ok (q.2, aLn q.2) := by decide +kernel
theorem dX7_whatIs_2 : decode mX7_whatIs.2.1 2 = .ok (.invokevirtual 128, 3) := by decide +kernel
theorem dX7_whatIs_5 : decode mX7_whatIs.2.1 5 = .ok (.ifCond .eq 12, 3) := by decide +kernel
theorem dX7_whatIs_11 : decode mX7_whatIs.2.1 11 = .ok (.invokestatic 49, 3) := by decide +kernel
theorem dX7_whatIs_14 : decode mX7_whatIs.2.1 14 = .ok (.ifCond .ne 5, 3) := by decide +kernel
theorem dX7_whatIs_18 : decode mX7_whatIs.2.1 18 = .ok (.ireturn, 1) := by decide +kernel
theorem dX7_whatIs_22 : decode mX7_whatIs.2.1 22 = .ok (.invokevirtual 138, 3) := by decide +kernel
theorem dX7_whatIs_29 : decode mX7_whatIs.2.1 29 = .ok (.ifCond .eq 6, 3) := by decide +kernel
theorem dX7_whatIs_34 : decode mX7_whatIs.2.1 34 = .ok (.ireturn, 1) := by decide +kernel
theorem dX7_whatIs_44 : decode mX7_whatIs.2.1 44 = .ok (.ifCond .ne 8, 3) := by decide +kernel
theorem dX7_whatIs_54 : decode mX7_whatIs.2.1 54 = .ok (.if_icmp .ge 102, 3) := by decide +kernel
theorem dX7_whatIs_68 : decode mX7_whatIs.2.1 68 = .ok (.invokestatic 145, 3) := by decide +kernel
theorem dX7_whatIs_77 : decode mX7_whatIs.2.1 77 = .ok (.invokestatic 57, 3) := by decide +kernel
theorem dX7_whatIs_94 : decode mX7_whatIs.2.1 94 = .ok (.if_icmp .ge 38, 3) := by decide +kernel
theorem dX7_whatIs_109 : decode mX7_whatIs.2.1 109 = .ok (.invokestatic 57, 3) := by decide +kernel
theorem dX7_whatIs_113 : decode mX7_whatIs.2.1 113 = .ok (.invokevirtual 217, 3) := by decide +kernel
theorem dX7_whatIs_123 : decode mX7_whatIs.2.1 123 = .ok (.invokestatic 95, 3) := by decide +kernel
theorem dX7_whatIs_136 : decode mX7_whatIs.2.1 136 = .ok (.ifCond .eq 10, 3) := by decide +kernel
theorem dX7_whatIs_158 : decode mX7_whatIs.2.1 158 = .ok (.ireturn, 1) := by decide +kernel
def bX7_whoHeld_0 : List (Nat × Instr) := [(0, .iload_n 2)]
theorem bX7_whoHeld_0_ok : ∀ q ∈ bX7_whoHeld_0, decode mX7_whoHeld.2.1 q.1 = .ok (q.2, aLn q.2) := by decide +kernel
def bX7_whoHeld_7 : List (Nat × Instr) := [(7, .iconst (-1))]
theorem bX7_whoHeld_7_ok : ∀ q ∈ bX7_whoHeld_7, decode mX7_whoHeld.2.1 q.1 = .ok (q.2, aLn q.2) := by decide +kernel
def bX7_whoHeld_9 : List (Nat × Instr) := [(9, .aload_n 0), (10, .iload_n 1), (11, .iconst (-1))]
theorem bX7_whoHeld_9_ok : ∀ q ∈ bX7_whoHeld_9, decode mX7_whoHeld.2.1 q.1 = .ok (q.2, aLn q.2) := by decide +kernel
def bX7_whoHeld_15 : List (Nat × Instr) := [(15, .istore_n 3), (16, .iload_n 3)]
theorem bX7_whoHeld_15_ok : ∀ q ∈ bX7_whoHeld_15, decode mX7_whoHeld.2.1 q.1 = .ok (q.2, aLn q.2) := by decide +kernel
def bX7_whoHeld_20 : List (Nat × Instr) := [(20, .iload_n 3)]
theorem bX7_whoHeld_20_ok : ∀ q ∈ bX7_whoHeld_20, decode mX7_whoHeld.2.1 q.1 = .ok (q.2, aLn q.2) := by decide +kernel
def bX7_whoHeld_22 : List (Nat × Instr) := [(22, .iconst 0), (23, .istore 4), (25, .iconst 0), (26, .istore 5)]
theorem bX7_whoHeld_22_ok : ∀ q ∈ bX7_whoHeld_22, decode mX7_whoHeld.2.1 q.1 = .ok (q.2, aLn q.2) := by decide +kernel
def bX7_whoHeld_28 : List (Nat × Instr) := [(28, .iload 5), (30, .aload_n 0), (31, .getfield 9), (34, .iconst 0), (35, .iaload)]
theorem bX7_whoHeld_28_ok : ∀ q ∈ bX7_whoHeld_28, decode mX7_whoHeld.2.1 q.1 = .ok (q.2, aLn q.2) := by decide +kernel
def bX7_whoHeld_39 : List (Nat × Instr) := [(39, .iconst 1), (40, .istore 6), (42, .aload_n 0), (43, .getfield 9), (46, .aload_n 0), (47, .getfield 13)]
theorem bX7_whoHeld_39_ok : ∀ q ∈ bX7_whoHeld_39, decode mX7_whoHeld.2.1 q.1 = .ok (q.2, aLn q.2) := by decide +kernel
def bX7_whoHeld_53 : List (Nat × Instr) := [(53, .aload_n 0), (54, .getfield 13), (57, .iload_n 2), (58, .iload 5)]
theorem bX7_whoHeld_53_ok : ∀ q ∈ bX7_whoHeld_53, decode mX7_whoHeld.2.1 q.1 = .ok (q.2, aLn q.2) := by decide +kernel
def bX7_whoHeld_63 : List (Nat × Instr) := [(63, .iconst 0), (64, .istore 7)]
theorem bX7_whoHeld_63_ok : ∀ q ∈ bX7_whoHeld_63, decode mX7_whoHeld.2.1 q.1 = .ok (q.2, aLn q.2) := by decide +kernel
def bX7_whoHeld_66 : List (Nat × Instr) := [(66, .iload 7), (68, .aload_n 0), (69, .getfield 43), (72, .iload_n 1), (73, .iaload)]
theorem bX7_whoHeld_66_ok : ∀ q ∈ bX7_whoHeld_66, decode mX7_whoHeld.2.1 q.1 = .ok (q.2, aLn q.2) := by decide +kernel
def bX7_whoHeld_77 : List (Nat × Instr) := [(77, .iload 6), (79, .aload_n 0), (80, .iload_n 1), (81, .iload 7), (83, .aload_n 0), (84, .getfield 13), (87, .bipush 8), (89, .iload_n 2), (90, .iadd), (91, .iaload)]
theorem bX7_whoHeld_77_ok : ∀ q ∈ bX7_whoHeld_77, decode mX7_whoHeld.2.1 q.1 = .ok (q.2, aLn q.2) := by decide +kernel
def bX7_whoHeld_95 : List (Nat × Instr) := [(95, .iconst 0), (96, .goto 4)]
theorem bX7_whoHeld_95_ok : ∀ q ∈ bX7_whoHeld_95, decode mX7_whoHeld.2.1 q.1 = .ok (q.2, aLn q.2) := by decide +kernel
def bX7_whoHeld_99 : List (Nat × Instr) := [(99, .iconst 1)]
theorem bX7_whoHeld_99_ok : ∀ q ∈ bX7_whoHeld_99, decode mX7_whoHeld.2.1 q.1 = .ok (q.2, aLn q.2) := by decide +kernel
def bX7_whoHeld_103 : List (Nat × Instr) := [(103, .iand), (104, .istore 6), (106, .aload_n 0), (107, .getfield 13)]
theorem bX7_whoHeld_103_ok : ∀ q ∈ bX7_whoHeld_103, decode mX7_whoHeld.2.1 q.1 = .ok (q.2, aLn q.2) := by decide +kernel
def bX7_whoHeld_113 : List (Nat × Instr) := [(113, .iinc 7 1), (116, .goto (-50))]
theorem bX7_whoHeld_113_ok : ∀ q ∈ bX7_whoHeld_113, decode mX7_whoHeld.2.1 q.1 = .ok (q.2, aLn q.2) := by decide +kernel
def bX7_whoHeld_119 : List (Nat × Instr) := [(119, .iload 4), (121, .iload 6)]
theorem bX7_whoHeld_119_ok : ∀ q ∈ bX7_whoHeld_119, decode mX7_whoHeld.2.1 q.1 = .ok (q.2, aLn q.2) := by decide +kernel
def bX7_whoHeld_126 : List (Nat × Instr) := [(126, .iconst 1), (127, .iload 5), (129, .ishl), (130, .goto 4)]
theorem bX7_whoHeld_126_ok : ∀ q ∈ bX7_whoHeld_126, decode mX7_whoHeld.2.1 q.1 = .ok (q.2, aLn q.2) := by decide +kernel
def bX7_whoHeld_133 : List (Nat × Instr) := [(133, .iconst 0)]
theorem bX7_whoHeld_133_ok : ∀ q ∈ bX7_whoHeld_133, decode mX7_whoHeld.2.1 q.1 = .ok (q.2, aLn q.2) := by decide +kernel
def bX7_whoHeld_134 : List (Nat × Instr) := [(134, .ior), (135, .istore 4), (137, .iinc 5 1), (140, .goto (-112))]
theorem bX7_whoHeld_134_ok : ∀ q ∈ bX7_whoHeld_134, decode mX7_whoHeld.2.1 q.1 = .ok (q.2, aLn q.2) := by decide +kernel
def bX7_whoHeld_143 : List (Nat × Instr) := [(143, .iload 4)]
theorem bX7_whoHeld_143_ok : ∀ q ∈ bX7_whoHeld_143, decode mX7_whoHeld.2.1 q.1 = .ok (q.2, aLn q.2) := by decide +kernel
theorem dX7_whoHeld_1 : decode mX7_whoHeld.2.1 1 = .ok (.invokestatic 125, 3) := by decide +kernel
theorem dX7_whoHeld_4 : decode mX7_whoHeld.2.1 4 = .ok (.ifCond .ne 5, 3) := by decide +kernel
theorem dX7_whoHeld_8 : decode mX7_whoHeld.2.1 8 = .ok (.ireturn, 1) := by decide +kernel
theorem dX7_whoHeld_12 : decode mX7_whoHeld.2.1 12 = .ok (.invokevirtual 138, 3) := by decide +kernel
theorem dX7_whoHeld_17 : decode mX7_whoHeld.2.1 17 = .ok (.ifCond .eq 5, 3) := by decide +kernel
theorem dX7_whoHeld_21 : decode mX7_whoHeld.2.1 21 = .ok (.ireturn, 1) := by decide +kernel
theorem dX7_whoHeld_36 : decode mX7_whoHeld.2.1 36 = .ok (.if_icmp .ge 107, 3) := by decide +kernel
theorem dX7_whoHeld_50 : decode mX7_whoHeld.2.1 50 = .ok (.invokestatic 145, 3) := by decide +kernel
theorem dX7_whoHeld_60 : decode mX7_whoHeld.2.1 60 = .ok (.invokestatic 131, 3) := by decide +kernel
theorem dX7_whoHeld_74 : decode mX7_whoHeld.2.1 74 = .ok (.if_icmp .ge 45, 3) := by decide +kernel
theorem dX7_whoHeld_92 : decode mX7_whoHeld.2.1 92 = .ok (.ifCond .ge 7, 3) := by decide +kernel
theorem dX7_whoHeld_100 : decode mX7_whoHeld.2.1 100 = .ok (.invokevirtual 217, 3) := by decide +kernel
theorem dX7_whoHeld_110 : decode mX7_whoHeld.2.1 110 = .ok (.invokestatic 95, 3) := by decide +kernel
theorem dX7_whoHeld_123 : decode mX7_whoHeld.2.1 123 = .ok (.ifCond .eq 10, 3) := by decide +kernel
theorem dX7_whoHeld_145 : decode mX7_whoHeld.2.1 145 = .ok (.ireturn, 1) := by decide +kernel
def bX7_hasBy_0 : List (Nat × Instr) := [(0, .aload_n 0), (1, .getfield 9), (4, .aload_n 0), (5, .getfield 13)]
theorem bX7_hasBy_0_ok : ∀ q ∈ bX7_hasBy_0, decode mX7_hasBy.2.1 q.1 = .ok (q.2, aLn q.2) := by decide +kernel
def bX7_hasBy_11 : List (Nat × Instr) := [(11, .iload_n 3)]
theorem bX7_hasBy_11_ok : ∀ q ∈ bX7_hasBy_11, decode mX7_hasBy.2.1 q.1 = .ok (q.2, aLn q.2) := by decide +kernel
def bX7_hasBy_15 : List (Nat × Instr) := [(15, .aload_n 0), (16, .getfield 13), (19, .bipush 8), (21, .aload_n 0), (22, .getfield 13), (25, .iload_n 2)]
theorem bX7_hasBy_15_ok : ∀ q ∈ bX7_hasBy_15, decode mX7_hasBy.2.1 q.1 = .ok (q.2, aLn q.2) := by decide +kernel
def bX7_hasBy_29 : List (Nat × Instr) := [(29, .iadd), (30, .bipush (-4)), (32, .iastore)]
theorem bX7_hasBy_29_ok : ∀ q ∈ bX7_hasBy_29, decode mX7_hasBy.2.1 q.1 = .ok (q.2, aLn q.2) := by decide +kernel
def bX7_hasBy_33 : List (Nat × Instr) := [(33, .iload 5)]
theorem bX7_hasBy_33_ok : ∀ q ∈ bX7_hasBy_33, decode mX7_hasBy.2.1 q.1 = .ok (q.2, aLn q.2) := by decide +kernel
def bX7_hasBy_38 : List (Nat × Instr) := [(38, .aload_n 0), (39, .getfield 13), (42, .bipush 8), (44, .aload_n 0), (45, .getfield 13), (48, .iload 4)]
theorem bX7_hasBy_38_ok : ∀ q ∈ bX7_hasBy_38, decode mX7_hasBy.2.1 q.1 = .ok (q.2, aLn q.2) := by decide +kernel
def bX7_hasBy_53 : List (Nat × Instr) := [(53, .iadd), (54, .bipush (-4)), (56, .iastore)]
theorem bX7_hasBy_53_ok : ∀ q ∈ bX7_hasBy_53, decode mX7_hasBy.2.1 q.1 = .ok (q.2, aLn q.2) := by decide +kernel
def bX7_hasBy_57 : List (Nat × Instr) := [(57, .iconst 0), (58, .istore 7), (60, .iconst 0), (61, .istore 8)]
theorem bX7_hasBy_57_ok : ∀ q ∈ bX7_hasBy_57, decode mX7_hasBy.2.1 q.1 = .ok (q.2, aLn q.2) := by decide +kernel
def bX7_hasBy_63 : List (Nat × Instr) := [(63, .iload 8), (65, .iload 6)]
theorem bX7_hasBy_63_ok : ∀ q ∈ bX7_hasBy_63, decode mX7_hasBy.2.1 q.1 = .ok (q.2, aLn q.2) := by decide +kernel
def bX7_hasBy_70 : List (Nat × Instr) := [(70, .aload_n 0), (71, .getfield 13)]
theorem bX7_hasBy_70_ok : ∀ q ∈ bX7_hasBy_70, decode mX7_hasBy.2.1 q.1 = .ok (q.2, aLn q.2) := by decide +kernel
def bX7_hasBy_77 : List (Nat × Instr) := [(77, .iload 7), (79, .aload_n 0), (80, .getfield 13), (83, .iload_n 1)]
theorem bX7_hasBy_77_ok : ∀ q ∈ bX7_hasBy_77, decode mX7_hasBy.2.1 q.1 = .ok (q.2, aLn q.2) := by decide +kernel
def bX7_hasBy_90 : List (Nat × Instr) := [(90, .iconst 0), (91, .goto 4)]
theorem bX7_hasBy_90_ok : ∀ q ∈ bX7_hasBy_90, decode mX7_hasBy.2.1 q.1 = .ok (q.2, aLn q.2) := by decide +kernel
def bX7_hasBy_94 : List (Nat × Instr) := [(94, .iconst 1)]
theorem bX7_hasBy_94_ok : ∀ q ∈ bX7_hasBy_94, decode mX7_hasBy.2.1 q.1 = .ok (q.2, aLn q.2) := by decide +kernel
def bX7_hasBy_95 : List (Nat × Instr) := [(95, .iadd), (96, .istore 7), (98, .iinc 8 1), (101, .goto (-38))]
theorem bX7_hasBy_95_ok : ∀ q ∈ bX7_hasBy_95, decode mX7_hasBy.2.1 q.1 = .ok (q.2, aLn q.2) := by decide +kernel
def bX7_hasBy_104 : List (Nat × Instr) := [(104, .iload 7), (106, .aload_n 0), (107, .getfield 13), (110, .iload_n 1), (111, .iconst 2)]
theorem bX7_hasBy_104_ok : ∀ q ∈ bX7_hasBy_104, decode mX7_hasBy.2.1 q.1 = .ok (q.2, aLn q.2) := by decide +kernel
def bX7_hasBy_115 : List (Nat × Instr) := [(115, .iaload), (116, .bipush 10), (118, .idiv), (119, .isub)]
theorem bX7_hasBy_115_ok : ∀ q ∈ bX7_hasBy_115, decode mX7_hasBy.2.1 q.1 = .ok (q.2, aLn q.2) := by decide +kernel
theorem dX7_hasBy_8 : decode mX7_hasBy.2.1 8 = .ok (.invokestatic 145, 3) := by decide +kernel
theorem dX7_hasBy_12 : decode mX7_hasBy.2.1 12 = .ok (.ifCond .ne 21, 3) := by decide +kernel
theorem dX7_hasBy_26 : decode mX7_hasBy.2.1 26 = .ok (.invokestatic 64, 3) := by decide +kernel
theorem dX7_hasBy_35 : decode mX7_hasBy.2.1 35 = .ok (.ifCond .ne 22, 3) := by decide +kernel
theorem dX7_hasBy_50 : decode mX7_hasBy.2.1 50 = .ok (.invokestatic 64, 3) := by decide +kernel
theorem dX7_hasBy_67 : decode mX7_hasBy.2.1 67 = .ok (.if_icmp .ge 37, 3) := by decide +kernel
theorem dX7_hasBy_74 : decode mX7_hasBy.2.1 74 = .ok (.invokestatic 95, 3) := by decide +kernel
theorem dX7_hasBy_84 : decode mX7_hasBy.2.1 84 = .ok (.invokestatic 64, 3) := by decide +kernel
theorem dX7_hasBy_87 : decode mX7_hasBy.2.1 87 = .ok (.ifCond .ge 7, 3) := by decide +kernel
theorem dX7_hasBy_112 : decode mX7_hasBy.2.1 112 = .ok (.invokestatic 57, 3) := by decide +kernel
theorem dX7_hasBy_120 : decode mX7_hasBy.2.1 120 = .ok (.ireturn, 1) := by decide +kernel
def bX7_two_0 : List (Nat × Instr) := [(0, .aload_n 0), (1, .iload_n 1)]
theorem bX7_two_0_ok : ∀ q ∈ bX7_two_0, decode mX7_two.2.1 q.1 = .ok (q.2, aLn q.2) := by decide +kernel
def bX7_two_8 : List (Nat × Instr) := [(8, .aload_n 0), (9, .iload_n 2)]
theorem bX7_two_8_ok : ∀ q ∈ bX7_two_8, decode mX7_two.2.1 q.1 = .ok (q.2, aLn q.2) := by decide +kernel
def bX7_two_16 : List (Nat × Instr) := [(16, .iload_n 1), (17, .iload_n 2)]
theorem bX7_two_16_ok : ∀ q ∈ bX7_two_16, decode mX7_two.2.1 q.1 = .ok (q.2, aLn q.2) := by decide +kernel
def bX7_two_21 : List (Nat × Instr) := [(21, .iload_n 3), (22, .iconst 1), (23, .bipush 30)]
theorem bX7_two_21_ok : ∀ q ∈ bX7_two_21, decode mX7_two.2.1 q.1 = .ok (q.2, aLn q.2) := by decide +kernel
def bX7_two_31 : List (Nat × Instr) := [(31, .iconst (-1))]
theorem bX7_two_31_ok : ∀ q ∈ bX7_two_31, decode mX7_two.2.1 q.1 = .ok (q.2, aLn q.2) := by decide +kernel
def bX7_two_33 : List (Nat × Instr) := [(33, .aload_n 0), (34, .getfield 9), (37, .iload_n 1)]
theorem bX7_two_33_ok : ∀ q ∈ bX7_two_33, decode mX7_two.2.1 q.1 = .ok (q.2, aLn q.2) := by decide +kernel
def bX7_two_44 : List (Nat × Instr) := [(44, .aload_n 0), (45, .getfield 9), (48, .iload_n 2)]
theorem bX7_two_44_ok : ∀ q ∈ bX7_two_44, decode mX7_two.2.1 q.1 = .ok (q.2, aLn q.2) := by decide +kernel
def bX7_two_55 : List (Nat × Instr) := [(55, .bipush (-3))]
theorem bX7_two_55_ok : ∀ q ∈ bX7_two_55, decode mX7_two.2.1 q.1 = .ok (q.2, aLn q.2) := by decide +kernel
def bX7_two_58 : List (Nat × Instr) := [(58, .iconst 0), (59, .istore 4)]
theorem bX7_two_58_ok : ∀ q ∈ bX7_two_58, decode mX7_two.2.1 q.1 = .ok (q.2, aLn q.2) := by decide +kernel
def bX7_two_61 : List (Nat × Instr) := [(61, .iload 4), (63, .iconst 4)]
theorem bX7_two_61_ok : ∀ q ∈ bX7_two_61, decode mX7_two.2.1 q.1 = .ok (q.2, aLn q.2) := by decide +kernel
def bX7_two_67 : List (Nat × Instr) := [(67, .iload 4), (69, .iconst 2), (70, .idiv), (71, .istore 5), (73, .iload 4), (75, .iconst 2), (76, .irem), (77, .istore 6), (79, .aload_n 0), (80, .iload_n 1), (81, .iload_n 1), (82, .iconst 1), (83, .iload 5), (85, .isub), (86, .iload_n 2), (87, .iload 6), (89, .iload_n 3)]
theorem bX7_two_67_ok : ∀ q ∈ bX7_two_67, decode mX7_two.2.1 q.1 = .ok (q.2, aLn q.2) := by decide +kernel
def bX7_two_93 : List (Nat × Instr) := [(93, .aload_n 0), (94, .iload_n 1), (95, .iload_n 1), (96, .iload 5), (98, .iload_n 2), (99, .iload 6), (101, .iload_n 3)]
theorem bX7_two_93_ok : ∀ q ∈ bX7_two_93, decode mX7_two.2.1 q.1 = .ok (q.2, aLn q.2) := by decide +kernel
def bX7_two_108 : List (Nat × Instr) := [(108, .aload_n 0), (109, .iload_n 2), (110, .iload_n 1), (111, .iload 5), (113, .iload_n 2), (114, .iconst 1), (115, .iload 6), (117, .isub), (118, .iload_n 3)]
theorem bX7_two_108_ok : ∀ q ∈ bX7_two_108, decode mX7_two.2.1 q.1 = .ok (q.2, aLn q.2) := by decide +kernel
def bX7_two_122 : List (Nat × Instr) := [(122, .aload_n 0), (123, .iload_n 2), (124, .iload_n 1), (125, .iload 5), (127, .iload_n 2), (128, .iload 6), (130, .iload_n 3)]
theorem bX7_two_122_ok : ∀ q ∈ bX7_two_122, decode mX7_two.2.1 q.1 = .ok (q.2, aLn q.2) := by decide +kernel
def bX7_two_137 : List (Nat × Instr) := [(137, .bipush 10), (139, .iload 5), (141, .imul), (142, .iload 6), (144, .iadd)]
theorem bX7_two_137_ok : ∀ q ∈ bX7_two_137, decode mX7_two.2.1 q.1 = .ok (q.2, aLn q.2) := by decide +kernel
def bX7_two_146 : List (Nat × Instr) := [(146, .iinc 4 1), (149, .goto (-88))]
theorem bX7_two_146_ok : ∀ q ∈ bX7_two_146, decode mX7_two.2.1 q.1 = .ok (q.2, aLn q.2) := by decide +kernel
def bX7_two_152 : List (Nat × Instr) := [(152, .bipush (-4))]
theorem bX7_two_152_ok : ∀ q ∈ bX7_two_152, decode mX7_two.2.1 q.1 = .ok (q.2, aLn q.2) := by decide +kernel
theorem dX7_two_2 : decode mX7_two.2.1 2 = .ok (.invokevirtual 128, 3) := by decide +kernel
theorem dX7_two_5 : decode mX7_two.2.1 5 = .ok (.ifCond .eq 26, 3) := by decide +kernel
theorem dX7_two_10 : decode mX7_two.2.1 10 = .ok (.invokevirtual 128, 3) := by decide +kernel
theorem dX7_two_13 : decode mX7_two.2.1 13 = .ok (.ifCond .eq 18, 3) := by decide +kernel
theorem dX7_two_18 : decode mX7_two.2.1 18 = .ok (.if_icmp .eq 13, 3) := by decide +kernel
theorem dX7_two_25 : decode mX7_two.2.1 25 = .ok (.invokestatic 49, 3) := by decide +kernel
theorem dX7_two_28 : decode mX7_two.2.1 28 = .ok (.ifCond .ne 5, 3) := by decide +kernel
theorem dX7_two_32 : decode mX7_two.2.1 32 = .ok (.ireturn, 1) := by decide +kernel
theorem dX7_two_38 : decode mX7_two.2.1 38 = .ok (.invokestatic 64, 3) := by decide +kernel
theorem dX7_two_41 : decode mX7_two.2.1 41 = .ok (.ifCond .lt 14, 3) := by decide +kernel
theorem dX7_two_49 : decode mX7_two.2.1 49 = .ok (.invokestatic 64, 3) := by decide +kernel
theorem dX7_two_52 : decode mX7_two.2.1 52 = .ok (.ifCond .ge 6, 3) := by decide +kernel
theorem dX7_two_57 : decode mX7_two.2.1 57 = .ok (.ireturn, 1) := by decide +kernel
theorem dX7_two_64 : decode mX7_two.2.1 64 = .ok (.if_icmp .ge 88, 3) := by decide +kernel
theorem dX7_two_90 : decode mX7_two.2.1 90 = .ok (.invokevirtual 220, 3) := by decide +kernel
theorem dX7_two_102 : decode mX7_two.2.1 102 = .ok (.invokevirtual 220, 3) := by decide +kernel
theorem dX7_two_105 : decode mX7_two.2.1 105 = .ok (.if_icmp .gt 41, 3) := by decide +kernel
theorem dX7_two_119 : decode mX7_two.2.1 119 = .ok (.invokevirtual 220, 3) := by decide +kernel
theorem dX7_two_131 : decode mX7_two.2.1 131 = .ok (.invokevirtual 220, 3) := by decide +kernel
theorem dX7_two_134 : decode mX7_two.2.1 134 = .ok (.if_icmp .gt 12, 3) := by decide +kernel
theorem dX7_two_145 : decode mX7_two.2.1 145 = .ok (.ireturn, 1) := by decide +kernel
theorem dX7_two_154 : decode mX7_two.2.1 154 = .ok (.ireturn, 1) := by decide +kernel
def bX7_gcd_0 : List (Nat × Instr) := [(0, .lload_n 0), (1, .lstore 4), (3, .lload_n 2), (4, .lstore 6)]
theorem bX7_gcd_0_ok : ∀ q ∈ bX7_gcd_0, decode mX7_gcd.2.1 q.1 = .ok (q.2, aLn q.2) := by decide +kernel
def bX7_gcd_6 : List (Nat × Instr) := [(6, .lload 6), (8, .lconst 0), (9, .lcmp)]
theorem bX7_gcd_6_ok : ∀ q ∈ bX7_gcd_6, decode mX7_gcd.2.1 q.1 = .ok (q.2, aLn q.2) := by decide +kernel
def bX7_gcd_13 : List (Nat × Instr) := [(13, .lload 4), (15, .lload 6), (17, .lrem), (18, .lstore 8), (20, .lload 6), (22, .lstore 4), (24, .lload 8), (26, .lstore 6), (28, .goto (-22))]
theorem bX7_gcd_13_ok : ∀ q ∈ bX7_gcd_13, decode mX7_gcd.2.1 q.1 = .ok (q.2, aLn q.2) := by decide +kernel
def bX7_gcd_31 : List (Nat × Instr) := [(31, .lload 4)]
theorem bX7_gcd_31_ok : ∀ q ∈ bX7_gcd_31, decode mX7_gcd.2.1 q.1 = .ok (q.2, aLn q.2) := by decide +kernel
theorem dX7_gcd_10 : decode mX7_gcd.2.1 10 = .ok (.ifCond .eq 21, 3) := by decide +kernel
theorem dX7_gcd_33 : decode mX7_gcd.2.1 33 = .ok (.lreturn, 1) := by decide +kernel
def bX7_partOf_0 : List (Nat × Instr) := [(0, .lload_n 0), (1, .lconst 0), (2, .lcmp)]
theorem bX7_partOf_0_ok : ∀ q ∈ bX7_partOf_0, decode mX7_partOf.2.1 q.1 = .ok (q.2, aLn q.2) := by decide +kernel
def bX7_partOf_6 : List (Nat × Instr) := [(6, .iload 4), (8, .i2l)]
theorem bX7_partOf_6_ok : ∀ q ∈ bX7_partOf_6, decode mX7_partOf.2.1 q.1 = .ok (q.2, aLn q.2) := by decide +kernel
def bX7_partOf_10 : List (Nat × Instr) := [(10, .iload 4)]
theorem bX7_partOf_10_ok : ∀ q ∈ bX7_partOf_10, decode mX7_partOf.2.1 q.1 = .ok (q.2, aLn q.2) := by decide +kernel
def bX7_partOf_15 : List (Nat × Instr) := [(15, .lload_n 0), (16, .goto 4)]
theorem bX7_partOf_15_ok : ∀ q ∈ bX7_partOf_15, decode mX7_partOf.2.1 q.1 = .ok (q.2, aLn q.2) := by decide +kernel
def bX7_partOf_19 : List (Nat × Instr) := [(19, .lload_n 2)]
theorem bX7_partOf_19_ok : ∀ q ∈ bX7_partOf_19, decode mX7_partOf.2.1 q.1 = .ok (q.2, aLn q.2) := by decide +kernel
def bX7_partOf_20 : List (Nat × Instr) := [(20, .lload_n 0), (21, .lload_n 2)]
theorem bX7_partOf_20_ok : ∀ q ∈ bX7_partOf_20, decode mX7_partOf.2.1 q.1 = .ok (q.2, aLn q.2) := by decide +kernel
def bX7_partOf_25 : List (Nat × Instr) := [(25, .ldiv)]
theorem bX7_partOf_25_ok : ∀ q ∈ bX7_partOf_25, decode mX7_partOf.2.1 q.1 = .ok (q.2, aLn q.2) := by decide +kernel
theorem dX7_partOf_3 : decode mX7_partOf.2.1 3 = .ok (.ifCond .ne 7, 3) := by decide +kernel
theorem dX7_partOf_9 : decode mX7_partOf.2.1 9 = .ok (.lreturn, 1) := by decide +kernel
theorem dX7_partOf_12 : decode mX7_partOf.2.1 12 = .ok (.ifCond .ne 7, 3) := by decide +kernel
theorem dX7_partOf_22 : decode mX7_partOf.2.1 22 = .ok (.invokestatic 224, 3) := by decide +kernel
theorem dX7_partOf_26 : decode mX7_partOf.2.1 26 = .ok (.lreturn, 1) := by decide +kernel
def bX7_scandal_0 : List (Nat × Instr) := [(0, .iconst 0), (1, .istore_n 1)]
theorem bX7_scandal_0_ok : ∀ q ∈ bX7_scandal_0, decode mX7_scandal.2.1 q.1 = .ok (q.2, aLn q.2) := by decide +kernel
def bX7_scandal_2 : List (Nat × Instr) := [(2, .iload_n 1), (3, .aload_n 0), (4, .iconst 0), (5, .iaload)]
theorem bX7_scandal_2_ok : ∀ q ∈ bX7_scandal_2, decode mX7_scandal.2.1 q.1 = .ok (q.2, aLn q.2) := by decide +kernel
def bX7_scandal_9 : List (Nat × Instr) := [(9, .aload_n 0), (10, .iload_n 1)]
theorem bX7_scandal_9_ok : ∀ q ∈ bX7_scandal_9, decode mX7_scandal.2.1 q.1 = .ok (q.2, aLn q.2) := by decide +kernel
def bX7_scandal_17 : List (Nat × Instr) := [(17, .aload_n 0), (18, .iload_n 1), (19, .iconst 2)]
theorem bX7_scandal_17_ok : ∀ q ∈ bX7_scandal_17, decode mX7_scandal.2.1 q.1 = .ok (q.2, aLn q.2) := by decide +kernel
def bX7_scandal_23 : List (Nat × Instr) := [(23, .bipush 99), (25, .aload_n 0), (26, .iload_n 1), (27, .iconst 2)]
theorem bX7_scandal_23_ok : ∀ q ∈ bX7_scandal_23, decode mX7_scandal.2.1 q.1 = .ok (q.2, aLn q.2) := by decide +kernel
def bX7_scandal_31 : List (Nat × Instr) := [(31, .iaload), (32, .iconst 5), (33, .iadd)]
theorem bX7_scandal_31_ok : ∀ q ∈ bX7_scandal_31, decode mX7_scandal.2.1 q.1 = .ok (q.2, aLn q.2) := by decide +kernel
def bX7_scandal_37 : List (Nat × Instr) := [(37, .iastore)]
theorem bX7_scandal_37_ok : ∀ q ∈ bX7_scandal_37, decode mX7_scandal.2.1 q.1 = .ok (q.2, aLn q.2) := by decide +kernel
def bX7_scandal_38 : List (Nat × Instr) := [(38, .iinc 1 1), (41, .goto (-39))]
theorem bX7_scandal_38_ok : ∀ q ∈ bX7_scandal_38, decode mX7_scandal.2.1 q.1 = .ok (q.2, aLn q.2) := by decide +kernel
theorem dX7_scandal_6 : decode mX7_scandal.2.1 6 = .ok (.if_icmp .ge 38, 3) := by decide +kernel
theorem dX7_scandal_11 : decode mX7_scandal.2.1 11 = .ok (.invokestatic 64, 3) := by decide +kernel
theorem dX7_scandal_14 : decode mX7_scandal.2.1 14 = .ok (.ifCond .lt 24, 3) := by decide +kernel
theorem dX7_scandal_20 : decode mX7_scandal.2.1 20 = .ok (.invokestatic 57, 3) := by decide +kernel
theorem dX7_scandal_28 : decode mX7_scandal.2.1 28 = .ok (.invokestatic 57, 3) := by decide +kernel
theorem dX7_scandal_34 : decode mX7_scandal.2.1 34 = .ok (.invokestatic 82, 3) := by decide +kernel
theorem dX7_scandal_44 : decode mX7_scandal.2.1 44 = .ok (.return_, 1) := by decide +kernel
def bX7_scandals_0 : List (Nat × Instr) := [(0, .iload_n 1)]
theorem bX7_scandals_0_ok : ∀ q ∈ bX7_scandals_0, decode mX7_scandals.2.1 q.1 = .ok (q.2, aLn q.2) := by decide +kernel
def bX7_scandals_7 : List (Nat × Instr) := [(7, .iload_n 2), (8, .iconst 0), (9, .bipush 7)]
theorem bX7_scandals_7_ok : ∀ q ∈ bX7_scandals_7, decode mX7_scandals.2.1 q.1 = .ok (q.2, aLn q.2) := by decide +kernel
def bX7_scandals_17 : List (Nat × Instr) := [(17, .iload_n 3), (18, .iconst 2), (19, .bipush 20)]
theorem bX7_scandals_17_ok : ∀ q ∈ bX7_scandals_17, decode mX7_scandals.2.1 q.1 = .ok (q.2, aLn q.2) := by decide +kernel
def bX7_scandals_27 : List (Nat × Instr) := [(27, .iload 4), (29, .iconst 0), (30, .iconst 1)]
theorem bX7_scandals_27_ok : ∀ q ∈ bX7_scandals_27, decode mX7_scandals.2.1 q.1 = .ok (q.2, aLn q.2) := by decide +kernel
def bX7_scandals_37 : List (Nat × Instr) := [(37, .ldc2_w 228)]
theorem bX7_scandals_37_ok : ∀ q ∈ bX7_scandals_37, decode mX7_scandals.2.1 q.1 = .ok (q.2, aLn q.2) := by decide +kernel
def bX7_scandals_41 : List (Nat × Instr) := [(41, .lconst 0), (42, .lstore 5), (44, .lconst 1), (45, .lstore 7), (47, .iconst 0), (48, .istore 9)]
theorem bX7_scandals_41_ok : ∀ q ∈ bX7_scandals_41, decode mX7_scandals.2.1 q.1 = .ok (q.2, aLn q.2) := by decide +kernel
def bX7_scandals_50 : List (Nat × Instr) := [(50, .iload 9), (52, .iload_n 2)]
theorem bX7_scandals_50_ok : ∀ q ∈ bX7_scandals_50, decode mX7_scandals.2.1 q.1 = .ok (q.2, aLn q.2) := by decide +kernel
def bX7_scandals_56 : List (Nat × Instr) := [(56, .lload 7), (58, .iload_n 3), (59, .i2l), (60, .lmul), (61, .lstore 7), (63, .iinc 9 1), (66, .goto (-16))]
theorem bX7_scandals_56_ok : ∀ q ∈ bX7_scandals_56, decode mX7_scandals.2.1 q.1 = .ok (q.2, aLn q.2) := by decide +kernel
def bX7_scandals_69 : List (Nat × Instr) := [(69, .iconst 0), (70, .istore 9)]
theorem bX7_scandals_69_ok : ∀ q ∈ bX7_scandals_69, decode mX7_scandals.2.1 q.1 = .ok (q.2, aLn q.2) := by decide +kernel
def bX7_scandals_72 : List (Nat × Instr) := [(72, .iload 9), (74, .iconst 1), (75, .iload_n 2), (76, .ishl)]
theorem bX7_scandals_72_ok : ∀ q ∈ bX7_scandals_72, decode mX7_scandals.2.1 q.1 = .ok (q.2, aLn q.2) := by decide +kernel
def bX7_scandals_80 : List (Nat × Instr) := [(80, .lconst 1), (81, .lstore 10), (83, .aload_n 0), (84, .getfield 9), (87, .aload_n 0), (88, .getfield 13)]
theorem bX7_scandals_80_ok : ∀ q ∈ bX7_scandals_80, decode mX7_scandals.2.1 q.1 = .ok (q.2, aLn q.2) := by decide +kernel
def bX7_scandals_94 : List (Nat × Instr) := [(94, .iconst 0), (95, .istore 12)]
theorem bX7_scandals_94_ok : ∀ q ∈ bX7_scandals_94, decode mX7_scandals.2.1 q.1 = .ok (q.2, aLn q.2) := by decide +kernel
def bX7_scandals_97 : List (Nat × Instr) := [(97, .iload 12), (99, .iload_n 2)]
theorem bX7_scandals_97_ok : ∀ q ∈ bX7_scandals_97, decode mX7_scandals.2.1 q.1 = .ok (q.2, aLn q.2) := by decide +kernel
def bX7_scandals_103 : List (Nat × Instr) := [(103, .lload 10), (105, .iload 9), (107, .iload 12)]
theorem bX7_scandals_103_ok : ∀ q ∈ bX7_scandals_103, decode mX7_scandals.2.1 q.1 = .ok (q.2, aLn q.2) := by decide +kernel
def bX7_scandals_115 : List (Nat × Instr) := [(115, .lconst 1), (116, .goto 7)]
theorem bX7_scandals_115_ok : ∀ q ∈ bX7_scandals_115, decode mX7_scandals.2.1 q.1 = .ok (q.2, aLn q.2) := by decide +kernel
def bX7_scandals_119 : List (Nat × Instr) := [(119, .iload_n 3), (120, .iconst 1), (121, .isub), (122, .i2l)]
theorem bX7_scandals_119_ok : ∀ q ∈ bX7_scandals_119, decode mX7_scandals.2.1 q.1 = .ok (q.2, aLn q.2) := by decide +kernel
def bX7_scandals_123 : List (Nat × Instr) := [(123, .lmul), (124, .lstore 10), (126, .iload 9), (128, .iload 12)]
theorem bX7_scandals_123_ok : ∀ q ∈ bX7_scandals_123, decode mX7_scandals.2.1 q.1 = .ok (q.2, aLn q.2) := by decide +kernel
def bX7_scandals_136 : List (Nat × Instr) := [(136, .aload_n 0), (137, .getfield 13)]
theorem bX7_scandals_136_ok : ∀ q ∈ bX7_scandals_136, decode mX7_scandals.2.1 q.1 = .ok (q.2, aLn q.2) := by decide +kernel
def bX7_scandals_143 : List (Nat × Instr) := [(143, .aload_n 0), (144, .getfield 13)]
theorem bX7_scandals_143_ok : ∀ q ∈ bX7_scandals_143, decode mX7_scandals.2.1 q.1 = .ok (q.2, aLn q.2) := by decide +kernel
def bX7_scandals_150 : List (Nat × Instr) := [(150, .iinc 12 1), (153, .goto (-56))]
theorem bX7_scandals_150_ok : ∀ q ∈ bX7_scandals_150, decode mX7_scandals.2.1 q.1 = .ok (q.2, aLn q.2) := by decide +kernel
def bX7_scandals_156 : List (Nat × Instr) := [(156, .lload 5), (158, .aload_n 0), (159, .getfield 13), (162, .bipush 8), (164, .iload_n 1), (165, .iadd), (166, .iaload)]
theorem bX7_scandals_156_ok : ∀ q ∈ bX7_scandals_156, decode mX7_scandals.2.1 q.1 = .ok (q.2, aLn q.2) := by decide +kernel
def bX7_scandals_170 : List (Nat × Instr) := [(170, .lload 10), (172, .goto 4)]
theorem bX7_scandals_170_ok : ∀ q ∈ bX7_scandals_170, decode mX7_scandals.2.1 q.1 = .ok (q.2, aLn q.2) := by decide +kernel
def bX7_scandals_175 : List (Nat × Instr) := [(175, .lconst 0)]
theorem bX7_scandals_175_ok : ∀ q ∈ bX7_scandals_175, decode mX7_scandals.2.1 q.1 = .ok (q.2, aLn q.2) := by decide +kernel
def bX7_scandals_176 : List (Nat × Instr) := [(176, .ladd), (177, .lstore 5), (179, .iinc 9 1), (182, .goto (-110))]
theorem bX7_scandals_176_ok : ∀ q ∈ bX7_scandals_176, decode mX7_scandals.2.1 q.1 = .ok (q.2, aLn q.2) := by decide +kernel
def bX7_scandals_185 : List (Nat × Instr) := [(185, .lload 5), (187, .lload 7), (189, .iload 4)]
theorem bX7_scandals_185_ok : ∀ q ∈ bX7_scandals_185, decode mX7_scandals.2.1 q.1 = .ok (q.2, aLn q.2) := by decide +kernel
theorem dX7_scandals_1 : decode mX7_scandals.2.1 1 = .ok (.invokestatic 125, 3) := by decide +kernel
theorem dX7_scandals_4 : decode mX7_scandals.2.1 4 = .ok (.ifCond .eq 33, 3) := by decide +kernel
theorem dX7_scandals_11 : decode mX7_scandals.2.1 11 = .ok (.invokestatic 49, 3) := by decide +kernel
theorem dX7_scandals_14 : decode mX7_scandals.2.1 14 = .ok (.ifCond .eq 23, 3) := by decide +kernel
theorem dX7_scandals_21 : decode mX7_scandals.2.1 21 = .ok (.invokestatic 49, 3) := by decide +kernel
theorem dX7_scandals_24 : decode mX7_scandals.2.1 24 = .ok (.ifCond .eq 13, 3) := by decide +kernel
theorem dX7_scandals_31 : decode mX7_scandals.2.1 31 = .ok (.invokestatic 49, 3) := by decide +kernel
theorem dX7_scandals_34 : decode mX7_scandals.2.1 34 = .ok (.ifCond .ne 7, 3) := by decide +kernel
theorem dX7_scandals_40 : decode mX7_scandals.2.1 40 = .ok (.lreturn, 1) := by decide +kernel
theorem dX7_scandals_53 : decode mX7_scandals.2.1 53 = .ok (.if_icmp .ge 16, 3) := by decide +kernel
theorem dX7_scandals_77 : decode mX7_scandals.2.1 77 = .ok (.if_icmp .ge 108, 3) := by decide +kernel
theorem dX7_scandals_91 : decode mX7_scandals.2.1 91 = .ok (.invokestatic 145, 3) := by decide +kernel
theorem dX7_scandals_100 : decode mX7_scandals.2.1 100 = .ok (.if_icmp .ge 56, 3) := by decide +kernel
theorem dX7_scandals_109 : decode mX7_scandals.2.1 109 = .ok (.invokestatic 152, 3) := by decide +kernel
theorem dX7_scandals_112 : decode mX7_scandals.2.1 112 = .ok (.ifCond .eq 7, 3) := by decide +kernel
theorem dX7_scandals_130 : decode mX7_scandals.2.1 130 = .ok (.invokestatic 152, 3) := by decide +kernel
theorem dX7_scandals_133 : decode mX7_scandals.2.1 133 = .ok (.ifCond .eq 10, 3) := by decide +kernel
theorem dX7_scandals_140 : decode mX7_scandals.2.1 140 = .ok (.invokestatic 230, 3) := by decide +kernel
theorem dX7_scandals_147 : decode mX7_scandals.2.1 147 = .ok (.invokestatic 95, 3) := by decide +kernel
theorem dX7_scandals_167 : decode mX7_scandals.2.1 167 = .ok (.ifCond .lt 8, 3) := by decide +kernel
theorem dX7_scandals_191 : decode mX7_scandals.2.1 191 = .ok (.invokestatic 233, 3) := by decide +kernel
theorem dX7_scandals_194 : decode mX7_scandals.2.1 194 = .ok (.lreturn, 1) := by decide +kernel
def bX7_mean_0 : List (Nat × Instr) := [(0, .iload_n 1), (1, .iconst 0), (2, .iconst 1)]
theorem bX7_mean_0_ok : ∀ q ∈ bX7_mean_0, decode mX7_mean.2.1 q.1 = .ok (q.2, aLn q.2) := by decide +kernel
def bX7_mean_9 : List (Nat × Instr) := [(9, .aload_n 0), (10, .getfield 9)]
theorem bX7_mean_9_ok : ∀ q ∈ bX7_mean_9, decode mX7_mean.2.1 q.1 = .ok (q.2, aLn q.2) := by decide +kernel
def bX7_mean_16 : List (Nat × Instr) := [(16, .i2l), (17, .aload_n 0), (18, .getfield 9), (21, .iconst 0), (22, .iaload), (23, .i2l), (24, .iload_n 1)]
theorem bX7_mean_16_ok : ∀ q ∈ bX7_mean_16, decode mX7_mean.2.1 q.1 = .ok (q.2, aLn q.2) := by decide +kernel
def bX7_mean_28 : List (Nat × Instr) := [(28, .goto 6)]
theorem bX7_mean_28_ok : ∀ q ∈ bX7_mean_28, decode mX7_mean.2.1 q.1 = .ok (q.2, aLn q.2) := by decide +kernel
def bX7_mean_31 : List (Nat × Instr) := [(31, .ldc2_w 228)]
theorem bX7_mean_31_ok : ∀ q ∈ bX7_mean_31, decode mX7_mean.2.1 q.1 = .ok (q.2, aLn q.2) := by decide +kernel
theorem dX7_mean_3 : decode mX7_mean.2.1 3 = .ok (.invokestatic 49, 3) := by decide +kernel
theorem dX7_mean_6 : decode mX7_mean.2.1 6 = .ok (.ifCond .eq 25, 3) := by decide +kernel
theorem dX7_mean_13 : decode mX7_mean.2.1 13 = .ok (.invokestatic 237, 3) := by decide +kernel
theorem dX7_mean_25 : decode mX7_mean.2.1 25 = .ok (.invokestatic 233, 3) := by decide +kernel
theorem dX7_mean_34 : decode mX7_mean.2.1 34 = .ok (.lreturn, 1) := by decide +kernel
def bX7_forged_0 : List (Nat × Instr) := [(0, .aload_n 0), (1, .iload_n 1), (2, .iconst (-1))]
theorem bX7_forged_0_ok : ∀ q ∈ bX7_forged_0, decode mX7_forged.2.1 q.1 = .ok (q.2, aLn q.2) := by decide +kernel
def bX7_forged_6 : List (Nat × Instr) := [(6, .istore_n 2), (7, .iload_n 2)]
theorem bX7_forged_6_ok : ∀ q ∈ bX7_forged_6, decode mX7_forged.2.1 q.1 = .ok (q.2, aLn q.2) := by decide +kernel
def bX7_forged_11 : List (Nat × Instr) := [(11, .iload_n 2)]
theorem bX7_forged_11_ok : ∀ q ∈ bX7_forged_11, decode mX7_forged.2.1 q.1 = .ok (q.2, aLn q.2) := by decide +kernel
def bX7_forged_13 : List (Nat × Instr) := [(13, .iconst 0), (14, .istore_n 3)]
theorem bX7_forged_13_ok : ∀ q ∈ bX7_forged_13, decode mX7_forged.2.1 q.1 = .ok (q.2, aLn q.2) := by decide +kernel
def bX7_forged_15 : List (Nat × Instr) := [(15, .iload_n 3), (16, .aload_n 0), (17, .getfield 43), (20, .iload_n 1), (21, .iaload)]
theorem bX7_forged_15_ok : ∀ q ∈ bX7_forged_15, decode mX7_forged.2.1 q.1 = .ok (q.2, aLn q.2) := by decide +kernel
def bX7_forged_25 : List (Nat × Instr) := [(25, .iload_n 3)]
theorem bX7_forged_25_ok : ∀ q ∈ bX7_forged_25, decode mX7_forged.2.1 q.1 = .ok (q.2, aLn q.2) := by decide +kernel
def bX7_forged_32 : List (Nat × Instr) := [(32, .aload_n 0), (33, .getfield 46), (36, .bipush 100), (38, .iload_n 1), (39, .imul), (40, .iload_n 3), (41, .iadd), (42, .iaload), (43, .aload_n 0), (44, .getfield 9), (47, .bipush 8), (49, .iload_n 3), (50, .iadd), (51, .iaload)]
theorem bX7_forged_32_ok : ∀ q ∈ bX7_forged_32, decode mX7_forged.2.1 q.1 = .ok (q.2, aLn q.2) := by decide +kernel
def bX7_forged_55 : List (Nat × Instr) := [(55, .bipush 9), (57, .goto 12)]
theorem bX7_forged_55_ok : ∀ q ∈ bX7_forged_55, decode mX7_forged.2.1 q.1 = .ok (q.2, aLn q.2) := by decide +kernel
def bX7_forged_60 : List (Nat × Instr) := [(60, .aload_n 0), (61, .getfield 9), (64, .bipush 8), (66, .iload_n 3), (67, .iadd), (68, .iaload)]
theorem bX7_forged_60_ok : ∀ q ∈ bX7_forged_60, decode mX7_forged.2.1 q.1 = .ok (q.2, aLn q.2) := by decide +kernel
def bX7_forged_72 : List (Nat × Instr) := [(72, .iload_n 3)]
theorem bX7_forged_72_ok : ∀ q ∈ bX7_forged_72, decode mX7_forged.2.1 q.1 = .ok (q.2, aLn q.2) := by decide +kernel
def bX7_forged_74 : List (Nat × Instr) := [(74, .iinc 3 1), (77, .goto (-62))]
theorem bX7_forged_74_ok : ∀ q ∈ bX7_forged_74, decode mX7_forged.2.1 q.1 = .ok (q.2, aLn q.2) := by decide +kernel
def bX7_forged_80 : List (Nat × Instr) := [(80, .bipush (-4))]
theorem bX7_forged_80_ok : ∀ q ∈ bX7_forged_80, decode mX7_forged.2.1 q.1 = .ok (q.2, aLn q.2) := by decide +kernel
theorem dX7_forged_3 : decode mX7_forged.2.1 3 = .ok (.invokevirtual 138, 3) := by decide +kernel
theorem dX7_forged_8 : decode mX7_forged.2.1 8 = .ok (.ifCond .eq 5, 3) := by decide +kernel
theorem dX7_forged_12 : decode mX7_forged.2.1 12 = .ok (.ireturn, 1) := by decide +kernel
theorem dX7_forged_22 : decode mX7_forged.2.1 22 = .ok (.if_icmp .ge 58, 3) := by decide +kernel
theorem dX7_forged_26 : decode mX7_forged.2.1 26 = .ok (.invokestatic 125, 3) := by decide +kernel
theorem dX7_forged_29 : decode mX7_forged.2.1 29 = .ok (.ifCond .eq 43, 3) := by decide +kernel
theorem dX7_forged_52 : decode mX7_forged.2.1 52 = .ok (.ifCond .ge 8, 3) := by decide +kernel
theorem dX7_forged_69 : decode mX7_forged.2.1 69 = .ok (.if_icmp .eq 5, 3) := by decide +kernel
theorem dX7_forged_73 : decode mX7_forged.2.1 73 = .ok (.ireturn, 1) := by decide +kernel
theorem dX7_forged_82 : decode mX7_forged.2.1 82 = .ok (.ireturn, 1) := by decide +kernel
def bX7_judge_0 : List (Nat × Instr) := [(0, .aload_n 0), (1, .iload_n 1), (2, .iconst (-1))]
theorem bX7_judge_0_ok : ∀ q ∈ bX7_judge_0, decode mX7_judge.2.1 q.1 = .ok (q.2, aLn q.2) := by decide +kernel
def bX7_judge_6 : List (Nat × Instr) := [(6, .istore_n 2), (7, .iload_n 2)]
theorem bX7_judge_6_ok : ∀ q ∈ bX7_judge_6, decode mX7_judge.2.1 q.1 = .ok (q.2, aLn q.2) := by decide +kernel
def bX7_judge_11 : List (Nat × Instr) := [(11, .iload_n 2)]
theorem bX7_judge_11_ok : ∀ q ∈ bX7_judge_11, decode mX7_judge.2.1 q.1 = .ok (q.2, aLn q.2) := by decide +kernel
def bX7_judge_13 : List (Nat × Instr) := [(13, .aload_n 0), (14, .getfield 9), (17, .aload_n 0), (18, .getfield 13)]
theorem bX7_judge_13_ok : ∀ q ∈ bX7_judge_13, decode mX7_judge.2.1 q.1 = .ok (q.2, aLn q.2) := by decide +kernel
def bX7_judge_24 : List (Nat × Instr) := [(24, .iconst 0), (25, .istore_n 3)]
theorem bX7_judge_24_ok : ∀ q ∈ bX7_judge_24, decode mX7_judge.2.1 q.1 = .ok (q.2, aLn q.2) := by decide +kernel
def bX7_judge_26 : List (Nat × Instr) := [(26, .iload_n 3), (27, .aload_n 0), (28, .getfield 43), (31, .iload_n 1), (32, .iaload)]
theorem bX7_judge_26_ok : ∀ q ∈ bX7_judge_26, decode mX7_judge.2.1 q.1 = .ok (q.2, aLn q.2) := by decide +kernel
def bX7_judge_36 : List (Nat × Instr) := [(36, .aload_n 0), (37, .iload_n 1), (38, .iload_n 3), (39, .aload_n 0), (40, .getfield 13)]
theorem bX7_judge_36_ok : ∀ q ∈ bX7_judge_36, decode mX7_judge.2.1 q.1 = .ok (q.2, aLn q.2) := by decide +kernel
def bX7_judge_55 : List (Nat × Instr) := [(55, .iload_n 3)]
theorem bX7_judge_55_ok : ∀ q ∈ bX7_judge_55, decode mX7_judge.2.1 q.1 = .ok (q.2, aLn q.2) := by decide +kernel
def bX7_judge_57 : List (Nat × Instr) := [(57, .aload_n 0), (58, .getfield 13)]
theorem bX7_judge_57_ok : ∀ q ∈ bX7_judge_57, decode mX7_judge.2.1 q.1 = .ok (q.2, aLn q.2) := by decide +kernel
def bX7_judge_64 : List (Nat × Instr) := [(64, .iinc 3 1), (67, .goto (-41))]
theorem bX7_judge_64_ok : ∀ q ∈ bX7_judge_64, decode mX7_judge.2.1 q.1 = .ok (q.2, aLn q.2) := by decide +kernel
def bX7_judge_70 : List (Nat × Instr) := [(70, .bipush (-4))]
theorem bX7_judge_70_ok : ∀ q ∈ bX7_judge_70, decode mX7_judge.2.1 q.1 = .ok (q.2, aLn q.2) := by decide +kernel
theorem dX7_judge_3 : decode mX7_judge.2.1 3 = .ok (.invokevirtual 138, 3) := by decide +kernel
theorem dX7_judge_8 : decode mX7_judge.2.1 8 = .ok (.ifCond .eq 5, 3) := by decide +kernel
theorem dX7_judge_12 : decode mX7_judge.2.1 12 = .ok (.ireturn, 1) := by decide +kernel
theorem dX7_judge_21 : decode mX7_judge.2.1 21 = .ok (.invokestatic 145, 3) := by decide +kernel
theorem dX7_judge_33 : decode mX7_judge.2.1 33 = .ok (.if_icmp .ge 37, 3) := by decide +kernel
theorem dX7_judge_43 : decode mX7_judge.2.1 43 = .ok (.invokestatic 177, 3) := by decide +kernel
theorem dX7_judge_46 : decode mX7_judge.2.1 46 = .ok (.invokestatic 155, 3) := by decide +kernel
theorem dX7_judge_49 : decode mX7_judge.2.1 49 = .ok (.invokevirtual 217, 3) := by decide +kernel
theorem dX7_judge_52 : decode mX7_judge.2.1 52 = .ok (.ifCond .ne 5, 3) := by decide +kernel
theorem dX7_judge_56 : decode mX7_judge.2.1 56 = .ok (.ireturn, 1) := by decide +kernel
theorem dX7_judge_61 : decode mX7_judge.2.1 61 = .ok (.invokestatic 95, 3) := by decide +kernel
theorem dX7_judge_72 : decode mX7_judge.2.1 72 = .ok (.ireturn, 1) := by decide +kernel
def bX7_drawn_0 : List (Nat × Instr) := [(0, .aload_n 0), (1, .aload_n 0), (2, .getfield 240), (5, .ldc 243), (7, .imul), (8, .sipush 12345), (11, .iadd), (12, .putfield 240), (15, .aload_n 0), (16, .getfield 240), (19, .ldc 244), (21, .iand), (22, .ldc 245), (24, .idiv), (25, .iload_n 1), (26, .irem)]
theorem bX7_drawn_0_ok : ∀ q ∈ bX7_drawn_0, decode mX7_drawn.2.1 q.1 = .ok (q.2, aLn q.2) := by decide +kernel
theorem dX7_drawn_27 : decode mX7_drawn.2.1 27 = .ok (.ireturn, 1) := by decide +kernel
def bX7_years_0 : List (Nat × Instr) := [(0, .iload_n 1), (1, .iconst 1), (2, .bipush 20)]
theorem bX7_years_0_ok : ∀ q ∈ bX7_years_0, decode mX7_years.2.1 q.1 = .ok (q.2, aLn q.2) := by decide +kernel
def bX7_years_10 : List (Nat × Instr) := [(10, .iload_n 3), (11, .iconst 0), (12, .iconst 1)]
theorem bX7_years_10_ok : ∀ q ∈ bX7_years_10, decode mX7_years.2.1 q.1 = .ok (q.2, aLn q.2) := by decide +kernel
def bX7_years_19 : List (Nat × Instr) := [(19, .iconst (-1))]
theorem bX7_years_19_ok : ∀ q ∈ bX7_years_19, decode mX7_years.2.1 q.1 = .ok (q.2, aLn q.2) := by decide +kernel
def bX7_years_21 : List (Nat × Instr) := [(21, .aload_n 0), (22, .iload_n 2), (23, .putfield 240), (26, .iconst 0), (27, .istore 4), (29, .iconst 0), (30, .istore 5)]
theorem bX7_years_21_ok : ∀ q ∈ bX7_years_21, decode mX7_years.2.1 q.1 = .ok (q.2, aLn q.2) := by decide +kernel
def bX7_years_32 : List (Nat × Instr) := [(32, .iload 5), (34, .iload_n 1)]
theorem bX7_years_32_ok : ∀ q ∈ bX7_years_32, decode mX7_years.2.1 q.1 = .ok (q.2, aLn q.2) := by decide +kernel
def bX7_years_38 : List (Nat × Instr) := [(38, .aload_n 0), (39, .getfield 9), (42, .aload_n 0), (43, .getfield 13)]
theorem bX7_years_38_ok : ∀ q ∈ bX7_years_38, decode mX7_years.2.1 q.1 = .ok (q.2, aLn q.2) := by decide +kernel
def bX7_years_49 : List (Nat × Instr) := [(49, .iconst 0), (50, .istore 6)]
theorem bX7_years_49_ok : ∀ q ∈ bX7_years_49, decode mX7_years.2.1 q.1 = .ok (q.2, aLn q.2) := by decide +kernel
def bX7_years_52 : List (Nat × Instr) := [(52, .iload 6), (54, .iconst 5)]
theorem bX7_years_52_ok : ∀ q ∈ bX7_years_52, decode mX7_years.2.1 q.1 = .ok (q.2, aLn q.2) := by decide +kernel
def bX7_years_58 : List (Nat × Instr) := [(58, .aload_n 0), (59, .getfield 13), (62, .iconst 3), (63, .iload 6), (65, .iadd), (66, .aload_n 0), (67, .bipush 10)]
theorem bX7_years_58_ok : ∀ q ∈ bX7_years_58, decode mX7_years.2.1 q.1 = .ok (q.2, aLn q.2) := by decide +kernel
def bX7_years_72 : List (Nat × Instr) := [(72, .iastore), (73, .iinc 6 1), (76, .goto (-24))]
theorem bX7_years_72_ok : ∀ q ∈ bX7_years_72, decode mX7_years.2.1 q.1 = .ok (q.2, aLn q.2) := by decide +kernel
def bX7_years_79 : List (Nat × Instr) := [(79, .iconst 0), (80, .istore 6)]
theorem bX7_years_79_ok : ∀ q ∈ bX7_years_79, decode mX7_years.2.1 q.1 = .ok (q.2, aLn q.2) := by decide +kernel
def bX7_years_82 : List (Nat × Instr) := [(82, .iload 6), (84, .aload_n 0), (85, .getfield 9), (88, .iconst 0), (89, .iaload)]
theorem bX7_years_82_ok : ∀ q ∈ bX7_years_82, decode mX7_years.2.1 q.1 = .ok (q.2, aLn q.2) := by decide +kernel
def bX7_years_93 : List (Nat × Instr) := [(93, .aload_n 0), (94, .getfield 13), (97, .iload 6), (99, .iconst 2)]
theorem bX7_years_93_ok : ∀ q ∈ bX7_years_93, decode mX7_years.2.1 q.1 = .ok (q.2, aLn q.2) := by decide +kernel
def bX7_years_103 : List (Nat × Instr) := [(103, .aload_n 0), (104, .bipush 10)]
theorem bX7_years_103_ok : ∀ q ∈ bX7_years_103, decode mX7_years.2.1 q.1 = .ok (q.2, aLn q.2) := by decide +kernel
def bX7_years_109 : List (Nat × Instr) := [(109, .iastore), (110, .iinc 6 1), (113, .goto (-31))]
theorem bX7_years_109_ok : ∀ q ∈ bX7_years_109, decode mX7_years.2.1 q.1 = .ok (q.2, aLn q.2) := by decide +kernel
def bX7_years_116 : List (Nat × Instr) := [(116, .aload_n 0), (117, .getfield 13), (120, .bipush 15)]
theorem bX7_years_116_ok : ∀ q ∈ bX7_years_116, decode mX7_years.2.1 q.1 = .ok (q.2, aLn q.2) := by decide +kernel
def bX7_years_125 : List (Nat × Instr) := [(125, .iload 4), (127, .iload_n 3)]
theorem bX7_years_125_ok : ∀ q ∈ bX7_years_125, decode mX7_years.2.1 q.1 = .ok (q.2, aLn q.2) := by decide +kernel
def bX7_years_131 : List (Nat × Instr) := [(131, .aload_n 0), (132, .getfield 13)]
theorem bX7_years_131_ok : ∀ q ∈ bX7_years_131, decode mX7_years.2.1 q.1 = .ok (q.2, aLn q.2) := by decide +kernel
def bX7_years_141 : List (Nat × Instr) := [(141, .goto 16)]
theorem bX7_years_141_ok : ∀ q ∈ bX7_years_141, decode mX7_years.2.1 q.1 = .ok (q.2, aLn q.2) := by decide +kernel
def bX7_years_144 : List (Nat × Instr) := [(144, .aload_n 0), (145, .getfield 13), (148, .iconst 2), (149, .iaload), (150, .aload_n 0), (151, .getfield 9), (154, .iconst 2), (155, .iaload), (156, .isub)]
theorem bX7_years_144_ok : ∀ q ∈ bX7_years_144, decode mX7_years.2.1 q.1 = .ok (q.2, aLn q.2) := by decide +kernel
def bX7_years_157 : List (Nat × Instr) := [(157, .iadd), (158, .istore 4), (160, .iinc 5 1), (163, .goto (-131))]
theorem bX7_years_157_ok : ∀ q ∈ bX7_years_157, decode mX7_years.2.1 q.1 = .ok (q.2, aLn q.2) := by decide +kernel
def bX7_years_166 : List (Nat × Instr) := [(166, .iload 4)]
theorem bX7_years_166_ok : ∀ q ∈ bX7_years_166, decode mX7_years.2.1 q.1 = .ok (q.2, aLn q.2) := by decide +kernel
theorem dX7_years_4 : decode mX7_years.2.1 4 = .ok (.invokestatic 49, 3) := by decide +kernel
theorem dX7_years_7 : decode mX7_years.2.1 7 = .ok (.ifCond .eq 12, 3) := by decide +kernel
theorem dX7_years_13 : decode mX7_years.2.1 13 = .ok (.invokestatic 49, 3) := by decide +kernel
theorem dX7_years_16 : decode mX7_years.2.1 16 = .ok (.ifCond .ne 5, 3) := by decide +kernel
theorem dX7_years_20 : decode mX7_years.2.1 20 = .ok (.ireturn, 1) := by decide +kernel
theorem dX7_years_35 : decode mX7_years.2.1 35 = .ok (.if_icmp .ge 131, 3) := by decide +kernel
theorem dX7_years_46 : decode mX7_years.2.1 46 = .ok (.invokestatic 145, 3) := by decide +kernel
theorem dX7_years_55 : decode mX7_years.2.1 55 = .ok (.if_icmp .ge 24, 3) := by decide +kernel
theorem dX7_years_69 : decode mX7_years.2.1 69 = .ok (.invokevirtual 246, 3) := by decide +kernel
theorem dX7_years_90 : decode mX7_years.2.1 90 = .ok (.if_icmp .ge 26, 3) := by decide +kernel
theorem dX7_years_100 : decode mX7_years.2.1 100 = .ok (.invokestatic 57, 3) := by decide +kernel
theorem dX7_years_106 : decode mX7_years.2.1 106 = .ok (.invokevirtual 246, 3) := by decide +kernel
theorem dX7_years_122 : decode mX7_years.2.1 122 = .ok (.invokestatic 135, 3) := by decide +kernel
theorem dX7_years_128 : decode mX7_years.2.1 128 = .ok (.ifCond .ne 16, 3) := by decide +kernel
theorem dX7_years_135 : decode mX7_years.2.1 135 = .ok (.invokestatic 177, 3) := by decide +kernel
theorem dX7_years_138 : decode mX7_years.2.1 138 = .ok (.invokestatic 155, 3) := by decide +kernel
theorem dX7_years_168 : decode mX7_years.2.1 168 = .ok (.ireturn, 1) := by decide +kernel
def bX7_image_0 : List (Nat × Instr) := [(0, .aload_n 0), (1, .getfield 9), (4, .aload_n 0), (5, .getfield 16)]
theorem bX7_image_0_ok : ∀ q ∈ bX7_image_0, decode mX7_image.2.1 q.1 = .ok (q.2, aLn q.2) := by decide +kernel
def bX7_image_11 : List (Nat × Instr) := [(11, .aload_n 0), (12, .iconst 1), (13, .putfield 249), (16, .aload_n 0), (17, .getfield 9), (20, .iconst 1), (21, .iaload)]
theorem bX7_image_11_ok : ∀ q ∈ bX7_image_11, decode mX7_image.2.1 q.1 = .ok (q.2, aLn q.2) := by decide +kernel
theorem dX7_image_8 : decode mX7_image.2.1 8 = .ok (.invokestatic 145, 3) := by decide +kernel
theorem dX7_image_22 : decode mX7_image.2.1 22 = .ok (.ireturn, 1) := by decide +kernel
def bX7_restore_0 : List (Nat × Instr) := [(0, .aload_n 0), (1, .getfield 249)]
theorem bX7_restore_0_ok : ∀ q ∈ bX7_restore_0, decode mX7_restore.2.1 q.1 = .ok (q.2, aLn q.2) := by decide +kernel
def bX7_restore_7 : List (Nat × Instr) := [(7, .bipush (-3))]
theorem bX7_restore_7_ok : ∀ q ∈ bX7_restore_7, decode mX7_restore.2.1 q.1 = .ok (q.2, aLn q.2) := by decide +kernel
def bX7_restore_10 : List (Nat × Instr) := [(10, .aload_n 0), (11, .getfield 16), (14, .aload_n 0), (15, .getfield 9)]
theorem bX7_restore_10_ok : ∀ q ∈ bX7_restore_10, decode mX7_restore.2.1 q.1 = .ok (q.2, aLn q.2) := by decide +kernel
def bX7_restore_21 : List (Nat × Instr) := [(21, .aload_n 0), (22, .getfield 9), (25, .iconst 1), (26, .iaload)]
theorem bX7_restore_21_ok : ∀ q ∈ bX7_restore_21, decode mX7_restore.2.1 q.1 = .ok (q.2, aLn q.2) := by decide +kernel
theorem dX7_restore_4 : decode mX7_restore.2.1 4 = .ok (.ifCond .ne 6, 3) := by decide +kernel
theorem dX7_restore_9 : decode mX7_restore.2.1 9 = .ok (.ireturn, 1) := by decide +kernel
theorem dX7_restore_18 : decode mX7_restore.2.1 18 = .ok (.invokestatic 145, 3) := by decide +kernel
theorem dX7_restore_27 : decode mX7_restore.2.1 27 = .ok (.ireturn, 1) := by decide +kernel
def bX7_count_0 : List (Nat × Instr) := [(0, .iload_n 1), (1, .iconst 0), (2, .iconst 2)]
theorem bX7_count_0_ok : ∀ q ∈ bX7_count_0, decode mX7_count.2.1 q.1 = .ok (q.2, aLn q.2) := by decide +kernel
def bX7_count_9 : List (Nat × Instr) := [(9, .aload_n 0), (10, .getfield 9), (13, .iload_n 1), (14, .iaload), (15, .goto 34)]
theorem bX7_count_9_ok : ∀ q ∈ bX7_count_9, decode mX7_count.2.1 q.1 = .ok (q.2, aLn q.2) := by decide +kernel
def bX7_count_18 : List (Nat × Instr) := [(18, .iload_n 1), (19, .iconst 3)]
theorem bX7_count_18_ok : ∀ q ∈ bX7_count_18, decode mX7_count.2.1 q.1 = .ok (q.2, aLn q.2) := by decide +kernel
def bX7_count_23 : List (Nat × Instr) := [(23, .aload_n 0), (24, .getfield 9)]
theorem bX7_count_23_ok : ∀ q ∈ bX7_count_23, decode mX7_count.2.1 q.1 = .ok (q.2, aLn q.2) := by decide +kernel
def bX7_count_30 : List (Nat × Instr) := [(30, .goto 19)]
theorem bX7_count_30_ok : ∀ q ∈ bX7_count_30, decode mX7_count.2.1 q.1 = .ok (q.2, aLn q.2) := by decide +kernel
def bX7_count_33 : List (Nat × Instr) := [(33, .iload_n 1), (34, .iconst 4)]
theorem bX7_count_33_ok : ∀ q ∈ bX7_count_33, decode mX7_count.2.1 q.1 = .ok (q.2, aLn q.2) := by decide +kernel
def bX7_count_38 : List (Nat × Instr) := [(38, .aload_n 0), (39, .getfield 9)]
theorem bX7_count_38_ok : ∀ q ∈ bX7_count_38, decode mX7_count.2.1 q.1 = .ok (q.2, aLn q.2) := by decide +kernel
def bX7_count_45 : List (Nat × Instr) := [(45, .goto 4)]
theorem bX7_count_45_ok : ∀ q ∈ bX7_count_45, decode mX7_count.2.1 q.1 = .ok (q.2, aLn q.2) := by decide +kernel
def bX7_count_48 : List (Nat × Instr) := [(48, .iconst (-1))]
theorem bX7_count_48_ok : ∀ q ∈ bX7_count_48, decode mX7_count.2.1 q.1 = .ok (q.2, aLn q.2) := by decide +kernel
theorem dX7_count_3 : decode mX7_count.2.1 3 = .ok (.invokestatic 49, 3) := by decide +kernel
theorem dX7_count_6 : decode mX7_count.2.1 6 = .ok (.ifCond .eq 12, 3) := by decide +kernel
theorem dX7_count_20 : decode mX7_count.2.1 20 = .ok (.if_icmp .ne 13, 3) := by decide +kernel
theorem dX7_count_27 : decode mX7_count.2.1 27 = .ok (.invokestatic 177, 3) := by decide +kernel
theorem dX7_count_35 : decode mX7_count.2.1 35 = .ok (.if_icmp .ne 13, 3) := by decide +kernel
theorem dX7_count_42 : decode mX7_count.2.1 42 = .ok (.invokestatic 237, 3) := by decide +kernel
theorem dX7_count_49 : decode mX7_count.2.1 49 = .ok (.ireturn, 1) := by decide +kernel
def bX7_thrown_0 : List (Nat × Instr) := [(0, .aload_n 0), (1, .getfield 253)]
theorem bX7_thrown_0_ok : ∀ q ∈ bX7_thrown_0, decode mX7_thrown.2.1 q.1 = .ok (q.2, aLn q.2) := by decide +kernel
theorem dX7_thrown_4 : decode mX7_thrown.2.1 4 = .ok (.ireturn, 1) := by decide +kernel
def bX7_isShelf_0 : List (Nat × Instr) := [(0, .iload_n 0), (1, .iconst 0), (2, .bipush 7)]
theorem bX7_isShelf_0_ok : ∀ q ∈ bX7_isShelf_0, decode mX7_isShelf.2.1 q.1 = .ok (q.2, aLn q.2) := by decide +kernel
theorem dX7_isShelf_4 : decode mX7_isShelf.2.1 4 = .ok (.invokestatic 49, 3) := by decide +kernel
theorem dX7_isShelf_7 : decode mX7_isShelf.2.1 7 = .ok (.ireturn, 1) := by decide +kernel
def bX7_wrongRow_0 : List (Nat × Instr) := [(0, .iload_n 1)]
theorem bX7_wrongRow_0_ok : ∀ q ∈ bX7_wrongRow_0, decode mX7_wrongRow.2.1 q.1 = .ok (q.2, aLn q.2) := by decide +kernel
def bX7_wrongRow_7 : List (Nat × Instr) := [(7, .iconst (-1)), (8, .goto 47)]
theorem bX7_wrongRow_7_ok : ∀ q ∈ bX7_wrongRow_7, decode mX7_wrongRow.2.1 q.1 = .ok (q.2, aLn q.2) := by decide +kernel
def bX7_wrongRow_11 : List (Nat × Instr) := [(11, .aload_n 0), (12, .getfield 31), (15, .iload_n 1), (16, .iaload)]
theorem bX7_wrongRow_11_ok : ∀ q ∈ bX7_wrongRow_11, decode mX7_wrongRow.2.1 q.1 = .ok (q.2, aLn q.2) := by decide +kernel
def bX7_wrongRow_20 : List (Nat × Instr) := [(20, .bipush (-11)), (22, .goto 33)]
theorem bX7_wrongRow_20_ok : ∀ q ∈ bX7_wrongRow_20, decode mX7_wrongRow.2.1 q.1 = .ok (q.2, aLn q.2) := by decide +kernel
def bX7_wrongRow_25 : List (Nat × Instr) := [(25, .aload_n 0), (26, .getfield 31), (29, .iload_n 1), (30, .iaload), (31, .iconst 2)]
theorem bX7_wrongRow_25_ok : ∀ q ∈ bX7_wrongRow_25, decode mX7_wrongRow.2.1 q.1 = .ok (q.2, aLn q.2) := by decide +kernel
def bX7_wrongRow_35 : List (Nat × Instr) := [(35, .iload_n 2)]
theorem bX7_wrongRow_35_ok : ∀ q ∈ bX7_wrongRow_35, decode mX7_wrongRow.2.1 q.1 = .ok (q.2, aLn q.2) := by decide +kernel
def bX7_wrongRow_39 : List (Nat × Instr) := [(39, .aload_n 0), (40, .getfield 40), (43, .iload_n 1), (44, .iaload), (45, .iload_n 2)]
theorem bX7_wrongRow_39_ok : ∀ q ∈ bX7_wrongRow_39, decode mX7_wrongRow.2.1 q.1 = .ok (q.2, aLn q.2) := by decide +kernel
def bX7_wrongRow_49 : List (Nat × Instr) := [(49, .bipush (-12)), (51, .goto 4)]
theorem bX7_wrongRow_49_ok : ∀ q ∈ bX7_wrongRow_49, decode mX7_wrongRow.2.1 q.1 = .ok (q.2, aLn q.2) := by decide +kernel
def bX7_wrongRow_54 : List (Nat × Instr) := [(54, .iconst 0)]
theorem bX7_wrongRow_54_ok : ∀ q ∈ bX7_wrongRow_54, decode mX7_wrongRow.2.1 q.1 = .ok (q.2, aLn q.2) := by decide +kernel
theorem dX7_wrongRow_1 : decode mX7_wrongRow.2.1 1 = .ok (.invokestatic 256, 3) := by decide +kernel
theorem dX7_wrongRow_4 : decode mX7_wrongRow.2.1 4 = .ok (.ifCond .ne 7, 3) := by decide +kernel
theorem dX7_wrongRow_17 : decode mX7_wrongRow.2.1 17 = .ok (.ifCond .ne 8, 3) := by decide +kernel
theorem dX7_wrongRow_32 : decode mX7_wrongRow.2.1 32 = .ok (.if_icmp .ne 17, 3) := by decide +kernel
theorem dX7_wrongRow_36 : decode mX7_wrongRow.2.1 36 = .ok (.ifCond .lt 18, 3) := by decide +kernel
theorem dX7_wrongRow_46 : decode mX7_wrongRow.2.1 46 = .ok (.if_icmp .eq 8, 3) := by decide +kernel
theorem dX7_wrongRow_55 : decode mX7_wrongRow.2.1 55 = .ok (.ireturn, 1) := by decide +kernel
def bX7_wrongKept_0 : List (Nat × Instr) := [(0, .iload_n 1)]
theorem bX7_wrongKept_0_ok : ∀ q ∈ bX7_wrongKept_0, decode mX7_wrongKept.2.1 q.1 = .ok (q.2, aLn q.2) := by decide +kernel
def bX7_wrongKept_7 : List (Nat × Instr) := [(7, .iconst (-1)), (8, .goto 33)]
theorem bX7_wrongKept_7_ok : ∀ q ∈ bX7_wrongKept_7, decode mX7_wrongKept.2.1 q.1 = .ok (q.2, aLn q.2) := by decide +kernel
def bX7_wrongKept_11 : List (Nat × Instr) := [(11, .aload_n 0), (12, .getfield 31), (15, .iload_n 1), (16, .iaload)]
theorem bX7_wrongKept_11_ok : ∀ q ∈ bX7_wrongKept_11, decode mX7_wrongKept.2.1 q.1 = .ok (q.2, aLn q.2) := by decide +kernel
def bX7_wrongKept_20 : List (Nat × Instr) := [(20, .bipush (-11)), (22, .goto 19)]
theorem bX7_wrongKept_20_ok : ∀ q ∈ bX7_wrongKept_20, decode mX7_wrongKept.2.1 q.1 = .ok (q.2, aLn q.2) := by decide +kernel
def bX7_wrongKept_25 : List (Nat × Instr) := [(25, .aload_n 0), (26, .getfield 31), (29, .iload_n 1), (30, .iaload), (31, .iconst 2)]
theorem bX7_wrongKept_25_ok : ∀ q ∈ bX7_wrongKept_25, decode mX7_wrongKept.2.1 q.1 = .ok (q.2, aLn q.2) := by decide +kernel
def bX7_wrongKept_35 : List (Nat × Instr) := [(35, .bipush (-12)), (37, .goto 4)]
theorem bX7_wrongKept_35_ok : ∀ q ∈ bX7_wrongKept_35, decode mX7_wrongKept.2.1 q.1 = .ok (q.2, aLn q.2) := by decide +kernel
def bX7_wrongKept_40 : List (Nat × Instr) := [(40, .iconst 0)]
theorem bX7_wrongKept_40_ok : ∀ q ∈ bX7_wrongKept_40, decode mX7_wrongKept.2.1 q.1 = .ok (q.2, aLn q.2) := by decide +kernel
theorem dX7_wrongKept_1 : decode mX7_wrongKept.2.1 1 = .ok (.invokestatic 256, 3) := by decide +kernel
theorem dX7_wrongKept_4 : decode mX7_wrongKept.2.1 4 = .ok (.ifCond .ne 7, 3) := by decide +kernel
theorem dX7_wrongKept_17 : decode mX7_wrongKept.2.1 17 = .ok (.ifCond .ne 8, 3) := by decide +kernel
theorem dX7_wrongKept_32 : decode mX7_wrongKept.2.1 32 = .ok (.if_icmp .ne 8, 3) := by decide +kernel
theorem dX7_wrongKept_41 : decode mX7_wrongKept.2.1 41 = .ok (.ireturn, 1) := by decide +kernel
def bX7_keep_0 : List (Nat × Instr) := [(0, .iload_n 1)]
theorem bX7_keep_0_ok : ∀ q ∈ bX7_keep_0, decode mX7_keep.2.1 q.1 = .ok (q.2, aLn q.2) := by decide +kernel
def bX7_keep_7 : List (Nat × Instr) := [(7, .iload_n 2), (8, .iconst 0), (9, .iconst 1)]
theorem bX7_keep_7_ok : ∀ q ∈ bX7_keep_7, decode mX7_keep.2.1 q.1 = .ok (q.2, aLn q.2) := by decide +kernel
def bX7_keep_16 : List (Nat × Instr) := [(16, .iload_n 2), (17, .iconst 1)]
theorem bX7_keep_16_ok : ∀ q ∈ bX7_keep_16, decode mX7_keep.2.1 q.1 = .ok (q.2, aLn q.2) := by decide +kernel
def bX7_keep_21 : List (Nat × Instr) := [(21, .iload_n 3), (22, .iconst 0), (23, .bipush 7)]
theorem bX7_keep_21_ok : ∀ q ∈ bX7_keep_21, decode mX7_keep.2.1 q.1 = .ok (q.2, aLn q.2) := by decide +kernel
def bX7_keep_31 : List (Nat × Instr) := [(31, .iload 4), (33, .iconst 0), (34, .bipush 9)]
theorem bX7_keep_31_ok : ∀ q ∈ bX7_keep_31, decode mX7_keep.2.1 q.1 = .ok (q.2, aLn q.2) := by decide +kernel
def bX7_keep_42 : List (Nat × Instr) := [(42, .iconst (-1))]
theorem bX7_keep_42_ok : ∀ q ∈ bX7_keep_42, decode mX7_keep.2.1 q.1 = .ok (q.2, aLn q.2) := by decide +kernel
def bX7_keep_44 : List (Nat × Instr) := [(44, .aload_n 0), (45, .getfield 31), (48, .iload_n 1), (49, .iload_n 2), (50, .iastore), (51, .aload_n 0), (52, .getfield 34), (55, .iload_n 1), (56, .iload_n 3), (57, .iastore), (58, .aload_n 0), (59, .getfield 37), (62, .iload_n 1), (63, .iload 4), (65, .iastore), (66, .iconst 0)]
theorem bX7_keep_44_ok : ∀ q ∈ bX7_keep_44, decode mX7_keep.2.1 q.1 = .ok (q.2, aLn q.2) := by decide +kernel
theorem dX7_keep_1 : decode mX7_keep.2.1 1 = .ok (.invokestatic 256, 3) := by decide +kernel
theorem dX7_keep_4 : decode mX7_keep.2.1 4 = .ok (.ifCond .eq 38, 3) := by decide +kernel
theorem dX7_keep_10 : decode mX7_keep.2.1 10 = .ok (.invokestatic 49, 3) := by decide +kernel
theorem dX7_keep_13 : decode mX7_keep.2.1 13 = .ok (.ifCond .eq 29, 3) := by decide +kernel
theorem dX7_keep_18 : decode mX7_keep.2.1 18 = .ok (.if_icmp .ne 26, 3) := by decide +kernel
theorem dX7_keep_25 : decode mX7_keep.2.1 25 = .ok (.invokestatic 49, 3) := by decide +kernel
theorem dX7_keep_28 : decode mX7_keep.2.1 28 = .ok (.ifCond .eq 14, 3) := by decide +kernel
theorem dX7_keep_36 : decode mX7_keep.2.1 36 = .ok (.invokestatic 49, 3) := by decide +kernel
theorem dX7_keep_39 : decode mX7_keep.2.1 39 = .ok (.ifCond .ne 5, 3) := by decide +kernel
theorem dX7_keep_43 : decode mX7_keep.2.1 43 = .ok (.ireturn, 1) := by decide +kernel
theorem dX7_keep_67 : decode mX7_keep.2.1 67 = .ok (.ireturn, 1) := by decide +kernel
def bX7_row_0 : List (Nat × Instr) := [(0, .iload_n 1)]
theorem bX7_row_0_ok : ∀ q ∈ bX7_row_0, decode mX7_row.2.1 q.1 = .ok (q.2, aLn q.2) := by decide +kernel
def bX7_row_7 : List (Nat × Instr) := [(7, .iload_n 2), (8, .iconst 0), (9, .iconst 2)]
theorem bX7_row_7_ok : ∀ q ∈ bX7_row_7, decode mX7_row.2.1 q.1 = .ok (q.2, aLn q.2) := by decide +kernel
def bX7_row_16 : List (Nat × Instr) := [(16, .iload_n 3), (17, .bipush 100)]
theorem bX7_row_16_ok : ∀ q ∈ bX7_row_16, decode mX7_row.2.1 q.1 = .ok (q.2, aLn q.2) := by decide +kernel
def bX7_row_22 : List (Nat × Instr) := [(22, .iconst (-1))]
theorem bX7_row_22_ok : ∀ q ∈ bX7_row_22, decode mX7_row.2.1 q.1 = .ok (q.2, aLn q.2) := by decide +kernel
def bX7_row_24 : List (Nat × Instr) := [(24, .iload_n 3)]
theorem bX7_row_24_ok : ∀ q ∈ bX7_row_24, decode mX7_row.2.1 q.1 = .ok (q.2, aLn q.2) := by decide +kernel
def bX7_row_28 : List (Nat × Instr) := [(28, .bipush (-14))]
theorem bX7_row_28_ok : ∀ q ∈ bX7_row_28, decode mX7_row.2.1 q.1 = .ok (q.2, aLn q.2) := by decide +kernel
def bX7_row_31 : List (Nat × Instr) := [(31, .aload_n 0), (32, .getfield 31), (35, .iload_n 1), (36, .iconst 2), (37, .iastore), (38, .aload_n 0), (39, .getfield 40), (42, .iload_n 1), (43, .iload_n 2), (44, .iastore), (45, .aload_n 0), (46, .getfield 43), (49, .iload_n 1), (50, .iload_n 3), (51, .iastore), (52, .iconst 0), (53, .istore 4)]
theorem bX7_row_31_ok : ∀ q ∈ bX7_row_31, decode mX7_row.2.1 q.1 = .ok (q.2, aLn q.2) := by decide +kernel
def bX7_row_55 : List (Nat × Instr) := [(55, .iload 4), (57, .bipush 100)]
theorem bX7_row_55_ok : ∀ q ∈ bX7_row_55, decode mX7_row.2.1 q.1 = .ok (q.2, aLn q.2) := by decide +kernel
def bX7_row_62 : List (Nat × Instr) := [(62, .aload_n 0), (63, .getfield 46), (66, .bipush 100), (68, .iload_n 1), (69, .imul), (70, .iload 4), (72, .iadd), (73, .iconst 0), (74, .iastore), (75, .iinc 4 1), (78, .goto (-23))]
theorem bX7_row_62_ok : ∀ q ∈ bX7_row_62, decode mX7_row.2.1 q.1 = .ok (q.2, aLn q.2) := by decide +kernel
def bX7_row_81 : List (Nat × Instr) := [(81, .iconst 0)]
theorem bX7_row_81_ok : ∀ q ∈ bX7_row_81, decode mX7_row.2.1 q.1 = .ok (q.2, aLn q.2) := by decide +kernel
theorem dX7_row_1 : decode mX7_row.2.1 1 = .ok (.invokestatic 256, 3) := by decide +kernel
theorem dX7_row_4 : decode mX7_row.2.1 4 = .ok (.ifCond .eq 18, 3) := by decide +kernel
theorem dX7_row_10 : decode mX7_row.2.1 10 = .ok (.invokestatic 49, 3) := by decide +kernel
theorem dX7_row_13 : decode mX7_row.2.1 13 = .ok (.ifCond .eq 9, 3) := by decide +kernel
theorem dX7_row_19 : decode mX7_row.2.1 19 = .ok (.if_icmp .le 5, 3) := by decide +kernel
theorem dX7_row_23 : decode mX7_row.2.1 23 = .ok (.ireturn, 1) := by decide +kernel
theorem dX7_row_25 : decode mX7_row.2.1 25 = .ok (.ifCond .ge 6, 3) := by decide +kernel
theorem dX7_row_30 : decode mX7_row.2.1 30 = .ok (.ireturn, 1) := by decide +kernel
theorem dX7_row_59 : decode mX7_row.2.1 59 = .ok (.if_icmp .ge 22, 3) := by decide +kernel
theorem dX7_row_82 : decode mX7_row.2.1 82 = .ok (.ireturn, 1) := by decide +kernel
def bX7_put_0 : List (Nat × Instr) := [(0, .aload_n 0), (1, .iload_n 1), (2, .iconst (-1))]
theorem bX7_put_0_ok : ∀ q ∈ bX7_put_0, decode mX7_put.2.1 q.1 = .ok (q.2, aLn q.2) := by decide +kernel
def bX7_put_6 : List (Nat × Instr) := [(6, .istore 4), (8, .iload 4)]
theorem bX7_put_6_ok : ∀ q ∈ bX7_put_6, decode mX7_put.2.1 q.1 = .ok (q.2, aLn q.2) := by decide +kernel
def bX7_put_13 : List (Nat × Instr) := [(13, .iload 4)]
theorem bX7_put_13_ok : ∀ q ∈ bX7_put_13, decode mX7_put.2.1 q.1 = .ok (q.2, aLn q.2) := by decide +kernel
def bX7_put_16 : List (Nat × Instr) := [(16, .iload_n 2), (17, .iconst 0), (18, .aload_n 0), (19, .getfield 43), (22, .iload_n 1), (23, .iaload), (24, .iconst 1), (25, .isub)]
theorem bX7_put_16_ok : ∀ q ∈ bX7_put_16, decode mX7_put.2.1 q.1 = .ok (q.2, aLn q.2) := by decide +kernel
def bX7_put_32 : List (Nat × Instr) := [(32, .bipush (-13))]
theorem bX7_put_32_ok : ∀ q ∈ bX7_put_32, decode mX7_put.2.1 q.1 = .ok (q.2, aLn q.2) := by decide +kernel
def bX7_put_35 : List (Nat × Instr) := [(35, .aload_n 0), (36, .getfield 46), (39, .bipush 100), (41, .iload_n 1), (42, .imul), (43, .iload_n 2), (44, .iadd), (45, .aload_n 0), (46, .getfield 40), (49, .iload_n 1), (50, .iaload)]
theorem bX7_put_35_ok : ∀ q ∈ bX7_put_35, decode mX7_put.2.1 q.1 = .ok (q.2, aLn q.2) := by decide +kernel
def bX7_put_54 : List (Nat × Instr) := [(54, .iload_n 3), (55, .i2b), (56, .goto 19)]
theorem bX7_put_54_ok : ∀ q ∈ bX7_put_54, decode mX7_put.2.1 q.1 = .ok (q.2, aLn q.2) := by decide +kernel
def bX7_put_59 : List (Nat × Instr) := [(59, .aload_n 0), (60, .getfield 40), (63, .iload_n 1), (64, .iaload), (65, .iconst 1)]
theorem bX7_put_59_ok : ∀ q ∈ bX7_put_59, decode mX7_put.2.1 q.1 = .ok (q.2, aLn q.2) := by decide +kernel
def bX7_put_69 : List (Nat × Instr) := [(69, .iload_n 3), (70, .i2s), (71, .goto 4)]
theorem bX7_put_69_ok : ∀ q ∈ bX7_put_69, decode mX7_put.2.1 q.1 = .ok (q.2, aLn q.2) := by decide +kernel
def bX7_put_74 : List (Nat × Instr) := [(74, .iload_n 3)]
theorem bX7_put_74_ok : ∀ q ∈ bX7_put_74, decode mX7_put.2.1 q.1 = .ok (q.2, aLn q.2) := by decide +kernel
def bX7_put_75 : List (Nat × Instr) := [(75, .iastore), (76, .iconst 0)]
theorem bX7_put_75_ok : ∀ q ∈ bX7_put_75, decode mX7_put.2.1 q.1 = .ok (q.2, aLn q.2) := by decide +kernel
theorem dX7_put_3 : decode mX7_put.2.1 3 = .ok (.invokevirtual 138, 3) := by decide +kernel
theorem dX7_put_10 : decode mX7_put.2.1 10 = .ok (.ifCond .eq 6, 3) := by decide +kernel
theorem dX7_put_15 : decode mX7_put.2.1 15 = .ok (.ireturn, 1) := by decide +kernel
theorem dX7_put_26 : decode mX7_put.2.1 26 = .ok (.invokestatic 49, 3) := by decide +kernel
theorem dX7_put_29 : decode mX7_put.2.1 29 = .ok (.ifCond .ne 6, 3) := by decide +kernel
theorem dX7_put_34 : decode mX7_put.2.1 34 = .ok (.ireturn, 1) := by decide +kernel
theorem dX7_put_51 : decode mX7_put.2.1 51 = .ok (.ifCond .ne 8, 3) := by decide +kernel
theorem dX7_put_66 : decode mX7_put.2.1 66 = .ok (.if_icmp .ne 8, 3) := by decide +kernel
theorem dX7_put_77 : decode mX7_put.2.1 77 = .ok (.ireturn, 1) := by decide +kernel
def bX7_element_0 : List (Nat × Instr) := [(0, .aload_n 0), (1, .iload_n 1)]
theorem bX7_element_0_ok : ∀ q ∈ bX7_element_0, decode mX7_element.2.1 q.1 = .ok (q.2, aLn q.2) := by decide +kernel
def bX7_element_8 : List (Nat × Instr) := [(8, .iconst 1), (9, .goto 34)]
theorem bX7_element_8_ok : ∀ q ∈ bX7_element_8, decode mX7_element.2.1 q.1 = .ok (q.2, aLn q.2) := by decide +kernel
def bX7_element_12 : List (Nat × Instr) := [(12, .aload_n 0), (13, .getfield 31), (16, .iload_n 1), (17, .iaload), (18, .iconst 2)]
theorem bX7_element_12_ok : ∀ q ∈ bX7_element_12, decode mX7_element.2.1 q.1 = .ok (q.2, aLn q.2) := by decide +kernel
def bX7_element_22 : List (Nat × Instr) := [(22, .iload_n 2), (23, .iconst 0), (24, .aload_n 0), (25, .getfield 43), (28, .iload_n 1), (29, .iaload), (30, .iconst 1), (31, .isub)]
theorem bX7_element_22_ok : ∀ q ∈ bX7_element_22, decode mX7_element.2.1 q.1 = .ok (q.2, aLn q.2) := by decide +kernel
def bX7_element_38 : List (Nat × Instr) := [(38, .iconst 2), (39, .goto 4)]
theorem bX7_element_38_ok : ∀ q ∈ bX7_element_38, decode mX7_element.2.1 q.1 = .ok (q.2, aLn q.2) := by decide +kernel
def bX7_element_42 : List (Nat × Instr) := [(42, .iconst 0)]
theorem bX7_element_42_ok : ∀ q ∈ bX7_element_42, decode mX7_element.2.1 q.1 = .ok (q.2, aLn q.2) := by decide +kernel
def bX7_element_43 : List (Nat × Instr) := [(43, .putfield 253), (46, .aload_n 0), (47, .getfield 253)]
theorem bX7_element_43_ok : ∀ q ∈ bX7_element_43, decode mX7_element.2.1 q.1 = .ok (q.2, aLn q.2) := by decide +kernel
def bX7_element_53 : List (Nat × Instr) := [(53, .aload_n 0), (54, .getfield 46), (57, .bipush 100), (59, .iload_n 1), (60, .imul), (61, .iload_n 2), (62, .iadd), (63, .iaload), (64, .i2l), (65, .goto 4)]
theorem bX7_element_53_ok : ∀ q ∈ bX7_element_53, decode mX7_element.2.1 q.1 = .ok (q.2, aLn q.2) := by decide +kernel
def bX7_element_68 : List (Nat × Instr) := [(68, .lconst 0)]
theorem bX7_element_68_ok : ∀ q ∈ bX7_element_68, decode mX7_element.2.1 q.1 = .ok (q.2, aLn q.2) := by decide +kernel
theorem dX7_element_2 : decode mX7_element.2.1 2 = .ok (.invokestatic 256, 3) := by decide +kernel
theorem dX7_element_5 : decode mX7_element.2.1 5 = .ok (.ifCond .ne 7, 3) := by decide +kernel
theorem dX7_element_19 : decode mX7_element.2.1 19 = .ok (.if_icmp .ne 19, 3) := by decide +kernel
theorem dX7_element_32 : decode mX7_element.2.1 32 = .ok (.invokestatic 49, 3) := by decide +kernel
theorem dX7_element_35 : decode mX7_element.2.1 35 = .ok (.ifCond .ne 7, 3) := by decide +kernel
theorem dX7_element_50 : decode mX7_element.2.1 50 = .ok (.ifCond .ne 18, 3) := by decide +kernel
theorem dX7_element_69 : decode mX7_element.2.1 69 = .ok (.lreturn, 1) := by decide +kernel
def bX7_copy_0 : List (Nat × Instr) := [(0, .iload_n 1)]
theorem bX7_copy_0_ok : ∀ q ∈ bX7_copy_0, decode mX7_copy.2.1 q.1 = .ok (q.2, aLn q.2) := by decide +kernel
def bX7_copy_7 : List (Nat × Instr) := [(7, .iload_n 3)]
theorem bX7_copy_7_ok : ∀ q ∈ bX7_copy_7, decode mX7_copy.2.1 q.1 = .ok (q.2, aLn q.2) := by decide +kernel
def bX7_copy_14 : List (Nat × Instr) := [(14, .iconst (-1))]
theorem bX7_copy_14_ok : ∀ q ∈ bX7_copy_14, decode mX7_copy.2.1 q.1 = .ok (q.2, aLn q.2) := by decide +kernel
def bX7_copy_16 : List (Nat × Instr) := [(16, .aload_n 0), (17, .getfield 31), (20, .iload_n 1), (21, .iaload)]
theorem bX7_copy_16_ok : ∀ q ∈ bX7_copy_16, decode mX7_copy.2.1 q.1 = .ok (q.2, aLn q.2) := by decide +kernel
def bX7_copy_25 : List (Nat × Instr) := [(25, .aload_n 0), (26, .getfield 31), (29, .iload_n 3), (30, .iaload)]
theorem bX7_copy_25_ok : ∀ q ∈ bX7_copy_25, decode mX7_copy.2.1 q.1 = .ok (q.2, aLn q.2) := by decide +kernel
def bX7_copy_34 : List (Nat × Instr) := [(34, .bipush (-11))]
theorem bX7_copy_34_ok : ∀ q ∈ bX7_copy_34, decode mX7_copy.2.1 q.1 = .ok (q.2, aLn q.2) := by decide +kernel
def bX7_copy_37 : List (Nat × Instr) := [(37, .aload_n 0), (38, .getfield 31), (41, .iload_n 1), (42, .iaload), (43, .iconst 2)]
theorem bX7_copy_37_ok : ∀ q ∈ bX7_copy_37, decode mX7_copy.2.1 q.1 = .ok (q.2, aLn q.2) := by decide +kernel
def bX7_copy_47 : List (Nat × Instr) := [(47, .aload_n 0), (48, .getfield 31), (51, .iload_n 3), (52, .iaload), (53, .iconst 2)]
theorem bX7_copy_47_ok : ∀ q ∈ bX7_copy_47, decode mX7_copy.2.1 q.1 = .ok (q.2, aLn q.2) := by decide +kernel
def bX7_copy_57 : List (Nat × Instr) := [(57, .aload_n 0), (58, .getfield 40), (61, .iload_n 1), (62, .iaload), (63, .aload_n 0), (64, .getfield 40), (67, .iload_n 3), (68, .iaload)]
theorem bX7_copy_57_ok : ∀ q ∈ bX7_copy_57, decode mX7_copy.2.1 q.1 = .ok (q.2, aLn q.2) := by decide +kernel
def bX7_copy_72 : List (Nat × Instr) := [(72, .bipush (-12))]
theorem bX7_copy_72_ok : ∀ q ∈ bX7_copy_72, decode mX7_copy.2.1 q.1 = .ok (q.2, aLn q.2) := by decide +kernel
def bX7_copy_75 : List (Nat × Instr) := [(75, .iload 5)]
theorem bX7_copy_75_ok : ∀ q ∈ bX7_copy_75, decode mX7_copy.2.1 q.1 = .ok (q.2, aLn q.2) := by decide +kernel
def bX7_copy_80 : List (Nat × Instr) := [(80, .iload_n 2)]
theorem bX7_copy_80_ok : ∀ q ∈ bX7_copy_80, decode mX7_copy.2.1 q.1 = .ok (q.2, aLn q.2) := by decide +kernel
def bX7_copy_84 : List (Nat × Instr) := [(84, .iload 4)]
theorem bX7_copy_84_ok : ∀ q ∈ bX7_copy_84, decode mX7_copy.2.1 q.1 = .ok (q.2, aLn q.2) := by decide +kernel
def bX7_copy_89 : List (Nat × Instr) := [(89, .iload 5), (91, .aload_n 0), (92, .getfield 43), (95, .iload_n 1), (96, .iaload), (97, .iload_n 2), (98, .isub)]
theorem bX7_copy_89_ok : ∀ q ∈ bX7_copy_89, decode mX7_copy.2.1 q.1 = .ok (q.2, aLn q.2) := by decide +kernel
def bX7_copy_102 : List (Nat × Instr) := [(102, .iload 5), (104, .aload_n 0), (105, .getfield 43), (108, .iload_n 3), (109, .iaload), (110, .iload 4), (112, .isub)]
theorem bX7_copy_102_ok : ∀ q ∈ bX7_copy_102, decode mX7_copy.2.1 q.1 = .ok (q.2, aLn q.2) := by decide +kernel
def bX7_copy_116 : List (Nat × Instr) := [(116, .bipush (-13))]
theorem bX7_copy_116_ok : ∀ q ∈ bX7_copy_116, decode mX7_copy.2.1 q.1 = .ok (q.2, aLn q.2) := by decide +kernel
def bX7_copy_119 : List (Nat × Instr) := [(119, .iconst 0), (120, .istore 6)]
theorem bX7_copy_119_ok : ∀ q ∈ bX7_copy_119, decode mX7_copy.2.1 q.1 = .ok (q.2, aLn q.2) := by decide +kernel
def bX7_copy_122 : List (Nat × Instr) := [(122, .iload 6), (124, .iload 5)]
theorem bX7_copy_122_ok : ∀ q ∈ bX7_copy_122, decode mX7_copy.2.1 q.1 = .ok (q.2, aLn q.2) := by decide +kernel
def bX7_copy_129 : List (Nat × Instr) := [(129, .iload_n 2), (130, .iload 4)]
theorem bX7_copy_129_ok : ∀ q ∈ bX7_copy_129, decode mX7_copy.2.1 q.1 = .ok (q.2, aLn q.2) := by decide +kernel
def bX7_copy_135 : List (Nat × Instr) := [(135, .iload 6), (137, .goto 10)]
theorem bX7_copy_135_ok : ∀ q ∈ bX7_copy_135, decode mX7_copy.2.1 q.1 = .ok (q.2, aLn q.2) := by decide +kernel
def bX7_copy_140 : List (Nat × Instr) := [(140, .iload 5), (142, .iconst 1), (143, .isub), (144, .iload 6), (146, .isub)]
theorem bX7_copy_140_ok : ∀ q ∈ bX7_copy_140, decode mX7_copy.2.1 q.1 = .ok (q.2, aLn q.2) := by decide +kernel
def bX7_copy_147 : List (Nat × Instr) := [(147, .istore 7), (149, .aload_n 0), (150, .getfield 46), (153, .bipush 100), (155, .iload_n 3), (156, .imul), (157, .iload 4), (159, .iadd), (160, .iload 7), (162, .iadd), (163, .aload_n 0), (164, .getfield 46), (167, .bipush 100), (169, .iload_n 1), (170, .imul), (171, .iload_n 2), (172, .iadd), (173, .iload 7), (175, .iadd), (176, .iaload), (177, .iastore), (178, .iinc 6 1), (181, .goto (-59))]
theorem bX7_copy_147_ok : ∀ q ∈ bX7_copy_147, decode mX7_copy.2.1 q.1 = .ok (q.2, aLn q.2) := by decide +kernel
def bX7_copy_184 : List (Nat × Instr) := [(184, .iload 5)]
theorem bX7_copy_184_ok : ∀ q ∈ bX7_copy_184, decode mX7_copy.2.1 q.1 = .ok (q.2, aLn q.2) := by decide +kernel
theorem dX7_copy_1 : decode mX7_copy.2.1 1 = .ok (.invokestatic 256, 3) := by decide +kernel
theorem dX7_copy_4 : decode mX7_copy.2.1 4 = .ok (.ifCond .eq 10, 3) := by decide +kernel
theorem dX7_copy_8 : decode mX7_copy.2.1 8 = .ok (.invokestatic 256, 3) := by decide +kernel
theorem dX7_copy_11 : decode mX7_copy.2.1 11 = .ok (.ifCond .ne 5, 3) := by decide +kernel
theorem dX7_copy_15 : decode mX7_copy.2.1 15 = .ok (.ireturn, 1) := by decide +kernel
theorem dX7_copy_22 : decode mX7_copy.2.1 22 = .ok (.ifCond .eq 12, 3) := by decide +kernel
theorem dX7_copy_31 : decode mX7_copy.2.1 31 = .ok (.ifCond .ne 6, 3) := by decide +kernel
theorem dX7_copy_36 : decode mX7_copy.2.1 36 = .ok (.ireturn, 1) := by decide +kernel
theorem dX7_copy_44 : decode mX7_copy.2.1 44 = .ok (.if_icmp .ne 28, 3) := by decide +kernel
theorem dX7_copy_54 : decode mX7_copy.2.1 54 = .ok (.if_icmp .ne 18, 3) := by decide +kernel
theorem dX7_copy_69 : decode mX7_copy.2.1 69 = .ok (.if_icmp .eq 6, 3) := by decide +kernel
theorem dX7_copy_74 : decode mX7_copy.2.1 74 = .ok (.ireturn, 1) := by decide +kernel
theorem dX7_copy_77 : decode mX7_copy.2.1 77 = .ok (.ifCond .lt 39, 3) := by decide +kernel
theorem dX7_copy_81 : decode mX7_copy.2.1 81 = .ok (.ifCond .lt 35, 3) := by decide +kernel
theorem dX7_copy_86 : decode mX7_copy.2.1 86 = .ok (.ifCond .lt 30, 3) := by decide +kernel
theorem dX7_copy_99 : decode mX7_copy.2.1 99 = .ok (.if_icmp .gt 17, 3) := by decide +kernel
theorem dX7_copy_113 : decode mX7_copy.2.1 113 = .ok (.if_icmp .le 6, 3) := by decide +kernel
theorem dX7_copy_118 : decode mX7_copy.2.1 118 = .ok (.ireturn, 1) := by decide +kernel
theorem dX7_copy_126 : decode mX7_copy.2.1 126 = .ok (.if_icmp .ge 58, 3) := by decide +kernel
theorem dX7_copy_132 : decode mX7_copy.2.1 132 = .ok (.if_icmp .le 8, 3) := by decide +kernel
theorem dX7_copy_186 : decode mX7_copy.2.1 186 = .ok (.ireturn, 1) := by decide +kernel
def bX7_costBy_0 : List (Nat × Instr) := [(0, .iload_n 0)]
theorem bX7_costBy_0_ok : ∀ q ∈ bX7_costBy_0, decode mX7_costBy.2.1 q.1 = .ok (q.2, aLn q.2) := by decide +kernel
def bX7_costBy_44 : List (Nat × Instr) := [(44, .iconst 1)]
theorem bX7_costBy_44_ok : ∀ q ∈ bX7_costBy_44, decode mX7_costBy.2.1 q.1 = .ok (q.2, aLn q.2) := by decide +kernel
def bX7_costBy_46 : List (Nat × Instr) := [(46, .bipush 6)]
theorem bX7_costBy_46_ok : ∀ q ∈ bX7_costBy_46, decode mX7_costBy.2.1 q.1 = .ok (q.2, aLn q.2) := by decide +kernel
def bX7_costBy_49 : List (Nat × Instr) := [(49, .iconst 1), (50, .iload_n 1), (51, .iadd)]
theorem bX7_costBy_49_ok : ∀ q ∈ bX7_costBy_49, decode mX7_costBy.2.1 q.1 = .ok (q.2, aLn q.2) := by decide +kernel
def bX7_costBy_53 : List (Nat × Instr) := [(53, .iconst 0)]
theorem bX7_costBy_53_ok : ∀ q ∈ bX7_costBy_53, decode mX7_costBy.2.1 q.1 = .ok (q.2, aLn q.2) := by decide +kernel
def bX7_costBy_55 : List (Nat × Instr) := [(55, .bipush 8)]
theorem bX7_costBy_55_ok : ∀ q ∈ bX7_costBy_55, decode mX7_costBy.2.1 q.1 = .ok (q.2, aLn q.2) := by decide +kernel
def bX7_costBy_58 : List (Nat × Instr) := [(58, .iconst 4)]
theorem bX7_costBy_58_ok : ∀ q ∈ bX7_costBy_58, decode mX7_costBy.2.1 q.1 = .ok (q.2, aLn q.2) := by decide +kernel
theorem dX7_costBy_1 : decode mX7_costBy.2.1 1 = .ok (.tableswitch 57 1 7 #[43, 45, 48, 52, 54, 43, 43], 43) := by decide +kernel
theorem dX7_costBy_45 : decode mX7_costBy.2.1 45 = .ok (.ireturn, 1) := by decide +kernel
theorem dX7_costBy_48 : decode mX7_costBy.2.1 48 = .ok (.ireturn, 1) := by decide +kernel
theorem dX7_costBy_52 : decode mX7_costBy.2.1 52 = .ok (.ireturn, 1) := by decide +kernel
theorem dX7_costBy_54 : decode mX7_costBy.2.1 54 = .ok (.ireturn, 1) := by decide +kernel
theorem dX7_costBy_57 : decode mX7_costBy.2.1 57 = .ok (.ireturn, 1) := by decide +kernel
theorem dX7_costBy_59 : decode mX7_costBy.2.1 59 = .ok (.ireturn, 1) := by decide +kernel
def bX7_cost_0 : List (Nat × Instr) := [(0, .aload_n 0), (1, .iload_n 1)]
theorem bX7_cost_0_ok : ∀ q ∈ bX7_cost_0, decode mX7_cost.2.1 q.1 = .ok (q.2, aLn q.2) := by decide +kernel
def bX7_cost_5 : List (Nat × Instr) := [(5, .istore_n 2), (6, .iload_n 2)]
theorem bX7_cost_5_ok : ∀ q ∈ bX7_cost_5, decode mX7_cost.2.1 q.1 = .ok (q.2, aLn q.2) := by decide +kernel
def bX7_cost_10 : List (Nat × Instr) := [(10, .iload_n 2), (11, .goto 18)]
theorem bX7_cost_10_ok : ∀ q ∈ bX7_cost_10, decode mX7_cost.2.1 q.1 = .ok (q.2, aLn q.2) := by decide +kernel
def bX7_cost_14 : List (Nat × Instr) := [(14, .aload_n 0), (15, .getfield 34), (18, .iload_n 1), (19, .iaload), (20, .aload_n 0), (21, .getfield 37), (24, .iload_n 1), (25, .iaload)]
theorem bX7_cost_14_ok : ∀ q ∈ bX7_cost_14, decode mX7_cost.2.1 q.1 = .ok (q.2, aLn q.2) := by decide +kernel
theorem dX7_cost_2 : decode mX7_cost.2.1 2 = .ok (.invokevirtual 164, 3) := by decide +kernel
theorem dX7_cost_7 : decode mX7_cost.2.1 7 = .ok (.ifCond .eq 7, 3) := by decide +kernel
theorem dX7_cost_26 : decode mX7_cost.2.1 26 = .ok (.invokestatic 259, 3) := by decide +kernel
theorem dX7_cost_29 : decode mX7_cost.2.1 29 = .ok (.ireturn, 1) := by decide +kernel
def bX7_toss_0 : List (Nat × Instr) := [(0, .aload_n 0), (1, .iload_n 1)]
theorem bX7_toss_0_ok : ∀ q ∈ bX7_toss_0, decode mX7_toss.2.1 q.1 = .ok (q.2, aLn q.2) := by decide +kernel
def bX7_toss_5 : List (Nat × Instr) := [(5, .istore_n 2), (6, .iload_n 2)]
theorem bX7_toss_5_ok : ∀ q ∈ bX7_toss_5, decode mX7_toss.2.1 q.1 = .ok (q.2, aLn q.2) := by decide +kernel
def bX7_toss_10 : List (Nat × Instr) := [(10, .iload_n 2)]
theorem bX7_toss_10_ok : ∀ q ∈ bX7_toss_10, decode mX7_toss.2.1 q.1 = .ok (q.2, aLn q.2) := by decide +kernel
def bX7_toss_12 : List (Nat × Instr) := [(12, .aload_n 0), (13, .getfield 34), (16, .iload_n 1), (17, .iaload), (18, .istore_n 3), (19, .aload_n 0), (20, .getfield 37), (23, .iload_n 1), (24, .iaload), (25, .istore 4), (27, .iload_n 3), (28, .iconst 1)]
theorem bX7_toss_12_ok : ∀ q ∈ bX7_toss_12, decode mX7_toss.2.1 q.1 = .ok (q.2, aLn q.2) := by decide +kernel
def bX7_toss_32 : List (Nat × Instr) := [(32, .iload_n 3), (33, .iconst 3)]
theorem bX7_toss_32_ok : ∀ q ∈ bX7_toss_32, decode mX7_toss.2.1 q.1 = .ok (q.2, aLn q.2) := by decide +kernel
def bX7_toss_37 : List (Nat × Instr) := [(37, .iload_n 3), (38, .bipush 6)]
theorem bX7_toss_37_ok : ∀ q ∈ bX7_toss_37, decode mX7_toss.2.1 q.1 = .ok (q.2, aLn q.2) := by decide +kernel
def bX7_toss_43 : List (Nat × Instr) := [(43, .iload 4)]
theorem bX7_toss_43_ok : ∀ q ∈ bX7_toss_43, decode mX7_toss.2.1 q.1 = .ok (q.2, aLn q.2) := by decide +kernel
def bX7_toss_48 : List (Nat × Instr) := [(48, .bipush (-15))]
theorem bX7_toss_48_ok : ∀ q ∈ bX7_toss_48, decode mX7_toss.2.1 q.1 = .ok (q.2, aLn q.2) := by decide +kernel
def bX7_toss_51 : List (Nat × Instr) := [(51, .iload_n 3), (52, .bipush 7)]
theorem bX7_toss_51_ok : ∀ q ∈ bX7_toss_51, decode mX7_toss.2.1 q.1 = .ok (q.2, aLn q.2) := by decide +kernel
def bX7_toss_57 : List (Nat × Instr) := [(57, .sipush 200), (60, .iload_n 3), (61, .iload 4)]
theorem bX7_toss_57_ok : ∀ q ∈ bX7_toss_57, decode mX7_toss.2.1 q.1 = .ok (q.2, aLn q.2) := by decide +kernel
def bX7_toss_66 : List (Nat × Instr) := [(66, .iadd), (67, .goto 23)]
theorem bX7_toss_66_ok : ∀ q ∈ bX7_toss_66, decode mX7_toss.2.1 q.1 = .ok (q.2, aLn q.2) := by decide +kernel
def bX7_toss_70 : List (Nat × Instr) := [(70, .iload_n 3), (71, .iconst 2)]
theorem bX7_toss_70_ok : ∀ q ∈ bX7_toss_70, decode mX7_toss.2.1 q.1 = .ok (q.2, aLn q.2) := by decide +kernel
def bX7_toss_75 : List (Nat × Instr) := [(75, .iload_n 3), (76, .iconst 4)]
theorem bX7_toss_75_ok : ∀ q ∈ bX7_toss_75, decode mX7_toss.2.1 q.1 = .ok (q.2, aLn q.2) := by decide +kernel
def bX7_toss_80 : List (Nat × Instr) := [(80, .bipush 100), (82, .iload 4), (84, .iadd), (85, .goto 5)]
theorem bX7_toss_80_ok : ∀ q ∈ bX7_toss_80, decode mX7_toss.2.1 q.1 = .ok (q.2, aLn q.2) := by decide +kernel
def bX7_toss_88 : List (Nat × Instr) := [(88, .iload 4)]
theorem bX7_toss_88_ok : ∀ q ∈ bX7_toss_88, decode mX7_toss.2.1 q.1 = .ok (q.2, aLn q.2) := by decide +kernel
theorem dX7_toss_2 : decode mX7_toss.2.1 2 = .ok (.invokevirtual 164, 3) := by decide +kernel
theorem dX7_toss_7 : decode mX7_toss.2.1 7 = .ok (.ifCond .eq 5, 3) := by decide +kernel
theorem dX7_toss_11 : decode mX7_toss.2.1 11 = .ok (.ireturn, 1) := by decide +kernel
theorem dX7_toss_29 : decode mX7_toss.2.1 29 = .ok (.if_icmp .eq 19, 3) := by decide +kernel
theorem dX7_toss_34 : decode mX7_toss.2.1 34 = .ok (.if_icmp .eq 14, 3) := by decide +kernel
theorem dX7_toss_40 : decode mX7_toss.2.1 40 = .ok (.if_icmp .eq 8, 3) := by decide +kernel
theorem dX7_toss_45 : decode mX7_toss.2.1 45 = .ok (.ifCond .ne 6, 3) := by decide +kernel
theorem dX7_toss_50 : decode mX7_toss.2.1 50 = .ok (.ireturn, 1) := by decide +kernel
theorem dX7_toss_54 : decode mX7_toss.2.1 54 = .ok (.if_icmp .ne 16, 3) := by decide +kernel
theorem dX7_toss_63 : decode mX7_toss.2.1 63 = .ok (.invokestatic 61, 3) := by decide +kernel
theorem dX7_toss_72 : decode mX7_toss.2.1 72 = .ok (.if_icmp .eq 8, 3) := by decide +kernel
theorem dX7_toss_77 : decode mX7_toss.2.1 77 = .ok (.if_icmp .ne 11, 3) := by decide +kernel
theorem dX7_toss_90 : decode mX7_toss.2.1 90 = .ok (.ireturn, 1) := by decide +kernel
