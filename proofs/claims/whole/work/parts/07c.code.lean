/-! ===== code ===== -/
def bX6_cabinet_0 : List (Nat × Instr) := [(0, .aload_n 0), (1, .getfield 29), (4, .iload_n 1)]
theorem bX6_cabinet_0_ok : ∀ q ∈ bX6_cabinet_0, decode mX6_cabinet.2.1 q.1 = .ok (q.2, aLn q.2) := by decide +kernel
def bX6_cabinet_8 : List (Nat × Instr) := [(8, .istore_n 2), (9, .iload_n 2)]
theorem bX6_cabinet_8_ok : ∀ q ∈ bX6_cabinet_8, decode mX6_cabinet.2.1 q.1 = .ok (q.2, aLn q.2) := by decide +kernel
def bX6_cabinet_13 : List (Nat × Instr) := [(13, .iload_n 2)]
theorem bX6_cabinet_13_ok : ∀ q ∈ bX6_cabinet_13, decode mX6_cabinet.2.1 q.1 = .ok (q.2, aLn q.2) := by decide +kernel
def bX6_cabinet_15 : List (Nat × Instr) := [(15, .aload_n 0), (16, .getfield 29), (19, .iload_n 1)]
theorem bX6_cabinet_15_ok : ∀ q ∈ bX6_cabinet_15, decode mX6_cabinet.2.1 q.1 = .ok (q.2, aLn q.2) := by decide +kernel
def bX6_cabinet_26 : List (Nat × Instr) := [(26, .bipush (-12))]
theorem bX6_cabinet_26_ok : ∀ q ∈ bX6_cabinet_26, decode mX6_cabinet.2.1 q.1 = .ok (q.2, aLn q.2) := by decide +kernel
def bX6_cabinet_29 : List (Nat × Instr) := [(29, .aload_n 0), (30, .getfield 29), (33, .iload_n 1)]
theorem bX6_cabinet_29_ok : ∀ q ∈ bX6_cabinet_29, decode mX6_cabinet.2.1 q.1 = .ok (q.2, aLn q.2) := by decide +kernel
def bX6_cabinet_37 : List (Nat × Instr) := [(37, .istore_n 3), (38, .iload_n 3), (39, .iconst (-1))]
theorem bX6_cabinet_37_ok : ∀ q ∈ bX6_cabinet_37, decode mX6_cabinet.2.1 q.1 = .ok (q.2, aLn q.2) := by decide +kernel
def bX6_cabinet_43 : List (Nat × Instr) := [(43, .sipush (-1000)), (46, .iload_n 3), (47, .isub)]
theorem bX6_cabinet_43_ok : ∀ q ∈ bX6_cabinet_43, decode mX6_cabinet.2.1 q.1 = .ok (q.2, aLn q.2) := by decide +kernel
def bX6_cabinet_49 : List (Nat × Instr) := [(49, .aload_n 0), (50, .getfield 16), (53, .aload_n 0), (54, .getfield 10)]
theorem bX6_cabinet_49_ok : ∀ q ∈ bX6_cabinet_49, decode mX6_cabinet.2.1 q.1 = .ok (q.2, aLn q.2) := by decide +kernel
def bX6_cabinet_60 : List (Nat × Instr) := [(60, .aload_n 0), (61, .getfield 29), (64, .iload_n 1), (65, .aload_n 0), (66, .getfield 16)]
theorem bX6_cabinet_60_ok : ∀ q ∈ bX6_cabinet_60, decode mX6_cabinet.2.1 q.1 = .ok (q.2, aLn q.2) := by decide +kernel
def bX6_cabinet_72 : List (Nat × Instr) := [(72, .istore 4), (74, .iload 4)]
theorem bX6_cabinet_72_ok : ∀ q ∈ bX6_cabinet_72, decode mX6_cabinet.2.1 q.1 = .ok (q.2, aLn q.2) := by decide +kernel
def bX6_cabinet_79 : List (Nat × Instr) := [(79, .aload_n 0), (80, .getfield 10), (83, .aload_n 0), (84, .getfield 16)]
theorem bX6_cabinet_79_ok : ∀ q ∈ bX6_cabinet_79, decode mX6_cabinet.2.1 q.1 = .ok (q.2, aLn q.2) := by decide +kernel
def bX6_cabinet_90 : List (Nat × Instr) := [(90, .iload 4)]
theorem bX6_cabinet_90_ok : ∀ q ∈ bX6_cabinet_90, decode mX6_cabinet.2.1 q.1 = .ok (q.2, aLn q.2) := by decide +kernel
theorem dX6_cabinet_5 : decode mX6_cabinet.2.1 5 = .ok (.invokevirtual 54, 3) := by decide +kernel
theorem dX6_cabinet_10 : decode mX6_cabinet.2.1 10 = .ok (.ifCond .eq 5, 3) := by decide +kernel
theorem dX6_cabinet_14 : decode mX6_cabinet.2.1 14 = .ok (.ireturn, 1) := by decide +kernel
theorem dX6_cabinet_20 : decode mX6_cabinet.2.1 20 = .ok (.invokevirtual 58, 3) := by decide +kernel
theorem dX6_cabinet_23 : decode mX6_cabinet.2.1 23 = .ok (.ifCond .ne 6, 3) := by decide +kernel
theorem dX6_cabinet_28 : decode mX6_cabinet.2.1 28 = .ok (.ireturn, 1) := by decide +kernel
theorem dX6_cabinet_34 : decode mX6_cabinet.2.1 34 = .ok (.invokestatic 62, 3) := by decide +kernel
theorem dX6_cabinet_40 : decode mX6_cabinet.2.1 40 = .ok (.if_icmp .eq 9, 3) := by decide +kernel
theorem dX6_cabinet_48 : decode mX6_cabinet.2.1 48 = .ok (.ireturn, 1) := by decide +kernel
theorem dX6_cabinet_57 : decode mX6_cabinet.2.1 57 = .ok (.invokevirtual 68, 3) := by decide +kernel
theorem dX6_cabinet_69 : decode mX6_cabinet.2.1 69 = .ok (.invokestatic 72, 3) := by decide +kernel
theorem dX6_cabinet_76 : decode mX6_cabinet.2.1 76 = .ok (.ifCond .lt 14, 3) := by decide +kernel
theorem dX6_cabinet_87 : decode mX6_cabinet.2.1 87 = .ok (.invokevirtual 68, 3) := by decide +kernel
theorem dX6_cabinet_92 : decode mX6_cabinet.2.1 92 = .ok (.ireturn, 1) := by decide +kernel
def bX6_one_0 : List (Nat × Instr) := [(0, .aload_n 0), (1, .getfield 10), (4, .iload_n 1)]
theorem bX6_one_0_ok : ∀ q ∈ bX6_one_0, decode mX6_one.2.1 q.1 = .ok (q.2, aLn q.2) := by decide +kernel
def bX6_one_11 : List (Nat × Instr) := [(11, .iconst (-1))]
theorem bX6_one_11_ok : ∀ q ∈ bX6_one_11, decode mX6_one.2.1 q.1 = .ok (q.2, aLn q.2) := by decide +kernel
def bX6_one_13 : List (Nat × Instr) := [(13, .iload_n 2)]
theorem bX6_one_13_ok : ∀ q ∈ bX6_one_13, decode mX6_one.2.1 q.1 = .ok (q.2, aLn q.2) := by decide +kernel
def bX6_one_60 : List (Nat × Instr) := [(60, .aload_n 0), (61, .getfield 10), (64, .getfield 79), (67, .iload_n 1), (68, .iaload)]
theorem bX6_one_60_ok : ∀ q ∈ bX6_one_60, decode mX6_one.2.1 q.1 = .ok (q.2, aLn q.2) := by decide +kernel
def bX6_one_70 : List (Nat × Instr) := [(70, .aload_n 0), (71, .getfield 10), (74, .getfield 82), (77, .iload_n 1), (78, .iaload)]
theorem bX6_one_70_ok : ∀ q ∈ bX6_one_70, decode mX6_one.2.1 q.1 = .ok (q.2, aLn q.2) := by decide +kernel
def bX6_one_80 : List (Nat × Instr) := [(80, .aload_n 0), (81, .getfield 10), (84, .getfield 85), (87, .iload_n 1), (88, .iaload)]
theorem bX6_one_80_ok : ∀ q ∈ bX6_one_80, decode mX6_one.2.1 q.1 = .ok (q.2, aLn q.2) := by decide +kernel
def bX6_one_90 : List (Nat × Instr) := [(90, .aload_n 0), (91, .getfield 10), (94, .getfield 88), (97, .iload_n 1), (98, .iaload)]
theorem bX6_one_90_ok : ∀ q ∈ bX6_one_90, decode mX6_one.2.1 q.1 = .ok (q.2, aLn q.2) := by decide +kernel
def bX6_one_100 : List (Nat × Instr) := [(100, .aload_n 0), (101, .getfield 10), (104, .getfield 91), (107, .iload_n 1), (108, .iaload)]
theorem bX6_one_100_ok : ∀ q ∈ bX6_one_100, decode mX6_one.2.1 q.1 = .ok (q.2, aLn q.2) := by decide +kernel
def bX6_one_113 : List (Nat × Instr) := [(113, .aload_n 0), (114, .getfield 10), (117, .iload_n 1)]
theorem bX6_one_113_ok : ∀ q ∈ bX6_one_113, decode mX6_one.2.1 q.1 = .ok (q.2, aLn q.2) := by decide +kernel
def bX6_one_122 : List (Nat × Instr) := [(122, .aload_n 0), (123, .getfield 10), (126, .getfield 79), (129, .iload_n 1), (130, .iaload), (131, .aload_n 0), (132, .getfield 10), (135, .getfield 82), (138, .iload_n 1), (139, .iaload)]
theorem bX6_one_122_ok : ∀ q ∈ bX6_one_122, decode mX6_one.2.1 q.1 = .ok (q.2, aLn q.2) := by decide +kernel
def bX6_one_144 : List (Nat × Instr) := [(144, .aload_n 0), (145, .getfield 10), (148, .iload_n 1)]
theorem bX6_one_144_ok : ∀ q ∈ bX6_one_144, decode mX6_one.2.1 q.1 = .ok (q.2, aLn q.2) := by decide +kernel
def bX6_one_153 : List (Nat × Instr) := [(153, .iconst (-1))]
theorem bX6_one_153_ok : ∀ q ∈ bX6_one_153, decode mX6_one.2.1 q.1 = .ok (q.2, aLn q.2) := by decide +kernel
theorem dX6_one_5 : decode mX6_one.2.1 5 = .ok (.invokevirtual 76, 3) := by decide +kernel
theorem dX6_one_8 : decode mX6_one.2.1 8 = .ok (.ifCond .ne 5, 3) := by decide +kernel
theorem dX6_one_12 : decode mX6_one.2.1 12 = .ok (.ireturn, 1) := by decide +kernel
theorem dX6_one_14 : decode mX6_one.2.1 14 = .ok (.tableswitch 139 0 7 #[46, 56, 66, 76, 86, 99, 108, 130], 46) := by decide +kernel
theorem dX6_one_69 : decode mX6_one.2.1 69 = .ok (.ireturn, 1) := by decide +kernel
theorem dX6_one_79 : decode mX6_one.2.1 79 = .ok (.ireturn, 1) := by decide +kernel
theorem dX6_one_89 : decode mX6_one.2.1 89 = .ok (.ireturn, 1) := by decide +kernel
theorem dX6_one_99 : decode mX6_one.2.1 99 = .ok (.ireturn, 1) := by decide +kernel
theorem dX6_one_109 : decode mX6_one.2.1 109 = .ok (.invokestatic 94, 3) := by decide +kernel
theorem dX6_one_112 : decode mX6_one.2.1 112 = .ok (.ireturn, 1) := by decide +kernel
theorem dX6_one_118 : decode mX6_one.2.1 118 = .ok (.invokevirtual 97, 3) := by decide +kernel
theorem dX6_one_121 : decode mX6_one.2.1 121 = .ok (.ireturn, 1) := by decide +kernel
theorem dX6_one_140 : decode mX6_one.2.1 140 = .ok (.invokestatic 100, 3) := by decide +kernel
theorem dX6_one_143 : decode mX6_one.2.1 143 = .ok (.ireturn, 1) := by decide +kernel
theorem dX6_one_149 : decode mX6_one.2.1 149 = .ok (.invokevirtual 106, 3) := by decide +kernel
theorem dX6_one_152 : decode mX6_one.2.1 152 = .ok (.ireturn, 1) := by decide +kernel
theorem dX6_one_154 : decode mX6_one.2.1 154 = .ok (.ireturn, 1) := by decide +kernel
def bX6_office_0 : List (Nat × Instr) := [(0, .iload_n 1)]
theorem bX6_office_0_ok : ∀ q ∈ bX6_office_0, decode mX6_office.2.1 q.1 = .ok (q.2, aLn q.2) := by decide +kernel
def bX6_office_7 : List (Nat × Instr) := [(7, .iconst (-1))]
theorem bX6_office_7_ok : ∀ q ∈ bX6_office_7, decode mX6_office.2.1 q.1 = .ok (q.2, aLn q.2) := by decide +kernel
def bX6_office_9 : List (Nat × Instr) := [(9, .iload_n 2)]
theorem bX6_office_9_ok : ∀ q ∈ bX6_office_9, decode mX6_office.2.1 q.1 = .ok (q.2, aLn q.2) := by decide +kernel
def bX6_office_36 : List (Nat × Instr) := [(36, .aload_n 0), (37, .getfield 10), (40, .getfield 112), (43, .iload_n 1), (44, .iaload)]
theorem bX6_office_36_ok : ∀ q ∈ bX6_office_36, decode mX6_office.2.1 q.1 = .ok (q.2, aLn q.2) := by decide +kernel
def bX6_office_46 : List (Nat × Instr) := [(46, .aload_n 0), (47, .getfield 10), (50, .getfield 115), (53, .iload_n 1), (54, .iaload)]
theorem bX6_office_46_ok : ∀ q ∈ bX6_office_46, decode mX6_office.2.1 q.1 = .ok (q.2, aLn q.2) := by decide +kernel
def bX6_office_59 : List (Nat × Instr) := [(59, .aload_n 0), (60, .getfield 10), (63, .aload_n 0), (64, .getfield 10), (67, .getfield 112), (70, .iload_n 1), (71, .iaload)]
theorem bX6_office_59_ok : ∀ q ∈ bX6_office_59, decode mX6_office.2.1 q.1 = .ok (q.2, aLn q.2) := by decide +kernel
def bX6_office_75 : List (Nat × Instr) := [(75, .iconst 1)]
theorem bX6_office_75_ok : ∀ q ∈ bX6_office_75, decode mX6_office.2.1 q.1 = .ok (q.2, aLn q.2) := by decide +kernel
def bX6_office_79 : List (Nat × Instr) := [(79, .iconst 1), (80, .goto 4)]
theorem bX6_office_79_ok : ∀ q ∈ bX6_office_79, decode mX6_office.2.1 q.1 = .ok (q.2, aLn q.2) := by decide +kernel
def bX6_office_83 : List (Nat × Instr) := [(83, .iconst 0)]
theorem bX6_office_83_ok : ∀ q ∈ bX6_office_83, decode mX6_office.2.1 q.1 = .ok (q.2, aLn q.2) := by decide +kernel
def bX6_office_85 : List (Nat × Instr) := [(85, .iconst (-1))]
theorem bX6_office_85_ok : ∀ q ∈ bX6_office_85, decode mX6_office.2.1 q.1 = .ok (q.2, aLn q.2) := by decide +kernel
theorem dX6_office_1 : decode mX6_office.2.1 1 = .ok (.invokestatic 109, 3) := by decide +kernel
theorem dX6_office_4 : decode mX6_office.2.1 4 = .ok (.ifCond .ne 5, 3) := by decide +kernel
theorem dX6_office_8 : decode mX6_office.2.1 8 = .ok (.ireturn, 1) := by decide +kernel
theorem dX6_office_10 : decode mX6_office.2.1 10 = .ok (.tableswitch 75 0 2 #[26, 36, 49], 26) := by decide +kernel
theorem dX6_office_45 : decode mX6_office.2.1 45 = .ok (.ireturn, 1) := by decide +kernel
theorem dX6_office_55 : decode mX6_office.2.1 55 = .ok (.invokestatic 94, 3) := by decide +kernel
theorem dX6_office_58 : decode mX6_office.2.1 58 = .ok (.ireturn, 1) := by decide +kernel
theorem dX6_office_72 : decode mX6_office.2.1 72 = .ok (.invokevirtual 118, 3) := by decide +kernel
theorem dX6_office_76 : decode mX6_office.2.1 76 = .ok (.if_icmp .le 7, 3) := by decide +kernel
theorem dX6_office_84 : decode mX6_office.2.1 84 = .ok (.ireturn, 1) := by decide +kernel
theorem dX6_office_86 : decode mX6_office.2.1 86 = .ok (.ireturn, 1) := by decide +kernel
def bX6_shows_0 : List (Nat × Instr) := [(0, .aload_n 0), (1, .getfield 10), (4, .iload_n 1)]
theorem bX6_shows_0_ok : ∀ q ∈ bX6_shows_0, decode mX6_shows.2.1 q.1 = .ok (q.2, aLn q.2) := by decide +kernel
def bX6_shows_11 : List (Nat × Instr) := [(11, .iload_n 2)]
theorem bX6_shows_11_ok : ∀ q ∈ bX6_shows_11, decode mX6_shows.2.1 q.1 = .ok (q.2, aLn q.2) := by decide +kernel
def bX6_shows_18 : List (Nat × Instr) := [(18, .iconst (-1))]
theorem bX6_shows_18_ok : ∀ q ∈ bX6_shows_18, decode mX6_shows.2.1 q.1 = .ok (q.2, aLn q.2) := by decide +kernel
def bX6_shows_20 : List (Nat × Instr) := [(20, .aload_n 0), (21, .getfield 10), (24, .getfield 79), (27, .iload_n 1), (28, .iaload), (29, .aload_n 0), (30, .getfield 10), (33, .getfield 82), (36, .iload_n 1), (37, .iaload), (38, .iload_n 2), (39, .aload_n 0), (40, .getfield 10), (43, .getfield 124), (46, .iconst 1), (47, .iadd)]
theorem bX6_shows_20_ok : ∀ q ∈ bX6_shows_20, decode mX6_shows.2.1 q.1 = .ok (q.2, aLn q.2) := by decide +kernel
theorem dX6_shows_5 : decode mX6_shows.2.1 5 = .ok (.invokevirtual 76, 3) := by decide +kernel
theorem dX6_shows_8 : decode mX6_shows.2.1 8 = .ok (.ifCond .eq 10, 3) := by decide +kernel
theorem dX6_shows_12 : decode mX6_shows.2.1 12 = .ok (.invokestatic 121, 3) := by decide +kernel
theorem dX6_shows_15 : decode mX6_shows.2.1 15 = .ok (.ifCond .ne 5, 3) := by decide +kernel
theorem dX6_shows_19 : decode mX6_shows.2.1 19 = .ok (.ireturn, 1) := by decide +kernel
theorem dX6_shows_48 : decode mX6_shows.2.1 48 = .ok (.invokestatic 128, 3) := by decide +kernel
theorem dX6_shows_51 : decode mX6_shows.2.1 51 = .ok (.ireturn, 1) := by decide +kernel
def bX6_comes_0 : List (Nat × Instr) := [(0, .iload_n 1)]
theorem bX6_comes_0_ok : ∀ q ∈ bX6_comes_0, decode mX6_comes.2.1 q.1 = .ok (q.2, aLn q.2) := by decide +kernel
def bX6_comes_7 : List (Nat × Instr) := [(7, .iload_n 2)]
theorem bX6_comes_7_ok : ∀ q ∈ bX6_comes_7, decode mX6_comes.2.1 q.1 = .ok (q.2, aLn q.2) := by decide +kernel
def bX6_comes_14 : List (Nat × Instr) := [(14, .iconst (-1))]
theorem bX6_comes_14_ok : ∀ q ∈ bX6_comes_14, decode mX6_comes.2.1 q.1 = .ok (q.2, aLn q.2) := by decide +kernel
def bX6_comes_16 : List (Nat × Instr) := [(16, .aload_n 0), (17, .getfield 29), (20, .iload_n 1)]
theorem bX6_comes_16_ok : ∀ q ∈ bX6_comes_16, decode mX6_comes.2.1 q.1 = .ok (q.2, aLn q.2) := by decide +kernel
def bX6_comes_24 : List (Nat × Instr) := [(24, .istore_n 3), (25, .iload_n 3)]
theorem bX6_comes_24_ok : ∀ q ∈ bX6_comes_24, decode mX6_comes.2.1 q.1 = .ok (q.2, aLn q.2) := by decide +kernel
def bX6_comes_29 : List (Nat × Instr) := [(29, .iload_n 3)]
theorem bX6_comes_29_ok : ∀ q ∈ bX6_comes_29, decode mX6_comes.2.1 q.1 = .ok (q.2, aLn q.2) := by decide +kernel
def bX6_comes_31 : List (Nat × Instr) := [(31, .aload_n 0), (32, .getfield 10), (35, .aload_n 0), (36, .getfield 29), (39, .iload_n 1)]
theorem bX6_comes_31_ok : ∀ q ∈ bX6_comes_31, decode mX6_comes.2.1 q.1 = .ok (q.2, aLn q.2) := by decide +kernel
def bX6_comes_43 : List (Nat × Instr) := [(43, .aload_n 0), (44, .getfield 29), (47, .iload_n 1)]
theorem bX6_comes_43_ok : ∀ q ∈ bX6_comes_43, decode mX6_comes.2.1 q.1 = .ok (q.2, aLn q.2) := by decide +kernel
def bX6_comes_51 : List (Nat × Instr) := [(51, .iload_n 2)]
theorem bX6_comes_51_ok : ∀ q ∈ bX6_comes_51, decode mX6_comes.2.1 q.1 = .ok (q.2, aLn q.2) := by decide +kernel
theorem dX6_comes_1 : decode mX6_comes.2.1 1 = .ok (.invokestatic 132, 3) := by decide +kernel
theorem dX6_comes_4 : decode mX6_comes.2.1 4 = .ok (.ifCond .eq 10, 3) := by decide +kernel
theorem dX6_comes_8 : decode mX6_comes.2.1 8 = .ok (.invokestatic 135, 3) := by decide +kernel
theorem dX6_comes_11 : decode mX6_comes.2.1 11 = .ok (.ifCond .ne 5, 3) := by decide +kernel
theorem dX6_comes_15 : decode mX6_comes.2.1 15 = .ok (.ireturn, 1) := by decide +kernel
theorem dX6_comes_21 : decode mX6_comes.2.1 21 = .ok (.invokevirtual 138, 3) := by decide +kernel
theorem dX6_comes_26 : decode mX6_comes.2.1 26 = .ok (.ifCond .eq 5, 3) := by decide +kernel
theorem dX6_comes_30 : decode mX6_comes.2.1 30 = .ok (.ireturn, 1) := by decide +kernel
theorem dX6_comes_40 : decode mX6_comes.2.1 40 = .ok (.invokevirtual 141, 3) := by decide +kernel
theorem dX6_comes_48 : decode mX6_comes.2.1 48 = .ok (.invokevirtual 144, 3) := by decide +kernel
theorem dX6_comes_52 : decode mX6_comes.2.1 52 = .ok (.invokevirtual 147, 3) := by decide +kernel
theorem dX6_comes_55 : decode mX6_comes.2.1 55 = .ok (.ireturn, 1) := by decide +kernel
def bX6_holds_0 : List (Nat × Instr) := [(0, .iload_n 1)]
theorem bX6_holds_0_ok : ∀ q ∈ bX6_holds_0, decode mX6_holds.2.1 q.1 = .ok (q.2, aLn q.2) := by decide +kernel
def bX6_holds_7 : List (Nat × Instr) := [(7, .aload_n 0), (8, .getfield 10), (11, .iload_n 2)]
theorem bX6_holds_7_ok : ∀ q ∈ bX6_holds_7, decode mX6_holds.2.1 q.1 = .ok (q.2, aLn q.2) := by decide +kernel
def bX6_holds_18 : List (Nat × Instr) := [(18, .iconst (-1))]
theorem bX6_holds_18_ok : ∀ q ∈ bX6_holds_18, decode mX6_holds.2.1 q.1 = .ok (q.2, aLn q.2) := by decide +kernel
def bX6_holds_20 : List (Nat × Instr) := [(20, .aload_n 0), (21, .getfield 10), (24, .getfield 115), (27, .iload_n 1), (28, .iaload), (29, .istore_n 3), (30, .aload_n 0), (31, .getfield 10), (34, .iload_n 1), (35, .iload_n 2)]
theorem bX6_holds_20_ok : ∀ q ∈ bX6_holds_20, decode mX6_holds.2.1 q.1 = .ok (q.2, aLn q.2) := by decide +kernel
def bX6_holds_39 : List (Nat × Instr) := [(39, .iload_n 3)]
theorem bX6_holds_39_ok : ∀ q ∈ bX6_holds_39, decode mX6_holds.2.1 q.1 = .ok (q.2, aLn q.2) := by decide +kernel
theorem dX6_holds_1 : decode mX6_holds.2.1 1 = .ok (.invokestatic 109, 3) := by decide +kernel
theorem dX6_holds_4 : decode mX6_holds.2.1 4 = .ok (.ifCond .eq 14, 3) := by decide +kernel
theorem dX6_holds_12 : decode mX6_holds.2.1 12 = .ok (.invokevirtual 76, 3) := by decide +kernel
theorem dX6_holds_15 : decode mX6_holds.2.1 15 = .ok (.ifCond .ne 5, 3) := by decide +kernel
theorem dX6_holds_19 : decode mX6_holds.2.1 19 = .ok (.ireturn, 1) := by decide +kernel
theorem dX6_holds_36 : decode mX6_holds.2.1 36 = .ok (.invokevirtual 151, 3) := by decide +kernel
theorem dX6_holds_40 : decode mX6_holds.2.1 40 = .ok (.invokestatic 94, 3) := by decide +kernel
theorem dX6_holds_43 : decode mX6_holds.2.1 43 = .ok (.ireturn, 1) := by decide +kernel
def bX6_empties_0 : List (Nat × Instr) := [(0, .iload_n 1)]
theorem bX6_empties_0_ok : ∀ q ∈ bX6_empties_0, decode mX6_empties.2.1 q.1 = .ok (q.2, aLn q.2) := by decide +kernel
def bX6_empties_7 : List (Nat × Instr) := [(7, .iconst (-1))]
theorem bX6_empties_7_ok : ∀ q ∈ bX6_empties_7, decode mX6_empties.2.1 q.1 = .ok (q.2, aLn q.2) := by decide +kernel
def bX6_empties_9 : List (Nat × Instr) := [(9, .aload_n 0), (10, .getfield 10), (13, .getfield 115), (16, .iload_n 1), (17, .iaload), (18, .istore_n 2), (19, .iload_n 2), (20, .iconst (-1))]
theorem bX6_empties_9_ok : ∀ q ∈ bX6_empties_9, decode mX6_empties.2.1 q.1 = .ok (q.2, aLn q.2) := by decide +kernel
def bX6_empties_24 : List (Nat × Instr) := [(24, .bipush (-3))]
theorem bX6_empties_24_ok : ∀ q ∈ bX6_empties_24, decode mX6_empties.2.1 q.1 = .ok (q.2, aLn q.2) := by decide +kernel
def bX6_empties_27 : List (Nat × Instr) := [(27, .aload_n 0), (28, .getfield 10), (31, .iload_n 1)]
theorem bX6_empties_27_ok : ∀ q ∈ bX6_empties_27, decode mX6_empties.2.1 q.1 = .ok (q.2, aLn q.2) := by decide +kernel
def bX6_empties_35 : List (Nat × Instr) := [(35, .iload_n 2)]
theorem bX6_empties_35_ok : ∀ q ∈ bX6_empties_35, decode mX6_empties.2.1 q.1 = .ok (q.2, aLn q.2) := by decide +kernel
theorem dX6_empties_1 : decode mX6_empties.2.1 1 = .ok (.invokestatic 109, 3) := by decide +kernel
theorem dX6_empties_4 : decode mX6_empties.2.1 4 = .ok (.ifCond .ne 5, 3) := by decide +kernel
theorem dX6_empties_8 : decode mX6_empties.2.1 8 = .ok (.ireturn, 1) := by decide +kernel
theorem dX6_empties_21 : decode mX6_empties.2.1 21 = .ok (.if_icmp .ne 6, 3) := by decide +kernel
theorem dX6_empties_26 : decode mX6_empties.2.1 26 = .ok (.ireturn, 1) := by decide +kernel
theorem dX6_empties_32 : decode mX6_empties.2.1 32 = .ok (.invokevirtual 155, 3) := by decide +kernel
theorem dX6_empties_36 : decode mX6_empties.2.1 36 = .ok (.ireturn, 1) := by decide +kernel
def bX6_wears_0 : List (Nat × Instr) := [(0, .iload_n 1)]
theorem bX6_wears_0_ok : ∀ q ∈ bX6_wears_0, decode mX6_wears.2.1 q.1 = .ok (q.2, aLn q.2) := by decide +kernel
def bX6_wears_7 : List (Nat × Instr) := [(7, .iload_n 2)]
theorem bX6_wears_7_ok : ∀ q ∈ bX6_wears_7, decode mX6_wears.2.1 q.1 = .ok (q.2, aLn q.2) := by decide +kernel
def bX6_wears_14 : List (Nat × Instr) := [(14, .iconst (-1))]
theorem bX6_wears_14_ok : ∀ q ∈ bX6_wears_14, decode mX6_wears.2.1 q.1 = .ok (q.2, aLn q.2) := by decide +kernel
def bX6_wears_16 : List (Nat × Instr) := [(16, .aload_n 0), (17, .getfield 10), (20, .getfield 112), (23, .iload_n 1), (24, .iaload), (25, .istore_n 3), (26, .aload_n 0), (27, .getfield 10), (30, .getfield 112), (33, .iload_n 1), (34, .iload_n 2), (35, .iastore), (36, .iload_n 3)]
theorem bX6_wears_16_ok : ∀ q ∈ bX6_wears_16, decode mX6_wears.2.1 q.1 = .ok (q.2, aLn q.2) := by decide +kernel
theorem dX6_wears_1 : decode mX6_wears.2.1 1 = .ok (.invokestatic 109, 3) := by decide +kernel
theorem dX6_wears_4 : decode mX6_wears.2.1 4 = .ok (.ifCond .eq 10, 3) := by decide +kernel
theorem dX6_wears_8 : decode mX6_wears.2.1 8 = .ok (.invokestatic 121, 3) := by decide +kernel
theorem dX6_wears_11 : decode mX6_wears.2.1 11 = .ok (.ifCond .ne 5, 3) := by decide +kernel
theorem dX6_wears_15 : decode mX6_wears.2.1 15 = .ok (.ireturn, 1) := by decide +kernel
theorem dX6_wears_37 : decode mX6_wears.2.1 37 = .ok (.ireturn, 1) := by decide +kernel
def bX6_knows_0 : List (Nat × Instr) := [(0, .aload_n 0), (1, .getfield 10), (4, .iload_n 1)]
theorem bX6_knows_0_ok : ∀ q ∈ bX6_knows_0, decode mX6_knows.2.1 q.1 = .ok (q.2, aLn q.2) := by decide +kernel
def bX6_knows_11 : List (Nat × Instr) := [(11, .iload_n 2)]
theorem bX6_knows_11_ok : ∀ q ∈ bX6_knows_11, decode mX6_knows.2.1 q.1 = .ok (q.2, aLn q.2) := by decide +kernel
def bX6_knows_15 : List (Nat × Instr) := [(15, .iload_n 2), (16, .bipush 99)]
theorem bX6_knows_15_ok : ∀ q ∈ bX6_knows_15, decode mX6_knows.2.1 q.1 = .ok (q.2, aLn q.2) := by decide +kernel
def bX6_knows_21 : List (Nat × Instr) := [(21, .iconst (-1))]
theorem bX6_knows_21_ok : ∀ q ∈ bX6_knows_21, decode mX6_knows.2.1 q.1 = .ok (q.2, aLn q.2) := by decide +kernel
def bX6_knows_23 : List (Nat × Instr) := [(23, .aload_n 0), (24, .getfield 10), (27, .getfield 85), (30, .iload_n 1), (31, .iaload), (32, .istore_n 3), (33, .aload_n 0), (34, .getfield 10), (37, .getfield 85), (40, .iload_n 1), (41, .iload_n 2), (42, .iastore), (43, .iload_n 3)]
theorem bX6_knows_23_ok : ∀ q ∈ bX6_knows_23, decode mX6_knows.2.1 q.1 = .ok (q.2, aLn q.2) := by decide +kernel
theorem dX6_knows_5 : decode mX6_knows.2.1 5 = .ok (.invokevirtual 76, 3) := by decide +kernel
theorem dX6_knows_8 : decode mX6_knows.2.1 8 = .ok (.ifCond .eq 13, 3) := by decide +kernel
theorem dX6_knows_12 : decode mX6_knows.2.1 12 = .ok (.ifCond .lt 9, 3) := by decide +kernel
theorem dX6_knows_18 : decode mX6_knows.2.1 18 = .ok (.if_icmp .le 5, 3) := by decide +kernel
theorem dX6_knows_22 : decode mX6_knows.2.1 22 = .ok (.ireturn, 1) := by decide +kernel
theorem dX6_knows_44 : decode mX6_knows.2.1 44 = .ok (.ireturn, 1) := by decide +kernel
def bX6_marries_0 : List (Nat × Instr) := [(0, .aload_n 0), (1, .getfield 10), (4, .iload_n 1)]
theorem bX6_marries_0_ok : ∀ q ∈ bX6_marries_0, decode mX6_marries.2.1 q.1 = .ok (q.2, aLn q.2) := by decide +kernel
def bX6_marries_11 : List (Nat × Instr) := [(11, .iload_n 2)]
theorem bX6_marries_11_ok : ∀ q ∈ bX6_marries_11, decode mX6_marries.2.1 q.1 = .ok (q.2, aLn q.2) := by decide +kernel
def bX6_marries_18 : List (Nat × Instr) := [(18, .iconst (-1))]
theorem bX6_marries_18_ok : ∀ q ∈ bX6_marries_18, decode mX6_marries.2.1 q.1 = .ok (q.2, aLn q.2) := by decide +kernel
def bX6_marries_20 : List (Nat × Instr) := [(20, .aload_n 0), (21, .getfield 10), (24, .getfield 88), (27, .iload_n 1), (28, .iaload), (29, .istore_n 3), (30, .aload_n 0), (31, .getfield 10), (34, .getfield 88), (37, .iload_n 1), (38, .iload_n 2), (39, .iastore), (40, .iload_n 3)]
theorem bX6_marries_20_ok : ∀ q ∈ bX6_marries_20, decode mX6_marries.2.1 q.1 = .ok (q.2, aLn q.2) := by decide +kernel
theorem dX6_marries_5 : decode mX6_marries.2.1 5 = .ok (.invokevirtual 76, 3) := by decide +kernel
theorem dX6_marries_8 : decode mX6_marries.2.1 8 = .ok (.ifCond .eq 10, 3) := by decide +kernel
theorem dX6_marries_12 : decode mX6_marries.2.1 12 = .ok (.invokestatic 135, 3) := by decide +kernel
theorem dX6_marries_15 : decode mX6_marries.2.1 15 = .ok (.ifCond .ne 5, 3) := by decide +kernel
theorem dX6_marries_19 : decode mX6_marries.2.1 19 = .ok (.ireturn, 1) := by decide +kernel
theorem dX6_marries_41 : decode mX6_marries.2.1 41 = .ok (.ireturn, 1) := by decide +kernel
def bX6_days_0 : List (Nat × Instr) := [(0, .iload_n 1), (1, .iconst 1)]
theorem bX6_days_0_ok : ∀ q ∈ bX6_days_0, decode mX6_days.2.1 q.1 = .ok (q.2, aLn q.2) := by decide +kernel
def bX6_days_5 : List (Nat × Instr) := [(5, .iload_n 1), (6, .bipush 60)]
theorem bX6_days_5_ok : ∀ q ∈ bX6_days_5, decode mX6_days.2.1 q.1 = .ok (q.2, aLn q.2) := by decide +kernel
def bX6_days_11 : List (Nat × Instr) := [(11, .iconst (-1))]
theorem bX6_days_11_ok : ∀ q ∈ bX6_days_11, decode mX6_days.2.1 q.1 = .ok (q.2, aLn q.2) := by decide +kernel
def bX6_days_13 : List (Nat × Instr) := [(13, .aload_n 0), (14, .getfield 10), (17, .getfield 124), (20, .iload_n 1), (21, .iadd), (22, .sipush 999)]
theorem bX6_days_13_ok : ∀ q ∈ bX6_days_13, decode mX6_days.2.1 q.1 = .ok (q.2, aLn q.2) := by decide +kernel
def bX6_days_28 : List (Nat × Instr) := [(28, .bipush (-3))]
theorem bX6_days_28_ok : ∀ q ∈ bX6_days_28, decode mX6_days.2.1 q.1 = .ok (q.2, aLn q.2) := by decide +kernel
def bX6_days_31 : List (Nat × Instr) := [(31, .aload_n 0), (32, .getfield 10), (35, .iload_n 1)]
theorem bX6_days_31_ok : ∀ q ∈ bX6_days_31, decode mX6_days.2.1 q.1 = .ok (q.2, aLn q.2) := by decide +kernel
def bX6_days_39 : List (Nat × Instr) := [(39, .aload_n 0), (40, .getfield 10), (43, .getfield 162)]
theorem bX6_days_39_ok : ∀ q ∈ bX6_days_39, decode mX6_days.2.1 q.1 = .ok (q.2, aLn q.2) := by decide +kernel
theorem dX6_days_2 : decode mX6_days.2.1 2 = .ok (.if_icmp .lt 9, 3) := by decide +kernel
theorem dX6_days_8 : decode mX6_days.2.1 8 = .ok (.if_icmp .le 5, 3) := by decide +kernel
theorem dX6_days_12 : decode mX6_days.2.1 12 = .ok (.ireturn, 1) := by decide +kernel
theorem dX6_days_25 : decode mX6_days.2.1 25 = .ok (.if_icmp .le 6, 3) := by decide +kernel
theorem dX6_days_30 : decode mX6_days.2.1 30 = .ok (.ireturn, 1) := by decide +kernel
theorem dX6_days_36 : decode mX6_days.2.1 36 = .ok (.invokevirtual 159, 3) := by decide +kernel
theorem dX6_days_46 : decode mX6_days.2.1 46 = .ok (.ireturn, 1) := by decide +kernel
def bX6_heldThen_0 : List (Nat × Instr) := [(0, .iload_n 1)]
theorem bX6_heldThen_0_ok : ∀ q ∈ bX6_heldThen_0, decode mX6_heldThen.2.1 q.1 = .ok (q.2, aLn q.2) := by decide +kernel
def bX6_heldThen_7 : List (Nat × Instr) := [(7, .iload_n 2)]
theorem bX6_heldThen_7_ok : ∀ q ∈ bX6_heldThen_7, decode mX6_heldThen.2.1 q.1 = .ok (q.2, aLn q.2) := by decide +kernel
def bX6_heldThen_14 : List (Nat × Instr) := [(14, .iconst (-1))]
theorem bX6_heldThen_14_ok : ∀ q ∈ bX6_heldThen_14, decode mX6_heldThen.2.1 q.1 = .ok (q.2, aLn q.2) := by decide +kernel
def bX6_heldThen_16 : List (Nat × Instr) := [(16, .aload_n 0), (17, .iload_n 2)]
theorem bX6_heldThen_16_ok : ∀ q ∈ bX6_heldThen_16, decode mX6_heldThen.2.1 q.1 = .ok (q.2, aLn q.2) := by decide +kernel
def bX6_heldThen_21 : List (Nat × Instr) := [(21, .aload_n 0), (22, .getfield 16), (25, .getfield 115), (28, .iload_n 1), (29, .iaload)]
theorem bX6_heldThen_21_ok : ∀ q ∈ bX6_heldThen_21, decode mX6_heldThen.2.1 q.1 = .ok (q.2, aLn q.2) := by decide +kernel
theorem dX6_heldThen_1 : decode mX6_heldThen.2.1 1 = .ok (.invokestatic 109, 3) := by decide +kernel
theorem dX6_heldThen_4 : decode mX6_heldThen.2.1 4 = .ok (.ifCond .eq 10, 3) := by decide +kernel
theorem dX6_heldThen_8 : decode mX6_heldThen.2.1 8 = .ok (.invokestatic 165, 3) := by decide +kernel
theorem dX6_heldThen_11 : decode mX6_heldThen.2.1 11 = .ok (.ifCond .ne 5, 3) := by decide +kernel
theorem dX6_heldThen_15 : decode mX6_heldThen.2.1 15 = .ok (.ireturn, 1) := by decide +kernel
theorem dX6_heldThen_18 : decode mX6_heldThen.2.1 18 = .ok (.invokevirtual 168, 3) := by decide +kernel
theorem dX6_heldThen_30 : decode mX6_heldThen.2.1 30 = .ok (.invokestatic 94, 3) := by decide +kernel
theorem dX6_heldThen_33 : decode mX6_heldThen.2.1 33 = .ok (.ireturn, 1) := by decide +kernel
def bX6_knownThen_0 : List (Nat × Instr) := [(0, .aload_n 0), (1, .getfield 10), (4, .iload_n 1)]
theorem bX6_knownThen_0_ok : ∀ q ∈ bX6_knownThen_0, decode mX6_knownThen.2.1 q.1 = .ok (q.2, aLn q.2) := by decide +kernel
def bX6_knownThen_11 : List (Nat × Instr) := [(11, .iload_n 2)]
theorem bX6_knownThen_11_ok : ∀ q ∈ bX6_knownThen_11, decode mX6_knownThen.2.1 q.1 = .ok (q.2, aLn q.2) := by decide +kernel
def bX6_knownThen_18 : List (Nat × Instr) := [(18, .iconst (-1))]
theorem bX6_knownThen_18_ok : ∀ q ∈ bX6_knownThen_18, decode mX6_knownThen.2.1 q.1 = .ok (q.2, aLn q.2) := by decide +kernel
def bX6_knownThen_20 : List (Nat × Instr) := [(20, .aload_n 0), (21, .iload_n 2)]
theorem bX6_knownThen_20_ok : ∀ q ∈ bX6_knownThen_20, decode mX6_knownThen.2.1 q.1 = .ok (q.2, aLn q.2) := by decide +kernel
def bX6_knownThen_25 : List (Nat × Instr) := [(25, .aload_n 0), (26, .getfield 16), (29, .getfield 85), (32, .iload_n 1), (33, .iaload)]
theorem bX6_knownThen_25_ok : ∀ q ∈ bX6_knownThen_25, decode mX6_knownThen.2.1 q.1 = .ok (q.2, aLn q.2) := by decide +kernel
theorem dX6_knownThen_5 : decode mX6_knownThen.2.1 5 = .ok (.invokevirtual 76, 3) := by decide +kernel
theorem dX6_knownThen_8 : decode mX6_knownThen.2.1 8 = .ok (.ifCond .eq 10, 3) := by decide +kernel
theorem dX6_knownThen_12 : decode mX6_knownThen.2.1 12 = .ok (.invokestatic 165, 3) := by decide +kernel
theorem dX6_knownThen_15 : decode mX6_knownThen.2.1 15 = .ok (.ifCond .ne 5, 3) := by decide +kernel
theorem dX6_knownThen_19 : decode mX6_knownThen.2.1 19 = .ok (.ireturn, 1) := by decide +kernel
theorem dX6_knownThen_22 : decode mX6_knownThen.2.1 22 = .ok (.invokevirtual 168, 3) := by decide +kernel
theorem dX6_knownThen_34 : decode mX6_knownThen.2.1 34 = .ok (.ireturn, 1) := by decide +kernel
def bX6_then_0 : List (Nat × Instr) := [(0, .iload_n 1)]
theorem bX6_then_0_ok : ∀ q ∈ bX6_then_0, decode mX6_then.2.1 q.1 = .ok (q.2, aLn q.2) := by decide +kernel
def bX6_then_7 : List (Nat × Instr) := [(7, .iload_n 2)]
theorem bX6_then_7_ok : ∀ q ∈ bX6_then_7, decode mX6_then.2.1 q.1 = .ok (q.2, aLn q.2) := by decide +kernel
def bX6_then_14 : List (Nat × Instr) := [(14, .iconst (-1))]
theorem bX6_then_14_ok : ∀ q ∈ bX6_then_14, decode mX6_then.2.1 q.1 = .ok (q.2, aLn q.2) := by decide +kernel
def bX6_then_16 : List (Nat × Instr) := [(16, .aload_n 0), (17, .iload_n 1)]
theorem bX6_then_16_ok : ∀ q ∈ bX6_then_16, decode mX6_then.2.1 q.1 = .ok (q.2, aLn q.2) := by decide +kernel
def bX6_then_21 : List (Nat × Instr) := [(21, .iload_n 2)]
theorem bX6_then_21_ok : ∀ q ∈ bX6_then_21, decode mX6_then.2.1 q.1 = .ok (q.2, aLn q.2) := by decide +kernel
def bX6_then_25 : List (Nat × Instr) := [(25, .aload_n 0), (26, .getfield 16)]
theorem bX6_then_25_ok : ∀ q ∈ bX6_then_25, decode mX6_then.2.1 q.1 = .ok (q.2, aLn q.2) := by decide +kernel
def bX6_then_32 : List (Nat × Instr) := [(32, .goto 10)]
theorem bX6_then_32_ok : ∀ q ∈ bX6_then_32, decode mX6_then.2.1 q.1 = .ok (q.2, aLn q.2) := by decide +kernel
def bX6_then_35 : List (Nat × Instr) := [(35, .aload_n 0), (36, .getfield 16), (39, .getfield 162)]
theorem bX6_then_35_ok : ∀ q ∈ bX6_then_35, decode mX6_then.2.1 q.1 = .ok (q.2, aLn q.2) := by decide +kernel
theorem dX6_then_1 : decode mX6_then.2.1 1 = .ok (.invokestatic 165, 3) := by decide +kernel
theorem dX6_then_4 : decode mX6_then.2.1 4 = .ok (.ifCond .eq 10, 3) := by decide +kernel
theorem dX6_then_8 : decode mX6_then.2.1 8 = .ok (.invokestatic 171, 3) := by decide +kernel
theorem dX6_then_11 : decode mX6_then.2.1 11 = .ok (.ifCond .ne 5, 3) := by decide +kernel
theorem dX6_then_15 : decode mX6_then.2.1 15 = .ok (.ireturn, 1) := by decide +kernel
theorem dX6_then_18 : decode mX6_then.2.1 18 = .ok (.invokevirtual 168, 3) := by decide +kernel
theorem dX6_then_22 : decode mX6_then.2.1 22 = .ok (.ifCond .ne 13, 3) := by decide +kernel
theorem dX6_then_29 : decode mX6_then.2.1 29 = .ok (.invokevirtual 174, 3) := by decide +kernel
theorem dX6_then_42 : decode mX6_then.2.1 42 = .ok (.ireturn, 1) := by decide +kernel
def bX6_falls_0 : List (Nat × Instr) := [(0, .aload_n 0), (1, .getfield 10), (4, .iload_n 1)]
theorem bX6_falls_0_ok : ∀ q ∈ bX6_falls_0, decode mX6_falls.2.1 q.1 = .ok (q.2, aLn q.2) := by decide +kernel
def bX6_falls_11 : List (Nat × Instr) := [(11, .iconst (-1))]
theorem bX6_falls_11_ok : ∀ q ∈ bX6_falls_11, decode mX6_falls.2.1 q.1 = .ok (q.2, aLn q.2) := by decide +kernel
def bX6_falls_13 : List (Nat × Instr) := [(13, .aload_n 0), (14, .getfield 10), (17, .getfield 91), (20, .iload_n 1), (21, .iaload), (22, .istore_n 2), (23, .iload_n 2), (24, .iconst (-1))]
theorem bX6_falls_13_ok : ∀ q ∈ bX6_falls_13, decode mX6_falls.2.1 q.1 = .ok (q.2, aLn q.2) := by decide +kernel
def bX6_falls_28 : List (Nat × Instr) := [(28, .bipush (-4))]
theorem bX6_falls_28_ok : ∀ q ∈ bX6_falls_28, decode mX6_falls.2.1 q.1 = .ok (q.2, aLn q.2) := by decide +kernel
def bX6_falls_31 : List (Nat × Instr) := [(31, .aload_n 0), (32, .getfield 16), (35, .aload_n 0), (36, .getfield 10)]
theorem bX6_falls_31_ok : ∀ q ∈ bX6_falls_31, decode mX6_falls.2.1 q.1 = .ok (q.2, aLn q.2) := by decide +kernel
def bX6_falls_42 : List (Nat × Instr) := [(42, .iconst 1), (43, .istore_n 3)]
theorem bX6_falls_42_ok : ∀ q ∈ bX6_falls_42, decode mX6_falls.2.1 q.1 = .ok (q.2, aLn q.2) := by decide +kernel
def bX6_falls_44 : List (Nat × Instr) := [(44, .iload_n 3), (45, .bipush 60)]
theorem bX6_falls_44_ok : ∀ q ∈ bX6_falls_44, decode mX6_falls.2.1 q.1 = .ok (q.2, aLn q.2) := by decide +kernel
def bX6_falls_50 : List (Nat × Instr) := [(50, .aload_n 0), (51, .getfield 16)]
theorem bX6_falls_50_ok : ∀ q ∈ bX6_falls_50, decode mX6_falls.2.1 q.1 = .ok (q.2, aLn q.2) := by decide +kernel
def bX6_falls_57 : List (Nat × Instr) := [(57, .aload_n 0), (58, .getfield 16), (61, .getfield 115), (64, .iload_n 2), (65, .iaload), (66, .iload_n 1)]
theorem bX6_falls_57_ok : ∀ q ∈ bX6_falls_57, decode mX6_falls.2.1 q.1 = .ok (q.2, aLn q.2) := by decide +kernel
def bX6_falls_70 : List (Nat × Instr) := [(70, .iload_n 3)]
theorem bX6_falls_70_ok : ∀ q ∈ bX6_falls_70, decode mX6_falls.2.1 q.1 = .ok (q.2, aLn q.2) := by decide +kernel
def bX6_falls_72 : List (Nat × Instr) := [(72, .iinc 3 1), (75, .goto (-31))]
theorem bX6_falls_72_ok : ∀ q ∈ bX6_falls_72, decode mX6_falls.2.1 q.1 = .ok (q.2, aLn q.2) := by decide +kernel
def bX6_falls_78 : List (Nat × Instr) := [(78, .bipush (-4))]
theorem bX6_falls_78_ok : ∀ q ∈ bX6_falls_78, decode mX6_falls.2.1 q.1 = .ok (q.2, aLn q.2) := by decide +kernel
theorem dX6_falls_5 : decode mX6_falls.2.1 5 = .ok (.invokevirtual 76, 3) := by decide +kernel
theorem dX6_falls_8 : decode mX6_falls.2.1 8 = .ok (.ifCond .ne 5, 3) := by decide +kernel
theorem dX6_falls_12 : decode mX6_falls.2.1 12 = .ok (.ireturn, 1) := by decide +kernel
theorem dX6_falls_25 : decode mX6_falls.2.1 25 = .ok (.if_icmp .ne 6, 3) := by decide +kernel
theorem dX6_falls_30 : decode mX6_falls.2.1 30 = .ok (.ireturn, 1) := by decide +kernel
theorem dX6_falls_39 : decode mX6_falls.2.1 39 = .ok (.invokevirtual 68, 3) := by decide +kernel
theorem dX6_falls_47 : decode mX6_falls.2.1 47 = .ok (.if_icmp .gt 31, 3) := by decide +kernel
theorem dX6_falls_54 : decode mX6_falls.2.1 54 = .ok (.invokevirtual 178, 3) := by decide +kernel
theorem dX6_falls_67 : decode mX6_falls.2.1 67 = .ok (.if_icmp .eq 5, 3) := by decide +kernel
theorem dX6_falls_71 : decode mX6_falls.2.1 71 = .ok (.ireturn, 1) := by decide +kernel
theorem dX6_falls_80 : decode mX6_falls.2.1 80 = .ok (.ireturn, 1) := by decide +kernel
def bX6_empty_0 : List (Nat × Instr) := [(0, .iload_n 1)]
theorem bX6_empty_0_ok : ∀ q ∈ bX6_empty_0, decode mX6_empty.2.1 q.1 = .ok (q.2, aLn q.2) := by decide +kernel
def bX6_empty_7 : List (Nat × Instr) := [(7, .iconst (-1))]
theorem bX6_empty_7_ok : ∀ q ∈ bX6_empty_7, decode mX6_empty.2.1 q.1 = .ok (q.2, aLn q.2) := by decide +kernel
def bX6_empty_9 : List (Nat × Instr) := [(9, .aload_n 0), (10, .getfield 16), (13, .aload_n 0), (14, .getfield 10)]
theorem bX6_empty_9_ok : ∀ q ∈ bX6_empty_9, decode mX6_empty.2.1 q.1 = .ok (q.2, aLn q.2) := by decide +kernel
def bX6_empty_20 : List (Nat × Instr) := [(20, .iconst 0), (21, .istore_n 2)]
theorem bX6_empty_20_ok : ∀ q ∈ bX6_empty_20, decode mX6_empty.2.1 q.1 = .ok (q.2, aLn q.2) := by decide +kernel
def bX6_empty_22 : List (Nat × Instr) := [(22, .iload_n 2), (23, .bipush 60)]
theorem bX6_empty_22_ok : ∀ q ∈ bX6_empty_22, decode mX6_empty.2.1 q.1 = .ok (q.2, aLn q.2) := by decide +kernel
def bX6_empty_28 : List (Nat × Instr) := [(28, .aload_n 0), (29, .getfield 16), (32, .getfield 115), (35, .iload_n 1), (36, .iaload), (37, .iconst (-1))]
theorem bX6_empty_28_ok : ∀ q ∈ bX6_empty_28, decode mX6_empty.2.1 q.1 = .ok (q.2, aLn q.2) := by decide +kernel
def bX6_empty_41 : List (Nat × Instr) := [(41, .iload_n 2)]
theorem bX6_empty_41_ok : ∀ q ∈ bX6_empty_41, decode mX6_empty.2.1 q.1 = .ok (q.2, aLn q.2) := by decide +kernel
def bX6_empty_43 : List (Nat × Instr) := [(43, .aload_n 0), (44, .getfield 16)]
theorem bX6_empty_43_ok : ∀ q ∈ bX6_empty_43, decode mX6_empty.2.1 q.1 = .ok (q.2, aLn q.2) := by decide +kernel
def bX6_empty_50 : List (Nat × Instr) := [(50, .iinc 2 1), (53, .goto (-31))]
theorem bX6_empty_50_ok : ∀ q ∈ bX6_empty_50, decode mX6_empty.2.1 q.1 = .ok (q.2, aLn q.2) := by decide +kernel
def bX6_empty_56 : List (Nat × Instr) := [(56, .bipush (-4))]
theorem bX6_empty_56_ok : ∀ q ∈ bX6_empty_56, decode mX6_empty.2.1 q.1 = .ok (q.2, aLn q.2) := by decide +kernel
theorem dX6_empty_1 : decode mX6_empty.2.1 1 = .ok (.invokestatic 109, 3) := by decide +kernel
theorem dX6_empty_4 : decode mX6_empty.2.1 4 = .ok (.ifCond .ne 5, 3) := by decide +kernel
theorem dX6_empty_8 : decode mX6_empty.2.1 8 = .ok (.ireturn, 1) := by decide +kernel
theorem dX6_empty_17 : decode mX6_empty.2.1 17 = .ok (.invokevirtual 68, 3) := by decide +kernel
theorem dX6_empty_25 : decode mX6_empty.2.1 25 = .ok (.if_icmp .gt 31, 3) := by decide +kernel
theorem dX6_empty_38 : decode mX6_empty.2.1 38 = .ok (.if_icmp .ne 5, 3) := by decide +kernel
theorem dX6_empty_42 : decode mX6_empty.2.1 42 = .ok (.ireturn, 1) := by decide +kernel
theorem dX6_empty_47 : decode mX6_empty.2.1 47 = .ok (.invokevirtual 178, 3) := by decide +kernel
theorem dX6_empty_58 : decode mX6_empty.2.1 58 = .ok (.ireturn, 1) := by decide +kernel
def bX6_lasts_0 : List (Nat × Instr) := [(0, .iload_n 1)]
theorem bX6_lasts_0_ok : ∀ q ∈ bX6_lasts_0, decode mX6_lasts.2.1 q.1 = .ok (q.2, aLn q.2) := by decide +kernel
def bX6_lasts_7 : List (Nat × Instr) := [(7, .aload_n 0), (8, .getfield 10), (11, .iload_n 2)]
theorem bX6_lasts_7_ok : ∀ q ∈ bX6_lasts_7, decode mX6_lasts.2.1 q.1 = .ok (q.2, aLn q.2) := by decide +kernel
def bX6_lasts_18 : List (Nat × Instr) := [(18, .iconst (-1))]
theorem bX6_lasts_18_ok : ∀ q ∈ bX6_lasts_18, decode mX6_lasts.2.1 q.1 = .ok (q.2, aLn q.2) := by decide +kernel
def bX6_lasts_20 : List (Nat × Instr) := [(20, .aload_n 0), (21, .getfield 10), (24, .iload_n 1), (25, .iload_n 2)]
theorem bX6_lasts_20_ok : ∀ q ∈ bX6_lasts_20, decode mX6_lasts.2.1 q.1 = .ok (q.2, aLn q.2) := by decide +kernel
theorem dX6_lasts_1 : decode mX6_lasts.2.1 1 = .ok (.invokestatic 109, 3) := by decide +kernel
theorem dX6_lasts_4 : decode mX6_lasts.2.1 4 = .ok (.ifCond .eq 14, 3) := by decide +kernel
theorem dX6_lasts_12 : decode mX6_lasts.2.1 12 = .ok (.invokevirtual 76, 3) := by decide +kernel
theorem dX6_lasts_15 : decode mX6_lasts.2.1 15 = .ok (.ifCond .ne 5, 3) := by decide +kernel
theorem dX6_lasts_19 : decode mX6_lasts.2.1 19 = .ok (.ireturn, 1) := by decide +kernel
theorem dX6_lasts_26 : decode mX6_lasts.2.1 26 = .ok (.invokevirtual 181, 3) := by decide +kernel
theorem dX6_lasts_29 : decode mX6_lasts.2.1 29 = .ok (.ireturn, 1) := by decide +kernel
def bX6_bestCostume_0 : List (Nat × Instr) := [(0, .iload_n 1)]
theorem bX6_bestCostume_0_ok : ∀ q ∈ bX6_bestCostume_0, decode mX6_bestCostume.2.1 q.1 = .ok (q.2, aLn q.2) := by decide +kernel
def bX6_bestCostume_7 : List (Nat × Instr) := [(7, .iload_n 2)]
theorem bX6_bestCostume_7_ok : ∀ q ∈ bX6_bestCostume_7, decode mX6_bestCostume.2.1 q.1 = .ok (q.2, aLn q.2) := by decide +kernel
def bX6_bestCostume_14 : List (Nat × Instr) := [(14, .iload_n 3)]
theorem bX6_bestCostume_14_ok : ∀ q ∈ bX6_bestCostume_14, decode mX6_bestCostume.2.1 q.1 = .ok (q.2, aLn q.2) := by decide +kernel
def bX6_bestCostume_21 : List (Nat × Instr) := [(21, .iconst (-1))]
theorem bX6_bestCostume_21_ok : ∀ q ∈ bX6_bestCostume_21, decode mX6_bestCostume.2.1 q.1 = .ok (q.2, aLn q.2) := by decide +kernel
def bX6_bestCostume_23 : List (Nat × Instr) := [(23, .iconst 0), (24, .istore 4), (26, .aload_n 0), (27, .iload_n 1), (28, .iconst 0), (29, .iload_n 2)]
theorem bX6_bestCostume_23_ok : ∀ q ∈ bX6_bestCostume_23, decode mX6_bestCostume.2.1 q.1 = .ok (q.2, aLn q.2) := by decide +kernel
def bX6_bestCostume_33 : List (Nat × Instr) := [(33, .istore 5), (35, .iconst 1), (36, .istore 6)]
theorem bX6_bestCostume_33_ok : ∀ q ∈ bX6_bestCostume_33, decode mX6_bestCostume.2.1 q.1 = .ok (q.2, aLn q.2) := by decide +kernel
def bX6_bestCostume_38 : List (Nat × Instr) := [(38, .iload 6), (40, .bipush 10)]
theorem bX6_bestCostume_38_ok : ∀ q ∈ bX6_bestCostume_38, decode mX6_bestCostume.2.1 q.1 = .ok (q.2, aLn q.2) := by decide +kernel
def bX6_bestCostume_45 : List (Nat × Instr) := [(45, .aload_n 0), (46, .iload_n 1), (47, .iload 6), (49, .iload_n 2)]
theorem bX6_bestCostume_45_ok : ∀ q ∈ bX6_bestCostume_45, decode mX6_bestCostume.2.1 q.1 = .ok (q.2, aLn q.2) := by decide +kernel
def bX6_bestCostume_53 : List (Nat × Instr) := [(53, .istore 7), (55, .iload 7), (57, .iload 5)]
theorem bX6_bestCostume_53_ok : ∀ q ∈ bX6_bestCostume_53, decode mX6_bestCostume.2.1 q.1 = .ok (q.2, aLn q.2) := by decide +kernel
def bX6_bestCostume_62 : List (Nat × Instr) := [(62, .iload 7), (64, .istore 5), (66, .iload 6), (68, .istore 4)]
theorem bX6_bestCostume_62_ok : ∀ q ∈ bX6_bestCostume_62, decode mX6_bestCostume.2.1 q.1 = .ok (q.2, aLn q.2) := by decide +kernel
def bX6_bestCostume_70 : List (Nat × Instr) := [(70, .iinc 6 1), (73, .goto (-35))]
theorem bX6_bestCostume_70_ok : ∀ q ∈ bX6_bestCostume_70, decode mX6_bestCostume.2.1 q.1 = .ok (q.2, aLn q.2) := by decide +kernel
def bX6_bestCostume_76 : List (Nat × Instr) := [(76, .iload_n 3)]
theorem bX6_bestCostume_76_ok : ∀ q ∈ bX6_bestCostume_76, decode mX6_bestCostume.2.1 q.1 = .ok (q.2, aLn q.2) := by decide +kernel
def bX6_bestCostume_80 : List (Nat × Instr) := [(80, .iload 4), (82, .goto 13)]
theorem bX6_bestCostume_80_ok : ∀ q ∈ bX6_bestCostume_80, decode mX6_bestCostume.2.1 q.1 = .ok (q.2, aLn q.2) := by decide +kernel
def bX6_bestCostume_85 : List (Nat × Instr) := [(85, .iload 5), (87, .aload_n 0), (88, .getfield 10), (91, .getfield 162), (94, .isub)]
theorem bX6_bestCostume_85_ok : ∀ q ∈ bX6_bestCostume_85, decode mX6_bestCostume.2.1 q.1 = .ok (q.2, aLn q.2) := by decide +kernel
theorem dX6_bestCostume_1 : decode mX6_bestCostume.2.1 1 = .ok (.invokestatic 109, 3) := by decide +kernel
theorem dX6_bestCostume_4 : decode mX6_bestCostume.2.1 4 = .ok (.ifCond .eq 17, 3) := by decide +kernel
theorem dX6_bestCostume_8 : decode mX6_bestCostume.2.1 8 = .ok (.invokestatic 165, 3) := by decide +kernel
theorem dX6_bestCostume_11 : decode mX6_bestCostume.2.1 11 = .ok (.ifCond .eq 10, 3) := by decide +kernel
theorem dX6_bestCostume_15 : decode mX6_bestCostume.2.1 15 = .ok (.invokestatic 171, 3) := by decide +kernel
theorem dX6_bestCostume_18 : decode mX6_bestCostume.2.1 18 = .ok (.ifCond .ne 5, 3) := by decide +kernel
theorem dX6_bestCostume_22 : decode mX6_bestCostume.2.1 22 = .ok (.ireturn, 1) := by decide +kernel
theorem dX6_bestCostume_30 : decode mX6_bestCostume.2.1 30 = .ok (.invokevirtual 184, 3) := by decide +kernel
theorem dX6_bestCostume_42 : decode mX6_bestCostume.2.1 42 = .ok (.if_icmp .ge 34, 3) := by decide +kernel
theorem dX6_bestCostume_50 : decode mX6_bestCostume.2.1 50 = .ok (.invokevirtual 184, 3) := by decide +kernel
theorem dX6_bestCostume_59 : decode mX6_bestCostume.2.1 59 = .ok (.if_icmp .ge 11, 3) := by decide +kernel
theorem dX6_bestCostume_77 : decode mX6_bestCostume.2.1 77 = .ok (.ifCond .ne 8, 3) := by decide +kernel
theorem dX6_bestCostume_95 : decode mX6_bestCostume.2.1 95 = .ok (.ireturn, 1) := by decide +kernel
def bX6_casts_0 : List (Nat × Instr) := [(0, .iload_n 1), (1, .iconst (-1))]
theorem bX6_casts_0_ok : ∀ q ∈ bX6_casts_0, decode mX6_casts.2.1 q.1 = .ok (q.2, aLn q.2) := by decide +kernel
def bX6_casts_5 : List (Nat × Instr) := [(5, .iload_n 1)]
theorem bX6_casts_5_ok : ∀ q ∈ bX6_casts_5, decode mX6_casts.2.1 q.1 = .ok (q.2, aLn q.2) := by decide +kernel
def bX6_casts_12 : List (Nat × Instr) := [(12, .iconst (-1))]
theorem bX6_casts_12_ok : ∀ q ∈ bX6_casts_12, decode mX6_casts.2.1 q.1 = .ok (q.2, aLn q.2) := by decide +kernel
def bX6_casts_14 : List (Nat × Instr) := [(14, .aload_n 0), (15, .getfield 36), (18, .aload_n 0), (19, .getfield 10)]
theorem bX6_casts_14_ok : ∀ q ∈ bX6_casts_14, decode mX6_casts.2.1 q.1 = .ok (q.2, aLn q.2) := by decide +kernel
def bX6_casts_25 : List (Nat × Instr) := [(25, .iload_n 1), (26, .iconst (-1))]
theorem bX6_casts_25_ok : ∀ q ∈ bX6_casts_25, decode mX6_casts.2.1 q.1 = .ok (q.2, aLn q.2) := by decide +kernel
def bX6_casts_30 : List (Nat × Instr) := [(30, .aload_n 0), (31, .getfield 36)]
theorem bX6_casts_30_ok : ∀ q ∈ bX6_casts_30, decode mX6_casts.2.1 q.1 = .ok (q.2, aLn q.2) := by decide +kernel
def bX6_casts_37 : List (Nat × Instr) := [(37, .goto 14)]
theorem bX6_casts_37_ok : ∀ q ∈ bX6_casts_37, decode mX6_casts.2.1 q.1 = .ok (q.2, aLn q.2) := by decide +kernel
def bX6_casts_40 : List (Nat × Instr) := [(40, .aload_n 0), (41, .getfield 36), (44, .iload_n 1)]
theorem bX6_casts_40_ok : ∀ q ∈ bX6_casts_40, decode mX6_casts.2.1 q.1 = .ok (q.2, aLn q.2) := by decide +kernel
theorem dX6_casts_2 : decode mX6_casts.2.1 2 = .ok (.if_icmp .eq 12, 3) := by decide +kernel
theorem dX6_casts_6 : decode mX6_casts.2.1 6 = .ok (.invokestatic 109, 3) := by decide +kernel
theorem dX6_casts_9 : decode mX6_casts.2.1 9 = .ok (.ifCond .ne 5, 3) := by decide +kernel
theorem dX6_casts_13 : decode mX6_casts.2.1 13 = .ok (.ireturn, 1) := by decide +kernel
theorem dX6_casts_22 : decode mX6_casts.2.1 22 = .ok (.invokevirtual 187, 3) := by decide +kernel
theorem dX6_casts_27 : decode mX6_casts.2.1 27 = .ok (.if_icmp .ne 13, 3) := by decide +kernel
theorem dX6_casts_34 : decode mX6_casts.2.1 34 = .ok (.invokevirtual 190, 3) := by decide +kernel
theorem dX6_casts_45 : decode mX6_casts.2.1 45 = .ok (.invokevirtual 193, 3) := by decide +kernel
theorem dX6_casts_48 : decode mX6_casts.2.1 48 = .ok (.invokestatic 94, 3) := by decide +kernel
theorem dX6_casts_51 : decode mX6_casts.2.1 51 = .ok (.ireturn, 1) := by decide +kernel
def bX6_send_0 : List (Nat × Instr) := [(0, .iload_n 1)]
theorem bX6_send_0_ok : ∀ q ∈ bX6_send_0, decode mX6_send.2.1 q.1 = .ok (q.2, aLn q.2) := by decide +kernel
def bX6_send_7 : List (Nat × Instr) := [(7, .iconst (-1))]
theorem bX6_send_7_ok : ∀ q ∈ bX6_send_7, decode mX6_send.2.1 q.1 = .ok (q.2, aLn q.2) := by decide +kernel
def bX6_send_9 : List (Nat × Instr) := [(9, .aload_n 0), (10, .iload_n 1)]
theorem bX6_send_9_ok : ∀ q ∈ bX6_send_9, decode mX6_send.2.1 q.1 = .ok (q.2, aLn q.2) := by decide +kernel
def bX6_send_14 : List (Nat × Instr) := [(14, .aload_n 0), (15, .getfield 16), (18, .getfield 162), (21, .istore_n 2), (22, .bipush (-4)), (24, .istore_n 3), (25, .iconst 0), (26, .istore 4)]
theorem bX6_send_14_ok : ∀ q ∈ bX6_send_14, decode mX6_send.2.1 q.1 = .ok (q.2, aLn q.2) := by decide +kernel
def bX6_send_28 : List (Nat × Instr) := [(28, .iload 4), (30, .aload_n 0), (31, .getfield 10), (34, .getfield 196)]
theorem bX6_send_28_ok : ∀ q ∈ bX6_send_28, decode mX6_send.2.1 q.1 = .ok (q.2, aLn q.2) := by decide +kernel
def bX6_send_40 : List (Nat × Instr) := [(40, .aload_n 0), (41, .getfield 10), (44, .getfield 91), (47, .iload 4), (49, .iaload), (50, .istore 5), (52, .iload 5), (54, .iconst (-1))]
theorem bX6_send_40_ok : ∀ q ∈ bX6_send_40, decode mX6_send.2.1 q.1 = .ok (q.2, aLn q.2) := by decide +kernel
def bX6_send_58 : List (Nat × Instr) := [(58, .aload_n 0), (59, .iload 5), (61, .iload_n 1)]
theorem bX6_send_58_ok : ∀ q ∈ bX6_send_58, decode mX6_send.2.1 q.1 = .ok (q.2, aLn q.2) := by decide +kernel
def bX6_send_65 : List (Nat × Instr) := [(65, .istore 6), (67, .iload 6), (69, .iload_n 2)]
theorem bX6_send_65_ok : ∀ q ∈ bX6_send_65, decode mX6_send.2.1 q.1 = .ok (q.2, aLn q.2) := by decide +kernel
def bX6_send_73 : List (Nat × Instr) := [(73, .iload 6), (75, .istore_n 2), (76, .iload 4), (78, .istore_n 3)]
theorem bX6_send_73_ok : ∀ q ∈ bX6_send_73, decode mX6_send.2.1 q.1 = .ok (q.2, aLn q.2) := by decide +kernel
def bX6_send_79 : List (Nat × Instr) := [(79, .iinc 4 1), (82, .goto (-54))]
theorem bX6_send_79_ok : ∀ q ∈ bX6_send_79, decode mX6_send.2.1 q.1 = .ok (q.2, aLn q.2) := by decide +kernel
def bX6_send_85 : List (Nat × Instr) := [(85, .iload_n 3)]
theorem bX6_send_85_ok : ∀ q ∈ bX6_send_85, decode mX6_send.2.1 q.1 = .ok (q.2, aLn q.2) := by decide +kernel
theorem dX6_send_1 : decode mX6_send.2.1 1 = .ok (.invokestatic 165, 3) := by decide +kernel
theorem dX6_send_4 : decode mX6_send.2.1 4 = .ok (.ifCond .ne 5, 3) := by decide +kernel
theorem dX6_send_8 : decode mX6_send.2.1 8 = .ok (.ireturn, 1) := by decide +kernel
theorem dX6_send_11 : decode mX6_send.2.1 11 = .ok (.invokevirtual 168, 3) := by decide +kernel
theorem dX6_send_37 : decode mX6_send.2.1 37 = .ok (.if_icmp .ge 48, 3) := by decide +kernel
theorem dX6_send_55 : decode mX6_send.2.1 55 = .ok (.if_icmp .eq 24, 3) := by decide +kernel
theorem dX6_send_62 : decode mX6_send.2.1 62 = .ok (.invokevirtual 199, 3) := by decide +kernel
theorem dX6_send_70 : decode mX6_send.2.1 70 = .ok (.if_icmp .ge 9, 3) := by decide +kernel
theorem dX6_send_86 : decode mX6_send.2.1 86 = .ok (.ireturn, 1) := by decide +kernel
def bX6_change_0 : List (Nat × Instr) := [(0, .iload_n 1)]
theorem bX6_change_0_ok : ∀ q ∈ bX6_change_0, decode mX6_change.2.1 q.1 = .ok (q.2, aLn q.2) := by decide +kernel
def bX6_change_7 : List (Nat × Instr) := [(7, .iconst (-1))]
theorem bX6_change_7_ok : ∀ q ∈ bX6_change_7, decode mX6_change.2.1 q.1 = .ok (q.2, aLn q.2) := by decide +kernel
def bX6_change_9 : List (Nat × Instr) := [(9, .aload_n 0), (10, .iload_n 1)]
theorem bX6_change_9_ok : ∀ q ∈ bX6_change_9, decode mX6_change.2.1 q.1 = .ok (q.2, aLn q.2) := by decide +kernel
def bX6_change_14 : List (Nat × Instr) := [(14, .aload_n 0), (15, .getfield 16), (18, .getfield 162), (21, .istore_n 2), (22, .bipush (-4)), (24, .istore_n 3), (25, .iconst 0), (26, .istore 4)]
theorem bX6_change_14_ok : ∀ q ∈ bX6_change_14, decode mX6_change.2.1 q.1 = .ok (q.2, aLn q.2) := by decide +kernel
def bX6_change_28 : List (Nat × Instr) := [(28, .iload 4), (30, .iconst 5)]
theorem bX6_change_28_ok : ∀ q ∈ bX6_change_28, decode mX6_change.2.1 q.1 = .ok (q.2, aLn q.2) := by decide +kernel
def bX6_change_34 : List (Nat × Instr) := [(34, .iload 4), (36, .iconst 1), (37, .iadd), (38, .istore 5)]
theorem bX6_change_34_ok : ∀ q ∈ bX6_change_34, decode mX6_change.2.1 q.1 = .ok (q.2, aLn q.2) := by decide +kernel
def bX6_change_40 : List (Nat × Instr) := [(40, .iload 5), (42, .iconst 5)]
theorem bX6_change_40_ok : ∀ q ∈ bX6_change_40, decode mX6_change.2.1 q.1 = .ok (q.2, aLn q.2) := by decide +kernel
def bX6_change_46 : List (Nat × Instr) := [(46, .aload_n 0), (47, .iload 4), (49, .iload 5), (51, .iload_n 1)]
theorem bX6_change_46_ok : ∀ q ∈ bX6_change_46, decode mX6_change.2.1 q.1 = .ok (q.2, aLn q.2) := by decide +kernel
def bX6_change_55 : List (Nat × Instr) := [(55, .istore 6), (57, .iload 6), (59, .iload_n 2)]
theorem bX6_change_55_ok : ∀ q ∈ bX6_change_55, decode mX6_change.2.1 q.1 = .ok (q.2, aLn q.2) := by decide +kernel
def bX6_change_63 : List (Nat × Instr) := [(63, .iload 6), (65, .istore_n 2), (66, .bipush 10), (68, .iload 4), (70, .imul), (71, .iload 5), (73, .iadd), (74, .istore_n 3)]
theorem bX6_change_63_ok : ∀ q ∈ bX6_change_63, decode mX6_change.2.1 q.1 = .ok (q.2, aLn q.2) := by decide +kernel
def bX6_change_75 : List (Nat × Instr) := [(75, .iinc 5 1), (78, .goto (-38))]
theorem bX6_change_75_ok : ∀ q ∈ bX6_change_75, decode mX6_change.2.1 q.1 = .ok (q.2, aLn q.2) := by decide +kernel
def bX6_change_81 : List (Nat × Instr) := [(81, .iinc 4 1), (84, .goto (-56))]
theorem bX6_change_81_ok : ∀ q ∈ bX6_change_81, decode mX6_change.2.1 q.1 = .ok (q.2, aLn q.2) := by decide +kernel
def bX6_change_87 : List (Nat × Instr) := [(87, .iload_n 3)]
theorem bX6_change_87_ok : ∀ q ∈ bX6_change_87, decode mX6_change.2.1 q.1 = .ok (q.2, aLn q.2) := by decide +kernel
theorem dX6_change_1 : decode mX6_change.2.1 1 = .ok (.invokestatic 165, 3) := by decide +kernel
theorem dX6_change_4 : decode mX6_change.2.1 4 = .ok (.ifCond .ne 5, 3) := by decide +kernel
theorem dX6_change_8 : decode mX6_change.2.1 8 = .ok (.ireturn, 1) := by decide +kernel
theorem dX6_change_11 : decode mX6_change.2.1 11 = .ok (.invokevirtual 168, 3) := by decide +kernel
theorem dX6_change_31 : decode mX6_change.2.1 31 = .ok (.if_icmp .ge 56, 3) := by decide +kernel
theorem dX6_change_43 : decode mX6_change.2.1 43 = .ok (.if_icmp .ge 38, 3) := by decide +kernel
theorem dX6_change_52 : decode mX6_change.2.1 52 = .ok (.invokevirtual 202, 3) := by decide +kernel
theorem dX6_change_60 : decode mX6_change.2.1 60 = .ok (.if_icmp .ge 15, 3) := by decide +kernel
theorem dX6_change_88 : decode mX6_change.2.1 88 = .ok (.ireturn, 1) := by decide +kernel
def bX6_over_0 : List (Nat × Instr) := [(0, .iload_n 1)]
theorem bX6_over_0_ok : ∀ q ∈ bX6_over_0, decode mX6_over.2.1 q.1 = .ok (q.2, aLn q.2) := by decide +kernel
def bX6_over_36 : List (Nat × Instr) := [(36, .aload_n 0), (37, .getfield 10), (40, .getfield 196), (43, .aload_n 0), (44, .getfield 10)]
theorem bX6_over_36_ok : ∀ q ∈ bX6_over_36, decode mX6_over.2.1 q.1 = .ok (q.2, aLn q.2) := by decide +kernel
def bX6_over_50 : List (Nat × Instr) := [(50, .isub)]
theorem bX6_over_50_ok : ∀ q ∈ bX6_over_50, decode mX6_over.2.1 q.1 = .ok (q.2, aLn q.2) := by decide +kernel
def bX6_over_52 : List (Nat × Instr) := [(52, .aload_n 0), (53, .getfield 10)]
theorem bX6_over_52_ok : ∀ q ∈ bX6_over_52, decode mX6_over.2.1 q.1 = .ok (q.2, aLn q.2) := by decide +kernel
def bX6_over_60 : List (Nat × Instr) := [(60, .aload_n 0), (61, .getfield 10)]
theorem bX6_over_60_ok : ∀ q ∈ bX6_over_60, decode mX6_over.2.1 q.1 = .ok (q.2, aLn q.2) := by decide +kernel
def bX6_over_68 : List (Nat × Instr) := [(68, .aload_n 0), (69, .getfield 10)]
theorem bX6_over_68_ok : ∀ q ∈ bX6_over_68, decode mX6_over.2.1 q.1 = .ok (q.2, aLn q.2) := by decide +kernel
def bX6_over_79 : List (Nat × Instr) := [(79, .aload_n 0)]
theorem bX6_over_79_ok : ∀ q ∈ bX6_over_79, decode mX6_over.2.1 q.1 = .ok (q.2, aLn q.2) := by decide +kernel
def bX6_over_84 : List (Nat × Instr) := [(84, .ldc 220)]
theorem bX6_over_84_ok : ∀ q ∈ bX6_over_84, decode mX6_over.2.1 q.1 = .ok (q.2, aLn q.2) := by decide +kernel
theorem dX6_over_1 : decode mX6_over.2.1 1 = .ok (.tableswitch 83 0 4 #[35, 51, 59, 67, 78], 35) := by decide +kernel
theorem dX6_over_47 : decode mX6_over.2.1 47 = .ok (.invokevirtual 205, 3) := by decide +kernel
theorem dX6_over_51 : decode mX6_over.2.1 51 = .ok (.ireturn, 1) := by decide +kernel
theorem dX6_over_56 : decode mX6_over.2.1 56 = .ok (.invokevirtual 208, 3) := by decide +kernel
theorem dX6_over_59 : decode mX6_over.2.1 59 = .ok (.ireturn, 1) := by decide +kernel
theorem dX6_over_64 : decode mX6_over.2.1 64 = .ok (.invokevirtual 211, 3) := by decide +kernel
theorem dX6_over_67 : decode mX6_over.2.1 67 = .ok (.ireturn, 1) := by decide +kernel
theorem dX6_over_72 : decode mX6_over.2.1 72 = .ok (.invokevirtual 214, 3) := by decide +kernel
theorem dX6_over_75 : decode mX6_over.2.1 75 = .ok (.invokestatic 94, 3) := by decide +kernel
theorem dX6_over_78 : decode mX6_over.2.1 78 = .ok (.ireturn, 1) := by decide +kernel
theorem dX6_over_80 : decode mX6_over.2.1 80 = .ok (.invokevirtual 217, 3) := by decide +kernel
theorem dX6_over_83 : decode mX6_over.2.1 83 = .ok (.ireturn, 1) := by decide +kernel
theorem dX6_over_86 : decode mX6_over.2.1 86 = .ok (.ireturn, 1) := by decide +kernel
def bX6_whatIs_0 : List (Nat × Instr) := [(0, .iload_n 1)]
theorem bX6_whatIs_0_ok : ∀ q ∈ bX6_whatIs_0, decode mX6_whatIs.2.1 q.1 = .ok (q.2, aLn q.2) := by decide +kernel
def bX6_whatIs_7 : List (Nat × Instr) := [(7, .aload_n 0), (8, .getfield 10), (11, .iload_n 2)]
theorem bX6_whatIs_7_ok : ∀ q ∈ bX6_whatIs_7, decode mX6_whatIs.2.1 q.1 = .ok (q.2, aLn q.2) := by decide +kernel
def bX6_whatIs_18 : List (Nat × Instr) := [(18, .iload_n 3)]
theorem bX6_whatIs_18_ok : ∀ q ∈ bX6_whatIs_18, decode mX6_whatIs.2.1 q.1 = .ok (q.2, aLn q.2) := by decide +kernel
def bX6_whatIs_25 : List (Nat × Instr) := [(25, .iconst (-1))]
theorem bX6_whatIs_25_ok : ∀ q ∈ bX6_whatIs_25, decode mX6_whatIs.2.1 q.1 = .ok (q.2, aLn q.2) := by decide +kernel
def bX6_whatIs_27 : List (Nat × Instr) := [(27, .aload_n 0), (28, .getfield 29), (31, .iload_n 1)]
theorem bX6_whatIs_27_ok : ∀ q ∈ bX6_whatIs_27, decode mX6_whatIs.2.1 q.1 = .ok (q.2, aLn q.2) := by decide +kernel
def bX6_whatIs_35 : List (Nat × Instr) := [(35, .istore 4), (37, .iload 4)]
theorem bX6_whatIs_35_ok : ∀ q ∈ bX6_whatIs_35, decode mX6_whatIs.2.1 q.1 = .ok (q.2, aLn q.2) := by decide +kernel
def bX6_whatIs_42 : List (Nat × Instr) := [(42, .iload 4)]
theorem bX6_whatIs_42_ok : ∀ q ∈ bX6_whatIs_42, decode mX6_whatIs.2.1 q.1 = .ok (q.2, aLn q.2) := by decide +kernel
def bX6_whatIs_45 : List (Nat × Instr) := [(45, .iload_n 3)]
theorem bX6_whatIs_45_ok : ∀ q ∈ bX6_whatIs_45, decode mX6_whatIs.2.1 q.1 = .ok (q.2, aLn q.2) := by decide +kernel
def bX6_whatIs_49 : List (Nat × Instr) := [(49, .bipush 8), (51, .goto 5)]
theorem bX6_whatIs_49_ok : ∀ q ∈ bX6_whatIs_49, decode mX6_whatIs.2.1 q.1 = .ok (q.2, aLn q.2) := by decide +kernel
def bX6_whatIs_54 : List (Nat × Instr) := [(54, .bipush 10)]
theorem bX6_whatIs_54_ok : ∀ q ∈ bX6_whatIs_54, decode mX6_whatIs.2.1 q.1 = .ok (q.2, aLn q.2) := by decide +kernel
def bX6_whatIs_56 : List (Nat × Instr) := [(56, .istore 5), (58, .iconst 0), (59, .istore 6), (61, .iconst 0), (62, .istore 7)]
theorem bX6_whatIs_56_ok : ∀ q ∈ bX6_whatIs_56, decode mX6_whatIs.2.1 q.1 = .ok (q.2, aLn q.2) := by decide +kernel
def bX6_whatIs_64 : List (Nat × Instr) := [(64, .iload 7), (66, .iload 5)]
theorem bX6_whatIs_64_ok : ∀ q ∈ bX6_whatIs_64, decode mX6_whatIs.2.1 q.1 = .ok (q.2, aLn q.2) := by decide +kernel
def bX6_whatIs_71 : List (Nat × Instr) := [(71, .aload_n 0), (72, .getfield 16), (75, .aload_n 0), (76, .getfield 10)]
theorem bX6_whatIs_71_ok : ∀ q ∈ bX6_whatIs_71, decode mX6_whatIs.2.1 q.1 = .ok (q.2, aLn q.2) := by decide +kernel
def bX6_whatIs_82 : List (Nat × Instr) := [(82, .iload_n 3)]
theorem bX6_whatIs_82_ok : ∀ q ∈ bX6_whatIs_82, decode mX6_whatIs.2.1 q.1 = .ok (q.2, aLn q.2) := by decide +kernel
def bX6_whatIs_86 : List (Nat × Instr) := [(86, .aload_n 0), (87, .getfield 16), (90, .getfield 79), (93, .iload_n 2), (94, .iload 7), (96, .iastore), (97, .goto 14)]
theorem bX6_whatIs_86_ok : ∀ q ∈ bX6_whatIs_86, decode mX6_whatIs.2.1 q.1 = .ok (q.2, aLn q.2) := by decide +kernel
def bX6_whatIs_100 : List (Nat × Instr) := [(100, .aload_n 0), (101, .getfield 16), (104, .getfield 82), (107, .iload_n 2), (108, .iload 7), (110, .iastore)]
theorem bX6_whatIs_100_ok : ∀ q ∈ bX6_whatIs_100, decode mX6_whatIs.2.1 q.1 = .ok (q.2, aLn q.2) := by decide +kernel
def bX6_whatIs_111 : List (Nat × Instr) := [(111, .aload_n 0), (112, .iload_n 1), (113, .iconst 0), (114, .iload_n 2)]
theorem bX6_whatIs_111_ok : ∀ q ∈ bX6_whatIs_111, decode mX6_whatIs.2.1 q.1 = .ok (q.2, aLn q.2) := by decide +kernel
def bX6_whatIs_118 : List (Nat × Instr) := [(118, .bipush (-4))]
theorem bX6_whatIs_118_ok : ∀ q ∈ bX6_whatIs_118, decode mX6_whatIs.2.1 q.1 = .ok (q.2, aLn q.2) := by decide +kernel
def bX6_whatIs_123 : List (Nat × Instr) := [(123, .iload 6), (125, .iconst 1), (126, .iload 7), (128, .ishl), (129, .ior), (130, .istore 6)]
theorem bX6_whatIs_123_ok : ∀ q ∈ bX6_whatIs_123, decode mX6_whatIs.2.1 q.1 = .ok (q.2, aLn q.2) := by decide +kernel
def bX6_whatIs_132 : List (Nat × Instr) := [(132, .iinc 7 1), (135, .goto (-71))]
theorem bX6_whatIs_132_ok : ∀ q ∈ bX6_whatIs_132, decode mX6_whatIs.2.1 q.1 = .ok (q.2, aLn q.2) := by decide +kernel
def bX6_whatIs_138 : List (Nat × Instr) := [(138, .iload 6)]
theorem bX6_whatIs_138_ok : ∀ q ∈ bX6_whatIs_138, decode mX6_whatIs.2.1 q.1 = .ok (q.2, aLn q.2) := by decide +kernel
theorem dX6_whatIs_1 : decode mX6_whatIs.2.1 1 = .ok (.invokestatic 132, 3) := by decide +kernel
theorem dX6_whatIs_4 : decode mX6_whatIs.2.1 4 = .ok (.ifCond .eq 21, 3) := by decide +kernel
theorem dX6_whatIs_12 : decode mX6_whatIs.2.1 12 = .ok (.invokevirtual 76, 3) := by decide +kernel
theorem dX6_whatIs_15 : decode mX6_whatIs.2.1 15 = .ok (.ifCond .eq 10, 3) := by decide +kernel
theorem dX6_whatIs_19 : decode mX6_whatIs.2.1 19 = .ok (.invokestatic 171, 3) := by decide +kernel
theorem dX6_whatIs_22 : decode mX6_whatIs.2.1 22 = .ok (.ifCond .ne 5, 3) := by decide +kernel
theorem dX6_whatIs_26 : decode mX6_whatIs.2.1 26 = .ok (.ireturn, 1) := by decide +kernel
theorem dX6_whatIs_32 : decode mX6_whatIs.2.1 32 = .ok (.invokevirtual 54, 3) := by decide +kernel
theorem dX6_whatIs_39 : decode mX6_whatIs.2.1 39 = .ok (.ifCond .eq 6, 3) := by decide +kernel
theorem dX6_whatIs_44 : decode mX6_whatIs.2.1 44 = .ok (.ireturn, 1) := by decide +kernel
theorem dX6_whatIs_46 : decode mX6_whatIs.2.1 46 = .ok (.ifCond .ne 8, 3) := by decide +kernel
theorem dX6_whatIs_68 : decode mX6_whatIs.2.1 68 = .ok (.if_icmp .ge 70, 3) := by decide +kernel
theorem dX6_whatIs_79 : decode mX6_whatIs.2.1 79 = .ok (.invokevirtual 68, 3) := by decide +kernel
theorem dX6_whatIs_83 : decode mX6_whatIs.2.1 83 = .ok (.ifCond .ne 17, 3) := by decide +kernel
theorem dX6_whatIs_115 : decode mX6_whatIs.2.1 115 = .ok (.invokevirtual 221, 3) := by decide +kernel
theorem dX6_whatIs_120 : decode mX6_whatIs.2.1 120 = .ok (.if_icmp .ne 12, 3) := by decide +kernel
theorem dX6_whatIs_140 : decode mX6_whatIs.2.1 140 = .ok (.ireturn, 1) := by decide +kernel
def bX6_whoHeld_0 : List (Nat × Instr) := [(0, .iload_n 1)]
theorem bX6_whoHeld_0_ok : ∀ q ∈ bX6_whoHeld_0, decode mX6_whoHeld.2.1 q.1 = .ok (q.2, aLn q.2) := by decide +kernel
def bX6_whoHeld_7 : List (Nat × Instr) := [(7, .iload_n 2)]
theorem bX6_whoHeld_7_ok : ∀ q ∈ bX6_whoHeld_7, decode mX6_whoHeld.2.1 q.1 = .ok (q.2, aLn q.2) := by decide +kernel
def bX6_whoHeld_14 : List (Nat × Instr) := [(14, .iconst (-1))]
theorem bX6_whoHeld_14_ok : ∀ q ∈ bX6_whoHeld_14, decode mX6_whoHeld.2.1 q.1 = .ok (q.2, aLn q.2) := by decide +kernel
def bX6_whoHeld_16 : List (Nat × Instr) := [(16, .aload_n 0), (17, .getfield 29), (20, .iload_n 1)]
theorem bX6_whoHeld_16_ok : ∀ q ∈ bX6_whoHeld_16, decode mX6_whoHeld.2.1 q.1 = .ok (q.2, aLn q.2) := by decide +kernel
def bX6_whoHeld_24 : List (Nat × Instr) := [(24, .istore_n 3), (25, .iload_n 3)]
theorem bX6_whoHeld_24_ok : ∀ q ∈ bX6_whoHeld_24, decode mX6_whoHeld.2.1 q.1 = .ok (q.2, aLn q.2) := by decide +kernel
def bX6_whoHeld_29 : List (Nat × Instr) := [(29, .iload_n 3)]
theorem bX6_whoHeld_29_ok : ∀ q ∈ bX6_whoHeld_29, decode mX6_whoHeld.2.1 q.1 = .ok (q.2, aLn q.2) := by decide +kernel
def bX6_whoHeld_31 : List (Nat × Instr) := [(31, .iconst 0), (32, .istore 4), (34, .iconst 0), (35, .istore 5)]
theorem bX6_whoHeld_31_ok : ∀ q ∈ bX6_whoHeld_31, decode mX6_whoHeld.2.1 q.1 = .ok (q.2, aLn q.2) := by decide +kernel
def bX6_whoHeld_37 : List (Nat × Instr) := [(37, .iload 5), (39, .aload_n 0), (40, .getfield 10), (43, .getfield 196)]
theorem bX6_whoHeld_37_ok : ∀ q ∈ bX6_whoHeld_37, decode mX6_whoHeld.2.1 q.1 = .ok (q.2, aLn q.2) := by decide +kernel
def bX6_whoHeld_49 : List (Nat × Instr) := [(49, .aload_n 0), (50, .getfield 16), (53, .aload_n 0), (54, .getfield 10)]
theorem bX6_whoHeld_49_ok : ∀ q ∈ bX6_whoHeld_49, decode mX6_whoHeld.2.1 q.1 = .ok (q.2, aLn q.2) := by decide +kernel
def bX6_whoHeld_60 : List (Nat × Instr) := [(60, .aload_n 0), (61, .getfield 16), (64, .iload_n 2), (65, .iload 5)]
theorem bX6_whoHeld_60_ok : ∀ q ∈ bX6_whoHeld_60, decode mX6_whoHeld.2.1 q.1 = .ok (q.2, aLn q.2) := by decide +kernel
def bX6_whoHeld_70 : List (Nat × Instr) := [(70, .aload_n 0), (71, .iload_n 1), (72, .iconst 1), (73, .iload_n 2)]
theorem bX6_whoHeld_70_ok : ∀ q ∈ bX6_whoHeld_70, decode mX6_whoHeld.2.1 q.1 = .ok (q.2, aLn q.2) := by decide +kernel
def bX6_whoHeld_77 : List (Nat × Instr) := [(77, .bipush (-4))]
theorem bX6_whoHeld_77_ok : ∀ q ∈ bX6_whoHeld_77, decode mX6_whoHeld.2.1 q.1 = .ok (q.2, aLn q.2) := by decide +kernel
def bX6_whoHeld_82 : List (Nat × Instr) := [(82, .iload 4), (84, .iconst 1), (85, .iload 5), (87, .ishl), (88, .ior), (89, .istore 4)]
theorem bX6_whoHeld_82_ok : ∀ q ∈ bX6_whoHeld_82, decode mX6_whoHeld.2.1 q.1 = .ok (q.2, aLn q.2) := by decide +kernel
def bX6_whoHeld_91 : List (Nat × Instr) := [(91, .iinc 5 1), (94, .goto (-57))]
theorem bX6_whoHeld_91_ok : ∀ q ∈ bX6_whoHeld_91, decode mX6_whoHeld.2.1 q.1 = .ok (q.2, aLn q.2) := by decide +kernel
def bX6_whoHeld_97 : List (Nat × Instr) := [(97, .iload 4)]
theorem bX6_whoHeld_97_ok : ∀ q ∈ bX6_whoHeld_97, decode mX6_whoHeld.2.1 q.1 = .ok (q.2, aLn q.2) := by decide +kernel
theorem dX6_whoHeld_1 : decode mX6_whoHeld.2.1 1 = .ok (.invokestatic 132, 3) := by decide +kernel
theorem dX6_whoHeld_4 : decode mX6_whoHeld.2.1 4 = .ok (.ifCond .eq 10, 3) := by decide +kernel
theorem dX6_whoHeld_8 : decode mX6_whoHeld.2.1 8 = .ok (.invokestatic 109, 3) := by decide +kernel
theorem dX6_whoHeld_11 : decode mX6_whoHeld.2.1 11 = .ok (.ifCond .ne 5, 3) := by decide +kernel
theorem dX6_whoHeld_15 : decode mX6_whoHeld.2.1 15 = .ok (.ireturn, 1) := by decide +kernel
theorem dX6_whoHeld_21 : decode mX6_whoHeld.2.1 21 = .ok (.invokevirtual 54, 3) := by decide +kernel
theorem dX6_whoHeld_26 : decode mX6_whoHeld.2.1 26 = .ok (.ifCond .eq 5, 3) := by decide +kernel
theorem dX6_whoHeld_30 : decode mX6_whoHeld.2.1 30 = .ok (.ireturn, 1) := by decide +kernel
theorem dX6_whoHeld_46 : decode mX6_whoHeld.2.1 46 = .ok (.if_icmp .ge 51, 3) := by decide +kernel
theorem dX6_whoHeld_57 : decode mX6_whoHeld.2.1 57 = .ok (.invokevirtual 68, 3) := by decide +kernel
theorem dX6_whoHeld_67 : decode mX6_whoHeld.2.1 67 = .ok (.invokevirtual 151, 3) := by decide +kernel
theorem dX6_whoHeld_74 : decode mX6_whoHeld.2.1 74 = .ok (.invokevirtual 221, 3) := by decide +kernel
theorem dX6_whoHeld_79 : decode mX6_whoHeld.2.1 79 = .ok (.if_icmp .ne 12, 3) := by decide +kernel
theorem dX6_whoHeld_99 : decode mX6_whoHeld.2.1 99 = .ok (.ireturn, 1) := by decide +kernel
def bX6_two_0 : List (Nat × Instr) := [(0, .aload_n 0), (1, .getfield 10), (4, .iload_n 1)]
theorem bX6_two_0_ok : ∀ q ∈ bX6_two_0, decode mX6_two.2.1 q.1 = .ok (q.2, aLn q.2) := by decide +kernel
def bX6_two_11 : List (Nat × Instr) := [(11, .aload_n 0), (12, .getfield 10), (15, .iload_n 2)]
theorem bX6_two_11_ok : ∀ q ∈ bX6_two_11, decode mX6_two.2.1 q.1 = .ok (q.2, aLn q.2) := by decide +kernel
def bX6_two_22 : List (Nat × Instr) := [(22, .iload_n 1), (23, .iload_n 2)]
theorem bX6_two_22_ok : ∀ q ∈ bX6_two_22, decode mX6_two.2.1 q.1 = .ok (q.2, aLn q.2) := by decide +kernel
def bX6_two_27 : List (Nat × Instr) := [(27, .iload_n 3), (28, .iconst 1)]
theorem bX6_two_27_ok : ∀ q ∈ bX6_two_27, decode mX6_two.2.1 q.1 = .ok (q.2, aLn q.2) := by decide +kernel
def bX6_two_32 : List (Nat × Instr) := [(32, .iload_n 3), (33, .bipush 30)]
theorem bX6_two_32_ok : ∀ q ∈ bX6_two_32, decode mX6_two.2.1 q.1 = .ok (q.2, aLn q.2) := by decide +kernel
def bX6_two_38 : List (Nat × Instr) := [(38, .iconst (-1))]
theorem bX6_two_38_ok : ∀ q ∈ bX6_two_38, decode mX6_two.2.1 q.1 = .ok (q.2, aLn q.2) := by decide +kernel
def bX6_two_40 : List (Nat × Instr) := [(40, .aload_n 0), (41, .getfield 10), (44, .getfield 91), (47, .iload_n 1), (48, .iaload), (49, .iconst (-1))]
theorem bX6_two_40_ok : ∀ q ∈ bX6_two_40, decode mX6_two.2.1 q.1 = .ok (q.2, aLn q.2) := by decide +kernel
def bX6_two_53 : List (Nat × Instr) := [(53, .aload_n 0), (54, .getfield 10), (57, .getfield 91), (60, .iload_n 2), (61, .iaload), (62, .iconst (-1))]
theorem bX6_two_53_ok : ∀ q ∈ bX6_two_53, decode mX6_two.2.1 q.1 = .ok (q.2, aLn q.2) := by decide +kernel
def bX6_two_66 : List (Nat × Instr) := [(66, .bipush (-3))]
theorem bX6_two_66_ok : ∀ q ∈ bX6_two_66, decode mX6_two.2.1 q.1 = .ok (q.2, aLn q.2) := by decide +kernel
def bX6_two_69 : List (Nat × Instr) := [(69, .iconst 0), (70, .istore 4)]
theorem bX6_two_69_ok : ∀ q ∈ bX6_two_69, decode mX6_two.2.1 q.1 = .ok (q.2, aLn q.2) := by decide +kernel
def bX6_two_72 : List (Nat × Instr) := [(72, .iload 4), (74, .iconst 4)]
theorem bX6_two_72_ok : ∀ q ∈ bX6_two_72, decode mX6_two.2.1 q.1 = .ok (q.2, aLn q.2) := by decide +kernel
def bX6_two_78 : List (Nat × Instr) := [(78, .aload_n 0), (79, .iload_n 1), (80, .iload_n 2), (81, .iload_n 3), (82, .iload 4)]
theorem bX6_two_78_ok : ∀ q ∈ bX6_two_78, decode mX6_two.2.1 q.1 = .ok (q.2, aLn q.2) := by decide +kernel
def bX6_two_87 : List (Nat × Instr) := [(87, .iinc 4 1), (90, .goto (-18))]
theorem bX6_two_87_ok : ∀ q ∈ bX6_two_87, decode mX6_two.2.1 q.1 = .ok (q.2, aLn q.2) := by decide +kernel
def bX6_two_93 : List (Nat × Instr) := [(93, .iconst 0), (94, .istore 4)]
theorem bX6_two_93_ok : ∀ q ∈ bX6_two_93, decode mX6_two.2.1 q.1 = .ok (q.2, aLn q.2) := by decide +kernel
def bX6_two_96 : List (Nat × Instr) := [(96, .iload 4), (98, .iconst 4)]
theorem bX6_two_96_ok : ∀ q ∈ bX6_two_96, decode mX6_two.2.1 q.1 = .ok (q.2, aLn q.2) := by decide +kernel
def bX6_two_102 : List (Nat × Instr) := [(102, .aload_n 0), (103, .getfield 47), (106, .iload 4), (108, .iaload), (109, .aload_n 0), (110, .getfield 47), (113, .iload 4), (115, .iconst 2), (116, .ixor), (117, .iaload)]
theorem bX6_two_102_ok : ∀ q ∈ bX6_two_102, decode mX6_two.2.1 q.1 = .ok (q.2, aLn q.2) := by decide +kernel
def bX6_two_121 : List (Nat × Instr) := [(121, .iconst 1), (122, .goto 4)]
theorem bX6_two_121_ok : ∀ q ∈ bX6_two_121, decode mX6_two.2.1 q.1 = .ok (q.2, aLn q.2) := by decide +kernel
def bX6_two_125 : List (Nat × Instr) := [(125, .iconst 0)]
theorem bX6_two_125_ok : ∀ q ∈ bX6_two_125, decode mX6_two.2.1 q.1 = .ok (q.2, aLn q.2) := by decide +kernel
def bX6_two_126 : List (Nat × Instr) := [(126, .istore 5), (128, .aload_n 0), (129, .getfield 51), (132, .iload 4), (134, .iaload), (135, .aload_n 0), (136, .getfield 51), (139, .iload 4), (141, .iconst 1), (142, .ixor), (143, .iaload)]
theorem bX6_two_126_ok : ∀ q ∈ bX6_two_126, decode mX6_two.2.1 q.1 = .ok (q.2, aLn q.2) := by decide +kernel
def bX6_two_147 : List (Nat × Instr) := [(147, .iconst 1), (148, .goto 4)]
theorem bX6_two_147_ok : ∀ q ∈ bX6_two_147, decode mX6_two.2.1 q.1 = .ok (q.2, aLn q.2) := by decide +kernel
def bX6_two_151 : List (Nat × Instr) := [(151, .iconst 0)]
theorem bX6_two_151_ok : ∀ q ∈ bX6_two_151, decode mX6_two.2.1 q.1 = .ok (q.2, aLn q.2) := by decide +kernel
def bX6_two_152 : List (Nat × Instr) := [(152, .istore 6), (154, .iload 5)]
theorem bX6_two_152_ok : ∀ q ∈ bX6_two_152, decode mX6_two.2.1 q.1 = .ok (q.2, aLn q.2) := by decide +kernel
def bX6_two_159 : List (Nat × Instr) := [(159, .iload 6)]
theorem bX6_two_159_ok : ∀ q ∈ bX6_two_159, decode mX6_two.2.1 q.1 = .ok (q.2, aLn q.2) := by decide +kernel
def bX6_two_164 : List (Nat × Instr) := [(164, .bipush 10), (166, .iload 4), (168, .iconst 1), (169, .ishr), (170, .imul), (171, .iload 4), (173, .iconst 1), (174, .iand), (175, .iadd)]
theorem bX6_two_164_ok : ∀ q ∈ bX6_two_164, decode mX6_two.2.1 q.1 = .ok (q.2, aLn q.2) := by decide +kernel
def bX6_two_177 : List (Nat × Instr) := [(177, .iinc 4 1), (180, .goto (-84))]
theorem bX6_two_177_ok : ∀ q ∈ bX6_two_177, decode mX6_two.2.1 q.1 = .ok (q.2, aLn q.2) := by decide +kernel
def bX6_two_183 : List (Nat × Instr) := [(183, .bipush (-4))]
theorem bX6_two_183_ok : ∀ q ∈ bX6_two_183, decode mX6_two.2.1 q.1 = .ok (q.2, aLn q.2) := by decide +kernel
theorem dX6_two_5 : decode mX6_two.2.1 5 = .ok (.invokevirtual 76, 3) := by decide +kernel
theorem dX6_two_8 : decode mX6_two.2.1 8 = .ok (.ifCond .eq 30, 3) := by decide +kernel
theorem dX6_two_16 : decode mX6_two.2.1 16 = .ok (.invokevirtual 76, 3) := by decide +kernel
theorem dX6_two_19 : decode mX6_two.2.1 19 = .ok (.ifCond .eq 19, 3) := by decide +kernel
theorem dX6_two_24 : decode mX6_two.2.1 24 = .ok (.if_icmp .eq 14, 3) := by decide +kernel
theorem dX6_two_29 : decode mX6_two.2.1 29 = .ok (.if_icmp .lt 9, 3) := by decide +kernel
theorem dX6_two_35 : decode mX6_two.2.1 35 = .ok (.if_icmp .le 5, 3) := by decide +kernel
theorem dX6_two_39 : decode mX6_two.2.1 39 = .ok (.ireturn, 1) := by decide +kernel
theorem dX6_two_50 : decode mX6_two.2.1 50 = .ok (.if_icmp .eq 16, 3) := by decide +kernel
theorem dX6_two_63 : decode mX6_two.2.1 63 = .ok (.if_icmp .ne 6, 3) := by decide +kernel
theorem dX6_two_68 : decode mX6_two.2.1 68 = .ok (.ireturn, 1) := by decide +kernel
theorem dX6_two_75 : decode mX6_two.2.1 75 = .ok (.if_icmp .ge 18, 3) := by decide +kernel
theorem dX6_two_84 : decode mX6_two.2.1 84 = .ok (.invokevirtual 224, 3) := by decide +kernel
theorem dX6_two_99 : decode mX6_two.2.1 99 = .ok (.if_icmp .ge 84, 3) := by decide +kernel
theorem dX6_two_118 : decode mX6_two.2.1 118 = .ok (.if_icmp .lt 7, 3) := by decide +kernel
theorem dX6_two_144 : decode mX6_two.2.1 144 = .ok (.if_icmp .lt 7, 3) := by decide +kernel
theorem dX6_two_156 : decode mX6_two.2.1 156 = .ok (.ifCond .eq 21, 3) := by decide +kernel
theorem dX6_two_161 : decode mX6_two.2.1 161 = .ok (.ifCond .eq 16, 3) := by decide +kernel
theorem dX6_two_176 : decode mX6_two.2.1 176 = .ok (.ireturn, 1) := by decide +kernel
theorem dX6_two_185 : decode mX6_two.2.1 185 = .ok (.ireturn, 1) := by decide +kernel
def bX6_scandals_0 : List (Nat × Instr) := [(0, .iload_n 1)]
theorem bX6_scandals_0_ok : ∀ q ∈ bX6_scandals_0, decode mX6_scandals.2.1 q.1 = .ok (q.2, aLn q.2) := by decide +kernel
def bX6_scandals_7 : List (Nat × Instr) := [(7, .iload_n 2)]
theorem bX6_scandals_7_ok : ∀ q ∈ bX6_scandals_7, decode mX6_scandals.2.1 q.1 = .ok (q.2, aLn q.2) := by decide +kernel
def bX6_scandals_11 : List (Nat × Instr) := [(11, .iload_n 2), (12, .bipush 7)]
theorem bX6_scandals_11_ok : ∀ q ∈ bX6_scandals_11, decode mX6_scandals.2.1 q.1 = .ok (q.2, aLn q.2) := by decide +kernel
def bX6_scandals_17 : List (Nat × Instr) := [(17, .iload_n 3), (18, .iconst 2)]
theorem bX6_scandals_17_ok : ∀ q ∈ bX6_scandals_17, decode mX6_scandals.2.1 q.1 = .ok (q.2, aLn q.2) := by decide +kernel
def bX6_scandals_22 : List (Nat × Instr) := [(22, .iload_n 3), (23, .bipush 20)]
theorem bX6_scandals_22_ok : ∀ q ∈ bX6_scandals_22, decode mX6_scandals.2.1 q.1 = .ok (q.2, aLn q.2) := by decide +kernel
def bX6_scandals_28 : List (Nat × Instr) := [(28, .iload 4)]
theorem bX6_scandals_28_ok : ∀ q ∈ bX6_scandals_28, decode mX6_scandals.2.1 q.1 = .ok (q.2, aLn q.2) := by decide +kernel
def bX6_scandals_36 : List (Nat × Instr) := [(36, .ldc2_w 228)]
theorem bX6_scandals_36_ok : ∀ q ∈ bX6_scandals_36, decode mX6_scandals.2.1 q.1 = .ok (q.2, aLn q.2) := by decide +kernel
def bX6_scandals_40 : List (Nat × Instr) := [(40, .lconst 0), (41, .lstore 5), (43, .iconst 0), (44, .istore 7)]
theorem bX6_scandals_40_ok : ∀ q ∈ bX6_scandals_40, decode mX6_scandals.2.1 q.1 = .ok (q.2, aLn q.2) := by decide +kernel
def bX6_scandals_46 : List (Nat × Instr) := [(46, .iload 7), (48, .iconst 1), (49, .iload_n 2), (50, .ishl)]
theorem bX6_scandals_46_ok : ∀ q ∈ bX6_scandals_46, decode mX6_scandals.2.1 q.1 = .ok (q.2, aLn q.2) := by decide +kernel
def bX6_scandals_54 : List (Nat × Instr) := [(54, .lload 5), (56, .aload_n 0), (57, .iload_n 1), (58, .iload_n 2), (59, .iload 7)]
theorem bX6_scandals_54_ok : ∀ q ∈ bX6_scandals_54, decode mX6_scandals.2.1 q.1 = .ok (q.2, aLn q.2) := by decide +kernel
def bX6_scandals_67 : List (Nat × Instr) := [(67, .iload_n 2), (68, .iload 7), (70, .iload_n 3)]
theorem bX6_scandals_67_ok : ∀ q ∈ bX6_scandals_67, decode mX6_scandals.2.1 q.1 = .ok (q.2, aLn q.2) := by decide +kernel
def bX6_scandals_74 : List (Nat × Instr) := [(74, .goto 4)]
theorem bX6_scandals_74_ok : ∀ q ∈ bX6_scandals_74, decode mX6_scandals.2.1 q.1 = .ok (q.2, aLn q.2) := by decide +kernel
def bX6_scandals_77 : List (Nat × Instr) := [(77, .lconst 0)]
theorem bX6_scandals_77_ok : ∀ q ∈ bX6_scandals_77, decode mX6_scandals.2.1 q.1 = .ok (q.2, aLn q.2) := by decide +kernel
def bX6_scandals_78 : List (Nat × Instr) := [(78, .ladd), (79, .lstore 5), (81, .iinc 7 1), (84, .goto (-38))]
theorem bX6_scandals_78_ok : ∀ q ∈ bX6_scandals_78, decode mX6_scandals.2.1 q.1 = .ok (q.2, aLn q.2) := by decide +kernel
def bX6_scandals_87 : List (Nat × Instr) := [(87, .lconst 1), (88, .lstore 7), (90, .iconst 0), (91, .istore 9)]
theorem bX6_scandals_87_ok : ∀ q ∈ bX6_scandals_87, decode mX6_scandals.2.1 q.1 = .ok (q.2, aLn q.2) := by decide +kernel
def bX6_scandals_93 : List (Nat × Instr) := [(93, .iload 9), (95, .iload_n 2)]
theorem bX6_scandals_93_ok : ∀ q ∈ bX6_scandals_93, decode mX6_scandals.2.1 q.1 = .ok (q.2, aLn q.2) := by decide +kernel
def bX6_scandals_99 : List (Nat × Instr) := [(99, .lload 7), (101, .iload_n 3), (102, .i2l), (103, .lmul), (104, .lstore 7), (106, .iinc 9 1), (109, .goto (-16))]
theorem bX6_scandals_99_ok : ∀ q ∈ bX6_scandals_99, decode mX6_scandals.2.1 q.1 = .ok (q.2, aLn q.2) := by decide +kernel
def bX6_scandals_112 : List (Nat × Instr) := [(112, .lload 5), (114, .lload 7), (116, .iload 4)]
theorem bX6_scandals_112_ok : ∀ q ∈ bX6_scandals_112, decode mX6_scandals.2.1 q.1 = .ok (q.2, aLn q.2) := by decide +kernel
theorem dX6_scandals_1 : decode mX6_scandals.2.1 1 = .ok (.invokestatic 109, 3) := by decide +kernel
theorem dX6_scandals_4 : decode mX6_scandals.2.1 4 = .ok (.ifCond .eq 32, 3) := by decide +kernel
theorem dX6_scandals_8 : decode mX6_scandals.2.1 8 = .ok (.ifCond .lt 28, 3) := by decide +kernel
theorem dX6_scandals_14 : decode mX6_scandals.2.1 14 = .ok (.if_icmp .gt 22, 3) := by decide +kernel
theorem dX6_scandals_19 : decode mX6_scandals.2.1 19 = .ok (.if_icmp .lt 17, 3) := by decide +kernel
theorem dX6_scandals_25 : decode mX6_scandals.2.1 25 = .ok (.if_icmp .gt 11, 3) := by decide +kernel
theorem dX6_scandals_30 : decode mX6_scandals.2.1 30 = .ok (.invokestatic 171, 3) := by decide +kernel
theorem dX6_scandals_33 : decode mX6_scandals.2.1 33 = .ok (.ifCond .ne 7, 3) := by decide +kernel
theorem dX6_scandals_39 : decode mX6_scandals.2.1 39 = .ok (.lreturn, 1) := by decide +kernel
theorem dX6_scandals_51 : decode mX6_scandals.2.1 51 = .ok (.if_icmp .ge 36, 3) := by decide +kernel
theorem dX6_scandals_61 : decode mX6_scandals.2.1 61 = .ok (.invokevirtual 230, 3) := by decide +kernel
theorem dX6_scandals_64 : decode mX6_scandals.2.1 64 = .ok (.ifCond .eq 13, 3) := by decide +kernel
theorem dX6_scandals_71 : decode mX6_scandals.2.1 71 = .ok (.invokestatic 234, 3) := by decide +kernel
theorem dX6_scandals_96 : decode mX6_scandals.2.1 96 = .ok (.if_icmp .ge 16, 3) := by decide +kernel
theorem dX6_scandals_118 : decode mX6_scandals.2.1 118 = .ok (.invokestatic 238, 3) := by decide +kernel
theorem dX6_scandals_121 : decode mX6_scandals.2.1 121 = .ok (.lreturn, 1) := by decide +kernel
def bX6_mean_0 : List (Nat × Instr) := [(0, .iload_n 1)]
theorem bX6_mean_0_ok : ∀ q ∈ bX6_mean_0, decode mX6_mean.2.1 q.1 = .ok (q.2, aLn q.2) := by decide +kernel
def bX6_mean_7 : List (Nat × Instr) := [(7, .ldc2_w 228)]
theorem bX6_mean_7_ok : ∀ q ∈ bX6_mean_7, decode mX6_mean.2.1 q.1 = .ok (q.2, aLn q.2) := by decide +kernel
def bX6_mean_11 : List (Nat × Instr) := [(11, .aload_n 0), (12, .getfield 10), (15, .getfield 196)]
theorem bX6_mean_11_ok : ∀ q ∈ bX6_mean_11, decode mX6_mean.2.1 q.1 = .ok (q.2, aLn q.2) := by decide +kernel
def bX6_mean_21 : List (Nat × Instr) := [(21, .iload_n 1), (22, .i2l)]
theorem bX6_mean_21_ok : ∀ q ∈ bX6_mean_21, decode mX6_mean.2.1 q.1 = .ok (q.2, aLn q.2) := by decide +kernel
def bX6_mean_24 : List (Nat × Instr) := [(24, .aload_n 0), (25, .getfield 10)]
theorem bX6_mean_24_ok : ∀ q ∈ bX6_mean_24, decode mX6_mean.2.1 q.1 = .ok (q.2, aLn q.2) := by decide +kernel
def bX6_mean_31 : List (Nat × Instr) := [(31, .i2l), (32, .aload_n 0), (33, .getfield 10), (36, .getfield 196), (39, .i2l), (40, .iload_n 1)]
theorem bX6_mean_31_ok : ∀ q ∈ bX6_mean_31, decode mX6_mean.2.1 q.1 = .ok (q.2, aLn q.2) := by decide +kernel
theorem dX6_mean_1 : decode mX6_mean.2.1 1 = .ok (.invokestatic 171, 3) := by decide +kernel
theorem dX6_mean_4 : decode mX6_mean.2.1 4 = .ok (.ifCond .ne 7, 3) := by decide +kernel
theorem dX6_mean_10 : decode mX6_mean.2.1 10 = .ok (.lreturn, 1) := by decide +kernel
theorem dX6_mean_18 : decode mX6_mean.2.1 18 = .ok (.ifCond .ne 6, 3) := by decide +kernel
theorem dX6_mean_23 : decode mX6_mean.2.1 23 = .ok (.lreturn, 1) := by decide +kernel
theorem dX6_mean_28 : decode mX6_mean.2.1 28 = .ok (.invokevirtual 242, 3) := by decide +kernel
theorem dX6_mean_41 : decode mX6_mean.2.1 41 = .ok (.invokestatic 238, 3) := by decide +kernel
theorem dX6_mean_44 : decode mX6_mean.2.1 44 = .ok (.lreturn, 1) := by decide +kernel
def bX6_forged_0 : List (Nat × Instr) := [(0, .aload_n 0), (1, .getfield 29), (4, .iload_n 1)]
theorem bX6_forged_0_ok : ∀ q ∈ bX6_forged_0, decode mX6_forged.2.1 q.1 = .ok (q.2, aLn q.2) := by decide +kernel
def bX6_forged_8 : List (Nat × Instr) := [(8, .istore_n 2), (9, .iload_n 2)]
theorem bX6_forged_8_ok : ∀ q ∈ bX6_forged_8, decode mX6_forged.2.1 q.1 = .ok (q.2, aLn q.2) := by decide +kernel
def bX6_forged_13 : List (Nat × Instr) := [(13, .iload_n 2)]
theorem bX6_forged_13_ok : ∀ q ∈ bX6_forged_13, decode mX6_forged.2.1 q.1 = .ok (q.2, aLn q.2) := by decide +kernel
def bX6_forged_15 : List (Nat × Instr) := [(15, .aload_n 0), (16, .getfield 29), (19, .iload_n 1)]
theorem bX6_forged_15_ok : ∀ q ∈ bX6_forged_15, decode mX6_forged.2.1 q.1 = .ok (q.2, aLn q.2) := by decide +kernel
def bX6_forged_23 : List (Nat × Instr) := [(23, .istore_n 3), (24, .iconst 0), (25, .istore 4)]
theorem bX6_forged_23_ok : ∀ q ∈ bX6_forged_23, decode mX6_forged.2.1 q.1 = .ok (q.2, aLn q.2) := by decide +kernel
def bX6_forged_27 : List (Nat × Instr) := [(27, .iload 4), (29, .iload_n 3)]
theorem bX6_forged_27_ok : ∀ q ∈ bX6_forged_27, decode mX6_forged.2.1 q.1 = .ok (q.2, aLn q.2) := by decide +kernel
def bX6_forged_33 : List (Nat × Instr) := [(33, .iload 4)]
theorem bX6_forged_33_ok : ∀ q ∈ bX6_forged_33, decode mX6_forged.2.1 q.1 = .ok (q.2, aLn q.2) := by decide +kernel
def bX6_forged_41 : List (Nat × Instr) := [(41, .aload_n 0), (42, .getfield 29), (45, .iload_n 1), (46, .iload 4)]
theorem bX6_forged_41_ok : ∀ q ∈ bX6_forged_41, decode mX6_forged.2.1 q.1 = .ok (q.2, aLn q.2) := by decide +kernel
def bX6_forged_51 : List (Nat × Instr) := [(51, .aload_n 0), (52, .iload 4)]
theorem bX6_forged_51_ok : ∀ q ∈ bX6_forged_51, decode mX6_forged.2.1 q.1 = .ok (q.2, aLn q.2) := by decide +kernel
def bX6_forged_60 : List (Nat × Instr) := [(60, .iload 4)]
theorem bX6_forged_60_ok : ∀ q ∈ bX6_forged_60, decode mX6_forged.2.1 q.1 = .ok (q.2, aLn q.2) := by decide +kernel
def bX6_forged_63 : List (Nat × Instr) := [(63, .iinc 4 1), (66, .goto (-39))]
theorem bX6_forged_63_ok : ∀ q ∈ bX6_forged_63, decode mX6_forged.2.1 q.1 = .ok (q.2, aLn q.2) := by decide +kernel
def bX6_forged_69 : List (Nat × Instr) := [(69, .bipush (-4))]
theorem bX6_forged_69_ok : ∀ q ∈ bX6_forged_69, decode mX6_forged.2.1 q.1 = .ok (q.2, aLn q.2) := by decide +kernel
theorem dX6_forged_5 : decode mX6_forged.2.1 5 = .ok (.invokevirtual 54, 3) := by decide +kernel
theorem dX6_forged_10 : decode mX6_forged.2.1 10 = .ok (.ifCond .eq 5, 3) := by decide +kernel
theorem dX6_forged_14 : decode mX6_forged.2.1 14 = .ok (.ireturn, 1) := by decide +kernel
theorem dX6_forged_20 : decode mX6_forged.2.1 20 = .ok (.invokevirtual 245, 3) := by decide +kernel
theorem dX6_forged_30 : decode mX6_forged.2.1 30 = .ok (.if_icmp .ge 39, 3) := by decide +kernel
theorem dX6_forged_35 : decode mX6_forged.2.1 35 = .ok (.invokestatic 109, 3) := by decide +kernel
theorem dX6_forged_38 : decode mX6_forged.2.1 38 = .ok (.ifCond .eq 22, 3) := by decide +kernel
theorem dX6_forged_48 : decode mX6_forged.2.1 48 = .ok (.invokevirtual 248, 3) := by decide +kernel
theorem dX6_forged_54 : decode mX6_forged.2.1 54 = .ok (.invokevirtual 251, 3) := by decide +kernel
theorem dX6_forged_57 : decode mX6_forged.2.1 57 = .ok (.if_icmp .eq 6, 3) := by decide +kernel
theorem dX6_forged_62 : decode mX6_forged.2.1 62 = .ok (.ireturn, 1) := by decide +kernel
theorem dX6_forged_71 : decode mX6_forged.2.1 71 = .ok (.ireturn, 1) := by decide +kernel
def bX6_judge_0 : List (Nat × Instr) := [(0, .aload_n 0), (1, .getfield 29), (4, .iload_n 1)]
theorem bX6_judge_0_ok : ∀ q ∈ bX6_judge_0, decode mX6_judge.2.1 q.1 = .ok (q.2, aLn q.2) := by decide +kernel
def bX6_judge_8 : List (Nat × Instr) := [(8, .istore_n 2), (9, .iload_n 2)]
theorem bX6_judge_8_ok : ∀ q ∈ bX6_judge_8, decode mX6_judge.2.1 q.1 = .ok (q.2, aLn q.2) := by decide +kernel
def bX6_judge_13 : List (Nat × Instr) := [(13, .iload_n 2)]
theorem bX6_judge_13_ok : ∀ q ∈ bX6_judge_13, decode mX6_judge.2.1 q.1 = .ok (q.2, aLn q.2) := by decide +kernel
def bX6_judge_15 : List (Nat × Instr) := [(15, .aload_n 0), (16, .getfield 16), (19, .aload_n 0), (20, .getfield 10)]
theorem bX6_judge_15_ok : ∀ q ∈ bX6_judge_15, decode mX6_judge.2.1 q.1 = .ok (q.2, aLn q.2) := by decide +kernel
def bX6_judge_26 : List (Nat × Instr) := [(26, .aload_n 0), (27, .iload_n 1), (28, .iconst 2), (29, .iconst 0)]
theorem bX6_judge_26_ok : ∀ q ∈ bX6_judge_26, decode mX6_judge.2.1 q.1 = .ok (q.2, aLn q.2) := by decide +kernel
theorem dX6_judge_5 : decode mX6_judge.2.1 5 = .ok (.invokevirtual 54, 3) := by decide +kernel
theorem dX6_judge_10 : decode mX6_judge.2.1 10 = .ok (.ifCond .eq 5, 3) := by decide +kernel
theorem dX6_judge_14 : decode mX6_judge.2.1 14 = .ok (.ireturn, 1) := by decide +kernel
theorem dX6_judge_23 : decode mX6_judge.2.1 23 = .ok (.invokevirtual 68, 3) := by decide +kernel
theorem dX6_judge_30 : decode mX6_judge.2.1 30 = .ok (.invokevirtual 221, 3) := by decide +kernel
theorem dX6_judge_33 : decode mX6_judge.2.1 33 = .ok (.ireturn, 1) := by decide +kernel
def bX6_years_0 : List (Nat × Instr) := [(0, .iload_n 1), (1, .iconst 1)]
theorem bX6_years_0_ok : ∀ q ∈ bX6_years_0, decode mX6_years.2.1 q.1 = .ok (q.2, aLn q.2) := by decide +kernel
def bX6_years_5 : List (Nat × Instr) := [(5, .iload_n 1), (6, .bipush 20)]
theorem bX6_years_5_ok : ∀ q ∈ bX6_years_5, decode mX6_years.2.1 q.1 = .ok (q.2, aLn q.2) := by decide +kernel
def bX6_years_11 : List (Nat × Instr) := [(11, .iload_n 3)]
theorem bX6_years_11_ok : ∀ q ∈ bX6_years_11, decode mX6_years.2.1 q.1 = .ok (q.2, aLn q.2) := by decide +kernel
def bX6_years_18 : List (Nat × Instr) := [(18, .iconst (-1))]
theorem bX6_years_18_ok : ∀ q ∈ bX6_years_18, decode mX6_years.2.1 q.1 = .ok (q.2, aLn q.2) := by decide +kernel
def bX6_years_20 : List (Nat × Instr) := [(20, .aload_n 0), (21, .getfield 43), (24, .iload_n 2)]
theorem bX6_years_20_ok : ∀ q ∈ bX6_years_20, decode mX6_years.2.1 q.1 = .ok (q.2, aLn q.2) := by decide +kernel
def bX6_years_28 : List (Nat × Instr) := [(28, .iconst 0), (29, .istore 4), (31, .iconst 0), (32, .istore 5), (34, .iconst 0), (35, .istore 6)]
theorem bX6_years_28_ok : ∀ q ∈ bX6_years_28, decode mX6_years.2.1 q.1 = .ok (q.2, aLn q.2) := by decide +kernel
def bX6_years_37 : List (Nat × Instr) := [(37, .iload 6), (39, .iload_n 1)]
theorem bX6_years_37_ok : ∀ q ∈ bX6_years_37, decode mX6_years.2.1 q.1 = .ok (q.2, aLn q.2) := by decide +kernel
def bX6_years_43 : List (Nat × Instr) := [(43, .aload_n 0)]
theorem bX6_years_43_ok : ∀ q ∈ bX6_years_43, decode mX6_years.2.1 q.1 = .ok (q.2, aLn q.2) := by decide +kernel
def bX6_years_47 : List (Nat × Instr) := [(47, .iload 4), (49, .aload_n 0), (50, .getfield 16)]
theorem bX6_years_47_ok : ∀ q ∈ bX6_years_47, decode mX6_years.2.1 q.1 = .ok (q.2, aLn q.2) := by decide +kernel
def bX6_years_56 : List (Nat × Instr) := [(56, .iadd), (57, .istore 4), (59, .iload 5), (61, .aload_n 0), (62, .getfield 16), (65, .getfield 162), (68, .aload_n 0), (69, .getfield 10), (72, .getfield 162), (75, .isub), (76, .iadd), (77, .istore 5), (79, .iinc 6 1), (82, .goto (-45))]
theorem bX6_years_56_ok : ∀ q ∈ bX6_years_56, decode mX6_years.2.1 q.1 = .ok (q.2, aLn q.2) := by decide +kernel
def bX6_years_85 : List (Nat × Instr) := [(85, .iload_n 3)]
theorem bX6_years_85_ok : ∀ q ∈ bX6_years_85, decode mX6_years.2.1 q.1 = .ok (q.2, aLn q.2) := by decide +kernel
def bX6_years_89 : List (Nat × Instr) := [(89, .iload 4), (91, .goto 5)]
theorem bX6_years_89_ok : ∀ q ∈ bX6_years_89, decode mX6_years.2.1 q.1 = .ok (q.2, aLn q.2) := by decide +kernel
def bX6_years_94 : List (Nat × Instr) := [(94, .iload 5)]
theorem bX6_years_94_ok : ∀ q ∈ bX6_years_94, decode mX6_years.2.1 q.1 = .ok (q.2, aLn q.2) := by decide +kernel
theorem dX6_years_2 : decode mX6_years.2.1 2 = .ok (.if_icmp .lt 16, 3) := by decide +kernel
theorem dX6_years_8 : decode mX6_years.2.1 8 = .ok (.if_icmp .gt 10, 3) := by decide +kernel
theorem dX6_years_12 : decode mX6_years.2.1 12 = .ok (.invokestatic 171, 3) := by decide +kernel
theorem dX6_years_15 : decode mX6_years.2.1 15 = .ok (.ifCond .ne 5, 3) := by decide +kernel
theorem dX6_years_19 : decode mX6_years.2.1 19 = .ok (.ireturn, 1) := by decide +kernel
theorem dX6_years_25 : decode mX6_years.2.1 25 = .ok (.invokevirtual 254, 3) := by decide +kernel
theorem dX6_years_40 : decode mX6_years.2.1 40 = .ok (.if_icmp .ge 45, 3) := by decide +kernel
theorem dX6_years_44 : decode mX6_years.2.1 44 = .ok (.invokevirtual 257, 3) := by decide +kernel
theorem dX6_years_53 : decode mX6_years.2.1 53 = .ok (.invokevirtual 205, 3) := by decide +kernel
theorem dX6_years_86 : decode mX6_years.2.1 86 = .ok (.ifCond .ne 8, 3) := by decide +kernel
theorem dX6_years_96 : decode mX6_years.2.1 96 = .ok (.ireturn, 1) := by decide +kernel
def bX6_image_0 : List (Nat × Instr) := [(0, .aload_n 0), (1, .getfield 19), (4, .aload_n 0), (5, .getfield 10)]
theorem bX6_image_0_ok : ∀ q ∈ bX6_image_0, decode mX6_image.2.1 q.1 = .ok (q.2, aLn q.2) := by decide +kernel
def bX6_image_11 : List (Nat × Instr) := [(11, .aload_n 0), (12, .iconst 1), (13, .putfield 22), (16, .aload_n 0), (17, .getfield 10), (20, .getfield 124)]
theorem bX6_image_11_ok : ∀ q ∈ bX6_image_11, decode mX6_image.2.1 q.1 = .ok (q.2, aLn q.2) := by decide +kernel
theorem dX6_image_8 : decode mX6_image.2.1 8 = .ok (.invokevirtual 68, 3) := by decide +kernel
theorem dX6_image_23 : decode mX6_image.2.1 23 = .ok (.ireturn, 1) := by decide +kernel
def bX6_restore_0 : List (Nat × Instr) := [(0, .aload_n 0), (1, .getfield 22)]
theorem bX6_restore_0_ok : ∀ q ∈ bX6_restore_0, decode mX6_restore.2.1 q.1 = .ok (q.2, aLn q.2) := by decide +kernel
def bX6_restore_7 : List (Nat × Instr) := [(7, .bipush (-3))]
theorem bX6_restore_7_ok : ∀ q ∈ bX6_restore_7, decode mX6_restore.2.1 q.1 = .ok (q.2, aLn q.2) := by decide +kernel
def bX6_restore_10 : List (Nat × Instr) := [(10, .aload_n 0), (11, .getfield 10), (14, .aload_n 0), (15, .getfield 19)]
theorem bX6_restore_10_ok : ∀ q ∈ bX6_restore_10, decode mX6_restore.2.1 q.1 = .ok (q.2, aLn q.2) := by decide +kernel
def bX6_restore_21 : List (Nat × Instr) := [(21, .aload_n 0), (22, .getfield 10), (25, .getfield 124)]
theorem bX6_restore_21_ok : ∀ q ∈ bX6_restore_21, decode mX6_restore.2.1 q.1 = .ok (q.2, aLn q.2) := by decide +kernel
theorem dX6_restore_4 : decode mX6_restore.2.1 4 = .ok (.ifCond .ne 6, 3) := by decide +kernel
theorem dX6_restore_9 : decode mX6_restore.2.1 9 = .ok (.ireturn, 1) := by decide +kernel
theorem dX6_restore_18 : decode mX6_restore.2.1 18 = .ok (.invokevirtual 68, 3) := by decide +kernel
theorem dX6_restore_28 : decode mX6_restore.2.1 28 = .ok (.ireturn, 1) := by decide +kernel
def bX6_count_0 : List (Nat × Instr) := [(0, .iload_n 1)]
theorem bX6_count_0_ok : ∀ q ∈ bX6_count_0, decode mX6_count.2.1 q.1 = .ok (q.2, aLn q.2) := by decide +kernel
def bX6_count_36 : List (Nat × Instr) := [(36, .aload_n 0), (37, .getfield 10), (40, .getfield 196)]
theorem bX6_count_36_ok : ∀ q ∈ bX6_count_36, decode mX6_count.2.1 q.1 = .ok (q.2, aLn q.2) := by decide +kernel
def bX6_count_44 : List (Nat × Instr) := [(44, .aload_n 0), (45, .getfield 10), (48, .getfield 124)]
theorem bX6_count_44_ok : ∀ q ∈ bX6_count_44, decode mX6_count.2.1 q.1 = .ok (q.2, aLn q.2) := by decide +kernel
def bX6_count_52 : List (Nat × Instr) := [(52, .aload_n 0), (53, .getfield 10), (56, .getfield 162)]
theorem bX6_count_52_ok : ∀ q ∈ bX6_count_52, decode mX6_count.2.1 q.1 = .ok (q.2, aLn q.2) := by decide +kernel
def bX6_count_60 : List (Nat × Instr) := [(60, .aload_n 0), (61, .getfield 10)]
theorem bX6_count_60_ok : ∀ q ∈ bX6_count_60, decode mX6_count.2.1 q.1 = .ok (q.2, aLn q.2) := by decide +kernel
def bX6_count_68 : List (Nat × Instr) := [(68, .aload_n 0), (69, .getfield 10)]
theorem bX6_count_68_ok : ∀ q ∈ bX6_count_68, decode mX6_count.2.1 q.1 = .ok (q.2, aLn q.2) := by decide +kernel
def bX6_count_76 : List (Nat × Instr) := [(76, .iconst (-1))]
theorem bX6_count_76_ok : ∀ q ∈ bX6_count_76, decode mX6_count.2.1 q.1 = .ok (q.2, aLn q.2) := by decide +kernel
theorem dX6_count_1 : decode mX6_count.2.1 1 = .ok (.tableswitch 75 0 4 #[35, 43, 51, 59, 67], 35) := by decide +kernel
theorem dX6_count_43 : decode mX6_count.2.1 43 = .ok (.ireturn, 1) := by decide +kernel
theorem dX6_count_51 : decode mX6_count.2.1 51 = .ok (.ireturn, 1) := by decide +kernel
theorem dX6_count_59 : decode mX6_count.2.1 59 = .ok (.ireturn, 1) := by decide +kernel
theorem dX6_count_64 : decode mX6_count.2.1 64 = .ok (.invokevirtual 174, 3) := by decide +kernel
theorem dX6_count_67 : decode mX6_count.2.1 67 = .ok (.ireturn, 1) := by decide +kernel
theorem dX6_count_72 : decode mX6_count.2.1 72 = .ok (.invokevirtual 242, 3) := by decide +kernel
theorem dX6_count_75 : decode mX6_count.2.1 75 = .ok (.ireturn, 1) := by decide +kernel
theorem dX6_count_77 : decode mX6_count.2.1 77 = .ok (.ireturn, 1) := by decide +kernel
def bX6_keep_0 : List (Nat × Instr) := [(0, .iload_n 1)]
theorem bX6_keep_0_ok : ∀ q ∈ bX6_keep_0, decode mX6_keep.2.1 q.1 = .ok (q.2, aLn q.2) := by decide +kernel
def bX6_keep_7 : List (Nat × Instr) := [(7, .iload_n 2)]
theorem bX6_keep_7_ok : ∀ q ∈ bX6_keep_7, decode mX6_keep.2.1 q.1 = .ok (q.2, aLn q.2) := by decide +kernel
def bX6_keep_14 : List (Nat × Instr) := [(14, .iconst (-1))]
theorem bX6_keep_14_ok : ∀ q ∈ bX6_keep_14, decode mX6_keep.2.1 q.1 = .ok (q.2, aLn q.2) := by decide +kernel
def bX6_keep_16 : List (Nat × Instr) := [(16, .iload_n 2)]
theorem bX6_keep_16_ok : ∀ q ∈ bX6_keep_16, decode mX6_keep.2.1 q.1 = .ok (q.2, aLn q.2) := by decide +kernel
def bX6_keep_20 : List (Nat × Instr) := [(20, .aload_n 0), (21, .getfield 29), (24, .iload_n 1)]
theorem bX6_keep_20_ok : ∀ q ∈ bX6_keep_20, decode mX6_keep.2.1 q.1 = .ok (q.2, aLn q.2) := by decide +kernel
def bX6_keep_28 : List (Nat × Instr) := [(28, .iconst 0)]
theorem bX6_keep_28_ok : ∀ q ∈ bX6_keep_28, decode mX6_keep.2.1 q.1 = .ok (q.2, aLn q.2) := by decide +kernel
def bX6_keep_30 : List (Nat × Instr) := [(30, .iload_n 3)]
theorem bX6_keep_30_ok : ∀ q ∈ bX6_keep_30, decode mX6_keep.2.1 q.1 = .ok (q.2, aLn q.2) := by decide +kernel
def bX6_keep_34 : List (Nat × Instr) := [(34, .iload_n 3), (35, .bipush 8)]
theorem bX6_keep_34_ok : ∀ q ∈ bX6_keep_34, decode mX6_keep.2.1 q.1 = .ok (q.2, aLn q.2) := by decide +kernel
def bX6_keep_40 : List (Nat × Instr) := [(40, .iload 4)]
theorem bX6_keep_40_ok : ∀ q ∈ bX6_keep_40, decode mX6_keep.2.1 q.1 = .ok (q.2, aLn q.2) := by decide +kernel
def bX6_keep_45 : List (Nat × Instr) := [(45, .iload 4), (47, .bipush 10)]
theorem bX6_keep_45_ok : ∀ q ∈ bX6_keep_45, decode mX6_keep.2.1 q.1 = .ok (q.2, aLn q.2) := by decide +kernel
def bX6_keep_52 : List (Nat × Instr) := [(52, .iconst (-1))]
theorem bX6_keep_52_ok : ∀ q ∈ bX6_keep_52, decode mX6_keep.2.1 q.1 = .ok (q.2, aLn q.2) := by decide +kernel
def bX6_keep_54 : List (Nat × Instr) := [(54, .aload_n 0), (55, .getfield 29), (58, .iload_n 1), (59, .iload_n 3), (60, .iload 4)]
theorem bX6_keep_54_ok : ∀ q ∈ bX6_keep_54, decode mX6_keep.2.1 q.1 = .ok (q.2, aLn q.2) := by decide +kernel
def bX6_keep_65 : List (Nat × Instr) := [(65, .iconst 0)]
theorem bX6_keep_65_ok : ∀ q ∈ bX6_keep_65, decode mX6_keep.2.1 q.1 = .ok (q.2, aLn q.2) := by decide +kernel
theorem dX6_keep_1 : decode mX6_keep.2.1 1 = .ok (.invokestatic 132, 3) := by decide +kernel
theorem dX6_keep_4 : decode mX6_keep.2.1 4 = .ok (.ifCond .eq 10, 3) := by decide +kernel
theorem dX6_keep_8 : decode mX6_keep.2.1 8 = .ok (.invokestatic 171, 3) := by decide +kernel
theorem dX6_keep_11 : decode mX6_keep.2.1 11 = .ok (.ifCond .ne 5, 3) := by decide +kernel
theorem dX6_keep_15 : decode mX6_keep.2.1 15 = .ok (.ireturn, 1) := by decide +kernel
theorem dX6_keep_17 : decode mX6_keep.2.1 17 = .ok (.ifCond .ne 13, 3) := by decide +kernel
theorem dX6_keep_25 : decode mX6_keep.2.1 25 = .ok (.invokevirtual 260, 3) := by decide +kernel
theorem dX6_keep_29 : decode mX6_keep.2.1 29 = .ok (.ireturn, 1) := by decide +kernel
theorem dX6_keep_31 : decode mX6_keep.2.1 31 = .ok (.ifCond .lt 21, 3) := by decide +kernel
theorem dX6_keep_37 : decode mX6_keep.2.1 37 = .ok (.if_icmp .ge 15, 3) := by decide +kernel
theorem dX6_keep_42 : decode mX6_keep.2.1 42 = .ok (.ifCond .lt 10, 3) := by decide +kernel
theorem dX6_keep_49 : decode mX6_keep.2.1 49 = .ok (.if_icmp .lt 5, 3) := by decide +kernel
theorem dX6_keep_53 : decode mX6_keep.2.1 53 = .ok (.ireturn, 1) := by decide +kernel
theorem dX6_keep_62 : decode mX6_keep.2.1 62 = .ok (.invokevirtual 263, 3) := by decide +kernel
theorem dX6_keep_66 : decode mX6_keep.2.1 66 = .ok (.ireturn, 1) := by decide +kernel
def bX6_row_0 : List (Nat × Instr) := [(0, .iload_n 1)]
theorem bX6_row_0_ok : ∀ q ∈ bX6_row_0, decode mX6_row.2.1 q.1 = .ok (q.2, aLn q.2) := by decide +kernel
def bX6_row_7 : List (Nat × Instr) := [(7, .iload_n 2)]
theorem bX6_row_7_ok : ∀ q ∈ bX6_row_7, decode mX6_row.2.1 q.1 = .ok (q.2, aLn q.2) := by decide +kernel
def bX6_row_11 : List (Nat × Instr) := [(11, .iload_n 2), (12, .iconst 2)]
theorem bX6_row_11_ok : ∀ q ∈ bX6_row_11, decode mX6_row.2.1 q.1 = .ok (q.2, aLn q.2) := by decide +kernel
def bX6_row_16 : List (Nat × Instr) := [(16, .iload_n 3), (17, .bipush 100)]
theorem bX6_row_16_ok : ∀ q ∈ bX6_row_16, decode mX6_row.2.1 q.1 = .ok (q.2, aLn q.2) := by decide +kernel
def bX6_row_22 : List (Nat × Instr) := [(22, .iconst (-1))]
theorem bX6_row_22_ok : ∀ q ∈ bX6_row_22, decode mX6_row.2.1 q.1 = .ok (q.2, aLn q.2) := by decide +kernel
def bX6_row_24 : List (Nat × Instr) := [(24, .iload_n 3)]
theorem bX6_row_24_ok : ∀ q ∈ bX6_row_24, decode mX6_row.2.1 q.1 = .ok (q.2, aLn q.2) := by decide +kernel
def bX6_row_28 : List (Nat × Instr) := [(28, .bipush (-14))]
theorem bX6_row_28_ok : ∀ q ∈ bX6_row_28, decode mX6_row.2.1 q.1 = .ok (q.2, aLn q.2) := by decide +kernel
def bX6_row_31 : List (Nat × Instr) := [(31, .aload_n 0), (32, .getfield 29), (35, .iload_n 1), (36, .iload_n 2), (37, .iload_n 3)]
theorem bX6_row_31_ok : ∀ q ∈ bX6_row_31, decode mX6_row.2.1 q.1 = .ok (q.2, aLn q.2) := by decide +kernel
def bX6_row_41 : List (Nat × Instr) := [(41, .iconst 0)]
theorem bX6_row_41_ok : ∀ q ∈ bX6_row_41, decode mX6_row.2.1 q.1 = .ok (q.2, aLn q.2) := by decide +kernel
theorem dX6_row_1 : decode mX6_row.2.1 1 = .ok (.invokestatic 132, 3) := by decide +kernel
theorem dX6_row_4 : decode mX6_row.2.1 4 = .ok (.ifCond .eq 18, 3) := by decide +kernel
theorem dX6_row_8 : decode mX6_row.2.1 8 = .ok (.ifCond .lt 14, 3) := by decide +kernel
theorem dX6_row_13 : decode mX6_row.2.1 13 = .ok (.if_icmp .gt 9, 3) := by decide +kernel
theorem dX6_row_19 : decode mX6_row.2.1 19 = .ok (.if_icmp .le 5, 3) := by decide +kernel
theorem dX6_row_23 : decode mX6_row.2.1 23 = .ok (.ireturn, 1) := by decide +kernel
theorem dX6_row_25 : decode mX6_row.2.1 25 = .ok (.ifCond .ge 6, 3) := by decide +kernel
theorem dX6_row_30 : decode mX6_row.2.1 30 = .ok (.ireturn, 1) := by decide +kernel
theorem dX6_row_38 : decode mX6_row.2.1 38 = .ok (.invokevirtual 267, 3) := by decide +kernel
theorem dX6_row_42 : decode mX6_row.2.1 42 = .ok (.ireturn, 1) := by decide +kernel
def bX6_put_0 : List (Nat × Instr) := [(0, .aload_n 0), (1, .getfield 29), (4, .iload_n 1)]
theorem bX6_put_0_ok : ∀ q ∈ bX6_put_0, decode mX6_put.2.1 q.1 = .ok (q.2, aLn q.2) := by decide +kernel
def bX6_put_8 : List (Nat × Instr) := [(8, .istore 4), (10, .iload 4)]
theorem bX6_put_8_ok : ∀ q ∈ bX6_put_8, decode mX6_put.2.1 q.1 = .ok (q.2, aLn q.2) := by decide +kernel
def bX6_put_15 : List (Nat × Instr) := [(15, .iload 4)]
theorem bX6_put_15_ok : ∀ q ∈ bX6_put_15, decode mX6_put.2.1 q.1 = .ok (q.2, aLn q.2) := by decide +kernel
def bX6_put_18 : List (Nat × Instr) := [(18, .aload_n 0), (19, .getfield 29), (22, .iload_n 1), (23, .iload_n 2)]
theorem bX6_put_18_ok : ∀ q ∈ bX6_put_18, decode mX6_put.2.1 q.1 = .ok (q.2, aLn q.2) := by decide +kernel
def bX6_put_30 : List (Nat × Instr) := [(30, .bipush (-13))]
theorem bX6_put_30_ok : ∀ q ∈ bX6_put_30, decode mX6_put.2.1 q.1 = .ok (q.2, aLn q.2) := by decide +kernel
def bX6_put_33 : List (Nat × Instr) := [(33, .aload_n 0), (34, .getfield 29), (37, .iload_n 1), (38, .iload_n 2), (39, .iload_n 3)]
theorem bX6_put_33_ok : ∀ q ∈ bX6_put_33, decode mX6_put.2.1 q.1 = .ok (q.2, aLn q.2) := by decide +kernel
def bX6_put_43 : List (Nat × Instr) := [(43, .iconst 0)]
theorem bX6_put_43_ok : ∀ q ∈ bX6_put_43, decode mX6_put.2.1 q.1 = .ok (q.2, aLn q.2) := by decide +kernel
theorem dX6_put_5 : decode mX6_put.2.1 5 = .ok (.invokevirtual 54, 3) := by decide +kernel
theorem dX6_put_12 : decode mX6_put.2.1 12 = .ok (.ifCond .eq 6, 3) := by decide +kernel
theorem dX6_put_17 : decode mX6_put.2.1 17 = .ok (.ireturn, 1) := by decide +kernel
theorem dX6_put_24 : decode mX6_put.2.1 24 = .ok (.invokevirtual 270, 3) := by decide +kernel
theorem dX6_put_27 : decode mX6_put.2.1 27 = .ok (.ifCond .ne 6, 3) := by decide +kernel
theorem dX6_put_32 : decode mX6_put.2.1 32 = .ok (.ireturn, 1) := by decide +kernel
theorem dX6_put_40 : decode mX6_put.2.1 40 = .ok (.invokevirtual 274, 3) := by decide +kernel
theorem dX6_put_44 : decode mX6_put.2.1 44 = .ok (.ireturn, 1) := by decide +kernel
def bX6_copy_0 : List (Nat × Instr) := [(0, .iload_n 1)]
theorem bX6_copy_0_ok : ∀ q ∈ bX6_copy_0, decode mX6_copy.2.1 q.1 = .ok (q.2, aLn q.2) := by decide +kernel
def bX6_copy_7 : List (Nat × Instr) := [(7, .iload_n 3)]
theorem bX6_copy_7_ok : ∀ q ∈ bX6_copy_7, decode mX6_copy.2.1 q.1 = .ok (q.2, aLn q.2) := by decide +kernel
def bX6_copy_14 : List (Nat × Instr) := [(14, .iconst (-1))]
theorem bX6_copy_14_ok : ∀ q ∈ bX6_copy_14, decode mX6_copy.2.1 q.1 = .ok (q.2, aLn q.2) := by decide +kernel
def bX6_copy_16 : List (Nat × Instr) := [(16, .aload_n 0), (17, .getfield 29), (20, .iload_n 1)]
theorem bX6_copy_16_ok : ∀ q ∈ bX6_copy_16, decode mX6_copy.2.1 q.1 = .ok (q.2, aLn q.2) := by decide +kernel
def bX6_copy_24 : List (Nat × Instr) := [(24, .istore 6), (26, .aload_n 0), (27, .getfield 29), (30, .iload_n 3)]
theorem bX6_copy_24_ok : ∀ q ∈ bX6_copy_24, decode mX6_copy.2.1 q.1 = .ok (q.2, aLn q.2) := by decide +kernel
def bX6_copy_34 : List (Nat × Instr) := [(34, .istore 7), (36, .iload 6), (38, .bipush (-11))]
theorem bX6_copy_34_ok : ∀ q ∈ bX6_copy_34, decode mX6_copy.2.1 q.1 = .ok (q.2, aLn q.2) := by decide +kernel
def bX6_copy_43 : List (Nat × Instr) := [(43, .iload 7), (45, .bipush (-11))]
theorem bX6_copy_43_ok : ∀ q ∈ bX6_copy_43, decode mX6_copy.2.1 q.1 = .ok (q.2, aLn q.2) := by decide +kernel
def bX6_copy_50 : List (Nat × Instr) := [(50, .bipush (-11))]
theorem bX6_copy_50_ok : ∀ q ∈ bX6_copy_50, decode mX6_copy.2.1 q.1 = .ok (q.2, aLn q.2) := by decide +kernel
def bX6_copy_53 : List (Nat × Instr) := [(53, .iload 6)]
theorem bX6_copy_53_ok : ∀ q ∈ bX6_copy_53, decode mX6_copy.2.1 q.1 = .ok (q.2, aLn q.2) := by decide +kernel
def bX6_copy_58 : List (Nat × Instr) := [(58, .iload 7)]
theorem bX6_copy_58_ok : ∀ q ∈ bX6_copy_58, decode mX6_copy.2.1 q.1 = .ok (q.2, aLn q.2) := by decide +kernel
def bX6_copy_63 : List (Nat × Instr) := [(63, .aload_n 0), (64, .getfield 29), (67, .iload_n 1), (68, .iload_n 3)]
theorem bX6_copy_63_ok : ∀ q ∈ bX6_copy_63, decode mX6_copy.2.1 q.1 = .ok (q.2, aLn q.2) := by decide +kernel
def bX6_copy_75 : List (Nat × Instr) := [(75, .bipush (-12))]
theorem bX6_copy_75_ok : ∀ q ∈ bX6_copy_75, decode mX6_copy.2.1 q.1 = .ok (q.2, aLn q.2) := by decide +kernel
def bX6_copy_78 : List (Nat × Instr) := [(78, .aload_n 0), (79, .getfield 29), (82, .iload_n 1), (83, .iload_n 2), (84, .iload 5)]
theorem bX6_copy_78_ok : ∀ q ∈ bX6_copy_78, decode mX6_copy.2.1 q.1 = .ok (q.2, aLn q.2) := by decide +kernel
def bX6_copy_92 : List (Nat × Instr) := [(92, .aload_n 0), (93, .getfield 29), (96, .iload_n 3), (97, .iload 4), (99, .iload 5)]
theorem bX6_copy_92_ok : ∀ q ∈ bX6_copy_92, decode mX6_copy.2.1 q.1 = .ok (q.2, aLn q.2) := by decide +kernel
def bX6_copy_107 : List (Nat × Instr) := [(107, .bipush (-13))]
theorem bX6_copy_107_ok : ∀ q ∈ bX6_copy_107, decode mX6_copy.2.1 q.1 = .ok (q.2, aLn q.2) := by decide +kernel
def bX6_copy_110 : List (Nat × Instr) := [(110, .aload_n 0), (111, .getfield 29), (114, .iload_n 1), (115, .iload_n 2), (116, .iload_n 3), (117, .iload 4), (119, .iload 5)]
theorem bX6_copy_110_ok : ∀ q ∈ bX6_copy_110, decode mX6_copy.2.1 q.1 = .ok (q.2, aLn q.2) := by decide +kernel
def bX6_copy_124 : List (Nat × Instr) := [(124, .iload 5)]
theorem bX6_copy_124_ok : ∀ q ∈ bX6_copy_124, decode mX6_copy.2.1 q.1 = .ok (q.2, aLn q.2) := by decide +kernel
theorem dX6_copy_1 : decode mX6_copy.2.1 1 = .ok (.invokestatic 132, 3) := by decide +kernel
theorem dX6_copy_4 : decode mX6_copy.2.1 4 = .ok (.ifCond .eq 10, 3) := by decide +kernel
theorem dX6_copy_8 : decode mX6_copy.2.1 8 = .ok (.invokestatic 132, 3) := by decide +kernel
theorem dX6_copy_11 : decode mX6_copy.2.1 11 = .ok (.ifCond .ne 5, 3) := by decide +kernel
theorem dX6_copy_15 : decode mX6_copy.2.1 15 = .ok (.ireturn, 1) := by decide +kernel
theorem dX6_copy_21 : decode mX6_copy.2.1 21 = .ok (.invokevirtual 54, 3) := by decide +kernel
theorem dX6_copy_31 : decode mX6_copy.2.1 31 = .ok (.invokevirtual 54, 3) := by decide +kernel
theorem dX6_copy_40 : decode mX6_copy.2.1 40 = .ok (.if_icmp .eq 10, 3) := by decide +kernel
theorem dX6_copy_47 : decode mX6_copy.2.1 47 = .ok (.if_icmp .ne 6, 3) := by decide +kernel
theorem dX6_copy_52 : decode mX6_copy.2.1 52 = .ok (.ireturn, 1) := by decide +kernel
theorem dX6_copy_55 : decode mX6_copy.2.1 55 = .ok (.ifCond .ne 20, 3) := by decide +kernel
theorem dX6_copy_60 : decode mX6_copy.2.1 60 = .ok (.ifCond .ne 15, 3) := by decide +kernel
theorem dX6_copy_69 : decode mX6_copy.2.1 69 = .ok (.invokevirtual 291, 3) := by decide +kernel
theorem dX6_copy_72 : decode mX6_copy.2.1 72 = .ok (.ifCond .ne 6, 3) := by decide +kernel
theorem dX6_copy_77 : decode mX6_copy.2.1 77 = .ok (.ireturn, 1) := by decide +kernel
theorem dX6_copy_86 : decode mX6_copy.2.1 86 = .ok (.invokevirtual 294, 3) := by decide +kernel
theorem dX6_copy_89 : decode mX6_copy.2.1 89 = .ok (.ifCond .eq 18, 3) := by decide +kernel
theorem dX6_copy_101 : decode mX6_copy.2.1 101 = .ok (.invokevirtual 294, 3) := by decide +kernel
theorem dX6_copy_104 : decode mX6_copy.2.1 104 = .ok (.ifCond .ne 6, 3) := by decide +kernel
theorem dX6_copy_109 : decode mX6_copy.2.1 109 = .ok (.ireturn, 1) := by decide +kernel
theorem dX6_copy_121 : decode mX6_copy.2.1 121 = .ok (.invokevirtual 297, 3) := by decide +kernel
theorem dX6_copy_126 : decode mX6_copy.2.1 126 = .ok (.ireturn, 1) := by decide +kernel
def bX6_cost_0 : List (Nat × Instr) := [(0, .aload_n 0), (1, .getfield 29), (4, .iload_n 1)]
theorem bX6_cost_0_ok : ∀ q ∈ bX6_cost_0, decode mX6_cost.2.1 q.1 = .ok (q.2, aLn q.2) := by decide +kernel
def bX6_cost_8 : List (Nat × Instr) := [(8, .istore_n 2), (9, .iload_n 2)]
theorem bX6_cost_8_ok : ∀ q ∈ bX6_cost_8, decode mX6_cost.2.1 q.1 = .ok (q.2, aLn q.2) := by decide +kernel
def bX6_cost_13 : List (Nat × Instr) := [(13, .iload_n 2)]
theorem bX6_cost_13_ok : ∀ q ∈ bX6_cost_13, decode mX6_cost.2.1 q.1 = .ok (q.2, aLn q.2) := by decide +kernel
def bX6_cost_15 : List (Nat × Instr) := [(15, .aload_n 0), (16, .getfield 29), (19, .iload_n 1)]
theorem bX6_cost_15_ok : ∀ q ∈ bX6_cost_15, decode mX6_cost.2.1 q.1 = .ok (q.2, aLn q.2) := by decide +kernel
def bX6_cost_23 : List (Nat × Instr) := [(23, .aload_n 0), (24, .getfield 29), (27, .iload_n 1)]
theorem bX6_cost_23_ok : ∀ q ∈ bX6_cost_23, decode mX6_cost.2.1 q.1 = .ok (q.2, aLn q.2) := by decide +kernel
theorem dX6_cost_5 : decode mX6_cost.2.1 5 = .ok (.invokevirtual 138, 3) := by decide +kernel
theorem dX6_cost_10 : decode mX6_cost.2.1 10 = .ok (.ifCond .eq 5, 3) := by decide +kernel
theorem dX6_cost_14 : decode mX6_cost.2.1 14 = .ok (.ireturn, 1) := by decide +kernel
theorem dX6_cost_20 : decode mX6_cost.2.1 20 = .ok (.invokevirtual 141, 3) := by decide +kernel
theorem dX6_cost_28 : decode mX6_cost.2.1 28 = .ok (.invokevirtual 144, 3) := by decide +kernel
theorem dX6_cost_31 : decode mX6_cost.2.1 31 = .ok (.invokestatic 301, 3) := by decide +kernel
theorem dX6_cost_34 : decode mX6_cost.2.1 34 = .ok (.ireturn, 1) := by decide +kernel
def bX6_isShelf_0 : List (Nat × Instr) := [(0, .iload_n 0)]
theorem bX6_isShelf_0_ok : ∀ q ∈ bX6_isShelf_0, decode mX6_isShelf.2.1 q.1 = .ok (q.2, aLn q.2) := by decide +kernel
def bX6_isShelf_4 : List (Nat × Instr) := [(4, .iload_n 0), (5, .bipush 8)]
theorem bX6_isShelf_4_ok : ∀ q ∈ bX6_isShelf_4, decode mX6_isShelf.2.1 q.1 = .ok (q.2, aLn q.2) := by decide +kernel
def bX6_isShelf_10 : List (Nat × Instr) := [(10, .iconst 1), (11, .goto 4)]
theorem bX6_isShelf_10_ok : ∀ q ∈ bX6_isShelf_10, decode mX6_isShelf.2.1 q.1 = .ok (q.2, aLn q.2) := by decide +kernel
def bX6_isShelf_14 : List (Nat × Instr) := [(14, .iconst 0)]
theorem bX6_isShelf_14_ok : ∀ q ∈ bX6_isShelf_14, decode mX6_isShelf.2.1 q.1 = .ok (q.2, aLn q.2) := by decide +kernel
theorem dX6_isShelf_1 : decode mX6_isShelf.2.1 1 = .ok (.ifCond .lt 13, 3) := by decide +kernel
theorem dX6_isShelf_7 : decode mX6_isShelf.2.1 7 = .ok (.if_icmp .ge 7, 3) := by decide +kernel
theorem dX6_isShelf_15 : decode mX6_isShelf.2.1 15 = .ok (.ireturn, 1) := by decide +kernel
def bX6_isOffice_0 : List (Nat × Instr) := [(0, .iload_n 0)]
theorem bX6_isOffice_0_ok : ∀ q ∈ bX6_isOffice_0, decode mX6_isOffice.2.1 q.1 = .ok (q.2, aLn q.2) := by decide +kernel
def bX6_isOffice_4 : List (Nat × Instr) := [(4, .iload_n 0), (5, .iconst 5)]
theorem bX6_isOffice_4_ok : ∀ q ∈ bX6_isOffice_4, decode mX6_isOffice.2.1 q.1 = .ok (q.2, aLn q.2) := by decide +kernel
def bX6_isOffice_9 : List (Nat × Instr) := [(9, .iconst 1), (10, .goto 4)]
theorem bX6_isOffice_9_ok : ∀ q ∈ bX6_isOffice_9, decode mX6_isOffice.2.1 q.1 = .ok (q.2, aLn q.2) := by decide +kernel
def bX6_isOffice_13 : List (Nat × Instr) := [(13, .iconst 0)]
theorem bX6_isOffice_13_ok : ∀ q ∈ bX6_isOffice_13, decode mX6_isOffice.2.1 q.1 = .ok (q.2, aLn q.2) := by decide +kernel
theorem dX6_isOffice_1 : decode mX6_isOffice.2.1 1 = .ok (.ifCond .lt 12, 3) := by decide +kernel
theorem dX6_isOffice_6 : decode mX6_isOffice.2.1 6 = .ok (.if_icmp .ge 7, 3) := by decide +kernel
theorem dX6_isOffice_14 : decode mX6_isOffice.2.1 14 = .ok (.ireturn, 1) := by decide +kernel
def bX6_isCostume_0 : List (Nat × Instr) := [(0, .iload_n 0)]
theorem bX6_isCostume_0_ok : ∀ q ∈ bX6_isCostume_0, decode mX6_isCostume.2.1 q.1 = .ok (q.2, aLn q.2) := by decide +kernel
def bX6_isCostume_4 : List (Nat × Instr) := [(4, .iload_n 0), (5, .bipush 10)]
theorem bX6_isCostume_4_ok : ∀ q ∈ bX6_isCostume_4, decode mX6_isCostume.2.1 q.1 = .ok (q.2, aLn q.2) := by decide +kernel
def bX6_isCostume_10 : List (Nat × Instr) := [(10, .iconst 1), (11, .goto 4)]
theorem bX6_isCostume_10_ok : ∀ q ∈ bX6_isCostume_10, decode mX6_isCostume.2.1 q.1 = .ok (q.2, aLn q.2) := by decide +kernel
def bX6_isCostume_14 : List (Nat × Instr) := [(14, .iconst 0)]
theorem bX6_isCostume_14_ok : ∀ q ∈ bX6_isCostume_14, decode mX6_isCostume.2.1 q.1 = .ok (q.2, aLn q.2) := by decide +kernel
theorem dX6_isCostume_1 : decode mX6_isCostume.2.1 1 = .ok (.ifCond .lt 13, 3) := by decide +kernel
theorem dX6_isCostume_7 : decode mX6_isCostume.2.1 7 = .ok (.if_icmp .ge 7, 3) := by decide +kernel
theorem dX6_isCostume_15 : decode mX6_isCostume.2.1 15 = .ok (.ireturn, 1) := by decide +kernel
def bX6_isMate_0 : List (Nat × Instr) := [(0, .iload_n 0)]
theorem bX6_isMate_0_ok : ∀ q ∈ bX6_isMate_0, decode mX6_isMate.2.1 q.1 = .ok (q.2, aLn q.2) := by decide +kernel
def bX6_isMate_4 : List (Nat × Instr) := [(4, .iload_n 0), (5, .bipush 8)]
theorem bX6_isMate_4_ok : ∀ q ∈ bX6_isMate_4, decode mX6_isMate.2.1 q.1 = .ok (q.2, aLn q.2) := by decide +kernel
def bX6_isMate_10 : List (Nat × Instr) := [(10, .iload_n 0), (11, .bipush 9)]
theorem bX6_isMate_10_ok : ∀ q ∈ bX6_isMate_10, decode mX6_isMate.2.1 q.1 = .ok (q.2, aLn q.2) := by decide +kernel
def bX6_isMate_16 : List (Nat × Instr) := [(16, .iconst 1), (17, .goto 4)]
theorem bX6_isMate_16_ok : ∀ q ∈ bX6_isMate_16, decode mX6_isMate.2.1 q.1 = .ok (q.2, aLn q.2) := by decide +kernel
def bX6_isMate_20 : List (Nat × Instr) := [(20, .iconst 0)]
theorem bX6_isMate_20_ok : ∀ q ∈ bX6_isMate_20, decode mX6_isMate.2.1 q.1 = .ok (q.2, aLn q.2) := by decide +kernel
theorem dX6_isMate_1 : decode mX6_isMate.2.1 1 = .ok (.ifCond .lt 19, 3) := by decide +kernel
theorem dX6_isMate_7 : decode mX6_isMate.2.1 7 = .ok (.if_icmp .lt 9, 3) := by decide +kernel
theorem dX6_isMate_13 : decode mX6_isMate.2.1 13 = .ok (.if_icmp .ne 7, 3) := by decide +kernel
theorem dX6_isMate_21 : decode mX6_isMate.2.1 21 = .ok (.ireturn, 1) := by decide +kernel
def bX6_isAhead_0 : List (Nat × Instr) := [(0, .iload_n 0)]
theorem bX6_isAhead_0_ok : ∀ q ∈ bX6_isAhead_0, decode mX6_isAhead.2.1 q.1 = .ok (q.2, aLn q.2) := by decide +kernel
def bX6_isAhead_4 : List (Nat × Instr) := [(4, .iload_n 0), (5, .bipush 60)]
theorem bX6_isAhead_4_ok : ∀ q ∈ bX6_isAhead_4, decode mX6_isAhead.2.1 q.1 = .ok (q.2, aLn q.2) := by decide +kernel
def bX6_isAhead_10 : List (Nat × Instr) := [(10, .iconst 1), (11, .goto 4)]
theorem bX6_isAhead_10_ok : ∀ q ∈ bX6_isAhead_10, decode mX6_isAhead.2.1 q.1 = .ok (q.2, aLn q.2) := by decide +kernel
def bX6_isAhead_14 : List (Nat × Instr) := [(14, .iconst 0)]
theorem bX6_isAhead_14_ok : ∀ q ∈ bX6_isAhead_14, decode mX6_isAhead.2.1 q.1 = .ok (q.2, aLn q.2) := by decide +kernel
theorem dX6_isAhead_1 : decode mX6_isAhead.2.1 1 = .ok (.ifCond .lt 13, 3) := by decide +kernel
theorem dX6_isAhead_7 : decode mX6_isAhead.2.1 7 = .ok (.if_icmp .gt 7, 3) := by decide +kernel
theorem dX6_isAhead_15 : decode mX6_isAhead.2.1 15 = .ok (.ireturn, 1) := by decide +kernel
def bX6_isChoice_0 : List (Nat × Instr) := [(0, .iload_n 0)]
theorem bX6_isChoice_0_ok : ∀ q ∈ bX6_isChoice_0, decode mX6_isChoice.2.1 q.1 = .ok (q.2, aLn q.2) := by decide +kernel
def bX6_isChoice_4 : List (Nat × Instr) := [(4, .iload_n 0), (5, .iconst 1)]
theorem bX6_isChoice_4_ok : ∀ q ∈ bX6_isChoice_4, decode mX6_isChoice.2.1 q.1 = .ok (q.2, aLn q.2) := by decide +kernel
def bX6_isChoice_9 : List (Nat × Instr) := [(9, .iconst 1), (10, .goto 4)]
theorem bX6_isChoice_9_ok : ∀ q ∈ bX6_isChoice_9, decode mX6_isChoice.2.1 q.1 = .ok (q.2, aLn q.2) := by decide +kernel
def bX6_isChoice_13 : List (Nat × Instr) := [(13, .iconst 0)]
theorem bX6_isChoice_13_ok : ∀ q ∈ bX6_isChoice_13, decode mX6_isChoice.2.1 q.1 = .ok (q.2, aLn q.2) := by decide +kernel
theorem dX6_isChoice_1 : decode mX6_isChoice.2.1 1 = .ok (.ifCond .eq 8, 3) := by decide +kernel
theorem dX6_isChoice_6 : decode mX6_isChoice.2.1 6 = .ok (.if_icmp .ne 7, 3) := by decide +kernel
theorem dX6_isChoice_14 : decode mX6_isChoice.2.1 14 = .ok (.ireturn, 1) := by decide +kernel
def bX6_orNone_0 : List (Nat × Instr) := [(0, .iload_n 0), (1, .iconst (-1))]
theorem bX6_orNone_0_ok : ∀ q ∈ bX6_orNone_0, decode mX6_orNone.2.1 q.1 = .ok (q.2, aLn q.2) := by decide +kernel
def bX6_orNone_5 : List (Nat × Instr) := [(5, .bipush (-4)), (7, .goto 4)]
theorem bX6_orNone_5_ok : ∀ q ∈ bX6_orNone_5, decode mX6_orNone.2.1 q.1 = .ok (q.2, aLn q.2) := by decide +kernel
def bX6_orNone_10 : List (Nat × Instr) := [(10, .iload_n 0)]
theorem bX6_orNone_10_ok : ∀ q ∈ bX6_orNone_10, decode mX6_orNone.2.1 q.1 = .ok (q.2, aLn q.2) := by decide +kernel
theorem dX6_orNone_2 : decode mX6_orNone.2.1 2 = .ok (.if_icmp .ne 8, 3) := by decide +kernel
theorem dX6_orNone_11 : decode mX6_orNone.2.1 11 = .ok (.ireturn, 1) := by decide +kernel
def bX6_foresee_0 : List (Nat × Instr) := [(0, .aload_n 0), (1, .getfield 16), (4, .aload_n 0), (5, .getfield 10)]
theorem bX6_foresee_0_ok : ∀ q ∈ bX6_foresee_0, decode mX6_foresee.2.1 q.1 = .ok (q.2, aLn q.2) := by decide +kernel
def bX6_foresee_11 : List (Nat × Instr) := [(11, .aload_n 0), (12, .getfield 16), (15, .iload_n 1)]
theorem bX6_foresee_11_ok : ∀ q ∈ bX6_foresee_11, decode mX6_foresee.2.1 q.1 = .ok (q.2, aLn q.2) := by decide +kernel
theorem dX6_foresee_8 : decode mX6_foresee.2.1 8 = .ok (.invokevirtual 68, 3) := by decide +kernel
theorem dX6_foresee_16 : decode mX6_foresee.2.1 16 = .ok (.invokevirtual 159, 3) := by decide +kernel
theorem dX6_foresee_19 : decode mX6_foresee.2.1 19 = .ok (.return_, 1) := by decide +kernel
def bX6_fallenIn_0 : List (Nat × Instr) := [(0, .aload_n 0), (1, .getfield 16), (4, .aload_n 0), (5, .getfield 10)]
theorem bX6_fallenIn_0_ok : ∀ q ∈ bX6_fallenIn_0, decode mX6_fallenIn.2.1 q.1 = .ok (q.2, aLn q.2) := by decide +kernel
def bX6_fallenIn_11 : List (Nat × Instr) := [(11, .aload_n 0), (12, .getfield 16), (15, .getfield 112), (18, .iload_n 1), (19, .iload_n 2), (20, .iastore), (21, .aload_n 0), (22, .getfield 16), (25, .iload_n 3)]
theorem bX6_fallenIn_11_ok : ∀ q ∈ bX6_fallenIn_11, decode mX6_fallenIn.2.1 q.1 = .ok (q.2, aLn q.2) := by decide +kernel
def bX6_fallenIn_29 : List (Nat × Instr) := [(29, .aload_n 0), (30, .getfield 16), (33, .getfield 162)]
theorem bX6_fallenIn_29_ok : ∀ q ∈ bX6_fallenIn_29, decode mX6_fallenIn.2.1 q.1 = .ok (q.2, aLn q.2) := by decide +kernel
theorem dX6_fallenIn_8 : decode mX6_fallenIn.2.1 8 = .ok (.invokevirtual 68, 3) := by decide +kernel
theorem dX6_fallenIn_26 : decode mX6_fallenIn.2.1 26 = .ok (.invokevirtual 159, 3) := by decide +kernel
theorem dX6_fallenIn_36 : decode mX6_fallenIn.2.1 36 = .ok (.ireturn, 1) := by decide +kernel
def bX6_fallenWithout_0 : List (Nat × Instr) := [(0, .aload_n 0), (1, .getfield 16), (4, .aload_n 0), (5, .getfield 10)]
theorem bX6_fallenWithout_0_ok : ∀ q ∈ bX6_fallenWithout_0, decode mX6_fallenWithout.2.1 q.1 = .ok (q.2, aLn q.2) := by decide +kernel
def bX6_fallenWithout_11 : List (Nat × Instr) := [(11, .aload_n 0), (12, .getfield 16), (15, .iload_n 1)]
theorem bX6_fallenWithout_11_ok : ∀ q ∈ bX6_fallenWithout_11, decode mX6_fallenWithout.2.1 q.1 = .ok (q.2, aLn q.2) := by decide +kernel
def bX6_fallenWithout_19 : List (Nat × Instr) := [(19, .aload_n 0), (20, .getfield 16), (23, .iload_n 2)]
theorem bX6_fallenWithout_19_ok : ∀ q ∈ bX6_fallenWithout_19, decode mX6_fallenWithout.2.1 q.1 = .ok (q.2, aLn q.2) := by decide +kernel
def bX6_fallenWithout_27 : List (Nat × Instr) := [(27, .aload_n 0), (28, .getfield 16), (31, .getfield 162)]
theorem bX6_fallenWithout_27_ok : ∀ q ∈ bX6_fallenWithout_27, decode mX6_fallenWithout.2.1 q.1 = .ok (q.2, aLn q.2) := by decide +kernel
theorem dX6_fallenWithout_8 : decode mX6_fallenWithout.2.1 8 = .ok (.invokevirtual 68, 3) := by decide +kernel
theorem dX6_fallenWithout_16 : decode mX6_fallenWithout.2.1 16 = .ok (.invokevirtual 155, 3) := by decide +kernel
theorem dX6_fallenWithout_24 : decode mX6_fallenWithout.2.1 24 = .ok (.invokevirtual 159, 3) := by decide +kernel
theorem dX6_fallenWithout_34 : decode mX6_fallenWithout.2.1 34 = .ok (.ireturn, 1) := by decide +kernel
def bX6_fallenChanged_0 : List (Nat × Instr) := [(0, .aload_n 0), (1, .getfield 16), (4, .aload_n 0), (5, .getfield 10)]
theorem bX6_fallenChanged_0_ok : ∀ q ∈ bX6_fallenChanged_0, decode mX6_fallenChanged.2.1 q.1 = .ok (q.2, aLn q.2) := by decide +kernel
def bX6_fallenChanged_11 : List (Nat × Instr) := [(11, .aload_n 0), (12, .getfield 16), (15, .getfield 112), (18, .iload_n 1), (19, .aload_n 0), (20, .getfield 10), (23, .getfield 112), (26, .iload_n 2), (27, .iaload), (28, .iastore), (29, .aload_n 0), (30, .getfield 16), (33, .getfield 112), (36, .iload_n 2), (37, .aload_n 0), (38, .getfield 10), (41, .getfield 112), (44, .iload_n 1), (45, .iaload), (46, .iastore), (47, .aload_n 0), (48, .getfield 16), (51, .iload_n 3)]
theorem bX6_fallenChanged_11_ok : ∀ q ∈ bX6_fallenChanged_11, decode mX6_fallenChanged.2.1 q.1 = .ok (q.2, aLn q.2) := by decide +kernel
def bX6_fallenChanged_55 : List (Nat × Instr) := [(55, .aload_n 0), (56, .getfield 16), (59, .getfield 162)]
theorem bX6_fallenChanged_55_ok : ∀ q ∈ bX6_fallenChanged_55, decode mX6_fallenChanged.2.1 q.1 = .ok (q.2, aLn q.2) := by decide +kernel
theorem dX6_fallenChanged_8 : decode mX6_fallenChanged.2.1 8 = .ok (.invokevirtual 68, 3) := by decide +kernel
theorem dX6_fallenChanged_52 : decode mX6_fallenChanged.2.1 52 = .ok (.invokevirtual 159, 3) := by decide +kernel
theorem dX6_fallenChanged_62 : decode mX6_fallenChanged.2.1 62 = .ok (.ireturn, 1) := by decide +kernel
def bX6_stable_0 : List (Nat × Instr) := [(0, .aload_n 0), (1, .getfield 16), (4, .aload_n 0), (5, .getfield 10)]
theorem bX6_stable_0_ok : ∀ q ∈ bX6_stable_0, decode mX6_stable.2.1 q.1 = .ok (q.2, aLn q.2) := by decide +kernel
def bX6_stable_11 : List (Nat × Instr) := [(11, .iconst 0), (12, .istore_n 1), (13, .iconst 1), (14, .istore_n 2)]
theorem bX6_stable_11_ok : ∀ q ∈ bX6_stable_11, decode mX6_stable.2.1 q.1 = .ok (q.2, aLn q.2) := by decide +kernel
def bX6_stable_15 : List (Nat × Instr) := [(15, .iload_n 2), (16, .bipush 60)]
theorem bX6_stable_15_ok : ∀ q ∈ bX6_stable_15, decode mX6_stable.2.1 q.1 = .ok (q.2, aLn q.2) := by decide +kernel
def bX6_stable_21 : List (Nat × Instr) := [(21, .aload_n 0), (22, .getfield 16)]
theorem bX6_stable_21_ok : ∀ q ∈ bX6_stable_21, decode mX6_stable.2.1 q.1 = .ok (q.2, aLn q.2) := by decide +kernel
def bX6_stable_28 : List (Nat × Instr) := [(28, .aload_n 0), (29, .getfield 16), (32, .getfield 312)]
theorem bX6_stable_28_ok : ∀ q ∈ bX6_stable_28, decode mX6_stable.2.1 q.1 = .ok (q.2, aLn q.2) := by decide +kernel
def bX6_stable_38 : List (Nat × Instr) := [(38, .iload_n 2), (39, .istore_n 1), (40, .goto 13)]
theorem bX6_stable_38_ok : ∀ q ∈ bX6_stable_38, decode mX6_stable.2.1 q.1 = .ok (q.2, aLn q.2) := by decide +kernel
def bX6_stable_43 : List (Nat × Instr) := [(43, .iload_n 2), (44, .iload_n 1), (45, .isub), (46, .bipush 10)]
theorem bX6_stable_43_ok : ∀ q ∈ bX6_stable_43, decode mX6_stable.2.1 q.1 = .ok (q.2, aLn q.2) := by decide +kernel
def bX6_stable_51 : List (Nat × Instr) := [(51, .iload_n 1)]
theorem bX6_stable_51_ok : ∀ q ∈ bX6_stable_51, decode mX6_stable.2.1 q.1 = .ok (q.2, aLn q.2) := by decide +kernel
def bX6_stable_53 : List (Nat × Instr) := [(53, .iinc 2 1), (56, .goto (-41))]
theorem bX6_stable_53_ok : ∀ q ∈ bX6_stable_53, decode mX6_stable.2.1 q.1 = .ok (q.2, aLn q.2) := by decide +kernel
def bX6_stable_59 : List (Nat × Instr) := [(59, .bipush (-4))]
theorem bX6_stable_59_ok : ∀ q ∈ bX6_stable_59, decode mX6_stable.2.1 q.1 = .ok (q.2, aLn q.2) := by decide +kernel
theorem dX6_stable_8 : decode mX6_stable.2.1 8 = .ok (.invokevirtual 68, 3) := by decide +kernel
theorem dX6_stable_18 : decode mX6_stable.2.1 18 = .ok (.if_icmp .gt 41, 3) := by decide +kernel
theorem dX6_stable_25 : decode mX6_stable.2.1 25 = .ok (.invokevirtual 178, 3) := by decide +kernel
theorem dX6_stable_35 : decode mX6_stable.2.1 35 = .ok (.ifCond .le 8, 3) := by decide +kernel
theorem dX6_stable_48 : decode mX6_stable.2.1 48 = .ok (.if_icmp .lt 5, 3) := by decide +kernel
theorem dX6_stable_52 : decode mX6_stable.2.1 52 = .ok (.ireturn, 1) := by decide +kernel
theorem dX6_stable_61 : decode mX6_stable.2.1 61 = .ok (.ireturn, 1) := by decide +kernel
def bX6_firstUnlike_0 : List (Nat × Instr) := [(0, .aload_n 0), (1, .getfield 29), (4, .iload_n 1)]
theorem bX6_firstUnlike_0_ok : ∀ q ∈ bX6_firstUnlike_0, decode mX6_firstUnlike.2.1 q.1 = .ok (q.2, aLn q.2) := by decide +kernel
def bX6_firstUnlike_8 : List (Nat × Instr) := [(8, .istore 4), (10, .iconst 0), (11, .istore 5)]
theorem bX6_firstUnlike_8_ok : ∀ q ∈ bX6_firstUnlike_8, decode mX6_firstUnlike.2.1 q.1 = .ok (q.2, aLn q.2) := by decide +kernel
def bX6_firstUnlike_13 : List (Nat × Instr) := [(13, .iload 5), (15, .iload 4)]
theorem bX6_firstUnlike_13_ok : ∀ q ∈ bX6_firstUnlike_13, decode mX6_firstUnlike.2.1 q.1 = .ok (q.2, aLn q.2) := by decide +kernel
def bX6_firstUnlike_20 : List (Nat × Instr) := [(20, .iload 5)]
theorem bX6_firstUnlike_20_ok : ∀ q ∈ bX6_firstUnlike_20, decode mX6_firstUnlike.2.1 q.1 = .ok (q.2, aLn q.2) := by decide +kernel
def bX6_firstUnlike_25 : List (Nat × Instr) := [(25, .aload_n 0), (26, .getfield 16)]
theorem bX6_firstUnlike_25_ok : ∀ q ∈ bX6_firstUnlike_25, decode mX6_firstUnlike.2.1 q.1 = .ok (q.2, aLn q.2) := by decide +kernel
def bX6_firstUnlike_32 : List (Nat × Instr) := [(32, .aload_n 0), (33, .getfield 29), (36, .iload_n 1), (37, .iload 5)]
theorem bX6_firstUnlike_32_ok : ∀ q ∈ bX6_firstUnlike_32, decode mX6_firstUnlike.2.1 q.1 = .ok (q.2, aLn q.2) := by decide +kernel
def bX6_firstUnlike_45 : List (Nat × Instr) := [(45, .aload_n 0), (46, .getfield 29), (49, .iload_n 1), (50, .iload 5)]
theorem bX6_firstUnlike_45_ok : ∀ q ∈ bX6_firstUnlike_45, decode mX6_firstUnlike.2.1 q.1 = .ok (q.2, aLn q.2) := by decide +kernel
def bX6_firstUnlike_55 : List (Nat × Instr) := [(55, .aload_n 0), (56, .iload_n 2), (57, .iload_n 3)]
theorem bX6_firstUnlike_55_ok : ∀ q ∈ bX6_firstUnlike_55, decode mX6_firstUnlike.2.1 q.1 = .ok (q.2, aLn q.2) := by decide +kernel
def bX6_firstUnlike_64 : List (Nat × Instr) := [(64, .iload 5)]
theorem bX6_firstUnlike_64_ok : ∀ q ∈ bX6_firstUnlike_64, decode mX6_firstUnlike.2.1 q.1 = .ok (q.2, aLn q.2) := by decide +kernel
def bX6_firstUnlike_67 : List (Nat × Instr) := [(67, .iinc 5 1), (70, .goto (-57))]
theorem bX6_firstUnlike_67_ok : ∀ q ∈ bX6_firstUnlike_67, decode mX6_firstUnlike.2.1 q.1 = .ok (q.2, aLn q.2) := by decide +kernel
def bX6_firstUnlike_73 : List (Nat × Instr) := [(73, .bipush (-4))]
theorem bX6_firstUnlike_73_ok : ∀ q ∈ bX6_firstUnlike_73, decode mX6_firstUnlike.2.1 q.1 = .ok (q.2, aLn q.2) := by decide +kernel
theorem dX6_firstUnlike_5 : decode mX6_firstUnlike.2.1 5 = .ok (.invokevirtual 245, 3) := by decide +kernel
theorem dX6_firstUnlike_17 : decode mX6_firstUnlike.2.1 17 = .ok (.if_icmp .ge 56, 3) := by decide +kernel
theorem dX6_firstUnlike_22 : decode mX6_firstUnlike.2.1 22 = .ok (.ifCond .le 10, 3) := by decide +kernel
theorem dX6_firstUnlike_29 : decode mX6_firstUnlike.2.1 29 = .ok (.invokevirtual 178, 3) := by decide +kernel
theorem dX6_firstUnlike_39 : decode mX6_firstUnlike.2.1 39 = .ok (.invokevirtual 315, 3) := by decide +kernel
theorem dX6_firstUnlike_42 : decode mX6_firstUnlike.2.1 42 = .ok (.ifCond .ne 25, 3) := by decide +kernel
theorem dX6_firstUnlike_52 : decode mX6_firstUnlike.2.1 52 = .ok (.invokevirtual 248, 3) := by decide +kernel
theorem dX6_firstUnlike_58 : decode mX6_firstUnlike.2.1 58 = .ok (.invokevirtual 318, 3) := by decide +kernel
theorem dX6_firstUnlike_61 : decode mX6_firstUnlike.2.1 61 = .ok (.if_icmp .eq 6, 3) := by decide +kernel
theorem dX6_firstUnlike_66 : decode mX6_firstUnlike.2.1 66 = .ok (.ireturn, 1) := by decide +kernel
theorem dX6_firstUnlike_75 : decode mX6_firstUnlike.2.1 75 = .ok (.ireturn, 1) := by decide +kernel
def bX6_measured_0 : List (Nat × Instr) := [(0, .iload_n 1)]
theorem bX6_measured_0_ok : ∀ q ∈ bX6_measured_0, decode mX6_measured.2.1 q.1 = .ok (q.2, aLn q.2) := by decide +kernel
def bX6_measured_28 : List (Nat × Instr) := [(28, .aload_n 0), (29, .getfield 16), (32, .iload_n 2)]
theorem bX6_measured_28_ok : ∀ q ∈ bX6_measured_28, decode mX6_measured.2.1 q.1 = .ok (q.2, aLn q.2) := by decide +kernel
def bX6_measured_39 : List (Nat × Instr) := [(39, .aload_n 0), (40, .getfield 16), (43, .getfield 85), (46, .iload_n 2), (47, .iaload), (48, .goto 4)]
theorem bX6_measured_39_ok : ∀ q ∈ bX6_measured_39, decode mX6_measured.2.1 q.1 = .ok (q.2, aLn q.2) := by decide +kernel
def bX6_measured_51 : List (Nat × Instr) := [(51, .iconst 0)]
theorem bX6_measured_51_ok : ∀ q ∈ bX6_measured_51, decode mX6_measured.2.1 q.1 = .ok (q.2, aLn q.2) := by decide +kernel
def bX6_measured_53 : List (Nat × Instr) := [(53, .iload_n 2)]
theorem bX6_measured_53_ok : ∀ q ∈ bX6_measured_53, decode mX6_measured.2.1 q.1 = .ok (q.2, aLn q.2) := by decide +kernel
def bX6_measured_60 : List (Nat × Instr) := [(60, .aload_n 0), (61, .getfield 16), (64, .getfield 115), (67, .iload_n 2), (68, .iaload), (69, .iconst (-1))]
theorem bX6_measured_60_ok : ∀ q ∈ bX6_measured_60, decode mX6_measured.2.1 q.1 = .ok (q.2, aLn q.2) := by decide +kernel
def bX6_measured_73 : List (Nat × Instr) := [(73, .iconst 1), (74, .goto 4)]
theorem bX6_measured_73_ok : ∀ q ∈ bX6_measured_73, decode mX6_measured.2.1 q.1 = .ok (q.2, aLn q.2) := by decide +kernel
def bX6_measured_77 : List (Nat × Instr) := [(77, .iconst 0)]
theorem bX6_measured_77_ok : ∀ q ∈ bX6_measured_77, decode mX6_measured.2.1 q.1 = .ok (q.2, aLn q.2) := by decide +kernel
def bX6_measured_79 : List (Nat × Instr) := [(79, .aload_n 0), (80, .getfield 16)]
theorem bX6_measured_79_ok : ∀ q ∈ bX6_measured_79, decode mX6_measured.2.1 q.1 = .ok (q.2, aLn q.2) := by decide +kernel
theorem dX6_measured_1 : decode mX6_measured.2.1 1 = .ok (.lookupswitch 78 #[(0, 27), (1, 52)], 27) := by decide +kernel
theorem dX6_measured_33 : decode mX6_measured.2.1 33 = .ok (.invokevirtual 76, 3) := by decide +kernel
theorem dX6_measured_36 : decode mX6_measured.2.1 36 = .ok (.ifCond .eq 15, 3) := by decide +kernel
theorem dX6_measured_52 : decode mX6_measured.2.1 52 = .ok (.ireturn, 1) := by decide +kernel
theorem dX6_measured_54 : decode mX6_measured.2.1 54 = .ok (.invokestatic 109, 3) := by decide +kernel
theorem dX6_measured_57 : decode mX6_measured.2.1 57 = .ok (.ifCond .eq 20, 3) := by decide +kernel
theorem dX6_measured_70 : decode mX6_measured.2.1 70 = .ok (.if_icmp .eq 7, 3) := by decide +kernel
theorem dX6_measured_78 : decode mX6_measured.2.1 78 = .ok (.ireturn, 1) := by decide +kernel
theorem dX6_measured_83 : decode mX6_measured.2.1 83 = .ok (.invokevirtual 205, 3) := by decide +kernel
theorem dX6_measured_86 : decode mX6_measured.2.1 86 = .ok (.ireturn, 1) := by decide +kernel
def bX6_playTwo_0 : List (Nat × Instr) := [(0, .aload_n 0), (1, .getfield 16), (4, .aload_n 0), (5, .getfield 10)]
theorem bX6_playTwo_0_ok : ∀ q ∈ bX6_playTwo_0, decode mX6_playTwo.2.1 q.1 = .ok (q.2, aLn q.2) := by decide +kernel
def bX6_playTwo_11 : List (Nat × Instr) := [(11, .iload 4), (13, .iconst 2), (14, .iand)]
theorem bX6_playTwo_11_ok : ∀ q ∈ bX6_playTwo_11, decode mX6_playTwo.2.1 q.1 = .ok (q.2, aLn q.2) := by decide +kernel
def bX6_playTwo_18 : List (Nat × Instr) := [(18, .aload_n 0), (19, .getfield 16), (22, .iload_n 1)]
theorem bX6_playTwo_18_ok : ∀ q ∈ bX6_playTwo_18, decode mX6_playTwo.2.1 q.1 = .ok (q.2, aLn q.2) := by decide +kernel
def bX6_playTwo_26 : List (Nat × Instr) := [(26, .iload 4), (28, .iconst 1), (29, .iand)]
theorem bX6_playTwo_26_ok : ∀ q ∈ bX6_playTwo_26, decode mX6_playTwo.2.1 q.1 = .ok (q.2, aLn q.2) := by decide +kernel
def bX6_playTwo_33 : List (Nat × Instr) := [(33, .aload_n 0), (34, .getfield 16), (37, .iload_n 2)]
theorem bX6_playTwo_33_ok : ∀ q ∈ bX6_playTwo_33, decode mX6_playTwo.2.1 q.1 = .ok (q.2, aLn q.2) := by decide +kernel
def bX6_playTwo_41 : List (Nat × Instr) := [(41, .iconst 0), (42, .istore 5), (44, .iconst 0), (45, .istore 6), (47, .iconst 0), (48, .istore 7)]
theorem bX6_playTwo_41_ok : ∀ q ∈ bX6_playTwo_41, decode mX6_playTwo.2.1 q.1 = .ok (q.2, aLn q.2) := by decide +kernel
def bX6_playTwo_50 : List (Nat × Instr) := [(50, .iload 7), (52, .iload_n 3)]
theorem bX6_playTwo_50_ok : ∀ q ∈ bX6_playTwo_50, decode mX6_playTwo.2.1 q.1 = .ok (q.2, aLn q.2) := by decide +kernel
def bX6_playTwo_56 : List (Nat × Instr) := [(56, .aload_n 0), (57, .getfield 16)]
theorem bX6_playTwo_56_ok : ∀ q ∈ bX6_playTwo_56, decode mX6_playTwo.2.1 q.1 = .ok (q.2, aLn q.2) := by decide +kernel
def bX6_playTwo_63 : List (Nat × Instr) := [(63, .iload 5), (65, .aload_n 0), (66, .getfield 16), (69, .getfield 91), (72, .iload_n 1), (73, .iaload), (74, .iconst (-1))]
theorem bX6_playTwo_63_ok : ∀ q ∈ bX6_playTwo_63, decode mX6_playTwo.2.1 q.1 = .ok (q.2, aLn q.2) := by decide +kernel
def bX6_playTwo_78 : List (Nat × Instr) := [(78, .iconst 1), (79, .goto 4)]
theorem bX6_playTwo_78_ok : ∀ q ∈ bX6_playTwo_78, decode mX6_playTwo.2.1 q.1 = .ok (q.2, aLn q.2) := by decide +kernel
def bX6_playTwo_82 : List (Nat × Instr) := [(82, .iconst 0)]
theorem bX6_playTwo_82_ok : ∀ q ∈ bX6_playTwo_82, decode mX6_playTwo.2.1 q.1 = .ok (q.2, aLn q.2) := by decide +kernel
def bX6_playTwo_83 : List (Nat × Instr) := [(83, .iadd), (84, .istore 5), (86, .iload 6), (88, .aload_n 0), (89, .getfield 16), (92, .getfield 91), (95, .iload_n 2), (96, .iaload), (97, .iconst (-1))]
theorem bX6_playTwo_83_ok : ∀ q ∈ bX6_playTwo_83, decode mX6_playTwo.2.1 q.1 = .ok (q.2, aLn q.2) := by decide +kernel
def bX6_playTwo_101 : List (Nat × Instr) := [(101, .iconst 1), (102, .goto 4)]
theorem bX6_playTwo_101_ok : ∀ q ∈ bX6_playTwo_101, decode mX6_playTwo.2.1 q.1 = .ok (q.2, aLn q.2) := by decide +kernel
def bX6_playTwo_105 : List (Nat × Instr) := [(105, .iconst 0)]
theorem bX6_playTwo_105_ok : ∀ q ∈ bX6_playTwo_105, decode mX6_playTwo.2.1 q.1 = .ok (q.2, aLn q.2) := by decide +kernel
def bX6_playTwo_106 : List (Nat × Instr) := [(106, .iadd), (107, .istore 6), (109, .iinc 7 1), (112, .goto (-62))]
theorem bX6_playTwo_106_ok : ∀ q ∈ bX6_playTwo_106, decode mX6_playTwo.2.1 q.1 = .ok (q.2, aLn q.2) := by decide +kernel
def bX6_playTwo_115 : List (Nat × Instr) := [(115, .aload_n 0), (116, .getfield 47), (119, .iload 4), (121, .iload 5), (123, .aload_n 0), (124, .getfield 16), (127, .getfield 85), (130, .iload_n 1), (131, .iaload), (132, .bipush 10), (134, .idiv), (135, .isub), (136, .iastore), (137, .aload_n 0), (138, .getfield 51), (141, .iload 4), (143, .iload 6), (145, .aload_n 0), (146, .getfield 16), (149, .getfield 85), (152, .iload_n 2), (153, .iaload), (154, .bipush 10), (156, .idiv), (157, .isub), (158, .iastore)]
theorem bX6_playTwo_115_ok : ∀ q ∈ bX6_playTwo_115, decode mX6_playTwo.2.1 q.1 = .ok (q.2, aLn q.2) := by decide +kernel
theorem dX6_playTwo_8 : decode mX6_playTwo.2.1 8 = .ok (.invokevirtual 68, 3) := by decide +kernel
theorem dX6_playTwo_15 : decode mX6_playTwo.2.1 15 = .ok (.ifCond .ne 11, 3) := by decide +kernel
theorem dX6_playTwo_23 : decode mX6_playTwo.2.1 23 = .ok (.invokevirtual 321, 3) := by decide +kernel
theorem dX6_playTwo_30 : decode mX6_playTwo.2.1 30 = .ok (.ifCond .ne 11, 3) := by decide +kernel
theorem dX6_playTwo_38 : decode mX6_playTwo.2.1 38 = .ok (.invokevirtual 321, 3) := by decide +kernel
theorem dX6_playTwo_53 : decode mX6_playTwo.2.1 53 = .ok (.if_icmp .ge 62, 3) := by decide +kernel
theorem dX6_playTwo_60 : decode mX6_playTwo.2.1 60 = .ok (.invokevirtual 178, 3) := by decide +kernel
theorem dX6_playTwo_75 : decode mX6_playTwo.2.1 75 = .ok (.if_icmp .eq 7, 3) := by decide +kernel
theorem dX6_playTwo_98 : decode mX6_playTwo.2.1 98 = .ok (.if_icmp .eq 7, 3) := by decide +kernel
theorem dX6_playTwo_159 : decode mX6_playTwo.2.1 159 = .ok (.return_, 1) := by decide +kernel
def bX6_heldAfterScandals_0 : List (Nat × Instr) := [(0, .aload_n 0), (1, .getfield 16), (4, .aload_n 0), (5, .getfield 10)]
theorem bX6_heldAfterScandals_0_ok : ∀ q ∈ bX6_heldAfterScandals_0, decode mX6_heldAfterScandals.2.1 q.1 = .ok (q.2, aLn q.2) := by decide +kernel
def bX6_heldAfterScandals_11 : List (Nat × Instr) := [(11, .iconst 0), (12, .istore 4)]
theorem bX6_heldAfterScandals_11_ok : ∀ q ∈ bX6_heldAfterScandals_11, decode mX6_heldAfterScandals.2.1 q.1 = .ok (q.2, aLn q.2) := by decide +kernel
def bX6_heldAfterScandals_14 : List (Nat × Instr) := [(14, .iload 4), (16, .iload_n 2)]
theorem bX6_heldAfterScandals_14_ok : ∀ q ∈ bX6_heldAfterScandals_14, decode mX6_heldAfterScandals.2.1 q.1 = .ok (q.2, aLn q.2) := by decide +kernel
def bX6_heldAfterScandals_20 : List (Nat × Instr) := [(20, .iload_n 3), (21, .iload 4), (23, .ishr), (24, .iconst 1), (25, .iand), (26, .iconst 1)]
theorem bX6_heldAfterScandals_20_ok : ∀ q ∈ bX6_heldAfterScandals_20, decode mX6_heldAfterScandals.2.1 q.1 = .ok (q.2, aLn q.2) := by decide +kernel
def bX6_heldAfterScandals_30 : List (Nat × Instr) := [(30, .aload_n 0), (31, .getfield 16)]
theorem bX6_heldAfterScandals_30_ok : ∀ q ∈ bX6_heldAfterScandals_30, decode mX6_heldAfterScandals.2.1 q.1 = .ok (q.2, aLn q.2) := by decide +kernel
def bX6_heldAfterScandals_37 : List (Nat × Instr) := [(37, .aload_n 0), (38, .getfield 16)]
theorem bX6_heldAfterScandals_37_ok : ∀ q ∈ bX6_heldAfterScandals_37, decode mX6_heldAfterScandals.2.1 q.1 = .ok (q.2, aLn q.2) := by decide +kernel
def bX6_heldAfterScandals_44 : List (Nat × Instr) := [(44, .iinc 4 1), (47, .goto (-33))]
theorem bX6_heldAfterScandals_44_ok : ∀ q ∈ bX6_heldAfterScandals_44, decode mX6_heldAfterScandals.2.1 q.1 = .ok (q.2, aLn q.2) := by decide +kernel
def bX6_heldAfterScandals_50 : List (Nat × Instr) := [(50, .aload_n 0), (51, .getfield 16), (54, .getfield 115), (57, .iload_n 1), (58, .iaload), (59, .iconst (-1))]
theorem bX6_heldAfterScandals_50_ok : ∀ q ∈ bX6_heldAfterScandals_50, decode mX6_heldAfterScandals.2.1 q.1 = .ok (q.2, aLn q.2) := by decide +kernel
def bX6_heldAfterScandals_63 : List (Nat × Instr) := [(63, .iconst 1), (64, .goto 4)]
theorem bX6_heldAfterScandals_63_ok : ∀ q ∈ bX6_heldAfterScandals_63, decode mX6_heldAfterScandals.2.1 q.1 = .ok (q.2, aLn q.2) := by decide +kernel
def bX6_heldAfterScandals_67 : List (Nat × Instr) := [(67, .iconst 0)]
theorem bX6_heldAfterScandals_67_ok : ∀ q ∈ bX6_heldAfterScandals_67, decode mX6_heldAfterScandals.2.1 q.1 = .ok (q.2, aLn q.2) := by decide +kernel
theorem dX6_heldAfterScandals_8 : decode mX6_heldAfterScandals.2.1 8 = .ok (.invokevirtual 68, 3) := by decide +kernel
theorem dX6_heldAfterScandals_17 : decode mX6_heldAfterScandals.2.1 17 = .ok (.if_icmp .ge 33, 3) := by decide +kernel
theorem dX6_heldAfterScandals_27 : decode mX6_heldAfterScandals.2.1 27 = .ok (.if_icmp .ne 10, 3) := by decide +kernel
theorem dX6_heldAfterScandals_34 : decode mX6_heldAfterScandals.2.1 34 = .ok (.invokevirtual 324, 3) := by decide +kernel
theorem dX6_heldAfterScandals_41 : decode mX6_heldAfterScandals.2.1 41 = .ok (.invokevirtual 178, 3) := by decide +kernel
theorem dX6_heldAfterScandals_60 : decode mX6_heldAfterScandals.2.1 60 = .ok (.if_icmp .eq 7, 3) := by decide +kernel
theorem dX6_heldAfterScandals_68 : decode mX6_heldAfterScandals.2.1 68 = .ok (.ireturn, 1) := by decide +kernel
def bX6_chances_0 : List (Nat × Instr) := [(0, .lconst 1), (1, .lstore_n 3), (2, .iconst 0), (3, .istore 5)]
theorem bX6_chances_0_ok : ∀ q ∈ bX6_chances_0, decode mX6_chances.2.1 q.1 = .ok (q.2, aLn q.2) := by decide +kernel
def bX6_chances_5 : List (Nat × Instr) := [(5, .iload 5), (7, .iload_n 0)]
theorem bX6_chances_5_ok : ∀ q ∈ bX6_chances_5, decode mX6_chances.2.1 q.1 = .ok (q.2, aLn q.2) := by decide +kernel
def bX6_chances_11 : List (Nat × Instr) := [(11, .iload_n 1), (12, .iload 5), (14, .ishr), (15, .iconst 1), (16, .iand)]
theorem bX6_chances_11_ok : ∀ q ∈ bX6_chances_11, decode mX6_chances.2.1 q.1 = .ok (q.2, aLn q.2) := by decide +kernel
def bX6_chances_20 : List (Nat × Instr) := [(20, .lload_n 3), (21, .iload_n 2), (22, .iconst 1), (23, .isub), (24, .i2l), (25, .lmul), (26, .lstore_n 3)]
theorem bX6_chances_20_ok : ∀ q ∈ bX6_chances_20, decode mX6_chances.2.1 q.1 = .ok (q.2, aLn q.2) := by decide +kernel
def bX6_chances_27 : List (Nat × Instr) := [(27, .iinc 5 1), (30, .goto (-25))]
theorem bX6_chances_27_ok : ∀ q ∈ bX6_chances_27, decode mX6_chances.2.1 q.1 = .ok (q.2, aLn q.2) := by decide +kernel
def bX6_chances_33 : List (Nat × Instr) := [(33, .lload_n 3)]
theorem bX6_chances_33_ok : ∀ q ∈ bX6_chances_33, decode mX6_chances.2.1 q.1 = .ok (q.2, aLn q.2) := by decide +kernel
theorem dX6_chances_8 : decode mX6_chances.2.1 8 = .ok (.if_icmp .ge 25, 3) := by decide +kernel
theorem dX6_chances_17 : decode mX6_chances.2.1 17 = .ok (.ifCond .ne 10, 3) := by decide +kernel
theorem dX6_chances_34 : decode mX6_chances.2.1 34 = .ok (.lreturn, 1) := by decide +kernel
def bX6_inLeastTerms_0 : List (Nat × Instr) := [(0, .iload 4)]
theorem bX6_inLeastTerms_0_ok : ∀ q ∈ bX6_inLeastTerms_0, decode mX6_inLeastTerms.2.1 q.1 = .ok (q.2, aLn q.2) := by decide +kernel
def bX6_inLeastTerms_5 : List (Nat × Instr) := [(5, .lload_n 0), (6, .goto 4)]
theorem bX6_inLeastTerms_5_ok : ∀ q ∈ bX6_inLeastTerms_5, decode mX6_inLeastTerms.2.1 q.1 = .ok (q.2, aLn q.2) := by decide +kernel
def bX6_inLeastTerms_9 : List (Nat × Instr) := [(9, .lload_n 2)]
theorem bX6_inLeastTerms_9_ok : ∀ q ∈ bX6_inLeastTerms_9, decode mX6_inLeastTerms.2.1 q.1 = .ok (q.2, aLn q.2) := by decide +kernel
def bX6_inLeastTerms_10 : List (Nat × Instr) := [(10, .lstore 5), (12, .lload_n 0), (13, .lload_n 2)]
theorem bX6_inLeastTerms_10_ok : ∀ q ∈ bX6_inLeastTerms_10, decode mX6_inLeastTerms.2.1 q.1 = .ok (q.2, aLn q.2) := by decide +kernel
def bX6_inLeastTerms_17 : List (Nat × Instr) := [(17, .lstore 7), (19, .lload 7), (21, .lconst 0), (22, .lcmp)]
theorem bX6_inLeastTerms_17_ok : ∀ q ∈ bX6_inLeastTerms_17, decode mX6_inLeastTerms.2.1 q.1 = .ok (q.2, aLn q.2) := by decide +kernel
def bX6_inLeastTerms_26 : List (Nat × Instr) := [(26, .lload 5), (28, .goto 8)]
theorem bX6_inLeastTerms_26_ok : ∀ q ∈ bX6_inLeastTerms_26, decode mX6_inLeastTerms.2.1 q.1 = .ok (q.2, aLn q.2) := by decide +kernel
def bX6_inLeastTerms_31 : List (Nat × Instr) := [(31, .lload 5), (33, .lload 7), (35, .ldiv)]
theorem bX6_inLeastTerms_31_ok : ∀ q ∈ bX6_inLeastTerms_31, decode mX6_inLeastTerms.2.1 q.1 = .ok (q.2, aLn q.2) := by decide +kernel
theorem dX6_inLeastTerms_2 : decode mX6_inLeastTerms.2.1 2 = .ok (.ifCond .ne 7, 3) := by decide +kernel
theorem dX6_inLeastTerms_14 : decode mX6_inLeastTerms.2.1 14 = .ok (.invokestatic 327, 3) := by decide +kernel
theorem dX6_inLeastTerms_23 : decode mX6_inLeastTerms.2.1 23 = .ok (.ifCond .ne 8, 3) := by decide +kernel
theorem dX6_inLeastTerms_36 : decode mX6_inLeastTerms.2.1 36 = .ok (.lreturn, 1) := by decide +kernel
def bX6_commonDivisor_0 : List (Nat × Instr) := [(0, .lload_n 0), (1, .lstore 4), (3, .lload_n 2), (4, .lstore 6), (6, .iconst 0), (7, .istore 8)]
theorem bX6_commonDivisor_0_ok : ∀ q ∈ bX6_commonDivisor_0, decode mX6_commonDivisor.2.1 q.1 = .ok (q.2, aLn q.2) := by decide +kernel
def bX6_commonDivisor_9 : List (Nat × Instr) := [(9, .iload 8), (11, .sipush 200)]
theorem bX6_commonDivisor_9_ok : ∀ q ∈ bX6_commonDivisor_9, decode mX6_commonDivisor.2.1 q.1 = .ok (q.2, aLn q.2) := by decide +kernel
def bX6_commonDivisor_17 : List (Nat × Instr) := [(17, .lload 6), (19, .lconst 0), (20, .lcmp)]
theorem bX6_commonDivisor_17_ok : ∀ q ∈ bX6_commonDivisor_17, decode mX6_commonDivisor.2.1 q.1 = .ok (q.2, aLn q.2) := by decide +kernel
def bX6_commonDivisor_24 : List (Nat × Instr) := [(24, .lload 4), (26, .lload 6), (28, .lrem), (29, .lstore 9), (31, .lload 6), (33, .lstore 4), (35, .lload 9), (37, .lstore 6), (39, .iinc 8 1), (42, .goto (-33))]
theorem bX6_commonDivisor_24_ok : ∀ q ∈ bX6_commonDivisor_24, decode mX6_commonDivisor.2.1 q.1 = .ok (q.2, aLn q.2) := by decide +kernel
def bX6_commonDivisor_45 : List (Nat × Instr) := [(45, .lload 4)]
theorem bX6_commonDivisor_45_ok : ∀ q ∈ bX6_commonDivisor_45, decode mX6_commonDivisor.2.1 q.1 = .ok (q.2, aLn q.2) := by decide +kernel
theorem dX6_commonDivisor_14 : decode mX6_commonDivisor.2.1 14 = .ok (.if_icmp .ge 31, 3) := by decide +kernel
theorem dX6_commonDivisor_21 : decode mX6_commonDivisor.2.1 21 = .ok (.ifCond .eq 24, 3) := by decide +kernel
theorem dX6_commonDivisor_47 : decode mX6_commonDivisor.2.1 47 = .ok (.lreturn, 1) := by decide +kernel
def bX6_holderAsTold_0 : List (Nat × Instr) := [(0, .iload_n 1)]
theorem bX6_holderAsTold_0_ok : ∀ q ∈ bX6_holderAsTold_0, decode mX6_holderAsTold.2.1 q.1 = .ok (q.2, aLn q.2) := by decide +kernel
def bX6_holderAsTold_7 : List (Nat × Instr) := [(7, .aload_n 0), (8, .getfield 10), (11, .getfield 115), (14, .iload_n 1), (15, .iaload), (16, .iconst (-1))]
theorem bX6_holderAsTold_7_ok : ∀ q ∈ bX6_holderAsTold_7, decode mX6_holderAsTold.2.1 q.1 = .ok (q.2, aLn q.2) := by decide +kernel
def bX6_holderAsTold_20 : List (Nat × Instr) := [(20, .bipush 9)]
theorem bX6_holderAsTold_20_ok : ∀ q ∈ bX6_holderAsTold_20, decode mX6_holderAsTold.2.1 q.1 = .ok (q.2, aLn q.2) := by decide +kernel
def bX6_holderAsTold_23 : List (Nat × Instr) := [(23, .aload_n 0), (24, .getfield 10), (27, .getfield 115), (30, .iload_n 1), (31, .iaload)]
theorem bX6_holderAsTold_23_ok : ∀ q ∈ bX6_holderAsTold_23, decode mX6_holderAsTold.2.1 q.1 = .ok (q.2, aLn q.2) := by decide +kernel
theorem dX6_holderAsTold_1 : decode mX6_holderAsTold.2.1 1 = .ok (.invokestatic 109, 3) := by decide +kernel
theorem dX6_holderAsTold_4 : decode mX6_holderAsTold.2.1 4 = .ok (.ifCond .eq 16, 3) := by decide +kernel
theorem dX6_holderAsTold_17 : decode mX6_holderAsTold.2.1 17 = .ok (.if_icmp .ne 6, 3) := by decide +kernel
theorem dX6_holderAsTold_22 : decode mX6_holderAsTold.2.1 22 = .ok (.ireturn, 1) := by decide +kernel
theorem dX6_holderAsTold_32 : decode mX6_holderAsTold.2.1 32 = .ok (.ireturn, 1) := by decide +kernel
def bX6_oneYear_0 : List (Nat × Instr) := [(0, .aload_n 0), (1, .getfield 16), (4, .aload_n 0), (5, .getfield 10)]
theorem bX6_oneYear_0_ok : ∀ q ∈ bX6_oneYear_0, decode mX6_oneYear.2.1 q.1 = .ok (q.2, aLn q.2) := by decide +kernel
def bX6_oneYear_11 : List (Nat × Instr) := [(11, .iconst 0), (12, .istore_n 1)]
theorem bX6_oneYear_11_ok : ∀ q ∈ bX6_oneYear_11, decode mX6_oneYear.2.1 q.1 = .ok (q.2, aLn q.2) := by decide +kernel
def bX6_oneYear_13 : List (Nat × Instr) := [(13, .iload_n 1), (14, .iconst 5)]
theorem bX6_oneYear_13_ok : ∀ q ∈ bX6_oneYear_13, decode mX6_oneYear.2.1 q.1 = .ok (q.2, aLn q.2) := by decide +kernel
def bX6_oneYear_18 : List (Nat × Instr) := [(18, .aload_n 0), (19, .getfield 16), (22, .getfield 112), (25, .iload_n 1), (26, .aload_n 0), (27, .getfield 43), (30, .bipush 10)]
theorem bX6_oneYear_18_ok : ∀ q ∈ bX6_oneYear_18, decode mX6_oneYear.2.1 q.1 = .ok (q.2, aLn q.2) := by decide +kernel
def bX6_oneYear_35 : List (Nat × Instr) := [(35, .iastore), (36, .iinc 1 1), (39, .goto (-26))]
theorem bX6_oneYear_35_ok : ∀ q ∈ bX6_oneYear_35, decode mX6_oneYear.2.1 q.1 = .ok (q.2, aLn q.2) := by decide +kernel
def bX6_oneYear_42 : List (Nat × Instr) := [(42, .iconst 0), (43, .istore_n 1)]
theorem bX6_oneYear_42_ok : ∀ q ∈ bX6_oneYear_42, decode mX6_oneYear.2.1 q.1 = .ok (q.2, aLn q.2) := by decide +kernel
def bX6_oneYear_44 : List (Nat × Instr) := [(44, .iload_n 1), (45, .aload_n 0), (46, .getfield 16), (49, .getfield 196)]
theorem bX6_oneYear_44_ok : ∀ q ∈ bX6_oneYear_44, decode mX6_oneYear.2.1 q.1 = .ok (q.2, aLn q.2) := by decide +kernel
def bX6_oneYear_55 : List (Nat × Instr) := [(55, .aload_n 0), (56, .getfield 16), (59, .getfield 85), (62, .iload_n 1), (63, .aload_n 0), (64, .getfield 43), (67, .bipush 10)]
theorem bX6_oneYear_55_ok : ∀ q ∈ bX6_oneYear_55, decode mX6_oneYear.2.1 q.1 = .ok (q.2, aLn q.2) := by decide +kernel
def bX6_oneYear_72 : List (Nat × Instr) := [(72, .iastore), (73, .iinc 1 1), (76, .goto (-32))]
theorem bX6_oneYear_72_ok : ∀ q ∈ bX6_oneYear_72, decode mX6_oneYear.2.1 q.1 = .ok (q.2, aLn q.2) := by decide +kernel
def bX6_oneYear_79 : List (Nat × Instr) := [(79, .aload_n 0), (80, .getfield 16), (83, .bipush 15)]
theorem bX6_oneYear_79_ok : ∀ q ∈ bX6_oneYear_79, decode mX6_oneYear.2.1 q.1 = .ok (q.2, aLn q.2) := by decide +kernel
theorem dX6_oneYear_8 : decode mX6_oneYear.2.1 8 = .ok (.invokevirtual 68, 3) := by decide +kernel
theorem dX6_oneYear_15 : decode mX6_oneYear.2.1 15 = .ok (.if_icmp .ge 27, 3) := by decide +kernel
theorem dX6_oneYear_32 : decode mX6_oneYear.2.1 32 = .ok (.invokevirtual 331, 3) := by decide +kernel
theorem dX6_oneYear_52 : decode mX6_oneYear.2.1 52 = .ok (.if_icmp .ge 27, 3) := by decide +kernel
theorem dX6_oneYear_69 : decode mX6_oneYear.2.1 69 = .ok (.invokevirtual 331, 3) := by decide +kernel
theorem dX6_oneYear_85 : decode mX6_oneYear.2.1 85 = .ok (.invokevirtual 159, 3) := by decide +kernel
theorem dX6_oneYear_88 : decode mX6_oneYear.2.1 88 = .ok (.return_, 1) := by decide +kernel
