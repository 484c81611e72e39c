/-! ===== code ===== -/
def bX0_becomes_0 : List (Nat × Instr) := [(0, .aload_n 0), (1, .aload_n 1), (2, .getfield 9), (5, .putfield 9), (8, .aload_n 0), (9, .aload_n 1), (10, .getfield 15), (13, .putfield 15), (16, .aload_n 0), (17, .aload_n 1), (18, .getfield 18), (21, .putfield 18), (24, .iconst 0), (25, .istore_n 2)]
theorem bX0_becomes_0_ok : ∀ q ∈ bX0_becomes_0, decode mX0_becomes.2.1 q.1 = .ok (q.2, aLn q.2) := by decide +kernel
def bX0_becomes_26 : List (Nat × Instr) := [(26, .iload_n 2), (27, .bipush 8)]
theorem bX0_becomes_26_ok : ∀ q ∈ bX0_becomes_26, decode mX0_becomes.2.1 q.1 = .ok (q.2, aLn q.2) := by decide +kernel
def bX0_becomes_32 : List (Nat × Instr) := [(32, .aload_n 0), (33, .getfield 24), (36, .iload_n 2), (37, .aload_n 1), (38, .getfield 24), (41, .iload_n 2), (42, .iaload), (43, .iastore), (44, .aload_n 0), (45, .getfield 28), (48, .iload_n 2), (49, .aload_n 1), (50, .getfield 28), (53, .iload_n 2), (54, .iaload), (55, .iastore), (56, .aload_n 0), (57, .getfield 31), (60, .iload_n 2), (61, .aload_n 1), (62, .getfield 31), (65, .iload_n 2), (66, .iaload), (67, .iastore), (68, .aload_n 0), (69, .getfield 34), (72, .iload_n 2), (73, .aload_n 1), (74, .getfield 34), (77, .iload_n 2), (78, .iaload), (79, .iastore), (80, .aload_n 0), (81, .getfield 37), (84, .iload_n 2), (85, .aload_n 1), (86, .getfield 37), (89, .iload_n 2), (90, .iaload), (91, .iastore), (92, .iinc 2 1), (95, .goto (-69))]
theorem bX0_becomes_32_ok : ∀ q ∈ bX0_becomes_32, decode mX0_becomes.2.1 q.1 = .ok (q.2, aLn q.2) := by decide +kernel
def bX0_becomes_98 : List (Nat × Instr) := [(98, .iconst 0), (99, .istore_n 2)]
theorem bX0_becomes_98_ok : ∀ q ∈ bX0_becomes_98, decode mX0_becomes.2.1 q.1 = .ok (q.2, aLn q.2) := by decide +kernel
def bX0_becomes_100 : List (Nat × Instr) := [(100, .iload_n 2), (101, .iconst 5)]
theorem bX0_becomes_100_ok : ∀ q ∈ bX0_becomes_100, decode mX0_becomes.2.1 q.1 = .ok (q.2, aLn q.2) := by decide +kernel
def bX0_becomes_105 : List (Nat × Instr) := [(105, .aload_n 0), (106, .getfield 40), (109, .iload_n 2), (110, .aload_n 1), (111, .getfield 40), (114, .iload_n 2), (115, .iaload), (116, .iastore), (117, .aload_n 0), (118, .getfield 43), (121, .iload_n 2), (122, .aload_n 1), (123, .getfield 43), (126, .iload_n 2), (127, .iaload), (128, .iastore), (129, .iinc 2 1), (132, .goto (-32))]
theorem bX0_becomes_105_ok : ∀ q ∈ bX0_becomes_105, decode mX0_becomes.2.1 q.1 = .ok (q.2, aLn q.2) := by decide +kernel
theorem dX0_becomes_29 : decode mX0_becomes.2.1 29 = .ok (.if_icmp .ge 69, 3) := by decide +kernel
theorem dX0_becomes_102 : decode mX0_becomes.2.1 102 = .ok (.if_icmp .ge 33, 3) := by decide +kernel
theorem dX0_becomes_135 : decode mX0_becomes.2.1 135 = .ok (.return_, 1) := by decide +kernel
def bX0_isThere_0 : List (Nat × Instr) := [(0, .iload_n 1)]
theorem bX0_isThere_0_ok : ∀ q ∈ bX0_isThere_0, decode mX0_isThere.2.1 q.1 = .ok (q.2, aLn q.2) := by decide +kernel
def bX0_isThere_4 : List (Nat × Instr) := [(4, .iload_n 1), (5, .aload_n 0), (6, .getfield 9)]
theorem bX0_isThere_4_ok : ∀ q ∈ bX0_isThere_4, decode mX0_isThere.2.1 q.1 = .ok (q.2, aLn q.2) := by decide +kernel
def bX0_isThere_12 : List (Nat × Instr) := [(12, .iload_n 1), (13, .bipush 8)]
theorem bX0_isThere_12_ok : ∀ q ∈ bX0_isThere_12, decode mX0_isThere.2.1 q.1 = .ok (q.2, aLn q.2) := by decide +kernel
def bX0_isThere_18 : List (Nat × Instr) := [(18, .iconst 1), (19, .goto 4)]
theorem bX0_isThere_18_ok : ∀ q ∈ bX0_isThere_18, decode mX0_isThere.2.1 q.1 = .ok (q.2, aLn q.2) := by decide +kernel
def bX0_isThere_22 : List (Nat × Instr) := [(22, .iconst 0)]
theorem bX0_isThere_22_ok : ∀ q ∈ bX0_isThere_22, decode mX0_isThere.2.1 q.1 = .ok (q.2, aLn q.2) := by decide +kernel
theorem dX0_isThere_1 : decode mX0_isThere.2.1 1 = .ok (.ifCond .lt 21, 3) := by decide +kernel
theorem dX0_isThere_9 : decode mX0_isThere.2.1 9 = .ok (.if_icmp .ge 13, 3) := by decide +kernel
theorem dX0_isThere_15 : decode mX0_isThere.2.1 15 = .ok (.if_icmp .ge 7, 3) := by decide +kernel
theorem dX0_isThere_23 : decode mX0_isThere.2.1 23 = .ok (.ireturn, 1) := by decide +kernel
def bX0_welcome_0 : List (Nat × Instr) := [(0, .aload_n 0), (1, .getfield 9), (4, .bipush 8)]
theorem bX0_welcome_0_ok : ∀ q ∈ bX0_welcome_0, decode mX0_welcome.2.1 q.1 = .ok (q.2, aLn q.2) := by decide +kernel
def bX0_welcome_9 : List (Nat × Instr) := [(9, .bipush (-2))]
theorem bX0_welcome_9_ok : ∀ q ∈ bX0_welcome_9, decode mX0_welcome.2.1 q.1 = .ok (q.2, aLn q.2) := by decide +kernel
def bX0_welcome_12 : List (Nat × Instr) := [(12, .aload_n 0), (13, .getfield 9), (16, .istore 4), (18, .aload_n 0), (19, .getfield 24), (22, .iload 4), (24, .iload_n 1), (25, .iastore), (26, .aload_n 0), (27, .getfield 28), (30, .iload 4), (32, .iload_n 2), (33, .iastore), (34, .aload_n 0), (35, .getfield 31), (38, .iload 4), (40, .iconst 0), (41, .iastore), (42, .aload_n 0), (43, .getfield 34), (46, .iload 4), (48, .iload_n 3), (49, .iastore), (50, .aload_n 0), (51, .getfield 37), (54, .iload 4), (56, .iconst (-1)), (57, .iastore), (58, .aload_n 0), (59, .dup), (60, .getfield 9), (63, .iconst 1), (64, .iadd), (65, .putfield 9), (68, .iload 4)]
theorem bX0_welcome_12_ok : ∀ q ∈ bX0_welcome_12, decode mX0_welcome.2.1 q.1 = .ok (q.2, aLn q.2) := by decide +kernel
theorem dX0_welcome_6 : decode mX0_welcome.2.1 6 = .ok (.if_icmp .lt 6, 3) := by decide +kernel
theorem dX0_welcome_11 : decode mX0_welcome.2.1 11 = .ok (.ireturn, 1) := by decide +kernel
theorem dX0_welcome_70 : decode mX0_welcome.2.1 70 = .ok (.ireturn, 1) := by decide +kernel
def bX0_vacate_0 : List (Nat × Instr) := [(0, .iload_n 1)]
theorem bX0_vacate_0_ok : ∀ q ∈ bX0_vacate_0, decode mX0_vacate.2.1 q.1 = .ok (q.2, aLn q.2) := by decide +kernel
def bX0_vacate_8 : List (Nat × Instr) := [(8, .aload_n 0), (9, .getfield 43), (12, .iload_n 1), (13, .iaload), (14, .istore_n 2), (15, .aload_n 0), (16, .iload_n 2)]
theorem bX0_vacate_8_ok : ∀ q ∈ bX0_vacate_8, decode mX0_vacate.2.1 q.1 = .ok (q.2, aLn q.2) := by decide +kernel
def bX0_vacate_23 : List (Nat × Instr) := [(23, .aload_n 0), (24, .getfield 37), (27, .iload_n 2), (28, .iconst (-1)), (29, .iastore)]
theorem bX0_vacate_23_ok : ∀ q ∈ bX0_vacate_23, decode mX0_vacate.2.1 q.1 = .ok (q.2, aLn q.2) := by decide +kernel
def bX0_vacate_30 : List (Nat × Instr) := [(30, .aload_n 0), (31, .getfield 43), (34, .iload_n 1), (35, .iconst (-1)), (36, .iastore)]
theorem bX0_vacate_30_ok : ∀ q ∈ bX0_vacate_30, decode mX0_vacate.2.1 q.1 = .ok (q.2, aLn q.2) := by decide +kernel
theorem dX0_vacate_1 : decode mX0_vacate.2.1 1 = .ok (.invokestatic 46, 3) := by decide +kernel
theorem dX0_vacate_4 : decode mX0_vacate.2.1 4 = .ok (.ifCond .ne 4, 3) := by decide +kernel
theorem dX0_vacate_7 : decode mX0_vacate.2.1 7 = .ok (.return_, 1) := by decide +kernel
theorem dX0_vacate_17 : decode mX0_vacate.2.1 17 = .ok (.invokevirtual 50, 3) := by decide +kernel
theorem dX0_vacate_20 : decode mX0_vacate.2.1 20 = .ok (.ifCond .eq 10, 3) := by decide +kernel
theorem dX0_vacate_37 : decode mX0_vacate.2.1 37 = .ok (.return_, 1) := by decide +kernel
def bX0_sendHome_0 : List (Nat × Instr) := [(0, .aload_n 0), (1, .iload_n 1)]
theorem bX0_sendHome_0_ok : ∀ q ∈ bX0_sendHome_0, decode mX0_sendHome.2.1 q.1 = .ok (q.2, aLn q.2) := by decide +kernel
def bX0_sendHome_8 : List (Nat × Instr) := [(8, .aload_n 0), (9, .aload_n 0), (10, .getfield 37), (13, .iload_n 1), (14, .iaload)]
theorem bX0_sendHome_8_ok : ∀ q ∈ bX0_sendHome_8, decode mX0_sendHome.2.1 q.1 = .ok (q.2, aLn q.2) := by decide +kernel
theorem dX0_sendHome_2 : decode mX0_sendHome.2.1 2 = .ok (.invokevirtual 50, 3) := by decide +kernel
theorem dX0_sendHome_5 : decode mX0_sendHome.2.1 5 = .ok (.ifCond .eq 13, 3) := by decide +kernel
theorem dX0_sendHome_15 : decode mX0_sendHome.2.1 15 = .ok (.invokevirtual 53, 3) := by decide +kernel
theorem dX0_sendHome_18 : decode mX0_sendHome.2.1 18 = .ok (.return_, 1) := by decide +kernel
def bX0_install_0 : List (Nat × Instr) := [(0, .iload_n 1)]
theorem bX0_install_0_ok : ∀ q ∈ bX0_install_0, decode mX0_install.2.1 q.1 = .ok (q.2, aLn q.2) := by decide +kernel
def bX0_install_7 : List (Nat × Instr) := [(7, .aload_n 0), (8, .iload_n 2)]
theorem bX0_install_7_ok : ∀ q ∈ bX0_install_7, decode mX0_install.2.1 q.1 = .ok (q.2, aLn q.2) := by decide +kernel
def bX0_install_16 : List (Nat × Instr) := [(16, .aload_n 0), (17, .aload_n 0), (18, .getfield 37), (21, .iload_n 2), (22, .iaload)]
theorem bX0_install_16_ok : ∀ q ∈ bX0_install_16, decode mX0_install.2.1 q.1 = .ok (q.2, aLn q.2) := by decide +kernel
def bX0_install_26 : List (Nat × Instr) := [(26, .aload_n 0), (27, .iload_n 1)]
theorem bX0_install_26_ok : ∀ q ∈ bX0_install_26, decode mX0_install.2.1 q.1 = .ok (q.2, aLn q.2) := by decide +kernel
def bX0_install_31 : List (Nat × Instr) := [(31, .aload_n 0), (32, .getfield 43), (35, .iload_n 1), (36, .iload_n 2), (37, .iastore), (38, .aload_n 0), (39, .getfield 37), (42, .iload_n 2), (43, .iload_n 1), (44, .iastore)]
theorem bX0_install_31_ok : ∀ q ∈ bX0_install_31, decode mX0_install.2.1 q.1 = .ok (q.2, aLn q.2) := by decide +kernel
theorem dX0_install_1 : decode mX0_install.2.1 1 = .ok (.invokestatic 46, 3) := by decide +kernel
theorem dX0_install_4 : decode mX0_install.2.1 4 = .ok (.ifCond .eq 11, 3) := by decide +kernel
theorem dX0_install_9 : decode mX0_install.2.1 9 = .ok (.invokevirtual 50, 3) := by decide +kernel
theorem dX0_install_12 : decode mX0_install.2.1 12 = .ok (.ifCond .ne 4, 3) := by decide +kernel
theorem dX0_install_15 : decode mX0_install.2.1 15 = .ok (.return_, 1) := by decide +kernel
theorem dX0_install_23 : decode mX0_install.2.1 23 = .ok (.invokevirtual 53, 3) := by decide +kernel
theorem dX0_install_28 : decode mX0_install.2.1 28 = .ok (.invokevirtual 53, 3) := by decide +kernel
theorem dX0_install_45 : decode mX0_install.2.1 45 = .ok (.return_, 1) := by decide +kernel
def bX0_bearing_0 : List (Nat × Instr) := [(0, .aload_n 0), (1, .getfield 24), (4, .iload_n 1), (5, .iaload), (6, .aload_n 0), (7, .getfield 28), (10, .iload_n 1), (11, .iaload)]
theorem bX0_bearing_0_ok : ∀ q ∈ bX0_bearing_0, decode mX0_bearing.2.1 q.1 = .ok (q.2, aLn q.2) := by decide +kernel
theorem dX0_bearing_12 : decode mX0_bearing.2.1 12 = .ok (.invokestatic 57, 3) := by decide +kernel
theorem dX0_bearing_15 : decode mX0_bearing.2.1 15 = .ok (.ireturn, 1) := by decide +kernel
def bX0_pass_0 : List (Nat × Instr) := [(0, .iconst 0), (1, .istore_n 2)]
theorem bX0_pass_0_ok : ∀ q ∈ bX0_pass_0, decode mX0_pass.2.1 q.1 = .ok (q.2, aLn q.2) := by decide +kernel
def bX0_pass_2 : List (Nat × Instr) := [(2, .iload_n 2), (3, .iload_n 1)]
theorem bX0_pass_2_ok : ∀ q ∈ bX0_pass_2, decode mX0_pass.2.1 q.1 = .ok (q.2, aLn q.2) := by decide +kernel
def bX0_pass_7 : List (Nat × Instr) := [(7, .aload_n 0)]
theorem bX0_pass_7_ok : ∀ q ∈ bX0_pass_7, decode mX0_pass.2.1 q.1 = .ok (q.2, aLn q.2) := by decide +kernel
def bX0_pass_11 : List (Nat × Instr) := [(11, .iinc 2 1), (14, .goto (-12))]
theorem bX0_pass_11_ok : ∀ q ∈ bX0_pass_11, decode mX0_pass.2.1 q.1 = .ok (q.2, aLn q.2) := by decide +kernel
theorem dX0_pass_4 : decode mX0_pass.2.1 4 = .ok (.if_icmp .ge 13, 3) := by decide +kernel
theorem dX0_pass_8 : decode mX0_pass.2.1 8 = .ok (.invokevirtual 63, 3) := by decide +kernel
theorem dX0_pass_17 : decode mX0_pass.2.1 17 = .ok (.return_, 1) := by decide +kernel
def bX0_oneDay_0 : List (Nat × Instr) := [(0, .aload_n 0), (1, .dup), (2, .getfield 15), (5, .iconst 1), (6, .iadd), (7, .putfield 15), (10, .aload_n 0), (11, .iconst 0), (12, .putfield 21), (15, .iconst 0), (16, .istore_n 1)]
theorem bX0_oneDay_0_ok : ∀ q ∈ bX0_oneDay_0, decode mX0_oneDay.2.1 q.1 = .ok (q.2, aLn q.2) := by decide +kernel
def bX0_oneDay_17 : List (Nat × Instr) := [(17, .iload_n 1), (18, .aload_n 0), (19, .getfield 9)]
theorem bX0_oneDay_17_ok : ∀ q ∈ bX0_oneDay_17, decode mX0_oneDay.2.1 q.1 = .ok (q.2, aLn q.2) := by decide +kernel
def bX0_oneDay_25 : List (Nat × Instr) := [(25, .aload_n 0), (26, .getfield 37), (29, .iload_n 1), (30, .iaload), (31, .iconst (-1))]
theorem bX0_oneDay_25_ok : ∀ q ∈ bX0_oneDay_25, decode mX0_oneDay.2.1 q.1 = .ok (q.2, aLn q.2) := by decide +kernel
def bX0_oneDay_35 : List (Nat × Instr) := [(35, .aload_n 0), (36, .getfield 31), (39, .iload_n 1), (40, .iconst 0), (41, .aload_n 0), (42, .getfield 31), (45, .iload_n 1), (46, .iaload), (47, .aload_n 0), (48, .getfield 24), (51, .iload_n 1), (52, .iaload), (53, .aload_n 0), (54, .getfield 28), (57, .iload_n 1), (58, .iaload)]
theorem bX0_oneDay_35_ok : ∀ q ∈ bX0_oneDay_35, decode mX0_oneDay.2.1 q.1 = .ok (q.2, aLn q.2) := by decide +kernel
def bX0_oneDay_62 : List (Nat × Instr) := [(62, .isub)]
theorem bX0_oneDay_62_ok : ∀ q ∈ bX0_oneDay_62, decode mX0_oneDay.2.1 q.1 = .ok (q.2, aLn q.2) := by decide +kernel
def bX0_oneDay_66 : List (Nat × Instr) := [(66, .iastore), (67, .goto 26)]
theorem bX0_oneDay_66_ok : ∀ q ∈ bX0_oneDay_66, decode mX0_oneDay.2.1 q.1 = .ok (q.2, aLn q.2) := by decide +kernel
def bX0_oneDay_70 : List (Nat × Instr) := [(70, .aload_n 0), (71, .getfield 31), (74, .iload_n 1), (75, .bipush 99), (77, .aload_n 0), (78, .getfield 31), (81, .iload_n 1), (82, .iaload), (83, .aload_n 0), (84, .iload_n 1)]
theorem bX0_oneDay_70_ok : ∀ q ∈ bX0_oneDay_70, decode mX0_oneDay.2.1 q.1 = .ok (q.2, aLn q.2) := by decide +kernel
def bX0_oneDay_88 : List (Nat × Instr) := [(88, .iadd)]
theorem bX0_oneDay_88_ok : ∀ q ∈ bX0_oneDay_88, decode mX0_oneDay.2.1 q.1 = .ok (q.2, aLn q.2) := by decide +kernel
def bX0_oneDay_92 : List (Nat × Instr) := [(92, .iastore)]
theorem bX0_oneDay_92_ok : ∀ q ∈ bX0_oneDay_92, decode mX0_oneDay.2.1 q.1 = .ok (q.2, aLn q.2) := by decide +kernel
def bX0_oneDay_93 : List (Nat × Instr) := [(93, .iinc 1 1), (96, .goto (-79))]
theorem bX0_oneDay_93_ok : ∀ q ∈ bX0_oneDay_93, decode mX0_oneDay.2.1 q.1 = .ok (q.2, aLn q.2) := by decide +kernel
def bX0_oneDay_99 : List (Nat × Instr) := [(99, .iconst 0), (100, .istore_n 1)]
theorem bX0_oneDay_99_ok : ∀ q ∈ bX0_oneDay_99, decode mX0_oneDay.2.1 q.1 = .ok (q.2, aLn q.2) := by decide +kernel
def bX0_oneDay_101 : List (Nat × Instr) := [(101, .iload_n 1), (102, .iconst 5)]
theorem bX0_oneDay_101_ok : ∀ q ∈ bX0_oneDay_101, decode mX0_oneDay.2.1 q.1 = .ok (q.2, aLn q.2) := by decide +kernel
def bX0_oneDay_106 : List (Nat × Instr) := [(106, .aload_n 0), (107, .getfield 43), (110, .iload_n 1), (111, .iaload), (112, .istore_n 2), (113, .aload_n 0), (114, .iload_n 2)]
theorem bX0_oneDay_106_ok : ∀ q ∈ bX0_oneDay_106, decode mX0_oneDay.2.1 q.1 = .ok (q.2, aLn q.2) := by decide +kernel
def bX0_oneDay_121 : List (Nat × Instr) := [(121, .aload_n 0), (122, .getfield 31), (125, .iload_n 2), (126, .iaload), (127, .aload_n 0), (128, .iload_n 2)]
theorem bX0_oneDay_121_ok : ∀ q ∈ bX0_oneDay_121, decode mX0_oneDay.2.1 q.1 = .ok (q.2, aLn q.2) := by decide +kernel
def bX0_oneDay_135 : List (Nat × Instr) := [(135, .aload_n 0), (136, .iload_n 1), (137, .iload_n 2)]
theorem bX0_oneDay_135_ok : ∀ q ∈ bX0_oneDay_135, decode mX0_oneDay.2.1 q.1 = .ok (q.2, aLn q.2) := by decide +kernel
def bX0_oneDay_141 : List (Nat × Instr) := [(141, .iinc 1 1), (144, .goto (-43))]
theorem bX0_oneDay_141_ok : ∀ q ∈ bX0_oneDay_141, decode mX0_oneDay.2.1 q.1 = .ok (q.2, aLn q.2) := by decide +kernel
theorem dX0_oneDay_22 : decode mX0_oneDay.2.1 22 = .ok (.if_icmp .ge 77, 3) := by decide +kernel
theorem dX0_oneDay_32 : decode mX0_oneDay.2.1 32 = .ok (.if_icmp .ne 38, 3) := by decide +kernel
theorem dX0_oneDay_59 : decode mX0_oneDay.2.1 59 = .ok (.invokestatic 66, 3) := by decide +kernel
theorem dX0_oneDay_63 : decode mX0_oneDay.2.1 63 = .ok (.invokestatic 69, 3) := by decide +kernel
theorem dX0_oneDay_85 : decode mX0_oneDay.2.1 85 = .ok (.invokevirtual 74, 3) := by decide +kernel
theorem dX0_oneDay_89 : decode mX0_oneDay.2.1 89 = .ok (.invokestatic 78, 3) := by decide +kernel
theorem dX0_oneDay_103 : decode mX0_oneDay.2.1 103 = .ok (.if_icmp .ge 44, 3) := by decide +kernel
theorem dX0_oneDay_115 : decode mX0_oneDay.2.1 115 = .ok (.invokevirtual 50, 3) := by decide +kernel
theorem dX0_oneDay_118 : decode mX0_oneDay.2.1 118 = .ok (.ifCond .eq 23, 3) := by decide +kernel
theorem dX0_oneDay_129 : decode mX0_oneDay.2.1 129 = .ok (.invokevirtual 81, 3) := by decide +kernel
theorem dX0_oneDay_132 : decode mX0_oneDay.2.1 132 = .ok (.if_icmp .lt 9, 3) := by decide +kernel
theorem dX0_oneDay_138 : decode mX0_oneDay.2.1 138 = .ok (.invokevirtual 84, 3) := by decide +kernel
theorem dX0_oneDay_147 : decode mX0_oneDay.2.1 147 = .ok (.return_, 1) := by decide +kernel
def bX0_showing_0 : List (Nat × Instr) := [(0, .aload_n 0), (1, .getfield 37), (4, .iload_n 1), (5, .iaload), (6, .istore_n 2), (7, .iload_n 2)]
theorem bX0_showing_0_ok : ∀ q ∈ bX0_showing_0, decode mX0_showing.2.1 q.1 = .ok (q.2, aLn q.2) := by decide +kernel
def bX0_showing_14 : List (Nat × Instr) := [(14, .iconst 0)]
theorem bX0_showing_14_ok : ∀ q ∈ bX0_showing_14, decode mX0_showing.2.1 q.1 = .ok (q.2, aLn q.2) := by decide +kernel
def bX0_showing_16 : List (Nat × Instr) := [(16, .aload_n 0), (17, .getfield 24), (20, .iload_n 1), (21, .iaload), (22, .aload_n 0), (23, .getfield 28), (26, .iload_n 1), (27, .iaload), (28, .aload_n 0), (29, .getfield 40), (32, .iload_n 2), (33, .iaload), (34, .aload_n 0), (35, .getfield 15)]
theorem bX0_showing_16_ok : ∀ q ∈ bX0_showing_16, decode mX0_showing.2.1 q.1 = .ok (q.2, aLn q.2) := by decide +kernel
def bX0_showing_41 : List (Nat × Instr) := [(41, .istore_n 3), (42, .aload_n 0), (43, .aload_n 0), (44, .getfield 40), (47, .iload_n 2), (48, .iaload)]
theorem bX0_showing_41_ok : ∀ q ∈ bX0_showing_41, decode mX0_showing.2.1 q.1 = .ok (q.2, aLn q.2) := by decide +kernel
def bX0_showing_52 : List (Nat × Instr) := [(52, .iconst 1)]
theorem bX0_showing_52_ok : ∀ q ∈ bX0_showing_52, decode mX0_showing.2.1 q.1 = .ok (q.2, aLn q.2) := by decide +kernel
def bX0_showing_56 : List (Nat × Instr) := [(56, .iload_n 3), (57, .iconst 2), (58, .idiv), (59, .goto 4)]
theorem bX0_showing_56_ok : ∀ q ∈ bX0_showing_56, decode mX0_showing.2.1 q.1 = .ok (q.2, aLn q.2) := by decide +kernel
def bX0_showing_62 : List (Nat × Instr) := [(62, .iload_n 3)]
theorem bX0_showing_62_ok : ∀ q ∈ bX0_showing_62, decode mX0_showing.2.1 q.1 = .ok (q.2, aLn q.2) := by decide +kernel
theorem dX0_showing_8 : decode mX0_showing.2.1 8 = .ok (.invokestatic 46, 3) := by decide +kernel
theorem dX0_showing_11 : decode mX0_showing.2.1 11 = .ok (.ifCond .ne 5, 3) := by decide +kernel
theorem dX0_showing_15 : decode mX0_showing.2.1 15 = .ok (.ireturn, 1) := by decide +kernel
theorem dX0_showing_38 : decode mX0_showing.2.1 38 = .ok (.invokestatic 88, 3) := by decide +kernel
theorem dX0_showing_49 : decode mX0_showing.2.1 49 = .ok (.invokevirtual 92, 3) := by decide +kernel
theorem dX0_showing_53 : decode mX0_showing.2.1 53 = .ok (.if_icmp .le 9, 3) := by decide +kernel
theorem dX0_showing_63 : decode mX0_showing.2.1 63 = .ok (.ireturn, 1) := by decide +kernel
def bX0_fall_0 : List (Nat × Instr) := [(0, .aload_n 0), (1, .dup), (2, .getfield 21), (5, .iconst 1), (6, .iadd), (7, .putfield 21), (10, .aload_n 0), (11, .sipush 999), (14, .aload_n 0), (15, .getfield 18), (18, .iconst 1), (19, .iadd)]
theorem bX0_fall_0_ok : ∀ q ∈ bX0_fall_0, decode mX0_fall.2.1 q.1 = .ok (q.2, aLn q.2) := by decide +kernel
def bX0_fall_23 : List (Nat × Instr) := [(23, .putfield 18), (26, .aload_n 0), (27, .iload_n 1)]
theorem bX0_fall_23_ok : ∀ q ∈ bX0_fall_23, decode mX0_fall.2.1 q.1 = .ok (q.2, aLn q.2) := by decide +kernel
def bX0_fall_31 : List (Nat × Instr) := [(31, .aload_n 0), (32, .getfield 34), (35, .iload_n 2), (36, .iaload), (37, .istore_n 3), (38, .aload_n 0), (39, .iload_n 3)]
theorem bX0_fall_31_ok : ∀ q ∈ bX0_fall_31, decode mX0_fall.2.1 q.1 = .ok (q.2, aLn q.2) := by decide +kernel
def bX0_fall_46 : List (Nat × Instr) := [(46, .aload_n 0), (47, .getfield 37), (50, .iload_n 3), (51, .iaload), (52, .iconst (-1))]
theorem bX0_fall_46_ok : ∀ q ∈ bX0_fall_46, decode mX0_fall.2.1 q.1 = .ok (q.2, aLn q.2) := by decide +kernel
def bX0_fall_56 : List (Nat × Instr) := [(56, .aload_n 0), (57, .getfield 31), (60, .iload_n 3), (61, .iaload), (62, .aload_n 0), (63, .iload_n 3)]
theorem bX0_fall_56_ok : ∀ q ∈ bX0_fall_56, decode mX0_fall.2.1 q.1 = .ok (q.2, aLn q.2) := by decide +kernel
def bX0_fall_70 : List (Nat × Instr) := [(70, .aload_n 0), (71, .getfield 43), (74, .iload_n 1), (75, .iload_n 3), (76, .iastore), (77, .aload_n 0), (78, .getfield 37), (81, .iload_n 3), (82, .iload_n 1), (83, .iastore)]
theorem bX0_fall_70_ok : ∀ q ∈ bX0_fall_70, decode mX0_fall.2.1 q.1 = .ok (q.2, aLn q.2) := by decide +kernel
theorem dX0_fall_20 : decode mX0_fall.2.1 20 = .ok (.invokestatic 78, 3) := by decide +kernel
theorem dX0_fall_28 : decode mX0_fall.2.1 28 = .ok (.invokevirtual 53, 3) := by decide +kernel
theorem dX0_fall_40 : decode mX0_fall.2.1 40 = .ok (.invokevirtual 50, 3) := by decide +kernel
theorem dX0_fall_43 : decode mX0_fall.2.1 43 = .ok (.ifCond .eq 41, 3) := by decide +kernel
theorem dX0_fall_53 : decode mX0_fall.2.1 53 = .ok (.if_icmp .ne 31, 3) := by decide +kernel
theorem dX0_fall_64 : decode mX0_fall.2.1 64 = .ok (.invokevirtual 81, 3) := by decide +kernel
theorem dX0_fall_67 : decode mX0_fall.2.1 67 = .ok (.if_icmp .ge 17, 3) := by decide +kernel
theorem dX0_fall_84 : decode mX0_fall.2.1 84 = .ok (.return_, 1) := by decide +kernel
def bX0_scandal_0 : List (Nat × Instr) := [(0, .iconst 0), (1, .istore_n 1)]
theorem bX0_scandal_0_ok : ∀ q ∈ bX0_scandal_0, decode mX0_scandal.2.1 q.1 = .ok (q.2, aLn q.2) := by decide +kernel
def bX0_scandal_2 : List (Nat × Instr) := [(2, .iload_n 1), (3, .aload_n 0), (4, .getfield 9)]
theorem bX0_scandal_2_ok : ∀ q ∈ bX0_scandal_2, decode mX0_scandal.2.1 q.1 = .ok (q.2, aLn q.2) := by decide +kernel
def bX0_scandal_10 : List (Nat × Instr) := [(10, .aload_n 0), (11, .getfield 37), (14, .iload_n 1), (15, .iaload), (16, .iconst (-1))]
theorem bX0_scandal_10_ok : ∀ q ∈ bX0_scandal_10, decode mX0_scandal.2.1 q.1 = .ok (q.2, aLn q.2) := by decide +kernel
def bX0_scandal_20 : List (Nat × Instr) := [(20, .aload_n 0), (21, .getfield 31), (24, .iload_n 1), (25, .bipush 99), (27, .aload_n 0), (28, .getfield 31), (31, .iload_n 1), (32, .iaload), (33, .iconst 5), (34, .iadd)]
theorem bX0_scandal_20_ok : ∀ q ∈ bX0_scandal_20, decode mX0_scandal.2.1 q.1 = .ok (q.2, aLn q.2) := by decide +kernel
def bX0_scandal_38 : List (Nat × Instr) := [(38, .iastore)]
theorem bX0_scandal_38_ok : ∀ q ∈ bX0_scandal_38, decode mX0_scandal.2.1 q.1 = .ok (q.2, aLn q.2) := by decide +kernel
def bX0_scandal_39 : List (Nat × Instr) := [(39, .iinc 1 1), (42, .goto (-40))]
theorem bX0_scandal_39_ok : ∀ q ∈ bX0_scandal_39, decode mX0_scandal.2.1 q.1 = .ok (q.2, aLn q.2) := by decide +kernel
theorem dX0_scandal_7 : decode mX0_scandal.2.1 7 = .ok (.if_icmp .ge 38, 3) := by decide +kernel
theorem dX0_scandal_17 : decode mX0_scandal.2.1 17 = .ok (.if_icmp .eq 22, 3) := by decide +kernel
theorem dX0_scandal_35 : decode mX0_scandal.2.1 35 = .ok (.invokestatic 78, 3) := by decide +kernel
theorem dX0_scandal_45 : decode mX0_scandal.2.1 45 = .ok (.return_, 1) := by decide +kernel
def bX0_lasting_0 : List (Nat × Instr) := [(0, .iload_n 1)]
theorem bX0_lasting_0_ok : ∀ q ∈ bX0_lasting_0, decode mX0_lasting.2.1 q.1 = .ok (q.2, aLn q.2) := by decide +kernel
def bX0_lasting_7 : List (Nat × Instr) := [(7, .aload_n 0), (8, .iload_n 2)]
theorem bX0_lasting_7_ok : ∀ q ∈ bX0_lasting_7, decode mX0_lasting.2.1 q.1 = .ok (q.2, aLn q.2) := by decide +kernel
def bX0_lasting_15 : List (Nat × Instr) := [(15, .iconst 0)]
theorem bX0_lasting_15_ok : ∀ q ∈ bX0_lasting_15, decode mX0_lasting.2.1 q.1 = .ok (q.2, aLn q.2) := by decide +kernel
def bX0_lasting_17 : List (Nat × Instr) := [(17, .aload_n 0), (18, .getfield 31), (21, .iload_n 2), (22, .iaload), (23, .istore_n 3), (24, .iconst 1), (25, .istore 4)]
theorem bX0_lasting_17_ok : ∀ q ∈ bX0_lasting_17, decode mX0_lasting.2.1 q.1 = .ok (q.2, aLn q.2) := by decide +kernel
def bX0_lasting_27 : List (Nat × Instr) := [(27, .iload 4), (29, .bipush 60)]
theorem bX0_lasting_27_ok : ∀ q ∈ bX0_lasting_27, decode mX0_lasting.2.1 q.1 = .ok (q.2, aLn q.2) := by decide +kernel
def bX0_lasting_34 : List (Nat × Instr) := [(34, .bipush 99), (36, .iload_n 3), (37, .aload_n 0), (38, .getfield 24), (41, .iload_n 2), (42, .iaload), (43, .aload_n 0), (44, .getfield 28), (47, .iload_n 2), (48, .iaload), (49, .aload_n 0), (50, .getfield 40), (53, .iload_n 1), (54, .iaload), (55, .aload_n 0), (56, .getfield 15), (59, .iload 4), (61, .iadd)]
theorem bX0_lasting_34_ok : ∀ q ∈ bX0_lasting_34, decode mX0_lasting.2.1 q.1 = .ok (q.2, aLn q.2) := by decide +kernel
def bX0_lasting_65 : List (Nat × Instr) := [(65, .iadd)]
theorem bX0_lasting_65_ok : ∀ q ∈ bX0_lasting_65, decode mX0_lasting.2.1 q.1 = .ok (q.2, aLn q.2) := by decide +kernel
def bX0_lasting_69 : List (Nat × Instr) := [(69, .istore_n 3), (70, .iload_n 3), (71, .aload_n 0), (72, .iload_n 2)]
theorem bX0_lasting_69_ok : ∀ q ∈ bX0_lasting_69, decode mX0_lasting.2.1 q.1 = .ok (q.2, aLn q.2) := by decide +kernel
def bX0_lasting_79 : List (Nat × Instr) := [(79, .iload 4)]
theorem bX0_lasting_79_ok : ∀ q ∈ bX0_lasting_79, decode mX0_lasting.2.1 q.1 = .ok (q.2, aLn q.2) := by decide +kernel
def bX0_lasting_82 : List (Nat × Instr) := [(82, .iinc 4 1), (85, .goto (-58))]
theorem bX0_lasting_82_ok : ∀ q ∈ bX0_lasting_82, decode mX0_lasting.2.1 q.1 = .ok (q.2, aLn q.2) := by decide +kernel
def bX0_lasting_88 : List (Nat × Instr) := [(88, .bipush 60)]
theorem bX0_lasting_88_ok : ∀ q ∈ bX0_lasting_88, decode mX0_lasting.2.1 q.1 = .ok (q.2, aLn q.2) := by decide +kernel
theorem dX0_lasting_1 : decode mX0_lasting.2.1 1 = .ok (.invokestatic 46, 3) := by decide +kernel
theorem dX0_lasting_4 : decode mX0_lasting.2.1 4 = .ok (.ifCond .eq 11, 3) := by decide +kernel
theorem dX0_lasting_9 : decode mX0_lasting.2.1 9 = .ok (.invokevirtual 50, 3) := by decide +kernel
theorem dX0_lasting_12 : decode mX0_lasting.2.1 12 = .ok (.ifCond .ne 5, 3) := by decide +kernel
theorem dX0_lasting_16 : decode mX0_lasting.2.1 16 = .ok (.ireturn, 1) := by decide +kernel
theorem dX0_lasting_31 : decode mX0_lasting.2.1 31 = .ok (.if_icmp .ge 57, 3) := by decide +kernel
theorem dX0_lasting_62 : decode mX0_lasting.2.1 62 = .ok (.invokestatic 88, 3) := by decide +kernel
theorem dX0_lasting_66 : decode mX0_lasting.2.1 66 = .ok (.invokestatic 78, 3) := by decide +kernel
theorem dX0_lasting_73 : decode mX0_lasting.2.1 73 = .ok (.invokevirtual 81, 3) := by decide +kernel
theorem dX0_lasting_76 : decode mX0_lasting.2.1 76 = .ok (.if_icmp .lt 6, 3) := by decide +kernel
theorem dX0_lasting_81 : decode mX0_lasting.2.1 81 = .ok (.ireturn, 1) := by decide +kernel
theorem dX0_lasting_90 : decode mX0_lasting.2.1 90 = .ok (.ireturn, 1) := by decide +kernel
def bX0_heldIn_0 : List (Nat × Instr) := [(0, .iconst 0), (1, .istore_n 2), (2, .iconst 0), (3, .istore_n 3)]
theorem bX0_heldIn_0_ok : ∀ q ∈ bX0_heldIn_0, decode mX0_heldIn.2.1 q.1 = .ok (q.2, aLn q.2) := by decide +kernel
def bX0_heldIn_4 : List (Nat × Instr) := [(4, .iload_n 3), (5, .iconst 5)]
theorem bX0_heldIn_4_ok : ∀ q ∈ bX0_heldIn_4, decode mX0_heldIn.2.1 q.1 = .ok (q.2, aLn q.2) := by decide +kernel
def bX0_heldIn_9 : List (Nat × Instr) := [(9, .aload_n 0), (10, .getfield 43), (13, .iload_n 3), (14, .iaload), (15, .iconst (-1))]
theorem bX0_heldIn_9_ok : ∀ q ∈ bX0_heldIn_9, decode mX0_heldIn.2.1 q.1 = .ok (q.2, aLn q.2) := by decide +kernel
def bX0_heldIn_19 : List (Nat × Instr) := [(19, .aload_n 0), (20, .getfield 40), (23, .iload_n 3), (24, .iaload), (25, .iload_n 1)]
theorem bX0_heldIn_19_ok : ∀ q ∈ bX0_heldIn_19, decode mX0_heldIn.2.1 q.1 = .ok (q.2, aLn q.2) := by decide +kernel
def bX0_heldIn_29 : List (Nat × Instr) := [(29, .iinc 2 1)]
theorem bX0_heldIn_29_ok : ∀ q ∈ bX0_heldIn_29, decode mX0_heldIn.2.1 q.1 = .ok (q.2, aLn q.2) := by decide +kernel
def bX0_heldIn_32 : List (Nat × Instr) := [(32, .iinc 3 1), (35, .goto (-31))]
theorem bX0_heldIn_32_ok : ∀ q ∈ bX0_heldIn_32, decode mX0_heldIn.2.1 q.1 = .ok (q.2, aLn q.2) := by decide +kernel
def bX0_heldIn_38 : List (Nat × Instr) := [(38, .iload_n 2)]
theorem bX0_heldIn_38_ok : ∀ q ∈ bX0_heldIn_38, decode mX0_heldIn.2.1 q.1 = .ok (q.2, aLn q.2) := by decide +kernel
theorem dX0_heldIn_6 : decode mX0_heldIn.2.1 6 = .ok (.if_icmp .ge 32, 3) := by decide +kernel
theorem dX0_heldIn_16 : decode mX0_heldIn.2.1 16 = .ok (.if_icmp .eq 16, 3) := by decide +kernel
theorem dX0_heldIn_26 : decode mX0_heldIn.2.1 26 = .ok (.if_icmp .ne 6, 3) := by decide +kernel
theorem dX0_heldIn_39 : decode mX0_heldIn.2.1 39 = .ok (.ireturn, 1) := by decide +kernel
def bX0_heldCount_0 : List (Nat × Instr) := [(0, .aload_n 0)]
theorem bX0_heldCount_0_ok : ∀ q ∈ bX0_heldCount_0, decode mX0_heldCount.2.1 q.1 = .ok (q.2, aLn q.2) := by decide +kernel
theorem dX0_heldCount_1 : decode mX0_heldCount.2.1 1 = .ok (.invokevirtual 95, 3) := by decide +kernel
theorem dX0_heldCount_4 : decode mX0_heldCount.2.1 4 = .ok (.invokestatic 99, 3) := by decide +kernel
theorem dX0_heldCount_7 : decode mX0_heldCount.2.1 7 = .ok (.ireturn, 1) := by decide +kernel
def bX0_heldBits_0 : List (Nat × Instr) := [(0, .iconst 0), (1, .istore_n 1), (2, .iconst 0), (3, .istore_n 2)]
theorem bX0_heldBits_0_ok : ∀ q ∈ bX0_heldBits_0, decode mX0_heldBits.2.1 q.1 = .ok (q.2, aLn q.2) := by decide +kernel
def bX0_heldBits_4 : List (Nat × Instr) := [(4, .iload_n 2), (5, .iconst 5)]
theorem bX0_heldBits_4_ok : ∀ q ∈ bX0_heldBits_4, decode mX0_heldBits.2.1 q.1 = .ok (q.2, aLn q.2) := by decide +kernel
def bX0_heldBits_9 : List (Nat × Instr) := [(9, .aload_n 0), (10, .getfield 43), (13, .iload_n 2), (14, .iaload), (15, .iconst (-1))]
theorem bX0_heldBits_9_ok : ∀ q ∈ bX0_heldBits_9, decode mX0_heldBits.2.1 q.1 = .ok (q.2, aLn q.2) := by decide +kernel
def bX0_heldBits_19 : List (Nat × Instr) := [(19, .iload_n 1), (20, .iconst 1), (21, .iload_n 2), (22, .ishl), (23, .ior), (24, .istore_n 1)]
theorem bX0_heldBits_19_ok : ∀ q ∈ bX0_heldBits_19, decode mX0_heldBits.2.1 q.1 = .ok (q.2, aLn q.2) := by decide +kernel
def bX0_heldBits_25 : List (Nat × Instr) := [(25, .iinc 2 1), (28, .goto (-24))]
theorem bX0_heldBits_25_ok : ∀ q ∈ bX0_heldBits_25, decode mX0_heldBits.2.1 q.1 = .ok (q.2, aLn q.2) := by decide +kernel
def bX0_heldBits_31 : List (Nat × Instr) := [(31, .iload_n 1)]
theorem bX0_heldBits_31_ok : ∀ q ∈ bX0_heldBits_31, decode mX0_heldBits.2.1 q.1 = .ok (q.2, aLn q.2) := by decide +kernel
theorem dX0_heldBits_6 : decode mX0_heldBits.2.1 6 = .ok (.if_icmp .ge 25, 3) := by decide +kernel
theorem dX0_heldBits_16 : decode mX0_heldBits.2.1 16 = .ok (.if_icmp .eq 9, 3) := by decide +kernel
theorem dX0_heldBits_32 : decode mX0_heldBits.2.1 32 = .ok (.ireturn, 1) := by decide +kernel
def bX0_knownOfAll_0 : List (Nat × Instr) := [(0, .iconst 0), (1, .istore_n 1), (2, .iconst 0), (3, .istore_n 2)]
theorem bX0_knownOfAll_0_ok : ∀ q ∈ bX0_knownOfAll_0, decode mX0_knownOfAll.2.1 q.1 = .ok (q.2, aLn q.2) := by decide +kernel
def bX0_knownOfAll_4 : List (Nat × Instr) := [(4, .iload_n 2), (5, .aload_n 0), (6, .getfield 9)]
theorem bX0_knownOfAll_4_ok : ∀ q ∈ bX0_knownOfAll_4, decode mX0_knownOfAll.2.1 q.1 = .ok (q.2, aLn q.2) := by decide +kernel
def bX0_knownOfAll_12 : List (Nat × Instr) := [(12, .iload_n 1), (13, .aload_n 0), (14, .getfield 31), (17, .iload_n 2), (18, .iaload), (19, .iadd), (20, .istore_n 1), (21, .iinc 2 1), (24, .goto (-20))]
theorem bX0_knownOfAll_12_ok : ∀ q ∈ bX0_knownOfAll_12, decode mX0_knownOfAll.2.1 q.1 = .ok (q.2, aLn q.2) := by decide +kernel
def bX0_knownOfAll_27 : List (Nat × Instr) := [(27, .iload_n 1)]
theorem bX0_knownOfAll_27_ok : ∀ q ∈ bX0_knownOfAll_27, decode mX0_knownOfAll.2.1 q.1 = .ok (q.2, aLn q.2) := by decide +kernel
theorem dX0_knownOfAll_9 : decode mX0_knownOfAll.2.1 9 = .ok (.if_icmp .ge 18, 3) := by decide +kernel
theorem dX0_knownOfAll_28 : decode mX0_knownOfAll.2.1 28 = .ok (.ireturn, 1) := by decide +kernel
def bX0_chain_0 : List (Nat × Instr) := [(0, .iconst 0), (1, .istore_n 2), (2, .iload_n 1), (3, .istore_n 3), (4, .iconst 0), (5, .istore 4)]
theorem bX0_chain_0_ok : ∀ q ∈ bX0_chain_0, decode mX0_chain.2.1 q.1 = .ok (q.2, aLn q.2) := by decide +kernel
def bX0_chain_7 : List (Nat × Instr) := [(7, .iload 4), (9, .bipush 8)]
theorem bX0_chain_7_ok : ∀ q ∈ bX0_chain_7, decode mX0_chain.2.1 q.1 = .ok (q.2, aLn q.2) := by decide +kernel
def bX0_chain_14 : List (Nat × Instr) := [(14, .aload_n 0), (15, .iload_n 3)]
theorem bX0_chain_14_ok : ∀ q ∈ bX0_chain_14, decode mX0_chain.2.1 q.1 = .ok (q.2, aLn q.2) := by decide +kernel
def bX0_chain_22 : List (Nat × Instr) := [(22, .iload_n 2), (23, .iload_n 3), (24, .ishr), (25, .iconst 1), (26, .iand)]
theorem bX0_chain_22_ok : ∀ q ∈ bX0_chain_22, decode mX0_chain.2.1 q.1 = .ok (q.2, aLn q.2) := by decide +kernel
def bX0_chain_30 : List (Nat × Instr) := [(30, .iload_n 2), (31, .iconst 1), (32, .iload_n 3), (33, .ishl), (34, .ior), (35, .istore_n 2), (36, .aload_n 0), (37, .getfield 34), (40, .iload_n 3), (41, .iaload), (42, .istore_n 3), (43, .iinc 4 1), (46, .goto (-39))]
theorem bX0_chain_30_ok : ∀ q ∈ bX0_chain_30, decode mX0_chain.2.1 q.1 = .ok (q.2, aLn q.2) := by decide +kernel
def bX0_chain_49 : List (Nat × Instr) := [(49, .iload_n 2)]
theorem bX0_chain_49_ok : ∀ q ∈ bX0_chain_49, decode mX0_chain.2.1 q.1 = .ok (q.2, aLn q.2) := by decide +kernel
theorem dX0_chain_11 : decode mX0_chain.2.1 11 = .ok (.if_icmp .ge 38, 3) := by decide +kernel
theorem dX0_chain_16 : decode mX0_chain.2.1 16 = .ok (.invokevirtual 50, 3) := by decide +kernel
theorem dX0_chain_19 : decode mX0_chain.2.1 19 = .ok (.ifCond .eq 30, 3) := by decide +kernel
theorem dX0_chain_27 : decode mX0_chain.2.1 27 = .ok (.ifCond .ne 22, 3) := by decide +kernel
theorem dX0_chain_50 : decode mX0_chain.2.1 50 = .ok (.invokestatic 99, 3) := by decide +kernel
theorem dX0_chain_53 : decode mX0_chain.2.1 53 = .ok (.ireturn, 1) := by decide +kernel
def bX0_plainBits_0 : List (Nat × Instr) := [(0, .iconst 0), (1, .istore_n 1), (2, .iconst 0), (3, .istore_n 2)]
theorem bX0_plainBits_0_ok : ∀ q ∈ bX0_plainBits_0, decode mX0_plainBits.2.1 q.1 = .ok (q.2, aLn q.2) := by decide +kernel
def bX0_plainBits_4 : List (Nat × Instr) := [(4, .iload_n 2), (5, .aload_n 0), (6, .getfield 9)]
theorem bX0_plainBits_4_ok : ∀ q ∈ bX0_plainBits_4, decode mX0_plainBits.2.1 q.1 = .ok (q.2, aLn q.2) := by decide +kernel
def bX0_plainBits_12 : List (Nat × Instr) := [(12, .aload_n 0), (13, .iload_n 2)]
theorem bX0_plainBits_12_ok : ∀ q ∈ bX0_plainBits_12, decode mX0_plainBits.2.1 q.1 = .ok (q.2, aLn q.2) := by decide +kernel
def bX0_plainBits_20 : List (Nat × Instr) := [(20, .iload_n 1), (21, .iconst 1), (22, .iload_n 2), (23, .ishl), (24, .ior), (25, .istore_n 1)]
theorem bX0_plainBits_20_ok : ∀ q ∈ bX0_plainBits_20, decode mX0_plainBits.2.1 q.1 = .ok (q.2, aLn q.2) := by decide +kernel
def bX0_plainBits_26 : List (Nat × Instr) := [(26, .iinc 2 1), (29, .goto (-25))]
theorem bX0_plainBits_26_ok : ∀ q ∈ bX0_plainBits_26, decode mX0_plainBits.2.1 q.1 = .ok (q.2, aLn q.2) := by decide +kernel
def bX0_plainBits_32 : List (Nat × Instr) := [(32, .iload_n 1)]
theorem bX0_plainBits_32_ok : ∀ q ∈ bX0_plainBits_32, decode mX0_plainBits.2.1 q.1 = .ok (q.2, aLn q.2) := by decide +kernel
theorem dX0_plainBits_9 : decode mX0_plainBits.2.1 9 = .ok (.if_icmp .ge 23, 3) := by decide +kernel
theorem dX0_plainBits_14 : decode mX0_plainBits.2.1 14 = .ok (.invokevirtual 104, 3) := by decide +kernel
theorem dX0_plainBits_17 : decode mX0_plainBits.2.1 17 = .ok (.ifCond .eq 9, 3) := by decide +kernel
theorem dX0_plainBits_33 : decode mX0_plainBits.2.1 33 = .ok (.ireturn, 1) := by decide +kernel
def bX0_isPlain_0 : List (Nat × Instr) := [(0, .iconst 0), (1, .istore_n 2)]
theorem bX0_isPlain_0_ok : ∀ q ∈ bX0_isPlain_0, decode mX0_isPlain.2.1 q.1 = .ok (q.2, aLn q.2) := by decide +kernel
def bX0_isPlain_2 : List (Nat × Instr) := [(2, .iload_n 2), (3, .bipush 10)]
theorem bX0_isPlain_2_ok : ∀ q ∈ bX0_isPlain_2, decode mX0_isPlain.2.1 q.1 = .ok (q.2, aLn q.2) := by decide +kernel
def bX0_isPlain_8 : List (Nat × Instr) := [(8, .aload_n 0), (9, .getfield 24), (12, .iload_n 1), (13, .iaload), (14, .aload_n 0), (15, .getfield 28), (18, .iload_n 1), (19, .iaload), (20, .iload_n 2), (21, .aload_n 0), (22, .getfield 15), (25, .iconst 1), (26, .iadd)]
theorem bX0_isPlain_8_ok : ∀ q ∈ bX0_isPlain_8, decode mX0_isPlain.2.1 q.1 = .ok (q.2, aLn q.2) := by decide +kernel
def bX0_isPlain_33 : List (Nat × Instr) := [(33, .iconst 0)]
theorem bX0_isPlain_33_ok : ∀ q ∈ bX0_isPlain_33, decode mX0_isPlain.2.1 q.1 = .ok (q.2, aLn q.2) := by decide +kernel
def bX0_isPlain_35 : List (Nat × Instr) := [(35, .iinc 2 1), (38, .goto (-36))]
theorem bX0_isPlain_35_ok : ∀ q ∈ bX0_isPlain_35, decode mX0_isPlain.2.1 q.1 = .ok (q.2, aLn q.2) := by decide +kernel
def bX0_isPlain_41 : List (Nat × Instr) := [(41, .iconst 1)]
theorem bX0_isPlain_41_ok : ∀ q ∈ bX0_isPlain_41, decode mX0_isPlain.2.1 q.1 = .ok (q.2, aLn q.2) := by decide +kernel
theorem dX0_isPlain_5 : decode mX0_isPlain.2.1 5 = .ok (.if_icmp .ge 36, 3) := by decide +kernel
theorem dX0_isPlain_27 : decode mX0_isPlain.2.1 27 = .ok (.invokestatic 88, 3) := by decide +kernel
theorem dX0_isPlain_30 : decode mX0_isPlain.2.1 30 = .ok (.ifCond .eq 5, 3) := by decide +kernel
theorem dX0_isPlain_34 : decode mX0_isPlain.2.1 34 = .ok (.ireturn, 1) := by decide +kernel
theorem dX0_isPlain_42 : decode mX0_isPlain.2.1 42 = .ok (.ireturn, 1) := by decide +kernel
def bX0_alike_0 : List (Nat × Instr) := [(0, .iconst 0), (1, .istore_n 1), (2, .iconst 0), (3, .istore_n 2)]
theorem bX0_alike_0_ok : ∀ q ∈ bX0_alike_0, decode mX0_alike.2.1 q.1 = .ok (q.2, aLn q.2) := by decide +kernel
def bX0_alike_4 : List (Nat × Instr) := [(4, .iload_n 2), (5, .iconst 5)]
theorem bX0_alike_4_ok : ∀ q ∈ bX0_alike_4, decode mX0_alike.2.1 q.1 = .ok (q.2, aLn q.2) := by decide +kernel
def bX0_alike_9 : List (Nat × Instr) := [(9, .iload_n 2), (10, .iconst 1), (11, .iadd), (12, .istore_n 3)]
theorem bX0_alike_9_ok : ∀ q ∈ bX0_alike_9, decode mX0_alike.2.1 q.1 = .ok (q.2, aLn q.2) := by decide +kernel
def bX0_alike_13 : List (Nat × Instr) := [(13, .iload_n 3), (14, .iconst 5)]
theorem bX0_alike_13_ok : ∀ q ∈ bX0_alike_13, decode mX0_alike.2.1 q.1 = .ok (q.2, aLn q.2) := by decide +kernel
def bX0_alike_18 : List (Nat × Instr) := [(18, .aload_n 0), (19, .getfield 43), (22, .iload_n 2), (23, .iaload), (24, .iconst (-1))]
theorem bX0_alike_18_ok : ∀ q ∈ bX0_alike_18, decode mX0_alike.2.1 q.1 = .ok (q.2, aLn q.2) := by decide +kernel
def bX0_alike_28 : List (Nat × Instr) := [(28, .aload_n 0), (29, .getfield 43), (32, .iload_n 3), (33, .iaload), (34, .iconst (-1))]
theorem bX0_alike_28_ok : ∀ q ∈ bX0_alike_28, decode mX0_alike.2.1 q.1 = .ok (q.2, aLn q.2) := by decide +kernel
def bX0_alike_38 : List (Nat × Instr) := [(38, .iconst 1), (39, .goto 4)]
theorem bX0_alike_38_ok : ∀ q ∈ bX0_alike_38, decode mX0_alike.2.1 q.1 = .ok (q.2, aLn q.2) := by decide +kernel
def bX0_alike_42 : List (Nat × Instr) := [(42, .iconst 0)]
theorem bX0_alike_42_ok : ∀ q ∈ bX0_alike_42, decode mX0_alike.2.1 q.1 = .ok (q.2, aLn q.2) := by decide +kernel
def bX0_alike_43 : List (Nat × Instr) := [(43, .istore 4), (45, .iload 4)]
theorem bX0_alike_43_ok : ∀ q ∈ bX0_alike_43, decode mX0_alike.2.1 q.1 = .ok (q.2, aLn q.2) := by decide +kernel
def bX0_alike_50 : List (Nat × Instr) := [(50, .aload_n 0), (51, .getfield 40), (54, .iload_n 2), (55, .iaload), (56, .aload_n 0), (57, .getfield 40), (60, .iload_n 3), (61, .iaload)]
theorem bX0_alike_50_ok : ∀ q ∈ bX0_alike_50, decode mX0_alike.2.1 q.1 = .ok (q.2, aLn q.2) := by decide +kernel
def bX0_alike_65 : List (Nat × Instr) := [(65, .iinc 1 1)]
theorem bX0_alike_65_ok : ∀ q ∈ bX0_alike_65, decode mX0_alike.2.1 q.1 = .ok (q.2, aLn q.2) := by decide +kernel
def bX0_alike_68 : List (Nat × Instr) := [(68, .iinc 3 1), (71, .goto (-58))]
theorem bX0_alike_68_ok : ∀ q ∈ bX0_alike_68, decode mX0_alike.2.1 q.1 = .ok (q.2, aLn q.2) := by decide +kernel
def bX0_alike_74 : List (Nat × Instr) := [(74, .iinc 2 1), (77, .goto (-73))]
theorem bX0_alike_74_ok : ∀ q ∈ bX0_alike_74, decode mX0_alike.2.1 q.1 = .ok (q.2, aLn q.2) := by decide +kernel
def bX0_alike_80 : List (Nat × Instr) := [(80, .iload_n 1)]
theorem bX0_alike_80_ok : ∀ q ∈ bX0_alike_80, decode mX0_alike.2.1 q.1 = .ok (q.2, aLn q.2) := by decide +kernel
theorem dX0_alike_6 : decode mX0_alike.2.1 6 = .ok (.if_icmp .ge 74, 3) := by decide +kernel
theorem dX0_alike_15 : decode mX0_alike.2.1 15 = .ok (.if_icmp .ge 59, 3) := by decide +kernel
theorem dX0_alike_25 : decode mX0_alike.2.1 25 = .ok (.if_icmp .eq 17, 3) := by decide +kernel
theorem dX0_alike_35 : decode mX0_alike.2.1 35 = .ok (.if_icmp .eq 7, 3) := by decide +kernel
theorem dX0_alike_47 : decode mX0_alike.2.1 47 = .ok (.ifCond .eq 21, 3) := by decide +kernel
theorem dX0_alike_62 : decode mX0_alike.2.1 62 = .ok (.if_icmp .ne 6, 3) := by decide +kernel
theorem dX0_alike_81 : decode mX0_alike.2.1 81 = .ok (.ireturn, 1) := by decide +kernel
def bX0_closest_0 : List (Nat × Instr) := [(0, .iconst (-1)), (1, .istore_n 1), (2, .iconst 0), (3, .istore_n 2), (4, .iconst 0), (5, .istore_n 3)]
theorem bX0_closest_0_ok : ∀ q ∈ bX0_closest_0, decode mX0_closest.2.1 q.1 = .ok (q.2, aLn q.2) := by decide +kernel
def bX0_closest_6 : List (Nat × Instr) := [(6, .iload_n 3), (7, .aload_n 0), (8, .getfield 9)]
theorem bX0_closest_6_ok : ∀ q ∈ bX0_closest_6, decode mX0_closest.2.1 q.1 = .ok (q.2, aLn q.2) := by decide +kernel
def bX0_closest_14 : List (Nat × Instr) := [(14, .aload_n 0), (15, .iload_n 3)]
theorem bX0_closest_14_ok : ∀ q ∈ bX0_closest_14, decode mX0_closest.2.1 q.1 = .ok (q.2, aLn q.2) := by decide +kernel
def bX0_closest_19 : List (Nat × Instr) := [(19, .aload_n 0), (20, .getfield 31), (23, .iload_n 3), (24, .iaload), (25, .isub), (26, .istore 4), (28, .aload_n 0), (29, .getfield 37), (32, .iload_n 3), (33, .iaload), (34, .iconst (-1))]
theorem bX0_closest_19_ok : ∀ q ∈ bX0_closest_19, decode mX0_closest.2.1 q.1 = .ok (q.2, aLn q.2) := by decide +kernel
def bX0_closest_38 : List (Nat × Instr) := [(38, .iload_n 1), (39, .iconst (-1))]
theorem bX0_closest_38_ok : ∀ q ∈ bX0_closest_38, decode mX0_closest.2.1 q.1 = .ok (q.2, aLn q.2) := by decide +kernel
def bX0_closest_43 : List (Nat × Instr) := [(43, .iload 4), (45, .iload_n 2)]
theorem bX0_closest_43_ok : ∀ q ∈ bX0_closest_43, decode mX0_closest.2.1 q.1 = .ok (q.2, aLn q.2) := by decide +kernel
def bX0_closest_49 : List (Nat × Instr) := [(49, .iload_n 3), (50, .istore_n 1), (51, .iload 4), (53, .istore_n 2)]
theorem bX0_closest_49_ok : ∀ q ∈ bX0_closest_49, decode mX0_closest.2.1 q.1 = .ok (q.2, aLn q.2) := by decide +kernel
def bX0_closest_54 : List (Nat × Instr) := [(54, .iinc 3 1), (57, .goto (-51))]
theorem bX0_closest_54_ok : ∀ q ∈ bX0_closest_54, decode mX0_closest.2.1 q.1 = .ok (q.2, aLn q.2) := by decide +kernel
def bX0_closest_60 : List (Nat × Instr) := [(60, .iload_n 1)]
theorem bX0_closest_60_ok : ∀ q ∈ bX0_closest_60, decode mX0_closest.2.1 q.1 = .ok (q.2, aLn q.2) := by decide +kernel
theorem dX0_closest_11 : decode mX0_closest.2.1 11 = .ok (.if_icmp .ge 49, 3) := by decide +kernel
theorem dX0_closest_16 : decode mX0_closest.2.1 16 = .ok (.invokevirtual 81, 3) := by decide +kernel
theorem dX0_closest_35 : decode mX0_closest.2.1 35 = .ok (.if_icmp .eq 19, 3) := by decide +kernel
theorem dX0_closest_40 : decode mX0_closest.2.1 40 = .ok (.if_icmp .eq 9, 3) := by decide +kernel
theorem dX0_closest_46 : decode mX0_closest.2.1 46 = .ok (.if_icmp .ge 8, 3) := by decide +kernel
theorem dX0_closest_61 : decode mX0_closest.2.1 61 = .ok (.ireturn, 1) := by decide +kernel
def bX1_weigh_0 : List (Nat × Instr) := [(0, .aload_n 0), (1, .bipush 8), (3, .aload_n 1), (4, .getfield 22)]
theorem bX1_weigh_0_ok : ∀ q ∈ bX1_weigh_0, decode mX1_weigh.2.1 q.1 = .ok (q.2, aLn q.2) := by decide +kernel
def bX1_weigh_10 : List (Nat × Instr) := [(10, .putfield 18), (13, .iconst 0), (14, .istore_n 2)]
theorem bX1_weigh_10_ok : ∀ q ∈ bX1_weigh_10, decode mX1_weigh.2.1 q.1 = .ok (q.2, aLn q.2) := by decide +kernel
def bX1_weigh_15 : List (Nat × Instr) := [(15, .iload_n 2), (16, .iconst 5)]
theorem bX1_weigh_15_ok : ∀ q ∈ bX1_weigh_15, decode mX1_weigh.2.1 q.1 = .ok (q.2, aLn q.2) := by decide +kernel
def bX1_weigh_20 : List (Nat × Instr) := [(20, .iconst 0), (21, .istore_n 3)]
theorem bX1_weigh_20_ok : ∀ q ∈ bX1_weigh_20, decode mX1_weigh.2.1 q.1 = .ok (q.2, aLn q.2) := by decide +kernel
def bX1_weigh_22 : List (Nat × Instr) := [(22, .iload_n 3), (23, .aload_n 0), (24, .getfield 18)]
theorem bX1_weigh_22_ok : ∀ q ∈ bX1_weigh_22, decode mX1_weigh.2.1 q.1 = .ok (q.2, aLn q.2) := by decide +kernel
def bX1_weigh_30 : List (Nat × Instr) := [(30, .aload_n 0), (31, .getfield 9), (34, .iload_n 2), (35, .bipush 8), (37, .imul), (38, .iload_n 3), (39, .iadd), (40, .aload_n 1), (41, .iload_n 2), (42, .iload_n 3)]
theorem bX1_weigh_30_ok : ∀ q ∈ bX1_weigh_30, decode mX1_weigh.2.1 q.1 = .ok (q.2, aLn q.2) := by decide +kernel
def bX1_weigh_46 : List (Nat × Instr) := [(46, .iastore), (47, .iinc 3 1), (50, .goto (-28))]
theorem bX1_weigh_46_ok : ∀ q ∈ bX1_weigh_46, decode mX1_weigh.2.1 q.1 = .ok (q.2, aLn q.2) := by decide +kernel
def bX1_weigh_53 : List (Nat × Instr) := [(53, .iinc 2 1), (56, .goto (-41))]
theorem bX1_weigh_53_ok : ∀ q ∈ bX1_weigh_53, decode mX1_weigh.2.1 q.1 = .ok (q.2, aLn q.2) := by decide +kernel
def bX1_weigh_59 : List (Nat × Instr) := [(59, .iconst 4), (60, .istore_n 2)]
theorem bX1_weigh_59_ok : ∀ q ∈ bX1_weigh_59, decode mX1_weigh.2.1 q.1 = .ok (q.2, aLn q.2) := by decide +kernel
def bX1_weigh_61 : List (Nat × Instr) := [(61, .iload_n 2)]
theorem bX1_weigh_61_ok : ∀ q ∈ bX1_weigh_61, decode mX1_weigh.2.1 q.1 = .ok (q.2, aLn q.2) := by decide +kernel
def bX1_weigh_65 : List (Nat × Instr) := [(65, .iconst 0), (66, .istore_n 3)]
theorem bX1_weigh_65_ok : ∀ q ∈ bX1_weigh_65, decode mX1_weigh.2.1 q.1 = .ok (q.2, aLn q.2) := by decide +kernel
def bX1_weigh_67 : List (Nat × Instr) := [(67, .iload_n 3), (68, .iconst 1), (69, .aload_n 0), (70, .getfield 18), (73, .ishl)]
theorem bX1_weigh_67_ok : ∀ q ∈ bX1_weigh_67, decode mX1_weigh.2.1 q.1 = .ok (q.2, aLn q.2) := by decide +kernel
def bX1_weigh_77 : List (Nat × Instr) := [(77, .aload_n 0), (78, .getfield 15), (81, .iload_n 2), (82, .sipush 256), (85, .imul), (86, .iload_n 3), (87, .iadd), (88, .aload_n 0), (89, .iload_n 2), (90, .iload_n 3)]
theorem bX1_weigh_77_ok : ∀ q ∈ bX1_weigh_77, decode mX1_weigh.2.1 q.1 = .ok (q.2, aLn q.2) := by decide +kernel
def bX1_weigh_94 : List (Nat × Instr) := [(94, .iastore), (95, .iinc 3 1), (98, .goto (-31))]
theorem bX1_weigh_94_ok : ∀ q ∈ bX1_weigh_94, decode mX1_weigh.2.1 q.1 = .ok (q.2, aLn q.2) := by decide +kernel
def bX1_weigh_101 : List (Nat × Instr) := [(101, .iinc 2 (-1)), (104, .goto (-43))]
theorem bX1_weigh_101_ok : ∀ q ∈ bX1_weigh_101, decode mX1_weigh.2.1 q.1 = .ok (q.2, aLn q.2) := by decide +kernel
theorem dX1_weigh_7 : decode mX1_weigh.2.1 7 = .ok (.invokestatic 25, 3) := by decide +kernel
theorem dX1_weigh_17 : decode mX1_weigh.2.1 17 = .ok (.if_icmp .ge 42, 3) := by decide +kernel
theorem dX1_weigh_27 : decode mX1_weigh.2.1 27 = .ok (.if_icmp .ge 26, 3) := by decide +kernel
theorem dX1_weigh_43 : decode mX1_weigh.2.1 43 = .ok (.invokevirtual 31, 3) := by decide +kernel
theorem dX1_weigh_62 : decode mX1_weigh.2.1 62 = .ok (.ifCond .lt 45, 3) := by decide +kernel
theorem dX1_weigh_74 : decode mX1_weigh.2.1 74 = .ok (.if_icmp .ge 27, 3) := by decide +kernel
theorem dX1_weigh_91 : decode mX1_weigh.2.1 91 = .ok (.invokevirtual 33, 3) := by decide +kernel
theorem dX1_weigh_107 : decode mX1_weigh.2.1 107 = .ok (.return_, 1) := by decide +kernel
def bX1_bestFrom_0 : List (Nat × Instr) := [(0, .aload_n 0), (1, .getfield 15), (4, .iload_n 1), (5, .iconst 1), (6, .iadd), (7, .sipush 256), (10, .imul), (11, .iload_n 2), (12, .iadd), (13, .iaload), (14, .istore_n 3), (15, .iconst 0), (16, .istore 4)]
theorem bX1_bestFrom_0_ok : ∀ q ∈ bX1_bestFrom_0, decode mX1_bestFrom.2.1 q.1 = .ok (q.2, aLn q.2) := by decide +kernel
def bX1_bestFrom_18 : List (Nat × Instr) := [(18, .iload 4), (20, .aload_n 0), (21, .getfield 18)]
theorem bX1_bestFrom_18_ok : ∀ q ∈ bX1_bestFrom_18, decode mX1_bestFrom.2.1 q.1 = .ok (q.2, aLn q.2) := by decide +kernel
def bX1_bestFrom_27 : List (Nat × Instr) := [(27, .iload_n 2), (28, .iload 4), (30, .ishr), (31, .iconst 1), (32, .iand)]
theorem bX1_bestFrom_27_ok : ∀ q ∈ bX1_bestFrom_27, decode mX1_bestFrom.2.1 q.1 = .ok (q.2, aLn q.2) := by decide +kernel
def bX1_bestFrom_36 : List (Nat × Instr) := [(36, .iload_n 3), (37, .aload_n 0), (38, .iload_n 1), (39, .iload_n 2), (40, .iload 4)]
theorem bX1_bestFrom_36_ok : ∀ q ∈ bX1_bestFrom_36, decode mX1_bestFrom.2.1 q.1 = .ok (q.2, aLn q.2) := by decide +kernel
def bX1_bestFrom_48 : List (Nat × Instr) := [(48, .istore_n 3)]
theorem bX1_bestFrom_48_ok : ∀ q ∈ bX1_bestFrom_48, decode mX1_bestFrom.2.1 q.1 = .ok (q.2, aLn q.2) := by decide +kernel
def bX1_bestFrom_49 : List (Nat × Instr) := [(49, .iinc 4 1), (52, .goto (-34))]
theorem bX1_bestFrom_49_ok : ∀ q ∈ bX1_bestFrom_49, decode mX1_bestFrom.2.1 q.1 = .ok (q.2, aLn q.2) := by decide +kernel
def bX1_bestFrom_55 : List (Nat × Instr) := [(55, .iload_n 3)]
theorem bX1_bestFrom_55_ok : ∀ q ∈ bX1_bestFrom_55, decode mX1_bestFrom.2.1 q.1 = .ok (q.2, aLn q.2) := by decide +kernel
theorem dX1_bestFrom_24 : decode mX1_bestFrom.2.1 24 = .ok (.if_icmp .ge 31, 3) := by decide +kernel
theorem dX1_bestFrom_33 : decode mX1_bestFrom.2.1 33 = .ok (.ifCond .ne 16, 3) := by decide +kernel
theorem dX1_bestFrom_42 : decode mX1_bestFrom.2.1 42 = .ok (.invokevirtual 36, 3) := by decide +kernel
theorem dX1_bestFrom_45 : decode mX1_bestFrom.2.1 45 = .ok (.invokestatic 40, 3) := by decide +kernel
theorem dX1_bestFrom_56 : decode mX1_bestFrom.2.1 56 = .ok (.ireturn, 1) := by decide +kernel
def bX1_with_0 : List (Nat × Instr) := [(0, .aload_n 0), (1, .getfield 9), (4, .iload_n 1), (5, .bipush 8), (7, .imul), (8, .iload_n 3), (9, .iadd), (10, .iaload), (11, .aload_n 0), (12, .getfield 15), (15, .iload_n 1), (16, .iconst 1), (17, .iadd), (18, .sipush 256), (21, .imul), (22, .iload_n 2), (23, .iconst 1), (24, .iload_n 3), (25, .ishl), (26, .ior), (27, .iadd), (28, .iaload), (29, .iadd)]
theorem bX1_with_0_ok : ∀ q ∈ bX1_with_0, decode mX1_with.2.1 q.1 = .ok (q.2, aLn q.2) := by decide +kernel
theorem dX1_with_30 : decode mX1_with.2.1 30 = .ok (.ireturn, 1) := by decide +kernel
def bX1_most_0 : List (Nat × Instr) := [(0, .aload_n 0), (1, .getfield 15), (4, .iconst 0), (5, .iaload)]
theorem bX1_most_0_ok : ∀ q ∈ bX1_most_0, decode mX1_most.2.1 q.1 = .ok (q.2, aLn q.2) := by decide +kernel
theorem dX1_most_6 : decode mX1_most.2.1 6 = .ok (.ireturn, 1) := by decide +kernel
def bX1_chosen_0 : List (Nat × Instr) := [(0, .iconst 0), (1, .istore_n 2), (2, .iconst 0), (3, .istore_n 3)]
theorem bX1_chosen_0_ok : ∀ q ∈ bX1_chosen_0, decode mX1_chosen.2.1 q.1 = .ok (q.2, aLn q.2) := by decide +kernel
def bX1_chosen_4 : List (Nat × Instr) := [(4, .iload_n 3), (5, .iconst 5)]
theorem bX1_chosen_4_ok : ∀ q ∈ bX1_chosen_4, decode mX1_chosen.2.1 q.1 = .ok (q.2, aLn q.2) := by decide +kernel
def bX1_chosen_9 : List (Nat × Instr) := [(9, .aload_n 0), (10, .iload_n 3), (11, .iload_n 2)]
theorem bX1_chosen_9_ok : ∀ q ∈ bX1_chosen_9, decode mX1_chosen.2.1 q.1 = .ok (q.2, aLn q.2) := by decide +kernel
def bX1_chosen_15 : List (Nat × Instr) := [(15, .istore 4), (17, .iload_n 3), (18, .iload_n 1)]
theorem bX1_chosen_15_ok : ∀ q ∈ bX1_chosen_15, decode mX1_chosen.2.1 q.1 = .ok (q.2, aLn q.2) := by decide +kernel
def bX1_chosen_22 : List (Nat × Instr) := [(22, .iload 4)]
theorem bX1_chosen_22_ok : ∀ q ∈ bX1_chosen_22, decode mX1_chosen.2.1 q.1 = .ok (q.2, aLn q.2) := by decide +kernel
def bX1_chosen_25 : List (Nat × Instr) := [(25, .iload 4), (27, .iconst (-1))]
theorem bX1_chosen_25_ok : ∀ q ∈ bX1_chosen_25, decode mX1_chosen.2.1 q.1 = .ok (q.2, aLn q.2) := by decide +kernel
def bX1_chosen_31 : List (Nat × Instr) := [(31, .iload_n 2), (32, .iconst 1), (33, .iload 4), (35, .ishl), (36, .ior), (37, .istore_n 2)]
theorem bX1_chosen_31_ok : ∀ q ∈ bX1_chosen_31, decode mX1_chosen.2.1 q.1 = .ok (q.2, aLn q.2) := by decide +kernel
def bX1_chosen_38 : List (Nat × Instr) := [(38, .iinc 3 1), (41, .goto (-37))]
theorem bX1_chosen_38_ok : ∀ q ∈ bX1_chosen_38, decode mX1_chosen.2.1 q.1 = .ok (q.2, aLn q.2) := by decide +kernel
def bX1_chosen_44 : List (Nat × Instr) := [(44, .iconst (-1))]
theorem bX1_chosen_44_ok : ∀ q ∈ bX1_chosen_44, decode mX1_chosen.2.1 q.1 = .ok (q.2, aLn q.2) := by decide +kernel
theorem dX1_chosen_6 : decode mX1_chosen.2.1 6 = .ok (.if_icmp .ge 38, 3) := by decide +kernel
theorem dX1_chosen_12 : decode mX1_chosen.2.1 12 = .ok (.invokevirtual 43, 3) := by decide +kernel
theorem dX1_chosen_19 : decode mX1_chosen.2.1 19 = .ok (.if_icmp .ne 6, 3) := by decide +kernel
theorem dX1_chosen_24 : decode mX1_chosen.2.1 24 = .ok (.ireturn, 1) := by decide +kernel
theorem dX1_chosen_28 : decode mX1_chosen.2.1 28 = .ok (.if_icmp .eq 10, 3) := by decide +kernel
theorem dX1_chosen_45 : decode mX1_chosen.2.1 45 = .ok (.ireturn, 1) := by decide +kernel
def bX1_firstBest_0 : List (Nat × Instr) := [(0, .iconst 0), (1, .istore_n 3)]
theorem bX1_firstBest_0_ok : ∀ q ∈ bX1_firstBest_0, decode mX1_firstBest.2.1 q.1 = .ok (q.2, aLn q.2) := by decide +kernel
def bX1_firstBest_2 : List (Nat × Instr) := [(2, .iload_n 3), (3, .aload_n 0), (4, .getfield 18)]
theorem bX1_firstBest_2_ok : ∀ q ∈ bX1_firstBest_2, decode mX1_firstBest.2.1 q.1 = .ok (q.2, aLn q.2) := by decide +kernel
def bX1_firstBest_10 : List (Nat × Instr) := [(10, .iload_n 2), (11, .iload_n 3), (12, .ishr), (13, .iconst 1), (14, .iand)]
theorem bX1_firstBest_10_ok : ∀ q ∈ bX1_firstBest_10, decode mX1_firstBest.2.1 q.1 = .ok (q.2, aLn q.2) := by decide +kernel
def bX1_firstBest_18 : List (Nat × Instr) := [(18, .aload_n 0), (19, .iload_n 1), (20, .iload_n 2), (21, .iload_n 3)]
theorem bX1_firstBest_18_ok : ∀ q ∈ bX1_firstBest_18, decode mX1_firstBest.2.1 q.1 = .ok (q.2, aLn q.2) := by decide +kernel
def bX1_firstBest_25 : List (Nat × Instr) := [(25, .aload_n 0), (26, .getfield 15), (29, .iload_n 1), (30, .sipush 256), (33, .imul), (34, .iload_n 2), (35, .iadd), (36, .iaload)]
theorem bX1_firstBest_25_ok : ∀ q ∈ bX1_firstBest_25, decode mX1_firstBest.2.1 q.1 = .ok (q.2, aLn q.2) := by decide +kernel
def bX1_firstBest_40 : List (Nat × Instr) := [(40, .iload_n 3)]
theorem bX1_firstBest_40_ok : ∀ q ∈ bX1_firstBest_40, decode mX1_firstBest.2.1 q.1 = .ok (q.2, aLn q.2) := by decide +kernel
def bX1_firstBest_42 : List (Nat × Instr) := [(42, .iinc 3 1), (45, .goto (-43))]
theorem bX1_firstBest_42_ok : ∀ q ∈ bX1_firstBest_42, decode mX1_firstBest.2.1 q.1 = .ok (q.2, aLn q.2) := by decide +kernel
def bX1_firstBest_48 : List (Nat × Instr) := [(48, .iconst (-1))]
theorem bX1_firstBest_48_ok : ∀ q ∈ bX1_firstBest_48, decode mX1_firstBest.2.1 q.1 = .ok (q.2, aLn q.2) := by decide +kernel
theorem dX1_firstBest_7 : decode mX1_firstBest.2.1 7 = .ok (.if_icmp .ge 41, 3) := by decide +kernel
theorem dX1_firstBest_15 : decode mX1_firstBest.2.1 15 = .ok (.ifCond .ne 27, 3) := by decide +kernel
theorem dX1_firstBest_22 : decode mX1_firstBest.2.1 22 = .ok (.invokevirtual 36, 3) := by decide +kernel
theorem dX1_firstBest_37 : decode mX1_firstBest.2.1 37 = .ok (.if_icmp .ne 5, 3) := by decide +kernel
theorem dX1_firstBest_41 : decode mX1_firstBest.2.1 41 = .ok (.ireturn, 1) := by decide +kernel
theorem dX1_firstBest_49 : decode mX1_firstBest.2.1 49 = .ok (.ireturn, 1) := by decide +kernel
def bX2_start_0 : List (Nat × Instr) := [(0, .aload_n 0), (1, .iload_n 1), (2, .putfield 7)]
theorem bX2_start_0_ok : ∀ q ∈ bX2_start_0, decode mX2_start.2.1 q.1 = .ok (q.2, aLn q.2) := by decide +kernel
theorem dX2_start_5 : decode mX2_start.2.1 5 = .ok (.return_, 1) := by decide +kernel
def bX2_below_0 : List (Nat × Instr) := [(0, .aload_n 0), (1, .aload_n 0), (2, .getfield 7), (5, .ldc 13), (7, .imul), (8, .sipush 12345), (11, .iadd), (12, .putfield 7), (15, .iload_n 1), (16, .iconst 1)]
theorem bX2_below_0_ok : ∀ q ∈ bX2_below_0, decode mX2_below.2.1 q.1 = .ok (q.2, aLn q.2) := by decide +kernel
def bX2_below_20 : List (Nat × Instr) := [(20, .iconst 0), (21, .goto 15)]
theorem bX2_below_20_ok : ∀ q ∈ bX2_below_20, decode mX2_below.2.1 q.1 = .ok (q.2, aLn q.2) := by decide +kernel
def bX2_below_24 : List (Nat × Instr) := [(24, .aload_n 0), (25, .getfield 7), (28, .ldc 14), (30, .iand), (31, .ldc 15), (33, .idiv), (34, .iload_n 1), (35, .irem)]
theorem bX2_below_24_ok : ∀ q ∈ bX2_below_24, decode mX2_below.2.1 q.1 = .ok (q.2, aLn q.2) := by decide +kernel
theorem dX2_below_17 : decode mX2_below.2.1 17 = .ok (.if_icmp .ge 7, 3) := by decide +kernel
theorem dX2_below_36 : decode mX2_below.2.1 36 = .ok (.ireturn, 1) := by decide +kernel
def bX3_shown_0 : List (Nat × Instr) := [(0, .iload_n 2), (1, .iload_n 1), (2, .isub)]
theorem bX3_shown_0_ok : ∀ q ∈ bX3_shown_0, decode mX3_shown.2.1 q.1 = .ok (q.2, aLn q.2) := by decide +kernel
def bX3_shown_6 : List (Nat × Instr) := [(6, .istore 4), (8, .iload_n 0)]
theorem bX3_shown_6_ok : ∀ q ∈ bX3_shown_6, decode mX3_shown.2.1 q.1 = .ok (q.2, aLn q.2) := by decide +kernel
def bX3_shown_52 : List (Nat × Instr) := [(52, .bipush 6)]
theorem bX3_shown_52_ok : ∀ q ∈ bX3_shown_52, decode mX3_shown.2.1 q.1 = .ok (q.2, aLn q.2) := by decide +kernel
def bX3_shown_55 : List (Nat × Instr) := [(55, .iconst 1), (56, .iload 4), (58, .iconst 3), (59, .idiv), (60, .iadd)]
theorem bX3_shown_55_ok : ∀ q ∈ bX3_shown_55, decode mX3_shown.2.1 q.1 = .ok (q.2, aLn q.2) := by decide +kernel
def bX3_shown_62 : List (Nat × Instr) := [(62, .iload_n 3), (63, .iconst 1), (64, .iand), (65, .iconst 1)]
theorem bX3_shown_62_ok : ∀ q ∈ bX3_shown_62, decode mX3_shown.2.1 q.1 = .ok (q.2, aLn q.2) := by decide +kernel
def bX3_shown_69 : List (Nat × Instr) := [(69, .bipush 6), (71, .iload_n 1), (72, .iadd), (73, .goto 5)]
theorem bX3_shown_69_ok : ∀ q ∈ bX3_shown_69, decode mX3_shown.2.1 q.1 = .ok (q.2, aLn q.2) := by decide +kernel
def bX3_shown_76 : List (Nat × Instr) := [(76, .bipush 6)]
theorem bX3_shown_76_ok : ∀ q ∈ bX3_shown_76, decode mX3_shown.2.1 q.1 = .ok (q.2, aLn q.2) := by decide +kernel
def bX3_shown_79 : List (Nat × Instr) := [(79, .iload 4)]
theorem bX3_shown_79_ok : ∀ q ∈ bX3_shown_79, decode mX3_shown.2.1 q.1 = .ok (q.2, aLn q.2) := by decide +kernel
def bX3_shown_84 : List (Nat × Instr) := [(84, .iconst 0), (85, .goto 9)]
theorem bX3_shown_84_ok : ∀ q ∈ bX3_shown_84, decode mX3_shown.2.1 q.1 = .ok (q.2, aLn q.2) := by decide +kernel
def bX3_shown_88 : List (Nat × Instr) := [(88, .iconst 1), (89, .iload 4), (91, .iconst 3), (92, .idiv), (93, .iadd)]
theorem bX3_shown_88_ok : ∀ q ∈ bX3_shown_88, decode mX3_shown.2.1 q.1 = .ok (q.2, aLn q.2) := by decide +kernel
def bX3_shown_95 : List (Nat × Instr) := [(95, .iconst 1), (96, .iconst 3), (97, .iload_n 2), (98, .isub)]
theorem bX3_shown_95_ok : ∀ q ∈ bX3_shown_95, decode mX3_shown.2.1 q.1 = .ok (q.2, aLn q.2) := by decide +kernel
def bX3_shown_103 : List (Nat × Instr) := [(103, .iload_n 2), (104, .iload_n 1)]
theorem bX3_shown_103_ok : ∀ q ∈ bX3_shown_103, decode mX3_shown.2.1 q.1 = .ok (q.2, aLn q.2) := by decide +kernel
def bX3_shown_108 : List (Nat × Instr) := [(108, .bipush 9), (110, .goto 5)]
theorem bX3_shown_108_ok : ∀ q ∈ bX3_shown_108, decode mX3_shown.2.1 q.1 = .ok (q.2, aLn q.2) := by decide +kernel
def bX3_shown_113 : List (Nat × Instr) := [(113, .bipush 6)]
theorem bX3_shown_113_ok : ∀ q ∈ bX3_shown_113, decode mX3_shown.2.1 q.1 = .ok (q.2, aLn q.2) := by decide +kernel
def bX3_shown_116 : List (Nat × Instr) := [(116, .iconst 0)]
theorem bX3_shown_116_ok : ∀ q ∈ bX3_shown_116, decode mX3_shown.2.1 q.1 = .ok (q.2, aLn q.2) := by decide +kernel
def bX3_shown_118 : List (Nat × Instr) := [(118, .iconst 3)]
theorem bX3_shown_118_ok : ∀ q ∈ bX3_shown_118, decode mX3_shown.2.1 q.1 = .ok (q.2, aLn q.2) := by decide +kernel
theorem dX3_shown_3 : decode mX3_shown.2.1 3 = .ok (.invokestatic 9, 3) := by decide +kernel
theorem dX3_shown_9 : decode mX3_shown.2.1 9 = .ok (.tableswitch 109 1 7 #[43, 46, 53, 70, 86, 94, 107], 43) := by decide +kernel
theorem dX3_shown_54 : decode mX3_shown.2.1 54 = .ok (.ireturn, 1) := by decide +kernel
theorem dX3_shown_61 : decode mX3_shown.2.1 61 = .ok (.ireturn, 1) := by decide +kernel
theorem dX3_shown_66 : decode mX3_shown.2.1 66 = .ok (.if_icmp .ne 10, 3) := by decide +kernel
theorem dX3_shown_78 : decode mX3_shown.2.1 78 = .ok (.ireturn, 1) := by decide +kernel
theorem dX3_shown_81 : decode mX3_shown.2.1 81 = .ok (.ifCond .ne 7, 3) := by decide +kernel
theorem dX3_shown_94 : decode mX3_shown.2.1 94 = .ok (.ireturn, 1) := by decide +kernel
theorem dX3_shown_99 : decode mX3_shown.2.1 99 = .ok (.invokestatic 15, 3) := by decide +kernel
theorem dX3_shown_102 : decode mX3_shown.2.1 102 = .ok (.ireturn, 1) := by decide +kernel
theorem dX3_shown_105 : decode mX3_shown.2.1 105 = .ok (.if_icmp .ge 8, 3) := by decide +kernel
theorem dX3_shown_115 : decode mX3_shown.2.1 115 = .ok (.ireturn, 1) := by decide +kernel
theorem dX3_shown_117 : decode mX3_shown.2.1 117 = .ok (.ireturn, 1) := by decide +kernel
theorem dX3_shown_119 : decode mX3_shown.2.1 119 = .ok (.ireturn, 1) := by decide +kernel
def bX3_borne_0 : List (Nat × Instr) := [(0, .bipush 20), (2, .iload_n 1), (3, .iadd), (4, .istore_n 2), (5, .iload_n 0)]
theorem bX3_borne_0_ok : ∀ q ∈ bX3_borne_0, decode mX3_borne.2.1 q.1 = .ok (q.2, aLn q.2) := by decide +kernel
def bX3_borne_48 : List (Nat × Instr) := [(48, .bipush 15)]
theorem bX3_borne_48_ok : ∀ q ∈ bX3_borne_48, decode mX3_borne.2.1 q.1 = .ok (q.2, aLn q.2) := by decide +kernel
def bX3_borne_51 : List (Nat × Instr) := [(51, .iload_n 2)]
theorem bX3_borne_51_ok : ∀ q ∈ bX3_borne_51, decode mX3_borne.2.1 q.1 = .ok (q.2, aLn q.2) := by decide +kernel
def bX3_borne_53 : List (Nat × Instr) := [(53, .iconst 2), (54, .iload_n 2), (55, .imul)]
theorem bX3_borne_53_ok : ∀ q ∈ bX3_borne_53, decode mX3_borne.2.1 q.1 = .ok (q.2, aLn q.2) := by decide +kernel
def bX3_borne_57 : List (Nat × Instr) := [(57, .bipush 20), (59, .iconst 2), (60, .iload_n 1), (61, .imul), (62, .iadd)]
theorem bX3_borne_57_ok : ∀ q ∈ bX3_borne_57, decode mX3_borne.2.1 q.1 = .ok (q.2, aLn q.2) := by decide +kernel
def bX3_borne_64 : List (Nat × Instr) := [(64, .bipush 7)]
theorem bX3_borne_64_ok : ∀ q ∈ bX3_borne_64, decode mX3_borne.2.1 q.1 = .ok (q.2, aLn q.2) := by decide +kernel
def bX3_borne_67 : List (Nat × Instr) := [(67, .bipush 99)]
theorem bX3_borne_67_ok : ∀ q ∈ bX3_borne_67, decode mX3_borne.2.1 q.1 = .ok (q.2, aLn q.2) := by decide +kernel
def bX3_borne_70 : List (Nat × Instr) := [(70, .bipush 20)]
theorem bX3_borne_70_ok : ∀ q ∈ bX3_borne_70, decode mX3_borne.2.1 q.1 = .ok (q.2, aLn q.2) := by decide +kernel
theorem dX3_borne_6 : decode mX3_borne.2.1 6 = .ok (.tableswitch 64 1 7 #[42, 45, 42, 47, 51, 58, 61], 42) := by decide +kernel
theorem dX3_borne_50 : decode mX3_borne.2.1 50 = .ok (.ireturn, 1) := by decide +kernel
theorem dX3_borne_52 : decode mX3_borne.2.1 52 = .ok (.ireturn, 1) := by decide +kernel
theorem dX3_borne_56 : decode mX3_borne.2.1 56 = .ok (.ireturn, 1) := by decide +kernel
theorem dX3_borne_63 : decode mX3_borne.2.1 63 = .ok (.ireturn, 1) := by decide +kernel
theorem dX3_borne_66 : decode mX3_borne.2.1 66 = .ok (.ireturn, 1) := by decide +kernel
theorem dX3_borne_69 : decode mX3_borne.2.1 69 = .ok (.ireturn, 1) := by decide +kernel
theorem dX3_borne_72 : decode mX3_borne.2.1 72 = .ok (.ireturn, 1) := by decide +kernel
def bX3_forgotten_0 : List (Nat × Instr) := [(0, .iload_n 0)]
theorem bX3_forgotten_0_ok : ∀ q ∈ bX3_forgotten_0, decode mX3_forgotten.2.1 q.1 = .ok (q.2, aLn q.2) := by decide +kernel
def bX3_forgotten_44 : List (Nat × Instr) := [(44, .iconst 1)]
theorem bX3_forgotten_44_ok : ∀ q ∈ bX3_forgotten_44, decode mX3_forgotten.2.1 q.1 = .ok (q.2, aLn q.2) := by decide +kernel
def bX3_forgotten_46 : List (Nat × Instr) := [(46, .iconst 3)]
theorem bX3_forgotten_46_ok : ∀ q ∈ bX3_forgotten_46, decode mX3_forgotten.2.1 q.1 = .ok (q.2, aLn q.2) := by decide +kernel
def bX3_forgotten_48 : List (Nat × Instr) := [(48, .iconst 0)]
theorem bX3_forgotten_48_ok : ∀ q ∈ bX3_forgotten_48, decode mX3_forgotten.2.1 q.1 = .ok (q.2, aLn q.2) := by decide +kernel
def bX3_forgotten_50 : List (Nat × Instr) := [(50, .iload_n 1)]
theorem bX3_forgotten_50_ok : ∀ q ∈ bX3_forgotten_50, decode mX3_forgotten.2.1 q.1 = .ok (q.2, aLn q.2) := by decide +kernel
def bX3_forgotten_52 : List (Nat × Instr) := [(52, .bipush 9)]
theorem bX3_forgotten_52_ok : ∀ q ∈ bX3_forgotten_52, decode mX3_forgotten.2.1 q.1 = .ok (q.2, aLn q.2) := by decide +kernel
def bX3_forgotten_55 : List (Nat × Instr) := [(55, .iconst 2)]
theorem bX3_forgotten_55_ok : ∀ q ∈ bX3_forgotten_55, decode mX3_forgotten.2.1 q.1 = .ok (q.2, aLn q.2) := by decide +kernel
theorem dX3_forgotten_1 : decode mX3_forgotten.2.1 1 = .ok (.tableswitch 54 1 7 #[43, 45, 47, 45, 49, 43, 51], 43) := by decide +kernel
theorem dX3_forgotten_45 : decode mX3_forgotten.2.1 45 = .ok (.ireturn, 1) := by decide +kernel
theorem dX3_forgotten_47 : decode mX3_forgotten.2.1 47 = .ok (.ireturn, 1) := by decide +kernel
theorem dX3_forgotten_49 : decode mX3_forgotten.2.1 49 = .ok (.ireturn, 1) := by decide +kernel
theorem dX3_forgotten_51 : decode mX3_forgotten.2.1 51 = .ok (.ireturn, 1) := by decide +kernel
theorem dX3_forgotten_54 : decode mX3_forgotten.2.1 54 = .ok (.ireturn, 1) := by decide +kernel
theorem dX3_forgotten_56 : decode mX3_forgotten.2.1 56 = .ok (.ireturn, 1) := by decide +kernel
def bX3_price_0 : List (Nat × Instr) := [(0, .iload_n 0)]
theorem bX3_price_0_ok : ∀ q ∈ bX3_price_0, decode mX3_price.2.1 q.1 = .ok (q.2, aLn q.2) := by decide +kernel
def bX3_price_44 : List (Nat × Instr) := [(44, .iconst 1)]
theorem bX3_price_44_ok : ∀ q ∈ bX3_price_44, decode mX3_price.2.1 q.1 = .ok (q.2, aLn q.2) := by decide +kernel
def bX3_price_46 : List (Nat × Instr) := [(46, .bipush 6)]
theorem bX3_price_46_ok : ∀ q ∈ bX3_price_46, decode mX3_price.2.1 q.1 = .ok (q.2, aLn q.2) := by decide +kernel
def bX3_price_49 : List (Nat × Instr) := [(49, .iconst 1), (50, .iload_n 1), (51, .iadd)]
theorem bX3_price_49_ok : ∀ q ∈ bX3_price_49, decode mX3_price.2.1 q.1 = .ok (q.2, aLn q.2) := by decide +kernel
def bX3_price_53 : List (Nat × Instr) := [(53, .iconst 0)]
theorem bX3_price_53_ok : ∀ q ∈ bX3_price_53, decode mX3_price.2.1 q.1 = .ok (q.2, aLn q.2) := by decide +kernel
def bX3_price_55 : List (Nat × Instr) := [(55, .bipush 8)]
theorem bX3_price_55_ok : ∀ q ∈ bX3_price_55, decode mX3_price.2.1 q.1 = .ok (q.2, aLn q.2) := by decide +kernel
def bX3_price_58 : List (Nat × Instr) := [(58, .iconst 1)]
theorem bX3_price_58_ok : ∀ q ∈ bX3_price_58, decode mX3_price.2.1 q.1 = .ok (q.2, aLn q.2) := by decide +kernel
def bX3_price_60 : List (Nat × Instr) := [(60, .iconst 4)]
theorem bX3_price_60_ok : ∀ q ∈ bX3_price_60, decode mX3_price.2.1 q.1 = .ok (q.2, aLn q.2) := by decide +kernel
theorem dX3_price_1 : decode mX3_price.2.1 1 = .ok (.tableswitch 59 1 7 #[43, 45, 48, 52, 54, 43, 57], 43) := by decide +kernel
theorem dX3_price_45 : decode mX3_price.2.1 45 = .ok (.ireturn, 1) := by decide +kernel
theorem dX3_price_48 : decode mX3_price.2.1 48 = .ok (.ireturn, 1) := by decide +kernel
theorem dX3_price_52 : decode mX3_price.2.1 52 = .ok (.ireturn, 1) := by decide +kernel
theorem dX3_price_54 : decode mX3_price.2.1 54 = .ok (.ireturn, 1) := by decide +kernel
theorem dX3_price_57 : decode mX3_price.2.1 57 = .ok (.ireturn, 1) := by decide +kernel
theorem dX3_price_59 : decode mX3_price.2.1 59 = .ok (.ireturn, 1) := by decide +kernel
theorem dX3_price_61 : decode mX3_price.2.1 61 = .ok (.ireturn, 1) := by decide +kernel
def bX4_clear_0 : List (Nat × Instr) := [(0, .iload_n 1)]
theorem bX4_clear_0_ok : ∀ q ∈ bX4_clear_0, decode mX4_clear.2.1 q.1 = .ok (q.2, aLn q.2) := by decide +kernel
def bX4_clear_7 : List (Nat × Instr) := [(7, .aload_n 0), (8, .getfield 11), (11, .iload_n 1), (12, .iconst 0), (13, .iastore)]
theorem bX4_clear_7_ok : ∀ q ∈ bX4_clear_7, decode mX4_clear.2.1 q.1 = .ok (q.2, aLn q.2) := by decide +kernel
theorem dX4_clear_1 : decode mX4_clear.2.1 1 = .ok (.invokestatic 30, 3) := by decide +kernel
theorem dX4_clear_4 : decode mX4_clear.2.1 4 = .ok (.ifCond .eq 10, 3) := by decide +kernel
theorem dX4_clear_14 : decode mX4_clear.2.1 14 = .ok (.return_, 1) := by decide +kernel
def bX4_placeOne_0 : List (Nat × Instr) := [(0, .iload_n 1)]
theorem bX4_placeOne_0_ok : ∀ q ∈ bX4_placeOne_0, decode mX4_placeOne.2.1 q.1 = .ok (q.2, aLn q.2) := by decide +kernel
def bX4_placeOne_7 : List (Nat × Instr) := [(7, .aload_n 0), (8, .getfield 11), (11, .iload_n 1), (12, .iconst 1), (13, .iastore), (14, .aload_n 0), (15, .getfield 15), (18, .iload_n 1), (19, .iload_n 2), (20, .iastore), (21, .aload_n 0), (22, .getfield 18), (25, .iload_n 1), (26, .iload_n 3), (27, .iastore)]
theorem bX4_placeOne_7_ok : ∀ q ∈ bX4_placeOne_7, decode mX4_placeOne.2.1 q.1 = .ok (q.2, aLn q.2) := by decide +kernel
theorem dX4_placeOne_1 : decode mX4_placeOne.2.1 1 = .ok (.invokestatic 30, 3) := by decide +kernel
theorem dX4_placeOne_4 : decode mX4_placeOne.2.1 4 = .ok (.ifCond .eq 24, 3) := by decide +kernel
theorem dX4_placeOne_28 : decode mX4_placeOne.2.1 28 = .ok (.return_, 1) := by decide +kernel
def bX4_placeRow_0 : List (Nat × Instr) := [(0, .iload_n 1)]
theorem bX4_placeRow_0_ok : ∀ q ∈ bX4_placeRow_0, decode mX4_placeRow.2.1 q.1 = .ok (q.2, aLn q.2) := by decide +kernel
def bX4_placeRow_7 : List (Nat × Instr) := [(7, .iload_n 3)]
theorem bX4_placeRow_7_ok : ∀ q ∈ bX4_placeRow_7, decode mX4_placeRow.2.1 q.1 = .ok (q.2, aLn q.2) := by decide +kernel
def bX4_placeRow_11 : List (Nat × Instr) := [(11, .iload_n 3), (12, .bipush 100)]
theorem bX4_placeRow_11_ok : ∀ q ∈ bX4_placeRow_11, decode mX4_placeRow.2.1 q.1 = .ok (q.2, aLn q.2) := by decide +kernel
def bX4_placeRow_18 : List (Nat × Instr) := [(18, .aload_n 0), (19, .getfield 11), (22, .iload_n 1), (23, .iconst 2), (24, .iastore), (25, .aload_n 0), (26, .getfield 21), (29, .iload_n 1), (30, .iload_n 2), (31, .iastore), (32, .aload_n 0), (33, .getfield 24), (36, .iload_n 1), (37, .iload_n 3), (38, .iastore), (39, .iconst 0), (40, .istore 4)]
theorem bX4_placeRow_18_ok : ∀ q ∈ bX4_placeRow_18, decode mX4_placeRow.2.1 q.1 = .ok (q.2, aLn q.2) := by decide +kernel
def bX4_placeRow_42 : List (Nat × Instr) := [(42, .iload 4), (44, .iload_n 3)]
theorem bX4_placeRow_42_ok : ∀ q ∈ bX4_placeRow_42, decode mX4_placeRow.2.1 q.1 = .ok (q.2, aLn q.2) := by decide +kernel
def bX4_placeRow_48 : List (Nat × Instr) := [(48, .aload_n 0), (49, .getfield 27), (52, .iload_n 1), (53, .bipush 100), (55, .imul), (56, .iload 4), (58, .iadd), (59, .iconst 0), (60, .iastore), (61, .iinc 4 1), (64, .goto (-22))]
theorem bX4_placeRow_48_ok : ∀ q ∈ bX4_placeRow_48, decode mX4_placeRow.2.1 q.1 = .ok (q.2, aLn q.2) := by decide +kernel
theorem dX4_placeRow_1 : decode mX4_placeRow.2.1 1 = .ok (.invokestatic 30, 3) := by decide +kernel
theorem dX4_placeRow_4 : decode mX4_placeRow.2.1 4 = .ok (.ifCond .eq 13, 3) := by decide +kernel
theorem dX4_placeRow_8 : decode mX4_placeRow.2.1 8 = .ok (.ifCond .lt 9, 3) := by decide +kernel
theorem dX4_placeRow_14 : decode mX4_placeRow.2.1 14 = .ok (.if_icmp .le 4, 3) := by decide +kernel
theorem dX4_placeRow_17 : decode mX4_placeRow.2.1 17 = .ok (.return_, 1) := by decide +kernel
theorem dX4_placeRow_45 : decode mX4_placeRow.2.1 45 = .ok (.if_icmp .ge 22, 3) := by decide +kernel
theorem dX4_placeRow_67 : decode mX4_placeRow.2.1 67 = .ok (.return_, 1) := by decide +kernel
def bX4_lackOfRow_0 : List (Nat × Instr) := [(0, .aload_n 0), (1, .iload_n 1), (2, .iconst 2)]
theorem bX4_lackOfRow_0_ok : ∀ q ∈ bX4_lackOfRow_0, decode mX4_lackOfRow.2.1 q.1 = .ok (q.2, aLn q.2) := by decide +kernel
theorem dX4_lackOfRow_3 : decode mX4_lackOfRow.2.1 3 = .ok (.invokevirtual 34, 3) := by decide +kernel
theorem dX4_lackOfRow_6 : decode mX4_lackOfRow.2.1 6 = .ok (.ireturn, 1) := by decide +kernel
def bX4_lackOfOne_0 : List (Nat × Instr) := [(0, .aload_n 0), (1, .iload_n 1), (2, .iconst 1)]
theorem bX4_lackOfOne_0_ok : ∀ q ∈ bX4_lackOfOne_0, decode mX4_lackOfOne.2.1 q.1 = .ok (q.2, aLn q.2) := by decide +kernel
theorem dX4_lackOfOne_3 : decode mX4_lackOfOne.2.1 3 = .ok (.invokevirtual 34, 3) := by decide +kernel
theorem dX4_lackOfOne_6 : decode mX4_lackOfOne.2.1 6 = .ok (.ireturn, 1) := by decide +kernel
def bX4_lackOf_0 : List (Nat × Instr) := [(0, .iload_n 1)]
theorem bX4_lackOf_0_ok : ∀ q ∈ bX4_lackOf_0, decode mX4_lackOf.2.1 q.1 = .ok (q.2, aLn q.2) := by decide +kernel
def bX4_lackOf_7 : List (Nat × Instr) := [(7, .iconst (-1))]
theorem bX4_lackOf_7_ok : ∀ q ∈ bX4_lackOf_7, decode mX4_lackOf.2.1 q.1 = .ok (q.2, aLn q.2) := by decide +kernel
def bX4_lackOf_9 : List (Nat × Instr) := [(9, .aload_n 0), (10, .getfield 11), (13, .iload_n 1), (14, .iaload)]
theorem bX4_lackOf_9_ok : ∀ q ∈ bX4_lackOf_9, decode mX4_lackOf.2.1 q.1 = .ok (q.2, aLn q.2) := by decide +kernel
def bX4_lackOf_18 : List (Nat × Instr) := [(18, .bipush (-11))]
theorem bX4_lackOf_18_ok : ∀ q ∈ bX4_lackOf_18, decode mX4_lackOf.2.1 q.1 = .ok (q.2, aLn q.2) := by decide +kernel
def bX4_lackOf_21 : List (Nat × Instr) := [(21, .aload_n 0), (22, .getfield 11), (25, .iload_n 1), (26, .iaload), (27, .iload_n 2)]
theorem bX4_lackOf_21_ok : ∀ q ∈ bX4_lackOf_21, decode mX4_lackOf.2.1 q.1 = .ok (q.2, aLn q.2) := by decide +kernel
def bX4_lackOf_31 : List (Nat × Instr) := [(31, .iconst 0), (32, .goto 5)]
theorem bX4_lackOf_31_ok : ∀ q ∈ bX4_lackOf_31, decode mX4_lackOf.2.1 q.1 = .ok (q.2, aLn q.2) := by decide +kernel
def bX4_lackOf_35 : List (Nat × Instr) := [(35, .bipush (-12))]
theorem bX4_lackOf_35_ok : ∀ q ∈ bX4_lackOf_35, decode mX4_lackOf.2.1 q.1 = .ok (q.2, aLn q.2) := by decide +kernel
theorem dX4_lackOf_1 : decode mX4_lackOf.2.1 1 = .ok (.invokestatic 30, 3) := by decide +kernel
theorem dX4_lackOf_4 : decode mX4_lackOf.2.1 4 = .ok (.ifCond .ne 5, 3) := by decide +kernel
theorem dX4_lackOf_8 : decode mX4_lackOf.2.1 8 = .ok (.ireturn, 1) := by decide +kernel
theorem dX4_lackOf_15 : decode mX4_lackOf.2.1 15 = .ok (.ifCond .ne 6, 3) := by decide +kernel
theorem dX4_lackOf_20 : decode mX4_lackOf.2.1 20 = .ok (.ireturn, 1) := by decide +kernel
theorem dX4_lackOf_28 : decode mX4_lackOf.2.1 28 = .ok (.if_icmp .ne 7, 3) := by decide +kernel
theorem dX4_lackOf_37 : decode mX4_lackOf.2.1 37 = .ok (.ireturn, 1) := by decide +kernel
def bX4_kindOn_0 : List (Nat × Instr) := [(0, .iload_n 1)]
theorem bX4_kindOn_0_ok : ∀ q ∈ bX4_kindOn_0, decode mX4_kindOn.2.1 q.1 = .ok (q.2, aLn q.2) := by decide +kernel
def bX4_kindOn_7 : List (Nat × Instr) := [(7, .aload_n 0), (8, .getfield 15), (11, .iload_n 1), (12, .iaload), (13, .goto 4)]
theorem bX4_kindOn_7_ok : ∀ q ∈ bX4_kindOn_7, decode mX4_kindOn.2.1 q.1 = .ok (q.2, aLn q.2) := by decide +kernel
def bX4_kindOn_16 : List (Nat × Instr) := [(16, .iconst 0)]
theorem bX4_kindOn_16_ok : ∀ q ∈ bX4_kindOn_16, decode mX4_kindOn.2.1 q.1 = .ok (q.2, aLn q.2) := by decide +kernel
theorem dX4_kindOn_1 : decode mX4_kindOn.2.1 1 = .ok (.invokestatic 30, 3) := by decide +kernel
theorem dX4_kindOn_4 : decode mX4_kindOn.2.1 4 = .ok (.ifCond .eq 12, 3) := by decide +kernel
theorem dX4_kindOn_17 : decode mX4_kindOn.2.1 17 = .ok (.ireturn, 1) := by decide +kernel
def bX4_figureOn_0 : List (Nat × Instr) := [(0, .iload_n 1)]
theorem bX4_figureOn_0_ok : ∀ q ∈ bX4_figureOn_0, decode mX4_figureOn.2.1 q.1 = .ok (q.2, aLn q.2) := by decide +kernel
def bX4_figureOn_7 : List (Nat × Instr) := [(7, .aload_n 0), (8, .getfield 18), (11, .iload_n 1), (12, .iaload), (13, .goto 4)]
theorem bX4_figureOn_7_ok : ∀ q ∈ bX4_figureOn_7, decode mX4_figureOn.2.1 q.1 = .ok (q.2, aLn q.2) := by decide +kernel
def bX4_figureOn_16 : List (Nat × Instr) := [(16, .iconst 0)]
theorem bX4_figureOn_16_ok : ∀ q ∈ bX4_figureOn_16, decode mX4_figureOn.2.1 q.1 = .ok (q.2, aLn q.2) := by decide +kernel
theorem dX4_figureOn_1 : decode mX4_figureOn.2.1 1 = .ok (.invokestatic 30, 3) := by decide +kernel
theorem dX4_figureOn_4 : decode mX4_figureOn.2.1 4 = .ok (.ifCond .eq 12, 3) := by decide +kernel
theorem dX4_figureOn_17 : decode mX4_figureOn.2.1 17 = .ok (.ireturn, 1) := by decide +kernel
def bX4_lengthOf_0 : List (Nat × Instr) := [(0, .iload_n 1)]
theorem bX4_lengthOf_0_ok : ∀ q ∈ bX4_lengthOf_0, decode mX4_lengthOf.2.1 q.1 = .ok (q.2, aLn q.2) := by decide +kernel
def bX4_lengthOf_7 : List (Nat × Instr) := [(7, .aload_n 0), (8, .getfield 24), (11, .iload_n 1), (12, .iaload), (13, .goto 4)]
theorem bX4_lengthOf_7_ok : ∀ q ∈ bX4_lengthOf_7, decode mX4_lengthOf.2.1 q.1 = .ok (q.2, aLn q.2) := by decide +kernel
def bX4_lengthOf_16 : List (Nat × Instr) := [(16, .iconst 0)]
theorem bX4_lengthOf_16_ok : ∀ q ∈ bX4_lengthOf_16, decode mX4_lengthOf.2.1 q.1 = .ok (q.2, aLn q.2) := by decide +kernel
theorem dX4_lengthOf_1 : decode mX4_lengthOf.2.1 1 = .ok (.invokestatic 30, 3) := by decide +kernel
theorem dX4_lengthOf_4 : decode mX4_lengthOf.2.1 4 = .ok (.ifCond .eq 12, 3) := by decide +kernel
theorem dX4_lengthOf_17 : decode mX4_lengthOf.2.1 17 = .ok (.ireturn, 1) := by decide +kernel
def bX4_holdsBytes_0 : List (Nat × Instr) := [(0, .iload_n 1)]
theorem bX4_holdsBytes_0_ok : ∀ q ∈ bX4_holdsBytes_0, decode mX4_holdsBytes.2.1 q.1 = .ok (q.2, aLn q.2) := by decide +kernel
def bX4_holdsBytes_7 : List (Nat × Instr) := [(7, .aload_n 0), (8, .getfield 21), (11, .iload_n 1), (12, .iaload)]
theorem bX4_holdsBytes_7_ok : ∀ q ∈ bX4_holdsBytes_7, decode mX4_holdsBytes.2.1 q.1 = .ok (q.2, aLn q.2) := by decide +kernel
def bX4_holdsBytes_16 : List (Nat × Instr) := [(16, .iconst 1), (17, .goto 4)]
theorem bX4_holdsBytes_16_ok : ∀ q ∈ bX4_holdsBytes_16, decode mX4_holdsBytes.2.1 q.1 = .ok (q.2, aLn q.2) := by decide +kernel
def bX4_holdsBytes_20 : List (Nat × Instr) := [(20, .iconst 0)]
theorem bX4_holdsBytes_20_ok : ∀ q ∈ bX4_holdsBytes_20, decode mX4_holdsBytes.2.1 q.1 = .ok (q.2, aLn q.2) := by decide +kernel
theorem dX4_holdsBytes_1 : decode mX4_holdsBytes.2.1 1 = .ok (.invokestatic 30, 3) := by decide +kernel
theorem dX4_holdsBytes_4 : decode mX4_holdsBytes.2.1 4 = .ok (.ifCond .eq 16, 3) := by decide +kernel
theorem dX4_holdsBytes_13 : decode mX4_holdsBytes.2.1 13 = .ok (.ifCond .ne 7, 3) := by decide +kernel
theorem dX4_holdsBytes_21 : decode mX4_holdsBytes.2.1 21 = .ok (.ireturn, 1) := by decide +kernel
def bX4_haveOneSort_0 : List (Nat × Instr) := [(0, .iload_n 1)]
theorem bX4_haveOneSort_0_ok : ∀ q ∈ bX4_haveOneSort_0, decode mX4_haveOneSort.2.1 q.1 = .ok (q.2, aLn q.2) := by decide +kernel
def bX4_haveOneSort_7 : List (Nat × Instr) := [(7, .iload_n 2)]
theorem bX4_haveOneSort_7_ok : ∀ q ∈ bX4_haveOneSort_7, decode mX4_haveOneSort.2.1 q.1 = .ok (q.2, aLn q.2) := by decide +kernel
def bX4_haveOneSort_14 : List (Nat × Instr) := [(14, .aload_n 0), (15, .getfield 21), (18, .iload_n 1), (19, .iaload), (20, .aload_n 0), (21, .getfield 21), (24, .iload_n 2), (25, .iaload)]
theorem bX4_haveOneSort_14_ok : ∀ q ∈ bX4_haveOneSort_14, decode mX4_haveOneSort.2.1 q.1 = .ok (q.2, aLn q.2) := by decide +kernel
def bX4_haveOneSort_29 : List (Nat × Instr) := [(29, .iconst 1), (30, .goto 4)]
theorem bX4_haveOneSort_29_ok : ∀ q ∈ bX4_haveOneSort_29, decode mX4_haveOneSort.2.1 q.1 = .ok (q.2, aLn q.2) := by decide +kernel
def bX4_haveOneSort_33 : List (Nat × Instr) := [(33, .iconst 0)]
theorem bX4_haveOneSort_33_ok : ∀ q ∈ bX4_haveOneSort_33, decode mX4_haveOneSort.2.1 q.1 = .ok (q.2, aLn q.2) := by decide +kernel
theorem dX4_haveOneSort_1 : decode mX4_haveOneSort.2.1 1 = .ok (.invokestatic 30, 3) := by decide +kernel
theorem dX4_haveOneSort_4 : decode mX4_haveOneSort.2.1 4 = .ok (.ifCond .eq 29, 3) := by decide +kernel
theorem dX4_haveOneSort_8 : decode mX4_haveOneSort.2.1 8 = .ok (.invokestatic 30, 3) := by decide +kernel
theorem dX4_haveOneSort_11 : decode mX4_haveOneSort.2.1 11 = .ok (.ifCond .eq 22, 3) := by decide +kernel
theorem dX4_haveOneSort_26 : decode mX4_haveOneSort.2.1 26 = .ok (.if_icmp .ne 7, 3) := by decide +kernel
theorem dX4_haveOneSort_34 : decode mX4_haveOneSort.2.1 34 = .ok (.ireturn, 1) := by decide +kernel
def bX4_hasPlace_0 : List (Nat × Instr) := [(0, .iload_n 2)]
theorem bX4_hasPlace_0_ok : ∀ q ∈ bX4_hasPlace_0, decode mX4_hasPlace.2.1 q.1 = .ok (q.2, aLn q.2) := by decide +kernel
def bX4_hasPlace_4 : List (Nat × Instr) := [(4, .iload_n 2), (5, .aload_n 0), (6, .iload_n 1)]
theorem bX4_hasPlace_4_ok : ∀ q ∈ bX4_hasPlace_4, decode mX4_hasPlace.2.1 q.1 = .ok (q.2, aLn q.2) := by decide +kernel
def bX4_hasPlace_13 : List (Nat × Instr) := [(13, .iconst 1), (14, .goto 4)]
theorem bX4_hasPlace_13_ok : ∀ q ∈ bX4_hasPlace_13, decode mX4_hasPlace.2.1 q.1 = .ok (q.2, aLn q.2) := by decide +kernel
def bX4_hasPlace_17 : List (Nat × Instr) := [(17, .iconst 0)]
theorem bX4_hasPlace_17_ok : ∀ q ∈ bX4_hasPlace_17, decode mX4_hasPlace.2.1 q.1 = .ok (q.2, aLn q.2) := by decide +kernel
theorem dX4_hasPlace_1 : decode mX4_hasPlace.2.1 1 = .ok (.ifCond .lt 16, 3) := by decide +kernel
theorem dX4_hasPlace_7 : decode mX4_hasPlace.2.1 7 = .ok (.invokevirtual 38, 3) := by decide +kernel
theorem dX4_hasPlace_10 : decode mX4_hasPlace.2.1 10 = .ok (.if_icmp .ge 7, 3) := by decide +kernel
theorem dX4_hasPlace_18 : decode mX4_hasPlace.2.1 18 = .ok (.ireturn, 1) := by decide +kernel
def bX4_hasPlaces_0 : List (Nat × Instr) := [(0, .iload_n 3)]
theorem bX4_hasPlaces_0_ok : ∀ q ∈ bX4_hasPlaces_0, decode mX4_hasPlaces.2.1 q.1 = .ok (q.2, aLn q.2) := by decide +kernel
def bX4_hasPlaces_4 : List (Nat × Instr) := [(4, .iload_n 2)]
theorem bX4_hasPlaces_4_ok : ∀ q ∈ bX4_hasPlaces_4, decode mX4_hasPlaces.2.1 q.1 = .ok (q.2, aLn q.2) := by decide +kernel
def bX4_hasPlaces_8 : List (Nat × Instr) := [(8, .iload_n 2), (9, .aload_n 0), (10, .iload_n 1)]
theorem bX4_hasPlaces_8_ok : ∀ q ∈ bX4_hasPlaces_8, decode mX4_hasPlaces.2.1 q.1 = .ok (q.2, aLn q.2) := by decide +kernel
def bX4_hasPlaces_14 : List (Nat × Instr) := [(14, .iload_n 3), (15, .isub)]
theorem bX4_hasPlaces_14_ok : ∀ q ∈ bX4_hasPlaces_14, decode mX4_hasPlaces.2.1 q.1 = .ok (q.2, aLn q.2) := by decide +kernel
def bX4_hasPlaces_19 : List (Nat × Instr) := [(19, .iconst 1), (20, .goto 4)]
theorem bX4_hasPlaces_19_ok : ∀ q ∈ bX4_hasPlaces_19, decode mX4_hasPlaces.2.1 q.1 = .ok (q.2, aLn q.2) := by decide +kernel
def bX4_hasPlaces_23 : List (Nat × Instr) := [(23, .iconst 0)]
theorem bX4_hasPlaces_23_ok : ∀ q ∈ bX4_hasPlaces_23, decode mX4_hasPlaces.2.1 q.1 = .ok (q.2, aLn q.2) := by decide +kernel
theorem dX4_hasPlaces_1 : decode mX4_hasPlaces.2.1 1 = .ok (.ifCond .lt 22, 3) := by decide +kernel
theorem dX4_hasPlaces_5 : decode mX4_hasPlaces.2.1 5 = .ok (.ifCond .lt 18, 3) := by decide +kernel
theorem dX4_hasPlaces_11 : decode mX4_hasPlaces.2.1 11 = .ok (.invokevirtual 38, 3) := by decide +kernel
theorem dX4_hasPlaces_16 : decode mX4_hasPlaces.2.1 16 = .ok (.if_icmp .gt 7, 3) := by decide +kernel
theorem dX4_hasPlaces_24 : decode mX4_hasPlaces.2.1 24 = .ok (.ireturn, 1) := by decide +kernel
def bX4_valueAt_0 : List (Nat × Instr) := [(0, .aload_n 0), (1, .iload_n 1), (2, .iload_n 2)]
theorem bX4_valueAt_0_ok : ∀ q ∈ bX4_valueAt_0, decode mX4_valueAt.2.1 q.1 = .ok (q.2, aLn q.2) := by decide +kernel
def bX4_valueAt_9 : List (Nat × Instr) := [(9, .aload_n 0), (10, .getfield 27), (13, .iload_n 1), (14, .bipush 100), (16, .imul), (17, .iload_n 2), (18, .iadd), (19, .iaload), (20, .goto 4)]
theorem bX4_valueAt_9_ok : ∀ q ∈ bX4_valueAt_9, decode mX4_valueAt.2.1 q.1 = .ok (q.2, aLn q.2) := by decide +kernel
def bX4_valueAt_23 : List (Nat × Instr) := [(23, .iconst 0)]
theorem bX4_valueAt_23_ok : ∀ q ∈ bX4_valueAt_23, decode mX4_valueAt.2.1 q.1 = .ok (q.2, aLn q.2) := by decide +kernel
theorem dX4_valueAt_3 : decode mX4_valueAt.2.1 3 = .ok (.invokevirtual 42, 3) := by decide +kernel
theorem dX4_valueAt_6 : decode mX4_valueAt.2.1 6 = .ok (.ifCond .eq 17, 3) := by decide +kernel
theorem dX4_valueAt_24 : decode mX4_valueAt.2.1 24 = .ok (.ireturn, 1) := by decide +kernel
def bX4_isSkipped_0 : List (Nat × Instr) := [(0, .iload_n 1)]
theorem bX4_isSkipped_0_ok : ∀ q ∈ bX4_isSkipped_0, decode mX4_isSkipped.2.1 q.1 = .ok (q.2, aLn q.2) := by decide +kernel
def bX4_isSkipped_7 : List (Nat × Instr) := [(7, .aload_n 0), (8, .iload_n 1), (9, .iload_n 2)]
theorem bX4_isSkipped_7_ok : ∀ q ∈ bX4_isSkipped_7, decode mX4_isSkipped.2.1 q.1 = .ok (q.2, aLn q.2) := by decide +kernel
def bX4_isSkipped_13 : List (Nat × Instr) := [(13, .aload_n 0), (14, .getfield 21), (17, .iload_n 1), (18, .iaload)]
theorem bX4_isSkipped_13_ok : ∀ q ∈ bX4_isSkipped_13, decode mX4_isSkipped.2.1 q.1 = .ok (q.2, aLn q.2) := by decide +kernel
def bX4_isSkipped_25 : List (Nat × Instr) := [(25, .iconst 1), (26, .goto 4)]
theorem bX4_isSkipped_25_ok : ∀ q ∈ bX4_isSkipped_25, decode mX4_isSkipped.2.1 q.1 = .ok (q.2, aLn q.2) := by decide +kernel
def bX4_isSkipped_29 : List (Nat × Instr) := [(29, .iconst 0)]
theorem bX4_isSkipped_29_ok : ∀ q ∈ bX4_isSkipped_29, decode mX4_isSkipped.2.1 q.1 = .ok (q.2, aLn q.2) := by decide +kernel
theorem dX4_isSkipped_1 : decode mX4_isSkipped.2.1 1 = .ok (.invokestatic 30, 3) := by decide +kernel
theorem dX4_isSkipped_4 : decode mX4_isSkipped.2.1 4 = .ok (.ifCond .eq 25, 3) := by decide +kernel
theorem dX4_isSkipped_10 : decode mX4_isSkipped.2.1 10 = .ok (.invokevirtual 46, 3) := by decide +kernel
theorem dX4_isSkipped_19 : decode mX4_isSkipped.2.1 19 = .ok (.invokestatic 49, 3) := by decide +kernel
theorem dX4_isSkipped_22 : decode mX4_isSkipped.2.1 22 = .ok (.if_icmp .ne 7, 3) := by decide +kernel
theorem dX4_isSkipped_30 : decode mX4_isSkipped.2.1 30 = .ok (.ireturn, 1) := by decide +kernel
def bX4_leastOf_0 : List (Nat × Instr) := [(0, .iload_n 0)]
theorem bX4_leastOf_0_ok : ∀ q ∈ bX4_leastOf_0, decode mX4_leastOf.2.1 q.1 = .ok (q.2, aLn q.2) := by decide +kernel
def bX4_leastOf_28 : List (Nat × Instr) := [(28, .bipush (-128))]
theorem bX4_leastOf_28_ok : ∀ q ∈ bX4_leastOf_28, decode mX4_leastOf.2.1 q.1 = .ok (q.2, aLn q.2) := by decide +kernel
def bX4_leastOf_31 : List (Nat × Instr) := [(31, .sipush (-32768))]
theorem bX4_leastOf_31_ok : ∀ q ∈ bX4_leastOf_31, decode mX4_leastOf.2.1 q.1 = .ok (q.2, aLn q.2) := by decide +kernel
def bX4_leastOf_35 : List (Nat × Instr) := [(35, .ldc 52)]
theorem bX4_leastOf_35_ok : ∀ q ∈ bX4_leastOf_35, decode mX4_leastOf.2.1 q.1 = .ok (q.2, aLn q.2) := by decide +kernel
theorem dX4_leastOf_1 : decode mX4_leastOf.2.1 1 = .ok (.lookupswitch 34 #[(0, 27), (1, 30)], 27) := by decide +kernel
theorem dX4_leastOf_30 : decode mX4_leastOf.2.1 30 = .ok (.ireturn, 1) := by decide +kernel
theorem dX4_leastOf_34 : decode mX4_leastOf.2.1 34 = .ok (.ireturn, 1) := by decide +kernel
theorem dX4_leastOf_37 : decode mX4_leastOf.2.1 37 = .ok (.ireturn, 1) := by decide +kernel
def bX4_write_0 : List (Nat × Instr) := [(0, .aload_n 0), (1, .iload_n 1), (2, .iload_n 2)]
theorem bX4_write_0_ok : ∀ q ∈ bX4_write_0, decode mX4_write.2.1 q.1 = .ok (q.2, aLn q.2) := by decide +kernel
def bX4_write_9 : List (Nat × Instr) := [(9, .aload_n 0), (10, .getfield 27), (13, .iload_n 1), (14, .bipush 100), (16, .imul), (17, .iload_n 2), (18, .iadd), (19, .aload_n 0), (20, .getfield 21), (23, .iload_n 1), (24, .iaload), (25, .iload_n 3)]
theorem bX4_write_9_ok : ∀ q ∈ bX4_write_9, decode mX4_write.2.1 q.1 = .ok (q.2, aLn q.2) := by decide +kernel
def bX4_write_29 : List (Nat × Instr) := [(29, .iastore)]
theorem bX4_write_29_ok : ∀ q ∈ bX4_write_29, decode mX4_write.2.1 q.1 = .ok (q.2, aLn q.2) := by decide +kernel
theorem dX4_write_3 : decode mX4_write.2.1 3 = .ok (.invokevirtual 42, 3) := by decide +kernel
theorem dX4_write_6 : decode mX4_write.2.1 6 = .ok (.ifCond .eq 24, 3) := by decide +kernel
theorem dX4_write_26 : decode mX4_write.2.1 26 = .ok (.invokestatic 53, 3) := by decide +kernel
theorem dX4_write_30 : decode mX4_write.2.1 30 = .ok (.return_, 1) := by decide +kernel
def bX4_cutTo_0 : List (Nat × Instr) := [(0, .iload_n 0)]
theorem bX4_cutTo_0_ok : ∀ q ∈ bX4_cutTo_0, decode mX4_cutTo.2.1 q.1 = .ok (q.2, aLn q.2) := by decide +kernel
def bX4_cutTo_28 : List (Nat × Instr) := [(28, .iload_n 1), (29, .i2b)]
theorem bX4_cutTo_28_ok : ∀ q ∈ bX4_cutTo_28, decode mX4_cutTo.2.1 q.1 = .ok (q.2, aLn q.2) := by decide +kernel
def bX4_cutTo_31 : List (Nat × Instr) := [(31, .iload_n 1), (32, .i2s)]
theorem bX4_cutTo_31_ok : ∀ q ∈ bX4_cutTo_31, decode mX4_cutTo.2.1 q.1 = .ok (q.2, aLn q.2) := by decide +kernel
def bX4_cutTo_34 : List (Nat × Instr) := [(34, .iload_n 1)]
theorem bX4_cutTo_34_ok : ∀ q ∈ bX4_cutTo_34, decode mX4_cutTo.2.1 q.1 = .ok (q.2, aLn q.2) := by decide +kernel
theorem dX4_cutTo_1 : decode mX4_cutTo.2.1 1 = .ok (.lookupswitch 33 #[(0, 27), (1, 30)], 27) := by decide +kernel
theorem dX4_cutTo_30 : decode mX4_cutTo.2.1 30 = .ok (.ireturn, 1) := by decide +kernel
theorem dX4_cutTo_33 : decode mX4_cutTo.2.1 33 = .ok (.ireturn, 1) := by decide +kernel
theorem dX4_cutTo_35 : decode mX4_cutTo.2.1 35 = .ok (.ireturn, 1) := by decide +kernel
def bX4_move_0 : List (Nat × Instr) := [(0, .aload_n 0), (1, .iload_n 1), (2, .iload_n 2), (3, .iload 5)]
theorem bX4_move_0_ok : ∀ q ∈ bX4_move_0, decode mX4_move.2.1 q.1 = .ok (q.2, aLn q.2) := by decide +kernel
def bX4_move_11 : List (Nat × Instr) := [(11, .aload_n 0), (12, .iload_n 3), (13, .iload 4), (15, .iload 5)]
theorem bX4_move_11_ok : ∀ q ∈ bX4_move_11, decode mX4_move.2.1 q.1 = .ok (q.2, aLn q.2) := by decide +kernel
def bX4_move_23 : List (Nat × Instr) := [(23, .aload_n 0), (24, .getfield 27), (27, .iload_n 1), (28, .bipush 100), (30, .imul), (31, .iload_n 2), (32, .iadd), (33, .aload_n 0), (34, .getfield 27), (37, .iload_n 3), (38, .bipush 100), (40, .imul), (41, .iload 4), (43, .iadd), (44, .iload 5)]
theorem bX4_move_23_ok : ∀ q ∈ bX4_move_23, decode mX4_move.2.1 q.1 = .ok (q.2, aLn q.2) := by decide +kernel
theorem dX4_move_5 : decode mX4_move.2.1 5 = .ok (.invokevirtual 56, 3) := by decide +kernel
theorem dX4_move_8 : decode mX4_move.2.1 8 = .ok (.ifCond .eq 41, 3) := by decide +kernel
theorem dX4_move_17 : decode mX4_move.2.1 17 = .ok (.invokevirtual 56, 3) := by decide +kernel
theorem dX4_move_20 : decode mX4_move.2.1 20 = .ok (.ifCond .eq 29, 3) := by decide +kernel
theorem dX4_move_46 : decode mX4_move.2.1 46 = .ok (.invokestatic 60, 3) := by decide +kernel
theorem dX4_move_49 : decode mX4_move.2.1 49 = .ok (.return_, 1) := by decide +kernel
def bX5_brokenPlace_0 : List (Nat × Instr) := [(0, .aload_n 0), (1, .iload_n 1)]
theorem bX5_brokenPlace_0_ok : ∀ q ∈ bX5_brokenPlace_0, decode mX5_brokenPlace.2.1 q.1 = .ok (q.2, aLn q.2) := by decide +kernel
def bX5_brokenPlace_5 : List (Nat × Instr) := [(5, .istore_n 2), (6, .iconst (-1)), (7, .istore_n 3), (8, .iconst 0), (9, .istore 4)]
theorem bX5_brokenPlace_5_ok : ∀ q ∈ bX5_brokenPlace_5, decode mX5_brokenPlace.2.1 q.1 = .ok (q.2, aLn q.2) := by decide +kernel
def bX5_brokenPlace_11 : List (Nat × Instr) := [(11, .iload 4), (13, .iload_n 2)]
theorem bX5_brokenPlace_11_ok : ∀ q ∈ bX5_brokenPlace_11, decode mX5_brokenPlace.2.1 q.1 = .ok (q.2, aLn q.2) := by decide +kernel
def bX5_brokenPlace_17 : List (Nat × Instr) := [(17, .aload_n 0), (18, .iload_n 1), (19, .iload 4)]
theorem bX5_brokenPlace_17_ok : ∀ q ∈ bX5_brokenPlace_17, decode mX5_brokenPlace.2.1 q.1 = .ok (q.2, aLn q.2) := by decide +kernel
def bX5_brokenPlace_24 : List (Nat × Instr) := [(24, .istore 5), (26, .iload_n 3)]
theorem bX5_brokenPlace_24_ok : ∀ q ∈ bX5_brokenPlace_24, decode mX5_brokenPlace.2.1 q.1 = .ok (q.2, aLn q.2) := by decide +kernel
def bX5_brokenPlace_30 : List (Nat × Instr) := [(30, .iload 5)]
theorem bX5_brokenPlace_30_ok : ∀ q ∈ bX5_brokenPlace_30, decode mX5_brokenPlace.2.1 q.1 = .ok (q.2, aLn q.2) := by decide +kernel
def bX5_brokenPlace_35 : List (Nat × Instr) := [(35, .istore_n 3), (36, .iload_n 3)]
theorem bX5_brokenPlace_35_ok : ∀ q ∈ bX5_brokenPlace_35, decode mX5_brokenPlace.2.1 q.1 = .ok (q.2, aLn q.2) := by decide +kernel
def bX5_brokenPlace_40 : List (Nat × Instr) := [(40, .iload 4)]
theorem bX5_brokenPlace_40_ok : ∀ q ∈ bX5_brokenPlace_40, decode mX5_brokenPlace.2.1 q.1 = .ok (q.2, aLn q.2) := by decide +kernel
def bX5_brokenPlace_43 : List (Nat × Instr) := [(43, .iload_n 3)]
theorem bX5_brokenPlace_43_ok : ∀ q ∈ bX5_brokenPlace_43, decode mX5_brokenPlace.2.1 q.1 = .ok (q.2, aLn q.2) := by decide +kernel
def bX5_brokenPlace_47 : List (Nat × Instr) := [(47, .iload 5), (49, .bipush 59)]
theorem bX5_brokenPlace_47_ok : ∀ q ∈ bX5_brokenPlace_47, decode mX5_brokenPlace.2.1 q.1 = .ok (q.2, aLn q.2) := by decide +kernel
def bX5_brokenPlace_54 : List (Nat × Instr) := [(54, .iload 4)]
theorem bX5_brokenPlace_54_ok : ∀ q ∈ bX5_brokenPlace_54, decode mX5_brokenPlace.2.1 q.1 = .ok (q.2, aLn q.2) := by decide +kernel
def bX5_brokenPlace_57 : List (Nat × Instr) := [(57, .iconst (-1)), (58, .istore_n 3), (59, .goto 23)]
theorem bX5_brokenPlace_57_ok : ∀ q ∈ bX5_brokenPlace_57, decode mX5_brokenPlace.2.1 q.1 = .ok (q.2, aLn q.2) := by decide +kernel
def bX5_brokenPlace_62 : List (Nat × Instr) := [(62, .iload 5), (64, .bipush 48)]
theorem bX5_brokenPlace_62_ok : ∀ q ∈ bX5_brokenPlace_62, decode mX5_brokenPlace.2.1 q.1 = .ok (q.2, aLn q.2) := by decide +kernel
def bX5_brokenPlace_69 : List (Nat × Instr) := [(69, .iload 5), (71, .bipush 57)]
theorem bX5_brokenPlace_69_ok : ∀ q ∈ bX5_brokenPlace_69, decode mX5_brokenPlace.2.1 q.1 = .ok (q.2, aLn q.2) := by decide +kernel
def bX5_brokenPlace_76 : List (Nat × Instr) := [(76, .iload 4)]
theorem bX5_brokenPlace_76_ok : ∀ q ∈ bX5_brokenPlace_76, decode mX5_brokenPlace.2.1 q.1 = .ok (q.2, aLn q.2) := by decide +kernel
def bX5_brokenPlace_79 : List (Nat × Instr) := [(79, .iinc 3 (-1))]
theorem bX5_brokenPlace_79_ok : ∀ q ∈ bX5_brokenPlace_79, decode mX5_brokenPlace.2.1 q.1 = .ok (q.2, aLn q.2) := by decide +kernel
def bX5_brokenPlace_82 : List (Nat × Instr) := [(82, .iinc 4 1), (85, .goto (-74))]
theorem bX5_brokenPlace_82_ok : ∀ q ∈ bX5_brokenPlace_82, decode mX5_brokenPlace.2.1 q.1 = .ok (q.2, aLn q.2) := by decide +kernel
def bX5_brokenPlace_88 : List (Nat × Instr) := [(88, .iload_n 3)]
theorem bX5_brokenPlace_88_ok : ∀ q ∈ bX5_brokenPlace_88, decode mX5_brokenPlace.2.1 q.1 = .ok (q.2, aLn q.2) := by decide +kernel
def bX5_brokenPlace_92 : List (Nat × Instr) := [(92, .iload_n 2)]
theorem bX5_brokenPlace_92_ok : ∀ q ∈ bX5_brokenPlace_92, decode mX5_brokenPlace.2.1 q.1 = .ok (q.2, aLn q.2) := by decide +kernel
def bX5_brokenPlace_96 : List (Nat × Instr) := [(96, .iconst (-1)), (97, .goto 4)]
theorem bX5_brokenPlace_96_ok : ∀ q ∈ bX5_brokenPlace_96, decode mX5_brokenPlace.2.1 q.1 = .ok (q.2, aLn q.2) := by decide +kernel
def bX5_brokenPlace_100 : List (Nat × Instr) := [(100, .iload_n 2)]
theorem bX5_brokenPlace_100_ok : ∀ q ∈ bX5_brokenPlace_100, decode mX5_brokenPlace.2.1 q.1 = .ok (q.2, aLn q.2) := by decide +kernel
theorem dX5_brokenPlace_2 : decode mX5_brokenPlace.2.1 2 = .ok (.invokevirtual 9, 3) := by decide +kernel
theorem dX5_brokenPlace_14 : decode mX5_brokenPlace.2.1 14 = .ok (.if_icmp .ge 74, 3) := by decide +kernel
theorem dX5_brokenPlace_21 : decode mX5_brokenPlace.2.1 21 = .ok (.invokevirtual 15, 3) := by decide +kernel
theorem dX5_brokenPlace_27 : decode mX5_brokenPlace.2.1 27 = .ok (.ifCond .ge 16, 3) := by decide +kernel
theorem dX5_brokenPlace_32 : decode mX5_brokenPlace.2.1 32 = .ok (.invokestatic 19, 3) := by decide +kernel
theorem dX5_brokenPlace_37 : decode mX5_brokenPlace.2.1 37 = .ok (.ifCond .ne 45, 3) := by decide +kernel
theorem dX5_brokenPlace_42 : decode mX5_brokenPlace.2.1 42 = .ok (.ireturn, 1) := by decide +kernel
theorem dX5_brokenPlace_44 : decode mX5_brokenPlace.2.1 44 = .ok (.ifCond .ne 18, 3) := by decide +kernel
theorem dX5_brokenPlace_51 : decode mX5_brokenPlace.2.1 51 = .ok (.if_icmp .eq 6, 3) := by decide +kernel
theorem dX5_brokenPlace_56 : decode mX5_brokenPlace.2.1 56 = .ok (.ireturn, 1) := by decide +kernel
theorem dX5_brokenPlace_66 : decode mX5_brokenPlace.2.1 66 = .ok (.if_icmp .lt 10, 3) := by decide +kernel
theorem dX5_brokenPlace_73 : decode mX5_brokenPlace.2.1 73 = .ok (.if_icmp .le 6, 3) := by decide +kernel
theorem dX5_brokenPlace_78 : decode mX5_brokenPlace.2.1 78 = .ok (.ireturn, 1) := by decide +kernel
theorem dX5_brokenPlace_89 : decode mX5_brokenPlace.2.1 89 = .ok (.ifCond .ge 11, 3) := by decide +kernel
theorem dX5_brokenPlace_93 : decode mX5_brokenPlace.2.1 93 = .ok (.ifCond .le 7, 3) := by decide +kernel
theorem dX5_brokenPlace_101 : decode mX5_brokenPlace.2.1 101 = .ok (.ireturn, 1) := by decide +kernel
def bX5_digitsBehind_0 : List (Nat × Instr) := [(0, .iload_n 0)]
theorem bX5_digitsBehind_0_ok : ∀ q ∈ bX5_digitsBehind_0, decode mX5_digitsBehind.2.1 q.1 = .ok (q.2, aLn q.2) := by decide +kernel
def bX5_digitsBehind_68 : List (Nat × Instr) := [(68, .iconst 3)]
theorem bX5_digitsBehind_68_ok : ∀ q ∈ bX5_digitsBehind_68, decode mX5_digitsBehind.2.1 q.1 = .ok (q.2, aLn q.2) := by decide +kernel
def bX5_digitsBehind_70 : List (Nat × Instr) := [(70, .iconst 2)]
theorem bX5_digitsBehind_70_ok : ∀ q ∈ bX5_digitsBehind_70, decode mX5_digitsBehind.2.1 q.1 = .ok (q.2, aLn q.2) := by decide +kernel
def bX5_digitsBehind_72 : List (Nat × Instr) := [(72, .iconst 1)]
theorem bX5_digitsBehind_72_ok : ∀ q ∈ bX5_digitsBehind_72, decode mX5_digitsBehind.2.1 q.1 = .ok (q.2, aLn q.2) := by decide +kernel
def bX5_digitsBehind_74 : List (Nat × Instr) := [(74, .iconst 0)]
theorem bX5_digitsBehind_74_ok : ∀ q ∈ bX5_digitsBehind_74, decode mX5_digitsBehind.2.1 q.1 = .ok (q.2, aLn q.2) := by decide +kernel
theorem dX5_digitsBehind_1 : decode mX5_digitsBehind.2.1 1 = .ok (.tableswitch 73 100 112 #[69, 71, 73, 73, 69, 73, 73, 67, 73, 73, 73, 69, 67], 67) := by decide +kernel
theorem dX5_digitsBehind_69 : decode mX5_digitsBehind.2.1 69 = .ok (.ireturn, 1) := by decide +kernel
theorem dX5_digitsBehind_71 : decode mX5_digitsBehind.2.1 71 = .ok (.ireturn, 1) := by decide +kernel
theorem dX5_digitsBehind_73 : decode mX5_digitsBehind.2.1 73 = .ok (.ireturn, 1) := by decide +kernel
theorem dX5_digitsBehind_75 : decode mX5_digitsBehind.2.1 75 = .ok (.ireturn, 1) := by decide +kernel
def bX5_obeyed_0 : List (Nat × Instr) := [(0, .aload_n 0), (1, .iload_n 1)]
theorem bX5_obeyed_0_ok : ∀ q ∈ bX5_obeyed_0, decode mX5_obeyed.2.1 q.1 = .ok (q.2, aLn q.2) := by decide +kernel
def bX5_obeyed_5 : List (Nat × Instr) := [(5, .istore_n 3), (6, .iconst 0), (7, .istore 4), (9, .iconst 0), (10, .istore 5)]
theorem bX5_obeyed_5_ok : ∀ q ∈ bX5_obeyed_5, decode mX5_obeyed.2.1 q.1 = .ok (q.2, aLn q.2) := by decide +kernel
def bX5_obeyed_12 : List (Nat × Instr) := [(12, .iload 5), (14, .iload_n 3)]
theorem bX5_obeyed_12_ok : ∀ q ∈ bX5_obeyed_12, decode mX5_obeyed.2.1 q.1 = .ok (q.2, aLn q.2) := by decide +kernel
def bX5_obeyed_18 : List (Nat × Instr) := [(18, .aload_n 0), (19, .iload_n 1), (20, .iload 5)]
theorem bX5_obeyed_18_ok : ∀ q ∈ bX5_obeyed_18, decode mX5_obeyed.2.1 q.1 = .ok (q.2, aLn q.2) := by decide +kernel
def bX5_obeyed_25 : List (Nat × Instr) := [(25, .istore 6), (27, .aload_n 0), (28, .iload_n 1), (29, .iload 5), (31, .iconst 1), (32, .iadd)]
theorem bX5_obeyed_25_ok : ∀ q ∈ bX5_obeyed_25, decode mX5_obeyed.2.1 q.1 = .ok (q.2, aLn q.2) := by decide +kernel
def bX5_obeyed_36 : List (Nat × Instr) := [(36, .bipush 48), (38, .isub), (39, .istore 7), (41, .aload_n 0), (42, .iload_n 1), (43, .iload 5), (45, .iconst 2), (46, .iadd)]
theorem bX5_obeyed_36_ok : ∀ q ∈ bX5_obeyed_36, decode mX5_obeyed.2.1 q.1 = .ok (q.2, aLn q.2) := by decide +kernel
def bX5_obeyed_50 : List (Nat × Instr) := [(50, .bipush 48), (52, .isub), (53, .istore 8), (55, .aload_n 0), (56, .iload_n 1), (57, .iload 5), (59, .iconst 3), (60, .iadd)]
theorem bX5_obeyed_50_ok : ∀ q ∈ bX5_obeyed_50, decode mX5_obeyed.2.1 q.1 = .ok (q.2, aLn q.2) := by decide +kernel
def bX5_obeyed_64 : List (Nat × Instr) := [(64, .bipush 48), (66, .isub), (67, .istore 9), (69, .aload_n 2), (70, .iload 6), (72, .iload 7), (74, .iload 8), (76, .iload 9)]
theorem bX5_obeyed_64_ok : ∀ q ∈ bX5_obeyed_64, decode mX5_obeyed.2.1 q.1 = .ok (q.2, aLn q.2) := by decide +kernel
def bX5_obeyed_84 : List (Nat × Instr) := [(84, .sipush (-2000)), (87, .iload 5), (89, .isub)]
theorem bX5_obeyed_84_ok : ∀ q ∈ bX5_obeyed_84, decode mX5_obeyed.2.1 q.1 = .ok (q.2, aLn q.2) := by decide +kernel
def bX5_obeyed_91 : List (Nat × Instr) := [(91, .iinc 4 1), (94, .iload 5), (96, .iload 6)]
theorem bX5_obeyed_91_ok : ∀ q ∈ bX5_obeyed_91, decode mX5_obeyed.2.1 q.1 = .ok (q.2, aLn q.2) := by decide +kernel
def bX5_obeyed_101 : List (Nat × Instr) := [(101, .iconst 2), (102, .iadd), (103, .iadd), (104, .istore 5), (106, .goto (-94))]
theorem bX5_obeyed_101_ok : ∀ q ∈ bX5_obeyed_101, decode mX5_obeyed.2.1 q.1 = .ok (q.2, aLn q.2) := by decide +kernel
def bX5_obeyed_109 : List (Nat × Instr) := [(109, .iload 4)]
theorem bX5_obeyed_109_ok : ∀ q ∈ bX5_obeyed_109, decode mX5_obeyed.2.1 q.1 = .ok (q.2, aLn q.2) := by decide +kernel
theorem dX5_obeyed_2 : decode mX5_obeyed.2.1 2 = .ok (.invokevirtual 9, 3) := by decide +kernel
theorem dX5_obeyed_15 : decode mX5_obeyed.2.1 15 = .ok (.if_icmp .ge 94, 3) := by decide +kernel
theorem dX5_obeyed_22 : decode mX5_obeyed.2.1 22 = .ok (.invokevirtual 15, 3) := by decide +kernel
theorem dX5_obeyed_33 : decode mX5_obeyed.2.1 33 = .ok (.invokevirtual 15, 3) := by decide +kernel
theorem dX5_obeyed_47 : decode mX5_obeyed.2.1 47 = .ok (.invokevirtual 15, 3) := by decide +kernel
theorem dX5_obeyed_61 : decode mX5_obeyed.2.1 61 = .ok (.invokevirtual 15, 3) := by decide +kernel
theorem dX5_obeyed_78 : decode mX5_obeyed.2.1 78 = .ok (.invokestatic 24, 3) := by decide +kernel
theorem dX5_obeyed_81 : decode mX5_obeyed.2.1 81 = .ok (.ifCond .ne 10, 3) := by decide +kernel
theorem dX5_obeyed_90 : decode mX5_obeyed.2.1 90 = .ok (.ireturn, 1) := by decide +kernel
theorem dX5_obeyed_98 : decode mX5_obeyed.2.1 98 = .ok (.invokestatic 19, 3) := by decide +kernel
theorem dX5_obeyed_111 : decode mX5_obeyed.2.1 111 = .ok (.ireturn, 1) := by decide +kernel
def bX5_isObeyed_0 : List (Nat × Instr) := [(0, .iload_n 1)]
theorem bX5_isObeyed_0_ok : ∀ q ∈ bX5_isObeyed_0, decode mX5_isObeyed.2.1 q.1 = .ok (q.2, aLn q.2) := by decide +kernel
def bX5_isObeyed_64 : List (Nat × Instr) := [(64, .iload_n 2), (65, .bipush 8)]
theorem bX5_isObeyed_64_ok : ∀ q ∈ bX5_isObeyed_64, decode mX5_isObeyed.2.1 q.1 = .ok (q.2, aLn q.2) := by decide +kernel
def bX5_isObeyed_70 : List (Nat × Instr) := [(70, .iload 4)]
theorem bX5_isObeyed_70_ok : ∀ q ∈ bX5_isObeyed_70, decode mX5_isObeyed.2.1 q.1 = .ok (q.2, aLn q.2) := by decide +kernel
def bX5_isObeyed_78 : List (Nat × Instr) := [(78, .aload_n 0), (79, .iload_n 2), (80, .iload_n 3), (81, .iload 4)]
theorem bX5_isObeyed_78_ok : ∀ q ∈ bX5_isObeyed_78, decode mX5_isObeyed.2.1 q.1 = .ok (q.2, aLn q.2) := by decide +kernel
def bX5_isObeyed_89 : List (Nat × Instr) := [(89, .iconst 1), (90, .goto 4)]
theorem bX5_isObeyed_89_ok : ∀ q ∈ bX5_isObeyed_89, decode mX5_isObeyed.2.1 q.1 = .ok (q.2, aLn q.2) := by decide +kernel
def bX5_isObeyed_93 : List (Nat × Instr) := [(93, .iconst 0)]
theorem bX5_isObeyed_93_ok : ∀ q ∈ bX5_isObeyed_93, decode mX5_isObeyed.2.1 q.1 = .ok (q.2, aLn q.2) := by decide +kernel
def bX5_isObeyed_95 : List (Nat × Instr) := [(95, .aload_n 0), (96, .iload_n 2), (97, .iload_n 3)]
theorem bX5_isObeyed_95_ok : ∀ q ∈ bX5_isObeyed_95, decode mX5_isObeyed.2.1 q.1 = .ok (q.2, aLn q.2) := by decide +kernel
def bX5_isObeyed_102 : List (Nat × Instr) := [(102, .aload_n 0), (103, .iload_n 2), (104, .iload_n 3)]
theorem bX5_isObeyed_102_ok : ∀ q ∈ bX5_isObeyed_102, decode mX5_isObeyed.2.1 q.1 = .ok (q.2, aLn q.2) := by decide +kernel
def bX5_isObeyed_109 : List (Nat × Instr) := [(109, .aload_n 0), (110, .iload_n 2)]
theorem bX5_isObeyed_109_ok : ∀ q ∈ bX5_isObeyed_109, decode mX5_isObeyed.2.1 q.1 = .ok (q.2, aLn q.2) := by decide +kernel
def bX5_isObeyed_115 : List (Nat × Instr) := [(115, .aload_n 0), (116, .iload_n 2), (117, .bipush 10), (119, .iload_n 3), (120, .imul), (121, .iload 4), (123, .iadd)]
theorem bX5_isObeyed_115_ok : ∀ q ∈ bX5_isObeyed_115, decode mX5_isObeyed.2.1 q.1 = .ok (q.2, aLn q.2) := by decide +kernel
def bX5_isObeyed_128 : List (Nat × Instr) := [(128, .aload_n 0), (129, .bipush 10), (131, .iload_n 2), (132, .imul), (133, .iload_n 3), (134, .iadd)]
theorem bX5_isObeyed_128_ok : ∀ q ∈ bX5_isObeyed_128, decode mX5_isObeyed.2.1 q.1 = .ok (q.2, aLn q.2) := by decide +kernel
theorem dX5_isObeyed_1 : decode mX5_isObeyed.2.1 1 = .ok (.tableswitch 127 101 112 #[108, 127, 127, 101, 127, 127, 114, 127, 127, 127, 94, 63], 63) := by decide +kernel
theorem dX5_isObeyed_67 : decode mX5_isObeyed.2.1 67 = .ok (.if_icmp .ge 26, 3) := by decide +kernel
theorem dX5_isObeyed_72 : decode mX5_isObeyed.2.1 72 = .ok (.invokestatic 28, 3) := by decide +kernel
theorem dX5_isObeyed_75 : decode mX5_isObeyed.2.1 75 = .ok (.ifCond .eq 18, 3) := by decide +kernel
theorem dX5_isObeyed_83 : decode mX5_isObeyed.2.1 83 = .ok (.invokevirtual 32, 3) := by decide +kernel
theorem dX5_isObeyed_86 : decode mX5_isObeyed.2.1 86 = .ok (.ifCond .lt 7, 3) := by decide +kernel
theorem dX5_isObeyed_94 : decode mX5_isObeyed.2.1 94 = .ok (.ireturn, 1) := by decide +kernel
theorem dX5_isObeyed_98 : decode mX5_isObeyed.2.1 98 = .ok (.invokestatic 38, 3) := by decide +kernel
theorem dX5_isObeyed_101 : decode mX5_isObeyed.2.1 101 = .ok (.ireturn, 1) := by decide +kernel
theorem dX5_isObeyed_105 : decode mX5_isObeyed.2.1 105 = .ok (.invokestatic 42, 3) := by decide +kernel
theorem dX5_isObeyed_108 : decode mX5_isObeyed.2.1 108 = .ok (.ireturn, 1) := by decide +kernel
theorem dX5_isObeyed_111 : decode mX5_isObeyed.2.1 111 = .ok (.invokestatic 45, 3) := by decide +kernel
theorem dX5_isObeyed_114 : decode mX5_isObeyed.2.1 114 = .ok (.ireturn, 1) := by decide +kernel
theorem dX5_isObeyed_124 : decode mX5_isObeyed.2.1 124 = .ok (.invokestatic 49, 3) := by decide +kernel
theorem dX5_isObeyed_127 : decode mX5_isObeyed.2.1 127 = .ok (.ireturn, 1) := by decide +kernel
theorem dX5_isObeyed_135 : decode mX5_isObeyed.2.1 135 = .ok (.invokestatic 52, 3) := by decide +kernel
theorem dX5_isObeyed_138 : decode mX5_isObeyed.2.1 138 = .ok (.ireturn, 1) := by decide +kernel
def bX5_isPassed_0 : List (Nat × Instr) := [(0, .iload_n 1), (1, .iconst 1)]
theorem bX5_isPassed_0_ok : ∀ q ∈ bX5_isPassed_0, decode mX5_isPassed.2.1 q.1 = .ok (q.2, aLn q.2) := by decide +kernel
def bX5_isPassed_5 : List (Nat × Instr) := [(5, .iload_n 1), (6, .bipush 60)]
theorem bX5_isPassed_5_ok : ∀ q ∈ bX5_isPassed_5, decode mX5_isPassed.2.1 q.1 = .ok (q.2, aLn q.2) := by decide +kernel
def bX5_isPassed_11 : List (Nat × Instr) := [(11, .aload_n 0), (12, .getfield 55), (15, .iload_n 1), (16, .iadd), (17, .sipush 999)]
theorem bX5_isPassed_11_ok : ∀ q ∈ bX5_isPassed_11, decode mX5_isPassed.2.1 q.1 = .ok (q.2, aLn q.2) := by decide +kernel
def bX5_isPassed_23 : List (Nat × Instr) := [(23, .iconst 1), (24, .goto 4)]
theorem bX5_isPassed_23_ok : ∀ q ∈ bX5_isPassed_23, decode mX5_isPassed.2.1 q.1 = .ok (q.2, aLn q.2) := by decide +kernel
def bX5_isPassed_27 : List (Nat × Instr) := [(27, .iconst 0)]
theorem bX5_isPassed_27_ok : ∀ q ∈ bX5_isPassed_27, decode mX5_isPassed.2.1 q.1 = .ok (q.2, aLn q.2) := by decide +kernel
def bX5_isPassed_28 : List (Nat × Instr) := [(28, .istore_n 2), (29, .iconst 0), (30, .istore_n 3)]
theorem bX5_isPassed_28_ok : ∀ q ∈ bX5_isPassed_28, decode mX5_isPassed.2.1 q.1 = .ok (q.2, aLn q.2) := by decide +kernel
def bX5_isPassed_31 : List (Nat × Instr) := [(31, .iload_n 2)]
theorem bX5_isPassed_31_ok : ∀ q ∈ bX5_isPassed_31, decode mX5_isPassed.2.1 q.1 = .ok (q.2, aLn q.2) := by decide +kernel
def bX5_isPassed_35 : List (Nat × Instr) := [(35, .iload_n 3), (36, .iload_n 1)]
theorem bX5_isPassed_35_ok : ∀ q ∈ bX5_isPassed_35, decode mX5_isPassed.2.1 q.1 = .ok (q.2, aLn q.2) := by decide +kernel
def bX5_isPassed_40 : List (Nat × Instr) := [(40, .aload_n 0)]
theorem bX5_isPassed_40_ok : ∀ q ∈ bX5_isPassed_40, decode mX5_isPassed.2.1 q.1 = .ok (q.2, aLn q.2) := by decide +kernel
def bX5_isPassed_44 : List (Nat × Instr) := [(44, .iinc 3 1), (47, .goto (-16))]
theorem bX5_isPassed_44_ok : ∀ q ∈ bX5_isPassed_44, decode mX5_isPassed.2.1 q.1 = .ok (q.2, aLn q.2) := by decide +kernel
def bX5_isPassed_50 : List (Nat × Instr) := [(50, .iload_n 2)]
theorem bX5_isPassed_50_ok : ∀ q ∈ bX5_isPassed_50, decode mX5_isPassed.2.1 q.1 = .ok (q.2, aLn q.2) := by decide +kernel
theorem dX5_isPassed_2 : decode mX5_isPassed.2.1 2 = .ok (.if_icmp .lt 25, 3) := by decide +kernel
theorem dX5_isPassed_8 : decode mX5_isPassed.2.1 8 = .ok (.if_icmp .gt 19, 3) := by decide +kernel
theorem dX5_isPassed_20 : decode mX5_isPassed.2.1 20 = .ok (.if_icmp .gt 7, 3) := by decide +kernel
theorem dX5_isPassed_32 : decode mX5_isPassed.2.1 32 = .ok (.ifCond .eq 18, 3) := by decide +kernel
theorem dX5_isPassed_37 : decode mX5_isPassed.2.1 37 = .ok (.if_icmp .ge 13, 3) := by decide +kernel
theorem dX5_isPassed_41 : decode mX5_isPassed.2.1 41 = .ok (.invokevirtual 59, 3) := by decide +kernel
theorem dX5_isPassed_51 : decode mX5_isPassed.2.1 51 = .ok (.ireturn, 1) := by decide +kernel
def bX5_isDressed_0 : List (Nat × Instr) := [(0, .iload_n 1)]
theorem bX5_isDressed_0_ok : ∀ q ∈ bX5_isDressed_0, decode mX5_isDressed.2.1 q.1 = .ok (q.2, aLn q.2) := by decide +kernel
def bX5_isDressed_7 : List (Nat × Instr) := [(7, .iconst 0)]
theorem bX5_isDressed_7_ok : ∀ q ∈ bX5_isDressed_7, decode mX5_isDressed.2.1 q.1 = .ok (q.2, aLn q.2) := by decide +kernel
def bX5_isDressed_9 : List (Nat × Instr) := [(9, .aload_n 0), (10, .getfield 65), (13, .iload_n 1), (14, .iload_n 2), (15, .iastore), (16, .iconst 1)]
theorem bX5_isDressed_9_ok : ∀ q ∈ bX5_isDressed_9, decode mX5_isDressed.2.1 q.1 = .ok (q.2, aLn q.2) := by decide +kernel
theorem dX5_isDressed_1 : decode mX5_isDressed.2.1 1 = .ok (.invokestatic 62, 3) := by decide +kernel
theorem dX5_isDressed_4 : decode mX5_isDressed.2.1 4 = .ok (.ifCond .ne 5, 3) := by decide +kernel
theorem dX5_isDressed_8 : decode mX5_isDressed.2.1 8 = .ok (.ireturn, 1) := by decide +kernel
theorem dX5_isDressed_17 : decode mX5_isDressed.2.1 17 = .ok (.ireturn, 1) := by decide +kernel
def bX5_isInstalled_0 : List (Nat × Instr) := [(0, .iload_n 1)]
theorem bX5_isInstalled_0_ok : ∀ q ∈ bX5_isInstalled_0, decode mX5_isInstalled.2.1 q.1 = .ok (q.2, aLn q.2) := by decide +kernel
def bX5_isInstalled_7 : List (Nat × Instr) := [(7, .aload_n 0), (8, .iload_n 2)]
theorem bX5_isInstalled_7_ok : ∀ q ∈ bX5_isInstalled_7, decode mX5_isInstalled.2.1 q.1 = .ok (q.2, aLn q.2) := by decide +kernel
def bX5_isInstalled_15 : List (Nat × Instr) := [(15, .iconst 0)]
theorem bX5_isInstalled_15_ok : ∀ q ∈ bX5_isInstalled_15, decode mX5_isInstalled.2.1 q.1 = .ok (q.2, aLn q.2) := by decide +kernel
def bX5_isInstalled_17 : List (Nat × Instr) := [(17, .aload_n 0), (18, .iload_n 1), (19, .iload_n 2)]
theorem bX5_isInstalled_17_ok : ∀ q ∈ bX5_isInstalled_17, decode mX5_isInstalled.2.1 q.1 = .ok (q.2, aLn q.2) := by decide +kernel
def bX5_isInstalled_23 : List (Nat × Instr) := [(23, .iconst 1)]
theorem bX5_isInstalled_23_ok : ∀ q ∈ bX5_isInstalled_23, decode mX5_isInstalled.2.1 q.1 = .ok (q.2, aLn q.2) := by decide +kernel
theorem dX5_isInstalled_1 : decode mX5_isInstalled.2.1 1 = .ok (.invokestatic 62, 3) := by decide +kernel
theorem dX5_isInstalled_4 : decode mX5_isInstalled.2.1 4 = .ok (.ifCond .eq 11, 3) := by decide +kernel
theorem dX5_isInstalled_9 : decode mX5_isInstalled.2.1 9 = .ok (.invokevirtual 69, 3) := by decide +kernel
theorem dX5_isInstalled_12 : decode mX5_isInstalled.2.1 12 = .ok (.ifCond .ne 5, 3) := by decide +kernel
theorem dX5_isInstalled_16 : decode mX5_isInstalled.2.1 16 = .ok (.ireturn, 1) := by decide +kernel
theorem dX5_isInstalled_20 : decode mX5_isInstalled.2.1 20 = .ok (.invokevirtual 72, 3) := by decide +kernel
theorem dX5_isInstalled_24 : decode mX5_isInstalled.2.1 24 = .ok (.ireturn, 1) := by decide +kernel
def bX5_isVacated_0 : List (Nat × Instr) := [(0, .iload_n 1)]
theorem bX5_isVacated_0_ok : ∀ q ∈ bX5_isVacated_0, decode mX5_isVacated.2.1 q.1 = .ok (q.2, aLn q.2) := by decide +kernel
def bX5_isVacated_7 : List (Nat × Instr) := [(7, .iconst 0)]
theorem bX5_isVacated_7_ok : ∀ q ∈ bX5_isVacated_7, decode mX5_isVacated.2.1 q.1 = .ok (q.2, aLn q.2) := by decide +kernel
def bX5_isVacated_9 : List (Nat × Instr) := [(9, .aload_n 0), (10, .iload_n 1)]
theorem bX5_isVacated_9_ok : ∀ q ∈ bX5_isVacated_9, decode mX5_isVacated.2.1 q.1 = .ok (q.2, aLn q.2) := by decide +kernel
def bX5_isVacated_14 : List (Nat × Instr) := [(14, .iconst 1)]
theorem bX5_isVacated_14_ok : ∀ q ∈ bX5_isVacated_14, decode mX5_isVacated.2.1 q.1 = .ok (q.2, aLn q.2) := by decide +kernel
theorem dX5_isVacated_1 : decode mX5_isVacated.2.1 1 = .ok (.invokestatic 62, 3) := by decide +kernel
theorem dX5_isVacated_4 : decode mX5_isVacated.2.1 4 = .ok (.ifCond .ne 5, 3) := by decide +kernel
theorem dX5_isVacated_8 : decode mX5_isVacated.2.1 8 = .ok (.ireturn, 1) := by decide +kernel
theorem dX5_isVacated_11 : decode mX5_isVacated.2.1 11 = .ok (.invokevirtual 76, 3) := by decide +kernel
theorem dX5_isVacated_15 : decode mX5_isVacated.2.1 15 = .ok (.ireturn, 1) := by decide +kernel
def bX5_isMadeKnown_0 : List (Nat × Instr) := [(0, .aload_n 0), (1, .iload_n 1)]
theorem bX5_isMadeKnown_0_ok : ∀ q ∈ bX5_isMadeKnown_0, decode mX5_isMadeKnown.2.1 q.1 = .ok (q.2, aLn q.2) := by decide +kernel
def bX5_isMadeKnown_8 : List (Nat × Instr) := [(8, .iconst 0)]
theorem bX5_isMadeKnown_8_ok : ∀ q ∈ bX5_isMadeKnown_8, decode mX5_isMadeKnown.2.1 q.1 = .ok (q.2, aLn q.2) := by decide +kernel
def bX5_isMadeKnown_10 : List (Nat × Instr) := [(10, .aload_n 0), (11, .getfield 80), (14, .iload_n 1), (15, .iload_n 2), (16, .iastore), (17, .iconst 1)]
theorem bX5_isMadeKnown_10_ok : ∀ q ∈ bX5_isMadeKnown_10, decode mX5_isMadeKnown.2.1 q.1 = .ok (q.2, aLn q.2) := by decide +kernel
theorem dX5_isMadeKnown_2 : decode mX5_isMadeKnown.2.1 2 = .ok (.invokevirtual 69, 3) := by decide +kernel
theorem dX5_isMadeKnown_5 : decode mX5_isMadeKnown.2.1 5 = .ok (.ifCond .ne 5, 3) := by decide +kernel
theorem dX5_isMadeKnown_9 : decode mX5_isMadeKnown.2.1 9 = .ok (.ireturn, 1) := by decide +kernel
theorem dX5_isMadeKnown_18 : decode mX5_isMadeKnown.2.1 18 = .ok (.ireturn, 1) := by decide +kernel
def bJ6_bitCount_0f7a4_0 : List (Nat × Instr) := [(0, .iload_n 0), (1, .iload_n 0), (2, .iconst 1), (3, .iushr), (4, .ldc_w 265), (7, .iand), (8, .isub), (9, .istore_n 0), (10, .iload_n 0), (11, .ldc_w 266), (14, .iand), (15, .iload_n 0), (16, .iconst 2), (17, .iushr), (18, .ldc_w 266), (21, .iand), (22, .iadd), (23, .istore_n 0), (24, .iload_n 0), (25, .iload_n 0), (26, .iconst 4), (27, .iushr), (28, .iadd), (29, .ldc_w 267), (32, .iand), (33, .istore_n 0), (34, .iload_n 0), (35, .iload_n 0), (36, .bipush 8), (38, .iushr), (39, .iadd), (40, .istore_n 0), (41, .iload_n 0), (42, .iload_n 0), (43, .bipush 16), (45, .iushr), (46, .iadd), (47, .istore_n 0), (48, .iload_n 0), (49, .bipush 63), (51, .iand)]
theorem bJ6_bitCount_0f7a4_0_ok : ∀ q ∈ bJ6_bitCount_0f7a4_0, decode mJ6_bitCount_0f7a4.2.1 q.1 = .ok (q.2, aLn q.2) := by decide +kernel
theorem dJ6_bitCount_0f7a4_52 : decode mJ6_bitCount_0f7a4.2.1 52 = .ok (.ireturn, 1) := by decide +kernel
def bJ9_abs_0f7a4_0 : List (Nat × Instr) := [(0, .iload_n 0)]
theorem bJ9_abs_0f7a4_0_ok : ∀ q ∈ bJ9_abs_0f7a4_0, decode mJ9_abs_0f7a4.2.1 q.1 = .ok (q.2, aLn q.2) := by decide +kernel
def bJ9_abs_0f7a4_4 : List (Nat × Instr) := [(4, .iload_n 0), (5, .ineg), (6, .goto 4)]
theorem bJ9_abs_0f7a4_4_ok : ∀ q ∈ bJ9_abs_0f7a4_4, decode mJ9_abs_0f7a4.2.1 q.1 = .ok (q.2, aLn q.2) := by decide +kernel
def bJ9_abs_0f7a4_9 : List (Nat × Instr) := [(9, .iload_n 0)]
theorem bJ9_abs_0f7a4_9_ok : ∀ q ∈ bJ9_abs_0f7a4_9, decode mJ9_abs_0f7a4.2.1 q.1 = .ok (q.2, aLn q.2) := by decide +kernel
theorem dJ9_abs_0f7a4_1 : decode mJ9_abs_0f7a4.2.1 1 = .ok (.ifCond .ge 8, 3) := by decide +kernel
theorem dJ9_abs_0f7a4_10 : decode mJ9_abs_0f7a4.2.1 10 = .ok (.ireturn, 1) := by decide +kernel
def bJ9_max_7cf53_0 : List (Nat × Instr) := [(0, .iload_n 0), (1, .iload_n 1)]
theorem bJ9_max_7cf53_0_ok : ∀ q ∈ bJ9_max_7cf53_0, decode mJ9_max_7cf53.2.1 q.1 = .ok (q.2, aLn q.2) := by decide +kernel
def bJ9_max_7cf53_5 : List (Nat × Instr) := [(5, .iload_n 0), (6, .goto 4)]
theorem bJ9_max_7cf53_5_ok : ∀ q ∈ bJ9_max_7cf53_5, decode mJ9_max_7cf53.2.1 q.1 = .ok (q.2, aLn q.2) := by decide +kernel
def bJ9_max_7cf53_9 : List (Nat × Instr) := [(9, .iload_n 1)]
theorem bJ9_max_7cf53_9_ok : ∀ q ∈ bJ9_max_7cf53_9, decode mJ9_max_7cf53.2.1 q.1 = .ok (q.2, aLn q.2) := by decide +kernel
theorem dJ9_max_7cf53_2 : decode mJ9_max_7cf53.2.1 2 = .ok (.if_icmp .lt 7, 3) := by decide +kernel
theorem dJ9_max_7cf53_10 : decode mJ9_max_7cf53.2.1 10 = .ok (.ireturn, 1) := by decide +kernel
def bJ9_min_7cf53_0 : List (Nat × Instr) := [(0, .iload_n 0), (1, .iload_n 1)]
theorem bJ9_min_7cf53_0_ok : ∀ q ∈ bJ9_min_7cf53_0, decode mJ9_min_7cf53.2.1 q.1 = .ok (q.2, aLn q.2) := by decide +kernel
def bJ9_min_7cf53_5 : List (Nat × Instr) := [(5, .iload_n 0), (6, .goto 4)]
theorem bJ9_min_7cf53_5_ok : ∀ q ∈ bJ9_min_7cf53_5, decode mJ9_min_7cf53.2.1 q.1 = .ok (q.2, aLn q.2) := by decide +kernel
def bJ9_min_7cf53_9 : List (Nat × Instr) := [(9, .iload_n 1)]
theorem bJ9_min_7cf53_9_ok : ∀ q ∈ bJ9_min_7cf53_9, decode mJ9_min_7cf53.2.1 q.1 = .ok (q.2, aLn q.2) := by decide +kernel
theorem dJ9_min_7cf53_2 : decode mJ9_min_7cf53.2.1 2 = .ok (.if_icmp .gt 7, 3) := by decide +kernel
theorem dJ9_min_7cf53_10 : decode mJ9_min_7cf53.2.1 10 = .ok (.ireturn, 1) := by decide +kernel
