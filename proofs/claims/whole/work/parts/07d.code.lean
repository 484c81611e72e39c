/-! ===== code ===== -/
def bX7_isIn_0 : List (Nat × Instr) := [(0, .iload_n 0), (1, .iload_n 1)]
theorem bX7_isIn_0_ok : ∀ q ∈ bX7_isIn_0, decode mX7_isIn.2.1 q.1 = .ok (q.2, aLn q.2) := by decide +kernel
def bX7_isIn_5 : List (Nat × Instr) := [(5, .iload_n 0), (6, .iload_n 2)]
theorem bX7_isIn_5_ok : ∀ q ∈ bX7_isIn_5, decode mX7_isIn.2.1 q.1 = .ok (q.2, aLn q.2) := by decide +kernel
def bX7_isIn_10 : List (Nat × Instr) := [(10, .iconst 1), (11, .goto 4)]
theorem bX7_isIn_10_ok : ∀ q ∈ bX7_isIn_10, decode mX7_isIn.2.1 q.1 = .ok (q.2, aLn q.2) := by decide +kernel
def bX7_isIn_14 : List (Nat × Instr) := [(14, .iconst 0)]
theorem bX7_isIn_14_ok : ∀ q ∈ bX7_isIn_14, decode mX7_isIn.2.1 q.1 = .ok (q.2, aLn q.2) := by decide +kernel
theorem dX7_isIn_2 : decode mX7_isIn.2.1 2 = .ok (.if_icmp .lt 12, 3) := by decide +kernel
theorem dX7_isIn_7 : decode mX7_isIn.2.1 7 = .ok (.if_icmp .gt 7, 3) := by decide +kernel
theorem dX7_isIn_15 : decode mX7_isIn.2.1 15 = .ok (.ireturn, 1) := by decide +kernel
def bX7_sized_0 : List (Nat × Instr) := [(0, .iload_n 0)]
theorem bX7_sized_0_ok : ∀ q ∈ bX7_sized_0, decode mX7_sized.2.1 q.1 = .ok (q.2, aLn q.2) := by decide +kernel
def bX7_sized_4 : List (Nat × Instr) := [(4, .iload_n 0), (5, .ineg), (6, .goto 4)]
theorem bX7_sized_4_ok : ∀ q ∈ bX7_sized_4, decode mX7_sized.2.1 q.1 = .ok (q.2, aLn q.2) := by decide +kernel
def bX7_sized_9 : List (Nat × Instr) := [(9, .iload_n 0)]
theorem bX7_sized_9_ok : ∀ q ∈ bX7_sized_9, decode mX7_sized.2.1 q.1 = .ok (q.2, aLn q.2) := by decide +kernel
theorem dX7_sized_1 : decode mX7_sized.2.1 1 = .ok (.ifCond .ge 8, 3) := by decide +kernel
theorem dX7_sized_10 : decode mX7_sized.2.1 10 = .ok (.ireturn, 1) := by decide +kernel
def bX7_least_0 : List (Nat × Instr) := [(0, .iload_n 0), (1, .iload_n 1)]
theorem bX7_least_0_ok : ∀ q ∈ bX7_least_0, decode mX7_least.2.1 q.1 = .ok (q.2, aLn q.2) := by decide +kernel
def bX7_least_5 : List (Nat × Instr) := [(5, .iload_n 0), (6, .goto 4)]
theorem bX7_least_5_ok : ∀ q ∈ bX7_least_5, decode mX7_least.2.1 q.1 = .ok (q.2, aLn q.2) := by decide +kernel
def bX7_least_9 : List (Nat × Instr) := [(9, .iload_n 1)]
theorem bX7_least_9_ok : ∀ q ∈ bX7_least_9, decode mX7_least.2.1 q.1 = .ok (q.2, aLn q.2) := by decide +kernel
theorem dX7_least_2 : decode mX7_least.2.1 2 = .ok (.if_icmp .ge 7, 3) := by decide +kernel
theorem dX7_least_10 : decode mX7_least.2.1 10 = .ok (.ireturn, 1) := by decide +kernel
def bX7_lessBy_0 : List (Nat × Instr) := [(0, .iload_n 0), (1, .iload_n 1)]
theorem bX7_lessBy_0_ok : ∀ q ∈ bX7_lessBy_0, decode mX7_lessBy.2.1 q.1 = .ok (q.2, aLn q.2) := by decide +kernel
def bX7_lessBy_5 : List (Nat × Instr) := [(5, .iconst 0), (6, .goto 6)]
theorem bX7_lessBy_5_ok : ∀ q ∈ bX7_lessBy_5, decode mX7_lessBy.2.1 q.1 = .ok (q.2, aLn q.2) := by decide +kernel
def bX7_lessBy_9 : List (Nat × Instr) := [(9, .iload_n 0), (10, .iload_n 1), (11, .isub)]
theorem bX7_lessBy_9_ok : ∀ q ∈ bX7_lessBy_9, decode mX7_lessBy.2.1 q.1 = .ok (q.2, aLn q.2) := by decide +kernel
theorem dX7_lessBy_2 : decode mX7_lessBy.2.1 2 = .ok (.if_icmp .ge 7, 3) := by decide +kernel
theorem dX7_lessBy_12 : decode mX7_lessBy.2.1 12 = .ok (.ireturn, 1) := by decide +kernel
def bX7_copies_0 : List (Nat × Instr) := [(0, .iconst 0), (1, .istore_n 2)]
theorem bX7_copies_0_ok : ∀ q ∈ bX7_copies_0, decode mX7_copies.2.1 q.1 = .ok (q.2, aLn q.2) := by decide +kernel
def bX7_copies_2 : List (Nat × Instr) := [(2, .iload_n 2), (3, .bipush 45)]
theorem bX7_copies_2_ok : ∀ q ∈ bX7_copies_2, decode mX7_copies.2.1 q.1 = .ok (q.2, aLn q.2) := by decide +kernel
def bX7_copies_8 : List (Nat × Instr) := [(8, .aload_n 1), (9, .iload_n 2), (10, .aload_n 0), (11, .iload_n 2), (12, .iaload), (13, .iastore), (14, .iinc 2 1), (17, .goto (-15))]
theorem bX7_copies_8_ok : ∀ q ∈ bX7_copies_8, decode mX7_copies.2.1 q.1 = .ok (q.2, aLn q.2) := by decide +kernel
theorem dX7_copies_5 : decode mX7_copies.2.1 5 = .ok (.if_icmp .ge 15, 3) := by decide +kernel
theorem dX7_copies_20 : decode mX7_copies.2.1 20 = .ok (.return_, 1) := by decide +kernel
def bX7_of_0 : List (Nat × Instr) := [(0, .bipush 13), (2, .iconst 4), (3, .iload_n 0), (4, .imul), (5, .iadd), (6, .iload_n 1), (7, .iadd)]
theorem bX7_of_0_ok : ∀ q ∈ bX7_of_0, decode mX7_of.2.1 q.1 = .ok (q.2, aLn q.2) := by decide +kernel
theorem dX7_of_8 : decode mX7_of.2.1 8 = .ok (.ireturn, 1) := by decide +kernel
def bX7_isOne_0 : List (Nat × Instr) := [(0, .iload_n 1), (1, .iconst 0), (2, .aload_n 0), (3, .getfield 9), (6, .iconst 0), (7, .iaload), (8, .iconst 1), (9, .isub)]
theorem bX7_isOne_0_ok : ∀ q ∈ bX7_isOne_0, decode mX7_isOne.2.1 q.1 = .ok (q.2, aLn q.2) := by decide +kernel
theorem dX7_isOne_10 : decode mX7_isOne.2.1 10 = .ok (.invokestatic 49, 3) := by decide +kernel
theorem dX7_isOne_13 : decode mX7_isOne.2.1 13 = .ok (.ireturn, 1) := by decide +kernel
def bX7_isOffice_0 : List (Nat × Instr) := [(0, .iload_n 0), (1, .iconst 0), (2, .iconst 4)]
theorem bX7_isOffice_0_ok : ∀ q ∈ bX7_isOffice_0, decode mX7_isOffice.2.1 q.1 = .ok (q.2, aLn q.2) := by decide +kernel
theorem dX7_isOffice_3 : decode mX7_isOffice.2.1 3 = .ok (.invokestatic 49, 3) := by decide +kernel
theorem dX7_isOffice_6 : decode mX7_isOffice.2.1 6 = .ok (.ireturn, 1) := by decide +kernel
def bX7_isMate_0 : List (Nat × Instr) := [(0, .iload_n 0), (1, .iconst 0), (2, .bipush 7)]
theorem bX7_isMate_0_ok : ∀ q ∈ bX7_isMate_0, decode mX7_isMate.2.1 q.1 = .ok (q.2, aLn q.2) := by decide +kernel
def bX7_isMate_10 : List (Nat × Instr) := [(10, .iload_n 0), (11, .bipush 9)]
theorem bX7_isMate_10_ok : ∀ q ∈ bX7_isMate_10, decode mX7_isMate.2.1 q.1 = .ok (q.2, aLn q.2) := by decide +kernel
def bX7_isMate_16 : List (Nat × Instr) := [(16, .iconst 1), (17, .goto 4)]
theorem bX7_isMate_16_ok : ∀ q ∈ bX7_isMate_16, decode mX7_isMate.2.1 q.1 = .ok (q.2, aLn q.2) := by decide +kernel
def bX7_isMate_20 : List (Nat × Instr) := [(20, .iconst 0)]
theorem bX7_isMate_20_ok : ∀ q ∈ bX7_isMate_20, decode mX7_isMate.2.1 q.1 = .ok (q.2, aLn q.2) := by decide +kernel
theorem dX7_isMate_4 : decode mX7_isMate.2.1 4 = .ok (.invokestatic 49, 3) := by decide +kernel
theorem dX7_isMate_7 : decode mX7_isMate.2.1 7 = .ok (.ifCond .ne 9, 3) := by decide +kernel
theorem dX7_isMate_13 : decode mX7_isMate.2.1 13 = .ok (.if_icmp .ne 7, 3) := by decide +kernel
theorem dX7_isMate_21 : decode mX7_isMate.2.1 21 = .ok (.ireturn, 1) := by decide +kernel
def bX7_has_0 : List (Nat × Instr) := [(0, .iload_n 0), (1, .iload_n 1), (2, .ishr), (3, .iconst 1), (4, .iand), (5, .iconst 1)]
theorem bX7_has_0_ok : ∀ q ∈ bX7_has_0, decode mX7_has.2.1 q.1 = .ok (q.2, aLn q.2) := by decide +kernel
def bX7_has_9 : List (Nat × Instr) := [(9, .iconst 1), (10, .goto 4)]
theorem bX7_has_9_ok : ∀ q ∈ bX7_has_9, decode mX7_has.2.1 q.1 = .ok (q.2, aLn q.2) := by decide +kernel
def bX7_has_13 : List (Nat × Instr) := [(13, .iconst 0)]
theorem bX7_has_13_ok : ∀ q ∈ bX7_has_13, decode mX7_has.2.1 q.1 = .ok (q.2, aLn q.2) := by decide +kernel
theorem dX7_has_6 : decode mX7_has.2.1 6 = .ok (.if_icmp .ne 7, 3) := by decide +kernel
theorem dX7_has_14 : decode mX7_has.2.1 14 = .ok (.ireturn, 1) := by decide +kernel
def bX7_bits_0 : List (Nat × Instr) := [(0, .iconst 0), (1, .istore_n 1), (2, .iconst 0), (3, .istore_n 2)]
theorem bX7_bits_0_ok : ∀ q ∈ bX7_bits_0, decode mX7_bits.2.1 q.1 = .ok (q.2, aLn q.2) := by decide +kernel
def bX7_bits_4 : List (Nat × Instr) := [(4, .iload_n 2), (5, .bipush 8)]
theorem bX7_bits_4_ok : ∀ q ∈ bX7_bits_4, decode mX7_bits.2.1 q.1 = .ok (q.2, aLn q.2) := by decide +kernel
def bX7_bits_10 : List (Nat × Instr) := [(10, .iload_n 1), (11, .iload_n 0), (12, .iload_n 2), (13, .ishr), (14, .iconst 1), (15, .iand), (16, .iadd), (17, .istore_n 1), (18, .iinc 2 1), (21, .goto (-17))]
theorem bX7_bits_10_ok : ∀ q ∈ bX7_bits_10, decode mX7_bits.2.1 q.1 = .ok (q.2, aLn q.2) := by decide +kernel
def bX7_bits_24 : List (Nat × Instr) := [(24, .iload_n 1)]
theorem bX7_bits_24_ok : ∀ q ∈ bX7_bits_24, decode mX7_bits.2.1 q.1 = .ok (q.2, aLn q.2) := by decide +kernel
theorem dX7_bits_7 : decode mX7_bits.2.1 7 = .ok (.if_icmp .ge 17, 3) := by decide +kernel
theorem dX7_bits_25 : decode mX7_bits.2.1 25 = .ok (.ireturn, 1) := by decide +kernel
def bX7_showsBy_0 : List (Nat × Instr) := [(0, .iconst 1), (1, .iload_n 2), (2, .iload_n 1), (3, .isub)]
theorem bX7_showsBy_0_ok : ∀ q ∈ bX7_showsBy_0, decode mX7_showsBy.2.1 q.1 = .ok (q.2, aLn q.2) := by decide +kernel
def bX7_showsBy_7 : List (Nat × Instr) := [(7, .iconst 3), (8, .idiv), (9, .iadd), (10, .istore 4), (12, .iload_n 0)]
theorem bX7_showsBy_7_ok : ∀ q ∈ bX7_showsBy_7, decode mX7_showsBy.2.1 q.1 = .ok (q.2, aLn q.2) := by decide +kernel
def bX7_showsBy_56 : List (Nat × Instr) := [(56, .bipush 6)]
theorem bX7_showsBy_56_ok : ∀ q ∈ bX7_showsBy_56, decode mX7_showsBy.2.1 q.1 = .ok (q.2, aLn q.2) := by decide +kernel
def bX7_showsBy_59 : List (Nat × Instr) := [(59, .iload 4)]
theorem bX7_showsBy_59_ok : ∀ q ∈ bX7_showsBy_59, decode mX7_showsBy.2.1 q.1 = .ok (q.2, aLn q.2) := by decide +kernel
def bX7_showsBy_62 : List (Nat × Instr) := [(62, .iload_n 3), (63, .iconst 2), (64, .irem), (65, .iconst 1)]
theorem bX7_showsBy_62_ok : ∀ q ∈ bX7_showsBy_62, decode mX7_showsBy.2.1 q.1 = .ok (q.2, aLn q.2) := by decide +kernel
def bX7_showsBy_69 : List (Nat × Instr) := [(69, .bipush 6), (71, .iload_n 1), (72, .iadd), (73, .goto 5)]
theorem bX7_showsBy_69_ok : ∀ q ∈ bX7_showsBy_69, decode mX7_showsBy.2.1 q.1 = .ok (q.2, aLn q.2) := by decide +kernel
def bX7_showsBy_76 : List (Nat × Instr) := [(76, .bipush 6)]
theorem bX7_showsBy_76_ok : ∀ q ∈ bX7_showsBy_76, decode mX7_showsBy.2.1 q.1 = .ok (q.2, aLn q.2) := by decide +kernel
def bX7_showsBy_79 : List (Nat × Instr) := [(79, .iload_n 2), (80, .iload_n 1)]
theorem bX7_showsBy_79_ok : ∀ q ∈ bX7_showsBy_79, decode mX7_showsBy.2.1 q.1 = .ok (q.2, aLn q.2) := by decide +kernel
def bX7_showsBy_84 : List (Nat × Instr) := [(84, .iconst 0), (85, .goto 5)]
theorem bX7_showsBy_84_ok : ∀ q ∈ bX7_showsBy_84, decode mX7_showsBy.2.1 q.1 = .ok (q.2, aLn q.2) := by decide +kernel
def bX7_showsBy_88 : List (Nat × Instr) := [(88, .iload 4)]
theorem bX7_showsBy_88_ok : ∀ q ∈ bX7_showsBy_88, decode mX7_showsBy.2.1 q.1 = .ok (q.2, aLn q.2) := by decide +kernel
def bX7_showsBy_91 : List (Nat × Instr) := [(91, .iload_n 2), (92, .iconst 2)]
theorem bX7_showsBy_91_ok : ∀ q ∈ bX7_showsBy_91, decode mX7_showsBy.2.1 q.1 = .ok (q.2, aLn q.2) := by decide +kernel
def bX7_showsBy_96 : List (Nat × Instr) := [(96, .iconst 3), (97, .iload_n 2), (98, .isub), (99, .goto 4)]
theorem bX7_showsBy_96_ok : ∀ q ∈ bX7_showsBy_96, decode mX7_showsBy.2.1 q.1 = .ok (q.2, aLn q.2) := by decide +kernel
def bX7_showsBy_102 : List (Nat × Instr) := [(102, .iconst 1)]
theorem bX7_showsBy_102_ok : ∀ q ∈ bX7_showsBy_102, decode mX7_showsBy.2.1 q.1 = .ok (q.2, aLn q.2) := by decide +kernel
def bX7_showsBy_104 : List (Nat × Instr) := [(104, .iload_n 2), (105, .iload_n 1)]
theorem bX7_showsBy_104_ok : ∀ q ∈ bX7_showsBy_104, decode mX7_showsBy.2.1 q.1 = .ok (q.2, aLn q.2) := by decide +kernel
def bX7_showsBy_109 : List (Nat × Instr) := [(109, .bipush 9), (111, .goto 5)]
theorem bX7_showsBy_109_ok : ∀ q ∈ bX7_showsBy_109, decode mX7_showsBy.2.1 q.1 = .ok (q.2, aLn q.2) := by decide +kernel
def bX7_showsBy_114 : List (Nat × Instr) := [(114, .bipush 6)]
theorem bX7_showsBy_114_ok : ∀ q ∈ bX7_showsBy_114, decode mX7_showsBy.2.1 q.1 = .ok (q.2, aLn q.2) := by decide +kernel
def bX7_showsBy_117 : List (Nat × Instr) := [(117, .iconst 0)]
theorem bX7_showsBy_117_ok : ∀ q ∈ bX7_showsBy_117, decode mX7_showsBy.2.1 q.1 = .ok (q.2, aLn q.2) := by decide +kernel
def bX7_showsBy_119 : List (Nat × Instr) := [(119, .iconst 3)]
theorem bX7_showsBy_119_ok : ∀ q ∈ bX7_showsBy_119, decode mX7_showsBy.2.1 q.1 = .ok (q.2, aLn q.2) := by decide +kernel
theorem dX7_showsBy_4 : decode mX7_showsBy.2.1 4 = .ok (.invokestatic 53, 3) := by decide +kernel
theorem dX7_showsBy_13 : decode mX7_showsBy.2.1 13 = .ok (.tableswitch 106 1 7 #[43, 46, 49, 66, 78, 91, 104], 43) := by decide +kernel
theorem dX7_showsBy_58 : decode mX7_showsBy.2.1 58 = .ok (.ireturn, 1) := by decide +kernel
theorem dX7_showsBy_61 : decode mX7_showsBy.2.1 61 = .ok (.ireturn, 1) := by decide +kernel
theorem dX7_showsBy_66 : decode mX7_showsBy.2.1 66 = .ok (.if_icmp .ne 10, 3) := by decide +kernel
theorem dX7_showsBy_78 : decode mX7_showsBy.2.1 78 = .ok (.ireturn, 1) := by decide +kernel
theorem dX7_showsBy_81 : decode mX7_showsBy.2.1 81 = .ok (.if_icmp .ne 7, 3) := by decide +kernel
theorem dX7_showsBy_90 : decode mX7_showsBy.2.1 90 = .ok (.ireturn, 1) := by decide +kernel
theorem dX7_showsBy_93 : decode mX7_showsBy.2.1 93 = .ok (.if_icmp .ge 9, 3) := by decide +kernel
theorem dX7_showsBy_103 : decode mX7_showsBy.2.1 103 = .ok (.ireturn, 1) := by decide +kernel
theorem dX7_showsBy_106 : decode mX7_showsBy.2.1 106 = .ok (.if_icmp .ge 8, 3) := by decide +kernel
theorem dX7_showsBy_116 : decode mX7_showsBy.2.1 116 = .ok (.ireturn, 1) := by decide +kernel
theorem dX7_showsBy_118 : decode mX7_showsBy.2.1 118 = .ok (.ireturn, 1) := by decide +kernel
theorem dX7_showsBy_120 : decode mX7_showsBy.2.1 120 = .ok (.ireturn, 1) := by decide +kernel
def bX7_bearsBy_0 : List (Nat × Instr) := [(0, .iload_n 0)]
theorem bX7_bearsBy_0_ok : ∀ q ∈ bX7_bearsBy_0, decode mX7_bearsBy.2.1 q.1 = .ok (q.2, aLn q.2) := by decide +kernel
def bX7_bearsBy_44 : List (Nat × Instr) := [(44, .bipush 15)]
theorem bX7_bearsBy_44_ok : ∀ q ∈ bX7_bearsBy_44, decode mX7_bearsBy.2.1 q.1 = .ok (q.2, aLn q.2) := by decide +kernel
def bX7_bearsBy_47 : List (Nat × Instr) := [(47, .bipush 20), (49, .iload_n 1), (50, .iadd)]
theorem bX7_bearsBy_47_ok : ∀ q ∈ bX7_bearsBy_47, decode mX7_bearsBy.2.1 q.1 = .ok (q.2, aLn q.2) := by decide +kernel
def bX7_bearsBy_52 : List (Nat × Instr) := [(52, .iconst 2), (53, .bipush 20), (55, .iload_n 1), (56, .iadd), (57, .imul)]
theorem bX7_bearsBy_52_ok : ∀ q ∈ bX7_bearsBy_52, decode mX7_bearsBy.2.1 q.1 = .ok (q.2, aLn q.2) := by decide +kernel
def bX7_bearsBy_59 : List (Nat × Instr) := [(59, .bipush 20), (61, .iconst 2), (62, .iload_n 1), (63, .imul), (64, .iadd)]
theorem bX7_bearsBy_59_ok : ∀ q ∈ bX7_bearsBy_59, decode mX7_bearsBy.2.1 q.1 = .ok (q.2, aLn q.2) := by decide +kernel
def bX7_bearsBy_66 : List (Nat × Instr) := [(66, .bipush 7)]
theorem bX7_bearsBy_66_ok : ∀ q ∈ bX7_bearsBy_66, decode mX7_bearsBy.2.1 q.1 = .ok (q.2, aLn q.2) := by decide +kernel
def bX7_bearsBy_69 : List (Nat × Instr) := [(69, .bipush 99)]
theorem bX7_bearsBy_69_ok : ∀ q ∈ bX7_bearsBy_69, decode mX7_bearsBy.2.1 q.1 = .ok (q.2, aLn q.2) := by decide +kernel
def bX7_bearsBy_72 : List (Nat × Instr) := [(72, .bipush 20)]
theorem bX7_bearsBy_72_ok : ∀ q ∈ bX7_bearsBy_72, decode mX7_bearsBy.2.1 q.1 = .ok (q.2, aLn q.2) := by decide +kernel
theorem dX7_bearsBy_1 : decode mX7_bearsBy.2.1 1 = .ok (.tableswitch 71 1 7 #[43, 46, 43, 51, 58, 65, 68], 43) := by decide +kernel
theorem dX7_bearsBy_46 : decode mX7_bearsBy.2.1 46 = .ok (.ireturn, 1) := by decide +kernel
theorem dX7_bearsBy_51 : decode mX7_bearsBy.2.1 51 = .ok (.ireturn, 1) := by decide +kernel
theorem dX7_bearsBy_58 : decode mX7_bearsBy.2.1 58 = .ok (.ireturn, 1) := by decide +kernel
theorem dX7_bearsBy_65 : decode mX7_bearsBy.2.1 65 = .ok (.ireturn, 1) := by decide +kernel
theorem dX7_bearsBy_68 : decode mX7_bearsBy.2.1 68 = .ok (.ireturn, 1) := by decide +kernel
theorem dX7_bearsBy_71 : decode mX7_bearsBy.2.1 71 = .ok (.ireturn, 1) := by decide +kernel
theorem dX7_bearsBy_74 : decode mX7_bearsBy.2.1 74 = .ok (.ireturn, 1) := by decide +kernel
def bX7_forgetsBy_0 : List (Nat × Instr) := [(0, .iload_n 0)]
theorem bX7_forgetsBy_0_ok : ∀ q ∈ bX7_forgetsBy_0, decode mX7_forgetsBy.2.1 q.1 = .ok (q.2, aLn q.2) := by decide +kernel
def bX7_forgetsBy_44 : List (Nat × Instr) := [(44, .iconst 1)]
theorem bX7_forgetsBy_44_ok : ∀ q ∈ bX7_forgetsBy_44, decode mX7_forgetsBy.2.1 q.1 = .ok (q.2, aLn q.2) := by decide +kernel
def bX7_forgetsBy_46 : List (Nat × Instr) := [(46, .iconst 3)]
theorem bX7_forgetsBy_46_ok : ∀ q ∈ bX7_forgetsBy_46, decode mX7_forgetsBy.2.1 q.1 = .ok (q.2, aLn q.2) := by decide +kernel
def bX7_forgetsBy_48 : List (Nat × Instr) := [(48, .iconst 0)]
theorem bX7_forgetsBy_48_ok : ∀ q ∈ bX7_forgetsBy_48, decode mX7_forgetsBy.2.1 q.1 = .ok (q.2, aLn q.2) := by decide +kernel
def bX7_forgetsBy_50 : List (Nat × Instr) := [(50, .iload_n 1)]
theorem bX7_forgetsBy_50_ok : ∀ q ∈ bX7_forgetsBy_50, decode mX7_forgetsBy.2.1 q.1 = .ok (q.2, aLn q.2) := by decide +kernel
def bX7_forgetsBy_52 : List (Nat × Instr) := [(52, .bipush 9)]
theorem bX7_forgetsBy_52_ok : ∀ q ∈ bX7_forgetsBy_52, decode mX7_forgetsBy.2.1 q.1 = .ok (q.2, aLn q.2) := by decide +kernel
def bX7_forgetsBy_55 : List (Nat × Instr) := [(55, .iconst 2)]
theorem bX7_forgetsBy_55_ok : ∀ q ∈ bX7_forgetsBy_55, decode mX7_forgetsBy.2.1 q.1 = .ok (q.2, aLn q.2) := by decide +kernel
theorem dX7_forgetsBy_1 : decode mX7_forgetsBy.2.1 1 = .ok (.tableswitch 54 1 7 #[43, 45, 47, 45, 49, 43, 51], 43) := by decide +kernel
theorem dX7_forgetsBy_45 : decode mX7_forgetsBy.2.1 45 = .ok (.ireturn, 1) := by decide +kernel
theorem dX7_forgetsBy_47 : decode mX7_forgetsBy.2.1 47 = .ok (.ireturn, 1) := by decide +kernel
theorem dX7_forgetsBy_49 : decode mX7_forgetsBy.2.1 49 = .ok (.ireturn, 1) := by decide +kernel
theorem dX7_forgetsBy_51 : decode mX7_forgetsBy.2.1 51 = .ok (.ireturn, 1) := by decide +kernel
theorem dX7_forgetsBy_54 : decode mX7_forgetsBy.2.1 54 = .ok (.ireturn, 1) := by decide +kernel
theorem dX7_forgetsBy_56 : decode mX7_forgetsBy.2.1 56 = .ok (.ireturn, 1) := by decide +kernel
def bX7_bears_0 : List (Nat × Instr) := [(0, .aload_n 0), (1, .iload_n 1), (2, .iconst 0)]
theorem bX7_bears_0_ok : ∀ q ∈ bX7_bears_0, decode mX7_bears.2.1 q.1 = .ok (q.2, aLn q.2) := by decide +kernel
def bX7_bears_6 : List (Nat × Instr) := [(6, .iaload), (7, .aload_n 0), (8, .iload_n 1), (9, .iconst 1)]
theorem bX7_bears_6_ok : ∀ q ∈ bX7_bears_6, decode mX7_bears.2.1 q.1 = .ok (q.2, aLn q.2) := by decide +kernel
def bX7_bears_13 : List (Nat × Instr) := [(13, .iaload)]
theorem bX7_bears_13_ok : ∀ q ∈ bX7_bears_13, decode mX7_bears.2.1 q.1 = .ok (q.2, aLn q.2) := by decide +kernel
theorem dX7_bears_3 : decode mX7_bears.2.1 3 = .ok (.invokestatic 57, 3) := by decide +kernel
theorem dX7_bears_10 : decode mX7_bears.2.1 10 = .ok (.invokestatic 57, 3) := by decide +kernel
theorem dX7_bears_14 : decode mX7_bears.2.1 14 = .ok (.invokestatic 61, 3) := by decide +kernel
theorem dX7_bears_17 : decode mX7_bears.2.1 17 = .ok (.ireturn, 1) := by decide +kernel
def bX7_officeOf_0 : List (Nat × Instr) := [(0, .iconst 0), (1, .istore_n 2)]
theorem bX7_officeOf_0_ok : ∀ q ∈ bX7_officeOf_0, decode mX7_officeOf.2.1 q.1 = .ok (q.2, aLn q.2) := by decide +kernel
def bX7_officeOf_2 : List (Nat × Instr) := [(2, .iload_n 2), (3, .iconst 5)]
theorem bX7_officeOf_2_ok : ∀ q ∈ bX7_officeOf_2, decode mX7_officeOf.2.1 q.1 = .ok (q.2, aLn q.2) := by decide +kernel
def bX7_officeOf_7 : List (Nat × Instr) := [(7, .aload_n 0), (8, .bipush 8), (10, .iload_n 2), (11, .iadd), (12, .iaload), (13, .iload_n 1)]
theorem bX7_officeOf_7_ok : ∀ q ∈ bX7_officeOf_7, decode mX7_officeOf.2.1 q.1 = .ok (q.2, aLn q.2) := by decide +kernel
def bX7_officeOf_17 : List (Nat × Instr) := [(17, .iload_n 2)]
theorem bX7_officeOf_17_ok : ∀ q ∈ bX7_officeOf_17, decode mX7_officeOf.2.1 q.1 = .ok (q.2, aLn q.2) := by decide +kernel
def bX7_officeOf_19 : List (Nat × Instr) := [(19, .iinc 2 1), (22, .goto (-20))]
theorem bX7_officeOf_19_ok : ∀ q ∈ bX7_officeOf_19, decode mX7_officeOf.2.1 q.1 = .ok (q.2, aLn q.2) := by decide +kernel
def bX7_officeOf_25 : List (Nat × Instr) := [(25, .bipush (-4))]
theorem bX7_officeOf_25_ok : ∀ q ∈ bX7_officeOf_25, decode mX7_officeOf.2.1 q.1 = .ok (q.2, aLn q.2) := by decide +kernel
theorem dX7_officeOf_4 : decode mX7_officeOf.2.1 4 = .ok (.if_icmp .ge 21, 3) := by decide +kernel
theorem dX7_officeOf_14 : decode mX7_officeOf.2.1 14 = .ok (.if_icmp .ne 5, 3) := by decide +kernel
theorem dX7_officeOf_18 : decode mX7_officeOf.2.1 18 = .ok (.ireturn, 1) := by decide +kernel
theorem dX7_officeOf_27 : decode mX7_officeOf.2.1 27 = .ok (.ireturn, 1) := by decide +kernel
def bX7_isCommon_0 : List (Nat × Instr) := [(0, .iconst 0), (1, .istore_n 2), (2, .iconst 0), (3, .istore_n 3)]
theorem bX7_isCommon_0_ok : ∀ q ∈ bX7_isCommon_0, decode mX7_isCommon.2.1 q.1 = .ok (q.2, aLn q.2) := by decide +kernel
def bX7_isCommon_4 : List (Nat × Instr) := [(4, .iload_n 3), (5, .iconst 5)]
theorem bX7_isCommon_4_ok : ∀ q ∈ bX7_isCommon_4, decode mX7_isCommon.2.1 q.1 = .ok (q.2, aLn q.2) := by decide +kernel
def bX7_isCommon_9 : List (Nat × Instr) := [(9, .iload_n 2), (10, .aload_n 0), (11, .bipush 8), (13, .iload_n 3), (14, .iadd), (15, .iaload)]
theorem bX7_isCommon_9_ok : ∀ q ∈ bX7_isCommon_9, decode mX7_isCommon.2.1 q.1 = .ok (q.2, aLn q.2) := by decide +kernel
def bX7_isCommon_19 : List (Nat × Instr) := [(19, .aload_n 0), (20, .iconst 3), (21, .iload_n 3), (22, .iadd), (23, .iaload), (24, .iload_n 1)]
theorem bX7_isCommon_19_ok : ∀ q ∈ bX7_isCommon_19, decode mX7_isCommon.2.1 q.1 = .ok (q.2, aLn q.2) := by decide +kernel
def bX7_isCommon_28 : List (Nat × Instr) := [(28, .iconst 1), (29, .goto 4)]
theorem bX7_isCommon_28_ok : ∀ q ∈ bX7_isCommon_28, decode mX7_isCommon.2.1 q.1 = .ok (q.2, aLn q.2) := by decide +kernel
def bX7_isCommon_32 : List (Nat × Instr) := [(32, .iconst 0)]
theorem bX7_isCommon_32_ok : ∀ q ∈ bX7_isCommon_32, decode mX7_isCommon.2.1 q.1 = .ok (q.2, aLn q.2) := by decide +kernel
def bX7_isCommon_33 : List (Nat × Instr) := [(33, .iadd), (34, .istore_n 2), (35, .iinc 3 1), (38, .goto (-34))]
theorem bX7_isCommon_33_ok : ∀ q ∈ bX7_isCommon_33, decode mX7_isCommon.2.1 q.1 = .ok (q.2, aLn q.2) := by decide +kernel
def bX7_isCommon_41 : List (Nat × Instr) := [(41, .iload_n 2), (42, .iconst 1)]
theorem bX7_isCommon_41_ok : ∀ q ∈ bX7_isCommon_41, decode mX7_isCommon.2.1 q.1 = .ok (q.2, aLn q.2) := by decide +kernel
def bX7_isCommon_46 : List (Nat × Instr) := [(46, .iconst 1), (47, .goto 4)]
theorem bX7_isCommon_46_ok : ∀ q ∈ bX7_isCommon_46, decode mX7_isCommon.2.1 q.1 = .ok (q.2, aLn q.2) := by decide +kernel
def bX7_isCommon_50 : List (Nat × Instr) := [(50, .iconst 0)]
theorem bX7_isCommon_50_ok : ∀ q ∈ bX7_isCommon_50, decode mX7_isCommon.2.1 q.1 = .ok (q.2, aLn q.2) := by decide +kernel
theorem dX7_isCommon_6 : decode mX7_isCommon.2.1 6 = .ok (.if_icmp .ge 35, 3) := by decide +kernel
theorem dX7_isCommon_16 : decode mX7_isCommon.2.1 16 = .ok (.ifCond .lt 16, 3) := by decide +kernel
theorem dX7_isCommon_25 : decode mX7_isCommon.2.1 25 = .ok (.if_icmp .ne 7, 3) := by decide +kernel
theorem dX7_isCommon_43 : decode mX7_isCommon.2.1 43 = .ok (.if_icmp .le 7, 3) := by decide +kernel
theorem dX7_isCommon_51 : decode mX7_isCommon.2.1 51 = .ok (.ireturn, 1) := by decide +kernel
def bX7_heldIn_0 : List (Nat × Instr) := [(0, .iconst 0), (1, .istore_n 1), (2, .iconst 0), (3, .istore_n 2)]
theorem bX7_heldIn_0_ok : ∀ q ∈ bX7_heldIn_0, decode mX7_heldIn.2.1 q.1 = .ok (q.2, aLn q.2) := by decide +kernel
def bX7_heldIn_4 : List (Nat × Instr) := [(4, .iload_n 2), (5, .iconst 5)]
theorem bX7_heldIn_4_ok : ∀ q ∈ bX7_heldIn_4, decode mX7_heldIn.2.1 q.1 = .ok (q.2, aLn q.2) := by decide +kernel
def bX7_heldIn_9 : List (Nat × Instr) := [(9, .iload_n 1), (10, .aload_n 0), (11, .bipush 8), (13, .iload_n 2), (14, .iadd), (15, .iaload)]
theorem bX7_heldIn_9_ok : ∀ q ∈ bX7_heldIn_9, decode mX7_heldIn.2.1 q.1 = .ok (q.2, aLn q.2) := by decide +kernel
def bX7_heldIn_19 : List (Nat × Instr) := [(19, .iconst 1), (20, .iload_n 2), (21, .ishl), (22, .goto 4)]
theorem bX7_heldIn_19_ok : ∀ q ∈ bX7_heldIn_19, decode mX7_heldIn.2.1 q.1 = .ok (q.2, aLn q.2) := by decide +kernel
def bX7_heldIn_25 : List (Nat × Instr) := [(25, .iconst 0)]
theorem bX7_heldIn_25_ok : ∀ q ∈ bX7_heldIn_25, decode mX7_heldIn.2.1 q.1 = .ok (q.2, aLn q.2) := by decide +kernel
def bX7_heldIn_26 : List (Nat × Instr) := [(26, .ior), (27, .istore_n 1), (28, .iinc 2 1), (31, .goto (-27))]
theorem bX7_heldIn_26_ok : ∀ q ∈ bX7_heldIn_26, decode mX7_heldIn.2.1 q.1 = .ok (q.2, aLn q.2) := by decide +kernel
def bX7_heldIn_34 : List (Nat × Instr) := [(34, .iload_n 1)]
theorem bX7_heldIn_34_ok : ∀ q ∈ bX7_heldIn_34, decode mX7_heldIn.2.1 q.1 = .ok (q.2, aLn q.2) := by decide +kernel
theorem dX7_heldIn_6 : decode mX7_heldIn.2.1 6 = .ok (.if_icmp .ge 28, 3) := by decide +kernel
theorem dX7_heldIn_16 : decode mX7_heldIn.2.1 16 = .ok (.ifCond .lt 9, 3) := by decide +kernel
theorem dX7_heldIn_35 : decode mX7_heldIn.2.1 35 = .ok (.ireturn, 1) := by decide +kernel
def bX7_holdsIn_0 : List (Nat × Instr) := [(0, .aload_n 0), (1, .iload_n 2)]
theorem bX7_holdsIn_0_ok : ∀ q ∈ bX7_holdsIn_0, decode mX7_holdsIn.2.1 q.1 = .ok (q.2, aLn q.2) := by decide +kernel
def bX7_holdsIn_5 : List (Nat × Instr) := [(5, .istore_n 3), (6, .iload_n 3)]
theorem bX7_holdsIn_5_ok : ∀ q ∈ bX7_holdsIn_5, decode mX7_holdsIn.2.1 q.1 = .ok (q.2, aLn q.2) := by decide +kernel
def bX7_holdsIn_10 : List (Nat × Instr) := [(10, .aload_n 0), (11, .bipush 8), (13, .iload_n 3), (14, .iadd), (15, .bipush (-4)), (17, .iastore)]
theorem bX7_holdsIn_10_ok : ∀ q ∈ bX7_holdsIn_10, decode mX7_holdsIn.2.1 q.1 = .ok (q.2, aLn q.2) := by decide +kernel
def bX7_holdsIn_18 : List (Nat × Instr) := [(18, .aload_n 0), (19, .bipush 8), (21, .iload_n 1), (22, .iadd), (23, .iload_n 2), (24, .iastore)]
theorem bX7_holdsIn_18_ok : ∀ q ∈ bX7_holdsIn_18, decode mX7_holdsIn.2.1 q.1 = .ok (q.2, aLn q.2) := by decide +kernel
theorem dX7_holdsIn_2 : decode mX7_holdsIn.2.1 2 = .ok (.invokestatic 64, 3) := by decide +kernel
theorem dX7_holdsIn_7 : decode mX7_holdsIn.2.1 7 = .ok (.ifCond .lt 11, 3) := by decide +kernel
theorem dX7_holdsIn_25 : decode mX7_holdsIn.2.1 25 = .ok (.return_, 1) := by decide +kernel
def bX7_isSeen_0 : List (Nat × Instr) := [(0, .aload_n 0), (1, .iload_n 1), (2, .iconst 0)]
theorem bX7_isSeen_0_ok : ∀ q ∈ bX7_isSeen_0, decode mX7_isSeen.2.1 q.1 = .ok (q.2, aLn q.2) := by decide +kernel
def bX7_isSeen_6 : List (Nat × Instr) := [(6, .iaload), (7, .istore_n 2), (8, .aload_n 0), (9, .iload_n 1), (10, .iconst 1)]
theorem bX7_isSeen_6_ok : ∀ q ∈ bX7_isSeen_6, decode mX7_isSeen.2.1 q.1 = .ok (q.2, aLn q.2) := by decide +kernel
def bX7_isSeen_14 : List (Nat × Instr) := [(14, .iaload), (15, .istore_n 3), (16, .aload_n 0), (17, .iload_n 1)]
theorem bX7_isSeen_14_ok : ∀ q ∈ bX7_isSeen_14, decode mX7_isSeen.2.1 q.1 = .ok (q.2, aLn q.2) := by decide +kernel
def bX7_isSeen_21 : List (Nat × Instr) := [(21, .istore 4), (23, .iload 4)]
theorem bX7_isSeen_21_ok : ∀ q ∈ bX7_isSeen_21, decode mX7_isSeen.2.1 q.1 = .ok (q.2, aLn q.2) := by decide +kernel
def bX7_isSeen_28 : List (Nat × Instr) := [(28, .aload_n 0), (29, .iload_n 1), (30, .iconst 2)]
theorem bX7_isSeen_28_ok : ∀ q ∈ bX7_isSeen_28, decode mX7_isSeen.2.1 q.1 = .ok (q.2, aLn q.2) := by decide +kernel
def bX7_isSeen_34 : List (Nat × Instr) := [(34, .aload_n 0), (35, .iload_n 1), (36, .iconst 2)]
theorem bX7_isSeen_34_ok : ∀ q ∈ bX7_isSeen_34, decode mX7_isSeen.2.1 q.1 = .ok (q.2, aLn q.2) := by decide +kernel
def bX7_isSeen_40 : List (Nat × Instr) := [(40, .iaload), (41, .iload_n 2), (42, .iload_n 3)]
theorem bX7_isSeen_40_ok : ∀ q ∈ bX7_isSeen_40, decode mX7_isSeen.2.1 q.1 = .ok (q.2, aLn q.2) := by decide +kernel
def bX7_isSeen_49 : List (Nat × Instr) := [(49, .iastore)]
theorem bX7_isSeen_49_ok : ∀ q ∈ bX7_isSeen_49, decode mX7_isSeen.2.1 q.1 = .ok (q.2, aLn q.2) := by decide +kernel
def bX7_isSeen_51 : List (Nat × Instr) := [(51, .aload_n 0), (52, .iconst 3), (53, .iload 4), (55, .iadd), (56, .iaload), (57, .istore 5), (59, .aload_n 0), (60, .iload_n 1), (61, .iconst 2)]
theorem bX7_isSeen_51_ok : ∀ q ∈ bX7_isSeen_51, decode mX7_isSeen.2.1 q.1 = .ok (q.2, aLn q.2) := by decide +kernel
def bX7_isSeen_65 : List (Nat × Instr) := [(65, .bipush 99), (67, .aload_n 0), (68, .iload_n 1), (69, .iconst 2)]
theorem bX7_isSeen_65_ok : ∀ q ∈ bX7_isSeen_65, decode mX7_isSeen.2.1 q.1 = .ok (q.2, aLn q.2) := by decide +kernel
def bX7_isSeen_73 : List (Nat × Instr) := [(73, .iaload), (74, .iload_n 2), (75, .iload_n 3), (76, .iload 5), (78, .aload_n 0), (79, .iconst 1), (80, .iaload)]
theorem bX7_isSeen_73_ok : ∀ q ∈ bX7_isSeen_73, decode mX7_isSeen.2.1 q.1 = .ok (q.2, aLn q.2) := by decide +kernel
def bX7_isSeen_84 : List (Nat × Instr) := [(84, .aload_n 0), (85, .iload 5)]
theorem bX7_isSeen_84_ok : ∀ q ∈ bX7_isSeen_84, decode mX7_isSeen.2.1 q.1 = .ok (q.2, aLn q.2) := by decide +kernel
def bX7_isSeen_93 : List (Nat × Instr) := [(93, .iconst 2), (94, .goto 4)]
theorem bX7_isSeen_93_ok : ∀ q ∈ bX7_isSeen_93, decode mX7_isSeen.2.1 q.1 = .ok (q.2, aLn q.2) := by decide +kernel
def bX7_isSeen_97 : List (Nat × Instr) := [(97, .iconst 1)]
theorem bX7_isSeen_97_ok : ∀ q ∈ bX7_isSeen_97, decode mX7_isSeen.2.1 q.1 = .ok (q.2, aLn q.2) := by decide +kernel
def bX7_isSeen_98 : List (Nat × Instr) := [(98, .idiv), (99, .iadd)]
theorem bX7_isSeen_98_ok : ∀ q ∈ bX7_isSeen_98, decode mX7_isSeen.2.1 q.1 = .ok (q.2, aLn q.2) := by decide +kernel
def bX7_isSeen_103 : List (Nat × Instr) := [(103, .iastore)]
theorem bX7_isSeen_103_ok : ∀ q ∈ bX7_isSeen_103, decode mX7_isSeen.2.1 q.1 = .ok (q.2, aLn q.2) := by decide +kernel
theorem dX7_isSeen_3 : decode mX7_isSeen.2.1 3 = .ok (.invokestatic 57, 3) := by decide +kernel
theorem dX7_isSeen_11 : decode mX7_isSeen.2.1 11 = .ok (.invokestatic 57, 3) := by decide +kernel
theorem dX7_isSeen_18 : decode mX7_isSeen.2.1 18 = .ok (.invokestatic 64, 3) := by decide +kernel
theorem dX7_isSeen_25 : decode mX7_isSeen.2.1 25 = .ok (.ifCond .ge 26, 3) := by decide +kernel
theorem dX7_isSeen_31 : decode mX7_isSeen.2.1 31 = .ok (.invokestatic 57, 3) := by decide +kernel
theorem dX7_isSeen_37 : decode mX7_isSeen.2.1 37 = .ok (.invokestatic 57, 3) := by decide +kernel
theorem dX7_isSeen_43 : decode mX7_isSeen.2.1 43 = .ok (.invokestatic 68, 3) := by decide +kernel
theorem dX7_isSeen_46 : decode mX7_isSeen.2.1 46 = .ok (.invokestatic 71, 3) := by decide +kernel
theorem dX7_isSeen_50 : decode mX7_isSeen.2.1 50 = .ok (.return_, 1) := by decide +kernel
theorem dX7_isSeen_62 : decode mX7_isSeen.2.1 62 = .ok (.invokestatic 57, 3) := by decide +kernel
theorem dX7_isSeen_70 : decode mX7_isSeen.2.1 70 = .ok (.invokestatic 57, 3) := by decide +kernel
theorem dX7_isSeen_81 : decode mX7_isSeen.2.1 81 = .ok (.invokestatic 74, 3) := by decide +kernel
theorem dX7_isSeen_87 : decode mX7_isSeen.2.1 87 = .ok (.invokestatic 78, 3) := by decide +kernel
theorem dX7_isSeen_90 : decode mX7_isSeen.2.1 90 = .ok (.ifCond .eq 7, 3) := by decide +kernel
theorem dX7_isSeen_100 : decode mX7_isSeen.2.1 100 = .ok (.invokestatic 82, 3) := by decide +kernel
theorem dX7_isSeen_104 : decode mX7_isSeen.2.1 104 = .ok (.return_, 1) := by decide +kernel
def bX7_fallsIn_0 : List (Nat × Instr) := [(0, .aload_n 0), (1, .bipush 8), (3, .iload_n 1), (4, .iadd), (5, .iaload), (6, .istore_n 2), (7, .iload_n 2)]
theorem bX7_fallsIn_0_ok : ∀ q ∈ bX7_fallsIn_0, decode mX7_fallsIn.2.1 q.1 = .ok (q.2, aLn q.2) := by decide +kernel
def bX7_fallsIn_11 : List (Nat × Instr) := [(11, .aload_n 0), (12, .iload_n 2), (13, .iconst 2)]
theorem bX7_fallsIn_11_ok : ∀ q ∈ bX7_fallsIn_11, decode mX7_fallsIn.2.1 q.1 = .ok (q.2, aLn q.2) := by decide +kernel
def bX7_fallsIn_17 : List (Nat × Instr) := [(17, .iaload), (18, .aload_n 0), (19, .iload_n 2)]
theorem bX7_fallsIn_17_ok : ∀ q ∈ bX7_fallsIn_17, decode mX7_fallsIn.2.1 q.1 = .ok (q.2, aLn q.2) := by decide +kernel
def bX7_fallsIn_27 : List (Nat × Instr) := [(27, .aload_n 0), (28, .iconst 2), (29, .sipush 999), (32, .aload_n 0), (33, .iconst 2), (34, .iaload), (35, .iconst 1), (36, .iadd)]
theorem bX7_fallsIn_27_ok : ∀ q ∈ bX7_fallsIn_27, decode mX7_fallsIn.2.1 q.1 = .ok (q.2, aLn q.2) := by decide +kernel
def bX7_fallsIn_40 : List (Nat × Instr) := [(40, .iastore), (41, .aload_n 0), (42, .bipush 8), (44, .iload_n 1), (45, .iadd), (46, .bipush (-4)), (48, .iastore), (49, .aload_n 0), (50, .iload_n 2), (51, .iconst 3)]
theorem bX7_fallsIn_40_ok : ∀ q ∈ bX7_fallsIn_40, decode mX7_fallsIn.2.1 q.1 = .ok (q.2, aLn q.2) := by decide +kernel
def bX7_fallsIn_55 : List (Nat × Instr) := [(55, .iaload), (56, .istore_n 3), (57, .iload_n 3), (58, .aload_n 0), (59, .iconst 0), (60, .iaload)]
theorem bX7_fallsIn_55_ok : ∀ q ∈ bX7_fallsIn_55, decode mX7_fallsIn.2.1 q.1 = .ok (q.2, aLn q.2) := by decide +kernel
def bX7_fallsIn_64 : List (Nat × Instr) := [(64, .aload_n 0), (65, .iload_n 3)]
theorem bX7_fallsIn_64_ok : ∀ q ∈ bX7_fallsIn_64, decode mX7_fallsIn.2.1 q.1 = .ok (q.2, aLn q.2) := by decide +kernel
def bX7_fallsIn_72 : List (Nat × Instr) := [(72, .aload_n 0), (73, .iload_n 3), (74, .iconst 2)]
theorem bX7_fallsIn_72_ok : ∀ q ∈ bX7_fallsIn_72, decode mX7_fallsIn.2.1 q.1 = .ok (q.2, aLn q.2) := by decide +kernel
def bX7_fallsIn_78 : List (Nat × Instr) := [(78, .iaload), (79, .aload_n 0), (80, .iload_n 3)]
theorem bX7_fallsIn_78_ok : ∀ q ∈ bX7_fallsIn_78, decode mX7_fallsIn.2.1 q.1 = .ok (q.2, aLn q.2) := by decide +kernel
def bX7_fallsIn_87 : List (Nat × Instr) := [(87, .aload_n 0), (88, .bipush 8), (90, .iload_n 1), (91, .iadd), (92, .iload_n 3), (93, .iastore)]
theorem bX7_fallsIn_87_ok : ∀ q ∈ bX7_fallsIn_87, decode mX7_fallsIn.2.1 q.1 = .ok (q.2, aLn q.2) := by decide +kernel
theorem dX7_fallsIn_8 : decode mX7_fallsIn.2.1 8 = .ok (.ifCond .lt 18, 3) := by decide +kernel
theorem dX7_fallsIn_14 : decode mX7_fallsIn.2.1 14 = .ok (.invokestatic 57, 3) := by decide +kernel
theorem dX7_fallsIn_20 : decode mX7_fallsIn.2.1 20 = .ok (.invokestatic 85, 3) := by decide +kernel
theorem dX7_fallsIn_23 : decode mX7_fallsIn.2.1 23 = .ok (.if_icmp .ge 4, 3) := by decide +kernel
theorem dX7_fallsIn_26 : decode mX7_fallsIn.2.1 26 = .ok (.return_, 1) := by decide +kernel
theorem dX7_fallsIn_37 : decode mX7_fallsIn.2.1 37 = .ok (.invokestatic 82, 3) := by decide +kernel
theorem dX7_fallsIn_52 : decode mX7_fallsIn.2.1 52 = .ok (.invokestatic 57, 3) := by decide +kernel
theorem dX7_fallsIn_61 : decode mX7_fallsIn.2.1 61 = .ok (.if_icmp .ge 33, 3) := by decide +kernel
theorem dX7_fallsIn_66 : decode mX7_fallsIn.2.1 66 = .ok (.invokestatic 64, 3) := by decide +kernel
theorem dX7_fallsIn_69 : decode mX7_fallsIn.2.1 69 = .ok (.ifCond .ge 25, 3) := by decide +kernel
theorem dX7_fallsIn_75 : decode mX7_fallsIn.2.1 75 = .ok (.invokestatic 57, 3) := by decide +kernel
theorem dX7_fallsIn_81 : decode mX7_fallsIn.2.1 81 = .ok (.invokestatic 85, 3) := by decide +kernel
theorem dX7_fallsIn_84 : decode mX7_fallsIn.2.1 84 = .ok (.if_icmp .ge 10, 3) := by decide +kernel
theorem dX7_fallsIn_94 : decode mX7_fallsIn.2.1 94 = .ok (.return_, 1) := by decide +kernel
def bX7_day_0 : List (Nat × Instr) := [(0, .aload_n 0), (1, .iconst 1), (2, .dup2), (3, .iaload), (4, .iconst 1), (5, .iadd), (6, .iastore), (7, .iconst 0), (8, .istore_n 1)]
theorem bX7_day_0_ok : ∀ q ∈ bX7_day_0, decode mX7_day.2.1 q.1 = .ok (q.2, aLn q.2) := by decide +kernel
def bX7_day_9 : List (Nat × Instr) := [(9, .iload_n 1), (10, .aload_n 0), (11, .iconst 0), (12, .iaload)]
theorem bX7_day_9_ok : ∀ q ∈ bX7_day_9, decode mX7_day.2.1 q.1 = .ok (q.2, aLn q.2) := by decide +kernel
def bX7_day_16 : List (Nat × Instr) := [(16, .aload_n 0), (17, .iload_n 1)]
theorem bX7_day_16_ok : ∀ q ∈ bX7_day_16, decode mX7_day.2.1 q.1 = .ok (q.2, aLn q.2) := by decide +kernel
def bX7_day_21 : List (Nat × Instr) := [(21, .iinc 1 1), (24, .goto (-15))]
theorem bX7_day_21_ok : ∀ q ∈ bX7_day_21, decode mX7_day.2.1 q.1 = .ok (q.2, aLn q.2) := by decide +kernel
def bX7_day_27 : List (Nat × Instr) := [(27, .iconst 0), (28, .istore_n 1)]
theorem bX7_day_27_ok : ∀ q ∈ bX7_day_27, decode mX7_day.2.1 q.1 = .ok (q.2, aLn q.2) := by decide +kernel
def bX7_day_29 : List (Nat × Instr) := [(29, .iload_n 1), (30, .iconst 5)]
theorem bX7_day_29_ok : ∀ q ∈ bX7_day_29, decode mX7_day.2.1 q.1 = .ok (q.2, aLn q.2) := by decide +kernel
def bX7_day_34 : List (Nat × Instr) := [(34, .aload_n 0), (35, .iload_n 1)]
theorem bX7_day_34_ok : ∀ q ∈ bX7_day_34, decode mX7_day.2.1 q.1 = .ok (q.2, aLn q.2) := by decide +kernel
def bX7_day_39 : List (Nat × Instr) := [(39, .iinc 1 1), (42, .goto (-13))]
theorem bX7_day_39_ok : ∀ q ∈ bX7_day_39, decode mX7_day.2.1 q.1 = .ok (q.2, aLn q.2) := by decide +kernel
theorem dX7_day_13 : decode mX7_day.2.1 13 = .ok (.if_icmp .ge 14, 3) := by decide +kernel
theorem dX7_day_18 : decode mX7_day.2.1 18 = .ok (.invokestatic 88, 3) := by decide +kernel
theorem dX7_day_31 : decode mX7_day.2.1 31 = .ok (.if_icmp .ge 14, 3) := by decide +kernel
theorem dX7_day_36 : decode mX7_day.2.1 36 = .ok (.invokestatic 92, 3) := by decide +kernel
theorem dX7_day_45 : decode mX7_day.2.1 45 = .ok (.return_, 1) := by decide +kernel
def bX7_daysOn_0 : List (Nat × Instr) := [(0, .iconst 0), (1, .istore_n 2)]
theorem bX7_daysOn_0_ok : ∀ q ∈ bX7_daysOn_0, decode mX7_daysOn.2.1 q.1 = .ok (q.2, aLn q.2) := by decide +kernel
def bX7_daysOn_2 : List (Nat × Instr) := [(2, .iload_n 2), (3, .iload_n 1)]
theorem bX7_daysOn_2_ok : ∀ q ∈ bX7_daysOn_2, decode mX7_daysOn.2.1 q.1 = .ok (q.2, aLn q.2) := by decide +kernel
def bX7_daysOn_7 : List (Nat × Instr) := [(7, .aload_n 0)]
theorem bX7_daysOn_7_ok : ∀ q ∈ bX7_daysOn_7, decode mX7_daysOn.2.1 q.1 = .ok (q.2, aLn q.2) := by decide +kernel
def bX7_daysOn_11 : List (Nat × Instr) := [(11, .iinc 2 1), (14, .goto (-12))]
theorem bX7_daysOn_11_ok : ∀ q ∈ bX7_daysOn_11, decode mX7_daysOn.2.1 q.1 = .ok (q.2, aLn q.2) := by decide +kernel
theorem dX7_daysOn_4 : decode mX7_daysOn.2.1 4 = .ok (.if_icmp .ge 13, 3) := by decide +kernel
theorem dX7_daysOn_8 : decode mX7_daysOn.2.1 8 = .ok (.invokestatic 95, 3) := by decide +kernel
theorem dX7_daysOn_17 : decode mX7_daysOn.2.1 17 = .ok (.return_, 1) := by decide +kernel
def bX7_allKnown_0 : List (Nat × Instr) := [(0, .iconst 0), (1, .istore_n 1), (2, .iconst 0), (3, .istore_n 2)]
theorem bX7_allKnown_0_ok : ∀ q ∈ bX7_allKnown_0, decode mX7_allKnown.2.1 q.1 = .ok (q.2, aLn q.2) := by decide +kernel
def bX7_allKnown_4 : List (Nat × Instr) := [(4, .iload_n 2), (5, .aload_n 0), (6, .iconst 0), (7, .iaload)]
theorem bX7_allKnown_4_ok : ∀ q ∈ bX7_allKnown_4, decode mX7_allKnown.2.1 q.1 = .ok (q.2, aLn q.2) := by decide +kernel
def bX7_allKnown_11 : List (Nat × Instr) := [(11, .iload_n 1), (12, .aload_n 0), (13, .iload_n 2), (14, .iconst 2)]
theorem bX7_allKnown_11_ok : ∀ q ∈ bX7_allKnown_11, decode mX7_allKnown.2.1 q.1 = .ok (q.2, aLn q.2) := by decide +kernel
def bX7_allKnown_18 : List (Nat × Instr) := [(18, .iaload), (19, .iadd), (20, .istore_n 1), (21, .iinc 2 1), (24, .goto (-20))]
theorem bX7_allKnown_18_ok : ∀ q ∈ bX7_allKnown_18, decode mX7_allKnown.2.1 q.1 = .ok (q.2, aLn q.2) := by decide +kernel
def bX7_allKnown_27 : List (Nat × Instr) := [(27, .iload_n 1)]
theorem bX7_allKnown_27_ok : ∀ q ∈ bX7_allKnown_27, decode mX7_allKnown.2.1 q.1 = .ok (q.2, aLn q.2) := by decide +kernel
theorem dX7_allKnown_8 : decode mX7_allKnown.2.1 8 = .ok (.if_icmp .ge 19, 3) := by decide +kernel
theorem dX7_allKnown_15 : decode mX7_allKnown.2.1 15 = .ok (.invokestatic 57, 3) := by decide +kernel
theorem dX7_allKnown_28 : decode mX7_allKnown.2.1 28 = .ok (.ireturn, 1) := by decide +kernel
def bX7_here_0 : List (Nat × Instr) := [(0, .aload_n 0), (1, .getfield 99), (4, .aload_n 0), (5, .getfield 103)]
theorem bX7_here_0_ok : ∀ q ∈ bX7_here_0, decode mX7_here.2.1 q.1 = .ok (q.2, aLn q.2) := by decide +kernel
def bX7_here_11 : List (Nat × Instr) := [(11, .aload_n 0), (12, .getfield 46), (15, .aload_n 0), (16, .getfield 106), (19, .aload_n 0), (20, .getfield 99), (23, .iadd), (24, .iaload), (25, .sipush 255), (28, .iand), (29, .goto 4)]
theorem bX7_here_11_ok : ∀ q ∈ bX7_here_11, decode mX7_here.2.1 q.1 = .ok (q.2, aLn q.2) := by decide +kernel
def bX7_here_32 : List (Nat × Instr) := [(32, .iconst (-1))]
theorem bX7_here_32_ok : ∀ q ∈ bX7_here_32, decode mX7_here.2.1 q.1 = .ok (q.2, aLn q.2) := by decide +kernel
theorem dX7_here_8 : decode mX7_here.2.1 8 = .ok (.if_icmp .ge 24, 3) := by decide +kernel
theorem dX7_here_33 : decode mX7_here.2.1 33 = .ok (.ireturn, 1) := by decide +kernel
def bX7_readsNumber_0 : List (Nat × Instr) := [(0, .aload_n 0), (1, .getfield 22), (4, .iload_n 1), (5, .iconst 0), (6, .iastore), (7, .iconst 0), (8, .istore_n 3)]
theorem bX7_readsNumber_0_ok : ∀ q ∈ bX7_readsNumber_0, decode mX7_readsNumber.2.1 q.1 = .ok (q.2, aLn q.2) := by decide +kernel
def bX7_readsNumber_9 : List (Nat × Instr) := [(9, .iload_n 3), (10, .iload_n 2)]
theorem bX7_readsNumber_9_ok : ∀ q ∈ bX7_readsNumber_9, decode mX7_readsNumber.2.1 q.1 = .ok (q.2, aLn q.2) := by decide +kernel
def bX7_readsNumber_14 : List (Nat × Instr) := [(14, .aload_n 0)]
theorem bX7_readsNumber_14_ok : ∀ q ∈ bX7_readsNumber_14, decode mX7_readsNumber.2.1 q.1 = .ok (q.2, aLn q.2) := by decide +kernel
def bX7_readsNumber_18 : List (Nat × Instr) := [(18, .bipush 48), (20, .bipush 57)]
theorem bX7_readsNumber_18_ok : ∀ q ∈ bX7_readsNumber_18, decode mX7_readsNumber.2.1 q.1 = .ok (q.2, aLn q.2) := by decide +kernel
def bX7_readsNumber_28 : List (Nat × Instr) := [(28, .iconst 0)]
theorem bX7_readsNumber_28_ok : ∀ q ∈ bX7_readsNumber_28, decode mX7_readsNumber.2.1 q.1 = .ok (q.2, aLn q.2) := by decide +kernel
def bX7_readsNumber_30 : List (Nat × Instr) := [(30, .aload_n 0), (31, .getfield 22), (34, .iload_n 1), (35, .bipush 10), (37, .aload_n 0), (38, .getfield 22), (41, .iload_n 1), (42, .iaload), (43, .imul), (44, .aload_n 0)]
theorem bX7_readsNumber_30_ok : ∀ q ∈ bX7_readsNumber_30, decode mX7_readsNumber.2.1 q.1 = .ok (q.2, aLn q.2) := by decide +kernel
def bX7_readsNumber_48 : List (Nat × Instr) := [(48, .iadd), (49, .bipush 48), (51, .isub), (52, .iastore), (53, .aload_n 0), (54, .dup), (55, .getfield 99), (58, .iconst 1), (59, .iadd), (60, .putfield 99), (63, .iinc 3 1), (66, .goto (-57))]
theorem bX7_readsNumber_48_ok : ∀ q ∈ bX7_readsNumber_48, decode mX7_readsNumber.2.1 q.1 = .ok (q.2, aLn q.2) := by decide +kernel
def bX7_readsNumber_69 : List (Nat × Instr) := [(69, .iconst 1)]
theorem bX7_readsNumber_69_ok : ∀ q ∈ bX7_readsNumber_69, decode mX7_readsNumber.2.1 q.1 = .ok (q.2, aLn q.2) := by decide +kernel
theorem dX7_readsNumber_11 : decode mX7_readsNumber.2.1 11 = .ok (.if_icmp .ge 58, 3) := by decide +kernel
theorem dX7_readsNumber_15 : decode mX7_readsNumber.2.1 15 = .ok (.invokevirtual 109, 3) := by decide +kernel
theorem dX7_readsNumber_22 : decode mX7_readsNumber.2.1 22 = .ok (.invokestatic 49, 3) := by decide +kernel
theorem dX7_readsNumber_25 : decode mX7_readsNumber.2.1 25 = .ok (.ifCond .ne 5, 3) := by decide +kernel
theorem dX7_readsNumber_29 : decode mX7_readsNumber.2.1 29 = .ok (.ireturn, 1) := by decide +kernel
theorem dX7_readsNumber_45 : decode mX7_readsNumber.2.1 45 = .ok (.invokevirtual 109, 3) := by decide +kernel
theorem dX7_readsNumber_70 : decode mX7_readsNumber.2.1 70 = .ok (.ireturn, 1) := by decide +kernel
def bX7_readsStatement_0 : List (Nat × Instr) := [(0, .aload_n 0)]
theorem bX7_readsStatement_0_ok : ∀ q ∈ bX7_readsStatement_0, decode mX7_readsStatement.2.1 q.1 = .ok (q.2, aLn q.2) := by decide +kernel
def bX7_readsStatement_4 : List (Nat × Instr) := [(4, .istore_n 1), (5, .aload_n 0), (6, .dup), (7, .getfield 99), (10, .iconst 1), (11, .iadd), (12, .putfield 99), (15, .iload_n 1)]
theorem bX7_readsStatement_4_ok : ∀ q ∈ bX7_readsStatement_4, decode mX7_readsStatement.2.1 q.1 = .ok (q.2, aLn q.2) := by decide +kernel
def bX7_readsStatement_84 : List (Nat × Instr) := [(84, .aload_n 0), (85, .iconst 0), (86, .iconst 1)]
theorem bX7_readsStatement_84_ok : ∀ q ∈ bX7_readsStatement_84, decode mX7_readsStatement.2.1 q.1 = .ok (q.2, aLn q.2) := by decide +kernel
def bX7_readsStatement_93 : List (Nat × Instr) := [(93, .aload_n 0), (94, .iconst 1), (95, .iconst 1)]
theorem bX7_readsStatement_93_ok : ∀ q ∈ bX7_readsStatement_93, decode mX7_readsStatement.2.1 q.1 = .ok (q.2, aLn q.2) := by decide +kernel
def bX7_readsStatement_102 : List (Nat × Instr) := [(102, .aload_n 0), (103, .iconst 2), (104, .iconst 1)]
theorem bX7_readsStatement_102_ok : ∀ q ∈ bX7_readsStatement_102, decode mX7_readsStatement.2.1 q.1 = .ok (q.2, aLn q.2) := by decide +kernel
def bX7_readsStatement_111 : List (Nat × Instr) := [(111, .iconst 1), (112, .goto 4)]
theorem bX7_readsStatement_111_ok : ∀ q ∈ bX7_readsStatement_111, decode mX7_readsStatement.2.1 q.1 = .ok (q.2, aLn q.2) := by decide +kernel
def bX7_readsStatement_115 : List (Nat × Instr) := [(115, .iconst 0)]
theorem bX7_readsStatement_115_ok : ∀ q ∈ bX7_readsStatement_115, decode mX7_readsStatement.2.1 q.1 = .ok (q.2, aLn q.2) := by decide +kernel
def bX7_readsStatement_116 : List (Nat × Instr) := [(116, .istore_n 2), (117, .goto 89)]
theorem bX7_readsStatement_116_ok : ∀ q ∈ bX7_readsStatement_116, decode mX7_readsStatement.2.1 q.1 = .ok (q.2, aLn q.2) := by decide +kernel
def bX7_readsStatement_120 : List (Nat × Instr) := [(120, .aload_n 0), (121, .iconst 0), (122, .iconst 1)]
theorem bX7_readsStatement_120_ok : ∀ q ∈ bX7_readsStatement_120, decode mX7_readsStatement.2.1 q.1 = .ok (q.2, aLn q.2) := by decide +kernel
def bX7_readsStatement_129 : List (Nat × Instr) := [(129, .aload_n 0), (130, .iconst 1), (131, .iconst 1)]
theorem bX7_readsStatement_129_ok : ∀ q ∈ bX7_readsStatement_129, decode mX7_readsStatement.2.1 q.1 = .ok (q.2, aLn q.2) := by decide +kernel
def bX7_readsStatement_138 : List (Nat × Instr) := [(138, .iconst 1), (139, .goto 4)]
theorem bX7_readsStatement_138_ok : ∀ q ∈ bX7_readsStatement_138, decode mX7_readsStatement.2.1 q.1 = .ok (q.2, aLn q.2) := by decide +kernel
def bX7_readsStatement_142 : List (Nat × Instr) := [(142, .iconst 0)]
theorem bX7_readsStatement_142_ok : ∀ q ∈ bX7_readsStatement_142, decode mX7_readsStatement.2.1 q.1 = .ok (q.2, aLn q.2) := by decide +kernel
def bX7_readsStatement_143 : List (Nat × Instr) := [(143, .istore_n 2), (144, .goto 62)]
theorem bX7_readsStatement_143_ok : ∀ q ∈ bX7_readsStatement_143, decode mX7_readsStatement.2.1 q.1 = .ok (q.2, aLn q.2) := by decide +kernel
def bX7_readsStatement_147 : List (Nat × Instr) := [(147, .aload_n 0), (148, .iconst 0), (149, .iconst 1)]
theorem bX7_readsStatement_147_ok : ∀ q ∈ bX7_readsStatement_147, decode mX7_readsStatement.2.1 q.1 = .ok (q.2, aLn q.2) := by decide +kernel
def bX7_readsStatement_153 : List (Nat × Instr) := [(153, .istore_n 2), (154, .goto 52)]
theorem bX7_readsStatement_153_ok : ∀ q ∈ bX7_readsStatement_153, decode mX7_readsStatement.2.1 q.1 = .ok (q.2, aLn q.2) := by decide +kernel
def bX7_readsStatement_157 : List (Nat × Instr) := [(157, .aload_n 0), (158, .iconst 0), (159, .iconst 1)]
theorem bX7_readsStatement_157_ok : ∀ q ∈ bX7_readsStatement_157, decode mX7_readsStatement.2.1 q.1 = .ok (q.2, aLn q.2) := by decide +kernel
def bX7_readsStatement_166 : List (Nat × Instr) := [(166, .aload_n 0), (167, .iconst 1), (168, .iconst 2)]
theorem bX7_readsStatement_166_ok : ∀ q ∈ bX7_readsStatement_166, decode mX7_readsStatement.2.1 q.1 = .ok (q.2, aLn q.2) := by decide +kernel
def bX7_readsStatement_175 : List (Nat × Instr) := [(175, .iconst 1), (176, .goto 4)]
theorem bX7_readsStatement_175_ok : ∀ q ∈ bX7_readsStatement_175, decode mX7_readsStatement.2.1 q.1 = .ok (q.2, aLn q.2) := by decide +kernel
def bX7_readsStatement_179 : List (Nat × Instr) := [(179, .iconst 0)]
theorem bX7_readsStatement_179_ok : ∀ q ∈ bX7_readsStatement_179, decode mX7_readsStatement.2.1 q.1 = .ok (q.2, aLn q.2) := by decide +kernel
def bX7_readsStatement_180 : List (Nat × Instr) := [(180, .istore_n 2), (181, .goto 25)]
theorem bX7_readsStatement_180_ok : ∀ q ∈ bX7_readsStatement_180, decode mX7_readsStatement.2.1 q.1 = .ok (q.2, aLn q.2) := by decide +kernel
def bX7_readsStatement_184 : List (Nat × Instr) := [(184, .aload_n 0), (185, .iconst 0), (186, .iconst 2)]
theorem bX7_readsStatement_184_ok : ∀ q ∈ bX7_readsStatement_184, decode mX7_readsStatement.2.1 q.1 = .ok (q.2, aLn q.2) := by decide +kernel
def bX7_readsStatement_190 : List (Nat × Instr) := [(190, .istore_n 2), (191, .goto 15)]
theorem bX7_readsStatement_190_ok : ∀ q ∈ bX7_readsStatement_190, decode mX7_readsStatement.2.1 q.1 = .ok (q.2, aLn q.2) := by decide +kernel
def bX7_readsStatement_194 : List (Nat × Instr) := [(194, .aload_n 0), (195, .dup), (196, .getfield 99), (199, .iconst 1), (200, .isub), (201, .putfield 99), (204, .iconst 0)]
theorem bX7_readsStatement_194_ok : ∀ q ∈ bX7_readsStatement_194, decode mX7_readsStatement.2.1 q.1 = .ok (q.2, aLn q.2) := by decide +kernel
def bX7_readsStatement_206 : List (Nat × Instr) := [(206, .iload_n 2)]
theorem bX7_readsStatement_206_ok : ∀ q ∈ bX7_readsStatement_206, decode mX7_readsStatement.2.1 q.1 = .ok (q.2, aLn q.2) := by decide +kernel
def bX7_readsStatement_210 : List (Nat × Instr) := [(210, .aload_n 0)]
theorem bX7_readsStatement_210_ok : ∀ q ∈ bX7_readsStatement_210, decode mX7_readsStatement.2.1 q.1 = .ok (q.2, aLn q.2) := by decide +kernel
def bX7_readsStatement_214 : List (Nat × Instr) := [(214, .bipush 59)]
theorem bX7_readsStatement_214_ok : ∀ q ∈ bX7_readsStatement_214, decode mX7_readsStatement.2.1 q.1 = .ok (q.2, aLn q.2) := by decide +kernel
def bX7_readsStatement_219 : List (Nat × Instr) := [(219, .iconst 0)]
theorem bX7_readsStatement_219_ok : ∀ q ∈ bX7_readsStatement_219, decode mX7_readsStatement.2.1 q.1 = .ok (q.2, aLn q.2) := by decide +kernel
def bX7_readsStatement_221 : List (Nat × Instr) := [(221, .aload_n 0), (222, .dup), (223, .getfield 99), (226, .iconst 1), (227, .iadd), (228, .putfield 99), (231, .iconst 1)]
theorem bX7_readsStatement_221_ok : ∀ q ∈ bX7_readsStatement_221, decode mX7_readsStatement.2.1 q.1 = .ok (q.2, aLn q.2) := by decide +kernel
theorem dX7_readsStatement_1 : decode mX7_readsStatement.2.1 1 = .ok (.invokevirtual 109, 3) := by decide +kernel
theorem dX7_readsStatement_16 : decode mX7_readsStatement.2.1 16 = .ok (.tableswitch 178 100 112 #[168, 131, 178, 178, 104, 178, 178, 141, 178, 178, 178, 104, 68], 68) := by decide +kernel
theorem dX7_readsStatement_87 : decode mX7_readsStatement.2.1 87 = .ok (.invokevirtual 113, 3) := by decide +kernel
theorem dX7_readsStatement_90 : decode mX7_readsStatement.2.1 90 = .ok (.ifCond .eq 25, 3) := by decide +kernel
theorem dX7_readsStatement_96 : decode mX7_readsStatement.2.1 96 = .ok (.invokevirtual 113, 3) := by decide +kernel
theorem dX7_readsStatement_99 : decode mX7_readsStatement.2.1 99 = .ok (.ifCond .eq 16, 3) := by decide +kernel
theorem dX7_readsStatement_105 : decode mX7_readsStatement.2.1 105 = .ok (.invokevirtual 113, 3) := by decide +kernel
theorem dX7_readsStatement_108 : decode mX7_readsStatement.2.1 108 = .ok (.ifCond .eq 7, 3) := by decide +kernel
theorem dX7_readsStatement_123 : decode mX7_readsStatement.2.1 123 = .ok (.invokevirtual 113, 3) := by decide +kernel
theorem dX7_readsStatement_126 : decode mX7_readsStatement.2.1 126 = .ok (.ifCond .eq 16, 3) := by decide +kernel
theorem dX7_readsStatement_132 : decode mX7_readsStatement.2.1 132 = .ok (.invokevirtual 113, 3) := by decide +kernel
theorem dX7_readsStatement_135 : decode mX7_readsStatement.2.1 135 = .ok (.ifCond .eq 7, 3) := by decide +kernel
theorem dX7_readsStatement_150 : decode mX7_readsStatement.2.1 150 = .ok (.invokevirtual 113, 3) := by decide +kernel
theorem dX7_readsStatement_160 : decode mX7_readsStatement.2.1 160 = .ok (.invokevirtual 113, 3) := by decide +kernel
theorem dX7_readsStatement_163 : decode mX7_readsStatement.2.1 163 = .ok (.ifCond .eq 16, 3) := by decide +kernel
theorem dX7_readsStatement_169 : decode mX7_readsStatement.2.1 169 = .ok (.invokevirtual 113, 3) := by decide +kernel
theorem dX7_readsStatement_172 : decode mX7_readsStatement.2.1 172 = .ok (.ifCond .eq 7, 3) := by decide +kernel
theorem dX7_readsStatement_187 : decode mX7_readsStatement.2.1 187 = .ok (.invokevirtual 113, 3) := by decide +kernel
theorem dX7_readsStatement_205 : decode mX7_readsStatement.2.1 205 = .ok (.ireturn, 1) := by decide +kernel
theorem dX7_readsStatement_207 : decode mX7_readsStatement.2.1 207 = .ok (.ifCond .eq 12, 3) := by decide +kernel
theorem dX7_readsStatement_211 : decode mX7_readsStatement.2.1 211 = .ok (.invokevirtual 109, 3) := by decide +kernel
theorem dX7_readsStatement_216 : decode mX7_readsStatement.2.1 216 = .ok (.if_icmp .eq 5, 3) := by decide +kernel
theorem dX7_readsStatement_220 : decode mX7_readsStatement.2.1 220 = .ok (.ireturn, 1) := by decide +kernel
theorem dX7_readsStatement_232 : decode mX7_readsStatement.2.1 232 = .ok (.ireturn, 1) := by decide +kernel
def bX7_adds_0 : List (Nat × Instr) := [(0, .aload_n 0), (1, .getfield 9), (4, .iconst 0), (5, .iaload), (6, .istore 4), (8, .aload_n 0), (9, .getfield 9), (12, .iload 4), (14, .iconst 0)]
theorem bX7_adds_0_ok : ∀ q ∈ bX7_adds_0, decode mX7_adds.2.1 q.1 = .ok (q.2, aLn q.2) := by decide +kernel
def bX7_adds_18 : List (Nat × Instr) := [(18, .iload_n 1), (19, .iastore), (20, .aload_n 0), (21, .getfield 9), (24, .iload 4), (26, .iconst 1)]
theorem bX7_adds_18_ok : ∀ q ∈ bX7_adds_18, decode mX7_adds.2.1 q.1 = .ok (q.2, aLn q.2) := by decide +kernel
def bX7_adds_30 : List (Nat × Instr) := [(30, .iload_n 2), (31, .iastore), (32, .aload_n 0), (33, .getfield 9), (36, .iload 4), (38, .iconst 2)]
theorem bX7_adds_30_ok : ∀ q ∈ bX7_adds_30, decode mX7_adds.2.1 q.1 = .ok (q.2, aLn q.2) := by decide +kernel
def bX7_adds_42 : List (Nat × Instr) := [(42, .iconst 0), (43, .iastore), (44, .aload_n 0), (45, .getfield 9), (48, .iload 4), (50, .iconst 3)]
theorem bX7_adds_42_ok : ∀ q ∈ bX7_adds_42, decode mX7_adds.2.1 q.1 = .ok (q.2, aLn q.2) := by decide +kernel
def bX7_adds_54 : List (Nat × Instr) := [(54, .iload_n 3), (55, .iastore), (56, .aload_n 0), (57, .getfield 9), (60, .iconst 0), (61, .dup2), (62, .iaload), (63, .iconst 1), (64, .iadd), (65, .iastore)]
theorem bX7_adds_54_ok : ∀ q ∈ bX7_adds_54, decode mX7_adds.2.1 q.1 = .ok (q.2, aLn q.2) := by decide +kernel
theorem dX7_adds_15 : decode mX7_adds.2.1 15 = .ok (.invokestatic 57, 3) := by decide +kernel
theorem dX7_adds_27 : decode mX7_adds.2.1 27 = .ok (.invokestatic 57, 3) := by decide +kernel
theorem dX7_adds_39 : decode mX7_adds.2.1 39 = .ok (.invokestatic 57, 3) := by decide +kernel
theorem dX7_adds_51 : decode mX7_adds.2.1 51 = .ok (.invokestatic 57, 3) := by decide +kernel
theorem dX7_adds_66 : decode mX7_adds.2.1 66 = .ok (.return_, 1) := by decide +kernel
def bX7_isDone_0 : List (Nat × Instr) := [(0, .aload_n 0), (1, .getfield 22), (4, .iconst 0), (5, .iaload), (6, .istore_n 2), (7, .aload_n 0), (8, .getfield 22), (11, .iconst 1), (12, .iaload), (13, .istore_n 3), (14, .iload_n 1)]
theorem bX7_isDone_0_ok : ∀ q ∈ bX7_isDone_0, decode mX7_isDone.2.1 q.1 = .ok (q.2, aLn q.2) := by decide +kernel
def bX7_isDone_76 : List (Nat × Instr) := [(76, .iload_n 2), (77, .bipush 8)]
theorem bX7_isDone_76_ok : ∀ q ∈ bX7_isDone_76, decode mX7_isDone.2.1 q.1 = .ok (q.2, aLn q.2) := by decide +kernel
def bX7_isDone_82 : List (Nat × Instr) := [(82, .aload_n 0), (83, .getfield 22), (86, .iconst 2), (87, .iaload)]
theorem bX7_isDone_82_ok : ∀ q ∈ bX7_isDone_82, decode mX7_isDone.2.1 q.1 = .ok (q.2, aLn q.2) := by decide +kernel
def bX7_isDone_94 : List (Nat × Instr) := [(94, .aload_n 0), (95, .getfield 9), (98, .iconst 0), (99, .iaload), (100, .bipush 8)]
theorem bX7_isDone_94_ok : ∀ q ∈ bX7_isDone_94, decode mX7_isDone.2.1 q.1 = .ok (q.2, aLn q.2) := by decide +kernel
def bX7_isDone_105 : List (Nat × Instr) := [(105, .iconst 0)]
theorem bX7_isDone_105_ok : ∀ q ∈ bX7_isDone_105, decode mX7_isDone.2.1 q.1 = .ok (q.2, aLn q.2) := by decide +kernel
def bX7_isDone_107 : List (Nat × Instr) := [(107, .aload_n 0), (108, .iload_n 2), (109, .iload_n 3), (110, .aload_n 0), (111, .getfield 22), (114, .iconst 2), (115, .iaload)]
theorem bX7_isDone_107_ok : ∀ q ∈ bX7_isDone_107, decode mX7_isDone.2.1 q.1 = .ok (q.2, aLn q.2) := by decide +kernel
def bX7_isDone_119 : List (Nat × Instr) := [(119, .iconst 1)]
theorem bX7_isDone_119_ok : ∀ q ∈ bX7_isDone_119, decode mX7_isDone.2.1 q.1 = .ok (q.2, aLn q.2) := by decide +kernel
def bX7_isDone_121 : List (Nat × Instr) := [(121, .iload_n 2)]
theorem bX7_isDone_121_ok : ∀ q ∈ bX7_isDone_121, decode mX7_isDone.2.1 q.1 = .ok (q.2, aLn q.2) := by decide +kernel
def bX7_isDone_128 : List (Nat × Instr) := [(128, .iconst 0)]
theorem bX7_isDone_128_ok : ∀ q ∈ bX7_isDone_128, decode mX7_isDone.2.1 q.1 = .ok (q.2, aLn q.2) := by decide +kernel
def bX7_isDone_130 : List (Nat × Instr) := [(130, .aload_n 0), (131, .getfield 9), (134, .iconst 3), (135, .iload_n 2), (136, .iadd), (137, .iload_n 3), (138, .iastore), (139, .iconst 1)]
theorem bX7_isDone_130_ok : ∀ q ∈ bX7_isDone_130, decode mX7_isDone.2.1 q.1 = .ok (q.2, aLn q.2) := by decide +kernel
def bX7_isDone_141 : List (Nat × Instr) := [(141, .iload_n 2)]
theorem bX7_isDone_141_ok : ∀ q ∈ bX7_isDone_141, decode mX7_isDone.2.1 q.1 = .ok (q.2, aLn q.2) := by decide +kernel
def bX7_isDone_148 : List (Nat × Instr) := [(148, .aload_n 0), (149, .iload_n 3)]
theorem bX7_isDone_148_ok : ∀ q ∈ bX7_isDone_148, decode mX7_isDone.2.1 q.1 = .ok (q.2, aLn q.2) := by decide +kernel
def bX7_isDone_156 : List (Nat × Instr) := [(156, .iconst 0)]
theorem bX7_isDone_156_ok : ∀ q ∈ bX7_isDone_156, decode mX7_isDone.2.1 q.1 = .ok (q.2, aLn q.2) := by decide +kernel
def bX7_isDone_158 : List (Nat × Instr) := [(158, .aload_n 0), (159, .getfield 9), (162, .iload_n 2), (163, .iload_n 3)]
theorem bX7_isDone_158_ok : ∀ q ∈ bX7_isDone_158, decode mX7_isDone.2.1 q.1 = .ok (q.2, aLn q.2) := by decide +kernel
def bX7_isDone_167 : List (Nat × Instr) := [(167, .iconst 1)]
theorem bX7_isDone_167_ok : ∀ q ∈ bX7_isDone_167, decode mX7_isDone.2.1 q.1 = .ok (q.2, aLn q.2) := by decide +kernel
def bX7_isDone_169 : List (Nat × Instr) := [(169, .iload_n 2)]
theorem bX7_isDone_169_ok : ∀ q ∈ bX7_isDone_169, decode mX7_isDone.2.1 q.1 = .ok (q.2, aLn q.2) := by decide +kernel
def bX7_isDone_176 : List (Nat × Instr) := [(176, .iconst 0)]
theorem bX7_isDone_176_ok : ∀ q ∈ bX7_isDone_176, decode mX7_isDone.2.1 q.1 = .ok (q.2, aLn q.2) := by decide +kernel
def bX7_isDone_178 : List (Nat × Instr) := [(178, .aload_n 0), (179, .getfield 9), (182, .bipush 8), (184, .iload_n 2), (185, .iadd), (186, .bipush (-4)), (188, .iastore), (189, .iconst 1)]
theorem bX7_isDone_178_ok : ∀ q ∈ bX7_isDone_178, decode mX7_isDone.2.1 q.1 = .ok (q.2, aLn q.2) := by decide +kernel
def bX7_isDone_191 : List (Nat × Instr) := [(191, .aload_n 0), (192, .iload_n 2)]
theorem bX7_isDone_191_ok : ∀ q ∈ bX7_isDone_191, decode mX7_isDone.2.1 q.1 = .ok (q.2, aLn q.2) := by decide +kernel
def bX7_isDone_199 : List (Nat × Instr) := [(199, .iconst 0)]
theorem bX7_isDone_199_ok : ∀ q ∈ bX7_isDone_199, decode mX7_isDone.2.1 q.1 = .ok (q.2, aLn q.2) := by decide +kernel
def bX7_isDone_201 : List (Nat × Instr) := [(201, .aload_n 0), (202, .getfield 9), (205, .iload_n 2), (206, .iconst 2)]
theorem bX7_isDone_201_ok : ∀ q ∈ bX7_isDone_201, decode mX7_isDone.2.1 q.1 = .ok (q.2, aLn q.2) := by decide +kernel
def bX7_isDone_210 : List (Nat × Instr) := [(210, .iload_n 3), (211, .iastore), (212, .iconst 1)]
theorem bX7_isDone_210_ok : ∀ q ∈ bX7_isDone_210, decode mX7_isDone.2.1 q.1 = .ok (q.2, aLn q.2) := by decide +kernel
def bX7_isDone_214 : List (Nat × Instr) := [(214, .iload_n 2), (215, .iconst 1), (216, .bipush 60)]
theorem bX7_isDone_214_ok : ∀ q ∈ bX7_isDone_214, decode mX7_isDone.2.1 q.1 = .ok (q.2, aLn q.2) := by decide +kernel
def bX7_isDone_224 : List (Nat × Instr) := [(224, .aload_n 0), (225, .getfield 9), (228, .iconst 1), (229, .iaload), (230, .iload_n 2), (231, .iadd), (232, .sipush 999)]
theorem bX7_isDone_224_ok : ∀ q ∈ bX7_isDone_224, decode mX7_isDone.2.1 q.1 = .ok (q.2, aLn q.2) := by decide +kernel
def bX7_isDone_238 : List (Nat × Instr) := [(238, .iconst 0)]
theorem bX7_isDone_238_ok : ∀ q ∈ bX7_isDone_238, decode mX7_isDone.2.1 q.1 = .ok (q.2, aLn q.2) := by decide +kernel
def bX7_isDone_240 : List (Nat × Instr) := [(240, .aload_n 0), (241, .getfield 9), (244, .iload_n 2)]
theorem bX7_isDone_240_ok : ∀ q ∈ bX7_isDone_240, decode mX7_isDone.2.1 q.1 = .ok (q.2, aLn q.2) := by decide +kernel
def bX7_isDone_248 : List (Nat × Instr) := [(248, .iconst 1)]
theorem bX7_isDone_248_ok : ∀ q ∈ bX7_isDone_248, decode mX7_isDone.2.1 q.1 = .ok (q.2, aLn q.2) := by decide +kernel
theorem dX7_isDone_15 : decode mX7_isDone.2.1 15 = .ok (.tableswitch 199 101 112 #[154, 199, 199, 126, 199, 199, 176, 199, 199, 199, 106, 61], 61) := by decide +kernel
theorem dX7_isDone_79 : decode mX7_isDone.2.1 79 = .ok (.if_icmp .ge 26, 3) := by decide +kernel
theorem dX7_isDone_88 : decode mX7_isDone.2.1 88 = .ok (.invokestatic 117, 3) := by decide +kernel
theorem dX7_isDone_91 : decode mX7_isDone.2.1 91 = .ok (.ifCond .eq 14, 3) := by decide +kernel
theorem dX7_isDone_102 : decode mX7_isDone.2.1 102 = .ok (.if_icmp .ne 5, 3) := by decide +kernel
theorem dX7_isDone_106 : decode mX7_isDone.2.1 106 = .ok (.ireturn, 1) := by decide +kernel
theorem dX7_isDone_116 : decode mX7_isDone.2.1 116 = .ok (.invokevirtual 121, 3) := by decide +kernel
theorem dX7_isDone_120 : decode mX7_isDone.2.1 120 = .ok (.ireturn, 1) := by decide +kernel
theorem dX7_isDone_122 : decode mX7_isDone.2.1 122 = .ok (.invokestatic 125, 3) := by decide +kernel
theorem dX7_isDone_125 : decode mX7_isDone.2.1 125 = .ok (.ifCond .ne 5, 3) := by decide +kernel
theorem dX7_isDone_129 : decode mX7_isDone.2.1 129 = .ok (.ireturn, 1) := by decide +kernel
theorem dX7_isDone_140 : decode mX7_isDone.2.1 140 = .ok (.ireturn, 1) := by decide +kernel
theorem dX7_isDone_142 : decode mX7_isDone.2.1 142 = .ok (.invokestatic 125, 3) := by decide +kernel
theorem dX7_isDone_145 : decode mX7_isDone.2.1 145 = .ok (.ifCond .eq 11, 3) := by decide +kernel
theorem dX7_isDone_150 : decode mX7_isDone.2.1 150 = .ok (.invokevirtual 128, 3) := by decide +kernel
theorem dX7_isDone_153 : decode mX7_isDone.2.1 153 = .ok (.ifCond .ne 5, 3) := by decide +kernel
theorem dX7_isDone_157 : decode mX7_isDone.2.1 157 = .ok (.ireturn, 1) := by decide +kernel
theorem dX7_isDone_164 : decode mX7_isDone.2.1 164 = .ok (.invokestatic 131, 3) := by decide +kernel
theorem dX7_isDone_168 : decode mX7_isDone.2.1 168 = .ok (.ireturn, 1) := by decide +kernel
theorem dX7_isDone_170 : decode mX7_isDone.2.1 170 = .ok (.invokestatic 125, 3) := by decide +kernel
theorem dX7_isDone_173 : decode mX7_isDone.2.1 173 = .ok (.ifCond .ne 5, 3) := by decide +kernel
theorem dX7_isDone_177 : decode mX7_isDone.2.1 177 = .ok (.ireturn, 1) := by decide +kernel
theorem dX7_isDone_190 : decode mX7_isDone.2.1 190 = .ok (.ireturn, 1) := by decide +kernel
theorem dX7_isDone_193 : decode mX7_isDone.2.1 193 = .ok (.invokevirtual 128, 3) := by decide +kernel
theorem dX7_isDone_196 : decode mX7_isDone.2.1 196 = .ok (.ifCond .ne 5, 3) := by decide +kernel
theorem dX7_isDone_200 : decode mX7_isDone.2.1 200 = .ok (.ireturn, 1) := by decide +kernel
theorem dX7_isDone_207 : decode mX7_isDone.2.1 207 = .ok (.invokestatic 57, 3) := by decide +kernel
theorem dX7_isDone_213 : decode mX7_isDone.2.1 213 = .ok (.ireturn, 1) := by decide +kernel
theorem dX7_isDone_218 : decode mX7_isDone.2.1 218 = .ok (.invokestatic 49, 3) := by decide +kernel
theorem dX7_isDone_221 : decode mX7_isDone.2.1 221 = .ok (.ifCond .eq 17, 3) := by decide +kernel
theorem dX7_isDone_235 : decode mX7_isDone.2.1 235 = .ok (.if_icmp .le 5, 3) := by decide +kernel
theorem dX7_isDone_239 : decode mX7_isDone.2.1 239 = .ok (.ireturn, 1) := by decide +kernel
theorem dX7_isDone_245 : decode mX7_isDone.2.1 245 = .ok (.invokestatic 135, 3) := by decide +kernel
theorem dX7_isDone_249 : decode mX7_isDone.2.1 249 = .ok (.ireturn, 1) := by decide +kernel
def bX7_cabinet_0 : List (Nat × Instr) := [(0, .aload_n 0), (1, .iload_n 1), (2, .iconst 0)]
theorem bX7_cabinet_0_ok : ∀ q ∈ bX7_cabinet_0, decode mX7_cabinet.2.1 q.1 = .ok (q.2, aLn q.2) := by decide +kernel
def bX7_cabinet_6 : List (Nat × Instr) := [(6, .istore_n 2), (7, .iload_n 2)]
theorem bX7_cabinet_6_ok : ∀ q ∈ bX7_cabinet_6, decode mX7_cabinet.2.1 q.1 = .ok (q.2, aLn q.2) := by decide +kernel
def bX7_cabinet_11 : List (Nat × Instr) := [(11, .iload_n 2)]
theorem bX7_cabinet_11_ok : ∀ q ∈ bX7_cabinet_11, decode mX7_cabinet.2.1 q.1 = .ok (q.2, aLn q.2) := by decide +kernel
def bX7_cabinet_13 : List (Nat × Instr) := [(13, .aload_n 0), (14, .bipush 100), (16, .iload_n 1), (17, .imul), (18, .putfield 106), (21, .aload_n 0), (22, .aload_n 0), (23, .getfield 43), (26, .iload_n 1), (27, .iaload), (28, .putfield 103), (31, .aload_n 0), (32, .iconst 0), (33, .putfield 99), (36, .iconst 0), (37, .istore_n 3), (38, .iconst 0), (39, .istore 4)]
theorem bX7_cabinet_13_ok : ∀ q ∈ bX7_cabinet_13, decode mX7_cabinet.2.1 q.1 = .ok (q.2, aLn q.2) := by decide +kernel
def bX7_cabinet_41 : List (Nat × Instr) := [(41, .aload_n 0)]
theorem bX7_cabinet_41_ok : ∀ q ∈ bX7_cabinet_41, decode mX7_cabinet.2.1 q.1 = .ok (q.2, aLn q.2) := by decide +kernel
def bX7_cabinet_48 : List (Nat × Instr) := [(48, .sipush (-1000)), (51, .aload_n 0), (52, .getfield 99), (55, .isub), (56, .istore 4)]
theorem bX7_cabinet_48_ok : ∀ q ∈ bX7_cabinet_48, decode mX7_cabinet.2.1 q.1 = .ok (q.2, aLn q.2) := by decide +kernel
def bX7_cabinet_58 : List (Nat × Instr) := [(58, .iinc 3 1), (61, .iload 4)]
theorem bX7_cabinet_58_ok : ∀ q ∈ bX7_cabinet_58, decode mX7_cabinet.2.1 q.1 = .ok (q.2, aLn q.2) := by decide +kernel
def bX7_cabinet_66 : List (Nat × Instr) := [(66, .aload_n 0), (67, .getfield 99), (70, .aload_n 0), (71, .getfield 103)]
theorem bX7_cabinet_66_ok : ∀ q ∈ bX7_cabinet_66, decode mX7_cabinet.2.1 q.1 = .ok (q.2, aLn q.2) := by decide +kernel
def bX7_cabinet_77 : List (Nat × Instr) := [(77, .aload_n 0), (78, .getfield 9), (81, .aload_n 0), (82, .getfield 19)]
theorem bX7_cabinet_77_ok : ∀ q ∈ bX7_cabinet_77, decode mX7_cabinet.2.1 q.1 = .ok (q.2, aLn q.2) := by decide +kernel
def bX7_cabinet_88 : List (Nat × Instr) := [(88, .aload_n 0), (89, .iconst 0), (90, .putfield 99)]
theorem bX7_cabinet_88_ok : ∀ q ∈ bX7_cabinet_88, decode mX7_cabinet.2.1 q.1 = .ok (q.2, aLn q.2) := by decide +kernel
def bX7_cabinet_93 : List (Nat × Instr) := [(93, .iload 4)]
theorem bX7_cabinet_93_ok : ∀ q ∈ bX7_cabinet_93, decode mX7_cabinet.2.1 q.1 = .ok (q.2, aLn q.2) := by decide +kernel
def bX7_cabinet_98 : List (Nat × Instr) := [(98, .aload_n 0), (99, .getfield 99), (102, .aload_n 0), (103, .getfield 103)]
theorem bX7_cabinet_98_ok : ∀ q ∈ bX7_cabinet_98, decode mX7_cabinet.2.1 q.1 = .ok (q.2, aLn q.2) := by decide +kernel
def bX7_cabinet_109 : List (Nat × Instr) := [(109, .aload_n 0), (110, .getfield 99), (113, .istore 5), (115, .aload_n 0)]
theorem bX7_cabinet_109_ok : ∀ q ∈ bX7_cabinet_109, decode mX7_cabinet.2.1 q.1 = .ok (q.2, aLn q.2) := by decide +kernel
def bX7_cabinet_119 : List (Nat × Instr) := [(119, .istore 6), (121, .aload_n 0)]
theorem bX7_cabinet_119_ok : ∀ q ∈ bX7_cabinet_119, decode mX7_cabinet.2.1 q.1 = .ok (q.2, aLn q.2) := by decide +kernel
def bX7_cabinet_125 : List (Nat × Instr) := [(125, .istore 7), (127, .aload_n 0), (128, .iload 6)]
theorem bX7_cabinet_125_ok : ∀ q ∈ bX7_cabinet_125, decode mX7_cabinet.2.1 q.1 = .ok (q.2, aLn q.2) := by decide +kernel
def bX7_cabinet_136 : List (Nat × Instr) := [(136, .goto (-43))]
theorem bX7_cabinet_136_ok : ∀ q ∈ bX7_cabinet_136, decode mX7_cabinet.2.1 q.1 = .ok (q.2, aLn q.2) := by decide +kernel
def bX7_cabinet_139 : List (Nat × Instr) := [(139, .sipush (-2000)), (142, .iload 5), (144, .isub), (145, .istore 4), (147, .aload_n 0), (148, .getfield 19), (151, .aload_n 0), (152, .getfield 9)]
theorem bX7_cabinet_139_ok : ∀ q ∈ bX7_cabinet_139, decode mX7_cabinet.2.1 q.1 = .ok (q.2, aLn q.2) := by decide +kernel
def bX7_cabinet_158 : List (Nat × Instr) := [(158, .goto (-65))]
theorem bX7_cabinet_158_ok : ∀ q ∈ bX7_cabinet_158, decode mX7_cabinet.2.1 q.1 = .ok (q.2, aLn q.2) := by decide +kernel
def bX7_cabinet_161 : List (Nat × Instr) := [(161, .iload 4)]
theorem bX7_cabinet_161_ok : ∀ q ∈ bX7_cabinet_161, decode mX7_cabinet.2.1 q.1 = .ok (q.2, aLn q.2) := by decide +kernel
def bX7_cabinet_166 : List (Nat × Instr) := [(166, .iload_n 3), (167, .goto 5)]
theorem bX7_cabinet_166_ok : ∀ q ∈ bX7_cabinet_166, decode mX7_cabinet.2.1 q.1 = .ok (q.2, aLn q.2) := by decide +kernel
def bX7_cabinet_170 : List (Nat × Instr) := [(170, .iload 4)]
theorem bX7_cabinet_170_ok : ∀ q ∈ bX7_cabinet_170, decode mX7_cabinet.2.1 q.1 = .ok (q.2, aLn q.2) := by decide +kernel
theorem dX7_cabinet_3 : decode mX7_cabinet.2.1 3 = .ok (.invokevirtual 138, 3) := by decide +kernel
theorem dX7_cabinet_8 : decode mX7_cabinet.2.1 8 = .ok (.ifCond .eq 5, 3) := by decide +kernel
theorem dX7_cabinet_12 : decode mX7_cabinet.2.1 12 = .ok (.ireturn, 1) := by decide +kernel
theorem dX7_cabinet_42 : decode mX7_cabinet.2.1 42 = .ok (.invokevirtual 141, 3) := by decide +kernel
theorem dX7_cabinet_45 : decode mX7_cabinet.2.1 45 = .ok (.ifCond .ne 13, 3) := by decide +kernel
theorem dX7_cabinet_63 : decode mX7_cabinet.2.1 63 = .ok (.ifCond .ne 14, 3) := by decide +kernel
theorem dX7_cabinet_74 : decode mX7_cabinet.2.1 74 = .ok (.if_icmp .lt (-33), 3) := by decide +kernel
theorem dX7_cabinet_85 : decode mX7_cabinet.2.1 85 = .ok (.invokestatic 145, 3) := by decide +kernel
theorem dX7_cabinet_95 : decode mX7_cabinet.2.1 95 = .ok (.ifCond .ne 66, 3) := by decide +kernel
theorem dX7_cabinet_106 : decode mX7_cabinet.2.1 106 = .ok (.if_icmp .ge 55, 3) := by decide +kernel
theorem dX7_cabinet_116 : decode mX7_cabinet.2.1 116 = .ok (.invokevirtual 109, 3) := by decide +kernel
theorem dX7_cabinet_122 : decode mX7_cabinet.2.1 122 = .ok (.invokevirtual 141, 3) := by decide +kernel
theorem dX7_cabinet_130 : decode mX7_cabinet.2.1 130 = .ok (.invokevirtual 149, 3) := by decide +kernel
theorem dX7_cabinet_133 : decode mX7_cabinet.2.1 133 = .ok (.ifCond .eq 6, 3) := by decide +kernel
theorem dX7_cabinet_155 : decode mX7_cabinet.2.1 155 = .ok (.invokestatic 145, 3) := by decide +kernel
theorem dX7_cabinet_163 : decode mX7_cabinet.2.1 163 = .ok (.ifCond .ne 7, 3) := by decide +kernel
theorem dX7_cabinet_172 : decode mX7_cabinet.2.1 172 = .ok (.ireturn, 1) := by decide +kernel
def bX7_chainOf_0 : List (Nat × Instr) := [(0, .iconst 0), (1, .istore_n 2), (2, .iload_n 1), (3, .istore_n 3)]
theorem bX7_chainOf_0_ok : ∀ q ∈ bX7_chainOf_0, decode mX7_chainOf.2.1 q.1 = .ok (q.2, aLn q.2) := by decide +kernel
def bX7_chainOf_4 : List (Nat × Instr) := [(4, .aload_n 0), (5, .iload_n 3)]
theorem bX7_chainOf_4_ok : ∀ q ∈ bX7_chainOf_4, decode mX7_chainOf.2.1 q.1 = .ok (q.2, aLn q.2) := by decide +kernel
def bX7_chainOf_12 : List (Nat × Instr) := [(12, .iload_n 2), (13, .iload_n 3)]
theorem bX7_chainOf_12_ok : ∀ q ∈ bX7_chainOf_12, decode mX7_chainOf.2.1 q.1 = .ok (q.2, aLn q.2) := by decide +kernel
def bX7_chainOf_20 : List (Nat × Instr) := [(20, .iload_n 2), (21, .iconst 1), (22, .iload_n 3), (23, .ishl), (24, .ior), (25, .istore_n 2), (26, .aload_n 0), (27, .getfield 9), (30, .iload_n 3), (31, .iconst 3)]
theorem bX7_chainOf_20_ok : ∀ q ∈ bX7_chainOf_20, decode mX7_chainOf.2.1 q.1 = .ok (q.2, aLn q.2) := by decide +kernel
def bX7_chainOf_35 : List (Nat × Instr) := [(35, .iaload), (36, .istore_n 3), (37, .goto (-33))]
theorem bX7_chainOf_35_ok : ∀ q ∈ bX7_chainOf_35, decode mX7_chainOf.2.1 q.1 = .ok (q.2, aLn q.2) := by decide +kernel
def bX7_chainOf_40 : List (Nat × Instr) := [(40, .iload_n 2)]
theorem bX7_chainOf_40_ok : ∀ q ∈ bX7_chainOf_40, decode mX7_chainOf.2.1 q.1 = .ok (q.2, aLn q.2) := by decide +kernel
theorem dX7_chainOf_6 : decode mX7_chainOf.2.1 6 = .ok (.invokevirtual 128, 3) := by decide +kernel
theorem dX7_chainOf_9 : decode mX7_chainOf.2.1 9 = .ok (.ifCond .eq 31, 3) := by decide +kernel
theorem dX7_chainOf_14 : decode mX7_chainOf.2.1 14 = .ok (.invokestatic 152, 3) := by decide +kernel
theorem dX7_chainOf_17 : decode mX7_chainOf.2.1 17 = .ok (.ifCond .ne 23, 3) := by decide +kernel
theorem dX7_chainOf_32 : decode mX7_chainOf.2.1 32 = .ok (.invokestatic 57, 3) := by decide +kernel
theorem dX7_chainOf_41 : decode mX7_chainOf.2.1 41 = .ok (.invokestatic 155, 3) := by decide +kernel
theorem dX7_chainOf_44 : decode mX7_chainOf.2.1 44 = .ok (.ireturn, 1) := by decide +kernel
def bX7_one_0 : List (Nat × Instr) := [(0, .aload_n 0), (1, .iload_n 1)]
theorem bX7_one_0_ok : ∀ q ∈ bX7_one_0, decode mX7_one.2.1 q.1 = .ok (q.2, aLn q.2) := by decide +kernel
def bX7_one_8 : List (Nat × Instr) := [(8, .iload_n 2), (9, .iconst 0), (10, .bipush 7)]
theorem bX7_one_8_ok : ∀ q ∈ bX7_one_8, decode mX7_one.2.1 q.1 = .ok (q.2, aLn q.2) := by decide +kernel
def bX7_one_18 : List (Nat × Instr) := [(18, .iconst (-1))]
theorem bX7_one_18_ok : ∀ q ∈ bX7_one_18, decode mX7_one.2.1 q.1 = .ok (q.2, aLn q.2) := by decide +kernel
def bX7_one_20 : List (Nat × Instr) := [(20, .iload_n 2)]
theorem bX7_one_20_ok : ∀ q ∈ bX7_one_20, decode mX7_one.2.1 q.1 = .ok (q.2, aLn q.2) := by decide +kernel
def bX7_one_52 : List (Nat × Instr) := [(52, .aload_n 0), (53, .getfield 9), (56, .iload_n 1)]
theorem bX7_one_52_ok : ∀ q ∈ bX7_one_52, decode mX7_one.2.1 q.1 = .ok (q.2, aLn q.2) := by decide +kernel
def bX7_one_61 : List (Nat × Instr) := [(61, .aload_n 0), (62, .getfield 9), (65, .iload_n 1)]
theorem bX7_one_61_ok : ∀ q ∈ bX7_one_61, decode mX7_one.2.1 q.1 = .ok (q.2, aLn q.2) := by decide +kernel
def bX7_one_70 : List (Nat × Instr) := [(70, .aload_n 0), (71, .getfield 9), (74, .iload_n 1), (75, .iconst 0)]
theorem bX7_one_70_ok : ∀ q ∈ bX7_one_70, decode mX7_one.2.1 q.1 = .ok (q.2, aLn q.2) := by decide +kernel
def bX7_one_79 : List (Nat × Instr) := [(79, .iaload), (80, .aload_n 0), (81, .getfield 9), (84, .iload_n 1), (85, .iconst 1)]
theorem bX7_one_79_ok : ∀ q ∈ bX7_one_79, decode mX7_one.2.1 q.1 = .ok (q.2, aLn q.2) := by decide +kernel
def bX7_one_89 : List (Nat × Instr) := [(89, .iaload)]
theorem bX7_one_89_ok : ∀ q ∈ bX7_one_89, decode mX7_one.2.1 q.1 = .ok (q.2, aLn q.2) := by decide +kernel
def bX7_one_94 : List (Nat × Instr) := [(94, .aload_n 0), (95, .iload_n 1)]
theorem bX7_one_94_ok : ∀ q ∈ bX7_one_94, decode mX7_one.2.1 q.1 = .ok (q.2, aLn q.2) := by decide +kernel
def bX7_one_100 : List (Nat × Instr) := [(100, .aload_n 0), (101, .getfield 9), (104, .iload_n 1), (105, .iload_n 2)]
theorem bX7_one_100_ok : ∀ q ∈ bX7_one_100, decode mX7_one.2.1 q.1 = .ok (q.2, aLn q.2) := by decide +kernel
def bX7_one_109 : List (Nat × Instr) := [(109, .iaload)]
theorem bX7_one_109_ok : ∀ q ∈ bX7_one_109, decode mX7_one.2.1 q.1 = .ok (q.2, aLn q.2) := by decide +kernel
theorem dX7_one_2 : decode mX7_one.2.1 2 = .ok (.invokevirtual 128, 3) := by decide +kernel
theorem dX7_one_5 : decode mX7_one.2.1 5 = .ok (.ifCond .eq 13, 3) := by decide +kernel
theorem dX7_one_12 : decode mX7_one.2.1 12 = .ok (.invokestatic 49, 3) := by decide +kernel
theorem dX7_one_15 : decode mX7_one.2.1 15 = .ok (.ifCond .ne 5, 3) := by decide +kernel
theorem dX7_one_19 : decode mX7_one.2.1 19 = .ok (.ireturn, 1) := by decide +kernel
theorem dX7_one_21 : decode mX7_one.2.1 21 = .ok (.tableswitch 79 4 7 #[31, 40, 49, 73], 31) := by decide +kernel
theorem dX7_one_57 : decode mX7_one.2.1 57 = .ok (.invokestatic 64, 3) := by decide +kernel
theorem dX7_one_60 : decode mX7_one.2.1 60 = .ok (.ireturn, 1) := by decide +kernel
theorem dX7_one_66 : decode mX7_one.2.1 66 = .ok (.invokestatic 85, 3) := by decide +kernel
theorem dX7_one_69 : decode mX7_one.2.1 69 = .ok (.ireturn, 1) := by decide +kernel
theorem dX7_one_76 : decode mX7_one.2.1 76 = .ok (.invokestatic 57, 3) := by decide +kernel
theorem dX7_one_86 : decode mX7_one.2.1 86 = .ok (.invokestatic 57, 3) := by decide +kernel
theorem dX7_one_90 : decode mX7_one.2.1 90 = .ok (.invokestatic 68, 3) := by decide +kernel
theorem dX7_one_93 : decode mX7_one.2.1 93 = .ok (.ireturn, 1) := by decide +kernel
theorem dX7_one_96 : decode mX7_one.2.1 96 = .ok (.invokevirtual 158, 3) := by decide +kernel
theorem dX7_one_99 : decode mX7_one.2.1 99 = .ok (.ireturn, 1) := by decide +kernel
theorem dX7_one_106 : decode mX7_one.2.1 106 = .ok (.invokestatic 57, 3) := by decide +kernel
theorem dX7_one_110 : decode mX7_one.2.1 110 = .ok (.ireturn, 1) := by decide +kernel
def bX7_office_0 : List (Nat × Instr) := [(0, .iload_n 1)]
theorem bX7_office_0_ok : ∀ q ∈ bX7_office_0, decode mX7_office.2.1 q.1 = .ok (q.2, aLn q.2) := by decide +kernel
def bX7_office_7 : List (Nat × Instr) := [(7, .iload_n 2), (8, .iconst 0), (9, .iconst 2)]
theorem bX7_office_7_ok : ∀ q ∈ bX7_office_7, decode mX7_office.2.1 q.1 = .ok (q.2, aLn q.2) := by decide +kernel
def bX7_office_16 : List (Nat × Instr) := [(16, .iconst (-1))]
theorem bX7_office_16_ok : ∀ q ∈ bX7_office_16, decode mX7_office.2.1 q.1 = .ok (q.2, aLn q.2) := by decide +kernel
def bX7_office_18 : List (Nat × Instr) := [(18, .iload_n 2)]
theorem bX7_office_18_ok : ∀ q ∈ bX7_office_18, decode mX7_office.2.1 q.1 = .ok (q.2, aLn q.2) := by decide +kernel
def bX7_office_22 : List (Nat × Instr) := [(22, .aload_n 0), (23, .getfield 9), (26, .iconst 3), (27, .iload_n 1), (28, .iadd), (29, .iaload), (30, .goto 43)]
theorem bX7_office_22_ok : ∀ q ∈ bX7_office_22, decode mX7_office.2.1 q.1 = .ok (q.2, aLn q.2) := by decide +kernel
def bX7_office_33 : List (Nat × Instr) := [(33, .iload_n 2), (34, .iconst 1)]
theorem bX7_office_33_ok : ∀ q ∈ bX7_office_33, decode mX7_office.2.1 q.1 = .ok (q.2, aLn q.2) := by decide +kernel
def bX7_office_38 : List (Nat × Instr) := [(38, .aload_n 0), (39, .getfield 9), (42, .bipush 8), (44, .iload_n 1), (45, .iadd), (46, .iaload), (47, .goto 26)]
theorem bX7_office_38_ok : ∀ q ∈ bX7_office_38, decode mX7_office.2.1 q.1 = .ok (q.2, aLn q.2) := by decide +kernel
def bX7_office_50 : List (Nat × Instr) := [(50, .aload_n 0), (51, .getfield 9), (54, .aload_n 0), (55, .getfield 9), (58, .iconst 3), (59, .iload_n 1), (60, .iadd), (61, .iaload)]
theorem bX7_office_50_ok : ∀ q ∈ bX7_office_50, decode mX7_office.2.1 q.1 = .ok (q.2, aLn q.2) := by decide +kernel
def bX7_office_68 : List (Nat × Instr) := [(68, .iconst 1), (69, .goto 4)]
theorem bX7_office_68_ok : ∀ q ∈ bX7_office_68, decode mX7_office.2.1 q.1 = .ok (q.2, aLn q.2) := by decide +kernel
def bX7_office_72 : List (Nat × Instr) := [(72, .iconst 0)]
theorem bX7_office_72_ok : ∀ q ∈ bX7_office_72, decode mX7_office.2.1 q.1 = .ok (q.2, aLn q.2) := by decide +kernel
theorem dX7_office_1 : decode mX7_office.2.1 1 = .ok (.invokestatic 125, 3) := by decide +kernel
theorem dX7_office_4 : decode mX7_office.2.1 4 = .ok (.ifCond .eq 12, 3) := by decide +kernel
theorem dX7_office_10 : decode mX7_office.2.1 10 = .ok (.invokestatic 49, 3) := by decide +kernel
theorem dX7_office_13 : decode mX7_office.2.1 13 = .ok (.ifCond .ne 5, 3) := by decide +kernel
theorem dX7_office_17 : decode mX7_office.2.1 17 = .ok (.ireturn, 1) := by decide +kernel
theorem dX7_office_19 : decode mX7_office.2.1 19 = .ok (.ifCond .ne 14, 3) := by decide +kernel
theorem dX7_office_35 : decode mX7_office.2.1 35 = .ok (.if_icmp .ne 15, 3) := by decide +kernel
theorem dX7_office_62 : decode mX7_office.2.1 62 = .ok (.invokestatic 78, 3) := by decide +kernel
theorem dX7_office_65 : decode mX7_office.2.1 65 = .ok (.ifCond .eq 7, 3) := by decide +kernel
theorem dX7_office_73 : decode mX7_office.2.1 73 = .ok (.ireturn, 1) := by decide +kernel
def bX7_showsNext_0 : List (Nat × Instr) := [(0, .aload_n 0), (1, .getfield 9), (4, .iload_n 1), (5, .iconst 0)]
theorem bX7_showsNext_0_ok : ∀ q ∈ bX7_showsNext_0, decode mX7_showsNext.2.1 q.1 = .ok (q.2, aLn q.2) := by decide +kernel
def bX7_showsNext_9 : List (Nat × Instr) := [(9, .iaload), (10, .aload_n 0), (11, .getfield 9), (14, .iload_n 1), (15, .iconst 1)]
theorem bX7_showsNext_9_ok : ∀ q ∈ bX7_showsNext_9, decode mX7_showsNext.2.1 q.1 = .ok (q.2, aLn q.2) := by decide +kernel
def bX7_showsNext_19 : List (Nat × Instr) := [(19, .iaload), (20, .iload_n 2), (21, .aload_n 0), (22, .getfield 9), (25, .iconst 1), (26, .iaload), (27, .iconst 1), (28, .iadd)]
theorem bX7_showsNext_19_ok : ∀ q ∈ bX7_showsNext_19, decode mX7_showsNext.2.1 q.1 = .ok (q.2, aLn q.2) := by decide +kernel
theorem dX7_showsNext_6 : decode mX7_showsNext.2.1 6 = .ok (.invokestatic 57, 3) := by decide +kernel
theorem dX7_showsNext_16 : decode mX7_showsNext.2.1 16 = .ok (.invokestatic 57, 3) := by decide +kernel
theorem dX7_showsNext_29 : decode mX7_showsNext.2.1 29 = .ok (.invokestatic 74, 3) := by decide +kernel
theorem dX7_showsNext_32 : decode mX7_showsNext.2.1 32 = .ok (.ireturn, 1) := by decide +kernel
def bX7_shows_0 : List (Nat × Instr) := [(0, .aload_n 0), (1, .iload_n 1)]
theorem bX7_shows_0_ok : ∀ q ∈ bX7_shows_0, decode mX7_shows.2.1 q.1 = .ok (q.2, aLn q.2) := by decide +kernel
def bX7_shows_8 : List (Nat × Instr) := [(8, .iload_n 2), (9, .iconst 0), (10, .bipush 9)]
theorem bX7_shows_8_ok : ∀ q ∈ bX7_shows_8, decode mX7_shows.2.1 q.1 = .ok (q.2, aLn q.2) := by decide +kernel
def bX7_shows_18 : List (Nat × Instr) := [(18, .aload_n 0), (19, .iload_n 1), (20, .iload_n 2)]
theorem bX7_shows_18_ok : ∀ q ∈ bX7_shows_18, decode mX7_shows.2.1 q.1 = .ok (q.2, aLn q.2) := by decide +kernel
def bX7_shows_24 : List (Nat × Instr) := [(24, .goto 4)]
theorem bX7_shows_24_ok : ∀ q ∈ bX7_shows_24, decode mX7_shows.2.1 q.1 = .ok (q.2, aLn q.2) := by decide +kernel
def bX7_shows_27 : List (Nat × Instr) := [(27, .iconst (-1))]
theorem bX7_shows_27_ok : ∀ q ∈ bX7_shows_27, decode mX7_shows.2.1 q.1 = .ok (q.2, aLn q.2) := by decide +kernel
theorem dX7_shows_2 : decode mX7_shows.2.1 2 = .ok (.invokevirtual 128, 3) := by decide +kernel
theorem dX7_shows_5 : decode mX7_shows.2.1 5 = .ok (.ifCond .eq 22, 3) := by decide +kernel
theorem dX7_shows_12 : decode mX7_shows.2.1 12 = .ok (.invokestatic 49, 3) := by decide +kernel
theorem dX7_shows_15 : decode mX7_shows.2.1 15 = .ok (.ifCond .eq 12, 3) := by decide +kernel
theorem dX7_shows_21 : decode mX7_shows.2.1 21 = .ok (.invokevirtual 161, 3) := by decide +kernel
theorem dX7_shows_28 : decode mX7_shows.2.1 28 = .ok (.ireturn, 1) := by decide +kernel
def bX7_comes_0 : List (Nat × Instr) := [(0, .iload_n 2)]
theorem bX7_comes_0_ok : ∀ q ∈ bX7_comes_0, decode mX7_comes.2.1 q.1 = .ok (q.2, aLn q.2) := by decide +kernel
def bX7_comes_7 : List (Nat × Instr) := [(7, .iconst (-1))]
theorem bX7_comes_7_ok : ∀ q ∈ bX7_comes_7, decode mX7_comes.2.1 q.1 = .ok (q.2, aLn q.2) := by decide +kernel
def bX7_comes_9 : List (Nat × Instr) := [(9, .aload_n 0), (10, .iload_n 1)]
theorem bX7_comes_9_ok : ∀ q ∈ bX7_comes_9, decode mX7_comes.2.1 q.1 = .ok (q.2, aLn q.2) := by decide +kernel
def bX7_comes_14 : List (Nat × Instr) := [(14, .istore_n 3), (15, .iload_n 3)]
theorem bX7_comes_14_ok : ∀ q ∈ bX7_comes_14, decode mX7_comes.2.1 q.1 = .ok (q.2, aLn q.2) := by decide +kernel
def bX7_comes_19 : List (Nat × Instr) := [(19, .iload_n 3)]
theorem bX7_comes_19_ok : ∀ q ∈ bX7_comes_19, decode mX7_comes.2.1 q.1 = .ok (q.2, aLn q.2) := by decide +kernel
def bX7_comes_21 : List (Nat × Instr) := [(21, .aload_n 0), (22, .getfield 9), (25, .iconst 0), (26, .iaload), (27, .bipush 8)]
theorem bX7_comes_21_ok : ∀ q ∈ bX7_comes_21, decode mX7_comes.2.1 q.1 = .ok (q.2, aLn q.2) := by decide +kernel
def bX7_comes_32 : List (Nat × Instr) := [(32, .bipush (-2))]
theorem bX7_comes_32_ok : ∀ q ∈ bX7_comes_32, decode mX7_comes.2.1 q.1 = .ok (q.2, aLn q.2) := by decide +kernel
def bX7_comes_35 : List (Nat × Instr) := [(35, .aload_n 0), (36, .aload_n 0), (37, .getfield 34), (40, .iload_n 1), (41, .iaload), (42, .aload_n 0), (43, .getfield 37), (46, .iload_n 1), (47, .iaload), (48, .iload_n 2)]
theorem bX7_comes_35_ok : ∀ q ∈ bX7_comes_35, decode mX7_comes.2.1 q.1 = .ok (q.2, aLn q.2) := by decide +kernel
def bX7_comes_52 : List (Nat × Instr) := [(52, .aload_n 0), (53, .getfield 9), (56, .iconst 0), (57, .iaload), (58, .iconst 1), (59, .isub)]
theorem bX7_comes_52_ok : ∀ q ∈ bX7_comes_52, decode mX7_comes.2.1 q.1 = .ok (q.2, aLn q.2) := by decide +kernel
theorem dX7_comes_1 : decode mX7_comes.2.1 1 = .ok (.invokestatic 117, 3) := by decide +kernel
theorem dX7_comes_4 : decode mX7_comes.2.1 4 = .ok (.ifCond .ne 5, 3) := by decide +kernel
theorem dX7_comes_8 : decode mX7_comes.2.1 8 = .ok (.ireturn, 1) := by decide +kernel
theorem dX7_comes_11 : decode mX7_comes.2.1 11 = .ok (.invokevirtual 164, 3) := by decide +kernel
theorem dX7_comes_16 : decode mX7_comes.2.1 16 = .ok (.ifCond .eq 5, 3) := by decide +kernel
theorem dX7_comes_20 : decode mX7_comes.2.1 20 = .ok (.ireturn, 1) := by decide +kernel
theorem dX7_comes_29 : decode mX7_comes.2.1 29 = .ok (.if_icmp .ne 6, 3) := by decide +kernel
theorem dX7_comes_34 : decode mX7_comes.2.1 34 = .ok (.ireturn, 1) := by decide +kernel
theorem dX7_comes_49 : decode mX7_comes.2.1 49 = .ok (.invokevirtual 121, 3) := by decide +kernel
theorem dX7_comes_60 : decode mX7_comes.2.1 60 = .ok (.ireturn, 1) := by decide +kernel
def bX7_holds_0 : List (Nat × Instr) := [(0, .iload_n 1)]
theorem bX7_holds_0_ok : ∀ q ∈ bX7_holds_0, decode mX7_holds.2.1 q.1 = .ok (q.2, aLn q.2) := by decide +kernel
def bX7_holds_7 : List (Nat × Instr) := [(7, .aload_n 0), (8, .iload_n 2)]
theorem bX7_holds_7_ok : ∀ q ∈ bX7_holds_7, decode mX7_holds.2.1 q.1 = .ok (q.2, aLn q.2) := by decide +kernel
def bX7_holds_15 : List (Nat × Instr) := [(15, .iconst (-1))]
theorem bX7_holds_15_ok : ∀ q ∈ bX7_holds_15, decode mX7_holds.2.1 q.1 = .ok (q.2, aLn q.2) := by decide +kernel
def bX7_holds_17 : List (Nat × Instr) := [(17, .aload_n 0), (18, .getfield 9), (21, .bipush 8), (23, .iload_n 1), (24, .iadd), (25, .iaload), (26, .istore_n 3), (27, .aload_n 0), (28, .getfield 9), (31, .iload_n 1), (32, .iload_n 2)]
theorem bX7_holds_17_ok : ∀ q ∈ bX7_holds_17, decode mX7_holds.2.1 q.1 = .ok (q.2, aLn q.2) := by decide +kernel
def bX7_holds_36 : List (Nat × Instr) := [(36, .iload_n 3)]
theorem bX7_holds_36_ok : ∀ q ∈ bX7_holds_36, decode mX7_holds.2.1 q.1 = .ok (q.2, aLn q.2) := by decide +kernel
theorem dX7_holds_1 : decode mX7_holds.2.1 1 = .ok (.invokestatic 125, 3) := by decide +kernel
theorem dX7_holds_4 : decode mX7_holds.2.1 4 = .ok (.ifCond .eq 11, 3) := by decide +kernel
theorem dX7_holds_9 : decode mX7_holds.2.1 9 = .ok (.invokevirtual 128, 3) := by decide +kernel
theorem dX7_holds_12 : decode mX7_holds.2.1 12 = .ok (.ifCond .ne 5, 3) := by decide +kernel
theorem dX7_holds_16 : decode mX7_holds.2.1 16 = .ok (.ireturn, 1) := by decide +kernel
theorem dX7_holds_33 : decode mX7_holds.2.1 33 = .ok (.invokestatic 131, 3) := by decide +kernel
theorem dX7_holds_37 : decode mX7_holds.2.1 37 = .ok (.ireturn, 1) := by decide +kernel
def bX7_sets_0 : List (Nat × Instr) := [(0, .aload_n 0), (1, .getfield 9), (4, .iload_n 1), (5, .iaload), (6, .istore_n 3), (7, .aload_n 0), (8, .getfield 9), (11, .iload_n 1), (12, .iload_n 2), (13, .iastore), (14, .iload_n 3)]
theorem bX7_sets_0_ok : ∀ q ∈ bX7_sets_0, decode mX7_sets.2.1 q.1 = .ok (q.2, aLn q.2) := by decide +kernel
theorem dX7_sets_15 : decode mX7_sets.2.1 15 = .ok (.ireturn, 1) := by decide +kernel
def bX7_empties_0 : List (Nat × Instr) := [(0, .iload_n 1)]
theorem bX7_empties_0_ok : ∀ q ∈ bX7_empties_0, decode mX7_empties.2.1 q.1 = .ok (q.2, aLn q.2) := by decide +kernel
def bX7_empties_7 : List (Nat × Instr) := [(7, .iconst (-1))]
theorem bX7_empties_7_ok : ∀ q ∈ bX7_empties_7, decode mX7_empties.2.1 q.1 = .ok (q.2, aLn q.2) := by decide +kernel
def bX7_empties_9 : List (Nat × Instr) := [(9, .aload_n 0), (10, .getfield 9), (13, .bipush 8), (15, .iload_n 1), (16, .iadd), (17, .iaload)]
theorem bX7_empties_9_ok : ∀ q ∈ bX7_empties_9, decode mX7_empties.2.1 q.1 = .ok (q.2, aLn q.2) := by decide +kernel
def bX7_empties_21 : List (Nat × Instr) := [(21, .bipush (-3)), (23, .goto 13)]
theorem bX7_empties_21_ok : ∀ q ∈ bX7_empties_21, decode mX7_empties.2.1 q.1 = .ok (q.2, aLn q.2) := by decide +kernel
def bX7_empties_26 : List (Nat × Instr) := [(26, .aload_n 0), (27, .bipush 8), (29, .iload_n 1), (30, .iadd), (31, .bipush (-4))]
theorem bX7_empties_26_ok : ∀ q ∈ bX7_empties_26, decode mX7_empties.2.1 q.1 = .ok (q.2, aLn q.2) := by decide +kernel
theorem dX7_empties_1 : decode mX7_empties.2.1 1 = .ok (.invokestatic 125, 3) := by decide +kernel
theorem dX7_empties_4 : decode mX7_empties.2.1 4 = .ok (.ifCond .ne 5, 3) := by decide +kernel
theorem dX7_empties_8 : decode mX7_empties.2.1 8 = .ok (.ireturn, 1) := by decide +kernel
theorem dX7_empties_18 : decode mX7_empties.2.1 18 = .ok (.ifCond .ge 8, 3) := by decide +kernel
theorem dX7_empties_33 : decode mX7_empties.2.1 33 = .ok (.invokevirtual 167, 3) := by decide +kernel
theorem dX7_empties_36 : decode mX7_empties.2.1 36 = .ok (.ireturn, 1) := by decide +kernel
def bX7_wears_0 : List (Nat × Instr) := [(0, .iload_n 1)]
theorem bX7_wears_0_ok : ∀ q ∈ bX7_wears_0, decode mX7_wears.2.1 q.1 = .ok (q.2, aLn q.2) := by decide +kernel
def bX7_wears_7 : List (Nat × Instr) := [(7, .iload_n 2), (8, .iconst 0), (9, .bipush 9)]
theorem bX7_wears_7_ok : ∀ q ∈ bX7_wears_7, decode mX7_wears.2.1 q.1 = .ok (q.2, aLn q.2) := by decide +kernel
def bX7_wears_17 : List (Nat × Instr) := [(17, .aload_n 0), (18, .iconst 3), (19, .iload_n 1), (20, .iadd), (21, .iload_n 2)]
theorem bX7_wears_17_ok : ∀ q ∈ bX7_wears_17, decode mX7_wears.2.1 q.1 = .ok (q.2, aLn q.2) := by decide +kernel
def bX7_wears_25 : List (Nat × Instr) := [(25, .goto 4)]
theorem bX7_wears_25_ok : ∀ q ∈ bX7_wears_25, decode mX7_wears.2.1 q.1 = .ok (q.2, aLn q.2) := by decide +kernel
def bX7_wears_28 : List (Nat × Instr) := [(28, .iconst (-1))]
theorem bX7_wears_28_ok : ∀ q ∈ bX7_wears_28, decode mX7_wears.2.1 q.1 = .ok (q.2, aLn q.2) := by decide +kernel
theorem dX7_wears_1 : decode mX7_wears.2.1 1 = .ok (.invokestatic 125, 3) := by decide +kernel
theorem dX7_wears_4 : decode mX7_wears.2.1 4 = .ok (.ifCond .eq 24, 3) := by decide +kernel
theorem dX7_wears_11 : decode mX7_wears.2.1 11 = .ok (.invokestatic 49, 3) := by decide +kernel
theorem dX7_wears_14 : decode mX7_wears.2.1 14 = .ok (.ifCond .eq 14, 3) := by decide +kernel
theorem dX7_wears_22 : decode mX7_wears.2.1 22 = .ok (.invokevirtual 167, 3) := by decide +kernel
theorem dX7_wears_29 : decode mX7_wears.2.1 29 = .ok (.ireturn, 1) := by decide +kernel
def bX7_knows_0 : List (Nat × Instr) := [(0, .aload_n 0), (1, .iload_n 1)]
theorem bX7_knows_0_ok : ∀ q ∈ bX7_knows_0, decode mX7_knows.2.1 q.1 = .ok (q.2, aLn q.2) := by decide +kernel
def bX7_knows_8 : List (Nat × Instr) := [(8, .iload_n 2), (9, .iconst 0), (10, .bipush 99)]
theorem bX7_knows_8_ok : ∀ q ∈ bX7_knows_8, decode mX7_knows.2.1 q.1 = .ok (q.2, aLn q.2) := by decide +kernel
def bX7_knows_18 : List (Nat × Instr) := [(18, .aload_n 0), (19, .iload_n 1), (20, .iconst 2)]
theorem bX7_knows_18_ok : ∀ q ∈ bX7_knows_18, decode mX7_knows.2.1 q.1 = .ok (q.2, aLn q.2) := by decide +kernel
def bX7_knows_24 : List (Nat × Instr) := [(24, .iload_n 2)]
theorem bX7_knows_24_ok : ∀ q ∈ bX7_knows_24, decode mX7_knows.2.1 q.1 = .ok (q.2, aLn q.2) := by decide +kernel
def bX7_knows_28 : List (Nat × Instr) := [(28, .goto 4)]
theorem bX7_knows_28_ok : ∀ q ∈ bX7_knows_28, decode mX7_knows.2.1 q.1 = .ok (q.2, aLn q.2) := by decide +kernel
def bX7_knows_31 : List (Nat × Instr) := [(31, .iconst (-1))]
theorem bX7_knows_31_ok : ∀ q ∈ bX7_knows_31, decode mX7_knows.2.1 q.1 = .ok (q.2, aLn q.2) := by decide +kernel
theorem dX7_knows_2 : decode mX7_knows.2.1 2 = .ok (.invokevirtual 128, 3) := by decide +kernel
theorem dX7_knows_5 : decode mX7_knows.2.1 5 = .ok (.ifCond .eq 26, 3) := by decide +kernel
theorem dX7_knows_12 : decode mX7_knows.2.1 12 = .ok (.invokestatic 49, 3) := by decide +kernel
theorem dX7_knows_15 : decode mX7_knows.2.1 15 = .ok (.ifCond .eq 16, 3) := by decide +kernel
theorem dX7_knows_21 : decode mX7_knows.2.1 21 = .ok (.invokestatic 57, 3) := by decide +kernel
theorem dX7_knows_25 : decode mX7_knows.2.1 25 = .ok (.invokevirtual 167, 3) := by decide +kernel
theorem dX7_knows_32 : decode mX7_knows.2.1 32 = .ok (.ireturn, 1) := by decide +kernel
def bX7_marries_0 : List (Nat × Instr) := [(0, .aload_n 0), (1, .iload_n 1)]
theorem bX7_marries_0_ok : ∀ q ∈ bX7_marries_0, decode mX7_marries.2.1 q.1 = .ok (q.2, aLn q.2) := by decide +kernel
def bX7_marries_8 : List (Nat × Instr) := [(8, .iload_n 2)]
theorem bX7_marries_8_ok : ∀ q ∈ bX7_marries_8, decode mX7_marries.2.1 q.1 = .ok (q.2, aLn q.2) := by decide +kernel
def bX7_marries_15 : List (Nat × Instr) := [(15, .aload_n 0), (16, .iload_n 1), (17, .iconst 3)]
theorem bX7_marries_15_ok : ∀ q ∈ bX7_marries_15, decode mX7_marries.2.1 q.1 = .ok (q.2, aLn q.2) := by decide +kernel
def bX7_marries_21 : List (Nat × Instr) := [(21, .iload_n 2)]
theorem bX7_marries_21_ok : ∀ q ∈ bX7_marries_21, decode mX7_marries.2.1 q.1 = .ok (q.2, aLn q.2) := by decide +kernel
def bX7_marries_25 : List (Nat × Instr) := [(25, .goto 4)]
theorem bX7_marries_25_ok : ∀ q ∈ bX7_marries_25, decode mX7_marries.2.1 q.1 = .ok (q.2, aLn q.2) := by decide +kernel
def bX7_marries_28 : List (Nat × Instr) := [(28, .iconst (-1))]
theorem bX7_marries_28_ok : ∀ q ∈ bX7_marries_28, decode mX7_marries.2.1 q.1 = .ok (q.2, aLn q.2) := by decide +kernel
theorem dX7_marries_2 : decode mX7_marries.2.1 2 = .ok (.invokevirtual 128, 3) := by decide +kernel
theorem dX7_marries_5 : decode mX7_marries.2.1 5 = .ok (.ifCond .eq 23, 3) := by decide +kernel
theorem dX7_marries_9 : decode mX7_marries.2.1 9 = .ok (.invokestatic 117, 3) := by decide +kernel
theorem dX7_marries_12 : decode mX7_marries.2.1 12 = .ok (.ifCond .eq 16, 3) := by decide +kernel
theorem dX7_marries_18 : decode mX7_marries.2.1 18 = .ok (.invokestatic 57, 3) := by decide +kernel
theorem dX7_marries_22 : decode mX7_marries.2.1 22 = .ok (.invokevirtual 167, 3) := by decide +kernel
theorem dX7_marries_29 : decode mX7_marries.2.1 29 = .ok (.ireturn, 1) := by decide +kernel
def bX7_days_0 : List (Nat × Instr) := [(0, .iload_n 1), (1, .iconst 1), (2, .bipush 60)]
theorem bX7_days_0_ok : ∀ q ∈ bX7_days_0, decode mX7_days.2.1 q.1 = .ok (q.2, aLn q.2) := by decide +kernel
def bX7_days_10 : List (Nat × Instr) := [(10, .iconst (-1))]
theorem bX7_days_10_ok : ∀ q ∈ bX7_days_10, decode mX7_days.2.1 q.1 = .ok (q.2, aLn q.2) := by decide +kernel
def bX7_days_12 : List (Nat × Instr) := [(12, .aload_n 0), (13, .getfield 9), (16, .iconst 1), (17, .iaload), (18, .iload_n 1), (19, .iadd), (20, .sipush 999)]
theorem bX7_days_12_ok : ∀ q ∈ bX7_days_12, decode mX7_days.2.1 q.1 = .ok (q.2, aLn q.2) := by decide +kernel
def bX7_days_26 : List (Nat × Instr) := [(26, .bipush (-3))]
theorem bX7_days_26_ok : ∀ q ∈ bX7_days_26, decode mX7_days.2.1 q.1 = .ok (q.2, aLn q.2) := by decide +kernel
def bX7_days_29 : List (Nat × Instr) := [(29, .aload_n 0), (30, .getfield 9), (33, .iload_n 1)]
theorem bX7_days_29_ok : ∀ q ∈ bX7_days_29, decode mX7_days.2.1 q.1 = .ok (q.2, aLn q.2) := by decide +kernel
def bX7_days_37 : List (Nat × Instr) := [(37, .aload_n 0), (38, .getfield 9), (41, .iconst 2), (42, .iaload)]
theorem bX7_days_37_ok : ∀ q ∈ bX7_days_37, decode mX7_days.2.1 q.1 = .ok (q.2, aLn q.2) := by decide +kernel
theorem dX7_days_4 : decode mX7_days.2.1 4 = .ok (.invokestatic 49, 3) := by decide +kernel
theorem dX7_days_7 : decode mX7_days.2.1 7 = .ok (.ifCond .ne 5, 3) := by decide +kernel
theorem dX7_days_11 : decode mX7_days.2.1 11 = .ok (.ireturn, 1) := by decide +kernel
theorem dX7_days_23 : decode mX7_days.2.1 23 = .ok (.if_icmp .le 6, 3) := by decide +kernel
theorem dX7_days_28 : decode mX7_days.2.1 28 = .ok (.ireturn, 1) := by decide +kernel
theorem dX7_days_34 : decode mX7_days.2.1 34 = .ok (.invokestatic 135, 3) := by decide +kernel
theorem dX7_days_43 : decode mX7_days.2.1 43 = .ok (.ireturn, 1) := by decide +kernel
def bX7_isLate_0 : List (Nat × Instr) := [(0, .iload_n 0), (1, .iconst 0), (2, .bipush 60)]
theorem bX7_isLate_0_ok : ∀ q ∈ bX7_isLate_0, decode mX7_isLate.2.1 q.1 = .ok (q.2, aLn q.2) := by decide +kernel
theorem dX7_isLate_4 : decode mX7_isLate.2.1 4 = .ok (.invokestatic 49, 3) := by decide +kernel
theorem dX7_isLate_7 : decode mX7_isLate.2.1 7 = .ok (.ireturn, 1) := by decide +kernel
def bX7_takes_0 : List (Nat × Instr) := [(0, .aload_n 0), (1, .getfield 9), (4, .aload_n 0), (5, .getfield 13)]
theorem bX7_takes_0_ok : ∀ q ∈ bX7_takes_0, decode mX7_takes.2.1 q.1 = .ok (q.2, aLn q.2) := by decide +kernel
def bX7_takes_11 : List (Nat × Instr) := [(11, .aload_n 0), (12, .getfield 13), (15, .iload_n 1)]
theorem bX7_takes_11_ok : ∀ q ∈ bX7_takes_11, decode mX7_takes.2.1 q.1 = .ok (q.2, aLn q.2) := by decide +kernel
theorem dX7_takes_8 : decode mX7_takes.2.1 8 = .ok (.invokestatic 145, 3) := by decide +kernel
theorem dX7_takes_16 : decode mX7_takes.2.1 16 = .ok (.invokestatic 135, 3) := by decide +kernel
theorem dX7_takes_19 : decode mX7_takes.2.1 19 = .ok (.return_, 1) := by decide +kernel
def bX7_heldThen_0 : List (Nat × Instr) := [(0, .iload_n 1)]
theorem bX7_heldThen_0_ok : ∀ q ∈ bX7_heldThen_0, decode mX7_heldThen.2.1 q.1 = .ok (q.2, aLn q.2) := by decide +kernel
def bX7_heldThen_7 : List (Nat × Instr) := [(7, .iload_n 2)]
theorem bX7_heldThen_7_ok : ∀ q ∈ bX7_heldThen_7, decode mX7_heldThen.2.1 q.1 = .ok (q.2, aLn q.2) := by decide +kernel
def bX7_heldThen_14 : List (Nat × Instr) := [(14, .iconst (-1))]
theorem bX7_heldThen_14_ok : ∀ q ∈ bX7_heldThen_14, decode mX7_heldThen.2.1 q.1 = .ok (q.2, aLn q.2) := by decide +kernel
def bX7_heldThen_16 : List (Nat × Instr) := [(16, .aload_n 0), (17, .iload_n 2)]
theorem bX7_heldThen_16_ok : ∀ q ∈ bX7_heldThen_16, decode mX7_heldThen.2.1 q.1 = .ok (q.2, aLn q.2) := by decide +kernel
def bX7_heldThen_21 : List (Nat × Instr) := [(21, .aload_n 0), (22, .getfield 13), (25, .bipush 8), (27, .iload_n 1), (28, .iadd), (29, .iaload)]
theorem bX7_heldThen_21_ok : ∀ q ∈ bX7_heldThen_21, decode mX7_heldThen.2.1 q.1 = .ok (q.2, aLn q.2) := by decide +kernel
theorem dX7_heldThen_1 : decode mX7_heldThen.2.1 1 = .ok (.invokestatic 125, 3) := by decide +kernel
theorem dX7_heldThen_4 : decode mX7_heldThen.2.1 4 = .ok (.ifCond .eq 10, 3) := by decide +kernel
theorem dX7_heldThen_8 : decode mX7_heldThen.2.1 8 = .ok (.invokestatic 170, 3) := by decide +kernel
theorem dX7_heldThen_11 : decode mX7_heldThen.2.1 11 = .ok (.ifCond .ne 5, 3) := by decide +kernel
theorem dX7_heldThen_15 : decode mX7_heldThen.2.1 15 = .ok (.ireturn, 1) := by decide +kernel
theorem dX7_heldThen_18 : decode mX7_heldThen.2.1 18 = .ok (.invokevirtual 173, 3) := by decide +kernel
theorem dX7_heldThen_30 : decode mX7_heldThen.2.1 30 = .ok (.ireturn, 1) := by decide +kernel
def bX7_knownThen_0 : List (Nat × Instr) := [(0, .aload_n 0), (1, .iload_n 1)]
theorem bX7_knownThen_0_ok : ∀ q ∈ bX7_knownThen_0, decode mX7_knownThen.2.1 q.1 = .ok (q.2, aLn q.2) := by decide +kernel
def bX7_knownThen_8 : List (Nat × Instr) := [(8, .iload_n 2)]
theorem bX7_knownThen_8_ok : ∀ q ∈ bX7_knownThen_8, decode mX7_knownThen.2.1 q.1 = .ok (q.2, aLn q.2) := by decide +kernel
def bX7_knownThen_15 : List (Nat × Instr) := [(15, .iconst (-1))]
theorem bX7_knownThen_15_ok : ∀ q ∈ bX7_knownThen_15, decode mX7_knownThen.2.1 q.1 = .ok (q.2, aLn q.2) := by decide +kernel
def bX7_knownThen_17 : List (Nat × Instr) := [(17, .aload_n 0), (18, .iload_n 2)]
theorem bX7_knownThen_17_ok : ∀ q ∈ bX7_knownThen_17, decode mX7_knownThen.2.1 q.1 = .ok (q.2, aLn q.2) := by decide +kernel
def bX7_knownThen_22 : List (Nat × Instr) := [(22, .aload_n 0), (23, .getfield 13), (26, .iload_n 1), (27, .iconst 2)]
theorem bX7_knownThen_22_ok : ∀ q ∈ bX7_knownThen_22, decode mX7_knownThen.2.1 q.1 = .ok (q.2, aLn q.2) := by decide +kernel
def bX7_knownThen_31 : List (Nat × Instr) := [(31, .iaload)]
theorem bX7_knownThen_31_ok : ∀ q ∈ bX7_knownThen_31, decode mX7_knownThen.2.1 q.1 = .ok (q.2, aLn q.2) := by decide +kernel
theorem dX7_knownThen_2 : decode mX7_knownThen.2.1 2 = .ok (.invokevirtual 128, 3) := by decide +kernel
theorem dX7_knownThen_5 : decode mX7_knownThen.2.1 5 = .ok (.ifCond .eq 10, 3) := by decide +kernel
theorem dX7_knownThen_9 : decode mX7_knownThen.2.1 9 = .ok (.invokestatic 170, 3) := by decide +kernel
theorem dX7_knownThen_12 : decode mX7_knownThen.2.1 12 = .ok (.ifCond .ne 5, 3) := by decide +kernel
theorem dX7_knownThen_16 : decode mX7_knownThen.2.1 16 = .ok (.ireturn, 1) := by decide +kernel
theorem dX7_knownThen_19 : decode mX7_knownThen.2.1 19 = .ok (.invokevirtual 173, 3) := by decide +kernel
theorem dX7_knownThen_28 : decode mX7_knownThen.2.1 28 = .ok (.invokestatic 57, 3) := by decide +kernel
theorem dX7_knownThen_32 : decode mX7_knownThen.2.1 32 = .ok (.ireturn, 1) := by decide +kernel
def bX7_then_0 : List (Nat × Instr) := [(0, .iload_n 1)]
theorem bX7_then_0_ok : ∀ q ∈ bX7_then_0, decode mX7_then.2.1 q.1 = .ok (q.2, aLn q.2) := by decide +kernel
def bX7_then_7 : List (Nat × Instr) := [(7, .iload_n 2), (8, .iconst 0), (9, .iconst 1)]
theorem bX7_then_7_ok : ∀ q ∈ bX7_then_7, decode mX7_then.2.1 q.1 = .ok (q.2, aLn q.2) := by decide +kernel
def bX7_then_16 : List (Nat × Instr) := [(16, .iconst (-1))]
theorem bX7_then_16_ok : ∀ q ∈ bX7_then_16, decode mX7_then.2.1 q.1 = .ok (q.2, aLn q.2) := by decide +kernel
def bX7_then_18 : List (Nat × Instr) := [(18, .aload_n 0), (19, .iload_n 1)]
theorem bX7_then_18_ok : ∀ q ∈ bX7_then_18, decode mX7_then.2.1 q.1 = .ok (q.2, aLn q.2) := by decide +kernel
def bX7_then_23 : List (Nat × Instr) := [(23, .iload_n 2)]
theorem bX7_then_23_ok : ∀ q ∈ bX7_then_23, decode mX7_then.2.1 q.1 = .ok (q.2, aLn q.2) := by decide +kernel
def bX7_then_27 : List (Nat × Instr) := [(27, .aload_n 0), (28, .getfield 13)]
theorem bX7_then_27_ok : ∀ q ∈ bX7_then_27, decode mX7_then.2.1 q.1 = .ok (q.2, aLn q.2) := by decide +kernel
def bX7_then_34 : List (Nat × Instr) := [(34, .goto 9)]
theorem bX7_then_34_ok : ∀ q ∈ bX7_then_34, decode mX7_then.2.1 q.1 = .ok (q.2, aLn q.2) := by decide +kernel
def bX7_then_37 : List (Nat × Instr) := [(37, .aload_n 0), (38, .getfield 13), (41, .iconst 2), (42, .iaload)]
theorem bX7_then_37_ok : ∀ q ∈ bX7_then_37, decode mX7_then.2.1 q.1 = .ok (q.2, aLn q.2) := by decide +kernel
theorem dX7_then_1 : decode mX7_then.2.1 1 = .ok (.invokestatic 170, 3) := by decide +kernel
theorem dX7_then_4 : decode mX7_then.2.1 4 = .ok (.ifCond .eq 12, 3) := by decide +kernel
theorem dX7_then_10 : decode mX7_then.2.1 10 = .ok (.invokestatic 49, 3) := by decide +kernel
theorem dX7_then_13 : decode mX7_then.2.1 13 = .ok (.ifCond .ne 5, 3) := by decide +kernel
theorem dX7_then_17 : decode mX7_then.2.1 17 = .ok (.ireturn, 1) := by decide +kernel
theorem dX7_then_20 : decode mX7_then.2.1 20 = .ok (.invokevirtual 173, 3) := by decide +kernel
theorem dX7_then_24 : decode mX7_then.2.1 24 = .ok (.ifCond .ne 13, 3) := by decide +kernel
theorem dX7_then_31 : decode mX7_then.2.1 31 = .ok (.invokestatic 177, 3) := by decide +kernel
theorem dX7_then_43 : decode mX7_then.2.1 43 = .ok (.ireturn, 1) := by decide +kernel
def bX7_whenNot_0 : List (Nat × Instr) := [(0, .iconst 0), (1, .istore_n 3)]
theorem bX7_whenNot_0_ok : ∀ q ∈ bX7_whenNot_0, decode mX7_whenNot.2.1 q.1 = .ok (q.2, aLn q.2) := by decide +kernel
def bX7_whenNot_2 : List (Nat × Instr) := [(2, .iload_n 3), (3, .bipush 60)]
theorem bX7_whenNot_2_ok : ∀ q ∈ bX7_whenNot_2, decode mX7_whenNot.2.1 q.1 = .ok (q.2, aLn q.2) := by decide +kernel
def bX7_whenNot_8 : List (Nat × Instr) := [(8, .aload_n 0), (9, .getfield 13), (12, .bipush 8), (14, .iload_n 1), (15, .iadd), (16, .iaload), (17, .iload_n 2)]
theorem bX7_whenNot_8_ok : ∀ q ∈ bX7_whenNot_8, decode mX7_whenNot.2.1 q.1 = .ok (q.2, aLn q.2) := by decide +kernel
def bX7_whenNot_21 : List (Nat × Instr) := [(21, .iload_n 3)]
theorem bX7_whenNot_21_ok : ∀ q ∈ bX7_whenNot_21, decode mX7_whenNot.2.1 q.1 = .ok (q.2, aLn q.2) := by decide +kernel
def bX7_whenNot_23 : List (Nat × Instr) := [(23, .aload_n 0), (24, .getfield 13)]
theorem bX7_whenNot_23_ok : ∀ q ∈ bX7_whenNot_23, decode mX7_whenNot.2.1 q.1 = .ok (q.2, aLn q.2) := by decide +kernel
def bX7_whenNot_30 : List (Nat × Instr) := [(30, .iinc 3 1), (33, .goto (-31))]
theorem bX7_whenNot_30_ok : ∀ q ∈ bX7_whenNot_30, decode mX7_whenNot.2.1 q.1 = .ok (q.2, aLn q.2) := by decide +kernel
def bX7_whenNot_36 : List (Nat × Instr) := [(36, .bipush (-4))]
theorem bX7_whenNot_36_ok : ∀ q ∈ bX7_whenNot_36, decode mX7_whenNot.2.1 q.1 = .ok (q.2, aLn q.2) := by decide +kernel
theorem dX7_whenNot_5 : decode mX7_whenNot.2.1 5 = .ok (.if_icmp .gt 31, 3) := by decide +kernel
theorem dX7_whenNot_18 : decode mX7_whenNot.2.1 18 = .ok (.if_icmp .eq 5, 3) := by decide +kernel
theorem dX7_whenNot_22 : decode mX7_whenNot.2.1 22 = .ok (.ireturn, 1) := by decide +kernel
theorem dX7_whenNot_27 : decode mX7_whenNot.2.1 27 = .ok (.invokestatic 95, 3) := by decide +kernel
theorem dX7_whenNot_38 : decode mX7_whenNot.2.1 38 = .ok (.ireturn, 1) := by decide +kernel
def bX7_falls_0 : List (Nat × Instr) := [(0, .aload_n 0), (1, .iload_n 1)]
theorem bX7_falls_0_ok : ∀ q ∈ bX7_falls_0, decode mX7_falls.2.1 q.1 = .ok (q.2, aLn q.2) := by decide +kernel
def bX7_falls_8 : List (Nat × Instr) := [(8, .iconst (-1))]
theorem bX7_falls_8_ok : ∀ q ∈ bX7_falls_8, decode mX7_falls.2.1 q.1 = .ok (q.2, aLn q.2) := by decide +kernel
def bX7_falls_10 : List (Nat × Instr) := [(10, .aload_n 0), (11, .getfield 9), (14, .iload_n 1)]
theorem bX7_falls_10_ok : ∀ q ∈ bX7_falls_10, decode mX7_falls.2.1 q.1 = .ok (q.2, aLn q.2) := by decide +kernel
def bX7_falls_18 : List (Nat × Instr) := [(18, .istore_n 2), (19, .iload_n 2)]
theorem bX7_falls_18_ok : ∀ q ∈ bX7_falls_18, decode mX7_falls.2.1 q.1 = .ok (q.2, aLn q.2) := by decide +kernel
def bX7_falls_23 : List (Nat × Instr) := [(23, .bipush (-4))]
theorem bX7_falls_23_ok : ∀ q ∈ bX7_falls_23, decode mX7_falls.2.1 q.1 = .ok (q.2, aLn q.2) := by decide +kernel
def bX7_falls_26 : List (Nat × Instr) := [(26, .aload_n 0), (27, .getfield 9), (30, .aload_n 0), (31, .getfield 13)]
theorem bX7_falls_26_ok : ∀ q ∈ bX7_falls_26, decode mX7_falls.2.1 q.1 = .ok (q.2, aLn q.2) := by decide +kernel
def bX7_falls_37 : List (Nat × Instr) := [(37, .aload_n 0), (38, .iload_n 2), (39, .iload_n 1)]
theorem bX7_falls_37_ok : ∀ q ∈ bX7_falls_37, decode mX7_falls.2.1 q.1 = .ok (q.2, aLn q.2) := by decide +kernel
theorem dX7_falls_2 : decode mX7_falls.2.1 2 = .ok (.invokevirtual 128, 3) := by decide +kernel
theorem dX7_falls_5 : decode mX7_falls.2.1 5 = .ok (.ifCond .ne 5, 3) := by decide +kernel
theorem dX7_falls_9 : decode mX7_falls.2.1 9 = .ok (.ireturn, 1) := by decide +kernel
theorem dX7_falls_15 : decode mX7_falls.2.1 15 = .ok (.invokestatic 64, 3) := by decide +kernel
theorem dX7_falls_20 : decode mX7_falls.2.1 20 = .ok (.ifCond .ge 6, 3) := by decide +kernel
theorem dX7_falls_25 : decode mX7_falls.2.1 25 = .ok (.ireturn, 1) := by decide +kernel
theorem dX7_falls_34 : decode mX7_falls.2.1 34 = .ok (.invokestatic 145, 3) := by decide +kernel
theorem dX7_falls_40 : decode mX7_falls.2.1 40 = .ok (.invokevirtual 181, 3) := by decide +kernel
theorem dX7_falls_43 : decode mX7_falls.2.1 43 = .ok (.ireturn, 1) := by decide +kernel
