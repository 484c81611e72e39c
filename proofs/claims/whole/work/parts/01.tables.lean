/-- a private method of a class that the tables say can be made, by its rows of tables_1 -/
def lw_okq (q : MethodName × Nat) : Prop := (q.1.cls ≠ "java/lang/invoke/MethodHandle" ∧ q.1.cls ≠ "java/lang/invoke/VarHandle") ∧ Cond.instantiable q.1.cls q.2 ∈ tables_1 ∧ Cond.privateMethod q.1 ∈ tables_1 ∧ Cond.instanceMethod q.1 ∈ tables_1
theorem lw_p0 : lw_okq (⟨"OnlyInDisguise$Shelves", "lackOf", "(II)I"⟩, 6) := ⟨⟨by decide +kernel, by decide +kernel⟩, List.mem_of_getElem? (i := 83) (by decide +kernel), List.mem_of_getElem? (i := 170) (by decide +kernel), List.mem_of_getElem? (i := 171) (by decide +kernel)⟩
theorem lw_p1 : lw_okq (⟨"OnlyInDisguise$Cabinet", "showing", "(I)I"⟩, 11) := ⟨⟨by decide +kernel, by decide +kernel⟩, List.mem_of_getElem? (i := 27) (by decide +kernel), List.mem_of_getElem? (i := 260) (by decide +kernel), List.mem_of_getElem? (i := 261) (by decide +kernel)⟩
theorem lw_p2 : lw_okq (⟨"OnlyInDisguise$Cabinet", "fall", "(II)V"⟩, 11) := ⟨⟨by decide +kernel, by decide +kernel⟩, List.mem_of_getElem? (i := 27) (by decide +kernel), List.mem_of_getElem? (i := 285) (by decide +kernel), List.mem_of_getElem? (i := 286) (by decide +kernel)⟩
theorem lw_p3 : lw_okq (⟨"OnlyInDisguise", "foresee", "(I)V"⟩, 9) := ⟨⟨by decide +kernel, by decide +kernel⟩, List.mem_of_getElem? (i := 19) (by decide +kernel), List.mem_of_getElem? (i := 380) (by decide +kernel), List.mem_of_getElem? (i := 381) (by decide +kernel)⟩
theorem lw_p4 : lw_okq (⟨"OnlyInDisguise", "fallenIn", "(III)I"⟩, 9) := ⟨⟨by decide +kernel, by decide +kernel⟩, List.mem_of_getElem? (i := 19) (by decide +kernel), List.mem_of_getElem? (i := 420) (by decide +kernel), List.mem_of_getElem? (i := 421) (by decide +kernel)⟩
theorem lw_p5 : lw_okq (⟨"OnlyInDisguise$Casting", "bestFrom", "(II)I"⟩, 3) := ⟨⟨by decide +kernel, by decide +kernel⟩, List.mem_of_getElem? (i := 108) (by decide +kernel), List.mem_of_getElem? (i := 434) (by decide +kernel), List.mem_of_getElem? (i := 435) (by decide +kernel)⟩
theorem lw_p6 : lw_okq (⟨"OnlyInDisguise$Casting", "with", "(III)I"⟩, 3) := ⟨⟨by decide +kernel, by decide +kernel⟩, List.mem_of_getElem? (i := 108) (by decide +kernel), List.mem_of_getElem? (i := 438) (by decide +kernel), List.mem_of_getElem? (i := 439) (by decide +kernel)⟩
theorem lw_p7 : lw_okq (⟨"OnlyInDisguise$Casting", "firstBest", "(II)I"⟩, 3) := ⟨⟨by decide +kernel, by decide +kernel⟩, List.mem_of_getElem? (i := 108) (by decide +kernel), List.mem_of_getElem? (i := 451) (by decide +kernel), List.mem_of_getElem? (i := 452) (by decide +kernel)⟩
theorem lw_p8 : lw_okq (⟨"OnlyInDisguise", "fallenWithout", "(II)I"⟩, 9) := ⟨⟨by decide +kernel, by decide +kernel⟩, List.mem_of_getElem? (i := 19) (by decide +kernel), List.mem_of_getElem? (i := 459) (by decide +kernel), List.mem_of_getElem? (i := 460) (by decide +kernel)⟩
theorem lw_p9 : lw_okq (⟨"OnlyInDisguise", "fallenChanged", "(III)I"⟩, 9) := ⟨⟨by decide +kernel, by decide +kernel⟩, List.mem_of_getElem? (i := 19) (by decide +kernel), List.mem_of_getElem? (i := 467) (by decide +kernel), List.mem_of_getElem? (i := 468) (by decide +kernel)⟩
theorem lw_p10 : lw_okq (⟨"OnlyInDisguise$Cabinet", "isPlain", "(I)Z"⟩, 11) := ⟨⟨by decide +kernel, by decide +kernel⟩, List.mem_of_getElem? (i := 27) (by decide +kernel), List.mem_of_getElem? (i := 484) (by decide +kernel), List.mem_of_getElem? (i := 485) (by decide +kernel)⟩
theorem lw_p11 : lw_okq (⟨"OnlyInDisguise", "stable", "()I"⟩, 9) := ⟨⟨by decide +kernel, by decide +kernel⟩, List.mem_of_getElem? (i := 19) (by decide +kernel), List.mem_of_getElem? (i := 496) (by decide +kernel), List.mem_of_getElem? (i := 497) (by decide +kernel)⟩
theorem lw_p12 : lw_okq (⟨"OnlyInDisguise", "firstUnlike", "(III)I"⟩, 9) := ⟨⟨by decide +kernel, by decide +kernel⟩, List.mem_of_getElem? (i := 19) (by decide +kernel), List.mem_of_getElem? (i := 505) (by decide +kernel), List.mem_of_getElem? (i := 506) (by decide +kernel)⟩
theorem lw_p13 : lw_okq (⟨"OnlyInDisguise", "measured", "(II)I"⟩, 9) := ⟨⟨by decide +kernel, by decide +kernel⟩, List.mem_of_getElem? (i := 19) (by decide +kernel), List.mem_of_getElem? (i := 520) (by decide +kernel), List.mem_of_getElem? (i := 521) (by decide +kernel)⟩
theorem lw_p14 : lw_okq (⟨"OnlyInDisguise", "playTwo", "(IIII)V"⟩, 9) := ⟨⟨by decide +kernel, by decide +kernel⟩, List.mem_of_getElem? (i := 19) (by decide +kernel), List.mem_of_getElem? (i := 532) (by decide +kernel), List.mem_of_getElem? (i := 533) (by decide +kernel)⟩
theorem lw_p15 : lw_okq (⟨"OnlyInDisguise", "heldAfterScandals", "(III)Z"⟩, 9) := ⟨⟨by decide +kernel, by decide +kernel⟩, List.mem_of_getElem? (i := 19) (by decide +kernel), List.mem_of_getElem? (i := 545) (by decide +kernel), List.mem_of_getElem? (i := 546) (by decide +kernel)⟩
def lw_privs_1 : List (MethodName × Nat) := [(⟨"OnlyInDisguise$Shelves", "lackOf", "(II)I"⟩, 6), (⟨"OnlyInDisguise$Cabinet", "showing", "(I)I"⟩, 11), (⟨"OnlyInDisguise$Cabinet", "fall", "(II)V"⟩, 11), (⟨"OnlyInDisguise", "foresee", "(I)V"⟩, 9), (⟨"OnlyInDisguise", "fallenIn", "(III)I"⟩, 9), (⟨"OnlyInDisguise$Casting", "bestFrom", "(II)I"⟩, 3), (⟨"OnlyInDisguise$Casting", "with", "(III)I"⟩, 3), (⟨"OnlyInDisguise$Casting", "firstBest", "(II)I"⟩, 3), (⟨"OnlyInDisguise", "fallenWithout", "(II)I"⟩, 9), (⟨"OnlyInDisguise", "fallenChanged", "(III)I"⟩, 9), (⟨"OnlyInDisguise$Cabinet", "isPlain", "(I)Z"⟩, 11), (⟨"OnlyInDisguise", "stable", "()I"⟩, 9), (⟨"OnlyInDisguise", "firstUnlike", "(III)I"⟩, 9), (⟨"OnlyInDisguise", "measured", "(II)I"⟩, 9), (⟨"OnlyInDisguise", "playTwo", "(IIII)V"⟩, 9), (⟨"OnlyInDisguise", "heldAfterScandals", "(III)Z"⟩, 9)]
theorem lw_r1 : ∀ q ∈ lw_privs_1, lw_okq q := List.forall_mem_cons.mpr ⟨lw_p0, List.forall_mem_cons.mpr ⟨lw_p1, List.forall_mem_cons.mpr ⟨lw_p2, List.forall_mem_cons.mpr ⟨lw_p3, List.forall_mem_cons.mpr ⟨lw_p4, List.forall_mem_cons.mpr ⟨lw_p5, List.forall_mem_cons.mpr ⟨lw_p6, List.forall_mem_cons.mpr ⟨lw_p7, List.forall_mem_cons.mpr ⟨lw_p8, List.forall_mem_cons.mpr ⟨lw_p9, List.forall_mem_cons.mpr ⟨lw_p10, List.forall_mem_cons.mpr ⟨lw_p11, List.forall_mem_cons.mpr ⟨lw_p12, List.forall_mem_cons.mpr ⟨lw_p13, List.forall_mem_cons.mpr ⟨lw_p14, List.forall_mem_cons.mpr ⟨lw_p15, fun _ h => absurd h List.not_mem_nil⟩⟩⟩⟩⟩⟩⟩⟩⟩⟩⟩⟩⟩⟩⟩⟩
theorem lw_p16 : lw_okq (⟨"OnlyInDisguise", "holderAsTold", "(I)I"⟩, 9) := ⟨⟨by decide +kernel, by decide +kernel⟩, List.mem_of_getElem? (i := 19) (by decide +kernel), List.mem_of_getElem? (i := 574) (by decide +kernel), List.mem_of_getElem? (i := 575) (by decide +kernel)⟩
theorem lw_p17 : lw_okq (⟨"OnlyInDisguise", "oneYear", "()V"⟩, 9) := ⟨⟨by decide +kernel, by decide +kernel⟩, List.mem_of_getElem? (i := 19) (by decide +kernel), List.mem_of_getElem? (i := 590) (by decide +kernel), List.mem_of_getElem? (i := 591) (by decide +kernel)⟩
theorem lw_p18 : lw_okq (⟨"java/lang/Throwable", "fillInStackTrace", "(I)Ljava/lang/Throwable;"⟩, 6) := ⟨⟨by decide +kernel, by decide +kernel⟩, List.mem_of_getElem? (i := 720) (by decide +kernel), List.mem_of_getElem? (i := 718) (by decide +kernel), List.mem_of_getElem? (i := 719) (by decide +kernel)⟩
theorem lw_p19 : lw_okq (⟨"OnlyInDisguiseModel", "wrongRow", "(II)I"⟩, 19) := ⟨⟨by decide +kernel, by decide +kernel⟩, List.mem_of_getElem? (i := 797) (by decide +kernel), List.mem_of_getElem? (i := 865) (by decide +kernel), List.mem_of_getElem? (i := 866) (by decide +kernel)⟩
theorem lw_p20 : lw_okq (⟨"OnlyInDisguiseModel", "readsStatement", "()Z"⟩, 19) := ⟨⟨by decide +kernel, by decide +kernel⟩, List.mem_of_getElem? (i := 797) (by decide +kernel), List.mem_of_getElem? (i := 875) (by decide +kernel), List.mem_of_getElem? (i := 876) (by decide +kernel)⟩
theorem lw_p21 : lw_okq (⟨"OnlyInDisguiseModel", "here", "()I"⟩, 19) := ⟨⟨by decide +kernel, by decide +kernel⟩, List.mem_of_getElem? (i := 797) (by decide +kernel), List.mem_of_getElem? (i := 879) (by decide +kernel), List.mem_of_getElem? (i := 880) (by decide +kernel)⟩
theorem lw_p22 : lw_okq (⟨"OnlyInDisguiseModel", "readsNumber", "(II)Z"⟩, 19) := ⟨⟨by decide +kernel, by decide +kernel⟩, List.mem_of_getElem? (i := 797) (by decide +kernel), List.mem_of_getElem? (i := 883) (by decide +kernel), List.mem_of_getElem? (i := 884) (by decide +kernel)⟩
theorem lw_p23 : lw_okq (⟨"OnlyInDisguiseModel", "isDone", "(I)Z"⟩, 19) := ⟨⟨by decide +kernel, by decide +kernel⟩, List.mem_of_getElem? (i := 797) (by decide +kernel), List.mem_of_getElem? (i := 890) (by decide +kernel), List.mem_of_getElem? (i := 891) (by decide +kernel)⟩
theorem lw_p24 : lw_okq (⟨"OnlyInDisguiseModel", "adds", "(III)V"⟩, 19) := ⟨⟨by decide +kernel, by decide +kernel⟩, List.mem_of_getElem? (i := 797) (by decide +kernel), List.mem_of_getElem? (i := 897) (by decide +kernel), List.mem_of_getElem? (i := 898) (by decide +kernel)⟩
theorem lw_p25 : lw_okq (⟨"OnlyInDisguiseModel", "isOne", "(I)Z"⟩, 19) := ⟨⟨by decide +kernel, by decide +kernel⟩, List.mem_of_getElem? (i := 797) (by decide +kernel), List.mem_of_getElem? (i := 907) (by decide +kernel), List.mem_of_getElem? (i := 908) (by decide +kernel)⟩
theorem lw_p26 : lw_okq (⟨"OnlyInDisguiseModel", "chainOf", "(I)I"⟩, 19) := ⟨⟨by decide +kernel, by decide +kernel⟩, List.mem_of_getElem? (i := 797) (by decide +kernel), List.mem_of_getElem? (i := 957) (by decide +kernel), List.mem_of_getElem? (i := 958) (by decide +kernel)⟩
theorem lw_p27 : lw_okq (⟨"OnlyInDisguiseModel", "showsNext", "(II)I"⟩, 19) := ⟨⟨by decide +kernel, by decide +kernel⟩, List.mem_of_getElem? (i := 797) (by decide +kernel), List.mem_of_getElem? (i := 975) (by decide +kernel), List.mem_of_getElem? (i := 976) (by decide +kernel)⟩
theorem lw_p28 : lw_okq (⟨"OnlyInDisguiseModel", "wrongKept", "(I)I"⟩, 19) := ⟨⟨by decide +kernel, by decide +kernel⟩, List.mem_of_getElem? (i := 797) (by decide +kernel), List.mem_of_getElem? (i := 983) (by decide +kernel), List.mem_of_getElem? (i := 984) (by decide +kernel)⟩
theorem lw_p29 : lw_okq (⟨"OnlyInDisguiseModel", "sets", "(II)I"⟩, 19) := ⟨⟨by decide +kernel, by decide +kernel⟩, List.mem_of_getElem? (i := 797) (by decide +kernel), List.mem_of_getElem? (i := 995) (by decide +kernel), List.mem_of_getElem? (i := 996) (by decide +kernel)⟩
theorem lw_p30 : lw_okq (⟨"OnlyInDisguiseModel", "takes", "(I)V"⟩, 19) := ⟨⟨by decide +kernel, by decide +kernel⟩, List.mem_of_getElem? (i := 797) (by decide +kernel), List.mem_of_getElem? (i := 1022) (by decide +kernel), List.mem_of_getElem? (i := 1023) (by decide +kernel)⟩
theorem lw_p31 : lw_okq (⟨"OnlyInDisguiseModel", "whenNot", "(II)I"⟩, 19) := ⟨⟨by decide +kernel, by decide +kernel⟩, List.mem_of_getElem? (i := 797) (by decide +kernel), List.mem_of_getElem? (i := 1041) (by decide +kernel), List.mem_of_getElem? (i := 1042) (by decide +kernel)⟩
def lw_privs_2 : List (MethodName × Nat) := [(⟨"OnlyInDisguise", "holderAsTold", "(I)I"⟩, 9), (⟨"OnlyInDisguise", "oneYear", "()V"⟩, 9), (⟨"java/lang/Throwable", "fillInStackTrace", "(I)Ljava/lang/Throwable;"⟩, 6), (⟨"OnlyInDisguiseModel", "wrongRow", "(II)I"⟩, 19), (⟨"OnlyInDisguiseModel", "readsStatement", "()Z"⟩, 19), (⟨"OnlyInDisguiseModel", "here", "()I"⟩, 19), (⟨"OnlyInDisguiseModel", "readsNumber", "(II)Z"⟩, 19), (⟨"OnlyInDisguiseModel", "isDone", "(I)Z"⟩, 19), (⟨"OnlyInDisguiseModel", "adds", "(III)V"⟩, 19), (⟨"OnlyInDisguiseModel", "isOne", "(I)Z"⟩, 19), (⟨"OnlyInDisguiseModel", "chainOf", "(I)I"⟩, 19), (⟨"OnlyInDisguiseModel", "showsNext", "(II)I"⟩, 19), (⟨"OnlyInDisguiseModel", "wrongKept", "(I)I"⟩, 19), (⟨"OnlyInDisguiseModel", "sets", "(II)I"⟩, 19), (⟨"OnlyInDisguiseModel", "takes", "(I)V"⟩, 19), (⟨"OnlyInDisguiseModel", "whenNot", "(II)I"⟩, 19)]
theorem lw_r2 : ∀ q ∈ lw_privs_2, lw_okq q := List.forall_mem_cons.mpr ⟨lw_p16, List.forall_mem_cons.mpr ⟨lw_p17, List.forall_mem_cons.mpr ⟨lw_p18, List.forall_mem_cons.mpr ⟨lw_p19, List.forall_mem_cons.mpr ⟨lw_p20, List.forall_mem_cons.mpr ⟨lw_p21, List.forall_mem_cons.mpr ⟨lw_p22, List.forall_mem_cons.mpr ⟨lw_p23, List.forall_mem_cons.mpr ⟨lw_p24, List.forall_mem_cons.mpr ⟨lw_p25, List.forall_mem_cons.mpr ⟨lw_p26, List.forall_mem_cons.mpr ⟨lw_p27, List.forall_mem_cons.mpr ⟨lw_p28, List.forall_mem_cons.mpr ⟨lw_p29, List.forall_mem_cons.mpr ⟨lw_p30, List.forall_mem_cons.mpr ⟨lw_p31, fun _ h => absurd h List.not_mem_nil⟩⟩⟩⟩⟩⟩⟩⟩⟩⟩⟩⟩⟩⟩⟩⟩
theorem lw_p32 : lw_okq (⟨"OnlyInDisguiseModel", "lastsOf", "(II)I"⟩, 19) := ⟨⟨by decide +kernel, by decide +kernel⟩, List.mem_of_getElem? (i := 797) (by decide +kernel), List.mem_of_getElem? (i := 1053) (by decide +kernel), List.mem_of_getElem? (i := 1054) (by decide +kernel)⟩
theorem lw_p33 : lw_okq (⟨"OnlyInDisguiseModel", "fillsCast", "()V"⟩, 19) := ⟨⟨by decide +kernel, by decide +kernel⟩, List.mem_of_getElem? (i := 797) (by decide +kernel), List.mem_of_getElem? (i := 1066) (by decide +kernel), List.mem_of_getElem? (i := 1067) (by decide +kernel)⟩
theorem lw_p34 : lw_okq (⟨"OnlyInDisguiseModel", "mostOf", "(II)I"⟩, 19) := ⟨⟨by decide +kernel, by decide +kernel⟩, List.mem_of_getElem? (i := 797) (by decide +kernel), List.mem_of_getElem? (i := 1070) (by decide +kernel), List.mem_of_getElem? (i := 1071) (by decide +kernel)⟩
theorem lw_p35 : lw_okq (⟨"OnlyInDisguiseModel", "holderBy", "(II)I"⟩, 19) := ⟨⟨by decide +kernel, by decide +kernel⟩, List.mem_of_getElem? (i := 797) (by decide +kernel), List.mem_of_getElem? (i := 1074) (by decide +kernel), List.mem_of_getElem? (i := 1075) (by decide +kernel)⟩
theorem lw_p36 : lw_okq (⟨"OnlyInDisguiseModel", "plainOnes", "()I"⟩, 19) := ⟨⟨by decide +kernel, by decide +kernel⟩, List.mem_of_getElem? (i := 797) (by decide +kernel), List.mem_of_getElem? (i := 1090) (by decide +kernel), List.mem_of_getElem? (i := 1091) (by decide +kernel)⟩
theorem lw_p37 : lw_okq (⟨"OnlyInDisguiseModel", "likeOnes", "()I"⟩, 19) := ⟨⟨by decide +kernel, by decide +kernel⟩, List.mem_of_getElem? (i := 797) (by decide +kernel), List.mem_of_getElem? (i := 1094) (by decide +kernel), List.mem_of_getElem? (i := 1095) (by decide +kernel)⟩
theorem lw_p38 : lw_okq (⟨"OnlyInDisguiseModel", "closest", "()I"⟩, 19) := ⟨⟨by decide +kernel, by decide +kernel⟩, List.mem_of_getElem? (i := 797) (by decide +kernel), List.mem_of_getElem? (i := 1098) (by decide +kernel), List.mem_of_getElem? (i := 1099) (by decide +kernel)⟩
theorem lw_p39 : lw_okq (⟨"OnlyInDisguiseModel", "left", "(I)I"⟩, 19) := ⟨⟨by decide +kernel, by decide +kernel⟩, List.mem_of_getElem? (i := 797) (by decide +kernel), List.mem_of_getElem? (i := 1102) (by decide +kernel), List.mem_of_getElem? (i := 1103) (by decide +kernel)⟩
theorem lw_p40 : lw_okq (⟨"OnlyInDisguiseModel", "stable", "()I"⟩, 19) := ⟨⟨by decide +kernel, by decide +kernel⟩, List.mem_of_getElem? (i := 797) (by decide +kernel), List.mem_of_getElem? (i := 1106) (by decide +kernel), List.mem_of_getElem? (i := 1107) (by decide +kernel)⟩
theorem lw_p41 : lw_okq (⟨"OnlyInDisguiseModel", "isTold", "(III)Z"⟩, 19) := ⟨⟨by decide +kernel, by decide +kernel⟩, List.mem_of_getElem? (i := 797) (by decide +kernel), List.mem_of_getElem? (i := 1115) (by decide +kernel), List.mem_of_getElem? (i := 1116) (by decide +kernel)⟩
theorem lw_p42 : lw_okq (⟨"OnlyInDisguiseModel", "hasBy", "(IIIIII)I"⟩, 19) := ⟨⟨by decide +kernel, by decide +kernel⟩, List.mem_of_getElem? (i := 797) (by decide +kernel), List.mem_of_getElem? (i := 1131) (by decide +kernel), List.mem_of_getElem? (i := 1132) (by decide +kernel)⟩
theorem lw_p43 : lw_okq (⟨"OnlyInDisguiseModel", "drawn", "(I)I"⟩, 19) := ⟨⟨by decide +kernel, by decide +kernel⟩, List.mem_of_getElem? (i := 797) (by decide +kernel), List.mem_of_getElem? (i := 1168) (by decide +kernel), List.mem_of_getElem? (i := 1169) (by decide +kernel)⟩
def lw_privs_3 : List (MethodName × Nat) := [(⟨"OnlyInDisguiseModel", "lastsOf", "(II)I"⟩, 19), (⟨"OnlyInDisguiseModel", "fillsCast", "()V"⟩, 19), (⟨"OnlyInDisguiseModel", "mostOf", "(II)I"⟩, 19), (⟨"OnlyInDisguiseModel", "holderBy", "(II)I"⟩, 19), (⟨"OnlyInDisguiseModel", "plainOnes", "()I"⟩, 19), (⟨"OnlyInDisguiseModel", "likeOnes", "()I"⟩, 19), (⟨"OnlyInDisguiseModel", "closest", "()I"⟩, 19), (⟨"OnlyInDisguiseModel", "left", "(I)I"⟩, 19), (⟨"OnlyInDisguiseModel", "stable", "()I"⟩, 19), (⟨"OnlyInDisguiseModel", "isTold", "(III)Z"⟩, 19), (⟨"OnlyInDisguiseModel", "hasBy", "(IIIIII)I"⟩, 19), (⟨"OnlyInDisguiseModel", "drawn", "(I)I"⟩, 19)]
theorem lw_r3 : ∀ q ∈ lw_privs_3, lw_okq q := List.forall_mem_cons.mpr ⟨lw_p32, List.forall_mem_cons.mpr ⟨lw_p33, List.forall_mem_cons.mpr ⟨lw_p34, List.forall_mem_cons.mpr ⟨lw_p35, List.forall_mem_cons.mpr ⟨lw_p36, List.forall_mem_cons.mpr ⟨lw_p37, List.forall_mem_cons.mpr ⟨lw_p38, List.forall_mem_cons.mpr ⟨lw_p39, List.forall_mem_cons.mpr ⟨lw_p40, List.forall_mem_cons.mpr ⟨lw_p41, List.forall_mem_cons.mpr ⟨lw_p42, List.forall_mem_cons.mpr ⟨lw_p43, fun _ h => absurd h List.not_mem_nil⟩⟩⟩⟩⟩⟩⟩⟩⟩⟩⟩⟩
def lw_privs : List (MethodName × Nat) := lw_privs_1 ++ (lw_privs_2 ++ (lw_privs_3))
def lw_tbl : List Cond := k2_sels lw_privs ++ tables_1
theorem lw_privs_ok : ∀ q ∈ lw_privs, lw_okq q := by
  show ∀ q ∈ lw_privs_1 ++ (lw_privs_2 ++ (lw_privs_3)), lw_okq q
  exact List.forall_mem_append.mpr ⟨lw_r1, List.forall_mem_append.mpr ⟨lw_r2, lw_r3⟩⟩
def RX0 : String := "OnlyInDisguise$Cabinet"
def TX0 : u_T := fun k => match k with
  | 0 => ("OnlyInDisguise$Cabinet", "people", "I", false)
  | 1 => ("OnlyInDisguise$Cabinet", "day", "I", false)
  | 2 => ("OnlyInDisguise$Cabinet", "fallen", "I", false)
  | 3 => ("OnlyInDisguise$Cabinet", "fellToday", "I", false)
  | 4 => ("OnlyInDisguise$Cabinet", "kind", "[I", true)
  | 5 => ("OnlyInDisguise$Cabinet", "figure", "[I", true)
  | 6 => ("OnlyInDisguise$Cabinet", "known", "[I", true)
  | 7 => ("OnlyInDisguise$Cabinet", "mate", "[I", true)
  | 8 => ("OnlyInDisguise$Cabinet", "seat", "[I", true)
  | 9 => ("OnlyInDisguise$Cabinet", "costume", "[I", true)
  | _ => ("OnlyInDisguise$Cabinet", "holder", "[I", true)
def tyX0 : Nat → FieldType := fun k => match k with
  | 0 => .int
  | 1 => .int
  | 2 => .int
  | 3 => .int
  | 4 => .array .int
  | 5 => .array .int
  | 6 => .array .int
  | 7 => .array .int
  | 8 => .array .int
  | 9 => .array .int
  | _ => .array .int
theorem nmX0 : ∀ a, a < 11 → ∀ b, b < 11 → a ≠ b → (TX0 a).2.1 ≠ (TX0 b).2.1 := by decide +kernel
theorem tyX0_ok : ∀ k, k < 11 → parseFieldDescriptor (TX0 k).2.2.1 = some (tyX0 k) := by decide +kernel
def RX1 : String := "OnlyInDisguise$Casting"
def TX1 : u_T := fun k => match k with
  | 0 => ("OnlyInDisguise$Casting", "lasting", "[I", true)
  | 1 => ("OnlyInDisguise$Casting", "best", "[I", true)
  | _ => ("OnlyInDisguise$Casting", "people", "I", false)
def tyX1 : Nat → FieldType := fun k => match k with
  | 0 => .array .int
  | 1 => .array .int
  | _ => .int
theorem nmX1 : ∀ a, a < 3 → ∀ b, b < 3 → a ≠ b → (TX1 a).2.1 ≠ (TX1 b).2.1 := by decide +kernel
theorem tyX1_ok : ∀ k, k < 3 → parseFieldDescriptor (TX1 k).2.2.1 = some (tyX1 k) := by decide +kernel
def RX2 : String := "OnlyInDisguise$Draws"
def TX2 : u_T := fun k => match k with
  | _ => ("OnlyInDisguise$Draws", "z", "I", false)
def tyX2 : Nat → FieldType := fun k => match k with
  | _ => .int
theorem nmX2 : ∀ a, a < 1 → ∀ b, b < 1 → a ≠ b → (TX2 a).2.1 ≠ (TX2 b).2.1 := by decide +kernel
theorem tyX2_ok : ∀ k, k < 1 → parseFieldDescriptor (TX2 k).2.2.1 = some (tyX2 k) := by decide +kernel
def RX4 : String := "OnlyInDisguise$Shelves"
def TX4 : u_T := fun k => match k with
  | 0 => ("OnlyInDisguise$Shelves", "content", "[I", true)
  | 1 => ("OnlyInDisguise$Shelves", "kind", "[I", true)
  | 2 => ("OnlyInDisguise$Shelves", "figure", "[I", true)
  | 3 => ("OnlyInDisguise$Shelves", "sort", "[I", true)
  | 4 => ("OnlyInDisguise$Shelves", "length", "[I", true)
  | _ => ("OnlyInDisguise$Shelves", "elements", "[I", true)
def tyX4 : Nat → FieldType := fun k => match k with
  | 0 => .array .int
  | 1 => .array .int
  | 2 => .array .int
  | 3 => .array .int
  | 4 => .array .int
  | _ => .array .int
theorem nmX4 : ∀ a, a < 6 → ∀ b, b < 6 → a ≠ b → (TX4 a).2.1 ≠ (TX4 b).2.1 := by decide +kernel
theorem tyX4_ok : ∀ k, k < 6 → parseFieldDescriptor (TX4 k).2.2.1 = some (tyX4 k) := by decide +kernel
def RX6 : String := "OnlyInDisguise"
def TX6 : u_T := fun k => match k with
  | 0 => ("OnlyInDisguise", "now", "LOnlyInDisguise$Cabinet;", true)
  | 1 => ("OnlyInDisguise", "mind", "LOnlyInDisguise$Cabinet;", true)
  | 2 => ("OnlyInDisguise", "picture", "LOnlyInDisguise$Cabinet;", true)
  | 3 => ("OnlyInDisguise", "pictured", "Z", false)
  | 4 => ("OnlyInDisguise", "shelves", "LOnlyInDisguise$Shelves;", true)
  | 5 => ("OnlyInDisguise", "casting", "LOnlyInDisguise$Casting;", true)
  | 6 => ("OnlyInDisguise", "draws", "LOnlyInDisguise$Draws;", true)
  | 7 => ("OnlyInDisguise", "oneHas", "[I", true)
  | _ => ("OnlyInDisguise", "otherHas", "[I", true)
def tyX6 : Nat → FieldType := fun k => match k with
  | 0 => .object "OnlyInDisguise$Cabinet"
  | 1 => .object "OnlyInDisguise$Cabinet"
  | 2 => .object "OnlyInDisguise$Cabinet"
  | 3 => .boolean
  | 4 => .object "OnlyInDisguise$Shelves"
  | 5 => .object "OnlyInDisguise$Casting"
  | 6 => .object "OnlyInDisguise$Draws"
  | 7 => .array .int
  | _ => .array .int
theorem nmX6 : ∀ a, a < 9 → ∀ b, b < 9 → a ≠ b → (TX6 a).2.1 ≠ (TX6 b).2.1 := by decide +kernel
theorem tyX6_ok : ∀ k, k < 9 → parseFieldDescriptor (TX6 k).2.2.1 = some (tyX6 k) := by decide +kernel
def RX7 : String := "OnlyInDisguiseModel"
def TX7 : u_T := fun k => match k with
  | 0 => ("OnlyInDisguiseModel", "s", "[I", true)
  | 1 => ("OnlyInDisguiseModel", "m", "[I", true)
  | 2 => ("OnlyInDisguiseModel", "image", "[I", true)
  | 3 => ("OnlyInDisguiseModel", "was", "[I", true)
  | 4 => ("OnlyInDisguiseModel", "hasImage", "Z", false)
  | 5 => ("OnlyInDisguiseModel", "place", "I", false)
  | 6 => ("OnlyInDisguiseModel", "rowAt", "I", false)
  | 7 => ("OnlyInDisguiseModel", "rowEnd", "I", false)
  | 8 => ("OnlyInDisguiseModel", "numbers", "[I", true)
  | 9 => ("OnlyInDisguiseModel", "lasting", "[I", true)
  | 10 => ("OnlyInDisguiseModel", "most", "[I", true)
  | 11 => ("OnlyInDisguiseModel", "seed", "I", false)
  | 12 => ("OnlyInDisguiseModel", "kept", "[I", true)
  | 13 => ("OnlyInDisguiseModel", "keptKind", "[I", true)
  | 14 => ("OnlyInDisguiseModel", "keptFigure", "[I", true)
  | 15 => ("OnlyInDisguiseModel", "sort", "[I", true)
  | 16 => ("OnlyInDisguiseModel", "size", "[I", true)
  | 17 => ("OnlyInDisguiseModel", "element", "[I", true)
  | _ => ("OnlyInDisguiseModel", "thrown", "I", false)
def tyX7 : Nat → FieldType := fun k => match k with
  | 0 => .array .int
  | 1 => .array .int
  | 2 => .array .int
  | 3 => .array .int
  | 4 => .boolean
  | 5 => .int
  | 6 => .int
  | 7 => .int
  | 8 => .array .int
  | 9 => .array .int
  | 10 => .array .int
  | 11 => .int
  | 12 => .array .int
  | 13 => .array .int
  | 14 => .array .int
  | 15 => .array .int
  | 16 => .array .int
  | 17 => .array .int
  | _ => .int
theorem nmX7 : ∀ a, a < 19 → ∀ b, b < 19 → a ≠ b → (TX7 a).2.1 ≠ (TX7 b).2.1 := by decide +kernel
theorem tyX7_ok : ∀ k, k < 19 → parseFieldDescriptor (TX7 k).2.2.1 = some (tyX7 k) := by decide +kernel
/-! the words of the tables that stay while the machine runs -/
def aTbl : List Cond := lw_tbl.filter goodWord
theorem aTbl_good : GoodIn aTbl aTbl := fun _ h => ⟨h, good_of_word (List.mem_filter.mp h).2⟩
theorem in_aTbl {w : Cond} (i : Nat) (h : lw_tbl[i]? = some w) (g : goodWord w = true) : w ∈ aTbl := List.mem_filter.mpr ⟨List.mem_of_getElem? h, g⟩
theorem aTbl_sub : ∀ w ∈ aTbl, w ∈ lw_tbl := fun _ h => (List.mem_filter.mp h).1
theorem ilX0 : ∀ w ∈ u_ws RX0 TX0 11, w ∈ lw_tbl := by decide +kernel
theorem igX0 : (u_ws RX0 TX0 11).all goodWord = true := by decide +kernel
theorem iaX0 : ∀ w ∈ u_ws RX0 TX0 11, w ∈ aTbl := fun w h => List.mem_filter.mpr ⟨ilX0 w h, List.all_eq_true.mp igX0 w h⟩
theorem ilX1 : ∀ w ∈ u_ws RX1 TX1 3, w ∈ lw_tbl := by decide +kernel
theorem igX1 : (u_ws RX1 TX1 3).all goodWord = true := by decide +kernel
theorem iaX1 : ∀ w ∈ u_ws RX1 TX1 3, w ∈ aTbl := fun w h => List.mem_filter.mpr ⟨ilX1 w h, List.all_eq_true.mp igX1 w h⟩
theorem ilX2 : ∀ w ∈ u_ws RX2 TX2 1, w ∈ lw_tbl := by decide +kernel
theorem igX2 : (u_ws RX2 TX2 1).all goodWord = true := by decide +kernel
theorem iaX2 : ∀ w ∈ u_ws RX2 TX2 1, w ∈ aTbl := fun w h => List.mem_filter.mpr ⟨ilX2 w h, List.all_eq_true.mp igX2 w h⟩
theorem ilX4 : ∀ w ∈ u_ws RX4 TX4 6, w ∈ lw_tbl := by decide +kernel
theorem igX4 : (u_ws RX4 TX4 6).all goodWord = true := by decide +kernel
theorem iaX4 : ∀ w ∈ u_ws RX4 TX4 6, w ∈ aTbl := fun w h => List.mem_filter.mpr ⟨ilX4 w h, List.all_eq_true.mp igX4 w h⟩
theorem ilX6 : ∀ w ∈ u_ws RX6 TX6 9, w ∈ lw_tbl := by decide +kernel
theorem igX6 : (u_ws RX6 TX6 9).all goodWord = true := by decide +kernel
theorem iaX6 : ∀ w ∈ u_ws RX6 TX6 9, w ∈ aTbl := fun w h => List.mem_filter.mpr ⟨ilX6 w h, List.all_eq_true.mp igX6 w h⟩
theorem ilX7 : ∀ w ∈ u_ws RX7 TX7 19, w ∈ lw_tbl := by decide +kernel
theorem igX7 : (u_ws RX7 TX7 19).all goodWord = true := by decide +kernel
theorem iaX7 : ∀ w ∈ u_ws RX7 TX7 19, w ∈ aTbl := fun w h => List.mem_filter.mpr ⟨ilX7 w h, List.all_eq_true.mp igX7 w h⟩
abbrev aCl : List vw_C := [(RX0, TX0, 11), (RX1, TX1, 3), (RX2, TX2, 1), (RX4, TX4, 6), (RX6, TX6, 9), (RX7, TX7, 19)]
