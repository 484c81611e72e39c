section
/-- a private method of a class that the tables say can be made, by its rows of tables_1 -/
def lw_okq (q : MethodName × Nat) : Prop := (q.1.cls ≠ "java/lang/invoke/MethodHandle" ∧ q.1.cls ≠ "java/lang/invoke/VarHandle") ∧ Cond.instantiable q.1.cls q.2 ∈ tables_1 ∧ Cond.privateMethod q.1 ∈ tables_1 ∧ Cond.instanceMethod q.1 ∈ tables_1
theorem lw_p0 : lw_okq (⟨"OnlyInDisguise$Shelves", "lackOf", "(II)I"⟩, 6) := ⟨⟨by decide +kernel, by decide +kernel⟩, List.mem_of_getElem? (i := 83) (by decide +kernel), List.mem_of_getElem? (i := 170) (by decide +kernel), List.mem_of_getElem? (i := 171) (by decide +kernel)⟩
theorem lw_p1 : lw_okq (⟨"OnlyInDisguise$Cabinet", "showing", "(I)I"⟩, 11) := ⟨⟨by decide +kernel, by decide +kernel⟩, List.mem_of_getElem? (i := 27) (by decide +kernel), List.mem_of_getElem? (i := 260) (by decide +kernel), List.mem_of_getElem? (i := 261) (by decide +kernel)⟩
theorem lw_p2 : lw_okq (⟨"OnlyInDisguise$Cabinet", "fall", "(II)V"⟩, 11) := ⟨⟨by decide +kernel, by decide +kernel⟩, List.mem_of_getElem? (i := 27) (by decide +kernel), List.mem_of_getElem? (i := 285) (by decide +kernel), List.mem_of_getElem? (i := 286) (by decide +kernel)⟩
theorem lw_p3 : lw_okq (⟨"OnlyInDisguise", "foresee", "(I)V"⟩, 9) := ⟨⟨by decide +kernel, by decide +kernel⟩, List.mem_of_getElem? (i := 19) (by decide +kernel), List.mem_of_getElem? (i := 380) (by decide +kernel), List.mem_of_getElem? (i := 381) (by decide +kernel)⟩
theorem lw_p4 : lw_okq (⟨"OnlyInDisguise", "fallenIn", "(III)I"⟩, 9) := ⟨⟨by decide +kernel, by decide +kernel⟩, List.mem_of_getElem? (i := 19) (by decide +kernel), List.mem_of_getElem? (i := 420) (by decide +kernel), List.mem_of_getElem? (i := 421) (by decide +kernel)⟩
theorem lw_p5 : lw_okq (⟨"OnlyInDisguise$Casting", "bestFrom", "(II)I"⟩, 3) := ⟨⟨by decide +kernel, by decide +kernel⟩, List.mem_of_getElem? (i := 108) (by decide +kernel), List.mem_of_getElem? (i := 434) (by decide +kernel), List.mem_of_getElem? (i := 435) (by decide +kernel)⟩
theorem lw_p6 : lw_okq (⟨"OnlyInDisguise$Casting", "with", "(III)I"⟩, 3) := ⟨⟨by decide +kernel, by decide +kernel⟩, List.mem_of_getElem? (i := 108) (by decide +kernel), List.mem_of_getElem? (i := 438) (by decide +kernel), List.mem_of_getElem? (i := 439) (by decide +kernel)⟩
theorem lw_p7 : lw_okq (⟨"OnlyInDisguise$Casting", "firstBest", "(II)I"⟩, 3) := ⟨⟨by decide +kernel, by decide +kernel⟩, List.mem_of_getElem? (i := 108) (by decide +kernel), List.mem_of_getElem? (i := 451) (by decide +kernel), List.mem_of_getElem? (i := 452) (by decide +kernel)⟩
theorem lw_p8 : lw_okq (⟨"OnlyInDisguise", "fallenWithout", "(II)I"⟩, 9) := ⟨⟨by decide +kernel, by decide +kernel⟩, List.mem_of_getElem? (i := 19) (by decide +kernel), List.mem_of_getElem? (i := 459) (by decide +kernel), List.mem_of_getElem? (i := 460) (by decide +kernel)⟩
theorem lw_p9 : lw_okq (⟨"OnlyInDisguise", "fallenChanged", "(III)I"⟩, 9) := ⟨⟨by decide +kernel, by decide +kernel⟩, List.mem_of_getElem? (i := 19) (by decide +kernel), List.mem_of_getElem? (i := 467) (by decide +kernel), List.mem_of_getElem? (i := 468) (by decide +kernel)⟩
theorem lw_p10 : lw_okq (⟨"OnlyInDisguise$Cabinet", "isPlain", "(I)Z"⟩, 11) := ⟨⟨by decide +kernel, by decide +kernel⟩, List.mem_of_getElem? (i := 27) (by decide +kernel), List.mem_of_getElem? (i := 484) (by decide +kernel), List.mem_of_getElem? (i := 485) (by decide +kernel)⟩
theorem lw_p11 : lw_okq (⟨"OnlyInDisguise", "stable", "()I"⟩, 9) := ⟨⟨by decide +kernel, by decide +kernel⟩, List.mem_of_getElem? (i := 19) (by decide +kernel), List.mem_of_getElem? (i := 496) (by decide +kernel), List.mem_of_getElem? (i := 497) (by decide +kernel)⟩
theorem lw_p12 : lw_okq (⟨"OnlyInDisguise", "firstUnlike", "(III)I"⟩, 9) := ⟨⟨by decide +kernel, by decide +kernel⟩, List.mem_of_getElem? (i := 19) (by decide +kernel), List.mem_of_getElem? (i := 505) (by decide +kernel), List.mem_of_getElem? (i := 506) (by decide +kernel)⟩
theorem lw_p13 : lw_okq (⟨"OnlyInDisguise", "measured", "(II)I"⟩, 9) := ⟨⟨by decide +kernel, by decide +kernel⟩, List.mem_of_getElem? (i := 19) (by decide +kernel), List.mem_of_getElem? (i := 520) (by decide +kernel), List.mem_of_getElem? (i := 521) (by decide +kernel)⟩
theorem lw_p14 : lw_okq (⟨"OnlyInDisguise", "playTwo", "(IIII)V"⟩, 9) := ⟨⟨by decide +kernel, by decide +kernel⟩, List.mem_of_getElem? (i := 19) (by decide +kernel), List.mem_of_getElem? (i := 532) (by decide +kernel), List.mem_of_getElem? (i := 533) (by decide +kernel)⟩
theorem lw_p15 : lw_okq (⟨"OnlyInDisguise", "heldAfterScandals", "(III)Z"⟩, 9) := ⟨⟨by decide +kernel, by decide +kernel⟩, List.mem_of_getElem? (i := 19) (by decide +kernel), List.mem_of_getElem? (i := 545) (by decide +kernel), List.mem_of_getElem? (i := 546) (by decide +kernel)⟩
def lw_privs_1 : List (MethodName × Nat) := [(⟨"OnlyInDisguise$Shelves", "lackOf", "(II)I"⟩, 6), (⟨"OnlyInDisguise$Cabinet", "showing", "(I)I"⟩, 11), (⟨"OnlyInDisguise$Cabinet", "fall", "(II)V"⟩, 11), (⟨"OnlyInDisguise", "foresee", "(I)V"⟩, 9), (⟨"OnlyInDisguise", "fallenIn", "(III)I"⟩, 9), (⟨"OnlyInDisguise$Casting", "bestFrom", "(II)I"⟩, 3), (⟨"OnlyInDisguise$Casting", "with", "(III)I"⟩, 3), (⟨"OnlyInDisguise$Casting", "firstBest", "(II)I"⟩, 3), (⟨"OnlyInDisguise", "fallenWithout", "(II)I"⟩, 9), (⟨"OnlyInDisguise", "fallenChanged", "(III)I"⟩, 9), (⟨"OnlyInDisguise$Cabinet", "isPlain", "(I)Z"⟩, 11), (⟨"OnlyInDisguise", "stable", "()I"⟩, 9), (⟨"OnlyInDisguise", "firstUnlike", "(III)I"⟩, 9), (⟨"OnlyInDisguise", "measured", "(II)I"⟩, 9), (⟨"OnlyInDisguise", "playTwo", "(IIII)V"⟩, 9), (⟨"OnlyInDisguise", "heldAfterScandals", "(III)Z"⟩, 9)]
theorem lw_r1 : ∀ q ∈ lw_privs_1, lw_okq q := List.forall_mem_cons.mpr ⟨lw_p0, List.forall_mem_cons.mpr ⟨lw_p1, List.forall_mem_cons.mpr ⟨lw_p2, List.forall_mem_cons.mpr ⟨lw_p3, List.forall_mem_cons.mpr ⟨lw_p4, List.forall_mem_cons.mpr ⟨lw_p5, List.forall_mem_cons.mpr ⟨lw_p6, List.forall_mem_cons.mpr ⟨lw_p7, List.forall_mem_cons.mpr ⟨lw_p8, List.forall_mem_cons.mpr ⟨lw_p9, List.forall_mem_cons.mpr ⟨lw_p10, List.forall_mem_cons.mpr ⟨lw_p11, List.forall_mem_cons.mpr ⟨lw_p12, List.forall_mem_cons.mpr ⟨lw_p13, List.forall_mem_cons.mpr ⟨lw_p14, List.forall_mem_cons.mpr ⟨lw_p15, fun _ h => absurd h List.not_mem_nil⟩⟩⟩⟩⟩⟩⟩⟩⟩⟩⟩⟩⟩⟩⟩⟩
theorem lw_p16 : lw_okq (⟨"OnlyInDisguise", "holderAsTold", "(I)I"⟩, 9) := ⟨⟨by decide +kernel, by decide +kernel⟩, List.mem_of_getElem? (i := 19) (by decide +kernel), List.mem_of_getElem? (i := 574) (by decide +kernel), List.mem_of_getElem? (i := 575) (by decide +kernel)⟩
theorem lw_p17 : lw_okq (⟨"OnlyInDisguise", "oneYear", "()V"⟩, 9) := ⟨⟨by decide +kernel, by decide +kernel⟩, List.mem_of_getElem? (i := 19) (by decide +kernel), List.mem_of_getElem? (i := 590) (by decide +kernel), List.mem_of_getElem? (i := 591) (by decide +kernel)⟩
theorem lw_p18 : lw_okq (⟨"java/lang/Throwable", "fillInStackTrace", "(I)Ljava/lang/Throwable;"⟩, 6) := ⟨⟨by decide +kernel, by decide +kernel⟩, List.mem_of_getElem? (i := 720) (by decide +kernel), List.mem_of_getElem? (i := 718) (by decide +kernel), List.mem_of_getElem? (i := 719) (by decide +kernel)⟩
theorem lw_p19 : lw_okq (⟨"OnlyInDisguiseModel", "wrongRow", "(II)I"⟩, 19) := ⟨⟨by decide +kernel, by decide +kernel⟩, List.mem_of_getElem? (i := 797) (by decide +kernel), List.mem_of_getElem? (i := 865) (by decide +kernel), List.mem_of_getElem? (i := 866) (by decide +kernel)⟩
theorem lw_p20 : lw_okq (⟨"OnlyInDisguiseModel", "readsStatement", "()Z"⟩, 19) := ⟨⟨by decide +kernel, by decide +kernel⟩, List.mem_of_getElem? (i := 797) (by decide +kernel), List.mem_of_getElem? (i := 875) (by decide +kernel), List.mem_of_getElem? (i := 876) (by decide +kernel)⟩
theorem lw_p21 : lw_okq (⟨"OnlyInDisguiseModel", "here", "()I"⟩, 19) := ⟨⟨by decide +kernel, by decide +kernel⟩, List.mem_of_getElem? (i := 797) (by decide +kernel), List.mem_of_getElem? (i := 879) (by decide +kernel), List.mem_of_getElem? (i := 880) (by decide +kernel)⟩
theorem lw_p22 : lw_okq (⟨"OnlyInDisguiseModel", "readsNumber", "(II)Z"⟩, 19) := ⟨⟨by decide +kernel, by decide +kernel⟩, List.mem_of_getElem? (i := 797) (by decide +kernel), List.mem_of_getElem? (i := 883) (by decide +kernel), List.mem_of_getElem? (i := 884) (by decide +kernel)⟩
theorem lw_p23 : lw_okq (⟨"OnlyInDisguiseModel", "isDone", "(I)Z"⟩, 19) := ⟨⟨by decide +kernel, by decide +kernel⟩, List.mem_of_getElem? (i := 797) (by decide +kernel), List.mem_of_getElem? (i := 890) (by decide +kernel), List.mem_of_getElem? (i := 891) (by decide +kernel)⟩
theorem lw_p24 : lw_okq (⟨"OnlyInDisguiseModel", "adds", "(III)V"⟩, 19) := ⟨⟨by decide +kernel, by decide +kernel⟩, List.mem_of_getElem? (i := 797) (by decide +kernel), List.mem_of_getElem? (i := 897) (by decide +kernel), List.mem_of_getElem? (i := 898) (by decide +kernel)⟩
theorem lw_p25 : lw_okq (⟨"OnlyInDisguiseModel", "isOne", "(I)Z"⟩, 19) := ⟨⟨by decide +kernel, by decide +kernel⟩, List.mem_of_getElem? (i := 797) (by decide +kernel), List.mem_of_getElem? (i := 907) (by decide +kernel), List.mem_of_getElem? (i := 908) (by decide +kernel)⟩
theorem lw_p26 : lw_okq (⟨"OnlyInDisguiseModel", "chainOf", "(I)I"⟩, 19) := ⟨⟨by decide +kernel, by decide +kernel⟩, List.mem_of_getElem? (i := 797) (by decide +kernel), List.mem_of_getElem? (i := 957) (by decide +kernel), List.mem_of_getElem? (i := 958) (by decide +kernel)⟩
theorem lw_p27 : lw_okq (⟨"OnlyInDisguiseModel", "showsNext", "(II)I"⟩, 19) := ⟨⟨by decide +kernel, by decide +kernel⟩, List.mem_of_getElem? (i := 797) (by decide +kernel), List.mem_of_getElem? (i := 975) (by decide +kernel), List.mem_of_getElem? (i := 976) (by decide +kernel)⟩
theorem lw_p28 : lw_okq (⟨"OnlyInDisguiseModel", "wrongKept", "(I)I"⟩, 19) := ⟨⟨by decide +kernel, by decide +kernel⟩, List.mem_of_getElem? (i := 797) (by decide +kernel), List.mem_of_getElem? (i := 983) (by decide +kernel), List.mem_of_getElem? (i := 984) (by decide +kernel)⟩
theorem lw_p29 : lw_okq (⟨"OnlyInDisguiseModel", "sets", "(II)I"⟩, 19) := ⟨⟨by decide +kernel, by decide +kernel⟩, List.mem_of_getElem? (i := 797) (by decide +kernel), List.mem_of_getElem? (i := 995) (by decide +kernel), List.mem_of_getElem? (i := 996) (by decide +kernel)⟩
theorem lw_p30 : lw_okq (⟨"OnlyInDisguiseModel", "takes", "(I)V"⟩, 19) := ⟨⟨by decide +kernel, by decide +kernel⟩, List.mem_of_getElem? (i := 797) (by decide +kernel), List.mem_of_getElem? (i := 1022) (by decide +kernel), List.mem_of_getElem? (i := 1023) (by decide +kernel)⟩
theorem lw_p31 : lw_okq (⟨"OnlyInDisguiseModel", "whenNot", "(II)I"⟩, 19) := ⟨⟨by decide +kernel, by decide +kernel⟩, List.mem_of_getElem? (i := 797) (by decide +kernel), List.mem_of_getElem? (i := 1041) (by decide +kernel), List.mem_of_getElem? (i := 1042) (by decide +kernel)⟩
def lw_privs_2 : List (MethodName × Nat) := [(⟨"OnlyInDisguise", "holderAsTold", "(I)I"⟩, 9), (⟨"OnlyInDisguise", "oneYear", "()V"⟩, 9), (⟨"java/lang/Throwable", "fillInStackTrace", "(I)Ljava/lang/Throwable;"⟩, 6), (⟨"OnlyInDisguiseModel", "wrongRow", "(II)I"⟩, 19), (⟨"OnlyInDisguiseModel", "readsStatement", "()Z"⟩, 19), (⟨"OnlyInDisguiseModel", "here", "()I"⟩, 19), (⟨"OnlyInDisguiseModel", "readsNumber", "(II)Z"⟩, 19), (⟨"OnlyInDisguiseModel", "isDone", "(I)Z"⟩, 19), (⟨"OnlyInDisguiseModel", "adds", "(III)V"⟩, 19), (⟨"OnlyInDisguiseModel", "isOne", "(I)Z"⟩, 19), (⟨"OnlyInDisguiseModel", "chainOf", "(I)I"⟩, 19), (⟨"OnlyInDisguiseModel", "showsNext", "(II)I"⟩, 19), (⟨"OnlyInDisguiseModel", "wrongKept", "(I)I"⟩, 19), (⟨"OnlyInDisguiseModel", "sets", "(II)I"⟩, 19), (⟨"OnlyInDisguiseModel", "takes", "(I)V"⟩, 19), (⟨"OnlyInDisguiseModel", "whenNot", "(II)I"⟩, 19)]
theorem lw_r2 : ∀ q ∈ lw_privs_2, lw_okq q := List.forall_mem_cons.mpr ⟨lw_p16, List.forall_mem_cons.mpr ⟨lw_p17, List.forall_mem_cons.mpr ⟨lw_p18, List.forall_mem_cons.mpr ⟨lw_p19, List.forall_mem_cons.mpr ⟨lw_p20, List.forall_mem_cons.mpr ⟨lw_p21, List.forall_mem_cons.mpr ⟨lw_p22, List.forall_mem_cons.mpr ⟨lw_p23, List.forall_mem_cons.mpr ⟨lw_p24, List.forall_mem_cons.mpr ⟨lw_p25, List.forall_mem_cons.mpr ⟨lw_p26, List.forall_mem_cons.mpr ⟨lw_p27, List.forall_mem_cons.mpr ⟨lw_p28, List.forall_mem_cons.mpr ⟨lw_p29, List.forall_mem_cons.mpr ⟨lw_p30, List.forall_mem_cons.mpr ⟨lw_p31, fun _ h => absurd h List.not_mem_nil⟩⟩⟩⟩⟩⟩⟩⟩⟩⟩⟩⟩⟩⟩⟩⟩
theorem lw_p32 : lw_okq (⟨"OnlyInDisguiseModel", "lastsOf", "(II)I"⟩, 19) := ⟨⟨by decide +kernel, by decide +kernel⟩, List.mem_of_getElem? (i := 797) (by decide +kernel), List.mem_of_getElem? (i := 1053) (by decide +kernel), List.mem_of_getElem? (i := 1054) (by decide +kernel)⟩
theorem lw_p33 : lw_okq (⟨"OnlyInDisguiseModel", "fillsCast", "()V"⟩, 19) := ⟨⟨by decide +kernel, by decide +kernel⟩, List.mem_of_getElem? (i := 797) (by decide +kernel), List.mem_of_getElem? (i := 1066) (by decide +kernel), List.mem_of_getElem? (i := 1067) (by decide +kernel)⟩
theorem lw_p34 : lw_okq (⟨"OnlyInDisguiseModel", "mostOf", "(II)I"⟩, 19) := ⟨⟨by decide +kernel, by decide +kernel⟩, List.mem_of_getElem? (i := 797) (by decide +kernel), List.mem_of_getElem? (i := 1070) (by decide +kernel), List.mem_of_getElem? (i := 1071) (by decide +kernel)⟩
theorem lw_p35 : lw_okq (⟨"OnlyInDisguiseModel", "holderBy", "(II)I"⟩, 19) := ⟨⟨by decide +kernel, by decide +kernel⟩, List.mem_of_getElem? (i := 797) (by decide +kernel), List.mem_of_getElem? (i := 1074) (by decide +kernel), List.mem_of_getElem? (i := 1075) (by decide +kernel)⟩
theorem lw_p36 : lw_okq (⟨"OnlyInDisguiseModel", "plainOnes", "()I"⟩, 19) := ⟨⟨by decide +kernel, by decide +kernel⟩, List.mem_of_getElem? (i := 797) (by decide +kernel), List.mem_of_getElem? (i := 1090) (by decide +kernel), List.mem_of_getElem? (i := 1091) (by decide +kernel)⟩
theorem lw_p37 : lw_okq (⟨"OnlyInDisguiseModel", "likeOnes", "()I"⟩, 19) := ⟨⟨by decide +kernel, by decide +kernel⟩, List.mem_of_getElem? (i := 797) (by decide +kernel), List.mem_of_getElem? (i := 1094) (by decide +kernel), List.mem_of_getElem? (i := 1095) (by decide +kernel)⟩
theorem lw_p38 : lw_okq (⟨"OnlyInDisguiseModel", "closest", "()I"⟩, 19) := ⟨⟨by decide +kernel, by decide +kernel⟩, List.mem_of_getElem? (i := 797) (by decide +kernel), List.mem_of_getElem? (i := 1098) (by decide +kernel), List.mem_of_getElem? (i := 1099) (by decide +kernel)⟩
theorem lw_p39 : lw_okq (⟨"OnlyInDisguiseModel", "left", "(I)I"⟩, 19) := ⟨⟨by decide +kernel, by decide +kernel⟩, List.mem_of_getElem? (i := 797) (by decide +kernel), List.mem_of_getElem? (i := 1102) (by decide +kernel), List.mem_of_getElem? (i := 1103) (by decide +kernel)⟩
theorem lw_p40 : lw_okq (⟨"OnlyInDisguiseModel", "stable", "()I"⟩, 19) := ⟨⟨by decide +kernel, by decide +kernel⟩, List.mem_of_getElem? (i := 797) (by decide +kernel), List.mem_of_getElem? (i := 1106) (by decide +kernel), List.mem_of_getElem? (i := 1107) (by decide +kernel)⟩
theorem lw_p41 : lw_okq (⟨"OnlyInDisguiseModel", "isTold", "(III)Z"⟩, 19) := ⟨⟨by decide +kernel, by decide +kernel⟩, List.mem_of_getElem? (i := 797) (by decide +kernel), List.mem_of_getElem? (i := 1115) (by decide +kernel), List.mem_of_getElem? (i := 1116) (by decide +kernel)⟩
theorem lw_p42 : lw_okq (⟨"OnlyInDisguiseModel", "hasBy", "(IIIIII)I"⟩, 19) := ⟨⟨by decide +kernel, by decide +kernel⟩, List.mem_of_getElem? (i := 797) (by decide +kernel), List.mem_of_getElem? (i := 1131) (by decide +kernel), List.mem_of_getElem? (i := 1132) (by decide +kernel)⟩
theorem lw_p43 : lw_okq (⟨"OnlyInDisguiseModel", "drawn", "(I)I"⟩, 19) := ⟨⟨by decide +kernel, by decide +kernel⟩, List.mem_of_getElem? (i := 797) (by decide +kernel), List.mem_of_getElem? (i := 1168) (by decide +kernel), List.mem_of_getElem? (i := 1169) (by decide +kernel)⟩
def lw_privs_3 : List (MethodName × Nat) := [(⟨"OnlyInDisguiseModel", "lastsOf", "(II)I"⟩, 19), (⟨"OnlyInDisguiseModel", "fillsCast", "()V"⟩, 19), (⟨"OnlyInDisguiseModel", "mostOf", "(II)I"⟩, 19), (⟨"OnlyInDisguiseModel", "holderBy", "(II)I"⟩, 19), (⟨"OnlyInDisguiseModel", "plainOnes", "()I"⟩, 19), (⟨"OnlyInDisguiseModel", "likeOnes", "()I"⟩, 19), (⟨"OnlyInDisguiseModel", "closest", "()I"⟩, 19), (⟨"OnlyInDisguiseModel", "left", "(I)I"⟩, 19), (⟨"OnlyInDisguiseModel", "stable", "()I"⟩, 19), (⟨"OnlyInDisguiseModel", "isTold", "(III)Z"⟩, 19), (⟨"OnlyInDisguiseModel", "hasBy", "(IIIIII)I"⟩, 19), (⟨"OnlyInDisguiseModel", "drawn", "(I)I"⟩, 19)]
theorem lw_r3 : ∀ q ∈ lw_privs_3, lw_okq q := List.forall_mem_cons.mpr ⟨lw_p32, List.forall_mem_cons.mpr ⟨lw_p33, List.forall_mem_cons.mpr ⟨lw_p34, List.forall_mem_cons.mpr ⟨lw_p35, List.forall_mem_cons.mpr ⟨lw_p36, List.forall_mem_cons.mpr ⟨lw_p37, List.forall_mem_cons.mpr ⟨lw_p38, List.forall_mem_cons.mpr ⟨lw_p39, List.forall_mem_cons.mpr ⟨lw_p40, List.forall_mem_cons.mpr ⟨lw_p41, List.forall_mem_cons.mpr ⟨lw_p42, List.forall_mem_cons.mpr ⟨lw_p43, fun _ h => absurd h List.not_mem_nil⟩⟩⟩⟩⟩⟩⟩⟩⟩⟩⟩⟩
def lw_privs : List (MethodName × Nat) := lw_privs_1 ++ (lw_privs_2 ++ (lw_privs_3))
def lw_tbl : List Cond := k2_sels lw_privs ++ tables_1
theorem lw_privs_ok : ∀ q ∈ lw_privs, lw_okq q := by
  show ∀ q ∈ lw_privs_1 ++ (lw_privs_2 ++ (lw_privs_3)), lw_okq q
  exact List.forall_mem_append.mpr ⟨lw_r1, List.forall_mem_append.mpr ⟨lw_r2, lw_r3⟩⟩
def RX0 : String := "OnlyInDisguise$Cabinet"
def TX0 : u_T := fun k => match k with
  | 0 => ("OnlyInDisguise$Cabinet", "people", "I", false)
  | 1 => ("OnlyInDisguise$Cabinet", "day", "I", false)
  | 2 => ("OnlyInDisguise$Cabinet", "fallen", "I", false)
  | 3 => ("OnlyInDisguise$Cabinet", "fellToday", "I", false)
  | 4 => ("OnlyInDisguise$Cabinet", "kind", "[I", true)
  | 5 => ("OnlyInDisguise$Cabinet", "figure", "[I", true)
  | 6 => ("OnlyInDisguise$Cabinet", "known", "[I", true)
  | 7 => ("OnlyInDisguise$Cabinet", "mate", "[I", true)
  | 8 => ("OnlyInDisguise$Cabinet", "seat", "[I", true)
  | 9 => ("OnlyInDisguise$Cabinet", "costume", "[I", true)
  | _ => ("OnlyInDisguise$Cabinet", "holder", "[I", true)
def tyX0 : Nat → FieldType := fun k => match k with
  | 0 => .int
  | 1 => .int
  | 2 => .int
  | 3 => .int
  | 4 => .array .int
  | 5 => .array .int
  | 6 => .array .int
  | 7 => .array .int
  | 8 => .array .int
  | 9 => .array .int
  | _ => .array .int
theorem nmX0 : ∀ a, a < 11 → ∀ b, b < 11 → a ≠ b → (TX0 a).2.1 ≠ (TX0 b).2.1 := by decide +kernel
theorem tyX0_ok : ∀ k, k < 11 → parseFieldDescriptor (TX0 k).2.2.1 = some (tyX0 k) := by decide +kernel
def RX1 : String := "OnlyInDisguise$Casting"
def TX1 : u_T := fun k => match k with
  | 0 => ("OnlyInDisguise$Casting", "lasting", "[I", true)
  | 1 => ("OnlyInDisguise$Casting", "best", "[I", true)
  | _ => ("OnlyInDisguise$Casting", "people", "I", false)
def tyX1 : Nat → FieldType := fun k => match k with
  | 0 => .array .int
  | 1 => .array .int
  | _ => .int
theorem nmX1 : ∀ a, a < 3 → ∀ b, b < 3 → a ≠ b → (TX1 a).2.1 ≠ (TX1 b).2.1 := by decide +kernel
theorem tyX1_ok : ∀ k, k < 3 → parseFieldDescriptor (TX1 k).2.2.1 = some (tyX1 k) := by decide +kernel
def RX2 : String := "OnlyInDisguise$Draws"
def TX2 : u_T := fun k => match k with
  | _ => ("OnlyInDisguise$Draws", "z", "I", false)
def tyX2 : Nat → FieldType := fun k => match k with
  | _ => .int
theorem nmX2 : ∀ a, a < 1 → ∀ b, b < 1 → a ≠ b → (TX2 a).2.1 ≠ (TX2 b).2.1 := by decide +kernel
theorem tyX2_ok : ∀ k, k < 1 → parseFieldDescriptor (TX2 k).2.2.1 = some (tyX2 k) := by decide +kernel
def RX4 : String := "OnlyInDisguise$Shelves"
def TX4 : u_T := fun k => match k with
  | 0 => ("OnlyInDisguise$Shelves", "content", "[I", true)
  | 1 => ("OnlyInDisguise$Shelves", "kind", "[I", true)
  | 2 => ("OnlyInDisguise$Shelves", "figure", "[I", true)
  | 3 => ("OnlyInDisguise$Shelves", "sort", "[I", true)
  | 4 => ("OnlyInDisguise$Shelves", "length", "[I", true)
  | _ => ("OnlyInDisguise$Shelves", "elements", "[I", true)
def tyX4 : Nat → FieldType := fun k => match k with
  | 0 => .array .int
  | 1 => .array .int
  | 2 => .array .int
  | 3 => .array .int
  | 4 => .array .int
  | _ => .array .int
theorem nmX4 : ∀ a, a < 6 → ∀ b, b < 6 → a ≠ b → (TX4 a).2.1 ≠ (TX4 b).2.1 := by decide +kernel
theorem tyX4_ok : ∀ k, k < 6 → parseFieldDescriptor (TX4 k).2.2.1 = some (tyX4 k) := by decide +kernel
def RX6 : String := "OnlyInDisguise"
def TX6 : u_T := fun k => match k with
  | 0 => ("OnlyInDisguise", "now", "LOnlyInDisguise$Cabinet;", true)
  | 1 => ("OnlyInDisguise", "mind", "LOnlyInDisguise$Cabinet;", true)
  | 2 => ("OnlyInDisguise", "picture", "LOnlyInDisguise$Cabinet;", true)
  | 3 => ("OnlyInDisguise", "pictured", "Z", false)
  | 4 => ("OnlyInDisguise", "shelves", "LOnlyInDisguise$Shelves;", true)
  | 5 => ("OnlyInDisguise", "casting", "LOnlyInDisguise$Casting;", true)
  | 6 => ("OnlyInDisguise", "draws", "LOnlyInDisguise$Draws;", true)
  | 7 => ("OnlyInDisguise", "oneHas", "[I", true)
  | _ => ("OnlyInDisguise", "otherHas", "[I", true)
def tyX6 : Nat → FieldType := fun k => match k with
  | 0 => .object "OnlyInDisguise$Cabinet"
  | 1 => .object "OnlyInDisguise$Cabinet"
  | 2 => .object "OnlyInDisguise$Cabinet"
  | 3 => .boolean
  | 4 => .object "OnlyInDisguise$Shelves"
  | 5 => .object "OnlyInDisguise$Casting"
  | 6 => .object "OnlyInDisguise$Draws"
  | 7 => .array .int
  | _ => .array .int
theorem nmX6 : ∀ a, a < 9 → ∀ b, b < 9 → a ≠ b → (TX6 a).2.1 ≠ (TX6 b).2.1 := by decide +kernel
theorem tyX6_ok : ∀ k, k < 9 → parseFieldDescriptor (TX6 k).2.2.1 = some (tyX6 k) := by decide +kernel
def RX7 : String := "OnlyInDisguiseModel"
def TX7 : u_T := fun k => match k with
  | 0 => ("OnlyInDisguiseModel", "s", "[I", true)
  | 1 => ("OnlyInDisguiseModel", "m", "[I", true)
  | 2 => ("OnlyInDisguiseModel", "image", "[I", true)
  | 3 => ("OnlyInDisguiseModel", "was", "[I", true)
  | 4 => ("OnlyInDisguiseModel", "hasImage", "Z", false)
  | 5 => ("OnlyInDisguiseModel", "place", "I", false)
  | 6 => ("OnlyInDisguiseModel", "rowAt", "I", false)
  | 7 => ("OnlyInDisguiseModel", "rowEnd", "I", false)
  | 8 => ("OnlyInDisguiseModel", "numbers", "[I", true)
  | 9 => ("OnlyInDisguiseModel", "lasting", "[I", true)
  | 10 => ("OnlyInDisguiseModel", "most", "[I", true)
  | 11 => ("OnlyInDisguiseModel", "seed", "I", false)
  | 12 => ("OnlyInDisguiseModel", "kept", "[I", true)
  | 13 => ("OnlyInDisguiseModel", "keptKind", "[I", true)
  | 14 => ("OnlyInDisguiseModel", "keptFigure", "[I", true)
  | 15 => ("OnlyInDisguiseModel", "sort", "[I", true)
  | 16 => ("OnlyInDisguiseModel", "size", "[I", true)
  | 17 => ("OnlyInDisguiseModel", "element", "[I", true)
  | _ => ("OnlyInDisguiseModel", "thrown", "I", false)
def tyX7 : Nat → FieldType := fun k => match k with
  | 0 => .array .int
  | 1 => .array .int
  | 2 => .array .int
  | 3 => .array .int
  | 4 => .boolean
  | 5 => .int
  | 6 => .int
  | 7 => .int
  | 8 => .array .int
  | 9 => .array .int
  | 10 => .array .int
  | 11 => .int
  | 12 => .array .int
  | 13 => .array .int
  | 14 => .array .int
  | 15 => .array .int
  | 16 => .array .int
  | 17 => .array .int
  | _ => .int
theorem nmX7 : ∀ a, a < 19 → ∀ b, b < 19 → a ≠ b → (TX7 a).2.1 ≠ (TX7 b).2.1 := by decide +kernel
theorem tyX7_ok : ∀ k, k < 19 → parseFieldDescriptor (TX7 k).2.2.1 = some (tyX7 k) := by decide +kernel
/-! the words of the tables that stay while the machine runs -/
def aTbl : List Cond := lw_tbl.filter goodWord
theorem aTbl_good : GoodIn aTbl aTbl := fun _ h => ⟨h, good_of_word (List.mem_filter.mp h).2⟩
theorem in_aTbl {w : Cond} (i : Nat) (h : lw_tbl[i]? = some w) (g : goodWord w = true) : w ∈ aTbl := List.mem_filter.mpr ⟨List.mem_of_getElem? h, g⟩
theorem aTbl_sub : ∀ w ∈ aTbl, w ∈ lw_tbl := fun _ h => (List.mem_filter.mp h).1
theorem ilX0 : ∀ w ∈ u_ws RX0 TX0 11, w ∈ lw_tbl := by decide +kernel
theorem igX0 : (u_ws RX0 TX0 11).all goodWord = true := by decide +kernel
theorem iaX0 : ∀ w ∈ u_ws RX0 TX0 11, w ∈ aTbl := fun w h => List.mem_filter.mpr ⟨ilX0 w h, List.all_eq_true.mp igX0 w h⟩
theorem ilX1 : ∀ w ∈ u_ws RX1 TX1 3, w ∈ lw_tbl := by decide +kernel
theorem igX1 : (u_ws RX1 TX1 3).all goodWord = true := by decide +kernel
theorem iaX1 : ∀ w ∈ u_ws RX1 TX1 3, w ∈ aTbl := fun w h => List.mem_filter.mpr ⟨ilX1 w h, List.all_eq_true.mp igX1 w h⟩
theorem ilX2 : ∀ w ∈ u_ws RX2 TX2 1, w ∈ lw_tbl := by decide +kernel
theorem igX2 : (u_ws RX2 TX2 1).all goodWord = true := by decide +kernel
theorem iaX2 : ∀ w ∈ u_ws RX2 TX2 1, w ∈ aTbl := fun w h => List.mem_filter.mpr ⟨ilX2 w h, List.all_eq_true.mp igX2 w h⟩
theorem ilX4 : ∀ w ∈ u_ws RX4 TX4 6, w ∈ lw_tbl := by decide +kernel
theorem igX4 : (u_ws RX4 TX4 6).all goodWord = true := by decide +kernel
theorem iaX4 : ∀ w ∈ u_ws RX4 TX4 6, w ∈ aTbl := fun w h => List.mem_filter.mpr ⟨ilX4 w h, List.all_eq_true.mp igX4 w h⟩
theorem ilX6 : ∀ w ∈ u_ws RX6 TX6 9, w ∈ lw_tbl := by decide +kernel
theorem igX6 : (u_ws RX6 TX6 9).all goodWord = true := by decide +kernel
theorem iaX6 : ∀ w ∈ u_ws RX6 TX6 9, w ∈ aTbl := fun w h => List.mem_filter.mpr ⟨ilX6 w h, List.all_eq_true.mp igX6 w h⟩
theorem ilX7 : ∀ w ∈ u_ws RX7 TX7 19, w ∈ lw_tbl := by decide +kernel
theorem igX7 : (u_ws RX7 TX7 19).all goodWord = true := by decide +kernel
theorem iaX7 : ∀ w ∈ u_ws RX7 TX7 19, w ∈ aTbl := fun w h => List.mem_filter.mpr ⟨ilX7 w h, List.all_eq_true.mp igX7 w h⟩
abbrev aCl : List vw_C := [(RX0, TX0, 11), (RX1, TX1, 3), (RX2, TX2, 1), (RX4, TX4, 6), (RX6, TX6, 9), (RX7, TX7, 19)]
end
section
/-! ===== numbers: ints of the machine as mathematical ones ===== -/
theorem aIn_toInt {x : Int} (h : -2147483648 ≤ x ∧ x < 2147483648) : (Int32.ofInt x).toInt = x := Int32.toInt_ofInt_of_le (by omega) (by omega)
theorem aIn_toInt64 {x : Int} (h : -9223372036854775808 ≤ x ∧ x < 9223372036854775808) : (Int64.ofInt x).toInt = x := Int64.toInt_ofInt_of_le (by omega) (by omega)
theorem aIn_lt {x y : Int} (hx : -2147483648 ≤ x ∧ x < 2147483648) (hy : -2147483648 ≤ y ∧ y < 2147483648) : Int32.ofInt x < Int32.ofInt y ↔ x < y := by
  rw [Int32.lt_iff_toInt_lt, aIn_toInt hx, aIn_toInt hy]
theorem aIn_le {x y : Int} (hx : -2147483648 ≤ x ∧ x < 2147483648) (hy : -2147483648 ≤ y ∧ y < 2147483648) : Int32.ofInt x ≤ Int32.ofInt y ↔ x ≤ y := by
  rw [Int32.le_iff_toInt_le, aIn_toInt hx, aIn_toInt hy]
theorem aIn_eq {x y : Int} (hx : -2147483648 ≤ x ∧ x < 2147483648) (hy : -2147483648 ≤ y ∧ y < 2147483648) : Int32.ofInt x = Int32.ofInt y ↔ x = y := by
  rw [← Int32.toInt_inj, aIn_toInt hx, aIn_toInt hy]
theorem aIn_lt64 {x y : Int} (hx : -9223372036854775808 ≤ x ∧ x < 9223372036854775808) (hy : -9223372036854775808 ≤ y ∧ y < 9223372036854775808) : Int64.ofInt x < Int64.ofInt y ↔ x < y := by
  rw [Int64.lt_iff_toInt_lt, aIn_toInt64 hx, aIn_toInt64 hy]
theorem aIn_eq64 {x y : Int} (hx : -9223372036854775808 ≤ x ∧ x < 9223372036854775808) (hy : -9223372036854775808 ≤ y ∧ y < 9223372036854775808) : Int64.ofInt x = Int64.ofInt y ↔ x = y := by
  rw [← Int64.toInt_inj, aIn_toInt64 hx, aIn_toInt64 hy]
theorem aIn_nat {x : Int} (h : 0 ≤ x ∧ x < 2147483648) : (Int32.ofInt x).toNatClampNeg = x.toNat := Int32.toNatClampNeg_ofInt_of_le (by omega) (by omega)
theorem aIn_vp {x : Int} {n : Nat} (hn : n < 2147483648) (h : 0 ≤ x ∧ x < (n : Int)) : vp_in (Int32.ofInt x) n := by
  rw [vp_in_iff, aIn_toInt (by omega)]
  exact h
theorem aIn_byte {n : Int} (h : -128 ≤ n ∧ n ≤ 127) : (Int8.ofInt n).toInt32 = Int32.ofInt n := Int8.toInt32_ofInt h.1 h.2
theorem aIn_short {n : Int} (h : -32768 ≤ n ∧ n ≤ 32767) : (Int16.ofInt n).toInt32 = Int32.ofInt n := Int16.toInt32_ofInt h.1 h.2
theorem aIn_i2b (x : Int) : (Int32.ofInt x).toInt8.toInt32 = Int32.ofInt (x.bmod 256) := by
  rw [Int32.toInt8_ofInt, ← Int32.toInt_inj]
  have h1 : (Int8.ofInt x).toInt = x.bmod 256 := by rw [Int8.toInt_ofInt]
  have h2 : (Int8.ofInt x).toInt32 = Int32.ofInt (x.bmod 256) := by rw [← h1]; exact (Int32.ofInt_int8ToInt _).symm
  rw [h2]
theorem aIn_i2s (x : Int) : (Int32.ofInt x).toInt16.toInt32 = Int32.ofInt (x.bmod 65536) := by
  rw [Int32.toInt16_ofInt, ← Int32.toInt_inj]
  have h1 : (Int16.ofInt x).toInt = x.bmod 65536 := by rw [Int16.toInt_ofInt]
  have h2 : (Int16.ofInt x).toInt32 = Int32.ofInt (x.bmod 65536) := by rw [← h1]; exact (Int32.ofInt_int16ToInt _).symm
  rw [h2]
theorem aIn_i2l {x : Int} (h : -2147483648 ≤ x ∧ x < 2147483648) : (Int32.ofInt x).toInt64 = Int64.ofInt x := by
  rw [← Int64.ofInt_int32ToInt, aIn_toInt h]
theorem aIn_div {x y : Int} (hx : -2147483648 ≤ x ∧ x < 2147483648) (hy : 0 < y ∧ y < 2147483648) : Int32.ofInt (x.tdiv y) = Int32.ofInt x / Int32.ofInt y :=
  Int32.ofInt_tdiv hx.1 (by show x ≤ 2147483647; omega) (by show -2147483648 ≤ y; omega) (by show y ≤ 2147483647; omega)
theorem aIn_div64 {x y : Int} (hx : -9223372036854775808 ≤ x ∧ x < 9223372036854775808) (hy : 0 < y ∧ y < 9223372036854775808) : Int64.ofInt (x.tdiv y) = Int64.ofInt x / Int64.ofInt y :=
  Int64.ofInt_tdiv hx.1 (by show x ≤ 9223372036854775807; omega) (by show -9223372036854775808 ≤ y; omega) (by show y ≤ 9223372036854775807; omega)
theorem aIn_rem {x y : Int} (hx : -2147483648 ≤ x ∧ x < 2147483648) (hy : 0 < y ∧ y < 2147483648) : Int32.ofInt (x.tmod y) = Int32.ofInt x - Int32.ofInt x / Int32.ofInt y * Int32.ofInt y := by
  rw [← aIn_div hx hy, ← Int32.ofInt_mul, ← Int32.ofInt_sub]
  congr 1
  have := Int.mul_tdiv_add_tmod x y
  rw [Int.mul_comm] at this
  omega
theorem aIn_rem64 {x y : Int} (hx : -9223372036854775808 ≤ x ∧ x < 9223372036854775808) (hy : 0 < y ∧ y < 9223372036854775808) : Int64.ofInt (x.tmod y) = Int64.ofInt x - Int64.ofInt x / Int64.ofInt y * Int64.ofInt y := by
  rw [← aIn_div64 hx hy, ← Int64.ofInt_mul, ← Int64.ofInt_sub]
  congr 1
  have := Int.mul_tdiv_add_tmod x y
  rw [Int.mul_comm] at this
  omega
theorem aIn_ne0 {y : Int} (hy : 0 < y ∧ y < 2147483648) : ¬ Int32.ofInt y = 0 := fun h => by
  have h2 : Int32.ofInt y = Int32.ofInt 0 := h
  rw [aIn_eq (by omega) (by omega)] at h2
  omega
theorem aIn_ne064 {y : Int} (hy : 0 < y ∧ y < 9223372036854775808) : ¬ Int64.ofInt y = 0 := fun h => by
  have h2 : Int64.ofInt y = Int64.ofInt 0 := h
  rw [aIn_eq64 (by omega) (by omega)] at h2
  omega
def aAnd (x y : Int) : Int := (Int32.ofInt x &&& Int32.ofInt y).toInt
def aOr (x y : Int) : Int := (Int32.ofInt x ||| Int32.ofInt y).toInt
def aXor (x y : Int) : Int := (Int32.ofInt x ^^^ Int32.ofInt y).toInt
theorem aAnd_eq (x y : Int) : Int32.ofInt (aAnd x y) = Int32.ofInt x &&& Int32.ofInt y := Int32.ofInt_toInt _
theorem aOr_eq (x y : Int) : Int32.ofInt (aOr x y) = Int32.ofInt x ||| Int32.ofInt y := Int32.ofInt_toInt _
theorem aXor_eq (x y : Int) : Int32.ofInt (aXor x y) = Int32.ofInt x ^^^ Int32.ofInt y := Int32.ofInt_toInt _
theorem aSh_small : ∀ n : Nat, n < 32 → (Int32.ofNat n &&& 31) = Int32.ofNat n ∧ ((Int32.ofNat n).toBitVec.smod 32).toNat = n ∧ (((Int32.ofNat n).toUInt32 &&& Int32.toUInt32 31).toBitVec % 32).toNat = n ∧ (Int32.ofNat (2 ^ n)).toBitVec.toNat = 2 ^ n := by decide +kernel
theorem aIn_shl {x y : Int} (hy : 0 ≤ y ∧ y < 32) : Int32.ofInt (x * 2 ^ y.toNat) = Int32.ofInt x <<< (Int32.ofInt y &&& 31) := by
  obtain ⟨n, rfl⟩ := Int.eq_ofNat_of_zero_le hy.1
  have hn : n < 32 := by omega
  obtain ⟨h1, h2, -, h4⟩ := aSh_small n hn
  have e : Int32.ofInt (n : Int) = Int32.ofNat n := Int32.ofInt_eq_ofNat
  rw [e, h1, Int32.ofInt_mul, Int.toNat_natCast]
  have e2 : Int32.ofInt ((2 : Int) ^ n) = Int32.ofNat (2 ^ n) := by
    rw [← Int32.ofInt_eq_ofNat]; simp
  rw [e2]
  apply Int32.toBitVec.inj
  apply BitVec.eq_of_toNat_eq
  rw [pk_shl _ _ n h2, Int32.toBitVec_mul, BitVec.toNat_mul, h4]
theorem aIn_shr {x y : Int} (hy : 0 ≤ y ∧ y < 32) (hx : -2147483648 ≤ x ∧ x < 2147483648) : Int32.ofInt (x / 2 ^ y.toNat) = Int32.ofInt x >>> (Int32.ofInt y &&& 31) := by
  obtain ⟨n, rfl⟩ := Int.eq_ofNat_of_zero_le hy.1
  have hn : n < 32 := by omega
  obtain ⟨h1, h2, -, -⟩ := aSh_small n hn
  have e : Int32.ofInt (n : Int) = Int32.ofNat n := Int32.ofInt_eq_ofNat
  rw [e, h1, ← Int32.toInt_inj, pk_shr _ _ n h2, aIn_toInt hx, Int.shiftRight_eq_div_pow, Int.toNat_natCast]
  have hp : (0 : Int) < 2 ^ n := Int.pow_pos (by decide)
  have hq : (1 : Int) ≤ 2 ^ n := hp
  rw [aIn_toInt]
  · simp
  · constructor
    · rcases Int.le_total 0 x with h | h
      · have := Int.ediv_nonneg h (Int.le_of_lt hp); omega
      · have h3 : x ≤ x / 2 ^ n := by
          rw [Int.le_ediv_iff_mul_le hp]
          have : (-x) * 1 ≤ (-x) * 2 ^ n := Int.mul_le_mul_of_nonneg_left hq (by omega)
          rw [Int.neg_mul, Int.neg_mul] at this
          omega
        omega
    · have h3 : x / 2 ^ n ≤ 2147483647 := by
        rw [Int.ediv_le_iff_le_mul hp]
        have : (2147483647 : Int) * 1 ≤ 2147483647 * 2 ^ n := Int.mul_le_mul_of_nonneg_left hq (by omega)
        omega
      omega
theorem aIn_ushr {x y : Int} (hy : 0 ≤ y ∧ y < 32) (hx : 0 ≤ x ∧ x < 2147483648) : ((Int32.ofInt x).toUInt32 >>> ((Int32.ofInt y).toUInt32 &&& Int32.toUInt32 31)).toInt32 = Int32.ofInt (x / 2 ^ y.toNat) := by
  obtain ⟨n, rfl⟩ := Int.eq_ofNat_of_zero_le hy.1
  obtain ⟨k, rfl⟩ := Int.eq_ofNat_of_zero_le hx.1
  have hn : n < 32 := by omega
  obtain ⟨-, -, h3, -⟩ := aSh_small n hn
  have e : Int32.ofInt (n : Int) = Int32.ofNat n := Int32.ofInt_eq_ofNat
  have e1 : Int32.ofInt (k : Int) = nI k := Int32.ofInt_eq_ofNat
  rw [e, e1, pk_ushrN (by omega) _ n h3, Int.toNat_natCast]
  have e2 : ((k : Int) / 2 ^ n) = ((k / 2 ^ n : Nat) : Int) := by simp
  rw [e2]
  exact Int32.ofInt_eq_ofNat.symm
theorem aIn_lcmp {x y : Int} (hx : -9223372036854775808 ≤ x ∧ x < 9223372036854775808) (hy : -9223372036854775808 ≤ y ∧ y < 9223372036854775808) : lg_cmp (Int64.ofInt x) (Int64.ofInt y) = Int32.ofInt (if y < x then 1 else if x = y then 0 else -1) := by
  unfold lg_cmp
  have h1 : (Int64.ofInt x > Int64.ofInt y) ↔ y < x := aIn_lt64 hy hx
  have h2 := aIn_eq64 hx hy
  by_cases c1 : y < x
  · rw [if_pos (h1.mpr c1), if_pos c1]; rfl
  · rw [if_neg (fun h => c1 (h1.mp h)), if_neg c1]
    by_cases c2 : x = y
    · rw [if_pos (h2.mpr c2), if_pos c2]; rfl
    · rw [if_neg (fun h => c2 (h2.mp h)), if_neg c2]; rfl
end
section
/-! ===== the abstract machine: values, stores, places ===== -/
abbrev aV : Type := Int ⊕ (Int ⊕ (Nat × Nat))
abbrev aI (x : Int) : aV := Sum.inl x
abbrev aL (x : Int) : aV := Sum.inr (Sum.inl x)
abbrev aR (t c : Nat) : aV := Sum.inr (Sum.inr (t, c))
abbrev aS : Type := Nat → Nat → Int → Int
abbrev aLs : Type := List (Option aV)
def aUp (σ : aS) (t c : Nat) (i x : Int) : aS := fun t' c' i' => if t' = t ∧ c' = c ∧ i' = i then x else σ t' c' i'
/-- how many of a kind of place there are -/
def aCnt (t : Nat) : Nat := match t with
  | 1 => 3 | 2 => 3 | 3 => 3 | 4 => 3 | 5 => 3 | 6 => 3 | 7 => 3 | 8 => 3
  | 20 => 2 | 22 => 4 | _ => 1
/-- how long the rows of a kind are -/
def aLen (t : Nat) : Nat := match t with
  | 2 => 8 | 3 => 8 | 4 => 8 | 5 => 8 | 6 => 8 | 7 => 5 | 8 => 5
  | 10 => 8 | 11 => 8 | 12 => 8 | 13 => 8 | 14 => 8 | 15 => 800
  | 17 => 40 | 18 => 1536 | 20 => 4
  | 22 => 45 | 23 => 3 | 24 => 40 | 25 => 1536 | 26 => 8 | 27 => 8 | 28 => 8 | 29 => 8 | 30 => 8 | 31 => 800
  | _ => 0
/-- the class (its number in aCl) of the objects of a kind; none: rows -/
def aCls (t : Nat) : Option Nat := match t with
  | 0 => some 4 | 1 => some 0 | 9 => some 3 | 16 => some 1 | 19 => some 2 | 21 => some 5 | _ => none
/-- the fields of the objects of a kind: a number, or a place (kind; its instance, or the same one) -/
def aFld (t : Nat) : List (Option (Nat × Option Nat)) := match t with
  | 0 => [some (1, some 0), some (1, some 1), some (1, some 2), none, some (9, some 0), some (16, some 0), some (19, some 0), some (20, some 0), some (20, some 1)]
  | 1 => [none, none, none, none, some (2, none), some (3, none), some (4, none), some (5, none), some (6, none), some (7, none), some (8, none)]
  | 9 => [some (10, none), some (11, none), some (12, none), some (13, none), some (14, none), some (15, none)]
  | 16 => [some (17, none), some (18, none), none]
  | 19 => [none]
  | 21 => [some (22, some 0), some (22, some 1), some (22, some 2), some (22, some 3), none, none, none, none, some (23, none), some (24, none), some (25, none), none, some (26, none), some (27, none), some (28, none), some (29, none), some (30, none), some (31, none), none]
  | _ => []
/-- fields that hold a boolean -/
def aBoo (t k : Nat) : Bool := (t == 0 && k == 3) || (t == 21 && k == 4)
def aPl : List (Nat × Nat) := (List.range 32).flatMap fun t => (List.range (aCnt t)).map fun c => (t, c)
theorem aPl_nd : aPl.Nodup := by decide +kernel
theorem aPl_all : ∀ t : Nat, t < 32 → ∀ c : Nat, c < aCnt t → (t, c) ∈ aPl := by decide +kernel
theorem aPl_in : ∀ q ∈ aPl, q.1 < 32 ∧ q.2 < aCnt q.1 := by decide +kernel
theorem aLen_ok : ∀ t : Nat, aLen t < 2147483648 := by
  intro t
  unfold aLen
  split <;> decide
theorem aPl_at {t c : Nat} (ht : t < 32) (hc : c < aCnt t) : ∃ k : Nat, aPl[k]? = some (t, c) := List.getElem?_of_mem (aPl_all t ht c hc)
section Conc
variable (ad : Nat → Nat → Nat) (cA : ClassId)
def cV (v : aV) : Value := match v with
  | .inl x => .int (Int32.ofInt x)
  | .inr (.inl y) => .long (Int64.ofInt y)
  | .inr (.inr (t, c)) => .ref (ad t c)
def aFv (σ : aS) (t c j : Nat) (f : Option (Nat × Option Nat)) : Value := match f with
  | none => .int (Int32.ofInt (σ t c j))
  | some (t', c') => .ref (ad t' (c'.getD c))
def aCell (σ : aS) (t c : Nat) : va_E := match aCls t with
  | none => .inl (cA, aLen t, .inl (fun j => Int32.ofInt (σ t c j)))
  | some ci => .inr (ci, (aFld t).mapIdx (fun j f => aFv ad σ t c j f))
def aWo (σ : aS) : va_W := aPl.map (fun q => (ad q.1 q.2, aCell ad cA σ q.1 q.2))
def aAs : Nat → aLs → List (Nat × Value)
  | _, [] => []
  | i, none :: t => aAs (i + 1) t
  | i, some v :: t => (i, cV ad v) :: aAs (i + 1) t
def aLoc (n : Nat) (L : aLs) (ls : Array Slot) : Prop := L.length = n ∧ lv_has ls n (aAs ad 0 L)
def aA : Nat → Prop := fun q => ∃ t c : Nat, t < 32 ∧ c < aCnt t ∧ q = ad t c
end Conc
theorem aWo_at {ad : Nat → Nat → Nat} {cA : ClassId} {σ : aS} {k t c : Nat} (h : aPl[k]? = some (t, c)) : (aWo ad cA σ)[k]? = some (ad t c, aCell ad cA σ t c) := by
  unfold aWo
  rw [List.getElem?_map, h]
  rfl
theorem aWo_set {ad : Nat → Nat → Nat} {cA : ClassId} {σ σ' : aS} {k t c : Nat} {e : va_E} (h : aPl[k]? = some (t, c)) (he : aCell ad cA σ' t c = e) (ho : ∀ t' c' : Nat, ¬ (t' = t ∧ c' = c) → aCell ad cA σ' t' c' = aCell ad cA σ t' c') : (aWo ad cA σ).set k (ad t c, e) = aWo ad cA σ' := by
  apply List.ext_getElem?
  intro j
  have hk : k < aPl.length := (List.getElem?_eq_some_iff.mp h).1
  by_cases hj : k = j
  · subst hj
    rw [List.getElem?_set_self (by unfold aWo; rw [List.length_map]; exact hk), aWo_at h, he]
  · rw [List.getElem?_set_ne hj]
    unfold aWo
    rw [List.getElem?_map, List.getElem?_map]
    cases hq : aPl[j]? with
    | none => rfl
    | some q =>
      obtain ⟨t', c'⟩ := q
      have hne : ¬ (t' = t ∧ c' = c) := fun hh => by
        obtain ⟨rfl, rfl⟩ := hh
        have hj' : j < aPl.length := (List.getElem?_eq_some_iff.mp hq).1
        exact hj ((List.getElem?_inj hk aPl_nd).mp (h.trans hq.symm))
      show some (ad t' c', aCell ad cA σ t' c') = some (ad t' c', aCell ad cA σ' t' c')
      rw [ho t' c' hne]
theorem aUp_off {σ : aS} {t c : Nat} {i x : Int} {t' c' : Nat} (h : ¬ (t' = t ∧ c' = c)) (j : Int) : aUp σ t c i x t' c' j = σ t' c' j := by
  unfold aUp
  rw [if_neg (fun hh => h ⟨hh.1, hh.2.1⟩)]
theorem aCell_off {ad : Nat → Nat → Nat} {cA : ClassId} {σ : aS} {t c : Nat} {i x : Int} (t' c' : Nat) (h : ¬ (t' = t ∧ c' = c)) : aCell ad cA (aUp σ t c i x) t' c' = aCell ad cA σ t' c' := by
  unfold aCell
  split
  · congr 4
    funext j
    rw [aUp_off h]
  · congr 3
    funext j f
    unfold aFv
    split
    · rw [aUp_off h]
    · rfl
theorem aCell_arr {ad : Nat → Nat → Nat} {cA : ClassId} {σ : aS} {t c : Nat} {i x : Int} (hc : aCls t = none) (hi : 0 ≤ i ∧ i < 2147483648) : aCell ad cA (aUp σ t c i x) t c = .inl (cA, aLen t, .inl (upd (fun j => Int32.ofInt (σ t c j)) (Int32.ofInt i).toNatClampNeg (Int32.ofInt x))) := by
  unfold aCell
  rw [hc]
  show (Sum.inl (cA, aLen t, Sum.inl (fun j : Nat => Int32.ofInt (aUp σ t c i x t c j))) : va_E) = _
  congr 4
  funext j
  rw [aIn_nat hi]
  unfold upd aUp
  by_cases h : j = i.toNat
  · rw [if_pos h, if_pos ⟨rfl, rfl, by omega⟩]
  · rw [if_neg h, if_neg (fun hh => h (by omega))]
theorem aCell_fld {ad : Nat → Nat → Nat} {cA : ClassId} {σ : aS} {t c ci k : Nat} {x : Int} (hc : aCls t = some ci) (hk : (aFld t)[k]? = some none) : aCell ad cA (aUp σ t c k x) t c = .inr (ci, ((aFld t).mapIdx (fun j f => aFv ad σ t c j f)).set k (.int (Int32.ofInt x))) := by
  unfold aCell
  rw [hc]
  show (Sum.inr (ci, (aFld t).mapIdx (fun j f => aFv ad (aUp σ t c k x) t c j f)) : va_E) = _
  congr 2
  apply List.ext_getElem?
  intro j
  have hl : k < (aFld t).length := (List.getElem?_eq_some_iff.mp hk).1
  by_cases h : k = j
  · subst h
    rw [List.getElem?_set_self (by rw [List.length_mapIdx]; exact hl), List.getElem?_mapIdx, hk]
    show some (Value.int (Int32.ofInt (aUp σ t c k x t c k))) = _
    unfold aUp
    rw [if_pos ⟨rfl, rfl, rfl⟩]
  · rw [List.getElem?_set_ne h, List.getElem?_mapIdx, List.getElem?_mapIdx]
    congr 1
    funext f
    unfold aFv
    split
    · unfold aUp
      rw [if_neg (fun hh => h (by omega))]
    · rfl
/-! ===== locals ===== -/
theorem aAs_mem {ad : Nat → Nat → Nat} {q : Nat × Value} : ∀ {L : aLs} {i : Nat}, q ∈ aAs ad i L ↔ ∃ (j : Nat) (v : aV), L[j]? = some (some v) ∧ q = (i + j, cV ad v) := by
  intro L
  induction L with
  | nil => intro i; simp [aAs]
  | cons a t ih =>
    intro i
    constructor
    · intro h
      cases a with
      | none =>
        obtain ⟨j, v, h1, h2⟩ := ih.mp h
        exact ⟨j + 1, v, by simpa using h1, by rw [h2]; congr 1; omega⟩
      | some w =>
        rcases List.mem_cons.mp h with h | h
        · exact ⟨0, w, rfl, h⟩
        · obtain ⟨j, v, h1, h2⟩ := ih.mp h
          exact ⟨j + 1, v, by simpa using h1, by rw [h2]; congr 1; omega⟩
    · rintro ⟨j, v, h1, h2⟩
      cases j with
      | zero =>
        have : a = some v := by simpa using h1
        subst this
        exact List.mem_cons.mpr (Or.inl h2)
      | succ j =>
        have h3 : q ∈ aAs ad (i + 1) t := ih.mpr ⟨j, v, by simpa using h1, by rw [h2]; congr 1; omega⟩
        cases a with
        | none => exact h3
        | some w => exact List.mem_cons.mpr (Or.inr h3)
theorem lv_mono {ls : Array Slot} {n : Nat} {l l' : List (Nat × Value)} (h : lv_has ls n l) (hs : ∀ q ∈ l', q ∈ l) : lv_has ls n l' := ⟨h.1, h.2.1, fun q hq => h.2.2 q (hs q hq)⟩
theorem aLoc_at {ad : Nat → Nat → Nat} {n i : Nat} {L : aLs} {ls : Array Slot} {v : aV} (h : aLoc ad n L ls) (hi : L[i]? = some (some v)) : ls[i]? = some (.val (cV ad v)) :=
  h.2.2.2 (i, cV ad v) (aAs_mem.mpr ⟨i, v, hi, by rw [Nat.zero_add]⟩)
/-- locals that are forgotten -/
def aLe (L' L : aLs) : Prop := L'.length = L.length ∧ ∀ (j : Nat) (v : aV), L'[j]? = some (some v) → L[j]? = some (some v)
theorem aLoc_le {ad : Nat → Nat → Nat} {n : Nat} {L L' : aLs} {ls : Array Slot} (h : aLoc ad n L ls) (hl : aLe L' L) : aLoc ad n L' ls :=
  ⟨hl.1.trans h.1, lv_mono h.2 (fun q hq => by
    obtain ⟨j, v, h1, h2⟩ := aAs_mem.mp hq
    exact aAs_mem.mpr ⟨j, v, hl.2 j v h1, h2⟩)⟩
def aDrop : aLs → List Nat → aLs
  | L, [] => L
  | L, k :: ks => aDrop (L.set k none) ks
theorem aDrop_le (ks : List Nat) : ∀ L : aLs, aLe (aDrop L ks) L := by
  induction ks with
  | nil => intro L; exact ⟨rfl, fun _ _ h => h⟩
  | cons k ks ih =>
    intro L
    obtain ⟨h1, h2⟩ := ih (L.set k none)
    refine ⟨h1.trans (List.length_set ..), fun j v h => ?_⟩
    have h3 := h2 j v h
    by_cases hj : k = j
    · subst hj
      rw [List.getElem?_set] at h3
      simp at h3
    · rwa [List.getElem?_set_ne hj] at h3
/-- is it a long? -/
def aLg (o : Option aV) : Bool := match o with
  | some (.inr (.inl _)) => true
  | _ => false
/-- a store of a value that isn't long: what it breaks is forgotten -/
def aPut (L : aLs) (i : Nat) (v : aV) : aLs := match i with
  | 0 => L.set 0 (some v)
  | j + 1 => if aLg (L[j]?.join) then (L.set j none).set (j + 1) (some v) else L.set (j + 1) (some v)
def aPut2 (L : aLs) (i : Nat) (v : aV) : aLs := (aPut L i v).set (i + 1) none
theorem aPut_len (L : aLs) (i : Nat) (v : aV) : (aPut L i v).length = L.length := by
  unfold aPut
  split
  · simp
  · split <;> simp
theorem aPut_get {L : aLs} {i j : Nat} {v w : aV} (h : (aPut L i v)[j]? = some (some w)) : (j = i ∧ w = v) ∨ (j ≠ i ∧ L[j]? = some (some w) ∧ ¬ (j + 1 = i ∧ aLg (some w) = true)) := by
  unfold aPut at h
  split at h
  · by_cases hj : 0 = j
    · subst hj
      rw [List.getElem?_set] at h
      simp at h
      exact Or.inl ⟨rfl, h.2.symm⟩
    · rw [List.getElem?_set_ne hj] at h
      exact Or.inr ⟨fun q => hj q.symm, h, fun q => by omega⟩
  · rename_i i'
    split at h
    · rename_i hlg
      by_cases hj : i' + 1 = j
      · subst hj
        rw [List.getElem?_set] at h
        simp at h
        exact Or.inl ⟨rfl, h.2.symm⟩
      · rw [List.getElem?_set_ne hj] at h
        by_cases hj2 : i' = j
        · subst hj2
          rw [List.getElem?_set] at h
          simp at h
        · rw [List.getElem?_set_ne hj2] at h
          exact Or.inr ⟨fun q => hj q.symm, h, fun q => by omega⟩
    · rename_i hlg
      by_cases hj : i' + 1 = j
      · subst hj
        rw [List.getElem?_set] at h
        simp at h
        exact Or.inl ⟨rfl, h.2.symm⟩
      · rw [List.getElem?_set_ne hj] at h
        refine Or.inr ⟨fun q => hj q.symm, h, fun q => ?_⟩
        have : j = i' := by omega
        subst this
        rw [h] at hlg
        exact hlg q.2
theorem aLg_cat {ad : Nat → Nat → Nat} {w : aV} (h : (cV ad w).category = 2) : aLg (some w) = true := by
  rcases w with x | y | ⟨t, c⟩
  · exact absurd (show (1 : Nat) = 2 from h) (by decide)
  · rfl
  · exact absurd (show (1 : Nat) = 2 from h) (by decide)
theorem aPut_has {ad : Nat → Nat → Nat} {n i : Nat} {L : aLs} {ls' : Array Slot} {v : aV} (hl : L.length = n)
    (h : lv_has ls' n ((i, cV ad v) :: (aAs ad 0 L).filter (fun q => !(q.1 == i) && !(q.1 + 1 == i && q.2.category == 2)))) : aLoc ad n (aPut L i v) ls' := by
  refine ⟨(aPut_len L i v).trans hl, lv_mono h (fun q hq => ?_)⟩
  obtain ⟨j, w, h1, h2⟩ := aAs_mem.mp hq
  rw [Nat.zero_add] at h2
  rcases aPut_get h1 with ⟨rfl, rfl⟩ | ⟨g1, g2, g3⟩
  · exact List.mem_cons.mpr (Or.inl h2)
  · refine List.mem_cons.mpr (Or.inr (List.mem_filter.mpr ⟨aAs_mem.mpr ⟨j, w, g2, by rw [Nat.zero_add]; exact h2⟩, ?_⟩))
    subst h2
    have e1 : (j == i) = false := by simpa using g1
    have e2 : (j + 1 == i && (cV ad w).category == 2) = false := by
      by_cases c1 : j + 1 = i
      · by_cases c2 : (cV ad w).category = 2
        · exact absurd ⟨c1, aLg_cat c2⟩ g3
        · simp [c2]
      · simp [c1]
    simp only [e1, e2]
    rfl
theorem aPut2_has {ad : Nat → Nat → Nat} {n i : Nat} {L : aLs} {ls' : Array Slot} {v : aV} (hl : L.length = n)
    (h : lv_has ls' n ((i, cV ad v) :: (aAs ad 0 L).filter (fun q => !(q.1 == i) && (!(q.1 == i + 1) && !(q.1 + 1 == i && q.2.category == 2))))) : aLoc ad n (aPut2 L i v) ls' := by
  refine ⟨by unfold aPut2; rw [List.length_set]; exact (aPut_len L i v).trans hl, lv_mono h (fun q hq => ?_)⟩
  obtain ⟨j, w, h1, h2⟩ := aAs_mem.mp hq
  rw [Nat.zero_add] at h2
  unfold aPut2 at h1
  by_cases hj : i + 1 = j
  · subst hj
    rw [List.getElem?_set] at h1
    simp at h1
  · rw [List.getElem?_set_ne hj] at h1
    rcases aPut_get h1 with ⟨rfl, rfl⟩ | ⟨g1, g2, g3⟩
    · exact List.mem_cons.mpr (Or.inl h2)
    · refine List.mem_cons.mpr (Or.inr (List.mem_filter.mpr ⟨aAs_mem.mpr ⟨j, w, g2, by rw [Nat.zero_add]; exact h2⟩, ?_⟩))
      subst h2
      have e1 : (j == i) = false := by simpa using g1
      have e3 : (j == i + 1) = false := by simpa using fun q : j = i + 1 => hj q.symm
      have e2 : (j + 1 == i && (cV ad w).category == 2) = false := by
        by_cases c1 : j + 1 = i
        · by_cases c2 : (cV ad w).category = 2
          · exact absurd ⟨c1, aLg_cat c2⟩ g3
          · simp [c2]
        · simp [c1]
      simp only [e1, e2, e3]
      rfl
end
section
/-! ===== the abstract machine: steps ===== -/
/-- what a class's constant pool says: fields (class, place), ints, longs -/
abbrev aK : Type := List (Nat × Nat × Nat) × List (Nat × Int) × List (Nat × Int)
def aLk {α : Type} : List (Nat × α) → Nat → Option α
  | [], _ => none
  | q :: t, i => if q.1 = i then some q.2 else aLk t i
def aLn (ins : Instr) : Nat := match ins with
  | .bipush _ => 2 | .sipush _ => 3 | .ldc _ => 2 | .ldc_w _ => 3 | .ldc2_w _ => 3
  | .iload _ => 2 | .lload _ => 2 | .aload _ => 2 | .istore _ => 2 | .lstore _ => 2 | .astore _ => 2
  | .iinc _ _ => 3 | .getfield _ => 3 | .putfield _ => 3 | .goto _ => 3 | .ifCond _ _ => 3 | .if_icmp _ _ => 3
  | .invokevirtual _ => 3 | .invokestatic _ => 3 | _ => 1
abbrev aO : Type := Option (List Prop × Nat × aLs × List aV × aS)
def aLdI (L : aLs) (i pc : Nat) (st : List aV) (σ : aS) : aO := match L[i]? with
  | some (some (.inl x)) => some ([], pc, L, aI x :: st, σ)
  | _ => none
def aLdL (L : aLs) (i pc : Nat) (st : List aV) (σ : aS) : aO := match L[i]? with
  | some (some (.inr (.inl x))) => some ([], pc, L, aL x :: st, σ)
  | _ => none
def aLdR (L : aLs) (i pc : Nat) (st : List aV) (σ : aS) : aO := match L[i]? with
  | some (some (.inr (.inr q))) => some ([], pc, L, aR q.1 q.2 :: st, σ)
  | _ => none
def aStI (L : aLs) (i pc : Nat) (st : List aV) (σ : aS) : aO := match st with
  | .inl x :: r => if i < L.length then some ([], pc, aPut L i (aI x), r, σ) else none
  | _ => none
def aStL (L : aLs) (i pc : Nat) (st : List aV) (σ : aS) : aO := match st with
  | .inr (.inl x) :: r => if i + 1 < L.length then some ([], pc, aPut2 L i (aL x), r, σ) else none
  | _ => none
def aBin (P : Int → Int → List Prop) (f : Int → Int → Int) (L : aLs) (pc : Nat) (st : List aV) (σ : aS) : aO := match st with
  | .inl y :: .inl x :: r => some (P x y, pc, L, aI (f x y) :: r, σ)
  | _ => none
def aUn (f : Int → Int) (L : aLs) (pc : Nat) (st : List aV) (σ : aS) : aO := match st with
  | .inl x :: r => some ([], pc, L, aI (f x) :: r, σ)
  | _ => none
def aBinL (P : Int → Int → List Prop) (f : Int → Int → Int) (L : aLs) (pc : Nat) (st : List aV) (σ : aS) : aO := match st with
  | .inr (.inl y) :: .inr (.inl x) :: r => some (P x y, pc, L, aL (f x y) :: r, σ)
  | _ => none
def aGet (K : aK) (idx : Nat) (L : aLs) (pc : Nat) (st : List aV) (σ : aS) : aO := match st with
  | .inr (.inr q) :: r => match aLk K.1 idx with
    | some (ci, k) => if aCls q.1 = some ci ∧ q.1 < 32 then match (aFld q.1)[k]? with
        | some none => some ([q.2 < aCnt q.1], pc, L, aI (σ q.1 q.2 k) :: r, σ)
        | some (some f) => some ([q.2 < aCnt q.1], pc, L, aR f.1 (f.2.getD q.2) :: r, σ)
        | none => none
      else none
    | none => none
  | _ => none
def aSet (K : aK) (idx : Nat) (L : aLs) (pc : Nat) (st : List aV) (σ : aS) : aO := match st with
  | .inl x :: .inr (.inr q) :: r => match aLk K.1 idx with
    | some (ci, k) => if aCls q.1 = some ci ∧ q.1 < 32 then match (aFld q.1)[k]? with
        | some none => if aBoo q.1 k then some ([q.2 < aCnt q.1, x = 0 ∨ x = 1], pc, L, r, aUp σ q.1 q.2 k x) else some ([q.2 < aCnt q.1], pc, L, r, aUp σ q.1 q.2 k x)
        | _ => none
      else none
    | none => none
  | _ => none
def aAld (L : aLs) (pc : Nat) (st : List aV) (σ : aS) : aO := match st with
  | .inl i :: .inr (.inr q) :: r => if aCls q.1 = none ∧ q.1 < 32 then some ([q.2 < aCnt q.1, 0 ≤ i ∧ i < (aLen q.1 : Int)], pc, L, aI (σ q.1 q.2 i) :: r, σ) else none
  | _ => none
def aAst (L : aLs) (pc : Nat) (st : List aV) (σ : aS) : aO := match st with
  | .inl x :: .inl i :: .inr (.inr q) :: r => if aCls q.1 = none ∧ q.1 < 32 then some ([q.2 < aCnt q.1, 0 ≤ i ∧ i < (aLen q.1 : Int)], pc, L, r, aUp σ q.1 q.2 i x) else none
  | _ => none
def aDup (L : aLs) (pc : Nat) (st : List aV) (σ : aS) : aO := match st with
  | v :: r => if aLg (some v) then none else some ([], pc, L, v :: v :: r, σ)
  | _ => none
def aDup2 (L : aLs) (pc : Nat) (st : List aV) (σ : aS) : aO := match st with
  | v :: w :: r => if aLg (some v) || aLg (some w) then none else some ([], pc, L, v :: w :: v :: w :: r, σ)
  | _ => none
def aInc (i : Nat) (n : Int) (L : aLs) (pc : Nat) (st : List aV) (σ : aS) : aO := match L[i]? with
  | some (some (.inl x)) => some ([], pc, aPut L i (aI (x + n)), st, σ)
  | _ => none
abbrev aIr (x : Int) : Prop := -2147483648 ≤ x ∧ x < 2147483648
abbrev aLr (x : Int) : Prop := -9223372036854775808 ≤ x ∧ x < 9223372036854775808
def aStep (K : aK) (ins : Instr) (pc : Nat) (L : aLs) (st : List aV) (σ : aS) : aO := match ins with
  | .iconst n => some ([], pc + 1, L, aI n :: st, σ)
  | .bipush n => if -128 ≤ n ∧ n ≤ 127 then some ([], pc + 2, L, aI n :: st, σ) else none
  | .sipush n => if -32768 ≤ n ∧ n ≤ 32767 then some ([], pc + 3, L, aI n :: st, σ) else none
  | .lconst n => some ([], pc + 1, L, aL ((n : Nat) : Int) :: st, σ)
  | .ldc i => match aLk K.2.1 i with
    | some v => some ([], pc + 2, L, aI v :: st, σ)
    | none => none
  | .ldc_w i => match aLk K.2.1 i with
    | some v => some ([], pc + 3, L, aI v :: st, σ)
    | none => none
  | .ldc2_w i => match aLk K.2.2 i with
    | some v => some ([], pc + 3, L, aL v :: st, σ)
    | none => none
  | .iload_n k => aLdI L k (pc + 1) st σ
  | .iload i => aLdI L i (pc + 2) st σ
  | .lload_n k => aLdL L k (pc + 1) st σ
  | .lload i => aLdL L i (pc + 2) st σ
  | .aload_n k => aLdR L k (pc + 1) st σ
  | .aload i => aLdR L i (pc + 2) st σ
  | .istore_n k => aStI L k (pc + 1) st σ
  | .istore i => aStI L i (pc + 2) st σ
  | .lstore_n k => aStL L k (pc + 1) st σ
  | .lstore i => aStL L i (pc + 2) st σ
  | .iinc i n => aInc i n L (pc + 3) st σ
  | .iadd => aBin (fun _ _ => []) (fun x y => x + y) L (pc + 1) st σ
  | .isub => aBin (fun _ _ => []) (fun x y => x - y) L (pc + 1) st σ
  | .imul => aBin (fun _ _ => []) (fun x y => x * y) L (pc + 1) st σ
  | .idiv => aBin (fun x y => [aIr x, 0 < y ∧ y < 2147483648]) (fun x y => x.tdiv y) L (pc + 1) st σ
  | .irem => aBin (fun x y => [aIr x, 0 < y ∧ y < 2147483648]) (fun x y => x.tmod y) L (pc + 1) st σ
  | .iand => aBin (fun _ _ => []) aAnd L (pc + 1) st σ
  | .ior => aBin (fun _ _ => []) aOr L (pc + 1) st σ
  | .ixor => aBin (fun _ _ => []) aXor L (pc + 1) st σ
  | .ishl => aBin (fun _ y => [0 ≤ y ∧ y < 32]) (fun x y => x * 2 ^ y.toNat) L (pc + 1) st σ
  | .ishr => aBin (fun x y => [0 ≤ y ∧ y < 32, aIr x]) (fun x y => x / 2 ^ y.toNat) L (pc + 1) st σ
  | .iushr => aBin (fun x y => [0 ≤ y ∧ y < 32, 0 ≤ x ∧ x < 2147483648]) (fun x y => x / 2 ^ y.toNat) L (pc + 1) st σ
  | .ineg => aUn (fun x => -x) L (pc + 1) st σ
  | .i2b => aUn (fun x => x.bmod 256) L (pc + 1) st σ
  | .i2s => aUn (fun x => x.bmod 65536) L (pc + 1) st σ
  | .i2l => match st with
    | .inl x :: r => some ([aIr x], pc + 1, L, aL x :: r, σ)
    | _ => none
  | .ladd => aBinL (fun _ _ => []) (fun x y => x + y) L (pc + 1) st σ
  | .lmul => aBinL (fun _ _ => []) (fun x y => x * y) L (pc + 1) st σ
  | .ldiv => aBinL (fun x y => [aLr x, 0 < y ∧ y < 9223372036854775808]) (fun x y => x.tdiv y) L (pc + 1) st σ
  | .lrem => aBinL (fun x y => [aLr x, 0 < y ∧ y < 9223372036854775808]) (fun x y => x.tmod y) L (pc + 1) st σ
  | .lcmp => match st with
    | .inr (.inl y) :: .inr (.inl x) :: r => some ([aLr x, aLr y], pc + 1, L, aI (if y < x then 1 else if x = y then 0 else -1) :: r, σ)
    | _ => none
  | .dup => aDup L (pc + 1) st σ
  | .dup2 => aDup2 L (pc + 1) st σ
  | .getfield i => aGet K i L (pc + 3) st σ
  | .putfield i => aSet K i L (pc + 3) st σ
  | .iaload => aAld L (pc + 1) st σ
  | .iastore => aAst L (pc + 1) st σ
  | .goto o => if 0 ≤ (pc : Int) + o then some ([], ((pc : Int) + o).toNat, L, st, σ) else none
  | _ => none
/-- a stretch of code without branches -/
def aRun (K : aK) : List (Nat × Instr) → Nat → aLs → List aV → aS → aO
  | [], pc, L, st, σ => some ([], pc, L, st, σ)
  | q :: qs, pc, L, st, σ => if q.1 = pc then match aStep K q.2 pc L st σ with
      | some (cs, pc', L', st', σ') => match aRun K qs pc' L' st' σ' with
        | some (cs', r) => some (cs ++ cs', r)
        | none => none
      | none => none
    else none
def aAll : List Prop → Prop
  | [] => True
  | [p] => p
  | p :: q :: r => p ∧ aAll (q :: r)
theorem aAll_mem : ∀ {l : List Prop}, aAll l → ∀ p ∈ l, p := by
  intro l
  induction l with
  | nil => intro _ p hp; cases hp
  | cons a t ih =>
    intro h p hp
    cases t with
    | nil =>
      rcases List.mem_cons.mp hp with rfl | hp
      · exact h
      · cases hp
    | cons b t =>
      rcases List.mem_cons.mp hp with rfl | hp
      · exact h.1
      · exact ih h.2 p hp
end
section
/-! ===== the abstract machine stands for the real one ===== -/
def aRm (d : Nat) : Room := { frames := d, cells := 0, slots := 0, locals := 38 * d }
/-- a method: its name, its code, its locals, what it returns, its class's constant pool -/
abbrev aMt : Type := MethodName × ByteArray × Nat × Option FieldType × aK
def aWs (M : aMt) : List Cond := Cond.code M.1 M.2.1 M.2.2.1 M.2.2.2.1 :: aTbl
/-- calls of a nest mate's private methods -/
def aNq : List (String × Nat × MethodName × String) := [("OnlyInDisguise$Shelves", 30, ⟨"OnlyInDisguise", "isShelf", "(I)Z"⟩, "OnlyInDisguise"), ("OnlyInDisguise$Text", 28, ⟨"OnlyInDisguise", "isMate", "(I)Z"⟩, "OnlyInDisguise"), ("OnlyInDisguise$Text", 62, ⟨"OnlyInDisguise", "isOffice", "(I)Z"⟩, "OnlyInDisguise"), ("OnlyInDisguise$Cabinet", 46, ⟨"OnlyInDisguise", "isOffice", "(I)Z"⟩, "OnlyInDisguise")]
def aNe (U : State) : Prop := ∀ q ∈ aNq, va_Nw (.methodLinkNest q.1 q.2.1 q.2.2.1 q.2.2.2) U
def aQ (ad : Nat → Nat → Nat) (cA : ClassId) (D : va_G) (Q : Option aV → aS → Prop) : Array Value → State → Outcome → State → Prop := fun _ st oc t => (∃ (r : Option aV) (σ' : aS), oc = .returned (r.map (cV ad)) ∧ Q r σ' ∧ va_P D aCl (aWo ad cA σ') t.heap) ∧ va_F (aA ad) st t
def aAt (M : aMt) (p : Program) (s : State) (m : MethodId) (args : Array Value) (meth : Method) (c : Code) (D : va_G) (cA : ClassId) : Prop :=
  p.tables.exec = Jvm.exec ∧ c.code = M.2.1 ∧ c.maxLocals = M.2.2.1 ∧ meth.sig.returnType = M.2.2.2.1 ∧ meth.locks = false ∧ s.vm.findClass M.1.cls = some m.cls ∧ (∀ w ∈ aWs M, w.before args s = true) ∧ va_K D aCl [(cA, .int)] s ∧ aNe s
def aIs (ad : Nat → Nat → Nat) (cA : ClassId) (D : va_G) (s : State) (σ : aS) (H : Heap) (locs : List Loc) : Prop := va_P D aCl (aWo ad cA σ) H ∧ va_D (aA ad) (aWo ad cA σ) ∧ va_S (aA ad) s.heap H locs
/-- from here the method comes to its end, with Q -/
def AW (l : Launch) (d : Nat) (M : aMt) (Q : Option aV → aS → Prop) (pc : Nat) (L : aLs) (st : List aV) (σ : aS) : Prop :=
  ∀ (p : Program) (e : Env) (s : State) (m : MethodId) (args : Array Value) (below : List Frame) (meth : Method) (c : Code) (D : va_G) (cA : ClassId) (ad : Nat → Nat → Nat) (H : Heap) (locs : List Loc) (ls : Array Slot),
    aAt M p s m args meth c D cA → aIs ad cA D s σ H locs → aLoc ad M.2.2.1 L ls →
    W p l e (aRm d) s m args below meth c H locs 0 0 (MQ below (aQ ad cA D Q) args s 0 0 (aA ad)) (F0 m pc ls (st.map (cV ad)))
/-- what a method needs, by the store -/
def aPc (ad : Nat → Nat → Nat) (cA : ClassId) (D : va_G) (as : List aV) (σ : aS) : Array Value → State → Prop := va_Pc (as.map (cV ad)) (fun U => va_P D aCl (aWo ad cA σ) U.heap ∧ va_K D aCl [(cA, .int)] U ∧ va_D (aA ad) (aWo ad cA σ) ∧ aNe U)
/-- a method's contract, by stores -/
def AM (l : Launch) (d : Nat) (M : aMt) (as : List aV) (σ : aS) (Q : Option aV → aS → Prop) : Prop :=
  ∀ (D : va_G) (cA : ClassId) (ad : Nat → Nat → Nat), Met l M.1 (aWs M) (aRm d) (aPc ad cA D as σ) (aQ ad cA D Q) 0 0 (aA ad)
/-- what a constant pool's table says is in the words -/
def aKok (own : String) (K : aK) : Prop :=
  (∀ q ∈ K.1, ∃ r : vw_C, aCl[q.2.1]? = some r ∧ q.2.2 < r.2.2 ∧ Cond.fieldLink own q.1 r.1 (r.2.1 q.2.2).2.1 (r.2.1 q.2.2).2.2.1 ∈ aTbl ∧ (r.2.1 q.2.2).1 = r.1) ∧
  (∀ q ∈ K.2.1, Cond.constant own q.1 (Int32.ofInt q.2) ∈ aTbl) ∧ (∀ q ∈ K.2.2, Cond.constantLong own q.1 (Int64.ofInt q.2) ∈ aTbl)
theorem aLk_mem {α : Type} {i : Nat} {v : α} : ∀ {t : List (Nat × α)}, aLk t i = some v → (i, v) ∈ t := by
  intro t
  induction t with
  | nil => intro h; cases h
  | cons q t ih =>
    intro h
    unfold aLk at h
    split at h
    · rename_i hq
      cases h
      subst hq
      exact List.mem_cons_self
    · exact List.mem_cons_of_mem _ (ih h)
/-- the six classes: their field words, types, names -/
theorem aCl_ok : ∀ (ci : Nat) (r : vw_C), aCl[ci]? = some r → (∀ w ∈ u_ws r.1 r.2.1 r.2.2, w ∈ aTbl) ∧ ∃ ty : Nat → FieldType, (∀ k, k < r.2.2 → parseFieldDescriptor (r.2.1 k).2.2.1 = some (ty k)) ∧ (∀ a, a < r.2.2 → ∀ b, b < r.2.2 → a ≠ b → (r.2.1 a).2.1 ≠ (r.2.1 b).2.1) := by
  intro ci r h
  match ci, h with
  | 0, h => cases h; exact ⟨iaX0, tyX0, tyX0_ok, nmX0⟩
  | 1, h => cases h; exact ⟨iaX1, tyX1, tyX1_ok, nmX1⟩
  | 2, h => cases h; exact ⟨iaX2, tyX2, tyX2_ok, nmX2⟩
  | 3, h => cases h; exact ⟨iaX4, tyX4, tyX4_ok, nmX4⟩
  | 4, h => cases h; exact ⟨iaX6, tyX6, tyX6_ok, nmX6⟩
  | 5, h => cases h; exact ⟨iaX7, tyX7, tyX7_ok, nmX7⟩
  | k + 6, h => simp [aCl] at h
def aFty (t k : Nat) : FieldType := if aBoo t k then .boolean else .int
def aNum (t k : Nat) : Bool := match (aFld t)[k]? with
  | some none => true
  | _ => false
theorem aNum_of {t k : Nat} (h : (aFld t)[k]? = some none) : aNum t k = true := by
  unfold aNum
  rw [h]
/-- the kinds of places: how long the list of fields is, of what type the fields are that hold numbers -/
theorem aFld_ok : ∀ t : Nat, t < 32 → ∀ ci : Nat, aCls t = some ci → ∀ r : vw_C, aCl[ci]? = some r → (aFld t).length = r.2.2 ∧ ∀ k : Nat, (aFld t)[k]? = some none → (r.2.1 k).2.2.2 = false ∧ parseFieldDescriptor (r.2.1 k).2.2.1 = some (aFty t k) := by
  intro t ht ci hci r hr
  have key1 : ∀ t : Nat, t < 32 → ∀ ci : Nat, ci < 6 → aCls t = some ci → (aFld t).length = (aCl.getD ci (RX0, TX0, 11)).2.2 := by decide +kernel
  have key2 : ∀ t : Nat, t < 32 → ∀ ci : Nat, ci < 6 → ∀ k : Nat, k < 20 → (aCls t = some ci ∧ aNum t k = true) → ((aCl.getD ci (RX0, TX0, 11)).2.1 k).2.2.2 = false := by decide +kernel
  have key3 : ∀ k : Nat, k < 20 → aNum t k = true → parseFieldDescriptor (r.2.1 k).2.2.1 = some (aFty t k) := by
    have htag : ∀ t : Nat, t < 32 → ∀ ci : Nat, ci < 6 → aCls t = some ci → t = [1, 16, 19, 9, 0, 21].getD ci 0 := by decide +kernel
    have ht2 := htag t ht ci ((List.getElem?_eq_some_iff.mp hr).1) hci
    clear ht hci
    match ci, hr, ht2 with
    | 0, hr, ht2 => cases hr; subst ht2; exact (by decide +kernel : ∀ k : Nat, k < 20 → aNum 1 k = true → parseFieldDescriptor (TX0 k).2.2.1 = some (aFty 1 k))
    | 1, hr, ht2 => cases hr; subst ht2; exact (by decide +kernel : ∀ k : Nat, k < 20 → aNum 16 k = true → parseFieldDescriptor (TX1 k).2.2.1 = some (aFty 16 k))
    | 2, hr, ht2 => cases hr; subst ht2; exact (by decide +kernel : ∀ k : Nat, k < 20 → aNum 19 k = true → parseFieldDescriptor (TX2 k).2.2.1 = some (aFty 19 k))
    | 3, hr, ht2 => cases hr; subst ht2; exact (by decide +kernel : ∀ k : Nat, k < 20 → aNum 9 k = true → parseFieldDescriptor (TX4 k).2.2.1 = some (aFty 9 k))
    | 4, hr, ht2 => cases hr; subst ht2; exact (by decide +kernel : ∀ k : Nat, k < 20 → aNum 0 k = true → parseFieldDescriptor (TX6 k).2.2.1 = some (aFty 0 k))
    | 5, hr, ht2 => cases hr; subst ht2; exact (by decide +kernel : ∀ k : Nat, k < 20 → aNum 21 k = true → parseFieldDescriptor (TX7 k).2.2.1 = some (aFty 21 k))
    | k + 6, hr, _ => simp [aCl] at hr
  have hc6 : ci < 6 := (List.getElem?_eq_some_iff.mp hr).1
  have hl : ∀ t : Nat, t < 32 → (aFld t).length < 20 := by decide +kernel
  have e : aCl.getD ci (RX0, TX0, 11) = r := by rw [List.getD_eq_getElem?_getD, hr]; rfl
  have h1 := key1 t ht ci hc6 hci
  have h2 := key2 t ht ci hc6
  rw [e] at h1 h2
  refine ⟨h1, fun k hk => ?_⟩
  have g1 := (List.getElem?_eq_some_iff.mp hk).1
  have g2 := hl t ht
  exact ⟨h2 k (by omega) ⟨hci, aNum_of hk⟩, key3 k (by omega) (aNum_of hk)⟩
theorem aNe_warm {s U : State} (hW : s.WarmedH U.vm) (h : aNe s) : aNe U := fun q hq => va_Nw.warmM hW (h q hq)
theorem aNe_same {s U : State} (hv : s.vm = U.vm) (h : aNe s) : aNe U := fun q hq => va_Nw.same rfl hv (h q hq)
theorem cV_cat {ad : Nat → Nat → Nat} {v : aV} (h : aLg (some v) = false) : (cV ad v).category = 1 := by
  rcases v with x | y | ⟨t, c⟩
  · rfl
  · cases h
  · rfl
section Sound
variable {l : Launch} {d : Nat} {M : aMt} {Q : Option aV → aS → Prop} {pc : Nat} {L : aLs} {st : List aV} {σ : aS}
set_option maxHeartbeats 4000000 in
theorem aw_1 {ins : Instr} {Cs : List Prop} {pc' : Nat} {L' : aLs} {st' : List aV} {σ' : aS} (hk : aKok M.1.cls M.2.2.2.2) (hd : decode M.2.1 pc = .ok (ins, aLn ins)) (hs : aStep M.2.2.2.2 ins pc L st σ = some (Cs, pc', L', st', σ')) (hC : ∀ P ∈ Cs, P) (k : AW l d M Q pc' L' st' σ') : AW l d M Q pc L st σ := by
  intro p e s m args below meth c D cA ad H locs ls C0 C1 hl
  obtain ⟨hx, hb, hml, hr, hlk, hown, hts, hK, hN⟩ := id C0
  obtain ⟨hP, hD, hS⟩ := id C1
  have hws : ∀ w ∈ aTbl, w.before args s = true := fun w hw => hts w (List.mem_cons_of_mem _ hw)
  have K := fun H locs ls (C1 : aIs ad cA D s σ' H locs) hl => k p e s m args below meth c D cA ad H locs ls C0 C1 hl
  clear k
  cases ins with
  | iconst n => cases hs; exact lv_iconst hx hb hd rfl (K H locs ls C1 hl)
  | bipush n =>
    simp only [aStep] at hs
    split at hs
    · rename_i hn; cases hs; exact lv_bipush hx hb hd (aIn_byte hn) (K H locs ls C1 hl)
    · cases hs
  | sipush n =>
    simp only [aStep] at hs
    split at hs
    · rename_i hn; cases hs; exact lv_sipush hx hb hd (aIn_short hn) (K H locs ls C1 hl)
    · cases hs
  | lconst n => cases hs; exact lv_lconst hx hb hd (Int64.ofInt_eq_ofNat).symm (K H locs ls C1 hl)
  | ldc i =>
    simp only [aStep] at hs
    split at hs
    · rename_i v hv; cases hs; exact lv_ldc hx hb hown (hws _ (hk.2.1 _ (aLk_mem hv))) hd (K H locs ls C1 hl)
    · cases hs
  | ldc_w i =>
    simp only [aStep] at hs
    split at hs
    · rename_i v hv; cases hs; exact lv_ldcw hx hb hown (hws _ (hk.2.1 _ (aLk_mem hv))) hd (K H locs ls C1 hl)
    · cases hs
  | ldc2_w i =>
    simp only [aStep] at hs
    split at hs
    · rename_i v hv; cases hs; exact lv_ldc2 hx hb hown (hws _ (hk.2.2 _ (aLk_mem hv))) hd (K H locs ls C1 hl)
    · cases hs
  | iload_n i =>
    simp only [aStep, aLdI] at hs
    split at hs
    · rename_i x hx2; cases hs; exact lv_iload_n hx hb hd rfl (aLoc_at hl hx2) (K H locs ls C1 hl)
    · cases hs
  | iload i =>
    simp only [aStep, aLdI] at hs
    split at hs
    · rename_i x hx2; cases hs; exact lv_iload hx hb hd (aLoc_at hl hx2) (K H locs ls C1 hl)
    · cases hs
  | lload_n i =>
    simp only [aStep, aLdL] at hs
    split at hs
    · rename_i x hx2; cases hs; exact lv_lload_n hx hb hd rfl (aLoc_at hl hx2) (K H locs ls C1 hl)
    · cases hs
  | lload i =>
    simp only [aStep, aLdL] at hs
    split at hs
    · rename_i x hx2; cases hs; exact lv_lload hx hb hd (aLoc_at hl hx2) (K H locs ls C1 hl)
    · cases hs
  | aload_n i =>
    simp only [aStep, aLdR] at hs
    split at hs
    · rename_i x hx2; cases hs; exact lv_aload_n hx hb hd rfl (aLoc_at hl hx2) (K H locs ls C1 hl)
    · cases hs
  | aload i =>
    simp only [aStep, aLdR] at hs
    split at hs
    · rename_i x hx2; cases hs; exact lv_aload hx hb hd (aLoc_at hl hx2) (K H locs ls C1 hl)
    · cases hs
  | istore_n i =>
    simp only [aStep, aStI] at hs
    split at hs
    · split at hs
      · rename_i hi; cases hs
        exact lv_istore_n hx hb hd rfl hl.2 (by rw [← hl.1]; exact hi) rfl (fun ls' h' => K H locs ls' C1 (aPut_has hl.1 h'))
      · cases hs
    · cases hs
  | istore i =>
    simp only [aStep, aStI] at hs
    split at hs
    · split at hs
      · rename_i hi; cases hs
        exact lv_istore hx hb hd hl.2 (by rw [← hl.1]; exact hi) rfl (fun ls' h' => K H locs ls' C1 (aPut_has hl.1 h'))
      · cases hs
    · cases hs
  | lstore_n i =>
    simp only [aStep, aStL] at hs
    split at hs
    · split at hs
      · rename_i hi; cases hs
        exact lv_lstore_n hx hb hd rfl hl.2 (by rw [← hl.1]; exact hi) rfl (fun ls' h' => K H locs ls' C1 (aPut2_has hl.1 h'))
      · cases hs
    · cases hs
  | lstore i =>
    simp only [aStep, aStL] at hs
    split at hs
    · split at hs
      · rename_i hi; cases hs
        exact lv_lstore hx hb hd hl.2 (by rw [← hl.1]; exact hi) rfl (fun ls' h' => K H locs ls' C1 (aPut2_has hl.1 h'))
      · cases hs
    · cases hs
  | iinc i n =>
    simp only [aStep, aInc] at hs
    split at hs
    · rename_i x hx2; cases hs
      obtain ⟨kk, hkk⟩ := List.getElem?_of_mem (aAs_mem (ad := ad) (i := 0).mpr ⟨i, aI x, hx2, rfl⟩)
      rw [Nat.zero_add] at hkk
      exact lv_iinc (v := Int32.ofInt (x + n)) hx hb hd hl.2 hkk (Int32.ofInt_add x n).symm (by rw [← hl.1]; exact (List.getElem?_eq_some_iff.mp hx2).1) rfl (fun ls' h' => K H locs ls' C1 (aPut_has hl.1 h'))
    · cases hs
  | iadd =>
    simp only [aStep, aBin] at hs
    split at hs
    · rename_i y x r; cases hs; refine lv_iadd hx hb hd ?_; rw [← Int32.ofInt_add]; exact K H locs ls C1 hl
    · cases hs
  | isub =>
    simp only [aStep, aBin] at hs
    split at hs
    · rename_i y x r; cases hs; refine lv_isub hx hb hd ?_; rw [← Int32.ofInt_sub]; exact K H locs ls C1 hl
    · cases hs
  | imul =>
    simp only [aStep, aBin] at hs
    split at hs
    · rename_i y x r; cases hs; refine lv_imul hx hb hd ?_; rw [← Int32.ofInt_mul]; exact K H locs ls C1 hl
    · cases hs
  | idiv =>
    simp only [aStep, aBin] at hs
    split at hs
    · rename_i y x r; cases hs
      have h1 : aIr x := hC _ (by simp)
      have h2 : 0 < y ∧ y < 2147483648 := hC _ (by simp)
      refine lv_idiv hx hb hd (aIn_ne0 h2) ?_; rw [← aIn_div h1 h2]; exact K H locs ls C1 hl
    · cases hs
  | irem =>
    simp only [aStep, aBin] at hs
    split at hs
    · rename_i y x r; cases hs
      have h1 : aIr x := hC _ (by simp)
      have h2 : 0 < y ∧ y < 2147483648 := hC _ (by simp)
      refine lv_irem hx hb hd (aIn_ne0 h2) ?_; rw [← aIn_rem h1 h2]; exact K H locs ls C1 hl
    · cases hs
  | iand =>
    simp only [aStep, aBin] at hs
    split at hs
    · rename_i y x r; cases hs; refine lv_iand hx hb hd ?_; rw [← aAnd_eq]; exact K H locs ls C1 hl
    · cases hs
  | ior =>
    simp only [aStep, aBin] at hs
    split at hs
    · rename_i y x r; cases hs; refine lv_ior hx hb hd ?_; rw [← aOr_eq]; exact K H locs ls C1 hl
    · cases hs
  | ixor =>
    simp only [aStep, aBin] at hs
    split at hs
    · rename_i y x r; cases hs; refine lv_ixor hx hb hd ?_; rw [← aXor_eq]; exact K H locs ls C1 hl
    · cases hs
  | ishl =>
    simp only [aStep, aBin] at hs
    split at hs
    · rename_i y x r; cases hs
      have h2 : 0 ≤ y ∧ y < 32 := hC _ (by simp)
      refine lv_ishl hx hb hd ?_; rw [← aIn_shl h2]; exact K H locs ls C1 hl
    · cases hs
  | ishr =>
    simp only [aStep, aBin] at hs
    split at hs
    · rename_i y x r; cases hs
      have h2 : 0 ≤ y ∧ y < 32 := hC _ (by simp)
      have h1 : aIr x := hC _ (by simp)
      refine lv_ishr hx hb hd ?_; rw [← aIn_shr h2 h1]; exact K H locs ls C1 hl
    · cases hs
  | iushr =>
    simp only [aStep, aBin] at hs
    split at hs
    · rename_i y x r; cases hs
      have h2 : 0 ≤ y ∧ y < 32 := hC _ (by simp)
      have h1 : 0 ≤ x ∧ x < 2147483648 := hC _ (by simp)
      exact lv_iushr hx hb hd (aIn_ushr h2 h1) (K H locs ls C1 hl)
    · cases hs
  | ineg =>
    simp only [aStep, aUn] at hs
    split at hs
    · rename_i x r; cases hs; refine lv_ineg hx hb hd ?_; rw [← Int32.ofInt_neg]; exact K H locs ls C1 hl
    · cases hs
  | i2b =>
    simp only [aStep, aUn] at hs
    split at hs
    · rename_i x r; cases hs; exact lv_i2b hx hb hd (aIn_i2b x) (K H locs ls C1 hl)
    · cases hs
  | i2s =>
    simp only [aStep, aUn] at hs
    split at hs
    · rename_i x r; cases hs; exact lv_i2s hx hb hd (aIn_i2s x) (K H locs ls C1 hl)
    · cases hs
  | i2l =>
    simp only [aStep] at hs
    split at hs
    · rename_i x r; cases hs
      exact lv_i2l hx hb hd (aIn_i2l (hC _ (by simp))) (K H locs ls C1 hl)
    · cases hs
  | ladd =>
    simp only [aStep, aBinL] at hs
    split at hs
    · rename_i y x r; cases hs; refine lv_ladd hx hb hd ?_; rw [← Int64.ofInt_add]; exact K H locs ls C1 hl
    · cases hs
  | lmul =>
    simp only [aStep, aBinL] at hs
    split at hs
    · rename_i y x r; cases hs; refine lv_lmul hx hb hd ?_; rw [← Int64.ofInt_mul]; exact K H locs ls C1 hl
    · cases hs
  | ldiv =>
    simp only [aStep, aBinL] at hs
    split at hs
    · rename_i y x r; cases hs
      have h1 : aLr x := hC _ (by simp)
      have h2 : 0 < y ∧ y < 9223372036854775808 := hC _ (by simp)
      refine lv_ldiv hx hb hd (aIn_ne064 h2) ?_; rw [← aIn_div64 h1 h2]; exact K H locs ls C1 hl
    · cases hs
  | lrem =>
    simp only [aStep, aBinL] at hs
    split at hs
    · rename_i y x r; cases hs
      have h1 : aLr x := hC _ (by simp)
      have h2 : 0 < y ∧ y < 9223372036854775808 := hC _ (by simp)
      refine lv_lrem hx hb hd (aIn_ne064 h2) ?_; rw [← aIn_rem64 h1 h2]; exact K H locs ls C1 hl
    · cases hs
  | lcmp =>
    simp only [aStep] at hs
    split at hs
    · rename_i y x r; cases hs
      have h1 : aLr x := hC _ (by simp)
      have h2 : aLr y := hC _ (by simp)
      refine W.lcmp hx hb hd ?_; rw [aIn_lcmp h1 h2]; exact K H locs ls C1 hl
    · cases hs
  | dup =>
    simp only [aStep, aDup] at hs
    split at hs
    · split at hs
      · cases hs
      · rename_i v r hv; cases hs
        exact lv_dup hx hb hd (cV_cat (by simpa using hv)) (K H locs ls C1 hl)
    · cases hs
  | dup2 =>
    simp only [aStep, aDup2] at hs
    split at hs
    · split at hs
      · cases hs
      · rename_i v w r hv; cases hs
        have hv2 : aLg (some v) = false ∧ aLg (some w) = false := by simpa using hv
        exact lv_dup2_11 hx hb hd (cV_cat hv2.1) (cV_cat hv2.2) (K H locs ls C1 hl)
    · cases hs
  | getfield i =>
    simp only [aStep, aGet] at hs
    split at hs
    · rename_i q r
      split at hs
      · rename_i ci kf hq
        split at hs
        · rename_i ht
          obtain ⟨ht1, ht2⟩ := ht
          obtain ⟨rc, hc1, hc2, hc3, hc4⟩ := hk.1 _ (aLk_mem hq)
          obtain ⟨t, cc⟩ := q
          dsimp only at ht1 ht2 hs hc1 hc2 hc3 hc4
          obtain ⟨o1, -⟩ := aCl_ok ci rc hc1
          split at hs
          · rename_i hf; cases hs
            obtain ⟨q0, hq0⟩ := aPl_at (c := cc) ht2 (hC _ (by simp))
            have e1 := aWo_at (ad := ad) (cA := cA) (σ := σ) hq0
            unfold aCell at e1
            rw [ht1] at e1
            exact va_get (D := D) hx hb hws o1 hown hK hP q0 e1 hc1 kf hc2 (hws _ hc3) (fun x h => by rw [← hc4]; exact h) (v := .int (Int32.ofInt (σ t cc kf))) (by rw [List.getElem?_mapIdx, hf]; rfl) hd (K H locs ls C1 hl)
          · rename_i f hf; cases hs
            obtain ⟨q0, hq0⟩ := aPl_at (c := cc) ht2 (hC _ (by simp))
            have e1 := aWo_at (ad := ad) (cA := cA) (σ := σ) hq0
            unfold aCell at e1
            rw [ht1] at e1
            exact va_get (D := D) hx hb hws o1 hown hK hP q0 e1 hc1 kf hc2 (hws _ hc3) (fun x h => by rw [← hc4]; exact h) (v := .ref (ad f.1 (f.2.getD cc))) (by rw [List.getElem?_mapIdx, hf]; rfl) hd (K H locs ls C1 hl)
          · cases hs
        · cases hs
      · cases hs
    · cases hs
  | putfield i =>
    simp only [aStep, aSet] at hs
    split at hs
    · rename_i x q r
      split at hs
      · rename_i ci kf hq
        split at hs
        · rename_i ht
          obtain ⟨ht1, ht2⟩ := ht
          obtain ⟨rc, hc1, hc2, hc3, hc4⟩ := hk.1 _ (aLk_mem hq)
          obtain ⟨t, cc⟩ := q
          dsimp only at ht1 ht2 hs hc1 hc2 hc3 hc4
          obtain ⟨o1, ty, o2, o3⟩ := aCl_ok ci rc hc1
          obtain ⟨f1, f2⟩ := aFld_ok t ht2 ci ht1 rc hc1
          split at hs
          · rename_i hf
            obtain ⟨f3, f4⟩ := f2 kf hf
            have hcc : cc < aCnt t := by
              split at hs <;> (cases hs; exact hC _ (by simp))
            have hnar : narrow (aFty t kf) (.int (Int32.ofInt x)) = .int (Int32.ofInt x) ∧ fits (aFty t kf) (.int (Int32.ofInt x)) = true := by
              split at hs
              · rename_i hbo; cases hs
                rw [show aFty t kf = .boolean from by unfold aFty; rw [if_pos hbo]]
                have hx01 : x = 0 ∨ x = 1 := hC _ (by simp)
                rcases hx01 with rfl | rfl <;> decide +kernel
              · rename_i hbo; cases hs
                rw [show aFty t kf = .int from by unfold aFty; rw [if_neg hbo]]
                exact ⟨rfl, rfl⟩
            obtain ⟨q0, hq0⟩ := aPl_at ht2 hcc
            have e1 := aWo_at (ad := ad) (cA := cA) (σ := σ) hq0
            unfold aCell at e1
            rw [ht1] at e1
            have hsame : ∀ y, s.fieldFound? (rc.2.1 kf).1 (rc.2.1 kf).2.1 (rc.2.1 kf).2.2.1 = some y → s.fieldFound? rc.1 (rc.2.1 kf).2.1 (rc.2.1 kf).2.2.1 = some y := fun y h => by rw [← hc4]; exact h
            have hcell := aCell_fld (ad := ad) (cA := cA) (σ := σ) (c := cc) (x := x) ht1 hf
            have hset := aWo_set (e := .inr (ci, ((aFld t).mapIdx (fun j f => aFv ad σ t cc j f)).set kf (.int (Int32.ofInt x)))) (σ := σ) (σ' := aUp σ t cc kf x) hq0 hcell (fun t' c' h => aCell_off t' c' h)
            have hgo : ∀ (H1 : Heap) (locs1 : List Loc), va_P D aCl ((aWo ad cA σ).set q0 (ad t cc, .inr (ci, ((aFld t).mapIdx (fun j f => aFv ad σ t cc j f)).set kf (.int (Int32.ofInt x))))) H1 → va_D (aA ad) ((aWo ad cA σ).set q0 (ad t cc, .inr (ci, ((aFld t).mapIdx (fun j f => aFv ad σ t cc j f)).set kf (.int (Int32.ofInt x))))) → va_S (aA ad) s.heap H1 locs1 → aIs ad cA D s (aUp σ t cc kf x) H1 locs1 := fun H1 locs1 g1 g2 g3 => by
              rw [hset] at g1 g2
              exact ⟨g1, g2, g3⟩
            split at hs
            · cases hs
              exact va_put (D := D) hx hb hws o1 ty o2 o3 hown hK hP hD hS q0 e1 hc1 kf hc2 (hws _ hc3) hsame f3 f4 hnar.1 hnar.2 (by rw [List.length_mapIdx, f1]; exact hc2) hd (fun H1 locs1 g1 g2 g3 => K H1 locs1 ls (hgo H1 locs1 g1 g2 g3) hl)
            · cases hs
              exact va_put (D := D) hx hb hws o1 ty o2 o3 hown hK hP hD hS q0 e1 hc1 kf hc2 (hws _ hc3) hsame f3 f4 hnar.1 hnar.2 (by rw [List.length_mapIdx, f1]; exact hc2) hd (fun H1 locs1 g1 g2 g3 => K H1 locs1 ls (hgo H1 locs1 g1 g2 g3) hl)
          · cases hs
        · cases hs
      · cases hs
    · cases hs
  | iaload =>
    simp only [aStep, aAld] at hs
    split at hs
    · rename_i i q r
      split at hs
      · rename_i ht
        obtain ⟨t, cc⟩ := q
        obtain ⟨ht1, ht2⟩ := ht
        cases hs
        have hcc : cc < aCnt t := hC _ (by simp)
        have hi : 0 ≤ i ∧ i < (aLen t : Int) := hC _ (by simp)
        obtain ⟨q0, hq0⟩ := aPl_at ht2 hcc
        have e1 := aWo_at (ad := ad) (cA := cA) (σ := σ) hq0
        unfold aCell at e1
        rw [ht1] at e1
        have hln := aLen_ok t
        refine va_iald (D := D) hx hb hK hP q0 0 e1 rfl (aIn_vp hln hi) hd ?_
        have e2 : (Int32.ofInt i).toNatClampNeg = i.toNat := aIn_nat (by omega)
        have e3 : ((i.toNat : Nat) : Int) = i := by omega
        have e4 : Int32.ofInt (σ t cc ((Int32.ofInt i).toNatClampNeg : Nat)) = Int32.ofInt (σ t cc i) := by rw [e2, e3]
        dsimp only
        rw [e4]
        exact K H locs ls C1 hl
      · cases hs
    · cases hs
  | iastore =>
    simp only [aStep, aAst] at hs
    split at hs
    · rename_i x i q r
      split at hs
      · rename_i ht
        obtain ⟨t, cc⟩ := q
        obtain ⟨ht1, ht2⟩ := ht
        cases hs
        have hcc : cc < aCnt t := hC _ (by simp)
        have hi : 0 ≤ i ∧ i < (aLen t : Int) := hC _ (by simp)
        obtain ⟨q0, hq0⟩ := aPl_at ht2 hcc
        have e1 := aWo_at (ad := ad) (cA := cA) (σ := σ) hq0
        unfold aCell at e1
        rw [ht1] at e1
        have hln := aLen_ok t
        have hcell := aCell_arr (ad := ad) (cA := cA) (σ := σ) (c := cc) (x := x) ht1 (i := i) (by omega)
        have hset := aWo_set (σ := σ) (σ' := aUp σ t cc i x) hq0 hcell (fun t' c' h => aCell_off t' c' h)
        refine va_iast (D := D) hx hb hK hP hD hS q0 0 e1 rfl (aIn_vp hln hi) hd (fun H1 locs1 g1 g2 g3 => ?_)
        rw [hset] at g1 g2
        exact K H1 locs1 ls ⟨g1, g2, g3⟩ hl
      · cases hs
    · cases hs
  | goto o =>
    simp only [aStep] at hs
    split at hs
    · rename_i ho; cases hs
      exact lv_goto (tgt := ((pc : Int) + o).toNat) hx hb hd (by omega) (K H locs ls C1 hl)
    · cases hs
  | _ => cases hs
end Sound
end
section
/-! ===== rules: stretches, branches, switches, ends, entries, calls ===== -/
section Rules
variable {l : Launch} {d : Nat} {M : aMt} {Q : Option aV → aS → Prop} {pc : Nat} {L : aLs} {st : List aV} {σ : aS}
theorem aw_run (hk : aKok M.1.cls M.2.2.2.2) : ∀ (B : List (Nat × Instr)) (pc : Nat) (L : aLs) (st : List aV) (σ : aS) {Cs : List Prop} {pc' : Nat} {L' : aLs} {st' : List aV} {σ' : aS}, (∀ q ∈ B, decode M.2.1 q.1 = .ok (q.2, aLn q.2)) → aRun M.2.2.2.2 B pc L st σ = some (Cs, pc', L', st', σ') → (∀ P ∈ Cs, P) → AW l d M Q pc' L' st' σ' → AW l d M Q pc L st σ := by
  intro B
  induction B with
  | nil => intro pc L st σ Cs pc' L' st' σ' _ h _ k; cases h; exact k
  | cons q B ih =>
    intro pc L st σ Cs pc' L' st' σ' hB h hC k
    unfold aRun at h
    split at h
    · rename_i hq
      split at h
      · rename_i cs pc1 L1 st1 σ1 h1
        split at h
        · rename_i cs' r h2
          obtain ⟨pc2, L2, st2, σ2⟩ := r
          cases h
          refine aw_1 (ins := q.2) hk (by rw [← hq]; exact hB q List.mem_cons_self) h1 (fun P hP => hC P (List.mem_append_left _ hP)) ?_
          exact ih pc1 L1 st1 σ1 (fun z hz => hB z (List.mem_cons_of_mem _ hz)) h2 (fun P hP => hC P (List.mem_append_right _ hP)) k
        · cases h
      · cases h
    · cases h
/-- a stretch of code -/
theorem aw_b (hk : aKok M.1.cls M.2.2.2.2) {B : List (Nat × Instr)} (hB : ∀ q ∈ B, decode M.2.1 q.1 = .ok (q.2, aLn q.2)) {Cs : List Prop} {pc' : Nat} {L' : aLs} {st' : List aV} {σ' : aS} (h : aRun M.2.2.2.2 B pc L st σ = some (Cs, pc', L', st', σ')) (hC : aAll Cs) (k : AW l d M Q pc' L' st' σ') : AW l d M Q pc L st σ :=
  aw_run hk B pc L st σ hB h (aAll_mem hC) k
/-- locals that are forgotten -/
theorem aw_le {L' : aLs} (h : aLe L' L) (k : AW l d M Q pc L' st σ) : AW l d M Q pc L st σ :=
  fun p e s m args below meth c D cA ad H locs ls C0 C1 hl => k p e s m args below meth c D cA ad H locs ls C0 C1 (aLoc_le hl h)
theorem aw_drop (ks : List Nat) {L' : aLs} (h : aDrop L ks = L') (k : AW l d M Q pc L' st σ) : AW l d M Q pc L st σ := aw_le (by rw [← h]; exact aDrop_le ks L) k
theorem aw_eq {L' : aLs} {st' : List aV} {σ' : aS} (h1 : L = L') (h2 : st = st') (h3 : σ = σ') (k : AW l d M Q pc L' st' σ') : AW l d M Q pc L st σ := by
  subst h1; subst h2; subst h3; exact k
theorem aw_post {Q' : Option aV → aS → Prop} (hq : ∀ r σ', Q r σ' → Q' r σ') (k : AW l d M Q pc L st σ) : AW l d M Q' pc L st σ := by
  intro p e s m args below meth c D cA ad H locs ls C0 C1 hl T hT X
  obtain ⟨t, a, o, b1, b2, ⟨⟨r, σ', c1, c2, c3⟩, c4⟩, b4⟩ := k p e s m args below meth c D cA ad H locs ls C0 C1 hl T hT X
  exact ⟨t, a, o, b1, b2, ⟨⟨r, σ', c1, hq _ _ c2, c3⟩, c4⟩, b4⟩
theorem aw_ceq {x y : Int} {r : List aV} {off : Int} {tgt : Nat} (hd : decode M.2.1 pc = .ok (.if_icmp .eq off, 3)) (ht : (pc : Int) + off = (tgt : Int)) (hx : aIr x) (hy : aIr y) (kt : x = y → AW l d M Q tgt L r σ) (kf : ¬ x = y → AW l d M Q (pc + 3) L r σ) : AW l d M Q pc L (aI y :: aI x :: r) σ := by
  intro p e s m args below meth c D cA ad H locs ls C0 C1 hl
  obtain ⟨hx1, hb, -⟩ := id C0
  have hi := aIn_eq hx hy
  exact lv_icmp_eq hx1 hb hd ht (fun h => kt (hi.mp h) p e s m args below meth c D cA ad H locs ls C0 C1 hl) (fun h => kf (fun q => h (hi.mpr q)) p e s m args below meth c D cA ad H locs ls C0 C1 hl)
theorem aw_ieq {x : Int} {r : List aV} {off : Int} {tgt : Nat} (hd : decode M.2.1 pc = .ok (.ifCond .eq off, 3)) (ht : (pc : Int) + off = (tgt : Int)) (hx : aIr x) (kt : x = 0 → AW l d M Q tgt L r σ) (kf : ¬ x = 0 → AW l d M Q (pc + 3) L r σ) : AW l d M Q pc L (aI x :: r) σ := by
  intro p e s m args below meth c D cA ad H locs ls C0 C1 hl
  obtain ⟨hx1, hb, -⟩ := id C0
  have hy : aIr 0 := by decide
  have hi := aIn_eq hx hy
  exact lv_if_eq hx1 hb hd ht (fun h => kt (hi.mp h) p e s m args below meth c D cA ad H locs ls C0 C1 hl) (fun h => kf (fun q => h (hi.mpr q)) p e s m args below meth c D cA ad H locs ls C0 C1 hl)
theorem aw_cne {x y : Int} {r : List aV} {off : Int} {tgt : Nat} (hd : decode M.2.1 pc = .ok (.if_icmp .ne off, 3)) (ht : (pc : Int) + off = (tgt : Int)) (hx : aIr x) (hy : aIr y) (kt : ¬ x = y → AW l d M Q tgt L r σ) (kf : x = y → AW l d M Q (pc + 3) L r σ) : AW l d M Q pc L (aI y :: aI x :: r) σ := by
  intro p e s m args below meth c D cA ad H locs ls C0 C1 hl
  obtain ⟨hx1, hb, -⟩ := id C0
  have hi := aIn_eq hx hy
  exact lv_icmp_ne hx1 hb hd ht (fun h => kt (fun q => h (hi.mpr q)) p e s m args below meth c D cA ad H locs ls C0 C1 hl) (fun h => kf (hi.mp h) p e s m args below meth c D cA ad H locs ls C0 C1 hl)
theorem aw_ine {x : Int} {r : List aV} {off : Int} {tgt : Nat} (hd : decode M.2.1 pc = .ok (.ifCond .ne off, 3)) (ht : (pc : Int) + off = (tgt : Int)) (hx : aIr x) (kt : ¬ x = 0 → AW l d M Q tgt L r σ) (kf : x = 0 → AW l d M Q (pc + 3) L r σ) : AW l d M Q pc L (aI x :: r) σ := by
  intro p e s m args below meth c D cA ad H locs ls C0 C1 hl
  obtain ⟨hx1, hb, -⟩ := id C0
  have hy : aIr 0 := by decide
  have hi := aIn_eq hx hy
  exact lv_if_ne hx1 hb hd ht (fun h => kt (fun q => h (hi.mpr q)) p e s m args below meth c D cA ad H locs ls C0 C1 hl) (fun h => kf (hi.mp h) p e s m args below meth c D cA ad H locs ls C0 C1 hl)
theorem aw_clt {x y : Int} {r : List aV} {off : Int} {tgt : Nat} (hd : decode M.2.1 pc = .ok (.if_icmp .lt off, 3)) (ht : (pc : Int) + off = (tgt : Int)) (hx : aIr x) (hy : aIr y) (kt : x < y → AW l d M Q tgt L r σ) (kf : ¬ x < y → AW l d M Q (pc + 3) L r σ) : AW l d M Q pc L (aI y :: aI x :: r) σ := by
  intro p e s m args below meth c D cA ad H locs ls C0 C1 hl
  obtain ⟨hx1, hb, -⟩ := id C0
  have hi := aIn_lt hx hy
  exact lv_icmp_lt hx1 hb hd ht (fun h => kt (hi.mp h) p e s m args below meth c D cA ad H locs ls C0 C1 hl) (fun h => kf (fun q => h (hi.mpr q)) p e s m args below meth c D cA ad H locs ls C0 C1 hl)
theorem aw_ilt {x : Int} {r : List aV} {off : Int} {tgt : Nat} (hd : decode M.2.1 pc = .ok (.ifCond .lt off, 3)) (ht : (pc : Int) + off = (tgt : Int)) (hx : aIr x) (kt : x < 0 → AW l d M Q tgt L r σ) (kf : ¬ x < 0 → AW l d M Q (pc + 3) L r σ) : AW l d M Q pc L (aI x :: r) σ := by
  intro p e s m args below meth c D cA ad H locs ls C0 C1 hl
  obtain ⟨hx1, hb, -⟩ := id C0
  have hy : aIr 0 := by decide
  have hi := aIn_lt hx hy
  exact lv_if_lt hx1 hb hd ht (fun h => kt (hi.mp h) p e s m args below meth c D cA ad H locs ls C0 C1 hl) (fun h => kf (fun q => h (hi.mpr q)) p e s m args below meth c D cA ad H locs ls C0 C1 hl)
theorem aw_cge {x y : Int} {r : List aV} {off : Int} {tgt : Nat} (hd : decode M.2.1 pc = .ok (.if_icmp .ge off, 3)) (ht : (pc : Int) + off = (tgt : Int)) (hx : aIr x) (hy : aIr y) (kt : y ≤ x → AW l d M Q tgt L r σ) (kf : ¬ y ≤ x → AW l d M Q (pc + 3) L r σ) : AW l d M Q pc L (aI y :: aI x :: r) σ := by
  intro p e s m args below meth c D cA ad H locs ls C0 C1 hl
  obtain ⟨hx1, hb, -⟩ := id C0
  have hi := aIn_le hy hx
  exact lv_icmp_ge hx1 hb hd ht (fun h => kt (hi.mp h) p e s m args below meth c D cA ad H locs ls C0 C1 hl) (fun h => kf (fun q => h (hi.mpr q)) p e s m args below meth c D cA ad H locs ls C0 C1 hl)
theorem aw_ige {x : Int} {r : List aV} {off : Int} {tgt : Nat} (hd : decode M.2.1 pc = .ok (.ifCond .ge off, 3)) (ht : (pc : Int) + off = (tgt : Int)) (hx : aIr x) (kt : 0 ≤ x → AW l d M Q tgt L r σ) (kf : ¬ 0 ≤ x → AW l d M Q (pc + 3) L r σ) : AW l d M Q pc L (aI x :: r) σ := by
  intro p e s m args below meth c D cA ad H locs ls C0 C1 hl
  obtain ⟨hx1, hb, -⟩ := id C0
  have hy : aIr 0 := by decide
  have hi := aIn_le hy hx
  exact lv_if_ge hx1 hb hd ht (fun h => kt (hi.mp h) p e s m args below meth c D cA ad H locs ls C0 C1 hl) (fun h => kf (fun q => h (hi.mpr q)) p e s m args below meth c D cA ad H locs ls C0 C1 hl)
theorem aw_cgt {x y : Int} {r : List aV} {off : Int} {tgt : Nat} (hd : decode M.2.1 pc = .ok (.if_icmp .gt off, 3)) (ht : (pc : Int) + off = (tgt : Int)) (hx : aIr x) (hy : aIr y) (kt : y < x → AW l d M Q tgt L r σ) (kf : ¬ y < x → AW l d M Q (pc + 3) L r σ) : AW l d M Q pc L (aI y :: aI x :: r) σ := by
  intro p e s m args below meth c D cA ad H locs ls C0 C1 hl
  obtain ⟨hx1, hb, -⟩ := id C0
  have hi := aIn_lt hy hx
  exact lv_icmp_gt hx1 hb hd ht (fun h => kt (hi.mp h) p e s m args below meth c D cA ad H locs ls C0 C1 hl) (fun h => kf (fun q => h (hi.mpr q)) p e s m args below meth c D cA ad H locs ls C0 C1 hl)
theorem aw_igt {x : Int} {r : List aV} {off : Int} {tgt : Nat} (hd : decode M.2.1 pc = .ok (.ifCond .gt off, 3)) (ht : (pc : Int) + off = (tgt : Int)) (hx : aIr x) (kt : 0 < x → AW l d M Q tgt L r σ) (kf : ¬ 0 < x → AW l d M Q (pc + 3) L r σ) : AW l d M Q pc L (aI x :: r) σ := by
  intro p e s m args below meth c D cA ad H locs ls C0 C1 hl
  obtain ⟨hx1, hb, -⟩ := id C0
  have hy : aIr 0 := by decide
  have hi := aIn_lt hy hx
  exact lv_if_gt hx1 hb hd ht (fun h => kt (hi.mp h) p e s m args below meth c D cA ad H locs ls C0 C1 hl) (fun h => kf (fun q => h (hi.mpr q)) p e s m args below meth c D cA ad H locs ls C0 C1 hl)
theorem aw_cle {x y : Int} {r : List aV} {off : Int} {tgt : Nat} (hd : decode M.2.1 pc = .ok (.if_icmp .le off, 3)) (ht : (pc : Int) + off = (tgt : Int)) (hx : aIr x) (hy : aIr y) (kt : x ≤ y → AW l d M Q tgt L r σ) (kf : ¬ x ≤ y → AW l d M Q (pc + 3) L r σ) : AW l d M Q pc L (aI y :: aI x :: r) σ := by
  intro p e s m args below meth c D cA ad H locs ls C0 C1 hl
  obtain ⟨hx1, hb, -⟩ := id C0
  have hi := aIn_le hx hy
  exact lv_icmp_le hx1 hb hd ht (fun h => kt (hi.mp h) p e s m args below meth c D cA ad H locs ls C0 C1 hl) (fun h => kf (fun q => h (hi.mpr q)) p e s m args below meth c D cA ad H locs ls C0 C1 hl)
theorem aw_ile {x : Int} {r : List aV} {off : Int} {tgt : Nat} (hd : decode M.2.1 pc = .ok (.ifCond .le off, 3)) (ht : (pc : Int) + off = (tgt : Int)) (hx : aIr x) (kt : x ≤ 0 → AW l d M Q tgt L r σ) (kf : ¬ x ≤ 0 → AW l d M Q (pc + 3) L r σ) : AW l d M Q pc L (aI x :: r) σ := by
  intro p e s m args below meth c D cA ad H locs ls C0 C1 hl
  obtain ⟨hx1, hb, -⟩ := id C0
  have hy : aIr 0 := by decide
  have hi := aIn_le hx hy
  exact lv_if_le hx1 hb hd ht (fun h => kt (hi.mp h) p e s m args below meth c D cA ad H locs ls C0 C1 hl) (fun h => kf (fun q => h (hi.mpr q)) p e s m args below meth c D cA ad H locs ls C0 C1 hl)
/-- a switch by a table -/
def aTgt (pc : Nat) (dflt lo hi : Int) (offs : Array Int) (x : Int) : Int := if x < lo ∨ hi < x then pc + dflt else pc + offs.getD (x - lo).toNat 0
theorem aw_tsw {dflt lo hi : Int} {offs : Array Int} {len : Nat} {x : Int} {r : List aV} {tgt : Nat} (hd : decode M.2.1 pc = .ok (.tableswitch dflt lo hi offs, len)) (hx : aIr x) (hn : (offs.size : Int) = hi - lo + 1) (ht : aTgt pc dflt lo hi offs x = (tgt : Int)) (k : AW l d M Q tgt L r σ) : AW l d M Q pc L (aI x :: r) σ := by
  intro p e s m args below meth c D cA ad H locs ls C0 C1 hl
  obtain ⟨hx1, hb, -⟩ := id C0
  have K := k p e s m args below meth c D cA ad H locs ls C0 C1 hl
  unfold aTgt at ht
  have e1 := aIn_toInt hx
  split at ht
  · rename_i h
    exact lv_tableOut hx1 hb hd (by rw [e1]; exact h) ht K
  · rename_i h
    have h1 : ¬ x < lo := fun q => h (Or.inl q)
    have h2 : ¬ hi < x := fun q => h (Or.inr q)
    refine lv_tableIn (off := offs.getD (x - lo).toNat 0) hx1 hb hd (by rw [e1]; exact h1) (by rw [e1]; exact h2) ?_ ht K
    rw [e1]
    have hlt : (x - lo).toNat < offs.size := by omega
    simp [Array.getD, hlt]
/-- a switch by pairs -/
theorem aw_lsw {dflt : Int} {ps : Array (Int × Int)} {len : Nat} {x off : Int} {r : List aV} {tgt : Nat} (hd : decode M.2.1 pc = .ok (.lookupswitch dflt ps, len)) (hp : (ps.toList.zip (ps.toList.drop 1)).all (fun (a, next) => a.1 < next.1) = true) (hx : aIr x) (ho : Op.lookupswitch.offset ps.toList dflt x = off) (ht : (pc : Int) + off = (tgt : Int)) (k : AW l d M Q tgt L r σ) : AW l d M Q pc L (aI x :: r) σ := by
  intro p e s m args below meth c D cA ad H locs ls C0 C1 hl
  obtain ⟨hx1, hb, -⟩ := id C0
  exact lv_lookup hx1 hb hd hp (by rw [aIn_toInt hx]; exact ho) ht (k p e s m args below meth c D cA ad H locs ls C0 C1 hl)
/-- ends -/
theorem aw_iret {x : Int} (hd : decode M.2.1 pc = .ok (.ireturn, 1)) (hr : M.2.2.2.1 = some .int) (hq : Q (some (aI x)) σ) : AW l d M Q pc L [aI x] σ := by
  intro p e s m args below meth c D cA ad H locs ls C0 C1 hl
  obtain ⟨hx, hb, hml, hr0, hlk, hown, hts, hK, hN⟩ := id C0
  obtain ⟨hP, hD, hS⟩ := id C1
  exact W.iret hx hb (hr0.trans hr) (fun t ht hW => ⟨⟨some (aI x), σ, rfl, hq, by rw [ht]; exact hP⟩, hS.F ht⟩) hS.2.2 hd
theorem aw_zret {x : Int} (hd : decode M.2.1 pc = .ok (.ireturn, 1)) (hr : M.2.2.2.1 = some .boolean) (h01 : x = 0 ∨ x = 1) (hq : Q (some (aI x)) σ) : AW l d M Q pc L [aI x] σ := by
  intro p e s m args below meth c D cA ad H locs ls C0 C1 hl
  obtain ⟨hx, hb, hml, hr0, hlk, hown, hts, hK, hN⟩ := id C0
  obtain ⟨hP, hD, hS⟩ := id C1
  exact W.zret hx hb (hr0.trans hr) (by rcases h01 with rfl | rfl <;> decide +kernel) (fun t ht hW => ⟨⟨some (aI x), σ, rfl, hq, by rw [ht]; exact hP⟩, hS.F ht⟩) hS.2.2 hd
theorem aw_lret {x : Int} (hd : decode M.2.1 pc = .ok (.lreturn, 1)) (hr : M.2.2.2.1 = some .long) (hq : Q (some (aL x)) σ) : AW l d M Q pc L [aL x] σ := by
  intro p e s m args below meth c D cA ad H locs ls C0 C1 hl
  obtain ⟨hx, hb, hml, hr0, hlk, hown, hts, hK, hN⟩ := id C0
  obtain ⟨hP, hD, hS⟩ := id C1
  exact W.lret hx hb (hr0.trans hr) (fun t ht hW => ⟨⟨some (aL x), σ, rfl, hq, by rw [ht]; exact hP⟩, hS.F ht⟩) hS.2.2 hd
theorem aw_vret (hd : decode M.2.1 pc = .ok (.return_, 1)) (hr : M.2.2.2.1 = none) (hq : Q none σ) : AW l d M Q pc L [] σ := by
  intro p e s m args below meth c D cA ad H locs ls C0 C1 hl
  obtain ⟨hx, hb, hml, hr0, hlk, hown, hts, hK, hN⟩ := id C0
  obtain ⟨hP, hD, hS⟩ := id C1
  exact W.vret hx hb (hr0.trans hr) (fun t ht hW => ⟨⟨none, σ, rfl, hq, by rw [ht]; exact hP⟩, hS.F ht⟩) hS.2.2 hd
/-- the locals with which a method begins -/
def aEn : List aV → aLs
  | [] => []
  | v :: t => if aLg (some v) then some v :: none :: aEn t else some v :: aEn t
theorem aEn_len (ad : Nat → Nat → Nat) : ∀ as : List aV, (aEn as).length = (lg_sl (as.map (cV ad))).length := by
  intro as
  induction as with
  | nil => rfl
  | cons v t ih =>
    unfold aEn
    rw [List.map_cons]
    unfold lg_sl at ih ⊢
    rw [List.flatMap_cons, List.length_append, ← ih]
    rcases v with x | y | ⟨q1, q2⟩
    · show (aEn t).length + 1 = 1 + _; omega
    · show (aEn t).length + 1 + 1 = 2 + _; omega
    · show (aEn t).length + 1 = 1 + _; omega
theorem aEn_in (ad : Nat → Nat → Nat) (n : Nat) : ∀ (as : List aV) (i : Nat), ∀ q ∈ aAs ad i (aEn as ++ List.replicate n none), q ∈ lv_args i (as.map (cV ad)) := by
  intro as
  induction as with
  | nil =>
    intro i q hq
    exfalso
    obtain ⟨j, v, h1, -⟩ := aAs_mem.mp hq
    unfold aEn at h1
    rw [List.nil_append] at h1
    have := List.eq_of_mem_replicate (List.mem_of_getElem? h1)
    cases this
  | cons v t ih =>
    intro i q hq
    rw [List.map_cons]
    unfold lv_args
    unfold aEn at hq
    rcases v with x | y | ⟨q1, q2⟩
    · rcases List.mem_cons.mp hq with h | h
      · exact List.mem_cons.mpr (Or.inl h)
      · exact List.mem_cons.mpr (Or.inr (ih _ _ h))
    · rcases List.mem_cons.mp hq with h | h
      · exact List.mem_cons.mpr (Or.inl h)
      · exact List.mem_cons.mpr (Or.inr (ih _ _ h))
    · rcases List.mem_cons.mp hq with h | h
      · exact List.mem_cons.mpr (Or.inl h)
      · exact List.mem_cons.mpr (Or.inr (ih _ _ h))
/-- a contract, from its entry -/
theorem am_of {as : List aV} (hy : plainName M.1.cls = true) (hn : (aEn as).length ≤ M.2.2.1) (hL : aEn as ++ List.replicate (M.2.2.1 - (aEn as).length) none = L) (k : AW l d M Q 0 L [] σ) : AM l d M as σ Q := by
  intro D cA ad
  refine Met.ofW (cc := M.2.1) (maxL := M.2.2.1) (ret := M.2.2.2.1) hy rfl ?_
  intro p e s m args below meth c s₁ B hml hv
  obtain ⟨rfl, hP, hK, hD, hN⟩ := hv
  have hts := atoms_spec (ws := aWs M) B.pre
  have hown : s.vm.findClass M.1.cls = some m.cls := findClass_of_methodNamed B.named
  have hln := aEn_len ad as
  have hl := lv_entry (as.map (cV ad)) (n := M.2.2.1) (by rw [← hln]; exact hn)
  rw [lg_entry_eq]
  refine k p e s m _ below meth c D cA ad s.heap [] _ ⟨B.exec, B.bytes, hml, B.returns, B.notSynchronized, hown, hts, hK, hN⟩ ⟨hP, hD, va_S.rf⟩ ⟨?_, lv_mono hl ?_⟩
  · rw [← hL, List.length_append, List.length_replicate]; omega
  · rw [← hL]
    exact aEn_in ad _ as 0
theorem am_post {as : List aV} {Q' : Option aV → aS → Prop} (hq : ∀ r σ', Q r σ' → Q' r σ') (k : AM l d M as σ Q) : AM l d M as σ Q' := by
  intro D cA ad p e ha hc hk s m args below hf happ hP hX
  obtain ⟨t, o, h1, h2, h3, ⟨⟨⟨r, σ', c1, c2, c3⟩, c4⟩, b4⟩⟩ := k D cA ad p e ha hc hk s m args below hf happ hP hX
  exact ⟨t, o, h1, h2, h3, ⟨⟨r, σ', c1, hq _ _ c2, c3⟩, c4⟩, b4⟩
end Rules
section CallRules
variable {l : Launch} {d d' : Nat} {M M' : aMt} {Q Q' : Option aV → aS → Prop} {pc : Nat} {L : aLs} {st : List aV} {σ : aS}
theorem aPc_blind {ad : Nat → Nat → Nat} {cA : ClassId} {D : va_G} {as : List aV} {σ : aS} : FrameBlind (aPc ad cA D as σ) := by
  intro a U g mk q
  obtain ⟨q0, qP, qK, qD, qN⟩ := q
  exact ⟨q0, qP, va_K.moved (u := U) (U := U.calling g mk a) (Vm.Alike.refl U.vm) qK, qD, aNe_same rfl qN⟩
theorem aPc_at {ad : Nat → Nat → Nat} {cA : ClassId} {D : va_G} {as : List aV} {σ : aS} {s : State} {H : Heap} {locs : List Loc} {vs : List Value} (hv : vs = as.map (cV ad)) (C1 : aIs ad cA D s σ H locs) (hK : va_K D aCl [(cA, .int)] s) (hN : aNe s) : ∀ U : State, U.heap = H → s.WarmedH U.vm → aPc ad cA D as σ vs.toArray U := by
  intro U hU hW
  exact ⟨by rw [hv], by rw [hU]; exact C1.1, va_K.moved hW.alike hK, C1.2.1, aNe_warm hW hN⟩
/-- what a call gives back -/
theorem aw_back {p : Program} {e : Env} {s : State} {m : MethodId} {args : Array Value} {below : List Frame} {meth : Method} {c : Code} {D : va_G} {cA : ClassId} {ad : Nat → Nat → Nat} {H : Heap} {locs : List Loc} {ls : Array Slot} {g : List Value} {rest : List aV} {a : Array Value}
    (C0 : aAt M p s m args meth c D cA) (C1 : aIs ad cA D s σ H locs) (hl : aLoc ad M.2.2.1 L ls)
    (hr : va_Run p l e (aRm d) s m args below meth c H locs 0 0 0 0 (F0 m pc ls g) (rest.map (cV ad)) (aQ ad cA D Q' a) (aA ad))
    (k : ∀ r σ', Q' r σ' → AW l d M Q (pc + 3) L (r.toList ++ rest) σ') : W p l e (aRm d) s m args below meth c H locs 0 0 (MQ below (aQ ad cA D Q) args s 0 0 (aA ad)) (F0 m pc ls g) := by
  intro T hT X
  obtain ⟨v, st₀, t, T', Lc, h0, X', hLc, e1, e2, ⟨⟨r, σ', hv, hq, hP'⟩, hz, hkk⟩, stp⟩ := hr T hT X
  have hv2 : v = r.map (cV ad) := by cases hv; rfl
  subst hv2
  rw [h0] at hz hkk
  obtain ⟨hP, hD, hS⟩ := C1
  have hD' : va_D (aA ad) (aWo ad cA σ') := by
    refine ⟨fun i j pq qq hi hj he => ?_, fun kq qq hkq => ?_⟩
    · unfold aWo at hi hj
      rw [List.getElem?_map] at hi hj
      cases hi2 : aPl[i]? with
      | none => rw [hi2] at hi; cases hi
      | some x1 =>
        cases hj2 : aPl[j]? with
        | none => rw [hj2] at hj; cases hj
        | some x2 =>
          rw [hi2] at hi
          rw [hj2] at hj
          cases hi
          cases hj
          exact hD.1 i j _ _ (aWo_at hi2) (aWo_at hj2) he
    · unfold aWo at hkq
      rw [List.getElem?_map] at hkq
      cases hi2 : aPl[kq]? with
      | none => rw [hi2] at hkq; cases hkq
      | some x1 =>
        rw [hi2] at hkq
        cases hkq
        exact hD.2 kq (ad x1.1 x1.2, aCell ad cA σ x1.1 x1.2) (aWo_at hi2)
  have C1' : aIs ad cA D s σ' T'.heap (locs ++ Lc) := by
    refine ⟨by rw [e1]; exact hP', hD', ⟨Nat.le_trans hS.1 (by rw [e1]; exact hz), fun q h1 h2 => ?_, fun q hq => ?_⟩⟩
    · rw [e1, hkk q (Nat.lt_of_lt_of_le h1 hS.1) h2]; exact hS.2.1 q h1 h2
    · rcases List.mem_append.mp hq with h | h
      · exact hS.2.2 q h
      · exact hLc q h
  have hmap : (r.toList ++ rest).map (cV ad) = (r.map (cV ad)).toList ++ rest.map (cV ad) := by
    cases r <;> rfl
  have K := k r σ' hq p e s m args below meth c D cA ad T'.heap (locs ++ Lc) ls C0 C1' hl
  rw [hmap] at K
  obtain ⟨t2, a1, b1⟩ := K T' rfl X'
  exact ⟨t2, stp t2 a1, b1⟩
def aCat (st : List aV) : Nat := (st.map fun v => if aLg (some v) then 2 else 1).sum
theorem aCat_eq (ad : Nat → Nat → Nat) (st : List aV) : ((st.map (cV ad)).map fun v => v.category).sum = aCat st := by
  unfold aCat
  rw [List.map_map]
  congr 1
  apply List.map_congr_left
  intro v _
  rcases v with x | y | ⟨t, c⟩ <;> rfl
/-- a call of a method of an object, linked -/
def aLV (own : String) (idx : Nat) (M' : aMt) (n ci : Nat) : Prop :=
  (Cond.methodLink own idx M'.1 ∈ aTbl ∧ Cond.instanceMethod M'.1 ∈ aTbl ∧ Cond.selects M'.1.cls M'.1 M'.1 ∈ aTbl ∧ Cond.initialized M'.1.cls ∈ aTbl ∧ Cond.code M'.1 M'.2.1 M'.2.2.1 M'.2.2.2.1 ∈ aTbl) ∧
  (M'.1.cls = M'.1.cls ∧ M'.1.cls ≠ "java/lang/invoke/MethodHandle" ∧ M'.1.cls ≠ "java/lang/invoke/VarHandle" ∧ (parseMethodDescriptor M'.1.desc).map (fun d => d.parameters.length) = some n) ∧ M'.2.2.1 ≤ 19 ∧ ∃ r : vw_C, aCl[ci]? = some r ∧ r.1 = M'.1.cls
def aLS (own : String) (idx : Nat) (M' : aMt) (n : Nat) : Prop :=
  (Cond.methodLink own idx M'.1 ∈ aTbl ∧ Cond.static M'.1 ∈ aTbl ∧ Cond.initialized M'.1.cls ∈ aTbl ∧ Cond.code M'.1 M'.2.1 M'.2.2.1 M'.2.2.2.1 ∈ aTbl) ∧
  (M'.1.cls ≠ "java/lang/invoke/MethodHandle" ∧ M'.1.cls ≠ "java/lang/invoke/VarHandle" ∧ (parseMethodDescriptor M'.1.desc).map (fun d => d.parameters.length) = some n) ∧ M'.2.2.1 ≤ 19
def aLN (own : String) (idx : Nat) (M' : aMt) (n : Nat) : Prop :=
  ((own, idx, M'.1, "OnlyInDisguise") ∈ aNq ∧ Cond.static M'.1 ∈ aTbl ∧ Cond.initialized M'.1.cls ∈ aTbl ∧ Cond.code M'.1 M'.2.1 M'.2.2.1 M'.2.2.2.1 ∈ aTbl) ∧
  (M'.1.cls ≠ "java/lang/invoke/MethodHandle" ∧ M'.1.cls ≠ "java/lang/invoke/VarHandle" ∧ (parseMethodDescriptor M'.1.desc).map (fun d => d.parameters.length) = some n) ∧ M'.2.2.1 ≤ 19
theorem aWs_good {M M' : aMt} (h : Cond.code M'.1 M'.2.1 M'.2.2.1 M'.2.2.2.1 ∈ aTbl) : GoodIn (aWs M) (aWs M') := by
  intro w hw
  have hw2 : w ∈ aTbl := (List.mem_cons.mp hw).elim (fun e => by rw [e]; exact h) id
  exact ⟨List.mem_cons_of_mem _ hw2, (aTbl_good w hw2).2⟩
theorem aRm_fit {M' : aMt} (hm : M'.2.2.1 ≤ 19) (hd : d' + 1 ≤ d) : (aRm d').frames + 1 ≤ (aRm d).frames ∧ 8 + (M'.2.2.1 + 11) + (aRm d').locals ≤ (aRm d).locals := by
  refine ⟨hd, ?_⟩
  show 8 + (M'.2.2.1 + 11) + 38 * d' ≤ 38 * d
  omega
theorem aw_callV {idx n ci t c : Nat} {as rest : List aV} (lk : aLV M.1.cls idx M' n ci) (hd : d' + 1 ≤ d) (ht : t < 32) (hc : c < aCnt t) (hcl : aCls t = some ci) (hn : as.length = n) (hr : aCat rest ≤ 8) (hst : st = as.reverse ++ aR t c :: rest) (hdg : decode M.2.1 pc = .ok (.invokevirtual idx, 3)) (hm : AM l d' M' (aR t c :: as) σ Q') (k : ∀ r σ', Q' r σ' → AW l d M Q (pc + 3) L (r.toList ++ rest) σ') : AW l d M Q pc L st σ := by
  intro p e s m args below meth c2 D cA ad H locs ls C0 C1 hl
  obtain ⟨hx, hb, hml, hr0, hlk, hown, hts, hK, hN⟩ := id C0
  obtain ⟨⟨l1, l2, l3, l4, l5⟩, l6, l7, rc, l8, l9⟩ := lk
  subst hst
  have hin : ∀ w ∈ aTbl, w ∈ aWs M := fun w hw => List.mem_cons_of_mem _ hw
  have hG : GoodIn (aWs M) (wsV M.1.cls idx M'.1.cls M'.1 (aWs M')) := by
    intro w hw
    unfold wsV at hw
    rcases List.mem_append.mp hw with h | h
    · have hw2 : w ∈ aTbl := by
        simp only [List.mem_cons, List.not_mem_nil, or_false] at h
        rcases h with rfl | rfl | rfl | rfl
        · exact l1
        · exact l2
        · exact l3
        · exact l4
      exact ⟨hin w hw2, (aTbl_good w hw2).2⟩
    · exact aWs_good l5 w h
  obtain ⟨q0, hq0⟩ := aPl_at ht hc
  have e1 := aWo_at (ad := ad) (cA := cA) (σ := σ) hq0
  unfold aCell at e1
  rw [hcl] at e1
  have hrec := va_recv hK C1.1 l8 e1
  rw [l9] at hrec
  refine aw_back C0 C1 hl (va_runV (As := as.map (cV ad)) (rest := rest.map (cV ad)) (b := ad t c) ⟨hx, hb, hml, hown, hts⟩ (hm D cA ad) (cwV n hts hG rfl rfl rfl l6 (aRm_fit l7 hd)) ⟨aPc_blind, hrec, aPc_at rfl C1 hK hN⟩ rfl (by rw [List.length_map]; exact hn) hl.2.1 ?_ (lv_room (by rw [aCat_eq]; exact hr)) hdg ⟨Nat.zero_le _, Nat.zero_le _⟩) k
  show (as.reverse ++ aR t c :: rest).map (cV ad) = _
  rw [List.map_append, List.map_reverse]
  rfl
theorem aw_callS {idx n : Nat} {as rest : List aV} (lk : aLS M.1.cls idx M' n) (hd : d' + 1 ≤ d) (hn : as.length = n) (hr : aCat rest ≤ 8) (hst : st = as.reverse ++ rest) (hdg : decode M.2.1 pc = .ok (.invokestatic idx, 3)) (hm : AM l d' M' as σ Q') (k : ∀ r σ', Q' r σ' → AW l d M Q (pc + 3) L (r.toList ++ rest) σ') : AW l d M Q pc L st σ := by
  intro p e s m args below meth c2 D cA ad H locs ls C0 C1 hl
  obtain ⟨hx, hb, hml, hr0, hlk, hown, hts, hK, hN⟩ := id C0
  obtain ⟨⟨l1, l2, l4, l5⟩, l6, l7⟩ := lk
  subst hst
  have hws : ∀ w ∈ aTbl, w.before args s = true := fun w hw => hts w (List.mem_cons_of_mem _ hw)
  refine aw_back C0 C1 hl (va_runS (As := as.map (cV ad)) (rest := rest.map (cV ad)) ⟨hx, hb, hml, hown, hts⟩ (hm D cA ad) ⟨callB_of n hts (aWs_good l5) rfl rfl rfl (hws _ l4) (hws _ l1) l6 (aRm_fit l7 hd), hws _ l2⟩ ⟨aPc_blind, aPc_at rfl C1 hK hN⟩ rfl (by rw [List.length_map]; exact hn) hl.2.1 ?_ (lv_room (by rw [aCat_eq]; exact hr)) hdg ⟨Nat.zero_le _, Nat.zero_le _⟩) k
  show (as.reverse ++ rest).map (cV ad) = _
  rw [List.map_append, List.map_reverse]
theorem aw_callN {idx n : Nat} {as rest : List aV} (lk : aLN M.1.cls idx M' n) (hd : d' + 1 ≤ d) (hn : as.length = n) (hr : aCat rest ≤ 8) (hst : st = as.reverse ++ rest) (hdg : decode M.2.1 pc = .ok (.invokestatic idx, 3)) (hm : AM l d' M' as σ Q') (k : ∀ r σ', Q' r σ' → AW l d M Q (pc + 3) L (r.toList ++ rest) σ') : AW l d M Q pc L st σ := by
  intro p e s m args below meth c2 D cA ad H locs ls C0 C1 hl
  obtain ⟨hx, hb, hml, hr0, hlk, hown, hts, hK, hN⟩ := id C0
  obtain ⟨⟨l1, l2, l4, l5⟩, l6, l7⟩ := lk
  subst hst
  have hws : ∀ w ∈ aTbl, w.before args s = true := fun w hw => hts w (List.mem_cons_of_mem _ hw)
  refine aw_back C0 C1 hl (va_runSN (As := as.map (cV ad)) (rest := rest.map (cV ad)) (host := "OnlyInDisguise") ⟨hx, hb, hml, hown, hts⟩ (hm D cA ad) ⟨va_cnB n hts (aWs_good l5) rfl rfl rfl (hN _ l1) (hws _ l4) l6 (aRm_fit l7 hd), hws _ l2, trivial⟩ ⟨aPc_blind, aPc_at rfl C1 hK hN⟩ rfl (by rw [List.length_map]; exact hn) hl.2.1 ?_ (lv_room (by rw [aCat_eq]; exact hr)) hdg ⟨Nat.zero_le _, Nat.zero_le _⟩) k
  show (as.reverse ++ rest).map (cV ad) = _
  rw [List.map_append, List.map_reverse]
end CallRules
end
section
/-! ===== methods and constant pools ===== -/
def kX0 : aK := ([(9, 0, 0), (15, 0, 1), (18, 0, 2), (21, 0, 3), (24, 0, 4), (28, 0, 5), (31, 0, 6), (34, 0, 7), (37, 0, 8), (40, 0, 9), (43, 0, 10)], [], [])
set_option maxRecDepth 20000 in
theorem kX0_ok : aKok "OnlyInDisguise$Cabinet" kX0 := ⟨List.forall_mem_cons.mpr ⟨⟨(RX0, TX0, 11), rfl, by decide, in_aTbl 76 (by decide +kernel) rfl, rfl⟩, List.forall_mem_cons.mpr ⟨⟨(RX0, TX0, 11), rfl, by decide, in_aTbl 79 (by decide +kernel) rfl, rfl⟩, List.forall_mem_cons.mpr ⟨⟨(RX0, TX0, 11), rfl, by decide, in_aTbl 82 (by decide +kernel) rfl, rfl⟩, List.forall_mem_cons.mpr ⟨⟨(RX0, TX0, 11), rfl, by decide, in_aTbl 84 (by decide +kernel) rfl, rfl⟩, List.forall_mem_cons.mpr ⟨⟨(RX0, TX0, 11), rfl, by decide, in_aTbl 86 (by decide +kernel) rfl, rfl⟩, List.forall_mem_cons.mpr ⟨⟨(RX0, TX0, 11), rfl, by decide, in_aTbl 88 (by decide +kernel) rfl, rfl⟩, List.forall_mem_cons.mpr ⟨⟨(RX0, TX0, 11), rfl, by decide, in_aTbl 90 (by decide +kernel) rfl, rfl⟩, List.forall_mem_cons.mpr ⟨⟨(RX0, TX0, 11), rfl, by decide, in_aTbl 93 (by decide +kernel) rfl, rfl⟩, List.forall_mem_cons.mpr ⟨⟨(RX0, TX0, 11), rfl, by decide, in_aTbl 95 (by decide +kernel) rfl, rfl⟩, List.forall_mem_cons.mpr ⟨⟨(RX0, TX0, 11), rfl, by decide, in_aTbl 97 (by decide +kernel) rfl, rfl⟩, List.forall_mem_cons.mpr ⟨⟨(RX0, TX0, 11), rfl, by decide, in_aTbl 100 (by decide +kernel) rfl, rfl⟩, fun _ h => absurd h List.not_mem_nil⟩⟩⟩⟩⟩⟩⟩⟩⟩⟩⟩, fun _ h => absurd h List.not_mem_nil, fun _ h => absurd h List.not_mem_nil⟩
def kX1 : aK := ([(22, 0, 0), (9, 1, 0), (15, 1, 1), (18, 1, 2)], [], [])
set_option maxRecDepth 20000 in
theorem kX1_ok : aKok "OnlyInDisguise$Casting" kX1 := ⟨List.forall_mem_cons.mpr ⟨⟨(RX0, TX0, 11), rfl, by decide, in_aTbl 77 (by decide +kernel) rfl, rfl⟩, List.forall_mem_cons.mpr ⟨⟨(RX1, TX1, 3), rfl, by decide, in_aTbl 157 (by decide +kernel) rfl, rfl⟩, List.forall_mem_cons.mpr ⟨⟨(RX1, TX1, 3), rfl, by decide, in_aTbl 158 (by decide +kernel) rfl, rfl⟩, List.forall_mem_cons.mpr ⟨⟨(RX1, TX1, 3), rfl, by decide, in_aTbl 159 (by decide +kernel) rfl, rfl⟩, fun _ h => absurd h List.not_mem_nil⟩⟩⟩⟩, fun _ h => absurd h List.not_mem_nil, fun _ h => absurd h List.not_mem_nil⟩
def kX2 : aK := ([(7, 2, 0)], [(13, 1103515245), (14, 2147483647), (15, 65536)], [])
set_option maxRecDepth 20000 in
theorem kX2_ok : aKok "OnlyInDisguise$Draws" kX2 := ⟨List.forall_mem_cons.mpr ⟨⟨(RX2, TX2, 1), rfl, by decide, in_aTbl 173 (by decide +kernel) rfl, rfl⟩, fun _ h => absurd h List.not_mem_nil⟩, List.forall_mem_cons.mpr ⟨in_aTbl 641 (by decide +kernel) rfl, List.forall_mem_cons.mpr ⟨in_aTbl 642 (by decide +kernel) rfl, List.forall_mem_cons.mpr ⟨in_aTbl 643 (by decide +kernel) rfl, fun _ h => absurd h List.not_mem_nil⟩⟩⟩, fun _ h => absurd h List.not_mem_nil⟩
def kX3 : aK := ([], [], [])
set_option maxRecDepth 20000 in
theorem kX3_ok : aKok "OnlyInDisguise$Kinds" kX3 := ⟨fun _ h => absurd h List.not_mem_nil, fun _ h => absurd h List.not_mem_nil, fun _ h => absurd h List.not_mem_nil⟩
def kX4 : aK := ([(11, 3, 0), (15, 3, 1), (18, 3, 2), (21, 3, 3), (24, 3, 4), (27, 3, 5)], [(52, (-2147483648))], [])
set_option maxRecDepth 20000 in
theorem kX4_ok : aKok "OnlyInDisguise$Shelves" kX4 := ⟨List.forall_mem_cons.mpr ⟨⟨(RX4, TX4, 6), rfl, by decide, in_aTbl 132 (by decide +kernel) rfl, rfl⟩, List.forall_mem_cons.mpr ⟨⟨(RX4, TX4, 6), rfl, by decide, in_aTbl 133 (by decide +kernel) rfl, rfl⟩, List.forall_mem_cons.mpr ⟨⟨(RX4, TX4, 6), rfl, by decide, in_aTbl 134 (by decide +kernel) rfl, rfl⟩, List.forall_mem_cons.mpr ⟨⟨(RX4, TX4, 6), rfl, by decide, in_aTbl 135 (by decide +kernel) rfl, rfl⟩, List.forall_mem_cons.mpr ⟨⟨(RX4, TX4, 6), rfl, by decide, in_aTbl 136 (by decide +kernel) rfl, rfl⟩, List.forall_mem_cons.mpr ⟨⟨(RX4, TX4, 6), rfl, by decide, in_aTbl 137 (by decide +kernel) rfl, rfl⟩, fun _ h => absurd h List.not_mem_nil⟩⟩⟩⟩⟩⟩, List.forall_mem_cons.mpr ⟨in_aTbl 561 (by decide +kernel) rfl, fun _ h => absurd h List.not_mem_nil⟩, fun _ h => absurd h List.not_mem_nil⟩
def kX5 : aK := ([(55, 0, 1), (80, 0, 6), (65, 0, 9)], [], [])
set_option maxRecDepth 20000 in
theorem kX5_ok : aKok "OnlyInDisguise$Text" kX5 := ⟨List.forall_mem_cons.mpr ⟨⟨(RX0, TX0, 11), rfl, by decide, in_aTbl 81 (by decide +kernel) rfl, rfl⟩, List.forall_mem_cons.mpr ⟨⟨(RX0, TX0, 11), rfl, by decide, in_aTbl 92 (by decide +kernel) rfl, rfl⟩, List.forall_mem_cons.mpr ⟨⟨(RX0, TX0, 11), rfl, by decide, in_aTbl 99 (by decide +kernel) rfl, rfl⟩, fun _ h => absurd h List.not_mem_nil⟩⟩⟩, fun _ h => absurd h List.not_mem_nil, fun _ h => absurd h List.not_mem_nil⟩
def kX6 : aK := ([(196, 0, 0), (124, 0, 1), (162, 0, 2), (312, 0, 3), (79, 0, 4), (82, 0, 5), (85, 0, 6), (88, 0, 7), (91, 0, 8), (112, 0, 9), (115, 0, 10), (10, 4, 0), (16, 4, 1), (19, 4, 2), (22, 4, 3), (29, 4, 4), (36, 4, 5), (43, 4, 6), (47, 4, 7), (51, 4, 8)], [(220, 1000000001)], [(228, 1000000001)])
set_option maxRecDepth 20000 in
theorem kX6_ok : aKok "OnlyInDisguise" kX6 := ⟨List.forall_mem_cons.mpr ⟨⟨(RX0, TX0, 11), rfl, by decide, in_aTbl 78 (by decide +kernel) rfl, rfl⟩, List.forall_mem_cons.mpr ⟨⟨(RX0, TX0, 11), rfl, by decide, in_aTbl 80 (by decide +kernel) rfl, rfl⟩, List.forall_mem_cons.mpr ⟨⟨(RX0, TX0, 11), rfl, by decide, in_aTbl 83 (by decide +kernel) rfl, rfl⟩, List.forall_mem_cons.mpr ⟨⟨(RX0, TX0, 11), rfl, by decide, in_aTbl 85 (by decide +kernel) rfl, rfl⟩, List.forall_mem_cons.mpr ⟨⟨(RX0, TX0, 11), rfl, by decide, in_aTbl 87 (by decide +kernel) rfl, rfl⟩, List.forall_mem_cons.mpr ⟨⟨(RX0, TX0, 11), rfl, by decide, in_aTbl 89 (by decide +kernel) rfl, rfl⟩, List.forall_mem_cons.mpr ⟨⟨(RX0, TX0, 11), rfl, by decide, in_aTbl 91 (by decide +kernel) rfl, rfl⟩, List.forall_mem_cons.mpr ⟨⟨(RX0, TX0, 11), rfl, by decide, in_aTbl 94 (by decide +kernel) rfl, rfl⟩, List.forall_mem_cons.mpr ⟨⟨(RX0, TX0, 11), rfl, by decide, in_aTbl 96 (by decide +kernel) rfl, rfl⟩, List.forall_mem_cons.mpr ⟨⟨(RX0, TX0, 11), rfl, by decide, in_aTbl 98 (by decide +kernel) rfl, rfl⟩, List.forall_mem_cons.mpr ⟨⟨(RX0, TX0, 11), rfl, by decide, in_aTbl 101 (by decide +kernel) rfl, rfl⟩, List.forall_mem_cons.mpr ⟨⟨(RX6, TX6, 9), rfl, by decide, in_aTbl 177 (by decide +kernel) rfl, rfl⟩, List.forall_mem_cons.mpr ⟨⟨(RX6, TX6, 9), rfl, by decide, in_aTbl 178 (by decide +kernel) rfl, rfl⟩, List.forall_mem_cons.mpr ⟨⟨(RX6, TX6, 9), rfl, by decide, in_aTbl 179 (by decide +kernel) rfl, rfl⟩, List.forall_mem_cons.mpr ⟨⟨(RX6, TX6, 9), rfl, by decide, in_aTbl 180 (by decide +kernel) rfl, rfl⟩, List.forall_mem_cons.mpr ⟨⟨(RX6, TX6, 9), rfl, by decide, in_aTbl 181 (by decide +kernel) rfl, rfl⟩, List.forall_mem_cons.mpr ⟨⟨(RX6, TX6, 9), rfl, by decide, in_aTbl 182 (by decide +kernel) rfl, rfl⟩, List.forall_mem_cons.mpr ⟨⟨(RX6, TX6, 9), rfl, by decide, in_aTbl 183 (by decide +kernel) rfl, rfl⟩, List.forall_mem_cons.mpr ⟨⟨(RX6, TX6, 9), rfl, by decide, in_aTbl 184 (by decide +kernel) rfl, rfl⟩, List.forall_mem_cons.mpr ⟨⟨(RX6, TX6, 9), rfl, by decide, in_aTbl 185 (by decide +kernel) rfl, rfl⟩, fun _ h => absurd h List.not_mem_nil⟩⟩⟩⟩⟩⟩⟩⟩⟩⟩⟩⟩⟩⟩⟩⟩⟩⟩⟩⟩, List.forall_mem_cons.mpr ⟨in_aTbl 543 (by decide +kernel) rfl, fun _ h => absurd h List.not_mem_nil⟩, List.forall_mem_cons.mpr ⟨in_aTbl 587 (by decide +kernel) rfl, fun _ h => absurd h List.not_mem_nil⟩⟩
def kX7 : aK := ([(9, 5, 0), (13, 5, 1), (16, 5, 2), (19, 5, 3), (249, 5, 4), (99, 5, 5), (106, 5, 6), (103, 5, 7), (22, 5, 8), (25, 5, 9), (28, 5, 10), (240, 5, 11), (31, 5, 12), (34, 5, 13), (37, 5, 14), (40, 5, 15), (43, 5, 16), (46, 5, 17), (253, 5, 18)], [(187, 1000000000), (212, 1000000001), (213, (-2147483648)), (243, 1103515245), (244, 2147483647), (245, 65536)], [(228, 1000000001)])
set_option maxRecDepth 20000 in
theorem kX7_ok : aKok "OnlyInDisguiseModel" kX7 := ⟨List.forall_mem_cons.mpr ⟨⟨(RX7, TX7, 19), rfl, by decide, in_aTbl 846 (by decide +kernel) rfl, rfl⟩, List.forall_mem_cons.mpr ⟨⟨(RX7, TX7, 19), rfl, by decide, in_aTbl 847 (by decide +kernel) rfl, rfl⟩, List.forall_mem_cons.mpr ⟨⟨(RX7, TX7, 19), rfl, by decide, in_aTbl 848 (by decide +kernel) rfl, rfl⟩, List.forall_mem_cons.mpr ⟨⟨(RX7, TX7, 19), rfl, by decide, in_aTbl 849 (by decide +kernel) rfl, rfl⟩, List.forall_mem_cons.mpr ⟨⟨(RX7, TX7, 19), rfl, by decide, in_aTbl 850 (by decide +kernel) rfl, rfl⟩, List.forall_mem_cons.mpr ⟨⟨(RX7, TX7, 19), rfl, by decide, in_aTbl 851 (by decide +kernel) rfl, rfl⟩, List.forall_mem_cons.mpr ⟨⟨(RX7, TX7, 19), rfl, by decide, in_aTbl 852 (by decide +kernel) rfl, rfl⟩, List.forall_mem_cons.mpr ⟨⟨(RX7, TX7, 19), rfl, by decide, in_aTbl 853 (by decide +kernel) rfl, rfl⟩, List.forall_mem_cons.mpr ⟨⟨(RX7, TX7, 19), rfl, by decide, in_aTbl 854 (by decide +kernel) rfl, rfl⟩, List.forall_mem_cons.mpr ⟨⟨(RX7, TX7, 19), rfl, by decide, in_aTbl 855 (by decide +kernel) rfl, rfl⟩, List.forall_mem_cons.mpr ⟨⟨(RX7, TX7, 19), rfl, by decide, in_aTbl 856 (by decide +kernel) rfl, rfl⟩, List.forall_mem_cons.mpr ⟨⟨(RX7, TX7, 19), rfl, by decide, in_aTbl 857 (by decide +kernel) rfl, rfl⟩, List.forall_mem_cons.mpr ⟨⟨(RX7, TX7, 19), rfl, by decide, in_aTbl 858 (by decide +kernel) rfl, rfl⟩, List.forall_mem_cons.mpr ⟨⟨(RX7, TX7, 19), rfl, by decide, in_aTbl 859 (by decide +kernel) rfl, rfl⟩, List.forall_mem_cons.mpr ⟨⟨(RX7, TX7, 19), rfl, by decide, in_aTbl 860 (by decide +kernel) rfl, rfl⟩, List.forall_mem_cons.mpr ⟨⟨(RX7, TX7, 19), rfl, by decide, in_aTbl 861 (by decide +kernel) rfl, rfl⟩, List.forall_mem_cons.mpr ⟨⟨(RX7, TX7, 19), rfl, by decide, in_aTbl 862 (by decide +kernel) rfl, rfl⟩, List.forall_mem_cons.mpr ⟨⟨(RX7, TX7, 19), rfl, by decide, in_aTbl 863 (by decide +kernel) rfl, rfl⟩, List.forall_mem_cons.mpr ⟨⟨(RX7, TX7, 19), rfl, by decide, in_aTbl 864 (by decide +kernel) rfl, rfl⟩, fun _ h => absurd h List.not_mem_nil⟩⟩⟩⟩⟩⟩⟩⟩⟩⟩⟩⟩⟩⟩⟩⟩⟩⟩⟩, List.forall_mem_cons.mpr ⟨in_aTbl 1104 (by decide +kernel) rfl, List.forall_mem_cons.mpr ⟨in_aTbl 1153 (by decide +kernel) rfl, List.forall_mem_cons.mpr ⟨in_aTbl 1165 (by decide +kernel) rfl, List.forall_mem_cons.mpr ⟨in_aTbl 1215 (by decide +kernel) rfl, List.forall_mem_cons.mpr ⟨in_aTbl 1216 (by decide +kernel) rfl, List.forall_mem_cons.mpr ⟨in_aTbl 1217 (by decide +kernel) rfl, fun _ h => absurd h List.not_mem_nil⟩⟩⟩⟩⟩⟩, List.forall_mem_cons.mpr ⟨in_aTbl 1182 (by decide +kernel) rfl, fun _ h => absurd h List.not_mem_nil⟩⟩
def kJ6 : aK := ([], [(265, 1431655765), (266, 858993459), (267, 252645135)], [])
set_option maxRecDepth 20000 in
theorem kJ6_ok : aKok "java/lang/Integer" kJ6 := ⟨fun _ h => absurd h List.not_mem_nil, List.forall_mem_cons.mpr ⟨in_aTbl 349 (by decide +kernel) rfl, List.forall_mem_cons.mpr ⟨in_aTbl 350 (by decide +kernel) rfl, List.forall_mem_cons.mpr ⟨in_aTbl 351 (by decide +kernel) rfl, fun _ h => absurd h List.not_mem_nil⟩⟩⟩, fun _ h => absurd h List.not_mem_nil⟩
def kJ9 : aK := ([], [], [])
set_option maxRecDepth 20000 in
theorem kJ9_ok : aKok "java/lang/Math" kJ9 := ⟨fun _ h => absurd h List.not_mem_nil, fun _ h => absurd h List.not_mem_nil, fun _ h => absurd h List.not_mem_nil⟩
def mX0_becomes : aMt := (⟨"OnlyInDisguise$Cabinet", "becomes", "(LOnlyInDisguise$Cabinet;)V"⟩, prog_2_method_2_code, 3, none, kX0)
def mX0_isThere : aMt := (⟨"OnlyInDisguise$Cabinet", "isThere", "(I)Z"⟩, prog_2_method_3_code, 2, some .boolean, kX0)
def mX0_welcome : aMt := (⟨"OnlyInDisguise$Cabinet", "welcome", "(III)I"⟩, prog_2_method_4_code, 5, some .int, kX0)
def mX0_vacate : aMt := (⟨"OnlyInDisguise$Cabinet", "vacate", "(I)V"⟩, prog_2_method_5_code, 3, none, kX0)
def mX0_sendHome : aMt := (⟨"OnlyInDisguise$Cabinet", "sendHome", "(I)V"⟩, prog_2_method_6_code, 2, none, kX0)
def mX0_install : aMt := (⟨"OnlyInDisguise$Cabinet", "install", "(II)V"⟩, prog_2_method_7_code, 3, none, kX0)
def mX0_bearing : aMt := (⟨"OnlyInDisguise$Cabinet", "bearing", "(I)I"⟩, prog_2_method_8_code, 2, some .int, kX0)
def mX0_pass : aMt := (⟨"OnlyInDisguise$Cabinet", "pass", "(I)V"⟩, prog_2_method_9_code, 3, none, kX0)
def mX0_oneDay : aMt := (⟨"OnlyInDisguise$Cabinet", "oneDay", "()V"⟩, prog_2_method_10_code, 3, none, kX0)
def mX0_showing : aMt := (⟨"OnlyInDisguise$Cabinet", "showing", "(I)I"⟩, prog_2_method_11_code, 4, some .int, kX0)
def mX0_fall : aMt := (⟨"OnlyInDisguise$Cabinet", "fall", "(II)V"⟩, prog_2_method_12_code, 4, none, kX0)
def mX0_scandal : aMt := (⟨"OnlyInDisguise$Cabinet", "scandal", "()V"⟩, prog_2_method_13_code, 2, none, kX0)
def mX0_lasting : aMt := (⟨"OnlyInDisguise$Cabinet", "lasting", "(II)I"⟩, prog_2_method_14_code, 5, some .int, kX0)
def mX0_heldIn : aMt := (⟨"OnlyInDisguise$Cabinet", "heldIn", "(I)I"⟩, prog_2_method_15_code, 4, some .int, kX0)
def mX0_heldCount : aMt := (⟨"OnlyInDisguise$Cabinet", "heldCount", "()I"⟩, prog_2_method_16_code, 1, some .int, kX0)
def mX0_heldBits : aMt := (⟨"OnlyInDisguise$Cabinet", "heldBits", "()I"⟩, prog_2_method_17_code, 3, some .int, kX0)
def mX0_knownOfAll : aMt := (⟨"OnlyInDisguise$Cabinet", "knownOfAll", "()I"⟩, prog_2_method_18_code, 3, some .int, kX0)
def mX0_chain : aMt := (⟨"OnlyInDisguise$Cabinet", "chain", "(I)I"⟩, prog_2_method_19_code, 5, some .int, kX0)
def mX0_plainBits : aMt := (⟨"OnlyInDisguise$Cabinet", "plainBits", "()I"⟩, prog_2_method_20_code, 3, some .int, kX0)
def mX0_isPlain : aMt := (⟨"OnlyInDisguise$Cabinet", "isPlain", "(I)Z"⟩, prog_2_method_21_code, 3, some .boolean, kX0)
def mX0_alike : aMt := (⟨"OnlyInDisguise$Cabinet", "alike", "()I"⟩, prog_2_method_22_code, 5, some .int, kX0)
def mX0_closest : aMt := (⟨"OnlyInDisguise$Cabinet", "closest", "()I"⟩, prog_2_method_23_code, 5, some .int, kX0)
def mX1_weigh : aMt := (⟨"OnlyInDisguise$Casting", "weigh", "(LOnlyInDisguise$Cabinet;)V"⟩, prog_3_method_2_code, 4, none, kX1)
def mX1_bestFrom : aMt := (⟨"OnlyInDisguise$Casting", "bestFrom", "(II)I"⟩, prog_3_method_3_code, 5, some .int, kX1)
def mX1_with : aMt := (⟨"OnlyInDisguise$Casting", "with", "(III)I"⟩, prog_3_method_4_code, 4, some .int, kX1)
def mX1_most : aMt := (⟨"OnlyInDisguise$Casting", "most", "()I"⟩, prog_3_method_5_code, 1, some .int, kX1)
def mX1_chosen : aMt := (⟨"OnlyInDisguise$Casting", "chosen", "(I)I"⟩, prog_3_method_6_code, 5, some .int, kX1)
def mX1_firstBest : aMt := (⟨"OnlyInDisguise$Casting", "firstBest", "(II)I"⟩, prog_3_method_7_code, 4, some .int, kX1)
def mX2_start : aMt := (⟨"OnlyInDisguise$Draws", "start", "(I)V"⟩, prog_4_method_2_code, 2, none, kX2)
def mX2_below : aMt := (⟨"OnlyInDisguise$Draws", "below", "(I)I"⟩, prog_4_method_3_code, 2, some .int, kX2)
def mX3_shown : aMt := (⟨"OnlyInDisguise$Kinds", "shown", "(IIII)I"⟩, prog_5_method_2_code, 5, some .int, kX3)
def mX3_borne : aMt := (⟨"OnlyInDisguise$Kinds", "borne", "(II)I"⟩, prog_5_method_3_code, 3, some .int, kX3)
def mX3_forgotten : aMt := (⟨"OnlyInDisguise$Kinds", "forgotten", "(II)I"⟩, prog_5_method_4_code, 2, some .int, kX3)
def mX3_price : aMt := (⟨"OnlyInDisguise$Kinds", "price", "(II)I"⟩, prog_5_method_5_code, 2, some .int, kX3)
def mX4_clear : aMt := (⟨"OnlyInDisguise$Shelves", "clear", "(I)V"⟩, prog_6_method_2_code, 2, none, kX4)
def mX4_placeOne : aMt := (⟨"OnlyInDisguise$Shelves", "placeOne", "(III)V"⟩, prog_6_method_3_code, 4, none, kX4)
def mX4_placeRow : aMt := (⟨"OnlyInDisguise$Shelves", "placeRow", "(III)V"⟩, prog_6_method_4_code, 5, none, kX4)
def mX4_lackOfRow : aMt := (⟨"OnlyInDisguise$Shelves", "lackOfRow", "(I)I"⟩, prog_6_method_5_code, 2, some .int, kX4)
def mX4_lackOfOne : aMt := (⟨"OnlyInDisguise$Shelves", "lackOfOne", "(I)I"⟩, prog_6_method_6_code, 2, some .int, kX4)
def mX4_lackOf : aMt := (⟨"OnlyInDisguise$Shelves", "lackOf", "(II)I"⟩, prog_6_method_7_code, 3, some .int, kX4)
def mX4_kindOn : aMt := (⟨"OnlyInDisguise$Shelves", "kindOn", "(I)I"⟩, prog_6_method_8_code, 2, some .int, kX4)
def mX4_figureOn : aMt := (⟨"OnlyInDisguise$Shelves", "figureOn", "(I)I"⟩, prog_6_method_9_code, 2, some .int, kX4)
def mX4_lengthOf : aMt := (⟨"OnlyInDisguise$Shelves", "lengthOf", "(I)I"⟩, prog_6_method_10_code, 2, some .int, kX4)
def mX4_holdsBytes : aMt := (⟨"OnlyInDisguise$Shelves", "holdsBytes", "(I)Z"⟩, prog_6_method_11_code, 2, some .boolean, kX4)
def mX4_haveOneSort : aMt := (⟨"OnlyInDisguise$Shelves", "haveOneSort", "(II)Z"⟩, prog_6_method_12_code, 3, some .boolean, kX4)
def mX4_hasPlace : aMt := (⟨"OnlyInDisguise$Shelves", "hasPlace", "(II)Z"⟩, prog_6_method_13_code, 3, some .boolean, kX4)
def mX4_hasPlaces : aMt := (⟨"OnlyInDisguise$Shelves", "hasPlaces", "(III)Z"⟩, prog_6_method_14_code, 4, some .boolean, kX4)
def mX4_valueAt : aMt := (⟨"OnlyInDisguise$Shelves", "valueAt", "(II)I"⟩, prog_6_method_15_code, 3, some .int, kX4)
def mX4_isSkipped : aMt := (⟨"OnlyInDisguise$Shelves", "isSkipped", "(II)Z"⟩, prog_6_method_16_code, 3, some .boolean, kX4)
def mX4_leastOf : aMt := (⟨"OnlyInDisguise$Shelves", "leastOf", "(I)I"⟩, prog_6_method_17_code, 1, some .int, kX4)
def mX4_write : aMt := (⟨"OnlyInDisguise$Shelves", "write", "(III)V"⟩, prog_6_method_18_code, 4, none, kX4)
def mX4_cutTo : aMt := (⟨"OnlyInDisguise$Shelves", "cutTo", "(II)I"⟩, prog_6_method_19_code, 2, some .int, kX4)
def mX4_move : aMt := (⟨"OnlyInDisguise$Shelves", "move", "(IIIII)V"⟩, prog_6_method_20_code, 6, none, kX4)
def mX5_brokenPlace : aMt := (⟨"OnlyInDisguise$Text", "brokenPlace", "(LOnlyInDisguise$Shelves;I)I"⟩, prog_7_method_2_code, 6, some .int, kX5)
def mX5_digitsBehind : aMt := (⟨"OnlyInDisguise$Text", "digitsBehind", "(I)I"⟩, prog_7_method_3_code, 1, some .int, kX5)
def mX5_obeyed : aMt := (⟨"OnlyInDisguise$Text", "obeyed", "(LOnlyInDisguise$Shelves;ILOnlyInDisguise$Cabinet;)I"⟩, prog_7_method_4_code, 10, some .int, kX5)
def mX5_isObeyed : aMt := (⟨"OnlyInDisguise$Text", "isObeyed", "(LOnlyInDisguise$Cabinet;IIII)Z"⟩, prog_7_method_5_code, 5, some .boolean, kX5)
def mX5_isPassed : aMt := (⟨"OnlyInDisguise$Text", "isPassed", "(LOnlyInDisguise$Cabinet;I)Z"⟩, prog_7_method_6_code, 4, some .boolean, kX5)
def mX5_isDressed : aMt := (⟨"OnlyInDisguise$Text", "isDressed", "(LOnlyInDisguise$Cabinet;II)Z"⟩, prog_7_method_7_code, 3, some .boolean, kX5)
def mX5_isInstalled : aMt := (⟨"OnlyInDisguise$Text", "isInstalled", "(LOnlyInDisguise$Cabinet;II)Z"⟩, prog_7_method_8_code, 3, some .boolean, kX5)
def mX5_isVacated : aMt := (⟨"OnlyInDisguise$Text", "isVacated", "(LOnlyInDisguise$Cabinet;I)Z"⟩, prog_7_method_9_code, 2, some .boolean, kX5)
def mX5_isMadeKnown : aMt := (⟨"OnlyInDisguise$Text", "isMadeKnown", "(LOnlyInDisguise$Cabinet;II)Z"⟩, prog_7_method_10_code, 3, some .boolean, kX5)
def mX6_cabinet : aMt := (⟨"OnlyInDisguise", "cabinet", "(I)I"⟩, prog_1_method_2_code, 5, some .int, kX6)
def mX6_one : aMt := (⟨"OnlyInDisguise", "one", "(II)I"⟩, prog_1_method_3_code, 3, some .int, kX6)
def mX6_office : aMt := (⟨"OnlyInDisguise", "office", "(II)I"⟩, prog_1_method_4_code, 3, some .int, kX6)
def mX6_shows : aMt := (⟨"OnlyInDisguise", "shows", "(II)I"⟩, prog_1_method_5_code, 3, some .int, kX6)
def mX6_comes : aMt := (⟨"OnlyInDisguise", "comes", "(II)I"⟩, prog_1_method_6_code, 4, some .int, kX6)
def mX6_holds : aMt := (⟨"OnlyInDisguise", "holds", "(II)I"⟩, prog_1_method_7_code, 4, some .int, kX6)
def mX6_empties : aMt := (⟨"OnlyInDisguise", "empties", "(I)I"⟩, prog_1_method_8_code, 3, some .int, kX6)
def mX6_wears : aMt := (⟨"OnlyInDisguise", "wears", "(II)I"⟩, prog_1_method_9_code, 4, some .int, kX6)
def mX6_knows : aMt := (⟨"OnlyInDisguise", "knows", "(II)I"⟩, prog_1_method_10_code, 4, some .int, kX6)
def mX6_marries : aMt := (⟨"OnlyInDisguise", "marries", "(II)I"⟩, prog_1_method_11_code, 4, some .int, kX6)
def mX6_days : aMt := (⟨"OnlyInDisguise", "days", "(I)I"⟩, prog_1_method_12_code, 2, some .int, kX6)
def mX6_heldThen : aMt := (⟨"OnlyInDisguise", "heldThen", "(II)I"⟩, prog_1_method_13_code, 3, some .int, kX6)
def mX6_knownThen : aMt := (⟨"OnlyInDisguise", "knownThen", "(II)I"⟩, prog_1_method_14_code, 3, some .int, kX6)
def mX6_then : aMt := (⟨"OnlyInDisguise", "then", "(II)I"⟩, prog_1_method_15_code, 3, some .int, kX6)
def mX6_falls : aMt := (⟨"OnlyInDisguise", "falls", "(I)I"⟩, prog_1_method_16_code, 4, some .int, kX6)
def mX6_empty : aMt := (⟨"OnlyInDisguise", "empty", "(I)I"⟩, prog_1_method_17_code, 3, some .int, kX6)
def mX6_lasts : aMt := (⟨"OnlyInDisguise", "lasts", "(II)I"⟩, prog_1_method_18_code, 3, some .int, kX6)
def mX6_bestCostume : aMt := (⟨"OnlyInDisguise", "bestCostume", "(III)I"⟩, prog_1_method_19_code, 8, some .int, kX6)
def mX6_casts : aMt := (⟨"OnlyInDisguise", "casts", "(I)I"⟩, prog_1_method_20_code, 2, some .int, kX6)
def mX6_send : aMt := (⟨"OnlyInDisguise", "send", "(I)I"⟩, prog_1_method_21_code, 7, some .int, kX6)
def mX6_change : aMt := (⟨"OnlyInDisguise", "change", "(I)I"⟩, prog_1_method_22_code, 7, some .int, kX6)
def mX6_over : aMt := (⟨"OnlyInDisguise", "over", "(I)I"⟩, prog_1_method_23_code, 2, some .int, kX6)
def mX6_whatIs : aMt := (⟨"OnlyInDisguise", "whatIs", "(III)I"⟩, prog_1_method_24_code, 8, some .int, kX6)
def mX6_whoHeld : aMt := (⟨"OnlyInDisguise", "whoHeld", "(II)I"⟩, prog_1_method_25_code, 6, some .int, kX6)
def mX6_two : aMt := (⟨"OnlyInDisguise", "two", "(III)I"⟩, prog_1_method_26_code, 7, some .int, kX6)
def mX6_scandals : aMt := (⟨"OnlyInDisguise", "scandals", "(IIII)J"⟩, prog_1_method_27_code, 10, some .long, kX6)
def mX6_mean : aMt := (⟨"OnlyInDisguise", "mean", "(I)J"⟩, prog_1_method_28_code, 2, some .long, kX6)
def mX6_forged : aMt := (⟨"OnlyInDisguise", "forged", "(I)I"⟩, prog_1_method_29_code, 5, some .int, kX6)
def mX6_judge : aMt := (⟨"OnlyInDisguise", "judge", "(I)I"⟩, prog_1_method_30_code, 3, some .int, kX6)
def mX6_years : aMt := (⟨"OnlyInDisguise", "years", "(III)I"⟩, prog_1_method_31_code, 7, some .int, kX6)
def mX6_image : aMt := (⟨"OnlyInDisguise", "image", "()I"⟩, prog_1_method_32_code, 1, some .int, kX6)
def mX6_restore : aMt := (⟨"OnlyInDisguise", "restore", "()I"⟩, prog_1_method_33_code, 1, some .int, kX6)
def mX6_count : aMt := (⟨"OnlyInDisguise", "count", "(I)I"⟩, prog_1_method_34_code, 2, some .int, kX6)
def mX6_keep : aMt := (⟨"OnlyInDisguise", "keep", "(IIII)I"⟩, prog_1_method_35_code, 5, some .int, kX6)
def mX6_row : aMt := (⟨"OnlyInDisguise", "row", "(III)I"⟩, prog_1_method_36_code, 4, some .int, kX6)
def mX6_put : aMt := (⟨"OnlyInDisguise", "put", "(III)I"⟩, prog_1_method_37_code, 5, some .int, kX6)
def mX6_copy : aMt := (⟨"OnlyInDisguise", "copy", "(IIIII)I"⟩, prog_1_method_39_code, 8, some .int, kX6)
def mX6_cost : aMt := (⟨"OnlyInDisguise", "cost", "(I)I"⟩, prog_1_method_40_code, 3, some .int, kX6)
def mX6_isShelf : aMt := (⟨"OnlyInDisguise", "isShelf", "(I)Z"⟩, prog_1_method_42_code, 1, some .boolean, kX6)
def mX6_isOffice : aMt := (⟨"OnlyInDisguise", "isOffice", "(I)Z"⟩, prog_1_method_43_code, 1, some .boolean, kX6)
def mX6_isCostume : aMt := (⟨"OnlyInDisguise", "isCostume", "(I)Z"⟩, prog_1_method_44_code, 1, some .boolean, kX6)
def mX6_isMate : aMt := (⟨"OnlyInDisguise", "isMate", "(I)Z"⟩, prog_1_method_45_code, 1, some .boolean, kX6)
def mX6_isAhead : aMt := (⟨"OnlyInDisguise", "isAhead", "(I)Z"⟩, prog_1_method_46_code, 1, some .boolean, kX6)
def mX6_isChoice : aMt := (⟨"OnlyInDisguise", "isChoice", "(I)Z"⟩, prog_1_method_47_code, 1, some .boolean, kX6)
def mX6_orNone : aMt := (⟨"OnlyInDisguise", "orNone", "(I)I"⟩, prog_1_method_48_code, 1, some .int, kX6)
def mX6_foresee : aMt := (⟨"OnlyInDisguise", "foresee", "(I)V"⟩, prog_1_method_49_code, 2, none, kX6)
def mX6_fallenIn : aMt := (⟨"OnlyInDisguise", "fallenIn", "(III)I"⟩, prog_1_method_50_code, 4, some .int, kX6)
def mX6_fallenWithout : aMt := (⟨"OnlyInDisguise", "fallenWithout", "(II)I"⟩, prog_1_method_51_code, 3, some .int, kX6)
def mX6_fallenChanged : aMt := (⟨"OnlyInDisguise", "fallenChanged", "(III)I"⟩, prog_1_method_52_code, 4, some .int, kX6)
def mX6_stable : aMt := (⟨"OnlyInDisguise", "stable", "()I"⟩, prog_1_method_53_code, 3, some .int, kX6)
def mX6_firstUnlike : aMt := (⟨"OnlyInDisguise", "firstUnlike", "(III)I"⟩, prog_1_method_54_code, 6, some .int, kX6)
def mX6_measured : aMt := (⟨"OnlyInDisguise", "measured", "(II)I"⟩, prog_1_method_55_code, 3, some .int, kX6)
def mX6_playTwo : aMt := (⟨"OnlyInDisguise", "playTwo", "(IIII)V"⟩, prog_1_method_56_code, 8, none, kX6)
def mX6_heldAfterScandals : aMt := (⟨"OnlyInDisguise", "heldAfterScandals", "(III)Z"⟩, prog_1_method_57_code, 5, some .boolean, kX6)
def mX6_chances : aMt := (⟨"OnlyInDisguise", "chances", "(III)J"⟩, prog_1_method_58_code, 6, some .long, kX6)
def mX6_inLeastTerms : aMt := (⟨"OnlyInDisguise", "inLeastTerms", "(JJI)J"⟩, prog_1_method_59_code, 9, some .long, kX6)
def mX6_commonDivisor : aMt := (⟨"OnlyInDisguise", "commonDivisor", "(JJ)J"⟩, prog_1_method_60_code, 11, some .long, kX6)
def mX6_holderAsTold : aMt := (⟨"OnlyInDisguise", "holderAsTold", "(I)I"⟩, prog_1_method_61_code, 2, some .int, kX6)
def mX6_oneYear : aMt := (⟨"OnlyInDisguise", "oneYear", "()V"⟩, prog_1_method_62_code, 2, none, kX6)
def mX7_isIn : aMt := (⟨"OnlyInDisguiseModel", "isIn", "(III)Z"⟩, prog_9_method_2_code, 3, some .boolean, kX7)
def mX7_sized : aMt := (⟨"OnlyInDisguiseModel", "sized", "(I)I"⟩, prog_9_method_3_code, 1, some .int, kX7)
def mX7_least : aMt := (⟨"OnlyInDisguiseModel", "least", "(II)I"⟩, prog_9_method_4_code, 2, some .int, kX7)
def mX7_lessBy : aMt := (⟨"OnlyInDisguiseModel", "lessBy", "(II)I"⟩, prog_9_method_5_code, 2, some .int, kX7)
def mX7_copies : aMt := (⟨"OnlyInDisguiseModel", "copies", "([I[I)V"⟩, prog_9_method_6_code, 3, none, kX7)
def mX7_of : aMt := (⟨"OnlyInDisguiseModel", "of", "(II)I"⟩, prog_9_method_7_code, 2, some .int, kX7)
def mX7_isOne : aMt := (⟨"OnlyInDisguiseModel", "isOne", "(I)Z"⟩, prog_9_method_8_code, 2, some .boolean, kX7)
def mX7_isOffice : aMt := (⟨"OnlyInDisguiseModel", "isOffice", "(I)Z"⟩, prog_9_method_9_code, 1, some .boolean, kX7)
def mX7_isMate : aMt := (⟨"OnlyInDisguiseModel", "isMate", "(I)Z"⟩, prog_9_method_10_code, 1, some .boolean, kX7)
def mX7_has : aMt := (⟨"OnlyInDisguiseModel", "has", "(II)Z"⟩, prog_9_method_11_code, 2, some .boolean, kX7)
def mX7_bits : aMt := (⟨"OnlyInDisguiseModel", "bits", "(I)I"⟩, prog_9_method_12_code, 3, some .int, kX7)
def mX7_showsBy : aMt := (⟨"OnlyInDisguiseModel", "showsBy", "(IIII)I"⟩, prog_9_method_13_code, 5, some .int, kX7)
def mX7_bearsBy : aMt := (⟨"OnlyInDisguiseModel", "bearsBy", "(II)I"⟩, prog_9_method_14_code, 2, some .int, kX7)
def mX7_forgetsBy : aMt := (⟨"OnlyInDisguiseModel", "forgetsBy", "(II)I"⟩, prog_9_method_15_code, 2, some .int, kX7)
def mX7_bears : aMt := (⟨"OnlyInDisguiseModel", "bears", "([II)I"⟩, prog_9_method_16_code, 2, some .int, kX7)
def mX7_officeOf : aMt := (⟨"OnlyInDisguiseModel", "officeOf", "([II)I"⟩, prog_9_method_17_code, 3, some .int, kX7)
def mX7_isCommon : aMt := (⟨"OnlyInDisguiseModel", "isCommon", "([II)Z"⟩, prog_9_method_18_code, 4, some .boolean, kX7)
def mX7_heldIn : aMt := (⟨"OnlyInDisguiseModel", "heldIn", "([I)I"⟩, prog_9_method_19_code, 3, some .int, kX7)
def mX7_holdsIn : aMt := (⟨"OnlyInDisguiseModel", "holdsIn", "([III)V"⟩, prog_9_method_20_code, 4, none, kX7)
def mX7_isSeen : aMt := (⟨"OnlyInDisguiseModel", "isSeen", "([II)V"⟩, prog_9_method_21_code, 6, none, kX7)
def mX7_fallsIn : aMt := (⟨"OnlyInDisguiseModel", "fallsIn", "([II)V"⟩, prog_9_method_22_code, 4, none, kX7)
def mX7_day : aMt := (⟨"OnlyInDisguiseModel", "day", "([I)V"⟩, prog_9_method_23_code, 2, none, kX7)
def mX7_daysOn : aMt := (⟨"OnlyInDisguiseModel", "daysOn", "([II)V"⟩, prog_9_method_24_code, 3, none, kX7)
def mX7_allKnown : aMt := (⟨"OnlyInDisguiseModel", "allKnown", "([I)I"⟩, prog_9_method_25_code, 3, some .int, kX7)
def mX7_here : aMt := (⟨"OnlyInDisguiseModel", "here", "()I"⟩, prog_9_method_26_code, 1, some .int, kX7)
def mX7_readsNumber : aMt := (⟨"OnlyInDisguiseModel", "readsNumber", "(II)Z"⟩, prog_9_method_27_code, 4, some .boolean, kX7)
def mX7_readsStatement : aMt := (⟨"OnlyInDisguiseModel", "readsStatement", "()Z"⟩, prog_9_method_28_code, 3, some .boolean, kX7)
def mX7_adds : aMt := (⟨"OnlyInDisguiseModel", "adds", "(III)V"⟩, prog_9_method_29_code, 5, none, kX7)
def mX7_isDone : aMt := (⟨"OnlyInDisguiseModel", "isDone", "(I)Z"⟩, prog_9_method_30_code, 4, some .boolean, kX7)
def mX7_cabinet : aMt := (⟨"OnlyInDisguiseModel", "cabinet", "(I)I"⟩, prog_9_method_31_code, 8, some .int, kX7)
def mX7_chainOf : aMt := (⟨"OnlyInDisguiseModel", "chainOf", "(I)I"⟩, prog_9_method_32_code, 4, some .int, kX7)
def mX7_one : aMt := (⟨"OnlyInDisguiseModel", "one", "(II)I"⟩, prog_9_method_33_code, 3, some .int, kX7)
def mX7_office : aMt := (⟨"OnlyInDisguiseModel", "office", "(II)I"⟩, prog_9_method_34_code, 3, some .int, kX7)
def mX7_showsNext : aMt := (⟨"OnlyInDisguiseModel", "showsNext", "(II)I"⟩, prog_9_method_35_code, 3, some .int, kX7)
def mX7_shows : aMt := (⟨"OnlyInDisguiseModel", "shows", "(II)I"⟩, prog_9_method_36_code, 3, some .int, kX7)
def mX7_comes : aMt := (⟨"OnlyInDisguiseModel", "comes", "(II)I"⟩, prog_9_method_37_code, 4, some .int, kX7)
def mX7_holds : aMt := (⟨"OnlyInDisguiseModel", "holds", "(II)I"⟩, prog_9_method_38_code, 4, some .int, kX7)
def mX7_sets : aMt := (⟨"OnlyInDisguiseModel", "sets", "(II)I"⟩, prog_9_method_39_code, 4, some .int, kX7)
def mX7_empties : aMt := (⟨"OnlyInDisguiseModel", "empties", "(I)I"⟩, prog_9_method_40_code, 2, some .int, kX7)
def mX7_wears : aMt := (⟨"OnlyInDisguiseModel", "wears", "(II)I"⟩, prog_9_method_41_code, 3, some .int, kX7)
def mX7_knows : aMt := (⟨"OnlyInDisguiseModel", "knows", "(II)I"⟩, prog_9_method_42_code, 3, some .int, kX7)
def mX7_marries : aMt := (⟨"OnlyInDisguiseModel", "marries", "(II)I"⟩, prog_9_method_43_code, 3, some .int, kX7)
def mX7_days : aMt := (⟨"OnlyInDisguiseModel", "days", "(I)I"⟩, prog_9_method_44_code, 2, some .int, kX7)
def mX7_isLate : aMt := (⟨"OnlyInDisguiseModel", "isLate", "(I)Z"⟩, prog_9_method_45_code, 1, some .boolean, kX7)
def mX7_takes : aMt := (⟨"OnlyInDisguiseModel", "takes", "(I)V"⟩, prog_9_method_46_code, 2, none, kX7)
def mX7_heldThen : aMt := (⟨"OnlyInDisguiseModel", "heldThen", "(II)I"⟩, prog_9_method_47_code, 3, some .int, kX7)
def mX7_knownThen : aMt := (⟨"OnlyInDisguiseModel", "knownThen", "(II)I"⟩, prog_9_method_48_code, 3, some .int, kX7)
def mX7_then : aMt := (⟨"OnlyInDisguiseModel", "then", "(II)I"⟩, prog_9_method_49_code, 3, some .int, kX7)
def mX7_whenNot : aMt := (⟨"OnlyInDisguiseModel", "whenNot", "(II)I"⟩, prog_9_method_50_code, 4, some .int, kX7)
def mX7_falls : aMt := (⟨"OnlyInDisguiseModel", "falls", "(I)I"⟩, prog_9_method_51_code, 3, some .int, kX7)
def mX7_empty : aMt := (⟨"OnlyInDisguiseModel", "empty", "(I)I"⟩, prog_9_method_52_code, 3, some .int, kX7)
def mX7_lastsOf : aMt := (⟨"OnlyInDisguiseModel", "lastsOf", "(II)I"⟩, prog_9_method_53_code, 4, some .int, kX7)
def mX7_lasts : aMt := (⟨"OnlyInDisguiseModel", "lasts", "(II)I"⟩, prog_9_method_54_code, 3, some .int, kX7)
def mX7_bestCostume : aMt := (⟨"OnlyInDisguiseModel", "bestCostume", "(III)I"⟩, prog_9_method_55_code, 7, some .int, kX7)
def mX7_mostOf : aMt := (⟨"OnlyInDisguiseModel", "mostOf", "(II)I"⟩, prog_9_method_56_code, 3, some .int, kX7)
def mX7_fillsCast : aMt := (⟨"OnlyInDisguiseModel", "fillsCast", "()V"⟩, prog_9_method_57_code, 5, none, kX7)
def mX7_holderBy : aMt := (⟨"OnlyInDisguiseModel", "holderBy", "(II)I"⟩, prog_9_method_58_code, 4, some .int, kX7)
def mX7_casts : aMt := (⟨"OnlyInDisguiseModel", "casts", "(I)I"⟩, prog_9_method_59_code, 5, some .int, kX7)
def mX7_send : aMt := (⟨"OnlyInDisguiseModel", "send", "(I)I"⟩, prog_9_method_60_code, 6, some .int, kX7)
def mX7_change : aMt := (⟨"OnlyInDisguiseModel", "change", "(I)I"⟩, prog_9_method_61_code, 6, some .int, kX7)
def mX7_plainOnes : aMt := (⟨"OnlyInDisguiseModel", "plainOnes", "()I"⟩, prog_9_method_62_code, 5, some .int, kX7)
def mX7_likeOnes : aMt := (⟨"OnlyInDisguiseModel", "likeOnes", "()I"⟩, prog_9_method_63_code, 4, some .int, kX7)
def mX7_left : aMt := (⟨"OnlyInDisguiseModel", "left", "(I)I"⟩, prog_9_method_64_code, 2, some .int, kX7)
def mX7_closest : aMt := (⟨"OnlyInDisguiseModel", "closest", "()I"⟩, prog_9_method_65_code, 3, some .int, kX7)
def mX7_stable : aMt := (⟨"OnlyInDisguiseModel", "stable", "()I"⟩, prog_9_method_66_code, 4, some .int, kX7)
def mX7_over : aMt := (⟨"OnlyInDisguiseModel", "over", "(I)I"⟩, prog_9_method_67_code, 2, some .int, kX7)
def mX7_leastOf : aMt := (⟨"OnlyInDisguiseModel", "leastOf", "(I)I"⟩, prog_9_method_68_code, 1, some .int, kX7)
def mX7_isTold : aMt := (⟨"OnlyInDisguiseModel", "isTold", "(III)Z"⟩, prog_9_method_69_code, 4, some .boolean, kX7)
def mX7_whatIs : aMt := (⟨"OnlyInDisguiseModel", "whatIs", "(III)I"⟩, prog_9_method_70_code, 9, some .int, kX7)
def mX7_whoHeld : aMt := (⟨"OnlyInDisguiseModel", "whoHeld", "(II)I"⟩, prog_9_method_71_code, 8, some .int, kX7)
def mX7_hasBy : aMt := (⟨"OnlyInDisguiseModel", "hasBy", "(IIIIII)I"⟩, prog_9_method_72_code, 9, some .int, kX7)
def mX7_two : aMt := (⟨"OnlyInDisguiseModel", "two", "(III)I"⟩, prog_9_method_73_code, 7, some .int, kX7)
def mX7_gcd : aMt := (⟨"OnlyInDisguiseModel", "gcd", "(JJ)J"⟩, prog_9_method_74_code, 10, some .long, kX7)
def mX7_partOf : aMt := (⟨"OnlyInDisguiseModel", "partOf", "(JJI)J"⟩, prog_9_method_75_code, 5, some .long, kX7)
def mX7_scandal : aMt := (⟨"OnlyInDisguiseModel", "scandal", "([I)V"⟩, prog_9_method_76_code, 2, none, kX7)
def mX7_scandals : aMt := (⟨"OnlyInDisguiseModel", "scandals", "(IIII)J"⟩, prog_9_method_77_code, 13, some .long, kX7)
def mX7_mean : aMt := (⟨"OnlyInDisguiseModel", "mean", "(I)J"⟩, prog_9_method_78_code, 2, some .long, kX7)
def mX7_forged : aMt := (⟨"OnlyInDisguiseModel", "forged", "(I)I"⟩, prog_9_method_79_code, 4, some .int, kX7)
def mX7_judge : aMt := (⟨"OnlyInDisguiseModel", "judge", "(I)I"⟩, prog_9_method_80_code, 4, some .int, kX7)
def mX7_drawn : aMt := (⟨"OnlyInDisguiseModel", "drawn", "(I)I"⟩, prog_9_method_81_code, 2, some .int, kX7)
def mX7_years : aMt := (⟨"OnlyInDisguiseModel", "years", "(III)I"⟩, prog_9_method_82_code, 7, some .int, kX7)
def mX7_image : aMt := (⟨"OnlyInDisguiseModel", "image", "()I"⟩, prog_9_method_83_code, 1, some .int, kX7)
def mX7_restore : aMt := (⟨"OnlyInDisguiseModel", "restore", "()I"⟩, prog_9_method_84_code, 1, some .int, kX7)
def mX7_count : aMt := (⟨"OnlyInDisguiseModel", "count", "(I)I"⟩, prog_9_method_85_code, 2, some .int, kX7)
def mX7_thrown : aMt := (⟨"OnlyInDisguiseModel", "thrown", "()I"⟩, prog_9_method_86_code, 1, some .int, kX7)
def mX7_isShelf : aMt := (⟨"OnlyInDisguiseModel", "isShelf", "(I)Z"⟩, prog_9_method_87_code, 1, some .boolean, kX7)
def mX7_wrongRow : aMt := (⟨"OnlyInDisguiseModel", "wrongRow", "(II)I"⟩, prog_9_method_88_code, 3, some .int, kX7)
def mX7_wrongKept : aMt := (⟨"OnlyInDisguiseModel", "wrongKept", "(I)I"⟩, prog_9_method_89_code, 2, some .int, kX7)
def mX7_keep : aMt := (⟨"OnlyInDisguiseModel", "keep", "(IIII)I"⟩, prog_9_method_90_code, 5, some .int, kX7)
def mX7_row : aMt := (⟨"OnlyInDisguiseModel", "row", "(III)I"⟩, prog_9_method_91_code, 5, some .int, kX7)
def mX7_put : aMt := (⟨"OnlyInDisguiseModel", "put", "(III)I"⟩, prog_9_method_92_code, 5, some .int, kX7)
def mX7_element : aMt := (⟨"OnlyInDisguiseModel", "element", "(II)J"⟩, prog_9_method_93_code, 3, some .long, kX7)
def mX7_copy : aMt := (⟨"OnlyInDisguiseModel", "copy", "(IIIII)I"⟩, prog_9_method_94_code, 8, some .int, kX7)
def mX7_costBy : aMt := (⟨"OnlyInDisguiseModel", "costBy", "(II)I"⟩, prog_9_method_95_code, 2, some .int, kX7)
def mX7_cost : aMt := (⟨"OnlyInDisguiseModel", "cost", "(I)I"⟩, prog_9_method_96_code, 3, some .int, kX7)
def mX7_toss : aMt := (⟨"OnlyInDisguiseModel", "toss", "(I)I"⟩, prog_9_method_97_code, 5, some .int, kX7)
def mJ6_bitCount_0f7a4 : aMt := (⟨"java/lang/Integer", "bitCount", "(I)I"⟩, prog_13_method_49_code, 1, some .int, kJ6)
def mJ9_abs_0f7a4 : aMt := (⟨"java/lang/Math", "abs", "(I)I"⟩, prog_14_method_59_code, 1, some .int, kJ9)
def mJ9_max_7cf53 : aMt := (⟨"java/lang/Math", "max", "(II)I"⟩, prog_14_method_65_code, 2, some .int, kJ9)
def mJ9_min_7cf53 : aMt := (⟨"java/lang/Math", "min", "(II)I"⟩, prog_14_method_69_code, 2, some .int, kJ9)
end
section
/-! ===== code ===== -/
def bX0_becomes_0 : List (Nat × Instr) := [(0, .aload_n 0), (1, .aload_n 1), (2, .getfield 9), (5, .putfield 9), (8, .aload_n 0), (9, .aload_n 1), (10, .getfield 15), (13, .putfield 15), (16, .aload_n 0), (17, .aload_n 1), (18, .getfield 18), (21, .putfield 18), (24, .iconst 0), (25, .istore_n 2)]
theorem bX0_becomes_0_ok : ∀ q ∈ bX0_becomes_0, decode mX0_becomes.2.1 q.1 = .ok (q.2, aLn q.2) := by decide +kernel
def bX0_becomes_26 : List (Nat × Instr) := [(26, .iload_n 2), (27, .bipush 8)]
theorem bX0_becomes_26_ok : ∀ q ∈ bX0_becomes_26, decode mX0_becomes.2.1 q.1 = .ok (q.2, aLn q.2) := by decide +kernel
def bX0_becomes_32 : List (Nat × Instr) := [(32, .aload_n 0), (33, .getfield 24), (36, .iload_n 2), (37, .aload_n 1), (38, .getfield 24), (41, .iload_n 2), (42, .iaload), (43, .iastore), (44, .aload_n 0), (45, .getfield 28), (48, .iload_n 2), (49, .aload_n 1), (50, .getfield 28), (53, .iload_n 2), (54, .iaload), (55, .iastore), (56, .aload_n 0), (57, .getfield 31), (60, .iload_n 2), (61, .aload_n 1), (62, .getfield 31), (65, .iload_n 2), (66, .iaload), (67, .iastore), (68, .aload_n 0), (69, .getfield 34), (72, .iload_n 2), (73, .aload_n 1), (74, .getfield 34), (77, .iload_n 2), (78, .iaload), (79, .iastore), (80, .aload_n 0), (81, .getfield 37), (84, .iload_n 2), (85, .aload_n 1), (86, .getfield 37), (89, .iload_n 2), (90, .iaload), (91, .iastore), (92, .iinc 2 1), (95, .goto (-69))]
theorem bX0_becomes_32_ok : ∀ q ∈ bX0_becomes_32, decode mX0_becomes.2.1 q.1 = .ok (q.2, aLn q.2) := by decide +kernel
def bX0_becomes_98 : List (Nat × Instr) := [(98, .iconst 0), (99, .istore_n 2)]
theorem bX0_becomes_98_ok : ∀ q ∈ bX0_becomes_98, decode mX0_becomes.2.1 q.1 = .ok (q.2, aLn q.2) := by decide +kernel
def bX0_becomes_100 : List (Nat × Instr) := [(100, .iload_n 2), (101, .iconst 5)]
theorem bX0_becomes_100_ok : ∀ q ∈ bX0_becomes_100, decode mX0_becomes.2.1 q.1 = .ok (q.2, aLn q.2) := by decide +kernel
def bX0_becomes_105 : List (Nat × Instr) := [(105, .aload_n 0), (106, .getfield 40), (109, .iload_n 2), (110, .aload_n 1), (111, .getfield 40), (114, .iload_n 2), (115, .iaload), (116, .iastore), (117, .aload_n 0), (118, .getfield 43), (121, .iload_n 2), (122, .aload_n 1), (123, .getfield 43), (126, .iload_n 2), (127, .iaload), (128, .iastore), (129, .iinc 2 1), (132, .goto (-32))]
theorem bX0_becomes_105_ok : ∀ q ∈ bX0_becomes_105, decode mX0_becomes.2.1 q.1 = .ok (q.2, aLn q.2) := by decide +kernel
theorem dX0_becomes_29 : decode mX0_becomes.2.1 29 = .ok (.if_icmp .ge 69, 3) := by decide +kernel
theorem dX0_becomes_102 : decode mX0_becomes.2.1 102 = .ok (.if_icmp .ge 33, 3) := by decide +kernel
theorem dX0_becomes_135 : decode mX0_becomes.2.1 135 = .ok (.return_, 1) := by decide +kernel
def bX0_isThere_0 : List (Nat × Instr) := [(0, .iload_n 1)]
theorem bX0_isThere_0_ok : ∀ q ∈ bX0_isThere_0, decode mX0_isThere.2.1 q.1 = .ok (q.2, aLn q.2) := by decide +kernel
def bX0_isThere_4 : List (Nat × Instr) := [(4, .iload_n 1), (5, .aload_n 0), (6, .getfield 9)]
theorem bX0_isThere_4_ok : ∀ q ∈ bX0_isThere_4, decode mX0_isThere.2.1 q.1 = .ok (q.2, aLn q.2) := by decide +kernel
def bX0_isThere_12 : List (Nat × Instr) := [(12, .iload_n 1), (13, .bipush 8)]
theorem bX0_isThere_12_ok : ∀ q ∈ bX0_isThere_12, decode mX0_isThere.2.1 q.1 = .ok (q.2, aLn q.2) := by decide +kernel
def bX0_isThere_18 : List (Nat × Instr) := [(18, .iconst 1), (19, .goto 4)]
theorem bX0_isThere_18_ok : ∀ q ∈ bX0_isThere_18, decode mX0_isThere.2.1 q.1 = .ok (q.2, aLn q.2) := by decide +kernel
def bX0_isThere_22 : List (Nat × Instr) := [(22, .iconst 0)]
theorem bX0_isThere_22_ok : ∀ q ∈ bX0_isThere_22, decode mX0_isThere.2.1 q.1 = .ok (q.2, aLn q.2) := by decide +kernel
theorem dX0_isThere_1 : decode mX0_isThere.2.1 1 = .ok (.ifCond .lt 21, 3) := by decide +kernel
theorem dX0_isThere_9 : decode mX0_isThere.2.1 9 = .ok (.if_icmp .ge 13, 3) := by decide +kernel
theorem dX0_isThere_15 : decode mX0_isThere.2.1 15 = .ok (.if_icmp .ge 7, 3) := by decide +kernel
theorem dX0_isThere_23 : decode mX0_isThere.2.1 23 = .ok (.ireturn, 1) := by decide +kernel
def bX0_welcome_0 : List (Nat × Instr) := [(0, .aload_n 0), (1, .getfield 9), (4, .bipush 8)]
theorem bX0_welcome_0_ok : ∀ q ∈ bX0_welcome_0, decode mX0_welcome.2.1 q.1 = .ok (q.2, aLn q.2) := by decide +kernel
def bX0_welcome_9 : List (Nat × Instr) := [(9, .bipush (-2))]
theorem bX0_welcome_9_ok : ∀ q ∈ bX0_welcome_9, decode mX0_welcome.2.1 q.1 = .ok (q.2, aLn q.2) := by decide +kernel
def bX0_welcome_12 : List (Nat × Instr) := [(12, .aload_n 0), (13, .getfield 9), (16, .istore 4), (18, .aload_n 0), (19, .getfield 24), (22, .iload 4), (24, .iload_n 1), (25, .iastore), (26, .aload_n 0), (27, .getfield 28), (30, .iload 4), (32, .iload_n 2), (33, .iastore), (34, .aload_n 0), (35, .getfield 31), (38, .iload 4), (40, .iconst 0), (41, .iastore), (42, .aload_n 0), (43, .getfield 34), (46, .iload 4), (48, .iload_n 3), (49, .iastore), (50, .aload_n 0), (51, .getfield 37), (54, .iload 4), (56, .iconst (-1)), (57, .iastore), (58, .aload_n 0), (59, .dup), (60, .getfield 9), (63, .iconst 1), (64, .iadd), (65, .putfield 9), (68, .iload 4)]
theorem bX0_welcome_12_ok : ∀ q ∈ bX0_welcome_12, decode mX0_welcome.2.1 q.1 = .ok (q.2, aLn q.2) := by decide +kernel
theorem dX0_welcome_6 : decode mX0_welcome.2.1 6 = .ok (.if_icmp .lt 6, 3) := by decide +kernel
theorem dX0_welcome_11 : decode mX0_welcome.2.1 11 = .ok (.ireturn, 1) := by decide +kernel
theorem dX0_welcome_70 : decode mX0_welcome.2.1 70 = .ok (.ireturn, 1) := by decide +kernel
def bX0_vacate_0 : List (Nat × Instr) := [(0, .iload_n 1)]
theorem bX0_vacate_0_ok : ∀ q ∈ bX0_vacate_0, decode mX0_vacate.2.1 q.1 = .ok (q.2, aLn q.2) := by decide +kernel
def bX0_vacate_8 : List (Nat × Instr) := [(8, .aload_n 0), (9, .getfield 43), (12, .iload_n 1), (13, .iaload), (14, .istore_n 2), (15, .aload_n 0), (16, .iload_n 2)]
theorem bX0_vacate_8_ok : ∀ q ∈ bX0_vacate_8, decode mX0_vacate.2.1 q.1 = .ok (q.2, aLn q.2) := by decide +kernel
def bX0_vacate_23 : List (Nat × Instr) := [(23, .aload_n 0), (24, .getfield 37), (27, .iload_n 2), (28, .iconst (-1)), (29, .iastore)]
theorem bX0_vacate_23_ok : ∀ q ∈ bX0_vacate_23, decode mX0_vacate.2.1 q.1 = .ok (q.2, aLn q.2) := by decide +kernel
def bX0_vacate_30 : List (Nat × Instr) := [(30, .aload_n 0), (31, .getfield 43), (34, .iload_n 1), (35, .iconst (-1)), (36, .iastore)]
theorem bX0_vacate_30_ok : ∀ q ∈ bX0_vacate_30, decode mX0_vacate.2.1 q.1 = .ok (q.2, aLn q.2) := by decide +kernel
theorem dX0_vacate_1 : decode mX0_vacate.2.1 1 = .ok (.invokestatic 46, 3) := by decide +kernel
theorem dX0_vacate_4 : decode mX0_vacate.2.1 4 = .ok (.ifCond .ne 4, 3) := by decide +kernel
theorem dX0_vacate_7 : decode mX0_vacate.2.1 7 = .ok (.return_, 1) := by decide +kernel
theorem dX0_vacate_17 : decode mX0_vacate.2.1 17 = .ok (.invokevirtual 50, 3) := by decide +kernel
theorem dX0_vacate_20 : decode mX0_vacate.2.1 20 = .ok (.ifCond .eq 10, 3) := by decide +kernel
theorem dX0_vacate_37 : decode mX0_vacate.2.1 37 = .ok (.return_, 1) := by decide +kernel
def bX0_sendHome_0 : List (Nat × Instr) := [(0, .aload_n 0), (1, .iload_n 1)]
theorem bX0_sendHome_0_ok : ∀ q ∈ bX0_sendHome_0, decode mX0_sendHome.2.1 q.1 = .ok (q.2, aLn q.2) := by decide +kernel
def bX0_sendHome_8 : List (Nat × Instr) := [(8, .aload_n 0), (9, .aload_n 0), (10, .getfield 37), (13, .iload_n 1), (14, .iaload)]
theorem bX0_sendHome_8_ok : ∀ q ∈ bX0_sendHome_8, decode mX0_sendHome.2.1 q.1 = .ok (q.2, aLn q.2) := by decide +kernel
theorem dX0_sendHome_2 : decode mX0_sendHome.2.1 2 = .ok (.invokevirtual 50, 3) := by decide +kernel
theorem dX0_sendHome_5 : decode mX0_sendHome.2.1 5 = .ok (.ifCond .eq 13, 3) := by decide +kernel
theorem dX0_sendHome_15 : decode mX0_sendHome.2.1 15 = .ok (.invokevirtual 53, 3) := by decide +kernel
theorem dX0_sendHome_18 : decode mX0_sendHome.2.1 18 = .ok (.return_, 1) := by decide +kernel
def bX0_install_0 : List (Nat × Instr) := [(0, .iload_n 1)]
theorem bX0_install_0_ok : ∀ q ∈ bX0_install_0, decode mX0_install.2.1 q.1 = .ok (q.2, aLn q.2) := by decide +kernel
def bX0_install_7 : List (Nat × Instr) := [(7, .aload_n 0), (8, .iload_n 2)]
theorem bX0_install_7_ok : ∀ q ∈ bX0_install_7, decode mX0_install.2.1 q.1 = .ok (q.2, aLn q.2) := by decide +kernel
def bX0_install_16 : List (Nat × Instr) := [(16, .aload_n 0), (17, .aload_n 0), (18, .getfield 37), (21, .iload_n 2), (22, .iaload)]
theorem bX0_install_16_ok : ∀ q ∈ bX0_install_16, decode mX0_install.2.1 q.1 = .ok (q.2, aLn q.2) := by decide +kernel
def bX0_install_26 : List (Nat × Instr) := [(26, .aload_n 0), (27, .iload_n 1)]
theorem bX0_install_26_ok : ∀ q ∈ bX0_install_26, decode mX0_install.2.1 q.1 = .ok (q.2, aLn q.2) := by decide +kernel
def bX0_install_31 : List (Nat × Instr) := [(31, .aload_n 0), (32, .getfield 43), (35, .iload_n 1), (36, .iload_n 2), (37, .iastore), (38, .aload_n 0), (39, .getfield 37), (42, .iload_n 2), (43, .iload_n 1), (44, .iastore)]
theorem bX0_install_31_ok : ∀ q ∈ bX0_install_31, decode mX0_install.2.1 q.1 = .ok (q.2, aLn q.2) := by decide +kernel
theorem dX0_install_1 : decode mX0_install.2.1 1 = .ok (.invokestatic 46, 3) := by decide +kernel
theorem dX0_install_4 : decode mX0_install.2.1 4 = .ok (.ifCond .eq 11, 3) := by decide +kernel
theorem dX0_install_9 : decode mX0_install.2.1 9 = .ok (.invokevirtual 50, 3) := by decide +kernel
theorem dX0_install_12 : decode mX0_install.2.1 12 = .ok (.ifCond .ne 4, 3) := by decide +kernel
theorem dX0_install_15 : decode mX0_install.2.1 15 = .ok (.return_, 1) := by decide +kernel
theorem dX0_install_23 : decode mX0_install.2.1 23 = .ok (.invokevirtual 53, 3) := by decide +kernel
theorem dX0_install_28 : decode mX0_install.2.1 28 = .ok (.invokevirtual 53, 3) := by decide +kernel
theorem dX0_install_45 : decode mX0_install.2.1 45 = .ok (.return_, 1) := by decide +kernel
def bX0_bearing_0 : List (Nat × Instr) := [(0, .aload_n 0), (1, .getfield 24), (4, .iload_n 1), (5, .iaload), (6, .aload_n 0), (7, .getfield 28), (10, .iload_n 1), (11, .iaload)]
theorem bX0_bearing_0_ok : ∀ q ∈ bX0_bearing_0, decode mX0_bearing.2.1 q.1 = .ok (q.2, aLn q.2) := by decide +kernel
theorem dX0_bearing_12 : decode mX0_bearing.2.1 12 = .ok (.invokestatic 57, 3) := by decide +kernel
theorem dX0_bearing_15 : decode mX0_bearing.2.1 15 = .ok (.ireturn, 1) := by decide +kernel
def bX0_pass_0 : List (Nat × Instr) := [(0, .iconst 0), (1, .istore_n 2)]
theorem bX0_pass_0_ok : ∀ q ∈ bX0_pass_0, decode mX0_pass.2.1 q.1 = .ok (q.2, aLn q.2) := by decide +kernel
def bX0_pass_2 : List (Nat × Instr) := [(2, .iload_n 2), (3, .iload_n 1)]
theorem bX0_pass_2_ok : ∀ q ∈ bX0_pass_2, decode mX0_pass.2.1 q.1 = .ok (q.2, aLn q.2) := by decide +kernel
def bX0_pass_7 : List (Nat × Instr) := [(7, .aload_n 0)]
theorem bX0_pass_7_ok : ∀ q ∈ bX0_pass_7, decode mX0_pass.2.1 q.1 = .ok (q.2, aLn q.2) := by decide +kernel
def bX0_pass_11 : List (Nat × Instr) := [(11, .iinc 2 1), (14, .goto (-12))]
theorem bX0_pass_11_ok : ∀ q ∈ bX0_pass_11, decode mX0_pass.2.1 q.1 = .ok (q.2, aLn q.2) := by decide +kernel
theorem dX0_pass_4 : decode mX0_pass.2.1 4 = .ok (.if_icmp .ge 13, 3) := by decide +kernel
theorem dX0_pass_8 : decode mX0_pass.2.1 8 = .ok (.invokevirtual 63, 3) := by decide +kernel
theorem dX0_pass_17 : decode mX0_pass.2.1 17 = .ok (.return_, 1) := by decide +kernel
def bX0_oneDay_0 : List (Nat × Instr) := [(0, .aload_n 0), (1, .dup), (2, .getfield 15), (5, .iconst 1), (6, .iadd), (7, .putfield 15), (10, .aload_n 0), (11, .iconst 0), (12, .putfield 21), (15, .iconst 0), (16, .istore_n 1)]
theorem bX0_oneDay_0_ok : ∀ q ∈ bX0_oneDay_0, decode mX0_oneDay.2.1 q.1 = .ok (q.2, aLn q.2) := by decide +kernel
def bX0_oneDay_17 : List (Nat × Instr) := [(17, .iload_n 1), (18, .aload_n 0), (19, .getfield 9)]
theorem bX0_oneDay_17_ok : ∀ q ∈ bX0_oneDay_17, decode mX0_oneDay.2.1 q.1 = .ok (q.2, aLn q.2) := by decide +kernel
def bX0_oneDay_25 : List (Nat × Instr) := [(25, .aload_n 0), (26, .getfield 37), (29, .iload_n 1), (30, .iaload), (31, .iconst (-1))]
theorem bX0_oneDay_25_ok : ∀ q ∈ bX0_oneDay_25, decode mX0_oneDay.2.1 q.1 = .ok (q.2, aLn q.2) := by decide +kernel
def bX0_oneDay_35 : List (Nat × Instr) := [(35, .aload_n 0), (36, .getfield 31), (39, .iload_n 1), (40, .iconst 0), (41, .aload_n 0), (42, .getfield 31), (45, .iload_n 1), (46, .iaload), (47, .aload_n 0), (48, .getfield 24), (51, .iload_n 1), (52, .iaload), (53, .aload_n 0), (54, .getfield 28), (57, .iload_n 1), (58, .iaload)]
theorem bX0_oneDay_35_ok : ∀ q ∈ bX0_oneDay_35, decode mX0_oneDay.2.1 q.1 = .ok (q.2, aLn q.2) := by decide +kernel
def bX0_oneDay_62 : List (Nat × Instr) := [(62, .isub)]
theorem bX0_oneDay_62_ok : ∀ q ∈ bX0_oneDay_62, decode mX0_oneDay.2.1 q.1 = .ok (q.2, aLn q.2) := by decide +kernel
def bX0_oneDay_66 : List (Nat × Instr) := [(66, .iastore), (67, .goto 26)]
theorem bX0_oneDay_66_ok : ∀ q ∈ bX0_oneDay_66, decode mX0_oneDay.2.1 q.1 = .ok (q.2, aLn q.2) := by decide +kernel
def bX0_oneDay_70 : List (Nat × Instr) := [(70, .aload_n 0), (71, .getfield 31), (74, .iload_n 1), (75, .bipush 99), (77, .aload_n 0), (78, .getfield 31), (81, .iload_n 1), (82, .iaload), (83, .aload_n 0), (84, .iload_n 1)]
theorem bX0_oneDay_70_ok : ∀ q ∈ bX0_oneDay_70, decode mX0_oneDay.2.1 q.1 = .ok (q.2, aLn q.2) := by decide +kernel
def bX0_oneDay_88 : List (Nat × Instr) := [(88, .iadd)]
theorem bX0_oneDay_88_ok : ∀ q ∈ bX0_oneDay_88, decode mX0_oneDay.2.1 q.1 = .ok (q.2, aLn q.2) := by decide +kernel
def bX0_oneDay_92 : List (Nat × Instr) := [(92, .iastore)]
theorem bX0_oneDay_92_ok : ∀ q ∈ bX0_oneDay_92, decode mX0_oneDay.2.1 q.1 = .ok (q.2, aLn q.2) := by decide +kernel
def bX0_oneDay_93 : List (Nat × Instr) := [(93, .iinc 1 1), (96, .goto (-79))]
theorem bX0_oneDay_93_ok : ∀ q ∈ bX0_oneDay_93, decode mX0_oneDay.2.1 q.1 = .ok (q.2, aLn q.2) := by decide +kernel
def bX0_oneDay_99 : List (Nat × Instr) := [(99, .iconst 0), (100, .istore_n 1)]
theorem bX0_oneDay_99_ok : ∀ q ∈ bX0_oneDay_99, decode mX0_oneDay.2.1 q.1 = .ok (q.2, aLn q.2) := by decide +kernel
def bX0_oneDay_101 : List (Nat × Instr) := [(101, .iload_n 1), (102, .iconst 5)]
theorem bX0_oneDay_101_ok : ∀ q ∈ bX0_oneDay_101, decode mX0_oneDay.2.1 q.1 = .ok (q.2, aLn q.2) := by decide +kernel
def bX0_oneDay_106 : List (Nat × Instr) := [(106, .aload_n 0), (107, .getfield 43), (110, .iload_n 1), (111, .iaload), (112, .istore_n 2), (113, .aload_n 0), (114, .iload_n 2)]
theorem bX0_oneDay_106_ok : ∀ q ∈ bX0_oneDay_106, decode mX0_oneDay.2.1 q.1 = .ok (q.2, aLn q.2) := by decide +kernel
def bX0_oneDay_121 : List (Nat × Instr) := [(121, .aload_n 0), (122, .getfield 31), (125, .iload_n 2), (126, .iaload), (127, .aload_n 0), (128, .iload_n 2)]
theorem bX0_oneDay_121_ok : ∀ q ∈ bX0_oneDay_121, decode mX0_oneDay.2.1 q.1 = .ok (q.2, aLn q.2) := by decide +kernel
def bX0_oneDay_135 : List (Nat × Instr) := [(135, .aload_n 0), (136, .iload_n 1), (137, .iload_n 2)]
theorem bX0_oneDay_135_ok : ∀ q ∈ bX0_oneDay_135, decode mX0_oneDay.2.1 q.1 = .ok (q.2, aLn q.2) := by decide +kernel
def bX0_oneDay_141 : List (Nat × Instr) := [(141, .iinc 1 1), (144, .goto (-43))]
theorem bX0_oneDay_141_ok : ∀ q ∈ bX0_oneDay_141, decode mX0_oneDay.2.1 q.1 = .ok (q.2, aLn q.2) := by decide +kernel
theorem dX0_oneDay_22 : decode mX0_oneDay.2.1 22 = .ok (.if_icmp .ge 77, 3) := by decide +kernel
theorem dX0_oneDay_32 : decode mX0_oneDay.2.1 32 = .ok (.if_icmp .ne 38, 3) := by decide +kernel
theorem dX0_oneDay_59 : decode mX0_oneDay.2.1 59 = .ok (.invokestatic 66, 3) := by decide +kernel
theorem dX0_oneDay_63 : decode mX0_oneDay.2.1 63 = .ok (.invokestatic 69, 3) := by decide +kernel
theorem dX0_oneDay_85 : decode mX0_oneDay.2.1 85 = .ok (.invokevirtual 74, 3) := by decide +kernel
theorem dX0_oneDay_89 : decode mX0_oneDay.2.1 89 = .ok (.invokestatic 78, 3) := by decide +kernel
theorem dX0_oneDay_103 : decode mX0_oneDay.2.1 103 = .ok (.if_icmp .ge 44, 3) := by decide +kernel
theorem dX0_oneDay_115 : decode mX0_oneDay.2.1 115 = .ok (.invokevirtual 50, 3) := by decide +kernel
theorem dX0_oneDay_118 : decode mX0_oneDay.2.1 118 = .ok (.ifCond .eq 23, 3) := by decide +kernel
theorem dX0_oneDay_129 : decode mX0_oneDay.2.1 129 = .ok (.invokevirtual 81, 3) := by decide +kernel
theorem dX0_oneDay_132 : decode mX0_oneDay.2.1 132 = .ok (.if_icmp .lt 9, 3) := by decide +kernel
theorem dX0_oneDay_138 : decode mX0_oneDay.2.1 138 = .ok (.invokevirtual 84, 3) := by decide +kernel
theorem dX0_oneDay_147 : decode mX0_oneDay.2.1 147 = .ok (.return_, 1) := by decide +kernel
def bX0_showing_0 : List (Nat × Instr) := [(0, .aload_n 0), (1, .getfield 37), (4, .iload_n 1), (5, .iaload), (6, .istore_n 2), (7, .iload_n 2)]
theorem bX0_showing_0_ok : ∀ q ∈ bX0_showing_0, decode mX0_showing.2.1 q.1 = .ok (q.2, aLn q.2) := by decide +kernel
def bX0_showing_14 : List (Nat × Instr) := [(14, .iconst 0)]
theorem bX0_showing_14_ok : ∀ q ∈ bX0_showing_14, decode mX0_showing.2.1 q.1 = .ok (q.2, aLn q.2) := by decide +kernel
def bX0_showing_16 : List (Nat × Instr) := [(16, .aload_n 0), (17, .getfield 24), (20, .iload_n 1), (21, .iaload), (22, .aload_n 0), (23, .getfield 28), (26, .iload_n 1), (27, .iaload), (28, .aload_n 0), (29, .getfield 40), (32, .iload_n 2), (33, .iaload), (34, .aload_n 0), (35, .getfield 15)]
theorem bX0_showing_16_ok : ∀ q ∈ bX0_showing_16, decode mX0_showing.2.1 q.1 = .ok (q.2, aLn q.2) := by decide +kernel
def bX0_showing_41 : List (Nat × Instr) := [(41, .istore_n 3), (42, .aload_n 0), (43, .aload_n 0), (44, .getfield 40), (47, .iload_n 2), (48, .iaload)]
theorem bX0_showing_41_ok : ∀ q ∈ bX0_showing_41, decode mX0_showing.2.1 q.1 = .ok (q.2, aLn q.2) := by decide +kernel
def bX0_showing_52 : List (Nat × Instr) := [(52, .iconst 1)]
theorem bX0_showing_52_ok : ∀ q ∈ bX0_showing_52, decode mX0_showing.2.1 q.1 = .ok (q.2, aLn q.2) := by decide +kernel
def bX0_showing_56 : List (Nat × Instr) := [(56, .iload_n 3), (57, .iconst 2), (58, .idiv), (59, .goto 4)]
theorem bX0_showing_56_ok : ∀ q ∈ bX0_showing_56, decode mX0_showing.2.1 q.1 = .ok (q.2, aLn q.2) := by decide +kernel
def bX0_showing_62 : List (Nat × Instr) := [(62, .iload_n 3)]
theorem bX0_showing_62_ok : ∀ q ∈ bX0_showing_62, decode mX0_showing.2.1 q.1 = .ok (q.2, aLn q.2) := by decide +kernel
theorem dX0_showing_8 : decode mX0_showing.2.1 8 = .ok (.invokestatic 46, 3) := by decide +kernel
theorem dX0_showing_11 : decode mX0_showing.2.1 11 = .ok (.ifCond .ne 5, 3) := by decide +kernel
theorem dX0_showing_15 : decode mX0_showing.2.1 15 = .ok (.ireturn, 1) := by decide +kernel
theorem dX0_showing_38 : decode mX0_showing.2.1 38 = .ok (.invokestatic 88, 3) := by decide +kernel
theorem dX0_showing_49 : decode mX0_showing.2.1 49 = .ok (.invokevirtual 92, 3) := by decide +kernel
theorem dX0_showing_53 : decode mX0_showing.2.1 53 = .ok (.if_icmp .le 9, 3) := by decide +kernel
theorem dX0_showing_63 : decode mX0_showing.2.1 63 = .ok (.ireturn, 1) := by decide +kernel
def bX0_fall_0 : List (Nat × Instr) := [(0, .aload_n 0), (1, .dup), (2, .getfield 21), (5, .iconst 1), (6, .iadd), (7, .putfield 21), (10, .aload_n 0), (11, .sipush 999), (14, .aload_n 0), (15, .getfield 18), (18, .iconst 1), (19, .iadd)]
theorem bX0_fall_0_ok : ∀ q ∈ bX0_fall_0, decode mX0_fall.2.1 q.1 = .ok (q.2, aLn q.2) := by decide +kernel
def bX0_fall_23 : List (Nat × Instr) := [(23, .putfield 18), (26, .aload_n 0), (27, .iload_n 1)]
theorem bX0_fall_23_ok : ∀ q ∈ bX0_fall_23, decode mX0_fall.2.1 q.1 = .ok (q.2, aLn q.2) := by decide +kernel
def bX0_fall_31 : List (Nat × Instr) := [(31, .aload_n 0), (32, .getfield 34), (35, .iload_n 2), (36, .iaload), (37, .istore_n 3), (38, .aload_n 0), (39, .iload_n 3)]
theorem bX0_fall_31_ok : ∀ q ∈ bX0_fall_31, decode mX0_fall.2.1 q.1 = .ok (q.2, aLn q.2) := by decide +kernel
def bX0_fall_46 : List (Nat × Instr) := [(46, .aload_n 0), (47, .getfield 37), (50, .iload_n 3), (51, .iaload), (52, .iconst (-1))]
theorem bX0_fall_46_ok : ∀ q ∈ bX0_fall_46, decode mX0_fall.2.1 q.1 = .ok (q.2, aLn q.2) := by decide +kernel
def bX0_fall_56 : List (Nat × Instr) := [(56, .aload_n 0), (57, .getfield 31), (60, .iload_n 3), (61, .iaload), (62, .aload_n 0), (63, .iload_n 3)]
theorem bX0_fall_56_ok : ∀ q ∈ bX0_fall_56, decode mX0_fall.2.1 q.1 = .ok (q.2, aLn q.2) := by decide +kernel
def bX0_fall_70 : List (Nat × Instr) := [(70, .aload_n 0), (71, .getfield 43), (74, .iload_n 1), (75, .iload_n 3), (76, .iastore), (77, .aload_n 0), (78, .getfield 37), (81, .iload_n 3), (82, .iload_n 1), (83, .iastore)]
theorem bX0_fall_70_ok : ∀ q ∈ bX0_fall_70, decode mX0_fall.2.1 q.1 = .ok (q.2, aLn q.2) := by decide +kernel
theorem dX0_fall_20 : decode mX0_fall.2.1 20 = .ok (.invokestatic 78, 3) := by decide +kernel
theorem dX0_fall_28 : decode mX0_fall.2.1 28 = .ok (.invokevirtual 53, 3) := by decide +kernel
theorem dX0_fall_40 : decode mX0_fall.2.1 40 = .ok (.invokevirtual 50, 3) := by decide +kernel
theorem dX0_fall_43 : decode mX0_fall.2.1 43 = .ok (.ifCond .eq 41, 3) := by decide +kernel
theorem dX0_fall_53 : decode mX0_fall.2.1 53 = .ok (.if_icmp .ne 31, 3) := by decide +kernel
theorem dX0_fall_64 : decode mX0_fall.2.1 64 = .ok (.invokevirtual 81, 3) := by decide +kernel
theorem dX0_fall_67 : decode mX0_fall.2.1 67 = .ok (.if_icmp .ge 17, 3) := by decide +kernel
theorem dX0_fall_84 : decode mX0_fall.2.1 84 = .ok (.return_, 1) := by decide +kernel
def bX0_scandal_0 : List (Nat × Instr) := [(0, .iconst 0), (1, .istore_n 1)]
theorem bX0_scandal_0_ok : ∀ q ∈ bX0_scandal_0, decode mX0_scandal.2.1 q.1 = .ok (q.2, aLn q.2) := by decide +kernel
def bX0_scandal_2 : List (Nat × Instr) := [(2, .iload_n 1), (3, .aload_n 0), (4, .getfield 9)]
theorem bX0_scandal_2_ok : ∀ q ∈ bX0_scandal_2, decode mX0_scandal.2.1 q.1 = .ok (q.2, aLn q.2) := by decide +kernel
def bX0_scandal_10 : List (Nat × Instr) := [(10, .aload_n 0), (11, .getfield 37), (14, .iload_n 1), (15, .iaload), (16, .iconst (-1))]
theorem bX0_scandal_10_ok : ∀ q ∈ bX0_scandal_10, decode mX0_scandal.2.1 q.1 = .ok (q.2, aLn q.2) := by decide +kernel
def bX0_scandal_20 : List (Nat × Instr) := [(20, .aload_n 0), (21, .getfield 31), (24, .iload_n 1), (25, .bipush 99), (27, .aload_n 0), (28, .getfield 31), (31, .iload_n 1), (32, .iaload), (33, .iconst 5), (34, .iadd)]
theorem bX0_scandal_20_ok : ∀ q ∈ bX0_scandal_20, decode mX0_scandal.2.1 q.1 = .ok (q.2, aLn q.2) := by decide +kernel
def bX0_scandal_38 : List (Nat × Instr) := [(38, .iastore)]
theorem bX0_scandal_38_ok : ∀ q ∈ bX0_scandal_38, decode mX0_scandal.2.1 q.1 = .ok (q.2, aLn q.2) := by decide +kernel
def bX0_scandal_39 : List (Nat × Instr) := [(39, .iinc 1 1), (42, .goto (-40))]
theorem bX0_scandal_39_ok : ∀ q ∈ bX0_scandal_39, decode mX0_scandal.2.1 q.1 = .ok (q.2, aLn q.2) := by decide +kernel
theorem dX0_scandal_7 : decode mX0_scandal.2.1 7 = .ok (.if_icmp .ge 38, 3) := by decide +kernel
theorem dX0_scandal_17 : decode mX0_scandal.2.1 17 = .ok (.if_icmp .eq 22, 3) := by decide +kernel
theorem dX0_scandal_35 : decode mX0_scandal.2.1 35 = .ok (.invokestatic 78, 3) := by decide +kernel
theorem dX0_scandal_45 : decode mX0_scandal.2.1 45 = .ok (.return_, 1) := by decide +kernel
def bX0_lasting_0 : List (Nat × Instr) := [(0, .iload_n 1)]
theorem bX0_lasting_0_ok : ∀ q ∈ bX0_lasting_0, decode mX0_lasting.2.1 q.1 = .ok (q.2, aLn q.2) := by decide +kernel
def bX0_lasting_7 : List (Nat × Instr) := [(7, .aload_n 0), (8, .iload_n 2)]
theorem bX0_lasting_7_ok : ∀ q ∈ bX0_lasting_7, decode mX0_lasting.2.1 q.1 = .ok (q.2, aLn q.2) := by decide +kernel
def bX0_lasting_15 : List (Nat × Instr) := [(15, .iconst 0)]
theorem bX0_lasting_15_ok : ∀ q ∈ bX0_lasting_15, decode mX0_lasting.2.1 q.1 = .ok (q.2, aLn q.2) := by decide +kernel
def bX0_lasting_17 : List (Nat × Instr) := [(17, .aload_n 0), (18, .getfield 31), (21, .iload_n 2), (22, .iaload), (23, .istore_n 3), (24, .iconst 1), (25, .istore 4)]
theorem bX0_lasting_17_ok : ∀ q ∈ bX0_lasting_17, decode mX0_lasting.2.1 q.1 = .ok (q.2, aLn q.2) := by decide +kernel
def bX0_lasting_27 : List (Nat × Instr) := [(27, .iload 4), (29, .bipush 60)]
theorem bX0_lasting_27_ok : ∀ q ∈ bX0_lasting_27, decode mX0_lasting.2.1 q.1 = .ok (q.2, aLn q.2) := by decide +kernel
def bX0_lasting_34 : List (Nat × Instr) := [(34, .bipush 99), (36, .iload_n 3), (37, .aload_n 0), (38, .getfield 24), (41, .iload_n 2), (42, .iaload), (43, .aload_n 0), (44, .getfield 28), (47, .iload_n 2), (48, .iaload), (49, .aload_n 0), (50, .getfield 40), (53, .iload_n 1), (54, .iaload), (55, .aload_n 0), (56, .getfield 15), (59, .iload 4), (61, .iadd)]
theorem bX0_lasting_34_ok : ∀ q ∈ bX0_lasting_34, decode mX0_lasting.2.1 q.1 = .ok (q.2, aLn q.2) := by decide +kernel
def bX0_lasting_65 : List (Nat × Instr) := [(65, .iadd)]
theorem bX0_lasting_65_ok : ∀ q ∈ bX0_lasting_65, decode mX0_lasting.2.1 q.1 = .ok (q.2, aLn q.2) := by decide +kernel
def bX0_lasting_69 : List (Nat × Instr) := [(69, .istore_n 3), (70, .iload_n 3), (71, .aload_n 0), (72, .iload_n 2)]
theorem bX0_lasting_69_ok : ∀ q ∈ bX0_lasting_69, decode mX0_lasting.2.1 q.1 = .ok (q.2, aLn q.2) := by decide +kernel
def bX0_lasting_79 : List (Nat × Instr) := [(79, .iload 4)]
theorem bX0_lasting_79_ok : ∀ q ∈ bX0_lasting_79, decode mX0_lasting.2.1 q.1 = .ok (q.2, aLn q.2) := by decide +kernel
def bX0_lasting_82 : List (Nat × Instr) := [(82, .iinc 4 1), (85, .goto (-58))]
theorem bX0_lasting_82_ok : ∀ q ∈ bX0_lasting_82, decode mX0_lasting.2.1 q.1 = .ok (q.2, aLn q.2) := by decide +kernel
def bX0_lasting_88 : List (Nat × Instr) := [(88, .bipush 60)]
theorem bX0_lasting_88_ok : ∀ q ∈ bX0_lasting_88, decode mX0_lasting.2.1 q.1 = .ok (q.2, aLn q.2) := by decide +kernel
theorem dX0_lasting_1 : decode mX0_lasting.2.1 1 = .ok (.invokestatic 46, 3) := by decide +kernel
theorem dX0_lasting_4 : decode mX0_lasting.2.1 4 = .ok (.ifCond .eq 11, 3) := by decide +kernel
theorem dX0_lasting_9 : decode mX0_lasting.2.1 9 = .ok (.invokevirtual 50, 3) := by decide +kernel
theorem dX0_lasting_12 : decode mX0_lasting.2.1 12 = .ok (.ifCond .ne 5, 3) := by decide +kernel
theorem dX0_lasting_16 : decode mX0_lasting.2.1 16 = .ok (.ireturn, 1) := by decide +kernel
theorem dX0_lasting_31 : decode mX0_lasting.2.1 31 = .ok (.if_icmp .ge 57, 3) := by decide +kernel
theorem dX0_lasting_62 : decode mX0_lasting.2.1 62 = .ok (.invokestatic 88, 3) := by decide +kernel
theorem dX0_lasting_66 : decode mX0_lasting.2.1 66 = .ok (.invokestatic 78, 3) := by decide +kernel
theorem dX0_lasting_73 : decode mX0_lasting.2.1 73 = .ok (.invokevirtual 81, 3) := by decide +kernel
theorem dX0_lasting_76 : decode mX0_lasting.2.1 76 = .ok (.if_icmp .lt 6, 3) := by decide +kernel
theorem dX0_lasting_81 : decode mX0_lasting.2.1 81 = .ok (.ireturn, 1) := by decide +kernel
theorem dX0_lasting_90 : decode mX0_lasting.2.1 90 = .ok (.ireturn, 1) := by decide +kernel
def bX0_heldIn_0 : List (Nat × Instr) := [(0, .iconst 0), (1, .istore_n 2), (2, .iconst 0), (3, .istore_n 3)]
theorem bX0_heldIn_0_ok : ∀ q ∈ bX0_heldIn_0, decode mX0_heldIn.2.1 q.1 = .ok (q.2, aLn q.2) := by decide +kernel
def bX0_heldIn_4 : List (Nat × Instr) := [(4, .iload_n 3), (5, .iconst 5)]
theorem bX0_heldIn_4_ok : ∀ q ∈ bX0_heldIn_4, decode mX0_heldIn.2.1 q.1 = .ok (q.2, aLn q.2) := by decide +kernel
def bX0_heldIn_9 : List (Nat × Instr) := [(9, .aload_n 0), (10, .getfield 43), (13, .iload_n 3), (14, .iaload), (15, .iconst (-1))]
theorem bX0_heldIn_9_ok : ∀ q ∈ bX0_heldIn_9, decode mX0_heldIn.2.1 q.1 = .ok (q.2, aLn q.2) := by decide +kernel
def bX0_heldIn_19 : List (Nat × Instr) := [(19, .aload_n 0), (20, .getfield 40), (23, .iload_n 3), (24, .iaload), (25, .iload_n 1)]
theorem bX0_heldIn_19_ok : ∀ q ∈ bX0_heldIn_19, decode mX0_heldIn.2.1 q.1 = .ok (q.2, aLn q.2) := by decide +kernel
def bX0_heldIn_29 : List (Nat × Instr) := [(29, .iinc 2 1)]
theorem bX0_heldIn_29_ok : ∀ q ∈ bX0_heldIn_29, decode mX0_heldIn.2.1 q.1 = .ok (q.2, aLn q.2) := by decide +kernel
def bX0_heldIn_32 : List (Nat × Instr) := [(32, .iinc 3 1), (35, .goto (-31))]
theorem bX0_heldIn_32_ok : ∀ q ∈ bX0_heldIn_32, decode mX0_heldIn.2.1 q.1 = .ok (q.2, aLn q.2) := by decide +kernel
def bX0_heldIn_38 : List (Nat × Instr) := [(38, .iload_n 2)]
theorem bX0_heldIn_38_ok : ∀ q ∈ bX0_heldIn_38, decode mX0_heldIn.2.1 q.1 = .ok (q.2, aLn q.2) := by decide +kernel
theorem dX0_heldIn_6 : decode mX0_heldIn.2.1 6 = .ok (.if_icmp .ge 32, 3) := by decide +kernel
theorem dX0_heldIn_16 : decode mX0_heldIn.2.1 16 = .ok (.if_icmp .eq 16, 3) := by decide +kernel
theorem dX0_heldIn_26 : decode mX0_heldIn.2.1 26 = .ok (.if_icmp .ne 6, 3) := by decide +kernel
theorem dX0_heldIn_39 : decode mX0_heldIn.2.1 39 = .ok (.ireturn, 1) := by decide +kernel
def bX0_heldCount_0 : List (Nat × Instr) := [(0, .aload_n 0)]
theorem bX0_heldCount_0_ok : ∀ q ∈ bX0_heldCount_0, decode mX0_heldCount.2.1 q.1 = .ok (q.2, aLn q.2) := by decide +kernel
theorem dX0_heldCount_1 : decode mX0_heldCount.2.1 1 = .ok (.invokevirtual 95, 3) := by decide +kernel
theorem dX0_heldCount_4 : decode mX0_heldCount.2.1 4 = .ok (.invokestatic 99, 3) := by decide +kernel
theorem dX0_heldCount_7 : decode mX0_heldCount.2.1 7 = .ok (.ireturn, 1) := by decide +kernel
def bX0_heldBits_0 : List (Nat × Instr) := [(0, .iconst 0), (1, .istore_n 1), (2, .iconst 0), (3, .istore_n 2)]
theorem bX0_heldBits_0_ok : ∀ q ∈ bX0_heldBits_0, decode mX0_heldBits.2.1 q.1 = .ok (q.2, aLn q.2) := by decide +kernel
def bX0_heldBits_4 : List (Nat × Instr) := [(4, .iload_n 2), (5, .iconst 5)]
theorem bX0_heldBits_4_ok : ∀ q ∈ bX0_heldBits_4, decode mX0_heldBits.2.1 q.1 = .ok (q.2, aLn q.2) := by decide +kernel
def bX0_heldBits_9 : List (Nat × Instr) := [(9, .aload_n 0), (10, .getfield 43), (13, .iload_n 2), (14, .iaload), (15, .iconst (-1))]
theorem bX0_heldBits_9_ok : ∀ q ∈ bX0_heldBits_9, decode mX0_heldBits.2.1 q.1 = .ok (q.2, aLn q.2) := by decide +kernel
def bX0_heldBits_19 : List (Nat × Instr) := [(19, .iload_n 1), (20, .iconst 1), (21, .iload_n 2), (22, .ishl), (23, .ior), (24, .istore_n 1)]
theorem bX0_heldBits_19_ok : ∀ q ∈ bX0_heldBits_19, decode mX0_heldBits.2.1 q.1 = .ok (q.2, aLn q.2) := by decide +kernel
def bX0_heldBits_25 : List (Nat × Instr) := [(25, .iinc 2 1), (28, .goto (-24))]
theorem bX0_heldBits_25_ok : ∀ q ∈ bX0_heldBits_25, decode mX0_heldBits.2.1 q.1 = .ok (q.2, aLn q.2) := by decide +kernel
def bX0_heldBits_31 : List (Nat × Instr) := [(31, .iload_n 1)]
theorem bX0_heldBits_31_ok : ∀ q ∈ bX0_heldBits_31, decode mX0_heldBits.2.1 q.1 = .ok (q.2, aLn q.2) := by decide +kernel
theorem dX0_heldBits_6 : decode mX0_heldBits.2.1 6 = .ok (.if_icmp .ge 25, 3) := by decide +kernel
theorem dX0_heldBits_16 : decode mX0_heldBits.2.1 16 = .ok (.if_icmp .eq 9, 3) := by decide +kernel
theorem dX0_heldBits_32 : decode mX0_heldBits.2.1 32 = .ok (.ireturn, 1) := by decide +kernel
def bX0_knownOfAll_0 : List (Nat × Instr) := [(0, .iconst 0), (1, .istore_n 1), (2, .iconst 0), (3, .istore_n 2)]
theorem bX0_knownOfAll_0_ok : ∀ q ∈ bX0_knownOfAll_0, decode mX0_knownOfAll.2.1 q.1 = .ok (q.2, aLn q.2) := by decide +kernel
def bX0_knownOfAll_4 : List (Nat × Instr) := [(4, .iload_n 2), (5, .aload_n 0), (6, .getfield 9)]
theorem bX0_knownOfAll_4_ok : ∀ q ∈ bX0_knownOfAll_4, decode mX0_knownOfAll.2.1 q.1 = .ok (q.2, aLn q.2) := by decide +kernel
def bX0_knownOfAll_12 : List (Nat × Instr) := [(12, .iload_n 1), (13, .aload_n 0), (14, .getfield 31), (17, .iload_n 2), (18, .iaload), (19, .iadd), (20, .istore_n 1), (21, .iinc 2 1), (24, .goto (-20))]
theorem bX0_knownOfAll_12_ok : ∀ q ∈ bX0_knownOfAll_12, decode mX0_knownOfAll.2.1 q.1 = .ok (q.2, aLn q.2) := by decide +kernel
def bX0_knownOfAll_27 : List (Nat × Instr) := [(27, .iload_n 1)]
theorem bX0_knownOfAll_27_ok : ∀ q ∈ bX0_knownOfAll_27, decode mX0_knownOfAll.2.1 q.1 = .ok (q.2, aLn q.2) := by decide +kernel
theorem dX0_knownOfAll_9 : decode mX0_knownOfAll.2.1 9 = .ok (.if_icmp .ge 18, 3) := by decide +kernel
theorem dX0_knownOfAll_28 : decode mX0_knownOfAll.2.1 28 = .ok (.ireturn, 1) := by decide +kernel
def bX0_chain_0 : List (Nat × Instr) := [(0, .iconst 0), (1, .istore_n 2), (2, .iload_n 1), (3, .istore_n 3), (4, .iconst 0), (5, .istore 4)]
theorem bX0_chain_0_ok : ∀ q ∈ bX0_chain_0, decode mX0_chain.2.1 q.1 = .ok (q.2, aLn q.2) := by decide +kernel
def bX0_chain_7 : List (Nat × Instr) := [(7, .iload 4), (9, .bipush 8)]
theorem bX0_chain_7_ok : ∀ q ∈ bX0_chain_7, decode mX0_chain.2.1 q.1 = .ok (q.2, aLn q.2) := by decide +kernel
def bX0_chain_14 : List (Nat × Instr) := [(14, .aload_n 0), (15, .iload_n 3)]
theorem bX0_chain_14_ok : ∀ q ∈ bX0_chain_14, decode mX0_chain.2.1 q.1 = .ok (q.2, aLn q.2) := by decide +kernel
def bX0_chain_22 : List (Nat × Instr) := [(22, .iload_n 2), (23, .iload_n 3), (24, .ishr), (25, .iconst 1), (26, .iand)]
theorem bX0_chain_22_ok : ∀ q ∈ bX0_chain_22, decode mX0_chain.2.1 q.1 = .ok (q.2, aLn q.2) := by decide +kernel
def bX0_chain_30 : List (Nat × Instr) := [(30, .iload_n 2), (31, .iconst 1), (32, .iload_n 3), (33, .ishl), (34, .ior), (35, .istore_n 2), (36, .aload_n 0), (37, .getfield 34), (40, .iload_n 3), (41, .iaload), (42, .istore_n 3), (43, .iinc 4 1), (46, .goto (-39))]
theorem bX0_chain_30_ok : ∀ q ∈ bX0_chain_30, decode mX0_chain.2.1 q.1 = .ok (q.2, aLn q.2) := by decide +kernel
def bX0_chain_49 : List (Nat × Instr) := [(49, .iload_n 2)]
theorem bX0_chain_49_ok : ∀ q ∈ bX0_chain_49, decode mX0_chain.2.1 q.1 = .ok (q.2, aLn q.2) := by decide +kernel
theorem dX0_chain_11 : decode mX0_chain.2.1 11 = .ok (.if_icmp .ge 38, 3) := by decide +kernel
theorem dX0_chain_16 : decode mX0_chain.2.1 16 = .ok (.invokevirtual 50, 3) := by decide +kernel
theorem dX0_chain_19 : decode mX0_chain.2.1 19 = .ok (.ifCond .eq 30, 3) := by decide +kernel
theorem dX0_chain_27 : decode mX0_chain.2.1 27 = .ok (.ifCond .ne 22, 3) := by decide +kernel
theorem dX0_chain_50 : decode mX0_chain.2.1 50 = .ok (.invokestatic 99, 3) := by decide +kernel
theorem dX0_chain_53 : decode mX0_chain.2.1 53 = .ok (.ireturn, 1) := by decide +kernel
def bX0_plainBits_0 : List (Nat × Instr) := [(0, .iconst 0), (1, .istore_n 1), (2, .iconst 0), (3, .istore_n 2)]
theorem bX0_plainBits_0_ok : ∀ q ∈ bX0_plainBits_0, decode mX0_plainBits.2.1 q.1 = .ok (q.2, aLn q.2) := by decide +kernel
def bX0_plainBits_4 : List (Nat × Instr) := [(4, .iload_n 2), (5, .aload_n 0), (6, .getfield 9)]
theorem bX0_plainBits_4_ok : ∀ q ∈ bX0_plainBits_4, decode mX0_plainBits.2.1 q.1 = .ok (q.2, aLn q.2) := by decide +kernel
def bX0_plainBits_12 : List (Nat × Instr) := [(12, .aload_n 0), (13, .iload_n 2)]
theorem bX0_plainBits_12_ok : ∀ q ∈ bX0_plainBits_12, decode mX0_plainBits.2.1 q.1 = .ok (q.2, aLn q.2) := by decide +kernel
def bX0_plainBits_20 : List (Nat × Instr) := [(20, .iload_n 1), (21, .iconst 1), (22, .iload_n 2), (23, .ishl), (24, .ior), (25, .istore_n 1)]
theorem bX0_plainBits_20_ok : ∀ q ∈ bX0_plainBits_20, decode mX0_plainBits.2.1 q.1 = .ok (q.2, aLn q.2) := by decide +kernel
def bX0_plainBits_26 : List (Nat × Instr) := [(26, .iinc 2 1), (29, .goto (-25))]
theorem bX0_plainBits_26_ok : ∀ q ∈ bX0_plainBits_26, decode mX0_plainBits.2.1 q.1 = .ok (q.2, aLn q.2) := by decide +kernel
def bX0_plainBits_32 : List (Nat × Instr) := [(32, .iload_n 1)]
theorem bX0_plainBits_32_ok : ∀ q ∈ bX0_plainBits_32, decode mX0_plainBits.2.1 q.1 = .ok (q.2, aLn q.2) := by decide +kernel
theorem dX0_plainBits_9 : decode mX0_plainBits.2.1 9 = .ok (.if_icmp .ge 23, 3) := by decide +kernel
theorem dX0_plainBits_14 : decode mX0_plainBits.2.1 14 = .ok (.invokevirtual 104, 3) := by decide +kernel
theorem dX0_plainBits_17 : decode mX0_plainBits.2.1 17 = .ok (.ifCond .eq 9, 3) := by decide +kernel
theorem dX0_plainBits_33 : decode mX0_plainBits.2.1 33 = .ok (.ireturn, 1) := by decide +kernel
def bX0_isPlain_0 : List (Nat × Instr) := [(0, .iconst 0), (1, .istore_n 2)]
theorem bX0_isPlain_0_ok : ∀ q ∈ bX0_isPlain_0, decode mX0_isPlain.2.1 q.1 = .ok (q.2, aLn q.2) := by decide +kernel
def bX0_isPlain_2 : List (Nat × Instr) := [(2, .iload_n 2), (3, .bipush 10)]
theorem bX0_isPlain_2_ok : ∀ q ∈ bX0_isPlain_2, decode mX0_isPlain.2.1 q.1 = .ok (q.2, aLn q.2) := by decide +kernel
def bX0_isPlain_8 : List (Nat × Instr) := [(8, .aload_n 0), (9, .getfield 24), (12, .iload_n 1), (13, .iaload), (14, .aload_n 0), (15, .getfield 28), (18, .iload_n 1), (19, .iaload), (20, .iload_n 2), (21, .aload_n 0), (22, .getfield 15), (25, .iconst 1), (26, .iadd)]
theorem bX0_isPlain_8_ok : ∀ q ∈ bX0_isPlain_8, decode mX0_isPlain.2.1 q.1 = .ok (q.2, aLn q.2) := by decide +kernel
def bX0_isPlain_33 : List (Nat × Instr) := [(33, .iconst 0)]
theorem bX0_isPlain_33_ok : ∀ q ∈ bX0_isPlain_33, decode mX0_isPlain.2.1 q.1 = .ok (q.2, aLn q.2) := by decide +kernel
def bX0_isPlain_35 : List (Nat × Instr) := [(35, .iinc 2 1), (38, .goto (-36))]
theorem bX0_isPlain_35_ok : ∀ q ∈ bX0_isPlain_35, decode mX0_isPlain.2.1 q.1 = .ok (q.2, aLn q.2) := by decide +kernel
def bX0_isPlain_41 : List (Nat × Instr) := [(41, .iconst 1)]
theorem bX0_isPlain_41_ok : ∀ q ∈ bX0_isPlain_41, decode mX0_isPlain.2.1 q.1 = .ok (q.2, aLn q.2) := by decide +kernel
theorem dX0_isPlain_5 : decode mX0_isPlain.2.1 5 = .ok (.if_icmp .ge 36, 3) := by decide +kernel
theorem dX0_isPlain_27 : decode mX0_isPlain.2.1 27 = .ok (.invokestatic 88, 3) := by decide +kernel
theorem dX0_isPlain_30 : decode mX0_isPlain.2.1 30 = .ok (.ifCond .eq 5, 3) := by decide +kernel
theorem dX0_isPlain_34 : decode mX0_isPlain.2.1 34 = .ok (.ireturn, 1) := by decide +kernel
theorem dX0_isPlain_42 : decode mX0_isPlain.2.1 42 = .ok (.ireturn, 1) := by decide +kernel
def bX0_alike_0 : List (Nat × Instr) := [(0, .iconst 0), (1, .istore_n 1), (2, .iconst 0), (3, .istore_n 2)]
theorem bX0_alike_0_ok : ∀ q ∈ bX0_alike_0, decode mX0_alike.2.1 q.1 = .ok (q.2, aLn q.2) := by decide +kernel
def bX0_alike_4 : List (Nat × Instr) := [(4, .iload_n 2), (5, .iconst 5)]
theorem bX0_alike_4_ok : ∀ q ∈ bX0_alike_4, decode mX0_alike.2.1 q.1 = .ok (q.2, aLn q.2) := by decide +kernel
def bX0_alike_9 : List (Nat × Instr) := [(9, .iload_n 2), (10, .iconst 1), (11, .iadd), (12, .istore_n 3)]
theorem bX0_alike_9_ok : ∀ q ∈ bX0_alike_9, decode mX0_alike.2.1 q.1 = .ok (q.2, aLn q.2) := by decide +kernel
def bX0_alike_13 : List (Nat × Instr) := [(13, .iload_n 3), (14, .iconst 5)]
theorem bX0_alike_13_ok : ∀ q ∈ bX0_alike_13, decode mX0_alike.2.1 q.1 = .ok (q.2, aLn q.2) := by decide +kernel
def bX0_alike_18 : List (Nat × Instr) := [(18, .aload_n 0), (19, .getfield 43), (22, .iload_n 2), (23, .iaload), (24, .iconst (-1))]
theorem bX0_alike_18_ok : ∀ q ∈ bX0_alike_18, decode mX0_alike.2.1 q.1 = .ok (q.2, aLn q.2) := by decide +kernel
def bX0_alike_28 : List (Nat × Instr) := [(28, .aload_n 0), (29, .getfield 43), (32, .iload_n 3), (33, .iaload), (34, .iconst (-1))]
theorem bX0_alike_28_ok : ∀ q ∈ bX0_alike_28, decode mX0_alike.2.1 q.1 = .ok (q.2, aLn q.2) := by decide +kernel
def bX0_alike_38 : List (Nat × Instr) := [(38, .iconst 1), (39, .goto 4)]
theorem bX0_alike_38_ok : ∀ q ∈ bX0_alike_38, decode mX0_alike.2.1 q.1 = .ok (q.2, aLn q.2) := by decide +kernel
def bX0_alike_42 : List (Nat × Instr) := [(42, .iconst 0)]
theorem bX0_alike_42_ok : ∀ q ∈ bX0_alike_42, decode mX0_alike.2.1 q.1 = .ok (q.2, aLn q.2) := by decide +kernel
def bX0_alike_43 : List (Nat × Instr) := [(43, .istore 4), (45, .iload 4)]
theorem bX0_alike_43_ok : ∀ q ∈ bX0_alike_43, decode mX0_alike.2.1 q.1 = .ok (q.2, aLn q.2) := by decide +kernel
def bX0_alike_50 : List (Nat × Instr) := [(50, .aload_n 0), (51, .getfield 40), (54, .iload_n 2), (55, .iaload), (56, .aload_n 0), (57, .getfield 40), (60, .iload_n 3), (61, .iaload)]
theorem bX0_alike_50_ok : ∀ q ∈ bX0_alike_50, decode mX0_alike.2.1 q.1 = .ok (q.2, aLn q.2) := by decide +kernel
def bX0_alike_65 : List (Nat × Instr) := [(65, .iinc 1 1)]
theorem bX0_alike_65_ok : ∀ q ∈ bX0_alike_65, decode mX0_alike.2.1 q.1 = .ok (q.2, aLn q.2) := by decide +kernel
def bX0_alike_68 : List (Nat × Instr) := [(68, .iinc 3 1), (71, .goto (-58))]
theorem bX0_alike_68_ok : ∀ q ∈ bX0_alike_68, decode mX0_alike.2.1 q.1 = .ok (q.2, aLn q.2) := by decide +kernel
def bX0_alike_74 : List (Nat × Instr) := [(74, .iinc 2 1), (77, .goto (-73))]
theorem bX0_alike_74_ok : ∀ q ∈ bX0_alike_74, decode mX0_alike.2.1 q.1 = .ok (q.2, aLn q.2) := by decide +kernel
def bX0_alike_80 : List (Nat × Instr) := [(80, .iload_n 1)]
theorem bX0_alike_80_ok : ∀ q ∈ bX0_alike_80, decode mX0_alike.2.1 q.1 = .ok (q.2, aLn q.2) := by decide +kernel
theorem dX0_alike_6 : decode mX0_alike.2.1 6 = .ok (.if_icmp .ge 74, 3) := by decide +kernel
theorem dX0_alike_15 : decode mX0_alike.2.1 15 = .ok (.if_icmp .ge 59, 3) := by decide +kernel
theorem dX0_alike_25 : decode mX0_alike.2.1 25 = .ok (.if_icmp .eq 17, 3) := by decide +kernel
theorem dX0_alike_35 : decode mX0_alike.2.1 35 = .ok (.if_icmp .eq 7, 3) := by decide +kernel
theorem dX0_alike_47 : decode mX0_alike.2.1 47 = .ok (.ifCond .eq 21, 3) := by decide +kernel
theorem dX0_alike_62 : decode mX0_alike.2.1 62 = .ok (.if_icmp .ne 6, 3) := by decide +kernel
theorem dX0_alike_81 : decode mX0_alike.2.1 81 = .ok (.ireturn, 1) := by decide +kernel
def bX0_closest_0 : List (Nat × Instr) := [(0, .iconst (-1)), (1, .istore_n 1), (2, .iconst 0), (3, .istore_n 2), (4, .iconst 0), (5, .istore_n 3)]
theorem bX0_closest_0_ok : ∀ q ∈ bX0_closest_0, decode mX0_closest.2.1 q.1 = .ok (q.2, aLn q.2) := by decide +kernel
def bX0_closest_6 : List (Nat × Instr) := [(6, .iload_n 3), (7, .aload_n 0), (8, .getfield 9)]
theorem bX0_closest_6_ok : ∀ q ∈ bX0_closest_6, decode mX0_closest.2.1 q.1 = .ok (q.2, aLn q.2) := by decide +kernel
def bX0_closest_14 : List (Nat × Instr) := [(14, .aload_n 0), (15, .iload_n 3)]
theorem bX0_closest_14_ok : ∀ q ∈ bX0_closest_14, decode mX0_closest.2.1 q.1 = .ok (q.2, aLn q.2) := by decide +kernel
def bX0_closest_19 : List (Nat × Instr) := [(19, .aload_n 0), (20, .getfield 31), (23, .iload_n 3), (24, .iaload), (25, .isub), (26, .istore 4), (28, .aload_n 0), (29, .getfield 37), (32, .iload_n 3), (33, .iaload), (34, .iconst (-1))]
theorem bX0_closest_19_ok : ∀ q ∈ bX0_closest_19, decode mX0_closest.2.1 q.1 = .ok (q.2, aLn q.2) := by decide +kernel
def bX0_closest_38 : List (Nat × Instr) := [(38, .iload_n 1), (39, .iconst (-1))]
theorem bX0_closest_38_ok : ∀ q ∈ bX0_closest_38, decode mX0_closest.2.1 q.1 = .ok (q.2, aLn q.2) := by decide +kernel
def bX0_closest_43 : List (Nat × Instr) := [(43, .iload 4), (45, .iload_n 2)]
theorem bX0_closest_43_ok : ∀ q ∈ bX0_closest_43, decode mX0_closest.2.1 q.1 = .ok (q.2, aLn q.2) := by decide +kernel
def bX0_closest_49 : List (Nat × Instr) := [(49, .iload_n 3), (50, .istore_n 1), (51, .iload 4), (53, .istore_n 2)]
theorem bX0_closest_49_ok : ∀ q ∈ bX0_closest_49, decode mX0_closest.2.1 q.1 = .ok (q.2, aLn q.2) := by decide +kernel
def bX0_closest_54 : List (Nat × Instr) := [(54, .iinc 3 1), (57, .goto (-51))]
theorem bX0_closest_54_ok : ∀ q ∈ bX0_closest_54, decode mX0_closest.2.1 q.1 = .ok (q.2, aLn q.2) := by decide +kernel
def bX0_closest_60 : List (Nat × Instr) := [(60, .iload_n 1)]
theorem bX0_closest_60_ok : ∀ q ∈ bX0_closest_60, decode mX0_closest.2.1 q.1 = .ok (q.2, aLn q.2) := by decide +kernel
theorem dX0_closest_11 : decode mX0_closest.2.1 11 = .ok (.if_icmp .ge 49, 3) := by decide +kernel
theorem dX0_closest_16 : decode mX0_closest.2.1 16 = .ok (.invokevirtual 81, 3) := by decide +kernel
theorem dX0_closest_35 : decode mX0_closest.2.1 35 = .ok (.if_icmp .eq 19, 3) := by decide +kernel
theorem dX0_closest_40 : decode mX0_closest.2.1 40 = .ok (.if_icmp .eq 9, 3) := by decide +kernel
theorem dX0_closest_46 : decode mX0_closest.2.1 46 = .ok (.if_icmp .ge 8, 3) := by decide +kernel
theorem dX0_closest_61 : decode mX0_closest.2.1 61 = .ok (.ireturn, 1) := by decide +kernel
def bX1_weigh_0 : List (Nat × Instr) := [(0, .aload_n 0), (1, .bipush 8), (3, .aload_n 1), (4, .getfield 22)]
theorem bX1_weigh_0_ok : ∀ q ∈ bX1_weigh_0, decode mX1_weigh.2.1 q.1 = .ok (q.2, aLn q.2) := by decide +kernel
def bX1_weigh_10 : List (Nat × Instr) := [(10, .putfield 18), (13, .iconst 0), (14, .istore_n 2)]
theorem bX1_weigh_10_ok : ∀ q ∈ bX1_weigh_10, decode mX1_weigh.2.1 q.1 = .ok (q.2, aLn q.2) := by decide +kernel
def bX1_weigh_15 : List (Nat × Instr) := [(15, .iload_n 2), (16, .iconst 5)]
theorem bX1_weigh_15_ok : ∀ q ∈ bX1_weigh_15, decode mX1_weigh.2.1 q.1 = .ok (q.2, aLn q.2) := by decide +kernel
def bX1_weigh_20 : List (Nat × Instr) := [(20, .iconst 0), (21, .istore_n 3)]
theorem bX1_weigh_20_ok : ∀ q ∈ bX1_weigh_20, decode mX1_weigh.2.1 q.1 = .ok (q.2, aLn q.2) := by decide +kernel
def bX1_weigh_22 : List (Nat × Instr) := [(22, .iload_n 3), (23, .aload_n 0), (24, .getfield 18)]
theorem bX1_weigh_22_ok : ∀ q ∈ bX1_weigh_22, decode mX1_weigh.2.1 q.1 = .ok (q.2, aLn q.2) := by decide +kernel
def bX1_weigh_30 : List (Nat × Instr) := [(30, .aload_n 0), (31, .getfield 9), (34, .iload_n 2), (35, .bipush 8), (37, .imul), (38, .iload_n 3), (39, .iadd), (40, .aload_n 1), (41, .iload_n 2), (42, .iload_n 3)]
theorem bX1_weigh_30_ok : ∀ q ∈ bX1_weigh_30, decode mX1_weigh.2.1 q.1 = .ok (q.2, aLn q.2) := by decide +kernel
def bX1_weigh_46 : List (Nat × Instr) := [(46, .iastore), (47, .iinc 3 1), (50, .goto (-28))]
theorem bX1_weigh_46_ok : ∀ q ∈ bX1_weigh_46, decode mX1_weigh.2.1 q.1 = .ok (q.2, aLn q.2) := by decide +kernel
def bX1_weigh_53 : List (Nat × Instr) := [(53, .iinc 2 1), (56, .goto (-41))]
theorem bX1_weigh_53_ok : ∀ q ∈ bX1_weigh_53, decode mX1_weigh.2.1 q.1 = .ok (q.2, aLn q.2) := by decide +kernel
def bX1_weigh_59 : List (Nat × Instr) := [(59, .iconst 4), (60, .istore_n 2)]
theorem bX1_weigh_59_ok : ∀ q ∈ bX1_weigh_59, decode mX1_weigh.2.1 q.1 = .ok (q.2, aLn q.2) := by decide +kernel
def bX1_weigh_61 : List (Nat × Instr) := [(61, .iload_n 2)]
theorem bX1_weigh_61_ok : ∀ q ∈ bX1_weigh_61, decode mX1_weigh.2.1 q.1 = .ok (q.2, aLn q.2) := by decide +kernel
def bX1_weigh_65 : List (Nat × Instr) := [(65, .iconst 0), (66, .istore_n 3)]
theorem bX1_weigh_65_ok : ∀ q ∈ bX1_weigh_65, decode mX1_weigh.2.1 q.1 = .ok (q.2, aLn q.2) := by decide +kernel
def bX1_weigh_67 : List (Nat × Instr) := [(67, .iload_n 3), (68, .iconst 1), (69, .aload_n 0), (70, .getfield 18), (73, .ishl)]
theorem bX1_weigh_67_ok : ∀ q ∈ bX1_weigh_67, decode mX1_weigh.2.1 q.1 = .ok (q.2, aLn q.2) := by decide +kernel
def bX1_weigh_77 : List (Nat × Instr) := [(77, .aload_n 0), (78, .getfield 15), (81, .iload_n 2), (82, .sipush 256), (85, .imul), (86, .iload_n 3), (87, .iadd), (88, .aload_n 0), (89, .iload_n 2), (90, .iload_n 3)]
theorem bX1_weigh_77_ok : ∀ q ∈ bX1_weigh_77, decode mX1_weigh.2.1 q.1 = .ok (q.2, aLn q.2) := by decide +kernel
def bX1_weigh_94 : List (Nat × Instr) := [(94, .iastore), (95, .iinc 3 1), (98, .goto (-31))]
theorem bX1_weigh_94_ok : ∀ q ∈ bX1_weigh_94, decode mX1_weigh.2.1 q.1 = .ok (q.2, aLn q.2) := by decide +kernel
def bX1_weigh_101 : List (Nat × Instr) := [(101, .iinc 2 (-1)), (104, .goto (-43))]
theorem bX1_weigh_101_ok : ∀ q ∈ bX1_weigh_101, decode mX1_weigh.2.1 q.1 = .ok (q.2, aLn q.2) := by decide +kernel
theorem dX1_weigh_7 : decode mX1_weigh.2.1 7 = .ok (.invokestatic 25, 3) := by decide +kernel
theorem dX1_weigh_17 : decode mX1_weigh.2.1 17 = .ok (.if_icmp .ge 42, 3) := by decide +kernel
theorem dX1_weigh_27 : decode mX1_weigh.2.1 27 = .ok (.if_icmp .ge 26, 3) := by decide +kernel
theorem dX1_weigh_43 : decode mX1_weigh.2.1 43 = .ok (.invokevirtual 31, 3) := by decide +kernel
theorem dX1_weigh_62 : decode mX1_weigh.2.1 62 = .ok (.ifCond .lt 45, 3) := by decide +kernel
theorem dX1_weigh_74 : decode mX1_weigh.2.1 74 = .ok (.if_icmp .ge 27, 3) := by decide +kernel
theorem dX1_weigh_91 : decode mX1_weigh.2.1 91 = .ok (.invokevirtual 33, 3) := by decide +kernel
theorem dX1_weigh_107 : decode mX1_weigh.2.1 107 = .ok (.return_, 1) := by decide +kernel
def bX1_bestFrom_0 : List (Nat × Instr) := [(0, .aload_n 0), (1, .getfield 15), (4, .iload_n 1), (5, .iconst 1), (6, .iadd), (7, .sipush 256), (10, .imul), (11, .iload_n 2), (12, .iadd), (13, .iaload), (14, .istore_n 3), (15, .iconst 0), (16, .istore 4)]
theorem bX1_bestFrom_0_ok : ∀ q ∈ bX1_bestFrom_0, decode mX1_bestFrom.2.1 q.1 = .ok (q.2, aLn q.2) := by decide +kernel
def bX1_bestFrom_18 : List (Nat × Instr) := [(18, .iload 4), (20, .aload_n 0), (21, .getfield 18)]
theorem bX1_bestFrom_18_ok : ∀ q ∈ bX1_bestFrom_18, decode mX1_bestFrom.2.1 q.1 = .ok (q.2, aLn q.2) := by decide +kernel
def bX1_bestFrom_27 : List (Nat × Instr) := [(27, .iload_n 2), (28, .iload 4), (30, .ishr), (31, .iconst 1), (32, .iand)]
theorem bX1_bestFrom_27_ok : ∀ q ∈ bX1_bestFrom_27, decode mX1_bestFrom.2.1 q.1 = .ok (q.2, aLn q.2) := by decide +kernel
def bX1_bestFrom_36 : List (Nat × Instr) := [(36, .iload_n 3), (37, .aload_n 0), (38, .iload_n 1), (39, .iload_n 2), (40, .iload 4)]
theorem bX1_bestFrom_36_ok : ∀ q ∈ bX1_bestFrom_36, decode mX1_bestFrom.2.1 q.1 = .ok (q.2, aLn q.2) := by decide +kernel
def bX1_bestFrom_48 : List (Nat × Instr) := [(48, .istore_n 3)]
theorem bX1_bestFrom_48_ok : ∀ q ∈ bX1_bestFrom_48, decode mX1_bestFrom.2.1 q.1 = .ok (q.2, aLn q.2) := by decide +kernel
def bX1_bestFrom_49 : List (Nat × Instr) := [(49, .iinc 4 1), (52, .goto (-34))]
theorem bX1_bestFrom_49_ok : ∀ q ∈ bX1_bestFrom_49, decode mX1_bestFrom.2.1 q.1 = .ok (q.2, aLn q.2) := by decide +kernel
def bX1_bestFrom_55 : List (Nat × Instr) := [(55, .iload_n 3)]
theorem bX1_bestFrom_55_ok : ∀ q ∈ bX1_bestFrom_55, decode mX1_bestFrom.2.1 q.1 = .ok (q.2, aLn q.2) := by decide +kernel
theorem dX1_bestFrom_24 : decode mX1_bestFrom.2.1 24 = .ok (.if_icmp .ge 31, 3) := by decide +kernel
theorem dX1_bestFrom_33 : decode mX1_bestFrom.2.1 33 = .ok (.ifCond .ne 16, 3) := by decide +kernel
theorem dX1_bestFrom_42 : decode mX1_bestFrom.2.1 42 = .ok (.invokevirtual 36, 3) := by decide +kernel
theorem dX1_bestFrom_45 : decode mX1_bestFrom.2.1 45 = .ok (.invokestatic 40, 3) := by decide +kernel
theorem dX1_bestFrom_56 : decode mX1_bestFrom.2.1 56 = .ok (.ireturn, 1) := by decide +kernel
def bX1_with_0 : List (Nat × Instr) := [(0, .aload_n 0), (1, .getfield 9), (4, .iload_n 1), (5, .bipush 8), (7, .imul), (8, .iload_n 3), (9, .iadd), (10, .iaload), (11, .aload_n 0), (12, .getfield 15), (15, .iload_n 1), (16, .iconst 1), (17, .iadd), (18, .sipush 256), (21, .imul), (22, .iload_n 2), (23, .iconst 1), (24, .iload_n 3), (25, .ishl), (26, .ior), (27, .iadd), (28, .iaload), (29, .iadd)]
theorem bX1_with_0_ok : ∀ q ∈ bX1_with_0, decode mX1_with.2.1 q.1 = .ok (q.2, aLn q.2) := by decide +kernel
theorem dX1_with_30 : decode mX1_with.2.1 30 = .ok (.ireturn, 1) := by decide +kernel
def bX1_most_0 : List (Nat × Instr) := [(0, .aload_n 0), (1, .getfield 15), (4, .iconst 0), (5, .iaload)]
theorem bX1_most_0_ok : ∀ q ∈ bX1_most_0, decode mX1_most.2.1 q.1 = .ok (q.2, aLn q.2) := by decide +kernel
theorem dX1_most_6 : decode mX1_most.2.1 6 = .ok (.ireturn, 1) := by decide +kernel
def bX1_chosen_0 : List (Nat × Instr) := [(0, .iconst 0), (1, .istore_n 2), (2, .iconst 0), (3, .istore_n 3)]
theorem bX1_chosen_0_ok : ∀ q ∈ bX1_chosen_0, decode mX1_chosen.2.1 q.1 = .ok (q.2, aLn q.2) := by decide +kernel
def bX1_chosen_4 : List (Nat × Instr) := [(4, .iload_n 3), (5, .iconst 5)]
theorem bX1_chosen_4_ok : ∀ q ∈ bX1_chosen_4, decode mX1_chosen.2.1 q.1 = .ok (q.2, aLn q.2) := by decide +kernel
def bX1_chosen_9 : List (Nat × Instr) := [(9, .aload_n 0), (10, .iload_n 3), (11, .iload_n 2)]
theorem bX1_chosen_9_ok : ∀ q ∈ bX1_chosen_9, decode mX1_chosen.2.1 q.1 = .ok (q.2, aLn q.2) := by decide +kernel
def bX1_chosen_15 : List (Nat × Instr) := [(15, .istore 4), (17, .iload_n 3), (18, .iload_n 1)]
theorem bX1_chosen_15_ok : ∀ q ∈ bX1_chosen_15, decode mX1_chosen.2.1 q.1 = .ok (q.2, aLn q.2) := by decide +kernel
def bX1_chosen_22 : List (Nat × Instr) := [(22, .iload 4)]
theorem bX1_chosen_22_ok : ∀ q ∈ bX1_chosen_22, decode mX1_chosen.2.1 q.1 = .ok (q.2, aLn q.2) := by decide +kernel
def bX1_chosen_25 : List (Nat × Instr) := [(25, .iload 4), (27, .iconst (-1))]
theorem bX1_chosen_25_ok : ∀ q ∈ bX1_chosen_25, decode mX1_chosen.2.1 q.1 = .ok (q.2, aLn q.2) := by decide +kernel
def bX1_chosen_31 : List (Nat × Instr) := [(31, .iload_n 2), (32, .iconst 1), (33, .iload 4), (35, .ishl), (36, .ior), (37, .istore_n 2)]
theorem bX1_chosen_31_ok : ∀ q ∈ bX1_chosen_31, decode mX1_chosen.2.1 q.1 = .ok (q.2, aLn q.2) := by decide +kernel
def bX1_chosen_38 : List (Nat × Instr) := [(38, .iinc 3 1), (41, .goto (-37))]
theorem bX1_chosen_38_ok : ∀ q ∈ bX1_chosen_38, decode mX1_chosen.2.1 q.1 = .ok (q.2, aLn q.2) := by decide +kernel
def bX1_chosen_44 : List (Nat × Instr) := [(44, .iconst (-1))]
theorem bX1_chosen_44_ok : ∀ q ∈ bX1_chosen_44, decode mX1_chosen.2.1 q.1 = .ok (q.2, aLn q.2) := by decide +kernel
theorem dX1_chosen_6 : decode mX1_chosen.2.1 6 = .ok (.if_icmp .ge 38, 3) := by decide +kernel
theorem dX1_chosen_12 : decode mX1_chosen.2.1 12 = .ok (.invokevirtual 43, 3) := by decide +kernel
theorem dX1_chosen_19 : decode mX1_chosen.2.1 19 = .ok (.if_icmp .ne 6, 3) := by decide +kernel
theorem dX1_chosen_24 : decode mX1_chosen.2.1 24 = .ok (.ireturn, 1) := by decide +kernel
theorem dX1_chosen_28 : decode mX1_chosen.2.1 28 = .ok (.if_icmp .eq 10, 3) := by decide +kernel
theorem dX1_chosen_45 : decode mX1_chosen.2.1 45 = .ok (.ireturn, 1) := by decide +kernel
def bX1_firstBest_0 : List (Nat × Instr) := [(0, .iconst 0), (1, .istore_n 3)]
theorem bX1_firstBest_0_ok : ∀ q ∈ bX1_firstBest_0, decode mX1_firstBest.2.1 q.1 = .ok (q.2, aLn q.2) := by decide +kernel
def bX1_firstBest_2 : List (Nat × Instr) := [(2, .iload_n 3), (3, .aload_n 0), (4, .getfield 18)]
theorem bX1_firstBest_2_ok : ∀ q ∈ bX1_firstBest_2, decode mX1_firstBest.2.1 q.1 = .ok (q.2, aLn q.2) := by decide +kernel
def bX1_firstBest_10 : List (Nat × Instr) := [(10, .iload_n 2), (11, .iload_n 3), (12, .ishr), (13, .iconst 1), (14, .iand)]
theorem bX1_firstBest_10_ok : ∀ q ∈ bX1_firstBest_10, decode mX1_firstBest.2.1 q.1 = .ok (q.2, aLn q.2) := by decide +kernel
def bX1_firstBest_18 : List (Nat × Instr) := [(18, .aload_n 0), (19, .iload_n 1), (20, .iload_n 2), (21, .iload_n 3)]
theorem bX1_firstBest_18_ok : ∀ q ∈ bX1_firstBest_18, decode mX1_firstBest.2.1 q.1 = .ok (q.2, aLn q.2) := by decide +kernel
def bX1_firstBest_25 : List (Nat × Instr) := [(25, .aload_n 0), (26, .getfield 15), (29, .iload_n 1), (30, .sipush 256), (33, .imul), (34, .iload_n 2), (35, .iadd), (36, .iaload)]
theorem bX1_firstBest_25_ok : ∀ q ∈ bX1_firstBest_25, decode mX1_firstBest.2.1 q.1 = .ok (q.2, aLn q.2) := by decide +kernel
def bX1_firstBest_40 : List (Nat × Instr) := [(40, .iload_n 3)]
theorem bX1_firstBest_40_ok : ∀ q ∈ bX1_firstBest_40, decode mX1_firstBest.2.1 q.1 = .ok (q.2, aLn q.2) := by decide +kernel
def bX1_firstBest_42 : List (Nat × Instr) := [(42, .iinc 3 1), (45, .goto (-43))]
theorem bX1_firstBest_42_ok : ∀ q ∈ bX1_firstBest_42, decode mX1_firstBest.2.1 q.1 = .ok (q.2, aLn q.2) := by decide +kernel
def bX1_firstBest_48 : List (Nat × Instr) := [(48, .iconst (-1))]
theorem bX1_firstBest_48_ok : ∀ q ∈ bX1_firstBest_48, decode mX1_firstBest.2.1 q.1 = .ok (q.2, aLn q.2) := by decide +kernel
theorem dX1_firstBest_7 : decode mX1_firstBest.2.1 7 = .ok (.if_icmp .ge 41, 3) := by decide +kernel
theorem dX1_firstBest_15 : decode mX1_firstBest.2.1 15 = .ok (.ifCond .ne 27, 3) := by decide +kernel
theorem dX1_firstBest_22 : decode mX1_firstBest.2.1 22 = .ok (.invokevirtual 36, 3) := by decide +kernel
theorem dX1_firstBest_37 : decode mX1_firstBest.2.1 37 = .ok (.if_icmp .ne 5, 3) := by decide +kernel
theorem dX1_firstBest_41 : decode mX1_firstBest.2.1 41 = .ok (.ireturn, 1) := by decide +kernel
theorem dX1_firstBest_49 : decode mX1_firstBest.2.1 49 = .ok (.ireturn, 1) := by decide +kernel
def bX2_start_0 : List (Nat × Instr) := [(0, .aload_n 0), (1, .iload_n 1), (2, .putfield 7)]
theorem bX2_start_0_ok : ∀ q ∈ bX2_start_0, decode mX2_start.2.1 q.1 = .ok (q.2, aLn q.2) := by decide +kernel
theorem dX2_start_5 : decode mX2_start.2.1 5 = .ok (.return_, 1) := by decide +kernel
def bX2_below_0 : List (Nat × Instr) := [(0, .aload_n 0), (1, .aload_n 0), (2, .getfield 7), (5, .ldc 13), (7, .imul), (8, .sipush 12345), (11, .iadd), (12, .putfield 7), (15, .iload_n 1), (16, .iconst 1)]
theorem bX2_below_0_ok : ∀ q ∈ bX2_below_0, decode mX2_below.2.1 q.1 = .ok (q.2, aLn q.2) := by decide +kernel
def bX2_below_20 : List (Nat × Instr) := [(20, .iconst 0), (21, .goto 15)]
theorem bX2_below_20_ok : ∀ q ∈ bX2_below_20, decode mX2_below.2.1 q.1 = .ok (q.2, aLn q.2) := by decide +kernel
def bX2_below_24 : List (Nat × Instr) := [(24, .aload_n 0), (25, .getfield 7), (28, .ldc 14), (30, .iand), (31, .ldc 15), (33, .idiv), (34, .iload_n 1), (35, .irem)]
theorem bX2_below_24_ok : ∀ q ∈ bX2_below_24, decode mX2_below.2.1 q.1 = .ok (q.2, aLn q.2) := by decide +kernel
theorem dX2_below_17 : decode mX2_below.2.1 17 = .ok (.if_icmp .ge 7, 3) := by decide +kernel
theorem dX2_below_36 : decode mX2_below.2.1 36 = .ok (.ireturn, 1) := by decide +kernel
def bX3_shown_0 : List (Nat × Instr) := [(0, .iload_n 2), (1, .iload_n 1), (2, .isub)]
theorem bX3_shown_0_ok : ∀ q ∈ bX3_shown_0, decode mX3_shown.2.1 q.1 = .ok (q.2, aLn q.2) := by decide +kernel
def bX3_shown_6 : List (Nat × Instr) := [(6, .istore 4), (8, .iload_n 0)]
theorem bX3_shown_6_ok : ∀ q ∈ bX3_shown_6, decode mX3_shown.2.1 q.1 = .ok (q.2, aLn q.2) := by decide +kernel
def bX3_shown_52 : List (Nat × Instr) := [(52, .bipush 6)]
theorem bX3_shown_52_ok : ∀ q ∈ bX3_shown_52, decode mX3_shown.2.1 q.1 = .ok (q.2, aLn q.2) := by decide +kernel
def bX3_shown_55 : List (Nat × Instr) := [(55, .iconst 1), (56, .iload 4), (58, .iconst 3), (59, .idiv), (60, .iadd)]
theorem bX3_shown_55_ok : ∀ q ∈ bX3_shown_55, decode mX3_shown.2.1 q.1 = .ok (q.2, aLn q.2) := by decide +kernel
def bX3_shown_62 : List (Nat × Instr) := [(62, .iload_n 3), (63, .iconst 1), (64, .iand), (65, .iconst 1)]
theorem bX3_shown_62_ok : ∀ q ∈ bX3_shown_62, decode mX3_shown.2.1 q.1 = .ok (q.2, aLn q.2) := by decide +kernel
def bX3_shown_69 : List (Nat × Instr) := [(69, .bipush 6), (71, .iload_n 1), (72, .iadd), (73, .goto 5)]
theorem bX3_shown_69_ok : ∀ q ∈ bX3_shown_69, decode mX3_shown.2.1 q.1 = .ok (q.2, aLn q.2) := by decide +kernel
def bX3_shown_76 : List (Nat × Instr) := [(76, .bipush 6)]
theorem bX3_shown_76_ok : ∀ q ∈ bX3_shown_76, decode mX3_shown.2.1 q.1 = .ok (q.2, aLn q.2) := by decide +kernel
def bX3_shown_79 : List (Nat × Instr) := [(79, .iload 4)]
theorem bX3_shown_79_ok : ∀ q ∈ bX3_shown_79, decode mX3_shown.2.1 q.1 = .ok (q.2, aLn q.2) := by decide +kernel
def bX3_shown_84 : List (Nat × Instr) := [(84, .iconst 0), (85, .goto 9)]
theorem bX3_shown_84_ok : ∀ q ∈ bX3_shown_84, decode mX3_shown.2.1 q.1 = .ok (q.2, aLn q.2) := by decide +kernel
def bX3_shown_88 : List (Nat × Instr) := [(88, .iconst 1), (89, .iload 4), (91, .iconst 3), (92, .idiv), (93, .iadd)]
theorem bX3_shown_88_ok : ∀ q ∈ bX3_shown_88, decode mX3_shown.2.1 q.1 = .ok (q.2, aLn q.2) := by decide +kernel
def bX3_shown_95 : List (Nat × Instr) := [(95, .iconst 1), (96, .iconst 3), (97, .iload_n 2), (98, .isub)]
theorem bX3_shown_95_ok : ∀ q ∈ bX3_shown_95, decode mX3_shown.2.1 q.1 = .ok (q.2, aLn q.2) := by decide +kernel
def bX3_shown_103 : List (Nat × Instr) := [(103, .iload_n 2), (104, .iload_n 1)]
theorem bX3_shown_103_ok : ∀ q ∈ bX3_shown_103, decode mX3_shown.2.1 q.1 = .ok (q.2, aLn q.2) := by decide +kernel
def bX3_shown_108 : List (Nat × Instr) := [(108, .bipush 9), (110, .goto 5)]
theorem bX3_shown_108_ok : ∀ q ∈ bX3_shown_108, decode mX3_shown.2.1 q.1 = .ok (q.2, aLn q.2) := by decide +kernel
def bX3_shown_113 : List (Nat × Instr) := [(113, .bipush 6)]
theorem bX3_shown_113_ok : ∀ q ∈ bX3_shown_113, decode mX3_shown.2.1 q.1 = .ok (q.2, aLn q.2) := by decide +kernel
def bX3_shown_116 : List (Nat × Instr) := [(116, .iconst 0)]
theorem bX3_shown_116_ok : ∀ q ∈ bX3_shown_116, decode mX3_shown.2.1 q.1 = .ok (q.2, aLn q.2) := by decide +kernel
def bX3_shown_118 : List (Nat × Instr) := [(118, .iconst 3)]
theorem bX3_shown_118_ok : ∀ q ∈ bX3_shown_118, decode mX3_shown.2.1 q.1 = .ok (q.2, aLn q.2) := by decide +kernel
theorem dX3_shown_3 : decode mX3_shown.2.1 3 = .ok (.invokestatic 9, 3) := by decide +kernel
theorem dX3_shown_9 : decode mX3_shown.2.1 9 = .ok (.tableswitch 109 1 7 #[43, 46, 53, 70, 86, 94, 107], 43) := by decide +kernel
theorem dX3_shown_54 : decode mX3_shown.2.1 54 = .ok (.ireturn, 1) := by decide +kernel
theorem dX3_shown_61 : decode mX3_shown.2.1 61 = .ok (.ireturn, 1) := by decide +kernel
theorem dX3_shown_66 : decode mX3_shown.2.1 66 = .ok (.if_icmp .ne 10, 3) := by decide +kernel
theorem dX3_shown_78 : decode mX3_shown.2.1 78 = .ok (.ireturn, 1) := by decide +kernel
theorem dX3_shown_81 : decode mX3_shown.2.1 81 = .ok (.ifCond .ne 7, 3) := by decide +kernel
theorem dX3_shown_94 : decode mX3_shown.2.1 94 = .ok (.ireturn, 1) := by decide +kernel
theorem dX3_shown_99 : decode mX3_shown.2.1 99 = .ok (.invokestatic 15, 3) := by decide +kernel
theorem dX3_shown_102 : decode mX3_shown.2.1 102 = .ok (.ireturn, 1) := by decide +kernel
theorem dX3_shown_105 : decode mX3_shown.2.1 105 = .ok (.if_icmp .ge 8, 3) := by decide +kernel
theorem dX3_shown_115 : decode mX3_shown.2.1 115 = .ok (.ireturn, 1) := by decide +kernel
theorem dX3_shown_117 : decode mX3_shown.2.1 117 = .ok (.ireturn, 1) := by decide +kernel
theorem dX3_shown_119 : decode mX3_shown.2.1 119 = .ok (.ireturn, 1) := by decide +kernel
def bX3_borne_0 : List (Nat × Instr) := [(0, .bipush 20), (2, .iload_n 1), (3, .iadd), (4, .istore_n 2), (5, .iload_n 0)]
theorem bX3_borne_0_ok : ∀ q ∈ bX3_borne_0, decode mX3_borne.2.1 q.1 = .ok (q.2, aLn q.2) := by decide +kernel
def bX3_borne_48 : List (Nat × Instr) := [(48, .bipush 15)]
theorem bX3_borne_48_ok : ∀ q ∈ bX3_borne_48, decode mX3_borne.2.1 q.1 = .ok (q.2, aLn q.2) := by decide +kernel
def bX3_borne_51 : List (Nat × Instr) := [(51, .iload_n 2)]
theorem bX3_borne_51_ok : ∀ q ∈ bX3_borne_51, decode mX3_borne.2.1 q.1 = .ok (q.2, aLn q.2) := by decide +kernel
def bX3_borne_53 : List (Nat × Instr) := [(53, .iconst 2), (54, .iload_n 2), (55, .imul)]
theorem bX3_borne_53_ok : ∀ q ∈ bX3_borne_53, decode mX3_borne.2.1 q.1 = .ok (q.2, aLn q.2) := by decide +kernel
def bX3_borne_57 : List (Nat × Instr) := [(57, .bipush 20), (59, .iconst 2), (60, .iload_n 1), (61, .imul), (62, .iadd)]
theorem bX3_borne_57_ok : ∀ q ∈ bX3_borne_57, decode mX3_borne.2.1 q.1 = .ok (q.2, aLn q.2) := by decide +kernel
def bX3_borne_64 : List (Nat × Instr) := [(64, .bipush 7)]
theorem bX3_borne_64_ok : ∀ q ∈ bX3_borne_64, decode mX3_borne.2.1 q.1 = .ok (q.2, aLn q.2) := by decide +kernel
def bX3_borne_67 : List (Nat × Instr) := [(67, .bipush 99)]
theorem bX3_borne_67_ok : ∀ q ∈ bX3_borne_67, decode mX3_borne.2.1 q.1 = .ok (q.2, aLn q.2) := by decide +kernel
def bX3_borne_70 : List (Nat × Instr) := [(70, .bipush 20)]
theorem bX3_borne_70_ok : ∀ q ∈ bX3_borne_70, decode mX3_borne.2.1 q.1 = .ok (q.2, aLn q.2) := by decide +kernel
theorem dX3_borne_6 : decode mX3_borne.2.1 6 = .ok (.tableswitch 64 1 7 #[42, 45, 42, 47, 51, 58, 61], 42) := by decide +kernel
theorem dX3_borne_50 : decode mX3_borne.2.1 50 = .ok (.ireturn, 1) := by decide +kernel
theorem dX3_borne_52 : decode mX3_borne.2.1 52 = .ok (.ireturn, 1) := by decide +kernel
theorem dX3_borne_56 : decode mX3_borne.2.1 56 = .ok (.ireturn, 1) := by decide +kernel
theorem dX3_borne_63 : decode mX3_borne.2.1 63 = .ok (.ireturn, 1) := by decide +kernel
theorem dX3_borne_66 : decode mX3_borne.2.1 66 = .ok (.ireturn, 1) := by decide +kernel
theorem dX3_borne_69 : decode mX3_borne.2.1 69 = .ok (.ireturn, 1) := by decide +kernel
theorem dX3_borne_72 : decode mX3_borne.2.1 72 = .ok (.ireturn, 1) := by decide +kernel
def bX3_forgotten_0 : List (Nat × Instr) := [(0, .iload_n 0)]
theorem bX3_forgotten_0_ok : ∀ q ∈ bX3_forgotten_0, decode mX3_forgotten.2.1 q.1 = .ok (q.2, aLn q.2) := by decide +kernel
def bX3_forgotten_44 : List (Nat × Instr) := [(44, .iconst 1)]
theorem bX3_forgotten_44_ok : ∀ q ∈ bX3_forgotten_44, decode mX3_forgotten.2.1 q.1 = .ok (q.2, aLn q.2) := by decide +kernel
def bX3_forgotten_46 : List (Nat × Instr) := [(46, .iconst 3)]
theorem bX3_forgotten_46_ok : ∀ q ∈ bX3_forgotten_46, decode mX3_forgotten.2.1 q.1 = .ok (q.2, aLn q.2) := by decide +kernel
def bX3_forgotten_48 : List (Nat × Instr) := [(48, .iconst 0)]
theorem bX3_forgotten_48_ok : ∀ q ∈ bX3_forgotten_48, decode mX3_forgotten.2.1 q.1 = .ok (q.2, aLn q.2) := by decide +kernel
def bX3_forgotten_50 : List (Nat × Instr) := [(50, .iload_n 1)]
theorem bX3_forgotten_50_ok : ∀ q ∈ bX3_forgotten_50, decode mX3_forgotten.2.1 q.1 = .ok (q.2, aLn q.2) := by decide +kernel
def bX3_forgotten_52 : List (Nat × Instr) := [(52, .bipush 9)]
theorem bX3_forgotten_52_ok : ∀ q ∈ bX3_forgotten_52, decode mX3_forgotten.2.1 q.1 = .ok (q.2, aLn q.2) := by decide +kernel
def bX3_forgotten_55 : List (Nat × Instr) := [(55, .iconst 2)]
theorem bX3_forgotten_55_ok : ∀ q ∈ bX3_forgotten_55, decode mX3_forgotten.2.1 q.1 = .ok (q.2, aLn q.2) := by decide +kernel
theorem dX3_forgotten_1 : decode mX3_forgotten.2.1 1 = .ok (.tableswitch 54 1 7 #[43, 45, 47, 45, 49, 43, 51], 43) := by decide +kernel
theorem dX3_forgotten_45 : decode mX3_forgotten.2.1 45 = .ok (.ireturn, 1) := by decide +kernel
theorem dX3_forgotten_47 : decode mX3_forgotten.2.1 47 = .ok (.ireturn, 1) := by decide +kernel
theorem dX3_forgotten_49 : decode mX3_forgotten.2.1 49 = .ok (.ireturn, 1) := by decide +kernel
theorem dX3_forgotten_51 : decode mX3_forgotten.2.1 51 = .ok (.ireturn, 1) := by decide +kernel
theorem dX3_forgotten_54 : decode mX3_forgotten.2.1 54 = .ok (.ireturn, 1) := by decide +kernel
theorem dX3_forgotten_56 : decode mX3_forgotten.2.1 56 = .ok (.ireturn, 1) := by decide +kernel
def bX3_price_0 : List (Nat × Instr) := [(0, .iload_n 0)]
theorem bX3_price_0_ok : ∀ q ∈ bX3_price_0, decode mX3_price.2.1 q.1 = .ok (q.2, aLn q.2) := by decide +kernel
def bX3_price_44 : List (Nat × Instr) := [(44, .iconst 1)]
theorem bX3_price_44_ok : ∀ q ∈ bX3_price_44, decode mX3_price.2.1 q.1 = .ok (q.2, aLn q.2) := by decide +kernel
def bX3_price_46 : List (Nat × Instr) := [(46, .bipush 6)]
theorem bX3_price_46_ok : ∀ q ∈ bX3_price_46, decode mX3_price.2.1 q.1 = .ok (q.2, aLn q.2) := by decide +kernel
def bX3_price_49 : List (Nat × Instr) := [(49, .iconst 1), (50, .iload_n 1), (51, .iadd)]
theorem bX3_price_49_ok : ∀ q ∈ bX3_price_49, decode mX3_price.2.1 q.1 = .ok (q.2, aLn q.2) := by decide +kernel
def bX3_price_53 : List (Nat × Instr) := [(53, .iconst 0)]
theorem bX3_price_53_ok : ∀ q ∈ bX3_price_53, decode mX3_price.2.1 q.1 = .ok (q.2, aLn q.2) := by decide +kernel
def bX3_price_55 : List (Nat × Instr) := [(55, .bipush 8)]
theorem bX3_price_55_ok : ∀ q ∈ bX3_price_55, decode mX3_price.2.1 q.1 = .ok (q.2, aLn q.2) := by decide +kernel
def bX3_price_58 : List (Nat × Instr) := [(58, .iconst 1)]
theorem bX3_price_58_ok : ∀ q ∈ bX3_price_58, decode mX3_price.2.1 q.1 = .ok (q.2, aLn q.2) := by decide +kernel
def bX3_price_60 : List (Nat × Instr) := [(60, .iconst 4)]
theorem bX3_price_60_ok : ∀ q ∈ bX3_price_60, decode mX3_price.2.1 q.1 = .ok (q.2, aLn q.2) := by decide +kernel
theorem dX3_price_1 : decode mX3_price.2.1 1 = .ok (.tableswitch 59 1 7 #[43, 45, 48, 52, 54, 43, 57], 43) := by decide +kernel
theorem dX3_price_45 : decode mX3_price.2.1 45 = .ok (.ireturn, 1) := by decide +kernel
theorem dX3_price_48 : decode mX3_price.2.1 48 = .ok (.ireturn, 1) := by decide +kernel
theorem dX3_price_52 : decode mX3_price.2.1 52 = .ok (.ireturn, 1) := by decide +kernel
theorem dX3_price_54 : decode mX3_price.2.1 54 = .ok (.ireturn, 1) := by decide +kernel
theorem dX3_price_57 : decode mX3_price.2.1 57 = .ok (.ireturn, 1) := by decide +kernel
theorem dX3_price_59 : decode mX3_price.2.1 59 = .ok (.ireturn, 1) := by decide +kernel
theorem dX3_price_61 : decode mX3_price.2.1 61 = .ok (.ireturn, 1) := by decide +kernel
def bX4_clear_0 : List (Nat × Instr) := [(0, .iload_n 1)]
theorem bX4_clear_0_ok : ∀ q ∈ bX4_clear_0, decode mX4_clear.2.1 q.1 = .ok (q.2, aLn q.2) := by decide +kernel
def bX4_clear_7 : List (Nat × Instr) := [(7, .aload_n 0), (8, .getfield 11), (11, .iload_n 1), (12, .iconst 0), (13, .iastore)]
theorem bX4_clear_7_ok : ∀ q ∈ bX4_clear_7, decode mX4_clear.2.1 q.1 = .ok (q.2, aLn q.2) := by decide +kernel
theorem dX4_clear_1 : decode mX4_clear.2.1 1 = .ok (.invokestatic 30, 3) := by decide +kernel
theorem dX4_clear_4 : decode mX4_clear.2.1 4 = .ok (.ifCond .eq 10, 3) := by decide +kernel
theorem dX4_clear_14 : decode mX4_clear.2.1 14 = .ok (.return_, 1) := by decide +kernel
def bX4_placeOne_0 : List (Nat × Instr) := [(0, .iload_n 1)]
theorem bX4_placeOne_0_ok : ∀ q ∈ bX4_placeOne_0, decode mX4_placeOne.2.1 q.1 = .ok (q.2, aLn q.2) := by decide +kernel
def bX4_placeOne_7 : List (Nat × Instr) := [(7, .aload_n 0), (8, .getfield 11), (11, .iload_n 1), (12, .iconst 1), (13, .iastore), (14, .aload_n 0), (15, .getfield 15), (18, .iload_n 1), (19, .iload_n 2), (20, .iastore), (21, .aload_n 0), (22, .getfield 18), (25, .iload_n 1), (26, .iload_n 3), (27, .iastore)]
theorem bX4_placeOne_7_ok : ∀ q ∈ bX4_placeOne_7, decode mX4_placeOne.2.1 q.1 = .ok (q.2, aLn q.2) := by decide +kernel
theorem dX4_placeOne_1 : decode mX4_placeOne.2.1 1 = .ok (.invokestatic 30, 3) := by decide +kernel
theorem dX4_placeOne_4 : decode mX4_placeOne.2.1 4 = .ok (.ifCond .eq 24, 3) := by decide +kernel
theorem dX4_placeOne_28 : decode mX4_placeOne.2.1 28 = .ok (.return_, 1) := by decide +kernel
def bX4_placeRow_0 : List (Nat × Instr) := [(0, .iload_n 1)]
theorem bX4_placeRow_0_ok : ∀ q ∈ bX4_placeRow_0, decode mX4_placeRow.2.1 q.1 = .ok (q.2, aLn q.2) := by decide +kernel
def bX4_placeRow_7 : List (Nat × Instr) := [(7, .iload_n 3)]
theorem bX4_placeRow_7_ok : ∀ q ∈ bX4_placeRow_7, decode mX4_placeRow.2.1 q.1 = .ok (q.2, aLn q.2) := by decide +kernel
def bX4_placeRow_11 : List (Nat × Instr) := [(11, .iload_n 3), (12, .bipush 100)]
theorem bX4_placeRow_11_ok : ∀ q ∈ bX4_placeRow_11, decode mX4_placeRow.2.1 q.1 = .ok (q.2, aLn q.2) := by decide +kernel
def bX4_placeRow_18 : List (Nat × Instr) := [(18, .aload_n 0), (19, .getfield 11), (22, .iload_n 1), (23, .iconst 2), (24, .iastore), (25, .aload_n 0), (26, .getfield 21), (29, .iload_n 1), (30, .iload_n 2), (31, .iastore), (32, .aload_n 0), (33, .getfield 24), (36, .iload_n 1), (37, .iload_n 3), (38, .iastore), (39, .iconst 0), (40, .istore 4)]
theorem bX4_placeRow_18_ok : ∀ q ∈ bX4_placeRow_18, decode mX4_placeRow.2.1 q.1 = .ok (q.2, aLn q.2) := by decide +kernel
def bX4_placeRow_42 : List (Nat × Instr) := [(42, .iload 4), (44, .iload_n 3)]
theorem bX4_placeRow_42_ok : ∀ q ∈ bX4_placeRow_42, decode mX4_placeRow.2.1 q.1 = .ok (q.2, aLn q.2) := by decide +kernel
def bX4_placeRow_48 : List (Nat × Instr) := [(48, .aload_n 0), (49, .getfield 27), (52, .iload_n 1), (53, .bipush 100), (55, .imul), (56, .iload 4), (58, .iadd), (59, .iconst 0), (60, .iastore), (61, .iinc 4 1), (64, .goto (-22))]
theorem bX4_placeRow_48_ok : ∀ q ∈ bX4_placeRow_48, decode mX4_placeRow.2.1 q.1 = .ok (q.2, aLn q.2) := by decide +kernel
theorem dX4_placeRow_1 : decode mX4_placeRow.2.1 1 = .ok (.invokestatic 30, 3) := by decide +kernel
theorem dX4_placeRow_4 : decode mX4_placeRow.2.1 4 = .ok (.ifCond .eq 13, 3) := by decide +kernel
theorem dX4_placeRow_8 : decode mX4_placeRow.2.1 8 = .ok (.ifCond .lt 9, 3) := by decide +kernel
theorem dX4_placeRow_14 : decode mX4_placeRow.2.1 14 = .ok (.if_icmp .le 4, 3) := by decide +kernel
theorem dX4_placeRow_17 : decode mX4_placeRow.2.1 17 = .ok (.return_, 1) := by decide +kernel
theorem dX4_placeRow_45 : decode mX4_placeRow.2.1 45 = .ok (.if_icmp .ge 22, 3) := by decide +kernel
theorem dX4_placeRow_67 : decode mX4_placeRow.2.1 67 = .ok (.return_, 1) := by decide +kernel
def bX4_lackOfRow_0 : List (Nat × Instr) := [(0, .aload_n 0), (1, .iload_n 1), (2, .iconst 2)]
theorem bX4_lackOfRow_0_ok : ∀ q ∈ bX4_lackOfRow_0, decode mX4_lackOfRow.2.1 q.1 = .ok (q.2, aLn q.2) := by decide +kernel
theorem dX4_lackOfRow_3 : decode mX4_lackOfRow.2.1 3 = .ok (.invokevirtual 34, 3) := by decide +kernel
theorem dX4_lackOfRow_6 : decode mX4_lackOfRow.2.1 6 = .ok (.ireturn, 1) := by decide +kernel
def bX4_lackOfOne_0 : List (Nat × Instr) := [(0, .aload_n 0), (1, .iload_n 1), (2, .iconst 1)]
theorem bX4_lackOfOne_0_ok : ∀ q ∈ bX4_lackOfOne_0, decode mX4_lackOfOne.2.1 q.1 = .ok (q.2, aLn q.2) := by decide +kernel
theorem dX4_lackOfOne_3 : decode mX4_lackOfOne.2.1 3 = .ok (.invokevirtual 34, 3) := by decide +kernel
theorem dX4_lackOfOne_6 : decode mX4_lackOfOne.2.1 6 = .ok (.ireturn, 1) := by decide +kernel
def bX4_lackOf_0 : List (Nat × Instr) := [(0, .iload_n 1)]
theorem bX4_lackOf_0_ok : ∀ q ∈ bX4_lackOf_0, decode mX4_lackOf.2.1 q.1 = .ok (q.2, aLn q.2) := by decide +kernel
def bX4_lackOf_7 : List (Nat × Instr) := [(7, .iconst (-1))]
theorem bX4_lackOf_7_ok : ∀ q ∈ bX4_lackOf_7, decode mX4_lackOf.2.1 q.1 = .ok (q.2, aLn q.2) := by decide +kernel
def bX4_lackOf_9 : List (Nat × Instr) := [(9, .aload_n 0), (10, .getfield 11), (13, .iload_n 1), (14, .iaload)]
theorem bX4_lackOf_9_ok : ∀ q ∈ bX4_lackOf_9, decode mX4_lackOf.2.1 q.1 = .ok (q.2, aLn q.2) := by decide +kernel
def bX4_lackOf_18 : List (Nat × Instr) := [(18, .bipush (-11))]
theorem bX4_lackOf_18_ok : ∀ q ∈ bX4_lackOf_18, decode mX4_lackOf.2.1 q.1 = .ok (q.2, aLn q.2) := by decide +kernel
def bX4_lackOf_21 : List (Nat × Instr) := [(21, .aload_n 0), (22, .getfield 11), (25, .iload_n 1), (26, .iaload), (27, .iload_n 2)]
theorem bX4_lackOf_21_ok : ∀ q ∈ bX4_lackOf_21, decode mX4_lackOf.2.1 q.1 = .ok (q.2, aLn q.2) := by decide +kernel
def bX4_lackOf_31 : List (Nat × Instr) := [(31, .iconst 0), (32, .goto 5)]
theorem bX4_lackOf_31_ok : ∀ q ∈ bX4_lackOf_31, decode mX4_lackOf.2.1 q.1 = .ok (q.2, aLn q.2) := by decide +kernel
def bX4_lackOf_35 : List (Nat × Instr) := [(35, .bipush (-12))]
theorem bX4_lackOf_35_ok : ∀ q ∈ bX4_lackOf_35, decode mX4_lackOf.2.1 q.1 = .ok (q.2, aLn q.2) := by decide +kernel
theorem dX4_lackOf_1 : decode mX4_lackOf.2.1 1 = .ok (.invokestatic 30, 3) := by decide +kernel
theorem dX4_lackOf_4 : decode mX4_lackOf.2.1 4 = .ok (.ifCond .ne 5, 3) := by decide +kernel
theorem dX4_lackOf_8 : decode mX4_lackOf.2.1 8 = .ok (.ireturn, 1) := by decide +kernel
theorem dX4_lackOf_15 : decode mX4_lackOf.2.1 15 = .ok (.ifCond .ne 6, 3) := by decide +kernel
theorem dX4_lackOf_20 : decode mX4_lackOf.2.1 20 = .ok (.ireturn, 1) := by decide +kernel
theorem dX4_lackOf_28 : decode mX4_lackOf.2.1 28 = .ok (.if_icmp .ne 7, 3) := by decide +kernel
theorem dX4_lackOf_37 : decode mX4_lackOf.2.1 37 = .ok (.ireturn, 1) := by decide +kernel
def bX4_kindOn_0 : List (Nat × Instr) := [(0, .iload_n 1)]
theorem bX4_kindOn_0_ok : ∀ q ∈ bX4_kindOn_0, decode mX4_kindOn.2.1 q.1 = .ok (q.2, aLn q.2) := by decide +kernel
def bX4_kindOn_7 : List (Nat × Instr) := [(7, .aload_n 0), (8, .getfield 15), (11, .iload_n 1), (12, .iaload), (13, .goto 4)]
theorem bX4_kindOn_7_ok : ∀ q ∈ bX4_kindOn_7, decode mX4_kindOn.2.1 q.1 = .ok (q.2, aLn q.2) := by decide +kernel
def bX4_kindOn_16 : List (Nat × Instr) := [(16, .iconst 0)]
theorem bX4_kindOn_16_ok : ∀ q ∈ bX4_kindOn_16, decode mX4_kindOn.2.1 q.1 = .ok (q.2, aLn q.2) := by decide +kernel
theorem dX4_kindOn_1 : decode mX4_kindOn.2.1 1 = .ok (.invokestatic 30, 3) := by decide +kernel
theorem dX4_kindOn_4 : decode mX4_kindOn.2.1 4 = .ok (.ifCond .eq 12, 3) := by decide +kernel
theorem dX4_kindOn_17 : decode mX4_kindOn.2.1 17 = .ok (.ireturn, 1) := by decide +kernel
def bX4_figureOn_0 : List (Nat × Instr) := [(0, .iload_n 1)]
theorem bX4_figureOn_0_ok : ∀ q ∈ bX4_figureOn_0, decode mX4_figureOn.2.1 q.1 = .ok (q.2, aLn q.2) := by decide +kernel
def bX4_figureOn_7 : List (Nat × Instr) := [(7, .aload_n 0), (8, .getfield 18), (11, .iload_n 1), (12, .iaload), (13, .goto 4)]
theorem bX4_figureOn_7_ok : ∀ q ∈ bX4_figureOn_7, decode mX4_figureOn.2.1 q.1 = .ok (q.2, aLn q.2) := by decide +kernel
def bX4_figureOn_16 : List (Nat × Instr) := [(16, .iconst 0)]
theorem bX4_figureOn_16_ok : ∀ q ∈ bX4_figureOn_16, decode mX4_figureOn.2.1 q.1 = .ok (q.2, aLn q.2) := by decide +kernel
theorem dX4_figureOn_1 : decode mX4_figureOn.2.1 1 = .ok (.invokestatic 30, 3) := by decide +kernel
theorem dX4_figureOn_4 : decode mX4_figureOn.2.1 4 = .ok (.ifCond .eq 12, 3) := by decide +kernel
theorem dX4_figureOn_17 : decode mX4_figureOn.2.1 17 = .ok (.ireturn, 1) := by decide +kernel
def bX4_lengthOf_0 : List (Nat × Instr) := [(0, .iload_n 1)]
theorem bX4_lengthOf_0_ok : ∀ q ∈ bX4_lengthOf_0, decode mX4_lengthOf.2.1 q.1 = .ok (q.2, aLn q.2) := by decide +kernel
def bX4_lengthOf_7 : List (Nat × Instr) := [(7, .aload_n 0), (8, .getfield 24), (11, .iload_n 1), (12, .iaload), (13, .goto 4)]
theorem bX4_lengthOf_7_ok : ∀ q ∈ bX4_lengthOf_7, decode mX4_lengthOf.2.1 q.1 = .ok (q.2, aLn q.2) := by decide +kernel
def bX4_lengthOf_16 : List (Nat × Instr) := [(16, .iconst 0)]
theorem bX4_lengthOf_16_ok : ∀ q ∈ bX4_lengthOf_16, decode mX4_lengthOf.2.1 q.1 = .ok (q.2, aLn q.2) := by decide +kernel
theorem dX4_lengthOf_1 : decode mX4_lengthOf.2.1 1 = .ok (.invokestatic 30, 3) := by decide +kernel
theorem dX4_lengthOf_4 : decode mX4_lengthOf.2.1 4 = .ok (.ifCond .eq 12, 3) := by decide +kernel
theorem dX4_lengthOf_17 : decode mX4_lengthOf.2.1 17 = .ok (.ireturn, 1) := by decide +kernel
def bX4_holdsBytes_0 : List (Nat × Instr) := [(0, .iload_n 1)]
theorem bX4_holdsBytes_0_ok : ∀ q ∈ bX4_holdsBytes_0, decode mX4_holdsBytes.2.1 q.1 = .ok (q.2, aLn q.2) := by decide +kernel
def bX4_holdsBytes_7 : List (Nat × Instr) := [(7, .aload_n 0), (8, .getfield 21), (11, .iload_n 1), (12, .iaload)]
theorem bX4_holdsBytes_7_ok : ∀ q ∈ bX4_holdsBytes_7, decode mX4_holdsBytes.2.1 q.1 = .ok (q.2, aLn q.2) := by decide +kernel
def bX4_holdsBytes_16 : List (Nat × Instr) := [(16, .iconst 1), (17, .goto 4)]
theorem bX4_holdsBytes_16_ok : ∀ q ∈ bX4_holdsBytes_16, decode mX4_holdsBytes.2.1 q.1 = .ok (q.2, aLn q.2) := by decide +kernel
def bX4_holdsBytes_20 : List (Nat × Instr) := [(20, .iconst 0)]
theorem bX4_holdsBytes_20_ok : ∀ q ∈ bX4_holdsBytes_20, decode mX4_holdsBytes.2.1 q.1 = .ok (q.2, aLn q.2) := by decide +kernel
theorem dX4_holdsBytes_1 : decode mX4_holdsBytes.2.1 1 = .ok (.invokestatic 30, 3) := by decide +kernel
theorem dX4_holdsBytes_4 : decode mX4_holdsBytes.2.1 4 = .ok (.ifCond .eq 16, 3) := by decide +kernel
theorem dX4_holdsBytes_13 : decode mX4_holdsBytes.2.1 13 = .ok (.ifCond .ne 7, 3) := by decide +kernel
theorem dX4_holdsBytes_21 : decode mX4_holdsBytes.2.1 21 = .ok (.ireturn, 1) := by decide +kernel
def bX4_haveOneSort_0 : List (Nat × Instr) := [(0, .iload_n 1)]
theorem bX4_haveOneSort_0_ok : ∀ q ∈ bX4_haveOneSort_0, decode mX4_haveOneSort.2.1 q.1 = .ok (q.2, aLn q.2) := by decide +kernel
def bX4_haveOneSort_7 : List (Nat × Instr) := [(7, .iload_n 2)]
theorem bX4_haveOneSort_7_ok : ∀ q ∈ bX4_haveOneSort_7, decode mX4_haveOneSort.2.1 q.1 = .ok (q.2, aLn q.2) := by decide +kernel
def bX4_haveOneSort_14 : List (Nat × Instr) := [(14, .aload_n 0), (15, .getfield 21), (18, .iload_n 1), (19, .iaload), (20, .aload_n 0), (21, .getfield 21), (24, .iload_n 2), (25, .iaload)]
theorem bX4_haveOneSort_14_ok : ∀ q ∈ bX4_haveOneSort_14, decode mX4_haveOneSort.2.1 q.1 = .ok (q.2, aLn q.2) := by decide +kernel
def bX4_haveOneSort_29 : List (Nat × Instr) := [(29, .iconst 1), (30, .goto 4)]
theorem bX4_haveOneSort_29_ok : ∀ q ∈ bX4_haveOneSort_29, decode mX4_haveOneSort.2.1 q.1 = .ok (q.2, aLn q.2) := by decide +kernel
def bX4_haveOneSort_33 : List (Nat × Instr) := [(33, .iconst 0)]
theorem bX4_haveOneSort_33_ok : ∀ q ∈ bX4_haveOneSort_33, decode mX4_haveOneSort.2.1 q.1 = .ok (q.2, aLn q.2) := by decide +kernel
theorem dX4_haveOneSort_1 : decode mX4_haveOneSort.2.1 1 = .ok (.invokestatic 30, 3) := by decide +kernel
theorem dX4_haveOneSort_4 : decode mX4_haveOneSort.2.1 4 = .ok (.ifCond .eq 29, 3) := by decide +kernel
theorem dX4_haveOneSort_8 : decode mX4_haveOneSort.2.1 8 = .ok (.invokestatic 30, 3) := by decide +kernel
theorem dX4_haveOneSort_11 : decode mX4_haveOneSort.2.1 11 = .ok (.ifCond .eq 22, 3) := by decide +kernel
theorem dX4_haveOneSort_26 : decode mX4_haveOneSort.2.1 26 = .ok (.if_icmp .ne 7, 3) := by decide +kernel
theorem dX4_haveOneSort_34 : decode mX4_haveOneSort.2.1 34 = .ok (.ireturn, 1) := by decide +kernel
def bX4_hasPlace_0 : List (Nat × Instr) := [(0, .iload_n 2)]
theorem bX4_hasPlace_0_ok : ∀ q ∈ bX4_hasPlace_0, decode mX4_hasPlace.2.1 q.1 = .ok (q.2, aLn q.2) := by decide +kernel
def bX4_hasPlace_4 : List (Nat × Instr) := [(4, .iload_n 2), (5, .aload_n 0), (6, .iload_n 1)]
theorem bX4_hasPlace_4_ok : ∀ q ∈ bX4_hasPlace_4, decode mX4_hasPlace.2.1 q.1 = .ok (q.2, aLn q.2) := by decide +kernel
def bX4_hasPlace_13 : List (Nat × Instr) := [(13, .iconst 1), (14, .goto 4)]
theorem bX4_hasPlace_13_ok : ∀ q ∈ bX4_hasPlace_13, decode mX4_hasPlace.2.1 q.1 = .ok (q.2, aLn q.2) := by decide +kernel
def bX4_hasPlace_17 : List (Nat × Instr) := [(17, .iconst 0)]
theorem bX4_hasPlace_17_ok : ∀ q ∈ bX4_hasPlace_17, decode mX4_hasPlace.2.1 q.1 = .ok (q.2, aLn q.2) := by decide +kernel
theorem dX4_hasPlace_1 : decode mX4_hasPlace.2.1 1 = .ok (.ifCond .lt 16, 3) := by decide +kernel
theorem dX4_hasPlace_7 : decode mX4_hasPlace.2.1 7 = .ok (.invokevirtual 38, 3) := by decide +kernel
theorem dX4_hasPlace_10 : decode mX4_hasPlace.2.1 10 = .ok (.if_icmp .ge 7, 3) := by decide +kernel
theorem dX4_hasPlace_18 : decode mX4_hasPlace.2.1 18 = .ok (.ireturn, 1) := by decide +kernel
def bX4_hasPlaces_0 : List (Nat × Instr) := [(0, .iload_n 3)]
theorem bX4_hasPlaces_0_ok : ∀ q ∈ bX4_hasPlaces_0, decode mX4_hasPlaces.2.1 q.1 = .ok (q.2, aLn q.2) := by decide +kernel
def bX4_hasPlaces_4 : List (Nat × Instr) := [(4, .iload_n 2)]
theorem bX4_hasPlaces_4_ok : ∀ q ∈ bX4_hasPlaces_4, decode mX4_hasPlaces.2.1 q.1 = .ok (q.2, aLn q.2) := by decide +kernel
def bX4_hasPlaces_8 : List (Nat × Instr) := [(8, .iload_n 2), (9, .aload_n 0), (10, .iload_n 1)]
theorem bX4_hasPlaces_8_ok : ∀ q ∈ bX4_hasPlaces_8, decode mX4_hasPlaces.2.1 q.1 = .ok (q.2, aLn q.2) := by decide +kernel
def bX4_hasPlaces_14 : List (Nat × Instr) := [(14, .iload_n 3), (15, .isub)]
theorem bX4_hasPlaces_14_ok : ∀ q ∈ bX4_hasPlaces_14, decode mX4_hasPlaces.2.1 q.1 = .ok (q.2, aLn q.2) := by decide +kernel
def bX4_hasPlaces_19 : List (Nat × Instr) := [(19, .iconst 1), (20, .goto 4)]
theorem bX4_hasPlaces_19_ok : ∀ q ∈ bX4_hasPlaces_19, decode mX4_hasPlaces.2.1 q.1 = .ok (q.2, aLn q.2) := by decide +kernel
def bX4_hasPlaces_23 : List (Nat × Instr) := [(23, .iconst 0)]
theorem bX4_hasPlaces_23_ok : ∀ q ∈ bX4_hasPlaces_23, decode mX4_hasPlaces.2.1 q.1 = .ok (q.2, aLn q.2) := by decide +kernel
theorem dX4_hasPlaces_1 : decode mX4_hasPlaces.2.1 1 = .ok (.ifCond .lt 22, 3) := by decide +kernel
theorem dX4_hasPlaces_5 : decode mX4_hasPlaces.2.1 5 = .ok (.ifCond .lt 18, 3) := by decide +kernel
theorem dX4_hasPlaces_11 : decode mX4_hasPlaces.2.1 11 = .ok (.invokevirtual 38, 3) := by decide +kernel
theorem dX4_hasPlaces_16 : decode mX4_hasPlaces.2.1 16 = .ok (.if_icmp .gt 7, 3) := by decide +kernel
theorem dX4_hasPlaces_24 : decode mX4_hasPlaces.2.1 24 = .ok (.ireturn, 1) := by decide +kernel
def bX4_valueAt_0 : List (Nat × Instr) := [(0, .aload_n 0), (1, .iload_n 1), (2, .iload_n 2)]
theorem bX4_valueAt_0_ok : ∀ q ∈ bX4_valueAt_0, decode mX4_valueAt.2.1 q.1 = .ok (q.2, aLn q.2) := by decide +kernel
def bX4_valueAt_9 : List (Nat × Instr) := [(9, .aload_n 0), (10, .getfield 27), (13, .iload_n 1), (14, .bipush 100), (16, .imul), (17, .iload_n 2), (18, .iadd), (19, .iaload), (20, .goto 4)]
theorem bX4_valueAt_9_ok : ∀ q ∈ bX4_valueAt_9, decode mX4_valueAt.2.1 q.1 = .ok (q.2, aLn q.2) := by decide +kernel
def bX4_valueAt_23 : List (Nat × Instr) := [(23, .iconst 0)]
theorem bX4_valueAt_23_ok : ∀ q ∈ bX4_valueAt_23, decode mX4_valueAt.2.1 q.1 = .ok (q.2, aLn q.2) := by decide +kernel
theorem dX4_valueAt_3 : decode mX4_valueAt.2.1 3 = .ok (.invokevirtual 42, 3) := by decide +kernel
theorem dX4_valueAt_6 : decode mX4_valueAt.2.1 6 = .ok (.ifCond .eq 17, 3) := by decide +kernel
theorem dX4_valueAt_24 : decode mX4_valueAt.2.1 24 = .ok (.ireturn, 1) := by decide +kernel
def bX4_isSkipped_0 : List (Nat × Instr) := [(0, .iload_n 1)]
theorem bX4_isSkipped_0_ok : ∀ q ∈ bX4_isSkipped_0, decode mX4_isSkipped.2.1 q.1 = .ok (q.2, aLn q.2) := by decide +kernel
def bX4_isSkipped_7 : List (Nat × Instr) := [(7, .aload_n 0), (8, .iload_n 1), (9, .iload_n 2)]
theorem bX4_isSkipped_7_ok : ∀ q ∈ bX4_isSkipped_7, decode mX4_isSkipped.2.1 q.1 = .ok (q.2, aLn q.2) := by decide +kernel
def bX4_isSkipped_13 : List (Nat × Instr) := [(13, .aload_n 0), (14, .getfield 21), (17, .iload_n 1), (18, .iaload)]
theorem bX4_isSkipped_13_ok : ∀ q ∈ bX4_isSkipped_13, decode mX4_isSkipped.2.1 q.1 = .ok (q.2, aLn q.2) := by decide +kernel
def bX4_isSkipped_25 : List (Nat × Instr) := [(25, .iconst 1), (26, .goto 4)]
theorem bX4_isSkipped_25_ok : ∀ q ∈ bX4_isSkipped_25, decode mX4_isSkipped.2.1 q.1 = .ok (q.2, aLn q.2) := by decide +kernel
def bX4_isSkipped_29 : List (Nat × Instr) := [(29, .iconst 0)]
theorem bX4_isSkipped_29_ok : ∀ q ∈ bX4_isSkipped_29, decode mX4_isSkipped.2.1 q.1 = .ok (q.2, aLn q.2) := by decide +kernel
theorem dX4_isSkipped_1 : decode mX4_isSkipped.2.1 1 = .ok (.invokestatic 30, 3) := by decide +kernel
theorem dX4_isSkipped_4 : decode mX4_isSkipped.2.1 4 = .ok (.ifCond .eq 25, 3) := by decide +kernel
theorem dX4_isSkipped_10 : decode mX4_isSkipped.2.1 10 = .ok (.invokevirtual 46, 3) := by decide +kernel
theorem dX4_isSkipped_19 : decode mX4_isSkipped.2.1 19 = .ok (.invokestatic 49, 3) := by decide +kernel
theorem dX4_isSkipped_22 : decode mX4_isSkipped.2.1 22 = .ok (.if_icmp .ne 7, 3) := by decide +kernel
theorem dX4_isSkipped_30 : decode mX4_isSkipped.2.1 30 = .ok (.ireturn, 1) := by decide +kernel
def bX4_leastOf_0 : List (Nat × Instr) := [(0, .iload_n 0)]
theorem bX4_leastOf_0_ok : ∀ q ∈ bX4_leastOf_0, decode mX4_leastOf.2.1 q.1 = .ok (q.2, aLn q.2) := by decide +kernel
def bX4_leastOf_28 : List (Nat × Instr) := [(28, .bipush (-128))]
theorem bX4_leastOf_28_ok : ∀ q ∈ bX4_leastOf_28, decode mX4_leastOf.2.1 q.1 = .ok (q.2, aLn q.2) := by decide +kernel
def bX4_leastOf_31 : List (Nat × Instr) := [(31, .sipush (-32768))]
theorem bX4_leastOf_31_ok : ∀ q ∈ bX4_leastOf_31, decode mX4_leastOf.2.1 q.1 = .ok (q.2, aLn q.2) := by decide +kernel
def bX4_leastOf_35 : List (Nat × Instr) := [(35, .ldc 52)]
theorem bX4_leastOf_35_ok : ∀ q ∈ bX4_leastOf_35, decode mX4_leastOf.2.1 q.1 = .ok (q.2, aLn q.2) := by decide +kernel
theorem dX4_leastOf_1 : decode mX4_leastOf.2.1 1 = .ok (.lookupswitch 34 #[(0, 27), (1, 30)], 27) := by decide +kernel
theorem dX4_leastOf_30 : decode mX4_leastOf.2.1 30 = .ok (.ireturn, 1) := by decide +kernel
theorem dX4_leastOf_34 : decode mX4_leastOf.2.1 34 = .ok (.ireturn, 1) := by decide +kernel
theorem dX4_leastOf_37 : decode mX4_leastOf.2.1 37 = .ok (.ireturn, 1) := by decide +kernel
def bX4_write_0 : List (Nat × Instr) := [(0, .aload_n 0), (1, .iload_n 1), (2, .iload_n 2)]
theorem bX4_write_0_ok : ∀ q ∈ bX4_write_0, decode mX4_write.2.1 q.1 = .ok (q.2, aLn q.2) := by decide +kernel
def bX4_write_9 : List (Nat × Instr) := [(9, .aload_n 0), (10, .getfield 27), (13, .iload_n 1), (14, .bipush 100), (16, .imul), (17, .iload_n 2), (18, .iadd), (19, .aload_n 0), (20, .getfield 21), (23, .iload_n 1), (24, .iaload), (25, .iload_n 3)]
theorem bX4_write_9_ok : ∀ q ∈ bX4_write_9, decode mX4_write.2.1 q.1 = .ok (q.2, aLn q.2) := by decide +kernel
def bX4_write_29 : List (Nat × Instr) := [(29, .iastore)]
theorem bX4_write_29_ok : ∀ q ∈ bX4_write_29, decode mX4_write.2.1 q.1 = .ok (q.2, aLn q.2) := by decide +kernel
theorem dX4_write_3 : decode mX4_write.2.1 3 = .ok (.invokevirtual 42, 3) := by decide +kernel
theorem dX4_write_6 : decode mX4_write.2.1 6 = .ok (.ifCond .eq 24, 3) := by decide +kernel
theorem dX4_write_26 : decode mX4_write.2.1 26 = .ok (.invokestatic 53, 3) := by decide +kernel
theorem dX4_write_30 : decode mX4_write.2.1 30 = .ok (.return_, 1) := by decide +kernel
def bX4_cutTo_0 : List (Nat × Instr) := [(0, .iload_n 0)]
theorem bX4_cutTo_0_ok : ∀ q ∈ bX4_cutTo_0, decode mX4_cutTo.2.1 q.1 = .ok (q.2, aLn q.2) := by decide +kernel
def bX4_cutTo_28 : List (Nat × Instr) := [(28, .iload_n 1), (29, .i2b)]
theorem bX4_cutTo_28_ok : ∀ q ∈ bX4_cutTo_28, decode mX4_cutTo.2.1 q.1 = .ok (q.2, aLn q.2) := by decide +kernel
def bX4_cutTo_31 : List (Nat × Instr) := [(31, .iload_n 1), (32, .i2s)]
theorem bX4_cutTo_31_ok : ∀ q ∈ bX4_cutTo_31, decode mX4_cutTo.2.1 q.1 = .ok (q.2, aLn q.2) := by decide +kernel
def bX4_cutTo_34 : List (Nat × Instr) := [(34, .iload_n 1)]
theorem bX4_cutTo_34_ok : ∀ q ∈ bX4_cutTo_34, decode mX4_cutTo.2.1 q.1 = .ok (q.2, aLn q.2) := by decide +kernel
theorem dX4_cutTo_1 : decode mX4_cutTo.2.1 1 = .ok (.lookupswitch 33 #[(0, 27), (1, 30)], 27) := by decide +kernel
theorem dX4_cutTo_30 : decode mX4_cutTo.2.1 30 = .ok (.ireturn, 1) := by decide +kernel
theorem dX4_cutTo_33 : decode mX4_cutTo.2.1 33 = .ok (.ireturn, 1) := by decide +kernel
theorem dX4_cutTo_35 : decode mX4_cutTo.2.1 35 = .ok (.ireturn, 1) := by decide +kernel
def bX4_move_0 : List (Nat × Instr) := [(0, .aload_n 0), (1, .iload_n 1), (2, .iload_n 2), (3, .iload 5)]
theorem bX4_move_0_ok : ∀ q ∈ bX4_move_0, decode mX4_move.2.1 q.1 = .ok (q.2, aLn q.2) := by decide +kernel
def bX4_move_11 : List (Nat × Instr) := [(11, .aload_n 0), (12, .iload_n 3), (13, .iload 4), (15, .iload 5)]
theorem bX4_move_11_ok : ∀ q ∈ bX4_move_11, decode mX4_move.2.1 q.1 = .ok (q.2, aLn q.2) := by decide +kernel
def bX4_move_23 : List (Nat × Instr) := [(23, .aload_n 0), (24, .getfield 27), (27, .iload_n 1), (28, .bipush 100), (30, .imul), (31, .iload_n 2), (32, .iadd), (33, .aload_n 0), (34, .getfield 27), (37, .iload_n 3), (38, .bipush 100), (40, .imul), (41, .iload 4), (43, .iadd), (44, .iload 5)]
theorem bX4_move_23_ok : ∀ q ∈ bX4_move_23, decode mX4_move.2.1 q.1 = .ok (q.2, aLn q.2) := by decide +kernel
theorem dX4_move_5 : decode mX4_move.2.1 5 = .ok (.invokevirtual 56, 3) := by decide +kernel
theorem dX4_move_8 : decode mX4_move.2.1 8 = .ok (.ifCond .eq 41, 3) := by decide +kernel
theorem dX4_move_17 : decode mX4_move.2.1 17 = .ok (.invokevirtual 56, 3) := by decide +kernel
theorem dX4_move_20 : decode mX4_move.2.1 20 = .ok (.ifCond .eq 29, 3) := by decide +kernel
theorem dX4_move_46 : decode mX4_move.2.1 46 = .ok (.invokestatic 60, 3) := by decide +kernel
theorem dX4_move_49 : decode mX4_move.2.1 49 = .ok (.return_, 1) := by decide +kernel
def bX5_brokenPlace_0 : List (Nat × Instr) := [(0, .aload_n 0), (1, .iload_n 1)]
theorem bX5_brokenPlace_0_ok : ∀ q ∈ bX5_brokenPlace_0, decode mX5_brokenPlace.2.1 q.1 = .ok (q.2, aLn q.2) := by decide +kernel
def bX5_brokenPlace_5 : List (Nat × Instr) := [(5, .istore_n 2), (6, .iconst (-1)), (7, .istore_n 3), (8, .iconst 0), (9, .istore 4)]
theorem bX5_brokenPlace_5_ok : ∀ q ∈ bX5_brokenPlace_5, decode mX5_brokenPlace.2.1 q.1 = .ok (q.2, aLn q.2) := by decide +kernel
def bX5_brokenPlace_11 : List (Nat × Instr) := [(11, .iload 4), (13, .iload_n 2)]
theorem bX5_brokenPlace_11_ok : ∀ q ∈ bX5_brokenPlace_11, decode mX5_brokenPlace.2.1 q.1 = .ok (q.2, aLn q.2) := by decide +kernel
def bX5_brokenPlace_17 : List (Nat × Instr) := [(17, .aload_n 0), (18, .iload_n 1), (19, .iload 4)]
theorem bX5_brokenPlace_17_ok : ∀ q ∈ bX5_brokenPlace_17, decode mX5_brokenPlace.2.1 q.1 = .ok (q.2, aLn q.2) := by decide +kernel
def bX5_brokenPlace_24 : List (Nat × Instr) := [(24, .istore 5), (26, .iload_n 3)]
theorem bX5_brokenPlace_24_ok : ∀ q ∈ bX5_brokenPlace_24, decode mX5_brokenPlace.2.1 q.1 = .ok (q.2, aLn q.2) := by decide +kernel
def bX5_brokenPlace_30 : List (Nat × Instr) := [(30, .iload 5)]
theorem bX5_brokenPlace_30_ok : ∀ q ∈ bX5_brokenPlace_30, decode mX5_brokenPlace.2.1 q.1 = .ok (q.2, aLn q.2) := by decide +kernel
def bX5_brokenPlace_35 : List (Nat × Instr) := [(35, .istore_n 3), (36, .iload_n 3)]
theorem bX5_brokenPlace_35_ok : ∀ q ∈ bX5_brokenPlace_35, decode mX5_brokenPlace.2.1 q.1 = .ok (q.2, aLn q.2) := by decide +kernel
def bX5_brokenPlace_40 : List (Nat × Instr) := [(40, .iload 4)]
theorem bX5_brokenPlace_40_ok : ∀ q ∈ bX5_brokenPlace_40, decode mX5_brokenPlace.2.1 q.1 = .ok (q.2, aLn q.2) := by decide +kernel
def bX5_brokenPlace_43 : List (Nat × Instr) := [(43, .iload_n 3)]
theorem bX5_brokenPlace_43_ok : ∀ q ∈ bX5_brokenPlace_43, decode mX5_brokenPlace.2.1 q.1 = .ok (q.2, aLn q.2) := by decide +kernel
def bX5_brokenPlace_47 : List (Nat × Instr) := [(47, .iload 5), (49, .bipush 59)]
theorem bX5_brokenPlace_47_ok : ∀ q ∈ bX5_brokenPlace_47, decode mX5_brokenPlace.2.1 q.1 = .ok (q.2, aLn q.2) := by decide +kernel
def bX5_brokenPlace_54 : List (Nat × Instr) := [(54, .iload 4)]
theorem bX5_brokenPlace_54_ok : ∀ q ∈ bX5_brokenPlace_54, decode mX5_brokenPlace.2.1 q.1 = .ok (q.2, aLn q.2) := by decide +kernel
def bX5_brokenPlace_57 : List (Nat × Instr) := [(57, .iconst (-1)), (58, .istore_n 3), (59, .goto 23)]
theorem bX5_brokenPlace_57_ok : ∀ q ∈ bX5_brokenPlace_57, decode mX5_brokenPlace.2.1 q.1 = .ok (q.2, aLn q.2) := by decide +kernel
def bX5_brokenPlace_62 : List (Nat × Instr) := [(62, .iload 5), (64, .bipush 48)]
theorem bX5_brokenPlace_62_ok : ∀ q ∈ bX5_brokenPlace_62, decode mX5_brokenPlace.2.1 q.1 = .ok (q.2, aLn q.2) := by decide +kernel
def bX5_brokenPlace_69 : List (Nat × Instr) := [(69, .iload 5), (71, .bipush 57)]
theorem bX5_brokenPlace_69_ok : ∀ q ∈ bX5_brokenPlace_69, decode mX5_brokenPlace.2.1 q.1 = .ok (q.2, aLn q.2) := by decide +kernel
def bX5_brokenPlace_76 : List (Nat × Instr) := [(76, .iload 4)]
theorem bX5_brokenPlace_76_ok : ∀ q ∈ bX5_brokenPlace_76, decode mX5_brokenPlace.2.1 q.1 = .ok (q.2, aLn q.2) := by decide +kernel
def bX5_brokenPlace_79 : List (Nat × Instr) := [(79, .iinc 3 (-1))]
theorem bX5_brokenPlace_79_ok : ∀ q ∈ bX5_brokenPlace_79, decode mX5_brokenPlace.2.1 q.1 = .ok (q.2, aLn q.2) := by decide +kernel
def bX5_brokenPlace_82 : List (Nat × Instr) := [(82, .iinc 4 1), (85, .goto (-74))]
theorem bX5_brokenPlace_82_ok : ∀ q ∈ bX5_brokenPlace_82, decode mX5_brokenPlace.2.1 q.1 = .ok (q.2, aLn q.2) := by decide +kernel
def bX5_brokenPlace_88 : List (Nat × Instr) := [(88, .iload_n 3)]
theorem bX5_brokenPlace_88_ok : ∀ q ∈ bX5_brokenPlace_88, decode mX5_brokenPlace.2.1 q.1 = .ok (q.2, aLn q.2) := by decide +kernel
def bX5_brokenPlace_92 : List (Nat × Instr) := [(92, .iload_n 2)]
theorem bX5_brokenPlace_92_ok : ∀ q ∈ bX5_brokenPlace_92, decode mX5_brokenPlace.2.1 q.1 = .ok (q.2, aLn q.2) := by decide +kernel
def bX5_brokenPlace_96 : List (Nat × Instr) := [(96, .iconst (-1)), (97, .goto 4)]
theorem bX5_brokenPlace_96_ok : ∀ q ∈ bX5_brokenPlace_96, decode mX5_brokenPlace.2.1 q.1 = .ok (q.2, aLn q.2) := by decide +kernel
def bX5_brokenPlace_100 : List (Nat × Instr) := [(100, .iload_n 2)]
theorem bX5_brokenPlace_100_ok : ∀ q ∈ bX5_brokenPlace_100, decode mX5_brokenPlace.2.1 q.1 = .ok (q.2, aLn q.2) := by decide +kernel
theorem dX5_brokenPlace_2 : decode mX5_brokenPlace.2.1 2 = .ok (.invokevirtual 9, 3) := by decide +kernel
theorem dX5_brokenPlace_14 : decode mX5_brokenPlace.2.1 14 = .ok (.if_icmp .ge 74, 3) := by decide +kernel
theorem dX5_brokenPlace_21 : decode mX5_brokenPlace.2.1 21 = .ok (.invokevirtual 15, 3) := by decide +kernel
theorem dX5_brokenPlace_27 : decode mX5_brokenPlace.2.1 27 = .ok (.ifCond .ge 16, 3) := by decide +kernel
theorem dX5_brokenPlace_32 : decode mX5_brokenPlace.2.1 32 = .ok (.invokestatic 19, 3) := by decide +kernel
theorem dX5_brokenPlace_37 : decode mX5_brokenPlace.2.1 37 = .ok (.ifCond .ne 45, 3) := by decide +kernel
theorem dX5_brokenPlace_42 : decode mX5_brokenPlace.2.1 42 = .ok (.ireturn, 1) := by decide +kernel
theorem dX5_brokenPlace_44 : decode mX5_brokenPlace.2.1 44 = .ok (.ifCond .ne 18, 3) := by decide +kernel
theorem dX5_brokenPlace_51 : decode mX5_brokenPlace.2.1 51 = .ok (.if_icmp .eq 6, 3) := by decide +kernel
theorem dX5_brokenPlace_56 : decode mX5_brokenPlace.2.1 56 = .ok (.ireturn, 1) := by decide +kernel
theorem dX5_brokenPlace_66 : decode mX5_brokenPlace.2.1 66 = .ok (.if_icmp .lt 10, 3) := by decide +kernel
theorem dX5_brokenPlace_73 : decode mX5_brokenPlace.2.1 73 = .ok (.if_icmp .le 6, 3) := by decide +kernel
theorem dX5_brokenPlace_78 : decode mX5_brokenPlace.2.1 78 = .ok (.ireturn, 1) := by decide +kernel
theorem dX5_brokenPlace_89 : decode mX5_brokenPlace.2.1 89 = .ok (.ifCond .ge 11, 3) := by decide +kernel
theorem dX5_brokenPlace_93 : decode mX5_brokenPlace.2.1 93 = .ok (.ifCond .le 7, 3) := by decide +kernel
theorem dX5_brokenPlace_101 : decode mX5_brokenPlace.2.1 101 = .ok (.ireturn, 1) := by decide +kernel
def bX5_digitsBehind_0 : List (Nat × Instr) := [(0, .iload_n 0)]
theorem bX5_digitsBehind_0_ok : ∀ q ∈ bX5_digitsBehind_0, decode mX5_digitsBehind.2.1 q.1 = .ok (q.2, aLn q.2) := by decide +kernel
def bX5_digitsBehind_68 : List (Nat × Instr) := [(68, .iconst 3)]
theorem bX5_digitsBehind_68_ok : ∀ q ∈ bX5_digitsBehind_68, decode mX5_digitsBehind.2.1 q.1 = .ok (q.2, aLn q.2) := by decide +kernel
def bX5_digitsBehind_70 : List (Nat × Instr) := [(70, .iconst 2)]
theorem bX5_digitsBehind_70_ok : ∀ q ∈ bX5_digitsBehind_70, decode mX5_digitsBehind.2.1 q.1 = .ok (q.2, aLn q.2) := by decide +kernel
def bX5_digitsBehind_72 : List (Nat × Instr) := [(72, .iconst 1)]
theorem bX5_digitsBehind_72_ok : ∀ q ∈ bX5_digitsBehind_72, decode mX5_digitsBehind.2.1 q.1 = .ok (q.2, aLn q.2) := by decide +kernel
def bX5_digitsBehind_74 : List (Nat × Instr) := [(74, .iconst 0)]
theorem bX5_digitsBehind_74_ok : ∀ q ∈ bX5_digitsBehind_74, decode mX5_digitsBehind.2.1 q.1 = .ok (q.2, aLn q.2) := by decide +kernel
theorem dX5_digitsBehind_1 : decode mX5_digitsBehind.2.1 1 = .ok (.tableswitch 73 100 112 #[69, 71, 73, 73, 69, 73, 73, 67, 73, 73, 73, 69, 67], 67) := by decide +kernel
theorem dX5_digitsBehind_69 : decode mX5_digitsBehind.2.1 69 = .ok (.ireturn, 1) := by decide +kernel
theorem dX5_digitsBehind_71 : decode mX5_digitsBehind.2.1 71 = .ok (.ireturn, 1) := by decide +kernel
theorem dX5_digitsBehind_73 : decode mX5_digitsBehind.2.1 73 = .ok (.ireturn, 1) := by decide +kernel
theorem dX5_digitsBehind_75 : decode mX5_digitsBehind.2.1 75 = .ok (.ireturn, 1) := by decide +kernel
def bX5_obeyed_0 : List (Nat × Instr) := [(0, .aload_n 0), (1, .iload_n 1)]
theorem bX5_obeyed_0_ok : ∀ q ∈ bX5_obeyed_0, decode mX5_obeyed.2.1 q.1 = .ok (q.2, aLn q.2) := by decide +kernel
def bX5_obeyed_5 : List (Nat × Instr) := [(5, .istore_n 3), (6, .iconst 0), (7, .istore 4), (9, .iconst 0), (10, .istore 5)]
theorem bX5_obeyed_5_ok : ∀ q ∈ bX5_obeyed_5, decode mX5_obeyed.2.1 q.1 = .ok (q.2, aLn q.2) := by decide +kernel
def bX5_obeyed_12 : List (Nat × Instr) := [(12, .iload 5), (14, .iload_n 3)]
theorem bX5_obeyed_12_ok : ∀ q ∈ bX5_obeyed_12, decode mX5_obeyed.2.1 q.1 = .ok (q.2, aLn q.2) := by decide +kernel
def bX5_obeyed_18 : List (Nat × Instr) := [(18, .aload_n 0), (19, .iload_n 1), (20, .iload 5)]
theorem bX5_obeyed_18_ok : ∀ q ∈ bX5_obeyed_18, decode mX5_obeyed.2.1 q.1 = .ok (q.2, aLn q.2) := by decide +kernel
def bX5_obeyed_25 : List (Nat × Instr) := [(25, .istore 6), (27, .aload_n 0), (28, .iload_n 1), (29, .iload 5), (31, .iconst 1), (32, .iadd)]
theorem bX5_obeyed_25_ok : ∀ q ∈ bX5_obeyed_25, decode mX5_obeyed.2.1 q.1 = .ok (q.2, aLn q.2) := by decide +kernel
def bX5_obeyed_36 : List (Nat × Instr) := [(36, .bipush 48), (38, .isub), (39, .istore 7), (41, .aload_n 0), (42, .iload_n 1), (43, .iload 5), (45, .iconst 2), (46, .iadd)]
theorem bX5_obeyed_36_ok : ∀ q ∈ bX5_obeyed_36, decode mX5_obeyed.2.1 q.1 = .ok (q.2, aLn q.2) := by decide +kernel
def bX5_obeyed_50 : List (Nat × Instr) := [(50, .bipush 48), (52, .isub), (53, .istore 8), (55, .aload_n 0), (56, .iload_n 1), (57, .iload 5), (59, .iconst 3), (60, .iadd)]
theorem bX5_obeyed_50_ok : ∀ q ∈ bX5_obeyed_50, decode mX5_obeyed.2.1 q.1 = .ok (q.2, aLn q.2) := by decide +kernel
def bX5_obeyed_64 : List (Nat × Instr) := [(64, .bipush 48), (66, .isub), (67, .istore 9), (69, .aload_n 2), (70, .iload 6), (72, .iload 7), (74, .iload 8), (76, .iload 9)]
theorem bX5_obeyed_64_ok : ∀ q ∈ bX5_obeyed_64, decode mX5_obeyed.2.1 q.1 = .ok (q.2, aLn q.2) := by decide +kernel
def bX5_obeyed_84 : List (Nat × Instr) := [(84, .sipush (-2000)), (87, .iload 5), (89, .isub)]
theorem bX5_obeyed_84_ok : ∀ q ∈ bX5_obeyed_84, decode mX5_obeyed.2.1 q.1 = .ok (q.2, aLn q.2) := by decide +kernel
def bX5_obeyed_91 : List (Nat × Instr) := [(91, .iinc 4 1), (94, .iload 5), (96, .iload 6)]
theorem bX5_obeyed_91_ok : ∀ q ∈ bX5_obeyed_91, decode mX5_obeyed.2.1 q.1 = .ok (q.2, aLn q.2) := by decide +kernel
def bX5_obeyed_101 : List (Nat × Instr) := [(101, .iconst 2), (102, .iadd), (103, .iadd), (104, .istore 5), (106, .goto (-94))]
theorem bX5_obeyed_101_ok : ∀ q ∈ bX5_obeyed_101, decode mX5_obeyed.2.1 q.1 = .ok (q.2, aLn q.2) := by decide +kernel
def bX5_obeyed_109 : List (Nat × Instr) := [(109, .iload 4)]
theorem bX5_obeyed_109_ok : ∀ q ∈ bX5_obeyed_109, decode mX5_obeyed.2.1 q.1 = .ok (q.2, aLn q.2) := by decide +kernel
theorem dX5_obeyed_2 : decode mX5_obeyed.2.1 2 = .ok (.invokevirtual 9, 3) := by decide +kernel
theorem dX5_obeyed_15 : decode mX5_obeyed.2.1 15 = .ok (.if_icmp .ge 94, 3) := by decide +kernel
theorem dX5_obeyed_22 : decode mX5_obeyed.2.1 22 = .ok (.invokevirtual 15, 3) := by decide +kernel
theorem dX5_obeyed_33 : decode mX5_obeyed.2.1 33 = .ok (.invokevirtual 15, 3) := by decide +kernel
theorem dX5_obeyed_47 : decode mX5_obeyed.2.1 47 = .ok (.invokevirtual 15, 3) := by decide +kernel
theorem dX5_obeyed_61 : decode mX5_obeyed.2.1 61 = .ok (.invokevirtual 15, 3) := by decide +kernel
theorem dX5_obeyed_78 : decode mX5_obeyed.2.1 78 = .ok (.invokestatic 24, 3) := by decide +kernel
theorem dX5_obeyed_81 : decode mX5_obeyed.2.1 81 = .ok (.ifCond .ne 10, 3) := by decide +kernel
theorem dX5_obeyed_90 : decode mX5_obeyed.2.1 90 = .ok (.ireturn, 1) := by decide +kernel
theorem dX5_obeyed_98 : decode mX5_obeyed.2.1 98 = .ok (.invokestatic 19, 3) := by decide +kernel
theorem dX5_obeyed_111 : decode mX5_obeyed.2.1 111 = .ok (.ireturn, 1) := by decide +kernel
def bX5_isObeyed_0 : List (Nat × Instr) := [(0, .iload_n 1)]
theorem bX5_isObeyed_0_ok : ∀ q ∈ bX5_isObeyed_0, decode mX5_isObeyed.2.1 q.1 = .ok (q.2, aLn q.2) := by decide +kernel
def bX5_isObeyed_64 : List (Nat × Instr) := [(64, .iload_n 2), (65, .bipush 8)]
theorem bX5_isObeyed_64_ok : ∀ q ∈ bX5_isObeyed_64, decode mX5_isObeyed.2.1 q.1 = .ok (q.2, aLn q.2) := by decide +kernel
def bX5_isObeyed_70 : List (Nat × Instr) := [(70, .iload 4)]
theorem bX5_isObeyed_70_ok : ∀ q ∈ bX5_isObeyed_70, decode mX5_isObeyed.2.1 q.1 = .ok (q.2, aLn q.2) := by decide +kernel
def bX5_isObeyed_78 : List (Nat × Instr) := [(78, .aload_n 0), (79, .iload_n 2), (80, .iload_n 3), (81, .iload 4)]
theorem bX5_isObeyed_78_ok : ∀ q ∈ bX5_isObeyed_78, decode mX5_isObeyed.2.1 q.1 = .ok (q.2, aLn q.2) := by decide +kernel
def bX5_isObeyed_89 : List (Nat × Instr) := [(89, .iconst 1), (90, .goto 4)]
theorem bX5_isObeyed_89_ok : ∀ q ∈ bX5_isObeyed_89, decode mX5_isObeyed.2.1 q.1 = .ok (q.2, aLn q.2) := by decide +kernel
def bX5_isObeyed_93 : List (Nat × Instr) := [(93, .iconst 0)]
theorem bX5_isObeyed_93_ok : ∀ q ∈ bX5_isObeyed_93, decode mX5_isObeyed.2.1 q.1 = .ok (q.2, aLn q.2) := by decide +kernel
def bX5_isObeyed_95 : List (Nat × Instr) := [(95, .aload_n 0), (96, .iload_n 2), (97, .iload_n 3)]
theorem bX5_isObeyed_95_ok : ∀ q ∈ bX5_isObeyed_95, decode mX5_isObeyed.2.1 q.1 = .ok (q.2, aLn q.2) := by decide +kernel
def bX5_isObeyed_102 : List (Nat × Instr) := [(102, .aload_n 0), (103, .iload_n 2), (104, .iload_n 3)]
theorem bX5_isObeyed_102_ok : ∀ q ∈ bX5_isObeyed_102, decode mX5_isObeyed.2.1 q.1 = .ok (q.2, aLn q.2) := by decide +kernel
def bX5_isObeyed_109 : List (Nat × Instr) := [(109, .aload_n 0), (110, .iload_n 2)]
theorem bX5_isObeyed_109_ok : ∀ q ∈ bX5_isObeyed_109, decode mX5_isObeyed.2.1 q.1 = .ok (q.2, aLn q.2) := by decide +kernel
def bX5_isObeyed_115 : List (Nat × Instr) := [(115, .aload_n 0), (116, .iload_n 2), (117, .bipush 10), (119, .iload_n 3), (120, .imul), (121, .iload 4), (123, .iadd)]
theorem bX5_isObeyed_115_ok : ∀ q ∈ bX5_isObeyed_115, decode mX5_isObeyed.2.1 q.1 = .ok (q.2, aLn q.2) := by decide +kernel
def bX5_isObeyed_128 : List (Nat × Instr) := [(128, .aload_n 0), (129, .bipush 10), (131, .iload_n 2), (132, .imul), (133, .iload_n 3), (134, .iadd)]
theorem bX5_isObeyed_128_ok : ∀ q ∈ bX5_isObeyed_128, decode mX5_isObeyed.2.1 q.1 = .ok (q.2, aLn q.2) := by decide +kernel
theorem dX5_isObeyed_1 : decode mX5_isObeyed.2.1 1 = .ok (.tableswitch 127 101 112 #[108, 127, 127, 101, 127, 127, 114, 127, 127, 127, 94, 63], 63) := by decide +kernel
theorem dX5_isObeyed_67 : decode mX5_isObeyed.2.1 67 = .ok (.if_icmp .ge 26, 3) := by decide +kernel
theorem dX5_isObeyed_72 : decode mX5_isObeyed.2.1 72 = .ok (.invokestatic 28, 3) := by decide +kernel
theorem dX5_isObeyed_75 : decode mX5_isObeyed.2.1 75 = .ok (.ifCond .eq 18, 3) := by decide +kernel
theorem dX5_isObeyed_83 : decode mX5_isObeyed.2.1 83 = .ok (.invokevirtual 32, 3) := by decide +kernel
theorem dX5_isObeyed_86 : decode mX5_isObeyed.2.1 86 = .ok (.ifCond .lt 7, 3) := by decide +kernel
theorem dX5_isObeyed_94 : decode mX5_isObeyed.2.1 94 = .ok (.ireturn, 1) := by decide +kernel
theorem dX5_isObeyed_98 : decode mX5_isObeyed.2.1 98 = .ok (.invokestatic 38, 3) := by decide +kernel
theorem dX5_isObeyed_101 : decode mX5_isObeyed.2.1 101 = .ok (.ireturn, 1) := by decide +kernel
theorem dX5_isObeyed_105 : decode mX5_isObeyed.2.1 105 = .ok (.invokestatic 42, 3) := by decide +kernel
theorem dX5_isObeyed_108 : decode mX5_isObeyed.2.1 108 = .ok (.ireturn, 1) := by decide +kernel
theorem dX5_isObeyed_111 : decode mX5_isObeyed.2.1 111 = .ok (.invokestatic 45, 3) := by decide +kernel
theorem dX5_isObeyed_114 : decode mX5_isObeyed.2.1 114 = .ok (.ireturn, 1) := by decide +kernel
theorem dX5_isObeyed_124 : decode mX5_isObeyed.2.1 124 = .ok (.invokestatic 49, 3) := by decide +kernel
theorem dX5_isObeyed_127 : decode mX5_isObeyed.2.1 127 = .ok (.ireturn, 1) := by decide +kernel
theorem dX5_isObeyed_135 : decode mX5_isObeyed.2.1 135 = .ok (.invokestatic 52, 3) := by decide +kernel
theorem dX5_isObeyed_138 : decode mX5_isObeyed.2.1 138 = .ok (.ireturn, 1) := by decide +kernel
def bX5_isPassed_0 : List (Nat × Instr) := [(0, .iload_n 1), (1, .iconst 1)]
theorem bX5_isPassed_0_ok : ∀ q ∈ bX5_isPassed_0, decode mX5_isPassed.2.1 q.1 = .ok (q.2, aLn q.2) := by decide +kernel
def bX5_isPassed_5 : List (Nat × Instr) := [(5, .iload_n 1), (6, .bipush 60)]
theorem bX5_isPassed_5_ok : ∀ q ∈ bX5_isPassed_5, decode mX5_isPassed.2.1 q.1 = .ok (q.2, aLn q.2) := by decide +kernel
def bX5_isPassed_11 : List (Nat × Instr) := [(11, .aload_n 0), (12, .getfield 55), (15, .iload_n 1), (16, .iadd), (17, .sipush 999)]
theorem bX5_isPassed_11_ok : ∀ q ∈ bX5_isPassed_11, decode mX5_isPassed.2.1 q.1 = .ok (q.2, aLn q.2) := by decide +kernel
def bX5_isPassed_23 : List (Nat × Instr) := [(23, .iconst 1), (24, .goto 4)]
theorem bX5_isPassed_23_ok : ∀ q ∈ bX5_isPassed_23, decode mX5_isPassed.2.1 q.1 = .ok (q.2, aLn q.2) := by decide +kernel
def bX5_isPassed_27 : List (Nat × Instr) := [(27, .iconst 0)]
theorem bX5_isPassed_27_ok : ∀ q ∈ bX5_isPassed_27, decode mX5_isPassed.2.1 q.1 = .ok (q.2, aLn q.2) := by decide +kernel
def bX5_isPassed_28 : List (Nat × Instr) := [(28, .istore_n 2), (29, .iconst 0), (30, .istore_n 3)]
theorem bX5_isPassed_28_ok : ∀ q ∈ bX5_isPassed_28, decode mX5_isPassed.2.1 q.1 = .ok (q.2, aLn q.2) := by decide +kernel
def bX5_isPassed_31 : List (Nat × Instr) := [(31, .iload_n 2)]
theorem bX5_isPassed_31_ok : ∀ q ∈ bX5_isPassed_31, decode mX5_isPassed.2.1 q.1 = .ok (q.2, aLn q.2) := by decide +kernel
def bX5_isPassed_35 : List (Nat × Instr) := [(35, .iload_n 3), (36, .iload_n 1)]
theorem bX5_isPassed_35_ok : ∀ q ∈ bX5_isPassed_35, decode mX5_isPassed.2.1 q.1 = .ok (q.2, aLn q.2) := by decide +kernel
def bX5_isPassed_40 : List (Nat × Instr) := [(40, .aload_n 0)]
theorem bX5_isPassed_40_ok : ∀ q ∈ bX5_isPassed_40, decode mX5_isPassed.2.1 q.1 = .ok (q.2, aLn q.2) := by decide +kernel
def bX5_isPassed_44 : List (Nat × Instr) := [(44, .iinc 3 1), (47, .goto (-16))]
theorem bX5_isPassed_44_ok : ∀ q ∈ bX5_isPassed_44, decode mX5_isPassed.2.1 q.1 = .ok (q.2, aLn q.2) := by decide +kernel
def bX5_isPassed_50 : List (Nat × Instr) := [(50, .iload_n 2)]
theorem bX5_isPassed_50_ok : ∀ q ∈ bX5_isPassed_50, decode mX5_isPassed.2.1 q.1 = .ok (q.2, aLn q.2) := by decide +kernel
theorem dX5_isPassed_2 : decode mX5_isPassed.2.1 2 = .ok (.if_icmp .lt 25, 3) := by decide +kernel
theorem dX5_isPassed_8 : decode mX5_isPassed.2.1 8 = .ok (.if_icmp .gt 19, 3) := by decide +kernel
theorem dX5_isPassed_20 : decode mX5_isPassed.2.1 20 = .ok (.if_icmp .gt 7, 3) := by decide +kernel
theorem dX5_isPassed_32 : decode mX5_isPassed.2.1 32 = .ok (.ifCond .eq 18, 3) := by decide +kernel
theorem dX5_isPassed_37 : decode mX5_isPassed.2.1 37 = .ok (.if_icmp .ge 13, 3) := by decide +kernel
theorem dX5_isPassed_41 : decode mX5_isPassed.2.1 41 = .ok (.invokevirtual 59, 3) := by decide +kernel
theorem dX5_isPassed_51 : decode mX5_isPassed.2.1 51 = .ok (.ireturn, 1) := by decide +kernel
def bX5_isDressed_0 : List (Nat × Instr) := [(0, .iload_n 1)]
theorem bX5_isDressed_0_ok : ∀ q ∈ bX5_isDressed_0, decode mX5_isDressed.2.1 q.1 = .ok (q.2, aLn q.2) := by decide +kernel
def bX5_isDressed_7 : List (Nat × Instr) := [(7, .iconst 0)]
theorem bX5_isDressed_7_ok : ∀ q ∈ bX5_isDressed_7, decode mX5_isDressed.2.1 q.1 = .ok (q.2, aLn q.2) := by decide +kernel
def bX5_isDressed_9 : List (Nat × Instr) := [(9, .aload_n 0), (10, .getfield 65), (13, .iload_n 1), (14, .iload_n 2), (15, .iastore), (16, .iconst 1)]
theorem bX5_isDressed_9_ok : ∀ q ∈ bX5_isDressed_9, decode mX5_isDressed.2.1 q.1 = .ok (q.2, aLn q.2) := by decide +kernel
theorem dX5_isDressed_1 : decode mX5_isDressed.2.1 1 = .ok (.invokestatic 62, 3) := by decide +kernel
theorem dX5_isDressed_4 : decode mX5_isDressed.2.1 4 = .ok (.ifCond .ne 5, 3) := by decide +kernel
theorem dX5_isDressed_8 : decode mX5_isDressed.2.1 8 = .ok (.ireturn, 1) := by decide +kernel
theorem dX5_isDressed_17 : decode mX5_isDressed.2.1 17 = .ok (.ireturn, 1) := by decide +kernel
def bX5_isInstalled_0 : List (Nat × Instr) := [(0, .iload_n 1)]
theorem bX5_isInstalled_0_ok : ∀ q ∈ bX5_isInstalled_0, decode mX5_isInstalled.2.1 q.1 = .ok (q.2, aLn q.2) := by decide +kernel
def bX5_isInstalled_7 : List (Nat × Instr) := [(7, .aload_n 0), (8, .iload_n 2)]
theorem bX5_isInstalled_7_ok : ∀ q ∈ bX5_isInstalled_7, decode mX5_isInstalled.2.1 q.1 = .ok (q.2, aLn q.2) := by decide +kernel
def bX5_isInstalled_15 : List (Nat × Instr) := [(15, .iconst 0)]
theorem bX5_isInstalled_15_ok : ∀ q ∈ bX5_isInstalled_15, decode mX5_isInstalled.2.1 q.1 = .ok (q.2, aLn q.2) := by decide +kernel
def bX5_isInstalled_17 : List (Nat × Instr) := [(17, .aload_n 0), (18, .iload_n 1), (19, .iload_n 2)]
theorem bX5_isInstalled_17_ok : ∀ q ∈ bX5_isInstalled_17, decode mX5_isInstalled.2.1 q.1 = .ok (q.2, aLn q.2) := by decide +kernel
def bX5_isInstalled_23 : List (Nat × Instr) := [(23, .iconst 1)]
theorem bX5_isInstalled_23_ok : ∀ q ∈ bX5_isInstalled_23, decode mX5_isInstalled.2.1 q.1 = .ok (q.2, aLn q.2) := by decide +kernel
theorem dX5_isInstalled_1 : decode mX5_isInstalled.2.1 1 = .ok (.invokestatic 62, 3) := by decide +kernel
theorem dX5_isInstalled_4 : decode mX5_isInstalled.2.1 4 = .ok (.ifCond .eq 11, 3) := by decide +kernel
theorem dX5_isInstalled_9 : decode mX5_isInstalled.2.1 9 = .ok (.invokevirtual 69, 3) := by decide +kernel
theorem dX5_isInstalled_12 : decode mX5_isInstalled.2.1 12 = .ok (.ifCond .ne 5, 3) := by decide +kernel
theorem dX5_isInstalled_16 : decode mX5_isInstalled.2.1 16 = .ok (.ireturn, 1) := by decide +kernel
theorem dX5_isInstalled_20 : decode mX5_isInstalled.2.1 20 = .ok (.invokevirtual 72, 3) := by decide +kernel
theorem dX5_isInstalled_24 : decode mX5_isInstalled.2.1 24 = .ok (.ireturn, 1) := by decide +kernel
def bX5_isVacated_0 : List (Nat × Instr) := [(0, .iload_n 1)]
theorem bX5_isVacated_0_ok : ∀ q ∈ bX5_isVacated_0, decode mX5_isVacated.2.1 q.1 = .ok (q.2, aLn q.2) := by decide +kernel
def bX5_isVacated_7 : List (Nat × Instr) := [(7, .iconst 0)]
theorem bX5_isVacated_7_ok : ∀ q ∈ bX5_isVacated_7, decode mX5_isVacated.2.1 q.1 = .ok (q.2, aLn q.2) := by decide +kernel
def bX5_isVacated_9 : List (Nat × Instr) := [(9, .aload_n 0), (10, .iload_n 1)]
theorem bX5_isVacated_9_ok : ∀ q ∈ bX5_isVacated_9, decode mX5_isVacated.2.1 q.1 = .ok (q.2, aLn q.2) := by decide +kernel
def bX5_isVacated_14 : List (Nat × Instr) := [(14, .iconst 1)]
theorem bX5_isVacated_14_ok : ∀ q ∈ bX5_isVacated_14, decode mX5_isVacated.2.1 q.1 = .ok (q.2, aLn q.2) := by decide +kernel
theorem dX5_isVacated_1 : decode mX5_isVacated.2.1 1 = .ok (.invokestatic 62, 3) := by decide +kernel
theorem dX5_isVacated_4 : decode mX5_isVacated.2.1 4 = .ok (.ifCond .ne 5, 3) := by decide +kernel
theorem dX5_isVacated_8 : decode mX5_isVacated.2.1 8 = .ok (.ireturn, 1) := by decide +kernel
theorem dX5_isVacated_11 : decode mX5_isVacated.2.1 11 = .ok (.invokevirtual 76, 3) := by decide +kernel
theorem dX5_isVacated_15 : decode mX5_isVacated.2.1 15 = .ok (.ireturn, 1) := by decide +kernel
def bX5_isMadeKnown_0 : List (Nat × Instr) := [(0, .aload_n 0), (1, .iload_n 1)]
theorem bX5_isMadeKnown_0_ok : ∀ q ∈ bX5_isMadeKnown_0, decode mX5_isMadeKnown.2.1 q.1 = .ok (q.2, aLn q.2) := by decide +kernel
def bX5_isMadeKnown_8 : List (Nat × Instr) := [(8, .iconst 0)]
theorem bX5_isMadeKnown_8_ok : ∀ q ∈ bX5_isMadeKnown_8, decode mX5_isMadeKnown.2.1 q.1 = .ok (q.2, aLn q.2) := by decide +kernel
def bX5_isMadeKnown_10 : List (Nat × Instr) := [(10, .aload_n 0), (11, .getfield 80), (14, .iload_n 1), (15, .iload_n 2), (16, .iastore), (17, .iconst 1)]
theorem bX5_isMadeKnown_10_ok : ∀ q ∈ bX5_isMadeKnown_10, decode mX5_isMadeKnown.2.1 q.1 = .ok (q.2, aLn q.2) := by decide +kernel
theorem dX5_isMadeKnown_2 : decode mX5_isMadeKnown.2.1 2 = .ok (.invokevirtual 69, 3) := by decide +kernel
theorem dX5_isMadeKnown_5 : decode mX5_isMadeKnown.2.1 5 = .ok (.ifCond .ne 5, 3) := by decide +kernel
theorem dX5_isMadeKnown_9 : decode mX5_isMadeKnown.2.1 9 = .ok (.ireturn, 1) := by decide +kernel
theorem dX5_isMadeKnown_18 : decode mX5_isMadeKnown.2.1 18 = .ok (.ireturn, 1) := by decide +kernel
def bJ6_bitCount_0f7a4_0 : List (Nat × Instr) := [(0, .iload_n 0), (1, .iload_n 0), (2, .iconst 1), (3, .iushr), (4, .ldc_w 265), (7, .iand), (8, .isub), (9, .istore_n 0), (10, .iload_n 0), (11, .ldc_w 266), (14, .iand), (15, .iload_n 0), (16, .iconst 2), (17, .iushr), (18, .ldc_w 266), (21, .iand), (22, .iadd), (23, .istore_n 0), (24, .iload_n 0), (25, .iload_n 0), (26, .iconst 4), (27, .iushr), (28, .iadd), (29, .ldc_w 267), (32, .iand), (33, .istore_n 0), (34, .iload_n 0), (35, .iload_n 0), (36, .bipush 8), (38, .iushr), (39, .iadd), (40, .istore_n 0), (41, .iload_n 0), (42, .iload_n 0), (43, .bipush 16), (45, .iushr), (46, .iadd), (47, .istore_n 0), (48, .iload_n 0), (49, .bipush 63), (51, .iand)]
theorem bJ6_bitCount_0f7a4_0_ok : ∀ q ∈ bJ6_bitCount_0f7a4_0, decode mJ6_bitCount_0f7a4.2.1 q.1 = .ok (q.2, aLn q.2) := by decide +kernel
theorem dJ6_bitCount_0f7a4_52 : decode mJ6_bitCount_0f7a4.2.1 52 = .ok (.ireturn, 1) := by decide +kernel
def bJ9_abs_0f7a4_0 : List (Nat × Instr) := [(0, .iload_n 0)]
theorem bJ9_abs_0f7a4_0_ok : ∀ q ∈ bJ9_abs_0f7a4_0, decode mJ9_abs_0f7a4.2.1 q.1 = .ok (q.2, aLn q.2) := by decide +kernel
def bJ9_abs_0f7a4_4 : List (Nat × Instr) := [(4, .iload_n 0), (5, .ineg), (6, .goto 4)]
theorem bJ9_abs_0f7a4_4_ok : ∀ q ∈ bJ9_abs_0f7a4_4, decode mJ9_abs_0f7a4.2.1 q.1 = .ok (q.2, aLn q.2) := by decide +kernel
def bJ9_abs_0f7a4_9 : List (Nat × Instr) := [(9, .iload_n 0)]
theorem bJ9_abs_0f7a4_9_ok : ∀ q ∈ bJ9_abs_0f7a4_9, decode mJ9_abs_0f7a4.2.1 q.1 = .ok (q.2, aLn q.2) := by decide +kernel
theorem dJ9_abs_0f7a4_1 : decode mJ9_abs_0f7a4.2.1 1 = .ok (.ifCond .ge 8, 3) := by decide +kernel
theorem dJ9_abs_0f7a4_10 : decode mJ9_abs_0f7a4.2.1 10 = .ok (.ireturn, 1) := by decide +kernel
def bJ9_max_7cf53_0 : List (Nat × Instr) := [(0, .iload_n 0), (1, .iload_n 1)]
theorem bJ9_max_7cf53_0_ok : ∀ q ∈ bJ9_max_7cf53_0, decode mJ9_max_7cf53.2.1 q.1 = .ok (q.2, aLn q.2) := by decide +kernel
def bJ9_max_7cf53_5 : List (Nat × Instr) := [(5, .iload_n 0), (6, .goto 4)]
theorem bJ9_max_7cf53_5_ok : ∀ q ∈ bJ9_max_7cf53_5, decode mJ9_max_7cf53.2.1 q.1 = .ok (q.2, aLn q.2) := by decide +kernel
def bJ9_max_7cf53_9 : List (Nat × Instr) := [(9, .iload_n 1)]
theorem bJ9_max_7cf53_9_ok : ∀ q ∈ bJ9_max_7cf53_9, decode mJ9_max_7cf53.2.1 q.1 = .ok (q.2, aLn q.2) := by decide +kernel
theorem dJ9_max_7cf53_2 : decode mJ9_max_7cf53.2.1 2 = .ok (.if_icmp .lt 7, 3) := by decide +kernel
theorem dJ9_max_7cf53_10 : decode mJ9_max_7cf53.2.1 10 = .ok (.ireturn, 1) := by decide +kernel
def bJ9_min_7cf53_0 : List (Nat × Instr) := [(0, .iload_n 0), (1, .iload_n 1)]
theorem bJ9_min_7cf53_0_ok : ∀ q ∈ bJ9_min_7cf53_0, decode mJ9_min_7cf53.2.1 q.1 = .ok (q.2, aLn q.2) := by decide +kernel
def bJ9_min_7cf53_5 : List (Nat × Instr) := [(5, .iload_n 0), (6, .goto 4)]
theorem bJ9_min_7cf53_5_ok : ∀ q ∈ bJ9_min_7cf53_5, decode mJ9_min_7cf53.2.1 q.1 = .ok (q.2, aLn q.2) := by decide +kernel
def bJ9_min_7cf53_9 : List (Nat × Instr) := [(9, .iload_n 1)]
theorem bJ9_min_7cf53_9_ok : ∀ q ∈ bJ9_min_7cf53_9, decode mJ9_min_7cf53.2.1 q.1 = .ok (q.2, aLn q.2) := by decide +kernel
theorem dJ9_min_7cf53_2 : decode mJ9_min_7cf53.2.1 2 = .ok (.if_icmp .gt 7, 3) := by decide +kernel
theorem dJ9_min_7cf53_10 : decode mJ9_min_7cf53.2.1 10 = .ok (.ireturn, 1) := by decide +kernel
end
section
/-! ===== code ===== -/
def bX6_cabinet_0 : List (Nat × Instr) := [(0, .aload_n 0), (1, .getfield 29), (4, .iload_n 1)]
theorem bX6_cabinet_0_ok : ∀ q ∈ bX6_cabinet_0, decode mX6_cabinet.2.1 q.1 = .ok (q.2, aLn q.2) := by decide +kernel
def bX6_cabinet_8 : List (Nat × Instr) := [(8, .istore_n 2), (9, .iload_n 2)]
theorem bX6_cabinet_8_ok : ∀ q ∈ bX6_cabinet_8, decode mX6_cabinet.2.1 q.1 = .ok (q.2, aLn q.2) := by decide +kernel
def bX6_cabinet_13 : List (Nat × Instr) := [(13, .iload_n 2)]
theorem bX6_cabinet_13_ok : ∀ q ∈ bX6_cabinet_13, decode mX6_cabinet.2.1 q.1 = .ok (q.2, aLn q.2) := by decide +kernel
def bX6_cabinet_15 : List (Nat × Instr) := [(15, .aload_n 0), (16, .getfield 29), (19, .iload_n 1)]
theorem bX6_cabinet_15_ok : ∀ q ∈ bX6_cabinet_15, decode mX6_cabinet.2.1 q.1 = .ok (q.2, aLn q.2) := by decide +kernel
def bX6_cabinet_26 : List (Nat × Instr) := [(26, .bipush (-12))]
theorem bX6_cabinet_26_ok : ∀ q ∈ bX6_cabinet_26, decode mX6_cabinet.2.1 q.1 = .ok (q.2, aLn q.2) := by decide +kernel
def bX6_cabinet_29 : List (Nat × Instr) := [(29, .aload_n 0), (30, .getfield 29), (33, .iload_n 1)]
theorem bX6_cabinet_29_ok : ∀ q ∈ bX6_cabinet_29, decode mX6_cabinet.2.1 q.1 = .ok (q.2, aLn q.2) := by decide +kernel
def bX6_cabinet_37 : List (Nat × Instr) := [(37, .istore_n 3), (38, .iload_n 3), (39, .iconst (-1))]
theorem bX6_cabinet_37_ok : ∀ q ∈ bX6_cabinet_37, decode mX6_cabinet.2.1 q.1 = .ok (q.2, aLn q.2) := by decide +kernel
def bX6_cabinet_43 : List (Nat × Instr) := [(43, .sipush (-1000)), (46, .iload_n 3), (47, .isub)]
theorem bX6_cabinet_43_ok : ∀ q ∈ bX6_cabinet_43, decode mX6_cabinet.2.1 q.1 = .ok (q.2, aLn q.2) := by decide +kernel
def bX6_cabinet_49 : List (Nat × Instr) := [(49, .aload_n 0), (50, .getfield 16), (53, .aload_n 0), (54, .getfield 10)]
theorem bX6_cabinet_49_ok : ∀ q ∈ bX6_cabinet_49, decode mX6_cabinet.2.1 q.1 = .ok (q.2, aLn q.2) := by decide +kernel
def bX6_cabinet_60 : List (Nat × Instr) := [(60, .aload_n 0), (61, .getfield 29), (64, .iload_n 1), (65, .aload_n 0), (66, .getfield 16)]
theorem bX6_cabinet_60_ok : ∀ q ∈ bX6_cabinet_60, decode mX6_cabinet.2.1 q.1 = .ok (q.2, aLn q.2) := by decide +kernel
def bX6_cabinet_72 : List (Nat × Instr) := [(72, .istore 4), (74, .iload 4)]
theorem bX6_cabinet_72_ok : ∀ q ∈ bX6_cabinet_72, decode mX6_cabinet.2.1 q.1 = .ok (q.2, aLn q.2) := by decide +kernel
def bX6_cabinet_79 : List (Nat × Instr) := [(79, .aload_n 0), (80, .getfield 10), (83, .aload_n 0), (84, .getfield 16)]
theorem bX6_cabinet_79_ok : ∀ q ∈ bX6_cabinet_79, decode mX6_cabinet.2.1 q.1 = .ok (q.2, aLn q.2) := by decide +kernel
def bX6_cabinet_90 : List (Nat × Instr) := [(90, .iload 4)]
theorem bX6_cabinet_90_ok : ∀ q ∈ bX6_cabinet_90, decode mX6_cabinet.2.1 q.1 = .ok (q.2, aLn q.2) := by decide +kernel
theorem dX6_cabinet_5 : decode mX6_cabinet.2.1 5 = .ok (.invokevirtual 54, 3) := by decide +kernel
theorem dX6_cabinet_10 : decode mX6_cabinet.2.1 10 = .ok (.ifCond .eq 5, 3) := by decide +kernel
theorem dX6_cabinet_14 : decode mX6_cabinet.2.1 14 = .ok (.ireturn, 1) := by decide +kernel
theorem dX6_cabinet_20 : decode mX6_cabinet.2.1 20 = .ok (.invokevirtual 58, 3) := by decide +kernel
theorem dX6_cabinet_23 : decode mX6_cabinet.2.1 23 = .ok (.ifCond .ne 6, 3) := by decide +kernel
theorem dX6_cabinet_28 : decode mX6_cabinet.2.1 28 = .ok (.ireturn, 1) := by decide +kernel
theorem dX6_cabinet_34 : decode mX6_cabinet.2.1 34 = .ok (.invokestatic 62, 3) := by decide +kernel
theorem dX6_cabinet_40 : decode mX6_cabinet.2.1 40 = .ok (.if_icmp .eq 9, 3) := by decide +kernel
theorem dX6_cabinet_48 : decode mX6_cabinet.2.1 48 = .ok (.ireturn, 1) := by decide +kernel
theorem dX6_cabinet_57 : decode mX6_cabinet.2.1 57 = .ok (.invokevirtual 68, 3) := by decide +kernel
theorem dX6_cabinet_69 : decode mX6_cabinet.2.1 69 = .ok (.invokestatic 72, 3) := by decide +kernel
theorem dX6_cabinet_76 : decode mX6_cabinet.2.1 76 = .ok (.ifCond .lt 14, 3) := by decide +kernel
theorem dX6_cabinet_87 : decode mX6_cabinet.2.1 87 = .ok (.invokevirtual 68, 3) := by decide +kernel
theorem dX6_cabinet_92 : decode mX6_cabinet.2.1 92 = .ok (.ireturn, 1) := by decide +kernel
def bX6_one_0 : List (Nat × Instr) := [(0, .aload_n 0), (1, .getfield 10), (4, .iload_n 1)]
theorem bX6_one_0_ok : ∀ q ∈ bX6_one_0, decode mX6_one.2.1 q.1 = .ok (q.2, aLn q.2) := by decide +kernel
def bX6_one_11 : List (Nat × Instr) := [(11, .iconst (-1))]
theorem bX6_one_11_ok : ∀ q ∈ bX6_one_11, decode mX6_one.2.1 q.1 = .ok (q.2, aLn q.2) := by decide +kernel
def bX6_one_13 : List (Nat × Instr) := [(13, .iload_n 2)]
theorem bX6_one_13_ok : ∀ q ∈ bX6_one_13, decode mX6_one.2.1 q.1 = .ok (q.2, aLn q.2) := by decide +kernel
def bX6_one_60 : List (Nat × Instr) := [(60, .aload_n 0), (61, .getfield 10), (64, .getfield 79), (67, .iload_n 1), (68, .iaload)]
theorem bX6_one_60_ok : ∀ q ∈ bX6_one_60, decode mX6_one.2.1 q.1 = .ok (q.2, aLn q.2) := by decide +kernel
def bX6_one_70 : List (Nat × Instr) := [(70, .aload_n 0), (71, .getfield 10), (74, .getfield 82), (77, .iload_n 1), (78, .iaload)]
theorem bX6_one_70_ok : ∀ q ∈ bX6_one_70, decode mX6_one.2.1 q.1 = .ok (q.2, aLn q.2) := by decide +kernel
def bX6_one_80 : List (Nat × Instr) := [(80, .aload_n 0), (81, .getfield 10), (84, .getfield 85), (87, .iload_n 1), (88, .iaload)]
theorem bX6_one_80_ok : ∀ q ∈ bX6_one_80, decode mX6_one.2.1 q.1 = .ok (q.2, aLn q.2) := by decide +kernel
def bX6_one_90 : List (Nat × Instr) := [(90, .aload_n 0), (91, .getfield 10), (94, .getfield 88), (97, .iload_n 1), (98, .iaload)]
theorem bX6_one_90_ok : ∀ q ∈ bX6_one_90, decode mX6_one.2.1 q.1 = .ok (q.2, aLn q.2) := by decide +kernel
def bX6_one_100 : List (Nat × Instr) := [(100, .aload_n 0), (101, .getfield 10), (104, .getfield 91), (107, .iload_n 1), (108, .iaload)]
theorem bX6_one_100_ok : ∀ q ∈ bX6_one_100, decode mX6_one.2.1 q.1 = .ok (q.2, aLn q.2) := by decide +kernel
def bX6_one_113 : List (Nat × Instr) := [(113, .aload_n 0), (114, .getfield 10), (117, .iload_n 1)]
theorem bX6_one_113_ok : ∀ q ∈ bX6_one_113, decode mX6_one.2.1 q.1 = .ok (q.2, aLn q.2) := by decide +kernel
def bX6_one_122 : List (Nat × Instr) := [(122, .aload_n 0), (123, .getfield 10), (126, .getfield 79), (129, .iload_n 1), (130, .iaload), (131, .aload_n 0), (132, .getfield 10), (135, .getfield 82), (138, .iload_n 1), (139, .iaload)]
theorem bX6_one_122_ok : ∀ q ∈ bX6_one_122, decode mX6_one.2.1 q.1 = .ok (q.2, aLn q.2) := by decide +kernel
def bX6_one_144 : List (Nat × Instr) := [(144, .aload_n 0), (145, .getfield 10), (148, .iload_n 1)]
theorem bX6_one_144_ok : ∀ q ∈ bX6_one_144, decode mX6_one.2.1 q.1 = .ok (q.2, aLn q.2) := by decide +kernel
def bX6_one_153 : List (Nat × Instr) := [(153, .iconst (-1))]
theorem bX6_one_153_ok : ∀ q ∈ bX6_one_153, decode mX6_one.2.1 q.1 = .ok (q.2, aLn q.2) := by decide +kernel
theorem dX6_one_5 : decode mX6_one.2.1 5 = .ok (.invokevirtual 76, 3) := by decide +kernel
theorem dX6_one_8 : decode mX6_one.2.1 8 = .ok (.ifCond .ne 5, 3) := by decide +kernel
theorem dX6_one_12 : decode mX6_one.2.1 12 = .ok (.ireturn, 1) := by decide +kernel
theorem dX6_one_14 : decode mX6_one.2.1 14 = .ok (.tableswitch 139 0 7 #[46, 56, 66, 76, 86, 99, 108, 130], 46) := by decide +kernel
theorem dX6_one_69 : decode mX6_one.2.1 69 = .ok (.ireturn, 1) := by decide +kernel
theorem dX6_one_79 : decode mX6_one.2.1 79 = .ok (.ireturn, 1) := by decide +kernel
theorem dX6_one_89 : decode mX6_one.2.1 89 = .ok (.ireturn, 1) := by decide +kernel
theorem dX6_one_99 : decode mX6_one.2.1 99 = .ok (.ireturn, 1) := by decide +kernel
theorem dX6_one_109 : decode mX6_one.2.1 109 = .ok (.invokestatic 94, 3) := by decide +kernel
theorem dX6_one_112 : decode mX6_one.2.1 112 = .ok (.ireturn, 1) := by decide +kernel
theorem dX6_one_118 : decode mX6_one.2.1 118 = .ok (.invokevirtual 97, 3) := by decide +kernel
theorem dX6_one_121 : decode mX6_one.2.1 121 = .ok (.ireturn, 1) := by decide +kernel
theorem dX6_one_140 : decode mX6_one.2.1 140 = .ok (.invokestatic 100, 3) := by decide +kernel
theorem dX6_one_143 : decode mX6_one.2.1 143 = .ok (.ireturn, 1) := by decide +kernel
theorem dX6_one_149 : decode mX6_one.2.1 149 = .ok (.invokevirtual 106, 3) := by decide +kernel
theorem dX6_one_152 : decode mX6_one.2.1 152 = .ok (.ireturn, 1) := by decide +kernel
theorem dX6_one_154 : decode mX6_one.2.1 154 = .ok (.ireturn, 1) := by decide +kernel
def bX6_office_0 : List (Nat × Instr) := [(0, .iload_n 1)]
theorem bX6_office_0_ok : ∀ q ∈ bX6_office_0, decode mX6_office.2.1 q.1 = .ok (q.2, aLn q.2) := by decide +kernel
def bX6_office_7 : List (Nat × Instr) := [(7, .iconst (-1))]
theorem bX6_office_7_ok : ∀ q ∈ bX6_office_7, decode mX6_office.2.1 q.1 = .ok (q.2, aLn q.2) := by decide +kernel
def bX6_office_9 : List (Nat × Instr) := [(9, .iload_n 2)]
theorem bX6_office_9_ok : ∀ q ∈ bX6_office_9, decode mX6_office.2.1 q.1 = .ok (q.2, aLn q.2) := by decide +kernel
def bX6_office_36 : List (Nat × Instr) := [(36, .aload_n 0), (37, .getfield 10), (40, .getfield 112), (43, .iload_n 1), (44, .iaload)]
theorem bX6_office_36_ok : ∀ q ∈ bX6_office_36, decode mX6_office.2.1 q.1 = .ok (q.2, aLn q.2) := by decide +kernel
def bX6_office_46 : List (Nat × Instr) := [(46, .aload_n 0), (47, .getfield 10), (50, .getfield 115), (53, .iload_n 1), (54, .iaload)]
theorem bX6_office_46_ok : ∀ q ∈ bX6_office_46, decode mX6_office.2.1 q.1 = .ok (q.2, aLn q.2) := by decide +kernel
def bX6_office_59 : List (Nat × Instr) := [(59, .aload_n 0), (60, .getfield 10), (63, .aload_n 0), (64, .getfield 10), (67, .getfield 112), (70, .iload_n 1), (71, .iaload)]
theorem bX6_office_59_ok : ∀ q ∈ bX6_office_59, decode mX6_office.2.1 q.1 = .ok (q.2, aLn q.2) := by decide +kernel
def bX6_office_75 : List (Nat × Instr) := [(75, .iconst 1)]
theorem bX6_office_75_ok : ∀ q ∈ bX6_office_75, decode mX6_office.2.1 q.1 = .ok (q.2, aLn q.2) := by decide +kernel
def bX6_office_79 : List (Nat × Instr) := [(79, .iconst 1), (80, .goto 4)]
theorem bX6_office_79_ok : ∀ q ∈ bX6_office_79, decode mX6_office.2.1 q.1 = .ok (q.2, aLn q.2) := by decide +kernel
def bX6_office_83 : List (Nat × Instr) := [(83, .iconst 0)]
theorem bX6_office_83_ok : ∀ q ∈ bX6_office_83, decode mX6_office.2.1 q.1 = .ok (q.2, aLn q.2) := by decide +kernel
def bX6_office_85 : List (Nat × Instr) := [(85, .iconst (-1))]
theorem bX6_office_85_ok : ∀ q ∈ bX6_office_85, decode mX6_office.2.1 q.1 = .ok (q.2, aLn q.2) := by decide +kernel
theorem dX6_office_1 : decode mX6_office.2.1 1 = .ok (.invokestatic 109, 3) := by decide +kernel
theorem dX6_office_4 : decode mX6_office.2.1 4 = .ok (.ifCond .ne 5, 3) := by decide +kernel
theorem dX6_office_8 : decode mX6_office.2.1 8 = .ok (.ireturn, 1) := by decide +kernel
theorem dX6_office_10 : decode mX6_office.2.1 10 = .ok (.tableswitch 75 0 2 #[26, 36, 49], 26) := by decide +kernel
theorem dX6_office_45 : decode mX6_office.2.1 45 = .ok (.ireturn, 1) := by decide +kernel
theorem dX6_office_55 : decode mX6_office.2.1 55 = .ok (.invokestatic 94, 3) := by decide +kernel
theorem dX6_office_58 : decode mX6_office.2.1 58 = .ok (.ireturn, 1) := by decide +kernel
theorem dX6_office_72 : decode mX6_office.2.1 72 = .ok (.invokevirtual 118, 3) := by decide +kernel
theorem dX6_office_76 : decode mX6_office.2.1 76 = .ok (.if_icmp .le 7, 3) := by decide +kernel
theorem dX6_office_84 : decode mX6_office.2.1 84 = .ok (.ireturn, 1) := by decide +kernel
theorem dX6_office_86 : decode mX6_office.2.1 86 = .ok (.ireturn, 1) := by decide +kernel
def bX6_shows_0 : List (Nat × Instr) := [(0, .aload_n 0), (1, .getfield 10), (4, .iload_n 1)]
theorem bX6_shows_0_ok : ∀ q ∈ bX6_shows_0, decode mX6_shows.2.1 q.1 = .ok (q.2, aLn q.2) := by decide +kernel
def bX6_shows_11 : List (Nat × Instr) := [(11, .iload_n 2)]
theorem bX6_shows_11_ok : ∀ q ∈ bX6_shows_11, decode mX6_shows.2.1 q.1 = .ok (q.2, aLn q.2) := by decide +kernel
def bX6_shows_18 : List (Nat × Instr) := [(18, .iconst (-1))]
theorem bX6_shows_18_ok : ∀ q ∈ bX6_shows_18, decode mX6_shows.2.1 q.1 = .ok (q.2, aLn q.2) := by decide +kernel
def bX6_shows_20 : List (Nat × Instr) := [(20, .aload_n 0), (21, .getfield 10), (24, .getfield 79), (27, .iload_n 1), (28, .iaload), (29, .aload_n 0), (30, .getfield 10), (33, .getfield 82), (36, .iload_n 1), (37, .iaload), (38, .iload_n 2), (39, .aload_n 0), (40, .getfield 10), (43, .getfield 124), (46, .iconst 1), (47, .iadd)]
theorem bX6_shows_20_ok : ∀ q ∈ bX6_shows_20, decode mX6_shows.2.1 q.1 = .ok (q.2, aLn q.2) := by decide +kernel
theorem dX6_shows_5 : decode mX6_shows.2.1 5 = .ok (.invokevirtual 76, 3) := by decide +kernel
theorem dX6_shows_8 : decode mX6_shows.2.1 8 = .ok (.ifCond .eq 10, 3) := by decide +kernel
theorem dX6_shows_12 : decode mX6_shows.2.1 12 = .ok (.invokestatic 121, 3) := by decide +kernel
theorem dX6_shows_15 : decode mX6_shows.2.1 15 = .ok (.ifCond .ne 5, 3) := by decide +kernel
theorem dX6_shows_19 : decode mX6_shows.2.1 19 = .ok (.ireturn, 1) := by decide +kernel
theorem dX6_shows_48 : decode mX6_shows.2.1 48 = .ok (.invokestatic 128, 3) := by decide +kernel
theorem dX6_shows_51 : decode mX6_shows.2.1 51 = .ok (.ireturn, 1) := by decide +kernel
def bX6_comes_0 : List (Nat × Instr) := [(0, .iload_n 1)]
theorem bX6_comes_0_ok : ∀ q ∈ bX6_comes_0, decode mX6_comes.2.1 q.1 = .ok (q.2, aLn q.2) := by decide +kernel
def bX6_comes_7 : List (Nat × Instr) := [(7, .iload_n 2)]
theorem bX6_comes_7_ok : ∀ q ∈ bX6_comes_7, decode mX6_comes.2.1 q.1 = .ok (q.2, aLn q.2) := by decide +kernel
def bX6_comes_14 : List (Nat × Instr) := [(14, .iconst (-1))]
theorem bX6_comes_14_ok : ∀ q ∈ bX6_comes_14, decode mX6_comes.2.1 q.1 = .ok (q.2, aLn q.2) := by decide +kernel
def bX6_comes_16 : List (Nat × Instr) := [(16, .aload_n 0), (17, .getfield 29), (20, .iload_n 1)]
theorem bX6_comes_16_ok : ∀ q ∈ bX6_comes_16, decode mX6_comes.2.1 q.1 = .ok (q.2, aLn q.2) := by decide +kernel
def bX6_comes_24 : List (Nat × Instr) := [(24, .istore_n 3), (25, .iload_n 3)]
theorem bX6_comes_24_ok : ∀ q ∈ bX6_comes_24, decode mX6_comes.2.1 q.1 = .ok (q.2, aLn q.2) := by decide +kernel
def bX6_comes_29 : List (Nat × Instr) := [(29, .iload_n 3)]
theorem bX6_comes_29_ok : ∀ q ∈ bX6_comes_29, decode mX6_comes.2.1 q.1 = .ok (q.2, aLn q.2) := by decide +kernel
def bX6_comes_31 : List (Nat × Instr) := [(31, .aload_n 0), (32, .getfield 10), (35, .aload_n 0), (36, .getfield 29), (39, .iload_n 1)]
theorem bX6_comes_31_ok : ∀ q ∈ bX6_comes_31, decode mX6_comes.2.1 q.1 = .ok (q.2, aLn q.2) := by decide +kernel
def bX6_comes_43 : List (Nat × Instr) := [(43, .aload_n 0), (44, .getfield 29), (47, .iload_n 1)]
theorem bX6_comes_43_ok : ∀ q ∈ bX6_comes_43, decode mX6_comes.2.1 q.1 = .ok (q.2, aLn q.2) := by decide +kernel
def bX6_comes_51 : List (Nat × Instr) := [(51, .iload_n 2)]
theorem bX6_comes_51_ok : ∀ q ∈ bX6_comes_51, decode mX6_comes.2.1 q.1 = .ok (q.2, aLn q.2) := by decide +kernel
theorem dX6_comes_1 : decode mX6_comes.2.1 1 = .ok (.invokestatic 132, 3) := by decide +kernel
theorem dX6_comes_4 : decode mX6_comes.2.1 4 = .ok (.ifCond .eq 10, 3) := by decide +kernel
theorem dX6_comes_8 : decode mX6_comes.2.1 8 = .ok (.invokestatic 135, 3) := by decide +kernel
theorem dX6_comes_11 : decode mX6_comes.2.1 11 = .ok (.ifCond .ne 5, 3) := by decide +kernel
theorem dX6_comes_15 : decode mX6_comes.2.1 15 = .ok (.ireturn, 1) := by decide +kernel
theorem dX6_comes_21 : decode mX6_comes.2.1 21 = .ok (.invokevirtual 138, 3) := by decide +kernel
theorem dX6_comes_26 : decode mX6_comes.2.1 26 = .ok (.ifCond .eq 5, 3) := by decide +kernel
theorem dX6_comes_30 : decode mX6_comes.2.1 30 = .ok (.ireturn, 1) := by decide +kernel
theorem dX6_comes_40 : decode mX6_comes.2.1 40 = .ok (.invokevirtual 141, 3) := by decide +kernel
theorem dX6_comes_48 : decode mX6_comes.2.1 48 = .ok (.invokevirtual 144, 3) := by decide +kernel
theorem dX6_comes_52 : decode mX6_comes.2.1 52 = .ok (.invokevirtual 147, 3) := by decide +kernel
theorem dX6_comes_55 : decode mX6_comes.2.1 55 = .ok (.ireturn, 1) := by decide +kernel
def bX6_holds_0 : List (Nat × Instr) := [(0, .iload_n 1)]
theorem bX6_holds_0_ok : ∀ q ∈ bX6_holds_0, decode mX6_holds.2.1 q.1 = .ok (q.2, aLn q.2) := by decide +kernel
def bX6_holds_7 : List (Nat × Instr) := [(7, .aload_n 0), (8, .getfield 10), (11, .iload_n 2)]
theorem bX6_holds_7_ok : ∀ q ∈ bX6_holds_7, decode mX6_holds.2.1 q.1 = .ok (q.2, aLn q.2) := by decide +kernel
def bX6_holds_18 : List (Nat × Instr) := [(18, .iconst (-1))]
theorem bX6_holds_18_ok : ∀ q ∈ bX6_holds_18, decode mX6_holds.2.1 q.1 = .ok (q.2, aLn q.2) := by decide +kernel
def bX6_holds_20 : List (Nat × Instr) := [(20, .aload_n 0), (21, .getfield 10), (24, .getfield 115), (27, .iload_n 1), (28, .iaload), (29, .istore_n 3), (30, .aload_n 0), (31, .getfield 10), (34, .iload_n 1), (35, .iload_n 2)]
theorem bX6_holds_20_ok : ∀ q ∈ bX6_holds_20, decode mX6_holds.2.1 q.1 = .ok (q.2, aLn q.2) := by decide +kernel
def bX6_holds_39 : List (Nat × Instr) := [(39, .iload_n 3)]
theorem bX6_holds_39_ok : ∀ q ∈ bX6_holds_39, decode mX6_holds.2.1 q.1 = .ok (q.2, aLn q.2) := by decide +kernel
theorem dX6_holds_1 : decode mX6_holds.2.1 1 = .ok (.invokestatic 109, 3) := by decide +kernel
theorem dX6_holds_4 : decode mX6_holds.2.1 4 = .ok (.ifCond .eq 14, 3) := by decide +kernel
theorem dX6_holds_12 : decode mX6_holds.2.1 12 = .ok (.invokevirtual 76, 3) := by decide +kernel
theorem dX6_holds_15 : decode mX6_holds.2.1 15 = .ok (.ifCond .ne 5, 3) := by decide +kernel
theorem dX6_holds_19 : decode mX6_holds.2.1 19 = .ok (.ireturn, 1) := by decide +kernel
theorem dX6_holds_36 : decode mX6_holds.2.1 36 = .ok (.invokevirtual 151, 3) := by decide +kernel
theorem dX6_holds_40 : decode mX6_holds.2.1 40 = .ok (.invokestatic 94, 3) := by decide +kernel
theorem dX6_holds_43 : decode mX6_holds.2.1 43 = .ok (.ireturn, 1) := by decide +kernel
def bX6_empties_0 : List (Nat × Instr) := [(0, .iload_n 1)]
theorem bX6_empties_0_ok : ∀ q ∈ bX6_empties_0, decode mX6_empties.2.1 q.1 = .ok (q.2, aLn q.2) := by decide +kernel
def bX6_empties_7 : List (Nat × Instr) := [(7, .iconst (-1))]
theorem bX6_empties_7_ok : ∀ q ∈ bX6_empties_7, decode mX6_empties.2.1 q.1 = .ok (q.2, aLn q.2) := by decide +kernel
def bX6_empties_9 : List (Nat × Instr) := [(9, .aload_n 0), (10, .getfield 10), (13, .getfield 115), (16, .iload_n 1), (17, .iaload), (18, .istore_n 2), (19, .iload_n 2), (20, .iconst (-1))]
theorem bX6_empties_9_ok : ∀ q ∈ bX6_empties_9, decode mX6_empties.2.1 q.1 = .ok (q.2, aLn q.2) := by decide +kernel
def bX6_empties_24 : List (Nat × Instr) := [(24, .bipush (-3))]
theorem bX6_empties_24_ok : ∀ q ∈ bX6_empties_24, decode mX6_empties.2.1 q.1 = .ok (q.2, aLn q.2) := by decide +kernel
def bX6_empties_27 : List (Nat × Instr) := [(27, .aload_n 0), (28, .getfield 10), (31, .iload_n 1)]
theorem bX6_empties_27_ok : ∀ q ∈ bX6_empties_27, decode mX6_empties.2.1 q.1 = .ok (q.2, aLn q.2) := by decide +kernel
def bX6_empties_35 : List (Nat × Instr) := [(35, .iload_n 2)]
theorem bX6_empties_35_ok : ∀ q ∈ bX6_empties_35, decode mX6_empties.2.1 q.1 = .ok (q.2, aLn q.2) := by decide +kernel
theorem dX6_empties_1 : decode mX6_empties.2.1 1 = .ok (.invokestatic 109, 3) := by decide +kernel
theorem dX6_empties_4 : decode mX6_empties.2.1 4 = .ok (.ifCond .ne 5, 3) := by decide +kernel
theorem dX6_empties_8 : decode mX6_empties.2.1 8 = .ok (.ireturn, 1) := by decide +kernel
theorem dX6_empties_21 : decode mX6_empties.2.1 21 = .ok (.if_icmp .ne 6, 3) := by decide +kernel
theorem dX6_empties_26 : decode mX6_empties.2.1 26 = .ok (.ireturn, 1) := by decide +kernel
theorem dX6_empties_32 : decode mX6_empties.2.1 32 = .ok (.invokevirtual 155, 3) := by decide +kernel
theorem dX6_empties_36 : decode mX6_empties.2.1 36 = .ok (.ireturn, 1) := by decide +kernel
def bX6_wears_0 : List (Nat × Instr) := [(0, .iload_n 1)]
theorem bX6_wears_0_ok : ∀ q ∈ bX6_wears_0, decode mX6_wears.2.1 q.1 = .ok (q.2, aLn q.2) := by decide +kernel
def bX6_wears_7 : List (Nat × Instr) := [(7, .iload_n 2)]
theorem bX6_wears_7_ok : ∀ q ∈ bX6_wears_7, decode mX6_wears.2.1 q.1 = .ok (q.2, aLn q.2) := by decide +kernel
def bX6_wears_14 : List (Nat × Instr) := [(14, .iconst (-1))]
theorem bX6_wears_14_ok : ∀ q ∈ bX6_wears_14, decode mX6_wears.2.1 q.1 = .ok (q.2, aLn q.2) := by decide +kernel
def bX6_wears_16 : List (Nat × Instr) := [(16, .aload_n 0), (17, .getfield 10), (20, .getfield 112), (23, .iload_n 1), (24, .iaload), (25, .istore_n 3), (26, .aload_n 0), (27, .getfield 10), (30, .getfield 112), (33, .iload_n 1), (34, .iload_n 2), (35, .iastore), (36, .iload_n 3)]
theorem bX6_wears_16_ok : ∀ q ∈ bX6_wears_16, decode mX6_wears.2.1 q.1 = .ok (q.2, aLn q.2) := by decide +kernel
theorem dX6_wears_1 : decode mX6_wears.2.1 1 = .ok (.invokestatic 109, 3) := by decide +kernel
theorem dX6_wears_4 : decode mX6_wears.2.1 4 = .ok (.ifCond .eq 10, 3) := by decide +kernel
theorem dX6_wears_8 : decode mX6_wears.2.1 8 = .ok (.invokestatic 121, 3) := by decide +kernel
theorem dX6_wears_11 : decode mX6_wears.2.1 11 = .ok (.ifCond .ne 5, 3) := by decide +kernel
theorem dX6_wears_15 : decode mX6_wears.2.1 15 = .ok (.ireturn, 1) := by decide +kernel
theorem dX6_wears_37 : decode mX6_wears.2.1 37 = .ok (.ireturn, 1) := by decide +kernel
def bX6_knows_0 : List (Nat × Instr) := [(0, .aload_n 0), (1, .getfield 10), (4, .iload_n 1)]
theorem bX6_knows_0_ok : ∀ q ∈ bX6_knows_0, decode mX6_knows.2.1 q.1 = .ok (q.2, aLn q.2) := by decide +kernel
def bX6_knows_11 : List (Nat × Instr) := [(11, .iload_n 2)]
theorem bX6_knows_11_ok : ∀ q ∈ bX6_knows_11, decode mX6_knows.2.1 q.1 = .ok (q.2, aLn q.2) := by decide +kernel
def bX6_knows_15 : List (Nat × Instr) := [(15, .iload_n 2), (16, .bipush 99)]
theorem bX6_knows_15_ok : ∀ q ∈ bX6_knows_15, decode mX6_knows.2.1 q.1 = .ok (q.2, aLn q.2) := by decide +kernel
def bX6_knows_21 : List (Nat × Instr) := [(21, .iconst (-1))]
theorem bX6_knows_21_ok : ∀ q ∈ bX6_knows_21, decode mX6_knows.2.1 q.1 = .ok (q.2, aLn q.2) := by decide +kernel
def bX6_knows_23 : List (Nat × Instr) := [(23, .aload_n 0), (24, .getfield 10), (27, .getfield 85), (30, .iload_n 1), (31, .iaload), (32, .istore_n 3), (33, .aload_n 0), (34, .getfield 10), (37, .getfield 85), (40, .iload_n 1), (41, .iload_n 2), (42, .iastore), (43, .iload_n 3)]
theorem bX6_knows_23_ok : ∀ q ∈ bX6_knows_23, decode mX6_knows.2.1 q.1 = .ok (q.2, aLn q.2) := by decide +kernel
theorem dX6_knows_5 : decode mX6_knows.2.1 5 = .ok (.invokevirtual 76, 3) := by decide +kernel
theorem dX6_knows_8 : decode mX6_knows.2.1 8 = .ok (.ifCond .eq 13, 3) := by decide +kernel
theorem dX6_knows_12 : decode mX6_knows.2.1 12 = .ok (.ifCond .lt 9, 3) := by decide +kernel
theorem dX6_knows_18 : decode mX6_knows.2.1 18 = .ok (.if_icmp .le 5, 3) := by decide +kernel
theorem dX6_knows_22 : decode mX6_knows.2.1 22 = .ok (.ireturn, 1) := by decide +kernel
theorem dX6_knows_44 : decode mX6_knows.2.1 44 = .ok (.ireturn, 1) := by decide +kernel
def bX6_marries_0 : List (Nat × Instr) := [(0, .aload_n 0), (1, .getfield 10), (4, .iload_n 1)]
theorem bX6_marries_0_ok : ∀ q ∈ bX6_marries_0, decode mX6_marries.2.1 q.1 = .ok (q.2, aLn q.2) := by decide +kernel
def bX6_marries_11 : List (Nat × Instr) := [(11, .iload_n 2)]
theorem bX6_marries_11_ok : ∀ q ∈ bX6_marries_11, decode mX6_marries.2.1 q.1 = .ok (q.2, aLn q.2) := by decide +kernel
def bX6_marries_18 : List (Nat × Instr) := [(18, .iconst (-1))]
theorem bX6_marries_18_ok : ∀ q ∈ bX6_marries_18, decode mX6_marries.2.1 q.1 = .ok (q.2, aLn q.2) := by decide +kernel
def bX6_marries_20 : List (Nat × Instr) := [(20, .aload_n 0), (21, .getfield 10), (24, .getfield 88), (27, .iload_n 1), (28, .iaload), (29, .istore_n 3), (30, .aload_n 0), (31, .getfield 10), (34, .getfield 88), (37, .iload_n 1), (38, .iload_n 2), (39, .iastore), (40, .iload_n 3)]
theorem bX6_marries_20_ok : ∀ q ∈ bX6_marries_20, decode mX6_marries.2.1 q.1 = .ok (q.2, aLn q.2) := by decide +kernel
theorem dX6_marries_5 : decode mX6_marries.2.1 5 = .ok (.invokevirtual 76, 3) := by decide +kernel
theorem dX6_marries_8 : decode mX6_marries.2.1 8 = .ok (.ifCond .eq 10, 3) := by decide +kernel
theorem dX6_marries_12 : decode mX6_marries.2.1 12 = .ok (.invokestatic 135, 3) := by decide +kernel
theorem dX6_marries_15 : decode mX6_marries.2.1 15 = .ok (.ifCond .ne 5, 3) := by decide +kernel
theorem dX6_marries_19 : decode mX6_marries.2.1 19 = .ok (.ireturn, 1) := by decide +kernel
theorem dX6_marries_41 : decode mX6_marries.2.1 41 = .ok (.ireturn, 1) := by decide +kernel
def bX6_days_0 : List (Nat × Instr) := [(0, .iload_n 1), (1, .iconst 1)]
theorem bX6_days_0_ok : ∀ q ∈ bX6_days_0, decode mX6_days.2.1 q.1 = .ok (q.2, aLn q.2) := by decide +kernel
def bX6_days_5 : List (Nat × Instr) := [(5, .iload_n 1), (6, .bipush 60)]
theorem bX6_days_5_ok : ∀ q ∈ bX6_days_5, decode mX6_days.2.1 q.1 = .ok (q.2, aLn q.2) := by decide +kernel
def bX6_days_11 : List (Nat × Instr) := [(11, .iconst (-1))]
theorem bX6_days_11_ok : ∀ q ∈ bX6_days_11, decode mX6_days.2.1 q.1 = .ok (q.2, aLn q.2) := by decide +kernel
def bX6_days_13 : List (Nat × Instr) := [(13, .aload_n 0), (14, .getfield 10), (17, .getfield 124), (20, .iload_n 1), (21, .iadd), (22, .sipush 999)]
theorem bX6_days_13_ok : ∀ q ∈ bX6_days_13, decode mX6_days.2.1 q.1 = .ok (q.2, aLn q.2) := by decide +kernel
def bX6_days_28 : List (Nat × Instr) := [(28, .bipush (-3))]
theorem bX6_days_28_ok : ∀ q ∈ bX6_days_28, decode mX6_days.2.1 q.1 = .ok (q.2, aLn q.2) := by decide +kernel
def bX6_days_31 : List (Nat × Instr) := [(31, .aload_n 0), (32, .getfield 10), (35, .iload_n 1)]
theorem bX6_days_31_ok : ∀ q ∈ bX6_days_31, decode mX6_days.2.1 q.1 = .ok (q.2, aLn q.2) := by decide +kernel
def bX6_days_39 : List (Nat × Instr) := [(39, .aload_n 0), (40, .getfield 10), (43, .getfield 162)]
theorem bX6_days_39_ok : ∀ q ∈ bX6_days_39, decode mX6_days.2.1 q.1 = .ok (q.2, aLn q.2) := by decide +kernel
theorem dX6_days_2 : decode mX6_days.2.1 2 = .ok (.if_icmp .lt 9, 3) := by decide +kernel
theorem dX6_days_8 : decode mX6_days.2.1 8 = .ok (.if_icmp .le 5, 3) := by decide +kernel
theorem dX6_days_12 : decode mX6_days.2.1 12 = .ok (.ireturn, 1) := by decide +kernel
theorem dX6_days_25 : decode mX6_days.2.1 25 = .ok (.if_icmp .le 6, 3) := by decide +kernel
theorem dX6_days_30 : decode mX6_days.2.1 30 = .ok (.ireturn, 1) := by decide +kernel
theorem dX6_days_36 : decode mX6_days.2.1 36 = .ok (.invokevirtual 159, 3) := by decide +kernel
theorem dX6_days_46 : decode mX6_days.2.1 46 = .ok (.ireturn, 1) := by decide +kernel
def bX6_heldThen_0 : List (Nat × Instr) := [(0, .iload_n 1)]
theorem bX6_heldThen_0_ok : ∀ q ∈ bX6_heldThen_0, decode mX6_heldThen.2.1 q.1 = .ok (q.2, aLn q.2) := by decide +kernel
def bX6_heldThen_7 : List (Nat × Instr) := [(7, .iload_n 2)]
theorem bX6_heldThen_7_ok : ∀ q ∈ bX6_heldThen_7, decode mX6_heldThen.2.1 q.1 = .ok (q.2, aLn q.2) := by decide +kernel
def bX6_heldThen_14 : List (Nat × Instr) := [(14, .iconst (-1))]
theorem bX6_heldThen_14_ok : ∀ q ∈ bX6_heldThen_14, decode mX6_heldThen.2.1 q.1 = .ok (q.2, aLn q.2) := by decide +kernel
def bX6_heldThen_16 : List (Nat × Instr) := [(16, .aload_n 0), (17, .iload_n 2)]
theorem bX6_heldThen_16_ok : ∀ q ∈ bX6_heldThen_16, decode mX6_heldThen.2.1 q.1 = .ok (q.2, aLn q.2) := by decide +kernel
def bX6_heldThen_21 : List (Nat × Instr) := [(21, .aload_n 0), (22, .getfield 16), (25, .getfield 115), (28, .iload_n 1), (29, .iaload)]
theorem bX6_heldThen_21_ok : ∀ q ∈ bX6_heldThen_21, decode mX6_heldThen.2.1 q.1 = .ok (q.2, aLn q.2) := by decide +kernel
theorem dX6_heldThen_1 : decode mX6_heldThen.2.1 1 = .ok (.invokestatic 109, 3) := by decide +kernel
theorem dX6_heldThen_4 : decode mX6_heldThen.2.1 4 = .ok (.ifCond .eq 10, 3) := by decide +kernel
theorem dX6_heldThen_8 : decode mX6_heldThen.2.1 8 = .ok (.invokestatic 165, 3) := by decide +kernel
theorem dX6_heldThen_11 : decode mX6_heldThen.2.1 11 = .ok (.ifCond .ne 5, 3) := by decide +kernel
theorem dX6_heldThen_15 : decode mX6_heldThen.2.1 15 = .ok (.ireturn, 1) := by decide +kernel
theorem dX6_heldThen_18 : decode mX6_heldThen.2.1 18 = .ok (.invokevirtual 168, 3) := by decide +kernel
theorem dX6_heldThen_30 : decode mX6_heldThen.2.1 30 = .ok (.invokestatic 94, 3) := by decide +kernel
theorem dX6_heldThen_33 : decode mX6_heldThen.2.1 33 = .ok (.ireturn, 1) := by decide +kernel
def bX6_knownThen_0 : List (Nat × Instr) := [(0, .aload_n 0), (1, .getfield 10), (4, .iload_n 1)]
theorem bX6_knownThen_0_ok : ∀ q ∈ bX6_knownThen_0, decode mX6_knownThen.2.1 q.1 = .ok (q.2, aLn q.2) := by decide +kernel
def bX6_knownThen_11 : List (Nat × Instr) := [(11, .iload_n 2)]
theorem bX6_knownThen_11_ok : ∀ q ∈ bX6_knownThen_11, decode mX6_knownThen.2.1 q.1 = .ok (q.2, aLn q.2) := by decide +kernel
def bX6_knownThen_18 : List (Nat × Instr) := [(18, .iconst (-1))]
theorem bX6_knownThen_18_ok : ∀ q ∈ bX6_knownThen_18, decode mX6_knownThen.2.1 q.1 = .ok (q.2, aLn q.2) := by decide +kernel
def bX6_knownThen_20 : List (Nat × Instr) := [(20, .aload_n 0), (21, .iload_n 2)]
theorem bX6_knownThen_20_ok : ∀ q ∈ bX6_knownThen_20, decode mX6_knownThen.2.1 q.1 = .ok (q.2, aLn q.2) := by decide +kernel
def bX6_knownThen_25 : List (Nat × Instr) := [(25, .aload_n 0), (26, .getfield 16), (29, .getfield 85), (32, .iload_n 1), (33, .iaload)]
theorem bX6_knownThen_25_ok : ∀ q ∈ bX6_knownThen_25, decode mX6_knownThen.2.1 q.1 = .ok (q.2, aLn q.2) := by decide +kernel
theorem dX6_knownThen_5 : decode mX6_knownThen.2.1 5 = .ok (.invokevirtual 76, 3) := by decide +kernel
theorem dX6_knownThen_8 : decode mX6_knownThen.2.1 8 = .ok (.ifCond .eq 10, 3) := by decide +kernel
theorem dX6_knownThen_12 : decode mX6_knownThen.2.1 12 = .ok (.invokestatic 165, 3) := by decide +kernel
theorem dX6_knownThen_15 : decode mX6_knownThen.2.1 15 = .ok (.ifCond .ne 5, 3) := by decide +kernel
theorem dX6_knownThen_19 : decode mX6_knownThen.2.1 19 = .ok (.ireturn, 1) := by decide +kernel
theorem dX6_knownThen_22 : decode mX6_knownThen.2.1 22 = .ok (.invokevirtual 168, 3) := by decide +kernel
theorem dX6_knownThen_34 : decode mX6_knownThen.2.1 34 = .ok (.ireturn, 1) := by decide +kernel
def bX6_then_0 : List (Nat × Instr) := [(0, .iload_n 1)]
theorem bX6_then_0_ok : ∀ q ∈ bX6_then_0, decode mX6_then.2.1 q.1 = .ok (q.2, aLn q.2) := by decide +kernel
def bX6_then_7 : List (Nat × Instr) := [(7, .iload_n 2)]
theorem bX6_then_7_ok : ∀ q ∈ bX6_then_7, decode mX6_then.2.1 q.1 = .ok (q.2, aLn q.2) := by decide +kernel
def bX6_then_14 : List (Nat × Instr) := [(14, .iconst (-1))]
theorem bX6_then_14_ok : ∀ q ∈ bX6_then_14, decode mX6_then.2.1 q.1 = .ok (q.2, aLn q.2) := by decide +kernel
def bX6_then_16 : List (Nat × Instr) := [(16, .aload_n 0), (17, .iload_n 1)]
theorem bX6_then_16_ok : ∀ q ∈ bX6_then_16, decode mX6_then.2.1 q.1 = .ok (q.2, aLn q.2) := by decide +kernel
def bX6_then_21 : List (Nat × Instr) := [(21, .iload_n 2)]
theorem bX6_then_21_ok : ∀ q ∈ bX6_then_21, decode mX6_then.2.1 q.1 = .ok (q.2, aLn q.2) := by decide +kernel
def bX6_then_25 : List (Nat × Instr) := [(25, .aload_n 0), (26, .getfield 16)]
theorem bX6_then_25_ok : ∀ q ∈ bX6_then_25, decode mX6_then.2.1 q.1 = .ok (q.2, aLn q.2) := by decide +kernel
def bX6_then_32 : List (Nat × Instr) := [(32, .goto 10)]
theorem bX6_then_32_ok : ∀ q ∈ bX6_then_32, decode mX6_then.2.1 q.1 = .ok (q.2, aLn q.2) := by decide +kernel
def bX6_then_35 : List (Nat × Instr) := [(35, .aload_n 0), (36, .getfield 16), (39, .getfield 162)]
theorem bX6_then_35_ok : ∀ q ∈ bX6_then_35, decode mX6_then.2.1 q.1 = .ok (q.2, aLn q.2) := by decide +kernel
theorem dX6_then_1 : decode mX6_then.2.1 1 = .ok (.invokestatic 165, 3) := by decide +kernel
theorem dX6_then_4 : decode mX6_then.2.1 4 = .ok (.ifCond .eq 10, 3) := by decide +kernel
theorem dX6_then_8 : decode mX6_then.2.1 8 = .ok (.invokestatic 171, 3) := by decide +kernel
theorem dX6_then_11 : decode mX6_then.2.1 11 = .ok (.ifCond .ne 5, 3) := by decide +kernel
theorem dX6_then_15 : decode mX6_then.2.1 15 = .ok (.ireturn, 1) := by decide +kernel
theorem dX6_then_18 : decode mX6_then.2.1 18 = .ok (.invokevirtual 168, 3) := by decide +kernel
theorem dX6_then_22 : decode mX6_then.2.1 22 = .ok (.ifCond .ne 13, 3) := by decide +kernel
theorem dX6_then_29 : decode mX6_then.2.1 29 = .ok (.invokevirtual 174, 3) := by decide +kernel
theorem dX6_then_42 : decode mX6_then.2.1 42 = .ok (.ireturn, 1) := by decide +kernel
def bX6_falls_0 : List (Nat × Instr) := [(0, .aload_n 0), (1, .getfield 10), (4, .iload_n 1)]
theorem bX6_falls_0_ok : ∀ q ∈ bX6_falls_0, decode mX6_falls.2.1 q.1 = .ok (q.2, aLn q.2) := by decide +kernel
def bX6_falls_11 : List (Nat × Instr) := [(11, .iconst (-1))]
theorem bX6_falls_11_ok : ∀ q ∈ bX6_falls_11, decode mX6_falls.2.1 q.1 = .ok (q.2, aLn q.2) := by decide +kernel
def bX6_falls_13 : List (Nat × Instr) := [(13, .aload_n 0), (14, .getfield 10), (17, .getfield 91), (20, .iload_n 1), (21, .iaload), (22, .istore_n 2), (23, .iload_n 2), (24, .iconst (-1))]
theorem bX6_falls_13_ok : ∀ q ∈ bX6_falls_13, decode mX6_falls.2.1 q.1 = .ok (q.2, aLn q.2) := by decide +kernel
def bX6_falls_28 : List (Nat × Instr) := [(28, .bipush (-4))]
theorem bX6_falls_28_ok : ∀ q ∈ bX6_falls_28, decode mX6_falls.2.1 q.1 = .ok (q.2, aLn q.2) := by decide +kernel
def bX6_falls_31 : List (Nat × Instr) := [(31, .aload_n 0), (32, .getfield 16), (35, .aload_n 0), (36, .getfield 10)]
theorem bX6_falls_31_ok : ∀ q ∈ bX6_falls_31, decode mX6_falls.2.1 q.1 = .ok (q.2, aLn q.2) := by decide +kernel
def bX6_falls_42 : List (Nat × Instr) := [(42, .iconst 1), (43, .istore_n 3)]
theorem bX6_falls_42_ok : ∀ q ∈ bX6_falls_42, decode mX6_falls.2.1 q.1 = .ok (q.2, aLn q.2) := by decide +kernel
def bX6_falls_44 : List (Nat × Instr) := [(44, .iload_n 3), (45, .bipush 60)]
theorem bX6_falls_44_ok : ∀ q ∈ bX6_falls_44, decode mX6_falls.2.1 q.1 = .ok (q.2, aLn q.2) := by decide +kernel
def bX6_falls_50 : List (Nat × Instr) := [(50, .aload_n 0), (51, .getfield 16)]
theorem bX6_falls_50_ok : ∀ q ∈ bX6_falls_50, decode mX6_falls.2.1 q.1 = .ok (q.2, aLn q.2) := by decide +kernel
def bX6_falls_57 : List (Nat × Instr) := [(57, .aload_n 0), (58, .getfield 16), (61, .getfield 115), (64, .iload_n 2), (65, .iaload), (66, .iload_n 1)]
theorem bX6_falls_57_ok : ∀ q ∈ bX6_falls_57, decode mX6_falls.2.1 q.1 = .ok (q.2, aLn q.2) := by decide +kernel
def bX6_falls_70 : List (Nat × Instr) := [(70, .iload_n 3)]
theorem bX6_falls_70_ok : ∀ q ∈ bX6_falls_70, decode mX6_falls.2.1 q.1 = .ok (q.2, aLn q.2) := by decide +kernel
def bX6_falls_72 : List (Nat × Instr) := [(72, .iinc 3 1), (75, .goto (-31))]
theorem bX6_falls_72_ok : ∀ q ∈ bX6_falls_72, decode mX6_falls.2.1 q.1 = .ok (q.2, aLn q.2) := by decide +kernel
def bX6_falls_78 : List (Nat × Instr) := [(78, .bipush (-4))]
theorem bX6_falls_78_ok : ∀ q ∈ bX6_falls_78, decode mX6_falls.2.1 q.1 = .ok (q.2, aLn q.2) := by decide +kernel
theorem dX6_falls_5 : decode mX6_falls.2.1 5 = .ok (.invokevirtual 76, 3) := by decide +kernel
theorem dX6_falls_8 : decode mX6_falls.2.1 8 = .ok (.ifCond .ne 5, 3) := by decide +kernel
theorem dX6_falls_12 : decode mX6_falls.2.1 12 = .ok (.ireturn, 1) := by decide +kernel
theorem dX6_falls_25 : decode mX6_falls.2.1 25 = .ok (.if_icmp .ne 6, 3) := by decide +kernel
theorem dX6_falls_30 : decode mX6_falls.2.1 30 = .ok (.ireturn, 1) := by decide +kernel
theorem dX6_falls_39 : decode mX6_falls.2.1 39 = .ok (.invokevirtual 68, 3) := by decide +kernel
theorem dX6_falls_47 : decode mX6_falls.2.1 47 = .ok (.if_icmp .gt 31, 3) := by decide +kernel
theorem dX6_falls_54 : decode mX6_falls.2.1 54 = .ok (.invokevirtual 178, 3) := by decide +kernel
theorem dX6_falls_67 : decode mX6_falls.2.1 67 = .ok (.if_icmp .eq 5, 3) := by decide +kernel
theorem dX6_falls_71 : decode mX6_falls.2.1 71 = .ok (.ireturn, 1) := by decide +kernel
theorem dX6_falls_80 : decode mX6_falls.2.1 80 = .ok (.ireturn, 1) := by decide +kernel
def bX6_empty_0 : List (Nat × Instr) := [(0, .iload_n 1)]
theorem bX6_empty_0_ok : ∀ q ∈ bX6_empty_0, decode mX6_empty.2.1 q.1 = .ok (q.2, aLn q.2) := by decide +kernel
def bX6_empty_7 : List (Nat × Instr) := [(7, .iconst (-1))]
theorem bX6_empty_7_ok : ∀ q ∈ bX6_empty_7, decode mX6_empty.2.1 q.1 = .ok (q.2, aLn q.2) := by decide +kernel
def bX6_empty_9 : List (Nat × Instr) := [(9, .aload_n 0), (10, .getfield 16), (13, .aload_n 0), (14, .getfield 10)]
theorem bX6_empty_9_ok : ∀ q ∈ bX6_empty_9, decode mX6_empty.2.1 q.1 = .ok (q.2, aLn q.2) := by decide +kernel
def bX6_empty_20 : List (Nat × Instr) := [(20, .iconst 0), (21, .istore_n 2)]
theorem bX6_empty_20_ok : ∀ q ∈ bX6_empty_20, decode mX6_empty.2.1 q.1 = .ok (q.2, aLn q.2) := by decide +kernel
def bX6_empty_22 : List (Nat × Instr) := [(22, .iload_n 2), (23, .bipush 60)]
theorem bX6_empty_22_ok : ∀ q ∈ bX6_empty_22, decode mX6_empty.2.1 q.1 = .ok (q.2, aLn q.2) := by decide +kernel
def bX6_empty_28 : List (Nat × Instr) := [(28, .aload_n 0), (29, .getfield 16), (32, .getfield 115), (35, .iload_n 1), (36, .iaload), (37, .iconst (-1))]
theorem bX6_empty_28_ok : ∀ q ∈ bX6_empty_28, decode mX6_empty.2.1 q.1 = .ok (q.2, aLn q.2) := by decide +kernel
def bX6_empty_41 : List (Nat × Instr) := [(41, .iload_n 2)]
theorem bX6_empty_41_ok : ∀ q ∈ bX6_empty_41, decode mX6_empty.2.1 q.1 = .ok (q.2, aLn q.2) := by decide +kernel
def bX6_empty_43 : List (Nat × Instr) := [(43, .aload_n 0), (44, .getfield 16)]
theorem bX6_empty_43_ok : ∀ q ∈ bX6_empty_43, decode mX6_empty.2.1 q.1 = .ok (q.2, aLn q.2) := by decide +kernel
def bX6_empty_50 : List (Nat × Instr) := [(50, .iinc 2 1), (53, .goto (-31))]
theorem bX6_empty_50_ok : ∀ q ∈ bX6_empty_50, decode mX6_empty.2.1 q.1 = .ok (q.2, aLn q.2) := by decide +kernel
def bX6_empty_56 : List (Nat × Instr) := [(56, .bipush (-4))]
theorem bX6_empty_56_ok : ∀ q ∈ bX6_empty_56, decode mX6_empty.2.1 q.1 = .ok (q.2, aLn q.2) := by decide +kernel
theorem dX6_empty_1 : decode mX6_empty.2.1 1 = .ok (.invokestatic 109, 3) := by decide +kernel
theorem dX6_empty_4 : decode mX6_empty.2.1 4 = .ok (.ifCond .ne 5, 3) := by decide +kernel
theorem dX6_empty_8 : decode mX6_empty.2.1 8 = .ok (.ireturn, 1) := by decide +kernel
theorem dX6_empty_17 : decode mX6_empty.2.1 17 = .ok (.invokevirtual 68, 3) := by decide +kernel
theorem dX6_empty_25 : decode mX6_empty.2.1 25 = .ok (.if_icmp .gt 31, 3) := by decide +kernel
theorem dX6_empty_38 : decode mX6_empty.2.1 38 = .ok (.if_icmp .ne 5, 3) := by decide +kernel
theorem dX6_empty_42 : decode mX6_empty.2.1 42 = .ok (.ireturn, 1) := by decide +kernel
theorem dX6_empty_47 : decode mX6_empty.2.1 47 = .ok (.invokevirtual 178, 3) := by decide +kernel
theorem dX6_empty_58 : decode mX6_empty.2.1 58 = .ok (.ireturn, 1) := by decide +kernel
def bX6_lasts_0 : List (Nat × Instr) := [(0, .iload_n 1)]
theorem bX6_lasts_0_ok : ∀ q ∈ bX6_lasts_0, decode mX6_lasts.2.1 q.1 = .ok (q.2, aLn q.2) := by decide +kernel
def bX6_lasts_7 : List (Nat × Instr) := [(7, .aload_n 0), (8, .getfield 10), (11, .iload_n 2)]
theorem bX6_lasts_7_ok : ∀ q ∈ bX6_lasts_7, decode mX6_lasts.2.1 q.1 = .ok (q.2, aLn q.2) := by decide +kernel
def bX6_lasts_18 : List (Nat × Instr) := [(18, .iconst (-1))]
theorem bX6_lasts_18_ok : ∀ q ∈ bX6_lasts_18, decode mX6_lasts.2.1 q.1 = .ok (q.2, aLn q.2) := by decide +kernel
def bX6_lasts_20 : List (Nat × Instr) := [(20, .aload_n 0), (21, .getfield 10), (24, .iload_n 1), (25, .iload_n 2)]
theorem bX6_lasts_20_ok : ∀ q ∈ bX6_lasts_20, decode mX6_lasts.2.1 q.1 = .ok (q.2, aLn q.2) := by decide +kernel
theorem dX6_lasts_1 : decode mX6_lasts.2.1 1 = .ok (.invokestatic 109, 3) := by decide +kernel
theorem dX6_lasts_4 : decode mX6_lasts.2.1 4 = .ok (.ifCond .eq 14, 3) := by decide +kernel
theorem dX6_lasts_12 : decode mX6_lasts.2.1 12 = .ok (.invokevirtual 76, 3) := by decide +kernel
theorem dX6_lasts_15 : decode mX6_lasts.2.1 15 = .ok (.ifCond .ne 5, 3) := by decide +kernel
theorem dX6_lasts_19 : decode mX6_lasts.2.1 19 = .ok (.ireturn, 1) := by decide +kernel
theorem dX6_lasts_26 : decode mX6_lasts.2.1 26 = .ok (.invokevirtual 181, 3) := by decide +kernel
theorem dX6_lasts_29 : decode mX6_lasts.2.1 29 = .ok (.ireturn, 1) := by decide +kernel
def bX6_bestCostume_0 : List (Nat × Instr) := [(0, .iload_n 1)]
theorem bX6_bestCostume_0_ok : ∀ q ∈ bX6_bestCostume_0, decode mX6_bestCostume.2.1 q.1 = .ok (q.2, aLn q.2) := by decide +kernel
def bX6_bestCostume_7 : List (Nat × Instr) := [(7, .iload_n 2)]
theorem bX6_bestCostume_7_ok : ∀ q ∈ bX6_bestCostume_7, decode mX6_bestCostume.2.1 q.1 = .ok (q.2, aLn q.2) := by decide +kernel
def bX6_bestCostume_14 : List (Nat × Instr) := [(14, .iload_n 3)]
theorem bX6_bestCostume_14_ok : ∀ q ∈ bX6_bestCostume_14, decode mX6_bestCostume.2.1 q.1 = .ok (q.2, aLn q.2) := by decide +kernel
def bX6_bestCostume_21 : List (Nat × Instr) := [(21, .iconst (-1))]
theorem bX6_bestCostume_21_ok : ∀ q ∈ bX6_bestCostume_21, decode mX6_bestCostume.2.1 q.1 = .ok (q.2, aLn q.2) := by decide +kernel
def bX6_bestCostume_23 : List (Nat × Instr) := [(23, .iconst 0), (24, .istore 4), (26, .aload_n 0), (27, .iload_n 1), (28, .iconst 0), (29, .iload_n 2)]
theorem bX6_bestCostume_23_ok : ∀ q ∈ bX6_bestCostume_23, decode mX6_bestCostume.2.1 q.1 = .ok (q.2, aLn q.2) := by decide +kernel
def bX6_bestCostume_33 : List (Nat × Instr) := [(33, .istore 5), (35, .iconst 1), (36, .istore 6)]
theorem bX6_bestCostume_33_ok : ∀ q ∈ bX6_bestCostume_33, decode mX6_bestCostume.2.1 q.1 = .ok (q.2, aLn q.2) := by decide +kernel
def bX6_bestCostume_38 : List (Nat × Instr) := [(38, .iload 6), (40, .bipush 10)]
theorem bX6_bestCostume_38_ok : ∀ q ∈ bX6_bestCostume_38, decode mX6_bestCostume.2.1 q.1 = .ok (q.2, aLn q.2) := by decide +kernel
def bX6_bestCostume_45 : List (Nat × Instr) := [(45, .aload_n 0), (46, .iload_n 1), (47, .iload 6), (49, .iload_n 2)]
theorem bX6_bestCostume_45_ok : ∀ q ∈ bX6_bestCostume_45, decode mX6_bestCostume.2.1 q.1 = .ok (q.2, aLn q.2) := by decide +kernel
def bX6_bestCostume_53 : List (Nat × Instr) := [(53, .istore 7), (55, .iload 7), (57, .iload 5)]
theorem bX6_bestCostume_53_ok : ∀ q ∈ bX6_bestCostume_53, decode mX6_bestCostume.2.1 q.1 = .ok (q.2, aLn q.2) := by decide +kernel
def bX6_bestCostume_62 : List (Nat × Instr) := [(62, .iload 7), (64, .istore 5), (66, .iload 6), (68, .istore 4)]
theorem bX6_bestCostume_62_ok : ∀ q ∈ bX6_bestCostume_62, decode mX6_bestCostume.2.1 q.1 = .ok (q.2, aLn q.2) := by decide +kernel
def bX6_bestCostume_70 : List (Nat × Instr) := [(70, .iinc 6 1), (73, .goto (-35))]
theorem bX6_bestCostume_70_ok : ∀ q ∈ bX6_bestCostume_70, decode mX6_bestCostume.2.1 q.1 = .ok (q.2, aLn q.2) := by decide +kernel
def bX6_bestCostume_76 : List (Nat × Instr) := [(76, .iload_n 3)]
theorem bX6_bestCostume_76_ok : ∀ q ∈ bX6_bestCostume_76, decode mX6_bestCostume.2.1 q.1 = .ok (q.2, aLn q.2) := by decide +kernel
def bX6_bestCostume_80 : List (Nat × Instr) := [(80, .iload 4), (82, .goto 13)]
theorem bX6_bestCostume_80_ok : ∀ q ∈ bX6_bestCostume_80, decode mX6_bestCostume.2.1 q.1 = .ok (q.2, aLn q.2) := by decide +kernel
def bX6_bestCostume_85 : List (Nat × Instr) := [(85, .iload 5), (87, .aload_n 0), (88, .getfield 10), (91, .getfield 162), (94, .isub)]
theorem bX6_bestCostume_85_ok : ∀ q ∈ bX6_bestCostume_85, decode mX6_bestCostume.2.1 q.1 = .ok (q.2, aLn q.2) := by decide +kernel
theorem dX6_bestCostume_1 : decode mX6_bestCostume.2.1 1 = .ok (.invokestatic 109, 3) := by decide +kernel
theorem dX6_bestCostume_4 : decode mX6_bestCostume.2.1 4 = .ok (.ifCond .eq 17, 3) := by decide +kernel
theorem dX6_bestCostume_8 : decode mX6_bestCostume.2.1 8 = .ok (.invokestatic 165, 3) := by decide +kernel
theorem dX6_bestCostume_11 : decode mX6_bestCostume.2.1 11 = .ok (.ifCond .eq 10, 3) := by decide +kernel
theorem dX6_bestCostume_15 : decode mX6_bestCostume.2.1 15 = .ok (.invokestatic 171, 3) := by decide +kernel
theorem dX6_bestCostume_18 : decode mX6_bestCostume.2.1 18 = .ok (.ifCond .ne 5, 3) := by decide +kernel
theorem dX6_bestCostume_22 : decode mX6_bestCostume.2.1 22 = .ok (.ireturn, 1) := by decide +kernel
theorem dX6_bestCostume_30 : decode mX6_bestCostume.2.1 30 = .ok (.invokevirtual 184, 3) := by decide +kernel
theorem dX6_bestCostume_42 : decode mX6_bestCostume.2.1 42 = .ok (.if_icmp .ge 34, 3) := by decide +kernel
theorem dX6_bestCostume_50 : decode mX6_bestCostume.2.1 50 = .ok (.invokevirtual 184, 3) := by decide +kernel
theorem dX6_bestCostume_59 : decode mX6_bestCostume.2.1 59 = .ok (.if_icmp .ge 11, 3) := by decide +kernel
theorem dX6_bestCostume_77 : decode mX6_bestCostume.2.1 77 = .ok (.ifCond .ne 8, 3) := by decide +kernel
theorem dX6_bestCostume_95 : decode mX6_bestCostume.2.1 95 = .ok (.ireturn, 1) := by decide +kernel
def bX6_casts_0 : List (Nat × Instr) := [(0, .iload_n 1), (1, .iconst (-1))]
theorem bX6_casts_0_ok : ∀ q ∈ bX6_casts_0, decode mX6_casts.2.1 q.1 = .ok (q.2, aLn q.2) := by decide +kernel
def bX6_casts_5 : List (Nat × Instr) := [(5, .iload_n 1)]
theorem bX6_casts_5_ok : ∀ q ∈ bX6_casts_5, decode mX6_casts.2.1 q.1 = .ok (q.2, aLn q.2) := by decide +kernel
def bX6_casts_12 : List (Nat × Instr) := [(12, .iconst (-1))]
theorem bX6_casts_12_ok : ∀ q ∈ bX6_casts_12, decode mX6_casts.2.1 q.1 = .ok (q.2, aLn q.2) := by decide +kernel
def bX6_casts_14 : List (Nat × Instr) := [(14, .aload_n 0), (15, .getfield 36), (18, .aload_n 0), (19, .getfield 10)]
theorem bX6_casts_14_ok : ∀ q ∈ bX6_casts_14, decode mX6_casts.2.1 q.1 = .ok (q.2, aLn q.2) := by decide +kernel
def bX6_casts_25 : List (Nat × Instr) := [(25, .iload_n 1), (26, .iconst (-1))]
theorem bX6_casts_25_ok : ∀ q ∈ bX6_casts_25, decode mX6_casts.2.1 q.1 = .ok (q.2, aLn q.2) := by decide +kernel
def bX6_casts_30 : List (Nat × Instr) := [(30, .aload_n 0), (31, .getfield 36)]
theorem bX6_casts_30_ok : ∀ q ∈ bX6_casts_30, decode mX6_casts.2.1 q.1 = .ok (q.2, aLn q.2) := by decide +kernel
def bX6_casts_37 : List (Nat × Instr) := [(37, .goto 14)]
theorem bX6_casts_37_ok : ∀ q ∈ bX6_casts_37, decode mX6_casts.2.1 q.1 = .ok (q.2, aLn q.2) := by decide +kernel
def bX6_casts_40 : List (Nat × Instr) := [(40, .aload_n 0), (41, .getfield 36), (44, .iload_n 1)]
theorem bX6_casts_40_ok : ∀ q ∈ bX6_casts_40, decode mX6_casts.2.1 q.1 = .ok (q.2, aLn q.2) := by decide +kernel
theorem dX6_casts_2 : decode mX6_casts.2.1 2 = .ok (.if_icmp .eq 12, 3) := by decide +kernel
theorem dX6_casts_6 : decode mX6_casts.2.1 6 = .ok (.invokestatic 109, 3) := by decide +kernel
theorem dX6_casts_9 : decode mX6_casts.2.1 9 = .ok (.ifCond .ne 5, 3) := by decide +kernel
theorem dX6_casts_13 : decode mX6_casts.2.1 13 = .ok (.ireturn, 1) := by decide +kernel
theorem dX6_casts_22 : decode mX6_casts.2.1 22 = .ok (.invokevirtual 187, 3) := by decide +kernel
theorem dX6_casts_27 : decode mX6_casts.2.1 27 = .ok (.if_icmp .ne 13, 3) := by decide +kernel
theorem dX6_casts_34 : decode mX6_casts.2.1 34 = .ok (.invokevirtual 190, 3) := by decide +kernel
theorem dX6_casts_45 : decode mX6_casts.2.1 45 = .ok (.invokevirtual 193, 3) := by decide +kernel
theorem dX6_casts_48 : decode mX6_casts.2.1 48 = .ok (.invokestatic 94, 3) := by decide +kernel
theorem dX6_casts_51 : decode mX6_casts.2.1 51 = .ok (.ireturn, 1) := by decide +kernel
def bX6_send_0 : List (Nat × Instr) := [(0, .iload_n 1)]
theorem bX6_send_0_ok : ∀ q ∈ bX6_send_0, decode mX6_send.2.1 q.1 = .ok (q.2, aLn q.2) := by decide +kernel
def bX6_send_7 : List (Nat × Instr) := [(7, .iconst (-1))]
theorem bX6_send_7_ok : ∀ q ∈ bX6_send_7, decode mX6_send.2.1 q.1 = .ok (q.2, aLn q.2) := by decide +kernel
def bX6_send_9 : List (Nat × Instr) := [(9, .aload_n 0), (10, .iload_n 1)]
theorem bX6_send_9_ok : ∀ q ∈ bX6_send_9, decode mX6_send.2.1 q.1 = .ok (q.2, aLn q.2) := by decide +kernel
def bX6_send_14 : List (Nat × Instr) := [(14, .aload_n 0), (15, .getfield 16), (18, .getfield 162), (21, .istore_n 2), (22, .bipush (-4)), (24, .istore_n 3), (25, .iconst 0), (26, .istore 4)]
theorem bX6_send_14_ok : ∀ q ∈ bX6_send_14, decode mX6_send.2.1 q.1 = .ok (q.2, aLn q.2) := by decide +kernel
def bX6_send_28 : List (Nat × Instr) := [(28, .iload 4), (30, .aload_n 0), (31, .getfield 10), (34, .getfield 196)]
theorem bX6_send_28_ok : ∀ q ∈ bX6_send_28, decode mX6_send.2.1 q.1 = .ok (q.2, aLn q.2) := by decide +kernel
def bX6_send_40 : List (Nat × Instr) := [(40, .aload_n 0), (41, .getfield 10), (44, .getfield 91), (47, .iload 4), (49, .iaload), (50, .istore 5), (52, .iload 5), (54, .iconst (-1))]
theorem bX6_send_40_ok : ∀ q ∈ bX6_send_40, decode mX6_send.2.1 q.1 = .ok (q.2, aLn q.2) := by decide +kernel
def bX6_send_58 : List (Nat × Instr) := [(58, .aload_n 0), (59, .iload 5), (61, .iload_n 1)]
theorem bX6_send_58_ok : ∀ q ∈ bX6_send_58, decode mX6_send.2.1 q.1 = .ok (q.2, aLn q.2) := by decide +kernel
def bX6_send_65 : List (Nat × Instr) := [(65, .istore 6), (67, .iload 6), (69, .iload_n 2)]
theorem bX6_send_65_ok : ∀ q ∈ bX6_send_65, decode mX6_send.2.1 q.1 = .ok (q.2, aLn q.2) := by decide +kernel
def bX6_send_73 : List (Nat × Instr) := [(73, .iload 6), (75, .istore_n 2), (76, .iload 4), (78, .istore_n 3)]
theorem bX6_send_73_ok : ∀ q ∈ bX6_send_73, decode mX6_send.2.1 q.1 = .ok (q.2, aLn q.2) := by decide +kernel
def bX6_send_79 : List (Nat × Instr) := [(79, .iinc 4 1), (82, .goto (-54))]
theorem bX6_send_79_ok : ∀ q ∈ bX6_send_79, decode mX6_send.2.1 q.1 = .ok (q.2, aLn q.2) := by decide +kernel
def bX6_send_85 : List (Nat × Instr) := [(85, .iload_n 3)]
theorem bX6_send_85_ok : ∀ q ∈ bX6_send_85, decode mX6_send.2.1 q.1 = .ok (q.2, aLn q.2) := by decide +kernel
theorem dX6_send_1 : decode mX6_send.2.1 1 = .ok (.invokestatic 165, 3) := by decide +kernel
theorem dX6_send_4 : decode mX6_send.2.1 4 = .ok (.ifCond .ne 5, 3) := by decide +kernel
theorem dX6_send_8 : decode mX6_send.2.1 8 = .ok (.ireturn, 1) := by decide +kernel
theorem dX6_send_11 : decode mX6_send.2.1 11 = .ok (.invokevirtual 168, 3) := by decide +kernel
theorem dX6_send_37 : decode mX6_send.2.1 37 = .ok (.if_icmp .ge 48, 3) := by decide +kernel
theorem dX6_send_55 : decode mX6_send.2.1 55 = .ok (.if_icmp .eq 24, 3) := by decide +kernel
theorem dX6_send_62 : decode mX6_send.2.1 62 = .ok (.invokevirtual 199, 3) := by decide +kernel
theorem dX6_send_70 : decode mX6_send.2.1 70 = .ok (.if_icmp .ge 9, 3) := by decide +kernel
theorem dX6_send_86 : decode mX6_send.2.1 86 = .ok (.ireturn, 1) := by decide +kernel
def bX6_change_0 : List (Nat × Instr) := [(0, .iload_n 1)]
theorem bX6_change_0_ok : ∀ q ∈ bX6_change_0, decode mX6_change.2.1 q.1 = .ok (q.2, aLn q.2) := by decide +kernel
def bX6_change_7 : List (Nat × Instr) := [(7, .iconst (-1))]
theorem bX6_change_7_ok : ∀ q ∈ bX6_change_7, decode mX6_change.2.1 q.1 = .ok (q.2, aLn q.2) := by decide +kernel
def bX6_change_9 : List (Nat × Instr) := [(9, .aload_n 0), (10, .iload_n 1)]
theorem bX6_change_9_ok : ∀ q ∈ bX6_change_9, decode mX6_change.2.1 q.1 = .ok (q.2, aLn q.2) := by decide +kernel
def bX6_change_14 : List (Nat × Instr) := [(14, .aload_n 0), (15, .getfield 16), (18, .getfield 162), (21, .istore_n 2), (22, .bipush (-4)), (24, .istore_n 3), (25, .iconst 0), (26, .istore 4)]
theorem bX6_change_14_ok : ∀ q ∈ bX6_change_14, decode mX6_change.2.1 q.1 = .ok (q.2, aLn q.2) := by decide +kernel
def bX6_change_28 : List (Nat × Instr) := [(28, .iload 4), (30, .iconst 5)]
theorem bX6_change_28_ok : ∀ q ∈ bX6_change_28, decode mX6_change.2.1 q.1 = .ok (q.2, aLn q.2) := by decide +kernel
def bX6_change_34 : List (Nat × Instr) := [(34, .iload 4), (36, .iconst 1), (37, .iadd), (38, .istore 5)]
theorem bX6_change_34_ok : ∀ q ∈ bX6_change_34, decode mX6_change.2.1 q.1 = .ok (q.2, aLn q.2) := by decide +kernel
def bX6_change_40 : List (Nat × Instr) := [(40, .iload 5), (42, .iconst 5)]
theorem bX6_change_40_ok : ∀ q ∈ bX6_change_40, decode mX6_change.2.1 q.1 = .ok (q.2, aLn q.2) := by decide +kernel
def bX6_change_46 : List (Nat × Instr) := [(46, .aload_n 0), (47, .iload 4), (49, .iload 5), (51, .iload_n 1)]
theorem bX6_change_46_ok : ∀ q ∈ bX6_change_46, decode mX6_change.2.1 q.1 = .ok (q.2, aLn q.2) := by decide +kernel
def bX6_change_55 : List (Nat × Instr) := [(55, .istore 6), (57, .iload 6), (59, .iload_n 2)]
theorem bX6_change_55_ok : ∀ q ∈ bX6_change_55, decode mX6_change.2.1 q.1 = .ok (q.2, aLn q.2) := by decide +kernel
def bX6_change_63 : List (Nat × Instr) := [(63, .iload 6), (65, .istore_n 2), (66, .bipush 10), (68, .iload 4), (70, .imul), (71, .iload 5), (73, .iadd), (74, .istore_n 3)]
theorem bX6_change_63_ok : ∀ q ∈ bX6_change_63, decode mX6_change.2.1 q.1 = .ok (q.2, aLn q.2) := by decide +kernel
def bX6_change_75 : List (Nat × Instr) := [(75, .iinc 5 1), (78, .goto (-38))]
theorem bX6_change_75_ok : ∀ q ∈ bX6_change_75, decode mX6_change.2.1 q.1 = .ok (q.2, aLn q.2) := by decide +kernel
def bX6_change_81 : List (Nat × Instr) := [(81, .iinc 4 1), (84, .goto (-56))]
theorem bX6_change_81_ok : ∀ q ∈ bX6_change_81, decode mX6_change.2.1 q.1 = .ok (q.2, aLn q.2) := by decide +kernel
def bX6_change_87 : List (Nat × Instr) := [(87, .iload_n 3)]
theorem bX6_change_87_ok : ∀ q ∈ bX6_change_87, decode mX6_change.2.1 q.1 = .ok (q.2, aLn q.2) := by decide +kernel
theorem dX6_change_1 : decode mX6_change.2.1 1 = .ok (.invokestatic 165, 3) := by decide +kernel
theorem dX6_change_4 : decode mX6_change.2.1 4 = .ok (.ifCond .ne 5, 3) := by decide +kernel
theorem dX6_change_8 : decode mX6_change.2.1 8 = .ok (.ireturn, 1) := by decide +kernel
theorem dX6_change_11 : decode mX6_change.2.1 11 = .ok (.invokevirtual 168, 3) := by decide +kernel
theorem dX6_change_31 : decode mX6_change.2.1 31 = .ok (.if_icmp .ge 56, 3) := by decide +kernel
theorem dX6_change_43 : decode mX6_change.2.1 43 = .ok (.if_icmp .ge 38, 3) := by decide +kernel
theorem dX6_change_52 : decode mX6_change.2.1 52 = .ok (.invokevirtual 202, 3) := by decide +kernel
theorem dX6_change_60 : decode mX6_change.2.1 60 = .ok (.if_icmp .ge 15, 3) := by decide +kernel
theorem dX6_change_88 : decode mX6_change.2.1 88 = .ok (.ireturn, 1) := by decide +kernel
def bX6_over_0 : List (Nat × Instr) := [(0, .iload_n 1)]
theorem bX6_over_0_ok : ∀ q ∈ bX6_over_0, decode mX6_over.2.1 q.1 = .ok (q.2, aLn q.2) := by decide +kernel
def bX6_over_36 : List (Nat × Instr) := [(36, .aload_n 0), (37, .getfield 10), (40, .getfield 196), (43, .aload_n 0), (44, .getfield 10)]
theorem bX6_over_36_ok : ∀ q ∈ bX6_over_36, decode mX6_over.2.1 q.1 = .ok (q.2, aLn q.2) := by decide +kernel
def bX6_over_50 : List (Nat × Instr) := [(50, .isub)]
theorem bX6_over_50_ok : ∀ q ∈ bX6_over_50, decode mX6_over.2.1 q.1 = .ok (q.2, aLn q.2) := by decide +kernel
def bX6_over_52 : List (Nat × Instr) := [(52, .aload_n 0), (53, .getfield 10)]
theorem bX6_over_52_ok : ∀ q ∈ bX6_over_52, decode mX6_over.2.1 q.1 = .ok (q.2, aLn q.2) := by decide +kernel
def bX6_over_60 : List (Nat × Instr) := [(60, .aload_n 0), (61, .getfield 10)]
theorem bX6_over_60_ok : ∀ q ∈ bX6_over_60, decode mX6_over.2.1 q.1 = .ok (q.2, aLn q.2) := by decide +kernel
def bX6_over_68 : List (Nat × Instr) := [(68, .aload_n 0), (69, .getfield 10)]
theorem bX6_over_68_ok : ∀ q ∈ bX6_over_68, decode mX6_over.2.1 q.1 = .ok (q.2, aLn q.2) := by decide +kernel
def bX6_over_79 : List (Nat × Instr) := [(79, .aload_n 0)]
theorem bX6_over_79_ok : ∀ q ∈ bX6_over_79, decode mX6_over.2.1 q.1 = .ok (q.2, aLn q.2) := by decide +kernel
def bX6_over_84 : List (Nat × Instr) := [(84, .ldc 220)]
theorem bX6_over_84_ok : ∀ q ∈ bX6_over_84, decode mX6_over.2.1 q.1 = .ok (q.2, aLn q.2) := by decide +kernel
theorem dX6_over_1 : decode mX6_over.2.1 1 = .ok (.tableswitch 83 0 4 #[35, 51, 59, 67, 78], 35) := by decide +kernel
theorem dX6_over_47 : decode mX6_over.2.1 47 = .ok (.invokevirtual 205, 3) := by decide +kernel
theorem dX6_over_51 : decode mX6_over.2.1 51 = .ok (.ireturn, 1) := by decide +kernel
theorem dX6_over_56 : decode mX6_over.2.1 56 = .ok (.invokevirtual 208, 3) := by decide +kernel
theorem dX6_over_59 : decode mX6_over.2.1 59 = .ok (.ireturn, 1) := by decide +kernel
theorem dX6_over_64 : decode mX6_over.2.1 64 = .ok (.invokevirtual 211, 3) := by decide +kernel
theorem dX6_over_67 : decode mX6_over.2.1 67 = .ok (.ireturn, 1) := by decide +kernel
theorem dX6_over_72 : decode mX6_over.2.1 72 = .ok (.invokevirtual 214, 3) := by decide +kernel
theorem dX6_over_75 : decode mX6_over.2.1 75 = .ok (.invokestatic 94, 3) := by decide +kernel
theorem dX6_over_78 : decode mX6_over.2.1 78 = .ok (.ireturn, 1) := by decide +kernel
theorem dX6_over_80 : decode mX6_over.2.1 80 = .ok (.invokevirtual 217, 3) := by decide +kernel
theorem dX6_over_83 : decode mX6_over.2.1 83 = .ok (.ireturn, 1) := by decide +kernel
theorem dX6_over_86 : decode mX6_over.2.1 86 = .ok (.ireturn, 1) := by decide +kernel
def bX6_whatIs_0 : List (Nat × Instr) := [(0, .iload_n 1)]
theorem bX6_whatIs_0_ok : ∀ q ∈ bX6_whatIs_0, decode mX6_whatIs.2.1 q.1 = .ok (q.2, aLn q.2) := by decide +kernel
def bX6_whatIs_7 : List (Nat × Instr) := [(7, .aload_n 0), (8, .getfield 10), (11, .iload_n 2)]
theorem bX6_whatIs_7_ok : ∀ q ∈ bX6_whatIs_7, decode mX6_whatIs.2.1 q.1 = .ok (q.2, aLn q.2) := by decide +kernel
def bX6_whatIs_18 : List (Nat × Instr) := [(18, .iload_n 3)]
theorem bX6_whatIs_18_ok : ∀ q ∈ bX6_whatIs_18, decode mX6_whatIs.2.1 q.1 = .ok (q.2, aLn q.2) := by decide +kernel
def bX6_whatIs_25 : List (Nat × Instr) := [(25, .iconst (-1))]
theorem bX6_whatIs_25_ok : ∀ q ∈ bX6_whatIs_25, decode mX6_whatIs.2.1 q.1 = .ok (q.2, aLn q.2) := by decide +kernel
def bX6_whatIs_27 : List (Nat × Instr) := [(27, .aload_n 0), (28, .getfield 29), (31, .iload_n 1)]
theorem bX6_whatIs_27_ok : ∀ q ∈ bX6_whatIs_27, decode mX6_whatIs.2.1 q.1 = .ok (q.2, aLn q.2) := by decide +kernel
def bX6_whatIs_35 : List (Nat × Instr) := [(35, .istore 4), (37, .iload 4)]
theorem bX6_whatIs_35_ok : ∀ q ∈ bX6_whatIs_35, decode mX6_whatIs.2.1 q.1 = .ok (q.2, aLn q.2) := by decide +kernel
def bX6_whatIs_42 : List (Nat × Instr) := [(42, .iload 4)]
theorem bX6_whatIs_42_ok : ∀ q ∈ bX6_whatIs_42, decode mX6_whatIs.2.1 q.1 = .ok (q.2, aLn q.2) := by decide +kernel
def bX6_whatIs_45 : List (Nat × Instr) := [(45, .iload_n 3)]
theorem bX6_whatIs_45_ok : ∀ q ∈ bX6_whatIs_45, decode mX6_whatIs.2.1 q.1 = .ok (q.2, aLn q.2) := by decide +kernel
def bX6_whatIs_49 : List (Nat × Instr) := [(49, .bipush 8), (51, .goto 5)]
theorem bX6_whatIs_49_ok : ∀ q ∈ bX6_whatIs_49, decode mX6_whatIs.2.1 q.1 = .ok (q.2, aLn q.2) := by decide +kernel
def bX6_whatIs_54 : List (Nat × Instr) := [(54, .bipush 10)]
theorem bX6_whatIs_54_ok : ∀ q ∈ bX6_whatIs_54, decode mX6_whatIs.2.1 q.1 = .ok (q.2, aLn q.2) := by decide +kernel
def bX6_whatIs_56 : List (Nat × Instr) := [(56, .istore 5), (58, .iconst 0), (59, .istore 6), (61, .iconst 0), (62, .istore 7)]
theorem bX6_whatIs_56_ok : ∀ q ∈ bX6_whatIs_56, decode mX6_whatIs.2.1 q.1 = .ok (q.2, aLn q.2) := by decide +kernel
def bX6_whatIs_64 : List (Nat × Instr) := [(64, .iload 7), (66, .iload 5)]
theorem bX6_whatIs_64_ok : ∀ q ∈ bX6_whatIs_64, decode mX6_whatIs.2.1 q.1 = .ok (q.2, aLn q.2) := by decide +kernel
def bX6_whatIs_71 : List (Nat × Instr) := [(71, .aload_n 0), (72, .getfield 16), (75, .aload_n 0), (76, .getfield 10)]
theorem bX6_whatIs_71_ok : ∀ q ∈ bX6_whatIs_71, decode mX6_whatIs.2.1 q.1 = .ok (q.2, aLn q.2) := by decide +kernel
def bX6_whatIs_82 : List (Nat × Instr) := [(82, .iload_n 3)]
theorem bX6_whatIs_82_ok : ∀ q ∈ bX6_whatIs_82, decode mX6_whatIs.2.1 q.1 = .ok (q.2, aLn q.2) := by decide +kernel
def bX6_whatIs_86 : List (Nat × Instr) := [(86, .aload_n 0), (87, .getfield 16), (90, .getfield 79), (93, .iload_n 2), (94, .iload 7), (96, .iastore), (97, .goto 14)]
theorem bX6_whatIs_86_ok : ∀ q ∈ bX6_whatIs_86, decode mX6_whatIs.2.1 q.1 = .ok (q.2, aLn q.2) := by decide +kernel
def bX6_whatIs_100 : List (Nat × Instr) := [(100, .aload_n 0), (101, .getfield 16), (104, .getfield 82), (107, .iload_n 2), (108, .iload 7), (110, .iastore)]
theorem bX6_whatIs_100_ok : ∀ q ∈ bX6_whatIs_100, decode mX6_whatIs.2.1 q.1 = .ok (q.2, aLn q.2) := by decide +kernel
def bX6_whatIs_111 : List (Nat × Instr) := [(111, .aload_n 0), (112, .iload_n 1), (113, .iconst 0), (114, .iload_n 2)]
theorem bX6_whatIs_111_ok : ∀ q ∈ bX6_whatIs_111, decode mX6_whatIs.2.1 q.1 = .ok (q.2, aLn q.2) := by decide +kernel
def bX6_whatIs_118 : List (Nat × Instr) := [(118, .bipush (-4))]
theorem bX6_whatIs_118_ok : ∀ q ∈ bX6_whatIs_118, decode mX6_whatIs.2.1 q.1 = .ok (q.2, aLn q.2) := by decide +kernel
def bX6_whatIs_123 : List (Nat × Instr) := [(123, .iload 6), (125, .iconst 1), (126, .iload 7), (128, .ishl), (129, .ior), (130, .istore 6)]
theorem bX6_whatIs_123_ok : ∀ q ∈ bX6_whatIs_123, decode mX6_whatIs.2.1 q.1 = .ok (q.2, aLn q.2) := by decide +kernel
def bX6_whatIs_132 : List (Nat × Instr) := [(132, .iinc 7 1), (135, .goto (-71))]
theorem bX6_whatIs_132_ok : ∀ q ∈ bX6_whatIs_132, decode mX6_whatIs.2.1 q.1 = .ok (q.2, aLn q.2) := by decide +kernel
def bX6_whatIs_138 : List (Nat × Instr) := [(138, .iload 6)]
theorem bX6_whatIs_138_ok : ∀ q ∈ bX6_whatIs_138, decode mX6_whatIs.2.1 q.1 = .ok (q.2, aLn q.2) := by decide +kernel
theorem dX6_whatIs_1 : decode mX6_whatIs.2.1 1 = .ok (.invokestatic 132, 3) := by decide +kernel
theorem dX6_whatIs_4 : decode mX6_whatIs.2.1 4 = .ok (.ifCond .eq 21, 3) := by decide +kernel
theorem dX6_whatIs_12 : decode mX6_whatIs.2.1 12 = .ok (.invokevirtual 76, 3) := by decide +kernel
theorem dX6_whatIs_15 : decode mX6_whatIs.2.1 15 = .ok (.ifCond .eq 10, 3) := by decide +kernel
theorem dX6_whatIs_19 : decode mX6_whatIs.2.1 19 = .ok (.invokestatic 171, 3) := by decide +kernel
theorem dX6_whatIs_22 : decode mX6_whatIs.2.1 22 = .ok (.ifCond .ne 5, 3) := by decide +kernel
theorem dX6_whatIs_26 : decode mX6_whatIs.2.1 26 = .ok (.ireturn, 1) := by decide +kernel
theorem dX6_whatIs_32 : decode mX6_whatIs.2.1 32 = .ok (.invokevirtual 54, 3) := by decide +kernel
theorem dX6_whatIs_39 : decode mX6_whatIs.2.1 39 = .ok (.ifCond .eq 6, 3) := by decide +kernel
theorem dX6_whatIs_44 : decode mX6_whatIs.2.1 44 = .ok (.ireturn, 1) := by decide +kernel
theorem dX6_whatIs_46 : decode mX6_whatIs.2.1 46 = .ok (.ifCond .ne 8, 3) := by decide +kernel
theorem dX6_whatIs_68 : decode mX6_whatIs.2.1 68 = .ok (.if_icmp .ge 70, 3) := by decide +kernel
theorem dX6_whatIs_79 : decode mX6_whatIs.2.1 79 = .ok (.invokevirtual 68, 3) := by decide +kernel
theorem dX6_whatIs_83 : decode mX6_whatIs.2.1 83 = .ok (.ifCond .ne 17, 3) := by decide +kernel
theorem dX6_whatIs_115 : decode mX6_whatIs.2.1 115 = .ok (.invokevirtual 221, 3) := by decide +kernel
theorem dX6_whatIs_120 : decode mX6_whatIs.2.1 120 = .ok (.if_icmp .ne 12, 3) := by decide +kernel
theorem dX6_whatIs_140 : decode mX6_whatIs.2.1 140 = .ok (.ireturn, 1) := by decide +kernel
def bX6_whoHeld_0 : List (Nat × Instr) := [(0, .iload_n 1)]
theorem bX6_whoHeld_0_ok : ∀ q ∈ bX6_whoHeld_0, decode mX6_whoHeld.2.1 q.1 = .ok (q.2, aLn q.2) := by decide +kernel
def bX6_whoHeld_7 : List (Nat × Instr) := [(7, .iload_n 2)]
theorem bX6_whoHeld_7_ok : ∀ q ∈ bX6_whoHeld_7, decode mX6_whoHeld.2.1 q.1 = .ok (q.2, aLn q.2) := by decide +kernel
def bX6_whoHeld_14 : List (Nat × Instr) := [(14, .iconst (-1))]
theorem bX6_whoHeld_14_ok : ∀ q ∈ bX6_whoHeld_14, decode mX6_whoHeld.2.1 q.1 = .ok (q.2, aLn q.2) := by decide +kernel
def bX6_whoHeld_16 : List (Nat × Instr) := [(16, .aload_n 0), (17, .getfield 29), (20, .iload_n 1)]
theorem bX6_whoHeld_16_ok : ∀ q ∈ bX6_whoHeld_16, decode mX6_whoHeld.2.1 q.1 = .ok (q.2, aLn q.2) := by decide +kernel
def bX6_whoHeld_24 : List (Nat × Instr) := [(24, .istore_n 3), (25, .iload_n 3)]
theorem bX6_whoHeld_24_ok : ∀ q ∈ bX6_whoHeld_24, decode mX6_whoHeld.2.1 q.1 = .ok (q.2, aLn q.2) := by decide +kernel
def bX6_whoHeld_29 : List (Nat × Instr) := [(29, .iload_n 3)]
theorem bX6_whoHeld_29_ok : ∀ q ∈ bX6_whoHeld_29, decode mX6_whoHeld.2.1 q.1 = .ok (q.2, aLn q.2) := by decide +kernel
def bX6_whoHeld_31 : List (Nat × Instr) := [(31, .iconst 0), (32, .istore 4), (34, .iconst 0), (35, .istore 5)]
theorem bX6_whoHeld_31_ok : ∀ q ∈ bX6_whoHeld_31, decode mX6_whoHeld.2.1 q.1 = .ok (q.2, aLn q.2) := by decide +kernel
def bX6_whoHeld_37 : List (Nat × Instr) := [(37, .iload 5), (39, .aload_n 0), (40, .getfield 10), (43, .getfield 196)]
theorem bX6_whoHeld_37_ok : ∀ q ∈ bX6_whoHeld_37, decode mX6_whoHeld.2.1 q.1 = .ok (q.2, aLn q.2) := by decide +kernel
def bX6_whoHeld_49 : List (Nat × Instr) := [(49, .aload_n 0), (50, .getfield 16), (53, .aload_n 0), (54, .getfield 10)]
theorem bX6_whoHeld_49_ok : ∀ q ∈ bX6_whoHeld_49, decode mX6_whoHeld.2.1 q.1 = .ok (q.2, aLn q.2) := by decide +kernel
def bX6_whoHeld_60 : List (Nat × Instr) := [(60, .aload_n 0), (61, .getfield 16), (64, .iload_n 2), (65, .iload 5)]
theorem bX6_whoHeld_60_ok : ∀ q ∈ bX6_whoHeld_60, decode mX6_whoHeld.2.1 q.1 = .ok (q.2, aLn q.2) := by decide +kernel
def bX6_whoHeld_70 : List (Nat × Instr) := [(70, .aload_n 0), (71, .iload_n 1), (72, .iconst 1), (73, .iload_n 2)]
theorem bX6_whoHeld_70_ok : ∀ q ∈ bX6_whoHeld_70, decode mX6_whoHeld.2.1 q.1 = .ok (q.2, aLn q.2) := by decide +kernel
def bX6_whoHeld_77 : List (Nat × Instr) := [(77, .bipush (-4))]
theorem bX6_whoHeld_77_ok : ∀ q ∈ bX6_whoHeld_77, decode mX6_whoHeld.2.1 q.1 = .ok (q.2, aLn q.2) := by decide +kernel
def bX6_whoHeld_82 : List (Nat × Instr) := [(82, .iload 4), (84, .iconst 1), (85, .iload 5), (87, .ishl), (88, .ior), (89, .istore 4)]
theorem bX6_whoHeld_82_ok : ∀ q ∈ bX6_whoHeld_82, decode mX6_whoHeld.2.1 q.1 = .ok (q.2, aLn q.2) := by decide +kernel
def bX6_whoHeld_91 : List (Nat × Instr) := [(91, .iinc 5 1), (94, .goto (-57))]
theorem bX6_whoHeld_91_ok : ∀ q ∈ bX6_whoHeld_91, decode mX6_whoHeld.2.1 q.1 = .ok (q.2, aLn q.2) := by decide +kernel
def bX6_whoHeld_97 : List (Nat × Instr) := [(97, .iload 4)]
theorem bX6_whoHeld_97_ok : ∀ q ∈ bX6_whoHeld_97, decode mX6_whoHeld.2.1 q.1 = .ok (q.2, aLn q.2) := by decide +kernel
theorem dX6_whoHeld_1 : decode mX6_whoHeld.2.1 1 = .ok (.invokestatic 132, 3) := by decide +kernel
theorem dX6_whoHeld_4 : decode mX6_whoHeld.2.1 4 = .ok (.ifCond .eq 10, 3) := by decide +kernel
theorem dX6_whoHeld_8 : decode mX6_whoHeld.2.1 8 = .ok (.invokestatic 109, 3) := by decide +kernel
theorem dX6_whoHeld_11 : decode mX6_whoHeld.2.1 11 = .ok (.ifCond .ne 5, 3) := by decide +kernel
theorem dX6_whoHeld_15 : decode mX6_whoHeld.2.1 15 = .ok (.ireturn, 1) := by decide +kernel
theorem dX6_whoHeld_21 : decode mX6_whoHeld.2.1 21 = .ok (.invokevirtual 54, 3) := by decide +kernel
theorem dX6_whoHeld_26 : decode mX6_whoHeld.2.1 26 = .ok (.ifCond .eq 5, 3) := by decide +kernel
theorem dX6_whoHeld_30 : decode mX6_whoHeld.2.1 30 = .ok (.ireturn, 1) := by decide +kernel
theorem dX6_whoHeld_46 : decode mX6_whoHeld.2.1 46 = .ok (.if_icmp .ge 51, 3) := by decide +kernel
theorem dX6_whoHeld_57 : decode mX6_whoHeld.2.1 57 = .ok (.invokevirtual 68, 3) := by decide +kernel
theorem dX6_whoHeld_67 : decode mX6_whoHeld.2.1 67 = .ok (.invokevirtual 151, 3) := by decide +kernel
theorem dX6_whoHeld_74 : decode mX6_whoHeld.2.1 74 = .ok (.invokevirtual 221, 3) := by decide +kernel
theorem dX6_whoHeld_79 : decode mX6_whoHeld.2.1 79 = .ok (.if_icmp .ne 12, 3) := by decide +kernel
theorem dX6_whoHeld_99 : decode mX6_whoHeld.2.1 99 = .ok (.ireturn, 1) := by decide +kernel
def bX6_two_0 : List (Nat × Instr) := [(0, .aload_n 0), (1, .getfield 10), (4, .iload_n 1)]
theorem bX6_two_0_ok : ∀ q ∈ bX6_two_0, decode mX6_two.2.1 q.1 = .ok (q.2, aLn q.2) := by decide +kernel
def bX6_two_11 : List (Nat × Instr) := [(11, .aload_n 0), (12, .getfield 10), (15, .iload_n 2)]
theorem bX6_two_11_ok : ∀ q ∈ bX6_two_11, decode mX6_two.2.1 q.1 = .ok (q.2, aLn q.2) := by decide +kernel
def bX6_two_22 : List (Nat × Instr) := [(22, .iload_n 1), (23, .iload_n 2)]
theorem bX6_two_22_ok : ∀ q ∈ bX6_two_22, decode mX6_two.2.1 q.1 = .ok (q.2, aLn q.2) := by decide +kernel
def bX6_two_27 : List (Nat × Instr) := [(27, .iload_n 3), (28, .iconst 1)]
theorem bX6_two_27_ok : ∀ q ∈ bX6_two_27, decode mX6_two.2.1 q.1 = .ok (q.2, aLn q.2) := by decide +kernel
def bX6_two_32 : List (Nat × Instr) := [(32, .iload_n 3), (33, .bipush 30)]
theorem bX6_two_32_ok : ∀ q ∈ bX6_two_32, decode mX6_two.2.1 q.1 = .ok (q.2, aLn q.2) := by decide +kernel
def bX6_two_38 : List (Nat × Instr) := [(38, .iconst (-1))]
theorem bX6_two_38_ok : ∀ q ∈ bX6_two_38, decode mX6_two.2.1 q.1 = .ok (q.2, aLn q.2) := by decide +kernel
def bX6_two_40 : List (Nat × Instr) := [(40, .aload_n 0), (41, .getfield 10), (44, .getfield 91), (47, .iload_n 1), (48, .iaload), (49, .iconst (-1))]
theorem bX6_two_40_ok : ∀ q ∈ bX6_two_40, decode mX6_two.2.1 q.1 = .ok (q.2, aLn q.2) := by decide +kernel
def bX6_two_53 : List (Nat × Instr) := [(53, .aload_n 0), (54, .getfield 10), (57, .getfield 91), (60, .iload_n 2), (61, .iaload), (62, .iconst (-1))]
theorem bX6_two_53_ok : ∀ q ∈ bX6_two_53, decode mX6_two.2.1 q.1 = .ok (q.2, aLn q.2) := by decide +kernel
def bX6_two_66 : List (Nat × Instr) := [(66, .bipush (-3))]
theorem bX6_two_66_ok : ∀ q ∈ bX6_two_66, decode mX6_two.2.1 q.1 = .ok (q.2, aLn q.2) := by decide +kernel
def bX6_two_69 : List (Nat × Instr) := [(69, .iconst 0), (70, .istore 4)]
theorem bX6_two_69_ok : ∀ q ∈ bX6_two_69, decode mX6_two.2.1 q.1 = .ok (q.2, aLn q.2) := by decide +kernel
def bX6_two_72 : List (Nat × Instr) := [(72, .iload 4), (74, .iconst 4)]
theorem bX6_two_72_ok : ∀ q ∈ bX6_two_72, decode mX6_two.2.1 q.1 = .ok (q.2, aLn q.2) := by decide +kernel
def bX6_two_78 : List (Nat × Instr) := [(78, .aload_n 0), (79, .iload_n 1), (80, .iload_n 2), (81, .iload_n 3), (82, .iload 4)]
theorem bX6_two_78_ok : ∀ q ∈ bX6_two_78, decode mX6_two.2.1 q.1 = .ok (q.2, aLn q.2) := by decide +kernel
def bX6_two_87 : List (Nat × Instr) := [(87, .iinc 4 1), (90, .goto (-18))]
theorem bX6_two_87_ok : ∀ q ∈ bX6_two_87, decode mX6_two.2.1 q.1 = .ok (q.2, aLn q.2) := by decide +kernel
def bX6_two_93 : List (Nat × Instr) := [(93, .iconst 0), (94, .istore 4)]
theorem bX6_two_93_ok : ∀ q ∈ bX6_two_93, decode mX6_two.2.1 q.1 = .ok (q.2, aLn q.2) := by decide +kernel
def bX6_two_96 : List (Nat × Instr) := [(96, .iload 4), (98, .iconst 4)]
theorem bX6_two_96_ok : ∀ q ∈ bX6_two_96, decode mX6_two.2.1 q.1 = .ok (q.2, aLn q.2) := by decide +kernel
def bX6_two_102 : List (Nat × Instr) := [(102, .aload_n 0), (103, .getfield 47), (106, .iload 4), (108, .iaload), (109, .aload_n 0), (110, .getfield 47), (113, .iload 4), (115, .iconst 2), (116, .ixor), (117, .iaload)]
theorem bX6_two_102_ok : ∀ q ∈ bX6_two_102, decode mX6_two.2.1 q.1 = .ok (q.2, aLn q.2) := by decide +kernel
def bX6_two_121 : List (Nat × Instr) := [(121, .iconst 1), (122, .goto 4)]
theorem bX6_two_121_ok : ∀ q ∈ bX6_two_121, decode mX6_two.2.1 q.1 = .ok (q.2, aLn q.2) := by decide +kernel
def bX6_two_125 : List (Nat × Instr) := [(125, .iconst 0)]
theorem bX6_two_125_ok : ∀ q ∈ bX6_two_125, decode mX6_two.2.1 q.1 = .ok (q.2, aLn q.2) := by decide +kernel
def bX6_two_126 : List (Nat × Instr) := [(126, .istore 5), (128, .aload_n 0), (129, .getfield 51), (132, .iload 4), (134, .iaload), (135, .aload_n 0), (136, .getfield 51), (139, .iload 4), (141, .iconst 1), (142, .ixor), (143, .iaload)]
theorem bX6_two_126_ok : ∀ q ∈ bX6_two_126, decode mX6_two.2.1 q.1 = .ok (q.2, aLn q.2) := by decide +kernel
def bX6_two_147 : List (Nat × Instr) := [(147, .iconst 1), (148, .goto 4)]
theorem bX6_two_147_ok : ∀ q ∈ bX6_two_147, decode mX6_two.2.1 q.1 = .ok (q.2, aLn q.2) := by decide +kernel
def bX6_two_151 : List (Nat × Instr) := [(151, .iconst 0)]
theorem bX6_two_151_ok : ∀ q ∈ bX6_two_151, decode mX6_two.2.1 q.1 = .ok (q.2, aLn q.2) := by decide +kernel
def bX6_two_152 : List (Nat × Instr) := [(152, .istore 6), (154, .iload 5)]
theorem bX6_two_152_ok : ∀ q ∈ bX6_two_152, decode mX6_two.2.1 q.1 = .ok (q.2, aLn q.2) := by decide +kernel
def bX6_two_159 : List (Nat × Instr) := [(159, .iload 6)]
theorem bX6_two_159_ok : ∀ q ∈ bX6_two_159, decode mX6_two.2.1 q.1 = .ok (q.2, aLn q.2) := by decide +kernel
def bX6_two_164 : List (Nat × Instr) := [(164, .bipush 10), (166, .iload 4), (168, .iconst 1), (169, .ishr), (170, .imul), (171, .iload 4), (173, .iconst 1), (174, .iand), (175, .iadd)]
theorem bX6_two_164_ok : ∀ q ∈ bX6_two_164, decode mX6_two.2.1 q.1 = .ok (q.2, aLn q.2) := by decide +kernel
def bX6_two_177 : List (Nat × Instr) := [(177, .iinc 4 1), (180, .goto (-84))]
theorem bX6_two_177_ok : ∀ q ∈ bX6_two_177, decode mX6_two.2.1 q.1 = .ok (q.2, aLn q.2) := by decide +kernel
def bX6_two_183 : List (Nat × Instr) := [(183, .bipush (-4))]
theorem bX6_two_183_ok : ∀ q ∈ bX6_two_183, decode mX6_two.2.1 q.1 = .ok (q.2, aLn q.2) := by decide +kernel
theorem dX6_two_5 : decode mX6_two.2.1 5 = .ok (.invokevirtual 76, 3) := by decide +kernel
theorem dX6_two_8 : decode mX6_two.2.1 8 = .ok (.ifCond .eq 30, 3) := by decide +kernel
theorem dX6_two_16 : decode mX6_two.2.1 16 = .ok (.invokevirtual 76, 3) := by decide +kernel
theorem dX6_two_19 : decode mX6_two.2.1 19 = .ok (.ifCond .eq 19, 3) := by decide +kernel
theorem dX6_two_24 : decode mX6_two.2.1 24 = .ok (.if_icmp .eq 14, 3) := by decide +kernel
theorem dX6_two_29 : decode mX6_two.2.1 29 = .ok (.if_icmp .lt 9, 3) := by decide +kernel
theorem dX6_two_35 : decode mX6_two.2.1 35 = .ok (.if_icmp .le 5, 3) := by decide +kernel
theorem dX6_two_39 : decode mX6_two.2.1 39 = .ok (.ireturn, 1) := by decide +kernel
theorem dX6_two_50 : decode mX6_two.2.1 50 = .ok (.if_icmp .eq 16, 3) := by decide +kernel
theorem dX6_two_63 : decode mX6_two.2.1 63 = .ok (.if_icmp .ne 6, 3) := by decide +kernel
theorem dX6_two_68 : decode mX6_two.2.1 68 = .ok (.ireturn, 1) := by decide +kernel
theorem dX6_two_75 : decode mX6_two.2.1 75 = .ok (.if_icmp .ge 18, 3) := by decide +kernel
theorem dX6_two_84 : decode mX6_two.2.1 84 = .ok (.invokevirtual 224, 3) := by decide +kernel
theorem dX6_two_99 : decode mX6_two.2.1 99 = .ok (.if_icmp .ge 84, 3) := by decide +kernel
theorem dX6_two_118 : decode mX6_two.2.1 118 = .ok (.if_icmp .lt 7, 3) := by decide +kernel
theorem dX6_two_144 : decode mX6_two.2.1 144 = .ok (.if_icmp .lt 7, 3) := by decide +kernel
theorem dX6_two_156 : decode mX6_two.2.1 156 = .ok (.ifCond .eq 21, 3) := by decide +kernel
theorem dX6_two_161 : decode mX6_two.2.1 161 = .ok (.ifCond .eq 16, 3) := by decide +kernel
theorem dX6_two_176 : decode mX6_two.2.1 176 = .ok (.ireturn, 1) := by decide +kernel
theorem dX6_two_185 : decode mX6_two.2.1 185 = .ok (.ireturn, 1) := by decide +kernel
def bX6_scandals_0 : List (Nat × Instr) := [(0, .iload_n 1)]
theorem bX6_scandals_0_ok : ∀ q ∈ bX6_scandals_0, decode mX6_scandals.2.1 q.1 = .ok (q.2, aLn q.2) := by decide +kernel
def bX6_scandals_7 : List (Nat × Instr) := [(7, .iload_n 2)]
theorem bX6_scandals_7_ok : ∀ q ∈ bX6_scandals_7, decode mX6_scandals.2.1 q.1 = .ok (q.2, aLn q.2) := by decide +kernel
def bX6_scandals_11 : List (Nat × Instr) := [(11, .iload_n 2), (12, .bipush 7)]
theorem bX6_scandals_11_ok : ∀ q ∈ bX6_scandals_11, decode mX6_scandals.2.1 q.1 = .ok (q.2, aLn q.2) := by decide +kernel
def bX6_scandals_17 : List (Nat × Instr) := [(17, .iload_n 3), (18, .iconst 2)]
theorem bX6_scandals_17_ok : ∀ q ∈ bX6_scandals_17, decode mX6_scandals.2.1 q.1 = .ok (q.2, aLn q.2) := by decide +kernel
def bX6_scandals_22 : List (Nat × Instr) := [(22, .iload_n 3), (23, .bipush 20)]
theorem bX6_scandals_22_ok : ∀ q ∈ bX6_scandals_22, decode mX6_scandals.2.1 q.1 = .ok (q.2, aLn q.2) := by decide +kernel
def bX6_scandals_28 : List (Nat × Instr) := [(28, .iload 4)]
theorem bX6_scandals_28_ok : ∀ q ∈ bX6_scandals_28, decode mX6_scandals.2.1 q.1 = .ok (q.2, aLn q.2) := by decide +kernel
def bX6_scandals_36 : List (Nat × Instr) := [(36, .ldc2_w 228)]
theorem bX6_scandals_36_ok : ∀ q ∈ bX6_scandals_36, decode mX6_scandals.2.1 q.1 = .ok (q.2, aLn q.2) := by decide +kernel
def bX6_scandals_40 : List (Nat × Instr) := [(40, .lconst 0), (41, .lstore 5), (43, .iconst 0), (44, .istore 7)]
theorem bX6_scandals_40_ok : ∀ q ∈ bX6_scandals_40, decode mX6_scandals.2.1 q.1 = .ok (q.2, aLn q.2) := by decide +kernel
def bX6_scandals_46 : List (Nat × Instr) := [(46, .iload 7), (48, .iconst 1), (49, .iload_n 2), (50, .ishl)]
theorem bX6_scandals_46_ok : ∀ q ∈ bX6_scandals_46, decode mX6_scandals.2.1 q.1 = .ok (q.2, aLn q.2) := by decide +kernel
def bX6_scandals_54 : List (Nat × Instr) := [(54, .lload 5), (56, .aload_n 0), (57, .iload_n 1), (58, .iload_n 2), (59, .iload 7)]
theorem bX6_scandals_54_ok : ∀ q ∈ bX6_scandals_54, decode mX6_scandals.2.1 q.1 = .ok (q.2, aLn q.2) := by decide +kernel
def bX6_scandals_67 : List (Nat × Instr) := [(67, .iload_n 2), (68, .iload 7), (70, .iload_n 3)]
theorem bX6_scandals_67_ok : ∀ q ∈ bX6_scandals_67, decode mX6_scandals.2.1 q.1 = .ok (q.2, aLn q.2) := by decide +kernel
def bX6_scandals_74 : List (Nat × Instr) := [(74, .goto 4)]
theorem bX6_scandals_74_ok : ∀ q ∈ bX6_scandals_74, decode mX6_scandals.2.1 q.1 = .ok (q.2, aLn q.2) := by decide +kernel
def bX6_scandals_77 : List (Nat × Instr) := [(77, .lconst 0)]
theorem bX6_scandals_77_ok : ∀ q ∈ bX6_scandals_77, decode mX6_scandals.2.1 q.1 = .ok (q.2, aLn q.2) := by decide +kernel
def bX6_scandals_78 : List (Nat × Instr) := [(78, .ladd), (79, .lstore 5), (81, .iinc 7 1), (84, .goto (-38))]
theorem bX6_scandals_78_ok : ∀ q ∈ bX6_scandals_78, decode mX6_scandals.2.1 q.1 = .ok (q.2, aLn q.2) := by decide +kernel
def bX6_scandals_87 : List (Nat × Instr) := [(87, .lconst 1), (88, .lstore 7), (90, .iconst 0), (91, .istore 9)]
theorem bX6_scandals_87_ok : ∀ q ∈ bX6_scandals_87, decode mX6_scandals.2.1 q.1 = .ok (q.2, aLn q.2) := by decide +kernel
def bX6_scandals_93 : List (Nat × Instr) := [(93, .iload 9), (95, .iload_n 2)]
theorem bX6_scandals_93_ok : ∀ q ∈ bX6_scandals_93, decode mX6_scandals.2.1 q.1 = .ok (q.2, aLn q.2) := by decide +kernel
def bX6_scandals_99 : List (Nat × Instr) := [(99, .lload 7), (101, .iload_n 3), (102, .i2l), (103, .lmul), (104, .lstore 7), (106, .iinc 9 1), (109, .goto (-16))]
theorem bX6_scandals_99_ok : ∀ q ∈ bX6_scandals_99, decode mX6_scandals.2.1 q.1 = .ok (q.2, aLn q.2) := by decide +kernel
def bX6_scandals_112 : List (Nat × Instr) := [(112, .lload 5), (114, .lload 7), (116, .iload 4)]
theorem bX6_scandals_112_ok : ∀ q ∈ bX6_scandals_112, decode mX6_scandals.2.1 q.1 = .ok (q.2, aLn q.2) := by decide +kernel
theorem dX6_scandals_1 : decode mX6_scandals.2.1 1 = .ok (.invokestatic 109, 3) := by decide +kernel
theorem dX6_scandals_4 : decode mX6_scandals.2.1 4 = .ok (.ifCond .eq 32, 3) := by decide +kernel
theorem dX6_scandals_8 : decode mX6_scandals.2.1 8 = .ok (.ifCond .lt 28, 3) := by decide +kernel
theorem dX6_scandals_14 : decode mX6_scandals.2.1 14 = .ok (.if_icmp .gt 22, 3) := by decide +kernel
theorem dX6_scandals_19 : decode mX6_scandals.2.1 19 = .ok (.if_icmp .lt 17, 3) := by decide +kernel
theorem dX6_scandals_25 : decode mX6_scandals.2.1 25 = .ok (.if_icmp .gt 11, 3) := by decide +kernel
theorem dX6_scandals_30 : decode mX6_scandals.2.1 30 = .ok (.invokestatic 171, 3) := by decide +kernel
theorem dX6_scandals_33 : decode mX6_scandals.2.1 33 = .ok (.ifCond .ne 7, 3) := by decide +kernel
theorem dX6_scandals_39 : decode mX6_scandals.2.1 39 = .ok (.lreturn, 1) := by decide +kernel
theorem dX6_scandals_51 : decode mX6_scandals.2.1 51 = .ok (.if_icmp .ge 36, 3) := by decide +kernel
theorem dX6_scandals_61 : decode mX6_scandals.2.1 61 = .ok (.invokevirtual 230, 3) := by decide +kernel
theorem dX6_scandals_64 : decode mX6_scandals.2.1 64 = .ok (.ifCond .eq 13, 3) := by decide +kernel
theorem dX6_scandals_71 : decode mX6_scandals.2.1 71 = .ok (.invokestatic 234, 3) := by decide +kernel
theorem dX6_scandals_96 : decode mX6_scandals.2.1 96 = .ok (.if_icmp .ge 16, 3) := by decide +kernel
theorem dX6_scandals_118 : decode mX6_scandals.2.1 118 = .ok (.invokestatic 238, 3) := by decide +kernel
theorem dX6_scandals_121 : decode mX6_scandals.2.1 121 = .ok (.lreturn, 1) := by decide +kernel
def bX6_mean_0 : List (Nat × Instr) := [(0, .iload_n 1)]
theorem bX6_mean_0_ok : ∀ q ∈ bX6_mean_0, decode mX6_mean.2.1 q.1 = .ok (q.2, aLn q.2) := by decide +kernel
def bX6_mean_7 : List (Nat × Instr) := [(7, .ldc2_w 228)]
theorem bX6_mean_7_ok : ∀ q ∈ bX6_mean_7, decode mX6_mean.2.1 q.1 = .ok (q.2, aLn q.2) := by decide +kernel
def bX6_mean_11 : List (Nat × Instr) := [(11, .aload_n 0), (12, .getfield 10), (15, .getfield 196)]
theorem bX6_mean_11_ok : ∀ q ∈ bX6_mean_11, decode mX6_mean.2.1 q.1 = .ok (q.2, aLn q.2) := by decide +kernel
def bX6_mean_21 : List (Nat × Instr) := [(21, .iload_n 1), (22, .i2l)]
theorem bX6_mean_21_ok : ∀ q ∈ bX6_mean_21, decode mX6_mean.2.1 q.1 = .ok (q.2, aLn q.2) := by decide +kernel
def bX6_mean_24 : List (Nat × Instr) := [(24, .aload_n 0), (25, .getfield 10)]
theorem bX6_mean_24_ok : ∀ q ∈ bX6_mean_24, decode mX6_mean.2.1 q.1 = .ok (q.2, aLn q.2) := by decide +kernel
def bX6_mean_31 : List (Nat × Instr) := [(31, .i2l), (32, .aload_n 0), (33, .getfield 10), (36, .getfield 196), (39, .i2l), (40, .iload_n 1)]
theorem bX6_mean_31_ok : ∀ q ∈ bX6_mean_31, decode mX6_mean.2.1 q.1 = .ok (q.2, aLn q.2) := by decide +kernel
theorem dX6_mean_1 : decode mX6_mean.2.1 1 = .ok (.invokestatic 171, 3) := by decide +kernel
theorem dX6_mean_4 : decode mX6_mean.2.1 4 = .ok (.ifCond .ne 7, 3) := by decide +kernel
theorem dX6_mean_10 : decode mX6_mean.2.1 10 = .ok (.lreturn, 1) := by decide +kernel
theorem dX6_mean_18 : decode mX6_mean.2.1 18 = .ok (.ifCond .ne 6, 3) := by decide +kernel
theorem dX6_mean_23 : decode mX6_mean.2.1 23 = .ok (.lreturn, 1) := by decide +kernel
theorem dX6_mean_28 : decode mX6_mean.2.1 28 = .ok (.invokevirtual 242, 3) := by decide +kernel
theorem dX6_mean_41 : decode mX6_mean.2.1 41 = .ok (.invokestatic 238, 3) := by decide +kernel
theorem dX6_mean_44 : decode mX6_mean.2.1 44 = .ok (.lreturn, 1) := by decide +kernel
def bX6_forged_0 : List (Nat × Instr) := [(0, .aload_n 0), (1, .getfield 29), (4, .iload_n 1)]
theorem bX6_forged_0_ok : ∀ q ∈ bX6_forged_0, decode mX6_forged.2.1 q.1 = .ok (q.2, aLn q.2) := by decide +kernel
def bX6_forged_8 : List (Nat × Instr) := [(8, .istore_n 2), (9, .iload_n 2)]
theorem bX6_forged_8_ok : ∀ q ∈ bX6_forged_8, decode mX6_forged.2.1 q.1 = .ok (q.2, aLn q.2) := by decide +kernel
def bX6_forged_13 : List (Nat × Instr) := [(13, .iload_n 2)]
theorem bX6_forged_13_ok : ∀ q ∈ bX6_forged_13, decode mX6_forged.2.1 q.1 = .ok (q.2, aLn q.2) := by decide +kernel
def bX6_forged_15 : List (Nat × Instr) := [(15, .aload_n 0), (16, .getfield 29), (19, .iload_n 1)]
theorem bX6_forged_15_ok : ∀ q ∈ bX6_forged_15, decode mX6_forged.2.1 q.1 = .ok (q.2, aLn q.2) := by decide +kernel
def bX6_forged_23 : List (Nat × Instr) := [(23, .istore_n 3), (24, .iconst 0), (25, .istore 4)]
theorem bX6_forged_23_ok : ∀ q ∈ bX6_forged_23, decode mX6_forged.2.1 q.1 = .ok (q.2, aLn q.2) := by decide +kernel
def bX6_forged_27 : List (Nat × Instr) := [(27, .iload 4), (29, .iload_n 3)]
theorem bX6_forged_27_ok : ∀ q ∈ bX6_forged_27, decode mX6_forged.2.1 q.1 = .ok (q.2, aLn q.2) := by decide +kernel
def bX6_forged_33 : List (Nat × Instr) := [(33, .iload 4)]
theorem bX6_forged_33_ok : ∀ q ∈ bX6_forged_33, decode mX6_forged.2.1 q.1 = .ok (q.2, aLn q.2) := by decide +kernel
def bX6_forged_41 : List (Nat × Instr) := [(41, .aload_n 0), (42, .getfield 29), (45, .iload_n 1), (46, .iload 4)]
theorem bX6_forged_41_ok : ∀ q ∈ bX6_forged_41, decode mX6_forged.2.1 q.1 = .ok (q.2, aLn q.2) := by decide +kernel
def bX6_forged_51 : List (Nat × Instr) := [(51, .aload_n 0), (52, .iload 4)]
theorem bX6_forged_51_ok : ∀ q ∈ bX6_forged_51, decode mX6_forged.2.1 q.1 = .ok (q.2, aLn q.2) := by decide +kernel
def bX6_forged_60 : List (Nat × Instr) := [(60, .iload 4)]
theorem bX6_forged_60_ok : ∀ q ∈ bX6_forged_60, decode mX6_forged.2.1 q.1 = .ok (q.2, aLn q.2) := by decide +kernel
def bX6_forged_63 : List (Nat × Instr) := [(63, .iinc 4 1), (66, .goto (-39))]
theorem bX6_forged_63_ok : ∀ q ∈ bX6_forged_63, decode mX6_forged.2.1 q.1 = .ok (q.2, aLn q.2) := by decide +kernel
def bX6_forged_69 : List (Nat × Instr) := [(69, .bipush (-4))]
theorem bX6_forged_69_ok : ∀ q ∈ bX6_forged_69, decode mX6_forged.2.1 q.1 = .ok (q.2, aLn q.2) := by decide +kernel
theorem dX6_forged_5 : decode mX6_forged.2.1 5 = .ok (.invokevirtual 54, 3) := by decide +kernel
theorem dX6_forged_10 : decode mX6_forged.2.1 10 = .ok (.ifCond .eq 5, 3) := by decide +kernel
theorem dX6_forged_14 : decode mX6_forged.2.1 14 = .ok (.ireturn, 1) := by decide +kernel
theorem dX6_forged_20 : decode mX6_forged.2.1 20 = .ok (.invokevirtual 245, 3) := by decide +kernel
theorem dX6_forged_30 : decode mX6_forged.2.1 30 = .ok (.if_icmp .ge 39, 3) := by decide +kernel
theorem dX6_forged_35 : decode mX6_forged.2.1 35 = .ok (.invokestatic 109, 3) := by decide +kernel
theorem dX6_forged_38 : decode mX6_forged.2.1 38 = .ok (.ifCond .eq 22, 3) := by decide +kernel
theorem dX6_forged_48 : decode mX6_forged.2.1 48 = .ok (.invokevirtual 248, 3) := by decide +kernel
theorem dX6_forged_54 : decode mX6_forged.2.1 54 = .ok (.invokevirtual 251, 3) := by decide +kernel
theorem dX6_forged_57 : decode mX6_forged.2.1 57 = .ok (.if_icmp .eq 6, 3) := by decide +kernel
theorem dX6_forged_62 : decode mX6_forged.2.1 62 = .ok (.ireturn, 1) := by decide +kernel
theorem dX6_forged_71 : decode mX6_forged.2.1 71 = .ok (.ireturn, 1) := by decide +kernel
def bX6_judge_0 : List (Nat × Instr) := [(0, .aload_n 0), (1, .getfield 29), (4, .iload_n 1)]
theorem bX6_judge_0_ok : ∀ q ∈ bX6_judge_0, decode mX6_judge.2.1 q.1 = .ok (q.2, aLn q.2) := by decide +kernel
def bX6_judge_8 : List (Nat × Instr) := [(8, .istore_n 2), (9, .iload_n 2)]
theorem bX6_judge_8_ok : ∀ q ∈ bX6_judge_8, decode mX6_judge.2.1 q.1 = .ok (q.2, aLn q.2) := by decide +kernel
def bX6_judge_13 : List (Nat × Instr) := [(13, .iload_n 2)]
theorem bX6_judge_13_ok : ∀ q ∈ bX6_judge_13, decode mX6_judge.2.1 q.1 = .ok (q.2, aLn q.2) := by decide +kernel
def bX6_judge_15 : List (Nat × Instr) := [(15, .aload_n 0), (16, .getfield 16), (19, .aload_n 0), (20, .getfield 10)]
theorem bX6_judge_15_ok : ∀ q ∈ bX6_judge_15, decode mX6_judge.2.1 q.1 = .ok (q.2, aLn q.2) := by decide +kernel
def bX6_judge_26 : List (Nat × Instr) := [(26, .aload_n 0), (27, .iload_n 1), (28, .iconst 2), (29, .iconst 0)]
theorem bX6_judge_26_ok : ∀ q ∈ bX6_judge_26, decode mX6_judge.2.1 q.1 = .ok (q.2, aLn q.2) := by decide +kernel
theorem dX6_judge_5 : decode mX6_judge.2.1 5 = .ok (.invokevirtual 54, 3) := by decide +kernel
theorem dX6_judge_10 : decode mX6_judge.2.1 10 = .ok (.ifCond .eq 5, 3) := by decide +kernel
theorem dX6_judge_14 : decode mX6_judge.2.1 14 = .ok (.ireturn, 1) := by decide +kernel
theorem dX6_judge_23 : decode mX6_judge.2.1 23 = .ok (.invokevirtual 68, 3) := by decide +kernel
theorem dX6_judge_30 : decode mX6_judge.2.1 30 = .ok (.invokevirtual 221, 3) := by decide +kernel
theorem dX6_judge_33 : decode mX6_judge.2.1 33 = .ok (.ireturn, 1) := by decide +kernel
def bX6_years_0 : List (Nat × Instr) := [(0, .iload_n 1), (1, .iconst 1)]
theorem bX6_years_0_ok : ∀ q ∈ bX6_years_0, decode mX6_years.2.1 q.1 = .ok (q.2, aLn q.2) := by decide +kernel
def bX6_years_5 : List (Nat × Instr) := [(5, .iload_n 1), (6, .bipush 20)]
theorem bX6_years_5_ok : ∀ q ∈ bX6_years_5, decode mX6_years.2.1 q.1 = .ok (q.2, aLn q.2) := by decide +kernel
def bX6_years_11 : List (Nat × Instr) := [(11, .iload_n 3)]
theorem bX6_years_11_ok : ∀ q ∈ bX6_years_11, decode mX6_years.2.1 q.1 = .ok (q.2, aLn q.2) := by decide +kernel
def bX6_years_18 : List (Nat × Instr) := [(18, .iconst (-1))]
theorem bX6_years_18_ok : ∀ q ∈ bX6_years_18, decode mX6_years.2.1 q.1 = .ok (q.2, aLn q.2) := by decide +kernel
def bX6_years_20 : List (Nat × Instr) := [(20, .aload_n 0), (21, .getfield 43), (24, .iload_n 2)]
theorem bX6_years_20_ok : ∀ q ∈ bX6_years_20, decode mX6_years.2.1 q.1 = .ok (q.2, aLn q.2) := by decide +kernel
def bX6_years_28 : List (Nat × Instr) := [(28, .iconst 0), (29, .istore 4), (31, .iconst 0), (32, .istore 5), (34, .iconst 0), (35, .istore 6)]
theorem bX6_years_28_ok : ∀ q ∈ bX6_years_28, decode mX6_years.2.1 q.1 = .ok (q.2, aLn q.2) := by decide +kernel
def bX6_years_37 : List (Nat × Instr) := [(37, .iload 6), (39, .iload_n 1)]
theorem bX6_years_37_ok : ∀ q ∈ bX6_years_37, decode mX6_years.2.1 q.1 = .ok (q.2, aLn q.2) := by decide +kernel
def bX6_years_43 : List (Nat × Instr) := [(43, .aload_n 0)]
theorem bX6_years_43_ok : ∀ q ∈ bX6_years_43, decode mX6_years.2.1 q.1 = .ok (q.2, aLn q.2) := by decide +kernel
def bX6_years_47 : List (Nat × Instr) := [(47, .iload 4), (49, .aload_n 0), (50, .getfield 16)]
theorem bX6_years_47_ok : ∀ q ∈ bX6_years_47, decode mX6_years.2.1 q.1 = .ok (q.2, aLn q.2) := by decide +kernel
def bX6_years_56 : List (Nat × Instr) := [(56, .iadd), (57, .istore 4), (59, .iload 5), (61, .aload_n 0), (62, .getfield 16), (65, .getfield 162), (68, .aload_n 0), (69, .getfield 10), (72, .getfield 162), (75, .isub), (76, .iadd), (77, .istore 5), (79, .iinc 6 1), (82, .goto (-45))]
theorem bX6_years_56_ok : ∀ q ∈ bX6_years_56, decode mX6_years.2.1 q.1 = .ok (q.2, aLn q.2) := by decide +kernel
def bX6_years_85 : List (Nat × Instr) := [(85, .iload_n 3)]
theorem bX6_years_85_ok : ∀ q ∈ bX6_years_85, decode mX6_years.2.1 q.1 = .ok (q.2, aLn q.2) := by decide +kernel
def bX6_years_89 : List (Nat × Instr) := [(89, .iload 4), (91, .goto 5)]
theorem bX6_years_89_ok : ∀ q ∈ bX6_years_89, decode mX6_years.2.1 q.1 = .ok (q.2, aLn q.2) := by decide +kernel
def bX6_years_94 : List (Nat × Instr) := [(94, .iload 5)]
theorem bX6_years_94_ok : ∀ q ∈ bX6_years_94, decode mX6_years.2.1 q.1 = .ok (q.2, aLn q.2) := by decide +kernel
theorem dX6_years_2 : decode mX6_years.2.1 2 = .ok (.if_icmp .lt 16, 3) := by decide +kernel
theorem dX6_years_8 : decode mX6_years.2.1 8 = .ok (.if_icmp .gt 10, 3) := by decide +kernel
theorem dX6_years_12 : decode mX6_years.2.1 12 = .ok (.invokestatic 171, 3) := by decide +kernel
theorem dX6_years_15 : decode mX6_years.2.1 15 = .ok (.ifCond .ne 5, 3) := by decide +kernel
theorem dX6_years_19 : decode mX6_years.2.1 19 = .ok (.ireturn, 1) := by decide +kernel
theorem dX6_years_25 : decode mX6_years.2.1 25 = .ok (.invokevirtual 254, 3) := by decide +kernel
theorem dX6_years_40 : decode mX6_years.2.1 40 = .ok (.if_icmp .ge 45, 3) := by decide +kernel
theorem dX6_years_44 : decode mX6_years.2.1 44 = .ok (.invokevirtual 257, 3) := by decide +kernel
theorem dX6_years_53 : decode mX6_years.2.1 53 = .ok (.invokevirtual 205, 3) := by decide +kernel
theorem dX6_years_86 : decode mX6_years.2.1 86 = .ok (.ifCond .ne 8, 3) := by decide +kernel
theorem dX6_years_96 : decode mX6_years.2.1 96 = .ok (.ireturn, 1) := by decide +kernel
def bX6_image_0 : List (Nat × Instr) := [(0, .aload_n 0), (1, .getfield 19), (4, .aload_n 0), (5, .getfield 10)]
theorem bX6_image_0_ok : ∀ q ∈ bX6_image_0, decode mX6_image.2.1 q.1 = .ok (q.2, aLn q.2) := by decide +kernel
def bX6_image_11 : List (Nat × Instr) := [(11, .aload_n 0), (12, .iconst 1), (13, .putfield 22), (16, .aload_n 0), (17, .getfield 10), (20, .getfield 124)]
theorem bX6_image_11_ok : ∀ q ∈ bX6_image_11, decode mX6_image.2.1 q.1 = .ok (q.2, aLn q.2) := by decide +kernel
theorem dX6_image_8 : decode mX6_image.2.1 8 = .ok (.invokevirtual 68, 3) := by decide +kernel
theorem dX6_image_23 : decode mX6_image.2.1 23 = .ok (.ireturn, 1) := by decide +kernel
def bX6_restore_0 : List (Nat × Instr) := [(0, .aload_n 0), (1, .getfield 22)]
theorem bX6_restore_0_ok : ∀ q ∈ bX6_restore_0, decode mX6_restore.2.1 q.1 = .ok (q.2, aLn q.2) := by decide +kernel
def bX6_restore_7 : List (Nat × Instr) := [(7, .bipush (-3))]
theorem bX6_restore_7_ok : ∀ q ∈ bX6_restore_7, decode mX6_restore.2.1 q.1 = .ok (q.2, aLn q.2) := by decide +kernel
def bX6_restore_10 : List (Nat × Instr) := [(10, .aload_n 0), (11, .getfield 10), (14, .aload_n 0), (15, .getfield 19)]
theorem bX6_restore_10_ok : ∀ q ∈ bX6_restore_10, decode mX6_restore.2.1 q.1 = .ok (q.2, aLn q.2) := by decide +kernel
def bX6_restore_21 : List (Nat × Instr) := [(21, .aload_n 0), (22, .getfield 10), (25, .getfield 124)]
theorem bX6_restore_21_ok : ∀ q ∈ bX6_restore_21, decode mX6_restore.2.1 q.1 = .ok (q.2, aLn q.2) := by decide +kernel
theorem dX6_restore_4 : decode mX6_restore.2.1 4 = .ok (.ifCond .ne 6, 3) := by decide +kernel
theorem dX6_restore_9 : decode mX6_restore.2.1 9 = .ok (.ireturn, 1) := by decide +kernel
theorem dX6_restore_18 : decode mX6_restore.2.1 18 = .ok (.invokevirtual 68, 3) := by decide +kernel
theorem dX6_restore_28 : decode mX6_restore.2.1 28 = .ok (.ireturn, 1) := by decide +kernel
def bX6_count_0 : List (Nat × Instr) := [(0, .iload_n 1)]
theorem bX6_count_0_ok : ∀ q ∈ bX6_count_0, decode mX6_count.2.1 q.1 = .ok (q.2, aLn q.2) := by decide +kernel
def bX6_count_36 : List (Nat × Instr) := [(36, .aload_n 0), (37, .getfield 10), (40, .getfield 196)]
theorem bX6_count_36_ok : ∀ q ∈ bX6_count_36, decode mX6_count.2.1 q.1 = .ok (q.2, aLn q.2) := by decide +kernel
def bX6_count_44 : List (Nat × Instr) := [(44, .aload_n 0), (45, .getfield 10), (48, .getfield 124)]
theorem bX6_count_44_ok : ∀ q ∈ bX6_count_44, decode mX6_count.2.1 q.1 = .ok (q.2, aLn q.2) := by decide +kernel
def bX6_count_52 : List (Nat × Instr) := [(52, .aload_n 0), (53, .getfield 10), (56, .getfield 162)]
theorem bX6_count_52_ok : ∀ q ∈ bX6_count_52, decode mX6_count.2.1 q.1 = .ok (q.2, aLn q.2) := by decide +kernel
def bX6_count_60 : List (Nat × Instr) := [(60, .aload_n 0), (61, .getfield 10)]
theorem bX6_count_60_ok : ∀ q ∈ bX6_count_60, decode mX6_count.2.1 q.1 = .ok (q.2, aLn q.2) := by decide +kernel
def bX6_count_68 : List (Nat × Instr) := [(68, .aload_n 0), (69, .getfield 10)]
theorem bX6_count_68_ok : ∀ q ∈ bX6_count_68, decode mX6_count.2.1 q.1 = .ok (q.2, aLn q.2) := by decide +kernel
def bX6_count_76 : List (Nat × Instr) := [(76, .iconst (-1))]
theorem bX6_count_76_ok : ∀ q ∈ bX6_count_76, decode mX6_count.2.1 q.1 = .ok (q.2, aLn q.2) := by decide +kernel
theorem dX6_count_1 : decode mX6_count.2.1 1 = .ok (.tableswitch 75 0 4 #[35, 43, 51, 59, 67], 35) := by decide +kernel
theorem dX6_count_43 : decode mX6_count.2.1 43 = .ok (.ireturn, 1) := by decide +kernel
theorem dX6_count_51 : decode mX6_count.2.1 51 = .ok (.ireturn, 1) := by decide +kernel
theorem dX6_count_59 : decode mX6_count.2.1 59 = .ok (.ireturn, 1) := by decide +kernel
theorem dX6_count_64 : decode mX6_count.2.1 64 = .ok (.invokevirtual 174, 3) := by decide +kernel
theorem dX6_count_67 : decode mX6_count.2.1 67 = .ok (.ireturn, 1) := by decide +kernel
theorem dX6_count_72 : decode mX6_count.2.1 72 = .ok (.invokevirtual 242, 3) := by decide +kernel
theorem dX6_count_75 : decode mX6_count.2.1 75 = .ok (.ireturn, 1) := by decide +kernel
theorem dX6_count_77 : decode mX6_count.2.1 77 = .ok (.ireturn, 1) := by decide +kernel
def bX6_keep_0 : List (Nat × Instr) := [(0, .iload_n 1)]
theorem bX6_keep_0_ok : ∀ q ∈ bX6_keep_0, decode mX6_keep.2.1 q.1 = .ok (q.2, aLn q.2) := by decide +kernel
def bX6_keep_7 : List (Nat × Instr) := [(7, .iload_n 2)]
theorem bX6_keep_7_ok : ∀ q ∈ bX6_keep_7, decode mX6_keep.2.1 q.1 = .ok (q.2, aLn q.2) := by decide +kernel
def bX6_keep_14 : List (Nat × Instr) := [(14, .iconst (-1))]
theorem bX6_keep_14_ok : ∀ q ∈ bX6_keep_14, decode mX6_keep.2.1 q.1 = .ok (q.2, aLn q.2) := by decide +kernel
def bX6_keep_16 : List (Nat × Instr) := [(16, .iload_n 2)]
theorem bX6_keep_16_ok : ∀ q ∈ bX6_keep_16, decode mX6_keep.2.1 q.1 = .ok (q.2, aLn q.2) := by decide +kernel
def bX6_keep_20 : List (Nat × Instr) := [(20, .aload_n 0), (21, .getfield 29), (24, .iload_n 1)]
theorem bX6_keep_20_ok : ∀ q ∈ bX6_keep_20, decode mX6_keep.2.1 q.1 = .ok (q.2, aLn q.2) := by decide +kernel
def bX6_keep_28 : List (Nat × Instr) := [(28, .iconst 0)]
theorem bX6_keep_28_ok : ∀ q ∈ bX6_keep_28, decode mX6_keep.2.1 q.1 = .ok (q.2, aLn q.2) := by decide +kernel
def bX6_keep_30 : List (Nat × Instr) := [(30, .iload_n 3)]
theorem bX6_keep_30_ok : ∀ q ∈ bX6_keep_30, decode mX6_keep.2.1 q.1 = .ok (q.2, aLn q.2) := by decide +kernel
def bX6_keep_34 : List (Nat × Instr) := [(34, .iload_n 3), (35, .bipush 8)]
theorem bX6_keep_34_ok : ∀ q ∈ bX6_keep_34, decode mX6_keep.2.1 q.1 = .ok (q.2, aLn q.2) := by decide +kernel
def bX6_keep_40 : List (Nat × Instr) := [(40, .iload 4)]
theorem bX6_keep_40_ok : ∀ q ∈ bX6_keep_40, decode mX6_keep.2.1 q.1 = .ok (q.2, aLn q.2) := by decide +kernel
def bX6_keep_45 : List (Nat × Instr) := [(45, .iload 4), (47, .bipush 10)]
theorem bX6_keep_45_ok : ∀ q ∈ bX6_keep_45, decode mX6_keep.2.1 q.1 = .ok (q.2, aLn q.2) := by decide +kernel
def bX6_keep_52 : List (Nat × Instr) := [(52, .iconst (-1))]
theorem bX6_keep_52_ok : ∀ q ∈ bX6_keep_52, decode mX6_keep.2.1 q.1 = .ok (q.2, aLn q.2) := by decide +kernel
def bX6_keep_54 : List (Nat × Instr) := [(54, .aload_n 0), (55, .getfield 29), (58, .iload_n 1), (59, .iload_n 3), (60, .iload 4)]
theorem bX6_keep_54_ok : ∀ q ∈ bX6_keep_54, decode mX6_keep.2.1 q.1 = .ok (q.2, aLn q.2) := by decide +kernel
def bX6_keep_65 : List (Nat × Instr) := [(65, .iconst 0)]
theorem bX6_keep_65_ok : ∀ q ∈ bX6_keep_65, decode mX6_keep.2.1 q.1 = .ok (q.2, aLn q.2) := by decide +kernel
theorem dX6_keep_1 : decode mX6_keep.2.1 1 = .ok (.invokestatic 132, 3) := by decide +kernel
theorem dX6_keep_4 : decode mX6_keep.2.1 4 = .ok (.ifCond .eq 10, 3) := by decide +kernel
theorem dX6_keep_8 : decode mX6_keep.2.1 8 = .ok (.invokestatic 171, 3) := by decide +kernel
theorem dX6_keep_11 : decode mX6_keep.2.1 11 = .ok (.ifCond .ne 5, 3) := by decide +kernel
theorem dX6_keep_15 : decode mX6_keep.2.1 15 = .ok (.ireturn, 1) := by decide +kernel
theorem dX6_keep_17 : decode mX6_keep.2.1 17 = .ok (.ifCond .ne 13, 3) := by decide +kernel
theorem dX6_keep_25 : decode mX6_keep.2.1 25 = .ok (.invokevirtual 260, 3) := by decide +kernel
theorem dX6_keep_29 : decode mX6_keep.2.1 29 = .ok (.ireturn, 1) := by decide +kernel
theorem dX6_keep_31 : decode mX6_keep.2.1 31 = .ok (.ifCond .lt 21, 3) := by decide +kernel
theorem dX6_keep_37 : decode mX6_keep.2.1 37 = .ok (.if_icmp .ge 15, 3) := by decide +kernel
theorem dX6_keep_42 : decode mX6_keep.2.1 42 = .ok (.ifCond .lt 10, 3) := by decide +kernel
theorem dX6_keep_49 : decode mX6_keep.2.1 49 = .ok (.if_icmp .lt 5, 3) := by decide +kernel
theorem dX6_keep_53 : decode mX6_keep.2.1 53 = .ok (.ireturn, 1) := by decide +kernel
theorem dX6_keep_62 : decode mX6_keep.2.1 62 = .ok (.invokevirtual 263, 3) := by decide +kernel
theorem dX6_keep_66 : decode mX6_keep.2.1 66 = .ok (.ireturn, 1) := by decide +kernel
def bX6_row_0 : List (Nat × Instr) := [(0, .iload_n 1)]
theorem bX6_row_0_ok : ∀ q ∈ bX6_row_0, decode mX6_row.2.1 q.1 = .ok (q.2, aLn q.2) := by decide +kernel
def bX6_row_7 : List (Nat × Instr) := [(7, .iload_n 2)]
theorem bX6_row_7_ok : ∀ q ∈ bX6_row_7, decode mX6_row.2.1 q.1 = .ok (q.2, aLn q.2) := by decide +kernel
def bX6_row_11 : List (Nat × Instr) := [(11, .iload_n 2), (12, .iconst 2)]
theorem bX6_row_11_ok : ∀ q ∈ bX6_row_11, decode mX6_row.2.1 q.1 = .ok (q.2, aLn q.2) := by decide +kernel
def bX6_row_16 : List (Nat × Instr) := [(16, .iload_n 3), (17, .bipush 100)]
theorem bX6_row_16_ok : ∀ q ∈ bX6_row_16, decode mX6_row.2.1 q.1 = .ok (q.2, aLn q.2) := by decide +kernel
def bX6_row_22 : List (Nat × Instr) := [(22, .iconst (-1))]
theorem bX6_row_22_ok : ∀ q ∈ bX6_row_22, decode mX6_row.2.1 q.1 = .ok (q.2, aLn q.2) := by decide +kernel
def bX6_row_24 : List (Nat × Instr) := [(24, .iload_n 3)]
theorem bX6_row_24_ok : ∀ q ∈ bX6_row_24, decode mX6_row.2.1 q.1 = .ok (q.2, aLn q.2) := by decide +kernel
def bX6_row_28 : List (Nat × Instr) := [(28, .bipush (-14))]
theorem bX6_row_28_ok : ∀ q ∈ bX6_row_28, decode mX6_row.2.1 q.1 = .ok (q.2, aLn q.2) := by decide +kernel
def bX6_row_31 : List (Nat × Instr) := [(31, .aload_n 0), (32, .getfield 29), (35, .iload_n 1), (36, .iload_n 2), (37, .iload_n 3)]
theorem bX6_row_31_ok : ∀ q ∈ bX6_row_31, decode mX6_row.2.1 q.1 = .ok (q.2, aLn q.2) := by decide +kernel
def bX6_row_41 : List (Nat × Instr) := [(41, .iconst 0)]
theorem bX6_row_41_ok : ∀ q ∈ bX6_row_41, decode mX6_row.2.1 q.1 = .ok (q.2, aLn q.2) := by decide +kernel
theorem dX6_row_1 : decode mX6_row.2.1 1 = .ok (.invokestatic 132, 3) := by decide +kernel
theorem dX6_row_4 : decode mX6_row.2.1 4 = .ok (.ifCond .eq 18, 3) := by decide +kernel
theorem dX6_row_8 : decode mX6_row.2.1 8 = .ok (.ifCond .lt 14, 3) := by decide +kernel
theorem dX6_row_13 : decode mX6_row.2.1 13 = .ok (.if_icmp .gt 9, 3) := by decide +kernel
theorem dX6_row_19 : decode mX6_row.2.1 19 = .ok (.if_icmp .le 5, 3) := by decide +kernel
theorem dX6_row_23 : decode mX6_row.2.1 23 = .ok (.ireturn, 1) := by decide +kernel
theorem dX6_row_25 : decode mX6_row.2.1 25 = .ok (.ifCond .ge 6, 3) := by decide +kernel
theorem dX6_row_30 : decode mX6_row.2.1 30 = .ok (.ireturn, 1) := by decide +kernel
theorem dX6_row_38 : decode mX6_row.2.1 38 = .ok (.invokevirtual 267, 3) := by decide +kernel
theorem dX6_row_42 : decode mX6_row.2.1 42 = .ok (.ireturn, 1) := by decide +kernel
def bX6_put_0 : List (Nat × Instr) := [(0, .aload_n 0), (1, .getfield 29), (4, .iload_n 1)]
theorem bX6_put_0_ok : ∀ q ∈ bX6_put_0, decode mX6_put.2.1 q.1 = .ok (q.2, aLn q.2) := by decide +kernel
def bX6_put_8 : List (Nat × Instr) := [(8, .istore 4), (10, .iload 4)]
theorem bX6_put_8_ok : ∀ q ∈ bX6_put_8, decode mX6_put.2.1 q.1 = .ok (q.2, aLn q.2) := by decide +kernel
def bX6_put_15 : List (Nat × Instr) := [(15, .iload 4)]
theorem bX6_put_15_ok : ∀ q ∈ bX6_put_15, decode mX6_put.2.1 q.1 = .ok (q.2, aLn q.2) := by decide +kernel
def bX6_put_18 : List (Nat × Instr) := [(18, .aload_n 0), (19, .getfield 29), (22, .iload_n 1), (23, .iload_n 2)]
theorem bX6_put_18_ok : ∀ q ∈ bX6_put_18, decode mX6_put.2.1 q.1 = .ok (q.2, aLn q.2) := by decide +kernel
def bX6_put_30 : List (Nat × Instr) := [(30, .bipush (-13))]
theorem bX6_put_30_ok : ∀ q ∈ bX6_put_30, decode mX6_put.2.1 q.1 = .ok (q.2, aLn q.2) := by decide +kernel
def bX6_put_33 : List (Nat × Instr) := [(33, .aload_n 0), (34, .getfield 29), (37, .iload_n 1), (38, .iload_n 2), (39, .iload_n 3)]
theorem bX6_put_33_ok : ∀ q ∈ bX6_put_33, decode mX6_put.2.1 q.1 = .ok (q.2, aLn q.2) := by decide +kernel
def bX6_put_43 : List (Nat × Instr) := [(43, .iconst 0)]
theorem bX6_put_43_ok : ∀ q ∈ bX6_put_43, decode mX6_put.2.1 q.1 = .ok (q.2, aLn q.2) := by decide +kernel
theorem dX6_put_5 : decode mX6_put.2.1 5 = .ok (.invokevirtual 54, 3) := by decide +kernel
theorem dX6_put_12 : decode mX6_put.2.1 12 = .ok (.ifCond .eq 6, 3) := by decide +kernel
theorem dX6_put_17 : decode mX6_put.2.1 17 = .ok (.ireturn, 1) := by decide +kernel
theorem dX6_put_24 : decode mX6_put.2.1 24 = .ok (.invokevirtual 270, 3) := by decide +kernel
theorem dX6_put_27 : decode mX6_put.2.1 27 = .ok (.ifCond .ne 6, 3) := by decide +kernel
theorem dX6_put_32 : decode mX6_put.2.1 32 = .ok (.ireturn, 1) := by decide +kernel
theorem dX6_put_40 : decode mX6_put.2.1 40 = .ok (.invokevirtual 274, 3) := by decide +kernel
theorem dX6_put_44 : decode mX6_put.2.1 44 = .ok (.ireturn, 1) := by decide +kernel
def bX6_copy_0 : List (Nat × Instr) := [(0, .iload_n 1)]
theorem bX6_copy_0_ok : ∀ q ∈ bX6_copy_0, decode mX6_copy.2.1 q.1 = .ok (q.2, aLn q.2) := by decide +kernel
def bX6_copy_7 : List (Nat × Instr) := [(7, .iload_n 3)]
theorem bX6_copy_7_ok : ∀ q ∈ bX6_copy_7, decode mX6_copy.2.1 q.1 = .ok (q.2, aLn q.2) := by decide +kernel
def bX6_copy_14 : List (Nat × Instr) := [(14, .iconst (-1))]
theorem bX6_copy_14_ok : ∀ q ∈ bX6_copy_14, decode mX6_copy.2.1 q.1 = .ok (q.2, aLn q.2) := by decide +kernel
def bX6_copy_16 : List (Nat × Instr) := [(16, .aload_n 0), (17, .getfield 29), (20, .iload_n 1)]
theorem bX6_copy_16_ok : ∀ q ∈ bX6_copy_16, decode mX6_copy.2.1 q.1 = .ok (q.2, aLn q.2) := by decide +kernel
def bX6_copy_24 : List (Nat × Instr) := [(24, .istore 6), (26, .aload_n 0), (27, .getfield 29), (30, .iload_n 3)]
theorem bX6_copy_24_ok : ∀ q ∈ bX6_copy_24, decode mX6_copy.2.1 q.1 = .ok (q.2, aLn q.2) := by decide +kernel
def bX6_copy_34 : List (Nat × Instr) := [(34, .istore 7), (36, .iload 6), (38, .bipush (-11))]
theorem bX6_copy_34_ok : ∀ q ∈ bX6_copy_34, decode mX6_copy.2.1 q.1 = .ok (q.2, aLn q.2) := by decide +kernel
def bX6_copy_43 : List (Nat × Instr) := [(43, .iload 7), (45, .bipush (-11))]
theorem bX6_copy_43_ok : ∀ q ∈ bX6_copy_43, decode mX6_copy.2.1 q.1 = .ok (q.2, aLn q.2) := by decide +kernel
def bX6_copy_50 : List (Nat × Instr) := [(50, .bipush (-11))]
theorem bX6_copy_50_ok : ∀ q ∈ bX6_copy_50, decode mX6_copy.2.1 q.1 = .ok (q.2, aLn q.2) := by decide +kernel
def bX6_copy_53 : List (Nat × Instr) := [(53, .iload 6)]
theorem bX6_copy_53_ok : ∀ q ∈ bX6_copy_53, decode mX6_copy.2.1 q.1 = .ok (q.2, aLn q.2) := by decide +kernel
def bX6_copy_58 : List (Nat × Instr) := [(58, .iload 7)]
theorem bX6_copy_58_ok : ∀ q ∈ bX6_copy_58, decode mX6_copy.2.1 q.1 = .ok (q.2, aLn q.2) := by decide +kernel
def bX6_copy_63 : List (Nat × Instr) := [(63, .aload_n 0), (64, .getfield 29), (67, .iload_n 1), (68, .iload_n 3)]
theorem bX6_copy_63_ok : ∀ q ∈ bX6_copy_63, decode mX6_copy.2.1 q.1 = .ok (q.2, aLn q.2) := by decide +kernel
def bX6_copy_75 : List (Nat × Instr) := [(75, .bipush (-12))]
theorem bX6_copy_75_ok : ∀ q ∈ bX6_copy_75, decode mX6_copy.2.1 q.1 = .ok (q.2, aLn q.2) := by decide +kernel
def bX6_copy_78 : List (Nat × Instr) := [(78, .aload_n 0), (79, .getfield 29), (82, .iload_n 1), (83, .iload_n 2), (84, .iload 5)]
theorem bX6_copy_78_ok : ∀ q ∈ bX6_copy_78, decode mX6_copy.2.1 q.1 = .ok (q.2, aLn q.2) := by decide +kernel
def bX6_copy_92 : List (Nat × Instr) := [(92, .aload_n 0), (93, .getfield 29), (96, .iload_n 3), (97, .iload 4), (99, .iload 5)]
theorem bX6_copy_92_ok : ∀ q ∈ bX6_copy_92, decode mX6_copy.2.1 q.1 = .ok (q.2, aLn q.2) := by decide +kernel
def bX6_copy_107 : List (Nat × Instr) := [(107, .bipush (-13))]
theorem bX6_copy_107_ok : ∀ q ∈ bX6_copy_107, decode mX6_copy.2.1 q.1 = .ok (q.2, aLn q.2) := by decide +kernel
def bX6_copy_110 : List (Nat × Instr) := [(110, .aload_n 0), (111, .getfield 29), (114, .iload_n 1), (115, .iload_n 2), (116, .iload_n 3), (117, .iload 4), (119, .iload 5)]
theorem bX6_copy_110_ok : ∀ q ∈ bX6_copy_110, decode mX6_copy.2.1 q.1 = .ok (q.2, aLn q.2) := by decide +kernel
def bX6_copy_124 : List (Nat × Instr) := [(124, .iload 5)]
theorem bX6_copy_124_ok : ∀ q ∈ bX6_copy_124, decode mX6_copy.2.1 q.1 = .ok (q.2, aLn q.2) := by decide +kernel
theorem dX6_copy_1 : decode mX6_copy.2.1 1 = .ok (.invokestatic 132, 3) := by decide +kernel
theorem dX6_copy_4 : decode mX6_copy.2.1 4 = .ok (.ifCond .eq 10, 3) := by decide +kernel
theorem dX6_copy_8 : decode mX6_copy.2.1 8 = .ok (.invokestatic 132, 3) := by decide +kernel
theorem dX6_copy_11 : decode mX6_copy.2.1 11 = .ok (.ifCond .ne 5, 3) := by decide +kernel
theorem dX6_copy_15 : decode mX6_copy.2.1 15 = .ok (.ireturn, 1) := by decide +kernel
theorem dX6_copy_21 : decode mX6_copy.2.1 21 = .ok (.invokevirtual 54, 3) := by decide +kernel
theorem dX6_copy_31 : decode mX6_copy.2.1 31 = .ok (.invokevirtual 54, 3) := by decide +kernel
theorem dX6_copy_40 : decode mX6_copy.2.1 40 = .ok (.if_icmp .eq 10, 3) := by decide +kernel
theorem dX6_copy_47 : decode mX6_copy.2.1 47 = .ok (.if_icmp .ne 6, 3) := by decide +kernel
theorem dX6_copy_52 : decode mX6_copy.2.1 52 = .ok (.ireturn, 1) := by decide +kernel
theorem dX6_copy_55 : decode mX6_copy.2.1 55 = .ok (.ifCond .ne 20, 3) := by decide +kernel
theorem dX6_copy_60 : decode mX6_copy.2.1 60 = .ok (.ifCond .ne 15, 3) := by decide +kernel
theorem dX6_copy_69 : decode mX6_copy.2.1 69 = .ok (.invokevirtual 291, 3) := by decide +kernel
theorem dX6_copy_72 : decode mX6_copy.2.1 72 = .ok (.ifCond .ne 6, 3) := by decide +kernel
theorem dX6_copy_77 : decode mX6_copy.2.1 77 = .ok (.ireturn, 1) := by decide +kernel
theorem dX6_copy_86 : decode mX6_copy.2.1 86 = .ok (.invokevirtual 294, 3) := by decide +kernel
theorem dX6_copy_89 : decode mX6_copy.2.1 89 = .ok (.ifCond .eq 18, 3) := by decide +kernel
theorem dX6_copy_101 : decode mX6_copy.2.1 101 = .ok (.invokevirtual 294, 3) := by decide +kernel
theorem dX6_copy_104 : decode mX6_copy.2.1 104 = .ok (.ifCond .ne 6, 3) := by decide +kernel
theorem dX6_copy_109 : decode mX6_copy.2.1 109 = .ok (.ireturn, 1) := by decide +kernel
theorem dX6_copy_121 : decode mX6_copy.2.1 121 = .ok (.invokevirtual 297, 3) := by decide +kernel
theorem dX6_copy_126 : decode mX6_copy.2.1 126 = .ok (.ireturn, 1) := by decide +kernel
def bX6_cost_0 : List (Nat × Instr) := [(0, .aload_n 0), (1, .getfield 29), (4, .iload_n 1)]
theorem bX6_cost_0_ok : ∀ q ∈ bX6_cost_0, decode mX6_cost.2.1 q.1 = .ok (q.2, aLn q.2) := by decide +kernel
def bX6_cost_8 : List (Nat × Instr) := [(8, .istore_n 2), (9, .iload_n 2)]
theorem bX6_cost_8_ok : ∀ q ∈ bX6_cost_8, decode mX6_cost.2.1 q.1 = .ok (q.2, aLn q.2) := by decide +kernel
def bX6_cost_13 : List (Nat × Instr) := [(13, .iload_n 2)]
theorem bX6_cost_13_ok : ∀ q ∈ bX6_cost_13, decode mX6_cost.2.1 q.1 = .ok (q.2, aLn q.2) := by decide +kernel
def bX6_cost_15 : List (Nat × Instr) := [(15, .aload_n 0), (16, .getfield 29), (19, .iload_n 1)]
theorem bX6_cost_15_ok : ∀ q ∈ bX6_cost_15, decode mX6_cost.2.1 q.1 = .ok (q.2, aLn q.2) := by decide +kernel
def bX6_cost_23 : List (Nat × Instr) := [(23, .aload_n 0), (24, .getfield 29), (27, .iload_n 1)]
theorem bX6_cost_23_ok : ∀ q ∈ bX6_cost_23, decode mX6_cost.2.1 q.1 = .ok (q.2, aLn q.2) := by decide +kernel
theorem dX6_cost_5 : decode mX6_cost.2.1 5 = .ok (.invokevirtual 138, 3) := by decide +kernel
theorem dX6_cost_10 : decode mX6_cost.2.1 10 = .ok (.ifCond .eq 5, 3) := by decide +kernel
theorem dX6_cost_14 : decode mX6_cost.2.1 14 = .ok (.ireturn, 1) := by decide +kernel
theorem dX6_cost_20 : decode mX6_cost.2.1 20 = .ok (.invokevirtual 141, 3) := by decide +kernel
theorem dX6_cost_28 : decode mX6_cost.2.1 28 = .ok (.invokevirtual 144, 3) := by decide +kernel
theorem dX6_cost_31 : decode mX6_cost.2.1 31 = .ok (.invokestatic 301, 3) := by decide +kernel
theorem dX6_cost_34 : decode mX6_cost.2.1 34 = .ok (.ireturn, 1) := by decide +kernel
def bX6_isShelf_0 : List (Nat × Instr) := [(0, .iload_n 0)]
theorem bX6_isShelf_0_ok : ∀ q ∈ bX6_isShelf_0, decode mX6_isShelf.2.1 q.1 = .ok (q.2, aLn q.2) := by decide +kernel
def bX6_isShelf_4 : List (Nat × Instr) := [(4, .iload_n 0), (5, .bipush 8)]
theorem bX6_isShelf_4_ok : ∀ q ∈ bX6_isShelf_4, decode mX6_isShelf.2.1 q.1 = .ok (q.2, aLn q.2) := by decide +kernel
def bX6_isShelf_10 : List (Nat × Instr) := [(10, .iconst 1), (11, .goto 4)]
theorem bX6_isShelf_10_ok : ∀ q ∈ bX6_isShelf_10, decode mX6_isShelf.2.1 q.1 = .ok (q.2, aLn q.2) := by decide +kernel
def bX6_isShelf_14 : List (Nat × Instr) := [(14, .iconst 0)]
theorem bX6_isShelf_14_ok : ∀ q ∈ bX6_isShelf_14, decode mX6_isShelf.2.1 q.1 = .ok (q.2, aLn q.2) := by decide +kernel
theorem dX6_isShelf_1 : decode mX6_isShelf.2.1 1 = .ok (.ifCond .lt 13, 3) := by decide +kernel
theorem dX6_isShelf_7 : decode mX6_isShelf.2.1 7 = .ok (.if_icmp .ge 7, 3) := by decide +kernel
theorem dX6_isShelf_15 : decode mX6_isShelf.2.1 15 = .ok (.ireturn, 1) := by decide +kernel
def bX6_isOffice_0 : List (Nat × Instr) := [(0, .iload_n 0)]
theorem bX6_isOffice_0_ok : ∀ q ∈ bX6_isOffice_0, decode mX6_isOffice.2.1 q.1 = .ok (q.2, aLn q.2) := by decide +kernel
def bX6_isOffice_4 : List (Nat × Instr) := [(4, .iload_n 0), (5, .iconst 5)]
theorem bX6_isOffice_4_ok : ∀ q ∈ bX6_isOffice_4, decode mX6_isOffice.2.1 q.1 = .ok (q.2, aLn q.2) := by decide +kernel
def bX6_isOffice_9 : List (Nat × Instr) := [(9, .iconst 1), (10, .goto 4)]
theorem bX6_isOffice_9_ok : ∀ q ∈ bX6_isOffice_9, decode mX6_isOffice.2.1 q.1 = .ok (q.2, aLn q.2) := by decide +kernel
def bX6_isOffice_13 : List (Nat × Instr) := [(13, .iconst 0)]
theorem bX6_isOffice_13_ok : ∀ q ∈ bX6_isOffice_13, decode mX6_isOffice.2.1 q.1 = .ok (q.2, aLn q.2) := by decide +kernel
theorem dX6_isOffice_1 : decode mX6_isOffice.2.1 1 = .ok (.ifCond .lt 12, 3) := by decide +kernel
theorem dX6_isOffice_6 : decode mX6_isOffice.2.1 6 = .ok (.if_icmp .ge 7, 3) := by decide +kernel
theorem dX6_isOffice_14 : decode mX6_isOffice.2.1 14 = .ok (.ireturn, 1) := by decide +kernel
def bX6_isCostume_0 : List (Nat × Instr) := [(0, .iload_n 0)]
theorem bX6_isCostume_0_ok : ∀ q ∈ bX6_isCostume_0, decode mX6_isCostume.2.1 q.1 = .ok (q.2, aLn q.2) := by decide +kernel
def bX6_isCostume_4 : List (Nat × Instr) := [(4, .iload_n 0), (5, .bipush 10)]
theorem bX6_isCostume_4_ok : ∀ q ∈ bX6_isCostume_4, decode mX6_isCostume.2.1 q.1 = .ok (q.2, aLn q.2) := by decide +kernel
def bX6_isCostume_10 : List (Nat × Instr) := [(10, .iconst 1), (11, .goto 4)]
theorem bX6_isCostume_10_ok : ∀ q ∈ bX6_isCostume_10, decode mX6_isCostume.2.1 q.1 = .ok (q.2, aLn q.2) := by decide +kernel
def bX6_isCostume_14 : List (Nat × Instr) := [(14, .iconst 0)]
theorem bX6_isCostume_14_ok : ∀ q ∈ bX6_isCostume_14, decode mX6_isCostume.2.1 q.1 = .ok (q.2, aLn q.2) := by decide +kernel
theorem dX6_isCostume_1 : decode mX6_isCostume.2.1 1 = .ok (.ifCond .lt 13, 3) := by decide +kernel
theorem dX6_isCostume_7 : decode mX6_isCostume.2.1 7 = .ok (.if_icmp .ge 7, 3) := by decide +kernel
theorem dX6_isCostume_15 : decode mX6_isCostume.2.1 15 = .ok (.ireturn, 1) := by decide +kernel
def bX6_isMate_0 : List (Nat × Instr) := [(0, .iload_n 0)]
theorem bX6_isMate_0_ok : ∀ q ∈ bX6_isMate_0, decode mX6_isMate.2.1 q.1 = .ok (q.2, aLn q.2) := by decide +kernel
def bX6_isMate_4 : List (Nat × Instr) := [(4, .iload_n 0), (5, .bipush 8)]
theorem bX6_isMate_4_ok : ∀ q ∈ bX6_isMate_4, decode mX6_isMate.2.1 q.1 = .ok (q.2, aLn q.2) := by decide +kernel
def bX6_isMate_10 : List (Nat × Instr) := [(10, .iload_n 0), (11, .bipush 9)]
theorem bX6_isMate_10_ok : ∀ q ∈ bX6_isMate_10, decode mX6_isMate.2.1 q.1 = .ok (q.2, aLn q.2) := by decide +kernel
def bX6_isMate_16 : List (Nat × Instr) := [(16, .iconst 1), (17, .goto 4)]
theorem bX6_isMate_16_ok : ∀ q ∈ bX6_isMate_16, decode mX6_isMate.2.1 q.1 = .ok (q.2, aLn q.2) := by decide +kernel
def bX6_isMate_20 : List (Nat × Instr) := [(20, .iconst 0)]
theorem bX6_isMate_20_ok : ∀ q ∈ bX6_isMate_20, decode mX6_isMate.2.1 q.1 = .ok (q.2, aLn q.2) := by decide +kernel
theorem dX6_isMate_1 : decode mX6_isMate.2.1 1 = .ok (.ifCond .lt 19, 3) := by decide +kernel
theorem dX6_isMate_7 : decode mX6_isMate.2.1 7 = .ok (.if_icmp .lt 9, 3) := by decide +kernel
theorem dX6_isMate_13 : decode mX6_isMate.2.1 13 = .ok (.if_icmp .ne 7, 3) := by decide +kernel
theorem dX6_isMate_21 : decode mX6_isMate.2.1 21 = .ok (.ireturn, 1) := by decide +kernel
def bX6_isAhead_0 : List (Nat × Instr) := [(0, .iload_n 0)]
theorem bX6_isAhead_0_ok : ∀ q ∈ bX6_isAhead_0, decode mX6_isAhead.2.1 q.1 = .ok (q.2, aLn q.2) := by decide +kernel
def bX6_isAhead_4 : List (Nat × Instr) := [(4, .iload_n 0), (5, .bipush 60)]
theorem bX6_isAhead_4_ok : ∀ q ∈ bX6_isAhead_4, decode mX6_isAhead.2.1 q.1 = .ok (q.2, aLn q.2) := by decide +kernel
def bX6_isAhead_10 : List (Nat × Instr) := [(10, .iconst 1), (11, .goto 4)]
theorem bX6_isAhead_10_ok : ∀ q ∈ bX6_isAhead_10, decode mX6_isAhead.2.1 q.1 = .ok (q.2, aLn q.2) := by decide +kernel
def bX6_isAhead_14 : List (Nat × Instr) := [(14, .iconst 0)]
theorem bX6_isAhead_14_ok : ∀ q ∈ bX6_isAhead_14, decode mX6_isAhead.2.1 q.1 = .ok (q.2, aLn q.2) := by decide +kernel
theorem dX6_isAhead_1 : decode mX6_isAhead.2.1 1 = .ok (.ifCond .lt 13, 3) := by decide +kernel
theorem dX6_isAhead_7 : decode mX6_isAhead.2.1 7 = .ok (.if_icmp .gt 7, 3) := by decide +kernel
theorem dX6_isAhead_15 : decode mX6_isAhead.2.1 15 = .ok (.ireturn, 1) := by decide +kernel
def bX6_isChoice_0 : List (Nat × Instr) := [(0, .iload_n 0)]
theorem bX6_isChoice_0_ok : ∀ q ∈ bX6_isChoice_0, decode mX6_isChoice.2.1 q.1 = .ok (q.2, aLn q.2) := by decide +kernel
def bX6_isChoice_4 : List (Nat × Instr) := [(4, .iload_n 0), (5, .iconst 1)]
theorem bX6_isChoice_4_ok : ∀ q ∈ bX6_isChoice_4, decode mX6_isChoice.2.1 q.1 = .ok (q.2, aLn q.2) := by decide +kernel
def bX6_isChoice_9 : List (Nat × Instr) := [(9, .iconst 1), (10, .goto 4)]
theorem bX6_isChoice_9_ok : ∀ q ∈ bX6_isChoice_9, decode mX6_isChoice.2.1 q.1 = .ok (q.2, aLn q.2) := by decide +kernel
def bX6_isChoice_13 : List (Nat × Instr) := [(13, .iconst 0)]
theorem bX6_isChoice_13_ok : ∀ q ∈ bX6_isChoice_13, decode mX6_isChoice.2.1 q.1 = .ok (q.2, aLn q.2) := by decide +kernel
theorem dX6_isChoice_1 : decode mX6_isChoice.2.1 1 = .ok (.ifCond .eq 8, 3) := by decide +kernel
theorem dX6_isChoice_6 : decode mX6_isChoice.2.1 6 = .ok (.if_icmp .ne 7, 3) := by decide +kernel
theorem dX6_isChoice_14 : decode mX6_isChoice.2.1 14 = .ok (.ireturn, 1) := by decide +kernel
def bX6_orNone_0 : List (Nat × Instr) := [(0, .iload_n 0), (1, .iconst (-1))]
theorem bX6_orNone_0_ok : ∀ q ∈ bX6_orNone_0, decode mX6_orNone.2.1 q.1 = .ok (q.2, aLn q.2) := by decide +kernel
def bX6_orNone_5 : List (Nat × Instr) := [(5, .bipush (-4)), (7, .goto 4)]
theorem bX6_orNone_5_ok : ∀ q ∈ bX6_orNone_5, decode mX6_orNone.2.1 q.1 = .ok (q.2, aLn q.2) := by decide +kernel
def bX6_orNone_10 : List (Nat × Instr) := [(10, .iload_n 0)]
theorem bX6_orNone_10_ok : ∀ q ∈ bX6_orNone_10, decode mX6_orNone.2.1 q.1 = .ok (q.2, aLn q.2) := by decide +kernel
theorem dX6_orNone_2 : decode mX6_orNone.2.1 2 = .ok (.if_icmp .ne 8, 3) := by decide +kernel
theorem dX6_orNone_11 : decode mX6_orNone.2.1 11 = .ok (.ireturn, 1) := by decide +kernel
def bX6_foresee_0 : List (Nat × Instr) := [(0, .aload_n 0), (1, .getfield 16), (4, .aload_n 0), (5, .getfield 10)]
theorem bX6_foresee_0_ok : ∀ q ∈ bX6_foresee_0, decode mX6_foresee.2.1 q.1 = .ok (q.2, aLn q.2) := by decide +kernel
def bX6_foresee_11 : List (Nat × Instr) := [(11, .aload_n 0), (12, .getfield 16), (15, .iload_n 1)]
theorem bX6_foresee_11_ok : ∀ q ∈ bX6_foresee_11, decode mX6_foresee.2.1 q.1 = .ok (q.2, aLn q.2) := by decide +kernel
theorem dX6_foresee_8 : decode mX6_foresee.2.1 8 = .ok (.invokevirtual 68, 3) := by decide +kernel
theorem dX6_foresee_16 : decode mX6_foresee.2.1 16 = .ok (.invokevirtual 159, 3) := by decide +kernel
theorem dX6_foresee_19 : decode mX6_foresee.2.1 19 = .ok (.return_, 1) := by decide +kernel
def bX6_fallenIn_0 : List (Nat × Instr) := [(0, .aload_n 0), (1, .getfield 16), (4, .aload_n 0), (5, .getfield 10)]
theorem bX6_fallenIn_0_ok : ∀ q ∈ bX6_fallenIn_0, decode mX6_fallenIn.2.1 q.1 = .ok (q.2, aLn q.2) := by decide +kernel
def bX6_fallenIn_11 : List (Nat × Instr) := [(11, .aload_n 0), (12, .getfield 16), (15, .getfield 112), (18, .iload_n 1), (19, .iload_n 2), (20, .iastore), (21, .aload_n 0), (22, .getfield 16), (25, .iload_n 3)]
theorem bX6_fallenIn_11_ok : ∀ q ∈ bX6_fallenIn_11, decode mX6_fallenIn.2.1 q.1 = .ok (q.2, aLn q.2) := by decide +kernel
def bX6_fallenIn_29 : List (Nat × Instr) := [(29, .aload_n 0), (30, .getfield 16), (33, .getfield 162)]
theorem bX6_fallenIn_29_ok : ∀ q ∈ bX6_fallenIn_29, decode mX6_fallenIn.2.1 q.1 = .ok (q.2, aLn q.2) := by decide +kernel
theorem dX6_fallenIn_8 : decode mX6_fallenIn.2.1 8 = .ok (.invokevirtual 68, 3) := by decide +kernel
theorem dX6_fallenIn_26 : decode mX6_fallenIn.2.1 26 = .ok (.invokevirtual 159, 3) := by decide +kernel
theorem dX6_fallenIn_36 : decode mX6_fallenIn.2.1 36 = .ok (.ireturn, 1) := by decide +kernel
def bX6_fallenWithout_0 : List (Nat × Instr) := [(0, .aload_n 0), (1, .getfield 16), (4, .aload_n 0), (5, .getfield 10)]
theorem bX6_fallenWithout_0_ok : ∀ q ∈ bX6_fallenWithout_0, decode mX6_fallenWithout.2.1 q.1 = .ok (q.2, aLn q.2) := by decide +kernel
def bX6_fallenWithout_11 : List (Nat × Instr) := [(11, .aload_n 0), (12, .getfield 16), (15, .iload_n 1)]
theorem bX6_fallenWithout_11_ok : ∀ q ∈ bX6_fallenWithout_11, decode mX6_fallenWithout.2.1 q.1 = .ok (q.2, aLn q.2) := by decide +kernel
def bX6_fallenWithout_19 : List (Nat × Instr) := [(19, .aload_n 0), (20, .getfield 16), (23, .iload_n 2)]
theorem bX6_fallenWithout_19_ok : ∀ q ∈ bX6_fallenWithout_19, decode mX6_fallenWithout.2.1 q.1 = .ok (q.2, aLn q.2) := by decide +kernel
def bX6_fallenWithout_27 : List (Nat × Instr) := [(27, .aload_n 0), (28, .getfield 16), (31, .getfield 162)]
theorem bX6_fallenWithout_27_ok : ∀ q ∈ bX6_fallenWithout_27, decode mX6_fallenWithout.2.1 q.1 = .ok (q.2, aLn q.2) := by decide +kernel
theorem dX6_fallenWithout_8 : decode mX6_fallenWithout.2.1 8 = .ok (.invokevirtual 68, 3) := by decide +kernel
theorem dX6_fallenWithout_16 : decode mX6_fallenWithout.2.1 16 = .ok (.invokevirtual 155, 3) := by decide +kernel
theorem dX6_fallenWithout_24 : decode mX6_fallenWithout.2.1 24 = .ok (.invokevirtual 159, 3) := by decide +kernel
theorem dX6_fallenWithout_34 : decode mX6_fallenWithout.2.1 34 = .ok (.ireturn, 1) := by decide +kernel
def bX6_fallenChanged_0 : List (Nat × Instr) := [(0, .aload_n 0), (1, .getfield 16), (4, .aload_n 0), (5, .getfield 10)]
theorem bX6_fallenChanged_0_ok : ∀ q ∈ bX6_fallenChanged_0, decode mX6_fallenChanged.2.1 q.1 = .ok (q.2, aLn q.2) := by decide +kernel
def bX6_fallenChanged_11 : List (Nat × Instr) := [(11, .aload_n 0), (12, .getfield 16), (15, .getfield 112), (18, .iload_n 1), (19, .aload_n 0), (20, .getfield 10), (23, .getfield 112), (26, .iload_n 2), (27, .iaload), (28, .iastore), (29, .aload_n 0), (30, .getfield 16), (33, .getfield 112), (36, .iload_n 2), (37, .aload_n 0), (38, .getfield 10), (41, .getfield 112), (44, .iload_n 1), (45, .iaload), (46, .iastore), (47, .aload_n 0), (48, .getfield 16), (51, .iload_n 3)]
theorem bX6_fallenChanged_11_ok : ∀ q ∈ bX6_fallenChanged_11, decode mX6_fallenChanged.2.1 q.1 = .ok (q.2, aLn q.2) := by decide +kernel
def bX6_fallenChanged_55 : List (Nat × Instr) := [(55, .aload_n 0), (56, .getfield 16), (59, .getfield 162)]
theorem bX6_fallenChanged_55_ok : ∀ q ∈ bX6_fallenChanged_55, decode mX6_fallenChanged.2.1 q.1 = .ok (q.2, aLn q.2) := by decide +kernel
theorem dX6_fallenChanged_8 : decode mX6_fallenChanged.2.1 8 = .ok (.invokevirtual 68, 3) := by decide +kernel
theorem dX6_fallenChanged_52 : decode mX6_fallenChanged.2.1 52 = .ok (.invokevirtual 159, 3) := by decide +kernel
theorem dX6_fallenChanged_62 : decode mX6_fallenChanged.2.1 62 = .ok (.ireturn, 1) := by decide +kernel
def bX6_stable_0 : List (Nat × Instr) := [(0, .aload_n 0), (1, .getfield 16), (4, .aload_n 0), (5, .getfield 10)]
theorem bX6_stable_0_ok : ∀ q ∈ bX6_stable_0, decode mX6_stable.2.1 q.1 = .ok (q.2, aLn q.2) := by decide +kernel
def bX6_stable_11 : List (Nat × Instr) := [(11, .iconst 0), (12, .istore_n 1), (13, .iconst 1), (14, .istore_n 2)]
theorem bX6_stable_11_ok : ∀ q ∈ bX6_stable_11, decode mX6_stable.2.1 q.1 = .ok (q.2, aLn q.2) := by decide +kernel
def bX6_stable_15 : List (Nat × Instr) := [(15, .iload_n 2), (16, .bipush 60)]
theorem bX6_stable_15_ok : ∀ q ∈ bX6_stable_15, decode mX6_stable.2.1 q.1 = .ok (q.2, aLn q.2) := by decide +kernel
def bX6_stable_21 : List (Nat × Instr) := [(21, .aload_n 0), (22, .getfield 16)]
theorem bX6_stable_21_ok : ∀ q ∈ bX6_stable_21, decode mX6_stable.2.1 q.1 = .ok (q.2, aLn q.2) := by decide +kernel
def bX6_stable_28 : List (Nat × Instr) := [(28, .aload_n 0), (29, .getfield 16), (32, .getfield 312)]
theorem bX6_stable_28_ok : ∀ q ∈ bX6_stable_28, decode mX6_stable.2.1 q.1 = .ok (q.2, aLn q.2) := by decide +kernel
def bX6_stable_38 : List (Nat × Instr) := [(38, .iload_n 2), (39, .istore_n 1), (40, .goto 13)]
theorem bX6_stable_38_ok : ∀ q ∈ bX6_stable_38, decode mX6_stable.2.1 q.1 = .ok (q.2, aLn q.2) := by decide +kernel
def bX6_stable_43 : List (Nat × Instr) := [(43, .iload_n 2), (44, .iload_n 1), (45, .isub), (46, .bipush 10)]
theorem bX6_stable_43_ok : ∀ q ∈ bX6_stable_43, decode mX6_stable.2.1 q.1 = .ok (q.2, aLn q.2) := by decide +kernel
def bX6_stable_51 : List (Nat × Instr) := [(51, .iload_n 1)]
theorem bX6_stable_51_ok : ∀ q ∈ bX6_stable_51, decode mX6_stable.2.1 q.1 = .ok (q.2, aLn q.2) := by decide +kernel
def bX6_stable_53 : List (Nat × Instr) := [(53, .iinc 2 1), (56, .goto (-41))]
theorem bX6_stable_53_ok : ∀ q ∈ bX6_stable_53, decode mX6_stable.2.1 q.1 = .ok (q.2, aLn q.2) := by decide +kernel
def bX6_stable_59 : List (Nat × Instr) := [(59, .bipush (-4))]
theorem bX6_stable_59_ok : ∀ q ∈ bX6_stable_59, decode mX6_stable.2.1 q.1 = .ok (q.2, aLn q.2) := by decide +kernel
theorem dX6_stable_8 : decode mX6_stable.2.1 8 = .ok (.invokevirtual 68, 3) := by decide +kernel
theorem dX6_stable_18 : decode mX6_stable.2.1 18 = .ok (.if_icmp .gt 41, 3) := by decide +kernel
theorem dX6_stable_25 : decode mX6_stable.2.1 25 = .ok (.invokevirtual 178, 3) := by decide +kernel
theorem dX6_stable_35 : decode mX6_stable.2.1 35 = .ok (.ifCond .le 8, 3) := by decide +kernel
theorem dX6_stable_48 : decode mX6_stable.2.1 48 = .ok (.if_icmp .lt 5, 3) := by decide +kernel
theorem dX6_stable_52 : decode mX6_stable.2.1 52 = .ok (.ireturn, 1) := by decide +kernel
theorem dX6_stable_61 : decode mX6_stable.2.1 61 = .ok (.ireturn, 1) := by decide +kernel
def bX6_firstUnlike_0 : List (Nat × Instr) := [(0, .aload_n 0), (1, .getfield 29), (4, .iload_n 1)]
theorem bX6_firstUnlike_0_ok : ∀ q ∈ bX6_firstUnlike_0, decode mX6_firstUnlike.2.1 q.1 = .ok (q.2, aLn q.2) := by decide +kernel
def bX6_firstUnlike_8 : List (Nat × Instr) := [(8, .istore 4), (10, .iconst 0), (11, .istore 5)]
theorem bX6_firstUnlike_8_ok : ∀ q ∈ bX6_firstUnlike_8, decode mX6_firstUnlike.2.1 q.1 = .ok (q.2, aLn q.2) := by decide +kernel
def bX6_firstUnlike_13 : List (Nat × Instr) := [(13, .iload 5), (15, .iload 4)]
theorem bX6_firstUnlike_13_ok : ∀ q ∈ bX6_firstUnlike_13, decode mX6_firstUnlike.2.1 q.1 = .ok (q.2, aLn q.2) := by decide +kernel
def bX6_firstUnlike_20 : List (Nat × Instr) := [(20, .iload 5)]
theorem bX6_firstUnlike_20_ok : ∀ q ∈ bX6_firstUnlike_20, decode mX6_firstUnlike.2.1 q.1 = .ok (q.2, aLn q.2) := by decide +kernel
def bX6_firstUnlike_25 : List (Nat × Instr) := [(25, .aload_n 0), (26, .getfield 16)]
theorem bX6_firstUnlike_25_ok : ∀ q ∈ bX6_firstUnlike_25, decode mX6_firstUnlike.2.1 q.1 = .ok (q.2, aLn q.2) := by decide +kernel
def bX6_firstUnlike_32 : List (Nat × Instr) := [(32, .aload_n 0), (33, .getfield 29), (36, .iload_n 1), (37, .iload 5)]
theorem bX6_firstUnlike_32_ok : ∀ q ∈ bX6_firstUnlike_32, decode mX6_firstUnlike.2.1 q.1 = .ok (q.2, aLn q.2) := by decide +kernel
def bX6_firstUnlike_45 : List (Nat × Instr) := [(45, .aload_n 0), (46, .getfield 29), (49, .iload_n 1), (50, .iload 5)]
theorem bX6_firstUnlike_45_ok : ∀ q ∈ bX6_firstUnlike_45, decode mX6_firstUnlike.2.1 q.1 = .ok (q.2, aLn q.2) := by decide +kernel
def bX6_firstUnlike_55 : List (Nat × Instr) := [(55, .aload_n 0), (56, .iload_n 2), (57, .iload_n 3)]
theorem bX6_firstUnlike_55_ok : ∀ q ∈ bX6_firstUnlike_55, decode mX6_firstUnlike.2.1 q.1 = .ok (q.2, aLn q.2) := by decide +kernel
def bX6_firstUnlike_64 : List (Nat × Instr) := [(64, .iload 5)]
theorem bX6_firstUnlike_64_ok : ∀ q ∈ bX6_firstUnlike_64, decode mX6_firstUnlike.2.1 q.1 = .ok (q.2, aLn q.2) := by decide +kernel
def bX6_firstUnlike_67 : List (Nat × Instr) := [(67, .iinc 5 1), (70, .goto (-57))]
theorem bX6_firstUnlike_67_ok : ∀ q ∈ bX6_firstUnlike_67, decode mX6_firstUnlike.2.1 q.1 = .ok (q.2, aLn q.2) := by decide +kernel
def bX6_firstUnlike_73 : List (Nat × Instr) := [(73, .bipush (-4))]
theorem bX6_firstUnlike_73_ok : ∀ q ∈ bX6_firstUnlike_73, decode mX6_firstUnlike.2.1 q.1 = .ok (q.2, aLn q.2) := by decide +kernel
theorem dX6_firstUnlike_5 : decode mX6_firstUnlike.2.1 5 = .ok (.invokevirtual 245, 3) := by decide +kernel
theorem dX6_firstUnlike_17 : decode mX6_firstUnlike.2.1 17 = .ok (.if_icmp .ge 56, 3) := by decide +kernel
theorem dX6_firstUnlike_22 : decode mX6_firstUnlike.2.1 22 = .ok (.ifCond .le 10, 3) := by decide +kernel
theorem dX6_firstUnlike_29 : decode mX6_firstUnlike.2.1 29 = .ok (.invokevirtual 178, 3) := by decide +kernel
theorem dX6_firstUnlike_39 : decode mX6_firstUnlike.2.1 39 = .ok (.invokevirtual 315, 3) := by decide +kernel
theorem dX6_firstUnlike_42 : decode mX6_firstUnlike.2.1 42 = .ok (.ifCond .ne 25, 3) := by decide +kernel
theorem dX6_firstUnlike_52 : decode mX6_firstUnlike.2.1 52 = .ok (.invokevirtual 248, 3) := by decide +kernel
theorem dX6_firstUnlike_58 : decode mX6_firstUnlike.2.1 58 = .ok (.invokevirtual 318, 3) := by decide +kernel
theorem dX6_firstUnlike_61 : decode mX6_firstUnlike.2.1 61 = .ok (.if_icmp .eq 6, 3) := by decide +kernel
theorem dX6_firstUnlike_66 : decode mX6_firstUnlike.2.1 66 = .ok (.ireturn, 1) := by decide +kernel
theorem dX6_firstUnlike_75 : decode mX6_firstUnlike.2.1 75 = .ok (.ireturn, 1) := by decide +kernel
def bX6_measured_0 : List (Nat × Instr) := [(0, .iload_n 1)]
theorem bX6_measured_0_ok : ∀ q ∈ bX6_measured_0, decode mX6_measured.2.1 q.1 = .ok (q.2, aLn q.2) := by decide +kernel
def bX6_measured_28 : List (Nat × Instr) := [(28, .aload_n 0), (29, .getfield 16), (32, .iload_n 2)]
theorem bX6_measured_28_ok : ∀ q ∈ bX6_measured_28, decode mX6_measured.2.1 q.1 = .ok (q.2, aLn q.2) := by decide +kernel
def bX6_measured_39 : List (Nat × Instr) := [(39, .aload_n 0), (40, .getfield 16), (43, .getfield 85), (46, .iload_n 2), (47, .iaload), (48, .goto 4)]
theorem bX6_measured_39_ok : ∀ q ∈ bX6_measured_39, decode mX6_measured.2.1 q.1 = .ok (q.2, aLn q.2) := by decide +kernel
def bX6_measured_51 : List (Nat × Instr) := [(51, .iconst 0)]
theorem bX6_measured_51_ok : ∀ q ∈ bX6_measured_51, decode mX6_measured.2.1 q.1 = .ok (q.2, aLn q.2) := by decide +kernel
def bX6_measured_53 : List (Nat × Instr) := [(53, .iload_n 2)]
theorem bX6_measured_53_ok : ∀ q ∈ bX6_measured_53, decode mX6_measured.2.1 q.1 = .ok (q.2, aLn q.2) := by decide +kernel
def bX6_measured_60 : List (Nat × Instr) := [(60, .aload_n 0), (61, .getfield 16), (64, .getfield 115), (67, .iload_n 2), (68, .iaload), (69, .iconst (-1))]
theorem bX6_measured_60_ok : ∀ q ∈ bX6_measured_60, decode mX6_measured.2.1 q.1 = .ok (q.2, aLn q.2) := by decide +kernel
def bX6_measured_73 : List (Nat × Instr) := [(73, .iconst 1), (74, .goto 4)]
theorem bX6_measured_73_ok : ∀ q ∈ bX6_measured_73, decode mX6_measured.2.1 q.1 = .ok (q.2, aLn q.2) := by decide +kernel
def bX6_measured_77 : List (Nat × Instr) := [(77, .iconst 0)]
theorem bX6_measured_77_ok : ∀ q ∈ bX6_measured_77, decode mX6_measured.2.1 q.1 = .ok (q.2, aLn q.2) := by decide +kernel
def bX6_measured_79 : List (Nat × Instr) := [(79, .aload_n 0), (80, .getfield 16)]
theorem bX6_measured_79_ok : ∀ q ∈ bX6_measured_79, decode mX6_measured.2.1 q.1 = .ok (q.2, aLn q.2) := by decide +kernel
theorem dX6_measured_1 : decode mX6_measured.2.1 1 = .ok (.lookupswitch 78 #[(0, 27), (1, 52)], 27) := by decide +kernel
theorem dX6_measured_33 : decode mX6_measured.2.1 33 = .ok (.invokevirtual 76, 3) := by decide +kernel
theorem dX6_measured_36 : decode mX6_measured.2.1 36 = .ok (.ifCond .eq 15, 3) := by decide +kernel
theorem dX6_measured_52 : decode mX6_measured.2.1 52 = .ok (.ireturn, 1) := by decide +kernel
theorem dX6_measured_54 : decode mX6_measured.2.1 54 = .ok (.invokestatic 109, 3) := by decide +kernel
theorem dX6_measured_57 : decode mX6_measured.2.1 57 = .ok (.ifCond .eq 20, 3) := by decide +kernel
theorem dX6_measured_70 : decode mX6_measured.2.1 70 = .ok (.if_icmp .eq 7, 3) := by decide +kernel
theorem dX6_measured_78 : decode mX6_measured.2.1 78 = .ok (.ireturn, 1) := by decide +kernel
theorem dX6_measured_83 : decode mX6_measured.2.1 83 = .ok (.invokevirtual 205, 3) := by decide +kernel
theorem dX6_measured_86 : decode mX6_measured.2.1 86 = .ok (.ireturn, 1) := by decide +kernel
def bX6_playTwo_0 : List (Nat × Instr) := [(0, .aload_n 0), (1, .getfield 16), (4, .aload_n 0), (5, .getfield 10)]
theorem bX6_playTwo_0_ok : ∀ q ∈ bX6_playTwo_0, decode mX6_playTwo.2.1 q.1 = .ok (q.2, aLn q.2) := by decide +kernel
def bX6_playTwo_11 : List (Nat × Instr) := [(11, .iload 4), (13, .iconst 2), (14, .iand)]
theorem bX6_playTwo_11_ok : ∀ q ∈ bX6_playTwo_11, decode mX6_playTwo.2.1 q.1 = .ok (q.2, aLn q.2) := by decide +kernel
def bX6_playTwo_18 : List (Nat × Instr) := [(18, .aload_n 0), (19, .getfield 16), (22, .iload_n 1)]
theorem bX6_playTwo_18_ok : ∀ q ∈ bX6_playTwo_18, decode mX6_playTwo.2.1 q.1 = .ok (q.2, aLn q.2) := by decide +kernel
def bX6_playTwo_26 : List (Nat × Instr) := [(26, .iload 4), (28, .iconst 1), (29, .iand)]
theorem bX6_playTwo_26_ok : ∀ q ∈ bX6_playTwo_26, decode mX6_playTwo.2.1 q.1 = .ok (q.2, aLn q.2) := by decide +kernel
def bX6_playTwo_33 : List (Nat × Instr) := [(33, .aload_n 0), (34, .getfield 16), (37, .iload_n 2)]
theorem bX6_playTwo_33_ok : ∀ q ∈ bX6_playTwo_33, decode mX6_playTwo.2.1 q.1 = .ok (q.2, aLn q.2) := by decide +kernel
def bX6_playTwo_41 : List (Nat × Instr) := [(41, .iconst 0), (42, .istore 5), (44, .iconst 0), (45, .istore 6), (47, .iconst 0), (48, .istore 7)]
theorem bX6_playTwo_41_ok : ∀ q ∈ bX6_playTwo_41, decode mX6_playTwo.2.1 q.1 = .ok (q.2, aLn q.2) := by decide +kernel
def bX6_playTwo_50 : List (Nat × Instr) := [(50, .iload 7), (52, .iload_n 3)]
theorem bX6_playTwo_50_ok : ∀ q ∈ bX6_playTwo_50, decode mX6_playTwo.2.1 q.1 = .ok (q.2, aLn q.2) := by decide +kernel
def bX6_playTwo_56 : List (Nat × Instr) := [(56, .aload_n 0), (57, .getfield 16)]
theorem bX6_playTwo_56_ok : ∀ q ∈ bX6_playTwo_56, decode mX6_playTwo.2.1 q.1 = .ok (q.2, aLn q.2) := by decide +kernel
def bX6_playTwo_63 : List (Nat × Instr) := [(63, .iload 5), (65, .aload_n 0), (66, .getfield 16), (69, .getfield 91), (72, .iload_n 1), (73, .iaload), (74, .iconst (-1))]
theorem bX6_playTwo_63_ok : ∀ q ∈ bX6_playTwo_63, decode mX6_playTwo.2.1 q.1 = .ok (q.2, aLn q.2) := by decide +kernel
def bX6_playTwo_78 : List (Nat × Instr) := [(78, .iconst 1), (79, .goto 4)]
theorem bX6_playTwo_78_ok : ∀ q ∈ bX6_playTwo_78, decode mX6_playTwo.2.1 q.1 = .ok (q.2, aLn q.2) := by decide +kernel
def bX6_playTwo_82 : List (Nat × Instr) := [(82, .iconst 0)]
theorem bX6_playTwo_82_ok : ∀ q ∈ bX6_playTwo_82, decode mX6_playTwo.2.1 q.1 = .ok (q.2, aLn q.2) := by decide +kernel
def bX6_playTwo_83 : List (Nat × Instr) := [(83, .iadd), (84, .istore 5), (86, .iload 6), (88, .aload_n 0), (89, .getfield 16), (92, .getfield 91), (95, .iload_n 2), (96, .iaload), (97, .iconst (-1))]
theorem bX6_playTwo_83_ok : ∀ q ∈ bX6_playTwo_83, decode mX6_playTwo.2.1 q.1 = .ok (q.2, aLn q.2) := by decide +kernel
def bX6_playTwo_101 : List (Nat × Instr) := [(101, .iconst 1), (102, .goto 4)]
theorem bX6_playTwo_101_ok : ∀ q ∈ bX6_playTwo_101, decode mX6_playTwo.2.1 q.1 = .ok (q.2, aLn q.2) := by decide +kernel
def bX6_playTwo_105 : List (Nat × Instr) := [(105, .iconst 0)]
theorem bX6_playTwo_105_ok : ∀ q ∈ bX6_playTwo_105, decode mX6_playTwo.2.1 q.1 = .ok (q.2, aLn q.2) := by decide +kernel
def bX6_playTwo_106 : List (Nat × Instr) := [(106, .iadd), (107, .istore 6), (109, .iinc 7 1), (112, .goto (-62))]
theorem bX6_playTwo_106_ok : ∀ q ∈ bX6_playTwo_106, decode mX6_playTwo.2.1 q.1 = .ok (q.2, aLn q.2) := by decide +kernel
def bX6_playTwo_115 : List (Nat × Instr) := [(115, .aload_n 0), (116, .getfield 47), (119, .iload 4), (121, .iload 5), (123, .aload_n 0), (124, .getfield 16), (127, .getfield 85), (130, .iload_n 1), (131, .iaload), (132, .bipush 10), (134, .idiv), (135, .isub), (136, .iastore), (137, .aload_n 0), (138, .getfield 51), (141, .iload 4), (143, .iload 6), (145, .aload_n 0), (146, .getfield 16), (149, .getfield 85), (152, .iload_n 2), (153, .iaload), (154, .bipush 10), (156, .idiv), (157, .isub), (158, .iastore)]
theorem bX6_playTwo_115_ok : ∀ q ∈ bX6_playTwo_115, decode mX6_playTwo.2.1 q.1 = .ok (q.2, aLn q.2) := by decide +kernel
theorem dX6_playTwo_8 : decode mX6_playTwo.2.1 8 = .ok (.invokevirtual 68, 3) := by decide +kernel
theorem dX6_playTwo_15 : decode mX6_playTwo.2.1 15 = .ok (.ifCond .ne 11, 3) := by decide +kernel
theorem dX6_playTwo_23 : decode mX6_playTwo.2.1 23 = .ok (.invokevirtual 321, 3) := by decide +kernel
theorem dX6_playTwo_30 : decode mX6_playTwo.2.1 30 = .ok (.ifCond .ne 11, 3) := by decide +kernel
theorem dX6_playTwo_38 : decode mX6_playTwo.2.1 38 = .ok (.invokevirtual 321, 3) := by decide +kernel
theorem dX6_playTwo_53 : decode mX6_playTwo.2.1 53 = .ok (.if_icmp .ge 62, 3) := by decide +kernel
theorem dX6_playTwo_60 : decode mX6_playTwo.2.1 60 = .ok (.invokevirtual 178, 3) := by decide +kernel
theorem dX6_playTwo_75 : decode mX6_playTwo.2.1 75 = .ok (.if_icmp .eq 7, 3) := by decide +kernel
theorem dX6_playTwo_98 : decode mX6_playTwo.2.1 98 = .ok (.if_icmp .eq 7, 3) := by decide +kernel
theorem dX6_playTwo_159 : decode mX6_playTwo.2.1 159 = .ok (.return_, 1) := by decide +kernel
def bX6_heldAfterScandals_0 : List (Nat × Instr) := [(0, .aload_n 0), (1, .getfield 16), (4, .aload_n 0), (5, .getfield 10)]
theorem bX6_heldAfterScandals_0_ok : ∀ q ∈ bX6_heldAfterScandals_0, decode mX6_heldAfterScandals.2.1 q.1 = .ok (q.2, aLn q.2) := by decide +kernel
def bX6_heldAfterScandals_11 : List (Nat × Instr) := [(11, .iconst 0), (12, .istore 4)]
theorem bX6_heldAfterScandals_11_ok : ∀ q ∈ bX6_heldAfterScandals_11, decode mX6_heldAfterScandals.2.1 q.1 = .ok (q.2, aLn q.2) := by decide +kernel
def bX6_heldAfterScandals_14 : List (Nat × Instr) := [(14, .iload 4), (16, .iload_n 2)]
theorem bX6_heldAfterScandals_14_ok : ∀ q ∈ bX6_heldAfterScandals_14, decode mX6_heldAfterScandals.2.1 q.1 = .ok (q.2, aLn q.2) := by decide +kernel
def bX6_heldAfterScandals_20 : List (Nat × Instr) := [(20, .iload_n 3), (21, .iload 4), (23, .ishr), (24, .iconst 1), (25, .iand), (26, .iconst 1)]
theorem bX6_heldAfterScandals_20_ok : ∀ q ∈ bX6_heldAfterScandals_20, decode mX6_heldAfterScandals.2.1 q.1 = .ok (q.2, aLn q.2) := by decide +kernel
def bX6_heldAfterScandals_30 : List (Nat × Instr) := [(30, .aload_n 0), (31, .getfield 16)]
theorem bX6_heldAfterScandals_30_ok : ∀ q ∈ bX6_heldAfterScandals_30, decode mX6_heldAfterScandals.2.1 q.1 = .ok (q.2, aLn q.2) := by decide +kernel
def bX6_heldAfterScandals_37 : List (Nat × Instr) := [(37, .aload_n 0), (38, .getfield 16)]
theorem bX6_heldAfterScandals_37_ok : ∀ q ∈ bX6_heldAfterScandals_37, decode mX6_heldAfterScandals.2.1 q.1 = .ok (q.2, aLn q.2) := by decide +kernel
def bX6_heldAfterScandals_44 : List (Nat × Instr) := [(44, .iinc 4 1), (47, .goto (-33))]
theorem bX6_heldAfterScandals_44_ok : ∀ q ∈ bX6_heldAfterScandals_44, decode mX6_heldAfterScandals.2.1 q.1 = .ok (q.2, aLn q.2) := by decide +kernel
def bX6_heldAfterScandals_50 : List (Nat × Instr) := [(50, .aload_n 0), (51, .getfield 16), (54, .getfield 115), (57, .iload_n 1), (58, .iaload), (59, .iconst (-1))]
theorem bX6_heldAfterScandals_50_ok : ∀ q ∈ bX6_heldAfterScandals_50, decode mX6_heldAfterScandals.2.1 q.1 = .ok (q.2, aLn q.2) := by decide +kernel
def bX6_heldAfterScandals_63 : List (Nat × Instr) := [(63, .iconst 1), (64, .goto 4)]
theorem bX6_heldAfterScandals_63_ok : ∀ q ∈ bX6_heldAfterScandals_63, decode mX6_heldAfterScandals.2.1 q.1 = .ok (q.2, aLn q.2) := by decide +kernel
def bX6_heldAfterScandals_67 : List (Nat × Instr) := [(67, .iconst 0)]
theorem bX6_heldAfterScandals_67_ok : ∀ q ∈ bX6_heldAfterScandals_67, decode mX6_heldAfterScandals.2.1 q.1 = .ok (q.2, aLn q.2) := by decide +kernel
theorem dX6_heldAfterScandals_8 : decode mX6_heldAfterScandals.2.1 8 = .ok (.invokevirtual 68, 3) := by decide +kernel
theorem dX6_heldAfterScandals_17 : decode mX6_heldAfterScandals.2.1 17 = .ok (.if_icmp .ge 33, 3) := by decide +kernel
theorem dX6_heldAfterScandals_27 : decode mX6_heldAfterScandals.2.1 27 = .ok (.if_icmp .ne 10, 3) := by decide +kernel
theorem dX6_heldAfterScandals_34 : decode mX6_heldAfterScandals.2.1 34 = .ok (.invokevirtual 324, 3) := by decide +kernel
theorem dX6_heldAfterScandals_41 : decode mX6_heldAfterScandals.2.1 41 = .ok (.invokevirtual 178, 3) := by decide +kernel
theorem dX6_heldAfterScandals_60 : decode mX6_heldAfterScandals.2.1 60 = .ok (.if_icmp .eq 7, 3) := by decide +kernel
theorem dX6_heldAfterScandals_68 : decode mX6_heldAfterScandals.2.1 68 = .ok (.ireturn, 1) := by decide +kernel
def bX6_chances_0 : List (Nat × Instr) := [(0, .lconst 1), (1, .lstore_n 3), (2, .iconst 0), (3, .istore 5)]
theorem bX6_chances_0_ok : ∀ q ∈ bX6_chances_0, decode mX6_chances.2.1 q.1 = .ok (q.2, aLn q.2) := by decide +kernel
def bX6_chances_5 : List (Nat × Instr) := [(5, .iload 5), (7, .iload_n 0)]
theorem bX6_chances_5_ok : ∀ q ∈ bX6_chances_5, decode mX6_chances.2.1 q.1 = .ok (q.2, aLn q.2) := by decide +kernel
def bX6_chances_11 : List (Nat × Instr) := [(11, .iload_n 1), (12, .iload 5), (14, .ishr), (15, .iconst 1), (16, .iand)]
theorem bX6_chances_11_ok : ∀ q ∈ bX6_chances_11, decode mX6_chances.2.1 q.1 = .ok (q.2, aLn q.2) := by decide +kernel
def bX6_chances_20 : List (Nat × Instr) := [(20, .lload_n 3), (21, .iload_n 2), (22, .iconst 1), (23, .isub), (24, .i2l), (25, .lmul), (26, .lstore_n 3)]
theorem bX6_chances_20_ok : ∀ q ∈ bX6_chances_20, decode mX6_chances.2.1 q.1 = .ok (q.2, aLn q.2) := by decide +kernel
def bX6_chances_27 : List (Nat × Instr) := [(27, .iinc 5 1), (30, .goto (-25))]
theorem bX6_chances_27_ok : ∀ q ∈ bX6_chances_27, decode mX6_chances.2.1 q.1 = .ok (q.2, aLn q.2) := by decide +kernel
def bX6_chances_33 : List (Nat × Instr) := [(33, .lload_n 3)]
theorem bX6_chances_33_ok : ∀ q ∈ bX6_chances_33, decode mX6_chances.2.1 q.1 = .ok (q.2, aLn q.2) := by decide +kernel
theorem dX6_chances_8 : decode mX6_chances.2.1 8 = .ok (.if_icmp .ge 25, 3) := by decide +kernel
theorem dX6_chances_17 : decode mX6_chances.2.1 17 = .ok (.ifCond .ne 10, 3) := by decide +kernel
theorem dX6_chances_34 : decode mX6_chances.2.1 34 = .ok (.lreturn, 1) := by decide +kernel
def bX6_inLeastTerms_0 : List (Nat × Instr) := [(0, .iload 4)]
theorem bX6_inLeastTerms_0_ok : ∀ q ∈ bX6_inLeastTerms_0, decode mX6_inLeastTerms.2.1 q.1 = .ok (q.2, aLn q.2) := by decide +kernel
def bX6_inLeastTerms_5 : List (Nat × Instr) := [(5, .lload_n 0), (6, .goto 4)]
theorem bX6_inLeastTerms_5_ok : ∀ q ∈ bX6_inLeastTerms_5, decode mX6_inLeastTerms.2.1 q.1 = .ok (q.2, aLn q.2) := by decide +kernel
def bX6_inLeastTerms_9 : List (Nat × Instr) := [(9, .lload_n 2)]
theorem bX6_inLeastTerms_9_ok : ∀ q ∈ bX6_inLeastTerms_9, decode mX6_inLeastTerms.2.1 q.1 = .ok (q.2, aLn q.2) := by decide +kernel
def bX6_inLeastTerms_10 : List (Nat × Instr) := [(10, .lstore 5), (12, .lload_n 0), (13, .lload_n 2)]
theorem bX6_inLeastTerms_10_ok : ∀ q ∈ bX6_inLeastTerms_10, decode mX6_inLeastTerms.2.1 q.1 = .ok (q.2, aLn q.2) := by decide +kernel
def bX6_inLeastTerms_17 : List (Nat × Instr) := [(17, .lstore 7), (19, .lload 7), (21, .lconst 0), (22, .lcmp)]
theorem bX6_inLeastTerms_17_ok : ∀ q ∈ bX6_inLeastTerms_17, decode mX6_inLeastTerms.2.1 q.1 = .ok (q.2, aLn q.2) := by decide +kernel
def bX6_inLeastTerms_26 : List (Nat × Instr) := [(26, .lload 5), (28, .goto 8)]
theorem bX6_inLeastTerms_26_ok : ∀ q ∈ bX6_inLeastTerms_26, decode mX6_inLeastTerms.2.1 q.1 = .ok (q.2, aLn q.2) := by decide +kernel
def bX6_inLeastTerms_31 : List (Nat × Instr) := [(31, .lload 5), (33, .lload 7), (35, .ldiv)]
theorem bX6_inLeastTerms_31_ok : ∀ q ∈ bX6_inLeastTerms_31, decode mX6_inLeastTerms.2.1 q.1 = .ok (q.2, aLn q.2) := by decide +kernel
theorem dX6_inLeastTerms_2 : decode mX6_inLeastTerms.2.1 2 = .ok (.ifCond .ne 7, 3) := by decide +kernel
theorem dX6_inLeastTerms_14 : decode mX6_inLeastTerms.2.1 14 = .ok (.invokestatic 327, 3) := by decide +kernel
theorem dX6_inLeastTerms_23 : decode mX6_inLeastTerms.2.1 23 = .ok (.ifCond .ne 8, 3) := by decide +kernel
theorem dX6_inLeastTerms_36 : decode mX6_inLeastTerms.2.1 36 = .ok (.lreturn, 1) := by decide +kernel
def bX6_commonDivisor_0 : List (Nat × Instr) := [(0, .lload_n 0), (1, .lstore 4), (3, .lload_n 2), (4, .lstore 6), (6, .iconst 0), (7, .istore 8)]
theorem bX6_commonDivisor_0_ok : ∀ q ∈ bX6_commonDivisor_0, decode mX6_commonDivisor.2.1 q.1 = .ok (q.2, aLn q.2) := by decide +kernel
def bX6_commonDivisor_9 : List (Nat × Instr) := [(9, .iload 8), (11, .sipush 200)]
theorem bX6_commonDivisor_9_ok : ∀ q ∈ bX6_commonDivisor_9, decode mX6_commonDivisor.2.1 q.1 = .ok (q.2, aLn q.2) := by decide +kernel
def bX6_commonDivisor_17 : List (Nat × Instr) := [(17, .lload 6), (19, .lconst 0), (20, .lcmp)]
theorem bX6_commonDivisor_17_ok : ∀ q ∈ bX6_commonDivisor_17, decode mX6_commonDivisor.2.1 q.1 = .ok (q.2, aLn q.2) := by decide +kernel
def bX6_commonDivisor_24 : List (Nat × Instr) := [(24, .lload 4), (26, .lload 6), (28, .lrem), (29, .lstore 9), (31, .lload 6), (33, .lstore 4), (35, .lload 9), (37, .lstore 6), (39, .iinc 8 1), (42, .goto (-33))]
theorem bX6_commonDivisor_24_ok : ∀ q ∈ bX6_commonDivisor_24, decode mX6_commonDivisor.2.1 q.1 = .ok (q.2, aLn q.2) := by decide +kernel
def bX6_commonDivisor_45 : List (Nat × Instr) := [(45, .lload 4)]
theorem bX6_commonDivisor_45_ok : ∀ q ∈ bX6_commonDivisor_45, decode mX6_commonDivisor.2.1 q.1 = .ok (q.2, aLn q.2) := by decide +kernel
theorem dX6_commonDivisor_14 : decode mX6_commonDivisor.2.1 14 = .ok (.if_icmp .ge 31, 3) := by decide +kernel
theorem dX6_commonDivisor_21 : decode mX6_commonDivisor.2.1 21 = .ok (.ifCond .eq 24, 3) := by decide +kernel
theorem dX6_commonDivisor_47 : decode mX6_commonDivisor.2.1 47 = .ok (.lreturn, 1) := by decide +kernel
def bX6_holderAsTold_0 : List (Nat × Instr) := [(0, .iload_n 1)]
theorem bX6_holderAsTold_0_ok : ∀ q ∈ bX6_holderAsTold_0, decode mX6_holderAsTold.2.1 q.1 = .ok (q.2, aLn q.2) := by decide +kernel
def bX6_holderAsTold_7 : List (Nat × Instr) := [(7, .aload_n 0), (8, .getfield 10), (11, .getfield 115), (14, .iload_n 1), (15, .iaload), (16, .iconst (-1))]
theorem bX6_holderAsTold_7_ok : ∀ q ∈ bX6_holderAsTold_7, decode mX6_holderAsTold.2.1 q.1 = .ok (q.2, aLn q.2) := by decide +kernel
def bX6_holderAsTold_20 : List (Nat × Instr) := [(20, .bipush 9)]
theorem bX6_holderAsTold_20_ok : ∀ q ∈ bX6_holderAsTold_20, decode mX6_holderAsTold.2.1 q.1 = .ok (q.2, aLn q.2) := by decide +kernel
def bX6_holderAsTold_23 : List (Nat × Instr) := [(23, .aload_n 0), (24, .getfield 10), (27, .getfield 115), (30, .iload_n 1), (31, .iaload)]
theorem bX6_holderAsTold_23_ok : ∀ q ∈ bX6_holderAsTold_23, decode mX6_holderAsTold.2.1 q.1 = .ok (q.2, aLn q.2) := by decide +kernel
theorem dX6_holderAsTold_1 : decode mX6_holderAsTold.2.1 1 = .ok (.invokestatic 109, 3) := by decide +kernel
theorem dX6_holderAsTold_4 : decode mX6_holderAsTold.2.1 4 = .ok (.ifCond .eq 16, 3) := by decide +kernel
theorem dX6_holderAsTold_17 : decode mX6_holderAsTold.2.1 17 = .ok (.if_icmp .ne 6, 3) := by decide +kernel
theorem dX6_holderAsTold_22 : decode mX6_holderAsTold.2.1 22 = .ok (.ireturn, 1) := by decide +kernel
theorem dX6_holderAsTold_32 : decode mX6_holderAsTold.2.1 32 = .ok (.ireturn, 1) := by decide +kernel
def bX6_oneYear_0 : List (Nat × Instr) := [(0, .aload_n 0), (1, .getfield 16), (4, .aload_n 0), (5, .getfield 10)]
theorem bX6_oneYear_0_ok : ∀ q ∈ bX6_oneYear_0, decode mX6_oneYear.2.1 q.1 = .ok (q.2, aLn q.2) := by decide +kernel
def bX6_oneYear_11 : List (Nat × Instr) := [(11, .iconst 0), (12, .istore_n 1)]
theorem bX6_oneYear_11_ok : ∀ q ∈ bX6_oneYear_11, decode mX6_oneYear.2.1 q.1 = .ok (q.2, aLn q.2) := by decide +kernel
def bX6_oneYear_13 : List (Nat × Instr) := [(13, .iload_n 1), (14, .iconst 5)]
theorem bX6_oneYear_13_ok : ∀ q ∈ bX6_oneYear_13, decode mX6_oneYear.2.1 q.1 = .ok (q.2, aLn q.2) := by decide +kernel
def bX6_oneYear_18 : List (Nat × Instr) := [(18, .aload_n 0), (19, .getfield 16), (22, .getfield 112), (25, .iload_n 1), (26, .aload_n 0), (27, .getfield 43), (30, .bipush 10)]
theorem bX6_oneYear_18_ok : ∀ q ∈ bX6_oneYear_18, decode mX6_oneYear.2.1 q.1 = .ok (q.2, aLn q.2) := by decide +kernel
def bX6_oneYear_35 : List (Nat × Instr) := [(35, .iastore), (36, .iinc 1 1), (39, .goto (-26))]
theorem bX6_oneYear_35_ok : ∀ q ∈ bX6_oneYear_35, decode mX6_oneYear.2.1 q.1 = .ok (q.2, aLn q.2) := by decide +kernel
def bX6_oneYear_42 : List (Nat × Instr) := [(42, .iconst 0), (43, .istore_n 1)]
theorem bX6_oneYear_42_ok : ∀ q ∈ bX6_oneYear_42, decode mX6_oneYear.2.1 q.1 = .ok (q.2, aLn q.2) := by decide +kernel
def bX6_oneYear_44 : List (Nat × Instr) := [(44, .iload_n 1), (45, .aload_n 0), (46, .getfield 16), (49, .getfield 196)]
theorem bX6_oneYear_44_ok : ∀ q ∈ bX6_oneYear_44, decode mX6_oneYear.2.1 q.1 = .ok (q.2, aLn q.2) := by decide +kernel
def bX6_oneYear_55 : List (Nat × Instr) := [(55, .aload_n 0), (56, .getfield 16), (59, .getfield 85), (62, .iload_n 1), (63, .aload_n 0), (64, .getfield 43), (67, .bipush 10)]
theorem bX6_oneYear_55_ok : ∀ q ∈ bX6_oneYear_55, decode mX6_oneYear.2.1 q.1 = .ok (q.2, aLn q.2) := by decide +kernel
def bX6_oneYear_72 : List (Nat × Instr) := [(72, .iastore), (73, .iinc 1 1), (76, .goto (-32))]
theorem bX6_oneYear_72_ok : ∀ q ∈ bX6_oneYear_72, decode mX6_oneYear.2.1 q.1 = .ok (q.2, aLn q.2) := by decide +kernel
def bX6_oneYear_79 : List (Nat × Instr) := [(79, .aload_n 0), (80, .getfield 16), (83, .bipush 15)]
theorem bX6_oneYear_79_ok : ∀ q ∈ bX6_oneYear_79, decode mX6_oneYear.2.1 q.1 = .ok (q.2, aLn q.2) := by decide +kernel
theorem dX6_oneYear_8 : decode mX6_oneYear.2.1 8 = .ok (.invokevirtual 68, 3) := by decide +kernel
theorem dX6_oneYear_15 : decode mX6_oneYear.2.1 15 = .ok (.if_icmp .ge 27, 3) := by decide +kernel
theorem dX6_oneYear_32 : decode mX6_oneYear.2.1 32 = .ok (.invokevirtual 331, 3) := by decide +kernel
theorem dX6_oneYear_52 : decode mX6_oneYear.2.1 52 = .ok (.if_icmp .ge 27, 3) := by decide +kernel
theorem dX6_oneYear_69 : decode mX6_oneYear.2.1 69 = .ok (.invokevirtual 331, 3) := by decide +kernel
theorem dX6_oneYear_85 : decode mX6_oneYear.2.1 85 = .ok (.invokevirtual 159, 3) := by decide +kernel
theorem dX6_oneYear_88 : decode mX6_oneYear.2.1 88 = .ok (.return_, 1) := by decide +kernel
end
section
/-! ===== code ===== -/
def bX7_isIn_0 : List (Nat × Instr) := [(0, .iload_n 0), (1, .iload_n 1)]
theorem bX7_isIn_0_ok : ∀ q ∈ bX7_isIn_0, decode mX7_isIn.2.1 q.1 = .ok (q.2, aLn q.2) := by decide +kernel
def bX7_isIn_5 : List (Nat × Instr) := [(5, .iload_n 0), (6, .iload_n 2)]
theorem bX7_isIn_5_ok : ∀ q ∈ bX7_isIn_5, decode mX7_isIn.2.1 q.1 = .ok (q.2, aLn q.2) := by decide +kernel
def bX7_isIn_10 : List (Nat × Instr) := [(10, .iconst 1), (11, .goto 4)]
theorem bX7_isIn_10_ok : ∀ q ∈ bX7_isIn_10, decode mX7_isIn.2.1 q.1 = .ok (q.2, aLn q.2) := by decide +kernel
def bX7_isIn_14 : List (Nat × Instr) := [(14, .iconst 0)]
theorem bX7_isIn_14_ok : ∀ q ∈ bX7_isIn_14, decode mX7_isIn.2.1 q.1 = .ok (q.2, aLn q.2) := by decide +kernel
theorem dX7_isIn_2 : decode mX7_isIn.2.1 2 = .ok (.if_icmp .lt 12, 3) := by decide +kernel
theorem dX7_isIn_7 : decode mX7_isIn.2.1 7 = .ok (.if_icmp .gt 7, 3) := by decide +kernel
theorem dX7_isIn_15 : decode mX7_isIn.2.1 15 = .ok (.ireturn, 1) := by decide +kernel
def bX7_sized_0 : List (Nat × Instr) := [(0, .iload_n 0)]
theorem bX7_sized_0_ok : ∀ q ∈ bX7_sized_0, decode mX7_sized.2.1 q.1 = .ok (q.2, aLn q.2) := by decide +kernel
def bX7_sized_4 : List (Nat × Instr) := [(4, .iload_n 0), (5, .ineg), (6, .goto 4)]
theorem bX7_sized_4_ok : ∀ q ∈ bX7_sized_4, decode mX7_sized.2.1 q.1 = .ok (q.2, aLn q.2) := by decide +kernel
def bX7_sized_9 : List (Nat × Instr) := [(9, .iload_n 0)]
theorem bX7_sized_9_ok : ∀ q ∈ bX7_sized_9, decode mX7_sized.2.1 q.1 = .ok (q.2, aLn q.2) := by decide +kernel
theorem dX7_sized_1 : decode mX7_sized.2.1 1 = .ok (.ifCond .ge 8, 3) := by decide +kernel
theorem dX7_sized_10 : decode mX7_sized.2.1 10 = .ok (.ireturn, 1) := by decide +kernel
def bX7_least_0 : List (Nat × Instr) := [(0, .iload_n 0), (1, .iload_n 1)]
theorem bX7_least_0_ok : ∀ q ∈ bX7_least_0, decode mX7_least.2.1 q.1 = .ok (q.2, aLn q.2) := by decide +kernel
def bX7_least_5 : List (Nat × Instr) := [(5, .iload_n 0), (6, .goto 4)]
theorem bX7_least_5_ok : ∀ q ∈ bX7_least_5, decode mX7_least.2.1 q.1 = .ok (q.2, aLn q.2) := by decide +kernel
def bX7_least_9 : List (Nat × Instr) := [(9, .iload_n 1)]
theorem bX7_least_9_ok : ∀ q ∈ bX7_least_9, decode mX7_least.2.1 q.1 = .ok (q.2, aLn q.2) := by decide +kernel
theorem dX7_least_2 : decode mX7_least.2.1 2 = .ok (.if_icmp .ge 7, 3) := by decide +kernel
theorem dX7_least_10 : decode mX7_least.2.1 10 = .ok (.ireturn, 1) := by decide +kernel
def bX7_lessBy_0 : List (Nat × Instr) := [(0, .iload_n 0), (1, .iload_n 1)]
theorem bX7_lessBy_0_ok : ∀ q ∈ bX7_lessBy_0, decode mX7_lessBy.2.1 q.1 = .ok (q.2, aLn q.2) := by decide +kernel
def bX7_lessBy_5 : List (Nat × Instr) := [(5, .iconst 0), (6, .goto 6)]
theorem bX7_lessBy_5_ok : ∀ q ∈ bX7_lessBy_5, decode mX7_lessBy.2.1 q.1 = .ok (q.2, aLn q.2) := by decide +kernel
def bX7_lessBy_9 : List (Nat × Instr) := [(9, .iload_n 0), (10, .iload_n 1), (11, .isub)]
theorem bX7_lessBy_9_ok : ∀ q ∈ bX7_lessBy_9, decode mX7_lessBy.2.1 q.1 = .ok (q.2, aLn q.2) := by decide +kernel
theorem dX7_lessBy_2 : decode mX7_lessBy.2.1 2 = .ok (.if_icmp .ge 7, 3) := by decide +kernel
theorem dX7_lessBy_12 : decode mX7_lessBy.2.1 12 = .ok (.ireturn, 1) := by decide +kernel
def bX7_copies_0 : List (Nat × Instr) := [(0, .iconst 0), (1, .istore_n 2)]
theorem bX7_copies_0_ok : ∀ q ∈ bX7_copies_0, decode mX7_copies.2.1 q.1 = .ok (q.2, aLn q.2) := by decide +kernel
def bX7_copies_2 : List (Nat × Instr) := [(2, .iload_n 2), (3, .bipush 45)]
theorem bX7_copies_2_ok : ∀ q ∈ bX7_copies_2, decode mX7_copies.2.1 q.1 = .ok (q.2, aLn q.2) := by decide +kernel
def bX7_copies_8 : List (Nat × Instr) := [(8, .aload_n 1), (9, .iload_n 2), (10, .aload_n 0), (11, .iload_n 2), (12, .iaload), (13, .iastore), (14, .iinc 2 1), (17, .goto (-15))]
theorem bX7_copies_8_ok : ∀ q ∈ bX7_copies_8, decode mX7_copies.2.1 q.1 = .ok (q.2, aLn q.2) := by decide +kernel
theorem dX7_copies_5 : decode mX7_copies.2.1 5 = .ok (.if_icmp .ge 15, 3) := by decide +kernel
theorem dX7_copies_20 : decode mX7_copies.2.1 20 = .ok (.return_, 1) := by decide +kernel
def bX7_of_0 : List (Nat × Instr) := [(0, .bipush 13), (2, .iconst 4), (3, .iload_n 0), (4, .imul), (5, .iadd), (6, .iload_n 1), (7, .iadd)]
theorem bX7_of_0_ok : ∀ q ∈ bX7_of_0, decode mX7_of.2.1 q.1 = .ok (q.2, aLn q.2) := by decide +kernel
theorem dX7_of_8 : decode mX7_of.2.1 8 = .ok (.ireturn, 1) := by decide +kernel
def bX7_isOne_0 : List (Nat × Instr) := [(0, .iload_n 1), (1, .iconst 0), (2, .aload_n 0), (3, .getfield 9), (6, .iconst 0), (7, .iaload), (8, .iconst 1), (9, .isub)]
theorem bX7_isOne_0_ok : ∀ q ∈ bX7_isOne_0, decode mX7_isOne.2.1 q.1 = .ok (q.2, aLn q.2) := by decide +kernel
theorem dX7_isOne_10 : decode mX7_isOne.2.1 10 = .ok (.invokestatic 49, 3) := by decide +kernel
theorem dX7_isOne_13 : decode mX7_isOne.2.1 13 = .ok (.ireturn, 1) := by decide +kernel
def bX7_isOffice_0 : List (Nat × Instr) := [(0, .iload_n 0), (1, .iconst 0), (2, .iconst 4)]
theorem bX7_isOffice_0_ok : ∀ q ∈ bX7_isOffice_0, decode mX7_isOffice.2.1 q.1 = .ok (q.2, aLn q.2) := by decide +kernel
theorem dX7_isOffice_3 : decode mX7_isOffice.2.1 3 = .ok (.invokestatic 49, 3) := by decide +kernel
theorem dX7_isOffice_6 : decode mX7_isOffice.2.1 6 = .ok (.ireturn, 1) := by decide +kernel
def bX7_isMate_0 : List (Nat × Instr) := [(0, .iload_n 0), (1, .iconst 0), (2, .bipush 7)]
theorem bX7_isMate_0_ok : ∀ q ∈ bX7_isMate_0, decode mX7_isMate.2.1 q.1 = .ok (q.2, aLn q.2) := by decide +kernel
def bX7_isMate_10 : List (Nat × Instr) := [(10, .iload_n 0), (11, .bipush 9)]
theorem bX7_isMate_10_ok : ∀ q ∈ bX7_isMate_10, decode mX7_isMate.2.1 q.1 = .ok (q.2, aLn q.2) := by decide +kernel
def bX7_isMate_16 : List (Nat × Instr) := [(16, .iconst 1), (17, .goto 4)]
theorem bX7_isMate_16_ok : ∀ q ∈ bX7_isMate_16, decode mX7_isMate.2.1 q.1 = .ok (q.2, aLn q.2) := by decide +kernel
def bX7_isMate_20 : List (Nat × Instr) := [(20, .iconst 0)]
theorem bX7_isMate_20_ok : ∀ q ∈ bX7_isMate_20, decode mX7_isMate.2.1 q.1 = .ok (q.2, aLn q.2) := by decide +kernel
theorem dX7_isMate_4 : decode mX7_isMate.2.1 4 = .ok (.invokestatic 49, 3) := by decide +kernel
theorem dX7_isMate_7 : decode mX7_isMate.2.1 7 = .ok (.ifCond .ne 9, 3) := by decide +kernel
theorem dX7_isMate_13 : decode mX7_isMate.2.1 13 = .ok (.if_icmp .ne 7, 3) := by decide +kernel
theorem dX7_isMate_21 : decode mX7_isMate.2.1 21 = .ok (.ireturn, 1) := by decide +kernel
def bX7_has_0 : List (Nat × Instr) := [(0, .iload_n 0), (1, .iload_n 1), (2, .ishr), (3, .iconst 1), (4, .iand), (5, .iconst 1)]
theorem bX7_has_0_ok : ∀ q ∈ bX7_has_0, decode mX7_has.2.1 q.1 = .ok (q.2, aLn q.2) := by decide +kernel
def bX7_has_9 : List (Nat × Instr) := [(9, .iconst 1), (10, .goto 4)]
theorem bX7_has_9_ok : ∀ q ∈ bX7_has_9, decode mX7_has.2.1 q.1 = .ok (q.2, aLn q.2) := by decide +kernel
def bX7_has_13 : List (Nat × Instr) := [(13, .iconst 0)]
theorem bX7_has_13_ok : ∀ q ∈ bX7_has_13, decode mX7_has.2.1 q.1 = .ok (q.2, aLn q.2) := by decide +kernel
theorem dX7_has_6 : decode mX7_has.2.1 6 = .ok (.if_icmp .ne 7, 3) := by decide +kernel
theorem dX7_has_14 : decode mX7_has.2.1 14 = .ok (.ireturn, 1) := by decide +kernel
def bX7_bits_0 : List (Nat × Instr) := [(0, .iconst 0), (1, .istore_n 1), (2, .iconst 0), (3, .istore_n 2)]
theorem bX7_bits_0_ok : ∀ q ∈ bX7_bits_0, decode mX7_bits.2.1 q.1 = .ok (q.2, aLn q.2) := by decide +kernel
def bX7_bits_4 : List (Nat × Instr) := [(4, .iload_n 2), (5, .bipush 8)]
theorem bX7_bits_4_ok : ∀ q ∈ bX7_bits_4, decode mX7_bits.2.1 q.1 = .ok (q.2, aLn q.2) := by decide +kernel
def bX7_bits_10 : List (Nat × Instr) := [(10, .iload_n 1), (11, .iload_n 0), (12, .iload_n 2), (13, .ishr), (14, .iconst 1), (15, .iand), (16, .iadd), (17, .istore_n 1), (18, .iinc 2 1), (21, .goto (-17))]
theorem bX7_bits_10_ok : ∀ q ∈ bX7_bits_10, decode mX7_bits.2.1 q.1 = .ok (q.2, aLn q.2) := by decide +kernel
def bX7_bits_24 : List (Nat × Instr) := [(24, .iload_n 1)]
theorem bX7_bits_24_ok : ∀ q ∈ bX7_bits_24, decode mX7_bits.2.1 q.1 = .ok (q.2, aLn q.2) := by decide +kernel
theorem dX7_bits_7 : decode mX7_bits.2.1 7 = .ok (.if_icmp .ge 17, 3) := by decide +kernel
theorem dX7_bits_25 : decode mX7_bits.2.1 25 = .ok (.ireturn, 1) := by decide +kernel
def bX7_showsBy_0 : List (Nat × Instr) := [(0, .iconst 1), (1, .iload_n 2), (2, .iload_n 1), (3, .isub)]
theorem bX7_showsBy_0_ok : ∀ q ∈ bX7_showsBy_0, decode mX7_showsBy.2.1 q.1 = .ok (q.2, aLn q.2) := by decide +kernel
def bX7_showsBy_7 : List (Nat × Instr) := [(7, .iconst 3), (8, .idiv), (9, .iadd), (10, .istore 4), (12, .iload_n 0)]
theorem bX7_showsBy_7_ok : ∀ q ∈ bX7_showsBy_7, decode mX7_showsBy.2.1 q.1 = .ok (q.2, aLn q.2) := by decide +kernel
def bX7_showsBy_56 : List (Nat × Instr) := [(56, .bipush 6)]
theorem bX7_showsBy_56_ok : ∀ q ∈ bX7_showsBy_56, decode mX7_showsBy.2.1 q.1 = .ok (q.2, aLn q.2) := by decide +kernel
def bX7_showsBy_59 : List (Nat × Instr) := [(59, .iload 4)]
theorem bX7_showsBy_59_ok : ∀ q ∈ bX7_showsBy_59, decode mX7_showsBy.2.1 q.1 = .ok (q.2, aLn q.2) := by decide +kernel
def bX7_showsBy_62 : List (Nat × Instr) := [(62, .iload_n 3), (63, .iconst 2), (64, .irem), (65, .iconst 1)]
theorem bX7_showsBy_62_ok : ∀ q ∈ bX7_showsBy_62, decode mX7_showsBy.2.1 q.1 = .ok (q.2, aLn q.2) := by decide +kernel
def bX7_showsBy_69 : List (Nat × Instr) := [(69, .bipush 6), (71, .iload_n 1), (72, .iadd), (73, .goto 5)]
theorem bX7_showsBy_69_ok : ∀ q ∈ bX7_showsBy_69, decode mX7_showsBy.2.1 q.1 = .ok (q.2, aLn q.2) := by decide +kernel
def bX7_showsBy_76 : List (Nat × Instr) := [(76, .bipush 6)]
theorem bX7_showsBy_76_ok : ∀ q ∈ bX7_showsBy_76, decode mX7_showsBy.2.1 q.1 = .ok (q.2, aLn q.2) := by decide +kernel
def bX7_showsBy_79 : List (Nat × Instr) := [(79, .iload_n 2), (80, .iload_n 1)]
theorem bX7_showsBy_79_ok : ∀ q ∈ bX7_showsBy_79, decode mX7_showsBy.2.1 q.1 = .ok (q.2, aLn q.2) := by decide +kernel
def bX7_showsBy_84 : List (Nat × Instr) := [(84, .iconst 0), (85, .goto 5)]
theorem bX7_showsBy_84_ok : ∀ q ∈ bX7_showsBy_84, decode mX7_showsBy.2.1 q.1 = .ok (q.2, aLn q.2) := by decide +kernel
def bX7_showsBy_88 : List (Nat × Instr) := [(88, .iload 4)]
theorem bX7_showsBy_88_ok : ∀ q ∈ bX7_showsBy_88, decode mX7_showsBy.2.1 q.1 = .ok (q.2, aLn q.2) := by decide +kernel
def bX7_showsBy_91 : List (Nat × Instr) := [(91, .iload_n 2), (92, .iconst 2)]
theorem bX7_showsBy_91_ok : ∀ q ∈ bX7_showsBy_91, decode mX7_showsBy.2.1 q.1 = .ok (q.2, aLn q.2) := by decide +kernel
def bX7_showsBy_96 : List (Nat × Instr) := [(96, .iconst 3), (97, .iload_n 2), (98, .isub), (99, .goto 4)]
theorem bX7_showsBy_96_ok : ∀ q ∈ bX7_showsBy_96, decode mX7_showsBy.2.1 q.1 = .ok (q.2, aLn q.2) := by decide +kernel
def bX7_showsBy_102 : List (Nat × Instr) := [(102, .iconst 1)]
theorem bX7_showsBy_102_ok : ∀ q ∈ bX7_showsBy_102, decode mX7_showsBy.2.1 q.1 = .ok (q.2, aLn q.2) := by decide +kernel
def bX7_showsBy_104 : List (Nat × Instr) := [(104, .iload_n 2), (105, .iload_n 1)]
theorem bX7_showsBy_104_ok : ∀ q ∈ bX7_showsBy_104, decode mX7_showsBy.2.1 q.1 = .ok (q.2, aLn q.2) := by decide +kernel
def bX7_showsBy_109 : List (Nat × Instr) := [(109, .bipush 9), (111, .goto 5)]
theorem bX7_showsBy_109_ok : ∀ q ∈ bX7_showsBy_109, decode mX7_showsBy.2.1 q.1 = .ok (q.2, aLn q.2) := by decide +kernel
def bX7_showsBy_114 : List (Nat × Instr) := [(114, .bipush 6)]
theorem bX7_showsBy_114_ok : ∀ q ∈ bX7_showsBy_114, decode mX7_showsBy.2.1 q.1 = .ok (q.2, aLn q.2) := by decide +kernel
def bX7_showsBy_117 : List (Nat × Instr) := [(117, .iconst 0)]
theorem bX7_showsBy_117_ok : ∀ q ∈ bX7_showsBy_117, decode mX7_showsBy.2.1 q.1 = .ok (q.2, aLn q.2) := by decide +kernel
def bX7_showsBy_119 : List (Nat × Instr) := [(119, .iconst 3)]
theorem bX7_showsBy_119_ok : ∀ q ∈ bX7_showsBy_119, decode mX7_showsBy.2.1 q.1 = .ok (q.2, aLn q.2) := by decide +kernel
theorem dX7_showsBy_4 : decode mX7_showsBy.2.1 4 = .ok (.invokestatic 53, 3) := by decide +kernel
theorem dX7_showsBy_13 : decode mX7_showsBy.2.1 13 = .ok (.tableswitch 106 1 7 #[43, 46, 49, 66, 78, 91, 104], 43) := by decide +kernel
theorem dX7_showsBy_58 : decode mX7_showsBy.2.1 58 = .ok (.ireturn, 1) := by decide +kernel
theorem dX7_showsBy_61 : decode mX7_showsBy.2.1 61 = .ok (.ireturn, 1) := by decide +kernel
theorem dX7_showsBy_66 : decode mX7_showsBy.2.1 66 = .ok (.if_icmp .ne 10, 3) := by decide +kernel
theorem dX7_showsBy_78 : decode mX7_showsBy.2.1 78 = .ok (.ireturn, 1) := by decide +kernel
theorem dX7_showsBy_81 : decode mX7_showsBy.2.1 81 = .ok (.if_icmp .ne 7, 3) := by decide +kernel
theorem dX7_showsBy_90 : decode mX7_showsBy.2.1 90 = .ok (.ireturn, 1) := by decide +kernel
theorem dX7_showsBy_93 : decode mX7_showsBy.2.1 93 = .ok (.if_icmp .ge 9, 3) := by decide +kernel
theorem dX7_showsBy_103 : decode mX7_showsBy.2.1 103 = .ok (.ireturn, 1) := by decide +kernel
theorem dX7_showsBy_106 : decode mX7_showsBy.2.1 106 = .ok (.if_icmp .ge 8, 3) := by decide +kernel
theorem dX7_showsBy_116 : decode mX7_showsBy.2.1 116 = .ok (.ireturn, 1) := by decide +kernel
theorem dX7_showsBy_118 : decode mX7_showsBy.2.1 118 = .ok (.ireturn, 1) := by decide +kernel
theorem dX7_showsBy_120 : decode mX7_showsBy.2.1 120 = .ok (.ireturn, 1) := by decide +kernel
def bX7_bearsBy_0 : List (Nat × Instr) := [(0, .iload_n 0)]
theorem bX7_bearsBy_0_ok : ∀ q ∈ bX7_bearsBy_0, decode mX7_bearsBy.2.1 q.1 = .ok (q.2, aLn q.2) := by decide +kernel
def bX7_bearsBy_44 : List (Nat × Instr) := [(44, .bipush 15)]
theorem bX7_bearsBy_44_ok : ∀ q ∈ bX7_bearsBy_44, decode mX7_bearsBy.2.1 q.1 = .ok (q.2, aLn q.2) := by decide +kernel
def bX7_bearsBy_47 : List (Nat × Instr) := [(47, .bipush 20), (49, .iload_n 1), (50, .iadd)]
theorem bX7_bearsBy_47_ok : ∀ q ∈ bX7_bearsBy_47, decode mX7_bearsBy.2.1 q.1 = .ok (q.2, aLn q.2) := by decide +kernel
def bX7_bearsBy_52 : List (Nat × Instr) := [(52, .iconst 2), (53, .bipush 20), (55, .iload_n 1), (56, .iadd), (57, .imul)]
theorem bX7_bearsBy_52_ok : ∀ q ∈ bX7_bearsBy_52, decode mX7_bearsBy.2.1 q.1 = .ok (q.2, aLn q.2) := by decide +kernel
def bX7_bearsBy_59 : List (Nat × Instr) := [(59, .bipush 20), (61, .iconst 2), (62, .iload_n 1), (63, .imul), (64, .iadd)]
theorem bX7_bearsBy_59_ok : ∀ q ∈ bX7_bearsBy_59, decode mX7_bearsBy.2.1 q.1 = .ok (q.2, aLn q.2) := by decide +kernel
def bX7_bearsBy_66 : List (Nat × Instr) := [(66, .bipush 7)]
theorem bX7_bearsBy_66_ok : ∀ q ∈ bX7_bearsBy_66, decode mX7_bearsBy.2.1 q.1 = .ok (q.2, aLn q.2) := by decide +kernel
def bX7_bearsBy_69 : List (Nat × Instr) := [(69, .bipush 99)]
theorem bX7_bearsBy_69_ok : ∀ q ∈ bX7_bearsBy_69, decode mX7_bearsBy.2.1 q.1 = .ok (q.2, aLn q.2) := by decide +kernel
def bX7_bearsBy_72 : List (Nat × Instr) := [(72, .bipush 20)]
theorem bX7_bearsBy_72_ok : ∀ q ∈ bX7_bearsBy_72, decode mX7_bearsBy.2.1 q.1 = .ok (q.2, aLn q.2) := by decide +kernel
theorem dX7_bearsBy_1 : decode mX7_bearsBy.2.1 1 = .ok (.tableswitch 71 1 7 #[43, 46, 43, 51, 58, 65, 68], 43) := by decide +kernel
theorem dX7_bearsBy_46 : decode mX7_bearsBy.2.1 46 = .ok (.ireturn, 1) := by decide +kernel
theorem dX7_bearsBy_51 : decode mX7_bearsBy.2.1 51 = .ok (.ireturn, 1) := by decide +kernel
theorem dX7_bearsBy_58 : decode mX7_bearsBy.2.1 58 = .ok (.ireturn, 1) := by decide +kernel
theorem dX7_bearsBy_65 : decode mX7_bearsBy.2.1 65 = .ok (.ireturn, 1) := by decide +kernel
theorem dX7_bearsBy_68 : decode mX7_bearsBy.2.1 68 = .ok (.ireturn, 1) := by decide +kernel
theorem dX7_bearsBy_71 : decode mX7_bearsBy.2.1 71 = .ok (.ireturn, 1) := by decide +kernel
theorem dX7_bearsBy_74 : decode mX7_bearsBy.2.1 74 = .ok (.ireturn, 1) := by decide +kernel
def bX7_forgetsBy_0 : List (Nat × Instr) := [(0, .iload_n 0)]
theorem bX7_forgetsBy_0_ok : ∀ q ∈ bX7_forgetsBy_0, decode mX7_forgetsBy.2.1 q.1 = .ok (q.2, aLn q.2) := by decide +kernel
def bX7_forgetsBy_44 : List (Nat × Instr) := [(44, .iconst 1)]
theorem bX7_forgetsBy_44_ok : ∀ q ∈ bX7_forgetsBy_44, decode mX7_forgetsBy.2.1 q.1 = .ok (q.2, aLn q.2) := by decide +kernel
def bX7_forgetsBy_46 : List (Nat × Instr) := [(46, .iconst 3)]
theorem bX7_forgetsBy_46_ok : ∀ q ∈ bX7_forgetsBy_46, decode mX7_forgetsBy.2.1 q.1 = .ok (q.2, aLn q.2) := by decide +kernel
def bX7_forgetsBy_48 : List (Nat × Instr) := [(48, .iconst 0)]
theorem bX7_forgetsBy_48_ok : ∀ q ∈ bX7_forgetsBy_48, decode mX7_forgetsBy.2.1 q.1 = .ok (q.2, aLn q.2) := by decide +kernel
def bX7_forgetsBy_50 : List (Nat × Instr) := [(50, .iload_n 1)]
theorem bX7_forgetsBy_50_ok : ∀ q ∈ bX7_forgetsBy_50, decode mX7_forgetsBy.2.1 q.1 = .ok (q.2, aLn q.2) := by decide +kernel
def bX7_forgetsBy_52 : List (Nat × Instr) := [(52, .bipush 9)]
theorem bX7_forgetsBy_52_ok : ∀ q ∈ bX7_forgetsBy_52, decode mX7_forgetsBy.2.1 q.1 = .ok (q.2, aLn q.2) := by decide +kernel
def bX7_forgetsBy_55 : List (Nat × Instr) := [(55, .iconst 2)]
theorem bX7_forgetsBy_55_ok : ∀ q ∈ bX7_forgetsBy_55, decode mX7_forgetsBy.2.1 q.1 = .ok (q.2, aLn q.2) := by decide +kernel
theorem dX7_forgetsBy_1 : decode mX7_forgetsBy.2.1 1 = .ok (.tableswitch 54 1 7 #[43, 45, 47, 45, 49, 43, 51], 43) := by decide +kernel
theorem dX7_forgetsBy_45 : decode mX7_forgetsBy.2.1 45 = .ok (.ireturn, 1) := by decide +kernel
theorem dX7_forgetsBy_47 : decode mX7_forgetsBy.2.1 47 = .ok (.ireturn, 1) := by decide +kernel
theorem dX7_forgetsBy_49 : decode mX7_forgetsBy.2.1 49 = .ok (.ireturn, 1) := by decide +kernel
theorem dX7_forgetsBy_51 : decode mX7_forgetsBy.2.1 51 = .ok (.ireturn, 1) := by decide +kernel
theorem dX7_forgetsBy_54 : decode mX7_forgetsBy.2.1 54 = .ok (.ireturn, 1) := by decide +kernel
theorem dX7_forgetsBy_56 : decode mX7_forgetsBy.2.1 56 = .ok (.ireturn, 1) := by decide +kernel
def bX7_bears_0 : List (Nat × Instr) := [(0, .aload_n 0), (1, .iload_n 1), (2, .iconst 0)]
theorem bX7_bears_0_ok : ∀ q ∈ bX7_bears_0, decode mX7_bears.2.1 q.1 = .ok (q.2, aLn q.2) := by decide +kernel
def bX7_bears_6 : List (Nat × Instr) := [(6, .iaload), (7, .aload_n 0), (8, .iload_n 1), (9, .iconst 1)]
theorem bX7_bears_6_ok : ∀ q ∈ bX7_bears_6, decode mX7_bears.2.1 q.1 = .ok (q.2, aLn q.2) := by decide +kernel
def bX7_bears_13 : List (Nat × Instr) := [(13, .iaload)]
theorem bX7_bears_13_ok : ∀ q ∈ bX7_bears_13, decode mX7_bears.2.1 q.1 = .ok (q.2, aLn q.2) := by decide +kernel
theorem dX7_bears_3 : decode mX7_bears.2.1 3 = .ok (.invokestatic 57, 3) := by decide +kernel
theorem dX7_bears_10 : decode mX7_bears.2.1 10 = .ok (.invokestatic 57, 3) := by decide +kernel
theorem dX7_bears_14 : decode mX7_bears.2.1 14 = .ok (.invokestatic 61, 3) := by decide +kernel
theorem dX7_bears_17 : decode mX7_bears.2.1 17 = .ok (.ireturn, 1) := by decide +kernel
def bX7_officeOf_0 : List (Nat × Instr) := [(0, .iconst 0), (1, .istore_n 2)]
theorem bX7_officeOf_0_ok : ∀ q ∈ bX7_officeOf_0, decode mX7_officeOf.2.1 q.1 = .ok (q.2, aLn q.2) := by decide +kernel
def bX7_officeOf_2 : List (Nat × Instr) := [(2, .iload_n 2), (3, .iconst 5)]
theorem bX7_officeOf_2_ok : ∀ q ∈ bX7_officeOf_2, decode mX7_officeOf.2.1 q.1 = .ok (q.2, aLn q.2) := by decide +kernel
def bX7_officeOf_7 : List (Nat × Instr) := [(7, .aload_n 0), (8, .bipush 8), (10, .iload_n 2), (11, .iadd), (12, .iaload), (13, .iload_n 1)]
theorem bX7_officeOf_7_ok : ∀ q ∈ bX7_officeOf_7, decode mX7_officeOf.2.1 q.1 = .ok (q.2, aLn q.2) := by decide +kernel
def bX7_officeOf_17 : List (Nat × Instr) := [(17, .iload_n 2)]
theorem bX7_officeOf_17_ok : ∀ q ∈ bX7_officeOf_17, decode mX7_officeOf.2.1 q.1 = .ok (q.2, aLn q.2) := by decide +kernel
def bX7_officeOf_19 : List (Nat × Instr) := [(19, .iinc 2 1), (22, .goto (-20))]
theorem bX7_officeOf_19_ok : ∀ q ∈ bX7_officeOf_19, decode mX7_officeOf.2.1 q.1 = .ok (q.2, aLn q.2) := by decide +kernel
def bX7_officeOf_25 : List (Nat × Instr) := [(25, .bipush (-4))]
theorem bX7_officeOf_25_ok : ∀ q ∈ bX7_officeOf_25, decode mX7_officeOf.2.1 q.1 = .ok (q.2, aLn q.2) := by decide +kernel
theorem dX7_officeOf_4 : decode mX7_officeOf.2.1 4 = .ok (.if_icmp .ge 21, 3) := by decide +kernel
theorem dX7_officeOf_14 : decode mX7_officeOf.2.1 14 = .ok (.if_icmp .ne 5, 3) := by decide +kernel
theorem dX7_officeOf_18 : decode mX7_officeOf.2.1 18 = .ok (.ireturn, 1) := by decide +kernel
theorem dX7_officeOf_27 : decode mX7_officeOf.2.1 27 = .ok (.ireturn, 1) := by decide +kernel
def bX7_isCommon_0 : List (Nat × Instr) := [(0, .iconst 0), (1, .istore_n 2), (2, .iconst 0), (3, .istore_n 3)]
theorem bX7_isCommon_0_ok : ∀ q ∈ bX7_isCommon_0, decode mX7_isCommon.2.1 q.1 = .ok (q.2, aLn q.2) := by decide +kernel
def bX7_isCommon_4 : List (Nat × Instr) := [(4, .iload_n 3), (5, .iconst 5)]
theorem bX7_isCommon_4_ok : ∀ q ∈ bX7_isCommon_4, decode mX7_isCommon.2.1 q.1 = .ok (q.2, aLn q.2) := by decide +kernel
def bX7_isCommon_9 : List (Nat × Instr) := [(9, .iload_n 2), (10, .aload_n 0), (11, .bipush 8), (13, .iload_n 3), (14, .iadd), (15, .iaload)]
theorem bX7_isCommon_9_ok : ∀ q ∈ bX7_isCommon_9, decode mX7_isCommon.2.1 q.1 = .ok (q.2, aLn q.2) := by decide +kernel
def bX7_isCommon_19 : List (Nat × Instr) := [(19, .aload_n 0), (20, .iconst 3), (21, .iload_n 3), (22, .iadd), (23, .iaload), (24, .iload_n 1)]
theorem bX7_isCommon_19_ok : ∀ q ∈ bX7_isCommon_19, decode mX7_isCommon.2.1 q.1 = .ok (q.2, aLn q.2) := by decide +kernel
def bX7_isCommon_28 : List (Nat × Instr) := [(28, .iconst 1), (29, .goto 4)]
theorem bX7_isCommon_28_ok : ∀ q ∈ bX7_isCommon_28, decode mX7_isCommon.2.1 q.1 = .ok (q.2, aLn q.2) := by decide +kernel
def bX7_isCommon_32 : List (Nat × Instr) := [(32, .iconst 0)]
theorem bX7_isCommon_32_ok : ∀ q ∈ bX7_isCommon_32, decode mX7_isCommon.2.1 q.1 = .ok (q.2, aLn q.2) := by decide +kernel
def bX7_isCommon_33 : List (Nat × Instr) := [(33, .iadd), (34, .istore_n 2), (35, .iinc 3 1), (38, .goto (-34))]
theorem bX7_isCommon_33_ok : ∀ q ∈ bX7_isCommon_33, decode mX7_isCommon.2.1 q.1 = .ok (q.2, aLn q.2) := by decide +kernel
def bX7_isCommon_41 : List (Nat × Instr) := [(41, .iload_n 2), (42, .iconst 1)]
theorem bX7_isCommon_41_ok : ∀ q ∈ bX7_isCommon_41, decode mX7_isCommon.2.1 q.1 = .ok (q.2, aLn q.2) := by decide +kernel
def bX7_isCommon_46 : List (Nat × Instr) := [(46, .iconst 1), (47, .goto 4)]
theorem bX7_isCommon_46_ok : ∀ q ∈ bX7_isCommon_46, decode mX7_isCommon.2.1 q.1 = .ok (q.2, aLn q.2) := by decide +kernel
def bX7_isCommon_50 : List (Nat × Instr) := [(50, .iconst 0)]
theorem bX7_isCommon_50_ok : ∀ q ∈ bX7_isCommon_50, decode mX7_isCommon.2.1 q.1 = .ok (q.2, aLn q.2) := by decide +kernel
theorem dX7_isCommon_6 : decode mX7_isCommon.2.1 6 = .ok (.if_icmp .ge 35, 3) := by decide +kernel
theorem dX7_isCommon_16 : decode mX7_isCommon.2.1 16 = .ok (.ifCond .lt 16, 3) := by decide +kernel
theorem dX7_isCommon_25 : decode mX7_isCommon.2.1 25 = .ok (.if_icmp .ne 7, 3) := by decide +kernel
theorem dX7_isCommon_43 : decode mX7_isCommon.2.1 43 = .ok (.if_icmp .le 7, 3) := by decide +kernel
theorem dX7_isCommon_51 : decode mX7_isCommon.2.1 51 = .ok (.ireturn, 1) := by decide +kernel
def bX7_heldIn_0 : List (Nat × Instr) := [(0, .iconst 0), (1, .istore_n 1), (2, .iconst 0), (3, .istore_n 2)]
theorem bX7_heldIn_0_ok : ∀ q ∈ bX7_heldIn_0, decode mX7_heldIn.2.1 q.1 = .ok (q.2, aLn q.2) := by decide +kernel
def bX7_heldIn_4 : List (Nat × Instr) := [(4, .iload_n 2), (5, .iconst 5)]
theorem bX7_heldIn_4_ok : ∀ q ∈ bX7_heldIn_4, decode mX7_heldIn.2.1 q.1 = .ok (q.2, aLn q.2) := by decide +kernel
def bX7_heldIn_9 : List (Nat × Instr) := [(9, .iload_n 1), (10, .aload_n 0), (11, .bipush 8), (13, .iload_n 2), (14, .iadd), (15, .iaload)]
theorem bX7_heldIn_9_ok : ∀ q ∈ bX7_heldIn_9, decode mX7_heldIn.2.1 q.1 = .ok (q.2, aLn q.2) := by decide +kernel
def bX7_heldIn_19 : List (Nat × Instr) := [(19, .iconst 1), (20, .iload_n 2), (21, .ishl), (22, .goto 4)]
theorem bX7_heldIn_19_ok : ∀ q ∈ bX7_heldIn_19, decode mX7_heldIn.2.1 q.1 = .ok (q.2, aLn q.2) := by decide +kernel
def bX7_heldIn_25 : List (Nat × Instr) := [(25, .iconst 0)]
theorem bX7_heldIn_25_ok : ∀ q ∈ bX7_heldIn_25, decode mX7_heldIn.2.1 q.1 = .ok (q.2, aLn q.2) := by decide +kernel
def bX7_heldIn_26 : List (Nat × Instr) := [(26, .ior), (27, .istore_n 1), (28, .iinc 2 1), (31, .goto (-27))]
theorem bX7_heldIn_26_ok : ∀ q ∈ bX7_heldIn_26, decode mX7_heldIn.2.1 q.1 = .ok (q.2, aLn q.2) := by decide +kernel
def bX7_heldIn_34 : List (Nat × Instr) := [(34, .iload_n 1)]
theorem bX7_heldIn_34_ok : ∀ q ∈ bX7_heldIn_34, decode mX7_heldIn.2.1 q.1 = .ok (q.2, aLn q.2) := by decide +kernel
theorem dX7_heldIn_6 : decode mX7_heldIn.2.1 6 = .ok (.if_icmp .ge 28, 3) := by decide +kernel
theorem dX7_heldIn_16 : decode mX7_heldIn.2.1 16 = .ok (.ifCond .lt 9, 3) := by decide +kernel
theorem dX7_heldIn_35 : decode mX7_heldIn.2.1 35 = .ok (.ireturn, 1) := by decide +kernel
def bX7_holdsIn_0 : List (Nat × Instr) := [(0, .aload_n 0), (1, .iload_n 2)]
theorem bX7_holdsIn_0_ok : ∀ q ∈ bX7_holdsIn_0, decode mX7_holdsIn.2.1 q.1 = .ok (q.2, aLn q.2) := by decide +kernel
def bX7_holdsIn_5 : List (Nat × Instr) := [(5, .istore_n 3), (6, .iload_n 3)]
theorem bX7_holdsIn_5_ok : ∀ q ∈ bX7_holdsIn_5, decode mX7_holdsIn.2.1 q.1 = .ok (q.2, aLn q.2) := by decide +kernel
def bX7_holdsIn_10 : List (Nat × Instr) := [(10, .aload_n 0), (11, .bipush 8), (13, .iload_n 3), (14, .iadd), (15, .bipush (-4)), (17, .iastore)]
theorem bX7_holdsIn_10_ok : ∀ q ∈ bX7_holdsIn_10, decode mX7_holdsIn.2.1 q.1 = .ok (q.2, aLn q.2) := by decide +kernel
def bX7_holdsIn_18 : List (Nat × Instr) := [(18, .aload_n 0), (19, .bipush 8), (21, .iload_n 1), (22, .iadd), (23, .iload_n 2), (24, .iastore)]
theorem bX7_holdsIn_18_ok : ∀ q ∈ bX7_holdsIn_18, decode mX7_holdsIn.2.1 q.1 = .ok (q.2, aLn q.2) := by decide +kernel
theorem dX7_holdsIn_2 : decode mX7_holdsIn.2.1 2 = .ok (.invokestatic 64, 3) := by decide +kernel
theorem dX7_holdsIn_7 : decode mX7_holdsIn.2.1 7 = .ok (.ifCond .lt 11, 3) := by decide +kernel
theorem dX7_holdsIn_25 : decode mX7_holdsIn.2.1 25 = .ok (.return_, 1) := by decide +kernel
def bX7_isSeen_0 : List (Nat × Instr) := [(0, .aload_n 0), (1, .iload_n 1), (2, .iconst 0)]
theorem bX7_isSeen_0_ok : ∀ q ∈ bX7_isSeen_0, decode mX7_isSeen.2.1 q.1 = .ok (q.2, aLn q.2) := by decide +kernel
def bX7_isSeen_6 : List (Nat × Instr) := [(6, .iaload), (7, .istore_n 2), (8, .aload_n 0), (9, .iload_n 1), (10, .iconst 1)]
theorem bX7_isSeen_6_ok : ∀ q ∈ bX7_isSeen_6, decode mX7_isSeen.2.1 q.1 = .ok (q.2, aLn q.2) := by decide +kernel
def bX7_isSeen_14 : List (Nat × Instr) := [(14, .iaload), (15, .istore_n 3), (16, .aload_n 0), (17, .iload_n 1)]
theorem bX7_isSeen_14_ok : ∀ q ∈ bX7_isSeen_14, decode mX7_isSeen.2.1 q.1 = .ok (q.2, aLn q.2) := by decide +kernel
def bX7_isSeen_21 : List (Nat × Instr) := [(21, .istore 4), (23, .iload 4)]
theorem bX7_isSeen_21_ok : ∀ q ∈ bX7_isSeen_21, decode mX7_isSeen.2.1 q.1 = .ok (q.2, aLn q.2) := by decide +kernel
def bX7_isSeen_28 : List (Nat × Instr) := [(28, .aload_n 0), (29, .iload_n 1), (30, .iconst 2)]
theorem bX7_isSeen_28_ok : ∀ q ∈ bX7_isSeen_28, decode mX7_isSeen.2.1 q.1 = .ok (q.2, aLn q.2) := by decide +kernel
def bX7_isSeen_34 : List (Nat × Instr) := [(34, .aload_n 0), (35, .iload_n 1), (36, .iconst 2)]
theorem bX7_isSeen_34_ok : ∀ q ∈ bX7_isSeen_34, decode mX7_isSeen.2.1 q.1 = .ok (q.2, aLn q.2) := by decide +kernel
def bX7_isSeen_40 : List (Nat × Instr) := [(40, .iaload), (41, .iload_n 2), (42, .iload_n 3)]
theorem bX7_isSeen_40_ok : ∀ q ∈ bX7_isSeen_40, decode mX7_isSeen.2.1 q.1 = .ok (q.2, aLn q.2) := by decide +kernel
def bX7_isSeen_49 : List (Nat × Instr) := [(49, .iastore)]
theorem bX7_isSeen_49_ok : ∀ q ∈ bX7_isSeen_49, decode mX7_isSeen.2.1 q.1 = .ok (q.2, aLn q.2) := by decide +kernel
def bX7_isSeen_51 : List (Nat × Instr) := [(51, .aload_n 0), (52, .iconst 3), (53, .iload 4), (55, .iadd), (56, .iaload), (57, .istore 5), (59, .aload_n 0), (60, .iload_n 1), (61, .iconst 2)]
theorem bX7_isSeen_51_ok : ∀ q ∈ bX7_isSeen_51, decode mX7_isSeen.2.1 q.1 = .ok (q.2, aLn q.2) := by decide +kernel
def bX7_isSeen_65 : List (Nat × Instr) := [(65, .bipush 99), (67, .aload_n 0), (68, .iload_n 1), (69, .iconst 2)]
theorem bX7_isSeen_65_ok : ∀ q ∈ bX7_isSeen_65, decode mX7_isSeen.2.1 q.1 = .ok (q.2, aLn q.2) := by decide +kernel
def bX7_isSeen_73 : List (Nat × Instr) := [(73, .iaload), (74, .iload_n 2), (75, .iload_n 3), (76, .iload 5), (78, .aload_n 0), (79, .iconst 1), (80, .iaload)]
theorem bX7_isSeen_73_ok : ∀ q ∈ bX7_isSeen_73, decode mX7_isSeen.2.1 q.1 = .ok (q.2, aLn q.2) := by decide +kernel
def bX7_isSeen_84 : List (Nat × Instr) := [(84, .aload_n 0), (85, .iload 5)]
theorem bX7_isSeen_84_ok : ∀ q ∈ bX7_isSeen_84, decode mX7_isSeen.2.1 q.1 = .ok (q.2, aLn q.2) := by decide +kernel
def bX7_isSeen_93 : List (Nat × Instr) := [(93, .iconst 2), (94, .goto 4)]
theorem bX7_isSeen_93_ok : ∀ q ∈ bX7_isSeen_93, decode mX7_isSeen.2.1 q.1 = .ok (q.2, aLn q.2) := by decide +kernel
def bX7_isSeen_97 : List (Nat × Instr) := [(97, .iconst 1)]
theorem bX7_isSeen_97_ok : ∀ q ∈ bX7_isSeen_97, decode mX7_isSeen.2.1 q.1 = .ok (q.2, aLn q.2) := by decide +kernel
def bX7_isSeen_98 : List (Nat × Instr) := [(98, .idiv), (99, .iadd)]
theorem bX7_isSeen_98_ok : ∀ q ∈ bX7_isSeen_98, decode mX7_isSeen.2.1 q.1 = .ok (q.2, aLn q.2) := by decide +kernel
def bX7_isSeen_103 : List (Nat × Instr) := [(103, .iastore)]
theorem bX7_isSeen_103_ok : ∀ q ∈ bX7_isSeen_103, decode mX7_isSeen.2.1 q.1 = .ok (q.2, aLn q.2) := by decide +kernel
theorem dX7_isSeen_3 : decode mX7_isSeen.2.1 3 = .ok (.invokestatic 57, 3) := by decide +kernel
theorem dX7_isSeen_11 : decode mX7_isSeen.2.1 11 = .ok (.invokestatic 57, 3) := by decide +kernel
theorem dX7_isSeen_18 : decode mX7_isSeen.2.1 18 = .ok (.invokestatic 64, 3) := by decide +kernel
theorem dX7_isSeen_25 : decode mX7_isSeen.2.1 25 = .ok (.ifCond .ge 26, 3) := by decide +kernel
theorem dX7_isSeen_31 : decode mX7_isSeen.2.1 31 = .ok (.invokestatic 57, 3) := by decide +kernel
theorem dX7_isSeen_37 : decode mX7_isSeen.2.1 37 = .ok (.invokestatic 57, 3) := by decide +kernel
theorem dX7_isSeen_43 : decode mX7_isSeen.2.1 43 = .ok (.invokestatic 68, 3) := by decide +kernel
theorem dX7_isSeen_46 : decode mX7_isSeen.2.1 46 = .ok (.invokestatic 71, 3) := by decide +kernel
theorem dX7_isSeen_50 : decode mX7_isSeen.2.1 50 = .ok (.return_, 1) := by decide +kernel
theorem dX7_isSeen_62 : decode mX7_isSeen.2.1 62 = .ok (.invokestatic 57, 3) := by decide +kernel
theorem dX7_isSeen_70 : decode mX7_isSeen.2.1 70 = .ok (.invokestatic 57, 3) := by decide +kernel
theorem dX7_isSeen_81 : decode mX7_isSeen.2.1 81 = .ok (.invokestatic 74, 3) := by decide +kernel
theorem dX7_isSeen_87 : decode mX7_isSeen.2.1 87 = .ok (.invokestatic 78, 3) := by decide +kernel
theorem dX7_isSeen_90 : decode mX7_isSeen.2.1 90 = .ok (.ifCond .eq 7, 3) := by decide +kernel
theorem dX7_isSeen_100 : decode mX7_isSeen.2.1 100 = .ok (.invokestatic 82, 3) := by decide +kernel
theorem dX7_isSeen_104 : decode mX7_isSeen.2.1 104 = .ok (.return_, 1) := by decide +kernel
def bX7_fallsIn_0 : List (Nat × Instr) := [(0, .aload_n 0), (1, .bipush 8), (3, .iload_n 1), (4, .iadd), (5, .iaload), (6, .istore_n 2), (7, .iload_n 2)]
theorem bX7_fallsIn_0_ok : ∀ q ∈ bX7_fallsIn_0, decode mX7_fallsIn.2.1 q.1 = .ok (q.2, aLn q.2) := by decide +kernel
def bX7_fallsIn_11 : List (Nat × Instr) := [(11, .aload_n 0), (12, .iload_n 2), (13, .iconst 2)]
theorem bX7_fallsIn_11_ok : ∀ q ∈ bX7_fallsIn_11, decode mX7_fallsIn.2.1 q.1 = .ok (q.2, aLn q.2) := by decide +kernel
def bX7_fallsIn_17 : List (Nat × Instr) := [(17, .iaload), (18, .aload_n 0), (19, .iload_n 2)]
theorem bX7_fallsIn_17_ok : ∀ q ∈ bX7_fallsIn_17, decode mX7_fallsIn.2.1 q.1 = .ok (q.2, aLn q.2) := by decide +kernel
def bX7_fallsIn_27 : List (Nat × Instr) := [(27, .aload_n 0), (28, .iconst 2), (29, .sipush 999), (32, .aload_n 0), (33, .iconst 2), (34, .iaload), (35, .iconst 1), (36, .iadd)]
theorem bX7_fallsIn_27_ok : ∀ q ∈ bX7_fallsIn_27, decode mX7_fallsIn.2.1 q.1 = .ok (q.2, aLn q.2) := by decide +kernel
def bX7_fallsIn_40 : List (Nat × Instr) := [(40, .iastore), (41, .aload_n 0), (42, .bipush 8), (44, .iload_n 1), (45, .iadd), (46, .bipush (-4)), (48, .iastore), (49, .aload_n 0), (50, .iload_n 2), (51, .iconst 3)]
theorem bX7_fallsIn_40_ok : ∀ q ∈ bX7_fallsIn_40, decode mX7_fallsIn.2.1 q.1 = .ok (q.2, aLn q.2) := by decide +kernel
def bX7_fallsIn_55 : List (Nat × Instr) := [(55, .iaload), (56, .istore_n 3), (57, .iload_n 3), (58, .aload_n 0), (59, .iconst 0), (60, .iaload)]
theorem bX7_fallsIn_55_ok : ∀ q ∈ bX7_fallsIn_55, decode mX7_fallsIn.2.1 q.1 = .ok (q.2, aLn q.2) := by decide +kernel
def bX7_fallsIn_64 : List (Nat × Instr) := [(64, .aload_n 0), (65, .iload_n 3)]
theorem bX7_fallsIn_64_ok : ∀ q ∈ bX7_fallsIn_64, decode mX7_fallsIn.2.1 q.1 = .ok (q.2, aLn q.2) := by decide +kernel
def bX7_fallsIn_72 : List (Nat × Instr) := [(72, .aload_n 0), (73, .iload_n 3), (74, .iconst 2)]
theorem bX7_fallsIn_72_ok : ∀ q ∈ bX7_fallsIn_72, decode mX7_fallsIn.2.1 q.1 = .ok (q.2, aLn q.2) := by decide +kernel
def bX7_fallsIn_78 : List (Nat × Instr) := [(78, .iaload), (79, .aload_n 0), (80, .iload_n 3)]
theorem bX7_fallsIn_78_ok : ∀ q ∈ bX7_fallsIn_78, decode mX7_fallsIn.2.1 q.1 = .ok (q.2, aLn q.2) := by decide +kernel
def bX7_fallsIn_87 : List (Nat × Instr) := [(87, .aload_n 0), (88, .bipush 8), (90, .iload_n 1), (91, .iadd), (92, .iload_n 3), (93, .iastore)]
theorem bX7_fallsIn_87_ok : ∀ q ∈ bX7_fallsIn_87, decode mX7_fallsIn.2.1 q.1 = .ok (q.2, aLn q.2) := by decide +kernel
theorem dX7_fallsIn_8 : decode mX7_fallsIn.2.1 8 = .ok (.ifCond .lt 18, 3) := by decide +kernel
theorem dX7_fallsIn_14 : decode mX7_fallsIn.2.1 14 = .ok (.invokestatic 57, 3) := by decide +kernel
theorem dX7_fallsIn_20 : decode mX7_fallsIn.2.1 20 = .ok (.invokestatic 85, 3) := by decide +kernel
theorem dX7_fallsIn_23 : decode mX7_fallsIn.2.1 23 = .ok (.if_icmp .ge 4, 3) := by decide +kernel
theorem dX7_fallsIn_26 : decode mX7_fallsIn.2.1 26 = .ok (.return_, 1) := by decide +kernel
theorem dX7_fallsIn_37 : decode mX7_fallsIn.2.1 37 = .ok (.invokestatic 82, 3) := by decide +kernel
theorem dX7_fallsIn_52 : decode mX7_fallsIn.2.1 52 = .ok (.invokestatic 57, 3) := by decide +kernel
theorem dX7_fallsIn_61 : decode mX7_fallsIn.2.1 61 = .ok (.if_icmp .ge 33, 3) := by decide +kernel
theorem dX7_fallsIn_66 : decode mX7_fallsIn.2.1 66 = .ok (.invokestatic 64, 3) := by decide +kernel
theorem dX7_fallsIn_69 : decode mX7_fallsIn.2.1 69 = .ok (.ifCond .ge 25, 3) := by decide +kernel
theorem dX7_fallsIn_75 : decode mX7_fallsIn.2.1 75 = .ok (.invokestatic 57, 3) := by decide +kernel
theorem dX7_fallsIn_81 : decode mX7_fallsIn.2.1 81 = .ok (.invokestatic 85, 3) := by decide +kernel
theorem dX7_fallsIn_84 : decode mX7_fallsIn.2.1 84 = .ok (.if_icmp .ge 10, 3) := by decide +kernel
theorem dX7_fallsIn_94 : decode mX7_fallsIn.2.1 94 = .ok (.return_, 1) := by decide +kernel
def bX7_day_0 : List (Nat × Instr) := [(0, .aload_n 0), (1, .iconst 1), (2, .dup2), (3, .iaload), (4, .iconst 1), (5, .iadd), (6, .iastore), (7, .iconst 0), (8, .istore_n 1)]
theorem bX7_day_0_ok : ∀ q ∈ bX7_day_0, decode mX7_day.2.1 q.1 = .ok (q.2, aLn q.2) := by decide +kernel
def bX7_day_9 : List (Nat × Instr) := [(9, .iload_n 1), (10, .aload_n 0), (11, .iconst 0), (12, .iaload)]
theorem bX7_day_9_ok : ∀ q ∈ bX7_day_9, decode mX7_day.2.1 q.1 = .ok (q.2, aLn q.2) := by decide +kernel
def bX7_day_16 : List (Nat × Instr) := [(16, .aload_n 0), (17, .iload_n 1)]
theorem bX7_day_16_ok : ∀ q ∈ bX7_day_16, decode mX7_day.2.1 q.1 = .ok (q.2, aLn q.2) := by decide +kernel
def bX7_day_21 : List (Nat × Instr) := [(21, .iinc 1 1), (24, .goto (-15))]
theorem bX7_day_21_ok : ∀ q ∈ bX7_day_21, decode mX7_day.2.1 q.1 = .ok (q.2, aLn q.2) := by decide +kernel
def bX7_day_27 : List (Nat × Instr) := [(27, .iconst 0), (28, .istore_n 1)]
theorem bX7_day_27_ok : ∀ q ∈ bX7_day_27, decode mX7_day.2.1 q.1 = .ok (q.2, aLn q.2) := by decide +kernel
def bX7_day_29 : List (Nat × Instr) := [(29, .iload_n 1), (30, .iconst 5)]
theorem bX7_day_29_ok : ∀ q ∈ bX7_day_29, decode mX7_day.2.1 q.1 = .ok (q.2, aLn q.2) := by decide +kernel
def bX7_day_34 : List (Nat × Instr) := [(34, .aload_n 0), (35, .iload_n 1)]
theorem bX7_day_34_ok : ∀ q ∈ bX7_day_34, decode mX7_day.2.1 q.1 = .ok (q.2, aLn q.2) := by decide +kernel
def bX7_day_39 : List (Nat × Instr) := [(39, .iinc 1 1), (42, .goto (-13))]
theorem bX7_day_39_ok : ∀ q ∈ bX7_day_39, decode mX7_day.2.1 q.1 = .ok (q.2, aLn q.2) := by decide +kernel
theorem dX7_day_13 : decode mX7_day.2.1 13 = .ok (.if_icmp .ge 14, 3) := by decide +kernel
theorem dX7_day_18 : decode mX7_day.2.1 18 = .ok (.invokestatic 88, 3) := by decide +kernel
theorem dX7_day_31 : decode mX7_day.2.1 31 = .ok (.if_icmp .ge 14, 3) := by decide +kernel
theorem dX7_day_36 : decode mX7_day.2.1 36 = .ok (.invokestatic 92, 3) := by decide +kernel
theorem dX7_day_45 : decode mX7_day.2.1 45 = .ok (.return_, 1) := by decide +kernel
def bX7_daysOn_0 : List (Nat × Instr) := [(0, .iconst 0), (1, .istore_n 2)]
theorem bX7_daysOn_0_ok : ∀ q ∈ bX7_daysOn_0, decode mX7_daysOn.2.1 q.1 = .ok (q.2, aLn q.2) := by decide +kernel
def bX7_daysOn_2 : List (Nat × Instr) := [(2, .iload_n 2), (3, .iload_n 1)]
theorem bX7_daysOn_2_ok : ∀ q ∈ bX7_daysOn_2, decode mX7_daysOn.2.1 q.1 = .ok (q.2, aLn q.2) := by decide +kernel
def bX7_daysOn_7 : List (Nat × Instr) := [(7, .aload_n 0)]
theorem bX7_daysOn_7_ok : ∀ q ∈ bX7_daysOn_7, decode mX7_daysOn.2.1 q.1 = .ok (q.2, aLn q.2) := by decide +kernel
def bX7_daysOn_11 : List (Nat × Instr) := [(11, .iinc 2 1), (14, .goto (-12))]
theorem bX7_daysOn_11_ok : ∀ q ∈ bX7_daysOn_11, decode mX7_daysOn.2.1 q.1 = .ok (q.2, aLn q.2) := by decide +kernel
theorem dX7_daysOn_4 : decode mX7_daysOn.2.1 4 = .ok (.if_icmp .ge 13, 3) := by decide +kernel
theorem dX7_daysOn_8 : decode mX7_daysOn.2.1 8 = .ok (.invokestatic 95, 3) := by decide +kernel
theorem dX7_daysOn_17 : decode mX7_daysOn.2.1 17 = .ok (.return_, 1) := by decide +kernel
def bX7_allKnown_0 : List (Nat × Instr) := [(0, .iconst 0), (1, .istore_n 1), (2, .iconst 0), (3, .istore_n 2)]
theorem bX7_allKnown_0_ok : ∀ q ∈ bX7_allKnown_0, decode mX7_allKnown.2.1 q.1 = .ok (q.2, aLn q.2) := by decide +kernel
def bX7_allKnown_4 : List (Nat × Instr) := [(4, .iload_n 2), (5, .aload_n 0), (6, .iconst 0), (7, .iaload)]
theorem bX7_allKnown_4_ok : ∀ q ∈ bX7_allKnown_4, decode mX7_allKnown.2.1 q.1 = .ok (q.2, aLn q.2) := by decide +kernel
def bX7_allKnown_11 : List (Nat × Instr) := [(11, .iload_n 1), (12, .aload_n 0), (13, .iload_n 2), (14, .iconst 2)]
theorem bX7_allKnown_11_ok : ∀ q ∈ bX7_allKnown_11, decode mX7_allKnown.2.1 q.1 = .ok (q.2, aLn q.2) := by decide +kernel
def bX7_allKnown_18 : List (Nat × Instr) := [(18, .iaload), (19, .iadd), (20, .istore_n 1), (21, .iinc 2 1), (24, .goto (-20))]
theorem bX7_allKnown_18_ok : ∀ q ∈ bX7_allKnown_18, decode mX7_allKnown.2.1 q.1 = .ok (q.2, aLn q.2) := by decide +kernel
def bX7_allKnown_27 : List (Nat × Instr) := [(27, .iload_n 1)]
theorem bX7_allKnown_27_ok : ∀ q ∈ bX7_allKnown_27, decode mX7_allKnown.2.1 q.1 = .ok (q.2, aLn q.2) := by decide +kernel
theorem dX7_allKnown_8 : decode mX7_allKnown.2.1 8 = .ok (.if_icmp .ge 19, 3) := by decide +kernel
theorem dX7_allKnown_15 : decode mX7_allKnown.2.1 15 = .ok (.invokestatic 57, 3) := by decide +kernel
theorem dX7_allKnown_28 : decode mX7_allKnown.2.1 28 = .ok (.ireturn, 1) := by decide +kernel
def bX7_here_0 : List (Nat × Instr) := [(0, .aload_n 0), (1, .getfield 99), (4, .aload_n 0), (5, .getfield 103)]
theorem bX7_here_0_ok : ∀ q ∈ bX7_here_0, decode mX7_here.2.1 q.1 = .ok (q.2, aLn q.2) := by decide +kernel
def bX7_here_11 : List (Nat × Instr) := [(11, .aload_n 0), (12, .getfield 46), (15, .aload_n 0), (16, .getfield 106), (19, .aload_n 0), (20, .getfield 99), (23, .iadd), (24, .iaload), (25, .sipush 255), (28, .iand), (29, .goto 4)]
theorem bX7_here_11_ok : ∀ q ∈ bX7_here_11, decode mX7_here.2.1 q.1 = .ok (q.2, aLn q.2) := by decide +kernel
def bX7_here_32 : List (Nat × Instr) := [(32, .iconst (-1))]
theorem bX7_here_32_ok : ∀ q ∈ bX7_here_32, decode mX7_here.2.1 q.1 = .ok (q.2, aLn q.2) := by decide +kernel
theorem dX7_here_8 : decode mX7_here.2.1 8 = .ok (.if_icmp .ge 24, 3) := by decide +kernel
theorem dX7_here_33 : decode mX7_here.2.1 33 = .ok (.ireturn, 1) := by decide +kernel
def bX7_readsNumber_0 : List (Nat × Instr) := [(0, .aload_n 0), (1, .getfield 22), (4, .iload_n 1), (5, .iconst 0), (6, .iastore), (7, .iconst 0), (8, .istore_n 3)]
theorem bX7_readsNumber_0_ok : ∀ q ∈ bX7_readsNumber_0, decode mX7_readsNumber.2.1 q.1 = .ok (q.2, aLn q.2) := by decide +kernel
def bX7_readsNumber_9 : List (Nat × Instr) := [(9, .iload_n 3), (10, .iload_n 2)]
theorem bX7_readsNumber_9_ok : ∀ q ∈ bX7_readsNumber_9, decode mX7_readsNumber.2.1 q.1 = .ok (q.2, aLn q.2) := by decide +kernel
def bX7_readsNumber_14 : List (Nat × Instr) := [(14, .aload_n 0)]
theorem bX7_readsNumber_14_ok : ∀ q ∈ bX7_readsNumber_14, decode mX7_readsNumber.2.1 q.1 = .ok (q.2, aLn q.2) := by decide +kernel
def bX7_readsNumber_18 : List (Nat × Instr) := [(18, .bipush 48), (20, .bipush 57)]
theorem bX7_readsNumber_18_ok : ∀ q ∈ bX7_readsNumber_18, decode mX7_readsNumber.2.1 q.1 = .ok (q.2, aLn q.2) := by decide +kernel
def bX7_readsNumber_28 : List (Nat × Instr) := [(28, .iconst 0)]
theorem bX7_readsNumber_28_ok : ∀ q ∈ bX7_readsNumber_28, decode mX7_readsNumber.2.1 q.1 = .ok (q.2, aLn q.2) := by decide +kernel
def bX7_readsNumber_30 : List (Nat × Instr) := [(30, .aload_n 0), (31, .getfield 22), (34, .iload_n 1), (35, .bipush 10), (37, .aload_n 0), (38, .getfield 22), (41, .iload_n 1), (42, .iaload), (43, .imul), (44, .aload_n 0)]
theorem bX7_readsNumber_30_ok : ∀ q ∈ bX7_readsNumber_30, decode mX7_readsNumber.2.1 q.1 = .ok (q.2, aLn q.2) := by decide +kernel
def bX7_readsNumber_48 : List (Nat × Instr) := [(48, .iadd), (49, .bipush 48), (51, .isub), (52, .iastore), (53, .aload_n 0), (54, .dup), (55, .getfield 99), (58, .iconst 1), (59, .iadd), (60, .putfield 99), (63, .iinc 3 1), (66, .goto (-57))]
theorem bX7_readsNumber_48_ok : ∀ q ∈ bX7_readsNumber_48, decode mX7_readsNumber.2.1 q.1 = .ok (q.2, aLn q.2) := by decide +kernel
def bX7_readsNumber_69 : List (Nat × Instr) := [(69, .iconst 1)]
theorem bX7_readsNumber_69_ok : ∀ q ∈ bX7_readsNumber_69, decode mX7_readsNumber.2.1 q.1 = .ok (q.2, aLn q.2) := by decide +kernel
theorem dX7_readsNumber_11 : decode mX7_readsNumber.2.1 11 = .ok (.if_icmp .ge 58, 3) := by decide +kernel
theorem dX7_readsNumber_15 : decode mX7_readsNumber.2.1 15 = .ok (.invokevirtual 109, 3) := by decide +kernel
theorem dX7_readsNumber_22 : decode mX7_readsNumber.2.1 22 = .ok (.invokestatic 49, 3) := by decide +kernel
theorem dX7_readsNumber_25 : decode mX7_readsNumber.2.1 25 = .ok (.ifCond .ne 5, 3) := by decide +kernel
theorem dX7_readsNumber_29 : decode mX7_readsNumber.2.1 29 = .ok (.ireturn, 1) := by decide +kernel
theorem dX7_readsNumber_45 : decode mX7_readsNumber.2.1 45 = .ok (.invokevirtual 109, 3) := by decide +kernel
theorem dX7_readsNumber_70 : decode mX7_readsNumber.2.1 70 = .ok (.ireturn, 1) := by decide +kernel
def bX7_readsStatement_0 : List (Nat × Instr) := [(0, .aload_n 0)]
theorem bX7_readsStatement_0_ok : ∀ q ∈ bX7_readsStatement_0, decode mX7_readsStatement.2.1 q.1 = .ok (q.2, aLn q.2) := by decide +kernel
def bX7_readsStatement_4 : List (Nat × Instr) := [(4, .istore_n 1), (5, .aload_n 0), (6, .dup), (7, .getfield 99), (10, .iconst 1), (11, .iadd), (12, .putfield 99), (15, .iload_n 1)]
theorem bX7_readsStatement_4_ok : ∀ q ∈ bX7_readsStatement_4, decode mX7_readsStatement.2.1 q.1 = .ok (q.2, aLn q.2) := by decide +kernel
def bX7_readsStatement_84 : List (Nat × Instr) := [(84, .aload_n 0), (85, .iconst 0), (86, .iconst 1)]
theorem bX7_readsStatement_84_ok : ∀ q ∈ bX7_readsStatement_84, decode mX7_readsStatement.2.1 q.1 = .ok (q.2, aLn q.2) := by decide +kernel
def bX7_readsStatement_93 : List (Nat × Instr) := [(93, .aload_n 0), (94, .iconst 1), (95, .iconst 1)]
theorem bX7_readsStatement_93_ok : ∀ q ∈ bX7_readsStatement_93, decode mX7_readsStatement.2.1 q.1 = .ok (q.2, aLn q.2) := by decide +kernel
def bX7_readsStatement_102 : List (Nat × Instr) := [(102, .aload_n 0), (103, .iconst 2), (104, .iconst 1)]
theorem bX7_readsStatement_102_ok : ∀ q ∈ bX7_readsStatement_102, decode mX7_readsStatement.2.1 q.1 = .ok (q.2, aLn q.2) := by decide +kernel
def bX7_readsStatement_111 : List (Nat × Instr) := [(111, .iconst 1), (112, .goto 4)]
theorem bX7_readsStatement_111_ok : ∀ q ∈ bX7_readsStatement_111, decode mX7_readsStatement.2.1 q.1 = .ok (q.2, aLn q.2) := by decide +kernel
def bX7_readsStatement_115 : List (Nat × Instr) := [(115, .iconst 0)]
theorem bX7_readsStatement_115_ok : ∀ q ∈ bX7_readsStatement_115, decode mX7_readsStatement.2.1 q.1 = .ok (q.2, aLn q.2) := by decide +kernel
def bX7_readsStatement_116 : List (Nat × Instr) := [(116, .istore_n 2), (117, .goto 89)]
theorem bX7_readsStatement_116_ok : ∀ q ∈ bX7_readsStatement_116, decode mX7_readsStatement.2.1 q.1 = .ok (q.2, aLn q.2) := by decide +kernel
def bX7_readsStatement_120 : List (Nat × Instr) := [(120, .aload_n 0), (121, .iconst 0), (122, .iconst 1)]
theorem bX7_readsStatement_120_ok : ∀ q ∈ bX7_readsStatement_120, decode mX7_readsStatement.2.1 q.1 = .ok (q.2, aLn q.2) := by decide +kernel
def bX7_readsStatement_129 : List (Nat × Instr) := [(129, .aload_n 0), (130, .iconst 1), (131, .iconst 1)]
theorem bX7_readsStatement_129_ok : ∀ q ∈ bX7_readsStatement_129, decode mX7_readsStatement.2.1 q.1 = .ok (q.2, aLn q.2) := by decide +kernel
def bX7_readsStatement_138 : List (Nat × Instr) := [(138, .iconst 1), (139, .goto 4)]
theorem bX7_readsStatement_138_ok : ∀ q ∈ bX7_readsStatement_138, decode mX7_readsStatement.2.1 q.1 = .ok (q.2, aLn q.2) := by decide +kernel
def bX7_readsStatement_142 : List (Nat × Instr) := [(142, .iconst 0)]
theorem bX7_readsStatement_142_ok : ∀ q ∈ bX7_readsStatement_142, decode mX7_readsStatement.2.1 q.1 = .ok (q.2, aLn q.2) := by decide +kernel
def bX7_readsStatement_143 : List (Nat × Instr) := [(143, .istore_n 2), (144, .goto 62)]
theorem bX7_readsStatement_143_ok : ∀ q ∈ bX7_readsStatement_143, decode mX7_readsStatement.2.1 q.1 = .ok (q.2, aLn q.2) := by decide +kernel
def bX7_readsStatement_147 : List (Nat × Instr) := [(147, .aload_n 0), (148, .iconst 0), (149, .iconst 1)]
theorem bX7_readsStatement_147_ok : ∀ q ∈ bX7_readsStatement_147, decode mX7_readsStatement.2.1 q.1 = .ok (q.2, aLn q.2) := by decide +kernel
def bX7_readsStatement_153 : List (Nat × Instr) := [(153, .istore_n 2), (154, .goto 52)]
theorem bX7_readsStatement_153_ok : ∀ q ∈ bX7_readsStatement_153, decode mX7_readsStatement.2.1 q.1 = .ok (q.2, aLn q.2) := by decide +kernel
def bX7_readsStatement_157 : List (Nat × Instr) := [(157, .aload_n 0), (158, .iconst 0), (159, .iconst 1)]
theorem bX7_readsStatement_157_ok : ∀ q ∈ bX7_readsStatement_157, decode mX7_readsStatement.2.1 q.1 = .ok (q.2, aLn q.2) := by decide +kernel
def bX7_readsStatement_166 : List (Nat × Instr) := [(166, .aload_n 0), (167, .iconst 1), (168, .iconst 2)]
theorem bX7_readsStatement_166_ok : ∀ q ∈ bX7_readsStatement_166, decode mX7_readsStatement.2.1 q.1 = .ok (q.2, aLn q.2) := by decide +kernel
def bX7_readsStatement_175 : List (Nat × Instr) := [(175, .iconst 1), (176, .goto 4)]
theorem bX7_readsStatement_175_ok : ∀ q ∈ bX7_readsStatement_175, decode mX7_readsStatement.2.1 q.1 = .ok (q.2, aLn q.2) := by decide +kernel
def bX7_readsStatement_179 : List (Nat × Instr) := [(179, .iconst 0)]
theorem bX7_readsStatement_179_ok : ∀ q ∈ bX7_readsStatement_179, decode mX7_readsStatement.2.1 q.1 = .ok (q.2, aLn q.2) := by decide +kernel
def bX7_readsStatement_180 : List (Nat × Instr) := [(180, .istore_n 2), (181, .goto 25)]
theorem bX7_readsStatement_180_ok : ∀ q ∈ bX7_readsStatement_180, decode mX7_readsStatement.2.1 q.1 = .ok (q.2, aLn q.2) := by decide +kernel
def bX7_readsStatement_184 : List (Nat × Instr) := [(184, .aload_n 0), (185, .iconst 0), (186, .iconst 2)]
theorem bX7_readsStatement_184_ok : ∀ q ∈ bX7_readsStatement_184, decode mX7_readsStatement.2.1 q.1 = .ok (q.2, aLn q.2) := by decide +kernel
def bX7_readsStatement_190 : List (Nat × Instr) := [(190, .istore_n 2), (191, .goto 15)]
theorem bX7_readsStatement_190_ok : ∀ q ∈ bX7_readsStatement_190, decode mX7_readsStatement.2.1 q.1 = .ok (q.2, aLn q.2) := by decide +kernel
def bX7_readsStatement_194 : List (Nat × Instr) := [(194, .aload_n 0), (195, .dup), (196, .getfield 99), (199, .iconst 1), (200, .isub), (201, .putfield 99), (204, .iconst 0)]
theorem bX7_readsStatement_194_ok : ∀ q ∈ bX7_readsStatement_194, decode mX7_readsStatement.2.1 q.1 = .ok (q.2, aLn q.2) := by decide +kernel
def bX7_readsStatement_206 : List (Nat × Instr) := [(206, .iload_n 2)]
theorem bX7_readsStatement_206_ok : ∀ q ∈ bX7_readsStatement_206, decode mX7_readsStatement.2.1 q.1 = .ok (q.2, aLn q.2) := by decide +kernel
def bX7_readsStatement_210 : List (Nat × Instr) := [(210, .aload_n 0)]
theorem bX7_readsStatement_210_ok : ∀ q ∈ bX7_readsStatement_210, decode mX7_readsStatement.2.1 q.1 = .ok (q.2, aLn q.2) := by decide +kernel
def bX7_readsStatement_214 : List (Nat × Instr) := [(214, .bipush 59)]
theorem bX7_readsStatement_214_ok : ∀ q ∈ bX7_readsStatement_214, decode mX7_readsStatement.2.1 q.1 = .ok (q.2, aLn q.2) := by decide +kernel
def bX7_readsStatement_219 : List (Nat × Instr) := [(219, .iconst 0)]
theorem bX7_readsStatement_219_ok : ∀ q ∈ bX7_readsStatement_219, decode mX7_readsStatement.2.1 q.1 = .ok (q.2, aLn q.2) := by decide +kernel
def bX7_readsStatement_221 : List (Nat × Instr) := [(221, .aload_n 0), (222, .dup), (223, .getfield 99), (226, .iconst 1), (227, .iadd), (228, .putfield 99), (231, .iconst 1)]
theorem bX7_readsStatement_221_ok : ∀ q ∈ bX7_readsStatement_221, decode mX7_readsStatement.2.1 q.1 = .ok (q.2, aLn q.2) := by decide +kernel
theorem dX7_readsStatement_1 : decode mX7_readsStatement.2.1 1 = .ok (.invokevirtual 109, 3) := by decide +kernel
theorem dX7_readsStatement_16 : decode mX7_readsStatement.2.1 16 = .ok (.tableswitch 178 100 112 #[168, 131, 178, 178, 104, 178, 178, 141, 178, 178, 178, 104, 68], 68) := by decide +kernel
theorem dX7_readsStatement_87 : decode mX7_readsStatement.2.1 87 = .ok (.invokevirtual 113, 3) := by decide +kernel
theorem dX7_readsStatement_90 : decode mX7_readsStatement.2.1 90 = .ok (.ifCond .eq 25, 3) := by decide +kernel
theorem dX7_readsStatement_96 : decode mX7_readsStatement.2.1 96 = .ok (.invokevirtual 113, 3) := by decide +kernel
theorem dX7_readsStatement_99 : decode mX7_readsStatement.2.1 99 = .ok (.ifCond .eq 16, 3) := by decide +kernel
theorem dX7_readsStatement_105 : decode mX7_readsStatement.2.1 105 = .ok (.invokevirtual 113, 3) := by decide +kernel
theorem dX7_readsStatement_108 : decode mX7_readsStatement.2.1 108 = .ok (.ifCond .eq 7, 3) := by decide +kernel
theorem dX7_readsStatement_123 : decode mX7_readsStatement.2.1 123 = .ok (.invokevirtual 113, 3) := by decide +kernel
theorem dX7_readsStatement_126 : decode mX7_readsStatement.2.1 126 = .ok (.ifCond .eq 16, 3) := by decide +kernel
theorem dX7_readsStatement_132 : decode mX7_readsStatement.2.1 132 = .ok (.invokevirtual 113, 3) := by decide +kernel
theorem dX7_readsStatement_135 : decode mX7_readsStatement.2.1 135 = .ok (.ifCond .eq 7, 3) := by decide +kernel
theorem dX7_readsStatement_150 : decode mX7_readsStatement.2.1 150 = .ok (.invokevirtual 113, 3) := by decide +kernel
theorem dX7_readsStatement_160 : decode mX7_readsStatement.2.1 160 = .ok (.invokevirtual 113, 3) := by decide +kernel
theorem dX7_readsStatement_163 : decode mX7_readsStatement.2.1 163 = .ok (.ifCond .eq 16, 3) := by decide +kernel
theorem dX7_readsStatement_169 : decode mX7_readsStatement.2.1 169 = .ok (.invokevirtual 113, 3) := by decide +kernel
theorem dX7_readsStatement_172 : decode mX7_readsStatement.2.1 172 = .ok (.ifCond .eq 7, 3) := by decide +kernel
theorem dX7_readsStatement_187 : decode mX7_readsStatement.2.1 187 = .ok (.invokevirtual 113, 3) := by decide +kernel
theorem dX7_readsStatement_205 : decode mX7_readsStatement.2.1 205 = .ok (.ireturn, 1) := by decide +kernel
theorem dX7_readsStatement_207 : decode mX7_readsStatement.2.1 207 = .ok (.ifCond .eq 12, 3) := by decide +kernel
theorem dX7_readsStatement_211 : decode mX7_readsStatement.2.1 211 = .ok (.invokevirtual 109, 3) := by decide +kernel
theorem dX7_readsStatement_216 : decode mX7_readsStatement.2.1 216 = .ok (.if_icmp .eq 5, 3) := by decide +kernel
theorem dX7_readsStatement_220 : decode mX7_readsStatement.2.1 220 = .ok (.ireturn, 1) := by decide +kernel
theorem dX7_readsStatement_232 : decode mX7_readsStatement.2.1 232 = .ok (.ireturn, 1) := by decide +kernel
def bX7_adds_0 : List (Nat × Instr) := [(0, .aload_n 0), (1, .getfield 9), (4, .iconst 0), (5, .iaload), (6, .istore 4), (8, .aload_n 0), (9, .getfield 9), (12, .iload 4), (14, .iconst 0)]
theorem bX7_adds_0_ok : ∀ q ∈ bX7_adds_0, decode mX7_adds.2.1 q.1 = .ok (q.2, aLn q.2) := by decide +kernel
def bX7_adds_18 : List (Nat × Instr) := [(18, .iload_n 1), (19, .iastore), (20, .aload_n 0), (21, .getfield 9), (24, .iload 4), (26, .iconst 1)]
theorem bX7_adds_18_ok : ∀ q ∈ bX7_adds_18, decode mX7_adds.2.1 q.1 = .ok (q.2, aLn q.2) := by decide +kernel
def bX7_adds_30 : List (Nat × Instr) := [(30, .iload_n 2), (31, .iastore), (32, .aload_n 0), (33, .getfield 9), (36, .iload 4), (38, .iconst 2)]
theorem bX7_adds_30_ok : ∀ q ∈ bX7_adds_30, decode mX7_adds.2.1 q.1 = .ok (q.2, aLn q.2) := by decide +kernel
def bX7_adds_42 : List (Nat × Instr) := [(42, .iconst 0), (43, .iastore), (44, .aload_n 0), (45, .getfield 9), (48, .iload 4), (50, .iconst 3)]
theorem bX7_adds_42_ok : ∀ q ∈ bX7_adds_42, decode mX7_adds.2.1 q.1 = .ok (q.2, aLn q.2) := by decide +kernel
def bX7_adds_54 : List (Nat × Instr) := [(54, .iload_n 3), (55, .iastore), (56, .aload_n 0), (57, .getfield 9), (60, .iconst 0), (61, .dup2), (62, .iaload), (63, .iconst 1), (64, .iadd), (65, .iastore)]
theorem bX7_adds_54_ok : ∀ q ∈ bX7_adds_54, decode mX7_adds.2.1 q.1 = .ok (q.2, aLn q.2) := by decide +kernel
theorem dX7_adds_15 : decode mX7_adds.2.1 15 = .ok (.invokestatic 57, 3) := by decide +kernel
theorem dX7_adds_27 : decode mX7_adds.2.1 27 = .ok (.invokestatic 57, 3) := by decide +kernel
theorem dX7_adds_39 : decode mX7_adds.2.1 39 = .ok (.invokestatic 57, 3) := by decide +kernel
theorem dX7_adds_51 : decode mX7_adds.2.1 51 = .ok (.invokestatic 57, 3) := by decide +kernel
theorem dX7_adds_66 : decode mX7_adds.2.1 66 = .ok (.return_, 1) := by decide +kernel
def bX7_isDone_0 : List (Nat × Instr) := [(0, .aload_n 0), (1, .getfield 22), (4, .iconst 0), (5, .iaload), (6, .istore_n 2), (7, .aload_n 0), (8, .getfield 22), (11, .iconst 1), (12, .iaload), (13, .istore_n 3), (14, .iload_n 1)]
theorem bX7_isDone_0_ok : ∀ q ∈ bX7_isDone_0, decode mX7_isDone.2.1 q.1 = .ok (q.2, aLn q.2) := by decide +kernel
def bX7_isDone_76 : List (Nat × Instr) := [(76, .iload_n 2), (77, .bipush 8)]
theorem bX7_isDone_76_ok : ∀ q ∈ bX7_isDone_76, decode mX7_isDone.2.1 q.1 = .ok (q.2, aLn q.2) := by decide +kernel
def bX7_isDone_82 : List (Nat × Instr) := [(82, .aload_n 0), (83, .getfield 22), (86, .iconst 2), (87, .iaload)]
theorem bX7_isDone_82_ok : ∀ q ∈ bX7_isDone_82, decode mX7_isDone.2.1 q.1 = .ok (q.2, aLn q.2) := by decide +kernel
def bX7_isDone_94 : List (Nat × Instr) := [(94, .aload_n 0), (95, .getfield 9), (98, .iconst 0), (99, .iaload), (100, .bipush 8)]
theorem bX7_isDone_94_ok : ∀ q ∈ bX7_isDone_94, decode mX7_isDone.2.1 q.1 = .ok (q.2, aLn q.2) := by decide +kernel
def bX7_isDone_105 : List (Nat × Instr) := [(105, .iconst 0)]
theorem bX7_isDone_105_ok : ∀ q ∈ bX7_isDone_105, decode mX7_isDone.2.1 q.1 = .ok (q.2, aLn q.2) := by decide +kernel
def bX7_isDone_107 : List (Nat × Instr) := [(107, .aload_n 0), (108, .iload_n 2), (109, .iload_n 3), (110, .aload_n 0), (111, .getfield 22), (114, .iconst 2), (115, .iaload)]
theorem bX7_isDone_107_ok : ∀ q ∈ bX7_isDone_107, decode mX7_isDone.2.1 q.1 = .ok (q.2, aLn q.2) := by decide +kernel
def bX7_isDone_119 : List (Nat × Instr) := [(119, .iconst 1)]
theorem bX7_isDone_119_ok : ∀ q ∈ bX7_isDone_119, decode mX7_isDone.2.1 q.1 = .ok (q.2, aLn q.2) := by decide +kernel
def bX7_isDone_121 : List (Nat × Instr) := [(121, .iload_n 2)]
theorem bX7_isDone_121_ok : ∀ q ∈ bX7_isDone_121, decode mX7_isDone.2.1 q.1 = .ok (q.2, aLn q.2) := by decide +kernel
def bX7_isDone_128 : List (Nat × Instr) := [(128, .iconst 0)]
theorem bX7_isDone_128_ok : ∀ q ∈ bX7_isDone_128, decode mX7_isDone.2.1 q.1 = .ok (q.2, aLn q.2) := by decide +kernel
def bX7_isDone_130 : List (Nat × Instr) := [(130, .aload_n 0), (131, .getfield 9), (134, .iconst 3), (135, .iload_n 2), (136, .iadd), (137, .iload_n 3), (138, .iastore), (139, .iconst 1)]
theorem bX7_isDone_130_ok : ∀ q ∈ bX7_isDone_130, decode mX7_isDone.2.1 q.1 = .ok (q.2, aLn q.2) := by decide +kernel
def bX7_isDone_141 : List (Nat × Instr) := [(141, .iload_n 2)]
theorem bX7_isDone_141_ok : ∀ q ∈ bX7_isDone_141, decode mX7_isDone.2.1 q.1 = .ok (q.2, aLn q.2) := by decide +kernel
def bX7_isDone_148 : List (Nat × Instr) := [(148, .aload_n 0), (149, .iload_n 3)]
theorem bX7_isDone_148_ok : ∀ q ∈ bX7_isDone_148, decode mX7_isDone.2.1 q.1 = .ok (q.2, aLn q.2) := by decide +kernel
def bX7_isDone_156 : List (Nat × Instr) := [(156, .iconst 0)]
theorem bX7_isDone_156_ok : ∀ q ∈ bX7_isDone_156, decode mX7_isDone.2.1 q.1 = .ok (q.2, aLn q.2) := by decide +kernel
def bX7_isDone_158 : List (Nat × Instr) := [(158, .aload_n 0), (159, .getfield 9), (162, .iload_n 2), (163, .iload_n 3)]
theorem bX7_isDone_158_ok : ∀ q ∈ bX7_isDone_158, decode mX7_isDone.2.1 q.1 = .ok (q.2, aLn q.2) := by decide +kernel
def bX7_isDone_167 : List (Nat × Instr) := [(167, .iconst 1)]
theorem bX7_isDone_167_ok : ∀ q ∈ bX7_isDone_167, decode mX7_isDone.2.1 q.1 = .ok (q.2, aLn q.2) := by decide +kernel
def bX7_isDone_169 : List (Nat × Instr) := [(169, .iload_n 2)]
theorem bX7_isDone_169_ok : ∀ q ∈ bX7_isDone_169, decode mX7_isDone.2.1 q.1 = .ok (q.2, aLn q.2) := by decide +kernel
def bX7_isDone_176 : List (Nat × Instr) := [(176, .iconst 0)]
theorem bX7_isDone_176_ok : ∀ q ∈ bX7_isDone_176, decode mX7_isDone.2.1 q.1 = .ok (q.2, aLn q.2) := by decide +kernel
def bX7_isDone_178 : List (Nat × Instr) := [(178, .aload_n 0), (179, .getfield 9), (182, .bipush 8), (184, .iload_n 2), (185, .iadd), (186, .bipush (-4)), (188, .iastore), (189, .iconst 1)]
theorem bX7_isDone_178_ok : ∀ q ∈ bX7_isDone_178, decode mX7_isDone.2.1 q.1 = .ok (q.2, aLn q.2) := by decide +kernel
def bX7_isDone_191 : List (Nat × Instr) := [(191, .aload_n 0), (192, .iload_n 2)]
theorem bX7_isDone_191_ok : ∀ q ∈ bX7_isDone_191, decode mX7_isDone.2.1 q.1 = .ok (q.2, aLn q.2) := by decide +kernel
def bX7_isDone_199 : List (Nat × Instr) := [(199, .iconst 0)]
theorem bX7_isDone_199_ok : ∀ q ∈ bX7_isDone_199, decode mX7_isDone.2.1 q.1 = .ok (q.2, aLn q.2) := by decide +kernel
def bX7_isDone_201 : List (Nat × Instr) := [(201, .aload_n 0), (202, .getfield 9), (205, .iload_n 2), (206, .iconst 2)]
theorem bX7_isDone_201_ok : ∀ q ∈ bX7_isDone_201, decode mX7_isDone.2.1 q.1 = .ok (q.2, aLn q.2) := by decide +kernel
def bX7_isDone_210 : List (Nat × Instr) := [(210, .iload_n 3), (211, .iastore), (212, .iconst 1)]
theorem bX7_isDone_210_ok : ∀ q ∈ bX7_isDone_210, decode mX7_isDone.2.1 q.1 = .ok (q.2, aLn q.2) := by decide +kernel
def bX7_isDone_214 : List (Nat × Instr) := [(214, .iload_n 2), (215, .iconst 1), (216, .bipush 60)]
theorem bX7_isDone_214_ok : ∀ q ∈ bX7_isDone_214, decode mX7_isDone.2.1 q.1 = .ok (q.2, aLn q.2) := by decide +kernel
def bX7_isDone_224 : List (Nat × Instr) := [(224, .aload_n 0), (225, .getfield 9), (228, .iconst 1), (229, .iaload), (230, .iload_n 2), (231, .iadd), (232, .sipush 999)]
theorem bX7_isDone_224_ok : ∀ q ∈ bX7_isDone_224, decode mX7_isDone.2.1 q.1 = .ok (q.2, aLn q.2) := by decide +kernel
def bX7_isDone_238 : List (Nat × Instr) := [(238, .iconst 0)]
theorem bX7_isDone_238_ok : ∀ q ∈ bX7_isDone_238, decode mX7_isDone.2.1 q.1 = .ok (q.2, aLn q.2) := by decide +kernel
def bX7_isDone_240 : List (Nat × Instr) := [(240, .aload_n 0), (241, .getfield 9), (244, .iload_n 2)]
theorem bX7_isDone_240_ok : ∀ q ∈ bX7_isDone_240, decode mX7_isDone.2.1 q.1 = .ok (q.2, aLn q.2) := by decide +kernel
def bX7_isDone_248 : List (Nat × Instr) := [(248, .iconst 1)]
theorem bX7_isDone_248_ok : ∀ q ∈ bX7_isDone_248, decode mX7_isDone.2.1 q.1 = .ok (q.2, aLn q.2) := by decide +kernel
theorem dX7_isDone_15 : decode mX7_isDone.2.1 15 = .ok (.tableswitch 199 101 112 #[154, 199, 199, 126, 199, 199, 176, 199, 199, 199, 106, 61], 61) := by decide +kernel
theorem dX7_isDone_79 : decode mX7_isDone.2.1 79 = .ok (.if_icmp .ge 26, 3) := by decide +kernel
theorem dX7_isDone_88 : decode mX7_isDone.2.1 88 = .ok (.invokestatic 117, 3) := by decide +kernel
theorem dX7_isDone_91 : decode mX7_isDone.2.1 91 = .ok (.ifCond .eq 14, 3) := by decide +kernel
theorem dX7_isDone_102 : decode mX7_isDone.2.1 102 = .ok (.if_icmp .ne 5, 3) := by decide +kernel
theorem dX7_isDone_106 : decode mX7_isDone.2.1 106 = .ok (.ireturn, 1) := by decide +kernel
theorem dX7_isDone_116 : decode mX7_isDone.2.1 116 = .ok (.invokevirtual 121, 3) := by decide +kernel
theorem dX7_isDone_120 : decode mX7_isDone.2.1 120 = .ok (.ireturn, 1) := by decide +kernel
theorem dX7_isDone_122 : decode mX7_isDone.2.1 122 = .ok (.invokestatic 125, 3) := by decide +kernel
theorem dX7_isDone_125 : decode mX7_isDone.2.1 125 = .ok (.ifCond .ne 5, 3) := by decide +kernel
theorem dX7_isDone_129 : decode mX7_isDone.2.1 129 = .ok (.ireturn, 1) := by decide +kernel
theorem dX7_isDone_140 : decode mX7_isDone.2.1 140 = .ok (.ireturn, 1) := by decide +kernel
theorem dX7_isDone_142 : decode mX7_isDone.2.1 142 = .ok (.invokestatic 125, 3) := by decide +kernel
theorem dX7_isDone_145 : decode mX7_isDone.2.1 145 = .ok (.ifCond .eq 11, 3) := by decide +kernel
theorem dX7_isDone_150 : decode mX7_isDone.2.1 150 = .ok (.invokevirtual 128, 3) := by decide +kernel
theorem dX7_isDone_153 : decode mX7_isDone.2.1 153 = .ok (.ifCond .ne 5, 3) := by decide +kernel
theorem dX7_isDone_157 : decode mX7_isDone.2.1 157 = .ok (.ireturn, 1) := by decide +kernel
theorem dX7_isDone_164 : decode mX7_isDone.2.1 164 = .ok (.invokestatic 131, 3) := by decide +kernel
theorem dX7_isDone_168 : decode mX7_isDone.2.1 168 = .ok (.ireturn, 1) := by decide +kernel
theorem dX7_isDone_170 : decode mX7_isDone.2.1 170 = .ok (.invokestatic 125, 3) := by decide +kernel
theorem dX7_isDone_173 : decode mX7_isDone.2.1 173 = .ok (.ifCond .ne 5, 3) := by decide +kernel
theorem dX7_isDone_177 : decode mX7_isDone.2.1 177 = .ok (.ireturn, 1) := by decide +kernel
theorem dX7_isDone_190 : decode mX7_isDone.2.1 190 = .ok (.ireturn, 1) := by decide +kernel
theorem dX7_isDone_193 : decode mX7_isDone.2.1 193 = .ok (.invokevirtual 128, 3) := by decide +kernel
theorem dX7_isDone_196 : decode mX7_isDone.2.1 196 = .ok (.ifCond .ne 5, 3) := by decide +kernel
theorem dX7_isDone_200 : decode mX7_isDone.2.1 200 = .ok (.ireturn, 1) := by decide +kernel
theorem dX7_isDone_207 : decode mX7_isDone.2.1 207 = .ok (.invokestatic 57, 3) := by decide +kernel
theorem dX7_isDone_213 : decode mX7_isDone.2.1 213 = .ok (.ireturn, 1) := by decide +kernel
theorem dX7_isDone_218 : decode mX7_isDone.2.1 218 = .ok (.invokestatic 49, 3) := by decide +kernel
theorem dX7_isDone_221 : decode mX7_isDone.2.1 221 = .ok (.ifCond .eq 17, 3) := by decide +kernel
theorem dX7_isDone_235 : decode mX7_isDone.2.1 235 = .ok (.if_icmp .le 5, 3) := by decide +kernel
theorem dX7_isDone_239 : decode mX7_isDone.2.1 239 = .ok (.ireturn, 1) := by decide +kernel
theorem dX7_isDone_245 : decode mX7_isDone.2.1 245 = .ok (.invokestatic 135, 3) := by decide +kernel
theorem dX7_isDone_249 : decode mX7_isDone.2.1 249 = .ok (.ireturn, 1) := by decide +kernel
def bX7_cabinet_0 : List (Nat × Instr) := [(0, .aload_n 0), (1, .iload_n 1), (2, .iconst 0)]
theorem bX7_cabinet_0_ok : ∀ q ∈ bX7_cabinet_0, decode mX7_cabinet.2.1 q.1 = .ok (q.2, aLn q.2) := by decide +kernel
def bX7_cabinet_6 : List (Nat × Instr) := [(6, .istore_n 2), (7, .iload_n 2)]
theorem bX7_cabinet_6_ok : ∀ q ∈ bX7_cabinet_6, decode mX7_cabinet.2.1 q.1 = .ok (q.2, aLn q.2) := by decide +kernel
def bX7_cabinet_11 : List (Nat × Instr) := [(11, .iload_n 2)]
theorem bX7_cabinet_11_ok : ∀ q ∈ bX7_cabinet_11, decode mX7_cabinet.2.1 q.1 = .ok (q.2, aLn q.2) := by decide +kernel
def bX7_cabinet_13 : List (Nat × Instr) := [(13, .aload_n 0), (14, .bipush 100), (16, .iload_n 1), (17, .imul), (18, .putfield 106), (21, .aload_n 0), (22, .aload_n 0), (23, .getfield 43), (26, .iload_n 1), (27, .iaload), (28, .putfield 103), (31, .aload_n 0), (32, .iconst 0), (33, .putfield 99), (36, .iconst 0), (37, .istore_n 3), (38, .iconst 0), (39, .istore 4)]
theorem bX7_cabinet_13_ok : ∀ q ∈ bX7_cabinet_13, decode mX7_cabinet.2.1 q.1 = .ok (q.2, aLn q.2) := by decide +kernel
def bX7_cabinet_41 : List (Nat × Instr) := [(41, .aload_n 0)]
theorem bX7_cabinet_41_ok : ∀ q ∈ bX7_cabinet_41, decode mX7_cabinet.2.1 q.1 = .ok (q.2, aLn q.2) := by decide +kernel
def bX7_cabinet_48 : List (Nat × Instr) := [(48, .sipush (-1000)), (51, .aload_n 0), (52, .getfield 99), (55, .isub), (56, .istore 4)]
theorem bX7_cabinet_48_ok : ∀ q ∈ bX7_cabinet_48, decode mX7_cabinet.2.1 q.1 = .ok (q.2, aLn q.2) := by decide +kernel
def bX7_cabinet_58 : List (Nat × Instr) := [(58, .iinc 3 1), (61, .iload 4)]
theorem bX7_cabinet_58_ok : ∀ q ∈ bX7_cabinet_58, decode mX7_cabinet.2.1 q.1 = .ok (q.2, aLn q.2) := by decide +kernel
def bX7_cabinet_66 : List (Nat × Instr) := [(66, .aload_n 0), (67, .getfield 99), (70, .aload_n 0), (71, .getfield 103)]
theorem bX7_cabinet_66_ok : ∀ q ∈ bX7_cabinet_66, decode mX7_cabinet.2.1 q.1 = .ok (q.2, aLn q.2) := by decide +kernel
def bX7_cabinet_77 : List (Nat × Instr) := [(77, .aload_n 0), (78, .getfield 9), (81, .aload_n 0), (82, .getfield 19)]
theorem bX7_cabinet_77_ok : ∀ q ∈ bX7_cabinet_77, decode mX7_cabinet.2.1 q.1 = .ok (q.2, aLn q.2) := by decide +kernel
def bX7_cabinet_88 : List (Nat × Instr) := [(88, .aload_n 0), (89, .iconst 0), (90, .putfield 99)]
theorem bX7_cabinet_88_ok : ∀ q ∈ bX7_cabinet_88, decode mX7_cabinet.2.1 q.1 = .ok (q.2, aLn q.2) := by decide +kernel
def bX7_cabinet_93 : List (Nat × Instr) := [(93, .iload 4)]
theorem bX7_cabinet_93_ok : ∀ q ∈ bX7_cabinet_93, decode mX7_cabinet.2.1 q.1 = .ok (q.2, aLn q.2) := by decide +kernel
def bX7_cabinet_98 : List (Nat × Instr) := [(98, .aload_n 0), (99, .getfield 99), (102, .aload_n 0), (103, .getfield 103)]
theorem bX7_cabinet_98_ok : ∀ q ∈ bX7_cabinet_98, decode mX7_cabinet.2.1 q.1 = .ok (q.2, aLn q.2) := by decide +kernel
def bX7_cabinet_109 : List (Nat × Instr) := [(109, .aload_n 0), (110, .getfield 99), (113, .istore 5), (115, .aload_n 0)]
theorem bX7_cabinet_109_ok : ∀ q ∈ bX7_cabinet_109, decode mX7_cabinet.2.1 q.1 = .ok (q.2, aLn q.2) := by decide +kernel
def bX7_cabinet_119 : List (Nat × Instr) := [(119, .istore 6), (121, .aload_n 0)]
theorem bX7_cabinet_119_ok : ∀ q ∈ bX7_cabinet_119, decode mX7_cabinet.2.1 q.1 = .ok (q.2, aLn q.2) := by decide +kernel
def bX7_cabinet_125 : List (Nat × Instr) := [(125, .istore 7), (127, .aload_n 0), (128, .iload 6)]
theorem bX7_cabinet_125_ok : ∀ q ∈ bX7_cabinet_125, decode mX7_cabinet.2.1 q.1 = .ok (q.2, aLn q.2) := by decide +kernel
def bX7_cabinet_136 : List (Nat × Instr) := [(136, .goto (-43))]
theorem bX7_cabinet_136_ok : ∀ q ∈ bX7_cabinet_136, decode mX7_cabinet.2.1 q.1 = .ok (q.2, aLn q.2) := by decide +kernel
def bX7_cabinet_139 : List (Nat × Instr) := [(139, .sipush (-2000)), (142, .iload 5), (144, .isub), (145, .istore 4), (147, .aload_n 0), (148, .getfield 19), (151, .aload_n 0), (152, .getfield 9)]
theorem bX7_cabinet_139_ok : ∀ q ∈ bX7_cabinet_139, decode mX7_cabinet.2.1 q.1 = .ok (q.2, aLn q.2) := by decide +kernel
def bX7_cabinet_158 : List (Nat × Instr) := [(158, .goto (-65))]
theorem bX7_cabinet_158_ok : ∀ q ∈ bX7_cabinet_158, decode mX7_cabinet.2.1 q.1 = .ok (q.2, aLn q.2) := by decide +kernel
def bX7_cabinet_161 : List (Nat × Instr) := [(161, .iload 4)]
theorem bX7_cabinet_161_ok : ∀ q ∈ bX7_cabinet_161, decode mX7_cabinet.2.1 q.1 = .ok (q.2, aLn q.2) := by decide +kernel
def bX7_cabinet_166 : List (Nat × Instr) := [(166, .iload_n 3), (167, .goto 5)]
theorem bX7_cabinet_166_ok : ∀ q ∈ bX7_cabinet_166, decode mX7_cabinet.2.1 q.1 = .ok (q.2, aLn q.2) := by decide +kernel
def bX7_cabinet_170 : List (Nat × Instr) := [(170, .iload 4)]
theorem bX7_cabinet_170_ok : ∀ q ∈ bX7_cabinet_170, decode mX7_cabinet.2.1 q.1 = .ok (q.2, aLn q.2) := by decide +kernel
theorem dX7_cabinet_3 : decode mX7_cabinet.2.1 3 = .ok (.invokevirtual 138, 3) := by decide +kernel
theorem dX7_cabinet_8 : decode mX7_cabinet.2.1 8 = .ok (.ifCond .eq 5, 3) := by decide +kernel
theorem dX7_cabinet_12 : decode mX7_cabinet.2.1 12 = .ok (.ireturn, 1) := by decide +kernel
theorem dX7_cabinet_42 : decode mX7_cabinet.2.1 42 = .ok (.invokevirtual 141, 3) := by decide +kernel
theorem dX7_cabinet_45 : decode mX7_cabinet.2.1 45 = .ok (.ifCond .ne 13, 3) := by decide +kernel
theorem dX7_cabinet_63 : decode mX7_cabinet.2.1 63 = .ok (.ifCond .ne 14, 3) := by decide +kernel
theorem dX7_cabinet_74 : decode mX7_cabinet.2.1 74 = .ok (.if_icmp .lt (-33), 3) := by decide +kernel
theorem dX7_cabinet_85 : decode mX7_cabinet.2.1 85 = .ok (.invokestatic 145, 3) := by decide +kernel
theorem dX7_cabinet_95 : decode mX7_cabinet.2.1 95 = .ok (.ifCond .ne 66, 3) := by decide +kernel
theorem dX7_cabinet_106 : decode mX7_cabinet.2.1 106 = .ok (.if_icmp .ge 55, 3) := by decide +kernel
theorem dX7_cabinet_116 : decode mX7_cabinet.2.1 116 = .ok (.invokevirtual 109, 3) := by decide +kernel
theorem dX7_cabinet_122 : decode mX7_cabinet.2.1 122 = .ok (.invokevirtual 141, 3) := by decide +kernel
theorem dX7_cabinet_130 : decode mX7_cabinet.2.1 130 = .ok (.invokevirtual 149, 3) := by decide +kernel
theorem dX7_cabinet_133 : decode mX7_cabinet.2.1 133 = .ok (.ifCond .eq 6, 3) := by decide +kernel
theorem dX7_cabinet_155 : decode mX7_cabinet.2.1 155 = .ok (.invokestatic 145, 3) := by decide +kernel
theorem dX7_cabinet_163 : decode mX7_cabinet.2.1 163 = .ok (.ifCond .ne 7, 3) := by decide +kernel
theorem dX7_cabinet_172 : decode mX7_cabinet.2.1 172 = .ok (.ireturn, 1) := by decide +kernel
def bX7_chainOf_0 : List (Nat × Instr) := [(0, .iconst 0), (1, .istore_n 2), (2, .iload_n 1), (3, .istore_n 3)]
theorem bX7_chainOf_0_ok : ∀ q ∈ bX7_chainOf_0, decode mX7_chainOf.2.1 q.1 = .ok (q.2, aLn q.2) := by decide +kernel
def bX7_chainOf_4 : List (Nat × Instr) := [(4, .aload_n 0), (5, .iload_n 3)]
theorem bX7_chainOf_4_ok : ∀ q ∈ bX7_chainOf_4, decode mX7_chainOf.2.1 q.1 = .ok (q.2, aLn q.2) := by decide +kernel
def bX7_chainOf_12 : List (Nat × Instr) := [(12, .iload_n 2), (13, .iload_n 3)]
theorem bX7_chainOf_12_ok : ∀ q ∈ bX7_chainOf_12, decode mX7_chainOf.2.1 q.1 = .ok (q.2, aLn q.2) := by decide +kernel
def bX7_chainOf_20 : List (Nat × Instr) := [(20, .iload_n 2), (21, .iconst 1), (22, .iload_n 3), (23, .ishl), (24, .ior), (25, .istore_n 2), (26, .aload_n 0), (27, .getfield 9), (30, .iload_n 3), (31, .iconst 3)]
theorem bX7_chainOf_20_ok : ∀ q ∈ bX7_chainOf_20, decode mX7_chainOf.2.1 q.1 = .ok (q.2, aLn q.2) := by decide +kernel
def bX7_chainOf_35 : List (Nat × Instr) := [(35, .iaload), (36, .istore_n 3), (37, .goto (-33))]
theorem bX7_chainOf_35_ok : ∀ q ∈ bX7_chainOf_35, decode mX7_chainOf.2.1 q.1 = .ok (q.2, aLn q.2) := by decide +kernel
def bX7_chainOf_40 : List (Nat × Instr) := [(40, .iload_n 2)]
theorem bX7_chainOf_40_ok : ∀ q ∈ bX7_chainOf_40, decode mX7_chainOf.2.1 q.1 = .ok (q.2, aLn q.2) := by decide +kernel
theorem dX7_chainOf_6 : decode mX7_chainOf.2.1 6 = .ok (.invokevirtual 128, 3) := by decide +kernel
theorem dX7_chainOf_9 : decode mX7_chainOf.2.1 9 = .ok (.ifCond .eq 31, 3) := by decide +kernel
theorem dX7_chainOf_14 : decode mX7_chainOf.2.1 14 = .ok (.invokestatic 152, 3) := by decide +kernel
theorem dX7_chainOf_17 : decode mX7_chainOf.2.1 17 = .ok (.ifCond .ne 23, 3) := by decide +kernel
theorem dX7_chainOf_32 : decode mX7_chainOf.2.1 32 = .ok (.invokestatic 57, 3) := by decide +kernel
theorem dX7_chainOf_41 : decode mX7_chainOf.2.1 41 = .ok (.invokestatic 155, 3) := by decide +kernel
theorem dX7_chainOf_44 : decode mX7_chainOf.2.1 44 = .ok (.ireturn, 1) := by decide +kernel
def bX7_one_0 : List (Nat × Instr) := [(0, .aload_n 0), (1, .iload_n 1)]
theorem bX7_one_0_ok : ∀ q ∈ bX7_one_0, decode mX7_one.2.1 q.1 = .ok (q.2, aLn q.2) := by decide +kernel
def bX7_one_8 : List (Nat × Instr) := [(8, .iload_n 2), (9, .iconst 0), (10, .bipush 7)]
theorem bX7_one_8_ok : ∀ q ∈ bX7_one_8, decode mX7_one.2.1 q.1 = .ok (q.2, aLn q.2) := by decide +kernel
def bX7_one_18 : List (Nat × Instr) := [(18, .iconst (-1))]
theorem bX7_one_18_ok : ∀ q ∈ bX7_one_18, decode mX7_one.2.1 q.1 = .ok (q.2, aLn q.2) := by decide +kernel
def bX7_one_20 : List (Nat × Instr) := [(20, .iload_n 2)]
theorem bX7_one_20_ok : ∀ q ∈ bX7_one_20, decode mX7_one.2.1 q.1 = .ok (q.2, aLn q.2) := by decide +kernel
def bX7_one_52 : List (Nat × Instr) := [(52, .aload_n 0), (53, .getfield 9), (56, .iload_n 1)]
theorem bX7_one_52_ok : ∀ q ∈ bX7_one_52, decode mX7_one.2.1 q.1 = .ok (q.2, aLn q.2) := by decide +kernel
def bX7_one_61 : List (Nat × Instr) := [(61, .aload_n 0), (62, .getfield 9), (65, .iload_n 1)]
theorem bX7_one_61_ok : ∀ q ∈ bX7_one_61, decode mX7_one.2.1 q.1 = .ok (q.2, aLn q.2) := by decide +kernel
def bX7_one_70 : List (Nat × Instr) := [(70, .aload_n 0), (71, .getfield 9), (74, .iload_n 1), (75, .iconst 0)]
theorem bX7_one_70_ok : ∀ q ∈ bX7_one_70, decode mX7_one.2.1 q.1 = .ok (q.2, aLn q.2) := by decide +kernel
def bX7_one_79 : List (Nat × Instr) := [(79, .iaload), (80, .aload_n 0), (81, .getfield 9), (84, .iload_n 1), (85, .iconst 1)]
theorem bX7_one_79_ok : ∀ q ∈ bX7_one_79, decode mX7_one.2.1 q.1 = .ok (q.2, aLn q.2) := by decide +kernel
def bX7_one_89 : List (Nat × Instr) := [(89, .iaload)]
theorem bX7_one_89_ok : ∀ q ∈ bX7_one_89, decode mX7_one.2.1 q.1 = .ok (q.2, aLn q.2) := by decide +kernel
def bX7_one_94 : List (Nat × Instr) := [(94, .aload_n 0), (95, .iload_n 1)]
theorem bX7_one_94_ok : ∀ q ∈ bX7_one_94, decode mX7_one.2.1 q.1 = .ok (q.2, aLn q.2) := by decide +kernel
def bX7_one_100 : List (Nat × Instr) := [(100, .aload_n 0), (101, .getfield 9), (104, .iload_n 1), (105, .iload_n 2)]
theorem bX7_one_100_ok : ∀ q ∈ bX7_one_100, decode mX7_one.2.1 q.1 = .ok (q.2, aLn q.2) := by decide +kernel
def bX7_one_109 : List (Nat × Instr) := [(109, .iaload)]
theorem bX7_one_109_ok : ∀ q ∈ bX7_one_109, decode mX7_one.2.1 q.1 = .ok (q.2, aLn q.2) := by decide +kernel
theorem dX7_one_2 : decode mX7_one.2.1 2 = .ok (.invokevirtual 128, 3) := by decide +kernel
theorem dX7_one_5 : decode mX7_one.2.1 5 = .ok (.ifCond .eq 13, 3) := by decide +kernel
theorem dX7_one_12 : decode mX7_one.2.1 12 = .ok (.invokestatic 49, 3) := by decide +kernel
theorem dX7_one_15 : decode mX7_one.2.1 15 = .ok (.ifCond .ne 5, 3) := by decide +kernel
theorem dX7_one_19 : decode mX7_one.2.1 19 = .ok (.ireturn, 1) := by decide +kernel
theorem dX7_one_21 : decode mX7_one.2.1 21 = .ok (.tableswitch 79 4 7 #[31, 40, 49, 73], 31) := by decide +kernel
theorem dX7_one_57 : decode mX7_one.2.1 57 = .ok (.invokestatic 64, 3) := by decide +kernel
theorem dX7_one_60 : decode mX7_one.2.1 60 = .ok (.ireturn, 1) := by decide +kernel
theorem dX7_one_66 : decode mX7_one.2.1 66 = .ok (.invokestatic 85, 3) := by decide +kernel
theorem dX7_one_69 : decode mX7_one.2.1 69 = .ok (.ireturn, 1) := by decide +kernel
theorem dX7_one_76 : decode mX7_one.2.1 76 = .ok (.invokestatic 57, 3) := by decide +kernel
theorem dX7_one_86 : decode mX7_one.2.1 86 = .ok (.invokestatic 57, 3) := by decide +kernel
theorem dX7_one_90 : decode mX7_one.2.1 90 = .ok (.invokestatic 68, 3) := by decide +kernel
theorem dX7_one_93 : decode mX7_one.2.1 93 = .ok (.ireturn, 1) := by decide +kernel
theorem dX7_one_96 : decode mX7_one.2.1 96 = .ok (.invokevirtual 158, 3) := by decide +kernel
theorem dX7_one_99 : decode mX7_one.2.1 99 = .ok (.ireturn, 1) := by decide +kernel
theorem dX7_one_106 : decode mX7_one.2.1 106 = .ok (.invokestatic 57, 3) := by decide +kernel
theorem dX7_one_110 : decode mX7_one.2.1 110 = .ok (.ireturn, 1) := by decide +kernel
def bX7_office_0 : List (Nat × Instr) := [(0, .iload_n 1)]
theorem bX7_office_0_ok : ∀ q ∈ bX7_office_0, decode mX7_office.2.1 q.1 = .ok (q.2, aLn q.2) := by decide +kernel
def bX7_office_7 : List (Nat × Instr) := [(7, .iload_n 2), (8, .iconst 0), (9, .iconst 2)]
theorem bX7_office_7_ok : ∀ q ∈ bX7_office_7, decode mX7_office.2.1 q.1 = .ok (q.2, aLn q.2) := by decide +kernel
def bX7_office_16 : List (Nat × Instr) := [(16, .iconst (-1))]
theorem bX7_office_16_ok : ∀ q ∈ bX7_office_16, decode mX7_office.2.1 q.1 = .ok (q.2, aLn q.2) := by decide +kernel
def bX7_office_18 : List (Nat × Instr) := [(18, .iload_n 2)]
theorem bX7_office_18_ok : ∀ q ∈ bX7_office_18, decode mX7_office.2.1 q.1 = .ok (q.2, aLn q.2) := by decide +kernel
def bX7_office_22 : List (Nat × Instr) := [(22, .aload_n 0), (23, .getfield 9), (26, .iconst 3), (27, .iload_n 1), (28, .iadd), (29, .iaload), (30, .goto 43)]
theorem bX7_office_22_ok : ∀ q ∈ bX7_office_22, decode mX7_office.2.1 q.1 = .ok (q.2, aLn q.2) := by decide +kernel
def bX7_office_33 : List (Nat × Instr) := [(33, .iload_n 2), (34, .iconst 1)]
theorem bX7_office_33_ok : ∀ q ∈ bX7_office_33, decode mX7_office.2.1 q.1 = .ok (q.2, aLn q.2) := by decide +kernel
def bX7_office_38 : List (Nat × Instr) := [(38, .aload_n 0), (39, .getfield 9), (42, .bipush 8), (44, .iload_n 1), (45, .iadd), (46, .iaload), (47, .goto 26)]
theorem bX7_office_38_ok : ∀ q ∈ bX7_office_38, decode mX7_office.2.1 q.1 = .ok (q.2, aLn q.2) := by decide +kernel
def bX7_office_50 : List (Nat × Instr) := [(50, .aload_n 0), (51, .getfield 9), (54, .aload_n 0), (55, .getfield 9), (58, .iconst 3), (59, .iload_n 1), (60, .iadd), (61, .iaload)]
theorem bX7_office_50_ok : ∀ q ∈ bX7_office_50, decode mX7_office.2.1 q.1 = .ok (q.2, aLn q.2) := by decide +kernel
def bX7_office_68 : List (Nat × Instr) := [(68, .iconst 1), (69, .goto 4)]
theorem bX7_office_68_ok : ∀ q ∈ bX7_office_68, decode mX7_office.2.1 q.1 = .ok (q.2, aLn q.2) := by decide +kernel
def bX7_office_72 : List (Nat × Instr) := [(72, .iconst 0)]
theorem bX7_office_72_ok : ∀ q ∈ bX7_office_72, decode mX7_office.2.1 q.1 = .ok (q.2, aLn q.2) := by decide +kernel
theorem dX7_office_1 : decode mX7_office.2.1 1 = .ok (.invokestatic 125, 3) := by decide +kernel
theorem dX7_office_4 : decode mX7_office.2.1 4 = .ok (.ifCond .eq 12, 3) := by decide +kernel
theorem dX7_office_10 : decode mX7_office.2.1 10 = .ok (.invokestatic 49, 3) := by decide +kernel
theorem dX7_office_13 : decode mX7_office.2.1 13 = .ok (.ifCond .ne 5, 3) := by decide +kernel
theorem dX7_office_17 : decode mX7_office.2.1 17 = .ok (.ireturn, 1) := by decide +kernel
theorem dX7_office_19 : decode mX7_office.2.1 19 = .ok (.ifCond .ne 14, 3) := by decide +kernel
theorem dX7_office_35 : decode mX7_office.2.1 35 = .ok (.if_icmp .ne 15, 3) := by decide +kernel
theorem dX7_office_62 : decode mX7_office.2.1 62 = .ok (.invokestatic 78, 3) := by decide +kernel
theorem dX7_office_65 : decode mX7_office.2.1 65 = .ok (.ifCond .eq 7, 3) := by decide +kernel
theorem dX7_office_73 : decode mX7_office.2.1 73 = .ok (.ireturn, 1) := by decide +kernel
def bX7_showsNext_0 : List (Nat × Instr) := [(0, .aload_n 0), (1, .getfield 9), (4, .iload_n 1), (5, .iconst 0)]
theorem bX7_showsNext_0_ok : ∀ q ∈ bX7_showsNext_0, decode mX7_showsNext.2.1 q.1 = .ok (q.2, aLn q.2) := by decide +kernel
def bX7_showsNext_9 : List (Nat × Instr) := [(9, .iaload), (10, .aload_n 0), (11, .getfield 9), (14, .iload_n 1), (15, .iconst 1)]
theorem bX7_showsNext_9_ok : ∀ q ∈ bX7_showsNext_9, decode mX7_showsNext.2.1 q.1 = .ok (q.2, aLn q.2) := by decide +kernel
def bX7_showsNext_19 : List (Nat × Instr) := [(19, .iaload), (20, .iload_n 2), (21, .aload_n 0), (22, .getfield 9), (25, .iconst 1), (26, .iaload), (27, .iconst 1), (28, .iadd)]
theorem bX7_showsNext_19_ok : ∀ q ∈ bX7_showsNext_19, decode mX7_showsNext.2.1 q.1 = .ok (q.2, aLn q.2) := by decide +kernel
theorem dX7_showsNext_6 : decode mX7_showsNext.2.1 6 = .ok (.invokestatic 57, 3) := by decide +kernel
theorem dX7_showsNext_16 : decode mX7_showsNext.2.1 16 = .ok (.invokestatic 57, 3) := by decide +kernel
theorem dX7_showsNext_29 : decode mX7_showsNext.2.1 29 = .ok (.invokestatic 74, 3) := by decide +kernel
theorem dX7_showsNext_32 : decode mX7_showsNext.2.1 32 = .ok (.ireturn, 1) := by decide +kernel
def bX7_shows_0 : List (Nat × Instr) := [(0, .aload_n 0), (1, .iload_n 1)]
theorem bX7_shows_0_ok : ∀ q ∈ bX7_shows_0, decode mX7_shows.2.1 q.1 = .ok (q.2, aLn q.2) := by decide +kernel
def bX7_shows_8 : List (Nat × Instr) := [(8, .iload_n 2), (9, .iconst 0), (10, .bipush 9)]
theorem bX7_shows_8_ok : ∀ q ∈ bX7_shows_8, decode mX7_shows.2.1 q.1 = .ok (q.2, aLn q.2) := by decide +kernel
def bX7_shows_18 : List (Nat × Instr) := [(18, .aload_n 0), (19, .iload_n 1), (20, .iload_n 2)]
theorem bX7_shows_18_ok : ∀ q ∈ bX7_shows_18, decode mX7_shows.2.1 q.1 = .ok (q.2, aLn q.2) := by decide +kernel
def bX7_shows_24 : List (Nat × Instr) := [(24, .goto 4)]
theorem bX7_shows_24_ok : ∀ q ∈ bX7_shows_24, decode mX7_shows.2.1 q.1 = .ok (q.2, aLn q.2) := by decide +kernel
def bX7_shows_27 : List (Nat × Instr) := [(27, .iconst (-1))]
theorem bX7_shows_27_ok : ∀ q ∈ bX7_shows_27, decode mX7_shows.2.1 q.1 = .ok (q.2, aLn q.2) := by decide +kernel
theorem dX7_shows_2 : decode mX7_shows.2.1 2 = .ok (.invokevirtual 128, 3) := by decide +kernel
theorem dX7_shows_5 : decode mX7_shows.2.1 5 = .ok (.ifCond .eq 22, 3) := by decide +kernel
theorem dX7_shows_12 : decode mX7_shows.2.1 12 = .ok (.invokestatic 49, 3) := by decide +kernel
theorem dX7_shows_15 : decode mX7_shows.2.1 15 = .ok (.ifCond .eq 12, 3) := by decide +kernel
theorem dX7_shows_21 : decode mX7_shows.2.1 21 = .ok (.invokevirtual 161, 3) := by decide +kernel
theorem dX7_shows_28 : decode mX7_shows.2.1 28 = .ok (.ireturn, 1) := by decide +kernel
def bX7_comes_0 : List (Nat × Instr) := [(0, .iload_n 2)]
theorem bX7_comes_0_ok : ∀ q ∈ bX7_comes_0, decode mX7_comes.2.1 q.1 = .ok (q.2, aLn q.2) := by decide +kernel
def bX7_comes_7 : List (Nat × Instr) := [(7, .iconst (-1))]
theorem bX7_comes_7_ok : ∀ q ∈ bX7_comes_7, decode mX7_comes.2.1 q.1 = .ok (q.2, aLn q.2) := by decide +kernel
def bX7_comes_9 : List (Nat × Instr) := [(9, .aload_n 0), (10, .iload_n 1)]
theorem bX7_comes_9_ok : ∀ q ∈ bX7_comes_9, decode mX7_comes.2.1 q.1 = .ok (q.2, aLn q.2) := by decide +kernel
def bX7_comes_14 : List (Nat × Instr) := [(14, .istore_n 3), (15, .iload_n 3)]
theorem bX7_comes_14_ok : ∀ q ∈ bX7_comes_14, decode mX7_comes.2.1 q.1 = .ok (q.2, aLn q.2) := by decide +kernel
def bX7_comes_19 : List (Nat × Instr) := [(19, .iload_n 3)]
theorem bX7_comes_19_ok : ∀ q ∈ bX7_comes_19, decode mX7_comes.2.1 q.1 = .ok (q.2, aLn q.2) := by decide +kernel
def bX7_comes_21 : List (Nat × Instr) := [(21, .aload_n 0), (22, .getfield 9), (25, .iconst 0), (26, .iaload), (27, .bipush 8)]
theorem bX7_comes_21_ok : ∀ q ∈ bX7_comes_21, decode mX7_comes.2.1 q.1 = .ok (q.2, aLn q.2) := by decide +kernel
def bX7_comes_32 : List (Nat × Instr) := [(32, .bipush (-2))]
theorem bX7_comes_32_ok : ∀ q ∈ bX7_comes_32, decode mX7_comes.2.1 q.1 = .ok (q.2, aLn q.2) := by decide +kernel
def bX7_comes_35 : List (Nat × Instr) := [(35, .aload_n 0), (36, .aload_n 0), (37, .getfield 34), (40, .iload_n 1), (41, .iaload), (42, .aload_n 0), (43, .getfield 37), (46, .iload_n 1), (47, .iaload), (48, .iload_n 2)]
theorem bX7_comes_35_ok : ∀ q ∈ bX7_comes_35, decode mX7_comes.2.1 q.1 = .ok (q.2, aLn q.2) := by decide +kernel
def bX7_comes_52 : List (Nat × Instr) := [(52, .aload_n 0), (53, .getfield 9), (56, .iconst 0), (57, .iaload), (58, .iconst 1), (59, .isub)]
theorem bX7_comes_52_ok : ∀ q ∈ bX7_comes_52, decode mX7_comes.2.1 q.1 = .ok (q.2, aLn q.2) := by decide +kernel
theorem dX7_comes_1 : decode mX7_comes.2.1 1 = .ok (.invokestatic 117, 3) := by decide +kernel
theorem dX7_comes_4 : decode mX7_comes.2.1 4 = .ok (.ifCond .ne 5, 3) := by decide +kernel
theorem dX7_comes_8 : decode mX7_comes.2.1 8 = .ok (.ireturn, 1) := by decide +kernel
theorem dX7_comes_11 : decode mX7_comes.2.1 11 = .ok (.invokevirtual 164, 3) := by decide +kernel
theorem dX7_comes_16 : decode mX7_comes.2.1 16 = .ok (.ifCond .eq 5, 3) := by decide +kernel
theorem dX7_comes_20 : decode mX7_comes.2.1 20 = .ok (.ireturn, 1) := by decide +kernel
theorem dX7_comes_29 : decode mX7_comes.2.1 29 = .ok (.if_icmp .ne 6, 3) := by decide +kernel
theorem dX7_comes_34 : decode mX7_comes.2.1 34 = .ok (.ireturn, 1) := by decide +kernel
theorem dX7_comes_49 : decode mX7_comes.2.1 49 = .ok (.invokevirtual 121, 3) := by decide +kernel
theorem dX7_comes_60 : decode mX7_comes.2.1 60 = .ok (.ireturn, 1) := by decide +kernel
def bX7_holds_0 : List (Nat × Instr) := [(0, .iload_n 1)]
theorem bX7_holds_0_ok : ∀ q ∈ bX7_holds_0, decode mX7_holds.2.1 q.1 = .ok (q.2, aLn q.2) := by decide +kernel
def bX7_holds_7 : List (Nat × Instr) := [(7, .aload_n 0), (8, .iload_n 2)]
theorem bX7_holds_7_ok : ∀ q ∈ bX7_holds_7, decode mX7_holds.2.1 q.1 = .ok (q.2, aLn q.2) := by decide +kernel
def bX7_holds_15 : List (Nat × Instr) := [(15, .iconst (-1))]
theorem bX7_holds_15_ok : ∀ q ∈ bX7_holds_15, decode mX7_holds.2.1 q.1 = .ok (q.2, aLn q.2) := by decide +kernel
def bX7_holds_17 : List (Nat × Instr) := [(17, .aload_n 0), (18, .getfield 9), (21, .bipush 8), (23, .iload_n 1), (24, .iadd), (25, .iaload), (26, .istore_n 3), (27, .aload_n 0), (28, .getfield 9), (31, .iload_n 1), (32, .iload_n 2)]
theorem bX7_holds_17_ok : ∀ q ∈ bX7_holds_17, decode mX7_holds.2.1 q.1 = .ok (q.2, aLn q.2) := by decide +kernel
def bX7_holds_36 : List (Nat × Instr) := [(36, .iload_n 3)]
theorem bX7_holds_36_ok : ∀ q ∈ bX7_holds_36, decode mX7_holds.2.1 q.1 = .ok (q.2, aLn q.2) := by decide +kernel
theorem dX7_holds_1 : decode mX7_holds.2.1 1 = .ok (.invokestatic 125, 3) := by decide +kernel
theorem dX7_holds_4 : decode mX7_holds.2.1 4 = .ok (.ifCond .eq 11, 3) := by decide +kernel
theorem dX7_holds_9 : decode mX7_holds.2.1 9 = .ok (.invokevirtual 128, 3) := by decide +kernel
theorem dX7_holds_12 : decode mX7_holds.2.1 12 = .ok (.ifCond .ne 5, 3) := by decide +kernel
theorem dX7_holds_16 : decode mX7_holds.2.1 16 = .ok (.ireturn, 1) := by decide +kernel
theorem dX7_holds_33 : decode mX7_holds.2.1 33 = .ok (.invokestatic 131, 3) := by decide +kernel
theorem dX7_holds_37 : decode mX7_holds.2.1 37 = .ok (.ireturn, 1) := by decide +kernel
def bX7_sets_0 : List (Nat × Instr) := [(0, .aload_n 0), (1, .getfield 9), (4, .iload_n 1), (5, .iaload), (6, .istore_n 3), (7, .aload_n 0), (8, .getfield 9), (11, .iload_n 1), (12, .iload_n 2), (13, .iastore), (14, .iload_n 3)]
theorem bX7_sets_0_ok : ∀ q ∈ bX7_sets_0, decode mX7_sets.2.1 q.1 = .ok (q.2, aLn q.2) := by decide +kernel
theorem dX7_sets_15 : decode mX7_sets.2.1 15 = .ok (.ireturn, 1) := by decide +kernel
def bX7_empties_0 : List (Nat × Instr) := [(0, .iload_n 1)]
theorem bX7_empties_0_ok : ∀ q ∈ bX7_empties_0, decode mX7_empties.2.1 q.1 = .ok (q.2, aLn q.2) := by decide +kernel
def bX7_empties_7 : List (Nat × Instr) := [(7, .iconst (-1))]
theorem bX7_empties_7_ok : ∀ q ∈ bX7_empties_7, decode mX7_empties.2.1 q.1 = .ok (q.2, aLn q.2) := by decide +kernel
def bX7_empties_9 : List (Nat × Instr) := [(9, .aload_n 0), (10, .getfield 9), (13, .bipush 8), (15, .iload_n 1), (16, .iadd), (17, .iaload)]
theorem bX7_empties_9_ok : ∀ q ∈ bX7_empties_9, decode mX7_empties.2.1 q.1 = .ok (q.2, aLn q.2) := by decide +kernel
def bX7_empties_21 : List (Nat × Instr) := [(21, .bipush (-3)), (23, .goto 13)]
theorem bX7_empties_21_ok : ∀ q ∈ bX7_empties_21, decode mX7_empties.2.1 q.1 = .ok (q.2, aLn q.2) := by decide +kernel
def bX7_empties_26 : List (Nat × Instr) := [(26, .aload_n 0), (27, .bipush 8), (29, .iload_n 1), (30, .iadd), (31, .bipush (-4))]
theorem bX7_empties_26_ok : ∀ q ∈ bX7_empties_26, decode mX7_empties.2.1 q.1 = .ok (q.2, aLn q.2) := by decide +kernel
theorem dX7_empties_1 : decode mX7_empties.2.1 1 = .ok (.invokestatic 125, 3) := by decide +kernel
theorem dX7_empties_4 : decode mX7_empties.2.1 4 = .ok (.ifCond .ne 5, 3) := by decide +kernel
theorem dX7_empties_8 : decode mX7_empties.2.1 8 = .ok (.ireturn, 1) := by decide +kernel
theorem dX7_empties_18 : decode mX7_empties.2.1 18 = .ok (.ifCond .ge 8, 3) := by decide +kernel
theorem dX7_empties_33 : decode mX7_empties.2.1 33 = .ok (.invokevirtual 167, 3) := by decide +kernel
theorem dX7_empties_36 : decode mX7_empties.2.1 36 = .ok (.ireturn, 1) := by decide +kernel
def bX7_wears_0 : List (Nat × Instr) := [(0, .iload_n 1)]
theorem bX7_wears_0_ok : ∀ q ∈ bX7_wears_0, decode mX7_wears.2.1 q.1 = .ok (q.2, aLn q.2) := by decide +kernel
def bX7_wears_7 : List (Nat × Instr) := [(7, .iload_n 2), (8, .iconst 0), (9, .bipush 9)]
theorem bX7_wears_7_ok : ∀ q ∈ bX7_wears_7, decode mX7_wears.2.1 q.1 = .ok (q.2, aLn q.2) := by decide +kernel
def bX7_wears_17 : List (Nat × Instr) := [(17, .aload_n 0), (18, .iconst 3), (19, .iload_n 1), (20, .iadd), (21, .iload_n 2)]
theorem bX7_wears_17_ok : ∀ q ∈ bX7_wears_17, decode mX7_wears.2.1 q.1 = .ok (q.2, aLn q.2) := by decide +kernel
def bX7_wears_25 : List (Nat × Instr) := [(25, .goto 4)]
theorem bX7_wears_25_ok : ∀ q ∈ bX7_wears_25, decode mX7_wears.2.1 q.1 = .ok (q.2, aLn q.2) := by decide +kernel
def bX7_wears_28 : List (Nat × Instr) := [(28, .iconst (-1))]
theorem bX7_wears_28_ok : ∀ q ∈ bX7_wears_28, decode mX7_wears.2.1 q.1 = .ok (q.2, aLn q.2) := by decide +kernel
theorem dX7_wears_1 : decode mX7_wears.2.1 1 = .ok (.invokestatic 125, 3) := by decide +kernel
theorem dX7_wears_4 : decode mX7_wears.2.1 4 = .ok (.ifCond .eq 24, 3) := by decide +kernel
theorem dX7_wears_11 : decode mX7_wears.2.1 11 = .ok (.invokestatic 49, 3) := by decide +kernel
theorem dX7_wears_14 : decode mX7_wears.2.1 14 = .ok (.ifCond .eq 14, 3) := by decide +kernel
theorem dX7_wears_22 : decode mX7_wears.2.1 22 = .ok (.invokevirtual 167, 3) := by decide +kernel
theorem dX7_wears_29 : decode mX7_wears.2.1 29 = .ok (.ireturn, 1) := by decide +kernel
def bX7_knows_0 : List (Nat × Instr) := [(0, .aload_n 0), (1, .iload_n 1)]
theorem bX7_knows_0_ok : ∀ q ∈ bX7_knows_0, decode mX7_knows.2.1 q.1 = .ok (q.2, aLn q.2) := by decide +kernel
def bX7_knows_8 : List (Nat × Instr) := [(8, .iload_n 2), (9, .iconst 0), (10, .bipush 99)]
theorem bX7_knows_8_ok : ∀ q ∈ bX7_knows_8, decode mX7_knows.2.1 q.1 = .ok (q.2, aLn q.2) := by decide +kernel
def bX7_knows_18 : List (Nat × Instr) := [(18, .aload_n 0), (19, .iload_n 1), (20, .iconst 2)]
theorem bX7_knows_18_ok : ∀ q ∈ bX7_knows_18, decode mX7_knows.2.1 q.1 = .ok (q.2, aLn q.2) := by decide +kernel
def bX7_knows_24 : List (Nat × Instr) := [(24, .iload_n 2)]
theorem bX7_knows_24_ok : ∀ q ∈ bX7_knows_24, decode mX7_knows.2.1 q.1 = .ok (q.2, aLn q.2) := by decide +kernel
def bX7_knows_28 : List (Nat × Instr) := [(28, .goto 4)]
theorem bX7_knows_28_ok : ∀ q ∈ bX7_knows_28, decode mX7_knows.2.1 q.1 = .ok (q.2, aLn q.2) := by decide +kernel
def bX7_knows_31 : List (Nat × Instr) := [(31, .iconst (-1))]
theorem bX7_knows_31_ok : ∀ q ∈ bX7_knows_31, decode mX7_knows.2.1 q.1 = .ok (q.2, aLn q.2) := by decide +kernel
theorem dX7_knows_2 : decode mX7_knows.2.1 2 = .ok (.invokevirtual 128, 3) := by decide +kernel
theorem dX7_knows_5 : decode mX7_knows.2.1 5 = .ok (.ifCond .eq 26, 3) := by decide +kernel
theorem dX7_knows_12 : decode mX7_knows.2.1 12 = .ok (.invokestatic 49, 3) := by decide +kernel
theorem dX7_knows_15 : decode mX7_knows.2.1 15 = .ok (.ifCond .eq 16, 3) := by decide +kernel
theorem dX7_knows_21 : decode mX7_knows.2.1 21 = .ok (.invokestatic 57, 3) := by decide +kernel
theorem dX7_knows_25 : decode mX7_knows.2.1 25 = .ok (.invokevirtual 167, 3) := by decide +kernel
theorem dX7_knows_32 : decode mX7_knows.2.1 32 = .ok (.ireturn, 1) := by decide +kernel
def bX7_marries_0 : List (Nat × Instr) := [(0, .aload_n 0), (1, .iload_n 1)]
theorem bX7_marries_0_ok : ∀ q ∈ bX7_marries_0, decode mX7_marries.2.1 q.1 = .ok (q.2, aLn q.2) := by decide +kernel
def bX7_marries_8 : List (Nat × Instr) := [(8, .iload_n 2)]
theorem bX7_marries_8_ok : ∀ q ∈ bX7_marries_8, decode mX7_marries.2.1 q.1 = .ok (q.2, aLn q.2) := by decide +kernel
def bX7_marries_15 : List (Nat × Instr) := [(15, .aload_n 0), (16, .iload_n 1), (17, .iconst 3)]
theorem bX7_marries_15_ok : ∀ q ∈ bX7_marries_15, decode mX7_marries.2.1 q.1 = .ok (q.2, aLn q.2) := by decide +kernel
def bX7_marries_21 : List (Nat × Instr) := [(21, .iload_n 2)]
theorem bX7_marries_21_ok : ∀ q ∈ bX7_marries_21, decode mX7_marries.2.1 q.1 = .ok (q.2, aLn q.2) := by decide +kernel
def bX7_marries_25 : List (Nat × Instr) := [(25, .goto 4)]
theorem bX7_marries_25_ok : ∀ q ∈ bX7_marries_25, decode mX7_marries.2.1 q.1 = .ok (q.2, aLn q.2) := by decide +kernel
def bX7_marries_28 : List (Nat × Instr) := [(28, .iconst (-1))]
theorem bX7_marries_28_ok : ∀ q ∈ bX7_marries_28, decode mX7_marries.2.1 q.1 = .ok (q.2, aLn q.2) := by decide +kernel
theorem dX7_marries_2 : decode mX7_marries.2.1 2 = .ok (.invokevirtual 128, 3) := by decide +kernel
theorem dX7_marries_5 : decode mX7_marries.2.1 5 = .ok (.ifCond .eq 23, 3) := by decide +kernel
theorem dX7_marries_9 : decode mX7_marries.2.1 9 = .ok (.invokestatic 117, 3) := by decide +kernel
theorem dX7_marries_12 : decode mX7_marries.2.1 12 = .ok (.ifCond .eq 16, 3) := by decide +kernel
theorem dX7_marries_18 : decode mX7_marries.2.1 18 = .ok (.invokestatic 57, 3) := by decide +kernel
theorem dX7_marries_22 : decode mX7_marries.2.1 22 = .ok (.invokevirtual 167, 3) := by decide +kernel
theorem dX7_marries_29 : decode mX7_marries.2.1 29 = .ok (.ireturn, 1) := by decide +kernel
def bX7_days_0 : List (Nat × Instr) := [(0, .iload_n 1), (1, .iconst 1), (2, .bipush 60)]
theorem bX7_days_0_ok : ∀ q ∈ bX7_days_0, decode mX7_days.2.1 q.1 = .ok (q.2, aLn q.2) := by decide +kernel
def bX7_days_10 : List (Nat × Instr) := [(10, .iconst (-1))]
theorem bX7_days_10_ok : ∀ q ∈ bX7_days_10, decode mX7_days.2.1 q.1 = .ok (q.2, aLn q.2) := by decide +kernel
def bX7_days_12 : List (Nat × Instr) := [(12, .aload_n 0), (13, .getfield 9), (16, .iconst 1), (17, .iaload), (18, .iload_n 1), (19, .iadd), (20, .sipush 999)]
theorem bX7_days_12_ok : ∀ q ∈ bX7_days_12, decode mX7_days.2.1 q.1 = .ok (q.2, aLn q.2) := by decide +kernel
def bX7_days_26 : List (Nat × Instr) := [(26, .bipush (-3))]
theorem bX7_days_26_ok : ∀ q ∈ bX7_days_26, decode mX7_days.2.1 q.1 = .ok (q.2, aLn q.2) := by decide +kernel
def bX7_days_29 : List (Nat × Instr) := [(29, .aload_n 0), (30, .getfield 9), (33, .iload_n 1)]
theorem bX7_days_29_ok : ∀ q ∈ bX7_days_29, decode mX7_days.2.1 q.1 = .ok (q.2, aLn q.2) := by decide +kernel
def bX7_days_37 : List (Nat × Instr) := [(37, .aload_n 0), (38, .getfield 9), (41, .iconst 2), (42, .iaload)]
theorem bX7_days_37_ok : ∀ q ∈ bX7_days_37, decode mX7_days.2.1 q.1 = .ok (q.2, aLn q.2) := by decide +kernel
theorem dX7_days_4 : decode mX7_days.2.1 4 = .ok (.invokestatic 49, 3) := by decide +kernel
theorem dX7_days_7 : decode mX7_days.2.1 7 = .ok (.ifCond .ne 5, 3) := by decide +kernel
theorem dX7_days_11 : decode mX7_days.2.1 11 = .ok (.ireturn, 1) := by decide +kernel
theorem dX7_days_23 : decode mX7_days.2.1 23 = .ok (.if_icmp .le 6, 3) := by decide +kernel
theorem dX7_days_28 : decode mX7_days.2.1 28 = .ok (.ireturn, 1) := by decide +kernel
theorem dX7_days_34 : decode mX7_days.2.1 34 = .ok (.invokestatic 135, 3) := by decide +kernel
theorem dX7_days_43 : decode mX7_days.2.1 43 = .ok (.ireturn, 1) := by decide +kernel
def bX7_isLate_0 : List (Nat × Instr) := [(0, .iload_n 0), (1, .iconst 0), (2, .bipush 60)]
theorem bX7_isLate_0_ok : ∀ q ∈ bX7_isLate_0, decode mX7_isLate.2.1 q.1 = .ok (q.2, aLn q.2) := by decide +kernel
theorem dX7_isLate_4 : decode mX7_isLate.2.1 4 = .ok (.invokestatic 49, 3) := by decide +kernel
theorem dX7_isLate_7 : decode mX7_isLate.2.1 7 = .ok (.ireturn, 1) := by decide +kernel
def bX7_takes_0 : List (Nat × Instr) := [(0, .aload_n 0), (1, .getfield 9), (4, .aload_n 0), (5, .getfield 13)]
theorem bX7_takes_0_ok : ∀ q ∈ bX7_takes_0, decode mX7_takes.2.1 q.1 = .ok (q.2, aLn q.2) := by decide +kernel
def bX7_takes_11 : List (Nat × Instr) := [(11, .aload_n 0), (12, .getfield 13), (15, .iload_n 1)]
theorem bX7_takes_11_ok : ∀ q ∈ bX7_takes_11, decode mX7_takes.2.1 q.1 = .ok (q.2, aLn q.2) := by decide +kernel
theorem dX7_takes_8 : decode mX7_takes.2.1 8 = .ok (.invokestatic 145, 3) := by decide +kernel
theorem dX7_takes_16 : decode mX7_takes.2.1 16 = .ok (.invokestatic 135, 3) := by decide +kernel
theorem dX7_takes_19 : decode mX7_takes.2.1 19 = .ok (.return_, 1) := by decide +kernel
def bX7_heldThen_0 : List (Nat × Instr) := [(0, .iload_n 1)]
theorem bX7_heldThen_0_ok : ∀ q ∈ bX7_heldThen_0, decode mX7_heldThen.2.1 q.1 = .ok (q.2, aLn q.2) := by decide +kernel
def bX7_heldThen_7 : List (Nat × Instr) := [(7, .iload_n 2)]
theorem bX7_heldThen_7_ok : ∀ q ∈ bX7_heldThen_7, decode mX7_heldThen.2.1 q.1 = .ok (q.2, aLn q.2) := by decide +kernel
def bX7_heldThen_14 : List (Nat × Instr) := [(14, .iconst (-1))]
theorem bX7_heldThen_14_ok : ∀ q ∈ bX7_heldThen_14, decode mX7_heldThen.2.1 q.1 = .ok (q.2, aLn q.2) := by decide +kernel
def bX7_heldThen_16 : List (Nat × Instr) := [(16, .aload_n 0), (17, .iload_n 2)]
theorem bX7_heldThen_16_ok : ∀ q ∈ bX7_heldThen_16, decode mX7_heldThen.2.1 q.1 = .ok (q.2, aLn q.2) := by decide +kernel
def bX7_heldThen_21 : List (Nat × Instr) := [(21, .aload_n 0), (22, .getfield 13), (25, .bipush 8), (27, .iload_n 1), (28, .iadd), (29, .iaload)]
theorem bX7_heldThen_21_ok : ∀ q ∈ bX7_heldThen_21, decode mX7_heldThen.2.1 q.1 = .ok (q.2, aLn q.2) := by decide +kernel
theorem dX7_heldThen_1 : decode mX7_heldThen.2.1 1 = .ok (.invokestatic 125, 3) := by decide +kernel
theorem dX7_heldThen_4 : decode mX7_heldThen.2.1 4 = .ok (.ifCond .eq 10, 3) := by decide +kernel
theorem dX7_heldThen_8 : decode mX7_heldThen.2.1 8 = .ok (.invokestatic 170, 3) := by decide +kernel
theorem dX7_heldThen_11 : decode mX7_heldThen.2.1 11 = .ok (.ifCond .ne 5, 3) := by decide +kernel
theorem dX7_heldThen_15 : decode mX7_heldThen.2.1 15 = .ok (.ireturn, 1) := by decide +kernel
theorem dX7_heldThen_18 : decode mX7_heldThen.2.1 18 = .ok (.invokevirtual 173, 3) := by decide +kernel
theorem dX7_heldThen_30 : decode mX7_heldThen.2.1 30 = .ok (.ireturn, 1) := by decide +kernel
def bX7_knownThen_0 : List (Nat × Instr) := [(0, .aload_n 0), (1, .iload_n 1)]
theorem bX7_knownThen_0_ok : ∀ q ∈ bX7_knownThen_0, decode mX7_knownThen.2.1 q.1 = .ok (q.2, aLn q.2) := by decide +kernel
def bX7_knownThen_8 : List (Nat × Instr) := [(8, .iload_n 2)]
theorem bX7_knownThen_8_ok : ∀ q ∈ bX7_knownThen_8, decode mX7_knownThen.2.1 q.1 = .ok (q.2, aLn q.2) := by decide +kernel
def bX7_knownThen_15 : List (Nat × Instr) := [(15, .iconst (-1))]
theorem bX7_knownThen_15_ok : ∀ q ∈ bX7_knownThen_15, decode mX7_knownThen.2.1 q.1 = .ok (q.2, aLn q.2) := by decide +kernel
def bX7_knownThen_17 : List (Nat × Instr) := [(17, .aload_n 0), (18, .iload_n 2)]
theorem bX7_knownThen_17_ok : ∀ q ∈ bX7_knownThen_17, decode mX7_knownThen.2.1 q.1 = .ok (q.2, aLn q.2) := by decide +kernel
def bX7_knownThen_22 : List (Nat × Instr) := [(22, .aload_n 0), (23, .getfield 13), (26, .iload_n 1), (27, .iconst 2)]
theorem bX7_knownThen_22_ok : ∀ q ∈ bX7_knownThen_22, decode mX7_knownThen.2.1 q.1 = .ok (q.2, aLn q.2) := by decide +kernel
def bX7_knownThen_31 : List (Nat × Instr) := [(31, .iaload)]
theorem bX7_knownThen_31_ok : ∀ q ∈ bX7_knownThen_31, decode mX7_knownThen.2.1 q.1 = .ok (q.2, aLn q.2) := by decide +kernel
theorem dX7_knownThen_2 : decode mX7_knownThen.2.1 2 = .ok (.invokevirtual 128, 3) := by decide +kernel
theorem dX7_knownThen_5 : decode mX7_knownThen.2.1 5 = .ok (.ifCond .eq 10, 3) := by decide +kernel
theorem dX7_knownThen_9 : decode mX7_knownThen.2.1 9 = .ok (.invokestatic 170, 3) := by decide +kernel
theorem dX7_knownThen_12 : decode mX7_knownThen.2.1 12 = .ok (.ifCond .ne 5, 3) := by decide +kernel
theorem dX7_knownThen_16 : decode mX7_knownThen.2.1 16 = .ok (.ireturn, 1) := by decide +kernel
theorem dX7_knownThen_19 : decode mX7_knownThen.2.1 19 = .ok (.invokevirtual 173, 3) := by decide +kernel
theorem dX7_knownThen_28 : decode mX7_knownThen.2.1 28 = .ok (.invokestatic 57, 3) := by decide +kernel
theorem dX7_knownThen_32 : decode mX7_knownThen.2.1 32 = .ok (.ireturn, 1) := by decide +kernel
def bX7_then_0 : List (Nat × Instr) := [(0, .iload_n 1)]
theorem bX7_then_0_ok : ∀ q ∈ bX7_then_0, decode mX7_then.2.1 q.1 = .ok (q.2, aLn q.2) := by decide +kernel
def bX7_then_7 : List (Nat × Instr) := [(7, .iload_n 2), (8, .iconst 0), (9, .iconst 1)]
theorem bX7_then_7_ok : ∀ q ∈ bX7_then_7, decode mX7_then.2.1 q.1 = .ok (q.2, aLn q.2) := by decide +kernel
def bX7_then_16 : List (Nat × Instr) := [(16, .iconst (-1))]
theorem bX7_then_16_ok : ∀ q ∈ bX7_then_16, decode mX7_then.2.1 q.1 = .ok (q.2, aLn q.2) := by decide +kernel
def bX7_then_18 : List (Nat × Instr) := [(18, .aload_n 0), (19, .iload_n 1)]
theorem bX7_then_18_ok : ∀ q ∈ bX7_then_18, decode mX7_then.2.1 q.1 = .ok (q.2, aLn q.2) := by decide +kernel
def bX7_then_23 : List (Nat × Instr) := [(23, .iload_n 2)]
theorem bX7_then_23_ok : ∀ q ∈ bX7_then_23, decode mX7_then.2.1 q.1 = .ok (q.2, aLn q.2) := by decide +kernel
def bX7_then_27 : List (Nat × Instr) := [(27, .aload_n 0), (28, .getfield 13)]
theorem bX7_then_27_ok : ∀ q ∈ bX7_then_27, decode mX7_then.2.1 q.1 = .ok (q.2, aLn q.2) := by decide +kernel
def bX7_then_34 : List (Nat × Instr) := [(34, .goto 9)]
theorem bX7_then_34_ok : ∀ q ∈ bX7_then_34, decode mX7_then.2.1 q.1 = .ok (q.2, aLn q.2) := by decide +kernel
def bX7_then_37 : List (Nat × Instr) := [(37, .aload_n 0), (38, .getfield 13), (41, .iconst 2), (42, .iaload)]
theorem bX7_then_37_ok : ∀ q ∈ bX7_then_37, decode mX7_then.2.1 q.1 = .ok (q.2, aLn q.2) := by decide +kernel
theorem dX7_then_1 : decode mX7_then.2.1 1 = .ok (.invokestatic 170, 3) := by decide +kernel
theorem dX7_then_4 : decode mX7_then.2.1 4 = .ok (.ifCond .eq 12, 3) := by decide +kernel
theorem dX7_then_10 : decode mX7_then.2.1 10 = .ok (.invokestatic 49, 3) := by decide +kernel
theorem dX7_then_13 : decode mX7_then.2.1 13 = .ok (.ifCond .ne 5, 3) := by decide +kernel
theorem dX7_then_17 : decode mX7_then.2.1 17 = .ok (.ireturn, 1) := by decide +kernel
theorem dX7_then_20 : decode mX7_then.2.1 20 = .ok (.invokevirtual 173, 3) := by decide +kernel
theorem dX7_then_24 : decode mX7_then.2.1 24 = .ok (.ifCond .ne 13, 3) := by decide +kernel
theorem dX7_then_31 : decode mX7_then.2.1 31 = .ok (.invokestatic 177, 3) := by decide +kernel
theorem dX7_then_43 : decode mX7_then.2.1 43 = .ok (.ireturn, 1) := by decide +kernel
def bX7_whenNot_0 : List (Nat × Instr) := [(0, .iconst 0), (1, .istore_n 3)]
theorem bX7_whenNot_0_ok : ∀ q ∈ bX7_whenNot_0, decode mX7_whenNot.2.1 q.1 = .ok (q.2, aLn q.2) := by decide +kernel
def bX7_whenNot_2 : List (Nat × Instr) := [(2, .iload_n 3), (3, .bipush 60)]
theorem bX7_whenNot_2_ok : ∀ q ∈ bX7_whenNot_2, decode mX7_whenNot.2.1 q.1 = .ok (q.2, aLn q.2) := by decide +kernel
def bX7_whenNot_8 : List (Nat × Instr) := [(8, .aload_n 0), (9, .getfield 13), (12, .bipush 8), (14, .iload_n 1), (15, .iadd), (16, .iaload), (17, .iload_n 2)]
theorem bX7_whenNot_8_ok : ∀ q ∈ bX7_whenNot_8, decode mX7_whenNot.2.1 q.1 = .ok (q.2, aLn q.2) := by decide +kernel
def bX7_whenNot_21 : List (Nat × Instr) := [(21, .iload_n 3)]
theorem bX7_whenNot_21_ok : ∀ q ∈ bX7_whenNot_21, decode mX7_whenNot.2.1 q.1 = .ok (q.2, aLn q.2) := by decide +kernel
def bX7_whenNot_23 : List (Nat × Instr) := [(23, .aload_n 0), (24, .getfield 13)]
theorem bX7_whenNot_23_ok : ∀ q ∈ bX7_whenNot_23, decode mX7_whenNot.2.1 q.1 = .ok (q.2, aLn q.2) := by decide +kernel
def bX7_whenNot_30 : List (Nat × Instr) := [(30, .iinc 3 1), (33, .goto (-31))]
theorem bX7_whenNot_30_ok : ∀ q ∈ bX7_whenNot_30, decode mX7_whenNot.2.1 q.1 = .ok (q.2, aLn q.2) := by decide +kernel
def bX7_whenNot_36 : List (Nat × Instr) := [(36, .bipush (-4))]
theorem bX7_whenNot_36_ok : ∀ q ∈ bX7_whenNot_36, decode mX7_whenNot.2.1 q.1 = .ok (q.2, aLn q.2) := by decide +kernel
theorem dX7_whenNot_5 : decode mX7_whenNot.2.1 5 = .ok (.if_icmp .gt 31, 3) := by decide +kernel
theorem dX7_whenNot_18 : decode mX7_whenNot.2.1 18 = .ok (.if_icmp .eq 5, 3) := by decide +kernel
theorem dX7_whenNot_22 : decode mX7_whenNot.2.1 22 = .ok (.ireturn, 1) := by decide +kernel
theorem dX7_whenNot_27 : decode mX7_whenNot.2.1 27 = .ok (.invokestatic 95, 3) := by decide +kernel
theorem dX7_whenNot_38 : decode mX7_whenNot.2.1 38 = .ok (.ireturn, 1) := by decide +kernel
def bX7_falls_0 : List (Nat × Instr) := [(0, .aload_n 0), (1, .iload_n 1)]
theorem bX7_falls_0_ok : ∀ q ∈ bX7_falls_0, decode mX7_falls.2.1 q.1 = .ok (q.2, aLn q.2) := by decide +kernel
def bX7_falls_8 : List (Nat × Instr) := [(8, .iconst (-1))]
theorem bX7_falls_8_ok : ∀ q ∈ bX7_falls_8, decode mX7_falls.2.1 q.1 = .ok (q.2, aLn q.2) := by decide +kernel
def bX7_falls_10 : List (Nat × Instr) := [(10, .aload_n 0), (11, .getfield 9), (14, .iload_n 1)]
theorem bX7_falls_10_ok : ∀ q ∈ bX7_falls_10, decode mX7_falls.2.1 q.1 = .ok (q.2, aLn q.2) := by decide +kernel
def bX7_falls_18 : List (Nat × Instr) := [(18, .istore_n 2), (19, .iload_n 2)]
theorem bX7_falls_18_ok : ∀ q ∈ bX7_falls_18, decode mX7_falls.2.1 q.1 = .ok (q.2, aLn q.2) := by decide +kernel
def bX7_falls_23 : List (Nat × Instr) := [(23, .bipush (-4))]
theorem bX7_falls_23_ok : ∀ q ∈ bX7_falls_23, decode mX7_falls.2.1 q.1 = .ok (q.2, aLn q.2) := by decide +kernel
def bX7_falls_26 : List (Nat × Instr) := [(26, .aload_n 0), (27, .getfield 9), (30, .aload_n 0), (31, .getfield 13)]
theorem bX7_falls_26_ok : ∀ q ∈ bX7_falls_26, decode mX7_falls.2.1 q.1 = .ok (q.2, aLn q.2) := by decide +kernel
def bX7_falls_37 : List (Nat × Instr) := [(37, .aload_n 0), (38, .iload_n 2), (39, .iload_n 1)]
theorem bX7_falls_37_ok : ∀ q ∈ bX7_falls_37, decode mX7_falls.2.1 q.1 = .ok (q.2, aLn q.2) := by decide +kernel
theorem dX7_falls_2 : decode mX7_falls.2.1 2 = .ok (.invokevirtual 128, 3) := by decide +kernel
theorem dX7_falls_5 : decode mX7_falls.2.1 5 = .ok (.ifCond .ne 5, 3) := by decide +kernel
theorem dX7_falls_9 : decode mX7_falls.2.1 9 = .ok (.ireturn, 1) := by decide +kernel
theorem dX7_falls_15 : decode mX7_falls.2.1 15 = .ok (.invokestatic 64, 3) := by decide +kernel
theorem dX7_falls_20 : decode mX7_falls.2.1 20 = .ok (.ifCond .ge 6, 3) := by decide +kernel
theorem dX7_falls_25 : decode mX7_falls.2.1 25 = .ok (.ireturn, 1) := by decide +kernel
theorem dX7_falls_34 : decode mX7_falls.2.1 34 = .ok (.invokestatic 145, 3) := by decide +kernel
theorem dX7_falls_40 : decode mX7_falls.2.1 40 = .ok (.invokevirtual 181, 3) := by decide +kernel
theorem dX7_falls_43 : decode mX7_falls.2.1 43 = .ok (.ireturn, 1) := by decide +kernel
end
section
/-! ===== code ===== -/
def bX7_empty_0 : List (Nat × Instr) := [(0, .iload_n 1)]
theorem bX7_empty_0_ok : ∀ q ∈ bX7_empty_0, decode mX7_empty.2.1 q.1 = .ok (q.2, aLn q.2) := by decide +kernel
def bX7_empty_7 : List (Nat × Instr) := [(7, .iconst (-1))]
theorem bX7_empty_7_ok : ∀ q ∈ bX7_empty_7, decode mX7_empty.2.1 q.1 = .ok (q.2, aLn q.2) := by decide +kernel
def bX7_empty_9 : List (Nat × Instr) := [(9, .aload_n 0), (10, .getfield 9), (13, .aload_n 0), (14, .getfield 13)]
theorem bX7_empty_9_ok : ∀ q ∈ bX7_empty_9, decode mX7_empty.2.1 q.1 = .ok (q.2, aLn q.2) := by decide +kernel
def bX7_empty_20 : List (Nat × Instr) := [(20, .iconst 0), (21, .istore_n 2)]
theorem bX7_empty_20_ok : ∀ q ∈ bX7_empty_20, decode mX7_empty.2.1 q.1 = .ok (q.2, aLn q.2) := by decide +kernel
def bX7_empty_22 : List (Nat × Instr) := [(22, .iload_n 2), (23, .bipush 60)]
theorem bX7_empty_22_ok : ∀ q ∈ bX7_empty_22, decode mX7_empty.2.1 q.1 = .ok (q.2, aLn q.2) := by decide +kernel
def bX7_empty_28 : List (Nat × Instr) := [(28, .aload_n 0), (29, .getfield 13), (32, .bipush 8), (34, .iload_n 1), (35, .iadd), (36, .iaload)]
theorem bX7_empty_28_ok : ∀ q ∈ bX7_empty_28, decode mX7_empty.2.1 q.1 = .ok (q.2, aLn q.2) := by decide +kernel
def bX7_empty_40 : List (Nat × Instr) := [(40, .iload_n 2)]
theorem bX7_empty_40_ok : ∀ q ∈ bX7_empty_40, decode mX7_empty.2.1 q.1 = .ok (q.2, aLn q.2) := by decide +kernel
def bX7_empty_42 : List (Nat × Instr) := [(42, .aload_n 0), (43, .getfield 13)]
theorem bX7_empty_42_ok : ∀ q ∈ bX7_empty_42, decode mX7_empty.2.1 q.1 = .ok (q.2, aLn q.2) := by decide +kernel
def bX7_empty_49 : List (Nat × Instr) := [(49, .iinc 2 1), (52, .goto (-30))]
theorem bX7_empty_49_ok : ∀ q ∈ bX7_empty_49, decode mX7_empty.2.1 q.1 = .ok (q.2, aLn q.2) := by decide +kernel
def bX7_empty_55 : List (Nat × Instr) := [(55, .bipush (-4))]
theorem bX7_empty_55_ok : ∀ q ∈ bX7_empty_55, decode mX7_empty.2.1 q.1 = .ok (q.2, aLn q.2) := by decide +kernel
theorem dX7_empty_1 : decode mX7_empty.2.1 1 = .ok (.invokestatic 125, 3) := by decide +kernel
theorem dX7_empty_4 : decode mX7_empty.2.1 4 = .ok (.ifCond .ne 5, 3) := by decide +kernel
theorem dX7_empty_8 : decode mX7_empty.2.1 8 = .ok (.ireturn, 1) := by decide +kernel
theorem dX7_empty_17 : decode mX7_empty.2.1 17 = .ok (.invokestatic 145, 3) := by decide +kernel
theorem dX7_empty_25 : decode mX7_empty.2.1 25 = .ok (.if_icmp .gt 30, 3) := by decide +kernel
theorem dX7_empty_37 : decode mX7_empty.2.1 37 = .ok (.ifCond .ge 5, 3) := by decide +kernel
theorem dX7_empty_41 : decode mX7_empty.2.1 41 = .ok (.ireturn, 1) := by decide +kernel
theorem dX7_empty_46 : decode mX7_empty.2.1 46 = .ok (.invokestatic 95, 3) := by decide +kernel
theorem dX7_empty_57 : decode mX7_empty.2.1 57 = .ok (.ireturn, 1) := by decide +kernel
def bX7_lastsOf_0 : List (Nat × Instr) := [(0, .aload_n 0), (1, .getfield 9), (4, .aload_n 0), (5, .getfield 13)]
theorem bX7_lastsOf_0_ok : ∀ q ∈ bX7_lastsOf_0, decode mX7_lastsOf.2.1 q.1 = .ok (q.2, aLn q.2) := by decide +kernel
def bX7_lastsOf_11 : List (Nat × Instr) := [(11, .iconst 0), (12, .istore_n 3)]
theorem bX7_lastsOf_11_ok : ∀ q ∈ bX7_lastsOf_11, decode mX7_lastsOf.2.1 q.1 = .ok (q.2, aLn q.2) := by decide +kernel
def bX7_lastsOf_13 : List (Nat × Instr) := [(13, .iload_n 3), (14, .iconst 5)]
theorem bX7_lastsOf_13_ok : ∀ q ∈ bX7_lastsOf_13, decode mX7_lastsOf.2.1 q.1 = .ok (q.2, aLn q.2) := by decide +kernel
def bX7_lastsOf_18 : List (Nat × Instr) := [(18, .aload_n 0), (19, .getfield 13), (22, .bipush 8), (24, .iload_n 3), (25, .iadd), (26, .iload_n 3), (27, .iload_n 1)]
theorem bX7_lastsOf_18_ok : ∀ q ∈ bX7_lastsOf_18, decode mX7_lastsOf.2.1 q.1 = .ok (q.2, aLn q.2) := by decide +kernel
def bX7_lastsOf_31 : List (Nat × Instr) := [(31, .iload_n 2), (32, .goto 5)]
theorem bX7_lastsOf_31_ok : ∀ q ∈ bX7_lastsOf_31, decode mX7_lastsOf.2.1 q.1 = .ok (q.2, aLn q.2) := by decide +kernel
def bX7_lastsOf_35 : List (Nat × Instr) := [(35, .bipush (-4))]
theorem bX7_lastsOf_35_ok : ∀ q ∈ bX7_lastsOf_35, decode mX7_lastsOf.2.1 q.1 = .ok (q.2, aLn q.2) := by decide +kernel
def bX7_lastsOf_37 : List (Nat × Instr) := [(37, .iastore), (38, .iinc 3 1), (41, .goto (-28))]
theorem bX7_lastsOf_37_ok : ∀ q ∈ bX7_lastsOf_37, decode mX7_lastsOf.2.1 q.1 = .ok (q.2, aLn q.2) := by decide +kernel
def bX7_lastsOf_44 : List (Nat × Instr) := [(44, .aload_n 0), (45, .iload_n 1), (46, .iload_n 2)]
theorem bX7_lastsOf_44_ok : ∀ q ∈ bX7_lastsOf_44, decode mX7_lastsOf.2.1 q.1 = .ok (q.2, aLn q.2) := by decide +kernel
def bX7_lastsOf_50 : List (Nat × Instr) := [(50, .istore_n 3), (51, .iload_n 3)]
theorem bX7_lastsOf_50_ok : ∀ q ∈ bX7_lastsOf_50, decode mX7_lastsOf.2.1 q.1 = .ok (q.2, aLn q.2) := by decide +kernel
def bX7_lastsOf_55 : List (Nat × Instr) := [(55, .bipush 60), (57, .goto 4)]
theorem bX7_lastsOf_55_ok : ∀ q ∈ bX7_lastsOf_55, decode mX7_lastsOf.2.1 q.1 = .ok (q.2, aLn q.2) := by decide +kernel
def bX7_lastsOf_60 : List (Nat × Instr) := [(60, .iload_n 3)]
theorem bX7_lastsOf_60_ok : ∀ q ∈ bX7_lastsOf_60, decode mX7_lastsOf.2.1 q.1 = .ok (q.2, aLn q.2) := by decide +kernel
theorem dX7_lastsOf_8 : decode mX7_lastsOf.2.1 8 = .ok (.invokestatic 145, 3) := by decide +kernel
theorem dX7_lastsOf_15 : decode mX7_lastsOf.2.1 15 = .ok (.if_icmp .ge 29, 3) := by decide +kernel
theorem dX7_lastsOf_28 : decode mX7_lastsOf.2.1 28 = .ok (.if_icmp .ne 7, 3) := by decide +kernel
theorem dX7_lastsOf_47 : decode mX7_lastsOf.2.1 47 = .ok (.invokevirtual 181, 3) := by decide +kernel
theorem dX7_lastsOf_52 : decode mX7_lastsOf.2.1 52 = .ok (.ifCond .ge 8, 3) := by decide +kernel
theorem dX7_lastsOf_61 : decode mX7_lastsOf.2.1 61 = .ok (.ireturn, 1) := by decide +kernel
def bX7_lasts_0 : List (Nat × Instr) := [(0, .iload_n 1)]
theorem bX7_lasts_0_ok : ∀ q ∈ bX7_lasts_0, decode mX7_lasts.2.1 q.1 = .ok (q.2, aLn q.2) := by decide +kernel
def bX7_lasts_7 : List (Nat × Instr) := [(7, .aload_n 0), (8, .iload_n 2)]
theorem bX7_lasts_7_ok : ∀ q ∈ bX7_lasts_7, decode mX7_lasts.2.1 q.1 = .ok (q.2, aLn q.2) := by decide +kernel
def bX7_lasts_15 : List (Nat × Instr) := [(15, .aload_n 0), (16, .iload_n 1), (17, .iload_n 2)]
theorem bX7_lasts_15_ok : ∀ q ∈ bX7_lasts_15, decode mX7_lasts.2.1 q.1 = .ok (q.2, aLn q.2) := by decide +kernel
def bX7_lasts_21 : List (Nat × Instr) := [(21, .goto 4)]
theorem bX7_lasts_21_ok : ∀ q ∈ bX7_lasts_21, decode mX7_lasts.2.1 q.1 = .ok (q.2, aLn q.2) := by decide +kernel
def bX7_lasts_24 : List (Nat × Instr) := [(24, .iconst (-1))]
theorem bX7_lasts_24_ok : ∀ q ∈ bX7_lasts_24, decode mX7_lasts.2.1 q.1 = .ok (q.2, aLn q.2) := by decide +kernel
theorem dX7_lasts_1 : decode mX7_lasts.2.1 1 = .ok (.invokestatic 125, 3) := by decide +kernel
theorem dX7_lasts_4 : decode mX7_lasts.2.1 4 = .ok (.ifCond .eq 20, 3) := by decide +kernel
theorem dX7_lasts_9 : decode mX7_lasts.2.1 9 = .ok (.invokevirtual 128, 3) := by decide +kernel
theorem dX7_lasts_12 : decode mX7_lasts.2.1 12 = .ok (.ifCond .eq 12, 3) := by decide +kernel
theorem dX7_lasts_18 : decode mX7_lasts.2.1 18 = .ok (.invokevirtual 184, 3) := by decide +kernel
theorem dX7_lasts_25 : decode mX7_lasts.2.1 25 = .ok (.ireturn, 1) := by decide +kernel
def bX7_bestCostume_0 : List (Nat × Instr) := [(0, .iload_n 1)]
theorem bX7_bestCostume_0_ok : ∀ q ∈ bX7_bestCostume_0, decode mX7_bestCostume.2.1 q.1 = .ok (q.2, aLn q.2) := by decide +kernel
def bX7_bestCostume_7 : List (Nat × Instr) := [(7, .iload_n 2)]
theorem bX7_bestCostume_7_ok : ∀ q ∈ bX7_bestCostume_7, decode mX7_bestCostume.2.1 q.1 = .ok (q.2, aLn q.2) := by decide +kernel
def bX7_bestCostume_14 : List (Nat × Instr) := [(14, .iload_n 3), (15, .iconst 0), (16, .iconst 1)]
theorem bX7_bestCostume_14_ok : ∀ q ∈ bX7_bestCostume_14, decode mX7_bestCostume.2.1 q.1 = .ok (q.2, aLn q.2) := by decide +kernel
def bX7_bestCostume_23 : List (Nat × Instr) := [(23, .iconst (-1))]
theorem bX7_bestCostume_23_ok : ∀ q ∈ bX7_bestCostume_23, decode mX7_bestCostume.2.1 q.1 = .ok (q.2, aLn q.2) := by decide +kernel
def bX7_bestCostume_25 : List (Nat × Instr) := [(25, .iconst 0), (26, .istore 4), (28, .ldc 187), (30, .istore 5), (32, .iconst 0), (33, .istore 6)]
theorem bX7_bestCostume_25_ok : ∀ q ∈ bX7_bestCostume_25, decode mX7_bestCostume.2.1 q.1 = .ok (q.2, aLn q.2) := by decide +kernel
def bX7_bestCostume_35 : List (Nat × Instr) := [(35, .iload 6), (37, .bipush 10)]
theorem bX7_bestCostume_35_ok : ∀ q ∈ bX7_bestCostume_35, decode mX7_bestCostume.2.1 q.1 = .ok (q.2, aLn q.2) := by decide +kernel
def bX7_bestCostume_42 : List (Nat × Instr) := [(42, .aload_n 0), (43, .getfield 9), (46, .aload_n 0), (47, .getfield 13)]
theorem bX7_bestCostume_42_ok : ∀ q ∈ bX7_bestCostume_42, decode mX7_bestCostume.2.1 q.1 = .ok (q.2, aLn q.2) := by decide +kernel
def bX7_bestCostume_53 : List (Nat × Instr) := [(53, .aload_n 0), (54, .getfield 13), (57, .iconst 3), (58, .iload_n 1), (59, .iadd), (60, .iload 6), (62, .iastore), (63, .aload_n 0), (64, .getfield 13), (67, .iload_n 2)]
theorem bX7_bestCostume_53_ok : ∀ q ∈ bX7_bestCostume_53, decode mX7_bestCostume.2.1 q.1 = .ok (q.2, aLn q.2) := by decide +kernel
def bX7_bestCostume_71 : List (Nat × Instr) := [(71, .aload_n 0), (72, .getfield 13), (75, .iconst 2), (76, .iaload), (77, .iload 5)]
theorem bX7_bestCostume_71_ok : ∀ q ∈ bX7_bestCostume_71, decode mX7_bestCostume.2.1 q.1 = .ok (q.2, aLn q.2) := by decide +kernel
def bX7_bestCostume_82 : List (Nat × Instr) := [(82, .goto 15)]
theorem bX7_bestCostume_82_ok : ∀ q ∈ bX7_bestCostume_82, decode mX7_bestCostume.2.1 q.1 = .ok (q.2, aLn q.2) := by decide +kernel
def bX7_bestCostume_85 : List (Nat × Instr) := [(85, .iload 6), (87, .istore 4), (89, .aload_n 0), (90, .getfield 13), (93, .iconst 2), (94, .iaload), (95, .istore 5)]
theorem bX7_bestCostume_85_ok : ∀ q ∈ bX7_bestCostume_85, decode mX7_bestCostume.2.1 q.1 = .ok (q.2, aLn q.2) := by decide +kernel
def bX7_bestCostume_97 : List (Nat × Instr) := [(97, .iinc 6 1), (100, .goto (-65))]
theorem bX7_bestCostume_97_ok : ∀ q ∈ bX7_bestCostume_97, decode mX7_bestCostume.2.1 q.1 = .ok (q.2, aLn q.2) := by decide +kernel
def bX7_bestCostume_103 : List (Nat × Instr) := [(103, .iload_n 3)]
theorem bX7_bestCostume_103_ok : ∀ q ∈ bX7_bestCostume_103, decode mX7_bestCostume.2.1 q.1 = .ok (q.2, aLn q.2) := by decide +kernel
def bX7_bestCostume_107 : List (Nat × Instr) := [(107, .iload 4), (109, .goto 12)]
theorem bX7_bestCostume_107_ok : ∀ q ∈ bX7_bestCostume_107, decode mX7_bestCostume.2.1 q.1 = .ok (q.2, aLn q.2) := by decide +kernel
def bX7_bestCostume_112 : List (Nat × Instr) := [(112, .iload 5), (114, .aload_n 0), (115, .getfield 9), (118, .iconst 2), (119, .iaload), (120, .isub)]
theorem bX7_bestCostume_112_ok : ∀ q ∈ bX7_bestCostume_112, decode mX7_bestCostume.2.1 q.1 = .ok (q.2, aLn q.2) := by decide +kernel
theorem dX7_bestCostume_1 : decode mX7_bestCostume.2.1 1 = .ok (.invokestatic 125, 3) := by decide +kernel
theorem dX7_bestCostume_4 : decode mX7_bestCostume.2.1 4 = .ok (.ifCond .eq 19, 3) := by decide +kernel
theorem dX7_bestCostume_8 : decode mX7_bestCostume.2.1 8 = .ok (.invokestatic 170, 3) := by decide +kernel
theorem dX7_bestCostume_11 : decode mX7_bestCostume.2.1 11 = .ok (.ifCond .eq 12, 3) := by decide +kernel
theorem dX7_bestCostume_17 : decode mX7_bestCostume.2.1 17 = .ok (.invokestatic 49, 3) := by decide +kernel
theorem dX7_bestCostume_20 : decode mX7_bestCostume.2.1 20 = .ok (.ifCond .ne 5, 3) := by decide +kernel
theorem dX7_bestCostume_24 : decode mX7_bestCostume.2.1 24 = .ok (.ireturn, 1) := by decide +kernel
theorem dX7_bestCostume_39 : decode mX7_bestCostume.2.1 39 = .ok (.if_icmp .ge 64, 3) := by decide +kernel
theorem dX7_bestCostume_50 : decode mX7_bestCostume.2.1 50 = .ok (.invokestatic 145, 3) := by decide +kernel
theorem dX7_bestCostume_68 : decode mX7_bestCostume.2.1 68 = .ok (.invokestatic 135, 3) := by decide +kernel
theorem dX7_bestCostume_79 : decode mX7_bestCostume.2.1 79 = .ok (.if_icmp .lt 6, 3) := by decide +kernel
theorem dX7_bestCostume_104 : decode mX7_bestCostume.2.1 104 = .ok (.ifCond .ne 8, 3) := by decide +kernel
theorem dX7_bestCostume_121 : decode mX7_bestCostume.2.1 121 = .ok (.ireturn, 1) := by decide +kernel
def bX7_mostOf_0 : List (Nat × Instr) := [(0, .aload_n 0), (1, .getfield 28), (4, .iload_n 1), (5, .bipush 8), (7, .ishl), (8, .iload_n 2), (9, .ior), (10, .iaload)]
theorem bX7_mostOf_0_ok : ∀ q ∈ bX7_mostOf_0, decode mX7_mostOf.2.1 q.1 = .ok (q.2, aLn q.2) := by decide +kernel
theorem dX7_mostOf_11 : decode mX7_mostOf.2.1 11 = .ok (.ireturn, 1) := by decide +kernel
def bX7_fillsCast_0 : List (Nat × Instr) := [(0, .iconst 0), (1, .istore_n 1)]
theorem bX7_fillsCast_0_ok : ∀ q ∈ bX7_fillsCast_0, decode mX7_fillsCast.2.1 q.1 = .ok (q.2, aLn q.2) := by decide +kernel
def bX7_fillsCast_2 : List (Nat × Instr) := [(2, .iload_n 1), (3, .iconst 5)]
theorem bX7_fillsCast_2_ok : ∀ q ∈ bX7_fillsCast_2, decode mX7_fillsCast.2.1 q.1 = .ok (q.2, aLn q.2) := by decide +kernel
def bX7_fillsCast_7 : List (Nat × Instr) := [(7, .iconst 0), (8, .istore_n 2)]
theorem bX7_fillsCast_7_ok : ∀ q ∈ bX7_fillsCast_7, decode mX7_fillsCast.2.1 q.1 = .ok (q.2, aLn q.2) := by decide +kernel
def bX7_fillsCast_9 : List (Nat × Instr) := [(9, .iload_n 2), (10, .aload_n 0), (11, .getfield 9), (14, .iconst 0), (15, .iaload)]
theorem bX7_fillsCast_9_ok : ∀ q ∈ bX7_fillsCast_9, decode mX7_fillsCast.2.1 q.1 = .ok (q.2, aLn q.2) := by decide +kernel
def bX7_fillsCast_19 : List (Nat × Instr) := [(19, .aload_n 0), (20, .getfield 25), (23, .bipush 8), (25, .iload_n 1), (26, .imul), (27, .iload_n 2), (28, .iadd), (29, .aload_n 0), (30, .iload_n 1), (31, .iload_n 2)]
theorem bX7_fillsCast_19_ok : ∀ q ∈ bX7_fillsCast_19, decode mX7_fillsCast.2.1 q.1 = .ok (q.2, aLn q.2) := by decide +kernel
def bX7_fillsCast_35 : List (Nat × Instr) := [(35, .iastore), (36, .iinc 2 1), (39, .goto (-30))]
theorem bX7_fillsCast_35_ok : ∀ q ∈ bX7_fillsCast_35, decode mX7_fillsCast.2.1 q.1 = .ok (q.2, aLn q.2) := by decide +kernel
def bX7_fillsCast_42 : List (Nat × Instr) := [(42, .iinc 1 1), (45, .goto (-43))]
theorem bX7_fillsCast_42_ok : ∀ q ∈ bX7_fillsCast_42, decode mX7_fillsCast.2.1 q.1 = .ok (q.2, aLn q.2) := by decide +kernel
def bX7_fillsCast_48 : List (Nat × Instr) := [(48, .iconst 5), (49, .istore_n 1)]
theorem bX7_fillsCast_48_ok : ∀ q ∈ bX7_fillsCast_48, decode mX7_fillsCast.2.1 q.1 = .ok (q.2, aLn q.2) := by decide +kernel
def bX7_fillsCast_50 : List (Nat × Instr) := [(50, .iload_n 1)]
theorem bX7_fillsCast_50_ok : ∀ q ∈ bX7_fillsCast_50, decode mX7_fillsCast.2.1 q.1 = .ok (q.2, aLn q.2) := by decide +kernel
def bX7_fillsCast_54 : List (Nat × Instr) := [(54, .iconst 0), (55, .istore_n 2)]
theorem bX7_fillsCast_54_ok : ∀ q ∈ bX7_fillsCast_54, decode mX7_fillsCast.2.1 q.1 = .ok (q.2, aLn q.2) := by decide +kernel
def bX7_fillsCast_56 : List (Nat × Instr) := [(56, .iload_n 2), (57, .iconst 1), (58, .aload_n 0), (59, .getfield 9), (62, .iconst 0), (63, .iaload), (64, .ishl)]
theorem bX7_fillsCast_56_ok : ∀ q ∈ bX7_fillsCast_56, decode mX7_fillsCast.2.1 q.1 = .ok (q.2, aLn q.2) := by decide +kernel
def bX7_fillsCast_68 : List (Nat × Instr) := [(68, .iload_n 1), (69, .iconst 5)]
theorem bX7_fillsCast_68_ok : ∀ q ∈ bX7_fillsCast_68, decode mX7_fillsCast.2.1 q.1 = .ok (q.2, aLn q.2) := by decide +kernel
def bX7_fillsCast_73 : List (Nat × Instr) := [(73, .iconst 0), (74, .goto 11)]
theorem bX7_fillsCast_73_ok : ∀ q ∈ bX7_fillsCast_73, decode mX7_fillsCast.2.1 q.1 = .ok (q.2, aLn q.2) := by decide +kernel
def bX7_fillsCast_77 : List (Nat × Instr) := [(77, .aload_n 0), (78, .iload_n 1), (79, .iconst 1), (80, .iadd), (81, .iload_n 2)]
theorem bX7_fillsCast_77_ok : ∀ q ∈ bX7_fillsCast_77, decode mX7_fillsCast.2.1 q.1 = .ok (q.2, aLn q.2) := by decide +kernel
def bX7_fillsCast_85 : List (Nat × Instr) := [(85, .istore_n 3), (86, .iconst 0), (87, .istore 4)]
theorem bX7_fillsCast_85_ok : ∀ q ∈ bX7_fillsCast_85, decode mX7_fillsCast.2.1 q.1 = .ok (q.2, aLn q.2) := by decide +kernel
def bX7_fillsCast_89 : List (Nat × Instr) := [(89, .iload 4), (91, .aload_n 0), (92, .getfield 9), (95, .iconst 0), (96, .iaload)]
theorem bX7_fillsCast_89_ok : ∀ q ∈ bX7_fillsCast_89, decode mX7_fillsCast.2.1 q.1 = .ok (q.2, aLn q.2) := by decide +kernel
def bX7_fillsCast_100 : List (Nat × Instr) := [(100, .iload_n 1), (101, .iconst 5)]
theorem bX7_fillsCast_100_ok : ∀ q ∈ bX7_fillsCast_100, decode mX7_fillsCast.2.1 q.1 = .ok (q.2, aLn q.2) := by decide +kernel
def bX7_fillsCast_105 : List (Nat × Instr) := [(105, .iload_n 2), (106, .iload 4)]
theorem bX7_fillsCast_105_ok : ∀ q ∈ bX7_fillsCast_105, decode mX7_fillsCast.2.1 q.1 = .ok (q.2, aLn q.2) := by decide +kernel
def bX7_fillsCast_114 : List (Nat × Instr) := [(114, .aload_n 0), (115, .getfield 25), (118, .bipush 8), (120, .iload_n 1), (121, .imul), (122, .iload 4), (124, .iadd), (125, .iaload), (126, .aload_n 0), (127, .iload_n 1), (128, .iconst 1), (129, .iadd), (130, .iload_n 2), (131, .iconst 1), (132, .iload 4), (134, .ishl), (135, .ior)]
theorem bX7_fillsCast_114_ok : ∀ q ∈ bX7_fillsCast_114, decode mX7_fillsCast.2.1 q.1 = .ok (q.2, aLn q.2) := by decide +kernel
def bX7_fillsCast_139 : List (Nat × Instr) := [(139, .iadd), (140, .iload_n 3)]
theorem bX7_fillsCast_139_ok : ∀ q ∈ bX7_fillsCast_139, decode mX7_fillsCast.2.1 q.1 = .ok (q.2, aLn q.2) := by decide +kernel
def bX7_fillsCast_144 : List (Nat × Instr) := [(144, .aload_n 0), (145, .getfield 25), (148, .bipush 8), (150, .iload_n 1), (151, .imul), (152, .iload 4), (154, .iadd), (155, .iaload), (156, .aload_n 0), (157, .iload_n 1), (158, .iconst 1), (159, .iadd), (160, .iload_n 2), (161, .iconst 1), (162, .iload 4), (164, .ishl), (165, .ior)]
theorem bX7_fillsCast_144_ok : ∀ q ∈ bX7_fillsCast_144, decode mX7_fillsCast.2.1 q.1 = .ok (q.2, aLn q.2) := by decide +kernel
def bX7_fillsCast_169 : List (Nat × Instr) := [(169, .iadd), (170, .istore_n 3)]
theorem bX7_fillsCast_169_ok : ∀ q ∈ bX7_fillsCast_169, decode mX7_fillsCast.2.1 q.1 = .ok (q.2, aLn q.2) := by decide +kernel
def bX7_fillsCast_171 : List (Nat × Instr) := [(171, .iinc 4 1), (174, .goto (-85))]
theorem bX7_fillsCast_171_ok : ∀ q ∈ bX7_fillsCast_171, decode mX7_fillsCast.2.1 q.1 = .ok (q.2, aLn q.2) := by decide +kernel
def bX7_fillsCast_177 : List (Nat × Instr) := [(177, .aload_n 0), (178, .getfield 28), (181, .iload_n 1), (182, .bipush 8), (184, .ishl), (185, .iload_n 2), (186, .ior), (187, .iload_n 3), (188, .iastore), (189, .iinc 2 1), (192, .goto (-136))]
theorem bX7_fillsCast_177_ok : ∀ q ∈ bX7_fillsCast_177, decode mX7_fillsCast.2.1 q.1 = .ok (q.2, aLn q.2) := by decide +kernel
def bX7_fillsCast_195 : List (Nat × Instr) := [(195, .iinc 1 (-1)), (198, .goto (-148))]
theorem bX7_fillsCast_195_ok : ∀ q ∈ bX7_fillsCast_195, decode mX7_fillsCast.2.1 q.1 = .ok (q.2, aLn q.2) := by decide +kernel
theorem dX7_fillsCast_4 : decode mX7_fillsCast.2.1 4 = .ok (.if_icmp .ge 44, 3) := by decide +kernel
theorem dX7_fillsCast_16 : decode mX7_fillsCast.2.1 16 = .ok (.if_icmp .ge 26, 3) := by decide +kernel
theorem dX7_fillsCast_32 : decode mX7_fillsCast.2.1 32 = .ok (.invokevirtual 184, 3) := by decide +kernel
theorem dX7_fillsCast_51 : decode mX7_fillsCast.2.1 51 = .ok (.ifCond .lt 150, 3) := by decide +kernel
theorem dX7_fillsCast_65 : decode mX7_fillsCast.2.1 65 = .ok (.if_icmp .ge 130, 3) := by decide +kernel
theorem dX7_fillsCast_70 : decode mX7_fillsCast.2.1 70 = .ok (.if_icmp .ne 7, 3) := by decide +kernel
theorem dX7_fillsCast_82 : decode mX7_fillsCast.2.1 82 = .ok (.invokevirtual 188, 3) := by decide +kernel
theorem dX7_fillsCast_97 : decode mX7_fillsCast.2.1 97 = .ok (.if_icmp .ge 80, 3) := by decide +kernel
theorem dX7_fillsCast_102 : decode mX7_fillsCast.2.1 102 = .ok (.if_icmp .ge 75, 3) := by decide +kernel
theorem dX7_fillsCast_108 : decode mX7_fillsCast.2.1 108 = .ok (.invokestatic 152, 3) := by decide +kernel
theorem dX7_fillsCast_111 : decode mX7_fillsCast.2.1 111 = .ok (.ifCond .ne 60, 3) := by decide +kernel
theorem dX7_fillsCast_136 : decode mX7_fillsCast.2.1 136 = .ok (.invokevirtual 188, 3) := by decide +kernel
theorem dX7_fillsCast_141 : decode mX7_fillsCast.2.1 141 = .ok (.if_icmp .le 30, 3) := by decide +kernel
theorem dX7_fillsCast_166 : decode mX7_fillsCast.2.1 166 = .ok (.invokevirtual 188, 3) := by decide +kernel
theorem dX7_fillsCast_201 : decode mX7_fillsCast.2.1 201 = .ok (.return_, 1) := by decide +kernel
def bX7_holderBy_0 : List (Nat × Instr) := [(0, .iconst 0), (1, .istore_n 3)]
theorem bX7_holderBy_0_ok : ∀ q ∈ bX7_holderBy_0, decode mX7_holderBy.2.1 q.1 = .ok (q.2, aLn q.2) := by decide +kernel
def bX7_holderBy_2 : List (Nat × Instr) := [(2, .iload_n 3), (3, .aload_n 0), (4, .getfield 9), (7, .iconst 0), (8, .iaload)]
theorem bX7_holderBy_2_ok : ∀ q ∈ bX7_holderBy_2, decode mX7_holderBy.2.1 q.1 = .ok (q.2, aLn q.2) := by decide +kernel
def bX7_holderBy_12 : List (Nat × Instr) := [(12, .iload_n 2), (13, .iload_n 3)]
theorem bX7_holderBy_12_ok : ∀ q ∈ bX7_holderBy_12, decode mX7_holderBy.2.1 q.1 = .ok (q.2, aLn q.2) := by decide +kernel
def bX7_holderBy_20 : List (Nat × Instr) := [(20, .aload_n 0), (21, .getfield 25), (24, .bipush 8), (26, .iload_n 1), (27, .imul), (28, .iload_n 3), (29, .iadd), (30, .iaload), (31, .aload_n 0), (32, .iload_n 1), (33, .iconst 1), (34, .iadd), (35, .iload_n 2), (36, .iconst 1), (37, .iload_n 3), (38, .ishl), (39, .ior)]
theorem bX7_holderBy_20_ok : ∀ q ∈ bX7_holderBy_20, decode mX7_holderBy.2.1 q.1 = .ok (q.2, aLn q.2) := by decide +kernel
def bX7_holderBy_43 : List (Nat × Instr) := [(43, .iadd), (44, .aload_n 0), (45, .iload_n 1), (46, .iload_n 2)]
theorem bX7_holderBy_43_ok : ∀ q ∈ bX7_holderBy_43, decode mX7_holderBy.2.1 q.1 = .ok (q.2, aLn q.2) := by decide +kernel
def bX7_holderBy_53 : List (Nat × Instr) := [(53, .iload_n 3)]
theorem bX7_holderBy_53_ok : ∀ q ∈ bX7_holderBy_53, decode mX7_holderBy.2.1 q.1 = .ok (q.2, aLn q.2) := by decide +kernel
def bX7_holderBy_55 : List (Nat × Instr) := [(55, .iinc 3 1), (58, .goto (-56))]
theorem bX7_holderBy_55_ok : ∀ q ∈ bX7_holderBy_55, decode mX7_holderBy.2.1 q.1 = .ok (q.2, aLn q.2) := by decide +kernel
def bX7_holderBy_61 : List (Nat × Instr) := [(61, .bipush (-4))]
theorem bX7_holderBy_61_ok : ∀ q ∈ bX7_holderBy_61, decode mX7_holderBy.2.1 q.1 = .ok (q.2, aLn q.2) := by decide +kernel
theorem dX7_holderBy_9 : decode mX7_holderBy.2.1 9 = .ok (.if_icmp .ge 52, 3) := by decide +kernel
theorem dX7_holderBy_14 : decode mX7_holderBy.2.1 14 = .ok (.invokestatic 152, 3) := by decide +kernel
theorem dX7_holderBy_17 : decode mX7_holderBy.2.1 17 = .ok (.ifCond .ne 38, 3) := by decide +kernel
theorem dX7_holderBy_40 : decode mX7_holderBy.2.1 40 = .ok (.invokevirtual 188, 3) := by decide +kernel
theorem dX7_holderBy_47 : decode mX7_holderBy.2.1 47 = .ok (.invokevirtual 188, 3) := by decide +kernel
theorem dX7_holderBy_50 : decode mX7_holderBy.2.1 50 = .ok (.if_icmp .ne 5, 3) := by decide +kernel
theorem dX7_holderBy_54 : decode mX7_holderBy.2.1 54 = .ok (.ireturn, 1) := by decide +kernel
theorem dX7_holderBy_63 : decode mX7_holderBy.2.1 63 = .ok (.ireturn, 1) := by decide +kernel
def bX7_casts_0 : List (Nat × Instr) := [(0, .iload_n 1), (1, .iconst (-1))]
theorem bX7_casts_0_ok : ∀ q ∈ bX7_casts_0, decode mX7_casts.2.1 q.1 = .ok (q.2, aLn q.2) := by decide +kernel
def bX7_casts_5 : List (Nat × Instr) := [(5, .iload_n 1)]
theorem bX7_casts_5_ok : ∀ q ∈ bX7_casts_5, decode mX7_casts.2.1 q.1 = .ok (q.2, aLn q.2) := by decide +kernel
def bX7_casts_12 : List (Nat × Instr) := [(12, .iconst (-1))]
theorem bX7_casts_12_ok : ∀ q ∈ bX7_casts_12, decode mX7_casts.2.1 q.1 = .ok (q.2, aLn q.2) := by decide +kernel
def bX7_casts_14 : List (Nat × Instr) := [(14, .aload_n 0)]
theorem bX7_casts_14_ok : ∀ q ∈ bX7_casts_14, decode mX7_casts.2.1 q.1 = .ok (q.2, aLn q.2) := by decide +kernel
def bX7_casts_18 : List (Nat × Instr) := [(18, .iload_n 1)]
theorem bX7_casts_18_ok : ∀ q ∈ bX7_casts_18, decode mX7_casts.2.1 q.1 = .ok (q.2, aLn q.2) := by decide +kernel
def bX7_casts_22 : List (Nat × Instr) := [(22, .aload_n 0), (23, .getfield 28), (26, .iconst 0), (27, .iaload)]
theorem bX7_casts_22_ok : ∀ q ∈ bX7_casts_22, decode mX7_casts.2.1 q.1 = .ok (q.2, aLn q.2) := by decide +kernel
def bX7_casts_29 : List (Nat × Instr) := [(29, .iconst 0), (30, .istore_n 2), (31, .iconst 0), (32, .istore_n 3)]
theorem bX7_casts_29_ok : ∀ q ∈ bX7_casts_29, decode mX7_casts.2.1 q.1 = .ok (q.2, aLn q.2) := by decide +kernel
def bX7_casts_33 : List (Nat × Instr) := [(33, .iload_n 3), (34, .iload_n 1)]
theorem bX7_casts_33_ok : ∀ q ∈ bX7_casts_33, decode mX7_casts.2.1 q.1 = .ok (q.2, aLn q.2) := by decide +kernel
def bX7_casts_38 : List (Nat × Instr) := [(38, .aload_n 0), (39, .iload_n 3), (40, .iload_n 2)]
theorem bX7_casts_38_ok : ∀ q ∈ bX7_casts_38, decode mX7_casts.2.1 q.1 = .ok (q.2, aLn q.2) := by decide +kernel
def bX7_casts_44 : List (Nat × Instr) := [(44, .istore 4), (46, .iload_n 2), (47, .iload 4)]
theorem bX7_casts_44_ok : ∀ q ∈ bX7_casts_44, decode mX7_casts.2.1 q.1 = .ok (q.2, aLn q.2) := by decide +kernel
def bX7_casts_52 : List (Nat × Instr) := [(52, .iconst 0), (53, .goto 7)]
theorem bX7_casts_52_ok : ∀ q ∈ bX7_casts_52, decode mX7_casts.2.1 q.1 = .ok (q.2, aLn q.2) := by decide +kernel
def bX7_casts_56 : List (Nat × Instr) := [(56, .iconst 1), (57, .iload 4), (59, .ishl)]
theorem bX7_casts_56_ok : ∀ q ∈ bX7_casts_56, decode mX7_casts.2.1 q.1 = .ok (q.2, aLn q.2) := by decide +kernel
def bX7_casts_60 : List (Nat × Instr) := [(60, .ior), (61, .istore_n 2), (62, .iinc 3 1), (65, .goto (-32))]
theorem bX7_casts_60_ok : ∀ q ∈ bX7_casts_60, decode mX7_casts.2.1 q.1 = .ok (q.2, aLn q.2) := by decide +kernel
def bX7_casts_68 : List (Nat × Instr) := [(68, .aload_n 0), (69, .iload_n 1), (70, .iload_n 2)]
theorem bX7_casts_68_ok : ∀ q ∈ bX7_casts_68, decode mX7_casts.2.1 q.1 = .ok (q.2, aLn q.2) := by decide +kernel
theorem dX7_casts_2 : decode mX7_casts.2.1 2 = .ok (.if_icmp .eq 12, 3) := by decide +kernel
theorem dX7_casts_6 : decode mX7_casts.2.1 6 = .ok (.invokestatic 125, 3) := by decide +kernel
theorem dX7_casts_9 : decode mX7_casts.2.1 9 = .ok (.ifCond .ne 5, 3) := by decide +kernel
theorem dX7_casts_13 : decode mX7_casts.2.1 13 = .ok (.ireturn, 1) := by decide +kernel
theorem dX7_casts_15 : decode mX7_casts.2.1 15 = .ok (.invokevirtual 191, 3) := by decide +kernel
theorem dX7_casts_19 : decode mX7_casts.2.1 19 = .ok (.ifCond .ge 10, 3) := by decide +kernel
theorem dX7_casts_28 : decode mX7_casts.2.1 28 = .ok (.ireturn, 1) := by decide +kernel
theorem dX7_casts_35 : decode mX7_casts.2.1 35 = .ok (.if_icmp .ge 33, 3) := by decide +kernel
theorem dX7_casts_41 : decode mX7_casts.2.1 41 = .ok (.invokevirtual 194, 3) := by decide +kernel
theorem dX7_casts_49 : decode mX7_casts.2.1 49 = .ok (.ifCond .ge 7, 3) := by decide +kernel
theorem dX7_casts_71 : decode mX7_casts.2.1 71 = .ok (.invokevirtual 194, 3) := by decide +kernel
theorem dX7_casts_74 : decode mX7_casts.2.1 74 = .ok (.ireturn, 1) := by decide +kernel
def bX7_send_0 : List (Nat × Instr) := [(0, .iload_n 1)]
theorem bX7_send_0_ok : ∀ q ∈ bX7_send_0, decode mX7_send.2.1 q.1 = .ok (q.2, aLn q.2) := by decide +kernel
def bX7_send_7 : List (Nat × Instr) := [(7, .iconst (-1))]
theorem bX7_send_7_ok : ∀ q ∈ bX7_send_7, decode mX7_send.2.1 q.1 = .ok (q.2, aLn q.2) := by decide +kernel
def bX7_send_9 : List (Nat × Instr) := [(9, .aload_n 0), (10, .iload_n 1)]
theorem bX7_send_9_ok : ∀ q ∈ bX7_send_9, decode mX7_send.2.1 q.1 = .ok (q.2, aLn q.2) := by decide +kernel
def bX7_send_14 : List (Nat × Instr) := [(14, .aload_n 0), (15, .getfield 13), (18, .iconst 2), (19, .iaload), (20, .istore_n 2), (21, .bipush (-4)), (23, .istore_n 3), (24, .iconst 0), (25, .istore 4)]
theorem bX7_send_14_ok : ∀ q ∈ bX7_send_14, decode mX7_send.2.1 q.1 = .ok (q.2, aLn q.2) := by decide +kernel
def bX7_send_27 : List (Nat × Instr) := [(27, .iload 4), (29, .aload_n 0), (30, .getfield 9), (33, .iconst 0), (34, .iaload)]
theorem bX7_send_27_ok : ∀ q ∈ bX7_send_27, decode mX7_send.2.1 q.1 = .ok (q.2, aLn q.2) := by decide +kernel
def bX7_send_38 : List (Nat × Instr) := [(38, .aload_n 0), (39, .getfield 9), (42, .iload 4)]
theorem bX7_send_38_ok : ∀ q ∈ bX7_send_38, decode mX7_send.2.1 q.1 = .ok (q.2, aLn q.2) := by decide +kernel
def bX7_send_47 : List (Nat × Instr) := [(47, .istore 5), (49, .iload 5)]
theorem bX7_send_47_ok : ∀ q ∈ bX7_send_47, decode mX7_send.2.1 q.1 = .ok (q.2, aLn q.2) := by decide +kernel
def bX7_send_54 : List (Nat × Instr) := [(54, .goto 57)]
theorem bX7_send_54_ok : ∀ q ∈ bX7_send_54, decode mX7_send.2.1 q.1 = .ok (q.2, aLn q.2) := by decide +kernel
def bX7_send_57 : List (Nat × Instr) := [(57, .aload_n 0), (58, .getfield 9), (61, .aload_n 0), (62, .getfield 13)]
theorem bX7_send_57_ok : ∀ q ∈ bX7_send_57, decode mX7_send.2.1 q.1 = .ok (q.2, aLn q.2) := by decide +kernel
def bX7_send_68 : List (Nat × Instr) := [(68, .aload_n 0), (69, .getfield 13), (72, .bipush 8), (74, .iload 5), (76, .iadd), (77, .bipush (-4)), (79, .iastore), (80, .aload_n 0), (81, .getfield 13), (84, .iload_n 1)]
theorem bX7_send_68_ok : ∀ q ∈ bX7_send_68, decode mX7_send.2.1 q.1 = .ok (q.2, aLn q.2) := by decide +kernel
def bX7_send_88 : List (Nat × Instr) := [(88, .aload_n 0), (89, .getfield 13), (92, .iconst 2), (93, .iaload), (94, .iload_n 2)]
theorem bX7_send_88_ok : ∀ q ∈ bX7_send_88, decode mX7_send.2.1 q.1 = .ok (q.2, aLn q.2) := by decide +kernel
def bX7_send_98 : List (Nat × Instr) := [(98, .goto 13)]
theorem bX7_send_98_ok : ∀ q ∈ bX7_send_98, decode mX7_send.2.1 q.1 = .ok (q.2, aLn q.2) := by decide +kernel
def bX7_send_101 : List (Nat × Instr) := [(101, .iload 4), (103, .istore_n 3), (104, .aload_n 0), (105, .getfield 13), (108, .iconst 2), (109, .iaload), (110, .istore_n 2)]
theorem bX7_send_101_ok : ∀ q ∈ bX7_send_101, decode mX7_send.2.1 q.1 = .ok (q.2, aLn q.2) := by decide +kernel
def bX7_send_111 : List (Nat × Instr) := [(111, .iinc 4 1), (114, .goto (-87))]
theorem bX7_send_111_ok : ∀ q ∈ bX7_send_111, decode mX7_send.2.1 q.1 = .ok (q.2, aLn q.2) := by decide +kernel
def bX7_send_117 : List (Nat × Instr) := [(117, .iload_n 3)]
theorem bX7_send_117_ok : ∀ q ∈ bX7_send_117, decode mX7_send.2.1 q.1 = .ok (q.2, aLn q.2) := by decide +kernel
theorem dX7_send_1 : decode mX7_send.2.1 1 = .ok (.invokestatic 170, 3) := by decide +kernel
theorem dX7_send_4 : decode mX7_send.2.1 4 = .ok (.ifCond .ne 5, 3) := by decide +kernel
theorem dX7_send_8 : decode mX7_send.2.1 8 = .ok (.ireturn, 1) := by decide +kernel
theorem dX7_send_11 : decode mX7_send.2.1 11 = .ok (.invokevirtual 173, 3) := by decide +kernel
theorem dX7_send_35 : decode mX7_send.2.1 35 = .ok (.if_icmp .ge 82, 3) := by decide +kernel
theorem dX7_send_44 : decode mX7_send.2.1 44 = .ok (.invokestatic 64, 3) := by decide +kernel
theorem dX7_send_51 : decode mX7_send.2.1 51 = .ok (.ifCond .ge 6, 3) := by decide +kernel
theorem dX7_send_65 : decode mX7_send.2.1 65 = .ok (.invokestatic 145, 3) := by decide +kernel
theorem dX7_send_85 : decode mX7_send.2.1 85 = .ok (.invokestatic 135, 3) := by decide +kernel
theorem dX7_send_95 : decode mX7_send.2.1 95 = .ok (.if_icmp .lt 6, 3) := by decide +kernel
theorem dX7_send_118 : decode mX7_send.2.1 118 = .ok (.ireturn, 1) := by decide +kernel
def bX7_change_0 : List (Nat × Instr) := [(0, .iload_n 1)]
theorem bX7_change_0_ok : ∀ q ∈ bX7_change_0, decode mX7_change.2.1 q.1 = .ok (q.2, aLn q.2) := by decide +kernel
def bX7_change_7 : List (Nat × Instr) := [(7, .iconst (-1))]
theorem bX7_change_7_ok : ∀ q ∈ bX7_change_7, decode mX7_change.2.1 q.1 = .ok (q.2, aLn q.2) := by decide +kernel
def bX7_change_9 : List (Nat × Instr) := [(9, .aload_n 0), (10, .iload_n 1)]
theorem bX7_change_9_ok : ∀ q ∈ bX7_change_9, decode mX7_change.2.1 q.1 = .ok (q.2, aLn q.2) := by decide +kernel
def bX7_change_14 : List (Nat × Instr) := [(14, .aload_n 0), (15, .getfield 13), (18, .iconst 2), (19, .iaload), (20, .istore_n 2), (21, .bipush (-4)), (23, .istore_n 3), (24, .iconst 0), (25, .istore 4)]
theorem bX7_change_14_ok : ∀ q ∈ bX7_change_14, decode mX7_change.2.1 q.1 = .ok (q.2, aLn q.2) := by decide +kernel
def bX7_change_27 : List (Nat × Instr) := [(27, .iload 4), (29, .iconst 5)]
theorem bX7_change_27_ok : ∀ q ∈ bX7_change_27, decode mX7_change.2.1 q.1 = .ok (q.2, aLn q.2) := by decide +kernel
def bX7_change_33 : List (Nat × Instr) := [(33, .iload 4), (35, .iconst 1), (36, .iadd), (37, .istore 5)]
theorem bX7_change_33_ok : ∀ q ∈ bX7_change_33, decode mX7_change.2.1 q.1 = .ok (q.2, aLn q.2) := by decide +kernel
def bX7_change_39 : List (Nat × Instr) := [(39, .iload 5), (41, .iconst 5)]
theorem bX7_change_39_ok : ∀ q ∈ bX7_change_39, decode mX7_change.2.1 q.1 = .ok (q.2, aLn q.2) := by decide +kernel
def bX7_change_45 : List (Nat × Instr) := [(45, .aload_n 0), (46, .getfield 9), (49, .aload_n 0), (50, .getfield 13)]
theorem bX7_change_45_ok : ∀ q ∈ bX7_change_45, decode mX7_change.2.1 q.1 = .ok (q.2, aLn q.2) := by decide +kernel
def bX7_change_56 : List (Nat × Instr) := [(56, .aload_n 0), (57, .getfield 13), (60, .iconst 3), (61, .iload 4), (63, .iadd), (64, .aload_n 0), (65, .getfield 9), (68, .iconst 3), (69, .iload 5), (71, .iadd), (72, .iaload), (73, .iastore), (74, .aload_n 0), (75, .getfield 13), (78, .iconst 3), (79, .iload 5), (81, .iadd), (82, .aload_n 0), (83, .getfield 9), (86, .iconst 3), (87, .iload 4), (89, .iadd), (90, .iaload), (91, .iastore), (92, .aload_n 0), (93, .getfield 13), (96, .iload_n 1)]
theorem bX7_change_56_ok : ∀ q ∈ bX7_change_56, decode mX7_change.2.1 q.1 = .ok (q.2, aLn q.2) := by decide +kernel
def bX7_change_100 : List (Nat × Instr) := [(100, .aload_n 0), (101, .getfield 13), (104, .iconst 2), (105, .iaload), (106, .iload_n 2)]
theorem bX7_change_100_ok : ∀ q ∈ bX7_change_100, decode mX7_change.2.1 q.1 = .ok (q.2, aLn q.2) := by decide +kernel
def bX7_change_110 : List (Nat × Instr) := [(110, .goto 19)]
theorem bX7_change_110_ok : ∀ q ∈ bX7_change_110, decode mX7_change.2.1 q.1 = .ok (q.2, aLn q.2) := by decide +kernel
def bX7_change_113 : List (Nat × Instr) := [(113, .bipush 10), (115, .iload 4), (117, .imul), (118, .iload 5), (120, .iadd), (121, .istore_n 3), (122, .aload_n 0), (123, .getfield 13), (126, .iconst 2), (127, .iaload), (128, .istore_n 2)]
theorem bX7_change_113_ok : ∀ q ∈ bX7_change_113, decode mX7_change.2.1 q.1 = .ok (q.2, aLn q.2) := by decide +kernel
def bX7_change_129 : List (Nat × Instr) := [(129, .iinc 5 1), (132, .goto (-93))]
theorem bX7_change_129_ok : ∀ q ∈ bX7_change_129, decode mX7_change.2.1 q.1 = .ok (q.2, aLn q.2) := by decide +kernel
def bX7_change_135 : List (Nat × Instr) := [(135, .iinc 4 1), (138, .goto (-111))]
theorem bX7_change_135_ok : ∀ q ∈ bX7_change_135, decode mX7_change.2.1 q.1 = .ok (q.2, aLn q.2) := by decide +kernel
def bX7_change_141 : List (Nat × Instr) := [(141, .iload_n 3)]
theorem bX7_change_141_ok : ∀ q ∈ bX7_change_141, decode mX7_change.2.1 q.1 = .ok (q.2, aLn q.2) := by decide +kernel
theorem dX7_change_1 : decode mX7_change.2.1 1 = .ok (.invokestatic 170, 3) := by decide +kernel
theorem dX7_change_4 : decode mX7_change.2.1 4 = .ok (.ifCond .ne 5, 3) := by decide +kernel
theorem dX7_change_8 : decode mX7_change.2.1 8 = .ok (.ireturn, 1) := by decide +kernel
theorem dX7_change_11 : decode mX7_change.2.1 11 = .ok (.invokevirtual 173, 3) := by decide +kernel
theorem dX7_change_30 : decode mX7_change.2.1 30 = .ok (.if_icmp .ge 111, 3) := by decide +kernel
theorem dX7_change_42 : decode mX7_change.2.1 42 = .ok (.if_icmp .ge 93, 3) := by decide +kernel
theorem dX7_change_53 : decode mX7_change.2.1 53 = .ok (.invokestatic 145, 3) := by decide +kernel
theorem dX7_change_97 : decode mX7_change.2.1 97 = .ok (.invokestatic 135, 3) := by decide +kernel
theorem dX7_change_107 : decode mX7_change.2.1 107 = .ok (.if_icmp .lt 6, 3) := by decide +kernel
theorem dX7_change_142 : decode mX7_change.2.1 142 = .ok (.ireturn, 1) := by decide +kernel
def bX7_plainOnes_0 : List (Nat × Instr) := [(0, .iconst 0), (1, .istore_n 1), (2, .iconst 0), (3, .istore_n 2)]
theorem bX7_plainOnes_0_ok : ∀ q ∈ bX7_plainOnes_0, decode mX7_plainOnes.2.1 q.1 = .ok (q.2, aLn q.2) := by decide +kernel
def bX7_plainOnes_4 : List (Nat × Instr) := [(4, .iload_n 2), (5, .aload_n 0), (6, .getfield 9), (9, .iconst 0), (10, .iaload)]
theorem bX7_plainOnes_4_ok : ∀ q ∈ bX7_plainOnes_4, decode mX7_plainOnes.2.1 q.1 = .ok (q.2, aLn q.2) := by decide +kernel
def bX7_plainOnes_14 : List (Nat × Instr) := [(14, .iconst 0), (15, .istore_n 3), (16, .iconst 0), (17, .istore 4)]
theorem bX7_plainOnes_14_ok : ∀ q ∈ bX7_plainOnes_14, decode mX7_plainOnes.2.1 q.1 = .ok (q.2, aLn q.2) := by decide +kernel
def bX7_plainOnes_19 : List (Nat × Instr) := [(19, .iload 4), (21, .bipush 10)]
theorem bX7_plainOnes_19_ok : ∀ q ∈ bX7_plainOnes_19, decode mX7_plainOnes.2.1 q.1 = .ok (q.2, aLn q.2) := by decide +kernel
def bX7_plainOnes_26 : List (Nat × Instr) := [(26, .iload_n 3), (27, .aload_n 0), (28, .iload_n 2), (29, .iload 4)]
theorem bX7_plainOnes_26_ok : ∀ q ∈ bX7_plainOnes_26, decode mX7_plainOnes.2.1 q.1 = .ok (q.2, aLn q.2) := by decide +kernel
def bX7_plainOnes_34 : List (Nat × Instr) := [(34, .iadd), (35, .istore_n 3), (36, .iinc 4 1), (39, .goto (-20))]
theorem bX7_plainOnes_34_ok : ∀ q ∈ bX7_plainOnes_34, decode mX7_plainOnes.2.1 q.1 = .ok (q.2, aLn q.2) := by decide +kernel
def bX7_plainOnes_42 : List (Nat × Instr) := [(42, .iload_n 1), (43, .iload_n 3)]
theorem bX7_plainOnes_42_ok : ∀ q ∈ bX7_plainOnes_42, decode mX7_plainOnes.2.1 q.1 = .ok (q.2, aLn q.2) := by decide +kernel
def bX7_plainOnes_47 : List (Nat × Instr) := [(47, .iconst 1), (48, .iload_n 2), (49, .ishl), (50, .goto 4)]
theorem bX7_plainOnes_47_ok : ∀ q ∈ bX7_plainOnes_47, decode mX7_plainOnes.2.1 q.1 = .ok (q.2, aLn q.2) := by decide +kernel
def bX7_plainOnes_53 : List (Nat × Instr) := [(53, .iconst 0)]
theorem bX7_plainOnes_53_ok : ∀ q ∈ bX7_plainOnes_53, decode mX7_plainOnes.2.1 q.1 = .ok (q.2, aLn q.2) := by decide +kernel
def bX7_plainOnes_54 : List (Nat × Instr) := [(54, .ior), (55, .istore_n 1), (56, .iinc 2 1), (59, .goto (-55))]
theorem bX7_plainOnes_54_ok : ∀ q ∈ bX7_plainOnes_54, decode mX7_plainOnes.2.1 q.1 = .ok (q.2, aLn q.2) := by decide +kernel
def bX7_plainOnes_62 : List (Nat × Instr) := [(62, .iload_n 1)]
theorem bX7_plainOnes_62_ok : ∀ q ∈ bX7_plainOnes_62, decode mX7_plainOnes.2.1 q.1 = .ok (q.2, aLn q.2) := by decide +kernel
theorem dX7_plainOnes_11 : decode mX7_plainOnes.2.1 11 = .ok (.if_icmp .ge 51, 3) := by decide +kernel
theorem dX7_plainOnes_23 : decode mX7_plainOnes.2.1 23 = .ok (.if_icmp .ge 19, 3) := by decide +kernel
theorem dX7_plainOnes_31 : decode mX7_plainOnes.2.1 31 = .ok (.invokevirtual 161, 3) := by decide +kernel
theorem dX7_plainOnes_44 : decode mX7_plainOnes.2.1 44 = .ok (.ifCond .ne 9, 3) := by decide +kernel
theorem dX7_plainOnes_63 : decode mX7_plainOnes.2.1 63 = .ok (.ireturn, 1) := by decide +kernel
def bX7_likeOnes_0 : List (Nat × Instr) := [(0, .iconst 0), (1, .istore_n 1), (2, .iconst 0), (3, .istore_n 2)]
theorem bX7_likeOnes_0_ok : ∀ q ∈ bX7_likeOnes_0, decode mX7_likeOnes.2.1 q.1 = .ok (q.2, aLn q.2) := by decide +kernel
def bX7_likeOnes_4 : List (Nat × Instr) := [(4, .iload_n 2), (5, .iconst 5)]
theorem bX7_likeOnes_4_ok : ∀ q ∈ bX7_likeOnes_4, decode mX7_likeOnes.2.1 q.1 = .ok (q.2, aLn q.2) := by decide +kernel
def bX7_likeOnes_9 : List (Nat × Instr) := [(9, .iload_n 2), (10, .iconst 1), (11, .iadd), (12, .istore_n 3)]
theorem bX7_likeOnes_9_ok : ∀ q ∈ bX7_likeOnes_9, decode mX7_likeOnes.2.1 q.1 = .ok (q.2, aLn q.2) := by decide +kernel
def bX7_likeOnes_13 : List (Nat × Instr) := [(13, .iload_n 3), (14, .iconst 5)]
theorem bX7_likeOnes_13_ok : ∀ q ∈ bX7_likeOnes_13, decode mX7_likeOnes.2.1 q.1 = .ok (q.2, aLn q.2) := by decide +kernel
def bX7_likeOnes_18 : List (Nat × Instr) := [(18, .iload_n 1), (19, .aload_n 0), (20, .getfield 9), (23, .bipush 8), (25, .iload_n 2), (26, .iadd), (27, .iaload)]
theorem bX7_likeOnes_18_ok : ∀ q ∈ bX7_likeOnes_18, decode mX7_likeOnes.2.1 q.1 = .ok (q.2, aLn q.2) := by decide +kernel
def bX7_likeOnes_31 : List (Nat × Instr) := [(31, .aload_n 0), (32, .getfield 9), (35, .bipush 8), (37, .iload_n 3), (38, .iadd), (39, .iaload)]
theorem bX7_likeOnes_31_ok : ∀ q ∈ bX7_likeOnes_31, decode mX7_likeOnes.2.1 q.1 = .ok (q.2, aLn q.2) := by decide +kernel
def bX7_likeOnes_43 : List (Nat × Instr) := [(43, .aload_n 0), (44, .getfield 9), (47, .iconst 3), (48, .iload_n 2), (49, .iadd), (50, .iaload), (51, .aload_n 0), (52, .getfield 9), (55, .iconst 3), (56, .iload_n 3), (57, .iadd), (58, .iaload)]
theorem bX7_likeOnes_43_ok : ∀ q ∈ bX7_likeOnes_43, decode mX7_likeOnes.2.1 q.1 = .ok (q.2, aLn q.2) := by decide +kernel
def bX7_likeOnes_62 : List (Nat × Instr) := [(62, .iconst 1), (63, .goto 4)]
theorem bX7_likeOnes_62_ok : ∀ q ∈ bX7_likeOnes_62, decode mX7_likeOnes.2.1 q.1 = .ok (q.2, aLn q.2) := by decide +kernel
def bX7_likeOnes_66 : List (Nat × Instr) := [(66, .iconst 0)]
theorem bX7_likeOnes_66_ok : ∀ q ∈ bX7_likeOnes_66, decode mX7_likeOnes.2.1 q.1 = .ok (q.2, aLn q.2) := by decide +kernel
def bX7_likeOnes_67 : List (Nat × Instr) := [(67, .iadd), (68, .istore_n 1), (69, .iinc 3 1), (72, .goto (-59))]
theorem bX7_likeOnes_67_ok : ∀ q ∈ bX7_likeOnes_67, decode mX7_likeOnes.2.1 q.1 = .ok (q.2, aLn q.2) := by decide +kernel
def bX7_likeOnes_75 : List (Nat × Instr) := [(75, .iinc 2 1), (78, .goto (-74))]
theorem bX7_likeOnes_75_ok : ∀ q ∈ bX7_likeOnes_75, decode mX7_likeOnes.2.1 q.1 = .ok (q.2, aLn q.2) := by decide +kernel
def bX7_likeOnes_81 : List (Nat × Instr) := [(81, .iload_n 1)]
theorem bX7_likeOnes_81_ok : ∀ q ∈ bX7_likeOnes_81, decode mX7_likeOnes.2.1 q.1 = .ok (q.2, aLn q.2) := by decide +kernel
theorem dX7_likeOnes_6 : decode mX7_likeOnes.2.1 6 = .ok (.if_icmp .ge 75, 3) := by decide +kernel
theorem dX7_likeOnes_15 : decode mX7_likeOnes.2.1 15 = .ok (.if_icmp .ge 60, 3) := by decide +kernel
theorem dX7_likeOnes_28 : decode mX7_likeOnes.2.1 28 = .ok (.ifCond .lt 38, 3) := by decide +kernel
theorem dX7_likeOnes_40 : decode mX7_likeOnes.2.1 40 = .ok (.ifCond .lt 26, 3) := by decide +kernel
theorem dX7_likeOnes_59 : decode mX7_likeOnes.2.1 59 = .ok (.if_icmp .ne 7, 3) := by decide +kernel
theorem dX7_likeOnes_82 : decode mX7_likeOnes.2.1 82 = .ok (.ireturn, 1) := by decide +kernel
def bX7_left_0 : List (Nat × Instr) := [(0, .aload_n 0), (1, .getfield 9), (4, .iload_n 1)]
theorem bX7_left_0_ok : ∀ q ∈ bX7_left_0, decode mX7_left.2.1 q.1 = .ok (q.2, aLn q.2) := by decide +kernel
def bX7_left_8 : List (Nat × Instr) := [(8, .aload_n 0), (9, .getfield 9), (12, .iload_n 1), (13, .iconst 2)]
theorem bX7_left_8_ok : ∀ q ∈ bX7_left_8, decode mX7_left.2.1 q.1 = .ok (q.2, aLn q.2) := by decide +kernel
def bX7_left_17 : List (Nat × Instr) := [(17, .iaload), (18, .isub)]
theorem bX7_left_17_ok : ∀ q ∈ bX7_left_17, decode mX7_left.2.1 q.1 = .ok (q.2, aLn q.2) := by decide +kernel
theorem dX7_left_5 : decode mX7_left.2.1 5 = .ok (.invokestatic 85, 3) := by decide +kernel
theorem dX7_left_14 : decode mX7_left.2.1 14 = .ok (.invokestatic 57, 3) := by decide +kernel
theorem dX7_left_19 : decode mX7_left.2.1 19 = .ok (.ireturn, 1) := by decide +kernel
def bX7_closest_0 : List (Nat × Instr) := [(0, .bipush (-4)), (2, .istore_n 1), (3, .iconst 0), (4, .istore_n 2)]
theorem bX7_closest_0_ok : ∀ q ∈ bX7_closest_0, decode mX7_closest.2.1 q.1 = .ok (q.2, aLn q.2) := by decide +kernel
def bX7_closest_5 : List (Nat × Instr) := [(5, .iload_n 2), (6, .aload_n 0), (7, .getfield 9), (10, .iconst 0), (11, .iaload)]
theorem bX7_closest_5_ok : ∀ q ∈ bX7_closest_5, decode mX7_closest.2.1 q.1 = .ok (q.2, aLn q.2) := by decide +kernel
def bX7_closest_15 : List (Nat × Instr) := [(15, .aload_n 0), (16, .getfield 9), (19, .iload_n 2)]
theorem bX7_closest_15_ok : ∀ q ∈ bX7_closest_15, decode mX7_closest.2.1 q.1 = .ok (q.2, aLn q.2) := by decide +kernel
def bX7_closest_26 : List (Nat × Instr) := [(26, .iload_n 1)]
theorem bX7_closest_26_ok : ∀ q ∈ bX7_closest_26, decode mX7_closest.2.1 q.1 = .ok (q.2, aLn q.2) := by decide +kernel
def bX7_closest_30 : List (Nat × Instr) := [(30, .aload_n 0), (31, .iload_n 2)]
theorem bX7_closest_30_ok : ∀ q ∈ bX7_closest_30, decode mX7_closest.2.1 q.1 = .ok (q.2, aLn q.2) := by decide +kernel
def bX7_closest_35 : List (Nat × Instr) := [(35, .aload_n 0), (36, .iload_n 1)]
theorem bX7_closest_35_ok : ∀ q ∈ bX7_closest_35, decode mX7_closest.2.1 q.1 = .ok (q.2, aLn q.2) := by decide +kernel
def bX7_closest_43 : List (Nat × Instr) := [(43, .iload_n 2), (44, .istore_n 1)]
theorem bX7_closest_43_ok : ∀ q ∈ bX7_closest_43, decode mX7_closest.2.1 q.1 = .ok (q.2, aLn q.2) := by decide +kernel
def bX7_closest_45 : List (Nat × Instr) := [(45, .iinc 2 1), (48, .goto (-43))]
theorem bX7_closest_45_ok : ∀ q ∈ bX7_closest_45, decode mX7_closest.2.1 q.1 = .ok (q.2, aLn q.2) := by decide +kernel
def bX7_closest_51 : List (Nat × Instr) := [(51, .iload_n 1)]
theorem bX7_closest_51_ok : ∀ q ∈ bX7_closest_51, decode mX7_closest.2.1 q.1 = .ok (q.2, aLn q.2) := by decide +kernel
theorem dX7_closest_12 : decode mX7_closest.2.1 12 = .ok (.if_icmp .ge 39, 3) := by decide +kernel
theorem dX7_closest_20 : decode mX7_closest.2.1 20 = .ok (.invokestatic 64, 3) := by decide +kernel
theorem dX7_closest_23 : decode mX7_closest.2.1 23 = .ok (.ifCond .lt 22, 3) := by decide +kernel
theorem dX7_closest_27 : decode mX7_closest.2.1 27 = .ok (.ifCond .lt 16, 3) := by decide +kernel
theorem dX7_closest_32 : decode mX7_closest.2.1 32 = .ok (.invokevirtual 197, 3) := by decide +kernel
theorem dX7_closest_37 : decode mX7_closest.2.1 37 = .ok (.invokevirtual 197, 3) := by decide +kernel
theorem dX7_closest_40 : decode mX7_closest.2.1 40 = .ok (.if_icmp .ge 5, 3) := by decide +kernel
theorem dX7_closest_52 : decode mX7_closest.2.1 52 = .ok (.ireturn, 1) := by decide +kernel
def bX7_stable_0 : List (Nat × Instr) := [(0, .aload_n 0), (1, .getfield 9), (4, .aload_n 0), (5, .getfield 13)]
theorem bX7_stable_0_ok : ∀ q ∈ bX7_stable_0, decode mX7_stable.2.1 q.1 = .ok (q.2, aLn q.2) := by decide +kernel
def bX7_stable_11 : List (Nat × Instr) := [(11, .aload_n 0), (12, .getfield 13), (15, .iconst 2), (16, .iconst 0), (17, .iastore), (18, .iconst 0), (19, .istore_n 1), (20, .iconst 0), (21, .istore_n 2)]
theorem bX7_stable_11_ok : ∀ q ∈ bX7_stable_11, decode mX7_stable.2.1 q.1 = .ok (q.2, aLn q.2) := by decide +kernel
def bX7_stable_22 : List (Nat × Instr) := [(22, .iload_n 2), (23, .bipush 60)]
theorem bX7_stable_22_ok : ∀ q ∈ bX7_stable_22, decode mX7_stable.2.1 q.1 = .ok (q.2, aLn q.2) := by decide +kernel
def bX7_stable_28 : List (Nat × Instr) := [(28, .aload_n 0), (29, .getfield 13), (32, .iconst 2), (33, .iaload), (34, .istore_n 3), (35, .aload_n 0), (36, .getfield 13)]
theorem bX7_stable_28_ok : ∀ q ∈ bX7_stable_28, decode mX7_stable.2.1 q.1 = .ok (q.2, aLn q.2) := by decide +kernel
def bX7_stable_42 : List (Nat × Instr) := [(42, .aload_n 0), (43, .getfield 13), (46, .iconst 2), (47, .iaload), (48, .iload_n 3)]
theorem bX7_stable_42_ok : ∀ q ∈ bX7_stable_42, decode mX7_stable.2.1 q.1 = .ok (q.2, aLn q.2) := by decide +kernel
def bX7_stable_52 : List (Nat × Instr) := [(52, .iload_n 1), (53, .iconst 1), (54, .iadd), (55, .goto 4)]
theorem bX7_stable_52_ok : ∀ q ∈ bX7_stable_52, decode mX7_stable.2.1 q.1 = .ok (q.2, aLn q.2) := by decide +kernel
def bX7_stable_58 : List (Nat × Instr) := [(58, .iconst 0)]
theorem bX7_stable_58_ok : ∀ q ∈ bX7_stable_58, decode mX7_stable.2.1 q.1 = .ok (q.2, aLn q.2) := by decide +kernel
def bX7_stable_59 : List (Nat × Instr) := [(59, .istore_n 1), (60, .iload_n 1), (61, .bipush 10)]
theorem bX7_stable_59_ok : ∀ q ∈ bX7_stable_59, decode mX7_stable.2.1 q.1 = .ok (q.2, aLn q.2) := by decide +kernel
def bX7_stable_66 : List (Nat × Instr) := [(66, .iload_n 2), (67, .bipush 9), (69, .isub)]
theorem bX7_stable_66_ok : ∀ q ∈ bX7_stable_66, decode mX7_stable.2.1 q.1 = .ok (q.2, aLn q.2) := by decide +kernel
def bX7_stable_71 : List (Nat × Instr) := [(71, .iinc 2 1), (74, .goto (-52))]
theorem bX7_stable_71_ok : ∀ q ∈ bX7_stable_71, decode mX7_stable.2.1 q.1 = .ok (q.2, aLn q.2) := by decide +kernel
def bX7_stable_77 : List (Nat × Instr) := [(77, .bipush (-4))]
theorem bX7_stable_77_ok : ∀ q ∈ bX7_stable_77, decode mX7_stable.2.1 q.1 = .ok (q.2, aLn q.2) := by decide +kernel
theorem dX7_stable_8 : decode mX7_stable.2.1 8 = .ok (.invokestatic 145, 3) := by decide +kernel
theorem dX7_stable_25 : decode mX7_stable.2.1 25 = .ok (.if_icmp .ge 52, 3) := by decide +kernel
theorem dX7_stable_39 : decode mX7_stable.2.1 39 = .ok (.invokestatic 95, 3) := by decide +kernel
theorem dX7_stable_49 : decode mX7_stable.2.1 49 = .ok (.if_icmp .ne 9, 3) := by decide +kernel
theorem dX7_stable_63 : decode mX7_stable.2.1 63 = .ok (.if_icmp .ne 8, 3) := by decide +kernel
theorem dX7_stable_70 : decode mX7_stable.2.1 70 = .ok (.ireturn, 1) := by decide +kernel
theorem dX7_stable_79 : decode mX7_stable.2.1 79 = .ok (.ireturn, 1) := by decide +kernel
def bX7_over_0 : List (Nat × Instr) := [(0, .iload_n 1)]
theorem bX7_over_0_ok : ∀ q ∈ bX7_over_0, decode mX7_over.2.1 q.1 = .ok (q.2, aLn q.2) := by decide +kernel
def bX7_over_36 : List (Nat × Instr) := [(36, .aload_n 0), (37, .getfield 9), (40, .iconst 0), (41, .iaload), (42, .aload_n 0), (43, .getfield 9)]
theorem bX7_over_36_ok : ∀ q ∈ bX7_over_36, decode mX7_over.2.1 q.1 = .ok (q.2, aLn q.2) := by decide +kernel
def bX7_over_52 : List (Nat × Instr) := [(52, .isub)]
theorem bX7_over_52_ok : ∀ q ∈ bX7_over_52, decode mX7_over.2.1 q.1 = .ok (q.2, aLn q.2) := by decide +kernel
def bX7_over_54 : List (Nat × Instr) := [(54, .aload_n 0)]
theorem bX7_over_54_ok : ∀ q ∈ bX7_over_54, decode mX7_over.2.1 q.1 = .ok (q.2, aLn q.2) := by decide +kernel
def bX7_over_59 : List (Nat × Instr) := [(59, .aload_n 0)]
theorem bX7_over_59_ok : ∀ q ∈ bX7_over_59, decode mX7_over.2.1 q.1 = .ok (q.2, aLn q.2) := by decide +kernel
def bX7_over_64 : List (Nat × Instr) := [(64, .aload_n 0)]
theorem bX7_over_64_ok : ∀ q ∈ bX7_over_64, decode mX7_over.2.1 q.1 = .ok (q.2, aLn q.2) := by decide +kernel
def bX7_over_69 : List (Nat × Instr) := [(69, .aload_n 0)]
theorem bX7_over_69_ok : ∀ q ∈ bX7_over_69, decode mX7_over.2.1 q.1 = .ok (q.2, aLn q.2) := by decide +kernel
def bX7_over_74 : List (Nat × Instr) := [(74, .ldc 212)]
theorem bX7_over_74_ok : ∀ q ∈ bX7_over_74, decode mX7_over.2.1 q.1 = .ok (q.2, aLn q.2) := by decide +kernel
theorem dX7_over_1 : decode mX7_over.2.1 1 = .ok (.tableswitch 73 0 4 #[35, 53, 58, 63, 68], 35) := by decide +kernel
theorem dX7_over_46 : decode mX7_over.2.1 46 = .ok (.invokestatic 177, 3) := by decide +kernel
theorem dX7_over_49 : decode mX7_over.2.1 49 = .ok (.invokestatic 155, 3) := by decide +kernel
theorem dX7_over_53 : decode mX7_over.2.1 53 = .ok (.ireturn, 1) := by decide +kernel
theorem dX7_over_55 : decode mX7_over.2.1 55 = .ok (.invokevirtual 200, 3) := by decide +kernel
theorem dX7_over_58 : decode mX7_over.2.1 58 = .ok (.ireturn, 1) := by decide +kernel
theorem dX7_over_60 : decode mX7_over.2.1 60 = .ok (.invokevirtual 203, 3) := by decide +kernel
theorem dX7_over_63 : decode mX7_over.2.1 63 = .ok (.ireturn, 1) := by decide +kernel
theorem dX7_over_65 : decode mX7_over.2.1 65 = .ok (.invokevirtual 206, 3) := by decide +kernel
theorem dX7_over_68 : decode mX7_over.2.1 68 = .ok (.ireturn, 1) := by decide +kernel
theorem dX7_over_70 : decode mX7_over.2.1 70 = .ok (.invokevirtual 209, 3) := by decide +kernel
theorem dX7_over_73 : decode mX7_over.2.1 73 = .ok (.ireturn, 1) := by decide +kernel
theorem dX7_over_76 : decode mX7_over.2.1 76 = .ok (.ireturn, 1) := by decide +kernel
def bX7_leastOf_0 : List (Nat × Instr) := [(0, .iload_n 0)]
theorem bX7_leastOf_0_ok : ∀ q ∈ bX7_leastOf_0, decode mX7_leastOf.2.1 q.1 = .ok (q.2, aLn q.2) := by decide +kernel
def bX7_leastOf_4 : List (Nat × Instr) := [(4, .bipush (-128)), (6, .goto 16)]
theorem bX7_leastOf_4_ok : ∀ q ∈ bX7_leastOf_4, decode mX7_leastOf.2.1 q.1 = .ok (q.2, aLn q.2) := by decide +kernel
def bX7_leastOf_9 : List (Nat × Instr) := [(9, .iload_n 0), (10, .iconst 1)]
theorem bX7_leastOf_9_ok : ∀ q ∈ bX7_leastOf_9, decode mX7_leastOf.2.1 q.1 = .ok (q.2, aLn q.2) := by decide +kernel
def bX7_leastOf_14 : List (Nat × Instr) := [(14, .sipush (-32768)), (17, .goto 5)]
theorem bX7_leastOf_14_ok : ∀ q ∈ bX7_leastOf_14, decode mX7_leastOf.2.1 q.1 = .ok (q.2, aLn q.2) := by decide +kernel
def bX7_leastOf_20 : List (Nat × Instr) := [(20, .ldc 213)]
theorem bX7_leastOf_20_ok : ∀ q ∈ bX7_leastOf_20, decode mX7_leastOf.2.1 q.1 = .ok (q.2, aLn q.2) := by decide +kernel
theorem dX7_leastOf_1 : decode mX7_leastOf.2.1 1 = .ok (.ifCond .ne 8, 3) := by decide +kernel
theorem dX7_leastOf_11 : decode mX7_leastOf.2.1 11 = .ok (.if_icmp .ne 9, 3) := by decide +kernel
theorem dX7_leastOf_22 : decode mX7_leastOf.2.1 22 = .ok (.ireturn, 1) := by decide +kernel
def bX7_isTold_0 : List (Nat × Instr) := [(0, .aload_n 0), (1, .getfield 46), (4, .bipush 100), (6, .iload_n 1), (7, .imul), (8, .iload_n 2), (9, .iadd), (10, .iaload), (11, .aload_n 0), (12, .getfield 40), (15, .iload_n 1), (16, .iaload)]
theorem bX7_isTold_0_ok : ∀ q ∈ bX7_isTold_0, decode mX7_isTold.2.1 q.1 = .ok (q.2, aLn q.2) := by decide +kernel
def bX7_isTold_23 : List (Nat × Instr) := [(23, .aload_n 0), (24, .getfield 46), (27, .bipush 100), (29, .iload_n 1), (30, .imul), (31, .iload_n 2), (32, .iadd), (33, .iaload), (34, .iload_n 3)]
theorem bX7_isTold_23_ok : ∀ q ∈ bX7_isTold_23, decode mX7_isTold.2.1 q.1 = .ok (q.2, aLn q.2) := by decide +kernel
def bX7_isTold_38 : List (Nat × Instr) := [(38, .iconst 1), (39, .goto 4)]
theorem bX7_isTold_38_ok : ∀ q ∈ bX7_isTold_38, decode mX7_isTold.2.1 q.1 = .ok (q.2, aLn q.2) := by decide +kernel
def bX7_isTold_42 : List (Nat × Instr) := [(42, .iconst 0)]
theorem bX7_isTold_42_ok : ∀ q ∈ bX7_isTold_42, decode mX7_isTold.2.1 q.1 = .ok (q.2, aLn q.2) := by decide +kernel
theorem dX7_isTold_17 : decode mX7_isTold.2.1 17 = .ok (.invokestatic 214, 3) := by decide +kernel
theorem dX7_isTold_20 : decode mX7_isTold.2.1 20 = .ok (.if_icmp .eq 18, 3) := by decide +kernel
theorem dX7_isTold_35 : decode mX7_isTold.2.1 35 = .ok (.if_icmp .ne 7, 3) := by decide +kernel
theorem dX7_isTold_43 : decode mX7_isTold.2.1 43 = .ok (.ireturn, 1) := by decide +kernel
def bX7_whatIs_0 : List (Nat × Instr) := [(0, .aload_n 0), (1, .iload_n 2)]
theorem bX7_whatIs_0_ok : ∀ q ∈ bX7_whatIs_0, decode mX7_whatIs.2.1 q.1 = .ok (q.2, aLn q.2) := by decide +kernel
def bX7_whatIs_8 : List (Nat × Instr) := [(8, .iload_n 3), (9, .iconst 0), (10, .iconst 1)]
theorem bX7_whatIs_8_ok : ∀ q ∈ bX7_whatIs_8, decode mX7_whatIs.2.1 q.1 = .ok (q.2, aLn q.2) := by decide +kernel
def bX7_whatIs_17 : List (Nat × Instr) := [(17, .iconst (-1))]
theorem bX7_whatIs_17_ok : ∀ q ∈ bX7_whatIs_17, decode mX7_whatIs.2.1 q.1 = .ok (q.2, aLn q.2) := by decide +kernel
def bX7_whatIs_19 : List (Nat × Instr) := [(19, .aload_n 0), (20, .iload_n 1), (21, .iconst (-1))]
theorem bX7_whatIs_19_ok : ∀ q ∈ bX7_whatIs_19, decode mX7_whatIs.2.1 q.1 = .ok (q.2, aLn q.2) := by decide +kernel
def bX7_whatIs_25 : List (Nat × Instr) := [(25, .istore 4), (27, .iload 4)]
theorem bX7_whatIs_25_ok : ∀ q ∈ bX7_whatIs_25, decode mX7_whatIs.2.1 q.1 = .ok (q.2, aLn q.2) := by decide +kernel
def bX7_whatIs_32 : List (Nat × Instr) := [(32, .iload 4)]
theorem bX7_whatIs_32_ok : ∀ q ∈ bX7_whatIs_32, decode mX7_whatIs.2.1 q.1 = .ok (q.2, aLn q.2) := by decide +kernel
def bX7_whatIs_35 : List (Nat × Instr) := [(35, .iconst 0), (36, .istore 5), (38, .iconst 0), (39, .istore 6)]
theorem bX7_whatIs_35_ok : ∀ q ∈ bX7_whatIs_35, decode mX7_whatIs.2.1 q.1 = .ok (q.2, aLn q.2) := by decide +kernel
def bX7_whatIs_41 : List (Nat × Instr) := [(41, .iload 6), (43, .iload_n 3)]
theorem bX7_whatIs_41_ok : ∀ q ∈ bX7_whatIs_41, decode mX7_whatIs.2.1 q.1 = .ok (q.2, aLn q.2) := by decide +kernel
def bX7_whatIs_47 : List (Nat × Instr) := [(47, .bipush 8), (49, .goto 5)]
theorem bX7_whatIs_47_ok : ∀ q ∈ bX7_whatIs_47, decode mX7_whatIs.2.1 q.1 = .ok (q.2, aLn q.2) := by decide +kernel
def bX7_whatIs_52 : List (Nat × Instr) := [(52, .bipush 10)]
theorem bX7_whatIs_52_ok : ∀ q ∈ bX7_whatIs_52, decode mX7_whatIs.2.1 q.1 = .ok (q.2, aLn q.2) := by decide +kernel
def bX7_whatIs_57 : List (Nat × Instr) := [(57, .iconst 1), (58, .istore 7), (60, .aload_n 0), (61, .getfield 9), (64, .aload_n 0), (65, .getfield 13)]
theorem bX7_whatIs_57_ok : ∀ q ∈ bX7_whatIs_57, decode mX7_whatIs.2.1 q.1 = .ok (q.2, aLn q.2) := by decide +kernel
def bX7_whatIs_71 : List (Nat × Instr) := [(71, .aload_n 0), (72, .getfield 13), (75, .iload_n 2), (76, .iload_n 3)]
theorem bX7_whatIs_71_ok : ∀ q ∈ bX7_whatIs_71, decode mX7_whatIs.2.1 q.1 = .ok (q.2, aLn q.2) := by decide +kernel
def bX7_whatIs_80 : List (Nat × Instr) := [(80, .iload 6), (82, .iastore), (83, .iconst 0), (84, .istore 8)]
theorem bX7_whatIs_80_ok : ∀ q ∈ bX7_whatIs_80, decode mX7_whatIs.2.1 q.1 = .ok (q.2, aLn q.2) := by decide +kernel
def bX7_whatIs_86 : List (Nat × Instr) := [(86, .iload 8), (88, .aload_n 0), (89, .getfield 43), (92, .iload_n 1), (93, .iaload)]
theorem bX7_whatIs_86_ok : ∀ q ∈ bX7_whatIs_86, decode mX7_whatIs.2.1 q.1 = .ok (q.2, aLn q.2) := by decide +kernel
def bX7_whatIs_97 : List (Nat × Instr) := [(97, .iload 7), (99, .aload_n 0), (100, .iload_n 1), (101, .iload 8), (103, .aload_n 0), (104, .getfield 13), (107, .iload_n 2), (108, .iconst 2)]
theorem bX7_whatIs_97_ok : ∀ q ∈ bX7_whatIs_97, decode mX7_whatIs.2.1 q.1 = .ok (q.2, aLn q.2) := by decide +kernel
def bX7_whatIs_112 : List (Nat × Instr) := [(112, .iaload)]
theorem bX7_whatIs_112_ok : ∀ q ∈ bX7_whatIs_112, decode mX7_whatIs.2.1 q.1 = .ok (q.2, aLn q.2) := by decide +kernel
def bX7_whatIs_116 : List (Nat × Instr) := [(116, .iand), (117, .istore 7), (119, .aload_n 0), (120, .getfield 13)]
theorem bX7_whatIs_116_ok : ∀ q ∈ bX7_whatIs_116, decode mX7_whatIs.2.1 q.1 = .ok (q.2, aLn q.2) := by decide +kernel
def bX7_whatIs_126 : List (Nat × Instr) := [(126, .iinc 8 1), (129, .goto (-43))]
theorem bX7_whatIs_126_ok : ∀ q ∈ bX7_whatIs_126, decode mX7_whatIs.2.1 q.1 = .ok (q.2, aLn q.2) := by decide +kernel
def bX7_whatIs_132 : List (Nat × Instr) := [(132, .iload 5), (134, .iload 7)]
theorem bX7_whatIs_132_ok : ∀ q ∈ bX7_whatIs_132, decode mX7_whatIs.2.1 q.1 = .ok (q.2, aLn q.2) := by decide +kernel
def bX7_whatIs_139 : List (Nat × Instr) := [(139, .iconst 1), (140, .iload 6), (142, .ishl), (143, .goto 4)]
theorem bX7_whatIs_139_ok : ∀ q ∈ bX7_whatIs_139, decode mX7_whatIs.2.1 q.1 = .ok (q.2, aLn q.2) := by decide +kernel
def bX7_whatIs_146 : List (Nat × Instr) := [(146, .iconst 0)]
theorem bX7_whatIs_146_ok : ∀ q ∈ bX7_whatIs_146, decode mX7_whatIs.2.1 q.1 = .ok (q.2, aLn q.2) := by decide +kernel
def bX7_whatIs_147 : List (Nat × Instr) := [(147, .ior), (148, .istore 5), (150, .iinc 6 1), (153, .goto (-112))]
theorem bX7_whatIs_147_ok : ∀ q ∈ bX7_whatIs_147, decode mX7_whatIs.2.1 q.1 = .ok (q.2, aLn q.2) := by decide +kernel
def bX7_whatIs_156 : List (Nat × Instr) := [(156, .iload 5)]
theorem bX7_whatIs_156_ok : ∀ q ∈ bX7_whatIs_156, decode mX7_whatIs.2.1 q.1 = .ok (q.2, aLn q.2) := by decide +kernel
theorem dX7_whatIs_2 : decode mX7_whatIs.2.1 2 = .ok (.invokevirtual 128, 3) := by decide +kernel
theorem dX7_whatIs_5 : decode mX7_whatIs.2.1 5 = .ok (.ifCond .eq 12, 3) := by decide +kernel
theorem dX7_whatIs_11 : decode mX7_whatIs.2.1 11 = .ok (.invokestatic 49, 3) := by decide +kernel
theorem dX7_whatIs_14 : decode mX7_whatIs.2.1 14 = .ok (.ifCond .ne 5, 3) := by decide +kernel
theorem dX7_whatIs_18 : decode mX7_whatIs.2.1 18 = .ok (.ireturn, 1) := by decide +kernel
theorem dX7_whatIs_22 : decode mX7_whatIs.2.1 22 = .ok (.invokevirtual 138, 3) := by decide +kernel
theorem dX7_whatIs_29 : decode mX7_whatIs.2.1 29 = .ok (.ifCond .eq 6, 3) := by decide +kernel
theorem dX7_whatIs_34 : decode mX7_whatIs.2.1 34 = .ok (.ireturn, 1) := by decide +kernel
theorem dX7_whatIs_44 : decode mX7_whatIs.2.1 44 = .ok (.ifCond .ne 8, 3) := by decide +kernel
theorem dX7_whatIs_54 : decode mX7_whatIs.2.1 54 = .ok (.if_icmp .ge 102, 3) := by decide +kernel
theorem dX7_whatIs_68 : decode mX7_whatIs.2.1 68 = .ok (.invokestatic 145, 3) := by decide +kernel
theorem dX7_whatIs_77 : decode mX7_whatIs.2.1 77 = .ok (.invokestatic 57, 3) := by decide +kernel
theorem dX7_whatIs_94 : decode mX7_whatIs.2.1 94 = .ok (.if_icmp .ge 38, 3) := by decide +kernel
theorem dX7_whatIs_109 : decode mX7_whatIs.2.1 109 = .ok (.invokestatic 57, 3) := by decide +kernel
theorem dX7_whatIs_113 : decode mX7_whatIs.2.1 113 = .ok (.invokevirtual 217, 3) := by decide +kernel
theorem dX7_whatIs_123 : decode mX7_whatIs.2.1 123 = .ok (.invokestatic 95, 3) := by decide +kernel
theorem dX7_whatIs_136 : decode mX7_whatIs.2.1 136 = .ok (.ifCond .eq 10, 3) := by decide +kernel
theorem dX7_whatIs_158 : decode mX7_whatIs.2.1 158 = .ok (.ireturn, 1) := by decide +kernel
def bX7_whoHeld_0 : List (Nat × Instr) := [(0, .iload_n 2)]
theorem bX7_whoHeld_0_ok : ∀ q ∈ bX7_whoHeld_0, decode mX7_whoHeld.2.1 q.1 = .ok (q.2, aLn q.2) := by decide +kernel
def bX7_whoHeld_7 : List (Nat × Instr) := [(7, .iconst (-1))]
theorem bX7_whoHeld_7_ok : ∀ q ∈ bX7_whoHeld_7, decode mX7_whoHeld.2.1 q.1 = .ok (q.2, aLn q.2) := by decide +kernel
def bX7_whoHeld_9 : List (Nat × Instr) := [(9, .aload_n 0), (10, .iload_n 1), (11, .iconst (-1))]
theorem bX7_whoHeld_9_ok : ∀ q ∈ bX7_whoHeld_9, decode mX7_whoHeld.2.1 q.1 = .ok (q.2, aLn q.2) := by decide +kernel
def bX7_whoHeld_15 : List (Nat × Instr) := [(15, .istore_n 3), (16, .iload_n 3)]
theorem bX7_whoHeld_15_ok : ∀ q ∈ bX7_whoHeld_15, decode mX7_whoHeld.2.1 q.1 = .ok (q.2, aLn q.2) := by decide +kernel
def bX7_whoHeld_20 : List (Nat × Instr) := [(20, .iload_n 3)]
theorem bX7_whoHeld_20_ok : ∀ q ∈ bX7_whoHeld_20, decode mX7_whoHeld.2.1 q.1 = .ok (q.2, aLn q.2) := by decide +kernel
def bX7_whoHeld_22 : List (Nat × Instr) := [(22, .iconst 0), (23, .istore 4), (25, .iconst 0), (26, .istore 5)]
theorem bX7_whoHeld_22_ok : ∀ q ∈ bX7_whoHeld_22, decode mX7_whoHeld.2.1 q.1 = .ok (q.2, aLn q.2) := by decide +kernel
def bX7_whoHeld_28 : List (Nat × Instr) := [(28, .iload 5), (30, .aload_n 0), (31, .getfield 9), (34, .iconst 0), (35, .iaload)]
theorem bX7_whoHeld_28_ok : ∀ q ∈ bX7_whoHeld_28, decode mX7_whoHeld.2.1 q.1 = .ok (q.2, aLn q.2) := by decide +kernel
def bX7_whoHeld_39 : List (Nat × Instr) := [(39, .iconst 1), (40, .istore 6), (42, .aload_n 0), (43, .getfield 9), (46, .aload_n 0), (47, .getfield 13)]
theorem bX7_whoHeld_39_ok : ∀ q ∈ bX7_whoHeld_39, decode mX7_whoHeld.2.1 q.1 = .ok (q.2, aLn q.2) := by decide +kernel
def bX7_whoHeld_53 : List (Nat × Instr) := [(53, .aload_n 0), (54, .getfield 13), (57, .iload_n 2), (58, .iload 5)]
theorem bX7_whoHeld_53_ok : ∀ q ∈ bX7_whoHeld_53, decode mX7_whoHeld.2.1 q.1 = .ok (q.2, aLn q.2) := by decide +kernel
def bX7_whoHeld_63 : List (Nat × Instr) := [(63, .iconst 0), (64, .istore 7)]
theorem bX7_whoHeld_63_ok : ∀ q ∈ bX7_whoHeld_63, decode mX7_whoHeld.2.1 q.1 = .ok (q.2, aLn q.2) := by decide +kernel
def bX7_whoHeld_66 : List (Nat × Instr) := [(66, .iload 7), (68, .aload_n 0), (69, .getfield 43), (72, .iload_n 1), (73, .iaload)]
theorem bX7_whoHeld_66_ok : ∀ q ∈ bX7_whoHeld_66, decode mX7_whoHeld.2.1 q.1 = .ok (q.2, aLn q.2) := by decide +kernel
def bX7_whoHeld_77 : List (Nat × Instr) := [(77, .iload 6), (79, .aload_n 0), (80, .iload_n 1), (81, .iload 7), (83, .aload_n 0), (84, .getfield 13), (87, .bipush 8), (89, .iload_n 2), (90, .iadd), (91, .iaload)]
theorem bX7_whoHeld_77_ok : ∀ q ∈ bX7_whoHeld_77, decode mX7_whoHeld.2.1 q.1 = .ok (q.2, aLn q.2) := by decide +kernel
def bX7_whoHeld_95 : List (Nat × Instr) := [(95, .iconst 0), (96, .goto 4)]
theorem bX7_whoHeld_95_ok : ∀ q ∈ bX7_whoHeld_95, decode mX7_whoHeld.2.1 q.1 = .ok (q.2, aLn q.2) := by decide +kernel
def bX7_whoHeld_99 : List (Nat × Instr) := [(99, .iconst 1)]
theorem bX7_whoHeld_99_ok : ∀ q ∈ bX7_whoHeld_99, decode mX7_whoHeld.2.1 q.1 = .ok (q.2, aLn q.2) := by decide +kernel
def bX7_whoHeld_103 : List (Nat × Instr) := [(103, .iand), (104, .istore 6), (106, .aload_n 0), (107, .getfield 13)]
theorem bX7_whoHeld_103_ok : ∀ q ∈ bX7_whoHeld_103, decode mX7_whoHeld.2.1 q.1 = .ok (q.2, aLn q.2) := by decide +kernel
def bX7_whoHeld_113 : List (Nat × Instr) := [(113, .iinc 7 1), (116, .goto (-50))]
theorem bX7_whoHeld_113_ok : ∀ q ∈ bX7_whoHeld_113, decode mX7_whoHeld.2.1 q.1 = .ok (q.2, aLn q.2) := by decide +kernel
def bX7_whoHeld_119 : List (Nat × Instr) := [(119, .iload 4), (121, .iload 6)]
theorem bX7_whoHeld_119_ok : ∀ q ∈ bX7_whoHeld_119, decode mX7_whoHeld.2.1 q.1 = .ok (q.2, aLn q.2) := by decide +kernel
def bX7_whoHeld_126 : List (Nat × Instr) := [(126, .iconst 1), (127, .iload 5), (129, .ishl), (130, .goto 4)]
theorem bX7_whoHeld_126_ok : ∀ q ∈ bX7_whoHeld_126, decode mX7_whoHeld.2.1 q.1 = .ok (q.2, aLn q.2) := by decide +kernel
def bX7_whoHeld_133 : List (Nat × Instr) := [(133, .iconst 0)]
theorem bX7_whoHeld_133_ok : ∀ q ∈ bX7_whoHeld_133, decode mX7_whoHeld.2.1 q.1 = .ok (q.2, aLn q.2) := by decide +kernel
def bX7_whoHeld_134 : List (Nat × Instr) := [(134, .ior), (135, .istore 4), (137, .iinc 5 1), (140, .goto (-112))]
theorem bX7_whoHeld_134_ok : ∀ q ∈ bX7_whoHeld_134, decode mX7_whoHeld.2.1 q.1 = .ok (q.2, aLn q.2) := by decide +kernel
def bX7_whoHeld_143 : List (Nat × Instr) := [(143, .iload 4)]
theorem bX7_whoHeld_143_ok : ∀ q ∈ bX7_whoHeld_143, decode mX7_whoHeld.2.1 q.1 = .ok (q.2, aLn q.2) := by decide +kernel
theorem dX7_whoHeld_1 : decode mX7_whoHeld.2.1 1 = .ok (.invokestatic 125, 3) := by decide +kernel
theorem dX7_whoHeld_4 : decode mX7_whoHeld.2.1 4 = .ok (.ifCond .ne 5, 3) := by decide +kernel
theorem dX7_whoHeld_8 : decode mX7_whoHeld.2.1 8 = .ok (.ireturn, 1) := by decide +kernel
theorem dX7_whoHeld_12 : decode mX7_whoHeld.2.1 12 = .ok (.invokevirtual 138, 3) := by decide +kernel
theorem dX7_whoHeld_17 : decode mX7_whoHeld.2.1 17 = .ok (.ifCond .eq 5, 3) := by decide +kernel
theorem dX7_whoHeld_21 : decode mX7_whoHeld.2.1 21 = .ok (.ireturn, 1) := by decide +kernel
theorem dX7_whoHeld_36 : decode mX7_whoHeld.2.1 36 = .ok (.if_icmp .ge 107, 3) := by decide +kernel
theorem dX7_whoHeld_50 : decode mX7_whoHeld.2.1 50 = .ok (.invokestatic 145, 3) := by decide +kernel
theorem dX7_whoHeld_60 : decode mX7_whoHeld.2.1 60 = .ok (.invokestatic 131, 3) := by decide +kernel
theorem dX7_whoHeld_74 : decode mX7_whoHeld.2.1 74 = .ok (.if_icmp .ge 45, 3) := by decide +kernel
theorem dX7_whoHeld_92 : decode mX7_whoHeld.2.1 92 = .ok (.ifCond .ge 7, 3) := by decide +kernel
theorem dX7_whoHeld_100 : decode mX7_whoHeld.2.1 100 = .ok (.invokevirtual 217, 3) := by decide +kernel
theorem dX7_whoHeld_110 : decode mX7_whoHeld.2.1 110 = .ok (.invokestatic 95, 3) := by decide +kernel
theorem dX7_whoHeld_123 : decode mX7_whoHeld.2.1 123 = .ok (.ifCond .eq 10, 3) := by decide +kernel
theorem dX7_whoHeld_145 : decode mX7_whoHeld.2.1 145 = .ok (.ireturn, 1) := by decide +kernel
def bX7_hasBy_0 : List (Nat × Instr) := [(0, .aload_n 0), (1, .getfield 9), (4, .aload_n 0), (5, .getfield 13)]
theorem bX7_hasBy_0_ok : ∀ q ∈ bX7_hasBy_0, decode mX7_hasBy.2.1 q.1 = .ok (q.2, aLn q.2) := by decide +kernel
def bX7_hasBy_11 : List (Nat × Instr) := [(11, .iload_n 3)]
theorem bX7_hasBy_11_ok : ∀ q ∈ bX7_hasBy_11, decode mX7_hasBy.2.1 q.1 = .ok (q.2, aLn q.2) := by decide +kernel
def bX7_hasBy_15 : List (Nat × Instr) := [(15, .aload_n 0), (16, .getfield 13), (19, .bipush 8), (21, .aload_n 0), (22, .getfield 13), (25, .iload_n 2)]
theorem bX7_hasBy_15_ok : ∀ q ∈ bX7_hasBy_15, decode mX7_hasBy.2.1 q.1 = .ok (q.2, aLn q.2) := by decide +kernel
def bX7_hasBy_29 : List (Nat × Instr) := [(29, .iadd), (30, .bipush (-4)), (32, .iastore)]
theorem bX7_hasBy_29_ok : ∀ q ∈ bX7_hasBy_29, decode mX7_hasBy.2.1 q.1 = .ok (q.2, aLn q.2) := by decide +kernel
def bX7_hasBy_33 : List (Nat × Instr) := [(33, .iload 5)]
theorem bX7_hasBy_33_ok : ∀ q ∈ bX7_hasBy_33, decode mX7_hasBy.2.1 q.1 = .ok (q.2, aLn q.2) := by decide +kernel
def bX7_hasBy_38 : List (Nat × Instr) := [(38, .aload_n 0), (39, .getfield 13), (42, .bipush 8), (44, .aload_n 0), (45, .getfield 13), (48, .iload 4)]
theorem bX7_hasBy_38_ok : ∀ q ∈ bX7_hasBy_38, decode mX7_hasBy.2.1 q.1 = .ok (q.2, aLn q.2) := by decide +kernel
def bX7_hasBy_53 : List (Nat × Instr) := [(53, .iadd), (54, .bipush (-4)), (56, .iastore)]
theorem bX7_hasBy_53_ok : ∀ q ∈ bX7_hasBy_53, decode mX7_hasBy.2.1 q.1 = .ok (q.2, aLn q.2) := by decide +kernel
def bX7_hasBy_57 : List (Nat × Instr) := [(57, .iconst 0), (58, .istore 7), (60, .iconst 0), (61, .istore 8)]
theorem bX7_hasBy_57_ok : ∀ q ∈ bX7_hasBy_57, decode mX7_hasBy.2.1 q.1 = .ok (q.2, aLn q.2) := by decide +kernel
def bX7_hasBy_63 : List (Nat × Instr) := [(63, .iload 8), (65, .iload 6)]
theorem bX7_hasBy_63_ok : ∀ q ∈ bX7_hasBy_63, decode mX7_hasBy.2.1 q.1 = .ok (q.2, aLn q.2) := by decide +kernel
def bX7_hasBy_70 : List (Nat × Instr) := [(70, .aload_n 0), (71, .getfield 13)]
theorem bX7_hasBy_70_ok : ∀ q ∈ bX7_hasBy_70, decode mX7_hasBy.2.1 q.1 = .ok (q.2, aLn q.2) := by decide +kernel
def bX7_hasBy_77 : List (Nat × Instr) := [(77, .iload 7), (79, .aload_n 0), (80, .getfield 13), (83, .iload_n 1)]
theorem bX7_hasBy_77_ok : ∀ q ∈ bX7_hasBy_77, decode mX7_hasBy.2.1 q.1 = .ok (q.2, aLn q.2) := by decide +kernel
def bX7_hasBy_90 : List (Nat × Instr) := [(90, .iconst 0), (91, .goto 4)]
theorem bX7_hasBy_90_ok : ∀ q ∈ bX7_hasBy_90, decode mX7_hasBy.2.1 q.1 = .ok (q.2, aLn q.2) := by decide +kernel
def bX7_hasBy_94 : List (Nat × Instr) := [(94, .iconst 1)]
theorem bX7_hasBy_94_ok : ∀ q ∈ bX7_hasBy_94, decode mX7_hasBy.2.1 q.1 = .ok (q.2, aLn q.2) := by decide +kernel
def bX7_hasBy_95 : List (Nat × Instr) := [(95, .iadd), (96, .istore 7), (98, .iinc 8 1), (101, .goto (-38))]
theorem bX7_hasBy_95_ok : ∀ q ∈ bX7_hasBy_95, decode mX7_hasBy.2.1 q.1 = .ok (q.2, aLn q.2) := by decide +kernel
def bX7_hasBy_104 : List (Nat × Instr) := [(104, .iload 7), (106, .aload_n 0), (107, .getfield 13), (110, .iload_n 1), (111, .iconst 2)]
theorem bX7_hasBy_104_ok : ∀ q ∈ bX7_hasBy_104, decode mX7_hasBy.2.1 q.1 = .ok (q.2, aLn q.2) := by decide +kernel
def bX7_hasBy_115 : List (Nat × Instr) := [(115, .iaload), (116, .bipush 10), (118, .idiv), (119, .isub)]
theorem bX7_hasBy_115_ok : ∀ q ∈ bX7_hasBy_115, decode mX7_hasBy.2.1 q.1 = .ok (q.2, aLn q.2) := by decide +kernel
theorem dX7_hasBy_8 : decode mX7_hasBy.2.1 8 = .ok (.invokestatic 145, 3) := by decide +kernel
theorem dX7_hasBy_12 : decode mX7_hasBy.2.1 12 = .ok (.ifCond .ne 21, 3) := by decide +kernel
theorem dX7_hasBy_26 : decode mX7_hasBy.2.1 26 = .ok (.invokestatic 64, 3) := by decide +kernel
theorem dX7_hasBy_35 : decode mX7_hasBy.2.1 35 = .ok (.ifCond .ne 22, 3) := by decide +kernel
theorem dX7_hasBy_50 : decode mX7_hasBy.2.1 50 = .ok (.invokestatic 64, 3) := by decide +kernel
theorem dX7_hasBy_67 : decode mX7_hasBy.2.1 67 = .ok (.if_icmp .ge 37, 3) := by decide +kernel
theorem dX7_hasBy_74 : decode mX7_hasBy.2.1 74 = .ok (.invokestatic 95, 3) := by decide +kernel
theorem dX7_hasBy_84 : decode mX7_hasBy.2.1 84 = .ok (.invokestatic 64, 3) := by decide +kernel
theorem dX7_hasBy_87 : decode mX7_hasBy.2.1 87 = .ok (.ifCond .ge 7, 3) := by decide +kernel
theorem dX7_hasBy_112 : decode mX7_hasBy.2.1 112 = .ok (.invokestatic 57, 3) := by decide +kernel
theorem dX7_hasBy_120 : decode mX7_hasBy.2.1 120 = .ok (.ireturn, 1) := by decide +kernel
def bX7_two_0 : List (Nat × Instr) := [(0, .aload_n 0), (1, .iload_n 1)]
theorem bX7_two_0_ok : ∀ q ∈ bX7_two_0, decode mX7_two.2.1 q.1 = .ok (q.2, aLn q.2) := by decide +kernel
def bX7_two_8 : List (Nat × Instr) := [(8, .aload_n 0), (9, .iload_n 2)]
theorem bX7_two_8_ok : ∀ q ∈ bX7_two_8, decode mX7_two.2.1 q.1 = .ok (q.2, aLn q.2) := by decide +kernel
def bX7_two_16 : List (Nat × Instr) := [(16, .iload_n 1), (17, .iload_n 2)]
theorem bX7_two_16_ok : ∀ q ∈ bX7_two_16, decode mX7_two.2.1 q.1 = .ok (q.2, aLn q.2) := by decide +kernel
def bX7_two_21 : List (Nat × Instr) := [(21, .iload_n 3), (22, .iconst 1), (23, .bipush 30)]
theorem bX7_two_21_ok : ∀ q ∈ bX7_two_21, decode mX7_two.2.1 q.1 = .ok (q.2, aLn q.2) := by decide +kernel
def bX7_two_31 : List (Nat × Instr) := [(31, .iconst (-1))]
theorem bX7_two_31_ok : ∀ q ∈ bX7_two_31, decode mX7_two.2.1 q.1 = .ok (q.2, aLn q.2) := by decide +kernel
def bX7_two_33 : List (Nat × Instr) := [(33, .aload_n 0), (34, .getfield 9), (37, .iload_n 1)]
theorem bX7_two_33_ok : ∀ q ∈ bX7_two_33, decode mX7_two.2.1 q.1 = .ok (q.2, aLn q.2) := by decide +kernel
def bX7_two_44 : List (Nat × Instr) := [(44, .aload_n 0), (45, .getfield 9), (48, .iload_n 2)]
theorem bX7_two_44_ok : ∀ q ∈ bX7_two_44, decode mX7_two.2.1 q.1 = .ok (q.2, aLn q.2) := by decide +kernel
def bX7_two_55 : List (Nat × Instr) := [(55, .bipush (-3))]
theorem bX7_two_55_ok : ∀ q ∈ bX7_two_55, decode mX7_two.2.1 q.1 = .ok (q.2, aLn q.2) := by decide +kernel
def bX7_two_58 : List (Nat × Instr) := [(58, .iconst 0), (59, .istore 4)]
theorem bX7_two_58_ok : ∀ q ∈ bX7_two_58, decode mX7_two.2.1 q.1 = .ok (q.2, aLn q.2) := by decide +kernel
def bX7_two_61 : List (Nat × Instr) := [(61, .iload 4), (63, .iconst 4)]
theorem bX7_two_61_ok : ∀ q ∈ bX7_two_61, decode mX7_two.2.1 q.1 = .ok (q.2, aLn q.2) := by decide +kernel
def bX7_two_67 : List (Nat × Instr) := [(67, .iload 4), (69, .iconst 2), (70, .idiv), (71, .istore 5), (73, .iload 4), (75, .iconst 2), (76, .irem), (77, .istore 6), (79, .aload_n 0), (80, .iload_n 1), (81, .iload_n 1), (82, .iconst 1), (83, .iload 5), (85, .isub), (86, .iload_n 2), (87, .iload 6), (89, .iload_n 3)]
theorem bX7_two_67_ok : ∀ q ∈ bX7_two_67, decode mX7_two.2.1 q.1 = .ok (q.2, aLn q.2) := by decide +kernel
def bX7_two_93 : List (Nat × Instr) := [(93, .aload_n 0), (94, .iload_n 1), (95, .iload_n 1), (96, .iload 5), (98, .iload_n 2), (99, .iload 6), (101, .iload_n 3)]
theorem bX7_two_93_ok : ∀ q ∈ bX7_two_93, decode mX7_two.2.1 q.1 = .ok (q.2, aLn q.2) := by decide +kernel
def bX7_two_108 : List (Nat × Instr) := [(108, .aload_n 0), (109, .iload_n 2), (110, .iload_n 1), (111, .iload 5), (113, .iload_n 2), (114, .iconst 1), (115, .iload 6), (117, .isub), (118, .iload_n 3)]
theorem bX7_two_108_ok : ∀ q ∈ bX7_two_108, decode mX7_two.2.1 q.1 = .ok (q.2, aLn q.2) := by decide +kernel
def bX7_two_122 : List (Nat × Instr) := [(122, .aload_n 0), (123, .iload_n 2), (124, .iload_n 1), (125, .iload 5), (127, .iload_n 2), (128, .iload 6), (130, .iload_n 3)]
theorem bX7_two_122_ok : ∀ q ∈ bX7_two_122, decode mX7_two.2.1 q.1 = .ok (q.2, aLn q.2) := by decide +kernel
def bX7_two_137 : List (Nat × Instr) := [(137, .bipush 10), (139, .iload 5), (141, .imul), (142, .iload 6), (144, .iadd)]
theorem bX7_two_137_ok : ∀ q ∈ bX7_two_137, decode mX7_two.2.1 q.1 = .ok (q.2, aLn q.2) := by decide +kernel
def bX7_two_146 : List (Nat × Instr) := [(146, .iinc 4 1), (149, .goto (-88))]
theorem bX7_two_146_ok : ∀ q ∈ bX7_two_146, decode mX7_two.2.1 q.1 = .ok (q.2, aLn q.2) := by decide +kernel
def bX7_two_152 : List (Nat × Instr) := [(152, .bipush (-4))]
theorem bX7_two_152_ok : ∀ q ∈ bX7_two_152, decode mX7_two.2.1 q.1 = .ok (q.2, aLn q.2) := by decide +kernel
theorem dX7_two_2 : decode mX7_two.2.1 2 = .ok (.invokevirtual 128, 3) := by decide +kernel
theorem dX7_two_5 : decode mX7_two.2.1 5 = .ok (.ifCond .eq 26, 3) := by decide +kernel
theorem dX7_two_10 : decode mX7_two.2.1 10 = .ok (.invokevirtual 128, 3) := by decide +kernel
theorem dX7_two_13 : decode mX7_two.2.1 13 = .ok (.ifCond .eq 18, 3) := by decide +kernel
theorem dX7_two_18 : decode mX7_two.2.1 18 = .ok (.if_icmp .eq 13, 3) := by decide +kernel
theorem dX7_two_25 : decode mX7_two.2.1 25 = .ok (.invokestatic 49, 3) := by decide +kernel
theorem dX7_two_28 : decode mX7_two.2.1 28 = .ok (.ifCond .ne 5, 3) := by decide +kernel
theorem dX7_two_32 : decode mX7_two.2.1 32 = .ok (.ireturn, 1) := by decide +kernel
theorem dX7_two_38 : decode mX7_two.2.1 38 = .ok (.invokestatic 64, 3) := by decide +kernel
theorem dX7_two_41 : decode mX7_two.2.1 41 = .ok (.ifCond .lt 14, 3) := by decide +kernel
theorem dX7_two_49 : decode mX7_two.2.1 49 = .ok (.invokestatic 64, 3) := by decide +kernel
theorem dX7_two_52 : decode mX7_two.2.1 52 = .ok (.ifCond .ge 6, 3) := by decide +kernel
theorem dX7_two_57 : decode mX7_two.2.1 57 = .ok (.ireturn, 1) := by decide +kernel
theorem dX7_two_64 : decode mX7_two.2.1 64 = .ok (.if_icmp .ge 88, 3) := by decide +kernel
theorem dX7_two_90 : decode mX7_two.2.1 90 = .ok (.invokevirtual 220, 3) := by decide +kernel
theorem dX7_two_102 : decode mX7_two.2.1 102 = .ok (.invokevirtual 220, 3) := by decide +kernel
theorem dX7_two_105 : decode mX7_two.2.1 105 = .ok (.if_icmp .gt 41, 3) := by decide +kernel
theorem dX7_two_119 : decode mX7_two.2.1 119 = .ok (.invokevirtual 220, 3) := by decide +kernel
theorem dX7_two_131 : decode mX7_two.2.1 131 = .ok (.invokevirtual 220, 3) := by decide +kernel
theorem dX7_two_134 : decode mX7_two.2.1 134 = .ok (.if_icmp .gt 12, 3) := by decide +kernel
theorem dX7_two_145 : decode mX7_two.2.1 145 = .ok (.ireturn, 1) := by decide +kernel
theorem dX7_two_154 : decode mX7_two.2.1 154 = .ok (.ireturn, 1) := by decide +kernel
def bX7_gcd_0 : List (Nat × Instr) := [(0, .lload_n 0), (1, .lstore 4), (3, .lload_n 2), (4, .lstore 6)]
theorem bX7_gcd_0_ok : ∀ q ∈ bX7_gcd_0, decode mX7_gcd.2.1 q.1 = .ok (q.2, aLn q.2) := by decide +kernel
def bX7_gcd_6 : List (Nat × Instr) := [(6, .lload 6), (8, .lconst 0), (9, .lcmp)]
theorem bX7_gcd_6_ok : ∀ q ∈ bX7_gcd_6, decode mX7_gcd.2.1 q.1 = .ok (q.2, aLn q.2) := by decide +kernel
def bX7_gcd_13 : List (Nat × Instr) := [(13, .lload 4), (15, .lload 6), (17, .lrem), (18, .lstore 8), (20, .lload 6), (22, .lstore 4), (24, .lload 8), (26, .lstore 6), (28, .goto (-22))]
theorem bX7_gcd_13_ok : ∀ q ∈ bX7_gcd_13, decode mX7_gcd.2.1 q.1 = .ok (q.2, aLn q.2) := by decide +kernel
def bX7_gcd_31 : List (Nat × Instr) := [(31, .lload 4)]
theorem bX7_gcd_31_ok : ∀ q ∈ bX7_gcd_31, decode mX7_gcd.2.1 q.1 = .ok (q.2, aLn q.2) := by decide +kernel
theorem dX7_gcd_10 : decode mX7_gcd.2.1 10 = .ok (.ifCond .eq 21, 3) := by decide +kernel
theorem dX7_gcd_33 : decode mX7_gcd.2.1 33 = .ok (.lreturn, 1) := by decide +kernel
def bX7_partOf_0 : List (Nat × Instr) := [(0, .lload_n 0), (1, .lconst 0), (2, .lcmp)]
theorem bX7_partOf_0_ok : ∀ q ∈ bX7_partOf_0, decode mX7_partOf.2.1 q.1 = .ok (q.2, aLn q.2) := by decide +kernel
def bX7_partOf_6 : List (Nat × Instr) := [(6, .iload 4), (8, .i2l)]
theorem bX7_partOf_6_ok : ∀ q ∈ bX7_partOf_6, decode mX7_partOf.2.1 q.1 = .ok (q.2, aLn q.2) := by decide +kernel
def bX7_partOf_10 : List (Nat × Instr) := [(10, .iload 4)]
theorem bX7_partOf_10_ok : ∀ q ∈ bX7_partOf_10, decode mX7_partOf.2.1 q.1 = .ok (q.2, aLn q.2) := by decide +kernel
def bX7_partOf_15 : List (Nat × Instr) := [(15, .lload_n 0), (16, .goto 4)]
theorem bX7_partOf_15_ok : ∀ q ∈ bX7_partOf_15, decode mX7_partOf.2.1 q.1 = .ok (q.2, aLn q.2) := by decide +kernel
def bX7_partOf_19 : List (Nat × Instr) := [(19, .lload_n 2)]
theorem bX7_partOf_19_ok : ∀ q ∈ bX7_partOf_19, decode mX7_partOf.2.1 q.1 = .ok (q.2, aLn q.2) := by decide +kernel
def bX7_partOf_20 : List (Nat × Instr) := [(20, .lload_n 0), (21, .lload_n 2)]
theorem bX7_partOf_20_ok : ∀ q ∈ bX7_partOf_20, decode mX7_partOf.2.1 q.1 = .ok (q.2, aLn q.2) := by decide +kernel
def bX7_partOf_25 : List (Nat × Instr) := [(25, .ldiv)]
theorem bX7_partOf_25_ok : ∀ q ∈ bX7_partOf_25, decode mX7_partOf.2.1 q.1 = .ok (q.2, aLn q.2) := by decide +kernel
theorem dX7_partOf_3 : decode mX7_partOf.2.1 3 = .ok (.ifCond .ne 7, 3) := by decide +kernel
theorem dX7_partOf_9 : decode mX7_partOf.2.1 9 = .ok (.lreturn, 1) := by decide +kernel
theorem dX7_partOf_12 : decode mX7_partOf.2.1 12 = .ok (.ifCond .ne 7, 3) := by decide +kernel
theorem dX7_partOf_22 : decode mX7_partOf.2.1 22 = .ok (.invokestatic 224, 3) := by decide +kernel
theorem dX7_partOf_26 : decode mX7_partOf.2.1 26 = .ok (.lreturn, 1) := by decide +kernel
def bX7_scandal_0 : List (Nat × Instr) := [(0, .iconst 0), (1, .istore_n 1)]
theorem bX7_scandal_0_ok : ∀ q ∈ bX7_scandal_0, decode mX7_scandal.2.1 q.1 = .ok (q.2, aLn q.2) := by decide +kernel
def bX7_scandal_2 : List (Nat × Instr) := [(2, .iload_n 1), (3, .aload_n 0), (4, .iconst 0), (5, .iaload)]
theorem bX7_scandal_2_ok : ∀ q ∈ bX7_scandal_2, decode mX7_scandal.2.1 q.1 = .ok (q.2, aLn q.2) := by decide +kernel
def bX7_scandal_9 : List (Nat × Instr) := [(9, .aload_n 0), (10, .iload_n 1)]
theorem bX7_scandal_9_ok : ∀ q ∈ bX7_scandal_9, decode mX7_scandal.2.1 q.1 = .ok (q.2, aLn q.2) := by decide +kernel
def bX7_scandal_17 : List (Nat × Instr) := [(17, .aload_n 0), (18, .iload_n 1), (19, .iconst 2)]
theorem bX7_scandal_17_ok : ∀ q ∈ bX7_scandal_17, decode mX7_scandal.2.1 q.1 = .ok (q.2, aLn q.2) := by decide +kernel
def bX7_scandal_23 : List (Nat × Instr) := [(23, .bipush 99), (25, .aload_n 0), (26, .iload_n 1), (27, .iconst 2)]
theorem bX7_scandal_23_ok : ∀ q ∈ bX7_scandal_23, decode mX7_scandal.2.1 q.1 = .ok (q.2, aLn q.2) := by decide +kernel
def bX7_scandal_31 : List (Nat × Instr) := [(31, .iaload), (32, .iconst 5), (33, .iadd)]
theorem bX7_scandal_31_ok : ∀ q ∈ bX7_scandal_31, decode mX7_scandal.2.1 q.1 = .ok (q.2, aLn q.2) := by decide +kernel
def bX7_scandal_37 : List (Nat × Instr) := [(37, .iastore)]
theorem bX7_scandal_37_ok : ∀ q ∈ bX7_scandal_37, decode mX7_scandal.2.1 q.1 = .ok (q.2, aLn q.2) := by decide +kernel
def bX7_scandal_38 : List (Nat × Instr) := [(38, .iinc 1 1), (41, .goto (-39))]
theorem bX7_scandal_38_ok : ∀ q ∈ bX7_scandal_38, decode mX7_scandal.2.1 q.1 = .ok (q.2, aLn q.2) := by decide +kernel
theorem dX7_scandal_6 : decode mX7_scandal.2.1 6 = .ok (.if_icmp .ge 38, 3) := by decide +kernel
theorem dX7_scandal_11 : decode mX7_scandal.2.1 11 = .ok (.invokestatic 64, 3) := by decide +kernel
theorem dX7_scandal_14 : decode mX7_scandal.2.1 14 = .ok (.ifCond .lt 24, 3) := by decide +kernel
theorem dX7_scandal_20 : decode mX7_scandal.2.1 20 = .ok (.invokestatic 57, 3) := by decide +kernel
theorem dX7_scandal_28 : decode mX7_scandal.2.1 28 = .ok (.invokestatic 57, 3) := by decide +kernel
theorem dX7_scandal_34 : decode mX7_scandal.2.1 34 = .ok (.invokestatic 82, 3) := by decide +kernel
theorem dX7_scandal_44 : decode mX7_scandal.2.1 44 = .ok (.return_, 1) := by decide +kernel
def bX7_scandals_0 : List (Nat × Instr) := [(0, .iload_n 1)]
theorem bX7_scandals_0_ok : ∀ q ∈ bX7_scandals_0, decode mX7_scandals.2.1 q.1 = .ok (q.2, aLn q.2) := by decide +kernel
def bX7_scandals_7 : List (Nat × Instr) := [(7, .iload_n 2), (8, .iconst 0), (9, .bipush 7)]
theorem bX7_scandals_7_ok : ∀ q ∈ bX7_scandals_7, decode mX7_scandals.2.1 q.1 = .ok (q.2, aLn q.2) := by decide +kernel
def bX7_scandals_17 : List (Nat × Instr) := [(17, .iload_n 3), (18, .iconst 2), (19, .bipush 20)]
theorem bX7_scandals_17_ok : ∀ q ∈ bX7_scandals_17, decode mX7_scandals.2.1 q.1 = .ok (q.2, aLn q.2) := by decide +kernel
def bX7_scandals_27 : List (Nat × Instr) := [(27, .iload 4), (29, .iconst 0), (30, .iconst 1)]
theorem bX7_scandals_27_ok : ∀ q ∈ bX7_scandals_27, decode mX7_scandals.2.1 q.1 = .ok (q.2, aLn q.2) := by decide +kernel
def bX7_scandals_37 : List (Nat × Instr) := [(37, .ldc2_w 228)]
theorem bX7_scandals_37_ok : ∀ q ∈ bX7_scandals_37, decode mX7_scandals.2.1 q.1 = .ok (q.2, aLn q.2) := by decide +kernel
def bX7_scandals_41 : List (Nat × Instr) := [(41, .lconst 0), (42, .lstore 5), (44, .lconst 1), (45, .lstore 7), (47, .iconst 0), (48, .istore 9)]
theorem bX7_scandals_41_ok : ∀ q ∈ bX7_scandals_41, decode mX7_scandals.2.1 q.1 = .ok (q.2, aLn q.2) := by decide +kernel
def bX7_scandals_50 : List (Nat × Instr) := [(50, .iload 9), (52, .iload_n 2)]
theorem bX7_scandals_50_ok : ∀ q ∈ bX7_scandals_50, decode mX7_scandals.2.1 q.1 = .ok (q.2, aLn q.2) := by decide +kernel
def bX7_scandals_56 : List (Nat × Instr) := [(56, .lload 7), (58, .iload_n 3), (59, .i2l), (60, .lmul), (61, .lstore 7), (63, .iinc 9 1), (66, .goto (-16))]
theorem bX7_scandals_56_ok : ∀ q ∈ bX7_scandals_56, decode mX7_scandals.2.1 q.1 = .ok (q.2, aLn q.2) := by decide +kernel
def bX7_scandals_69 : List (Nat × Instr) := [(69, .iconst 0), (70, .istore 9)]
theorem bX7_scandals_69_ok : ∀ q ∈ bX7_scandals_69, decode mX7_scandals.2.1 q.1 = .ok (q.2, aLn q.2) := by decide +kernel
def bX7_scandals_72 : List (Nat × Instr) := [(72, .iload 9), (74, .iconst 1), (75, .iload_n 2), (76, .ishl)]
theorem bX7_scandals_72_ok : ∀ q ∈ bX7_scandals_72, decode mX7_scandals.2.1 q.1 = .ok (q.2, aLn q.2) := by decide +kernel
def bX7_scandals_80 : List (Nat × Instr) := [(80, .lconst 1), (81, .lstore 10), (83, .aload_n 0), (84, .getfield 9), (87, .aload_n 0), (88, .getfield 13)]
theorem bX7_scandals_80_ok : ∀ q ∈ bX7_scandals_80, decode mX7_scandals.2.1 q.1 = .ok (q.2, aLn q.2) := by decide +kernel
def bX7_scandals_94 : List (Nat × Instr) := [(94, .iconst 0), (95, .istore 12)]
theorem bX7_scandals_94_ok : ∀ q ∈ bX7_scandals_94, decode mX7_scandals.2.1 q.1 = .ok (q.2, aLn q.2) := by decide +kernel
def bX7_scandals_97 : List (Nat × Instr) := [(97, .iload 12), (99, .iload_n 2)]
theorem bX7_scandals_97_ok : ∀ q ∈ bX7_scandals_97, decode mX7_scandals.2.1 q.1 = .ok (q.2, aLn q.2) := by decide +kernel
def bX7_scandals_103 : List (Nat × Instr) := [(103, .lload 10), (105, .iload 9), (107, .iload 12)]
theorem bX7_scandals_103_ok : ∀ q ∈ bX7_scandals_103, decode mX7_scandals.2.1 q.1 = .ok (q.2, aLn q.2) := by decide +kernel
def bX7_scandals_115 : List (Nat × Instr) := [(115, .lconst 1), (116, .goto 7)]
theorem bX7_scandals_115_ok : ∀ q ∈ bX7_scandals_115, decode mX7_scandals.2.1 q.1 = .ok (q.2, aLn q.2) := by decide +kernel
def bX7_scandals_119 : List (Nat × Instr) := [(119, .iload_n 3), (120, .iconst 1), (121, .isub), (122, .i2l)]
theorem bX7_scandals_119_ok : ∀ q ∈ bX7_scandals_119, decode mX7_scandals.2.1 q.1 = .ok (q.2, aLn q.2) := by decide +kernel
def bX7_scandals_123 : List (Nat × Instr) := [(123, .lmul), (124, .lstore 10), (126, .iload 9), (128, .iload 12)]
theorem bX7_scandals_123_ok : ∀ q ∈ bX7_scandals_123, decode mX7_scandals.2.1 q.1 = .ok (q.2, aLn q.2) := by decide +kernel
def bX7_scandals_136 : List (Nat × Instr) := [(136, .aload_n 0), (137, .getfield 13)]
theorem bX7_scandals_136_ok : ∀ q ∈ bX7_scandals_136, decode mX7_scandals.2.1 q.1 = .ok (q.2, aLn q.2) := by decide +kernel
def bX7_scandals_143 : List (Nat × Instr) := [(143, .aload_n 0), (144, .getfield 13)]
theorem bX7_scandals_143_ok : ∀ q ∈ bX7_scandals_143, decode mX7_scandals.2.1 q.1 = .ok (q.2, aLn q.2) := by decide +kernel
def bX7_scandals_150 : List (Nat × Instr) := [(150, .iinc 12 1), (153, .goto (-56))]
theorem bX7_scandals_150_ok : ∀ q ∈ bX7_scandals_150, decode mX7_scandals.2.1 q.1 = .ok (q.2, aLn q.2) := by decide +kernel
def bX7_scandals_156 : List (Nat × Instr) := [(156, .lload 5), (158, .aload_n 0), (159, .getfield 13), (162, .bipush 8), (164, .iload_n 1), (165, .iadd), (166, .iaload)]
theorem bX7_scandals_156_ok : ∀ q ∈ bX7_scandals_156, decode mX7_scandals.2.1 q.1 = .ok (q.2, aLn q.2) := by decide +kernel
def bX7_scandals_170 : List (Nat × Instr) := [(170, .lload 10), (172, .goto 4)]
theorem bX7_scandals_170_ok : ∀ q ∈ bX7_scandals_170, decode mX7_scandals.2.1 q.1 = .ok (q.2, aLn q.2) := by decide +kernel
def bX7_scandals_175 : List (Nat × Instr) := [(175, .lconst 0)]
theorem bX7_scandals_175_ok : ∀ q ∈ bX7_scandals_175, decode mX7_scandals.2.1 q.1 = .ok (q.2, aLn q.2) := by decide +kernel
def bX7_scandals_176 : List (Nat × Instr) := [(176, .ladd), (177, .lstore 5), (179, .iinc 9 1), (182, .goto (-110))]
theorem bX7_scandals_176_ok : ∀ q ∈ bX7_scandals_176, decode mX7_scandals.2.1 q.1 = .ok (q.2, aLn q.2) := by decide +kernel
def bX7_scandals_185 : List (Nat × Instr) := [(185, .lload 5), (187, .lload 7), (189, .iload 4)]
theorem bX7_scandals_185_ok : ∀ q ∈ bX7_scandals_185, decode mX7_scandals.2.1 q.1 = .ok (q.2, aLn q.2) := by decide +kernel
theorem dX7_scandals_1 : decode mX7_scandals.2.1 1 = .ok (.invokestatic 125, 3) := by decide +kernel
theorem dX7_scandals_4 : decode mX7_scandals.2.1 4 = .ok (.ifCond .eq 33, 3) := by decide +kernel
theorem dX7_scandals_11 : decode mX7_scandals.2.1 11 = .ok (.invokestatic 49, 3) := by decide +kernel
theorem dX7_scandals_14 : decode mX7_scandals.2.1 14 = .ok (.ifCond .eq 23, 3) := by decide +kernel
theorem dX7_scandals_21 : decode mX7_scandals.2.1 21 = .ok (.invokestatic 49, 3) := by decide +kernel
theorem dX7_scandals_24 : decode mX7_scandals.2.1 24 = .ok (.ifCond .eq 13, 3) := by decide +kernel
theorem dX7_scandals_31 : decode mX7_scandals.2.1 31 = .ok (.invokestatic 49, 3) := by decide +kernel
theorem dX7_scandals_34 : decode mX7_scandals.2.1 34 = .ok (.ifCond .ne 7, 3) := by decide +kernel
theorem dX7_scandals_40 : decode mX7_scandals.2.1 40 = .ok (.lreturn, 1) := by decide +kernel
theorem dX7_scandals_53 : decode mX7_scandals.2.1 53 = .ok (.if_icmp .ge 16, 3) := by decide +kernel
theorem dX7_scandals_77 : decode mX7_scandals.2.1 77 = .ok (.if_icmp .ge 108, 3) := by decide +kernel
theorem dX7_scandals_91 : decode mX7_scandals.2.1 91 = .ok (.invokestatic 145, 3) := by decide +kernel
theorem dX7_scandals_100 : decode mX7_scandals.2.1 100 = .ok (.if_icmp .ge 56, 3) := by decide +kernel
theorem dX7_scandals_109 : decode mX7_scandals.2.1 109 = .ok (.invokestatic 152, 3) := by decide +kernel
theorem dX7_scandals_112 : decode mX7_scandals.2.1 112 = .ok (.ifCond .eq 7, 3) := by decide +kernel
theorem dX7_scandals_130 : decode mX7_scandals.2.1 130 = .ok (.invokestatic 152, 3) := by decide +kernel
theorem dX7_scandals_133 : decode mX7_scandals.2.1 133 = .ok (.ifCond .eq 10, 3) := by decide +kernel
theorem dX7_scandals_140 : decode mX7_scandals.2.1 140 = .ok (.invokestatic 230, 3) := by decide +kernel
theorem dX7_scandals_147 : decode mX7_scandals.2.1 147 = .ok (.invokestatic 95, 3) := by decide +kernel
theorem dX7_scandals_167 : decode mX7_scandals.2.1 167 = .ok (.ifCond .lt 8, 3) := by decide +kernel
theorem dX7_scandals_191 : decode mX7_scandals.2.1 191 = .ok (.invokestatic 233, 3) := by decide +kernel
theorem dX7_scandals_194 : decode mX7_scandals.2.1 194 = .ok (.lreturn, 1) := by decide +kernel
def bX7_mean_0 : List (Nat × Instr) := [(0, .iload_n 1), (1, .iconst 0), (2, .iconst 1)]
theorem bX7_mean_0_ok : ∀ q ∈ bX7_mean_0, decode mX7_mean.2.1 q.1 = .ok (q.2, aLn q.2) := by decide +kernel
def bX7_mean_9 : List (Nat × Instr) := [(9, .aload_n 0), (10, .getfield 9)]
theorem bX7_mean_9_ok : ∀ q ∈ bX7_mean_9, decode mX7_mean.2.1 q.1 = .ok (q.2, aLn q.2) := by decide +kernel
def bX7_mean_16 : List (Nat × Instr) := [(16, .i2l), (17, .aload_n 0), (18, .getfield 9), (21, .iconst 0), (22, .iaload), (23, .i2l), (24, .iload_n 1)]
theorem bX7_mean_16_ok : ∀ q ∈ bX7_mean_16, decode mX7_mean.2.1 q.1 = .ok (q.2, aLn q.2) := by decide +kernel
def bX7_mean_28 : List (Nat × Instr) := [(28, .goto 6)]
theorem bX7_mean_28_ok : ∀ q ∈ bX7_mean_28, decode mX7_mean.2.1 q.1 = .ok (q.2, aLn q.2) := by decide +kernel
def bX7_mean_31 : List (Nat × Instr) := [(31, .ldc2_w 228)]
theorem bX7_mean_31_ok : ∀ q ∈ bX7_mean_31, decode mX7_mean.2.1 q.1 = .ok (q.2, aLn q.2) := by decide +kernel
theorem dX7_mean_3 : decode mX7_mean.2.1 3 = .ok (.invokestatic 49, 3) := by decide +kernel
theorem dX7_mean_6 : decode mX7_mean.2.1 6 = .ok (.ifCond .eq 25, 3) := by decide +kernel
theorem dX7_mean_13 : decode mX7_mean.2.1 13 = .ok (.invokestatic 237, 3) := by decide +kernel
theorem dX7_mean_25 : decode mX7_mean.2.1 25 = .ok (.invokestatic 233, 3) := by decide +kernel
theorem dX7_mean_34 : decode mX7_mean.2.1 34 = .ok (.lreturn, 1) := by decide +kernel
def bX7_forged_0 : List (Nat × Instr) := [(0, .aload_n 0), (1, .iload_n 1), (2, .iconst (-1))]
theorem bX7_forged_0_ok : ∀ q ∈ bX7_forged_0, decode mX7_forged.2.1 q.1 = .ok (q.2, aLn q.2) := by decide +kernel
def bX7_forged_6 : List (Nat × Instr) := [(6, .istore_n 2), (7, .iload_n 2)]
theorem bX7_forged_6_ok : ∀ q ∈ bX7_forged_6, decode mX7_forged.2.1 q.1 = .ok (q.2, aLn q.2) := by decide +kernel
def bX7_forged_11 : List (Nat × Instr) := [(11, .iload_n 2)]
theorem bX7_forged_11_ok : ∀ q ∈ bX7_forged_11, decode mX7_forged.2.1 q.1 = .ok (q.2, aLn q.2) := by decide +kernel
def bX7_forged_13 : List (Nat × Instr) := [(13, .iconst 0), (14, .istore_n 3)]
theorem bX7_forged_13_ok : ∀ q ∈ bX7_forged_13, decode mX7_forged.2.1 q.1 = .ok (q.2, aLn q.2) := by decide +kernel
def bX7_forged_15 : List (Nat × Instr) := [(15, .iload_n 3), (16, .aload_n 0), (17, .getfield 43), (20, .iload_n 1), (21, .iaload)]
theorem bX7_forged_15_ok : ∀ q ∈ bX7_forged_15, decode mX7_forged.2.1 q.1 = .ok (q.2, aLn q.2) := by decide +kernel
def bX7_forged_25 : List (Nat × Instr) := [(25, .iload_n 3)]
theorem bX7_forged_25_ok : ∀ q ∈ bX7_forged_25, decode mX7_forged.2.1 q.1 = .ok (q.2, aLn q.2) := by decide +kernel
def bX7_forged_32 : List (Nat × Instr) := [(32, .aload_n 0), (33, .getfield 46), (36, .bipush 100), (38, .iload_n 1), (39, .imul), (40, .iload_n 3), (41, .iadd), (42, .iaload), (43, .aload_n 0), (44, .getfield 9), (47, .bipush 8), (49, .iload_n 3), (50, .iadd), (51, .iaload)]
theorem bX7_forged_32_ok : ∀ q ∈ bX7_forged_32, decode mX7_forged.2.1 q.1 = .ok (q.2, aLn q.2) := by decide +kernel
def bX7_forged_55 : List (Nat × Instr) := [(55, .bipush 9), (57, .goto 12)]
theorem bX7_forged_55_ok : ∀ q ∈ bX7_forged_55, decode mX7_forged.2.1 q.1 = .ok (q.2, aLn q.2) := by decide +kernel
def bX7_forged_60 : List (Nat × Instr) := [(60, .aload_n 0), (61, .getfield 9), (64, .bipush 8), (66, .iload_n 3), (67, .iadd), (68, .iaload)]
theorem bX7_forged_60_ok : ∀ q ∈ bX7_forged_60, decode mX7_forged.2.1 q.1 = .ok (q.2, aLn q.2) := by decide +kernel
def bX7_forged_72 : List (Nat × Instr) := [(72, .iload_n 3)]
theorem bX7_forged_72_ok : ∀ q ∈ bX7_forged_72, decode mX7_forged.2.1 q.1 = .ok (q.2, aLn q.2) := by decide +kernel
def bX7_forged_74 : List (Nat × Instr) := [(74, .iinc 3 1), (77, .goto (-62))]
theorem bX7_forged_74_ok : ∀ q ∈ bX7_forged_74, decode mX7_forged.2.1 q.1 = .ok (q.2, aLn q.2) := by decide +kernel
def bX7_forged_80 : List (Nat × Instr) := [(80, .bipush (-4))]
theorem bX7_forged_80_ok : ∀ q ∈ bX7_forged_80, decode mX7_forged.2.1 q.1 = .ok (q.2, aLn q.2) := by decide +kernel
theorem dX7_forged_3 : decode mX7_forged.2.1 3 = .ok (.invokevirtual 138, 3) := by decide +kernel
theorem dX7_forged_8 : decode mX7_forged.2.1 8 = .ok (.ifCond .eq 5, 3) := by decide +kernel
theorem dX7_forged_12 : decode mX7_forged.2.1 12 = .ok (.ireturn, 1) := by decide +kernel
theorem dX7_forged_22 : decode mX7_forged.2.1 22 = .ok (.if_icmp .ge 58, 3) := by decide +kernel
theorem dX7_forged_26 : decode mX7_forged.2.1 26 = .ok (.invokestatic 125, 3) := by decide +kernel
theorem dX7_forged_29 : decode mX7_forged.2.1 29 = .ok (.ifCond .eq 43, 3) := by decide +kernel
theorem dX7_forged_52 : decode mX7_forged.2.1 52 = .ok (.ifCond .ge 8, 3) := by decide +kernel
theorem dX7_forged_69 : decode mX7_forged.2.1 69 = .ok (.if_icmp .eq 5, 3) := by decide +kernel
theorem dX7_forged_73 : decode mX7_forged.2.1 73 = .ok (.ireturn, 1) := by decide +kernel
theorem dX7_forged_82 : decode mX7_forged.2.1 82 = .ok (.ireturn, 1) := by decide +kernel
def bX7_judge_0 : List (Nat × Instr) := [(0, .aload_n 0), (1, .iload_n 1), (2, .iconst (-1))]
theorem bX7_judge_0_ok : ∀ q ∈ bX7_judge_0, decode mX7_judge.2.1 q.1 = .ok (q.2, aLn q.2) := by decide +kernel
def bX7_judge_6 : List (Nat × Instr) := [(6, .istore_n 2), (7, .iload_n 2)]
theorem bX7_judge_6_ok : ∀ q ∈ bX7_judge_6, decode mX7_judge.2.1 q.1 = .ok (q.2, aLn q.2) := by decide +kernel
def bX7_judge_11 : List (Nat × Instr) := [(11, .iload_n 2)]
theorem bX7_judge_11_ok : ∀ q ∈ bX7_judge_11, decode mX7_judge.2.1 q.1 = .ok (q.2, aLn q.2) := by decide +kernel
def bX7_judge_13 : List (Nat × Instr) := [(13, .aload_n 0), (14, .getfield 9), (17, .aload_n 0), (18, .getfield 13)]
theorem bX7_judge_13_ok : ∀ q ∈ bX7_judge_13, decode mX7_judge.2.1 q.1 = .ok (q.2, aLn q.2) := by decide +kernel
def bX7_judge_24 : List (Nat × Instr) := [(24, .iconst 0), (25, .istore_n 3)]
theorem bX7_judge_24_ok : ∀ q ∈ bX7_judge_24, decode mX7_judge.2.1 q.1 = .ok (q.2, aLn q.2) := by decide +kernel
def bX7_judge_26 : List (Nat × Instr) := [(26, .iload_n 3), (27, .aload_n 0), (28, .getfield 43), (31, .iload_n 1), (32, .iaload)]
theorem bX7_judge_26_ok : ∀ q ∈ bX7_judge_26, decode mX7_judge.2.1 q.1 = .ok (q.2, aLn q.2) := by decide +kernel
def bX7_judge_36 : List (Nat × Instr) := [(36, .aload_n 0), (37, .iload_n 1), (38, .iload_n 3), (39, .aload_n 0), (40, .getfield 13)]
theorem bX7_judge_36_ok : ∀ q ∈ bX7_judge_36, decode mX7_judge.2.1 q.1 = .ok (q.2, aLn q.2) := by decide +kernel
def bX7_judge_55 : List (Nat × Instr) := [(55, .iload_n 3)]
theorem bX7_judge_55_ok : ∀ q ∈ bX7_judge_55, decode mX7_judge.2.1 q.1 = .ok (q.2, aLn q.2) := by decide +kernel
def bX7_judge_57 : List (Nat × Instr) := [(57, .aload_n 0), (58, .getfield 13)]
theorem bX7_judge_57_ok : ∀ q ∈ bX7_judge_57, decode mX7_judge.2.1 q.1 = .ok (q.2, aLn q.2) := by decide +kernel
def bX7_judge_64 : List (Nat × Instr) := [(64, .iinc 3 1), (67, .goto (-41))]
theorem bX7_judge_64_ok : ∀ q ∈ bX7_judge_64, decode mX7_judge.2.1 q.1 = .ok (q.2, aLn q.2) := by decide +kernel
def bX7_judge_70 : List (Nat × Instr) := [(70, .bipush (-4))]
theorem bX7_judge_70_ok : ∀ q ∈ bX7_judge_70, decode mX7_judge.2.1 q.1 = .ok (q.2, aLn q.2) := by decide +kernel
theorem dX7_judge_3 : decode mX7_judge.2.1 3 = .ok (.invokevirtual 138, 3) := by decide +kernel
theorem dX7_judge_8 : decode mX7_judge.2.1 8 = .ok (.ifCond .eq 5, 3) := by decide +kernel
theorem dX7_judge_12 : decode mX7_judge.2.1 12 = .ok (.ireturn, 1) := by decide +kernel
theorem dX7_judge_21 : decode mX7_judge.2.1 21 = .ok (.invokestatic 145, 3) := by decide +kernel
theorem dX7_judge_33 : decode mX7_judge.2.1 33 = .ok (.if_icmp .ge 37, 3) := by decide +kernel
theorem dX7_judge_43 : decode mX7_judge.2.1 43 = .ok (.invokestatic 177, 3) := by decide +kernel
theorem dX7_judge_46 : decode mX7_judge.2.1 46 = .ok (.invokestatic 155, 3) := by decide +kernel
theorem dX7_judge_49 : decode mX7_judge.2.1 49 = .ok (.invokevirtual 217, 3) := by decide +kernel
theorem dX7_judge_52 : decode mX7_judge.2.1 52 = .ok (.ifCond .ne 5, 3) := by decide +kernel
theorem dX7_judge_56 : decode mX7_judge.2.1 56 = .ok (.ireturn, 1) := by decide +kernel
theorem dX7_judge_61 : decode mX7_judge.2.1 61 = .ok (.invokestatic 95, 3) := by decide +kernel
theorem dX7_judge_72 : decode mX7_judge.2.1 72 = .ok (.ireturn, 1) := by decide +kernel
def bX7_drawn_0 : List (Nat × Instr) := [(0, .aload_n 0), (1, .aload_n 0), (2, .getfield 240), (5, .ldc 243), (7, .imul), (8, .sipush 12345), (11, .iadd), (12, .putfield 240), (15, .aload_n 0), (16, .getfield 240), (19, .ldc 244), (21, .iand), (22, .ldc 245), (24, .idiv), (25, .iload_n 1), (26, .irem)]
theorem bX7_drawn_0_ok : ∀ q ∈ bX7_drawn_0, decode mX7_drawn.2.1 q.1 = .ok (q.2, aLn q.2) := by decide +kernel
theorem dX7_drawn_27 : decode mX7_drawn.2.1 27 = .ok (.ireturn, 1) := by decide +kernel
def bX7_years_0 : List (Nat × Instr) := [(0, .iload_n 1), (1, .iconst 1), (2, .bipush 20)]
theorem bX7_years_0_ok : ∀ q ∈ bX7_years_0, decode mX7_years.2.1 q.1 = .ok (q.2, aLn q.2) := by decide +kernel
def bX7_years_10 : List (Nat × Instr) := [(10, .iload_n 3), (11, .iconst 0), (12, .iconst 1)]
theorem bX7_years_10_ok : ∀ q ∈ bX7_years_10, decode mX7_years.2.1 q.1 = .ok (q.2, aLn q.2) := by decide +kernel
def bX7_years_19 : List (Nat × Instr) := [(19, .iconst (-1))]
theorem bX7_years_19_ok : ∀ q ∈ bX7_years_19, decode mX7_years.2.1 q.1 = .ok (q.2, aLn q.2) := by decide +kernel
def bX7_years_21 : List (Nat × Instr) := [(21, .aload_n 0), (22, .iload_n 2), (23, .putfield 240), (26, .iconst 0), (27, .istore 4), (29, .iconst 0), (30, .istore 5)]
theorem bX7_years_21_ok : ∀ q ∈ bX7_years_21, decode mX7_years.2.1 q.1 = .ok (q.2, aLn q.2) := by decide +kernel
def bX7_years_32 : List (Nat × Instr) := [(32, .iload 5), (34, .iload_n 1)]
theorem bX7_years_32_ok : ∀ q ∈ bX7_years_32, decode mX7_years.2.1 q.1 = .ok (q.2, aLn q.2) := by decide +kernel
def bX7_years_38 : List (Nat × Instr) := [(38, .aload_n 0), (39, .getfield 9), (42, .aload_n 0), (43, .getfield 13)]
theorem bX7_years_38_ok : ∀ q ∈ bX7_years_38, decode mX7_years.2.1 q.1 = .ok (q.2, aLn q.2) := by decide +kernel
def bX7_years_49 : List (Nat × Instr) := [(49, .iconst 0), (50, .istore 6)]
theorem bX7_years_49_ok : ∀ q ∈ bX7_years_49, decode mX7_years.2.1 q.1 = .ok (q.2, aLn q.2) := by decide +kernel
def bX7_years_52 : List (Nat × Instr) := [(52, .iload 6), (54, .iconst 5)]
theorem bX7_years_52_ok : ∀ q ∈ bX7_years_52, decode mX7_years.2.1 q.1 = .ok (q.2, aLn q.2) := by decide +kernel
def bX7_years_58 : List (Nat × Instr) := [(58, .aload_n 0), (59, .getfield 13), (62, .iconst 3), (63, .iload 6), (65, .iadd), (66, .aload_n 0), (67, .bipush 10)]
theorem bX7_years_58_ok : ∀ q ∈ bX7_years_58, decode mX7_years.2.1 q.1 = .ok (q.2, aLn q.2) := by decide +kernel
def bX7_years_72 : List (Nat × Instr) := [(72, .iastore), (73, .iinc 6 1), (76, .goto (-24))]
theorem bX7_years_72_ok : ∀ q ∈ bX7_years_72, decode mX7_years.2.1 q.1 = .ok (q.2, aLn q.2) := by decide +kernel
def bX7_years_79 : List (Nat × Instr) := [(79, .iconst 0), (80, .istore 6)]
theorem bX7_years_79_ok : ∀ q ∈ bX7_years_79, decode mX7_years.2.1 q.1 = .ok (q.2, aLn q.2) := by decide +kernel
def bX7_years_82 : List (Nat × Instr) := [(82, .iload 6), (84, .aload_n 0), (85, .getfield 9), (88, .iconst 0), (89, .iaload)]
theorem bX7_years_82_ok : ∀ q ∈ bX7_years_82, decode mX7_years.2.1 q.1 = .ok (q.2, aLn q.2) := by decide +kernel
def bX7_years_93 : List (Nat × Instr) := [(93, .aload_n 0), (94, .getfield 13), (97, .iload 6), (99, .iconst 2)]
theorem bX7_years_93_ok : ∀ q ∈ bX7_years_93, decode mX7_years.2.1 q.1 = .ok (q.2, aLn q.2) := by decide +kernel
def bX7_years_103 : List (Nat × Instr) := [(103, .aload_n 0), (104, .bipush 10)]
theorem bX7_years_103_ok : ∀ q ∈ bX7_years_103, decode mX7_years.2.1 q.1 = .ok (q.2, aLn q.2) := by decide +kernel
def bX7_years_109 : List (Nat × Instr) := [(109, .iastore), (110, .iinc 6 1), (113, .goto (-31))]
theorem bX7_years_109_ok : ∀ q ∈ bX7_years_109, decode mX7_years.2.1 q.1 = .ok (q.2, aLn q.2) := by decide +kernel
def bX7_years_116 : List (Nat × Instr) := [(116, .aload_n 0), (117, .getfield 13), (120, .bipush 15)]
theorem bX7_years_116_ok : ∀ q ∈ bX7_years_116, decode mX7_years.2.1 q.1 = .ok (q.2, aLn q.2) := by decide +kernel
def bX7_years_125 : List (Nat × Instr) := [(125, .iload 4), (127, .iload_n 3)]
theorem bX7_years_125_ok : ∀ q ∈ bX7_years_125, decode mX7_years.2.1 q.1 = .ok (q.2, aLn q.2) := by decide +kernel
def bX7_years_131 : List (Nat × Instr) := [(131, .aload_n 0), (132, .getfield 13)]
theorem bX7_years_131_ok : ∀ q ∈ bX7_years_131, decode mX7_years.2.1 q.1 = .ok (q.2, aLn q.2) := by decide +kernel
def bX7_years_141 : List (Nat × Instr) := [(141, .goto 16)]
theorem bX7_years_141_ok : ∀ q ∈ bX7_years_141, decode mX7_years.2.1 q.1 = .ok (q.2, aLn q.2) := by decide +kernel
def bX7_years_144 : List (Nat × Instr) := [(144, .aload_n 0), (145, .getfield 13), (148, .iconst 2), (149, .iaload), (150, .aload_n 0), (151, .getfield 9), (154, .iconst 2), (155, .iaload), (156, .isub)]
theorem bX7_years_144_ok : ∀ q ∈ bX7_years_144, decode mX7_years.2.1 q.1 = .ok (q.2, aLn q.2) := by decide +kernel
def bX7_years_157 : List (Nat × Instr) := [(157, .iadd), (158, .istore 4), (160, .iinc 5 1), (163, .goto (-131))]
theorem bX7_years_157_ok : ∀ q ∈ bX7_years_157, decode mX7_years.2.1 q.1 = .ok (q.2, aLn q.2) := by decide +kernel
def bX7_years_166 : List (Nat × Instr) := [(166, .iload 4)]
theorem bX7_years_166_ok : ∀ q ∈ bX7_years_166, decode mX7_years.2.1 q.1 = .ok (q.2, aLn q.2) := by decide +kernel
theorem dX7_years_4 : decode mX7_years.2.1 4 = .ok (.invokestatic 49, 3) := by decide +kernel
theorem dX7_years_7 : decode mX7_years.2.1 7 = .ok (.ifCond .eq 12, 3) := by decide +kernel
theorem dX7_years_13 : decode mX7_years.2.1 13 = .ok (.invokestatic 49, 3) := by decide +kernel
theorem dX7_years_16 : decode mX7_years.2.1 16 = .ok (.ifCond .ne 5, 3) := by decide +kernel
theorem dX7_years_20 : decode mX7_years.2.1 20 = .ok (.ireturn, 1) := by decide +kernel
theorem dX7_years_35 : decode mX7_years.2.1 35 = .ok (.if_icmp .ge 131, 3) := by decide +kernel
theorem dX7_years_46 : decode mX7_years.2.1 46 = .ok (.invokestatic 145, 3) := by decide +kernel
theorem dX7_years_55 : decode mX7_years.2.1 55 = .ok (.if_icmp .ge 24, 3) := by decide +kernel
theorem dX7_years_69 : decode mX7_years.2.1 69 = .ok (.invokevirtual 246, 3) := by decide +kernel
theorem dX7_years_90 : decode mX7_years.2.1 90 = .ok (.if_icmp .ge 26, 3) := by decide +kernel
theorem dX7_years_100 : decode mX7_years.2.1 100 = .ok (.invokestatic 57, 3) := by decide +kernel
theorem dX7_years_106 : decode mX7_years.2.1 106 = .ok (.invokevirtual 246, 3) := by decide +kernel
theorem dX7_years_122 : decode mX7_years.2.1 122 = .ok (.invokestatic 135, 3) := by decide +kernel
theorem dX7_years_128 : decode mX7_years.2.1 128 = .ok (.ifCond .ne 16, 3) := by decide +kernel
theorem dX7_years_135 : decode mX7_years.2.1 135 = .ok (.invokestatic 177, 3) := by decide +kernel
theorem dX7_years_138 : decode mX7_years.2.1 138 = .ok (.invokestatic 155, 3) := by decide +kernel
theorem dX7_years_168 : decode mX7_years.2.1 168 = .ok (.ireturn, 1) := by decide +kernel
def bX7_image_0 : List (Nat × Instr) := [(0, .aload_n 0), (1, .getfield 9), (4, .aload_n 0), (5, .getfield 16)]
theorem bX7_image_0_ok : ∀ q ∈ bX7_image_0, decode mX7_image.2.1 q.1 = .ok (q.2, aLn q.2) := by decide +kernel
def bX7_image_11 : List (Nat × Instr) := [(11, .aload_n 0), (12, .iconst 1), (13, .putfield 249), (16, .aload_n 0), (17, .getfield 9), (20, .iconst 1), (21, .iaload)]
theorem bX7_image_11_ok : ∀ q ∈ bX7_image_11, decode mX7_image.2.1 q.1 = .ok (q.2, aLn q.2) := by decide +kernel
theorem dX7_image_8 : decode mX7_image.2.1 8 = .ok (.invokestatic 145, 3) := by decide +kernel
theorem dX7_image_22 : decode mX7_image.2.1 22 = .ok (.ireturn, 1) := by decide +kernel
def bX7_restore_0 : List (Nat × Instr) := [(0, .aload_n 0), (1, .getfield 249)]
theorem bX7_restore_0_ok : ∀ q ∈ bX7_restore_0, decode mX7_restore.2.1 q.1 = .ok (q.2, aLn q.2) := by decide +kernel
def bX7_restore_7 : List (Nat × Instr) := [(7, .bipush (-3))]
theorem bX7_restore_7_ok : ∀ q ∈ bX7_restore_7, decode mX7_restore.2.1 q.1 = .ok (q.2, aLn q.2) := by decide +kernel
def bX7_restore_10 : List (Nat × Instr) := [(10, .aload_n 0), (11, .getfield 16), (14, .aload_n 0), (15, .getfield 9)]
theorem bX7_restore_10_ok : ∀ q ∈ bX7_restore_10, decode mX7_restore.2.1 q.1 = .ok (q.2, aLn q.2) := by decide +kernel
def bX7_restore_21 : List (Nat × Instr) := [(21, .aload_n 0), (22, .getfield 9), (25, .iconst 1), (26, .iaload)]
theorem bX7_restore_21_ok : ∀ q ∈ bX7_restore_21, decode mX7_restore.2.1 q.1 = .ok (q.2, aLn q.2) := by decide +kernel
theorem dX7_restore_4 : decode mX7_restore.2.1 4 = .ok (.ifCond .ne 6, 3) := by decide +kernel
theorem dX7_restore_9 : decode mX7_restore.2.1 9 = .ok (.ireturn, 1) := by decide +kernel
theorem dX7_restore_18 : decode mX7_restore.2.1 18 = .ok (.invokestatic 145, 3) := by decide +kernel
theorem dX7_restore_27 : decode mX7_restore.2.1 27 = .ok (.ireturn, 1) := by decide +kernel
def bX7_count_0 : List (Nat × Instr) := [(0, .iload_n 1), (1, .iconst 0), (2, .iconst 2)]
theorem bX7_count_0_ok : ∀ q ∈ bX7_count_0, decode mX7_count.2.1 q.1 = .ok (q.2, aLn q.2) := by decide +kernel
def bX7_count_9 : List (Nat × Instr) := [(9, .aload_n 0), (10, .getfield 9), (13, .iload_n 1), (14, .iaload), (15, .goto 34)]
theorem bX7_count_9_ok : ∀ q ∈ bX7_count_9, decode mX7_count.2.1 q.1 = .ok (q.2, aLn q.2) := by decide +kernel
def bX7_count_18 : List (Nat × Instr) := [(18, .iload_n 1), (19, .iconst 3)]
theorem bX7_count_18_ok : ∀ q ∈ bX7_count_18, decode mX7_count.2.1 q.1 = .ok (q.2, aLn q.2) := by decide +kernel
def bX7_count_23 : List (Nat × Instr) := [(23, .aload_n 0), (24, .getfield 9)]
theorem bX7_count_23_ok : ∀ q ∈ bX7_count_23, decode mX7_count.2.1 q.1 = .ok (q.2, aLn q.2) := by decide +kernel
def bX7_count_30 : List (Nat × Instr) := [(30, .goto 19)]
theorem bX7_count_30_ok : ∀ q ∈ bX7_count_30, decode mX7_count.2.1 q.1 = .ok (q.2, aLn q.2) := by decide +kernel
def bX7_count_33 : List (Nat × Instr) := [(33, .iload_n 1), (34, .iconst 4)]
theorem bX7_count_33_ok : ∀ q ∈ bX7_count_33, decode mX7_count.2.1 q.1 = .ok (q.2, aLn q.2) := by decide +kernel
def bX7_count_38 : List (Nat × Instr) := [(38, .aload_n 0), (39, .getfield 9)]
theorem bX7_count_38_ok : ∀ q ∈ bX7_count_38, decode mX7_count.2.1 q.1 = .ok (q.2, aLn q.2) := by decide +kernel
def bX7_count_45 : List (Nat × Instr) := [(45, .goto 4)]
theorem bX7_count_45_ok : ∀ q ∈ bX7_count_45, decode mX7_count.2.1 q.1 = .ok (q.2, aLn q.2) := by decide +kernel
def bX7_count_48 : List (Nat × Instr) := [(48, .iconst (-1))]
theorem bX7_count_48_ok : ∀ q ∈ bX7_count_48, decode mX7_count.2.1 q.1 = .ok (q.2, aLn q.2) := by decide +kernel
theorem dX7_count_3 : decode mX7_count.2.1 3 = .ok (.invokestatic 49, 3) := by decide +kernel
theorem dX7_count_6 : decode mX7_count.2.1 6 = .ok (.ifCond .eq 12, 3) := by decide +kernel
theorem dX7_count_20 : decode mX7_count.2.1 20 = .ok (.if_icmp .ne 13, 3) := by decide +kernel
theorem dX7_count_27 : decode mX7_count.2.1 27 = .ok (.invokestatic 177, 3) := by decide +kernel
theorem dX7_count_35 : decode mX7_count.2.1 35 = .ok (.if_icmp .ne 13, 3) := by decide +kernel
theorem dX7_count_42 : decode mX7_count.2.1 42 = .ok (.invokestatic 237, 3) := by decide +kernel
theorem dX7_count_49 : decode mX7_count.2.1 49 = .ok (.ireturn, 1) := by decide +kernel
def bX7_thrown_0 : List (Nat × Instr) := [(0, .aload_n 0), (1, .getfield 253)]
theorem bX7_thrown_0_ok : ∀ q ∈ bX7_thrown_0, decode mX7_thrown.2.1 q.1 = .ok (q.2, aLn q.2) := by decide +kernel
theorem dX7_thrown_4 : decode mX7_thrown.2.1 4 = .ok (.ireturn, 1) := by decide +kernel
def bX7_isShelf_0 : List (Nat × Instr) := [(0, .iload_n 0), (1, .iconst 0), (2, .bipush 7)]
theorem bX7_isShelf_0_ok : ∀ q ∈ bX7_isShelf_0, decode mX7_isShelf.2.1 q.1 = .ok (q.2, aLn q.2) := by decide +kernel
theorem dX7_isShelf_4 : decode mX7_isShelf.2.1 4 = .ok (.invokestatic 49, 3) := by decide +kernel
theorem dX7_isShelf_7 : decode mX7_isShelf.2.1 7 = .ok (.ireturn, 1) := by decide +kernel
def bX7_wrongRow_0 : List (Nat × Instr) := [(0, .iload_n 1)]
theorem bX7_wrongRow_0_ok : ∀ q ∈ bX7_wrongRow_0, decode mX7_wrongRow.2.1 q.1 = .ok (q.2, aLn q.2) := by decide +kernel
def bX7_wrongRow_7 : List (Nat × Instr) := [(7, .iconst (-1)), (8, .goto 47)]
theorem bX7_wrongRow_7_ok : ∀ q ∈ bX7_wrongRow_7, decode mX7_wrongRow.2.1 q.1 = .ok (q.2, aLn q.2) := by decide +kernel
def bX7_wrongRow_11 : List (Nat × Instr) := [(11, .aload_n 0), (12, .getfield 31), (15, .iload_n 1), (16, .iaload)]
theorem bX7_wrongRow_11_ok : ∀ q ∈ bX7_wrongRow_11, decode mX7_wrongRow.2.1 q.1 = .ok (q.2, aLn q.2) := by decide +kernel
def bX7_wrongRow_20 : List (Nat × Instr) := [(20, .bipush (-11)), (22, .goto 33)]
theorem bX7_wrongRow_20_ok : ∀ q ∈ bX7_wrongRow_20, decode mX7_wrongRow.2.1 q.1 = .ok (q.2, aLn q.2) := by decide +kernel
def bX7_wrongRow_25 : List (Nat × Instr) := [(25, .aload_n 0), (26, .getfield 31), (29, .iload_n 1), (30, .iaload), (31, .iconst 2)]
theorem bX7_wrongRow_25_ok : ∀ q ∈ bX7_wrongRow_25, decode mX7_wrongRow.2.1 q.1 = .ok (q.2, aLn q.2) := by decide +kernel
def bX7_wrongRow_35 : List (Nat × Instr) := [(35, .iload_n 2)]
theorem bX7_wrongRow_35_ok : ∀ q ∈ bX7_wrongRow_35, decode mX7_wrongRow.2.1 q.1 = .ok (q.2, aLn q.2) := by decide +kernel
def bX7_wrongRow_39 : List (Nat × Instr) := [(39, .aload_n 0), (40, .getfield 40), (43, .iload_n 1), (44, .iaload), (45, .iload_n 2)]
theorem bX7_wrongRow_39_ok : ∀ q ∈ bX7_wrongRow_39, decode mX7_wrongRow.2.1 q.1 = .ok (q.2, aLn q.2) := by decide +kernel
def bX7_wrongRow_49 : List (Nat × Instr) := [(49, .bipush (-12)), (51, .goto 4)]
theorem bX7_wrongRow_49_ok : ∀ q ∈ bX7_wrongRow_49, decode mX7_wrongRow.2.1 q.1 = .ok (q.2, aLn q.2) := by decide +kernel
def bX7_wrongRow_54 : List (Nat × Instr) := [(54, .iconst 0)]
theorem bX7_wrongRow_54_ok : ∀ q ∈ bX7_wrongRow_54, decode mX7_wrongRow.2.1 q.1 = .ok (q.2, aLn q.2) := by decide +kernel
theorem dX7_wrongRow_1 : decode mX7_wrongRow.2.1 1 = .ok (.invokestatic 256, 3) := by decide +kernel
theorem dX7_wrongRow_4 : decode mX7_wrongRow.2.1 4 = .ok (.ifCond .ne 7, 3) := by decide +kernel
theorem dX7_wrongRow_17 : decode mX7_wrongRow.2.1 17 = .ok (.ifCond .ne 8, 3) := by decide +kernel
theorem dX7_wrongRow_32 : decode mX7_wrongRow.2.1 32 = .ok (.if_icmp .ne 17, 3) := by decide +kernel
theorem dX7_wrongRow_36 : decode mX7_wrongRow.2.1 36 = .ok (.ifCond .lt 18, 3) := by decide +kernel
theorem dX7_wrongRow_46 : decode mX7_wrongRow.2.1 46 = .ok (.if_icmp .eq 8, 3) := by decide +kernel
theorem dX7_wrongRow_55 : decode mX7_wrongRow.2.1 55 = .ok (.ireturn, 1) := by decide +kernel
def bX7_wrongKept_0 : List (Nat × Instr) := [(0, .iload_n 1)]
theorem bX7_wrongKept_0_ok : ∀ q ∈ bX7_wrongKept_0, decode mX7_wrongKept.2.1 q.1 = .ok (q.2, aLn q.2) := by decide +kernel
def bX7_wrongKept_7 : List (Nat × Instr) := [(7, .iconst (-1)), (8, .goto 33)]
theorem bX7_wrongKept_7_ok : ∀ q ∈ bX7_wrongKept_7, decode mX7_wrongKept.2.1 q.1 = .ok (q.2, aLn q.2) := by decide +kernel
def bX7_wrongKept_11 : List (Nat × Instr) := [(11, .aload_n 0), (12, .getfield 31), (15, .iload_n 1), (16, .iaload)]
theorem bX7_wrongKept_11_ok : ∀ q ∈ bX7_wrongKept_11, decode mX7_wrongKept.2.1 q.1 = .ok (q.2, aLn q.2) := by decide +kernel
def bX7_wrongKept_20 : List (Nat × Instr) := [(20, .bipush (-11)), (22, .goto 19)]
theorem bX7_wrongKept_20_ok : ∀ q ∈ bX7_wrongKept_20, decode mX7_wrongKept.2.1 q.1 = .ok (q.2, aLn q.2) := by decide +kernel
def bX7_wrongKept_25 : List (Nat × Instr) := [(25, .aload_n 0), (26, .getfield 31), (29, .iload_n 1), (30, .iaload), (31, .iconst 2)]
theorem bX7_wrongKept_25_ok : ∀ q ∈ bX7_wrongKept_25, decode mX7_wrongKept.2.1 q.1 = .ok (q.2, aLn q.2) := by decide +kernel
def bX7_wrongKept_35 : List (Nat × Instr) := [(35, .bipush (-12)), (37, .goto 4)]
theorem bX7_wrongKept_35_ok : ∀ q ∈ bX7_wrongKept_35, decode mX7_wrongKept.2.1 q.1 = .ok (q.2, aLn q.2) := by decide +kernel
def bX7_wrongKept_40 : List (Nat × Instr) := [(40, .iconst 0)]
theorem bX7_wrongKept_40_ok : ∀ q ∈ bX7_wrongKept_40, decode mX7_wrongKept.2.1 q.1 = .ok (q.2, aLn q.2) := by decide +kernel
theorem dX7_wrongKept_1 : decode mX7_wrongKept.2.1 1 = .ok (.invokestatic 256, 3) := by decide +kernel
theorem dX7_wrongKept_4 : decode mX7_wrongKept.2.1 4 = .ok (.ifCond .ne 7, 3) := by decide +kernel
theorem dX7_wrongKept_17 : decode mX7_wrongKept.2.1 17 = .ok (.ifCond .ne 8, 3) := by decide +kernel
theorem dX7_wrongKept_32 : decode mX7_wrongKept.2.1 32 = .ok (.if_icmp .ne 8, 3) := by decide +kernel
theorem dX7_wrongKept_41 : decode mX7_wrongKept.2.1 41 = .ok (.ireturn, 1) := by decide +kernel
def bX7_keep_0 : List (Nat × Instr) := [(0, .iload_n 1)]
theorem bX7_keep_0_ok : ∀ q ∈ bX7_keep_0, decode mX7_keep.2.1 q.1 = .ok (q.2, aLn q.2) := by decide +kernel
def bX7_keep_7 : List (Nat × Instr) := [(7, .iload_n 2), (8, .iconst 0), (9, .iconst 1)]
theorem bX7_keep_7_ok : ∀ q ∈ bX7_keep_7, decode mX7_keep.2.1 q.1 = .ok (q.2, aLn q.2) := by decide +kernel
def bX7_keep_16 : List (Nat × Instr) := [(16, .iload_n 2), (17, .iconst 1)]
theorem bX7_keep_16_ok : ∀ q ∈ bX7_keep_16, decode mX7_keep.2.1 q.1 = .ok (q.2, aLn q.2) := by decide +kernel
def bX7_keep_21 : List (Nat × Instr) := [(21, .iload_n 3), (22, .iconst 0), (23, .bipush 7)]
theorem bX7_keep_21_ok : ∀ q ∈ bX7_keep_21, decode mX7_keep.2.1 q.1 = .ok (q.2, aLn q.2) := by decide +kernel
def bX7_keep_31 : List (Nat × Instr) := [(31, .iload 4), (33, .iconst 0), (34, .bipush 9)]
theorem bX7_keep_31_ok : ∀ q ∈ bX7_keep_31, decode mX7_keep.2.1 q.1 = .ok (q.2, aLn q.2) := by decide +kernel
def bX7_keep_42 : List (Nat × Instr) := [(42, .iconst (-1))]
theorem bX7_keep_42_ok : ∀ q ∈ bX7_keep_42, decode mX7_keep.2.1 q.1 = .ok (q.2, aLn q.2) := by decide +kernel
def bX7_keep_44 : List (Nat × Instr) := [(44, .aload_n 0), (45, .getfield 31), (48, .iload_n 1), (49, .iload_n 2), (50, .iastore), (51, .aload_n 0), (52, .getfield 34), (55, .iload_n 1), (56, .iload_n 3), (57, .iastore), (58, .aload_n 0), (59, .getfield 37), (62, .iload_n 1), (63, .iload 4), (65, .iastore), (66, .iconst 0)]
theorem bX7_keep_44_ok : ∀ q ∈ bX7_keep_44, decode mX7_keep.2.1 q.1 = .ok (q.2, aLn q.2) := by decide +kernel
theorem dX7_keep_1 : decode mX7_keep.2.1 1 = .ok (.invokestatic 256, 3) := by decide +kernel
theorem dX7_keep_4 : decode mX7_keep.2.1 4 = .ok (.ifCond .eq 38, 3) := by decide +kernel
theorem dX7_keep_10 : decode mX7_keep.2.1 10 = .ok (.invokestatic 49, 3) := by decide +kernel
theorem dX7_keep_13 : decode mX7_keep.2.1 13 = .ok (.ifCond .eq 29, 3) := by decide +kernel
theorem dX7_keep_18 : decode mX7_keep.2.1 18 = .ok (.if_icmp .ne 26, 3) := by decide +kernel
theorem dX7_keep_25 : decode mX7_keep.2.1 25 = .ok (.invokestatic 49, 3) := by decide +kernel
theorem dX7_keep_28 : decode mX7_keep.2.1 28 = .ok (.ifCond .eq 14, 3) := by decide +kernel
theorem dX7_keep_36 : decode mX7_keep.2.1 36 = .ok (.invokestatic 49, 3) := by decide +kernel
theorem dX7_keep_39 : decode mX7_keep.2.1 39 = .ok (.ifCond .ne 5, 3) := by decide +kernel
theorem dX7_keep_43 : decode mX7_keep.2.1 43 = .ok (.ireturn, 1) := by decide +kernel
theorem dX7_keep_67 : decode mX7_keep.2.1 67 = .ok (.ireturn, 1) := by decide +kernel
def bX7_row_0 : List (Nat × Instr) := [(0, .iload_n 1)]
theorem bX7_row_0_ok : ∀ q ∈ bX7_row_0, decode mX7_row.2.1 q.1 = .ok (q.2, aLn q.2) := by decide +kernel
def bX7_row_7 : List (Nat × Instr) := [(7, .iload_n 2), (8, .iconst 0), (9, .iconst 2)]
theorem bX7_row_7_ok : ∀ q ∈ bX7_row_7, decode mX7_row.2.1 q.1 = .ok (q.2, aLn q.2) := by decide +kernel
def bX7_row_16 : List (Nat × Instr) := [(16, .iload_n 3), (17, .bipush 100)]
theorem bX7_row_16_ok : ∀ q ∈ bX7_row_16, decode mX7_row.2.1 q.1 = .ok (q.2, aLn q.2) := by decide +kernel
def bX7_row_22 : List (Nat × Instr) := [(22, .iconst (-1))]
theorem bX7_row_22_ok : ∀ q ∈ bX7_row_22, decode mX7_row.2.1 q.1 = .ok (q.2, aLn q.2) := by decide +kernel
def bX7_row_24 : List (Nat × Instr) := [(24, .iload_n 3)]
theorem bX7_row_24_ok : ∀ q ∈ bX7_row_24, decode mX7_row.2.1 q.1 = .ok (q.2, aLn q.2) := by decide +kernel
def bX7_row_28 : List (Nat × Instr) := [(28, .bipush (-14))]
theorem bX7_row_28_ok : ∀ q ∈ bX7_row_28, decode mX7_row.2.1 q.1 = .ok (q.2, aLn q.2) := by decide +kernel
def bX7_row_31 : List (Nat × Instr) := [(31, .aload_n 0), (32, .getfield 31), (35, .iload_n 1), (36, .iconst 2), (37, .iastore), (38, .aload_n 0), (39, .getfield 40), (42, .iload_n 1), (43, .iload_n 2), (44, .iastore), (45, .aload_n 0), (46, .getfield 43), (49, .iload_n 1), (50, .iload_n 3), (51, .iastore), (52, .iconst 0), (53, .istore 4)]
theorem bX7_row_31_ok : ∀ q ∈ bX7_row_31, decode mX7_row.2.1 q.1 = .ok (q.2, aLn q.2) := by decide +kernel
def bX7_row_55 : List (Nat × Instr) := [(55, .iload 4), (57, .bipush 100)]
theorem bX7_row_55_ok : ∀ q ∈ bX7_row_55, decode mX7_row.2.1 q.1 = .ok (q.2, aLn q.2) := by decide +kernel
def bX7_row_62 : List (Nat × Instr) := [(62, .aload_n 0), (63, .getfield 46), (66, .bipush 100), (68, .iload_n 1), (69, .imul), (70, .iload 4), (72, .iadd), (73, .iconst 0), (74, .iastore), (75, .iinc 4 1), (78, .goto (-23))]
theorem bX7_row_62_ok : ∀ q ∈ bX7_row_62, decode mX7_row.2.1 q.1 = .ok (q.2, aLn q.2) := by decide +kernel
def bX7_row_81 : List (Nat × Instr) := [(81, .iconst 0)]
theorem bX7_row_81_ok : ∀ q ∈ bX7_row_81, decode mX7_row.2.1 q.1 = .ok (q.2, aLn q.2) := by decide +kernel
theorem dX7_row_1 : decode mX7_row.2.1 1 = .ok (.invokestatic 256, 3) := by decide +kernel
theorem dX7_row_4 : decode mX7_row.2.1 4 = .ok (.ifCond .eq 18, 3) := by decide +kernel
theorem dX7_row_10 : decode mX7_row.2.1 10 = .ok (.invokestatic 49, 3) := by decide +kernel
theorem dX7_row_13 : decode mX7_row.2.1 13 = .ok (.ifCond .eq 9, 3) := by decide +kernel
theorem dX7_row_19 : decode mX7_row.2.1 19 = .ok (.if_icmp .le 5, 3) := by decide +kernel
theorem dX7_row_23 : decode mX7_row.2.1 23 = .ok (.ireturn, 1) := by decide +kernel
theorem dX7_row_25 : decode mX7_row.2.1 25 = .ok (.ifCond .ge 6, 3) := by decide +kernel
theorem dX7_row_30 : decode mX7_row.2.1 30 = .ok (.ireturn, 1) := by decide +kernel
theorem dX7_row_59 : decode mX7_row.2.1 59 = .ok (.if_icmp .ge 22, 3) := by decide +kernel
theorem dX7_row_82 : decode mX7_row.2.1 82 = .ok (.ireturn, 1) := by decide +kernel
def bX7_put_0 : List (Nat × Instr) := [(0, .aload_n 0), (1, .iload_n 1), (2, .iconst (-1))]
theorem bX7_put_0_ok : ∀ q ∈ bX7_put_0, decode mX7_put.2.1 q.1 = .ok (q.2, aLn q.2) := by decide +kernel
def bX7_put_6 : List (Nat × Instr) := [(6, .istore 4), (8, .iload 4)]
theorem bX7_put_6_ok : ∀ q ∈ bX7_put_6, decode mX7_put.2.1 q.1 = .ok (q.2, aLn q.2) := by decide +kernel
def bX7_put_13 : List (Nat × Instr) := [(13, .iload 4)]
theorem bX7_put_13_ok : ∀ q ∈ bX7_put_13, decode mX7_put.2.1 q.1 = .ok (q.2, aLn q.2) := by decide +kernel
def bX7_put_16 : List (Nat × Instr) := [(16, .iload_n 2), (17, .iconst 0), (18, .aload_n 0), (19, .getfield 43), (22, .iload_n 1), (23, .iaload), (24, .iconst 1), (25, .isub)]
theorem bX7_put_16_ok : ∀ q ∈ bX7_put_16, decode mX7_put.2.1 q.1 = .ok (q.2, aLn q.2) := by decide +kernel
def bX7_put_32 : List (Nat × Instr) := [(32, .bipush (-13))]
theorem bX7_put_32_ok : ∀ q ∈ bX7_put_32, decode mX7_put.2.1 q.1 = .ok (q.2, aLn q.2) := by decide +kernel
def bX7_put_35 : List (Nat × Instr) := [(35, .aload_n 0), (36, .getfield 46), (39, .bipush 100), (41, .iload_n 1), (42, .imul), (43, .iload_n 2), (44, .iadd), (45, .aload_n 0), (46, .getfield 40), (49, .iload_n 1), (50, .iaload)]
theorem bX7_put_35_ok : ∀ q ∈ bX7_put_35, decode mX7_put.2.1 q.1 = .ok (q.2, aLn q.2) := by decide +kernel
def bX7_put_54 : List (Nat × Instr) := [(54, .iload_n 3), (55, .i2b), (56, .goto 19)]
theorem bX7_put_54_ok : ∀ q ∈ bX7_put_54, decode mX7_put.2.1 q.1 = .ok (q.2, aLn q.2) := by decide +kernel
def bX7_put_59 : List (Nat × Instr) := [(59, .aload_n 0), (60, .getfield 40), (63, .iload_n 1), (64, .iaload), (65, .iconst 1)]
theorem bX7_put_59_ok : ∀ q ∈ bX7_put_59, decode mX7_put.2.1 q.1 = .ok (q.2, aLn q.2) := by decide +kernel
def bX7_put_69 : List (Nat × Instr) := [(69, .iload_n 3), (70, .i2s), (71, .goto 4)]
theorem bX7_put_69_ok : ∀ q ∈ bX7_put_69, decode mX7_put.2.1 q.1 = .ok (q.2, aLn q.2) := by decide +kernel
def bX7_put_74 : List (Nat × Instr) := [(74, .iload_n 3)]
theorem bX7_put_74_ok : ∀ q ∈ bX7_put_74, decode mX7_put.2.1 q.1 = .ok (q.2, aLn q.2) := by decide +kernel
def bX7_put_75 : List (Nat × Instr) := [(75, .iastore), (76, .iconst 0)]
theorem bX7_put_75_ok : ∀ q ∈ bX7_put_75, decode mX7_put.2.1 q.1 = .ok (q.2, aLn q.2) := by decide +kernel
theorem dX7_put_3 : decode mX7_put.2.1 3 = .ok (.invokevirtual 138, 3) := by decide +kernel
theorem dX7_put_10 : decode mX7_put.2.1 10 = .ok (.ifCond .eq 6, 3) := by decide +kernel
theorem dX7_put_15 : decode mX7_put.2.1 15 = .ok (.ireturn, 1) := by decide +kernel
theorem dX7_put_26 : decode mX7_put.2.1 26 = .ok (.invokestatic 49, 3) := by decide +kernel
theorem dX7_put_29 : decode mX7_put.2.1 29 = .ok (.ifCond .ne 6, 3) := by decide +kernel
theorem dX7_put_34 : decode mX7_put.2.1 34 = .ok (.ireturn, 1) := by decide +kernel
theorem dX7_put_51 : decode mX7_put.2.1 51 = .ok (.ifCond .ne 8, 3) := by decide +kernel
theorem dX7_put_66 : decode mX7_put.2.1 66 = .ok (.if_icmp .ne 8, 3) := by decide +kernel
theorem dX7_put_77 : decode mX7_put.2.1 77 = .ok (.ireturn, 1) := by decide +kernel
def bX7_element_0 : List (Nat × Instr) := [(0, .aload_n 0), (1, .iload_n 1)]
theorem bX7_element_0_ok : ∀ q ∈ bX7_element_0, decode mX7_element.2.1 q.1 = .ok (q.2, aLn q.2) := by decide +kernel
def bX7_element_8 : List (Nat × Instr) := [(8, .iconst 1), (9, .goto 34)]
theorem bX7_element_8_ok : ∀ q ∈ bX7_element_8, decode mX7_element.2.1 q.1 = .ok (q.2, aLn q.2) := by decide +kernel
def bX7_element_12 : List (Nat × Instr) := [(12, .aload_n 0), (13, .getfield 31), (16, .iload_n 1), (17, .iaload), (18, .iconst 2)]
theorem bX7_element_12_ok : ∀ q ∈ bX7_element_12, decode mX7_element.2.1 q.1 = .ok (q.2, aLn q.2) := by decide +kernel
def bX7_element_22 : List (Nat × Instr) := [(22, .iload_n 2), (23, .iconst 0), (24, .aload_n 0), (25, .getfield 43), (28, .iload_n 1), (29, .iaload), (30, .iconst 1), (31, .isub)]
theorem bX7_element_22_ok : ∀ q ∈ bX7_element_22, decode mX7_element.2.1 q.1 = .ok (q.2, aLn q.2) := by decide +kernel
def bX7_element_38 : List (Nat × Instr) := [(38, .iconst 2), (39, .goto 4)]
theorem bX7_element_38_ok : ∀ q ∈ bX7_element_38, decode mX7_element.2.1 q.1 = .ok (q.2, aLn q.2) := by decide +kernel
def bX7_element_42 : List (Nat × Instr) := [(42, .iconst 0)]
theorem bX7_element_42_ok : ∀ q ∈ bX7_element_42, decode mX7_element.2.1 q.1 = .ok (q.2, aLn q.2) := by decide +kernel
def bX7_element_43 : List (Nat × Instr) := [(43, .putfield 253), (46, .aload_n 0), (47, .getfield 253)]
theorem bX7_element_43_ok : ∀ q ∈ bX7_element_43, decode mX7_element.2.1 q.1 = .ok (q.2, aLn q.2) := by decide +kernel
def bX7_element_53 : List (Nat × Instr) := [(53, .aload_n 0), (54, .getfield 46), (57, .bipush 100), (59, .iload_n 1), (60, .imul), (61, .iload_n 2), (62, .iadd), (63, .iaload), (64, .i2l), (65, .goto 4)]
theorem bX7_element_53_ok : ∀ q ∈ bX7_element_53, decode mX7_element.2.1 q.1 = .ok (q.2, aLn q.2) := by decide +kernel
def bX7_element_68 : List (Nat × Instr) := [(68, .lconst 0)]
theorem bX7_element_68_ok : ∀ q ∈ bX7_element_68, decode mX7_element.2.1 q.1 = .ok (q.2, aLn q.2) := by decide +kernel
theorem dX7_element_2 : decode mX7_element.2.1 2 = .ok (.invokestatic 256, 3) := by decide +kernel
theorem dX7_element_5 : decode mX7_element.2.1 5 = .ok (.ifCond .ne 7, 3) := by decide +kernel
theorem dX7_element_19 : decode mX7_element.2.1 19 = .ok (.if_icmp .ne 19, 3) := by decide +kernel
theorem dX7_element_32 : decode mX7_element.2.1 32 = .ok (.invokestatic 49, 3) := by decide +kernel
theorem dX7_element_35 : decode mX7_element.2.1 35 = .ok (.ifCond .ne 7, 3) := by decide +kernel
theorem dX7_element_50 : decode mX7_element.2.1 50 = .ok (.ifCond .ne 18, 3) := by decide +kernel
theorem dX7_element_69 : decode mX7_element.2.1 69 = .ok (.lreturn, 1) := by decide +kernel
def bX7_copy_0 : List (Nat × Instr) := [(0, .iload_n 1)]
theorem bX7_copy_0_ok : ∀ q ∈ bX7_copy_0, decode mX7_copy.2.1 q.1 = .ok (q.2, aLn q.2) := by decide +kernel
def bX7_copy_7 : List (Nat × Instr) := [(7, .iload_n 3)]
theorem bX7_copy_7_ok : ∀ q ∈ bX7_copy_7, decode mX7_copy.2.1 q.1 = .ok (q.2, aLn q.2) := by decide +kernel
def bX7_copy_14 : List (Nat × Instr) := [(14, .iconst (-1))]
theorem bX7_copy_14_ok : ∀ q ∈ bX7_copy_14, decode mX7_copy.2.1 q.1 = .ok (q.2, aLn q.2) := by decide +kernel
def bX7_copy_16 : List (Nat × Instr) := [(16, .aload_n 0), (17, .getfield 31), (20, .iload_n 1), (21, .iaload)]
theorem bX7_copy_16_ok : ∀ q ∈ bX7_copy_16, decode mX7_copy.2.1 q.1 = .ok (q.2, aLn q.2) := by decide +kernel
def bX7_copy_25 : List (Nat × Instr) := [(25, .aload_n 0), (26, .getfield 31), (29, .iload_n 3), (30, .iaload)]
theorem bX7_copy_25_ok : ∀ q ∈ bX7_copy_25, decode mX7_copy.2.1 q.1 = .ok (q.2, aLn q.2) := by decide +kernel
def bX7_copy_34 : List (Nat × Instr) := [(34, .bipush (-11))]
theorem bX7_copy_34_ok : ∀ q ∈ bX7_copy_34, decode mX7_copy.2.1 q.1 = .ok (q.2, aLn q.2) := by decide +kernel
def bX7_copy_37 : List (Nat × Instr) := [(37, .aload_n 0), (38, .getfield 31), (41, .iload_n 1), (42, .iaload), (43, .iconst 2)]
theorem bX7_copy_37_ok : ∀ q ∈ bX7_copy_37, decode mX7_copy.2.1 q.1 = .ok (q.2, aLn q.2) := by decide +kernel
def bX7_copy_47 : List (Nat × Instr) := [(47, .aload_n 0), (48, .getfield 31), (51, .iload_n 3), (52, .iaload), (53, .iconst 2)]
theorem bX7_copy_47_ok : ∀ q ∈ bX7_copy_47, decode mX7_copy.2.1 q.1 = .ok (q.2, aLn q.2) := by decide +kernel
def bX7_copy_57 : List (Nat × Instr) := [(57, .aload_n 0), (58, .getfield 40), (61, .iload_n 1), (62, .iaload), (63, .aload_n 0), (64, .getfield 40), (67, .iload_n 3), (68, .iaload)]
theorem bX7_copy_57_ok : ∀ q ∈ bX7_copy_57, decode mX7_copy.2.1 q.1 = .ok (q.2, aLn q.2) := by decide +kernel
def bX7_copy_72 : List (Nat × Instr) := [(72, .bipush (-12))]
theorem bX7_copy_72_ok : ∀ q ∈ bX7_copy_72, decode mX7_copy.2.1 q.1 = .ok (q.2, aLn q.2) := by decide +kernel
def bX7_copy_75 : List (Nat × Instr) := [(75, .iload 5)]
theorem bX7_copy_75_ok : ∀ q ∈ bX7_copy_75, decode mX7_copy.2.1 q.1 = .ok (q.2, aLn q.2) := by decide +kernel
def bX7_copy_80 : List (Nat × Instr) := [(80, .iload_n 2)]
theorem bX7_copy_80_ok : ∀ q ∈ bX7_copy_80, decode mX7_copy.2.1 q.1 = .ok (q.2, aLn q.2) := by decide +kernel
def bX7_copy_84 : List (Nat × Instr) := [(84, .iload 4)]
theorem bX7_copy_84_ok : ∀ q ∈ bX7_copy_84, decode mX7_copy.2.1 q.1 = .ok (q.2, aLn q.2) := by decide +kernel
def bX7_copy_89 : List (Nat × Instr) := [(89, .iload 5), (91, .aload_n 0), (92, .getfield 43), (95, .iload_n 1), (96, .iaload), (97, .iload_n 2), (98, .isub)]
theorem bX7_copy_89_ok : ∀ q ∈ bX7_copy_89, decode mX7_copy.2.1 q.1 = .ok (q.2, aLn q.2) := by decide +kernel
def bX7_copy_102 : List (Nat × Instr) := [(102, .iload 5), (104, .aload_n 0), (105, .getfield 43), (108, .iload_n 3), (109, .iaload), (110, .iload 4), (112, .isub)]
theorem bX7_copy_102_ok : ∀ q ∈ bX7_copy_102, decode mX7_copy.2.1 q.1 = .ok (q.2, aLn q.2) := by decide +kernel
def bX7_copy_116 : List (Nat × Instr) := [(116, .bipush (-13))]
theorem bX7_copy_116_ok : ∀ q ∈ bX7_copy_116, decode mX7_copy.2.1 q.1 = .ok (q.2, aLn q.2) := by decide +kernel
def bX7_copy_119 : List (Nat × Instr) := [(119, .iconst 0), (120, .istore 6)]
theorem bX7_copy_119_ok : ∀ q ∈ bX7_copy_119, decode mX7_copy.2.1 q.1 = .ok (q.2, aLn q.2) := by decide +kernel
def bX7_copy_122 : List (Nat × Instr) := [(122, .iload 6), (124, .iload 5)]
theorem bX7_copy_122_ok : ∀ q ∈ bX7_copy_122, decode mX7_copy.2.1 q.1 = .ok (q.2, aLn q.2) := by decide +kernel
def bX7_copy_129 : List (Nat × Instr) := [(129, .iload_n 2), (130, .iload 4)]
theorem bX7_copy_129_ok : ∀ q ∈ bX7_copy_129, decode mX7_copy.2.1 q.1 = .ok (q.2, aLn q.2) := by decide +kernel
def bX7_copy_135 : List (Nat × Instr) := [(135, .iload 6), (137, .goto 10)]
theorem bX7_copy_135_ok : ∀ q ∈ bX7_copy_135, decode mX7_copy.2.1 q.1 = .ok (q.2, aLn q.2) := by decide +kernel
def bX7_copy_140 : List (Nat × Instr) := [(140, .iload 5), (142, .iconst 1), (143, .isub), (144, .iload 6), (146, .isub)]
theorem bX7_copy_140_ok : ∀ q ∈ bX7_copy_140, decode mX7_copy.2.1 q.1 = .ok (q.2, aLn q.2) := by decide +kernel
def bX7_copy_147 : List (Nat × Instr) := [(147, .istore 7), (149, .aload_n 0), (150, .getfield 46), (153, .bipush 100), (155, .iload_n 3), (156, .imul), (157, .iload 4), (159, .iadd), (160, .iload 7), (162, .iadd), (163, .aload_n 0), (164, .getfield 46), (167, .bipush 100), (169, .iload_n 1), (170, .imul), (171, .iload_n 2), (172, .iadd), (173, .iload 7), (175, .iadd), (176, .iaload), (177, .iastore), (178, .iinc 6 1), (181, .goto (-59))]
theorem bX7_copy_147_ok : ∀ q ∈ bX7_copy_147, decode mX7_copy.2.1 q.1 = .ok (q.2, aLn q.2) := by decide +kernel
def bX7_copy_184 : List (Nat × Instr) := [(184, .iload 5)]
theorem bX7_copy_184_ok : ∀ q ∈ bX7_copy_184, decode mX7_copy.2.1 q.1 = .ok (q.2, aLn q.2) := by decide +kernel
theorem dX7_copy_1 : decode mX7_copy.2.1 1 = .ok (.invokestatic 256, 3) := by decide +kernel
theorem dX7_copy_4 : decode mX7_copy.2.1 4 = .ok (.ifCond .eq 10, 3) := by decide +kernel
theorem dX7_copy_8 : decode mX7_copy.2.1 8 = .ok (.invokestatic 256, 3) := by decide +kernel
theorem dX7_copy_11 : decode mX7_copy.2.1 11 = .ok (.ifCond .ne 5, 3) := by decide +kernel
theorem dX7_copy_15 : decode mX7_copy.2.1 15 = .ok (.ireturn, 1) := by decide +kernel
theorem dX7_copy_22 : decode mX7_copy.2.1 22 = .ok (.ifCond .eq 12, 3) := by decide +kernel
theorem dX7_copy_31 : decode mX7_copy.2.1 31 = .ok (.ifCond .ne 6, 3) := by decide +kernel
theorem dX7_copy_36 : decode mX7_copy.2.1 36 = .ok (.ireturn, 1) := by decide +kernel
theorem dX7_copy_44 : decode mX7_copy.2.1 44 = .ok (.if_icmp .ne 28, 3) := by decide +kernel
theorem dX7_copy_54 : decode mX7_copy.2.1 54 = .ok (.if_icmp .ne 18, 3) := by decide +kernel
theorem dX7_copy_69 : decode mX7_copy.2.1 69 = .ok (.if_icmp .eq 6, 3) := by decide +kernel
theorem dX7_copy_74 : decode mX7_copy.2.1 74 = .ok (.ireturn, 1) := by decide +kernel
theorem dX7_copy_77 : decode mX7_copy.2.1 77 = .ok (.ifCond .lt 39, 3) := by decide +kernel
theorem dX7_copy_81 : decode mX7_copy.2.1 81 = .ok (.ifCond .lt 35, 3) := by decide +kernel
theorem dX7_copy_86 : decode mX7_copy.2.1 86 = .ok (.ifCond .lt 30, 3) := by decide +kernel
theorem dX7_copy_99 : decode mX7_copy.2.1 99 = .ok (.if_icmp .gt 17, 3) := by decide +kernel
theorem dX7_copy_113 : decode mX7_copy.2.1 113 = .ok (.if_icmp .le 6, 3) := by decide +kernel
theorem dX7_copy_118 : decode mX7_copy.2.1 118 = .ok (.ireturn, 1) := by decide +kernel
theorem dX7_copy_126 : decode mX7_copy.2.1 126 = .ok (.if_icmp .ge 58, 3) := by decide +kernel
theorem dX7_copy_132 : decode mX7_copy.2.1 132 = .ok (.if_icmp .le 8, 3) := by decide +kernel
theorem dX7_copy_186 : decode mX7_copy.2.1 186 = .ok (.ireturn, 1) := by decide +kernel
def bX7_costBy_0 : List (Nat × Instr) := [(0, .iload_n 0)]
theorem bX7_costBy_0_ok : ∀ q ∈ bX7_costBy_0, decode mX7_costBy.2.1 q.1 = .ok (q.2, aLn q.2) := by decide +kernel
def bX7_costBy_44 : List (Nat × Instr) := [(44, .iconst 1)]
theorem bX7_costBy_44_ok : ∀ q ∈ bX7_costBy_44, decode mX7_costBy.2.1 q.1 = .ok (q.2, aLn q.2) := by decide +kernel
def bX7_costBy_46 : List (Nat × Instr) := [(46, .bipush 6)]
theorem bX7_costBy_46_ok : ∀ q ∈ bX7_costBy_46, decode mX7_costBy.2.1 q.1 = .ok (q.2, aLn q.2) := by decide +kernel
def bX7_costBy_49 : List (Nat × Instr) := [(49, .iconst 1), (50, .iload_n 1), (51, .iadd)]
theorem bX7_costBy_49_ok : ∀ q ∈ bX7_costBy_49, decode mX7_costBy.2.1 q.1 = .ok (q.2, aLn q.2) := by decide +kernel
def bX7_costBy_53 : List (Nat × Instr) := [(53, .iconst 0)]
theorem bX7_costBy_53_ok : ∀ q ∈ bX7_costBy_53, decode mX7_costBy.2.1 q.1 = .ok (q.2, aLn q.2) := by decide +kernel
def bX7_costBy_55 : List (Nat × Instr) := [(55, .bipush 8)]
theorem bX7_costBy_55_ok : ∀ q ∈ bX7_costBy_55, decode mX7_costBy.2.1 q.1 = .ok (q.2, aLn q.2) := by decide +kernel
def bX7_costBy_58 : List (Nat × Instr) := [(58, .iconst 4)]
theorem bX7_costBy_58_ok : ∀ q ∈ bX7_costBy_58, decode mX7_costBy.2.1 q.1 = .ok (q.2, aLn q.2) := by decide +kernel
theorem dX7_costBy_1 : decode mX7_costBy.2.1 1 = .ok (.tableswitch 57 1 7 #[43, 45, 48, 52, 54, 43, 43], 43) := by decide +kernel
theorem dX7_costBy_45 : decode mX7_costBy.2.1 45 = .ok (.ireturn, 1) := by decide +kernel
theorem dX7_costBy_48 : decode mX7_costBy.2.1 48 = .ok (.ireturn, 1) := by decide +kernel
theorem dX7_costBy_52 : decode mX7_costBy.2.1 52 = .ok (.ireturn, 1) := by decide +kernel
theorem dX7_costBy_54 : decode mX7_costBy.2.1 54 = .ok (.ireturn, 1) := by decide +kernel
theorem dX7_costBy_57 : decode mX7_costBy.2.1 57 = .ok (.ireturn, 1) := by decide +kernel
theorem dX7_costBy_59 : decode mX7_costBy.2.1 59 = .ok (.ireturn, 1) := by decide +kernel
def bX7_cost_0 : List (Nat × Instr) := [(0, .aload_n 0), (1, .iload_n 1)]
theorem bX7_cost_0_ok : ∀ q ∈ bX7_cost_0, decode mX7_cost.2.1 q.1 = .ok (q.2, aLn q.2) := by decide +kernel
def bX7_cost_5 : List (Nat × Instr) := [(5, .istore_n 2), (6, .iload_n 2)]
theorem bX7_cost_5_ok : ∀ q ∈ bX7_cost_5, decode mX7_cost.2.1 q.1 = .ok (q.2, aLn q.2) := by decide +kernel
def bX7_cost_10 : List (Nat × Instr) := [(10, .iload_n 2), (11, .goto 18)]
theorem bX7_cost_10_ok : ∀ q ∈ bX7_cost_10, decode mX7_cost.2.1 q.1 = .ok (q.2, aLn q.2) := by decide +kernel
def bX7_cost_14 : List (Nat × Instr) := [(14, .aload_n 0), (15, .getfield 34), (18, .iload_n 1), (19, .iaload), (20, .aload_n 0), (21, .getfield 37), (24, .iload_n 1), (25, .iaload)]
theorem bX7_cost_14_ok : ∀ q ∈ bX7_cost_14, decode mX7_cost.2.1 q.1 = .ok (q.2, aLn q.2) := by decide +kernel
theorem dX7_cost_2 : decode mX7_cost.2.1 2 = .ok (.invokevirtual 164, 3) := by decide +kernel
theorem dX7_cost_7 : decode mX7_cost.2.1 7 = .ok (.ifCond .eq 7, 3) := by decide +kernel
theorem dX7_cost_26 : decode mX7_cost.2.1 26 = .ok (.invokestatic 259, 3) := by decide +kernel
theorem dX7_cost_29 : decode mX7_cost.2.1 29 = .ok (.ireturn, 1) := by decide +kernel
def bX7_toss_0 : List (Nat × Instr) := [(0, .aload_n 0), (1, .iload_n 1)]
theorem bX7_toss_0_ok : ∀ q ∈ bX7_toss_0, decode mX7_toss.2.1 q.1 = .ok (q.2, aLn q.2) := by decide +kernel
def bX7_toss_5 : List (Nat × Instr) := [(5, .istore_n 2), (6, .iload_n 2)]
theorem bX7_toss_5_ok : ∀ q ∈ bX7_toss_5, decode mX7_toss.2.1 q.1 = .ok (q.2, aLn q.2) := by decide +kernel
def bX7_toss_10 : List (Nat × Instr) := [(10, .iload_n 2)]
theorem bX7_toss_10_ok : ∀ q ∈ bX7_toss_10, decode mX7_toss.2.1 q.1 = .ok (q.2, aLn q.2) := by decide +kernel
def bX7_toss_12 : List (Nat × Instr) := [(12, .aload_n 0), (13, .getfield 34), (16, .iload_n 1), (17, .iaload), (18, .istore_n 3), (19, .aload_n 0), (20, .getfield 37), (23, .iload_n 1), (24, .iaload), (25, .istore 4), (27, .iload_n 3), (28, .iconst 1)]
theorem bX7_toss_12_ok : ∀ q ∈ bX7_toss_12, decode mX7_toss.2.1 q.1 = .ok (q.2, aLn q.2) := by decide +kernel
def bX7_toss_32 : List (Nat × Instr) := [(32, .iload_n 3), (33, .iconst 3)]
theorem bX7_toss_32_ok : ∀ q ∈ bX7_toss_32, decode mX7_toss.2.1 q.1 = .ok (q.2, aLn q.2) := by decide +kernel
def bX7_toss_37 : List (Nat × Instr) := [(37, .iload_n 3), (38, .bipush 6)]
theorem bX7_toss_37_ok : ∀ q ∈ bX7_toss_37, decode mX7_toss.2.1 q.1 = .ok (q.2, aLn q.2) := by decide +kernel
def bX7_toss_43 : List (Nat × Instr) := [(43, .iload 4)]
theorem bX7_toss_43_ok : ∀ q ∈ bX7_toss_43, decode mX7_toss.2.1 q.1 = .ok (q.2, aLn q.2) := by decide +kernel
def bX7_toss_48 : List (Nat × Instr) := [(48, .bipush (-15))]
theorem bX7_toss_48_ok : ∀ q ∈ bX7_toss_48, decode mX7_toss.2.1 q.1 = .ok (q.2, aLn q.2) := by decide +kernel
def bX7_toss_51 : List (Nat × Instr) := [(51, .iload_n 3), (52, .bipush 7)]
theorem bX7_toss_51_ok : ∀ q ∈ bX7_toss_51, decode mX7_toss.2.1 q.1 = .ok (q.2, aLn q.2) := by decide +kernel
def bX7_toss_57 : List (Nat × Instr) := [(57, .sipush 200), (60, .iload_n 3), (61, .iload 4)]
theorem bX7_toss_57_ok : ∀ q ∈ bX7_toss_57, decode mX7_toss.2.1 q.1 = .ok (q.2, aLn q.2) := by decide +kernel
def bX7_toss_66 : List (Nat × Instr) := [(66, .iadd), (67, .goto 23)]
theorem bX7_toss_66_ok : ∀ q ∈ bX7_toss_66, decode mX7_toss.2.1 q.1 = .ok (q.2, aLn q.2) := by decide +kernel
def bX7_toss_70 : List (Nat × Instr) := [(70, .iload_n 3), (71, .iconst 2)]
theorem bX7_toss_70_ok : ∀ q ∈ bX7_toss_70, decode mX7_toss.2.1 q.1 = .ok (q.2, aLn q.2) := by decide +kernel
def bX7_toss_75 : List (Nat × Instr) := [(75, .iload_n 3), (76, .iconst 4)]
theorem bX7_toss_75_ok : ∀ q ∈ bX7_toss_75, decode mX7_toss.2.1 q.1 = .ok (q.2, aLn q.2) := by decide +kernel
def bX7_toss_80 : List (Nat × Instr) := [(80, .bipush 100), (82, .iload 4), (84, .iadd), (85, .goto 5)]
theorem bX7_toss_80_ok : ∀ q ∈ bX7_toss_80, decode mX7_toss.2.1 q.1 = .ok (q.2, aLn q.2) := by decide +kernel
def bX7_toss_88 : List (Nat × Instr) := [(88, .iload 4)]
theorem bX7_toss_88_ok : ∀ q ∈ bX7_toss_88, decode mX7_toss.2.1 q.1 = .ok (q.2, aLn q.2) := by decide +kernel
theorem dX7_toss_2 : decode mX7_toss.2.1 2 = .ok (.invokevirtual 164, 3) := by decide +kernel
theorem dX7_toss_7 : decode mX7_toss.2.1 7 = .ok (.ifCond .eq 5, 3) := by decide +kernel
theorem dX7_toss_11 : decode mX7_toss.2.1 11 = .ok (.ireturn, 1) := by decide +kernel
theorem dX7_toss_29 : decode mX7_toss.2.1 29 = .ok (.if_icmp .eq 19, 3) := by decide +kernel
theorem dX7_toss_34 : decode mX7_toss.2.1 34 = .ok (.if_icmp .eq 14, 3) := by decide +kernel
theorem dX7_toss_40 : decode mX7_toss.2.1 40 = .ok (.if_icmp .eq 8, 3) := by decide +kernel
theorem dX7_toss_45 : decode mX7_toss.2.1 45 = .ok (.ifCond .ne 6, 3) := by decide +kernel
theorem dX7_toss_50 : decode mX7_toss.2.1 50 = .ok (.ireturn, 1) := by decide +kernel
theorem dX7_toss_54 : decode mX7_toss.2.1 54 = .ok (.if_icmp .ne 16, 3) := by decide +kernel
theorem dX7_toss_63 : decode mX7_toss.2.1 63 = .ok (.invokestatic 61, 3) := by decide +kernel
theorem dX7_toss_72 : decode mX7_toss.2.1 72 = .ok (.if_icmp .eq 8, 3) := by decide +kernel
theorem dX7_toss_77 : decode mX7_toss.2.1 77 = .ok (.if_icmp .ne 11, 3) := by decide +kernel
theorem dX7_toss_90 : decode mX7_toss.2.1 90 = .ok (.ireturn, 1) := by decide +kernel
end
section
/-! ===== links ===== -/
theorem lX6_54 : aLV "OnlyInDisguise" 54 mX4_lackOfRow 1 3 := ⟨⟨in_aTbl 209 (by decide +kernel) rfl, in_aTbl 210 (by decide +kernel) rfl, in_aTbl 211 (by decide +kernel) rfl, in_aTbl 47 (by decide +kernel) rfl, in_aTbl 212 (by decide +kernel) rfl⟩, by decide +kernel, by decide, ⟨(RX4, TX4, 6), rfl, rfl⟩⟩
theorem lX6_58 : aLV "OnlyInDisguise" 58 mX4_holdsBytes 1 3 := ⟨⟨in_aTbl 220 (by decide +kernel) rfl, in_aTbl 221 (by decide +kernel) rfl, in_aTbl 222 (by decide +kernel) rfl, in_aTbl 47 (by decide +kernel) rfl, in_aTbl 223 (by decide +kernel) rfl⟩, by decide +kernel, by decide, ⟨(RX4, TX4, 6), rfl, rfl⟩⟩
theorem lX6_62 : aLS "OnlyInDisguise" 62 mX5_brokenPlace 2 := ⟨⟨in_aTbl 224 (by decide +kernel) rfl, in_aTbl 225 (by decide +kernel) rfl, in_aTbl 51 (by decide +kernel) rfl, in_aTbl 226 (by decide +kernel) rfl⟩, by decide +kernel, by decide⟩
theorem lX6_68 : aLV "OnlyInDisguise" 68 mX0_becomes 1 0 := ⟨⟨in_aTbl 243 (by decide +kernel) rfl, in_aTbl 244 (by decide +kernel) rfl, in_aTbl 245 (by decide +kernel) rfl, in_aTbl 46 (by decide +kernel) rfl, in_aTbl 246 (by decide +kernel) rfl⟩, by decide +kernel, by decide, ⟨(RX0, TX0, 11), rfl, rfl⟩⟩
theorem lX6_72 : aLS "OnlyInDisguise" 72 mX5_obeyed 3 := ⟨⟨in_aTbl 247 (by decide +kernel) rfl, in_aTbl 248 (by decide +kernel) rfl, in_aTbl 51 (by decide +kernel) rfl, in_aTbl 249 (by decide +kernel) rfl⟩, by decide +kernel, by decide⟩
theorem lX6_76 : aLV "OnlyInDisguise" 76 mX0_isThere 1 0 := ⟨⟨in_aTbl 336 (by decide +kernel) rfl, in_aTbl 270 (by decide +kernel) rfl, in_aTbl 271 (by decide +kernel) rfl, in_aTbl 46 (by decide +kernel) rfl, in_aTbl 272 (by decide +kernel) rfl⟩, by decide +kernel, by decide, ⟨(RX0, TX0, 11), rfl, rfl⟩⟩
theorem lX6_94 : aLS "OnlyInDisguise" 94 mX6_orNone 1 := ⟨⟨in_aTbl 337 (by decide +kernel) rfl, in_aTbl 338 (by decide +kernel) rfl, in_aTbl 45 (by decide +kernel) rfl, in_aTbl 339 (by decide +kernel) rfl⟩, by decide +kernel, by decide⟩
theorem lX6_97 : aLV "OnlyInDisguise" 97 mX0_bearing 1 0 := ⟨⟨in_aTbl 340 (by decide +kernel) rfl, in_aTbl 322 (by decide +kernel) rfl, in_aTbl 323 (by decide +kernel) rfl, in_aTbl 46 (by decide +kernel) rfl, in_aTbl 324 (by decide +kernel) rfl⟩, by decide +kernel, by decide, ⟨(RX0, TX0, 11), rfl, rfl⟩⟩
theorem lX6_100 : aLS "OnlyInDisguise" 100 mX3_forgotten 2 := ⟨⟨in_aTbl 341 (by decide +kernel) rfl, in_aTbl 298 (by decide +kernel) rfl, in_aTbl 52 (by decide +kernel) rfl, in_aTbl 299 (by decide +kernel) rfl⟩, by decide +kernel, by decide⟩
theorem lX6_106 : aLV "OnlyInDisguise" 106 mX0_chain 1 0 := ⟨⟨in_aTbl 342 (by decide +kernel) rfl, in_aTbl 343 (by decide +kernel) rfl, in_aTbl 344 (by decide +kernel) rfl, in_aTbl 46 (by decide +kernel) rfl, in_aTbl 345 (by decide +kernel) rfl⟩, by decide +kernel, by decide, ⟨(RX0, TX0, 11), rfl, rfl⟩⟩
theorem lX6_109 : aLS "OnlyInDisguise" 109 mX6_isOffice 1 := ⟨⟨in_aTbl 356 (by decide +kernel) rfl, in_aTbl 264 (by decide +kernel) rfl, in_aTbl 45 (by decide +kernel) rfl, in_aTbl 265 (by decide +kernel) rfl⟩, by decide +kernel, by decide⟩
theorem lX6_118 : aLV "OnlyInDisguise" 118 mX0_heldIn 1 0 := ⟨⟨in_aTbl 357 (by decide +kernel) rfl, in_aTbl 315 (by decide +kernel) rfl, in_aTbl 316 (by decide +kernel) rfl, in_aTbl 46 (by decide +kernel) rfl, in_aTbl 317 (by decide +kernel) rfl⟩, by decide +kernel, by decide, ⟨(RX0, TX0, 11), rfl, rfl⟩⟩
theorem lX6_121 : aLS "OnlyInDisguise" 121 mX6_isCostume 1 := ⟨⟨in_aTbl 362 (by decide +kernel) rfl, in_aTbl 363 (by decide +kernel) rfl, in_aTbl 45 (by decide +kernel) rfl, in_aTbl 364 (by decide +kernel) rfl⟩, by decide +kernel, by decide⟩
theorem lX6_128 : aLS "OnlyInDisguise" 128 mX3_shown 4 := ⟨⟨in_aTbl 365 (by decide +kernel) rfl, in_aTbl 308 (by decide +kernel) rfl, in_aTbl 52 (by decide +kernel) rfl, in_aTbl 309 (by decide +kernel) rfl⟩, by decide +kernel, by decide⟩
theorem lX6_132 : aLS "OnlyInDisguise" 132 mX6_isShelf 1 := ⟨⟨in_aTbl 370 (by decide +kernel) rfl, in_aTbl 218 (by decide +kernel) rfl, in_aTbl 45 (by decide +kernel) rfl, in_aTbl 219 (by decide +kernel) rfl⟩, by decide +kernel, by decide⟩
theorem lX6_135 : aLS "OnlyInDisguise" 135 mX6_isMate 1 := ⟨⟨in_aTbl 371 (by decide +kernel) rfl, in_aTbl 254 (by decide +kernel) rfl, in_aTbl 45 (by decide +kernel) rfl, in_aTbl 255 (by decide +kernel) rfl⟩, by decide +kernel, by decide⟩
theorem lX6_138 : aLV "OnlyInDisguise" 138 mX4_lackOfOne 1 3 := ⟨⟨in_aTbl 372 (by decide +kernel) rfl, in_aTbl 373 (by decide +kernel) rfl, in_aTbl 374 (by decide +kernel) rfl, in_aTbl 47 (by decide +kernel) rfl, in_aTbl 375 (by decide +kernel) rfl⟩, by decide +kernel, by decide, ⟨(RX4, TX4, 6), rfl, rfl⟩⟩
theorem lX6_141 : aLV "OnlyInDisguise" 141 mX4_kindOn 1 3 := ⟨⟨in_aTbl 376 (by decide +kernel) rfl, in_aTbl 377 (by decide +kernel) rfl, in_aTbl 378 (by decide +kernel) rfl, in_aTbl 47 (by decide +kernel) rfl, in_aTbl 379 (by decide +kernel) rfl⟩, by decide +kernel, by decide, ⟨(RX4, TX4, 6), rfl, rfl⟩⟩
theorem lX6_144 : aLV "OnlyInDisguise" 144 mX4_figureOn 1 3 := ⟨⟨in_aTbl 380 (by decide +kernel) rfl, in_aTbl 381 (by decide +kernel) rfl, in_aTbl 382 (by decide +kernel) rfl, in_aTbl 47 (by decide +kernel) rfl, in_aTbl 383 (by decide +kernel) rfl⟩, by decide +kernel, by decide, ⟨(RX4, TX4, 6), rfl, rfl⟩⟩
theorem lX6_147 : aLV "OnlyInDisguise" 147 mX0_welcome 3 0 := ⟨⟨in_aTbl 384 (by decide +kernel) rfl, in_aTbl 257 (by decide +kernel) rfl, in_aTbl 258 (by decide +kernel) rfl, in_aTbl 46 (by decide +kernel) rfl, in_aTbl 259 (by decide +kernel) rfl⟩, by decide +kernel, by decide, ⟨(RX0, TX0, 11), rfl, rfl⟩⟩
theorem lX6_151 : aLV "OnlyInDisguise" 151 mX0_install 2 0 := ⟨⟨in_aTbl 389 (by decide +kernel) rfl, in_aTbl 274 (by decide +kernel) rfl, in_aTbl 275 (by decide +kernel) rfl, in_aTbl 46 (by decide +kernel) rfl, in_aTbl 276 (by decide +kernel) rfl⟩, by decide +kernel, by decide, ⟨(RX0, TX0, 11), rfl, rfl⟩⟩
theorem lX6_155 : aLV "OnlyInDisguise" 155 mX0_vacate 1 0 := ⟨⟨in_aTbl 394 (by decide +kernel) rfl, in_aTbl 280 (by decide +kernel) rfl, in_aTbl 281 (by decide +kernel) rfl, in_aTbl 46 (by decide +kernel) rfl, in_aTbl 282 (by decide +kernel) rfl⟩, by decide +kernel, by decide, ⟨(RX0, TX0, 11), rfl, rfl⟩⟩
theorem lX6_159 : aLV "OnlyInDisguise" 159 mX0_pass 1 0 := ⟨⟨in_aTbl 411 (by decide +kernel) rfl, in_aTbl 412 (by decide +kernel) rfl, in_aTbl 413 (by decide +kernel) rfl, in_aTbl 46 (by decide +kernel) rfl, in_aTbl 414 (by decide +kernel) rfl⟩, by decide +kernel, by decide, ⟨(RX0, TX0, 11), rfl, rfl⟩⟩
theorem lX6_165 : aLS "OnlyInDisguise" 165 mX6_isAhead 1 := ⟨⟨in_aTbl 420 (by decide +kernel) rfl, in_aTbl 421 (by decide +kernel) rfl, in_aTbl 45 (by decide +kernel) rfl, in_aTbl 422 (by decide +kernel) rfl⟩, by decide +kernel, by decide⟩
theorem lX6_168 : aLV "OnlyInDisguise" 168 mX6_foresee 1 4 := ⟨⟨in_aTbl 423 (by decide +kernel) rfl, in_aTbl 425 (by decide +kernel) rfl, in_aTbl 3 (by decide +kernel) rfl, in_aTbl 45 (by decide +kernel) rfl, in_aTbl 426 (by decide +kernel) rfl⟩, by decide +kernel, by decide, ⟨(RX6, TX6, 9), rfl, rfl⟩⟩
theorem lX6_171 : aLS "OnlyInDisguise" 171 mX6_isChoice 1 := ⟨⟨in_aTbl 435 (by decide +kernel) rfl, in_aTbl 436 (by decide +kernel) rfl, in_aTbl 45 (by decide +kernel) rfl, in_aTbl 437 (by decide +kernel) rfl⟩, by decide +kernel, by decide⟩
theorem lX6_174 : aLV "OnlyInDisguise" 174 mX0_heldBits 0 0 := ⟨⟨in_aTbl 438 (by decide +kernel) rfl, in_aTbl 439 (by decide +kernel) rfl, in_aTbl 440 (by decide +kernel) rfl, in_aTbl 46 (by decide +kernel) rfl, in_aTbl 441 (by decide +kernel) rfl⟩, by decide +kernel, by decide, ⟨(RX0, TX0, 11), rfl, rfl⟩⟩
theorem lX6_178 : aLV "OnlyInDisguise" 178 mX0_oneDay 0 0 := ⟨⟨in_aTbl 446 (by decide +kernel) rfl, in_aTbl 294 (by decide +kernel) rfl, in_aTbl 295 (by decide +kernel) rfl, in_aTbl 46 (by decide +kernel) rfl, in_aTbl 296 (by decide +kernel) rfl⟩, by decide +kernel, by decide, ⟨(RX0, TX0, 11), rfl, rfl⟩⟩
theorem lX6_181 : aLV "OnlyInDisguise" 181 mX0_lasting 2 0 := ⟨⟨in_aTbl 455 (by decide +kernel) rfl, in_aTbl 456 (by decide +kernel) rfl, in_aTbl 457 (by decide +kernel) rfl, in_aTbl 46 (by decide +kernel) rfl, in_aTbl 458 (by decide +kernel) rfl⟩, by decide +kernel, by decide, ⟨(RX0, TX0, 11), rfl, rfl⟩⟩
theorem lX6_184 : aLV "OnlyInDisguise" 184 mX6_fallenIn 3 4 := ⟨⟨in_aTbl 463 (by decide +kernel) rfl, in_aTbl 465 (by decide +kernel) rfl, in_aTbl 4 (by decide +kernel) rfl, in_aTbl 45 (by decide +kernel) rfl, in_aTbl 466 (by decide +kernel) rfl⟩, by decide +kernel, by decide, ⟨(RX6, TX6, 9), rfl, rfl⟩⟩
theorem lX6_187 : aLV "OnlyInDisguise" 187 mX1_weigh 1 1 := ⟨⟨in_aTbl 471 (by decide +kernel) rfl, in_aTbl 472 (by decide +kernel) rfl, in_aTbl 473 (by decide +kernel) rfl, in_aTbl 48 (by decide +kernel) rfl, in_aTbl 474 (by decide +kernel) rfl⟩, by decide +kernel, by decide, ⟨(RX1, TX1, 3), rfl, rfl⟩⟩
theorem lX6_190 : aLV "OnlyInDisguise" 190 mX1_most 0 1 := ⟨⟨in_aTbl 486 (by decide +kernel) rfl, in_aTbl 487 (by decide +kernel) rfl, in_aTbl 488 (by decide +kernel) rfl, in_aTbl 48 (by decide +kernel) rfl, in_aTbl 489 (by decide +kernel) rfl⟩, by decide +kernel, by decide, ⟨(RX1, TX1, 3), rfl, rfl⟩⟩
theorem lX6_193 : aLV "OnlyInDisguise" 193 mX1_chosen 1 1 := ⟨⟨in_aTbl 490 (by decide +kernel) rfl, in_aTbl 491 (by decide +kernel) rfl, in_aTbl 492 (by decide +kernel) rfl, in_aTbl 48 (by decide +kernel) rfl, in_aTbl 493 (by decide +kernel) rfl⟩, by decide +kernel, by decide, ⟨(RX1, TX1, 3), rfl, rfl⟩⟩
theorem lX6_199 : aLV "OnlyInDisguise" 199 mX6_fallenWithout 2 4 := ⟨⟨in_aTbl 502 (by decide +kernel) rfl, in_aTbl 504 (by decide +kernel) rfl, in_aTbl 8 (by decide +kernel) rfl, in_aTbl 45 (by decide +kernel) rfl, in_aTbl 505 (by decide +kernel) rfl⟩, by decide +kernel, by decide, ⟨(RX6, TX6, 9), rfl, rfl⟩⟩
theorem lX6_202 : aLV "OnlyInDisguise" 202 mX6_fallenChanged 3 4 := ⟨⟨in_aTbl 510 (by decide +kernel) rfl, in_aTbl 512 (by decide +kernel) rfl, in_aTbl 9 (by decide +kernel) rfl, in_aTbl 45 (by decide +kernel) rfl, in_aTbl 513 (by decide +kernel) rfl⟩, by decide +kernel, by decide, ⟨(RX6, TX6, 9), rfl, rfl⟩⟩
theorem lX6_205 : aLV "OnlyInDisguise" 205 mX0_heldCount 0 0 := ⟨⟨in_aTbl 518 (by decide +kernel) rfl, in_aTbl 519 (by decide +kernel) rfl, in_aTbl 520 (by decide +kernel) rfl, in_aTbl 46 (by decide +kernel) rfl, in_aTbl 521 (by decide +kernel) rfl⟩, by decide +kernel, by decide, ⟨(RX0, TX0, 11), rfl, rfl⟩⟩
theorem lX6_208 : aLV "OnlyInDisguise" 208 mX0_plainBits 0 0 := ⟨⟨in_aTbl 523 (by decide +kernel) rfl, in_aTbl 524 (by decide +kernel) rfl, in_aTbl 525 (by decide +kernel) rfl, in_aTbl 46 (by decide +kernel) rfl, in_aTbl 526 (by decide +kernel) rfl⟩, by decide +kernel, by decide, ⟨(RX0, TX0, 11), rfl, rfl⟩⟩
theorem lX6_211 : aLV "OnlyInDisguise" 211 mX0_alike 0 0 := ⟨⟨in_aTbl 531 (by decide +kernel) rfl, in_aTbl 532 (by decide +kernel) rfl, in_aTbl 533 (by decide +kernel) rfl, in_aTbl 46 (by decide +kernel) rfl, in_aTbl 534 (by decide +kernel) rfl⟩, by decide +kernel, by decide, ⟨(RX0, TX0, 11), rfl, rfl⟩⟩
theorem lX6_214 : aLV "OnlyInDisguise" 214 mX0_closest 0 0 := ⟨⟨in_aTbl 535 (by decide +kernel) rfl, in_aTbl 536 (by decide +kernel) rfl, in_aTbl 537 (by decide +kernel) rfl, in_aTbl 46 (by decide +kernel) rfl, in_aTbl 538 (by decide +kernel) rfl⟩, by decide +kernel, by decide, ⟨(RX0, TX0, 11), rfl, rfl⟩⟩
theorem lX6_217 : aLV "OnlyInDisguise" 217 mX6_stable 0 4 := ⟨⟨in_aTbl 539 (by decide +kernel) rfl, in_aTbl 541 (by decide +kernel) rfl, in_aTbl 11 (by decide +kernel) rfl, in_aTbl 45 (by decide +kernel) rfl, in_aTbl 542 (by decide +kernel) rfl⟩, by decide +kernel, by decide, ⟨(RX6, TX6, 9), rfl, rfl⟩⟩
theorem lX6_221 : aLV "OnlyInDisguise" 221 mX6_firstUnlike 3 4 := ⟨⟨in_aTbl 548 (by decide +kernel) rfl, in_aTbl 550 (by decide +kernel) rfl, in_aTbl 12 (by decide +kernel) rfl, in_aTbl 45 (by decide +kernel) rfl, in_aTbl 551 (by decide +kernel) rfl⟩, by decide +kernel, by decide, ⟨(RX6, TX6, 9), rfl, rfl⟩⟩
theorem lX6_224 : aLV "OnlyInDisguise" 224 mX6_playTwo 4 4 := ⟨⟨in_aTbl 575 (by decide +kernel) rfl, in_aTbl 577 (by decide +kernel) rfl, in_aTbl 14 (by decide +kernel) rfl, in_aTbl 45 (by decide +kernel) rfl, in_aTbl 578 (by decide +kernel) rfl⟩, by decide +kernel, by decide, ⟨(RX6, TX6, 9), rfl, rfl⟩⟩
theorem lX6_230 : aLV "OnlyInDisguise" 230 mX6_heldAfterScandals 3 4 := ⟨⟨in_aTbl 588 (by decide +kernel) rfl, in_aTbl 590 (by decide +kernel) rfl, in_aTbl 15 (by decide +kernel) rfl, in_aTbl 45 (by decide +kernel) rfl, in_aTbl 591 (by decide +kernel) rfl⟩, by decide +kernel, by decide, ⟨(RX6, TX6, 9), rfl, rfl⟩⟩
theorem lX6_234 : aLS "OnlyInDisguise" 234 mX6_chances 3 := ⟨⟨in_aTbl 596 (by decide +kernel) rfl, in_aTbl 597 (by decide +kernel) rfl, in_aTbl 45 (by decide +kernel) rfl, in_aTbl 598 (by decide +kernel) rfl⟩, by decide +kernel, by decide⟩
theorem lX6_238 : aLS "OnlyInDisguise" 238 mX6_inLeastTerms 3 := ⟨⟨in_aTbl 599 (by decide +kernel) rfl, in_aTbl 600 (by decide +kernel) rfl, in_aTbl 45 (by decide +kernel) rfl, in_aTbl 601 (by decide +kernel) rfl⟩, by decide +kernel, by decide⟩
theorem lX6_242 : aLV "OnlyInDisguise" 242 mX0_knownOfAll 0 0 := ⟨⟨in_aTbl 609 (by decide +kernel) rfl, in_aTbl 610 (by decide +kernel) rfl, in_aTbl 611 (by decide +kernel) rfl, in_aTbl 46 (by decide +kernel) rfl, in_aTbl 612 (by decide +kernel) rfl⟩, by decide +kernel, by decide, ⟨(RX0, TX0, 11), rfl, rfl⟩⟩
theorem lX6_245 : aLV "OnlyInDisguise" 245 mX4_lengthOf 1 3 := ⟨⟨in_aTbl 552 (by decide +kernel) rfl, in_aTbl 228 (by decide +kernel) rfl, in_aTbl 229 (by decide +kernel) rfl, in_aTbl 47 (by decide +kernel) rfl, in_aTbl 230 (by decide +kernel) rfl⟩, by decide +kernel, by decide, ⟨(RX4, TX4, 6), rfl, rfl⟩⟩
theorem lX6_248 : aLV "OnlyInDisguise" 248 mX4_valueAt 2 3 := ⟨⟨in_aTbl 562 (by decide +kernel) rfl, in_aTbl 232 (by decide +kernel) rfl, in_aTbl 233 (by decide +kernel) rfl, in_aTbl 47 (by decide +kernel) rfl, in_aTbl 234 (by decide +kernel) rfl⟩, by decide +kernel, by decide, ⟨(RX4, TX4, 6), rfl, rfl⟩⟩
theorem lX6_251 : aLV "OnlyInDisguise" 251 mX6_holderAsTold 1 4 := ⟨⟨in_aTbl 617 (by decide +kernel) rfl, in_aTbl 619 (by decide +kernel) rfl, in_aTbl 16 (by decide +kernel) rfl, in_aTbl 45 (by decide +kernel) rfl, in_aTbl 620 (by decide +kernel) rfl⟩, by decide +kernel, by decide, ⟨(RX6, TX6, 9), rfl, rfl⟩⟩
theorem lX6_254 : aLV "OnlyInDisguise" 254 mX2_start 1 2 := ⟨⟨in_aTbl 629 (by decide +kernel) rfl, in_aTbl 630 (by decide +kernel) rfl, in_aTbl 631 (by decide +kernel) rfl, in_aTbl 49 (by decide +kernel) rfl, in_aTbl 632 (by decide +kernel) rfl⟩, by decide +kernel, by decide, ⟨(RX2, TX2, 1), rfl, rfl⟩⟩
theorem lX6_257 : aLV "OnlyInDisguise" 257 mX6_oneYear 0 4 := ⟨⟨in_aTbl 633 (by decide +kernel) rfl, in_aTbl 635 (by decide +kernel) rfl, in_aTbl 17 (by decide +kernel) rfl, in_aTbl 45 (by decide +kernel) rfl, in_aTbl 636 (by decide +kernel) rfl⟩, by decide +kernel, by decide, ⟨(RX6, TX6, 9), rfl, rfl⟩⟩
theorem lX6_260 : aLV "OnlyInDisguise" 260 mX4_clear 1 3 := ⟨⟨in_aTbl 660 (by decide +kernel) rfl, in_aTbl 661 (by decide +kernel) rfl, in_aTbl 662 (by decide +kernel) rfl, in_aTbl 47 (by decide +kernel) rfl, in_aTbl 663 (by decide +kernel) rfl⟩, by decide +kernel, by decide, ⟨(RX4, TX4, 6), rfl, rfl⟩⟩
theorem lX6_263 : aLV "OnlyInDisguise" 263 mX4_placeOne 3 3 := ⟨⟨in_aTbl 664 (by decide +kernel) rfl, in_aTbl 665 (by decide +kernel) rfl, in_aTbl 666 (by decide +kernel) rfl, in_aTbl 47 (by decide +kernel) rfl, in_aTbl 667 (by decide +kernel) rfl⟩, by decide +kernel, by decide, ⟨(RX4, TX4, 6), rfl, rfl⟩⟩
theorem lX6_267 : aLV "OnlyInDisguise" 267 mX4_placeRow 3 3 := ⟨⟨in_aTbl 672 (by decide +kernel) rfl, in_aTbl 673 (by decide +kernel) rfl, in_aTbl 674 (by decide +kernel) rfl, in_aTbl 47 (by decide +kernel) rfl, in_aTbl 675 (by decide +kernel) rfl⟩, by decide +kernel, by decide, ⟨(RX4, TX4, 6), rfl, rfl⟩⟩
theorem lX6_270 : aLV "OnlyInDisguise" 270 mX4_hasPlace 2 3 := ⟨⟨in_aTbl 680 (by decide +kernel) rfl, in_aTbl 236 (by decide +kernel) rfl, in_aTbl 237 (by decide +kernel) rfl, in_aTbl 47 (by decide +kernel) rfl, in_aTbl 238 (by decide +kernel) rfl⟩, by decide +kernel, by decide, ⟨(RX4, TX4, 6), rfl, rfl⟩⟩
theorem lX6_274 : aLV "OnlyInDisguise" 274 mX4_write 3 3 := ⟨⟨in_aTbl 681 (by decide +kernel) rfl, in_aTbl 682 (by decide +kernel) rfl, in_aTbl 683 (by decide +kernel) rfl, in_aTbl 47 (by decide +kernel) rfl, in_aTbl 684 (by decide +kernel) rfl⟩, by decide +kernel, by decide, ⟨(RX4, TX4, 6), rfl, rfl⟩⟩
theorem lX6_291 : aLV "OnlyInDisguise" 291 mX4_haveOneSort 2 3 := ⟨⟨in_aTbl 692 (by decide +kernel) rfl, in_aTbl 693 (by decide +kernel) rfl, in_aTbl 694 (by decide +kernel) rfl, in_aTbl 47 (by decide +kernel) rfl, in_aTbl 695 (by decide +kernel) rfl⟩, by decide +kernel, by decide, ⟨(RX4, TX4, 6), rfl, rfl⟩⟩
theorem lX6_294 : aLV "OnlyInDisguise" 294 mX4_hasPlaces 3 3 := ⟨⟨in_aTbl 696 (by decide +kernel) rfl, in_aTbl 697 (by decide +kernel) rfl, in_aTbl 698 (by decide +kernel) rfl, in_aTbl 47 (by decide +kernel) rfl, in_aTbl 699 (by decide +kernel) rfl⟩, by decide +kernel, by decide, ⟨(RX4, TX4, 6), rfl, rfl⟩⟩
theorem lX6_297 : aLV "OnlyInDisguise" 297 mX4_move 5 3 := ⟨⟨in_aTbl 700 (by decide +kernel) rfl, in_aTbl 701 (by decide +kernel) rfl, in_aTbl 702 (by decide +kernel) rfl, in_aTbl 47 (by decide +kernel) rfl, in_aTbl 703 (by decide +kernel) rfl⟩, by decide +kernel, by decide, ⟨(RX4, TX4, 6), rfl, rfl⟩⟩
theorem lX6_301 : aLS "OnlyInDisguise" 301 mX3_price 2 := ⟨⟨in_aTbl 712 (by decide +kernel) rfl, in_aTbl 713 (by decide +kernel) rfl, in_aTbl 52 (by decide +kernel) rfl, in_aTbl 714 (by decide +kernel) rfl⟩, by decide +kernel, by decide⟩
theorem lX6_309 : aLS "OnlyInDisguise" 309 mX3_borne 2 := ⟨⟨in_aTbl 825 (by decide +kernel) rfl, in_aTbl 326 (by decide +kernel) rfl, in_aTbl 52 (by decide +kernel) rfl, in_aTbl 327 (by decide +kernel) rfl⟩, by decide +kernel, by decide⟩
theorem lX6_315 : aLV "OnlyInDisguise" 315 mX4_isSkipped 2 3 := ⟨⟨in_aTbl 553 (by decide +kernel) rfl, in_aTbl 554 (by decide +kernel) rfl, in_aTbl 555 (by decide +kernel) rfl, in_aTbl 47 (by decide +kernel) rfl, in_aTbl 556 (by decide +kernel) rfl⟩, by decide +kernel, by decide, ⟨(RX4, TX4, 6), rfl, rfl⟩⟩
theorem lX6_318 : aLV "OnlyInDisguise" 318 mX6_measured 2 4 := ⟨⟨in_aTbl 563 (by decide +kernel) rfl, in_aTbl 565 (by decide +kernel) rfl, in_aTbl 13 (by decide +kernel) rfl, in_aTbl 45 (by decide +kernel) rfl, in_aTbl 566 (by decide +kernel) rfl⟩, by decide +kernel, by decide, ⟨(RX6, TX6, 9), rfl, rfl⟩⟩
theorem lX6_321 : aLV "OnlyInDisguise" 321 mX0_sendHome 1 0 := ⟨⟨in_aTbl 579 (by decide +kernel) rfl, in_aTbl 580 (by decide +kernel) rfl, in_aTbl 581 (by decide +kernel) rfl, in_aTbl 46 (by decide +kernel) rfl, in_aTbl 582 (by decide +kernel) rfl⟩, by decide +kernel, by decide, ⟨(RX0, TX0, 11), rfl, rfl⟩⟩
theorem lX6_324 : aLV "OnlyInDisguise" 324 mX0_scandal 0 0 := ⟨⟨in_aTbl 592 (by decide +kernel) rfl, in_aTbl 593 (by decide +kernel) rfl, in_aTbl 594 (by decide +kernel) rfl, in_aTbl 46 (by decide +kernel) rfl, in_aTbl 595 (by decide +kernel) rfl⟩, by decide +kernel, by decide, ⟨(RX0, TX0, 11), rfl, rfl⟩⟩
theorem lX6_327 : aLS "OnlyInDisguise" 327 mX6_commonDivisor 2 := ⟨⟨in_aTbl 602 (by decide +kernel) rfl, in_aTbl 603 (by decide +kernel) rfl, in_aTbl 45 (by decide +kernel) rfl, in_aTbl 604 (by decide +kernel) rfl⟩, by decide +kernel, by decide⟩
theorem lX6_331 : aLV "OnlyInDisguise" 331 mX2_below 1 2 := ⟨⟨in_aTbl 637 (by decide +kernel) rfl, in_aTbl 638 (by decide +kernel) rfl, in_aTbl 639 (by decide +kernel) rfl, in_aTbl 49 (by decide +kernel) rfl, in_aTbl 640 (by decide +kernel) rfl⟩, by decide +kernel, by decide, ⟨(RX2, TX2, 1), rfl, rfl⟩⟩
theorem lX0_46 : aLN "OnlyInDisguise$Cabinet" 46 mX6_isOffice 1 := ⟨⟨by decide +kernel, in_aTbl 264 (by decide +kernel) rfl, in_aTbl 45 (by decide +kernel) rfl, in_aTbl 265 (by decide +kernel) rfl⟩, by decide +kernel, by decide⟩
theorem lX0_50 : aLV "OnlyInDisguise$Cabinet" 50 mX0_isThere 1 0 := ⟨⟨in_aTbl 278 (by decide +kernel) rfl, in_aTbl 270 (by decide +kernel) rfl, in_aTbl 271 (by decide +kernel) rfl, in_aTbl 46 (by decide +kernel) rfl, in_aTbl 272 (by decide +kernel) rfl⟩, by decide +kernel, by decide, ⟨(RX0, TX0, 11), rfl, rfl⟩⟩
theorem lX0_53 : aLV "OnlyInDisguise$Cabinet" 53 mX0_vacate 1 0 := ⟨⟨in_aTbl 279 (by decide +kernel) rfl, in_aTbl 280 (by decide +kernel) rfl, in_aTbl 281 (by decide +kernel) rfl, in_aTbl 46 (by decide +kernel) rfl, in_aTbl 282 (by decide +kernel) rfl⟩, by decide +kernel, by decide, ⟨(RX0, TX0, 11), rfl, rfl⟩⟩
theorem lX0_57 : aLS "OnlyInDisguise$Cabinet" 57 mX3_borne 2 := ⟨⟨in_aTbl 325 (by decide +kernel) rfl, in_aTbl 326 (by decide +kernel) rfl, in_aTbl 52 (by decide +kernel) rfl, in_aTbl 327 (by decide +kernel) rfl⟩, by decide +kernel, by decide⟩
theorem lX0_63 : aLV "OnlyInDisguise$Cabinet" 63 mX0_oneDay 0 0 := ⟨⟨in_aTbl 415 (by decide +kernel) rfl, in_aTbl 294 (by decide +kernel) rfl, in_aTbl 295 (by decide +kernel) rfl, in_aTbl 46 (by decide +kernel) rfl, in_aTbl 296 (by decide +kernel) rfl⟩, by decide +kernel, by decide, ⟨(RX0, TX0, 11), rfl, rfl⟩⟩
theorem lX0_66 : aLS "OnlyInDisguise$Cabinet" 66 mX3_forgotten 2 := ⟨⟨in_aTbl 297 (by decide +kernel) rfl, in_aTbl 298 (by decide +kernel) rfl, in_aTbl 52 (by decide +kernel) rfl, in_aTbl 299 (by decide +kernel) rfl⟩, by decide +kernel, by decide⟩
theorem lX0_69 : aLS "OnlyInDisguise$Cabinet" 69 mJ9_max_7cf53 2 := ⟨⟨in_aTbl 300 (by decide +kernel) rfl, in_aTbl 301 (by decide +kernel) rfl, in_aTbl 53 (by decide +kernel) rfl, in_aTbl 302 (by decide +kernel) rfl⟩, by decide +kernel, by decide⟩
theorem lX0_74 : aLV "OnlyInDisguise$Cabinet" 74 mX0_showing 1 0 := ⟨⟨in_aTbl 303 (by decide +kernel) rfl, in_aTbl 305 (by decide +kernel) rfl, in_aTbl 1 (by decide +kernel) rfl, in_aTbl 46 (by decide +kernel) rfl, in_aTbl 306 (by decide +kernel) rfl⟩, by decide +kernel, by decide, ⟨(RX0, TX0, 11), rfl, rfl⟩⟩
theorem lX0_78 : aLS "OnlyInDisguise$Cabinet" 78 mJ9_min_7cf53 2 := ⟨⟨in_aTbl 318 (by decide +kernel) rfl, in_aTbl 319 (by decide +kernel) rfl, in_aTbl 53 (by decide +kernel) rfl, in_aTbl 320 (by decide +kernel) rfl⟩, by decide +kernel, by decide⟩
theorem lX0_81 : aLV "OnlyInDisguise$Cabinet" 81 mX0_bearing 1 0 := ⟨⟨in_aTbl 321 (by decide +kernel) rfl, in_aTbl 322 (by decide +kernel) rfl, in_aTbl 323 (by decide +kernel) rfl, in_aTbl 46 (by decide +kernel) rfl, in_aTbl 324 (by decide +kernel) rfl⟩, by decide +kernel, by decide, ⟨(RX0, TX0, 11), rfl, rfl⟩⟩
theorem lX0_84 : aLV "OnlyInDisguise$Cabinet" 84 mX0_fall 2 0 := ⟨⟨in_aTbl 328 (by decide +kernel) rfl, in_aTbl 330 (by decide +kernel) rfl, in_aTbl 2 (by decide +kernel) rfl, in_aTbl 46 (by decide +kernel) rfl, in_aTbl 331 (by decide +kernel) rfl⟩, by decide +kernel, by decide, ⟨(RX0, TX0, 11), rfl, rfl⟩⟩
theorem lX0_88 : aLS "OnlyInDisguise$Cabinet" 88 mX3_shown 4 := ⟨⟨in_aTbl 307 (by decide +kernel) rfl, in_aTbl 308 (by decide +kernel) rfl, in_aTbl 52 (by decide +kernel) rfl, in_aTbl 309 (by decide +kernel) rfl⟩, by decide +kernel, by decide⟩
theorem lX0_92 : aLV "OnlyInDisguise$Cabinet" 92 mX0_heldIn 1 0 := ⟨⟨in_aTbl 314 (by decide +kernel) rfl, in_aTbl 315 (by decide +kernel) rfl, in_aTbl 316 (by decide +kernel) rfl, in_aTbl 46 (by decide +kernel) rfl, in_aTbl 317 (by decide +kernel) rfl⟩, by decide +kernel, by decide, ⟨(RX0, TX0, 11), rfl, rfl⟩⟩
theorem lX0_95 : aLV "OnlyInDisguise$Cabinet" 95 mX0_heldBits 0 0 := ⟨⟨in_aTbl 522 (by decide +kernel) rfl, in_aTbl 439 (by decide +kernel) rfl, in_aTbl 440 (by decide +kernel) rfl, in_aTbl 46 (by decide +kernel) rfl, in_aTbl 441 (by decide +kernel) rfl⟩, by decide +kernel, by decide, ⟨(RX0, TX0, 11), rfl, rfl⟩⟩
theorem lX0_99 : aLS "OnlyInDisguise$Cabinet" 99 mJ6_bitCount_0f7a4 1 := ⟨⟨in_aTbl 346 (by decide +kernel) rfl, in_aTbl 347 (by decide +kernel) rfl, in_aTbl 54 (by decide +kernel) rfl, in_aTbl 348 (by decide +kernel) rfl⟩, by decide +kernel, by decide⟩
theorem lX0_104 : aLV "OnlyInDisguise$Cabinet" 104 mX0_isPlain 1 0 := ⟨⟨in_aTbl 527 (by decide +kernel) rfl, in_aTbl 529 (by decide +kernel) rfl, in_aTbl 10 (by decide +kernel) rfl, in_aTbl 46 (by decide +kernel) rfl, in_aTbl 530 (by decide +kernel) rfl⟩, by decide +kernel, by decide, ⟨(RX0, TX0, 11), rfl, rfl⟩⟩
theorem lX1_25 : aLS "OnlyInDisguise$Casting" 25 mJ9_min_7cf53 2 := ⟨⟨in_aTbl 475 (by decide +kernel) rfl, in_aTbl 319 (by decide +kernel) rfl, in_aTbl 53 (by decide +kernel) rfl, in_aTbl 320 (by decide +kernel) rfl⟩, by decide +kernel, by decide⟩
theorem lX1_31 : aLV "OnlyInDisguise$Casting" 31 mX0_lasting 2 0 := ⟨⟨in_aTbl 476 (by decide +kernel) rfl, in_aTbl 456 (by decide +kernel) rfl, in_aTbl 457 (by decide +kernel) rfl, in_aTbl 46 (by decide +kernel) rfl, in_aTbl 458 (by decide +kernel) rfl⟩, by decide +kernel, by decide, ⟨(RX0, TX0, 11), rfl, rfl⟩⟩
theorem lX1_33 : aLV "OnlyInDisguise$Casting" 33 mX1_bestFrom 2 1 := ⟨⟨in_aTbl 477 (by decide +kernel) rfl, in_aTbl 479 (by decide +kernel) rfl, in_aTbl 5 (by decide +kernel) rfl, in_aTbl 48 (by decide +kernel) rfl, in_aTbl 480 (by decide +kernel) rfl⟩, by decide +kernel, by decide, ⟨(RX1, TX1, 3), rfl, rfl⟩⟩
theorem lX1_36 : aLV "OnlyInDisguise$Casting" 36 mX1_with 3 1 := ⟨⟨in_aTbl 481 (by decide +kernel) rfl, in_aTbl 483 (by decide +kernel) rfl, in_aTbl 6 (by decide +kernel) rfl, in_aTbl 48 (by decide +kernel) rfl, in_aTbl 484 (by decide +kernel) rfl⟩, by decide +kernel, by decide, ⟨(RX1, TX1, 3), rfl, rfl⟩⟩
theorem lX1_40 : aLS "OnlyInDisguise$Casting" 40 mJ9_max_7cf53 2 := ⟨⟨in_aTbl 485 (by decide +kernel) rfl, in_aTbl 301 (by decide +kernel) rfl, in_aTbl 53 (by decide +kernel) rfl, in_aTbl 302 (by decide +kernel) rfl⟩, by decide +kernel, by decide⟩
theorem lX1_43 : aLV "OnlyInDisguise$Casting" 43 mX1_firstBest 2 1 := ⟨⟨in_aTbl 494 (by decide +kernel) rfl, in_aTbl 496 (by decide +kernel) rfl, in_aTbl 7 (by decide +kernel) rfl, in_aTbl 48 (by decide +kernel) rfl, in_aTbl 497 (by decide +kernel) rfl⟩, by decide +kernel, by decide, ⟨(RX1, TX1, 3), rfl, rfl⟩⟩
theorem lX3_9 : aLS "OnlyInDisguise$Kinds" 9 mJ9_abs_0f7a4 1 := ⟨⟨in_aTbl 310 (by decide +kernel) rfl, in_aTbl 311 (by decide +kernel) rfl, in_aTbl 53 (by decide +kernel) rfl, in_aTbl 312 (by decide +kernel) rfl⟩, by decide +kernel, by decide⟩
theorem lX3_15 : aLS "OnlyInDisguise$Kinds" 15 mJ9_max_7cf53 2 := ⟨⟨in_aTbl 313 (by decide +kernel) rfl, in_aTbl 301 (by decide +kernel) rfl, in_aTbl 53 (by decide +kernel) rfl, in_aTbl 302 (by decide +kernel) rfl⟩, by decide +kernel, by decide⟩
theorem lX4_30 : aLN "OnlyInDisguise$Shelves" 30 mX6_isShelf 1 := ⟨⟨by decide +kernel, in_aTbl 218 (by decide +kernel) rfl, in_aTbl 45 (by decide +kernel) rfl, in_aTbl 219 (by decide +kernel) rfl⟩, by decide +kernel, by decide⟩
theorem lX4_34 : aLV "OnlyInDisguise$Shelves" 34 mX4_lackOf 2 3 := ⟨⟨in_aTbl 213 (by decide +kernel) rfl, in_aTbl 215 (by decide +kernel) rfl, in_aTbl 0 (by decide +kernel) rfl, in_aTbl 47 (by decide +kernel) rfl, in_aTbl 216 (by decide +kernel) rfl⟩, by decide +kernel, by decide, ⟨(RX4, TX4, 6), rfl, rfl⟩⟩
theorem lX4_38 : aLV "OnlyInDisguise$Shelves" 38 mX4_lengthOf 1 3 := ⟨⟨in_aTbl 239 (by decide +kernel) rfl, in_aTbl 228 (by decide +kernel) rfl, in_aTbl 229 (by decide +kernel) rfl, in_aTbl 47 (by decide +kernel) rfl, in_aTbl 230 (by decide +kernel) rfl⟩, by decide +kernel, by decide, ⟨(RX4, TX4, 6), rfl, rfl⟩⟩
theorem lX4_42 : aLV "OnlyInDisguise$Shelves" 42 mX4_hasPlace 2 3 := ⟨⟨in_aTbl 235 (by decide +kernel) rfl, in_aTbl 236 (by decide +kernel) rfl, in_aTbl 237 (by decide +kernel) rfl, in_aTbl 47 (by decide +kernel) rfl, in_aTbl 238 (by decide +kernel) rfl⟩, by decide +kernel, by decide, ⟨(RX4, TX4, 6), rfl, rfl⟩⟩
theorem lX4_46 : aLV "OnlyInDisguise$Shelves" 46 mX4_valueAt 2 3 := ⟨⟨in_aTbl 557 (by decide +kernel) rfl, in_aTbl 232 (by decide +kernel) rfl, in_aTbl 233 (by decide +kernel) rfl, in_aTbl 47 (by decide +kernel) rfl, in_aTbl 234 (by decide +kernel) rfl⟩, by decide +kernel, by decide, ⟨(RX4, TX4, 6), rfl, rfl⟩⟩
theorem lX4_49 : aLS "OnlyInDisguise$Shelves" 49 mX4_leastOf 1 := ⟨⟨in_aTbl 558 (by decide +kernel) rfl, in_aTbl 559 (by decide +kernel) rfl, in_aTbl 47 (by decide +kernel) rfl, in_aTbl 560 (by decide +kernel) rfl⟩, by decide +kernel, by decide⟩
theorem lX4_53 : aLS "OnlyInDisguise$Shelves" 53 mX4_cutTo 2 := ⟨⟨in_aTbl 685 (by decide +kernel) rfl, in_aTbl 686 (by decide +kernel) rfl, in_aTbl 47 (by decide +kernel) rfl, in_aTbl 687 (by decide +kernel) rfl⟩, by decide +kernel, by decide⟩
theorem lX4_56 : aLV "OnlyInDisguise$Shelves" 56 mX4_hasPlaces 3 3 := ⟨⟨in_aTbl 704 (by decide +kernel) rfl, in_aTbl 697 (by decide +kernel) rfl, in_aTbl 698 (by decide +kernel) rfl, in_aTbl 47 (by decide +kernel) rfl, in_aTbl 699 (by decide +kernel) rfl⟩, by decide +kernel, by decide, ⟨(RX4, TX4, 6), rfl, rfl⟩⟩
theorem lX5_9 : aLV "OnlyInDisguise$Text" 9 mX4_lengthOf 1 3 := ⟨⟨in_aTbl 227 (by decide +kernel) rfl, in_aTbl 228 (by decide +kernel) rfl, in_aTbl 229 (by decide +kernel) rfl, in_aTbl 47 (by decide +kernel) rfl, in_aTbl 230 (by decide +kernel) rfl⟩, by decide +kernel, by decide, ⟨(RX4, TX4, 6), rfl, rfl⟩⟩
theorem lX5_15 : aLV "OnlyInDisguise$Text" 15 mX4_valueAt 2 3 := ⟨⟨in_aTbl 231 (by decide +kernel) rfl, in_aTbl 232 (by decide +kernel) rfl, in_aTbl 233 (by decide +kernel) rfl, in_aTbl 47 (by decide +kernel) rfl, in_aTbl 234 (by decide +kernel) rfl⟩, by decide +kernel, by decide, ⟨(RX4, TX4, 6), rfl, rfl⟩⟩
theorem lX5_19 : aLS "OnlyInDisguise$Text" 19 mX5_digitsBehind 1 := ⟨⟨in_aTbl 240 (by decide +kernel) rfl, in_aTbl 241 (by decide +kernel) rfl, in_aTbl 51 (by decide +kernel) rfl, in_aTbl 242 (by decide +kernel) rfl⟩, by decide +kernel, by decide⟩
theorem lX5_24 : aLS "OnlyInDisguise$Text" 24 mX5_isObeyed 5 := ⟨⟨in_aTbl 250 (by decide +kernel) rfl, in_aTbl 251 (by decide +kernel) rfl, in_aTbl 51 (by decide +kernel) rfl, in_aTbl 252 (by decide +kernel) rfl⟩, by decide +kernel, by decide⟩
theorem lX5_28 : aLN "OnlyInDisguise$Text" 28 mX6_isMate 1 := ⟨⟨by decide +kernel, in_aTbl 254 (by decide +kernel) rfl, in_aTbl 45 (by decide +kernel) rfl, in_aTbl 255 (by decide +kernel) rfl⟩, by decide +kernel, by decide⟩
theorem lX5_32 : aLV "OnlyInDisguise$Text" 32 mX0_welcome 3 0 := ⟨⟨in_aTbl 256 (by decide +kernel) rfl, in_aTbl 257 (by decide +kernel) rfl, in_aTbl 258 (by decide +kernel) rfl, in_aTbl 46 (by decide +kernel) rfl, in_aTbl 259 (by decide +kernel) rfl⟩, by decide +kernel, by decide, ⟨(RX0, TX0, 11), rfl, rfl⟩⟩
theorem lX5_38 : aLS "OnlyInDisguise$Text" 38 mX5_isDressed 3 := ⟨⟨in_aTbl 260 (by decide +kernel) rfl, in_aTbl 261 (by decide +kernel) rfl, in_aTbl 51 (by decide +kernel) rfl, in_aTbl 262 (by decide +kernel) rfl⟩, by decide +kernel, by decide⟩
theorem lX5_42 : aLS "OnlyInDisguise$Text" 42 mX5_isInstalled 3 := ⟨⟨in_aTbl 266 (by decide +kernel) rfl, in_aTbl 267 (by decide +kernel) rfl, in_aTbl 51 (by decide +kernel) rfl, in_aTbl 268 (by decide +kernel) rfl⟩, by decide +kernel, by decide⟩
theorem lX5_45 : aLS "OnlyInDisguise$Text" 45 mX5_isVacated 2 := ⟨⟨in_aTbl 283 (by decide +kernel) rfl, in_aTbl 284 (by decide +kernel) rfl, in_aTbl 51 (by decide +kernel) rfl, in_aTbl 285 (by decide +kernel) rfl⟩, by decide +kernel, by decide⟩
theorem lX5_49 : aLS "OnlyInDisguise$Text" 49 mX5_isMadeKnown 3 := ⟨⟨in_aTbl 287 (by decide +kernel) rfl, in_aTbl 288 (by decide +kernel) rfl, in_aTbl 51 (by decide +kernel) rfl, in_aTbl 289 (by decide +kernel) rfl⟩, by decide +kernel, by decide⟩
theorem lX5_52 : aLS "OnlyInDisguise$Text" 52 mX5_isPassed 2 := ⟨⟨in_aTbl 290 (by decide +kernel) rfl, in_aTbl 291 (by decide +kernel) rfl, in_aTbl 51 (by decide +kernel) rfl, in_aTbl 292 (by decide +kernel) rfl⟩, by decide +kernel, by decide⟩
theorem lX5_59 : aLV "OnlyInDisguise$Text" 59 mX0_oneDay 0 0 := ⟨⟨in_aTbl 293 (by decide +kernel) rfl, in_aTbl 294 (by decide +kernel) rfl, in_aTbl 295 (by decide +kernel) rfl, in_aTbl 46 (by decide +kernel) rfl, in_aTbl 296 (by decide +kernel) rfl⟩, by decide +kernel, by decide, ⟨(RX0, TX0, 11), rfl, rfl⟩⟩
theorem lX5_62 : aLN "OnlyInDisguise$Text" 62 mX6_isOffice 1 := ⟨⟨by decide +kernel, in_aTbl 264 (by decide +kernel) rfl, in_aTbl 45 (by decide +kernel) rfl, in_aTbl 265 (by decide +kernel) rfl⟩, by decide +kernel, by decide⟩
theorem lX5_69 : aLV "OnlyInDisguise$Text" 69 mX0_isThere 1 0 := ⟨⟨in_aTbl 269 (by decide +kernel) rfl, in_aTbl 270 (by decide +kernel) rfl, in_aTbl 271 (by decide +kernel) rfl, in_aTbl 46 (by decide +kernel) rfl, in_aTbl 272 (by decide +kernel) rfl⟩, by decide +kernel, by decide, ⟨(RX0, TX0, 11), rfl, rfl⟩⟩
theorem lX5_72 : aLV "OnlyInDisguise$Text" 72 mX0_install 2 0 := ⟨⟨in_aTbl 273 (by decide +kernel) rfl, in_aTbl 274 (by decide +kernel) rfl, in_aTbl 275 (by decide +kernel) rfl, in_aTbl 46 (by decide +kernel) rfl, in_aTbl 276 (by decide +kernel) rfl⟩, by decide +kernel, by decide, ⟨(RX0, TX0, 11), rfl, rfl⟩⟩
theorem lX5_76 : aLV "OnlyInDisguise$Text" 76 mX0_vacate 1 0 := ⟨⟨in_aTbl 286 (by decide +kernel) rfl, in_aTbl 280 (by decide +kernel) rfl, in_aTbl 281 (by decide +kernel) rfl, in_aTbl 46 (by decide +kernel) rfl, in_aTbl 282 (by decide +kernel) rfl⟩, by decide +kernel, by decide, ⟨(RX0, TX0, 11), rfl, rfl⟩⟩
theorem lX7_49 : aLS "OnlyInDisguiseModel" 49 mX7_isIn 3 := ⟨⟨in_aTbl 915 (by decide +kernel) rfl, in_aTbl 916 (by decide +kernel) rfl, in_aTbl 50 (by decide +kernel) rfl, in_aTbl 917 (by decide +kernel) rfl⟩, by decide +kernel, by decide⟩
theorem lX7_53 : aLS "OnlyInDisguiseModel" 53 mX7_sized 1 := ⟨⟨in_aTbl 978 (by decide +kernel) rfl, in_aTbl 979 (by decide +kernel) rfl, in_aTbl 50 (by decide +kernel) rfl, in_aTbl 980 (by decide +kernel) rfl⟩, by decide +kernel, by decide⟩
theorem lX7_57 : aLS "OnlyInDisguiseModel" 57 mX7_of 2 := ⟨⟨in_aTbl 944 (by decide +kernel) rfl, in_aTbl 945 (by decide +kernel) rfl, in_aTbl 50 (by decide +kernel) rfl, in_aTbl 946 (by decide +kernel) rfl⟩, by decide +kernel, by decide⟩
theorem lX7_61 : aLS "OnlyInDisguiseModel" 61 mX7_bearsBy 2 := ⟨⟨in_aTbl 993 (by decide +kernel) rfl, in_aTbl 994 (by decide +kernel) rfl, in_aTbl 50 (by decide +kernel) rfl, in_aTbl 995 (by decide +kernel) rfl⟩, by decide +kernel, by decide⟩
theorem lX7_64 : aLS "OnlyInDisguiseModel" 64 mX7_officeOf 2 := ⟨⟨in_aTbl 957 (by decide +kernel) rfl, in_aTbl 958 (by decide +kernel) rfl, in_aTbl 50 (by decide +kernel) rfl, in_aTbl 959 (by decide +kernel) rfl⟩, by decide +kernel, by decide⟩
theorem lX7_68 : aLS "OnlyInDisguiseModel" 68 mX7_forgetsBy 2 := ⟨⟨in_aTbl 969 (by decide +kernel) rfl, in_aTbl 970 (by decide +kernel) rfl, in_aTbl 50 (by decide +kernel) rfl, in_aTbl 971 (by decide +kernel) rfl⟩, by decide +kernel, by decide⟩
theorem lX7_71 : aLS "OnlyInDisguiseModel" 71 mX7_lessBy 2 := ⟨⟨in_aTbl 972 (by decide +kernel) rfl, in_aTbl 973 (by decide +kernel) rfl, in_aTbl 50 (by decide +kernel) rfl, in_aTbl 974 (by decide +kernel) rfl⟩, by decide +kernel, by decide⟩
theorem lX7_74 : aLS "OnlyInDisguiseModel" 74 mX7_showsBy 4 := ⟨⟨in_aTbl 975 (by decide +kernel) rfl, in_aTbl 976 (by decide +kernel) rfl, in_aTbl 50 (by decide +kernel) rfl, in_aTbl 977 (by decide +kernel) rfl⟩, by decide +kernel, by decide⟩
theorem lX7_78 : aLS "OnlyInDisguiseModel" 78 mX7_isCommon 2 := ⟨⟨in_aTbl 981 (by decide +kernel) rfl, in_aTbl 982 (by decide +kernel) rfl, in_aTbl 50 (by decide +kernel) rfl, in_aTbl 983 (by decide +kernel) rfl⟩, by decide +kernel, by decide⟩
theorem lX7_82 : aLS "OnlyInDisguiseModel" 82 mX7_least 2 := ⟨⟨in_aTbl 984 (by decide +kernel) rfl, in_aTbl 985 (by decide +kernel) rfl, in_aTbl 50 (by decide +kernel) rfl, in_aTbl 986 (by decide +kernel) rfl⟩, by decide +kernel, by decide⟩
theorem lX7_85 : aLS "OnlyInDisguiseModel" 85 mX7_bears 2 := ⟨⟨in_aTbl 990 (by decide +kernel) rfl, in_aTbl 991 (by decide +kernel) rfl, in_aTbl 50 (by decide +kernel) rfl, in_aTbl 992 (by decide +kernel) rfl⟩, by decide +kernel, by decide⟩
theorem lX7_88 : aLS "OnlyInDisguiseModel" 88 mX7_isSeen 2 := ⟨⟨in_aTbl 966 (by decide +kernel) rfl, in_aTbl 967 (by decide +kernel) rfl, in_aTbl 50 (by decide +kernel) rfl, in_aTbl 968 (by decide +kernel) rfl⟩, by decide +kernel, by decide⟩
theorem lX7_92 : aLS "OnlyInDisguiseModel" 92 mX7_fallsIn 2 := ⟨⟨in_aTbl 987 (by decide +kernel) rfl, in_aTbl 988 (by decide +kernel) rfl, in_aTbl 50 (by decide +kernel) rfl, in_aTbl 989 (by decide +kernel) rfl⟩, by decide +kernel, by decide⟩
theorem lX7_95 : aLS "OnlyInDisguiseModel" 95 mX7_day 1 := ⟨⟨in_aTbl 963 (by decide +kernel) rfl, in_aTbl 964 (by decide +kernel) rfl, in_aTbl 50 (by decide +kernel) rfl, in_aTbl 965 (by decide +kernel) rfl⟩, by decide +kernel, by decide⟩
theorem lX7_109 : aLV "OnlyInDisguiseModel" 109 mX7_here 0 5 := ⟨⟨in_aTbl 922 (by decide +kernel) rfl, in_aTbl 924 (by decide +kernel) rfl, in_aTbl 21 (by decide +kernel) rfl, in_aTbl 50 (by decide +kernel) rfl, in_aTbl 925 (by decide +kernel) rfl⟩, by decide +kernel, by decide, ⟨(RX7, TX7, 19), rfl, rfl⟩⟩
theorem lX7_113 : aLV "OnlyInDisguiseModel" 113 mX7_readsNumber 2 5 := ⟨⟨in_aTbl 926 (by decide +kernel) rfl, in_aTbl 928 (by decide +kernel) rfl, in_aTbl 22 (by decide +kernel) rfl, in_aTbl 50 (by decide +kernel) rfl, in_aTbl 929 (by decide +kernel) rfl⟩, by decide +kernel, by decide, ⟨(RX7, TX7, 19), rfl, rfl⟩⟩
theorem lX7_117 : aLS "OnlyInDisguiseModel" 117 mX7_isMate 1 := ⟨⟨in_aTbl 937 (by decide +kernel) rfl, in_aTbl 938 (by decide +kernel) rfl, in_aTbl 50 (by decide +kernel) rfl, in_aTbl 939 (by decide +kernel) rfl⟩, by decide +kernel, by decide⟩
theorem lX7_121 : aLV "OnlyInDisguiseModel" 121 mX7_adds 3 5 := ⟨⟨in_aTbl 940 (by decide +kernel) rfl, in_aTbl 942 (by decide +kernel) rfl, in_aTbl 24 (by decide +kernel) rfl, in_aTbl 50 (by decide +kernel) rfl, in_aTbl 943 (by decide +kernel) rfl⟩, by decide +kernel, by decide, ⟨(RX7, TX7, 19), rfl, rfl⟩⟩
theorem lX7_125 : aLS "OnlyInDisguiseModel" 125 mX7_isOffice 1 := ⟨⟨in_aTbl 947 (by decide +kernel) rfl, in_aTbl 948 (by decide +kernel) rfl, in_aTbl 50 (by decide +kernel) rfl, in_aTbl 949 (by decide +kernel) rfl⟩, by decide +kernel, by decide⟩
theorem lX7_128 : aLV "OnlyInDisguiseModel" 128 mX7_isOne 1 5 := ⟨⟨in_aTbl 950 (by decide +kernel) rfl, in_aTbl 952 (by decide +kernel) rfl, in_aTbl 25 (by decide +kernel) rfl, in_aTbl 50 (by decide +kernel) rfl, in_aTbl 953 (by decide +kernel) rfl⟩, by decide +kernel, by decide, ⟨(RX7, TX7, 19), rfl, rfl⟩⟩
theorem lX7_131 : aLS "OnlyInDisguiseModel" 131 mX7_holdsIn 3 := ⟨⟨in_aTbl 954 (by decide +kernel) rfl, in_aTbl 955 (by decide +kernel) rfl, in_aTbl 50 (by decide +kernel) rfl, in_aTbl 956 (by decide +kernel) rfl⟩, by decide +kernel, by decide⟩
theorem lX7_135 : aLS "OnlyInDisguiseModel" 135 mX7_daysOn 2 := ⟨⟨in_aTbl 960 (by decide +kernel) rfl, in_aTbl 961 (by decide +kernel) rfl, in_aTbl 50 (by decide +kernel) rfl, in_aTbl 962 (by decide +kernel) rfl⟩, by decide +kernel, by decide⟩
theorem lX7_138 : aLV "OnlyInDisguiseModel" 138 mX7_wrongRow 2 5 := ⟨⟨in_aTbl 908 (by decide +kernel) rfl, in_aTbl 910 (by decide +kernel) rfl, in_aTbl 19 (by decide +kernel) rfl, in_aTbl 50 (by decide +kernel) rfl, in_aTbl 911 (by decide +kernel) rfl⟩, by decide +kernel, by decide, ⟨(RX7, TX7, 19), rfl, rfl⟩⟩
theorem lX7_141 : aLV "OnlyInDisguiseModel" 141 mX7_readsStatement 0 5 := ⟨⟨in_aTbl 918 (by decide +kernel) rfl, in_aTbl 920 (by decide +kernel) rfl, in_aTbl 20 (by decide +kernel) rfl, in_aTbl 50 (by decide +kernel) rfl, in_aTbl 921 (by decide +kernel) rfl⟩, by decide +kernel, by decide, ⟨(RX7, TX7, 19), rfl, rfl⟩⟩
theorem lX7_145 : aLS "OnlyInDisguiseModel" 145 mX7_copies 2 := ⟨⟨in_aTbl 930 (by decide +kernel) rfl, in_aTbl 931 (by decide +kernel) rfl, in_aTbl 50 (by decide +kernel) rfl, in_aTbl 932 (by decide +kernel) rfl⟩, by decide +kernel, by decide⟩
theorem lX7_149 : aLV "OnlyInDisguiseModel" 149 mX7_isDone 1 5 := ⟨⟨in_aTbl 933 (by decide +kernel) rfl, in_aTbl 935 (by decide +kernel) rfl, in_aTbl 23 (by decide +kernel) rfl, in_aTbl 50 (by decide +kernel) rfl, in_aTbl 936 (by decide +kernel) rfl⟩, by decide +kernel, by decide, ⟨(RX7, TX7, 19), rfl, rfl⟩⟩
theorem lX7_152 : aLS "OnlyInDisguiseModel" 152 mX7_has 2 := ⟨⟨in_aTbl 1004 (by decide +kernel) rfl, in_aTbl 1005 (by decide +kernel) rfl, in_aTbl 50 (by decide +kernel) rfl, in_aTbl 1006 (by decide +kernel) rfl⟩, by decide +kernel, by decide⟩
theorem lX7_155 : aLS "OnlyInDisguiseModel" 155 mX7_bits 1 := ⟨⟨in_aTbl 1007 (by decide +kernel) rfl, in_aTbl 1008 (by decide +kernel) rfl, in_aTbl 50 (by decide +kernel) rfl, in_aTbl 1009 (by decide +kernel) rfl⟩, by decide +kernel, by decide⟩
theorem lX7_158 : aLV "OnlyInDisguiseModel" 158 mX7_chainOf 1 5 := ⟨⟨in_aTbl 1000 (by decide +kernel) rfl, in_aTbl 1002 (by decide +kernel) rfl, in_aTbl 26 (by decide +kernel) rfl, in_aTbl 50 (by decide +kernel) rfl, in_aTbl 1003 (by decide +kernel) rfl⟩, by decide +kernel, by decide, ⟨(RX7, TX7, 19), rfl, rfl⟩⟩
theorem lX7_161 : aLV "OnlyInDisguiseModel" 161 mX7_showsNext 2 5 := ⟨⟨in_aTbl 1018 (by decide +kernel) rfl, in_aTbl 1020 (by decide +kernel) rfl, in_aTbl 27 (by decide +kernel) rfl, in_aTbl 50 (by decide +kernel) rfl, in_aTbl 1021 (by decide +kernel) rfl⟩, by decide +kernel, by decide, ⟨(RX7, TX7, 19), rfl, rfl⟩⟩
theorem lX7_164 : aLV "OnlyInDisguiseModel" 164 mX7_wrongKept 1 5 := ⟨⟨in_aTbl 1026 (by decide +kernel) rfl, in_aTbl 1028 (by decide +kernel) rfl, in_aTbl 28 (by decide +kernel) rfl, in_aTbl 50 (by decide +kernel) rfl, in_aTbl 1029 (by decide +kernel) rfl⟩, by decide +kernel, by decide, ⟨(RX7, TX7, 19), rfl, rfl⟩⟩
theorem lX7_167 : aLV "OnlyInDisguiseModel" 167 mX7_sets 2 5 := ⟨⟨in_aTbl 1038 (by decide +kernel) rfl, in_aTbl 1040 (by decide +kernel) rfl, in_aTbl 29 (by decide +kernel) rfl, in_aTbl 50 (by decide +kernel) rfl, in_aTbl 1041 (by decide +kernel) rfl⟩, by decide +kernel, by decide, ⟨(RX7, TX7, 19), rfl, rfl⟩⟩
theorem lX7_170 : aLS "OnlyInDisguiseModel" 170 mX7_isLate 1 := ⟨⟨in_aTbl 1062 (by decide +kernel) rfl, in_aTbl 1063 (by decide +kernel) rfl, in_aTbl 50 (by decide +kernel) rfl, in_aTbl 1064 (by decide +kernel) rfl⟩, by decide +kernel, by decide⟩
theorem lX7_173 : aLV "OnlyInDisguiseModel" 173 mX7_takes 1 5 := ⟨⟨in_aTbl 1065 (by decide +kernel) rfl, in_aTbl 1067 (by decide +kernel) rfl, in_aTbl 30 (by decide +kernel) rfl, in_aTbl 50 (by decide +kernel) rfl, in_aTbl 1068 (by decide +kernel) rfl⟩, by decide +kernel, by decide, ⟨(RX7, TX7, 19), rfl, rfl⟩⟩
theorem lX7_177 : aLS "OnlyInDisguiseModel" 177 mX7_heldIn 1 := ⟨⟨in_aTbl 1077 (by decide +kernel) rfl, in_aTbl 1078 (by decide +kernel) rfl, in_aTbl 50 (by decide +kernel) rfl, in_aTbl 1079 (by decide +kernel) rfl⟩, by decide +kernel, by decide⟩
theorem lX7_181 : aLV "OnlyInDisguiseModel" 181 mX7_whenNot 2 5 := ⟨⟨in_aTbl 1084 (by decide +kernel) rfl, in_aTbl 1086 (by decide +kernel) rfl, in_aTbl 31 (by decide +kernel) rfl, in_aTbl 50 (by decide +kernel) rfl, in_aTbl 1087 (by decide +kernel) rfl⟩, by decide +kernel, by decide, ⟨(RX7, TX7, 19), rfl, rfl⟩⟩
theorem lX7_184 : aLV "OnlyInDisguiseModel" 184 mX7_lastsOf 2 5 := ⟨⟨in_aTbl 1096 (by decide +kernel) rfl, in_aTbl 1098 (by decide +kernel) rfl, in_aTbl 32 (by decide +kernel) rfl, in_aTbl 50 (by decide +kernel) rfl, in_aTbl 1099 (by decide +kernel) rfl⟩, by decide +kernel, by decide, ⟨(RX7, TX7, 19), rfl, rfl⟩⟩
theorem lX7_188 : aLV "OnlyInDisguiseModel" 188 mX7_mostOf 2 5 := ⟨⟨in_aTbl 1113 (by decide +kernel) rfl, in_aTbl 1115 (by decide +kernel) rfl, in_aTbl 34 (by decide +kernel) rfl, in_aTbl 50 (by decide +kernel) rfl, in_aTbl 1116 (by decide +kernel) rfl⟩, by decide +kernel, by decide, ⟨(RX7, TX7, 19), rfl, rfl⟩⟩
theorem lX7_191 : aLV "OnlyInDisguiseModel" 191 mX7_fillsCast 0 5 := ⟨⟨in_aTbl 1109 (by decide +kernel) rfl, in_aTbl 1111 (by decide +kernel) rfl, in_aTbl 33 (by decide +kernel) rfl, in_aTbl 50 (by decide +kernel) rfl, in_aTbl 1112 (by decide +kernel) rfl⟩, by decide +kernel, by decide, ⟨(RX7, TX7, 19), rfl, rfl⟩⟩
theorem lX7_194 : aLV "OnlyInDisguiseModel" 194 mX7_holderBy 2 5 := ⟨⟨in_aTbl 1117 (by decide +kernel) rfl, in_aTbl 1119 (by decide +kernel) rfl, in_aTbl 35 (by decide +kernel) rfl, in_aTbl 50 (by decide +kernel) rfl, in_aTbl 1120 (by decide +kernel) rfl⟩, by decide +kernel, by decide, ⟨(RX7, TX7, 19), rfl, rfl⟩⟩
theorem lX7_197 : aLV "OnlyInDisguiseModel" 197 mX7_left 1 5 := ⟨⟨in_aTbl 1145 (by decide +kernel) rfl, in_aTbl 1147 (by decide +kernel) rfl, in_aTbl 39 (by decide +kernel) rfl, in_aTbl 50 (by decide +kernel) rfl, in_aTbl 1148 (by decide +kernel) rfl⟩, by decide +kernel, by decide, ⟨(RX7, TX7, 19), rfl, rfl⟩⟩
theorem lX7_200 : aLV "OnlyInDisguiseModel" 200 mX7_plainOnes 0 5 := ⟨⟨in_aTbl 1133 (by decide +kernel) rfl, in_aTbl 1135 (by decide +kernel) rfl, in_aTbl 36 (by decide +kernel) rfl, in_aTbl 50 (by decide +kernel) rfl, in_aTbl 1136 (by decide +kernel) rfl⟩, by decide +kernel, by decide, ⟨(RX7, TX7, 19), rfl, rfl⟩⟩
theorem lX7_203 : aLV "OnlyInDisguiseModel" 203 mX7_likeOnes 0 5 := ⟨⟨in_aTbl 1137 (by decide +kernel) rfl, in_aTbl 1139 (by decide +kernel) rfl, in_aTbl 37 (by decide +kernel) rfl, in_aTbl 50 (by decide +kernel) rfl, in_aTbl 1140 (by decide +kernel) rfl⟩, by decide +kernel, by decide, ⟨(RX7, TX7, 19), rfl, rfl⟩⟩
theorem lX7_206 : aLV "OnlyInDisguiseModel" 206 mX7_closest 0 5 := ⟨⟨in_aTbl 1141 (by decide +kernel) rfl, in_aTbl 1143 (by decide +kernel) rfl, in_aTbl 38 (by decide +kernel) rfl, in_aTbl 50 (by decide +kernel) rfl, in_aTbl 1144 (by decide +kernel) rfl⟩, by decide +kernel, by decide, ⟨(RX7, TX7, 19), rfl, rfl⟩⟩
theorem lX7_209 : aLV "OnlyInDisguiseModel" 209 mX7_stable 0 5 := ⟨⟨in_aTbl 1149 (by decide +kernel) rfl, in_aTbl 1151 (by decide +kernel) rfl, in_aTbl 40 (by decide +kernel) rfl, in_aTbl 50 (by decide +kernel) rfl, in_aTbl 1152 (by decide +kernel) rfl⟩, by decide +kernel, by decide, ⟨(RX7, TX7, 19), rfl, rfl⟩⟩
theorem lX7_214 : aLS "OnlyInDisguiseModel" 214 mX7_leastOf 1 := ⟨⟨in_aTbl 1162 (by decide +kernel) rfl, in_aTbl 1163 (by decide +kernel) rfl, in_aTbl 50 (by decide +kernel) rfl, in_aTbl 1164 (by decide +kernel) rfl⟩, by decide +kernel, by decide⟩
theorem lX7_217 : aLV "OnlyInDisguiseModel" 217 mX7_isTold 3 5 := ⟨⟨in_aTbl 1158 (by decide +kernel) rfl, in_aTbl 1160 (by decide +kernel) rfl, in_aTbl 41 (by decide +kernel) rfl, in_aTbl 50 (by decide +kernel) rfl, in_aTbl 1161 (by decide +kernel) rfl⟩, by decide +kernel, by decide, ⟨(RX7, TX7, 19), rfl, rfl⟩⟩
theorem lX7_220 : aLV "OnlyInDisguiseModel" 220 mX7_hasBy 6 5 := ⟨⟨in_aTbl 1174 (by decide +kernel) rfl, in_aTbl 1176 (by decide +kernel) rfl, in_aTbl 42 (by decide +kernel) rfl, in_aTbl 50 (by decide +kernel) rfl, in_aTbl 1177 (by decide +kernel) rfl⟩, by decide +kernel, by decide, ⟨(RX7, TX7, 19), rfl, rfl⟩⟩
theorem lX7_224 : aLS "OnlyInDisguiseModel" 224 mX7_gcd 2 := ⟨⟨in_aTbl 1189 (by decide +kernel) rfl, in_aTbl 1190 (by decide +kernel) rfl, in_aTbl 50 (by decide +kernel) rfl, in_aTbl 1191 (by decide +kernel) rfl⟩, by decide +kernel, by decide⟩
theorem lX7_230 : aLS "OnlyInDisguiseModel" 230 mX7_scandal 1 := ⟨⟨in_aTbl 1183 (by decide +kernel) rfl, in_aTbl 1184 (by decide +kernel) rfl, in_aTbl 50 (by decide +kernel) rfl, in_aTbl 1185 (by decide +kernel) rfl⟩, by decide +kernel, by decide⟩
theorem lX7_233 : aLS "OnlyInDisguiseModel" 233 mX7_partOf 3 := ⟨⟨in_aTbl 1186 (by decide +kernel) rfl, in_aTbl 1187 (by decide +kernel) rfl, in_aTbl 50 (by decide +kernel) rfl, in_aTbl 1188 (by decide +kernel) rfl⟩, by decide +kernel, by decide⟩
theorem lX7_237 : aLS "OnlyInDisguiseModel" 237 mX7_allKnown 1 := ⟨⟨in_aTbl 1196 (by decide +kernel) rfl, in_aTbl 1197 (by decide +kernel) rfl, in_aTbl 50 (by decide +kernel) rfl, in_aTbl 1198 (by decide +kernel) rfl⟩, by decide +kernel, by decide⟩
theorem lX7_246 : aLV "OnlyInDisguiseModel" 246 mX7_drawn 1 5 := ⟨⟨in_aTbl 1211 (by decide +kernel) rfl, in_aTbl 1213 (by decide +kernel) rfl, in_aTbl 43 (by decide +kernel) rfl, in_aTbl 50 (by decide +kernel) rfl, in_aTbl 1214 (by decide +kernel) rfl⟩, by decide +kernel, by decide, ⟨(RX7, TX7, 19), rfl, rfl⟩⟩
theorem lX7_256 : aLS "OnlyInDisguiseModel" 256 mX7_isShelf 1 := ⟨⟨in_aTbl 912 (by decide +kernel) rfl, in_aTbl 913 (by decide +kernel) rfl, in_aTbl 50 (by decide +kernel) rfl, in_aTbl 914 (by decide +kernel) rfl⟩, by decide +kernel, by decide⟩
theorem lX7_259 : aLS "OnlyInDisguiseModel" 259 mX7_costBy 2 := ⟨⟨in_aTbl 1258 (by decide +kernel) rfl, in_aTbl 1259 (by decide +kernel) rfl, in_aTbl 50 (by decide +kernel) rfl, in_aTbl 1260 (by decide +kernel) rfl⟩, by decide +kernel, by decide⟩
end
section
/-! ===== contracts that say just what comes out ===== -/
abbrev aF (v : Option aV) (τ : aS) : Option aV → aS → Prop := fun r σ' => r = v ∧ σ' = τ
theorem aret {x y : Int} (h : x = y) : (some (aI x) : Option aV) = some (aI y) := by rw [h]
theorem alret {x y : Int} (h : x = y) : (some (aL x) : Option aV) = some (aL y) := by rw [h]
section FCalls
variable {l : Launch} {d d' : Nat} {M M' : aMt} {Q : Option aV → aS → Prop} {pc : Nat} {L : aLs} {st : List aV} {σ τ : aS} {v : Option aV}
theorem aw_fV {idx n ci t c : Nat} {as rest : List aV} (lk : aLV M.1.cls idx M' n ci) (hd : d' + 1 ≤ d) (ht : t < 32) (hc : c < aCnt t) (hcl : aCls t = some ci) (hn : as.length = n) (hr : aCat rest ≤ 8) (hst : st = as.reverse ++ aR t c :: rest) (hdg : decode M.2.1 pc = .ok (.invokevirtual idx, 3)) (hm : AM l d' M' (aR t c :: as) σ (aF v τ)) (k : AW l d M Q (pc + 3) L (v.toList ++ rest) τ) : AW l d M Q pc L st σ :=
  aw_callV lk hd ht hc hcl hn hr hst hdg hm (fun r σ' h => by obtain ⟨h1, h2⟩ := h; subst h1; subst h2; exact k)
theorem aw_fS {idx n : Nat} {as rest : List aV} (lk : aLS M.1.cls idx M' n) (hd : d' + 1 ≤ d) (hn : as.length = n) (hr : aCat rest ≤ 8) (hst : st = as.reverse ++ rest) (hdg : decode M.2.1 pc = .ok (.invokestatic idx, 3)) (hm : AM l d' M' as σ (aF v τ)) (k : AW l d M Q (pc + 3) L (v.toList ++ rest) τ) : AW l d M Q pc L st σ :=
  aw_callS lk hd hn hr hst hdg hm (fun r σ' h => by obtain ⟨h1, h2⟩ := h; subst h1; subst h2; exact k)
theorem aw_fN {idx n : Nat} {as rest : List aV} (lk : aLN M.1.cls idx M' n) (hd : d' + 1 ≤ d) (hn : as.length = n) (hr : aCat rest ≤ 8) (hst : st = as.reverse ++ rest) (hdg : decode M.2.1 pc = .ok (.invokestatic idx, 3)) (hm : AM l d' M' as σ (aF v τ)) (k : AW l d M Q (pc + 3) L (v.toList ++ rest) τ) : AW l d M Q pc L st σ :=
  aw_callN lk hd hn hr hst hdg hm (fun r σ' h => by obtain ⟨h1, h2⟩ := h; subst h1; subst h2; exact k)
end FCalls
/-- a loop that counts up to N -/
theorem aloop_at {P : Nat → Prop} (N : Nat) (h : ∀ n, n ≤ N → (n < N → P (n + 1)) → P n) : ∀ n, n ≤ N → P n := by
  have key : ∀ k n, n + k = N → P n := by
    intro k
    induction k with
    | zero => intro n hn; exact h n (by omega) (fun q => by omega)
    | succ k ih => intro n hn; exact h n (by omega) (fun q => ih (n + 1) (by omega))
  intro n hn
  exact key (N - n) n (by omega)
theorem aloop {P : Nat → Prop} (N : Nat) (h : ∀ n, n ≤ N → (n < N → P (n + 1)) → P n) : P 0 := aloop_at N h 0 (Nat.zero_le N)
section BCalls
variable {l : Launch} {d d' : Nat} {M M' : aMt} {Q : Option aV → aS → Prop} {pc : Nat} {L : aLs} {st : List aV} {σ : aS} {P : Prop}
theorem aw_bV [Decidable P] {idx n ci t c : Nat} {as rest : List aV} (lk : aLV M.1.cls idx M' n ci) (hd : d' + 1 ≤ d) (ht : t < 32) (hc : c < aCnt t) (hcl : aCls t = some ci) (hn : as.length = n) (hr : aCat rest ≤ 8) (hst : st = as.reverse ++ aR t c :: rest) (hdg : decode M.2.1 pc = .ok (.invokevirtual idx, 3)) (hm : AM l d' M' (aR t c :: as) σ (aF (some (aI (if P then 1 else 0))) σ)) (kt : P → AW l d M Q (pc + 3) L (aI 1 :: rest) σ) (kf : ¬ P → AW l d M Q (pc + 3) L (aI 0 :: rest) σ) : AW l d M Q pc L st σ := by
  by_cases h : P
  · rw [if_pos h] at hm; exact aw_fV lk hd ht hc hcl hn hr hst hdg hm (kt h)
  · rw [if_neg h] at hm; exact aw_fV lk hd ht hc hcl hn hr hst hdg hm (kf h)
theorem aw_bS [Decidable P] {idx n : Nat} {as rest : List aV} (lk : aLS M.1.cls idx M' n) (hd : d' + 1 ≤ d) (hn : as.length = n) (hr : aCat rest ≤ 8) (hst : st = as.reverse ++ rest) (hdg : decode M.2.1 pc = .ok (.invokestatic idx, 3)) (hm : AM l d' M' as σ (aF (some (aI (if P then 1 else 0))) σ)) (kt : P → AW l d M Q (pc + 3) L (aI 1 :: rest) σ) (kf : ¬ P → AW l d M Q (pc + 3) L (aI 0 :: rest) σ) : AW l d M Q pc L st σ := by
  by_cases h : P
  · rw [if_pos h] at hm; exact aw_fS lk hd hn hr hst hdg hm (kt h)
  · rw [if_neg h] at hm; exact aw_fS lk hd hn hr hst hdg hm (kf h)
theorem aw_bN [Decidable P] {idx n : Nat} {as rest : List aV} (lk : aLN M.1.cls idx M' n) (hd : d' + 1 ≤ d) (hn : as.length = n) (hr : aCat rest ≤ 8) (hst : st = as.reverse ++ rest) (hdg : decode M.2.1 pc = .ok (.invokestatic idx, 3)) (hm : AM l d' M' as σ (aF (some (aI (if P then 1 else 0))) σ)) (kt : P → AW l d M Q (pc + 3) L (aI 1 :: rest) σ) (kf : ¬ P → AW l d M Q (pc + 3) L (aI 0 :: rest) σ) : AW l d M Q pc L st σ := by
  by_cases h : P
  · rw [if_pos h] at hm; exact aw_fN lk hd hn hr hst hdg hm (kt h)
  · rw [if_neg h] at hm; exact aw_fN lk hd hn hr hst hdg hm (kf h)
end BCalls
/-- the same contract, by equal answers and stores -/
theorem am_eq {l : Launch} {d : Nat} {M : aMt} {as : List aV} {σ : aS} {v v' : Option aV} {τ τ' : aS} (h : AM l d M as σ (aF v τ)) (hv : v = v') (hτ : τ = τ') : AM l d M as σ (aF v' τ') := by
  subst hv; subst hτ; exact h
end
section
/-! ===== Math.max, min, abs ===== -/
theorem cd_max : mJ9_max_7cf53.2.1 = Lib.Math.max.code := by decide +kernel
theorem cd_min : mJ9_min_7cf53.2.1 = Lib.Math.min.code := by decide +kernel
theorem cd_abs : mJ9_abs_0f7a4.2.1 = Lib.Math.abs.code := by decide +kernel
section MathRules
variable {l : Launch} {d : Nat} {M : aMt} {Q : Option aV → aS → Prop} {pc : Nat} {L : aLs} {rest : List aV} {σ : aS}
theorem aw_max {idx : Nat} {x y : Int} (lk : aLS M.1.cls idx mJ9_max_7cf53 2) (hd : 1 ≤ d) (hr : aCat rest ≤ 8) (hdg : decode M.2.1 pc = .ok (.invokestatic idx, 3)) (hx : aIr x) (hy : aIr y) (k : AW l d M Q (pc + 3) L (aI (if x < y then y else x) :: rest) σ) : AW l d M Q pc L (aI y :: aI x :: rest) σ := by
  intro p e s m args below meth c2 D cA ad H locs ls C0 C1 hl
  obtain ⟨hx1, hb, hml, hr0, hlk, hown, hts, hK, hN⟩ := id C0
  obtain ⟨⟨l1, l2, l4, l5⟩, l6, l7⟩ := lk
  have hws : ∀ w ∈ aTbl, w.before args s = true := fun w hw => hts w (List.mem_cons_of_mem _ hw)
  have h5 : (Cond.code Lib.Math.max.name Lib.Math.max.code 2 (some .int)).before args s = true := by rw [← cd_max]; exact hws _ l5
  have K := k p e s m args below meth c2 D cA ad H locs ls C0 C1 hl
  have e1 : cV ad (aI (if x < y then y else x)) = .int (if Int32.ofInt x < Int32.ofInt y then Int32.ofInt y else Int32.ofInt x) := by
    have hi := aIn_lt hx hy
    by_cases h : x < y
    · rw [if_pos h, if_pos (hi.mpr h)]; rfl
    · rw [if_neg h, if_neg (fun q => h (hi.mp q))]; rfl
  rw [List.map_cons, e1] at K
  exact va_mmax hx1 hb (by rw [hml]; exact hl.2.1.symm) hown (hws _ l1) (hws _ l2) (hws _ l4) h5 hd (by rw [aCat_eq]; show _ + 13 ≤ 38 * d; omega) (Nat.zero_le _) (Nat.zero_le _) hdg K
theorem aw_min {idx : Nat} {x y : Int} (lk : aLS M.1.cls idx mJ9_min_7cf53 2) (hd : 1 ≤ d) (hr : aCat rest ≤ 8) (hdg : decode M.2.1 pc = .ok (.invokestatic idx, 3)) (hx : aIr x) (hy : aIr y) (k : AW l d M Q (pc + 3) L (aI (if y < x then y else x) :: rest) σ) : AW l d M Q pc L (aI y :: aI x :: rest) σ := by
  intro p e s m args below meth c2 D cA ad H locs ls C0 C1 hl
  obtain ⟨hx1, hb, hml, hr0, hlk, hown, hts, hK, hN⟩ := id C0
  obtain ⟨⟨l1, l2, l4, l5⟩, l6, l7⟩ := lk
  have hws : ∀ w ∈ aTbl, w.before args s = true := fun w hw => hts w (List.mem_cons_of_mem _ hw)
  have h5 : (Cond.code Lib.Math.min.name Lib.Math.min.code 2 (some .int)).before args s = true := by rw [← cd_min]; exact hws _ l5
  have K := k p e s m args below meth c2 D cA ad H locs ls C0 C1 hl
  have e1 : cV ad (aI (if y < x then y else x)) = .int (if Int32.ofInt y < Int32.ofInt x then Int32.ofInt y else Int32.ofInt x) := by
    have hi := aIn_lt hy hx
    by_cases h : y < x
    · rw [if_pos h, if_pos (hi.mpr h)]; rfl
    · rw [if_neg h, if_neg (fun q => h (hi.mp q))]; rfl
  rw [List.map_cons, e1] at K
  exact va_mmin hx1 hb (by rw [hml]; exact hl.2.1.symm) hown (hws _ l1) (hws _ l2) (hws _ l4) h5 hd (by rw [aCat_eq]; show _ + 13 ≤ 38 * d; omega) (Nat.zero_le _) (Nat.zero_le _) hdg K
theorem aw_abs {idx : Nat} {x : Int} (lk : aLS M.1.cls idx mJ9_abs_0f7a4 1) (hd : 1 ≤ d) (hr : aCat rest ≤ 8) (hdg : decode M.2.1 pc = .ok (.invokestatic idx, 3)) (hx : aIr x) (k : AW l d M Q (pc + 3) L (aI (if x < 0 then -x else x) :: rest) σ) : AW l d M Q pc L (aI x :: rest) σ := by
  intro p e s m args below meth c2 D cA ad H locs ls C0 C1 hl
  obtain ⟨hx1, hb, hml, hr0, hlk, hown, hts, hK, hN⟩ := id C0
  obtain ⟨⟨l1, l2, l4, l5⟩, l6, l7⟩ := lk
  have hws : ∀ w ∈ aTbl, w.before args s = true := fun w hw => hts w (List.mem_cons_of_mem _ hw)
  have h5 : (Cond.code Lib.Math.abs.name Lib.Math.abs.code 1 (some .int)).before args s = true := by rw [← cd_abs]; exact hws _ l5
  have K := k p e s m args below meth c2 D cA ad H locs ls C0 C1 hl
  have e1 : cV ad (aI (if x < 0 then -x else x)) = .int (if 0 ≤ Int32.ofInt x then Int32.ofInt x else 0 - Int32.ofInt x) := by
    have hi : (0 : Int32) ≤ Int32.ofInt x ↔ 0 ≤ x := aIn_le (x := 0) (by decide) hx
    by_cases h : x < 0
    · rw [if_pos h, if_neg (fun q => by have := hi.mp q; omega)]
      show Value.int (Int32.ofInt (-x)) = _
      rw [Int32.ofInt_neg, Int32.zero_sub]
    · rw [if_neg h, if_pos (hi.mpr (by omega))]; rfl
  rw [List.map_cons, e1] at K
  exact va_mabs hx1 hb (by rw [hml]; exact hl.2.1.symm) hown (hws _ l1) (hws _ l2) (hws _ l4) h5 hd (by rw [aCat_eq]; show _ + 13 ≤ 38 * d; omega) (Nat.zero_le _) (Nat.zero_le _) hdg K
end MathRules
end
section
/-! ===== the cabinet as a row of numbers: 0 people, 1 day, 2 falls, 3.. costumes, 8.. holders, 13.. people (kind, figure, known, mate) ===== -/
def aOf (p w : Int) : Int := 13 + 4 * p + w
abbrev aRw : Type := Int → Int
def rUp (r : aRw) (i x : Int) : aRw := fun j => if j = i then x else r j
theorem rUp_eq {r : aRw} {i x : Int} : rUp r i x i = x := by unfold rUp; rw [if_pos rfl]
theorem rUp_ne {r : aRw} {i x j : Int} (h : j ≠ i) : rUp r i x j = r j := by unfold rUp; rw [if_neg h]
/-- the row of a number in the store -/
def aRow (σ : aS) (c : Nat) (r : aRw) : aS := fun t c' i => if t = 22 ∧ c' = c then r i else σ t c' i
theorem aRow_self {σ : aS} {c : Nat} {r : aRw} : aRow σ c r 22 c = r := by funext i; unfold aRow; rw [if_pos ⟨rfl, rfl⟩]
theorem aRow_ne {σ : aS} {c c' : Nat} {r : aRw} (h : c' ≠ c) : aRow σ c r 22 c' = σ 22 c' := by funext i; unfold aRow; rw [if_neg (fun q => h q.2)]
theorem aRow_off {σ : aS} {c t : Nat} {r : aRw} (h : t ≠ 22) (c' : Nat) : aRow σ c r t c' = σ t c' := by funext i; unfold aRow; rw [if_neg (fun q => h q.1)]
theorem aRow_id {σ : aS} {c : Nat} : aRow σ c (σ 22 c) = σ := by
  funext t c' i; unfold aRow
  split
  · rename_i h; rw [h.1, h.2]
  · rfl
theorem aRow_two {σ : aS} {c : Nat} {r r' : aRw} : aRow (aRow σ c r) c r' = aRow σ c r' := by
  funext t c' i; unfold aRow
  split <;> rfl
theorem aUp_row {σ : aS} {c : Nat} {i x : Int} : aUp σ 22 c i x = aRow σ c (rUp (σ 22 c) i x) := by
  funext t c' j; unfold aUp aRow rUp
  by_cases h : t = 22 ∧ c' = c
  · obtain ⟨rfl, rfl⟩ := h
    by_cases h2 : j = i
    · simp [h2]
    · simp [h2]
  · rw [if_neg (fun q => h ⟨q.1, q.2.1⟩), if_neg h]
theorem aUp_row2 {σ : aS} {c : Nat} {r : aRw} {i x : Int} : aUp (aRow σ c r) 22 c i x = aRow σ c (rUp r i x) := by
  rw [aUp_row, aRow_self, aRow_two]
def off (r : aRw) (p : Int) : Int := if r 8 = p then 0 else if r 9 = p then 1 else if r 10 = p then 2 else if r 11 = p then 3 else if r 12 = p then 4 else -4
def cntC (r : aRw) (k : Int) : Nat → Int
  | 0 => 0
  | n + 1 => cntC r k n + (if 0 ≤ r (8 + n) ∧ r (3 + n) = k then 1 else 0)
theorem cntC_le (r : aRw) (k : Int) : ∀ n : Nat, 0 ≤ cntC r k n ∧ cntC r k n ≤ n
  | 0 => ⟨Int.le_refl 0, Int.le_refl 0⟩
  | n + 1 => by
    have h := cntC_le r k n
    unfold cntC
    split <;> omega
def shF (kind f k day : Int) : Int :=
  if kind = 1 then 6 else if kind = 2 then 1 + (if k - f < 0 then -(k - f) else k - f).tdiv 3 else if kind = 3 then (if day.tmod 2 = 1 then 6 + f else 6)
  else if kind = 4 then (if k = f then 0 else 1 + (if k - f < 0 then -(k - f) else k - f).tdiv 3) else if kind = 5 then (if k < 2 then 3 - k else 1)
  else if kind = 6 then (if k < f then 9 else 6) else if kind = 7 then 0 else 3
def beF (kind f : Int) : Int := if kind = 1 ∨ kind = 3 then 15 else if kind = 2 then 20 + f else if kind = 4 then 2 * (20 + f) else if kind = 5 then 20 + 2 * f else if kind = 6 then 7 else if kind = 7 then 99 else 20
def foF (kind f : Int) : Int := if kind = 1 ∨ kind = 6 then 1 else if kind = 2 ∨ kind = 4 then 3 else if kind = 3 then 0 else if kind = 5 then f else if kind = 7 then 9 else 2
def beR (r : aRw) (p : Int) : Int := beF (r (aOf p 0)) (r (aOf p 1))
def seR (r : aRw) (p : Int) : aRw :=
  if off r p < 0 then rUp r (aOf p 2) (if r (aOf p 2) < foF (r (aOf p 0)) (r (aOf p 1)) then 0 else r (aOf p 2) - foF (r (aOf p 0)) (r (aOf p 1)))
  else rUp r (aOf p 2) (if 99 < r (aOf p 2) + (shF (r (aOf p 0)) (r (aOf p 1)) (r (3 + off r p)) (r 1)).tdiv (if 1 < cntC r (r (3 + off r p)) 5 then 2 else 1) then 99 else r (aOf p 2) + (shF (r (aOf p 0)) (r (aOf p 1)) (r (3 + off r p)) (r 1)).tdiv (if 1 < cntC r (r (3 + off r p)) 5 then 2 else 1))
def f1R (r : aRw) (f : Int) : aRw := rUp (rUp r 2 (if 999 < r 2 + 1 then 999 else r 2 + 1)) (8 + f) (-4)
def faR (r : aRw) (f : Int) : aRw :=
  if r (8 + f) < 0 ∨ r (aOf (r (8 + f)) 2) < beR r (r (8 + f)) then r
  else if r (aOf (r (8 + f)) 3) < r 0 ∧ off (f1R r f) (r (aOf (r (8 + f)) 3)) < 0 ∧ r (aOf (r (aOf (r (8 + f)) 3)) 2) < beR r (r (aOf (r (8 + f)) 3)) then rUp (f1R r f) (8 + f) (r (aOf (r (8 + f)) 3))
  else f1R r f
def seN (r : aRw) : Nat → aRw
  | 0 => rUp r 1 (r 1 + 1)
  | n + 1 => seR (seN r n) n
def faN (r : aRw) : Nat → aRw
  | 0 => r
  | n + 1 => faR (faN r n) n
def dayR (r : aRw) : aRw := faN (seN r (r 0).toNat) 5
def dysR (r : aRw) : Nat → aRw
  | 0 => r
  | n + 1 => dayR (dysR r n)
def WF (r : aRw) : Prop :=
  (0 ≤ r 0 ∧ r 0 ≤ 8) ∧ (0 ≤ r 1) ∧ (0 ≤ r 2 ∧ r 2 ≤ 999) ∧
  (∀ f : Int, 0 ≤ f → f < 5 → 0 ≤ r (3 + f) ∧ r (3 + f) ≤ 9) ∧
  (∀ f : Int, 0 ≤ f → f < 5 → r (8 + f) = -4 ∨ (0 ≤ r (8 + f) ∧ r (8 + f) < r 0)) ∧
  (∀ f g : Int, 0 ≤ f → f < 5 → 0 ≤ g → g < 5 → 0 ≤ r (8 + f) → r (8 + f) = r (8 + g) → f = g) ∧
  (∀ p : Int, 0 ≤ p → p < r 0 → (0 ≤ r (aOf p 0) ∧ r (aOf p 0) ≤ 7) ∧ (0 ≤ r (aOf p 1) ∧ r (aOf p 1) ≤ 9) ∧ (0 ≤ r (aOf p 2) ∧ r (aOf p 2) ≤ 99) ∧ (0 ≤ r (aOf p 3) ∧ r (aOf p 3) ≤ 9 ∧ r (aOf p 3) ≠ 8)) ∧
  (∀ i : Int, i < 0 ∨ 45 ≤ i → r i = 0)
theorem WF.ho {r : aRw} (h : WF r) {f : Int} (h0 : 0 ≤ f) (h1 : f < 5) : r (8 + f) = -4 ∨ (0 ≤ r (8 + f) ∧ r (8 + f) < r 0) := h.2.2.2.2.1 f h0 h1
theorem WF.co {r : aRw} (h : WF r) {f : Int} (h0 : 0 ≤ f) (h1 : f < 5) : 0 ≤ r (3 + f) ∧ r (3 + f) ≤ 9 := h.2.2.2.1 f h0 h1
theorem WF.pe {r : aRw} (h : WF r) {p : Int} (h0 : 0 ≤ p) (h1 : p < r 0) : (0 ≤ r (aOf p 0) ∧ r (aOf p 0) ≤ 7) ∧ (0 ≤ r (aOf p 1) ∧ r (aOf p 1) ≤ 9) ∧ (0 ≤ r (aOf p 2) ∧ r (aOf p 2) ≤ 99) ∧ (0 ≤ r (aOf p 3) ∧ r (aOf p 3) ≤ 9 ∧ r (aOf p 3) ≠ 8) := h.2.2.2.2.2.2.1 p h0 h1
theorem WF.r8 {r : aRw} (h : WF r) : (r 8 = -4 ∨ (0 ≤ r 8 ∧ r 8 < r 0)) ∧ (r 9 = -4 ∨ (0 ≤ r 9 ∧ r 9 < r 0)) ∧ (r 10 = -4 ∨ (0 ≤ r 10 ∧ r 10 < r 0)) ∧ (r 11 = -4 ∨ (0 ≤ r 11 ∧ r 11 < r 0)) ∧ (r 12 = -4 ∨ (0 ≤ r 12 ∧ r 12 < r 0)) :=
  ⟨h.ho (f := 0) (by decide) (by decide), h.ho (f := 1) (by decide) (by decide), h.ho (f := 2) (by decide) (by decide), h.ho (f := 3) (by decide) (by decide), h.ho (f := 4) (by decide) (by decide)⟩
theorem off_cases (r : aRw) (p : Int) : off r p = -4 ∨ (0 ≤ off r p ∧ off r p < 5 ∧ r (8 + off r p) = p) := by
  unfold off
  split
  · rename_i h; exact Or.inr ⟨by decide, by decide, h⟩
  · split
    · rename_i h; exact Or.inr ⟨by decide, by decide, h⟩
    · split
      · rename_i h; exact Or.inr ⟨by decide, by decide, h⟩
      · split
        · rename_i h; exact Or.inr ⟨by decide, by decide, h⟩
        · split
          · rename_i h; exact Or.inr ⟨by decide, by decide, h⟩
          · exact Or.inl rfl
theorem off_none {r : aRw} {p : Int} (h : ∀ f : Int, 0 ≤ f → f < 5 → r (8 + f) ≠ p) : off r p = -4 := by
  rcases off_cases r p with q | ⟨q1, q2, q3⟩
  · exact q
  · exact absurd q3 (h _ q1 q2)
theorem off_neg {r : aRw} {p : Int} (h : off r p < 0) : ∀ f : Int, 0 ≤ f → f < 5 → r (8 + f) ≠ p := by
  unfold off at h
  intro f h0 h1
  split at h
  · omega
  · split at h
    · omega
    · split at h
      · omega
      · split at h
        · omega
        · split at h
          · omega
          · rename_i a b c d e
            rcases (show f = 0 ∨ f = 1 ∨ f = 2 ∨ f = 3 ∨ f = 4 by omega) with rfl | rfl | rfl | rfl | rfl
            · exact a
            · exact b
            · exact c
            · exact d
            · exact e
/-- in a row that is as it must be, who holds an office is found there -/
theorem off_of {r : aRw} (h : WF r) {f p : Int} (h0 : 0 ≤ f) (h1 : f < 5) (hp : 0 ≤ p) (hf : r (8 + f) = p) : off r p = f := by
  rcases off_cases r p with q | ⟨q1, q2, q3⟩
  · exact absurd hf (off_neg (by rw [q]; decide) f h0 h1)
  · exact h.2.2.2.2.2.1 _ _ q1 q2 h0 h1 (by rw [q3]; exact hp) (q3.trans hf.symm)
theorem off_rng (r : aRw) (p : Int) : -4 ≤ off r p ∧ off r p ≤ 4 := by
  rcases off_cases r p with q | ⟨q1, q2, -⟩ <;> omega
theorem off_cong {r r' : aRw} (h : ∀ f : Int, 0 ≤ f → f < 5 → r' (8 + f) = r (8 + f)) (p : Int) : off r' p = off r p := by
  unfold off
  rw [show r' 8 = r 8 from h 0 (by decide) (by decide), show r' 9 = r 9 from h 1 (by decide) (by decide), show r' 10 = r 10 from h 2 (by decide) (by decide), show r' 11 = r 11 from h 3 (by decide) (by decide), show r' 12 = r 12 from h 4 (by decide) (by decide)]
theorem shF_rng {kind f k day : Int} (h2 : 0 ≤ f ∧ f ≤ 9) (h3 : 0 ≤ k ∧ k ≤ 9) : 0 ≤ shF kind f k day ∧ shF kind f k day ≤ 15 := by
  have e : ∀ x : Int, 0 ≤ x → x ≤ 9 → 0 ≤ x.tdiv 3 ∧ x.tdiv 3 ≤ 3 := by
    intro x h0 h9
    rw [Int.tdiv_eq_ediv_of_nonneg h0]
    omega
  unfold shF
  have e1 := e (if k - f < 0 then -(k - f) else k - f) (by split <;> omega) (by split <;> omega)
  generalize (if k - f < 0 then -(k - f) else k - f).tdiv 3 = z at e1 ⊢
  repeat' split
  all_goals omega
theorem beF_rng {kind f : Int} (h2 : 0 ≤ f ∧ f ≤ 9) : 7 ≤ beF kind f ∧ beF kind f ≤ 99 := by
  unfold beF
  repeat' split
  all_goals omega
theorem foF_rng {kind f : Int} (h2 : 0 ≤ f ∧ f ≤ 9) : 0 ≤ foF kind f ∧ foF kind f ≤ 9 := by
  unfold foF
  repeat' split
  all_goals omega
theorem aOf_rng {p w : Int} (h0 : 0 ≤ p) (h1 : p < 8) (h2 : 0 ≤ w) (h3 : w < 4) : 13 ≤ aOf p w ∧ aOf p w < 45 := by unfold aOf; omega
theorem aOf_inj {p w p' w' : Int} (h2 : 0 ≤ w) (h3 : w < 4) (h4 : 0 ≤ w') (h5 : w' < 4) (h : aOf p w = aOf p' w') : p = p' ∧ w = w' := by unfold aOf at h; omega
end
section
/-! ===== rows stay as they must be ===== -/
theorem WF_kind {r : aRw} (h : WF r) {p x : Int} (hp0 : 0 ≤ p) (hp1 : p < r 0) (hx : 0 ≤ x ∧ x ≤ 7) : WF (rUp r (aOf p 0) (x)) := by
  obtain ⟨a0, a1, a2, a3, a4, a5, a6, a7⟩ := h
  have hp8 : p < 8 := by omega
  refine ⟨?_, ?_, ?_, ?_, ?_, ?_, ?_, ?_⟩
  · rw [rUp_ne (by (try unfold aOf); omega)]; exact a0
  · rw [rUp_ne (by (try unfold aOf); omega)]; exact a1
  · rw [rUp_ne (by (try unfold aOf); omega)]; exact a2
  · intro g g0 g1; rw [rUp_ne (by (try unfold aOf); omega)]; exact a3 g g0 g1
  · intro g g0 g1; rw [rUp_ne (j := 8 + g) (by (try unfold aOf); omega), rUp_ne (j := 0) (by (try unfold aOf); omega)]; exact a4 g g0 g1
  · intro g g2 g0 g1 g3 g4; rw [rUp_ne (j := 8 + g) (by (try unfold aOf); omega), rUp_ne (j := 8 + g2) (by (try unfold aOf); omega)]; exact a5 g g2 g0 g1 g3 g4
  · intro q q0 q1; rw [rUp_ne (j := 0) (by (try unfold aOf); omega)] at q1
    have b := a6 q q0 q1
    by_cases hq : q = p
    · subst hq; rw [show rUp r (aOf q 0) x (aOf q 0) = x from rUp_eq, rUp_ne (j := aOf q 1) (by (try unfold aOf); omega), rUp_ne (j := aOf q 2) (by (try unfold aOf); omega), rUp_ne (j := aOf q 3) (by (try unfold aOf); omega)]; exact ⟨hx, b.2.1, b.2.2.1, b.2.2.2⟩
    · rw [rUp_ne (j := aOf q 0) (by (try unfold aOf); omega), rUp_ne (j := aOf q 1) (by (try unfold aOf); omega), rUp_ne (j := aOf q 2) (by (try unfold aOf); omega), rUp_ne (j := aOf q 3) (by (try unfold aOf); omega)]; exact b
  · intro i hi; rw [rUp_ne (by (try unfold aOf); omega)]; exact a7 i hi
theorem WF_fig {r : aRw} (h : WF r) {p x : Int} (hp0 : 0 ≤ p) (hp1 : p < r 0) (hx : 0 ≤ x ∧ x ≤ 9) : WF (rUp r (aOf p 1) (x)) := by
  obtain ⟨a0, a1, a2, a3, a4, a5, a6, a7⟩ := h
  have hp8 : p < 8 := by omega
  refine ⟨?_, ?_, ?_, ?_, ?_, ?_, ?_, ?_⟩
  · rw [rUp_ne (by (try unfold aOf); omega)]; exact a0
  · rw [rUp_ne (by (try unfold aOf); omega)]; exact a1
  · rw [rUp_ne (by (try unfold aOf); omega)]; exact a2
  · intro g g0 g1; rw [rUp_ne (by (try unfold aOf); omega)]; exact a3 g g0 g1
  · intro g g0 g1; rw [rUp_ne (j := 8 + g) (by (try unfold aOf); omega), rUp_ne (j := 0) (by (try unfold aOf); omega)]; exact a4 g g0 g1
  · intro g g2 g0 g1 g3 g4; rw [rUp_ne (j := 8 + g) (by (try unfold aOf); omega), rUp_ne (j := 8 + g2) (by (try unfold aOf); omega)]; exact a5 g g2 g0 g1 g3 g4
  · intro q q0 q1; rw [rUp_ne (j := 0) (by (try unfold aOf); omega)] at q1
    have b := a6 q q0 q1
    by_cases hq : q = p
    · subst hq; rw [show rUp r (aOf q 1) x (aOf q 1) = x from rUp_eq, rUp_ne (j := aOf q 0) (by (try unfold aOf); omega), rUp_ne (j := aOf q 2) (by (try unfold aOf); omega), rUp_ne (j := aOf q 3) (by (try unfold aOf); omega)]; exact ⟨b.1, hx, b.2.2.1, b.2.2.2⟩
    · rw [rUp_ne (j := aOf q 0) (by (try unfold aOf); omega), rUp_ne (j := aOf q 1) (by (try unfold aOf); omega), rUp_ne (j := aOf q 2) (by (try unfold aOf); omega), rUp_ne (j := aOf q 3) (by (try unfold aOf); omega)]; exact b
  · intro i hi; rw [rUp_ne (by (try unfold aOf); omega)]; exact a7 i hi
theorem WF_known {r : aRw} (h : WF r) {p x : Int} (hp0 : 0 ≤ p) (hp1 : p < r 0) (hx : 0 ≤ x ∧ x ≤ 99) : WF (rUp r (aOf p 2) (x)) := by
  obtain ⟨a0, a1, a2, a3, a4, a5, a6, a7⟩ := h
  have hp8 : p < 8 := by omega
  refine ⟨?_, ?_, ?_, ?_, ?_, ?_, ?_, ?_⟩
  · rw [rUp_ne (by (try unfold aOf); omega)]; exact a0
  · rw [rUp_ne (by (try unfold aOf); omega)]; exact a1
  · rw [rUp_ne (by (try unfold aOf); omega)]; exact a2
  · intro g g0 g1; rw [rUp_ne (by (try unfold aOf); omega)]; exact a3 g g0 g1
  · intro g g0 g1; rw [rUp_ne (j := 8 + g) (by (try unfold aOf); omega), rUp_ne (j := 0) (by (try unfold aOf); omega)]; exact a4 g g0 g1
  · intro g g2 g0 g1 g3 g4; rw [rUp_ne (j := 8 + g) (by (try unfold aOf); omega), rUp_ne (j := 8 + g2) (by (try unfold aOf); omega)]; exact a5 g g2 g0 g1 g3 g4
  · intro q q0 q1; rw [rUp_ne (j := 0) (by (try unfold aOf); omega)] at q1
    have b := a6 q q0 q1
    by_cases hq : q = p
    · subst hq; rw [show rUp r (aOf q 2) x (aOf q 2) = x from rUp_eq, rUp_ne (j := aOf q 0) (by (try unfold aOf); omega), rUp_ne (j := aOf q 1) (by (try unfold aOf); omega), rUp_ne (j := aOf q 3) (by (try unfold aOf); omega)]; exact ⟨b.1, b.2.1, hx, b.2.2.2⟩
    · rw [rUp_ne (j := aOf q 0) (by (try unfold aOf); omega), rUp_ne (j := aOf q 1) (by (try unfold aOf); omega), rUp_ne (j := aOf q 2) (by (try unfold aOf); omega), rUp_ne (j := aOf q 3) (by (try unfold aOf); omega)]; exact b
  · intro i hi; rw [rUp_ne (by (try unfold aOf); omega)]; exact a7 i hi
theorem WF_mate {r : aRw} (h : WF r) {p x : Int} (hp0 : 0 ≤ p) (hp1 : p < r 0) (hx : 0 ≤ x ∧ x ≤ 9 ∧ x ≠ 8) : WF (rUp r (aOf p 3) (x)) := by
  obtain ⟨a0, a1, a2, a3, a4, a5, a6, a7⟩ := h
  have hp8 : p < 8 := by omega
  refine ⟨?_, ?_, ?_, ?_, ?_, ?_, ?_, ?_⟩
  · rw [rUp_ne (by (try unfold aOf); omega)]; exact a0
  · rw [rUp_ne (by (try unfold aOf); omega)]; exact a1
  · rw [rUp_ne (by (try unfold aOf); omega)]; exact a2
  · intro g g0 g1; rw [rUp_ne (by (try unfold aOf); omega)]; exact a3 g g0 g1
  · intro g g0 g1; rw [rUp_ne (j := 8 + g) (by (try unfold aOf); omega), rUp_ne (j := 0) (by (try unfold aOf); omega)]; exact a4 g g0 g1
  · intro g g2 g0 g1 g3 g4; rw [rUp_ne (j := 8 + g) (by (try unfold aOf); omega), rUp_ne (j := 8 + g2) (by (try unfold aOf); omega)]; exact a5 g g2 g0 g1 g3 g4
  · intro q q0 q1; rw [rUp_ne (j := 0) (by (try unfold aOf); omega)] at q1
    have b := a6 q q0 q1
    by_cases hq : q = p
    · subst hq; rw [show rUp r (aOf q 3) x (aOf q 3) = x from rUp_eq, rUp_ne (j := aOf q 0) (by (try unfold aOf); omega), rUp_ne (j := aOf q 1) (by (try unfold aOf); omega), rUp_ne (j := aOf q 2) (by (try unfold aOf); omega)]; exact ⟨b.1, b.2.1, b.2.2.1, hx⟩
    · rw [rUp_ne (j := aOf q 0) (by (try unfold aOf); omega), rUp_ne (j := aOf q 1) (by (try unfold aOf); omega), rUp_ne (j := aOf q 2) (by (try unfold aOf); omega), rUp_ne (j := aOf q 3) (by (try unfold aOf); omega)]; exact b
  · intro i hi; rw [rUp_ne (by (try unfold aOf); omega)]; exact a7 i hi
theorem WF_day {r : aRw} (h : WF r) {x : Int} (hx : 0 ≤ x) : WF (rUp r (1) (x)) := by
  obtain ⟨a0, a1, a2, a3, a4, a5, a6, a7⟩ := h
  refine ⟨?_, ?_, ?_, ?_, ?_, ?_, ?_, ?_⟩
  · rw [rUp_ne (by (try unfold aOf); omega)]; exact a0
  · rw [rUp_eq]; exact hx
  · rw [rUp_ne (by (try unfold aOf); omega)]; exact a2
  · intro g g0 g1; rw [rUp_ne (by (try unfold aOf); omega)]; exact a3 g g0 g1
  · intro g g0 g1; rw [rUp_ne (j := 8 + g) (by (try unfold aOf); omega), rUp_ne (j := 0) (by (try unfold aOf); omega)]; exact a4 g g0 g1
  · intro g g2 g0 g1 g3 g4; rw [rUp_ne (j := 8 + g) (by (try unfold aOf); omega), rUp_ne (j := 8 + g2) (by (try unfold aOf); omega)]; exact a5 g g2 g0 g1 g3 g4
  · intro q q0 q1; rw [rUp_ne (j := 0) (by (try unfold aOf); omega)] at q1; rw [rUp_ne (j := aOf q 0) (by (try unfold aOf); omega), rUp_ne (j := aOf q 1) (by (try unfold aOf); omega), rUp_ne (j := aOf q 2) (by (try unfold aOf); omega), rUp_ne (j := aOf q 3) (by (try unfold aOf); omega)]; exact a6 q q0 q1
  · intro i hi; rw [rUp_ne (by (try unfold aOf); omega)]; exact a7 i hi
theorem WF_falls {r : aRw} (h : WF r) {x : Int} (hx : 0 ≤ x ∧ x ≤ 999) : WF (rUp r (2) (x)) := by
  obtain ⟨a0, a1, a2, a3, a4, a5, a6, a7⟩ := h
  refine ⟨?_, ?_, ?_, ?_, ?_, ?_, ?_, ?_⟩
  · rw [rUp_ne (by (try unfold aOf); omega)]; exact a0
  · rw [rUp_ne (by (try unfold aOf); omega)]; exact a1
  · rw [rUp_eq]; exact hx
  · intro g g0 g1; rw [rUp_ne (by (try unfold aOf); omega)]; exact a3 g g0 g1
  · intro g g0 g1; rw [rUp_ne (j := 8 + g) (by (try unfold aOf); omega), rUp_ne (j := 0) (by (try unfold aOf); omega)]; exact a4 g g0 g1
  · intro g g2 g0 g1 g3 g4; rw [rUp_ne (j := 8 + g) (by (try unfold aOf); omega), rUp_ne (j := 8 + g2) (by (try unfold aOf); omega)]; exact a5 g g2 g0 g1 g3 g4
  · intro q q0 q1; rw [rUp_ne (j := 0) (by (try unfold aOf); omega)] at q1; rw [rUp_ne (j := aOf q 0) (by (try unfold aOf); omega), rUp_ne (j := aOf q 1) (by (try unfold aOf); omega), rUp_ne (j := aOf q 2) (by (try unfold aOf); omega), rUp_ne (j := aOf q 3) (by (try unfold aOf); omega)]; exact a6 q q0 q1
  · intro i hi; rw [rUp_ne (by (try unfold aOf); omega)]; exact a7 i hi
theorem WF_cost {r : aRw} (h : WF r) {f x : Int} (f0 : 0 ≤ f) (f1 : f < 5) (hx : 0 ≤ x ∧ x ≤ 9) : WF (rUp r (3 + f) (x)) := by
  obtain ⟨a0, a1, a2, a3, a4, a5, a6, a7⟩ := h
  refine ⟨?_, ?_, ?_, ?_, ?_, ?_, ?_, ?_⟩
  · rw [rUp_ne (by (try unfold aOf); omega)]; exact a0
  · rw [rUp_ne (by (try unfold aOf); omega)]; exact a1
  · rw [rUp_ne (by (try unfold aOf); omega)]; exact a2
  · intro g g0 g1
    by_cases hg : g = f
    · subst hg; rw [rUp_eq]; exact hx
    · rw [rUp_ne (by omega)]; exact a3 g g0 g1
  · intro g g0 g1; rw [rUp_ne (j := 8 + g) (by (try unfold aOf); omega), rUp_ne (j := 0) (by (try unfold aOf); omega)]; exact a4 g g0 g1
  · intro g g2 g0 g1 g3 g4; rw [rUp_ne (j := 8 + g) (by (try unfold aOf); omega), rUp_ne (j := 8 + g2) (by (try unfold aOf); omega)]; exact a5 g g2 g0 g1 g3 g4
  · intro q q0 q1; rw [rUp_ne (j := 0) (by (try unfold aOf); omega)] at q1; rw [rUp_ne (j := aOf q 0) (by (try unfold aOf); omega), rUp_ne (j := aOf q 1) (by (try unfold aOf); omega), rUp_ne (j := aOf q 2) (by (try unfold aOf); omega), rUp_ne (j := aOf q 3) (by (try unfold aOf); omega)]; exact a6 q q0 q1
  · intro i hi; rw [rUp_ne (by (try unfold aOf); omega)]; exact a7 i hi
theorem WF_empty {r : aRw} (h : WF r) {f : Int} (f0 : 0 ≤ f) (f1 : f < 5) : WF (rUp r (8 + f) (-4)) := by
  obtain ⟨a0, a1, a2, a3, a4, a5, a6, a7⟩ := h
  refine ⟨?_, ?_, ?_, ?_, ?_, ?_, ?_, ?_⟩
  · rw [rUp_ne (by (try unfold aOf); omega)]; exact a0
  · rw [rUp_ne (by (try unfold aOf); omega)]; exact a1
  · rw [rUp_ne (by (try unfold aOf); omega)]; exact a2
  · intro g g0 g1; rw [rUp_ne (by (try unfold aOf); omega)]; exact a3 g g0 g1
  · intro g g0 g1; rw [rUp_ne (j := 0) (by omega)]
    by_cases hg : g = f
    · subst hg; rw [rUp_eq]; exact Or.inl rfl
    · rw [rUp_ne (by omega)]; exact a4 g g0 g1
  · intro g g2 g0 g1 g3 g4 k1 k2
    by_cases hg : g = f
    · subst hg; rw [rUp_eq] at k1; omega
    · rw [rUp_ne (j := 8 + g) (by omega)] at k1 k2
      by_cases hg2 : g2 = f
      · subst hg2; rw [rUp_eq] at k2; omega
      · rw [rUp_ne (j := 8 + g2) (by omega)] at k2; exact a5 g g2 g0 g1 g3 g4 k1 k2
  · intro q q0 q1; rw [rUp_ne (j := 0) (by (try unfold aOf); omega)] at q1; rw [rUp_ne (j := aOf q 0) (by (try unfold aOf); omega), rUp_ne (j := aOf q 1) (by (try unfold aOf); omega), rUp_ne (j := aOf q 2) (by (try unfold aOf); omega), rUp_ne (j := aOf q 3) (by (try unfold aOf); omega)]; exact a6 q q0 q1
  · intro i hi; rw [rUp_ne (by (try unfold aOf); omega)]; exact a7 i hi
theorem WF_hold {r : aRw} (h : WF r) {f p : Int} (f0 : 0 ≤ f) (f1 : f < 5) (hp0 : 0 ≤ p) (hp1 : p < r 0) (hn : ∀ g : Int, 0 ≤ g → g < 5 → g ≠ f → r (8 + g) ≠ p) : WF (rUp r (8 + f) (p)) := by
  obtain ⟨a0, a1, a2, a3, a4, a5, a6, a7⟩ := h
  refine ⟨?_, ?_, ?_, ?_, ?_, ?_, ?_, ?_⟩
  · rw [rUp_ne (by (try unfold aOf); omega)]; exact a0
  · rw [rUp_ne (by (try unfold aOf); omega)]; exact a1
  · rw [rUp_ne (by (try unfold aOf); omega)]; exact a2
  · intro g g0 g1; rw [rUp_ne (by (try unfold aOf); omega)]; exact a3 g g0 g1
  · intro g g0 g1; rw [rUp_ne (j := 0) (by omega)]
    by_cases hg : g = f
    · subst hg; rw [rUp_eq]; exact Or.inr ⟨hp0, hp1⟩
    · rw [rUp_ne (by omega)]; exact a4 g g0 g1
  · intro g g2 g0 g1 g3 g4 k1 k2
    by_cases hg : g = f
    · subst hg; rw [rUp_eq] at k1 k2
      by_cases hg2 : g2 = g
      · exact hg2.symm
      · rw [rUp_ne (j := 8 + g2) (by omega)] at k2; exact absurd k2.symm (hn g2 g3 g4 hg2)
    · rw [rUp_ne (j := 8 + g) (by omega)] at k1 k2
      by_cases hg2 : g2 = f
      · subst hg2; rw [rUp_eq] at k2; exact absurd k2 (hn g g0 g1 hg)
      · rw [rUp_ne (j := 8 + g2) (by omega)] at k2; exact a5 g g2 g0 g1 g3 g4 k1 k2
  · intro q q0 q1; rw [rUp_ne (j := 0) (by (try unfold aOf); omega)] at q1; rw [rUp_ne (j := aOf q 0) (by (try unfold aOf); omega), rUp_ne (j := aOf q 1) (by (try unfold aOf); omega), rUp_ne (j := aOf q 2) (by (try unfold aOf); omega), rUp_ne (j := aOf q 3) (by (try unfold aOf); omega)]; exact a6 q q0 q1
  · intro i hi; rw [rUp_ne (by (try unfold aOf); omega)]; exact a7 i hi
theorem shCut {kind f k day : Int} (h2 : 0 ≤ f ∧ f ≤ 9) (h3 : 0 ≤ k ∧ k ≤ 9) (b : Prop) [Decidable b] : 0 ≤ (shF kind f k day).tdiv (if b then 2 else 1) ∧ (shF kind f k day).tdiv (if b then 2 else 1) ≤ 15 := by
  have e := shF_rng (kind := kind) (day := day) h2 h3
  rw [Int.tdiv_eq_ediv_of_nonneg e.1]
  split <;> omega
theorem seR_wf {r : aRw} (h : WF r) {p : Int} (hp0 : 0 ≤ p) (hp1 : p < r 0) : WF (seR r p) := by
  have b := h.pe hp0 hp1
  unfold seR
  split
  · have q := foF_rng (kind := r (aOf p 0)) b.2.1
    exact WF_known h hp0 hp1 (by split <;> omega)
  · rename_i ho
    have hc := h.co (f := off r p) (by omega) (by have := off_rng r p; omega)
    have q := shCut (kind := r (aOf p 0)) (day := r 1) b.2.1 hc (1 < cntC r (r (3 + off r p)) 5)
    generalize (shF (r (aOf p 0)) (r (aOf p 1)) (r (3 + off r p)) (r 1)).tdiv (if 1 < cntC r (r (3 + off r p)) 5 then 2 else 1) = z at q ⊢
    exact WF_known h hp0 hp1 (by split <;> omega)
theorem seR_at (r : aRw) (p : Int) {j : Int} (h : j ≠ aOf p 2) : seR r p j = r j := by
  unfold seR
  split <;> exact rUp_ne h
theorem f1R_wf {r : aRw} (h : WF r) {f : Int} (f0 : 0 ≤ f) (f1 : f < 5) : WF (f1R r f) := by
  unfold f1R
  have b := h.2.2.1
  exact WF_empty (WF_falls h (by split <;> omega)) f0 f1
theorem f1R_at (r : aRw) (f : Int) {j : Int} (h2 : j ≠ 2) (h : j ≠ 8 + f) : f1R r f j = r j := by
  unfold f1R
  rw [rUp_ne h, rUp_ne h2]
theorem faR_wf {r : aRw} (h : WF r) {f : Int} (f0 : 0 ≤ f) (f1 : f < 5) : WF (faR r f) := by
  unfold faR
  split
  · exact h
  · rename_i hh
    have ho := h.ho f0 f1
    have b := h.pe (p := r (8 + f)) (by omega) (by omega)
    split
    · rename_i hm
      refine WF_hold (f1R_wf h f0 f1) f0 f1 (by omega) ?_ (fun g g0 g1 _ => off_neg hm.2.1 g g0 g1)
      rw [f1R_at r f (by decide) (by omega)]; exact hm.1
    · exact f1R_wf h f0 f1
theorem faR_at (r : aRw) (f : Int) {j : Int} (h2 : j ≠ 2) (h : j ≠ 8 + f) : faR r f j = r j := by
  unfold faR
  split
  · rfl
  · split
    · rw [rUp_ne h, f1R_at r f h2 h]
    · exact f1R_at r f h2 h
theorem seN_0 (r : aRw) : ∀ n : Nat, seN r n 0 = r 0 ∧ seN r n 1 = r 1 + 1 ∧ seN r n 2 = r 2
  | 0 => ⟨rUp_ne (by decide), rUp_eq, rUp_ne (by decide)⟩
  | n + 1 => by
    have h := seN_0 r n
    unfold seN
    rw [seR_at _ _ (by (try unfold aOf); omega), seR_at _ _ (by (try unfold aOf); omega), seR_at _ _ (by (try unfold aOf); omega)]
    exact h
theorem seN_wf {r : aRw} (h : WF r) : ∀ n : Nat, (n : Int) ≤ r 0 → WF (seN r n)
  | 0, _ => WF_day h (by have := h.2.1; omega)
  | n + 1, hn => by
    unfold seN
    exact seR_wf (seN_wf h n (by omega)) (by omega) (by rw [(seN_0 r n).1]; omega)
theorem faN_0 (r : aRw) : ∀ n : Nat, faN r n 0 = r 0 ∧ faN r n 1 = r 1
  | 0 => ⟨rfl, rfl⟩
  | n + 1 => by
    have h := faN_0 r n
    unfold faN
    rw [faR_at _ _ (by decide) (by omega), faR_at _ _ (by decide) (by omega)]
    exact h
theorem faN_wf {r : aRw} (h : WF r) : ∀ n : Nat, n ≤ 5 → WF (faN r n)
  | 0, _ => h
  | n + 1, hn => faR_wf (faN_wf h n (by omega)) (by omega) (by omega)
theorem dayR_wf {r : aRw} (h : WF r) : WF (dayR r) := faN_wf (seN_wf h _ (by have := h.1; omega)) 5 (by decide)
theorem dayR_0 (r : aRw) : dayR r 0 = r 0 ∧ dayR r 1 = r 1 + 1 := by
  unfold dayR
  rw [(faN_0 _ 5).1, (faN_0 _ 5).2]
  exact ⟨(seN_0 r _).1, (seN_0 r _).2.1⟩
theorem dysR_wf {r : aRw} (h : WF r) : ∀ n : Nat, WF (dysR r n)
  | 0 => h
  | n + 1 => dayR_wf (dysR_wf h n)
theorem dysR_0 (r : aRw) : ∀ n : Nat, dysR r n 0 = r 0 ∧ dysR r n 1 = r 1 + n
  | 0 => ⟨rfl, (Int.add_zero _).symm⟩
  | n + 1 => by
    have h := dysR_0 r n
    unfold dysR
    rw [(dayR_0 _).1, (dayR_0 _).2, h.1, h.2]
    exact ⟨rfl, by omega⟩
end
section
/-! ===== the model: small methods ===== -/
set_option maxRecDepth 10000 in
theorem cM_isIn (l : Launch) (v a b : Int) (σ : aS) (h1 : aIr v) (h2 : aIr a) (h3 : aIr b) : AM l 0 mX7_isIn [aI v, aI a, aI b] σ (aF (some (aI (if a ≤ v ∧ v ≤ b then 1 else 0))) σ) := by
  refine am_of (by decide) (Nat.le_of_ble_eq_true rfl) (L := [some (aI v), some (aI a), some (aI b)]) rfl ?_
  refine aw_b kX7_ok bX7_isIn_0_ok (Cs := []) (pc' := 2) (L' := [some (aI v), some (aI a), some (aI b)]) (st' := [aI a, aI v]) (σ' := σ) rfl trivial ?_
  refine aw_clt dX7_isIn_2 (tgt := 14) (by decide) ⟨by omega, by omega⟩ ⟨by omega, by omega⟩ (fun wh1 => ?_) (fun wh1 => ?_)
  · refine aw_b kX7_ok bX7_isIn_14_ok (Cs := []) (pc' := 15) (L' := [some (aI v), some (aI a), some (aI b)]) (st' := [aI 0]) (σ' := σ) rfl trivial ?_
    exact aw_zret dX7_isIn_15 rfl (by omega) ⟨aret (by split <;> omega), rfl⟩
  · refine aw_b kX7_ok bX7_isIn_5_ok (Cs := []) (pc' := 7) (L' := [some (aI v), some (aI a), some (aI b)]) (st' := [aI b, aI v]) (σ' := σ) rfl trivial ?_
    refine aw_cgt dX7_isIn_7 (tgt := 14) (by decide) ⟨by omega, by omega⟩ ⟨by omega, by omega⟩ (fun wh2 => ?_) (fun wh2 => ?_)
    · refine aw_b kX7_ok bX7_isIn_14_ok (Cs := []) (pc' := 15) (L' := [some (aI v), some (aI a), some (aI b)]) (st' := [aI 0]) (σ' := σ) rfl trivial ?_
      exact aw_zret dX7_isIn_15 rfl (by omega) ⟨aret (by split <;> omega), rfl⟩
    · refine aw_b kX7_ok bX7_isIn_10_ok (Cs := []) (pc' := 15) (L' := [some (aI v), some (aI a), some (aI b)]) (st' := [aI 1]) (σ' := σ) rfl trivial ?_
      exact aw_zret dX7_isIn_15 rfl (by omega) ⟨aret (by split <;> omega), rfl⟩
set_option maxRecDepth 10000 in
theorem cM_sized (l : Launch) (v : Int) (σ : aS) (h1 : aIr v) : AM l 0 mX7_sized [aI v] σ (aF (some (aI (if v < 0 then -v else v))) σ) := by
  refine am_of (by decide) (Nat.le_of_ble_eq_true rfl) (L := [some (aI v)]) rfl ?_
  refine aw_b kX7_ok bX7_sized_0_ok (Cs := []) (pc' := 1) (L' := [some (aI v)]) (st' := [aI v]) (σ' := σ) rfl trivial ?_
  refine aw_ige dX7_sized_1 (tgt := 9) (by decide) ⟨by omega, by omega⟩ (fun wh1 => ?_) (fun wh1 => ?_)
  · refine aw_b kX7_ok bX7_sized_9_ok (Cs := []) (pc' := 10) (L' := [some (aI v)]) (st' := [aI v]) (σ' := σ) rfl trivial ?_
    exact aw_iret dX7_sized_10 rfl ⟨aret (by split <;> omega), rfl⟩
  · refine aw_b kX7_ok bX7_sized_4_ok (Cs := []) (pc' := 10) (L' := [some (aI v)]) (st' := [aI (-v)]) (σ' := σ) rfl trivial ?_
    exact aw_iret dX7_sized_10 rfl ⟨aret (by split <;> omega), rfl⟩
set_option maxRecDepth 10000 in
theorem cM_least (l : Launch) (a b : Int) (σ : aS) (h1 : aIr a) (h2 : aIr b) : AM l 0 mX7_least [aI a, aI b] σ (aF (some (aI (if a < b then a else b))) σ) := by
  refine am_of (by decide) (Nat.le_of_ble_eq_true rfl) (L := [some (aI a), some (aI b)]) rfl ?_
  refine aw_b kX7_ok bX7_least_0_ok (Cs := []) (pc' := 2) (L' := [some (aI a), some (aI b)]) (st' := [aI b, aI a]) (σ' := σ) rfl trivial ?_
  refine aw_cge dX7_least_2 (tgt := 9) (by decide) ⟨by omega, by omega⟩ ⟨by omega, by omega⟩ (fun wh1 => ?_) (fun wh1 => ?_)
  · refine aw_b kX7_ok bX7_least_9_ok (Cs := []) (pc' := 10) (L' := [some (aI a), some (aI b)]) (st' := [aI b]) (σ' := σ) rfl trivial ?_
    exact aw_iret dX7_least_10 rfl ⟨aret (by split <;> omega), rfl⟩
  · refine aw_b kX7_ok bX7_least_5_ok (Cs := []) (pc' := 10) (L' := [some (aI a), some (aI b)]) (st' := [aI a]) (σ' := σ) rfl trivial ?_
    exact aw_iret dX7_least_10 rfl ⟨aret (by split <;> omega), rfl⟩
set_option maxRecDepth 10000 in
theorem cM_lessBy (l : Launch) (a b : Int) (σ : aS) (h1 : aIr a) (h2 : aIr b) : AM l 0 mX7_lessBy [aI a, aI b] σ (aF (some (aI (if a < b then 0 else a - b))) σ) := by
  refine am_of (by decide) (Nat.le_of_ble_eq_true rfl) (L := [some (aI a), some (aI b)]) rfl ?_
  refine aw_b kX7_ok bX7_lessBy_0_ok (Cs := []) (pc' := 2) (L' := [some (aI a), some (aI b)]) (st' := [aI b, aI a]) (σ' := σ) rfl trivial ?_
  refine aw_cge dX7_lessBy_2 (tgt := 9) (by decide) ⟨by omega, by omega⟩ ⟨by omega, by omega⟩ (fun wh1 => ?_) (fun wh1 => ?_)
  · refine aw_b kX7_ok bX7_lessBy_9_ok (Cs := []) (pc' := 12) (L' := [some (aI a), some (aI b)]) (st' := [aI (a - b)]) (σ' := σ) rfl trivial ?_
    exact aw_iret dX7_lessBy_12 rfl ⟨aret (by split <;> omega), rfl⟩
  · refine aw_b kX7_ok bX7_lessBy_5_ok (Cs := []) (pc' := 12) (L' := [some (aI a), some (aI b)]) (st' := [aI 0]) (σ' := σ) rfl trivial ?_
    exact aw_iret dX7_lessBy_12 rfl ⟨aret (by split <;> omega), rfl⟩
set_option maxRecDepth 10000 in
theorem cM_of (l : Launch) (p w : Int) (σ : aS) : AM l 0 mX7_of [aI p, aI w] σ (aF (some (aI (aOf p w))) σ) := by
  refine am_of (by decide) (Nat.le_of_ble_eq_true rfl) (L := [some (aI p), some (aI w)]) rfl ?_
  refine aw_b kX7_ok bX7_of_0_ok (Cs := []) (pc' := 8) (L' := [some (aI p), some (aI w)]) (st' := [aI ((13 + (4 * p)) + w)]) (σ' := σ) rfl trivial ?_
  exact aw_iret dX7_of_8 rfl ⟨rfl, rfl⟩
set_option maxRecDepth 10000 in
theorem cM_isOffice (l : Launch) (v : Int) (σ : aS) (h1 : aIr v) : AM l 1 mX7_isOffice [aI v] σ (aF (some (aI (if 0 ≤ v ∧ v ≤ 4 then 1 else 0))) σ) := by
  refine am_of (by decide) (Nat.le_of_ble_eq_true rfl) (L := [some (aI v)]) rfl ?_
  refine aw_b kX7_ok bX7_isOffice_0_ok (Cs := []) (pc' := 3) (L' := [some (aI v)]) (st' := [aI 4, aI 0, aI v]) (σ' := σ) rfl trivial ?_
  refine aw_bS lX7_49 (as := [aI v, aI 0, aI 4]) (rest := []) (by decide) rfl (Nat.le_of_ble_eq_true rfl) rfl dX7_isOffice_3 (cM_isIn l v 0 4 σ ⟨by omega, by omega⟩ ⟨by omega, by omega⟩ ⟨by omega, by omega⟩) (fun wh1 => ?_) (fun wh1 => ?_)
  · exact aw_zret dX7_isOffice_6 rfl (by omega) ⟨aret (by split <;> omega), rfl⟩
  · exact aw_zret dX7_isOffice_6 rfl (by omega) ⟨aret (by split <;> omega), rfl⟩
set_option maxRecDepth 10000 in
theorem cM_isShelf (l : Launch) (v : Int) (σ : aS) (h1 : aIr v) : AM l 1 mX7_isShelf [aI v] σ (aF (some (aI (if 0 ≤ v ∧ v ≤ 7 then 1 else 0))) σ) := by
  refine am_of (by decide) (Nat.le_of_ble_eq_true rfl) (L := [some (aI v)]) rfl ?_
  refine aw_b kX7_ok bX7_isShelf_0_ok (Cs := []) (pc' := 4) (L' := [some (aI v)]) (st' := [aI 7, aI 0, aI v]) (σ' := σ) rfl trivial ?_
  refine aw_bS lX7_49 (as := [aI v, aI 0, aI 7]) (rest := []) (by decide) rfl (Nat.le_of_ble_eq_true rfl) rfl dX7_isShelf_4 (cM_isIn l v 0 7 σ ⟨by omega, by omega⟩ ⟨by omega, by omega⟩ ⟨by omega, by omega⟩) (fun wh1 => ?_) (fun wh1 => ?_)
  · exact aw_zret dX7_isShelf_7 rfl (by omega) ⟨aret (by split <;> omega), rfl⟩
  · exact aw_zret dX7_isShelf_7 rfl (by omega) ⟨aret (by split <;> omega), rfl⟩
set_option maxRecDepth 10000 in
theorem cM_isLate (l : Launch) (v : Int) (σ : aS) (h1 : aIr v) : AM l 1 mX7_isLate [aI v] σ (aF (some (aI (if 0 ≤ v ∧ v ≤ 60 then 1 else 0))) σ) := by
  refine am_of (by decide) (Nat.le_of_ble_eq_true rfl) (L := [some (aI v)]) rfl ?_
  refine aw_b kX7_ok bX7_isLate_0_ok (Cs := []) (pc' := 4) (L' := [some (aI v)]) (st' := [aI 60, aI 0, aI v]) (σ' := σ) rfl trivial ?_
  refine aw_bS lX7_49 (as := [aI v, aI 0, aI 60]) (rest := []) (by decide) rfl (Nat.le_of_ble_eq_true rfl) rfl dX7_isLate_4 (cM_isIn l v 0 60 σ ⟨by omega, by omega⟩ ⟨by omega, by omega⟩ ⟨by omega, by omega⟩) (fun wh1 => ?_) (fun wh1 => ?_)
  · exact aw_zret dX7_isLate_7 rfl (by omega) ⟨aret (by split <;> omega), rfl⟩
  · exact aw_zret dX7_isLate_7 rfl (by omega) ⟨aret (by split <;> omega), rfl⟩
set_option maxRecDepth 10000 in
theorem cM_isMate (l : Launch) (v : Int) (σ : aS) (h1 : aIr v) : AM l 1 mX7_isMate [aI v] σ (aF (some (aI (if (0 ≤ v ∧ v ≤ 7) ∨ v = 9 then 1 else 0))) σ) := by
  refine am_of (by decide) (Nat.le_of_ble_eq_true rfl) (L := [some (aI v)]) rfl ?_
  refine aw_b kX7_ok bX7_isMate_0_ok (Cs := []) (pc' := 4) (L' := [some (aI v)]) (st' := [aI 7, aI 0, aI v]) (σ' := σ) rfl trivial ?_
  refine aw_bS lX7_49 (as := [aI v, aI 0, aI 7]) (rest := []) (by decide) rfl (Nat.le_of_ble_eq_true rfl) rfl dX7_isMate_4 (cM_isIn l v 0 7 σ ⟨by omega, by omega⟩ ⟨by omega, by omega⟩ ⟨by omega, by omega⟩) (fun wh1 => ?_) (fun wh1 => ?_)
  · refine aw_ine dX7_isMate_7 (tgt := 16) (by decide) ⟨by omega, by omega⟩ (fun wh2 => ?_) (fun wh2 => absurd wh2 (by decide))
    refine aw_b kX7_ok bX7_isMate_16_ok (Cs := []) (pc' := 21) (L' := [some (aI v)]) (st' := [aI 1]) (σ' := σ) rfl trivial ?_
    exact aw_zret dX7_isMate_21 rfl (by omega) ⟨aret (by split <;> omega), rfl⟩
  · refine aw_ine dX7_isMate_7 (tgt := 16) (by decide) ⟨by omega, by omega⟩ (fun wh3 => absurd wh3 (by decide)) (fun wh3 => ?_)
    refine aw_b kX7_ok bX7_isMate_10_ok (Cs := []) (pc' := 13) (L' := [some (aI v)]) (st' := [aI 9, aI v]) (σ' := σ) rfl trivial ?_
    refine aw_cne dX7_isMate_13 (tgt := 20) (by decide) ⟨by omega, by omega⟩ ⟨by omega, by omega⟩ (fun wh4 => ?_) (fun wh4 => ?_)
    · refine aw_b kX7_ok bX7_isMate_20_ok (Cs := []) (pc' := 21) (L' := [some (aI v)]) (st' := [aI 0]) (σ' := σ) rfl trivial ?_
      exact aw_zret dX7_isMate_21 rfl (by omega) ⟨aret (by split <;> omega), rfl⟩
    · refine aw_b kX7_ok bX7_isMate_16_ok (Cs := []) (pc' := 21) (L' := [some (aI v)]) (st' := [aI 1]) (σ' := σ) rfl trivial ?_
      exact aw_zret dX7_isMate_21 rfl (by omega) ⟨aret (by split <;> omega), rfl⟩
set_option maxRecDepth 10000 in
theorem cM_isOne (l : Launch) (p : Int) (σ : aS) (h1 : aIr p) (h2 : 0 ≤ σ 22 0 0 ∧ σ 22 0 0 ≤ 8) : AM l 1 mX7_isOne [aR 21 0, aI p] σ (aF (some (aI (if 0 ≤ p ∧ p < σ 22 0 0 then 1 else 0))) σ) := by
  refine am_of (by decide) (Nat.le_of_ble_eq_true rfl) (L := [some (aR 21 0), some (aI p)]) rfl ?_
  refine aw_b kX7_ok bX7_isOne_0_ok (Cs := [0 < 1, 0 < 4, 0 ≤ 0 ∧ 0 < 45]) (pc' := 10) (L' := [some (aR 21 0), some (aI p)]) (st' := [aI ((σ 22 0 0) - 1), aI 0, aI p]) (σ' := σ) rfl (show (0 < 1) ∧ (0 < 4) ∧ (0 ≤ 0 ∧ 0 < 45) from ⟨by omega, by omega, by omega⟩) ?_
  refine aw_bS lX7_49 (as := [aI p, aI 0, aI ((σ 22 0 0) - 1)]) (rest := []) (by decide) rfl (Nat.le_of_ble_eq_true rfl) rfl dX7_isOne_10 (cM_isIn l p 0 ((σ 22 0 0) - 1) σ ⟨by omega, by omega⟩ ⟨by omega, by omega⟩ ⟨by omega, by omega⟩) (fun wh1 => ?_) (fun wh1 => ?_)
  · exact aw_zret dX7_isOne_13 rfl (by omega) ⟨aret (by split <;> omega), rfl⟩
  · exact aw_zret dX7_isOne_13 rfl (by omega) ⟨aret (by split <;> omega), rfl⟩
set_option maxRecDepth 10000 in
theorem cM_showsBy (l : Launch) (k f c d : Int) (σ : aS) (h1 : 0 ≤ k ∧ k ≤ 7) (h2 : 0 ≤ f ∧ f ≤ 9) (h3 : 0 ≤ c ∧ c ≤ 9) (h4 : 0 ≤ d ∧ d ≤ 1000000) : AM l 1 mX7_showsBy [aI k, aI f, aI c, aI d] σ (aF (some (aI (shF k f c d))) σ) := by
  have em : d.tmod 2 = d % 2 := Int.tmod_eq_emod_of_nonneg h4.1
  refine am_of (by decide) (Nat.le_of_ble_eq_true rfl) (L := [some (aI k), some (aI f), some (aI c), some (aI d), none]) rfl ?_
  refine aw_b kX7_ok bX7_showsBy_0_ok (Cs := []) (pc' := 4) (L' := [some (aI k), some (aI f), some (aI c), some (aI d), none]) (st' := [aI (c - f), aI 1]) (σ' := σ) rfl trivial ?_
  have ez : 0 ≤ (if c - f < 0 then -(c - f) else c - f) ∧ (if c - f < 0 then -(c - f) else c - f) ≤ 9 := by split <;> omega
  refine aw_fS lX7_53 (as := [aI (c - f)]) (rest := [aI 1]) (by decide) rfl (Nat.le_of_ble_eq_true rfl) rfl dX7_showsBy_4 (cM_sized l (c - f) σ ⟨by omega, by omega⟩) ?_
  generalize hz : (if c - f < 0 then -(c - f) else c - f) = z at ez ⊢
  refine aw_b kX7_ok bX7_showsBy_7_ok (Cs := [-2147483648 ≤ z ∧ z < 2147483648, 0 < 3 ∧ 3 < 2147483648]) (pc' := 13) (L' := [some (aI k), some (aI f), some (aI c), some (aI d), some (aI (1 + (Int.tdiv z 3)))]) (st' := [aI k]) (σ' := σ) rfl (show (-2147483648 ≤ z ∧ z < 2147483648) ∧ (0 < 3 ∧ 3 < 2147483648) from ⟨by omega, by omega⟩) ?_
  rcases (show k = 1 ∨ k = 2 ∨ k = 3 ∨ k = 4 ∨ k = 5 ∨ k = 6 ∨ k = 7 ∨ (k < 1 ∨ 7 < k) by omega) with wh1 | wh1 | wh1 | wh1 | wh1 | wh1 | wh1 | wh1
  · refine aw_tsw dX7_showsBy_13 (tgt := 56) ⟨by omega, by omega⟩ (by decide) (by rw [wh1]; decide) ?_
    refine aw_b kX7_ok bX7_showsBy_56_ok (Cs := []) (pc' := 58) (L' := [some (aI k), some (aI f), some (aI c), some (aI d), some (aI (1 + (Int.tdiv z 3)))]) (st' := [aI 6]) (σ' := σ) rfl trivial ?_
    exact aw_iret dX7_showsBy_58 rfl ⟨aret (by unfold shF; simp [*] <;> omega), rfl⟩
  · refine aw_tsw dX7_showsBy_13 (tgt := 59) ⟨by omega, by omega⟩ (by decide) (by rw [wh1]; decide) ?_
    refine aw_b kX7_ok bX7_showsBy_59_ok (Cs := []) (pc' := 61) (L' := [some (aI k), some (aI f), some (aI c), some (aI d), some (aI (1 + (Int.tdiv z 3)))]) (st' := [aI (1 + (Int.tdiv z 3))]) (σ' := σ) rfl trivial ?_
    exact aw_iret dX7_showsBy_61 rfl ⟨aret (by unfold shF; simp [*] <;> omega), rfl⟩
  · refine aw_tsw dX7_showsBy_13 (tgt := 62) ⟨by omega, by omega⟩ (by decide) (by rw [wh1]; decide) ?_
    refine aw_b kX7_ok bX7_showsBy_62_ok (Cs := [-2147483648 ≤ d ∧ d < 2147483648, 0 < 2 ∧ 2 < 2147483648]) (pc' := 66) (L' := [some (aI k), some (aI f), some (aI c), some (aI d), some (aI (1 + (Int.tdiv z 3)))]) (st' := [aI 1, aI (Int.tmod d 2)]) (σ' := σ) rfl (show (-2147483648 ≤ d ∧ d < 2147483648) ∧ (0 < 2 ∧ 2 < 2147483648) from ⟨by omega, by omega⟩) ?_
    refine aw_cne dX7_showsBy_66 (tgt := 76) (by decide) ⟨by omega, by omega⟩ ⟨by omega, by omega⟩ (fun wh2 => ?_) (fun wh2 => ?_)
    · refine aw_b kX7_ok bX7_showsBy_76_ok (Cs := []) (pc' := 78) (L' := [some (aI k), some (aI f), some (aI c), some (aI d), some (aI (1 + (Int.tdiv z 3)))]) (st' := [aI 6]) (σ' := σ) rfl trivial ?_
      exact aw_iret dX7_showsBy_78 rfl ⟨aret (by unfold shF; simp [*] <;> omega), rfl⟩
    · refine aw_b kX7_ok bX7_showsBy_69_ok (Cs := []) (pc' := 78) (L' := [some (aI k), some (aI f), some (aI c), some (aI d), some (aI (1 + (Int.tdiv z 3)))]) (st' := [aI (6 + f)]) (σ' := σ) rfl trivial ?_
      exact aw_iret dX7_showsBy_78 rfl ⟨aret (by unfold shF; simp [*] <;> omega), rfl⟩
  · refine aw_tsw dX7_showsBy_13 (tgt := 79) ⟨by omega, by omega⟩ (by decide) (by rw [wh1]; decide) ?_
    refine aw_b kX7_ok bX7_showsBy_79_ok (Cs := []) (pc' := 81) (L' := [some (aI k), some (aI f), some (aI c), some (aI d), some (aI (1 + (Int.tdiv z 3)))]) (st' := [aI f, aI c]) (σ' := σ) rfl trivial ?_
    refine aw_cne dX7_showsBy_81 (tgt := 88) (by decide) ⟨by omega, by omega⟩ ⟨by omega, by omega⟩ (fun wh3 => ?_) (fun wh3 => ?_)
    · refine aw_b kX7_ok bX7_showsBy_88_ok (Cs := []) (pc' := 90) (L' := [some (aI k), some (aI f), some (aI c), some (aI d), some (aI (1 + (Int.tdiv z 3)))]) (st' := [aI (1 + (Int.tdiv z 3))]) (σ' := σ) rfl trivial ?_
      exact aw_iret dX7_showsBy_90 rfl ⟨aret (by unfold shF; simp [*] <;> omega), rfl⟩
    · refine aw_b kX7_ok bX7_showsBy_84_ok (Cs := []) (pc' := 90) (L' := [some (aI k), some (aI f), some (aI c), some (aI d), some (aI (1 + (Int.tdiv z 3)))]) (st' := [aI 0]) (σ' := σ) rfl trivial ?_
      exact aw_iret dX7_showsBy_90 rfl ⟨aret (by unfold shF; simp [*] <;> omega), rfl⟩
  · refine aw_tsw dX7_showsBy_13 (tgt := 91) ⟨by omega, by omega⟩ (by decide) (by rw [wh1]; decide) ?_
    refine aw_b kX7_ok bX7_showsBy_91_ok (Cs := []) (pc' := 93) (L' := [some (aI k), some (aI f), some (aI c), some (aI d), some (aI (1 + (Int.tdiv z 3)))]) (st' := [aI 2, aI c]) (σ' := σ) rfl trivial ?_
    refine aw_cge dX7_showsBy_93 (tgt := 102) (by decide) ⟨by omega, by omega⟩ ⟨by omega, by omega⟩ (fun wh4 => ?_) (fun wh4 => ?_)
    · refine aw_b kX7_ok bX7_showsBy_102_ok (Cs := []) (pc' := 103) (L' := [some (aI k), some (aI f), some (aI c), some (aI d), some (aI (1 + (Int.tdiv z 3)))]) (st' := [aI 1]) (σ' := σ) rfl trivial ?_
      exact aw_iret dX7_showsBy_103 rfl ⟨aret (by unfold shF; simp [*] <;> omega), rfl⟩
    · refine aw_b kX7_ok bX7_showsBy_96_ok (Cs := []) (pc' := 103) (L' := [some (aI k), some (aI f), some (aI c), some (aI d), some (aI (1 + (Int.tdiv z 3)))]) (st' := [aI (3 - c)]) (σ' := σ) rfl trivial ?_
      exact aw_iret dX7_showsBy_103 rfl ⟨aret (by unfold shF; simp [*] <;> omega), rfl⟩
  · refine aw_tsw dX7_showsBy_13 (tgt := 104) ⟨by omega, by omega⟩ (by decide) (by rw [wh1]; decide) ?_
    refine aw_b kX7_ok bX7_showsBy_104_ok (Cs := []) (pc' := 106) (L' := [some (aI k), some (aI f), some (aI c), some (aI d), some (aI (1 + (Int.tdiv z 3)))]) (st' := [aI f, aI c]) (σ' := σ) rfl trivial ?_
    refine aw_cge dX7_showsBy_106 (tgt := 114) (by decide) ⟨by omega, by omega⟩ ⟨by omega, by omega⟩ (fun wh5 => ?_) (fun wh5 => ?_)
    · refine aw_b kX7_ok bX7_showsBy_114_ok (Cs := []) (pc' := 116) (L' := [some (aI k), some (aI f), some (aI c), some (aI d), some (aI (1 + (Int.tdiv z 3)))]) (st' := [aI 6]) (σ' := σ) rfl trivial ?_
      exact aw_iret dX7_showsBy_116 rfl ⟨aret (by unfold shF; simp [*] <;> omega), rfl⟩
    · refine aw_b kX7_ok bX7_showsBy_109_ok (Cs := []) (pc' := 116) (L' := [some (aI k), some (aI f), some (aI c), some (aI d), some (aI (1 + (Int.tdiv z 3)))]) (st' := [aI 9]) (σ' := σ) rfl trivial ?_
      exact aw_iret dX7_showsBy_116 rfl ⟨aret (by unfold shF; simp [*] <;> omega), rfl⟩
  · refine aw_tsw dX7_showsBy_13 (tgt := 117) ⟨by omega, by omega⟩ (by decide) (by rw [wh1]; decide) ?_
    refine aw_b kX7_ok bX7_showsBy_117_ok (Cs := []) (pc' := 118) (L' := [some (aI k), some (aI f), some (aI c), some (aI d), some (aI (1 + (Int.tdiv z 3)))]) (st' := [aI 0]) (σ' := σ) rfl trivial ?_
    exact aw_iret dX7_showsBy_118 rfl ⟨aret (by unfold shF; simp [*] <;> omega), rfl⟩
  · refine aw_tsw dX7_showsBy_13 (tgt := 119) ⟨by omega, by omega⟩ (by decide) (by unfold aTgt; rw [if_pos (by omega)]; rfl) ?_
    refine aw_b kX7_ok bX7_showsBy_119_ok (Cs := []) (pc' := 120) (L' := [some (aI k), some (aI f), some (aI c), some (aI d), some (aI (1 + (Int.tdiv z 3)))]) (st' := [aI 3]) (σ' := σ) rfl trivial ?_
    exact aw_iret dX7_showsBy_120 rfl ⟨aret (by unfold shF; simp [*] <;> omega), rfl⟩
set_option maxRecDepth 10000 in
theorem cM_bearsBy (l : Launch) (k f : Int) (σ : aS) (h1 : 0 ≤ k ∧ k ≤ 7) (h2 : 0 ≤ f ∧ f ≤ 9) : AM l 0 mX7_bearsBy [aI k, aI f] σ (aF (some (aI (beF k f))) σ) := by
  refine am_of (by decide) (Nat.le_of_ble_eq_true rfl) (L := [some (aI k), some (aI f)]) rfl ?_
  refine aw_b kX7_ok bX7_bearsBy_0_ok (Cs := []) (pc' := 1) (L' := [some (aI k), some (aI f)]) (st' := [aI k]) (σ' := σ) rfl trivial ?_
  rcases (show k = 1 ∨ k = 2 ∨ k = 3 ∨ k = 4 ∨ k = 5 ∨ k = 6 ∨ k = 7 ∨ (k < 1 ∨ 7 < k) by omega) with wh1 | wh1 | wh1 | wh1 | wh1 | wh1 | wh1 | wh1
  · refine aw_tsw dX7_bearsBy_1 (tgt := 44) ⟨by omega, by omega⟩ (by decide) (by rw [wh1]; decide) ?_
    refine aw_b kX7_ok bX7_bearsBy_44_ok (Cs := []) (pc' := 46) (L' := [some (aI k), some (aI f)]) (st' := [aI 15]) (σ' := σ) rfl trivial ?_
    exact aw_iret dX7_bearsBy_46 rfl ⟨aret (by unfold beF; (repeat' split) <;> omega), rfl⟩
  · refine aw_tsw dX7_bearsBy_1 (tgt := 47) ⟨by omega, by omega⟩ (by decide) (by rw [wh1]; decide) ?_
    refine aw_b kX7_ok bX7_bearsBy_47_ok (Cs := []) (pc' := 51) (L' := [some (aI k), some (aI f)]) (st' := [aI (20 + f)]) (σ' := σ) rfl trivial ?_
    exact aw_iret dX7_bearsBy_51 rfl ⟨aret (by unfold beF; (repeat' split) <;> omega), rfl⟩
  · refine aw_tsw dX7_bearsBy_1 (tgt := 44) ⟨by omega, by omega⟩ (by decide) (by rw [wh1]; decide) ?_
    refine aw_b kX7_ok bX7_bearsBy_44_ok (Cs := []) (pc' := 46) (L' := [some (aI k), some (aI f)]) (st' := [aI 15]) (σ' := σ) rfl trivial ?_
    exact aw_iret dX7_bearsBy_46 rfl ⟨aret (by unfold beF; (repeat' split) <;> omega), rfl⟩
  · refine aw_tsw dX7_bearsBy_1 (tgt := 52) ⟨by omega, by omega⟩ (by decide) (by rw [wh1]; decide) ?_
    refine aw_b kX7_ok bX7_bearsBy_52_ok (Cs := []) (pc' := 58) (L' := [some (aI k), some (aI f)]) (st' := [aI (2 * (20 + f))]) (σ' := σ) rfl trivial ?_
    exact aw_iret dX7_bearsBy_58 rfl ⟨aret (by unfold beF; (repeat' split) <;> omega), rfl⟩
  · refine aw_tsw dX7_bearsBy_1 (tgt := 59) ⟨by omega, by omega⟩ (by decide) (by rw [wh1]; decide) ?_
    refine aw_b kX7_ok bX7_bearsBy_59_ok (Cs := []) (pc' := 65) (L' := [some (aI k), some (aI f)]) (st' := [aI (20 + (2 * f))]) (σ' := σ) rfl trivial ?_
    exact aw_iret dX7_bearsBy_65 rfl ⟨aret (by unfold beF; (repeat' split) <;> omega), rfl⟩
  · refine aw_tsw dX7_bearsBy_1 (tgt := 66) ⟨by omega, by omega⟩ (by decide) (by rw [wh1]; decide) ?_
    refine aw_b kX7_ok bX7_bearsBy_66_ok (Cs := []) (pc' := 68) (L' := [some (aI k), some (aI f)]) (st' := [aI 7]) (σ' := σ) rfl trivial ?_
    exact aw_iret dX7_bearsBy_68 rfl ⟨aret (by unfold beF; (repeat' split) <;> omega), rfl⟩
  · refine aw_tsw dX7_bearsBy_1 (tgt := 69) ⟨by omega, by omega⟩ (by decide) (by rw [wh1]; decide) ?_
    refine aw_b kX7_ok bX7_bearsBy_69_ok (Cs := []) (pc' := 71) (L' := [some (aI k), some (aI f)]) (st' := [aI 99]) (σ' := σ) rfl trivial ?_
    exact aw_iret dX7_bearsBy_71 rfl ⟨aret (by unfold beF; (repeat' split) <;> omega), rfl⟩
  · refine aw_tsw dX7_bearsBy_1 (tgt := 72) ⟨by omega, by omega⟩ (by decide) (by unfold aTgt; rw [if_pos (by omega)]; rfl) ?_
    refine aw_b kX7_ok bX7_bearsBy_72_ok (Cs := []) (pc' := 74) (L' := [some (aI k), some (aI f)]) (st' := [aI 20]) (σ' := σ) rfl trivial ?_
    exact aw_iret dX7_bearsBy_74 rfl ⟨aret (by unfold beF; (repeat' split) <;> omega), rfl⟩
set_option maxRecDepth 10000 in
theorem cM_forgetsBy (l : Launch) (k f : Int) (σ : aS) (h1 : 0 ≤ k ∧ k ≤ 7) (h2 : 0 ≤ f ∧ f ≤ 9) : AM l 0 mX7_forgetsBy [aI k, aI f] σ (aF (some (aI (foF k f))) σ) := by
  refine am_of (by decide) (Nat.le_of_ble_eq_true rfl) (L := [some (aI k), some (aI f)]) rfl ?_
  refine aw_b kX7_ok bX7_forgetsBy_0_ok (Cs := []) (pc' := 1) (L' := [some (aI k), some (aI f)]) (st' := [aI k]) (σ' := σ) rfl trivial ?_
  rcases (show k = 1 ∨ k = 2 ∨ k = 3 ∨ k = 4 ∨ k = 5 ∨ k = 6 ∨ k = 7 ∨ (k < 1 ∨ 7 < k) by omega) with wh1 | wh1 | wh1 | wh1 | wh1 | wh1 | wh1 | wh1
  · refine aw_tsw dX7_forgetsBy_1 (tgt := 44) ⟨by omega, by omega⟩ (by decide) (by rw [wh1]; decide) ?_
    refine aw_b kX7_ok bX7_forgetsBy_44_ok (Cs := []) (pc' := 45) (L' := [some (aI k), some (aI f)]) (st' := [aI 1]) (σ' := σ) rfl trivial ?_
    exact aw_iret dX7_forgetsBy_45 rfl ⟨aret (by unfold foF; (repeat' split) <;> omega), rfl⟩
  · refine aw_tsw dX7_forgetsBy_1 (tgt := 46) ⟨by omega, by omega⟩ (by decide) (by rw [wh1]; decide) ?_
    refine aw_b kX7_ok bX7_forgetsBy_46_ok (Cs := []) (pc' := 47) (L' := [some (aI k), some (aI f)]) (st' := [aI 3]) (σ' := σ) rfl trivial ?_
    exact aw_iret dX7_forgetsBy_47 rfl ⟨aret (by unfold foF; (repeat' split) <;> omega), rfl⟩
  · refine aw_tsw dX7_forgetsBy_1 (tgt := 48) ⟨by omega, by omega⟩ (by decide) (by rw [wh1]; decide) ?_
    refine aw_b kX7_ok bX7_forgetsBy_48_ok (Cs := []) (pc' := 49) (L' := [some (aI k), some (aI f)]) (st' := [aI 0]) (σ' := σ) rfl trivial ?_
    exact aw_iret dX7_forgetsBy_49 rfl ⟨aret (by unfold foF; (repeat' split) <;> omega), rfl⟩
  · refine aw_tsw dX7_forgetsBy_1 (tgt := 46) ⟨by omega, by omega⟩ (by decide) (by rw [wh1]; decide) ?_
    refine aw_b kX7_ok bX7_forgetsBy_46_ok (Cs := []) (pc' := 47) (L' := [some (aI k), some (aI f)]) (st' := [aI 3]) (σ' := σ) rfl trivial ?_
    exact aw_iret dX7_forgetsBy_47 rfl ⟨aret (by unfold foF; (repeat' split) <;> omega), rfl⟩
  · refine aw_tsw dX7_forgetsBy_1 (tgt := 50) ⟨by omega, by omega⟩ (by decide) (by rw [wh1]; decide) ?_
    refine aw_b kX7_ok bX7_forgetsBy_50_ok (Cs := []) (pc' := 51) (L' := [some (aI k), some (aI f)]) (st' := [aI f]) (σ' := σ) rfl trivial ?_
    exact aw_iret dX7_forgetsBy_51 rfl ⟨aret (by unfold foF; (repeat' split) <;> omega), rfl⟩
  · refine aw_tsw dX7_forgetsBy_1 (tgt := 44) ⟨by omega, by omega⟩ (by decide) (by rw [wh1]; decide) ?_
    refine aw_b kX7_ok bX7_forgetsBy_44_ok (Cs := []) (pc' := 45) (L' := [some (aI k), some (aI f)]) (st' := [aI 1]) (σ' := σ) rfl trivial ?_
    exact aw_iret dX7_forgetsBy_45 rfl ⟨aret (by unfold foF; (repeat' split) <;> omega), rfl⟩
  · refine aw_tsw dX7_forgetsBy_1 (tgt := 52) ⟨by omega, by omega⟩ (by decide) (by rw [wh1]; decide) ?_
    refine aw_b kX7_ok bX7_forgetsBy_52_ok (Cs := []) (pc' := 54) (L' := [some (aI k), some (aI f)]) (st' := [aI 9]) (σ' := σ) rfl trivial ?_
    exact aw_iret dX7_forgetsBy_54 rfl ⟨aret (by unfold foF; (repeat' split) <;> omega), rfl⟩
  · refine aw_tsw dX7_forgetsBy_1 (tgt := 55) ⟨by omega, by omega⟩ (by decide) (by unfold aTgt; rw [if_pos (by omega)]; rfl) ?_
    refine aw_b kX7_ok bX7_forgetsBy_55_ok (Cs := []) (pc' := 56) (L' := [some (aI k), some (aI f)]) (st' := [aI 2]) (σ' := σ) rfl trivial ?_
    exact aw_iret dX7_forgetsBy_56 rfl ⟨aret (by unfold foF; (repeat' split) <;> omega), rfl⟩
set_option maxRecDepth 10000 in
theorem cM_bears (l : Launch) (c : Nat) (hc : c < 4) (p : Int) (σ : aS) (hw : WF (σ 22 c)) (h0 : 0 ≤ p) (h1 : p < σ 22 c 0) : AM l 1 mX7_bears [aR 22 c, aI p] σ (aF (some (aI (beR (σ 22 c) p))) σ) := by
  have bp := hw.pe h0 h1
  have bn := hw.1
  have ba := aOf_rng (p := p) (w := 0) h0 (by omega) (by decide) (by decide)
  have bb := aOf_rng (p := p) (w := 1) h0 (by omega) (by decide) (by decide)
  have bc := aOf_rng (p := p) (w := 2) h0 (by omega) (by decide) (by decide)
  have bd := aOf_rng (p := p) (w := 3) h0 (by omega) (by decide) (by decide)
  refine am_of (by decide) (Nat.le_of_ble_eq_true rfl) (L := [some (aR 22 c), some (aI p)]) rfl ?_
  refine aw_b kX7_ok bX7_bears_0_ok (Cs := []) (pc' := 3) (L' := [some (aR 22 c), some (aI p)]) (st' := [aI 0, aI p, aR 22 c]) (σ' := σ) rfl trivial ?_
  refine aw_fS lX7_57 (as := [aI p, aI 0]) (rest := [aR 22 c]) (by decide) rfl (Nat.le_of_ble_eq_true rfl) rfl dX7_bears_3 (cM_of l p 0 σ) ?_
  refine aw_b kX7_ok bX7_bears_6_ok (Cs := [c < 4, 0 ≤ aOf p 0 ∧ aOf p 0 < 45]) (pc' := 10) (L' := [some (aR 22 c), some (aI p)]) (st' := [aI 1, aI p, aR 22 c, aI (σ 22 c (aOf p 0))]) (σ' := σ) rfl (show (c < 4) ∧ (0 ≤ aOf p 0 ∧ aOf p 0 < 45) from ⟨by omega, by omega⟩) ?_
  refine aw_fS lX7_57 (as := [aI p, aI 1]) (rest := [aR 22 c, aI (σ 22 c (aOf p 0))]) (by decide) rfl (Nat.le_of_ble_eq_true rfl) rfl dX7_bears_10 (cM_of l p 1 σ) ?_
  refine aw_b kX7_ok bX7_bears_13_ok (Cs := [c < 4, 0 ≤ aOf p 1 ∧ aOf p 1 < 45]) (pc' := 14) (L' := [some (aR 22 c), some (aI p)]) (st' := [aI (σ 22 c (aOf p 1)), aI (σ 22 c (aOf p 0))]) (σ' := σ) rfl (show (c < 4) ∧ (0 ≤ aOf p 1 ∧ aOf p 1 < 45) from ⟨by omega, by omega⟩) ?_
  refine aw_fS lX7_61 (as := [aI (σ 22 c (aOf p 0)), aI (σ 22 c (aOf p 1))]) (rest := []) (by decide) rfl (Nat.le_of_ble_eq_true rfl) rfl dX7_bears_14 (cM_bearsBy l (σ 22 c (aOf p 0)) (σ 22 c (aOf p 1)) σ ⟨by omega, by omega⟩ ⟨by omega, by omega⟩) ?_
  exact aw_iret dX7_bears_17 rfl ⟨rfl, rfl⟩
set_option maxRecDepth 10000 in
theorem cM_officeOf (l : Launch) (c : Nat) (hc : c < 4) (p : Int) (σ : aS) (hp : aIr p) (hw : WF (σ 22 c)) : AM l 0 mX7_officeOf [aR 22 c, aI p] σ (aF (some (aI (off (σ 22 c) p))) σ) := by
  have b8 := hw.r8
  have bn := hw.1
  refine am_of (by decide) (Nat.le_of_ble_eq_true rfl) (L := [some (aR 22 c), some (aI p), none]) rfl ?_
  refine aw_b kX7_ok bX7_officeOf_0_ok (Cs := []) (pc' := 2) (L' := [some (aR 22 c), some (aI p), some (aI 0)]) (st' := []) (σ' := σ) rfl trivial ?_
  refine aw_b kX7_ok bX7_officeOf_2_ok (Cs := []) (pc' := 4) (L' := [some (aR 22 c), some (aI p), some (aI 0)]) (st' := [aI 5, aI 0]) (σ' := σ) rfl trivial ?_
  refine aw_cge dX7_officeOf_4 (tgt := 25) (by decide) ⟨by omega, by omega⟩ ⟨by omega, by omega⟩ (fun wh1 => absurd wh1 (by decide)) (fun wh1 => ?_)
  refine aw_b kX7_ok bX7_officeOf_7_ok (Cs := [c < 4, 0 ≤ 8 ∧ 8 < 45]) (pc' := 14) (L' := [some (aR 22 c), some (aI p), some (aI 0)]) (st' := [aI p, aI (σ 22 c 8)]) (σ' := σ) rfl (show (c < 4) ∧ (0 ≤ 8 ∧ 8 < 45) from ⟨by omega, by omega⟩) ?_
  refine aw_cne dX7_officeOf_14 (tgt := 19) (by decide) ⟨by omega, by omega⟩ ⟨by omega, by omega⟩ (fun wh2 => ?_) (fun wh2 => ?_)
  · refine aw_b kX7_ok bX7_officeOf_19_ok (Cs := []) (pc' := 2) (L' := [some (aR 22 c), some (aI p), some (aI 1)]) (st' := []) (σ' := σ) rfl trivial ?_
    refine aw_b kX7_ok bX7_officeOf_2_ok (Cs := []) (pc' := 4) (L' := [some (aR 22 c), some (aI p), some (aI 1)]) (st' := [aI 5, aI 1]) (σ' := σ) rfl trivial ?_
    refine aw_cge dX7_officeOf_4 (tgt := 25) (by decide) ⟨by omega, by omega⟩ ⟨by omega, by omega⟩ (fun wh3 => absurd wh3 (by decide)) (fun wh3 => ?_)
    refine aw_b kX7_ok bX7_officeOf_7_ok (Cs := [c < 4, 0 ≤ 9 ∧ 9 < 45]) (pc' := 14) (L' := [some (aR 22 c), some (aI p), some (aI 1)]) (st' := [aI p, aI (σ 22 c 9)]) (σ' := σ) rfl (show (c < 4) ∧ (0 ≤ 9 ∧ 9 < 45) from ⟨by omega, by omega⟩) ?_
    refine aw_cne dX7_officeOf_14 (tgt := 19) (by decide) ⟨by omega, by omega⟩ ⟨by omega, by omega⟩ (fun wh4 => ?_) (fun wh4 => ?_)
    · refine aw_b kX7_ok bX7_officeOf_19_ok (Cs := []) (pc' := 2) (L' := [some (aR 22 c), some (aI p), some (aI 2)]) (st' := []) (σ' := σ) rfl trivial ?_
      refine aw_b kX7_ok bX7_officeOf_2_ok (Cs := []) (pc' := 4) (L' := [some (aR 22 c), some (aI p), some (aI 2)]) (st' := [aI 5, aI 2]) (σ' := σ) rfl trivial ?_
      refine aw_cge dX7_officeOf_4 (tgt := 25) (by decide) ⟨by omega, by omega⟩ ⟨by omega, by omega⟩ (fun wh5 => absurd wh5 (by decide)) (fun wh5 => ?_)
      refine aw_b kX7_ok bX7_officeOf_7_ok (Cs := [c < 4, 0 ≤ 10 ∧ 10 < 45]) (pc' := 14) (L' := [some (aR 22 c), some (aI p), some (aI 2)]) (st' := [aI p, aI (σ 22 c 10)]) (σ' := σ) rfl (show (c < 4) ∧ (0 ≤ 10 ∧ 10 < 45) from ⟨by omega, by omega⟩) ?_
      refine aw_cne dX7_officeOf_14 (tgt := 19) (by decide) ⟨by omega, by omega⟩ ⟨by omega, by omega⟩ (fun wh6 => ?_) (fun wh6 => ?_)
      · refine aw_b kX7_ok bX7_officeOf_19_ok (Cs := []) (pc' := 2) (L' := [some (aR 22 c), some (aI p), some (aI 3)]) (st' := []) (σ' := σ) rfl trivial ?_
        refine aw_b kX7_ok bX7_officeOf_2_ok (Cs := []) (pc' := 4) (L' := [some (aR 22 c), some (aI p), some (aI 3)]) (st' := [aI 5, aI 3]) (σ' := σ) rfl trivial ?_
        refine aw_cge dX7_officeOf_4 (tgt := 25) (by decide) ⟨by omega, by omega⟩ ⟨by omega, by omega⟩ (fun wh7 => absurd wh7 (by decide)) (fun wh7 => ?_)
        refine aw_b kX7_ok bX7_officeOf_7_ok (Cs := [c < 4, 0 ≤ 11 ∧ 11 < 45]) (pc' := 14) (L' := [some (aR 22 c), some (aI p), some (aI 3)]) (st' := [aI p, aI (σ 22 c 11)]) (σ' := σ) rfl (show (c < 4) ∧ (0 ≤ 11 ∧ 11 < 45) from ⟨by omega, by omega⟩) ?_
        refine aw_cne dX7_officeOf_14 (tgt := 19) (by decide) ⟨by omega, by omega⟩ ⟨by omega, by omega⟩ (fun wh8 => ?_) (fun wh8 => ?_)
        · refine aw_b kX7_ok bX7_officeOf_19_ok (Cs := []) (pc' := 2) (L' := [some (aR 22 c), some (aI p), some (aI 4)]) (st' := []) (σ' := σ) rfl trivial ?_
          refine aw_b kX7_ok bX7_officeOf_2_ok (Cs := []) (pc' := 4) (L' := [some (aR 22 c), some (aI p), some (aI 4)]) (st' := [aI 5, aI 4]) (σ' := σ) rfl trivial ?_
          refine aw_cge dX7_officeOf_4 (tgt := 25) (by decide) ⟨by omega, by omega⟩ ⟨by omega, by omega⟩ (fun wh9 => absurd wh9 (by decide)) (fun wh9 => ?_)
          refine aw_b kX7_ok bX7_officeOf_7_ok (Cs := [c < 4, 0 ≤ 12 ∧ 12 < 45]) (pc' := 14) (L' := [some (aR 22 c), some (aI p), some (aI 4)]) (st' := [aI p, aI (σ 22 c 12)]) (σ' := σ) rfl (show (c < 4) ∧ (0 ≤ 12 ∧ 12 < 45) from ⟨by omega, by omega⟩) ?_
          refine aw_cne dX7_officeOf_14 (tgt := 19) (by decide) ⟨by omega, by omega⟩ ⟨by omega, by omega⟩ (fun wh10 => ?_) (fun wh10 => ?_)
          · refine aw_b kX7_ok bX7_officeOf_19_ok (Cs := []) (pc' := 2) (L' := [some (aR 22 c), some (aI p), some (aI 5)]) (st' := []) (σ' := σ) rfl trivial ?_
            refine aw_b kX7_ok bX7_officeOf_2_ok (Cs := []) (pc' := 4) (L' := [some (aR 22 c), some (aI p), some (aI 5)]) (st' := [aI 5, aI 5]) (σ' := σ) rfl trivial ?_
            refine aw_cge dX7_officeOf_4 (tgt := 25) (by decide) ⟨by omega, by omega⟩ ⟨by omega, by omega⟩ (fun wh11 => ?_) (fun wh11 => absurd wh11 (by decide))
            refine aw_b kX7_ok bX7_officeOf_25_ok (Cs := []) (pc' := 27) (L' := [some (aR 22 c), some (aI p), some (aI 5)]) (st' := [aI (-4)]) (σ' := σ) rfl trivial ?_
            exact aw_iret dX7_officeOf_27 rfl ⟨aret (by unfold off; simp [*]), rfl⟩
          · refine aw_b kX7_ok bX7_officeOf_17_ok (Cs := []) (pc' := 18) (L' := [some (aR 22 c), some (aI p), some (aI 4)]) (st' := [aI 4]) (σ' := σ) rfl trivial ?_
            exact aw_iret dX7_officeOf_18 rfl ⟨aret (by unfold off; simp [*]), rfl⟩
        · refine aw_b kX7_ok bX7_officeOf_17_ok (Cs := []) (pc' := 18) (L' := [some (aR 22 c), some (aI p), some (aI 3)]) (st' := [aI 3]) (σ' := σ) rfl trivial ?_
          exact aw_iret dX7_officeOf_18 rfl ⟨aret (by unfold off; simp [*]), rfl⟩
      · refine aw_b kX7_ok bX7_officeOf_17_ok (Cs := []) (pc' := 18) (L' := [some (aR 22 c), some (aI p), some (aI 2)]) (st' := [aI 2]) (σ' := σ) rfl trivial ?_
        exact aw_iret dX7_officeOf_18 rfl ⟨aret (by unfold off; simp [*]), rfl⟩
    · refine aw_b kX7_ok bX7_officeOf_17_ok (Cs := []) (pc' := 18) (L' := [some (aR 22 c), some (aI p), some (aI 1)]) (st' := [aI 1]) (σ' := σ) rfl trivial ?_
      exact aw_iret dX7_officeOf_18 rfl ⟨aret (by unfold off; simp [*]), rfl⟩
  · refine aw_b kX7_ok bX7_officeOf_17_ok (Cs := []) (pc' := 18) (L' := [some (aR 22 c), some (aI p), some (aI 0)]) (st' := [aI 0]) (σ' := σ) rfl trivial ?_
    exact aw_iret dX7_officeOf_18 rfl ⟨aret (by unfold off; simp [*]), rfl⟩
set_option maxRecDepth 10000 in
theorem cM_isCommon (l : Launch) (c : Nat) (hc : c < 4) (k : Int) (σ : aS) (hk : aIr k) (hw : WF (σ 22 c)) : AM l 0 mX7_isCommon [aR 22 c, aI k] σ (aF (some (aI (if 1 < cntC (σ 22 c) k 5 then 1 else 0))) σ) := by
  have bn := hw.1
  refine am_of (by decide) (Nat.le_of_ble_eq_true rfl) (L := [some (aR 22 c), some (aI k), none, none]) rfl ?_
  refine aw_b kX7_ok bX7_isCommon_0_ok (Cs := []) (pc' := 4) (L' := [some (aR 22 c), some (aI k), some (aI 0), some (aI 0)]) (st' := []) (σ' := σ) rfl trivial ?_
  refine aloop (P := fun n : Nat => AW l 0 mX7_isCommon _ 4 [some (aR 22 c), some (aI k), some (aI (cntC (σ 22 c) k n)), some (aI (n : Int))] [] σ) (5) (fun n hn ihn => ?_)
  have q0 := cntC_le (σ 22 c) k n
  refine aw_b kX7_ok bX7_isCommon_4_ok (Cs := []) (pc' := 6) (L' := [some (aR 22 c), some (aI k), some (aI (cntC (σ 22 c) k n)), some (aI (n : Int))]) (st' := [aI 5, aI (n : Int)]) (σ' := σ) rfl trivial ?_
  refine aw_cge dX7_isCommon_6 (tgt := 41) (by decide) ⟨by omega, by omega⟩ ⟨by omega, by omega⟩ (fun wh1 => ?_) (fun wh1 => ?_)
  · have e5 : n = 5 := by omega
    refine aw_b kX7_ok bX7_isCommon_41_ok (Cs := []) (pc' := 43) (L' := [some (aR 22 c), some (aI k), some (aI (cntC (σ 22 c) k n)), some (aI (n : Int))]) (st' := [aI 1, aI (cntC (σ 22 c) k n)]) (σ' := σ) rfl trivial ?_
    refine aw_cle dX7_isCommon_43 (tgt := 50) (by decide) ⟨by omega, by omega⟩ ⟨by omega, by omega⟩ (fun wh2 => ?_) (fun wh2 => ?_)
    · refine aw_b kX7_ok bX7_isCommon_50_ok (Cs := []) (pc' := 51) (L' := [some (aR 22 c), some (aI k), some (aI (cntC (σ 22 c) k n)), some (aI (n : Int))]) (st' := [aI 0]) (σ' := σ) rfl trivial ?_
      exact aw_zret dX7_isCommon_51 rfl (by omega) ⟨aret (by subst e5; split <;> omega), rfl⟩
    · refine aw_b kX7_ok bX7_isCommon_46_ok (Cs := []) (pc' := 51) (L' := [some (aR 22 c), some (aI k), some (aI (cntC (σ 22 c) k n)), some (aI (n : Int))]) (st' := [aI 1]) (σ' := σ) rfl trivial ?_
      exact aw_zret dX7_isCommon_51 rfl (by omega) ⟨aret (by subst e5; split <;> omega), rfl⟩
  · have g1 := hw.ho (f := (n : Int)) (by omega) (by omega)
    have g2 := hw.co (f := (n : Int)) (by omega) (by omega)
    refine aw_b kX7_ok bX7_isCommon_9_ok (Cs := [c < 4, 0 ≤ 8 + (n : Int) ∧ 8 + (n : Int) < 45]) (pc' := 16) (L' := [some (aR 22 c), some (aI k), some (aI (cntC (σ 22 c) k n)), some (aI (n : Int))]) (st' := [aI (σ 22 c (8 + (n : Int))), aI (cntC (σ 22 c) k n)]) (σ' := σ) rfl (show (c < 4) ∧ (0 ≤ 8 + (n : Int) ∧ 8 + (n : Int) < 45) from ⟨by omega, by omega⟩) ?_
    refine aw_ilt dX7_isCommon_16 (tgt := 32) (by decide) ⟨by omega, by omega⟩ (fun wh3 => ?_) (fun wh3 => ?_)
    · refine aw_b kX7_ok bX7_isCommon_32_ok (Cs := []) (pc' := 33) (L' := [some (aR 22 c), some (aI k), some (aI (cntC (σ 22 c) k n)), some (aI (n : Int))]) (st' := [aI 0, aI (cntC (σ 22 c) k n)]) (σ' := σ) rfl trivial ?_
      refine aw_b kX7_ok bX7_isCommon_33_ok (Cs := []) (pc' := 4) (L' := [some (aR 22 c), some (aI k), some (aI ((cntC (σ 22 c) k n) + 0)), some (aI ((n : Int) + 1))]) (st' := []) (σ' := σ) rfl trivial ?_
      exact aw_eq (by simp [cntC, *] <;> omega) rfl rfl (ihn (by omega))
    · refine aw_b kX7_ok bX7_isCommon_19_ok (Cs := [c < 4, 0 ≤ 3 + (n : Int) ∧ 3 + (n : Int) < 45]) (pc' := 25) (L' := [some (aR 22 c), some (aI k), some (aI (cntC (σ 22 c) k n)), some (aI (n : Int))]) (st' := [aI k, aI (σ 22 c (3 + (n : Int))), aI (cntC (σ 22 c) k n)]) (σ' := σ) rfl (show (c < 4) ∧ (0 ≤ 3 + (n : Int) ∧ 3 + (n : Int) < 45) from ⟨by omega, by omega⟩) ?_
      refine aw_cne dX7_isCommon_25 (tgt := 32) (by decide) ⟨by omega, by omega⟩ ⟨by omega, by omega⟩ (fun wh4 => ?_) (fun wh4 => ?_)
      · refine aw_b kX7_ok bX7_isCommon_32_ok (Cs := []) (pc' := 33) (L' := [some (aR 22 c), some (aI k), some (aI (cntC (σ 22 c) k n)), some (aI (n : Int))]) (st' := [aI 0, aI (cntC (σ 22 c) k n)]) (σ' := σ) rfl trivial ?_
        refine aw_b kX7_ok bX7_isCommon_33_ok (Cs := []) (pc' := 4) (L' := [some (aR 22 c), some (aI k), some (aI ((cntC (σ 22 c) k n) + 0)), some (aI ((n : Int) + 1))]) (st' := []) (σ' := σ) rfl trivial ?_
        exact aw_eq (by simp [cntC, *] <;> omega) rfl rfl (ihn (by omega))
      · refine aw_b kX7_ok bX7_isCommon_28_ok (Cs := []) (pc' := 33) (L' := [some (aR 22 c), some (aI k), some (aI (cntC (σ 22 c) k n)), some (aI (n : Int))]) (st' := [aI 1, aI (cntC (σ 22 c) k n)]) (σ' := σ) rfl trivial ?_
        refine aw_b kX7_ok bX7_isCommon_33_ok (Cs := []) (pc' := 4) (L' := [some (aR 22 c), some (aI k), some (aI ((cntC (σ 22 c) k n) + 1)), some (aI ((n : Int) + 1))]) (st' := []) (σ' := σ) rfl trivial ?_
        exact aw_eq (by simp [cntC, *] <;> omega) rfl rfl (ihn (by omega))
theorem shCut2 {kind f k day z : Int} (h2 : 0 ≤ f ∧ f ≤ 9) (h3 : 0 ≤ k ∧ k ≤ 9) (hz : z = 1 ∨ z = 2) : 0 ≤ (shF kind f k day).tdiv z ∧ (shF kind f k day).tdiv z ≤ 15 := by
  have e := shF_rng (kind := kind) (day := day) h2 h3
  rw [Int.tdiv_eq_ediv_of_nonneg e.1]
  rcases hz with rfl | rfl <;> omega
def hbN (r : aRw) : Nat → Int
  | 0 => 0
  | n + 1 => hbN r n + (if 0 ≤ r (8 + n) then 2 ^ n else 0)
theorem aOr_pow : ∀ n : Nat, n < 5 → ∀ x : Nat, x < 2 ^ n → aOr x (1 * 2 ^ (Int.toNat (n : Int))) = x + 2 ^ n ∧ aOr x 0 = x := by decide +kernel
theorem hbN_rng (r : aRw) : ∀ n : Nat, 0 ≤ hbN r n ∧ hbN r n < 2 ^ n
  | 0 => ⟨Int.le_refl 0, (show (0 : Int) < 1 from by decide)⟩
  | n + 1 => by
    have h := hbN_rng r n
    unfold hbN
    rw [Int.pow_succ]
    split <;> omega
theorem hbN_step (r : aRw) {n : Nat} (hn : n < 5) : aOr (hbN r n) (1 * 2 ^ (Int.toNat (n : Int))) = hbN r n + 2 ^ n ∧ aOr (hbN r n) 0 = hbN r n := by
  have h := hbN_rng r n
  obtain ⟨x, hx⟩ := Int.eq_ofNat_of_zero_le h.1
  rw [hx] at h ⊢
  have h2 : x < 2 ^ n := by have := h.2; exact_mod_cast this
  exact aOr_pow n hn x h2
set_option maxRecDepth 10000 in
theorem cM_heldIn (l : Launch) (c : Nat) (hc : c < 4) (σ : aS) (hw : WF (σ 22 c)) : AM l 0 mX7_heldIn [aR 22 c] σ (aF (some (aI (hbN (σ 22 c) 5))) σ) := by
  have bn := hw.1
  refine am_of (by decide) (Nat.le_of_ble_eq_true rfl) (L := [some (aR 22 c), none, none]) rfl ?_
  refine aw_b kX7_ok bX7_heldIn_0_ok (Cs := []) (pc' := 4) (L' := [some (aR 22 c), some (aI 0), some (aI 0)]) (st' := []) (σ' := σ) rfl trivial ?_
  refine aloop (P := fun n : Nat => AW l 0 mX7_heldIn _ 4 [some (aR 22 c), some (aI (hbN (σ 22 c) n)), some (aI (n : Int))] [] σ) (5) (fun n hn ihn => ?_)
  refine aw_b kX7_ok bX7_heldIn_4_ok (Cs := []) (pc' := 6) (L' := [some (aR 22 c), some (aI (hbN (σ 22 c) n)), some (aI (n : Int))]) (st' := [aI 5, aI (n : Int)]) (σ' := σ) rfl trivial ?_
  refine aw_cge dX7_heldIn_6 (tgt := 34) (by decide) ⟨by omega, by omega⟩ ⟨by omega, by omega⟩ (fun wh1 => ?_) (fun wh1 => ?_)
  · have e5 : n = 5 := by omega
    refine aw_b kX7_ok bX7_heldIn_34_ok (Cs := []) (pc' := 35) (L' := [some (aR 22 c), some (aI (hbN (σ 22 c) n)), some (aI (n : Int))]) (st' := [aI (hbN (σ 22 c) n)]) (σ' := σ) rfl trivial ?_
    exact aw_iret dX7_heldIn_35 rfl ⟨aret (by subst e5; rfl), rfl⟩
  · have hlt : n < 5 := by omega
    have g1 := hw.ho (f := (n : Int)) (by omega) (by omega)
    refine aw_b kX7_ok bX7_heldIn_9_ok (Cs := [c < 4, 0 ≤ 8 + (n : Int) ∧ 8 + (n : Int) < 45]) (pc' := 16) (L' := [some (aR 22 c), some (aI (hbN (σ 22 c) n)), some (aI (n : Int))]) (st' := [aI (σ 22 c (8 + (n : Int))), aI (hbN (σ 22 c) n)]) (σ' := σ) rfl (show (c < 4) ∧ (0 ≤ 8 + (n : Int) ∧ 8 + (n : Int) < 45) from ⟨by omega, by omega⟩) ?_
    refine aw_ilt dX7_heldIn_16 (tgt := 25) (by decide) ⟨by omega, by omega⟩ (fun wh2 => ?_) (fun wh2 => ?_)
    · refine aw_b kX7_ok bX7_heldIn_25_ok (Cs := []) (pc' := 26) (L' := [some (aR 22 c), some (aI (hbN (σ 22 c) n)), some (aI (n : Int))]) (st' := [aI 0, aI (hbN (σ 22 c) n)]) (σ' := σ) rfl trivial ?_
      refine aw_b kX7_ok bX7_heldIn_26_ok (Cs := []) (pc' := 4) (L' := [some (aR 22 c), some (aI (aOr (hbN (σ 22 c) n) 0)), some (aI ((n : Int) + 1))]) (st' := []) (σ' := σ) rfl trivial ?_
      exact aw_eq (by simp only [hbN_step _ hlt, hbN, *]; simp [*] <;> omega) rfl rfl (ihn (by omega))
    · refine aw_b kX7_ok bX7_heldIn_19_ok (Cs := [0 ≤ (n : Int) ∧ (n : Int) < 32]) (pc' := 26) (L' := [some (aR 22 c), some (aI (hbN (σ 22 c) n)), some (aI (n : Int))]) (st' := [aI (1 * 2 ^ (Int.toNat (n : Int))), aI (hbN (σ 22 c) n)]) (σ' := σ) rfl (show 0 ≤ (n : Int) ∧ (n : Int) < 32 from by omega) ?_
      refine aw_b kX7_ok bX7_heldIn_26_ok (Cs := []) (pc' := 4) (L' := [some (aR 22 c), some (aI (aOr (hbN (σ 22 c) n) (1 * 2 ^ (Int.toNat (n : Int))))), some (aI ((n : Int) + 1))]) (st' := []) (σ' := σ) rfl trivial ?_
      exact aw_eq (by simp only [hbN_step _ hlt, hbN, *]; simp [*] <;> omega) rfl rfl (ihn (by omega))
set_option maxRecDepth 10000 in
theorem cM_isSeen (l : Launch) (c : Nat) (hc : c < 4) (p : Int) (σ : aS) (hw : WF (σ 22 c)) (h0 : 0 ≤ p) (h1 : p < σ 22 c 0) (hd : σ 22 c 1 ≤ 1000000) : AM l 2 mX7_isSeen [aR 22 c, aI p] σ (aF none (aRow σ c (seR (σ 22 c) p))) := by
  have bp := hw.pe h0 h1
  have bn := hw.1
  have ba := aOf_rng (p := p) (w := 0) h0 (by omega) (by decide) (by decide)
  have bb := aOf_rng (p := p) (w := 1) h0 (by omega) (by decide) (by decide)
  have bc := aOf_rng (p := p) (w := 2) h0 (by omega) (by decide) (by decide)
  have bd := aOf_rng (p := p) (w := 3) h0 (by omega) (by decide) (by decide)
  have b1 := hw.2.1
  refine am_of (by decide) (Nat.le_of_ble_eq_true rfl) (L := [some (aR 22 c), some (aI p), none, none, none, none]) rfl ?_
  refine aw_b kX7_ok bX7_isSeen_0_ok (Cs := []) (pc' := 3) (L' := [some (aR 22 c), some (aI p), none, none, none, none]) (st' := [aI 0, aI p, aR 22 c]) (σ' := σ) rfl trivial ?_
  refine aw_fS lX7_57 (as := [aI p, aI 0]) (rest := [aR 22 c]) (by decide) rfl (Nat.le_of_ble_eq_true rfl) rfl dX7_isSeen_3 (cM_of l p 0 σ) ?_
  refine aw_b kX7_ok bX7_isSeen_6_ok (Cs := [c < 4, 0 ≤ aOf p 0 ∧ aOf p 0 < 45]) (pc' := 11) (L' := [some (aR 22 c), some (aI p), some (aI (σ 22 c (aOf p 0))), none, none, none]) (st' := [aI 1, aI p, aR 22 c]) (σ' := σ) rfl (show (c < 4) ∧ (0 ≤ aOf p 0 ∧ aOf p 0 < 45) from ⟨by omega, by omega⟩) ?_
  refine aw_fS lX7_57 (as := [aI p, aI 1]) (rest := [aR 22 c]) (by decide) rfl (Nat.le_of_ble_eq_true rfl) rfl dX7_isSeen_11 (cM_of l p 1 σ) ?_
  refine aw_b kX7_ok bX7_isSeen_14_ok (Cs := [c < 4, 0 ≤ aOf p 1 ∧ aOf p 1 < 45]) (pc' := 18) (L' := [some (aR 22 c), some (aI p), some (aI (σ 22 c (aOf p 0))), some (aI (σ 22 c (aOf p 1))), none, none]) (st' := [aI p, aR 22 c]) (σ' := σ) rfl (show (c < 4) ∧ (0 ≤ aOf p 1 ∧ aOf p 1 < 45) from ⟨by omega, by omega⟩) ?_
  refine aw_fS lX7_64 (as := [aR 22 c, aI p]) (rest := []) (by decide) rfl (Nat.le_of_ble_eq_true rfl) rfl dX7_isSeen_18 (cM_officeOf l c (by omega) p σ ⟨by omega, by omega⟩ hw) ?_
  have bo := off_rng (σ 22 c) p
  refine aw_b kX7_ok bX7_isSeen_21_ok (Cs := []) (pc' := 25) (L' := [some (aR 22 c), some (aI p), some (aI (σ 22 c (aOf p 0))), some (aI (σ 22 c (aOf p 1))), some (aI (off (σ 22 c) p)), none]) (st' := [aI (off (σ 22 c) p)]) (σ' := σ) rfl trivial ?_
  refine aw_ige dX7_isSeen_25 (tgt := 51) (by decide) ⟨by omega, by omega⟩ (fun wh1 => ?_) (fun wh1 => ?_)
  · have bh := hw.co (f := off (σ 22 c) p) (by omega) (by omega)
    have bs := shF_rng (kind := σ 22 c (aOf p 0)) (day := σ 22 c 1) bp.2.1 bh
    have bt := shCut2 (kind := σ 22 c (aOf p 0)) (day := σ 22 c 1) (z := 1) bp.2.1 bh (Or.inl rfl)
    have bu := shCut2 (kind := σ 22 c (aOf p 0)) (day := σ 22 c 1) (z := 2) bp.2.1 bh (Or.inr rfl)
    refine aw_b kX7_ok bX7_isSeen_51_ok (Cs := [c < 4, 0 ≤ 3 + (off (σ 22 c) p) ∧ 3 + (off (σ 22 c) p) < 45]) (pc' := 62) (L' := [some (aR 22 c), some (aI p), some (aI (σ 22 c (aOf p 0))), some (aI (σ 22 c (aOf p 1))), some (aI (off (σ 22 c) p)), some (aI (σ 22 c (3 + (off (σ 22 c) p))))]) (st' := [aI 2, aI p, aR 22 c]) (σ' := σ) rfl (show (c < 4) ∧ (0 ≤ 3 + (off (σ 22 c) p) ∧ 3 + (off (σ 22 c) p) < 45) from ⟨by omega, by omega⟩) ?_
    refine aw_fS lX7_57 (as := [aI p, aI 2]) (rest := [aR 22 c]) (by decide) rfl (Nat.le_of_ble_eq_true rfl) rfl dX7_isSeen_62 (cM_of l p 2 σ) ?_
    refine aw_b kX7_ok bX7_isSeen_65_ok (Cs := []) (pc' := 70) (L' := [some (aR 22 c), some (aI p), some (aI (σ 22 c (aOf p 0))), some (aI (σ 22 c (aOf p 1))), some (aI (off (σ 22 c) p)), some (aI (σ 22 c (3 + (off (σ 22 c) p))))]) (st' := [aI 2, aI p, aR 22 c, aI 99, aI (aOf p 2), aR 22 c]) (σ' := σ) rfl trivial ?_
    refine aw_fS lX7_57 (as := [aI p, aI 2]) (rest := [aR 22 c, aI 99, aI (aOf p 2), aR 22 c]) (by decide) rfl (Nat.le_of_ble_eq_true rfl) rfl dX7_isSeen_70 (cM_of l p 2 σ) ?_
    refine aw_b kX7_ok bX7_isSeen_73_ok (Cs := [c < 4, 0 ≤ aOf p 2 ∧ aOf p 2 < 45, c < 4, 0 ≤ 1 ∧ 1 < 45]) (pc' := 81) (L' := [some (aR 22 c), some (aI p), some (aI (σ 22 c (aOf p 0))), some (aI (σ 22 c (aOf p 1))), some (aI (off (σ 22 c) p)), some (aI (σ 22 c (3 + (off (σ 22 c) p))))]) (st' := [aI (σ 22 c 1), aI (σ 22 c (3 + (off (σ 22 c) p))), aI (σ 22 c (aOf p 1)), aI (σ 22 c (aOf p 0)), aI (σ 22 c (aOf p 2)), aI 99, aI (aOf p 2), aR 22 c]) (σ' := σ) rfl (show (c < 4) ∧ (0 ≤ aOf p 2 ∧ aOf p 2 < 45) ∧ (c < 4) ∧ (0 ≤ 1 ∧ 1 < 45) from ⟨by omega, by omega, by omega, by omega⟩) ?_
    refine aw_fS lX7_74 (as := [aI (σ 22 c (aOf p 0)), aI (σ 22 c (aOf p 1)), aI (σ 22 c (3 + (off (σ 22 c) p))), aI (σ 22 c 1)]) (rest := [aI (σ 22 c (aOf p 2)), aI 99, aI (aOf p 2), aR 22 c]) (by decide) rfl (Nat.le_of_ble_eq_true rfl) rfl dX7_isSeen_81 (cM_showsBy l (σ 22 c (aOf p 0)) (σ 22 c (aOf p 1)) (σ 22 c (3 + (off (σ 22 c) p))) (σ 22 c 1) σ ⟨by omega, by omega⟩ ⟨by omega, by omega⟩ ⟨by omega, by omega⟩ ⟨by omega, by omega⟩) ?_
    refine aw_b kX7_ok bX7_isSeen_84_ok (Cs := []) (pc' := 87) (L' := [some (aR 22 c), some (aI p), some (aI (σ 22 c (aOf p 0))), some (aI (σ 22 c (aOf p 1))), some (aI (off (σ 22 c) p)), some (aI (σ 22 c (3 + (off (σ 22 c) p))))]) (st' := [aI (σ 22 c (3 + (off (σ 22 c) p))), aR 22 c, aI (shF (σ 22 c (aOf p 0)) (σ 22 c (aOf p 1)) (σ 22 c (3 + (off (σ 22 c) p))) (σ 22 c 1)), aI (σ 22 c (aOf p 2)), aI 99, aI (aOf p 2), aR 22 c]) (σ' := σ) rfl trivial ?_
    refine aw_bS lX7_78 (as := [aR 22 c, aI (σ 22 c (3 + (off (σ 22 c) p)))]) (rest := [aI (shF (σ 22 c (aOf p 0)) (σ 22 c (aOf p 1)) (σ 22 c (3 + (off (σ 22 c) p))) (σ 22 c 1)), aI (σ 22 c (aOf p 2)), aI 99, aI (aOf p 2), aR 22 c]) (by decide) rfl (Nat.le_of_ble_eq_true rfl) rfl dX7_isSeen_87 (cM_isCommon l c (by omega) (σ 22 c (3 + (off (σ 22 c) p))) σ ⟨by omega, by omega⟩ hw) (fun wh2 => ?_) (fun wh2 => ?_)
    · refine aw_ieq dX7_isSeen_90 (tgt := 97) (by decide) ⟨by omega, by omega⟩ (fun wh3 => absurd wh3 (by decide)) (fun wh3 => ?_)
      refine aw_b kX7_ok bX7_isSeen_93_ok (Cs := []) (pc' := 98) (L' := [some (aR 22 c), some (aI p), some (aI (σ 22 c (aOf p 0))), some (aI (σ 22 c (aOf p 1))), some (aI (off (σ 22 c) p)), some (aI (σ 22 c (3 + (off (σ 22 c) p))))]) (st' := [aI 2, aI (shF (σ 22 c (aOf p 0)) (σ 22 c (aOf p 1)) (σ 22 c (3 + (off (σ 22 c) p))) (σ 22 c 1)), aI (σ 22 c (aOf p 2)), aI 99, aI (aOf p 2), aR 22 c]) (σ' := σ) rfl trivial ?_
      refine aw_b kX7_ok bX7_isSeen_98_ok (Cs := [-2147483648 ≤ shF (σ 22 c (aOf p 0)) (σ 22 c (aOf p 1)) (σ 22 c (3 + (off (σ 22 c) p))) (σ 22 c 1) ∧ shF (σ 22 c (aOf p 0)) (σ 22 c (aOf p 1)) (σ 22 c (3 + (off (σ 22 c) p))) (σ 22 c 1) < 2147483648, 0 < 2 ∧ 2 < 2147483648]) (pc' := 100) (L' := [some (aR 22 c), some (aI p), some (aI (σ 22 c (aOf p 0))), some (aI (σ 22 c (aOf p 1))), some (aI (off (σ 22 c) p)), some (aI (σ 22 c (3 + (off (σ 22 c) p))))]) (st' := [aI ((σ 22 c (aOf p 2)) + (Int.tdiv (shF (σ 22 c (aOf p 0)) (σ 22 c (aOf p 1)) (σ 22 c (3 + (off (σ 22 c) p))) (σ 22 c 1)) 2)), aI 99, aI (aOf p 2), aR 22 c]) (σ' := σ) rfl (show (-2147483648 ≤ shF (σ 22 c (aOf p 0)) (σ 22 c (aOf p 1)) (σ 22 c (3 + (off (σ 22 c) p))) (σ 22 c 1) ∧ shF (σ 22 c (aOf p 0)) (σ 22 c (aOf p 1)) (σ 22 c (3 + (off (σ 22 c) p))) (σ 22 c 1) < 2147483648) ∧ (0 < 2 ∧ 2 < 2147483648) from ⟨by omega, by omega⟩) ?_
      refine aw_fS lX7_82 (as := [aI 99, aI ((σ 22 c (aOf p 2)) + (Int.tdiv (shF (σ 22 c (aOf p 0)) (σ 22 c (aOf p 1)) (σ 22 c (3 + (off (σ 22 c) p))) (σ 22 c 1)) 2))]) (rest := [aI (aOf p 2), aR 22 c]) (by decide) rfl (Nat.le_of_ble_eq_true rfl) rfl dX7_isSeen_100 (cM_least l 99 ((σ 22 c (aOf p 2)) + (Int.tdiv (shF (σ 22 c (aOf p 0)) (σ 22 c (aOf p 1)) (σ 22 c (3 + (off (σ 22 c) p))) (σ 22 c 1)) 2)) σ ⟨by omega, by omega⟩ ⟨by omega, by omega⟩) ?_
      refine aw_b kX7_ok bX7_isSeen_103_ok (Cs := [c < 4, 0 ≤ aOf p 2 ∧ aOf p 2 < 45]) (pc' := 104) (L' := [some (aR 22 c), some (aI p), some (aI (σ 22 c (aOf p 0))), some (aI (σ 22 c (aOf p 1))), some (aI (off (σ 22 c) p)), some (aI (σ 22 c (3 + (off (σ 22 c) p))))]) (st' := []) (σ' := aUp σ 22 c (aOf p 2) (if 99 < (σ 22 c (aOf p 2)) + (Int.tdiv (shF (σ 22 c (aOf p 0)) (σ 22 c (aOf p 1)) (σ 22 c (3 + (off (σ 22 c) p))) (σ 22 c 1)) 2) then 99 else (σ 22 c (aOf p 2)) + (Int.tdiv (shF (σ 22 c (aOf p 0)) (σ 22 c (aOf p 1)) (σ 22 c (3 + (off (σ 22 c) p))) (σ 22 c 1)) 2))) rfl (show (c < 4) ∧ (0 ≤ aOf p 2 ∧ aOf p 2 < 45) from ⟨by omega, by omega⟩) ?_
      exact aw_vret dX7_isSeen_104 rfl ⟨rfl, by rw [aUp_row]; unfold seR; rw [if_neg (show ¬ off (σ 22 c) p < 0 by omega)]; simp [*]⟩
    · refine aw_ieq dX7_isSeen_90 (tgt := 97) (by decide) ⟨by omega, by omega⟩ (fun wh4 => ?_) (fun wh4 => absurd wh4 (by decide))
      refine aw_b kX7_ok bX7_isSeen_97_ok (Cs := []) (pc' := 98) (L' := [some (aR 22 c), some (aI p), some (aI (σ 22 c (aOf p 0))), some (aI (σ 22 c (aOf p 1))), some (aI (off (σ 22 c) p)), some (aI (σ 22 c (3 + (off (σ 22 c) p))))]) (st' := [aI 1, aI (shF (σ 22 c (aOf p 0)) (σ 22 c (aOf p 1)) (σ 22 c (3 + (off (σ 22 c) p))) (σ 22 c 1)), aI (σ 22 c (aOf p 2)), aI 99, aI (aOf p 2), aR 22 c]) (σ' := σ) rfl trivial ?_
      refine aw_b kX7_ok bX7_isSeen_98_ok (Cs := [-2147483648 ≤ shF (σ 22 c (aOf p 0)) (σ 22 c (aOf p 1)) (σ 22 c (3 + (off (σ 22 c) p))) (σ 22 c 1) ∧ shF (σ 22 c (aOf p 0)) (σ 22 c (aOf p 1)) (σ 22 c (3 + (off (σ 22 c) p))) (σ 22 c 1) < 2147483648, 0 < 1 ∧ 1 < 2147483648]) (pc' := 100) (L' := [some (aR 22 c), some (aI p), some (aI (σ 22 c (aOf p 0))), some (aI (σ 22 c (aOf p 1))), some (aI (off (σ 22 c) p)), some (aI (σ 22 c (3 + (off (σ 22 c) p))))]) (st' := [aI ((σ 22 c (aOf p 2)) + (Int.tdiv (shF (σ 22 c (aOf p 0)) (σ 22 c (aOf p 1)) (σ 22 c (3 + (off (σ 22 c) p))) (σ 22 c 1)) 1)), aI 99, aI (aOf p 2), aR 22 c]) (σ' := σ) rfl (show (-2147483648 ≤ shF (σ 22 c (aOf p 0)) (σ 22 c (aOf p 1)) (σ 22 c (3 + (off (σ 22 c) p))) (σ 22 c 1) ∧ shF (σ 22 c (aOf p 0)) (σ 22 c (aOf p 1)) (σ 22 c (3 + (off (σ 22 c) p))) (σ 22 c 1) < 2147483648) ∧ (0 < 1 ∧ 1 < 2147483648) from ⟨by omega, by omega⟩) ?_
      refine aw_fS lX7_82 (as := [aI 99, aI ((σ 22 c (aOf p 2)) + (Int.tdiv (shF (σ 22 c (aOf p 0)) (σ 22 c (aOf p 1)) (σ 22 c (3 + (off (σ 22 c) p))) (σ 22 c 1)) 1))]) (rest := [aI (aOf p 2), aR 22 c]) (by decide) rfl (Nat.le_of_ble_eq_true rfl) rfl dX7_isSeen_100 (cM_least l 99 ((σ 22 c (aOf p 2)) + (Int.tdiv (shF (σ 22 c (aOf p 0)) (σ 22 c (aOf p 1)) (σ 22 c (3 + (off (σ 22 c) p))) (σ 22 c 1)) 1)) σ ⟨by omega, by omega⟩ ⟨by omega, by omega⟩) ?_
      refine aw_b kX7_ok bX7_isSeen_103_ok (Cs := [c < 4, 0 ≤ aOf p 2 ∧ aOf p 2 < 45]) (pc' := 104) (L' := [some (aR 22 c), some (aI p), some (aI (σ 22 c (aOf p 0))), some (aI (σ 22 c (aOf p 1))), some (aI (off (σ 22 c) p)), some (aI (σ 22 c (3 + (off (σ 22 c) p))))]) (st' := []) (σ' := aUp σ 22 c (aOf p 2) (if 99 < (σ 22 c (aOf p 2)) + (Int.tdiv (shF (σ 22 c (aOf p 0)) (σ 22 c (aOf p 1)) (σ 22 c (3 + (off (σ 22 c) p))) (σ 22 c 1)) 1) then 99 else (σ 22 c (aOf p 2)) + (Int.tdiv (shF (σ 22 c (aOf p 0)) (σ 22 c (aOf p 1)) (σ 22 c (3 + (off (σ 22 c) p))) (σ 22 c 1)) 1))) rfl (show (c < 4) ∧ (0 ≤ aOf p 2 ∧ aOf p 2 < 45) from ⟨by omega, by omega⟩) ?_
      exact aw_vret dX7_isSeen_104 rfl ⟨rfl, by rw [aUp_row]; unfold seR; rw [if_neg (show ¬ off (σ 22 c) p < 0 by omega)]; simp [*]⟩
  · have bf := foF_rng (kind := σ 22 c (aOf p 0)) bp.2.1
    refine aw_b kX7_ok bX7_isSeen_28_ok (Cs := []) (pc' := 31) (L' := [some (aR 22 c), some (aI p), some (aI (σ 22 c (aOf p 0))), some (aI (σ 22 c (aOf p 1))), some (aI (off (σ 22 c) p)), none]) (st' := [aI 2, aI p, aR 22 c]) (σ' := σ) rfl trivial ?_
    refine aw_fS lX7_57 (as := [aI p, aI 2]) (rest := [aR 22 c]) (by decide) rfl (Nat.le_of_ble_eq_true rfl) rfl dX7_isSeen_31 (cM_of l p 2 σ) ?_
    refine aw_b kX7_ok bX7_isSeen_34_ok (Cs := []) (pc' := 37) (L' := [some (aR 22 c), some (aI p), some (aI (σ 22 c (aOf p 0))), some (aI (σ 22 c (aOf p 1))), some (aI (off (σ 22 c) p)), none]) (st' := [aI 2, aI p, aR 22 c, aI (aOf p 2), aR 22 c]) (σ' := σ) rfl trivial ?_
    refine aw_fS lX7_57 (as := [aI p, aI 2]) (rest := [aR 22 c, aI (aOf p 2), aR 22 c]) (by decide) rfl (Nat.le_of_ble_eq_true rfl) rfl dX7_isSeen_37 (cM_of l p 2 σ) ?_
    refine aw_b kX7_ok bX7_isSeen_40_ok (Cs := [c < 4, 0 ≤ aOf p 2 ∧ aOf p 2 < 45]) (pc' := 43) (L' := [some (aR 22 c), some (aI p), some (aI (σ 22 c (aOf p 0))), some (aI (σ 22 c (aOf p 1))), some (aI (off (σ 22 c) p)), none]) (st' := [aI (σ 22 c (aOf p 1)), aI (σ 22 c (aOf p 0)), aI (σ 22 c (aOf p 2)), aI (aOf p 2), aR 22 c]) (σ' := σ) rfl (show (c < 4) ∧ (0 ≤ aOf p 2 ∧ aOf p 2 < 45) from ⟨by omega, by omega⟩) ?_
    refine aw_fS lX7_68 (as := [aI (σ 22 c (aOf p 0)), aI (σ 22 c (aOf p 1))]) (rest := [aI (σ 22 c (aOf p 2)), aI (aOf p 2), aR 22 c]) (by decide) rfl (Nat.le_of_ble_eq_true rfl) rfl dX7_isSeen_43 (cM_forgetsBy l (σ 22 c (aOf p 0)) (σ 22 c (aOf p 1)) σ ⟨by omega, by omega⟩ ⟨by omega, by omega⟩) ?_
    refine aw_fS lX7_71 (as := [aI (σ 22 c (aOf p 2)), aI (foF (σ 22 c (aOf p 0)) (σ 22 c (aOf p 1)))]) (rest := [aI (aOf p 2), aR 22 c]) (by decide) rfl (Nat.le_of_ble_eq_true rfl) rfl dX7_isSeen_46 (cM_lessBy l (σ 22 c (aOf p 2)) (foF (σ 22 c (aOf p 0)) (σ 22 c (aOf p 1))) σ ⟨by omega, by omega⟩ ⟨by omega, by omega⟩) ?_
    refine aw_b kX7_ok bX7_isSeen_49_ok (Cs := [c < 4, 0 ≤ aOf p 2 ∧ aOf p 2 < 45]) (pc' := 50) (L' := [some (aR 22 c), some (aI p), some (aI (σ 22 c (aOf p 0))), some (aI (σ 22 c (aOf p 1))), some (aI (off (σ 22 c) p)), none]) (st' := []) (σ' := aUp σ 22 c (aOf p 2) (if σ 22 c (aOf p 2) < foF (σ 22 c (aOf p 0)) (σ 22 c (aOf p 1)) then 0 else σ 22 c (aOf p 2) - (foF (σ 22 c (aOf p 0)) (σ 22 c (aOf p 1))))) rfl (show (c < 4) ∧ (0 ≤ aOf p 2 ∧ aOf p 2 < 45) from ⟨by omega, by omega⟩) ?_
    exact aw_vret dX7_isSeen_50 rfl ⟨rfl, by rw [aUp_row]; unfold seR; rw [if_pos (show off (σ 22 c) p < 0 by omega)]⟩
theorem beR_rng {r : aRw} (h : WF r) {p : Int} (h0 : 0 ≤ p) (h1 : p < r 0) : 7 ≤ beR r p ∧ beR r p ≤ 99 := beF_rng (h.pe h0 h1).2.1
set_option maxRecDepth 10000 in
theorem cM_fallsIn (l : Launch) (c : Nat) (hc : c < 4) (f : Int) (σ : aS) (hw : WF (σ 22 c)) (f0 : 0 ≤ f) (f1 : f < 5) : AM l 2 mX7_fallsIn [aR 22 c, aI f] σ (aF none (aRow σ c (faR (σ 22 c) f))) := by
  have bn := hw.1
  have b2 := hw.2.2.1
  have g0 := hw.ho f0 f1
  refine am_of (by decide) (Nat.le_of_ble_eq_true rfl) (L := [some (aR 22 c), some (aI f), none, none]) rfl ?_
  refine aw_b kX7_ok bX7_fallsIn_0_ok (Cs := [c < 4, 0 ≤ 8 + f ∧ 8 + f < 45]) (pc' := 8) (L' := [some (aR 22 c), some (aI f), some (aI (σ 22 c (8 + f))), none]) (st' := [aI (σ 22 c (8 + f))]) (σ' := σ) rfl (show (c < 4) ∧ (0 ≤ 8 + f ∧ 8 + f < 45) from ⟨by omega, by omega⟩) ?_
  refine aw_ilt dX7_fallsIn_8 (tgt := 26) (by decide) ⟨by omega, by omega⟩ (fun wh1 => ?_) (fun wh1 => ?_)
  · exact aw_vret dX7_fallsIn_26 rfl ⟨rfl, by unfold faR; rw [if_pos (by omega), aRow_id]⟩
  · have bp := hw.pe (p := (σ 22 c (8 + f))) (by omega) (by omega)
    have ba := aOf_rng (p := (σ 22 c (8 + f))) (w := 2) (by omega) (by omega) (by decide) (by decide)
    have bc := aOf_rng (p := (σ 22 c (8 + f))) (w := 3) (by omega) (by omega) (by decide) (by decide)
    have bb := beR_rng hw (p := (σ 22 c (8 + f))) (by omega) (by omega)
    refine aw_b kX7_ok bX7_fallsIn_11_ok (Cs := []) (pc' := 14) (L' := [some (aR 22 c), some (aI f), some (aI (σ 22 c (8 + f))), none]) (st' := [aI 2, aI (σ 22 c (8 + f)), aR 22 c]) (σ' := σ) rfl trivial ?_
    refine aw_fS lX7_57 (as := [aI (σ 22 c (8 + f)), aI 2]) (rest := [aR 22 c]) (by decide) rfl (Nat.le_of_ble_eq_true rfl) rfl dX7_fallsIn_14 (cM_of l (σ 22 c (8 + f)) 2 σ) ?_
    refine aw_b kX7_ok bX7_fallsIn_17_ok (Cs := [c < 4, 0 ≤ aOf (σ 22 c (8 + f)) 2 ∧ aOf (σ 22 c (8 + f)) 2 < 45]) (pc' := 20) (L' := [some (aR 22 c), some (aI f), some (aI (σ 22 c (8 + f))), none]) (st' := [aI (σ 22 c (8 + f)), aR 22 c, aI (σ 22 c (aOf (σ 22 c (8 + f)) 2))]) (σ' := σ) rfl (show (c < 4) ∧ (0 ≤ aOf (σ 22 c (8 + f)) 2 ∧ aOf (σ 22 c (8 + f)) 2 < 45) from ⟨by omega, by omega⟩) ?_
    refine aw_fS lX7_85 (as := [aR 22 c, aI (σ 22 c (8 + f))]) (rest := [aI (σ 22 c (aOf (σ 22 c (8 + f)) 2))]) (by decide) rfl (Nat.le_of_ble_eq_true rfl) rfl dX7_fallsIn_20 (cM_bears l c (by omega) (σ 22 c (8 + f)) σ hw (by omega) (by omega)) ?_
    refine aw_cge dX7_fallsIn_23 (tgt := 27) (by decide) ⟨by omega, by omega⟩ ⟨by omega, by omega⟩ (fun wh2 => ?_) (fun wh2 => ?_)
    · refine aw_b kX7_ok bX7_fallsIn_27_ok (Cs := [c < 4, 0 ≤ 2 ∧ 2 < 45]) (pc' := 37) (L' := [some (aR 22 c), some (aI f), some (aI (σ 22 c (8 + f))), none]) (st' := [aI ((σ 22 c 2) + 1), aI 999, aI 2, aR 22 c]) (σ' := σ) rfl (show (c < 4) ∧ (0 ≤ 2 ∧ 2 < 45) from ⟨by omega, by omega⟩) ?_
      refine aw_fS lX7_82 (as := [aI 999, aI ((σ 22 c 2) + 1)]) (rest := [aI 2, aR 22 c]) (by decide) rfl (Nat.le_of_ble_eq_true rfl) rfl dX7_fallsIn_37 (cM_least l 999 ((σ 22 c 2) + 1) σ ⟨by omega, by omega⟩ ⟨by omega, by omega⟩) ?_
      refine aw_b kX7_ok bX7_fallsIn_40_ok (Cs := [c < 4, 0 ≤ 2 ∧ 2 < 45, c < 4, 0 ≤ 8 + f ∧ 8 + f < 45]) (pc' := 52) (L' := [some (aR 22 c), some (aI f), some (aI (σ 22 c (8 + f))), none]) (st' := [aI 3, aI (σ 22 c (8 + f)), aR 22 c]) (σ' := aUp (aUp σ 22 c 2 (if 999 < (σ 22 c 2) + 1 then 999 else (σ 22 c 2) + 1)) 22 c (8 + f) (-4)) rfl (show (c < 4) ∧ (0 ≤ 2 ∧ 2 < 45) ∧ (c < 4) ∧ (0 ≤ 8 + f ∧ 8 + f < 45) from ⟨by omega, by omega, by omega, by omega⟩) ?_
      obtain ⟨τ, hτ⟩ : ∃ τ, τ = aRow σ c (f1R (σ 22 c) f) := ⟨_, rfl⟩
      refine aw_eq rfl rfl (σ' := τ) (by rw [hτ, aUp_row (σ := σ), aUp_row2]; rfl) ?_
      have hτr : τ 22 c = f1R (σ 22 c) f := by rw [hτ, aRow_self]
      have hwτ : WF (τ 22 c) := by rw [hτr]; exact f1R_wf hw f0 f1
      have e0 : τ 22 c 0 = σ 22 c 0 := by rw [hτr]; exact f1R_at _ _ (by omega) (by omega)
      have em : (τ 22 c (aOf (σ 22 c (8 + f)) 3)) = (σ 22 c (aOf (σ 22 c (8 + f)) 3)) := by rw [hτr]; exact f1R_at _ _ (by omega) (by omega)
      have eo : off (τ 22 c) (τ 22 c (aOf (σ 22 c (8 + f)) 3)) = off (f1R (σ 22 c) f) (σ 22 c (aOf (σ 22 c (8 + f)) 3)) := by rw [em, hτr]
      have bo := off_rng (τ 22 c) (τ 22 c (aOf (σ 22 c (8 + f)) 3))
      refine aw_fS lX7_57 (as := [aI (σ 22 c (8 + f)), aI 3]) (rest := [aR 22 c]) (by decide) rfl (Nat.le_of_ble_eq_true rfl) rfl dX7_fallsIn_52 (cM_of l (σ 22 c (8 + f)) 3 τ) ?_
      refine aw_b kX7_ok bX7_fallsIn_55_ok (Cs := [c < 4, 0 ≤ aOf (σ 22 c (8 + f)) 3 ∧ aOf (σ 22 c (8 + f)) 3 < 45, c < 4, 0 ≤ 0 ∧ 0 < 45]) (pc' := 61) (L' := [some (aR 22 c), some (aI f), some (aI (σ 22 c (8 + f))), some (aI (τ 22 c (aOf (σ 22 c (8 + f)) 3)))]) (st' := [aI (τ 22 c 0), aI (τ 22 c (aOf (σ 22 c (8 + f)) 3))]) (σ' := τ) rfl (show (c < 4) ∧ (0 ≤ aOf (σ 22 c (8 + f)) 3 ∧ aOf (σ 22 c (8 + f)) 3 < 45) ∧ (c < 4) ∧ (0 ≤ 0 ∧ 0 < 45) from ⟨by omega, by omega, by omega, by omega⟩) ?_
      refine aw_cge dX7_fallsIn_61 (tgt := 94) (by decide) ⟨by omega, by omega⟩ ⟨by omega, by omega⟩ (fun wh3 => ?_) (fun wh3 => ?_)
      · exact aw_vret dX7_fallsIn_94 rfl ⟨rfl, by rw [hτ]; unfold faR; rw [if_neg (by omega), if_neg (by omega)]⟩
      · refine aw_b kX7_ok bX7_fallsIn_64_ok (Cs := []) (pc' := 66) (L' := [some (aR 22 c), some (aI f), some (aI (σ 22 c (8 + f))), some (aI (τ 22 c (aOf (σ 22 c (8 + f)) 3)))]) (st' := [aI (τ 22 c (aOf (σ 22 c (8 + f)) 3)), aR 22 c]) (σ' := τ) rfl trivial ?_
        refine aw_fS lX7_64 (as := [aR 22 c, aI (τ 22 c (aOf (σ 22 c (8 + f)) 3))]) (rest := []) (by decide) rfl (Nat.le_of_ble_eq_true rfl) rfl dX7_fallsIn_66 (cM_officeOf l c (by omega) (τ 22 c (aOf (σ 22 c (8 + f)) 3)) τ ⟨by omega, by omega⟩ hwτ) ?_
        refine aw_ige dX7_fallsIn_69 (tgt := 94) (by decide) ⟨by omega, by omega⟩ (fun wh4 => ?_) (fun wh4 => ?_)
        · exact aw_vret dX7_fallsIn_94 rfl ⟨rfl, by rw [hτ]; unfold faR; rw [if_neg (by omega), if_neg (by omega)]⟩
        · have bz := hw.pe (p := (σ 22 c (aOf (σ 22 c (8 + f)) 3))) (by omega) (by omega)
          have bx := aOf_rng (p := (σ 22 c (aOf (σ 22 c (8 + f)) 3))) (w := 2) (by omega) (by omega) (by decide) (by decide)
          have ek : τ 22 c (aOf (τ 22 c (aOf (σ 22 c (8 + f)) 3)) 2) = σ 22 c (aOf (σ 22 c (aOf (σ 22 c (8 + f)) 3)) 2) := by rw [em, hτr]; exact f1R_at _ _ (by omega) (by omega)
          have by0 := aOf_rng (p := (σ 22 c (aOf (σ 22 c (8 + f)) 3))) (w := 0) (by omega) (by omega) (by decide) (by decide)
          have by1 := aOf_rng (p := (σ 22 c (aOf (σ 22 c (8 + f)) 3))) (w := 1) (by omega) (by omega) (by decide) (by decide)
          have eb : beR (τ 22 c) (τ 22 c (aOf (σ 22 c (8 + f)) 3)) = beR (σ 22 c) (σ 22 c (aOf (σ 22 c (8 + f)) 3)) := by unfold beR; rw [em, hτr, f1R_at _ _ (by omega) (by omega), f1R_at _ _ (by omega) (by omega)]
          have bw := beR_rng hw (p := (σ 22 c (aOf (σ 22 c (8 + f)) 3))) (by omega) (by omega)
          have ea : aOf (τ 22 c (aOf (σ 22 c (8 + f)) 3)) 2 = aOf (σ 22 c (aOf (σ 22 c (8 + f)) 3)) 2 := by rw [em]
          refine aw_b kX7_ok bX7_fallsIn_72_ok (Cs := []) (pc' := 75) (L' := [some (aR 22 c), some (aI f), some (aI (σ 22 c (8 + f))), some (aI (τ 22 c (aOf (σ 22 c (8 + f)) 3)))]) (st' := [aI 2, aI (τ 22 c (aOf (σ 22 c (8 + f)) 3)), aR 22 c]) (σ' := τ) rfl trivial ?_
          refine aw_fS lX7_57 (as := [aI (τ 22 c (aOf (σ 22 c (8 + f)) 3)), aI 2]) (rest := [aR 22 c]) (by decide) rfl (Nat.le_of_ble_eq_true rfl) rfl dX7_fallsIn_75 (cM_of l (τ 22 c (aOf (σ 22 c (8 + f)) 3)) 2 τ) ?_
          refine aw_b kX7_ok bX7_fallsIn_78_ok (Cs := [c < 4, 0 ≤ aOf (τ 22 c (aOf (σ 22 c (8 + f)) 3)) 2 ∧ aOf (τ 22 c (aOf (σ 22 c (8 + f)) 3)) 2 < 45]) (pc' := 81) (L' := [some (aR 22 c), some (aI f), some (aI (σ 22 c (8 + f))), some (aI (τ 22 c (aOf (σ 22 c (8 + f)) 3)))]) (st' := [aI (τ 22 c (aOf (σ 22 c (8 + f)) 3)), aR 22 c, aI (τ 22 c (aOf (τ 22 c (aOf (σ 22 c (8 + f)) 3)) 2))]) (σ' := τ) rfl (show (c < 4) ∧ (0 ≤ aOf (τ 22 c (aOf (σ 22 c (8 + f)) 3)) 2 ∧ aOf (τ 22 c (aOf (σ 22 c (8 + f)) 3)) 2 < 45) from ⟨by omega, by omega⟩) ?_
          refine aw_fS lX7_85 (as := [aR 22 c, aI (τ 22 c (aOf (σ 22 c (8 + f)) 3))]) (rest := [aI (τ 22 c (aOf (τ 22 c (aOf (σ 22 c (8 + f)) 3)) 2))]) (by decide) rfl (Nat.le_of_ble_eq_true rfl) rfl dX7_fallsIn_81 (cM_bears l c (by omega) (τ 22 c (aOf (σ 22 c (8 + f)) 3)) τ hwτ (by omega) (by omega)) ?_
          refine aw_cge dX7_fallsIn_84 (tgt := 94) (by decide) ⟨by omega, by omega⟩ ⟨by omega, by omega⟩ (fun wh5 => ?_) (fun wh5 => ?_)
          · exact aw_vret dX7_fallsIn_94 rfl ⟨rfl, by rw [hτ]; unfold faR; rw [if_neg (by omega), if_neg (by omega)]⟩
          · refine aw_b kX7_ok bX7_fallsIn_87_ok (Cs := [c < 4, 0 ≤ 8 + f ∧ 8 + f < 45]) (pc' := 94) (L' := [some (aR 22 c), some (aI f), some (aI (σ 22 c (8 + f))), some (aI (τ 22 c (aOf (σ 22 c (8 + f)) 3)))]) (st' := []) (σ' := aUp τ 22 c (8 + f) (τ 22 c (aOf (σ 22 c (8 + f)) 3))) rfl (show (c < 4) ∧ (0 ≤ 8 + f ∧ 8 + f < 45) from ⟨by omega, by omega⟩) ?_
            exact aw_vret dX7_fallsIn_94 rfl ⟨rfl, by rw [aUp_row, hτr, hτ, aRow_two]; unfold faR; rw [if_neg (by omega), if_pos (by omega), f1R_at _ _ (by omega) (by omega)]⟩
    · exact aw_vret dX7_fallsIn_26 rfl ⟨rfl, by unfold faR; rw [if_pos (by omega), aRow_id]⟩
def cpR (σ : aS) (a b : Nat) (n : Nat) : aS := aRow σ b (fun i => if 0 ≤ i ∧ i < (n : Int) then σ 22 a i else σ 22 b i)
theorem cpR_0 (σ : aS) (a b : Nat) : cpR σ a b 0 = σ := by
  unfold cpR
  have e : (fun i => if 0 ≤ i ∧ i < ((0 : Nat) : Int) then σ 22 a i else σ 22 b i) = σ 22 b := by
    funext i; rw [if_neg (by omega)]
  rw [e, aRow_id]
theorem cpR_src (σ : aS) (a b : Nat) (n : Nat) (i : Int) : cpR σ a b n 22 a i = σ 22 a i := by
  unfold cpR
  by_cases h : a = b
  · subst h; rw [aRow_self]; split <;> rfl
  · rw [aRow_ne h]
theorem cpR_step (σ : aS) (a b : Nat) (n : Nat) : aUp (cpR σ a b n) 22 b n (σ 22 a n) = cpR σ a b (n + 1) := by
  unfold cpR
  rw [aUp_row2]
  congr 1
  funext i
  unfold rUp
  by_cases h : i = n
  · subst h; rw [if_pos rfl, if_pos (by omega)]
  · rw [if_neg h]
    show (if 0 ≤ i ∧ i < (n : Int) then σ 22 a i else σ 22 b i) = _
    by_cases h2 : 0 ≤ i ∧ i < (n : Int)
    · rw [if_pos h2, if_pos (by omega)]
    · rw [if_neg h2, if_neg (by omega)]
theorem cpR_end {σ : aS} {a b : Nat} (h : ∀ i : Int, i < 0 ∨ 45 ≤ i → σ 22 a i = σ 22 b i) : cpR σ a b 45 = aRow σ b (σ 22 a) := by
  unfold cpR
  congr 1
  funext i
  split
  · rfl
  · rename_i h2; exact (h i (by omega)).symm
set_option maxRecDepth 10000 in
theorem cM_copies (l : Launch) (a b : Nat) (ha : a < 4) (hb : b < 4) (σ : aS) (hz : ∀ i : Int, i < 0 ∨ 45 ≤ i → σ 22 a i = σ 22 b i) : AM l 0 mX7_copies [aR 22 a, aR 22 b] σ (aF none (aRow σ b (σ 22 a))) := by
  refine am_of (by decide) (Nat.le_of_ble_eq_true rfl) (L := [some (aR 22 a), some (aR 22 b), none]) rfl ?_
  refine aw_b kX7_ok bX7_copies_0_ok (Cs := []) (pc' := 2) (L' := [some (aR 22 a), some (aR 22 b), some (aI 0)]) (st' := []) (σ' := σ) rfl trivial ?_
  rw [← cpR_end hz]
  have e0 := cpR_0 σ a b
  refine aw_eq rfl rfl e0.symm ?_
  refine aloop (P := fun n : Nat => AW l 0 mX7_copies _ 2 [some (aR 22 a), some (aR 22 b), some (aI (n : Int))] [] (cpR σ a b n)) (45) (fun n hn ihn => ?_)
  refine aw_b kX7_ok bX7_copies_2_ok (Cs := []) (pc' := 5) (L' := [some (aR 22 a), some (aR 22 b), some (aI (n : Int))]) (st' := [aI 45, aI (n : Int)]) (σ' := cpR σ a b n) rfl trivial ?_
  refine aw_cge dX7_copies_5 (tgt := 20) (by decide) ⟨by omega, by omega⟩ ⟨by omega, by omega⟩ (fun wh1 => ?_) (fun wh1 => ?_)
  · have e5 : n = 45 := by omega
    exact aw_vret dX7_copies_20 rfl ⟨rfl, by subst e5; rfl⟩
  · refine aw_b kX7_ok bX7_copies_8_ok (Cs := [a < 4, 0 ≤ (n : Int) ∧ (n : Int) < 45, b < 4, 0 ≤ (n : Int) ∧ (n : Int) < 45]) (pc' := 2) (L' := [some (aR 22 a), some (aR 22 b), some (aI ((n : Int) + 1))]) (st' := []) (σ' := aUp (cpR σ a b n) 22 b (n : Int) ((cpR σ a b n) 22 a (n : Int))) rfl (show (a < 4) ∧ (0 ≤ (n : Int) ∧ (n : Int) < 45) ∧ (b < 4) ∧ (0 ≤ (n : Int) ∧ (n : Int) < 45) from ⟨by omega, by omega, by omega, by omega⟩) ?_
    exact aw_eq rfl rfl (by rw [cpR_src]; exact cpR_step σ a b n) (ihn (by omega))
theorem seN_row (r : aRw) (n : Nat) : seN r (n + 1) = seR (seN r n) n := rfl
theorem faN_row (r : aRw) (n : Nat) : faN r (n + 1) = faR (faN r n) n := rfl
set_option maxRecDepth 10000 in
theorem cM_day (l : Launch) (c : Nat) (hc : c < 4) (σ : aS) (hw : WF (σ 22 c)) (hd : σ 22 c 1 ≤ 999999) : AM l 3 mX7_day [aR 22 c] σ (aF none (aRow σ c (dayR (σ 22 c)))) := by
  have bn := hw.1
  have b1 := hw.2.1
  refine am_of (by decide) (Nat.le_of_ble_eq_true rfl) (L := [some (aR 22 c), none]) rfl ?_
  refine aw_b kX7_ok bX7_day_0_ok (Cs := [c < 4, 0 ≤ 1 ∧ 1 < 45, c < 4, 0 ≤ 1 ∧ 1 < 45]) (pc' := 9) (L' := [some (aR 22 c), some (aI 0)]) (st' := []) (σ' := aUp σ 22 c 1 ((σ 22 c 1) + 1)) rfl (show (c < 4) ∧ (0 ≤ 1 ∧ 1 < 45) ∧ (c < 4) ∧ (0 ≤ 1 ∧ 1 < 45) from ⟨by omega, by omega, by omega, by omega⟩) ?_
  refine aw_eq rfl rfl (σ' := aRow σ c (seN (σ 22 c) 0)) (by rw [aUp_row]; rfl) ?_
  refine aloop (P := fun n : Nat => AW l 3 mX7_day _ 9 [some (aR 22 c), some (aI (n : Int))] [] (aRow σ c (seN (σ 22 c) n))) ((σ 22 c 0).toNat) (fun n hn ihn => ?_)
  have e0 := seN_0 (σ 22 c) n
  have hwn := seN_wf hw n (by omega)
  have en : aRow σ c (seN (σ 22 c) n) 22 c 0 = σ 22 c 0 := by rw [aRow_self]; exact e0.1
  refine aw_b kX7_ok bX7_day_9_ok (Cs := [c < 4, 0 ≤ 0 ∧ 0 < 45]) (pc' := 13) (L' := [some (aR 22 c), some (aI (n : Int))]) (st' := [aI ((aRow σ c (seN (σ 22 c) n)) 22 c 0), aI (n : Int)]) (σ' := aRow σ c (seN (σ 22 c) n)) rfl (show (c < 4) ∧ (0 ≤ 0 ∧ 0 < 45) from ⟨by omega, by omega⟩) ?_
  refine aw_cge dX7_day_13 (tgt := 27) (by decide) ⟨by omega, by omega⟩ ⟨by omega, by omega⟩ (fun wh1 => ?_) (fun wh1 => ?_)
  · refine aw_b kX7_ok bX7_day_27_ok (Cs := []) (pc' := 29) (L' := [some (aR 22 c), some (aI 0)]) (st' := []) (σ' := aRow σ c (seN (σ 22 c) n)) rfl trivial ?_
    have e5 : n = (σ 22 c 0).toNat := by omega
    subst e5
    refine aw_eq rfl rfl (σ' := aRow σ c (faN (seN (σ 22 c) (σ 22 c 0).toNat) 0)) rfl ?_
    refine aloop (P := fun k : Nat => AW l 3 mX7_day _ 29 [some (aR 22 c), some (aI (k : Int))] [] (aRow σ c (faN (seN (σ 22 c) (σ 22 c 0).toNat) k))) (5) (fun k hk ihk => ?_)
    have hwk := faN_wf hwn k hk
    refine aw_b kX7_ok bX7_day_29_ok (Cs := []) (pc' := 31) (L' := [some (aR 22 c), some (aI (k : Int))]) (st' := [aI 5, aI (k : Int)]) (σ' := aRow σ c (faN (seN (σ 22 c) (σ 22 c 0).toNat) k)) rfl trivial ?_
    refine aw_cge dX7_day_31 (tgt := 45) (by decide) ⟨by omega, by omega⟩ ⟨by omega, by omega⟩ (fun wh2 => ?_) (fun wh2 => ?_)
    · exact aw_vret dX7_day_45 rfl ⟨rfl, by rw [show k = 5 by omega]; rfl⟩
    · refine aw_b kX7_ok bX7_day_34_ok (Cs := []) (pc' := 36) (L' := [some (aR 22 c), some (aI (k : Int))]) (st' := [aI (k : Int), aR 22 c]) (σ' := aRow σ c (faN (seN (σ 22 c) (σ 22 c 0).toNat) k)) rfl trivial ?_
      refine aw_fS lX7_92 (as := [aR 22 c, aI (k : Int)]) (rest := []) (by decide) rfl (Nat.le_of_ble_eq_true rfl) rfl dX7_day_36 (cM_fallsIn l c (by omega) (k : Int) (aRow σ c (faN (seN (σ 22 c) (σ 22 c 0).toNat) k)) (by rw [aRow_self]; exact hwk) (by omega) (by omega)) ?_
      refine aw_b kX7_ok bX7_day_39_ok (Cs := []) (pc' := 29) (L' := [some (aR 22 c), some (aI ((k : Int) + 1))]) (st' := []) (σ' := aRow (aRow σ c (faN (seN (σ 22 c) (σ 22 c 0).toNat) k)) c (faR ((aRow σ c (faN (seN (σ 22 c) (σ 22 c 0).toNat) k)) 22 c) k)) rfl trivial ?_
      exact aw_eq rfl rfl (by rw [aRow_two, aRow_self]; rfl) (ihk (by omega))
  · refine aw_b kX7_ok bX7_day_16_ok (Cs := []) (pc' := 18) (L' := [some (aR 22 c), some (aI (n : Int))]) (st' := [aI (n : Int), aR 22 c]) (σ' := aRow σ c (seN (σ 22 c) n)) rfl trivial ?_
    refine aw_fS lX7_88 (as := [aR 22 c, aI (n : Int)]) (rest := []) (by decide) rfl (Nat.le_of_ble_eq_true rfl) rfl dX7_day_18 (cM_isSeen l c (by omega) (n : Int) (aRow σ c (seN (σ 22 c) n)) (by rw [aRow_self]; exact hwn) (by omega) (by rw [aRow_self, e0.1]; omega) (by rw [aRow_self, e0.2.1]; omega)) ?_
    refine aw_b kX7_ok bX7_day_21_ok (Cs := []) (pc' := 9) (L' := [some (aR 22 c), some (aI ((n : Int) + 1))]) (st' := []) (σ' := aRow (aRow σ c (seN (σ 22 c) n)) c (seR ((aRow σ c (seN (σ 22 c) n)) 22 c) n)) rfl trivial ?_
    exact aw_eq rfl rfl (by rw [aRow_two, aRow_self]; rfl) (ihn (by omega))
end
section
/-! ===== the class's cabinet, and the row that it stands for ===== -/
def nb (x : Int) : Int := if x < 0 then -1 else x
def Rep (σ : aS) (c : Nat) (r : aRw) : Prop :=
  (σ 1 c 0 = r 0 ∧ σ 1 c 1 = r 1 ∧ σ 1 c 2 = r 2) ∧
  (∀ p : Int, 0 ≤ p → p < r 0 → σ 2 c p = r (aOf p 0) ∧ σ 3 c p = r (aOf p 1) ∧ σ 4 c p = r (aOf p 2) ∧ σ 5 c p = r (aOf p 3) ∧ σ 6 c p = nb (off r p)) ∧
  (∀ f : Int, 0 ≤ f → f < 5 → σ 7 c f = r (3 + f) ∧ σ 8 c f = nb (r (8 + f)))
/-- nothing else has changed than places of a kind -/
def aFr (S : Nat → Nat → Prop) (σ σ' : aS) : Prop := ∀ (t c : Nat) (i : Int), ¬ S t c → σ' t c i = σ t c i
def Cb (c : Nat) : Nat → Nat → Prop := fun t c' => 1 ≤ t ∧ t ≤ 8 ∧ c' = c
theorem aFr_rf {S : Nat → Nat → Prop} {σ : aS} : aFr S σ σ := fun _ _ _ _ => rfl
theorem aFr_tr {S : Nat → Nat → Prop} {σ σ' σ'' : aS} (h : aFr S σ σ') (h' : aFr S σ' σ'') : aFr S σ σ'' := fun t c i hn => (h' t c i hn).trans (h t c i hn)
theorem aFr_up {S : Nat → Nat → Prop} {σ : aS} {t c : Nat} {i x : Int} (h : S t c) : aFr S σ (aUp σ t c i x) := fun t' c' i' hn => by
  unfold aUp
  rw [if_neg (fun q => hn (by rw [q.1, q.2.1]; exact h))]
theorem aFr_mono {S S' : Nat → Nat → Prop} {σ σ' : aS} (h : aFr S σ σ') (hs : ∀ t c, S t c → S' t c) : aFr S' σ σ' := fun t c i hn => h t c i (fun q => hn (hs t c q))
theorem aUp_same {σ : aS} {t c : Nat} {i x : Int} : aUp σ t c i x t c i = x := by unfold aUp; rw [if_pos ⟨rfl, rfl, rfl⟩]
theorem aUp_idx {σ : aS} {t c : Nat} {i x j : Int} (h : j ≠ i) : aUp σ t c i x t c j = σ t c j := by unfold aUp; rw [if_neg (fun q => h q.2.2)]
theorem aUp_tag {σ : aS} {t c t' c' : Nat} {i x j : Int} (h : t' ≠ t) : aUp σ t c i x t' c' j = σ t' c' j := by unfold aUp; rw [if_neg (fun q => h q.1)]
theorem Rep.n {σ : aS} {c : Nat} {r : aRw} (h : Rep σ c r) : σ 1 c 0 = r 0 := h.1.1
theorem Rep.pe {σ : aS} {c : Nat} {r : aRw} (h : Rep σ c r) {p : Int} (h0 : 0 ≤ p) (h1 : p < r 0) : σ 2 c p = r (aOf p 0) ∧ σ 3 c p = r (aOf p 1) ∧ σ 4 c p = r (aOf p 2) ∧ σ 5 c p = r (aOf p 3) ∧ σ 6 c p = nb (off r p) := h.2.1 p h0 h1
theorem Rep.of {σ : aS} {c : Nat} {r : aRw} (h : Rep σ c r) {f : Int} (h0 : 0 ≤ f) (h1 : f < 5) : σ 7 c f = r (3 + f) ∧ σ 8 c f = nb (r (8 + f)) := h.2.2 f h0 h1
/-- another store that is the same there -/
theorem Rep.fr {σ σ' : aS} {c : Nat} {r : aRw} (h : Rep σ c r) (hs : ∀ (t : Nat) (i : Int), 1 ≤ t → t ≤ 8 → ¬ (t = 1 ∧ i = 3) → σ' t c i = σ t c i) : Rep σ' c r := by
  obtain ⟨⟨a, b, d⟩, e, f⟩ := h
  refine ⟨⟨by rw [hs 1 0 (by decide) (by decide) (by decide)]; exact a, by rw [hs 1 1 (by decide) (by decide) (by decide)]; exact b, by rw [hs 1 2 (by decide) (by decide) (by decide)]; exact d⟩, fun p h0 h1 => ?_, fun g h0 h1 => ?_⟩
  · rw [hs 2 p (by decide) (by decide) (by omega), hs 3 p (by decide) (by decide) (by omega), hs 4 p (by decide) (by decide) (by omega), hs 5 p (by decide) (by decide) (by omega), hs 6 p (by decide) (by decide) (by omega)]
    exact e p h0 h1
  · rw [hs 7 g (by decide) (by decide) (by omega), hs 8 g (by decide) (by decide) (by omega)]
    exact f g h0 h1
theorem nb_cases (x : Int) : (x < 0 ∧ nb x = -1) ∨ (0 ≤ x ∧ nb x = x) := by
  unfold nb
  split <;> omega
theorem off_empty {r : aRw} (h : WF r) {f q : Int} (f0 : 0 ≤ f) (f1 : f < 5) (hq : 0 ≤ q) : off (rUp r (8 + f) (-4)) q = if q = r (8 + f) then -4 else off r q := by
  have h' := WF_empty h f0 f1
  split
  · rename_i e
    refine off_none (fun g g0 g1 hg => ?_)
    by_cases hgf : g = f
    · subst hgf; rw [rUp_eq] at hg; omega
    · rw [rUp_ne (by omega)] at hg
      exact hgf (h.2.2.2.2.2.1 g f g0 g1 f0 f1 (by omega) (hg.trans e))
  · rename_i e
    rcases off_cases r q with k | ⟨k1, k2, k3⟩
    · rw [k]
      refine off_none (fun g g0 g1 hg => ?_)
      by_cases hgf : g = f
      · subst hgf; rw [rUp_eq] at hg; omega
      · rw [rUp_ne (by omega)] at hg
        exact off_neg (by rw [k]; decide) g g0 g1 hg
    · refine off_of h' k1 k2 hq ?_
      rw [rUp_ne (fun z => e (by rw [show f = off r q by omega]; exact k3.symm))]
      exact k3
theorem off_hold {r : aRw} (h : WF r) {f p q : Int} (f0 : 0 ≤ f) (f1 : f < 5) (hp0 : 0 ≤ p) (hp1 : p < r 0) (he : r (8 + f) < 0) (hn : off r p < 0) (hq : 0 ≤ q) : off (rUp r (8 + f) p) q = if q = p then f else off r q := by
  have h' := WF_hold h f0 f1 hp0 hp1 (fun g g0 g1 _ => off_neg hn g g0 g1)
  split
  · rename_i e
    exact off_of h' f0 f1 hq (by rw [rUp_eq]; exact e.symm)
  · rename_i e
    rcases off_cases r q with k | ⟨k1, k2, k3⟩
    · rw [k]
      refine off_none (fun g g0 g1 hg => ?_)
      by_cases hgf : g = f
      · subst hgf; rw [rUp_eq] at hg; exact e hg.symm
      · rw [rUp_ne (by omega)] at hg
        exact off_neg (by rw [k]; decide) g g0 g1 hg
    · refine off_of h' k1 k2 hq ?_
      rw [rUp_ne (fun z => by rw [show off r q = f by omega] at k3; omega)]
      exact k3
/-- a change of the row that no office and no person sees but this one -/
theorem Rep_empty {σ σ' : aS} {c : Nat} {r : aRw} (h : Rep σ c r) (hw : WF r) {f : Int} (f0 : 0 ≤ f) (f1 : f < 5)
    (h8 : σ' 8 c f = -1) (h6 : ∀ p : Int, 0 ≤ p → p < r 0 → σ' 6 c p = if p = r (8 + f) then -1 else σ 6 c p)
    (ho : ∀ g : Int, g ≠ f → σ' 8 c g = σ 8 c g) (hs : ∀ (t : Nat) (i : Int), 1 ≤ t → t ≤ 8 → t ≠ 6 → t ≠ 8 → ¬ (t = 1 ∧ i = 3) → σ' t c i = σ t c i) : Rep σ' c (rUp r (8 + f) (-4)) := by
  obtain ⟨⟨a, b, d⟩, e, k⟩ := h
  refine ⟨⟨by rw [hs 1 0 (by decide) (by decide) (by decide) (by decide) (by decide), rUp_ne (by omega)]; exact a, by rw [hs 1 1 (by decide) (by decide) (by decide) (by decide) (by decide), rUp_ne (by omega)]; exact b, by rw [hs 1 2 (by decide) (by decide) (by decide) (by decide) (by decide), rUp_ne (by omega)]; exact d⟩, fun p h0 h1 => ?_, fun g h0 h1 => ?_⟩
  · rw [rUp_ne (by omega)] at h1
    have q := e p h0 h1
    have ba := aOf_rng (p := p) (w := 0) h0 (by have := hw.1; omega) (by decide) (by decide)
    have bb := aOf_rng (p := p) (w := 1) h0 (by have := hw.1; omega) (by decide) (by decide)
    have bc := aOf_rng (p := p) (w := 2) h0 (by have := hw.1; omega) (by decide) (by decide)
    have bd := aOf_rng (p := p) (w := 3) h0 (by have := hw.1; omega) (by decide) (by decide)
    rw [hs 2 p (by decide) (by decide) (by decide) (by decide) (by omega), hs 3 p (by decide) (by decide) (by decide) (by decide) (by omega), hs 4 p (by decide) (by decide) (by decide) (by decide) (by omega), hs 5 p (by decide) (by decide) (by decide) (by decide) (by omega), rUp_ne (by omega), rUp_ne (by omega), rUp_ne (by omega), rUp_ne (by omega), h6 p h0 h1, off_empty hw f0 f1 h0]
    refine ⟨q.1, q.2.1, q.2.2.1, q.2.2.2.1, ?_⟩
    split
    · rfl
    · exact q.2.2.2.2
  · rw [hs 7 g (by decide) (by decide) (by decide) (by decide) (by omega), rUp_ne (by omega)]
    refine ⟨(k g h0 h1).1, ?_⟩
    by_cases hg : g = f
    · subst hg; rw [h8, rUp_eq]; rfl
    · rw [ho g hg, rUp_ne (by omega)]; exact (k g h0 h1).2
theorem Rep_hold {σ σ' : aS} {c : Nat} {r : aRw} (h : Rep σ c r) (hw : WF r) {f p : Int} (f0 : 0 ≤ f) (f1 : f < 5) (p0 : 0 ≤ p) (p1 : p < r 0) (he : r (8 + f) < 0) (hn : off r p < 0)
    (h8 : σ' 8 c f = p) (h6 : ∀ q : Int, 0 ≤ q → q < r 0 → σ' 6 c q = if q = p then f else σ 6 c q)
    (ho : ∀ g : Int, g ≠ f → σ' 8 c g = σ 8 c g) (hs : ∀ (t : Nat) (i : Int), 1 ≤ t → t ≤ 8 → t ≠ 6 → t ≠ 8 → ¬ (t = 1 ∧ i = 3) → σ' t c i = σ t c i) : Rep σ' c (rUp r (8 + f) p) := by
  obtain ⟨⟨a, b, d⟩, e, k⟩ := h
  refine ⟨⟨by rw [hs 1 0 (by decide) (by decide) (by decide) (by decide) (by decide), rUp_ne (by omega)]; exact a, by rw [hs 1 1 (by decide) (by decide) (by decide) (by decide) (by decide), rUp_ne (by omega)]; exact b, by rw [hs 1 2 (by decide) (by decide) (by decide) (by decide) (by decide), rUp_ne (by omega)]; exact d⟩, fun q h0 h1 => ?_, fun g h0 h1 => ?_⟩
  · rw [rUp_ne (by omega)] at h1
    have z := e q h0 h1
    have ba := aOf_rng (p := q) (w := 0) h0 (by have := hw.1; omega) (by decide) (by decide)
    have bb := aOf_rng (p := q) (w := 1) h0 (by have := hw.1; omega) (by decide) (by decide)
    have bc := aOf_rng (p := q) (w := 2) h0 (by have := hw.1; omega) (by decide) (by decide)
    have bd := aOf_rng (p := q) (w := 3) h0 (by have := hw.1; omega) (by decide) (by decide)
    rw [hs 2 q (by decide) (by decide) (by decide) (by decide) (by omega), hs 3 q (by decide) (by decide) (by decide) (by decide) (by omega), hs 4 q (by decide) (by decide) (by decide) (by decide) (by omega), hs 5 q (by decide) (by decide) (by decide) (by decide) (by omega), rUp_ne (by omega), rUp_ne (by omega), rUp_ne (by omega), rUp_ne (by omega), h6 q h0 h1, off_hold hw f0 f1 p0 p1 he hn h0]
    refine ⟨z.1, z.2.1, z.2.2.1, z.2.2.2.1, ?_⟩
    split
    · unfold nb; rw [if_neg (by omega)]
    · exact z.2.2.2.2
  · rw [hs 7 g (by decide) (by decide) (by decide) (by decide) (by omega), rUp_ne (by omega)]
    refine ⟨(k g h0 h1).1, ?_⟩
    by_cases hg : g = f
    · subst hg; rw [h8, rUp_eq]; unfold nb; rw [if_neg (by omega)]
    · rw [ho g hg, rUp_ne (by omega)]; exact (k g h0 h1).2
end
section
/-! ===== the class: small methods, the cabinet up to a day ===== -/
def bcN (x : Int) : Nat → Int
  | 0 => 0
  | n + 1 => bcN x n + aAnd (x / 2 ^ (Int.toNat (n : Int))) 1
set_option maxRecDepth 10000 in
theorem cJ_bitCount (l : Launch) (n : Nat) (hn : n < 256) (σ : aS) : AM l 0 mJ6_bitCount_0f7a4 [aI (n : Int)] σ (aF (some (aI (bcN (n : Int) 8))) σ) := by
  refine am_of (by decide) (Nat.le_of_ble_eq_true rfl) (L := [some (aI (n : Int))]) rfl ?_
  refine aw_b kJ6_ok bJ6_bitCount_0f7a4_0_ok (Cs := [0 ≤ 1 ∧ 1 < 32, 0 ≤ (n : Int) ∧ (n : Int) < 2147483648, 0 ≤ 2 ∧ 2 < 32, 0 ≤ (n : Int) - (aAnd ((n : Int) / 2 ^ (Int.toNat 1)) 1431655765) ∧ (n : Int) - (aAnd ((n : Int) / 2 ^ (Int.toNat 1)) 1431655765) < 2147483648, 0 ≤ 4 ∧ 4 < 32, 0 ≤ (aAnd ((n : Int) - (aAnd ((n : Int) / 2 ^ (Int.toNat 1)) 1431655765)) 858993459) + (aAnd (((n : Int) - (aAnd ((n : Int) / 2 ^ (Int.toNat 1)) 1431655765)) / 2 ^ (Int.toNat 2)) 858993459) ∧ (aAnd ((n : Int) - (aAnd ((n : Int) / 2 ^ (Int.toNat 1)) 1431655765)) 858993459) + (aAnd (((n : Int) - (aAnd ((n : Int) / 2 ^ (Int.toNat 1)) 1431655765)) / 2 ^ (Int.toNat 2)) 858993459) < 2147483648, 0 ≤ 8 ∧ 8 < 32, 0 ≤ aAnd (((aAnd ((n : Int) - (aAnd ((n : Int) / 2 ^ (Int.toNat 1)) 1431655765)) 858993459) + (aAnd (((n : Int) - (aAnd ((n : Int) / 2 ^ (Int.toNat 1)) 1431655765)) / 2 ^ (Int.toNat 2)) 858993459)) + (((aAnd ((n : Int) - (aAnd ((n : Int) / 2 ^ (Int.toNat 1)) 1431655765)) 858993459) + (aAnd (((n : Int) - (aAnd ((n : Int) / 2 ^ (Int.toNat 1)) 1431655765)) / 2 ^ (Int.toNat 2)) 858993459)) / 2 ^ (Int.toNat 4))) 252645135 ∧ aAnd (((aAnd ((n : Int) - (aAnd ((n : Int) / 2 ^ (Int.toNat 1)) 1431655765)) 858993459) + (aAnd (((n : Int) - (aAnd ((n : Int) / 2 ^ (Int.toNat 1)) 1431655765)) / 2 ^ (Int.toNat 2)) 858993459)) + (((aAnd ((n : Int) - (aAnd ((n : Int) / 2 ^ (Int.toNat 1)) 1431655765)) 858993459) + (aAnd (((n : Int) - (aAnd ((n : Int) / 2 ^ (Int.toNat 1)) 1431655765)) / 2 ^ (Int.toNat 2)) 858993459)) / 2 ^ (Int.toNat 4))) 252645135 < 2147483648, 0 ≤ 16 ∧ 16 < 32, 0 ≤ (aAnd (((aAnd ((n : Int) - (aAnd ((n : Int) / 2 ^ (Int.toNat 1)) 1431655765)) 858993459) + (aAnd (((n : Int) - (aAnd ((n : Int) / 2 ^ (Int.toNat 1)) 1431655765)) / 2 ^ (Int.toNat 2)) 858993459)) + (((aAnd ((n : Int) - (aAnd ((n : Int) / 2 ^ (Int.toNat 1)) 1431655765)) 858993459) + (aAnd (((n : Int) - (aAnd ((n : Int) / 2 ^ (Int.toNat 1)) 1431655765)) / 2 ^ (Int.toNat 2)) 858993459)) / 2 ^ (Int.toNat 4))) 252645135) + ((aAnd (((aAnd ((n : Int) - (aAnd ((n : Int) / 2 ^ (Int.toNat 1)) 1431655765)) 858993459) + (aAnd (((n : Int) - (aAnd ((n : Int) / 2 ^ (Int.toNat 1)) 1431655765)) / 2 ^ (Int.toNat 2)) 858993459)) + (((aAnd ((n : Int) - (aAnd ((n : Int) / 2 ^ (Int.toNat 1)) 1431655765)) 858993459) + (aAnd (((n : Int) - (aAnd ((n : Int) / 2 ^ (Int.toNat 1)) 1431655765)) / 2 ^ (Int.toNat 2)) 858993459)) / 2 ^ (Int.toNat 4))) 252645135) / 2 ^ (Int.toNat 8)) ∧ (aAnd (((aAnd ((n : Int) - (aAnd ((n : Int) / 2 ^ (Int.toNat 1)) 1431655765)) 858993459) + (aAnd (((n : Int) - (aAnd ((n : Int) / 2 ^ (Int.toNat 1)) 1431655765)) / 2 ^ (Int.toNat 2)) 858993459)) + (((aAnd ((n : Int) - (aAnd ((n : Int) / 2 ^ (Int.toNat 1)) 1431655765)) 858993459) + (aAnd (((n : Int) - (aAnd ((n : Int) / 2 ^ (Int.toNat 1)) 1431655765)) / 2 ^ (Int.toNat 2)) 858993459)) / 2 ^ (Int.toNat 4))) 252645135) + ((aAnd (((aAnd ((n : Int) - (aAnd ((n : Int) / 2 ^ (Int.toNat 1)) 1431655765)) 858993459) + (aAnd (((n : Int) - (aAnd ((n : Int) / 2 ^ (Int.toNat 1)) 1431655765)) / 2 ^ (Int.toNat 2)) 858993459)) + (((aAnd ((n : Int) - (aAnd ((n : Int) / 2 ^ (Int.toNat 1)) 1431655765)) 858993459) + (aAnd (((n : Int) - (aAnd ((n : Int) / 2 ^ (Int.toNat 1)) 1431655765)) / 2 ^ (Int.toNat 2)) 858993459)) / 2 ^ (Int.toNat 4))) 252645135) / 2 ^ (Int.toNat 8)) < 2147483648]) (pc' := 52) (L' := [some (aI (((aAnd (((aAnd ((n : Int) - (aAnd ((n : Int) / 2 ^ (Int.toNat 1)) 1431655765)) 858993459) + (aAnd (((n : Int) - (aAnd ((n : Int) / 2 ^ (Int.toNat 1)) 1431655765)) / 2 ^ (Int.toNat 2)) 858993459)) + (((aAnd ((n : Int) - (aAnd ((n : Int) / 2 ^ (Int.toNat 1)) 1431655765)) 858993459) + (aAnd (((n : Int) - (aAnd ((n : Int) / 2 ^ (Int.toNat 1)) 1431655765)) / 2 ^ (Int.toNat 2)) 858993459)) / 2 ^ (Int.toNat 4))) 252645135) + ((aAnd (((aAnd ((n : Int) - (aAnd ((n : Int) / 2 ^ (Int.toNat 1)) 1431655765)) 858993459) + (aAnd (((n : Int) - (aAnd ((n : Int) / 2 ^ (Int.toNat 1)) 1431655765)) / 2 ^ (Int.toNat 2)) 858993459)) + (((aAnd ((n : Int) - (aAnd ((n : Int) / 2 ^ (Int.toNat 1)) 1431655765)) 858993459) + (aAnd (((n : Int) - (aAnd ((n : Int) / 2 ^ (Int.toNat 1)) 1431655765)) / 2 ^ (Int.toNat 2)) 858993459)) / 2 ^ (Int.toNat 4))) 252645135) / 2 ^ (Int.toNat 8))) + (((aAnd (((aAnd ((n : Int) - (aAnd ((n : Int) / 2 ^ (Int.toNat 1)) 1431655765)) 858993459) + (aAnd (((n : Int) - (aAnd ((n : Int) / 2 ^ (Int.toNat 1)) 1431655765)) / 2 ^ (Int.toNat 2)) 858993459)) + (((aAnd ((n : Int) - (aAnd ((n : Int) / 2 ^ (Int.toNat 1)) 1431655765)) 858993459) + (aAnd (((n : Int) - (aAnd ((n : Int) / 2 ^ (Int.toNat 1)) 1431655765)) / 2 ^ (Int.toNat 2)) 858993459)) / 2 ^ (Int.toNat 4))) 252645135) + ((aAnd (((aAnd ((n : Int) - (aAnd ((n : Int) / 2 ^ (Int.toNat 1)) 1431655765)) 858993459) + (aAnd (((n : Int) - (aAnd ((n : Int) / 2 ^ (Int.toNat 1)) 1431655765)) / 2 ^ (Int.toNat 2)) 858993459)) + (((aAnd ((n : Int) - (aAnd ((n : Int) / 2 ^ (Int.toNat 1)) 1431655765)) 858993459) + (aAnd (((n : Int) - (aAnd ((n : Int) / 2 ^ (Int.toNat 1)) 1431655765)) / 2 ^ (Int.toNat 2)) 858993459)) / 2 ^ (Int.toNat 4))) 252645135) / 2 ^ (Int.toNat 8))) / 2 ^ (Int.toNat 16))))]) (st' := [aI (aAnd (((aAnd (((aAnd ((n : Int) - (aAnd ((n : Int) / 2 ^ (Int.toNat 1)) 1431655765)) 858993459) + (aAnd (((n : Int) - (aAnd ((n : Int) / 2 ^ (Int.toNat 1)) 1431655765)) / 2 ^ (Int.toNat 2)) 858993459)) + (((aAnd ((n : Int) - (aAnd ((n : Int) / 2 ^ (Int.toNat 1)) 1431655765)) 858993459) + (aAnd (((n : Int) - (aAnd ((n : Int) / 2 ^ (Int.toNat 1)) 1431655765)) / 2 ^ (Int.toNat 2)) 858993459)) / 2 ^ (Int.toNat 4))) 252645135) + ((aAnd (((aAnd ((n : Int) - (aAnd ((n : Int) / 2 ^ (Int.toNat 1)) 1431655765)) 858993459) + (aAnd (((n : Int) - (aAnd ((n : Int) / 2 ^ (Int.toNat 1)) 1431655765)) / 2 ^ (Int.toNat 2)) 858993459)) + (((aAnd ((n : Int) - (aAnd ((n : Int) / 2 ^ (Int.toNat 1)) 1431655765)) 858993459) + (aAnd (((n : Int) - (aAnd ((n : Int) / 2 ^ (Int.toNat 1)) 1431655765)) / 2 ^ (Int.toNat 2)) 858993459)) / 2 ^ (Int.toNat 4))) 252645135) / 2 ^ (Int.toNat 8))) + (((aAnd (((aAnd ((n : Int) - (aAnd ((n : Int) / 2 ^ (Int.toNat 1)) 1431655765)) 858993459) + (aAnd (((n : Int) - (aAnd ((n : Int) / 2 ^ (Int.toNat 1)) 1431655765)) / 2 ^ (Int.toNat 2)) 858993459)) + (((aAnd ((n : Int) - (aAnd ((n : Int) / 2 ^ (Int.toNat 1)) 1431655765)) 858993459) + (aAnd (((n : Int) - (aAnd ((n : Int) / 2 ^ (Int.toNat 1)) 1431655765)) / 2 ^ (Int.toNat 2)) 858993459)) / 2 ^ (Int.toNat 4))) 252645135) + ((aAnd (((aAnd ((n : Int) - (aAnd ((n : Int) / 2 ^ (Int.toNat 1)) 1431655765)) 858993459) + (aAnd (((n : Int) - (aAnd ((n : Int) / 2 ^ (Int.toNat 1)) 1431655765)) / 2 ^ (Int.toNat 2)) 858993459)) + (((aAnd ((n : Int) - (aAnd ((n : Int) / 2 ^ (Int.toNat 1)) 1431655765)) 858993459) + (aAnd (((n : Int) - (aAnd ((n : Int) / 2 ^ (Int.toNat 1)) 1431655765)) / 2 ^ (Int.toNat 2)) 858993459)) / 2 ^ (Int.toNat 4))) 252645135) / 2 ^ (Int.toNat 8))) / 2 ^ (Int.toNat 16))) 63)]) (σ' := σ) rfl (show (0 ≤ 1 ∧ 1 < 32) ∧ (0 ≤ (n : Int) ∧ (n : Int) < 2147483648) ∧ (0 ≤ 2 ∧ 2 < 32) ∧ (0 ≤ (n : Int) - (aAnd ((n : Int) / 2 ^ (Int.toNat 1)) 1431655765) ∧ (n : Int) - (aAnd ((n : Int) / 2 ^ (Int.toNat 1)) 1431655765) < 2147483648) ∧ (0 ≤ 4 ∧ 4 < 32) ∧ (0 ≤ (aAnd ((n : Int) - (aAnd ((n : Int) / 2 ^ (Int.toNat 1)) 1431655765)) 858993459) + (aAnd (((n : Int) - (aAnd ((n : Int) / 2 ^ (Int.toNat 1)) 1431655765)) / 2 ^ (Int.toNat 2)) 858993459) ∧ (aAnd ((n : Int) - (aAnd ((n : Int) / 2 ^ (Int.toNat 1)) 1431655765)) 858993459) + (aAnd (((n : Int) - (aAnd ((n : Int) / 2 ^ (Int.toNat 1)) 1431655765)) / 2 ^ (Int.toNat 2)) 858993459) < 2147483648) ∧ (0 ≤ 8 ∧ 8 < 32) ∧ (0 ≤ aAnd (((aAnd ((n : Int) - (aAnd ((n : Int) / 2 ^ (Int.toNat 1)) 1431655765)) 858993459) + (aAnd (((n : Int) - (aAnd ((n : Int) / 2 ^ (Int.toNat 1)) 1431655765)) / 2 ^ (Int.toNat 2)) 858993459)) + (((aAnd ((n : Int) - (aAnd ((n : Int) / 2 ^ (Int.toNat 1)) 1431655765)) 858993459) + (aAnd (((n : Int) - (aAnd ((n : Int) / 2 ^ (Int.toNat 1)) 1431655765)) / 2 ^ (Int.toNat 2)) 858993459)) / 2 ^ (Int.toNat 4))) 252645135 ∧ aAnd (((aAnd ((n : Int) - (aAnd ((n : Int) / 2 ^ (Int.toNat 1)) 1431655765)) 858993459) + (aAnd (((n : Int) - (aAnd ((n : Int) / 2 ^ (Int.toNat 1)) 1431655765)) / 2 ^ (Int.toNat 2)) 858993459)) + (((aAnd ((n : Int) - (aAnd ((n : Int) / 2 ^ (Int.toNat 1)) 1431655765)) 858993459) + (aAnd (((n : Int) - (aAnd ((n : Int) / 2 ^ (Int.toNat 1)) 1431655765)) / 2 ^ (Int.toNat 2)) 858993459)) / 2 ^ (Int.toNat 4))) 252645135 < 2147483648) ∧ (0 ≤ 16 ∧ 16 < 32) ∧ (0 ≤ (aAnd (((aAnd ((n : Int) - (aAnd ((n : Int) / 2 ^ (Int.toNat 1)) 1431655765)) 858993459) + (aAnd (((n : Int) - (aAnd ((n : Int) / 2 ^ (Int.toNat 1)) 1431655765)) / 2 ^ (Int.toNat 2)) 858993459)) + (((aAnd ((n : Int) - (aAnd ((n : Int) / 2 ^ (Int.toNat 1)) 1431655765)) 858993459) + (aAnd (((n : Int) - (aAnd ((n : Int) / 2 ^ (Int.toNat 1)) 1431655765)) / 2 ^ (Int.toNat 2)) 858993459)) / 2 ^ (Int.toNat 4))) 252645135) + ((aAnd (((aAnd ((n : Int) - (aAnd ((n : Int) / 2 ^ (Int.toNat 1)) 1431655765)) 858993459) + (aAnd (((n : Int) - (aAnd ((n : Int) / 2 ^ (Int.toNat 1)) 1431655765)) / 2 ^ (Int.toNat 2)) 858993459)) + (((aAnd ((n : Int) - (aAnd ((n : Int) / 2 ^ (Int.toNat 1)) 1431655765)) 858993459) + (aAnd (((n : Int) - (aAnd ((n : Int) / 2 ^ (Int.toNat 1)) 1431655765)) / 2 ^ (Int.toNat 2)) 858993459)) / 2 ^ (Int.toNat 4))) 252645135) / 2 ^ (Int.toNat 8)) ∧ (aAnd (((aAnd ((n : Int) - (aAnd ((n : Int) / 2 ^ (Int.toNat 1)) 1431655765)) 858993459) + (aAnd (((n : Int) - (aAnd ((n : Int) / 2 ^ (Int.toNat 1)) 1431655765)) / 2 ^ (Int.toNat 2)) 858993459)) + (((aAnd ((n : Int) - (aAnd ((n : Int) / 2 ^ (Int.toNat 1)) 1431655765)) 858993459) + (aAnd (((n : Int) - (aAnd ((n : Int) / 2 ^ (Int.toNat 1)) 1431655765)) / 2 ^ (Int.toNat 2)) 858993459)) / 2 ^ (Int.toNat 4))) 252645135) + ((aAnd (((aAnd ((n : Int) - (aAnd ((n : Int) / 2 ^ (Int.toNat 1)) 1431655765)) 858993459) + (aAnd (((n : Int) - (aAnd ((n : Int) / 2 ^ (Int.toNat 1)) 1431655765)) / 2 ^ (Int.toNat 2)) 858993459)) + (((aAnd ((n : Int) - (aAnd ((n : Int) / 2 ^ (Int.toNat 1)) 1431655765)) 858993459) + (aAnd (((n : Int) - (aAnd ((n : Int) / 2 ^ (Int.toNat 1)) 1431655765)) / 2 ^ (Int.toNat 2)) 858993459)) / 2 ^ (Int.toNat 4))) 252645135) / 2 ^ (Int.toNat 8)) < 2147483648) from ⟨by (revert hn; revert n; decide +kernel), by (revert hn; revert n; decide +kernel), by (revert hn; revert n; decide +kernel), by (revert hn; revert n; decide +kernel), by (revert hn; revert n; decide +kernel), by (revert hn; revert n; decide +kernel), by (revert hn; revert n; decide +kernel), by (revert hn; revert n; decide +kernel), by (revert hn; revert n; decide +kernel), by (revert hn; revert n; decide +kernel)⟩) ?_
  exact aw_iret dJ6_bitCount_0f7a4_52 rfl ⟨aret (by (revert hn; revert n; decide +kernel)), rfl⟩
set_option maxRecDepth 10000 in
theorem cC_isOffice (l : Launch) (v : Int) (σ : aS) (h1 : aIr v) : AM l 0 mX6_isOffice [aI v] σ (aF (some (aI (if 0 ≤ v ∧ v < 5 then 1 else 0))) σ) := by
  refine am_of (by decide) (Nat.le_of_ble_eq_true rfl) (L := [some (aI v)]) rfl ?_
  refine aw_b kX6_ok bX6_isOffice_0_ok (Cs := []) (pc' := 1) (L' := [some (aI v)]) (st' := [aI v]) (σ' := σ) rfl trivial ?_
  refine aw_ilt dX6_isOffice_1 (tgt := 13) (by decide) ⟨by omega, by omega⟩ (fun wh1 => ?_) (fun wh1 => ?_)
  · refine aw_b kX6_ok bX6_isOffice_13_ok (Cs := []) (pc' := 14) (L' := [some (aI v)]) (st' := [aI 0]) (σ' := σ) rfl trivial ?_
    exact aw_zret dX6_isOffice_14 rfl (by omega) ⟨aret (by split <;> omega), rfl⟩
  · refine aw_b kX6_ok bX6_isOffice_4_ok (Cs := []) (pc' := 6) (L' := [some (aI v)]) (st' := [aI 5, aI v]) (σ' := σ) rfl trivial ?_
    refine aw_cge dX6_isOffice_6 (tgt := 13) (by decide) ⟨by omega, by omega⟩ ⟨by omega, by omega⟩ (fun wh2 => ?_) (fun wh2 => ?_)
    · refine aw_b kX6_ok bX6_isOffice_13_ok (Cs := []) (pc' := 14) (L' := [some (aI v)]) (st' := [aI 0]) (σ' := σ) rfl trivial ?_
      exact aw_zret dX6_isOffice_14 rfl (by omega) ⟨aret (by split <;> omega), rfl⟩
    · refine aw_b kX6_ok bX6_isOffice_9_ok (Cs := []) (pc' := 14) (L' := [some (aI v)]) (st' := [aI 1]) (σ' := σ) rfl trivial ?_
      exact aw_zret dX6_isOffice_14 rfl (by omega) ⟨aret (by split <;> omega), rfl⟩
set_option maxRecDepth 10000 in
theorem cC_isShelf (l : Launch) (v : Int) (σ : aS) (h1 : aIr v) : AM l 0 mX6_isShelf [aI v] σ (aF (some (aI (if 0 ≤ v ∧ v < 8 then 1 else 0))) σ) := by
  refine am_of (by decide) (Nat.le_of_ble_eq_true rfl) (L := [some (aI v)]) rfl ?_
  refine aw_b kX6_ok bX6_isShelf_0_ok (Cs := []) (pc' := 1) (L' := [some (aI v)]) (st' := [aI v]) (σ' := σ) rfl trivial ?_
  refine aw_ilt dX6_isShelf_1 (tgt := 14) (by decide) ⟨by omega, by omega⟩ (fun wh1 => ?_) (fun wh1 => ?_)
  · refine aw_b kX6_ok bX6_isShelf_14_ok (Cs := []) (pc' := 15) (L' := [some (aI v)]) (st' := [aI 0]) (σ' := σ) rfl trivial ?_
    exact aw_zret dX6_isShelf_15 rfl (by omega) ⟨aret (by split <;> omega), rfl⟩
  · refine aw_b kX6_ok bX6_isShelf_4_ok (Cs := []) (pc' := 7) (L' := [some (aI v)]) (st' := [aI 8, aI v]) (σ' := σ) rfl trivial ?_
    refine aw_cge dX6_isShelf_7 (tgt := 14) (by decide) ⟨by omega, by omega⟩ ⟨by omega, by omega⟩ (fun wh2 => ?_) (fun wh2 => ?_)
    · refine aw_b kX6_ok bX6_isShelf_14_ok (Cs := []) (pc' := 15) (L' := [some (aI v)]) (st' := [aI 0]) (σ' := σ) rfl trivial ?_
      exact aw_zret dX6_isShelf_15 rfl (by omega) ⟨aret (by split <;> omega), rfl⟩
    · refine aw_b kX6_ok bX6_isShelf_10_ok (Cs := []) (pc' := 15) (L' := [some (aI v)]) (st' := [aI 1]) (σ' := σ) rfl trivial ?_
      exact aw_zret dX6_isShelf_15 rfl (by omega) ⟨aret (by split <;> omega), rfl⟩
set_option maxRecDepth 10000 in
theorem cC_isCostume (l : Launch) (v : Int) (σ : aS) (h1 : aIr v) : AM l 0 mX6_isCostume [aI v] σ (aF (some (aI (if 0 ≤ v ∧ v < 10 then 1 else 0))) σ) := by
  refine am_of (by decide) (Nat.le_of_ble_eq_true rfl) (L := [some (aI v)]) rfl ?_
  refine aw_b kX6_ok bX6_isCostume_0_ok (Cs := []) (pc' := 1) (L' := [some (aI v)]) (st' := [aI v]) (σ' := σ) rfl trivial ?_
  refine aw_ilt dX6_isCostume_1 (tgt := 14) (by decide) ⟨by omega, by omega⟩ (fun wh1 => ?_) (fun wh1 => ?_)
  · refine aw_b kX6_ok bX6_isCostume_14_ok (Cs := []) (pc' := 15) (L' := [some (aI v)]) (st' := [aI 0]) (σ' := σ) rfl trivial ?_
    exact aw_zret dX6_isCostume_15 rfl (by omega) ⟨aret (by split <;> omega), rfl⟩
  · refine aw_b kX6_ok bX6_isCostume_4_ok (Cs := []) (pc' := 7) (L' := [some (aI v)]) (st' := [aI 10, aI v]) (σ' := σ) rfl trivial ?_
    refine aw_cge dX6_isCostume_7 (tgt := 14) (by decide) ⟨by omega, by omega⟩ ⟨by omega, by omega⟩ (fun wh2 => ?_) (fun wh2 => ?_)
    · refine aw_b kX6_ok bX6_isCostume_14_ok (Cs := []) (pc' := 15) (L' := [some (aI v)]) (st' := [aI 0]) (σ' := σ) rfl trivial ?_
      exact aw_zret dX6_isCostume_15 rfl (by omega) ⟨aret (by split <;> omega), rfl⟩
    · refine aw_b kX6_ok bX6_isCostume_10_ok (Cs := []) (pc' := 15) (L' := [some (aI v)]) (st' := [aI 1]) (σ' := σ) rfl trivial ?_
      exact aw_zret dX6_isCostume_15 rfl (by omega) ⟨aret (by split <;> omega), rfl⟩
set_option maxRecDepth 10000 in
theorem cC_isAhead (l : Launch) (v : Int) (σ : aS) (h1 : aIr v) : AM l 0 mX6_isAhead [aI v] σ (aF (some (aI (if 0 ≤ v ∧ v < 61 then 1 else 0))) σ) := by
  refine am_of (by decide) (Nat.le_of_ble_eq_true rfl) (L := [some (aI v)]) rfl ?_
  refine aw_b kX6_ok bX6_isAhead_0_ok (Cs := []) (pc' := 1) (L' := [some (aI v)]) (st' := [aI v]) (σ' := σ) rfl trivial ?_
  refine aw_ilt dX6_isAhead_1 (tgt := 14) (by decide) ⟨by omega, by omega⟩ (fun wh1 => ?_) (fun wh1 => ?_)
  · refine aw_b kX6_ok bX6_isAhead_14_ok (Cs := []) (pc' := 15) (L' := [some (aI v)]) (st' := [aI 0]) (σ' := σ) rfl trivial ?_
    exact aw_zret dX6_isAhead_15 rfl (by omega) ⟨aret (by split <;> omega), rfl⟩
  · refine aw_b kX6_ok bX6_isAhead_4_ok (Cs := []) (pc' := 7) (L' := [some (aI v)]) (st' := [aI 60, aI v]) (σ' := σ) rfl trivial ?_
    refine aw_cgt dX6_isAhead_7 (tgt := 14) (by decide) ⟨by omega, by omega⟩ ⟨by omega, by omega⟩ (fun wh2 => ?_) (fun wh2 => ?_)
    · refine aw_b kX6_ok bX6_isAhead_14_ok (Cs := []) (pc' := 15) (L' := [some (aI v)]) (st' := [aI 0]) (σ' := σ) rfl trivial ?_
      exact aw_zret dX6_isAhead_15 rfl (by omega) ⟨aret (by split <;> omega), rfl⟩
    · refine aw_b kX6_ok bX6_isAhead_10_ok (Cs := []) (pc' := 15) (L' := [some (aI v)]) (st' := [aI 1]) (σ' := σ) rfl trivial ?_
      exact aw_zret dX6_isAhead_15 rfl (by omega) ⟨aret (by split <;> omega), rfl⟩
set_option maxRecDepth 10000 in
theorem cC_isMate (l : Launch) (v : Int) (σ : aS) (h1 : aIr v) : AM l 0 mX6_isMate [aI v] σ (aF (some (aI (if (0 ≤ v ∧ v ≤ 7) ∨ v = 9 then 1 else 0))) σ) := by
  refine am_of (by decide) (Nat.le_of_ble_eq_true rfl) (L := [some (aI v)]) rfl ?_
  refine aw_b kX6_ok bX6_isMate_0_ok (Cs := []) (pc' := 1) (L' := [some (aI v)]) (st' := [aI v]) (σ' := σ) rfl trivial ?_
  refine aw_ilt dX6_isMate_1 (tgt := 20) (by decide) ⟨by omega, by omega⟩ (fun wh1 => ?_) (fun wh1 => ?_)
  · refine aw_b kX6_ok bX6_isMate_20_ok (Cs := []) (pc' := 21) (L' := [some (aI v)]) (st' := [aI 0]) (σ' := σ) rfl trivial ?_
    exact aw_zret dX6_isMate_21 rfl (by omega) ⟨aret (by split <;> omega), rfl⟩
  · refine aw_b kX6_ok bX6_isMate_4_ok (Cs := []) (pc' := 7) (L' := [some (aI v)]) (st' := [aI 8, aI v]) (σ' := σ) rfl trivial ?_
    refine aw_clt dX6_isMate_7 (tgt := 16) (by decide) ⟨by omega, by omega⟩ ⟨by omega, by omega⟩ (fun wh2 => ?_) (fun wh2 => ?_)
    · refine aw_b kX6_ok bX6_isMate_16_ok (Cs := []) (pc' := 21) (L' := [some (aI v)]) (st' := [aI 1]) (σ' := σ) rfl trivial ?_
      exact aw_zret dX6_isMate_21 rfl (by omega) ⟨aret (by split <;> omega), rfl⟩
    · refine aw_b kX6_ok bX6_isMate_10_ok (Cs := []) (pc' := 13) (L' := [some (aI v)]) (st' := [aI 9, aI v]) (σ' := σ) rfl trivial ?_
      refine aw_cne dX6_isMate_13 (tgt := 20) (by decide) ⟨by omega, by omega⟩ ⟨by omega, by omega⟩ (fun wh3 => ?_) (fun wh3 => ?_)
      · refine aw_b kX6_ok bX6_isMate_20_ok (Cs := []) (pc' := 21) (L' := [some (aI v)]) (st' := [aI 0]) (σ' := σ) rfl trivial ?_
        exact aw_zret dX6_isMate_21 rfl (by omega) ⟨aret (by split <;> omega), rfl⟩
      · refine aw_b kX6_ok bX6_isMate_16_ok (Cs := []) (pc' := 21) (L' := [some (aI v)]) (st' := [aI 1]) (σ' := σ) rfl trivial ?_
        exact aw_zret dX6_isMate_21 rfl (by omega) ⟨aret (by split <;> omega), rfl⟩
set_option maxRecDepth 10000 in
theorem cC_isChoice (l : Launch) (v : Int) (σ : aS) (h1 : aIr v) : AM l 0 mX6_isChoice [aI v] σ (aF (some (aI (if v = 0 ∨ v = 1 then 1 else 0))) σ) := by
  refine am_of (by decide) (Nat.le_of_ble_eq_true rfl) (L := [some (aI v)]) rfl ?_
  refine aw_b kX6_ok bX6_isChoice_0_ok (Cs := []) (pc' := 1) (L' := [some (aI v)]) (st' := [aI v]) (σ' := σ) rfl trivial ?_
  refine aw_ieq dX6_isChoice_1 (tgt := 9) (by decide) ⟨by omega, by omega⟩ (fun wh1 => ?_) (fun wh1 => ?_)
  · refine aw_b kX6_ok bX6_isChoice_9_ok (Cs := []) (pc' := 14) (L' := [some (aI v)]) (st' := [aI 1]) (σ' := σ) rfl trivial ?_
    exact aw_zret dX6_isChoice_14 rfl (by omega) ⟨aret (by split <;> omega), rfl⟩
  · refine aw_b kX6_ok bX6_isChoice_4_ok (Cs := []) (pc' := 6) (L' := [some (aI v)]) (st' := [aI 1, aI v]) (σ' := σ) rfl trivial ?_
    refine aw_cne dX6_isChoice_6 (tgt := 13) (by decide) ⟨by omega, by omega⟩ ⟨by omega, by omega⟩ (fun wh2 => ?_) (fun wh2 => ?_)
    · refine aw_b kX6_ok bX6_isChoice_13_ok (Cs := []) (pc' := 14) (L' := [some (aI v)]) (st' := [aI 0]) (σ' := σ) rfl trivial ?_
      exact aw_zret dX6_isChoice_14 rfl (by omega) ⟨aret (by split <;> omega), rfl⟩
    · refine aw_b kX6_ok bX6_isChoice_9_ok (Cs := []) (pc' := 14) (L' := [some (aI v)]) (st' := [aI 1]) (σ' := σ) rfl trivial ?_
      exact aw_zret dX6_isChoice_14 rfl (by omega) ⟨aret (by split <;> omega), rfl⟩
set_option maxRecDepth 10000 in
theorem cC_orNone (l : Launch) (v : Int) (σ : aS) (h1 : aIr v) : AM l 0 mX6_orNone [aI v] σ (aF (some (aI (if v = -1 then -4 else v))) σ) := by
  refine am_of (by decide) (Nat.le_of_ble_eq_true rfl) (L := [some (aI v)]) rfl ?_
  refine aw_b kX6_ok bX6_orNone_0_ok (Cs := []) (pc' := 2) (L' := [some (aI v)]) (st' := [aI (-1), aI v]) (σ' := σ) rfl trivial ?_
  refine aw_cne dX6_orNone_2 (tgt := 10) (by decide) ⟨by omega, by omega⟩ ⟨by omega, by omega⟩ (fun wh1 => ?_) (fun wh1 => ?_)
  · refine aw_b kX6_ok bX6_orNone_10_ok (Cs := []) (pc' := 11) (L' := [some (aI v)]) (st' := [aI v]) (σ' := σ) rfl trivial ?_
    exact aw_iret dX6_orNone_11 rfl ⟨aret (by split <;> omega), rfl⟩
  · refine aw_b kX6_ok bX6_orNone_5_ok (Cs := []) (pc' := 11) (L' := [some (aI v)]) (st' := [aI (-4)]) (σ' := σ) rfl trivial ?_
    exact aw_iret dX6_orNone_11 rfl ⟨aret (by split <;> omega), rfl⟩
theorem aAnd1 {d : Int} (h : 0 ≤ d ∧ d < 2147483648) : aAnd d 1 = d % 2 := by
  obtain ⟨n, rfl⟩ := Int.eq_ofNat_of_zero_le h.1
  have e : Int32.ofInt (n : Int) = nI n := Int32.ofInt_eq_ofNat
  unfold aAnd
  rw [e, show Int32.ofInt 1 = (1 : Int32) from rfl, pk_andN (by omega) 1 (by decide), nI_toInt (by omega)]
  omega
set_option maxRecDepth 10000 in
theorem cC_shown (l : Launch) (k f c d : Int) (σ : aS) (h1 : 0 ≤ k ∧ k ≤ 7) (h2 : 0 ≤ f ∧ f ≤ 9) (h3 : 0 ≤ c ∧ c ≤ 9) (h4 : 0 ≤ d ∧ d ≤ 1000000) : AM l 1 mX3_shown [aI k, aI f, aI c, aI d] σ (aF (some (aI (shF k f c d))) σ) := by
  have em : d.tmod 2 = d % 2 := Int.tmod_eq_emod_of_nonneg h4.1
  have en := aAnd1 (d := d) (by omega)
  refine am_of (by decide) (Nat.le_of_ble_eq_true rfl) (L := [some (aI k), some (aI f), some (aI c), some (aI d), none]) rfl ?_
  refine aw_b kX3_ok bX3_shown_0_ok (Cs := []) (pc' := 3) (L' := [some (aI k), some (aI f), some (aI c), some (aI d), none]) (st' := [aI (c - f)]) (σ' := σ) rfl trivial ?_
  have ez : 0 ≤ (if c - f < 0 then -(c - f) else c - f) ∧ (if c - f < 0 then -(c - f) else c - f) ≤ 9 := by split <;> omega
  have ey : (if c - f < 0 then -(c - f) else c - f) = 0 ↔ c = f := by split <;> omega
  refine aw_abs lX3_9 (rest := []) (by decide) (Nat.le_of_ble_eq_true rfl) dX3_shown_3 (x := c - f) ⟨by omega, by omega⟩ ?_
  generalize hz : (if c - f < 0 then -(c - f) else c - f) = z at ez ey ⊢
  refine aw_b kX3_ok bX3_shown_6_ok (Cs := []) (pc' := 9) (L' := [some (aI k), some (aI f), some (aI c), some (aI d), some (aI z)]) (st' := [aI k]) (σ' := σ) rfl trivial ?_
  rcases (show k = 1 ∨ k = 2 ∨ k = 3 ∨ k = 4 ∨ k = 5 ∨ k = 6 ∨ k = 7 ∨ (k < 1 ∨ 7 < k) by omega) with wh1 | wh1 | wh1 | wh1 | wh1 | wh1 | wh1 | wh1
  · refine aw_tsw dX3_shown_9 (tgt := 52) ⟨by omega, by omega⟩ (by decide) (by rw [wh1]; decide) ?_
    refine aw_b kX3_ok bX3_shown_52_ok (Cs := []) (pc' := 54) (L' := [some (aI k), some (aI f), some (aI c), some (aI d), some (aI z)]) (st' := [aI 6]) (σ' := σ) rfl trivial ?_
    exact aw_iret dX3_shown_54 rfl ⟨aret (by unfold shF; (try simp [*]) <;> (first | omega | ((repeat' split) <;> omega))), rfl⟩
  · refine aw_tsw dX3_shown_9 (tgt := 55) ⟨by omega, by omega⟩ (by decide) (by rw [wh1]; decide) ?_
    refine aw_b kX3_ok bX3_shown_55_ok (Cs := [-2147483648 ≤ z ∧ z < 2147483648, 0 < 3 ∧ 3 < 2147483648]) (pc' := 61) (L' := [some (aI k), some (aI f), some (aI c), some (aI d), some (aI z)]) (st' := [aI (1 + (Int.tdiv z 3))]) (σ' := σ) rfl (show (-2147483648 ≤ z ∧ z < 2147483648) ∧ (0 < 3 ∧ 3 < 2147483648) from ⟨by omega, by omega⟩) ?_
    exact aw_iret dX3_shown_61 rfl ⟨aret (by unfold shF; (try simp [*]) <;> (first | omega | ((repeat' split) <;> omega))), rfl⟩
  · refine aw_tsw dX3_shown_9 (tgt := 62) ⟨by omega, by omega⟩ (by decide) (by rw [wh1]; decide) ?_
    refine aw_b kX3_ok bX3_shown_62_ok (Cs := []) (pc' := 66) (L' := [some (aI k), some (aI f), some (aI c), some (aI d), some (aI z)]) (st' := [aI 1, aI (aAnd d 1)]) (σ' := σ) rfl trivial ?_
    refine aw_cne dX3_shown_66 (tgt := 76) (by decide) ⟨by omega, by omega⟩ ⟨by omega, by omega⟩ (fun wh2 => ?_) (fun wh2 => ?_)
    · refine aw_b kX3_ok bX3_shown_76_ok (Cs := []) (pc' := 78) (L' := [some (aI k), some (aI f), some (aI c), some (aI d), some (aI z)]) (st' := [aI 6]) (σ' := σ) rfl trivial ?_
      exact aw_iret dX3_shown_78 rfl ⟨aret (by unfold shF; (try simp [*]) <;> (first | omega | ((repeat' split) <;> omega))), rfl⟩
    · refine aw_b kX3_ok bX3_shown_69_ok (Cs := []) (pc' := 78) (L' := [some (aI k), some (aI f), some (aI c), some (aI d), some (aI z)]) (st' := [aI (6 + f)]) (σ' := σ) rfl trivial ?_
      exact aw_iret dX3_shown_78 rfl ⟨aret (by unfold shF; (try simp [*]) <;> (first | omega | ((repeat' split) <;> omega))), rfl⟩
  · refine aw_tsw dX3_shown_9 (tgt := 79) ⟨by omega, by omega⟩ (by decide) (by rw [wh1]; decide) ?_
    refine aw_b kX3_ok bX3_shown_79_ok (Cs := []) (pc' := 81) (L' := [some (aI k), some (aI f), some (aI c), some (aI d), some (aI z)]) (st' := [aI z]) (σ' := σ) rfl trivial ?_
    refine aw_ine dX3_shown_81 (tgt := 88) (by decide) ⟨by omega, by omega⟩ (fun wh3 => ?_) (fun wh3 => ?_)
    · refine aw_b kX3_ok bX3_shown_88_ok (Cs := [-2147483648 ≤ z ∧ z < 2147483648, 0 < 3 ∧ 3 < 2147483648]) (pc' := 94) (L' := [some (aI k), some (aI f), some (aI c), some (aI d), some (aI z)]) (st' := [aI (1 + (Int.tdiv z 3))]) (σ' := σ) rfl (show (-2147483648 ≤ z ∧ z < 2147483648) ∧ (0 < 3 ∧ 3 < 2147483648) from ⟨by omega, by omega⟩) ?_
      exact aw_iret dX3_shown_94 rfl ⟨aret (by unfold shF; (try simp [*]) <;> (first | omega | ((repeat' split) <;> omega))), rfl⟩
    · refine aw_b kX3_ok bX3_shown_84_ok (Cs := []) (pc' := 94) (L' := [some (aI k), some (aI f), some (aI c), some (aI d), some (aI z)]) (st' := [aI 0]) (σ' := σ) rfl trivial ?_
      exact aw_iret dX3_shown_94 rfl ⟨aret (by unfold shF; (try simp [*]) <;> (first | omega | ((repeat' split) <;> omega))), rfl⟩
  · refine aw_tsw dX3_shown_9 (tgt := 95) ⟨by omega, by omega⟩ (by decide) (by rw [wh1]; decide) ?_
    refine aw_b kX3_ok bX3_shown_95_ok (Cs := []) (pc' := 99) (L' := [some (aI k), some (aI f), some (aI c), some (aI d), some (aI z)]) (st' := [aI (3 - c), aI 1]) (σ' := σ) rfl trivial ?_
    refine aw_max lX3_15 (rest := []) (by decide) (Nat.le_of_ble_eq_true rfl) dX3_shown_99 (x := 1) (y := 3 - c) ⟨by omega, by omega⟩ ⟨by omega, by omega⟩ ?_
    exact aw_iret dX3_shown_102 rfl ⟨aret (by unfold shF; (try simp [*]) <;> (first | omega | ((repeat' split) <;> omega))), rfl⟩
  · refine aw_tsw dX3_shown_9 (tgt := 103) ⟨by omega, by omega⟩ (by decide) (by rw [wh1]; decide) ?_
    refine aw_b kX3_ok bX3_shown_103_ok (Cs := []) (pc' := 105) (L' := [some (aI k), some (aI f), some (aI c), some (aI d), some (aI z)]) (st' := [aI f, aI c]) (σ' := σ) rfl trivial ?_
    refine aw_cge dX3_shown_105 (tgt := 113) (by decide) ⟨by omega, by omega⟩ ⟨by omega, by omega⟩ (fun wh4 => ?_) (fun wh4 => ?_)
    · refine aw_b kX3_ok bX3_shown_113_ok (Cs := []) (pc' := 115) (L' := [some (aI k), some (aI f), some (aI c), some (aI d), some (aI z)]) (st' := [aI 6]) (σ' := σ) rfl trivial ?_
      exact aw_iret dX3_shown_115 rfl ⟨aret (by unfold shF; (try simp [*]) <;> (first | omega | ((repeat' split) <;> omega))), rfl⟩
    · refine aw_b kX3_ok bX3_shown_108_ok (Cs := []) (pc' := 115) (L' := [some (aI k), some (aI f), some (aI c), some (aI d), some (aI z)]) (st' := [aI 9]) (σ' := σ) rfl trivial ?_
      exact aw_iret dX3_shown_115 rfl ⟨aret (by unfold shF; (try simp [*]) <;> (first | omega | ((repeat' split) <;> omega))), rfl⟩
  · refine aw_tsw dX3_shown_9 (tgt := 116) ⟨by omega, by omega⟩ (by decide) (by rw [wh1]; decide) ?_
    refine aw_b kX3_ok bX3_shown_116_ok (Cs := []) (pc' := 117) (L' := [some (aI k), some (aI f), some (aI c), some (aI d), some (aI z)]) (st' := [aI 0]) (σ' := σ) rfl trivial ?_
    exact aw_iret dX3_shown_117 rfl ⟨aret (by unfold shF; (try simp [*]) <;> (first | omega | ((repeat' split) <;> omega))), rfl⟩
  · refine aw_tsw dX3_shown_9 (tgt := 118) ⟨by omega, by omega⟩ (by decide) (by unfold aTgt; rw [if_pos (by omega)]; rfl) ?_
    refine aw_b kX3_ok bX3_shown_118_ok (Cs := []) (pc' := 119) (L' := [some (aI k), some (aI f), some (aI c), some (aI d), some (aI z)]) (st' := [aI 3]) (σ' := σ) rfl trivial ?_
    exact aw_iret dX3_shown_119 rfl ⟨aret (by unfold shF; (try simp [*]) <;> (first | omega | ((repeat' split) <;> omega))), rfl⟩
set_option maxRecDepth 10000 in
theorem cC_borne (l : Launch) (k f : Int) (σ : aS) (h1 : 0 ≤ k ∧ k ≤ 7) (h2 : 0 ≤ f ∧ f ≤ 9) : AM l 0 mX3_borne [aI k, aI f] σ (aF (some (aI (beF k f))) σ) := by
  refine am_of (by decide) (Nat.le_of_ble_eq_true rfl) (L := [some (aI k), some (aI f), none]) rfl ?_
  refine aw_b kX3_ok bX3_borne_0_ok (Cs := []) (pc' := 6) (L' := [some (aI k), some (aI f), some (aI (20 + f))]) (st' := [aI k]) (σ' := σ) rfl trivial ?_
  rcases (show k = 1 ∨ k = 2 ∨ k = 3 ∨ k = 4 ∨ k = 5 ∨ k = 6 ∨ k = 7 ∨ (k < 1 ∨ 7 < k) by omega) with wh1 | wh1 | wh1 | wh1 | wh1 | wh1 | wh1 | wh1
  · refine aw_tsw dX3_borne_6 (tgt := 48) ⟨by omega, by omega⟩ (by decide) (by rw [wh1]; decide) ?_
    refine aw_b kX3_ok bX3_borne_48_ok (Cs := []) (pc' := 50) (L' := [some (aI k), some (aI f), some (aI (20 + f))]) (st' := [aI 15]) (σ' := σ) rfl trivial ?_
    exact aw_iret dX3_borne_50 rfl ⟨aret (by unfold beF; (repeat' split) <;> omega), rfl⟩
  · refine aw_tsw dX3_borne_6 (tgt := 51) ⟨by omega, by omega⟩ (by decide) (by rw [wh1]; decide) ?_
    refine aw_b kX3_ok bX3_borne_51_ok (Cs := []) (pc' := 52) (L' := [some (aI k), some (aI f), some (aI (20 + f))]) (st' := [aI (20 + f)]) (σ' := σ) rfl trivial ?_
    exact aw_iret dX3_borne_52 rfl ⟨aret (by unfold beF; (repeat' split) <;> omega), rfl⟩
  · refine aw_tsw dX3_borne_6 (tgt := 48) ⟨by omega, by omega⟩ (by decide) (by rw [wh1]; decide) ?_
    refine aw_b kX3_ok bX3_borne_48_ok (Cs := []) (pc' := 50) (L' := [some (aI k), some (aI f), some (aI (20 + f))]) (st' := [aI 15]) (σ' := σ) rfl trivial ?_
    exact aw_iret dX3_borne_50 rfl ⟨aret (by unfold beF; (repeat' split) <;> omega), rfl⟩
  · refine aw_tsw dX3_borne_6 (tgt := 53) ⟨by omega, by omega⟩ (by decide) (by rw [wh1]; decide) ?_
    refine aw_b kX3_ok bX3_borne_53_ok (Cs := []) (pc' := 56) (L' := [some (aI k), some (aI f), some (aI (20 + f))]) (st' := [aI (2 * (20 + f))]) (σ' := σ) rfl trivial ?_
    exact aw_iret dX3_borne_56 rfl ⟨aret (by unfold beF; (repeat' split) <;> omega), rfl⟩
  · refine aw_tsw dX3_borne_6 (tgt := 57) ⟨by omega, by omega⟩ (by decide) (by rw [wh1]; decide) ?_
    refine aw_b kX3_ok bX3_borne_57_ok (Cs := []) (pc' := 63) (L' := [some (aI k), some (aI f), some (aI (20 + f))]) (st' := [aI (20 + (2 * f))]) (σ' := σ) rfl trivial ?_
    exact aw_iret dX3_borne_63 rfl ⟨aret (by unfold beF; (repeat' split) <;> omega), rfl⟩
  · refine aw_tsw dX3_borne_6 (tgt := 64) ⟨by omega, by omega⟩ (by decide) (by rw [wh1]; decide) ?_
    refine aw_b kX3_ok bX3_borne_64_ok (Cs := []) (pc' := 66) (L' := [some (aI k), some (aI f), some (aI (20 + f))]) (st' := [aI 7]) (σ' := σ) rfl trivial ?_
    exact aw_iret dX3_borne_66 rfl ⟨aret (by unfold beF; (repeat' split) <;> omega), rfl⟩
  · refine aw_tsw dX3_borne_6 (tgt := 67) ⟨by omega, by omega⟩ (by decide) (by rw [wh1]; decide) ?_
    refine aw_b kX3_ok bX3_borne_67_ok (Cs := []) (pc' := 69) (L' := [some (aI k), some (aI f), some (aI (20 + f))]) (st' := [aI 99]) (σ' := σ) rfl trivial ?_
    exact aw_iret dX3_borne_69 rfl ⟨aret (by unfold beF; (repeat' split) <;> omega), rfl⟩
  · refine aw_tsw dX3_borne_6 (tgt := 70) ⟨by omega, by omega⟩ (by decide) (by unfold aTgt; rw [if_pos (by omega)]; rfl) ?_
    refine aw_b kX3_ok bX3_borne_70_ok (Cs := []) (pc' := 72) (L' := [some (aI k), some (aI f), some (aI (20 + f))]) (st' := [aI 20]) (σ' := σ) rfl trivial ?_
    exact aw_iret dX3_borne_72 rfl ⟨aret (by unfold beF; (repeat' split) <;> omega), rfl⟩
set_option maxRecDepth 10000 in
theorem cC_forgotten (l : Launch) (k f : Int) (σ : aS) (h1 : 0 ≤ k ∧ k ≤ 7) (h2 : 0 ≤ f ∧ f ≤ 9) : AM l 0 mX3_forgotten [aI k, aI f] σ (aF (some (aI (foF k f))) σ) := by
  refine am_of (by decide) (Nat.le_of_ble_eq_true rfl) (L := [some (aI k), some (aI f)]) rfl ?_
  refine aw_b kX3_ok bX3_forgotten_0_ok (Cs := []) (pc' := 1) (L' := [some (aI k), some (aI f)]) (st' := [aI k]) (σ' := σ) rfl trivial ?_
  rcases (show k = 1 ∨ k = 2 ∨ k = 3 ∨ k = 4 ∨ k = 5 ∨ k = 6 ∨ k = 7 ∨ (k < 1 ∨ 7 < k) by omega) with wh1 | wh1 | wh1 | wh1 | wh1 | wh1 | wh1 | wh1
  · refine aw_tsw dX3_forgotten_1 (tgt := 44) ⟨by omega, by omega⟩ (by decide) (by rw [wh1]; decide) ?_
    refine aw_b kX3_ok bX3_forgotten_44_ok (Cs := []) (pc' := 45) (L' := [some (aI k), some (aI f)]) (st' := [aI 1]) (σ' := σ) rfl trivial ?_
    exact aw_iret dX3_forgotten_45 rfl ⟨aret (by unfold foF; (repeat' split) <;> omega), rfl⟩
  · refine aw_tsw dX3_forgotten_1 (tgt := 46) ⟨by omega, by omega⟩ (by decide) (by rw [wh1]; decide) ?_
    refine aw_b kX3_ok bX3_forgotten_46_ok (Cs := []) (pc' := 47) (L' := [some (aI k), some (aI f)]) (st' := [aI 3]) (σ' := σ) rfl trivial ?_
    exact aw_iret dX3_forgotten_47 rfl ⟨aret (by unfold foF; (repeat' split) <;> omega), rfl⟩
  · refine aw_tsw dX3_forgotten_1 (tgt := 48) ⟨by omega, by omega⟩ (by decide) (by rw [wh1]; decide) ?_
    refine aw_b kX3_ok bX3_forgotten_48_ok (Cs := []) (pc' := 49) (L' := [some (aI k), some (aI f)]) (st' := [aI 0]) (σ' := σ) rfl trivial ?_
    exact aw_iret dX3_forgotten_49 rfl ⟨aret (by unfold foF; (repeat' split) <;> omega), rfl⟩
  · refine aw_tsw dX3_forgotten_1 (tgt := 46) ⟨by omega, by omega⟩ (by decide) (by rw [wh1]; decide) ?_
    refine aw_b kX3_ok bX3_forgotten_46_ok (Cs := []) (pc' := 47) (L' := [some (aI k), some (aI f)]) (st' := [aI 3]) (σ' := σ) rfl trivial ?_
    exact aw_iret dX3_forgotten_47 rfl ⟨aret (by unfold foF; (repeat' split) <;> omega), rfl⟩
  · refine aw_tsw dX3_forgotten_1 (tgt := 50) ⟨by omega, by omega⟩ (by decide) (by rw [wh1]; decide) ?_
    refine aw_b kX3_ok bX3_forgotten_50_ok (Cs := []) (pc' := 51) (L' := [some (aI k), some (aI f)]) (st' := [aI f]) (σ' := σ) rfl trivial ?_
    exact aw_iret dX3_forgotten_51 rfl ⟨aret (by unfold foF; (repeat' split) <;> omega), rfl⟩
  · refine aw_tsw dX3_forgotten_1 (tgt := 44) ⟨by omega, by omega⟩ (by decide) (by rw [wh1]; decide) ?_
    refine aw_b kX3_ok bX3_forgotten_44_ok (Cs := []) (pc' := 45) (L' := [some (aI k), some (aI f)]) (st' := [aI 1]) (σ' := σ) rfl trivial ?_
    exact aw_iret dX3_forgotten_45 rfl ⟨aret (by unfold foF; (repeat' split) <;> omega), rfl⟩
  · refine aw_tsw dX3_forgotten_1 (tgt := 52) ⟨by omega, by omega⟩ (by decide) (by rw [wh1]; decide) ?_
    refine aw_b kX3_ok bX3_forgotten_52_ok (Cs := []) (pc' := 54) (L' := [some (aI k), some (aI f)]) (st' := [aI 9]) (σ' := σ) rfl trivial ?_
    exact aw_iret dX3_forgotten_54 rfl ⟨aret (by unfold foF; (repeat' split) <;> omega), rfl⟩
  · refine aw_tsw dX3_forgotten_1 (tgt := 55) ⟨by omega, by omega⟩ (by decide) (by unfold aTgt; rw [if_pos (by omega)]; rfl) ?_
    refine aw_b kX3_ok bX3_forgotten_55_ok (Cs := []) (pc' := 56) (L' := [some (aI k), some (aI f)]) (st' := [aI 2]) (σ' := σ) rfl trivial ?_
    exact aw_iret dX3_forgotten_56 rfl ⟨aret (by unfold foF; (repeat' split) <;> omega), rfl⟩
end
section
/-! ===== the class: its cabinet ===== -/
set_option maxRecDepth 10000 in
theorem cC_isThere (l : Launch) (p : Int) (c : Nat) (hc : c < 3) (σ : aS) (r : aRw) (hR : Rep σ c r) (hw : WF r) (hp : aIr p) : AM l 0 mX0_isThere [aR 1 c, aI p] σ (aF (some (aI (if 0 ≤ p ∧ p < r 0 then 1 else 0))) σ) := by
  have bn := hw.1
  have en := hR.n
  refine am_of (by decide) (Nat.le_of_ble_eq_true rfl) (L := [some (aR 1 c), some (aI p)]) rfl ?_
  refine aw_b kX0_ok bX0_isThere_0_ok (Cs := []) (pc' := 1) (L' := [some (aR 1 c), some (aI p)]) (st' := [aI p]) (σ' := σ) rfl trivial ?_
  refine aw_ilt dX0_isThere_1 (tgt := 22) (by decide) ⟨by omega, by omega⟩ (fun wh1 => ?_) (fun wh1 => ?_)
  · refine aw_b kX0_ok bX0_isThere_22_ok (Cs := []) (pc' := 23) (L' := [some (aR 1 c), some (aI p)]) (st' := [aI 0]) (σ' := σ) rfl trivial ?_
    exact aw_zret dX0_isThere_23 rfl (by omega) ⟨aret (by split <;> omega), rfl⟩
  · refine aw_b kX0_ok bX0_isThere_4_ok (Cs := [c < 3]) (pc' := 9) (L' := [some (aR 1 c), some (aI p)]) (st' := [aI (σ 1 c 0), aI p]) (σ' := σ) rfl (show c < 3 from by omega) ?_
    refine aw_cge dX0_isThere_9 (tgt := 22) (by decide) ⟨by omega, by omega⟩ ⟨by omega, by omega⟩ (fun wh2 => ?_) (fun wh2 => ?_)
    · refine aw_b kX0_ok bX0_isThere_22_ok (Cs := []) (pc' := 23) (L' := [some (aR 1 c), some (aI p)]) (st' := [aI 0]) (σ' := σ) rfl trivial ?_
      exact aw_zret dX0_isThere_23 rfl (by omega) ⟨aret (by split <;> omega), rfl⟩
    · refine aw_b kX0_ok bX0_isThere_12_ok (Cs := []) (pc' := 15) (L' := [some (aR 1 c), some (aI p)]) (st' := [aI 8, aI p]) (σ' := σ) rfl trivial ?_
      refine aw_cge dX0_isThere_15 (tgt := 22) (by decide) ⟨by omega, by omega⟩ ⟨by omega, by omega⟩ (fun wh3 => ?_) (fun wh3 => ?_)
      · refine aw_b kX0_ok bX0_isThere_22_ok (Cs := []) (pc' := 23) (L' := [some (aR 1 c), some (aI p)]) (st' := [aI 0]) (σ' := σ) rfl trivial ?_
        exact aw_zret dX0_isThere_23 rfl (by omega) ⟨aret (by split <;> omega), rfl⟩
      · refine aw_b kX0_ok bX0_isThere_18_ok (Cs := []) (pc' := 23) (L' := [some (aR 1 c), some (aI p)]) (st' := [aI 1]) (σ' := σ) rfl trivial ?_
        exact aw_zret dX0_isThere_23 rfl (by omega) ⟨aret (by split <;> omega), rfl⟩
set_option maxRecDepth 10000 in
theorem cC_bearing (l : Launch) (p : Int) (c : Nat) (hc : c < 3) (σ : aS) (r : aRw) (hR : Rep σ c r) (hw : WF r) (h0 : 0 ≤ p) (h1 : p < r 0) : AM l 1 mX0_bearing [aR 1 c, aI p] σ (aF (some (aI (beR r p))) σ) := by
  have bn := hw.1
  have en := hR.n
  have bp := hw.pe (p := p) (by omega) (by omega)
  have rp := hR.pe (p := p) (by omega) (by omega)
  have bo := off_rng r p
  have no := nb_cases (off r p)
  refine am_of (by decide) (Nat.le_of_ble_eq_true rfl) (L := [some (aR 1 c), some (aI p)]) rfl ?_
  refine aw_b kX0_ok bX0_bearing_0_ok (Cs := [c < 3, c < 3, 0 ≤ p ∧ p < 8, c < 3, c < 3, 0 ≤ p ∧ p < 8]) (pc' := 12) (L' := [some (aR 1 c), some (aI p)]) (st' := [aI (σ 3 c p), aI (σ 2 c p)]) (σ' := σ) rfl (show (c < 3) ∧ (c < 3) ∧ (0 ≤ p ∧ p < 8) ∧ (c < 3) ∧ (c < 3) ∧ (0 ≤ p ∧ p < 8) from ⟨by omega, by omega, by omega, by omega, by omega, by omega⟩) ?_
  refine aw_fS lX0_57 (as := [aI (σ 2 c p), aI (σ 3 c p)]) (rest := []) (by decide) rfl (Nat.le_of_ble_eq_true rfl) rfl dX0_bearing_12 (cC_borne l (σ 2 c p) (σ 3 c p) σ ⟨by omega, by omega⟩ ⟨by omega, by omega⟩) ?_
  exact aw_iret dX0_bearing_15 rfl ⟨aret (by unfold beR; rw [rp.1, rp.2.1]), rfl⟩
set_option maxRecDepth 10000 in
theorem cC_heldIn (l : Launch) (k : Int) (c : Nat) (hc : c < 3) (σ : aS) (r : aRw) (hR : Rep σ c r) (hw : WF r) (hk : aIr k) : AM l 0 mX0_heldIn [aR 1 c, aI k] σ (aF (some (aI (cntC r k 5))) σ) := by
  have bn := hw.1
  have en := hR.n
  refine am_of (by decide) (Nat.le_of_ble_eq_true rfl) (L := [some (aR 1 c), some (aI k), none, none]) rfl ?_
  refine aw_b kX0_ok bX0_heldIn_0_ok (Cs := []) (pc' := 4) (L' := [some (aR 1 c), some (aI k), some (aI 0), some (aI 0)]) (st' := []) (σ' := σ) rfl trivial ?_
  refine aloop (P := fun n : Nat => AW l 0 mX0_heldIn _ 4 [some (aR 1 c), some (aI k), some (aI (cntC r k n)), some (aI (n : Int))] [] σ) (5) (fun n hn ihn => ?_)
  have q0 := cntC_le r k n
  refine aw_b kX0_ok bX0_heldIn_4_ok (Cs := []) (pc' := 6) (L' := [some (aR 1 c), some (aI k), some (aI (cntC r k n)), some (aI (n : Int))]) (st' := [aI 5, aI (n : Int)]) (σ' := σ) rfl trivial ?_
  refine aw_cge dX0_heldIn_6 (tgt := 38) (by decide) ⟨by omega, by omega⟩ ⟨by omega, by omega⟩ (fun wh1 => ?_) (fun wh1 => ?_)
  · refine aw_b kX0_ok bX0_heldIn_38_ok (Cs := []) (pc' := 39) (L' := [some (aR 1 c), some (aI k), some (aI (cntC r k n)), some (aI (n : Int))]) (st' := [aI (cntC r k n)]) (σ' := σ) rfl trivial ?_
    exact aw_iret dX0_heldIn_39 rfl ⟨aret (by rw [show n = 5 by omega]), rfl⟩
  · have bc := hw.co (f := (n : Int)) (by omega) (by omega)
    have bh := hw.ho (f := (n : Int)) (by omega) (by omega)
    have ro := hR.of (f := (n : Int)) (by omega) (by omega)
    have nh := nb_cases (r (8 + (n : Int)))
    refine aw_b kX0_ok bX0_heldIn_9_ok (Cs := [c < 3, c < 3, 0 ≤ (n : Int) ∧ (n : Int) < 5]) (pc' := 16) (L' := [some (aR 1 c), some (aI k), some (aI (cntC r k n)), some (aI (n : Int))]) (st' := [aI (-1), aI (σ 8 c (n : Int))]) (σ' := σ) rfl (show (c < 3) ∧ (c < 3) ∧ (0 ≤ (n : Int) ∧ (n : Int) < 5) from ⟨by omega, by omega, by omega⟩) ?_
    refine aw_ceq dX0_heldIn_16 (tgt := 32) (by decide) ⟨by omega, by omega⟩ ⟨by omega, by omega⟩ (fun wh2 => ?_) (fun wh2 => ?_)
    · refine aw_b kX0_ok bX0_heldIn_32_ok (Cs := []) (pc' := 4) (L' := [some (aR 1 c), some (aI k), some (aI (cntC r k n)), some (aI ((n : Int) + 1))]) (st' := []) (σ' := σ) rfl trivial ?_
      exact aw_eq (by simp only [cntC]; (first | rw [if_pos (by omega)] | rw [if_neg (by omega), Int.add_zero]); rfl) rfl rfl (ihn (by omega))
    · refine aw_b kX0_ok bX0_heldIn_19_ok (Cs := [c < 3, c < 3, 0 ≤ (n : Int) ∧ (n : Int) < 5]) (pc' := 26) (L' := [some (aR 1 c), some (aI k), some (aI (cntC r k n)), some (aI (n : Int))]) (st' := [aI k, aI (σ 7 c (n : Int))]) (σ' := σ) rfl (show (c < 3) ∧ (c < 3) ∧ (0 ≤ (n : Int) ∧ (n : Int) < 5) from ⟨by omega, by omega, by omega⟩) ?_
      refine aw_cne dX0_heldIn_26 (tgt := 32) (by decide) ⟨by omega, by omega⟩ ⟨by omega, by omega⟩ (fun wh3 => ?_) (fun wh3 => ?_)
      · refine aw_b kX0_ok bX0_heldIn_32_ok (Cs := []) (pc' := 4) (L' := [some (aR 1 c), some (aI k), some (aI (cntC r k n)), some (aI ((n : Int) + 1))]) (st' := []) (σ' := σ) rfl trivial ?_
        exact aw_eq (by simp only [cntC]; (first | rw [if_pos (by omega)] | rw [if_neg (by omega), Int.add_zero]); rfl) rfl rfl (ihn (by omega))
      · refine aw_b kX0_ok bX0_heldIn_29_ok (Cs := []) (pc' := 32) (L' := [some (aR 1 c), some (aI k), some (aI ((cntC r k n) + 1)), some (aI (n : Int))]) (st' := []) (σ' := σ) rfl trivial ?_
        refine aw_b kX0_ok bX0_heldIn_32_ok (Cs := []) (pc' := 4) (L' := [some (aR 1 c), some (aI k), some (aI ((cntC r k n) + 1)), some (aI ((n : Int) + 1))]) (st' := []) (σ' := σ) rfl trivial ?_
        exact aw_eq (by simp only [cntC]; (first | rw [if_pos (by omega)] | rw [if_neg (by omega), Int.add_zero]); rfl) rfl rfl (ihn (by omega))
set_option maxRecDepth 10000 in
theorem cC_heldBits (l : Launch) (c : Nat) (hc : c < 3) (σ : aS) (r : aRw) (hR : Rep σ c r) (hw : WF r) : AM l 0 mX0_heldBits [aR 1 c] σ (aF (some (aI (hbN r 5))) σ) := by
  have bn := hw.1
  have en := hR.n
  refine am_of (by decide) (Nat.le_of_ble_eq_true rfl) (L := [some (aR 1 c), none, none]) rfl ?_
  refine aw_b kX0_ok bX0_heldBits_0_ok (Cs := []) (pc' := 4) (L' := [some (aR 1 c), some (aI 0), some (aI 0)]) (st' := []) (σ' := σ) rfl trivial ?_
  refine aloop (P := fun n : Nat => AW l 0 mX0_heldBits _ 4 [some (aR 1 c), some (aI (hbN r n)), some (aI (n : Int))] [] σ) (5) (fun n hn ihn => ?_)
  refine aw_b kX0_ok bX0_heldBits_4_ok (Cs := []) (pc' := 6) (L' := [some (aR 1 c), some (aI (hbN r n)), some (aI (n : Int))]) (st' := [aI 5, aI (n : Int)]) (σ' := σ) rfl trivial ?_
  refine aw_cge dX0_heldBits_6 (tgt := 31) (by decide) ⟨by omega, by omega⟩ ⟨by omega, by omega⟩ (fun wh1 => ?_) (fun wh1 => ?_)
  · refine aw_b kX0_ok bX0_heldBits_31_ok (Cs := []) (pc' := 32) (L' := [some (aR 1 c), some (aI (hbN r n)), some (aI (n : Int))]) (st' := [aI (hbN r n)]) (σ' := σ) rfl trivial ?_
    exact aw_iret dX0_heldBits_32 rfl ⟨aret (by rw [show n = 5 by omega]), rfl⟩
  · have bc := hw.co (f := (n : Int)) (by omega) (by omega)
    have bh := hw.ho (f := (n : Int)) (by omega) (by omega)
    have ro := hR.of (f := (n : Int)) (by omega) (by omega)
    have nh := nb_cases (r (8 + (n : Int)))
    refine aw_b kX0_ok bX0_heldBits_9_ok (Cs := [c < 3, c < 3, 0 ≤ (n : Int) ∧ (n : Int) < 5]) (pc' := 16) (L' := [some (aR 1 c), some (aI (hbN r n)), some (aI (n : Int))]) (st' := [aI (-1), aI (σ 8 c (n : Int))]) (σ' := σ) rfl (show (c < 3) ∧ (c < 3) ∧ (0 ≤ (n : Int) ∧ (n : Int) < 5) from ⟨by omega, by omega, by omega⟩) ?_
    refine aw_ceq dX0_heldBits_16 (tgt := 25) (by decide) ⟨by omega, by omega⟩ ⟨by omega, by omega⟩ (fun wh2 => ?_) (fun wh2 => ?_)
    · refine aw_b kX0_ok bX0_heldBits_25_ok (Cs := []) (pc' := 4) (L' := [some (aR 1 c), some (aI (hbN r n)), some (aI ((n : Int) + 1))]) (st' := []) (σ' := σ) rfl trivial ?_
      exact aw_eq (by simp only [hbN]; (first | rw [if_pos (by omega), (hbN_step r (show n < 5 by omega)).1] | rw [if_neg (by omega), Int.add_zero]); rfl) rfl rfl (ihn (by omega))
    · refine aw_b kX0_ok bX0_heldBits_19_ok (Cs := [0 ≤ (n : Int) ∧ (n : Int) < 32]) (pc' := 25) (L' := [some (aR 1 c), some (aI (aOr (hbN r n) (1 * 2 ^ (Int.toNat (n : Int))))), some (aI (n : Int))]) (st' := []) (σ' := σ) rfl (show 0 ≤ (n : Int) ∧ (n : Int) < 32 from by omega) ?_
      refine aw_b kX0_ok bX0_heldBits_25_ok (Cs := []) (pc' := 4) (L' := [some (aR 1 c), some (aI (aOr (hbN r n) (1 * 2 ^ (Int.toNat (n : Int))))), some (aI ((n : Int) + 1))]) (st' := []) (σ' := σ) rfl trivial ?_
      exact aw_eq (by simp only [hbN]; (first | rw [if_pos (by omega), (hbN_step r (show n < 5 by omega)).1] | rw [if_neg (by omega), Int.add_zero]); rfl) rfl rfl (ihn (by omega))
def hcR (r : aRw) : Int := bcN (hbN r 5) 8
theorem bcN_rng : ∀ n : Nat, n < 256 → 0 ≤ bcN (n : Int) 8 ∧ bcN (n : Int) 8 ≤ 8 := by decide +kernel
theorem hbN_nat (r : aRw) : ∃ n : Nat, n < 256 ∧ hbN r 5 = (n : Int) := by
  have h := hbN_rng r 5
  obtain ⟨n, hn⟩ := Int.eq_ofNat_of_zero_le h.1
  refine ⟨n, ?_, hn⟩
  have h2 : hbN r 5 < 32 := h.2
  omega
theorem hcR_rng (r : aRw) : 0 ≤ hcR r ∧ hcR r ≤ 8 := by
  obtain ⟨n, hn, e⟩ := hbN_nat r
  unfold hcR
  rw [e]
  exact bcN_rng n hn
theorem cJ_bitCount' (l : Launch) (r : aRw) (σ : aS) : AM l 0 mJ6_bitCount_0f7a4 [aI (hbN r 5)] σ (aF (some (aI (hcR r))) σ) := by
  obtain ⟨n, hn, e⟩ := hbN_nat r
  unfold hcR
  rw [e]
  exact cJ_bitCount l n hn σ
set_option maxRecDepth 10000 in
theorem cC_heldCount (l : Launch) (c : Nat) (hc : c < 3) (σ : aS) (r : aRw) (hR : Rep σ c r) (hw : WF r) : AM l 1 mX0_heldCount [aR 1 c] σ (aF (some (aI (hcR r))) σ) := by
  have bn := hw.1
  have en := hR.n
  refine am_of (by decide) (Nat.le_of_ble_eq_true rfl) (L := [some (aR 1 c)]) rfl ?_
  refine aw_b kX0_ok bX0_heldCount_0_ok (Cs := []) (pc' := 1) (L' := [some (aR 1 c)]) (st' := [aR 1 c]) (σ' := σ) rfl trivial ?_
  refine aw_fV lX0_95 (as := []) (rest := []) (t := 1) (c := c) (by decide) (by decide) (show c < 3 by omega) rfl rfl (Nat.le_of_ble_eq_true rfl) rfl dX0_heldCount_1 (cC_heldBits l c (by omega) σ r hR hw) ?_
  refine aw_fS lX0_99 (as := [aI (hbN r 5)]) (rest := []) (by decide) rfl (Nat.le_of_ble_eq_true rfl) rfl dX0_heldCount_4 (cJ_bitCount' l r σ) ?_
  exact aw_iret dX0_heldCount_7 rfl ⟨rfl, rfl⟩
def swR (r : aRw) (p : Int) : Int := if off r p < 0 then 0 else (shF (r (aOf p 0)) (r (aOf p 1)) (r (3 + off r p)) (r 1)).tdiv (if 1 < cntC r (r (3 + off r p)) 5 then 2 else 1)
set_option maxRecDepth 10000 in
theorem cC_showing (l : Launch) (p : Int) (c : Nat) (hc : c < 3) (σ : aS) (r : aRw) (hR : Rep σ c r) (hw : WF r) (h0 : 0 ≤ p) (h1 : p < r 0) (hd : r 1 ≤ 1000000) : AM l 2 mX0_showing [aR 1 c, aI p] σ (aF (some (aI (swR r p))) σ) := by
  have bn := hw.1
  have en := hR.n
  have bp := hw.pe (p := p) (by omega) (by omega)
  have rp := hR.pe (p := p) (by omega) (by omega)
  have bo := off_rng r p
  have no := nb_cases (off r p)
  have b1 := hw.2.1
  have e1 := hR.1.2.1
  refine am_of (by decide) (Nat.le_of_ble_eq_true rfl) (L := [some (aR 1 c), some (aI p), none, none]) rfl ?_
  refine aw_b kX0_ok bX0_showing_0_ok (Cs := [c < 3, c < 3, 0 ≤ p ∧ p < 8]) (pc' := 8) (L' := [some (aR 1 c), some (aI p), some (aI (σ 6 c p)), none]) (st' := [aI (σ 6 c p)]) (σ' := σ) rfl (show (c < 3) ∧ (c < 3) ∧ (0 ≤ p ∧ p < 8) from ⟨by omega, by omega, by omega⟩) ?_
  refine aw_bN lX0_46 (as := [aI (σ 6 c p)]) (rest := []) (by decide) rfl (Nat.le_of_ble_eq_true rfl) rfl dX0_showing_8 (cC_isOffice l (σ 6 c p) σ ⟨by omega, by omega⟩) (fun wh1 => ?_) (fun wh1 => ?_)
  · have e6 : σ 6 c p = off r p := by omega
    have bc := hw.co (f := σ 6 c p) (by omega) (by omega)
    have bh := hw.ho (f := σ 6 c p) (by omega) (by omega)
    have ro := hR.of (f := σ 6 c p) (by omega) (by omega)
    have nh := nb_cases (r (8 + (σ 6 c p)))
    have e7 : σ 7 c (σ 6 c p) = r (3 + off r p) := by rw [ro.1, e6]
    have bs := shF_rng (kind := σ 2 c p) (f := σ 3 c p) (k := σ 7 c (σ 6 c p)) (day := σ 1 c 1) (by omega) (by omega)
    refine aw_ine dX0_showing_11 (tgt := 16) (by decide) ⟨by omega, by omega⟩ (fun wh2 => ?_) (fun wh2 => absurd wh2 (by decide))
    refine aw_b kX0_ok bX0_showing_16_ok (Cs := [c < 3, c < 3, 0 ≤ p ∧ p < 8, c < 3, c < 3, 0 ≤ p ∧ p < 8, c < 3, c < 3, 0 ≤ σ 6 c p ∧ σ 6 c p < 5, c < 3]) (pc' := 38) (L' := [some (aR 1 c), some (aI p), some (aI (σ 6 c p)), none]) (st' := [aI (σ 1 c 1), aI (σ 7 c (σ 6 c p)), aI (σ 3 c p), aI (σ 2 c p)]) (σ' := σ) rfl (show (c < 3) ∧ (c < 3) ∧ (0 ≤ p ∧ p < 8) ∧ (c < 3) ∧ (c < 3) ∧ (0 ≤ p ∧ p < 8) ∧ (c < 3) ∧ (c < 3) ∧ (0 ≤ σ 6 c p ∧ σ 6 c p < 5) ∧ (c < 3) from ⟨by omega, by omega, by omega, by omega, by omega, by omega, by omega, by omega, by omega, by omega⟩) ?_
    refine aw_fS lX0_88 (as := [aI (σ 2 c p), aI (σ 3 c p), aI (σ 7 c (σ 6 c p)), aI (σ 1 c 1)]) (rest := []) (by decide) rfl (Nat.le_of_ble_eq_true rfl) rfl dX0_showing_38 (cC_shown l (σ 2 c p) (σ 3 c p) (σ 7 c (σ 6 c p)) (σ 1 c 1) σ ⟨by omega, by omega⟩ ⟨by omega, by omega⟩ ⟨by omega, by omega⟩ ⟨by omega, by omega⟩) ?_
    refine aw_b kX0_ok bX0_showing_41_ok (Cs := [c < 3, c < 3, 0 ≤ σ 6 c p ∧ σ 6 c p < 5]) (pc' := 49) (L' := [some (aR 1 c), some (aI p), some (aI (σ 6 c p)), some (aI (shF (σ 2 c p) (σ 3 c p) (σ 7 c (σ 6 c p)) (σ 1 c 1)))]) (st' := [aI (σ 7 c (σ 6 c p)), aR 1 c]) (σ' := σ) rfl (show (c < 3) ∧ (c < 3) ∧ (0 ≤ σ 6 c p ∧ σ 6 c p < 5) from ⟨by omega, by omega, by omega⟩) ?_
    refine aw_fV lX0_92 (as := [aI (σ 7 c (σ 6 c p))]) (rest := []) (t := 1) (c := c) (by decide) (by decide) (show c < 3 by omega) rfl rfl (Nat.le_of_ble_eq_true rfl) rfl dX0_showing_49 (cC_heldIn l (σ 7 c (σ 6 c p)) c (by omega) σ r hR hw ⟨by omega, by omega⟩) ?_
    have qc := cntC_le r (σ 7 c (σ 6 c p)) 5
    refine aw_b kX0_ok bX0_showing_52_ok (Cs := []) (pc' := 53) (L' := [some (aR 1 c), some (aI p), some (aI (σ 6 c p)), some (aI (shF (σ 2 c p) (σ 3 c p) (σ 7 c (σ 6 c p)) (σ 1 c 1)))]) (st' := [aI 1, aI (cntC r (σ 7 c (σ 6 c p)) 5)]) (σ' := σ) rfl trivial ?_
    refine aw_cle dX0_showing_53 (tgt := 62) (by decide) ⟨by omega, by omega⟩ ⟨by omega, by omega⟩ (fun wh3 => ?_) (fun wh3 => ?_)
    · refine aw_b kX0_ok bX0_showing_62_ok (Cs := []) (pc' := 63) (L' := [some (aR 1 c), some (aI p), some (aI (σ 6 c p)), some (aI (shF (σ 2 c p) (σ 3 c p) (σ 7 c (σ 6 c p)) (σ 1 c 1)))]) (st' := [aI (shF (σ 2 c p) (σ 3 c p) (σ 7 c (σ 6 c p)) (σ 1 c 1))]) (σ' := σ) rfl trivial ?_
      exact aw_iret dX0_showing_63 rfl ⟨aret (by unfold swR; rw [if_neg (by omega), ← rp.1, ← rp.2.1, ← e7, ← e1]; (first | rw [if_pos (by omega)] | rw [if_neg (by omega), Int.tdiv_one])), rfl⟩
    · refine aw_b kX0_ok bX0_showing_56_ok (Cs := [-2147483648 ≤ shF (σ 2 c p) (σ 3 c p) (σ 7 c (σ 6 c p)) (σ 1 c 1) ∧ shF (σ 2 c p) (σ 3 c p) (σ 7 c (σ 6 c p)) (σ 1 c 1) < 2147483648, 0 < 2 ∧ 2 < 2147483648]) (pc' := 63) (L' := [some (aR 1 c), some (aI p), some (aI (σ 6 c p)), some (aI (shF (σ 2 c p) (σ 3 c p) (σ 7 c (σ 6 c p)) (σ 1 c 1)))]) (st' := [aI (Int.tdiv (shF (σ 2 c p) (σ 3 c p) (σ 7 c (σ 6 c p)) (σ 1 c 1)) 2)]) (σ' := σ) rfl (show (-2147483648 ≤ shF (σ 2 c p) (σ 3 c p) (σ 7 c (σ 6 c p)) (σ 1 c 1) ∧ shF (σ 2 c p) (σ 3 c p) (σ 7 c (σ 6 c p)) (σ 1 c 1) < 2147483648) ∧ (0 < 2 ∧ 2 < 2147483648) from ⟨by omega, by omega⟩) ?_
      exact aw_iret dX0_showing_63 rfl ⟨aret (by unfold swR; rw [if_neg (by omega), ← rp.1, ← rp.2.1, ← e7, ← e1]; (first | rw [if_pos (by omega)] | rw [if_neg (by omega), Int.tdiv_one])), rfl⟩
  · refine aw_ine dX0_showing_11 (tgt := 16) (by decide) ⟨by omega, by omega⟩ (fun wh4 => absurd wh4 (by decide)) (fun wh4 => ?_)
    refine aw_b kX0_ok bX0_showing_14_ok (Cs := []) (pc' := 15) (L' := [some (aR 1 c), some (aI p), some (aI (σ 6 c p)), none]) (st' := [aI 0]) (σ' := σ) rfl trivial ?_
    exact aw_iret dX0_showing_15 rfl ⟨aret (by unfold swR; rw [if_pos (by omega)]), rfl⟩
def PQ (c : Nat) (σ : aS) (r' : aRw) (e3 : Int) : Option aV → aS → Prop := fun v σ' => v = none ∧ Rep σ' c r' ∧ aFr (Cb c) σ σ' ∧ σ' 1 c 3 = e3
def emR (r : aRw) (f : Int) : aRw := if 0 ≤ f ∧ f < 5 then rUp r (8 + f) (-4) else r
theorem emR_wf {r : aRw} (h : WF r) (f : Int) : WF (emR r f) := by
  unfold emR
  split
  · rename_i hf; exact WF_empty h hf.1 hf.2
  · exact h
theorem cb {c t : Nat} (h : 1 ≤ t ∧ t ≤ 8) : Cb c t c := ⟨h.1, h.2, rfl⟩
theorem Rep_va1 {σ : aS} {c : Nat} {r : aRw} (h : Rep σ c r) (hw : WF r) {f : Int} (f0 : 0 ≤ f) (f1 : f < 5) (he : r (8 + f) < 0) : Rep (aUp σ 8 c f (-1)) c (rUp r (8 + f) (-4)) :=
  Rep_empty h hw f0 f1 aUp_same (fun p h0 h1 => by rw [aUp_tag (by decide), if_neg (by omega)]) (fun g hg => aUp_idx hg) (fun t i _ _ _ h8 _ => aUp_tag h8)
theorem Rep_va2 {σ : aS} {c : Nat} {r : aRw} (h : Rep σ c r) (hw : WF r) {f p : Int} (f0 : 0 ≤ f) (f1 : f < 5) (he : r (8 + f) = p) : Rep (aUp (aUp σ 6 c p (-1)) 8 c f (-1)) c (rUp r (8 + f) (-4)) :=
  Rep_empty h hw f0 f1 aUp_same (fun q h0 h1 => by
    rw [aUp_tag (by decide)]
    by_cases hq : q = p
    · rw [hq, aUp_same, if_pos he.symm]
    · rw [aUp_idx hq, if_neg (by omega)]) (fun g hg => by rw [aUp_idx hg, aUp_tag (by decide)]) (fun t i _ _ h6 h8 _ => by rw [aUp_tag h8, aUp_tag h6])
theorem Rep_ho {σ : aS} {c : Nat} {r : aRw} (h : Rep σ c r) (hw : WF r) {f p : Int} (f0 : 0 ≤ f) (f1 : f < 5) (p0 : 0 ≤ p) (p1 : p < r 0) (he : r (8 + f) < 0) (hn : off r p < 0) : Rep (aUp (aUp σ 8 c f p) 6 c p f) c (rUp r (8 + f) p) :=
  Rep_hold h hw f0 f1 p0 p1 he hn (by rw [aUp_tag (by decide), aUp_same]) (fun q h0 h1 => by
    by_cases hq : q = p
    · rw [hq, aUp_same, if_pos rfl]
    · rw [aUp_idx hq, aUp_tag (by decide), if_neg hq]) (fun g hg => by rw [aUp_tag (by decide), aUp_idx hg]) (fun t i _ _ h6 h8 _ => by rw [aUp_tag h6, aUp_tag h8])
set_option maxRecDepth 10000 in
theorem cC_vacate (l : Launch) (f : Int) (c : Nat) (hc : c < 3) (σ : aS) (r : aRw) (hR : Rep σ c r) (hw : WF r) (hf : aIr f) : AM l 1 mX0_vacate [aR 1 c, aI f] σ (PQ c σ (emR r f) (σ 1 c 3)) := by
  have bn := hw.1
  have en := hR.n
  refine am_of (by decide) (Nat.le_of_ble_eq_true rfl) (L := [some (aR 1 c), some (aI f), none]) rfl ?_
  refine aw_b kX0_ok bX0_vacate_0_ok (Cs := []) (pc' := 1) (L' := [some (aR 1 c), some (aI f), none]) (st' := [aI f]) (σ' := σ) rfl trivial ?_
  refine aw_bN lX0_46 (as := [aI f]) (rest := []) (by decide) rfl (Nat.le_of_ble_eq_true rfl) rfl dX0_vacate_1 (cC_isOffice l f σ ⟨by omega, by omega⟩) (fun wh1 => ?_) (fun wh1 => ?_)
  · have bc := hw.co (f := f) (by omega) (by omega)
    have bh := hw.ho (f := f) (by omega) (by omega)
    have ro := hR.of (f := f) (by omega) (by omega)
    have nh := nb_cases (r (8 + f))
    refine aw_ine dX0_vacate_4 (tgt := 8) (by decide) ⟨by omega, by omega⟩ (fun wh2 => ?_) (fun wh2 => absurd wh2 (by decide))
    refine aw_b kX0_ok bX0_vacate_8_ok (Cs := [c < 3, c < 3, 0 ≤ f ∧ f < 5]) (pc' := 17) (L' := [some (aR 1 c), some (aI f), some (aI (σ 8 c f))]) (st' := [aI (σ 8 c f), aR 1 c]) (σ' := σ) rfl (show (c < 3) ∧ (c < 3) ∧ (0 ≤ f ∧ f < 5) from ⟨by omega, by omega, by omega⟩) ?_
    refine aw_bV lX0_50 (as := [aI (σ 8 c f)]) (rest := []) (t := 1) (c := c) (by decide) (by decide) (show c < 3 by omega) rfl rfl (Nat.le_of_ble_eq_true rfl) rfl dX0_vacate_17 (cC_isThere l (σ 8 c f) c (by omega) σ r hR hw ⟨by omega, by omega⟩) (fun wh3 => ?_) (fun wh3 => ?_)
    · refine aw_ieq dX0_vacate_20 (tgt := 30) (by decide) ⟨by omega, by omega⟩ (fun wh4 => absurd wh4 (by decide)) (fun wh4 => ?_)
      refine aw_b kX0_ok bX0_vacate_23_ok (Cs := [c < 3, c < 3, 0 ≤ σ 8 c f ∧ σ 8 c f < 8]) (pc' := 30) (L' := [some (aR 1 c), some (aI f), some (aI (σ 8 c f))]) (st' := []) (σ' := aUp σ 6 c (σ 8 c f) (-1)) rfl (show (c < 3) ∧ (c < 3) ∧ (0 ≤ σ 8 c f ∧ σ 8 c f < 8) from ⟨by omega, by omega, by omega⟩) ?_
      refine aw_b kX0_ok bX0_vacate_30_ok (Cs := [c < 3, c < 3, 0 ≤ f ∧ f < 5]) (pc' := 37) (L' := [some (aR 1 c), some (aI f), some (aI (σ 8 c f))]) (st' := []) (σ' := aUp (aUp σ 6 c (σ 8 c f) (-1)) 8 c f (-1)) rfl (show (c < 3) ∧ (c < 3) ∧ (0 ≤ f ∧ f < 5) from ⟨by omega, by omega, by omega⟩) ?_
      exact aw_vret dX0_vacate_37 rfl ⟨rfl, by unfold emR; rw [if_pos (by omega)]; exact Rep_va2 hR hw (by omega) (by omega) (by omega), aFr_tr (aFr_up (cb (by decide))) (aFr_up (cb (by decide))), by rw [aUp_tag (by decide), aUp_tag (by decide)]⟩
    · refine aw_ieq dX0_vacate_20 (tgt := 30) (by decide) ⟨by omega, by omega⟩ (fun wh5 => ?_) (fun wh5 => absurd wh5 (by decide))
      refine aw_b kX0_ok bX0_vacate_30_ok (Cs := [c < 3, c < 3, 0 ≤ f ∧ f < 5]) (pc' := 37) (L' := [some (aR 1 c), some (aI f), some (aI (σ 8 c f))]) (st' := []) (σ' := aUp σ 8 c f (-1)) rfl (show (c < 3) ∧ (c < 3) ∧ (0 ≤ f ∧ f < 5) from ⟨by omega, by omega, by omega⟩) ?_
      exact aw_vret dX0_vacate_37 rfl ⟨rfl, by unfold emR; rw [if_pos (by omega)]; exact Rep_va1 hR hw (by omega) (by omega) (by omega), aFr_up (cb (by decide)), by rw [aUp_tag (by decide)]⟩
  · refine aw_ine dX0_vacate_4 (tgt := 8) (by decide) ⟨by omega, by omega⟩ (fun wh6 => absurd wh6 (by decide)) (fun wh6 => ?_)
    exact aw_vret dX0_vacate_7 rfl ⟨rfl, by unfold emR; rw [if_neg (by omega)]; exact hR, aFr_rf, rfl⟩
set_option maxRecDepth 10000 in
theorem cC_sendHome (l : Launch) (p : Int) (c : Nat) (hc : c < 3) (σ : aS) (r : aRw) (hR : Rep σ c r) (hw : WF r) (h0 : 0 ≤ p) (h1 : p < r 0) : AM l 2 mX0_sendHome [aR 1 c, aI p] σ (PQ c σ (emR r (nb (off r p))) (σ 1 c 3)) := by
  have bn := hw.1
  have en := hR.n
  have bp := hw.pe (p := p) (by omega) (by omega)
  have rp := hR.pe (p := p) (by omega) (by omega)
  have bo := off_rng r p
  have no := nb_cases (off r p)
  refine am_of (by decide) (Nat.le_of_ble_eq_true rfl) (L := [some (aR 1 c), some (aI p)]) rfl ?_
  refine aw_b kX0_ok bX0_sendHome_0_ok (Cs := []) (pc' := 2) (L' := [some (aR 1 c), some (aI p)]) (st' := [aI p, aR 1 c]) (σ' := σ) rfl trivial ?_
  refine aw_bV lX0_50 (as := [aI p]) (rest := []) (t := 1) (c := c) (by decide) (by decide) (show c < 3 by omega) rfl rfl (Nat.le_of_ble_eq_true rfl) rfl dX0_sendHome_2 (cC_isThere l p c (by omega) σ r hR hw ⟨by omega, by omega⟩) (fun wh1 => ?_) (fun wh1 => ?_)
  · refine aw_ieq dX0_sendHome_5 (tgt := 18) (by decide) ⟨by omega, by omega⟩ (fun wh2 => absurd wh2 (by decide)) (fun wh2 => ?_)
    refine aw_b kX0_ok bX0_sendHome_8_ok (Cs := [c < 3, c < 3, 0 ≤ p ∧ p < 8]) (pc' := 15) (L' := [some (aR 1 c), some (aI p)]) (st' := [aI (σ 6 c p), aR 1 c]) (σ' := σ) rfl (show (c < 3) ∧ (c < 3) ∧ (0 ≤ p ∧ p < 8) from ⟨by omega, by omega, by omega⟩) ?_
    refine aw_callV lX0_53 (as := [aI (σ 6 c p)]) (rest := []) (t := 1) (c := c) (by decide) (by decide) (show c < 3 by omega) rfl rfl (Nat.le_of_ble_eq_true rfl) rfl dX0_sendHome_15 (cC_vacate l (σ 6 c p) c hc σ r hR hw ⟨by omega, by omega⟩) ?_
    rintro _ τ1 ⟨rfl, hR1, hF1, h31⟩
    exact aw_vret dX0_sendHome_18 rfl ⟨rfl, by rw [← rp.2.2.2.2]; exact hR1, hF1, h31⟩
  · exfalso; omega
def hoR (r : aRw) (f p : Int) : aRw := rUp (emR (emR r (nb (off r p))) f) (8 + f) p
theorem emR_at {r : aRw} {f j : Int} (h : j < 8 ∨ 13 ≤ j) : emR r f j = r j := by
  unfold emR
  split
  · rw [rUp_ne (by omega)]
  · rfl
theorem emR_self {r : aRw} {f : Int} (h : 0 ≤ f ∧ f < 5) : emR r f (8 + f) = -4 := by
  unfold emR
  rw [if_pos h, rUp_eq]
theorem emR_off {r : aRw} (hw : WF r) {f q : Int} (hf : 0 ≤ f ∧ f < 5) (hq : 0 ≤ q) : off (emR r f) q = if q = r (8 + f) then -4 else off r q := by
  unfold emR
  rw [if_pos hf]
  exact off_empty hw hf.1 hf.2 hq
/-- who goes home holds no office -/
theorem emR_home {r : aRw} (hw : WF r) {p : Int} (h0 : 0 ≤ p) : off (emR r (nb (off r p))) p < 0 := by
  rcases off_cases r p with k | ⟨k1, k2, k3⟩
  · have e : nb (off r p) = -1 := by rw [k]; decide
    unfold emR
    rw [e, if_neg (by omega), k]
    decide
  · have e : nb (off r p) = off r p := by unfold nb; rw [if_neg (by omega)]
    rw [e, emR_off hw ⟨k1, k2⟩ h0, if_pos k3.symm]
    decide
theorem emR_keep {r : aRw} (hw : WF r) {f p : Int} (h0 : 0 ≤ p) (h : off r p < 0) : off (emR r f) p < 0 := by
  by_cases hf : 0 ≤ f ∧ f < 5
  · rw [emR_off hw hf h0]
    split
    · decide
    · exact h
  · unfold emR
    rw [if_neg hf]
    exact h
theorem hoR_wf {r : aRw} (hw : WF r) {f p : Int} (f0 : 0 ≤ f) (f1 : f < 5) (h0 : 0 ≤ p) (h1 : p < r 0) : WF (hoR r f p) := by
  have hw1 := emR_wf hw (nb (off r p))
  have hw2 := emR_wf hw1 f
  refine WF_hold hw2 f0 f1 h0 (by rw [emR_at (by omega), emR_at (by omega)]; exact h1) (fun g g0 g1 _ => off_neg (emR_keep hw1 h0 (emR_home hw h0)) g g0 g1)
set_option maxRecDepth 10000 in
theorem cC_install (l : Launch) (f p : Int) (c : Nat) (hc : c < 3) (σ : aS) (r : aRw) (hR : Rep σ c r) (hw : WF r) (f0 : 0 ≤ f) (f1 : f < 5) (h0 : 0 ≤ p) (h1 : p < r 0) : AM l 2 mX0_install [aR 1 c, aI f, aI p] σ (PQ c σ (hoR r f p) (σ 1 c 3)) := by
  have bn := hw.1
  have en := hR.n
  have bp := hw.pe (p := p) (by omega) (by omega)
  have rp := hR.pe (p := p) (by omega) (by omega)
  have bo := off_rng r p
  have no := nb_cases (off r p)
  have hw1 := emR_wf hw (nb (off r p))
  have hw2 := emR_wf hw1 f
  refine am_of (by decide) (Nat.le_of_ble_eq_true rfl) (L := [some (aR 1 c), some (aI f), some (aI p)]) rfl ?_
  refine aw_b kX0_ok bX0_install_0_ok (Cs := []) (pc' := 1) (L' := [some (aR 1 c), some (aI f), some (aI p)]) (st' := [aI f]) (σ' := σ) rfl trivial ?_
  refine aw_bN lX0_46 (as := [aI f]) (rest := []) (by decide) rfl (Nat.le_of_ble_eq_true rfl) rfl dX0_install_1 (cC_isOffice l f σ ⟨by omega, by omega⟩) (fun wh1 => ?_) (fun wh1 => ?_)
  · refine aw_ieq dX0_install_4 (tgt := 15) (by decide) ⟨by omega, by omega⟩ (fun wh2 => absurd wh2 (by decide)) (fun wh2 => ?_)
    refine aw_b kX0_ok bX0_install_7_ok (Cs := []) (pc' := 9) (L' := [some (aR 1 c), some (aI f), some (aI p)]) (st' := [aI p, aR 1 c]) (σ' := σ) rfl trivial ?_
    refine aw_bV lX0_50 (as := [aI p]) (rest := []) (t := 1) (c := c) (by decide) (by decide) (show c < 3 by omega) rfl rfl (Nat.le_of_ble_eq_true rfl) rfl dX0_install_9 (cC_isThere l p c (by omega) σ r hR hw ⟨by omega, by omega⟩) (fun wh3 => ?_) (fun wh3 => ?_)
    · refine aw_ine dX0_install_12 (tgt := 16) (by decide) ⟨by omega, by omega⟩ (fun wh4 => ?_) (fun wh4 => absurd wh4 (by decide))
      refine aw_b kX0_ok bX0_install_16_ok (Cs := [c < 3, c < 3, 0 ≤ p ∧ p < 8]) (pc' := 23) (L' := [some (aR 1 c), some (aI f), some (aI p)]) (st' := [aI (σ 6 c p), aR 1 c]) (σ' := σ) rfl (show (c < 3) ∧ (c < 3) ∧ (0 ≤ p ∧ p < 8) from ⟨by omega, by omega, by omega⟩) ?_
      refine aw_callV lX0_53 (as := [aI (σ 6 c p)]) (rest := []) (t := 1) (c := c) (by decide) (by decide) (show c < 3 by omega) rfl rfl (Nat.le_of_ble_eq_true rfl) rfl dX0_install_23 (cC_vacate l (σ 6 c p) c hc σ r hR hw ⟨by omega, by omega⟩) ?_
      rintro _ τ1 ⟨rfl, hR1, hF1, h31⟩
      rw [rp.2.2.2.2] at hR1
      refine aw_b kX0_ok bX0_install_26_ok (Cs := []) (pc' := 28) (L' := [some (aR 1 c), some (aI f), some (aI p)]) (st' := [aI f, aR 1 c]) (σ' := τ1) rfl trivial ?_
      refine aw_callV lX0_53 (as := [aI f]) (rest := []) (t := 1) (c := c) (by decide) (by decide) (show c < 3 by omega) rfl rfl (Nat.le_of_ble_eq_true rfl) rfl dX0_install_28 (cC_vacate l f c hc τ1 (emR r (nb (off r p))) hR1 hw1 ⟨by omega, by omega⟩) ?_
      rintro _ τ2 ⟨rfl, hR2, hF2, h32⟩
      refine aw_b kX0_ok bX0_install_31_ok (Cs := [c < 3, c < 3, 0 ≤ f ∧ f < 5, c < 3, c < 3, 0 ≤ p ∧ p < 8]) (pc' := 45) (L' := [some (aR 1 c), some (aI f), some (aI p)]) (st' := []) (σ' := aUp (aUp τ2 8 c f p) 6 c p f) rfl (show (c < 3) ∧ (c < 3) ∧ (0 ≤ f ∧ f < 5) ∧ (c < 3) ∧ (c < 3) ∧ (0 ≤ p ∧ p < 8) from ⟨by omega, by omega, by omega, by omega, by omega, by omega⟩) ?_
      exact aw_vret dX0_install_45 rfl ⟨rfl, by unfold hoR; exact Rep_ho hR2 hw2 f0 f1 h0 (by rw [emR_at (by omega), emR_at (by omega)]; exact h1) (by rw [emR_self ⟨f0, f1⟩]; decide) (emR_keep hw1 h0 (emR_home hw h0)), aFr_tr (aFr_tr hF1 hF2) (aFr_tr (aFr_up (cb (by decide))) (aFr_up (cb (by decide)))), by rw [aUp_tag (by decide), aUp_tag (by decide), h32, h31]⟩
    · exfalso; omega
  · exfalso; omega
end
section
/-! ===== the class: falls, a day ===== -/
theorem Rep_day {σ : aS} {c : Nat} {r : aRw} (h : Rep σ c r) (hw : WF r) (x : Int) : Rep (aUp σ 1 c 1 x) c (rUp r 1 x) := by
  obtain ⟨⟨a, b, d⟩, e, k⟩ := h
  have bn := hw.1
  refine ⟨⟨by rw [aUp_idx (by decide), rUp_ne (by decide)]; exact a, by rw [aUp_same, rUp_eq], by rw [aUp_idx (by decide), rUp_ne (by decide)]; exact d⟩, fun p h0 h1 => ?_, fun g h0 h1 => ?_⟩
  · rw [rUp_ne (by decide)] at h1
    have z := e p h0 h1
    have b0 := aOf_rng (p := p) (w := 0) h0 (by omega) (by decide) (by decide)
    have b1 := aOf_rng (p := p) (w := 1) h0 (by omega) (by decide) (by decide)
    have b2 := aOf_rng (p := p) (w := 2) h0 (by omega) (by decide) (by decide)
    have b3 := aOf_rng (p := p) (w := 3) h0 (by omega) (by decide) (by decide)
    rw [aUp_tag (by decide), aUp_tag (by decide), aUp_tag (by decide), aUp_tag (by decide), aUp_tag (by decide), rUp_ne (by omega), rUp_ne (by omega), rUp_ne (by omega), rUp_ne (by omega), off_cong (r := r) (r' := rUp r 1 x) (fun f f0 f1 => rUp_ne (by omega))]
    exact z
  · rw [aUp_tag (by decide), aUp_tag (by decide), rUp_ne (by omega), rUp_ne (by omega)]; exact k g h0 h1
theorem Rep_falls {σ : aS} {c : Nat} {r : aRw} (h : Rep σ c r) (hw : WF r) (x : Int) : Rep (aUp σ 1 c 2 x) c (rUp r 2 x) := by
  obtain ⟨⟨a, b, d⟩, e, k⟩ := h
  have bn := hw.1
  refine ⟨⟨by rw [aUp_idx (by decide), rUp_ne (by decide)]; exact a, by rw [aUp_idx (by decide), rUp_ne (by decide)]; exact b, by rw [aUp_same, rUp_eq]⟩, fun p h0 h1 => ?_, fun g h0 h1 => ?_⟩
  · rw [rUp_ne (by decide)] at h1
    have z := e p h0 h1
    have b0 := aOf_rng (p := p) (w := 0) h0 (by omega) (by decide) (by decide)
    have b1 := aOf_rng (p := p) (w := 1) h0 (by omega) (by decide) (by decide)
    have b2 := aOf_rng (p := p) (w := 2) h0 (by omega) (by decide) (by decide)
    have b3 := aOf_rng (p := p) (w := 3) h0 (by omega) (by decide) (by decide)
    rw [aUp_tag (by decide), aUp_tag (by decide), aUp_tag (by decide), aUp_tag (by decide), aUp_tag (by decide), rUp_ne (by omega), rUp_ne (by omega), rUp_ne (by omega), rUp_ne (by omega), off_cong (r := r) (r' := rUp r 2 x) (fun f f0 f1 => rUp_ne (by omega))]
    exact z
  · rw [aUp_tag (by decide), aUp_tag (by decide), rUp_ne (by omega), rUp_ne (by omega)]; exact k g h0 h1
theorem Rep_kind {σ : aS} {c : Nat} {r : aRw} (h : Rep σ c r) (hw : WF r) {p : Int} (p0 : 0 ≤ p) (p1 : p < r 0) (x : Int) : Rep (aUp σ 2 c p x) c (rUp r (aOf p 0) x) := by
  obtain ⟨⟨a, b, d⟩, e, k⟩ := h
  have bn := hw.1
  have b9 := aOf_rng (p := p) (w := 0) p0 (by omega) (by decide) (by decide)
  refine ⟨⟨by rw [aUp_tag (by decide), rUp_ne (by omega)]; exact a, by rw [aUp_tag (by decide), rUp_ne (by omega)]; exact b, by rw [aUp_tag (by decide), rUp_ne (by omega)]; exact d⟩, fun q h0 h1 => ?_, fun g h0 h1 => ?_⟩
  · rw [rUp_ne (by omega)] at h1
    have z := e q h0 h1
    rw [off_cong (r := r) (r' := rUp r (aOf p 0) x) (fun f f0 f1 => rUp_ne (by omega))]
    refine ⟨?_, ?_, ?_, ?_, ?_⟩
    · by_cases hq : q = p
      · rw [hq, aUp_same, rUp_eq]
      · rw [aUp_idx hq, rUp_ne (by unfold aOf; omega)]; exact z.1
    · rw [aUp_tag (by decide), rUp_ne (by unfold aOf; omega)]; exact z.2.1
    · rw [aUp_tag (by decide), rUp_ne (by unfold aOf; omega)]; exact z.2.2.1
    · rw [aUp_tag (by decide), rUp_ne (by unfold aOf; omega)]; exact z.2.2.2.1
    · rw [aUp_tag (by decide)]; exact z.2.2.2.2
  · rw [aUp_tag (by decide), aUp_tag (by decide), rUp_ne (by omega), rUp_ne (by omega)]; exact k g h0 h1
theorem Rep_fig {σ : aS} {c : Nat} {r : aRw} (h : Rep σ c r) (hw : WF r) {p : Int} (p0 : 0 ≤ p) (p1 : p < r 0) (x : Int) : Rep (aUp σ 3 c p x) c (rUp r (aOf p 1) x) := by
  obtain ⟨⟨a, b, d⟩, e, k⟩ := h
  have bn := hw.1
  have b9 := aOf_rng (p := p) (w := 1) p0 (by omega) (by decide) (by decide)
  refine ⟨⟨by rw [aUp_tag (by decide), rUp_ne (by omega)]; exact a, by rw [aUp_tag (by decide), rUp_ne (by omega)]; exact b, by rw [aUp_tag (by decide), rUp_ne (by omega)]; exact d⟩, fun q h0 h1 => ?_, fun g h0 h1 => ?_⟩
  · rw [rUp_ne (by omega)] at h1
    have z := e q h0 h1
    rw [off_cong (r := r) (r' := rUp r (aOf p 1) x) (fun f f0 f1 => rUp_ne (by omega))]
    refine ⟨?_, ?_, ?_, ?_, ?_⟩
    · rw [aUp_tag (by decide), rUp_ne (by unfold aOf; omega)]; exact z.1
    · by_cases hq : q = p
      · rw [hq, aUp_same, rUp_eq]
      · rw [aUp_idx hq, rUp_ne (by unfold aOf; omega)]; exact z.2.1
    · rw [aUp_tag (by decide), rUp_ne (by unfold aOf; omega)]; exact z.2.2.1
    · rw [aUp_tag (by decide), rUp_ne (by unfold aOf; omega)]; exact z.2.2.2.1
    · rw [aUp_tag (by decide)]; exact z.2.2.2.2
  · rw [aUp_tag (by decide), aUp_tag (by decide), rUp_ne (by omega), rUp_ne (by omega)]; exact k g h0 h1
theorem Rep_known {σ : aS} {c : Nat} {r : aRw} (h : Rep σ c r) (hw : WF r) {p : Int} (p0 : 0 ≤ p) (p1 : p < r 0) (x : Int) : Rep (aUp σ 4 c p x) c (rUp r (aOf p 2) x) := by
  obtain ⟨⟨a, b, d⟩, e, k⟩ := h
  have bn := hw.1
  have b9 := aOf_rng (p := p) (w := 2) p0 (by omega) (by decide) (by decide)
  refine ⟨⟨by rw [aUp_tag (by decide), rUp_ne (by omega)]; exact a, by rw [aUp_tag (by decide), rUp_ne (by omega)]; exact b, by rw [aUp_tag (by decide), rUp_ne (by omega)]; exact d⟩, fun q h0 h1 => ?_, fun g h0 h1 => ?_⟩
  · rw [rUp_ne (by omega)] at h1
    have z := e q h0 h1
    rw [off_cong (r := r) (r' := rUp r (aOf p 2) x) (fun f f0 f1 => rUp_ne (by omega))]
    refine ⟨?_, ?_, ?_, ?_, ?_⟩
    · rw [aUp_tag (by decide), rUp_ne (by unfold aOf; omega)]; exact z.1
    · rw [aUp_tag (by decide), rUp_ne (by unfold aOf; omega)]; exact z.2.1
    · by_cases hq : q = p
      · rw [hq, aUp_same, rUp_eq]
      · rw [aUp_idx hq, rUp_ne (by unfold aOf; omega)]; exact z.2.2.1
    · rw [aUp_tag (by decide), rUp_ne (by unfold aOf; omega)]; exact z.2.2.2.1
    · rw [aUp_tag (by decide)]; exact z.2.2.2.2
  · rw [aUp_tag (by decide), aUp_tag (by decide), rUp_ne (by omega), rUp_ne (by omega)]; exact k g h0 h1
theorem Rep_mate {σ : aS} {c : Nat} {r : aRw} (h : Rep σ c r) (hw : WF r) {p : Int} (p0 : 0 ≤ p) (p1 : p < r 0) (x : Int) : Rep (aUp σ 5 c p x) c (rUp r (aOf p 3) x) := by
  obtain ⟨⟨a, b, d⟩, e, k⟩ := h
  have bn := hw.1
  have b9 := aOf_rng (p := p) (w := 3) p0 (by omega) (by decide) (by decide)
  refine ⟨⟨by rw [aUp_tag (by decide), rUp_ne (by omega)]; exact a, by rw [aUp_tag (by decide), rUp_ne (by omega)]; exact b, by rw [aUp_tag (by decide), rUp_ne (by omega)]; exact d⟩, fun q h0 h1 => ?_, fun g h0 h1 => ?_⟩
  · rw [rUp_ne (by omega)] at h1
    have z := e q h0 h1
    rw [off_cong (r := r) (r' := rUp r (aOf p 3) x) (fun f f0 f1 => rUp_ne (by omega))]
    refine ⟨?_, ?_, ?_, ?_, ?_⟩
    · rw [aUp_tag (by decide), rUp_ne (by unfold aOf; omega)]; exact z.1
    · rw [aUp_tag (by decide), rUp_ne (by unfold aOf; omega)]; exact z.2.1
    · rw [aUp_tag (by decide), rUp_ne (by unfold aOf; omega)]; exact z.2.2.1
    · by_cases hq : q = p
      · rw [hq, aUp_same, rUp_eq]
      · rw [aUp_idx hq, rUp_ne (by unfold aOf; omega)]; exact z.2.2.2.1
    · rw [aUp_tag (by decide)]; exact z.2.2.2.2
  · rw [aUp_tag (by decide), aUp_tag (by decide), rUp_ne (by omega), rUp_ne (by omega)]; exact k g h0 h1
theorem Rep_cost {σ : aS} {c : Nat} {r : aRw} (h : Rep σ c r) (hw : WF r) {f : Int} (f0 : 0 ≤ f) (f1 : f < 5) (x : Int) : Rep (aUp σ 7 c f x) c (rUp r (3 + f) x) := by
  obtain ⟨⟨a, b, d⟩, e, k⟩ := h
  have bn := hw.1
  refine ⟨⟨by rw [aUp_tag (by decide), rUp_ne (by omega)]; exact a, by rw [aUp_tag (by decide), rUp_ne (by omega)]; exact b, by rw [aUp_tag (by decide), rUp_ne (by omega)]; exact d⟩, fun p h0 h1 => ?_, fun g h0 h1 => ?_⟩
  · rw [rUp_ne (by omega)] at h1
    have z := e p h0 h1
    have b0 := aOf_rng (p := p) (w := 0) h0 (by omega) (by decide) (by decide)
    have b1 := aOf_rng (p := p) (w := 1) h0 (by omega) (by decide) (by decide)
    have b2 := aOf_rng (p := p) (w := 2) h0 (by omega) (by decide) (by decide)
    have b3 := aOf_rng (p := p) (w := 3) h0 (by omega) (by decide) (by decide)
    rw [aUp_tag (by decide), aUp_tag (by decide), aUp_tag (by decide), aUp_tag (by decide), aUp_tag (by decide), rUp_ne (by omega), rUp_ne (by omega), rUp_ne (by omega), rUp_ne (by omega), off_cong (r := r) (r' := rUp r (3 + f) x) (fun g g0 g1 => rUp_ne (by omega))]
    exact z
  · refine ⟨?_, by rw [aUp_tag (by decide), rUp_ne (by omega)]; exact (k g h0 h1).2⟩
    by_cases hg : g = f
    · rw [hg, aUp_same, rUp_eq]
    · rw [aUp_idx hg, rUp_ne (by omega)]; exact (k g h0 h1).1
theorem Rep_fell {σ : aS} {c : Nat} {r : aRw} (h : Rep σ c r) (x : Int) : Rep (aUp σ 1 c 3 x) c r := h.fr (fun t i h1 h2 h3 => by
  by_cases ht : t = 1
  · subst ht; exact aUp_idx (fun q => h3 ⟨rfl, q⟩)
  · exact aUp_tag ht)
theorem seR_home {r : aRw} {p : Int} (h : off r p < 0) : seR r p = rUp r (aOf p 2) (if r (aOf p 2) < foF (r (aOf p 0)) (r (aOf p 1)) then 0 else r (aOf p 2) - foF (r (aOf p 0)) (r (aOf p 1))) := by
  unfold seR; rw [if_pos h]
theorem seR_in {r : aRw} {p : Int} (h : ¬ off r p < 0) : seR r p = rUp r (aOf p 2) (if 99 < r (aOf p 2) + swR r p then 99 else r (aOf p 2) + swR r p) := by
  unfold seR swR; rw [if_neg h, if_neg h]
theorem swR_rng {r : aRw} (hw : WF r) {p : Int} (h0 : 0 ≤ p) (h1 : p < r 0) : 0 ≤ swR r p ∧ swR r p ≤ 15 := by
  unfold swR
  split
  · decide
  · rename_i ho
    have hc := hw.co (f := off r p) (by omega) (by have := off_rng r p; omega)
    exact shCut (hw.pe h0 h1).2.1 hc _
/-- how many fall on a day -/
def feN (r : aRw) : Nat → Int
  | 0 => 0
  | n + 1 => feN r n + (if faN r n (8 + n) < 0 ∨ faN r n (aOf (faN r n (8 + n)) 2) < beR (faN r n) (faN r n (8 + n)) then 0 else 1)
theorem feN_rng (r : aRw) : ∀ n : Nat, 0 ≤ feN r n ∧ feN r n ≤ n
  | 0 => ⟨Int.le_refl 0, Int.le_refl 0⟩
  | n + 1 => by
    have h := feN_rng r n
    unfold feN
    split <;> omega
def feD (r : aRw) : Int := feN (seN r (r 0).toNat) 5
theorem feD_rng (r : aRw) : 0 ≤ feD r ∧ feD r ≤ 5 := feN_rng _ 5
set_option maxRecDepth 10000 in
theorem cC_fall (l : Launch) (f p : Int) (c : Nat) (hc : c < 3) (σ : aS) (r : aRw) (hR : Rep σ c r) (hw : WF r) (f0 : 0 ≤ f) (f1 : f < 5) (h0 : 0 ≤ p) (hp : r (8 + f) = p) (hk : ¬ r (aOf p 2) < beR r p) (h3 : 0 ≤ σ 1 c 3 ∧ σ 1 c 3 ≤ 1000) : AM l 2 mX0_fall [aR 1 c, aI f, aI p] σ (PQ c σ (faR r f) (σ 1 c 3 + 1)) := by
  have bn := hw.1
  have b2 := hw.2.2.1
  have g0 := hw.ho f0 f1
  have bp := hw.pe (p := p) h0 (by omega)
  have bpm := aOf_rng (p := p) (w := 3) h0 (by omega) (by decide) (by decide)
  refine am_of (by decide) (Nat.le_of_ble_eq_true rfl) (L := [some (aR 1 c), some (aI f), some (aI p), none]) rfl ?_
  refine aw_b kX0_ok bX0_fall_0_ok (Cs := [c < 3, c < 3, c < 3]) (pc' := 20) (L' := [some (aR 1 c), some (aI f), some (aI p), none]) (st' := [aI (((aUp σ 1 c 3 ((σ 1 c 3) + 1)) 1 c 2) + 1), aI 999, aR 1 c]) (σ' := aUp σ 1 c 3 ((σ 1 c 3) + 1)) rfl (show (c < 3) ∧ (c < 3) ∧ (c < 3) from ⟨by omega, by omega, by omega⟩) ?_
  have e2 : (aUp σ 1 c 3 (σ 1 c 3 + 1)) 1 c 2 = r 2 := by rw [aUp_idx (by decide)]; exact hR.1.2.2
  refine aw_min lX0_78 (rest := [aR 1 c]) (by decide) (Nat.le_of_ble_eq_true rfl) dX0_fall_20 (x := 999) (y := ((aUp σ 1 c 3 ((σ 1 c 3) + 1)) 1 c 2) + 1) ⟨by omega, by omega⟩ ⟨by omega, by omega⟩ ?_
  refine aw_b kX0_ok bX0_fall_23_ok (Cs := [c < 3]) (pc' := 28) (L' := [some (aR 1 c), some (aI f), some (aI p), none]) (st' := [aI f, aR 1 c]) (σ' := aUp (aUp σ 1 c 3 ((σ 1 c 3) + 1)) 1 c 2 (if ((aUp σ 1 c 3 ((σ 1 c 3) + 1)) 1 c 2) + 1 < 999 then ((aUp σ 1 c 3 ((σ 1 c 3) + 1)) 1 c 2) + 1 else 999)) rfl (show c < 3 from by omega) ?_
  have hRf : Rep (aUp (aUp σ 1 c 3 (σ 1 c 3 + 1)) 1 c 2 (if (aUp σ 1 c 3 (σ 1 c 3 + 1)) 1 c 2 + 1 < 999 then (aUp σ 1 c 3 (σ 1 c 3 + 1)) 1 c 2 + 1 else 999)) c (rUp r 2 (if 999 < r 2 + 1 then 999 else r 2 + 1)) := by
    have z := Rep_falls (Rep_fell hR (σ 1 c 3 + 1)) hw (if (aUp σ 1 c 3 (σ 1 c 3 + 1)) 1 c 2 + 1 < 999 then (aUp σ 1 c 3 (σ 1 c 3 + 1)) 1 c 2 + 1 else 999)
    rw [e2] at z ⊢
    rw [show (if 999 < r 2 + 1 then (999 : Int) else r 2 + 1) = (if r 2 + 1 < 999 then r 2 + 1 else 999) by split <;> split <;> omega]
    exact z
  have hwf := WF_falls hw (x := (if 999 < r 2 + 1 then 999 else r 2 + 1)) (by split <;> omega)
  have h1R := f1R_wf hw f0 f1
  have e0 : f1R r f 0 = r 0 := f1R_at _ _ (by decide) (by omega)
  have em : f1R r f (aOf p 3) = r (aOf p 3) := f1R_at _ _ (by omega) (by omega)
  refine aw_callV lX0_53 (as := [aI f]) (rest := []) (t := 1) (c := c) (by decide) (by decide) (show c < 3 by omega) rfl rfl (Nat.le_of_ble_eq_true rfl) rfl dX0_fall_28 (cC_vacate l f c hc (aUp (aUp σ 1 c 3 ((σ 1 c 3) + 1)) 1 c 2 (if ((aUp σ 1 c 3 ((σ 1 c 3) + 1)) 1 c 2) + 1 < 999 then ((aUp σ 1 c 3 ((σ 1 c 3) + 1)) 1 c 2) + 1 else 999)) _ hRf hwf ⟨by omega, by omega⟩) ?_
  rintro _ τ ⟨rfl, hRt, hFt, h3t⟩
  have hRτ : Rep τ c (f1R r f) := by have z := hRt; unfold emR at z; rw [if_pos ⟨f0, f1⟩] at z; exact z
  have e3 : τ 1 c 3 = σ 1 c 3 + 1 := by rw [h3t, aUp_idx (by decide), aUp_same]
  have eF : aFr (Cb c) σ τ := aFr_tr (aFr_tr (aFr_up (cb (by decide))) (aFr_up (cb (by decide)))) hFt
  have et := hRτ.pe (p := p) h0 (by omega)
  have en := hRτ.n
  refine aw_b kX0_ok bX0_fall_31_ok (Cs := [c < 3, c < 3, 0 ≤ p ∧ p < 8]) (pc' := 40) (L' := [some (aR 1 c), some (aI f), some (aI p), some (aI (τ 5 c p))]) (st' := [aI (τ 5 c p), aR 1 c]) (σ' := τ) rfl (show (c < 3) ∧ (c < 3) ∧ (0 ≤ p ∧ p < 8) from ⟨by omega, by omega, by omega⟩) ?_
  refine aw_bV lX0_50 (as := [aI (τ 5 c p)]) (rest := []) (t := 1) (c := c) (by decide) (by decide) (show c < 3 by omega) rfl rfl (Nat.le_of_ble_eq_true rfl) rfl dX0_fall_40 (cC_isThere l (τ 5 c p) c (by omega) τ (f1R r f) hRτ h1R ⟨by omega, by omega⟩) (fun wh1 => ?_) (fun wh1 => ?_)
  · have ez := hRτ.pe (p := (τ 5 c p)) (by omega) (by omega)
    have bo := off_rng (f1R r f) (τ 5 c p)
    have no := nb_cases (off (f1R r f) (τ 5 c p))
    have bz := hw.pe (p := (τ 5 c p)) (by omega) (by omega)
    have bw := beR_rng hw (p := (τ 5 c p)) (by omega) (by omega)
    have c0 := aOf_rng (p := (τ 5 c p)) (w := 0) (by omega) (by omega) (by decide) (by decide)
    have c1 := aOf_rng (p := (τ 5 c p)) (w := 1) (by omega) (by omega) (by decide) (by decide)
    have c2 := aOf_rng (p := (τ 5 c p)) (w := 2) (by omega) (by omega) (by decide) (by decide)
    have ek : f1R r f (aOf (τ 5 c p) 2) = r (aOf (τ 5 c p) 2) := f1R_at _ _ (by omega) (by omega)
    have eb : beR (f1R r f) (τ 5 c p) = beR r (τ 5 c p) := by unfold beR; rw [f1R_at _ _ (by omega) (by omega), f1R_at _ _ (by omega) (by omega)]
    refine aw_ieq dX0_fall_43 (tgt := 84) (by decide) ⟨by omega, by omega⟩ (fun wh2 => absurd wh2 (by decide)) (fun wh2 => ?_)
    refine aw_b kX0_ok bX0_fall_46_ok (Cs := [c < 3, c < 3, 0 ≤ τ 5 c p ∧ τ 5 c p < 8]) (pc' := 53) (L' := [some (aR 1 c), some (aI f), some (aI p), some (aI (τ 5 c p))]) (st' := [aI (-1), aI (τ 6 c (τ 5 c p))]) (σ' := τ) rfl (show (c < 3) ∧ (c < 3) ∧ (0 ≤ τ 5 c p ∧ τ 5 c p < 8) from ⟨by omega, by omega, by omega⟩) ?_
    refine aw_cne dX0_fall_53 (tgt := 84) (by decide) ⟨by omega, by omega⟩ ⟨by omega, by omega⟩ (fun wh3 => ?_) (fun wh3 => ?_)
    · exact aw_vret dX0_fall_84 rfl ⟨rfl, by have ex : r (aOf (r (8 + f)) 3) = τ 5 c p := (by rw [hp]; omega); unfold faR; rw [if_neg (by rw [hp]; omega), if_neg (by rw [ex]; omega)]; exact hRτ, eF, e3⟩
    · refine aw_b kX0_ok bX0_fall_56_ok (Cs := [c < 3, c < 3, 0 ≤ τ 5 c p ∧ τ 5 c p < 8]) (pc' := 64) (L' := [some (aR 1 c), some (aI f), some (aI p), some (aI (τ 5 c p))]) (st' := [aI (τ 5 c p), aR 1 c, aI (τ 4 c (τ 5 c p))]) (σ' := τ) rfl (show (c < 3) ∧ (c < 3) ∧ (0 ≤ τ 5 c p ∧ τ 5 c p < 8) from ⟨by omega, by omega, by omega⟩) ?_
      refine aw_fV lX0_81 (as := [aI (τ 5 c p)]) (rest := [aI (τ 4 c (τ 5 c p))]) (t := 1) (c := c) (by decide) (by decide) (show c < 3 by omega) rfl rfl (Nat.le_of_ble_eq_true rfl) rfl dX0_fall_64 (cC_bearing l (τ 5 c p) c (by omega) τ (f1R r f) hRτ h1R (by omega) (by omega)) ?_
      refine aw_cge dX0_fall_67 (tgt := 84) (by decide) ⟨by omega, by omega⟩ ⟨by omega, by omega⟩ (fun wh4 => ?_) (fun wh4 => ?_)
      · exact aw_vret dX0_fall_84 rfl ⟨rfl, by have ex : r (aOf (r (8 + f)) 3) = τ 5 c p := (by rw [hp]; omega); unfold faR; rw [if_neg (by rw [hp]; omega), if_neg (by rw [ex]; omega)]; exact hRτ, eF, e3⟩
      · refine aw_b kX0_ok bX0_fall_70_ok (Cs := [c < 3, c < 3, 0 ≤ f ∧ f < 5, c < 3, c < 3, 0 ≤ τ 5 c p ∧ τ 5 c p < 8]) (pc' := 84) (L' := [some (aR 1 c), some (aI f), some (aI p), some (aI (τ 5 c p))]) (st' := []) (σ' := aUp (aUp τ 8 c f (τ 5 c p)) 6 c (τ 5 c p) f) rfl (show (c < 3) ∧ (c < 3) ∧ (0 ≤ f ∧ f < 5) ∧ (c < 3) ∧ (c < 3) ∧ (0 ≤ τ 5 c p ∧ τ 5 c p < 8) from ⟨by omega, by omega, by omega, by omega, by omega, by omega⟩) ?_
        exact aw_vret dX0_fall_84 rfl ⟨rfl, by have ex : r (aOf (r (8 + f)) 3) = τ 5 c p := (by rw [hp]; omega); unfold faR; rw [if_neg (by rw [hp]; omega), if_pos (by rw [ex]; omega), ex]; exact Rep_ho hRτ h1R f0 f1 (by omega) (by omega) (by rw [show f1R r f (8 + f) = -4 from rUp_eq]; decide) (by omega), aFr_tr eF (aFr_tr (aFr_up (cb (by decide))) (aFr_up (cb (by decide)))), by rw [aUp_tag (by decide), aUp_tag (by decide)]; exact e3⟩
  · refine aw_ieq dX0_fall_43 (tgt := 84) (by decide) ⟨by omega, by omega⟩ (fun wh5 => ?_) (fun wh5 => absurd wh5 (by decide))
    exact aw_vret dX0_fall_84 rfl ⟨rfl, by have ex : r (aOf (r (8 + f)) 3) = τ 5 c p := (by rw [hp]; omega); unfold faR; rw [if_neg (by rw [hp]; omega), if_neg (by rw [ex]; omega)]; exact hRτ, eF, e3⟩
end
section
/-! ===== the class: a day, days, becomes ===== -/
theorem Rep_known' {σ : aS} {c : Nat} {r : aRw} (h : Rep σ c r) (hw : WF r) {p : Int} (p0 : 0 ≤ p) (p1 : p < r 0) {x y : Int} (hx : x = y) : Rep (aUp σ 4 c p x) c (rUp r (aOf p 2) y) := by
  subst hx; exact Rep_known h hw p0 p1 x
def PR (c : Nat) (σ : aS) (r' : aRw) : Option aV → aS → Prop := fun v σ' => v = none ∧ Rep σ' c r' ∧ aFr (Cb c) σ σ'
set_option maxRecDepth 10000 in
theorem cC_oneDay (l : Launch) (c : Nat) (hc : c < 3) (σ : aS) (r : aRw) (hR : Rep σ c r) (hw : WF r) (hd : r 1 ≤ 999999) : AM l 3 mX0_oneDay [aR 1 c] σ (PQ c σ (dayR r) (feD r)) := by
  have bn := hw.1
  have en := hR.n
  have b1 := hw.2.1
  have e1 := hR.1.2.1
  refine am_of (by decide) (Nat.le_of_ble_eq_true rfl) (L := [some (aR 1 c), none, none]) rfl ?_
  refine aw_b kX0_ok bX0_oneDay_0_ok (Cs := [c < 3, c < 3, c < 3]) (pc' := 17) (L' := [some (aR 1 c), some (aI 0), none]) (st' := []) (σ' := aUp (aUp σ 1 c 1 ((σ 1 c 1) + 1)) 1 c 3 0) rfl (show (c < 3) ∧ (c < 3) ∧ (c < 3) from ⟨by omega, by omega, by omega⟩) ?_
  have hT0 : Rep (aUp (aUp σ 1 c 1 (σ 1 c 1 + 1)) 1 c 3 0) c (seN r 0) := by
    have z := Rep_fell (Rep_day hR hw (σ 1 c 1 + 1)) 0
    rw [hR.1.2.1] at z ⊢
    exact z
  refine aloop (P := fun n : Nat => ∀ (τ : aS) (hT : Rep τ c (seN r n)) (hF : aFr (Cb c) σ τ) (h3 : τ 1 c 3 = 0), AW l 3 mX0_oneDay _ 17 [some (aR 1 c), some (aI (n : Int)), none] [] τ) ((r 0).toNat) (fun n hn ihn τ hT hF h3 => ?_) _ hT0 (aFr_tr (aFr_up (cb (by decide))) (aFr_up (cb (by decide)))) aUp_same
  have e0 := seN_0 r n
  have hwn := seN_wf hw n (by omega)
  have en := hT.n
  refine aw_b kX0_ok bX0_oneDay_17_ok (Cs := [c < 3]) (pc' := 22) (L' := [some (aR 1 c), some (aI (n : Int)), none]) (st' := [aI (τ 1 c 0), aI (n : Int)]) (σ' := τ) rfl (show c < 3 from by omega) ?_
  refine aw_cge dX0_oneDay_22 (tgt := 99) (by decide) ⟨by omega, by omega⟩ ⟨by omega, by omega⟩ (fun wh1 => ?_) (fun wh1 => ?_)
  · refine aw_b kX0_ok bX0_oneDay_99_ok (Cs := []) (pc' := 101) (L' := [some (aR 1 c), some (aI 0), none]) (st' := []) (σ' := τ) rfl trivial ?_
    have eN : n = (r 0).toNat := by omega
    refine aloop (P := fun k : Nat => ∀ (ρ : aS) (hT2 : Rep ρ c (faN (seN r (r 0).toNat) k)) (hF2 : aFr (Cb c) σ ρ) (h32 : ρ 1 c 3 = feN (seN r (r 0).toNat) k), AW l 3 mX0_oneDay _ 101 [some (aR 1 c), some (aI (k : Int)), none] [] ρ) (5) (fun k hk ihk ρ hT2 hF2 h32 => ?_) τ (by rw [← eN]; exact hT) hF h3
    have hwk := faN_wf (seN_wf hw (r 0).toNat (by omega)) k hk
    have ek := faN_0 (seN r (r 0).toNat) k
    have ek0 := seN_0 r (r 0).toNat
    have en2 := hT2.n
    have bfe := feN_rng (seN r (r 0).toNat) k
    refine aw_b kX0_ok bX0_oneDay_101_ok (Cs := []) (pc' := 103) (L' := [some (aR 1 c), some (aI (k : Int)), none]) (st' := [aI 5, aI (k : Int)]) (σ' := ρ) rfl trivial ?_
    refine aw_cge dX0_oneDay_103 (tgt := 147) (by decide) ⟨by omega, by omega⟩ ⟨by omega, by omega⟩ (fun wh2 => ?_) (fun wh2 => ?_)
    · exact aw_vret dX0_oneDay_147 rfl ⟨rfl, by rw [show k = 5 by omega] at hT2; exact hT2, hF2, by rw [show k = 5 by omega] at h32; exact h32⟩
    · have bh := hwk.ho (f := (k : Int)) (by omega) (by omega)
      have ro := hT2.of (f := (k : Int)) (by omega) (by omega)
      have nh := nb_cases ((faN (seN r (r 0).toNat) k) (8 + (k : Int)))
      refine aw_b kX0_ok bX0_oneDay_106_ok (Cs := [c < 3, c < 3, 0 ≤ (k : Int) ∧ (k : Int) < 5]) (pc' := 115) (L' := [some (aR 1 c), some (aI (k : Int)), some (aI (ρ 8 c (k : Int)))]) (st' := [aI (ρ 8 c (k : Int)), aR 1 c]) (σ' := ρ) rfl (show (c < 3) ∧ (c < 3) ∧ (0 ≤ (k : Int) ∧ (k : Int) < 5) from ⟨by omega, by omega, by omega⟩) ?_
      refine aw_bV lX0_50 (as := [aI (ρ 8 c (k : Int))]) (rest := []) (t := 1) (c := c) (by decide) (by decide) (show c < 3 by omega) rfl rfl (Nat.le_of_ble_eq_true rfl) rfl dX0_oneDay_115 (cC_isThere l (ρ 8 c (k : Int)) c (by omega) ρ (faN (seN r (r 0).toNat) k) hT2 hwk ⟨by omega, by omega⟩) (fun wh3 => ?_) (fun wh3 => ?_)
      · have ep : (faN (seN r (r 0).toNat) k) (8 + (k : Int)) = (ρ 8 c (k : Int)) := by omega
        have bp2 := hwk.pe (p := (ρ 8 c (k : Int))) (by omega) (by omega)
        have rp2 := hT2.pe (p := (ρ 8 c (k : Int))) (by omega) (by omega)
        have bb2 := beR_rng hwk (p := (ρ 8 c (k : Int))) (by omega) (by omega)
        have ep1 : (faN (seN r (r 0).toNat) k) (aOf ((faN (seN r (r 0).toNat) k) (8 + (k : Int))) 2) = (faN (seN r (r 0).toNat) k) (aOf (ρ 8 c (k : Int)) 2) := by rw [ep]
        have ep2 : beR (faN (seN r (r 0).toNat) k) ((faN (seN r (r 0).toNat) k) (8 + (k : Int))) = beR (faN (seN r (r 0).toNat) k) (ρ 8 c (k : Int)) := by rw [ep]
        refine aw_ieq dX0_oneDay_118 (tgt := 141) (by decide) ⟨by omega, by omega⟩ (fun wh4 => absurd wh4 (by decide)) (fun wh4 => ?_)
        refine aw_b kX0_ok bX0_oneDay_121_ok (Cs := [c < 3, c < 3, 0 ≤ ρ 8 c (k : Int) ∧ ρ 8 c (k : Int) < 8]) (pc' := 129) (L' := [some (aR 1 c), some (aI (k : Int)), some (aI (ρ 8 c (k : Int)))]) (st' := [aI (ρ 8 c (k : Int)), aR 1 c, aI (ρ 4 c (ρ 8 c (k : Int)))]) (σ' := ρ) rfl (show (c < 3) ∧ (c < 3) ∧ (0 ≤ ρ 8 c (k : Int) ∧ ρ 8 c (k : Int) < 8) from ⟨by omega, by omega, by omega⟩) ?_
        refine aw_fV lX0_81 (as := [aI (ρ 8 c (k : Int))]) (rest := [aI (ρ 4 c (ρ 8 c (k : Int)))]) (t := 1) (c := c) (by decide) (by decide) (show c < 3 by omega) rfl rfl (Nat.le_of_ble_eq_true rfl) rfl dX0_oneDay_129 (cC_bearing l (ρ 8 c (k : Int)) c (by omega) ρ (faN (seN r (r 0).toNat) k) hT2 hwk (by omega) (by omega)) ?_
        refine aw_clt dX0_oneDay_132 (tgt := 141) (by decide) ⟨by omega, by omega⟩ ⟨by omega, by omega⟩ (fun wh5 => ?_) (fun wh5 => ?_)
        · refine aw_b kX0_ok bX0_oneDay_141_ok (Cs := []) (pc' := 101) (L' := [some (aR 1 c), some (aI ((k : Int) + 1)), some (aI (ρ 8 c (k : Int)))]) (st' := []) (σ' := ρ) rfl trivial ?_
          refine aw_drop [2] (L' := [some (aR 1 c), some (aI ((k : Int) + 1)), none]) rfl ?_
          exact ihk (by omega) _ (by rw [faN_row]; unfold faR; rw [if_pos (by omega)]; exact hT2) hF2 (by rw [h32]; simp only [feN]; rw [if_pos (by omega), Int.add_zero])
        · refine aw_b kX0_ok bX0_oneDay_135_ok (Cs := []) (pc' := 138) (L' := [some (aR 1 c), some (aI (k : Int)), some (aI (ρ 8 c (k : Int)))]) (st' := [aI (ρ 8 c (k : Int)), aI (k : Int), aR 1 c]) (σ' := ρ) rfl trivial ?_
          refine aw_callV lX0_84 (as := [aI (k : Int), aI (ρ 8 c (k : Int))]) (rest := []) (t := 1) (c := c) (by decide) (by decide) (show c < 3 by omega) rfl rfl (Nat.le_of_ble_eq_true rfl) rfl dX0_oneDay_138 (cC_fall l (k : Int) (ρ 8 c (k : Int)) c hc ρ (faN (seN r (r 0).toNat) k) hT2 hwk (by omega) (by omega) (by omega) ep (by omega) (by omega)) ?_
          rintro _ ρ9 ⟨rfl, hR9, hF9, h39⟩
          refine aw_b kX0_ok bX0_oneDay_141_ok (Cs := []) (pc' := 101) (L' := [some (aR 1 c), some (aI ((k : Int) + 1)), some (aI (ρ 8 c (k : Int)))]) (st' := []) (σ' := ρ9) rfl trivial ?_
          refine aw_drop [2] (L' := [some (aR 1 c), some (aI ((k : Int) + 1)), none]) rfl ?_
          exact ihk (by omega) _ (by rw [faN_row]; exact hR9) (aFr_tr hF2 hF9) (by rw [h39, h32]; simp only [feN]; rw [if_neg (by omega)])
      · refine aw_ieq dX0_oneDay_118 (tgt := 141) (by decide) ⟨by omega, by omega⟩ (fun wh6 => ?_) (fun wh6 => absurd wh6 (by decide))
        refine aw_b kX0_ok bX0_oneDay_141_ok (Cs := []) (pc' := 101) (L' := [some (aR 1 c), some (aI ((k : Int) + 1)), some (aI (ρ 8 c (k : Int)))]) (st' := []) (σ' := ρ) rfl trivial ?_
        refine aw_drop [2] (L' := [some (aR 1 c), some (aI ((k : Int) + 1)), none]) rfl ?_
        exact ihk (by omega) _ (by rw [faN_row]; unfold faR; rw [if_pos (by omega)]; exact hT2) hF2 (by rw [h32]; simp only [feN]; rw [if_pos (by omega), Int.add_zero])
  · have bp := hwn.pe (p := (n : Int)) (by omega) (by omega)
    have rp := hT.pe (p := (n : Int)) (by omega) (by omega)
    have bo := off_rng (seN r n) (n : Int)
    have no := nb_cases (off (seN r n) (n : Int))
    have bf := foF_rng (kind := τ 2 c (n : Int)) (f := τ 3 c (n : Int)) (by omega)
    have bsw := swR_rng hwn (p := (n : Int)) (by omega) (by omega)
    refine aw_b kX0_ok bX0_oneDay_25_ok (Cs := [c < 3, c < 3, 0 ≤ (n : Int) ∧ (n : Int) < 8]) (pc' := 32) (L' := [some (aR 1 c), some (aI (n : Int)), none]) (st' := [aI (-1), aI (τ 6 c (n : Int))]) (σ' := τ) rfl (show (c < 3) ∧ (c < 3) ∧ (0 ≤ (n : Int) ∧ (n : Int) < 8) from ⟨by omega, by omega, by omega⟩) ?_
    refine aw_cne dX0_oneDay_32 (tgt := 70) (by decide) ⟨by omega, by omega⟩ ⟨by omega, by omega⟩ (fun wh7 => ?_) (fun wh7 => ?_)
    · refine aw_b kX0_ok bX0_oneDay_70_ok (Cs := [c < 3, c < 3, c < 3, 0 ≤ (n : Int) ∧ (n : Int) < 8]) (pc' := 85) (L' := [some (aR 1 c), some (aI (n : Int)), none]) (st' := [aI (n : Int), aR 1 c, aI (τ 4 c (n : Int)), aI 99, aI (n : Int), aR 4 c]) (σ' := τ) rfl (show (c < 3) ∧ (c < 3) ∧ (c < 3) ∧ (0 ≤ (n : Int) ∧ (n : Int) < 8) from ⟨by omega, by omega, by omega, by omega⟩) ?_
      refine aw_fV lX0_74 (as := [aI (n : Int)]) (rest := [aI (τ 4 c (n : Int)), aI 99, aI (n : Int), aR 4 c]) (t := 1) (c := c) (by decide) (by decide) (show c < 3 by omega) rfl rfl (Nat.le_of_ble_eq_true rfl) rfl dX0_oneDay_85 (cC_showing l (n : Int) c hc τ (seN r n) hT hwn (by omega) (by omega) (by omega)) ?_
      refine aw_b kX0_ok bX0_oneDay_88_ok (Cs := []) (pc' := 89) (L' := [some (aR 1 c), some (aI (n : Int)), none]) (st' := [aI ((τ 4 c (n : Int)) + (swR (seN r n) (n : Int))), aI 99, aI (n : Int), aR 4 c]) (σ' := τ) rfl trivial ?_
      refine aw_min lX0_78 (rest := [aI (n : Int), aR 4 c]) (by decide) (Nat.le_of_ble_eq_true rfl) dX0_oneDay_89 (x := 99) (y := (τ 4 c (n : Int)) + (swR (seN r n) (n : Int))) ⟨by omega, by omega⟩ ⟨by omega, by omega⟩ ?_
      refine aw_b kX0_ok bX0_oneDay_92_ok (Cs := [c < 3, 0 ≤ (n : Int) ∧ (n : Int) < 8]) (pc' := 93) (L' := [some (aR 1 c), some (aI (n : Int)), none]) (st' := []) (σ' := aUp τ 4 c (n : Int) (if (τ 4 c (n : Int)) + (swR (seN r n) (n : Int)) < 99 then (τ 4 c (n : Int)) + (swR (seN r n) (n : Int)) else 99)) rfl (show (c < 3) ∧ (0 ≤ (n : Int) ∧ (n : Int) < 8) from ⟨by omega, by omega⟩) ?_
      refine aw_b kX0_ok bX0_oneDay_93_ok (Cs := []) (pc' := 17) (L' := [some (aR 1 c), some (aI ((n : Int) + 1)), none]) (st' := []) (σ' := aUp τ 4 c (n : Int) (if (τ 4 c (n : Int)) + (swR (seN r n) (n : Int)) < 99 then (τ 4 c (n : Int)) + (swR (seN r n) (n : Int)) else 99)) rfl trivial ?_
      exact ihn (by omega) _ (by rw [seN_row, seR_in (by omega)]; exact Rep_known' hT hwn (by omega) (by omega) (by rw [rp.2.2.1]; split <;> split <;> omega)) (aFr_tr hF (aFr_up (cb (by decide)))) (by rw [aUp_tag (by decide)]; exact h3)
    · refine aw_b kX0_ok bX0_oneDay_35_ok (Cs := [c < 3, c < 3, c < 3, 0 ≤ (n : Int) ∧ (n : Int) < 8, c < 3, c < 3, 0 ≤ (n : Int) ∧ (n : Int) < 8, c < 3, c < 3, 0 ≤ (n : Int) ∧ (n : Int) < 8]) (pc' := 59) (L' := [some (aR 1 c), some (aI (n : Int)), none]) (st' := [aI (τ 3 c (n : Int)), aI (τ 2 c (n : Int)), aI (τ 4 c (n : Int)), aI 0, aI (n : Int), aR 4 c]) (σ' := τ) rfl (show (c < 3) ∧ (c < 3) ∧ (c < 3) ∧ (0 ≤ (n : Int) ∧ (n : Int) < 8) ∧ (c < 3) ∧ (c < 3) ∧ (0 ≤ (n : Int) ∧ (n : Int) < 8) ∧ (c < 3) ∧ (c < 3) ∧ (0 ≤ (n : Int) ∧ (n : Int) < 8) from ⟨by omega, by omega, by omega, by omega, by omega, by omega, by omega, by omega, by omega, by omega⟩) ?_
      refine aw_fS lX0_66 (as := [aI (τ 2 c (n : Int)), aI (τ 3 c (n : Int))]) (rest := [aI (τ 4 c (n : Int)), aI 0, aI (n : Int), aR 4 c]) (by decide) rfl (Nat.le_of_ble_eq_true rfl) rfl dX0_oneDay_59 (cC_forgotten l (τ 2 c (n : Int)) (τ 3 c (n : Int)) τ ⟨by omega, by omega⟩ ⟨by omega, by omega⟩) ?_
      refine aw_b kX0_ok bX0_oneDay_62_ok (Cs := []) (pc' := 63) (L' := [some (aR 1 c), some (aI (n : Int)), none]) (st' := [aI ((τ 4 c (n : Int)) - (foF (τ 2 c (n : Int)) (τ 3 c (n : Int)))), aI 0, aI (n : Int), aR 4 c]) (σ' := τ) rfl trivial ?_
      refine aw_max lX0_69 (rest := [aI (n : Int), aR 4 c]) (by decide) (Nat.le_of_ble_eq_true rfl) dX0_oneDay_63 (x := 0) (y := (τ 4 c (n : Int)) - (foF (τ 2 c (n : Int)) (τ 3 c (n : Int)))) ⟨by omega, by omega⟩ ⟨by omega, by omega⟩ ?_
      refine aw_b kX0_ok bX0_oneDay_66_ok (Cs := [c < 3, 0 ≤ (n : Int) ∧ (n : Int) < 8]) (pc' := 93) (L' := [some (aR 1 c), some (aI (n : Int)), none]) (st' := []) (σ' := aUp τ 4 c (n : Int) (if 0 < (τ 4 c (n : Int)) - (foF (τ 2 c (n : Int)) (τ 3 c (n : Int))) then (τ 4 c (n : Int)) - (foF (τ 2 c (n : Int)) (τ 3 c (n : Int))) else 0)) rfl (show (c < 3) ∧ (0 ≤ (n : Int) ∧ (n : Int) < 8) from ⟨by omega, by omega⟩) ?_
      refine aw_b kX0_ok bX0_oneDay_93_ok (Cs := []) (pc' := 17) (L' := [some (aR 1 c), some (aI ((n : Int) + 1)), none]) (st' := []) (σ' := aUp τ 4 c (n : Int) (if 0 < (τ 4 c (n : Int)) - (foF (τ 2 c (n : Int)) (τ 3 c (n : Int))) then (τ 4 c (n : Int)) - (foF (τ 2 c (n : Int)) (τ 3 c (n : Int))) else 0)) rfl trivial ?_
      exact ihn (by omega) _ (by rw [seN_row, seR_home (by omega)]; exact Rep_known' hT hwn (by omega) (by omega) (by rw [rp.1, rp.2.1, rp.2.2.1]; split <;> split <;> omega)) (aFr_tr hF (aFr_up (cb (by decide)))) (by rw [aUp_tag (by decide)]; exact h3)
set_option maxRecDepth 10000 in
theorem cC_pass (l : Launch) (m : Nat) (c : Nat) (hc : c < 3) (σ : aS) (r : aRw) (hR : Rep σ c r) (hw : WF r) (hm : m ≤ 200) (hd : r 1 + m ≤ 999999) : AM l 4 mX0_pass [aR 1 c, aI (m : Int)] σ (PR c σ (dysR r m)) := by
  have bn := hw.1
  have en := hR.n
  refine am_of (by decide) (Nat.le_of_ble_eq_true rfl) (L := [some (aR 1 c), some (aI (m : Int)), none]) rfl ?_
  refine aw_b kX0_ok bX0_pass_0_ok (Cs := []) (pc' := 2) (L' := [some (aR 1 c), some (aI (m : Int)), some (aI 0)]) (st' := []) (σ' := σ) rfl trivial ?_
  refine aloop (P := fun n : Nat => ∀ (τ : aS) (hT : Rep τ c (dysR r n)) (hF : aFr (Cb c) σ τ), AW l 4 mX0_pass _ 2 [some (aR 1 c), some (aI (m : Int)), some (aI (n : Int))] [] τ) m (fun n hn ihn τ hT hF => ?_) σ hR aFr_rf
  have e0 := dysR_0 r n
  refine aw_b kX0_ok bX0_pass_2_ok (Cs := []) (pc' := 4) (L' := [some (aR 1 c), some (aI (m : Int)), some (aI (n : Int))]) (st' := [aI (m : Int), aI (n : Int)]) (σ' := τ) rfl trivial ?_
  refine aw_cge dX0_pass_4 (tgt := 17) (by decide) ⟨by omega, by omega⟩ ⟨by omega, by omega⟩ (fun wh1 => ?_) (fun wh1 => ?_)
  · exact aw_vret dX0_pass_17 rfl ⟨rfl, by rw [show n = m by omega] at hT; exact hT, hF⟩
  · refine aw_b kX0_ok bX0_pass_7_ok (Cs := []) (pc' := 8) (L' := [some (aR 1 c), some (aI (m : Int)), some (aI (n : Int))]) (st' := [aR 1 c]) (σ' := τ) rfl trivial ?_
    refine aw_callV lX0_63 (as := []) (rest := []) (t := 1) (c := c) (by decide) (by decide) (show c < 3 by omega) rfl rfl (Nat.le_of_ble_eq_true rfl) rfl dX0_pass_8 (cC_oneDay l c hc τ (dysR r n) hT (dysR_wf hw n) (by omega)) ?_
    rintro _ ρ9 ⟨rfl, hR9, hF9, h39⟩
    refine aw_b kX0_ok bX0_pass_11_ok (Cs := []) (pc' := 2) (L' := [some (aR 1 c), some (aI (m : Int)), some (aI ((n : Int) + 1))]) (st' := []) (σ' := ρ9) rfl trivial ?_
    exact ihn (by omega) _ hR9 (aFr_tr hF hF9)
theorem cbn {c b t : Nat} (h : c ≠ b) : ¬ Cb c t b := fun q => h q.2.2.symm
/-- a place of a row, behind an update -/
theorem aUp_at {σ : aS} {t c t' : Nat} {i x j : Int} : aUp σ t c i x t' c j = if t' = t ∧ j = i then x else σ t' c j := by
  unfold aUp
  by_cases h : t' = t ∧ j = i
  · rw [if_pos ⟨h.1, rfl, h.2⟩, if_pos h]
  · rw [if_neg (fun q => h ⟨q.1, q.2.2⟩), if_neg h]
set_option maxRecDepth 10000 in
theorem cC_becomes (l : Launch) (b c : Nat) (hb : b < 3) (hc : c < 3) (hne : c ≠ b) (σ : aS) (r : aRw) (hR : Rep σ b r) (hw : WF r) : AM l 0 mX0_becomes [aR 1 c, aR 1 b] σ (PR c σ r) := by
  have bn := hw.1
  refine am_of (by decide) (Nat.le_of_ble_eq_true rfl) (L := [some (aR 1 c), some (aR 1 b), none]) rfl ?_
  refine aw_b kX0_ok bX0_becomes_0_ok (Cs := [b < 3, c < 3, b < 3, c < 3, b < 3, c < 3]) (pc' := 26) (L' := [some (aR 1 c), some (aR 1 b), some (aI 0)]) (st' := []) (σ' := aUp (aUp (aUp σ 1 c 0 (σ 1 b 0)) 1 c 1 ((aUp σ 1 c 0 (σ 1 b 0)) 1 b 1)) 1 c 2 ((aUp (aUp σ 1 c 0 (σ 1 b 0)) 1 c 1 ((aUp σ 1 c 0 (σ 1 b 0)) 1 b 1)) 1 b 2)) rfl (show (b < 3) ∧ (c < 3) ∧ (b < 3) ∧ (c < 3) ∧ (b < 3) ∧ (c < 3) from ⟨by omega, by omega, by omega, by omega, by omega, by omega⟩) ?_
  refine aloop (P := fun n : Nat => ∀ (τ : aS) (hF : aFr (Cb c) σ τ) (g1 : τ 1 c 0 = σ 1 b 0 ∧ τ 1 c 1 = σ 1 b 1 ∧ τ 1 c 2 = σ 1 b 2) (g2 : ∀ (t : Nat) (i : Int), 2 ≤ t → t ≤ 6 → 0 ≤ i → i < (n : Int) → τ t c i = σ t b i), AW l 0 mX0_becomes _ 26 [some (aR 1 c), some (aR 1 b), some (aI (n : Int))] [] τ) (8) (fun n hn ihn τ hF g1 g2 => ?_) _ (aFr_tr (aFr_tr (aFr_up (cb (by decide))) (aFr_up (cb (by decide)))) (aFr_up (cb (by decide)))) (by simp [aUp, hne, Ne.symm hne]) (fun t i _ _ _ h => by omega)
  refine aw_b kX0_ok bX0_becomes_26_ok (Cs := []) (pc' := 29) (L' := [some (aR 1 c), some (aR 1 b), some (aI (n : Int))]) (st' := [aI 8, aI (n : Int)]) (σ' := τ) rfl trivial ?_
  refine aw_cge dX0_becomes_29 (tgt := 98) (by decide) ⟨by omega, by omega⟩ ⟨by omega, by omega⟩ (fun wh1 => ?_) (fun wh1 => ?_)
  · refine aw_b kX0_ok bX0_becomes_98_ok (Cs := []) (pc' := 100) (L' := [some (aR 1 c), some (aR 1 b), some (aI 0)]) (st' := []) (σ' := τ) rfl trivial ?_
    have e8 : n = 8 := by omega
    subst e8
    refine aloop (P := fun k : Nat => ∀ (ρ : aS) (hF2 : aFr (Cb c) σ ρ) (g1 : ρ 1 c 0 = σ 1 b 0 ∧ ρ 1 c 1 = σ 1 b 1 ∧ ρ 1 c 2 = σ 1 b 2) (g3 : ∀ (t : Nat) (i : Int), 2 ≤ t → t ≤ 6 → 0 ≤ i → i < 8 → ρ t c i = σ t b i) (g4 : ∀ (t : Nat) (i : Int), 7 ≤ t → t ≤ 8 → 0 ≤ i → i < (k : Int) → ρ t c i = σ t b i), AW l 0 mX0_becomes _ 100 [some (aR 1 c), some (aR 1 b), some (aI (k : Int))] [] ρ) (5) (fun k hk ihk ρ hF2 g1 g3 g4 => ?_) τ hF g1 (fun t i t0 t1 i0 i1 => g2 t i t0 t1 i0 i1) (fun t i _ _ _ h => by omega)
    refine aw_b kX0_ok bX0_becomes_100_ok (Cs := []) (pc' := 102) (L' := [some (aR 1 c), some (aR 1 b), some (aI (k : Int))]) (st' := [aI 5, aI (k : Int)]) (σ' := ρ) rfl trivial ?_
    refine aw_cge dX0_becomes_102 (tgt := 135) (by decide) ⟨by omega, by omega⟩ ⟨by omega, by omega⟩ (fun wh2 => ?_) (fun wh2 => ?_)
    · exact aw_vret dX0_becomes_135 rfl ⟨rfl, ⟨by rw [g1.1, g1.2.1, g1.2.2]; exact hR.1, fun p h0 h1 => by rw [g3 2 p (by decide) (by decide) h0 (by omega), g3 3 p (by decide) (by decide) h0 (by omega), g3 4 p (by decide) (by decide) h0 (by omega), g3 5 p (by decide) (by decide) h0 (by omega), g3 6 p (by decide) (by decide) h0 (by omega)]; exact hR.pe h0 h1, fun f h0 h1 => by rw [g4 7 f (by decide) (by decide) h0 (by omega), g4 8 f (by decide) (by decide) h0 (by omega)]; exact hR.of h0 h1⟩, hF2⟩
    · refine aw_b kX0_ok bX0_becomes_105_ok (Cs := [c < 3, b < 3, b < 3, 0 ≤ (k : Int) ∧ (k : Int) < 5, c < 3, 0 ≤ (k : Int) ∧ (k : Int) < 5, c < 3, b < 3, b < 3, 0 ≤ (k : Int) ∧ (k : Int) < 5, c < 3, 0 ≤ (k : Int) ∧ (k : Int) < 5]) (pc' := 100) (L' := [some (aR 1 c), some (aR 1 b), some (aI ((k : Int) + 1))]) (st' := []) (σ' := aUp (aUp ρ 7 c (k : Int) (ρ 7 b (k : Int))) 8 c (k : Int) ((aUp ρ 7 c (k : Int) (ρ 7 b (k : Int))) 8 b (k : Int))) rfl (show (c < 3) ∧ (b < 3) ∧ (b < 3) ∧ (0 ≤ (k : Int) ∧ (k : Int) < 5) ∧ (c < 3) ∧ (0 ≤ (k : Int) ∧ (k : Int) < 5) ∧ (c < 3) ∧ (b < 3) ∧ (b < 3) ∧ (0 ≤ (k : Int) ∧ (k : Int) < 5) ∧ (c < 3) ∧ (0 ≤ (k : Int) ∧ (k : Int) < 5) from ⟨by omega, by omega, by omega, by omega, by omega, by omega, by omega, by omega, by omega, by omega, by omega, by omega⟩) ?_
      exact ihk (by omega) _ (aFr_tr (aFr_tr hF2 (aFr_up (cb (by decide)))) (aFr_up (cb (by decide)))) (by simp only [aUp_at]; simp; exact g1) (fun t i t0 t1 i0 i1 => by
        rw [aUp_tag (by omega), aUp_tag (by omega)]; exact g3 t i t0 t1 i0 i1) (fun t i t0 t1 i0 i1 => by
        have e := g4 t i t0 t1 i0
        have f7 := hF2 7 b (k : Int) (cbn hne)
        have f8 := hF2 8 b (k : Int) (cbn hne)
        rcases (show t = 7 ∨ t = 8 by omega) with rfl | rfl <;> by_cases hi : i = (k : Int) <;> simp [aUp, hi, hne, Ne.symm hne, f7, f8] <;> exact e (by omega))
  · refine aw_b kX0_ok bX0_becomes_32_ok (Cs := [c < 3, b < 3, b < 3, 0 ≤ (n : Int) ∧ (n : Int) < 8, c < 3, 0 ≤ (n : Int) ∧ (n : Int) < 8, c < 3, b < 3, b < 3, 0 ≤ (n : Int) ∧ (n : Int) < 8, c < 3, 0 ≤ (n : Int) ∧ (n : Int) < 8, c < 3, b < 3, b < 3, 0 ≤ (n : Int) ∧ (n : Int) < 8, c < 3, 0 ≤ (n : Int) ∧ (n : Int) < 8, c < 3, b < 3, b < 3, 0 ≤ (n : Int) ∧ (n : Int) < 8, c < 3, 0 ≤ (n : Int) ∧ (n : Int) < 8, c < 3, b < 3, b < 3, 0 ≤ (n : Int) ∧ (n : Int) < 8, c < 3, 0 ≤ (n : Int) ∧ (n : Int) < 8]) (pc' := 26) (L' := [some (aR 1 c), some (aR 1 b), some (aI ((n : Int) + 1))]) (st' := []) (σ' := aUp (aUp (aUp (aUp (aUp τ 2 c (n : Int) (τ 2 b (n : Int))) 3 c (n : Int) ((aUp τ 2 c (n : Int) (τ 2 b (n : Int))) 3 b (n : Int))) 4 c (n : Int) ((aUp (aUp τ 2 c (n : Int) (τ 2 b (n : Int))) 3 c (n : Int) ((aUp τ 2 c (n : Int) (τ 2 b (n : Int))) 3 b (n : Int))) 4 b (n : Int))) 5 c (n : Int) ((aUp (aUp (aUp τ 2 c (n : Int) (τ 2 b (n : Int))) 3 c (n : Int) ((aUp τ 2 c (n : Int) (τ 2 b (n : Int))) 3 b (n : Int))) 4 c (n : Int) ((aUp (aUp τ 2 c (n : Int) (τ 2 b (n : Int))) 3 c (n : Int) ((aUp τ 2 c (n : Int) (τ 2 b (n : Int))) 3 b (n : Int))) 4 b (n : Int))) 5 b (n : Int))) 6 c (n : Int) ((aUp (aUp (aUp (aUp τ 2 c (n : Int) (τ 2 b (n : Int))) 3 c (n : Int) ((aUp τ 2 c (n : Int) (τ 2 b (n : Int))) 3 b (n : Int))) 4 c (n : Int) ((aUp (aUp τ 2 c (n : Int) (τ 2 b (n : Int))) 3 c (n : Int) ((aUp τ 2 c (n : Int) (τ 2 b (n : Int))) 3 b (n : Int))) 4 b (n : Int))) 5 c (n : Int) ((aUp (aUp (aUp τ 2 c (n : Int) (τ 2 b (n : Int))) 3 c (n : Int) ((aUp τ 2 c (n : Int) (τ 2 b (n : Int))) 3 b (n : Int))) 4 c (n : Int) ((aUp (aUp τ 2 c (n : Int) (τ 2 b (n : Int))) 3 c (n : Int) ((aUp τ 2 c (n : Int) (τ 2 b (n : Int))) 3 b (n : Int))) 4 b (n : Int))) 5 b (n : Int))) 6 b (n : Int))) rfl (show (c < 3) ∧ (b < 3) ∧ (b < 3) ∧ (0 ≤ (n : Int) ∧ (n : Int) < 8) ∧ (c < 3) ∧ (0 ≤ (n : Int) ∧ (n : Int) < 8) ∧ (c < 3) ∧ (b < 3) ∧ (b < 3) ∧ (0 ≤ (n : Int) ∧ (n : Int) < 8) ∧ (c < 3) ∧ (0 ≤ (n : Int) ∧ (n : Int) < 8) ∧ (c < 3) ∧ (b < 3) ∧ (b < 3) ∧ (0 ≤ (n : Int) ∧ (n : Int) < 8) ∧ (c < 3) ∧ (0 ≤ (n : Int) ∧ (n : Int) < 8) ∧ (c < 3) ∧ (b < 3) ∧ (b < 3) ∧ (0 ≤ (n : Int) ∧ (n : Int) < 8) ∧ (c < 3) ∧ (0 ≤ (n : Int) ∧ (n : Int) < 8) ∧ (c < 3) ∧ (b < 3) ∧ (b < 3) ∧ (0 ≤ (n : Int) ∧ (n : Int) < 8) ∧ (c < 3) ∧ (0 ≤ (n : Int) ∧ (n : Int) < 8) from ⟨by omega, by omega, by omega, by omega, by omega, by omega, by omega, by omega, by omega, by omega, by omega, by omega, by omega, by omega, by omega, by omega, by omega, by omega, by omega, by omega, by omega, by omega, by omega, by omega, by omega, by omega, by omega, by omega, by omega, by omega⟩) ?_
    exact ihn (by omega) _ (aFr_tr (aFr_tr (aFr_tr (aFr_tr (aFr_tr hF (aFr_up (cb (by decide)))) (aFr_up (cb (by decide)))) (aFr_up (cb (by decide)))) (aFr_up (cb (by decide)))) (aFr_up (cb (by decide)))) (by simp only [aUp_at]; simp; exact g1) (fun t i t0 t1 i0 i1 => by
      have e := g2 t i t0 t1 i0
      have f2 := hF 2 b (n : Int) (cbn hne)
      have f3 := hF 3 b (n : Int) (cbn hne)
      have f4 := hF 4 b (n : Int) (cbn hne)
      have f5 := hF 5 b (n : Int) (cbn hne)
      have f6 := hF 6 b (n : Int) (cbn hne)
      rcases (show t = 2 ∨ t = 3 ∨ t = 4 ∨ t = 5 ∨ t = 6 by omega) with rfl | rfl | rfl | rfl | rfl <;> by_cases hi : i = (n : Int) <;> simp [aUp, hi, hne, Ne.symm hne, f2, f3, f4, f5, f6] <;> exact e (by omega))
end
section
/-! ===== the class: what is asked (1) ===== -/
/-- what the class may change while it only answers -/
def CScr : Nat → Nat → Prop := fun t c => (1 ≤ t ∧ t ≤ 8 ∧ c = 1) ∨ (16 ≤ t ∧ t ≤ 20)
def QC (a : Int) (σ : aS) : Option aV → aS → Prop := fun v σ' => v = some (aI a) ∧ aFr CScr σ σ'
def QCL (a : Int) (σ : aS) : Option aV → aS → Prop := fun v σ' => v = some (aL a) ∧ aFr CScr σ σ'
theorem Cb1 : ∀ t c, Cb 1 t c → CScr t c := fun _ _ h => Or.inl h
theorem aFrC {σ σ' : aS} (h : aFr (Cb 1) σ σ') : aFr CScr σ σ' := aFr_mono h Cb1
/-- the cabinet now, and the one of the image, stay -/
theorem Rep.scr {σ σ' : aS} {c : Nat} {r : aRw} (hc : c ≠ 1) (h : Rep σ c r) (hf : aFr CScr σ σ') : Rep σ' c r :=
  h.fr (fun t i h1 h2 _ => hf t c i (fun q => by rcases q with q | q <;> omega))
theorem cC_passI (l : Launch) (n : Int) (c : Nat) (hc : c < 3) (σ : aS) (r : aRw) (hR : Rep σ c r) (hw : WF r) (h0 : 0 ≤ n) (hm : n ≤ 200) (hd : r 1 + n ≤ 999999) : AM l 4 mX0_pass [aR 1 c, aI n] σ (PR c σ (dysR r n.toNat)) := by
  have e : ((n.toNat : Nat) : Int) = n := Int.toNat_of_nonneg h0
  have z := cC_pass l n.toNat c hc σ r hR hw (by omega) (by omega)
  rw [e] at z
  exact z
set_option maxRecDepth 10000 in
theorem cC_foresee (l : Launch) (n : Int) (σ : aS) (r : aRw) (hR : Rep σ 0 r) (hw : WF r) (hd : r 1 ≤ 999) (h0 : 0 ≤ n) (h1 : n ≤ 60) : AM l 5 mX6_foresee [aR 0 0, aI n] σ (PR 1 σ (dysR r n.toNat)) := by
  have bn := hw.1
  have en := hR.n
  have b1 := hw.2.1
  have e1 := hR.1.2.1
  have b2 := hw.2.2.1
  have e2 := hR.1.2.2
  refine am_of (by decide) (Nat.le_of_ble_eq_true rfl) (L := [some (aR 0 0), some (aI n)]) rfl ?_
  refine aw_b kX6_ok bX6_foresee_0_ok (Cs := [0 < 1, 0 < 1]) (pc' := 8) (L' := [some (aR 0 0), some (aI n)]) (st' := [aR 1 0, aR 1 1]) (σ' := σ) rfl (show (0 < 1) ∧ (0 < 1) from ⟨by omega, by omega⟩) ?_
  refine aw_callV lX6_68 (as := [aR 1 0]) (rest := []) (t := 1) (c := 1) (by decide) (by decide) (by decide) rfl rfl (Nat.le_of_ble_eq_true rfl) rfl dX6_foresee_8 (cC_becomes l 0 1 (by decide) (by decide) (by decide) σ r hR hw) ?_
  rintro _ τ1 ⟨rfl, hT1, hF1⟩
  refine aw_b kX6_ok bX6_foresee_11_ok (Cs := [0 < 1]) (pc' := 16) (L' := [some (aR 0 0), some (aI n)]) (st' := [aI n, aR 1 1]) (σ' := τ1) rfl (show 0 < 1 from by omega) ?_
  refine aw_callV lX6_159 (as := [aI n]) (rest := []) (t := 1) (c := 1) (by decide) (by decide) (by decide) rfl rfl (Nat.le_of_ble_eq_true rfl) rfl dX6_foresee_16 (cC_passI l n 1 (by decide) τ1 r hT1 hw h0 (by omega) (by omega)) ?_
  rintro _ τ2 ⟨rfl, hT2, hF2⟩
  exact aw_vret dX6_foresee_19 rfl ⟨rfl, hT2, aFr_tr hF1 hF2⟩
def A_heldThen (r : aRw) (f n : Int) : Int := if (0 ≤ f ∧ f < 5) ∧ (0 ≤ n ∧ n ≤ 60) then dysR r n.toNat (8 + f) else -1
def A_knownThen (r : aRw) (p n : Int) : Int := if (0 ≤ p ∧ p < r 0) ∧ (0 ≤ n ∧ n ≤ 60) then dysR r n.toNat (aOf p 2) else -1
def A_then (r : aRw) (n w : Int) : Int := if (0 ≤ n ∧ n ≤ 60) ∧ (w = 0 ∨ w = 1) then (if w = 0 then hbN (dysR r n.toNat) 5 else dysR r n.toNat 2) else -1
set_option maxRecDepth 10000 in
theorem cC_heldThen (l : Launch) (f n : Int) (σ : aS) (r : aRw) (hR : Rep σ 0 r) (hw : WF r) (hd : r 1 ≤ 999) (hf : aIr f) (hn : aIr n) : AM l 6 mX6_heldThen [aR 0 0, aI f, aI n] σ (QC (A_heldThen r f n) σ) := by
  have bn := hw.1
  have en := hR.n
  have b1 := hw.2.1
  have e1 := hR.1.2.1
  have b2 := hw.2.2.1
  have e2 := hR.1.2.2
  refine am_of (by decide) (Nat.le_of_ble_eq_true rfl) (L := [some (aR 0 0), some (aI f), some (aI n)]) rfl ?_
  refine aw_b kX6_ok bX6_heldThen_0_ok (Cs := []) (pc' := 1) (L' := [some (aR 0 0), some (aI f), some (aI n)]) (st' := [aI f]) (σ' := σ) rfl trivial ?_
  refine aw_bS lX6_109 (as := [aI f]) (rest := []) (by decide) rfl (Nat.le_of_ble_eq_true rfl) rfl dX6_heldThen_1 (cC_isOffice l f σ ⟨by omega, by omega⟩) (fun wh1 => ?_) (fun wh1 => ?_)
  · refine aw_ieq dX6_heldThen_4 (tgt := 14) (by decide) ⟨by omega, by omega⟩ (fun wh2 => absurd wh2 (by decide)) (fun wh2 => ?_)
    refine aw_b kX6_ok bX6_heldThen_7_ok (Cs := []) (pc' := 8) (L' := [some (aR 0 0), some (aI f), some (aI n)]) (st' := [aI n]) (σ' := σ) rfl trivial ?_
    refine aw_bS lX6_165 (as := [aI n]) (rest := []) (by decide) rfl (Nat.le_of_ble_eq_true rfl) rfl dX6_heldThen_8 (cC_isAhead l n σ ⟨by omega, by omega⟩) (fun wh3 => ?_) (fun wh3 => ?_)
    · refine aw_ine dX6_heldThen_11 (tgt := 16) (by decide) ⟨by omega, by omega⟩ (fun wh4 => ?_) (fun wh4 => absurd wh4 (by decide))
      refine aw_b kX6_ok bX6_heldThen_16_ok (Cs := []) (pc' := 18) (L' := [some (aR 0 0), some (aI f), some (aI n)]) (st' := [aI n, aR 0 0]) (σ' := σ) rfl trivial ?_
      refine aw_callV lX6_168 (as := [aI n]) (rest := []) (t := 0) (c := 0) (by decide) (by decide) (by decide) rfl rfl (Nat.le_of_ble_eq_true rfl) rfl dX6_heldThen_18 (cC_foresee l n σ r hR hw hd (by omega) (by omega)) ?_
      rintro _ τ ⟨rfl, hT, hF⟩
      have hwT := dysR_wf hw n.toNat
      have eT := dysR_0 r n.toNat
      have enT := hT.n
      have ro := hT.of (f := f) (by omega) (by omega)
      have bh := hwT.ho (f := f) (by omega) (by omega)
      have nh := nb_cases (dysR r n.toNat (8 + f))
      refine aw_b kX6_ok bX6_heldThen_21_ok (Cs := [0 < 1, 1 < 3, 1 < 3, 0 ≤ f ∧ f < 5]) (pc' := 30) (L' := [some (aR 0 0), some (aI f), some (aI n)]) (st' := [aI (τ 8 1 f)]) (σ' := τ) rfl (show (0 < 1) ∧ (1 < 3) ∧ (1 < 3) ∧ (0 ≤ f ∧ f < 5) from ⟨by omega, by omega, by omega, by omega⟩) ?_
      refine aw_fS lX6_94 (as := [aI (τ 8 1 f)]) (rest := []) (by decide) rfl (Nat.le_of_ble_eq_true rfl) rfl dX6_heldThen_30 (cC_orNone l (τ 8 1 f) τ ⟨by omega, by omega⟩) ?_
      rw [show (if τ 8 1 f = -1 then (-4 : Int) else τ 8 1 f) = dysR r n.toNat (8 + f) by split <;> omega]
      exact aw_iret dX6_heldThen_33 rfl ⟨aret (by unfold A_heldThen; rw [if_pos (by omega)]), aFrC hF⟩
    · refine aw_ine dX6_heldThen_11 (tgt := 16) (by decide) ⟨by omega, by omega⟩ (fun wh5 => absurd wh5 (by decide)) (fun wh5 => ?_)
      refine aw_b kX6_ok bX6_heldThen_14_ok (Cs := []) (pc' := 15) (L' := [some (aR 0 0), some (aI f), some (aI n)]) (st' := [aI (-1)]) (σ' := σ) rfl trivial ?_
      exact aw_iret dX6_heldThen_15 rfl ⟨aret (by unfold A_heldThen; rw [if_neg (by omega)]), aFr_rf⟩
  · refine aw_ieq dX6_heldThen_4 (tgt := 14) (by decide) ⟨by omega, by omega⟩ (fun wh6 => ?_) (fun wh6 => absurd wh6 (by decide))
    refine aw_b kX6_ok bX6_heldThen_14_ok (Cs := []) (pc' := 15) (L' := [some (aR 0 0), some (aI f), some (aI n)]) (st' := [aI (-1)]) (σ' := σ) rfl trivial ?_
    exact aw_iret dX6_heldThen_15 rfl ⟨aret (by unfold A_heldThen; rw [if_neg (by omega)]), aFr_rf⟩
set_option maxRecDepth 10000 in
theorem cC_knownThen (l : Launch) (p n : Int) (σ : aS) (r : aRw) (hR : Rep σ 0 r) (hw : WF r) (hd : r 1 ≤ 999) (hp : aIr p) (hn : aIr n) : AM l 6 mX6_knownThen [aR 0 0, aI p, aI n] σ (QC (A_knownThen r p n) σ) := by
  have bn := hw.1
  have en := hR.n
  have b1 := hw.2.1
  have e1 := hR.1.2.1
  have b2 := hw.2.2.1
  have e2 := hR.1.2.2
  refine am_of (by decide) (Nat.le_of_ble_eq_true rfl) (L := [some (aR 0 0), some (aI p), some (aI n)]) rfl ?_
  refine aw_b kX6_ok bX6_knownThen_0_ok (Cs := [0 < 1]) (pc' := 5) (L' := [some (aR 0 0), some (aI p), some (aI n)]) (st' := [aI p, aR 1 0]) (σ' := σ) rfl (show 0 < 1 from by omega) ?_
  refine aw_bV lX6_76 (as := [aI p]) (rest := []) (t := 1) (c := 0) (by decide) (by decide) (by decide) rfl rfl (Nat.le_of_ble_eq_true rfl) rfl dX6_knownThen_5 (cC_isThere l p 0 (by omega) σ r hR hw ⟨by omega, by omega⟩) (fun wh1 => ?_) (fun wh1 => ?_)
  · refine aw_ieq dX6_knownThen_8 (tgt := 18) (by decide) ⟨by omega, by omega⟩ (fun wh2 => absurd wh2 (by decide)) (fun wh2 => ?_)
    refine aw_b kX6_ok bX6_knownThen_11_ok (Cs := []) (pc' := 12) (L' := [some (aR 0 0), some (aI p), some (aI n)]) (st' := [aI n]) (σ' := σ) rfl trivial ?_
    refine aw_bS lX6_165 (as := [aI n]) (rest := []) (by decide) rfl (Nat.le_of_ble_eq_true rfl) rfl dX6_knownThen_12 (cC_isAhead l n σ ⟨by omega, by omega⟩) (fun wh3 => ?_) (fun wh3 => ?_)
    · refine aw_ine dX6_knownThen_15 (tgt := 20) (by decide) ⟨by omega, by omega⟩ (fun wh4 => ?_) (fun wh4 => absurd wh4 (by decide))
      refine aw_b kX6_ok bX6_knownThen_20_ok (Cs := []) (pc' := 22) (L' := [some (aR 0 0), some (aI p), some (aI n)]) (st' := [aI n, aR 0 0]) (σ' := σ) rfl trivial ?_
      refine aw_callV lX6_168 (as := [aI n]) (rest := []) (t := 0) (c := 0) (by decide) (by decide) (by decide) rfl rfl (Nat.le_of_ble_eq_true rfl) rfl dX6_knownThen_22 (cC_foresee l n σ r hR hw hd (by omega) (by omega)) ?_
      rintro _ τ ⟨rfl, hT, hF⟩
      have hwT := dysR_wf hw n.toNat
      have eT := dysR_0 r n.toNat
      have enT := hT.n
      have rp := hT.pe (p := p) (by omega) (by omega)
      refine aw_b kX6_ok bX6_knownThen_25_ok (Cs := [0 < 1, 1 < 3, 1 < 3, 0 ≤ p ∧ p < 8]) (pc' := 34) (L' := [some (aR 0 0), some (aI p), some (aI n)]) (st' := [aI (τ 4 1 p)]) (σ' := τ) rfl (show (0 < 1) ∧ (1 < 3) ∧ (1 < 3) ∧ (0 ≤ p ∧ p < 8) from ⟨by omega, by omega, by omega, by omega⟩) ?_
      exact aw_iret dX6_knownThen_34 rfl ⟨aret (by unfold A_knownThen; rw [if_pos (by omega)]; omega), aFrC hF⟩
    · refine aw_ine dX6_knownThen_15 (tgt := 20) (by decide) ⟨by omega, by omega⟩ (fun wh5 => absurd wh5 (by decide)) (fun wh5 => ?_)
      refine aw_b kX6_ok bX6_knownThen_18_ok (Cs := []) (pc' := 19) (L' := [some (aR 0 0), some (aI p), some (aI n)]) (st' := [aI (-1)]) (σ' := σ) rfl trivial ?_
      exact aw_iret dX6_knownThen_19 rfl ⟨aret (by unfold A_knownThen; rw [if_neg (by omega)]), aFr_rf⟩
  · refine aw_ieq dX6_knownThen_8 (tgt := 18) (by decide) ⟨by omega, by omega⟩ (fun wh6 => ?_) (fun wh6 => absurd wh6 (by decide))
    refine aw_b kX6_ok bX6_knownThen_18_ok (Cs := []) (pc' := 19) (L' := [some (aR 0 0), some (aI p), some (aI n)]) (st' := [aI (-1)]) (σ' := σ) rfl trivial ?_
    exact aw_iret dX6_knownThen_19 rfl ⟨aret (by unfold A_knownThen; rw [if_neg (by omega)]), aFr_rf⟩
set_option maxRecDepth 10000 in
theorem cC_then (l : Launch) (n w : Int) (σ : aS) (r : aRw) (hR : Rep σ 0 r) (hw : WF r) (hd : r 1 ≤ 999) (hn : aIr n) (hv : aIr w) : AM l 6 mX6_then [aR 0 0, aI n, aI w] σ (QC (A_then r n w) σ) := by
  have bn := hw.1
  have en := hR.n
  have b1 := hw.2.1
  have e1 := hR.1.2.1
  have b2 := hw.2.2.1
  have e2 := hR.1.2.2
  refine am_of (by decide) (Nat.le_of_ble_eq_true rfl) (L := [some (aR 0 0), some (aI n), some (aI w)]) rfl ?_
  refine aw_b kX6_ok bX6_then_0_ok (Cs := []) (pc' := 1) (L' := [some (aR 0 0), some (aI n), some (aI w)]) (st' := [aI n]) (σ' := σ) rfl trivial ?_
  refine aw_bS lX6_165 (as := [aI n]) (rest := []) (by decide) rfl (Nat.le_of_ble_eq_true rfl) rfl dX6_then_1 (cC_isAhead l n σ ⟨by omega, by omega⟩) (fun wh1 => ?_) (fun wh1 => ?_)
  · refine aw_ieq dX6_then_4 (tgt := 14) (by decide) ⟨by omega, by omega⟩ (fun wh2 => absurd wh2 (by decide)) (fun wh2 => ?_)
    refine aw_b kX6_ok bX6_then_7_ok (Cs := []) (pc' := 8) (L' := [some (aR 0 0), some (aI n), some (aI w)]) (st' := [aI w]) (σ' := σ) rfl trivial ?_
    refine aw_bS lX6_171 (as := [aI w]) (rest := []) (by decide) rfl (Nat.le_of_ble_eq_true rfl) rfl dX6_then_8 (cC_isChoice l w σ ⟨by omega, by omega⟩) (fun wh3 => ?_) (fun wh3 => ?_)
    · refine aw_ine dX6_then_11 (tgt := 16) (by decide) ⟨by omega, by omega⟩ (fun wh4 => ?_) (fun wh4 => absurd wh4 (by decide))
      refine aw_b kX6_ok bX6_then_16_ok (Cs := []) (pc' := 18) (L' := [some (aR 0 0), some (aI n), some (aI w)]) (st' := [aI n, aR 0 0]) (σ' := σ) rfl trivial ?_
      refine aw_callV lX6_168 (as := [aI n]) (rest := []) (t := 0) (c := 0) (by decide) (by decide) (by decide) rfl rfl (Nat.le_of_ble_eq_true rfl) rfl dX6_then_18 (cC_foresee l n σ r hR hw hd (by omega) (by omega)) ?_
      rintro _ τ ⟨rfl, hT, hF⟩
      have hwT := dysR_wf hw n.toNat
      have eT := dysR_0 r n.toNat
      have enT := hT.n
      refine aw_b kX6_ok bX6_then_21_ok (Cs := []) (pc' := 22) (L' := [some (aR 0 0), some (aI n), some (aI w)]) (st' := [aI w]) (σ' := τ) rfl trivial ?_
      refine aw_ine dX6_then_22 (tgt := 35) (by decide) ⟨by omega, by omega⟩ (fun wh5 => ?_) (fun wh5 => ?_)
      · refine aw_b kX6_ok bX6_then_35_ok (Cs := [0 < 1, 1 < 3]) (pc' := 42) (L' := [some (aR 0 0), some (aI n), some (aI w)]) (st' := [aI (τ 1 1 2)]) (σ' := τ) rfl (show (0 < 1) ∧ (1 < 3) from ⟨by omega, by omega⟩) ?_
        exact aw_iret dX6_then_42 rfl ⟨aret (by unfold A_then; rw [if_pos (by omega), if_neg (by omega)]; exact hT.1.2.2), aFrC hF⟩
      · refine aw_b kX6_ok bX6_then_25_ok (Cs := [0 < 1]) (pc' := 29) (L' := [some (aR 0 0), some (aI n), some (aI w)]) (st' := [aR 1 1]) (σ' := τ) rfl (show 0 < 1 from by omega) ?_
        refine aw_fV lX6_174 (as := []) (rest := []) (t := 1) (c := 1) (by decide) (by decide) (by decide) rfl rfl (Nat.le_of_ble_eq_true rfl) rfl dX6_then_29 (cC_heldBits l 1 (by decide) τ _ hT hwT) ?_
        refine aw_b kX6_ok bX6_then_32_ok (Cs := []) (pc' := 42) (L' := [some (aR 0 0), some (aI n), some (aI w)]) (st' := [aI (hbN (dysR r n.toNat) 5)]) (σ' := τ) rfl trivial ?_
        exact aw_iret dX6_then_42 rfl ⟨aret (by unfold A_then; rw [if_pos (by omega), if_pos (by omega)]), aFrC hF⟩
    · refine aw_ine dX6_then_11 (tgt := 16) (by decide) ⟨by omega, by omega⟩ (fun wh6 => absurd wh6 (by decide)) (fun wh6 => ?_)
      refine aw_b kX6_ok bX6_then_14_ok (Cs := []) (pc' := 15) (L' := [some (aR 0 0), some (aI n), some (aI w)]) (st' := [aI (-1)]) (σ' := σ) rfl trivial ?_
      exact aw_iret dX6_then_15 rfl ⟨aret (by unfold A_then; rw [if_neg (by omega)]), aFr_rf⟩
  · refine aw_ieq dX6_then_4 (tgt := 14) (by decide) ⟨by omega, by omega⟩ (fun wh7 => ?_) (fun wh7 => absurd wh7 (by decide))
    refine aw_b kX6_ok bX6_then_14_ok (Cs := []) (pc' := 15) (L' := [some (aR 0 0), some (aI n), some (aI w)]) (st' := [aI (-1)]) (σ' := σ) rfl trivial ?_
    exact aw_iret dX6_then_15 rfl ⟨aret (by unfold A_then; rw [if_neg (by omega)]), aFr_rf⟩
def akN (r : aRw) : Nat → Int
  | 0 => 0
  | n + 1 => akN r n + r (aOf n 2)
theorem akN_rng {r : aRw} (hw : WF r) : ∀ n : Nat, (n : Int) ≤ r 0 → 0 ≤ akN r n ∧ akN r n ≤ 99 * n
  | 0, _ => ⟨Int.le_refl 0, Int.le_refl 0⟩
  | n + 1, h => by
    have z := akN_rng hw n (by omega)
    have b := hw.pe (p := (n : Int)) (by omega) (by omega)
    unfold akN
    omega
def A_count (r : aRw) (w : Int) : Int := if w = 0 then r 0 else if w = 1 then r 1 else if w = 2 then r 2 else if w = 3 then hbN r 5 else if w = 4 then akN r (r 0).toNat else -1
def A_shows (r : aRw) (p k : Int) : Int := if (0 ≤ p ∧ p < r 0) ∧ (0 ≤ k ∧ k < 10) then shF (r (aOf p 0)) (r (aOf p 1)) k (r 1 + 1) else -1
def A_office (r : aRw) (f w : Int) : Int := if 0 ≤ f ∧ f < 5 then (if w = 0 then r (3 + f) else if w = 1 then r (8 + f) else if w = 2 then (if 1 < cntC r (r (3 + f)) 5 then 1 else 0) else -1) else -1
set_option maxRecDepth 10000 in
theorem cC_knownOfAll (l : Launch) (c : Nat) (hc : c < 3) (σ : aS) (r : aRw) (hR : Rep σ c r) (hw : WF r) : AM l 0 mX0_knownOfAll [aR 1 c] σ (aF (some (aI (akN r (r 0).toNat))) σ) := by
  have bn := hw.1
  have en := hR.n
  refine am_of (by decide) (Nat.le_of_ble_eq_true rfl) (L := [some (aR 1 c), none, none]) rfl ?_
  refine aw_b kX0_ok bX0_knownOfAll_0_ok (Cs := []) (pc' := 4) (L' := [some (aR 1 c), some (aI 0), some (aI 0)]) (st' := []) (σ' := σ) rfl trivial ?_
  refine aloop (P := fun n : Nat => AW l 0 mX0_knownOfAll _ 4 [some (aR 1 c), some (aI (akN r n)), some (aI (n : Int))] [] σ) ((r 0).toNat) (fun n hn ihn => ?_)
  refine aw_b kX0_ok bX0_knownOfAll_4_ok (Cs := [c < 3]) (pc' := 9) (L' := [some (aR 1 c), some (aI (akN r n)), some (aI (n : Int))]) (st' := [aI (σ 1 c 0), aI (n : Int)]) (σ' := σ) rfl (show c < 3 from by omega) ?_
  refine aw_cge dX0_knownOfAll_9 (tgt := 27) (by decide) ⟨by omega, by omega⟩ ⟨by omega, by omega⟩ (fun wh1 => ?_) (fun wh1 => ?_)
  · refine aw_b kX0_ok bX0_knownOfAll_27_ok (Cs := []) (pc' := 28) (L' := [some (aR 1 c), some (aI (akN r n)), some (aI (n : Int))]) (st' := [aI (akN r n)]) (σ' := σ) rfl trivial ?_
    exact aw_iret dX0_knownOfAll_28 rfl ⟨aret (by rw [show n = (r 0).toNat by omega]), rfl⟩
  · have rp := hR.pe (p := (n : Int)) (by omega) (by omega)
    refine aw_b kX0_ok bX0_knownOfAll_12_ok (Cs := [c < 3, c < 3, 0 ≤ (n : Int) ∧ (n : Int) < 8]) (pc' := 4) (L' := [some (aR 1 c), some (aI ((akN r n) + (σ 4 c (n : Int)))), some (aI ((n : Int) + 1))]) (st' := []) (σ' := σ) rfl (show (c < 3) ∧ (c < 3) ∧ (0 ≤ (n : Int) ∧ (n : Int) < 8) from ⟨by omega, by omega, by omega⟩) ?_
    exact aw_eq (by simp only [akN, ← rp.2.2.1]; rfl) rfl rfl (ihn (by omega))
set_option maxRecDepth 10000 in
theorem cC_count (l : Launch) (w : Int) (σ : aS) (r : aRw) (hR : Rep σ 0 r) (hw : WF r) (hd : r 1 ≤ 999) (hv : aIr w) : AM l 1 mX6_count [aR 0 0, aI w] σ (QC (A_count r w) σ) := by
  have bn := hw.1
  have en := hR.n
  have b1 := hw.2.1
  have e1 := hR.1.2.1
  have b2 := hw.2.2.1
  have e2 := hR.1.2.2
  refine am_of (by decide) (Nat.le_of_ble_eq_true rfl) (L := [some (aR 0 0), some (aI w)]) rfl ?_
  refine aw_b kX6_ok bX6_count_0_ok (Cs := []) (pc' := 1) (L' := [some (aR 0 0), some (aI w)]) (st' := [aI w]) (σ' := σ) rfl trivial ?_
  rcases (show w = 0 ∨ w = 1 ∨ w = 2 ∨ w = 3 ∨ w = 4 ∨ (w < 0 ∨ 4 < w) by omega) with wh1 | wh1 | wh1 | wh1 | wh1 | wh1
  · refine aw_tsw dX6_count_1 (tgt := 36) ⟨by omega, by omega⟩ (by decide) (by rw [wh1]; decide) ?_
    refine aw_b kX6_ok bX6_count_36_ok (Cs := [0 < 1, 0 < 3]) (pc' := 43) (L' := [some (aR 0 0), some (aI w)]) (st' := [aI (σ 1 0 0)]) (σ' := σ) rfl (show (0 < 1) ∧ (0 < 3) from ⟨by omega, by omega⟩) ?_
    exact aw_iret dX6_count_43 rfl ⟨aret (by unfold A_count; (repeat' split) <;> omega), aFr_rf⟩
  · refine aw_tsw dX6_count_1 (tgt := 44) ⟨by omega, by omega⟩ (by decide) (by rw [wh1]; decide) ?_
    refine aw_b kX6_ok bX6_count_44_ok (Cs := [0 < 1, 0 < 3]) (pc' := 51) (L' := [some (aR 0 0), some (aI w)]) (st' := [aI (σ 1 0 1)]) (σ' := σ) rfl (show (0 < 1) ∧ (0 < 3) from ⟨by omega, by omega⟩) ?_
    exact aw_iret dX6_count_51 rfl ⟨aret (by unfold A_count; (repeat' split) <;> omega), aFr_rf⟩
  · refine aw_tsw dX6_count_1 (tgt := 52) ⟨by omega, by omega⟩ (by decide) (by rw [wh1]; decide) ?_
    refine aw_b kX6_ok bX6_count_52_ok (Cs := [0 < 1, 0 < 3]) (pc' := 59) (L' := [some (aR 0 0), some (aI w)]) (st' := [aI (σ 1 0 2)]) (σ' := σ) rfl (show (0 < 1) ∧ (0 < 3) from ⟨by omega, by omega⟩) ?_
    exact aw_iret dX6_count_59 rfl ⟨aret (by unfold A_count; (repeat' split) <;> omega), aFr_rf⟩
  · refine aw_tsw dX6_count_1 (tgt := 60) ⟨by omega, by omega⟩ (by decide) (by rw [wh1]; decide) ?_
    refine aw_b kX6_ok bX6_count_60_ok (Cs := [0 < 1]) (pc' := 64) (L' := [some (aR 0 0), some (aI w)]) (st' := [aR 1 0]) (σ' := σ) rfl (show 0 < 1 from by omega) ?_
    refine aw_fV lX6_174 (as := []) (rest := []) (t := 1) (c := 0) (by decide) (by decide) (by decide) rfl rfl (Nat.le_of_ble_eq_true rfl) rfl dX6_count_64 (cC_heldBits l 0 (by omega) σ r hR hw) ?_
    exact aw_iret dX6_count_67 rfl ⟨aret (by unfold A_count; (repeat' split) <;> omega), aFr_rf⟩
  · refine aw_tsw dX6_count_1 (tgt := 68) ⟨by omega, by omega⟩ (by decide) (by rw [wh1]; decide) ?_
    refine aw_b kX6_ok bX6_count_68_ok (Cs := [0 < 1]) (pc' := 72) (L' := [some (aR 0 0), some (aI w)]) (st' := [aR 1 0]) (σ' := σ) rfl (show 0 < 1 from by omega) ?_
    refine aw_fV lX6_242 (as := []) (rest := []) (t := 1) (c := 0) (by decide) (by decide) (by decide) rfl rfl (Nat.le_of_ble_eq_true rfl) rfl dX6_count_72 (cC_knownOfAll l 0 (by decide) σ r hR hw) ?_
    exact aw_iret dX6_count_75 rfl ⟨aret (by unfold A_count; (repeat' split) <;> omega), aFr_rf⟩
  · refine aw_tsw dX6_count_1 (tgt := 76) ⟨by omega, by omega⟩ (by decide) (by unfold aTgt; rw [if_pos (by omega)]; rfl) ?_
    refine aw_b kX6_ok bX6_count_76_ok (Cs := []) (pc' := 77) (L' := [some (aR 0 0), some (aI w)]) (st' := [aI (-1)]) (σ' := σ) rfl trivial ?_
    exact aw_iret dX6_count_77 rfl ⟨aret (by unfold A_count; (repeat' split) <;> omega), aFr_rf⟩
set_option maxRecDepth 10000 in
theorem cC_shows (l : Launch) (p k : Int) (σ : aS) (r : aRw) (hR : Rep σ 0 r) (hw : WF r) (hd : r 1 ≤ 999) (hp : aIr p) (hk : aIr k) : AM l 2 mX6_shows [aR 0 0, aI p, aI k] σ (QC (A_shows r p k) σ) := by
  have bn := hw.1
  have en := hR.n
  have b1 := hw.2.1
  have e1 := hR.1.2.1
  have b2 := hw.2.2.1
  have e2 := hR.1.2.2
  refine am_of (by decide) (Nat.le_of_ble_eq_true rfl) (L := [some (aR 0 0), some (aI p), some (aI k)]) rfl ?_
  refine aw_b kX6_ok bX6_shows_0_ok (Cs := [0 < 1]) (pc' := 5) (L' := [some (aR 0 0), some (aI p), some (aI k)]) (st' := [aI p, aR 1 0]) (σ' := σ) rfl (show 0 < 1 from by omega) ?_
  refine aw_bV lX6_76 (as := [aI p]) (rest := []) (t := 1) (c := 0) (by decide) (by decide) (by decide) rfl rfl (Nat.le_of_ble_eq_true rfl) rfl dX6_shows_5 (cC_isThere l p 0 (by omega) σ r hR hw ⟨by omega, by omega⟩) (fun wh1 => ?_) (fun wh1 => ?_)
  · refine aw_ieq dX6_shows_8 (tgt := 18) (by decide) ⟨by omega, by omega⟩ (fun wh2 => absurd wh2 (by decide)) (fun wh2 => ?_)
    refine aw_b kX6_ok bX6_shows_11_ok (Cs := []) (pc' := 12) (L' := [some (aR 0 0), some (aI p), some (aI k)]) (st' := [aI k]) (σ' := σ) rfl trivial ?_
    refine aw_bS lX6_121 (as := [aI k]) (rest := []) (by decide) rfl (Nat.le_of_ble_eq_true rfl) rfl dX6_shows_12 (cC_isCostume l k σ ⟨by omega, by omega⟩) (fun wh3 => ?_) (fun wh3 => ?_)
    · refine aw_ine dX6_shows_15 (tgt := 20) (by decide) ⟨by omega, by omega⟩ (fun wh4 => ?_) (fun wh4 => absurd wh4 (by decide))
      have bp := hw.pe (p := p) (by omega) (by omega)
      have rp := hR.pe (p := p) (by omega) (by omega)
      have bo := off_rng r p
      have no := nb_cases (off r p)
      refine aw_b kX6_ok bX6_shows_20_ok (Cs := [0 < 1, 0 < 3, 0 < 3, 0 ≤ p ∧ p < 8, 0 < 1, 0 < 3, 0 < 3, 0 ≤ p ∧ p < 8, 0 < 1, 0 < 3]) (pc' := 48) (L' := [some (aR 0 0), some (aI p), some (aI k)]) (st' := [aI ((σ 1 0 1) + 1), aI k, aI (σ 3 0 p), aI (σ 2 0 p)]) (σ' := σ) rfl (show (0 < 1) ∧ (0 < 3) ∧ (0 < 3) ∧ (0 ≤ p ∧ p < 8) ∧ (0 < 1) ∧ (0 < 3) ∧ (0 < 3) ∧ (0 ≤ p ∧ p < 8) ∧ (0 < 1) ∧ (0 < 3) from ⟨by omega, by omega, by omega, by omega, by omega, by omega, by omega, by omega, by omega, by omega⟩) ?_
      refine aw_fS lX6_128 (as := [aI (σ 2 0 p), aI (σ 3 0 p), aI k, aI ((σ 1 0 1) + 1)]) (rest := []) (by decide) rfl (Nat.le_of_ble_eq_true rfl) rfl dX6_shows_48 (cC_shown l (σ 2 0 p) (σ 3 0 p) k ((σ 1 0 1) + 1) σ ⟨by omega, by omega⟩ ⟨by omega, by omega⟩ ⟨by omega, by omega⟩ ⟨by omega, by omega⟩) ?_
      exact aw_iret dX6_shows_51 rfl ⟨aret (by unfold A_shows; rw [if_pos (by omega), rp.1, rp.2.1, e1]), aFr_rf⟩
    · refine aw_ine dX6_shows_15 (tgt := 20) (by decide) ⟨by omega, by omega⟩ (fun wh5 => absurd wh5 (by decide)) (fun wh5 => ?_)
      refine aw_b kX6_ok bX6_shows_18_ok (Cs := []) (pc' := 19) (L' := [some (aR 0 0), some (aI p), some (aI k)]) (st' := [aI (-1)]) (σ' := σ) rfl trivial ?_
      exact aw_iret dX6_shows_19 rfl ⟨aret (by unfold A_shows; rw [if_neg (by omega)]), aFr_rf⟩
  · refine aw_ieq dX6_shows_8 (tgt := 18) (by decide) ⟨by omega, by omega⟩ (fun wh6 => ?_) (fun wh6 => absurd wh6 (by decide))
    refine aw_b kX6_ok bX6_shows_18_ok (Cs := []) (pc' := 19) (L' := [some (aR 0 0), some (aI p), some (aI k)]) (st' := [aI (-1)]) (σ' := σ) rfl trivial ?_
    exact aw_iret dX6_shows_19 rfl ⟨aret (by unfold A_shows; rw [if_neg (by omega)]), aFr_rf⟩
set_option maxRecDepth 10000 in
theorem cC_office (l : Launch) (f w : Int) (σ : aS) (r : aRw) (hR : Rep σ 0 r) (hw : WF r) (hd : r 1 ≤ 999) (hf : aIr f) (hv : aIr w) : AM l 1 mX6_office [aR 0 0, aI f, aI w] σ (QC (A_office r f w) σ) := by
  have bn := hw.1
  have en := hR.n
  have b1 := hw.2.1
  have e1 := hR.1.2.1
  have b2 := hw.2.2.1
  have e2 := hR.1.2.2
  refine am_of (by decide) (Nat.le_of_ble_eq_true rfl) (L := [some (aR 0 0), some (aI f), some (aI w)]) rfl ?_
  refine aw_b kX6_ok bX6_office_0_ok (Cs := []) (pc' := 1) (L' := [some (aR 0 0), some (aI f), some (aI w)]) (st' := [aI f]) (σ' := σ) rfl trivial ?_
  refine aw_bS lX6_109 (as := [aI f]) (rest := []) (by decide) rfl (Nat.le_of_ble_eq_true rfl) rfl dX6_office_1 (cC_isOffice l f σ ⟨by omega, by omega⟩) (fun wh1 => ?_) (fun wh1 => ?_)
  · have bc := hw.co (f := f) (by omega) (by omega)
    have bh := hw.ho (f := f) (by omega) (by omega)
    have ro := hR.of (f := f) (by omega) (by omega)
    have nh := nb_cases (r (8 + f))
    refine aw_ine dX6_office_4 (tgt := 9) (by decide) ⟨by omega, by omega⟩ (fun wh2 => ?_) (fun wh2 => absurd wh2 (by decide))
    refine aw_b kX6_ok bX6_office_9_ok (Cs := []) (pc' := 10) (L' := [some (aR 0 0), some (aI f), some (aI w)]) (st' := [aI w]) (σ' := σ) rfl trivial ?_
    rcases (show w = 0 ∨ w = 1 ∨ w = 2 ∨ (w < 0 ∨ 2 < w) by omega) with wh3 | wh3 | wh3 | wh3
    · refine aw_tsw dX6_office_10 (tgt := 36) ⟨by omega, by omega⟩ (by decide) (by rw [wh3]; decide) ?_
      refine aw_b kX6_ok bX6_office_36_ok (Cs := [0 < 1, 0 < 3, 0 < 3, 0 ≤ f ∧ f < 5]) (pc' := 45) (L' := [some (aR 0 0), some (aI f), some (aI w)]) (st' := [aI (σ 7 0 f)]) (σ' := σ) rfl (show (0 < 1) ∧ (0 < 3) ∧ (0 < 3) ∧ (0 ≤ f ∧ f < 5) from ⟨by omega, by omega, by omega, by omega⟩) ?_
      exact aw_iret dX6_office_45 rfl ⟨aret (by unfold A_office; rw [if_pos (by omega)]; (try rw [← ro.1]); (repeat' split) <;> omega), aFr_rf⟩
    · refine aw_tsw dX6_office_10 (tgt := 46) ⟨by omega, by omega⟩ (by decide) (by rw [wh3]; decide) ?_
      refine aw_b kX6_ok bX6_office_46_ok (Cs := [0 < 1, 0 < 3, 0 < 3, 0 ≤ f ∧ f < 5]) (pc' := 55) (L' := [some (aR 0 0), some (aI f), some (aI w)]) (st' := [aI (σ 8 0 f)]) (σ' := σ) rfl (show (0 < 1) ∧ (0 < 3) ∧ (0 < 3) ∧ (0 ≤ f ∧ f < 5) from ⟨by omega, by omega, by omega, by omega⟩) ?_
      refine aw_fS lX6_94 (as := [aI (σ 8 0 f)]) (rest := []) (by decide) rfl (Nat.le_of_ble_eq_true rfl) rfl dX6_office_55 (cC_orNone l (σ 8 0 f) σ ⟨by omega, by omega⟩) ?_
      rw [show (if σ 8 0 f = -1 then (-4 : Int) else σ 8 0 f) = r (8 + f) by split <;> omega]
      exact aw_iret dX6_office_58 rfl ⟨aret (by unfold A_office; rw [if_pos (by omega)]; (try rw [← ro.1]); (repeat' split) <;> omega), aFr_rf⟩
    · refine aw_tsw dX6_office_10 (tgt := 59) ⟨by omega, by omega⟩ (by decide) (by rw [wh3]; decide) ?_
      refine aw_b kX6_ok bX6_office_59_ok (Cs := [0 < 1, 0 < 1, 0 < 3, 0 < 3, 0 ≤ f ∧ f < 5]) (pc' := 72) (L' := [some (aR 0 0), some (aI f), some (aI w)]) (st' := [aI (σ 7 0 f), aR 1 0]) (σ' := σ) rfl (show (0 < 1) ∧ (0 < 1) ∧ (0 < 3) ∧ (0 < 3) ∧ (0 ≤ f ∧ f < 5) from ⟨by omega, by omega, by omega, by omega, by omega⟩) ?_
      refine aw_fV lX6_118 (as := [aI (σ 7 0 f)]) (rest := []) (t := 1) (c := 0) (by decide) (by decide) (by decide) rfl rfl (Nat.le_of_ble_eq_true rfl) rfl dX6_office_72 (cC_heldIn l (σ 7 0 f) 0 (by omega) σ r hR hw ⟨by omega, by omega⟩) ?_
      have qc := cntC_le r (σ 7 0 f) 5
      refine aw_b kX6_ok bX6_office_75_ok (Cs := []) (pc' := 76) (L' := [some (aR 0 0), some (aI f), some (aI w)]) (st' := [aI 1, aI (cntC r (σ 7 0 f) 5)]) (σ' := σ) rfl trivial ?_
      refine aw_cle dX6_office_76 (tgt := 83) (by decide) ⟨by omega, by omega⟩ ⟨by omega, by omega⟩ (fun wh4 => ?_) (fun wh4 => ?_)
      · refine aw_b kX6_ok bX6_office_83_ok (Cs := []) (pc' := 84) (L' := [some (aR 0 0), some (aI f), some (aI w)]) (st' := [aI 0]) (σ' := σ) rfl trivial ?_
        exact aw_iret dX6_office_84 rfl ⟨aret (by unfold A_office; rw [if_pos (by omega)]; (try rw [← ro.1]); (repeat' split) <;> omega), aFr_rf⟩
      · refine aw_b kX6_ok bX6_office_79_ok (Cs := []) (pc' := 84) (L' := [some (aR 0 0), some (aI f), some (aI w)]) (st' := [aI 1]) (σ' := σ) rfl trivial ?_
        exact aw_iret dX6_office_84 rfl ⟨aret (by unfold A_office; rw [if_pos (by omega)]; (try rw [← ro.1]); (repeat' split) <;> omega), aFr_rf⟩
    · refine aw_tsw dX6_office_10 (tgt := 85) ⟨by omega, by omega⟩ (by decide) (by unfold aTgt; rw [if_pos (by omega)]; rfl) ?_
      refine aw_b kX6_ok bX6_office_85_ok (Cs := []) (pc' := 86) (L' := [some (aR 0 0), some (aI f), some (aI w)]) (st' := [aI (-1)]) (σ' := σ) rfl trivial ?_
      exact aw_iret dX6_office_86 rfl ⟨aret (by unfold A_office; rw [if_pos (by omega)]; (try rw [← ro.1]); (repeat' split) <;> omega), aFr_rf⟩
  · refine aw_ine dX6_office_4 (tgt := 9) (by decide) ⟨by omega, by omega⟩ (fun wh5 => absurd wh5 (by decide)) (fun wh5 => ?_)
    refine aw_b kX6_ok bX6_office_7_ok (Cs := []) (pc' := 8) (L' := [some (aR 0 0), some (aI f), some (aI w)]) (st' := [aI (-1)]) (σ' := σ) rfl trivial ?_
    exact aw_iret dX6_office_8 rfl ⟨aret (by unfold A_office; rw [if_neg (by omega)]), aFr_rf⟩
end
section
/-! ===== the class: what is asked (2) ===== -/
def fiR (r : aRw) (f k n : Int) : Int := dysR (rUp r (3 + f) k) n.toNat 2
def fwR (r : aRw) (f n : Int) : Int := dysR (emR r f) n.toNat 2
def fcW (r : aRw) (a b : Int) : aRw := rUp (rUp r (3 + a) (r (3 + b))) (3 + b) (r (3 + a))
def fcR (r : aRw) (a b n : Int) : Int := dysR (fcW r a b) n.toNat 2
theorem dys2 {r : aRw} (hw : WF r) (n : Nat) : 0 ≤ dysR r n 2 ∧ dysR r n 2 ≤ 999 := (dysR_wf hw n).2.2.1
theorem fiR_rng {r : aRw} (hw : WF r) {f k : Int} (f0 : 0 ≤ f) (f1 : f < 5) (hk : 0 ≤ k ∧ k ≤ 9) (n : Int) : 0 ≤ fiR r f k n ∧ fiR r f k n ≤ 999 := dys2 (WF_cost hw f0 f1 hk) _
theorem fwR_rng {r : aRw} (hw : WF r) (f n : Int) : 0 ≤ fwR r f n ∧ fwR r f n ≤ 999 := dys2 (emR_wf hw f) _
theorem fcW_wf {r : aRw} (hw : WF r) {a b : Int} (a0 : 0 ≤ a) (a1 : a < 5) (b0 : 0 ≤ b) (b1 : b < 5) : WF (fcW r a b) := WF_cost (WF_cost hw a0 a1 (hw.co b0 b1)) b0 b1 (hw.co a0 a1)
theorem fcR_rng {r : aRw} (hw : WF r) {a b : Int} (a0 : 0 ≤ a) (a1 : a < 5) (b0 : 0 ≤ b) (b1 : b < 5) (n : Int) : 0 ≤ fcR r a b n ∧ fcR r a b n ≤ 999 := dys2 (fcW_wf hw a0 a1 b0 b1) _
def bsN (r : aRw) (f n : Int) : Nat → Int × Int
  | 0 => (0, 1000000000)
  | k + 1 => if fiR r f k n < (bsN r f n k).2 then ((k : Int), fiR r f k n) else bsN r f n k
theorem bsN_rng {r : aRw} (hw : WF r) {f : Int} (f0 : 0 ≤ f) (f1 : f < 5) (n : Int) : ∀ k : Nat, k < 10 → 0 ≤ (bsN r f n (k + 1)).2 ∧ (bsN r f n (k + 1)).2 ≤ 999 ∧ 0 ≤ (bsN r f n (k + 1)).1 ∧ (bsN r f n (k + 1)).1 ≤ k
  | 0, _ => by
    have h := fiR_rng hw f0 f1 (k := 0) (by decide) n
    have e : bsN r f n 1 = (0, fiR r f 0 n) := by
      show (if fiR r f ((0 : Nat) : Int) n < (0, (1000000000 : Int)).2 then (((0 : Nat) : Int), fiR r f ((0 : Nat) : Int) n) else (0, 1000000000)) = _
      exact if_pos (by show fiR r f 0 n < 1000000000; omega)
    rw [e]
    exact ⟨h.1, h.2, Int.le_refl 0, Int.le_refl 0⟩
  | k + 1, hk => by
    have z := bsN_rng hw f0 f1 n k (by omega)
    have h := fiR_rng hw f0 f1 (k := ((k + 1 : Nat) : Int)) (by omega) n
    rw [bsN]
    split
    · exact ⟨h.1, h.2, by show (0 : Int) ≤ ((k + 1 : Nat) : Int); omega, by show ((k + 1 : Nat) : Int) ≤ ((k + 1 : Nat) : Int); omega⟩
    · exact ⟨z.1, z.2.1, z.2.2.1, by omega⟩
def A_bestCostume (r : aRw) (f n w : Int) : Int := if (0 ≤ f ∧ f < 5) ∧ (0 ≤ n ∧ n ≤ 60) ∧ (w = 0 ∨ w = 1) then (if w = 0 then (bsN r f n 10).1 else (bsN r f n 10).2 - r 2) else -1
def sdN (r : aRw) (n : Int) : Nat → Int × Int
  | 0 => (-4, dysR r n.toNat 2)
  | p + 1 => if 0 ≤ off r p ∧ fwR r (off r p) n < (sdN r n p).2 then ((p : Int), fwR r (off r p) n) else sdN r n p
theorem sdN_rng {r : aRw} (hw : WF r) (n : Int) : ∀ p : Nat, 0 ≤ (sdN r n p).2 ∧ (sdN r n p).2 ≤ 999 ∧ -4 ≤ (sdN r n p).1 ∧ (sdN r n p).1 ≤ p
  | 0 => ⟨(dys2 hw _).1, (dys2 hw _).2, Int.le_refl _, by show (-4 : Int) ≤ 0; decide⟩
  | p + 1 => by
    have z := sdN_rng hw n p
    have h := fwR_rng hw (off r p) n
    rw [sdN]
    split
    · exact ⟨h.1, h.2, by show (-4 : Int) ≤ (p : Int); omega, by show (p : Int) ≤ ((p + 1 : Nat) : Int); omega⟩
    · exact ⟨z.1, z.2.1, z.2.2.1, by omega⟩
def A_send (r : aRw) (n : Int) : Int := if 0 ≤ n ∧ n ≤ 60 then (sdN r n (r 0).toNat).1 else -1
def chI (r : aRw) (n : Int) (a : Nat) (z : Int × Int) : Nat → Int × Int
  | 0 => z
  | j + 1 => if fcR r a ((a : Int) + 1 + j) n < (chI r n a z j).2 then (10 * (a : Int) + ((a : Int) + 1 + j), fcR r a ((a : Int) + 1 + j) n) else chI r n a z j
def chO (r : aRw) (n : Int) : Nat → Int × Int
  | 0 => (-4, dysR r n.toNat 2)
  | a + 1 => chI r n a (chO r n a) (4 - a)
theorem chI_rng {r : aRw} (hw : WF r) (n : Int) {a : Nat} (ha : a < 5) {z : Int × Int} (hz : 0 ≤ z.2 ∧ z.2 ≤ 999 ∧ -4 ≤ z.1 ∧ z.1 ≤ 99) : ∀ j : Nat, a + 1 + j ≤ 5 → 0 ≤ (chI r n a z j).2 ∧ (chI r n a z j).2 ≤ 999 ∧ -4 ≤ (chI r n a z j).1 ∧ (chI r n a z j).1 ≤ 99
  | 0, _ => hz
  | j + 1, hj => by
    have y := chI_rng hw n ha hz j (by omega)
    have h := fcR_rng hw (a := (a : Int)) (b := (a : Int) + 1 + j) (by omega) (by omega) (by omega) (by omega) n
    rw [chI]
    split
    · exact ⟨h.1, h.2, by show (-4 : Int) ≤ 10 * (a : Int) + ((a : Int) + 1 + j); omega, by show 10 * (a : Int) + ((a : Int) + 1 + j) ≤ 99; omega⟩
    · exact y
theorem chO_rng {r : aRw} (hw : WF r) (n : Int) : ∀ a : Nat, a ≤ 5 → 0 ≤ (chO r n a).2 ∧ (chO r n a).2 ≤ 999 ∧ -4 ≤ (chO r n a).1 ∧ (chO r n a).1 ≤ 99
  | 0, _ => ⟨(dys2 hw _).1, (dys2 hw _).2, Int.le_refl _, by show (-4 : Int) ≤ 99; decide⟩
  | a + 1, ha => chI_rng hw n (by omega) (chO_rng hw n a (by omega)) (4 - a) (by omega)
def A_change (r : aRw) (n : Int) : Int := if 0 ≤ n ∧ n ≤ 60 then (chO r n 5).1 else -1
/-- behind how many days an office is not held by one first; is empty first -/
def wnF (r : aRw) (f p : Int) : Nat → Nat → Int
  | 0, _ => -4
  | k + 1, d => if dysR r d (8 + f) = p then wnF r f p k (d + 1) else (d : Int)
def emF (r : aRw) (f : Int) : Nat → Nat → Int
  | 0, _ => -4
  | k + 1, d => if dysR r d (8 + f) < 0 then (d : Int) else emF r f k (d + 1)
def A_falls (r : aRw) (p : Int) : Int := if 0 ≤ p ∧ p < r 0 then (if off r p < 0 then -4 else wnF r (off r p) p 61 0) else -1
def A_empty (r : aRw) (f : Int) : Int := if 0 ≤ f ∧ f < 5 then emF r f 61 0 else -1
set_option maxRecDepth 10000 in
theorem cC_fallenIn (l : Launch) (f k n : Int) (σ : aS) (r : aRw) (hR : Rep σ 0 r) (hw : WF r) (hd : r 1 ≤ 999) (f0 : 0 ≤ f) (f1 : f < 5) (k0 : 0 ≤ k ∧ k ≤ 9) (h0 : 0 ≤ n) (h1 : n ≤ 60) : AM l 5 mX6_fallenIn [aR 0 0, aI f, aI k, aI n] σ (QC (fiR r f k n) σ) := by
  have bn := hw.1
  have en := hR.n
  have b1 := hw.2.1
  have e1 := hR.1.2.1
  have b2 := hw.2.2.1
  have e2 := hR.1.2.2
  refine am_of (by decide) (Nat.le_of_ble_eq_true rfl) (L := [some (aR 0 0), some (aI f), some (aI k), some (aI n)]) rfl ?_
  refine aw_b kX6_ok bX6_fallenIn_0_ok (Cs := [0 < 1, 0 < 1]) (pc' := 8) (L' := [some (aR 0 0), some (aI f), some (aI k), some (aI n)]) (st' := [aR 1 0, aR 1 1]) (σ' := σ) rfl (show (0 < 1) ∧ (0 < 1) from ⟨by omega, by omega⟩) ?_
  refine aw_callV lX6_68 (as := [aR 1 0]) (rest := []) (t := 1) (c := 1) (by decide) (by decide) (by decide) rfl rfl (Nat.le_of_ble_eq_true rfl) rfl dX6_fallenIn_8 (cC_becomes l 0 1 (by decide) (by decide) (by decide) σ r hR hw) ?_
  rintro _ τ1 ⟨rfl, hT1, hF1⟩
  refine aw_b kX6_ok bX6_fallenIn_11_ok (Cs := [0 < 1, 1 < 3, 1 < 3, 0 ≤ f ∧ f < 5, 0 < 1]) (pc' := 26) (L' := [some (aR 0 0), some (aI f), some (aI k), some (aI n)]) (st' := [aI n, aR 1 1]) (σ' := aUp τ1 7 1 f k) rfl (show (0 < 1) ∧ (1 < 3) ∧ (1 < 3) ∧ (0 ≤ f ∧ f < 5) ∧ (0 < 1) from ⟨by omega, by omega, by omega, by omega, by omega⟩) ?_
  have hP := Rep_cost hT1 hw f0 f1 k
  have e1R : rUp r (3 + f) k 1 = r 1 := rUp_ne (by omega)
  refine aw_callV lX6_159 (as := [aI n]) (rest := []) (t := 1) (c := 1) (by decide) (by decide) (by decide) rfl rfl (Nat.le_of_ble_eq_true rfl) rfl dX6_fallenIn_26 (cC_passI l n 1 (by decide) (aUp τ1 7 1 f k) (rUp r (3 + f) k) hP (WF_cost hw f0 f1 k0) h0 (by omega) (by have := e1R; omega)) ?_
  rintro _ τ2 ⟨rfl, hT2, hF2⟩
  refine aw_b kX6_ok bX6_fallenIn_29_ok (Cs := [0 < 1, 1 < 3]) (pc' := 36) (L' := [some (aR 0 0), some (aI f), some (aI k), some (aI n)]) (st' := [aI (τ2 1 1 2)]) (σ' := τ2) rfl (show (0 < 1) ∧ (1 < 3) from ⟨by omega, by omega⟩) ?_
  exact aw_iret dX6_fallenIn_36 rfl ⟨aret hT2.1.2.2, aFrC (aFr_tr (aFr_tr hF1 (aFr_up (cb (by decide)))) hF2)⟩
set_option maxRecDepth 10000 in
theorem cC_fallenWithout (l : Launch) (f n : Int) (σ : aS) (r : aRw) (hR : Rep σ 0 r) (hw : WF r) (hd : r 1 ≤ 999) (hf : aIr f) (h0 : 0 ≤ n) (h1 : n ≤ 60) : AM l 5 mX6_fallenWithout [aR 0 0, aI f, aI n] σ (QC (fwR r f n) σ) := by
  have bn := hw.1
  have en := hR.n
  have b1 := hw.2.1
  have e1 := hR.1.2.1
  have b2 := hw.2.2.1
  have e2 := hR.1.2.2
  refine am_of (by decide) (Nat.le_of_ble_eq_true rfl) (L := [some (aR 0 0), some (aI f), some (aI n)]) rfl ?_
  refine aw_b kX6_ok bX6_fallenWithout_0_ok (Cs := [0 < 1, 0 < 1]) (pc' := 8) (L' := [some (aR 0 0), some (aI f), some (aI n)]) (st' := [aR 1 0, aR 1 1]) (σ' := σ) rfl (show (0 < 1) ∧ (0 < 1) from ⟨by omega, by omega⟩) ?_
  refine aw_callV lX6_68 (as := [aR 1 0]) (rest := []) (t := 1) (c := 1) (by decide) (by decide) (by decide) rfl rfl (Nat.le_of_ble_eq_true rfl) rfl dX6_fallenWithout_8 (cC_becomes l 0 1 (by decide) (by decide) (by decide) σ r hR hw) ?_
  rintro _ τ1 ⟨rfl, hT1, hF1⟩
  refine aw_b kX6_ok bX6_fallenWithout_11_ok (Cs := [0 < 1]) (pc' := 16) (L' := [some (aR 0 0), some (aI f), some (aI n)]) (st' := [aI f, aR 1 1]) (σ' := τ1) rfl (show 0 < 1 from by omega) ?_
  refine aw_callV lX6_155 (as := [aI f]) (rest := []) (t := 1) (c := 1) (by decide) (by decide) (by decide) rfl rfl (Nat.le_of_ble_eq_true rfl) rfl dX6_fallenWithout_16 (cC_vacate l f 1 (by decide) τ1 r hT1 hw ⟨by omega, by omega⟩) ?_
  rintro _ τ3 ⟨rfl, hP, hF3, h33⟩
  have e1R : emR r f 1 = r 1 := emR_at (by omega)
  refine aw_b kX6_ok bX6_fallenWithout_19_ok (Cs := [0 < 1]) (pc' := 24) (L' := [some (aR 0 0), some (aI f), some (aI n)]) (st' := [aI n, aR 1 1]) (σ' := τ3) rfl (show 0 < 1 from by omega) ?_
  refine aw_callV lX6_159 (as := [aI n]) (rest := []) (t := 1) (c := 1) (by decide) (by decide) (by decide) rfl rfl (Nat.le_of_ble_eq_true rfl) rfl dX6_fallenWithout_24 (cC_passI l n 1 (by decide) τ3 (emR r f) hP (emR_wf hw f) h0 (by omega) (by have := e1R; omega)) ?_
  rintro _ τ2 ⟨rfl, hT2, hF2⟩
  refine aw_b kX6_ok bX6_fallenWithout_27_ok (Cs := [0 < 1, 1 < 3]) (pc' := 34) (L' := [some (aR 0 0), some (aI f), some (aI n)]) (st' := [aI (τ2 1 1 2)]) (σ' := τ2) rfl (show (0 < 1) ∧ (1 < 3) from ⟨by omega, by omega⟩) ?_
  exact aw_iret dX6_fallenWithout_34 rfl ⟨aret hT2.1.2.2, aFrC (aFr_tr (aFr_tr hF1 hF3) hF2)⟩
set_option maxRecDepth 10000 in
theorem cC_fallenChanged (l : Launch) (a b n : Int) (σ : aS) (r : aRw) (hR : Rep σ 0 r) (hw : WF r) (hd : r 1 ≤ 999) (a0 : 0 ≤ a) (a1 : a < 5) (c0 : 0 ≤ b) (c1 : b < 5) (h0 : 0 ≤ n) (h1 : n ≤ 60) : AM l 5 mX6_fallenChanged [aR 0 0, aI a, aI b, aI n] σ (QC (fcR r a b n) σ) := by
  have bn := hw.1
  have en := hR.n
  have b1 := hw.2.1
  have e1 := hR.1.2.1
  have b2 := hw.2.2.1
  have e2 := hR.1.2.2
  refine am_of (by decide) (Nat.le_of_ble_eq_true rfl) (L := [some (aR 0 0), some (aI a), some (aI b), some (aI n)]) rfl ?_
  refine aw_b kX6_ok bX6_fallenChanged_0_ok (Cs := [0 < 1, 0 < 1]) (pc' := 8) (L' := [some (aR 0 0), some (aI a), some (aI b), some (aI n)]) (st' := [aR 1 0, aR 1 1]) (σ' := σ) rfl (show (0 < 1) ∧ (0 < 1) from ⟨by omega, by omega⟩) ?_
  refine aw_callV lX6_68 (as := [aR 1 0]) (rest := []) (t := 1) (c := 1) (by decide) (by decide) (by decide) rfl rfl (Nat.le_of_ble_eq_true rfl) rfl dX6_fallenChanged_8 (cC_becomes l 0 1 (by decide) (by decide) (by decide) σ r hR hw) ?_
  rintro _ τ1 ⟨rfl, hT1, hF1⟩
  refine aw_b kX6_ok bX6_fallenChanged_11_ok (Cs := [0 < 1, 1 < 3, 0 < 1, 0 < 3, 0 < 3, 0 ≤ b ∧ b < 5, 1 < 3, 0 ≤ a ∧ a < 5, 0 < 1, 1 < 3, 0 < 1, 0 < 3, 0 < 3, 0 ≤ a ∧ a < 5, 1 < 3, 0 ≤ b ∧ b < 5, 0 < 1]) (pc' := 52) (L' := [some (aR 0 0), some (aI a), some (aI b), some (aI n)]) (st' := [aI n, aR 1 1]) (σ' := aUp (aUp τ1 7 1 a (τ1 7 0 b)) 7 1 b ((aUp τ1 7 1 a (τ1 7 0 b)) 7 0 a)) rfl (show (0 < 1) ∧ (1 < 3) ∧ (0 < 1) ∧ (0 < 3) ∧ (0 < 3) ∧ (0 ≤ b ∧ b < 5) ∧ (1 < 3) ∧ (0 ≤ a ∧ a < 5) ∧ (0 < 1) ∧ (1 < 3) ∧ (0 < 1) ∧ (0 < 3) ∧ (0 < 3) ∧ (0 ≤ a ∧ a < 5) ∧ (1 < 3) ∧ (0 ≤ b ∧ b < 5) ∧ (0 < 1) from ⟨by omega, by omega, by omega, by omega, by omega, by omega, by omega, by omega, by omega, by omega, by omega, by omega, by omega, by omega, by omega, by omega, by omega⟩) ?_
  have hR0 := hR.scr (by decide) (aFrC hF1)
  have qa := hR0.of a0 a1
  have qb := hR0.of c0 c1
  have hP : Rep (aUp (aUp τ1 7 1 a (τ1 7 0 b)) 7 1 b (aUp τ1 7 1 a (τ1 7 0 b) 7 0 a)) 1 (fcW r a b) := by
    have e9 : aUp τ1 7 1 a (τ1 7 0 b) 7 0 a = r (3 + a) := by rw [aUp_off (fun q => absurd q.2 (by decide))]; exact qa.1
    rw [e9, qb.1]
    exact Rep_cost (Rep_cost hT1 hw a0 a1 _) (WF_cost hw a0 a1 (hw.co c0 c1)) c0 c1 _
  have e1R : fcW r a b 1 = r 1 := by unfold fcW; rw [rUp_ne (by omega), rUp_ne (by omega)]
  refine aw_callV lX6_159 (as := [aI n]) (rest := []) (t := 1) (c := 1) (by decide) (by decide) (by decide) rfl rfl (Nat.le_of_ble_eq_true rfl) rfl dX6_fallenChanged_52 (cC_passI l n 1 (by decide) (aUp (aUp τ1 7 1 a (τ1 7 0 b)) 7 1 b ((aUp τ1 7 1 a (τ1 7 0 b)) 7 0 a)) (fcW r a b) hP (fcW_wf hw a0 a1 c0 c1) h0 (by omega) (by have := e1R; omega)) ?_
  rintro _ τ2 ⟨rfl, hT2, hF2⟩
  refine aw_b kX6_ok bX6_fallenChanged_55_ok (Cs := [0 < 1, 1 < 3]) (pc' := 62) (L' := [some (aR 0 0), some (aI a), some (aI b), some (aI n)]) (st' := [aI (τ2 1 1 2)]) (σ' := τ2) rfl (show (0 < 1) ∧ (1 < 3) from ⟨by omega, by omega⟩) ?_
  exact aw_iret dX6_fallenChanged_62 rfl ⟨aret hT2.1.2.2, aFrC (aFr_tr (aFr_tr hF1 (aFr_tr (aFr_up (cb (by decide))) (aFr_up (cb (by decide))))) hF2)⟩
set_option maxRecDepth 10000 in
theorem cC_bestCostume (l : Launch) (f n w : Int) (σ : aS) (r : aRw) (hR : Rep σ 0 r) (hw : WF r) (hd : r 1 ≤ 999) (hf : aIr f) (hn : aIr n) (hv : aIr w) : AM l 6 mX6_bestCostume [aR 0 0, aI f, aI n, aI w] σ (QC (A_bestCostume r f n w) σ) := by
  have bn := hw.1
  have en := hR.n
  have b1 := hw.2.1
  have e1 := hR.1.2.1
  have b2 := hw.2.2.1
  have e2 := hR.1.2.2
  refine am_of (by decide) (Nat.le_of_ble_eq_true rfl) (L := [some (aR 0 0), some (aI f), some (aI n), some (aI w), none, none, none, none]) rfl ?_
  refine aw_b kX6_ok bX6_bestCostume_0_ok (Cs := []) (pc' := 1) (L' := [some (aR 0 0), some (aI f), some (aI n), some (aI w), none, none, none, none]) (st' := [aI f]) (σ' := σ) rfl trivial ?_
  refine aw_bS lX6_109 (as := [aI f]) (rest := []) (by decide) rfl (Nat.le_of_ble_eq_true rfl) rfl dX6_bestCostume_1 (cC_isOffice l f σ ⟨by omega, by omega⟩) (fun wh1 => ?_) (fun wh1 => ?_)
  · refine aw_ieq dX6_bestCostume_4 (tgt := 21) (by decide) ⟨by omega, by omega⟩ (fun wh2 => absurd wh2 (by decide)) (fun wh2 => ?_)
    refine aw_b kX6_ok bX6_bestCostume_7_ok (Cs := []) (pc' := 8) (L' := [some (aR 0 0), some (aI f), some (aI n), some (aI w), none, none, none, none]) (st' := [aI n]) (σ' := σ) rfl trivial ?_
    refine aw_bS lX6_165 (as := [aI n]) (rest := []) (by decide) rfl (Nat.le_of_ble_eq_true rfl) rfl dX6_bestCostume_8 (cC_isAhead l n σ ⟨by omega, by omega⟩) (fun wh3 => ?_) (fun wh3 => ?_)
    · refine aw_ieq dX6_bestCostume_11 (tgt := 21) (by decide) ⟨by omega, by omega⟩ (fun wh4 => absurd wh4 (by decide)) (fun wh4 => ?_)
      refine aw_b kX6_ok bX6_bestCostume_14_ok (Cs := []) (pc' := 15) (L' := [some (aR 0 0), some (aI f), some (aI n), some (aI w), none, none, none, none]) (st' := [aI w]) (σ' := σ) rfl trivial ?_
      refine aw_bS lX6_171 (as := [aI w]) (rest := []) (by decide) rfl (Nat.le_of_ble_eq_true rfl) rfl dX6_bestCostume_15 (cC_isChoice l w σ ⟨by omega, by omega⟩) (fun wh5 => ?_) (fun wh5 => ?_)
      · refine aw_ine dX6_bestCostume_18 (tgt := 23) (by decide) ⟨by omega, by omega⟩ (fun wh6 => ?_) (fun wh6 => absurd wh6 (by decide))
        refine aw_b kX6_ok bX6_bestCostume_23_ok (Cs := []) (pc' := 30) (L' := [some (aR 0 0), some (aI f), some (aI n), some (aI w), some (aI 0), none, none, none]) (st' := [aI n, aI 0, aI f, aR 0 0]) (σ' := σ) rfl trivial ?_
        refine aw_callV lX6_184 (as := [aI f, aI 0, aI n]) (rest := []) (t := 0) (c := 0) (by decide) (by decide) (by decide) rfl rfl (Nat.le_of_ble_eq_true rfl) rfl dX6_bestCostume_30 (cC_fallenIn l f 0 n σ r hR hw hd (by omega) (by omega) (by decide) (by omega) (by omega) ) ?_
        rintro _ τ1 ⟨rfl, hF1⟩
        have hR1 := hR.scr (by decide) hF1
        refine aw_b kX6_ok bX6_bestCostume_33_ok (Cs := []) (pc' := 38) (L' := [some (aR 0 0), some (aI f), some (aI n), some (aI w), some (aI 0), some (aI (fiR r f 0 n)), some (aI 1), none]) (st' := []) (σ' := τ1) rfl trivial ?_
        have g0 := fiR_rng hw (f := f) (k := 0) (by omega) (by omega) (by decide) n
        have e10 : bsN r f n 1 = (0, fiR r f 0 n) := by
          rw [bsN, bsN, if_pos (by show fiR r f 0 n < 1000000000; omega)]; rfl
        have e11 := congrArg Prod.fst e10
        have e12 := congrArg Prod.snd e10
        dsimp only at e11 e12
        refine aw_eq (L' := [some (aR 0 0), some (aI f), some (aI n), some (aI w), some (aI (bsN r f n (0 + 1)).1), some (aI (bsN r f n (0 + 1)).2), some (aI (((0 : Nat) : Int) + 1)), none]) (by rw [show (bsN r f n (0 + 1)).1 = 0 from e11, show (bsN r f n (0 + 1)).2 = fiR r f 0 n from e12]; rfl) rfl rfl ?_
        refine aloop (P := fun k : Nat => ∀ (ρ : aS) (hQ : Rep ρ 0 r) (hG : aFr CScr σ ρ), AW l 6 mX6_bestCostume _ 38 [some (aR 0 0), some (aI f), some (aI n), some (aI w), some (aI ((bsN r f n (k + 1)).1)), some (aI ((bsN r f n (k + 1)).2)), some (aI ((k : Int) + 1)), none] [] ρ) (9) (fun k hk ihk ρ hQ hG => ?_) τ1 hR1 hF1
        have gb := bsN_rng hw (f := f) (by omega) (by omega) n k (by omega)
        refine aw_b kX6_ok bX6_bestCostume_38_ok (Cs := []) (pc' := 42) (L' := [some (aR 0 0), some (aI f), some (aI n), some (aI w), some (aI ((bsN r f n (k + 1)).1)), some (aI ((bsN r f n (k + 1)).2)), some (aI ((k : Int) + 1)), none]) (st' := [aI 10, aI ((k : Int) + 1)]) (σ' := ρ) rfl trivial ?_
        refine aw_cge dX6_bestCostume_42 (tgt := 76) (by decide) ⟨by omega, by omega⟩ ⟨by omega, by omega⟩ (fun wh7 => ?_) (fun wh7 => ?_)
        · have e9 : k = 9 := by omega
          have eQ := hQ.1.2.2
          refine aw_b kX6_ok bX6_bestCostume_76_ok (Cs := []) (pc' := 77) (L' := [some (aR 0 0), some (aI f), some (aI n), some (aI w), some (aI ((bsN r f n (k + 1)).1)), some (aI ((bsN r f n (k + 1)).2)), some (aI ((k : Int) + 1)), none]) (st' := [aI w]) (σ' := ρ) rfl trivial ?_
          refine aw_ine dX6_bestCostume_77 (tgt := 85) (by decide) ⟨by omega, by omega⟩ (fun wh8 => ?_) (fun wh8 => ?_)
          · refine aw_b kX6_ok bX6_bestCostume_85_ok (Cs := [0 < 1, 0 < 3]) (pc' := 95) (L' := [some (aR 0 0), some (aI f), some (aI n), some (aI w), some (aI ((bsN r f n (k + 1)).1)), some (aI ((bsN r f n (k + 1)).2)), some (aI ((k : Int) + 1)), none]) (st' := [aI (((bsN r f n (k + 1)).2) - (ρ 1 0 2))]) (σ' := ρ) rfl (show (0 < 1) ∧ (0 < 3) from ⟨by omega, by omega⟩) ?_
            exact aw_iret dX6_bestCostume_95 rfl ⟨aret (by subst e9; unfold A_bestCostume; rw [if_pos (by omega)]; (first | rw [if_pos (by omega)] | rw [if_neg (by omega), ← eQ])), hG⟩
          · refine aw_b kX6_ok bX6_bestCostume_80_ok (Cs := []) (pc' := 95) (L' := [some (aR 0 0), some (aI f), some (aI n), some (aI w), some (aI ((bsN r f n (k + 1)).1)), some (aI ((bsN r f n (k + 1)).2)), some (aI ((k : Int) + 1)), none]) (st' := [aI ((bsN r f n (k + 1)).1)]) (σ' := ρ) rfl trivial ?_
            exact aw_iret dX6_bestCostume_95 rfl ⟨aret (by subst e9; unfold A_bestCostume; rw [if_pos (by omega)]; (first | rw [if_pos (by omega)] | rw [if_neg (by omega), ← eQ])), hG⟩
        · refine aw_b kX6_ok bX6_bestCostume_45_ok (Cs := []) (pc' := 50) (L' := [some (aR 0 0), some (aI f), some (aI n), some (aI w), some (aI ((bsN r f n (k + 1)).1)), some (aI ((bsN r f n (k + 1)).2)), some (aI ((k : Int) + 1)), none]) (st' := [aI n, aI ((k : Int) + 1), aI f, aR 0 0]) (σ' := ρ) rfl trivial ?_
          have gk := fiR_rng hw (f := f) (k := (k : Int) + 1) (by omega) (by omega) (by omega) n
          have ekk : fiR r f ((k + 1 : Nat) : Int) n = fiR r f ((k : Int) + 1) n := rfl
          refine aw_callV lX6_184 (as := [aI f, aI ((k : Int) + 1), aI n]) (rest := []) (t := 0) (c := 0) (by decide) (by decide) (by decide) rfl rfl (Nat.le_of_ble_eq_true rfl) rfl dX6_bestCostume_50 (cC_fallenIn l f ((k : Int) + 1) n ρ r hQ hw hd (by omega) (by omega) (by omega) (by omega) (by omega) ) ?_
          rintro _ τ2 ⟨rfl, hF2⟩
          have hR2 := hQ.scr (by decide) hF2
          refine aw_b kX6_ok bX6_bestCostume_53_ok (Cs := []) (pc' := 59) (L' := [some (aR 0 0), some (aI f), some (aI n), some (aI w), some (aI ((bsN r f n (k + 1)).1)), some (aI ((bsN r f n (k + 1)).2)), some (aI ((k : Int) + 1)), some (aI (fiR r f ((k : Int) + 1) n))]) (st' := [aI ((bsN r f n (k + 1)).2), aI (fiR r f ((k : Int) + 1) n)]) (σ' := τ2) rfl trivial ?_
          refine aw_cge dX6_bestCostume_59 (tgt := 70) (by decide) ⟨by omega, by omega⟩ ⟨by omega, by omega⟩ (fun wh9 => ?_) (fun wh9 => ?_)
          · refine aw_b kX6_ok bX6_bestCostume_70_ok (Cs := []) (pc' := 38) (L' := [some (aR 0 0), some (aI f), some (aI n), some (aI w), some (aI ((bsN r f n (k + 1)).1)), some (aI ((bsN r f n (k + 1)).2)), some (aI (((k : Int) + 1) + 1)), some (aI (fiR r f ((k : Int) + 1) n))]) (st' := []) (σ' := τ2) rfl trivial ?_
            refine aw_drop [7] (L' := [some (aR 0 0), some (aI f), some (aI n), some (aI w), some (aI ((bsN r f n (k + 1)).1)), some (aI ((bsN r f n (k + 1)).2)), some (aI (((k : Int) + 1) + 1)), none]) rfl ?_
            exact aw_eq (by rw [show bsN r f n (k + 1 + 1) = bsN r f n (k + 1) from by rw [bsN]; exact if_neg (by omega)]; rfl) rfl rfl (ihk (by omega) τ2 hR2 (aFr_tr hG hF2))
          · refine aw_b kX6_ok bX6_bestCostume_62_ok (Cs := []) (pc' := 70) (L' := [some (aR 0 0), some (aI f), some (aI n), some (aI w), some (aI ((k : Int) + 1)), some (aI (fiR r f ((k : Int) + 1) n)), some (aI ((k : Int) + 1)), some (aI (fiR r f ((k : Int) + 1) n))]) (st' := []) (σ' := τ2) rfl trivial ?_
            refine aw_b kX6_ok bX6_bestCostume_70_ok (Cs := []) (pc' := 38) (L' := [some (aR 0 0), some (aI f), some (aI n), some (aI w), some (aI ((k : Int) + 1)), some (aI (fiR r f ((k : Int) + 1) n)), some (aI (((k : Int) + 1) + 1)), some (aI (fiR r f ((k : Int) + 1) n))]) (st' := []) (σ' := τ2) rfl trivial ?_
            refine aw_drop [7] (L' := [some (aR 0 0), some (aI f), some (aI n), some (aI w), some (aI ((k : Int) + 1)), some (aI (fiR r f ((k : Int) + 1) n)), some (aI (((k : Int) + 1) + 1)), none]) rfl ?_
            exact aw_eq (by rw [show bsN r f n (k + 1 + 1) = (((k + 1 : Nat) : Int), fiR r f ((k + 1 : Nat) : Int) n) from by rw [bsN]; exact if_pos (by omega)]; rfl) rfl rfl (ihk (by omega) τ2 hR2 (aFr_tr hG hF2))
      · refine aw_ine dX6_bestCostume_18 (tgt := 23) (by decide) ⟨by omega, by omega⟩ (fun wh10 => absurd wh10 (by decide)) (fun wh10 => ?_)
        refine aw_b kX6_ok bX6_bestCostume_21_ok (Cs := []) (pc' := 22) (L' := [some (aR 0 0), some (aI f), some (aI n), some (aI w), none, none, none, none]) (st' := [aI (-1)]) (σ' := σ) rfl trivial ?_
        exact aw_iret dX6_bestCostume_22 rfl ⟨aret (by unfold A_bestCostume; rw [if_neg (by omega)]), aFr_rf⟩
    · refine aw_ieq dX6_bestCostume_11 (tgt := 21) (by decide) ⟨by omega, by omega⟩ (fun wh11 => ?_) (fun wh11 => absurd wh11 (by decide))
      refine aw_b kX6_ok bX6_bestCostume_21_ok (Cs := []) (pc' := 22) (L' := [some (aR 0 0), some (aI f), some (aI n), some (aI w), none, none, none, none]) (st' := [aI (-1)]) (σ' := σ) rfl trivial ?_
      exact aw_iret dX6_bestCostume_22 rfl ⟨aret (by unfold A_bestCostume; rw [if_neg (by omega)]), aFr_rf⟩
  · refine aw_ieq dX6_bestCostume_4 (tgt := 21) (by decide) ⟨by omega, by omega⟩ (fun wh12 => ?_) (fun wh12 => absurd wh12 (by decide))
    refine aw_b kX6_ok bX6_bestCostume_21_ok (Cs := []) (pc' := 22) (L' := [some (aR 0 0), some (aI f), some (aI n), some (aI w), none, none, none, none]) (st' := [aI (-1)]) (σ' := σ) rfl trivial ?_
    exact aw_iret dX6_bestCostume_22 rfl ⟨aret (by unfold A_bestCostume; rw [if_neg (by omega)]), aFr_rf⟩
set_option maxRecDepth 10000 in
theorem cC_send (l : Launch) (n : Int) (σ : aS) (r : aRw) (hR : Rep σ 0 r) (hw : WF r) (hd : r 1 ≤ 999) (hn : aIr n) : AM l 6 mX6_send [aR 0 0, aI n] σ (QC (A_send r n) σ) := by
  have bn := hw.1
  have en := hR.n
  have b1 := hw.2.1
  have e1 := hR.1.2.1
  have b2 := hw.2.2.1
  have e2 := hR.1.2.2
  refine am_of (by decide) (Nat.le_of_ble_eq_true rfl) (L := [some (aR 0 0), some (aI n), none, none, none, none, none]) rfl ?_
  refine aw_b kX6_ok bX6_send_0_ok (Cs := []) (pc' := 1) (L' := [some (aR 0 0), some (aI n), none, none, none, none, none]) (st' := [aI n]) (σ' := σ) rfl trivial ?_
  refine aw_bS lX6_165 (as := [aI n]) (rest := []) (by decide) rfl (Nat.le_of_ble_eq_true rfl) rfl dX6_send_1 (cC_isAhead l n σ ⟨by omega, by omega⟩) (fun wh1 => ?_) (fun wh1 => ?_)
  · refine aw_ine dX6_send_4 (tgt := 9) (by decide) ⟨by omega, by omega⟩ (fun wh2 => ?_) (fun wh2 => absurd wh2 (by decide))
    refine aw_b kX6_ok bX6_send_9_ok (Cs := []) (pc' := 11) (L' := [some (aR 0 0), some (aI n), none, none, none, none, none]) (st' := [aI n, aR 0 0]) (σ' := σ) rfl trivial ?_
    refine aw_callV lX6_168 (as := [aI n]) (rest := []) (t := 0) (c := 0) (by decide) (by decide) (by decide) rfl rfl (Nat.le_of_ble_eq_true rfl) rfl dX6_send_11 (cC_foresee l n σ r hR hw hd (by omega) (by omega)) ?_
    rintro _ τ ⟨rfl, hT, hF⟩
    have hwT := dysR_wf hw n.toNat
    have eT := dysR_0 r n.toNat
    have enT := hT.n
    refine aw_b kX6_ok bX6_send_14_ok (Cs := [0 < 1, 1 < 3]) (pc' := 28) (L' := [some (aR 0 0), some (aI n), some (aI (τ 1 1 2)), some (aI (-4)), some (aI 0), none, none]) (st' := []) (σ' := τ) rfl (show (0 < 1) ∧ (1 < 3) from ⟨by omega, by omega⟩) ?_
    have hR1 := hR.scr (by decide) (aFrC hF)
    refine aw_eq (L' := [some (aR 0 0), some (aI n), some (aI (sdN r n 0).2), some (aI (sdN r n 0).1), some (aI ((0 : Nat) : Int)), none, none]) (by rw [hT.1.2.2]; rfl) rfl rfl ?_
    refine aloop (P := fun p : Nat => ∀ (ρ : aS) (hQ : Rep ρ 0 r) (hG : aFr CScr σ ρ), AW l 6 mX6_send _ 28 [some (aR 0 0), some (aI n), some (aI ((sdN r n p).2)), some (aI ((sdN r n p).1)), some (aI (p : Int)), none, none] [] ρ) ((r 0).toNat) (fun p hp ihp ρ hQ hG => ?_) τ hR1 (aFrC hF)
    have gb := sdN_rng hw n p
    have enQ := hQ.n
    refine aw_b kX6_ok bX6_send_28_ok (Cs := [0 < 1, 0 < 3]) (pc' := 37) (L' := [some (aR 0 0), some (aI n), some (aI ((sdN r n p).2)), some (aI ((sdN r n p).1)), some (aI (p : Int)), none, none]) (st' := [aI (ρ 1 0 0), aI (p : Int)]) (σ' := ρ) rfl (show (0 < 1) ∧ (0 < 3) from ⟨by omega, by omega⟩) ?_
    refine aw_cge dX6_send_37 (tgt := 85) (by decide) ⟨by omega, by omega⟩ ⟨by omega, by omega⟩ (fun wh3 => ?_) (fun wh3 => ?_)
    · refine aw_b kX6_ok bX6_send_85_ok (Cs := []) (pc' := 86) (L' := [some (aR 0 0), some (aI n), some (aI ((sdN r n p).2)), some (aI ((sdN r n p).1)), some (aI (p : Int)), none, none]) (st' := [aI ((sdN r n p).1)]) (σ' := ρ) rfl trivial ?_
      exact aw_iret dX6_send_86 rfl ⟨aret (by unfold A_send; rw [if_pos (by omega), show p = (r 0).toNat by omega]), hG⟩
    · have rp := hQ.pe (p := (p : Int)) (by omega) (by omega)
      have bo := off_rng r (p : Int)
      have no := nb_cases (off r (p : Int))
      refine aw_b kX6_ok bX6_send_40_ok (Cs := [0 < 1, 0 < 3, 0 < 3, 0 ≤ (p : Int) ∧ (p : Int) < 8]) (pc' := 55) (L' := [some (aR 0 0), some (aI n), some (aI ((sdN r n p).2)), some (aI ((sdN r n p).1)), some (aI (p : Int)), some (aI (ρ 6 0 (p : Int))), none]) (st' := [aI (-1), aI (ρ 6 0 (p : Int))]) (σ' := ρ) rfl (show (0 < 1) ∧ (0 < 3) ∧ (0 < 3) ∧ (0 ≤ (p : Int) ∧ (p : Int) < 8) from ⟨by omega, by omega, by omega, by omega⟩) ?_
      refine aw_ceq dX6_send_55 (tgt := 79) (by decide) ⟨by omega, by omega⟩ ⟨by omega, by omega⟩ (fun wh4 => ?_) (fun wh4 => ?_)
      · refine aw_b kX6_ok bX6_send_79_ok (Cs := []) (pc' := 28) (L' := [some (aR 0 0), some (aI n), some (aI ((sdN r n p).2)), some (aI ((sdN r n p).1)), some (aI ((p : Int) + 1)), some (aI (ρ 6 0 (p : Int))), none]) (st' := []) (σ' := ρ) rfl trivial ?_
        refine aw_drop [5] (L' := [some (aR 0 0), some (aI n), some (aI ((sdN r n p).2)), some (aI ((sdN r n p).1)), some (aI ((p : Int) + 1)), none, none]) rfl ?_
        exact aw_eq (by rw [show sdN r n (p + 1) = sdN r n p from by rw [sdN]; exact if_neg (by omega)]; rfl) rfl rfl (ihp (by omega) ρ hQ hG)
      · have e6 : ρ 6 0 (p : Int) = off r (p : Int) := by omega
        have gk := fwR_rng hw (off r (p : Int)) n
        have ekk : fwR r (ρ 6 0 (p : Int)) n = fwR r (off r (p : Int)) n := by rw [e6]
        refine aw_b kX6_ok bX6_send_58_ok (Cs := []) (pc' := 62) (L' := [some (aR 0 0), some (aI n), some (aI ((sdN r n p).2)), some (aI ((sdN r n p).1)), some (aI (p : Int)), some (aI (ρ 6 0 (p : Int))), none]) (st' := [aI n, aI (ρ 6 0 (p : Int)), aR 0 0]) (σ' := ρ) rfl trivial ?_
        refine aw_callV lX6_199 (as := [aI (ρ 6 0 (p : Int)), aI n]) (rest := []) (t := 0) (c := 0) (by decide) (by decide) (by decide) rfl rfl (Nat.le_of_ble_eq_true rfl) rfl dX6_send_62 (cC_fallenWithout l (ρ 6 0 (p : Int)) n ρ r hQ hw hd ⟨by omega, by omega⟩ (by omega) (by omega) ) ?_
        rintro _ τ2 ⟨rfl, hF2⟩
        have hR2 := hQ.scr (by decide) hF2
        refine aw_b kX6_ok bX6_send_65_ok (Cs := []) (pc' := 70) (L' := [some (aR 0 0), some (aI n), some (aI ((sdN r n p).2)), some (aI ((sdN r n p).1)), some (aI (p : Int)), some (aI (ρ 6 0 (p : Int))), some (aI (fwR r (ρ 6 0 (p : Int)) n))]) (st' := [aI ((sdN r n p).2), aI (fwR r (ρ 6 0 (p : Int)) n)]) (σ' := τ2) rfl trivial ?_
        refine aw_cge dX6_send_70 (tgt := 79) (by decide) ⟨by omega, by omega⟩ ⟨by omega, by omega⟩ (fun wh5 => ?_) (fun wh5 => ?_)
        · refine aw_b kX6_ok bX6_send_79_ok (Cs := []) (pc' := 28) (L' := [some (aR 0 0), some (aI n), some (aI ((sdN r n p).2)), some (aI ((sdN r n p).1)), some (aI ((p : Int) + 1)), some (aI (ρ 6 0 (p : Int))), some (aI (fwR r (ρ 6 0 (p : Int)) n))]) (st' := []) (σ' := τ2) rfl trivial ?_
          refine aw_drop [5, 6] (L' := [some (aR 0 0), some (aI n), some (aI ((sdN r n p).2)), some (aI ((sdN r n p).1)), some (aI ((p : Int) + 1)), none, none]) rfl ?_
          exact aw_eq (by rw [show sdN r n (p + 1) = sdN r n p from by rw [sdN]; exact if_neg (by omega)]; rfl) rfl rfl (ihp (by omega) τ2 hR2 (aFr_tr hG hF2))
        · refine aw_b kX6_ok bX6_send_73_ok (Cs := []) (pc' := 79) (L' := [some (aR 0 0), some (aI n), some (aI (fwR r (ρ 6 0 (p : Int)) n)), some (aI (p : Int)), some (aI (p : Int)), some (aI (ρ 6 0 (p : Int))), some (aI (fwR r (ρ 6 0 (p : Int)) n))]) (st' := []) (σ' := τ2) rfl trivial ?_
          refine aw_b kX6_ok bX6_send_79_ok (Cs := []) (pc' := 28) (L' := [some (aR 0 0), some (aI n), some (aI (fwR r (ρ 6 0 (p : Int)) n)), some (aI (p : Int)), some (aI ((p : Int) + 1)), some (aI (ρ 6 0 (p : Int))), some (aI (fwR r (ρ 6 0 (p : Int)) n))]) (st' := []) (σ' := τ2) rfl trivial ?_
          refine aw_drop [5, 6] (L' := [some (aR 0 0), some (aI n), some (aI (fwR r (ρ 6 0 (p : Int)) n)), some (aI (p : Int)), some (aI ((p : Int) + 1)), none, none]) rfl ?_
          exact aw_eq (by rw [show sdN r n (p + 1) = ((p : Int), fwR r (off r p) n) from by rw [sdN]; exact if_pos (by omega), e6]; rfl) rfl rfl (ihp (by omega) τ2 hR2 (aFr_tr hG hF2))
  · refine aw_ine dX6_send_4 (tgt := 9) (by decide) ⟨by omega, by omega⟩ (fun wh6 => absurd wh6 (by decide)) (fun wh6 => ?_)
    refine aw_b kX6_ok bX6_send_7_ok (Cs := []) (pc' := 8) (L' := [some (aR 0 0), some (aI n), none, none, none, none, none]) (st' := [aI (-1)]) (σ' := σ) rfl trivial ?_
    exact aw_iret dX6_send_8 rfl ⟨aret (by unfold A_send; rw [if_neg (by omega)]), aFr_rf⟩
set_option maxRecDepth 10000 in
theorem cC_change (l : Launch) (n : Int) (σ : aS) (r : aRw) (hR : Rep σ 0 r) (hw : WF r) (hd : r 1 ≤ 999) (hn : aIr n) : AM l 6 mX6_change [aR 0 0, aI n] σ (QC (A_change r n) σ) := by
  have bn := hw.1
  have en := hR.n
  have b1 := hw.2.1
  have e1 := hR.1.2.1
  have b2 := hw.2.2.1
  have e2 := hR.1.2.2
  refine am_of (by decide) (Nat.le_of_ble_eq_true rfl) (L := [some (aR 0 0), some (aI n), none, none, none, none, none]) rfl ?_
  refine aw_b kX6_ok bX6_change_0_ok (Cs := []) (pc' := 1) (L' := [some (aR 0 0), some (aI n), none, none, none, none, none]) (st' := [aI n]) (σ' := σ) rfl trivial ?_
  refine aw_bS lX6_165 (as := [aI n]) (rest := []) (by decide) rfl (Nat.le_of_ble_eq_true rfl) rfl dX6_change_1 (cC_isAhead l n σ ⟨by omega, by omega⟩) (fun wh1 => ?_) (fun wh1 => ?_)
  · refine aw_ine dX6_change_4 (tgt := 9) (by decide) ⟨by omega, by omega⟩ (fun wh2 => ?_) (fun wh2 => absurd wh2 (by decide))
    refine aw_b kX6_ok bX6_change_9_ok (Cs := []) (pc' := 11) (L' := [some (aR 0 0), some (aI n), none, none, none, none, none]) (st' := [aI n, aR 0 0]) (σ' := σ) rfl trivial ?_
    refine aw_callV lX6_168 (as := [aI n]) (rest := []) (t := 0) (c := 0) (by decide) (by decide) (by decide) rfl rfl (Nat.le_of_ble_eq_true rfl) rfl dX6_change_11 (cC_foresee l n σ r hR hw hd (by omega) (by omega)) ?_
    rintro _ τ ⟨rfl, hT, hF⟩
    have hwT := dysR_wf hw n.toNat
    have eT := dysR_0 r n.toNat
    have enT := hT.n
    refine aw_b kX6_ok bX6_change_14_ok (Cs := [0 < 1, 1 < 3]) (pc' := 28) (L' := [some (aR 0 0), some (aI n), some (aI (τ 1 1 2)), some (aI (-4)), some (aI 0), none, none]) (st' := []) (σ' := τ) rfl (show (0 < 1) ∧ (1 < 3) from ⟨by omega, by omega⟩) ?_
    have hR1 := hR.scr (by decide) (aFrC hF)
    refine aw_eq (L' := [some (aR 0 0), some (aI n), some (aI (chO r n 0).2), some (aI (chO r n 0).1), some (aI ((0 : Nat) : Int)), none, none]) (by rw [hT.1.2.2]; rfl) rfl rfl ?_
    refine aloop (P := fun a : Nat => ∀ (ρ : aS) (hQ : Rep ρ 0 r) (hG : aFr CScr σ ρ), AW l 6 mX6_change _ 28 [some (aR 0 0), some (aI n), some (aI ((chO r n a).2)), some (aI ((chO r n a).1)), some (aI (a : Int)), none, none] [] ρ) (5) (fun a ha iha ρ hQ hG => ?_) τ hR1 (aFrC hF)
    refine aw_b kX6_ok bX6_change_28_ok (Cs := []) (pc' := 31) (L' := [some (aR 0 0), some (aI n), some (aI ((chO r n a).2)), some (aI ((chO r n a).1)), some (aI (a : Int)), none, none]) (st' := [aI 5, aI (a : Int)]) (σ' := ρ) rfl trivial ?_
    refine aw_cge dX6_change_31 (tgt := 87) (by decide) ⟨by omega, by omega⟩ ⟨by omega, by omega⟩ (fun wh3 => ?_) (fun wh3 => ?_)
    · refine aw_b kX6_ok bX6_change_87_ok (Cs := []) (pc' := 88) (L' := [some (aR 0 0), some (aI n), some (aI ((chO r n a).2)), some (aI ((chO r n a).1)), some (aI (a : Int)), none, none]) (st' := [aI ((chO r n a).1)]) (σ' := ρ) rfl trivial ?_
      exact aw_iret dX6_change_88 rfl ⟨aret (by unfold A_change; rw [if_pos (by omega), show a = 5 by omega]), hG⟩
    · refine aw_b kX6_ok bX6_change_34_ok (Cs := []) (pc' := 40) (L' := [some (aR 0 0), some (aI n), some (aI ((chO r n a).2)), some (aI ((chO r n a).1)), some (aI (a : Int)), some (aI ((a : Int) + 1)), none]) (st' := []) (σ' := ρ) rfl trivial ?_
      refine aw_eq (L' := [some (aR 0 0), some (aI n), some (aI (chI r n a (chO r n a) 0).2), some (aI (chI r n a (chO r n a) 0).1), some (aI (a : Int)), some (aI ((a : Int) + 1 + ((0 : Nat) : Int))), none]) (by rw [show (a : Int) + 1 + ((0 : Nat) : Int) = (a : Int) + 1 from Int.add_zero _]; rfl) rfl rfl ?_
      refine aloop (P := fun j : Nat => ∀ (π : aS) (hQ2 : Rep π 0 r) (hG2 : aFr CScr σ π), AW l 6 mX6_change _ 40 [some (aR 0 0), some (aI n), some (aI ((chI r n a (chO r n a) j).2)), some (aI ((chI r n a (chO r n a) j).1)), some (aI (a : Int)), some (aI ((a : Int) + 1 + (j : Int))), none] [] (π)) (4 - a) (fun j hj ihj π hQ2 hG2 => ?_) ρ hQ hG
      have gb := chI_rng hw n (a := a) (by omega) (chO_rng hw n a (by omega)) j (by omega)
      refine aw_b kX6_ok bX6_change_40_ok (Cs := []) (pc' := 43) (L' := [some (aR 0 0), some (aI n), some (aI ((chI r n a (chO r n a) j).2)), some (aI ((chI r n a (chO r n a) j).1)), some (aI (a : Int)), some (aI ((a : Int) + 1 + (j : Int))), none]) (st' := [aI 5, aI ((a : Int) + 1 + (j : Int))]) (σ' := π) rfl trivial ?_
      refine aw_cge dX6_change_43 (tgt := 81) (by decide) ⟨by omega, by omega⟩ ⟨by omega, by omega⟩ (fun wh4 => ?_) (fun wh4 => ?_)
      · refine aw_b kX6_ok bX6_change_81_ok (Cs := []) (pc' := 28) (L' := [some (aR 0 0), some (aI n), some (aI ((chI r n a (chO r n a) j).2)), some (aI ((chI r n a (chO r n a) j).1)), some (aI ((a : Int) + 1)), some (aI ((a : Int) + 1 + (j : Int))), none]) (st' := []) (σ' := π) rfl trivial ?_
        refine aw_drop [5] (L' := [some (aR 0 0), some (aI n), some (aI ((chI r n a (chO r n a) j).2)), some (aI ((chI r n a (chO r n a) j).1)), some (aI ((a : Int) + 1)), none, none]) rfl ?_
        exact aw_eq (by rw [show j = 4 - a by omega]; rfl) rfl rfl (iha (by omega) π hQ2 hG2)
      · have gk := fcR_rng hw (a := (a : Int)) (b := (a : Int) + 1 + (j : Int)) (by omega) (by omega) (by omega) (by omega) n
        refine aw_b kX6_ok bX6_change_46_ok (Cs := []) (pc' := 52) (L' := [some (aR 0 0), some (aI n), some (aI ((chI r n a (chO r n a) j).2)), some (aI ((chI r n a (chO r n a) j).1)), some (aI (a : Int)), some (aI ((a : Int) + 1 + (j : Int))), none]) (st' := [aI n, aI ((a : Int) + 1 + (j : Int)), aI (a : Int), aR 0 0]) (σ' := π) rfl trivial ?_
        refine aw_callV lX6_202 (as := [aI (a : Int), aI ((a : Int) + 1 + (j : Int)), aI n]) (rest := []) (t := 0) (c := 0) (by decide) (by decide) (by decide) rfl rfl (Nat.le_of_ble_eq_true rfl) rfl dX6_change_52 (cC_fallenChanged l (a : Int) ((a : Int) + 1 + (j : Int)) n π r hQ2 hw hd (by omega) (by omega) (by omega) (by omega) (by omega) (by omega) ) ?_
        rintro _ τ2 ⟨rfl, hF2⟩
        have hR2 := hQ2.scr (by decide) hF2
        refine aw_b kX6_ok bX6_change_55_ok (Cs := []) (pc' := 60) (L' := [some (aR 0 0), some (aI n), some (aI ((chI r n a (chO r n a) j).2)), some (aI ((chI r n a (chO r n a) j).1)), some (aI (a : Int)), some (aI ((a : Int) + 1 + (j : Int))), some (aI (fcR r (a : Int) ((a : Int) + 1 + (j : Int)) n))]) (st' := [aI ((chI r n a (chO r n a) j).2), aI (fcR r (a : Int) ((a : Int) + 1 + (j : Int)) n)]) (σ' := τ2) rfl trivial ?_
        refine aw_cge dX6_change_60 (tgt := 75) (by decide) ⟨by omega, by omega⟩ ⟨by omega, by omega⟩ (fun wh5 => ?_) (fun wh5 => ?_)
        · refine aw_b kX6_ok bX6_change_75_ok (Cs := []) (pc' := 40) (L' := [some (aR 0 0), some (aI n), some (aI ((chI r n a (chO r n a) j).2)), some (aI ((chI r n a (chO r n a) j).1)), some (aI (a : Int)), some (aI (((a : Int) + 1 + (j : Int)) + 1)), some (aI (fcR r (a : Int) ((a : Int) + 1 + (j : Int)) n))]) (st' := []) (σ' := τ2) rfl trivial ?_
          refine aw_drop [6] (L' := [some (aR 0 0), some (aI n), some (aI ((chI r n a (chO r n a) j).2)), some (aI ((chI r n a (chO r n a) j).1)), some (aI (a : Int)), some (aI (((a : Int) + 1 + (j : Int)) + 1)), none]) rfl ?_
          exact aw_eq (by rw [show chI r n a (chO r n a) (j + 1) = chI r n a (chO r n a) j from by rw [chI]; exact if_neg (by omega), show (a : Int) + 1 + ((j + 1 : Nat) : Int) = (a : Int) + 1 + (j : Int) + 1 by omega]) rfl rfl (ihj (by omega) τ2 hR2 (aFr_tr hG2 hF2))
        · refine aw_b kX6_ok bX6_change_63_ok (Cs := []) (pc' := 75) (L' := [some (aR 0 0), some (aI n), some (aI (fcR r (a : Int) ((a : Int) + 1 + (j : Int)) n)), some (aI ((10 * (a : Int)) + ((a : Int) + 1 + (j : Int)))), some (aI (a : Int)), some (aI ((a : Int) + 1 + (j : Int))), some (aI (fcR r (a : Int) ((a : Int) + 1 + (j : Int)) n))]) (st' := []) (σ' := τ2) rfl trivial ?_
          refine aw_b kX6_ok bX6_change_75_ok (Cs := []) (pc' := 40) (L' := [some (aR 0 0), some (aI n), some (aI (fcR r (a : Int) ((a : Int) + 1 + (j : Int)) n)), some (aI ((10 * (a : Int)) + ((a : Int) + 1 + (j : Int)))), some (aI (a : Int)), some (aI (((a : Int) + 1 + (j : Int)) + 1)), some (aI (fcR r (a : Int) ((a : Int) + 1 + (j : Int)) n))]) (st' := []) (σ' := τ2) rfl trivial ?_
          refine aw_drop [6] (L' := [some (aR 0 0), some (aI n), some (aI (fcR r (a : Int) ((a : Int) + 1 + (j : Int)) n)), some (aI ((10 * (a : Int)) + ((a : Int) + 1 + (j : Int)))), some (aI (a : Int)), some (aI (((a : Int) + 1 + (j : Int)) + 1)), none]) rfl ?_
          exact aw_eq (by rw [show chI r n a (chO r n a) (j + 1) = (10 * (a : Int) + ((a : Int) + 1 + j), fcR r a ((a : Int) + 1 + j) n) from by rw [chI]; exact if_pos (by omega), show (a : Int) + 1 + ((j + 1 : Nat) : Int) = (a : Int) + 1 + (j : Int) + 1 by omega]) rfl rfl (ihj (by omega) τ2 hR2 (aFr_tr hG2 hF2))
  · refine aw_ine dX6_change_4 (tgt := 9) (by decide) ⟨by omega, by omega⟩ (fun wh6 => absurd wh6 (by decide)) (fun wh6 => ?_)
    refine aw_b kX6_ok bX6_change_7_ok (Cs := []) (pc' := 8) (L' := [some (aR 0 0), some (aI n), none, none, none, none, none]) (st' := [aI (-1)]) (σ' := σ) rfl trivial ?_
    exact aw_iret dX6_change_8 rfl ⟨aret (by unfold A_change; rw [if_neg (by omega)]), aFr_rf⟩
set_option maxRecDepth 10000 in
theorem cC_falls (l : Launch) (p : Int) (σ : aS) (r : aRw) (hR : Rep σ 0 r) (hw : WF r) (hd : r 1 ≤ 999) (hp : aIr p) : AM l 4 mX6_falls [aR 0 0, aI p] σ (QC (A_falls r p) σ) := by
  have bn := hw.1
  have en := hR.n
  have b1 := hw.2.1
  have e1 := hR.1.2.1
  have b2 := hw.2.2.1
  have e2 := hR.1.2.2
  refine am_of (by decide) (Nat.le_of_ble_eq_true rfl) (L := [some (aR 0 0), some (aI p), none, none]) rfl ?_
  refine aw_b kX6_ok bX6_falls_0_ok (Cs := [0 < 1]) (pc' := 5) (L' := [some (aR 0 0), some (aI p), none, none]) (st' := [aI p, aR 1 0]) (σ' := σ) rfl (show 0 < 1 from by omega) ?_
  refine aw_bV lX6_76 (as := [aI p]) (rest := []) (t := 1) (c := 0) (by decide) (by decide) (by decide) rfl rfl (Nat.le_of_ble_eq_true rfl) rfl dX6_falls_5 (cC_isThere l p 0 (by omega) σ r hR hw ⟨by omega, by omega⟩) (fun wh1 => ?_) (fun wh1 => ?_)
  · have bp := hw.pe (p := p) (by omega) (by omega)
    have rp := hR.pe (p := p) (by omega) (by omega)
    have bo := off_rng r p
    have no := nb_cases (off r p)
    refine aw_ine dX6_falls_8 (tgt := 13) (by decide) ⟨by omega, by omega⟩ (fun wh2 => ?_) (fun wh2 => absurd wh2 (by decide))
    refine aw_b kX6_ok bX6_falls_13_ok (Cs := [0 < 1, 0 < 3, 0 < 3, 0 ≤ p ∧ p < 8]) (pc' := 25) (L' := [some (aR 0 0), some (aI p), some (aI (σ 6 0 p)), none]) (st' := [aI (-1), aI (σ 6 0 p)]) (σ' := σ) rfl (show (0 < 1) ∧ (0 < 3) ∧ (0 < 3) ∧ (0 ≤ p ∧ p < 8) from ⟨by omega, by omega, by omega, by omega⟩) ?_
    refine aw_cne dX6_falls_25 (tgt := 31) (by decide) ⟨by omega, by omega⟩ ⟨by omega, by omega⟩ (fun wh3 => ?_) (fun wh3 => ?_)
    · have e6 : σ 6 0 p = off r p := by omega
      rcases off_cases r p with of0 | of1
      · omega
      refine aw_b kX6_ok bX6_falls_31_ok (Cs := [0 < 1, 0 < 1]) (pc' := 39) (L' := [some (aR 0 0), some (aI p), some (aI (σ 6 0 p)), none]) (st' := [aR 1 0, aR 1 1]) (σ' := σ) rfl (show (0 < 1) ∧ (0 < 1) from ⟨by omega, by omega⟩) ?_
      refine aw_callV lX6_68 (as := [aR 1 0]) (rest := []) (t := 1) (c := 1) (by decide) (by decide) (by decide) rfl rfl (Nat.le_of_ble_eq_true rfl) rfl dX6_falls_39 (cC_becomes l 0 1 (by decide) (by decide) (by decide) σ r hR hw) ?_
      rintro _ τ1 ⟨rfl, hT1, hF1⟩
      refine aw_b kX6_ok bX6_falls_42_ok (Cs := []) (pc' := 44) (L' := [some (aR 0 0), some (aI p), some (aI (σ 6 0 p)), some (aI 1)]) (st' := []) (σ' := τ1) rfl trivial ?_
      have hA0 : A_falls r p = wnF r (off r p) p 60 1 := by
        unfold A_falls; rw [if_pos (by omega), if_neg (by omega)]; show (if dysR r 0 (8 + off r p) = p then wnF r (off r p) p 60 (0 + 1) else ((0 : Nat) : Int)) = _
        exact if_pos of1.2.2
      refine aw_eq (L' := [some (aR 0 0), some (aI p), some (aI (off r p)), some (aI (((0 : Nat) : Int) + 1))]) (by rw [e6]; rfl) rfl rfl ?_
      refine aloop (P := fun n : Nat => ∀ (ρ : aS) (hQ : Rep ρ 1 (dysR r n)) (hG : aFr (Cb 1) σ ρ) (hA : A_falls r p = wnF r (off r p) p (60 - n) (n + 1)), AW l 4 mX6_falls _ 44 [some (aR 0 0), some (aI p), some (aI (off r p)), some (aI ((n : Int) + 1))] [] ρ) (60) (fun n hn ihn ρ hQ hG hA => ?_) τ1 hT1 hF1 hA0
      have eD := dysR_0 r n
      refine aw_b kX6_ok bX6_falls_44_ok (Cs := []) (pc' := 47) (L' := [some (aR 0 0), some (aI p), some (aI (off r p)), some (aI ((n : Int) + 1))]) (st' := [aI 60, aI ((n : Int) + 1)]) (σ' := ρ) rfl trivial ?_
      refine aw_cgt dX6_falls_47 (tgt := 78) (by decide) ⟨by omega, by omega⟩ ⟨by omega, by omega⟩ (fun wh4 => ?_) (fun wh4 => ?_)
      · refine aw_b kX6_ok bX6_falls_78_ok (Cs := []) (pc' := 80) (L' := [some (aR 0 0), some (aI p), some (aI (off r p)), some (aI ((n : Int) + 1))]) (st' := [aI (-4)]) (σ' := ρ) rfl trivial ?_
        exact aw_iret dX6_falls_80 rfl ⟨aret (by rw [hA, show 60 - n = 0 by omega]; rfl), aFrC hG⟩
      · refine aw_b kX6_ok bX6_falls_50_ok (Cs := [0 < 1]) (pc' := 54) (L' := [some (aR 0 0), some (aI p), some (aI (off r p)), some (aI ((n : Int) + 1))]) (st' := [aR 1 1]) (σ' := ρ) rfl (show 0 < 1 from by omega) ?_
        refine aw_callV lX6_178 (as := []) (rest := []) (t := 1) (c := 1) (by decide) (by decide) (by decide) rfl rfl (Nat.le_of_ble_eq_true rfl) rfl dX6_falls_54 (cC_oneDay l 1 (by decide) ρ (dysR r n) hQ (dysR_wf hw _) (by omega)) ?_
        rintro _ τ9 ⟨rfl, hT9, hF9, h39⟩
        have rq := hT9.of (f := off r p) (by omega) (by omega)
        have hwq := (dysR_wf hw (n + 1)).ho (f := off r p) (by omega) (by omega)
        have nq := nb_cases (dysR r (n + 1) (8 + off r p))
        have eD1 := dysR_0 r (n + 1)
        have rq2 : τ9 8 1 (off r p) = nb (dysR r (n + 1) (8 + off r p)) := rq.2
        have hB : A_falls r p = (if dysR r (n + 1) (8 + off r p) = p then wnF r (off r p) p (60 - (n + 1)) (n + 1 + 1) else ((n + 1 : Nat) : Int)) := by
          rw [hA, show 60 - n = (60 - (n + 1)) + 1 by omega]; rfl
        refine aw_b kX6_ok bX6_falls_57_ok (Cs := [0 < 1, 1 < 3, 1 < 3, 0 ≤ off r p ∧ off r p < 5]) (pc' := 67) (L' := [some (aR 0 0), some (aI p), some (aI (off r p)), some (aI ((n : Int) + 1))]) (st' := [aI p, aI (τ9 8 1 (off r p))]) (σ' := τ9) rfl (show (0 < 1) ∧ (1 < 3) ∧ (1 < 3) ∧ (0 ≤ off r p ∧ off r p < 5) from ⟨by omega, by omega, by omega, by omega⟩) ?_
        refine aw_ceq dX6_falls_67 (tgt := 72) (by decide) ⟨by omega, by omega⟩ ⟨by omega, by omega⟩ (fun wh5 => ?_) (fun wh5 => ?_)
        · refine aw_b kX6_ok bX6_falls_72_ok (Cs := []) (pc' := 44) (L' := [some (aR 0 0), some (aI p), some (aI (off r p)), some (aI (((n : Int) + 1) + 1))]) (st' := []) (σ' := τ9) rfl trivial ?_
          exact ihn (by omega) τ9 hT9 (aFr_tr hG hF9) (hB.trans (if_pos (by omega)))
        · refine aw_b kX6_ok bX6_falls_70_ok (Cs := []) (pc' := 71) (L' := [some (aR 0 0), some (aI p), some (aI (off r p)), some (aI ((n : Int) + 1))]) (st' := [aI ((n : Int) + 1)]) (σ' := τ9) rfl trivial ?_
          exact aw_iret dX6_falls_71 rfl ⟨aret (hB.trans (if_neg (by omega))).symm, aFrC (aFr_tr hG hF9)⟩
    · refine aw_b kX6_ok bX6_falls_28_ok (Cs := []) (pc' := 30) (L' := [some (aR 0 0), some (aI p), some (aI (σ 6 0 p)), none]) (st' := [aI (-4)]) (σ' := σ) rfl trivial ?_
      exact aw_iret dX6_falls_30 rfl ⟨aret (by unfold A_falls; rw [if_pos (by omega), if_pos (by omega)]), aFr_rf⟩
  · refine aw_ine dX6_falls_8 (tgt := 13) (by decide) ⟨by omega, by omega⟩ (fun wh6 => absurd wh6 (by decide)) (fun wh6 => ?_)
    refine aw_b kX6_ok bX6_falls_11_ok (Cs := []) (pc' := 12) (L' := [some (aR 0 0), some (aI p), none, none]) (st' := [aI (-1)]) (σ' := σ) rfl trivial ?_
    exact aw_iret dX6_falls_12 rfl ⟨aret (by unfold A_falls; rw [if_neg (by omega)]), aFr_rf⟩
set_option maxRecDepth 10000 in
theorem cC_empty (l : Launch) (f : Int) (σ : aS) (r : aRw) (hR : Rep σ 0 r) (hw : WF r) (hd : r 1 ≤ 999) (hf : aIr f) : AM l 4 mX6_empty [aR 0 0, aI f] σ (QC (A_empty r f) σ) := by
  have bn := hw.1
  have en := hR.n
  have b1 := hw.2.1
  have e1 := hR.1.2.1
  have b2 := hw.2.2.1
  have e2 := hR.1.2.2
  refine am_of (by decide) (Nat.le_of_ble_eq_true rfl) (L := [some (aR 0 0), some (aI f), none]) rfl ?_
  refine aw_b kX6_ok bX6_empty_0_ok (Cs := []) (pc' := 1) (L' := [some (aR 0 0), some (aI f), none]) (st' := [aI f]) (σ' := σ) rfl trivial ?_
  refine aw_bS lX6_109 (as := [aI f]) (rest := []) (by decide) rfl (Nat.le_of_ble_eq_true rfl) rfl dX6_empty_1 (cC_isOffice l f σ ⟨by omega, by omega⟩) (fun wh1 => ?_) (fun wh1 => ?_)
  · refine aw_ine dX6_empty_4 (tgt := 9) (by decide) ⟨by omega, by omega⟩ (fun wh2 => ?_) (fun wh2 => absurd wh2 (by decide))
    refine aw_b kX6_ok bX6_empty_9_ok (Cs := [0 < 1, 0 < 1]) (pc' := 17) (L' := [some (aR 0 0), some (aI f), none]) (st' := [aR 1 0, aR 1 1]) (σ' := σ) rfl (show (0 < 1) ∧ (0 < 1) from ⟨by omega, by omega⟩) ?_
    refine aw_callV lX6_68 (as := [aR 1 0]) (rest := []) (t := 1) (c := 1) (by decide) (by decide) (by decide) rfl rfl (Nat.le_of_ble_eq_true rfl) rfl dX6_empty_17 (cC_becomes l 0 1 (by decide) (by decide) (by decide) σ r hR hw) ?_
    rintro _ τ1 ⟨rfl, hT1, hF1⟩
    refine aw_b kX6_ok bX6_empty_20_ok (Cs := []) (pc' := 22) (L' := [some (aR 0 0), some (aI f), some (aI 0)]) (st' := []) (σ' := τ1) rfl trivial ?_
    have hA0 : A_empty r f = emF r f 61 0 := by unfold A_empty; rw [if_pos (by omega)]
    refine aloop (P := fun n : Nat => ∀ (ρ : aS) (hQ : Rep ρ 1 (dysR r n)) (hG : aFr (Cb 1) σ ρ) (hA : A_empty r f = emF r f (61 - n) n), AW l 4 mX6_empty _ 22 [some (aR 0 0), some (aI f), some (aI (n : Int))] [] ρ) (61) (fun n hn ihn ρ hQ hG hA => ?_) τ1 hT1 hF1 hA0
    have eD := dysR_0 r n
    refine aw_b kX6_ok bX6_empty_22_ok (Cs := []) (pc' := 25) (L' := [some (aR 0 0), some (aI f), some (aI (n : Int))]) (st' := [aI 60, aI (n : Int)]) (σ' := ρ) rfl trivial ?_
    refine aw_cgt dX6_empty_25 (tgt := 56) (by decide) ⟨by omega, by omega⟩ ⟨by omega, by omega⟩ (fun wh3 => ?_) (fun wh3 => ?_)
    · refine aw_b kX6_ok bX6_empty_56_ok (Cs := []) (pc' := 58) (L' := [some (aR 0 0), some (aI f), some (aI (n : Int))]) (st' := [aI (-4)]) (σ' := ρ) rfl trivial ?_
      exact aw_iret dX6_empty_58 rfl ⟨aret (by rw [hA, show 61 - n = 0 by omega]; rfl), aFrC hG⟩
    · have rq := hQ.of (f := f) (by omega) (by omega)
      have hwq := (dysR_wf hw n).ho (f := f) (by omega) (by omega)
      have nq := nb_cases (dysR r n (8 + f))
      have hB : A_empty r f = (if dysR r n (8 + f) < 0 then (n : Int) else emF r f (61 - (n + 1)) (n + 1)) := by
        rw [hA, show 61 - n = (61 - (n + 1)) + 1 by omega]; rfl
      refine aw_b kX6_ok bX6_empty_28_ok (Cs := [0 < 1, 1 < 3, 1 < 3, 0 ≤ f ∧ f < 5]) (pc' := 38) (L' := [some (aR 0 0), some (aI f), some (aI (n : Int))]) (st' := [aI (-1), aI (ρ 8 1 f)]) (σ' := ρ) rfl (show (0 < 1) ∧ (1 < 3) ∧ (1 < 3) ∧ (0 ≤ f ∧ f < 5) from ⟨by omega, by omega, by omega, by omega⟩) ?_
      refine aw_cne dX6_empty_38 (tgt := 43) (by decide) ⟨by omega, by omega⟩ ⟨by omega, by omega⟩ (fun wh4 => ?_) (fun wh4 => ?_)
      · refine aw_b kX6_ok bX6_empty_43_ok (Cs := [0 < 1]) (pc' := 47) (L' := [some (aR 0 0), some (aI f), some (aI (n : Int))]) (st' := [aR 1 1]) (σ' := ρ) rfl (show 0 < 1 from by omega) ?_
        refine aw_callV lX6_178 (as := []) (rest := []) (t := 1) (c := 1) (by decide) (by decide) (by decide) rfl rfl (Nat.le_of_ble_eq_true rfl) rfl dX6_empty_47 (cC_oneDay l 1 (by decide) ρ (dysR r n) hQ (dysR_wf hw _) (by omega)) ?_
        rintro _ τ9 ⟨rfl, hT9, hF9, h39⟩
        refine aw_b kX6_ok bX6_empty_50_ok (Cs := []) (pc' := 22) (L' := [some (aR 0 0), some (aI f), some (aI ((n : Int) + 1))]) (st' := []) (σ' := τ9) rfl trivial ?_
        exact ihn (by omega) τ9 hT9 (aFr_tr hG hF9) (hB.trans (if_neg (by omega)))
      · refine aw_b kX6_ok bX6_empty_41_ok (Cs := []) (pc' := 42) (L' := [some (aR 0 0), some (aI f), some (aI (n : Int))]) (st' := [aI (n : Int)]) (σ' := ρ) rfl trivial ?_
        exact aw_iret dX6_empty_42 rfl ⟨aret (hB.trans (if_pos (by omega))).symm, aFrC hG⟩
  · refine aw_ine dX6_empty_4 (tgt := 9) (by decide) ⟨by omega, by omega⟩ (fun wh5 => absurd wh5 (by decide)) (fun wh5 => ?_)
    refine aw_b kX6_ok bX6_empty_7_ok (Cs := []) (pc' := 8) (L' := [some (aR 0 0), some (aI f), none]) (st' := [aI (-1)]) (σ' := σ) rfl trivial ?_
    exact aw_iret dX6_empty_8 rfl ⟨aret (by unfold A_empty; rw [if_neg (by omega)]), aFr_rf⟩
end
