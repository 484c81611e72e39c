section
/-- a private method of a class that the tables say can be made, by its rows of tables_1 -/
def lw_okq (q : MethodName × Nat) : Prop := (q.1.cls ≠ "java/lang/invoke/MethodHandle" ∧ q.1.cls ≠ "java/lang/invoke/VarHandle") ∧ Cond.instantiable q.1.cls q.2 ∈ tables_1 ∧ Cond.privateMethod q.1 ∈ tables_1 ∧ Cond.instanceMethod q.1 ∈ tables_1
theorem lw_p0 : lw_okq (⟨"OnlyInDisguise$Shelves", "lackOf", "(II)I"⟩, 6) := ⟨⟨by decide +kernel, by decide +kernel⟩, List.mem_of_getElem? (i := 83) (by decide +kernel), List.mem_of_getElem? (i := 170) (by decide +kernel), List.mem_of_getElem? (i := 171) (by decide +kernel)⟩
theorem lw_p1 : lw_okq (⟨"OnlyInDisguise$Cabinet", "showing", "(I)I"⟩, 11) := ⟨⟨by decide +kernel, by decide +kernel⟩, List.mem_of_getElem? (i := 27) (by decide +kernel), List.mem_of_getElem? (i := 260) (by decide +kernel), List.mem_of_getElem? (i := 261) (by decide +kernel)⟩
theorem lw_p2 : lw_okq (⟨"OnlyInDisguise$Cabinet", "fall", "(II)V"⟩, 11) := ⟨⟨by decide +kernel, by decide +kernel⟩, List.mem_of_getElem? (i := 27) (by decide +kernel), List.mem_of_getElem? (i := 285) (by decide +kernel), List.mem_of_getElem? (i := 286) (by decide +kernel)⟩
theorem lw_p3 : lw_okq (⟨"OnlyInDisguise", "foresee", "(I)V"⟩, 9) := ⟨⟨by decide +kernel, by decide +kernel⟩, List.mem_of_getElem? (i := 19) (by decide +kernel), List.mem_of_getElem? (i := 380) (by decide +kernel), List.mem_of_getElem? (i := 381) (by decide +kernel)⟩
theorem lw_p4 : lw_okq (⟨"OnlyInDisguise", "fallenIn", "(III)I"⟩, 9) := ⟨⟨by decide +kernel, by decide +kernel⟩, List.mem_of_getElem? (i := 19) (by decide +kernel), List.mem_of_getElem? (i := 420) (by decide +kernel), List.mem_of_getElem? (i := 421) (by decide +kernel)⟩
theorem lw_p5 : lw_okq (⟨"OnlyInDisguise$Casting", "bestFrom", "(II)I"⟩, 3) := ⟨⟨by decide +kernel, by decide +kernel⟩, List.mem_of_getElem? (i := 108) (by decide +kernel), List.mem_of_getElem? (i := 434) (by decide +kernel), List.mem_of_getElem? (i := 435) (by decide +kernel)⟩
theorem lw_p6 : lw_okq (⟨"OnlyInDisguise$Casting", "with", "(III)I"⟩, 3) := ⟨⟨by decide +kernel, by decide +kernel⟩, List.mem_of_getElem? (i := 108) (by decide +kernel), List.mem_of_getElem? (i := 438) (by decide +kernel), List.mem_of_getElem? (i := 439) (by decide +kernel)⟩
theorem lw_p7 : lw_okq (⟨"OnlyInDisguise$Casting", "firstBest", "(II)I"⟩, 3) := ⟨⟨by decide +kernel, by decide +kernel⟩, List.mem_of_getElem? (i := 108) (by decide +kernel), List.mem_of_getElem? (i := 451) (by decide +kernel), List.mem_of_getElem? (i := 452) (by decide +kernel)⟩
theorem lw_p8 : lw_okq (⟨"OnlyInDisguise", "fallenWithout", "(II)I"⟩, 9) := ⟨⟨by decide +kernel, by decide +kernel⟩, List.mem_of_getElem? (i := 19) (by decide +kernel), List.mem_of_getElem? (i := 459) (by decide +kernel), List.mem_of_getElem? (i := 460) (by decide +kernel)⟩
theorem lw_p9 : lw_okq (⟨"OnlyInDisguise", "fallenChanged", "(III)I"⟩, 9) := ⟨⟨by decide +kernel, by decide +kernel⟩, List.mem_of_getElem? (i := 19) (by decide +kernel), List.mem_of_getElem? (i := 467) (by decide +kernel), List.mem_of_getElem? (i := 468) (by decide +kernel)⟩
theorem lw_p10 : lw_okq (⟨"OnlyInDisguise$Cabinet", "isPlain", "(I)Z"⟩, 11) := ⟨⟨by decide +kernel, by decide +kernel⟩, List.mem_of_getElem? (i := 27) (by decide +kernel), List.mem_of_getElem? (i := 484) (by decide +kernel), List.mem_of_getElem? (i := 485) (by decide +kernel)⟩
theorem lw_p11 : lw_okq (⟨"OnlyInDisguise", "stable", "()I"⟩, 9) := ⟨⟨by decide +kernel, by decide +kernel⟩, List.mem_of_getElem? (i := 19) (by decide +kernel), List.mem_of_getElem? (i := 496) (by decide +kernel), List.mem_of_getElem? (i := 497) (by decide +kernel)⟩
theorem lw_p12 : lw_okq (⟨"OnlyInDisguise", "firstUnlike", "(III)I"⟩, 9) := ⟨⟨by decide +kernel, by decide +kernel⟩, List.mem_of_getElem? (i := 19) (by decide +kernel), List.mem_of_getElem? (i := 505) (by decide +kernel), List.mem_of_getElem? (i := 506) (by decide +kernel)⟩
theorem lw_p13 : lw_okq (⟨"OnlyInDisguise", "measured", "(II)I"⟩, 9) := ⟨⟨by decide +kernel, by decide +kernel⟩, List.mem_of_getElem? (i := 19) (by decide +kernel), List.mem_of_getElem? (i := 520) (by decide +kernel), List.mem_of_getElem? (i := 521) (by decide +kernel)⟩
theorem lw_p14 : lw_okq (⟨"OnlyInDisguise", "playTwo", "(IIII)V"⟩, 9) := ⟨⟨by decide +kernel, by decide +kernel⟩, List.mem_of_getElem? (i := 19) (by decide +kernel), List.mem_of_getElem? (i := 532) (by decide +kernel), List.mem_of_getElem? (i := 533) (by decide +kernel)⟩
theorem lw_p15 : lw_okq (⟨"OnlyInDisguise", "heldAfterScandals", "(III)Z"⟩, 9) := ⟨⟨by decide +kernel, by decide +kernel⟩, List.mem_of_getElem? (i := 19) (by decide +kernel), List.mem_of_getElem? (i := 545) (by decide +kernel), List.mem_of_getElem? (i := 546) (by decide +kernel)⟩
def lw_privs_1 : List (MethodName × Nat) := [(⟨"OnlyInDisguise$Shelves", "lackOf", "(II)I"⟩, 6), (⟨"OnlyInDisguise$Cabinet", "showing", "(I)I"⟩, 11), (⟨"OnlyInDisguise$Cabinet", "fall", "(II)V"⟩, 11), (⟨"OnlyInDisguise", "foresee", "(I)V"⟩, 9), (⟨"OnlyInDisguise", "fallenIn", "(III)I"⟩, 9), (⟨"OnlyInDisguise$Casting", "bestFrom", "(II)I"⟩, 3), (⟨"OnlyInDisguise$Casting", "with", "(III)I"⟩, 3), (⟨"OnlyInDisguise$Casting", "firstBest", "(II)I"⟩, 3), (⟨"OnlyInDisguise", "fallenWithout", "(II)I"⟩, 9), (⟨"OnlyInDisguise", "fallenChanged", "(III)I"⟩, 9), (⟨"OnlyInDisguise$Cabinet", "isPlain", "(I)Z"⟩, 11), (⟨"OnlyInDisguise", "stable", "()I"⟩, 9), (⟨"OnlyInDisguise", "firstUnlike", "(III)I"⟩, 9), (⟨"OnlyInDisguise", "measured", "(II)I"⟩, 9), (⟨"OnlyInDisguise", "playTwo", "(IIII)V"⟩, 9), (⟨"OnlyInDisguise", "heldAfterScandals", "(III)Z"⟩, 9)]
theorem lw_r1 : ∀ q ∈ lw_privs_1, lw_okq q := List.forall_mem_cons.mpr ⟨lw_p0, List.forall_mem_cons.mpr ⟨lw_p1, List.forall_mem_cons.mpr ⟨lw_p2, List.forall_mem_cons.mpr ⟨lw_p3, List.forall_mem_cons.mpr ⟨lw_p4, List.forall_mem_cons.mpr ⟨lw_p5, List.forall_mem_cons.mpr ⟨lw_p6, List.forall_mem_cons.mpr ⟨lw_p7, List.forall_mem_cons.mpr ⟨lw_p8, List.forall_mem_cons.mpr ⟨lw_p9, List.forall_mem_cons.mpr ⟨lw_p10, List.forall_mem_cons.mpr ⟨lw_p11, List.forall_mem_cons.mpr ⟨lw_p12, List.forall_mem_cons.mpr ⟨lw_p13, List.forall_mem_cons.mpr ⟨lw_p14, List.forall_mem_cons.mpr ⟨lw_p15, fun _ h => absurd h List.not_mem_nil⟩⟩⟩⟩⟩⟩⟩⟩⟩⟩⟩⟩⟩⟩⟩⟩
theorem lw_p16 : lw_okq (⟨"OnlyInDisguise", "holderAsTold", "(I)I"⟩, 9) := ⟨⟨by decide +kernel, by decide +kernel⟩, List.mem_of_getElem? (i := 19) (by decide +kernel), List.mem_of_getElem? (i := 574) (by decide +kernel), List.mem_of_getElem? (i := 575) (by decide +kernel)⟩
theorem lw_p17 : lw_okq (⟨"OnlyInDisguise", "oneYear", "()V"⟩, 9) := ⟨⟨by decide +kernel, by decide +kernel⟩, List.mem_of_getElem? (i := 19) (by decide +kernel), List.mem_of_getElem? (i := 590) (by decide +kernel), List.mem_of_getElem? (i := 591) (by decide +kernel)⟩
theorem lw_p18 : lw_okq (⟨"java/lang/Throwable", "fillInStackTrace", "(I)Ljava/lang/Throwable;"⟩, 6) := ⟨⟨by decide +kernel, by decide +kernel⟩, List.mem_of_getElem? (i := 720) (by decide +kernel), List.mem_of_getElem? (i := 718) (by decide +kernel), List.mem_of_getElem? (i := 719) (by decide +kernel)⟩
theorem lw_p19 : lw_okq (⟨"OnlyInDisguiseModel", "wrongRow", "(II)I"⟩, 19) := ⟨⟨by decide +kernel, by decide +kernel⟩, List.mem_of_getElem? (i := 797) (by decide +kernel), List.mem_of_getElem? (i := 865) (by decide +kernel), List.mem_of_getElem? (i := 866) (by decide +kernel)⟩
theorem lw_p20 : lw_okq (⟨"OnlyInDisguiseModel", "readsStatement", "()Z"⟩, 19) := ⟨⟨by decide +kernel, by decide +kernel⟩, List.mem_of_getElem? (i := 797) (by decide +kernel), List.mem_of_getElem? (i := 875) (by decide +kernel), List.mem_of_getElem? (i := 876) (by decide +kernel)⟩
theorem lw_p21 : lw_okq (⟨"OnlyInDisguiseModel", "here", "()I"⟩, 19) := ⟨⟨by decide +kernel, by decide +kernel⟩, List.mem_of_getElem? (i := 797) (by decide +kernel), List.mem_of_getElem? (i := 879) (by decide +kernel), List.mem_of_getElem? (i := 880) (by decide +kernel)⟩
theorem lw_p22 : lw_okq (⟨"OnlyInDisguiseModel", "readsNumber", "(II)Z"⟩, 19) := ⟨⟨by decide +kernel, by decide +kernel⟩, List.mem_of_getElem? (i := 797) (by decide +kernel), List.mem_of_getElem? (i := 883) (by decide +kernel), List.mem_of_getElem? (i := 884) (by decide +kernel)⟩
theorem lw_p23 : lw_okq (⟨"OnlyInDisguiseModel", "isDone", "(I)Z"⟩, 19) := ⟨⟨by decide +kernel, by decide +kernel⟩, List.mem_of_getElem? (i := 797) (by decide +kernel), List.mem_of_getElem? (i := 890) (by decide +kernel), List.mem_of_getElem? (i := 891) (by decide +kernel)⟩
theorem lw_p24 : lw_okq (⟨"OnlyInDisguiseModel", "adds", "(III)V"⟩, 19) := ⟨⟨by decide +kernel, by decide +kernel⟩, List.mem_of_getElem? (i := 797) (by decide +kernel), List.mem_of_getElem? (i := 897) (by decide +kernel), List.mem_of_getElem? (i := 898) (by decide +kernel)⟩
theorem lw_p25 : lw_okq (⟨"OnlyInDisguiseModel", "isOne", "(I)Z"⟩, 19) := ⟨⟨by decide +kernel, by decide +kernel⟩, List.mem_of_getElem? (i := 797) (by decide +kernel), List.mem_of_getElem? (i := 907) (by decide +kernel), List.mem_of_getElem? (i := 908) (by decide +kernel)⟩
theorem lw_p26 : lw_okq (⟨"OnlyInDisguiseModel", "chainOf", "(I)I"⟩, 19) := ⟨⟨by decide +kernel, by decide +kernel⟩, List.mem_of_getElem? (i := 797) (by decide +kernel), List.mem_of_getElem? (i := 957) (by decide +kernel), List.mem_of_getElem? (i := 958) (by decide +kernel)⟩
theorem lw_p27 : lw_okq (⟨"OnlyInDisguiseModel", "showsNext", "(II)I"⟩, 19) := ⟨⟨by decide +kernel, by decide +kernel⟩, List.mem_of_getElem? (i := 797) (by decide +kernel), List.mem_of_getElem? (i := 975) (by decide +kernel), List.mem_of_getElem? (i := 976) (by decide +kernel)⟩
theorem lw_p28 : lw_okq (⟨"OnlyInDisguiseModel", "wrongKept", "(I)I"⟩, 19) := ⟨⟨by decide +kernel, by decide +kernel⟩, List.mem_of_getElem? (i := 797) (by decide +kernel), List.mem_of_getElem? (i := 983) (by decide +kernel), List.mem_of_getElem? (i := 984) (by decide +kernel)⟩
theorem lw_p29 : lw_okq (⟨"OnlyInDisguiseModel", "sets", "(II)I"⟩, 19) := ⟨⟨by decide +kernel, by decide +kernel⟩, List.mem_of_getElem? (i := 797) (by decide +kernel), List.mem_of_getElem? (i := 995) (by decide +kernel), List.mem_of_getElem? (i := 996) (by decide +kernel)⟩
theorem lw_p30 : lw_okq (⟨"OnlyInDisguiseModel", "takes", "(I)V"⟩, 19) := ⟨⟨by decide +kernel, by decide +kernel⟩, List.mem_of_getElem? (i := 797) (by decide +kernel), List.mem_of_getElem? (i := 1022) (by decide +kernel), List.mem_of_getElem? (i := 1023) (by decide +kernel)⟩
theorem lw_p31 : lw_okq (⟨"OnlyInDisguiseModel", "whenNot", "(II)I"⟩, 19) := ⟨⟨by decide +kernel, by decide +kernel⟩, List.mem_of_getElem? (i := 797) (by decide +kernel), List.mem_of_getElem? (i := 1041) (by decide +kernel), List.mem_of_getElem? (i := 1042) (by decide +kernel)⟩
def lw_privs_2 : List (MethodName × Nat) := [(⟨"OnlyInDisguise", "holderAsTold", "(I)I"⟩, 9), (⟨"OnlyInDisguise", "oneYear", "()V"⟩, 9), (⟨"java/lang/Throwable", "fillInStackTrace", "(I)Ljava/lang/Throwable;"⟩, 6), (⟨"OnlyInDisguiseModel", "wrongRow", "(II)I"⟩, 19), (⟨"OnlyInDisguiseModel", "readsStatement", "()Z"⟩, 19), (⟨"OnlyInDisguiseModel", "here", "()I"⟩, 19), (⟨"OnlyInDisguiseModel", "readsNumber", "(II)Z"⟩, 19), (⟨"OnlyInDisguiseModel", "isDone", "(I)Z"⟩, 19), (⟨"OnlyInDisguiseModel", "adds", "(III)V"⟩, 19), (⟨"OnlyInDisguiseModel", "isOne", "(I)Z"⟩, 19), (⟨"OnlyInDisguiseModel", "chainOf", "(I)I"⟩, 19), (⟨"OnlyInDisguiseModel", "showsNext", "(II)I"⟩, 19), (⟨"OnlyInDisguiseModel", "wrongKept", "(I)I"⟩, 19), (⟨"OnlyInDisguiseModel", "sets", "(II)I"⟩, 19), (⟨"OnlyInDisguiseModel", "takes", "(I)V"⟩, 19), (⟨"OnlyInDisguiseModel", "whenNot", "(II)I"⟩, 19)]
theorem lw_r2 : ∀ q ∈ lw_privs_2, lw_okq q := List.forall_mem_cons.mpr ⟨lw_p16, List.forall_mem_cons.mpr ⟨lw_p17, List.forall_mem_cons.mpr ⟨lw_p18, List.forall_mem_cons.mpr ⟨lw_p19, List.forall_mem_cons.mpr ⟨lw_p20, List.forall_mem_cons.mpr ⟨lw_p21, List.forall_mem_cons.mpr ⟨lw_p22, List.forall_mem_cons.mpr ⟨lw_p23, List.forall_mem_cons.mpr ⟨lw_p24, List.forall_mem_cons.mpr ⟨lw_p25, List.forall_mem_cons.mpr ⟨lw_p26, List.forall_mem_cons.mpr ⟨lw_p27, List.forall_mem_cons.mpr ⟨lw_p28, List.forall_mem_cons.mpr ⟨lw_p29, List.forall_mem_cons.mpr ⟨lw_p30, List.forall_mem_cons.mpr ⟨lw_p31, fun _ h => absurd h List.not_mem_nil⟩⟩⟩⟩⟩⟩⟩⟩⟩⟩⟩⟩⟩⟩⟩⟩
theorem lw_p32 : lw_okq (⟨"OnlyInDisguiseModel", "lastsOf", "(II)I"⟩, 19) := ⟨⟨by decide +kernel, by decide +kernel⟩, List.mem_of_getElem? (i := 797) (by decide +kernel), List.mem_of_getElem? (i := 1053) (by decide +kernel), List.mem_of_getElem? (i := 1054) (by decide +kernel)⟩
theorem lw_p33 : lw_okq (⟨"OnlyInDisguiseModel", "fillsCast", "()V"⟩, 19) := ⟨⟨by decide +kernel, by decide +kernel⟩, List.mem_of_getElem? (i := 797) (by decide +kernel), List.mem_of_getElem? (i := 1066) (by decide +kernel), List.mem_of_getElem? (i := 1067) (by decide +kernel)⟩
theorem lw_p34 : lw_okq (⟨"OnlyInDisguiseModel", "mostOf", "(II)I"⟩, 19) := ⟨⟨by decide +kernel, by decide +kernel⟩, List.mem_of_getElem? (i := 797) (by decide +kernel), List.mem_of_getElem? (i := 1070) (by decide +kernel), List.mem_of_getElem? (i := 1071) (by decide +kernel)⟩
theorem lw_p35 : lw_okq (⟨"OnlyInDisguiseModel", "holderBy", "(II)I"⟩, 19) := ⟨⟨by decide +kernel, by decide +kernel⟩, List.mem_of_getElem? (i := 797) (by decide +kernel), List.mem_of_getElem? (i := 1074) (by decide +kernel), List.mem_of_getElem? (i := 1075) (by decide +kernel)⟩
theorem lw_p36 : lw_okq (⟨"OnlyInDisguiseModel", "plainOnes", "()I"⟩, 19) := ⟨⟨by decide +kernel, by decide +kernel⟩, List.mem_of_getElem? (i := 797) (by decide +kernel), List.mem_of_getElem? (i := 1090) (by decide +kernel), List.mem_of_getElem? (i := 1091) (by decide +kernel)⟩
theorem lw_p37 : lw_okq (⟨"OnlyInDisguiseModel", "likeOnes", "()I"⟩, 19) := ⟨⟨by decide +kernel, by decide +kernel⟩, List.mem_of_getElem? (i := 797) (by decide +kernel), List.mem_of_getElem? (i := 1094) (by decide +kernel), List.mem_of_getElem? (i := 1095) (by decide +kernel)⟩
theorem lw_p38 : lw_okq (⟨"OnlyInDisguiseModel", "closest", "()I"⟩, 19) := ⟨⟨by decide +kernel, by decide +kernel⟩, List.mem_of_getElem? (i := 797) (by decide +kernel), List.mem_of_getElem? (i := 1098) (by decide +kernel), List.mem_of_getElem? (i := 1099) (by decide +kernel)⟩
theorem lw_p39 : lw_okq (⟨"OnlyInDisguiseModel", "left", "(I)I"⟩, 19) := ⟨⟨by decide +kernel, by decide +kernel⟩, List.mem_of_getElem? (i := 797) (by decide +kernel), List.mem_of_getElem? (i := 1102) (by decide +kernel), List.mem_of_getElem? (i := 1103) (by decide +kernel)⟩
theorem lw_p40 : lw_okq (⟨"OnlyInDisguiseModel", "stable", "()I"⟩, 19) := ⟨⟨by decide +kernel, by decide +kernel⟩, List.mem_of_getElem? (i := 797) (by decide +kernel), List.mem_of_getElem? (i := 1106) (by decide +kernel), List.mem_of_getElem? (i := 1107) (by decide +kernel)⟩
theorem lw_p41 : lw_okq (⟨"OnlyInDisguiseModel", "isTold", "(III)Z"⟩, 19) := ⟨⟨by decide +kernel, by decide +kernel⟩, List.mem_of_getElem? (i := 797) (by decide +kernel), List.mem_of_getElem? (i := 1115) (by decide +kernel), List.mem_of_getElem? (i := 1116) (by decide +kernel)⟩
theorem lw_p42 : lw_okq (⟨"OnlyInDisguiseModel", "hasBy", "(IIIIII)I"⟩, 19) := ⟨⟨by decide +kernel, by decide +kernel⟩, List.mem_of_getElem? (i := 797) (by decide +kernel), List.mem_of_getElem? (i := 1131) (by decide +kernel), List.mem_of_getElem? (i := 1132) (by decide +kernel)⟩
theorem lw_p43 : lw_okq (⟨"OnlyInDisguiseModel", "drawn", "(I)I"⟩, 19) := ⟨⟨by decide +kernel, by decide +kernel⟩, List.mem_of_getElem? (i := 797) (by decide +kernel), List.mem_of_getElem? (i := 1168) (by decide +kernel), List.mem_of_getElem? (i := 1169) (by decide +kernel)⟩
def lw_privs_3 : List (MethodName × Nat) := [(⟨"OnlyInDisguiseModel", "lastsOf", "(II)I"⟩, 19), (⟨"OnlyInDisguiseModel", "fillsCast", "()V"⟩, 19), (⟨"OnlyInDisguiseModel", "mostOf", "(II)I"⟩, 19), (⟨"OnlyInDisguiseModel", "holderBy", "(II)I"⟩, 19), (⟨"OnlyInDisguiseModel", "plainOnes", "()I"⟩, 19), (⟨"OnlyInDisguiseModel", "likeOnes", "()I"⟩, 19), (⟨"OnlyInDisguiseModel", "closest", "()I"⟩, 19), (⟨"OnlyInDisguiseModel", "left", "(I)I"⟩, 19), (⟨"OnlyInDisguiseModel", "stable", "()I"⟩, 19), (⟨"OnlyInDisguiseModel", "isTold", "(III)Z"⟩, 19), (⟨"OnlyInDisguiseModel", "hasBy", "(IIIIII)I"⟩, 19), (⟨"OnlyInDisguiseModel", "drawn", "(I)I"⟩, 19)]
theorem lw_r3 : ∀ q ∈ lw_privs_3, lw_okq q := List.forall_mem_cons.mpr ⟨lw_p32, List.forall_mem_cons.mpr ⟨lw_p33, List.forall_mem_cons.mpr ⟨lw_p34, List.forall_mem_cons.mpr ⟨lw_p35, List.forall_mem_cons.mpr ⟨lw_p36, List.forall_mem_cons.mpr ⟨lw_p37, List.forall_mem_cons.mpr ⟨lw_p38, List.forall_mem_cons.mpr ⟨lw_p39, List.forall_mem_cons.mpr ⟨lw_p40, List.forall_mem_cons.mpr ⟨lw_p41, List.forall_mem_cons.mpr ⟨lw_p42, List.forall_mem_cons.mpr ⟨lw_p43, fun _ h => absurd h List.not_mem_nil⟩⟩⟩⟩⟩⟩⟩⟩⟩⟩⟩⟩
def lw_privs : List (MethodName × Nat) := lw_privs_1 ++ (lw_privs_2 ++ (lw_privs_3))
def lw_tbl : List Cond := k2_sels lw_privs ++ tables_1
theorem lw_privs_ok : ∀ q ∈ lw_privs, lw_okq q := by
  show ∀ q ∈ lw_privs_1 ++ (lw_privs_2 ++ (lw_privs_3)), lw_okq q
  exact List.forall_mem_append.mpr ⟨lw_r1, List.forall_mem_append.mpr ⟨lw_r2, lw_r3⟩⟩
def RX0 : String := "OnlyInDisguise$Cabinet"
def TX0 : u_T := fun k => match k with
  | 0 => ("OnlyInDisguise$Cabinet", "people", "I", false)
  | 1 => ("OnlyInDisguise$Cabinet", "day", "I", false)
  | 2 => ("OnlyInDisguise$Cabinet", "fallen", "I", false)
  | 3 => ("OnlyInDisguise$Cabinet", "fellToday", "I", false)
  | 4 => ("OnlyInDisguise$Cabinet", "kind", "[I", true)
  | 5 => ("OnlyInDisguise$Cabinet", "figure", "[I", true)
  | 6 => ("OnlyInDisguise$Cabinet", "known", "[I", true)
  | 7 => ("OnlyInDisguise$Cabinet", "mate", "[I", true)
  | 8 => ("OnlyInDisguise$Cabinet", "seat", "[I", true)
  | 9 => ("OnlyInDisguise$Cabinet", "costume", "[I", true)
  | _ => ("OnlyInDisguise$Cabinet", "holder", "[I", true)
def tyX0 : Nat → FieldType := fun k => match k with
  | 0 => .int
  | 1 => .int
  | 2 => .int
  | 3 => .int
  | 4 => .array .int
  | 5 => .array .int
  | 6 => .array .int
  | 7 => .array .int
  | 8 => .array .int
  | 9 => .array .int
  | _ => .array .int
theorem nmX0 : ∀ a, a < 11 → ∀ b, b < 11 → a ≠ b → (TX0 a).2.1 ≠ (TX0 b).2.1 := by decide +kernel
theorem tyX0_ok : ∀ k, k < 11 → parseFieldDescriptor (TX0 k).2.2.1 = some (tyX0 k) := by decide +kernel
def RX1 : String := "OnlyInDisguise$Casting"
def TX1 : u_T := fun k => match k with
  | 0 => ("OnlyInDisguise$Casting", "lasting", "[I", true)
  | 1 => ("OnlyInDisguise$Casting", "best", "[I", true)
  | _ => ("OnlyInDisguise$Casting", "people", "I", false)
def tyX1 : Nat → FieldType := fun k => match k with
  | 0 => .array .int
  | 1 => .array .int
  | _ => .int
theorem nmX1 : ∀ a, a < 3 → ∀ b, b < 3 → a ≠ b → (TX1 a).2.1 ≠ (TX1 b).2.1 := by decide +kernel
theorem tyX1_ok : ∀ k, k < 3 → parseFieldDescriptor (TX1 k).2.2.1 = some (tyX1 k) := by decide +kernel
def RX2 : String := "OnlyInDisguise$Draws"
def TX2 : u_T := fun k => match k with
  | _ => ("OnlyInDisguise$Draws", "z", "I", false)
def tyX2 : Nat → FieldType := fun k => match k with
  | _ => .int
theorem nmX2 : ∀ a, a < 1 → ∀ b, b < 1 → a ≠ b → (TX2 a).2.1 ≠ (TX2 b).2.1 := by decide +kernel
theorem tyX2_ok : ∀ k, k < 1 → parseFieldDescriptor (TX2 k).2.2.1 = some (tyX2 k) := by decide +kernel
def RX4 : String := "OnlyInDisguise$Shelves"
def TX4 : u_T := fun k => match k with
  | 0 => ("OnlyInDisguise$Shelves", "content", "[I", true)
  | 1 => ("OnlyInDisguise$Shelves", "kind", "[I", true)
  | 2 => ("OnlyInDisguise$Shelves", "figure", "[I", true)
  | 3 => ("OnlyInDisguise$Shelves", "sort", "[I", true)
  | 4 => ("OnlyInDisguise$Shelves", "length", "[I", true)
  | _ => ("OnlyInDisguise$Shelves", "elements", "[I", true)
def tyX4 : Nat → FieldType := fun k => match k with
  | 0 => .array .int
  | 1 => .array .int
  | 2 => .array .int
  | 3 => .array .int
  | 4 => .array .int
  | _ => .array .int
theorem nmX4 : ∀ a, a < 6 → ∀ b, b < 6 → a ≠ b → (TX4 a).2.1 ≠ (TX4 b).2.1 := by decide +kernel
theorem tyX4_ok : ∀ k, k < 6 → parseFieldDescriptor (TX4 k).2.2.1 = some (tyX4 k) := by decide +kernel
def RX6 : String := "OnlyInDisguise"
def TX6 : u_T := fun k => match k with
  | 0 => ("OnlyInDisguise", "now", "LOnlyInDisguise$Cabinet;", true)
  | 1 => ("OnlyInDisguise", "mind", "LOnlyInDisguise$Cabinet;", true)
  | 2 => ("OnlyInDisguise", "picture", "LOnlyInDisguise$Cabinet;", true)
  | 3 => ("OnlyInDisguise", "pictured", "Z", false)
  | 4 => ("OnlyInDisguise", "shelves", "LOnlyInDisguise$Shelves;", true)
  | 5 => ("OnlyInDisguise", "casting", "LOnlyInDisguise$Casting;", true)
  | 6 => ("OnlyInDisguise", "draws", "LOnlyInDisguise$Draws;", true)
  | 7 => ("OnlyInDisguise", "oneHas", "[I", true)
  | _ => ("OnlyInDisguise", "otherHas", "[I", true)
def tyX6 : Nat → FieldType := fun k => match k with
  | 0 => .object "OnlyInDisguise$Cabinet"
  | 1 => .object "OnlyInDisguise$Cabinet"
  | 2 => .object "OnlyInDisguise$Cabinet"
  | 3 => .boolean
  | 4 => .object "OnlyInDisguise$Shelves"
  | 5 => .object "OnlyInDisguise$Casting"
  | 6 => .object "OnlyInDisguise$Draws"
  | 7 => .array .int
  | _ => .array .int
theorem nmX6 : ∀ a, a < 9 → ∀ b, b < 9 → a ≠ b → (TX6 a).2.1 ≠ (TX6 b).2.1 := by decide +kernel
theorem tyX6_ok : ∀ k, k < 9 → parseFieldDescriptor (TX6 k).2.2.1 = some (tyX6 k) := by decide +kernel
def RX7 : String := "OnlyInDisguiseModel"
def TX7 : u_T := fun k => match k with
  | 0 => ("OnlyInDisguiseModel", "s", "[I", true)
  | 1 => ("OnlyInDisguiseModel", "m", "[I", true)
  | 2 => ("OnlyInDisguiseModel", "image", "[I", true)
  | 3 => ("OnlyInDisguiseModel", "was", "[I", true)
  | 4 => ("OnlyInDisguiseModel", "hasImage", "Z", false)
  | 5 => ("OnlyInDisguiseModel", "place", "I", false)
  | 6 => ("OnlyInDisguiseModel", "rowAt", "I", false)
  | 7 => ("OnlyInDisguiseModel", "rowEnd", "I", false)
  | 8 => ("OnlyInDisguiseModel", "numbers", "[I", true)
  | 9 => ("OnlyInDisguiseModel", "lasting", "[I", true)
  | 10 => ("OnlyInDisguiseModel", "most", "[I", true)
  | 11 => ("OnlyInDisguiseModel", "seed", "I", false)
  | 12 => ("OnlyInDisguiseModel", "kept", "[I", true)
  | 13 => ("OnlyInDisguiseModel", "keptKind", "[I", true)
  | 14 => ("OnlyInDisguiseModel", "keptFigure", "[I", true)
  | 15 => ("OnlyInDisguiseModel", "sort", "[I", true)
  | 16 => ("OnlyInDisguiseModel", "size", "[I", true)
  | 17 => ("OnlyInDisguiseModel", "element", "[I", true)
  | _ => ("OnlyInDisguiseModel", "thrown", "I", false)
def tyX7 : Nat → FieldType := fun k => match k with
  | 0 => .array .int
  | 1 => .array .int
  | 2 => .array .int
  | 3 => .array .int
  | 4 => .boolean
  | 5 => .int
  | 6 => .int
  | 7 => .int
  | 8 => .array .int
  | 9 => .array .int
  | 10 => .array .int
  | 11 => .int
  | 12 => .array .int
  | 13 => .array .int
  | 14 => .array .int
  | 15 => .array .int
  | 16 => .array .int
  | 17 => .array .int
  | _ => .int
theorem nmX7 : ∀ a, a < 19 → ∀ b, b < 19 → a ≠ b → (TX7 a).2.1 ≠ (TX7 b).2.1 := by decide +kernel
theorem tyX7_ok : ∀ k, k < 19 → parseFieldDescriptor (TX7 k).2.2.1 = some (tyX7 k) := by decide +kernel
/-! the words of the tables that stay while the machine runs -/
def aTbl : List Cond := lw_tbl.filter goodWord
theorem aTbl_good : GoodIn aTbl aTbl := fun _ h => ⟨h, good_of_word (List.mem_filter.mp h).2⟩
theorem in_aTbl {w : Cond} (i : Nat) (h : lw_tbl[i]? = some w) (g : goodWord w = true) : w ∈ aTbl := List.mem_filter.mpr ⟨List.mem_of_getElem? h, g⟩
theorem aTbl_sub : ∀ w ∈ aTbl, w ∈ lw_tbl := fun _ h => (List.mem_filter.mp h).1
theorem ilX0 : ∀ w ∈ u_ws RX0 TX0 11, w ∈ lw_tbl := by decide +kernel
theorem igX0 : (u_ws RX0 TX0 11).all goodWord = true := by decide +kernel
theorem iaX0 : ∀ w ∈ u_ws RX0 TX0 11, w ∈ aTbl := fun w h => List.mem_filter.mpr ⟨ilX0 w h, List.all_eq_true.mp igX0 w h⟩
theorem ilX1 : ∀ w ∈ u_ws RX1 TX1 3, w ∈ lw_tbl := by decide +kernel
theorem igX1 : (u_ws RX1 TX1 3).all goodWord = true := by decide +kernel
theorem iaX1 : ∀ w ∈ u_ws RX1 TX1 3, w ∈ aTbl := fun w h => List.mem_filter.mpr ⟨ilX1 w h, List.all_eq_true.mp igX1 w h⟩
theorem ilX2 : ∀ w ∈ u_ws RX2 TX2 1, w ∈ lw_tbl := by decide +kernel
theorem igX2 : (u_ws RX2 TX2 1).all goodWord = true := by decide +kernel
theorem iaX2 : ∀ w ∈ u_ws RX2 TX2 1, w ∈ aTbl := fun w h => List.mem_filter.mpr ⟨ilX2 w h, List.all_eq_true.mp igX2 w h⟩
theorem ilX4 : ∀ w ∈ u_ws RX4 TX4 6, w ∈ lw_tbl := by decide +kernel
theorem igX4 : (u_ws RX4 TX4 6).all goodWord = true := by decide +kernel
theorem iaX4 : ∀ w ∈ u_ws RX4 TX4 6, w ∈ aTbl := fun w h => List.mem_filter.mpr ⟨ilX4 w h, List.all_eq_true.mp igX4 w h⟩
theorem ilX6 : ∀ w ∈ u_ws RX6 TX6 9, w ∈ lw_tbl := by decide +kernel
theorem igX6 : (u_ws RX6 TX6 9).all goodWord = true := by decide +kernel
theorem iaX6 : ∀ w ∈ u_ws RX6 TX6 9, w ∈ aTbl := fun w h => List.mem_filter.mpr ⟨ilX6 w h, List.all_eq_true.mp igX6 w h⟩
theorem ilX7 : ∀ w ∈ u_ws RX7 TX7 19, w ∈ lw_tbl := by decide +kernel
theorem igX7 : (u_ws RX7 TX7 19).all goodWord = true := by decide +kernel
theorem iaX7 : ∀ w ∈ u_ws RX7 TX7 19, w ∈ aTbl := fun w h => List.mem_filter.mpr ⟨ilX7 w h, List.all_eq_true.mp igX7 w h⟩
abbrev aCl : List vw_C := [(RX0, TX0, 11), (RX1, TX1, 3), (RX2, TX2, 1), (RX4, TX4, 6), (RX6, TX6, 9), (RX7, TX7, 19)]
end
section
/-! ===== numbers: ints of the machine as mathematical ones ===== -/
theorem aIn_toInt {x : Int} (h : -2147483648 ≤ x ∧ x < 2147483648) : (Int32.ofInt x).toInt = x := Int32.toInt_ofInt_of_le (by omega) (by omega)
theorem aIn_toInt64 {x : Int} (h : -9223372036854775808 ≤ x ∧ x < 9223372036854775808) : (Int64.ofInt x).toInt = x := Int64.toInt_ofInt_of_le (by omega) (by omega)
theorem aIn_lt {x y : Int} (hx : -2147483648 ≤ x ∧ x < 2147483648) (hy : -2147483648 ≤ y ∧ y < 2147483648) : Int32.ofInt x < Int32.ofInt y ↔ x < y := by
  rw [Int32.lt_iff_toInt_lt, aIn_toInt hx, aIn_toInt hy]
theorem aIn_le {x y : Int} (hx : -2147483648 ≤ x ∧ x < 2147483648) (hy : -2147483648 ≤ y ∧ y < 2147483648) : Int32.ofInt x ≤ Int32.ofInt y ↔ x ≤ y := by
  rw [Int32.le_iff_toInt_le, aIn_toInt hx, aIn_toInt hy]
theorem aIn_eq {x y : Int} (hx : -2147483648 ≤ x ∧ x < 2147483648) (hy : -2147483648 ≤ y ∧ y < 2147483648) : Int32.ofInt x = Int32.ofInt y ↔ x = y := by
  rw [← Int32.toInt_inj, aIn_toInt hx, aIn_toInt hy]
theorem aIn_lt64 {x y : Int} (hx : -9223372036854775808 ≤ x ∧ x < 9223372036854775808) (hy : -9223372036854775808 ≤ y ∧ y < 9223372036854775808) : Int64.ofInt x < Int64.ofInt y ↔ x < y := by
  rw [Int64.lt_iff_toInt_lt, aIn_toInt64 hx, aIn_toInt64 hy]
theorem aIn_eq64 {x y : Int} (hx : -9223372036854775808 ≤ x ∧ x < 9223372036854775808) (hy : -9223372036854775808 ≤ y ∧ y < 9223372036854775808) : Int64.ofInt x = Int64.ofInt y ↔ x = y := by
  rw [← Int64.toInt_inj, aIn_toInt64 hx, aIn_toInt64 hy]
theorem aIn_nat {x : Int} (h : 0 ≤ x ∧ x < 2147483648) : (Int32.ofInt x).toNatClampNeg = x.toNat := Int32.toNatClampNeg_ofInt_of_le (by omega) (by omega)
theorem aIn_vp {x : Int} {n : Nat} (hn : n < 2147483648) (h : 0 ≤ x ∧ x < (n : Int)) : vp_in (Int32.ofInt x) n := by
  rw [vp_in_iff, aIn_toInt (by omega)]
  exact h
theorem aIn_byte {n : Int} (h : -128 ≤ n ∧ n ≤ 127) : (Int8.ofInt n).toInt32 = Int32.ofInt n := Int8.toInt32_ofInt h.1 h.2
theorem aIn_short {n : Int} (h : -32768 ≤ n ∧ n ≤ 32767) : (Int16.ofInt n).toInt32 = Int32.ofInt n := Int16.toInt32_ofInt h.1 h.2
theorem aIn_i2b (x : Int) : (Int32.ofInt x).toInt8.toInt32 = Int32.ofInt (x.bmod 256) := by
  rw [Int32.toInt8_ofInt, ← Int32.toInt_inj]
  have h1 : (Int8.ofInt x).toInt = x.bmod 256 := by rw [Int8.toInt_ofInt]
  have h2 : (Int8.ofInt x).toInt32 = Int32.ofInt (x.bmod 256) := by rw [← h1]; exact (Int32.ofInt_int8ToInt _).symm
  rw [h2]
theorem aIn_i2s (x : Int) : (Int32.ofInt x).toInt16.toInt32 = Int32.ofInt (x.bmod 65536) := by
  rw [Int32.toInt16_ofInt, ← Int32.toInt_inj]
  have h1 : (Int16.ofInt x).toInt = x.bmod 65536 := by rw [Int16.toInt_ofInt]
  have h2 : (Int16.ofInt x).toInt32 = Int32.ofInt (x.bmod 65536) := by rw [← h1]; exact (Int32.ofInt_int16ToInt _).symm
  rw [h2]
theorem aIn_i2l {x : Int} (h : -2147483648 ≤ x ∧ x < 2147483648) : (Int32.ofInt x).toInt64 = Int64.ofInt x := by
  rw [← Int64.ofInt_int32ToInt, aIn_toInt h]
theorem aIn_div {x y : Int} (hx : -2147483648 ≤ x ∧ x < 2147483648) (hy : 0 < y ∧ y < 2147483648) : Int32.ofInt (x.tdiv y) = Int32.ofInt x / Int32.ofInt y :=
  Int32.ofInt_tdiv hx.1 (by show x ≤ 2147483647; omega) (by show -2147483648 ≤ y; omega) (by show y ≤ 2147483647; omega)
theorem aIn_div64 {x y : Int} (hx : -9223372036854775808 ≤ x ∧ x < 9223372036854775808) (hy : 0 < y ∧ y < 9223372036854775808) : Int64.ofInt (x.tdiv y) = Int64.ofInt x / Int64.ofInt y :=
  Int64.ofInt_tdiv hx.1 (by show x ≤ 9223372036854775807; omega) (by show -9223372036854775808 ≤ y; omega) (by show y ≤ 9223372036854775807; omega)
theorem aIn_rem {x y : Int} (hx : -2147483648 ≤ x ∧ x < 2147483648) (hy : 0 < y ∧ y < 2147483648) : Int32.ofInt (x.tmod y) = Int32.ofInt x - Int32.ofInt x / Int32.ofInt y * Int32.ofInt y := by
  rw [← aIn_div hx hy, ← Int32.ofInt_mul, ← Int32.ofInt_sub]
  congr 1
  have := Int.mul_tdiv_add_tmod x y
  rw [Int.mul_comm] at this
  omega
theorem aIn_rem64 {x y : Int} (hx : -9223372036854775808 ≤ x ∧ x < 9223372036854775808) (hy : 0 < y ∧ y < 9223372036854775808) : Int64.ofInt (x.tmod y) = Int64.ofInt x - Int64.ofInt x / Int64.ofInt y * Int64.ofInt y := by
  rw [← aIn_div64 hx hy, ← Int64.ofInt_mul, ← Int64.ofInt_sub]
  congr 1
  have := Int.mul_tdiv_add_tmod x y
  rw [Int.mul_comm] at this
  omega
theorem aIn_ne0 {y : Int} (hy : 0 < y ∧ y < 2147483648) : ¬ Int32.ofInt y = 0 := fun h => by
  have h2 : Int32.ofInt y = Int32.ofInt 0 := h
  rw [aIn_eq (by omega) (by omega)] at h2
  omega
theorem aIn_ne064 {y : Int} (hy : 0 < y ∧ y < 9223372036854775808) : ¬ Int64.ofInt y = 0 := fun h => by
  have h2 : Int64.ofInt y = Int64.ofInt 0 := h
  rw [aIn_eq64 (by omega) (by omega)] at h2
  omega
def aAnd (x y : Int) : Int := (Int32.ofInt x &&& Int32.ofInt y).toInt
def aOr (x y : Int) : Int := (Int32.ofInt x ||| Int32.ofInt y).toInt
def aXor (x y : Int) : Int := (Int32.ofInt x ^^^ Int32.ofInt y).toInt
theorem aAnd_eq (x y : Int) : Int32.ofInt (aAnd x y) = Int32.ofInt x &&& Int32.ofInt y := Int32.ofInt_toInt _
theorem aOr_eq (x y : Int) : Int32.ofInt (aOr x y) = Int32.ofInt x ||| Int32.ofInt y := Int32.ofInt_toInt _
theorem aXor_eq (x y : Int) : Int32.ofInt (aXor x y) = Int32.ofInt x ^^^ Int32.ofInt y := Int32.ofInt_toInt _
theorem aSh_small : ∀ n : Nat, n < 32 → (Int32.ofNat n &&& 31) = Int32.ofNat n ∧ ((Int32.ofNat n).toBitVec.smod 32).toNat = n ∧ (((Int32.ofNat n).toUInt32 &&& Int32.toUInt32 31).toBitVec % 32).toNat = n ∧ (Int32.ofNat (2 ^ n)).toBitVec.toNat = 2 ^ n := by decide +kernel
theorem aIn_shl {x y : Int} (hy : 0 ≤ y ∧ y < 32) : Int32.ofInt (x * 2 ^ y.toNat) = Int32.ofInt x <<< (Int32.ofInt y &&& 31) := by
  obtain ⟨n, rfl⟩ := Int.eq_ofNat_of_zero_le hy.1
  have hn : n < 32 := by omega
  obtain ⟨h1, h2, -, h4⟩ := aSh_small n hn
  have e : Int32.ofInt (n : Int) = Int32.ofNat n := Int32.ofInt_eq_ofNat
  rw [e, h1, Int32.ofInt_mul, Int.toNat_natCast]
  have e2 : Int32.ofInt ((2 : Int) ^ n) = Int32.ofNat (2 ^ n) := by
    rw [← Int32.ofInt_eq_ofNat]; simp
  rw [e2]
  apply Int32.toBitVec.inj
  apply BitVec.eq_of_toNat_eq
  rw [pk_shl _ _ n h2, Int32.toBitVec_mul, BitVec.toNat_mul, h4]
theorem aIn_shr {x y : Int} (hy : 0 ≤ y ∧ y < 32) (hx : -2147483648 ≤ x ∧ x < 2147483648) : Int32.ofInt (x / 2 ^ y.toNat) = Int32.ofInt x >>> (Int32.ofInt y &&& 31) := by
  obtain ⟨n, rfl⟩ := Int.eq_ofNat_of_zero_le hy.1
  have hn : n < 32 := by omega
  obtain ⟨h1, h2, -, -⟩ := aSh_small n hn
  have e : Int32.ofInt (n : Int) = Int32.ofNat n := Int32.ofInt_eq_ofNat
  rw [e, h1, ← Int32.toInt_inj, pk_shr _ _ n h2, aIn_toInt hx, Int.shiftRight_eq_div_pow, Int.toNat_natCast]
  have hp : (0 : Int) < 2 ^ n := Int.pow_pos (by decide)
  have hq : (1 : Int) ≤ 2 ^ n := hp
  rw [aIn_toInt]
  · simp
  · constructor
    · rcases Int.le_total 0 x with h | h
      · have := Int.ediv_nonneg h (Int.le_of_lt hp); omega
      · have h3 : x ≤ x / 2 ^ n := by
          rw [Int.le_ediv_iff_mul_le hp]
          have : (-x) * 1 ≤ (-x) * 2 ^ n := Int.mul_le_mul_of_nonneg_left hq (by omega)
          rw [Int.neg_mul, Int.neg_mul] at this
          omega
        omega
    · have h3 : x / 2 ^ n ≤ 2147483647 := by
        rw [Int.ediv_le_iff_le_mul hp]
        have : (2147483647 : Int) * 1 ≤ 2147483647 * 2 ^ n := Int.mul_le_mul_of_nonneg_left hq (by omega)
        omega
      omega
theorem aIn_ushr {x y : Int} (hy : 0 ≤ y ∧ y < 32) (hx : 0 ≤ x ∧ x < 2147483648) : ((Int32.ofInt x).toUInt32 >>> ((Int32.ofInt y).toUInt32 &&& Int32.toUInt32 31)).toInt32 = Int32.ofInt (x / 2 ^ y.toNat) := by
  obtain ⟨n, rfl⟩ := Int.eq_ofNat_of_zero_le hy.1
  obtain ⟨k, rfl⟩ := Int.eq_ofNat_of_zero_le hx.1
  have hn : n < 32 := by omega
  obtain ⟨-, -, h3, -⟩ := aSh_small n hn
  have e : Int32.ofInt (n : Int) = Int32.ofNat n := Int32.ofInt_eq_ofNat
  have e1 : Int32.ofInt (k : Int) = nI k := Int32.ofInt_eq_ofNat
  rw [e, e1, pk_ushrN (by omega) _ n h3, Int.toNat_natCast]
  have e2 : ((k : Int) / 2 ^ n) = ((k / 2 ^ n : Nat) : Int) := by simp
  rw [e2]
  exact Int32.ofInt_eq_ofNat.symm
theorem aIn_lcmp {x y : Int} (hx : -9223372036854775808 ≤ x ∧ x < 9223372036854775808) (hy : -9223372036854775808 ≤ y ∧ y < 9223372036854775808) : lg_cmp (Int64.ofInt x) (Int64.ofInt y) = Int32.ofInt (if y < x then 1 else if x = y then 0 else -1) := by
  unfold lg_cmp
  have h1 : (Int64.ofInt x > Int64.ofInt y) ↔ y < x := aIn_lt64 hy hx
  have h2 := aIn_eq64 hx hy
  by_cases c1 : y < x
  · rw [if_pos (h1.mpr c1), if_pos c1]; rfl
  · rw [if_neg (fun h => c1 (h1.mp h)), if_neg c1]
    by_cases c2 : x = y
    · rw [if_pos (h2.mpr c2), if_pos c2]; rfl
    · rw [if_neg (fun h => c2 (h2.mp h)), if_neg c2]; rfl
end
section
/-! ===== the abstract machine: values, stores, places ===== -/
abbrev aV : Type := Int ⊕ (Int ⊕ (Nat × Nat))
abbrev aI (x : Int) : aV := Sum.inl x
abbrev aL (x : Int) : aV := Sum.inr (Sum.inl x)
abbrev aR (t c : Nat) : aV := Sum.inr (Sum.inr (t, c))
abbrev aS : Type := Nat → Nat → Int → Int
abbrev aLs : Type := List (Option aV)
def aUp (σ : aS) (t c : Nat) (i x : Int) : aS := fun t' c' i' => if t' = t ∧ c' = c ∧ i' = i then x else σ t' c' i'
/-- how many of a kind of place there are -/
def aCnt (t : Nat) : Nat := match t with
  | 1 => 3 | 2 => 3 | 3 => 3 | 4 => 3 | 5 => 3 | 6 => 3 | 7 => 3 | 8 => 3
  | 20 => 2 | 22 => 4 | _ => 1
/-- how long the rows of a kind are -/
def aLen (t : Nat) : Nat := match t with
  | 2 => 8 | 3 => 8 | 4 => 8 | 5 => 8 | 6 => 8 | 7 => 5 | 8 => 5
  | 10 => 8 | 11 => 8 | 12 => 8 | 13 => 8 | 14 => 8 | 15 => 800
  | 17 => 40 | 18 => 1536 | 20 => 4
  | 22 => 45 | 23 => 3 | 24 => 40 | 25 => 1536 | 26 => 8 | 27 => 8 | 28 => 8 | 29 => 8 | 30 => 8 | 31 => 800
  | _ => 0
/-- the class (its number in aCl) of the objects of a kind; none: rows -/
def aCls (t : Nat) : Option Nat := match t with
  | 0 => some 4 | 1 => some 0 | 9 => some 3 | 16 => some 1 | 19 => some 2 | 21 => some 5 | _ => none
/-- the fields of the objects of a kind: a number, or a place (kind; its instance, or the same one) -/
def aFld (t : Nat) : List (Option (Nat × Option Nat)) := match t with
  | 0 => [some (1, some 0), some (1, some 1), some (1, some 2), none, some (9, some 0), some (16, some 0), some (19, some 0), some (20, some 0), some (20, some 1)]
  | 1 => [none, none, none, none, some (2, none), some (3, none), some (4, none), some (5, none), some (6, none), some (7, none), some (8, none)]
  | 9 => [some (10, none), some (11, none), some (12, none), some (13, none), some (14, none), some (15, none)]
  | 16 => [some (17, none), some (18, none), none]
  | 19 => [none]
  | 21 => [some (22, some 0), some (22, some 1), some (22, some 2), some (22, some 3), none, none, none, none, some (23, none), some (24, none), some (25, none), none, some (26, none), some (27, none), some (28, none), some (29, none), some (30, none), some (31, none), none]
  | _ => []
/-- fields that hold a boolean -/
def aBoo (t k : Nat) : Bool := (t == 0 && k == 3) || (t == 21 && k == 4)
def aPl : List (Nat × Nat) := (List.range 32).flatMap fun t => (List.range (aCnt t)).map fun c => (t, c)
theorem aPl_nd : aPl.Nodup := by decide +kernel
theorem aPl_all : ∀ t : Nat, t < 32 → ∀ c : Nat, c < aCnt t → (t, c) ∈ aPl := by decide +kernel
theorem aPl_in : ∀ q ∈ aPl, q.1 < 32 ∧ q.2 < aCnt q.1 := by decide +kernel
theorem aLen_ok : ∀ t : Nat, aLen t < 2147483648 := by
  intro t
  unfold aLen
  split <;> decide
theorem aPl_at {t c : Nat} (ht : t < 32) (hc : c < aCnt t) : ∃ k : Nat, aPl[k]? = some (t, c) := List.getElem?_of_mem (aPl_all t ht c hc)
section Conc
variable (ad : Nat → Nat → Nat) (cA : ClassId)
def cV (v : aV) : Value := match v with
  | .inl x => .int (Int32.ofInt x)
  | .inr (.inl y) => .long (Int64.ofInt y)
  | .inr (.inr (t, c)) => .ref (ad t c)
def aFv (σ : aS) (t c j : Nat) (f : Option (Nat × Option Nat)) : Value := match f with
  | none => .int (Int32.ofInt (σ t c j))
  | some (t', c') => .ref (ad t' (c'.getD c))
def aCell (σ : aS) (t c : Nat) : va_E := match aCls t with
  | none => .inl (cA, aLen t, .inl (fun j => Int32.ofInt (σ t c j)))
  | some ci => .inr (ci, (aFld t).mapIdx (fun j f => aFv ad σ t c j f))
def aWo (σ : aS) : va_W := aPl.map (fun q => (ad q.1 q.2, aCell ad cA σ q.1 q.2))
def aAs : Nat → aLs → List (Nat × Value)
  | _, [] => []
  | i, none :: t => aAs (i + 1) t
  | i, some v :: t => (i, cV ad v) :: aAs (i + 1) t
def aLoc (n : Nat) (L : aLs) (ls : Array Slot) : Prop := L.length = n ∧ lv_has ls n (aAs ad 0 L)
def aA : Nat → Prop := fun q => ∃ t c : Nat, t < 32 ∧ c < aCnt t ∧ q = ad t c
end Conc
theorem aWo_at {ad : Nat → Nat → Nat} {cA : ClassId} {σ : aS} {k t c : Nat} (h : aPl[k]? = some (t, c)) : (aWo ad cA σ)[k]? = some (ad t c, aCell ad cA σ t c) := by
  unfold aWo
  rw [List.getElem?_map, h]
  rfl
theorem aWo_set {ad : Nat → Nat → Nat} {cA : ClassId} {σ σ' : aS} {k t c : Nat} {e : va_E} (h : aPl[k]? = some (t, c)) (he : aCell ad cA σ' t c = e) (ho : ∀ t' c' : Nat, ¬ (t' = t ∧ c' = c) → aCell ad cA σ' t' c' = aCell ad cA σ t' c') : (aWo ad cA σ).set k (ad t c, e) = aWo ad cA σ' := by
  apply List.ext_getElem?
  intro j
  have hk : k < aPl.length := (List.getElem?_eq_some_iff.mp h).1
  by_cases hj : k = j
  · subst hj
    rw [List.getElem?_set_self (by unfold aWo; rw [List.length_map]; exact hk), aWo_at h, he]
  · rw [List.getElem?_set_ne hj]
    unfold aWo
    rw [List.getElem?_map, List.getElem?_map]
    cases hq : aPl[j]? with
    | none => rfl
    | some q =>
      obtain ⟨t', c'⟩ := q
      have hne : ¬ (t' = t ∧ c' = c) := fun hh => by
        obtain ⟨rfl, rfl⟩ := hh
        have hj' : j < aPl.length := (List.getElem?_eq_some_iff.mp hq).1
        exact hj ((List.getElem?_inj hk aPl_nd).mp (h.trans hq.symm))
      show some (ad t' c', aCell ad cA σ t' c') = some (ad t' c', aCell ad cA σ' t' c')
      rw [ho t' c' hne]
theorem aUp_off {σ : aS} {t c : Nat} {i x : Int} {t' c' : Nat} (h : ¬ (t' = t ∧ c' = c)) (j : Int) : aUp σ t c i x t' c' j = σ t' c' j := by
  unfold aUp
  rw [if_neg (fun hh => h ⟨hh.1, hh.2.1⟩)]
theorem aCell_off {ad : Nat → Nat → Nat} {cA : ClassId} {σ : aS} {t c : Nat} {i x : Int} (t' c' : Nat) (h : ¬ (t' = t ∧ c' = c)) : aCell ad cA (aUp σ t c i x) t' c' = aCell ad cA σ t' c' := by
  unfold aCell
  split
  · congr 4
    funext j
    rw [aUp_off h]
  · congr 3
    funext j f
    unfold aFv
    split
    · rw [aUp_off h]
    · rfl
theorem aCell_arr {ad : Nat → Nat → Nat} {cA : ClassId} {σ : aS} {t c : Nat} {i x : Int} (hc : aCls t = none) (hi : 0 ≤ i ∧ i < 2147483648) : aCell ad cA (aUp σ t c i x) t c = .inl (cA, aLen t, .inl (upd (fun j => Int32.ofInt (σ t c j)) (Int32.ofInt i).toNatClampNeg (Int32.ofInt x))) := by
  unfold aCell
  rw [hc]
  show (Sum.inl (cA, aLen t, Sum.inl (fun j : Nat => Int32.ofInt (aUp σ t c i x t c j))) : va_E) = _
  congr 4
  funext j
  rw [aIn_nat hi]
  unfold upd aUp
  by_cases h : j = i.toNat
  · rw [if_pos h, if_pos ⟨rfl, rfl, by omega⟩]
  · rw [if_neg h, if_neg (fun hh => h (by omega))]
theorem aCell_fld {ad : Nat → Nat → Nat} {cA : ClassId} {σ : aS} {t c ci k : Nat} {x : Int} (hc : aCls t = some ci) (hk : (aFld t)[k]? = some none) : aCell ad cA (aUp σ t c k x) t c = .inr (ci, ((aFld t).mapIdx (fun j f => aFv ad σ t c j f)).set k (.int (Int32.ofInt x))) := by
  unfold aCell
  rw [hc]
  show (Sum.inr (ci, (aFld t).mapIdx (fun j f => aFv ad (aUp σ t c k x) t c j f)) : va_E) = _
  congr 2
  apply List.ext_getElem?
  intro j
  have hl : k < (aFld t).length := (List.getElem?_eq_some_iff.mp hk).1
  by_cases h : k = j
  · subst h
    rw [List.getElem?_set_self (by rw [List.length_mapIdx]; exact hl), List.getElem?_mapIdx, hk]
    show some (Value.int (Int32.ofInt (aUp σ t c k x t c k))) = _
    unfold aUp
    rw [if_pos ⟨rfl, rfl, rfl⟩]
  · rw [List.getElem?_set_ne h, List.getElem?_mapIdx, List.getElem?_mapIdx]
    congr 1
    funext f
    unfold aFv
    split
    · unfold aUp
      rw [if_neg (fun hh => h (by omega))]
    · rfl
/-! ===== locals ===== -/
theorem aAs_mem {ad : Nat → Nat → Nat} {q : Nat × Value} : ∀ {L : aLs} {i : Nat}, q ∈ aAs ad i L ↔ ∃ (j : Nat) (v : aV), L[j]? = some (some v) ∧ q = (i + j, cV ad v) := by
  intro L
  induction L with
  | nil => intro i; simp [aAs]
  | cons a t ih =>
    intro i
    constructor
    · intro h
      cases a with
      | none =>
        obtain ⟨j, v, h1, h2⟩ := ih.mp h
        exact ⟨j + 1, v, by simpa using h1, by rw [h2]; congr 1; omega⟩
      | some w =>
        rcases List.mem_cons.mp h with h | h
        · exact ⟨0, w, rfl, h⟩
        · obtain ⟨j, v, h1, h2⟩ := ih.mp h
          exact ⟨j + 1, v, by simpa using h1, by rw [h2]; congr 1; omega⟩
    · rintro ⟨j, v, h1, h2⟩
      cases j with
      | zero =>
        have : a = some v := by simpa using h1
        subst this
        exact List.mem_cons.mpr (Or.inl h2)
      | succ j =>
        have h3 : q ∈ aAs ad (i + 1) t := ih.mpr ⟨j, v, by simpa using h1, by rw [h2]; congr 1; omega⟩
        cases a with
        | none => exact h3
        | some w => exact List.mem_cons.mpr (Or.inr h3)
theorem lv_mono {ls : Array Slot} {n : Nat} {l l' : List (Nat × Value)} (h : lv_has ls n l) (hs : ∀ q ∈ l', q ∈ l) : lv_has ls n l' := ⟨h.1, h.2.1, fun q hq => h.2.2 q (hs q hq)⟩
theorem aLoc_at {ad : Nat → Nat → Nat} {n i : Nat} {L : aLs} {ls : Array Slot} {v : aV} (h : aLoc ad n L ls) (hi : L[i]? = some (some v)) : ls[i]? = some (.val (cV ad v)) :=
  h.2.2.2 (i, cV ad v) (aAs_mem.mpr ⟨i, v, hi, by rw [Nat.zero_add]⟩)
/-- locals that are forgotten -/
def aLe (L' L : aLs) : Prop := L'.length = L.length ∧ ∀ (j : Nat) (v : aV), L'[j]? = some (some v) → L[j]? = some (some v)
theorem aLoc_le {ad : Nat → Nat → Nat} {n : Nat} {L L' : aLs} {ls : Array Slot} (h : aLoc ad n L ls) (hl : aLe L' L) : aLoc ad n L' ls :=
  ⟨hl.1.trans h.1, lv_mono h.2 (fun q hq => by
    obtain ⟨j, v, h1, h2⟩ := aAs_mem.mp hq
    exact aAs_mem.mpr ⟨j, v, hl.2 j v h1, h2⟩)⟩
def aDrop : aLs → List Nat → aLs
  | L, [] => L
  | L, k :: ks => aDrop (L.set k none) ks
theorem aDrop_le (ks : List Nat) : ∀ L : aLs, aLe (aDrop L ks) L := by
  induction ks with
  | nil => intro L; exact ⟨rfl, fun _ _ h => h⟩
  | cons k ks ih =>
    intro L
    obtain ⟨h1, h2⟩ := ih (L.set k none)
    refine ⟨h1.trans (List.length_set ..), fun j v h => ?_⟩
    have h3 := h2 j v h
    by_cases hj : k = j
    · subst hj
      rw [List.getElem?_set] at h3
      simp at h3
    · rwa [List.getElem?_set_ne hj] at h3
/-- is it a long? -/
def aLg (o : Option aV) : Bool := match o with
  | some (.inr (.inl _)) => true
  | _ => false
/-- a store of a value that isn't long: what it breaks is forgotten -/
def aPut (L : aLs) (i : Nat) (v : aV) : aLs := match i with
  | 0 => L.set 0 (some v)
  | j + 1 => if aLg (L[j]?.join) then (L.set j none).set (j + 1) (some v) else L.set (j + 1) (some v)
def aPut2 (L : aLs) (i : Nat) (v : aV) : aLs := (aPut L i v).set (i + 1) none
theorem aPut_len (L : aLs) (i : Nat) (v : aV) : (aPut L i v).length = L.length := by
  unfold aPut
  split
  · simp
  · split <;> simp
theorem aPut_get {L : aLs} {i j : Nat} {v w : aV} (h : (aPut L i v)[j]? = some (some w)) : (j = i ∧ w = v) ∨ (j ≠ i ∧ L[j]? = some (some w) ∧ ¬ (j + 1 = i ∧ aLg (some w) = true)) := by
  unfold aPut at h
  split at h
  · by_cases hj : 0 = j
    · subst hj
      rw [List.getElem?_set] at h
      simp at h
      exact Or.inl ⟨rfl, h.2.symm⟩
    · rw [List.getElem?_set_ne hj] at h
      exact Or.inr ⟨fun q => hj q.symm, h, fun q => by omega⟩
  · rename_i i'
    split at h
    · rename_i hlg
      by_cases hj : i' + 1 = j
      · subst hj
        rw [List.getElem?_set] at h
        simp at h
        exact Or.inl ⟨rfl, h.2.symm⟩
      · rw [List.getElem?_set_ne hj] at h
        by_cases hj2 : i' = j
        · subst hj2
          rw [List.getElem?_set] at h
          simp at h
        · rw [List.getElem?_set_ne hj2] at h
          exact Or.inr ⟨fun q => hj q.symm, h, fun q => by omega⟩
    · rename_i hlg
      by_cases hj : i' + 1 = j
      · subst hj
        rw [List.getElem?_set] at h
        simp at h
        exact Or.inl ⟨rfl, h.2.symm⟩
      · rw [List.getElem?_set_ne hj] at h
        refine Or.inr ⟨fun q => hj q.symm, h, fun q => ?_⟩
        have : j = i' := by omega
        subst this
        rw [h] at hlg
        exact hlg q.2
theorem aLg_cat {ad : Nat → Nat → Nat} {w : aV} (h : (cV ad w).category = 2) : aLg (some w) = true := by
  rcases w with x | y | ⟨t, c⟩
  · exact absurd (show (1 : Nat) = 2 from h) (by decide)
  · rfl
  · exact absurd (show (1 : Nat) = 2 from h) (by decide)
theorem aPut_has {ad : Nat → Nat → Nat} {n i : Nat} {L : aLs} {ls' : Array Slot} {v : aV} (hl : L.length = n)
    (h : lv_has ls' n ((i, cV ad v) :: (aAs ad 0 L).filter (fun q => !(q.1 == i) && !(q.1 + 1 == i && q.2.category == 2)))) : aLoc ad n (aPut L i v) ls' := by
  refine ⟨(aPut_len L i v).trans hl, lv_mono h (fun q hq => ?_)⟩
  obtain ⟨j, w, h1, h2⟩ := aAs_mem.mp hq
  rw [Nat.zero_add] at h2
  rcases aPut_get h1 with ⟨rfl, rfl⟩ | ⟨g1, g2, g3⟩
  · exact List.mem_cons.mpr (Or.inl h2)
  · refine List.mem_cons.mpr (Or.inr (List.mem_filter.mpr ⟨aAs_mem.mpr ⟨j, w, g2, by rw [Nat.zero_add]; exact h2⟩, ?_⟩))
    subst h2
    have e1 : (j == i) = false := by simpa using g1
    have e2 : (j + 1 == i && (cV ad w).category == 2) = false := by
      by_cases c1 : j + 1 = i
      · by_cases c2 : (cV ad w).category = 2
        · exact absurd ⟨c1, aLg_cat c2⟩ g3
        · simp [c2]
      · simp [c1]
    simp only [e1, e2]
    rfl
theorem aPut2_has {ad : Nat → Nat → Nat} {n i : Nat} {L : aLs} {ls' : Array Slot} {v : aV} (hl : L.length = n)
    (h : lv_has ls' n ((i, cV ad v) :: (aAs ad 0 L).filter (fun q => !(q.1 == i) && (!(q.1 == i + 1) && !(q.1 + 1 == i && q.2.category == 2))))) : aLoc ad n (aPut2 L i v) ls' := by
  refine ⟨by unfold aPut2; rw [List.length_set]; exact (aPut_len L i v).trans hl, lv_mono h (fun q hq => ?_)⟩
  obtain ⟨j, w, h1, h2⟩ := aAs_mem.mp hq
  rw [Nat.zero_add] at h2
  unfold aPut2 at h1
  by_cases hj : i + 1 = j
  · subst hj
    rw [List.getElem?_set] at h1
    simp at h1
  · rw [List.getElem?_set_ne hj] at h1
    rcases aPut_get h1 with ⟨rfl, rfl⟩ | ⟨g1, g2, g3⟩
    · exact List.mem_cons.mpr (Or.inl h2)
    · refine List.mem_cons.mpr (Or.inr (List.mem_filter.mpr ⟨aAs_mem.mpr ⟨j, w, g2, by rw [Nat.zero_add]; exact h2⟩, ?_⟩))
      subst h2
      have e1 : (j == i) = false := by simpa using g1
      have e3 : (j == i + 1) = false := by simpa using fun q : j = i + 1 => hj q.symm
      have e2 : (j + 1 == i && (cV ad w).category == 2) = false := by
        by_cases c1 : j + 1 = i
        · by_cases c2 : (cV ad w).category = 2
          · exact absurd ⟨c1, aLg_cat c2⟩ g3
          · simp [c2]
        · simp [c1]
      simp only [e1, e2, e3]
      rfl
end
section
/-! ===== the abstract machine: steps ===== -/
/-- what a class's constant pool says: fields (class, place), ints, longs -/
abbrev aK : Type := List (Nat × Nat × Nat) × List (Nat × Int) × List (Nat × Int)
def aLk {α : Type} : List (Nat × α) → Nat → Option α
  | [], _ => none
  | q :: t, i => if q.1 = i then some q.2 else aLk t i
def aLn (ins : Instr) : Nat := match ins with
  | .bipush _ => 2 | .sipush _ => 3 | .ldc _ => 2 | .ldc_w _ => 3 | .ldc2_w _ => 3
  | .iload _ => 2 | .lload _ => 2 | .aload _ => 2 | .istore _ => 2 | .lstore _ => 2 | .astore _ => 2
  | .iinc _ _ => 3 | .getfield _ => 3 | .putfield _ => 3 | .goto _ => 3 | .ifCond _ _ => 3 | .if_icmp _ _ => 3
  | .invokevirtual _ => 3 | .invokestatic _ => 3 | _ => 1
abbrev aO : Type := Option (List Prop × Nat × aLs × List aV × aS)
def aLdI (L : aLs) (i pc : Nat) (st : List aV) (σ : aS) : aO := match L[i]? with
  | some (some (.inl x)) => some ([], pc, L, aI x :: st, σ)
  | _ => none
def aLdL (L : aLs) (i pc : Nat) (st : List aV) (σ : aS) : aO := match L[i]? with
  | some (some (.inr (.inl x))) => some ([], pc, L, aL x :: st, σ)
  | _ => none
def aLdR (L : aLs) (i pc : Nat) (st : List aV) (σ : aS) : aO := match L[i]? with
  | some (some (.inr (.inr q))) => some ([], pc, L, aR q.1 q.2 :: st, σ)
  | _ => none
def aStI (L : aLs) (i pc : Nat) (st : List aV) (σ : aS) : aO := match st with
  | .inl x :: r => if i < L.length then some ([], pc, aPut L i (aI x), r, σ) else none
  | _ => none
def aStL (L : aLs) (i pc : Nat) (st : List aV) (σ : aS) : aO := match st with
  | .inr (.inl x) :: r => if i + 1 < L.length then some ([], pc, aPut2 L i (aL x), r, σ) else none
  | _ => none
def aBin (P : Int → Int → List Prop) (f : Int → Int → Int) (L : aLs) (pc : Nat) (st : List aV) (σ : aS) : aO := match st with
  | .inl y :: .inl x :: r => some (P x y, pc, L, aI (f x y) :: r, σ)
  | _ => none
def aUn (f : Int → Int) (L : aLs) (pc : Nat) (st : List aV) (σ : aS) : aO := match st with
  | .inl x :: r => some ([], pc, L, aI (f x) :: r, σ)
  | _ => none
def aBinL (P : Int → Int → List Prop) (f : Int → Int → Int) (L : aLs) (pc : Nat) (st : List aV) (σ : aS) : aO := match st with
  | .inr (.inl y) :: .inr (.inl x) :: r => some (P x y, pc, L, aL (f x y) :: r, σ)
  | _ => none
def aGet (K : aK) (idx : Nat) (L : aLs) (pc : Nat) (st : List aV) (σ : aS) : aO := match st with
  | .inr (.inr q) :: r => match aLk K.1 idx with
    | some (ci, k) => if aCls q.1 = some ci ∧ q.1 < 32 then match (aFld q.1)[k]? with
        | some none => some ([q.2 < aCnt q.1], pc, L, aI (σ q.1 q.2 k) :: r, σ)
        | some (some f) => some ([q.2 < aCnt q.1], pc, L, aR f.1 (f.2.getD q.2) :: r, σ)
        | none => none
      else none
    | none => none
  | _ => none
def aSet (K : aK) (idx : Nat) (L : aLs) (pc : Nat) (st : List aV) (σ : aS) : aO := match st with
  | .inl x :: .inr (.inr q) :: r => match aLk K.1 idx with
    | some (ci, k) => if aCls q.1 = some ci ∧ q.1 < 32 then match (aFld q.1)[k]? with
        | some none => if aBoo q.1 k then some ([q.2 < aCnt q.1, x = 0 ∨ x = 1], pc, L, r, aUp σ q.1 q.2 k x) else some ([q.2 < aCnt q.1], pc, L, r, aUp σ q.1 q.2 k x)
        | _ => none
      else none
    | none => none
  | _ => none
def aAld (L : aLs) (pc : Nat) (st : List aV) (σ : aS) : aO := match st with
  | .inl i :: .inr (.inr q) :: r => if aCls q.1 = none ∧ q.1 < 32 then some ([q.2 < aCnt q.1, 0 ≤ i ∧ i < (aLen q.1 : Int)], pc, L, aI (σ q.1 q.2 i) :: r, σ) else none
  | _ => none
def aAst (L : aLs) (pc : Nat) (st : List aV) (σ : aS) : aO := match st with
  | .inl x :: .inl i :: .inr (.inr q) :: r => if aCls q.1 = none ∧ q.1 < 32 then some ([q.2 < aCnt q.1, 0 ≤ i ∧ i < (aLen q.1 : Int)], pc, L, r, aUp σ q.1 q.2 i x) else none
  | _ => none
def aDup (L : aLs) (pc : Nat) (st : List aV) (σ : aS) : aO := match st with
  | v :: r => if aLg (some v) then none else some ([], pc, L, v :: v :: r, σ)
  | _ => none
def aDup2 (L : aLs) (pc : Nat) (st : List aV) (σ : aS) : aO := match st with
  | v :: w :: r => if aLg (some v) || aLg (some w) then none else some ([], pc, L, v :: w :: v :: w :: r, σ)
  | _ => none
def aInc (i : Nat) (n : Int) (L : aLs) (pc : Nat) (st : List aV) (σ : aS) : aO := match L[i]? with
  | some (some (.inl x)) => some ([], pc, aPut L i (aI (x + n)), st, σ)
  | _ => none
abbrev aIr (x : Int) : Prop := -2147483648 ≤ x ∧ x < 2147483648
abbrev aLr (x : Int) : Prop := -9223372036854775808 ≤ x ∧ x < 9223372036854775808
def aStep (K : aK) (ins : Instr) (pc : Nat) (L : aLs) (st : List aV) (σ : aS) : aO := match ins with
  | .iconst n => some ([], pc + 1, L, aI n :: st, σ)
  | .bipush n => if -128 ≤ n ∧ n ≤ 127 then some ([], pc + 2, L, aI n :: st, σ) else none
  | .sipush n => if -32768 ≤ n ∧ n ≤ 32767 then some ([], pc + 3, L, aI n :: st, σ) else none
  | .lconst n => some ([], pc + 1, L, aL ((n : Nat) : Int) :: st, σ)
  | .ldc i => match aLk K.2.1 i with
    | some v => some ([], pc + 2, L, aI v :: st, σ)
    | none => none
  | .ldc_w i => match aLk K.2.1 i with
    | some v => some ([], pc + 3, L, aI v :: st, σ)
    | none => none
  | .ldc2_w i => match aLk K.2.2 i with
    | some v => some ([], pc + 3, L, aL v :: st, σ)
    | none => none
  | .iload_n k => aLdI L k (pc + 1) st σ
  | .iload i => aLdI L i (pc + 2) st σ
  | .lload_n k => aLdL L k (pc + 1) st σ
  | .lload i => aLdL L i (pc + 2) st σ
  | .aload_n k => aLdR L k (pc + 1) st σ
  | .aload i => aLdR L i (pc + 2) st σ
  | .istore_n k => aStI L k (pc + 1) st σ
  | .istore i => aStI L i (pc + 2) st σ
  | .lstore_n k => aStL L k (pc + 1) st σ
  | .lstore i => aStL L i (pc + 2) st σ
  | .iinc i n => aInc i n L (pc + 3) st σ
  | .iadd => aBin (fun _ _ => []) (fun x y => x + y) L (pc + 1) st σ
  | .isub => aBin (fun _ _ => []) (fun x y => x - y) L (pc + 1) st σ
  | .imul => aBin (fun _ _ => []) (fun x y => x * y) L (pc + 1) st σ
  | .idiv => aBin (fun x y => [aIr x, 0 < y ∧ y < 2147483648]) (fun x y => x.tdiv y) L (pc + 1) st σ
  | .irem => aBin (fun x y => [aIr x, 0 < y ∧ y < 2147483648]) (fun x y => x.tmod y) L (pc + 1) st σ
  | .iand => aBin (fun _ _ => []) aAnd L (pc + 1) st σ
  | .ior => aBin (fun _ _ => []) aOr L (pc + 1) st σ
  | .ixor => aBin (fun _ _ => []) aXor L (pc + 1) st σ
  | .ishl => aBin (fun _ y => [0 ≤ y ∧ y < 32]) (fun x y => x * 2 ^ y.toNat) L (pc + 1) st σ
  | .ishr => aBin (fun x y => [0 ≤ y ∧ y < 32, aIr x]) (fun x y => x / 2 ^ y.toNat) L (pc + 1) st σ
  | .iushr => aBin (fun x y => [0 ≤ y ∧ y < 32, 0 ≤ x ∧ x < 2147483648]) (fun x y => x / 2 ^ y.toNat) L (pc + 1) st σ
  | .ineg => aUn (fun x => -x) L (pc + 1) st σ
  | .i2b => aUn (fun x => x.bmod 256) L (pc + 1) st σ
  | .i2s => aUn (fun x => x.bmod 65536) L (pc + 1) st σ
  | .i2l => match st with
    | .inl x :: r => some ([aIr x], pc + 1, L, aL x :: r, σ)
    | _ => none
  | .ladd => aBinL (fun _ _ => []) (fun x y => x + y) L (pc + 1) st σ
  | .lmul => aBinL (fun _ _ => []) (fun x y => x * y) L (pc + 1) st σ
  | .ldiv => aBinL (fun x y => [aLr x, 0 < y ∧ y < 9223372036854775808]) (fun x y => x.tdiv y) L (pc + 1) st σ
  | .lrem => aBinL (fun x y => [aLr x, 0 < y ∧ y < 9223372036854775808]) (fun x y => x.tmod y) L (pc + 1) st σ
  | .lcmp => match st with
    | .inr (.inl y) :: .inr (.inl x) :: r => some ([aLr x, aLr y], pc + 1, L, aI (if y < x then 1 else if x = y then 0 else -1) :: r, σ)
    | _ => none
  | .dup => aDup L (pc + 1) st σ
  | .dup2 => aDup2 L (pc + 1) st σ
  | .getfield i => aGet K i L (pc + 3) st σ
  | .putfield i => aSet K i L (pc + 3) st σ
  | .iaload => aAld L (pc + 1) st σ
  | .iastore => aAst L (pc + 1) st σ
  | .goto o => if 0 ≤ (pc : Int) + o then some ([], ((pc : Int) + o).toNat, L, st, σ) else none
  | _ => none
/-- a stretch of code without branches -/
def aRun (K : aK) : List (Nat × Instr) → Nat → aLs → List aV → aS → aO
  | [], pc, L, st, σ => some ([], pc, L, st, σ)
  | q :: qs, pc, L, st, σ => if q.1 = pc then match aStep K q.2 pc L st σ with
      | some (cs, pc', L', st', σ') => match aRun K qs pc' L' st' σ' with
        | some (cs', r) => some (cs ++ cs', r)
        | none => none
      | none => none
    else none
def aAll : List Prop → Prop
  | [] => True
  | [p] => p
  | p :: q :: r => p ∧ aAll (q :: r)
theorem aAll_mem : ∀ {l : List Prop}, aAll l → ∀ p ∈ l, p := by
  intro l
  induction l with
  | nil => intro _ p hp; cases hp
  | cons a t ih =>
    intro h p hp
    cases t with
    | nil =>
      rcases List.mem_cons.mp hp with rfl | hp
      · exact h
      · cases hp
    | cons b t =>
      rcases List.mem_cons.mp hp with rfl | hp
      · exact h.1
      · exact ih h.2 p hp
end
section
/-! ===== the abstract machine stands for the real one ===== -/
def aRm (d : Nat) : Room := { frames := d, cells := 0, slots := 0, locals := 38 * d }
/-- a method: its name, its code, its locals, what it returns, its class's constant pool -/
abbrev aMt : Type := MethodName × ByteArray × Nat × Option FieldType × aK
def aWs (M : aMt) : List Cond := Cond.code M.1 M.2.1 M.2.2.1 M.2.2.2.1 :: aTbl
/-- calls of a nest mate's private methods -/
def aNq : List (String × Nat × MethodName × String) := [("OnlyInDisguise$Shelves", 30, ⟨"OnlyInDisguise", "isShelf", "(I)Z"⟩, "OnlyInDisguise"), ("OnlyInDisguise$Text", 28, ⟨"OnlyInDisguise", "isMate", "(I)Z"⟩, "OnlyInDisguise"), ("OnlyInDisguise$Text", 62, ⟨"OnlyInDisguise", "isOffice", "(I)Z"⟩, "OnlyInDisguise"), ("OnlyInDisguise$Cabinet", 46, ⟨"OnlyInDisguise", "isOffice", "(I)Z"⟩, "OnlyInDisguise")]
def aNe (U : State) : Prop := ∀ q ∈ aNq, va_Nw (.methodLinkNest q.1 q.2.1 q.2.2.1 q.2.2.2) U
def aQ (ad : Nat → Nat → Nat) (cA : ClassId) (D : va_G) (Q : Option aV → aS → Prop) : Array Value → State → Outcome → State → Prop := fun _ st oc t => (∃ (r : Option aV) (σ' : aS), oc = .returned (r.map (cV ad)) ∧ Q r σ' ∧ va_P D aCl (aWo ad cA σ') t.heap) ∧ va_F (aA ad) st t
def aAt (M : aMt) (p : Program) (s : State) (m : MethodId) (args : Array Value) (meth : Method) (c : Code) (D : va_G) (cA : ClassId) : Prop :=
  p.tables.exec = Jvm.exec ∧ c.code = M.2.1 ∧ c.maxLocals = M.2.2.1 ∧ meth.sig.returnType = M.2.2.2.1 ∧ meth.locks = false ∧ s.vm.findClass M.1.cls = some m.cls ∧ (∀ w ∈ aWs M, w.before args s = true) ∧ va_K D aCl [(cA, .int)] s ∧ aNe s
def aIs (ad : Nat → Nat → Nat) (cA : ClassId) (D : va_G) (s : State) (σ : aS) (H : Heap) (locs : List Loc) : Prop := va_P D aCl (aWo ad cA σ) H ∧ va_D (aA ad) (aWo ad cA σ) ∧ va_S (aA ad) s.heap H locs
/-- from here the method comes to its end, with Q -/
def AW (l : Launch) (d : Nat) (M : aMt) (Q : Option aV → aS → Prop) (pc : Nat) (L : aLs) (st : List aV) (σ : aS) : Prop :=
  ∀ (p : Program) (e : Env) (s : State) (m : MethodId) (args : Array Value) (below : List Frame) (meth : Method) (c : Code) (D : va_G) (cA : ClassId) (ad : Nat → Nat → Nat) (H : Heap) (locs : List Loc) (ls : Array Slot),
    aAt M p s m args meth c D cA → aIs ad cA D s σ H locs → aLoc ad M.2.2.1 L ls →
    W p l e (aRm d) s m args below meth c H locs 0 0 (MQ below (aQ ad cA D Q) args s 0 0 (aA ad)) (F0 m pc ls (st.map (cV ad)))
/-- what a method needs, by the store -/
def aPc (ad : Nat → Nat → Nat) (cA : ClassId) (D : va_G) (as : List aV) (σ : aS) : Array Value → State → Prop := va_Pc (as.map (cV ad)) (fun U => va_P D aCl (aWo ad cA σ) U.heap ∧ va_K D aCl [(cA, .int)] U ∧ va_D (aA ad) (aWo ad cA σ) ∧ aNe U)
/-- a method's contract, by stores -/
def AM (l : Launch) (d : Nat) (M : aMt) (as : List aV) (σ : aS) (Q : Option aV → aS → Prop) : Prop :=
  ∀ (D : va_G) (cA : ClassId) (ad : Nat → Nat → Nat), Met l M.1 (aWs M) (aRm d) (aPc ad cA D as σ) (aQ ad cA D Q) 0 0 (aA ad)
/-- what a constant pool's table says is in the words -/
def aKok (own : String) (K : aK) : Prop :=
  (∀ q ∈ K.1, ∃ r : vw_C, aCl[q.2.1]? = some r ∧ q.2.2 < r.2.2 ∧ Cond.fieldLink own q.1 r.1 (r.2.1 q.2.2).2.1 (r.2.1 q.2.2).2.2.1 ∈ aTbl ∧ (r.2.1 q.2.2).1 = r.1) ∧
  (∀ q ∈ K.2.1, Cond.constant own q.1 (Int32.ofInt q.2) ∈ aTbl) ∧ (∀ q ∈ K.2.2, Cond.constantLong own q.1 (Int64.ofInt q.2) ∈ aTbl)
theorem aLk_mem {α : Type} {i : Nat} {v : α} : ∀ {t : List (Nat × α)}, aLk t i = some v → (i, v) ∈ t := by
  intro t
  induction t with
  | nil => intro h; cases h
  | cons q t ih =>
    intro h
    unfold aLk at h
    split at h
    · rename_i hq
      cases h
      subst hq
      exact List.mem_cons_self
    · exact List.mem_cons_of_mem _ (ih h)
/-- the six classes: their field words, types, names -/
theorem aCl_ok : ∀ (ci : Nat) (r : vw_C), aCl[ci]? = some r → (∀ w ∈ u_ws r.1 r.2.1 r.2.2, w ∈ aTbl) ∧ ∃ ty : Nat → FieldType, (∀ k, k < r.2.2 → parseFieldDescriptor (r.2.1 k).2.2.1 = some (ty k)) ∧ (∀ a, a < r.2.2 → ∀ b, b < r.2.2 → a ≠ b → (r.2.1 a).2.1 ≠ (r.2.1 b).2.1) := by
  intro ci r h
  match ci, h with
  | 0, h => cases h; exact ⟨iaX0, tyX0, tyX0_ok, nmX0⟩
  | 1, h => cases h; exact ⟨iaX1, tyX1, tyX1_ok, nmX1⟩
  | 2, h => cases h; exact ⟨iaX2, tyX2, tyX2_ok, nmX2⟩
  | 3, h => cases h; exact ⟨iaX4, tyX4, tyX4_ok, nmX4⟩
  | 4, h => cases h; exact ⟨iaX6, tyX6, tyX6_ok, nmX6⟩
  | 5, h => cases h; exact ⟨iaX7, tyX7, tyX7_ok, nmX7⟩
  | k + 6, h => simp [aCl] at h
def aFty (t k : Nat) : FieldType := if aBoo t k then .boolean else .int
def aNum (t k : Nat) : Bool := match (aFld t)[k]? with
  | some none => true
  | _ => false
theorem aNum_of {t k : Nat} (h : (aFld t)[k]? = some none) : aNum t k = true := by
  unfold aNum
  rw [h]
/-- the kinds of places: how long the list of fields is, of what type the fields are that hold numbers -/
theorem aFld_ok : ∀ t : Nat, t < 32 → ∀ ci : Nat, aCls t = some ci → ∀ r : vw_C, aCl[ci]? = some r → (aFld t).length = r.2.2 ∧ ∀ k : Nat, (aFld t)[k]? = some none → (r.2.1 k).2.2.2 = false ∧ parseFieldDescriptor (r.2.1 k).2.2.1 = some (aFty t k) := by
  intro t ht ci hci r hr
  have key1 : ∀ t : Nat, t < 32 → ∀ ci : Nat, ci < 6 → aCls t = some ci → (aFld t).length = (aCl.getD ci (RX0, TX0, 11)).2.2 := by decide +kernel
  have key2 : ∀ t : Nat, t < 32 → ∀ ci : Nat, ci < 6 → ∀ k : Nat, k < 20 → (aCls t = some ci ∧ aNum t k = true) → ((aCl.getD ci (RX0, TX0, 11)).2.1 k).2.2.2 = false := by decide +kernel
  have key3 : ∀ k : Nat, k < 20 → aNum t k = true → parseFieldDescriptor (r.2.1 k).2.2.1 = some (aFty t k) := by
    have htag : ∀ t : Nat, t < 32 → ∀ ci : Nat, ci < 6 → aCls t = some ci → t = [1, 16, 19, 9, 0, 21].getD ci 0 := by decide +kernel
    have ht2 := htag t ht ci ((List.getElem?_eq_some_iff.mp hr).1) hci
    clear ht hci
    match ci, hr, ht2 with
    | 0, hr, ht2 => cases hr; subst ht2; exact (by decide +kernel : ∀ k : Nat, k < 20 → aNum 1 k = true → parseFieldDescriptor (TX0 k).2.2.1 = some (aFty 1 k))
    | 1, hr, ht2 => cases hr; subst ht2; exact (by decide +kernel : ∀ k : Nat, k < 20 → aNum 16 k = true → parseFieldDescriptor (TX1 k).2.2.1 = some (aFty 16 k))
    | 2, hr, ht2 => cases hr; subst ht2; exact (by decide +kernel : ∀ k : Nat, k < 20 → aNum 19 k = true → parseFieldDescriptor (TX2 k).2.2.1 = some (aFty 19 k))
    | 3, hr, ht2 => cases hr; subst ht2; exact (by decide +kernel : ∀ k : Nat, k < 20 → aNum 9 k = true → parseFieldDescriptor (TX4 k).2.2.1 = some (aFty 9 k))
    | 4, hr, ht2 => cases hr; subst ht2; exact (by decide +kernel : ∀ k : Nat, k < 20 → aNum 0 k = true → parseFieldDescriptor (TX6 k).2.2.1 = some (aFty 0 k))
    | 5, hr, ht2 => cases hr; subst ht2; exact (by decide +kernel : ∀ k : Nat, k < 20 → aNum 21 k = true → parseFieldDescriptor (TX7 k).2.2.1 = some (aFty 21 k))
    | k + 6, hr, _ => simp [aCl] at hr
  have hc6 : ci < 6 := (List.getElem?_eq_some_iff.mp hr).1
  have hl : ∀ t : Nat, t < 32 → (aFld t).length < 20 := by decide +kernel
  have e : aCl.getD ci (RX0, TX0, 11) = r := by rw [List.getD_eq_getElem?_getD, hr]; rfl
  have h1 := key1 t ht ci hc6 hci
  have h2 := key2 t ht ci hc6
  rw [e] at h1 h2
  refine ⟨h1, fun k hk => ?_⟩
  have g1 := (List.getElem?_eq_some_iff.mp hk).1
  have g2 := hl t ht
  exact ⟨h2 k (by omega) ⟨hci, aNum_of hk⟩, key3 k (by omega) (aNum_of hk)⟩
theorem aNe_warm {s U : State} (hW : s.WarmedH U.vm) (h : aNe s) : aNe U := fun q hq => va_Nw.warmM hW (h q hq)
theorem aNe_same {s U : State} (hv : s.vm = U.vm) (h : aNe s) : aNe U := fun q hq => va_Nw.same rfl hv (h q hq)
theorem cV_cat {ad : Nat → Nat → Nat} {v : aV} (h : aLg (some v) = false) : (cV ad v).category = 1 := by
  rcases v with x | y | ⟨t, c⟩
  · rfl
  · cases h
  · rfl
section Sound
variable {l : Launch} {d : Nat} {M : aMt} {Q : Option aV → aS → Prop} {pc : Nat} {L : aLs} {st : List aV} {σ : aS}
set_option maxHeartbeats 4000000 in
theorem aw_1 {ins : Instr} {Cs : List Prop} {pc' : Nat} {L' : aLs} {st' : List aV} {σ' : aS} (hk : aKok M.1.cls M.2.2.2.2) (hd : decode M.2.1 pc = .ok (ins, aLn ins)) (hs : aStep M.2.2.2.2 ins pc L st σ = some (Cs, pc', L', st', σ')) (hC : ∀ P ∈ Cs, P) (k : AW l d M Q pc' L' st' σ') : AW l d M Q pc L st σ := by
  intro p e s m args below meth c D cA ad H locs ls C0 C1 hl
  obtain ⟨hx, hb, hml, hr, hlk, hown, hts, hK, hN⟩ := id C0
  obtain ⟨hP, hD, hS⟩ := id C1
  have hws : ∀ w ∈ aTbl, w.before args s = true := fun w hw => hts w (List.mem_cons_of_mem _ hw)
  have K := fun H locs ls (C1 : aIs ad cA D s σ' H locs) hl => k p e s m args below meth c D cA ad H locs ls C0 C1 hl
  clear k
  cases ins with
  | iconst n => cases hs; exact lv_iconst hx hb hd rfl (K H locs ls C1 hl)
  | bipush n =>
    simp only [aStep] at hs
    split at hs
    · rename_i hn; cases hs; exact lv_bipush hx hb hd (aIn_byte hn) (K H locs ls C1 hl)
    · cases hs
  | sipush n =>
    simp only [aStep] at hs
    split at hs
    · rename_i hn; cases hs; exact lv_sipush hx hb hd (aIn_short hn) (K H locs ls C1 hl)
    · cases hs
  | lconst n => cases hs; exact lv_lconst hx hb hd (Int64.ofInt_eq_ofNat).symm (K H locs ls C1 hl)
  | ldc i =>
    simp only [aStep] at hs
    split at hs
    · rename_i v hv; cases hs; exact lv_ldc hx hb hown (hws _ (hk.2.1 _ (aLk_mem hv))) hd (K H locs ls C1 hl)
    · cases hs
  | ldc_w i =>
    simp only [aStep] at hs
    split at hs
    · rename_i v hv; cases hs; exact lv_ldcw hx hb hown (hws _ (hk.2.1 _ (aLk_mem hv))) hd (K H locs ls C1 hl)
    · cases hs
  | ldc2_w i =>
    simp only [aStep] at hs
    split at hs
    · rename_i v hv; cases hs; exact lv_ldc2 hx hb hown (hws _ (hk.2.2 _ (aLk_mem hv))) hd (K H locs ls C1 hl)
    · cases hs
  | iload_n i =>
    simp only [aStep, aLdI] at hs
    split at hs
    · rename_i x hx2; cases hs; exact lv_iload_n hx hb hd rfl (aLoc_at hl hx2) (K H locs ls C1 hl)
    · cases hs
  | iload i =>
    simp only [aStep, aLdI] at hs
    split at hs
    · rename_i x hx2; cases hs; exact lv_iload hx hb hd (aLoc_at hl hx2) (K H locs ls C1 hl)
    · cases hs
  | lload_n i =>
    simp only [aStep, aLdL] at hs
    split at hs
    · rename_i x hx2; cases hs; exact lv_lload_n hx hb hd rfl (aLoc_at hl hx2) (K H locs ls C1 hl)
    · cases hs
  | lload i =>
    simp only [aStep, aLdL] at hs
    split at hs
    · rename_i x hx2; cases hs; exact lv_lload hx hb hd (aLoc_at hl hx2) (K H locs ls C1 hl)
    · cases hs
  | aload_n i =>
    simp only [aStep, aLdR] at hs
    split at hs
    · rename_i x hx2; cases hs; exact lv_aload_n hx hb hd rfl (aLoc_at hl hx2) (K H locs ls C1 hl)
    · cases hs
  | aload i =>
    simp only [aStep, aLdR] at hs
    split at hs
    · rename_i x hx2; cases hs; exact lv_aload hx hb hd (aLoc_at hl hx2) (K H locs ls C1 hl)
    · cases hs
  | istore_n i =>
    simp only [aStep, aStI] at hs
    split at hs
    · split at hs
      · rename_i hi; cases hs
        exact lv_istore_n hx hb hd rfl hl.2 (by rw [← hl.1]; exact hi) rfl (fun ls' h' => K H locs ls' C1 (aPut_has hl.1 h'))
      · cases hs
    · cases hs
  | istore i =>
    simp only [aStep, aStI] at hs
    split at hs
    · split at hs
      · rename_i hi; cases hs
        exact lv_istore hx hb hd hl.2 (by rw [← hl.1]; exact hi) rfl (fun ls' h' => K H locs ls' C1 (aPut_has hl.1 h'))
      · cases hs
    · cases hs
  | lstore_n i =>
    simp only [aStep, aStL] at hs
    split at hs
    · split at hs
      · rename_i hi; cases hs
        exact lv_lstore_n hx hb hd rfl hl.2 (by rw [← hl.1]; exact hi) rfl (fun ls' h' => K H locs ls' C1 (aPut2_has hl.1 h'))
      · cases hs
    · cases hs
  | lstore i =>
    simp only [aStep, aStL] at hs
    split at hs
    · split at hs
      · rename_i hi; cases hs
        exact lv_lstore hx hb hd hl.2 (by rw [← hl.1]; exact hi) rfl (fun ls' h' => K H locs ls' C1 (aPut2_has hl.1 h'))
      · cases hs
    · cases hs
  | iinc i n =>
    simp only [aStep, aInc] at hs
    split at hs
    · rename_i x hx2; cases hs
      obtain ⟨kk, hkk⟩ := List.getElem?_of_mem (aAs_mem (ad := ad) (i := 0).mpr ⟨i, aI x, hx2, rfl⟩)
      rw [Nat.zero_add] at hkk
      exact lv_iinc (v := Int32.ofInt (x + n)) hx hb hd hl.2 hkk (Int32.ofInt_add x n).symm (by rw [← hl.1]; exact (List.getElem?_eq_some_iff.mp hx2).1) rfl (fun ls' h' => K H locs ls' C1 (aPut_has hl.1 h'))
    · cases hs
  | iadd =>
    simp only [aStep, aBin] at hs
    split at hs
    · rename_i y x r; cases hs; refine lv_iadd hx hb hd ?_; rw [← Int32.ofInt_add]; exact K H locs ls C1 hl
    · cases hs
  | isub =>
    simp only [aStep, aBin] at hs
    split at hs
    · rename_i y x r; cases hs; refine lv_isub hx hb hd ?_; rw [← Int32.ofInt_sub]; exact K H locs ls C1 hl
    · cases hs
  | imul =>
    simp only [aStep, aBin] at hs
    split at hs
    · rename_i y x r; cases hs; refine lv_imul hx hb hd ?_; rw [← Int32.ofInt_mul]; exact K H locs ls C1 hl
    · cases hs
  | idiv =>
    simp only [aStep, aBin] at hs
    split at hs
    · rename_i y x r; cases hs
      have h1 : aIr x := hC _ (by simp)
      have h2 : 0 < y ∧ y < 2147483648 := hC _ (by simp)
      refine lv_idiv hx hb hd (aIn_ne0 h2) ?_; rw [← aIn_div h1 h2]; exact K H locs ls C1 hl
    · cases hs
  | irem =>
    simp only [aStep, aBin] at hs
    split at hs
    · rename_i y x r; cases hs
      have h1 : aIr x := hC _ (by simp)
      have h2 : 0 < y ∧ y < 2147483648 := hC _ (by simp)
      refine lv_irem hx hb hd (aIn_ne0 h2) ?_; rw [← aIn_rem h1 h2]; exact K H locs ls C1 hl
    · cases hs
  | iand =>
    simp only [aStep, aBin] at hs
    split at hs
    · rename_i y x r; cases hs; refine lv_iand hx hb hd ?_; rw [← aAnd_eq]; exact K H locs ls C1 hl
    · cases hs
  | ior =>
    simp only [aStep, aBin] at hs
    split at hs
    · rename_i y x r; cases hs; refine lv_ior hx hb hd ?_; rw [← aOr_eq]; exact K H locs ls C1 hl
    · cases hs
  | ixor =>
    simp only [aStep, aBin] at hs
    split at hs
    · rename_i y x r; cases hs; refine lv_ixor hx hb hd ?_; rw [← aXor_eq]; exact K H locs ls C1 hl
    · cases hs
  | ishl =>
    simp only [aStep, aBin] at hs
    split at hs
    · rename_i y x r; cases hs
      have h2 : 0 ≤ y ∧ y < 32 := hC _ (by simp)
      refine lv_ishl hx hb hd ?_; rw [← aIn_shl h2]; exact K H locs ls C1 hl
    · cases hs
  | ishr =>
    simp only [aStep, aBin] at hs
    split at hs
    · rename_i y x r; cases hs
      have h2 : 0 ≤ y ∧ y < 32 := hC _ (by simp)
      have h1 : aIr x := hC _ (by simp)
      refine lv_ishr hx hb hd ?_; rw [← aIn_shr h2 h1]; exact K H locs ls C1 hl
    · cases hs
  | iushr =>
    simp only [aStep, aBin] at hs
    split at hs
    · rename_i y x r; cases hs
      have h2 : 0 ≤ y ∧ y < 32 := hC _ (by simp)
      have h1 : 0 ≤ x ∧ x < 2147483648 := hC _ (by simp)
      exact lv_iushr hx hb hd (aIn_ushr h2 h1) (K H locs ls C1 hl)
    · cases hs
  | ineg =>
    simp only [aStep, aUn] at hs
    split at hs
    · rename_i x r; cases hs; refine lv_ineg hx hb hd ?_; rw [← Int32.ofInt_neg]; exact K H locs ls C1 hl
    · cases hs
  | i2b =>
    simp only [aStep, aUn] at hs
    split at hs
    · rename_i x r; cases hs; exact lv_i2b hx hb hd (aIn_i2b x) (K H locs ls C1 hl)
    · cases hs
  | i2s =>
    simp only [aStep, aUn] at hs
    split at hs
    · rename_i x r; cases hs; exact lv_i2s hx hb hd (aIn_i2s x) (K H locs ls C1 hl)
    · cases hs
  | i2l =>
    simp only [aStep] at hs
    split at hs
    · rename_i x r; cases hs
      exact lv_i2l hx hb hd (aIn_i2l (hC _ (by simp))) (K H locs ls C1 hl)
    · cases hs
  | ladd =>
    simp only [aStep, aBinL] at hs
    split at hs
    · rename_i y x r; cases hs; refine lv_ladd hx hb hd ?_; rw [← Int64.ofInt_add]; exact K H locs ls C1 hl
    · cases hs
  | lmul =>
    simp only [aStep, aBinL] at hs
    split at hs
    · rename_i y x r; cases hs; refine lv_lmul hx hb hd ?_; rw [← Int64.ofInt_mul]; exact K H locs ls C1 hl
    · cases hs
  | ldiv =>
    simp only [aStep, aBinL] at hs
    split at hs
    · rename_i y x r; cases hs
      have h1 : aLr x := hC _ (by simp)
      have h2 : 0 < y ∧ y < 9223372036854775808 := hC _ (by simp)
      refine lv_ldiv hx hb hd (aIn_ne064 h2) ?_; rw [← aIn_div64 h1 h2]; exact K H locs ls C1 hl
    · cases hs
  | lrem =>
    simp only [aStep, aBinL] at hs
    split at hs
    · rename_i y x r; cases hs
      have h1 : aLr x := hC _ (by simp)
      have h2 : 0 < y ∧ y < 9223372036854775808 := hC _ (by simp)
      refine lv_lrem hx hb hd (aIn_ne064 h2) ?_; rw [← aIn_rem64 h1 h2]; exact K H locs ls C1 hl
    · cases hs
  | lcmp =>
    simp only [aStep] at hs
    split at hs
    · rename_i y x r; cases hs
      have h1 : aLr x := hC _ (by simp)
      have h2 : aLr y := hC _ (by simp)
      refine W.lcmp hx hb hd ?_; rw [aIn_lcmp h1 h2]; exact K H locs ls C1 hl
    · cases hs
  | dup =>
    simp only [aStep, aDup] at hs
    split at hs
    · split at hs
      · cases hs
      · rename_i v r hv; cases hs
        exact lv_dup hx hb hd (cV_cat (by simpa using hv)) (K H locs ls C1 hl)
    · cases hs
  | dup2 =>
    simp only [aStep, aDup2] at hs
    split at hs
    · split at hs
      · cases hs
      · rename_i v w r hv; cases hs
        have hv2 : aLg (some v) = false ∧ aLg (some w) = false := by simpa using hv
        exact lv_dup2_11 hx hb hd (cV_cat hv2.1) (cV_cat hv2.2) (K H locs ls C1 hl)
    · cases hs
  | getfield i =>
    simp only [aStep, aGet] at hs
    split at hs
    · rename_i q r
      split at hs
      · rename_i ci kf hq
        split at hs
        · rename_i ht
          obtain ⟨ht1, ht2⟩ := ht
          obtain ⟨rc, hc1, hc2, hc3, hc4⟩ := hk.1 _ (aLk_mem hq)
          obtain ⟨t, cc⟩ := q
          dsimp only at ht1 ht2 hs hc1 hc2 hc3 hc4
          obtain ⟨o1, -⟩ := aCl_ok ci rc hc1
          split at hs
          · rename_i hf; cases hs
            obtain ⟨q0, hq0⟩ := aPl_at (c := cc) ht2 (hC _ (by simp))
            have e1 := aWo_at (ad := ad) (cA := cA) (σ := σ) hq0
            unfold aCell at e1
            rw [ht1] at e1
            exact va_get (D := D) hx hb hws o1 hown hK hP q0 e1 hc1 kf hc2 (hws _ hc3) (fun x h => by rw [← hc4]; exact h) (v := .int (Int32.ofInt (σ t cc kf))) (by rw [List.getElem?_mapIdx, hf]; rfl) hd (K H locs ls C1 hl)
          · rename_i f hf; cases hs
            obtain ⟨q0, hq0⟩ := aPl_at (c := cc) ht2 (hC _ (by simp))
            have e1 := aWo_at (ad := ad) (cA := cA) (σ := σ) hq0
            unfold aCell at e1
            rw [ht1] at e1
            exact va_get (D := D) hx hb hws o1 hown hK hP q0 e1 hc1 kf hc2 (hws _ hc3) (fun x h => by rw [← hc4]; exact h) (v := .ref (ad f.1 (f.2.getD cc))) (by rw [List.getElem?_mapIdx, hf]; rfl) hd (K H locs ls C1 hl)
          · cases hs
        · cases hs
      · cases hs
    · cases hs
  | putfield i =>
    simp only [aStep, aSet] at hs
    split at hs
    · rename_i x q r
      split at hs
      · rename_i ci kf hq
        split at hs
        · rename_i ht
          obtain ⟨ht1, ht2⟩ := ht
          obtain ⟨rc, hc1, hc2, hc3, hc4⟩ := hk.1 _ (aLk_mem hq)
          obtain ⟨t, cc⟩ := q
          dsimp only at ht1 ht2 hs hc1 hc2 hc3 hc4
          obtain ⟨o1, ty, o2, o3⟩ := aCl_ok ci rc hc1
          obtain ⟨f1, f2⟩ := aFld_ok t ht2 ci ht1 rc hc1
          split at hs
          · rename_i hf
            obtain ⟨f3, f4⟩ := f2 kf hf
            have hcc : cc < aCnt t := by
              split at hs <;> (cases hs; exact hC _ (by simp))
            have hnar : narrow (aFty t kf) (.int (Int32.ofInt x)) = .int (Int32.ofInt x) ∧ fits (aFty t kf) (.int (Int32.ofInt x)) = true := by
              split at hs
              · rename_i hbo; cases hs
                rw [show aFty t kf = .boolean from by unfold aFty; rw [if_pos hbo]]
                have hx01 : x = 0 ∨ x = 1 := hC _ (by simp)
                rcases hx01 with rfl | rfl <;> decide +kernel
              · rename_i hbo; cases hs
                rw [show aFty t kf = .int from by unfold aFty; rw [if_neg hbo]]
                exact ⟨rfl, rfl⟩
            obtain ⟨q0, hq0⟩ := aPl_at ht2 hcc
            have e1 := aWo_at (ad := ad) (cA := cA) (σ := σ) hq0
            unfold aCell at e1
            rw [ht1] at e1
            have hsame : ∀ y, s.fieldFound? (rc.2.1 kf).1 (rc.2.1 kf).2.1 (rc.2.1 kf).2.2.1 = some y → s.fieldFound? rc.1 (rc.2.1 kf).2.1 (rc.2.1 kf).2.2.1 = some y := fun y h => by rw [← hc4]; exact h
            have hcell := aCell_fld (ad := ad) (cA := cA) (σ := σ) (c := cc) (x := x) ht1 hf
            have hset := aWo_set (e := .inr (ci, ((aFld t).mapIdx (fun j f => aFv ad σ t cc j f)).set kf (.int (Int32.ofInt x)))) (σ := σ) (σ' := aUp σ t cc kf x) hq0 hcell (fun t' c' h => aCell_off t' c' h)
            have hgo : ∀ (H1 : Heap) (locs1 : List Loc), va_P D aCl ((aWo ad cA σ).set q0 (ad t cc, .inr (ci, ((aFld t).mapIdx (fun j f => aFv ad σ t cc j f)).set kf (.int (Int32.ofInt x))))) H1 → va_D (aA ad) ((aWo ad cA σ).set q0 (ad t cc, .inr (ci, ((aFld t).mapIdx (fun j f => aFv ad σ t cc j f)).set kf (.int (Int32.ofInt x))))) → va_S (aA ad) s.heap H1 locs1 → aIs ad cA D s (aUp σ t cc kf x) H1 locs1 := fun H1 locs1 g1 g2 g3 => by
              rw [hset] at g1 g2
              exact ⟨g1, g2, g3⟩
            split at hs
            · cases hs
              exact va_put (D := D) hx hb hws o1 ty o2 o3 hown hK hP hD hS q0 e1 hc1 kf hc2 (hws _ hc3) hsame f3 f4 hnar.1 hnar.2 (by rw [List.length_mapIdx, f1]; exact hc2) hd (fun H1 locs1 g1 g2 g3 => K H1 locs1 ls (hgo H1 locs1 g1 g2 g3) hl)
            · cases hs
              exact va_put (D := D) hx hb hws o1 ty o2 o3 hown hK hP hD hS q0 e1 hc1 kf hc2 (hws _ hc3) hsame f3 f4 hnar.1 hnar.2 (by rw [List.length_mapIdx, f1]; exact hc2) hd (fun H1 locs1 g1 g2 g3 => K H1 locs1 ls (hgo H1 locs1 g1 g2 g3) hl)
          · cases hs
        · cases hs
      · cases hs
    · cases hs
  | iaload =>
    simp only [aStep, aAld] at hs
    split at hs
    · rename_i i q r
      split at hs
      · rename_i ht
        obtain ⟨t, cc⟩ := q
        obtain ⟨ht1, ht2⟩ := ht
        cases hs
        have hcc : cc < aCnt t := hC _ (by simp)
        have hi : 0 ≤ i ∧ i < (aLen t : Int) := hC _ (by simp)
        obtain ⟨q0, hq0⟩ := aPl_at ht2 hcc
        have e1 := aWo_at (ad := ad) (cA := cA) (σ := σ) hq0
        unfold aCell at e1
        rw [ht1] at e1
        have hln := aLen_ok t
        refine va_iald (D := D) hx hb hK hP q0 0 e1 rfl (aIn_vp hln hi) hd ?_
        have e2 : (Int32.ofInt i).toNatClampNeg = i.toNat := aIn_nat (by omega)
        have e3 : ((i.toNat : Nat) : Int) = i := by omega
        have e4 : Int32.ofInt (σ t cc ((Int32.ofInt i).toNatClampNeg : Nat)) = Int32.ofInt (σ t cc i) := by rw [e2, e3]
        dsimp only
        rw [e4]
        exact K H locs ls C1 hl
      · cases hs
    · cases hs
  | iastore =>
    simp only [aStep, aAst] at hs
    split at hs
    · rename_i x i q r
      split at hs
      · rename_i ht
        obtain ⟨t, cc⟩ := q
        obtain ⟨ht1, ht2⟩ := ht
        cases hs
        have hcc : cc < aCnt t := hC _ (by simp)
        have hi : 0 ≤ i ∧ i < (aLen t : Int) := hC _ (by simp)
        obtain ⟨q0, hq0⟩ := aPl_at ht2 hcc
        have e1 := aWo_at (ad := ad) (cA := cA) (σ := σ) hq0
        unfold aCell at e1
        rw [ht1] at e1
        have hln := aLen_ok t
        have hcell := aCell_arr (ad := ad) (cA := cA) (σ := σ) (c := cc) (x := x) ht1 (i := i) (by omega)
        have hset := aWo_set (σ := σ) (σ' := aUp σ t cc i x) hq0 hcell (fun t' c' h => aCell_off t' c' h)
        refine va_iast (D := D) hx hb hK hP hD hS q0 0 e1 rfl (aIn_vp hln hi) hd (fun H1 locs1 g1 g2 g3 => ?_)
        rw [hset] at g1 g2
        exact K H1 locs1 ls ⟨g1, g2, g3⟩ hl
      · cases hs
    · cases hs
  | goto o =>
    simp only [aStep] at hs
    split at hs
    · rename_i ho; cases hs
      exact lv_goto (tgt := ((pc : Int) + o).toNat) hx hb hd (by omega) (K H locs ls C1 hl)
    · cases hs
  | _ => cases hs
end Sound
end
section
/-! ===== rules: stretches, branches, switches, ends, entries, calls ===== -/
section Rules
variable {l : Launch} {d : Nat} {M : aMt} {Q : Option aV → aS → Prop} {pc : Nat} {L : aLs} {st : List aV} {σ : aS}
theorem aw_run (hk : aKok M.1.cls M.2.2.2.2) : ∀ (B : List (Nat × Instr)) (pc : Nat) (L : aLs) (st : List aV) (σ : aS) {Cs : List Prop} {pc' : Nat} {L' : aLs} {st' : List aV} {σ' : aS}, (∀ q ∈ B, decode M.2.1 q.1 = .ok (q.2, aLn q.2)) → aRun M.2.2.2.2 B pc L st σ = some (Cs, pc', L', st', σ') → (∀ P ∈ Cs, P) → AW l d M Q pc' L' st' σ' → AW l d M Q pc L st σ := by
  intro B
  induction B with
  | nil => intro pc L st σ Cs pc' L' st' σ' _ h _ k; cases h; exact k
  | cons q B ih =>
    intro pc L st σ Cs pc' L' st' σ' hB h hC k
    unfold aRun at h
    split at h
    · rename_i hq
      split at h
      · rename_i cs pc1 L1 st1 σ1 h1
        split at h
        · rename_i cs' r h2
          obtain ⟨pc2, L2, st2, σ2⟩ := r
          cases h
          refine aw_1 (ins := q.2) hk (by rw [← hq]; exact hB q List.mem_cons_self) h1 (fun P hP => hC P (List.mem_append_left _ hP)) ?_
          exact ih pc1 L1 st1 σ1 (fun z hz => hB z (List.mem_cons_of_mem _ hz)) h2 (fun P hP => hC P (List.mem_append_right _ hP)) k
        · cases h
      · cases h
    · cases h
/-- a stretch of code -/
theorem aw_b (hk : aKok M.1.cls M.2.2.2.2) {B : List (Nat × Instr)} (hB : ∀ q ∈ B, decode M.2.1 q.1 = .ok (q.2, aLn q.2)) {Cs : List Prop} {pc' : Nat} {L' : aLs} {st' : List aV} {σ' : aS} (h : aRun M.2.2.2.2 B pc L st σ = some (Cs, pc', L', st', σ')) (hC : aAll Cs) (k : AW l d M Q pc' L' st' σ') : AW l d M Q pc L st σ :=
  aw_run hk B pc L st σ hB h (aAll_mem hC) k
/-- locals that are forgotten -/
theorem aw_le {L' : aLs} (h : aLe L' L) (k : AW l d M Q pc L' st σ) : AW l d M Q pc L st σ :=
  fun p e s m args below meth c D cA ad H locs ls C0 C1 hl => k p e s m args below meth c D cA ad H locs ls C0 C1 (aLoc_le hl h)
theorem aw_drop (ks : List Nat) {L' : aLs} (h : aDrop L ks = L') (k : AW l d M Q pc L' st σ) : AW l d M Q pc L st σ := aw_le (by rw [← h]; exact aDrop_le ks L) k
theorem aw_eq {L' : aLs} {st' : List aV} {σ' : aS} (h1 : L = L') (h2 : st = st') (h3 : σ = σ') (k : AW l d M Q pc L' st' σ') : AW l d M Q pc L st σ := by
  subst h1; subst h2; subst h3; exact k
theorem aw_post {Q' : Option aV → aS → Prop} (hq : ∀ r σ', Q r σ' → Q' r σ') (k : AW l d M Q pc L st σ) : AW l d M Q' pc L st σ := by
  intro p e s m args below meth c D cA ad H locs ls C0 C1 hl T hT X
  obtain ⟨t, a, o, b1, b2, ⟨⟨r, σ', c1, c2, c3⟩, c4⟩, b4⟩ := k p e s m args below meth c D cA ad H locs ls C0 C1 hl T hT X
  exact ⟨t, a, o, b1, b2, ⟨⟨r, σ', c1, hq _ _ c2, c3⟩, c4⟩, b4⟩
theorem aw_ceq {x y : Int} {r : List aV} {off : Int} {tgt : Nat} (hd : decode M.2.1 pc = .ok (.if_icmp .eq off, 3)) (ht : (pc : Int) + off = (tgt : Int)) (hx : aIr x) (hy : aIr y) (kt : x = y → AW l d M Q tgt L r σ) (kf : ¬ x = y → AW l d M Q (pc + 3) L r σ) : AW l d M Q pc L (aI y :: aI x :: r) σ := by
  intro p e s m args below meth c D cA ad H locs ls C0 C1 hl
  obtain ⟨hx1, hb, -⟩ := id C0
  have hi := aIn_eq hx hy
  exact lv_icmp_eq hx1 hb hd ht (fun h => kt (hi.mp h) p e s m args below meth c D cA ad H locs ls C0 C1 hl) (fun h => kf (fun q => h (hi.mpr q)) p e s m args below meth c D cA ad H locs ls C0 C1 hl)
theorem aw_ieq {x : Int} {r : List aV} {off : Int} {tgt : Nat} (hd : decode M.2.1 pc = .ok (.ifCond .eq off, 3)) (ht : (pc : Int) + off = (tgt : Int)) (hx : aIr x) (kt : x = 0 → AW l d M Q tgt L r σ) (kf : ¬ x = 0 → AW l d M Q (pc + 3) L r σ) : AW l d M Q pc L (aI x :: r) σ := by
  intro p e s m args below meth c D cA ad H locs ls C0 C1 hl
  obtain ⟨hx1, hb, -⟩ := id C0
  have hy : aIr 0 := by decide
  have hi := aIn_eq hx hy
  exact lv_if_eq hx1 hb hd ht (fun h => kt (hi.mp h) p e s m args below meth c D cA ad H locs ls C0 C1 hl) (fun h => kf (fun q => h (hi.mpr q)) p e s m args below meth c D cA ad H locs ls C0 C1 hl)
theorem aw_cne {x y : Int} {r : List aV} {off : Int} {tgt : Nat} (hd : decode M.2.1 pc = .ok (.if_icmp .ne off, 3)) (ht : (pc : Int) + off = (tgt : Int)) (hx : aIr x) (hy : aIr y) (kt : ¬ x = y → AW l d M Q tgt L r σ) (kf : x = y → AW l d M Q (pc + 3) L r σ) : AW l d M Q pc L (aI y :: aI x :: r) σ := by
  intro p e s m args below meth c D cA ad H locs ls C0 C1 hl
  obtain ⟨hx1, hb, -⟩ := id C0
  have hi := aIn_eq hx hy
  exact lv_icmp_ne hx1 hb hd ht (fun h => kt (fun q => h (hi.mpr q)) p e s m args below meth c D cA ad H locs ls C0 C1 hl) (fun h => kf (hi.mp h) p e s m args below meth c D cA ad H locs ls C0 C1 hl)
theorem aw_ine {x : Int} {r : List aV} {off : Int} {tgt : Nat} (hd : decode M.2.1 pc = .ok (.ifCond .ne off, 3)) (ht : (pc : Int) + off = (tgt : Int)) (hx : aIr x) (kt : ¬ x = 0 → AW l d M Q tgt L r σ) (kf : x = 0 → AW l d M Q (pc + 3) L r σ) : AW l d M Q pc L (aI x :: r) σ := by
  intro p e s m args below meth c D cA ad H locs ls C0 C1 hl
  obtain ⟨hx1, hb, -⟩ := id C0
  have hy : aIr 0 := by decide
  have hi := aIn_eq hx hy
  exact lv_if_ne hx1 hb hd ht (fun h => kt (fun q => h (hi.mpr q)) p e s m args below meth c D cA ad H locs ls C0 C1 hl) (fun h => kf (hi.mp h) p e s m args below meth c D cA ad H locs ls C0 C1 hl)
theorem aw_clt {x y : Int} {r : List aV} {off : Int} {tgt : Nat} (hd : decode M.2.1 pc = .ok (.if_icmp .lt off, 3)) (ht : (pc : Int) + off = (tgt : Int)) (hx : aIr x) (hy : aIr y) (kt : x < y → AW l d M Q tgt L r σ) (kf : ¬ x < y → AW l d M Q (pc + 3) L r σ) : AW l d M Q pc L (aI y :: aI x :: r) σ := by
  intro p e s m args below meth c D cA ad H locs ls C0 C1 hl
  obtain ⟨hx1, hb, -⟩ := id C0
  have hi := aIn_lt hx hy
  exact lv_icmp_lt hx1 hb hd ht (fun h => kt (hi.mp h) p e s m args below meth c D cA ad H locs ls C0 C1 hl) (fun h => kf (fun q => h (hi.mpr q)) p e s m args below meth c D cA ad H locs ls C0 C1 hl)
theorem aw_ilt {x : Int} {r : List aV} {off : Int} {tgt : Nat} (hd : decode M.2.1 pc = .ok (.ifCond .lt off, 3)) (ht : (pc : Int) + off = (tgt : Int)) (hx : aIr x) (kt : x < 0 → AW l d M Q tgt L r σ) (kf : ¬ x < 0 → AW l d M Q (pc + 3) L r σ) : AW l d M Q pc L (aI x :: r) σ := by
  intro p e s m args below meth c D cA ad H locs ls C0 C1 hl
  obtain ⟨hx1, hb, -⟩ := id C0
  have hy : aIr 0 := by decide
  have hi := aIn_lt hx hy
  exact lv_if_lt hx1 hb hd ht (fun h => kt (hi.mp h) p e s m args below meth c D cA ad H locs ls C0 C1 hl) (fun h => kf (fun q => h (hi.mpr q)) p e s m args below meth c D cA ad H locs ls C0 C1 hl)
theorem aw_cge {x y : Int} {r : List aV} {off : Int} {tgt : Nat} (hd : decode M.2.1 pc = .ok (.if_icmp .ge off, 3)) (ht : (pc : Int) + off = (tgt : Int)) (hx : aIr x) (hy : aIr y) (kt : y ≤ x → AW l d M Q tgt L r σ) (kf : ¬ y ≤ x → AW l d M Q (pc + 3) L r σ) : AW l d M Q pc L (aI y :: aI x :: r) σ := by
  intro p e s m args below meth c D cA ad H locs ls C0 C1 hl
  obtain ⟨hx1, hb, -⟩ := id C0
  have hi := aIn_le hy hx
  exact lv_icmp_ge hx1 hb hd ht (fun h => kt (hi.mp h) p e s m args below meth c D cA ad H locs ls C0 C1 hl) (fun h => kf (fun q => h (hi.mpr q)) p e s m args below meth c D cA ad H locs ls C0 C1 hl)
theorem aw_ige {x : Int} {r : List aV} {off : Int} {tgt : Nat} (hd : decode M.2.1 pc = .ok (.ifCond .ge off, 3)) (ht : (pc : Int) + off = (tgt : Int)) (hx : aIr x) (kt : 0 ≤ x → AW l d M Q tgt L r σ) (kf : ¬ 0 ≤ x → AW l d M Q (pc + 3) L r σ) : AW l d M Q pc L (aI x :: r) σ := by
  intro p e s m args below meth c D cA ad H locs ls C0 C1 hl
  obtain ⟨hx1, hb, -⟩ := id C0
  have hy : aIr 0 := by decide
  have hi := aIn_le hy hx
  exact lv_if_ge hx1 hb hd ht (fun h => kt (hi.mp h) p e s m args below meth c D cA ad H locs ls C0 C1 hl) (fun h => kf (fun q => h (hi.mpr q)) p e s m args below meth c D cA ad H locs ls C0 C1 hl)
theorem aw_cgt {x y : Int} {r : List aV} {off : Int} {tgt : Nat} (hd : decode M.2.1 pc = .ok (.if_icmp .gt off, 3)) (ht : (pc : Int) + off = (tgt : Int)) (hx : aIr x) (hy : aIr y) (kt : y < x → AW l d M Q tgt L r σ) (kf : ¬ y < x → AW l d M Q (pc + 3) L r σ) : AW l d M Q pc L (aI y :: aI x :: r) σ := by
  intro p e s m args below meth c D cA ad H locs ls C0 C1 hl
  obtain ⟨hx1, hb, -⟩ := id C0
  have hi := aIn_lt hy hx
  exact lv_icmp_gt hx1 hb hd ht (fun h => kt (hi.mp h) p e s m args below meth c D cA ad H locs ls C0 C1 hl) (fun h => kf (fun q => h (hi.mpr q)) p e s m args below meth c D cA ad H locs ls C0 C1 hl)
theorem aw_igt {x : Int} {r : List aV} {off : Int} {tgt : Nat} (hd : decode M.2.1 pc = .ok (.ifCond .gt off, 3)) (ht : (pc : Int) + off = (tgt : Int)) (hx : aIr x) (kt : 0 < x → AW l d M Q tgt L r σ) (kf : ¬ 0 < x → AW l d M Q (pc + 3) L r σ) : AW l d M Q pc L (aI x :: r) σ := by
  intro p e s m args below meth c D cA ad H locs ls C0 C1 hl
  obtain ⟨hx1, hb, -⟩ := id C0
  have hy : aIr 0 := by decide
  have hi := aIn_lt hy hx
  exact lv_if_gt hx1 hb hd ht (fun h => kt (hi.mp h) p e s m args below meth c D cA ad H locs ls C0 C1 hl) (fun h => kf (fun q => h (hi.mpr q)) p e s m args below meth c D cA ad H locs ls C0 C1 hl)
theorem aw_cle {x y : Int} {r : List aV} {off : Int} {tgt : Nat} (hd : decode M.2.1 pc = .ok (.if_icmp .le off, 3)) (ht : (pc : Int) + off = (tgt : Int)) (hx : aIr x) (hy : aIr y) (kt : x ≤ y → AW l d M Q tgt L r σ) (kf : ¬ x ≤ y → AW l d M Q (pc + 3) L r σ) : AW l d M Q pc L (aI y :: aI x :: r) σ := by
  intro p e s m args below meth c D cA ad H locs ls C0 C1 hl
  obtain ⟨hx1, hb, -⟩ := id C0
  have hi := aIn_le hx hy
  exact lv_icmp_le hx1 hb hd ht (fun h => kt (hi.mp h) p e s m args below meth c D cA ad H locs ls C0 C1 hl) (fun h => kf (fun q => h (hi.mpr q)) p e s m args below meth c D cA ad H locs ls C0 C1 hl)
theorem aw_ile {x : Int} {r : List aV} {off : Int} {tgt : Nat} (hd : decode M.2.1 pc = .ok (.ifCond .le off, 3)) (ht : (pc : Int) + off = (tgt : Int)) (hx : aIr x) (kt : x ≤ 0 → AW l d M Q tgt L r σ) (kf : ¬ x ≤ 0 → AW l d M Q (pc + 3) L r σ) : AW l d M Q pc L (aI x :: r) σ := by
  intro p e s m args below meth c D cA ad H locs ls C0 C1 hl
  obtain ⟨hx1, hb, -⟩ := id C0
  have hy : aIr 0 := by decide
  have hi := aIn_le hx hy
  exact lv_if_le hx1 hb hd ht (fun h => kt (hi.mp h) p e s m args below meth c D cA ad H locs ls C0 C1 hl) (fun h => kf (fun q => h (hi.mpr q)) p e s m args below meth c D cA ad H locs ls C0 C1 hl)
/-- a switch by a table -/
def aTgt (pc : Nat) (dflt lo hi : Int) (offs : Array Int) (x : Int) : Int := if x < lo ∨ hi < x then pc + dflt else pc + offs.getD (x - lo).toNat 0
theorem aw_tsw {dflt lo hi : Int} {offs : Array Int} {len : Nat} {x : Int} {r : List aV} {tgt : Nat} (hd : decode M.2.1 pc = .ok (.tableswitch dflt lo hi offs, len)) (hx : aIr x) (hn : (offs.size : Int) = hi - lo + 1) (ht : aTgt pc dflt lo hi offs x = (tgt : Int)) (k : AW l d M Q tgt L r σ) : AW l d M Q pc L (aI x :: r) σ := by
  intro p e s m args below meth c D cA ad H locs ls C0 C1 hl
  obtain ⟨hx1, hb, -⟩ := id C0
  have K := k p e s m args below meth c D cA ad H locs ls C0 C1 hl
  unfold aTgt at ht
  have e1 := aIn_toInt hx
  split at ht
  · rename_i h
    exact lv_tableOut hx1 hb hd (by rw [e1]; exact h) ht K
  · rename_i h
    have h1 : ¬ x < lo := fun q => h (Or.inl q)
    have h2 : ¬ hi < x := fun q => h (Or.inr q)
    refine lv_tableIn (off := offs.getD (x - lo).toNat 0) hx1 hb hd (by rw [e1]; exact h1) (by rw [e1]; exact h2) ?_ ht K
    rw [e1]
    have hlt : (x - lo).toNat < offs.size := by omega
    simp [Array.getD, hlt]
/-- a switch by pairs -/
theorem aw_lsw {dflt : Int} {ps : Array (Int × Int)} {len : Nat} {x off : Int} {r : List aV} {tgt : Nat} (hd : decode M.2.1 pc = .ok (.lookupswitch dflt ps, len)) (hp : (ps.toList.zip (ps.toList.drop 1)).all (fun (a, next) => a.1 < next.1) = true) (hx : aIr x) (ho : Op.lookupswitch.offset ps.toList dflt x = off) (ht : (pc : Int) + off = (tgt : Int)) (k : AW l d M Q tgt L r σ) : AW l d M Q pc L (aI x :: r) σ := by
  intro p e s m args below meth c D cA ad H locs ls C0 C1 hl
  obtain ⟨hx1, hb, -⟩ := id C0
  exact lv_lookup hx1 hb hd hp (by rw [aIn_toInt hx]; exact ho) ht (k p e s m args below meth c D cA ad H locs ls C0 C1 hl)
/-- ends -/
theorem aw_iret {x : Int} (hd : decode M.2.1 pc = .ok (.ireturn, 1)) (hr : M.2.2.2.1 = some .int) (hq : Q (some (aI x)) σ) : AW l d M Q pc L [aI x] σ := by
  intro p e s m args below meth c D cA ad H locs ls C0 C1 hl
  obtain ⟨hx, hb, hml, hr0, hlk, hown, hts, hK, hN⟩ := id C0
  obtain ⟨hP, hD, hS⟩ := id C1
  exact W.iret hx hb (hr0.trans hr) (fun t ht hW => ⟨⟨some (aI x), σ, rfl, hq, by rw [ht]; exact hP⟩, hS.F ht⟩) hS.2.2 hd
theorem aw_zret {x : Int} (hd : decode M.2.1 pc = .ok (.ireturn, 1)) (hr : M.2.2.2.1 = some .boolean) (h01 : x = 0 ∨ x = 1) (hq : Q (some (aI x)) σ) : AW l d M Q pc L [aI x] σ := by
  intro p e s m args below meth c D cA ad H locs ls C0 C1 hl
  obtain ⟨hx, hb, hml, hr0, hlk, hown, hts, hK, hN⟩ := id C0
  obtain ⟨hP, hD, hS⟩ := id C1
  exact W.zret hx hb (hr0.trans hr) (by rcases h01 with rfl | rfl <;> decide +kernel) (fun t ht hW => ⟨⟨some (aI x), σ, rfl, hq, by rw [ht]; exact hP⟩, hS.F ht⟩) hS.2.2 hd
theorem aw_lret {x : Int} (hd : decode M.2.1 pc = .ok (.lreturn, 1)) (hr : M.2.2.2.1 = some .long) (hq : Q (some (aL x)) σ) : AW l d M Q pc L [aL x] σ := by
  intro p e s m args below meth c D cA ad H locs ls C0 C1 hl
  obtain ⟨hx, hb, hml, hr0, hlk, hown, hts, hK, hN⟩ := id C0
  obtain ⟨hP, hD, hS⟩ := id C1
  exact W.lret hx hb (hr0.trans hr) (fun t ht hW => ⟨⟨some (aL x), σ, rfl, hq, by rw [ht]; exact hP⟩, hS.F ht⟩) hS.2.2 hd
theorem aw_vret (hd : decode M.2.1 pc = .ok (.return_, 1)) (hr : M.2.2.2.1 = none) (hq : Q none σ) : AW l d M Q pc L [] σ := by
  intro p e s m args below meth c D cA ad H locs ls C0 C1 hl
  obtain ⟨hx, hb, hml, hr0, hlk, hown, hts, hK, hN⟩ := id C0
  obtain ⟨hP, hD, hS⟩ := id C1
  exact W.vret hx hb (hr0.trans hr) (fun t ht hW => ⟨⟨none, σ, rfl, hq, by rw [ht]; exact hP⟩, hS.F ht⟩) hS.2.2 hd
/-- the locals with which a method begins -/
def aEn : List aV → aLs
  | [] => []
  | v :: t => if aLg (some v) then some v :: none :: aEn t else some v :: aEn t
theorem aEn_len (ad : Nat → Nat → Nat) : ∀ as : List aV, (aEn as).length = (lg_sl (as.map (cV ad))).length := by
  intro as
  induction as with
  | nil => rfl
  | cons v t ih =>
    unfold aEn
    rw [List.map_cons]
    unfold lg_sl at ih ⊢
    rw [List.flatMap_cons, List.length_append, ← ih]
    rcases v with x | y | ⟨q1, q2⟩
    · show (aEn t).length + 1 = 1 + _; omega
    · show (aEn t).length + 1 + 1 = 2 + _; omega
    · show (aEn t).length + 1 = 1 + _; omega
theorem aEn_in (ad : Nat → Nat → Nat) (n : Nat) : ∀ (as : List aV) (i : Nat), ∀ q ∈ aAs ad i (aEn as ++ List.replicate n none), q ∈ lv_args i (as.map (cV ad)) := by
  intro as
  induction as with
  | nil =>
    intro i q hq
    exfalso
    obtain ⟨j, v, h1, -⟩ := aAs_mem.mp hq
    unfold aEn at h1
    rw [List.nil_append] at h1
    have := List.eq_of_mem_replicate (List.mem_of_getElem? h1)
    cases this
  | cons v t ih =>
    intro i q hq
    rw [List.map_cons]
    unfold lv_args
    unfold aEn at hq
    rcases v with x | y | ⟨q1, q2⟩
    · rcases List.mem_cons.mp hq with h | h
      · exact List.mem_cons.mpr (Or.inl h)
      · exact List.mem_cons.mpr (Or.inr (ih _ _ h))
    · rcases List.mem_cons.mp hq with h | h
      · exact List.mem_cons.mpr (Or.inl h)
      · exact List.mem_cons.mpr (Or.inr (ih _ _ h))
    · rcases List.mem_cons.mp hq with h | h
      · exact List.mem_cons.mpr (Or.inl h)
      · exact List.mem_cons.mpr (Or.inr (ih _ _ h))
/-- a contract, from its entry -/
theorem am_of {as : List aV} (hy : plainName M.1.cls = true) (hn : (aEn as).length ≤ M.2.2.1) (hL : aEn as ++ List.replicate (M.2.2.1 - (aEn as).length) none = L) (k : AW l d M Q 0 L [] σ) : AM l d M as σ Q := by
  intro D cA ad
  refine Met.ofW (cc := M.2.1) (maxL := M.2.2.1) (ret := M.2.2.2.1) hy rfl ?_
  intro p e s m args below meth c s₁ B hml hv
  obtain ⟨rfl, hP, hK, hD, hN⟩ := hv
  have hts := atoms_spec (ws := aWs M) B.pre
  have hown : s.vm.findClass M.1.cls = some m.cls := findClass_of_methodNamed B.named
  have hln := aEn_len ad as
  have hl := lv_entry (as.map (cV ad)) (n := M.2.2.1) (by rw [← hln]; exact hn)
  rw [lg_entry_eq]
  refine k p e s m _ below meth c D cA ad s.heap [] _ ⟨B.exec, B.bytes, hml, B.returns, B.notSynchronized, hown, hts, hK, hN⟩ ⟨hP, hD, va_S.rf⟩ ⟨?_, lv_mono hl ?_⟩
  · rw [← hL, List.length_append, List.length_replicate]; omega
  · rw [← hL]
    exact aEn_in ad _ as 0
theorem am_post {as : List aV} {Q' : Option aV → aS → Prop} (hq : ∀ r σ', Q r σ' → Q' r σ') (k : AM l d M as σ Q) : AM l d M as σ Q' := by
  intro D cA ad p e ha hc hk s m args below hf happ hP hX
  obtain ⟨t, o, h1, h2, h3, ⟨⟨⟨r, σ', c1, c2, c3⟩, c4⟩, b4⟩⟩ := k D cA ad p e ha hc hk s m args below hf happ hP hX
  exact ⟨t, o, h1, h2, h3, ⟨⟨r, σ', c1, hq _ _ c2, c3⟩, c4⟩, b4⟩
end Rules
section CallRules
variable {l : Launch} {d d' : Nat} {M M' : aMt} {Q Q' : Option aV → aS → Prop} {pc : Nat} {L : aLs} {st : List aV} {σ : aS}
theorem aPc_blind {ad : Nat → Nat → Nat} {cA : ClassId} {D : va_G} {as : List aV} {σ : aS} : FrameBlind (aPc ad cA D as σ) := by
  intro a U g mk q
  obtain ⟨q0, qP, qK, qD, qN⟩ := q
  exact ⟨q0, qP, va_K.moved (u := U) (U := U.calling g mk a) (Vm.Alike.refl U.vm) qK, qD, aNe_same rfl qN⟩
theorem aPc_at {ad : Nat → Nat → Nat} {cA : ClassId} {D : va_G} {as : List aV} {σ : aS} {s : State} {H : Heap} {locs : List Loc} {vs : List Value} (hv : vs = as.map (cV ad)) (C1 : aIs ad cA D s σ H locs) (hK : va_K D aCl [(cA, .int)] s) (hN : aNe s) : ∀ U : State, U.heap = H → s.WarmedH U.vm → aPc ad cA D as σ vs.toArray U := by
  intro U hU hW
  exact ⟨by rw [hv], by rw [hU]; exact C1.1, va_K.moved hW.alike hK, C1.2.1, aNe_warm hW hN⟩
/-- what a call gives back -/
theorem aw_back {p : Program} {e : Env} {s : State} {m : MethodId} {args : Array Value} {below : List Frame} {meth : Method} {c : Code} {D : va_G} {cA : ClassId} {ad : Nat → Nat → Nat} {H : Heap} {locs : List Loc} {ls : Array Slot} {g : List Value} {rest : List aV} {a : Array Value}
    (C0 : aAt M p s m args meth c D cA) (C1 : aIs ad cA D s σ H locs) (hl : aLoc ad M.2.2.1 L ls)
    (hr : va_Run p l e (aRm d) s m args below meth c H locs 0 0 0 0 (F0 m pc ls g) (rest.map (cV ad)) (aQ ad cA D Q' a) (aA ad))
    (k : ∀ r σ', Q' r σ' → AW l d M Q (pc + 3) L (r.toList ++ rest) σ') : W p l e (aRm d) s m args below meth c H locs 0 0 (MQ below (aQ ad cA D Q) args s 0 0 (aA ad)) (F0 m pc ls g) := by
  intro T hT X
  obtain ⟨v, st₀, t, T', Lc, h0, X', hLc, e1, e2, ⟨⟨r, σ', hv, hq, hP'⟩, hz, hkk⟩, stp⟩ := hr T hT X
  have hv2 : v = r.map (cV ad) := by cases hv; rfl
  subst hv2
  rw [h0] at hz hkk
  obtain ⟨hP, hD, hS⟩ := C1
  have hD' : va_D (aA ad) (aWo ad cA σ') := by
    refine ⟨fun i j pq qq hi hj he => ?_, fun kq qq hkq => ?_⟩
    · unfold aWo at hi hj
      rw [List.getElem?_map] at hi hj
      cases hi2 : aPl[i]? with
      | none => rw [hi2] at hi; cases hi
      | some x1 =>
        cases hj2 : aPl[j]? with
        | none => rw [hj2] at hj; cases hj
        | some x2 =>
          rw [hi2] at hi
          rw [hj2] at hj
          cases hi
          cases hj
          exact hD.1 i j _ _ (aWo_at hi2) (aWo_at hj2) he
    · unfold aWo at hkq
      rw [List.getElem?_map] at hkq
      cases hi2 : aPl[kq]? with
      | none => rw [hi2] at hkq; cases hkq
      | some x1 =>
        rw [hi2] at hkq
        cases hkq
        exact hD.2 kq (ad x1.1 x1.2, aCell ad cA σ x1.1 x1.2) (aWo_at hi2)
  have C1' : aIs ad cA D s σ' T'.heap (locs ++ Lc) := by
    refine ⟨by rw [e1]; exact hP', hD', ⟨Nat.le_trans hS.1 (by rw [e1]; exact hz), fun q h1 h2 => ?_, fun q hq => ?_⟩⟩
    · rw [e1, hkk q (Nat.lt_of_lt_of_le h1 hS.1) h2]; exact hS.2.1 q h1 h2
    · rcases List.mem_append.mp hq with h | h
      · exact hS.2.2 q h
      · exact hLc q h
  have hmap : (r.toList ++ rest).map (cV ad) = (r.map (cV ad)).toList ++ rest.map (cV ad) := by
    cases r <;> rfl
  have K := k r σ' hq p e s m args below meth c D cA ad T'.heap (locs ++ Lc) ls C0 C1' hl
  rw [hmap] at K
  obtain ⟨t2, a1, b1⟩ := K T' rfl X'
  exact ⟨t2, stp t2 a1, b1⟩
def aCat (st : List aV) : Nat := (st.map fun v => if aLg (some v) then 2 else 1).sum
theorem aCat_eq (ad : Nat → Nat → Nat) (st : List aV) : ((st.map (cV ad)).map fun v => v.category).sum = aCat st := by
  unfold aCat
  rw [List.map_map]
  congr 1
  apply List.map_congr_left
  intro v _
  rcases v with x | y | ⟨t, c⟩ <;> rfl
/-- a call of a method of an object, linked -/
def aLV (own : String) (idx : Nat) (M' : aMt) (n ci : Nat) : Prop :=
  (Cond.methodLink own idx M'.1 ∈ aTbl ∧ Cond.instanceMethod M'.1 ∈ aTbl ∧ Cond.selects M'.1.cls M'.1 M'.1 ∈ aTbl ∧ Cond.initialized M'.1.cls ∈ aTbl ∧ Cond.code M'.1 M'.2.1 M'.2.2.1 M'.2.2.2.1 ∈ aTbl) ∧
  (M'.1.cls = M'.1.cls ∧ M'.1.cls ≠ "java/lang/invoke/MethodHandle" ∧ M'.1.cls ≠ "java/lang/invoke/VarHandle" ∧ (parseMethodDescriptor M'.1.desc).map (fun d => d.parameters.length) = some n) ∧ M'.2.2.1 ≤ 19 ∧ ∃ r : vw_C, aCl[ci]? = some r ∧ r.1 = M'.1.cls
def aLS (own : String) (idx : Nat) (M' : aMt) (n : Nat) : Prop :=
  (Cond.methodLink own idx M'.1 ∈ aTbl ∧ Cond.static M'.1 ∈ aTbl ∧ Cond.initialized M'.1.cls ∈ aTbl ∧ Cond.code M'.1 M'.2.1 M'.2.2.1 M'.2.2.2.1 ∈ aTbl) ∧
  (M'.1.cls ≠ "java/lang/invoke/MethodHandle" ∧ M'.1.cls ≠ "java/lang/invoke/VarHandle" ∧ (parseMethodDescriptor M'.1.desc).map (fun d => d.parameters.length) = some n) ∧ M'.2.2.1 ≤ 19
def aLN (own : String) (idx : Nat) (M' : aMt) (n : Nat) : Prop :=
  ((own, idx, M'.1, "OnlyInDisguise") ∈ aNq ∧ Cond.static M'.1 ∈ aTbl ∧ Cond.initialized M'.1.cls ∈ aTbl ∧ Cond.code M'.1 M'.2.1 M'.2.2.1 M'.2.2.2.1 ∈ aTbl) ∧
  (M'.1.cls ≠ "java/lang/invoke/MethodHandle" ∧ M'.1.cls ≠ "java/lang/invoke/VarHandle" ∧ (parseMethodDescriptor M'.1.desc).map (fun d => d.parameters.length) = some n) ∧ M'.2.2.1 ≤ 19
theorem aWs_good {M M' : aMt} (h : Cond.code M'.1 M'.2.1 M'.2.2.1 M'.2.2.2.1 ∈ aTbl) : GoodIn (aWs M) (aWs M') := by
  intro w hw
  have hw2 : w ∈ aTbl := (List.mem_cons.mp hw).elim (fun e => by rw [e]; exact h) id
  exact ⟨List.mem_cons_of_mem _ hw2, (aTbl_good w hw2).2⟩
theorem aRm_fit {M' : aMt} (hm : M'.2.2.1 ≤ 19) (hd : d' + 1 ≤ d) : (aRm d').frames + 1 ≤ (aRm d).frames ∧ 8 + (M'.2.2.1 + 11) + (aRm d').locals ≤ (aRm d).locals := by
  refine ⟨hd, ?_⟩
  show 8 + (M'.2.2.1 + 11) + 38 * d' ≤ 38 * d
  omega
theorem aw_callV {idx n ci t c : Nat} {as rest : List aV} (lk : aLV M.1.cls idx M' n ci) (hd : d' + 1 ≤ d) (ht : t < 32) (hc : c < aCnt t) (hcl : aCls t = some ci) (hn : as.length = n) (hr : aCat rest ≤ 8) (hst : st = as.reverse ++ aR t c :: rest) (hdg : decode M.2.1 pc = .ok (.invokevirtual idx, 3)) (hm : AM l d' M' (aR t c :: as) σ Q') (k : ∀ r σ', Q' r σ' → AW l d M Q (pc + 3) L (r.toList ++ rest) σ') : AW l d M Q pc L st σ := by
  intro p e s m args below meth c2 D cA ad H locs ls C0 C1 hl
  obtain ⟨hx, hb, hml, hr0, hlk, hown, hts, hK, hN⟩ := id C0
  obtain ⟨⟨l1, l2, l3, l4, l5⟩, l6, l7, rc, l8, l9⟩ := lk
  subst hst
  have hin : ∀ w ∈ aTbl, w ∈ aWs M := fun w hw => List.mem_cons_of_mem _ hw
  have hG : GoodIn (aWs M) (wsV M.1.cls idx M'.1.cls M'.1 (aWs M')) := by
    intro w hw
    unfold wsV at hw
    rcases List.mem_append.mp hw with h | h
    · have hw2 : w ∈ aTbl := by
        simp only [List.mem_cons, List.not_mem_nil, or_false] at h
        rcases h with rfl | rfl | rfl | rfl
        · exact l1
        · exact l2
        · exact l3
        · exact l4
      exact ⟨hin w hw2, (aTbl_good w hw2).2⟩
    · exact aWs_good l5 w h
  obtain ⟨q0, hq0⟩ := aPl_at ht hc
  have e1 := aWo_at (ad := ad) (cA := cA) (σ := σ) hq0
  unfold aCell at e1
  rw [hcl] at e1
  have hrec := va_recv hK C1.1 l8 e1
  rw [l9] at hrec
  refine aw_back C0 C1 hl (va_runV (As := as.map (cV ad)) (rest := rest.map (cV ad)) (b := ad t c) ⟨hx, hb, hml, hown, hts⟩ (hm D cA ad) (cwV n hts hG rfl rfl rfl l6 (aRm_fit l7 hd)) ⟨aPc_blind, hrec, aPc_at rfl C1 hK hN⟩ rfl (by rw [List.length_map]; exact hn) hl.2.1 ?_ (lv_room (by rw [aCat_eq]; exact hr)) hdg ⟨Nat.zero_le _, Nat.zero_le _⟩) k
  show (as.reverse ++ aR t c :: rest).map (cV ad) = _
  rw [List.map_append, List.map_reverse]
  rfl
theorem aw_callS {idx n : Nat} {as rest : List aV} (lk : aLS M.1.cls idx M' n) (hd : d' + 1 ≤ d) (hn : as.length = n) (hr : aCat rest ≤ 8) (hst : st = as.reverse ++ rest) (hdg : decode M.2.1 pc = .ok (.invokestatic idx, 3)) (hm : AM l d' M' as σ Q') (k : ∀ r σ', Q' r σ' → AW l d M Q (pc + 3) L (r.toList ++ rest) σ') : AW l d M Q pc L st σ := by
  intro p e s m args below meth c2 D cA ad H locs ls C0 C1 hl
  obtain ⟨hx, hb, hml, hr0, hlk, hown, hts, hK, hN⟩ := id C0
  obtain ⟨⟨l1, l2, l4, l5⟩, l6, l7⟩ := lk
  subst hst
  have hws : ∀ w ∈ aTbl, w.before args s = true := fun w hw => hts w (List.mem_cons_of_mem _ hw)
  refine aw_back C0 C1 hl (va_runS (As := as.map (cV ad)) (rest := rest.map (cV ad)) ⟨hx, hb, hml, hown, hts⟩ (hm D cA ad) ⟨callB_of n hts (aWs_good l5) rfl rfl rfl (hws _ l4) (hws _ l1) l6 (aRm_fit l7 hd), hws _ l2⟩ ⟨aPc_blind, aPc_at rfl C1 hK hN⟩ rfl (by rw [List.length_map]; exact hn) hl.2.1 ?_ (lv_room (by rw [aCat_eq]; exact hr)) hdg ⟨Nat.zero_le _, Nat.zero_le _⟩) k
  show (as.reverse ++ rest).map (cV ad) = _
  rw [List.map_append, List.map_reverse]
theorem aw_callN {idx n : Nat} {as rest : List aV} (lk : aLN M.1.cls idx M' n) (hd : d' + 1 ≤ d) (hn : as.length = n) (hr : aCat rest ≤ 8) (hst : st = as.reverse ++ rest) (hdg : decode M.2.1 pc = .ok (.invokestatic idx, 3)) (hm : AM l d' M' as σ Q') (k : ∀ r σ', Q' r σ' → AW l d M Q (pc + 3) L (r.toList ++ rest) σ') : AW l d M Q pc L st σ := by
  intro p e s m args below meth c2 D cA ad H locs ls C0 C1 hl
  obtain ⟨hx, hb, hml, hr0, hlk, hown, hts, hK, hN⟩ := id C0
  obtain ⟨⟨l1, l2, l4, l5⟩, l6, l7⟩ := lk
  subst hst
  have hws : ∀ w ∈ aTbl, w.before args s = true := fun w hw => hts w (List.mem_cons_of_mem _ hw)
  refine aw_back C0 C1 hl (va_runSN (As := as.map (cV ad)) (rest := rest.map (cV ad)) (host := "OnlyInDisguise") ⟨hx, hb, hml, hown, hts⟩ (hm D cA ad) ⟨va_cnB n hts (aWs_good l5) rfl rfl rfl (hN _ l1) (hws _ l4) l6 (aRm_fit l7 hd), hws _ l2, trivial⟩ ⟨aPc_blind, aPc_at rfl C1 hK hN⟩ rfl (by rw [List.length_map]; exact hn) hl.2.1 ?_ (lv_room (by rw [aCat_eq]; exact hr)) hdg ⟨Nat.zero_le _, Nat.zero_le _⟩) k
  show (as.reverse ++ rest).map (cV ad) = _
  rw [List.map_append, List.map_reverse]
end CallRules
end
