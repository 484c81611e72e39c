/-! ===== toss and element in the law; its switch and loop ===== -/
theorem dLw_23 : decode code 23 = .ok (.iload 4, 2) := by decide +kernel
theorem dLw_25 : decode code 25 = .ok (.aload_n 0, 1) := by decide +kernel
theorem dLw_26 : decode code 26 = .ok (.arraylength, 1) := by decide +kernel
theorem dLw_27 : decode code 27 = .ok (.bipush 6, 2) := by decide +kernel
theorem dLw_29 : decode code 29 = .ok (.isub, 1) := by decide +kernel
theorem dLw_30 : decode code 30 = .ok (.if_icmp .gt 1632, 3) := by decide +kernel
theorem dLw_33 : decode code 33 = .ok (.aload_n 0, 1) := by decide +kernel
theorem dLw_34 : decode code 34 = .ok (.iload 4, 2) := by decide +kernel
theorem dLw_36 : decode code 36 = .ok (.iaload, 1) := by decide +kernel
theorem dLw_37 : decode code 37 = .ok (.bipush 63, 2) := by decide +kernel
theorem dLw_39 : decode code 39 = .ok (.iand, 1) := by decide +kernel
theorem dLw_40 : decode code 40 = .ok (.tableswitch 1616 0 39 #[176, 201, 238, 275, 312, 349, 386, 411, 448, 485, 522, 547, 584, 621, 658, 683, 708, 745, 794, 819, 844, 869, 894, 943, 980, 1029, 1091, 1117, 1142, 1167, 1216, 1229, 1242, 1267, 1328, 1377, 1426, 1493, 1566, 1591], 176) := by decide +kernel
theorem dLw_1631 : decode code 1631 = .ok (.aload_n 1, 1) := by decide +kernel
theorem dLw_1638 : decode code 1638 = .ok (.invokevirtual 190, 3) := by decide +kernel
theorem dLw_1641 : decode code 1641 = .ok (.aload_n 2, 1) := by decide +kernel
theorem dLw_1648 : decode code 1648 = .ok (.invokevirtual 193, 3) := by decide +kernel
theorem dLw_1651 : decode code 1651 = .ok (.if_icmp .eq 5, 3) := by decide +kernel
theorem dLw_1466 : decode code 1466 = .ok (.aload_n 1, 1) := by decide +kernel
theorem dLw_1479 : decode code 1479 = .ok (.aload_n 3, 1) := by decide +kernel
theorem dLw_1480 : decode code 1480 = .ok (.invokestatic 172, 3) := by decide +kernel
theorem dLw_1483 : decode code 1483 = .ok (.istore 5, 2) := by decide +kernel
theorem dLw_1485 : decode code 1485 = .ok (.aload_n 2, 1) := by decide +kernel
theorem dLw_1498 : decode code 1498 = .ok (.invokevirtual 177, 3) := by decide +kernel
theorem dLw_1501 : decode code 1501 = .ok (.lstore 6, 2) := by decide +kernel
theorem dLw_1503 : decode code 1503 = .ok (.aload_n 2, 1) := by decide +kernel
theorem dLw_1504 : decode code 1504 = .ok (.invokevirtual 178, 3) := by decide +kernel
theorem dLw_1507 : decode code 1507 = .ok (.iload 5, 2) := by decide +kernel
theorem dLw_1509 : decode code 1509 = .ok (.if_icmp .eq 5, 3) := by decide +kernel
theorem dLw_1514 : decode code 1514 = .ok (.iload 5, 2) := by decide +kernel
theorem dLw_1516 : decode code 1516 = .ok (.ifCond .ne 14, 3) := by decide +kernel
theorem dLw_1519 : decode code 1519 = .ok (.aload_n 3, 1) := by decide +kernel
theorem dLw_1520 : decode code 1520 = .ok (.iconst 0, 1) := by decide +kernel
theorem dLw_1521 : decode code 1521 = .ok (.laload, 1) := by decide +kernel
theorem dLw_1522 : decode code 1522 = .ok (.lload 6, 2) := by decide +kernel
theorem dLw_1524 : decode code 1524 = .ok (.lcmp, 1) := by decide +kernel
theorem dLw_1525 : decode code 1525 = .ok (.ifCond .eq 5, 3) := by decide +kernel
theorem dLw_1530 : decode code 1530 = .ok (.goto 126, 3) := by decide +kernel
theorem dLw_1656 : decode code 1656 = .ok (.iinc 4 6, 3) := by decide +kernel
theorem dLw_1659 : decode code 1659 = .ok (.goto (-1636), 3) := by decide +kernel
theorem dLw_1662 : decode code 1662 = .ok (.iconst 1, 1) := by decide +kernel
theorem dLw_1663 : decode code 1663 = .ok (.ireturn, 1) := by decide +kernel
theorem lA_1632 : ∀ k, k < 1 → lArg (1632 + 6 * k) (k + 1) := lArgsB_of (by decide +kernel)
theorem lA_1642 : ∀ k, k < 1 → lArg (1642 + 6 * k) (k + 1) := lArgsB_of (by decide +kernel)
theorem lA_1467 : ∀ k, k < 2 → lArg (1467 + 6 * k) (k + 1) := lArgsB_of (by decide +kernel)
theorem lA_1486 : ∀ k, k < 2 → lArg (1486 + 6 * k) (k + 1) := lArgsB_of (by decide +kernel)
theorem lL_177 : aLV nmLaw 177 mX7_element 2 5 := ⟨⟨in_aTbl 1246 (by decide +kernel) rfl, in_aTbl 1247 (by decide +kernel) rfl, in_aTbl 1248 (by decide +kernel) rfl, in_aTbl 50 (by decide +kernel) rfl, in_aTbl 1249 (by decide +kernel) rfl⟩, by decide +kernel, by decide, ⟨(RX7, TX7, 19), rfl, rfl⟩⟩
theorem lL_178 : aLV nmLaw 178 mX7_thrown 0 5 := ⟨⟨in_aTbl 1230 (by decide +kernel) rfl, in_aTbl 1231 (by decide +kernel) rfl, in_aTbl 1232 (by decide +kernel) rfl, in_aTbl 50 (by decide +kernel) rfl, in_aTbl 1233 (by decide +kernel) rfl⟩, by decide +kernel, by decide, ⟨(RX7, TX7, 19), rfl, rfl⟩⟩
theorem lL_193 : aLV nmLaw 193 mX7_toss 1 5 := ⟨⟨in_aTbl 1261 (by decide +kernel) rfl, in_aTbl 1262 (by decide +kernel) rfl, in_aTbl 1263 (by decide +kernel) rfl, in_aTbl 50 (by decide +kernel) rfl, in_aTbl 1264 (by decide +kernel) rfl⟩, by decide +kernel, by decide, ⟨(RX7, TX7, 19), rfl, rfl⟩⟩
theorem good_toss : GoodIn aTbl (wsV nmLaw 190 "OnlyInDisguise" nmToss wsToss) := by
  intro w hw
  have hw2 : w ∈ aTbl := by
    unfold wsV at hw
    rcases List.mem_append.mp hw with h | h
    · simp only [List.mem_cons, List.not_mem_nil, or_false] at h
      rcases h with rfl | rfl | rfl | rfl
      · exact (in_aTbl 715 (by decide +kernel) rfl)
      · exact (in_aTbl 716 (by decide +kernel) rfl)
      · exact (in_aTbl 717 (by decide +kernel) rfl)
      · exact (in_aTbl 45 (by decide +kernel) rfl)
    · exact (List.mem_cons.mp h).elim (fun e => by rw [e]; exact (in_aTbl 718 (by decide +kernel) rfl)) id
  exact ⟨hw2, (aTbl_good w hw2).2⟩
theorem good_lel : GoodIn aTbl (va_wsS nmLaw 172 nmLel wsLel) := by
  intro w hw
  have hw2 : w ∈ aTbl := by
    unfold va_wsS at hw
    rcases List.mem_append.mp hw with h | h
    · simp only [List.mem_cons, List.not_mem_nil, or_false] at h
      rcases h with rfl | rfl | rfl
      · exact (in_aTbl 826 (by decide +kernel) rfl)
      · exact (in_aTbl 827 (by decide +kernel) rfl)
      · exact (in_aTbl 44 (by decide +kernel) rfl)
    · exact (List.mem_cons.mp h).elim (fun e => by rw [e]; exact (in_aTbl 828 (by decide +kernel) rfl)) id
  exact ⟨hw2, (aTbl_good w hw2).2⟩
theorem eq_toss {σ : aS} (h : IvS σ) (d : Int) : A_toss (σ 26 0 d) (σ 27 0 d) (σ 28 0 d) d = A_toss (σ 10 0 d) (σ 11 0 d) (σ 12 0 d) d := by
  unfold A_toss
  rw [h.ct]
  by_cases hl : lkF (σ 10 0 d) d 1 = 0
  · obtain ⟨h1, h2⟩ := lkF_d hl
    have b := (h.2.2.1 d h1.1 h1.2).2.1 h2
    rw [b.1, b.2]
  · rw [if_neg hl, if_neg hl]
theorem eq_th {σ : aS} (h : IvS σ) (d i : Int) : thF (σ 26 0 d) (σ 30 0 d) d i = thF (σ 10 0 d) (σ 14 0 d) d i := by
  unfold thF
  by_cases hd : 0 ≤ d ∧ d < 8
  · rw [if_pos hd, if_pos hd]
    have b := h.2.2.1 d hd.1 hd.2
    rw [b.1]
    by_cases h2 : σ 10 0 d = 2
    · rw [(b.2.2 h2).2.1]
    · rw [if_neg (fun q => h2 q.1), if_neg (fun q => h2 q.1)]
  · rw [if_neg hd, if_neg hd]
theorem eq_mv {σ : aS} (h : IvS σ) (d i : Int) (h0 : thF (σ 10 0 d) (σ 14 0 d) d i = 0) : mE σ d i = vaF σ d i := by
  unfold thF at h0
  by_cases hd : 0 ≤ d ∧ d < 8
  · rw [if_pos hd] at h0
    by_cases h2 : σ 10 0 d = 2 ∧ 0 ≤ i ∧ i < σ 14 0 d
    · have b := ((h.2.2.1 d hd.1 hd.2).2.2 h2.1).2.2 i h2.2.1 h2.2.2
      unfold mE vaF
      rw [if_pos h2.2]
      exact b
    · rw [if_neg h2] at h0
      exact absurd h0 (by decide)
  · rw [if_neg hd] at h0
    exact absurd h0 (by decide)
theorem Inv_th {σ : aS} (h : Inv σ) (v : Int) : Inv (aUp σ 21 0 18 v) := Inv_k h (fun t c i _ _ _ _ h5 => by
  unfold aUp
  rw [if_neg (fun q => h5 ⟨q.1, by omega⟩)])
theorem run_no {p : Program} {l : Launch} {e : Env} {R : Room} {s : State} {m : MethodId} {args : Array Value} {below : List Frame} {meth : Method} {c : Code} {H : Heap} {locs : List Loc} {cells slots mc ms : Nat} {fr : JFrame} {rest : List Value} {Qa : State → Outcome → State → Prop} {free : Addr → Prop} (h : vx_Run p l e R s m args below meth c H locs cells slots mc ms fr rest Qa xNo free) : va_Run p l e R s m args below meth c H locs cells slots mc ms fr rest Qa free := by
  intro T hT X
  rcases h T hT X with h | ⟨q, st₀, t, T', L, E, ce, h0, X', hL, e1, e2, hx, -⟩
  · exact h
  · exact False.elim hx
theorem dK_0 : decode code (216 + 1 + 6 * 1 + 3 + 1 + 6 * 1 + 3) = .ok (.if_icmp .eq 1420, 3) := by decide +kernel
theorem dK_1 : decode code (241 + 1 + 6 * 2 + 3 + 1 + 6 * 2 + 3) = .ok (.if_icmp .eq 1383, 3) := by decide +kernel
theorem dK_2 : decode code (278 + 1 + 6 * 2 + 3 + 1 + 6 * 2 + 3) = .ok (.if_icmp .eq 1346, 3) := by decide +kernel
theorem dK_3 : decode code (315 + 1 + 6 * 2 + 3 + 1 + 6 * 2 + 3) = .ok (.if_icmp .eq 1309, 3) := by decide +kernel
theorem dK_4 : decode code (352 + 1 + 6 * 2 + 3 + 1 + 6 * 2 + 3) = .ok (.if_icmp .eq 1272, 3) := by decide +kernel
theorem dK_5 : decode code (389 + 1 + 6 * 2 + 3 + 1 + 6 * 2 + 3) = .ok (.if_icmp .eq 1235, 3) := by decide +kernel
theorem dK_6 : decode code (426 + 1 + 6 * 1 + 3 + 1 + 6 * 1 + 3) = .ok (.if_icmp .eq 1210, 3) := by decide +kernel
theorem dK_7 : decode code (451 + 1 + 6 * 2 + 3 + 1 + 6 * 2 + 3) = .ok (.if_icmp .eq 1173, 3) := by decide +kernel
theorem dK_8 : decode code (488 + 1 + 6 * 2 + 3 + 1 + 6 * 2 + 3) = .ok (.if_icmp .eq 1136, 3) := by decide +kernel
theorem dK_9 : decode code (525 + 1 + 6 * 2 + 3 + 1 + 6 * 2 + 3) = .ok (.if_icmp .eq 1099, 3) := by decide +kernel
theorem dK_10 : decode code (562 + 1 + 6 * 1 + 3 + 1 + 6 * 1 + 3) = .ok (.if_icmp .eq 1074, 3) := by decide +kernel
theorem dK_11 : decode code (587 + 1 + 6 * 2 + 3 + 1 + 6 * 2 + 3) = .ok (.if_icmp .eq 1037, 3) := by decide +kernel
theorem dK_12 : decode code (624 + 1 + 6 * 2 + 3 + 1 + 6 * 2 + 3) = .ok (.if_icmp .eq 1000, 3) := by decide +kernel
theorem dK_13 : decode code (661 + 1 + 6 * 2 + 3 + 1 + 6 * 2 + 3) = .ok (.if_icmp .eq 963, 3) := by decide +kernel
theorem dK_14 : decode code (698 + 1 + 6 * 1 + 3 + 1 + 6 * 1 + 3) = .ok (.if_icmp .eq 938, 3) := by decide +kernel
theorem dK_15 : decode code (723 + 1 + 6 * 1 + 3 + 1 + 6 * 1 + 3) = .ok (.if_icmp .eq 913, 3) := by decide +kernel
theorem dK_16 : decode code (748 + 1 + 6 * 2 + 3 + 1 + 6 * 2 + 3) = .ok (.if_icmp .eq 876, 3) := by decide +kernel
theorem dK_17 : decode code (785 + 1 + 6 * 3 + 3 + 1 + 6 * 3 + 3) = .ok (.if_icmp .eq 827, 3) := by decide +kernel
theorem dK_18 : decode code (834 + 1 + 6 * 1 + 3 + 1 + 6 * 1 + 3) = .ok (.if_icmp .eq 802, 3) := by decide +kernel
theorem dK_19 : decode code (859 + 1 + 6 * 1 + 3 + 1 + 6 * 1 + 3) = .ok (.if_icmp .eq 777, 3) := by decide +kernel
theorem dK_20 : decode code (884 + 1 + 6 * 1 + 3 + 1 + 6 * 1 + 3) = .ok (.if_icmp .eq 752, 3) := by decide +kernel
theorem dK_21 : decode code (909 + 1 + 6 * 1 + 3 + 1 + 6 * 1 + 3) = .ok (.if_icmp .eq 727, 3) := by decide +kernel
theorem dK_22 : decode code (934 + 1 + 6 * 3 + 3 + 1 + 6 * 3 + 3) = .ok (.if_icmp .eq 678, 3) := by decide +kernel
theorem dK_23 : decode code (983 + 1 + 6 * 2 + 3 + 1 + 6 * 2 + 3) = .ok (.if_icmp .eq 641, 3) := by decide +kernel
theorem dK_24 : decode code (1020 + 1 + 6 * 3 + 3 + 1 + 6 * 3 + 3) = .ok (.if_icmp .eq 592, 3) := by decide +kernel
theorem dK_25 : decode code (1069 + 1 + 6 * 4 + 3 + 1 + 6 * 4 + 3) = .ok (.lcmp, 1) := by decide +kernel
theorem dJ_25 : decode code (1069 + 1 + 6 * 4 + 3 + 1 + 6 * 4 + 3 + 1) = .ok (.ifCond .eq 530, 3) := by decide +kernel
theorem dK_26 : decode code (1131 + 1 + 6 * 1 + 3 + 1 + 6 * 1 + 3) = .ok (.lcmp, 1) := by decide +kernel
theorem dJ_26 : decode code (1131 + 1 + 6 * 1 + 3 + 1 + 6 * 1 + 3 + 1) = .ok (.ifCond .eq 504, 3) := by decide +kernel
theorem dK_27 : decode code (1157 + 1 + 6 * 1 + 3 + 1 + 6 * 1 + 3) = .ok (.if_icmp .eq 479, 3) := by decide +kernel
theorem dK_28 : decode code (1182 + 1 + 6 * 1 + 3 + 1 + 6 * 1 + 3) = .ok (.if_icmp .eq 454, 3) := by decide +kernel
theorem dK_29 : decode code (1207 + 1 + 6 * 3 + 3 + 1 + 6 * 3 + 3) = .ok (.if_icmp .eq 405, 3) := by decide +kernel
theorem dK_30 : decode code (1256 + 1 + 6 * 0 + 3 + 1 + 6 * 0 + 3) = .ok (.if_icmp .eq 392, 3) := by decide +kernel
theorem dK_31 : decode code (1269 + 1 + 6 * 0 + 3 + 1 + 6 * 0 + 3) = .ok (.if_icmp .eq 379, 3) := by decide +kernel
theorem dK_32 : decode code (1282 + 1 + 6 * 1 + 3 + 1 + 6 * 1 + 3) = .ok (.if_icmp .eq 354, 3) := by decide +kernel
theorem dK_33 : decode code (1307 + 1 + 6 * 4 + 3 + 1 + 6 * 4 + 3) = .ok (.if_icmp .eq 293, 3) := by decide +kernel
theorem dK_34 : decode code (1368 + 1 + 6 * 3 + 3 + 1 + 6 * 3 + 3) = .ok (.if_icmp .eq 244, 3) := by decide +kernel
theorem dK_35 : decode code (1417 + 1 + 6 * 3 + 3 + 1 + 6 * 3 + 3) = .ok (.if_icmp .eq 195, 3) := by decide +kernel
theorem dK_37 : decode code (1533 + 1 + 6 * 5 + 3 + 1 + 6 * 5 + 3) = .ok (.if_icmp .eq 55, 3) := by decide +kernel
theorem dK_38 : decode code (1606 + 1 + 6 * 1 + 3 + 1 + 6 * 1 + 3) = .ok (.if_icmp .eq 30, 3) := by decide +kernel
section LawSpecial
variable {p : Program} {l : Launch} {e : Env} {s : State} {m : MethodId} {below : List Frame} {meth : Method} {c : Code} {b L : Nat} {xs : Nat → Int32} {D : va_G} {cA cL : ClassId} {ad : Nat → Nat → Nat} {o i : Nat} {σ : aS} {g : Nat → Int64} {H : Heap} {locs : List Loc} {cells slots : Nat} {QQ : State → Prop} {ls : Array Slot} {st : List Value} {pc : Nat}
set_option maxHeartbeats 2000000 in
theorem l_toss (C : lwC p l s m c b L xs D cA cL) (hl : lv_has ls 8 (lwL b ad o i)) (hi : i + 6 ≤ L) (hI : Inv σ) (h : lwH s D cA cL ad o σ g H locs) (hcs : cells + 1 ≤ 1083 ∧ slots + 6 ≤ 13473) (kk : lwK p l e s m below meth c b D cA cL ad o i (cells + 1) (slots + 6) QQ) : W p l e room_1 s m #[Value.ref b] below meth c H locs cells slots QQ (F0 m 1631 ls []) := by
  obtain ⟨hx, hb, hml, hown, hws, hX, hbl, hK, hN, hT, hst, hL⟩ := id C
  obtain ⟨hP, hD, hS⟩ := id h
  have hP0 := va_P_l hP
  have hPo := va_P_r hP
  have hD0 := va_D_l hD
  have hno : ¬ aA ad o := aWo_off (q := (o, .inl (cL, 1, .inr (.inl g)))) hD (j := 0) rfl
  have hol : o < H.size := (hPo 0 _ rfl).lt
  have hK0 : va_K D aCl [(cA, .int)] s := hK.sub [0] rfl
  have hd := ysI_in xs (i + 1)
  obtain ⟨q0, hq0⟩ := aPl_at (t := 0) (c := 0) (by decide) (by decide)
  have e1 := aWo_at (ad := ad) (cA := cA) (σ := σ) hq0
  unfold aCell at e1
  have hrec := va_recv (q := (RX6, TX6, 9)) (ci := 4) hK hP0 rfl e1
  have hpre : ∀ U : State, U.heap = H → s.WarmedH U.vm → xPc ad cA D [aR 0 0, aI (ysI xs (i + 1))] σ (([.ref (ad 0 0), .int (Int32.ofInt (ysI xs (i + 1)))] : List Value).toArray) U := by
    intro U hU hW
    exact ⟨rfl, by rw [hU]; exact hP0, va_K.moved hW.alike hK0, aWo_self hD0, aNe_warm hW hN, (hT.at hW hU hS).narrow (fun q h => aWo_A hD0 q h)⟩
  refine lv_aload_n hx hb dLw_1631 rfl (lv_at hl 1 rfl) ?_
  refine l_args (pc := 1632) C hS hl hi 1 (by decide) lA_1632 ?_
  refine va_calli (A0 := lwA s) (run_no (vx_runVX (hh := hhToss) (As := [.int (Int32.ofInt (ysI xs (i + 1)))]) (rest := []) (b := ad 0 0) (C := "OnlyInDisguise") ⟨hx, hb, hml, hown, hws⟩ (c_toss l hst D cA ad (ysI xs (i + 1)) σ hI.2.2.1.1 hd) (vx_cwVW 1 hws good_toss rfl rfl rfl ⟨rfl, by decide, by decide, by decide +kernel⟩ ⟨by show 8 + 1 ≤ 10; omega, by show 8 + (6 + 11) + 200 ≤ 382; omega⟩) ⟨xPc_blind, hrec, hpre⟩ rfl rfl hl.1 rfl (lv_room (Nat.le_of_ble_eq_true rfl)) dLw_1638 hcs)) hS (fun q _ h => aWo_A hD0 q h) (fun q h => aWo_A hD0 q h) (fun r u t H1 locs1 ht hvm h5 hB hz hk hS1 => ?_)
  have h5 : r = Int32.ofInt (A_toss (σ 10 0 (ysI xs (i + 1))) (σ 11 0 (ysI xs (i + 1))) (σ 12 0 (ysI xs (i + 1))) (ysI xs (i + 1))) := h5
  subst h5
  have hP1 : va_P D aCl (aWo ad cA σ) t.heap := hB
  rw [ht] at hP1
  have hh : lwH s D cA cL ad o σ g H1 locs1 := ⟨va_P_app hP1 hPo (hk o hol hno), hD, hS1⟩
  refine lv_aload_n hx hb dLw_1641 rfl (lv_at hl 2 rfl) ?_
  refine l_args (pc := 1642) C hS1 hl hi 1 (by decide) lA_1642 ?_
  refine l_V (as := asOf xs i 1) (rest := [.int (Int32.ofInt (A_toss (σ 10 0 (ysI xs (i + 1))) (σ 11 0 (ysI xs (i + 1))) (σ 12 0 (ysI xs (i + 1))) (ysI xs (i + 1))))]) (t := 21) (c0 := 0) C hl.1 hh lL_193 (d' := 3) (by decide) (by decide) (by decide) rfl rfl (Nat.le_of_ble_eq_true rfl) rfl dLw_1648 hcs (cM_toss l (ysI xs (i + 1)) σ hI.2.2.1.2.1 hd) (fun r σ2 H2 locs2 hq hh2 => ?_)
  obtain ⟨hq1, hq2⟩ := hq
  subst hq1
  subst hq2
  rw [eq_toss hI.2.2.1]
  refine lv_icmp_eq (tgt := 1656) hx hb dLw_1651 (by decide) (fun _ => ?_) (fun q => absurd rfl q)
  exact kk _ g H2 locs2 ls hI hh2 hl
set_option maxHeartbeats 2000000 in
theorem l_elem (C : lwC p l s m c b L xs D cA cL) (hl : lv_has ls 8 (lwL b ad o i)) (hi : i + 6 ≤ L) (hI : Inv σ) (h : lwH s D cA cL ad o σ g H locs) (hcs : cells + 1 ≤ 1083 ∧ slots + 6 ≤ 13473) (kk : lwK p l e s m below meth c b D cA cL ad o i (cells + 1) (slots + 6) QQ) : W p l e room_1 s m #[Value.ref b] below meth c H locs cells slots QQ (F0 m 1466 ls []) := by
  obtain ⟨hx, hb, hml, hown, hws, hX, hbl, hK, hN, hT, hst, hL⟩ := id C
  obtain ⟨hP, hD, hS⟩ := id h
  have hA0 : ∀ q : Nat, lA ad o q → lwA s q := by
    intro q hq
    rcases hq with hq | hq
    · exact aWo_A (va_D_l hD) q hq
    · rw [hq]
      exact va_D_r (q := (o, .inl (cL, 1, .inr (.inl g)))) hD (j := 0) rfl
  have hself : va_D (lA ad o) (lwW ad cA cL σ o g) := ⟨hD.1, fun k q hk => by
    by_cases hlt : k < (aWo ad cA σ).length
    · rw [List.getElem?_append_left hlt] at hk
      exact Or.inl ((aWo_self (va_D_l hD)).2 k q hk)
    · rw [List.getElem?_append_right (by omega)] at hk
      exact Or.inr (by rw [← one_at hk])⟩
  have hd := ysI_in xs (i + 1)
  have hi2 := ysI_in xs (i + 2)
  generalize hdd : ysI xs (i + 1) = d at hd
  generalize hii : ysI xs (i + 2) = i2 at hi2
  have has : asOf xs i 2 = [aI d, aI i2] := by
    show [aI (ysI xs (i + 1)), aI (ysI xs (i + 2))] = _
    rw [hdd, hii]
  have hpre : ∀ U : State, U.heap = H → s.WarmedH U.vm → xPl ad cA cL D [.ref (ad 0 0), .int (Int32.ofInt d), .int (Int32.ofInt i2), .ref o] σ o g (([.ref (ad 0 0), .int (Int32.ofInt d), .int (Int32.ofInt i2), .ref o] : List Value).toArray) U := by
    intro U hU hW
    exact ⟨rfl, by rw [hU]; exact hP, va_K.moved hW.alike hK, hself, aNe_warm hW hN, (hT.at hW hU hS).narrow hA0⟩
  refine lv_aload_n hx hb dLw_1466 rfl (lv_at hl 1 rfl) ?_
  refine l_args (pc := 1467) C hS hl hi 2 (by decide) lA_1467 ?_
  rw [has]
  refine lv_aload_n hx hb dLw_1479 rfl (lv_at hl 3 rfl) ?_
  refine va_calli (A0 := lwA s) (run_no (vx_runSX (hh := hhLel) (As := [.ref (ad 0 0), .int (Int32.ofInt d), .int (Int32.ofInt i2), .ref o]) (rest := []) ⟨hx, hb, hml, hown, hws⟩ (c_lel l hst D cA cL ad d i2 σ o g hI.2.2.1.1 hd hi2) (vx_cwSW 4 hws good_lel rfl rfl rfl ⟨by decide, by decide, by decide +kernel⟩ ⟨by show 9 + 1 ≤ 10; omega, by show 8 + (5 + 11) + 240 ≤ 382; omega⟩) ⟨xPl_blind, hpre⟩ rfl rfl hl.1 rfl (lv_room (Nat.le_of_ble_eq_true rfl)) dLw_1480 hcs)) hS (fun q _ h => hA0 q h) hA0 (fun r u t H1 locs1 ht hvm h5 hB hz hk hS1 => ?_)
  obtain ⟨h5, h6⟩ := h5
  subst h5
  have hP1 : va_P D aCl (lwW ad cA cL σ o u) t.heap := hB
  rw [ht] at hP1
  have hh : lwH s D cA cL ad o σ u H1 locs1 := ⟨hP1, lwD_other hD, hS1⟩
  have bth : aIr (thF (σ 10 0 d) (σ 14 0 d) d i2) := by
    unfold thF
    (repeat' split) <;> exact ⟨by decide, by decide⟩
  generalize hth : thF (σ 10 0 d) (σ 14 0 d) d i2 = th at h6 bth ⊢
  refine lv_istore (i := 5) (lv' := [(5, .int (Int32.ofInt th)), (0, .ref b), (1, .ref (ad 0 0)), (2, .ref (ad 21 0)), (3, .ref o), (4, .int (Int32.ofInt (i : Int)))]) hx hb dLw_1483 hl (by decide) rfl (fun ls hl => ?_)
  have hl4 : lv_has ls 8 (lwL b ad o i) := lv_sub hl [1, 2, 3, 4, 5] rfl
  refine lv_aload_n hx hb dLw_1485 rfl (lv_at hl 3 rfl) ?_
  refine l_args (pc := 1486) C hS1 hl4 hi 2 (by decide) lA_1486 ?_
  rw [has]
  refine l_V (as := [aI d, aI i2]) (rest := []) (t := 21) (c0 := 0) C hl.1 hh lL_177 (d' := 2) (by decide) (by decide) (by decide) rfl rfl (Nat.le_of_ble_eq_true rfl) rfl dLw_1498 hcs (cM_element l d i2 σ hI.2.2.1.2.1 hd hi2) (fun r σ2 H2 locs2 hq hh2 => ?_)
  obtain ⟨hq1, hq2⟩ := hq
  subst hq1
  rw [eq_th hI.2.2.1, hth] at hq2 ⊢
  have hI2 : Inv σ2 := by rw [hq2]; exact Inv_th hI th
  have h18 : σ2 21 0 18 = th := by rw [hq2]; exact aUp_same
  clear hq2
  generalize hv : (if th = 0 then mE σ d i2 else 0) = v
  refine lv_lstore (i := 6) (x := Int64.ofInt v) (lv' := [(6, .long (Int64.ofInt v)), (5, .int (Int32.ofInt th)), (0, .ref b), (1, .ref (ad 0 0)), (2, .ref (ad 21 0)), (3, .ref o), (4, .int (Int32.ofInt (i : Int)))]) hx hb dLw_1501 hl (by decide) rfl (fun ls hl => ?_)
  refine lv_aload_n hx hb dLw_1503 rfl (lv_at hl 4 rfl) ?_
  refine l_V (as := []) (rest := []) (t := 21) (c0 := 0) C hl.1 hh2 lL_178 (d' := 0) (by decide) (by decide) (by decide) rfl rfl (Nat.le_of_ble_eq_true rfl) rfl dLw_1504 hcs (cM_thrown l σ2) (fun r σ3 H3 locs3 hq hh3 => ?_)
  obtain ⟨hq3, hq4⟩ := hq
  subst hq3
  subst hq4
  rw [h18]
  have hend : ∀ ls9 : Array Slot, lv_has ls9 8 (lwL b ad o i) → W p l e room_1 s m #[Value.ref b] below meth c H3 locs3 (cells + 1) (slots + 6) QQ (F0 m 1530 ls9 []) := by
    intro ls9 hl9
    refine lv_goto (tgt := 1656) hx hb dLw_1530 (by decide) ?_
    exact kk _ u H3 locs3 ls9 hI2 hh3 hl9
  refine lv_iload hx hb dLw_1507 (lv_at hl 1 rfl) ?_
  refine lv_icmp_eq (x := Int32.ofInt th) (y := Int32.ofInt th) (tgt := 1514) hx hb dLw_1509 (by decide) (fun _ => ?_) (fun q => absurd rfl q)
  refine lv_iload hx hb dLw_1514 (lv_at hl 1 rfl) ?_
  refine lv_if_ne (tgt := 1530) hx hb dLw_1516 (by decide) (fun _ => hend ls (lv_sub hl [2, 3, 4, 5, 6] rfl)) (fun h0 => ?_)
  have h0' : th = 0 := (aIn_eq (y := 0) bth (by decide)).mp h0
  have hv' : v = vaF σ d i2 := by
    rw [← hv, if_pos h0']
    exact eq_mv hI.2.2.1 d i2 (hth.trans h0')
  have hu0 : u 0 = Int64.ofInt v := by rw [hv']; exact h6 h0'
  refine lv_aload_n hx hb dLw_1519 rfl (lv_at hl 5 rfl) ?_
  refine lv_iconst (v := Int32.ofInt 0) hx hb dLw_1520 rfl ?_
  refine va_lald (D := D) hx hb hK hh3.1 (aWo ad cA _).length 1 (get_last _ _) rfl (i := Int32.ofInt 0) (by show ¬ (Int32.ofInt 0 < 0 ∨ 1 ≤ (Int32.ofInt 0).toNatClampNeg); decide) dLw_1521 ?_
  rw [show (Int32.ofInt 0).toNatClampNeg = 0 from by decide, hu0]
  refine lv_lload hx hb dLw_1522 (lv_at hl 0 rfl) ?_
  refine W.lcmp hx hb (x := Int64.ofInt v) (y := Int64.ofInt v) dLw_1524 ?_
  rw [lg_cmp_rf]
  refine lv_if_eq (tgt := 1530) hx hb dLw_1525 (by decide) (fun _ => hend ls (lv_sub hl [2, 3, 4, 5, 6] rfl)) (fun q => absurd rfl q)
def pcT : List Nat := [216, 241, 278, 315, 352, 389, 426, 451, 488, 525, 562, 587, 624, 661, 698, 723, 748, 785, 834, 859, 884, 909, 934, 983, 1020, 1069, 1131, 1157, 1182, 1207, 1256, 1269, 1282, 1307, 1368, 1417, 1466, 1533, 1606, 1631]
def ofT : List Int := [176, 201, 238, 275, 312, 349, 386, 411, 448, 485, 522, 547, 584, 621, 658, 683, 708, 745, 794, 819, 844, 869, 894, 943, 980, 1029, 1091, 1117, 1142, 1167, 1216, 1229, 1242, 1267, 1328, 1377, 1426, 1493, 1566, 1591]
set_option maxHeartbeats 2000000 in
/-- one call, by its number -/
theorem l_case (C : lwC p l s m c b L xs D cA cL) (hl : lv_has ls 8 (lwL b ad o i)) (hi : i + 6 ≤ L) (hI : Inv σ) (h : lwH s D cA cL ad o σ g H locs) (hcs : cells + 1 ≤ 1083 ∧ slots + 6 ≤ 13473) (kk : lwK p l e s m below meth c b D cA cL ad o i (cells + 1) (slots + 6) QQ) (k : Nat) (hk : k < 40) : W p l e room_1 s m #[Value.ref b] below meth c H locs cells slots QQ (F0 m (pcT.getD k 0) ls []) := by
  have y1 := ysI_in xs (i + 1)
  have y2 := ysI_in xs (i + 2)
  have y3 := ysI_in xs (i + 3)
  have y4 := ysI_in xs (i + 4)
  have y5 := ysI_in xs (i + 5)
  rcases (show k = 0 ∨ k = 1 ∨ k = 2 ∨ k = 3 ∨ k = 4 ∨ k = 5 ∨ k = 6 ∨ k = 7 ∨ k = 8 ∨ k = 9 ∨ k = 10 ∨ k = 11 ∨ k = 12 ∨ k = 13 ∨ k = 14 ∨ k = 15 ∨ k = 16 ∨ k = 17 ∨ k = 18 ∨ k = 19 ∨ k = 20 ∨ k = 21 ∨ k = 22 ∨ k = 23 ∨ k = 24 ∨ k = 25 ∨ k = 26 ∨ k = 27 ∨ k = 28 ∨ k = 29 ∨ k = 30 ∨ k = 31 ∨ k = 32 ∨ k = 33 ∨ k = 34 ∨ k = 35 ∨ k = 36 ∨ k = 37 ∨ k = 38 ∨ k = 39 by omega) with rfl | rfl | rfl | rfl | rfl | rfl | rfl | rfl | rfl | rfl | rfl | rfl | rfl | rfl | rfl | rfl | rfl | rfl | rfl | rfl | rfl | rfl | rfl | rfl | rfl | rfl | rfl | rfl | rfl | rfl | rfl | rfl | rfl | rfl | rfl | rfl | rfl | rfl | rfl | rfl
  · exact l_int (off := 1420) C hl hi h hcs (by decide) lD_0 dK_0 (by decide) lL_21 lL_25 (pr_cabinet l _ σ hI y1) kk
  · exact l_int (off := 1383) C hl hi h hcs (by decide) lD_1 dK_1 (by decide) lL_26 lL_30 (pr_one l _ _ σ hI y1 y2) kk
  · exact l_int (off := 1346) C hl hi h hcs (by decide) lD_2 dK_2 (by decide) lL_31 lL_34 (pr_office l _ _ σ hI y1 y2) kk
  · exact l_int (off := 1309) C hl hi h hcs (by decide) lD_3 dK_3 (by decide) lL_35 lL_38 (pr_shows l _ _ σ hI y1 y2) kk
  · exact l_int (off := 1272) C hl hi h hcs (by decide) lD_4 dK_4 (by decide) lL_39 lL_42 (pr_comes l _ _ σ hI y1 y2) kk
  · exact l_int (off := 1235) C hl hi h hcs (by decide) lD_5 dK_5 (by decide) lL_43 lL_46 (pr_holds l _ _ σ hI y1 y2) kk
  · exact l_int (off := 1210) C hl hi h hcs (by decide) lD_6 dK_6 (by decide) lL_47 lL_50 (pr_empties l _ σ hI y1) kk
  · exact l_int (off := 1173) C hl hi h hcs (by decide) lD_7 dK_7 (by decide) lL_51 lL_54 (pr_wears l _ _ σ hI y1 y2) kk
  · exact l_int (off := 1136) C hl hi h hcs (by decide) lD_8 dK_8 (by decide) lL_55 lL_58 (pr_knows l _ _ σ hI y1 y2) kk
  · exact l_int (off := 1099) C hl hi h hcs (by decide) lD_9 dK_9 (by decide) lL_59 lL_62 (pr_marries l _ _ σ hI y1 y2) kk
  · exact l_int (off := 1074) C hl hi h hcs (by decide) lD_10 dK_10 (by decide) lL_63 lL_66 (pr_days l _ σ hI y1) kk
  · exact l_int (off := 1037) C hl hi h hcs (by decide) lD_11 dK_11 (by decide) lL_67 lL_70 (pr_heldThen l _ _ σ hI y1 y2) kk
  · exact l_int (off := 1000) C hl hi h hcs (by decide) lD_12 dK_12 (by decide) lL_71 lL_74 (pr_knownThen l _ _ σ hI y1 y2) kk
  · exact l_int (off := 963) C hl hi h hcs (by decide) lD_13 dK_13 (by decide) lL_75 lL_78 (pr_then l _ _ σ hI y1 y2) kk
  · exact l_int (off := 938) C hl hi h hcs (by decide) lD_14 dK_14 (by decide) lL_79 lL_82 (pr_falls l _ σ hI y1) kk
  · exact l_int (off := 913) C hl hi h hcs (by decide) lD_15 dK_15 (by decide) lL_83 lL_86 (pr_empty l _ σ hI y1) kk
  · exact l_int (off := 876) C hl hi h hcs (by decide) lD_16 dK_16 (by decide) lL_87 lL_90 (pr_lasts l _ _ σ hI y1 y2) kk
  · exact l_int (off := 827) C hl hi h hcs (by decide) lD_17 dK_17 (by decide) lL_91 lL_95 (pr_bestCostume l _ _ _ σ hI y1 y2 y3) kk
  · exact l_int (off := 802) C hl hi h hcs (by decide) lD_18 dK_18 (by decide) lL_96 lL_99 (pr_casts l _ σ hI y1) kk
  · exact l_int (off := 777) C hl hi h hcs (by decide) lD_19 dK_19 (by decide) lL_100 lL_103 (pr_send l _ σ hI y1) kk
  · exact l_int (off := 752) C hl hi h hcs (by decide) lD_20 dK_20 (by decide) lL_104 lL_107 (pr_change l _ σ hI y1) kk
  · exact l_int (off := 727) C hl hi h hcs (by decide) lD_21 dK_21 (by decide) lL_108 lL_111 (pr_over l _ σ hI y1) kk
  · exact l_int (off := 678) C hl hi h hcs (by decide) lD_22 dK_22 (by decide) lL_112 lL_115 (pr_whatIs l _ _ _ σ hI y1 y2 y3) kk
  · exact l_int (off := 641) C hl hi h hcs (by decide) lD_23 dK_23 (by decide) lL_116 lL_119 (pr_whoHeld l _ _ σ hI y1 y2) kk
  · exact l_int (off := 592) C hl hi h hcs (by decide) lD_24 dK_24 (by decide) lL_120 lL_123 (pr_two l _ _ _ σ hI y1 y2 y3) kk
  · exact l_long (off := 530) C hl hi h hcs (by decide) lD_25 dK_25 dJ_25 (by decide) lL_124 lL_128 (pr_scandals l _ _ _ _ σ hI y1 y2 y3 y4) kk
  · exact l_long (off := 504) C hl hi h hcs (by decide) lD_26 dK_26 dJ_26 (by decide) lL_129 lL_133 (pr_mean l _ σ hI y1) kk
  · exact l_int (off := 479) C hl hi h hcs (by decide) lD_27 dK_27 (by decide) lL_134 lL_137 (pr_forged l _ σ hI y1) kk
  · exact l_int (off := 454) C hl hi h hcs (by decide) lD_28 dK_28 (by decide) lL_138 lL_141 (pr_judge l _ σ hI y1) kk
  · exact l_int (off := 405) C hl hi h hcs (by decide) lD_29 dK_29 (by decide) lL_142 lL_145 (pr_years l _ _ _ σ hI y1 y2 y3) kk
  · exact l_int (off := 392) C hl hi h hcs (by decide) lD_30 dK_30 (by decide) lL_146 lL_150 (pr_image l σ hI) kk
  · exact l_int (off := 379) C hl hi h hcs (by decide) lD_31 dK_31 (by decide) lL_151 lL_154 (pr_restore l σ hI) kk
  · exact l_int (off := 354) C hl hi h hcs (by decide) lD_32 dK_32 (by decide) lL_155 lL_158 (pr_count l _ σ hI y1) kk
  · exact l_int (off := 293) C hl hi h hcs (by decide) lD_33 dK_33 (by decide) lL_159 lL_163 (pr_keep l _ _ _ _ σ hI y1 y2 y3 y4) kk
  · exact l_int (off := 244) C hl hi h hcs (by decide) lD_34 dK_34 (by decide) lL_164 lL_167 (pr_row l _ _ _ σ hI y1 y2 y3) kk
  · exact l_int (off := 195) C hl hi h hcs (by decide) lD_35 dK_35 (by decide) lL_168 lL_171 (pr_put l _ _ _ σ hI y1 y2 y3) kk
  · exact l_elem C hl hi hI h hcs kk
  · exact l_int (off := 55) C hl hi h hcs (by decide) lD_37 dK_37 (by decide) lL_181 lL_185 (pr_copy l _ _ _ _ _ σ hI y1 y2 y3 y4 y5) kk
  · exact l_int (off := 30) C hl hi h hcs (by decide) lD_38 dK_38 (by decide) lL_186 lL_189 (pr_cost l _ σ hI y1) kk
  · exact l_toss C hl hi hI h hcs kk
end LawSpecial
