/-! ===== toss, element, the law's element ===== -/
theorem dToss_0 : decode prog_1_method_41_code 0 = .ok (.aload_n 0, 1) := by decide +kernel
theorem dToss_1 : decode prog_1_method_41_code 1 = .ok (.getfield 29, 3) := by decide +kernel
theorem dToss_4 : decode prog_1_method_41_code 4 = .ok (.iload_n 1, 1) := by decide +kernel
theorem dToss_5 : decode prog_1_method_41_code 5 = .ok (.invokevirtual 138, 3) := by decide +kernel
theorem dToss_8 : decode prog_1_method_41_code 8 = .ok (.istore_n 2, 1) := by decide +kernel
theorem dToss_9 : decode prog_1_method_41_code 9 = .ok (.iload_n 2, 1) := by decide +kernel
theorem dToss_10 : decode prog_1_method_41_code 10 = .ok (.ifCond .eq 5, 3) := by decide +kernel
theorem dToss_13 : decode prog_1_method_41_code 13 = .ok (.iload_n 2, 1) := by decide +kernel
theorem dToss_14 : decode prog_1_method_41_code 14 = .ok (.ireturn, 1) := by decide +kernel
theorem dToss_15 : decode prog_1_method_41_code 15 = .ok (.aload_n 0, 1) := by decide +kernel
theorem dToss_16 : decode prog_1_method_41_code 16 = .ok (.getfield 29, 3) := by decide +kernel
theorem dToss_19 : decode prog_1_method_41_code 19 = .ok (.iload_n 1, 1) := by decide +kernel
theorem dToss_20 : decode prog_1_method_41_code 20 = .ok (.invokevirtual 141, 3) := by decide +kernel
theorem dToss_23 : decode prog_1_method_41_code 23 = .ok (.istore_n 3, 1) := by decide +kernel
theorem dToss_24 : decode prog_1_method_41_code 24 = .ok (.aload_n 0, 1) := by decide +kernel
theorem dToss_25 : decode prog_1_method_41_code 25 = .ok (.getfield 29, 3) := by decide +kernel
theorem dToss_28 : decode prog_1_method_41_code 28 = .ok (.iload_n 1, 1) := by decide +kernel
theorem dToss_29 : decode prog_1_method_41_code 29 = .ok (.invokevirtual 144, 3) := by decide +kernel
theorem dToss_32 : decode prog_1_method_41_code 32 = .ok (.istore 4, 2) := by decide +kernel
theorem dToss_34 : decode prog_1_method_41_code 34 = .ok (.iload_n 3, 1) := by decide +kernel
theorem dToss_35 : decode prog_1_method_41_code 35 = .ok (.iload 4, 2) := by decide +kernel
theorem dToss_37 : decode prog_1_method_41_code 37 = .ok (.invokestatic 304, 3) := by decide +kernel
theorem dToss_40 : decode prog_1_method_41_code 40 = .ok (.goto 29, 3) := by decide +kernel
theorem dToss_43 : decode prog_1_method_41_code 43 = .ok (.astore 5, 2) := by decide +kernel
theorem dToss_45 : decode prog_1_method_41_code 45 = .ok (.iload 4, 2) := by decide +kernel
theorem dToss_47 : decode prog_1_method_41_code 47 = .ok (.ireturn, 1) := by decide +kernel
theorem dToss_48 : decode prog_1_method_41_code 48 = .ok (.astore 5, 2) := by decide +kernel
theorem dToss_50 : decode prog_1_method_41_code 50 = .ok (.bipush 100, 2) := by decide +kernel
theorem dToss_52 : decode prog_1_method_41_code 52 = .ok (.iload 4, 2) := by decide +kernel
theorem dToss_54 : decode prog_1_method_41_code 54 = .ok (.iadd, 1) := by decide +kernel
theorem dToss_55 : decode prog_1_method_41_code 55 = .ok (.ireturn, 1) := by decide +kernel
theorem dToss_56 : decode prog_1_method_41_code 56 = .ok (.astore 5, 2) := by decide +kernel
theorem dToss_58 : decode prog_1_method_41_code 58 = .ok (.sipush 200, 3) := by decide +kernel
theorem dToss_61 : decode prog_1_method_41_code 61 = .ok (.iload_n 3, 1) := by decide +kernel
theorem dToss_62 : decode prog_1_method_41_code 62 = .ok (.iload 4, 2) := by decide +kernel
theorem dToss_64 : decode prog_1_method_41_code 64 = .ok (.invokestatic 309, 3) := by decide +kernel
theorem dToss_67 : decode prog_1_method_41_code 67 = .ok (.iadd, 1) := by decide +kernel
theorem dToss_68 : decode prog_1_method_41_code 68 = .ok (.ireturn, 1) := by decide +kernel
theorem dToss_69 : decode prog_1_method_41_code 69 = .ok (.bipush (-15), 2) := by decide +kernel
theorem dToss_71 : decode prog_1_method_41_code 71 = .ok (.ireturn, 1) := by decide +kernel
theorem dElem_0 : decode prog_1_method_38_code 0 = .ok (.iload_n 1, 1) := by decide +kernel
theorem dElem_1 : decode prog_1_method_38_code 1 = .ok (.invokestatic 132, 3) := by decide +kernel
theorem dElem_4 : decode prog_1_method_38_code 4 = .ok (.ifCond .ne 14, 3) := by decide +kernel
theorem dElem_7 : decode prog_1_method_38_code 7 = .ok (.new 277, 3) := by decide +kernel
theorem dElem_10 : decode prog_1_method_38_code 10 = .ok (.dup, 1) := by decide +kernel
theorem dElem_11 : decode prog_1_method_38_code 11 = .ok (.ldc_w 279, 3) := by decide +kernel
theorem dElem_14 : decode prog_1_method_38_code 14 = .ok (.invokespecial 281, 3) := by decide +kernel
theorem dElem_17 : decode prog_1_method_38_code 17 = .ok (.athrow, 1) := by decide +kernel
theorem dElem_18 : decode prog_1_method_38_code 18 = .ok (.aload_n 0, 1) := by decide +kernel
theorem dElem_19 : decode prog_1_method_38_code 19 = .ok (.getfield 29, 3) := by decide +kernel
theorem dElem_22 : decode prog_1_method_38_code 22 = .ok (.iload_n 1, 1) := by decide +kernel
theorem dElem_23 : decode prog_1_method_38_code 23 = .ok (.invokevirtual 54, 3) := by decide +kernel
theorem dElem_26 : decode prog_1_method_38_code 26 = .ok (.ifCond .eq 14, 3) := by decide +kernel
theorem dElem_29 : decode prog_1_method_38_code 29 = .ok (.new 284, 3) := by decide +kernel
theorem dElem_32 : decode prog_1_method_38_code 32 = .ok (.dup, 1) := by decide +kernel
theorem dElem_33 : decode prog_1_method_38_code 33 = .ok (.ldc_w 286, 3) := by decide +kernel
theorem dElem_36 : decode prog_1_method_38_code 36 = .ok (.invokespecial 288, 3) := by decide +kernel
theorem dElem_39 : decode prog_1_method_38_code 39 = .ok (.athrow, 1) := by decide +kernel
theorem dElem_40 : decode prog_1_method_38_code 40 = .ok (.aload_n 0, 1) := by decide +kernel
theorem dElem_41 : decode prog_1_method_38_code 41 = .ok (.getfield 29, 3) := by decide +kernel
theorem dElem_44 : decode prog_1_method_38_code 44 = .ok (.iload_n 1, 1) := by decide +kernel
theorem dElem_45 : decode prog_1_method_38_code 45 = .ok (.iload_n 2, 1) := by decide +kernel
theorem dElem_46 : decode prog_1_method_38_code 46 = .ok (.invokevirtual 270, 3) := by decide +kernel
theorem dElem_49 : decode prog_1_method_38_code 49 = .ok (.ifCond .ne 14, 3) := by decide +kernel
theorem dElem_52 : decode prog_1_method_38_code 52 = .ok (.new 284, 3) := by decide +kernel
theorem dElem_55 : decode prog_1_method_38_code 55 = .ok (.dup, 1) := by decide +kernel
theorem dElem_56 : decode prog_1_method_38_code 56 = .ok (.ldc_w 289, 3) := by decide +kernel
theorem dElem_59 : decode prog_1_method_38_code 59 = .ok (.invokespecial 288, 3) := by decide +kernel
theorem dElem_62 : decode prog_1_method_38_code 62 = .ok (.athrow, 1) := by decide +kernel
theorem dElem_63 : decode prog_1_method_38_code 63 = .ok (.aload_n 0, 1) := by decide +kernel
theorem dElem_64 : decode prog_1_method_38_code 64 = .ok (.getfield 29, 3) := by decide +kernel
theorem dElem_67 : decode prog_1_method_38_code 67 = .ok (.iload_n 1, 1) := by decide +kernel
theorem dElem_68 : decode prog_1_method_38_code 68 = .ok (.iload_n 2, 1) := by decide +kernel
theorem dElem_69 : decode prog_1_method_38_code 69 = .ok (.invokevirtual 248, 3) := by decide +kernel
theorem dElem_72 : decode prog_1_method_38_code 72 = .ok (.i2l, 1) := by decide +kernel
theorem dElem_73 : decode prog_1_method_38_code 73 = .ok (.lreturn, 1) := by decide +kernel
theorem dLel_0 : decode method_3_code 0 = .ok (.aload_n 3, 1) := by decide +kernel
theorem dLel_1 : decode method_3_code 1 = .ok (.iconst 0, 1) := by decide +kernel
theorem dLel_2 : decode method_3_code 2 = .ok (.aload_n 0, 1) := by decide +kernel
theorem dLel_3 : decode method_3_code 3 = .ok (.iload_n 1, 1) := by decide +kernel
theorem dLel_4 : decode method_3_code 4 = .ok (.iload_n 2, 1) := by decide +kernel
theorem dLel_5 : decode method_3_code 5 = .ok (.invokevirtual 7, 3) := by decide +kernel
theorem dLel_8 : decode method_3_code 8 = .ok (.lastore, 1) := by decide +kernel
theorem dLel_9 : decode method_3_code 9 = .ok (.goto 11, 3) := by decide +kernel
theorem dLel_12 : decode method_3_code 12 = .ok (.astore 4, 2) := by decide +kernel
theorem dLel_14 : decode method_3_code 14 = .ok (.iconst 1, 1) := by decide +kernel
theorem dLel_15 : decode method_3_code 15 = .ok (.ireturn, 1) := by decide +kernel
theorem dLel_16 : decode method_3_code 16 = .ok (.astore 4, 2) := by decide +kernel
theorem dLel_18 : decode method_3_code 18 = .ok (.iconst 2, 1) := by decide +kernel
theorem dLel_19 : decode method_3_code 19 = .ok (.ireturn, 1) := by decide +kernel
theorem dLel_20 : decode method_3_code 20 = .ok (.iconst 0, 1) := by decide +kernel
theorem dLel_21 : decode method_3_code 21 = .ok (.ireturn, 1) := by decide +kernel
abbrev nmToss : MethodName := ⟨"OnlyInDisguise", "toss", "(I)I"⟩
abbrev hhToss : List (Nat × Nat × Nat × Nat) := [(34, 40, 43, 284), (34, 40, 48, 277), (34, 40, 56, 307)]
abbrev wsToss : List Cond := .codeWith nmToss prog_1_method_41_code 6 (some .int) hhToss :: aTbl
/-- what a method that may throw needs, by the store -/
def xPc (ad : Nat → Nat → Nat) (cA : ClassId) (D : va_G) (as : List aV) (σ : aS) : Array Value → State → Prop := va_Pc (as.map (cV ad)) (fun U => va_P D aCl (aWo ad cA σ) U.heap ∧ va_K D aCl [(cA, .int)] U ∧ va_D (aA ad) (aWo ad cA σ) ∧ aNe U ∧ xT (aA ad) U U.heap)
theorem xPc_blind {ad : Nat → Nat → Nat} {cA : ClassId} {D : va_G} {as : List aV} {σ : aS} : FrameBlind (xPc ad cA D as σ) := by
  intro a U g mk q
  obtain ⟨q0, qP, qK, qD, qN, qT⟩ := q
  exact ⟨q0, qP, va_K.moved (u := U) (U := U.calling g mk a) (Vm.Alike.refl U.vm) qK, qD, aNe_same rfl qN, xT.call qT⟩
theorem good_fail : GoodIn aTbl wsFail := by
  intro w hw
  have hw2 : w ∈ aTbl := (List.mem_cons.mp hw).elim (fun e => by rw [e]; exact (in_aTbl 724 (by decide +kernel) rfl)) id
  exact ⟨hw2, (aTbl_good w hw2).2⟩
theorem fail_blind {A : Nat → Prop} {vs : List Value} : FrameBlind (va_Pc vs (fun U => xT A U U.heap)) := by
  intro a U g mk q
  obtain ⟨q0, q1⟩ := q
  exact ⟨q0, xT.call q1⟩
/-- nothing is thrown -/
def xNo : String → State → State → Prop := fun _ _ _ => False
theorem A_toss_x {kd fg : Int} (hk : 0 ≤ kd ∧ kd ≤ 7) : (xF kd fg = 0 → (if kd = 1 ∨ kd = 3 ∨ kd = 6 ∨ fg = 0 then (-15 : Int) else if kd = 7 then 299 else if kd = 2 ∨ kd = 4 then 100 + fg else fg) = -15) ∧ (xF kd fg = 1 → (if kd = 1 ∨ kd = 3 ∨ kd = 6 ∨ fg = 0 then (-15 : Int) else if kd = 7 then 299 else if kd = 2 ∨ kd = 4 then 100 + fg else fg) = fg) ∧ (xF kd fg = 2 → (if kd = 1 ∨ kd = 3 ∨ kd = 6 ∨ fg = 0 then (-15 : Int) else if kd = 7 then 299 else if kd = 2 ∨ kd = 4 then 100 + fg else fg) = 100 + fg) ∧ (xF kd fg = 3 → kd = 7 ∧ (if kd = 1 ∨ kd = 3 ∨ kd = 6 ∨ fg = 0 then (-15 : Int) else if kd = 7 then 299 else if kd = 2 ∨ kd = 4 then 100 + fg else fg) = 299) ∧ (xF kd fg = 0 ∨ xF kd fg = 1 ∨ xF kd fg = 2 ∨ xF kd fg = 3) := by
  unfold xF
  refine ⟨fun h => ?_, fun h => ?_, fun h => ?_, fun h => ?_, ?_⟩ <;> (repeat' split at h) <;> (repeat' split) <;> omega
set_option maxHeartbeats 2000000 in
theorem c_toss (l : Launch) (hst : l.stackTraces = false) (D : va_G) (cA : ClassId) (ad : Nat → Nat → Nat) (d : Int) (σ : aS) (hs : SH σ) (hd : aIr d) : vx_Met l nmToss wsToss { frames := 8, cells := 1, slots := 6, locals := 200 } (xPc ad cA D [aR 0 0, aI d] σ) (va_Qi (fun (r : Int32) (_ : Unit) => r = Int32.ofInt (A_toss (σ 10 0 d) (σ 11 0 d) (σ 12 0 d) d)) (fun _ t => va_P D aCl (aWo ad cA σ) t.heap) (aA ad)) xNo 1 6 (aA ad) := by
  refine vx_ofWH (cc := prog_1_method_41_code) (maxL := 6) (ret := some .int) (hh := hhToss) (by decide) rfl ?_
  intro p e s m args below meth c s₁ B hml hv
  obtain ⟨rfl, hP, hK, hD, hN, hT⟩ := hv
  have hx := B.exec
  have hb := B.bytes
  have hr := B.returns
  have hts := atoms_spec (ws := wsToss) B.pre
  have hws : ∀ w ∈ aTbl, w.before _ s = true := fun w hw => hts w (List.mem_cons_of_mem _ hw)
  have hTab := vx_table (x := nmToss) B (hts _ List.mem_cons_self)
  have hown : s.vm.findClass "OnlyInDisguise" = some m.cls := findClass_of_methodNamed B.named
  have hlocks := B.notSynchronized
  have hS : va_S (aA ad) s.heap s.heap [] := va_S.rf
  have hl := lv_entry ([aR 0 0, aI d].map (cV ad)) (n := 6) (Nat.le_of_ble_eq_true rfl)
  rw [lg_entry_eq]
  generalize (lg_sl ([aR 0 0, aI d].map (cV ad)) ++ List.replicate (6 - (lg_sl ([aR 0 0, aI d].map (cV ad))).length) Slot.unset).toArray = ls at hl ⊢
  have hl : lv_has ls 6 [(0, .ref (ad 0 0)), (1, .int (Int32.ofInt d))] := hl
  have blk := lkF_rng (σ 10 0 d) d 1
  generalize hRR : (headSpec wsToss { frames := 8, cells := 1, slots := 6, locals := 200 }).room = RR
  have hR1 : RR.frames = 8 ∧ RR.cells = 1 ∧ RR.slots = 6 ∧ RR.locals = 200 := by subst hRR; exact ⟨rfl, rfl, rfl, rfl⟩
  refine lv_aload_n hx hb dToss_0 rfl (lv_at hl 0 rfl) ?_
  refine w_get (f := (9, some 0)) (kf := 4) (ci := 4) (t := 0) (c0 := 0) hx hb hown hws hK hP kX6_ok rfl (by decide) (by decide) rfl rfl dToss_1 ?_
  refine lv_iload_n hx hb dToss_4 rfl (lv_at hl 1 rfl) ?_
  refine w_V (as := [aI d]) (rest := []) (t := 9) (c0 := 0) hx hb hml hl.1 hown hws hK hN hP hD hS lX6_138 ⟨by omega, by omega⟩ (by decide) (by decide) rfl rfl (Nat.le_of_ble_eq_true rfl) rfl dToss_5 ⟨by omega, by omega⟩ (cS_lackOfOne l d σ hs hd) (fun r σ' H locs hq hP hD hS _ _ => ?_)
  obtain ⟨hq1, hq2⟩ := hq
  subst hq1
  have hq3 := hq2.symm
  subst hq3
  refine lv_istore_n (lv' := [(2, .int (Int32.ofInt (lkF (σ 10 0 d) d 1))), (0, .ref (ad 0 0)), (1, .int (Int32.ofInt d))]) hx hb dToss_8 rfl hl (by decide) rfl (fun ls hl => ?_)
  refine lv_iload_n hx hb dToss_9 rfl (lv_at hl 0 rfl) ?_
  refine lv_if_eq (tgt := 15) hx hb dToss_10 rfl (fun h1 => ?_) (fun h1 => ?_)
  · have h1' : lkF (σ 10 0 d) d 1 = 0 := (aIn_eq (y := 0) ⟨by omega, by omega⟩ (by decide)).mp h1
    obtain ⟨hdd, hct⟩ := lkF_d h1'
    have bs := hs.1 d hdd.1 hdd.2
    have ea : A_toss (σ 10 0 d) (σ 11 0 d) (σ 12 0 d) d = (if σ 11 0 d = 1 ∨ σ 11 0 d = 3 ∨ σ 11 0 d = 6 ∨ σ 12 0 d = 0 then -15 else if σ 11 0 d = 7 then 299 else if σ 11 0 d = 2 ∨ σ 11 0 d = 4 then 100 + σ 12 0 d else σ 12 0 d) := by
      unfold A_toss
      rw [if_pos h1']
    rw [ea]
    obtain ⟨x0, x1, x2, x3, xr⟩ := A_toss_x (kd := σ 11 0 d) (fg := σ 12 0 d) bs.2.1
    refine lv_aload_n hx hb dToss_15 rfl (lv_at hl 1 rfl) ?_
    refine w_get (f := (9, some 0)) (kf := 4) (ci := 4) (t := 0) (c0 := 0) hx hb hown hws hK hP kX6_ok rfl (by decide) (by decide) rfl rfl dToss_16 ?_
    refine lv_iload_n hx hb dToss_19 rfl (lv_at hl 2 rfl) ?_
    refine w_V (as := [aI d]) (rest := []) (t := 9) (c0 := 0) hx hb hml hl.1 hown hws hK hN hP hD hS lX6_141 ⟨by omega, by omega⟩ (by decide) (by decide) rfl rfl (Nat.le_of_ble_eq_true rfl) rfl dToss_20 ⟨by omega, by omega⟩ (cS_kindOn l d σ hs hdd.1 hdd.2) (fun r σ' H locs hq hP hD hS _ _ => ?_)
    obtain ⟨hq1, hq2⟩ := hq
    subst hq1
    have hq3 := hq2.symm
    subst hq3
    refine lv_istore_n (lv' := [(3, .int (Int32.ofInt (σ 11 0 d))), (2, .int (Int32.ofInt (lkF (σ 10 0 d) d 1))), (0, .ref (ad 0 0)), (1, .int (Int32.ofInt d))]) hx hb dToss_23 rfl hl (by decide) rfl (fun ls hl => ?_)
    refine lv_aload_n hx hb dToss_24 rfl (lv_at hl 2 rfl) ?_
    refine w_get (f := (9, some 0)) (kf := 4) (ci := 4) (t := 0) (c0 := 0) hx hb hown hws hK hP kX6_ok rfl (by decide) (by decide) rfl rfl dToss_25 ?_
    refine lv_iload_n hx hb dToss_28 rfl (lv_at hl 3 rfl) ?_
    refine w_V (as := [aI d]) (rest := []) (t := 9) (c0 := 0) hx hb hml hl.1 hown hws hK hN hP hD hS lX6_144 ⟨by omega, by omega⟩ (by decide) (by decide) rfl rfl (Nat.le_of_ble_eq_true rfl) rfl dToss_29 ⟨by omega, by omega⟩ (cS_figureOn l d σ hs hdd.1 hdd.2) (fun r σ' H locs hq hP hD hS _ _ => ?_)
    obtain ⟨hq1, hq2⟩ := hq
    subst hq1
    have hq3 := hq2.symm
    subst hq3
    refine lv_istore (lv' := [(4, .int (Int32.ofInt (σ 12 0 d))), (3, .int (Int32.ofInt (σ 11 0 d))), (2, .int (Int32.ofInt (lkF (σ 10 0 d) d 1))), (0, .ref (ad 0 0)), (1, .int (Int32.ofInt d))]) hx hb dToss_32 hl (by decide) rfl (fun ls hl => ?_)
    refine lv_iload_n hx hb dToss_34 rfl (lv_at hl 1 rfl) ?_
    refine lv_iload hx hb dToss_35 (lv_at hl 0 rfl) ?_
    have hend : ∀ (pc : Nat) (x : Int) (H1 : Heap) (locs1 : List Loc) (ls1 : Array Slot), decode prog_1_method_41_code pc = .ok (.ireturn, 1) → x = (if σ 11 0 d = 1 ∨ σ 11 0 d = 3 ∨ σ 11 0 d = 6 ∨ σ 12 0 d = 0 then -15 else if σ 11 0 d = 7 then 299 else if σ 11 0 d = 2 ∨ σ 11 0 d = 4 then 100 + σ 12 0 d else σ 12 0 d) → va_P D aCl (aWo ad cA σ) H1 → va_S (aA ad) s.heap H1 locs1 → W p l e RR s m ([aR 0 0, aI d].map (cV ad)).toArray below meth c H1 locs1 1 6 (vx_MQ below (va_Qi (fun (r : Int32) (_ : Unit) => r = Int32.ofInt (if σ 11 0 d = 1 ∨ σ 11 0 d = 3 ∨ σ 11 0 d = 6 ∨ σ 12 0 d = 0 then -15 else if σ 11 0 d = 7 then 299 else if σ 11 0 d = 2 ∨ σ 11 0 d = 4 then 100 + σ 12 0 d else σ 12 0 d)) (fun _ t => va_P D aCl (aWo ad cA σ) t.heap) (aA ad)) xNo ([aR 0 0, aI d].map (cV ad)).toArray s 1 6 (aA ad)) (F0 m pc ls1 [.int (Int32.ofInt x)]) := by
      intro pc x H1 locs1 ls1 hdg hxe hP1 hS1
      exact vx_ret (W.iret hx hb hr (fun t ht hW => ⟨⟨_, (), rfl, by rw [hxe], by show va_P D aCl (aWo ad cA σ) t.heap; rw [ht]; exact hP1⟩, hS1.F ht⟩) hS1.2.2 hdg)
    refine vx_callv (A0 := aA ad) (vx_runS (As := [.int (Int32.ofInt (σ 11 0 d)), .int (Int32.ofInt (σ 12 0 d))]) (rest := []) ⟨hx, hb, hml, hown, hws⟩ (c_fail l hst (aA ad) (σ 11 0 d) (σ 12 0 d) bs.2.1 bs.2.2.1) ⟨callB_of 2 hws good_fail rfl rfl rfl (hws _ (in_aTbl 52 (by decide +kernel) rfl)) (hws _ (in_aTbl 722 (by decide +kernel) rfl)) ⟨by decide, by decide, by decide +kernel⟩ ⟨by show 6 + 1 ≤ RR.frames; omega, by show 8 + (2 + 11) + 90 ≤ RR.locals; omega⟩, hws _ (in_aTbl 723 (by decide +kernel) rfl)⟩ ⟨fail_blind, fun U hU hW => ⟨rfl, hT.at hW hU hS⟩⟩ rfl rfl hl.1 rfl (lv_room (Nat.le_of_ble_eq_true rfl)) dToss_37 ⟨by omega, by omega⟩) hS (fun _ _ h => h.elim) (fun _ h => h) (fun _ _ h => h.elim) (fun E ce q9 u t H1 locs1 ht hvm hpx hB hz hk hS hcell hcv hcl => ?_) (fun u t H1 locs1 ht hvm h5 _ hz hk hS => ?_)
    · have hP := hP.kept (H1 := H1) (fun k q hq => hk q.1 ((hP k q hq).lt) (fun h => h))
      have hpx : xF (σ 11 0 d) (σ 12 0 d) ≠ 0 := hpx
      have hB : E = xC (xF (σ 11 0 d) (σ 12 0 d)) := hB
      rcases xr with q | q | q | q
      · exact absurd q hpx
      · have hE : E = xISE := by rw [hB, q]; rfl
        subst hE
        refine vx_catch hown [] ⟨34, 40, 43, 284⟩ [⟨34, 40, 48, 277⟩, ⟨34, 40, 56, 307⟩] (hTab.trans rfl) (fun z hz => nomatch hz) (by decide) (by decide) (hws _ (in_aTbl 719 (by decide +kernel) rfl)) (va_Nw.use rfl (hT.1 (.castable xISE xISE) (by decide))) hcell hcv hcl ?_
        refine lv_astore (i := 5) (lv' := [(5, .ref q9), (4, .int (Int32.ofInt (σ 12 0 d))), (3, .int (Int32.ofInt (σ 11 0 d))), (2, .int (Int32.ofInt (lkF (σ 10 0 d) d 1))), (0, .ref (ad 0 0)), (1, .int (Int32.ofInt d))]) hx hb dToss_43 hl (by decide) rfl (fun ls hl => ?_)
        refine lv_iload hx hb dToss_45 (lv_at hl 1 rfl) ?_
        exact hend 47 _ H1 locs1 _ dToss_47 (x1 q).symm hP hS
      · have hE : E = xIAE := by rw [hB, q]; rfl
        subst hE
        refine vx_catch hown [⟨34, 40, 43, 284⟩] ⟨34, 40, 48, 277⟩ [⟨34, 40, 56, 307⟩] (hTab.trans rfl) (fun z hz => ?_) (by decide) (by decide) (hws _ (in_aTbl 720 (by decide +kernel) rfl)) (va_Nw.use rfl (hT.1 (.castable xIAE xIAE) (by decide))) hcell hcv hcl ?_
        · rcases List.mem_singleton.mp hz with rfl
          exact Or.inr ⟨by decide, xISE, hws _ (in_aTbl 719 (by decide +kernel) rfl), hT.2.1 (xIAE, xISE) (by decide)⟩
        · refine lv_astore (i := 5) (lv' := [(5, .ref q9), (4, .int (Int32.ofInt (σ 12 0 d))), (3, .int (Int32.ofInt (σ 11 0 d))), (2, .int (Int32.ofInt (lkF (σ 10 0 d) d 1))), (0, .ref (ad 0 0)), (1, .int (Int32.ofInt d))]) hx hb dToss_48 hl (by decide) rfl (fun ls hl => ?_)
          refine lv_bipush (v := Int32.ofInt 100) hx hb dToss_50 (by decide) ?_
          refine lv_iload hx hb dToss_52 (lv_at hl 1 rfl) ?_
          refine lv_iadd hx hb dToss_54 ?_
          rw [← Int32.ofInt_add]
          exact hend 55 _ H1 locs1 _ dToss_55 (x2 q).symm hP hS
      · have hE : E = xUOE := by rw [hB, q]; rfl
        subst hE
        refine vx_catch hown [⟨34, 40, 43, 284⟩, ⟨34, 40, 48, 277⟩] ⟨34, 40, 56, 307⟩ [] (hTab.trans rfl) (fun z hz => ?_) (by decide) (by decide) (hws _ (in_aTbl 721 (by decide +kernel) rfl)) (va_Nw.use rfl (hT.1 (.castable xUOE xUOE) (by decide))) hcell hcv hcl ?_
        · simp only [List.mem_cons, List.not_mem_nil, or_false] at hz
          rcases hz with rfl | rfl
          · exact Or.inr ⟨by decide, xISE, hws _ (in_aTbl 719 (by decide +kernel) rfl), hT.2.1 (xUOE, xISE) (by decide)⟩
          · exact Or.inr ⟨by decide, xIAE, hws _ (in_aTbl 720 (by decide +kernel) rfl), hT.2.1 (xUOE, xIAE) (by decide)⟩
        · refine lv_astore (i := 5) (lv' := [(5, .ref q9), (4, .int (Int32.ofInt (σ 12 0 d))), (3, .int (Int32.ofInt (σ 11 0 d))), (2, .int (Int32.ofInt (lkF (σ 10 0 d) d 1))), (0, .ref (ad 0 0)), (1, .int (Int32.ofInt d))]) hx hb dToss_56 hl (by decide) rfl (fun ls hl => ?_)
          refine lv_sipush (v := Int32.ofInt 200) hx hb dToss_58 (by decide) ?_
          refine lv_iload_n hx hb dToss_61 rfl (lv_at hl 2 rfl) ?_
          refine lv_iload hx hb dToss_62 (lv_at hl 1 rfl) ?_
          refine w_S (as := [aI (σ 11 0 d), aI (σ 12 0 d)]) (rest := [.int (Int32.ofInt 200)]) hx hb hml hl.1 hown hws hK hN hP hD hS lX6_309 ⟨by omega, by omega⟩ rfl (Nat.le_of_ble_eq_true rfl) rfl dToss_64 ⟨by omega, by omega⟩ (cC_borne l (σ 11 0 d) (σ 12 0 d) σ bs.2.1 bs.2.2.1) (fun r σ' H locs hq hP hD hS _ _ => ?_)
          obtain ⟨hq1, hq2⟩ := hq
          subst hq1
          have hq3 := hq2.symm
          subst hq3
          refine lv_iadd hx hb dToss_67 ?_
          show W _ _ _ _ _ _ _ _ _ _ _ _ _ _ _ (F0 m 68 ls [.int (Int32.ofInt 200 + Int32.ofInt (beF (σ 11 0 d) (σ 12 0 d)))])
          rw [← Int32.ofInt_add]
          refine hend 68 _ H locs _ dToss_68 ?_ hP hS
          rw [(x3 q).2, (x3 q).1]
          rfl
    · have hP := hP.kept (H1 := H1) (fun k q hq => hk q.1 ((hP k q hq).lt) (fun h => h))
      have h5 : xF (σ 11 0 d) (σ 12 0 d) = 0 := h5
      refine lv_goto (tgt := 69) hx hb dToss_40 rfl ?_
      refine lv_bipush (v := Int32.ofInt (-15)) hx hb dToss_69 (by decide) ?_
      exact hend 71 _ H1 locs1 _ dToss_71 (x0 h5).symm hP hS
  · have h1' : ¬ lkF (σ 10 0 d) d 1 = 0 := fun q => h1 (by rw [q]; rfl)
    refine lv_iload_n hx hb dToss_13 rfl (lv_at hl 0 rfl) ?_
    refine vx_ret (W.widen (k := 1) (n := 6) (Nat.le_of_ble_eq_true rfl) (Nat.le_of_ble_eq_true rfl) ?_)
    exact W.iret hx hb hr (fun t ht hW => ⟨⟨_, (), rfl, by unfold A_toss; rw [if_neg h1'], by show va_P D aCl (aWo ad cA σ) t.heap; rw [ht]; exact hP⟩, hS.F ht⟩) hS.2.2 dToss_14
abbrev nmElem : MethodName := ⟨"OnlyInDisguise", "element", "(II)J"⟩
abbrev wsElem : List Cond := .code nmElem prog_1_method_38_code 3 (some .long) :: aTbl
theorem aIn_long {x : Int} (h : aIr x) : (Int32.ofInt x).toInt64 = Int64.ofInt x := by
  apply Int64.toInt_inj.mp
  rw [Int32.toInt_toInt64, aIn_toInt h, Int64.toInt_ofInt_of_le (by omega) (by omega)]
set_option maxHeartbeats 2000000 in
theorem c_elem (l : Launch) (hst : l.stackTraces = false) (D : va_G) (cA : ClassId) (ad : Nat → Nat → Nat) (d i : Int) (σ : aS) (hs : SH σ) (hd : aIr d) (hi : aIr i) : vx_Met l nmElem wsElem { frames := 7, cells := 1, slots := 6, locals := 160 } (xPc ad cA D [aR 0 0, aI d, aI i] σ) (va_Ql (fun (r : Int64) (_ : Unit) => thF (σ 10 0 d) (σ 14 0 d) d i = 0 ∧ r = Int64.ofInt (vaF σ d i)) (fun _ t => va_P D aCl (aWo ad cA σ) t.heap) (aA ad)) (vx_X (fun _ : Unit => thF (σ 10 0 d) (σ 14 0 d) d i ≠ 0) (fun E _ t => E = (if thF (σ 10 0 d) (σ 14 0 d) d i = 1 then xIAE else xISE) ∧ va_P D aCl (aWo ad cA σ) t.heap) (aA ad)) 1 6 (aA ad) := by
  refine vx_ofW (cc := prog_1_method_38_code) (maxL := 3) (ret := some .long) (by decide) rfl ?_
  intro p e s m args below meth c s₁ B hml htb hv
  obtain ⟨rfl, hP, hK, hD, hN, hT⟩ := hv
  have hx := B.exec
  have hb := B.bytes
  have hr := B.returns
  have hts := atoms_spec (ws := wsElem) B.pre
  have hws : ∀ w ∈ aTbl, w.before _ s = true := fun w hw => hts w (List.mem_cons_of_mem _ hw)
  have hown : s.vm.findClass "OnlyInDisguise" = some m.cls := findClass_of_methodNamed B.named
  have hlocks := B.notSynchronized
  have hS : va_S (aA ad) s.heap s.heap [] := va_S.rf
  have hl := lv_entry ([aR 0 0, aI d, aI i].map (cV ad)) (n := 3) (Nat.le_of_ble_eq_true rfl)
  rw [lg_entry_eq]
  generalize (lg_sl ([aR 0 0, aI d, aI i].map (cV ad)) ++ List.replicate (3 - (lg_sl ([aR 0 0, aI d, aI i].map (cV ad))).length) Slot.unset).toArray = ls at hl ⊢
  have hl : lv_has ls 3 [(0, .ref (ad 0 0)), (1, .int (Int32.ofInt d)), (2, .int (Int32.ofInt i))] := hl
  have blk := lkF_rng (σ 10 0 d) d 2
  generalize hRR : (headSpec wsElem { frames := 7, cells := 1, slots := 6, locals := 160 }).room = RR
  have hR1 : RR.frames = 7 ∧ RR.cells = 1 ∧ RR.slots = 6 ∧ RR.locals = 160 := by subst hRR; exact ⟨rfl, rfl, rfl, rfl⟩
  refine lv_iload_n hx hb dElem_0 rfl (lv_at hl 1 rfl) ?_
  refine w_S (as := [aI d]) (rest := []) hx hb hml hl.1 hown hws hK hN hP hD hS lX6_132 ⟨by omega, by omega⟩ rfl (Nat.le_of_ble_eq_true rfl) rfl dElem_1 ⟨by omega, by omega⟩ (cC_isShelf l d σ hd) (fun r σ' H locs hq hP hD hS _ _ => ?_)
  obtain ⟨hq1, hq2⟩ := hq
  subst hq1
  have hq3 := hq2.symm
  subst hq3
  refine lv_if_ne (x := Int32.ofInt (if 0 ≤ d ∧ d < 8 then 1 else 0)) (tgt := 18) hx hb dElem_4 rfl (fun h1 => ?_) (fun h1 => ?_)
  · have hdd : 0 ≤ d ∧ d < 8 := by
      by_cases z : 0 ≤ d ∧ d < 8
      · exact z
      · exact absurd (by rw [if_neg z]; rfl) h1
    have bs := hs.1 d hdd.1 hdd.2
    refine lv_aload_n hx hb dElem_18 rfl (lv_at hl 0 rfl) ?_
    refine w_get (f := (9, some 0)) (kf := 4) (ci := 4) (t := 0) (c0 := 0) hx hb hown hws hK hP kX6_ok rfl (by decide) (by decide) rfl rfl dElem_19 ?_
    refine lv_iload_n hx hb dElem_22 rfl (lv_at hl 1 rfl) ?_
    refine w_V (as := [aI d]) (rest := []) (t := 9) (c0 := 0) hx hb hml hl.1 hown hws hK hN hP hD hS lX6_54 ⟨by omega, by omega⟩ (by decide) (by decide) rfl rfl (Nat.le_of_ble_eq_true rfl) rfl dElem_23 ⟨by omega, by omega⟩ (cS_lackOfRow l d σ hs hd) (fun r σ' H locs hq hP hD hS _ _ => ?_)
    obtain ⟨hq1, hq2⟩ := hq
    subst hq1
    have hq3 := hq2.symm
    subst hq3
    refine lv_if_eq (x := Int32.ofInt (lkF (σ 10 0 d) d 2)) (tgt := 40) hx hb dElem_26 rfl (fun h2 => ?_) (fun h2 => ?_)
    · have h2' : lkF (σ 10 0 d) d 2 = 0 := (aIn_eq (y := 0) ⟨by omega, by omega⟩ (by decide)).mp h2
      obtain ⟨-, hct⟩ := lkF_d h2'
      refine lv_aload_n hx hb dElem_40 rfl (lv_at hl 0 rfl) ?_
      refine w_get (f := (9, some 0)) (kf := 4) (ci := 4) (t := 0) (c0 := 0) hx hb hown hws hK hP kX6_ok rfl (by decide) (by decide) rfl rfl dElem_41 ?_
      refine lv_iload_n hx hb dElem_44 rfl (lv_at hl 1 rfl) ?_
      refine lv_iload_n hx hb dElem_45 rfl (lv_at hl 2 rfl) ?_
      refine w_V (as := [aI d, aI i]) (rest := []) (t := 9) (c0 := 0) hx hb hml hl.1 hown hws hK hN hP hD hS lX6_270 ⟨by omega, by omega⟩ (by decide) (by decide) rfl rfl (Nat.le_of_ble_eq_true rfl) rfl dElem_46 ⟨by omega, by omega⟩ (cS_hasPlace l d i σ hs hdd.1 hdd.2 hi) (fun r σ' H locs hq hP hD hS _ _ => ?_)
      obtain ⟨hq1, hq2⟩ := hq
      subst hq1
      have hq3 := hq2.symm
      subst hq3
      refine lv_if_ne (x := Int32.ofInt (if 0 ≤ i ∧ i < σ 14 0 d then 1 else 0)) (tgt := 63) hx hb dElem_49 rfl (fun h3 => ?_) (fun h3 => ?_)
      · have hii : 0 ≤ i ∧ i < σ 14 0 d := by
          by_cases z : 0 ≤ i ∧ i < σ 14 0 d
          · exact z
          · exact absurd (by rw [if_neg z]; rfl) h3
        have hth : thF (σ 10 0 d) (σ 14 0 d) d i = 0 := by
          unfold thF
          rw [if_pos hdd, if_pos ⟨hct, hii⟩]
        refine lv_aload_n hx hb dElem_63 rfl (lv_at hl 0 rfl) ?_
        refine w_get (f := (9, some 0)) (kf := 4) (ci := 4) (t := 0) (c0 := 0) hx hb hown hws hK hP kX6_ok rfl (by decide) (by decide) rfl rfl dElem_64 ?_
        refine lv_iload_n hx hb dElem_67 rfl (lv_at hl 1 rfl) ?_
        refine lv_iload_n hx hb dElem_68 rfl (lv_at hl 2 rfl) ?_
        refine w_V (as := [aI d, aI i]) (rest := []) (t := 9) (c0 := 0) hx hb hml hl.1 hown hws hK hN hP hD hS lX6_248 ⟨by omega, by omega⟩ (by decide) (by decide) rfl rfl (Nat.le_of_ble_eq_true rfl) rfl dElem_69 ⟨by omega, by omega⟩ (cS_valueAt l d i σ hs hdd.1 hdd.2 hi) (fun r σ' H locs hq hP hD hS _ _ => ?_)
        obtain ⟨hq1, hq2⟩ := hq
        subst hq1
        have hq3 := hq2.symm
        subst hq3
        refine lv_i2l (x := Int32.ofInt (vaF σ d i)) (v := Int64.ofInt (vaF σ d i)) hx hb dElem_72 (aIn_long (vaF_rng hs hdd.1 hdd.2)) ?_
        refine vx_ret (W.widen (k := 1) (n := 6) (Nat.le_of_ble_eq_true rfl) (Nat.le_of_ble_eq_true rfl) ?_)
        exact W.lret hx hb hr (fun t ht hW => ⟨⟨_, (), rfl, ⟨hth, rfl⟩, by show va_P D aCl (aWo ad cA σ) t.heap; rw [ht]; exact hP⟩, hS.F ht⟩) hS.2.2 dElem_73
      · have hii : ¬ (0 ≤ i ∧ i < σ 14 0 d) := fun z => by
          rw [if_pos z] at h3
          exact absurd h3 (by decide)
        have hth : thF (σ 10 0 d) (σ 14 0 d) d i = 2 := by
          unfold thF
          rw [if_pos hdd, if_neg (fun z => hii z.2)]
        obtain ⟨sa, hs9⟩ := hT.2.2.1 ("OnlyInDisguise", 289, "no such place") (by decide)
        exact vx_throwSW hx hb hst hown (xw_5).2.2.2.2.1 (xw_5).2.2.2.2.2 (hws _ (xw_5).1.1) (hws _ (xw_5).1.2) hs9 (xW_hat xw_5 hws hT) (xw_5).2.2.2.1 hT.2.2.2.1 hT.2.2.2.2 hS (hl.1.trans hml.symm) dElem_52 dElem_55 dElem_56 dElem_59 dElem_62 (fun x h => (htb x h).elim) (by show 5 < RR.frames; omega) (by show 0 + 82 ≤ RR.locals; omega) (by show 0 + 1 ≤ RR.cells; omega) (by show 0 + 6 ≤ RR.slots; omega) hlocks (fun t hvm h1 h2 => ⟨(), by show thF (σ 10 0 d) (σ 14 0 d) d i ≠ 0; rw [hth]; decide, ⟨by rw [hth]; rfl, hP.kept (fun k q hq => h2 q.1 ((hP k q hq).lt))⟩, ⟨Nat.le_trans hS.1 h1, fun q hq hn => (h2 q (Nat.lt_of_lt_of_le hq hS.1)).trans (hS.2.1 q hq hn)⟩⟩) hS.2.2 (Nat.le_of_ble_eq_true rfl) (Nat.le_of_ble_eq_true rfl)
    · have h2' : ¬ lkF (σ 10 0 d) d 2 = 0 := fun q => h2 (by rw [q]; rfl)
      have hth : thF (σ 10 0 d) (σ 14 0 d) d i = 2 := by
        unfold thF
        rw [if_pos hdd, if_neg (fun z => h2' (by unfold lkF; rw [if_pos hdd, z.1]; rfl))]
      obtain ⟨sa, hs9⟩ := hT.2.2.1 ("OnlyInDisguise", 286, "no row") (by decide)
      exact vx_throwSW hx hb hst hown (xw_5).2.2.2.2.1 (xw_5).2.2.2.2.2 (hws _ (xw_5).1.1) (hws _ (xw_5).1.2) hs9 (xW_hat xw_5 hws hT) (xw_5).2.2.2.1 hT.2.2.2.1 hT.2.2.2.2 hS (hl.1.trans hml.symm) dElem_29 dElem_32 dElem_33 dElem_36 dElem_39 (fun x h => (htb x h).elim) (by show 5 < RR.frames; omega) (by show 0 + 82 ≤ RR.locals; omega) (by show 0 + 1 ≤ RR.cells; omega) (by show 0 + 6 ≤ RR.slots; omega) hlocks (fun t hvm h1 h2 => ⟨(), by show thF (σ 10 0 d) (σ 14 0 d) d i ≠ 0; rw [hth]; decide, ⟨by rw [hth]; rfl, hP.kept (fun k q hq => h2 q.1 ((hP k q hq).lt))⟩, ⟨Nat.le_trans hS.1 h1, fun q hq hn => (h2 q (Nat.lt_of_lt_of_le hq hS.1)).trans (hS.2.1 q hq hn)⟩⟩) hS.2.2 (Nat.le_of_ble_eq_true rfl) (Nat.le_of_ble_eq_true rfl)
  · have hdd : ¬ (0 ≤ d ∧ d < 8) := fun z => by
      rw [if_pos z] at h1
      exact absurd h1 (by decide)
    have hth : thF (σ 10 0 d) (σ 14 0 d) d i = 1 := by
      unfold thF
      rw [if_neg hdd]
    obtain ⟨sa, hs9⟩ := hT.2.2.1 ("OnlyInDisguise", 279, "no such shelf") (by decide)
    exact vx_throwSW hx hb hst hown (xw_4).2.2.2.2.1 (xw_4).2.2.2.2.2 (hws _ (xw_4).1.1) (hws _ (xw_4).1.2) hs9 (xW_hat xw_4 hws hT) (xw_4).2.2.2.1 hT.2.2.2.1 hT.2.2.2.2 hS (hl.1.trans hml.symm) dElem_7 dElem_10 dElem_11 dElem_14 dElem_17 (fun x h => (htb x h).elim) (by show 5 < RR.frames; omega) (by show 0 + 82 ≤ RR.locals; omega) (by show 0 + 1 ≤ RR.cells; omega) (by show 0 + 6 ≤ RR.slots; omega) hlocks (fun t hvm h1 h2 => ⟨(), by show thF (σ 10 0 d) (σ 14 0 d) d i ≠ 0; rw [hth]; decide, ⟨by rw [hth]; rfl, hP.kept (fun k q hq => h2 q.1 ((hP k q hq).lt))⟩, ⟨Nat.le_trans hS.1 h1, fun q hq hn => (h2 q (Nat.lt_of_lt_of_le hq hS.1)).trans (hS.2.1 q hq hn)⟩⟩) hS.2.2 (Nat.le_of_ble_eq_true rfl) (Nat.le_of_ble_eq_true rfl)
abbrev nmLel : MethodName := ⟨"OnlyInDisguiseLaw", "element", "(LOnlyInDisguise;II[J)I"⟩
abbrev hhLel : List (Nat × Nat × Nat × Nat) := [(0, 9, 12, 13), (0, 9, 16, 15)]
abbrev wsLel : List Cond := .codeWith nmLel method_3_code 5 (some .int) hhLel :: aTbl
def lA (ad : Nat → Nat → Nat) (o : Nat) : Nat → Prop := fun q => aA ad q ∨ q = o
def xPl (ad : Nat → Nat → Nat) (cA cL : ClassId) (D : va_G) (vs : List Value) (σ : aS) (o : Nat) (g : Nat → Int64) : Array Value → State → Prop := va_Pc vs (fun U => va_P D aCl (aWo ad cA σ ++ [(o, .inl (cL, 1, .inr (.inl g)))]) U.heap ∧ va_K D aCl [(cA, .int), (cL, .long)] U ∧ va_D (lA ad o) (aWo ad cA σ ++ [(o, .inl (cL, 1, .inr (.inl g)))]) ∧ aNe U ∧ xT (lA ad o) U U.heap)
theorem xPl_blind {ad : Nat → Nat → Nat} {cA cL : ClassId} {D : va_G} {vs : List Value} {σ : aS} {o : Nat} {g : Nat → Int64} : FrameBlind (xPl ad cA cL D vs σ o g) := by
  intro a U g mk q
  obtain ⟨q0, qP, qK, qD, qN, qT⟩ := q
  exact ⟨q0, qP, va_K.moved (u := U) (U := U.calling g mk a) (Vm.Alike.refl U.vm) qK, qD, aNe_same rfl qN, xT.call qT⟩
theorem good_elem : GoodIn aTbl (wsV "OnlyInDisguiseLaw" 7 "OnlyInDisguise" nmElem wsElem) := by
  intro w hw
  have hw2 : w ∈ aTbl := by
    unfold wsV at hw
    rcases List.mem_append.mp hw with h | h
    · simp only [List.mem_cons, List.not_mem_nil, or_false] at h
      rcases h with rfl | rfl | rfl | rfl
      · exact (in_aTbl 831 (by decide +kernel) rfl)
      · exact (in_aTbl 832 (by decide +kernel) rfl)
      · exact (in_aTbl 833 (by decide +kernel) rfl)
      · exact (in_aTbl 45 (by decide +kernel) rfl)
    · exact (List.mem_cons.mp h).elim (fun e => by rw [e]; exact (in_aTbl 834 (by decide +kernel) rfl)) id
  exact ⟨hw2, (aTbl_good w hw2).2⟩
theorem set_last {α : Type} (w : List α) (x y : α) : (w ++ [x]).set w.length y = w ++ [y] := by
  induction w with
  | nil => rfl
  | cons a w ih => show a :: (w ++ [x]).set w.length y = _; rw [ih]; rfl
theorem get_last {α : Type} (w : List α) (x : α) : (w ++ [x])[w.length]? = some x := by
  rw [List.getElem?_append_right (Nat.le_refl _), Nat.sub_self]
  rfl
theorem one_at {α : Type} {x y : α} {k : Nat} (h : [x][k]? = some y) : x = y := by
  have hz : k < 1 := (List.getElem?_eq_some_iff.mp h).1
  rw [show k = 0 by omega] at h
  exact Option.some.inj h
/-- the world beside which a cell lies that hasn't changed -/
theorem va_P_app {D : va_G} {w : va_W} {x : Nat × va_E} {H H1 : Heap} (h : va_P D aCl w H1) (hx : va_P D aCl [x] H) (hk : H1[x.1]? = H[x.1]?) : va_P D aCl (w ++ [x]) H1 :=
  va_P.app h (hx.kept (fun k q hq => by rw [← one_at hq]; exact hk))
set_option maxHeartbeats 2000000 in
theorem c_lel (l : Launch) (hst : l.stackTraces = false) (D : va_G) (cA cL : ClassId) (ad : Nat → Nat → Nat) (d i : Int) (σ : aS) (o : Nat) (g : Nat → Int64) (hs : SH σ) (hd : aIr d) (hi : aIr i) : vx_Met l nmLel wsLel { frames := 9, cells := 1, slots := 6, locals := 240 } (xPl ad cA cL D [.ref (ad 0 0), .int (Int32.ofInt d), .int (Int32.ofInt i), .ref o] σ o g) (va_Qi (fun (r : Int32) (u : Nat → Int64) => r = Int32.ofInt (thF (σ 10 0 d) (σ 14 0 d) d i) ∧ (thF (σ 10 0 d) (σ 14 0 d) d i = 0 → u 0 = Int64.ofInt (vaF σ d i))) (fun u t => va_P D aCl (aWo ad cA σ ++ [(o, .inl (cL, 1, .inr (.inl u)))]) t.heap) (lA ad o)) xNo 1 6 (lA ad o) := by
  refine vx_ofWH (cc := method_3_code) (maxL := 5) (ret := some .int) (hh := hhLel) (by decide) rfl ?_
  intro p e s m args below meth c s₁ B hml hv
  obtain ⟨rfl, hP, hK, hD, hN, hT⟩ := hv
  have hx := B.exec
  have hb := B.bytes
  have hr := B.returns
  have hts := atoms_spec (ws := wsLel) B.pre
  have hws : ∀ w ∈ aTbl, w.before _ s = true := fun w hw => hts w (List.mem_cons_of_mem _ hw)
  have hTab := vx_table (x := nmLel) B (hts _ List.mem_cons_self)
  have hown : s.vm.findClass "OnlyInDisguiseLaw" = some m.cls := findClass_of_methodNamed B.named
  have hlocks := B.notSynchronized
  have hS : va_S (lA ad o) s.heap s.heap [] := va_S.rf
  have hl := lv_entry ([.ref (ad 0 0), .int (Int32.ofInt d), .int (Int32.ofInt i), .ref o]) (n := 5) (Nat.le_of_ble_eq_true rfl)
  rw [lg_entry_eq]
  generalize (lg_sl ([.ref (ad 0 0), .int (Int32.ofInt d), .int (Int32.ofInt i), .ref o]) ++ List.replicate (5 - (lg_sl ([.ref (ad 0 0), .int (Int32.ofInt d), .int (Int32.ofInt i), .ref o])).length) Slot.unset).toArray = ls at hl ⊢
  have hl : lv_has ls 5 [(0, .ref (ad 0 0)), (1, .int (Int32.ofInt d)), (2, .int (Int32.ofInt i)), (3, .ref o)] := hl
  generalize hRR : (headSpec wsLel { frames := 9, cells := 1, slots := 6, locals := 240 }).room = RR
  have hR1 : RR.frames = 9 ∧ RR.cells = 1 ∧ RR.slots = 6 ∧ RR.locals = 240 := by subst hRR; exact ⟨rfl, rfl, rfl, rfl⟩
  have hP0 := va_P_l hP
  have hPo := va_P_r hP
  have hD0 := va_D_l hD
  have hno : ¬ aA ad o := aWo_off (q := (o, .inl (cL, 1, .inr (.inl g)))) hD (j := 0) rfl
  have hol : o < s.heap.size := (hPo 0 _ rfl).lt
  have hK0 : va_K D aCl [(cA, .int)] s := hK.sub [0] rfl
  refine lv_aload_n hx hb dLel_0 rfl (lv_at hl 3 rfl) ?_
  refine lv_iconst (v := Int32.ofInt 0) hx hb dLel_1 rfl ?_
  refine lv_aload_n hx hb dLel_2 rfl (lv_at hl 0 rfl) ?_
  refine lv_iload_n hx hb dLel_3 rfl (lv_at hl 1 rfl) ?_
  refine lv_iload_n hx hb dLel_4 rfl (lv_at hl 2 rfl) ?_
  obtain ⟨q0, hq0⟩ := aPl_at (t := 0) (c := 0) (by decide) (by decide)
  have e1 := aWo_at (ad := ad) (cA := cA) (σ := σ) hq0
  unfold aCell at e1
  have hrec := va_recv (q := (RX6, TX6, 9)) (ci := 4) hK hP0 rfl e1
  have hpre : ∀ U : State, U.heap = s.heap → s.WarmedH U.vm → xPc ad cA D [aR 0 0, aI d, aI i] σ (([.ref (ad 0 0), .int (Int32.ofInt d), .int (Int32.ofInt i)] : List Value).toArray) U := by
    intro U hU hW
    exact ⟨rfl, by rw [hU]; exact hP0, va_K.moved hW.alike hK0, aWo_self hD0, aNe_warm hW hN, (hT.at hW hU hS).narrow (fun q h => Or.inl h)⟩
  refine vx_calll (A0 := lA ad o) (vx_runV (As := [.int (Int32.ofInt d), .int (Int32.ofInt i)]) (rest := [.int (Int32.ofInt 0), .ref o]) (b := ad 0 0) (C := "OnlyInDisguise") ⟨hx, hb, hml, hown, hws⟩ (c_elem l hst D cA ad d i σ hs hd hi) (cwV 2 hws good_elem rfl rfl rfl ⟨rfl, by decide, by decide, by decide +kernel⟩ ⟨by show 7 + 1 ≤ RR.frames; omega, by show 8 + (3 + 11) + 160 ≤ RR.locals; omega⟩) ⟨xPc_blind, hrec, hpre⟩ rfl rfl hl.1 rfl (lv_room (Nat.le_of_ble_eq_true rfl)) dLel_5 ⟨by omega, by omega⟩) hS (fun _ _ h => Or.inl h) (fun _ h => Or.inl h) (fun _ _ h => Or.inl h) (fun E ce q9 u t H1 locs1 ht hvm hpx hB hz hk hS hcell hcv hcl => ?_) (fun r u t H1 locs1 ht hvm h5 hB hz hk hS => ?_)
  · obtain ⟨hE, hP1⟩ := hB
    have hpx : thF (σ 10 0 d) (σ 14 0 d) d i ≠ 0 := hpx
    rw [ht] at hP1
    have hPn : va_P D aCl (aWo ad cA σ ++ [(o, .inl (cL, 1, .inr (.inl g)))]) H1 := va_P_app hP1 hPo (hk o hol hno)
    have hend : ∀ (pc : Nat) (x : Int) (ls1 : Array Slot), decode method_3_code pc = .ok (.ireturn, 1) → x = thF (σ 10 0 d) (σ 14 0 d) d i → W p l e RR s m #[.ref (ad 0 0), .int (Int32.ofInt d), .int (Int32.ofInt i), .ref o] below meth c H1 locs1 1 6 (vx_MQ below (va_Qi (fun (r : Int32) (u : Nat → Int64) => r = Int32.ofInt (thF (σ 10 0 d) (σ 14 0 d) d i) ∧ (thF (σ 10 0 d) (σ 14 0 d) d i = 0 → u 0 = Int64.ofInt (vaF σ d i))) (fun u t => va_P D aCl (aWo ad cA σ ++ [(o, .inl (cL, 1, .inr (.inl u)))]) t.heap) (lA ad o)) xNo #[.ref (ad 0 0), .int (Int32.ofInt d), .int (Int32.ofInt i), .ref o] s 1 6 (lA ad o)) (F0 m pc ls1 [.int (Int32.ofInt x)]) := by
      intro pc x ls1 hdg hxe
      exact vx_ret (W.iret hx hb hr (fun t ht hW => ⟨⟨_, g, rfl, ⟨by rw [hxe], fun q => absurd q hpx⟩, by show va_P D aCl (aWo ad cA σ ++ [(o, .inl (cL, 1, .inr (.inl g)))]) t.heap; rw [ht]; exact hPn⟩, hS.F ht⟩) hS.2.2 hdg)
    by_cases q1 : thF (σ 10 0 d) (σ 14 0 d) d i = 1
    · rw [if_pos q1] at hE
      subst hE
      refine vx_catch hown [] ⟨0, 9, 12, 13⟩ [⟨0, 9, 16, 15⟩] (hTab.trans rfl) (fun z hz => nomatch hz) (by decide) (by decide) (hws _ (in_aTbl 829 (by decide +kernel) rfl)) (va_Nw.use rfl (hT.1 (.castable xIAE xIAE) (by decide))) hcell hcv hcl ?_
      refine lv_astore (i := 4) (lv' := [(4, .ref q9), (0, .ref (ad 0 0)), (1, .int (Int32.ofInt d)), (2, .int (Int32.ofInt i)), (3, .ref o)]) hx hb dLel_12 hl (by decide) rfl (fun ls hl => ?_)
      refine lv_iconst (v := Int32.ofInt 1) hx hb dLel_14 rfl ?_
      exact hend 15 1 _ dLel_15 q1.symm
    · have q2 : thF (σ 10 0 d) (σ 14 0 d) d i = 2 := by
        unfold thF at hpx q1 ⊢
        by_cases a : 0 ≤ d ∧ d < 8
        · rw [if_pos a] at hpx ⊢
          by_cases b : σ 10 0 d = 2 ∧ 0 ≤ i ∧ i < σ 14 0 d
          · rw [if_pos b] at hpx
            exact absurd rfl hpx
          · rw [if_neg b]
        · rw [if_neg a] at q1
          exact absurd rfl q1
      rw [if_neg q1] at hE
      subst hE
      refine vx_catch hown [⟨0, 9, 12, 13⟩] ⟨0, 9, 16, 15⟩ [] (hTab.trans rfl) (fun z hz => ?_) (by decide) (by decide) (hws _ (in_aTbl 830 (by decide +kernel) rfl)) (va_Nw.use rfl (hT.1 (.castable xISE xISE) (by decide))) hcell hcv hcl ?_
      · rcases List.mem_singleton.mp hz with rfl
        exact Or.inr ⟨by decide, xIAE, hws _ (in_aTbl 829 (by decide +kernel) rfl), hT.2.1 (xISE, xIAE) (by decide)⟩
      · refine lv_astore (i := 4) (lv' := [(4, .ref q9), (0, .ref (ad 0 0)), (1, .int (Int32.ofInt d)), (2, .int (Int32.ofInt i)), (3, .ref o)]) hx hb dLel_16 hl (by decide) rfl (fun ls hl => ?_)
        refine lv_iconst (v := Int32.ofInt 2) hx hb dLel_18 rfl ?_
        exact hend 19 2 _ dLel_19 q2.symm
  · have hP1 : va_P D aCl (aWo ad cA σ) t.heap := hB
    obtain ⟨h0, hr5⟩ := h5
    rw [ht] at hP1
    have hPn : va_P D aCl (aWo ad cA σ ++ [(o, .inl (cL, 1, .inr (.inl g)))]) H1 := va_P_app hP1 hPo (hk o hol hno)
    refine va_last (D := D) hx hb hK hPn hD hS (aWo ad cA σ).length 1 (get_last _ _) rfl (i := Int32.ofInt 0) (by show ¬ (Int32.ofInt 0 < 0 ∨ 1 ≤ (Int32.ofInt 0).toNatClampNeg); decide) dLel_8 (fun H2 locs2 hP2 hD2 hS2 => ?_)
    rw [set_last] at hP2
    refine lv_goto (tgt := 20) hx hb dLel_9 rfl ?_
    refine lv_iconst (v := Int32.ofInt 0) hx hb dLel_20 rfl ?_
    exact vx_ret (W.iret hx hb hr (fun t ht hW => ⟨⟨_, vp_updL g (Int32.ofInt 0).toNatClampNeg r, rfl, ⟨by rw [h0], fun _ => by rw [hr5]; rfl⟩, by show va_P D aCl (aWo ad cA σ ++ [(o, .inl (cL, 1, .inr (.inl (vp_updL g (Int32.ofInt 0).toNatClampNeg r))))]) t.heap; rw [ht]; exact hP2⟩, hS2.F ht⟩) hS2.2.2 dLel_21)
