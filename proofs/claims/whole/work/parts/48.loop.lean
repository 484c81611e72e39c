/-! THE CLAIM OUT OF ONE WALK OF THE LAW'S BODY. Your part is whole_start (and what it stands on); all else here is the same for every law, but numbers. -/
def R_law : String := "OnlyInDisguiseLaw"
def lw_P (b : Addr) (xs : List Int32) (args : Array Value) (s : State) : Prop := args = #[.ref b] ∧ s.IntsAt b xs ∧ xs.length ≤ 3072 ∧ (Jvm.Cond.and given_1 narrow_1).before args s = true
def lw_Q (_ : Array Value) (s : State) (o : Outcome) (t : State) : Prop := o = .returned (some (.int 1)) ∧ Framed s o t [] 1083 13473
def lw_Z (below : List Frame) (a : Array Value) (s : State) : State → Prop := fun t => ∃ o, t.status = .running ∧ Ended t below o ∧ lw_Q a s o t
/-- the law's own end, with 1 on the stack, nothing written that was there before, its room as the claim has it -/
theorem lw_ret {p : Program} {l : Launch} {e : Env} {s : State} {m : MethodId} {below : List Frame} {meth : Method} {c : Code} {b : Nat} (hx : p.tables.exec = Jvm.exec) (hb : c.code = code) (hr : meth.sig.returnType = ret) (hlocks : meth.locks = false) {pc : Nat} {H : Heap} {ls : Array Slot} (hdg : decode code pc = .ok (.ireturn, 1)) : W p l e room_1 s m #[Value.ref b] below meth c H [] 1083 13473 (lw_Z below #[Value.ref b] s) (F0 m pc ls [.int 1]) := by
  intro T hT X
  obtain ⟨fs, hret, hrun, hended, hW, hframe⟩ := X.leave (v := some (.int 1)) (hlocks := hlocks) (fun h => by rw [hr] at h; cases h)
  have hmeth' : T.vm.method? m = some meth := X.method'
  refine ⟨T.setFrames fs, ?_, .returned (some (.int 1)), hrun, hended, rfl, ⟨_, rfl⟩, hW, hframe⟩
  jvm_step X.here [X.here.top, hx, hb, hdg, hmeth', hr, ret, narrow_b1]
  (try refine ⟨rfl, ?_⟩); (try refine ⟨rfl, ?_⟩)
  first | (intro acts; rw [hret _ acts rfl rfl rfl]) | rw [hret _ _ rfl rfl rfl]
  exact Steps.refl _
/-- what holds at the law's entry: the machine, the code, the tables' words (any of lw_tbl by 'hts w (by decide +kernel)'), the script of L ints xs at the cell b, what the Statement gives of the start (any of its parts by flat_of_before) -/
def lw_At (p : Program) (s : State) (m : MethodId) (meth : Method) (c : Code) (b L : Nat) (xs : Nat → Int32) : Prop :=
  p.tables.exec = Jvm.exec ∧ c.code = code ∧ meth.sig.returnType = ret ∧ c.maxLocals = 8 ∧ s.vm.findClass R_law = some m.cls ∧ (∀ w ∈ lw_tbl, w.before #[Value.ref b] s = true) ∧ va_X b L xs s s.heap ∧ b < s.heap.size ∧ meth.locks = false ∧ (Jvm.Cond.and given_1 narrow_1).before #[Value.ref b] s = true
theorem dLw_0 : decode code 0 = .ok (.new 8, 3) := by decide +kernel
theorem dLw_3 : decode code 3 = .ok (.dup, 1) := by decide +kernel
theorem dLw_4 : decode code 4 = .ok (.invokespecial 17, 3) := by decide +kernel
theorem dLw_7 : decode code 7 = .ok (.astore_n 1, 1) := by decide +kernel
theorem dLw_8 : decode code 8 = .ok (.new 18, 3) := by decide +kernel
theorem dLw_11 : decode code 11 = .ok (.dup, 1) := by decide +kernel
theorem dLw_12 : decode code 12 = .ok (.invokespecial 20, 3) := by decide +kernel
theorem dLw_15 : decode code 15 = .ok (.astore_n 2, 1) := by decide +kernel
theorem dLw_16 : decode code 16 = .ok (.iconst 1, 1) := by decide +kernel
theorem dLw_17 : decode code 17 = .ok (.newarray .long, 2) := by decide +kernel
theorem dLw_19 : decode code 19 = .ok (.astore_n 3, 1) := by decide +kernel
theorem dLw_20 : decode code 20 = .ok (.iconst 0, 1) := by decide +kernel
theorem dLw_21 : decode code 21 = .ok (.istore 4, 2) := by decide +kernel
theorem sw_off : ∀ k : Nat, k < 40 → (#[176, 201, 238, 275, 312, 349, 386, 411, 448, 485, 522, 547, 584, 621, 658, 683, 708, 745, 794, 819, 844, 869, 894, 943, 980, 1029, 1091, 1117, 1142, 1167, 1216, 1229, 1242, 1267, 1328, 1377, 1426, 1493, 1566, 1591] : Array Int)[k]? = some (ofT.getD k 0) := by decide +kernel
theorem sw_pc : ∀ k : Nat, k < 40 → ((40 : Nat) : Int) + ofT.getD k 0 = ((pcT.getD k 0 : Nat) : Int) := by decide +kernel
set_option maxHeartbeats 2000000 in
theorem l_loop {p : Program} {l : Launch} {e : Env} {s : State} {m : MethodId} {below : List Frame} {meth : Method} {c : Code} {b L : Nat} {xs : Nat → Int32} {D : va_G} {cA cL : ClassId} {ad : Nat → Nat → Nat} {o : Nat} (C0 : lw_At p s m meth c b L xs) (C : lwC p l s m c b L xs D cA cL) :
    ∀ (n j : Nat), 513 ≤ j + n → 6 * j ≤ L → ∀ (σ : aS) (g : Nat → Int64) (H : Heap) (locs : List Loc) (ls : Array Slot), Inv σ → lwH s D cA cL ad o σ g H locs → lv_has ls 8 (lwL b ad o (6 * j)) → W p l e room_1 s m #[Value.ref b] below meth c H locs (53 + j) (5245 + 6 * j) (lw_Z below #[Value.ref b] s) (F0 m 23 ls []) := by
  obtain ⟨-, -, hr, -, -, -, -, -, hlocks, -⟩ := C0
  obtain ⟨hx, hb, hml, hown, hws, hX, hbl, hK, hN, hT, hst, hL⟩ := id C
  intro n
  induction n with
  | zero => intro j h1 h2; omega
  | succ n ih =>
    intro j h1 h2 σ g H locs ls hI hh hl
    have hS := hh.2.2
    have hbA : ¬ lwA s b := Nat.not_le.mpr hbl
    refine lv_iload hx hb dLw_23 (lv_at hl 4 rfl) ?_
    refine lv_aload_n hx hb dLw_25 rfl (lv_at hl 0 rfl) ?_
    refine va_slen hx hb hX hbl hbA hS dLw_26 ?_
    rw [← Int32.ofInt_eq_ofNat]
    refine lv_bipush (v := Int32.ofInt 6) hx hb dLw_27 (by decide) ?_
    refine lv_isub hx hb dLw_29 ?_
    rw [← Int32.ofInt_sub]
    refine lv_icmp_gt (tgt := 1662) hx hb dLw_30 (by decide) (fun hc => ?_) (fun hc => ?_)
    · refine lv_iconst (v := 1) hx hb dLw_1662 (by decide) ?_
      refine va_forget (fun q hq => hS.2.2 q hq) ?_
      refine W.widen (k := 1083) (n := 13473) (by omega) (by omega) ?_
      exact lw_ret hx hb hr hlocks dLw_1663
    · rw [aIn_lt ⟨by omega, by omega⟩ ⟨by omega, by omega⟩] at hc
      have h6 : 6 * j + 6 ≤ L := by omega
      refine lv_aload_n hx hb dLw_33 rfl (lv_at hl 0 rfl) ?_
      refine lv_iload hx hb dLw_34 (lv_at hl 4 rfl) ?_
      refine va_sld hx hb hX hbl hbA hS (aIn_vp (by omega) ⟨by omega, by omega⟩) dLw_36 ?_
      refine lv_bipush (v := Int32.ofInt 63) hx hb dLw_37 (by decide) ?_
      refine lv_iand hx hb dLw_39 ?_
      generalize xs (Int32.ofInt ((6 * j : Nat) : Int)).toNatClampNeg = y
      obtain ⟨k, hk, ek⟩ := pk_andE y (m := Int32.ofInt 63) 6 (by decide)
      rw [ek]
      have hk64 : k < 64 := hk
      have tk : (nI k).toInt = (k : Int) := nI_toInt (by omega)
      have hnx : lwK p l e s m below meth c b D cA cL ad o (6 * j) (53 + j + 1) (5245 + 6 * j + 6) (lw_Z below #[Value.ref b] s) := by
        rw [show 53 + j + 1 = 53 + (j + 1) by omega, show 5245 + 6 * j + 6 = 5245 + 6 * (j + 1) by omega]
        intro σ' g' H' locs' ls' hI' hh' hl'
        refine lv_iinc (v := Int32.ofInt ((6 * (j + 1) : Nat) : Int)) (lv' := [(4, .int (Int32.ofInt ((6 * (j + 1) : Nat) : Int))), (0, .ref b), (1, .ref (ad 0 0)), (2, .ref (ad 21 0)), (3, .ref o)]) hx hb dLw_1656 hl' (k := 4) rfl (by rw [← Int32.ofInt_add]; congr 1) (by decide) rfl (fun ls hl => ?_)
        refine lv_goto (tgt := 23) hx hb dLw_1659 (by decide) ?_
        exact ih (j + 1) (by omega) (by omega) σ' g' H' locs' ls hI' hh' (lv_sub hl [1, 2, 3, 4, 0] rfl)
      rcases Nat.lt_or_ge k 40 with hk4 | hk4
      · refine lv_tableIn (off := ofT.getD k 0) (tgt := pcT.getD k 0) hx hb dLw_40 (by rw [tk]; omega) (by rw [tk]; omega) (by rw [tk, show ((k : Int) - 0).toNat = k by omega]; exact sw_off k hk4) (sw_pc k hk4) ?_
        exact l_case C hl h6 hI hh ⟨by omega, by omega⟩ hnx k hk4
      · refine lv_tableOut (tgt := 1656) hx hb dLw_40 (Or.inr (by rw [tk]; omega)) (by decide) ?_
        exact W.widen (k := 53 + j + 1) (n := 5245 + 6 * j + 6) (by omega) (by omega) (hnx σ g H locs ls hI hh hl)
theorem mem_aNq : ∀ q ∈ aNq, Cond.methodLinkNest q.1 q.2.1 q.2.2.1 q.2.2.2 ∈ lw_tbl := by decide +kernel
theorem mem_iNq : ∀ q ∈ iNq, Cond.methodLinkNest q.1 q.2.1 q.2.2.1 q.2.2.2 ∈ lw_tbl := by decide +kernel
theorem mem_xB : ∀ w ∈ xB, w ∈ lw_tbl ∧ w.onTables = true := by decide +kernel
theorem mem_xNc : ∀ q ∈ xNc, Cond.not (.castable q.1 q.2) ∈ flatC (Jvm.Cond.and given_1 narrow_1) := by decide +kernel
theorem mem_xSt : ∀ q ∈ xSt, Cond.stringRef q.1 q.2.1 q.2.2 ∈ lw_tbl ∧ Cond.exactly (.string q.1 q.2.1) "java/lang/String" ∈ flatC (Jvm.Cond.and given_1 narrow_1) := by decide +kernel
theorem mem_xU : Cond.laysStatic Bundle.tN "UNASSIGNED_STACK" Bundle.steD ∈ lw_tbl ∧ Cond.laysStatic Bundle.tN "SUPPRESSED_SENTINEL" Bundle.listD ∈ lw_tbl ∧ Cond.initialized Bundle.tN ∈ lw_tbl := by decide +kernel
theorem mem_xR : Cond.isRef (.static Bundle.tN "UNASSIGNED_STACK" Bundle.steD) ∈ flatC (Jvm.Cond.and given_1 narrow_1) ∧ Cond.isRef (.static Bundle.tN "SUPPRESSED_SENTINEL" Bundle.listD) ∈ flatC (Jvm.Cond.and given_1 narrow_1) := by decide +kernel
theorem st_xT {b : Nat} {s : State} (hts : ∀ w ∈ lw_tbl, w.before #[Value.ref b] s = true) (hgv : (Jvm.Cond.and given_1 narrow_1).before #[Value.ref b] s = true) : xT (lwA s) s s.heap := by
  have hfl := flat_of_before _ hgv
  have hA : ∀ a : Nat, a < s.heap.size → ¬ lwA s a := fun a h => Nat.not_le.mpr h
  refine ⟨fun w hw => va_Nw.of (mem_xB w hw).2 (hts w (mem_xB w hw).1), fun q hq => va_Nc.of (hfl _ (mem_xNc q hq)), fun q hq => ?_, vx_Zqof (hts _ mem_xU.1) (hts _ mem_xU.2.2) (hfl _ mem_xR.1) hA, vx_Zqof (hts _ mem_xU.2.1) (hts _ mem_xU.2.2) (hfl _ mem_xR.2) hA⟩
  obtain ⟨a, c, cA, kA, q1, -⟩ := Cond.exactly_spec (args := #[Value.ref b]) (first := s) (o := none) (s := s) (idx := []) (t := .string q.1 q.2.1) (cls := "java/lang/String") (hfl _ (mem_xSt q hq).2)
  exact ⟨a, vk_R.of (hts _ (mem_xSt q hq).1) q1⟩
def adF (q0 q1 : Nat) (u v : Nat → Nat → Nat) : Nat → Nat → Nat := fun t c => if t = 0 then q0 else if t ≤ 20 then u t c else if t = 21 then q1 else v t c
set_option maxHeartbeats 4000000 in
set_option maxRecDepth 100000 in
/-- THE LAW, from its entry -/
theorem whole_start {p : Program} {e : Env} {s : State} {m : MethodId} {below : List Frame} {meth : Method} {c : Code} (l : Launch) (hflags : l.flags = flags0) {b L : Nat} {xs : Nat → Int32} (hL : L ≤ 3072) (C0 : lw_At p s m meth c b L xs) : W p l e room_1 s m #[Value.ref b] below meth c s.heap [] 0 0 (lw_Z below #[Value.ref b] s) (entryFrame m ([Value.ref b] : List Value).toArray 8) := by
  obtain ⟨hx, hb, hr, hml, hown, hts, hX, hbl, hlocks, hgv⟩ := id C0
  have hA : ∀ q : Nat, s.heap.size ≤ q → lwA s q := fun _ h => h
  have hws : ∀ w ∈ aTbl, w.before #[Value.ref b] s = true := fun w hw => hts w (aTbl_sub w hw)
  have hst : l.stackTraces = false := by
    unfold Launch.stackTraces
    rw [hflags]
    decide +kernel
  have hN : aNe s := fun q hq => va_Nw.of rfl (hts _ (mem_aNq q hq))
  have hNi : iNe s := fun q hq => va_Nw.of rfl (hts _ (mem_iNq q hq))
  have hT : xT (lwA s) s s.heap := st_xT hts hgv
  obtain ⟨c0, iS0, hKn0⟩ := u_known (C := RX0) (T := TX0) (N := 11) (n := 11) hws iaX0 (hws _ (in_aTbl 71 (by decide +kernel) rfl))
  obtain ⟨c1, iS1, hKn1⟩ := u_known (C := RX1) (T := TX1) (N := 3) (n := 3) hws iaX1 (hws _ (in_aTbl 152 (by decide +kernel) rfl))
  obtain ⟨c2, iS2, hKn2⟩ := u_known (C := RX2) (T := TX2) (N := 1) (n := 1) hws iaX2 (hws _ (in_aTbl 168 (by decide +kernel) rfl))
  obtain ⟨c3, iS3, hKn3⟩ := u_known (C := RX4) (T := TX4) (N := 6) (n := 6) hws iaX4 (hws _ (in_aTbl 127 (by decide +kernel) rfl))
  obtain ⟨c4, iS4, hKn4⟩ := u_known (C := RX6) (T := TX6) (N := 9) (n := 9) hws iaX6 (hws _ (in_aTbl 63 (by decide +kernel) rfl))
  obtain ⟨c5, iS5, hKn5⟩ := u_known (C := RX7) (T := TX7) (N := 19) (n := 19) hws iaX7 (hws _ (in_aTbl 841 (by decide +kernel) rfl))
  obtain ⟨dC, dI, hKc⟩ : ∃ (dC : Nat → ClassId) (dI : Nat → Nat → Nat), ∀ (k : Nat) (q : vw_C), aCl[k]? = some q → u_Kn s q.1 q.2.1 q.2.2 (dC k) (dI k) := by
    refine ⟨fun k => if k = 0 then c0 else if k = 1 then c1 else if k = 2 then c2 else if k = 3 then c3 else if k = 4 then c4 else c5, fun k => if k = 0 then iS0 else if k = 1 then iS1 else if k = 2 then iS2 else if k = 3 then iS3 else if k = 4 then iS4 else iS5, ?_⟩
    intro k q hq
    match k, hq with
    | 0, hq => cases hq; exact hKn0
    | 1, hq => cases hq; exact hKn1
    | 2, hq => cases hq; exact hKn2
    | 3, hq => cases hq; exact hKn3
    | 4, hq => cases hq; exact hKn4
    | 5, hq => cases hq; exact hKn5
    | k + 6, hq => simp [aCl] at hq
  obtain ⟨cA, kA, comp, a1, a2, a3⟩ := Cond.arrayClass_spec (args := #[Value.ref b]) (first := s) (o := none) (s := s) (idx := []) (type := .int) (hws _ (in_aTbl 125 (by decide +kernel) rfl))
  have hK : va_K (dC, dI) aCl [(cA, .int)] s := ⟨hKc, fun k q h => by
    have hq := one_at h
    subst hq
    exact ⟨fun n z => ⟨fun k h => (by cases h), kA, a2, comp, a3⟩, a1⟩⟩
  have hS : va_S (lwA s) s.heap s.heap [] := va_S.rf
  have hP : va_P (dC, dI) aCl [] s.heap := fun k q h => by simp at h
  have hD : va_D (lwA s) [] := ⟨fun i j p q h => by simp at h, fun k q h => by simp at h⟩
  have hl := lv_entry ([.ref b]) (n := 8) (Nat.le_of_ble_eq_true rfl)
  rw [lg_entry_eq]
  generalize (lg_sl ([.ref b]) ++ List.replicate (8 - (lg_sl ([.ref b])).length) Slot.unset).toArray = ls at hl ⊢
  have hl : lv_has ls 8 [(0, .ref b)] := hl
  refine va_new (ci := 4) (fs := [.null, .null, .null, .int 0, .null, .null, .null, .null, .null]) (C := RX6) (T := TX6) (N := 9) hx hb hws iaX6 tyX6 tyX6_ok hown (hws _ (in_aTbl 62 (by decide +kernel) rfl)) (hws _ (in_aTbl 63 (by decide +kernel) rfl)) (hws _ (in_aTbl 45 (by decide +kernel) rfl)) hK hP hD hS hA rfl fX6 (Nat.le_of_ble_eq_true rfl) (Nat.le_of_ble_eq_true rfl) dLw_0 (fun q0 H hP hD hS => ?_)
  have hP : va_P (dC, dI) aCl [(q0, .inr (4, [.null, .null, .null, .int 0, .null, .null, .null, .null, .null]))] H := hP
  have hD : va_D (lwA s) [(q0, .inr (4, [.null, .null, .null, .int 0, .null, .null, .null, .null, .null]))] := hD
  refine W.widen (k := 1) (n := 9) (by omega) (by omega) ?_
  refine lv_dup hx hb dLw_3 rfl ?_
  have hFc := va_free (wc := [(q0, .inr (4, [.null, .null, .null, .int 0, .null, .null, .null, .null, .null]))]) hD hS hA [0] rfl
  refine va_callv (va_runI (As := []) (rest := [.ref q0]) ⟨hx, hb, hml, hown, hws⟩ (i_Cls l (dC, dI) cA q0 H.size) (cwI 0 hws good_ICls rfl rfl rfl (hws _ (in_aTbl 45 (by decide +kernel) rfl)) (hws _ (in_aTbl 64 (by decide +kernel) rfl)) (hws _ (in_aTbl 65 (by decide +kernel) rfl)) rfl (by decide +kernel) ⟨Nat.le_of_ble_eq_true rfl, Nat.le_of_ble_eq_true rfl⟩) ⟨fun a U g mk q => by obtain ⟨q0, q1, qP, qK, qD, qN⟩ := q; exact ⟨q0, q1, qP, va_K.moved (u := U) (U := U.calling g mk a) (Vm.Alike.refl U.vm) qK, qD, iNe_same rfl qN⟩, fun U hU hW => ⟨rfl, by rw [hU], by rw [hU]; exact hP, va_K.moved hW.alike hK, hD.weaken (fun _ _ _ _ => trivial), iNe_warm hW hNi⟩⟩ rfl rfl hl.1 rfl (lv_room (Nat.le_of_ble_eq_true rfl)) dLw_4 ⟨Nat.le_of_ble_eq_true rfl, Nat.le_of_ble_eq_true rfl⟩) hS (fun q _ h => hFc q h) hFc (fun u t H1 locs ht hvm _ hB hz1 hk1 hS => ?_)
  obtain ⟨hP1, hD1⟩ := hB
  rw [ht] at hP1
  have hP : va_P (dC, dI) aCl (kCls cA q0 u) H1 := hP1
  have hD : va_D (lwA s) (kCls cA q0 u) := hD1.weaken (fun _ _ _ h => hFc _ h)
  clear hP1 hD1 hk1 hz1 ht hvm hFc
  refine W.widen (k := 38) (n := 2626) (by omega) (by omega) ?_
  refine lv_astore_n (lv' := [(1, .ref q0), (0, .ref b)]) hx hb dLw_7 rfl hl (by decide) rfl (fun ls hl => ?_)
  refine va_new (ci := 5) (fs := [.null, .null, .null, .null, .int 0, .int 0, .int 0, .int 0, .null, .null, .null, .int 0, .null, .null, .null, .null, .null, .null, .int 0]) (C := RX7) (T := TX7) (N := 19) hx hb hws iaX7 tyX7 tyX7_ok hown (hws _ (in_aTbl 840 (by decide +kernel) rfl)) (hws _ (in_aTbl 841 (by decide +kernel) rfl)) (hws _ (in_aTbl 50 (by decide +kernel) rfl)) hK hP hD hS hA rfl fX7 (Nat.le_of_ble_eq_true rfl) (Nat.le_of_ble_eq_true rfl) dLw_8 (fun q1 H hP hD hS => ?_)
  refine W.widen (k := 39) (n := 2645) (by omega) (by omega) ?_
  refine lv_dup hx hb dLw_11 rfl ?_
  have hPc := hP.sub (ws' := [(q1, .inr (5, [.null, .null, .null, .null, .int 0, .int 0, .int 0, .int 0, .null, .null, .null, .int 0, .null, .null, .null, .null, .null, .null, .int 0]))]) [38] rfl
  have hDc := hD.sub (ws' := [(q1, .inr (5, [.null, .null, .null, .null, .int 0, .int 0, .int 0, .int 0, .null, .null, .null, .int 0, .null, .null, .null, .null, .null, .null, .int 0]))]) [38] (by decide) rfl
  have hFc := va_free (wc := [(q1, .inr (5, [.null, .null, .null, .null, .int 0, .int 0, .int 0, .int 0, .null, .null, .null, .int 0, .null, .null, .null, .null, .null, .null, .int 0]))]) hD hS hA [38] rfl
  refine va_callv (va_runI (As := []) (rest := [.ref q1]) ⟨hx, hb, hml, hown, hws⟩ (i_Mod l (dC, dI) cA q1 H.size) (cwI 0 hws good_IMod rfl rfl rfl (hws _ (in_aTbl 50 (by decide +kernel) rfl)) (hws _ (in_aTbl 842 (by decide +kernel) rfl)) (hws _ (in_aTbl 843 (by decide +kernel) rfl)) rfl (by decide +kernel) ⟨Nat.le_of_ble_eq_true rfl, Nat.le_of_ble_eq_true rfl⟩) ⟨fun a U g mk q => by obtain ⟨q0, q1, qP, qK, qD⟩ := q; exact ⟨q0, q1, qP, va_K.moved (u := U) (U := U.calling g mk a) (Vm.Alike.refl U.vm) qK, qD⟩, fun U hU hW => ⟨rfl, by rw [hU], by rw [hU]; exact hPc, va_K.moved hW.alike hK, hDc.weaken (fun _ _ _ _ => trivial)⟩⟩ rfl rfl hl.1 rfl (lv_room (Nat.le_of_ble_eq_true rfl)) dLw_12 ⟨Nat.le_of_ble_eq_true rfl, Nat.le_of_ble_eq_true rfl⟩) hS (fun q _ h => hFc q h) hFc (fun v t H1 locs ht hvm _ hB hz1 hk1 hS => ?_)
  obtain ⟨hP1, hD1⟩ := hB
  rw [ht] at hP1
  obtain ⟨hP, hD⟩ := va_join (wr := kCls cA q0 u) (w1 := kMod cA q1 v) hP hD [38] [0, 1, 2, 3, 4, 5, 6, 7, 8, 9, 10, 11, 12, 13, 14, 15, 16, 17, 18, 19, 20, 21, 22, 23, 24, 25, 26, 27, 28, 29, 30, 31, 32, 33, 34, 35, 36, 37] rfl rfl (by decide) (by decide) hk1 hFc hP1 hD1
  clear hPc hDc hFc hP1 hD1 hk1 hz1 ht hvm
  refine W.widen (k := 52) (n := 5244) (by omega) (by omega) ?_
  refine lv_astore_n (lv' := [(2, .ref q1), (1, .ref q0), (0, .ref b)]) hx hb dLw_15 rfl hl (by decide) rfl (fun ls hl => ?_)
  refine lv_iconst (v := 1) hx hb dLw_16 (by decide) ?_
  refine va_newa (atype := .long) (ty := .long) (a0 := (1, .inr (.inl (fun _ => 0)))) hx hb (hws _ (in_aTbl 1265 (by decide +kernel) rfl)) rfl hK hP hD hS hA (fun _ => rfl) (by decide) (N' := 1) (by decide) (by decide) (Nat.le_of_ble_eq_true rfl) (Nat.le_of_ble_eq_true rfl) dLw_17 (fun q2 cL H hK hP hD hS => ?_)
  refine lv_astore_n (lv' := [(3, .ref q2), (2, .ref q1), (1, .ref q0), (0, .ref b)]) hx hb dLw_19 rfl hl (by decide) rfl (fun ls hl => ?_)
  refine lv_iconst (v := Int32.ofInt ((6 * 0 : Nat) : Int)) hx hb dLw_20 rfl ?_
  refine lv_istore (lv' := [(4, .int (Int32.ofInt ((6 * 0 : Nat) : Int))), (3, .ref q2), (2, .ref q1), (1, .ref q0), (0, .ref b)]) hx hb dLw_21 hl (by decide) rfl (fun ls hl => ?_)
  have hP9 : va_P (dC, dI) aCl (w0 (adF q0 q1 u v) cA 0 ++ [(q2, .inl (cL, 1, .inr (.inl (fun _ => 0))))]) H := hP.sub [0, 1, 9, 17, 2, 10, 18, 3, 11, 19, 4, 12, 20, 5, 13, 21, 6, 14, 22, 7, 15, 23, 8, 16, 24, 25, 26, 27, 28, 29, 30, 31, 32, 33, 34, 35, 36, 37, 38, 39, 40, 41, 42, 43, 44, 45, 46, 47, 48, 49, 50, 51, 52] rfl
  have hD9 : va_D (lwA s) (w0 (adF q0 q1 u v) cA 0 ++ [(q2, .inl (cL, 1, .inr (.inl (fun _ => 0))))]) := hD.sub [0, 1, 9, 17, 2, 10, 18, 3, 11, 19, 4, 12, 20, 5, 13, 21, 6, 14, 22, 7, 15, 23, 8, 16, 24, 25, 26, 27, 28, 29, 30, 31, 32, 33, 34, 35, 36, 37, 38, 39, 40, 41, 42, 43, 44, 45, 46, 47, 48, 49, 50, 51, 52] (by decide) rfl
  rw [← w0_eq] at hP9 hD9
  have hl9 : lv_has ls 8 (lwL b (adF q0 q1 u v) q2 (6 * 0)) := lv_sub hl [4, 3, 2, 1, 0] rfl
  refine W.widen (k := 53 + 0) (n := 5245 + 6 * 0) (by omega) (by omega) ?_
  exact l_loop C0 (D := (dC, dI)) (cA := cA) (cL := cL) ⟨hx, hb, hml, hown, hws, hX, hbl, hK, hN, hT, hst, hL⟩ 513 0 (by omega) (by omega) s0 (fun _ => 0) H _ ls s0_Inv ⟨hP9, hD9, hS⟩ hl9
