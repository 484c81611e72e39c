/-! ===== the law's calls ===== -/
abbrev nmLaw : String := "OnlyInDisguiseLaw"
abbrev lwA (s : State) : Nat → Prop := fun q => s.heap.size ≤ q
abbrev lwW (ad : Nat → Nat → Nat) (cA cL : ClassId) (σ : aS) (o : Nat) (g : Nat → Int64) : va_W := aWo ad cA σ ++ [(o, .inl (cL, 1, .inr (.inl g)))]
/-- the heap between the calls -/
def lwH (s : State) (D : va_G) (cA cL : ClassId) (ad : Nat → Nat → Nat) (o : Nat) (σ : aS) (g : Nat → Int64) (H : Heap) (locs : List Loc) : Prop := va_P D aCl (lwW ad cA cL σ o g) H ∧ va_D (lwA s) (lwW ad cA cL σ o g) ∧ va_S (lwA s) s.heap H locs
abbrev lwL (b : Nat) (ad : Nat → Nat → Nat) (o i : Nat) : List (Nat × Value) := [(0, .ref b), (1, .ref (ad 0 0)), (2, .ref (ad 21 0)), (3, .ref o), (4, .int (Int32.ofInt (i : Int)))]
/-- what holds all the while the law runs -/
def lwC (p : Program) (l : Launch) (s : State) (m : MethodId) (c : Code) (b L : Nat) (xs : Nat → Int32) (D : va_G) (cA cL : ClassId) : Prop :=
  p.tables.exec = Jvm.exec ∧ c.code = code ∧ c.maxLocals = 8 ∧ s.vm.findClass nmLaw = some m.cls ∧ (∀ w ∈ aTbl, w.before #[Value.ref b] s = true) ∧ va_X b L xs s s.heap ∧ b < s.heap.size ∧ va_K D aCl [(cA, .int), (cL, .long)] s ∧ aNe s ∧ xT (lwA s) s s.heap ∧ l.stackTraces = false ∧ L ≤ 3072
def ysI (xs : Nat → Int32) (j : Nat) : Int := (xs j).toInt
theorem ysI_in (xs : Nat → Int32) (j : Nat) : aIr (ysI xs j) := by
  have h1 := Int32.le_toInt (xs j)
  have h2 := Int32.toInt_lt (xs j)
  unfold ysI
  exact ⟨by omega, by omega⟩
theorem ysI_of (xs : Nat → Int32) (j : Nat) : Int32.ofInt (ysI xs j) = xs j := Int32.ofInt_toInt _
def asOf (xs : Nat → Int32) (i : Nat) : Nat → List aV
  | 0 => []
  | n + 1 => asOf xs i n ++ [aI (ysI xs (i + (n + 1)))]
theorem asOf_len (xs : Nat → Int32) (i : Nat) : ∀ n : Nat, (asOf xs i n).length = n
  | 0 => rfl
  | n + 1 => by show (asOf xs i n ++ [_]).length = _; rw [List.length_append, asOf_len xs i n]; rfl
theorem lwD_other {A : Nat → Prop} {ad : Nat → Nat → Nat} {cA cL : ClassId} {σ σ' : aS} {o : Nat} {g g' : Nat → Int64} (h : va_D A (lwW ad cA cL σ o g)) : va_D A (lwW ad cA cL σ' o g') := by
  have e : ∀ (k : Nat) (q : Nat × va_E), (lwW ad cA cL σ' o g')[k]? = some q → ∃ q' : Nat × va_E, (lwW ad cA cL σ o g)[k]? = some q' ∧ q'.1 = q.1 := by
    intro k q hk
    have hm : ((lwW ad cA cL σ' o g').map Prod.fst)[k]? = some q.1 := by rw [List.getElem?_map, hk]; rfl
    have hz : (lwW ad cA cL σ' o g').map Prod.fst = (lwW ad cA cL σ o g).map Prod.fst := by
      unfold lwW aWo
      rw [List.map_append, List.map_append, List.map_map, List.map_map]
      rfl
    rw [hz, List.getElem?_map] at hm
    cases hq : (lwW ad cA cL σ o g)[k]? with
    | none => rw [hq] at hm; cases hm
    | some q' => rw [hq] at hm; exact ⟨q', rfl, Option.some.inj hm⟩
  refine ⟨fun i j p q hi hj hpq => ?_, fun k q hk => ?_⟩
  · obtain ⟨p', a1, a2⟩ := e i p hi
    obtain ⟨q', b1, b2⟩ := e j q hj
    exact h.1 i j p' q' a1 b1 (by rw [a2, b2]; exact hpq)
  · obtain ⟨q', a1, a2⟩ := e k q hk
    rw [← a2]
    exact h.2 k q' a1
def lB (pc : Nat) (i : Instr) (n : Nat) : Bool := decide (decode code pc = .ok (i, n))
theorem lB_of {pc : Nat} {i : Instr} {n : Nat} (h : lB pc i n = true) : decode code pc = .ok (i, n) := of_decide_eq_true h
abbrev lArg (pc k : Nat) : Prop := decode code pc = .ok (.aload_n 0, 1) ∧ decode code (pc + 1) = .ok (.iload 4, 2) ∧ decode code (pc + 1 + 2) = .ok (.iconst (k : Int), 1) ∧ decode code (pc + 1 + 2 + 1) = .ok (.iadd, 1) ∧ decode code (pc + 1 + 2 + 1 + 1) = .ok (.iaload, 1)
def lArgB (pc k : Nat) : Bool := lB pc (.aload_n 0) 1 && (lB (pc + 1) (.iload 4) 2 && (lB (pc + 1 + 2) (.iconst (k : Int)) 1 && (lB (pc + 1 + 2 + 1) .iadd 1 && lB (pc + 1 + 2 + 1 + 1) .iaload 1)))
theorem lArgB_of {pc k : Nat} (h : lArgB pc k = true) : lArg pc k := by
  unfold lArgB at h
  simp only [Bool.and_eq_true] at h
  exact ⟨lB_of h.1, lB_of h.2.1, lB_of h.2.2.1, lB_of h.2.2.2.1, lB_of h.2.2.2.2⟩
def lArgsB (pc n : Nat) : Bool := (List.range n).all fun k => lArgB (pc + 6 * k) (k + 1)
theorem lArgsB_of {pc n : Nat} (h : lArgsB pc n = true) : ∀ k, k < n → lArg (pc + 6 * k) (k + 1) := fun k hk => lArgB_of (List.all_eq_true.mp h k (List.mem_range.mpr hk))
theorem lw_cat (ad : Nat → Nat → Nat) (v : aV) : (cV ad v).category ≤ 2 := by
  rcases v with x | y | ⟨t, c⟩
  · show 1 ≤ 2; decide
  · show 2 ≤ 2; decide
  · show 1 ≤ 2; decide
section LawCalls
variable {p : Program} {l : Launch} {e : Env} {s : State} {m : MethodId} {below : List Frame} {meth : Method} {c : Code} {b L : Nat} {xs : Nat → Int32} {D : va_G} {cA cL : ClassId} {ad : Nat → Nat → Nat} {o i : Nat} {σ : aS} {g : Nat → Int64} {H : Heap} {locs : List Loc} {cells slots : Nat} {QQ : State → Prop} {ls : Array Slot} {st : List Value} {pc : Nat}
theorem l_arg (C : lwC p l s m c b L xs D cA cL) (hS : va_S (lwA s) s.heap H locs) (hl : lv_has ls 8 (lwL b ad o i)) (hi : i + 6 ≤ L) {k : Nat} (hk : k ≤ 5) (hd : lArg pc k) (kk : W p l e room_1 s m #[Value.ref b] below meth c H locs cells slots QQ (F0 m (pc + 6) ls (.int (Int32.ofInt (ysI xs (i + k))) :: st))) : W p l e room_1 s m #[Value.ref b] below meth c H locs cells slots QQ (F0 m pc ls st) := by
  obtain ⟨hx, hb, hml, hown, hws, hX, hbl, hK, hN, hT, hst, hL⟩ := C
  obtain ⟨d0, d1, d2, d3, d4⟩ := hd
  refine lv_aload_n hx hb d0 rfl (lv_at hl 0 rfl) ?_
  refine lv_iload hx hb d1 (lv_at hl 4 rfl) ?_
  refine lv_iconst (v := Int32.ofInt (k : Int)) hx hb d2 rfl ?_
  refine lv_iadd hx hb d3 ?_
  rw [← Int32.ofInt_add]
  refine va_sld hx hb hX hbl (Nat.not_le.mpr hbl) hS (aIn_vp (by omega) ⟨by omega, by omega⟩) d4 ?_
  have e1 : (Int32.ofInt ((i : Int) + (k : Int))).toNatClampNeg = i + k := by
    rw [aIn_nat ⟨by omega, by omega⟩]
    omega
  rw [e1, ← ysI_of xs (i + k)]
  exact kk
theorem l_args (C : lwC p l s m c b L xs D cA cL) (hS : va_S (lwA s) s.heap H locs) (hl : lv_has ls 8 (lwL b ad o i)) (hi : i + 6 ≤ L) : ∀ n : Nat, n ≤ 5 → (∀ k, k < n → lArg (pc + 6 * k) (k + 1)) → W p l e room_1 s m #[Value.ref b] below meth c H locs cells slots QQ (F0 m (pc + 6 * n) ls (((asOf xs i n).map (cV ad)).reverse ++ st)) → W p l e room_1 s m #[Value.ref b] below meth c H locs cells slots QQ (F0 m pc ls st) := by
  intro n
  induction n with
  | zero => intro _ _ kk; exact kk
  | succ n ih =>
    intro hn hd kk
    refine ih (by omega) (fun k hk => hd k (by omega)) ?_
    refine l_arg C hS hl hi (k := n + 1) (by omega) (hd n (by omega)) ?_
    have e1 : ((asOf xs i (n + 1)).map (cV ad)).reverse ++ st = .int (Int32.ofInt (ysI xs (i + (n + 1)))) :: (((asOf xs i n).map (cV ad)).reverse ++ st) := by
      show ((asOf xs i n ++ [aI (ysI xs (i + (n + 1)))]).map (cV ad)).reverse ++ st = _
      rw [List.map_append, List.reverse_append]
      rfl
    rw [e1] at kk
    exact kk
/-- a call by stores, beside the law's own row -/
theorem l_V {idx n ci t c0 d' : Nat} {as : List aV} {rest : List Value} {M' : aMt} {Q' : Option aV → aS → Prop} (C : lwC p l s m c b L xs D cA cL) (hl : ls.size = 8) (h : lwH s D cA cL ad o σ g H locs) (lk : aLV nmLaw idx M' n ci) (hR : d' ≤ 8) (ht : t < 32) (hc : c0 < aCnt t) (hcl : aCls t = some ci) (hn : as.length = n) (hr : (rest.map fun v => v.category).sum ≤ 8) (hst : st = (as.map (cV ad)).reverse ++ .ref (ad t c0) :: rest) (hdg : decode code pc = .ok (.invokevirtual idx, 3)) (hcs : cells ≤ 1083 ∧ slots ≤ 13473) (hm : AM l d' M' (aR t c0 :: as) σ Q')
    (kk : ∀ (r : Option aV) (σ' : aS) (H1 : Heap) (locs1 : List Loc), Q' r σ' → lwH s D cA cL ad o σ' g H1 locs1 → W p l e room_1 s m #[Value.ref b] below meth c H1 locs1 cells slots QQ (F0 m (pc + 3) ls ((r.map (cV ad)).toList ++ rest))) : W p l e room_1 s m #[Value.ref b] below meth c H locs cells slots QQ (F0 m pc ls st) := by
  obtain ⟨hx, hb, hml, hown, hws, hX, hbl, hK, hN, hT, hst9, hL⟩ := C
  obtain ⟨hP, hD, hS⟩ := h
  have hP0 := va_P_l hP
  have hPo := va_P_r hP
  have hD0 := va_D_l hD
  have hno : ¬ aA ad o := aWo_off (q := (o, .inl (cL, 1, .inr (.inl g)))) hD (j := 0) rfl
  have hol : o < H.size := (hPo 0 _ rfl).lt
  refine w_V hx hb hml hl hown hws (hK.sub [0] rfl) hN hP0 hD0 hS lk ⟨by show d' + 1 ≤ 10; omega, by show 38 * (d' + 1) ≤ 382; omega⟩ ht hc hcl hn hr hst hdg hcs hm (fun r σ' H1 locs1 hq hP1 hD1 hS1 hz hk => ?_)
  exact kk r σ' H1 locs1 hq ⟨va_P_app hP1 hPo (hk o hol hno), lwD_other hD, hS1⟩
/-- a call of the class, then of the reference -/
theorem l_pair {idx idx' n : Nat} {M M' : aMt} {f : Int → aV} (C : lwC p l s m c b L xs D cA cL) (hl : lv_has ls 8 (lwL b ad o i)) (hi : i + 6 ≤ L) (h : lwH s D cA cL ad o σ g H locs) (hcs : cells ≤ 1083 ∧ slots ≤ 13473) (hn : n ≤ 5)
    (d0 : decode code pc = .ok (.aload_n 1, 1)) (d1 : ∀ k, k < n → lArg (pc + 1 + 6 * k) (k + 1)) (d2 : decode code (pc + 1 + 6 * n) = .ok (.invokevirtual idx, 3)) (d3 : decode code (pc + 1 + 6 * n + 3) = .ok (.aload_n 2, 1)) (d4 : ∀ k, k < n → lArg (pc + 1 + 6 * n + 3 + 1 + 6 * k) (k + 1)) (d5 : decode code (pc + 1 + 6 * n + 3 + 1 + 6 * n) = .ok (.invokevirtual idx', 3))
    (lk : aLV nmLaw idx M n 4) (lk' : aLV nmLaw idx' M' n 5) (hp : Pair l f M M' (asOf xs i n) σ)
    (kk : ∀ (a : Int) (σ' : aS) (H1 : Heap) (locs1 : List Loc), Inv σ' → lwH s D cA cL ad o σ' g H1 locs1 → W p l e room_1 s m #[Value.ref b] below meth c H1 locs1 cells slots QQ (F0 m (pc + 1 + 6 * n + 3 + 1 + 6 * n + 3) ls [cV ad (f a), cV ad (f a)])) : W p l e room_1 s m #[Value.ref b] below meth c H locs cells slots QQ (F0 m pc ls []) := by
  obtain ⟨dd, dd', a, h1, h2, hm⟩ := hp
  have hx := C.1
  have hb := C.2.1
  refine lv_aload_n hx hb d0 rfl (lv_at hl 1 rfl) ?_
  refine l_args C h.2.2 hl hi n hn d1 ?_
  refine l_V (as := asOf xs i n) (rest := []) (t := 0) (c0 := 0) C hl.1 h lk h1 (by decide) (by decide) rfl (asOf_len xs i n) (Nat.le_of_ble_eq_true rfl) rfl d2 hcs hm (fun r σ' H1 locs1 hq hh => ?_)
  obtain ⟨hr, hm'⟩ := hq
  subst hr
  refine lv_aload_n hx hb d3 rfl (lv_at hl 2 rfl) ?_
  refine l_args C hh.2.2 hl hi n hn d4 ?_
  refine l_V (as := asOf xs i n) (rest := [cV ad (f a)]) (t := 21) (c0 := 0) C hl.1 hh lk' h2 (by decide) (by decide) rfl (asOf_len xs i n) (Nat.le_trans (show (cV ad (f a)).category + 0 ≤ 2 from lw_cat ad (f a)) (by decide)) rfl d5 hcs hm' (fun r σ2 H2 locs2 hq2 hh2 => ?_)
  obtain ⟨hr2, hI⟩ := hq2
  subst hr2
  exact kk a σ2 H2 locs2 hI hh2
/-- what the law goes on with behind a call -/
def lwK (p : Program) (l : Launch) (e : Env) (s : State) (m : MethodId) (below : List Frame) (meth : Method) (c : Code) (b : Nat) (D : va_G) (cA cL : ClassId) (ad : Nat → Nat → Nat) (o i cells slots : Nat) (QQ : State → Prop) : Prop :=
  ∀ (σ : aS) (g : Nat → Int64) (H : Heap) (locs : List Loc) (ls : Array Slot), Inv σ → lwH s D cA cL ad o σ g H locs → lv_has ls 8 (lwL b ad o i) → W p l e room_1 s m #[Value.ref b] below meth c H locs cells slots QQ (F0 m 1656 ls [])
abbrev lDec (pc n idx idx' : Nat) : Prop := decode code pc = .ok (.aload_n 1, 1) ∧ (∀ k, k < n → lArg (pc + 1 + 6 * k) (k + 1)) ∧ decode code (pc + 1 + 6 * n) = .ok (.invokevirtual idx, 3) ∧ decode code (pc + 1 + 6 * n + 3) = .ok (.aload_n 2, 1) ∧ (∀ k, k < n → lArg (pc + 1 + 6 * n + 3 + 1 + 6 * k) (k + 1)) ∧ decode code (pc + 1 + 6 * n + 3 + 1 + 6 * n) = .ok (.invokevirtual idx', 3)
def lDecB (pc n idx idx' : Nat) : Bool := lB pc (.aload_n 1) 1 && (lArgsB (pc + 1) n && (lB (pc + 1 + 6 * n) (.invokevirtual idx) 3 && (lB (pc + 1 + 6 * n + 3) (.aload_n 2) 1 && (lArgsB (pc + 1 + 6 * n + 3 + 1) n && lB (pc + 1 + 6 * n + 3 + 1 + 6 * n) (.invokevirtual idx') 3))))
theorem lDecB_of {pc n idx idx' : Nat} (h : lDecB pc n idx idx' = true) : lDec pc n idx idx' := by
  unfold lDecB at h
  simp only [Bool.and_eq_true] at h
  exact ⟨lB_of h.1, lArgsB_of h.2.1, lB_of h.2.2.1, lB_of h.2.2.2.1, lArgsB_of h.2.2.2.2.1, lB_of h.2.2.2.2.2⟩
theorem l_int {idx idx' n : Nat} {off : Int} {M M' : aMt} (C : lwC p l s m c b L xs D cA cL) (hl : lv_has ls 8 (lwL b ad o i)) (hi : i + 6 ≤ L) (h : lwH s D cA cL ad o σ g H locs) (hcs : cells + 1 ≤ 1083 ∧ slots + 6 ≤ 13473) (hn : n ≤ 5) (hd : lDec pc n idx idx') (d6 : decode code (pc + 1 + 6 * n + 3 + 1 + 6 * n + 3) = .ok (.if_icmp .eq off, 3)) (d7 : ((pc + 1 + 6 * n + 3 + 1 + 6 * n + 3 : Nat) : Int) + off = ((1656 : Nat) : Int))
    (lk : aLV nmLaw idx M n 4) (lk' : aLV nmLaw idx' M' n 5) (hp : Pair l aI M M' (asOf xs i n) σ) (kk : lwK p l e s m below meth c b D cA cL ad o i (cells + 1) (slots + 6) QQ) : W p l e room_1 s m #[Value.ref b] below meth c H locs cells slots QQ (F0 m pc ls []) := by
  obtain ⟨d0, d1, d2, d3, d4, d5⟩ := hd
  refine l_pair C hl hi h ⟨by omega, by omega⟩ hn d0 d1 d2 d3 d4 d5 lk lk' hp (fun a σ' H1 locs1 hI hh => ?_)
  refine lv_icmp_eq (tgt := 1656) C.1 C.2.1 d6 d7 (fun _ => ?_) (fun q => absurd rfl q)
  exact W.widen (k := cells + 1) (n := slots + 6) (by omega) (by omega) (kk σ' g H1 locs1 ls hI hh hl)
theorem lg_cmp_rf (x : Int64) : lg_cmp x x = 0 := by
  unfold lg_cmp
  simp
theorem l_long {idx idx' n : Nat} {off : Int} {M M' : aMt} (C : lwC p l s m c b L xs D cA cL) (hl : lv_has ls 8 (lwL b ad o i)) (hi : i + 6 ≤ L) (h : lwH s D cA cL ad o σ g H locs) (hcs : cells + 1 ≤ 1083 ∧ slots + 6 ≤ 13473) (hn : n ≤ 5) (hd : lDec pc n idx idx') (d6 : decode code (pc + 1 + 6 * n + 3 + 1 + 6 * n + 3) = .ok (.lcmp, 1)) (d7 : decode code (pc + 1 + 6 * n + 3 + 1 + 6 * n + 3 + 1) = .ok (.ifCond .eq off, 3)) (d8 : ((pc + 1 + 6 * n + 3 + 1 + 6 * n + 3 + 1 : Nat) : Int) + off = ((1656 : Nat) : Int))
    (lk : aLV nmLaw idx M n 4) (lk' : aLV nmLaw idx' M' n 5) (hp : Pair l aL M M' (asOf xs i n) σ) (kk : lwK p l e s m below meth c b D cA cL ad o i (cells + 1) (slots + 6) QQ) : W p l e room_1 s m #[Value.ref b] below meth c H locs cells slots QQ (F0 m pc ls []) := by
  obtain ⟨d0, d1, d2, d3, d4, d5⟩ := hd
  refine l_pair C hl hi h ⟨by omega, by omega⟩ hn d0 d1 d2 d3 d4 d5 lk lk' hp (fun a σ' H1 locs1 hI hh => ?_)
  refine W.lcmp C.1 C.2.1 (x := Int64.ofInt a) (y := Int64.ofInt a) d6 ?_
  rw [lg_cmp_rf]
  refine lv_if_eq (tgt := 1656) C.1 C.2.1 d7 d8 (fun _ => ?_) (fun q => absurd rfl q)
  exact W.widen (k := cells + 1) (n := slots + 6) (by omega) (by omega) (kk σ' g H1 locs1 ls hI hh hl)
end LawCalls
theorem lL_21 : aLV nmLaw 21 mX6_cabinet 1 4 := ⟨⟨in_aTbl 205 (by decide +kernel) rfl, in_aTbl 206 (by decide +kernel) rfl, in_aTbl 207 (by decide +kernel) rfl, in_aTbl 45 (by decide +kernel) rfl, in_aTbl 208 (by decide +kernel) rfl⟩, by decide +kernel, by decide, ⟨(RX6, TX6, 9), rfl, rfl⟩⟩
theorem lL_25 : aLV nmLaw 25 mX7_cabinet 1 5 := ⟨⟨in_aTbl 904 (by decide +kernel) rfl, in_aTbl 905 (by decide +kernel) rfl, in_aTbl 906 (by decide +kernel) rfl, in_aTbl 50 (by decide +kernel) rfl, in_aTbl 907 (by decide +kernel) rfl⟩, by decide +kernel, by decide, ⟨(RX7, TX7, 19), rfl, rfl⟩⟩
theorem lD_0 : lDec 216 1 21 25 := lDecB_of (by decide +kernel)
theorem lL_26 : aLV nmLaw 26 mX6_one 2 4 := ⟨⟨in_aTbl 332 (by decide +kernel) rfl, in_aTbl 333 (by decide +kernel) rfl, in_aTbl 334 (by decide +kernel) rfl, in_aTbl 45 (by decide +kernel) rfl, in_aTbl 335 (by decide +kernel) rfl⟩, by decide +kernel, by decide, ⟨(RX6, TX6, 9), rfl, rfl⟩⟩
theorem lL_30 : aLV nmLaw 30 mX7_one 2 5 := ⟨⟨in_aTbl 996 (by decide +kernel) rfl, in_aTbl 997 (by decide +kernel) rfl, in_aTbl 998 (by decide +kernel) rfl, in_aTbl 50 (by decide +kernel) rfl, in_aTbl 999 (by decide +kernel) rfl⟩, by decide +kernel, by decide, ⟨(RX7, TX7, 19), rfl, rfl⟩⟩
theorem lD_1 : lDec 241 2 26 30 := lDecB_of (by decide +kernel)
theorem lL_31 : aLV nmLaw 31 mX6_office 2 4 := ⟨⟨in_aTbl 352 (by decide +kernel) rfl, in_aTbl 353 (by decide +kernel) rfl, in_aTbl 354 (by decide +kernel) rfl, in_aTbl 45 (by decide +kernel) rfl, in_aTbl 355 (by decide +kernel) rfl⟩, by decide +kernel, by decide, ⟨(RX6, TX6, 9), rfl, rfl⟩⟩
theorem lL_34 : aLV nmLaw 34 mX7_office 2 5 := ⟨⟨in_aTbl 1010 (by decide +kernel) rfl, in_aTbl 1011 (by decide +kernel) rfl, in_aTbl 1012 (by decide +kernel) rfl, in_aTbl 50 (by decide +kernel) rfl, in_aTbl 1013 (by decide +kernel) rfl⟩, by decide +kernel, by decide, ⟨(RX7, TX7, 19), rfl, rfl⟩⟩
theorem lD_2 : lDec 278 2 31 34 := lDecB_of (by decide +kernel)
theorem lL_35 : aLV nmLaw 35 mX6_shows 2 4 := ⟨⟨in_aTbl 358 (by decide +kernel) rfl, in_aTbl 359 (by decide +kernel) rfl, in_aTbl 360 (by decide +kernel) rfl, in_aTbl 45 (by decide +kernel) rfl, in_aTbl 361 (by decide +kernel) rfl⟩, by decide +kernel, by decide, ⟨(RX6, TX6, 9), rfl, rfl⟩⟩
theorem lL_38 : aLV nmLaw 38 mX7_shows 2 5 := ⟨⟨in_aTbl 1014 (by decide +kernel) rfl, in_aTbl 1015 (by decide +kernel) rfl, in_aTbl 1016 (by decide +kernel) rfl, in_aTbl 50 (by decide +kernel) rfl, in_aTbl 1017 (by decide +kernel) rfl⟩, by decide +kernel, by decide, ⟨(RX7, TX7, 19), rfl, rfl⟩⟩
theorem lD_3 : lDec 315 2 35 38 := lDecB_of (by decide +kernel)
theorem lL_39 : aLV nmLaw 39 mX6_comes 2 4 := ⟨⟨in_aTbl 366 (by decide +kernel) rfl, in_aTbl 367 (by decide +kernel) rfl, in_aTbl 368 (by decide +kernel) rfl, in_aTbl 45 (by decide +kernel) rfl, in_aTbl 369 (by decide +kernel) rfl⟩, by decide +kernel, by decide, ⟨(RX6, TX6, 9), rfl, rfl⟩⟩
theorem lL_42 : aLV nmLaw 42 mX7_comes 2 5 := ⟨⟨in_aTbl 1022 (by decide +kernel) rfl, in_aTbl 1023 (by decide +kernel) rfl, in_aTbl 1024 (by decide +kernel) rfl, in_aTbl 50 (by decide +kernel) rfl, in_aTbl 1025 (by decide +kernel) rfl⟩, by decide +kernel, by decide, ⟨(RX7, TX7, 19), rfl, rfl⟩⟩
theorem lD_4 : lDec 352 2 39 42 := lDecB_of (by decide +kernel)
theorem lL_43 : aLV nmLaw 43 mX6_holds 2 4 := ⟨⟨in_aTbl 385 (by decide +kernel) rfl, in_aTbl 386 (by decide +kernel) rfl, in_aTbl 387 (by decide +kernel) rfl, in_aTbl 45 (by decide +kernel) rfl, in_aTbl 388 (by decide +kernel) rfl⟩, by decide +kernel, by decide, ⟨(RX6, TX6, 9), rfl, rfl⟩⟩
theorem lL_46 : aLV nmLaw 46 mX7_holds 2 5 := ⟨⟨in_aTbl 1030 (by decide +kernel) rfl, in_aTbl 1031 (by decide +kernel) rfl, in_aTbl 1032 (by decide +kernel) rfl, in_aTbl 50 (by decide +kernel) rfl, in_aTbl 1033 (by decide +kernel) rfl⟩, by decide +kernel, by decide, ⟨(RX7, TX7, 19), rfl, rfl⟩⟩
theorem lD_5 : lDec 389 2 43 46 := lDecB_of (by decide +kernel)
theorem lL_47 : aLV nmLaw 47 mX6_empties 1 4 := ⟨⟨in_aTbl 390 (by decide +kernel) rfl, in_aTbl 391 (by decide +kernel) rfl, in_aTbl 392 (by decide +kernel) rfl, in_aTbl 45 (by decide +kernel) rfl, in_aTbl 393 (by decide +kernel) rfl⟩, by decide +kernel, by decide, ⟨(RX6, TX6, 9), rfl, rfl⟩⟩
theorem lL_50 : aLV nmLaw 50 mX7_empties 1 5 := ⟨⟨in_aTbl 1034 (by decide +kernel) rfl, in_aTbl 1035 (by decide +kernel) rfl, in_aTbl 1036 (by decide +kernel) rfl, in_aTbl 50 (by decide +kernel) rfl, in_aTbl 1037 (by decide +kernel) rfl⟩, by decide +kernel, by decide, ⟨(RX7, TX7, 19), rfl, rfl⟩⟩
theorem lD_6 : lDec 426 1 47 50 := lDecB_of (by decide +kernel)
theorem lL_51 : aLV nmLaw 51 mX6_wears 2 4 := ⟨⟨in_aTbl 395 (by decide +kernel) rfl, in_aTbl 396 (by decide +kernel) rfl, in_aTbl 397 (by decide +kernel) rfl, in_aTbl 45 (by decide +kernel) rfl, in_aTbl 398 (by decide +kernel) rfl⟩, by decide +kernel, by decide, ⟨(RX6, TX6, 9), rfl, rfl⟩⟩
theorem lL_54 : aLV nmLaw 54 mX7_wears 2 5 := ⟨⟨in_aTbl 1042 (by decide +kernel) rfl, in_aTbl 1043 (by decide +kernel) rfl, in_aTbl 1044 (by decide +kernel) rfl, in_aTbl 50 (by decide +kernel) rfl, in_aTbl 1045 (by decide +kernel) rfl⟩, by decide +kernel, by decide, ⟨(RX7, TX7, 19), rfl, rfl⟩⟩
theorem lD_7 : lDec 451 2 51 54 := lDecB_of (by decide +kernel)
theorem lL_55 : aLV nmLaw 55 mX6_knows 2 4 := ⟨⟨in_aTbl 399 (by decide +kernel) rfl, in_aTbl 400 (by decide +kernel) rfl, in_aTbl 401 (by decide +kernel) rfl, in_aTbl 45 (by decide +kernel) rfl, in_aTbl 402 (by decide +kernel) rfl⟩, by decide +kernel, by decide, ⟨(RX6, TX6, 9), rfl, rfl⟩⟩
theorem lL_58 : aLV nmLaw 58 mX7_knows 2 5 := ⟨⟨in_aTbl 1046 (by decide +kernel) rfl, in_aTbl 1047 (by decide +kernel) rfl, in_aTbl 1048 (by decide +kernel) rfl, in_aTbl 50 (by decide +kernel) rfl, in_aTbl 1049 (by decide +kernel) rfl⟩, by decide +kernel, by decide, ⟨(RX7, TX7, 19), rfl, rfl⟩⟩
theorem lD_8 : lDec 488 2 55 58 := lDecB_of (by decide +kernel)
theorem lL_59 : aLV nmLaw 59 mX6_marries 2 4 := ⟨⟨in_aTbl 403 (by decide +kernel) rfl, in_aTbl 404 (by decide +kernel) rfl, in_aTbl 405 (by decide +kernel) rfl, in_aTbl 45 (by decide +kernel) rfl, in_aTbl 406 (by decide +kernel) rfl⟩, by decide +kernel, by decide, ⟨(RX6, TX6, 9), rfl, rfl⟩⟩
theorem lL_62 : aLV nmLaw 62 mX7_marries 2 5 := ⟨⟨in_aTbl 1050 (by decide +kernel) rfl, in_aTbl 1051 (by decide +kernel) rfl, in_aTbl 1052 (by decide +kernel) rfl, in_aTbl 50 (by decide +kernel) rfl, in_aTbl 1053 (by decide +kernel) rfl⟩, by decide +kernel, by decide, ⟨(RX7, TX7, 19), rfl, rfl⟩⟩
theorem lD_9 : lDec 525 2 59 62 := lDecB_of (by decide +kernel)
theorem lL_63 : aLV nmLaw 63 mX6_days 1 4 := ⟨⟨in_aTbl 407 (by decide +kernel) rfl, in_aTbl 408 (by decide +kernel) rfl, in_aTbl 409 (by decide +kernel) rfl, in_aTbl 45 (by decide +kernel) rfl, in_aTbl 410 (by decide +kernel) rfl⟩, by decide +kernel, by decide, ⟨(RX6, TX6, 9), rfl, rfl⟩⟩
theorem lL_66 : aLV nmLaw 66 mX7_days 1 5 := ⟨⟨in_aTbl 1054 (by decide +kernel) rfl, in_aTbl 1055 (by decide +kernel) rfl, in_aTbl 1056 (by decide +kernel) rfl, in_aTbl 50 (by decide +kernel) rfl, in_aTbl 1057 (by decide +kernel) rfl⟩, by decide +kernel, by decide, ⟨(RX7, TX7, 19), rfl, rfl⟩⟩
theorem lD_10 : lDec 562 1 63 66 := lDecB_of (by decide +kernel)
theorem lL_67 : aLV nmLaw 67 mX6_heldThen 2 4 := ⟨⟨in_aTbl 416 (by decide +kernel) rfl, in_aTbl 417 (by decide +kernel) rfl, in_aTbl 418 (by decide +kernel) rfl, in_aTbl 45 (by decide +kernel) rfl, in_aTbl 419 (by decide +kernel) rfl⟩, by decide +kernel, by decide, ⟨(RX6, TX6, 9), rfl, rfl⟩⟩
theorem lL_70 : aLV nmLaw 70 mX7_heldThen 2 5 := ⟨⟨in_aTbl 1058 (by decide +kernel) rfl, in_aTbl 1059 (by decide +kernel) rfl, in_aTbl 1060 (by decide +kernel) rfl, in_aTbl 50 (by decide +kernel) rfl, in_aTbl 1061 (by decide +kernel) rfl⟩, by decide +kernel, by decide, ⟨(RX7, TX7, 19), rfl, rfl⟩⟩
theorem lD_11 : lDec 587 2 67 70 := lDecB_of (by decide +kernel)
theorem lL_71 : aLV nmLaw 71 mX6_knownThen 2 4 := ⟨⟨in_aTbl 427 (by decide +kernel) rfl, in_aTbl 428 (by decide +kernel) rfl, in_aTbl 429 (by decide +kernel) rfl, in_aTbl 45 (by decide +kernel) rfl, in_aTbl 430 (by decide +kernel) rfl⟩, by decide +kernel, by decide, ⟨(RX6, TX6, 9), rfl, rfl⟩⟩
theorem lL_74 : aLV nmLaw 74 mX7_knownThen 2 5 := ⟨⟨in_aTbl 1069 (by decide +kernel) rfl, in_aTbl 1070 (by decide +kernel) rfl, in_aTbl 1071 (by decide +kernel) rfl, in_aTbl 50 (by decide +kernel) rfl, in_aTbl 1072 (by decide +kernel) rfl⟩, by decide +kernel, by decide, ⟨(RX7, TX7, 19), rfl, rfl⟩⟩
theorem lD_12 : lDec 624 2 71 74 := lDecB_of (by decide +kernel)
theorem lL_75 : aLV nmLaw 75 mX6_then 2 4 := ⟨⟨in_aTbl 431 (by decide +kernel) rfl, in_aTbl 432 (by decide +kernel) rfl, in_aTbl 433 (by decide +kernel) rfl, in_aTbl 45 (by decide +kernel) rfl, in_aTbl 434 (by decide +kernel) rfl⟩, by decide +kernel, by decide, ⟨(RX6, TX6, 9), rfl, rfl⟩⟩
theorem lL_78 : aLV nmLaw 78 mX7_then 2 5 := ⟨⟨in_aTbl 1073 (by decide +kernel) rfl, in_aTbl 1074 (by decide +kernel) rfl, in_aTbl 1075 (by decide +kernel) rfl, in_aTbl 50 (by decide +kernel) rfl, in_aTbl 1076 (by decide +kernel) rfl⟩, by decide +kernel, by decide, ⟨(RX7, TX7, 19), rfl, rfl⟩⟩
theorem lD_13 : lDec 661 2 75 78 := lDecB_of (by decide +kernel)
theorem lL_79 : aLV nmLaw 79 mX6_falls 1 4 := ⟨⟨in_aTbl 442 (by decide +kernel) rfl, in_aTbl 443 (by decide +kernel) rfl, in_aTbl 444 (by decide +kernel) rfl, in_aTbl 45 (by decide +kernel) rfl, in_aTbl 445 (by decide +kernel) rfl⟩, by decide +kernel, by decide, ⟨(RX6, TX6, 9), rfl, rfl⟩⟩
theorem lL_82 : aLV nmLaw 82 mX7_falls 1 5 := ⟨⟨in_aTbl 1080 (by decide +kernel) rfl, in_aTbl 1081 (by decide +kernel) rfl, in_aTbl 1082 (by decide +kernel) rfl, in_aTbl 50 (by decide +kernel) rfl, in_aTbl 1083 (by decide +kernel) rfl⟩, by decide +kernel, by decide, ⟨(RX7, TX7, 19), rfl, rfl⟩⟩
theorem lD_14 : lDec 698 1 79 82 := lDecB_of (by decide +kernel)
theorem lL_83 : aLV nmLaw 83 mX6_empty 1 4 := ⟨⟨in_aTbl 447 (by decide +kernel) rfl, in_aTbl 448 (by decide +kernel) rfl, in_aTbl 449 (by decide +kernel) rfl, in_aTbl 45 (by decide +kernel) rfl, in_aTbl 450 (by decide +kernel) rfl⟩, by decide +kernel, by decide, ⟨(RX6, TX6, 9), rfl, rfl⟩⟩
theorem lL_86 : aLV nmLaw 86 mX7_empty 1 5 := ⟨⟨in_aTbl 1088 (by decide +kernel) rfl, in_aTbl 1089 (by decide +kernel) rfl, in_aTbl 1090 (by decide +kernel) rfl, in_aTbl 50 (by decide +kernel) rfl, in_aTbl 1091 (by decide +kernel) rfl⟩, by decide +kernel, by decide, ⟨(RX7, TX7, 19), rfl, rfl⟩⟩
theorem lD_15 : lDec 723 1 83 86 := lDecB_of (by decide +kernel)
theorem lL_87 : aLV nmLaw 87 mX6_lasts 2 4 := ⟨⟨in_aTbl 451 (by decide +kernel) rfl, in_aTbl 452 (by decide +kernel) rfl, in_aTbl 453 (by decide +kernel) rfl, in_aTbl 45 (by decide +kernel) rfl, in_aTbl 454 (by decide +kernel) rfl⟩, by decide +kernel, by decide, ⟨(RX6, TX6, 9), rfl, rfl⟩⟩
theorem lL_90 : aLV nmLaw 90 mX7_lasts 2 5 := ⟨⟨in_aTbl 1092 (by decide +kernel) rfl, in_aTbl 1093 (by decide +kernel) rfl, in_aTbl 1094 (by decide +kernel) rfl, in_aTbl 50 (by decide +kernel) rfl, in_aTbl 1095 (by decide +kernel) rfl⟩, by decide +kernel, by decide, ⟨(RX7, TX7, 19), rfl, rfl⟩⟩
theorem lD_16 : lDec 748 2 87 90 := lDecB_of (by decide +kernel)
theorem lL_91 : aLV nmLaw 91 mX6_bestCostume 3 4 := ⟨⟨in_aTbl 459 (by decide +kernel) rfl, in_aTbl 460 (by decide +kernel) rfl, in_aTbl 461 (by decide +kernel) rfl, in_aTbl 45 (by decide +kernel) rfl, in_aTbl 462 (by decide +kernel) rfl⟩, by decide +kernel, by decide, ⟨(RX6, TX6, 9), rfl, rfl⟩⟩
theorem lL_95 : aLV nmLaw 95 mX7_bestCostume 3 5 := ⟨⟨in_aTbl 1100 (by decide +kernel) rfl, in_aTbl 1101 (by decide +kernel) rfl, in_aTbl 1102 (by decide +kernel) rfl, in_aTbl 50 (by decide +kernel) rfl, in_aTbl 1103 (by decide +kernel) rfl⟩, by decide +kernel, by decide, ⟨(RX7, TX7, 19), rfl, rfl⟩⟩
theorem lD_17 : lDec 785 3 91 95 := lDecB_of (by decide +kernel)
theorem lL_96 : aLV nmLaw 96 mX6_casts 1 4 := ⟨⟨in_aTbl 467 (by decide +kernel) rfl, in_aTbl 468 (by decide +kernel) rfl, in_aTbl 469 (by decide +kernel) rfl, in_aTbl 45 (by decide +kernel) rfl, in_aTbl 470 (by decide +kernel) rfl⟩, by decide +kernel, by decide, ⟨(RX6, TX6, 9), rfl, rfl⟩⟩
theorem lL_99 : aLV nmLaw 99 mX7_casts 1 5 := ⟨⟨in_aTbl 1105 (by decide +kernel) rfl, in_aTbl 1106 (by decide +kernel) rfl, in_aTbl 1107 (by decide +kernel) rfl, in_aTbl 50 (by decide +kernel) rfl, in_aTbl 1108 (by decide +kernel) rfl⟩, by decide +kernel, by decide, ⟨(RX7, TX7, 19), rfl, rfl⟩⟩
theorem lD_18 : lDec 834 1 96 99 := lDecB_of (by decide +kernel)
theorem lL_100 : aLV nmLaw 100 mX6_send 1 4 := ⟨⟨in_aTbl 498 (by decide +kernel) rfl, in_aTbl 499 (by decide +kernel) rfl, in_aTbl 500 (by decide +kernel) rfl, in_aTbl 45 (by decide +kernel) rfl, in_aTbl 501 (by decide +kernel) rfl⟩, by decide +kernel, by decide, ⟨(RX6, TX6, 9), rfl, rfl⟩⟩
theorem lL_103 : aLV nmLaw 103 mX7_send 1 5 := ⟨⟨in_aTbl 1121 (by decide +kernel) rfl, in_aTbl 1122 (by decide +kernel) rfl, in_aTbl 1123 (by decide +kernel) rfl, in_aTbl 50 (by decide +kernel) rfl, in_aTbl 1124 (by decide +kernel) rfl⟩, by decide +kernel, by decide, ⟨(RX7, TX7, 19), rfl, rfl⟩⟩
theorem lD_19 : lDec 859 1 100 103 := lDecB_of (by decide +kernel)
theorem lL_104 : aLV nmLaw 104 mX6_change 1 4 := ⟨⟨in_aTbl 506 (by decide +kernel) rfl, in_aTbl 507 (by decide +kernel) rfl, in_aTbl 508 (by decide +kernel) rfl, in_aTbl 45 (by decide +kernel) rfl, in_aTbl 509 (by decide +kernel) rfl⟩, by decide +kernel, by decide, ⟨(RX6, TX6, 9), rfl, rfl⟩⟩
theorem lL_107 : aLV nmLaw 107 mX7_change 1 5 := ⟨⟨in_aTbl 1125 (by decide +kernel) rfl, in_aTbl 1126 (by decide +kernel) rfl, in_aTbl 1127 (by decide +kernel) rfl, in_aTbl 50 (by decide +kernel) rfl, in_aTbl 1128 (by decide +kernel) rfl⟩, by decide +kernel, by decide, ⟨(RX7, TX7, 19), rfl, rfl⟩⟩
theorem lD_20 : lDec 884 1 104 107 := lDecB_of (by decide +kernel)
theorem lL_108 : aLV nmLaw 108 mX6_over 1 4 := ⟨⟨in_aTbl 514 (by decide +kernel) rfl, in_aTbl 515 (by decide +kernel) rfl, in_aTbl 516 (by decide +kernel) rfl, in_aTbl 45 (by decide +kernel) rfl, in_aTbl 517 (by decide +kernel) rfl⟩, by decide +kernel, by decide, ⟨(RX6, TX6, 9), rfl, rfl⟩⟩
theorem lL_111 : aLV nmLaw 111 mX7_over 1 5 := ⟨⟨in_aTbl 1129 (by decide +kernel) rfl, in_aTbl 1130 (by decide +kernel) rfl, in_aTbl 1131 (by decide +kernel) rfl, in_aTbl 50 (by decide +kernel) rfl, in_aTbl 1132 (by decide +kernel) rfl⟩, by decide +kernel, by decide, ⟨(RX7, TX7, 19), rfl, rfl⟩⟩
theorem lD_21 : lDec 909 1 108 111 := lDecB_of (by decide +kernel)
theorem lL_112 : aLV nmLaw 112 mX6_whatIs 3 4 := ⟨⟨in_aTbl 544 (by decide +kernel) rfl, in_aTbl 545 (by decide +kernel) rfl, in_aTbl 546 (by decide +kernel) rfl, in_aTbl 45 (by decide +kernel) rfl, in_aTbl 547 (by decide +kernel) rfl⟩, by decide +kernel, by decide, ⟨(RX6, TX6, 9), rfl, rfl⟩⟩
theorem lL_115 : aLV nmLaw 115 mX7_whatIs 3 5 := ⟨⟨in_aTbl 1154 (by decide +kernel) rfl, in_aTbl 1155 (by decide +kernel) rfl, in_aTbl 1156 (by decide +kernel) rfl, in_aTbl 50 (by decide +kernel) rfl, in_aTbl 1157 (by decide +kernel) rfl⟩, by decide +kernel, by decide, ⟨(RX7, TX7, 19), rfl, rfl⟩⟩
theorem lD_22 : lDec 934 3 112 115 := lDecB_of (by decide +kernel)
theorem lL_116 : aLV nmLaw 116 mX6_whoHeld 2 4 := ⟨⟨in_aTbl 567 (by decide +kernel) rfl, in_aTbl 568 (by decide +kernel) rfl, in_aTbl 569 (by decide +kernel) rfl, in_aTbl 45 (by decide +kernel) rfl, in_aTbl 570 (by decide +kernel) rfl⟩, by decide +kernel, by decide, ⟨(RX6, TX6, 9), rfl, rfl⟩⟩
theorem lL_119 : aLV nmLaw 119 mX7_whoHeld 2 5 := ⟨⟨in_aTbl 1166 (by decide +kernel) rfl, in_aTbl 1167 (by decide +kernel) rfl, in_aTbl 1168 (by decide +kernel) rfl, in_aTbl 50 (by decide +kernel) rfl, in_aTbl 1169 (by decide +kernel) rfl⟩, by decide +kernel, by decide, ⟨(RX7, TX7, 19), rfl, rfl⟩⟩
theorem lD_23 : lDec 983 2 116 119 := lDecB_of (by decide +kernel)
theorem lL_120 : aLV nmLaw 120 mX6_two 3 4 := ⟨⟨in_aTbl 571 (by decide +kernel) rfl, in_aTbl 572 (by decide +kernel) rfl, in_aTbl 573 (by decide +kernel) rfl, in_aTbl 45 (by decide +kernel) rfl, in_aTbl 574 (by decide +kernel) rfl⟩, by decide +kernel, by decide, ⟨(RX6, TX6, 9), rfl, rfl⟩⟩
theorem lL_123 : aLV nmLaw 123 mX7_two 3 5 := ⟨⟨in_aTbl 1170 (by decide +kernel) rfl, in_aTbl 1171 (by decide +kernel) rfl, in_aTbl 1172 (by decide +kernel) rfl, in_aTbl 50 (by decide +kernel) rfl, in_aTbl 1173 (by decide +kernel) rfl⟩, by decide +kernel, by decide, ⟨(RX7, TX7, 19), rfl, rfl⟩⟩
theorem lD_24 : lDec 1020 3 120 123 := lDecB_of (by decide +kernel)
theorem lL_124 : aLV nmLaw 124 mX6_scandals 4 4 := ⟨⟨in_aTbl 583 (by decide +kernel) rfl, in_aTbl 584 (by decide +kernel) rfl, in_aTbl 585 (by decide +kernel) rfl, in_aTbl 45 (by decide +kernel) rfl, in_aTbl 586 (by decide +kernel) rfl⟩, by decide +kernel, by decide, ⟨(RX6, TX6, 9), rfl, rfl⟩⟩
theorem lL_128 : aLV nmLaw 128 mX7_scandals 4 5 := ⟨⟨in_aTbl 1178 (by decide +kernel) rfl, in_aTbl 1179 (by decide +kernel) rfl, in_aTbl 1180 (by decide +kernel) rfl, in_aTbl 50 (by decide +kernel) rfl, in_aTbl 1181 (by decide +kernel) rfl⟩, by decide +kernel, by decide, ⟨(RX7, TX7, 19), rfl, rfl⟩⟩
theorem lD_25 : lDec 1069 4 124 128 := lDecB_of (by decide +kernel)
theorem lL_129 : aLV nmLaw 129 mX6_mean 1 4 := ⟨⟨in_aTbl 605 (by decide +kernel) rfl, in_aTbl 606 (by decide +kernel) rfl, in_aTbl 607 (by decide +kernel) rfl, in_aTbl 45 (by decide +kernel) rfl, in_aTbl 608 (by decide +kernel) rfl⟩, by decide +kernel, by decide, ⟨(RX6, TX6, 9), rfl, rfl⟩⟩
theorem lL_133 : aLV nmLaw 133 mX7_mean 1 5 := ⟨⟨in_aTbl 1192 (by decide +kernel) rfl, in_aTbl 1193 (by decide +kernel) rfl, in_aTbl 1194 (by decide +kernel) rfl, in_aTbl 50 (by decide +kernel) rfl, in_aTbl 1195 (by decide +kernel) rfl⟩, by decide +kernel, by decide, ⟨(RX7, TX7, 19), rfl, rfl⟩⟩
theorem lD_26 : lDec 1131 1 129 133 := lDecB_of (by decide +kernel)
theorem lL_134 : aLV nmLaw 134 mX6_forged 1 4 := ⟨⟨in_aTbl 613 (by decide +kernel) rfl, in_aTbl 614 (by decide +kernel) rfl, in_aTbl 615 (by decide +kernel) rfl, in_aTbl 45 (by decide +kernel) rfl, in_aTbl 616 (by decide +kernel) rfl⟩, by decide +kernel, by decide, ⟨(RX6, TX6, 9), rfl, rfl⟩⟩
theorem lL_137 : aLV nmLaw 137 mX7_forged 1 5 := ⟨⟨in_aTbl 1199 (by decide +kernel) rfl, in_aTbl 1200 (by decide +kernel) rfl, in_aTbl 1201 (by decide +kernel) rfl, in_aTbl 50 (by decide +kernel) rfl, in_aTbl 1202 (by decide +kernel) rfl⟩, by decide +kernel, by decide, ⟨(RX7, TX7, 19), rfl, rfl⟩⟩
theorem lD_27 : lDec 1157 1 134 137 := lDecB_of (by decide +kernel)
theorem lL_138 : aLV nmLaw 138 mX6_judge 1 4 := ⟨⟨in_aTbl 621 (by decide +kernel) rfl, in_aTbl 622 (by decide +kernel) rfl, in_aTbl 623 (by decide +kernel) rfl, in_aTbl 45 (by decide +kernel) rfl, in_aTbl 624 (by decide +kernel) rfl⟩, by decide +kernel, by decide, ⟨(RX6, TX6, 9), rfl, rfl⟩⟩
theorem lL_141 : aLV nmLaw 141 mX7_judge 1 5 := ⟨⟨in_aTbl 1203 (by decide +kernel) rfl, in_aTbl 1204 (by decide +kernel) rfl, in_aTbl 1205 (by decide +kernel) rfl, in_aTbl 50 (by decide +kernel) rfl, in_aTbl 1206 (by decide +kernel) rfl⟩, by decide +kernel, by decide, ⟨(RX7, TX7, 19), rfl, rfl⟩⟩
theorem lD_28 : lDec 1182 1 138 141 := lDecB_of (by decide +kernel)
theorem lL_142 : aLV nmLaw 142 mX6_years 3 4 := ⟨⟨in_aTbl 625 (by decide +kernel) rfl, in_aTbl 626 (by decide +kernel) rfl, in_aTbl 627 (by decide +kernel) rfl, in_aTbl 45 (by decide +kernel) rfl, in_aTbl 628 (by decide +kernel) rfl⟩, by decide +kernel, by decide, ⟨(RX6, TX6, 9), rfl, rfl⟩⟩
theorem lL_145 : aLV nmLaw 145 mX7_years 3 5 := ⟨⟨in_aTbl 1207 (by decide +kernel) rfl, in_aTbl 1208 (by decide +kernel) rfl, in_aTbl 1209 (by decide +kernel) rfl, in_aTbl 50 (by decide +kernel) rfl, in_aTbl 1210 (by decide +kernel) rfl⟩, by decide +kernel, by decide, ⟨(RX7, TX7, 19), rfl, rfl⟩⟩
theorem lD_29 : lDec 1207 3 142 145 := lDecB_of (by decide +kernel)
theorem lL_146 : aLV nmLaw 146 mX6_image 0 4 := ⟨⟨in_aTbl 644 (by decide +kernel) rfl, in_aTbl 645 (by decide +kernel) rfl, in_aTbl 646 (by decide +kernel) rfl, in_aTbl 45 (by decide +kernel) rfl, in_aTbl 647 (by decide +kernel) rfl⟩, by decide +kernel, by decide, ⟨(RX6, TX6, 9), rfl, rfl⟩⟩
theorem lL_150 : aLV nmLaw 150 mX7_image 0 5 := ⟨⟨in_aTbl 1218 (by decide +kernel) rfl, in_aTbl 1219 (by decide +kernel) rfl, in_aTbl 1220 (by decide +kernel) rfl, in_aTbl 50 (by decide +kernel) rfl, in_aTbl 1221 (by decide +kernel) rfl⟩, by decide +kernel, by decide, ⟨(RX7, TX7, 19), rfl, rfl⟩⟩
theorem lD_30 : lDec 1256 0 146 150 := lDecB_of (by decide +kernel)
theorem lL_151 : aLV nmLaw 151 mX6_restore 0 4 := ⟨⟨in_aTbl 648 (by decide +kernel) rfl, in_aTbl 649 (by decide +kernel) rfl, in_aTbl 650 (by decide +kernel) rfl, in_aTbl 45 (by decide +kernel) rfl, in_aTbl 651 (by decide +kernel) rfl⟩, by decide +kernel, by decide, ⟨(RX6, TX6, 9), rfl, rfl⟩⟩
theorem lL_154 : aLV nmLaw 154 mX7_restore 0 5 := ⟨⟨in_aTbl 1222 (by decide +kernel) rfl, in_aTbl 1223 (by decide +kernel) rfl, in_aTbl 1224 (by decide +kernel) rfl, in_aTbl 50 (by decide +kernel) rfl, in_aTbl 1225 (by decide +kernel) rfl⟩, by decide +kernel, by decide, ⟨(RX7, TX7, 19), rfl, rfl⟩⟩
theorem lD_31 : lDec 1269 0 151 154 := lDecB_of (by decide +kernel)
theorem lL_155 : aLV nmLaw 155 mX6_count 1 4 := ⟨⟨in_aTbl 652 (by decide +kernel) rfl, in_aTbl 653 (by decide +kernel) rfl, in_aTbl 654 (by decide +kernel) rfl, in_aTbl 45 (by decide +kernel) rfl, in_aTbl 655 (by decide +kernel) rfl⟩, by decide +kernel, by decide, ⟨(RX6, TX6, 9), rfl, rfl⟩⟩
theorem lL_158 : aLV nmLaw 158 mX7_count 1 5 := ⟨⟨in_aTbl 1226 (by decide +kernel) rfl, in_aTbl 1227 (by decide +kernel) rfl, in_aTbl 1228 (by decide +kernel) rfl, in_aTbl 50 (by decide +kernel) rfl, in_aTbl 1229 (by decide +kernel) rfl⟩, by decide +kernel, by decide, ⟨(RX7, TX7, 19), rfl, rfl⟩⟩
theorem lD_32 : lDec 1282 1 155 158 := lDecB_of (by decide +kernel)
theorem lL_159 : aLV nmLaw 159 mX6_keep 4 4 := ⟨⟨in_aTbl 656 (by decide +kernel) rfl, in_aTbl 657 (by decide +kernel) rfl, in_aTbl 658 (by decide +kernel) rfl, in_aTbl 45 (by decide +kernel) rfl, in_aTbl 659 (by decide +kernel) rfl⟩, by decide +kernel, by decide, ⟨(RX6, TX6, 9), rfl, rfl⟩⟩
theorem lL_163 : aLV nmLaw 163 mX7_keep 4 5 := ⟨⟨in_aTbl 1234 (by decide +kernel) rfl, in_aTbl 1235 (by decide +kernel) rfl, in_aTbl 1236 (by decide +kernel) rfl, in_aTbl 50 (by decide +kernel) rfl, in_aTbl 1237 (by decide +kernel) rfl⟩, by decide +kernel, by decide, ⟨(RX7, TX7, 19), rfl, rfl⟩⟩
theorem lD_33 : lDec 1307 4 159 163 := lDecB_of (by decide +kernel)
theorem lL_164 : aLV nmLaw 164 mX6_row 3 4 := ⟨⟨in_aTbl 668 (by decide +kernel) rfl, in_aTbl 669 (by decide +kernel) rfl, in_aTbl 670 (by decide +kernel) rfl, in_aTbl 45 (by decide +kernel) rfl, in_aTbl 671 (by decide +kernel) rfl⟩, by decide +kernel, by decide, ⟨(RX6, TX6, 9), rfl, rfl⟩⟩
theorem lL_167 : aLV nmLaw 167 mX7_row 3 5 := ⟨⟨in_aTbl 1238 (by decide +kernel) rfl, in_aTbl 1239 (by decide +kernel) rfl, in_aTbl 1240 (by decide +kernel) rfl, in_aTbl 50 (by decide +kernel) rfl, in_aTbl 1241 (by decide +kernel) rfl⟩, by decide +kernel, by decide, ⟨(RX7, TX7, 19), rfl, rfl⟩⟩
theorem lD_34 : lDec 1368 3 164 167 := lDecB_of (by decide +kernel)
theorem lL_168 : aLV nmLaw 168 mX6_put 3 4 := ⟨⟨in_aTbl 676 (by decide +kernel) rfl, in_aTbl 677 (by decide +kernel) rfl, in_aTbl 678 (by decide +kernel) rfl, in_aTbl 45 (by decide +kernel) rfl, in_aTbl 679 (by decide +kernel) rfl⟩, by decide +kernel, by decide, ⟨(RX6, TX6, 9), rfl, rfl⟩⟩
theorem lL_171 : aLV nmLaw 171 mX7_put 3 5 := ⟨⟨in_aTbl 1242 (by decide +kernel) rfl, in_aTbl 1243 (by decide +kernel) rfl, in_aTbl 1244 (by decide +kernel) rfl, in_aTbl 50 (by decide +kernel) rfl, in_aTbl 1245 (by decide +kernel) rfl⟩, by decide +kernel, by decide, ⟨(RX7, TX7, 19), rfl, rfl⟩⟩
theorem lD_35 : lDec 1417 3 168 171 := lDecB_of (by decide +kernel)
theorem lL_181 : aLV nmLaw 181 mX6_copy 5 4 := ⟨⟨in_aTbl 688 (by decide +kernel) rfl, in_aTbl 689 (by decide +kernel) rfl, in_aTbl 690 (by decide +kernel) rfl, in_aTbl 45 (by decide +kernel) rfl, in_aTbl 691 (by decide +kernel) rfl⟩, by decide +kernel, by decide, ⟨(RX6, TX6, 9), rfl, rfl⟩⟩
theorem lL_185 : aLV nmLaw 185 mX7_copy 5 5 := ⟨⟨in_aTbl 1250 (by decide +kernel) rfl, in_aTbl 1251 (by decide +kernel) rfl, in_aTbl 1252 (by decide +kernel) rfl, in_aTbl 50 (by decide +kernel) rfl, in_aTbl 1253 (by decide +kernel) rfl⟩, by decide +kernel, by decide, ⟨(RX7, TX7, 19), rfl, rfl⟩⟩
theorem lD_37 : lDec 1533 5 181 185 := lDecB_of (by decide +kernel)
theorem lL_186 : aLV nmLaw 186 mX6_cost 1 4 := ⟨⟨in_aTbl 708 (by decide +kernel) rfl, in_aTbl 709 (by decide +kernel) rfl, in_aTbl 710 (by decide +kernel) rfl, in_aTbl 45 (by decide +kernel) rfl, in_aTbl 711 (by decide +kernel) rfl⟩, by decide +kernel, by decide, ⟨(RX6, TX6, 9), rfl, rfl⟩⟩
theorem lL_189 : aLV nmLaw 189 mX7_cost 1 5 := ⟨⟨in_aTbl 1254 (by decide +kernel) rfl, in_aTbl 1255 (by decide +kernel) rfl, in_aTbl 1256 (by decide +kernel) rfl, in_aTbl 50 (by decide +kernel) rfl, in_aTbl 1257 (by decide +kernel) rfl⟩, by decide +kernel, by decide, ⟨(RX7, TX7, 19), rfl, rfl⟩⟩
theorem lD_38 : lDec 1606 1 186 189 := lDecB_of (by decide +kernel)
