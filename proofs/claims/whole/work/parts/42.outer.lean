/-! ===== contracts by stores, called out of any method ===== -/
theorem va_P_l {D : va_G} {cl : List vw_C} {w1 w2 : va_W} {H : Heap} (h : va_P D cl (w1 ++ w2) H) : va_P D cl w1 H := fun k q hk => h k q (by rw [List.getElem?_append_left (List.getElem?_eq_some_iff.mp hk).1]; exact hk)
theorem va_P_r {D : va_G} {cl : List vw_C} {w1 w2 : va_W} {H : Heap} (h : va_P D cl (w1 ++ w2) H) : va_P D cl w2 H := fun k q hk => h (w1.length + k) q (by rw [List.getElem?_append_right (Nat.le_add_right _ _), Nat.add_sub_cancel_left]; exact hk)
theorem va_D_l {A : Nat → Prop} {w1 w2 : va_W} (h : va_D A (w1 ++ w2)) : va_D A w1 :=
  ⟨fun i j p q hi hj e => h.1 i j p q (by rw [List.getElem?_append_left (List.getElem?_eq_some_iff.mp hi).1]; exact hi) (by rw [List.getElem?_append_left (List.getElem?_eq_some_iff.mp hj).1]; exact hj) e, fun k q hk => h.2 k q (by rw [List.getElem?_append_left (List.getElem?_eq_some_iff.mp hk).1]; exact hk)⟩
theorem va_D_x {A : Nat → Prop} {w1 w2 : va_W} (h : va_D A (w1 ++ w2)) {i j : Nat} {p q : Nat × va_E} (hi : w1[i]? = some p) (hj : w2[j]? = some q) : p.1 ≠ q.1 := by
  intro e
  have hl := (List.getElem?_eq_some_iff.mp hi).1
  have := h.1 i (w1.length + j) p q (by rw [List.getElem?_append_left hl]; exact hi) (by rw [List.getElem?_append_right (Nat.le_add_right _ _), Nat.add_sub_cancel_left]; exact hj) e
  omega
theorem va_D_r {A : Nat → Prop} {w1 w2 : va_W} (h : va_D A (w1 ++ w2)) {j : Nat} {q : Nat × va_E} (hj : w2[j]? = some q) : A q.1 := h.2 (w1.length + j) q (by rw [List.getElem?_append_right (Nat.le_add_right _ _), Nat.add_sub_cancel_left]; exact hj)
theorem aWo_get {ad : Nat → Nat → Nat} {cA : ClassId} {σ : aS} {k : Nat} {q : Nat × va_E} (h : (aWo ad cA σ)[k]? = some q) : ∃ t c : Nat, aPl[k]? = some (t, c) ∧ q.1 = ad t c := by
  unfold aWo at h
  rw [List.getElem?_map] at h
  cases hi : aPl[k]? with
  | none => rw [hi] at h; cases h
  | some x => rw [hi] at h; cases h; exact ⟨x.1, x.2, rfl, rfl⟩
theorem aWo_D {ad : Nat → Nat → Nat} {cA : ClassId} {σ σ' : aS} {A : Nat → Prop} (h : va_D A (aWo ad cA σ)) : va_D A (aWo ad cA σ') := by
  refine ⟨fun i j p q hi hj he => ?_, fun k q hk => ?_⟩
  · obtain ⟨t1, c1, a1, b1⟩ := aWo_get hi
    obtain ⟨t2, c2, a2, b2⟩ := aWo_get hj
    exact h.1 i j _ _ (aWo_at a1) (aWo_at a2) (by show ad t1 c1 = ad t2 c2; rw [← b1, ← b2]; exact he)
  · obtain ⟨t1, c1, a1, b1⟩ := aWo_get hk
    rw [b1]
    exact h.2 k _ (aWo_at a1)
theorem aWo_self {ad : Nat → Nat → Nat} {cA : ClassId} {σ : aS} {A : Nat → Prop} (h : va_D A (aWo ad cA σ)) : va_D (aA ad) (aWo ad cA σ) :=
  ⟨h.1, fun k q hk => by
    obtain ⟨t1, c1, a1, b1⟩ := aWo_get hk
    have z := aPl_in _ (List.mem_of_getElem? a1)
    exact ⟨t1, c1, z.1, z.2, b1⟩⟩
theorem aWo_A {ad : Nat → Nat → Nat} {cA : ClassId} {σ : aS} {A : Nat → Prop} (h : va_D A (aWo ad cA σ)) : ∀ q, aA ad q → A q := by
  rintro q ⟨t, c, ht, hc, rfl⟩
  obtain ⟨k, hk⟩ := aPl_at ht hc
  exact h.2 k _ (aWo_at (cA := cA) (σ := σ) hk)
/-- a cell beside the stores' world isn't one of it -/
theorem aWo_off {ad : Nat → Nat → Nat} {cA : ClassId} {σ : aS} {A : Nat → Prop} {w2 : va_W} {j : Nat} {q : Nat × va_E} (h : va_D A (aWo ad cA σ ++ w2)) (hj : w2[j]? = some q) : ¬ aA ad q.1 := by
  rintro ⟨t, c, ht, hc, e⟩
  obtain ⟨k, hk⟩ := aPl_at ht hc
  exact va_D_x h (aWo_at (cA := cA) (σ := σ) hk) hj e.symm
theorem aGood {M' : aMt} (h : Cond.code M'.1 M'.2.1 M'.2.2.1 M'.2.2.2.1 ∈ aTbl) : GoodIn aTbl (aWs M') := by
  intro w hw
  have hw2 : w ∈ aTbl := (List.mem_cons.mp hw).elim (fun e => by rw [e]; exact h) id
  exact ⟨hw2, (aTbl_good w hw2).2⟩
section WCalls
variable {p : Program} {l : Launch} {e : Env} {R : Room} {s : State} {m : MethodId} {args : Array Value} {below : List Frame} {meth : Method} {c : Code} {H : Heap} {locs : List Loc} {cells slots : Nat} {QQ : State → Prop}
variable {D : va_G} {cA : ClassId} {ad : Nat → Nat → Nat} {σ : aS} {A0 : Nat → Prop} {M' : aMt} {d' : Nat} {Q' : Option aV → aS → Prop} {cc : ByteArray} {pc nL : Nat} {ls : Array Slot} {st rest : List Value} {tys : List (ClassId × FieldType)}
theorem w_pc {as : List aV} (hK : va_K D aCl [(cA, .int)] s) (hN : aNe s) (hP : va_P D aCl (aWo ad cA σ) H) (hD : va_D A0 (aWo ad cA σ)) {vs : List Value} (hv : vs = as.map (cV ad)) : ∀ U : State, U.heap = H → s.WarmedH U.vm → aPc ad cA D as σ vs.toArray U := by
  intro U hU hW
  exact ⟨by rw [hv], by rw [hU]; exact hP, va_K.moved hW.alike hK, aWo_self hD, aNe_warm hW hN⟩
theorem w_back {a : Array Value} (hD : va_D A0 (aWo ad cA σ)) (hS : va_S A0 s.heap H locs) (hr : va_Run p l e R s m args below meth c H locs cells slots 0 0 (F0 m pc ls st) rest (aQ ad cA D Q' a) (aA ad))
    (k : ∀ (r : Option aV) (σ' : aS) (H1 : Heap) (locs1 : List Loc), Q' r σ' → va_P D aCl (aWo ad cA σ') H1 → va_D A0 (aWo ad cA σ') → va_S A0 s.heap H1 locs1 → H.size ≤ H1.size → (∀ q : Nat, q < H.size → ¬ aA ad q → H1[q]? = H[q]?) → W p l e R s m args below meth c H1 locs1 cells slots QQ (F0 m (pc + 3) ls ((r.map (cV ad)).toList ++ rest))) : W p l e R s m args below meth c H locs cells slots QQ (F0 m pc ls st) := by
  intro T hT X
  obtain ⟨v, st₀, t, T', Lc, h0, X', hLc, e1, e2, ⟨⟨r, σ', hv, hq, hP'⟩, hz, hkk⟩, stp⟩ := hr T hT X
  have hv2 : v = r.map (cV ad) := by cases hv; rfl
  subst hv2
  rw [h0] at hz hkk
  have hsub := aWo_A hD
  obtain ⟨t2, a1, b1⟩ := k r σ' T'.heap (locs ++ Lc) hq (by rw [e1]; exact hP') (aWo_D hD) ⟨Nat.le_trans hS.1 (by rw [e1]; exact hz), fun q h1 h2 => by
      rw [e1, hkk q (Nat.lt_of_lt_of_le h1 hS.1) (fun z => h2 (hsub q z))]
      exact hS.2.1 q h1 h2, fun q hq => by
      rcases List.mem_append.mp hq with h | h
      · exact hS.2.2 q h
      · exact hsub _ (hLc q h)⟩ (by rw [e1]; exact hz) (fun q h1 h2 => by rw [e1]; exact hkk q h1 h2) T' rfl X'
  exact ⟨t2, stp t2 a1, b1⟩
/-- a call of a method of an object of the stores' world -/
theorem w_V {own : String} {idx n ci t c0 : Nat} {as : List aV} (hx : p.tables.exec = Jvm.exec) (hb : c.code = cc) (hml : c.maxLocals = nL) (hsz : ls.size = nL) (hown : s.vm.findClass own = some m.cls) (hws : ∀ w ∈ aTbl, w.before args s = true) (hK : va_K D aCl [(cA, .int)] s) (hN : aNe s) (hP : va_P D aCl (aWo ad cA σ) H) (hD : va_D A0 (aWo ad cA σ)) (hS : va_S A0 s.heap H locs)
    (lk : aLV own idx M' n ci) (hR : d' + 1 ≤ R.frames ∧ 38 * (d' + 1) ≤ R.locals) (ht : t < 32) (hc : c0 < aCnt t) (hcl : aCls t = some ci) (hn : as.length = n) (hr : (rest.map fun v => v.category).sum ≤ 8) (hst : st = (as.map (cV ad)).reverse ++ .ref (ad t c0) :: rest) (hdg : decode cc pc = .ok (.invokevirtual idx, 3)) (hcs : cells ≤ R.cells ∧ slots ≤ R.slots) (hm : AM l d' M' (aR t c0 :: as) σ Q')
    (k : ∀ (r : Option aV) (σ' : aS) (H1 : Heap) (locs1 : List Loc), Q' r σ' → va_P D aCl (aWo ad cA σ') H1 → va_D A0 (aWo ad cA σ') → va_S A0 s.heap H1 locs1 → H.size ≤ H1.size → (∀ q : Nat, q < H.size → ¬ aA ad q → H1[q]? = H[q]?) → W p l e R s m args below meth c H1 locs1 cells slots QQ (F0 m (pc + 3) ls ((r.map (cV ad)).toList ++ rest))) : W p l e R s m args below meth c H locs cells slots QQ (F0 m pc ls st) := by
  obtain ⟨⟨l1, l2, l3, l4, l5⟩, l6, l7, rc, l8, l9⟩ := lk
  subst hst
  have hG : GoodIn aTbl (wsV own idx M'.1.cls M'.1 (aWs M')) := by
    intro w hw
    unfold wsV at hw
    rcases List.mem_append.mp hw with h | h
    · have hw2 : w ∈ aTbl := by
        simp only [List.mem_cons, List.not_mem_nil, or_false] at h
        rcases h with rfl | rfl | rfl | rfl
        · exact l1
        · exact l2
        · exact l3
        · exact l4
      exact ⟨hw2, (aTbl_good w hw2).2⟩
    · exact aGood l5 w h
  obtain ⟨q0, hq0⟩ := aPl_at ht hc
  have e1 := aWo_at (ad := ad) (cA := cA) (σ := σ) hq0
  unfold aCell at e1
  rw [hcl] at e1
  have hrec := va_recv hK hP l8 e1
  rw [l9] at hrec
  have hfit : (aRm d').frames + 1 ≤ R.frames ∧ 8 + (M'.2.2.1 + 11) + (aRm d').locals ≤ R.locals := by
    refine ⟨hR.1, ?_⟩
    show 8 + (M'.2.2.1 + 11) + 38 * d' ≤ R.locals
    omega
  exact w_back hD hS (va_runV (As := as.map (cV ad)) (rest := rest) (b := ad t c0) ⟨hx, hb, hml, hown, hws⟩ (hm D cA ad) (cwV n hws hG rfl rfl rfl l6 hfit) ⟨aPc_blind, hrec, w_pc (as := aR t c0 :: as) hK hN hP hD rfl⟩ rfl (by rw [List.length_map]; exact hn) hsz rfl (lv_room hr) hdg hcs) k
/-- a call of a static method -/
theorem w_S {own : String} {idx n : Nat} {as : List aV} (hx : p.tables.exec = Jvm.exec) (hb : c.code = cc) (hml : c.maxLocals = nL) (hsz : ls.size = nL) (hown : s.vm.findClass own = some m.cls) (hws : ∀ w ∈ aTbl, w.before args s = true) (hK : va_K D aCl [(cA, .int)] s) (hN : aNe s) (hP : va_P D aCl (aWo ad cA σ) H) (hD : va_D A0 (aWo ad cA σ)) (hS : va_S A0 s.heap H locs)
    (lk : aLS own idx M' n) (hR : d' + 1 ≤ R.frames ∧ 38 * (d' + 1) ≤ R.locals) (hn : as.length = n) (hr : (rest.map fun v => v.category).sum ≤ 8) (hst : st = (as.map (cV ad)).reverse ++ rest) (hdg : decode cc pc = .ok (.invokestatic idx, 3)) (hcs : cells ≤ R.cells ∧ slots ≤ R.slots) (hm : AM l d' M' as σ Q')
    (k : ∀ (r : Option aV) (σ' : aS) (H1 : Heap) (locs1 : List Loc), Q' r σ' → va_P D aCl (aWo ad cA σ') H1 → va_D A0 (aWo ad cA σ') → va_S A0 s.heap H1 locs1 → H.size ≤ H1.size → (∀ q : Nat, q < H.size → ¬ aA ad q → H1[q]? = H[q]?) → W p l e R s m args below meth c H1 locs1 cells slots QQ (F0 m (pc + 3) ls ((r.map (cV ad)).toList ++ rest))) : W p l e R s m args below meth c H locs cells slots QQ (F0 m pc ls st) := by
  obtain ⟨⟨l1, l2, l4, l5⟩, l6, l7⟩ := lk
  subst hst
  have hfit : (aRm d').frames + 1 ≤ R.frames ∧ 8 + (M'.2.2.1 + 11) + (aRm d').locals ≤ R.locals := by
    refine ⟨hR.1, ?_⟩
    show 8 + (M'.2.2.1 + 11) + 38 * d' ≤ R.locals
    omega
  exact w_back hD hS (va_runS (As := as.map (cV ad)) (rest := rest) ⟨hx, hb, hml, hown, hws⟩ (hm D cA ad) ⟨callB_of n hws (aGood l5) rfl rfl rfl (hws _ l4) (hws _ l1) l6 hfit, hws _ l2⟩ ⟨aPc_blind, w_pc (as := as) hK hN hP hD rfl⟩ rfl (by rw [List.length_map]; exact hn) hsz rfl (lv_room hr) hdg hcs) k
/-- a field that names a place -/
theorem w_get {own : String} {K : aK} {idx t c0 kf ci : Nat} {f : Nat × Option Nat} (hx : p.tables.exec = Jvm.exec) (hb : c.code = cc) (hown : s.vm.findClass own = some m.cls) (hws : ∀ w ∈ aTbl, w.before args s = true) (hK : va_K D aCl tys s) (hP : va_P D aCl (aWo ad cA σ) H) (hk : aKok own K) (hl : aLk K.1 idx = some (ci, kf)) (ht : t < 32) (hc : c0 < aCnt t) (hcl : aCls t = some ci) (hf : (aFld t)[kf]? = some (some f)) (hdg : decode cc pc = .ok (.getfield idx, 3))
    (k : W p l e R s m args below meth c H locs cells slots QQ (F0 m (pc + 3) ls (.ref (ad f.1 (f.2.getD c0)) :: rest))) : W p l e R s m args below meth c H locs cells slots QQ (F0 m pc ls (.ref (ad t c0) :: rest)) := by
  obtain ⟨rc, hc1, hc2, hc3, hc4⟩ := hk.1 _ (aLk_mem hl)
  dsimp only at hc1 hc2 hc3 hc4
  obtain ⟨o1, -⟩ := aCl_ok ci rc hc1
  obtain ⟨q0, hq0⟩ := aPl_at ht hc
  have e1 := aWo_at (ad := ad) (cA := cA) (σ := σ) hq0
  unfold aCell at e1
  rw [hcl] at e1
  exact va_get (D := D) hx hb hws o1 hown hK hP q0 e1 hc1 kf hc2 (hws _ hc3) (fun x h => by rw [← hc4]; exact h) (v := .ref (ad f.1 (f.2.getD c0))) (by rw [List.getElem?_mapIdx, hf]; rfl) hdg k
end WCalls
