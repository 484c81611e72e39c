/-! ===== what throws rest on ===== -/
abbrev xISE : String := "java/lang/IllegalStateException"
abbrev xIAE : String := "java/lang/IllegalArgumentException"
abbrev xUOE : String := "java/lang/UnsupportedOperationException"
abbrev xnm : List String := ["java/lang/RuntimeException", "java/lang/Exception"]
def xB1 : List Cond := [.castable xISE xISE, .castable xIAE xIAE, .castable xUOE xUOE]
def xB2 : List MethodName := [⟨"java/lang/RuntimeException", "<init>", "(Ljava/lang/String;)V"⟩, ⟨"java/lang/Exception", "<init>", "(Ljava/lang/String;)V"⟩, ⟨"java/lang/Throwable", "<init>", "(Ljava/lang/String;)V"⟩]
def xB : List Cond := xB1 ++ xB2.map Cond.declares
def xNc : List (String × String) := [(xIAE, xISE), (xUOE, xISE), (xUOE, xIAE), (xISE, xIAE)]
def xSt : List (String × Nat × String) := [("OnlyInDisguise$Kinds", 21, "a minister fails"), ("OnlyInDisguise$Kinds", 28, "a tailor fails"), ("OnlyInDisguise$Kinds", 33, "a sweeper fails"), ("OnlyInDisguise", 279, "no such shelf"), ("OnlyInDisguise", 286, "no row"), ("OnlyInDisguise", 289, "no such place")]
def xT (A : Nat → Prop) (U : State) (H : Heap) : Prop := (∀ w ∈ xB, va_Nw w U) ∧ (∀ q ∈ xNc, va_Nc q.1 q.2 U) ∧ (∀ q ∈ xSt, ∃ a, vk_R q.1 q.2.1 q.2.2 a U) ∧ vx_Zq Bundle.tN "UNASSIGNED_STACK" Bundle.steD A U H ∧ vx_Zq Bundle.tN "SUPPRESSED_SENTINEL" Bundle.listD A U H
theorem xB_warm {s U : State} (hW : s.WarmedH U.vm) (h : ∀ w ∈ xB, va_Nw w s) : ∀ w ∈ xB, va_Nw w U := by
  intro w hw
  have h0 := h w hw
  simp only [xB, xB1, xB2, List.map_cons, List.map_nil, List.cons_append, List.nil_append, List.mem_cons, List.not_mem_nil, or_false] at hw
  rcases hw with rfl | rfl | rfl | rfl | rfl | rfl
  · exact va_Nw.warmC hW h0
  · exact va_Nw.warmC hW h0
  · exact va_Nw.warmC hW h0
  · exact va_Nw.warmD hW h0
  · exact va_Nw.warmD hW h0
  · exact va_Nw.warmD hW h0
theorem xT.at {A : Nat → Prop} {s U : State} {H : Heap} {locs : List Loc} (h : xT A s s.heap) (hW : s.WarmedH U.vm) (hU : U.heap = H) (hS : va_S A s.heap H locs) : xT A U U.heap := by
  obtain ⟨a, b, c, d, e⟩ := h
  rw [hU]
  refine ⟨xB_warm hW a, fun q hq => va_Nc.moved hW.alike (b q hq), fun q hq => ?_, vx_Zq.moved hW.alike (d.kept hS.2.1), vx_Zq.moved hW.alike (e.kept hS.2.1)⟩
  obtain ⟨x, hx⟩ := c q hq
  exact ⟨x, vk_R.warm hW hx⟩
theorem xT.call {A : Nat → Prop} {U : State} {g : JFrame} {mk : MethodId} {a : Array Value} (h : xT A U U.heap) : xT A (U.calling g mk a) (U.calling g mk a).heap := by
  obtain ⟨b, c, d, e, f⟩ := h
  refine ⟨fun w hw => ?_, fun q hq => va_Nc.moved (U := U.calling g mk a) (Vm.Alike.refl U.vm) (c q hq), fun q hq => ?_, vx_Zq.moved (U := U.calling g mk a) (Vm.Alike.refl U.vm) e, vx_Zq.moved (U := U.calling g mk a) (Vm.Alike.refl U.vm) f⟩
  · have h0 := b w hw
    simp only [xB, xB1, xB2, List.map_cons, List.map_nil, List.cons_append, List.nil_append, List.mem_cons, List.not_mem_nil, or_false] at hw
    rcases hw with rfl | rfl | rfl | rfl | rfl | rfl <;> exact va_Nw.same (u := U) rfl rfl h0
  · obtain ⟨x, hx⟩ := d q hq
    exact ⟨x, vk_R.same (u := U) rfl hx⟩
theorem xT.narrow {A B : Nat → Prop} {U : State} {H : Heap} (h : xT A U H) (hAB : ∀ q, B q → A q) : xT B U H := ⟨h.1, h.2.1, h.2.2.1, h.2.2.2.1.narrow hAB, h.2.2.2.2.narrow hAB⟩
/-- the words of one throw -/
def xW (own : String) (ik ic : Nat) (cls : String) : Prop := (Cond.classLink own ik cls ∈ aTbl ∧ Cond.initialized cls ∈ aTbl) ∧ (∀ w ∈ (vx_atS own ic cls xnm).filter goodWord, w ∈ aTbl) ∧ (∀ w ∈ (vx_atS own ic cls xnm).filter (fun w => !goodWord w), w ∈ xB) ∧ (∀ w ∈ Cond.classLink own ik cls :: Cond.initialized cls :: vx_atS own ic cls xnm, vx_ot w = true) ∧ Bundle.fit cls = true ∧ ∀ n ∈ xnm, Bundle.fit n = true
theorem xW_hat {own cls : String} {ik ic : Nat} {A : Nat → Prop} {s : State} {args : Array Value} (h : xW own ik ic cls) (hws : ∀ w ∈ aTbl, w.before args s = true) (hT : xT A s s.heap) : ∀ w ∈ vx_atS own ic cls xnm, w.before args s = true := by
  refine vx_hat (B := xB) (fun w hw => hws w (h.2.1 w hw)) h.2.2.1 (fun w hw => ?_)
  have h0 := hT.1 w hw
  simp only [xB, xB1, xB2, List.map_cons, List.map_nil, List.cons_append, List.nil_append, List.mem_cons, List.not_mem_nil, or_false] at hw
  rcases hw with rfl | rfl | rfl | rfl | rfl | rfl <;> exact va_Nw.use rfl h0
theorem xW_mk {own cls : String} {ik ic : Nat} (h1 : Cond.classLink own ik cls ∈ aTbl) (h2 : Cond.initialized cls ∈ aTbl) (h3 : ∀ w ∈ (vx_atS own ic cls xnm).filter goodWord, w ∈ lw_tbl) (h4 : ∀ w ∈ (vx_atS own ic cls xnm).filter (fun w => !goodWord w), w ∈ xB) (h5 : ∀ w ∈ Cond.classLink own ik cls :: Cond.initialized cls :: vx_atS own ic cls xnm, vx_ot w = true) (h6 : Bundle.fit cls = true) : xW own ik ic cls :=
  ⟨⟨h1, h2⟩, fun w hw => List.mem_filter.mpr ⟨h3 w hw, (List.mem_filter.mp hw).2⟩, h4, h5, h6, by decide +kernel⟩
theorem xw_1 : xW "OnlyInDisguise$Kinds" 19 23 xISE := xW_mk (in_aTbl 725 (by decide +kernel) rfl) (in_aTbl 59 (by decide +kernel) rfl) (by decide +kernel) (by decide +kernel) (by decide +kernel) (by decide +kernel)
theorem xw_2 : xW "OnlyInDisguise$Kinds" 26 30 xIAE := xW_mk (in_aTbl 793 (by decide +kernel) rfl) (in_aTbl 58 (by decide +kernel) rfl) (by decide +kernel) (by decide +kernel) (by decide +kernel) (by decide +kernel)
theorem xw_3 : xW "OnlyInDisguise$Kinds" 31 35 xUOE := xW_mk (in_aTbl 809 (by decide +kernel) rfl) (in_aTbl 61 (by decide +kernel) rfl) (by decide +kernel) (by decide +kernel) (by decide +kernel) (by decide +kernel)
theorem xw_4 : xW "OnlyInDisguise" 277 281 xIAE := xW_mk (in_aTbl 720 (by decide +kernel) rfl) (in_aTbl 58 (by decide +kernel) rfl) (by decide +kernel) (by decide +kernel) (by decide +kernel) (by decide +kernel)
theorem xw_5 : xW "OnlyInDisguise" 284 288 xISE := xW_mk (in_aTbl 719 (by decide +kernel) rfl) (in_aTbl 59 (by decide +kernel) rfl) (by decide +kernel) (by decide +kernel) (by decide +kernel) (by decide +kernel)
/-! the failure of a kind -/
abbrev nmFail : MethodName := ⟨"OnlyInDisguise$Kinds", "fail", "(II)V"⟩
abbrev wsFail : List Cond := .code nmFail prog_5_method_6_code 2 none :: aTbl
def xF (k f : Int) : Int := if f = 0 then 0 else if k = 0 ∨ k = 5 then 1 else if k = 2 ∨ k = 4 then 2 else if k = 7 then 3 else 0
def xC (z : Int) : String := if z = 1 then xISE else if z = 2 then xIAE else xUOE
theorem dFail_0 : decode prog_5_method_6_code 0 = .ok (.iload_n 1, 1) := by decide +kernel
theorem dFail_1 : decode prog_5_method_6_code 1 = .ok (.ifCond .ne 4, 3) := by decide +kernel
theorem dFail_4 : decode prog_5_method_6_code 4 = .ok (.return_, 1) := by decide +kernel
theorem dFail_5 : decode prog_5_method_6_code 5 = .ok (.iload_n 0, 1) := by decide +kernel
theorem dFail_6 : decode prog_5_method_6_code 6 = .ok (.tableswitch 76 0 7 #[46, 76, 56, 76, 56, 46, 76, 66], 46) := by decide +kernel
theorem dFail_52 : decode prog_5_method_6_code 52 = .ok (.new 19, 3) := by decide +kernel
theorem dFail_55 : decode prog_5_method_6_code 55 = .ok (.dup, 1) := by decide +kernel
theorem dFail_56 : decode prog_5_method_6_code 56 = .ok (.ldc 21, 2) := by decide +kernel
theorem dFail_58 : decode prog_5_method_6_code 58 = .ok (.invokespecial 23, 3) := by decide +kernel
theorem dFail_61 : decode prog_5_method_6_code 61 = .ok (.athrow, 1) := by decide +kernel
theorem dFail_62 : decode prog_5_method_6_code 62 = .ok (.new 26, 3) := by decide +kernel
theorem dFail_65 : decode prog_5_method_6_code 65 = .ok (.dup, 1) := by decide +kernel
theorem dFail_66 : decode prog_5_method_6_code 66 = .ok (.ldc 28, 2) := by decide +kernel
theorem dFail_68 : decode prog_5_method_6_code 68 = .ok (.invokespecial 30, 3) := by decide +kernel
theorem dFail_71 : decode prog_5_method_6_code 71 = .ok (.athrow, 1) := by decide +kernel
theorem dFail_72 : decode prog_5_method_6_code 72 = .ok (.new 31, 3) := by decide +kernel
theorem dFail_75 : decode prog_5_method_6_code 75 = .ok (.dup, 1) := by decide +kernel
theorem dFail_76 : decode prog_5_method_6_code 76 = .ok (.ldc 33, 2) := by decide +kernel
theorem dFail_78 : decode prog_5_method_6_code 78 = .ok (.invokespecial 35, 3) := by decide +kernel
theorem dFail_81 : decode prog_5_method_6_code 81 = .ok (.athrow, 1) := by decide +kernel
theorem dFail_82 : decode prog_5_method_6_code 82 = .ok (.return_, 1) := by decide +kernel
set_option maxHeartbeats 1000000 in
theorem c_fail (l : Launch) (hst : l.stackTraces = false) (A : Nat → Prop) (k f : Int) (hk : 0 ≤ k ∧ k ≤ 7) (hf : 0 ≤ f ∧ f ≤ 9) : vx_Met l nmFail wsFail { frames := 6, cells := 1, slots := 6, locals := 90 } (va_Pc [.int (Int32.ofInt k), .int (Int32.ofInt f)] (fun U => xT A U U.heap)) (va_Qv (fun _ : Unit => xF k f = 0) (fun _ _ => True) (fun _ => False)) (vx_X (fun _ : Unit => xF k f ≠ 0) (fun E _ _ => E = xC (xF k f)) (fun _ => False)) 1 6 A := by
  refine vx_ofW (cc := prog_5_method_6_code) (maxL := 2) (ret := none) (by decide) rfl ?_
  intro p e s m args below meth c s₁ B hml ht hv
  obtain ⟨rfl, hT⟩ := hv
  have hx := B.exec
  have hb := B.bytes
  have hr := B.returns
  have hts := atoms_spec (ws := wsFail) B.pre
  have hws : ∀ w ∈ aTbl, w.before _ s = true := fun w hw => hts w (List.mem_cons_of_mem _ hw)
  have hown : s.vm.findClass "OnlyInDisguise$Kinds" = some m.cls := findClass_of_methodNamed B.named
  have hlocks := B.notSynchronized
  have hT : xT A s s.heap := hT
  have hl := lv_entry ([.int (Int32.ofInt k), .int (Int32.ofInt f)]) (n := 2) (Nat.le_of_ble_eq_true rfl)
  rw [lg_entry_eq]
  generalize (lg_sl ([.int (Int32.ofInt k), .int (Int32.ofInt f)]) ++ List.replicate (2 - (lg_sl ([.int (Int32.ofInt k), .int (Int32.ofInt f)])).length) Slot.unset).toArray = ls at hl ⊢
  have hl : lv_has ls 2 [(0, .int (Int32.ofInt k)), (1, .int (Int32.ofInt f))] := hl
  have hret : ∀ pc : Nat, decode prog_5_method_6_code pc = .ok (.return_, 1) → xF k f = 0 → W p l e (headSpec wsFail { frames := 6, cells := 1, slots := 6, locals := 90 }).room s m #[.int (Int32.ofInt k), .int (Int32.ofInt f)] below meth c s.heap [] 0 0 (vx_MQ below (va_Qv (fun _ : Unit => xF k f = 0) (fun _ _ => True) (fun _ => False)) (vx_X (fun _ : Unit => xF k f ≠ 0) (fun E _ _ => E = xC (xF k f)) (fun _ => False)) #[.int (Int32.ofInt k), .int (Int32.ofInt f)] s 1 6 A) (F0 m pc ls []) := by
    intro pc hd hz
    refine vx_ret (W.widen (k := 1) (n := 6) (Nat.le_of_ble_eq_true rfl) (Nat.le_of_ble_eq_true rfl) ?_)
    exact W.vret hx hb hr (fun t ht2 hW => ⟨⟨(), rfl, hz, trivial⟩, va_S.rf.F ht2⟩) (fun _ h => nomatch h) hd
  refine lv_iload_n hx hb dFail_0 rfl (lv_at hl 1 rfl) ?_
  refine lv_if_ne (tgt := 5) hx hb dFail_1 rfl (fun h1 => ?_) (fun h1 => ?_)
  · have h1' : f ≠ 0 := fun q => h1 (by rw [q]; rfl)
    refine lv_iload_n hx hb dFail_5 rfl (lv_at hl 0 rfl) ?_
    have hki : (Int32.ofInt k).toInt = k := aIn_toInt ⟨by omega, by omega⟩
    rcases (show k = 0 ∨ k = 1 ∨ k = 2 ∨ k = 3 ∨ k = 4 ∨ k = 5 ∨ k = 6 ∨ k = 7 by omega) with q | q | q | q | q | q | q | q
    · refine lv_tableIn (off := 46) (tgt := 52) hx hb dFail_6 (by rw [hki]; omega) (by rw [hki]; omega) (by rw [hki, q]; rfl) rfl ?_
      obtain ⟨sa, hs⟩ := hT.2.2.1 ("OnlyInDisguise$Kinds", 21, "a minister fails") (by decide)
      exact vx_throwS hx hb hst hown (xw_1).2.2.2.2.1 (xw_1).2.2.2.2.2 (hws _ (xw_1).1.1) (hws _ (xw_1).1.2) hs (xW_hat xw_1 hws hT) (xw_1).2.2.2.1 hT.2.2.2.1 hT.2.2.2.2 va_S.rf (hl.1.trans hml.symm) dFail_52 dFail_55 dFail_56 dFail_58 dFail_61 (fun x h => (ht x h).elim) (by decide) (by decide) (Nat.le_of_ble_eq_true rfl) (Nat.le_of_ble_eq_true rfl) hlocks (fun t _ h1 h2 => ⟨(), by show xF k f ≠ 0; unfold xF; (repeat' split) <;> omega, by show xISE = xC (xF k f); rw [show xF k f = 1 by unfold xF; (repeat' split) <;> omega]; rfl, h1, fun q h _ => h2 q h⟩) (fun _ h => nomatch h) (Nat.le_of_ble_eq_true rfl) (Nat.le_of_ble_eq_true rfl)
    · refine lv_tableIn (off := 76) (tgt := 82) hx hb dFail_6 (by rw [hki]; omega) (by rw [hki]; omega) (by rw [hki, q]; rfl) rfl ?_
      exact hret 82 dFail_82 (by unfold xF; (repeat' split) <;> omega)
    · refine lv_tableIn (off := 56) (tgt := 62) hx hb dFail_6 (by rw [hki]; omega) (by rw [hki]; omega) (by rw [hki, q]; rfl) rfl ?_
      obtain ⟨sa, hs⟩ := hT.2.2.1 ("OnlyInDisguise$Kinds", 28, "a tailor fails") (by decide)
      exact vx_throwS hx hb hst hown (xw_2).2.2.2.2.1 (xw_2).2.2.2.2.2 (hws _ (xw_2).1.1) (hws _ (xw_2).1.2) hs (xW_hat xw_2 hws hT) (xw_2).2.2.2.1 hT.2.2.2.1 hT.2.2.2.2 va_S.rf (hl.1.trans hml.symm) dFail_62 dFail_65 dFail_66 dFail_68 dFail_71 (fun x h => (ht x h).elim) (by decide) (by decide) (Nat.le_of_ble_eq_true rfl) (Nat.le_of_ble_eq_true rfl) hlocks (fun t _ h1 h2 => ⟨(), by show xF k f ≠ 0; unfold xF; (repeat' split) <;> omega, by show xIAE = xC (xF k f); rw [show xF k f = 2 by unfold xF; (repeat' split) <;> omega]; rfl, h1, fun q h _ => h2 q h⟩) (fun _ h => nomatch h) (Nat.le_of_ble_eq_true rfl) (Nat.le_of_ble_eq_true rfl)
    · refine lv_tableIn (off := 76) (tgt := 82) hx hb dFail_6 (by rw [hki]; omega) (by rw [hki]; omega) (by rw [hki, q]; rfl) rfl ?_
      exact hret 82 dFail_82 (by unfold xF; (repeat' split) <;> omega)
    · refine lv_tableIn (off := 56) (tgt := 62) hx hb dFail_6 (by rw [hki]; omega) (by rw [hki]; omega) (by rw [hki, q]; rfl) rfl ?_
      obtain ⟨sa, hs⟩ := hT.2.2.1 ("OnlyInDisguise$Kinds", 28, "a tailor fails") (by decide)
      exact vx_throwS hx hb hst hown (xw_2).2.2.2.2.1 (xw_2).2.2.2.2.2 (hws _ (xw_2).1.1) (hws _ (xw_2).1.2) hs (xW_hat xw_2 hws hT) (xw_2).2.2.2.1 hT.2.2.2.1 hT.2.2.2.2 va_S.rf (hl.1.trans hml.symm) dFail_62 dFail_65 dFail_66 dFail_68 dFail_71 (fun x h => (ht x h).elim) (by decide) (by decide) (Nat.le_of_ble_eq_true rfl) (Nat.le_of_ble_eq_true rfl) hlocks (fun t _ h1 h2 => ⟨(), by show xF k f ≠ 0; unfold xF; (repeat' split) <;> omega, by show xIAE = xC (xF k f); rw [show xF k f = 2 by unfold xF; (repeat' split) <;> omega]; rfl, h1, fun q h _ => h2 q h⟩) (fun _ h => nomatch h) (Nat.le_of_ble_eq_true rfl) (Nat.le_of_ble_eq_true rfl)
    · refine lv_tableIn (off := 46) (tgt := 52) hx hb dFail_6 (by rw [hki]; omega) (by rw [hki]; omega) (by rw [hki, q]; rfl) rfl ?_
      obtain ⟨sa, hs⟩ := hT.2.2.1 ("OnlyInDisguise$Kinds", 21, "a minister fails") (by decide)
      exact vx_throwS hx hb hst hown (xw_1).2.2.2.2.1 (xw_1).2.2.2.2.2 (hws _ (xw_1).1.1) (hws _ (xw_1).1.2) hs (xW_hat xw_1 hws hT) (xw_1).2.2.2.1 hT.2.2.2.1 hT.2.2.2.2 va_S.rf (hl.1.trans hml.symm) dFail_52 dFail_55 dFail_56 dFail_58 dFail_61 (fun x h => (ht x h).elim) (by decide) (by decide) (Nat.le_of_ble_eq_true rfl) (Nat.le_of_ble_eq_true rfl) hlocks (fun t _ h1 h2 => ⟨(), by show xF k f ≠ 0; unfold xF; (repeat' split) <;> omega, by show xISE = xC (xF k f); rw [show xF k f = 1 by unfold xF; (repeat' split) <;> omega]; rfl, h1, fun q h _ => h2 q h⟩) (fun _ h => nomatch h) (Nat.le_of_ble_eq_true rfl) (Nat.le_of_ble_eq_true rfl)
    · refine lv_tableIn (off := 76) (tgt := 82) hx hb dFail_6 (by rw [hki]; omega) (by rw [hki]; omega) (by rw [hki, q]; rfl) rfl ?_
      exact hret 82 dFail_82 (by unfold xF; (repeat' split) <;> omega)
    · refine lv_tableIn (off := 66) (tgt := 72) hx hb dFail_6 (by rw [hki]; omega) (by rw [hki]; omega) (by rw [hki, q]; rfl) rfl ?_
      obtain ⟨sa, hs⟩ := hT.2.2.1 ("OnlyInDisguise$Kinds", 33, "a sweeper fails") (by decide)
      exact vx_throwS hx hb hst hown (xw_3).2.2.2.2.1 (xw_3).2.2.2.2.2 (hws _ (xw_3).1.1) (hws _ (xw_3).1.2) hs (xW_hat xw_3 hws hT) (xw_3).2.2.2.1 hT.2.2.2.1 hT.2.2.2.2 va_S.rf (hl.1.trans hml.symm) dFail_72 dFail_75 dFail_76 dFail_78 dFail_81 (fun x h => (ht x h).elim) (by decide) (by decide) (Nat.le_of_ble_eq_true rfl) (Nat.le_of_ble_eq_true rfl) hlocks (fun t _ h1 h2 => ⟨(), by show xF k f ≠ 0; unfold xF; (repeat' split) <;> omega, by show xUOE = xC (xF k f); rw [show xF k f = 3 by unfold xF; (repeat' split) <;> omega]; rfl, h1, fun q h _ => h2 q h⟩) (fun _ h => nomatch h) (Nat.le_of_ble_eq_true rfl) (Nat.le_of_ble_eq_true rfl)
  · have h1' : f = 0 := (aIn_eq (x := f) (y := 0) ⟨by omega, by omega⟩ (by decide)).mp h1
    exact hret 4 dFail_4 (by unfold xF; rw [if_pos h1'])
