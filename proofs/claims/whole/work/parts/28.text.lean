/-! ===== the class: the text of a cabinet ===== -/
def dgF (x : Int) : Int := if x = 112 ∨ x = 107 then 3 else if x = 111 ∨ x = 104 ∨ x = 100 then 2 else if x = 101 then 1 else 0
theorem dgF_rng (x : Int) : 0 ≤ dgF x ∧ dgF x ≤ 3 := by
  unfold dgF
  (repeat' split) <;> omega
theorem dgF_x {x : Int} (h : dgF x ≠ 0) : x = 100 ∨ x = 101 ∨ x = 104 ∨ x = 107 ∨ x = 111 ∨ x = 112 := by
  unfold dgF at h
  (repeat' split at h) <;> omega
/-- the place of the first fault of form, or -1 -/
def bkF (E : Int → Int) (n : Int) : Nat → Nat → Int → Int
  | 0, _, due => if due < 0 ∧ 0 < n then -1 else n
  | k + 1, i, due => if due < 0 then (if dgF (E i) = 0 then (i : Int) else bkF E n k (i + 1) (dgF (E i))) else if due = 0 then (if E i = 59 then bkF E n k (i + 1) (-1) else (i : Int)) else (if E i < 48 ∨ 57 < E i then (i : Int) else bkF E n k (i + 1) (due - 1))
theorem bkF_rng (E : Int → Int) {n : Int} (hn : 0 ≤ n) : ∀ (k i : Nat) (due : Int), -1 ≤ bkF E n k i due ∧ bkF E n k i due ≤ n + i + k
  | 0, i, due => by rw [bkF]; split <;> omega
  | k + 1, i, due => by
    have h := fun d => bkF_rng E hn k (i + 1) d
    have h1 := h (dgF (E i))
    have h2 := h (-1)
    have h3 := h (due - 1)
    rw [bkF]
    (repeat' split) <;> omega
theorem bk_let {E : Int → Int} {n : Int} {k i : Nat} (h : bkF E n (k + 1) i (-1) = -1) : dgF (E i) ≠ 0 ∧ bkF E n k (i + 1) (dgF (E i)) = -1 := by
  rw [bkF, if_pos (by decide)] at h
  split at h
  · omega
  · rename_i h2; exact ⟨h2, h⟩
theorem bk_dig {E : Int → Int} {n : Int} (hn : 0 ≤ n) {k i : Nat} {due : Int} (hd : 0 < due) (h : bkF E n k i due = -1) : 1 ≤ k ∧ (48 ≤ E i ∧ E i ≤ 57) ∧ bkF E n (k - 1) (i + 1) (due - 1) = -1 := by
  cases k with
  | zero => rw [bkF, if_neg (by omega)] at h; omega
  | succ k =>
    rw [bkF, if_neg (by omega), if_neg (by omega)] at h
    split at h
    · omega
    · exact ⟨by omega, by omega, h⟩
theorem bk_semi {E : Int → Int} {n : Int} (hn : 0 ≤ n) {k i : Nat} (h : bkF E n k i 0 = -1) : 1 ≤ k ∧ E i = 59 ∧ bkF E n (k - 1) (i + 1) (-1) = -1 := by
  cases k with
  | zero => rw [bkF, if_neg (by omega)] at h; omega
  | succ k =>
    rw [bkF, if_neg (by omega), if_pos rfl] at h
    split at h
    · rename_i h2; exact ⟨by omega, h2, h⟩
    · omega
/-- a statement of a sound text -/
theorem bk_st {E : Int → Int} {n : Int} (hn : 0 ≤ n) {k i : Nat} (hk : 1 ≤ k) (h : bkF E n k i (-1) = -1) : dgF (E i) ≠ 0 ∧ (dgF (E i)).toNat + 2 ≤ k ∧ bkF E n (k - ((dgF (E i)).toNat + 2)) (i + (dgF (E i)).toNat + 2) (-1) = -1 ∧ (1 ≤ dgF (E i) → 0 ≤ E ((i : Int) + 1) - 48 ∧ E ((i : Int) + 1) - 48 ≤ 9) ∧ (2 ≤ dgF (E i) → 0 ≤ E ((i : Int) + 2) - 48 ∧ E ((i : Int) + 2) - 48 ≤ 9) ∧ (3 ≤ dgF (E i) → 0 ≤ E ((i : Int) + 3) - 48 ∧ E ((i : Int) + 3) - 48 ≤ 9) := by
  obtain ⟨k, rfl⟩ : ∃ k', k = k' + 1 := ⟨k - 1, by omega⟩
  obtain ⟨h1, h2⟩ := bk_let h
  have hr := dgF_rng (E i)
  have c1 : ((i + 1 : Nat) : Int) = (i : Int) + 1 := rfl
  have c2 : ((i + 1 + 1 : Nat) : Int) = (i : Int) + 2 := by omega
  have c3 : ((i + 1 + 1 + 1 : Nat) : Int) = (i : Int) + 3 := by omega
  rcases (show dgF (E i) = 1 ∨ dgF (E i) = 2 ∨ dgF (E i) = 3 by omega) with e | e | e
  · rw [e] at h2 ⊢
    have a := bk_dig hn (by decide) h2
    have b := bk_semi hn a.2.2
    have a1 := a.2.1
    rw [c1] at a1
    refine ⟨by decide, by have := a.1; have := b.1; show 1 + 2 ≤ _; omega, ?_, fun _ => by omega, fun q => by omega, fun q => by omega⟩
    have z := b.2.2
    rw [show k - 1 - 1 = k + 1 - ((1 : Int).toNat + 2) by show k - 1 - 1 = k + 1 - (1 + 2); omega] at z
    exact z
  · rw [e] at h2 ⊢
    have a := bk_dig hn (by decide) h2
    have a' := bk_dig hn (by decide) a.2.2
    have b := bk_semi hn a'.2.2
    have a1 := a.2.1
    have a2 := a'.2.1
    rw [c1] at a1
    rw [c2] at a2
    refine ⟨by decide, by have := a.1; have := a'.1; have := b.1; show 2 + 2 ≤ _; omega, ?_, fun _ => by omega, fun q => by omega, fun q => by omega⟩
    have z := b.2.2
    rw [show k - 1 - 1 - 1 = k + 1 - ((2 : Int).toNat + 2) by show k - 1 - 1 - 1 = k + 1 - (2 + 2); omega] at z
    exact z
  · rw [e] at h2 ⊢
    have a := bk_dig hn (by decide) h2
    have a' := bk_dig hn (by decide) a.2.2
    have a'' := bk_dig hn (by decide) a'.2.2
    have b := bk_semi hn a''.2.2
    have a1 := a.2.1
    have a2 := a'.2.1
    have a3 := a''.2.1
    rw [c1] at a1
    rw [c2] at a2
    rw [c3] at a3
    refine ⟨by decide, by have := a.1; have := a'.1; have := a''.1; have := b.1; show 3 + 2 ≤ _; omega, ?_, fun _ => by omega, fun q => by omega, fun q => by omega⟩
    have z := b.2.2
    rw [show k - 1 - 1 - 1 - 1 = k + 1 - ((3 : Int).toNat + 2) by show k - 1 - 1 - 1 - 1 = k + 1 - (3 + 2); omega] at z
    exact z
/-- can a statement be obeyed; what it does -/
def okB (r : aRw) (x a b e : Int) : Bool :=
  if x = 112 then decide (a < 8 ∧ ((0 ≤ e ∧ e ≤ 7) ∨ e = 9) ∧ r 0 < 8)
  else if x = 111 ∨ x = 101 then decide (0 ≤ a ∧ a < 5)
  else if x = 104 then decide ((0 ≤ a ∧ a < 5) ∧ (0 ≤ b ∧ b < r 0))
  else if x = 107 then decide (0 ≤ a ∧ a < r 0)
  else decide ((1 ≤ 10 * a + b ∧ 10 * a + b ≤ 60) ∧ r 1 + (10 * a + b) ≤ 999)
def doS (r : aRw) (x a b e : Int) : aRw :=
  if x = 112 then adR r a b e else if x = 111 then rUp r (3 + a) b else if x = 101 then emR r a else if x = 104 then hoR r a b else if x = 107 then rUp r (aOf a 2) (10 * b + e) else dysR r (10 * a + b).toNat
/-- what it comes to, with the row behind it -/
def obF (E : Int → Int) (n : Int) : Nat → Nat → Int → aRw → Int × aRw
  | 0, _, s, r => (s, r)
  | k + 1, i, s, r => if (i : Int) < n then (if okB r (E i) (E ((i : Int) + 1) - 48) (E ((i : Int) + 2) - 48) (E ((i : Int) + 3) - 48) = true then obF E n k (i + (dgF (E i)).toNat + 2) (s + 1) (doS r (E i) (E ((i : Int) + 1) - 48) (E ((i : Int) + 2) - 48) (E ((i : Int) + 3) - 48)) else (-2000 - (i : Int), r)) else (s, r)
theorem obF_end {E : Int → Int} {n : Int} {k i : Nat} {s : Int} {r : aRw} (h : ¬ (i : Int) < n) : obF E n k i s r = (s, r) := by
  cases k with
  | zero => rfl
  | succ k => rw [obF, if_neg h]
theorem doS_ok {r : aRw} (hw : WF r) (hd : r 1 ≤ 999) {x a b e : Int} (hx : dgF x ≠ 0) (h1 : 1 ≤ dgF x → 0 ≤ a ∧ a ≤ 9) (h2 : 2 ≤ dgF x → 0 ≤ b ∧ b ≤ 9) (h3 : 3 ≤ dgF x → 0 ≤ e ∧ e ≤ 9) (ok : okB r x a b e = true) : WF (doS r x a b e) ∧ doS r x a b e 1 ≤ 999 := by
  have bn := hw.1
  have b1 := hw.2.1
  rcases dgF_x hx with rfl | rfl | rfl | rfl | rfl | rfl
  · have o : (1 ≤ 10 * a + b ∧ 10 * a + b ≤ 60) ∧ r 1 + (10 * a + b) ≤ 999 := of_decide_eq_true ok
    have e1 := (dysR_0 r (10 * a + b).toNat).2
    exact ⟨dysR_wf hw _, by show dysR r (10 * a + b).toNat 1 ≤ 999; omega⟩
  · exact ⟨emR_wf hw a, by show emR r a 1 ≤ 999; rw [emR_at (by omega)]; exact hd⟩
  · have o : (0 ≤ a ∧ a < 5) ∧ (0 ≤ b ∧ b < r 0) := of_decide_eq_true ok
    exact ⟨hoR_wf hw o.1.1 o.1.2 o.2.1 o.2.2, by show hoR r a b 1 ≤ 999; rw [(hoR_1 r o.1.1 o.1.2).2]; exact hd⟩
  · have o : 0 ≤ a ∧ a < r 0 := of_decide_eq_true ok
    have q2 := h2 (by decide)
    have q3 := h3 (by decide)
    exact ⟨WF_known hw o.1 o.2 (by omega), by show rUp r (aOf a 2) (10 * b + e) 1 ≤ 999; rw [rUp_ne (by unfold aOf; omega)]; exact hd⟩
  · have o : 0 ≤ a ∧ a < 5 := of_decide_eq_true ok
    have q2 := h2 (by decide)
    exact ⟨WF_cost hw o.1 o.2 q2, by show rUp r (3 + a) b 1 ≤ 999; rw [rUp_ne (by omega)]; exact hd⟩
  · have o : a < 8 ∧ ((0 ≤ e ∧ e ≤ 7) ∨ e = 9) ∧ r 0 < 8 := of_decide_eq_true ok
    have q1 := h1 (by decide)
    have q2 := h2 (by decide)
    have q3 := h3 (by decide)
    exact ⟨adR_wf hw o.2.2 (by omega) q2 (by omega), by show adR r a b e 1 ≤ 999; rw [adR_old hw o.2.2 (by decide) (Or.inl (by unfold aOf; omega))]; exact hd⟩
def PB (c : Nat) (σ : aS) (ok : Bool) (r' : aRw) : Option aV → aS → Prop := fun v σ' => v = some (aI (if ok = true then 1 else 0)) ∧ (ok = true → Rep σ' c r') ∧ aFr (Cb c) σ σ'
theorem dT {P : Prop} [Decidable P] (h : P) : (if decide P = true then (1 : Int) else 0) = 1 := if_pos (decide_eq_true h)
theorem dF {P : Prop} [Decidable P] (h : ¬ P) : (if decide P = true then (1 : Int) else 0) = 0 := if_neg (fun q => h (of_decide_eq_true q))
set_option maxRecDepth 10000 in
theorem cT_digits (l : Launch) (x : Int) (σ : aS) (hx : aIr x) : AM l 0 mX5_digitsBehind [aI x] σ (aF (some (aI (dgF x))) σ) := by
  refine am_of (by decide) (Nat.le_of_ble_eq_true rfl) (L := [some (aI x)]) rfl ?_
  refine aw_b kX5_ok bX5_digitsBehind_0_ok (Cs := []) (pc' := 1) (L' := [some (aI x)]) (st' := [aI x]) (σ' := σ) rfl trivial ?_
  rcases (show x = 100 ∨ x = 101 ∨ x = 102 ∨ x = 103 ∨ x = 104 ∨ x = 105 ∨ x = 106 ∨ x = 107 ∨ x = 108 ∨ x = 109 ∨ x = 110 ∨ x = 111 ∨ x = 112 ∨ (x < 100 ∨ 112 < x) by omega) with wh1 | wh1 | wh1 | wh1 | wh1 | wh1 | wh1 | wh1 | wh1 | wh1 | wh1 | wh1 | wh1 | wh1
  · refine aw_tsw dX5_digitsBehind_1 (tgt := 70) ⟨by omega, by omega⟩ (by decide) (by rw [wh1]; decide) ?_
    refine aw_b kX5_ok bX5_digitsBehind_70_ok (Cs := []) (pc' := 71) (L' := [some (aI x)]) (st' := [aI 2]) (σ' := σ) rfl trivial ?_
    exact aw_iret dX5_digitsBehind_71 rfl ⟨aret (by unfold dgF; (repeat' split) <;> omega), rfl⟩
  · refine aw_tsw dX5_digitsBehind_1 (tgt := 72) ⟨by omega, by omega⟩ (by decide) (by rw [wh1]; decide) ?_
    refine aw_b kX5_ok bX5_digitsBehind_72_ok (Cs := []) (pc' := 73) (L' := [some (aI x)]) (st' := [aI 1]) (σ' := σ) rfl trivial ?_
    exact aw_iret dX5_digitsBehind_73 rfl ⟨aret (by unfold dgF; (repeat' split) <;> omega), rfl⟩
  · refine aw_tsw dX5_digitsBehind_1 (tgt := 74) ⟨by omega, by omega⟩ (by decide) (by rw [wh1]; decide) ?_
    refine aw_b kX5_ok bX5_digitsBehind_74_ok (Cs := []) (pc' := 75) (L' := [some (aI x)]) (st' := [aI 0]) (σ' := σ) rfl trivial ?_
    exact aw_iret dX5_digitsBehind_75 rfl ⟨aret (by unfold dgF; (repeat' split) <;> omega), rfl⟩
  · refine aw_tsw dX5_digitsBehind_1 (tgt := 74) ⟨by omega, by omega⟩ (by decide) (by rw [wh1]; decide) ?_
    refine aw_b kX5_ok bX5_digitsBehind_74_ok (Cs := []) (pc' := 75) (L' := [some (aI x)]) (st' := [aI 0]) (σ' := σ) rfl trivial ?_
    exact aw_iret dX5_digitsBehind_75 rfl ⟨aret (by unfold dgF; (repeat' split) <;> omega), rfl⟩
  · refine aw_tsw dX5_digitsBehind_1 (tgt := 70) ⟨by omega, by omega⟩ (by decide) (by rw [wh1]; decide) ?_
    refine aw_b kX5_ok bX5_digitsBehind_70_ok (Cs := []) (pc' := 71) (L' := [some (aI x)]) (st' := [aI 2]) (σ' := σ) rfl trivial ?_
    exact aw_iret dX5_digitsBehind_71 rfl ⟨aret (by unfold dgF; (repeat' split) <;> omega), rfl⟩
  · refine aw_tsw dX5_digitsBehind_1 (tgt := 74) ⟨by omega, by omega⟩ (by decide) (by rw [wh1]; decide) ?_
    refine aw_b kX5_ok bX5_digitsBehind_74_ok (Cs := []) (pc' := 75) (L' := [some (aI x)]) (st' := [aI 0]) (σ' := σ) rfl trivial ?_
    exact aw_iret dX5_digitsBehind_75 rfl ⟨aret (by unfold dgF; (repeat' split) <;> omega), rfl⟩
  · refine aw_tsw dX5_digitsBehind_1 (tgt := 74) ⟨by omega, by omega⟩ (by decide) (by rw [wh1]; decide) ?_
    refine aw_b kX5_ok bX5_digitsBehind_74_ok (Cs := []) (pc' := 75) (L' := [some (aI x)]) (st' := [aI 0]) (σ' := σ) rfl trivial ?_
    exact aw_iret dX5_digitsBehind_75 rfl ⟨aret (by unfold dgF; (repeat' split) <;> omega), rfl⟩
  · refine aw_tsw dX5_digitsBehind_1 (tgt := 68) ⟨by omega, by omega⟩ (by decide) (by rw [wh1]; decide) ?_
    refine aw_b kX5_ok bX5_digitsBehind_68_ok (Cs := []) (pc' := 69) (L' := [some (aI x)]) (st' := [aI 3]) (σ' := σ) rfl trivial ?_
    exact aw_iret dX5_digitsBehind_69 rfl ⟨aret (by unfold dgF; (repeat' split) <;> omega), rfl⟩
  · refine aw_tsw dX5_digitsBehind_1 (tgt := 74) ⟨by omega, by omega⟩ (by decide) (by rw [wh1]; decide) ?_
    refine aw_b kX5_ok bX5_digitsBehind_74_ok (Cs := []) (pc' := 75) (L' := [some (aI x)]) (st' := [aI 0]) (σ' := σ) rfl trivial ?_
    exact aw_iret dX5_digitsBehind_75 rfl ⟨aret (by unfold dgF; (repeat' split) <;> omega), rfl⟩
  · refine aw_tsw dX5_digitsBehind_1 (tgt := 74) ⟨by omega, by omega⟩ (by decide) (by rw [wh1]; decide) ?_
    refine aw_b kX5_ok bX5_digitsBehind_74_ok (Cs := []) (pc' := 75) (L' := [some (aI x)]) (st' := [aI 0]) (σ' := σ) rfl trivial ?_
    exact aw_iret dX5_digitsBehind_75 rfl ⟨aret (by unfold dgF; (repeat' split) <;> omega), rfl⟩
  · refine aw_tsw dX5_digitsBehind_1 (tgt := 74) ⟨by omega, by omega⟩ (by decide) (by rw [wh1]; decide) ?_
    refine aw_b kX5_ok bX5_digitsBehind_74_ok (Cs := []) (pc' := 75) (L' := [some (aI x)]) (st' := [aI 0]) (σ' := σ) rfl trivial ?_
    exact aw_iret dX5_digitsBehind_75 rfl ⟨aret (by unfold dgF; (repeat' split) <;> omega), rfl⟩
  · refine aw_tsw dX5_digitsBehind_1 (tgt := 70) ⟨by omega, by omega⟩ (by decide) (by rw [wh1]; decide) ?_
    refine aw_b kX5_ok bX5_digitsBehind_70_ok (Cs := []) (pc' := 71) (L' := [some (aI x)]) (st' := [aI 2]) (σ' := σ) rfl trivial ?_
    exact aw_iret dX5_digitsBehind_71 rfl ⟨aret (by unfold dgF; (repeat' split) <;> omega), rfl⟩
  · refine aw_tsw dX5_digitsBehind_1 (tgt := 68) ⟨by omega, by omega⟩ (by decide) (by rw [wh1]; decide) ?_
    refine aw_b kX5_ok bX5_digitsBehind_68_ok (Cs := []) (pc' := 69) (L' := [some (aI x)]) (st' := [aI 3]) (σ' := σ) rfl trivial ?_
    exact aw_iret dX5_digitsBehind_69 rfl ⟨aret (by unfold dgF; (repeat' split) <;> omega), rfl⟩
  · refine aw_tsw dX5_digitsBehind_1 (tgt := 74) ⟨by omega, by omega⟩ (by decide) (by unfold aTgt; rw [if_pos (by omega)]; rfl) ?_
    refine aw_b kX5_ok bX5_digitsBehind_74_ok (Cs := []) (pc' := 75) (L' := [some (aI x)]) (st' := [aI 0]) (σ' := σ) rfl trivial ?_
    exact aw_iret dX5_digitsBehind_75 rfl ⟨aret (by unfold dgF; (repeat' split) <;> omega), rfl⟩
set_option maxRecDepth 10000 in
theorem cT_broken (l : Launch) (d : Int) (σ : aS) (hs : SH σ) (h0 : 0 ≤ d) (h1 : d < 8) : AM l 4 mX5_brokenPlace [aR 9 0, aI d] σ (aF (some (aI (bkF (vaF σ d) (σ 14 0 d) (σ 14 0 d).toNat 0 (-1)))) σ) := by
  have bs := hs.1 d h0 h1
  refine am_of (by decide) (Nat.le_of_ble_eq_true rfl) (L := [some (aR 9 0), some (aI d), none, none, none, none]) rfl ?_
  refine aw_b kX5_ok bX5_brokenPlace_0_ok (Cs := []) (pc' := 2) (L' := [some (aR 9 0), some (aI d), none, none, none, none]) (st' := [aI d, aR 9 0]) (σ' := σ) rfl trivial ?_
  refine aw_fV lX5_9 (as := [aI d]) (rest := []) (t := 9) (c := 0) (by decide) (by decide) (by decide) rfl rfl (Nat.le_of_ble_eq_true rfl) rfl dX5_brokenPlace_2 (cS_lengthOf l d σ hs (by omega) (by omega)) ?_
  refine aw_b kX5_ok bX5_brokenPlace_5_ok (Cs := []) (pc' := 11) (L' := [some (aR 9 0), some (aI d), some (aI (σ 14 0 d)), some (aI (-1)), some (aI 0), none]) (st' := []) (σ' := σ) rfl trivial ?_
  refine aloop (P := fun n : Nat => ∀ (due : Int) (hdu : -1 ≤ due ∧ due ≤ 3) (hA : bkF (vaF σ d) (σ 14 0 d) (σ 14 0 d).toNat 0 (-1) = bkF (vaF σ d) (σ 14 0 d) ((σ 14 0 d).toNat - n) n due), AW l 4 mX5_brokenPlace _ 11 [some (aR 9 0), some (aI d), some (aI (σ 14 0 d)), some (aI due), some (aI (n : Int)), none] [] σ) ((σ 14 0 d).toNat) (fun n hn ihn due hdu hA => ?_) (-1) (by decide) rfl
  refine aw_b kX5_ok bX5_brokenPlace_11_ok (Cs := []) (pc' := 14) (L' := [some (aR 9 0), some (aI d), some (aI (σ 14 0 d)), some (aI due), some (aI (n : Int)), none]) (st' := [aI (σ 14 0 d), aI (n : Int)]) (σ' := σ) rfl trivial ?_
  refine aw_cge dX5_brokenPlace_14 (tgt := 88) (by decide) ⟨by omega, by omega⟩ ⟨by omega, by omega⟩ (fun wh1 => ?_) (fun wh1 => ?_)
  · have hE : bkF (vaF σ d) (σ 14 0 d) (σ 14 0 d).toNat 0 (-1) = (if due < 0 ∧ 0 < σ 14 0 d then -1 else σ 14 0 d) := by
      rw [hA, show (σ 14 0 d).toNat - n = 0 by omega]; rfl
    refine aw_b kX5_ok bX5_brokenPlace_88_ok (Cs := []) (pc' := 89) (L' := [some (aR 9 0), some (aI d), some (aI (σ 14 0 d)), some (aI due), some (aI (n : Int)), none]) (st' := [aI due]) (σ' := σ) rfl trivial ?_
    refine aw_ige dX5_brokenPlace_89 (tgt := 100) (by decide) ⟨by omega, by omega⟩ (fun wh2 => ?_) (fun wh2 => ?_)
    · refine aw_b kX5_ok bX5_brokenPlace_100_ok (Cs := []) (pc' := 101) (L' := [some (aR 9 0), some (aI d), some (aI (σ 14 0 d)), some (aI due), some (aI (n : Int)), none]) (st' := [aI (σ 14 0 d)]) (σ' := σ) rfl trivial ?_
      exact aw_iret dX5_brokenPlace_101 rfl ⟨aret (by rw [hE]; split <;> omega), rfl⟩
    · refine aw_b kX5_ok bX5_brokenPlace_92_ok (Cs := []) (pc' := 93) (L' := [some (aR 9 0), some (aI d), some (aI (σ 14 0 d)), some (aI due), some (aI (n : Int)), none]) (st' := [aI (σ 14 0 d)]) (σ' := σ) rfl trivial ?_
      refine aw_ile dX5_brokenPlace_93 (tgt := 100) (by decide) ⟨by omega, by omega⟩ (fun wh3 => ?_) (fun wh3 => ?_)
      · refine aw_b kX5_ok bX5_brokenPlace_100_ok (Cs := []) (pc' := 101) (L' := [some (aR 9 0), some (aI d), some (aI (σ 14 0 d)), some (aI due), some (aI (n : Int)), none]) (st' := [aI (σ 14 0 d)]) (σ' := σ) rfl trivial ?_
        exact aw_iret dX5_brokenPlace_101 rfl ⟨aret (by rw [hE]; split <;> omega), rfl⟩
      · refine aw_b kX5_ok bX5_brokenPlace_96_ok (Cs := []) (pc' := 101) (L' := [some (aR 9 0), some (aI d), some (aI (σ 14 0 d)), some (aI due), some (aI (n : Int)), none]) (st' := [aI (-1)]) (σ' := σ) rfl trivial ?_
        exact aw_iret dX5_brokenPlace_101 rfl ⟨aret (by rw [hE]; split <;> omega), rfl⟩
  · have hB : bkF (vaF σ d) (σ 14 0 d) (σ 14 0 d).toNat 0 (-1) = (if due < 0 then (if dgF (vaF σ d (n : Int)) = 0 then (n : Int) else bkF (vaF σ d) (σ 14 0 d) ((σ 14 0 d).toNat - (n + 1)) (n + 1) (dgF (vaF σ d (n : Int)))) else if due = 0 then (if vaF σ d (n : Int) = 59 then bkF (vaF σ d) (σ 14 0 d) ((σ 14 0 d).toNat - (n + 1)) (n + 1) (-1) else (n : Int)) else (if vaF σ d (n : Int) < 48 ∨ 57 < vaF σ d (n : Int) then (n : Int) else bkF (vaF σ d) (σ 14 0 d) ((σ 14 0 d).toNat - (n + 1)) (n + 1) (due - 1))) := by
      rw [hA, show (σ 14 0 d).toNat - n = ((σ 14 0 d).toNat - (n + 1)) + 1 by omega]; rfl
    refine aw_b kX5_ok bX5_brokenPlace_17_ok (Cs := []) (pc' := 21) (L' := [some (aR 9 0), some (aI d), some (aI (σ 14 0 d)), some (aI due), some (aI (n : Int)), none]) (st' := [aI (n : Int), aI d, aR 9 0]) (σ' := σ) rfl trivial ?_
    refine aw_fV lX5_15 (as := [aI d, aI (n : Int)]) (rest := []) (t := 9) (c := 0) (by decide) (by decide) (by decide) rfl rfl (Nat.le_of_ble_eq_true rfl) rfl dX5_brokenPlace_21 (cS_valueAt l d (n : Int) σ hs (by omega) (by omega) ⟨by omega, by omega⟩) ?_
    have bv := vaF_rng (i := (n : Int)) hs (d := d) (by omega) (by omega)
    refine aw_b kX5_ok bX5_brokenPlace_24_ok (Cs := []) (pc' := 27) (L' := [some (aR 9 0), some (aI d), some (aI (σ 14 0 d)), some (aI due), some (aI (n : Int)), some (aI (vaF σ d (n : Int)))]) (st' := [aI due]) (σ' := σ) rfl trivial ?_
    refine aw_ige dX5_brokenPlace_27 (tgt := 43) (by decide) ⟨by omega, by omega⟩ (fun wh4 => ?_) (fun wh4 => ?_)
    · refine aw_b kX5_ok bX5_brokenPlace_43_ok (Cs := []) (pc' := 44) (L' := [some (aR 9 0), some (aI d), some (aI (σ 14 0 d)), some (aI due), some (aI (n : Int)), some (aI (vaF σ d (n : Int)))]) (st' := [aI due]) (σ' := σ) rfl trivial ?_
      refine aw_ine dX5_brokenPlace_44 (tgt := 62) (by decide) ⟨by omega, by omega⟩ (fun wh5 => ?_) (fun wh5 => ?_)
      · refine aw_b kX5_ok bX5_brokenPlace_62_ok (Cs := []) (pc' := 66) (L' := [some (aR 9 0), some (aI d), some (aI (σ 14 0 d)), some (aI due), some (aI (n : Int)), some (aI (vaF σ d (n : Int)))]) (st' := [aI 48, aI (vaF σ d (n : Int))]) (σ' := σ) rfl trivial ?_
        refine aw_clt dX5_brokenPlace_66 (tgt := 76) (by decide) ⟨by omega, by omega⟩ ⟨by omega, by omega⟩ (fun wh6 => ?_) (fun wh6 => ?_)
        · refine aw_b kX5_ok bX5_brokenPlace_76_ok (Cs := []) (pc' := 78) (L' := [some (aR 9 0), some (aI d), some (aI (σ 14 0 d)), some (aI due), some (aI (n : Int)), some (aI (vaF σ d (n : Int)))]) (st' := [aI (n : Int)]) (σ' := σ) rfl trivial ?_
          exact aw_iret dX5_brokenPlace_78 rfl ⟨aret (hB.trans ((if_neg (by omega)).trans ((if_neg (by omega)).trans (if_pos (by omega))))).symm, rfl⟩
        · refine aw_b kX5_ok bX5_brokenPlace_69_ok (Cs := []) (pc' := 73) (L' := [some (aR 9 0), some (aI d), some (aI (σ 14 0 d)), some (aI due), some (aI (n : Int)), some (aI (vaF σ d (n : Int)))]) (st' := [aI 57, aI (vaF σ d (n : Int))]) (σ' := σ) rfl trivial ?_
          refine aw_cle dX5_brokenPlace_73 (tgt := 79) (by decide) ⟨by omega, by omega⟩ ⟨by omega, by omega⟩ (fun wh7 => ?_) (fun wh7 => ?_)
          · refine aw_b kX5_ok bX5_brokenPlace_79_ok (Cs := []) (pc' := 82) (L' := [some (aR 9 0), some (aI d), some (aI (σ 14 0 d)), some (aI (due + (-1))), some (aI (n : Int)), some (aI (vaF σ d (n : Int)))]) (st' := []) (σ' := σ) rfl trivial ?_
            refine aw_b kX5_ok bX5_brokenPlace_82_ok (Cs := []) (pc' := 11) (L' := [some (aR 9 0), some (aI d), some (aI (σ 14 0 d)), some (aI (due + (-1))), some (aI ((n : Int) + 1)), some (aI (vaF σ d (n : Int)))]) (st' := []) (σ' := σ) rfl trivial ?_
            refine aw_drop [5] (L' := [some (aR 9 0), some (aI d), some (aI (σ 14 0 d)), some (aI (due + (-1))), some (aI ((n : Int) + 1)), none]) rfl ?_
            exact ihn (by omega) _ (by omega) (hB.trans ((if_neg (by omega)).trans ((if_neg (by omega)).trans (if_neg (by omega)))))
          · refine aw_b kX5_ok bX5_brokenPlace_76_ok (Cs := []) (pc' := 78) (L' := [some (aR 9 0), some (aI d), some (aI (σ 14 0 d)), some (aI due), some (aI (n : Int)), some (aI (vaF σ d (n : Int)))]) (st' := [aI (n : Int)]) (σ' := σ) rfl trivial ?_
            exact aw_iret dX5_brokenPlace_78 rfl ⟨aret (hB.trans ((if_neg (by omega)).trans ((if_neg (by omega)).trans (if_pos (by omega))))).symm, rfl⟩
      · refine aw_b kX5_ok bX5_brokenPlace_47_ok (Cs := []) (pc' := 51) (L' := [some (aR 9 0), some (aI d), some (aI (σ 14 0 d)), some (aI due), some (aI (n : Int)), some (aI (vaF σ d (n : Int)))]) (st' := [aI 59, aI (vaF σ d (n : Int))]) (σ' := σ) rfl trivial ?_
        refine aw_ceq dX5_brokenPlace_51 (tgt := 57) (by decide) ⟨by omega, by omega⟩ ⟨by omega, by omega⟩ (fun wh8 => ?_) (fun wh8 => ?_)
        · refine aw_b kX5_ok bX5_brokenPlace_57_ok (Cs := []) (pc' := 82) (L' := [some (aR 9 0), some (aI d), some (aI (σ 14 0 d)), some (aI (-1)), some (aI (n : Int)), some (aI (vaF σ d (n : Int)))]) (st' := []) (σ' := σ) rfl trivial ?_
          refine aw_b kX5_ok bX5_brokenPlace_82_ok (Cs := []) (pc' := 11) (L' := [some (aR 9 0), some (aI d), some (aI (σ 14 0 d)), some (aI (-1)), some (aI ((n : Int) + 1)), some (aI (vaF σ d (n : Int)))]) (st' := []) (σ' := σ) rfl trivial ?_
          refine aw_drop [5] (L' := [some (aR 9 0), some (aI d), some (aI (σ 14 0 d)), some (aI (-1)), some (aI ((n : Int) + 1)), none]) rfl ?_
          exact ihn (by omega) _ (by decide) (hB.trans ((if_neg (by omega)).trans ((if_pos (by omega)).trans (if_pos (by omega)))))
        · refine aw_b kX5_ok bX5_brokenPlace_54_ok (Cs := []) (pc' := 56) (L' := [some (aR 9 0), some (aI d), some (aI (σ 14 0 d)), some (aI due), some (aI (n : Int)), some (aI (vaF σ d (n : Int)))]) (st' := [aI (n : Int)]) (σ' := σ) rfl trivial ?_
          exact aw_iret dX5_brokenPlace_56 rfl ⟨aret (hB.trans ((if_neg (by omega)).trans ((if_pos (by omega)).trans (if_neg (by omega))))).symm, rfl⟩
    · refine aw_b kX5_ok bX5_brokenPlace_30_ok (Cs := []) (pc' := 32) (L' := [some (aR 9 0), some (aI d), some (aI (σ 14 0 d)), some (aI due), some (aI (n : Int)), some (aI (vaF σ d (n : Int)))]) (st' := [aI (vaF σ d (n : Int))]) (σ' := σ) rfl trivial ?_
      refine aw_fS lX5_19 (as := [aI (vaF σ d (n : Int))]) (rest := []) (by decide) rfl (Nat.le_of_ble_eq_true rfl) rfl dX5_brokenPlace_32 (cT_digits l (vaF σ d (n : Int)) σ ⟨by omega, by omega⟩) ?_
      have bdg := dgF_rng (vaF σ d (n : Int))
      refine aw_b kX5_ok bX5_brokenPlace_35_ok (Cs := []) (pc' := 37) (L' := [some (aR 9 0), some (aI d), some (aI (σ 14 0 d)), some (aI (dgF (vaF σ d (n : Int)))), some (aI (n : Int)), some (aI (vaF σ d (n : Int)))]) (st' := [aI (dgF (vaF σ d (n : Int)))]) (σ' := σ) rfl trivial ?_
      refine aw_ine dX5_brokenPlace_37 (tgt := 82) (by decide) ⟨by omega, by omega⟩ (fun wh9 => ?_) (fun wh9 => ?_)
      · refine aw_b kX5_ok bX5_brokenPlace_82_ok (Cs := []) (pc' := 11) (L' := [some (aR 9 0), some (aI d), some (aI (σ 14 0 d)), some (aI (dgF (vaF σ d (n : Int)))), some (aI ((n : Int) + 1)), some (aI (vaF σ d (n : Int)))]) (st' := []) (σ' := σ) rfl trivial ?_
        refine aw_drop [5] (L' := [some (aR 9 0), some (aI d), some (aI (σ 14 0 d)), some (aI (dgF (vaF σ d (n : Int)))), some (aI ((n : Int) + 1)), none]) rfl ?_
        exact ihn (by omega) _ (by omega) (hB.trans (if_pos (by omega) |>.trans (if_neg (by omega))))
      · refine aw_b kX5_ok bX5_brokenPlace_40_ok (Cs := []) (pc' := 42) (L' := [some (aR 9 0), some (aI d), some (aI (σ 14 0 d)), some (aI (dgF (vaF σ d (n : Int)))), some (aI (n : Int)), some (aI (vaF σ d (n : Int)))]) (st' := [aI (n : Int)]) (σ' := σ) rfl trivial ?_
        exact aw_iret dX5_brokenPlace_42 rfl ⟨aret (hB.trans ((if_pos (by omega)).trans (if_pos (by omega)))).symm, rfl⟩
set_option maxRecDepth 10000 in
theorem cT_dressed (l : Launch) (f k : Int) (c : Nat) (hc : c < 3) (σ : aS) (r : aRw) (hR : Rep σ c r) (hw : WF r) (hf : aIr f) : AM l 1 mX5_isDressed [aR 1 c, aI f, aI k] σ (PB c σ (decide (0 ≤ f ∧ f < 5)) (rUp r (3 + f) k)) := by
  have bn := hw.1
  have en := hR.n
  refine am_of (by decide) (Nat.le_of_ble_eq_true rfl) (L := [some (aR 1 c), some (aI f), some (aI k)]) rfl ?_
  refine aw_b kX5_ok bX5_isDressed_0_ok (Cs := []) (pc' := 1) (L' := [some (aR 1 c), some (aI f), some (aI k)]) (st' := [aI f]) (σ' := σ) rfl trivial ?_
  refine aw_bN lX5_62 (as := [aI f]) (rest := []) (by decide) rfl (Nat.le_of_ble_eq_true rfl) rfl dX5_isDressed_1 (cC_isOffice l f σ ⟨by omega, by omega⟩) (fun wh1 => ?_) (fun wh1 => ?_)
  · refine aw_ine dX5_isDressed_4 (tgt := 9) (by decide) ⟨by omega, by omega⟩ (fun wh2 => ?_) (fun wh2 => absurd wh2 (by decide))
    refine aw_b kX5_ok bX5_isDressed_9_ok (Cs := [c < 3, c < 3, 0 ≤ f ∧ f < 5]) (pc' := 17) (L' := [some (aR 1 c), some (aI f), some (aI k)]) (st' := [aI 1]) (σ' := aUp σ 7 c f k) rfl (show (c < 3) ∧ (c < 3) ∧ (0 ≤ f ∧ f < 5) from ⟨by omega, by omega, by omega⟩) ?_
    exact aw_zret dX5_isDressed_17 rfl (by omega) ⟨aret (dT (by omega)).symm, fun _ => Rep_cost hR hw (by omega) (by omega) k, aFr_up (cb (by decide))⟩
  · refine aw_ine dX5_isDressed_4 (tgt := 9) (by decide) ⟨by omega, by omega⟩ (fun wh3 => absurd wh3 (by decide)) (fun wh3 => ?_)
    refine aw_b kX5_ok bX5_isDressed_7_ok (Cs := []) (pc' := 8) (L' := [some (aR 1 c), some (aI f), some (aI k)]) (st' := [aI 0]) (σ' := σ) rfl trivial ?_
    exact aw_zret dX5_isDressed_8 rfl (by omega) ⟨aret (dF (by omega)).symm, fun q => absurd (of_decide_eq_true q) (by omega), aFr_rf⟩
set_option maxRecDepth 10000 in
theorem cT_installed (l : Launch) (f p : Int) (c : Nat) (hc : c < 3) (σ : aS) (r : aRw) (hR : Rep σ c r) (hw : WF r) (hf : aIr f) (hp : aIr p) : AM l 3 mX5_isInstalled [aR 1 c, aI f, aI p] σ (PB c σ (decide ((0 ≤ f ∧ f < 5) ∧ (0 ≤ p ∧ p < r 0))) (hoR r f p)) := by
  have bn := hw.1
  have en := hR.n
  refine am_of (by decide) (Nat.le_of_ble_eq_true rfl) (L := [some (aR 1 c), some (aI f), some (aI p)]) rfl ?_
  refine aw_b kX5_ok bX5_isInstalled_0_ok (Cs := []) (pc' := 1) (L' := [some (aR 1 c), some (aI f), some (aI p)]) (st' := [aI f]) (σ' := σ) rfl trivial ?_
  refine aw_bN lX5_62 (as := [aI f]) (rest := []) (by decide) rfl (Nat.le_of_ble_eq_true rfl) rfl dX5_isInstalled_1 (cC_isOffice l f σ ⟨by omega, by omega⟩) (fun wh1 => ?_) (fun wh1 => ?_)
  · refine aw_ieq dX5_isInstalled_4 (tgt := 15) (by decide) ⟨by omega, by omega⟩ (fun wh2 => absurd wh2 (by decide)) (fun wh2 => ?_)
    refine aw_b kX5_ok bX5_isInstalled_7_ok (Cs := []) (pc' := 9) (L' := [some (aR 1 c), some (aI f), some (aI p)]) (st' := [aI p, aR 1 c]) (σ' := σ) rfl trivial ?_
    refine aw_bV lX5_69 (as := [aI p]) (rest := []) (t := 1) (c := c) (by decide) (by decide) (show c < 3 by omega) rfl rfl (Nat.le_of_ble_eq_true rfl) rfl dX5_isInstalled_9 (cC_isThere l p c (by omega) σ r hR hw ⟨by omega, by omega⟩) (fun wh3 => ?_) (fun wh3 => ?_)
    · refine aw_ine dX5_isInstalled_12 (tgt := 17) (by decide) ⟨by omega, by omega⟩ (fun wh4 => ?_) (fun wh4 => absurd wh4 (by decide))
      refine aw_b kX5_ok bX5_isInstalled_17_ok (Cs := []) (pc' := 20) (L' := [some (aR 1 c), some (aI f), some (aI p)]) (st' := [aI p, aI f, aR 1 c]) (σ' := σ) rfl trivial ?_
      refine aw_callV lX5_72 (as := [aI f, aI p]) (rest := []) (t := 1) (c := c) (by decide) (by decide) (show c < 3 by omega) rfl rfl (Nat.le_of_ble_eq_true rfl) rfl dX5_isInstalled_20 (cC_install l f p c hc σ r hR hw (by omega) (by omega) (by omega) (by omega)) ?_
      rintro _ τ2 ⟨rfl, hT2, hF2, h32⟩
      refine aw_b kX5_ok bX5_isInstalled_23_ok (Cs := []) (pc' := 24) (L' := [some (aR 1 c), some (aI f), some (aI p)]) (st' := [aI 1]) (σ' := τ2) rfl trivial ?_
      exact aw_zret dX5_isInstalled_24 rfl (by omega) ⟨aret (dT (by omega)).symm, fun _ => hT2, hF2⟩
    · refine aw_ine dX5_isInstalled_12 (tgt := 17) (by decide) ⟨by omega, by omega⟩ (fun wh5 => absurd wh5 (by decide)) (fun wh5 => ?_)
      refine aw_b kX5_ok bX5_isInstalled_15_ok (Cs := []) (pc' := 16) (L' := [some (aR 1 c), some (aI f), some (aI p)]) (st' := [aI 0]) (σ' := σ) rfl trivial ?_
      exact aw_zret dX5_isInstalled_16 rfl (by omega) ⟨aret (dF (by omega)).symm, fun q => absurd (of_decide_eq_true q) (by omega), aFr_rf⟩
  · refine aw_ieq dX5_isInstalled_4 (tgt := 15) (by decide) ⟨by omega, by omega⟩ (fun wh6 => ?_) (fun wh6 => absurd wh6 (by decide))
    refine aw_b kX5_ok bX5_isInstalled_15_ok (Cs := []) (pc' := 16) (L' := [some (aR 1 c), some (aI f), some (aI p)]) (st' := [aI 0]) (σ' := σ) rfl trivial ?_
    exact aw_zret dX5_isInstalled_16 rfl (by omega) ⟨aret (dF (by omega)).symm, fun q => absurd (of_decide_eq_true q) (by omega), aFr_rf⟩
set_option maxRecDepth 10000 in
theorem cT_vacated (l : Launch) (f : Int) (c : Nat) (hc : c < 3) (σ : aS) (r : aRw) (hR : Rep σ c r) (hw : WF r) (hf : aIr f) : AM l 2 mX5_isVacated [aR 1 c, aI f] σ (PB c σ (decide (0 ≤ f ∧ f < 5)) (emR r f)) := by
  have bn := hw.1
  have en := hR.n
  refine am_of (by decide) (Nat.le_of_ble_eq_true rfl) (L := [some (aR 1 c), some (aI f)]) rfl ?_
  refine aw_b kX5_ok bX5_isVacated_0_ok (Cs := []) (pc' := 1) (L' := [some (aR 1 c), some (aI f)]) (st' := [aI f]) (σ' := σ) rfl trivial ?_
  refine aw_bN lX5_62 (as := [aI f]) (rest := []) (by decide) rfl (Nat.le_of_ble_eq_true rfl) rfl dX5_isVacated_1 (cC_isOffice l f σ ⟨by omega, by omega⟩) (fun wh1 => ?_) (fun wh1 => ?_)
  · refine aw_ine dX5_isVacated_4 (tgt := 9) (by decide) ⟨by omega, by omega⟩ (fun wh2 => ?_) (fun wh2 => absurd wh2 (by decide))
    refine aw_b kX5_ok bX5_isVacated_9_ok (Cs := []) (pc' := 11) (L' := [some (aR 1 c), some (aI f)]) (st' := [aI f, aR 1 c]) (σ' := σ) rfl trivial ?_
    refine aw_callV lX5_76 (as := [aI f]) (rest := []) (t := 1) (c := c) (by decide) (by decide) (show c < 3 by omega) rfl rfl (Nat.le_of_ble_eq_true rfl) rfl dX5_isVacated_11 (cC_vacate l f c hc σ r hR hw hf) ?_
    rintro _ τ2 ⟨rfl, hT2, hF2, h32⟩
    refine aw_b kX5_ok bX5_isVacated_14_ok (Cs := []) (pc' := 15) (L' := [some (aR 1 c), some (aI f)]) (st' := [aI 1]) (σ' := τ2) rfl trivial ?_
    exact aw_zret dX5_isVacated_15 rfl (by omega) ⟨aret (dT (by omega)).symm, fun _ => hT2, hF2⟩
  · refine aw_ine dX5_isVacated_4 (tgt := 9) (by decide) ⟨by omega, by omega⟩ (fun wh3 => absurd wh3 (by decide)) (fun wh3 => ?_)
    refine aw_b kX5_ok bX5_isVacated_7_ok (Cs := []) (pc' := 8) (L' := [some (aR 1 c), some (aI f)]) (st' := [aI 0]) (σ' := σ) rfl trivial ?_
    exact aw_zret dX5_isVacated_8 rfl (by omega) ⟨aret (dF (by omega)).symm, fun q => absurd (of_decide_eq_true q) (by omega), aFr_rf⟩
set_option maxRecDepth 10000 in
theorem cT_known (l : Launch) (p k : Int) (c : Nat) (hc : c < 3) (σ : aS) (r : aRw) (hR : Rep σ c r) (hw : WF r) (hp : aIr p) : AM l 1 mX5_isMadeKnown [aR 1 c, aI p, aI k] σ (PB c σ (decide (0 ≤ p ∧ p < r 0)) (rUp r (aOf p 2) k)) := by
  have bn := hw.1
  have en := hR.n
  refine am_of (by decide) (Nat.le_of_ble_eq_true rfl) (L := [some (aR 1 c), some (aI p), some (aI k)]) rfl ?_
  refine aw_b kX5_ok bX5_isMadeKnown_0_ok (Cs := []) (pc' := 2) (L' := [some (aR 1 c), some (aI p), some (aI k)]) (st' := [aI p, aR 1 c]) (σ' := σ) rfl trivial ?_
  refine aw_bV lX5_69 (as := [aI p]) (rest := []) (t := 1) (c := c) (by decide) (by decide) (show c < 3 by omega) rfl rfl (Nat.le_of_ble_eq_true rfl) rfl dX5_isMadeKnown_2 (cC_isThere l p c (by omega) σ r hR hw ⟨by omega, by omega⟩) (fun wh1 => ?_) (fun wh1 => ?_)
  · refine aw_ine dX5_isMadeKnown_5 (tgt := 10) (by decide) ⟨by omega, by omega⟩ (fun wh2 => ?_) (fun wh2 => absurd wh2 (by decide))
    refine aw_b kX5_ok bX5_isMadeKnown_10_ok (Cs := [c < 3, c < 3, 0 ≤ p ∧ p < 8]) (pc' := 18) (L' := [some (aR 1 c), some (aI p), some (aI k)]) (st' := [aI 1]) (σ' := aUp σ 4 c p k) rfl (show (c < 3) ∧ (c < 3) ∧ (0 ≤ p ∧ p < 8) from ⟨by omega, by omega, by omega⟩) ?_
    exact aw_zret dX5_isMadeKnown_18 rfl (by omega) ⟨aret (dT (by omega)).symm, fun _ => Rep_known hR hw (by omega) (by omega) k, aFr_up (cb (by decide))⟩
  · refine aw_ine dX5_isMadeKnown_5 (tgt := 10) (by decide) ⟨by omega, by omega⟩ (fun wh3 => absurd wh3 (by decide)) (fun wh3 => ?_)
    refine aw_b kX5_ok bX5_isMadeKnown_8_ok (Cs := []) (pc' := 9) (L' := [some (aR 1 c), some (aI p), some (aI k)]) (st' := [aI 0]) (σ' := σ) rfl trivial ?_
    exact aw_zret dX5_isMadeKnown_9 rfl (by omega) ⟨aret (dF (by omega)).symm, fun q => absurd (of_decide_eq_true q) (by omega), aFr_rf⟩
set_option maxRecDepth 10000 in
theorem cT_passed (l : Launch) (n : Int) (c : Nat) (hc : c < 3) (σ : aS) (r : aRw) (hR : Rep σ c r) (hw : WF r) (hd : r 1 ≤ 999) (hn : 0 ≤ n ∧ n ≤ 99) : AM l 4 mX5_isPassed [aR 1 c, aI n] σ (PB c σ (decide ((1 ≤ n ∧ n ≤ 60) ∧ r 1 + n ≤ 999)) (dysR r n.toNat)) := by
  have bn := hw.1
  have en := hR.n
  have e1 := hR.1.2.1
  have b1 := hw.2.1
  refine am_of (by decide) (Nat.le_of_ble_eq_true rfl) (L := [some (aR 1 c), some (aI n), none, none]) rfl ?_
  refine aw_b kX5_ok bX5_isPassed_0_ok (Cs := []) (pc' := 2) (L' := [some (aR 1 c), some (aI n), none, none]) (st' := [aI 1, aI n]) (σ' := σ) rfl trivial ?_
  refine aw_clt dX5_isPassed_2 (tgt := 27) (by decide) ⟨by omega, by omega⟩ ⟨by omega, by omega⟩ (fun wh1 => ?_) (fun wh1 => ?_)
  · refine aw_b kX5_ok bX5_isPassed_27_ok (Cs := []) (pc' := 28) (L' := [some (aR 1 c), some (aI n), none, none]) (st' := [aI 0]) (σ' := σ) rfl trivial ?_
    refine aw_b kX5_ok bX5_isPassed_28_ok (Cs := []) (pc' := 31) (L' := [some (aR 1 c), some (aI n), some (aI 0), some (aI 0)]) (st' := []) (σ' := σ) rfl trivial ?_
    refine aw_b kX5_ok bX5_isPassed_31_ok (Cs := []) (pc' := 32) (L' := [some (aR 1 c), some (aI n), some (aI 0), some (aI 0)]) (st' := [aI 0]) (σ' := σ) rfl trivial ?_
    refine aw_ieq dX5_isPassed_32 (tgt := 50) (by decide) ⟨by omega, by omega⟩ (fun wh2 => ?_) (fun wh2 => absurd wh2 (by decide))
    refine aw_b kX5_ok bX5_isPassed_50_ok (Cs := []) (pc' := 51) (L' := [some (aR 1 c), some (aI n), some (aI 0), some (aI 0)]) (st' := [aI 0]) (σ' := σ) rfl trivial ?_
    exact aw_zret dX5_isPassed_51 rfl (by omega) ⟨aret (dF (by omega)).symm, fun q => absurd (of_decide_eq_true q) (by omega), aFr_rf⟩
  · refine aw_b kX5_ok bX5_isPassed_5_ok (Cs := []) (pc' := 8) (L' := [some (aR 1 c), some (aI n), none, none]) (st' := [aI 60, aI n]) (σ' := σ) rfl trivial ?_
    refine aw_cgt dX5_isPassed_8 (tgt := 27) (by decide) ⟨by omega, by omega⟩ ⟨by omega, by omega⟩ (fun wh3 => ?_) (fun wh3 => ?_)
    · refine aw_b kX5_ok bX5_isPassed_27_ok (Cs := []) (pc' := 28) (L' := [some (aR 1 c), some (aI n), none, none]) (st' := [aI 0]) (σ' := σ) rfl trivial ?_
      refine aw_b kX5_ok bX5_isPassed_28_ok (Cs := []) (pc' := 31) (L' := [some (aR 1 c), some (aI n), some (aI 0), some (aI 0)]) (st' := []) (σ' := σ) rfl trivial ?_
      refine aw_b kX5_ok bX5_isPassed_31_ok (Cs := []) (pc' := 32) (L' := [some (aR 1 c), some (aI n), some (aI 0), some (aI 0)]) (st' := [aI 0]) (σ' := σ) rfl trivial ?_
      refine aw_ieq dX5_isPassed_32 (tgt := 50) (by decide) ⟨by omega, by omega⟩ (fun wh4 => ?_) (fun wh4 => absurd wh4 (by decide))
      refine aw_b kX5_ok bX5_isPassed_50_ok (Cs := []) (pc' := 51) (L' := [some (aR 1 c), some (aI n), some (aI 0), some (aI 0)]) (st' := [aI 0]) (σ' := σ) rfl trivial ?_
      exact aw_zret dX5_isPassed_51 rfl (by omega) ⟨aret (dF (by omega)).symm, fun q => absurd (of_decide_eq_true q) (by omega), aFr_rf⟩
    · refine aw_b kX5_ok bX5_isPassed_11_ok (Cs := [c < 3]) (pc' := 20) (L' := [some (aR 1 c), some (aI n), none, none]) (st' := [aI 999, aI ((σ 1 c 1) + n)]) (σ' := σ) rfl (show c < 3 from by omega) ?_
      refine aw_cgt dX5_isPassed_20 (tgt := 27) (by decide) ⟨by omega, by omega⟩ ⟨by omega, by omega⟩ (fun wh5 => ?_) (fun wh5 => ?_)
      · refine aw_b kX5_ok bX5_isPassed_27_ok (Cs := []) (pc' := 28) (L' := [some (aR 1 c), some (aI n), none, none]) (st' := [aI 0]) (σ' := σ) rfl trivial ?_
        refine aw_b kX5_ok bX5_isPassed_28_ok (Cs := []) (pc' := 31) (L' := [some (aR 1 c), some (aI n), some (aI 0), some (aI 0)]) (st' := []) (σ' := σ) rfl trivial ?_
        refine aw_b kX5_ok bX5_isPassed_31_ok (Cs := []) (pc' := 32) (L' := [some (aR 1 c), some (aI n), some (aI 0), some (aI 0)]) (st' := [aI 0]) (σ' := σ) rfl trivial ?_
        refine aw_ieq dX5_isPassed_32 (tgt := 50) (by decide) ⟨by omega, by omega⟩ (fun wh6 => ?_) (fun wh6 => absurd wh6 (by decide))
        refine aw_b kX5_ok bX5_isPassed_50_ok (Cs := []) (pc' := 51) (L' := [some (aR 1 c), some (aI n), some (aI 0), some (aI 0)]) (st' := [aI 0]) (σ' := σ) rfl trivial ?_
        exact aw_zret dX5_isPassed_51 rfl (by omega) ⟨aret (dF (by omega)).symm, fun q => absurd (of_decide_eq_true q) (by omega), aFr_rf⟩
      · refine aw_b kX5_ok bX5_isPassed_23_ok (Cs := []) (pc' := 28) (L' := [some (aR 1 c), some (aI n), none, none]) (st' := [aI 1]) (σ' := σ) rfl trivial ?_
        refine aw_b kX5_ok bX5_isPassed_28_ok (Cs := []) (pc' := 31) (L' := [some (aR 1 c), some (aI n), some (aI 1), some (aI 0)]) (st' := []) (σ' := σ) rfl trivial ?_
        refine aloop (P := fun i : Nat => ∀ (ρ : aS) (hQ : Rep ρ c (dysR r i)) (hG : aFr (Cb c) σ ρ), AW l 4 mX5_isPassed _ 31 [some (aR 1 c), some (aI n), some (aI 1), some (aI (i : Int))] [] ρ) n.toNat (fun i hi ihi ρ hQ hG => ?_) σ hR aFr_rf
        have eD := dysR_0 r i
        refine aw_b kX5_ok bX5_isPassed_31_ok (Cs := []) (pc' := 32) (L' := [some (aR 1 c), some (aI n), some (aI 1), some (aI (i : Int))]) (st' := [aI 1]) (σ' := ρ) rfl trivial ?_
        refine aw_ieq dX5_isPassed_32 (tgt := 50) (by decide) ⟨by omega, by omega⟩ (fun wh7 => absurd wh7 (by decide)) (fun wh7 => ?_)
        refine aw_b kX5_ok bX5_isPassed_35_ok (Cs := []) (pc' := 37) (L' := [some (aR 1 c), some (aI n), some (aI 1), some (aI (i : Int))]) (st' := [aI n, aI (i : Int)]) (σ' := ρ) rfl trivial ?_
        refine aw_cge dX5_isPassed_37 (tgt := 50) (by decide) ⟨by omega, by omega⟩ ⟨by omega, by omega⟩ (fun wh8 => ?_) (fun wh8 => ?_)
        · refine aw_b kX5_ok bX5_isPassed_50_ok (Cs := []) (pc' := 51) (L' := [some (aR 1 c), some (aI n), some (aI 1), some (aI (i : Int))]) (st' := [aI 1]) (σ' := ρ) rfl trivial ?_
          exact aw_zret dX5_isPassed_51 rfl (by omega) ⟨aret (dT (by omega)).symm, fun _ => by rw [show i = n.toNat by omega] at hQ; exact hQ, hG⟩
        · refine aw_b kX5_ok bX5_isPassed_40_ok (Cs := []) (pc' := 41) (L' := [some (aR 1 c), some (aI n), some (aI 1), some (aI (i : Int))]) (st' := [aR 1 c]) (σ' := ρ) rfl trivial ?_
          refine aw_callV lX5_59 (as := []) (rest := []) (t := 1) (c := c) (by decide) (by decide) (show c < 3 by omega) rfl rfl (Nat.le_of_ble_eq_true rfl) rfl dX5_isPassed_41 (cC_oneDay l c hc ρ (dysR r i) hQ (dysR_wf hw _) (by omega)) ?_
          rintro _ τ9 ⟨rfl, hT9, hF9, h39⟩
          refine aw_b kX5_ok bX5_isPassed_44_ok (Cs := []) (pc' := 31) (L' := [some (aR 1 c), some (aI n), some (aI 1), some (aI ((i : Int) + 1))]) (st' := []) (σ' := τ9) rfl trivial ?_
          exact ihi (by omega) τ9 hT9 (aFr_tr hG hF9)
set_option maxRecDepth 10000 in
theorem cT_isObeyed (l : Launch) (x a b e : Int) (c : Nat) (hc : c < 3) (σ : aS) (r : aRw) (hR : Rep σ c r) (hw : WF r) (hd : r 1 ≤ 999) (hx : dgF x ≠ 0) (h1 : 1 ≤ dgF x → 0 ≤ a ∧ a ≤ 9) (h2 : 2 ≤ dgF x → 0 ≤ b ∧ b ≤ 9) (h3 : 3 ≤ dgF x → 0 ≤ e ∧ e ≤ 9) : AM l 5 mX5_isObeyed [aR 1 c, aI x, aI a, aI b, aI e] σ (PB c σ (okB r x a b e) (doS r x a b e)) := by
  have bn := hw.1
  have en := hR.n
  have hx6 := dgF_x hx
  have hdg : (x = 112 ∨ x = 107 → dgF x = 3) ∧ (x = 111 ∨ x = 104 ∨ x = 100 → dgF x = 2) ∧ (x = 101 → dgF x = 1) := by unfold dgF; refine ⟨fun q => if_pos q, fun q => ?_, fun q => ?_⟩ <;> (repeat' split) <;> omega
  refine am_of (by decide) (Nat.le_of_ble_eq_true rfl) (L := [some (aR 1 c), some (aI x), some (aI a), some (aI b), some (aI e)]) rfl ?_
  refine aw_b kX5_ok bX5_isObeyed_0_ok (Cs := []) (pc' := 1) (L' := [some (aR 1 c), some (aI x), some (aI a), some (aI b), some (aI e)]) (st' := [aI x]) (σ' := σ) rfl trivial ?_
  rcases (show x = 101 ∨ x = 102 ∨ x = 103 ∨ x = 104 ∨ x = 105 ∨ x = 106 ∨ x = 107 ∨ x = 108 ∨ x = 109 ∨ x = 110 ∨ x = 111 ∨ x = 112 ∨ (x < 101 ∨ 112 < x) by omega) with wh1 | wh1 | wh1 | wh1 | wh1 | wh1 | wh1 | wh1 | wh1 | wh1 | wh1 | wh1 | wh1
  · refine aw_tsw dX5_isObeyed_1 (tgt := 109) ⟨by omega, by omega⟩ (by decide) (by rw [wh1]; decide) ?_
    have wx : x = 101 := by omega
    refine aw_b kX5_ok bX5_isObeyed_109_ok (Cs := []) (pc' := 111) (L' := [some (aR 1 c), some (aI x), some (aI a), some (aI b), some (aI e)]) (st' := [aI a, aR 1 c]) (σ' := σ) rfl trivial ?_
    refine aw_callS lX5_45 (as := [aR 1 c, aI a]) (rest := []) (by decide) rfl (Nat.le_of_ble_eq_true rfl) rfl dX5_isObeyed_111 (cT_vacated l a c hc σ r hR hw ⟨by omega, by omega⟩) ?_
    rintro _ τ2 ⟨rfl, hT2, hF2⟩
    exact aw_zret dX5_isObeyed_114 rfl (by (first | omega | (split <;> omega))) ⟨aret (by rw [wx]; rfl), fun q => by rw [wx] at q ⊢; exact hT2 q, hF2⟩
  · exfalso; omega
  · exfalso; omega
  · refine aw_tsw dX5_isObeyed_1 (tgt := 102) ⟨by omega, by omega⟩ (by decide) (by rw [wh1]; decide) ?_
    have wx : x = 104 := by omega
    refine aw_b kX5_ok bX5_isObeyed_102_ok (Cs := []) (pc' := 105) (L' := [some (aR 1 c), some (aI x), some (aI a), some (aI b), some (aI e)]) (st' := [aI b, aI a, aR 1 c]) (σ' := σ) rfl trivial ?_
    refine aw_callS lX5_42 (as := [aR 1 c, aI a, aI b]) (rest := []) (by decide) rfl (Nat.le_of_ble_eq_true rfl) rfl dX5_isObeyed_105 (cT_installed l a b c hc σ r hR hw ⟨by omega, by omega⟩ ⟨by omega, by omega⟩) ?_
    rintro _ τ2 ⟨rfl, hT2, hF2⟩
    exact aw_zret dX5_isObeyed_108 rfl (by (first | omega | (split <;> omega))) ⟨aret (by rw [wx]; rfl), fun q => by rw [wx] at q ⊢; exact hT2 q, hF2⟩
  · exfalso; omega
  · exfalso; omega
  · refine aw_tsw dX5_isObeyed_1 (tgt := 115) ⟨by omega, by omega⟩ (by decide) (by rw [wh1]; decide) ?_
    have wx : x = 107 := by omega
    refine aw_b kX5_ok bX5_isObeyed_115_ok (Cs := []) (pc' := 124) (L' := [some (aR 1 c), some (aI x), some (aI a), some (aI b), some (aI e)]) (st' := [aI ((10 * b) + e), aI a, aR 1 c]) (σ' := σ) rfl trivial ?_
    refine aw_callS lX5_49 (as := [aR 1 c, aI a, aI ((10 * b) + e)]) (rest := []) (by decide) rfl (Nat.le_of_ble_eq_true rfl) rfl dX5_isObeyed_124 (cT_known l a (10 * b + e) c hc σ r hR hw ⟨by omega, by omega⟩) ?_
    rintro _ τ2 ⟨rfl, hT2, hF2⟩
    exact aw_zret dX5_isObeyed_127 rfl (by (first | omega | (split <;> omega))) ⟨aret (by rw [wx]; rfl), fun q => by rw [wx] at q ⊢; exact hT2 q, hF2⟩
  · exfalso; omega
  · exfalso; omega
  · exfalso; omega
  · refine aw_tsw dX5_isObeyed_1 (tgt := 95) ⟨by omega, by omega⟩ (by decide) (by rw [wh1]; decide) ?_
    have wx : x = 111 := by omega
    refine aw_b kX5_ok bX5_isObeyed_95_ok (Cs := []) (pc' := 98) (L' := [some (aR 1 c), some (aI x), some (aI a), some (aI b), some (aI e)]) (st' := [aI b, aI a, aR 1 c]) (σ' := σ) rfl trivial ?_
    refine aw_callS lX5_38 (as := [aR 1 c, aI a, aI b]) (rest := []) (by decide) rfl (Nat.le_of_ble_eq_true rfl) rfl dX5_isObeyed_98 (cT_dressed l a b c hc σ r hR hw ⟨by omega, by omega⟩) ?_
    rintro _ τ2 ⟨rfl, hT2, hF2⟩
    exact aw_zret dX5_isObeyed_101 rfl (by (first | omega | (split <;> omega))) ⟨aret (by rw [wx]; rfl), fun q => by rw [wx] at q ⊢; exact hT2 q, hF2⟩
  · refine aw_tsw dX5_isObeyed_1 (tgt := 64) ⟨by omega, by omega⟩ (by decide) (by rw [wh1]; decide) ?_
    have wx : x = 112 := by omega
    refine aw_b kX5_ok bX5_isObeyed_64_ok (Cs := []) (pc' := 67) (L' := [some (aR 1 c), some (aI x), some (aI a), some (aI b), some (aI e)]) (st' := [aI 8, aI a]) (σ' := σ) rfl trivial ?_
    refine aw_cge dX5_isObeyed_67 (tgt := 93) (by decide) ⟨by omega, by omega⟩ ⟨by omega, by omega⟩ (fun wh2 => ?_) (fun wh2 => ?_)
    · refine aw_b kX5_ok bX5_isObeyed_93_ok (Cs := []) (pc' := 94) (L' := [some (aR 1 c), some (aI x), some (aI a), some (aI b), some (aI e)]) (st' := [aI 0]) (σ' := σ) rfl trivial ?_
      exact aw_zret dX5_isObeyed_94 rfl (by (first | omega | (split <;> omega))) ⟨aret (by rw [wx]; exact (dF (by omega)).symm), fun q => by rw [wx] at q; exact absurd (of_decide_eq_true q) (by omega), aFr_rf⟩
    · refine aw_b kX5_ok bX5_isObeyed_70_ok (Cs := []) (pc' := 72) (L' := [some (aR 1 c), some (aI x), some (aI a), some (aI b), some (aI e)]) (st' := [aI e]) (σ' := σ) rfl trivial ?_
      refine aw_bN lX5_28 (as := [aI e]) (rest := []) (by decide) rfl (Nat.le_of_ble_eq_true rfl) rfl dX5_isObeyed_72 (cC_isMate l e σ ⟨by omega, by omega⟩) (fun wh3 => ?_) (fun wh3 => ?_)
      · refine aw_ieq dX5_isObeyed_75 (tgt := 93) (by decide) ⟨by omega, by omega⟩ (fun wh4 => absurd wh4 (by decide)) (fun wh4 => ?_)
        refine aw_b kX5_ok bX5_isObeyed_78_ok (Cs := []) (pc' := 83) (L' := [some (aR 1 c), some (aI x), some (aI a), some (aI b), some (aI e)]) (st' := [aI e, aI b, aI a, aR 1 c]) (σ' := σ) rfl trivial ?_
        refine aw_callV lX5_32 (as := [aI a, aI b, aI e]) (rest := []) (t := 1) (c := c) (by decide) (by decide) (show c < 3 by omega) rfl rfl (Nat.le_of_ble_eq_true rfl) rfl dX5_isObeyed_83 (cC_welcome l a b e c hc σ r hR hw) ?_
        rintro _ τ2 ⟨rfl, hT2, hF2⟩
        refine aw_ilt dX5_isObeyed_86 (tgt := 93) (by decide) ⟨by omega, by omega⟩ (fun wh5 => ?_) (fun wh5 => ?_)
        · refine aw_b kX5_ok bX5_isObeyed_93_ok (Cs := []) (pc' := 94) (L' := [some (aR 1 c), some (aI x), some (aI a), some (aI b), some (aI e)]) (st' := [aI 0]) (σ' := τ2) rfl trivial ?_
          exact aw_zret dX5_isObeyed_94 rfl (by (first | omega | (split <;> omega))) ⟨aret (by rw [wx]; exact (dF (by omega)).symm), fun q => by rw [wx] at q; exact absurd (of_decide_eq_true q) (by omega), hF2⟩
        · refine aw_b kX5_ok bX5_isObeyed_89_ok (Cs := []) (pc' := 94) (L' := [some (aR 1 c), some (aI x), some (aI a), some (aI b), some (aI e)]) (st' := [aI 1]) (σ' := τ2) rfl trivial ?_
          exact aw_zret dX5_isObeyed_94 rfl (by (first | omega | (split <;> omega))) ⟨aret (by rw [wx]; exact (dT (by omega)).symm), fun _ => by rw [wx]; have z := hT2; rw [if_pos (by omega)] at z; exact z, hF2⟩
      · refine aw_ieq dX5_isObeyed_75 (tgt := 93) (by decide) ⟨by omega, by omega⟩ (fun wh6 => ?_) (fun wh6 => absurd wh6 (by decide))
        refine aw_b kX5_ok bX5_isObeyed_93_ok (Cs := []) (pc' := 94) (L' := [some (aR 1 c), some (aI x), some (aI a), some (aI b), some (aI e)]) (st' := [aI 0]) (σ' := σ) rfl trivial ?_
        exact aw_zret dX5_isObeyed_94 rfl (by (first | omega | (split <;> omega))) ⟨aret (by rw [wx]; exact (dF (by omega)).symm), fun q => by rw [wx] at q; exact absurd (of_decide_eq_true q) (by omega), aFr_rf⟩
  · refine aw_tsw dX5_isObeyed_1 (tgt := 128) ⟨by omega, by omega⟩ (by decide) (by unfold aTgt; rw [if_pos (by omega)]; rfl) ?_
    have wx : x = 100 := by omega
    refine aw_b kX5_ok bX5_isObeyed_128_ok (Cs := []) (pc' := 135) (L' := [some (aR 1 c), some (aI x), some (aI a), some (aI b), some (aI e)]) (st' := [aI ((10 * a) + b), aR 1 c]) (σ' := σ) rfl trivial ?_
    refine aw_callS lX5_52 (as := [aR 1 c, aI ((10 * a) + b)]) (rest := []) (by decide) rfl (Nat.le_of_ble_eq_true rfl) rfl dX5_isObeyed_135 (cT_passed l (10 * a + b) c hc σ r hR hw hd (by omega)) ?_
    rintro _ τ2 ⟨rfl, hT2, hF2⟩
    exact aw_zret dX5_isObeyed_138 rfl (by (first | omega | (split <;> omega))) ⟨aret (by rw [wx]; rfl), fun q => by rw [wx] at q ⊢; exact hT2 q, hF2⟩
set_option maxRecDepth 10000 in
theorem cT_obeyed (l : Launch) (d : Int) (σ0 σ : aS) (hs : SH σ0) (hsh : shE σ0 σ) (r : aRw) (hR : Rep σ 1 r) (hw : WF r) (hd : r 1 ≤ 999) (h0 : 0 ≤ d) (h1 : d < 8) (hbk : bkF (vaF σ0 d) (σ0 14 0 d) (σ0 14 0 d).toNat 0 (-1) = -1) : AM l 6 mX5_obeyed [aR 9 0, aI d, aR 1 1] σ ((fun v σ' => v = some (aI (obF (vaF σ0 d) (σ0 14 0 d) (σ0 14 0 d).toNat 0 0 r).1) ∧ (-3000 ≤ (obF (vaF σ0 d) (σ0 14 0 d) (σ0 14 0 d).toNat 0 0 r).1 ∧ (obF (vaF σ0 d) (σ0 14 0 d) (σ0 14 0 d).toNat 0 0 r).1 ≤ 3000) ∧ (0 ≤ (obF (vaF σ0 d) (σ0 14 0 d) (σ0 14 0 d).toNat 0 0 r).1 → Rep σ' 1 (obF (vaF σ0 d) (σ0 14 0 d) (σ0 14 0 d).toNat 0 0 r).2 ∧ WF (obF (vaF σ0 d) (σ0 14 0 d) (σ0 14 0 d).toNat 0 0 r).2 ∧ (obF (vaF σ0 d) (σ0 14 0 d) (σ0 14 0 d).toNat 0 0 r).2 1 ≤ 999) ∧ aFr (Cb 1) σ σ')) := by
  have hs1 := hs.eq hsh
  have bs := hs.1 d h0 h1
  have es := hsh 14 d (by decide) (by decide)
  refine am_of (by decide) (Nat.le_of_ble_eq_true rfl) (L := [some (aR 9 0), some (aI d), some (aR 1 1), none, none, none, none, none, none, none]) rfl ?_
  refine aw_b kX5_ok bX5_obeyed_0_ok (Cs := []) (pc' := 2) (L' := [some (aR 9 0), some (aI d), some (aR 1 1), none, none, none, none, none, none, none]) (st' := [aI d, aR 9 0]) (σ' := σ) rfl trivial ?_
  refine aw_fV lX5_9 (as := [aI d]) (rest := []) (t := 9) (c := 0) (by decide) (by decide) (by decide) rfl rfl (Nat.le_of_ble_eq_true rfl) rfl dX5_obeyed_2 (cS_lengthOf l d σ hs1 h0 h1) ?_
  refine aw_b kX5_ok bX5_obeyed_5_ok (Cs := []) (pc' := 12) (L' := [some (aR 9 0), some (aI d), some (aR 1 1), some (aI (σ 14 0 d)), some (aI 0), some (aI 0), none, none, none, none]) (st' := []) (σ' := σ) rfl trivial ?_
  refine aloop (P := fun m : Nat => ∀ (ρ : aS) (i : Nat) (st : Int) (q : aRw) (hwq : WF q) (hdq : q 1 ≤ 999) (hQ : Rep ρ 1 q) (hG : aFr (Cb 1) σ ρ) (hS : bkF (vaF σ0 d) (σ0 14 0 d) ((σ0 14 0 d).toNat - i) i (-1) = -1) (hst : 0 ≤ st ∧ st ≤ m) (hmi : m ≤ i ∧ i ≤ (σ0 14 0 d).toNat) (hA : obF (vaF σ0 d) (σ0 14 0 d) (σ0 14 0 d).toNat 0 0 r = obF (vaF σ0 d) (σ0 14 0 d) ((σ0 14 0 d).toNat - m) i st q), AW l 6 mX5_obeyed _ 12 [some (aR 9 0), some (aI d), some (aR 1 1), some (aI (σ 14 0 d)), some (aI st), some (aI (i : Int)), none, none, none, none] [] ρ) ((σ0 14 0 d).toNat) (fun m hm ihm ρ i st q hwq hdq hQ hG hS hst hmi hA => ?_) σ 0 0 r hw hd hR aFr_rf hbk (by omega) (by omega) rfl
  refine aw_b kX5_ok bX5_obeyed_12_ok (Cs := []) (pc' := 15) (L' := [some (aR 9 0), some (aI d), some (aR 1 1), some (aI (σ 14 0 d)), some (aI st), some (aI (i : Int)), none, none, none, none]) (st' := [aI (σ 14 0 d), aI (i : Int)]) (σ' := ρ) rfl trivial ?_
  refine aw_cge dX5_obeyed_15 (tgt := 109) (by decide) ⟨by omega, by omega⟩ ⟨by omega, by omega⟩ (fun wh1 => ?_) (fun wh1 => ?_)
  · have hE : obF (vaF σ0 d) (σ0 14 0 d) (σ0 14 0 d).toNat 0 0 r = (st, q) := by rw [hA]; exact obF_end (by omega)
    refine aw_b kX5_ok bX5_obeyed_109_ok (Cs := []) (pc' := 111) (L' := [some (aR 9 0), some (aI d), some (aR 1 1), some (aI (σ 14 0 d)), some (aI st), some (aI (i : Int)), none, none, none, none]) (st' := [aI st]) (σ' := ρ) rfl trivial ?_
    exact aw_iret dX5_obeyed_111 rfl ⟨aret (by rw [hE]), by rw [hE]; show -3000 ≤ st ∧ st ≤ 3000; omega, fun _ => by rw [hE]; exact ⟨hQ, hwq, hdq⟩, hG⟩
  · have hsn := shE_fr hsh (aFrC hG)
    have hsS := hs.eq hsn
    have ev : ∀ j, vaF ρ d j = vaF σ0 d j := fun j => vaF_eq hsn d j
    have bv0 := vaF_rng hs (i := (i : Int)) h0 h1
    have bv1 := vaF_rng hs (i := (i : Int) + 1) h0 h1
    have bv2 := vaF_rng hs (i := (i : Int) + 2) h0 h1
    have bv3 := vaF_rng hs (i := (i : Int) + 3) h0 h1
    have bst := bk_st (by omega) (by omega) hS
    have hB : obF (vaF σ0 d) (σ0 14 0 d) (σ0 14 0 d).toNat 0 0 r = (if okB q (vaF σ0 d (i : Int)) (vaF σ0 d ((i : Int) + 1) - 48) (vaF σ0 d ((i : Int) + 2) - 48) (vaF σ0 d ((i : Int) + 3) - 48) = true then obF (vaF σ0 d) (σ0 14 0 d) ((σ0 14 0 d).toNat - (m + 1)) (i + (dgF (vaF σ0 d (i : Int))).toNat + 2) (st + 1) (doS q (vaF σ0 d (i : Int)) (vaF σ0 d ((i : Int) + 1) - 48) (vaF σ0 d ((i : Int) + 2) - 48) (vaF σ0 d ((i : Int) + 3) - 48)) else (-2000 - (i : Int), q)) := by
      rw [hA, show (σ0 14 0 d).toNat - m = ((σ0 14 0 d).toNat - (m + 1)) + 1 by omega, obF, if_pos (by omega)]
    refine aw_b kX5_ok bX5_obeyed_18_ok (Cs := []) (pc' := 22) (L' := [some (aR 9 0), some (aI d), some (aR 1 1), some (aI (σ 14 0 d)), some (aI st), some (aI (i : Int)), none, none, none, none]) (st' := [aI (i : Int), aI d, aR 9 0]) (σ' := ρ) rfl trivial ?_
    have hv0 := cS_valueAt l d (i : Int) ρ hsS h0 h1 ⟨by omega, by omega⟩
    rw [ev (i : Int)] at hv0
    refine aw_fV lX5_15 (as := [aI d, aI (i : Int)]) (rest := []) (t := 9) (c := 0) (by decide) (by decide) (by decide) rfl rfl (Nat.le_of_ble_eq_true rfl) rfl dX5_obeyed_22 (hv0) ?_
    refine aw_b kX5_ok bX5_obeyed_25_ok (Cs := []) (pc' := 33) (L' := [some (aR 9 0), some (aI d), some (aR 1 1), some (aI (σ 14 0 d)), some (aI st), some (aI (i : Int)), some (aI (vaF σ0 d (i : Int))), none, none, none]) (st' := [aI ((i : Int) + 1), aI d, aR 9 0]) (σ' := ρ) rfl trivial ?_
    have hv1 := cS_valueAt l d ((i : Int) + 1) ρ hsS h0 h1 ⟨by omega, by omega⟩
    rw [ev ((i : Int) + 1)] at hv1
    refine aw_fV lX5_15 (as := [aI d, aI ((i : Int) + 1)]) (rest := []) (t := 9) (c := 0) (by decide) (by decide) (by decide) rfl rfl (Nat.le_of_ble_eq_true rfl) rfl dX5_obeyed_33 (hv1) ?_
    refine aw_b kX5_ok bX5_obeyed_36_ok (Cs := []) (pc' := 47) (L' := [some (aR 9 0), some (aI d), some (aR 1 1), some (aI (σ 14 0 d)), some (aI st), some (aI (i : Int)), some (aI (vaF σ0 d (i : Int))), some (aI ((vaF σ0 d ((i : Int) + 1)) - 48)), none, none]) (st' := [aI ((i : Int) + 2), aI d, aR 9 0]) (σ' := ρ) rfl trivial ?_
    have hv2 := cS_valueAt l d ((i : Int) + 2) ρ hsS h0 h1 ⟨by omega, by omega⟩
    rw [ev ((i : Int) + 2)] at hv2
    refine aw_fV lX5_15 (as := [aI d, aI ((i : Int) + 2)]) (rest := []) (t := 9) (c := 0) (by decide) (by decide) (by decide) rfl rfl (Nat.le_of_ble_eq_true rfl) rfl dX5_obeyed_47 (hv2) ?_
    refine aw_b kX5_ok bX5_obeyed_50_ok (Cs := []) (pc' := 61) (L' := [some (aR 9 0), some (aI d), some (aR 1 1), some (aI (σ 14 0 d)), some (aI st), some (aI (i : Int)), some (aI (vaF σ0 d (i : Int))), some (aI ((vaF σ0 d ((i : Int) + 1)) - 48)), some (aI ((vaF σ0 d ((i : Int) + 2)) - 48)), none]) (st' := [aI ((i : Int) + 3), aI d, aR 9 0]) (σ' := ρ) rfl trivial ?_
    have hv3 := cS_valueAt l d ((i : Int) + 3) ρ hsS h0 h1 ⟨by omega, by omega⟩
    rw [ev ((i : Int) + 3)] at hv3
    refine aw_fV lX5_15 (as := [aI d, aI ((i : Int) + 3)]) (rest := []) (t := 9) (c := 0) (by decide) (by decide) (by decide) rfl rfl (Nat.le_of_ble_eq_true rfl) rfl dX5_obeyed_61 (hv3) ?_
    refine aw_b kX5_ok bX5_obeyed_64_ok (Cs := []) (pc' := 78) (L' := [some (aR 9 0), some (aI d), some (aR 1 1), some (aI (σ 14 0 d)), some (aI st), some (aI (i : Int)), some (aI (vaF σ0 d (i : Int))), some (aI ((vaF σ0 d ((i : Int) + 1)) - 48)), some (aI ((vaF σ0 d ((i : Int) + 2)) - 48)), some (aI ((vaF σ0 d ((i : Int) + 3)) - 48))]) (st' := [aI ((vaF σ0 d ((i : Int) + 3)) - 48), aI ((vaF σ0 d ((i : Int) + 2)) - 48), aI ((vaF σ0 d ((i : Int) + 1)) - 48), aI (vaF σ0 d (i : Int)), aR 1 1]) (σ' := ρ) rfl trivial ?_
    refine aw_callS lX5_24 (as := [aR 1 1, aI (vaF σ0 d (i : Int)), aI ((vaF σ0 d ((i : Int) + 1)) - 48), aI ((vaF σ0 d ((i : Int) + 2)) - 48), aI ((vaF σ0 d ((i : Int) + 3)) - 48)]) (rest := []) (by decide) rfl (Nat.le_of_ble_eq_true rfl) rfl dX5_obeyed_78 (cT_isObeyed l (vaF σ0 d (i : Int)) (vaF σ0 d ((i : Int) + 1) - 48) (vaF σ0 d ((i : Int) + 2) - 48) (vaF σ0 d ((i : Int) + 3) - 48) 1 (by decide) ρ q hQ hwq hdq bst.1 bst.2.2.2.1 bst.2.2.2.2.1 bst.2.2.2.2.2) ?_
    rintro _ τ2 ⟨rfl, hT2, hF2⟩
    refine aw_ine dX5_obeyed_81 (tgt := 91) (by decide) ⟨by (split <;> omega), by (split <;> omega)⟩ (fun wh2 => ?_) (fun wh2 => ?_)
    · have hyes : okB q (vaF σ0 d (i : Int)) (vaF σ0 d ((i : Int) + 1) - 48) (vaF σ0 d ((i : Int) + 2) - 48) (vaF σ0 d ((i : Int) + 3) - 48) = true := by
        by_cases z : okB q (vaF σ0 d (i : Int)) (vaF σ0 d ((i : Int) + 1) - 48) (vaF σ0 d ((i : Int) + 2) - 48) (vaF σ0 d ((i : Int) + 3) - 48) = true
        · exact z
        · rw [if_neg z] at wh2; exact absurd rfl wh2
      refine aw_b kX5_ok bX5_obeyed_91_ok (Cs := []) (pc' := 98) (L' := [some (aR 9 0), some (aI d), some (aR 1 1), some (aI (σ 14 0 d)), some (aI (st + 1)), some (aI (i : Int)), some (aI (vaF σ0 d (i : Int))), some (aI ((vaF σ0 d ((i : Int) + 1)) - 48)), some (aI ((vaF σ0 d ((i : Int) + 2)) - 48)), some (aI ((vaF σ0 d ((i : Int) + 3)) - 48))]) (st' := [aI (vaF σ0 d (i : Int)), aI (i : Int)]) (σ' := τ2) rfl trivial ?_
      refine aw_fS lX5_19 (as := [aI (vaF σ0 d (i : Int))]) (rest := [aI (i : Int)]) (by decide) rfl (Nat.le_of_ble_eq_true rfl) rfl dX5_obeyed_98 (cT_digits l (vaF σ0 d (i : Int)) τ2 bv0) ?_
      refine aw_b kX5_ok bX5_obeyed_101_ok (Cs := []) (pc' := 12) (L' := [some (aR 9 0), some (aI d), some (aR 1 1), some (aI (σ 14 0 d)), some (aI (st + 1)), some (aI ((i : Int) + ((dgF (vaF σ0 d (i : Int))) + 2))), some (aI (vaF σ0 d (i : Int))), some (aI ((vaF σ0 d ((i : Int) + 1)) - 48)), some (aI ((vaF σ0 d ((i : Int) + 2)) - 48)), some (aI ((vaF σ0 d ((i : Int) + 3)) - 48))]) (st' := []) (σ' := τ2) rfl trivial ?_
      refine aw_drop [6, 7, 8, 9] (L' := [some (aR 9 0), some (aI d), some (aR 1 1), some (aI (σ 14 0 d)), some (aI (st + 1)), some (aI ((i : Int) + ((dgF (vaF σ0 d (i : Int))) + 2))), none, none, none, none]) rfl ?_
      have hdo := doS_ok hwq hdq bst.1 bst.2.2.2.1 bst.2.2.2.2.1 bst.2.2.2.2.2 hyes
      have hdp := dgF_rng (vaF σ0 d (i : Int))
      exact aw_eq (L' := [some (aR 9 0), some (aI d), some (aR 1 1), some (aI (σ 14 0 d)), some (aI (st + 1)), some (aI ((i + (dgF (vaF σ0 d (i : Int))).toNat + 2 : Nat) : Int)), none, none, none, none]) (by rw [show (i : Int) + (dgF (vaF σ0 d (i : Int)) + 2) = ((i + (dgF (vaF σ0 d (i : Int))).toNat + 2 : Nat) : Int) by omega]) rfl rfl (ihm (by omega) τ2 (i + (dgF (vaF σ0 d (i : Int))).toNat + 2) (st + 1) _ hdo.1 hdo.2 (hT2 hyes) (aFr_tr hG hF2) (by have z := bst.2.2.1; rw [show (σ0 14 0 d).toNat - i - ((dgF (vaF σ0 d (i : Int))).toNat + 2) = (σ0 14 0 d).toNat - (i + (dgF (vaF σ0 d (i : Int))).toNat + 2) by omega] at z; exact z) (by omega) (by omega) (hB.trans (if_pos hyes)))
    · have hno : ¬ okB q (vaF σ0 d (i : Int)) (vaF σ0 d ((i : Int) + 1) - 48) (vaF σ0 d ((i : Int) + 2) - 48) (vaF σ0 d ((i : Int) + 3) - 48) = true := fun z => by rw [if_pos z] at wh2; exact absurd wh2 (by decide)
      have hC := hB.trans (if_neg hno)
      refine aw_b kX5_ok bX5_obeyed_84_ok (Cs := []) (pc' := 90) (L' := [some (aR 9 0), some (aI d), some (aR 1 1), some (aI (σ 14 0 d)), some (aI st), some (aI (i : Int)), some (aI (vaF σ0 d (i : Int))), some (aI ((vaF σ0 d ((i : Int) + 1)) - 48)), some (aI ((vaF σ0 d ((i : Int) + 2)) - 48)), some (aI ((vaF σ0 d ((i : Int) + 3)) - 48))]) (st' := [aI ((-2000) - (i : Int))]) (σ' := τ2) rfl trivial ?_
      exact aw_iret dX5_obeyed_90 rfl ⟨aret (by rw [hC]), by rw [hC]; show -3000 ≤ -2000 - (i : Int) ∧ -2000 - (i : Int) ≤ 3000; omega, fun z => by rw [hC] at z; have z2 : 0 ≤ -2000 - (i : Int) := z; omega, aFr_tr hG hF2⟩
def oCb (E : Int → Int) (ln : Int) (r : aRw) : Int × aRw := obF E ln ln.toNat 0 0 r
def A_cabinet (r : aRw) (E : Int → Int) (ct so ln d : Int) : Int := if lkF ct d 2 = 0 then (if so = 0 then (if bkF E ln ln.toNat 0 (-1) = -1 then (oCb E ln r).1 else -1000 - bkF E ln ln.toNat 0 (-1)) else -12) else lkF ct d 2
def R_cabinet (r : aRw) (E : Int → Int) (ct so ln d : Int) : aRw := if (lkF ct d 2 = 0 ∧ so = 0 ∧ bkF E ln ln.toNat 0 (-1) = -1) ∧ 0 ≤ (oCb E ln r).1 then (oCb E ln r).2 else r
def CCb : Nat → Nat → Prop := fun t c => Cb 0 t c ∨ CScr t c
def PN (a : Int) (r' : aRw) (σ : aS) : Option aV → aS → Prop := fun v σ' => v = some (aI a) ∧ Rep σ' 0 r' ∧ aFr CCb σ σ'
set_option maxRecDepth 10000 in
theorem cC_cabinet (l : Launch) (d : Int) (σ : aS) (r : aRw) (hR : Rep σ 0 r) (hw : WF r) (hd : r 1 ≤ 999) (hs : SH σ) (hd2 : aIr d) : AM l 7 mX6_cabinet [aR 0 0, aI d] σ (PN (A_cabinet r (vaF σ d) (σ 10 0 d) (σ 13 0 d) (σ 14 0 d) d) (R_cabinet r (vaF σ d) (σ 10 0 d) (σ 13 0 d) (σ 14 0 d) d) σ) := by
  have bn := hw.1
  have en := hR.n
  have b1 := hw.2.1
  have e1 := hR.1.2.1
  have b2 := hw.2.2.1
  have e2 := hR.1.2.2
  refine am_of (by decide) (Nat.le_of_ble_eq_true rfl) (L := [some (aR 0 0), some (aI d), none, none, none]) rfl ?_
  refine aw_b kX6_ok bX6_cabinet_0_ok (Cs := [0 < 1]) (pc' := 5) (L' := [some (aR 0 0), some (aI d), none, none, none]) (st' := [aI d, aR 9 0]) (σ' := σ) rfl (show 0 < 1 from by omega) ?_
  refine aw_fV lX6_54 (as := [aI d]) (rest := []) (t := 9) (c := 0) (by decide) (by decide) (by decide) rfl rfl (Nat.le_of_ble_eq_true rfl) rfl dX6_cabinet_5 (cS_lackOfRow l d σ hs ⟨by omega, by omega⟩) ?_
  have blk := lkF_rng (σ 10 0 d) d 2
  refine aw_b kX6_ok bX6_cabinet_8_ok (Cs := []) (pc' := 10) (L' := [some (aR 0 0), some (aI d), some (aI (lkF (σ 10 0 d) d 2)), none, none]) (st' := [aI (lkF (σ 10 0 d) d 2)]) (σ' := σ) rfl trivial ?_
  refine aw_ieq dX6_cabinet_10 (tgt := 15) (by decide) ⟨by omega, by omega⟩ (fun wh1 => ?_) (fun wh1 => ?_)
  · have hl := lkF_d (show lkF (σ 10 0 d) d 2 = 0 by omega)
    have bs := hs.1 d hl.1.1 hl.1.2
    refine aw_b kX6_ok bX6_cabinet_15_ok (Cs := [0 < 1]) (pc' := 20) (L' := [some (aR 0 0), some (aI d), some (aI (lkF (σ 10 0 d) d 2)), none, none]) (st' := [aI d, aR 9 0]) (σ' := σ) rfl (show 0 < 1 from by omega) ?_
    refine aw_bV lX6_58 (as := [aI d]) (rest := []) (t := 9) (c := 0) (by decide) (by decide) (by decide) rfl rfl (Nat.le_of_ble_eq_true rfl) rfl dX6_cabinet_20 (cS_holdsBytes l d σ hs (by omega) (by omega)) (fun wh2 => ?_) (fun wh2 => ?_)
    · refine aw_ine dX6_cabinet_23 (tgt := 29) (by decide) ⟨by omega, by omega⟩ (fun wh3 => ?_) (fun wh3 => absurd wh3 (by decide))
      refine aw_b kX6_ok bX6_cabinet_29_ok (Cs := [0 < 1]) (pc' := 34) (L' := [some (aR 0 0), some (aI d), some (aI (lkF (σ 10 0 d) d 2)), none, none]) (st' := [aI d, aR 9 0]) (σ' := σ) rfl (show 0 < 1 from by omega) ?_
      refine aw_fS lX6_62 (as := [aR 9 0, aI d]) (rest := []) (by decide) rfl (Nat.le_of_ble_eq_true rfl) rfl dX6_cabinet_34 (cT_broken l d σ hs (by omega) (by omega)) ?_
      have bbk := bkF_rng (vaF σ d) (n := σ 14 0 d) (by omega) (σ 14 0 d).toNat 0 (-1)
      refine aw_b kX6_ok bX6_cabinet_37_ok (Cs := []) (pc' := 40) (L' := [some (aR 0 0), some (aI d), some (aI (lkF (σ 10 0 d) d 2)), some (aI (bkF (vaF σ d) (σ 14 0 d) (σ 14 0 d).toNat 0 (-1))), none]) (st' := [aI (-1), aI (bkF (vaF σ d) (σ 14 0 d) (σ 14 0 d).toNat 0 (-1))]) (σ' := σ) rfl trivial ?_
      refine aw_ceq dX6_cabinet_40 (tgt := 49) (by decide) ⟨by omega, by omega⟩ ⟨by omega, by omega⟩ (fun wh4 => ?_) (fun wh4 => ?_)
      · refine aw_b kX6_ok bX6_cabinet_49_ok (Cs := [0 < 1, 0 < 1]) (pc' := 57) (L' := [some (aR 0 0), some (aI d), some (aI (lkF (σ 10 0 d) d 2)), some (aI (bkF (vaF σ d) (σ 14 0 d) (σ 14 0 d).toNat 0 (-1))), none]) (st' := [aR 1 0, aR 1 1]) (σ' := σ) rfl (show (0 < 1) ∧ (0 < 1) from ⟨by omega, by omega⟩) ?_
        refine aw_callV lX6_68 (as := [aR 1 0]) (rest := []) (t := 1) (c := 1) (by decide) (by decide) (by decide) rfl rfl (Nat.le_of_ble_eq_true rfl) rfl dX6_cabinet_57 (cC_becomes l 0 1 (by decide) (by decide) (by decide) σ r hR hw) ?_
        rintro _ τ1 ⟨rfl, hT1, hF1⟩
        refine aw_b kX6_ok bX6_cabinet_60_ok (Cs := [0 < 1, 0 < 1]) (pc' := 69) (L' := [some (aR 0 0), some (aI d), some (aI (lkF (σ 10 0 d) d 2)), some (aI (bkF (vaF σ d) (σ 14 0 d) (σ 14 0 d).toNat 0 (-1))), none]) (st' := [aR 1 1, aI d, aR 9 0]) (σ' := τ1) rfl (show (0 < 1) ∧ (0 < 1) from ⟨by omega, by omega⟩) ?_
        refine aw_callS lX6_72 (as := [aR 9 0, aI d, aR 1 1]) (rest := []) (by decide) rfl (Nat.le_of_ble_eq_true rfl) rfl dX6_cabinet_69 (cT_obeyed l d σ τ1 hs (shE_fr shE_rf (aFrC hF1)) r hT1 hw hd (by omega) (by omega) (by omega)) ?_
        rintro _ τ2 ⟨rfl, hO1, hO2, hF2⟩
        have eO : (oCb (vaF σ d) (σ 14 0 d) r).1 = (obF (vaF σ d) (σ 14 0 d) (σ 14 0 d).toNat 0 0 r).1 := rfl
        refine aw_b kX6_ok bX6_cabinet_72_ok (Cs := []) (pc' := 76) (L' := [some (aR 0 0), some (aI d), some (aI (lkF (σ 10 0 d) d 2)), some (aI (bkF (vaF σ d) (σ 14 0 d) (σ 14 0 d).toNat 0 (-1))), some (aI ((obF (vaF σ d) (σ 14 0 d) (σ 14 0 d).toNat 0 0 r).1))]) (st' := [aI ((obF (vaF σ d) (σ 14 0 d) (σ 14 0 d).toNat 0 0 r).1)]) (σ' := τ2) rfl trivial ?_
        refine aw_ilt dX6_cabinet_76 (tgt := 90) (by decide) ⟨by omega, by omega⟩ (fun wh5 => ?_) (fun wh5 => ?_)
        · refine aw_b kX6_ok bX6_cabinet_90_ok (Cs := []) (pc' := 92) (L' := [some (aR 0 0), some (aI d), some (aI (lkF (σ 10 0 d) d 2)), some (aI (bkF (vaF σ d) (σ 14 0 d) (σ 14 0 d).toNat 0 (-1))), some (aI ((obF (vaF σ d) (σ 14 0 d) (σ 14 0 d).toNat 0 0 r).1))]) (st' := [aI ((obF (vaF σ d) (σ 14 0 d) (σ 14 0 d).toNat 0 0 r).1)]) (σ' := τ2) rfl trivial ?_
          exact aw_iret dX6_cabinet_92 rfl ⟨aret (by unfold A_cabinet; rw [if_pos (by omega), if_pos (by omega), if_pos (by omega)]; rfl), by unfold R_cabinet; rw [if_neg (fun q => by omega)]; exact hR.scr (by decide) (aFrC (aFr_tr hF1 hF2)), aFr_mono (aFr_tr hF1 hF2) (fun t c q => Or.inr (Or.inl q))⟩
        · refine aw_b kX6_ok bX6_cabinet_79_ok (Cs := [0 < 1, 0 < 1]) (pc' := 87) (L' := [some (aR 0 0), some (aI d), some (aI (lkF (σ 10 0 d) d 2)), some (aI (bkF (vaF σ d) (σ 14 0 d) (σ 14 0 d).toNat 0 (-1))), some (aI ((obF (vaF σ d) (σ 14 0 d) (σ 14 0 d).toNat 0 0 r).1))]) (st' := [aR 1 1, aR 1 0]) (σ' := τ2) rfl (show (0 < 1) ∧ (0 < 1) from ⟨by omega, by omega⟩) ?_
          have hO3 := hO2 (by omega)
          refine aw_callV lX6_68 (as := [aR 1 1]) (rest := []) (t := 1) (c := 0) (by decide) (by decide) (by decide) rfl rfl (Nat.le_of_ble_eq_true rfl) rfl dX6_cabinet_87 (cC_becomes l 1 0 (by decide) (by decide) (by decide) τ2 _ hO3.1 hO3.2.1) ?_
          rintro _ τ3 ⟨rfl, hT3, hF3⟩
          refine aw_b kX6_ok bX6_cabinet_90_ok (Cs := []) (pc' := 92) (L' := [some (aR 0 0), some (aI d), some (aI (lkF (σ 10 0 d) d 2)), some (aI (bkF (vaF σ d) (σ 14 0 d) (σ 14 0 d).toNat 0 (-1))), some (aI ((obF (vaF σ d) (σ 14 0 d) (σ 14 0 d).toNat 0 0 r).1))]) (st' := [aI ((obF (vaF σ d) (σ 14 0 d) (σ 14 0 d).toNat 0 0 r).1)]) (σ' := τ3) rfl trivial ?_
          exact aw_iret dX6_cabinet_92 rfl ⟨aret (by unfold A_cabinet; rw [if_pos (by omega), if_pos (by omega), if_pos (by omega)]; rfl), by unfold R_cabinet; rw [if_pos ⟨⟨by omega, by omega, by omega⟩, by omega⟩]; exact hT3, aFr_tr (aFr_mono (aFr_tr hF1 hF2) (fun t c q => Or.inr (Or.inl q))) (aFr_mono hF3 (fun t c q => Or.inl q))⟩
      · refine aw_b kX6_ok bX6_cabinet_43_ok (Cs := []) (pc' := 48) (L' := [some (aR 0 0), some (aI d), some (aI (lkF (σ 10 0 d) d 2)), some (aI (bkF (vaF σ d) (σ 14 0 d) (σ 14 0 d).toNat 0 (-1))), none]) (st' := [aI ((-1000) - (bkF (vaF σ d) (σ 14 0 d) (σ 14 0 d).toNat 0 (-1)))]) (σ' := σ) rfl trivial ?_
        exact aw_iret dX6_cabinet_48 rfl ⟨aret (by unfold A_cabinet; rw [if_pos (by omega), if_pos (by omega), if_neg (by omega)]), by unfold R_cabinet; rw [if_neg (by omega)]; exact hR, aFr_rf⟩
    · refine aw_ine dX6_cabinet_23 (tgt := 29) (by decide) ⟨by omega, by omega⟩ (fun wh6 => absurd wh6 (by decide)) (fun wh6 => ?_)
      refine aw_b kX6_ok bX6_cabinet_26_ok (Cs := []) (pc' := 28) (L' := [some (aR 0 0), some (aI d), some (aI (lkF (σ 10 0 d) d 2)), none, none]) (st' := [aI (-12)]) (σ' := σ) rfl trivial ?_
      exact aw_iret dX6_cabinet_28 rfl ⟨aret (by unfold A_cabinet; rw [if_pos (by omega), if_neg (by omega)]), by unfold R_cabinet; rw [if_neg (by omega)]; exact hR, aFr_rf⟩
  · refine aw_b kX6_ok bX6_cabinet_13_ok (Cs := []) (pc' := 14) (L' := [some (aR 0 0), some (aI d), some (aI (lkF (σ 10 0 d) d 2)), none, none]) (st' := [aI (lkF (σ 10 0 d) d 2)]) (σ' := σ) rfl trivial ?_
    exact aw_iret dX6_cabinet_14 rfl ⟨aret (by unfold A_cabinet; rw [if_neg (by omega)]), by unfold R_cabinet; rw [if_neg (by omega)]; exact hR, aFr_rf⟩
