/-! ===== the model: two, told lists, scandals, years ===== -/
theorem emR_hold {r : aRw} {p : Int} (h : 0 ≤ off r p) : emR r (nb (off r p)) = rUp r (8 + off r p) (-4) := by
  have b := off_rng r p
  have e : nb (off r p) = off r p := by unfold nb; rw [if_neg (by omega)]
  rw [e]
  unfold emR
  rw [if_pos ⟨h, by omega⟩]
theorem tw0_off {r : aRw} (hw : WF r) {a b : Int} (x : Int) (ha : 0 ≤ off r a) (hb : 0 ≤ off r b) (hab : a ≠ b) (b0 : 0 ≤ b) : 0 ≤ off (tw0 r a x) b := by
  unfold tw0
  split
  · have ra := off_rng r a
    rw [show nb (off r a) = off r a by unfold nb; rw [if_neg (by omega)], emR_off hw ⟨ha, by omega⟩ b0]
    rcases off_cases r a with q | q
    · omega
    · rw [if_neg (by rw [q.2.2]; exact fun z => hab z.symm)]; exact hb
  · exact hb
def mFr (σ σ' : aS) : Prop := ∀ (t c : Nat) (i : Int), ¬ ((t = 22 ∧ (c = 1 ∨ c = 3) ∧ 0 ≤ i ∧ i < 45) ∨ (t = 23 ∨ t = 24 ∨ t = 25) ∨ (t = 21 ∧ (i = 5 ∨ i = 6 ∨ i = 7 ∨ i = 11))) → σ' t c i = σ t c i
theorem mFr_rf {σ : aS} : mFr σ σ := fun _ _ _ _ => rfl
theorem mFr_tr {σ σ' σ'' : aS} (h : mFr σ σ') (h' : mFr σ' σ'') : mFr σ σ'' := fun t c i hn => (h' t c i hn).trans (h t c i hn)
theorem mFr_row {σ : aS} {X : aRw} {c : Nat} (hc : c = 1 ∨ c = 3) (hz : OZ (σ 22 c)) (hX : OZ X) : mFr σ (aRow σ c X) := fun t c' i hn => by
  unfold aRow
  split
  · rename_i h
    obtain ⟨rfl, rfl⟩ := h
    by_cases hi : 0 ≤ i ∧ i < 45
    · exact absurd (Or.inl ⟨rfl, hc, hi⟩) hn
    · rw [hX i (by omega), hz i (by omega)]
  · rfl
theorem mFr_21 {σ : aS} {c : Nat} {i x : Int} (h : i = 5 ∨ i = 6 ∨ i = 7 ∨ i = 11) : mFr σ (aUp σ 21 c i x) := fun t c' j hn => by
  unfold aUp
  split
  · rename_i q
    exact absurd (Or.inr (Or.inr ⟨q.1, by rw [q.2.2]; exact h⟩)) hn
  · rfl
theorem mFr_t {σ : aS} {t c : Nat} {i x : Int} (h : t = 23 ∨ t = 24 ∨ t = 25) : mFr σ (aUp σ t c i x) := fun t' c' j hn => by
  unfold aUp
  split
  · rename_i q
    exact absurd (Or.inr (Or.inl (by rw [q.1]; exact h))) hn
  · rfl
theorem mFr.s {σ σ' : aS} (h : mFr σ σ') : σ' 22 0 = σ 22 0 := by
  funext i
  exact h 22 0 i (fun q => by omega)
theorem mFr.oz {σ σ' : aS} (h : mFr σ σ') {c : Nat} (hz : OZ (σ 22 c)) : OZ (σ' 22 c) := fun i hi => by
  rw [h 22 c i (fun q => by omega)]
  exact hz i hi
def QM (a : Int) (σ : aS) : Option aV → aS → Prop := fun v σ' => v = some (aI a) ∧ mFr σ σ'
def QML (a : Int) (σ : aS) : Option aV → aS → Prop := fun v σ' => v = some (aL a) ∧ mFr σ σ'
theorem QR.m {a : Int} {σ : aS} (hz : OZ (σ 22 1)) {v : Option aV} {σ' : aS} (h : QR a σ v σ') : QM a σ v σ' := by
  obtain ⟨h1, X, h2, h3⟩ := h
  exact ⟨h1, by rw [h3]; exact mFr_row (Or.inl rfl) hz h2⟩
theorem QRL.m {a : Int} {σ : aS} (hz : OZ (σ 22 1)) {v : Option aV} {σ' : aS} (h : QRL a σ v σ') : QML a σ v σ' := by
  obtain ⟨h1, X, h2, h3⟩ := h
  exact ⟨h1, by rw [h3]; exact mFr_row (Or.inl rfl) hz h2⟩
theorem aUp_t {σ : aS} {t c t' c' : Nat} {i x : Int} (h : t' ≠ t) : aUp σ t c i x t' c' = σ t' c' := by
  funext j
  exact aUp_tag h
set_option maxRecDepth 10000 in
theorem cM_hasBy (l : Launch) (q a x b y n : Int) (σ τ0 : aS) (X : aRw) (h00 : τ0 = aRow σ 1 X) (hz : OZ X) (hw : WF (σ 22 0)) (hd : σ 22 0 1 ≤ 999) (q0 : 0 ≤ q) (q1 : q < σ 22 0 0) (a0 : 0 ≤ a) (a1 : a < σ 22 0 0) (c0 : 0 ≤ b) (c1 : b < σ 22 0 0) (hab : a ≠ b) (ha0 : 0 ≤ off (σ 22 0) a) (hb0 : 0 ≤ off (σ 22 0) b) (hx : x = 0 ∨ x = 1) (hy : y = 0 ∨ y = 1) (h0 : 1 ≤ n) (h1 : n ≤ 30) : AM l 4 mX7_hasBy [aR 21 0, aI q, aI a, aI x, aI b, aI y, aI n] τ0 ((fun v σ' => v = some (aI (haF (twR (σ 22 0) a b x y) q n.toNat)) ∧ ∃ Y : aRw, WF Y ∧ σ' = aRow σ 1 Y)) := by
  have bn := hw.1
  have hwT := twR_wf hw a b x y
  have e0T : (twR (σ 22 0) a b x y) 0 = σ 22 0 0 := twR_at _ _ _ _ _ (by omega)
  have e1T : (twR (σ 22 0) a b x y) 1 = σ 22 0 1 := twR_at _ _ _ _ _ (by omega)
  have hw0 := tw0_wf hw a x
  have hbA : 0 ≤ off (tw0 (σ 22 0) a x) b := tw0_off hw x ha0 hb0 hab c0
  refine am_of (by decide) (Nat.le_of_ble_eq_true rfl) (L := [some (aR 21 0), some (aI q), some (aI a), some (aI x), some (aI b), some (aI y), some (aI n), none, none]) rfl ?_
  refine aw_b kX7_ok bX7_hasBy_0_ok (Cs := [0 < 1, 0 < 1]) (pc' := 8) (L' := [some (aR 21 0), some (aI q), some (aI a), some (aI x), some (aI b), some (aI y), some (aI n), none, none]) (st' := [aR 22 1, aR 22 0]) (σ' := τ0) rfl (show (0 < 1) ∧ (0 < 1) from ⟨by omega, by omega⟩) ?_
  refine aw_callS lX7_145 (as := [aR 22 0, aR 22 1]) (rest := []) (by decide) rfl (Nat.le_of_ble_eq_true rfl) rfl dX7_hasBy_8 (cM_cpS l σ τ0 _ h00 hw hz) ?_
  rintro _ τ1 ⟨rfl, hτ1⟩
  have m1 := (rS hτ1).1
  have s1 := (rS hτ1).2
  refine aw_b kX7_ok bX7_hasBy_11_ok (Cs := []) (pc' := 12) (L' := [some (aR 21 0), some (aI q), some (aI a), some (aI x), some (aI b), some (aI y), some (aI n), none, none]) (st' := [aI x]) (σ' := τ1) rfl trivial ?_
  refine aw_ine dX7_hasBy_12 (tgt := 33) (by decide) ⟨by omega, by omega⟩ (fun wh1 => ?_) (fun wh1 => ?_)
  · have hτA : τ1 = aRow σ 1 (tw0 (σ 22 0) a x) := by rw [hτ1]; unfold tw0; rw [if_neg (by omega)]
    have mA := (rS hτA).1
    refine aw_b kX7_ok bX7_hasBy_33_ok (Cs := []) (pc' := 35) (L' := [some (aR 21 0), some (aI q), some (aI a), some (aI x), some (aI b), some (aI y), some (aI n), none, none]) (st' := [aI y]) (σ' := τ1) rfl trivial ?_
    refine aw_ine dX7_hasBy_35 (tgt := 57) (by decide) ⟨by omega, by omega⟩ (fun wh2 => ?_) (fun wh2 => ?_)
    · have hτB : τ1 = aRow σ 1 (twR (σ 22 0) a b x y) := by rw [hτA]; unfold twR; rw [tw0.eq_def (tw0 (σ 22 0) a x) b y, if_neg (by omega)]
      have mB := (rS hτB).1
      refine aw_b kX7_ok bX7_hasBy_57_ok (Cs := []) (pc' := 63) (L' := [some (aR 21 0), some (aI q), some (aI a), some (aI x), some (aI b), some (aI y), some (aI n), some (aI 0), some (aI 0)]) (st' := []) (σ' := τ1) rfl trivial ?_
      refine aloop (P := fun i : Nat => ∀ (τ : aS) (hτ : τ = aRow σ 1 (dysR (twR (σ 22 0) a b x y) i)), AW l 4 mX7_hasBy _ 63 [some (aR 21 0), some (aI q), some (aI a), some (aI x), some (aI b), some (aI y), some (aI n), some (aI (dvN (twR (σ 22 0) a b x y) q i)), some (aI (i : Int))] [] τ) n.toNat (fun i hi ihi τ hτ => ?_) τ1 hτB
      have m := (rS hτ).1
      have wX := dysR_wf hwT i
      have eX := dysR_0 (twR (σ 22 0) a b x y) i
      have gv := dvN_rng (twR (σ 22 0) a b x y) q i
      refine aw_b kX7_ok bX7_hasBy_63_ok (Cs := []) (pc' := 67) (L' := [some (aR 21 0), some (aI q), some (aI a), some (aI x), some (aI b), some (aI y), some (aI n), some (aI (dvN (twR (σ 22 0) a b x y) q i)), some (aI (i : Int))]) (st' := [aI n, aI (i : Int)]) (σ' := τ) rfl trivial ?_
      refine aw_cge dX7_hasBy_67 (tgt := 104) (by decide) ⟨by omega, by omega⟩ ⟨by omega, by omega⟩ (fun wh3 => ?_) (fun wh3 => ?_)
      · have ei : i = n.toNat := by omega
        have ba := aOf_rng (p := q) (w := 2) (by omega) (by omega) (by decide) (by decide)
        have bq := wX.pe (p := q) (by omega) (by omega)
        have eq9 : τ 22 1 (aOf q 2) = dysR (twR (σ 22 0) a b x y) i (aOf q 2) := by rw [m]
        refine aw_b kX7_ok bX7_hasBy_104_ok (Cs := [0 < 1]) (pc' := 112) (L' := [some (aR 21 0), some (aI q), some (aI a), some (aI x), some (aI b), some (aI y), some (aI n), some (aI (dvN (twR (σ 22 0) a b x y) q i)), some (aI (i : Int))]) (st' := [aI 2, aI q, aR 22 1, aI (dvN (twR (σ 22 0) a b x y) q i)]) (σ' := τ) rfl (show 0 < 1 from by omega) ?_
        refine aw_fS lX7_57 (as := [aI q, aI 2]) (rest := [aR 22 1, aI (dvN (twR (σ 22 0) a b x y) q i)]) (by decide) rfl (Nat.le_of_ble_eq_true rfl) rfl dX7_hasBy_112 (cM_of l q 2 τ) ?_
        refine aw_b kX7_ok bX7_hasBy_115_ok (Cs := [1 < 4, 0 ≤ aOf q 2 ∧ aOf q 2 < 45, -2147483648 ≤ τ 22 1 (aOf q 2) ∧ τ 22 1 (aOf q 2) < 2147483648, 0 < 10 ∧ 10 < 2147483648]) (pc' := 120) (L' := [some (aR 21 0), some (aI q), some (aI a), some (aI x), some (aI b), some (aI y), some (aI n), some (aI (dvN (twR (σ 22 0) a b x y) q i)), some (aI (i : Int))]) (st' := [aI ((dvN (twR (σ 22 0) a b x y) q i) - (Int.tdiv (τ 22 1 (aOf q 2)) 10))]) (σ' := τ) rfl (show (1 < 4) ∧ (0 ≤ aOf q 2 ∧ aOf q 2 < 45) ∧ (-2147483648 ≤ τ 22 1 (aOf q 2) ∧ τ 22 1 (aOf q 2) < 2147483648) ∧ (0 < 10 ∧ 10 < 2147483648) from ⟨by omega, by omega, by omega, by omega⟩) ?_
        exact aw_iret dX7_hasBy_120 rfl ⟨aret (by rw [eq9, ← ei]; rfl), ⟨_, wX, hτ⟩⟩
      · refine aw_b kX7_ok bX7_hasBy_70_ok (Cs := [0 < 1]) (pc' := 74) (L' := [some (aR 21 0), some (aI q), some (aI a), some (aI x), some (aI b), some (aI y), some (aI n), some (aI (dvN (twR (σ 22 0) a b x y) q i)), some (aI (i : Int))]) (st' := [aR 22 1]) (σ' := τ) rfl (show 0 < 1 from by omega) ?_
        refine aw_callS lX7_95 (as := [aR 22 1]) (rest := []) (by decide) rfl (Nat.le_of_ble_eq_true rfl) rfl dX7_hasBy_74 (cM_dayS l σ τ _ hτ wX (by omega)) ?_
        rintro _ τ9 ⟨rfl, hτ9⟩
        have hτ9r : τ9 = aRow σ 1 (dysR (twR (σ 22 0) a b x y) (i + 1)) := hτ9
        have m9 := (rS hτ9r).1
        have w9 := dysR_wf hwT (i + 1)
        refine aw_b kX7_ok bX7_hasBy_77_ok (Cs := [0 < 1]) (pc' := 84) (L' := [some (aR 21 0), some (aI q), some (aI a), some (aI x), some (aI b), some (aI y), some (aI n), some (aI (dvN (twR (σ 22 0) a b x y) q i)), some (aI (i : Int))]) (st' := [aI q, aR 22 1, aI (dvN (twR (σ 22 0) a b x y) q i)]) (σ' := τ9) rfl (show 0 < 1 from by omega) ?_
        have hofq := cM_officeOf l 1 (by decide) q τ9 ⟨by omega, by omega⟩ (by rw [m9]; exact w9)
        rw [m9] at hofq
        have boq := off_rng (dysR (twR (σ 22 0) a b x y) (i + 1)) q
        refine aw_fS lX7_64 (as := [aR 22 1, aI q]) (rest := [aI (dvN (twR (σ 22 0) a b x y) q i)]) (by decide) rfl (Nat.le_of_ble_eq_true rfl) rfl dX7_hasBy_84 (hofq) ?_
        refine aw_ige dX7_hasBy_87 (tgt := 94) (by decide) ⟨by omega, by omega⟩ (fun wh4 => ?_) (fun wh4 => ?_)
        · refine aw_b kX7_ok bX7_hasBy_94_ok (Cs := []) (pc' := 95) (L' := [some (aR 21 0), some (aI q), some (aI a), some (aI x), some (aI b), some (aI y), some (aI n), some (aI (dvN (twR (σ 22 0) a b x y) q i)), some (aI (i : Int))]) (st' := [aI 1, aI (dvN (twR (σ 22 0) a b x y) q i)]) (σ' := τ9) rfl trivial ?_
          refine aw_b kX7_ok bX7_hasBy_95_ok (Cs := []) (pc' := 63) (L' := [some (aR 21 0), some (aI q), some (aI a), some (aI x), some (aI b), some (aI y), some (aI n), some (aI ((dvN (twR (σ 22 0) a b x y) q i) + 1)), some (aI ((i : Int) + 1))]) (st' := []) (σ' := τ9) rfl trivial ?_
          have e1 : dvN (twR (σ 22 0) a b x y) q i + 1 = dvN (twR (σ 22 0) a b x y) q (i + 1) := by rw [dvN, if_neg (by omega)]
          exact aw_eq (by rw [e1]; rfl) rfl rfl (ihi (by omega) τ9 hτ9r)
        · refine aw_b kX7_ok bX7_hasBy_90_ok (Cs := []) (pc' := 95) (L' := [some (aR 21 0), some (aI q), some (aI a), some (aI x), some (aI b), some (aI y), some (aI n), some (aI (dvN (twR (σ 22 0) a b x y) q i)), some (aI (i : Int))]) (st' := [aI 0, aI (dvN (twR (σ 22 0) a b x y) q i)]) (σ' := τ9) rfl trivial ?_
          refine aw_b kX7_ok bX7_hasBy_95_ok (Cs := []) (pc' := 63) (L' := [some (aR 21 0), some (aI q), some (aI a), some (aI x), some (aI b), some (aI y), some (aI n), some (aI ((dvN (twR (σ 22 0) a b x y) q i) + 0)), some (aI ((i : Int) + 1))]) (st' := []) (σ' := τ9) rfl trivial ?_
          have e1 : dvN (twR (σ 22 0) a b x y) q i + 0 = dvN (twR (σ 22 0) a b x y) q (i + 1) := by rw [dvN, if_pos (by omega)]
          exact aw_eq (by rw [e1]; rfl) rfl rfl (ihi (by omega) τ9 hτ9r)
    · refine aw_b kX7_ok bX7_hasBy_38_ok (Cs := [0 < 1, 0 < 1]) (pc' := 50) (L' := [some (aR 21 0), some (aI q), some (aI a), some (aI x), some (aI b), some (aI y), some (aI n), none, none]) (st' := [aI b, aR 22 1, aI 8, aR 22 1]) (σ' := τ1) rfl (show (0 < 1) ∧ (0 < 1) from ⟨by omega, by omega⟩) ?_
      have hofb := cM_officeOf l 1 (by decide) b τ1 ⟨by omega, by omega⟩ (by rw [mA]; exact hw0)
      rw [mA] at hofb
      have bob := off_rng (tw0 (σ 22 0) a x) b
      refine aw_fS lX7_64 (as := [aR 22 1, aI b]) (rest := [aI 8, aR 22 1]) (by decide) rfl (Nat.le_of_ble_eq_true rfl) rfl dX7_hasBy_50 (hofb) ?_
      refine aw_b kX7_ok bX7_hasBy_53_ok (Cs := [1 < 4, 0 ≤ 8 + (off (tw0 (σ 22 0) a x) b) ∧ 8 + (off (tw0 (σ 22 0) a x) b) < 45]) (pc' := 57) (L' := [some (aR 21 0), some (aI q), some (aI a), some (aI x), some (aI b), some (aI y), some (aI n), none, none]) (st' := []) (σ' := aUp τ1 22 1 (8 + (off (tw0 (σ 22 0) a x) b)) (-4)) rfl (show (1 < 4) ∧ (0 ≤ 8 + (off (tw0 (σ 22 0) a x) b) ∧ 8 + (off (tw0 (σ 22 0) a x) b) < 45) from ⟨by omega, by omega⟩) ?_
      obtain ⟨τ3, e3⟩ : ∃ τ3, τ3 = aUp τ1 22 1 (8 + (off (tw0 (σ 22 0) a x) b)) (-4) := ⟨_, rfl⟩
      refine aw_eq rfl rfl (σ' := τ3) e3.symm ?_
      have hτ3 := e3.trans (aUp1_row hτA)
      have m3 := (rS hτ3).1
      have s3 := (rS hτ3).2
      have hτB : τ3 = aRow σ 1 (twR (σ 22 0) a b x y) := by rw [hτ3]; unfold twR; rw [tw0.eq_def (tw0 (σ 22 0) a x) b y, if_pos (by omega), emR_hold hbA]
      have mB := (rS hτB).1
      refine aw_b kX7_ok bX7_hasBy_57_ok (Cs := []) (pc' := 63) (L' := [some (aR 21 0), some (aI q), some (aI a), some (aI x), some (aI b), some (aI y), some (aI n), some (aI 0), some (aI 0)]) (st' := []) (σ' := τ3) rfl trivial ?_
      refine aloop (P := fun i : Nat => ∀ (τ : aS) (hτ : τ = aRow σ 1 (dysR (twR (σ 22 0) a b x y) i)), AW l 4 mX7_hasBy _ 63 [some (aR 21 0), some (aI q), some (aI a), some (aI x), some (aI b), some (aI y), some (aI n), some (aI (dvN (twR (σ 22 0) a b x y) q i)), some (aI (i : Int))] [] τ) n.toNat (fun i hi ihi τ hτ => ?_) τ3 hτB
      have m := (rS hτ).1
      have wX := dysR_wf hwT i
      have eX := dysR_0 (twR (σ 22 0) a b x y) i
      have gv := dvN_rng (twR (σ 22 0) a b x y) q i
      refine aw_b kX7_ok bX7_hasBy_63_ok (Cs := []) (pc' := 67) (L' := [some (aR 21 0), some (aI q), some (aI a), some (aI x), some (aI b), some (aI y), some (aI n), some (aI (dvN (twR (σ 22 0) a b x y) q i)), some (aI (i : Int))]) (st' := [aI n, aI (i : Int)]) (σ' := τ) rfl trivial ?_
      refine aw_cge dX7_hasBy_67 (tgt := 104) (by decide) ⟨by omega, by omega⟩ ⟨by omega, by omega⟩ (fun wh5 => ?_) (fun wh5 => ?_)
      · have ei : i = n.toNat := by omega
        have ba := aOf_rng (p := q) (w := 2) (by omega) (by omega) (by decide) (by decide)
        have bq := wX.pe (p := q) (by omega) (by omega)
        have eq9 : τ 22 1 (aOf q 2) = dysR (twR (σ 22 0) a b x y) i (aOf q 2) := by rw [m]
        refine aw_b kX7_ok bX7_hasBy_104_ok (Cs := [0 < 1]) (pc' := 112) (L' := [some (aR 21 0), some (aI q), some (aI a), some (aI x), some (aI b), some (aI y), some (aI n), some (aI (dvN (twR (σ 22 0) a b x y) q i)), some (aI (i : Int))]) (st' := [aI 2, aI q, aR 22 1, aI (dvN (twR (σ 22 0) a b x y) q i)]) (σ' := τ) rfl (show 0 < 1 from by omega) ?_
        refine aw_fS lX7_57 (as := [aI q, aI 2]) (rest := [aR 22 1, aI (dvN (twR (σ 22 0) a b x y) q i)]) (by decide) rfl (Nat.le_of_ble_eq_true rfl) rfl dX7_hasBy_112 (cM_of l q 2 τ) ?_
        refine aw_b kX7_ok bX7_hasBy_115_ok (Cs := [1 < 4, 0 ≤ aOf q 2 ∧ aOf q 2 < 45, -2147483648 ≤ τ 22 1 (aOf q 2) ∧ τ 22 1 (aOf q 2) < 2147483648, 0 < 10 ∧ 10 < 2147483648]) (pc' := 120) (L' := [some (aR 21 0), some (aI q), some (aI a), some (aI x), some (aI b), some (aI y), some (aI n), some (aI (dvN (twR (σ 22 0) a b x y) q i)), some (aI (i : Int))]) (st' := [aI ((dvN (twR (σ 22 0) a b x y) q i) - (Int.tdiv (τ 22 1 (aOf q 2)) 10))]) (σ' := τ) rfl (show (1 < 4) ∧ (0 ≤ aOf q 2 ∧ aOf q 2 < 45) ∧ (-2147483648 ≤ τ 22 1 (aOf q 2) ∧ τ 22 1 (aOf q 2) < 2147483648) ∧ (0 < 10 ∧ 10 < 2147483648) from ⟨by omega, by omega, by omega, by omega⟩) ?_
        exact aw_iret dX7_hasBy_120 rfl ⟨aret (by rw [eq9, ← ei]; rfl), ⟨_, wX, hτ⟩⟩
      · refine aw_b kX7_ok bX7_hasBy_70_ok (Cs := [0 < 1]) (pc' := 74) (L' := [some (aR 21 0), some (aI q), some (aI a), some (aI x), some (aI b), some (aI y), some (aI n), some (aI (dvN (twR (σ 22 0) a b x y) q i)), some (aI (i : Int))]) (st' := [aR 22 1]) (σ' := τ) rfl (show 0 < 1 from by omega) ?_
        refine aw_callS lX7_95 (as := [aR 22 1]) (rest := []) (by decide) rfl (Nat.le_of_ble_eq_true rfl) rfl dX7_hasBy_74 (cM_dayS l σ τ _ hτ wX (by omega)) ?_
        rintro _ τ9 ⟨rfl, hτ9⟩
        have hτ9r : τ9 = aRow σ 1 (dysR (twR (σ 22 0) a b x y) (i + 1)) := hτ9
        have m9 := (rS hτ9r).1
        have w9 := dysR_wf hwT (i + 1)
        refine aw_b kX7_ok bX7_hasBy_77_ok (Cs := [0 < 1]) (pc' := 84) (L' := [some (aR 21 0), some (aI q), some (aI a), some (aI x), some (aI b), some (aI y), some (aI n), some (aI (dvN (twR (σ 22 0) a b x y) q i)), some (aI (i : Int))]) (st' := [aI q, aR 22 1, aI (dvN (twR (σ 22 0) a b x y) q i)]) (σ' := τ9) rfl (show 0 < 1 from by omega) ?_
        have hofq := cM_officeOf l 1 (by decide) q τ9 ⟨by omega, by omega⟩ (by rw [m9]; exact w9)
        rw [m9] at hofq
        have boq := off_rng (dysR (twR (σ 22 0) a b x y) (i + 1)) q
        refine aw_fS lX7_64 (as := [aR 22 1, aI q]) (rest := [aI (dvN (twR (σ 22 0) a b x y) q i)]) (by decide) rfl (Nat.le_of_ble_eq_true rfl) rfl dX7_hasBy_84 (hofq) ?_
        refine aw_ige dX7_hasBy_87 (tgt := 94) (by decide) ⟨by omega, by omega⟩ (fun wh6 => ?_) (fun wh6 => ?_)
        · refine aw_b kX7_ok bX7_hasBy_94_ok (Cs := []) (pc' := 95) (L' := [some (aR 21 0), some (aI q), some (aI a), some (aI x), some (aI b), some (aI y), some (aI n), some (aI (dvN (twR (σ 22 0) a b x y) q i)), some (aI (i : Int))]) (st' := [aI 1, aI (dvN (twR (σ 22 0) a b x y) q i)]) (σ' := τ9) rfl trivial ?_
          refine aw_b kX7_ok bX7_hasBy_95_ok (Cs := []) (pc' := 63) (L' := [some (aR 21 0), some (aI q), some (aI a), some (aI x), some (aI b), some (aI y), some (aI n), some (aI ((dvN (twR (σ 22 0) a b x y) q i) + 1)), some (aI ((i : Int) + 1))]) (st' := []) (σ' := τ9) rfl trivial ?_
          have e1 : dvN (twR (σ 22 0) a b x y) q i + 1 = dvN (twR (σ 22 0) a b x y) q (i + 1) := by rw [dvN, if_neg (by omega)]
          exact aw_eq (by rw [e1]; rfl) rfl rfl (ihi (by omega) τ9 hτ9r)
        · refine aw_b kX7_ok bX7_hasBy_90_ok (Cs := []) (pc' := 95) (L' := [some (aR 21 0), some (aI q), some (aI a), some (aI x), some (aI b), some (aI y), some (aI n), some (aI (dvN (twR (σ 22 0) a b x y) q i)), some (aI (i : Int))]) (st' := [aI 0, aI (dvN (twR (σ 22 0) a b x y) q i)]) (σ' := τ9) rfl trivial ?_
          refine aw_b kX7_ok bX7_hasBy_95_ok (Cs := []) (pc' := 63) (L' := [some (aR 21 0), some (aI q), some (aI a), some (aI x), some (aI b), some (aI y), some (aI n), some (aI ((dvN (twR (σ 22 0) a b x y) q i) + 0)), some (aI ((i : Int) + 1))]) (st' := []) (σ' := τ9) rfl trivial ?_
          have e1 : dvN (twR (σ 22 0) a b x y) q i + 0 = dvN (twR (σ 22 0) a b x y) q (i + 1) := by rw [dvN, if_pos (by omega)]
          exact aw_eq (by rw [e1]; rfl) rfl rfl (ihi (by omega) τ9 hτ9r)
  · refine aw_b kX7_ok bX7_hasBy_15_ok (Cs := [0 < 1, 0 < 1]) (pc' := 26) (L' := [some (aR 21 0), some (aI q), some (aI a), some (aI x), some (aI b), some (aI y), some (aI n), none, none]) (st' := [aI a, aR 22 1, aI 8, aR 22 1]) (σ' := τ1) rfl (show (0 < 1) ∧ (0 < 1) from ⟨by omega, by omega⟩) ?_
    have hofa := cM_officeOf l 1 (by decide) a τ1 ⟨by omega, by omega⟩ (by rw [m1]; exact hw)
    rw [m1] at hofa
    have boa := off_rng (σ 22 0) a
    refine aw_fS lX7_64 (as := [aR 22 1, aI a]) (rest := [aI 8, aR 22 1]) (by decide) rfl (Nat.le_of_ble_eq_true rfl) rfl dX7_hasBy_26 (hofa) ?_
    refine aw_b kX7_ok bX7_hasBy_29_ok (Cs := [1 < 4, 0 ≤ 8 + (off (σ 22 0) a) ∧ 8 + (off (σ 22 0) a) < 45]) (pc' := 33) (L' := [some (aR 21 0), some (aI q), some (aI a), some (aI x), some (aI b), some (aI y), some (aI n), none, none]) (st' := []) (σ' := aUp τ1 22 1 (8 + (off (σ 22 0) a)) (-4)) rfl (show (1 < 4) ∧ (0 ≤ 8 + (off (σ 22 0) a) ∧ 8 + (off (σ 22 0) a) < 45) from ⟨by omega, by omega⟩) ?_
    obtain ⟨τ2, e2⟩ : ∃ τ2, τ2 = aUp τ1 22 1 (8 + (off (σ 22 0) a)) (-4) := ⟨_, rfl⟩
    refine aw_eq rfl rfl (σ' := τ2) e2.symm ?_
    have hτ2 := e2.trans (aUp1_row hτ1)
    have m2 := (rS hτ2).1
    have s2 := (rS hτ2).2
    have hτA : τ2 = aRow σ 1 (tw0 (σ 22 0) a x) := by rw [hτ2]; unfold tw0; rw [if_pos (by omega), emR_hold ha0]
    have mA := (rS hτA).1
    refine aw_b kX7_ok bX7_hasBy_33_ok (Cs := []) (pc' := 35) (L' := [some (aR 21 0), some (aI q), some (aI a), some (aI x), some (aI b), some (aI y), some (aI n), none, none]) (st' := [aI y]) (σ' := τ2) rfl trivial ?_
    refine aw_ine dX7_hasBy_35 (tgt := 57) (by decide) ⟨by omega, by omega⟩ (fun wh7 => ?_) (fun wh7 => ?_)
    · have hτB : τ2 = aRow σ 1 (twR (σ 22 0) a b x y) := by rw [hτA]; unfold twR; rw [tw0.eq_def (tw0 (σ 22 0) a x) b y, if_neg (by omega)]
      have mB := (rS hτB).1
      refine aw_b kX7_ok bX7_hasBy_57_ok (Cs := []) (pc' := 63) (L' := [some (aR 21 0), some (aI q), some (aI a), some (aI x), some (aI b), some (aI y), some (aI n), some (aI 0), some (aI 0)]) (st' := []) (σ' := τ2) rfl trivial ?_
      refine aloop (P := fun i : Nat => ∀ (τ : aS) (hτ : τ = aRow σ 1 (dysR (twR (σ 22 0) a b x y) i)), AW l 4 mX7_hasBy _ 63 [some (aR 21 0), some (aI q), some (aI a), some (aI x), some (aI b), some (aI y), some (aI n), some (aI (dvN (twR (σ 22 0) a b x y) q i)), some (aI (i : Int))] [] τ) n.toNat (fun i hi ihi τ hτ => ?_) τ2 hτB
      have m := (rS hτ).1
      have wX := dysR_wf hwT i
      have eX := dysR_0 (twR (σ 22 0) a b x y) i
      have gv := dvN_rng (twR (σ 22 0) a b x y) q i
      refine aw_b kX7_ok bX7_hasBy_63_ok (Cs := []) (pc' := 67) (L' := [some (aR 21 0), some (aI q), some (aI a), some (aI x), some (aI b), some (aI y), some (aI n), some (aI (dvN (twR (σ 22 0) a b x y) q i)), some (aI (i : Int))]) (st' := [aI n, aI (i : Int)]) (σ' := τ) rfl trivial ?_
      refine aw_cge dX7_hasBy_67 (tgt := 104) (by decide) ⟨by omega, by omega⟩ ⟨by omega, by omega⟩ (fun wh8 => ?_) (fun wh8 => ?_)
      · have ei : i = n.toNat := by omega
        have ba := aOf_rng (p := q) (w := 2) (by omega) (by omega) (by decide) (by decide)
        have bq := wX.pe (p := q) (by omega) (by omega)
        have eq9 : τ 22 1 (aOf q 2) = dysR (twR (σ 22 0) a b x y) i (aOf q 2) := by rw [m]
        refine aw_b kX7_ok bX7_hasBy_104_ok (Cs := [0 < 1]) (pc' := 112) (L' := [some (aR 21 0), some (aI q), some (aI a), some (aI x), some (aI b), some (aI y), some (aI n), some (aI (dvN (twR (σ 22 0) a b x y) q i)), some (aI (i : Int))]) (st' := [aI 2, aI q, aR 22 1, aI (dvN (twR (σ 22 0) a b x y) q i)]) (σ' := τ) rfl (show 0 < 1 from by omega) ?_
        refine aw_fS lX7_57 (as := [aI q, aI 2]) (rest := [aR 22 1, aI (dvN (twR (σ 22 0) a b x y) q i)]) (by decide) rfl (Nat.le_of_ble_eq_true rfl) rfl dX7_hasBy_112 (cM_of l q 2 τ) ?_
        refine aw_b kX7_ok bX7_hasBy_115_ok (Cs := [1 < 4, 0 ≤ aOf q 2 ∧ aOf q 2 < 45, -2147483648 ≤ τ 22 1 (aOf q 2) ∧ τ 22 1 (aOf q 2) < 2147483648, 0 < 10 ∧ 10 < 2147483648]) (pc' := 120) (L' := [some (aR 21 0), some (aI q), some (aI a), some (aI x), some (aI b), some (aI y), some (aI n), some (aI (dvN (twR (σ 22 0) a b x y) q i)), some (aI (i : Int))]) (st' := [aI ((dvN (twR (σ 22 0) a b x y) q i) - (Int.tdiv (τ 22 1 (aOf q 2)) 10))]) (σ' := τ) rfl (show (1 < 4) ∧ (0 ≤ aOf q 2 ∧ aOf q 2 < 45) ∧ (-2147483648 ≤ τ 22 1 (aOf q 2) ∧ τ 22 1 (aOf q 2) < 2147483648) ∧ (0 < 10 ∧ 10 < 2147483648) from ⟨by omega, by omega, by omega, by omega⟩) ?_
        exact aw_iret dX7_hasBy_120 rfl ⟨aret (by rw [eq9, ← ei]; rfl), ⟨_, wX, hτ⟩⟩
      · refine aw_b kX7_ok bX7_hasBy_70_ok (Cs := [0 < 1]) (pc' := 74) (L' := [some (aR 21 0), some (aI q), some (aI a), some (aI x), some (aI b), some (aI y), some (aI n), some (aI (dvN (twR (σ 22 0) a b x y) q i)), some (aI (i : Int))]) (st' := [aR 22 1]) (σ' := τ) rfl (show 0 < 1 from by omega) ?_
        refine aw_callS lX7_95 (as := [aR 22 1]) (rest := []) (by decide) rfl (Nat.le_of_ble_eq_true rfl) rfl dX7_hasBy_74 (cM_dayS l σ τ _ hτ wX (by omega)) ?_
        rintro _ τ9 ⟨rfl, hτ9⟩
        have hτ9r : τ9 = aRow σ 1 (dysR (twR (σ 22 0) a b x y) (i + 1)) := hτ9
        have m9 := (rS hτ9r).1
        have w9 := dysR_wf hwT (i + 1)
        refine aw_b kX7_ok bX7_hasBy_77_ok (Cs := [0 < 1]) (pc' := 84) (L' := [some (aR 21 0), some (aI q), some (aI a), some (aI x), some (aI b), some (aI y), some (aI n), some (aI (dvN (twR (σ 22 0) a b x y) q i)), some (aI (i : Int))]) (st' := [aI q, aR 22 1, aI (dvN (twR (σ 22 0) a b x y) q i)]) (σ' := τ9) rfl (show 0 < 1 from by omega) ?_
        have hofq := cM_officeOf l 1 (by decide) q τ9 ⟨by omega, by omega⟩ (by rw [m9]; exact w9)
        rw [m9] at hofq
        have boq := off_rng (dysR (twR (σ 22 0) a b x y) (i + 1)) q
        refine aw_fS lX7_64 (as := [aR 22 1, aI q]) (rest := [aI (dvN (twR (σ 22 0) a b x y) q i)]) (by decide) rfl (Nat.le_of_ble_eq_true rfl) rfl dX7_hasBy_84 (hofq) ?_
        refine aw_ige dX7_hasBy_87 (tgt := 94) (by decide) ⟨by omega, by omega⟩ (fun wh9 => ?_) (fun wh9 => ?_)
        · refine aw_b kX7_ok bX7_hasBy_94_ok (Cs := []) (pc' := 95) (L' := [some (aR 21 0), some (aI q), some (aI a), some (aI x), some (aI b), some (aI y), some (aI n), some (aI (dvN (twR (σ 22 0) a b x y) q i)), some (aI (i : Int))]) (st' := [aI 1, aI (dvN (twR (σ 22 0) a b x y) q i)]) (σ' := τ9) rfl trivial ?_
          refine aw_b kX7_ok bX7_hasBy_95_ok (Cs := []) (pc' := 63) (L' := [some (aR 21 0), some (aI q), some (aI a), some (aI x), some (aI b), some (aI y), some (aI n), some (aI ((dvN (twR (σ 22 0) a b x y) q i) + 1)), some (aI ((i : Int) + 1))]) (st' := []) (σ' := τ9) rfl trivial ?_
          have e1 : dvN (twR (σ 22 0) a b x y) q i + 1 = dvN (twR (σ 22 0) a b x y) q (i + 1) := by rw [dvN, if_neg (by omega)]
          exact aw_eq (by rw [e1]; rfl) rfl rfl (ihi (by omega) τ9 hτ9r)
        · refine aw_b kX7_ok bX7_hasBy_90_ok (Cs := []) (pc' := 95) (L' := [some (aR 21 0), some (aI q), some (aI a), some (aI x), some (aI b), some (aI y), some (aI n), some (aI (dvN (twR (σ 22 0) a b x y) q i)), some (aI (i : Int))]) (st' := [aI 0, aI (dvN (twR (σ 22 0) a b x y) q i)]) (σ' := τ9) rfl trivial ?_
          refine aw_b kX7_ok bX7_hasBy_95_ok (Cs := []) (pc' := 63) (L' := [some (aR 21 0), some (aI q), some (aI a), some (aI x), some (aI b), some (aI y), some (aI n), some (aI ((dvN (twR (σ 22 0) a b x y) q i) + 0)), some (aI ((i : Int) + 1))]) (st' := []) (σ' := τ9) rfl trivial ?_
          have e1 : dvN (twR (σ 22 0) a b x y) q i + 0 = dvN (twR (σ 22 0) a b x y) q (i + 1) := by rw [dvN, if_pos (by omega)]
          exact aw_eq (by rw [e1]; rfl) rfl rfl (ihi (by omega) τ9 hτ9r)
    · refine aw_b kX7_ok bX7_hasBy_38_ok (Cs := [0 < 1, 0 < 1]) (pc' := 50) (L' := [some (aR 21 0), some (aI q), some (aI a), some (aI x), some (aI b), some (aI y), some (aI n), none, none]) (st' := [aI b, aR 22 1, aI 8, aR 22 1]) (σ' := τ2) rfl (show (0 < 1) ∧ (0 < 1) from ⟨by omega, by omega⟩) ?_
      have hofb := cM_officeOf l 1 (by decide) b τ2 ⟨by omega, by omega⟩ (by rw [mA]; exact hw0)
      rw [mA] at hofb
      have bob := off_rng (tw0 (σ 22 0) a x) b
      refine aw_fS lX7_64 (as := [aR 22 1, aI b]) (rest := [aI 8, aR 22 1]) (by decide) rfl (Nat.le_of_ble_eq_true rfl) rfl dX7_hasBy_50 (hofb) ?_
      refine aw_b kX7_ok bX7_hasBy_53_ok (Cs := [1 < 4, 0 ≤ 8 + (off (tw0 (σ 22 0) a x) b) ∧ 8 + (off (tw0 (σ 22 0) a x) b) < 45]) (pc' := 57) (L' := [some (aR 21 0), some (aI q), some (aI a), some (aI x), some (aI b), some (aI y), some (aI n), none, none]) (st' := []) (σ' := aUp τ2 22 1 (8 + (off (tw0 (σ 22 0) a x) b)) (-4)) rfl (show (1 < 4) ∧ (0 ≤ 8 + (off (tw0 (σ 22 0) a x) b) ∧ 8 + (off (tw0 (σ 22 0) a x) b) < 45) from ⟨by omega, by omega⟩) ?_
      obtain ⟨τ3, e3⟩ : ∃ τ3, τ3 = aUp τ2 22 1 (8 + (off (tw0 (σ 22 0) a x) b)) (-4) := ⟨_, rfl⟩
      refine aw_eq rfl rfl (σ' := τ3) e3.symm ?_
      have hτ3 := e3.trans (aUp1_row hτA)
      have m3 := (rS hτ3).1
      have s3 := (rS hτ3).2
      have hτB : τ3 = aRow σ 1 (twR (σ 22 0) a b x y) := by rw [hτ3]; unfold twR; rw [tw0.eq_def (tw0 (σ 22 0) a x) b y, if_pos (by omega), emR_hold hbA]
      have mB := (rS hτB).1
      refine aw_b kX7_ok bX7_hasBy_57_ok (Cs := []) (pc' := 63) (L' := [some (aR 21 0), some (aI q), some (aI a), some (aI x), some (aI b), some (aI y), some (aI n), some (aI 0), some (aI 0)]) (st' := []) (σ' := τ3) rfl trivial ?_
      refine aloop (P := fun i : Nat => ∀ (τ : aS) (hτ : τ = aRow σ 1 (dysR (twR (σ 22 0) a b x y) i)), AW l 4 mX7_hasBy _ 63 [some (aR 21 0), some (aI q), some (aI a), some (aI x), some (aI b), some (aI y), some (aI n), some (aI (dvN (twR (σ 22 0) a b x y) q i)), some (aI (i : Int))] [] τ) n.toNat (fun i hi ihi τ hτ => ?_) τ3 hτB
      have m := (rS hτ).1
      have wX := dysR_wf hwT i
      have eX := dysR_0 (twR (σ 22 0) a b x y) i
      have gv := dvN_rng (twR (σ 22 0) a b x y) q i
      refine aw_b kX7_ok bX7_hasBy_63_ok (Cs := []) (pc' := 67) (L' := [some (aR 21 0), some (aI q), some (aI a), some (aI x), some (aI b), some (aI y), some (aI n), some (aI (dvN (twR (σ 22 0) a b x y) q i)), some (aI (i : Int))]) (st' := [aI n, aI (i : Int)]) (σ' := τ) rfl trivial ?_
      refine aw_cge dX7_hasBy_67 (tgt := 104) (by decide) ⟨by omega, by omega⟩ ⟨by omega, by omega⟩ (fun wh10 => ?_) (fun wh10 => ?_)
      · have ei : i = n.toNat := by omega
        have ba := aOf_rng (p := q) (w := 2) (by omega) (by omega) (by decide) (by decide)
        have bq := wX.pe (p := q) (by omega) (by omega)
        have eq9 : τ 22 1 (aOf q 2) = dysR (twR (σ 22 0) a b x y) i (aOf q 2) := by rw [m]
        refine aw_b kX7_ok bX7_hasBy_104_ok (Cs := [0 < 1]) (pc' := 112) (L' := [some (aR 21 0), some (aI q), some (aI a), some (aI x), some (aI b), some (aI y), some (aI n), some (aI (dvN (twR (σ 22 0) a b x y) q i)), some (aI (i : Int))]) (st' := [aI 2, aI q, aR 22 1, aI (dvN (twR (σ 22 0) a b x y) q i)]) (σ' := τ) rfl (show 0 < 1 from by omega) ?_
        refine aw_fS lX7_57 (as := [aI q, aI 2]) (rest := [aR 22 1, aI (dvN (twR (σ 22 0) a b x y) q i)]) (by decide) rfl (Nat.le_of_ble_eq_true rfl) rfl dX7_hasBy_112 (cM_of l q 2 τ) ?_
        refine aw_b kX7_ok bX7_hasBy_115_ok (Cs := [1 < 4, 0 ≤ aOf q 2 ∧ aOf q 2 < 45, -2147483648 ≤ τ 22 1 (aOf q 2) ∧ τ 22 1 (aOf q 2) < 2147483648, 0 < 10 ∧ 10 < 2147483648]) (pc' := 120) (L' := [some (aR 21 0), some (aI q), some (aI a), some (aI x), some (aI b), some (aI y), some (aI n), some (aI (dvN (twR (σ 22 0) a b x y) q i)), some (aI (i : Int))]) (st' := [aI ((dvN (twR (σ 22 0) a b x y) q i) - (Int.tdiv (τ 22 1 (aOf q 2)) 10))]) (σ' := τ) rfl (show (1 < 4) ∧ (0 ≤ aOf q 2 ∧ aOf q 2 < 45) ∧ (-2147483648 ≤ τ 22 1 (aOf q 2) ∧ τ 22 1 (aOf q 2) < 2147483648) ∧ (0 < 10 ∧ 10 < 2147483648) from ⟨by omega, by omega, by omega, by omega⟩) ?_
        exact aw_iret dX7_hasBy_120 rfl ⟨aret (by rw [eq9, ← ei]; rfl), ⟨_, wX, hτ⟩⟩
      · refine aw_b kX7_ok bX7_hasBy_70_ok (Cs := [0 < 1]) (pc' := 74) (L' := [some (aR 21 0), some (aI q), some (aI a), some (aI x), some (aI b), some (aI y), some (aI n), some (aI (dvN (twR (σ 22 0) a b x y) q i)), some (aI (i : Int))]) (st' := [aR 22 1]) (σ' := τ) rfl (show 0 < 1 from by omega) ?_
        refine aw_callS lX7_95 (as := [aR 22 1]) (rest := []) (by decide) rfl (Nat.le_of_ble_eq_true rfl) rfl dX7_hasBy_74 (cM_dayS l σ τ _ hτ wX (by omega)) ?_
        rintro _ τ9 ⟨rfl, hτ9⟩
        have hτ9r : τ9 = aRow σ 1 (dysR (twR (σ 22 0) a b x y) (i + 1)) := hτ9
        have m9 := (rS hτ9r).1
        have w9 := dysR_wf hwT (i + 1)
        refine aw_b kX7_ok bX7_hasBy_77_ok (Cs := [0 < 1]) (pc' := 84) (L' := [some (aR 21 0), some (aI q), some (aI a), some (aI x), some (aI b), some (aI y), some (aI n), some (aI (dvN (twR (σ 22 0) a b x y) q i)), some (aI (i : Int))]) (st' := [aI q, aR 22 1, aI (dvN (twR (σ 22 0) a b x y) q i)]) (σ' := τ9) rfl (show 0 < 1 from by omega) ?_
        have hofq := cM_officeOf l 1 (by decide) q τ9 ⟨by omega, by omega⟩ (by rw [m9]; exact w9)
        rw [m9] at hofq
        have boq := off_rng (dysR (twR (σ 22 0) a b x y) (i + 1)) q
        refine aw_fS lX7_64 (as := [aR 22 1, aI q]) (rest := [aI (dvN (twR (σ 22 0) a b x y) q i)]) (by decide) rfl (Nat.le_of_ble_eq_true rfl) rfl dX7_hasBy_84 (hofq) ?_
        refine aw_ige dX7_hasBy_87 (tgt := 94) (by decide) ⟨by omega, by omega⟩ (fun wh11 => ?_) (fun wh11 => ?_)
        · refine aw_b kX7_ok bX7_hasBy_94_ok (Cs := []) (pc' := 95) (L' := [some (aR 21 0), some (aI q), some (aI a), some (aI x), some (aI b), some (aI y), some (aI n), some (aI (dvN (twR (σ 22 0) a b x y) q i)), some (aI (i : Int))]) (st' := [aI 1, aI (dvN (twR (σ 22 0) a b x y) q i)]) (σ' := τ9) rfl trivial ?_
          refine aw_b kX7_ok bX7_hasBy_95_ok (Cs := []) (pc' := 63) (L' := [some (aR 21 0), some (aI q), some (aI a), some (aI x), some (aI b), some (aI y), some (aI n), some (aI ((dvN (twR (σ 22 0) a b x y) q i) + 1)), some (aI ((i : Int) + 1))]) (st' := []) (σ' := τ9) rfl trivial ?_
          have e1 : dvN (twR (σ 22 0) a b x y) q i + 1 = dvN (twR (σ 22 0) a b x y) q (i + 1) := by rw [dvN, if_neg (by omega)]
          exact aw_eq (by rw [e1]; rfl) rfl rfl (ihi (by omega) τ9 hτ9r)
        · refine aw_b kX7_ok bX7_hasBy_90_ok (Cs := []) (pc' := 95) (L' := [some (aR 21 0), some (aI q), some (aI a), some (aI x), some (aI b), some (aI y), some (aI n), some (aI (dvN (twR (σ 22 0) a b x y) q i)), some (aI (i : Int))]) (st' := [aI 0, aI (dvN (twR (σ 22 0) a b x y) q i)]) (σ' := τ9) rfl trivial ?_
          refine aw_b kX7_ok bX7_hasBy_95_ok (Cs := []) (pc' := 63) (L' := [some (aR 21 0), some (aI q), some (aI a), some (aI x), some (aI b), some (aI y), some (aI n), some (aI ((dvN (twR (σ 22 0) a b x y) q i) + 0)), some (aI ((i : Int) + 1))]) (st' := []) (σ' := τ9) rfl trivial ?_
          have e1 : dvN (twR (σ 22 0) a b x y) q i + 0 = dvN (twR (σ 22 0) a b x y) q (i + 1) := by rw [dvN, if_pos (by omega)]
          exact aw_eq (by rw [e1]; rfl) rfl rfl (ihi (by omega) τ9 hτ9r)
set_option maxRecDepth 10000 in
theorem cM_two (l : Launch) (a b n : Int) (σ : aS) (hw : WF (σ 22 0)) (hd : σ 22 0 1 ≤ 999) (hz : OZ (σ 22 1)) (ha : aIr a) (hb : aIr b) (hn : aIr n) : AM l 5 mX7_two [aR 21 0, aI a, aI b, aI n] σ (QR (A_two (σ 22 0) a b n) σ) := by
  have bn := hw.1
  have b1 := hw.2.1
  have b2 := hw.2.2.1
  have h00 : σ = aRow σ 1 (σ 22 1) := aRow_id.symm
  refine am_of (by decide) (Nat.le_of_ble_eq_true rfl) (L := [some (aR 21 0), some (aI a), some (aI b), some (aI n), none, none, none]) rfl ?_
  refine aw_b kX7_ok bX7_two_0_ok (Cs := []) (pc' := 2) (L' := [some (aR 21 0), some (aI a), some (aI b), some (aI n), none, none, none]) (st' := [aI a, aR 21 0]) (σ' := σ) rfl trivial ?_
  refine aw_bV lX7_128 (as := [aI a]) (rest := []) (t := 21) (c := 0) (by decide) (by decide) (by decide) rfl rfl (Nat.le_of_ble_eq_true rfl) rfl dX7_two_2 (cM_isOne l a σ ⟨by omega, by omega⟩ (by omega)) (fun wh1 => ?_) (fun wh1 => ?_)
  · refine aw_ieq dX7_two_5 (tgt := 31) (by decide) ⟨by omega, by omega⟩ (fun wh2 => absurd wh2 (by decide)) (fun wh2 => ?_)
    refine aw_b kX7_ok bX7_two_8_ok (Cs := []) (pc' := 10) (L' := [some (aR 21 0), some (aI a), some (aI b), some (aI n), none, none, none]) (st' := [aI b, aR 21 0]) (σ' := σ) rfl trivial ?_
    refine aw_bV lX7_128 (as := [aI b]) (rest := []) (t := 21) (c := 0) (by decide) (by decide) (by decide) rfl rfl (Nat.le_of_ble_eq_true rfl) rfl dX7_two_10 (cM_isOne l b σ ⟨by omega, by omega⟩ (by omega)) (fun wh3 => ?_) (fun wh3 => ?_)
    · refine aw_ieq dX7_two_13 (tgt := 31) (by decide) ⟨by omega, by omega⟩ (fun wh4 => absurd wh4 (by decide)) (fun wh4 => ?_)
      refine aw_b kX7_ok bX7_two_16_ok (Cs := []) (pc' := 18) (L' := [some (aR 21 0), some (aI a), some (aI b), some (aI n), none, none, none]) (st' := [aI b, aI a]) (σ' := σ) rfl trivial ?_
      refine aw_ceq dX7_two_18 (tgt := 31) (by decide) ⟨by omega, by omega⟩ ⟨by omega, by omega⟩ (fun wh5 => ?_) (fun wh5 => ?_)
      · refine aw_b kX7_ok bX7_two_31_ok (Cs := []) (pc' := 32) (L' := [some (aR 21 0), some (aI a), some (aI b), some (aI n), none, none, none]) (st' := [aI (-1)]) (σ' := σ) rfl trivial ?_
        exact aw_iret dX7_two_32 rfl ⟨aret (by unfold A_two; rw [if_neg (by omega)]), ⟨_, hz, h00⟩⟩
      · refine aw_b kX7_ok bX7_two_21_ok (Cs := []) (pc' := 25) (L' := [some (aR 21 0), some (aI a), some (aI b), some (aI n), none, none, none]) (st' := [aI 30, aI 1, aI n]) (σ' := σ) rfl trivial ?_
        refine aw_bS lX7_49 (as := [aI n, aI 1, aI 30]) (rest := []) (by decide) rfl (Nat.le_of_ble_eq_true rfl) rfl dX7_two_25 (cM_isIn l n 1 30 σ ⟨by omega, by omega⟩ ⟨by omega, by omega⟩ ⟨by omega, by omega⟩) (fun wh6 => ?_) (fun wh6 => ?_)
        · refine aw_ine dX7_two_28 (tgt := 33) (by decide) ⟨by omega, by omega⟩ (fun wh7 => ?_) (fun wh7 => absurd wh7 (by decide))
          refine aw_b kX7_ok bX7_two_33_ok (Cs := [0 < 1]) (pc' := 38) (L' := [some (aR 21 0), some (aI a), some (aI b), some (aI n), none, none, none]) (st' := [aI a, aR 22 0]) (σ' := σ) rfl (show 0 < 1 from by omega) ?_
          refine aw_fS lX7_64 (as := [aR 22 0, aI a]) (rest := []) (by decide) rfl (Nat.le_of_ble_eq_true rfl) rfl dX7_two_38 (cM_officeOf l 0 (by omega) a σ ⟨by omega, by omega⟩ hw) ?_
          have bo := off_rng (σ 22 0) a
          refine aw_ilt dX7_two_41 (tgt := 55) (by decide) ⟨by omega, by omega⟩ (fun wh8 => ?_) (fun wh8 => ?_)
          · refine aw_b kX7_ok bX7_two_55_ok (Cs := []) (pc' := 57) (L' := [some (aR 21 0), some (aI a), some (aI b), some (aI n), none, none, none]) (st' := [aI (-3)]) (σ' := σ) rfl trivial ?_
            exact aw_iret dX7_two_57 rfl ⟨aret (by unfold A_two; rw [if_pos (by omega), if_pos (by omega)]), ⟨_, hz, h00⟩⟩
          · refine aw_b kX7_ok bX7_two_44_ok (Cs := [0 < 1]) (pc' := 49) (L' := [some (aR 21 0), some (aI a), some (aI b), some (aI n), none, none, none]) (st' := [aI b, aR 22 0]) (σ' := σ) rfl (show 0 < 1 from by omega) ?_
            refine aw_fS lX7_64 (as := [aR 22 0, aI b]) (rest := []) (by decide) rfl (Nat.le_of_ble_eq_true rfl) rfl dX7_two_49 (cM_officeOf l 0 (by omega) b σ ⟨by omega, by omega⟩ hw) ?_
            have bo := off_rng (σ 22 0) b
            refine aw_ige dX7_two_52 (tgt := 58) (by decide) ⟨by omega, by omega⟩ (fun wh9 => ?_) (fun wh9 => ?_)
            · refine aw_b kX7_ok bX7_two_58_ok (Cs := []) (pc' := 61) (L' := [some (aR 21 0), some (aI a), some (aI b), some (aI n), some (aI 0), none, none]) (st' := []) (σ' := σ) rfl trivial ?_
              refine aloop (P := fun k : Nat => ∀ (τ : aS) (X : aRw) (hX : OZ X) (hτ : τ = aRow σ 1 X) (hC : twoF (σ 22 0) a b n.toNat 4 0 = twoF (σ 22 0) a b n.toNat (4 - k) k), AW l 5 mX7_two _ 61 [some (aR 21 0), some (aI a), some (aI b), some (aI n), some (aI (k : Int)), none, none] [] τ) (4) (fun k hk ihk τ X hX hτ hC => ?_) σ _ hz h00 rfl
              have dx : Int.tdiv (k : Int) 2 = (k : Int) / 2 := Int.tdiv_eq_ediv_of_nonneg (by omega)
              have dy : Int.tmod (k : Int) 2 = (k : Int) % 2 := Int.tmod_eq_emod_of_nonneg (by omega)
              refine aw_b kX7_ok bX7_two_61_ok (Cs := []) (pc' := 64) (L' := [some (aR 21 0), some (aI a), some (aI b), some (aI n), some (aI (k : Int)), none, none]) (st' := [aI 4, aI (k : Int)]) (σ' := τ) rfl trivial ?_
              refine aw_cge dX7_two_64 (tgt := 152) (by decide) ⟨by omega, by omega⟩ ⟨by omega, by omega⟩ (fun wh10 => ?_) (fun wh10 => ?_)
              · refine aw_b kX7_ok bX7_two_152_ok (Cs := []) (pc' := 154) (L' := [some (aR 21 0), some (aI a), some (aI b), some (aI n), some (aI (k : Int)), none, none]) (st' := [aI (-4)]) (σ' := τ) rfl trivial ?_
                exact aw_iret dX7_two_154 rfl ⟨aret (by unfold A_two; rw [if_pos (by omega), if_neg (by omega), hC, show 4 - k = 0 by omega]; rfl), ⟨_, hX, hτ⟩⟩
              · have hB : twoF (σ 22 0) a b n.toNat 4 0 = (if haF (twR (σ 22 0) a b (1 - (Int.tdiv (k : Int) 2)) (Int.tmod (k : Int) 2)) a n.toNat ≤ haF (twR (σ 22 0) a b (Int.tdiv (k : Int) 2) (Int.tmod (k : Int) 2)) a n.toNat ∧ haF (twR (σ 22 0) a b (Int.tdiv (k : Int) 2) (1 - (Int.tmod (k : Int) 2))) b n.toNat ≤ haF (twR (σ 22 0) a b (Int.tdiv (k : Int) 2) (Int.tmod (k : Int) 2)) b n.toNat then 10 * (Int.tdiv (k : Int) 2) + (Int.tmod (k : Int) 2) else twoF (σ 22 0) a b n.toNat (4 - (k + 1)) (k + 1)) := by
                  rw [hC, show 4 - k = (4 - (k + 1)) + 1 by omega, dx, dy]; rfl
                refine aw_b kX7_ok bX7_two_67_ok (Cs := [-2147483648 ≤ (k : Int) ∧ (k : Int) < 2147483648, 0 < 2 ∧ 2 < 2147483648, -2147483648 ≤ (k : Int) ∧ (k : Int) < 2147483648, 0 < 2 ∧ 2 < 2147483648]) (pc' := 90) (L' := [some (aR 21 0), some (aI a), some (aI b), some (aI n), some (aI (k : Int)), some (aI (Int.tdiv (k : Int) 2)), some (aI (Int.tmod (k : Int) 2))]) (st' := [aI n, aI (Int.tmod (k : Int) 2), aI b, aI (1 - (Int.tdiv (k : Int) 2)), aI a, aI a, aR 21 0]) (σ' := τ) rfl (show (-2147483648 ≤ (k : Int) ∧ (k : Int) < 2147483648) ∧ (0 < 2 ∧ 2 < 2147483648) ∧ (-2147483648 ≤ (k : Int) ∧ (k : Int) < 2147483648) ∧ (0 < 2 ∧ 2 < 2147483648) from ⟨by omega, by omega, by omega, by omega⟩) ?_
                refine aw_callV lX7_220 (as := [aI a, aI a, aI (1 - (Int.tdiv (k : Int) 2)), aI b, aI (Int.tmod (k : Int) 2), aI n]) (rest := []) (t := 21) (c := 0) (by decide) (by decide) (by decide) rfl rfl (Nat.le_of_ble_eq_true rfl) rfl dX7_two_90 (cM_hasBy l a a (1 - (Int.tdiv (k : Int) 2)) b (Int.tmod (k : Int) 2) n σ τ _ hτ hX hw hd (by omega) (by omega) (by omega) (by omega) (by omega) (by omega) (by omega) (by omega) (by omega) (by omega) (by omega) (by omega) (by omega)) ?_
                rintro _ τ1 ⟨rfl, Y1, hY1, hτ1⟩
                have bh1 := haF_rng (twR_wf hw a b (1 - (Int.tdiv (k : Int) 2)) (Int.tmod (k : Int) 2)) (q := a) (n := n.toNat) (by omega) (by rw [twR_at _ _ _ _ _ (by omega)]; omega) (by omega)
                refine aw_b kX7_ok bX7_two_93_ok (Cs := []) (pc' := 102) (L' := [some (aR 21 0), some (aI a), some (aI b), some (aI n), some (aI (k : Int)), some (aI (Int.tdiv (k : Int) 2)), some (aI (Int.tmod (k : Int) 2))]) (st' := [aI n, aI (Int.tmod (k : Int) 2), aI b, aI (Int.tdiv (k : Int) 2), aI a, aI a, aR 21 0, aI (haF (twR (σ 22 0) a b (1 - (Int.tdiv (k : Int) 2)) (Int.tmod (k : Int) 2)) a n.toNat)]) (σ' := τ1) rfl trivial ?_
                refine aw_callV lX7_220 (as := [aI a, aI a, aI (Int.tdiv (k : Int) 2), aI b, aI (Int.tmod (k : Int) 2), aI n]) (rest := [aI (haF (twR (σ 22 0) a b (1 - (Int.tdiv (k : Int) 2)) (Int.tmod (k : Int) 2)) a n.toNat)]) (t := 21) (c := 0) (by decide) (by decide) (by decide) rfl rfl (Nat.le_of_ble_eq_true rfl) rfl dX7_two_102 (cM_hasBy l a a (Int.tdiv (k : Int) 2) b (Int.tmod (k : Int) 2) n σ τ1 _ hτ1 hY1.oz hw hd (by omega) (by omega) (by omega) (by omega) (by omega) (by omega) (by omega) (by omega) (by omega) (by omega) (by omega) (by omega) (by omega)) ?_
                rintro _ τ2 ⟨rfl, Y2, hY2, hτ2⟩
                have bh2 := haF_rng (twR_wf hw a b (Int.tdiv (k : Int) 2) (Int.tmod (k : Int) 2)) (q := a) (n := n.toNat) (by omega) (by rw [twR_at _ _ _ _ _ (by omega)]; omega) (by omega)
                refine aw_cgt dX7_two_105 (tgt := 146) (by decide) ⟨by omega, by omega⟩ ⟨by omega, by omega⟩ (fun wh11 => ?_) (fun wh11 => ?_)
                · refine aw_b kX7_ok bX7_two_146_ok (Cs := []) (pc' := 61) (L' := [some (aR 21 0), some (aI a), some (aI b), some (aI n), some (aI ((k : Int) + 1)), some (aI (Int.tdiv (k : Int) 2)), some (aI (Int.tmod (k : Int) 2))]) (st' := []) (σ' := τ2) rfl trivial ?_
                  refine aw_drop [5, 6] (L' := [some (aR 21 0), some (aI a), some (aI b), some (aI n), some (aI ((k : Int) + 1)), none, none]) rfl ?_
                  exact ihk (by omega) τ2 _ hY2.oz hτ2 (hB.trans (if_neg (by omega)))
                · refine aw_b kX7_ok bX7_two_108_ok (Cs := []) (pc' := 119) (L' := [some (aR 21 0), some (aI a), some (aI b), some (aI n), some (aI (k : Int)), some (aI (Int.tdiv (k : Int) 2)), some (aI (Int.tmod (k : Int) 2))]) (st' := [aI n, aI (1 - (Int.tmod (k : Int) 2)), aI b, aI (Int.tdiv (k : Int) 2), aI a, aI b, aR 21 0]) (σ' := τ2) rfl trivial ?_
                  refine aw_callV lX7_220 (as := [aI b, aI a, aI (Int.tdiv (k : Int) 2), aI b, aI (1 - (Int.tmod (k : Int) 2)), aI n]) (rest := []) (t := 21) (c := 0) (by decide) (by decide) (by decide) rfl rfl (Nat.le_of_ble_eq_true rfl) rfl dX7_two_119 (cM_hasBy l b a (Int.tdiv (k : Int) 2) b (1 - (Int.tmod (k : Int) 2)) n σ τ2 _ hτ2 hY2.oz hw hd (by omega) (by omega) (by omega) (by omega) (by omega) (by omega) (by omega) (by omega) (by omega) (by omega) (by omega) (by omega) (by omega)) ?_
                  rintro _ τ3 ⟨rfl, Y3, hY3, hτ3⟩
                  have bh3 := haF_rng (twR_wf hw a b (Int.tdiv (k : Int) 2) (1 - (Int.tmod (k : Int) 2))) (q := b) (n := n.toNat) (by omega) (by rw [twR_at _ _ _ _ _ (by omega)]; omega) (by omega)
                  refine aw_b kX7_ok bX7_two_122_ok (Cs := []) (pc' := 131) (L' := [some (aR 21 0), some (aI a), some (aI b), some (aI n), some (aI (k : Int)), some (aI (Int.tdiv (k : Int) 2)), some (aI (Int.tmod (k : Int) 2))]) (st' := [aI n, aI (Int.tmod (k : Int) 2), aI b, aI (Int.tdiv (k : Int) 2), aI a, aI b, aR 21 0, aI (haF (twR (σ 22 0) a b (Int.tdiv (k : Int) 2) (1 - (Int.tmod (k : Int) 2))) b n.toNat)]) (σ' := τ3) rfl trivial ?_
                  refine aw_callV lX7_220 (as := [aI b, aI a, aI (Int.tdiv (k : Int) 2), aI b, aI (Int.tmod (k : Int) 2), aI n]) (rest := [aI (haF (twR (σ 22 0) a b (Int.tdiv (k : Int) 2) (1 - (Int.tmod (k : Int) 2))) b n.toNat)]) (t := 21) (c := 0) (by decide) (by decide) (by decide) rfl rfl (Nat.le_of_ble_eq_true rfl) rfl dX7_two_131 (cM_hasBy l b a (Int.tdiv (k : Int) 2) b (Int.tmod (k : Int) 2) n σ τ3 _ hτ3 hY3.oz hw hd (by omega) (by omega) (by omega) (by omega) (by omega) (by omega) (by omega) (by omega) (by omega) (by omega) (by omega) (by omega) (by omega)) ?_
                  rintro _ τ4 ⟨rfl, Y4, hY4, hτ4⟩
                  have bh4 := haF_rng (twR_wf hw a b (Int.tdiv (k : Int) 2) (Int.tmod (k : Int) 2)) (q := b) (n := n.toNat) (by omega) (by rw [twR_at _ _ _ _ _ (by omega)]; omega) (by omega)
                  refine aw_cgt dX7_two_134 (tgt := 146) (by decide) ⟨by omega, by omega⟩ ⟨by omega, by omega⟩ (fun wh12 => ?_) (fun wh12 => ?_)
                  · refine aw_b kX7_ok bX7_two_146_ok (Cs := []) (pc' := 61) (L' := [some (aR 21 0), some (aI a), some (aI b), some (aI n), some (aI ((k : Int) + 1)), some (aI (Int.tdiv (k : Int) 2)), some (aI (Int.tmod (k : Int) 2))]) (st' := []) (σ' := τ4) rfl trivial ?_
                    refine aw_drop [5, 6] (L' := [some (aR 21 0), some (aI a), some (aI b), some (aI n), some (aI ((k : Int) + 1)), none, none]) rfl ?_
                    exact ihk (by omega) τ4 _ hY4.oz hτ4 (hB.trans (if_neg (by omega)))
                  · refine aw_b kX7_ok bX7_two_137_ok (Cs := []) (pc' := 145) (L' := [some (aR 21 0), some (aI a), some (aI b), some (aI n), some (aI (k : Int)), some (aI (Int.tdiv (k : Int) 2)), some (aI (Int.tmod (k : Int) 2))]) (st' := [aI ((10 * (Int.tdiv (k : Int) 2)) + (Int.tmod (k : Int) 2))]) (σ' := τ4) rfl trivial ?_
                    exact aw_iret dX7_two_145 rfl ⟨aret (by unfold A_two; rw [if_pos (by omega), if_neg (by omega)]; exact (hB.trans (if_pos (by omega))).symm), ⟨_, hY4.oz, hτ4⟩⟩
            · refine aw_b kX7_ok bX7_two_55_ok (Cs := []) (pc' := 57) (L' := [some (aR 21 0), some (aI a), some (aI b), some (aI n), none, none, none]) (st' := [aI (-3)]) (σ' := σ) rfl trivial ?_
              exact aw_iret dX7_two_57 rfl ⟨aret (by unfold A_two; rw [if_pos (by omega), if_pos (by omega)]), ⟨_, hz, h00⟩⟩
        · refine aw_ine dX7_two_28 (tgt := 33) (by decide) ⟨by omega, by omega⟩ (fun wh13 => absurd wh13 (by decide)) (fun wh13 => ?_)
          refine aw_b kX7_ok bX7_two_31_ok (Cs := []) (pc' := 32) (L' := [some (aR 21 0), some (aI a), some (aI b), some (aI n), none, none, none]) (st' := [aI (-1)]) (σ' := σ) rfl trivial ?_
          exact aw_iret dX7_two_32 rfl ⟨aret (by unfold A_two; rw [if_neg (by omega)]), ⟨_, hz, h00⟩⟩
    · refine aw_ieq dX7_two_13 (tgt := 31) (by decide) ⟨by omega, by omega⟩ (fun wh14 => ?_) (fun wh14 => absurd wh14 (by decide))
      refine aw_b kX7_ok bX7_two_31_ok (Cs := []) (pc' := 32) (L' := [some (aR 21 0), some (aI a), some (aI b), some (aI n), none, none, none]) (st' := [aI (-1)]) (σ' := σ) rfl trivial ?_
      exact aw_iret dX7_two_32 rfl ⟨aret (by unfold A_two; rw [if_neg (by omega)]), ⟨_, hz, h00⟩⟩
  · refine aw_ieq dX7_two_5 (tgt := 31) (by decide) ⟨by omega, by omega⟩ (fun wh15 => ?_) (fun wh15 => absurd wh15 (by decide))
    refine aw_b kX7_ok bX7_two_31_ok (Cs := []) (pc' := 32) (L' := [some (aR 21 0), some (aI a), some (aI b), some (aI n), none, none, none]) (st' := [aI (-1)]) (σ' := σ) rfl trivial ?_
    exact aw_iret dX7_two_32 rfl ⟨aret (by unfold A_two; rw [if_neg (by omega)]), ⟨_, hz, h00⟩⟩
def MSH (σ : aS) : Prop := (∀ d : Int, 0 ≤ d → d < 8 → (σ 26 0 d = 0 ∨ σ 26 0 d = 1 ∨ σ 26 0 d = 2) ∧ (σ 26 0 d = 1 → (0 ≤ σ 27 0 d ∧ σ 27 0 d ≤ 7) ∧ (0 ≤ σ 28 0 d ∧ σ 28 0 d ≤ 9)) ∧ (0 ≤ σ 29 0 d ∧ σ 29 0 d ≤ 2) ∧ (0 ≤ σ 30 0 d ∧ σ 30 0 d ≤ 100)) ∧ ∀ i : Int, 0 ≤ i → i < 800 → aIr (σ 31 0 i)
def mE (σ : aS) (d i : Int) : Int := σ 31 0 (100 * d + i)
theorem fu_all (E : Int → Int) (m : Int) (g : Nat → Int) : ∀ k i : Nat, fuF E m g k i = -4 ↔ ∀ j : Nat, i ≤ j → j < i + k → (E j = m ∨ E j = g j)
  | 0, i => ⟨fun _ j h1 h2 => by omega, fun _ => rfl⟩
  | k + 1, i => by
    have ih := fu_all E m g k (i + 1)
    rw [fuF]
    by_cases h : E i = m ∨ E i = g i
    · rw [if_pos h, ih]
      refine ⟨fun q j h1 h2 => ?_, fun q j h1 h2 => q j (by omega) (by omega)⟩
      by_cases hj : j = i
      · rw [hj]; exact h
      · exact q j (by omega) (by omega)
    · rw [if_neg h]
      exact ⟨fun q => by omega, fun q => absurd (q i (Nat.le_refl i) (by omega)) h⟩
theorem fu_cong {E E' : Int → Int} (m : Int) (g : Nat → Int) : ∀ k i : Nat, (∀ j : Nat, i ≤ j → j < i + k → E j = E' j) → fuF E m g k i = fuF E' m g k i
  | 0, _, _ => rfl
  | k + 1, i, h => by
    rw [fuF, fuF, h i (Nat.le_refl i) (by omega), fu_cong m g k (i + 1) (fun j h1 h2 => h j (by omega) (by omega))]
theorem fg_cong {E E' : Int → Int} (r : aRw) : ∀ k i : Nat, (∀ j : Nat, i ≤ j → j < i + k → E j = E' j) → fgF E r k i = fgF E' r k i
  | 0, _, _ => rfl
  | k + 1, i, h => by
    rw [fgF, fgF, h i (Nat.le_refl i) (by omega), fg_cong r k (i + 1) (fun j h1 h2 => h j (by omega) (by omega))]
theorem hoR_eq (r : aRw) {f p : Int} (f0 : 0 ≤ f) (f1 : f < 5) : hoR r f p = (if 0 ≤ off r p then rUp (rUp r (8 + off r p) (-4)) (8 + f) p else rUp r (8 + f) p) := by
  have b := off_rng r p
  have k : ∀ X : aRw, rUp (emR X f) (8 + f) p = rUp X (8 + f) p := fun X => by
    funext j
    unfold emR
    rw [if_pos ⟨f0, f1⟩]
    by_cases hj : j = 8 + f
    · rw [hj, rUp_eq, rUp_eq]
    · rw [rUp_ne hj, rUp_ne hj, rUp_ne hj]
  unfold hoR
  rw [k]
  split
  · rename_i h
    rw [emR_hold h]
  · rename_i h
    have e : nb (off r p) = -1 := by unfold nb; rw [if_pos (by omega)]
    rw [e, emR.eq_def r (-1), if_neg (by omega)]
theorem aAnd_01 {x y : Int} (hx : x = 0 ∨ x = 1) (hy : y = 0 ∨ y = 1) : aAnd x y = if x = 1 ∧ y = 1 then 1 else 0 := by
  rcases hx with rfl | rfl <;> rcases hy with rfl | rfl <;> decide +kernel
set_option maxRecDepth 10000 in
theorem cM_leastOf (l : Launch) (s : Int) (σ : aS) (h : aIr s) : AM l 0 mX7_leastOf [aI s] σ (aF (some (aI (leF s))) σ) := by
  refine am_of (by decide) (Nat.le_of_ble_eq_true rfl) (L := [some (aI s)]) rfl ?_
  refine aw_b kX7_ok bX7_leastOf_0_ok (Cs := []) (pc' := 1) (L' := [some (aI s)]) (st' := [aI s]) (σ' := σ) rfl trivial ?_
  refine aw_ine dX7_leastOf_1 (tgt := 9) (by decide) ⟨by omega, by omega⟩ (fun wh1 => ?_) (fun wh1 => ?_)
  · refine aw_b kX7_ok bX7_leastOf_9_ok (Cs := []) (pc' := 11) (L' := [some (aI s)]) (st' := [aI 1, aI s]) (σ' := σ) rfl trivial ?_
    refine aw_cne dX7_leastOf_11 (tgt := 20) (by decide) ⟨by omega, by omega⟩ ⟨by omega, by omega⟩ (fun wh2 => ?_) (fun wh2 => ?_)
    · refine aw_b kX7_ok bX7_leastOf_20_ok (Cs := []) (pc' := 22) (L' := [some (aI s)]) (st' := [aI (-2147483648)]) (σ' := σ) rfl trivial ?_
      exact aw_iret dX7_leastOf_22 rfl ⟨aret (by unfold leF; (repeat' split) <;> omega), rfl⟩
    · refine aw_b kX7_ok bX7_leastOf_14_ok (Cs := []) (pc' := 22) (L' := [some (aI s)]) (st' := [aI (-32768)]) (σ' := σ) rfl trivial ?_
      exact aw_iret dX7_leastOf_22 rfl ⟨aret (by unfold leF; (repeat' split) <;> omega), rfl⟩
  · refine aw_b kX7_ok bX7_leastOf_4_ok (Cs := []) (pc' := 22) (L' := [some (aI s)]) (st' := [aI (-128)]) (σ' := σ) rfl trivial ?_
    exact aw_iret dX7_leastOf_22 rfl ⟨aret (by unfold leF; (repeat' split) <;> omega), rfl⟩
set_option maxRecDepth 10000 in
theorem cM_isTold (l : Launch) (d i v : Int) (σ : aS) (hs : MSH σ) (h0 : 0 ≤ d) (h1 : d < 8) (i0 : 0 ≤ i) (i1 : i < 100) (hv : aIr v) : AM l 1 mX7_isTold [aR 21 0, aI d, aI i, aI v] σ (aF (some (aI (if mE σ d i = leF (σ 29 0 d) ∨ mE σ d i = v then 1 else 0))) σ) := by
  have bs := hs.1 d h0 h1
  have be := hs.2 (100 * d + i) (by omega) (by omega)
  have hE : mE σ d i = σ 31 0 (100 * d + i) := rfl
  refine am_of (by decide) (Nat.le_of_ble_eq_true rfl) (L := [some (aR 21 0), some (aI d), some (aI i), some (aI v)]) rfl ?_
  refine aw_b kX7_ok bX7_isTold_0_ok (Cs := [0 < 1, 0 < 1, 0 ≤ (100 * d) + i ∧ (100 * d) + i < 800, 0 < 1, 0 < 1, 0 ≤ d ∧ d < 8]) (pc' := 17) (L' := [some (aR 21 0), some (aI d), some (aI i), some (aI v)]) (st' := [aI (σ 29 0 d), aI (σ 31 0 ((100 * d) + i))]) (σ' := σ) rfl (show (0 < 1) ∧ (0 < 1) ∧ (0 ≤ (100 * d) + i ∧ (100 * d) + i < 800) ∧ (0 < 1) ∧ (0 < 1) ∧ (0 ≤ d ∧ d < 8) from ⟨by omega, by omega, by omega, by omega, by omega, by omega⟩) ?_
  refine aw_fS lX7_214 (as := [aI (σ 29 0 d)]) (rest := [aI (σ 31 0 ((100 * d) + i))]) (by decide) rfl (Nat.le_of_ble_eq_true rfl) rfl dX7_isTold_17 (cM_leastOf l (σ 29 0 d) σ ⟨by omega, by omega⟩) ?_
  have ble := leF_rng (σ 29 0 d)
  refine aw_ceq dX7_isTold_20 (tgt := 38) (by decide) ⟨by omega, by omega⟩ ⟨by omega, by omega⟩ (fun wh1 => ?_) (fun wh1 => ?_)
  · refine aw_b kX7_ok bX7_isTold_38_ok (Cs := []) (pc' := 43) (L' := [some (aR 21 0), some (aI d), some (aI i), some (aI v)]) (st' := [aI 1]) (σ' := σ) rfl trivial ?_
    exact aw_zret dX7_isTold_43 rfl (by omega) ⟨aret (by split <;> omega), rfl⟩
  · refine aw_b kX7_ok bX7_isTold_23_ok (Cs := [0 < 1, 0 < 1, 0 ≤ (100 * d) + i ∧ (100 * d) + i < 800]) (pc' := 35) (L' := [some (aR 21 0), some (aI d), some (aI i), some (aI v)]) (st' := [aI v, aI (σ 31 0 ((100 * d) + i))]) (σ' := σ) rfl (show (0 < 1) ∧ (0 < 1) ∧ (0 ≤ (100 * d) + i ∧ (100 * d) + i < 800) from ⟨by omega, by omega, by omega⟩) ?_
    refine aw_cne dX7_isTold_35 (tgt := 42) (by decide) ⟨by omega, by omega⟩ ⟨by omega, by omega⟩ (fun wh2 => ?_) (fun wh2 => ?_)
    · refine aw_b kX7_ok bX7_isTold_42_ok (Cs := []) (pc' := 43) (L' := [some (aR 21 0), some (aI d), some (aI i), some (aI v)]) (st' := [aI 0]) (σ' := σ) rfl trivial ?_
      exact aw_zret dX7_isTold_43 rfl (by omega) ⟨aret (by split <;> omega), rfl⟩
    · refine aw_b kX7_ok bX7_isTold_38_ok (Cs := []) (pc' := 43) (L' := [some (aR 21 0), some (aI d), some (aI i), some (aI v)]) (st' := [aI 1]) (σ' := σ) rfl trivial ?_
      exact aw_zret dX7_isTold_43 rfl (by omega) ⟨aret (by split <;> omega), rfl⟩
set_option maxRecDepth 10000 in
theorem cM_wrongRow1 (l : Launch) (d : Int) (σ : aS) (hs : MSH σ) (hd : aIr d) : AM l 2 mX7_wrongRow [aR 21 0, aI d, aI (-1)] σ (aF (some (aI (lkF (σ 26 0 d) d 2))) σ) := by
  refine am_of (by decide) (Nat.le_of_ble_eq_true rfl) (L := [some (aR 21 0), some (aI d), some (aI (-1))]) rfl ?_
  refine aw_b kX7_ok bX7_wrongRow_0_ok (Cs := []) (pc' := 1) (L' := [some (aR 21 0), some (aI d), some (aI (-1))]) (st' := [aI d]) (σ' := σ) rfl trivial ?_
  refine aw_bS lX7_256 (as := [aI d]) (rest := []) (by decide) rfl (Nat.le_of_ble_eq_true rfl) rfl dX7_wrongRow_1 (cM_isShelf l d σ ⟨by omega, by omega⟩) (fun wh1 => ?_) (fun wh1 => ?_)
  · have bs := hs.1 d (by omega) (by omega)
    refine aw_ine dX7_wrongRow_4 (tgt := 11) (by decide) ⟨by omega, by omega⟩ (fun wh2 => ?_) (fun wh2 => absurd wh2 (by decide))
    refine aw_b kX7_ok bX7_wrongRow_11_ok (Cs := [0 < 1, 0 < 1, 0 ≤ d ∧ d < 8]) (pc' := 17) (L' := [some (aR 21 0), some (aI d), some (aI (-1))]) (st' := [aI (σ 26 0 d)]) (σ' := σ) rfl (show (0 < 1) ∧ (0 < 1) ∧ (0 ≤ d ∧ d < 8) from ⟨by omega, by omega, by omega⟩) ?_
    refine aw_ine dX7_wrongRow_17 (tgt := 25) (by decide) ⟨by omega, by omega⟩ (fun wh3 => ?_) (fun wh3 => ?_)
    · refine aw_b kX7_ok bX7_wrongRow_25_ok (Cs := [0 < 1, 0 < 1, 0 ≤ d ∧ d < 8]) (pc' := 32) (L' := [some (aR 21 0), some (aI d), some (aI (-1))]) (st' := [aI 2, aI (σ 26 0 d)]) (σ' := σ) rfl (show (0 < 1) ∧ (0 < 1) ∧ (0 ≤ d ∧ d < 8) from ⟨by omega, by omega, by omega⟩) ?_
      refine aw_cne dX7_wrongRow_32 (tgt := 49) (by decide) ⟨by omega, by omega⟩ ⟨by omega, by omega⟩ (fun wh4 => ?_) (fun wh4 => ?_)
      · refine aw_b kX7_ok bX7_wrongRow_49_ok (Cs := []) (pc' := 55) (L' := [some (aR 21 0), some (aI d), some (aI (-1))]) (st' := [aI (-12)]) (σ' := σ) rfl trivial ?_
        exact aw_iret dX7_wrongRow_55 rfl ⟨aret (by unfold lkF; (repeat' split) <;> omega), rfl⟩
      · refine aw_b kX7_ok bX7_wrongRow_35_ok (Cs := []) (pc' := 36) (L' := [some (aR 21 0), some (aI d), some (aI (-1))]) (st' := [aI (-1)]) (σ' := σ) rfl trivial ?_
        refine aw_ilt dX7_wrongRow_36 (tgt := 54) (by decide) ⟨by omega, by omega⟩ (fun wh5 => ?_) (fun wh5 => absurd wh5 (by decide))
        refine aw_b kX7_ok bX7_wrongRow_54_ok (Cs := []) (pc' := 55) (L' := [some (aR 21 0), some (aI d), some (aI (-1))]) (st' := [aI 0]) (σ' := σ) rfl trivial ?_
        exact aw_iret dX7_wrongRow_55 rfl ⟨aret (by unfold lkF; (repeat' split) <;> omega), rfl⟩
    · refine aw_b kX7_ok bX7_wrongRow_20_ok (Cs := []) (pc' := 55) (L' := [some (aR 21 0), some (aI d), some (aI (-1))]) (st' := [aI (-11)]) (σ' := σ) rfl trivial ?_
      exact aw_iret dX7_wrongRow_55 rfl ⟨aret (by unfold lkF; (repeat' split) <;> omega), rfl⟩
  · refine aw_ine dX7_wrongRow_4 (tgt := 11) (by decide) ⟨by omega, by omega⟩ (fun wh6 => absurd wh6 (by decide)) (fun wh6 => ?_)
    refine aw_b kX7_ok bX7_wrongRow_7_ok (Cs := []) (pc' := 55) (L' := [some (aR 21 0), some (aI d), some (aI (-1))]) (st' := [aI (-1)]) (σ' := σ) rfl trivial ?_
    exact aw_iret dX7_wrongRow_55 rfl ⟨aret (by unfold lkF; (repeat' split) <;> omega), rfl⟩
set_option maxRecDepth 10000 in
theorem cM_wrongRow0 (l : Launch) (d : Int) (σ : aS) (hs : MSH σ) (hd : aIr d) : AM l 2 mX7_wrongRow [aR 21 0, aI d, aI 0] σ (aF (some (aI (if lkF (σ 26 0 d) d 2 = 0 then (if σ 29 0 d = 0 then 0 else -12) else lkF (σ 26 0 d) d 2))) σ) := by
  refine am_of (by decide) (Nat.le_of_ble_eq_true rfl) (L := [some (aR 21 0), some (aI d), some (aI 0)]) rfl ?_
  refine aw_b kX7_ok bX7_wrongRow_0_ok (Cs := []) (pc' := 1) (L' := [some (aR 21 0), some (aI d), some (aI 0)]) (st' := [aI d]) (σ' := σ) rfl trivial ?_
  refine aw_bS lX7_256 (as := [aI d]) (rest := []) (by decide) rfl (Nat.le_of_ble_eq_true rfl) rfl dX7_wrongRow_1 (cM_isShelf l d σ ⟨by omega, by omega⟩) (fun wh1 => ?_) (fun wh1 => ?_)
  · have bs := hs.1 d (by omega) (by omega)
    refine aw_ine dX7_wrongRow_4 (tgt := 11) (by decide) ⟨by omega, by omega⟩ (fun wh2 => ?_) (fun wh2 => absurd wh2 (by decide))
    refine aw_b kX7_ok bX7_wrongRow_11_ok (Cs := [0 < 1, 0 < 1, 0 ≤ d ∧ d < 8]) (pc' := 17) (L' := [some (aR 21 0), some (aI d), some (aI 0)]) (st' := [aI (σ 26 0 d)]) (σ' := σ) rfl (show (0 < 1) ∧ (0 < 1) ∧ (0 ≤ d ∧ d < 8) from ⟨by omega, by omega, by omega⟩) ?_
    refine aw_ine dX7_wrongRow_17 (tgt := 25) (by decide) ⟨by omega, by omega⟩ (fun wh3 => ?_) (fun wh3 => ?_)
    · refine aw_b kX7_ok bX7_wrongRow_25_ok (Cs := [0 < 1, 0 < 1, 0 ≤ d ∧ d < 8]) (pc' := 32) (L' := [some (aR 21 0), some (aI d), some (aI 0)]) (st' := [aI 2, aI (σ 26 0 d)]) (σ' := σ) rfl (show (0 < 1) ∧ (0 < 1) ∧ (0 ≤ d ∧ d < 8) from ⟨by omega, by omega, by omega⟩) ?_
      refine aw_cne dX7_wrongRow_32 (tgt := 49) (by decide) ⟨by omega, by omega⟩ ⟨by omega, by omega⟩ (fun wh4 => ?_) (fun wh4 => ?_)
      · refine aw_b kX7_ok bX7_wrongRow_49_ok (Cs := []) (pc' := 55) (L' := [some (aR 21 0), some (aI d), some (aI 0)]) (st' := [aI (-12)]) (σ' := σ) rfl trivial ?_
        exact aw_iret dX7_wrongRow_55 rfl ⟨aret (by unfold lkF; (repeat' split) <;> omega), rfl⟩
      · refine aw_b kX7_ok bX7_wrongRow_35_ok (Cs := []) (pc' := 36) (L' := [some (aR 21 0), some (aI d), some (aI 0)]) (st' := [aI 0]) (σ' := σ) rfl trivial ?_
        refine aw_ilt dX7_wrongRow_36 (tgt := 54) (by decide) ⟨by omega, by omega⟩ (fun wh5 => absurd wh5 (by decide)) (fun wh5 => ?_)
        refine aw_b kX7_ok bX7_wrongRow_39_ok (Cs := [0 < 1, 0 < 1, 0 ≤ d ∧ d < 8]) (pc' := 46) (L' := [some (aR 21 0), some (aI d), some (aI 0)]) (st' := [aI 0, aI (σ 29 0 d)]) (σ' := σ) rfl (show (0 < 1) ∧ (0 < 1) ∧ (0 ≤ d ∧ d < 8) from ⟨by omega, by omega, by omega⟩) ?_
        refine aw_ceq dX7_wrongRow_46 (tgt := 54) (by decide) ⟨by omega, by omega⟩ ⟨by omega, by omega⟩ (fun wh6 => ?_) (fun wh6 => ?_)
        · refine aw_b kX7_ok bX7_wrongRow_54_ok (Cs := []) (pc' := 55) (L' := [some (aR 21 0), some (aI d), some (aI 0)]) (st' := [aI 0]) (σ' := σ) rfl trivial ?_
          exact aw_iret dX7_wrongRow_55 rfl ⟨aret (by unfold lkF; (repeat' split) <;> omega), rfl⟩
        · refine aw_b kX7_ok bX7_wrongRow_49_ok (Cs := []) (pc' := 55) (L' := [some (aR 21 0), some (aI d), some (aI 0)]) (st' := [aI (-12)]) (σ' := σ) rfl trivial ?_
          exact aw_iret dX7_wrongRow_55 rfl ⟨aret (by unfold lkF; (repeat' split) <;> omega), rfl⟩
    · refine aw_b kX7_ok bX7_wrongRow_20_ok (Cs := []) (pc' := 55) (L' := [some (aR 21 0), some (aI d), some (aI 0)]) (st' := [aI (-11)]) (σ' := σ) rfl trivial ?_
      exact aw_iret dX7_wrongRow_55 rfl ⟨aret (by unfold lkF; (repeat' split) <;> omega), rfl⟩
  · refine aw_ine dX7_wrongRow_4 (tgt := 11) (by decide) ⟨by omega, by omega⟩ (fun wh7 => absurd wh7 (by decide)) (fun wh7 => ?_)
    refine aw_b kX7_ok bX7_wrongRow_7_ok (Cs := []) (pc' := 55) (L' := [some (aR 21 0), some (aI d), some (aI 0)]) (st' := [aI (-1)]) (σ' := σ) rfl trivial ?_
    exact aw_iret dX7_wrongRow_55 rfl ⟨aret (by unfold lkF; (repeat' split) <;> omega), rfl⟩
set_option maxRecDepth 10000 in
theorem cM_wrongKept (l : Launch) (d : Int) (σ : aS) (hs : MSH σ) (hd : aIr d) : AM l 2 mX7_wrongKept [aR 21 0, aI d] σ (aF (some (aI (lkF (σ 26 0 d) d 1))) σ) := by
  refine am_of (by decide) (Nat.le_of_ble_eq_true rfl) (L := [some (aR 21 0), some (aI d)]) rfl ?_
  refine aw_b kX7_ok bX7_wrongKept_0_ok (Cs := []) (pc' := 1) (L' := [some (aR 21 0), some (aI d)]) (st' := [aI d]) (σ' := σ) rfl trivial ?_
  refine aw_bS lX7_256 (as := [aI d]) (rest := []) (by decide) rfl (Nat.le_of_ble_eq_true rfl) rfl dX7_wrongKept_1 (cM_isShelf l d σ ⟨by omega, by omega⟩) (fun wh1 => ?_) (fun wh1 => ?_)
  · have bs := hs.1 d (by omega) (by omega)
    refine aw_ine dX7_wrongKept_4 (tgt := 11) (by decide) ⟨by omega, by omega⟩ (fun wh2 => ?_) (fun wh2 => absurd wh2 (by decide))
    refine aw_b kX7_ok bX7_wrongKept_11_ok (Cs := [0 < 1, 0 < 1, 0 ≤ d ∧ d < 8]) (pc' := 17) (L' := [some (aR 21 0), some (aI d)]) (st' := [aI (σ 26 0 d)]) (σ' := σ) rfl (show (0 < 1) ∧ (0 < 1) ∧ (0 ≤ d ∧ d < 8) from ⟨by omega, by omega, by omega⟩) ?_
    refine aw_ine dX7_wrongKept_17 (tgt := 25) (by decide) ⟨by omega, by omega⟩ (fun wh3 => ?_) (fun wh3 => ?_)
    · refine aw_b kX7_ok bX7_wrongKept_25_ok (Cs := [0 < 1, 0 < 1, 0 ≤ d ∧ d < 8]) (pc' := 32) (L' := [some (aR 21 0), some (aI d)]) (st' := [aI 2, aI (σ 26 0 d)]) (σ' := σ) rfl (show (0 < 1) ∧ (0 < 1) ∧ (0 ≤ d ∧ d < 8) from ⟨by omega, by omega, by omega⟩) ?_
      refine aw_cne dX7_wrongKept_32 (tgt := 40) (by decide) ⟨by omega, by omega⟩ ⟨by omega, by omega⟩ (fun wh4 => ?_) (fun wh4 => ?_)
      · refine aw_b kX7_ok bX7_wrongKept_40_ok (Cs := []) (pc' := 41) (L' := [some (aR 21 0), some (aI d)]) (st' := [aI 0]) (σ' := σ) rfl trivial ?_
        exact aw_iret dX7_wrongKept_41 rfl ⟨aret (by unfold lkF; (repeat' split) <;> omega), rfl⟩
      · refine aw_b kX7_ok bX7_wrongKept_35_ok (Cs := []) (pc' := 41) (L' := [some (aR 21 0), some (aI d)]) (st' := [aI (-12)]) (σ' := σ) rfl trivial ?_
        exact aw_iret dX7_wrongKept_41 rfl ⟨aret (by unfold lkF; (repeat' split) <;> omega), rfl⟩
    · refine aw_b kX7_ok bX7_wrongKept_20_ok (Cs := []) (pc' := 41) (L' := [some (aR 21 0), some (aI d)]) (st' := [aI (-11)]) (σ' := σ) rfl trivial ?_
      exact aw_iret dX7_wrongKept_41 rfl ⟨aret (by unfold lkF; (repeat' split) <;> omega), rfl⟩
  · refine aw_ine dX7_wrongKept_4 (tgt := 11) (by decide) ⟨by omega, by omega⟩ (fun wh5 => absurd wh5 (by decide)) (fun wh5 => ?_)
    refine aw_b kX7_ok bX7_wrongKept_7_ok (Cs := []) (pc' := 41) (L' := [some (aR 21 0), some (aI d)]) (st' := [aI (-1)]) (σ' := σ) rfl trivial ?_
    exact aw_iret dX7_wrongKept_41 rfl ⟨aret (by unfold lkF; (repeat' split) <;> omega), rfl⟩
theorem MSH.row {σ τ : aS} {X : aRw} (hs : MSH σ) (h : τ = aRow σ 1 X) : MSH τ := by
  refine ⟨fun d h0 h1 => ?_, fun i h0 h1 => ?_⟩
  · rw [rO h (by decide), rO h (by decide), rO h (by decide), rO h (by decide), rO h (by decide)]
    exact hs.1 d h0 h1
  · rw [rO h (by decide)]
    exact hs.2 i h0 h1
theorem mE_row {σ τ : aS} {X : aRw} (h : τ = aRow σ 1 X) (d i : Int) : mE τ d i = mE σ d i := rO h (by decide) _ _
set_option maxRecDepth 10000 in
theorem cM_holdsIn (l : Launch) (c : Nat) (hc : c < 4) (f p : Int) (σ : aS) (hw : WF (σ 22 c)) (f0 : 0 ≤ f) (f1 : f < 5) (hp : aIr p) : AM l 1 mX7_holdsIn [aR 22 c, aI f, aI p] σ (aF none (aRow σ c (hoR (σ 22 c) f p))) := by
  refine am_of (by decide) (Nat.le_of_ble_eq_true rfl) (L := [some (aR 22 c), some (aI f), some (aI p), none]) rfl ?_
  refine aw_b kX7_ok bX7_holdsIn_0_ok (Cs := []) (pc' := 2) (L' := [some (aR 22 c), some (aI f), some (aI p), none]) (st' := [aI p, aR 22 c]) (σ' := σ) rfl trivial ?_
  refine aw_fS lX7_64 (as := [aR 22 c, aI p]) (rest := []) (by decide) rfl (Nat.le_of_ble_eq_true rfl) rfl dX7_holdsIn_2 (cM_officeOf l c (by omega) p σ ⟨by omega, by omega⟩ hw) ?_
  have bo := off_rng (σ 22 c) p
  refine aw_b kX7_ok bX7_holdsIn_5_ok (Cs := []) (pc' := 7) (L' := [some (aR 22 c), some (aI f), some (aI p), some (aI (off (σ 22 c) p))]) (st' := [aI (off (σ 22 c) p)]) (σ' := σ) rfl trivial ?_
  refine aw_ilt dX7_holdsIn_7 (tgt := 18) (by decide) ⟨by omega, by omega⟩ (fun wh1 => ?_) (fun wh1 => ?_)
  · refine aw_b kX7_ok bX7_holdsIn_18_ok (Cs := [c < 4, 0 ≤ 8 + f ∧ 8 + f < 45]) (pc' := 25) (L' := [some (aR 22 c), some (aI f), some (aI p), some (aI (off (σ 22 c) p))]) (st' := []) (σ' := aUp σ 22 c (8 + f) p) rfl (show (c < 4) ∧ (0 ≤ 8 + f ∧ 8 + f < 45) from ⟨by omega, by omega⟩) ?_
    exact aw_vret dX7_holdsIn_25 rfl ⟨rfl, by rw [hoR_eq _ f0 f1, if_neg (by omega), aUp_row]⟩
  · refine aw_b kX7_ok bX7_holdsIn_10_ok (Cs := [c < 4, 0 ≤ 8 + (off (σ 22 c) p) ∧ 8 + (off (σ 22 c) p) < 45]) (pc' := 18) (L' := [some (aR 22 c), some (aI f), some (aI p), some (aI (off (σ 22 c) p))]) (st' := []) (σ' := aUp σ 22 c (8 + (off (σ 22 c) p)) (-4)) rfl (show (c < 4) ∧ (0 ≤ 8 + (off (σ 22 c) p) ∧ 8 + (off (σ 22 c) p) < 45) from ⟨by omega, by omega⟩) ?_
    refine aw_b kX7_ok bX7_holdsIn_18_ok (Cs := [c < 4, 0 ≤ 8 + f ∧ 8 + f < 45]) (pc' := 25) (L' := [some (aR 22 c), some (aI f), some (aI p), some (aI (off (σ 22 c) p))]) (st' := []) (σ' := aUp (aUp σ 22 c (8 + (off (σ 22 c) p)) (-4)) 22 c (8 + f) p) rfl (show (c < 4) ∧ (0 ≤ 8 + f ∧ 8 + f < 45) from ⟨by omega, by omega⟩) ?_
    exact aw_vret dX7_holdsIn_25 rfl ⟨rfl, by rw [hoR_eq _ f0 f1, if_pos (by omega), aUp_row (σ := σ), aUp_row2]⟩
set_option maxRecDepth 10000 in
theorem cM_forged (l : Launch) (d : Int) (σ : aS) (hw : WF (σ 22 0)) (hd : σ 22 0 1 ≤ 999) (hz : OZ (σ 22 1)) (hs : MSH σ) (hd2 : aIr d) : AM l 3 mX7_forged [aR 21 0, aI d] σ (QR (A_forged (σ 22 0) (mE σ d) (σ 26 0 d) (σ 30 0 d) d) σ) := by
  have bn := hw.1
  have b1 := hw.2.1
  have b2 := hw.2.2.1
  have h00 : σ = aRow σ 1 (σ 22 1) := aRow_id.symm
  refine am_of (by decide) (Nat.le_of_ble_eq_true rfl) (L := [some (aR 21 0), some (aI d), none, none]) rfl ?_
  refine aw_b kX7_ok bX7_forged_0_ok (Cs := []) (pc' := 3) (L' := [some (aR 21 0), some (aI d), none, none]) (st' := [aI (-1), aI d, aR 21 0]) (σ' := σ) rfl trivial ?_
  refine aw_fV lX7_138 (as := [aI d, aI (-1)]) (rest := []) (t := 21) (c := 0) (by decide) (by decide) (by decide) rfl rfl (Nat.le_of_ble_eq_true rfl) rfl dX7_forged_3 (cM_wrongRow1 l d σ hs ⟨by omega, by omega⟩) ?_
  have blk := lkF_rng (σ 26 0 d) d 2
  refine aw_b kX7_ok bX7_forged_6_ok (Cs := []) (pc' := 8) (L' := [some (aR 21 0), some (aI d), some (aI (lkF (σ 26 0 d) d 2)), none]) (st' := [aI (lkF (σ 26 0 d) d 2)]) (σ' := σ) rfl trivial ?_
  refine aw_ieq dX7_forged_8 (tgt := 13) (by decide) ⟨by omega, by omega⟩ (fun wh1 => ?_) (fun wh1 => ?_)
  · have hl := lkF_d (show lkF (σ 26 0 d) d 2 = 0 by omega)
    have bs := hs.1 d hl.1.1 hl.1.2
    refine aw_b kX7_ok bX7_forged_13_ok (Cs := []) (pc' := 15) (L' := [some (aR 21 0), some (aI d), some (aI (lkF (σ 26 0 d) d 2)), some (aI 0)]) (st' := []) (σ' := σ) rfl trivial ?_
    refine aloop (P := fun n : Nat => ∀ (hA : fgF (mE σ d) (σ 22 0) (σ 30 0 d).toNat 0 = fgF (mE σ d) (σ 22 0) ((σ 30 0 d).toNat - n) n), AW l 3 mX7_forged _ 15 [some (aR 21 0), some (aI d), some (aI (lkF (σ 26 0 d) d 2)), some (aI (n : Int))] [] σ) ((σ 30 0 d).toNat) (fun n hn ihn hA => ?_) rfl
    refine aw_b kX7_ok bX7_forged_15_ok (Cs := [0 < 1, 0 < 1, 0 ≤ d ∧ d < 8]) (pc' := 22) (L' := [some (aR 21 0), some (aI d), some (aI (lkF (σ 26 0 d) d 2)), some (aI (n : Int))]) (st' := [aI (σ 30 0 d), aI (n : Int)]) (σ' := σ) rfl (show (0 < 1) ∧ (0 < 1) ∧ (0 ≤ d ∧ d < 8) from ⟨by omega, by omega, by omega⟩) ?_
    refine aw_cge dX7_forged_22 (tgt := 80) (by decide) ⟨by omega, by omega⟩ ⟨by omega, by omega⟩ (fun wh2 => ?_) (fun wh2 => ?_)
    · refine aw_b kX7_ok bX7_forged_80_ok (Cs := []) (pc' := 82) (L' := [some (aR 21 0), some (aI d), some (aI (lkF (σ 26 0 d) d 2)), some (aI (n : Int))]) (st' := [aI (-4)]) (σ' := σ) rfl trivial ?_
      exact aw_iret dX7_forged_82 rfl ⟨aret (by unfold A_forged; rw [if_pos (by omega), hA, show (σ 30 0 d).toNat - n = 0 by omega]; rfl), ⟨_, hz, h00⟩⟩
    · have bh5 : n < 5 → ((σ 22 0) (8 + (n : Int)) = -4 ∨ (0 ≤ (σ 22 0) (8 + (n : Int)) ∧ (σ 22 0) (8 + (n : Int)) < (σ 22 0) 0)) := fun q => hw.ho (by omega) (by omega)
      have bto : ((n : Int) < 5 ∧ 0 ≤ (σ 22 0) (8 + (n : Int)) ∧ toF (σ 22 0) (n : Int) = (σ 22 0) (8 + (n : Int))) ∨ (¬ ((n : Int) < 5 ∧ 0 ≤ (σ 22 0) (8 + (n : Int))) ∧ toF (σ 22 0) (n : Int) = 9) := by unfold toF; split <;> omega
      have be := hs.2 (100 * d + (n : Int)) (by omega) (by omega)
      have hE : mE σ d (n : Int) = σ 31 0 (100 * d + (n : Int)) := rfl
      have hB : fgF (mE σ d) (σ 22 0) (σ 30 0 d).toNat 0 = (if (n : Int) < 5 ∧ mE σ d (n : Int) = toF (σ 22 0) (n : Int) then fgF (mE σ d) (σ 22 0) ((σ 30 0 d).toNat - (n + 1)) (n + 1) else (n : Int)) := by
        rw [hA, show (σ 30 0 d).toNat - n = ((σ 30 0 d).toNat - (n + 1)) + 1 by omega]; rfl
      refine aw_b kX7_ok bX7_forged_25_ok (Cs := []) (pc' := 26) (L' := [some (aR 21 0), some (aI d), some (aI (lkF (σ 26 0 d) d 2)), some (aI (n : Int))]) (st' := [aI (n : Int)]) (σ' := σ) rfl trivial ?_
      refine aw_bS lX7_125 (as := [aI (n : Int)]) (rest := []) (by decide) rfl (Nat.le_of_ble_eq_true rfl) rfl dX7_forged_26 (cM_isOffice l (n : Int) σ ⟨by omega, by omega⟩) (fun wh3 => ?_) (fun wh3 => ?_)
      · refine aw_ieq dX7_forged_29 (tgt := 72) (by decide) ⟨by omega, by omega⟩ (fun wh4 => absurd wh4 (by decide)) (fun wh4 => ?_)
        refine aw_b kX7_ok bX7_forged_32_ok (Cs := [0 < 1, 0 < 1, 0 ≤ (100 * d) + (n : Int) ∧ (100 * d) + (n : Int) < 800, 0 < 1, 0 < 4, 0 ≤ 8 + (n : Int) ∧ 8 + (n : Int) < 45]) (pc' := 52) (L' := [some (aR 21 0), some (aI d), some (aI (lkF (σ 26 0 d) d 2)), some (aI (n : Int))]) (st' := [aI (σ 22 0 (8 + (n : Int))), aI (σ 31 0 ((100 * d) + (n : Int)))]) (σ' := σ) rfl (show (0 < 1) ∧ (0 < 1) ∧ (0 ≤ (100 * d) + (n : Int) ∧ (100 * d) + (n : Int) < 800) ∧ (0 < 1) ∧ (0 < 4) ∧ (0 ≤ 8 + (n : Int) ∧ 8 + (n : Int) < 45) from ⟨by omega, by omega, by omega, by omega, by omega, by omega⟩) ?_
        refine aw_ige dX7_forged_52 (tgt := 60) (by decide) ⟨by omega, by omega⟩ (fun wh5 => ?_) (fun wh5 => ?_)
        · refine aw_b kX7_ok bX7_forged_60_ok (Cs := [0 < 1, 0 < 4, 0 ≤ 8 + (n : Int) ∧ 8 + (n : Int) < 45]) (pc' := 69) (L' := [some (aR 21 0), some (aI d), some (aI (lkF (σ 26 0 d) d 2)), some (aI (n : Int))]) (st' := [aI (σ 22 0 (8 + (n : Int))), aI (σ 31 0 ((100 * d) + (n : Int)))]) (σ' := σ) rfl (show (0 < 1) ∧ (0 < 4) ∧ (0 ≤ 8 + (n : Int) ∧ 8 + (n : Int) < 45) from ⟨by omega, by omega, by omega⟩) ?_
          refine aw_ceq dX7_forged_69 (tgt := 74) (by decide) ⟨by omega, by omega⟩ ⟨by omega, by omega⟩ (fun wh6 => ?_) (fun wh6 => ?_)
          · refine aw_b kX7_ok bX7_forged_74_ok (Cs := []) (pc' := 15) (L' := [some (aR 21 0), some (aI d), some (aI (lkF (σ 26 0 d) d 2)), some (aI ((n : Int) + 1))]) (st' := []) (σ' := σ) rfl trivial ?_
            exact ihn (by omega) (hB.trans (if_pos (by omega)))
          · refine aw_b kX7_ok bX7_forged_72_ok (Cs := []) (pc' := 73) (L' := [some (aR 21 0), some (aI d), some (aI (lkF (σ 26 0 d) d 2)), some (aI (n : Int))]) (st' := [aI (n : Int)]) (σ' := σ) rfl trivial ?_
            exact aw_iret dX7_forged_73 rfl ⟨aret (by unfold A_forged; rw [if_pos (by omega)]; exact (hB.trans (if_neg (by omega))).symm), ⟨_, hz, h00⟩⟩
        · refine aw_b kX7_ok bX7_forged_55_ok (Cs := []) (pc' := 69) (L' := [some (aR 21 0), some (aI d), some (aI (lkF (σ 26 0 d) d 2)), some (aI (n : Int))]) (st' := [aI 9, aI (σ 31 0 ((100 * d) + (n : Int)))]) (σ' := σ) rfl trivial ?_
          refine aw_ceq dX7_forged_69 (tgt := 74) (by decide) ⟨by omega, by omega⟩ ⟨by omega, by omega⟩ (fun wh7 => ?_) (fun wh7 => ?_)
          · refine aw_b kX7_ok bX7_forged_74_ok (Cs := []) (pc' := 15) (L' := [some (aR 21 0), some (aI d), some (aI (lkF (σ 26 0 d) d 2)), some (aI ((n : Int) + 1))]) (st' := []) (σ' := σ) rfl trivial ?_
            exact ihn (by omega) (hB.trans (if_pos (by omega)))
          · refine aw_b kX7_ok bX7_forged_72_ok (Cs := []) (pc' := 73) (L' := [some (aR 21 0), some (aI d), some (aI (lkF (σ 26 0 d) d 2)), some (aI (n : Int))]) (st' := [aI (n : Int)]) (σ' := σ) rfl trivial ?_
            exact aw_iret dX7_forged_73 rfl ⟨aret (by unfold A_forged; rw [if_pos (by omega)]; exact (hB.trans (if_neg (by omega))).symm), ⟨_, hz, h00⟩⟩
      · refine aw_ieq dX7_forged_29 (tgt := 72) (by decide) ⟨by omega, by omega⟩ (fun wh8 => ?_) (fun wh8 => absurd wh8 (by decide))
        refine aw_b kX7_ok bX7_forged_72_ok (Cs := []) (pc' := 73) (L' := [some (aR 21 0), some (aI d), some (aI (lkF (σ 26 0 d) d 2)), some (aI (n : Int))]) (st' := [aI (n : Int)]) (σ' := σ) rfl trivial ?_
        exact aw_iret dX7_forged_73 rfl ⟨aret (by unfold A_forged; rw [if_pos (by omega)]; exact (hB.trans (if_neg (by omega))).symm), ⟨_, hz, h00⟩⟩
  · refine aw_b kX7_ok bX7_forged_11_ok (Cs := []) (pc' := 12) (L' := [some (aR 21 0), some (aI d), some (aI (lkF (σ 26 0 d) d 2)), none]) (st' := [aI (lkF (σ 26 0 d) d 2)]) (σ' := σ) rfl trivial ?_
    exact aw_iret dX7_forged_12 rfl ⟨aret (by unfold A_forged; rw [if_neg (by omega)]), ⟨_, hz, h00⟩⟩
set_option maxRecDepth 10000 in
theorem cM_judge (l : Launch) (d : Int) (σ : aS) (hw : WF (σ 22 0)) (hd : σ 22 0 1 ≤ 999) (hz : OZ (σ 22 1)) (hs : MSH σ) (hd2 : aIr d) : AM l 4 mX7_judge [aR 21 0, aI d] σ (QR (A_judge (σ 22 0) (mE σ d) (σ 26 0 d) (σ 29 0 d) (σ 30 0 d) d) σ) := by
  have bn := hw.1
  have b1 := hw.2.1
  have b2 := hw.2.2.1
  have h00 : σ = aRow σ 1 (σ 22 1) := aRow_id.symm
  refine am_of (by decide) (Nat.le_of_ble_eq_true rfl) (L := [some (aR 21 0), some (aI d), none, none]) rfl ?_
  refine aw_b kX7_ok bX7_judge_0_ok (Cs := []) (pc' := 3) (L' := [some (aR 21 0), some (aI d), none, none]) (st' := [aI (-1), aI d, aR 21 0]) (σ' := σ) rfl trivial ?_
  refine aw_fV lX7_138 (as := [aI d, aI (-1)]) (rest := []) (t := 21) (c := 0) (by decide) (by decide) (by decide) rfl rfl (Nat.le_of_ble_eq_true rfl) rfl dX7_judge_3 (cM_wrongRow1 l d σ hs ⟨by omega, by omega⟩) ?_
  have blk := lkF_rng (σ 26 0 d) d 2
  refine aw_b kX7_ok bX7_judge_6_ok (Cs := []) (pc' := 8) (L' := [some (aR 21 0), some (aI d), some (aI (lkF (σ 26 0 d) d 2)), none]) (st' := [aI (lkF (σ 26 0 d) d 2)]) (σ' := σ) rfl trivial ?_
  refine aw_ieq dX7_judge_8 (tgt := 13) (by decide) ⟨by omega, by omega⟩ (fun wh1 => ?_) (fun wh1 => ?_)
  · have hl := lkF_d (show lkF (σ 26 0 d) d 2 = 0 by omega)
    have bs := hs.1 d hl.1.1 hl.1.2
    refine aw_b kX7_ok bX7_judge_13_ok (Cs := [0 < 1, 0 < 1]) (pc' := 21) (L' := [some (aR 21 0), some (aI d), some (aI (lkF (σ 26 0 d) d 2)), none]) (st' := [aR 22 1, aR 22 0]) (σ' := σ) rfl (show (0 < 1) ∧ (0 < 1) from ⟨by omega, by omega⟩) ?_
    refine aw_callS lX7_145 (as := [aR 22 0, aR 22 1]) (rest := []) (by decide) rfl (Nat.le_of_ble_eq_true rfl) rfl dX7_judge_21 (cM_cpS l σ σ _ h00 hw hz) ?_
    rintro _ τ1 ⟨rfl, hτ1⟩
    have m1 := (rS hτ1).1
    have s1 := (rS hτ1).2
    refine aw_b kX7_ok bX7_judge_24_ok (Cs := []) (pc' := 26) (L' := [some (aR 21 0), some (aI d), some (aI (lkF (σ 26 0 d) d 2)), some (aI 0)]) (st' := []) (σ' := τ1) rfl trivial ?_
    refine aloop (P := fun n : Nat => ∀ (τ : aS) (hτ : τ = aRow σ 1 (dysR (σ 22 0) n)) (hA : fuF (mE σ d) (leF (σ 29 0 d)) (mzD 2 0 (σ 22 0)) (σ 30 0 d).toNat 0 = fuF (mE σ d) (leF (σ 29 0 d)) (mzD 2 0 (σ 22 0)) ((σ 30 0 d).toNat - n) n), AW l 4 mX7_judge _ 26 [some (aR 21 0), some (aI d), some (aI (lkF (σ 26 0 d) d 2)), some (aI (n : Int))] [] τ) ((σ 30 0 d).toNat) (fun n hn ihn τ hτ hA => ?_) τ1 hτ1 rfl
    have m := (rS hτ).1
    have hsτ := hs.row hτ
    have eEτ := mE_row hτ d
    have e30 : τ 30 0 d = σ 30 0 d := rO hτ (by decide) _ _
    have e29 : τ 29 0 d = σ 29 0 d := rO hτ (by decide) _ _
    have wX := dysR_wf hw n
    have eX := dysR_0 (σ 22 0) n
    have eEn := eEτ (n : Int)
    have ele : leF (τ 29 0 d) = leF (σ 29 0 d) := by rw [e29]
    have hg : mzD 2 0 (σ 22 0) n = bcN (hbN (dysR (σ 22 0) n) 5) 8 := rfl
    refine aw_b kX7_ok bX7_judge_26_ok (Cs := [0 < 1, 0 < 1, 0 ≤ d ∧ d < 8]) (pc' := 33) (L' := [some (aR 21 0), some (aI d), some (aI (lkF (σ 26 0 d) d 2)), some (aI (n : Int))]) (st' := [aI (τ 30 0 d), aI (n : Int)]) (σ' := τ) rfl (show (0 < 1) ∧ (0 < 1) ∧ (0 ≤ d ∧ d < 8) from ⟨by omega, by omega, by omega⟩) ?_
    refine aw_cge dX7_judge_33 (tgt := 70) (by decide) ⟨by omega, by omega⟩ ⟨by omega, by omega⟩ (fun wh2 => ?_) (fun wh2 => ?_)
    · refine aw_b kX7_ok bX7_judge_70_ok (Cs := []) (pc' := 72) (L' := [some (aR 21 0), some (aI d), some (aI (lkF (σ 26 0 d) d 2)), some (aI (n : Int))]) (st' := [aI (-4)]) (σ' := τ) rfl trivial ?_
      exact aw_iret dX7_judge_72 rfl ⟨aret (by unfold A_judge; rw [if_pos (by omega), hA, show (σ 30 0 d).toNat - n = 0 by omega]; rfl), ⟨_, wX.oz, hτ⟩⟩
    · have hB : fuF (mE σ d) (leF (σ 29 0 d)) (mzD 2 0 (σ 22 0)) (σ 30 0 d).toNat 0 = (if mE σ d (n : Int) = leF (σ 29 0 d) ∨ mE σ d (n : Int) = mzD 2 0 (σ 22 0) n then fuF (mE σ d) (leF (σ 29 0 d)) (mzD 2 0 (σ 22 0)) ((σ 30 0 d).toNat - (n + 1)) (n + 1) else (n : Int)) := by
        rw [hA, show (σ 30 0 d).toNat - n = ((σ 30 0 d).toNat - (n + 1)) + 1 by omega]; rfl
      refine aw_b kX7_ok bX7_judge_36_ok (Cs := [0 < 1]) (pc' := 43) (L' := [some (aR 21 0), some (aI d), some (aI (lkF (σ 26 0 d) d 2)), some (aI (n : Int))]) (st' := [aR 22 1, aI (n : Int), aI d, aR 21 0]) (σ' := τ) rfl (show 0 < 1 from by omega) ?_
      have hhi := cM_heldIn l 1 (by decide) τ (by rw [m]; exact wX)
      rw [m] at hhi
      have gh := hbN_rng (dysR (σ 22 0) n) 5
      refine aw_fS lX7_177 (as := [aR 22 1]) (rest := [aI (n : Int), aI d, aR 21 0]) (by decide) rfl (Nat.le_of_ble_eq_true rfl) rfl dX7_judge_43 (hhi) ?_
      refine aw_fS lX7_155 (as := [aI (hbN (dysR (σ 22 0) n) 5)]) (rest := [aI (n : Int), aI d, aR 21 0]) (by decide) rfl (Nat.le_of_ble_eq_true rfl) rfl dX7_judge_46 (cM_bits l (hbN (dysR (σ 22 0) n) 5) τ gh.1 (by have := gh.2; omega)) ?_
      have bhc : 0 ≤ bcN (hbN (dysR (σ 22 0) n) 5) 8 ∧ bcN (hbN (dysR (σ 22 0) n) 5) 8 ≤ 8 := hcR_rng (dysR (σ 22 0) n)
      refine aw_bV lX7_217 (as := [aI d, aI (n : Int), aI (bcN (hbN (dysR (σ 22 0) n) 5) 8)]) (rest := []) (t := 21) (c := 0) (by decide) (by decide) (by decide) rfl rfl (Nat.le_of_ble_eq_true rfl) rfl dX7_judge_49 (cM_isTold l d (n : Int) (bcN (hbN (dysR (σ 22 0) n) 5) 8) τ hsτ (by omega) (by omega) (by omega) (by omega) ⟨by omega, by omega⟩) (fun wh3 => ?_) (fun wh3 => ?_)
      · refine aw_ine dX7_judge_52 (tgt := 57) (by decide) ⟨by omega, by omega⟩ (fun wh4 => ?_) (fun wh4 => absurd wh4 (by decide))
        refine aw_b kX7_ok bX7_judge_57_ok (Cs := [0 < 1]) (pc' := 61) (L' := [some (aR 21 0), some (aI d), some (aI (lkF (σ 26 0 d) d 2)), some (aI (n : Int))]) (st' := [aR 22 1]) (σ' := τ) rfl (show 0 < 1 from by omega) ?_
        refine aw_callS lX7_95 (as := [aR 22 1]) (rest := []) (by decide) rfl (Nat.le_of_ble_eq_true rfl) rfl dX7_judge_61 (cM_dayS l σ τ _ hτ wX (by omega)) ?_
        rintro _ τ9 ⟨rfl, hτ9⟩
        refine aw_b kX7_ok bX7_judge_64_ok (Cs := []) (pc' := 26) (L' := [some (aR 21 0), some (aI d), some (aI (lkF (σ 26 0 d) d 2)), some (aI ((n : Int) + 1))]) (st' := []) (σ' := τ9) rfl trivial ?_
        exact ihn (by omega) τ9 hτ9 (hB.trans (if_pos (by omega)))
      · refine aw_ine dX7_judge_52 (tgt := 57) (by decide) ⟨by omega, by omega⟩ (fun wh5 => absurd wh5 (by decide)) (fun wh5 => ?_)
        refine aw_b kX7_ok bX7_judge_55_ok (Cs := []) (pc' := 56) (L' := [some (aR 21 0), some (aI d), some (aI (lkF (σ 26 0 d) d 2)), some (aI (n : Int))]) (st' := [aI (n : Int)]) (σ' := τ) rfl trivial ?_
        exact aw_iret dX7_judge_56 rfl ⟨aret (by unfold A_judge; rw [if_pos (by omega)]; exact (hB.trans (if_neg (by omega))).symm), ⟨_, wX.oz, hτ⟩⟩
  · refine aw_b kX7_ok bX7_judge_11_ok (Cs := []) (pc' := 12) (L' := [some (aR 21 0), some (aI d), some (aI (lkF (σ 26 0 d) d 2)), none]) (st' := [aI (lkF (σ 26 0 d) d 2)]) (σ' := σ) rfl trivial ?_
    exact aw_iret dX7_judge_12 rfl ⟨aret (by unfold A_judge; rw [if_neg (by omega)]), ⟨_, hz, h00⟩⟩
set_option maxRecDepth 10000 in
theorem cM_whatIs (l : Launch) (d p w : Int) (σ : aS) (hw : WF (σ 22 0)) (hd : σ 22 0 1 ≤ 999) (hz : OZ (σ 22 1)) (hs : MSH σ) (hd2 : aIr d) (hp : aIr p) (hv : aIr w) : AM l 4 mX7_whatIs [aR 21 0, aI d, aI p, aI w] σ (QR (A_whatIs (σ 22 0) (mE σ d) (σ 26 0 d) (σ 29 0 d) (σ 30 0 d) d p w) σ) := by
  have bn := hw.1
  have b1 := hw.2.1
  have b2 := hw.2.2.1
  have h00 : σ = aRow σ 1 (σ 22 1) := aRow_id.symm
  refine am_of (by decide) (Nat.le_of_ble_eq_true rfl) (L := [some (aR 21 0), some (aI d), some (aI p), some (aI w), none, none, none, none, none]) rfl ?_
  refine aw_b kX7_ok bX7_whatIs_0_ok (Cs := []) (pc' := 2) (L' := [some (aR 21 0), some (aI d), some (aI p), some (aI w), none, none, none, none, none]) (st' := [aI p, aR 21 0]) (σ' := σ) rfl trivial ?_
  refine aw_bV lX7_128 (as := [aI p]) (rest := []) (t := 21) (c := 0) (by decide) (by decide) (by decide) rfl rfl (Nat.le_of_ble_eq_true rfl) rfl dX7_whatIs_2 (cM_isOne l p σ ⟨by omega, by omega⟩ (by omega)) (fun wh1 => ?_) (fun wh1 => ?_)
  · refine aw_ieq dX7_whatIs_5 (tgt := 17) (by decide) ⟨by omega, by omega⟩ (fun wh2 => absurd wh2 (by decide)) (fun wh2 => ?_)
    refine aw_b kX7_ok bX7_whatIs_8_ok (Cs := []) (pc' := 11) (L' := [some (aR 21 0), some (aI d), some (aI p), some (aI w), none, none, none, none, none]) (st' := [aI 1, aI 0, aI w]) (σ' := σ) rfl trivial ?_
    refine aw_bS lX7_49 (as := [aI w, aI 0, aI 1]) (rest := []) (by decide) rfl (Nat.le_of_ble_eq_true rfl) rfl dX7_whatIs_11 (cM_isIn l w 0 1 σ ⟨by omega, by omega⟩ ⟨by omega, by omega⟩ ⟨by omega, by omega⟩) (fun wh3 => ?_) (fun wh3 => ?_)
    · refine aw_ine dX7_whatIs_14 (tgt := 19) (by decide) ⟨by omega, by omega⟩ (fun wh4 => ?_) (fun wh4 => absurd wh4 (by decide))
      refine aw_b kX7_ok bX7_whatIs_19_ok (Cs := []) (pc' := 22) (L' := [some (aR 21 0), some (aI d), some (aI p), some (aI w), none, none, none, none, none]) (st' := [aI (-1), aI d, aR 21 0]) (σ' := σ) rfl trivial ?_
      refine aw_fV lX7_138 (as := [aI d, aI (-1)]) (rest := []) (t := 21) (c := 0) (by decide) (by decide) (by decide) rfl rfl (Nat.le_of_ble_eq_true rfl) rfl dX7_whatIs_22 (cM_wrongRow1 l d σ hs ⟨by omega, by omega⟩) ?_
      have blk := lkF_rng (σ 26 0 d) d 2
      refine aw_b kX7_ok bX7_whatIs_25_ok (Cs := []) (pc' := 29) (L' := [some (aR 21 0), some (aI d), some (aI p), some (aI w), some (aI (lkF (σ 26 0 d) d 2)), none, none, none, none]) (st' := [aI (lkF (σ 26 0 d) d 2)]) (σ' := σ) rfl trivial ?_
      refine aw_ieq dX7_whatIs_29 (tgt := 35) (by decide) ⟨by omega, by omega⟩ (fun wh5 => ?_) (fun wh5 => ?_)
      · have hl := lkF_d (show lkF (σ 26 0 d) d 2 = 0 by omega)
        have bs := hs.1 d hl.1.1 hl.1.2
        have ba := aOf_rng (p := p) (w := w) (by omega) (by omega) (by omega) (by omega)
        have bk := aOf_rng (p := p) (w := 2) (by omega) (by omega) (by decide) (by decide)
        refine aw_b kX7_ok bX7_whatIs_35_ok (Cs := []) (pc' := 41) (L' := [some (aR 21 0), some (aI d), some (aI p), some (aI w), some (aI (lkF (σ 26 0 d) d 2)), some (aI 0), some (aI 0), none, none]) (st' := []) (σ' := σ) rfl trivial ?_
        refine aloop (P := fun v : Nat => ∀ (ρ : aS) (X : aRw) (hX : OZ X) (hρ : ρ = aRow σ 1 X), AW l 4 mX7_whatIs _ 41 [some (aR 21 0), some (aI d), some (aI p), some (aI w), some (aI (lkF (σ 26 0 d) d 2)), some (aI (btN (wiB (σ 22 0) (mE σ d) (leF (σ 29 0 d)) (σ 30 0 d) p w) v)), some (aI (v : Int)), none, none] [] ρ) (if w = 0 then 8 else 10) (fun v hv ihv ρ X hX hρ => ?_) σ _ hz h00
        have hv10 : v ≤ 10 := by split at hv <;> omega
        have hvw : (w = 0 ∧ v ≤ 8) ∨ (¬ w = 0 ∧ v ≤ 10) := by split at hv <;> omega
        refine aw_b kX7_ok bX7_whatIs_41_ok (Cs := []) (pc' := 44) (L' := [some (aR 21 0), some (aI d), some (aI p), some (aI w), some (aI (lkF (σ 26 0 d) d 2)), some (aI (btN (wiB (σ 22 0) (mE σ d) (leF (σ 29 0 d)) (σ 30 0 d) p w) v)), some (aI (v : Int)), none, none]) (st' := [aI w, aI (v : Int)]) (σ' := ρ) rfl trivial ?_
        refine aw_ine dX7_whatIs_44 (tgt := 52) (by decide) ⟨by omega, by omega⟩ (fun wh6 => ?_) (fun wh6 => ?_)
        · refine aw_b kX7_ok bX7_whatIs_52_ok (Cs := []) (pc' := 54) (L' := [some (aR 21 0), some (aI d), some (aI p), some (aI w), some (aI (lkF (σ 26 0 d) d 2)), some (aI (btN (wiB (σ 22 0) (mE σ d) (leF (σ 29 0 d)) (σ 30 0 d) p w) v)), some (aI (v : Int)), none, none]) (st' := [aI 10, aI (v : Int)]) (σ' := ρ) rfl trivial ?_
          refine aw_cge dX7_whatIs_54 (tgt := 156) (by decide) ⟨by omega, by omega⟩ ⟨by omega, by omega⟩ (fun wh7 => ?_) (fun wh7 => ?_)
          · refine aw_b kX7_ok bX7_whatIs_156_ok (Cs := []) (pc' := 158) (L' := [some (aR 21 0), some (aI d), some (aI p), some (aI w), some (aI (lkF (σ 26 0 d) d 2)), some (aI (btN (wiB (σ 22 0) (mE σ d) (leF (σ 29 0 d)) (σ 30 0 d) p w) v)), some (aI (v : Int)), none, none]) (st' := [aI (btN (wiB (σ 22 0) (mE σ d) (leF (σ 29 0 d)) (σ 30 0 d) p w) v)]) (σ' := ρ) rfl trivial ?_
            exact aw_iret dX7_whatIs_158 rfl ⟨aret (by unfold A_whatIs; rw [if_pos (by omega), if_pos (by omega), show (if w = 0 then 8 else 10) = v by split <;> omega]), ⟨_, hX, hρ⟩⟩
          · refine aw_b kX7_ok bX7_whatIs_57_ok (Cs := [0 < 1, 0 < 1]) (pc' := 68) (L' := [some (aR 21 0), some (aI d), some (aI p), some (aI w), some (aI (lkF (σ 26 0 d) d 2)), some (aI (btN (wiB (σ 22 0) (mE σ d) (leF (σ 29 0 d)) (σ 30 0 d) p w) v)), some (aI (v : Int)), some (aI 1), none]) (st' := [aR 22 1, aR 22 0]) (σ' := ρ) rfl (show (0 < 1) ∧ (0 < 1) from ⟨by omega, by omega⟩) ?_
            refine aw_callS lX7_145 (as := [aR 22 0, aR 22 1]) (rest := []) (by decide) rfl (Nat.le_of_ble_eq_true rfl) rfl dX7_whatIs_68 (cM_cpS l σ ρ _ hρ hw hX) ?_
            rintro _ τ1 ⟨rfl, hτ1⟩
            have m1 := (rS hτ1).1
            have s1 := (rS hτ1).2
            refine aw_b kX7_ok bX7_whatIs_71_ok (Cs := [0 < 1]) (pc' := 77) (L' := [some (aR 21 0), some (aI d), some (aI p), some (aI w), some (aI (lkF (σ 26 0 d) d 2)), some (aI (btN (wiB (σ 22 0) (mE σ d) (leF (σ 29 0 d)) (σ 30 0 d) p w) v)), some (aI (v : Int)), some (aI 1), none]) (st' := [aI w, aI p, aR 22 1]) (σ' := τ1) rfl (show 0 < 1 from by omega) ?_
            refine aw_fS lX7_57 (as := [aI p, aI w]) (rest := [aR 22 1]) (by decide) rfl (Nat.le_of_ble_eq_true rfl) rfl dX7_whatIs_77 (cM_of l p w τ1) ?_
            refine aw_b kX7_ok bX7_whatIs_80_ok (Cs := [1 < 4, 0 ≤ aOf p w ∧ aOf p w < 45]) (pc' := 86) (L' := [some (aR 21 0), some (aI d), some (aI p), some (aI w), some (aI (lkF (σ 26 0 d) d 2)), some (aI (btN (wiB (σ 22 0) (mE σ d) (leF (σ 29 0 d)) (σ 30 0 d) p w) v)), some (aI (v : Int)), some (aI 1), some (aI 0)]) (st' := []) (σ' := aUp τ1 22 1 (aOf p w) (v : Int)) rfl (show (1 < 4) ∧ (0 ≤ aOf p w ∧ aOf p w < 45) from ⟨by omega, by omega⟩) ?_
            obtain ⟨τ2, e2⟩ : ∃ τ2, τ2 = aUp τ1 22 1 (aOf p w) (v : Int) := ⟨_, rfl⟩
            refine aw_eq rfl rfl (σ' := τ2) e2.symm ?_
            have hτ2 := e2.trans (aUp1_row hτ1)
            have m2 := (rS hτ2).1
            have s2 := (rS hτ2).2
            have hwX : WF (rUp (σ 22 0) (aOf p w) (v : Int)) := by
              rcases (show w = 0 ∨ w = 1 by omega) with rfl | rfl
              · exact WF_kind hw (by omega) (by omega) (by split at hv <;> omega)
              · exact WF_fig hw (by omega) (by omega) (by split at hv <;> omega)
            have e1X : (rUp (σ 22 0) (aOf p w) (v : Int)) 1 = σ 22 0 1 := rUp_ne (by omega)
            have e0X : (rUp (σ 22 0) (aOf p w) (v : Int)) 0 = σ 22 0 0 := rUp_ne (by omega)
            refine aloop (P := fun i : Nat => ∀ (τ : aS) (z : Int) (hτ : τ = aRow σ 1 (dysR (rUp (σ 22 0) (aOf p w) (v : Int)) i)) (hz1 : z = 0 ∨ z = 1) (hA : z = 1 ↔ ∀ j : Nat, j < i → (mE σ d (j : Int) = leF (σ 29 0 d) ∨ mE σ d (j : Int) = (mzD 0 p (rUp (σ 22 0) (aOf p w) (v : Int))) j)), AW l 4 mX7_whatIs _ 86 [some (aR 21 0), some (aI d), some (aI p), some (aI w), some (aI (lkF (σ 26 0 d) d 2)), some (aI (btN (wiB (σ 22 0) (mE σ d) (leF (σ 29 0 d)) (σ 30 0 d) p w) v)), some (aI (v : Int)), some (aI z), some (aI (i : Int))] [] τ) ((σ 30 0 d).toNat) (fun i hi ihi τ z hτ hz1 hA => ?_) τ2 1 hτ2 (Or.inr rfl) ⟨fun _ j hj => by omega, fun _ => rfl⟩
            have m := (rS hτ).1
            have hsτ := hs.row hτ
            have eEτ := mE_row hτ d
            have e30 : τ 30 0 d = σ 30 0 d := rO hτ (by decide) _ _
            have e29 : τ 29 0 d = σ 29 0 d := rO hτ (by decide) _ _
            have wX := dysR_wf hwX i
            have eX := dysR_0 (rUp (σ 22 0) (aOf p w) (v : Int)) i
            have eEn := eEτ (i : Int)
            have ele : leF (τ 29 0 d) = leF (σ 29 0 d) := by rw [e29]
            refine aw_b kX7_ok bX7_whatIs_86_ok (Cs := [0 < 1, 0 < 1, 0 ≤ d ∧ d < 8]) (pc' := 94) (L' := [some (aR 21 0), some (aI d), some (aI p), some (aI w), some (aI (lkF (σ 26 0 d) d 2)), some (aI (btN (wiB (σ 22 0) (mE σ d) (leF (σ 29 0 d)) (σ 30 0 d) p w) v)), some (aI (v : Int)), some (aI z), some (aI (i : Int))]) (st' := [aI (τ 30 0 d), aI (i : Int)]) (σ' := τ) rfl (show (0 < 1) ∧ (0 < 1) ∧ (0 ≤ d ∧ d < 8) from ⟨by omega, by omega, by omega⟩) ?_
            refine aw_cge dX7_whatIs_94 (tgt := 132) (by decide) ⟨by omega, by omega⟩ ⟨by omega, by omega⟩ (fun wh8 => ?_) (fun wh8 => ?_)
            · refine aw_b kX7_ok bX7_whatIs_132_ok (Cs := []) (pc' := 136) (L' := [some (aR 21 0), some (aI d), some (aI p), some (aI w), some (aI (lkF (σ 26 0 d) d 2)), some (aI (btN (wiB (σ 22 0) (mE σ d) (leF (σ 29 0 d)) (σ 30 0 d) p w) v)), some (aI (v : Int)), some (aI z), some (aI (i : Int))]) (st' := [aI z, aI (btN (wiB (σ 22 0) (mE σ d) (leF (σ 29 0 d)) (σ 30 0 d) p w) v)]) (σ' := τ) rfl trivial ?_
              refine aw_ieq dX7_whatIs_136 (tgt := 146) (by decide) ⟨by omega, by omega⟩ (fun wh9 => ?_) (fun wh9 => ?_)
              · have hno : ¬ ∀ j : Nat, 0 ≤ j → j < 0 + (σ 30 0 d).toNat → (mE σ d (j : Int) = leF (σ 29 0 d) ∨ mE σ d (j : Int) = (mzD 0 p (rUp (σ 22 0) (aOf p w) (v : Int))) j) := fun q => by have := hA.mpr (fun j hj => q j (by omega) (by omega)); omega
                refine aw_b kX7_ok bX7_whatIs_146_ok (Cs := []) (pc' := 147) (L' := [some (aR 21 0), some (aI d), some (aI p), some (aI w), some (aI (lkF (σ 26 0 d) d 2)), some (aI (btN (wiB (σ 22 0) (mE σ d) (leF (σ 29 0 d)) (σ 30 0 d) p w) v)), some (aI (v : Int)), some (aI z), some (aI (i : Int))]) (st' := [aI 0, aI (btN (wiB (σ 22 0) (mE σ d) (leF (σ 29 0 d)) (σ 30 0 d) p w) v)]) (σ' := τ) rfl trivial ?_
                refine aw_b kX7_ok bX7_whatIs_147_ok (Cs := []) (pc' := 41) (L' := [some (aR 21 0), some (aI d), some (aI p), some (aI w), some (aI (lkF (σ 26 0 d) d 2)), some (aI (aOr (btN (wiB (σ 22 0) (mE σ d) (leF (σ 29 0 d)) (σ 30 0 d) p w) v) 0)), some (aI ((v : Int) + 1)), some (aI z), some (aI (i : Int))]) (st' := []) (σ' := τ) rfl trivial ?_
                refine aw_drop [7, 8] (L' := [some (aR 21 0), some (aI d), some (aI p), some (aI w), some (aI (lkF (σ 26 0 d) d 2)), some (aI (aOr (btN (wiB (σ 22 0) (mE σ d) (leF (σ 29 0 d)) (σ 30 0 d) p w) v) 0)), some (aI ((v : Int) + 1)), none, none]) rfl ?_
                have e1 : aOr (btN (wiB (σ 22 0) (mE σ d) (leF (σ 29 0 d)) (σ 30 0 d) p w) v) 0 = btN (wiB (σ 22 0) (mE σ d) (leF (σ 29 0 d)) (σ 30 0 d) p w) (v + 1) := by rw [(btN_step _ (by omega)).2]; exact btN_f (fun q => hno ((fu_all _ _ _ _ _).mp (of_decide_eq_true q)))
                exact aw_eq (by rw [e1]; rfl) rfl rfl (ihv (by split <;> omega) τ _ wX.oz hτ)
              · have hyes : ∀ j : Nat, 0 ≤ j → j < 0 + (σ 30 0 d).toNat → (mE σ d (j : Int) = leF (σ 29 0 d) ∨ mE σ d (j : Int) = (mzD 0 p (rUp (σ 22 0) (aOf p w) (v : Int))) j) := fun j h0 h1 => hA.mp (by omega) j (by omega)
                refine aw_b kX7_ok bX7_whatIs_139_ok (Cs := [0 ≤ (v : Int) ∧ (v : Int) < 32]) (pc' := 147) (L' := [some (aR 21 0), some (aI d), some (aI p), some (aI w), some (aI (lkF (σ 26 0 d) d 2)), some (aI (btN (wiB (σ 22 0) (mE σ d) (leF (σ 29 0 d)) (σ 30 0 d) p w) v)), some (aI (v : Int)), some (aI z), some (aI (i : Int))]) (st' := [aI (1 * 2 ^ (Int.toNat (v : Int))), aI (btN (wiB (σ 22 0) (mE σ d) (leF (σ 29 0 d)) (σ 30 0 d) p w) v)]) (σ' := τ) rfl (show 0 ≤ (v : Int) ∧ (v : Int) < 32 from by omega) ?_
                refine aw_b kX7_ok bX7_whatIs_147_ok (Cs := []) (pc' := 41) (L' := [some (aR 21 0), some (aI d), some (aI p), some (aI w), some (aI (lkF (σ 26 0 d) d 2)), some (aI (aOr (btN (wiB (σ 22 0) (mE σ d) (leF (σ 29 0 d)) (σ 30 0 d) p w) v) (1 * 2 ^ (Int.toNat (v : Int))))), some (aI ((v : Int) + 1)), some (aI z), some (aI (i : Int))]) (st' := []) (σ' := τ) rfl trivial ?_
                refine aw_drop [7, 8] (L' := [some (aR 21 0), some (aI d), some (aI p), some (aI w), some (aI (lkF (σ 26 0 d) d 2)), some (aI (aOr (btN (wiB (σ 22 0) (mE σ d) (leF (σ 29 0 d)) (σ 30 0 d) p w) v) (1 * 2 ^ (Int.toNat (v : Int))))), some (aI ((v : Int) + 1)), none, none]) rfl ?_
                have e1 : aOr (btN (wiB (σ 22 0) (mE σ d) (leF (σ 29 0 d)) (σ 30 0 d) p w) v) (1 * 2 ^ (Int.toNat (v : Int))) = btN (wiB (σ 22 0) (mE σ d) (leF (σ 29 0 d)) (σ 30 0 d) p w) (v + 1) := btN_t (by omega) (decide_eq_true ((fu_all _ _ _ _ _).mpr hyes))
                exact aw_eq (by rw [e1]; rfl) rfl rfl (ihv (by split <;> omega) τ _ wX.oz hτ)
            · refine aw_b kX7_ok bX7_whatIs_97_ok (Cs := [0 < 1]) (pc' := 109) (L' := [some (aR 21 0), some (aI d), some (aI p), some (aI w), some (aI (lkF (σ 26 0 d) d 2)), some (aI (btN (wiB (σ 22 0) (mE σ d) (leF (σ 29 0 d)) (σ 30 0 d) p w) v)), some (aI (v : Int)), some (aI z), some (aI (i : Int))]) (st' := [aI 2, aI p, aR 22 1, aI (i : Int), aI d, aR 21 0, aI z]) (σ' := τ) rfl (show 0 < 1 from by omega) ?_
              refine aw_fS lX7_57 (as := [aI p, aI 2]) (rest := [aR 22 1, aI (i : Int), aI d, aR 21 0, aI z]) (by decide) rfl (Nat.le_of_ble_eq_true rfl) rfl dX7_whatIs_109 (cM_of l p 2 τ) ?_
              refine aw_b kX7_ok bX7_whatIs_112_ok (Cs := [1 < 4, 0 ≤ aOf p 2 ∧ aOf p 2 < 45]) (pc' := 113) (L' := [some (aR 21 0), some (aI d), some (aI p), some (aI w), some (aI (lkF (σ 26 0 d) d 2)), some (aI (btN (wiB (σ 22 0) (mE σ d) (leF (σ 29 0 d)) (σ 30 0 d) p w) v)), some (aI (v : Int)), some (aI z), some (aI (i : Int))]) (st' := [aI (τ 22 1 (aOf p 2)), aI (i : Int), aI d, aR 21 0, aI z]) (σ' := τ) rfl (show (1 < 4) ∧ (0 ≤ aOf p 2 ∧ aOf p 2 < 45) from ⟨by omega, by omega⟩) ?_
              have bpk := wX.pe (p := p) (by omega) (by omega)
              have ekn : τ 22 1 (aOf p 2) = dysR (rUp (σ 22 0) (aOf p w) (v : Int)) i (aOf p 2) := by rw [m]
              have ehg : τ 22 1 (aOf p 2) = (mzD 0 p (rUp (σ 22 0) (aOf p w) (v : Int))) i := by rw [ekn]; unfold mzD mzR; rw [if_pos rfl, if_pos (by omega)]
              refine aw_bV lX7_217 (as := [aI d, aI (i : Int), aI (τ 22 1 (aOf p 2))]) (rest := [aI z]) (t := 21) (c := 0) (by decide) (by decide) (by decide) rfl rfl (Nat.le_of_ble_eq_true rfl) rfl dX7_whatIs_113 (cM_isTold l d (i : Int) (τ 22 1 (aOf p 2)) τ hsτ (by omega) (by omega) (by omega) (by omega) ⟨by omega, by omega⟩) (fun wh10 => ?_) (fun wh10 => ?_)
              · have hg : (mzD 0 p (rUp (σ 22 0) (aOf p w) (v : Int))) i = τ 22 1 (aOf p 2) := ehg.symm
                refine aw_b kX7_ok bX7_whatIs_116_ok (Cs := [0 < 1]) (pc' := 123) (L' := [some (aR 21 0), some (aI d), some (aI p), some (aI w), some (aI (lkF (σ 26 0 d) d 2)), some (aI (btN (wiB (σ 22 0) (mE σ d) (leF (σ 29 0 d)) (σ 30 0 d) p w) v)), some (aI (v : Int)), some (aI (aAnd z 1)), some (aI (i : Int))]) (st' := [aR 22 1]) (σ' := τ) rfl (show 0 < 1 from by omega) ?_
                refine aw_callS lX7_95 (as := [aR 22 1]) (rest := []) (by decide) rfl (Nat.le_of_ble_eq_true rfl) rfl dX7_whatIs_123 (cM_dayS l σ τ _ hτ wX (by omega)) ?_
                rintro _ τ9 ⟨rfl, hτ9⟩
                refine aw_b kX7_ok bX7_whatIs_126_ok (Cs := []) (pc' := 86) (L' := [some (aR 21 0), some (aI d), some (aI p), some (aI w), some (aI (lkF (σ 26 0 d) d 2)), some (aI (btN (wiB (σ 22 0) (mE σ d) (leF (σ 29 0 d)) (σ 30 0 d) p w) v)), some (aI (v : Int)), some (aI (aAnd z 1)), some (aI ((i : Int) + 1))]) (st' := []) (σ' := τ9) rfl trivial ?_
                have ea : aAnd z 1 = (if z = 1 ∧ (1 : Int) = 1 then 1 else 0) := aAnd_01 hz1 (by decide)
                exact ihi (by omega) τ9 _ hτ9 (by rw [ea]; split <;> omega) (by rw [ea]; refine ⟨fun q j hj => (if hji : j = i then (by rw [hji]; omega) else hA.mp (by split at q <;> omega) j (by omega)), fun q => if_pos ⟨hA.mpr (fun j hj => q j (by omega)), rfl⟩⟩)
              · have hg : (mzD 0 p (rUp (σ 22 0) (aOf p w) (v : Int))) i = τ 22 1 (aOf p 2) := ehg.symm
                refine aw_b kX7_ok bX7_whatIs_116_ok (Cs := [0 < 1]) (pc' := 123) (L' := [some (aR 21 0), some (aI d), some (aI p), some (aI w), some (aI (lkF (σ 26 0 d) d 2)), some (aI (btN (wiB (σ 22 0) (mE σ d) (leF (σ 29 0 d)) (σ 30 0 d) p w) v)), some (aI (v : Int)), some (aI (aAnd z 0)), some (aI (i : Int))]) (st' := [aR 22 1]) (σ' := τ) rfl (show 0 < 1 from by omega) ?_
                refine aw_callS lX7_95 (as := [aR 22 1]) (rest := []) (by decide) rfl (Nat.le_of_ble_eq_true rfl) rfl dX7_whatIs_123 (cM_dayS l σ τ _ hτ wX (by omega)) ?_
                rintro _ τ9 ⟨rfl, hτ9⟩
                refine aw_b kX7_ok bX7_whatIs_126_ok (Cs := []) (pc' := 86) (L' := [some (aR 21 0), some (aI d), some (aI p), some (aI w), some (aI (lkF (σ 26 0 d) d 2)), some (aI (btN (wiB (σ 22 0) (mE σ d) (leF (σ 29 0 d)) (σ 30 0 d) p w) v)), some (aI (v : Int)), some (aI (aAnd z 0)), some (aI ((i : Int) + 1))]) (st' := []) (σ' := τ9) rfl trivial ?_
                have ea : aAnd z 0 = (if z = 1 ∧ (0 : Int) = 1 then 1 else 0) := aAnd_01 hz1 (by decide)
                exact ihi (by omega) τ9 _ hτ9 (by rw [ea]; split <;> omega) (by rw [ea]; refine ⟨fun q => (by rw [if_neg (by omega)] at q; omega), fun q => (by have q2 := q i (by omega); omega)⟩)
        · refine aw_b kX7_ok bX7_whatIs_47_ok (Cs := []) (pc' := 54) (L' := [some (aR 21 0), some (aI d), some (aI p), some (aI w), some (aI (lkF (σ 26 0 d) d 2)), some (aI (btN (wiB (σ 22 0) (mE σ d) (leF (σ 29 0 d)) (σ 30 0 d) p w) v)), some (aI (v : Int)), none, none]) (st' := [aI 8, aI (v : Int)]) (σ' := ρ) rfl trivial ?_
          refine aw_cge dX7_whatIs_54 (tgt := 156) (by decide) ⟨by omega, by omega⟩ ⟨by omega, by omega⟩ (fun wh11 => ?_) (fun wh11 => ?_)
          · refine aw_b kX7_ok bX7_whatIs_156_ok (Cs := []) (pc' := 158) (L' := [some (aR 21 0), some (aI d), some (aI p), some (aI w), some (aI (lkF (σ 26 0 d) d 2)), some (aI (btN (wiB (σ 22 0) (mE σ d) (leF (σ 29 0 d)) (σ 30 0 d) p w) v)), some (aI (v : Int)), none, none]) (st' := [aI (btN (wiB (σ 22 0) (mE σ d) (leF (σ 29 0 d)) (σ 30 0 d) p w) v)]) (σ' := ρ) rfl trivial ?_
            exact aw_iret dX7_whatIs_158 rfl ⟨aret (by unfold A_whatIs; rw [if_pos (by omega), if_pos (by omega), show (if w = 0 then 8 else 10) = v by split <;> omega]), ⟨_, hX, hρ⟩⟩
          · refine aw_b kX7_ok bX7_whatIs_57_ok (Cs := [0 < 1, 0 < 1]) (pc' := 68) (L' := [some (aR 21 0), some (aI d), some (aI p), some (aI w), some (aI (lkF (σ 26 0 d) d 2)), some (aI (btN (wiB (σ 22 0) (mE σ d) (leF (σ 29 0 d)) (σ 30 0 d) p w) v)), some (aI (v : Int)), some (aI 1), none]) (st' := [aR 22 1, aR 22 0]) (σ' := ρ) rfl (show (0 < 1) ∧ (0 < 1) from ⟨by omega, by omega⟩) ?_
            refine aw_callS lX7_145 (as := [aR 22 0, aR 22 1]) (rest := []) (by decide) rfl (Nat.le_of_ble_eq_true rfl) rfl dX7_whatIs_68 (cM_cpS l σ ρ _ hρ hw hX) ?_
            rintro _ τ1 ⟨rfl, hτ1⟩
            have m1 := (rS hτ1).1
            have s1 := (rS hτ1).2
            refine aw_b kX7_ok bX7_whatIs_71_ok (Cs := [0 < 1]) (pc' := 77) (L' := [some (aR 21 0), some (aI d), some (aI p), some (aI w), some (aI (lkF (σ 26 0 d) d 2)), some (aI (btN (wiB (σ 22 0) (mE σ d) (leF (σ 29 0 d)) (σ 30 0 d) p w) v)), some (aI (v : Int)), some (aI 1), none]) (st' := [aI w, aI p, aR 22 1]) (σ' := τ1) rfl (show 0 < 1 from by omega) ?_
            refine aw_fS lX7_57 (as := [aI p, aI w]) (rest := [aR 22 1]) (by decide) rfl (Nat.le_of_ble_eq_true rfl) rfl dX7_whatIs_77 (cM_of l p w τ1) ?_
            refine aw_b kX7_ok bX7_whatIs_80_ok (Cs := [1 < 4, 0 ≤ aOf p w ∧ aOf p w < 45]) (pc' := 86) (L' := [some (aR 21 0), some (aI d), some (aI p), some (aI w), some (aI (lkF (σ 26 0 d) d 2)), some (aI (btN (wiB (σ 22 0) (mE σ d) (leF (σ 29 0 d)) (σ 30 0 d) p w) v)), some (aI (v : Int)), some (aI 1), some (aI 0)]) (st' := []) (σ' := aUp τ1 22 1 (aOf p w) (v : Int)) rfl (show (1 < 4) ∧ (0 ≤ aOf p w ∧ aOf p w < 45) from ⟨by omega, by omega⟩) ?_
            obtain ⟨τ2, e2⟩ : ∃ τ2, τ2 = aUp τ1 22 1 (aOf p w) (v : Int) := ⟨_, rfl⟩
            refine aw_eq rfl rfl (σ' := τ2) e2.symm ?_
            have hτ2 := e2.trans (aUp1_row hτ1)
            have m2 := (rS hτ2).1
            have s2 := (rS hτ2).2
            have hwX : WF (rUp (σ 22 0) (aOf p w) (v : Int)) := by
              rcases (show w = 0 ∨ w = 1 by omega) with rfl | rfl
              · exact WF_kind hw (by omega) (by omega) (by split at hv <;> omega)
              · exact WF_fig hw (by omega) (by omega) (by split at hv <;> omega)
            have e1X : (rUp (σ 22 0) (aOf p w) (v : Int)) 1 = σ 22 0 1 := rUp_ne (by omega)
            have e0X : (rUp (σ 22 0) (aOf p w) (v : Int)) 0 = σ 22 0 0 := rUp_ne (by omega)
            refine aloop (P := fun i : Nat => ∀ (τ : aS) (z : Int) (hτ : τ = aRow σ 1 (dysR (rUp (σ 22 0) (aOf p w) (v : Int)) i)) (hz1 : z = 0 ∨ z = 1) (hA : z = 1 ↔ ∀ j : Nat, j < i → (mE σ d (j : Int) = leF (σ 29 0 d) ∨ mE σ d (j : Int) = (mzD 0 p (rUp (σ 22 0) (aOf p w) (v : Int))) j)), AW l 4 mX7_whatIs _ 86 [some (aR 21 0), some (aI d), some (aI p), some (aI w), some (aI (lkF (σ 26 0 d) d 2)), some (aI (btN (wiB (σ 22 0) (mE σ d) (leF (σ 29 0 d)) (σ 30 0 d) p w) v)), some (aI (v : Int)), some (aI z), some (aI (i : Int))] [] τ) ((σ 30 0 d).toNat) (fun i hi ihi τ z hτ hz1 hA => ?_) τ2 1 hτ2 (Or.inr rfl) ⟨fun _ j hj => by omega, fun _ => rfl⟩
            have m := (rS hτ).1
            have hsτ := hs.row hτ
            have eEτ := mE_row hτ d
            have e30 : τ 30 0 d = σ 30 0 d := rO hτ (by decide) _ _
            have e29 : τ 29 0 d = σ 29 0 d := rO hτ (by decide) _ _
            have wX := dysR_wf hwX i
            have eX := dysR_0 (rUp (σ 22 0) (aOf p w) (v : Int)) i
            have eEn := eEτ (i : Int)
            have ele : leF (τ 29 0 d) = leF (σ 29 0 d) := by rw [e29]
            refine aw_b kX7_ok bX7_whatIs_86_ok (Cs := [0 < 1, 0 < 1, 0 ≤ d ∧ d < 8]) (pc' := 94) (L' := [some (aR 21 0), some (aI d), some (aI p), some (aI w), some (aI (lkF (σ 26 0 d) d 2)), some (aI (btN (wiB (σ 22 0) (mE σ d) (leF (σ 29 0 d)) (σ 30 0 d) p w) v)), some (aI (v : Int)), some (aI z), some (aI (i : Int))]) (st' := [aI (τ 30 0 d), aI (i : Int)]) (σ' := τ) rfl (show (0 < 1) ∧ (0 < 1) ∧ (0 ≤ d ∧ d < 8) from ⟨by omega, by omega, by omega⟩) ?_
            refine aw_cge dX7_whatIs_94 (tgt := 132) (by decide) ⟨by omega, by omega⟩ ⟨by omega, by omega⟩ (fun wh12 => ?_) (fun wh12 => ?_)
            · refine aw_b kX7_ok bX7_whatIs_132_ok (Cs := []) (pc' := 136) (L' := [some (aR 21 0), some (aI d), some (aI p), some (aI w), some (aI (lkF (σ 26 0 d) d 2)), some (aI (btN (wiB (σ 22 0) (mE σ d) (leF (σ 29 0 d)) (σ 30 0 d) p w) v)), some (aI (v : Int)), some (aI z), some (aI (i : Int))]) (st' := [aI z, aI (btN (wiB (σ 22 0) (mE σ d) (leF (σ 29 0 d)) (σ 30 0 d) p w) v)]) (σ' := τ) rfl trivial ?_
              refine aw_ieq dX7_whatIs_136 (tgt := 146) (by decide) ⟨by omega, by omega⟩ (fun wh13 => ?_) (fun wh13 => ?_)
              · have hno : ¬ ∀ j : Nat, 0 ≤ j → j < 0 + (σ 30 0 d).toNat → (mE σ d (j : Int) = leF (σ 29 0 d) ∨ mE σ d (j : Int) = (mzD 0 p (rUp (σ 22 0) (aOf p w) (v : Int))) j) := fun q => by have := hA.mpr (fun j hj => q j (by omega) (by omega)); omega
                refine aw_b kX7_ok bX7_whatIs_146_ok (Cs := []) (pc' := 147) (L' := [some (aR 21 0), some (aI d), some (aI p), some (aI w), some (aI (lkF (σ 26 0 d) d 2)), some (aI (btN (wiB (σ 22 0) (mE σ d) (leF (σ 29 0 d)) (σ 30 0 d) p w) v)), some (aI (v : Int)), some (aI z), some (aI (i : Int))]) (st' := [aI 0, aI (btN (wiB (σ 22 0) (mE σ d) (leF (σ 29 0 d)) (σ 30 0 d) p w) v)]) (σ' := τ) rfl trivial ?_
                refine aw_b kX7_ok bX7_whatIs_147_ok (Cs := []) (pc' := 41) (L' := [some (aR 21 0), some (aI d), some (aI p), some (aI w), some (aI (lkF (σ 26 0 d) d 2)), some (aI (aOr (btN (wiB (σ 22 0) (mE σ d) (leF (σ 29 0 d)) (σ 30 0 d) p w) v) 0)), some (aI ((v : Int) + 1)), some (aI z), some (aI (i : Int))]) (st' := []) (σ' := τ) rfl trivial ?_
                refine aw_drop [7, 8] (L' := [some (aR 21 0), some (aI d), some (aI p), some (aI w), some (aI (lkF (σ 26 0 d) d 2)), some (aI (aOr (btN (wiB (σ 22 0) (mE σ d) (leF (σ 29 0 d)) (σ 30 0 d) p w) v) 0)), some (aI ((v : Int) + 1)), none, none]) rfl ?_
                have e1 : aOr (btN (wiB (σ 22 0) (mE σ d) (leF (σ 29 0 d)) (σ 30 0 d) p w) v) 0 = btN (wiB (σ 22 0) (mE σ d) (leF (σ 29 0 d)) (σ 30 0 d) p w) (v + 1) := by rw [(btN_step _ (by omega)).2]; exact btN_f (fun q => hno ((fu_all _ _ _ _ _).mp (of_decide_eq_true q)))
                exact aw_eq (by rw [e1]; rfl) rfl rfl (ihv (by split <;> omega) τ _ wX.oz hτ)
              · have hyes : ∀ j : Nat, 0 ≤ j → j < 0 + (σ 30 0 d).toNat → (mE σ d (j : Int) = leF (σ 29 0 d) ∨ mE σ d (j : Int) = (mzD 0 p (rUp (σ 22 0) (aOf p w) (v : Int))) j) := fun j h0 h1 => hA.mp (by omega) j (by omega)
                refine aw_b kX7_ok bX7_whatIs_139_ok (Cs := [0 ≤ (v : Int) ∧ (v : Int) < 32]) (pc' := 147) (L' := [some (aR 21 0), some (aI d), some (aI p), some (aI w), some (aI (lkF (σ 26 0 d) d 2)), some (aI (btN (wiB (σ 22 0) (mE σ d) (leF (σ 29 0 d)) (σ 30 0 d) p w) v)), some (aI (v : Int)), some (aI z), some (aI (i : Int))]) (st' := [aI (1 * 2 ^ (Int.toNat (v : Int))), aI (btN (wiB (σ 22 0) (mE σ d) (leF (σ 29 0 d)) (σ 30 0 d) p w) v)]) (σ' := τ) rfl (show 0 ≤ (v : Int) ∧ (v : Int) < 32 from by omega) ?_
                refine aw_b kX7_ok bX7_whatIs_147_ok (Cs := []) (pc' := 41) (L' := [some (aR 21 0), some (aI d), some (aI p), some (aI w), some (aI (lkF (σ 26 0 d) d 2)), some (aI (aOr (btN (wiB (σ 22 0) (mE σ d) (leF (σ 29 0 d)) (σ 30 0 d) p w) v) (1 * 2 ^ (Int.toNat (v : Int))))), some (aI ((v : Int) + 1)), some (aI z), some (aI (i : Int))]) (st' := []) (σ' := τ) rfl trivial ?_
                refine aw_drop [7, 8] (L' := [some (aR 21 0), some (aI d), some (aI p), some (aI w), some (aI (lkF (σ 26 0 d) d 2)), some (aI (aOr (btN (wiB (σ 22 0) (mE σ d) (leF (σ 29 0 d)) (σ 30 0 d) p w) v) (1 * 2 ^ (Int.toNat (v : Int))))), some (aI ((v : Int) + 1)), none, none]) rfl ?_
                have e1 : aOr (btN (wiB (σ 22 0) (mE σ d) (leF (σ 29 0 d)) (σ 30 0 d) p w) v) (1 * 2 ^ (Int.toNat (v : Int))) = btN (wiB (σ 22 0) (mE σ d) (leF (σ 29 0 d)) (σ 30 0 d) p w) (v + 1) := btN_t (by omega) (decide_eq_true ((fu_all _ _ _ _ _).mpr hyes))
                exact aw_eq (by rw [e1]; rfl) rfl rfl (ihv (by split <;> omega) τ _ wX.oz hτ)
            · refine aw_b kX7_ok bX7_whatIs_97_ok (Cs := [0 < 1]) (pc' := 109) (L' := [some (aR 21 0), some (aI d), some (aI p), some (aI w), some (aI (lkF (σ 26 0 d) d 2)), some (aI (btN (wiB (σ 22 0) (mE σ d) (leF (σ 29 0 d)) (σ 30 0 d) p w) v)), some (aI (v : Int)), some (aI z), some (aI (i : Int))]) (st' := [aI 2, aI p, aR 22 1, aI (i : Int), aI d, aR 21 0, aI z]) (σ' := τ) rfl (show 0 < 1 from by omega) ?_
              refine aw_fS lX7_57 (as := [aI p, aI 2]) (rest := [aR 22 1, aI (i : Int), aI d, aR 21 0, aI z]) (by decide) rfl (Nat.le_of_ble_eq_true rfl) rfl dX7_whatIs_109 (cM_of l p 2 τ) ?_
              refine aw_b kX7_ok bX7_whatIs_112_ok (Cs := [1 < 4, 0 ≤ aOf p 2 ∧ aOf p 2 < 45]) (pc' := 113) (L' := [some (aR 21 0), some (aI d), some (aI p), some (aI w), some (aI (lkF (σ 26 0 d) d 2)), some (aI (btN (wiB (σ 22 0) (mE σ d) (leF (σ 29 0 d)) (σ 30 0 d) p w) v)), some (aI (v : Int)), some (aI z), some (aI (i : Int))]) (st' := [aI (τ 22 1 (aOf p 2)), aI (i : Int), aI d, aR 21 0, aI z]) (σ' := τ) rfl (show (1 < 4) ∧ (0 ≤ aOf p 2 ∧ aOf p 2 < 45) from ⟨by omega, by omega⟩) ?_
              have bpk := wX.pe (p := p) (by omega) (by omega)
              have ekn : τ 22 1 (aOf p 2) = dysR (rUp (σ 22 0) (aOf p w) (v : Int)) i (aOf p 2) := by rw [m]
              have ehg : τ 22 1 (aOf p 2) = (mzD 0 p (rUp (σ 22 0) (aOf p w) (v : Int))) i := by rw [ekn]; unfold mzD mzR; rw [if_pos rfl, if_pos (by omega)]
              refine aw_bV lX7_217 (as := [aI d, aI (i : Int), aI (τ 22 1 (aOf p 2))]) (rest := [aI z]) (t := 21) (c := 0) (by decide) (by decide) (by decide) rfl rfl (Nat.le_of_ble_eq_true rfl) rfl dX7_whatIs_113 (cM_isTold l d (i : Int) (τ 22 1 (aOf p 2)) τ hsτ (by omega) (by omega) (by omega) (by omega) ⟨by omega, by omega⟩) (fun wh14 => ?_) (fun wh14 => ?_)
              · have hg : (mzD 0 p (rUp (σ 22 0) (aOf p w) (v : Int))) i = τ 22 1 (aOf p 2) := ehg.symm
                refine aw_b kX7_ok bX7_whatIs_116_ok (Cs := [0 < 1]) (pc' := 123) (L' := [some (aR 21 0), some (aI d), some (aI p), some (aI w), some (aI (lkF (σ 26 0 d) d 2)), some (aI (btN (wiB (σ 22 0) (mE σ d) (leF (σ 29 0 d)) (σ 30 0 d) p w) v)), some (aI (v : Int)), some (aI (aAnd z 1)), some (aI (i : Int))]) (st' := [aR 22 1]) (σ' := τ) rfl (show 0 < 1 from by omega) ?_
                refine aw_callS lX7_95 (as := [aR 22 1]) (rest := []) (by decide) rfl (Nat.le_of_ble_eq_true rfl) rfl dX7_whatIs_123 (cM_dayS l σ τ _ hτ wX (by omega)) ?_
                rintro _ τ9 ⟨rfl, hτ9⟩
                refine aw_b kX7_ok bX7_whatIs_126_ok (Cs := []) (pc' := 86) (L' := [some (aR 21 0), some (aI d), some (aI p), some (aI w), some (aI (lkF (σ 26 0 d) d 2)), some (aI (btN (wiB (σ 22 0) (mE σ d) (leF (σ 29 0 d)) (σ 30 0 d) p w) v)), some (aI (v : Int)), some (aI (aAnd z 1)), some (aI ((i : Int) + 1))]) (st' := []) (σ' := τ9) rfl trivial ?_
                have ea : aAnd z 1 = (if z = 1 ∧ (1 : Int) = 1 then 1 else 0) := aAnd_01 hz1 (by decide)
                exact ihi (by omega) τ9 _ hτ9 (by rw [ea]; split <;> omega) (by rw [ea]; refine ⟨fun q j hj => (if hji : j = i then (by rw [hji]; omega) else hA.mp (by split at q <;> omega) j (by omega)), fun q => if_pos ⟨hA.mpr (fun j hj => q j (by omega)), rfl⟩⟩)
              · have hg : (mzD 0 p (rUp (σ 22 0) (aOf p w) (v : Int))) i = τ 22 1 (aOf p 2) := ehg.symm
                refine aw_b kX7_ok bX7_whatIs_116_ok (Cs := [0 < 1]) (pc' := 123) (L' := [some (aR 21 0), some (aI d), some (aI p), some (aI w), some (aI (lkF (σ 26 0 d) d 2)), some (aI (btN (wiB (σ 22 0) (mE σ d) (leF (σ 29 0 d)) (σ 30 0 d) p w) v)), some (aI (v : Int)), some (aI (aAnd z 0)), some (aI (i : Int))]) (st' := [aR 22 1]) (σ' := τ) rfl (show 0 < 1 from by omega) ?_
                refine aw_callS lX7_95 (as := [aR 22 1]) (rest := []) (by decide) rfl (Nat.le_of_ble_eq_true rfl) rfl dX7_whatIs_123 (cM_dayS l σ τ _ hτ wX (by omega)) ?_
                rintro _ τ9 ⟨rfl, hτ9⟩
                refine aw_b kX7_ok bX7_whatIs_126_ok (Cs := []) (pc' := 86) (L' := [some (aR 21 0), some (aI d), some (aI p), some (aI w), some (aI (lkF (σ 26 0 d) d 2)), some (aI (btN (wiB (σ 22 0) (mE σ d) (leF (σ 29 0 d)) (σ 30 0 d) p w) v)), some (aI (v : Int)), some (aI (aAnd z 0)), some (aI ((i : Int) + 1))]) (st' := []) (σ' := τ9) rfl trivial ?_
                have ea : aAnd z 0 = (if z = 1 ∧ (0 : Int) = 1 then 1 else 0) := aAnd_01 hz1 (by decide)
                exact ihi (by omega) τ9 _ hτ9 (by rw [ea]; split <;> omega) (by rw [ea]; refine ⟨fun q => (by rw [if_neg (by omega)] at q; omega), fun q => (by have q2 := q i (by omega); omega)⟩)
      · refine aw_b kX7_ok bX7_whatIs_32_ok (Cs := []) (pc' := 34) (L' := [some (aR 21 0), some (aI d), some (aI p), some (aI w), some (aI (lkF (σ 26 0 d) d 2)), none, none, none, none]) (st' := [aI (lkF (σ 26 0 d) d 2)]) (σ' := σ) rfl trivial ?_
        exact aw_iret dX7_whatIs_34 rfl ⟨aret (if hsh : 0 ≤ d ∧ d < 8 then (by unfold A_whatIs; rw [if_pos (by omega), if_neg (by omega)]) else (by unfold A_whatIs; rw [if_neg (by omega)]; unfold lkF; rw [if_neg hsh])), ⟨_, hz, h00⟩⟩
    · refine aw_ine dX7_whatIs_14 (tgt := 19) (by decide) ⟨by omega, by omega⟩ (fun wh15 => absurd wh15 (by decide)) (fun wh15 => ?_)
      refine aw_b kX7_ok bX7_whatIs_17_ok (Cs := []) (pc' := 18) (L' := [some (aR 21 0), some (aI d), some (aI p), some (aI w), none, none, none, none, none]) (st' := [aI (-1)]) (σ' := σ) rfl trivial ?_
      exact aw_iret dX7_whatIs_18 rfl ⟨aret (by unfold A_whatIs; rw [if_neg (by omega)]), ⟨_, hz, h00⟩⟩
  · refine aw_ieq dX7_whatIs_5 (tgt := 17) (by decide) ⟨by omega, by omega⟩ (fun wh16 => ?_) (fun wh16 => absurd wh16 (by decide))
    refine aw_b kX7_ok bX7_whatIs_17_ok (Cs := []) (pc' := 18) (L' := [some (aR 21 0), some (aI d), some (aI p), some (aI w), none, none, none, none, none]) (st' := [aI (-1)]) (σ' := σ) rfl trivial ?_
    exact aw_iret dX7_whatIs_18 rfl ⟨aret (by unfold A_whatIs; rw [if_neg (by omega)]), ⟨_, hz, h00⟩⟩
set_option maxRecDepth 10000 in
theorem cM_whoHeld (l : Launch) (d f : Int) (σ : aS) (hw : WF (σ 22 0)) (hd : σ 22 0 1 ≤ 999) (hz : OZ (σ 22 1)) (hs : MSH σ) (hd2 : aIr d) (hf : aIr f) : AM l 4 mX7_whoHeld [aR 21 0, aI d, aI f] σ (QR (A_whoHeld (σ 22 0) (mE σ d) (σ 26 0 d) (σ 29 0 d) (σ 30 0 d) d f) σ) := by
  have bn := hw.1
  have b1 := hw.2.1
  have b2 := hw.2.2.1
  have h00 : σ = aRow σ 1 (σ 22 1) := aRow_id.symm
  refine am_of (by decide) (Nat.le_of_ble_eq_true rfl) (L := [some (aR 21 0), some (aI d), some (aI f), none, none, none, none, none]) rfl ?_
  refine aw_b kX7_ok bX7_whoHeld_0_ok (Cs := []) (pc' := 1) (L' := [some (aR 21 0), some (aI d), some (aI f), none, none, none, none, none]) (st' := [aI f]) (σ' := σ) rfl trivial ?_
  refine aw_bS lX7_125 (as := [aI f]) (rest := []) (by decide) rfl (Nat.le_of_ble_eq_true rfl) rfl dX7_whoHeld_1 (cM_isOffice l f σ ⟨by omega, by omega⟩) (fun wh1 => ?_) (fun wh1 => ?_)
  · refine aw_ine dX7_whoHeld_4 (tgt := 9) (by decide) ⟨by omega, by omega⟩ (fun wh2 => ?_) (fun wh2 => absurd wh2 (by decide))
    refine aw_b kX7_ok bX7_whoHeld_9_ok (Cs := []) (pc' := 12) (L' := [some (aR 21 0), some (aI d), some (aI f), none, none, none, none, none]) (st' := [aI (-1), aI d, aR 21 0]) (σ' := σ) rfl trivial ?_
    refine aw_fV lX7_138 (as := [aI d, aI (-1)]) (rest := []) (t := 21) (c := 0) (by decide) (by decide) (by decide) rfl rfl (Nat.le_of_ble_eq_true rfl) rfl dX7_whoHeld_12 (cM_wrongRow1 l d σ hs ⟨by omega, by omega⟩) ?_
    have blk := lkF_rng (σ 26 0 d) d 2
    refine aw_b kX7_ok bX7_whoHeld_15_ok (Cs := []) (pc' := 17) (L' := [some (aR 21 0), some (aI d), some (aI f), some (aI (lkF (σ 26 0 d) d 2)), none, none, none, none]) (st' := [aI (lkF (σ 26 0 d) d 2)]) (σ' := σ) rfl trivial ?_
    refine aw_ieq dX7_whoHeld_17 (tgt := 22) (by decide) ⟨by omega, by omega⟩ (fun wh3 => ?_) (fun wh3 => ?_)
    · have hl := lkF_d (show lkF (σ 26 0 d) d 2 = 0 by omega)
      have bs := hs.1 d hl.1.1 hl.1.2
      refine aw_b kX7_ok bX7_whoHeld_22_ok (Cs := []) (pc' := 28) (L' := [some (aR 21 0), some (aI d), some (aI f), some (aI (lkF (σ 26 0 d) d 2)), some (aI 0), some (aI 0), none, none]) (st' := []) (σ' := σ) rfl trivial ?_
      refine aloop (P := fun v : Nat => ∀ (ρ : aS) (X : aRw) (hX : OZ X) (hρ : ρ = aRow σ 1 X), AW l 4 mX7_whoHeld _ 28 [some (aR 21 0), some (aI d), some (aI f), some (aI (lkF (σ 26 0 d) d 2)), some (aI (btN (whB (σ 22 0) (mE σ d) (leF (σ 29 0 d)) (σ 30 0 d) f) v)), some (aI (v : Int)), none, none] [] ρ) (((σ 22 0) 0).toNat) (fun v hv ihv ρ X hX hρ => ?_) σ _ hz h00
      have eρ : ρ 22 0 0 = σ 22 0 0 := by rw [(rS hρ).2]
      refine aw_b kX7_ok bX7_whoHeld_28_ok (Cs := [0 < 1, 0 < 4, 0 ≤ 0 ∧ 0 < 45]) (pc' := 36) (L' := [some (aR 21 0), some (aI d), some (aI f), some (aI (lkF (σ 26 0 d) d 2)), some (aI (btN (whB (σ 22 0) (mE σ d) (leF (σ 29 0 d)) (σ 30 0 d) f) v)), some (aI (v : Int)), none, none]) (st' := [aI (ρ 22 0 0), aI (v : Int)]) (σ' := ρ) rfl (show (0 < 1) ∧ (0 < 4) ∧ (0 ≤ 0 ∧ 0 < 45) from ⟨by omega, by omega, by omega⟩) ?_
      refine aw_cge dX7_whoHeld_36 (tgt := 143) (by decide) ⟨by omega, by omega⟩ ⟨by omega, by omega⟩ (fun wh4 => ?_) (fun wh4 => ?_)
      · refine aw_b kX7_ok bX7_whoHeld_143_ok (Cs := []) (pc' := 145) (L' := [some (aR 21 0), some (aI d), some (aI f), some (aI (lkF (σ 26 0 d) d 2)), some (aI (btN (whB (σ 22 0) (mE σ d) (leF (σ 29 0 d)) (σ 30 0 d) f) v)), some (aI (v : Int)), none, none]) (st' := [aI (btN (whB (σ 22 0) (mE σ d) (leF (σ 29 0 d)) (σ 30 0 d) f) v)]) (σ' := ρ) rfl trivial ?_
        exact aw_iret dX7_whoHeld_145 rfl ⟨aret (by unfold A_whoHeld; rw [if_pos (by omega), if_pos (by omega), show v = ((σ 22 0) 0).toNat by omega]), ⟨_, hX, hρ⟩⟩
      · refine aw_b kX7_ok bX7_whoHeld_39_ok (Cs := [0 < 1, 0 < 1]) (pc' := 50) (L' := [some (aR 21 0), some (aI d), some (aI f), some (aI (lkF (σ 26 0 d) d 2)), some (aI (btN (whB (σ 22 0) (mE σ d) (leF (σ 29 0 d)) (σ 30 0 d) f) v)), some (aI (v : Int)), some (aI 1), none]) (st' := [aR 22 1, aR 22 0]) (σ' := ρ) rfl (show (0 < 1) ∧ (0 < 1) from ⟨by omega, by omega⟩) ?_
        refine aw_callS lX7_145 (as := [aR 22 0, aR 22 1]) (rest := []) (by decide) rfl (Nat.le_of_ble_eq_true rfl) rfl dX7_whoHeld_50 (cM_cpS l σ ρ _ hρ hw hX) ?_
        rintro _ τ1 ⟨rfl, hτ1⟩
        have m1 := (rS hτ1).1
        have s1 := (rS hτ1).2
        refine aw_b kX7_ok bX7_whoHeld_53_ok (Cs := [0 < 1]) (pc' := 60) (L' := [some (aR 21 0), some (aI d), some (aI f), some (aI (lkF (σ 26 0 d) d 2)), some (aI (btN (whB (σ 22 0) (mE σ d) (leF (σ 29 0 d)) (σ 30 0 d) f) v)), some (aI (v : Int)), some (aI 1), none]) (st' := [aI (v : Int), aI f, aR 22 1]) (σ' := τ1) rfl (show 0 < 1 from by omega) ?_
        have hhi := cM_holdsIn l 1 (by decide) f (v : Int) τ1 (by rw [m1]; exact hw) (by omega) (by omega) ⟨by omega, by omega⟩
        refine aw_callS lX7_131 (as := [aR 22 1, aI f, aI (v : Int)]) (rest := []) (by decide) rfl (Nat.le_of_ble_eq_true rfl) rfl dX7_whoHeld_60 (hhi) ?_
        rintro _ τ2 ⟨rfl, hτ20⟩
        have hτ2 : τ2 = aRow σ 1 (hoR (σ 22 0) f (v : Int)) := by rw [hτ20, m1, hτ1, aRow_two]
        have hwX : WF (hoR (σ 22 0) f (v : Int)) := hoR_wf hw (by omega) (by omega) (by omega) (by omega)
        refine aw_b kX7_ok bX7_whoHeld_63_ok (Cs := []) (pc' := 66) (L' := [some (aR 21 0), some (aI d), some (aI f), some (aI (lkF (σ 26 0 d) d 2)), some (aI (btN (whB (σ 22 0) (mE σ d) (leF (σ 29 0 d)) (σ 30 0 d) f) v)), some (aI (v : Int)), some (aI 1), some (aI 0)]) (st' := []) (σ' := τ2) rfl trivial ?_
        have e1X := hoR_1 (σ 22 0) (f := f) (p := (v : Int)) (by omega) (by omega)
        refine aloop (P := fun i : Nat => ∀ (τ : aS) (z : Int) (hτ : τ = aRow σ 1 (dysR (hoR (σ 22 0) f (v : Int)) i)) (hz1 : z = 0 ∨ z = 1) (hA : z = 1 ↔ ∀ j : Nat, j < i → (mE σ d (j : Int) = leF (σ 29 0 d) ∨ mE σ d (j : Int) = (mzD 1 f (hoR (σ 22 0) f (v : Int))) j)), AW l 4 mX7_whoHeld _ 66 [some (aR 21 0), some (aI d), some (aI f), some (aI (lkF (σ 26 0 d) d 2)), some (aI (btN (whB (σ 22 0) (mE σ d) (leF (σ 29 0 d)) (σ 30 0 d) f) v)), some (aI (v : Int)), some (aI z), some (aI (i : Int))] [] τ) ((σ 30 0 d).toNat) (fun i hi ihi τ z hτ hz1 hA => ?_) τ2 1 hτ2 (Or.inr rfl) ⟨fun _ j hj => by omega, fun _ => rfl⟩
        have m := (rS hτ).1
        have hsτ := hs.row hτ
        have eEτ := mE_row hτ d
        have e30 : τ 30 0 d = σ 30 0 d := rO hτ (by decide) _ _
        have e29 : τ 29 0 d = σ 29 0 d := rO hτ (by decide) _ _
        have wX := dysR_wf hwX i
        have eX := dysR_0 (hoR (σ 22 0) f (v : Int)) i
        have eEn := eEτ (i : Int)
        have ele : leF (τ 29 0 d) = leF (σ 29 0 d) := by rw [e29]
        refine aw_b kX7_ok bX7_whoHeld_66_ok (Cs := [0 < 1, 0 < 1, 0 ≤ d ∧ d < 8]) (pc' := 74) (L' := [some (aR 21 0), some (aI d), some (aI f), some (aI (lkF (σ 26 0 d) d 2)), some (aI (btN (whB (σ 22 0) (mE σ d) (leF (σ 29 0 d)) (σ 30 0 d) f) v)), some (aI (v : Int)), some (aI z), some (aI (i : Int))]) (st' := [aI (τ 30 0 d), aI (i : Int)]) (σ' := τ) rfl (show (0 < 1) ∧ (0 < 1) ∧ (0 ≤ d ∧ d < 8) from ⟨by omega, by omega, by omega⟩) ?_
        refine aw_cge dX7_whoHeld_74 (tgt := 119) (by decide) ⟨by omega, by omega⟩ ⟨by omega, by omega⟩ (fun wh5 => ?_) (fun wh5 => ?_)
        · refine aw_b kX7_ok bX7_whoHeld_119_ok (Cs := []) (pc' := 123) (L' := [some (aR 21 0), some (aI d), some (aI f), some (aI (lkF (σ 26 0 d) d 2)), some (aI (btN (whB (σ 22 0) (mE σ d) (leF (σ 29 0 d)) (σ 30 0 d) f) v)), some (aI (v : Int)), some (aI z), some (aI (i : Int))]) (st' := [aI z, aI (btN (whB (σ 22 0) (mE σ d) (leF (σ 29 0 d)) (σ 30 0 d) f) v)]) (σ' := τ) rfl trivial ?_
          refine aw_ieq dX7_whoHeld_123 (tgt := 133) (by decide) ⟨by omega, by omega⟩ (fun wh6 => ?_) (fun wh6 => ?_)
          · have hno : ¬ ∀ j : Nat, 0 ≤ j → j < 0 + (σ 30 0 d).toNat → (mE σ d (j : Int) = leF (σ 29 0 d) ∨ mE σ d (j : Int) = (mzD 1 f (hoR (σ 22 0) f (v : Int))) j) := fun q => by have := hA.mpr (fun j hj => q j (by omega) (by omega)); omega
            refine aw_b kX7_ok bX7_whoHeld_133_ok (Cs := []) (pc' := 134) (L' := [some (aR 21 0), some (aI d), some (aI f), some (aI (lkF (σ 26 0 d) d 2)), some (aI (btN (whB (σ 22 0) (mE σ d) (leF (σ 29 0 d)) (σ 30 0 d) f) v)), some (aI (v : Int)), some (aI z), some (aI (i : Int))]) (st' := [aI 0, aI (btN (whB (σ 22 0) (mE σ d) (leF (σ 29 0 d)) (σ 30 0 d) f) v)]) (σ' := τ) rfl trivial ?_
            refine aw_b kX7_ok bX7_whoHeld_134_ok (Cs := []) (pc' := 28) (L' := [some (aR 21 0), some (aI d), some (aI f), some (aI (lkF (σ 26 0 d) d 2)), some (aI (aOr (btN (whB (σ 22 0) (mE σ d) (leF (σ 29 0 d)) (σ 30 0 d) f) v) 0)), some (aI ((v : Int) + 1)), some (aI z), some (aI (i : Int))]) (st' := []) (σ' := τ) rfl trivial ?_
            refine aw_drop [6, 7] (L' := [some (aR 21 0), some (aI d), some (aI f), some (aI (lkF (σ 26 0 d) d 2)), some (aI (aOr (btN (whB (σ 22 0) (mE σ d) (leF (σ 29 0 d)) (σ 30 0 d) f) v) 0)), some (aI ((v : Int) + 1)), none, none]) rfl ?_
            have e1 : aOr (btN (whB (σ 22 0) (mE σ d) (leF (σ 29 0 d)) (σ 30 0 d) f) v) 0 = btN (whB (σ 22 0) (mE σ d) (leF (σ 29 0 d)) (σ 30 0 d) f) (v + 1) := by rw [(btN_step _ (by omega)).2]; exact btN_f (fun q => hno ((fu_all _ _ _ _ _).mp (of_decide_eq_true q)))
            exact aw_eq (by rw [e1]; rfl) rfl rfl (ihv (by omega) τ _ wX.oz hτ)
          · have hyes : ∀ j : Nat, 0 ≤ j → j < 0 + (σ 30 0 d).toNat → (mE σ d (j : Int) = leF (σ 29 0 d) ∨ mE σ d (j : Int) = (mzD 1 f (hoR (σ 22 0) f (v : Int))) j) := fun j h0 h1 => hA.mp (by omega) j (by omega)
            refine aw_b kX7_ok bX7_whoHeld_126_ok (Cs := [0 ≤ (v : Int) ∧ (v : Int) < 32]) (pc' := 134) (L' := [some (aR 21 0), some (aI d), some (aI f), some (aI (lkF (σ 26 0 d) d 2)), some (aI (btN (whB (σ 22 0) (mE σ d) (leF (σ 29 0 d)) (σ 30 0 d) f) v)), some (aI (v : Int)), some (aI z), some (aI (i : Int))]) (st' := [aI (1 * 2 ^ (Int.toNat (v : Int))), aI (btN (whB (σ 22 0) (mE σ d) (leF (σ 29 0 d)) (σ 30 0 d) f) v)]) (σ' := τ) rfl (show 0 ≤ (v : Int) ∧ (v : Int) < 32 from by omega) ?_
            refine aw_b kX7_ok bX7_whoHeld_134_ok (Cs := []) (pc' := 28) (L' := [some (aR 21 0), some (aI d), some (aI f), some (aI (lkF (σ 26 0 d) d 2)), some (aI (aOr (btN (whB (σ 22 0) (mE σ d) (leF (σ 29 0 d)) (σ 30 0 d) f) v) (1 * 2 ^ (Int.toNat (v : Int))))), some (aI ((v : Int) + 1)), some (aI z), some (aI (i : Int))]) (st' := []) (σ' := τ) rfl trivial ?_
            refine aw_drop [6, 7] (L' := [some (aR 21 0), some (aI d), some (aI f), some (aI (lkF (σ 26 0 d) d 2)), some (aI (aOr (btN (whB (σ 22 0) (mE σ d) (leF (σ 29 0 d)) (σ 30 0 d) f) v) (1 * 2 ^ (Int.toNat (v : Int))))), some (aI ((v : Int) + 1)), none, none]) rfl ?_
            have e1 : aOr (btN (whB (σ 22 0) (mE σ d) (leF (σ 29 0 d)) (σ 30 0 d) f) v) (1 * 2 ^ (Int.toNat (v : Int))) = btN (whB (σ 22 0) (mE σ d) (leF (σ 29 0 d)) (σ 30 0 d) f) (v + 1) := btN_t (by omega) (decide_eq_true ((fu_all _ _ _ _ _).mpr hyes))
            exact aw_eq (by rw [e1]; rfl) rfl rfl (ihv (by omega) τ _ wX.oz hτ)
        · have bho := wX.ho (f := f) (by omega) (by omega)
          have eho : τ 22 1 (8 + f) = dysR (hoR (σ 22 0) f (v : Int)) i (8 + f) := by rw [m]
          refine aw_b kX7_ok bX7_whoHeld_77_ok (Cs := [0 < 1, 1 < 4, 0 ≤ 8 + f ∧ 8 + f < 45]) (pc' := 92) (L' := [some (aR 21 0), some (aI d), some (aI f), some (aI (lkF (σ 26 0 d) d 2)), some (aI (btN (whB (σ 22 0) (mE σ d) (leF (σ 29 0 d)) (σ 30 0 d) f) v)), some (aI (v : Int)), some (aI z), some (aI (i : Int))]) (st' := [aI (τ 22 1 (8 + f)), aI (i : Int), aI d, aR 21 0, aI z]) (σ' := τ) rfl (show (0 < 1) ∧ (1 < 4) ∧ (0 ≤ 8 + f ∧ 8 + f < 45) from ⟨by omega, by omega, by omega⟩) ?_
          refine aw_ige dX7_whoHeld_92 (tgt := 99) (by decide) ⟨by omega, by omega⟩ (fun wh7 => ?_) (fun wh7 => ?_)
          · refine aw_b kX7_ok bX7_whoHeld_99_ok (Cs := []) (pc' := 100) (L' := [some (aR 21 0), some (aI d), some (aI f), some (aI (lkF (σ 26 0 d) d 2)), some (aI (btN (whB (σ 22 0) (mE σ d) (leF (σ 29 0 d)) (σ 30 0 d) f) v)), some (aI (v : Int)), some (aI z), some (aI (i : Int))]) (st' := [aI 1, aI (i : Int), aI d, aR 21 0, aI z]) (σ' := τ) rfl trivial ?_
            have hg : (mzD 1 f (hoR (σ 22 0) f (v : Int))) i = 1 := by unfold mzD mzR; rw [if_neg (by decide), if_pos rfl]; exact if_pos (by omega)
            refine aw_bV lX7_217 (as := [aI d, aI (i : Int), aI 1]) (rest := [aI z]) (t := 21) (c := 0) (by decide) (by decide) (by decide) rfl rfl (Nat.le_of_ble_eq_true rfl) rfl dX7_whoHeld_100 (cM_isTold l d (i : Int) 1 τ hsτ (by omega) (by omega) (by omega) (by omega) (by decide)) (fun wh8 => ?_) (fun wh8 => ?_)
            · refine aw_b kX7_ok bX7_whoHeld_103_ok (Cs := [0 < 1]) (pc' := 110) (L' := [some (aR 21 0), some (aI d), some (aI f), some (aI (lkF (σ 26 0 d) d 2)), some (aI (btN (whB (σ 22 0) (mE σ d) (leF (σ 29 0 d)) (σ 30 0 d) f) v)), some (aI (v : Int)), some (aI (aAnd z 1)), some (aI (i : Int))]) (st' := [aR 22 1]) (σ' := τ) rfl (show 0 < 1 from by omega) ?_
              refine aw_callS lX7_95 (as := [aR 22 1]) (rest := []) (by decide) rfl (Nat.le_of_ble_eq_true rfl) rfl dX7_whoHeld_110 (cM_dayS l σ τ _ hτ wX (by omega)) ?_
              rintro _ τ9 ⟨rfl, hτ9⟩
              refine aw_b kX7_ok bX7_whoHeld_113_ok (Cs := []) (pc' := 66) (L' := [some (aR 21 0), some (aI d), some (aI f), some (aI (lkF (σ 26 0 d) d 2)), some (aI (btN (whB (σ 22 0) (mE σ d) (leF (σ 29 0 d)) (σ 30 0 d) f) v)), some (aI (v : Int)), some (aI (aAnd z 1)), some (aI ((i : Int) + 1))]) (st' := []) (σ' := τ9) rfl trivial ?_
              have ea : aAnd z 1 = (if z = 1 ∧ (1 : Int) = 1 then 1 else 0) := aAnd_01 hz1 (by decide)
              exact ihi (by omega) τ9 _ hτ9 (by rw [ea]; split <;> omega) (by rw [ea]; refine ⟨fun q j hj => (if hji : j = i then (by rw [hji]; omega) else hA.mp (by split at q <;> omega) j (by omega)), fun q => if_pos ⟨hA.mpr (fun j hj => q j (by omega)), rfl⟩⟩)
            · refine aw_b kX7_ok bX7_whoHeld_103_ok (Cs := [0 < 1]) (pc' := 110) (L' := [some (aR 21 0), some (aI d), some (aI f), some (aI (lkF (σ 26 0 d) d 2)), some (aI (btN (whB (σ 22 0) (mE σ d) (leF (σ 29 0 d)) (σ 30 0 d) f) v)), some (aI (v : Int)), some (aI (aAnd z 0)), some (aI (i : Int))]) (st' := [aR 22 1]) (σ' := τ) rfl (show 0 < 1 from by omega) ?_
              refine aw_callS lX7_95 (as := [aR 22 1]) (rest := []) (by decide) rfl (Nat.le_of_ble_eq_true rfl) rfl dX7_whoHeld_110 (cM_dayS l σ τ _ hτ wX (by omega)) ?_
              rintro _ τ9 ⟨rfl, hτ9⟩
              refine aw_b kX7_ok bX7_whoHeld_113_ok (Cs := []) (pc' := 66) (L' := [some (aR 21 0), some (aI d), some (aI f), some (aI (lkF (σ 26 0 d) d 2)), some (aI (btN (whB (σ 22 0) (mE σ d) (leF (σ 29 0 d)) (σ 30 0 d) f) v)), some (aI (v : Int)), some (aI (aAnd z 0)), some (aI ((i : Int) + 1))]) (st' := []) (σ' := τ9) rfl trivial ?_
              have ea : aAnd z 0 = (if z = 1 ∧ (0 : Int) = 1 then 1 else 0) := aAnd_01 hz1 (by decide)
              exact ihi (by omega) τ9 _ hτ9 (by rw [ea]; split <;> omega) (by rw [ea]; refine ⟨fun q => (by rw [if_neg (by omega)] at q; omega), fun q => (by have q2 := q i (by omega); omega)⟩)
          · refine aw_b kX7_ok bX7_whoHeld_95_ok (Cs := []) (pc' := 100) (L' := [some (aR 21 0), some (aI d), some (aI f), some (aI (lkF (σ 26 0 d) d 2)), some (aI (btN (whB (σ 22 0) (mE σ d) (leF (σ 29 0 d)) (σ 30 0 d) f) v)), some (aI (v : Int)), some (aI z), some (aI (i : Int))]) (st' := [aI 0, aI (i : Int), aI d, aR 21 0, aI z]) (σ' := τ) rfl trivial ?_
            have hg : (mzD 1 f (hoR (σ 22 0) f (v : Int))) i = 0 := by unfold mzD mzR; rw [if_neg (by decide), if_pos rfl]; exact if_neg (by omega)
            refine aw_bV lX7_217 (as := [aI d, aI (i : Int), aI 0]) (rest := [aI z]) (t := 21) (c := 0) (by decide) (by decide) (by decide) rfl rfl (Nat.le_of_ble_eq_true rfl) rfl dX7_whoHeld_100 (cM_isTold l d (i : Int) 0 τ hsτ (by omega) (by omega) (by omega) (by omega) (by decide)) (fun wh9 => ?_) (fun wh9 => ?_)
            · refine aw_b kX7_ok bX7_whoHeld_103_ok (Cs := [0 < 1]) (pc' := 110) (L' := [some (aR 21 0), some (aI d), some (aI f), some (aI (lkF (σ 26 0 d) d 2)), some (aI (btN (whB (σ 22 0) (mE σ d) (leF (σ 29 0 d)) (σ 30 0 d) f) v)), some (aI (v : Int)), some (aI (aAnd z 1)), some (aI (i : Int))]) (st' := [aR 22 1]) (σ' := τ) rfl (show 0 < 1 from by omega) ?_
              refine aw_callS lX7_95 (as := [aR 22 1]) (rest := []) (by decide) rfl (Nat.le_of_ble_eq_true rfl) rfl dX7_whoHeld_110 (cM_dayS l σ τ _ hτ wX (by omega)) ?_
              rintro _ τ9 ⟨rfl, hτ9⟩
              refine aw_b kX7_ok bX7_whoHeld_113_ok (Cs := []) (pc' := 66) (L' := [some (aR 21 0), some (aI d), some (aI f), some (aI (lkF (σ 26 0 d) d 2)), some (aI (btN (whB (σ 22 0) (mE σ d) (leF (σ 29 0 d)) (σ 30 0 d) f) v)), some (aI (v : Int)), some (aI (aAnd z 1)), some (aI ((i : Int) + 1))]) (st' := []) (σ' := τ9) rfl trivial ?_
              have ea : aAnd z 1 = (if z = 1 ∧ (1 : Int) = 1 then 1 else 0) := aAnd_01 hz1 (by decide)
              exact ihi (by omega) τ9 _ hτ9 (by rw [ea]; split <;> omega) (by rw [ea]; refine ⟨fun q j hj => (if hji : j = i then (by rw [hji]; omega) else hA.mp (by split at q <;> omega) j (by omega)), fun q => if_pos ⟨hA.mpr (fun j hj => q j (by omega)), rfl⟩⟩)
            · refine aw_b kX7_ok bX7_whoHeld_103_ok (Cs := [0 < 1]) (pc' := 110) (L' := [some (aR 21 0), some (aI d), some (aI f), some (aI (lkF (σ 26 0 d) d 2)), some (aI (btN (whB (σ 22 0) (mE σ d) (leF (σ 29 0 d)) (σ 30 0 d) f) v)), some (aI (v : Int)), some (aI (aAnd z 0)), some (aI (i : Int))]) (st' := [aR 22 1]) (σ' := τ) rfl (show 0 < 1 from by omega) ?_
              refine aw_callS lX7_95 (as := [aR 22 1]) (rest := []) (by decide) rfl (Nat.le_of_ble_eq_true rfl) rfl dX7_whoHeld_110 (cM_dayS l σ τ _ hτ wX (by omega)) ?_
              rintro _ τ9 ⟨rfl, hτ9⟩
              refine aw_b kX7_ok bX7_whoHeld_113_ok (Cs := []) (pc' := 66) (L' := [some (aR 21 0), some (aI d), some (aI f), some (aI (lkF (σ 26 0 d) d 2)), some (aI (btN (whB (σ 22 0) (mE σ d) (leF (σ 29 0 d)) (σ 30 0 d) f) v)), some (aI (v : Int)), some (aI (aAnd z 0)), some (aI ((i : Int) + 1))]) (st' := []) (σ' := τ9) rfl trivial ?_
              have ea : aAnd z 0 = (if z = 1 ∧ (0 : Int) = 1 then 1 else 0) := aAnd_01 hz1 (by decide)
              exact ihi (by omega) τ9 _ hτ9 (by rw [ea]; split <;> omega) (by rw [ea]; refine ⟨fun q => (by rw [if_neg (by omega)] at q; omega), fun q => (by have q2 := q i (by omega); omega)⟩)
    · refine aw_b kX7_ok bX7_whoHeld_20_ok (Cs := []) (pc' := 21) (L' := [some (aR 21 0), some (aI d), some (aI f), some (aI (lkF (σ 26 0 d) d 2)), none, none, none, none]) (st' := [aI (lkF (σ 26 0 d) d 2)]) (σ' := σ) rfl trivial ?_
      exact aw_iret dX7_whoHeld_21 rfl ⟨aret (if hsh : 0 ≤ d ∧ d < 8 then (by unfold A_whoHeld; rw [if_pos (by omega), if_neg (by omega)]) else (by unfold A_whoHeld; rw [if_neg (by omega)]; unfold lkF; rw [if_neg hsh])), ⟨_, hz, h00⟩⟩
  · refine aw_ine dX7_whoHeld_4 (tgt := 9) (by decide) ⟨by omega, by omega⟩ (fun wh10 => absurd wh10 (by decide)) (fun wh10 => ?_)
    refine aw_b kX7_ok bX7_whoHeld_7_ok (Cs := []) (pc' := 8) (L' := [some (aR 21 0), some (aI d), some (aI f), none, none, none, none, none]) (st' := [aI (-1)]) (σ' := σ) rfl trivial ?_
    exact aw_iret dX7_whoHeld_8 rfl ⟨aret (by unfold A_whoHeld; rw [if_neg (by omega)]), ⟨_, hz, h00⟩⟩
