/-! ===== the model: looks ahead ===== -/
def OZ (r : aRw) : Prop := ∀ i : Int, i < 0 ∨ 45 ≤ i → r i = 0
theorem WF.oz {r : aRw} (h : WF r) : OZ r := h.2.2.2.2.2.2.2
theorem rS {σ τ : aS} {X : aRw} (h : τ = aRow σ 1 X) : τ 22 1 = X ∧ τ 22 0 = σ 22 0 := by
  subst h
  exact ⟨aRow_self, aRow_ne (by decide)⟩
theorem rO {σ τ : aS} {X : aRw} (h : τ = aRow σ 1 X) {t : Nat} (ht : t ≠ 22) (c : Nat) (i : Int) : τ t c i = σ t c i := by
  subst h
  rw [aRow_off ht]
theorem aUp1_row {σ τ : aS} {X : aRw} {i x : Int} (h : τ = aRow σ 1 X) : aUp τ 22 1 i x = aRow σ 1 (rUp X i x) := by subst h; rw [aUp_row2]
theorem aUp2_row {σ τ : aS} {X : aRw} {i x j y : Int} (h : τ = aRow σ 1 X) : aUp (aUp τ 22 1 i x) 22 1 j y = aRow σ 1 (rUp (rUp X i x) j y) := by subst h; rw [aUp_row2, aUp_row2]
/-- an answer; of the store only the row in mind has changed -/
def QR (a : Int) (σ : aS) : Option aV → aS → Prop := fun v σ' => v = some (aI a) ∧ ∃ X : aRw, OZ X ∧ σ' = aRow σ 1 X
def QRL (a : Int) (σ : aS) : Option aV → aS → Prop := fun v σ' => v = some (aL a) ∧ ∃ X : aRw, OZ X ∧ σ' = aRow σ 1 X
theorem cM_cpS (l : Launch) (σ τ : aS) (X : aRw) (hτ : τ = aRow σ 1 X) (hw : WF (σ 22 0)) (hX : OZ X) : AM l 0 mX7_copies [aR 22 0, aR 22 1] τ (fun v τ' => v = none ∧ τ' = aRow σ 1 (σ 22 0)) :=
  am_post (fun r σ' q => by
    obtain ⟨q1, q2⟩ := q
    refine ⟨q1, ?_⟩
    rw [q2, (rS hτ).2, hτ, aRow_two]) (cM_copies l 0 1 (by decide) (by decide) τ (fun i hi => by rw [(rS hτ).1, (rS hτ).2, hX i hi, hw.oz i hi]))
theorem cM_dayS (l : Launch) (σ τ : aS) (X : aRw) (hτ : τ = aRow σ 1 X) (hX : WF X) (hd : X 1 ≤ 999999) : AM l 3 mX7_day [aR 22 1] τ (fun v τ' => v = none ∧ τ' = aRow σ 1 (dayR X)) :=
  am_post (fun r σ' q => by
    obtain ⟨q1, q2⟩ := q
    refine ⟨q1, ?_⟩
    rw [q2, (rS hτ).1, hτ, aRow_two]) (cM_day l 1 (by decide) τ (by rw [(rS hτ).1]; exact hX) (by rw [(rS hτ).1]; exact hd))
set_option maxRecDepth 10000 in
theorem cM_daysOn (l : Launch) (c : Nat) (hc : c < 4) (n : Int) (σ : aS) (hw : WF (σ 22 c)) (h0 : 0 ≤ n) (h1 : n ≤ 200) (hd : σ 22 c 1 + n ≤ 999999) : AM l 4 mX7_daysOn [aR 22 c, aI n] σ (aF none (aRow σ c (dysR (σ 22 c) n.toNat))) := by
  refine am_of (by decide) (Nat.le_of_ble_eq_true rfl) (L := [some (aR 22 c), some (aI n), none]) rfl ?_
  refine aw_b kX7_ok bX7_daysOn_0_ok (Cs := []) (pc' := 2) (L' := [some (aR 22 c), some (aI n), some (aI 0)]) (st' := []) (σ' := σ) rfl trivial ?_
  refine aw_eq rfl rfl (σ' := aRow σ c (dysR (σ 22 c) 0)) aRow_id.symm ?_
  refine aloop (P := fun k : Nat => AW l 4 mX7_daysOn _ 2 [some (aR 22 c), some (aI n), some (aI (k : Int))] [] (aRow σ c (dysR (σ 22 c) k))) n.toNat (fun k hk ihk => ?_)
  have eD := dysR_0 (σ 22 c) k
  refine aw_b kX7_ok bX7_daysOn_2_ok (Cs := []) (pc' := 4) (L' := [some (aR 22 c), some (aI n), some (aI (k : Int))]) (st' := [aI n, aI (k : Int)]) (σ' := aRow σ c (dysR (σ 22 c) k)) rfl trivial ?_
  refine aw_cge dX7_daysOn_4 (tgt := 17) (by decide) ⟨by omega, by omega⟩ ⟨by omega, by omega⟩ (fun wh1 => ?_) (fun wh1 => ?_)
  · exact aw_vret dX7_daysOn_17 rfl ⟨rfl, by rw [show k = n.toNat by omega]⟩
  · refine aw_b kX7_ok bX7_daysOn_7_ok (Cs := []) (pc' := 8) (L' := [some (aR 22 c), some (aI n), some (aI (k : Int))]) (st' := [aR 22 c]) (σ' := aRow σ c (dysR (σ 22 c) k)) rfl trivial ?_
    refine aw_fS lX7_95 (as := [aR 22 c]) (rest := []) (by decide) rfl (Nat.le_of_ble_eq_true rfl) rfl dX7_daysOn_8 (cM_day l c hc (aRow σ c (dysR (σ 22 c) k)) (by rw [aRow_self]; exact dysR_wf hw k) (by rw [aRow_self]; omega)) ?_
    refine aw_b kX7_ok bX7_daysOn_11_ok (Cs := []) (pc' := 2) (L' := [some (aR 22 c), some (aI n), some (aI ((k : Int) + 1))]) (st' := []) (σ' := aRow (aRow σ c (dysR (σ 22 c) k)) c (dayR ((aRow σ c (dysR (σ 22 c) k)) 22 c))) rfl trivial ?_
    exact aw_eq rfl rfl (by rw [aRow_two, aRow_self]; rfl) (ihk (by omega))
theorem cM_daysS (l : Launch) (n : Int) (σ τ : aS) (X : aRw) (hτ : τ = aRow σ 1 X) (hX : WF X) (h0 : 0 ≤ n) (h1 : n ≤ 200) (hd : X 1 ≤ 9999) : AM l 4 mX7_daysOn [aR 22 1, aI n] τ (fun v τ' => v = none ∧ τ' = aRow σ 1 (dysR X n.toNat)) :=
  am_post (fun r σ' q => by
    obtain ⟨q1, q2⟩ := q
    refine ⟨q1, ?_⟩
    rw [q2, (rS hτ).1, hτ, aRow_two]) (cM_daysOn l 1 (by decide) n τ (by rw [(rS hτ).1]; exact hX) h0 h1 (by rw [(rS hτ).1]; omega))
set_option maxRecDepth 10000 in
theorem cM_takes (l : Launch) (n : Int) (σ : aS) (hw : WF (σ 22 0)) (hd : σ 22 0 1 ≤ 999) (hz : OZ (σ 22 1)) (h0 : 0 ≤ n) (h1 : n ≤ 60) : AM l 5 mX7_takes [aR 21 0, aI n] σ ((fun v τ => v = none ∧ τ = aRow σ 1 (dysR (σ 22 0) n.toNat))) := by
  have bn := hw.1
  have b1 := hw.2.1
  have b2 := hw.2.2.1
  have h00 : σ = aRow σ 1 (σ 22 1) := aRow_id.symm
  refine am_of (by decide) (Nat.le_of_ble_eq_true rfl) (L := [some (aR 21 0), some (aI n)]) rfl ?_
  refine aw_b kX7_ok bX7_takes_0_ok (Cs := [0 < 1, 0 < 1]) (pc' := 8) (L' := [some (aR 21 0), some (aI n)]) (st' := [aR 22 1, aR 22 0]) (σ' := σ) rfl (show (0 < 1) ∧ (0 < 1) from ⟨by omega, by omega⟩) ?_
  refine aw_callS lX7_145 (as := [aR 22 0, aR 22 1]) (rest := []) (by decide) rfl (Nat.le_of_ble_eq_true rfl) rfl dX7_takes_8 (cM_cpS l σ σ _ h00 hw hz) ?_
  rintro _ τ1 ⟨rfl, hτ1⟩
  have m1 := (rS hτ1).1
  have s1 := (rS hτ1).2
  refine aw_b kX7_ok bX7_takes_11_ok (Cs := [0 < 1]) (pc' := 16) (L' := [some (aR 21 0), some (aI n)]) (st' := [aI n, aR 22 1]) (σ' := τ1) rfl (show 0 < 1 from by omega) ?_
  refine aw_callS lX7_135 (as := [aR 22 1, aI n]) (rest := []) (by decide) rfl (Nat.le_of_ble_eq_true rfl) rfl dX7_takes_16 (cM_daysS l n σ τ1 _ hτ1 hw (by omega) (by omega) (by omega)) ?_
  rintro _ τ2 ⟨rfl, hτ2⟩
  have m2 := (rS hτ2).1
  have s2 := (rS hτ2).2
  exact aw_vret dX7_takes_19 rfl ⟨rfl, hτ2⟩
set_option maxRecDepth 10000 in
theorem cM_heldThen (l : Launch) (f n : Int) (σ : aS) (hw : WF (σ 22 0)) (hd : σ 22 0 1 ≤ 999) (hz : OZ (σ 22 1)) (hf : aIr f) (hn : aIr n) : AM l 6 mX7_heldThen [aR 21 0, aI f, aI n] σ (QR (A_heldThen (σ 22 0) f n) σ) := by
  have bn := hw.1
  have b1 := hw.2.1
  have b2 := hw.2.2.1
  have h00 : σ = aRow σ 1 (σ 22 1) := aRow_id.symm
  refine am_of (by decide) (Nat.le_of_ble_eq_true rfl) (L := [some (aR 21 0), some (aI f), some (aI n)]) rfl ?_
  refine aw_b kX7_ok bX7_heldThen_0_ok (Cs := []) (pc' := 1) (L' := [some (aR 21 0), some (aI f), some (aI n)]) (st' := [aI f]) (σ' := σ) rfl trivial ?_
  refine aw_bS lX7_125 (as := [aI f]) (rest := []) (by decide) rfl (Nat.le_of_ble_eq_true rfl) rfl dX7_heldThen_1 (cM_isOffice l f σ ⟨by omega, by omega⟩) (fun wh1 => ?_) (fun wh1 => ?_)
  · refine aw_ieq dX7_heldThen_4 (tgt := 14) (by decide) ⟨by omega, by omega⟩ (fun wh2 => absurd wh2 (by decide)) (fun wh2 => ?_)
    refine aw_b kX7_ok bX7_heldThen_7_ok (Cs := []) (pc' := 8) (L' := [some (aR 21 0), some (aI f), some (aI n)]) (st' := [aI n]) (σ' := σ) rfl trivial ?_
    refine aw_bS lX7_170 (as := [aI n]) (rest := []) (by decide) rfl (Nat.le_of_ble_eq_true rfl) rfl dX7_heldThen_8 (cM_isLate l n σ ⟨by omega, by omega⟩) (fun wh3 => ?_) (fun wh3 => ?_)
    · refine aw_ine dX7_heldThen_11 (tgt := 16) (by decide) ⟨by omega, by omega⟩ (fun wh4 => ?_) (fun wh4 => absurd wh4 (by decide))
      refine aw_b kX7_ok bX7_heldThen_16_ok (Cs := []) (pc' := 18) (L' := [some (aR 21 0), some (aI f), some (aI n)]) (st' := [aI n, aR 21 0]) (σ' := σ) rfl trivial ?_
      refine aw_callV lX7_173 (as := [aI n]) (rest := []) (t := 21) (c := 0) (by decide) (by decide) (by decide) rfl rfl (Nat.le_of_ble_eq_true rfl) rfl dX7_heldThen_18 (cM_takes l n σ hw hd hz (by omega) (by omega)) ?_
      rintro _ τ ⟨rfl, hτ⟩
      have m := (rS hτ).1
      have s := (rS hτ).2
      have wX := dysR_wf hw n.toNat
      have eX := dysR_0 (σ 22 0) n.toNat
      refine aw_b kX7_ok bX7_heldThen_21_ok (Cs := [0 < 1, 1 < 4, 0 ≤ 8 + f ∧ 8 + f < 45]) (pc' := 30) (L' := [some (aR 21 0), some (aI f), some (aI n)]) (st' := [aI (τ 22 1 (8 + f))]) (σ' := τ) rfl (show (0 < 1) ∧ (1 < 4) ∧ (0 ≤ 8 + f ∧ 8 + f < 45) from ⟨by omega, by omega, by omega⟩) ?_
      exact aw_iret dX7_heldThen_30 rfl ⟨aret (by unfold A_heldThen; rw [if_pos (by omega), m]), ⟨_, wX.oz, hτ⟩⟩
    · refine aw_ine dX7_heldThen_11 (tgt := 16) (by decide) ⟨by omega, by omega⟩ (fun wh5 => absurd wh5 (by decide)) (fun wh5 => ?_)
      refine aw_b kX7_ok bX7_heldThen_14_ok (Cs := []) (pc' := 15) (L' := [some (aR 21 0), some (aI f), some (aI n)]) (st' := [aI (-1)]) (σ' := σ) rfl trivial ?_
      exact aw_iret dX7_heldThen_15 rfl ⟨aret (by unfold A_heldThen; rw [if_neg (by omega)]), ⟨_, hz, h00⟩⟩
  · refine aw_ieq dX7_heldThen_4 (tgt := 14) (by decide) ⟨by omega, by omega⟩ (fun wh6 => ?_) (fun wh6 => absurd wh6 (by decide))
    refine aw_b kX7_ok bX7_heldThen_14_ok (Cs := []) (pc' := 15) (L' := [some (aR 21 0), some (aI f), some (aI n)]) (st' := [aI (-1)]) (σ' := σ) rfl trivial ?_
    exact aw_iret dX7_heldThen_15 rfl ⟨aret (by unfold A_heldThen; rw [if_neg (by omega)]), ⟨_, hz, h00⟩⟩
set_option maxRecDepth 10000 in
theorem cM_knownThen (l : Launch) (p n : Int) (σ : aS) (hw : WF (σ 22 0)) (hd : σ 22 0 1 ≤ 999) (hz : OZ (σ 22 1)) (hp : aIr p) (hn : aIr n) : AM l 6 mX7_knownThen [aR 21 0, aI p, aI n] σ (QR (A_knownThen (σ 22 0) p n) σ) := by
  have bn := hw.1
  have b1 := hw.2.1
  have b2 := hw.2.2.1
  have h00 : σ = aRow σ 1 (σ 22 1) := aRow_id.symm
  refine am_of (by decide) (Nat.le_of_ble_eq_true rfl) (L := [some (aR 21 0), some (aI p), some (aI n)]) rfl ?_
  refine aw_b kX7_ok bX7_knownThen_0_ok (Cs := []) (pc' := 2) (L' := [some (aR 21 0), some (aI p), some (aI n)]) (st' := [aI p, aR 21 0]) (σ' := σ) rfl trivial ?_
  refine aw_bV lX7_128 (as := [aI p]) (rest := []) (t := 21) (c := 0) (by decide) (by decide) (by decide) rfl rfl (Nat.le_of_ble_eq_true rfl) rfl dX7_knownThen_2 (cM_isOne l p σ ⟨by omega, by omega⟩ (by omega)) (fun wh1 => ?_) (fun wh1 => ?_)
  · refine aw_ieq dX7_knownThen_5 (tgt := 15) (by decide) ⟨by omega, by omega⟩ (fun wh2 => absurd wh2 (by decide)) (fun wh2 => ?_)
    refine aw_b kX7_ok bX7_knownThen_8_ok (Cs := []) (pc' := 9) (L' := [some (aR 21 0), some (aI p), some (aI n)]) (st' := [aI n]) (σ' := σ) rfl trivial ?_
    refine aw_bS lX7_170 (as := [aI n]) (rest := []) (by decide) rfl (Nat.le_of_ble_eq_true rfl) rfl dX7_knownThen_9 (cM_isLate l n σ ⟨by omega, by omega⟩) (fun wh3 => ?_) (fun wh3 => ?_)
    · refine aw_ine dX7_knownThen_12 (tgt := 17) (by decide) ⟨by omega, by omega⟩ (fun wh4 => ?_) (fun wh4 => absurd wh4 (by decide))
      refine aw_b kX7_ok bX7_knownThen_17_ok (Cs := []) (pc' := 19) (L' := [some (aR 21 0), some (aI p), some (aI n)]) (st' := [aI n, aR 21 0]) (σ' := σ) rfl trivial ?_
      refine aw_callV lX7_173 (as := [aI n]) (rest := []) (t := 21) (c := 0) (by decide) (by decide) (by decide) rfl rfl (Nat.le_of_ble_eq_true rfl) rfl dX7_knownThen_19 (cM_takes l n σ hw hd hz (by omega) (by omega)) ?_
      rintro _ τ ⟨rfl, hτ⟩
      have m := (rS hτ).1
      have s := (rS hτ).2
      have wX := dysR_wf hw n.toNat
      have eX := dysR_0 (σ 22 0) n.toNat
      refine aw_b kX7_ok bX7_knownThen_22_ok (Cs := [0 < 1]) (pc' := 28) (L' := [some (aR 21 0), some (aI p), some (aI n)]) (st' := [aI 2, aI p, aR 22 1]) (σ' := τ) rfl (show 0 < 1 from by omega) ?_
      refine aw_fS lX7_57 (as := [aI p, aI 2]) (rest := [aR 22 1]) (by decide) rfl (Nat.le_of_ble_eq_true rfl) rfl dX7_knownThen_28 (cM_of l p 2 τ) ?_
      have ba := aOf_rng (p := p) (w := 2) (by omega) (by omega) (by decide) (by decide)
      refine aw_b kX7_ok bX7_knownThen_31_ok (Cs := [1 < 4, 0 ≤ aOf p 2 ∧ aOf p 2 < 45]) (pc' := 32) (L' := [some (aR 21 0), some (aI p), some (aI n)]) (st' := [aI (τ 22 1 (aOf p 2))]) (σ' := τ) rfl (show (1 < 4) ∧ (0 ≤ aOf p 2 ∧ aOf p 2 < 45) from ⟨by omega, by omega⟩) ?_
      exact aw_iret dX7_knownThen_32 rfl ⟨aret (by unfold A_knownThen; rw [if_pos (by omega), m]), ⟨_, wX.oz, hτ⟩⟩
    · refine aw_ine dX7_knownThen_12 (tgt := 17) (by decide) ⟨by omega, by omega⟩ (fun wh5 => absurd wh5 (by decide)) (fun wh5 => ?_)
      refine aw_b kX7_ok bX7_knownThen_15_ok (Cs := []) (pc' := 16) (L' := [some (aR 21 0), some (aI p), some (aI n)]) (st' := [aI (-1)]) (σ' := σ) rfl trivial ?_
      exact aw_iret dX7_knownThen_16 rfl ⟨aret (by unfold A_knownThen; rw [if_neg (by omega)]), ⟨_, hz, h00⟩⟩
  · refine aw_ieq dX7_knownThen_5 (tgt := 15) (by decide) ⟨by omega, by omega⟩ (fun wh6 => ?_) (fun wh6 => absurd wh6 (by decide))
    refine aw_b kX7_ok bX7_knownThen_15_ok (Cs := []) (pc' := 16) (L' := [some (aR 21 0), some (aI p), some (aI n)]) (st' := [aI (-1)]) (σ' := σ) rfl trivial ?_
    exact aw_iret dX7_knownThen_16 rfl ⟨aret (by unfold A_knownThen; rw [if_neg (by omega)]), ⟨_, hz, h00⟩⟩
set_option maxRecDepth 10000 in
theorem cM_then (l : Launch) (n w : Int) (σ : aS) (hw : WF (σ 22 0)) (hd : σ 22 0 1 ≤ 999) (hz : OZ (σ 22 1)) (hn : aIr n) (hv : aIr w) : AM l 6 mX7_then [aR 21 0, aI n, aI w] σ (QR (A_then (σ 22 0) n w) σ) := by
  have bn := hw.1
  have b1 := hw.2.1
  have b2 := hw.2.2.1
  have h00 : σ = aRow σ 1 (σ 22 1) := aRow_id.symm
  refine am_of (by decide) (Nat.le_of_ble_eq_true rfl) (L := [some (aR 21 0), some (aI n), some (aI w)]) rfl ?_
  refine aw_b kX7_ok bX7_then_0_ok (Cs := []) (pc' := 1) (L' := [some (aR 21 0), some (aI n), some (aI w)]) (st' := [aI n]) (σ' := σ) rfl trivial ?_
  refine aw_bS lX7_170 (as := [aI n]) (rest := []) (by decide) rfl (Nat.le_of_ble_eq_true rfl) rfl dX7_then_1 (cM_isLate l n σ ⟨by omega, by omega⟩) (fun wh1 => ?_) (fun wh1 => ?_)
  · refine aw_ieq dX7_then_4 (tgt := 16) (by decide) ⟨by omega, by omega⟩ (fun wh2 => absurd wh2 (by decide)) (fun wh2 => ?_)
    refine aw_b kX7_ok bX7_then_7_ok (Cs := []) (pc' := 10) (L' := [some (aR 21 0), some (aI n), some (aI w)]) (st' := [aI 1, aI 0, aI w]) (σ' := σ) rfl trivial ?_
    refine aw_bS lX7_49 (as := [aI w, aI 0, aI 1]) (rest := []) (by decide) rfl (Nat.le_of_ble_eq_true rfl) rfl dX7_then_10 (cM_isIn l w 0 1 σ ⟨by omega, by omega⟩ ⟨by omega, by omega⟩ ⟨by omega, by omega⟩) (fun wh3 => ?_) (fun wh3 => ?_)
    · refine aw_ine dX7_then_13 (tgt := 18) (by decide) ⟨by omega, by omega⟩ (fun wh4 => ?_) (fun wh4 => absurd wh4 (by decide))
      refine aw_b kX7_ok bX7_then_18_ok (Cs := []) (pc' := 20) (L' := [some (aR 21 0), some (aI n), some (aI w)]) (st' := [aI n, aR 21 0]) (σ' := σ) rfl trivial ?_
      refine aw_callV lX7_173 (as := [aI n]) (rest := []) (t := 21) (c := 0) (by decide) (by decide) (by decide) rfl rfl (Nat.le_of_ble_eq_true rfl) rfl dX7_then_20 (cM_takes l n σ hw hd hz (by omega) (by omega)) ?_
      rintro _ τ ⟨rfl, hτ⟩
      have m := (rS hτ).1
      have s := (rS hτ).2
      have wX := dysR_wf hw n.toNat
      have eX := dysR_0 (σ 22 0) n.toNat
      refine aw_b kX7_ok bX7_then_23_ok (Cs := []) (pc' := 24) (L' := [some (aR 21 0), some (aI n), some (aI w)]) (st' := [aI w]) (σ' := τ) rfl trivial ?_
      refine aw_ine dX7_then_24 (tgt := 37) (by decide) ⟨by omega, by omega⟩ (fun wh5 => ?_) (fun wh5 => ?_)
      · refine aw_b kX7_ok bX7_then_37_ok (Cs := [0 < 1, 1 < 4, 0 ≤ 2 ∧ 2 < 45]) (pc' := 43) (L' := [some (aR 21 0), some (aI n), some (aI w)]) (st' := [aI (τ 22 1 2)]) (σ' := τ) rfl (show (0 < 1) ∧ (1 < 4) ∧ (0 ≤ 2 ∧ 2 < 45) from ⟨by omega, by omega, by omega⟩) ?_
        exact aw_iret dX7_then_43 rfl ⟨aret (by unfold A_then; rw [if_pos (by omega), if_neg (by omega), m]), ⟨_, wX.oz, hτ⟩⟩
      · refine aw_b kX7_ok bX7_then_27_ok (Cs := [0 < 1]) (pc' := 31) (L' := [some (aR 21 0), some (aI n), some (aI w)]) (st' := [aR 22 1]) (σ' := τ) rfl (show 0 < 1 from by omega) ?_
        refine aw_fS lX7_177 (as := [aR 22 1]) (rest := []) (by decide) rfl (Nat.le_of_ble_eq_true rfl) rfl dX7_then_31 (cM_heldIn l 1 (by decide) τ (by rw [m]; exact wX)) ?_
        refine aw_b kX7_ok bX7_then_34_ok (Cs := []) (pc' := 43) (L' := [some (aR 21 0), some (aI n), some (aI w)]) (st' := [aI (hbN (τ 22 1) 5)]) (σ' := τ) rfl trivial ?_
        exact aw_iret dX7_then_43 rfl ⟨aret (by unfold A_then; rw [if_pos (by omega), if_pos (by omega), m]), ⟨_, wX.oz, hτ⟩⟩
    · refine aw_ine dX7_then_13 (tgt := 18) (by decide) ⟨by omega, by omega⟩ (fun wh6 => absurd wh6 (by decide)) (fun wh6 => ?_)
      refine aw_b kX7_ok bX7_then_16_ok (Cs := []) (pc' := 17) (L' := [some (aR 21 0), some (aI n), some (aI w)]) (st' := [aI (-1)]) (σ' := σ) rfl trivial ?_
      exact aw_iret dX7_then_17 rfl ⟨aret (by unfold A_then; rw [if_neg (by omega)]), ⟨_, hz, h00⟩⟩
  · refine aw_ieq dX7_then_4 (tgt := 16) (by decide) ⟨by omega, by omega⟩ (fun wh7 => ?_) (fun wh7 => absurd wh7 (by decide))
    refine aw_b kX7_ok bX7_then_16_ok (Cs := []) (pc' := 17) (L' := [some (aR 21 0), some (aI n), some (aI w)]) (st' := [aI (-1)]) (σ' := σ) rfl trivial ?_
    exact aw_iret dX7_then_17 rfl ⟨aret (by unfold A_then; rw [if_neg (by omega)]), ⟨_, hz, h00⟩⟩
set_option maxRecDepth 10000 in
theorem cM_whenNot (l : Launch) (f p : Int) (σ τ0 : aS) (X : aRw) (h0 : τ0 = aRow σ 1 X) (hX : WF X) (hd : X 1 ≤ 9999) (f0 : 0 ≤ f) (f1 : f < 5) (hp : aIr p) : AM l 4 mX7_whenNot [aR 21 0, aI f, aI p] τ0 ((fun v σ' => v = some (aI (wnF X f p 61 0)) ∧ ∃ Y : aRw, WF Y ∧ σ' = aRow σ 1 Y)) := by
  have bn := hX.1
  refine am_of (by decide) (Nat.le_of_ble_eq_true rfl) (L := [some (aR 21 0), some (aI f), some (aI p), none]) rfl ?_
  refine aw_b kX7_ok bX7_whenNot_0_ok (Cs := []) (pc' := 2) (L' := [some (aR 21 0), some (aI f), some (aI p), some (aI 0)]) (st' := []) (σ' := τ0) rfl trivial ?_
  refine aloop (P := fun n : Nat => ∀ (τ : aS) (hτ : τ = aRow σ 1 (dysR X n)) (hA : wnF X f p 61 0 = wnF X f p (61 - n) n), AW l 4 mX7_whenNot _ 2 [some (aR 21 0), some (aI f), some (aI p), some (aI (n : Int))] [] τ) (61) (fun n hn ihn τ hτ hA => ?_) τ0 h0 rfl
  have m := (rS hτ).1
  have wX := dysR_wf hX n
  have eX := dysR_0 X n
  have bh := wX.ho f0 f1
  have em : τ 22 1 (8 + f) = dysR X n (8 + f) := by rw [m]
  refine aw_b kX7_ok bX7_whenNot_2_ok (Cs := []) (pc' := 5) (L' := [some (aR 21 0), some (aI f), some (aI p), some (aI (n : Int))]) (st' := [aI 60, aI (n : Int)]) (σ' := τ) rfl trivial ?_
  refine aw_cgt dX7_whenNot_5 (tgt := 36) (by decide) ⟨by omega, by omega⟩ ⟨by omega, by omega⟩ (fun wh1 => ?_) (fun wh1 => ?_)
  · refine aw_b kX7_ok bX7_whenNot_36_ok (Cs := []) (pc' := 38) (L' := [some (aR 21 0), some (aI f), some (aI p), some (aI (n : Int))]) (st' := [aI (-4)]) (σ' := τ) rfl trivial ?_
    exact aw_iret dX7_whenNot_38 rfl ⟨aret (by rw [hA, show 61 - n = 0 by omega]; rfl), ⟨_, wX, hτ⟩⟩
  · have hB : wnF X f p 61 0 = (if dysR X n (8 + f) = p then wnF X f p (61 - (n + 1)) (n + 1) else (n : Int)) := by
      rw [hA, show 61 - n = (61 - (n + 1)) + 1 by omega]; rfl
    refine aw_b kX7_ok bX7_whenNot_8_ok (Cs := [0 < 1, 1 < 4, 0 ≤ 8 + f ∧ 8 + f < 45]) (pc' := 18) (L' := [some (aR 21 0), some (aI f), some (aI p), some (aI (n : Int))]) (st' := [aI p, aI (τ 22 1 (8 + f))]) (σ' := τ) rfl (show (0 < 1) ∧ (1 < 4) ∧ (0 ≤ 8 + f ∧ 8 + f < 45) from ⟨by omega, by omega, by omega⟩) ?_
    refine aw_ceq dX7_whenNot_18 (tgt := 23) (by decide) ⟨by omega, by omega⟩ ⟨by omega, by omega⟩ (fun wh2 => ?_) (fun wh2 => ?_)
    · refine aw_b kX7_ok bX7_whenNot_23_ok (Cs := [0 < 1]) (pc' := 27) (L' := [some (aR 21 0), some (aI f), some (aI p), some (aI (n : Int))]) (st' := [aR 22 1]) (σ' := τ) rfl (show 0 < 1 from by omega) ?_
      refine aw_callS lX7_95 (as := [aR 22 1]) (rest := []) (by decide) rfl (Nat.le_of_ble_eq_true rfl) rfl dX7_whenNot_27 (cM_dayS l σ τ _ hτ wX (by omega)) ?_
      rintro _ τ9 ⟨rfl, hτ9⟩
      refine aw_b kX7_ok bX7_whenNot_30_ok (Cs := []) (pc' := 2) (L' := [some (aR 21 0), some (aI f), some (aI p), some (aI ((n : Int) + 1))]) (st' := []) (σ' := τ9) rfl trivial ?_
      exact ihn (by omega) τ9 hτ9 (hB.trans (if_pos (by omega)))
    · refine aw_b kX7_ok bX7_whenNot_21_ok (Cs := []) (pc' := 22) (L' := [some (aR 21 0), some (aI f), some (aI p), some (aI (n : Int))]) (st' := [aI (n : Int)]) (σ' := τ) rfl trivial ?_
      exact aw_iret dX7_whenNot_22 rfl ⟨aret (hB.trans (if_neg (by omega))).symm, ⟨_, wX, hτ⟩⟩
theorem wnF_rng (X : aRw) (f p : Int) : ∀ k d : Nat, -4 ≤ wnF X f p k d ∧ wnF X f p k d ≤ d + k
  | 0, d => ⟨Int.le_refl _, by show (-4 : Int) ≤ _; omega⟩
  | k + 1, d => by
    have h := wnF_rng X f p k (d + 1)
    rw [wnF]
    split <;> omega
theorem emF_rng (X : aRw) (f : Int) : ∀ k d : Nat, -4 ≤ emF X f k d ∧ emF X f k d ≤ d + k
  | 0, d => ⟨Int.le_refl _, by show (-4 : Int) ≤ _; omega⟩
  | k + 1, d => by
    have h := emF_rng X f k (d + 1)
    rw [emF]
    split <;> omega
set_option maxRecDepth 10000 in
theorem cM_falls (l : Launch) (p : Int) (σ : aS) (hw : WF (σ 22 0)) (hd : σ 22 0 1 ≤ 999) (hz : OZ (σ 22 1)) (hp : aIr p) : AM l 5 mX7_falls [aR 21 0, aI p] σ (QR (A_falls (σ 22 0) p) σ) := by
  have bn := hw.1
  have b1 := hw.2.1
  have b2 := hw.2.2.1
  have h00 : σ = aRow σ 1 (σ 22 1) := aRow_id.symm
  refine am_of (by decide) (Nat.le_of_ble_eq_true rfl) (L := [some (aR 21 0), some (aI p), none]) rfl ?_
  refine aw_b kX7_ok bX7_falls_0_ok (Cs := []) (pc' := 2) (L' := [some (aR 21 0), some (aI p), none]) (st' := [aI p, aR 21 0]) (σ' := σ) rfl trivial ?_
  refine aw_bV lX7_128 (as := [aI p]) (rest := []) (t := 21) (c := 0) (by decide) (by decide) (by decide) rfl rfl (Nat.le_of_ble_eq_true rfl) rfl dX7_falls_2 (cM_isOne l p σ ⟨by omega, by omega⟩ (by omega)) (fun wh1 => ?_) (fun wh1 => ?_)
  · refine aw_ine dX7_falls_5 (tgt := 10) (by decide) ⟨by omega, by omega⟩ (fun wh2 => ?_) (fun wh2 => absurd wh2 (by decide))
    refine aw_b kX7_ok bX7_falls_10_ok (Cs := [0 < 1]) (pc' := 15) (L' := [some (aR 21 0), some (aI p), none]) (st' := [aI p, aR 22 0]) (σ' := σ) rfl (show 0 < 1 from by omega) ?_
    refine aw_fS lX7_64 (as := [aR 22 0, aI p]) (rest := []) (by decide) rfl (Nat.le_of_ble_eq_true rfl) rfl dX7_falls_15 (cM_officeOf l 0 (by omega) p σ ⟨by omega, by omega⟩ hw) ?_
    have bo := off_rng (σ 22 0) p
    refine aw_b kX7_ok bX7_falls_18_ok (Cs := []) (pc' := 20) (L' := [some (aR 21 0), some (aI p), some (aI (off (σ 22 0) p))]) (st' := [aI (off (σ 22 0) p)]) (σ' := σ) rfl trivial ?_
    refine aw_ige dX7_falls_20 (tgt := 26) (by decide) ⟨by omega, by omega⟩ (fun wh3 => ?_) (fun wh3 => ?_)
    · refine aw_b kX7_ok bX7_falls_26_ok (Cs := [0 < 1, 0 < 1]) (pc' := 34) (L' := [some (aR 21 0), some (aI p), some (aI (off (σ 22 0) p))]) (st' := [aR 22 1, aR 22 0]) (σ' := σ) rfl (show (0 < 1) ∧ (0 < 1) from ⟨by omega, by omega⟩) ?_
      refine aw_callS lX7_145 (as := [aR 22 0, aR 22 1]) (rest := []) (by decide) rfl (Nat.le_of_ble_eq_true rfl) rfl dX7_falls_34 (cM_cpS l σ σ _ h00 hw hz) ?_
      rintro _ τ1 ⟨rfl, hτ1⟩
      have m1 := (rS hτ1).1
      have s1 := (rS hτ1).2
      refine aw_b kX7_ok bX7_falls_37_ok (Cs := []) (pc' := 40) (L' := [some (aR 21 0), some (aI p), some (aI (off (σ 22 0) p))]) (st' := [aI p, aI (off (σ 22 0) p), aR 21 0]) (σ' := τ1) rfl trivial ?_
      refine aw_callV lX7_181 (as := [aI (off (σ 22 0) p), aI p]) (rest := []) (t := 21) (c := 0) (by decide) (by decide) (by decide) rfl rfl (Nat.le_of_ble_eq_true rfl) rfl dX7_falls_40 (cM_whenNot l (off (σ 22 0) p) p σ τ1 _ hτ1 hw (by omega) (by omega) (by omega) ⟨by omega, by omega⟩) ?_
      rintro _ τ2 ⟨rfl, Y, hY, hτ2⟩
      exact aw_iret dX7_falls_43 rfl ⟨aret (by unfold A_falls; rw [if_pos (by omega), if_neg (by omega)]), ⟨_, hY.oz, hτ2⟩⟩
    · refine aw_b kX7_ok bX7_falls_23_ok (Cs := []) (pc' := 25) (L' := [some (aR 21 0), some (aI p), some (aI (off (σ 22 0) p))]) (st' := [aI (-4)]) (σ' := σ) rfl trivial ?_
      exact aw_iret dX7_falls_25 rfl ⟨aret (by unfold A_falls; rw [if_pos (by omega), if_pos (by omega)]), ⟨_, hz, h00⟩⟩
  · refine aw_ine dX7_falls_5 (tgt := 10) (by decide) ⟨by omega, by omega⟩ (fun wh4 => absurd wh4 (by decide)) (fun wh4 => ?_)
    refine aw_b kX7_ok bX7_falls_8_ok (Cs := []) (pc' := 9) (L' := [some (aR 21 0), some (aI p), none]) (st' := [aI (-1)]) (σ' := σ) rfl trivial ?_
    exact aw_iret dX7_falls_9 rfl ⟨aret (by unfold A_falls; rw [if_neg (by omega)]), ⟨_, hz, h00⟩⟩
set_option maxRecDepth 10000 in
theorem cM_empty (l : Launch) (f : Int) (σ : aS) (hw : WF (σ 22 0)) (hd : σ 22 0 1 ≤ 999) (hz : OZ (σ 22 1)) (hf : aIr f) : AM l 4 mX7_empty [aR 21 0, aI f] σ (QR (A_empty (σ 22 0) f) σ) := by
  have bn := hw.1
  have b1 := hw.2.1
  have b2 := hw.2.2.1
  have h00 : σ = aRow σ 1 (σ 22 1) := aRow_id.symm
  refine am_of (by decide) (Nat.le_of_ble_eq_true rfl) (L := [some (aR 21 0), some (aI f), none]) rfl ?_
  refine aw_b kX7_ok bX7_empty_0_ok (Cs := []) (pc' := 1) (L' := [some (aR 21 0), some (aI f), none]) (st' := [aI f]) (σ' := σ) rfl trivial ?_
  refine aw_bS lX7_125 (as := [aI f]) (rest := []) (by decide) rfl (Nat.le_of_ble_eq_true rfl) rfl dX7_empty_1 (cM_isOffice l f σ ⟨by omega, by omega⟩) (fun wh1 => ?_) (fun wh1 => ?_)
  · refine aw_ine dX7_empty_4 (tgt := 9) (by decide) ⟨by omega, by omega⟩ (fun wh2 => ?_) (fun wh2 => absurd wh2 (by decide))
    refine aw_b kX7_ok bX7_empty_9_ok (Cs := [0 < 1, 0 < 1]) (pc' := 17) (L' := [some (aR 21 0), some (aI f), none]) (st' := [aR 22 1, aR 22 0]) (σ' := σ) rfl (show (0 < 1) ∧ (0 < 1) from ⟨by omega, by omega⟩) ?_
    refine aw_callS lX7_145 (as := [aR 22 0, aR 22 1]) (rest := []) (by decide) rfl (Nat.le_of_ble_eq_true rfl) rfl dX7_empty_17 (cM_cpS l σ σ _ h00 hw hz) ?_
    rintro _ τ1 ⟨rfl, hτ1⟩
    have m1 := (rS hτ1).1
    have s1 := (rS hτ1).2
    refine aw_b kX7_ok bX7_empty_20_ok (Cs := []) (pc' := 22) (L' := [some (aR 21 0), some (aI f), some (aI 0)]) (st' := []) (σ' := τ1) rfl trivial ?_
    have hA0 : A_empty (σ 22 0) f = emF (σ 22 0) f 61 0 := by unfold A_empty; rw [if_pos (by omega)]
    refine aloop (P := fun n : Nat => ∀ (τ : aS) (hτ : τ = aRow σ 1 (dysR (σ 22 0) n)) (hA : A_empty (σ 22 0) f = emF (σ 22 0) f (61 - n) n), AW l 4 mX7_empty _ 22 [some (aR 21 0), some (aI f), some (aI (n : Int))] [] τ) (61) (fun n hn ihn τ hτ hA => ?_) τ1 hτ1 hA0
    have m := (rS hτ).1
    have wX := dysR_wf hw n
    have eX := dysR_0 (σ 22 0) n
    have bh := wX.ho (f := f) (by omega) (by omega)
    have em : τ 22 1 (8 + f) = dysR (σ 22 0) n (8 + f) := by rw [m]
    refine aw_b kX7_ok bX7_empty_22_ok (Cs := []) (pc' := 25) (L' := [some (aR 21 0), some (aI f), some (aI (n : Int))]) (st' := [aI 60, aI (n : Int)]) (σ' := τ) rfl trivial ?_
    refine aw_cgt dX7_empty_25 (tgt := 55) (by decide) ⟨by omega, by omega⟩ ⟨by omega, by omega⟩ (fun wh3 => ?_) (fun wh3 => ?_)
    · refine aw_b kX7_ok bX7_empty_55_ok (Cs := []) (pc' := 57) (L' := [some (aR 21 0), some (aI f), some (aI (n : Int))]) (st' := [aI (-4)]) (σ' := τ) rfl trivial ?_
      exact aw_iret dX7_empty_57 rfl ⟨aret (by rw [hA, show 61 - n = 0 by omega]; rfl), ⟨_, wX.oz, hτ⟩⟩
    · have hB : A_empty (σ 22 0) f = (if dysR (σ 22 0) n (8 + f) < 0 then (n : Int) else emF (σ 22 0) f (61 - (n + 1)) (n + 1)) := by
        rw [hA, show 61 - n = (61 - (n + 1)) + 1 by omega]; rfl
      refine aw_b kX7_ok bX7_empty_28_ok (Cs := [0 < 1, 1 < 4, 0 ≤ 8 + f ∧ 8 + f < 45]) (pc' := 37) (L' := [some (aR 21 0), some (aI f), some (aI (n : Int))]) (st' := [aI (τ 22 1 (8 + f))]) (σ' := τ) rfl (show (0 < 1) ∧ (1 < 4) ∧ (0 ≤ 8 + f ∧ 8 + f < 45) from ⟨by omega, by omega, by omega⟩) ?_
      refine aw_ige dX7_empty_37 (tgt := 42) (by decide) ⟨by omega, by omega⟩ (fun wh4 => ?_) (fun wh4 => ?_)
      · refine aw_b kX7_ok bX7_empty_42_ok (Cs := [0 < 1]) (pc' := 46) (L' := [some (aR 21 0), some (aI f), some (aI (n : Int))]) (st' := [aR 22 1]) (σ' := τ) rfl (show 0 < 1 from by omega) ?_
        refine aw_callS lX7_95 (as := [aR 22 1]) (rest := []) (by decide) rfl (Nat.le_of_ble_eq_true rfl) rfl dX7_empty_46 (cM_dayS l σ τ _ hτ wX (by omega)) ?_
        rintro _ τ9 ⟨rfl, hτ9⟩
        refine aw_b kX7_ok bX7_empty_49_ok (Cs := []) (pc' := 22) (L' := [some (aR 21 0), some (aI f), some (aI ((n : Int) + 1))]) (st' := []) (σ' := τ9) rfl trivial ?_
        exact ihn (by omega) τ9 hτ9 (hB.trans (if_neg (by omega)))
      · refine aw_b kX7_ok bX7_empty_40_ok (Cs := []) (pc' := 41) (L' := [some (aR 21 0), some (aI f), some (aI (n : Int))]) (st' := [aI (n : Int)]) (σ' := τ) rfl trivial ?_
        exact aw_iret dX7_empty_41 rfl ⟨aret (hB.trans (if_pos (by omega))).symm, ⟨_, wX.oz, hτ⟩⟩
  · refine aw_ine dX7_empty_4 (tgt := 9) (by decide) ⟨by omega, by omega⟩ (fun wh5 => absurd wh5 (by decide)) (fun wh5 => ?_)
    refine aw_b kX7_ok bX7_empty_7_ok (Cs := []) (pc' := 8) (L' := [some (aR 21 0), some (aI f), none]) (st' := [aI (-1)]) (σ' := σ) rfl trivial ?_
    exact aw_iret dX7_empty_8 rfl ⟨aret (by unfold A_empty; rw [if_neg (by omega)]), ⟨_, hz, h00⟩⟩
def laN (r : aRw) (f p : Int) : Nat → aRw
  | 0 => r
  | k + 1 => rUp (laN r f p k) (8 + k) (if (k : Int) = f then p else -4)
theorem laN_at (r : aRw) (f p : Int) (j : Int) : ∀ k : Nat, laN r f p k j = if 8 ≤ j ∧ j < 8 + (k : Int) then (if j = 8 + f then p else -4) else r j
  | 0 => by rw [if_neg (by omega)]; rfl
  | k + 1 => by
    rw [laN]
    by_cases h : j = 8 + k
    · rw [h, rUp_eq, if_pos (show 8 ≤ 8 + (k : Int) ∧ 8 + (k : Int) < 8 + ((k + 1 : Nat) : Int) by omega)]
      by_cases h2 : (k : Int) = f
      · rw [if_pos h2, if_pos (by omega)]
      · rw [if_neg h2, if_neg (by omega)]
    · rw [rUp_ne h, laN_at r f p j k]
      by_cases h2 : 8 ≤ j ∧ j < 8 + (k : Int)
      · rw [if_pos h2, if_pos (show 8 ≤ j ∧ j < 8 + ((k + 1 : Nat) : Int) by omega)]
      · rw [if_neg h2, if_neg (show ¬ (8 ≤ j ∧ j < 8 + ((k + 1 : Nat) : Int)) by omega)]
theorem laN_5 (r : aRw) (f p : Int) : laN r f p 5 = laW r f p := by
  funext j
  rw [laN_at]
  unfold laW
  rfl
set_option maxRecDepth 10000 in
theorem cM_lastsOf (l : Launch) (f p : Int) (σ τ0 : aS) (X0 : aRw) (h00 : τ0 = aRow σ 1 X0) (hz : OZ X0) (hw : WF (σ 22 0)) (hd : σ 22 0 1 ≤ 999) (f0 : 0 ≤ f) (f1 : f < 5) (p0 : 0 ≤ p) (p1 : p < σ 22 0 0) : AM l 5 mX7_lastsOf [aR 21 0, aI f, aI p] τ0 ((fun v σ' => v = some (aI (laF (σ 22 0) f p)) ∧ ∃ Y : aRw, WF Y ∧ σ' = aRow σ 1 Y)) := by
  have bn := hw.1
  have hq := la_eq hw f0 f1 p0 p1
  have wr := wnF_rng (laW (σ 22 0) f p) f p 61 0
  refine am_of (by decide) (Nat.le_of_ble_eq_true rfl) (L := [some (aR 21 0), some (aI f), some (aI p), none]) rfl ?_
  refine aw_b kX7_ok bX7_lastsOf_0_ok (Cs := [0 < 1, 0 < 1]) (pc' := 8) (L' := [some (aR 21 0), some (aI f), some (aI p), none]) (st' := [aR 22 1, aR 22 0]) (σ' := τ0) rfl (show (0 < 1) ∧ (0 < 1) from ⟨by omega, by omega⟩) ?_
  refine aw_callS lX7_145 (as := [aR 22 0, aR 22 1]) (rest := []) (by decide) rfl (Nat.le_of_ble_eq_true rfl) rfl dX7_lastsOf_8 (cM_cpS l σ τ0 _ h00 hw hz) ?_
  rintro _ τ1 ⟨rfl, hτ1⟩
  have m1 := (rS hτ1).1
  have s1 := (rS hτ1).2
  refine aw_b kX7_ok bX7_lastsOf_11_ok (Cs := []) (pc' := 13) (L' := [some (aR 21 0), some (aI f), some (aI p), some (aI 0)]) (st' := []) (σ' := τ1) rfl trivial ?_
  refine aloop (P := fun k : Nat => ∀ (τ : aS) (hτ : τ = aRow σ 1 (laN (σ 22 0) f p k)), AW l 5 mX7_lastsOf _ 13 [some (aR 21 0), some (aI f), some (aI p), some (aI (k : Int))] [] τ) (5) (fun k hk ihk τ hτ => ?_) τ1 hτ1
  refine aw_b kX7_ok bX7_lastsOf_13_ok (Cs := []) (pc' := 15) (L' := [some (aR 21 0), some (aI f), some (aI p), some (aI (k : Int))]) (st' := [aI 5, aI (k : Int)]) (σ' := τ) rfl trivial ?_
  refine aw_cge dX7_lastsOf_15 (tgt := 44) (by decide) ⟨by omega, by omega⟩ ⟨by omega, by omega⟩ (fun wh1 => ?_) (fun wh1 => ?_)
  · refine aw_b kX7_ok bX7_lastsOf_44_ok (Cs := []) (pc' := 47) (L' := [some (aR 21 0), some (aI f), some (aI p), some (aI (k : Int))]) (st' := [aI p, aI f, aR 21 0]) (σ' := τ) rfl trivial ?_
    have hτw : τ = aRow σ 1 (laW (σ 22 0) f p) := by rw [hτ, show k = 5 by omega, laN_5]
    have hwW := laW_wf hw f0 f1 p0 p1
    have e1W : laW (σ 22 0) f p 1 = σ 22 0 1 := laW_off _ _ _ (by omega)
    refine aw_callV lX7_181 (as := [aI f, aI p]) (rest := []) (t := 21) (c := 0) (by decide) (by decide) (by decide) rfl rfl (Nat.le_of_ble_eq_true rfl) rfl dX7_lastsOf_47 (cM_whenNot l f p σ τ _ hτw hwW (by omega) f0 f1 ⟨by omega, by omega⟩) ?_
    rintro _ τ2 ⟨rfl, Y, hY, hτ2⟩
    refine aw_b kX7_ok bX7_lastsOf_50_ok (Cs := []) (pc' := 52) (L' := [some (aR 21 0), some (aI f), some (aI p), some (aI (wnF (laW (σ 22 0) f p) f p 61 0))]) (st' := [aI (wnF (laW (σ 22 0) f p) f p 61 0)]) (σ' := τ2) rfl trivial ?_
    refine aw_ige dX7_lastsOf_52 (tgt := 60) (by decide) ⟨by omega, by omega⟩ (fun wh2 => ?_) (fun wh2 => ?_)
    · refine aw_b kX7_ok bX7_lastsOf_60_ok (Cs := []) (pc' := 61) (L' := [some (aR 21 0), some (aI f), some (aI p), some (aI (wnF (laW (σ 22 0) f p) f p 61 0))]) (st' := [aI (wnF (laW (σ 22 0) f p) f p 61 0)]) (σ' := τ2) rfl trivial ?_
      exact aw_iret dX7_lastsOf_61 rfl ⟨aret (by rw [← hq, if_neg (by omega)]), ⟨_, hY, hτ2⟩⟩
    · refine aw_b kX7_ok bX7_lastsOf_55_ok (Cs := []) (pc' := 61) (L' := [some (aR 21 0), some (aI f), some (aI p), some (aI (wnF (laW (σ 22 0) f p) f p 61 0))]) (st' := [aI 60]) (σ' := τ2) rfl trivial ?_
      exact aw_iret dX7_lastsOf_61 rfl ⟨aret (by rw [← hq, if_pos (by omega)]), ⟨_, hY, hτ2⟩⟩
  · refine aw_b kX7_ok bX7_lastsOf_18_ok (Cs := [0 < 1]) (pc' := 28) (L' := [some (aR 21 0), some (aI f), some (aI p), some (aI (k : Int))]) (st' := [aI f, aI (k : Int), aI (8 + (k : Int)), aR 22 1]) (σ' := τ) rfl (show 0 < 1 from by omega) ?_
    refine aw_cne dX7_lastsOf_28 (tgt := 35) (by decide) ⟨by omega, by omega⟩ ⟨by omega, by omega⟩ (fun wh3 => ?_) (fun wh3 => ?_)
    · refine aw_b kX7_ok bX7_lastsOf_35_ok (Cs := []) (pc' := 37) (L' := [some (aR 21 0), some (aI f), some (aI p), some (aI (k : Int))]) (st' := [aI (-4), aI (8 + (k : Int)), aR 22 1]) (σ' := τ) rfl trivial ?_
      refine aw_b kX7_ok bX7_lastsOf_37_ok (Cs := [1 < 4, 0 ≤ 8 + (k : Int) ∧ 8 + (k : Int) < 45]) (pc' := 13) (L' := [some (aR 21 0), some (aI f), some (aI p), some (aI ((k : Int) + 1))]) (st' := []) (σ' := aUp τ 22 1 (8 + (k : Int)) (-4)) rfl (show (1 < 4) ∧ (0 ≤ 8 + (k : Int) ∧ 8 + (k : Int) < 45) from ⟨by omega, by omega⟩) ?_
      exact ihk (by omega) _ (by rw [aUp1_row hτ, laN, if_neg (by omega)])
    · refine aw_b kX7_ok bX7_lastsOf_31_ok (Cs := []) (pc' := 37) (L' := [some (aR 21 0), some (aI f), some (aI p), some (aI (k : Int))]) (st' := [aI p, aI (8 + (k : Int)), aR 22 1]) (σ' := τ) rfl trivial ?_
      refine aw_b kX7_ok bX7_lastsOf_37_ok (Cs := [1 < 4, 0 ≤ 8 + (k : Int) ∧ 8 + (k : Int) < 45]) (pc' := 13) (L' := [some (aR 21 0), some (aI f), some (aI p), some (aI ((k : Int) + 1))]) (st' := []) (σ' := aUp τ 22 1 (8 + (k : Int)) p) rfl (show (1 < 4) ∧ (0 ≤ 8 + (k : Int) ∧ 8 + (k : Int) < 45) from ⟨by omega, by omega⟩) ?_
      exact ihk (by omega) _ (by rw [aUp1_row hτ, laN, if_pos (by omega)])
set_option maxRecDepth 10000 in
theorem cM_lasts (l : Launch) (f p : Int) (σ : aS) (hw : WF (σ 22 0)) (hd : σ 22 0 1 ≤ 999) (hz : OZ (σ 22 1)) (hf : aIr f) (hp : aIr p) : AM l 6 mX7_lasts [aR 21 0, aI f, aI p] σ (QR (A_lasts (σ 22 0) f p) σ) := by
  have bn := hw.1
  have b1 := hw.2.1
  have b2 := hw.2.2.1
  have h00 : σ = aRow σ 1 (σ 22 1) := aRow_id.symm
  refine am_of (by decide) (Nat.le_of_ble_eq_true rfl) (L := [some (aR 21 0), some (aI f), some (aI p)]) rfl ?_
  refine aw_b kX7_ok bX7_lasts_0_ok (Cs := []) (pc' := 1) (L' := [some (aR 21 0), some (aI f), some (aI p)]) (st' := [aI f]) (σ' := σ) rfl trivial ?_
  refine aw_bS lX7_125 (as := [aI f]) (rest := []) (by decide) rfl (Nat.le_of_ble_eq_true rfl) rfl dX7_lasts_1 (cM_isOffice l f σ ⟨by omega, by omega⟩) (fun wh1 => ?_) (fun wh1 => ?_)
  · refine aw_ieq dX7_lasts_4 (tgt := 24) (by decide) ⟨by omega, by omega⟩ (fun wh2 => absurd wh2 (by decide)) (fun wh2 => ?_)
    refine aw_b kX7_ok bX7_lasts_7_ok (Cs := []) (pc' := 9) (L' := [some (aR 21 0), some (aI f), some (aI p)]) (st' := [aI p, aR 21 0]) (σ' := σ) rfl trivial ?_
    refine aw_bV lX7_128 (as := [aI p]) (rest := []) (t := 21) (c := 0) (by decide) (by decide) (by decide) rfl rfl (Nat.le_of_ble_eq_true rfl) rfl dX7_lasts_9 (cM_isOne l p σ ⟨by omega, by omega⟩ (by omega)) (fun wh3 => ?_) (fun wh3 => ?_)
    · refine aw_ieq dX7_lasts_12 (tgt := 24) (by decide) ⟨by omega, by omega⟩ (fun wh4 => absurd wh4 (by decide)) (fun wh4 => ?_)
      refine aw_b kX7_ok bX7_lasts_15_ok (Cs := []) (pc' := 18) (L' := [some (aR 21 0), some (aI f), some (aI p)]) (st' := [aI p, aI f, aR 21 0]) (σ' := σ) rfl trivial ?_
      refine aw_callV lX7_184 (as := [aI f, aI p]) (rest := []) (t := 21) (c := 0) (by decide) (by decide) (by decide) rfl rfl (Nat.le_of_ble_eq_true rfl) rfl dX7_lasts_18 (cM_lastsOf l f p σ σ _ h00 hz hw hd (by omega) (by omega) (by omega) (by omega)) ?_
      rintro _ τ2 ⟨rfl, Y, hY, hτ2⟩
      refine aw_b kX7_ok bX7_lasts_21_ok (Cs := []) (pc' := 25) (L' := [some (aR 21 0), some (aI f), some (aI p)]) (st' := [aI (laF (σ 22 0) f p)]) (σ' := τ2) rfl trivial ?_
      exact aw_iret dX7_lasts_25 rfl ⟨aret (by unfold A_lasts; rw [if_pos (by omega)]), ⟨_, hY.oz, hτ2⟩⟩
    · refine aw_ieq dX7_lasts_12 (tgt := 24) (by decide) ⟨by omega, by omega⟩ (fun wh5 => ?_) (fun wh5 => absurd wh5 (by decide))
      refine aw_b kX7_ok bX7_lasts_24_ok (Cs := []) (pc' := 25) (L' := [some (aR 21 0), some (aI f), some (aI p)]) (st' := [aI (-1)]) (σ' := σ) rfl trivial ?_
      exact aw_iret dX7_lasts_25 rfl ⟨aret (by unfold A_lasts; rw [if_neg (by omega)]), ⟨_, hz, h00⟩⟩
  · refine aw_ieq dX7_lasts_4 (tgt := 24) (by decide) ⟨by omega, by omega⟩ (fun wh6 => ?_) (fun wh6 => absurd wh6 (by decide))
    refine aw_b kX7_ok bX7_lasts_24_ok (Cs := []) (pc' := 25) (L' := [some (aR 21 0), some (aI f), some (aI p)]) (st' := [aI (-1)]) (σ' := σ) rfl trivial ?_
    exact aw_iret dX7_lasts_25 rfl ⟨aret (by unfold A_lasts; rw [if_neg (by omega)]), ⟨_, hz, h00⟩⟩
set_option maxRecDepth 10000 in
theorem cM_bestCostume (l : Launch) (f n w : Int) (σ : aS) (hw : WF (σ 22 0)) (hd : σ 22 0 1 ≤ 999) (hz : OZ (σ 22 1)) (hf : aIr f) (hn : aIr n) (hv : aIr w) : AM l 5 mX7_bestCostume [aR 21 0, aI f, aI n, aI w] σ (QR (A_bestCostume (σ 22 0) f n w) σ) := by
  have bn := hw.1
  have b1 := hw.2.1
  have b2 := hw.2.2.1
  have h00 : σ = aRow σ 1 (σ 22 1) := aRow_id.symm
  refine am_of (by decide) (Nat.le_of_ble_eq_true rfl) (L := [some (aR 21 0), some (aI f), some (aI n), some (aI w), none, none, none]) rfl ?_
  refine aw_b kX7_ok bX7_bestCostume_0_ok (Cs := []) (pc' := 1) (L' := [some (aR 21 0), some (aI f), some (aI n), some (aI w), none, none, none]) (st' := [aI f]) (σ' := σ) rfl trivial ?_
  refine aw_bS lX7_125 (as := [aI f]) (rest := []) (by decide) rfl (Nat.le_of_ble_eq_true rfl) rfl dX7_bestCostume_1 (cM_isOffice l f σ ⟨by omega, by omega⟩) (fun wh1 => ?_) (fun wh1 => ?_)
  · refine aw_ieq dX7_bestCostume_4 (tgt := 23) (by decide) ⟨by omega, by omega⟩ (fun wh2 => absurd wh2 (by decide)) (fun wh2 => ?_)
    refine aw_b kX7_ok bX7_bestCostume_7_ok (Cs := []) (pc' := 8) (L' := [some (aR 21 0), some (aI f), some (aI n), some (aI w), none, none, none]) (st' := [aI n]) (σ' := σ) rfl trivial ?_
    refine aw_bS lX7_170 (as := [aI n]) (rest := []) (by decide) rfl (Nat.le_of_ble_eq_true rfl) rfl dX7_bestCostume_8 (cM_isLate l n σ ⟨by omega, by omega⟩) (fun wh3 => ?_) (fun wh3 => ?_)
    · refine aw_ieq dX7_bestCostume_11 (tgt := 23) (by decide) ⟨by omega, by omega⟩ (fun wh4 => absurd wh4 (by decide)) (fun wh4 => ?_)
      refine aw_b kX7_ok bX7_bestCostume_14_ok (Cs := []) (pc' := 17) (L' := [some (aR 21 0), some (aI f), some (aI n), some (aI w), none, none, none]) (st' := [aI 1, aI 0, aI w]) (σ' := σ) rfl trivial ?_
      refine aw_bS lX7_49 (as := [aI w, aI 0, aI 1]) (rest := []) (by decide) rfl (Nat.le_of_ble_eq_true rfl) rfl dX7_bestCostume_17 (cM_isIn l w 0 1 σ ⟨by omega, by omega⟩ ⟨by omega, by omega⟩ ⟨by omega, by omega⟩) (fun wh5 => ?_) (fun wh5 => ?_)
      · refine aw_ine dX7_bestCostume_20 (tgt := 25) (by decide) ⟨by omega, by omega⟩ (fun wh6 => ?_) (fun wh6 => absurd wh6 (by decide))
        refine aw_b kX7_ok bX7_bestCostume_25_ok (Cs := []) (pc' := 35) (L' := [some (aR 21 0), some (aI f), some (aI n), some (aI w), some (aI 0), some (aI 1000000000), some (aI 0)]) (st' := []) (σ' := σ) rfl trivial ?_
        refine aloop (P := fun k : Nat => ∀ (τ : aS) (X : aRw) (hX : OZ X) (hτ : τ = aRow σ 1 X), AW l 5 mX7_bestCostume _ 35 [some (aR 21 0), some (aI f), some (aI n), some (aI w), some (aI ((bsN (σ 22 0) f n k).1)), some (aI ((bsN (σ 22 0) f n k).2)), some (aI (k : Int))] [] τ) (10) (fun k hk ihk τ X hX hτ => ?_) σ (σ 22 1) hz h00
        have m := (rS hτ).1
        have s0 := (rS hτ).2
        have gk : 0 ≤ (bsN (σ 22 0) f n k).2 ∧ (bsN (σ 22 0) f n k).2 ≤ 1000000000 := by
          cases k with
          | zero => exact ⟨by show (0 : Int) ≤ 1000000000; decide, by show (1000000000 : Int) ≤ 1000000000; decide⟩
          | succ k => have z := bsN_rng hw (f := f) (by omega) (by omega) n k (by omega); omega
        refine aw_b kX7_ok bX7_bestCostume_35_ok (Cs := []) (pc' := 39) (L' := [some (aR 21 0), some (aI f), some (aI n), some (aI w), some (aI ((bsN (σ 22 0) f n k).1)), some (aI ((bsN (σ 22 0) f n k).2)), some (aI (k : Int))]) (st' := [aI 10, aI (k : Int)]) (σ' := τ) rfl trivial ?_
        refine aw_cge dX7_bestCostume_39 (tgt := 103) (by decide) ⟨by omega, by omega⟩ ⟨by omega, by omega⟩ (fun wh7 => ?_) (fun wh7 => ?_)
        · have e9 : k = 10 := by omega
          refine aw_b kX7_ok bX7_bestCostume_103_ok (Cs := []) (pc' := 104) (L' := [some (aR 21 0), some (aI f), some (aI n), some (aI w), some (aI ((bsN (σ 22 0) f n k).1)), some (aI ((bsN (σ 22 0) f n k).2)), some (aI (k : Int))]) (st' := [aI w]) (σ' := τ) rfl trivial ?_
          refine aw_ine dX7_bestCostume_104 (tgt := 112) (by decide) ⟨by omega, by omega⟩ (fun wh8 => ?_) (fun wh8 => ?_)
          · refine aw_b kX7_ok bX7_bestCostume_112_ok (Cs := [0 < 1, 0 < 4, 0 ≤ 2 ∧ 2 < 45]) (pc' := 121) (L' := [some (aR 21 0), some (aI f), some (aI n), some (aI w), some (aI ((bsN (σ 22 0) f n k).1)), some (aI ((bsN (σ 22 0) f n k).2)), some (aI (k : Int))]) (st' := [aI (((bsN (σ 22 0) f n k).2) - (τ 22 0 2))]) (σ' := τ) rfl (show (0 < 1) ∧ (0 < 4) ∧ (0 ≤ 2 ∧ 2 < 45) from ⟨by omega, by omega, by omega⟩) ?_
            exact aw_iret dX7_bestCostume_121 rfl ⟨aret (by subst e9; unfold A_bestCostume; rw [if_pos (by omega), if_neg (by omega), s0]), ⟨_, hX, hτ⟩⟩
          · refine aw_b kX7_ok bX7_bestCostume_107_ok (Cs := []) (pc' := 121) (L' := [some (aR 21 0), some (aI f), some (aI n), some (aI w), some (aI ((bsN (σ 22 0) f n k).1)), some (aI ((bsN (σ 22 0) f n k).2)), some (aI (k : Int))]) (st' := [aI ((bsN (σ 22 0) f n k).1)]) (σ' := τ) rfl trivial ?_
            exact aw_iret dX7_bestCostume_121 rfl ⟨aret (by subst e9; unfold A_bestCostume; rw [if_pos (by omega), if_pos (by omega)]), ⟨_, hX, hτ⟩⟩
        · refine aw_b kX7_ok bX7_bestCostume_42_ok (Cs := [0 < 1, 0 < 1]) (pc' := 50) (L' := [some (aR 21 0), some (aI f), some (aI n), some (aI w), some (aI ((bsN (σ 22 0) f n k).1)), some (aI ((bsN (σ 22 0) f n k).2)), some (aI (k : Int))]) (st' := [aR 22 1, aR 22 0]) (σ' := τ) rfl (show (0 < 1) ∧ (0 < 1) from ⟨by omega, by omega⟩) ?_
          refine aw_callS lX7_145 (as := [aR 22 0, aR 22 1]) (rest := []) (by decide) rfl (Nat.le_of_ble_eq_true rfl) rfl dX7_bestCostume_50 (cM_cpS l σ τ _ hτ hw hX) ?_
          rintro _ τ1 ⟨rfl, hτ1⟩
          have m1 := (rS hτ1).1
          have s1 := (rS hτ1).2
          refine aw_b kX7_ok bX7_bestCostume_53_ok (Cs := [0 < 1, 1 < 4, 0 ≤ 3 + f ∧ 3 + f < 45, 0 < 1]) (pc' := 68) (L' := [some (aR 21 0), some (aI f), some (aI n), some (aI w), some (aI ((bsN (σ 22 0) f n k).1)), some (aI ((bsN (σ 22 0) f n k).2)), some (aI (k : Int))]) (st' := [aI n, aR 22 1]) (σ' := aUp τ1 22 1 (3 + f) (k : Int)) rfl (show (0 < 1) ∧ (1 < 4) ∧ (0 ≤ 3 + f ∧ 3 + f < 45) ∧ (0 < 1) from ⟨by omega, by omega, by omega, by omega⟩) ?_
          obtain ⟨τ2, e2⟩ : ∃ τ2, τ2 = aUp τ1 22 1 (3 + f) (k : Int) := ⟨_, rfl⟩
          refine aw_eq rfl rfl (σ' := τ2) e2.symm ?_
          have hτ2 := e2.trans (aUp1_row hτ1)
          have m2 := (rS hτ2).1
          have s2 := (rS hτ2).2
          refine aw_callS lX7_135 (as := [aR 22 1, aI n]) (rest := []) (by decide) rfl (Nat.le_of_ble_eq_true rfl) rfl dX7_bestCostume_68 (cM_daysS l n σ τ2 _ hτ2 (WF_cost hw (by omega) (by omega) (by omega)) (by omega) (by omega) (by rw [rUp_ne (by omega)]; omega)) ?_
          rintro _ τ3 ⟨rfl, hτ3⟩
          have m3 := (rS hτ3).1
          have s3 := (rS hτ3).2
          have hw3 : WF (dysR (rUp (σ 22 0) (3 + f) (k : Int)) n.toNat) := dysR_wf (WF_cost hw (by omega) (by omega) (by omega)) _
          have eF : τ3 22 1 2 = fiR (σ 22 0) f k n := by rw [m3]; rfl
          have bF := fiR_rng hw (f := f) (k := (k : Int)) (by omega) (by omega) (by omega) n
          refine aw_b kX7_ok bX7_bestCostume_71_ok (Cs := [0 < 1, 1 < 4, 0 ≤ 2 ∧ 2 < 45]) (pc' := 79) (L' := [some (aR 21 0), some (aI f), some (aI n), some (aI w), some (aI ((bsN (σ 22 0) f n k).1)), some (aI ((bsN (σ 22 0) f n k).2)), some (aI (k : Int))]) (st' := [aI ((bsN (σ 22 0) f n k).2), aI (τ3 22 1 2)]) (σ' := τ3) rfl (show (0 < 1) ∧ (1 < 4) ∧ (0 ≤ 2 ∧ 2 < 45) from ⟨by omega, by omega, by omega⟩) ?_
          refine aw_clt dX7_bestCostume_79 (tgt := 85) (by decide) ⟨by omega, by omega⟩ ⟨by omega, by omega⟩ (fun wh9 => ?_) (fun wh9 => ?_)
          · refine aw_b kX7_ok bX7_bestCostume_85_ok (Cs := [0 < 1, 1 < 4, 0 ≤ 2 ∧ 2 < 45]) (pc' := 97) (L' := [some (aR 21 0), some (aI f), some (aI n), some (aI w), some (aI (k : Int)), some (aI (τ3 22 1 2)), some (aI (k : Int))]) (st' := []) (σ' := τ3) rfl (show (0 < 1) ∧ (1 < 4) ∧ (0 ≤ 2 ∧ 2 < 45) from ⟨by omega, by omega, by omega⟩) ?_
            refine aw_b kX7_ok bX7_bestCostume_97_ok (Cs := []) (pc' := 35) (L' := [some (aR 21 0), some (aI f), some (aI n), some (aI w), some (aI (k : Int)), some (aI (τ3 22 1 2)), some (aI ((k : Int) + 1))]) (st' := []) (σ' := τ3) rfl trivial ?_
            have e1 : bsN (σ 22 0) f n (k + 1) = ((k : Int), fiR (σ 22 0) f k n) := by rw [bsN]; exact if_pos (by omega)
            exact aw_eq (by rw [e1, eF]; rfl) rfl rfl (ihk (by omega) τ3 _ hw3.oz hτ3)
          · refine aw_b kX7_ok bX7_bestCostume_82_ok (Cs := []) (pc' := 97) (L' := [some (aR 21 0), some (aI f), some (aI n), some (aI w), some (aI ((bsN (σ 22 0) f n k).1)), some (aI ((bsN (σ 22 0) f n k).2)), some (aI (k : Int))]) (st' := []) (σ' := τ3) rfl trivial ?_
            refine aw_b kX7_ok bX7_bestCostume_97_ok (Cs := []) (pc' := 35) (L' := [some (aR 21 0), some (aI f), some (aI n), some (aI w), some (aI ((bsN (σ 22 0) f n k).1)), some (aI ((bsN (σ 22 0) f n k).2)), some (aI ((k : Int) + 1))]) (st' := []) (σ' := τ3) rfl trivial ?_
            have e1 : bsN (σ 22 0) f n (k + 1) = bsN (σ 22 0) f n k := by rw [bsN]; exact if_neg (by omega)
            exact aw_eq (by rw [e1]; rfl) rfl rfl (ihk (by omega) τ3 _ hw3.oz hτ3)
      · refine aw_ine dX7_bestCostume_20 (tgt := 25) (by decide) ⟨by omega, by omega⟩ (fun wh10 => absurd wh10 (by decide)) (fun wh10 => ?_)
        refine aw_b kX7_ok bX7_bestCostume_23_ok (Cs := []) (pc' := 24) (L' := [some (aR 21 0), some (aI f), some (aI n), some (aI w), none, none, none]) (st' := [aI (-1)]) (σ' := σ) rfl trivial ?_
        exact aw_iret dX7_bestCostume_24 rfl ⟨aret (by unfold A_bestCostume; rw [if_neg (by omega)]), ⟨_, hz, h00⟩⟩
    · refine aw_ieq dX7_bestCostume_11 (tgt := 23) (by decide) ⟨by omega, by omega⟩ (fun wh11 => ?_) (fun wh11 => absurd wh11 (by decide))
      refine aw_b kX7_ok bX7_bestCostume_23_ok (Cs := []) (pc' := 24) (L' := [some (aR 21 0), some (aI f), some (aI n), some (aI w), none, none, none]) (st' := [aI (-1)]) (σ' := σ) rfl trivial ?_
      exact aw_iret dX7_bestCostume_24 rfl ⟨aret (by unfold A_bestCostume; rw [if_neg (by omega)]), ⟨_, hz, h00⟩⟩
  · refine aw_ieq dX7_bestCostume_4 (tgt := 23) (by decide) ⟨by omega, by omega⟩ (fun wh12 => ?_) (fun wh12 => absurd wh12 (by decide))
    refine aw_b kX7_ok bX7_bestCostume_23_ok (Cs := []) (pc' := 24) (L' := [some (aR 21 0), some (aI f), some (aI n), some (aI w), none, none, none]) (st' := [aI (-1)]) (σ' := σ) rfl trivial ?_
    exact aw_iret dX7_bestCostume_24 rfl ⟨aret (by unfold A_bestCostume; rw [if_neg (by omega)]), ⟨_, hz, h00⟩⟩
set_option maxRecDepth 10000 in
theorem cM_send (l : Launch) (n : Int) (σ : aS) (hw : WF (σ 22 0)) (hd : σ 22 0 1 ≤ 999) (hz : OZ (σ 22 1)) (hn : aIr n) : AM l 6 mX7_send [aR 21 0, aI n] σ (QR (A_send (σ 22 0) n) σ) := by
  have bn := hw.1
  have b1 := hw.2.1
  have b2 := hw.2.2.1
  have h00 : σ = aRow σ 1 (σ 22 1) := aRow_id.symm
  refine am_of (by decide) (Nat.le_of_ble_eq_true rfl) (L := [some (aR 21 0), some (aI n), none, none, none, none]) rfl ?_
  refine aw_b kX7_ok bX7_send_0_ok (Cs := []) (pc' := 1) (L' := [some (aR 21 0), some (aI n), none, none, none, none]) (st' := [aI n]) (σ' := σ) rfl trivial ?_
  refine aw_bS lX7_170 (as := [aI n]) (rest := []) (by decide) rfl (Nat.le_of_ble_eq_true rfl) rfl dX7_send_1 (cM_isLate l n σ ⟨by omega, by omega⟩) (fun wh1 => ?_) (fun wh1 => ?_)
  · refine aw_ine dX7_send_4 (tgt := 9) (by decide) ⟨by omega, by omega⟩ (fun wh2 => ?_) (fun wh2 => absurd wh2 (by decide))
    refine aw_b kX7_ok bX7_send_9_ok (Cs := []) (pc' := 11) (L' := [some (aR 21 0), some (aI n), none, none, none, none]) (st' := [aI n, aR 21 0]) (σ' := σ) rfl trivial ?_
    refine aw_callV lX7_173 (as := [aI n]) (rest := []) (t := 21) (c := 0) (by decide) (by decide) (by decide) rfl rfl (Nat.le_of_ble_eq_true rfl) rfl dX7_send_11 (cM_takes l n σ hw hd hz (by omega) (by omega)) ?_
    rintro _ τ ⟨rfl, hτ⟩
    have m := (rS hτ).1
    have s := (rS hτ).2
    have wX := dysR_wf hw n.toNat
    have eX := dysR_0 (σ 22 0) n.toNat
    refine aw_b kX7_ok bX7_send_14_ok (Cs := [0 < 1, 1 < 4, 0 ≤ 2 ∧ 2 < 45]) (pc' := 27) (L' := [some (aR 21 0), some (aI n), some (aI (τ 22 1 2)), some (aI (-4)), some (aI 0), none]) (st' := []) (σ' := τ) rfl (show (0 < 1) ∧ (1 < 4) ∧ (0 ≤ 2 ∧ 2 < 45) from ⟨by omega, by omega, by omega⟩) ?_
    refine aw_eq (L' := [some (aR 21 0), some (aI n), some (aI (sdN (σ 22 0) n 0).2), some (aI (sdN (σ 22 0) n 0).1), some (aI ((0 : Nat) : Int)), none]) (by rw [m]; rfl) rfl rfl ?_
    refine aloop (P := fun p : Nat => ∀ (ρ : aS) (X : aRw) (hX : OZ X) (hρ : ρ = aRow σ 1 X), AW l 6 mX7_send _ 27 [some (aR 21 0), some (aI n), some (aI ((sdN (σ 22 0) n p).2)), some (aI ((sdN (σ 22 0) n p).1)), some (aI (p : Int)), none] [] ρ) ((σ 22 0 0).toNat) (fun p hp ihp ρ X hX hρ => ?_) τ _ wX.oz hτ
    have mρ := (rS hρ).1
    have sρ := (rS hρ).2
    have gb := sdN_rng hw n p
    have eρ : ρ 22 0 0 = σ 22 0 0 := by rw [sρ]
    refine aw_b kX7_ok bX7_send_27_ok (Cs := [0 < 1, 0 < 4, 0 ≤ 0 ∧ 0 < 45]) (pc' := 35) (L' := [some (aR 21 0), some (aI n), some (aI ((sdN (σ 22 0) n p).2)), some (aI ((sdN (σ 22 0) n p).1)), some (aI (p : Int)), none]) (st' := [aI (ρ 22 0 0), aI (p : Int)]) (σ' := ρ) rfl (show (0 < 1) ∧ (0 < 4) ∧ (0 ≤ 0 ∧ 0 < 45) from ⟨by omega, by omega, by omega⟩) ?_
    refine aw_cge dX7_send_35 (tgt := 117) (by decide) ⟨by omega, by omega⟩ ⟨by omega, by omega⟩ (fun wh3 => ?_) (fun wh3 => ?_)
    · refine aw_b kX7_ok bX7_send_117_ok (Cs := []) (pc' := 118) (L' := [some (aR 21 0), some (aI n), some (aI ((sdN (σ 22 0) n p).2)), some (aI ((sdN (σ 22 0) n p).1)), some (aI (p : Int)), none]) (st' := [aI ((sdN (σ 22 0) n p).1)]) (σ' := ρ) rfl trivial ?_
      exact aw_iret dX7_send_118 rfl ⟨aret (by unfold A_send; rw [if_pos (by omega), show p = (σ 22 0 0).toNat by omega]), ⟨_, hX, hρ⟩⟩
    · refine aw_b kX7_ok bX7_send_38_ok (Cs := [0 < 1]) (pc' := 44) (L' := [some (aR 21 0), some (aI n), some (aI ((sdN (σ 22 0) n p).2)), some (aI ((sdN (σ 22 0) n p).1)), some (aI (p : Int)), none]) (st' := [aI (p : Int), aR 22 0]) (σ' := ρ) rfl (show 0 < 1 from by omega) ?_
      have hof := cM_officeOf l 0 (by decide) (p : Int) ρ ⟨by omega, by omega⟩ (by rw [sρ]; exact hw)
      rw [sρ] at hof
      have bo := off_rng (σ 22 0) (p : Int)
      refine aw_fS lX7_64 (as := [aR 22 0, aI (p : Int)]) (rest := []) (by decide) rfl (Nat.le_of_ble_eq_true rfl) rfl dX7_send_44 (hof) ?_
      refine aw_b kX7_ok bX7_send_47_ok (Cs := []) (pc' := 51) (L' := [some (aR 21 0), some (aI n), some (aI ((sdN (σ 22 0) n p).2)), some (aI ((sdN (σ 22 0) n p).1)), some (aI (p : Int)), some (aI (off (σ 22 0) (p : Int)))]) (st' := [aI (off (σ 22 0) (p : Int))]) (σ' := ρ) rfl trivial ?_
      refine aw_ige dX7_send_51 (tgt := 57) (by decide) ⟨by omega, by omega⟩ (fun wh4 => ?_) (fun wh4 => ?_)
      · refine aw_b kX7_ok bX7_send_57_ok (Cs := [0 < 1, 0 < 1]) (pc' := 65) (L' := [some (aR 21 0), some (aI n), some (aI ((sdN (σ 22 0) n p).2)), some (aI ((sdN (σ 22 0) n p).1)), some (aI (p : Int)), some (aI (off (σ 22 0) (p : Int)))]) (st' := [aR 22 1, aR 22 0]) (σ' := ρ) rfl (show (0 < 1) ∧ (0 < 1) from ⟨by omega, by omega⟩) ?_
        refine aw_callS lX7_145 (as := [aR 22 0, aR 22 1]) (rest := []) (by decide) rfl (Nat.le_of_ble_eq_true rfl) rfl dX7_send_65 (cM_cpS l σ ρ _ hρ hw hX) ?_
        rintro _ τ1 ⟨rfl, hτ1⟩
        have m1 := (rS hτ1).1
        have s1 := (rS hτ1).2
        refine aw_b kX7_ok bX7_send_68_ok (Cs := [0 < 1, 1 < 4, 0 ≤ 8 + (off (σ 22 0) (p : Int)) ∧ 8 + (off (σ 22 0) (p : Int)) < 45, 0 < 1]) (pc' := 85) (L' := [some (aR 21 0), some (aI n), some (aI ((sdN (σ 22 0) n p).2)), some (aI ((sdN (σ 22 0) n p).1)), some (aI (p : Int)), some (aI (off (σ 22 0) (p : Int)))]) (st' := [aI n, aR 22 1]) (σ' := aUp τ1 22 1 (8 + (off (σ 22 0) (p : Int))) (-4)) rfl (show (0 < 1) ∧ (1 < 4) ∧ (0 ≤ 8 + (off (σ 22 0) (p : Int)) ∧ 8 + (off (σ 22 0) (p : Int)) < 45) ∧ (0 < 1) from ⟨by omega, by omega, by omega, by omega⟩) ?_
        obtain ⟨τ2, e2⟩ : ∃ τ2, τ2 = aUp τ1 22 1 (8 + (off (σ 22 0) (p : Int))) (-4) := ⟨_, rfl⟩
        refine aw_eq rfl rfl (σ' := τ2) e2.symm ?_
        have hτ2 := e2.trans (aUp1_row hτ1)
        have m2 := (rS hτ2).1
        have s2 := (rS hτ2).2
        have em : rUp (σ 22 0) (8 + off (σ 22 0) (p : Int)) (-4) = emR (σ 22 0) (off (σ 22 0) p) := by unfold emR; rw [if_pos (by omega)]
        rw [em] at hτ2
        have e1e : emR (σ 22 0) (off (σ 22 0) p) 1 = σ 22 0 1 := emR_at (by omega)
        refine aw_callS lX7_135 (as := [aR 22 1, aI n]) (rest := []) (by decide) rfl (Nat.le_of_ble_eq_true rfl) rfl dX7_send_85 (cM_daysS l n σ τ2 _ hτ2 (emR_wf hw _) (by omega) (by omega) (by omega)) ?_
        rintro _ τ3 ⟨rfl, hτ3⟩
        have m3 := (rS hτ3).1
        have s3 := (rS hτ3).2
        have hw3 : WF (dysR (emR (σ 22 0) (off (σ 22 0) p)) n.toNat) := dysR_wf (emR_wf hw _) _
        have eF : τ3 22 1 2 = fwR (σ 22 0) (off (σ 22 0) p) n := by rw [m3]; rfl
        have bF := fwR_rng hw (off (σ 22 0) p) n
        refine aw_b kX7_ok bX7_send_88_ok (Cs := [0 < 1, 1 < 4, 0 ≤ 2 ∧ 2 < 45]) (pc' := 95) (L' := [some (aR 21 0), some (aI n), some (aI ((sdN (σ 22 0) n p).2)), some (aI ((sdN (σ 22 0) n p).1)), some (aI (p : Int)), some (aI (off (σ 22 0) (p : Int)))]) (st' := [aI ((sdN (σ 22 0) n p).2), aI (τ3 22 1 2)]) (σ' := τ3) rfl (show (0 < 1) ∧ (1 < 4) ∧ (0 ≤ 2 ∧ 2 < 45) from ⟨by omega, by omega, by omega⟩) ?_
        refine aw_clt dX7_send_95 (tgt := 101) (by decide) ⟨by omega, by omega⟩ ⟨by omega, by omega⟩ (fun wh5 => ?_) (fun wh5 => ?_)
        · refine aw_b kX7_ok bX7_send_101_ok (Cs := [0 < 1, 1 < 4, 0 ≤ 2 ∧ 2 < 45]) (pc' := 111) (L' := [some (aR 21 0), some (aI n), some (aI (τ3 22 1 2)), some (aI (p : Int)), some (aI (p : Int)), some (aI (off (σ 22 0) (p : Int)))]) (st' := []) (σ' := τ3) rfl (show (0 < 1) ∧ (1 < 4) ∧ (0 ≤ 2 ∧ 2 < 45) from ⟨by omega, by omega, by omega⟩) ?_
          refine aw_b kX7_ok bX7_send_111_ok (Cs := []) (pc' := 27) (L' := [some (aR 21 0), some (aI n), some (aI (τ3 22 1 2)), some (aI (p : Int)), some (aI ((p : Int) + 1)), some (aI (off (σ 22 0) (p : Int)))]) (st' := []) (σ' := τ3) rfl trivial ?_
          refine aw_drop [5] (L' := [some (aR 21 0), some (aI n), some (aI (τ3 22 1 2)), some (aI (p : Int)), some (aI ((p : Int) + 1)), none]) rfl ?_
          have e1 : sdN (σ 22 0) n (p + 1) = ((p : Int), fwR (σ 22 0) (off (σ 22 0) p) n) := by rw [sdN]; exact if_pos (by omega)
          exact aw_eq (by rw [e1, eF]; rfl) rfl rfl (ihp (by omega) τ3 _ hw3.oz hτ3)
        · refine aw_b kX7_ok bX7_send_98_ok (Cs := []) (pc' := 111) (L' := [some (aR 21 0), some (aI n), some (aI ((sdN (σ 22 0) n p).2)), some (aI ((sdN (σ 22 0) n p).1)), some (aI (p : Int)), some (aI (off (σ 22 0) (p : Int)))]) (st' := []) (σ' := τ3) rfl trivial ?_
          refine aw_b kX7_ok bX7_send_111_ok (Cs := []) (pc' := 27) (L' := [some (aR 21 0), some (aI n), some (aI ((sdN (σ 22 0) n p).2)), some (aI ((sdN (σ 22 0) n p).1)), some (aI ((p : Int) + 1)), some (aI (off (σ 22 0) (p : Int)))]) (st' := []) (σ' := τ3) rfl trivial ?_
          refine aw_drop [5] (L' := [some (aR 21 0), some (aI n), some (aI ((sdN (σ 22 0) n p).2)), some (aI ((sdN (σ 22 0) n p).1)), some (aI ((p : Int) + 1)), none]) rfl ?_
          have e1 : sdN (σ 22 0) n (p + 1) = sdN (σ 22 0) n p := by rw [sdN]; exact if_neg (by omega)
          exact aw_eq (by rw [e1]; rfl) rfl rfl (ihp (by omega) τ3 _ hw3.oz hτ3)
      · refine aw_b kX7_ok bX7_send_54_ok (Cs := []) (pc' := 111) (L' := [some (aR 21 0), some (aI n), some (aI ((sdN (σ 22 0) n p).2)), some (aI ((sdN (σ 22 0) n p).1)), some (aI (p : Int)), some (aI (off (σ 22 0) (p : Int)))]) (st' := []) (σ' := ρ) rfl trivial ?_
        refine aw_b kX7_ok bX7_send_111_ok (Cs := []) (pc' := 27) (L' := [some (aR 21 0), some (aI n), some (aI ((sdN (σ 22 0) n p).2)), some (aI ((sdN (σ 22 0) n p).1)), some (aI ((p : Int) + 1)), some (aI (off (σ 22 0) (p : Int)))]) (st' := []) (σ' := ρ) rfl trivial ?_
        refine aw_drop [5] (L' := [some (aR 21 0), some (aI n), some (aI ((sdN (σ 22 0) n p).2)), some (aI ((sdN (σ 22 0) n p).1)), some (aI ((p : Int) + 1)), none]) rfl ?_
        have e1 : sdN (σ 22 0) n (p + 1) = sdN (σ 22 0) n p := by rw [sdN]; exact if_neg (by omega)
        exact aw_eq (by rw [e1]; rfl) rfl rfl (ihp (by omega) ρ _ hX hρ)
  · refine aw_ine dX7_send_4 (tgt := 9) (by decide) ⟨by omega, by omega⟩ (fun wh6 => absurd wh6 (by decide)) (fun wh6 => ?_)
    refine aw_b kX7_ok bX7_send_7_ok (Cs := []) (pc' := 8) (L' := [some (aR 21 0), some (aI n), none, none, none, none]) (st' := [aI (-1)]) (σ' := σ) rfl trivial ?_
    exact aw_iret dX7_send_8 rfl ⟨aret (by unfold A_send; rw [if_neg (by omega)]), ⟨_, hz, h00⟩⟩
set_option maxRecDepth 10000 in
theorem cM_change (l : Launch) (n : Int) (σ : aS) (hw : WF (σ 22 0)) (hd : σ 22 0 1 ≤ 999) (hz : OZ (σ 22 1)) (hn : aIr n) : AM l 6 mX7_change [aR 21 0, aI n] σ (QR (A_change (σ 22 0) n) σ) := by
  have bn := hw.1
  have b1 := hw.2.1
  have b2 := hw.2.2.1
  have h00 : σ = aRow σ 1 (σ 22 1) := aRow_id.symm
  refine am_of (by decide) (Nat.le_of_ble_eq_true rfl) (L := [some (aR 21 0), some (aI n), none, none, none, none]) rfl ?_
  refine aw_b kX7_ok bX7_change_0_ok (Cs := []) (pc' := 1) (L' := [some (aR 21 0), some (aI n), none, none, none, none]) (st' := [aI n]) (σ' := σ) rfl trivial ?_
  refine aw_bS lX7_170 (as := [aI n]) (rest := []) (by decide) rfl (Nat.le_of_ble_eq_true rfl) rfl dX7_change_1 (cM_isLate l n σ ⟨by omega, by omega⟩) (fun wh1 => ?_) (fun wh1 => ?_)
  · refine aw_ine dX7_change_4 (tgt := 9) (by decide) ⟨by omega, by omega⟩ (fun wh2 => ?_) (fun wh2 => absurd wh2 (by decide))
    refine aw_b kX7_ok bX7_change_9_ok (Cs := []) (pc' := 11) (L' := [some (aR 21 0), some (aI n), none, none, none, none]) (st' := [aI n, aR 21 0]) (σ' := σ) rfl trivial ?_
    refine aw_callV lX7_173 (as := [aI n]) (rest := []) (t := 21) (c := 0) (by decide) (by decide) (by decide) rfl rfl (Nat.le_of_ble_eq_true rfl) rfl dX7_change_11 (cM_takes l n σ hw hd hz (by omega) (by omega)) ?_
    rintro _ τ ⟨rfl, hτ⟩
    have m := (rS hτ).1
    have s := (rS hτ).2
    have wX := dysR_wf hw n.toNat
    have eX := dysR_0 (σ 22 0) n.toNat
    refine aw_b kX7_ok bX7_change_14_ok (Cs := [0 < 1, 1 < 4, 0 ≤ 2 ∧ 2 < 45]) (pc' := 27) (L' := [some (aR 21 0), some (aI n), some (aI (τ 22 1 2)), some (aI (-4)), some (aI 0), none]) (st' := []) (σ' := τ) rfl (show (0 < 1) ∧ (1 < 4) ∧ (0 ≤ 2 ∧ 2 < 45) from ⟨by omega, by omega, by omega⟩) ?_
    refine aw_eq (L' := [some (aR 21 0), some (aI n), some (aI (chO (σ 22 0) n 0).2), some (aI (chO (σ 22 0) n 0).1), some (aI ((0 : Nat) : Int)), none]) (by rw [m]; rfl) rfl rfl ?_
    refine aloop (P := fun a : Nat => ∀ (ρ : aS) (X : aRw) (hX : OZ X) (hρ : ρ = aRow σ 1 X), AW l 6 mX7_change _ 27 [some (aR 21 0), some (aI n), some (aI ((chO (σ 22 0) n a).2)), some (aI ((chO (σ 22 0) n a).1)), some (aI (a : Int)), none] [] ρ) (5) (fun a ha iha ρ X hX hρ => ?_) τ _ wX.oz hτ
    refine aw_b kX7_ok bX7_change_27_ok (Cs := []) (pc' := 30) (L' := [some (aR 21 0), some (aI n), some (aI ((chO (σ 22 0) n a).2)), some (aI ((chO (σ 22 0) n a).1)), some (aI (a : Int)), none]) (st' := [aI 5, aI (a : Int)]) (σ' := ρ) rfl trivial ?_
    refine aw_cge dX7_change_30 (tgt := 141) (by decide) ⟨by omega, by omega⟩ ⟨by omega, by omega⟩ (fun wh3 => ?_) (fun wh3 => ?_)
    · refine aw_b kX7_ok bX7_change_141_ok (Cs := []) (pc' := 142) (L' := [some (aR 21 0), some (aI n), some (aI ((chO (σ 22 0) n a).2)), some (aI ((chO (σ 22 0) n a).1)), some (aI (a : Int)), none]) (st' := [aI ((chO (σ 22 0) n a).1)]) (σ' := ρ) rfl trivial ?_
      exact aw_iret dX7_change_142 rfl ⟨aret (by unfold A_change; rw [if_pos (by omega), show a = 5 by omega]), ⟨_, hX, hρ⟩⟩
    · refine aw_b kX7_ok bX7_change_33_ok (Cs := []) (pc' := 39) (L' := [some (aR 21 0), some (aI n), some (aI ((chO (σ 22 0) n a).2)), some (aI ((chO (σ 22 0) n a).1)), some (aI (a : Int)), some (aI ((a : Int) + 1))]) (st' := []) (σ' := ρ) rfl trivial ?_
      refine aw_eq (L' := [some (aR 21 0), some (aI n), some (aI (chI (σ 22 0) n a (chO (σ 22 0) n a) 0).2), some (aI (chI (σ 22 0) n a (chO (σ 22 0) n a) 0).1), some (aI (a : Int)), some (aI ((a : Int) + 1 + ((0 : Nat) : Int)))]) (by rw [show (a : Int) + 1 + ((0 : Nat) : Int) = (a : Int) + 1 from Int.add_zero _]; rfl) rfl rfl ?_
      refine aloop (P := fun j : Nat => ∀ (π : aS) (X2 : aRw) (hX2 : OZ X2) (hπ : π = aRow σ 1 X2), AW l 6 mX7_change _ 39 [some (aR 21 0), some (aI n), some (aI ((chI (σ 22 0) n a (chO (σ 22 0) n a) j).2)), some (aI ((chI (σ 22 0) n a (chO (σ 22 0) n a) j).1)), some (aI (a : Int)), some (aI ((a : Int) + 1 + (j : Int)))] [] (π)) (4 - a) (fun j hj ihj π X2 hX2 hπ => ?_) ρ X hX hρ
      have gb := chI_rng hw n (a := a) (by omega) (chO_rng hw n a (by omega)) j (by omega)
      refine aw_b kX7_ok bX7_change_39_ok (Cs := []) (pc' := 42) (L' := [some (aR 21 0), some (aI n), some (aI ((chI (σ 22 0) n a (chO (σ 22 0) n a) j).2)), some (aI ((chI (σ 22 0) n a (chO (σ 22 0) n a) j).1)), some (aI (a : Int)), some (aI ((a : Int) + 1 + (j : Int)))]) (st' := [aI 5, aI ((a : Int) + 1 + (j : Int))]) (σ' := π) rfl trivial ?_
      refine aw_cge dX7_change_42 (tgt := 135) (by decide) ⟨by omega, by omega⟩ ⟨by omega, by omega⟩ (fun wh4 => ?_) (fun wh4 => ?_)
      · refine aw_b kX7_ok bX7_change_135_ok (Cs := []) (pc' := 27) (L' := [some (aR 21 0), some (aI n), some (aI ((chI (σ 22 0) n a (chO (σ 22 0) n a) j).2)), some (aI ((chI (σ 22 0) n a (chO (σ 22 0) n a) j).1)), some (aI ((a : Int) + 1)), some (aI ((a : Int) + 1 + (j : Int)))]) (st' := []) (σ' := π) rfl trivial ?_
        refine aw_drop [5] (L' := [some (aR 21 0), some (aI n), some (aI ((chI (σ 22 0) n a (chO (σ 22 0) n a) j).2)), some (aI ((chI (σ 22 0) n a (chO (σ 22 0) n a) j).1)), some (aI ((a : Int) + 1)), none]) rfl ?_
        exact aw_eq (by rw [show j = 4 - a by omega]; rfl) rfl rfl (iha (by omega) π _ hX2 hπ)
      · refine aw_b kX7_ok bX7_change_45_ok (Cs := [0 < 1, 0 < 1]) (pc' := 53) (L' := [some (aR 21 0), some (aI n), some (aI ((chI (σ 22 0) n a (chO (σ 22 0) n a) j).2)), some (aI ((chI (σ 22 0) n a (chO (σ 22 0) n a) j).1)), some (aI (a : Int)), some (aI ((a : Int) + 1 + (j : Int)))]) (st' := [aR 22 1, aR 22 0]) (σ' := π) rfl (show (0 < 1) ∧ (0 < 1) from ⟨by omega, by omega⟩) ?_
        refine aw_callS lX7_145 (as := [aR 22 0, aR 22 1]) (rest := []) (by decide) rfl (Nat.le_of_ble_eq_true rfl) rfl dX7_change_53 (cM_cpS l σ (π) _ hπ hw hX2) ?_
        rintro _ τ1 ⟨rfl, hτ1⟩
        have m1 := (rS hτ1).1
        have s1 := (rS hτ1).2
        refine aw_b kX7_ok bX7_change_56_ok (Cs := [0 < 1, 0 < 1, 0 < 4, 0 ≤ 3 + ((a : Int) + 1 + (j : Int)) ∧ 3 + ((a : Int) + 1 + (j : Int)) < 45, 1 < 4, 0 ≤ 3 + (a : Int) ∧ 3 + (a : Int) < 45, 0 < 1, 0 < 1, 0 < 4, 0 ≤ 3 + (a : Int) ∧ 3 + (a : Int) < 45, 1 < 4, 0 ≤ 3 + ((a : Int) + 1 + (j : Int)) ∧ 3 + ((a : Int) + 1 + (j : Int)) < 45, 0 < 1]) (pc' := 97) (L' := [some (aR 21 0), some (aI n), some (aI ((chI (σ 22 0) n a (chO (σ 22 0) n a) j).2)), some (aI ((chI (σ 22 0) n a (chO (σ 22 0) n a) j).1)), some (aI (a : Int)), some (aI ((a : Int) + 1 + (j : Int)))]) (st' := [aI n, aR 22 1]) (σ' := aUp (aUp τ1 22 1 (3 + (a : Int)) (τ1 22 0 (3 + ((a : Int) + 1 + (j : Int))))) 22 1 (3 + ((a : Int) + 1 + (j : Int))) ((aUp τ1 22 1 (3 + (a : Int)) (τ1 22 0 (3 + ((a : Int) + 1 + (j : Int))))) 22 0 (3 + (a : Int)))) rfl (show (0 < 1) ∧ (0 < 1) ∧ (0 < 4) ∧ (0 ≤ 3 + ((a : Int) + 1 + (j : Int)) ∧ 3 + ((a : Int) + 1 + (j : Int)) < 45) ∧ (1 < 4) ∧ (0 ≤ 3 + (a : Int) ∧ 3 + (a : Int) < 45) ∧ (0 < 1) ∧ (0 < 1) ∧ (0 < 4) ∧ (0 ≤ 3 + (a : Int) ∧ 3 + (a : Int) < 45) ∧ (1 < 4) ∧ (0 ≤ 3 + ((a : Int) + 1 + (j : Int)) ∧ 3 + ((a : Int) + 1 + (j : Int)) < 45) ∧ (0 < 1) from ⟨by omega, by omega, by omega, by omega, by omega, by omega, by omega, by omega, by omega, by omega, by omega, by omega, by omega⟩) ?_
        obtain ⟨τ2, e2⟩ : ∃ τ2, τ2 = aUp (aUp τ1 22 1 (3 + (a : Int)) (τ1 22 0 (3 + ((a : Int) + 1 + (j : Int))))) 22 1 (3 + ((a : Int) + 1 + (j : Int))) ((aUp τ1 22 1 (3 + (a : Int)) (τ1 22 0 (3 + ((a : Int) + 1 + (j : Int))))) 22 0 (3 + (a : Int))) := ⟨_, rfl⟩
        refine aw_eq rfl rfl (σ' := τ2) e2.symm ?_
        have hτ2 := e2.trans (aUp2_row hτ1)
        have m2 := (rS hτ2).1
        have s2 := (rS hτ2).2
        have q1 : τ1 22 0 (3 + ((a : Int) + 1 + (j : Int))) = (σ 22 0) (3 + ((a : Int) + 1 + (j : Int))) := by rw [s1]
        have q2 : aUp τ1 22 1 (3 + (a : Int)) (τ1 22 0 (3 + ((a : Int) + 1 + (j : Int)))) 22 0 (3 + (a : Int)) = (σ 22 0) (3 + (a : Int)) := by rw [aUp_off (fun q => absurd q.2 (by decide)), s1]
        have hτ4 : τ2 = aRow σ 1 (fcW (σ 22 0) a ((a : Int) + 1 + (j : Int))) := by rw [hτ2, q2, q1]; rfl
        have wF := fcW_wf hw (a := (a : Int)) (b := ((a : Int) + 1 + (j : Int))) (by omega) (by omega) (by omega) (by omega)
        have e1F : fcW (σ 22 0) a ((a : Int) + 1 + (j : Int)) 1 = σ 22 0 1 := by unfold fcW; rw [rUp_ne (by omega), rUp_ne (by omega)]
        refine aw_callS lX7_135 (as := [aR 22 1, aI n]) (rest := []) (by decide) rfl (Nat.le_of_ble_eq_true rfl) rfl dX7_change_97 (cM_daysS l n σ τ2 _ hτ4 wF (by omega) (by omega) (by omega)) ?_
        rintro _ τ3 ⟨rfl, hτ3⟩
        have m3 := (rS hτ3).1
        have s3 := (rS hτ3).2
        have hw3 : WF (dysR (fcW (σ 22 0) a ((a : Int) + 1 + (j : Int))) n.toNat) := dysR_wf wF _
        have eF : τ3 22 1 2 = fcR (σ 22 0) a ((a : Int) + 1 + (j : Int)) n := by rw [m3]; rfl
        have bF := fcR_rng hw (a := (a : Int)) (b := ((a : Int) + 1 + (j : Int))) (by omega) (by omega) (by omega) (by omega) n
        refine aw_b kX7_ok bX7_change_100_ok (Cs := [0 < 1, 1 < 4, 0 ≤ 2 ∧ 2 < 45]) (pc' := 107) (L' := [some (aR 21 0), some (aI n), some (aI ((chI (σ 22 0) n a (chO (σ 22 0) n a) j).2)), some (aI ((chI (σ 22 0) n a (chO (σ 22 0) n a) j).1)), some (aI (a : Int)), some (aI ((a : Int) + 1 + (j : Int)))]) (st' := [aI ((chI (σ 22 0) n a (chO (σ 22 0) n a) j).2), aI (τ3 22 1 2)]) (σ' := τ3) rfl (show (0 < 1) ∧ (1 < 4) ∧ (0 ≤ 2 ∧ 2 < 45) from ⟨by omega, by omega, by omega⟩) ?_
        refine aw_clt dX7_change_107 (tgt := 113) (by decide) ⟨by omega, by omega⟩ ⟨by omega, by omega⟩ (fun wh5 => ?_) (fun wh5 => ?_)
        · refine aw_b kX7_ok bX7_change_113_ok (Cs := [0 < 1, 1 < 4, 0 ≤ 2 ∧ 2 < 45]) (pc' := 129) (L' := [some (aR 21 0), some (aI n), some (aI (τ3 22 1 2)), some (aI ((10 * (a : Int)) + ((a : Int) + 1 + (j : Int)))), some (aI (a : Int)), some (aI ((a : Int) + 1 + (j : Int)))]) (st' := []) (σ' := τ3) rfl (show (0 < 1) ∧ (1 < 4) ∧ (0 ≤ 2 ∧ 2 < 45) from ⟨by omega, by omega, by omega⟩) ?_
          refine aw_b kX7_ok bX7_change_129_ok (Cs := []) (pc' := 39) (L' := [some (aR 21 0), some (aI n), some (aI (τ3 22 1 2)), some (aI ((10 * (a : Int)) + ((a : Int) + 1 + (j : Int)))), some (aI (a : Int)), some (aI (((a : Int) + 1 + (j : Int)) + 1))]) (st' := []) (σ' := τ3) rfl trivial ?_
          have e1 : chI (σ 22 0) n a (chO (σ 22 0) n a) (j + 1) = (10 * (a : Int) + ((a : Int) + 1 + j), fcR (σ 22 0) a ((a : Int) + 1 + j) n) := by rw [chI]; exact if_pos (by omega)
          exact aw_eq (by rw [e1, eF, show (a : Int) + 1 + ((j + 1 : Nat) : Int) = (a : Int) + 1 + (j : Int) + 1 by omega]) rfl rfl (ihj (by omega) τ3 _ hw3.oz hτ3)
        · refine aw_b kX7_ok bX7_change_110_ok (Cs := []) (pc' := 129) (L' := [some (aR 21 0), some (aI n), some (aI ((chI (σ 22 0) n a (chO (σ 22 0) n a) j).2)), some (aI ((chI (σ 22 0) n a (chO (σ 22 0) n a) j).1)), some (aI (a : Int)), some (aI ((a : Int) + 1 + (j : Int)))]) (st' := []) (σ' := τ3) rfl trivial ?_
          refine aw_b kX7_ok bX7_change_129_ok (Cs := []) (pc' := 39) (L' := [some (aR 21 0), some (aI n), some (aI ((chI (σ 22 0) n a (chO (σ 22 0) n a) j).2)), some (aI ((chI (σ 22 0) n a (chO (σ 22 0) n a) j).1)), some (aI (a : Int)), some (aI (((a : Int) + 1 + (j : Int)) + 1))]) (st' := []) (σ' := τ3) rfl trivial ?_
          have e1 : chI (σ 22 0) n a (chO (σ 22 0) n a) (j + 1) = chI (σ 22 0) n a (chO (σ 22 0) n a) j := by rw [chI]; exact if_neg (by omega)
          exact aw_eq (by rw [e1, show (a : Int) + 1 + ((j + 1 : Nat) : Int) = (a : Int) + 1 + (j : Int) + 1 by omega]) rfl rfl (ihj (by omega) τ3 _ hw3.oz hτ3)
  · refine aw_ine dX7_change_4 (tgt := 9) (by decide) ⟨by omega, by omega⟩ (fun wh6 => absurd wh6 (by decide)) (fun wh6 => ?_)
    refine aw_b kX7_ok bX7_change_7_ok (Cs := []) (pc' := 8) (L' := [some (aR 21 0), some (aI n), none, none, none, none]) (st' := [aI (-1)]) (σ' := σ) rfl trivial ?_
    exact aw_iret dX7_change_8 rfl ⟨aret (by unfold A_change; rw [if_neg (by omega)]), ⟨_, hz, h00⟩⟩
