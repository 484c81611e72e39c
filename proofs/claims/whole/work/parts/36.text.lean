/-! ===== the model: the text of a cabinet ===== -/
theorem and255_tab : ∀ k : Nat, k < 256 → aAnd ((k : Int) - 128) 255 = if (k : Int) - 128 < 0 then (k : Int) - 128 + 256 else (k : Int) - 128 := by decide +kernel
theorem aAnd255 {x : Int} (h0 : -128 ≤ x) (h1 : x ≤ 127) : aAnd x 255 = if x < 0 then x + 256 else x := by
  have z := and255_tab (x + 128).toNat (by omega)
  rw [show (((x + 128).toNat : Nat) : Int) - 128 = x by omega] at z
  exact z
/-- the byte that is read at a place -/
def hF (E : Int → Int) (n i : Int) : Int := if i < n then (if E i < 0 then E i + 256 else E i) else -1
def RDs (σ : aS) (b n : Int) (E : Int → Int) : Prop := σ 21 0 6 = b ∧ σ 21 0 7 = n ∧ (0 ≤ b ∧ 0 ≤ n ∧ b + n ≤ 800 ∧ n ≤ 100) ∧ ∀ j : Int, 0 ≤ j → j < n → σ 31 0 (b + j) = E j ∧ -128 ≤ E j ∧ E j ≤ 127
def rsFr (σ τ : aS) : Prop := ∀ (t c : Nat) (j : Int), ¬ (t = 21 ∧ j = 5) → t ≠ 23 → τ t c j = σ t c j
theorem rsFr_rf {σ : aS} : rsFr σ σ := fun _ _ _ _ _ => rfl
theorem rsFr_tr {σ τ ρ : aS} (h : rsFr σ τ) (h' : rsFr τ ρ) : rsFr σ ρ := fun t c j a b => (h' t c j a b).trans (h t c j a b)
theorem RDs.fr {σ τ : aS} {b n : Int} {E : Int → Int} (h : RDs σ b n E) (hf : rsFr σ τ) : RDs τ b n E := by
  obtain ⟨a1, a2, a3, a4⟩ := h
  refine ⟨by rw [hf 21 0 6 (by decide) (by decide)]; exact a1, by rw [hf 21 0 7 (by decide) (by decide)]; exact a2, a3, fun j h0 h1 => ?_⟩
  rw [hf 31 0 _ (by omega) (by decide)]
  exact a4 j h0 h1
theorem rs_up {σ : aS} {x : Int} : rsFr σ (aUp σ 21 0 5 x) := fun t c j h _ => by
  unfold aUp
  rw [if_neg (fun q => h ⟨q.1, q.2.2⟩)]
theorem rs_23 {σ : aS} {i x : Int} : rsFr σ (aUp σ 23 0 i x) := fun t c j _ h => by
  unfold aUp
  rw [if_neg (fun q => h q.1)]
/-- digits read, as a number -/
def nmF (E : Int → Int) (i : Int) : Nat → Int
  | 0 => 0
  | m + 1 => 10 * nmF E i m + E (i + m) - 48
theorem nmF_rng {E : Int → Int} {i : Int} : ∀ m : Nat, m ≤ 2 → (∀ j : Nat, j < m → 48 ≤ E (i + j) ∧ E (i + j) ≤ 57) → 0 ≤ nmF E i m ∧ nmF E i m ≤ 99
  | 0, _, _ => ⟨Int.le_refl 0, by show (0 : Int) ≤ 99; decide⟩
  | 1, _, h => by
    have a := h 0 (by decide)
    show 0 ≤ 10 * 0 + E (i + ((0 : Nat) : Int)) - 48 ∧ 10 * 0 + E (i + ((0 : Nat) : Int)) - 48 ≤ 99
    omega
  | 2, _, h => by
    have a := h 0 (by decide)
    have b := h 1 (by decide)
    show 0 ≤ 10 * (10 * 0 + E (i + ((0 : Nat) : Int)) - 48) + E (i + ((1 : Nat) : Int)) - 48 ∧ 10 * (10 * 0 + E (i + ((0 : Nat) : Int)) - 48) + E (i + ((1 : Nat) : Int)) - 48 ≤ 99
    omega
  | m + 3, hm, _ => by omega
theorem hF_rng {E : Int → Int} {n i : Int} (hE : ∀ j : Int, 0 ≤ j → j < n → -128 ≤ E j ∧ E j ≤ 127) (h0 : 0 ≤ i) : -1 ≤ hF E n i ∧ hF E n i ≤ 255 := by
  unfold hF
  split
  · rename_i h
    have := hE i h0 h
    split <;> omega
  · omega
theorem hF_at {E : Int → Int} {n i : Int} (hE : ∀ j : Int, 0 ≤ j → j < n → -128 ≤ E j ∧ E j ≤ 127) (h0 : 0 ≤ i) (h : 0 ≤ hF E n i ∧ hF E n i ≤ 127) : i < n ∧ hF E n i = E i := by
  unfold hF at h ⊢
  split at h
  · rename_i h1
    have := hE i h0 h1
    rw [if_pos h1]
    split at h
    · omega
    · rename_i h2; rw [if_neg h2]; exact ⟨h1, rfl⟩
  · omega
theorem hF_not {E : Int → Int} {n i : Int} (hE : ∀ j : Int, 0 ≤ j → j < n → -128 ≤ E j ∧ E j ≤ 127) (h0 : 0 ≤ i) (h1 : i < n) : hF E n i = E i ∨ (E i < 0 ∧ 128 ≤ hF E n i) := by
  have := hE i h0 h1
  unfold hF
  rw [if_pos h1]
  split <;> omega
theorem rd_let {E : Int → Int} {n : Int} {i : Nat} (hE : ∀ j : Int, 0 ≤ j → j < n → -128 ≤ E j ∧ E j ≤ 127) (hn : 0 ≤ n) (hi : (i : Int) < n ∨ ((i : Int) = 0 ∧ n = 0)) : (dgF (hF E n i) = 0 → bkF E n (n.toNat - i) i (-1) = i) ∧ (dgF (hF E n i) ≠ 0 → ((i : Int) < n ∧ hF E n i = E i) ∧ bkF E n (n.toNat - i) i (-1) = bkF E n (n.toNat - (i + 1)) (i + 1) (dgF (E i))) := by
  by_cases h : (i : Int) < n
  · have e : bkF E n (n.toNat - i) i (-1) = (if dgF (E i) = 0 then (i : Int) else bkF E n (n.toNat - (i + 1)) (i + 1) (dgF (E i))) := by
      rw [show n.toNat - i = (n.toNat - (i + 1)) + 1 by omega, bkF, if_pos (by decide)]
    rcases hF_not hE (by omega) h with q | ⟨q1, q2⟩
    · rw [q]
      exact ⟨fun z => by rw [e, if_pos z], fun z => ⟨⟨h, rfl⟩, by rw [e, if_neg z]⟩⟩
    · have d1 : dgF (E i) = 0 := by unfold dgF; (repeat' split) <;> omega
      have d2 : dgF (hF E n i) = 0 := by unfold dgF; (repeat' split) <;> omega
      exact ⟨fun _ => by rw [e, if_pos d1], fun z => absurd d2 z⟩
  · have hz : (i : Int) = 0 ∧ n = 0 := by omega
    have d : hF E n i = -1 := by unfold hF; rw [if_neg h]
    refine ⟨fun _ => ?_, fun z => ?_⟩
    · rw [show n.toNat - i = 0 by omega, bkF, if_neg (by omega)]; omega
    · rw [d] at z; exact absurd (by decide) z
theorem rd_dig {E : Int → Int} {n : Int} {i : Nat} {due : Int} (hE : ∀ j : Int, 0 ≤ j → j < n → -128 ≤ E j ∧ E j ≤ 127) (hi : (i : Int) ≤ n) (hd : 0 < due) : (¬ (48 ≤ hF E n i ∧ hF E n i ≤ 57) → bkF E n (n.toNat - i) i due = i) ∧ ((48 ≤ hF E n i ∧ hF E n i ≤ 57) → bkF E n (n.toNat - i) i due = bkF E n (n.toNat - (i + 1)) (i + 1) (due - 1)) := by
  by_cases h : (i : Int) < n
  · have e : bkF E n (n.toNat - i) i due = (if E i < 48 ∨ 57 < E i then (i : Int) else bkF E n (n.toNat - (i + 1)) (i + 1) (due - 1)) := by
      rw [show n.toNat - i = (n.toNat - (i + 1)) + 1 by omega, bkF, if_neg (by omega), if_neg (by omega)]
    have q := hF_not hE (by omega) h
    exact ⟨fun z => by rw [e, if_pos (by omega)], fun z => by rw [e, if_neg (by omega)]⟩
  · have d : hF E n i = -1 := by unfold hF; rw [if_neg h]
    refine ⟨fun _ => ?_, fun z => by omega⟩
    rw [show n.toNat - i = 0 by omega, bkF, if_neg (by omega)]; omega
theorem rd_semi {E : Int → Int} {n : Int} {i : Nat} (hE : ∀ j : Int, 0 ≤ j → j < n → -128 ≤ E j ∧ E j ≤ 127) (hi : (i : Int) ≤ n) : (hF E n i ≠ 59 → bkF E n (n.toNat - i) i 0 = i) ∧ (hF E n i = 59 → (i : Int) < n ∧ bkF E n (n.toNat - i) i 0 = bkF E n (n.toNat - (i + 1)) (i + 1) (-1)) := by
  by_cases h : (i : Int) < n
  · have e : bkF E n (n.toNat - i) i 0 = (if E i = 59 then bkF E n (n.toNat - (i + 1)) (i + 1) (-1) else (i : Int)) := by
      rw [show n.toNat - i = (n.toNat - (i + 1)) + 1 by omega, bkF, if_neg (by decide), if_pos rfl]
    have q := hF_not hE (by omega) h
    exact ⟨fun z => by rw [e, if_neg (by omega)], fun z => ⟨h, by rw [e, if_pos (by omega)]⟩⟩
  · have d : hF E n i = -1 := by unfold hF; rw [if_neg h]
    refine ⟨fun _ => ?_, fun z => by omega⟩
    rw [show n.toNat - i = 0 by omega, bkF, if_neg (by omega)]; omega
/-- what reading so many digits comes to -/
def RN (σ : aS) (E : Int → Int) (n : Int) (i : Nat) (k : Int) (c : Nat) : Option aV → aS → Prop := fun v τ => ∃ m : Nat, m ≤ c ∧ v = some (aI (if m = c then 1 else 0)) ∧ (m < c → ¬ (48 ≤ hF E n (((i + m : Nat)) : Int) ∧ hF E n (((i + m : Nat)) : Int) ≤ 57)) ∧ (∀ j : Nat, j < m → (i : Int) + j < n ∧ 48 ≤ hF E n (((i + j : Nat)) : Int) ∧ hF E n (((i + j : Nat)) : Int) ≤ 57) ∧ (τ 21 0 5 = (i : Int) + m ∧ τ 23 0 k = nmF E i m) ∧ (∀ (t c' : Nat) (j : Int), ¬ (t = 21 ∧ j = 5) → ¬ (t = 23 ∧ j = k) → τ t c' j = σ t c' j)
theorem RN_bk {E : Int → Int} {n : Int} (hE : ∀ j : Int, 0 ≤ j → j < n → -128 ≤ E j ∧ E j ≤ 127) {i c m : Nat} {due : Int} (hi : (i : Int) ≤ n) (hd : (c : Int) ≤ due) (hm : m ≤ c) (h1 : m < c → ¬ (48 ≤ hF E n (((i + m : Nat)) : Int) ∧ hF E n (((i + m : Nat)) : Int) ≤ 57)) (h2 : ∀ j : Nat, j < m → (i : Int) + j < n ∧ 48 ≤ hF E n (((i + j : Nat)) : Int) ∧ hF E n (((i + j : Nat)) : Int) ≤ 57) : (m < c → bkF E n (n.toNat - i) i due = ((i + m : Nat) : Int)) ∧ (m = c → bkF E n (n.toNat - i) i due = bkF E n (n.toNat - (i + c)) (i + c) (due - c)) ∧ ((i + m : Nat) : Int) ≤ n := by
  have key : ∀ k : Nat, k ≤ m → bkF E n (n.toNat - i) i due = bkF E n (n.toNat - (i + k)) (i + k) (due - k) ∧ ((i + k : Nat) : Int) ≤ n := by
    intro k
    induction k with
    | zero => intro _; exact ⟨by rw [show due - ((0 : Nat) : Int) = due by omega]; rfl, by omega⟩
    | succ k ih =>
      intro hk
      obtain ⟨a, b⟩ := ih (by omega)
      have q := h2 k (by omega)
      have z := (rd_dig (i := i + k) (due := due - k) hE (by omega) (by omega)).2 q.2
      refine ⟨?_, by omega⟩
      rw [a, z, show due - (k : Int) - 1 = due - ((k + 1 : Nat) : Int) by omega]
      rfl
  obtain ⟨a, b⟩ := key m (Nat.le_refl m)
  refine ⟨fun h => ?_, fun h => ?_, b⟩
  · rw [a]
    exact (rd_dig (i := i + m) (due := due - m) hE b (by omega)).1 (h1 h)
  · rw [a, h]
set_option maxRecDepth 10000 in
theorem cM_here (l : Launch) (i : Int) (σ : aS) (b n : Int) (E : Int → Int) (hr : RDs σ b n E) (hp : σ 21 0 5 = i) (h0 : 0 ≤ i) (h1 : i ≤ 1000) : AM l 0 mX7_here [aR 21 0] σ (aF (some (aI (hF E n i))) σ) := by
  obtain ⟨hr1, hr2, hr3, hr4⟩ := id hr
  have hE : ∀ j : Int, 0 ≤ j → j < n → -128 ≤ E j ∧ E j ≤ 127 := fun j h0 h1 => (hr4 j h0 h1).2
  refine am_of (by decide) (Nat.le_of_ble_eq_true rfl) (L := [some (aR 21 0)]) rfl ?_
  refine aw_b kX7_ok bX7_here_0_ok (Cs := [0 < 1, 0 < 1]) (pc' := 8) (L' := [some (aR 21 0)]) (st' := [aI (σ 21 0 7), aI (σ 21 0 5)]) (σ' := σ) rfl (show (0 < 1) ∧ (0 < 1) from ⟨by omega, by omega⟩) ?_
  refine aw_cge dX7_here_8 (tgt := 32) (by decide) ⟨by omega, by omega⟩ ⟨by omega, by omega⟩ (fun wh1 => ?_) (fun wh1 => ?_)
  · refine aw_b kX7_ok bX7_here_32_ok (Cs := []) (pc' := 33) (L' := [some (aR 21 0)]) (st' := [aI (-1)]) (σ' := σ) rfl trivial ?_
    exact aw_iret dX7_here_33 rfl ⟨aret (by unfold hF; rw [if_neg (by omega)]), rfl⟩
  · have hx := hr4 i h0 (by omega)
    have he : σ 31 0 (σ 21 0 6 + σ 21 0 5) = E i := by rw [hr1, hp]; exact hx.1
    have ha := aAnd255 hx.2.1 hx.2.2
    refine aw_b kX7_ok bX7_here_11_ok (Cs := [0 < 1, 0 < 1, 0 < 1, 0 < 1, 0 ≤ (σ 21 0 6) + (σ 21 0 5) ∧ (σ 21 0 6) + (σ 21 0 5) < 800]) (pc' := 33) (L' := [some (aR 21 0)]) (st' := [aI (aAnd (σ 31 0 ((σ 21 0 6) + (σ 21 0 5))) 255)]) (σ' := σ) rfl (show (0 < 1) ∧ (0 < 1) ∧ (0 < 1) ∧ (0 < 1) ∧ (0 ≤ (σ 21 0 6) + (σ 21 0 5) ∧ (σ 21 0 6) + (σ 21 0 5) < 800) from ⟨by omega, by omega, by omega, by omega, by omega⟩) ?_
    exact aw_iret dX7_here_33 rfl ⟨aret (by rw [he, ha]; unfold hF; rw [if_pos (show i < n by omega)]), rfl⟩
set_option maxRecDepth 10000 in
theorem cM_readsNumber (l : Launch) (k : Int) (c i : Nat) (σ : aS) (b n : Int) (E : Int → Int) (hr : RDs σ b n E) (k0 : 0 ≤ k) (k1 : k < 3) (hc : c ≤ 2) (hp : σ 21 0 5 = (i : Int)) (hi : (i : Int) ≤ n) : AM l 1 mX7_readsNumber [aR 21 0, aI k, aI (c : Int)] σ (RN σ E n i k c) := by
  obtain ⟨hr1, hr2, hr3, hr4⟩ := id hr
  have hE : ∀ j : Int, 0 ≤ j → j < n → -128 ≤ E j ∧ E j ≤ 127 := fun j h0 h1 => (hr4 j h0 h1).2
  refine am_of (by decide) (Nat.le_of_ble_eq_true rfl) (L := [some (aR 21 0), some (aI k), some (aI (c : Int)), none]) rfl ?_
  refine aw_b kX7_ok bX7_readsNumber_0_ok (Cs := [0 < 1, 0 < 1, 0 ≤ k ∧ k < 3]) (pc' := 9) (L' := [some (aR 21 0), some (aI k), some (aI (c : Int)), some (aI 0)]) (st' := []) (σ' := aUp σ 23 0 k 0) rfl (show (0 < 1) ∧ (0 < 1) ∧ (0 ≤ k ∧ k < 3) from ⟨by omega, by omega, by omega⟩) ?_
  refine aloop (P := fun m : Nat => ∀ (τ : aS) (h5 : τ 21 0 5 = (i : Int) + m) (hN : τ 23 0 k = nmF E i m) (hdg : ∀ j : Nat, j < m → (i : Int) + j < n ∧ 48 ≤ hF E n (((i + j : Nat)) : Int) ∧ hF E n (((i + j : Nat)) : Int) ≤ 57) (hfr : ∀ (t c' : Nat) (j : Int), ¬ (t = 21 ∧ j = 5) → ¬ (t = 23 ∧ j = k) → τ t c' j = σ t c' j), AW l 1 mX7_readsNumber _ 9 [some (aR 21 0), some (aI k), some (aI (c : Int)), some (aI (m : Int))] [] τ) c (fun m hm ihm τ h5 hN hdg hfr => ?_) _ (by rw [aUp_tag (by decide)]; omega) aUp_same (fun j hj => by omega) (fun t c' j h1 h2 => if_neg (fun q => h2 ⟨q.1, q.2.2⟩))
  have hrτ : RDs τ b n E := hr.fr (fun t c' j h1 h2 => hfr t c' j h1 (fun q => h2 q.1))
  have bh := hF_rng (n := n) (i := ((i + m : Nat) : Int)) hE (by omega)
  have dE : ∀ j : Nat, j < m → 48 ≤ E ((i : Int) + j) ∧ E ((i : Int) + j) ≤ 57 := fun j hj => by have z := hdg j hj; have y := hF_at hE (i := ((i + j : Nat) : Int)) (by omega) (by omega); rw [show ((i + j : Nat) : Int) = (i : Int) + j from rfl] at y z; omega
  have bnm := nmF_rng (E := E) (i := (i : Int)) m (by omega) dE
  refine aw_b kX7_ok bX7_readsNumber_9_ok (Cs := []) (pc' := 11) (L' := [some (aR 21 0), some (aI k), some (aI (c : Int)), some (aI (m : Int))]) (st' := [aI (c : Int), aI (m : Int)]) (σ' := τ) rfl trivial ?_
  refine aw_cge dX7_readsNumber_11 (tgt := 69) (by decide) ⟨by omega, by omega⟩ ⟨by omega, by omega⟩ (fun wh1 => ?_) (fun wh1 => ?_)
  · refine aw_b kX7_ok bX7_readsNumber_69_ok (Cs := []) (pc' := 70) (L' := [some (aR 21 0), some (aI k), some (aI (c : Int)), some (aI (m : Int))]) (st' := [aI 1]) (σ' := τ) rfl trivial ?_
    exact aw_zret dX7_readsNumber_70 rfl (by omega) ⟨m, by omega, aret (by rw [if_pos (by omega)]), fun _ => by omega, hdg, ⟨h5, hN⟩, hfr⟩
  · refine aw_b kX7_ok bX7_readsNumber_14_ok (Cs := []) (pc' := 15) (L' := [some (aR 21 0), some (aI k), some (aI (c : Int)), some (aI (m : Int))]) (st' := [aR 21 0]) (σ' := τ) rfl trivial ?_
    refine aw_fV lX7_109 (as := []) (rest := []) (t := 21) (c := 0) (by decide) (by decide) (by decide) rfl rfl (Nat.le_of_ble_eq_true rfl) rfl dX7_readsNumber_15 (cM_here l ((i + m : Nat) : Int) τ b n E hrτ h5 (by omega) (by omega)) ?_
    refine aw_b kX7_ok bX7_readsNumber_18_ok (Cs := []) (pc' := 22) (L' := [some (aR 21 0), some (aI k), some (aI (c : Int)), some (aI (m : Int))]) (st' := [aI 57, aI 48, aI (hF E n ((i + m : Nat) : Int))]) (σ' := τ) rfl trivial ?_
    refine aw_bS lX7_49 (as := [aI (hF E n ((i + m : Nat) : Int)), aI 48, aI 57]) (rest := []) (by decide) rfl (Nat.le_of_ble_eq_true rfl) rfl dX7_readsNumber_22 (cM_isIn l (hF E n ((i + m : Nat) : Int)) 48 57 τ ⟨by omega, by omega⟩ ⟨by omega, by omega⟩ ⟨by omega, by omega⟩) (fun wh2 => ?_) (fun wh2 => ?_)
    · refine aw_ine dX7_readsNumber_25 (tgt := 30) (by decide) ⟨by omega, by omega⟩ (fun wh3 => ?_) (fun wh3 => absurd wh3 (by decide))
      refine aw_b kX7_ok bX7_readsNumber_30_ok (Cs := [0 < 1, 0 < 1, 0 < 1, 0 ≤ k ∧ k < 3]) (pc' := 45) (L' := [some (aR 21 0), some (aI k), some (aI (c : Int)), some (aI (m : Int))]) (st' := [aR 21 0, aI (10 * (τ 23 0 k)), aI k, aR 23 0]) (σ' := τ) rfl (show (0 < 1) ∧ (0 < 1) ∧ (0 < 1) ∧ (0 ≤ k ∧ k < 3) from ⟨by omega, by omega, by omega, by omega⟩) ?_
      refine aw_fV lX7_109 (as := []) (rest := [aI (10 * (τ 23 0 k)), aI k, aR 23 0]) (t := 21) (c := 0) (by decide) (by decide) (by decide) rfl rfl (Nat.le_of_ble_eq_true rfl) rfl dX7_readsNumber_45 (cM_here l ((i + m : Nat) : Int) τ b n E hrτ h5 (by omega) (by omega)) ?_
      refine aw_b kX7_ok bX7_readsNumber_48_ok (Cs := [0 < 1, 0 ≤ k ∧ k < 3, 0 < 1, 0 < 1]) (pc' := 9) (L' := [some (aR 21 0), some (aI k), some (aI (c : Int)), some (aI ((m : Int) + 1))]) (st' := []) (σ' := aUp (aUp τ 23 0 k (((10 * (τ 23 0 k)) + (hF E n ((i + m : Nat) : Int))) - 48)) 21 0 5 (((aUp τ 23 0 k (((10 * (τ 23 0 k)) + (hF E n ((i + m : Nat) : Int))) - 48)) 21 0 5) + 1)) rfl (show (0 < 1) ∧ (0 ≤ k ∧ k < 3) ∧ (0 < 1) ∧ (0 < 1) from ⟨by omega, by omega, by omega, by omega⟩) ?_
      have hl2 := hF_at hE (i := ((i + m : Nat) : Int)) (by omega) (by omega)
      exact ihm (by omega) _ (by rw [aUp_same, aUp_tag (by decide), h5]; omega) (by rw [aUp_tag (by decide), aUp_same, hN, hl2.2]; rfl) (fun j hj => (if hjm : j = m then (by rw [hjm]; exact ⟨by omega, by omega, by omega⟩) else hdg j (by omega))) (fun t c' j h1 h2 => by rw [show ∀ x y, aUp (aUp τ 23 0 k x) 21 0 5 y t c' j = τ t c' j from fun x y => (if_neg (fun q => h1 ⟨q.1, q.2.2⟩)).trans (if_neg (fun q => h2 ⟨q.1, q.2.2⟩))]; exact hfr t c' j h1 h2)
    · refine aw_ine dX7_readsNumber_25 (tgt := 30) (by decide) ⟨by omega, by omega⟩ (fun wh4 => absurd wh4 (by decide)) (fun wh4 => ?_)
      refine aw_b kX7_ok bX7_readsNumber_28_ok (Cs := []) (pc' := 29) (L' := [some (aR 21 0), some (aI k), some (aI (c : Int)), some (aI (m : Int))]) (st' := [aI 0]) (σ' := τ) rfl trivial ?_
      exact aw_zret dX7_readsNumber_29 rfl (by omega) ⟨m, by omega, aret (by rw [if_neg (by omega)]), fun _ => by omega, hdg, ⟨h5, hN⟩, hfr⟩
def NUM (τ : aS) (x a b e : Int) : Prop := (x = 112 → τ 23 0 0 = a ∧ τ 23 0 1 = b ∧ τ 23 0 2 = e) ∧ (x = 111 ∨ x = 104 → τ 23 0 0 = a ∧ τ 23 0 1 = b) ∧ (x = 101 → τ 23 0 0 = a) ∧ (x = 107 → τ 23 0 0 = a ∧ τ 23 0 1 = 10 * b + e) ∧ (x = 100 → τ 23 0 0 = 10 * a + b)
def bkI (E : Int → Int) (n : Int) (i : Nat) (due : Int) : Int := bkF E n (n.toNat - i) i due
/-- what reading a statement comes to -/
def RS (σ : aS) (E : Int → Int) (n : Int) (i : Nat) : Option aV → aS → Prop := fun v τ => ∃ z : Int, v = some (aI z) ∧ (z = 0 ∨ z = 1) ∧ (z = 0 → τ 21 0 5 = bkI E n i (-1) ∧ 0 ≤ bkI E n i (-1)) ∧ (z = 1 → dgF (E i) ≠ 0 ∧ ((i + (dgF (E i)).toNat + 2 : Nat) : Int) ≤ n ∧ τ 21 0 5 = ((i + (dgF (E i)).toNat + 2 : Nat) : Int) ∧ bkI E n i (-1) = bkI E n (i + (dgF (E i)).toNat + 2) (-1) ∧ NUM τ (E i) (E ((i : Int) + 1) - 48) (E ((i : Int) + 2) - 48) (E ((i : Int) + 3) - 48)) ∧ rsFr σ τ
set_option maxRecDepth 10000 in
theorem cM_readsStatement (l : Launch) (i : Nat) (σ : aS) (b n : Int) (E : Int → Int) (hr : RDs σ b n E) (hp : σ 21 0 5 = (i : Int)) (hi : (i : Int) < n ∨ ((i : Int) = 0 ∧ n = 0)) : AM l 2 mX7_readsStatement [aR 21 0] σ (RS σ E n i) := by
  obtain ⟨hr1, hr2, hr3, hr4⟩ := id hr
  have hE : ∀ j : Int, 0 ≤ j → j < n → -128 ≤ E j ∧ E j ≤ 127 := fun j h0 h1 => (hr4 j h0 h1).2
  have bh := hF_rng (n := n) (i := (i : Int)) hE (by omega)
  have rlet := rd_let (n := n) (i := i) hE (by omega) hi
  refine am_of (by decide) (Nat.le_of_ble_eq_true rfl) (L := [some (aR 21 0), none, none]) rfl ?_
  refine aw_b kX7_ok bX7_readsStatement_0_ok (Cs := []) (pc' := 1) (L' := [some (aR 21 0), none, none]) (st' := [aR 21 0]) (σ' := σ) rfl trivial ?_
  refine aw_fV lX7_109 (as := []) (rest := []) (t := 21) (c := 0) (by decide) (by decide) (by decide) rfl rfl (Nat.le_of_ble_eq_true rfl) rfl dX7_readsStatement_1 (cM_here l (i : Int) σ b n E hr hp (by omega) (by omega)) ?_
  refine aw_b kX7_ok bX7_readsStatement_4_ok (Cs := [0 < 1, 0 < 1]) (pc' := 16) (L' := [some (aR 21 0), some (aI (hF E n (i : Int))), none]) (st' := [aI (hF E n (i : Int))]) (σ' := aUp σ 21 0 5 ((σ 21 0 5) + 1)) rfl (show (0 < 1) ∧ (0 < 1) from ⟨by omega, by omega⟩) ?_
  rcases (show hF E n (i : Int) = 100 ∨ hF E n (i : Int) = 101 ∨ hF E n (i : Int) = 102 ∨ hF E n (i : Int) = 103 ∨ hF E n (i : Int) = 104 ∨ hF E n (i : Int) = 105 ∨ hF E n (i : Int) = 106 ∨ hF E n (i : Int) = 107 ∨ hF E n (i : Int) = 108 ∨ hF E n (i : Int) = 109 ∨ hF E n (i : Int) = 110 ∨ hF E n (i : Int) = 111 ∨ hF E n (i : Int) = 112 ∨ (hF E n (i : Int) < 100 ∨ 112 < hF E n (i : Int)) by omega) with wh1 | wh1 | wh1 | wh1 | wh1 | wh1 | wh1 | wh1 | wh1 | wh1 | wh1 | wh1 | wh1 | wh1
  · refine aw_tsw dX7_readsStatement_16 (tgt := 184) ⟨by omega, by omega⟩ (by decide) (by rw [wh1]; decide) ?_
    have hlt : (i : Int) < n ∧ hF E n (i : Int) = E (i : Int) := (rlet.2 (by first | (rw [show hF E n (i : Int) = 100 by omega]; decide))).1
    have ex : E (i : Int) = 100 := by omega
    have hB1 : bkI E n i (-1) = bkI E n (i + 1) 2 := by
      have z := (rlet.2 (by rw [show hF E n (i : Int) = 100 by omega]; decide)).2
      rw [ex] at z
      exact z
    have edg : dgF (E (i : Int)) = 2 := by rw [ex]; decide
    refine aw_b kX7_ok bX7_readsStatement_184_ok (Cs := []) (pc' := 187) (L' := [some (aR 21 0), some (aI (hF E n (i : Int))), none]) (st' := [aI 2, aI 0, aR 21 0]) (σ' := aUp σ 21 0 5 ((σ 21 0 5) + 1)) rfl trivial ?_
    obtain ⟨τ0, e0⟩ : ∃ τ0, τ0 = aUp σ 21 0 5 ((σ 21 0 5) + 1) := ⟨_, rfl⟩
    refine aw_eq rfl rfl (σ' := τ0) e0.symm ?_
    have f0 : rsFr σ τ0 := by rw [e0]; exact rs_up
    have p0 : τ0 21 0 5 = ((i + 1 : Nat) : Int) := by rw [e0, aUp_same, hp]; rfl
    have hr1 := hr.fr f0
    refine aw_callV lX7_113 (as := [aI 0, aI 2]) (rest := []) (t := 21) (c := 0) (by decide) (by decide) (by decide) rfl rfl (Nat.le_of_ble_eq_true rfl) rfl dX7_readsStatement_187 (cM_readsNumber l 0 2 (i + 1) τ0 b n E hr1 (by decide) (by decide) (by decide) (by omega) (by omega)) ?_
    rintro _ τ1 ⟨m1, hm1, rfl, ha1, hb1, hc1, hd1⟩
    have f1 : rsFr σ τ1 := rsFr_tr f0 (fun t c j h1 h2 => hd1 t c j h1 (fun q => h2 q.1))
    have kb1 := RN_bk hE (due := 2) (by omega) (by decide) hm1 ha1 hb1
    refine aw_b kX7_ok bX7_readsStatement_190_ok (Cs := []) (pc' := 206) (L' := [some (aR 21 0), some (aI (hF E n (i : Int))), some (aI (if m1 = 2 then 1 else 0))]) (st' := []) (σ' := τ1) rfl trivial ?_
    refine aw_b kX7_ok bX7_readsStatement_206_ok (Cs := []) (pc' := 207) (L' := [some (aR 21 0), some (aI (hF E n (i : Int))), some (aI (if m1 = 2 then 1 else 0))]) (st' := [aI (if m1 = 2 then 1 else 0)]) (σ' := τ1) rfl trivial ?_
    refine aw_ieq dX7_readsStatement_207 (tgt := 219) (by decide) ⟨by (first | omega | (split <;> omega)), by (first | omega | (split <;> omega))⟩ (fun wh2 => ?_) (fun wh2 => ?_)
    · have kf : bkI E n (i + 1) 2 = ((i + 1 + m1 : Nat) : Int) := by have z := kb1.1 (by omega); exact z
      have hBf : bkI E n i (-1) = ((i + 1 + m1 : Nat) : Int) := (hB1).trans kf
      have hPf : τ1 21 0 5 = bkI E n i (-1) := by omega
      refine aw_b kX7_ok bX7_readsStatement_219_ok (Cs := []) (pc' := 220) (L' := [some (aR 21 0), some (aI (hF E n (i : Int))), some (aI (if m1 = 2 then 1 else 0))]) (st' := [aI 0]) (σ' := τ1) rfl trivial ?_
      exact aw_zret dX7_readsStatement_220 rfl (by omega) ⟨0, rfl, Or.inl rfl, fun _ => ⟨hPf, by omega⟩, fun z => absurd z (by decide), f1⟩
    · have kc1 : bkI E n (i + 1) 2 = bkI E n (i + 1 + 2) 0 := by have z := kb1.2.1 (by omega); exact z
      have hB2 : bkI E n i (-1) = bkI E n (i + 3) 0 := (hB1).trans kc1
      have hpl : τ1 21 0 5 = ((i + 3 : Nat) : Int) := by omega
      have hin : ((i + 3 : Nat) : Int) ≤ n := by have z := kb1.2.2; omega
      have rsm := rd_semi hE hin
      refine aw_b kX7_ok bX7_readsStatement_210_ok (Cs := []) (pc' := 211) (L' := [some (aR 21 0), some (aI (hF E n (i : Int))), some (aI (if m1 = 2 then 1 else 0))]) (st' := [aR 21 0]) (σ' := τ1) rfl trivial ?_
      have hrz := hr.fr f1
      have bhz := hF_rng (n := n) (i := ((i + 3 : Nat) : Int)) hE (by omega)
      refine aw_fV lX7_109 (as := []) (rest := []) (t := 21) (c := 0) (by decide) (by decide) (by decide) rfl rfl (Nat.le_of_ble_eq_true rfl) rfl dX7_readsStatement_211 (cM_here l ((i + 3 : Nat) : Int) τ1 b n E hrz hpl (by omega) (by omega)) ?_
      refine aw_b kX7_ok bX7_readsStatement_214_ok (Cs := []) (pc' := 216) (L' := [some (aR 21 0), some (aI (hF E n (i : Int))), some (aI (if m1 = 2 then 1 else 0))]) (st' := [aI 59, aI (hF E n ((i + 3 : Nat) : Int))]) (σ' := τ1) rfl trivial ?_
      refine aw_ceq dX7_readsStatement_216 (tgt := 221) (by decide) ⟨by omega, by omega⟩ ⟨by omega, by omega⟩ (fun wh3 => ?_) (fun wh3 => ?_)
      · have hB3 := (rsm.2 (by omega))
        have hPn : ((i + (2 : Int).toNat + 2 : Nat) : Int) ≤ n := by have z := hB3.1; show ((i + 2 + 2 : Nat) : Int) ≤ n; omega
        have hPp : τ1 21 0 5 + 1 = ((i + (2 : Int).toNat + 2 : Nat) : Int) := by show _ = ((i + 2 + 2 : Nat) : Int); omega
        have hPb : bkI E n i (-1) = bkI E n (i + (2 : Int).toNat + 2) (-1) := hB2.trans hB3.2
        have dd10 := hb1 0 (by omega)
        have de10 := hF_at hE (i := ((((i + 1) + 0 : Nat)) : Int)) (by omega) (by omega)
        have dd11 := hb1 1 (by omega)
        have de11 := hF_at hE (i := ((((i + 1) + 1 : Nat)) : Int)) (by omega) (by omega)
        have nv1 : τ1 23 0 0 = 10 * (E ((i : Int) + 1) - 48) + (E ((i : Int) + 2) - 48) := by have z := hc1.2; rw [show m1 = 2 by omega] at z; rw [z]; show 10 * (10 * 0 + E (((i + 1 : Nat) : Int) + ((0 : Nat) : Int)) - 48) + E (((i + 1 : Nat) : Int) + ((1 : Nat) : Int)) - 48 = _; rw [show (((i + 1 : Nat) : Int) + ((0 : Nat) : Int)) = (i : Int) + 1 by omega, show (((i + 1 : Nat) : Int) + ((1 : Nat) : Int)) = (i : Int) + 2 by omega]; omega
        have nw1 : (aUp τ1 21 0 5 (τ1 21 0 5 + 1)) 23 0 0 = _ := (aUp_tag (by decide)).trans nv1
        have hNum : NUM (aUp τ1 21 0 5 (τ1 21 0 5 + 1)) (E (i : Int)) (E ((i : Int) + 1) - 48) (E ((i : Int) + 2) - 48) (E ((i : Int) + 3) - 48) := ⟨fun z => by omega, fun z => by omega, fun z => by omega, fun z => by omega, fun _ => nw1⟩
        refine aw_b kX7_ok bX7_readsStatement_221_ok (Cs := [0 < 1, 0 < 1]) (pc' := 232) (L' := [some (aR 21 0), some (aI (hF E n (i : Int))), some (aI (if m1 = 2 then 1 else 0))]) (st' := [aI 1]) (σ' := aUp τ1 21 0 5 ((τ1 21 0 5) + 1)) rfl (show (0 < 1) ∧ (0 < 1) from ⟨by omega, by omega⟩) ?_
        exact aw_zret dX7_readsStatement_232 rfl (by omega) ⟨1, rfl, Or.inr rfl, fun z => absurd z (by decide), fun _ => ⟨by rw [edg]; decide, by rw [edg]; exact hPn, by rw [aUp_same, edg]; exact hPp, by rw [edg]; exact hPb, hNum⟩, rsFr_tr f1 rs_up⟩
      · have hBf : bkI E n i (-1) = ((i + 3 : Nat) : Int) := hB2.trans (rsm.1 (by omega))
        have hPf : τ1 21 0 5 = bkI E n i (-1) := by omega
        refine aw_b kX7_ok bX7_readsStatement_219_ok (Cs := []) (pc' := 220) (L' := [some (aR 21 0), some (aI (hF E n (i : Int))), some (aI (if m1 = 2 then 1 else 0))]) (st' := [aI 0]) (σ' := τ1) rfl trivial ?_
        exact aw_zret dX7_readsStatement_220 rfl (by omega) ⟨0, rfl, Or.inl rfl, fun _ => ⟨hPf, by omega⟩, fun z => absurd z (by decide), f1⟩
  · refine aw_tsw dX7_readsStatement_16 (tgt := 147) ⟨by omega, by omega⟩ (by decide) (by rw [wh1]; decide) ?_
    have hlt : (i : Int) < n ∧ hF E n (i : Int) = E (i : Int) := (rlet.2 (by first | (rw [show hF E n (i : Int) = 101 by omega]; decide))).1
    have ex : E (i : Int) = 101 := by omega
    have hB1 : bkI E n i (-1) = bkI E n (i + 1) 1 := by
      have z := (rlet.2 (by rw [show hF E n (i : Int) = 101 by omega]; decide)).2
      rw [ex] at z
      exact z
    have edg : dgF (E (i : Int)) = 1 := by rw [ex]; decide
    refine aw_b kX7_ok bX7_readsStatement_147_ok (Cs := []) (pc' := 150) (L' := [some (aR 21 0), some (aI (hF E n (i : Int))), none]) (st' := [aI 1, aI 0, aR 21 0]) (σ' := aUp σ 21 0 5 ((σ 21 0 5) + 1)) rfl trivial ?_
    obtain ⟨τ0, e0⟩ : ∃ τ0, τ0 = aUp σ 21 0 5 ((σ 21 0 5) + 1) := ⟨_, rfl⟩
    refine aw_eq rfl rfl (σ' := τ0) e0.symm ?_
    have f0 : rsFr σ τ0 := by rw [e0]; exact rs_up
    have p0 : τ0 21 0 5 = ((i + 1 : Nat) : Int) := by rw [e0, aUp_same, hp]; rfl
    have hr1 := hr.fr f0
    refine aw_callV lX7_113 (as := [aI 0, aI 1]) (rest := []) (t := 21) (c := 0) (by decide) (by decide) (by decide) rfl rfl (Nat.le_of_ble_eq_true rfl) rfl dX7_readsStatement_150 (cM_readsNumber l 0 1 (i + 1) τ0 b n E hr1 (by decide) (by decide) (by decide) (by omega) (by omega)) ?_
    rintro _ τ1 ⟨m1, hm1, rfl, ha1, hb1, hc1, hd1⟩
    have f1 : rsFr σ τ1 := rsFr_tr f0 (fun t c j h1 h2 => hd1 t c j h1 (fun q => h2 q.1))
    have kb1 := RN_bk hE (due := 1) (by omega) (by decide) hm1 ha1 hb1
    refine aw_b kX7_ok bX7_readsStatement_153_ok (Cs := []) (pc' := 206) (L' := [some (aR 21 0), some (aI (hF E n (i : Int))), some (aI (if m1 = 1 then 1 else 0))]) (st' := []) (σ' := τ1) rfl trivial ?_
    refine aw_b kX7_ok bX7_readsStatement_206_ok (Cs := []) (pc' := 207) (L' := [some (aR 21 0), some (aI (hF E n (i : Int))), some (aI (if m1 = 1 then 1 else 0))]) (st' := [aI (if m1 = 1 then 1 else 0)]) (σ' := τ1) rfl trivial ?_
    refine aw_ieq dX7_readsStatement_207 (tgt := 219) (by decide) ⟨by (first | omega | (split <;> omega)), by (first | omega | (split <;> omega))⟩ (fun wh4 => ?_) (fun wh4 => ?_)
    · have kf : bkI E n (i + 1) 1 = ((i + 1 + m1 : Nat) : Int) := by have z := kb1.1 (by omega); exact z
      have hBf : bkI E n i (-1) = ((i + 1 + m1 : Nat) : Int) := (hB1).trans kf
      have hPf : τ1 21 0 5 = bkI E n i (-1) := by omega
      refine aw_b kX7_ok bX7_readsStatement_219_ok (Cs := []) (pc' := 220) (L' := [some (aR 21 0), some (aI (hF E n (i : Int))), some (aI (if m1 = 1 then 1 else 0))]) (st' := [aI 0]) (σ' := τ1) rfl trivial ?_
      exact aw_zret dX7_readsStatement_220 rfl (by omega) ⟨0, rfl, Or.inl rfl, fun _ => ⟨hPf, by omega⟩, fun z => absurd z (by decide), f1⟩
    · have kc1 : bkI E n (i + 1) 1 = bkI E n (i + 1 + 1) 0 := by have z := kb1.2.1 (by omega); exact z
      have hB2 : bkI E n i (-1) = bkI E n (i + 2) 0 := (hB1).trans kc1
      have hpl : τ1 21 0 5 = ((i + 2 : Nat) : Int) := by omega
      have hin : ((i + 2 : Nat) : Int) ≤ n := by have z := kb1.2.2; omega
      have rsm := rd_semi hE hin
      refine aw_b kX7_ok bX7_readsStatement_210_ok (Cs := []) (pc' := 211) (L' := [some (aR 21 0), some (aI (hF E n (i : Int))), some (aI (if m1 = 1 then 1 else 0))]) (st' := [aR 21 0]) (σ' := τ1) rfl trivial ?_
      have hrz := hr.fr f1
      have bhz := hF_rng (n := n) (i := ((i + 2 : Nat) : Int)) hE (by omega)
      refine aw_fV lX7_109 (as := []) (rest := []) (t := 21) (c := 0) (by decide) (by decide) (by decide) rfl rfl (Nat.le_of_ble_eq_true rfl) rfl dX7_readsStatement_211 (cM_here l ((i + 2 : Nat) : Int) τ1 b n E hrz hpl (by omega) (by omega)) ?_
      refine aw_b kX7_ok bX7_readsStatement_214_ok (Cs := []) (pc' := 216) (L' := [some (aR 21 0), some (aI (hF E n (i : Int))), some (aI (if m1 = 1 then 1 else 0))]) (st' := [aI 59, aI (hF E n ((i + 2 : Nat) : Int))]) (σ' := τ1) rfl trivial ?_
      refine aw_ceq dX7_readsStatement_216 (tgt := 221) (by decide) ⟨by omega, by omega⟩ ⟨by omega, by omega⟩ (fun wh5 => ?_) (fun wh5 => ?_)
      · have hB3 := (rsm.2 (by omega))
        have hPn : ((i + (1 : Int).toNat + 2 : Nat) : Int) ≤ n := by have z := hB3.1; show ((i + 1 + 2 : Nat) : Int) ≤ n; omega
        have hPp : τ1 21 0 5 + 1 = ((i + (1 : Int).toNat + 2 : Nat) : Int) := by show _ = ((i + 1 + 2 : Nat) : Int); omega
        have hPb : bkI E n i (-1) = bkI E n (i + (1 : Int).toNat + 2) (-1) := hB2.trans hB3.2
        have dd10 := hb1 0 (by omega)
        have de10 := hF_at hE (i := ((((i + 1) + 0 : Nat)) : Int)) (by omega) (by omega)
        have nv1 : τ1 23 0 0 = E ((i : Int) + 1) - 48 := by have z := hc1.2; rw [show m1 = 1 by omega] at z; rw [z]; show 10 * 0 + E (((i + 1 : Nat) : Int) + ((0 : Nat) : Int)) - 48 = _; rw [show (((i + 1 : Nat) : Int) + ((0 : Nat) : Int)) = (i : Int) + 1 by omega]; omega
        have nw1 : (aUp τ1 21 0 5 (τ1 21 0 5 + 1)) 23 0 0 = _ := (aUp_tag (by decide)).trans nv1
        have hNum : NUM (aUp τ1 21 0 5 (τ1 21 0 5 + 1)) (E (i : Int)) (E ((i : Int) + 1) - 48) (E ((i : Int) + 2) - 48) (E ((i : Int) + 3) - 48) := ⟨fun z => by omega, fun z => by omega, fun _ => nw1, fun z => by omega, fun z => by omega⟩
        refine aw_b kX7_ok bX7_readsStatement_221_ok (Cs := [0 < 1, 0 < 1]) (pc' := 232) (L' := [some (aR 21 0), some (aI (hF E n (i : Int))), some (aI (if m1 = 1 then 1 else 0))]) (st' := [aI 1]) (σ' := aUp τ1 21 0 5 ((τ1 21 0 5) + 1)) rfl (show (0 < 1) ∧ (0 < 1) from ⟨by omega, by omega⟩) ?_
        exact aw_zret dX7_readsStatement_232 rfl (by omega) ⟨1, rfl, Or.inr rfl, fun z => absurd z (by decide), fun _ => ⟨by rw [edg]; decide, by rw [edg]; exact hPn, by rw [aUp_same, edg]; exact hPp, by rw [edg]; exact hPb, hNum⟩, rsFr_tr f1 rs_up⟩
      · have hBf : bkI E n i (-1) = ((i + 2 : Nat) : Int) := hB2.trans (rsm.1 (by omega))
        have hPf : τ1 21 0 5 = bkI E n i (-1) := by omega
        refine aw_b kX7_ok bX7_readsStatement_219_ok (Cs := []) (pc' := 220) (L' := [some (aR 21 0), some (aI (hF E n (i : Int))), some (aI (if m1 = 1 then 1 else 0))]) (st' := [aI 0]) (σ' := τ1) rfl trivial ?_
        exact aw_zret dX7_readsStatement_220 rfl (by omega) ⟨0, rfl, Or.inl rfl, fun _ => ⟨hPf, by omega⟩, fun z => absurd z (by decide), f1⟩
  · refine aw_tsw dX7_readsStatement_16 (tgt := 194) ⟨by omega, by omega⟩ (by decide) (by rw [wh1]; decide) ?_
    have hdz : dgF (hF E n (i : Int)) = 0 := by rw [show hF E n (i : Int) = 102 by omega]; decide
    refine aw_b kX7_ok bX7_readsStatement_194_ok (Cs := [0 < 1, 0 < 1]) (pc' := 205) (L' := [some (aR 21 0), some (aI (hF E n (i : Int))), none]) (st' := [aI 0]) (σ' := aUp (aUp σ 21 0 5 ((σ 21 0 5) + 1)) 21 0 5 (((aUp σ 21 0 5 ((σ 21 0 5) + 1)) 21 0 5) - 1)) rfl (show (0 < 1) ∧ (0 < 1) from ⟨by omega, by omega⟩) ?_
    exact aw_zret dX7_readsStatement_205 rfl (by omega) ⟨0, rfl, Or.inl rfl, fun _ => ⟨by rw [aUp_same, aUp_same, hp]; have z := rlet.1 hdz; unfold bkI; omega, by have z := rlet.1 hdz; unfold bkI; omega⟩, fun z => absurd z (by decide), rsFr_tr rs_up rs_up⟩
  · refine aw_tsw dX7_readsStatement_16 (tgt := 194) ⟨by omega, by omega⟩ (by decide) (by rw [wh1]; decide) ?_
    have hdz : dgF (hF E n (i : Int)) = 0 := by rw [show hF E n (i : Int) = 103 by omega]; decide
    refine aw_b kX7_ok bX7_readsStatement_194_ok (Cs := [0 < 1, 0 < 1]) (pc' := 205) (L' := [some (aR 21 0), some (aI (hF E n (i : Int))), none]) (st' := [aI 0]) (σ' := aUp (aUp σ 21 0 5 ((σ 21 0 5) + 1)) 21 0 5 (((aUp σ 21 0 5 ((σ 21 0 5) + 1)) 21 0 5) - 1)) rfl (show (0 < 1) ∧ (0 < 1) from ⟨by omega, by omega⟩) ?_
    exact aw_zret dX7_readsStatement_205 rfl (by omega) ⟨0, rfl, Or.inl rfl, fun _ => ⟨by rw [aUp_same, aUp_same, hp]; have z := rlet.1 hdz; unfold bkI; omega, by have z := rlet.1 hdz; unfold bkI; omega⟩, fun z => absurd z (by decide), rsFr_tr rs_up rs_up⟩
  · refine aw_tsw dX7_readsStatement_16 (tgt := 120) ⟨by omega, by omega⟩ (by decide) (by rw [wh1]; decide) ?_
    have hlt : (i : Int) < n ∧ hF E n (i : Int) = E (i : Int) := (rlet.2 (by first | (rw [show hF E n (i : Int) = 104 by omega]; decide))).1
    have ex : E (i : Int) = 104 := by omega
    have hB1 : bkI E n i (-1) = bkI E n (i + 1) 2 := by
      have z := (rlet.2 (by rw [show hF E n (i : Int) = 104 by omega]; decide)).2
      rw [ex] at z
      exact z
    have edg : dgF (E (i : Int)) = 2 := by rw [ex]; decide
    refine aw_b kX7_ok bX7_readsStatement_120_ok (Cs := []) (pc' := 123) (L' := [some (aR 21 0), some (aI (hF E n (i : Int))), none]) (st' := [aI 1, aI 0, aR 21 0]) (σ' := aUp σ 21 0 5 ((σ 21 0 5) + 1)) rfl trivial ?_
    obtain ⟨τ0, e0⟩ : ∃ τ0, τ0 = aUp σ 21 0 5 ((σ 21 0 5) + 1) := ⟨_, rfl⟩
    refine aw_eq rfl rfl (σ' := τ0) e0.symm ?_
    have f0 : rsFr σ τ0 := by rw [e0]; exact rs_up
    have p0 : τ0 21 0 5 = ((i + 1 : Nat) : Int) := by rw [e0, aUp_same, hp]; rfl
    have hr1 := hr.fr f0
    refine aw_callV lX7_113 (as := [aI 0, aI 1]) (rest := []) (t := 21) (c := 0) (by decide) (by decide) (by decide) rfl rfl (Nat.le_of_ble_eq_true rfl) rfl dX7_readsStatement_123 (cM_readsNumber l 0 1 (i + 1) τ0 b n E hr1 (by decide) (by decide) (by decide) (by omega) (by omega)) ?_
    rintro _ τ1 ⟨m1, hm1, rfl, ha1, hb1, hc1, hd1⟩
    have f1 : rsFr σ τ1 := rsFr_tr f0 (fun t c j h1 h2 => hd1 t c j h1 (fun q => h2 q.1))
    have kb1 := RN_bk hE (due := 2) (by omega) (by decide) hm1 ha1 hb1
    refine aw_ieq dX7_readsStatement_126 (tgt := 142) (by decide) ⟨by omega, by omega⟩ (fun wh6 => ?_) (fun wh6 => ?_)
    · refine aw_b kX7_ok bX7_readsStatement_142_ok (Cs := []) (pc' := 143) (L' := [some (aR 21 0), some (aI (hF E n (i : Int))), none]) (st' := [aI 0]) (σ' := τ1) rfl trivial ?_
      refine aw_b kX7_ok bX7_readsStatement_143_ok (Cs := []) (pc' := 206) (L' := [some (aR 21 0), some (aI (hF E n (i : Int))), some (aI 0)]) (st' := []) (σ' := τ1) rfl trivial ?_
      have kf : bkI E n (i + 1) 2 = ((i + 1 + m1 : Nat) : Int) := by have z := kb1.1 (by omega); exact z
      have hBf : bkI E n i (-1) = ((i + 1 + m1 : Nat) : Int) := (hB1).trans kf
      have hPf : τ1 21 0 5 = bkI E n i (-1) := by omega
      refine aw_b kX7_ok bX7_readsStatement_206_ok (Cs := []) (pc' := 207) (L' := [some (aR 21 0), some (aI (hF E n (i : Int))), some (aI 0)]) (st' := [aI 0]) (σ' := τ1) rfl trivial ?_
      refine aw_ieq dX7_readsStatement_207 (tgt := 219) (by decide) ⟨by (first | omega | (split <;> omega)), by (first | omega | (split <;> omega))⟩ (fun wh7 => ?_) (fun wh7 => absurd wh7 (by decide))
      refine aw_b kX7_ok bX7_readsStatement_219_ok (Cs := []) (pc' := 220) (L' := [some (aR 21 0), some (aI (hF E n (i : Int))), some (aI 0)]) (st' := [aI 0]) (σ' := τ1) rfl trivial ?_
      exact aw_zret dX7_readsStatement_220 rfl (by omega) ⟨0, rfl, Or.inl rfl, fun _ => ⟨hPf, by omega⟩, fun z => absurd z (by decide), f1⟩
    · refine aw_b kX7_ok bX7_readsStatement_129_ok (Cs := []) (pc' := 132) (L' := [some (aR 21 0), some (aI (hF E n (i : Int))), none]) (st' := [aI 1, aI 1, aR 21 0]) (σ' := τ1) rfl trivial ?_
      have hr2 := hr.fr f1
      refine aw_callV lX7_113 (as := [aI 1, aI 1]) (rest := []) (t := 21) (c := 0) (by decide) (by decide) (by decide) rfl rfl (Nat.le_of_ble_eq_true rfl) rfl dX7_readsStatement_132 (cM_readsNumber l 1 1 (i + 1 + 1) τ1 b n E hr2 (by decide) (by decide) (by decide) (by omega) (by omega)) ?_
      rintro _ τ2 ⟨m2, hm2, rfl, ha2, hb2, hc2, hd2⟩
      have f2 : rsFr σ τ2 := rsFr_tr f1 (fun t c j h1 h2 => hd2 t c j h1 (fun q => h2 q.1))
      have kb2 := RN_bk hE (due := 1) (by omega) (by decide) hm2 ha2 hb2
      refine aw_ieq dX7_readsStatement_135 (tgt := 142) (by decide) ⟨by omega, by omega⟩ (fun wh8 => ?_) (fun wh8 => ?_)
      · refine aw_b kX7_ok bX7_readsStatement_142_ok (Cs := []) (pc' := 143) (L' := [some (aR 21 0), some (aI (hF E n (i : Int))), none]) (st' := [aI 0]) (σ' := τ2) rfl trivial ?_
        refine aw_b kX7_ok bX7_readsStatement_143_ok (Cs := []) (pc' := 206) (L' := [some (aR 21 0), some (aI (hF E n (i : Int))), some (aI 0)]) (st' := []) (σ' := τ2) rfl trivial ?_
        have kc1 : bkI E n (i + 1) 2 = bkI E n (i + 1 + 1) 1 := by have z := kb1.2.1 (by omega); exact z
        have kf : bkI E n (i + 1 + 1) 1 = ((i + 1 + 1 + m2 : Nat) : Int) := by have z := kb2.1 (by omega); exact z
        have hBf : bkI E n i (-1) = ((i + 1 + 1 + m2 : Nat) : Int) := ((hB1).trans kc1).trans kf
        have hPf : τ2 21 0 5 = bkI E n i (-1) := by omega
        refine aw_b kX7_ok bX7_readsStatement_206_ok (Cs := []) (pc' := 207) (L' := [some (aR 21 0), some (aI (hF E n (i : Int))), some (aI 0)]) (st' := [aI 0]) (σ' := τ2) rfl trivial ?_
        refine aw_ieq dX7_readsStatement_207 (tgt := 219) (by decide) ⟨by (first | omega | (split <;> omega)), by (first | omega | (split <;> omega))⟩ (fun wh9 => ?_) (fun wh9 => absurd wh9 (by decide))
        refine aw_b kX7_ok bX7_readsStatement_219_ok (Cs := []) (pc' := 220) (L' := [some (aR 21 0), some (aI (hF E n (i : Int))), some (aI 0)]) (st' := [aI 0]) (σ' := τ2) rfl trivial ?_
        exact aw_zret dX7_readsStatement_220 rfl (by omega) ⟨0, rfl, Or.inl rfl, fun _ => ⟨hPf, by omega⟩, fun z => absurd z (by decide), f2⟩
      · refine aw_b kX7_ok bX7_readsStatement_138_ok (Cs := []) (pc' := 143) (L' := [some (aR 21 0), some (aI (hF E n (i : Int))), none]) (st' := [aI 1]) (σ' := τ2) rfl trivial ?_
        refine aw_b kX7_ok bX7_readsStatement_143_ok (Cs := []) (pc' := 206) (L' := [some (aR 21 0), some (aI (hF E n (i : Int))), some (aI 1)]) (st' := []) (σ' := τ2) rfl trivial ?_
        have kc1 : bkI E n (i + 1) 2 = bkI E n (i + 1 + 1) 1 := by have z := kb1.2.1 (by omega); exact z
        have kc2 : bkI E n (i + 1 + 1) 1 = bkI E n (i + 1 + 1 + 1) 0 := by have z := kb2.2.1 (by omega); exact z
        have hB2 : bkI E n i (-1) = bkI E n (i + 3) 0 := ((hB1).trans kc1).trans kc2
        have hpl : τ2 21 0 5 = ((i + 3 : Nat) : Int) := by omega
        have hin : ((i + 3 : Nat) : Int) ≤ n := by have z := kb2.2.2; omega
        have rsm := rd_semi hE hin
        refine aw_b kX7_ok bX7_readsStatement_206_ok (Cs := []) (pc' := 207) (L' := [some (aR 21 0), some (aI (hF E n (i : Int))), some (aI 1)]) (st' := [aI 1]) (σ' := τ2) rfl trivial ?_
        refine aw_ieq dX7_readsStatement_207 (tgt := 219) (by decide) ⟨by (first | omega | (split <;> omega)), by (first | omega | (split <;> omega))⟩ (fun wh10 => absurd wh10 (by decide)) (fun wh10 => ?_)
        refine aw_b kX7_ok bX7_readsStatement_210_ok (Cs := []) (pc' := 211) (L' := [some (aR 21 0), some (aI (hF E n (i : Int))), some (aI 1)]) (st' := [aR 21 0]) (σ' := τ2) rfl trivial ?_
        have hrz := hr.fr f2
        have bhz := hF_rng (n := n) (i := ((i + 3 : Nat) : Int)) hE (by omega)
        refine aw_fV lX7_109 (as := []) (rest := []) (t := 21) (c := 0) (by decide) (by decide) (by decide) rfl rfl (Nat.le_of_ble_eq_true rfl) rfl dX7_readsStatement_211 (cM_here l ((i + 3 : Nat) : Int) τ2 b n E hrz hpl (by omega) (by omega)) ?_
        refine aw_b kX7_ok bX7_readsStatement_214_ok (Cs := []) (pc' := 216) (L' := [some (aR 21 0), some (aI (hF E n (i : Int))), some (aI 1)]) (st' := [aI 59, aI (hF E n ((i + 3 : Nat) : Int))]) (σ' := τ2) rfl trivial ?_
        refine aw_ceq dX7_readsStatement_216 (tgt := 221) (by decide) ⟨by omega, by omega⟩ ⟨by omega, by omega⟩ (fun wh11 => ?_) (fun wh11 => ?_)
        · have hB3 := (rsm.2 (by omega))
          have hPn : ((i + (2 : Int).toNat + 2 : Nat) : Int) ≤ n := by have z := hB3.1; show ((i + 2 + 2 : Nat) : Int) ≤ n; omega
          have hPp : τ2 21 0 5 + 1 = ((i + (2 : Int).toNat + 2 : Nat) : Int) := by show _ = ((i + 2 + 2 : Nat) : Int); omega
          have hPb : bkI E n i (-1) = bkI E n (i + (2 : Int).toNat + 2) (-1) := hB2.trans hB3.2
          have dd10 := hb1 0 (by omega)
          have de10 := hF_at hE (i := ((((i + 1) + 0 : Nat)) : Int)) (by omega) (by omega)
          have nv1 : τ1 23 0 0 = E ((i : Int) + 1) - 48 := by have z := hc1.2; rw [show m1 = 1 by omega] at z; rw [z]; show 10 * 0 + E (((i + 1 : Nat) : Int) + ((0 : Nat) : Int)) - 48 = _; rw [show (((i + 1 : Nat) : Int) + ((0 : Nat) : Int)) = (i : Int) + 1 by omega]; omega
          have nv1 : τ2 23 0 0 = _ := (hd2 23 0 0 (by decide) (by decide)).trans nv1
          have nw1 : (aUp τ2 21 0 5 (τ2 21 0 5 + 1)) 23 0 0 = _ := (aUp_tag (by decide)).trans nv1
          have dd20 := hb2 0 (by omega)
          have de20 := hF_at hE (i := ((((i + 1 + 1) + 0 : Nat)) : Int)) (by omega) (by omega)
          have nv2 : τ2 23 0 1 = E ((i : Int) + 2) - 48 := by have z := hc2.2; rw [show m2 = 1 by omega] at z; rw [z]; show 10 * 0 + E (((i + 1 + 1 : Nat) : Int) + ((0 : Nat) : Int)) - 48 = _; rw [show (((i + 1 + 1 : Nat) : Int) + ((0 : Nat) : Int)) = (i : Int) + 2 by omega]; omega
          have nw2 : (aUp τ2 21 0 5 (τ2 21 0 5 + 1)) 23 0 1 = _ := (aUp_tag (by decide)).trans nv2
          have hNum : NUM (aUp τ2 21 0 5 (τ2 21 0 5 + 1)) (E (i : Int)) (E ((i : Int) + 1) - 48) (E ((i : Int) + 2) - 48) (E ((i : Int) + 3) - 48) := ⟨fun z => by omega, fun _ => ⟨nw1, nw2⟩, fun z => by omega, fun z => by omega, fun z => by omega⟩
          refine aw_b kX7_ok bX7_readsStatement_221_ok (Cs := [0 < 1, 0 < 1]) (pc' := 232) (L' := [some (aR 21 0), some (aI (hF E n (i : Int))), some (aI 1)]) (st' := [aI 1]) (σ' := aUp τ2 21 0 5 ((τ2 21 0 5) + 1)) rfl (show (0 < 1) ∧ (0 < 1) from ⟨by omega, by omega⟩) ?_
          exact aw_zret dX7_readsStatement_232 rfl (by omega) ⟨1, rfl, Or.inr rfl, fun z => absurd z (by decide), fun _ => ⟨by rw [edg]; decide, by rw [edg]; exact hPn, by rw [aUp_same, edg]; exact hPp, by rw [edg]; exact hPb, hNum⟩, rsFr_tr f2 rs_up⟩
        · have hBf : bkI E n i (-1) = ((i + 3 : Nat) : Int) := hB2.trans (rsm.1 (by omega))
          have hPf : τ2 21 0 5 = bkI E n i (-1) := by omega
          refine aw_b kX7_ok bX7_readsStatement_219_ok (Cs := []) (pc' := 220) (L' := [some (aR 21 0), some (aI (hF E n (i : Int))), some (aI 1)]) (st' := [aI 0]) (σ' := τ2) rfl trivial ?_
          exact aw_zret dX7_readsStatement_220 rfl (by omega) ⟨0, rfl, Or.inl rfl, fun _ => ⟨hPf, by omega⟩, fun z => absurd z (by decide), f2⟩
  · refine aw_tsw dX7_readsStatement_16 (tgt := 194) ⟨by omega, by omega⟩ (by decide) (by rw [wh1]; decide) ?_
    have hdz : dgF (hF E n (i : Int)) = 0 := by rw [show hF E n (i : Int) = 105 by omega]; decide
    refine aw_b kX7_ok bX7_readsStatement_194_ok (Cs := [0 < 1, 0 < 1]) (pc' := 205) (L' := [some (aR 21 0), some (aI (hF E n (i : Int))), none]) (st' := [aI 0]) (σ' := aUp (aUp σ 21 0 5 ((σ 21 0 5) + 1)) 21 0 5 (((aUp σ 21 0 5 ((σ 21 0 5) + 1)) 21 0 5) - 1)) rfl (show (0 < 1) ∧ (0 < 1) from ⟨by omega, by omega⟩) ?_
    exact aw_zret dX7_readsStatement_205 rfl (by omega) ⟨0, rfl, Or.inl rfl, fun _ => ⟨by rw [aUp_same, aUp_same, hp]; have z := rlet.1 hdz; unfold bkI; omega, by have z := rlet.1 hdz; unfold bkI; omega⟩, fun z => absurd z (by decide), rsFr_tr rs_up rs_up⟩
  · refine aw_tsw dX7_readsStatement_16 (tgt := 194) ⟨by omega, by omega⟩ (by decide) (by rw [wh1]; decide) ?_
    have hdz : dgF (hF E n (i : Int)) = 0 := by rw [show hF E n (i : Int) = 106 by omega]; decide
    refine aw_b kX7_ok bX7_readsStatement_194_ok (Cs := [0 < 1, 0 < 1]) (pc' := 205) (L' := [some (aR 21 0), some (aI (hF E n (i : Int))), none]) (st' := [aI 0]) (σ' := aUp (aUp σ 21 0 5 ((σ 21 0 5) + 1)) 21 0 5 (((aUp σ 21 0 5 ((σ 21 0 5) + 1)) 21 0 5) - 1)) rfl (show (0 < 1) ∧ (0 < 1) from ⟨by omega, by omega⟩) ?_
    exact aw_zret dX7_readsStatement_205 rfl (by omega) ⟨0, rfl, Or.inl rfl, fun _ => ⟨by rw [aUp_same, aUp_same, hp]; have z := rlet.1 hdz; unfold bkI; omega, by have z := rlet.1 hdz; unfold bkI; omega⟩, fun z => absurd z (by decide), rsFr_tr rs_up rs_up⟩
  · refine aw_tsw dX7_readsStatement_16 (tgt := 157) ⟨by omega, by omega⟩ (by decide) (by rw [wh1]; decide) ?_
    have hlt : (i : Int) < n ∧ hF E n (i : Int) = E (i : Int) := (rlet.2 (by first | (rw [show hF E n (i : Int) = 107 by omega]; decide))).1
    have ex : E (i : Int) = 107 := by omega
    have hB1 : bkI E n i (-1) = bkI E n (i + 1) 3 := by
      have z := (rlet.2 (by rw [show hF E n (i : Int) = 107 by omega]; decide)).2
      rw [ex] at z
      exact z
    have edg : dgF (E (i : Int)) = 3 := by rw [ex]; decide
    refine aw_b kX7_ok bX7_readsStatement_157_ok (Cs := []) (pc' := 160) (L' := [some (aR 21 0), some (aI (hF E n (i : Int))), none]) (st' := [aI 1, aI 0, aR 21 0]) (σ' := aUp σ 21 0 5 ((σ 21 0 5) + 1)) rfl trivial ?_
    obtain ⟨τ0, e0⟩ : ∃ τ0, τ0 = aUp σ 21 0 5 ((σ 21 0 5) + 1) := ⟨_, rfl⟩
    refine aw_eq rfl rfl (σ' := τ0) e0.symm ?_
    have f0 : rsFr σ τ0 := by rw [e0]; exact rs_up
    have p0 : τ0 21 0 5 = ((i + 1 : Nat) : Int) := by rw [e0, aUp_same, hp]; rfl
    have hr1 := hr.fr f0
    refine aw_callV lX7_113 (as := [aI 0, aI 1]) (rest := []) (t := 21) (c := 0) (by decide) (by decide) (by decide) rfl rfl (Nat.le_of_ble_eq_true rfl) rfl dX7_readsStatement_160 (cM_readsNumber l 0 1 (i + 1) τ0 b n E hr1 (by decide) (by decide) (by decide) (by omega) (by omega)) ?_
    rintro _ τ1 ⟨m1, hm1, rfl, ha1, hb1, hc1, hd1⟩
    have f1 : rsFr σ τ1 := rsFr_tr f0 (fun t c j h1 h2 => hd1 t c j h1 (fun q => h2 q.1))
    have kb1 := RN_bk hE (due := 3) (by omega) (by decide) hm1 ha1 hb1
    refine aw_ieq dX7_readsStatement_163 (tgt := 179) (by decide) ⟨by omega, by omega⟩ (fun wh12 => ?_) (fun wh12 => ?_)
    · refine aw_b kX7_ok bX7_readsStatement_179_ok (Cs := []) (pc' := 180) (L' := [some (aR 21 0), some (aI (hF E n (i : Int))), none]) (st' := [aI 0]) (σ' := τ1) rfl trivial ?_
      refine aw_b kX7_ok bX7_readsStatement_180_ok (Cs := []) (pc' := 206) (L' := [some (aR 21 0), some (aI (hF E n (i : Int))), some (aI 0)]) (st' := []) (σ' := τ1) rfl trivial ?_
      have kf : bkI E n (i + 1) 3 = ((i + 1 + m1 : Nat) : Int) := by have z := kb1.1 (by omega); exact z
      have hBf : bkI E n i (-1) = ((i + 1 + m1 : Nat) : Int) := (hB1).trans kf
      have hPf : τ1 21 0 5 = bkI E n i (-1) := by omega
      refine aw_b kX7_ok bX7_readsStatement_206_ok (Cs := []) (pc' := 207) (L' := [some (aR 21 0), some (aI (hF E n (i : Int))), some (aI 0)]) (st' := [aI 0]) (σ' := τ1) rfl trivial ?_
      refine aw_ieq dX7_readsStatement_207 (tgt := 219) (by decide) ⟨by (first | omega | (split <;> omega)), by (first | omega | (split <;> omega))⟩ (fun wh13 => ?_) (fun wh13 => absurd wh13 (by decide))
      refine aw_b kX7_ok bX7_readsStatement_219_ok (Cs := []) (pc' := 220) (L' := [some (aR 21 0), some (aI (hF E n (i : Int))), some (aI 0)]) (st' := [aI 0]) (σ' := τ1) rfl trivial ?_
      exact aw_zret dX7_readsStatement_220 rfl (by omega) ⟨0, rfl, Or.inl rfl, fun _ => ⟨hPf, by omega⟩, fun z => absurd z (by decide), f1⟩
    · refine aw_b kX7_ok bX7_readsStatement_166_ok (Cs := []) (pc' := 169) (L' := [some (aR 21 0), some (aI (hF E n (i : Int))), none]) (st' := [aI 2, aI 1, aR 21 0]) (σ' := τ1) rfl trivial ?_
      have hr2 := hr.fr f1
      refine aw_callV lX7_113 (as := [aI 1, aI 2]) (rest := []) (t := 21) (c := 0) (by decide) (by decide) (by decide) rfl rfl (Nat.le_of_ble_eq_true rfl) rfl dX7_readsStatement_169 (cM_readsNumber l 1 2 (i + 1 + 1) τ1 b n E hr2 (by decide) (by decide) (by decide) (by omega) (by omega)) ?_
      rintro _ τ2 ⟨m2, hm2, rfl, ha2, hb2, hc2, hd2⟩
      have f2 : rsFr σ τ2 := rsFr_tr f1 (fun t c j h1 h2 => hd2 t c j h1 (fun q => h2 q.1))
      have kb2 := RN_bk hE (due := 2) (by omega) (by decide) hm2 ha2 hb2
      refine aw_ieq dX7_readsStatement_172 (tgt := 179) (by decide) ⟨by omega, by omega⟩ (fun wh14 => ?_) (fun wh14 => ?_)
      · refine aw_b kX7_ok bX7_readsStatement_179_ok (Cs := []) (pc' := 180) (L' := [some (aR 21 0), some (aI (hF E n (i : Int))), none]) (st' := [aI 0]) (σ' := τ2) rfl trivial ?_
        refine aw_b kX7_ok bX7_readsStatement_180_ok (Cs := []) (pc' := 206) (L' := [some (aR 21 0), some (aI (hF E n (i : Int))), some (aI 0)]) (st' := []) (σ' := τ2) rfl trivial ?_
        have kc1 : bkI E n (i + 1) 3 = bkI E n (i + 1 + 1) 2 := by have z := kb1.2.1 (by omega); exact z
        have kf : bkI E n (i + 1 + 1) 2 = ((i + 1 + 1 + m2 : Nat) : Int) := by have z := kb2.1 (by omega); exact z
        have hBf : bkI E n i (-1) = ((i + 1 + 1 + m2 : Nat) : Int) := ((hB1).trans kc1).trans kf
        have hPf : τ2 21 0 5 = bkI E n i (-1) := by omega
        refine aw_b kX7_ok bX7_readsStatement_206_ok (Cs := []) (pc' := 207) (L' := [some (aR 21 0), some (aI (hF E n (i : Int))), some (aI 0)]) (st' := [aI 0]) (σ' := τ2) rfl trivial ?_
        refine aw_ieq dX7_readsStatement_207 (tgt := 219) (by decide) ⟨by (first | omega | (split <;> omega)), by (first | omega | (split <;> omega))⟩ (fun wh15 => ?_) (fun wh15 => absurd wh15 (by decide))
        refine aw_b kX7_ok bX7_readsStatement_219_ok (Cs := []) (pc' := 220) (L' := [some (aR 21 0), some (aI (hF E n (i : Int))), some (aI 0)]) (st' := [aI 0]) (σ' := τ2) rfl trivial ?_
        exact aw_zret dX7_readsStatement_220 rfl (by omega) ⟨0, rfl, Or.inl rfl, fun _ => ⟨hPf, by omega⟩, fun z => absurd z (by decide), f2⟩
      · refine aw_b kX7_ok bX7_readsStatement_175_ok (Cs := []) (pc' := 180) (L' := [some (aR 21 0), some (aI (hF E n (i : Int))), none]) (st' := [aI 1]) (σ' := τ2) rfl trivial ?_
        refine aw_b kX7_ok bX7_readsStatement_180_ok (Cs := []) (pc' := 206) (L' := [some (aR 21 0), some (aI (hF E n (i : Int))), some (aI 1)]) (st' := []) (σ' := τ2) rfl trivial ?_
        have kc1 : bkI E n (i + 1) 3 = bkI E n (i + 1 + 1) 2 := by have z := kb1.2.1 (by omega); exact z
        have kc2 : bkI E n (i + 1 + 1) 2 = bkI E n (i + 1 + 1 + 2) 0 := by have z := kb2.2.1 (by omega); exact z
        have hB2 : bkI E n i (-1) = bkI E n (i + 4) 0 := ((hB1).trans kc1).trans kc2
        have hpl : τ2 21 0 5 = ((i + 4 : Nat) : Int) := by omega
        have hin : ((i + 4 : Nat) : Int) ≤ n := by have z := kb2.2.2; omega
        have rsm := rd_semi hE hin
        refine aw_b kX7_ok bX7_readsStatement_206_ok (Cs := []) (pc' := 207) (L' := [some (aR 21 0), some (aI (hF E n (i : Int))), some (aI 1)]) (st' := [aI 1]) (σ' := τ2) rfl trivial ?_
        refine aw_ieq dX7_readsStatement_207 (tgt := 219) (by decide) ⟨by (first | omega | (split <;> omega)), by (first | omega | (split <;> omega))⟩ (fun wh16 => absurd wh16 (by decide)) (fun wh16 => ?_)
        refine aw_b kX7_ok bX7_readsStatement_210_ok (Cs := []) (pc' := 211) (L' := [some (aR 21 0), some (aI (hF E n (i : Int))), some (aI 1)]) (st' := [aR 21 0]) (σ' := τ2) rfl trivial ?_
        have hrz := hr.fr f2
        have bhz := hF_rng (n := n) (i := ((i + 4 : Nat) : Int)) hE (by omega)
        refine aw_fV lX7_109 (as := []) (rest := []) (t := 21) (c := 0) (by decide) (by decide) (by decide) rfl rfl (Nat.le_of_ble_eq_true rfl) rfl dX7_readsStatement_211 (cM_here l ((i + 4 : Nat) : Int) τ2 b n E hrz hpl (by omega) (by omega)) ?_
        refine aw_b kX7_ok bX7_readsStatement_214_ok (Cs := []) (pc' := 216) (L' := [some (aR 21 0), some (aI (hF E n (i : Int))), some (aI 1)]) (st' := [aI 59, aI (hF E n ((i + 4 : Nat) : Int))]) (σ' := τ2) rfl trivial ?_
        refine aw_ceq dX7_readsStatement_216 (tgt := 221) (by decide) ⟨by omega, by omega⟩ ⟨by omega, by omega⟩ (fun wh17 => ?_) (fun wh17 => ?_)
        · have hB3 := (rsm.2 (by omega))
          have hPn : ((i + (3 : Int).toNat + 2 : Nat) : Int) ≤ n := by have z := hB3.1; show ((i + 3 + 2 : Nat) : Int) ≤ n; omega
          have hPp : τ2 21 0 5 + 1 = ((i + (3 : Int).toNat + 2 : Nat) : Int) := by show _ = ((i + 3 + 2 : Nat) : Int); omega
          have hPb : bkI E n i (-1) = bkI E n (i + (3 : Int).toNat + 2) (-1) := hB2.trans hB3.2
          have dd10 := hb1 0 (by omega)
          have de10 := hF_at hE (i := ((((i + 1) + 0 : Nat)) : Int)) (by omega) (by omega)
          have nv1 : τ1 23 0 0 = E ((i : Int) + 1) - 48 := by have z := hc1.2; rw [show m1 = 1 by omega] at z; rw [z]; show 10 * 0 + E (((i + 1 : Nat) : Int) + ((0 : Nat) : Int)) - 48 = _; rw [show (((i + 1 : Nat) : Int) + ((0 : Nat) : Int)) = (i : Int) + 1 by omega]; omega
          have nv1 : τ2 23 0 0 = _ := (hd2 23 0 0 (by decide) (by decide)).trans nv1
          have nw1 : (aUp τ2 21 0 5 (τ2 21 0 5 + 1)) 23 0 0 = _ := (aUp_tag (by decide)).trans nv1
          have dd20 := hb2 0 (by omega)
          have de20 := hF_at hE (i := ((((i + 1 + 1) + 0 : Nat)) : Int)) (by omega) (by omega)
          have dd21 := hb2 1 (by omega)
          have de21 := hF_at hE (i := ((((i + 1 + 1) + 1 : Nat)) : Int)) (by omega) (by omega)
          have nv2 : τ2 23 0 1 = 10 * (E ((i : Int) + 2) - 48) + (E ((i : Int) + 3) - 48) := by have z := hc2.2; rw [show m2 = 2 by omega] at z; rw [z]; show 10 * (10 * 0 + E (((i + 1 + 1 : Nat) : Int) + ((0 : Nat) : Int)) - 48) + E (((i + 1 + 1 : Nat) : Int) + ((1 : Nat) : Int)) - 48 = _; rw [show (((i + 1 + 1 : Nat) : Int) + ((0 : Nat) : Int)) = (i : Int) + 2 by omega, show (((i + 1 + 1 : Nat) : Int) + ((1 : Nat) : Int)) = (i : Int) + 3 by omega]; omega
          have nw2 : (aUp τ2 21 0 5 (τ2 21 0 5 + 1)) 23 0 1 = _ := (aUp_tag (by decide)).trans nv2
          have hNum : NUM (aUp τ2 21 0 5 (τ2 21 0 5 + 1)) (E (i : Int)) (E ((i : Int) + 1) - 48) (E ((i : Int) + 2) - 48) (E ((i : Int) + 3) - 48) := ⟨fun z => by omega, fun z => by omega, fun z => by omega, fun _ => ⟨nw1, nw2⟩, fun z => by omega⟩
          refine aw_b kX7_ok bX7_readsStatement_221_ok (Cs := [0 < 1, 0 < 1]) (pc' := 232) (L' := [some (aR 21 0), some (aI (hF E n (i : Int))), some (aI 1)]) (st' := [aI 1]) (σ' := aUp τ2 21 0 5 ((τ2 21 0 5) + 1)) rfl (show (0 < 1) ∧ (0 < 1) from ⟨by omega, by omega⟩) ?_
          exact aw_zret dX7_readsStatement_232 rfl (by omega) ⟨1, rfl, Or.inr rfl, fun z => absurd z (by decide), fun _ => ⟨by rw [edg]; decide, by rw [edg]; exact hPn, by rw [aUp_same, edg]; exact hPp, by rw [edg]; exact hPb, hNum⟩, rsFr_tr f2 rs_up⟩
        · have hBf : bkI E n i (-1) = ((i + 4 : Nat) : Int) := hB2.trans (rsm.1 (by omega))
          have hPf : τ2 21 0 5 = bkI E n i (-1) := by omega
          refine aw_b kX7_ok bX7_readsStatement_219_ok (Cs := []) (pc' := 220) (L' := [some (aR 21 0), some (aI (hF E n (i : Int))), some (aI 1)]) (st' := [aI 0]) (σ' := τ2) rfl trivial ?_
          exact aw_zret dX7_readsStatement_220 rfl (by omega) ⟨0, rfl, Or.inl rfl, fun _ => ⟨hPf, by omega⟩, fun z => absurd z (by decide), f2⟩
  · refine aw_tsw dX7_readsStatement_16 (tgt := 194) ⟨by omega, by omega⟩ (by decide) (by rw [wh1]; decide) ?_
    have hdz : dgF (hF E n (i : Int)) = 0 := by rw [show hF E n (i : Int) = 108 by omega]; decide
    refine aw_b kX7_ok bX7_readsStatement_194_ok (Cs := [0 < 1, 0 < 1]) (pc' := 205) (L' := [some (aR 21 0), some (aI (hF E n (i : Int))), none]) (st' := [aI 0]) (σ' := aUp (aUp σ 21 0 5 ((σ 21 0 5) + 1)) 21 0 5 (((aUp σ 21 0 5 ((σ 21 0 5) + 1)) 21 0 5) - 1)) rfl (show (0 < 1) ∧ (0 < 1) from ⟨by omega, by omega⟩) ?_
    exact aw_zret dX7_readsStatement_205 rfl (by omega) ⟨0, rfl, Or.inl rfl, fun _ => ⟨by rw [aUp_same, aUp_same, hp]; have z := rlet.1 hdz; unfold bkI; omega, by have z := rlet.1 hdz; unfold bkI; omega⟩, fun z => absurd z (by decide), rsFr_tr rs_up rs_up⟩
  · refine aw_tsw dX7_readsStatement_16 (tgt := 194) ⟨by omega, by omega⟩ (by decide) (by rw [wh1]; decide) ?_
    have hdz : dgF (hF E n (i : Int)) = 0 := by rw [show hF E n (i : Int) = 109 by omega]; decide
    refine aw_b kX7_ok bX7_readsStatement_194_ok (Cs := [0 < 1, 0 < 1]) (pc' := 205) (L' := [some (aR 21 0), some (aI (hF E n (i : Int))), none]) (st' := [aI 0]) (σ' := aUp (aUp σ 21 0 5 ((σ 21 0 5) + 1)) 21 0 5 (((aUp σ 21 0 5 ((σ 21 0 5) + 1)) 21 0 5) - 1)) rfl (show (0 < 1) ∧ (0 < 1) from ⟨by omega, by omega⟩) ?_
    exact aw_zret dX7_readsStatement_205 rfl (by omega) ⟨0, rfl, Or.inl rfl, fun _ => ⟨by rw [aUp_same, aUp_same, hp]; have z := rlet.1 hdz; unfold bkI; omega, by have z := rlet.1 hdz; unfold bkI; omega⟩, fun z => absurd z (by decide), rsFr_tr rs_up rs_up⟩
  · refine aw_tsw dX7_readsStatement_16 (tgt := 194) ⟨by omega, by omega⟩ (by decide) (by rw [wh1]; decide) ?_
    have hdz : dgF (hF E n (i : Int)) = 0 := by rw [show hF E n (i : Int) = 110 by omega]; decide
    refine aw_b kX7_ok bX7_readsStatement_194_ok (Cs := [0 < 1, 0 < 1]) (pc' := 205) (L' := [some (aR 21 0), some (aI (hF E n (i : Int))), none]) (st' := [aI 0]) (σ' := aUp (aUp σ 21 0 5 ((σ 21 0 5) + 1)) 21 0 5 (((aUp σ 21 0 5 ((σ 21 0 5) + 1)) 21 0 5) - 1)) rfl (show (0 < 1) ∧ (0 < 1) from ⟨by omega, by omega⟩) ?_
    exact aw_zret dX7_readsStatement_205 rfl (by omega) ⟨0, rfl, Or.inl rfl, fun _ => ⟨by rw [aUp_same, aUp_same, hp]; have z := rlet.1 hdz; unfold bkI; omega, by have z := rlet.1 hdz; unfold bkI; omega⟩, fun z => absurd z (by decide), rsFr_tr rs_up rs_up⟩
  · refine aw_tsw dX7_readsStatement_16 (tgt := 120) ⟨by omega, by omega⟩ (by decide) (by rw [wh1]; decide) ?_
    have hlt : (i : Int) < n ∧ hF E n (i : Int) = E (i : Int) := (rlet.2 (by first | (rw [show hF E n (i : Int) = 111 by omega]; decide))).1
    have ex : E (i : Int) = 111 := by omega
    have hB1 : bkI E n i (-1) = bkI E n (i + 1) 2 := by
      have z := (rlet.2 (by rw [show hF E n (i : Int) = 111 by omega]; decide)).2
      rw [ex] at z
      exact z
    have edg : dgF (E (i : Int)) = 2 := by rw [ex]; decide
    refine aw_b kX7_ok bX7_readsStatement_120_ok (Cs := []) (pc' := 123) (L' := [some (aR 21 0), some (aI (hF E n (i : Int))), none]) (st' := [aI 1, aI 0, aR 21 0]) (σ' := aUp σ 21 0 5 ((σ 21 0 5) + 1)) rfl trivial ?_
    obtain ⟨τ0, e0⟩ : ∃ τ0, τ0 = aUp σ 21 0 5 ((σ 21 0 5) + 1) := ⟨_, rfl⟩
    refine aw_eq rfl rfl (σ' := τ0) e0.symm ?_
    have f0 : rsFr σ τ0 := by rw [e0]; exact rs_up
    have p0 : τ0 21 0 5 = ((i + 1 : Nat) : Int) := by rw [e0, aUp_same, hp]; rfl
    have hr1 := hr.fr f0
    refine aw_callV lX7_113 (as := [aI 0, aI 1]) (rest := []) (t := 21) (c := 0) (by decide) (by decide) (by decide) rfl rfl (Nat.le_of_ble_eq_true rfl) rfl dX7_readsStatement_123 (cM_readsNumber l 0 1 (i + 1) τ0 b n E hr1 (by decide) (by decide) (by decide) (by omega) (by omega)) ?_
    rintro _ τ1 ⟨m1, hm1, rfl, ha1, hb1, hc1, hd1⟩
    have f1 : rsFr σ τ1 := rsFr_tr f0 (fun t c j h1 h2 => hd1 t c j h1 (fun q => h2 q.1))
    have kb1 := RN_bk hE (due := 2) (by omega) (by decide) hm1 ha1 hb1
    refine aw_ieq dX7_readsStatement_126 (tgt := 142) (by decide) ⟨by omega, by omega⟩ (fun wh18 => ?_) (fun wh18 => ?_)
    · refine aw_b kX7_ok bX7_readsStatement_142_ok (Cs := []) (pc' := 143) (L' := [some (aR 21 0), some (aI (hF E n (i : Int))), none]) (st' := [aI 0]) (σ' := τ1) rfl trivial ?_
      refine aw_b kX7_ok bX7_readsStatement_143_ok (Cs := []) (pc' := 206) (L' := [some (aR 21 0), some (aI (hF E n (i : Int))), some (aI 0)]) (st' := []) (σ' := τ1) rfl trivial ?_
      have kf : bkI E n (i + 1) 2 = ((i + 1 + m1 : Nat) : Int) := by have z := kb1.1 (by omega); exact z
      have hBf : bkI E n i (-1) = ((i + 1 + m1 : Nat) : Int) := (hB1).trans kf
      have hPf : τ1 21 0 5 = bkI E n i (-1) := by omega
      refine aw_b kX7_ok bX7_readsStatement_206_ok (Cs := []) (pc' := 207) (L' := [some (aR 21 0), some (aI (hF E n (i : Int))), some (aI 0)]) (st' := [aI 0]) (σ' := τ1) rfl trivial ?_
      refine aw_ieq dX7_readsStatement_207 (tgt := 219) (by decide) ⟨by (first | omega | (split <;> omega)), by (first | omega | (split <;> omega))⟩ (fun wh19 => ?_) (fun wh19 => absurd wh19 (by decide))
      refine aw_b kX7_ok bX7_readsStatement_219_ok (Cs := []) (pc' := 220) (L' := [some (aR 21 0), some (aI (hF E n (i : Int))), some (aI 0)]) (st' := [aI 0]) (σ' := τ1) rfl trivial ?_
      exact aw_zret dX7_readsStatement_220 rfl (by omega) ⟨0, rfl, Or.inl rfl, fun _ => ⟨hPf, by omega⟩, fun z => absurd z (by decide), f1⟩
    · refine aw_b kX7_ok bX7_readsStatement_129_ok (Cs := []) (pc' := 132) (L' := [some (aR 21 0), some (aI (hF E n (i : Int))), none]) (st' := [aI 1, aI 1, aR 21 0]) (σ' := τ1) rfl trivial ?_
      have hr2 := hr.fr f1
      refine aw_callV lX7_113 (as := [aI 1, aI 1]) (rest := []) (t := 21) (c := 0) (by decide) (by decide) (by decide) rfl rfl (Nat.le_of_ble_eq_true rfl) rfl dX7_readsStatement_132 (cM_readsNumber l 1 1 (i + 1 + 1) τ1 b n E hr2 (by decide) (by decide) (by decide) (by omega) (by omega)) ?_
      rintro _ τ2 ⟨m2, hm2, rfl, ha2, hb2, hc2, hd2⟩
      have f2 : rsFr σ τ2 := rsFr_tr f1 (fun t c j h1 h2 => hd2 t c j h1 (fun q => h2 q.1))
      have kb2 := RN_bk hE (due := 1) (by omega) (by decide) hm2 ha2 hb2
      refine aw_ieq dX7_readsStatement_135 (tgt := 142) (by decide) ⟨by omega, by omega⟩ (fun wh20 => ?_) (fun wh20 => ?_)
      · refine aw_b kX7_ok bX7_readsStatement_142_ok (Cs := []) (pc' := 143) (L' := [some (aR 21 0), some (aI (hF E n (i : Int))), none]) (st' := [aI 0]) (σ' := τ2) rfl trivial ?_
        refine aw_b kX7_ok bX7_readsStatement_143_ok (Cs := []) (pc' := 206) (L' := [some (aR 21 0), some (aI (hF E n (i : Int))), some (aI 0)]) (st' := []) (σ' := τ2) rfl trivial ?_
        have kc1 : bkI E n (i + 1) 2 = bkI E n (i + 1 + 1) 1 := by have z := kb1.2.1 (by omega); exact z
        have kf : bkI E n (i + 1 + 1) 1 = ((i + 1 + 1 + m2 : Nat) : Int) := by have z := kb2.1 (by omega); exact z
        have hBf : bkI E n i (-1) = ((i + 1 + 1 + m2 : Nat) : Int) := ((hB1).trans kc1).trans kf
        have hPf : τ2 21 0 5 = bkI E n i (-1) := by omega
        refine aw_b kX7_ok bX7_readsStatement_206_ok (Cs := []) (pc' := 207) (L' := [some (aR 21 0), some (aI (hF E n (i : Int))), some (aI 0)]) (st' := [aI 0]) (σ' := τ2) rfl trivial ?_
        refine aw_ieq dX7_readsStatement_207 (tgt := 219) (by decide) ⟨by (first | omega | (split <;> omega)), by (first | omega | (split <;> omega))⟩ (fun wh21 => ?_) (fun wh21 => absurd wh21 (by decide))
        refine aw_b kX7_ok bX7_readsStatement_219_ok (Cs := []) (pc' := 220) (L' := [some (aR 21 0), some (aI (hF E n (i : Int))), some (aI 0)]) (st' := [aI 0]) (σ' := τ2) rfl trivial ?_
        exact aw_zret dX7_readsStatement_220 rfl (by omega) ⟨0, rfl, Or.inl rfl, fun _ => ⟨hPf, by omega⟩, fun z => absurd z (by decide), f2⟩
      · refine aw_b kX7_ok bX7_readsStatement_138_ok (Cs := []) (pc' := 143) (L' := [some (aR 21 0), some (aI (hF E n (i : Int))), none]) (st' := [aI 1]) (σ' := τ2) rfl trivial ?_
        refine aw_b kX7_ok bX7_readsStatement_143_ok (Cs := []) (pc' := 206) (L' := [some (aR 21 0), some (aI (hF E n (i : Int))), some (aI 1)]) (st' := []) (σ' := τ2) rfl trivial ?_
        have kc1 : bkI E n (i + 1) 2 = bkI E n (i + 1 + 1) 1 := by have z := kb1.2.1 (by omega); exact z
        have kc2 : bkI E n (i + 1 + 1) 1 = bkI E n (i + 1 + 1 + 1) 0 := by have z := kb2.2.1 (by omega); exact z
        have hB2 : bkI E n i (-1) = bkI E n (i + 3) 0 := ((hB1).trans kc1).trans kc2
        have hpl : τ2 21 0 5 = ((i + 3 : Nat) : Int) := by omega
        have hin : ((i + 3 : Nat) : Int) ≤ n := by have z := kb2.2.2; omega
        have rsm := rd_semi hE hin
        refine aw_b kX7_ok bX7_readsStatement_206_ok (Cs := []) (pc' := 207) (L' := [some (aR 21 0), some (aI (hF E n (i : Int))), some (aI 1)]) (st' := [aI 1]) (σ' := τ2) rfl trivial ?_
        refine aw_ieq dX7_readsStatement_207 (tgt := 219) (by decide) ⟨by (first | omega | (split <;> omega)), by (first | omega | (split <;> omega))⟩ (fun wh22 => absurd wh22 (by decide)) (fun wh22 => ?_)
        refine aw_b kX7_ok bX7_readsStatement_210_ok (Cs := []) (pc' := 211) (L' := [some (aR 21 0), some (aI (hF E n (i : Int))), some (aI 1)]) (st' := [aR 21 0]) (σ' := τ2) rfl trivial ?_
        have hrz := hr.fr f2
        have bhz := hF_rng (n := n) (i := ((i + 3 : Nat) : Int)) hE (by omega)
        refine aw_fV lX7_109 (as := []) (rest := []) (t := 21) (c := 0) (by decide) (by decide) (by decide) rfl rfl (Nat.le_of_ble_eq_true rfl) rfl dX7_readsStatement_211 (cM_here l ((i + 3 : Nat) : Int) τ2 b n E hrz hpl (by omega) (by omega)) ?_
        refine aw_b kX7_ok bX7_readsStatement_214_ok (Cs := []) (pc' := 216) (L' := [some (aR 21 0), some (aI (hF E n (i : Int))), some (aI 1)]) (st' := [aI 59, aI (hF E n ((i + 3 : Nat) : Int))]) (σ' := τ2) rfl trivial ?_
        refine aw_ceq dX7_readsStatement_216 (tgt := 221) (by decide) ⟨by omega, by omega⟩ ⟨by omega, by omega⟩ (fun wh23 => ?_) (fun wh23 => ?_)
        · have hB3 := (rsm.2 (by omega))
          have hPn : ((i + (2 : Int).toNat + 2 : Nat) : Int) ≤ n := by have z := hB3.1; show ((i + 2 + 2 : Nat) : Int) ≤ n; omega
          have hPp : τ2 21 0 5 + 1 = ((i + (2 : Int).toNat + 2 : Nat) : Int) := by show _ = ((i + 2 + 2 : Nat) : Int); omega
          have hPb : bkI E n i (-1) = bkI E n (i + (2 : Int).toNat + 2) (-1) := hB2.trans hB3.2
          have dd10 := hb1 0 (by omega)
          have de10 := hF_at hE (i := ((((i + 1) + 0 : Nat)) : Int)) (by omega) (by omega)
          have nv1 : τ1 23 0 0 = E ((i : Int) + 1) - 48 := by have z := hc1.2; rw [show m1 = 1 by omega] at z; rw [z]; show 10 * 0 + E (((i + 1 : Nat) : Int) + ((0 : Nat) : Int)) - 48 = _; rw [show (((i + 1 : Nat) : Int) + ((0 : Nat) : Int)) = (i : Int) + 1 by omega]; omega
          have nv1 : τ2 23 0 0 = _ := (hd2 23 0 0 (by decide) (by decide)).trans nv1
          have nw1 : (aUp τ2 21 0 5 (τ2 21 0 5 + 1)) 23 0 0 = _ := (aUp_tag (by decide)).trans nv1
          have dd20 := hb2 0 (by omega)
          have de20 := hF_at hE (i := ((((i + 1 + 1) + 0 : Nat)) : Int)) (by omega) (by omega)
          have nv2 : τ2 23 0 1 = E ((i : Int) + 2) - 48 := by have z := hc2.2; rw [show m2 = 1 by omega] at z; rw [z]; show 10 * 0 + E (((i + 1 + 1 : Nat) : Int) + ((0 : Nat) : Int)) - 48 = _; rw [show (((i + 1 + 1 : Nat) : Int) + ((0 : Nat) : Int)) = (i : Int) + 2 by omega]; omega
          have nw2 : (aUp τ2 21 0 5 (τ2 21 0 5 + 1)) 23 0 1 = _ := (aUp_tag (by decide)).trans nv2
          have hNum : NUM (aUp τ2 21 0 5 (τ2 21 0 5 + 1)) (E (i : Int)) (E ((i : Int) + 1) - 48) (E ((i : Int) + 2) - 48) (E ((i : Int) + 3) - 48) := ⟨fun z => by omega, fun _ => ⟨nw1, nw2⟩, fun z => by omega, fun z => by omega, fun z => by omega⟩
          refine aw_b kX7_ok bX7_readsStatement_221_ok (Cs := [0 < 1, 0 < 1]) (pc' := 232) (L' := [some (aR 21 0), some (aI (hF E n (i : Int))), some (aI 1)]) (st' := [aI 1]) (σ' := aUp τ2 21 0 5 ((τ2 21 0 5) + 1)) rfl (show (0 < 1) ∧ (0 < 1) from ⟨by omega, by omega⟩) ?_
          exact aw_zret dX7_readsStatement_232 rfl (by omega) ⟨1, rfl, Or.inr rfl, fun z => absurd z (by decide), fun _ => ⟨by rw [edg]; decide, by rw [edg]; exact hPn, by rw [aUp_same, edg]; exact hPp, by rw [edg]; exact hPb, hNum⟩, rsFr_tr f2 rs_up⟩
        · have hBf : bkI E n i (-1) = ((i + 3 : Nat) : Int) := hB2.trans (rsm.1 (by omega))
          have hPf : τ2 21 0 5 = bkI E n i (-1) := by omega
          refine aw_b kX7_ok bX7_readsStatement_219_ok (Cs := []) (pc' := 220) (L' := [some (aR 21 0), some (aI (hF E n (i : Int))), some (aI 1)]) (st' := [aI 0]) (σ' := τ2) rfl trivial ?_
          exact aw_zret dX7_readsStatement_220 rfl (by omega) ⟨0, rfl, Or.inl rfl, fun _ => ⟨hPf, by omega⟩, fun z => absurd z (by decide), f2⟩
  · refine aw_tsw dX7_readsStatement_16 (tgt := 84) ⟨by omega, by omega⟩ (by decide) (by rw [wh1]; decide) ?_
    have hlt : (i : Int) < n ∧ hF E n (i : Int) = E (i : Int) := (rlet.2 (by first | (rw [show hF E n (i : Int) = 112 by omega]; decide))).1
    have ex : E (i : Int) = 112 := by omega
    have hB1 : bkI E n i (-1) = bkI E n (i + 1) 3 := by
      have z := (rlet.2 (by rw [show hF E n (i : Int) = 112 by omega]; decide)).2
      rw [ex] at z
      exact z
    have edg : dgF (E (i : Int)) = 3 := by rw [ex]; decide
    refine aw_b kX7_ok bX7_readsStatement_84_ok (Cs := []) (pc' := 87) (L' := [some (aR 21 0), some (aI (hF E n (i : Int))), none]) (st' := [aI 1, aI 0, aR 21 0]) (σ' := aUp σ 21 0 5 ((σ 21 0 5) + 1)) rfl trivial ?_
    obtain ⟨τ0, e0⟩ : ∃ τ0, τ0 = aUp σ 21 0 5 ((σ 21 0 5) + 1) := ⟨_, rfl⟩
    refine aw_eq rfl rfl (σ' := τ0) e0.symm ?_
    have f0 : rsFr σ τ0 := by rw [e0]; exact rs_up
    have p0 : τ0 21 0 5 = ((i + 1 : Nat) : Int) := by rw [e0, aUp_same, hp]; rfl
    have hr1 := hr.fr f0
    refine aw_callV lX7_113 (as := [aI 0, aI 1]) (rest := []) (t := 21) (c := 0) (by decide) (by decide) (by decide) rfl rfl (Nat.le_of_ble_eq_true rfl) rfl dX7_readsStatement_87 (cM_readsNumber l 0 1 (i + 1) τ0 b n E hr1 (by decide) (by decide) (by decide) (by omega) (by omega)) ?_
    rintro _ τ1 ⟨m1, hm1, rfl, ha1, hb1, hc1, hd1⟩
    have f1 : rsFr σ τ1 := rsFr_tr f0 (fun t c j h1 h2 => hd1 t c j h1 (fun q => h2 q.1))
    have kb1 := RN_bk hE (due := 3) (by omega) (by decide) hm1 ha1 hb1
    refine aw_ieq dX7_readsStatement_90 (tgt := 115) (by decide) ⟨by (first | omega | (split <;> omega)), by (first | omega | (split <;> omega))⟩ (fun wh24 => ?_) (fun wh24 => ?_)
    · refine aw_b kX7_ok bX7_readsStatement_115_ok (Cs := []) (pc' := 116) (L' := [some (aR 21 0), some (aI (hF E n (i : Int))), none]) (st' := [aI 0]) (σ' := τ1) rfl trivial ?_
      refine aw_b kX7_ok bX7_readsStatement_116_ok (Cs := []) (pc' := 206) (L' := [some (aR 21 0), some (aI (hF E n (i : Int))), some (aI 0)]) (st' := []) (σ' := τ1) rfl trivial ?_
      have kf : bkI E n (i + 1) 3 = ((i + 1 + m1 : Nat) : Int) := by have z := kb1.1 (by omega); exact z
      have hBf : bkI E n i (-1) = ((i + 1 + m1 : Nat) : Int) := (hB1).trans kf
      have hPf : τ1 21 0 5 = bkI E n i (-1) := by omega
      refine aw_b kX7_ok bX7_readsStatement_206_ok (Cs := []) (pc' := 207) (L' := [some (aR 21 0), some (aI (hF E n (i : Int))), some (aI 0)]) (st' := [aI 0]) (σ' := τ1) rfl trivial ?_
      refine aw_ieq dX7_readsStatement_207 (tgt := 219) (by decide) ⟨by (first | omega | (split <;> omega)), by (first | omega | (split <;> omega))⟩ (fun wh25 => ?_) (fun wh25 => absurd wh25 (by decide))
      refine aw_b kX7_ok bX7_readsStatement_219_ok (Cs := []) (pc' := 220) (L' := [some (aR 21 0), some (aI (hF E n (i : Int))), some (aI 0)]) (st' := [aI 0]) (σ' := τ1) rfl trivial ?_
      exact aw_zret dX7_readsStatement_220 rfl (by omega) ⟨0, rfl, Or.inl rfl, fun _ => ⟨hPf, by omega⟩, fun z => absurd z (by decide), f1⟩
    · refine aw_b kX7_ok bX7_readsStatement_93_ok (Cs := []) (pc' := 96) (L' := [some (aR 21 0), some (aI (hF E n (i : Int))), none]) (st' := [aI 1, aI 1, aR 21 0]) (σ' := τ1) rfl trivial ?_
      have hr2 := hr.fr f1
      refine aw_callV lX7_113 (as := [aI 1, aI 1]) (rest := []) (t := 21) (c := 0) (by decide) (by decide) (by decide) rfl rfl (Nat.le_of_ble_eq_true rfl) rfl dX7_readsStatement_96 (cM_readsNumber l 1 1 (i + 1 + 1) τ1 b n E hr2 (by decide) (by decide) (by decide) (by omega) (by omega)) ?_
      rintro _ τ2 ⟨m2, hm2, rfl, ha2, hb2, hc2, hd2⟩
      have f2 : rsFr σ τ2 := rsFr_tr f1 (fun t c j h1 h2 => hd2 t c j h1 (fun q => h2 q.1))
      have kb2 := RN_bk hE (due := 2) (by omega) (by decide) hm2 ha2 hb2
      refine aw_ieq dX7_readsStatement_99 (tgt := 115) (by decide) ⟨by omega, by omega⟩ (fun wh26 => ?_) (fun wh26 => ?_)
      · refine aw_b kX7_ok bX7_readsStatement_115_ok (Cs := []) (pc' := 116) (L' := [some (aR 21 0), some (aI (hF E n (i : Int))), none]) (st' := [aI 0]) (σ' := τ2) rfl trivial ?_
        refine aw_b kX7_ok bX7_readsStatement_116_ok (Cs := []) (pc' := 206) (L' := [some (aR 21 0), some (aI (hF E n (i : Int))), some (aI 0)]) (st' := []) (σ' := τ2) rfl trivial ?_
        have kc1 : bkI E n (i + 1) 3 = bkI E n (i + 1 + 1) 2 := by have z := kb1.2.1 (by omega); exact z
        have kf : bkI E n (i + 1 + 1) 2 = ((i + 1 + 1 + m2 : Nat) : Int) := by have z := kb2.1 (by omega); exact z
        have hBf : bkI E n i (-1) = ((i + 1 + 1 + m2 : Nat) : Int) := ((hB1).trans kc1).trans kf
        have hPf : τ2 21 0 5 = bkI E n i (-1) := by omega
        refine aw_b kX7_ok bX7_readsStatement_206_ok (Cs := []) (pc' := 207) (L' := [some (aR 21 0), some (aI (hF E n (i : Int))), some (aI 0)]) (st' := [aI 0]) (σ' := τ2) rfl trivial ?_
        refine aw_ieq dX7_readsStatement_207 (tgt := 219) (by decide) ⟨by (first | omega | (split <;> omega)), by (first | omega | (split <;> omega))⟩ (fun wh27 => ?_) (fun wh27 => absurd wh27 (by decide))
        refine aw_b kX7_ok bX7_readsStatement_219_ok (Cs := []) (pc' := 220) (L' := [some (aR 21 0), some (aI (hF E n (i : Int))), some (aI 0)]) (st' := [aI 0]) (σ' := τ2) rfl trivial ?_
        exact aw_zret dX7_readsStatement_220 rfl (by omega) ⟨0, rfl, Or.inl rfl, fun _ => ⟨hPf, by omega⟩, fun z => absurd z (by decide), f2⟩
      · refine aw_b kX7_ok bX7_readsStatement_102_ok (Cs := []) (pc' := 105) (L' := [some (aR 21 0), some (aI (hF E n (i : Int))), none]) (st' := [aI 1, aI 2, aR 21 0]) (σ' := τ2) rfl trivial ?_
        have hr3 := hr.fr f2
        refine aw_callV lX7_113 (as := [aI 2, aI 1]) (rest := []) (t := 21) (c := 0) (by decide) (by decide) (by decide) rfl rfl (Nat.le_of_ble_eq_true rfl) rfl dX7_readsStatement_105 (cM_readsNumber l 2 1 (i + 1 + 1 + 1) τ2 b n E hr3 (by decide) (by decide) (by decide) (by omega) (by omega)) ?_
        rintro _ τ3 ⟨m3, hm3, rfl, ha3, hb3, hc3, hd3⟩
        have f3 : rsFr σ τ3 := rsFr_tr f2 (fun t c j h1 h2 => hd3 t c j h1 (fun q => h2 q.1))
        have kb3 := RN_bk hE (due := 1) (by omega) (by decide) hm3 ha3 hb3
        refine aw_ieq dX7_readsStatement_108 (tgt := 115) (by decide) ⟨by omega, by omega⟩ (fun wh28 => ?_) (fun wh28 => ?_)
        · refine aw_b kX7_ok bX7_readsStatement_115_ok (Cs := []) (pc' := 116) (L' := [some (aR 21 0), some (aI (hF E n (i : Int))), none]) (st' := [aI 0]) (σ' := τ3) rfl trivial ?_
          refine aw_b kX7_ok bX7_readsStatement_116_ok (Cs := []) (pc' := 206) (L' := [some (aR 21 0), some (aI (hF E n (i : Int))), some (aI 0)]) (st' := []) (σ' := τ3) rfl trivial ?_
          have kc1 : bkI E n (i + 1) 3 = bkI E n (i + 1 + 1) 2 := by have z := kb1.2.1 (by omega); exact z
          have kc2 : bkI E n (i + 1 + 1) 2 = bkI E n (i + 1 + 1 + 1) 1 := by have z := kb2.2.1 (by omega); exact z
          have kf : bkI E n (i + 1 + 1 + 1) 1 = ((i + 1 + 1 + 1 + m3 : Nat) : Int) := by have z := kb3.1 (by omega); exact z
          have hBf : bkI E n i (-1) = ((i + 1 + 1 + 1 + m3 : Nat) : Int) := (((hB1).trans kc1).trans kc2).trans kf
          have hPf : τ3 21 0 5 = bkI E n i (-1) := by omega
          refine aw_b kX7_ok bX7_readsStatement_206_ok (Cs := []) (pc' := 207) (L' := [some (aR 21 0), some (aI (hF E n (i : Int))), some (aI 0)]) (st' := [aI 0]) (σ' := τ3) rfl trivial ?_
          refine aw_ieq dX7_readsStatement_207 (tgt := 219) (by decide) ⟨by (first | omega | (split <;> omega)), by (first | omega | (split <;> omega))⟩ (fun wh29 => ?_) (fun wh29 => absurd wh29 (by decide))
          refine aw_b kX7_ok bX7_readsStatement_219_ok (Cs := []) (pc' := 220) (L' := [some (aR 21 0), some (aI (hF E n (i : Int))), some (aI 0)]) (st' := [aI 0]) (σ' := τ3) rfl trivial ?_
          exact aw_zret dX7_readsStatement_220 rfl (by omega) ⟨0, rfl, Or.inl rfl, fun _ => ⟨hPf, by omega⟩, fun z => absurd z (by decide), f3⟩
        · refine aw_b kX7_ok bX7_readsStatement_111_ok (Cs := []) (pc' := 116) (L' := [some (aR 21 0), some (aI (hF E n (i : Int))), none]) (st' := [aI 1]) (σ' := τ3) rfl trivial ?_
          refine aw_b kX7_ok bX7_readsStatement_116_ok (Cs := []) (pc' := 206) (L' := [some (aR 21 0), some (aI (hF E n (i : Int))), some (aI 1)]) (st' := []) (σ' := τ3) rfl trivial ?_
          have kc1 : bkI E n (i + 1) 3 = bkI E n (i + 1 + 1) 2 := by have z := kb1.2.1 (by omega); exact z
          have kc2 : bkI E n (i + 1 + 1) 2 = bkI E n (i + 1 + 1 + 1) 1 := by have z := kb2.2.1 (by omega); exact z
          have kc3 : bkI E n (i + 1 + 1 + 1) 1 = bkI E n (i + 1 + 1 + 1 + 1) 0 := by have z := kb3.2.1 (by omega); exact z
          have hB2 : bkI E n i (-1) = bkI E n (i + 4) 0 := (((hB1).trans kc1).trans kc2).trans kc3
          have hpl : τ3 21 0 5 = ((i + 4 : Nat) : Int) := by omega
          have hin : ((i + 4 : Nat) : Int) ≤ n := by have z := kb3.2.2; omega
          have rsm := rd_semi hE hin
          refine aw_b kX7_ok bX7_readsStatement_206_ok (Cs := []) (pc' := 207) (L' := [some (aR 21 0), some (aI (hF E n (i : Int))), some (aI 1)]) (st' := [aI 1]) (σ' := τ3) rfl trivial ?_
          refine aw_ieq dX7_readsStatement_207 (tgt := 219) (by decide) ⟨by (first | omega | (split <;> omega)), by (first | omega | (split <;> omega))⟩ (fun wh30 => absurd wh30 (by decide)) (fun wh30 => ?_)
          refine aw_b kX7_ok bX7_readsStatement_210_ok (Cs := []) (pc' := 211) (L' := [some (aR 21 0), some (aI (hF E n (i : Int))), some (aI 1)]) (st' := [aR 21 0]) (σ' := τ3) rfl trivial ?_
          have hrz := hr.fr f3
          have bhz := hF_rng (n := n) (i := ((i + 4 : Nat) : Int)) hE (by omega)
          refine aw_fV lX7_109 (as := []) (rest := []) (t := 21) (c := 0) (by decide) (by decide) (by decide) rfl rfl (Nat.le_of_ble_eq_true rfl) rfl dX7_readsStatement_211 (cM_here l ((i + 4 : Nat) : Int) τ3 b n E hrz hpl (by omega) (by omega)) ?_
          refine aw_b kX7_ok bX7_readsStatement_214_ok (Cs := []) (pc' := 216) (L' := [some (aR 21 0), some (aI (hF E n (i : Int))), some (aI 1)]) (st' := [aI 59, aI (hF E n ((i + 4 : Nat) : Int))]) (σ' := τ3) rfl trivial ?_
          refine aw_ceq dX7_readsStatement_216 (tgt := 221) (by decide) ⟨by omega, by omega⟩ ⟨by omega, by omega⟩ (fun wh31 => ?_) (fun wh31 => ?_)
          · have hB3 := (rsm.2 (by omega))
            have hPn : ((i + (3 : Int).toNat + 2 : Nat) : Int) ≤ n := by have z := hB3.1; show ((i + 3 + 2 : Nat) : Int) ≤ n; omega
            have hPp : τ3 21 0 5 + 1 = ((i + (3 : Int).toNat + 2 : Nat) : Int) := by show _ = ((i + 3 + 2 : Nat) : Int); omega
            have hPb : bkI E n i (-1) = bkI E n (i + (3 : Int).toNat + 2) (-1) := hB2.trans hB3.2
            have dd10 := hb1 0 (by omega)
            have de10 := hF_at hE (i := ((((i + 1) + 0 : Nat)) : Int)) (by omega) (by omega)
            have nv1 : τ1 23 0 0 = E ((i : Int) + 1) - 48 := by have z := hc1.2; rw [show m1 = 1 by omega] at z; rw [z]; show 10 * 0 + E (((i + 1 : Nat) : Int) + ((0 : Nat) : Int)) - 48 = _; rw [show (((i + 1 : Nat) : Int) + ((0 : Nat) : Int)) = (i : Int) + 1 by omega]; omega
            have nv1 : τ2 23 0 0 = _ := (hd2 23 0 0 (by decide) (by decide)).trans nv1
            have nv1 : τ3 23 0 0 = _ := (hd3 23 0 0 (by decide) (by decide)).trans nv1
            have nw1 : (aUp τ3 21 0 5 (τ3 21 0 5 + 1)) 23 0 0 = _ := (aUp_tag (by decide)).trans nv1
            have dd20 := hb2 0 (by omega)
            have de20 := hF_at hE (i := ((((i + 1 + 1) + 0 : Nat)) : Int)) (by omega) (by omega)
            have nv2 : τ2 23 0 1 = E ((i : Int) + 2) - 48 := by have z := hc2.2; rw [show m2 = 1 by omega] at z; rw [z]; show 10 * 0 + E (((i + 1 + 1 : Nat) : Int) + ((0 : Nat) : Int)) - 48 = _; rw [show (((i + 1 + 1 : Nat) : Int) + ((0 : Nat) : Int)) = (i : Int) + 2 by omega]; omega
            have nv2 : τ3 23 0 1 = _ := (hd3 23 0 1 (by decide) (by decide)).trans nv2
            have nw2 : (aUp τ3 21 0 5 (τ3 21 0 5 + 1)) 23 0 1 = _ := (aUp_tag (by decide)).trans nv2
            have dd30 := hb3 0 (by omega)
            have de30 := hF_at hE (i := ((((i + 1 + 1 + 1) + 0 : Nat)) : Int)) (by omega) (by omega)
            have nv3 : τ3 23 0 2 = E ((i : Int) + 3) - 48 := by have z := hc3.2; rw [show m3 = 1 by omega] at z; rw [z]; show 10 * 0 + E (((i + 1 + 1 + 1 : Nat) : Int) + ((0 : Nat) : Int)) - 48 = _; rw [show (((i + 1 + 1 + 1 : Nat) : Int) + ((0 : Nat) : Int)) = (i : Int) + 3 by omega]; omega
            have nw3 : (aUp τ3 21 0 5 (τ3 21 0 5 + 1)) 23 0 2 = _ := (aUp_tag (by decide)).trans nv3
            have hNum : NUM (aUp τ3 21 0 5 (τ3 21 0 5 + 1)) (E (i : Int)) (E ((i : Int) + 1) - 48) (E ((i : Int) + 2) - 48) (E ((i : Int) + 3) - 48) := ⟨fun _ => ⟨nw1, nw2, nw3⟩, fun z => by omega, fun z => by omega, fun z => by omega, fun z => by omega⟩
            refine aw_b kX7_ok bX7_readsStatement_221_ok (Cs := [0 < 1, 0 < 1]) (pc' := 232) (L' := [some (aR 21 0), some (aI (hF E n (i : Int))), some (aI 1)]) (st' := [aI 1]) (σ' := aUp τ3 21 0 5 ((τ3 21 0 5) + 1)) rfl (show (0 < 1) ∧ (0 < 1) from ⟨by omega, by omega⟩) ?_
            exact aw_zret dX7_readsStatement_232 rfl (by omega) ⟨1, rfl, Or.inr rfl, fun z => absurd z (by decide), fun _ => ⟨by rw [edg]; decide, by rw [edg]; exact hPn, by rw [aUp_same, edg]; exact hPp, by rw [edg]; exact hPb, hNum⟩, rsFr_tr f3 rs_up⟩
          · have hBf : bkI E n i (-1) = ((i + 4 : Nat) : Int) := hB2.trans (rsm.1 (by omega))
            have hPf : τ3 21 0 5 = bkI E n i (-1) := by omega
            refine aw_b kX7_ok bX7_readsStatement_219_ok (Cs := []) (pc' := 220) (L' := [some (aR 21 0), some (aI (hF E n (i : Int))), some (aI 1)]) (st' := [aI 0]) (σ' := τ3) rfl trivial ?_
            exact aw_zret dX7_readsStatement_220 rfl (by omega) ⟨0, rfl, Or.inl rfl, fun _ => ⟨hPf, by omega⟩, fun z => absurd z (by decide), f3⟩
  · refine aw_tsw dX7_readsStatement_16 (tgt := 194) ⟨by omega, by omega⟩ (by decide) (by unfold aTgt; rw [if_pos (by omega)]; rfl) ?_
    have hdz : dgF (hF E n (i : Int)) = 0 := by unfold dgF; (repeat' split) <;> omega
    refine aw_b kX7_ok bX7_readsStatement_194_ok (Cs := [0 < 1, 0 < 1]) (pc' := 205) (L' := [some (aR 21 0), some (aI (hF E n (i : Int))), none]) (st' := [aI 0]) (σ' := aUp (aUp σ 21 0 5 ((σ 21 0 5) + 1)) 21 0 5 (((aUp σ 21 0 5 ((σ 21 0 5) + 1)) 21 0 5) - 1)) rfl (show (0 < 1) ∧ (0 < 1) from ⟨by omega, by omega⟩) ?_
    exact aw_zret dX7_readsStatement_205 rfl (by omega) ⟨0, rfl, Or.inl rfl, fun _ => ⟨by rw [aUp_same, aUp_same, hp]; have z := rlet.1 hdz; unfold bkI; omega, by have z := rlet.1 hdz; unfold bkI; omega⟩, fun z => absurd z (by decide), rsFr_tr rs_up rs_up⟩
