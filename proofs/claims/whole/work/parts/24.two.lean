/-! ===== the class: two, scandals, shares, years ===== -/
def tw0 (r : aRw) (a x : Int) : aRw := if x = 0 then emR r (nb (off r a)) else r
def twR (r : aRw) (a b x y : Int) : aRw := tw0 (tw0 r a x) b y
theorem tw0_wf {r : aRw} (hw : WF r) (a x : Int) : WF (tw0 r a x) := by
  unfold tw0
  split
  · exact emR_wf hw _
  · exact hw
theorem tw0_at (r : aRw) (a x : Int) {j : Int} (h : j < 8 ∨ 13 ≤ j) : tw0 r a x j = r j := by
  unfold tw0
  split
  · exact emR_at h
  · rfl
theorem twR_at (r : aRw) (a b x y : Int) {j : Int} (h : j < 8 ∨ 13 ≤ j) : twR r a b x y j = r j := by
  unfold twR
  rw [tw0_at _ _ _ h, tw0_at _ _ _ h]
theorem twR_wf {r : aRw} (hw : WF r) (a b x y : Int) : WF (twR r a b x y) := tw0_wf (tw0_wf hw a x) b y
def dvN (r : aRw) (q : Int) : Nat → Int
  | 0 => 0
  | n + 1 => dvN r q n + (if off (dysR r (n + 1)) q < 0 then 0 else 1)
theorem dvN_rng (r : aRw) (q : Int) : ∀ n : Nat, 0 ≤ dvN r q n ∧ dvN r q n ≤ n
  | 0 => ⟨Int.le_refl 0, Int.le_refl 0⟩
  | n + 1 => by
    have h := dvN_rng r q n
    unfold dvN
    split <;> omega
def haF (r : aRw) (q : Int) (n : Nat) : Int := dvN r q n - Int.tdiv (dysR r n (aOf q 2)) 10
theorem haF_rng {r : aRw} (hw : WF r) {q : Int} (h0 : 0 ≤ q) (h1 : q < r 0) {n : Nat} (hn : n ≤ 60) : -10 ≤ haF r q n ∧ haF r q n ≤ 60 := by
  have a := dvN_rng r q n
  have b := (dysR_wf hw n).pe h0 (by rw [(dysR_0 r n).1]; exact h1)
  unfold haF
  rw [Int.tdiv_eq_ediv_of_nonneg b.2.2.1.1]
  omega
theorem pair_tab : ∀ k : Nat, k < 4 → (aAnd (k : Int) 2 = 0 ↔ (k : Int) / 2 = 0) ∧ (aAnd (k : Int) 1 = (k : Int) % 2) ∧ aXor (k : Int) 2 = 2 * (1 - (k : Int) / 2) + (k : Int) % 2 ∧ aXor (k : Int) 1 = 2 * ((k : Int) / 2) + (1 - (k : Int) % 2) ∧ (0 ≤ aAnd (k : Int) 2 ∧ aAnd (k : Int) 2 ≤ 3) := by decide +kernel
theorem CSt (c : Nat) : CScr 20 c := Or.inr (by decide)
/-- what one has of it when a stays (x) and b stays (y) -/
def okT (r : aRw) (a b : Int) (n : Nat) (x y : Int) : Prop := haF (twR r a b (1 - x) y) a n ≤ haF (twR r a b x y) a n ∧ haF (twR r a b x (1 - y)) b n ≤ haF (twR r a b x y) b n
def twoF (r : aRw) (a b : Int) (n : Nat) : Nat → Nat → Int
  | 0, _ => -4
  | f + 1, k => if haF (twR r a b (1 - (k : Int) / 2) ((k : Int) % 2)) a n ≤ haF (twR r a b ((k : Int) / 2) ((k : Int) % 2)) a n ∧ haF (twR r a b ((k : Int) / 2) (1 - (k : Int) % 2)) b n ≤ haF (twR r a b ((k : Int) / 2) ((k : Int) % 2)) b n
    then 10 * ((k : Int) / 2) + (k : Int) % 2 else twoF r a b n f (k + 1)
def A_two (r : aRw) (a b n : Int) : Int := if (0 ≤ a ∧ a < r 0) ∧ (0 ≤ b ∧ b < r 0) ∧ a ≠ b ∧ (1 ≤ n ∧ n ≤ 30) then (if off r a < 0 ∨ off r b < 0 then -3 else twoF r a b n.toNat 4 0) else -1
set_option maxRecDepth 10000 in
theorem cC_playTwo (l : Launch) (a b n : Int) (k : Nat) (σ : aS) (r : aRw) (hR : Rep σ 0 r) (hw : WF r) (hd : r 1 ≤ 999) (hk : k < 4) (a0 : 0 ≤ a) (a1 : a < r 0) (c0 : 0 ≤ b) (c1 : b < r 0) (h0 : 1 ≤ n) (h1 : n ≤ 30) : AM l 4 mX6_playTwo [aR 0 0, aI a, aI b, aI n, aI (k : Int)] σ ((fun v σ' => v = none ∧ aFr CScr σ σ' ∧ σ' 20 0 (k : Int) = haF (twR r a b ((k : Int) / 2) ((k : Int) % 2)) a n.toNat ∧ σ' 20 1 (k : Int) = haF (twR r a b ((k : Int) / 2) ((k : Int) % 2)) b n.toNat ∧ (∀ j : Int, j ≠ (k : Int) → σ' 20 0 j = σ 20 0 j ∧ σ' 20 1 j = σ 20 1 j))) := by
  have bn := hw.1
  have en := hR.n
  have b1 := hw.2.1
  have e1 := hR.1.2.1
  have b2 := hw.2.2.1
  have e2 := hR.1.2.2
  have ht := pair_tab k hk
  have hwR := twR_wf hw a b ((k : Int) / 2) ((k : Int) % 2)
  have e0R : (twR r a b ((k : Int) / 2) ((k : Int) % 2)) 0 = r 0 := twR_at _ _ _ _ _ (by omega)
  have e1R : (twR r a b ((k : Int) / 2) ((k : Int) % 2)) 1 = r 1 := twR_at _ _ _ _ _ (by omega)
  have hw0 := tw0_wf hw a ((k : Int) / 2)
  have e00 : tw0 r a ((k : Int) / 2) 0 = r 0 := tw0_at _ _ _ (by omega)
  refine am_of (by decide) (Nat.le_of_ble_eq_true rfl) (L := [some (aR 0 0), some (aI a), some (aI b), some (aI n), some (aI (k : Int)), none, none, none]) rfl ?_
  refine aw_b kX6_ok bX6_playTwo_0_ok (Cs := [0 < 1, 0 < 1]) (pc' := 8) (L' := [some (aR 0 0), some (aI a), some (aI b), some (aI n), some (aI (k : Int)), none, none, none]) (st' := [aR 1 0, aR 1 1]) (σ' := σ) rfl (show (0 < 1) ∧ (0 < 1) from ⟨by omega, by omega⟩) ?_
  refine aw_callV lX6_68 (as := [aR 1 0]) (rest := []) (t := 1) (c := 1) (by decide) (by decide) (by decide) rfl rfl (Nat.le_of_ble_eq_true rfl) rfl dX6_playTwo_8 (cC_becomes l 0 1 (by decide) (by decide) (by decide) σ r hR hw) ?_
  rintro _ τ1 ⟨rfl, hT1, hF1⟩
  refine aw_b kX6_ok bX6_playTwo_11_ok (Cs := []) (pc' := 15) (L' := [some (aR 0 0), some (aI a), some (aI b), some (aI n), some (aI (k : Int)), none, none, none]) (st' := [aI (aAnd (k : Int) 2)]) (σ' := τ1) rfl trivial ?_
  refine aw_ine dX6_playTwo_15 (tgt := 26) (by decide) ⟨by omega, by omega⟩ (fun wh1 => ?_) (fun wh1 => ?_)
  · have hR2 : Rep τ1 1 (tw0 r a ((k : Int) / 2)) := by unfold tw0; rw [if_neg (by omega)]; exact hT1
    have hG2 := hF1
    refine aw_b kX6_ok bX6_playTwo_26_ok (Cs := []) (pc' := 30) (L' := [some (aR 0 0), some (aI a), some (aI b), some (aI n), some (aI (k : Int)), none, none, none]) (st' := [aI (aAnd (k : Int) 1)]) (σ' := τ1) rfl trivial ?_
    refine aw_ine dX6_playTwo_30 (tgt := 41) (by decide) ⟨by omega, by omega⟩ (fun wh2 => ?_) (fun wh2 => ?_)
    · have hR3 : Rep τ1 1 (twR r a b ((k : Int) / 2) ((k : Int) % 2)) := by unfold twR; unfold tw0; rw [if_neg (show ¬ (k : Int) % 2 = 0 by omega)]; unfold tw0 at hR2; exact hR2
      have hG3 := hG2
      refine aw_b kX6_ok bX6_playTwo_41_ok (Cs := []) (pc' := 50) (L' := [some (aR 0 0), some (aI a), some (aI b), some (aI n), some (aI (k : Int)), some (aI 0), some (aI 0), some (aI 0)]) (st' := []) (σ' := τ1) rfl trivial ?_
      refine aloop (P := fun i : Nat => ∀ (ρ : aS) (hQ : Rep ρ 1 (dysR (twR r a b ((k : Int) / 2) ((k : Int) % 2)) i)) (hG : aFr (Cb 1) σ ρ), AW l 4 mX6_playTwo _ 50 [some (aR 0 0), some (aI a), some (aI b), some (aI n), some (aI (k : Int)), some (aI (dvN (twR r a b ((k : Int) / 2) ((k : Int) % 2)) a i)), some (aI (dvN (twR r a b ((k : Int) / 2) ((k : Int) % 2)) b i)), some (aI (i : Int))] [] ρ) n.toNat (fun i hi ihi ρ hQ hG => ?_) τ1 hR3 hG3
      have eD := dysR_0 (twR r a b ((k : Int) / 2) ((k : Int) % 2)) i
      have gA := dvN_rng (twR r a b ((k : Int) / 2) ((k : Int) % 2)) a i
      have gB := dvN_rng (twR r a b ((k : Int) / 2) ((k : Int) % 2)) b i
      refine aw_b kX6_ok bX6_playTwo_50_ok (Cs := []) (pc' := 53) (L' := [some (aR 0 0), some (aI a), some (aI b), some (aI n), some (aI (k : Int)), some (aI (dvN (twR r a b ((k : Int) / 2) ((k : Int) % 2)) a i)), some (aI (dvN (twR r a b ((k : Int) / 2) ((k : Int) % 2)) b i)), some (aI (i : Int))]) (st' := [aI n, aI (i : Int)]) (σ' := ρ) rfl trivial ?_
      refine aw_cge dX6_playTwo_53 (tgt := 115) (by decide) ⟨by omega, by omega⟩ ⟨by omega, by omega⟩ (fun wh3 => ?_) (fun wh3 => ?_)
      · have ei : i = n.toNat := by omega
        have hwE := dysR_wf hwR i
        have bpa8 := hwE.pe (p := a) (by omega) (by omega)
        have rpa8 := hQ.pe (p := a) (by omega) (by omega)
        have boa8 := off_rng (dysR (twR r a b ((k : Int) / 2) ((k : Int) % 2)) i) a
        have noa8 := nb_cases (off (dysR (twR r a b ((k : Int) / 2) ((k : Int) % 2)) i) a)
        have bpb8 := hwE.pe (p := b) (by omega) (by omega)
        have rpb8 := hQ.pe (p := b) (by omega) (by omega)
        have bob8 := off_rng (dysR (twR r a b ((k : Int) / 2) ((k : Int) % 2)) i) b
        have nob8 := nb_cases (off (dysR (twR r a b ((k : Int) / 2) ((k : Int) % 2)) i) b)
        have eb4 : ∀ x, aUp ρ 20 0 (k : Int) x 4 1 b = ρ 4 1 b := fun x => aUp_tag (by decide)
        have zz := eb4 (dvN (twR r a b ((k : Int) / 2) ((k : Int) % 2)) a i - (Int.tdiv (ρ 4 1 a) 10))
        refine aw_b kX6_ok bX6_playTwo_115_ok (Cs := [0 < 1, 0 < 1, 1 < 3, 1 < 3, 0 ≤ a ∧ a < 8, -2147483648 ≤ ρ 4 1 a ∧ ρ 4 1 a < 2147483648, 0 < 10 ∧ 10 < 2147483648, 0 < 2, 0 ≤ (k : Int) ∧ (k : Int) < 4, 0 < 1, 0 < 1, 1 < 3, 1 < 3, 0 ≤ b ∧ b < 8, -2147483648 ≤ (aUp ρ 20 0 (k : Int) ((dvN (twR r a b ((k : Int) / 2) ((k : Int) % 2)) a i) - (Int.tdiv (ρ 4 1 a) 10))) 4 1 b ∧ (aUp ρ 20 0 (k : Int) ((dvN (twR r a b ((k : Int) / 2) ((k : Int) % 2)) a i) - (Int.tdiv (ρ 4 1 a) 10))) 4 1 b < 2147483648, 0 < 10 ∧ 10 < 2147483648, 1 < 2, 0 ≤ (k : Int) ∧ (k : Int) < 4]) (pc' := 159) (L' := [some (aR 0 0), some (aI a), some (aI b), some (aI n), some (aI (k : Int)), some (aI (dvN (twR r a b ((k : Int) / 2) ((k : Int) % 2)) a i)), some (aI (dvN (twR r a b ((k : Int) / 2) ((k : Int) % 2)) b i)), some (aI (i : Int))]) (st' := []) (σ' := aUp (aUp ρ 20 0 (k : Int) ((dvN (twR r a b ((k : Int) / 2) ((k : Int) % 2)) a i) - (Int.tdiv (ρ 4 1 a) 10))) 20 1 (k : Int) ((dvN (twR r a b ((k : Int) / 2) ((k : Int) % 2)) b i) - (Int.tdiv ((aUp ρ 20 0 (k : Int) ((dvN (twR r a b ((k : Int) / 2) ((k : Int) % 2)) a i) - (Int.tdiv (ρ 4 1 a) 10))) 4 1 b) 10))) rfl (show (0 < 1) ∧ (0 < 1) ∧ (1 < 3) ∧ (1 < 3) ∧ (0 ≤ a ∧ a < 8) ∧ (-2147483648 ≤ ρ 4 1 a ∧ ρ 4 1 a < 2147483648) ∧ (0 < 10 ∧ 10 < 2147483648) ∧ (0 < 2) ∧ (0 ≤ (k : Int) ∧ (k : Int) < 4) ∧ (0 < 1) ∧ (0 < 1) ∧ (1 < 3) ∧ (1 < 3) ∧ (0 ≤ b ∧ b < 8) ∧ (-2147483648 ≤ (aUp ρ 20 0 (k : Int) ((dvN (twR r a b ((k : Int) / 2) ((k : Int) % 2)) a i) - (Int.tdiv (ρ 4 1 a) 10))) 4 1 b ∧ (aUp ρ 20 0 (k : Int) ((dvN (twR r a b ((k : Int) / 2) ((k : Int) % 2)) a i) - (Int.tdiv (ρ 4 1 a) 10))) 4 1 b < 2147483648) ∧ (0 < 10 ∧ 10 < 2147483648) ∧ (1 < 2) ∧ (0 ≤ (k : Int) ∧ (k : Int) < 4) from ⟨by omega, by omega, by omega, by omega, by omega, by omega, by omega, by omega, by omega, by omega, by omega, by omega, by omega, by omega, by omega, by omega, by omega, by omega⟩) ?_
        exact aw_vret dX6_playTwo_159 rfl ⟨rfl, aFr_tr (aFrC hG) (aFr_tr (aFr_up (CSt 0)) (aFr_up (CSt 1))), by rw [aUp_off (fun q => absurd q.2 (by decide)), aUp_same, ← ei]; unfold haF; rw [rpa8.2.2.1], by rw [aUp_same, zz, ← ei]; unfold haF; rw [rpb8.2.2.1], fun j hj => ⟨by rw [aUp_off (fun q => absurd q.2 (by decide)), aUp_idx hj]; exact hG 20 0 j (fun q => absurd q.2.1 (by decide)), by rw [aUp_idx hj, aUp_off (fun q => absurd q.2 (by decide))]; exact hG 20 1 j (fun q => absurd q.2.1 (by decide))⟩⟩
      · refine aw_b kX6_ok bX6_playTwo_56_ok (Cs := [0 < 1]) (pc' := 60) (L' := [some (aR 0 0), some (aI a), some (aI b), some (aI n), some (aI (k : Int)), some (aI (dvN (twR r a b ((k : Int) / 2) ((k : Int) % 2)) a i)), some (aI (dvN (twR r a b ((k : Int) / 2) ((k : Int) % 2)) b i)), some (aI (i : Int))]) (st' := [aR 1 1]) (σ' := ρ) rfl (show 0 < 1 from by omega) ?_
        refine aw_callV lX6_178 (as := []) (rest := []) (t := 1) (c := 1) (by decide) (by decide) (by decide) rfl rfl (Nat.le_of_ble_eq_true rfl) rfl dX6_playTwo_60 (cC_oneDay l 1 (by decide) ρ (dysR (twR r a b ((k : Int) / 2) ((k : Int) % 2)) i) hQ (dysR_wf hwR _) (by omega)) ?_
        rintro _ τ9 ⟨rfl, hT9, hF9, h39⟩
        have eD9 := dysR_0 (twR r a b ((k : Int) / 2) ((k : Int) % 2)) (i + 1)
        have hw9 : WF (dysR (twR r a b ((k : Int) / 2) ((k : Int) % 2)) (i + 1)) := dysR_wf hwR (i + 1)
        have hT9r : Rep τ9 1 (dysR (twR r a b ((k : Int) / 2) ((k : Int) % 2)) (i + 1)) := hT9
        have bpa9 := hw9.pe (p := a) (by omega) (by omega)
        have rpa9 := hT9r.pe (p := a) (by omega) (by omega)
        have boa9 := off_rng (dysR (twR r a b ((k : Int) / 2) ((k : Int) % 2)) (i + 1)) a
        have noa9 := nb_cases (off (dysR (twR r a b ((k : Int) / 2) ((k : Int) % 2)) (i + 1)) a)
        have bpb9 := hw9.pe (p := b) (by omega) (by omega)
        have rpb9 := hT9r.pe (p := b) (by omega) (by omega)
        have bob9 := off_rng (dysR (twR r a b ((k : Int) / 2) ((k : Int) % 2)) (i + 1)) b
        have nob9 := nb_cases (off (dysR (twR r a b ((k : Int) / 2) ((k : Int) % 2)) (i + 1)) b)
        refine aw_b kX6_ok bX6_playTwo_63_ok (Cs := [0 < 1, 1 < 3, 1 < 3, 0 ≤ a ∧ a < 8]) (pc' := 75) (L' := [some (aR 0 0), some (aI a), some (aI b), some (aI n), some (aI (k : Int)), some (aI (dvN (twR r a b ((k : Int) / 2) ((k : Int) % 2)) a i)), some (aI (dvN (twR r a b ((k : Int) / 2) ((k : Int) % 2)) b i)), some (aI (i : Int))]) (st' := [aI (-1), aI (τ9 6 1 a), aI (dvN (twR r a b ((k : Int) / 2) ((k : Int) % 2)) a i)]) (σ' := τ9) rfl (show (0 < 1) ∧ (1 < 3) ∧ (1 < 3) ∧ (0 ≤ a ∧ a < 8) from ⟨by omega, by omega, by omega, by omega⟩) ?_
        refine aw_ceq dX6_playTwo_75 (tgt := 82) (by decide) ⟨by omega, by omega⟩ ⟨by omega, by omega⟩ (fun wh4 => ?_) (fun wh4 => ?_)
        · refine aw_b kX6_ok bX6_playTwo_82_ok (Cs := []) (pc' := 83) (L' := [some (aR 0 0), some (aI a), some (aI b), some (aI n), some (aI (k : Int)), some (aI (dvN (twR r a b ((k : Int) / 2) ((k : Int) % 2)) a i)), some (aI (dvN (twR r a b ((k : Int) / 2) ((k : Int) % 2)) b i)), some (aI (i : Int))]) (st' := [aI 0, aI (dvN (twR r a b ((k : Int) / 2) ((k : Int) % 2)) a i)]) (σ' := τ9) rfl trivial ?_
          refine aw_b kX6_ok bX6_playTwo_83_ok (Cs := [0 < 1, 1 < 3, 1 < 3, 0 ≤ b ∧ b < 8]) (pc' := 98) (L' := [some (aR 0 0), some (aI a), some (aI b), some (aI n), some (aI (k : Int)), some (aI ((dvN (twR r a b ((k : Int) / 2) ((k : Int) % 2)) a i) + 0)), some (aI (dvN (twR r a b ((k : Int) / 2) ((k : Int) % 2)) b i)), some (aI (i : Int))]) (st' := [aI (-1), aI (τ9 6 1 b), aI (dvN (twR r a b ((k : Int) / 2) ((k : Int) % 2)) b i)]) (σ' := τ9) rfl (show (0 < 1) ∧ (1 < 3) ∧ (1 < 3) ∧ (0 ≤ b ∧ b < 8) from ⟨by omega, by omega, by omega, by omega⟩) ?_
          refine aw_ceq dX6_playTwo_98 (tgt := 105) (by decide) ⟨by omega, by omega⟩ ⟨by omega, by omega⟩ (fun wh5 => ?_) (fun wh5 => ?_)
          · refine aw_b kX6_ok bX6_playTwo_105_ok (Cs := []) (pc' := 106) (L' := [some (aR 0 0), some (aI a), some (aI b), some (aI n), some (aI (k : Int)), some (aI ((dvN (twR r a b ((k : Int) / 2) ((k : Int) % 2)) a i) + 0)), some (aI (dvN (twR r a b ((k : Int) / 2) ((k : Int) % 2)) b i)), some (aI (i : Int))]) (st' := [aI 0, aI (dvN (twR r a b ((k : Int) / 2) ((k : Int) % 2)) b i)]) (σ' := τ9) rfl trivial ?_
            refine aw_b kX6_ok bX6_playTwo_106_ok (Cs := []) (pc' := 50) (L' := [some (aR 0 0), some (aI a), some (aI b), some (aI n), some (aI (k : Int)), some (aI ((dvN (twR r a b ((k : Int) / 2) ((k : Int) % 2)) a i) + 0)), some (aI ((dvN (twR r a b ((k : Int) / 2) ((k : Int) % 2)) b i) + 0)), some (aI ((i : Int) + 1))]) (st' := []) (σ' := τ9) rfl trivial ?_
            have e1 : dvN (twR r a b ((k : Int) / 2) ((k : Int) % 2)) a i + 0 = dvN (twR r a b ((k : Int) / 2) ((k : Int) % 2)) a (i + 1) := by rw [dvN, if_pos (by omega)]
            have e2 : dvN (twR r a b ((k : Int) / 2) ((k : Int) % 2)) b i + 0 = dvN (twR r a b ((k : Int) / 2) ((k : Int) % 2)) b (i + 1) := by rw [dvN, if_pos (by omega)]
            exact aw_eq (by rw [e1, e2]; rfl) rfl rfl (ihi (by omega) τ9 hT9 (aFr_tr hG hF9))
          · refine aw_b kX6_ok bX6_playTwo_101_ok (Cs := []) (pc' := 106) (L' := [some (aR 0 0), some (aI a), some (aI b), some (aI n), some (aI (k : Int)), some (aI ((dvN (twR r a b ((k : Int) / 2) ((k : Int) % 2)) a i) + 0)), some (aI (dvN (twR r a b ((k : Int) / 2) ((k : Int) % 2)) b i)), some (aI (i : Int))]) (st' := [aI 1, aI (dvN (twR r a b ((k : Int) / 2) ((k : Int) % 2)) b i)]) (σ' := τ9) rfl trivial ?_
            refine aw_b kX6_ok bX6_playTwo_106_ok (Cs := []) (pc' := 50) (L' := [some (aR 0 0), some (aI a), some (aI b), some (aI n), some (aI (k : Int)), some (aI ((dvN (twR r a b ((k : Int) / 2) ((k : Int) % 2)) a i) + 0)), some (aI ((dvN (twR r a b ((k : Int) / 2) ((k : Int) % 2)) b i) + 1)), some (aI ((i : Int) + 1))]) (st' := []) (σ' := τ9) rfl trivial ?_
            have e1 : dvN (twR r a b ((k : Int) / 2) ((k : Int) % 2)) a i + 0 = dvN (twR r a b ((k : Int) / 2) ((k : Int) % 2)) a (i + 1) := by rw [dvN, if_pos (by omega)]
            have e2 : dvN (twR r a b ((k : Int) / 2) ((k : Int) % 2)) b i + 1 = dvN (twR r a b ((k : Int) / 2) ((k : Int) % 2)) b (i + 1) := by rw [dvN, if_neg (by omega)]
            exact aw_eq (by rw [e1, e2]; rfl) rfl rfl (ihi (by omega) τ9 hT9 (aFr_tr hG hF9))
        · refine aw_b kX6_ok bX6_playTwo_78_ok (Cs := []) (pc' := 83) (L' := [some (aR 0 0), some (aI a), some (aI b), some (aI n), some (aI (k : Int)), some (aI (dvN (twR r a b ((k : Int) / 2) ((k : Int) % 2)) a i)), some (aI (dvN (twR r a b ((k : Int) / 2) ((k : Int) % 2)) b i)), some (aI (i : Int))]) (st' := [aI 1, aI (dvN (twR r a b ((k : Int) / 2) ((k : Int) % 2)) a i)]) (σ' := τ9) rfl trivial ?_
          refine aw_b kX6_ok bX6_playTwo_83_ok (Cs := [0 < 1, 1 < 3, 1 < 3, 0 ≤ b ∧ b < 8]) (pc' := 98) (L' := [some (aR 0 0), some (aI a), some (aI b), some (aI n), some (aI (k : Int)), some (aI ((dvN (twR r a b ((k : Int) / 2) ((k : Int) % 2)) a i) + 1)), some (aI (dvN (twR r a b ((k : Int) / 2) ((k : Int) % 2)) b i)), some (aI (i : Int))]) (st' := [aI (-1), aI (τ9 6 1 b), aI (dvN (twR r a b ((k : Int) / 2) ((k : Int) % 2)) b i)]) (σ' := τ9) rfl (show (0 < 1) ∧ (1 < 3) ∧ (1 < 3) ∧ (0 ≤ b ∧ b < 8) from ⟨by omega, by omega, by omega, by omega⟩) ?_
          refine aw_ceq dX6_playTwo_98 (tgt := 105) (by decide) ⟨by omega, by omega⟩ ⟨by omega, by omega⟩ (fun wh6 => ?_) (fun wh6 => ?_)
          · refine aw_b kX6_ok bX6_playTwo_105_ok (Cs := []) (pc' := 106) (L' := [some (aR 0 0), some (aI a), some (aI b), some (aI n), some (aI (k : Int)), some (aI ((dvN (twR r a b ((k : Int) / 2) ((k : Int) % 2)) a i) + 1)), some (aI (dvN (twR r a b ((k : Int) / 2) ((k : Int) % 2)) b i)), some (aI (i : Int))]) (st' := [aI 0, aI (dvN (twR r a b ((k : Int) / 2) ((k : Int) % 2)) b i)]) (σ' := τ9) rfl trivial ?_
            refine aw_b kX6_ok bX6_playTwo_106_ok (Cs := []) (pc' := 50) (L' := [some (aR 0 0), some (aI a), some (aI b), some (aI n), some (aI (k : Int)), some (aI ((dvN (twR r a b ((k : Int) / 2) ((k : Int) % 2)) a i) + 1)), some (aI ((dvN (twR r a b ((k : Int) / 2) ((k : Int) % 2)) b i) + 0)), some (aI ((i : Int) + 1))]) (st' := []) (σ' := τ9) rfl trivial ?_
            have e1 : dvN (twR r a b ((k : Int) / 2) ((k : Int) % 2)) a i + 1 = dvN (twR r a b ((k : Int) / 2) ((k : Int) % 2)) a (i + 1) := by rw [dvN, if_neg (by omega)]
            have e2 : dvN (twR r a b ((k : Int) / 2) ((k : Int) % 2)) b i + 0 = dvN (twR r a b ((k : Int) / 2) ((k : Int) % 2)) b (i + 1) := by rw [dvN, if_pos (by omega)]
            exact aw_eq (by rw [e1, e2]; rfl) rfl rfl (ihi (by omega) τ9 hT9 (aFr_tr hG hF9))
          · refine aw_b kX6_ok bX6_playTwo_101_ok (Cs := []) (pc' := 106) (L' := [some (aR 0 0), some (aI a), some (aI b), some (aI n), some (aI (k : Int)), some (aI ((dvN (twR r a b ((k : Int) / 2) ((k : Int) % 2)) a i) + 1)), some (aI (dvN (twR r a b ((k : Int) / 2) ((k : Int) % 2)) b i)), some (aI (i : Int))]) (st' := [aI 1, aI (dvN (twR r a b ((k : Int) / 2) ((k : Int) % 2)) b i)]) (σ' := τ9) rfl trivial ?_
            refine aw_b kX6_ok bX6_playTwo_106_ok (Cs := []) (pc' := 50) (L' := [some (aR 0 0), some (aI a), some (aI b), some (aI n), some (aI (k : Int)), some (aI ((dvN (twR r a b ((k : Int) / 2) ((k : Int) % 2)) a i) + 1)), some (aI ((dvN (twR r a b ((k : Int) / 2) ((k : Int) % 2)) b i) + 1)), some (aI ((i : Int) + 1))]) (st' := []) (σ' := τ9) rfl trivial ?_
            have e1 : dvN (twR r a b ((k : Int) / 2) ((k : Int) % 2)) a i + 1 = dvN (twR r a b ((k : Int) / 2) ((k : Int) % 2)) a (i + 1) := by rw [dvN, if_neg (by omega)]
            have e2 : dvN (twR r a b ((k : Int) / 2) ((k : Int) % 2)) b i + 1 = dvN (twR r a b ((k : Int) / 2) ((k : Int) % 2)) b (i + 1) := by rw [dvN, if_neg (by omega)]
            exact aw_eq (by rw [e1, e2]; rfl) rfl rfl (ihi (by omega) τ9 hT9 (aFr_tr hG hF9))
    · refine aw_b kX6_ok bX6_playTwo_33_ok (Cs := [0 < 1]) (pc' := 38) (L' := [some (aR 0 0), some (aI a), some (aI b), some (aI n), some (aI (k : Int)), none, none, none]) (st' := [aI b, aR 1 1]) (σ' := τ1) rfl (show 0 < 1 from by omega) ?_
      refine aw_callV lX6_321 (as := [aI b]) (rest := []) (t := 1) (c := 1) (by decide) (by decide) (by decide) rfl rfl (Nat.le_of_ble_eq_true rfl) rfl dX6_playTwo_38 (cC_sendHome l b 1 (by decide) τ1 _ hR2 hw0 (by omega) (by omega)) ?_
      rintro _ τ3 ⟨rfl, hR31, hF31, h331⟩
      have hR3 : Rep τ3 1 (twR r a b ((k : Int) / 2) ((k : Int) % 2)) := by unfold twR; unfold tw0; rw [if_pos (show (k : Int) % 2 = 0 by omega)]; unfold tw0 at hR31; exact hR31
      have hG3 := aFr_tr hG2 hF31
      refine aw_b kX6_ok bX6_playTwo_41_ok (Cs := []) (pc' := 50) (L' := [some (aR 0 0), some (aI a), some (aI b), some (aI n), some (aI (k : Int)), some (aI 0), some (aI 0), some (aI 0)]) (st' := []) (σ' := τ3) rfl trivial ?_
      refine aloop (P := fun i : Nat => ∀ (ρ : aS) (hQ : Rep ρ 1 (dysR (twR r a b ((k : Int) / 2) ((k : Int) % 2)) i)) (hG : aFr (Cb 1) σ ρ), AW l 4 mX6_playTwo _ 50 [some (aR 0 0), some (aI a), some (aI b), some (aI n), some (aI (k : Int)), some (aI (dvN (twR r a b ((k : Int) / 2) ((k : Int) % 2)) a i)), some (aI (dvN (twR r a b ((k : Int) / 2) ((k : Int) % 2)) b i)), some (aI (i : Int))] [] ρ) n.toNat (fun i hi ihi ρ hQ hG => ?_) τ3 hR3 hG3
      have eD := dysR_0 (twR r a b ((k : Int) / 2) ((k : Int) % 2)) i
      have gA := dvN_rng (twR r a b ((k : Int) / 2) ((k : Int) % 2)) a i
      have gB := dvN_rng (twR r a b ((k : Int) / 2) ((k : Int) % 2)) b i
      refine aw_b kX6_ok bX6_playTwo_50_ok (Cs := []) (pc' := 53) (L' := [some (aR 0 0), some (aI a), some (aI b), some (aI n), some (aI (k : Int)), some (aI (dvN (twR r a b ((k : Int) / 2) ((k : Int) % 2)) a i)), some (aI (dvN (twR r a b ((k : Int) / 2) ((k : Int) % 2)) b i)), some (aI (i : Int))]) (st' := [aI n, aI (i : Int)]) (σ' := ρ) rfl trivial ?_
      refine aw_cge dX6_playTwo_53 (tgt := 115) (by decide) ⟨by omega, by omega⟩ ⟨by omega, by omega⟩ (fun wh7 => ?_) (fun wh7 => ?_)
      · have ei : i = n.toNat := by omega
        have hwE := dysR_wf hwR i
        have bpa8 := hwE.pe (p := a) (by omega) (by omega)
        have rpa8 := hQ.pe (p := a) (by omega) (by omega)
        have boa8 := off_rng (dysR (twR r a b ((k : Int) / 2) ((k : Int) % 2)) i) a
        have noa8 := nb_cases (off (dysR (twR r a b ((k : Int) / 2) ((k : Int) % 2)) i) a)
        have bpb8 := hwE.pe (p := b) (by omega) (by omega)
        have rpb8 := hQ.pe (p := b) (by omega) (by omega)
        have bob8 := off_rng (dysR (twR r a b ((k : Int) / 2) ((k : Int) % 2)) i) b
        have nob8 := nb_cases (off (dysR (twR r a b ((k : Int) / 2) ((k : Int) % 2)) i) b)
        have eb4 : ∀ x, aUp ρ 20 0 (k : Int) x 4 1 b = ρ 4 1 b := fun x => aUp_tag (by decide)
        have zz := eb4 (dvN (twR r a b ((k : Int) / 2) ((k : Int) % 2)) a i - (Int.tdiv (ρ 4 1 a) 10))
        refine aw_b kX6_ok bX6_playTwo_115_ok (Cs := [0 < 1, 0 < 1, 1 < 3, 1 < 3, 0 ≤ a ∧ a < 8, -2147483648 ≤ ρ 4 1 a ∧ ρ 4 1 a < 2147483648, 0 < 10 ∧ 10 < 2147483648, 0 < 2, 0 ≤ (k : Int) ∧ (k : Int) < 4, 0 < 1, 0 < 1, 1 < 3, 1 < 3, 0 ≤ b ∧ b < 8, -2147483648 ≤ (aUp ρ 20 0 (k : Int) ((dvN (twR r a b ((k : Int) / 2) ((k : Int) % 2)) a i) - (Int.tdiv (ρ 4 1 a) 10))) 4 1 b ∧ (aUp ρ 20 0 (k : Int) ((dvN (twR r a b ((k : Int) / 2) ((k : Int) % 2)) a i) - (Int.tdiv (ρ 4 1 a) 10))) 4 1 b < 2147483648, 0 < 10 ∧ 10 < 2147483648, 1 < 2, 0 ≤ (k : Int) ∧ (k : Int) < 4]) (pc' := 159) (L' := [some (aR 0 0), some (aI a), some (aI b), some (aI n), some (aI (k : Int)), some (aI (dvN (twR r a b ((k : Int) / 2) ((k : Int) % 2)) a i)), some (aI (dvN (twR r a b ((k : Int) / 2) ((k : Int) % 2)) b i)), some (aI (i : Int))]) (st' := []) (σ' := aUp (aUp ρ 20 0 (k : Int) ((dvN (twR r a b ((k : Int) / 2) ((k : Int) % 2)) a i) - (Int.tdiv (ρ 4 1 a) 10))) 20 1 (k : Int) ((dvN (twR r a b ((k : Int) / 2) ((k : Int) % 2)) b i) - (Int.tdiv ((aUp ρ 20 0 (k : Int) ((dvN (twR r a b ((k : Int) / 2) ((k : Int) % 2)) a i) - (Int.tdiv (ρ 4 1 a) 10))) 4 1 b) 10))) rfl (show (0 < 1) ∧ (0 < 1) ∧ (1 < 3) ∧ (1 < 3) ∧ (0 ≤ a ∧ a < 8) ∧ (-2147483648 ≤ ρ 4 1 a ∧ ρ 4 1 a < 2147483648) ∧ (0 < 10 ∧ 10 < 2147483648) ∧ (0 < 2) ∧ (0 ≤ (k : Int) ∧ (k : Int) < 4) ∧ (0 < 1) ∧ (0 < 1) ∧ (1 < 3) ∧ (1 < 3) ∧ (0 ≤ b ∧ b < 8) ∧ (-2147483648 ≤ (aUp ρ 20 0 (k : Int) ((dvN (twR r a b ((k : Int) / 2) ((k : Int) % 2)) a i) - (Int.tdiv (ρ 4 1 a) 10))) 4 1 b ∧ (aUp ρ 20 0 (k : Int) ((dvN (twR r a b ((k : Int) / 2) ((k : Int) % 2)) a i) - (Int.tdiv (ρ 4 1 a) 10))) 4 1 b < 2147483648) ∧ (0 < 10 ∧ 10 < 2147483648) ∧ (1 < 2) ∧ (0 ≤ (k : Int) ∧ (k : Int) < 4) from ⟨by omega, by omega, by omega, by omega, by omega, by omega, by omega, by omega, by omega, by omega, by omega, by omega, by omega, by omega, by omega, by omega, by omega, by omega⟩) ?_
        exact aw_vret dX6_playTwo_159 rfl ⟨rfl, aFr_tr (aFrC hG) (aFr_tr (aFr_up (CSt 0)) (aFr_up (CSt 1))), by rw [aUp_off (fun q => absurd q.2 (by decide)), aUp_same, ← ei]; unfold haF; rw [rpa8.2.2.1], by rw [aUp_same, zz, ← ei]; unfold haF; rw [rpb8.2.2.1], fun j hj => ⟨by rw [aUp_off (fun q => absurd q.2 (by decide)), aUp_idx hj]; exact hG 20 0 j (fun q => absurd q.2.1 (by decide)), by rw [aUp_idx hj, aUp_off (fun q => absurd q.2 (by decide))]; exact hG 20 1 j (fun q => absurd q.2.1 (by decide))⟩⟩
      · refine aw_b kX6_ok bX6_playTwo_56_ok (Cs := [0 < 1]) (pc' := 60) (L' := [some (aR 0 0), some (aI a), some (aI b), some (aI n), some (aI (k : Int)), some (aI (dvN (twR r a b ((k : Int) / 2) ((k : Int) % 2)) a i)), some (aI (dvN (twR r a b ((k : Int) / 2) ((k : Int) % 2)) b i)), some (aI (i : Int))]) (st' := [aR 1 1]) (σ' := ρ) rfl (show 0 < 1 from by omega) ?_
        refine aw_callV lX6_178 (as := []) (rest := []) (t := 1) (c := 1) (by decide) (by decide) (by decide) rfl rfl (Nat.le_of_ble_eq_true rfl) rfl dX6_playTwo_60 (cC_oneDay l 1 (by decide) ρ (dysR (twR r a b ((k : Int) / 2) ((k : Int) % 2)) i) hQ (dysR_wf hwR _) (by omega)) ?_
        rintro _ τ9 ⟨rfl, hT9, hF9, h39⟩
        have eD9 := dysR_0 (twR r a b ((k : Int) / 2) ((k : Int) % 2)) (i + 1)
        have hw9 : WF (dysR (twR r a b ((k : Int) / 2) ((k : Int) % 2)) (i + 1)) := dysR_wf hwR (i + 1)
        have hT9r : Rep τ9 1 (dysR (twR r a b ((k : Int) / 2) ((k : Int) % 2)) (i + 1)) := hT9
        have bpa9 := hw9.pe (p := a) (by omega) (by omega)
        have rpa9 := hT9r.pe (p := a) (by omega) (by omega)
        have boa9 := off_rng (dysR (twR r a b ((k : Int) / 2) ((k : Int) % 2)) (i + 1)) a
        have noa9 := nb_cases (off (dysR (twR r a b ((k : Int) / 2) ((k : Int) % 2)) (i + 1)) a)
        have bpb9 := hw9.pe (p := b) (by omega) (by omega)
        have rpb9 := hT9r.pe (p := b) (by omega) (by omega)
        have bob9 := off_rng (dysR (twR r a b ((k : Int) / 2) ((k : Int) % 2)) (i + 1)) b
        have nob9 := nb_cases (off (dysR (twR r a b ((k : Int) / 2) ((k : Int) % 2)) (i + 1)) b)
        refine aw_b kX6_ok bX6_playTwo_63_ok (Cs := [0 < 1, 1 < 3, 1 < 3, 0 ≤ a ∧ a < 8]) (pc' := 75) (L' := [some (aR 0 0), some (aI a), some (aI b), some (aI n), some (aI (k : Int)), some (aI (dvN (twR r a b ((k : Int) / 2) ((k : Int) % 2)) a i)), some (aI (dvN (twR r a b ((k : Int) / 2) ((k : Int) % 2)) b i)), some (aI (i : Int))]) (st' := [aI (-1), aI (τ9 6 1 a), aI (dvN (twR r a b ((k : Int) / 2) ((k : Int) % 2)) a i)]) (σ' := τ9) rfl (show (0 < 1) ∧ (1 < 3) ∧ (1 < 3) ∧ (0 ≤ a ∧ a < 8) from ⟨by omega, by omega, by omega, by omega⟩) ?_
        refine aw_ceq dX6_playTwo_75 (tgt := 82) (by decide) ⟨by omega, by omega⟩ ⟨by omega, by omega⟩ (fun wh8 => ?_) (fun wh8 => ?_)
        · refine aw_b kX6_ok bX6_playTwo_82_ok (Cs := []) (pc' := 83) (L' := [some (aR 0 0), some (aI a), some (aI b), some (aI n), some (aI (k : Int)), some (aI (dvN (twR r a b ((k : Int) / 2) ((k : Int) % 2)) a i)), some (aI (dvN (twR r a b ((k : Int) / 2) ((k : Int) % 2)) b i)), some (aI (i : Int))]) (st' := [aI 0, aI (dvN (twR r a b ((k : Int) / 2) ((k : Int) % 2)) a i)]) (σ' := τ9) rfl trivial ?_
          refine aw_b kX6_ok bX6_playTwo_83_ok (Cs := [0 < 1, 1 < 3, 1 < 3, 0 ≤ b ∧ b < 8]) (pc' := 98) (L' := [some (aR 0 0), some (aI a), some (aI b), some (aI n), some (aI (k : Int)), some (aI ((dvN (twR r a b ((k : Int) / 2) ((k : Int) % 2)) a i) + 0)), some (aI (dvN (twR r a b ((k : Int) / 2) ((k : Int) % 2)) b i)), some (aI (i : Int))]) (st' := [aI (-1), aI (τ9 6 1 b), aI (dvN (twR r a b ((k : Int) / 2) ((k : Int) % 2)) b i)]) (σ' := τ9) rfl (show (0 < 1) ∧ (1 < 3) ∧ (1 < 3) ∧ (0 ≤ b ∧ b < 8) from ⟨by omega, by omega, by omega, by omega⟩) ?_
          refine aw_ceq dX6_playTwo_98 (tgt := 105) (by decide) ⟨by omega, by omega⟩ ⟨by omega, by omega⟩ (fun wh9 => ?_) (fun wh9 => ?_)
          · refine aw_b kX6_ok bX6_playTwo_105_ok (Cs := []) (pc' := 106) (L' := [some (aR 0 0), some (aI a), some (aI b), some (aI n), some (aI (k : Int)), some (aI ((dvN (twR r a b ((k : Int) / 2) ((k : Int) % 2)) a i) + 0)), some (aI (dvN (twR r a b ((k : Int) / 2) ((k : Int) % 2)) b i)), some (aI (i : Int))]) (st' := [aI 0, aI (dvN (twR r a b ((k : Int) / 2) ((k : Int) % 2)) b i)]) (σ' := τ9) rfl trivial ?_
            refine aw_b kX6_ok bX6_playTwo_106_ok (Cs := []) (pc' := 50) (L' := [some (aR 0 0), some (aI a), some (aI b), some (aI n), some (aI (k : Int)), some (aI ((dvN (twR r a b ((k : Int) / 2) ((k : Int) % 2)) a i) + 0)), some (aI ((dvN (twR r a b ((k : Int) / 2) ((k : Int) % 2)) b i) + 0)), some (aI ((i : Int) + 1))]) (st' := []) (σ' := τ9) rfl trivial ?_
            have e1 : dvN (twR r a b ((k : Int) / 2) ((k : Int) % 2)) a i + 0 = dvN (twR r a b ((k : Int) / 2) ((k : Int) % 2)) a (i + 1) := by rw [dvN, if_pos (by omega)]
            have e2 : dvN (twR r a b ((k : Int) / 2) ((k : Int) % 2)) b i + 0 = dvN (twR r a b ((k : Int) / 2) ((k : Int) % 2)) b (i + 1) := by rw [dvN, if_pos (by omega)]
            exact aw_eq (by rw [e1, e2]; rfl) rfl rfl (ihi (by omega) τ9 hT9 (aFr_tr hG hF9))
          · refine aw_b kX6_ok bX6_playTwo_101_ok (Cs := []) (pc' := 106) (L' := [some (aR 0 0), some (aI a), some (aI b), some (aI n), some (aI (k : Int)), some (aI ((dvN (twR r a b ((k : Int) / 2) ((k : Int) % 2)) a i) + 0)), some (aI (dvN (twR r a b ((k : Int) / 2) ((k : Int) % 2)) b i)), some (aI (i : Int))]) (st' := [aI 1, aI (dvN (twR r a b ((k : Int) / 2) ((k : Int) % 2)) b i)]) (σ' := τ9) rfl trivial ?_
            refine aw_b kX6_ok bX6_playTwo_106_ok (Cs := []) (pc' := 50) (L' := [some (aR 0 0), some (aI a), some (aI b), some (aI n), some (aI (k : Int)), some (aI ((dvN (twR r a b ((k : Int) / 2) ((k : Int) % 2)) a i) + 0)), some (aI ((dvN (twR r a b ((k : Int) / 2) ((k : Int) % 2)) b i) + 1)), some (aI ((i : Int) + 1))]) (st' := []) (σ' := τ9) rfl trivial ?_
            have e1 : dvN (twR r a b ((k : Int) / 2) ((k : Int) % 2)) a i + 0 = dvN (twR r a b ((k : Int) / 2) ((k : Int) % 2)) a (i + 1) := by rw [dvN, if_pos (by omega)]
            have e2 : dvN (twR r a b ((k : Int) / 2) ((k : Int) % 2)) b i + 1 = dvN (twR r a b ((k : Int) / 2) ((k : Int) % 2)) b (i + 1) := by rw [dvN, if_neg (by omega)]
            exact aw_eq (by rw [e1, e2]; rfl) rfl rfl (ihi (by omega) τ9 hT9 (aFr_tr hG hF9))
        · refine aw_b kX6_ok bX6_playTwo_78_ok (Cs := []) (pc' := 83) (L' := [some (aR 0 0), some (aI a), some (aI b), some (aI n), some (aI (k : Int)), some (aI (dvN (twR r a b ((k : Int) / 2) ((k : Int) % 2)) a i)), some (aI (dvN (twR r a b ((k : Int) / 2) ((k : Int) % 2)) b i)), some (aI (i : Int))]) (st' := [aI 1, aI (dvN (twR r a b ((k : Int) / 2) ((k : Int) % 2)) a i)]) (σ' := τ9) rfl trivial ?_
          refine aw_b kX6_ok bX6_playTwo_83_ok (Cs := [0 < 1, 1 < 3, 1 < 3, 0 ≤ b ∧ b < 8]) (pc' := 98) (L' := [some (aR 0 0), some (aI a), some (aI b), some (aI n), some (aI (k : Int)), some (aI ((dvN (twR r a b ((k : Int) / 2) ((k : Int) % 2)) a i) + 1)), some (aI (dvN (twR r a b ((k : Int) / 2) ((k : Int) % 2)) b i)), some (aI (i : Int))]) (st' := [aI (-1), aI (τ9 6 1 b), aI (dvN (twR r a b ((k : Int) / 2) ((k : Int) % 2)) b i)]) (σ' := τ9) rfl (show (0 < 1) ∧ (1 < 3) ∧ (1 < 3) ∧ (0 ≤ b ∧ b < 8) from ⟨by omega, by omega, by omega, by omega⟩) ?_
          refine aw_ceq dX6_playTwo_98 (tgt := 105) (by decide) ⟨by omega, by omega⟩ ⟨by omega, by omega⟩ (fun wh10 => ?_) (fun wh10 => ?_)
          · refine aw_b kX6_ok bX6_playTwo_105_ok (Cs := []) (pc' := 106) (L' := [some (aR 0 0), some (aI a), some (aI b), some (aI n), some (aI (k : Int)), some (aI ((dvN (twR r a b ((k : Int) / 2) ((k : Int) % 2)) a i) + 1)), some (aI (dvN (twR r a b ((k : Int) / 2) ((k : Int) % 2)) b i)), some (aI (i : Int))]) (st' := [aI 0, aI (dvN (twR r a b ((k : Int) / 2) ((k : Int) % 2)) b i)]) (σ' := τ9) rfl trivial ?_
            refine aw_b kX6_ok bX6_playTwo_106_ok (Cs := []) (pc' := 50) (L' := [some (aR 0 0), some (aI a), some (aI b), some (aI n), some (aI (k : Int)), some (aI ((dvN (twR r a b ((k : Int) / 2) ((k : Int) % 2)) a i) + 1)), some (aI ((dvN (twR r a b ((k : Int) / 2) ((k : Int) % 2)) b i) + 0)), some (aI ((i : Int) + 1))]) (st' := []) (σ' := τ9) rfl trivial ?_
            have e1 : dvN (twR r a b ((k : Int) / 2) ((k : Int) % 2)) a i + 1 = dvN (twR r a b ((k : Int) / 2) ((k : Int) % 2)) a (i + 1) := by rw [dvN, if_neg (by omega)]
            have e2 : dvN (twR r a b ((k : Int) / 2) ((k : Int) % 2)) b i + 0 = dvN (twR r a b ((k : Int) / 2) ((k : Int) % 2)) b (i + 1) := by rw [dvN, if_pos (by omega)]
            exact aw_eq (by rw [e1, e2]; rfl) rfl rfl (ihi (by omega) τ9 hT9 (aFr_tr hG hF9))
          · refine aw_b kX6_ok bX6_playTwo_101_ok (Cs := []) (pc' := 106) (L' := [some (aR 0 0), some (aI a), some (aI b), some (aI n), some (aI (k : Int)), some (aI ((dvN (twR r a b ((k : Int) / 2) ((k : Int) % 2)) a i) + 1)), some (aI (dvN (twR r a b ((k : Int) / 2) ((k : Int) % 2)) b i)), some (aI (i : Int))]) (st' := [aI 1, aI (dvN (twR r a b ((k : Int) / 2) ((k : Int) % 2)) b i)]) (σ' := τ9) rfl trivial ?_
            refine aw_b kX6_ok bX6_playTwo_106_ok (Cs := []) (pc' := 50) (L' := [some (aR 0 0), some (aI a), some (aI b), some (aI n), some (aI (k : Int)), some (aI ((dvN (twR r a b ((k : Int) / 2) ((k : Int) % 2)) a i) + 1)), some (aI ((dvN (twR r a b ((k : Int) / 2) ((k : Int) % 2)) b i) + 1)), some (aI ((i : Int) + 1))]) (st' := []) (σ' := τ9) rfl trivial ?_
            have e1 : dvN (twR r a b ((k : Int) / 2) ((k : Int) % 2)) a i + 1 = dvN (twR r a b ((k : Int) / 2) ((k : Int) % 2)) a (i + 1) := by rw [dvN, if_neg (by omega)]
            have e2 : dvN (twR r a b ((k : Int) / 2) ((k : Int) % 2)) b i + 1 = dvN (twR r a b ((k : Int) / 2) ((k : Int) % 2)) b (i + 1) := by rw [dvN, if_neg (by omega)]
            exact aw_eq (by rw [e1, e2]; rfl) rfl rfl (ihi (by omega) τ9 hT9 (aFr_tr hG hF9))
  · refine aw_b kX6_ok bX6_playTwo_18_ok (Cs := [0 < 1]) (pc' := 23) (L' := [some (aR 0 0), some (aI a), some (aI b), some (aI n), some (aI (k : Int)), none, none, none]) (st' := [aI a, aR 1 1]) (σ' := τ1) rfl (show 0 < 1 from by omega) ?_
    refine aw_callV lX6_321 (as := [aI a]) (rest := []) (t := 1) (c := 1) (by decide) (by decide) (by decide) rfl rfl (Nat.le_of_ble_eq_true rfl) rfl dX6_playTwo_23 (cC_sendHome l a 1 (by decide) τ1 r hT1 hw (by omega) (by omega)) ?_
    rintro _ τ2 ⟨rfl, hR21, hF21, h321⟩
    have hR2 : Rep τ2 1 (tw0 r a ((k : Int) / 2)) := by unfold tw0; rw [if_pos (by omega)]; exact hR21
    have hG2 := aFr_tr hF1 hF21
    refine aw_b kX6_ok bX6_playTwo_26_ok (Cs := []) (pc' := 30) (L' := [some (aR 0 0), some (aI a), some (aI b), some (aI n), some (aI (k : Int)), none, none, none]) (st' := [aI (aAnd (k : Int) 1)]) (σ' := τ2) rfl trivial ?_
    refine aw_ine dX6_playTwo_30 (tgt := 41) (by decide) ⟨by omega, by omega⟩ (fun wh11 => ?_) (fun wh11 => ?_)
    · have hR3 : Rep τ2 1 (twR r a b ((k : Int) / 2) ((k : Int) % 2)) := by unfold twR; unfold tw0; rw [if_neg (show ¬ (k : Int) % 2 = 0 by omega)]; unfold tw0 at hR2; exact hR2
      have hG3 := hG2
      refine aw_b kX6_ok bX6_playTwo_41_ok (Cs := []) (pc' := 50) (L' := [some (aR 0 0), some (aI a), some (aI b), some (aI n), some (aI (k : Int)), some (aI 0), some (aI 0), some (aI 0)]) (st' := []) (σ' := τ2) rfl trivial ?_
      refine aloop (P := fun i : Nat => ∀ (ρ : aS) (hQ : Rep ρ 1 (dysR (twR r a b ((k : Int) / 2) ((k : Int) % 2)) i)) (hG : aFr (Cb 1) σ ρ), AW l 4 mX6_playTwo _ 50 [some (aR 0 0), some (aI a), some (aI b), some (aI n), some (aI (k : Int)), some (aI (dvN (twR r a b ((k : Int) / 2) ((k : Int) % 2)) a i)), some (aI (dvN (twR r a b ((k : Int) / 2) ((k : Int) % 2)) b i)), some (aI (i : Int))] [] ρ) n.toNat (fun i hi ihi ρ hQ hG => ?_) τ2 hR3 hG3
      have eD := dysR_0 (twR r a b ((k : Int) / 2) ((k : Int) % 2)) i
      have gA := dvN_rng (twR r a b ((k : Int) / 2) ((k : Int) % 2)) a i
      have gB := dvN_rng (twR r a b ((k : Int) / 2) ((k : Int) % 2)) b i
      refine aw_b kX6_ok bX6_playTwo_50_ok (Cs := []) (pc' := 53) (L' := [some (aR 0 0), some (aI a), some (aI b), some (aI n), some (aI (k : Int)), some (aI (dvN (twR r a b ((k : Int) / 2) ((k : Int) % 2)) a i)), some (aI (dvN (twR r a b ((k : Int) / 2) ((k : Int) % 2)) b i)), some (aI (i : Int))]) (st' := [aI n, aI (i : Int)]) (σ' := ρ) rfl trivial ?_
      refine aw_cge dX6_playTwo_53 (tgt := 115) (by decide) ⟨by omega, by omega⟩ ⟨by omega, by omega⟩ (fun wh12 => ?_) (fun wh12 => ?_)
      · have ei : i = n.toNat := by omega
        have hwE := dysR_wf hwR i
        have bpa8 := hwE.pe (p := a) (by omega) (by omega)
        have rpa8 := hQ.pe (p := a) (by omega) (by omega)
        have boa8 := off_rng (dysR (twR r a b ((k : Int) / 2) ((k : Int) % 2)) i) a
        have noa8 := nb_cases (off (dysR (twR r a b ((k : Int) / 2) ((k : Int) % 2)) i) a)
        have bpb8 := hwE.pe (p := b) (by omega) (by omega)
        have rpb8 := hQ.pe (p := b) (by omega) (by omega)
        have bob8 := off_rng (dysR (twR r a b ((k : Int) / 2) ((k : Int) % 2)) i) b
        have nob8 := nb_cases (off (dysR (twR r a b ((k : Int) / 2) ((k : Int) % 2)) i) b)
        have eb4 : ∀ x, aUp ρ 20 0 (k : Int) x 4 1 b = ρ 4 1 b := fun x => aUp_tag (by decide)
        have zz := eb4 (dvN (twR r a b ((k : Int) / 2) ((k : Int) % 2)) a i - (Int.tdiv (ρ 4 1 a) 10))
        refine aw_b kX6_ok bX6_playTwo_115_ok (Cs := [0 < 1, 0 < 1, 1 < 3, 1 < 3, 0 ≤ a ∧ a < 8, -2147483648 ≤ ρ 4 1 a ∧ ρ 4 1 a < 2147483648, 0 < 10 ∧ 10 < 2147483648, 0 < 2, 0 ≤ (k : Int) ∧ (k : Int) < 4, 0 < 1, 0 < 1, 1 < 3, 1 < 3, 0 ≤ b ∧ b < 8, -2147483648 ≤ (aUp ρ 20 0 (k : Int) ((dvN (twR r a b ((k : Int) / 2) ((k : Int) % 2)) a i) - (Int.tdiv (ρ 4 1 a) 10))) 4 1 b ∧ (aUp ρ 20 0 (k : Int) ((dvN (twR r a b ((k : Int) / 2) ((k : Int) % 2)) a i) - (Int.tdiv (ρ 4 1 a) 10))) 4 1 b < 2147483648, 0 < 10 ∧ 10 < 2147483648, 1 < 2, 0 ≤ (k : Int) ∧ (k : Int) < 4]) (pc' := 159) (L' := [some (aR 0 0), some (aI a), some (aI b), some (aI n), some (aI (k : Int)), some (aI (dvN (twR r a b ((k : Int) / 2) ((k : Int) % 2)) a i)), some (aI (dvN (twR r a b ((k : Int) / 2) ((k : Int) % 2)) b i)), some (aI (i : Int))]) (st' := []) (σ' := aUp (aUp ρ 20 0 (k : Int) ((dvN (twR r a b ((k : Int) / 2) ((k : Int) % 2)) a i) - (Int.tdiv (ρ 4 1 a) 10))) 20 1 (k : Int) ((dvN (twR r a b ((k : Int) / 2) ((k : Int) % 2)) b i) - (Int.tdiv ((aUp ρ 20 0 (k : Int) ((dvN (twR r a b ((k : Int) / 2) ((k : Int) % 2)) a i) - (Int.tdiv (ρ 4 1 a) 10))) 4 1 b) 10))) rfl (show (0 < 1) ∧ (0 < 1) ∧ (1 < 3) ∧ (1 < 3) ∧ (0 ≤ a ∧ a < 8) ∧ (-2147483648 ≤ ρ 4 1 a ∧ ρ 4 1 a < 2147483648) ∧ (0 < 10 ∧ 10 < 2147483648) ∧ (0 < 2) ∧ (0 ≤ (k : Int) ∧ (k : Int) < 4) ∧ (0 < 1) ∧ (0 < 1) ∧ (1 < 3) ∧ (1 < 3) ∧ (0 ≤ b ∧ b < 8) ∧ (-2147483648 ≤ (aUp ρ 20 0 (k : Int) ((dvN (twR r a b ((k : Int) / 2) ((k : Int) % 2)) a i) - (Int.tdiv (ρ 4 1 a) 10))) 4 1 b ∧ (aUp ρ 20 0 (k : Int) ((dvN (twR r a b ((k : Int) / 2) ((k : Int) % 2)) a i) - (Int.tdiv (ρ 4 1 a) 10))) 4 1 b < 2147483648) ∧ (0 < 10 ∧ 10 < 2147483648) ∧ (1 < 2) ∧ (0 ≤ (k : Int) ∧ (k : Int) < 4) from ⟨by omega, by omega, by omega, by omega, by omega, by omega, by omega, by omega, by omega, by omega, by omega, by omega, by omega, by omega, by omega, by omega, by omega, by omega⟩) ?_
        exact aw_vret dX6_playTwo_159 rfl ⟨rfl, aFr_tr (aFrC hG) (aFr_tr (aFr_up (CSt 0)) (aFr_up (CSt 1))), by rw [aUp_off (fun q => absurd q.2 (by decide)), aUp_same, ← ei]; unfold haF; rw [rpa8.2.2.1], by rw [aUp_same, zz, ← ei]; unfold haF; rw [rpb8.2.2.1], fun j hj => ⟨by rw [aUp_off (fun q => absurd q.2 (by decide)), aUp_idx hj]; exact hG 20 0 j (fun q => absurd q.2.1 (by decide)), by rw [aUp_idx hj, aUp_off (fun q => absurd q.2 (by decide))]; exact hG 20 1 j (fun q => absurd q.2.1 (by decide))⟩⟩
      · refine aw_b kX6_ok bX6_playTwo_56_ok (Cs := [0 < 1]) (pc' := 60) (L' := [some (aR 0 0), some (aI a), some (aI b), some (aI n), some (aI (k : Int)), some (aI (dvN (twR r a b ((k : Int) / 2) ((k : Int) % 2)) a i)), some (aI (dvN (twR r a b ((k : Int) / 2) ((k : Int) % 2)) b i)), some (aI (i : Int))]) (st' := [aR 1 1]) (σ' := ρ) rfl (show 0 < 1 from by omega) ?_
        refine aw_callV lX6_178 (as := []) (rest := []) (t := 1) (c := 1) (by decide) (by decide) (by decide) rfl rfl (Nat.le_of_ble_eq_true rfl) rfl dX6_playTwo_60 (cC_oneDay l 1 (by decide) ρ (dysR (twR r a b ((k : Int) / 2) ((k : Int) % 2)) i) hQ (dysR_wf hwR _) (by omega)) ?_
        rintro _ τ9 ⟨rfl, hT9, hF9, h39⟩
        have eD9 := dysR_0 (twR r a b ((k : Int) / 2) ((k : Int) % 2)) (i + 1)
        have hw9 : WF (dysR (twR r a b ((k : Int) / 2) ((k : Int) % 2)) (i + 1)) := dysR_wf hwR (i + 1)
        have hT9r : Rep τ9 1 (dysR (twR r a b ((k : Int) / 2) ((k : Int) % 2)) (i + 1)) := hT9
        have bpa9 := hw9.pe (p := a) (by omega) (by omega)
        have rpa9 := hT9r.pe (p := a) (by omega) (by omega)
        have boa9 := off_rng (dysR (twR r a b ((k : Int) / 2) ((k : Int) % 2)) (i + 1)) a
        have noa9 := nb_cases (off (dysR (twR r a b ((k : Int) / 2) ((k : Int) % 2)) (i + 1)) a)
        have bpb9 := hw9.pe (p := b) (by omega) (by omega)
        have rpb9 := hT9r.pe (p := b) (by omega) (by omega)
        have bob9 := off_rng (dysR (twR r a b ((k : Int) / 2) ((k : Int) % 2)) (i + 1)) b
        have nob9 := nb_cases (off (dysR (twR r a b ((k : Int) / 2) ((k : Int) % 2)) (i + 1)) b)
        refine aw_b kX6_ok bX6_playTwo_63_ok (Cs := [0 < 1, 1 < 3, 1 < 3, 0 ≤ a ∧ a < 8]) (pc' := 75) (L' := [some (aR 0 0), some (aI a), some (aI b), some (aI n), some (aI (k : Int)), some (aI (dvN (twR r a b ((k : Int) / 2) ((k : Int) % 2)) a i)), some (aI (dvN (twR r a b ((k : Int) / 2) ((k : Int) % 2)) b i)), some (aI (i : Int))]) (st' := [aI (-1), aI (τ9 6 1 a), aI (dvN (twR r a b ((k : Int) / 2) ((k : Int) % 2)) a i)]) (σ' := τ9) rfl (show (0 < 1) ∧ (1 < 3) ∧ (1 < 3) ∧ (0 ≤ a ∧ a < 8) from ⟨by omega, by omega, by omega, by omega⟩) ?_
        refine aw_ceq dX6_playTwo_75 (tgt := 82) (by decide) ⟨by omega, by omega⟩ ⟨by omega, by omega⟩ (fun wh13 => ?_) (fun wh13 => ?_)
        · refine aw_b kX6_ok bX6_playTwo_82_ok (Cs := []) (pc' := 83) (L' := [some (aR 0 0), some (aI a), some (aI b), some (aI n), some (aI (k : Int)), some (aI (dvN (twR r a b ((k : Int) / 2) ((k : Int) % 2)) a i)), some (aI (dvN (twR r a b ((k : Int) / 2) ((k : Int) % 2)) b i)), some (aI (i : Int))]) (st' := [aI 0, aI (dvN (twR r a b ((k : Int) / 2) ((k : Int) % 2)) a i)]) (σ' := τ9) rfl trivial ?_
          refine aw_b kX6_ok bX6_playTwo_83_ok (Cs := [0 < 1, 1 < 3, 1 < 3, 0 ≤ b ∧ b < 8]) (pc' := 98) (L' := [some (aR 0 0), some (aI a), some (aI b), some (aI n), some (aI (k : Int)), some (aI ((dvN (twR r a b ((k : Int) / 2) ((k : Int) % 2)) a i) + 0)), some (aI (dvN (twR r a b ((k : Int) / 2) ((k : Int) % 2)) b i)), some (aI (i : Int))]) (st' := [aI (-1), aI (τ9 6 1 b), aI (dvN (twR r a b ((k : Int) / 2) ((k : Int) % 2)) b i)]) (σ' := τ9) rfl (show (0 < 1) ∧ (1 < 3) ∧ (1 < 3) ∧ (0 ≤ b ∧ b < 8) from ⟨by omega, by omega, by omega, by omega⟩) ?_
          refine aw_ceq dX6_playTwo_98 (tgt := 105) (by decide) ⟨by omega, by omega⟩ ⟨by omega, by omega⟩ (fun wh14 => ?_) (fun wh14 => ?_)
          · refine aw_b kX6_ok bX6_playTwo_105_ok (Cs := []) (pc' := 106) (L' := [some (aR 0 0), some (aI a), some (aI b), some (aI n), some (aI (k : Int)), some (aI ((dvN (twR r a b ((k : Int) / 2) ((k : Int) % 2)) a i) + 0)), some (aI (dvN (twR r a b ((k : Int) / 2) ((k : Int) % 2)) b i)), some (aI (i : Int))]) (st' := [aI 0, aI (dvN (twR r a b ((k : Int) / 2) ((k : Int) % 2)) b i)]) (σ' := τ9) rfl trivial ?_
            refine aw_b kX6_ok bX6_playTwo_106_ok (Cs := []) (pc' := 50) (L' := [some (aR 0 0), some (aI a), some (aI b), some (aI n), some (aI (k : Int)), some (aI ((dvN (twR r a b ((k : Int) / 2) ((k : Int) % 2)) a i) + 0)), some (aI ((dvN (twR r a b ((k : Int) / 2) ((k : Int) % 2)) b i) + 0)), some (aI ((i : Int) + 1))]) (st' := []) (σ' := τ9) rfl trivial ?_
            have e1 : dvN (twR r a b ((k : Int) / 2) ((k : Int) % 2)) a i + 0 = dvN (twR r a b ((k : Int) / 2) ((k : Int) % 2)) a (i + 1) := by rw [dvN, if_pos (by omega)]
            have e2 : dvN (twR r a b ((k : Int) / 2) ((k : Int) % 2)) b i + 0 = dvN (twR r a b ((k : Int) / 2) ((k : Int) % 2)) b (i + 1) := by rw [dvN, if_pos (by omega)]
            exact aw_eq (by rw [e1, e2]; rfl) rfl rfl (ihi (by omega) τ9 hT9 (aFr_tr hG hF9))
          · refine aw_b kX6_ok bX6_playTwo_101_ok (Cs := []) (pc' := 106) (L' := [some (aR 0 0), some (aI a), some (aI b), some (aI n), some (aI (k : Int)), some (aI ((dvN (twR r a b ((k : Int) / 2) ((k : Int) % 2)) a i) + 0)), some (aI (dvN (twR r a b ((k : Int) / 2) ((k : Int) % 2)) b i)), some (aI (i : Int))]) (st' := [aI 1, aI (dvN (twR r a b ((k : Int) / 2) ((k : Int) % 2)) b i)]) (σ' := τ9) rfl trivial ?_
            refine aw_b kX6_ok bX6_playTwo_106_ok (Cs := []) (pc' := 50) (L' := [some (aR 0 0), some (aI a), some (aI b), some (aI n), some (aI (k : Int)), some (aI ((dvN (twR r a b ((k : Int) / 2) ((k : Int) % 2)) a i) + 0)), some (aI ((dvN (twR r a b ((k : Int) / 2) ((k : Int) % 2)) b i) + 1)), some (aI ((i : Int) + 1))]) (st' := []) (σ' := τ9) rfl trivial ?_
            have e1 : dvN (twR r a b ((k : Int) / 2) ((k : Int) % 2)) a i + 0 = dvN (twR r a b ((k : Int) / 2) ((k : Int) % 2)) a (i + 1) := by rw [dvN, if_pos (by omega)]
            have e2 : dvN (twR r a b ((k : Int) / 2) ((k : Int) % 2)) b i + 1 = dvN (twR r a b ((k : Int) / 2) ((k : Int) % 2)) b (i + 1) := by rw [dvN, if_neg (by omega)]
            exact aw_eq (by rw [e1, e2]; rfl) rfl rfl (ihi (by omega) τ9 hT9 (aFr_tr hG hF9))
        · refine aw_b kX6_ok bX6_playTwo_78_ok (Cs := []) (pc' := 83) (L' := [some (aR 0 0), some (aI a), some (aI b), some (aI n), some (aI (k : Int)), some (aI (dvN (twR r a b ((k : Int) / 2) ((k : Int) % 2)) a i)), some (aI (dvN (twR r a b ((k : Int) / 2) ((k : Int) % 2)) b i)), some (aI (i : Int))]) (st' := [aI 1, aI (dvN (twR r a b ((k : Int) / 2) ((k : Int) % 2)) a i)]) (σ' := τ9) rfl trivial ?_
          refine aw_b kX6_ok bX6_playTwo_83_ok (Cs := [0 < 1, 1 < 3, 1 < 3, 0 ≤ b ∧ b < 8]) (pc' := 98) (L' := [some (aR 0 0), some (aI a), some (aI b), some (aI n), some (aI (k : Int)), some (aI ((dvN (twR r a b ((k : Int) / 2) ((k : Int) % 2)) a i) + 1)), some (aI (dvN (twR r a b ((k : Int) / 2) ((k : Int) % 2)) b i)), some (aI (i : Int))]) (st' := [aI (-1), aI (τ9 6 1 b), aI (dvN (twR r a b ((k : Int) / 2) ((k : Int) % 2)) b i)]) (σ' := τ9) rfl (show (0 < 1) ∧ (1 < 3) ∧ (1 < 3) ∧ (0 ≤ b ∧ b < 8) from ⟨by omega, by omega, by omega, by omega⟩) ?_
          refine aw_ceq dX6_playTwo_98 (tgt := 105) (by decide) ⟨by omega, by omega⟩ ⟨by omega, by omega⟩ (fun wh15 => ?_) (fun wh15 => ?_)
          · refine aw_b kX6_ok bX6_playTwo_105_ok (Cs := []) (pc' := 106) (L' := [some (aR 0 0), some (aI a), some (aI b), some (aI n), some (aI (k : Int)), some (aI ((dvN (twR r a b ((k : Int) / 2) ((k : Int) % 2)) a i) + 1)), some (aI (dvN (twR r a b ((k : Int) / 2) ((k : Int) % 2)) b i)), some (aI (i : Int))]) (st' := [aI 0, aI (dvN (twR r a b ((k : Int) / 2) ((k : Int) % 2)) b i)]) (σ' := τ9) rfl trivial ?_
            refine aw_b kX6_ok bX6_playTwo_106_ok (Cs := []) (pc' := 50) (L' := [some (aR 0 0), some (aI a), some (aI b), some (aI n), some (aI (k : Int)), some (aI ((dvN (twR r a b ((k : Int) / 2) ((k : Int) % 2)) a i) + 1)), some (aI ((dvN (twR r a b ((k : Int) / 2) ((k : Int) % 2)) b i) + 0)), some (aI ((i : Int) + 1))]) (st' := []) (σ' := τ9) rfl trivial ?_
            have e1 : dvN (twR r a b ((k : Int) / 2) ((k : Int) % 2)) a i + 1 = dvN (twR r a b ((k : Int) / 2) ((k : Int) % 2)) a (i + 1) := by rw [dvN, if_neg (by omega)]
            have e2 : dvN (twR r a b ((k : Int) / 2) ((k : Int) % 2)) b i + 0 = dvN (twR r a b ((k : Int) / 2) ((k : Int) % 2)) b (i + 1) := by rw [dvN, if_pos (by omega)]
            exact aw_eq (by rw [e1, e2]; rfl) rfl rfl (ihi (by omega) τ9 hT9 (aFr_tr hG hF9))
          · refine aw_b kX6_ok bX6_playTwo_101_ok (Cs := []) (pc' := 106) (L' := [some (aR 0 0), some (aI a), some (aI b), some (aI n), some (aI (k : Int)), some (aI ((dvN (twR r a b ((k : Int) / 2) ((k : Int) % 2)) a i) + 1)), some (aI (dvN (twR r a b ((k : Int) / 2) ((k : Int) % 2)) b i)), some (aI (i : Int))]) (st' := [aI 1, aI (dvN (twR r a b ((k : Int) / 2) ((k : Int) % 2)) b i)]) (σ' := τ9) rfl trivial ?_
            refine aw_b kX6_ok bX6_playTwo_106_ok (Cs := []) (pc' := 50) (L' := [some (aR 0 0), some (aI a), some (aI b), some (aI n), some (aI (k : Int)), some (aI ((dvN (twR r a b ((k : Int) / 2) ((k : Int) % 2)) a i) + 1)), some (aI ((dvN (twR r a b ((k : Int) / 2) ((k : Int) % 2)) b i) + 1)), some (aI ((i : Int) + 1))]) (st' := []) (σ' := τ9) rfl trivial ?_
            have e1 : dvN (twR r a b ((k : Int) / 2) ((k : Int) % 2)) a i + 1 = dvN (twR r a b ((k : Int) / 2) ((k : Int) % 2)) a (i + 1) := by rw [dvN, if_neg (by omega)]
            have e2 : dvN (twR r a b ((k : Int) / 2) ((k : Int) % 2)) b i + 1 = dvN (twR r a b ((k : Int) / 2) ((k : Int) % 2)) b (i + 1) := by rw [dvN, if_neg (by omega)]
            exact aw_eq (by rw [e1, e2]; rfl) rfl rfl (ihi (by omega) τ9 hT9 (aFr_tr hG hF9))
    · refine aw_b kX6_ok bX6_playTwo_33_ok (Cs := [0 < 1]) (pc' := 38) (L' := [some (aR 0 0), some (aI a), some (aI b), some (aI n), some (aI (k : Int)), none, none, none]) (st' := [aI b, aR 1 1]) (σ' := τ2) rfl (show 0 < 1 from by omega) ?_
      refine aw_callV lX6_321 (as := [aI b]) (rest := []) (t := 1) (c := 1) (by decide) (by decide) (by decide) rfl rfl (Nat.le_of_ble_eq_true rfl) rfl dX6_playTwo_38 (cC_sendHome l b 1 (by decide) τ2 _ hR2 hw0 (by omega) (by omega)) ?_
      rintro _ τ3 ⟨rfl, hR31, hF31, h331⟩
      have hR3 : Rep τ3 1 (twR r a b ((k : Int) / 2) ((k : Int) % 2)) := by unfold twR; unfold tw0; rw [if_pos (show (k : Int) % 2 = 0 by omega)]; unfold tw0 at hR31; exact hR31
      have hG3 := aFr_tr hG2 hF31
      refine aw_b kX6_ok bX6_playTwo_41_ok (Cs := []) (pc' := 50) (L' := [some (aR 0 0), some (aI a), some (aI b), some (aI n), some (aI (k : Int)), some (aI 0), some (aI 0), some (aI 0)]) (st' := []) (σ' := τ3) rfl trivial ?_
      refine aloop (P := fun i : Nat => ∀ (ρ : aS) (hQ : Rep ρ 1 (dysR (twR r a b ((k : Int) / 2) ((k : Int) % 2)) i)) (hG : aFr (Cb 1) σ ρ), AW l 4 mX6_playTwo _ 50 [some (aR 0 0), some (aI a), some (aI b), some (aI n), some (aI (k : Int)), some (aI (dvN (twR r a b ((k : Int) / 2) ((k : Int) % 2)) a i)), some (aI (dvN (twR r a b ((k : Int) / 2) ((k : Int) % 2)) b i)), some (aI (i : Int))] [] ρ) n.toNat (fun i hi ihi ρ hQ hG => ?_) τ3 hR3 hG3
      have eD := dysR_0 (twR r a b ((k : Int) / 2) ((k : Int) % 2)) i
      have gA := dvN_rng (twR r a b ((k : Int) / 2) ((k : Int) % 2)) a i
      have gB := dvN_rng (twR r a b ((k : Int) / 2) ((k : Int) % 2)) b i
      refine aw_b kX6_ok bX6_playTwo_50_ok (Cs := []) (pc' := 53) (L' := [some (aR 0 0), some (aI a), some (aI b), some (aI n), some (aI (k : Int)), some (aI (dvN (twR r a b ((k : Int) / 2) ((k : Int) % 2)) a i)), some (aI (dvN (twR r a b ((k : Int) / 2) ((k : Int) % 2)) b i)), some (aI (i : Int))]) (st' := [aI n, aI (i : Int)]) (σ' := ρ) rfl trivial ?_
      refine aw_cge dX6_playTwo_53 (tgt := 115) (by decide) ⟨by omega, by omega⟩ ⟨by omega, by omega⟩ (fun wh16 => ?_) (fun wh16 => ?_)
      · have ei : i = n.toNat := by omega
        have hwE := dysR_wf hwR i
        have bpa8 := hwE.pe (p := a) (by omega) (by omega)
        have rpa8 := hQ.pe (p := a) (by omega) (by omega)
        have boa8 := off_rng (dysR (twR r a b ((k : Int) / 2) ((k : Int) % 2)) i) a
        have noa8 := nb_cases (off (dysR (twR r a b ((k : Int) / 2) ((k : Int) % 2)) i) a)
        have bpb8 := hwE.pe (p := b) (by omega) (by omega)
        have rpb8 := hQ.pe (p := b) (by omega) (by omega)
        have bob8 := off_rng (dysR (twR r a b ((k : Int) / 2) ((k : Int) % 2)) i) b
        have nob8 := nb_cases (off (dysR (twR r a b ((k : Int) / 2) ((k : Int) % 2)) i) b)
        have eb4 : ∀ x, aUp ρ 20 0 (k : Int) x 4 1 b = ρ 4 1 b := fun x => aUp_tag (by decide)
        have zz := eb4 (dvN (twR r a b ((k : Int) / 2) ((k : Int) % 2)) a i - (Int.tdiv (ρ 4 1 a) 10))
        refine aw_b kX6_ok bX6_playTwo_115_ok (Cs := [0 < 1, 0 < 1, 1 < 3, 1 < 3, 0 ≤ a ∧ a < 8, -2147483648 ≤ ρ 4 1 a ∧ ρ 4 1 a < 2147483648, 0 < 10 ∧ 10 < 2147483648, 0 < 2, 0 ≤ (k : Int) ∧ (k : Int) < 4, 0 < 1, 0 < 1, 1 < 3, 1 < 3, 0 ≤ b ∧ b < 8, -2147483648 ≤ (aUp ρ 20 0 (k : Int) ((dvN (twR r a b ((k : Int) / 2) ((k : Int) % 2)) a i) - (Int.tdiv (ρ 4 1 a) 10))) 4 1 b ∧ (aUp ρ 20 0 (k : Int) ((dvN (twR r a b ((k : Int) / 2) ((k : Int) % 2)) a i) - (Int.tdiv (ρ 4 1 a) 10))) 4 1 b < 2147483648, 0 < 10 ∧ 10 < 2147483648, 1 < 2, 0 ≤ (k : Int) ∧ (k : Int) < 4]) (pc' := 159) (L' := [some (aR 0 0), some (aI a), some (aI b), some (aI n), some (aI (k : Int)), some (aI (dvN (twR r a b ((k : Int) / 2) ((k : Int) % 2)) a i)), some (aI (dvN (twR r a b ((k : Int) / 2) ((k : Int) % 2)) b i)), some (aI (i : Int))]) (st' := []) (σ' := aUp (aUp ρ 20 0 (k : Int) ((dvN (twR r a b ((k : Int) / 2) ((k : Int) % 2)) a i) - (Int.tdiv (ρ 4 1 a) 10))) 20 1 (k : Int) ((dvN (twR r a b ((k : Int) / 2) ((k : Int) % 2)) b i) - (Int.tdiv ((aUp ρ 20 0 (k : Int) ((dvN (twR r a b ((k : Int) / 2) ((k : Int) % 2)) a i) - (Int.tdiv (ρ 4 1 a) 10))) 4 1 b) 10))) rfl (show (0 < 1) ∧ (0 < 1) ∧ (1 < 3) ∧ (1 < 3) ∧ (0 ≤ a ∧ a < 8) ∧ (-2147483648 ≤ ρ 4 1 a ∧ ρ 4 1 a < 2147483648) ∧ (0 < 10 ∧ 10 < 2147483648) ∧ (0 < 2) ∧ (0 ≤ (k : Int) ∧ (k : Int) < 4) ∧ (0 < 1) ∧ (0 < 1) ∧ (1 < 3) ∧ (1 < 3) ∧ (0 ≤ b ∧ b < 8) ∧ (-2147483648 ≤ (aUp ρ 20 0 (k : Int) ((dvN (twR r a b ((k : Int) / 2) ((k : Int) % 2)) a i) - (Int.tdiv (ρ 4 1 a) 10))) 4 1 b ∧ (aUp ρ 20 0 (k : Int) ((dvN (twR r a b ((k : Int) / 2) ((k : Int) % 2)) a i) - (Int.tdiv (ρ 4 1 a) 10))) 4 1 b < 2147483648) ∧ (0 < 10 ∧ 10 < 2147483648) ∧ (1 < 2) ∧ (0 ≤ (k : Int) ∧ (k : Int) < 4) from ⟨by omega, by omega, by omega, by omega, by omega, by omega, by omega, by omega, by omega, by omega, by omega, by omega, by omega, by omega, by omega, by omega, by omega, by omega⟩) ?_
        exact aw_vret dX6_playTwo_159 rfl ⟨rfl, aFr_tr (aFrC hG) (aFr_tr (aFr_up (CSt 0)) (aFr_up (CSt 1))), by rw [aUp_off (fun q => absurd q.2 (by decide)), aUp_same, ← ei]; unfold haF; rw [rpa8.2.2.1], by rw [aUp_same, zz, ← ei]; unfold haF; rw [rpb8.2.2.1], fun j hj => ⟨by rw [aUp_off (fun q => absurd q.2 (by decide)), aUp_idx hj]; exact hG 20 0 j (fun q => absurd q.2.1 (by decide)), by rw [aUp_idx hj, aUp_off (fun q => absurd q.2 (by decide))]; exact hG 20 1 j (fun q => absurd q.2.1 (by decide))⟩⟩
      · refine aw_b kX6_ok bX6_playTwo_56_ok (Cs := [0 < 1]) (pc' := 60) (L' := [some (aR 0 0), some (aI a), some (aI b), some (aI n), some (aI (k : Int)), some (aI (dvN (twR r a b ((k : Int) / 2) ((k : Int) % 2)) a i)), some (aI (dvN (twR r a b ((k : Int) / 2) ((k : Int) % 2)) b i)), some (aI (i : Int))]) (st' := [aR 1 1]) (σ' := ρ) rfl (show 0 < 1 from by omega) ?_
        refine aw_callV lX6_178 (as := []) (rest := []) (t := 1) (c := 1) (by decide) (by decide) (by decide) rfl rfl (Nat.le_of_ble_eq_true rfl) rfl dX6_playTwo_60 (cC_oneDay l 1 (by decide) ρ (dysR (twR r a b ((k : Int) / 2) ((k : Int) % 2)) i) hQ (dysR_wf hwR _) (by omega)) ?_
        rintro _ τ9 ⟨rfl, hT9, hF9, h39⟩
        have eD9 := dysR_0 (twR r a b ((k : Int) / 2) ((k : Int) % 2)) (i + 1)
        have hw9 : WF (dysR (twR r a b ((k : Int) / 2) ((k : Int) % 2)) (i + 1)) := dysR_wf hwR (i + 1)
        have hT9r : Rep τ9 1 (dysR (twR r a b ((k : Int) / 2) ((k : Int) % 2)) (i + 1)) := hT9
        have bpa9 := hw9.pe (p := a) (by omega) (by omega)
        have rpa9 := hT9r.pe (p := a) (by omega) (by omega)
        have boa9 := off_rng (dysR (twR r a b ((k : Int) / 2) ((k : Int) % 2)) (i + 1)) a
        have noa9 := nb_cases (off (dysR (twR r a b ((k : Int) / 2) ((k : Int) % 2)) (i + 1)) a)
        have bpb9 := hw9.pe (p := b) (by omega) (by omega)
        have rpb9 := hT9r.pe (p := b) (by omega) (by omega)
        have bob9 := off_rng (dysR (twR r a b ((k : Int) / 2) ((k : Int) % 2)) (i + 1)) b
        have nob9 := nb_cases (off (dysR (twR r a b ((k : Int) / 2) ((k : Int) % 2)) (i + 1)) b)
        refine aw_b kX6_ok bX6_playTwo_63_ok (Cs := [0 < 1, 1 < 3, 1 < 3, 0 ≤ a ∧ a < 8]) (pc' := 75) (L' := [some (aR 0 0), some (aI a), some (aI b), some (aI n), some (aI (k : Int)), some (aI (dvN (twR r a b ((k : Int) / 2) ((k : Int) % 2)) a i)), some (aI (dvN (twR r a b ((k : Int) / 2) ((k : Int) % 2)) b i)), some (aI (i : Int))]) (st' := [aI (-1), aI (τ9 6 1 a), aI (dvN (twR r a b ((k : Int) / 2) ((k : Int) % 2)) a i)]) (σ' := τ9) rfl (show (0 < 1) ∧ (1 < 3) ∧ (1 < 3) ∧ (0 ≤ a ∧ a < 8) from ⟨by omega, by omega, by omega, by omega⟩) ?_
        refine aw_ceq dX6_playTwo_75 (tgt := 82) (by decide) ⟨by omega, by omega⟩ ⟨by omega, by omega⟩ (fun wh17 => ?_) (fun wh17 => ?_)
        · refine aw_b kX6_ok bX6_playTwo_82_ok (Cs := []) (pc' := 83) (L' := [some (aR 0 0), some (aI a), some (aI b), some (aI n), some (aI (k : Int)), some (aI (dvN (twR r a b ((k : Int) / 2) ((k : Int) % 2)) a i)), some (aI (dvN (twR r a b ((k : Int) / 2) ((k : Int) % 2)) b i)), some (aI (i : Int))]) (st' := [aI 0, aI (dvN (twR r a b ((k : Int) / 2) ((k : Int) % 2)) a i)]) (σ' := τ9) rfl trivial ?_
          refine aw_b kX6_ok bX6_playTwo_83_ok (Cs := [0 < 1, 1 < 3, 1 < 3, 0 ≤ b ∧ b < 8]) (pc' := 98) (L' := [some (aR 0 0), some (aI a), some (aI b), some (aI n), some (aI (k : Int)), some (aI ((dvN (twR r a b ((k : Int) / 2) ((k : Int) % 2)) a i) + 0)), some (aI (dvN (twR r a b ((k : Int) / 2) ((k : Int) % 2)) b i)), some (aI (i : Int))]) (st' := [aI (-1), aI (τ9 6 1 b), aI (dvN (twR r a b ((k : Int) / 2) ((k : Int) % 2)) b i)]) (σ' := τ9) rfl (show (0 < 1) ∧ (1 < 3) ∧ (1 < 3) ∧ (0 ≤ b ∧ b < 8) from ⟨by omega, by omega, by omega, by omega⟩) ?_
          refine aw_ceq dX6_playTwo_98 (tgt := 105) (by decide) ⟨by omega, by omega⟩ ⟨by omega, by omega⟩ (fun wh18 => ?_) (fun wh18 => ?_)
          · refine aw_b kX6_ok bX6_playTwo_105_ok (Cs := []) (pc' := 106) (L' := [some (aR 0 0), some (aI a), some (aI b), some (aI n), some (aI (k : Int)), some (aI ((dvN (twR r a b ((k : Int) / 2) ((k : Int) % 2)) a i) + 0)), some (aI (dvN (twR r a b ((k : Int) / 2) ((k : Int) % 2)) b i)), some (aI (i : Int))]) (st' := [aI 0, aI (dvN (twR r a b ((k : Int) / 2) ((k : Int) % 2)) b i)]) (σ' := τ9) rfl trivial ?_
            refine aw_b kX6_ok bX6_playTwo_106_ok (Cs := []) (pc' := 50) (L' := [some (aR 0 0), some (aI a), some (aI b), some (aI n), some (aI (k : Int)), some (aI ((dvN (twR r a b ((k : Int) / 2) ((k : Int) % 2)) a i) + 0)), some (aI ((dvN (twR r a b ((k : Int) / 2) ((k : Int) % 2)) b i) + 0)), some (aI ((i : Int) + 1))]) (st' := []) (σ' := τ9) rfl trivial ?_
            have e1 : dvN (twR r a b ((k : Int) / 2) ((k : Int) % 2)) a i + 0 = dvN (twR r a b ((k : Int) / 2) ((k : Int) % 2)) a (i + 1) := by rw [dvN, if_pos (by omega)]
            have e2 : dvN (twR r a b ((k : Int) / 2) ((k : Int) % 2)) b i + 0 = dvN (twR r a b ((k : Int) / 2) ((k : Int) % 2)) b (i + 1) := by rw [dvN, if_pos (by omega)]
            exact aw_eq (by rw [e1, e2]; rfl) rfl rfl (ihi (by omega) τ9 hT9 (aFr_tr hG hF9))
          · refine aw_b kX6_ok bX6_playTwo_101_ok (Cs := []) (pc' := 106) (L' := [some (aR 0 0), some (aI a), some (aI b), some (aI n), some (aI (k : Int)), some (aI ((dvN (twR r a b ((k : Int) / 2) ((k : Int) % 2)) a i) + 0)), some (aI (dvN (twR r a b ((k : Int) / 2) ((k : Int) % 2)) b i)), some (aI (i : Int))]) (st' := [aI 1, aI (dvN (twR r a b ((k : Int) / 2) ((k : Int) % 2)) b i)]) (σ' := τ9) rfl trivial ?_
            refine aw_b kX6_ok bX6_playTwo_106_ok (Cs := []) (pc' := 50) (L' := [some (aR 0 0), some (aI a), some (aI b), some (aI n), some (aI (k : Int)), some (aI ((dvN (twR r a b ((k : Int) / 2) ((k : Int) % 2)) a i) + 0)), some (aI ((dvN (twR r a b ((k : Int) / 2) ((k : Int) % 2)) b i) + 1)), some (aI ((i : Int) + 1))]) (st' := []) (σ' := τ9) rfl trivial ?_
            have e1 : dvN (twR r a b ((k : Int) / 2) ((k : Int) % 2)) a i + 0 = dvN (twR r a b ((k : Int) / 2) ((k : Int) % 2)) a (i + 1) := by rw [dvN, if_pos (by omega)]
            have e2 : dvN (twR r a b ((k : Int) / 2) ((k : Int) % 2)) b i + 1 = dvN (twR r a b ((k : Int) / 2) ((k : Int) % 2)) b (i + 1) := by rw [dvN, if_neg (by omega)]
            exact aw_eq (by rw [e1, e2]; rfl) rfl rfl (ihi (by omega) τ9 hT9 (aFr_tr hG hF9))
        · refine aw_b kX6_ok bX6_playTwo_78_ok (Cs := []) (pc' := 83) (L' := [some (aR 0 0), some (aI a), some (aI b), some (aI n), some (aI (k : Int)), some (aI (dvN (twR r a b ((k : Int) / 2) ((k : Int) % 2)) a i)), some (aI (dvN (twR r a b ((k : Int) / 2) ((k : Int) % 2)) b i)), some (aI (i : Int))]) (st' := [aI 1, aI (dvN (twR r a b ((k : Int) / 2) ((k : Int) % 2)) a i)]) (σ' := τ9) rfl trivial ?_
          refine aw_b kX6_ok bX6_playTwo_83_ok (Cs := [0 < 1, 1 < 3, 1 < 3, 0 ≤ b ∧ b < 8]) (pc' := 98) (L' := [some (aR 0 0), some (aI a), some (aI b), some (aI n), some (aI (k : Int)), some (aI ((dvN (twR r a b ((k : Int) / 2) ((k : Int) % 2)) a i) + 1)), some (aI (dvN (twR r a b ((k : Int) / 2) ((k : Int) % 2)) b i)), some (aI (i : Int))]) (st' := [aI (-1), aI (τ9 6 1 b), aI (dvN (twR r a b ((k : Int) / 2) ((k : Int) % 2)) b i)]) (σ' := τ9) rfl (show (0 < 1) ∧ (1 < 3) ∧ (1 < 3) ∧ (0 ≤ b ∧ b < 8) from ⟨by omega, by omega, by omega, by omega⟩) ?_
          refine aw_ceq dX6_playTwo_98 (tgt := 105) (by decide) ⟨by omega, by omega⟩ ⟨by omega, by omega⟩ (fun wh19 => ?_) (fun wh19 => ?_)
          · refine aw_b kX6_ok bX6_playTwo_105_ok (Cs := []) (pc' := 106) (L' := [some (aR 0 0), some (aI a), some (aI b), some (aI n), some (aI (k : Int)), some (aI ((dvN (twR r a b ((k : Int) / 2) ((k : Int) % 2)) a i) + 1)), some (aI (dvN (twR r a b ((k : Int) / 2) ((k : Int) % 2)) b i)), some (aI (i : Int))]) (st' := [aI 0, aI (dvN (twR r a b ((k : Int) / 2) ((k : Int) % 2)) b i)]) (σ' := τ9) rfl trivial ?_
            refine aw_b kX6_ok bX6_playTwo_106_ok (Cs := []) (pc' := 50) (L' := [some (aR 0 0), some (aI a), some (aI b), some (aI n), some (aI (k : Int)), some (aI ((dvN (twR r a b ((k : Int) / 2) ((k : Int) % 2)) a i) + 1)), some (aI ((dvN (twR r a b ((k : Int) / 2) ((k : Int) % 2)) b i) + 0)), some (aI ((i : Int) + 1))]) (st' := []) (σ' := τ9) rfl trivial ?_
            have e1 : dvN (twR r a b ((k : Int) / 2) ((k : Int) % 2)) a i + 1 = dvN (twR r a b ((k : Int) / 2) ((k : Int) % 2)) a (i + 1) := by rw [dvN, if_neg (by omega)]
            have e2 : dvN (twR r a b ((k : Int) / 2) ((k : Int) % 2)) b i + 0 = dvN (twR r a b ((k : Int) / 2) ((k : Int) % 2)) b (i + 1) := by rw [dvN, if_pos (by omega)]
            exact aw_eq (by rw [e1, e2]; rfl) rfl rfl (ihi (by omega) τ9 hT9 (aFr_tr hG hF9))
          · refine aw_b kX6_ok bX6_playTwo_101_ok (Cs := []) (pc' := 106) (L' := [some (aR 0 0), some (aI a), some (aI b), some (aI n), some (aI (k : Int)), some (aI ((dvN (twR r a b ((k : Int) / 2) ((k : Int) % 2)) a i) + 1)), some (aI (dvN (twR r a b ((k : Int) / 2) ((k : Int) % 2)) b i)), some (aI (i : Int))]) (st' := [aI 1, aI (dvN (twR r a b ((k : Int) / 2) ((k : Int) % 2)) b i)]) (σ' := τ9) rfl trivial ?_
            refine aw_b kX6_ok bX6_playTwo_106_ok (Cs := []) (pc' := 50) (L' := [some (aR 0 0), some (aI a), some (aI b), some (aI n), some (aI (k : Int)), some (aI ((dvN (twR r a b ((k : Int) / 2) ((k : Int) % 2)) a i) + 1)), some (aI ((dvN (twR r a b ((k : Int) / 2) ((k : Int) % 2)) b i) + 1)), some (aI ((i : Int) + 1))]) (st' := []) (σ' := τ9) rfl trivial ?_
            have e1 : dvN (twR r a b ((k : Int) / 2) ((k : Int) % 2)) a i + 1 = dvN (twR r a b ((k : Int) / 2) ((k : Int) % 2)) a (i + 1) := by rw [dvN, if_neg (by omega)]
            have e2 : dvN (twR r a b ((k : Int) / 2) ((k : Int) % 2)) b i + 1 = dvN (twR r a b ((k : Int) / 2) ((k : Int) % 2)) b (i + 1) := by rw [dvN, if_neg (by omega)]
            exact aw_eq (by rw [e1, e2]; rfl) rfl rfl (ihi (by omega) τ9 hT9 (aFr_tr hG hF9))
set_option maxRecDepth 10000 in
theorem cC_two (l : Launch) (a b n : Int) (σ : aS) (r : aRw) (hR : Rep σ 0 r) (hw : WF r) (hd : r 1 ≤ 999) (ha : aIr a) (hb : aIr b) (hn : aIr n) : AM l 5 mX6_two [aR 0 0, aI a, aI b, aI n] σ (QC (A_two r a b n) σ) := by
  have bn := hw.1
  have en := hR.n
  have b1 := hw.2.1
  have e1 := hR.1.2.1
  have b2 := hw.2.2.1
  have e2 := hR.1.2.2
  refine am_of (by decide) (Nat.le_of_ble_eq_true rfl) (L := [some (aR 0 0), some (aI a), some (aI b), some (aI n), none, none, none]) rfl ?_
  refine aw_b kX6_ok bX6_two_0_ok (Cs := [0 < 1]) (pc' := 5) (L' := [some (aR 0 0), some (aI a), some (aI b), some (aI n), none, none, none]) (st' := [aI a, aR 1 0]) (σ' := σ) rfl (show 0 < 1 from by omega) ?_
  refine aw_bV lX6_76 (as := [aI a]) (rest := []) (t := 1) (c := 0) (by decide) (by decide) (by decide) rfl rfl (Nat.le_of_ble_eq_true rfl) rfl dX6_two_5 (cC_isThere l a 0 (by omega) σ r hR hw ⟨by omega, by omega⟩) (fun wh1 => ?_) (fun wh1 => ?_)
  · refine aw_ieq dX6_two_8 (tgt := 38) (by decide) ⟨by omega, by omega⟩ (fun wh2 => absurd wh2 (by decide)) (fun wh2 => ?_)
    refine aw_b kX6_ok bX6_two_11_ok (Cs := [0 < 1]) (pc' := 16) (L' := [some (aR 0 0), some (aI a), some (aI b), some (aI n), none, none, none]) (st' := [aI b, aR 1 0]) (σ' := σ) rfl (show 0 < 1 from by omega) ?_
    refine aw_bV lX6_76 (as := [aI b]) (rest := []) (t := 1) (c := 0) (by decide) (by decide) (by decide) rfl rfl (Nat.le_of_ble_eq_true rfl) rfl dX6_two_16 (cC_isThere l b 0 (by omega) σ r hR hw ⟨by omega, by omega⟩) (fun wh3 => ?_) (fun wh3 => ?_)
    · refine aw_ieq dX6_two_19 (tgt := 38) (by decide) ⟨by omega, by omega⟩ (fun wh4 => absurd wh4 (by decide)) (fun wh4 => ?_)
      refine aw_b kX6_ok bX6_two_22_ok (Cs := []) (pc' := 24) (L' := [some (aR 0 0), some (aI a), some (aI b), some (aI n), none, none, none]) (st' := [aI b, aI a]) (σ' := σ) rfl trivial ?_
      refine aw_ceq dX6_two_24 (tgt := 38) (by decide) ⟨by omega, by omega⟩ ⟨by omega, by omega⟩ (fun wh5 => ?_) (fun wh5 => ?_)
      · refine aw_b kX6_ok bX6_two_38_ok (Cs := []) (pc' := 39) (L' := [some (aR 0 0), some (aI a), some (aI b), some (aI n), none, none, none]) (st' := [aI (-1)]) (σ' := σ) rfl trivial ?_
        exact aw_iret dX6_two_39 rfl ⟨aret (by unfold A_two; rw [if_neg (by omega)]), aFr_rf⟩
      · refine aw_b kX6_ok bX6_two_27_ok (Cs := []) (pc' := 29) (L' := [some (aR 0 0), some (aI a), some (aI b), some (aI n), none, none, none]) (st' := [aI 1, aI n]) (σ' := σ) rfl trivial ?_
        refine aw_clt dX6_two_29 (tgt := 38) (by decide) ⟨by omega, by omega⟩ ⟨by omega, by omega⟩ (fun wh6 => ?_) (fun wh6 => ?_)
        · refine aw_b kX6_ok bX6_two_38_ok (Cs := []) (pc' := 39) (L' := [some (aR 0 0), some (aI a), some (aI b), some (aI n), none, none, none]) (st' := [aI (-1)]) (σ' := σ) rfl trivial ?_
          exact aw_iret dX6_two_39 rfl ⟨aret (by unfold A_two; rw [if_neg (by omega)]), aFr_rf⟩
        · refine aw_b kX6_ok bX6_two_32_ok (Cs := []) (pc' := 35) (L' := [some (aR 0 0), some (aI a), some (aI b), some (aI n), none, none, none]) (st' := [aI 30, aI n]) (σ' := σ) rfl trivial ?_
          refine aw_cle dX6_two_35 (tgt := 40) (by decide) ⟨by omega, by omega⟩ ⟨by omega, by omega⟩ (fun wh7 => ?_) (fun wh7 => ?_)
          · have bpa := hw.pe (p := a) (by omega) (by omega)
            have rpa := hR.pe (p := a) (by omega) (by omega)
            have boa := off_rng r a
            have noa := nb_cases (off r a)
            have bpb := hw.pe (p := b) (by omega) (by omega)
            have rpb := hR.pe (p := b) (by omega) (by omega)
            have bob := off_rng r b
            have nob := nb_cases (off r b)
            refine aw_b kX6_ok bX6_two_40_ok (Cs := [0 < 1, 0 < 3, 0 < 3, 0 ≤ a ∧ a < 8]) (pc' := 50) (L' := [some (aR 0 0), some (aI a), some (aI b), some (aI n), none, none, none]) (st' := [aI (-1), aI (σ 6 0 a)]) (σ' := σ) rfl (show (0 < 1) ∧ (0 < 3) ∧ (0 < 3) ∧ (0 ≤ a ∧ a < 8) from ⟨by omega, by omega, by omega, by omega⟩) ?_
            refine aw_ceq dX6_two_50 (tgt := 66) (by decide) ⟨by omega, by omega⟩ ⟨by omega, by omega⟩ (fun wh8 => ?_) (fun wh8 => ?_)
            · refine aw_b kX6_ok bX6_two_66_ok (Cs := []) (pc' := 68) (L' := [some (aR 0 0), some (aI a), some (aI b), some (aI n), none, none, none]) (st' := [aI (-3)]) (σ' := σ) rfl trivial ?_
              exact aw_iret dX6_two_68 rfl ⟨aret (by unfold A_two; rw [if_pos (by omega), if_pos (by omega)]), aFr_rf⟩
            · refine aw_b kX6_ok bX6_two_53_ok (Cs := [0 < 1, 0 < 3, 0 < 3, 0 ≤ b ∧ b < 8]) (pc' := 63) (L' := [some (aR 0 0), some (aI a), some (aI b), some (aI n), none, none, none]) (st' := [aI (-1), aI (σ 6 0 b)]) (σ' := σ) rfl (show (0 < 1) ∧ (0 < 3) ∧ (0 < 3) ∧ (0 ≤ b ∧ b < 8) from ⟨by omega, by omega, by omega, by omega⟩) ?_
              refine aw_cne dX6_two_63 (tgt := 69) (by decide) ⟨by omega, by omega⟩ ⟨by omega, by omega⟩ (fun wh9 => ?_) (fun wh9 => ?_)
              · refine aw_b kX6_ok bX6_two_69_ok (Cs := []) (pc' := 72) (L' := [some (aR 0 0), some (aI a), some (aI b), some (aI n), some (aI 0), none, none]) (st' := []) (σ' := σ) rfl trivial ?_
                refine aloop (P := fun k : Nat => ∀ (ρ : aS) (hQ : Rep ρ 0 r) (hG : aFr CScr σ ρ) (hA : ∀ j : Nat, j < k → ρ 20 0 (j : Int) = haF (twR r a b ((j : Int) / 2) ((j : Int) % 2)) a n.toNat ∧ ρ 20 1 (j : Int) = haF (twR r a b ((j : Int) / 2) ((j : Int) % 2)) b n.toNat), AW l 5 mX6_two _ 72 [some (aR 0 0), some (aI a), some (aI b), some (aI n), some (aI (k : Int)), none, none] [] ρ) (4) (fun k hk ihk ρ hQ hG hA => ?_) σ hR aFr_rf (fun j hj => by omega)
                refine aw_b kX6_ok bX6_two_72_ok (Cs := []) (pc' := 75) (L' := [some (aR 0 0), some (aI a), some (aI b), some (aI n), some (aI (k : Int)), none, none]) (st' := [aI 4, aI (k : Int)]) (σ' := ρ) rfl trivial ?_
                refine aw_cge dX6_two_75 (tgt := 93) (by decide) ⟨by omega, by omega⟩ ⟨by omega, by omega⟩ (fun wh10 => ?_) (fun wh10 => ?_)
                · have e4 : k = 4 := by omega
                  subst e4
                  have hX : ∀ x y : Int, (x = 0 ∨ x = 1) → (y = 0 ∨ y = 1) → ρ 20 0 (2 * x + y) = haF (twR r a b x y) a n.toNat ∧ ρ 20 1 (2 * x + y) = haF (twR r a b x y) b n.toNat := by
                    intro x y hx hy
                    have z := hA (2 * x + y).toNat (by omega)
                    rw [show (((2 * x + y).toNat : Nat) : Int) = 2 * x + y by omega, show (2 * x + y) / 2 = x by omega, show (2 * x + y) % 2 = y by omega] at z
                    exact z
                  refine aw_b kX6_ok bX6_two_93_ok (Cs := []) (pc' := 96) (L' := [some (aR 0 0), some (aI a), some (aI b), some (aI n), some (aI 0), none, none]) (st' := []) (σ' := ρ) rfl trivial ?_
                  refine aloop (P := fun k : Nat => ∀ (hC : twoF r a b n.toNat 4 0 = twoF r a b n.toNat (4 - k) k), AW l 5 mX6_two _ 96 [some (aR 0 0), some (aI a), some (aI b), some (aI n), some (aI (k : Int)), none, none] [] ρ) (4) (fun k hk ihk hC => ?_) rfl
                  refine aw_b kX6_ok bX6_two_96_ok (Cs := []) (pc' := 99) (L' := [some (aR 0 0), some (aI a), some (aI b), some (aI n), some (aI (k : Int)), none, none]) (st' := [aI 4, aI (k : Int)]) (σ' := ρ) rfl trivial ?_
                  refine aw_cge dX6_two_99 (tgt := 183) (by decide) ⟨by omega, by omega⟩ ⟨by omega, by omega⟩ (fun wh11 => ?_) (fun wh11 => ?_)
                  · refine aw_b kX6_ok bX6_two_183_ok (Cs := []) (pc' := 185) (L' := [some (aR 0 0), some (aI a), some (aI b), some (aI n), some (aI (k : Int)), none, none]) (st' := [aI (-4)]) (σ' := ρ) rfl trivial ?_
                    exact aw_iret dX6_two_185 rfl ⟨aret (by unfold A_two; rw [if_pos (by omega), if_neg (by omega), hC, show 4 - k = 0 by omega]; rfl), hG⟩
                  · have hk4 : k < 4 := by omega
                    have pt := pair_tab k hk4
                    have x0 := hX ((k : Int) / 2) ((k : Int) % 2) (by omega) (by omega)
                    have x1 := hX (1 - ((k : Int) / 2)) ((k : Int) % 2) (by omega) (by omega)
                    have x2 := hX ((k : Int) / 2) (1 - ((k : Int) % 2)) (by omega) (by omega)
                    rw [show 2 * ((k : Int) / 2) + ((k : Int) % 2) = (k : Int) by omega] at x0
                    rw [← pt.2.2.1] at x1
                    rw [← pt.2.2.2.1] at x2
                    have y0 := haF_rng (twR_wf hw a b ((k : Int) / 2) ((k : Int) % 2)) (q := a) (n := n.toNat) (by omega) (by rw [twR_at _ _ _ _ _ (by omega)]; omega) (by omega)
                    have y1 := haF_rng (twR_wf hw a b ((k : Int) / 2) ((k : Int) % 2)) (q := b) (n := n.toNat) (by omega) (by rw [twR_at _ _ _ _ _ (by omega)]; omega) (by omega)
                    have y2 := haF_rng (twR_wf hw a b (1 - ((k : Int) / 2)) ((k : Int) % 2)) (q := a) (n := n.toNat) (by omega) (by rw [twR_at _ _ _ _ _ (by omega)]; omega) (by omega)
                    have y3 := haF_rng (twR_wf hw a b ((k : Int) / 2) (1 - ((k : Int) % 2))) (q := b) (n := n.toNat) (by omega) (by rw [twR_at _ _ _ _ _ (by omega)]; omega) (by omega)
                    have hB : twoF r a b n.toNat 4 0 = (if haF (twR r a b (1 - ((k : Int) / 2)) ((k : Int) % 2)) a n.toNat ≤ haF (twR r a b ((k : Int) / 2) ((k : Int) % 2)) a n.toNat ∧ haF (twR r a b ((k : Int) / 2) (1 - ((k : Int) % 2))) b n.toNat ≤ haF (twR r a b ((k : Int) / 2) ((k : Int) % 2)) b n.toNat then 10 * ((k : Int) / 2) + ((k : Int) % 2) else twoF r a b n.toNat (4 - (k + 1)) (k + 1)) := by
                      rw [hC, show 4 - k = (4 - (k + 1)) + 1 by omega]; rfl
                    have e2 : (k : Int) / 2 ^ (Int.toNat 1) = (k : Int) / 2 := by rw [show (2 : Int) ^ (Int.toNat 1) = 2 from by decide]
                    refine aw_b kX6_ok bX6_two_102_ok (Cs := [0 < 1, 0 < 2, 0 ≤ (k : Int) ∧ (k : Int) < 4, 0 < 1, 0 < 2, 0 ≤ aXor (k : Int) 2 ∧ aXor (k : Int) 2 < 4]) (pc' := 118) (L' := [some (aR 0 0), some (aI a), some (aI b), some (aI n), some (aI (k : Int)), none, none]) (st' := [aI (ρ 20 0 (aXor (k : Int) 2)), aI (ρ 20 0 (k : Int))]) (σ' := ρ) rfl (show (0 < 1) ∧ (0 < 2) ∧ (0 ≤ (k : Int) ∧ (k : Int) < 4) ∧ (0 < 1) ∧ (0 < 2) ∧ (0 ≤ aXor (k : Int) 2 ∧ aXor (k : Int) 2 < 4) from ⟨by omega, by omega, by omega, by omega, by omega, by omega⟩) ?_
                    refine aw_clt dX6_two_118 (tgt := 125) (by decide) ⟨by omega, by omega⟩ ⟨by omega, by omega⟩ (fun wh12 => ?_) (fun wh12 => ?_)
                    · refine aw_b kX6_ok bX6_two_125_ok (Cs := []) (pc' := 126) (L' := [some (aR 0 0), some (aI a), some (aI b), some (aI n), some (aI (k : Int)), none, none]) (st' := [aI 0]) (σ' := ρ) rfl trivial ?_
                      refine aw_b kX6_ok bX6_two_126_ok (Cs := [0 < 1, 1 < 2, 0 ≤ (k : Int) ∧ (k : Int) < 4, 0 < 1, 1 < 2, 0 ≤ aXor (k : Int) 1 ∧ aXor (k : Int) 1 < 4]) (pc' := 144) (L' := [some (aR 0 0), some (aI a), some (aI b), some (aI n), some (aI (k : Int)), some (aI 0), none]) (st' := [aI (ρ 20 1 (aXor (k : Int) 1)), aI (ρ 20 1 (k : Int))]) (σ' := ρ) rfl (show (0 < 1) ∧ (1 < 2) ∧ (0 ≤ (k : Int) ∧ (k : Int) < 4) ∧ (0 < 1) ∧ (1 < 2) ∧ (0 ≤ aXor (k : Int) 1 ∧ aXor (k : Int) 1 < 4) from ⟨by omega, by omega, by omega, by omega, by omega, by omega⟩) ?_
                      refine aw_clt dX6_two_144 (tgt := 151) (by decide) ⟨by omega, by omega⟩ ⟨by omega, by omega⟩ (fun wh13 => ?_) (fun wh13 => ?_)
                      · refine aw_b kX6_ok bX6_two_151_ok (Cs := []) (pc' := 152) (L' := [some (aR 0 0), some (aI a), some (aI b), some (aI n), some (aI (k : Int)), some (aI 0), none]) (st' := [aI 0]) (σ' := ρ) rfl trivial ?_
                        refine aw_b kX6_ok bX6_two_152_ok (Cs := []) (pc' := 156) (L' := [some (aR 0 0), some (aI a), some (aI b), some (aI n), some (aI (k : Int)), some (aI 0), some (aI 0)]) (st' := [aI 0]) (σ' := ρ) rfl trivial ?_
                        refine aw_ieq dX6_two_156 (tgt := 177) (by decide) ⟨by omega, by omega⟩ (fun wh14 => ?_) (fun wh14 => absurd wh14 (by decide))
                        refine aw_b kX6_ok bX6_two_177_ok (Cs := []) (pc' := 96) (L' := [some (aR 0 0), some (aI a), some (aI b), some (aI n), some (aI ((k : Int) + 1)), some (aI 0), some (aI 0)]) (st' := []) (σ' := ρ) rfl trivial ?_
                        refine aw_drop [5, 6] (L' := [some (aR 0 0), some (aI a), some (aI b), some (aI n), some (aI ((k : Int) + 1)), none, none]) rfl ?_
                        exact ihk (by omega) (hB.trans (if_neg (by omega)))
                      · refine aw_b kX6_ok bX6_two_147_ok (Cs := []) (pc' := 152) (L' := [some (aR 0 0), some (aI a), some (aI b), some (aI n), some (aI (k : Int)), some (aI 0), none]) (st' := [aI 1]) (σ' := ρ) rfl trivial ?_
                        refine aw_b kX6_ok bX6_two_152_ok (Cs := []) (pc' := 156) (L' := [some (aR 0 0), some (aI a), some (aI b), some (aI n), some (aI (k : Int)), some (aI 0), some (aI 1)]) (st' := [aI 0]) (σ' := ρ) rfl trivial ?_
                        refine aw_ieq dX6_two_156 (tgt := 177) (by decide) ⟨by omega, by omega⟩ (fun wh15 => ?_) (fun wh15 => absurd wh15 (by decide))
                        refine aw_b kX6_ok bX6_two_177_ok (Cs := []) (pc' := 96) (L' := [some (aR 0 0), some (aI a), some (aI b), some (aI n), some (aI ((k : Int) + 1)), some (aI 0), some (aI 1)]) (st' := []) (σ' := ρ) rfl trivial ?_
                        refine aw_drop [5, 6] (L' := [some (aR 0 0), some (aI a), some (aI b), some (aI n), some (aI ((k : Int) + 1)), none, none]) rfl ?_
                        exact ihk (by omega) (hB.trans (if_neg (by omega)))
                    · refine aw_b kX6_ok bX6_two_121_ok (Cs := []) (pc' := 126) (L' := [some (aR 0 0), some (aI a), some (aI b), some (aI n), some (aI (k : Int)), none, none]) (st' := [aI 1]) (σ' := ρ) rfl trivial ?_
                      refine aw_b kX6_ok bX6_two_126_ok (Cs := [0 < 1, 1 < 2, 0 ≤ (k : Int) ∧ (k : Int) < 4, 0 < 1, 1 < 2, 0 ≤ aXor (k : Int) 1 ∧ aXor (k : Int) 1 < 4]) (pc' := 144) (L' := [some (aR 0 0), some (aI a), some (aI b), some (aI n), some (aI (k : Int)), some (aI 1), none]) (st' := [aI (ρ 20 1 (aXor (k : Int) 1)), aI (ρ 20 1 (k : Int))]) (σ' := ρ) rfl (show (0 < 1) ∧ (1 < 2) ∧ (0 ≤ (k : Int) ∧ (k : Int) < 4) ∧ (0 < 1) ∧ (1 < 2) ∧ (0 ≤ aXor (k : Int) 1 ∧ aXor (k : Int) 1 < 4) from ⟨by omega, by omega, by omega, by omega, by omega, by omega⟩) ?_
                      refine aw_clt dX6_two_144 (tgt := 151) (by decide) ⟨by omega, by omega⟩ ⟨by omega, by omega⟩ (fun wh16 => ?_) (fun wh16 => ?_)
                      · refine aw_b kX6_ok bX6_two_151_ok (Cs := []) (pc' := 152) (L' := [some (aR 0 0), some (aI a), some (aI b), some (aI n), some (aI (k : Int)), some (aI 1), none]) (st' := [aI 0]) (σ' := ρ) rfl trivial ?_
                        refine aw_b kX6_ok bX6_two_152_ok (Cs := []) (pc' := 156) (L' := [some (aR 0 0), some (aI a), some (aI b), some (aI n), some (aI (k : Int)), some (aI 1), some (aI 0)]) (st' := [aI 1]) (σ' := ρ) rfl trivial ?_
                        refine aw_ieq dX6_two_156 (tgt := 177) (by decide) ⟨by omega, by omega⟩ (fun wh17 => absurd wh17 (by decide)) (fun wh17 => ?_)
                        refine aw_b kX6_ok bX6_two_159_ok (Cs := []) (pc' := 161) (L' := [some (aR 0 0), some (aI a), some (aI b), some (aI n), some (aI (k : Int)), some (aI 1), some (aI 0)]) (st' := [aI 0]) (σ' := ρ) rfl trivial ?_
                        refine aw_ieq dX6_two_161 (tgt := 177) (by decide) ⟨by omega, by omega⟩ (fun wh18 => ?_) (fun wh18 => absurd wh18 (by decide))
                        refine aw_b kX6_ok bX6_two_177_ok (Cs := []) (pc' := 96) (L' := [some (aR 0 0), some (aI a), some (aI b), some (aI n), some (aI ((k : Int) + 1)), some (aI 1), some (aI 0)]) (st' := []) (σ' := ρ) rfl trivial ?_
                        refine aw_drop [5, 6] (L' := [some (aR 0 0), some (aI a), some (aI b), some (aI n), some (aI ((k : Int) + 1)), none, none]) rfl ?_
                        exact ihk (by omega) (hB.trans (if_neg (by omega)))
                      · refine aw_b kX6_ok bX6_two_147_ok (Cs := []) (pc' := 152) (L' := [some (aR 0 0), some (aI a), some (aI b), some (aI n), some (aI (k : Int)), some (aI 1), none]) (st' := [aI 1]) (σ' := ρ) rfl trivial ?_
                        refine aw_b kX6_ok bX6_two_152_ok (Cs := []) (pc' := 156) (L' := [some (aR 0 0), some (aI a), some (aI b), some (aI n), some (aI (k : Int)), some (aI 1), some (aI 1)]) (st' := [aI 1]) (σ' := ρ) rfl trivial ?_
                        refine aw_ieq dX6_two_156 (tgt := 177) (by decide) ⟨by omega, by omega⟩ (fun wh19 => absurd wh19 (by decide)) (fun wh19 => ?_)
                        refine aw_b kX6_ok bX6_two_159_ok (Cs := []) (pc' := 161) (L' := [some (aR 0 0), some (aI a), some (aI b), some (aI n), some (aI (k : Int)), some (aI 1), some (aI 1)]) (st' := [aI 1]) (σ' := ρ) rfl trivial ?_
                        refine aw_ieq dX6_two_161 (tgt := 177) (by decide) ⟨by omega, by omega⟩ (fun wh20 => absurd wh20 (by decide)) (fun wh20 => ?_)
                        refine aw_b kX6_ok bX6_two_164_ok (Cs := [0 ≤ 1 ∧ 1 < 32, -2147483648 ≤ (k : Int) ∧ (k : Int) < 2147483648]) (pc' := 176) (L' := [some (aR 0 0), some (aI a), some (aI b), some (aI n), some (aI (k : Int)), some (aI 1), some (aI 1)]) (st' := [aI ((10 * ((k : Int) / 2 ^ (Int.toNat 1))) + (aAnd (k : Int) 1))]) (σ' := ρ) rfl (show (0 ≤ 1 ∧ 1 < 32) ∧ (-2147483648 ≤ (k : Int) ∧ (k : Int) < 2147483648) from ⟨by omega, by omega⟩) ?_
                        exact aw_iret dX6_two_176 rfl ⟨aret (by unfold A_two; rw [if_pos (by omega), if_neg (by omega), e2, pt.2.1]; exact (hB.trans (if_pos (by omega))).symm), hG⟩
                · refine aw_b kX6_ok bX6_two_78_ok (Cs := []) (pc' := 84) (L' := [some (aR 0 0), some (aI a), some (aI b), some (aI n), some (aI (k : Int)), none, none]) (st' := [aI (k : Int), aI n, aI b, aI a, aR 0 0]) (σ' := ρ) rfl trivial ?_
                  refine aw_callV lX6_224 (as := [aI a, aI b, aI n, aI (k : Int)]) (rest := []) (t := 0) (c := 0) (by decide) (by decide) (by decide) rfl rfl (Nat.le_of_ble_eq_true rfl) rfl dX6_two_84 (cC_playTwo l a b n k ρ r hQ hw hd (by omega) (by omega) (by omega) (by omega) (by omega) (by omega) (by omega)) ?_
                  rintro _ τ2 ⟨rfl, hF2, hK0, hK1, hK2⟩
                  refine aw_b kX6_ok bX6_two_87_ok (Cs := []) (pc' := 72) (L' := [some (aR 0 0), some (aI a), some (aI b), some (aI n), some (aI ((k : Int) + 1)), none, none]) (st' := []) (σ' := τ2) rfl trivial ?_
                  exact ihk (by omega) τ2 (hQ.scr (by decide) hF2) (aFr_tr hG hF2) (fun j hj => (if hjk : j = k then (by rw [hjk]; exact ⟨hK0, hK1⟩) else (by have z := hA j (by omega); have y := hK2 (j : Int) (by omega); rw [y.1, y.2]; exact z)))
              · refine aw_b kX6_ok bX6_two_66_ok (Cs := []) (pc' := 68) (L' := [some (aR 0 0), some (aI a), some (aI b), some (aI n), none, none, none]) (st' := [aI (-3)]) (σ' := σ) rfl trivial ?_
                exact aw_iret dX6_two_68 rfl ⟨aret (by unfold A_two; rw [if_pos (by omega), if_pos (by omega)]), aFr_rf⟩
          · refine aw_b kX6_ok bX6_two_38_ok (Cs := []) (pc' := 39) (L' := [some (aR 0 0), some (aI a), some (aI b), some (aI n), none, none, none]) (st' := [aI (-1)]) (σ' := σ) rfl trivial ?_
            exact aw_iret dX6_two_39 rfl ⟨aret (by unfold A_two; rw [if_neg (by omega)]), aFr_rf⟩
    · refine aw_ieq dX6_two_19 (tgt := 38) (by decide) ⟨by omega, by omega⟩ (fun wh21 => ?_) (fun wh21 => absurd wh21 (by decide))
      refine aw_b kX6_ok bX6_two_38_ok (Cs := []) (pc' := 39) (L' := [some (aR 0 0), some (aI a), some (aI b), some (aI n), none, none, none]) (st' := [aI (-1)]) (σ' := σ) rfl trivial ?_
      exact aw_iret dX6_two_39 rfl ⟨aret (by unfold A_two; rw [if_neg (by omega)]), aFr_rf⟩
  · refine aw_ieq dX6_two_8 (tgt := 38) (by decide) ⟨by omega, by omega⟩ (fun wh22 => ?_) (fun wh22 => absurd wh22 (by decide))
    refine aw_b kX6_ok bX6_two_38_ok (Cs := []) (pc' := 39) (L' := [some (aR 0 0), some (aI a), some (aI b), some (aI n), none, none, none]) (st' := [aI (-1)]) (σ' := σ) rfl trivial ?_
    exact aw_iret dX6_two_39 rfl ⟨aret (by unfold A_two; rw [if_neg (by omega)]), aFr_rf⟩
