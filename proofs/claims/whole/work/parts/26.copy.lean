/-! ===== the class: copies, casts ===== -/
def aCp (σ : aS) (t c : Nat) (sp dp n : Int) : aS := fun t' c' i => if t' = t ∧ c' = c ∧ dp ≤ i ∧ i < dp + n then σ t c (sp + (i - dp)) else σ t' c' i
theorem lX4_60 : Cond.methodLink "OnlyInDisguise$Shelves" 60 arraycopyName ∈ aTbl ∧ Cond.native arraycopyName ∈ aTbl ∧ Cond.static arraycopyName ∈ aTbl ∧ Cond.initialized "java/lang/System" ∈ aTbl := ⟨in_aTbl 705 (by decide +kernel) rfl, in_aTbl 707 (by decide +kernel) rfl, in_aTbl 706 (by decide +kernel) rfl, in_aTbl 60 (by decide +kernel) rfl⟩
theorem aCell_cp {ad : Nat → Nat → Nat} {cA : ClassId} {σ : aS} {t c : Nat} {sp dp n : Int} (hc : aCls t = none) (h1 : 0 ≤ sp ∧ sp < 2147483648) (h2 : 0 ≤ dp ∧ dp < 2147483648) (h3 : 0 ≤ n ∧ n < 2147483648) : aCell ad cA (aCp σ t c sp dp n) t c = .inl (cA, aLen t, .inl (va_cpy (fun j => Int32.ofInt (σ t c j)) (fun j => Int32.ofInt (σ t c j)) (Int32.ofInt sp).toNatClampNeg (Int32.ofInt dp).toNatClampNeg (Int32.ofInt n).toNatClampNeg)) := by
  unfold aCell
  rw [hc]
  show (Sum.inl (cA, aLen t, Sum.inl (fun j : Nat => Int32.ofInt (aCp σ t c sp dp n t c j))) : va_E) = _
  congr 4
  funext j
  rw [aIn_nat h1, aIn_nat h2, aIn_nat h3]
  unfold va_cpy aCp
  by_cases h : dp.toNat ≤ j ∧ j < dp.toNat + n.toNat
  · rw [if_pos h, if_pos ⟨rfl, rfl, by omega, by omega⟩, show sp + ((j : Int) - dp) = ((sp.toNat + (j - dp.toNat) : Nat) : Int) by omega]
  · rw [if_neg h, if_neg (fun hh => h (by omega))]
theorem aw_copy {l : Launch} {d : Nat} {M : aMt} {Q : Option aV → aS → Prop} {pc : Nat} {L : aLs} {σ : aS} {idx t c : Nat} {sp dp n : Int} (lk : Cond.methodLink M.1.cls idx arraycopyName ∈ aTbl ∧ Cond.native arraycopyName ∈ aTbl ∧ Cond.static arraycopyName ∈ aTbl ∧ Cond.initialized "java/lang/System" ∈ aTbl) (hd : 1 ≤ d) (ht : t < 32) (hc : c < aCnt t) (hcl : aCls t = none) (h1 : 0 ≤ sp) (h2 : 0 ≤ dp) (h3 : 0 ≤ n) (h4 : sp + n ≤ (aLen t : Int)) (h5 : dp + n ≤ (aLen t : Int)) (hdg : decode M.2.1 pc = .ok (.invokestatic idx, 3)) (k : AW l d M Q (pc + 3) L [] (aCp σ t c sp dp n)) : AW l d M Q pc L [aI n, aI dp, aR t c, aI sp, aR t c] σ := by
  intro p e s m args below meth c2 D cA ad H locs ls C0 C1 hl
  obtain ⟨hx, hb, hml, hr, hlk, hown, hts, hK, hN⟩ := id C0
  obtain ⟨hP, hD, hS⟩ := id C1
  obtain ⟨l1, l2, l3, l4⟩ := lk
  have hws : ∀ w ∈ aTbl, w.before args s = true := fun w hw => hts w (List.mem_cons_of_mem _ hw)
  obtain ⟨q0, hq0⟩ := aPl_at ht hc
  have e1 := aWo_at (ad := ad) (cA := cA) (σ := σ) hq0
  unfold aCell at e1
  rw [hcl] at e1
  have hln := aLen_ok t
  have n1 := aIn_nat (x := sp) (by omega)
  have n2 := aIn_nat (x := dp) (by omega)
  have n3 := aIn_nat (x := n) (by omega)
  have hcell := aCell_cp (ad := ad) (cA := cA) (σ := σ) (c := c) (sp := sp) (dp := dp) (n := n) hcl (by omega) (by omega) (by omega)
  have hset := aWo_set (ad := ad) (cA := cA) (σ := σ) (σ' := aCp σ t c sp dp n) hq0 hcell (fun t' c' h => by
    have ho : ∀ j, aCp σ t c sp dp n t' c' j = σ t' c' j := fun j => if_neg (fun hh => h ⟨hh.1, hh.2.1⟩)
    unfold aCell
    split
    · congr 4
      funext j
      rw [ho]
    · congr 3
      funext j f
      unfold aFv
      split
      · rw [ho]
      · rfl)
  have nz : ∀ z : Int, 0 ≤ z → z < 2147483648 → ¬ Int32.ofInt z < 0 := fun z h0 h6 h7 => by
    have := (aIn_lt (x := z) (y := 0) (by omega) (by decide)).mp h7
    omega
  refine va_copyi (D := D) hx hb (by rw [hml]; exact hl.2.1.symm) hown (hws _ l1) (hws _ l2) (hws _ l3) (hws _ l4) hK hP hD hS q0 q0 0 0 e1 e1 rfl rfl rfl (nz sp h1 (by omega)) (nz dp h2 (by omega)) (nz n h3 (by omega)) (by rw [n1, n3]; omega) (by rw [n2, n3]; omega) (fun i _ => rfl) (by show 1 ≤ d; exact hd) (by show 0 + (7 + 11) ≤ 38 * d; omega) hdg (fun H1 locs1 g1 g2 g3 => ?_)
  rw [hset] at g1 g2
  exact k p e s m args below meth c2 D cA ad H1 locs1 ls C0 ⟨g1, g2, g3⟩ hl
set_option maxRecDepth 10000 in
theorem cS_move (l : Launch) (d i e j n : Int) (σ : aS) (hs : SH σ) (h0 : 0 ≤ d) (h1 : d < 8) (h2 : 0 ≤ e) (h3 : e < 8) (hn : 0 ≤ n) (hi : 0 ≤ i) (hj : 0 ≤ j) (h4 : i ≤ σ 14 0 d - n) (h5 : j ≤ σ 14 0 e - n) : AM l 3 mX4_move [aR 9 0, aI d, aI i, aI e, aI j, aI n] σ (aF none (aCp σ 15 0 (d * 100 + i) (e * 100 + j) n)) := by
  have bs := hs.1 d h0 h1
  have be := hs.1 e h2 h3
  refine am_of (by decide) (Nat.le_of_ble_eq_true rfl) (L := [some (aR 9 0), some (aI d), some (aI i), some (aI e), some (aI j), some (aI n)]) rfl ?_
  refine aw_b kX4_ok bX4_move_0_ok (Cs := []) (pc' := 5) (L' := [some (aR 9 0), some (aI d), some (aI i), some (aI e), some (aI j), some (aI n)]) (st' := [aI n, aI i, aI d, aR 9 0]) (σ' := σ) rfl trivial ?_
  refine aw_bV lX4_56 (as := [aI d, aI i, aI n]) (rest := []) (t := 9) (c := 0) (by decide) (by decide) (by decide) rfl rfl (Nat.le_of_ble_eq_true rfl) rfl dX4_move_5 (cS_hasPlaces l d i n σ hs (by omega) (by omega) ⟨by omega, by omega⟩ ⟨by omega, by omega⟩) (fun wh1 => ?_) (fun wh1 => ?_)
  · refine aw_ieq dX4_move_8 (tgt := 49) (by decide) ⟨by omega, by omega⟩ (fun wh2 => absurd wh2 (by decide)) (fun wh2 => ?_)
    refine aw_b kX4_ok bX4_move_11_ok (Cs := []) (pc' := 17) (L' := [some (aR 9 0), some (aI d), some (aI i), some (aI e), some (aI j), some (aI n)]) (st' := [aI n, aI j, aI e, aR 9 0]) (σ' := σ) rfl trivial ?_
    refine aw_bV lX4_56 (as := [aI e, aI j, aI n]) (rest := []) (t := 9) (c := 0) (by decide) (by decide) (by decide) rfl rfl (Nat.le_of_ble_eq_true rfl) rfl dX4_move_17 (cS_hasPlaces l e j n σ hs (by omega) (by omega) ⟨by omega, by omega⟩ ⟨by omega, by omega⟩) (fun wh3 => ?_) (fun wh3 => ?_)
    · refine aw_ieq dX4_move_20 (tgt := 49) (by decide) ⟨by omega, by omega⟩ (fun wh4 => absurd wh4 (by decide)) (fun wh4 => ?_)
      refine aw_b kX4_ok bX4_move_23_ok (Cs := [0 < 1, 0 < 1]) (pc' := 46) (L' := [some (aR 9 0), some (aI d), some (aI i), some (aI e), some (aI j), some (aI n)]) (st' := [aI n, aI ((e * 100) + j), aR 15 0, aI ((d * 100) + i), aR 15 0]) (σ' := σ) rfl (show (0 < 1) ∧ (0 < 1) from ⟨by omega, by omega⟩) ?_
      refine aw_copy (σ := σ) (t := 15) (c := 0) lX4_60 (by decide) (by decide) (by decide) rfl (by omega) (by omega) (by omega) (by show d * 100 + i + n ≤ 800; omega) (by show e * 100 + j + n ≤ 800; omega) dX4_move_46 ?_
      exact aw_vret dX4_move_49 rfl ⟨rfl, rfl⟩
    · exfalso; omega
  · exfalso; omega
def A_copy (c1 c2 s1 s2 l1 l2 d i e j n : Int) : Int := if (0 ≤ d ∧ d < 8) ∧ (0 ≤ e ∧ e < 8) then (if c1 = 0 ∨ c2 = 0 then -11 else if c1 ≠ 2 ∨ c2 ≠ 2 ∨ s1 ≠ s2 then -12 else if 0 ≤ n ∧ 0 ≤ i ∧ 0 ≤ j ∧ i ≤ l1 - n ∧ j ≤ l2 - n then n else -13) else -1
def S_copy (σ : aS) (d i e j n : Int) : aS := if ((0 ≤ d ∧ d < 8) ∧ (0 ≤ e ∧ e < 8)) ∧ (σ 10 0 d = 2 ∧ σ 10 0 e = 2 ∧ σ 13 0 d = σ 13 0 e) ∧ (0 ≤ n ∧ 0 ≤ i ∧ 0 ≤ j ∧ i ≤ σ 14 0 d - n ∧ j ≤ σ 14 0 e - n) then aCp σ 15 0 (d * 100 + i) (e * 100 + j) n else σ
theorem lkF_c {k d : Int} (h : 0 ≤ d ∧ d < 8) : (k = 0 ∧ lkF k d 2 = -11) ∨ (k = 2 ∧ lkF k d 2 = 0) ∨ ((k ≠ 0 ∧ k ≠ 2) ∧ lkF k d 2 = -12) := by
  unfold lkF
  rw [if_pos h]
  (repeat' split) <;> omega
set_option maxRecDepth 10000 in
theorem cC_copy (l : Launch) (d i e j n : Int) (σ : aS) (hs : SH σ) (hd : aIr d) (hi : aIr i) (he : aIr e) (hj : aIr j) (hn : aIr n) : AM l 4 mX6_copy [aR 0 0, aI d, aI i, aI e, aI j, aI n] σ (aF (some (aI (A_copy (σ 10 0 d) (σ 10 0 e) (σ 13 0 d) (σ 13 0 e) (σ 14 0 d) (σ 14 0 e) d i e j n))) (S_copy σ d i e j n)) := by
  refine am_of (by decide) (Nat.le_of_ble_eq_true rfl) (L := [some (aR 0 0), some (aI d), some (aI i), some (aI e), some (aI j), some (aI n), none, none]) rfl ?_
  refine aw_b kX6_ok bX6_copy_0_ok (Cs := []) (pc' := 1) (L' := [some (aR 0 0), some (aI d), some (aI i), some (aI e), some (aI j), some (aI n), none, none]) (st' := [aI d]) (σ' := σ) rfl trivial ?_
  refine aw_bS lX6_132 (as := [aI d]) (rest := []) (by decide) rfl (Nat.le_of_ble_eq_true rfl) rfl dX6_copy_1 (cC_isShelf l d σ ⟨by omega, by omega⟩) (fun wh1 => ?_) (fun wh1 => ?_)
  · refine aw_ieq dX6_copy_4 (tgt := 14) (by decide) ⟨by omega, by omega⟩ (fun wh2 => absurd wh2 (by decide)) (fun wh2 => ?_)
    refine aw_b kX6_ok bX6_copy_7_ok (Cs := []) (pc' := 8) (L' := [some (aR 0 0), some (aI d), some (aI i), some (aI e), some (aI j), some (aI n), none, none]) (st' := [aI e]) (σ' := σ) rfl trivial ?_
    refine aw_bS lX6_132 (as := [aI e]) (rest := []) (by decide) rfl (Nat.le_of_ble_eq_true rfl) rfl dX6_copy_8 (cC_isShelf l e σ ⟨by omega, by omega⟩) (fun wh3 => ?_) (fun wh3 => ?_)
    · refine aw_ine dX6_copy_11 (tgt := 16) (by decide) ⟨by omega, by omega⟩ (fun wh4 => ?_) (fun wh4 => absurd wh4 (by decide))
      refine aw_b kX6_ok bX6_copy_16_ok (Cs := [0 < 1]) (pc' := 21) (L' := [some (aR 0 0), some (aI d), some (aI i), some (aI e), some (aI j), some (aI n), none, none]) (st' := [aI d, aR 9 0]) (σ' := σ) rfl (show 0 < 1 from by omega) ?_
      refine aw_fV lX6_54 (as := [aI d]) (rest := []) (t := 9) (c := 0) (by decide) (by decide) (by decide) rfl rfl (Nat.le_of_ble_eq_true rfl) rfl dX6_copy_21 (cS_lackOfRow l d σ hs ⟨by omega, by omega⟩) ?_
      have blk := lkF_rng (σ 10 0 d) d 2
      refine aw_b kX6_ok bX6_copy_24_ok (Cs := [0 < 1]) (pc' := 31) (L' := [some (aR 0 0), some (aI d), some (aI i), some (aI e), some (aI j), some (aI n), some (aI (lkF (σ 10 0 d) d 2)), none]) (st' := [aI e, aR 9 0]) (σ' := σ) rfl (show 0 < 1 from by omega) ?_
      refine aw_fV lX6_54 (as := [aI e]) (rest := []) (t := 9) (c := 0) (by decide) (by decide) (by decide) rfl rfl (Nat.le_of_ble_eq_true rfl) rfl dX6_copy_31 (cS_lackOfRow l e σ hs ⟨by omega, by omega⟩) ?_
      have blk := lkF_rng (σ 10 0 e) e 2
      have bs := hs.1 d (by omega) (by omega)
      have be := hs.1 e (by omega) (by omega)
      have k1 := lkF_c (k := σ 10 0 d) (d := d) (by omega)
      have k2 := lkF_c (k := σ 10 0 e) (d := e) (by omega)
      refine aw_b kX6_ok bX6_copy_34_ok (Cs := []) (pc' := 40) (L' := [some (aR 0 0), some (aI d), some (aI i), some (aI e), some (aI j), some (aI n), some (aI (lkF (σ 10 0 d) d 2)), some (aI (lkF (σ 10 0 e) e 2))]) (st' := [aI (-11), aI (lkF (σ 10 0 d) d 2)]) (σ' := σ) rfl trivial ?_
      refine aw_ceq dX6_copy_40 (tgt := 50) (by decide) ⟨by omega, by omega⟩ ⟨by omega, by omega⟩ (fun wh5 => ?_) (fun wh5 => ?_)
      · refine aw_b kX6_ok bX6_copy_50_ok (Cs := []) (pc' := 52) (L' := [some (aR 0 0), some (aI d), some (aI i), some (aI e), some (aI j), some (aI n), some (aI (lkF (σ 10 0 d) d 2)), some (aI (lkF (σ 10 0 e) e 2))]) (st' := [aI (-11)]) (σ' := σ) rfl trivial ?_
        exact aw_iret dX6_copy_52 rfl ⟨aret (by unfold A_copy; rw [if_pos (by omega), if_pos (by omega)]), by unfold S_copy; rw [if_neg (by omega)]⟩
      · refine aw_b kX6_ok bX6_copy_43_ok (Cs := []) (pc' := 47) (L' := [some (aR 0 0), some (aI d), some (aI i), some (aI e), some (aI j), some (aI n), some (aI (lkF (σ 10 0 d) d 2)), some (aI (lkF (σ 10 0 e) e 2))]) (st' := [aI (-11), aI (lkF (σ 10 0 e) e 2)]) (σ' := σ) rfl trivial ?_
        refine aw_cne dX6_copy_47 (tgt := 53) (by decide) ⟨by omega, by omega⟩ ⟨by omega, by omega⟩ (fun wh6 => ?_) (fun wh6 => ?_)
        · refine aw_b kX6_ok bX6_copy_53_ok (Cs := []) (pc' := 55) (L' := [some (aR 0 0), some (aI d), some (aI i), some (aI e), some (aI j), some (aI n), some (aI (lkF (σ 10 0 d) d 2)), some (aI (lkF (σ 10 0 e) e 2))]) (st' := [aI (lkF (σ 10 0 d) d 2)]) (σ' := σ) rfl trivial ?_
          refine aw_ine dX6_copy_55 (tgt := 75) (by decide) ⟨by omega, by omega⟩ (fun wh7 => ?_) (fun wh7 => ?_)
          · refine aw_b kX6_ok bX6_copy_75_ok (Cs := []) (pc' := 77) (L' := [some (aR 0 0), some (aI d), some (aI i), some (aI e), some (aI j), some (aI n), some (aI (lkF (σ 10 0 d) d 2)), some (aI (lkF (σ 10 0 e) e 2))]) (st' := [aI (-12)]) (σ' := σ) rfl trivial ?_
            exact aw_iret dX6_copy_77 rfl ⟨aret (by unfold A_copy; rw [if_pos (by omega), if_neg (by omega), if_pos (by omega)]), by unfold S_copy; rw [if_neg (by omega)]⟩
          · refine aw_b kX6_ok bX6_copy_58_ok (Cs := []) (pc' := 60) (L' := [some (aR 0 0), some (aI d), some (aI i), some (aI e), some (aI j), some (aI n), some (aI (lkF (σ 10 0 d) d 2)), some (aI (lkF (σ 10 0 e) e 2))]) (st' := [aI (lkF (σ 10 0 e) e 2)]) (σ' := σ) rfl trivial ?_
            refine aw_ine dX6_copy_60 (tgt := 75) (by decide) ⟨by omega, by omega⟩ (fun wh8 => ?_) (fun wh8 => ?_)
            · refine aw_b kX6_ok bX6_copy_75_ok (Cs := []) (pc' := 77) (L' := [some (aR 0 0), some (aI d), some (aI i), some (aI e), some (aI j), some (aI n), some (aI (lkF (σ 10 0 d) d 2)), some (aI (lkF (σ 10 0 e) e 2))]) (st' := [aI (-12)]) (σ' := σ) rfl trivial ?_
              exact aw_iret dX6_copy_77 rfl ⟨aret (by unfold A_copy; rw [if_pos (by omega), if_neg (by omega), if_pos (by omega)]), by unfold S_copy; rw [if_neg (by omega)]⟩
            · refine aw_b kX6_ok bX6_copy_63_ok (Cs := [0 < 1]) (pc' := 69) (L' := [some (aR 0 0), some (aI d), some (aI i), some (aI e), some (aI j), some (aI n), some (aI (lkF (σ 10 0 d) d 2)), some (aI (lkF (σ 10 0 e) e 2))]) (st' := [aI e, aI d, aR 9 0]) (σ' := σ) rfl (show 0 < 1 from by omega) ?_
              refine aw_bV lX6_291 (as := [aI d, aI e]) (rest := []) (t := 9) (c := 0) (by decide) (by decide) (by decide) rfl rfl (Nat.le_of_ble_eq_true rfl) rfl dX6_copy_69 (cS_haveOneSort l d e σ hs (by omega) (by omega) (by omega) (by omega)) (fun wh9 => ?_) (fun wh9 => ?_)
              · refine aw_ine dX6_copy_72 (tgt := 78) (by decide) ⟨by omega, by omega⟩ (fun wh10 => ?_) (fun wh10 => absurd wh10 (by decide))
                refine aw_b kX6_ok bX6_copy_78_ok (Cs := [0 < 1]) (pc' := 86) (L' := [some (aR 0 0), some (aI d), some (aI i), some (aI e), some (aI j), some (aI n), some (aI (lkF (σ 10 0 d) d 2)), some (aI (lkF (σ 10 0 e) e 2))]) (st' := [aI n, aI i, aI d, aR 9 0]) (σ' := σ) rfl (show 0 < 1 from by omega) ?_
                refine aw_bV lX6_294 (as := [aI d, aI i, aI n]) (rest := []) (t := 9) (c := 0) (by decide) (by decide) (by decide) rfl rfl (Nat.le_of_ble_eq_true rfl) rfl dX6_copy_86 (cS_hasPlaces l d i n σ hs (by omega) (by omega) ⟨by omega, by omega⟩ ⟨by omega, by omega⟩) (fun wh11 => ?_) (fun wh11 => ?_)
                · refine aw_ieq dX6_copy_89 (tgt := 107) (by decide) ⟨by omega, by omega⟩ (fun wh12 => absurd wh12 (by decide)) (fun wh12 => ?_)
                  refine aw_b kX6_ok bX6_copy_92_ok (Cs := [0 < 1]) (pc' := 101) (L' := [some (aR 0 0), some (aI d), some (aI i), some (aI e), some (aI j), some (aI n), some (aI (lkF (σ 10 0 d) d 2)), some (aI (lkF (σ 10 0 e) e 2))]) (st' := [aI n, aI j, aI e, aR 9 0]) (σ' := σ) rfl (show 0 < 1 from by omega) ?_
                  refine aw_bV lX6_294 (as := [aI e, aI j, aI n]) (rest := []) (t := 9) (c := 0) (by decide) (by decide) (by decide) rfl rfl (Nat.le_of_ble_eq_true rfl) rfl dX6_copy_101 (cS_hasPlaces l e j n σ hs (by omega) (by omega) ⟨by omega, by omega⟩ ⟨by omega, by omega⟩) (fun wh13 => ?_) (fun wh13 => ?_)
                  · refine aw_ine dX6_copy_104 (tgt := 110) (by decide) ⟨by omega, by omega⟩ (fun wh14 => ?_) (fun wh14 => absurd wh14 (by decide))
                    refine aw_b kX6_ok bX6_copy_110_ok (Cs := [0 < 1]) (pc' := 121) (L' := [some (aR 0 0), some (aI d), some (aI i), some (aI e), some (aI j), some (aI n), some (aI (lkF (σ 10 0 d) d 2)), some (aI (lkF (σ 10 0 e) e 2))]) (st' := [aI n, aI j, aI e, aI i, aI d, aR 9 0]) (σ' := σ) rfl (show 0 < 1 from by omega) ?_
                    refine aw_fV lX6_297 (as := [aI d, aI i, aI e, aI j, aI n]) (rest := []) (t := 9) (c := 0) (by decide) (by decide) (by decide) rfl rfl (Nat.le_of_ble_eq_true rfl) rfl dX6_copy_121 (cS_move l d i e j n σ hs (by omega) (by omega) (by omega) (by omega) (by omega) (by omega) (by omega) (by omega) (by omega)) ?_
                    refine aw_b kX6_ok bX6_copy_124_ok (Cs := []) (pc' := 126) (L' := [some (aR 0 0), some (aI d), some (aI i), some (aI e), some (aI j), some (aI n), some (aI (lkF (σ 10 0 d) d 2)), some (aI (lkF (σ 10 0 e) e 2))]) (st' := [aI n]) (σ' := aCp σ 15 0 (d * 100 + i) (e * 100 + j) n) rfl trivial ?_
                    exact aw_iret dX6_copy_126 rfl ⟨aret (by unfold A_copy; rw [if_pos (by omega), if_neg (by omega), if_neg (by omega), if_pos (by omega)]), by unfold S_copy; rw [if_pos (by omega)]⟩
                  · refine aw_ine dX6_copy_104 (tgt := 110) (by decide) ⟨by omega, by omega⟩ (fun wh15 => absurd wh15 (by decide)) (fun wh15 => ?_)
                    refine aw_b kX6_ok bX6_copy_107_ok (Cs := []) (pc' := 109) (L' := [some (aR 0 0), some (aI d), some (aI i), some (aI e), some (aI j), some (aI n), some (aI (lkF (σ 10 0 d) d 2)), some (aI (lkF (σ 10 0 e) e 2))]) (st' := [aI (-13)]) (σ' := σ) rfl trivial ?_
                    exact aw_iret dX6_copy_109 rfl ⟨aret (by unfold A_copy; rw [if_pos (by omega), if_neg (by omega), if_neg (by omega), if_neg (by omega)]), by unfold S_copy; rw [if_neg (by omega)]⟩
                · refine aw_ieq dX6_copy_89 (tgt := 107) (by decide) ⟨by omega, by omega⟩ (fun wh16 => ?_) (fun wh16 => absurd wh16 (by decide))
                  refine aw_b kX6_ok bX6_copy_107_ok (Cs := []) (pc' := 109) (L' := [some (aR 0 0), some (aI d), some (aI i), some (aI e), some (aI j), some (aI n), some (aI (lkF (σ 10 0 d) d 2)), some (aI (lkF (σ 10 0 e) e 2))]) (st' := [aI (-13)]) (σ' := σ) rfl trivial ?_
                  exact aw_iret dX6_copy_109 rfl ⟨aret (by unfold A_copy; rw [if_pos (by omega), if_neg (by omega), if_neg (by omega), if_neg (by omega)]), by unfold S_copy; rw [if_neg (by omega)]⟩
              · refine aw_ine dX6_copy_72 (tgt := 78) (by decide) ⟨by omega, by omega⟩ (fun wh17 => absurd wh17 (by decide)) (fun wh17 => ?_)
                refine aw_b kX6_ok bX6_copy_75_ok (Cs := []) (pc' := 77) (L' := [some (aR 0 0), some (aI d), some (aI i), some (aI e), some (aI j), some (aI n), some (aI (lkF (σ 10 0 d) d 2)), some (aI (lkF (σ 10 0 e) e 2))]) (st' := [aI (-12)]) (σ' := σ) rfl trivial ?_
                exact aw_iret dX6_copy_77 rfl ⟨aret (by unfold A_copy; rw [if_pos (by omega), if_neg (by omega), if_pos (by omega)]), by unfold S_copy; rw [if_neg (by omega)]⟩
        · refine aw_b kX6_ok bX6_copy_50_ok (Cs := []) (pc' := 52) (L' := [some (aR 0 0), some (aI d), some (aI i), some (aI e), some (aI j), some (aI n), some (aI (lkF (σ 10 0 d) d 2)), some (aI (lkF (σ 10 0 e) e 2))]) (st' := [aI (-11)]) (σ' := σ) rfl trivial ?_
          exact aw_iret dX6_copy_52 rfl ⟨aret (by unfold A_copy; rw [if_pos (by omega), if_pos (by omega)]), by unfold S_copy; rw [if_neg (by omega)]⟩
    · refine aw_ine dX6_copy_11 (tgt := 16) (by decide) ⟨by omega, by omega⟩ (fun wh18 => absurd wh18 (by decide)) (fun wh18 => ?_)
      refine aw_b kX6_ok bX6_copy_14_ok (Cs := []) (pc' := 15) (L' := [some (aR 0 0), some (aI d), some (aI i), some (aI e), some (aI j), some (aI n), none, none]) (st' := [aI (-1)]) (σ' := σ) rfl trivial ?_
      exact aw_iret dX6_copy_15 rfl ⟨aret (by unfold A_copy; rw [if_neg (by omega)]), by unfold S_copy; rw [if_neg (by omega)]⟩
  · refine aw_ieq dX6_copy_4 (tgt := 14) (by decide) ⟨by omega, by omega⟩ (fun wh19 => ?_) (fun wh19 => absurd wh19 (by decide))
    refine aw_b kX6_ok bX6_copy_14_ok (Cs := []) (pc' := 15) (L' := [some (aR 0 0), some (aI d), some (aI i), some (aI e), some (aI j), some (aI n), none, none]) (st' := [aI (-1)]) (σ' := σ) rfl trivial ?_
    exact aw_iret dX6_copy_15 rfl ⟨aret (by unfold A_copy; rw [if_neg (by omega)]), by unfold S_copy; rw [if_neg (by omega)]⟩
/-- the most that so many OFFICES, the last ones, can give when a set is taken -/
def bfP (La : Int → Int → Int) (b : Int → Int) (f u : Int) : Nat → Int
  | 0 => b u
  | p + 1 => if bitF u p = 0 then (if bfP La b f u p < La f p + b (addF u p) then La f p + b (addF u p) else bfP La b f u p) else bfP La b f u p
def bfN (La : Int → Int → Int) (N : Nat) : Nat → Int → Int
  | 0, _ => 0
  | j + 1, u => bfP La (bfN La N j) (4 - (j : Int)) u N
theorem bfP_rng {La : Int → Int → Int} {b : Int → Int} {f m : Int} (hL : ∀ p : Nat, p < 8 → 0 ≤ La f p ∧ La f p ≤ 60) (hb : ∀ u : Int, 0 ≤ u → u < 256 → 0 ≤ b u ∧ b u ≤ m) {u : Int} (u0 : 0 ≤ u) (u1 : u < 256) : ∀ p : Nat, p ≤ 8 → 0 ≤ bfP La b f u p ∧ bfP La b f u p ≤ m + 60
  | 0, _ => by have h := hb u u0 u1; show 0 ≤ b u ∧ b u ≤ m + 60; omega
  | p + 1, hp => by
    have h := bfP_rng hL hb u0 u1 p (by omega)
    have a := hL p (by omega)
    have t := (bit_all u0 u1 (p := (p : Int)) (by omega) (by omega)).2.1
    have c := hb (addF u p) t.1 t.2
    unfold bfP
    split
    · split <;> omega
    · exact h
theorem bfN_rng {La : Int → Int → Int} {N : Nat} (hN : N ≤ 8) (hL : ∀ f : Int, 0 ≤ f → f < 5 → ∀ p : Nat, p < 8 → 0 ≤ La f p ∧ La f p ≤ 60) : ∀ j : Nat, j ≤ 5 → ∀ u : Int, 0 ≤ u → u < 256 → 0 ≤ bfN La N j u ∧ bfN La N j u ≤ 60 * j
  | 0, _, u, _, _ => ⟨Int.le_refl 0, Int.le_refl 0⟩
  | j + 1, hj, u, u0, u1 => by
    have h := bfP_rng (f := 4 - (j : Int)) (b := bfN La N j) (m := 60 * (j : Int)) (hL (4 - (j : Int)) (by omega) (by omega)) (fun u h0 h1 => bfN_rng hN hL j (by omega) u h0 h1) u0 u1 N hN
    show 0 ≤ bfP La (bfN La N j) (4 - (j : Int)) u N ∧ bfP La (bfN La N j) (4 - (j : Int)) u N ≤ 60 * ((j + 1 : Nat) : Int)
    omega
theorem addF_lt : ∀ N : Nat, N < 9 → ∀ p : Nat, p < N → ∀ u : Nat, u < 2 ^ N → addF u p < (2 : Int) ^ N := by decide +kernel
/-- who takes an office first, with so much left to give -/
def fbF (La : Int → Int → Int) (N : Nat) (f u : Int) (j : Nat) : Nat → Nat → Int
  | 0, _ => -4
  | k + 1, p => if bitF u p = 0 ∧ La f p + bfN La N j (addF u p) = bfN La N (j + 1) u then (p : Int) else fbF La N f u j k (p + 1)
theorem fbF_rng (La : Int → Int → Int) (N : Nat) (f u : Int) (j : Nat) : ∀ k p : Nat, fbF La N f u j k p = -4 ∨ (0 ≤ fbF La N f u j k p ∧ fbF La N f u j k p < p + k)
  | 0, _ => Or.inl rfl
  | k + 1, p => by
    have h := fbF_rng La N f u j k (p + 1)
    rw [fbF]
    split
    · right; omega
    · omega
def usN (La : Int → Int → Int) (N : Nat) : Nat → Int
  | 0 => 0
  | f + 1 => if fbF La N f (usN La N f) (4 - f) N 0 < 0 then usN La N f else addF (usN La N f) (fbF La N f (usN La N f) (4 - f) N 0)
theorem usN_rng (La : Int → Int → Int) {N : Nat} (hN : N ≤ 8) : ∀ f : Nat, 0 ≤ usN La N f ∧ usN La N f < (2 : Int) ^ N
  | 0 => ⟨Int.le_refl 0, by show (0 : Int) < 2 ^ N; exact Int.pow_pos (by decide)⟩
  | f + 1 => by
    have h := usN_rng La hN f
    have g := fbF_rng La N f (usN La N f) (4 - f) N 0
    rw [usN]
    split
    · exact h
    · obtain ⟨u, hu⟩ := Int.eq_ofNat_of_zero_le h.1
      obtain ⟨p, hp⟩ := Int.eq_ofNat_of_zero_le (show 0 ≤ fbF La N f (usN La N f) (4 - f) N 0 by omega)
      have u2 : u < 2 ^ N := by rw [hu] at h; have := h.2; exact_mod_cast this
      have z := addF_lt N (by omega) p (by omega) u u2
      have u8 : u < 256 := Nat.lt_of_lt_of_le u2 (Nat.le_trans (Nat.pow_le_pow_right (by decide) hN) (by decide))
      have t := (bit_all (s := (u : Int)) (by omega) (by omega) (p := (p : Int)) (by omega) (by omega)).2.1
      rw [hp, hu]
      exact ⟨t.1, z⟩
def A_casts (r : aRw) (f : Int) : Int := if f = -1 then bfN (laF r) (r 0).toNat 5 0 else if 0 ≤ f ∧ f < 5 then fbF (laF r) (r 0).toNat f (usN (laF r) (r 0).toNat f.toNat) (4 - f.toNat) (r 0).toNat 0 else -1
/-- what the casting has been told -/
def CzL (σ : aS) (r : aRw) : Prop := σ 16 0 2 = r 0 ∧ (∀ f p : Int, 0 ≤ f → f < 5 → 0 ≤ p → p < r 0 → σ 17 0 (f * 8 + p) = laF r f p)
def CzB (σ : aS) (r : aRw) (j : Nat) : Prop := ∀ i : Nat, i ≤ j → ∀ u : Nat, u < 2 ^ (r 0).toNat → σ 18 0 ((5 - (i : Int)) * 256 + u) = bfN (laF r) (r 0).toNat i u
theorem laF_L (r : aRw) : ∀ f : Int, 0 ≤ f → f < 5 → ∀ p : Nat, p < 8 → 0 ≤ laF r f p ∧ laF r f p ≤ 60 := fun f _ _ p _ => by have := laF_rng r f p; omega
theorem pw8 {N : Nat} (h : N ≤ 8) : 2 ^ N ≤ 256 := Nat.le_trans (Nat.pow_le_pow_right (by decide) h) (by decide)
set_option maxRecDepth 10000 in
theorem cZ_with (l : Launch) (f u p : Int) (σ : aS) (f0 : 0 ≤ f) (f1 : f < 5) (u0 : 0 ≤ u) (u1 : u < 256) (p0 : 0 ≤ p) (p1 : p < 8) : AM l 0 mX1_with [aR 16 0, aI f, aI u, aI p] σ (aF (some (aI (σ 17 0 (f * 8 + p) + σ 18 0 ((f + 1) * 256 + addF u p)))) σ) := by
  have bt := bit_all u0 u1 p0 p1
  have ba : aOr u (1 * 2 ^ (Int.toNat p)) = addF u p := rfl
  refine am_of (by decide) (Nat.le_of_ble_eq_true rfl) (L := [some (aR 16 0), some (aI f), some (aI u), some (aI p)]) rfl ?_
  refine aw_b kX1_ok bX1_with_0_ok (Cs := [0 < 1, 0 < 1, 0 ≤ (f * 8) + p ∧ (f * 8) + p < 40, 0 < 1, 0 ≤ p ∧ p < 32, 0 < 1, 0 ≤ ((f + 1) * 256) + (aOr u (1 * 2 ^ (Int.toNat p))) ∧ ((f + 1) * 256) + (aOr u (1 * 2 ^ (Int.toNat p))) < 1536]) (pc' := 30) (L' := [some (aR 16 0), some (aI f), some (aI u), some (aI p)]) (st' := [aI ((σ 17 0 ((f * 8) + p)) + (σ 18 0 (((f + 1) * 256) + (aOr u (1 * 2 ^ (Int.toNat p))))))]) (σ' := σ) rfl (show (0 < 1) ∧ (0 < 1) ∧ (0 ≤ (f * 8) + p ∧ (f * 8) + p < 40) ∧ (0 < 1) ∧ (0 ≤ p ∧ p < 32) ∧ (0 < 1) ∧ (0 ≤ ((f + 1) * 256) + (aOr u (1 * 2 ^ (Int.toNat p))) ∧ ((f + 1) * 256) + (aOr u (1 * 2 ^ (Int.toNat p))) < 1536) from ⟨by omega, by omega, by omega, by omega, by omega, by omega, by omega⟩) ?_
  exact aw_iret dX1_with_30 rfl ⟨rfl, rfl⟩
set_option maxRecDepth 10000 in
theorem cZ_bestFrom (l : Launch) (σ : aS) (r : aRw) (hw : WF r) (hL : CzL σ r) (j : Nat) (hj : j < 5) (hB : CzB σ r j) (u : Nat) (hu : u < 2 ^ (r 0).toNat) : AM l 1 mX1_bestFrom [aR 16 0, aI (4 - (j : Int)), aI (u : Int)] σ (aF (some (aI (bfN (laF r) (r 0).toNat (j + 1) u))) σ) := by
  have bn := hw.1
  have hp8 := pw8 (N := (r 0).toNat) (by omega)
  have hb2 : ∀ v : Int, 0 ≤ v → v < 256 → 0 ≤ bfN (laF r) (r 0).toNat j v ∧ bfN (laF r) (r 0).toNat j v ≤ 60 * (j : Int) := fun v h0 h1 => bfN_rng (by omega) (laF_L r) j (by omega) v h0 h1
  have eL := hL.1
  have eB := hB j (Nat.le_refl j) u hu
  rw [show (5 - (j : Int)) = (4 - (j : Int)) + 1 by omega] at eB
  refine am_of (by decide) (Nat.le_of_ble_eq_true rfl) (L := [some (aR 16 0), some (aI (4 - (j : Int))), some (aI (u : Int)), none, none]) rfl ?_
  refine aw_b kX1_ok bX1_bestFrom_0_ok (Cs := [0 < 1, 0 < 1, 0 ≤ (((4 - (j : Int)) + 1) * 256) + (u : Int) ∧ (((4 - (j : Int)) + 1) * 256) + (u : Int) < 1536]) (pc' := 18) (L' := [some (aR 16 0), some (aI (4 - (j : Int))), some (aI (u : Int)), some (aI (σ 18 0 ((((4 - (j : Int)) + 1) * 256) + (u : Int)))), some (aI 0)]) (st' := []) (σ' := σ) rfl (show (0 < 1) ∧ (0 < 1) ∧ (0 ≤ (((4 - (j : Int)) + 1) * 256) + (u : Int) ∧ (((4 - (j : Int)) + 1) * 256) + (u : Int) < 1536) from ⟨by omega, by omega, by omega⟩) ?_
  refine aw_eq (L' := [some (aR 16 0), some (aI (4 - (j : Int))), some (aI (u : Int)), some (aI (bfP (laF r) (bfN (laF r) (r 0).toNat j) (4 - (j : Int)) u 0)), some (aI ((0 : Nat) : Int))]) (by rw [eB]; rfl) rfl rfl ?_
  refine aloop (P := fun p : Nat => AW l 1 mX1_bestFrom _ 18 [some (aR 16 0), some (aI (4 - (j : Int))), some (aI (u : Int)), some (aI (bfP (laF r) (bfN (laF r) (r 0).toNat j) (4 - (j : Int)) u p)), some (aI (p : Int))] [] σ) ((r 0).toNat) (fun p hp ihp => ?_)
  have gp := bfP_rng (La := laF r) (b := bfN (laF r) (r 0).toNat j) (f := 4 - (j : Int)) (m := 60 * (j : Int)) (laF_L r _ (by omega) (by omega)) hb2 (u := (u : Int)) (by omega) (by omega) p (by omega)
  refine aw_b kX1_ok bX1_bestFrom_18_ok (Cs := [0 < 1]) (pc' := 24) (L' := [some (aR 16 0), some (aI (4 - (j : Int))), some (aI (u : Int)), some (aI (bfP (laF r) (bfN (laF r) (r 0).toNat j) (4 - (j : Int)) u p)), some (aI (p : Int))]) (st' := [aI (σ 16 0 2), aI (p : Int)]) (σ' := σ) rfl (show 0 < 1 from by omega) ?_
  refine aw_cge dX1_bestFrom_24 (tgt := 55) (by decide) ⟨by omega, by omega⟩ ⟨by omega, by omega⟩ (fun wh1 => ?_) (fun wh1 => ?_)
  · refine aw_b kX1_ok bX1_bestFrom_55_ok (Cs := []) (pc' := 56) (L' := [some (aR 16 0), some (aI (4 - (j : Int))), some (aI (u : Int)), some (aI (bfP (laF r) (bfN (laF r) (r 0).toNat j) (4 - (j : Int)) u p)), some (aI (p : Int))]) (st' := [aI (bfP (laF r) (bfN (laF r) (r 0).toNat j) (4 - (j : Int)) u p)]) (σ' := σ) rfl trivial ?_
    exact aw_iret dX1_bestFrom_56 rfl ⟨aret (by rw [show p = (r 0).toNat by omega]; rfl), rfl⟩
  · have bt := bit_all (s := (u : Int)) (by omega) (by omega) (p := (p : Int)) (by omega) (by omega)
    have hbv : aAnd ((u : Int) / 2 ^ (Int.toNat (p : Int))) 1 = bitF (u : Int) (p : Int) := rfl
    have al := addF_lt (r 0).toNat (by omega) p (by omega) u hu
    obtain ⟨a, ha⟩ := Int.eq_ofNat_of_zero_le bt.2.1.1
    have a2 : a < 2 ^ (r 0).toNat := by rw [ha] at al; exact_mod_cast al
    have ew : (σ 17 0 ((4 - (j : Int)) * 8 + (p : Int)) + σ 18 0 (((4 - (j : Int)) + 1) * 256 + addF (u : Int) (p : Int))) = laF r (4 - (j : Int)) (p : Int) + bfN (laF r) (r 0).toNat j (addF (u : Int) (p : Int)) := by
      have z := hB j (Nat.le_refl j) a a2
      rw [show (5 - (j : Int)) = (4 - (j : Int)) + 1 by omega, ← ha] at z
      rw [z, hL.2 _ _ (by omega) (by omega) (by omega) (by omega)]
    have lr := laF_rng r (4 - (j : Int)) (p : Int)
    have b2 := hb2 (addF (u : Int) (p : Int)) bt.2.1.1 bt.2.1.2
    refine aw_b kX1_ok bX1_bestFrom_27_ok (Cs := [0 ≤ (p : Int) ∧ (p : Int) < 32, -2147483648 ≤ (u : Int) ∧ (u : Int) < 2147483648]) (pc' := 33) (L' := [some (aR 16 0), some (aI (4 - (j : Int))), some (aI (u : Int)), some (aI (bfP (laF r) (bfN (laF r) (r 0).toNat j) (4 - (j : Int)) u p)), some (aI (p : Int))]) (st' := [aI (aAnd ((u : Int) / 2 ^ (Int.toNat (p : Int))) 1)]) (σ' := σ) rfl (show (0 ≤ (p : Int) ∧ (p : Int) < 32) ∧ (-2147483648 ≤ (u : Int) ∧ (u : Int) < 2147483648) from ⟨by omega, by omega⟩) ?_
    refine aw_ine dX1_bestFrom_33 (tgt := 49) (by decide) ⟨by omega, by omega⟩ (fun wh2 => ?_) (fun wh2 => ?_)
    · refine aw_b kX1_ok bX1_bestFrom_49_ok (Cs := []) (pc' := 18) (L' := [some (aR 16 0), some (aI (4 - (j : Int))), some (aI (u : Int)), some (aI (bfP (laF r) (bfN (laF r) (r 0).toNat j) (4 - (j : Int)) u p)), some (aI ((p : Int) + 1))]) (st' := []) (σ' := σ) rfl trivial ?_
      have e1 : bfP (laF r) (bfN (laF r) (r 0).toNat j) (4 - (j : Int)) u (p + 1) = bfP (laF r) (bfN (laF r) (r 0).toNat j) (4 - (j : Int)) u p := by rw [bfP, if_neg (by omega)]
      exact aw_eq (by rw [e1]; rfl) rfl rfl (ihp (by omega))
    · refine aw_b kX1_ok bX1_bestFrom_36_ok (Cs := []) (pc' := 42) (L' := [some (aR 16 0), some (aI (4 - (j : Int))), some (aI (u : Int)), some (aI (bfP (laF r) (bfN (laF r) (r 0).toNat j) (4 - (j : Int)) u p)), some (aI (p : Int))]) (st' := [aI (p : Int), aI (u : Int), aI (4 - (j : Int)), aR 16 0, aI (bfP (laF r) (bfN (laF r) (r 0).toNat j) (4 - (j : Int)) u p)]) (σ' := σ) rfl trivial ?_
      refine aw_fV lX1_36 (as := [aI (4 - (j : Int)), aI (u : Int), aI (p : Int)]) (rest := [aI (bfP (laF r) (bfN (laF r) (r 0).toNat j) (4 - (j : Int)) u p)]) (t := 16) (c := 0) (by decide) (by decide) (by decide) rfl rfl (Nat.le_of_ble_eq_true rfl) rfl dX1_bestFrom_42 (cZ_with l (4 - (j : Int)) (u : Int) (p : Int) σ (by omega) (by omega) (by omega) (by omega) (by omega) (by omega)) ?_
      refine aw_max lX1_40 (rest := []) (by decide) (Nat.le_of_ble_eq_true rfl) dX1_bestFrom_45 (x := bfP (laF r) (bfN (laF r) (r 0).toNat j) (4 - (j : Int)) u p) (y := (σ 17 0 ((4 - (j : Int)) * 8 + (p : Int)) + σ 18 0 (((4 - (j : Int)) + 1) * 256 + addF (u : Int) (p : Int)))) ⟨by omega, by omega⟩ ⟨by omega, by omega⟩ ?_
      refine aw_b kX1_ok bX1_bestFrom_48_ok (Cs := []) (pc' := 49) (L' := [some (aR 16 0), some (aI (4 - (j : Int))), some (aI (u : Int)), some (aI (if bfP (laF r) (bfN (laF r) (r 0).toNat j) (4 - (j : Int)) u p < (σ 17 0 ((4 - (j : Int)) * 8 + (p : Int)) + σ 18 0 (((4 - (j : Int)) + 1) * 256 + addF (u : Int) (p : Int))) then (σ 17 0 ((4 - (j : Int)) * 8 + (p : Int)) + σ 18 0 (((4 - (j : Int)) + 1) * 256 + addF (u : Int) (p : Int))) else bfP (laF r) (bfN (laF r) (r 0).toNat j) (4 - (j : Int)) u p)), some (aI (p : Int))]) (st' := []) (σ' := σ) rfl trivial ?_
      refine aw_b kX1_ok bX1_bestFrom_49_ok (Cs := []) (pc' := 18) (L' := [some (aR 16 0), some (aI (4 - (j : Int))), some (aI (u : Int)), some (aI (if bfP (laF r) (bfN (laF r) (r 0).toNat j) (4 - (j : Int)) u p < (σ 17 0 ((4 - (j : Int)) * 8 + (p : Int)) + σ 18 0 (((4 - (j : Int)) + 1) * 256 + addF (u : Int) (p : Int))) then (σ 17 0 ((4 - (j : Int)) * 8 + (p : Int)) + σ 18 0 (((4 - (j : Int)) + 1) * 256 + addF (u : Int) (p : Int))) else bfP (laF r) (bfN (laF r) (r 0).toNat j) (4 - (j : Int)) u p)), some (aI ((p : Int) + 1))]) (st' := []) (σ' := σ) rfl trivial ?_
      have e1 : bfP (laF r) (bfN (laF r) (r 0).toNat j) (4 - (j : Int)) u (p + 1) = (if bfP (laF r) (bfN (laF r) (r 0).toNat j) (4 - (j : Int)) u p < laF r (4 - (j : Int)) (p : Int) + bfN (laF r) (r 0).toNat j (addF (u : Int) (p : Int)) then laF r (4 - (j : Int)) (p : Int) + bfN (laF r) (r 0).toNat j (addF (u : Int) (p : Int)) else bfP (laF r) (bfN (laF r) (r 0).toNat j) (4 - (j : Int)) u p) := by rw [bfP, if_pos (by omega)]
      exact aw_eq (by rw [e1, ew]; rfl) rfl rfl (ihp (by omega))
set_option maxRecDepth 10000 in
theorem cZ_firstBest (l : Launch) (σ : aS) (r : aRw) (hw : WF r) (hL : CzL σ r) (j : Nat) (hj : j < 5) (hB : CzB σ r (j + 1)) (u : Nat) (hu : u < 2 ^ (r 0).toNat) : AM l 1 mX1_firstBest [aR 16 0, aI (4 - (j : Int)), aI (u : Int)] σ (aF (some (aI (nb (fbF (laF r) (r 0).toNat (4 - (j : Int)) u j (r 0).toNat 0)))) σ) := by
  have bn := hw.1
  have hp8 := pw8 (N := (r 0).toNat) (by omega)
  have hb2 : ∀ v : Int, 0 ≤ v → v < 256 → 0 ≤ bfN (laF r) (r 0).toNat j v ∧ bfN (laF r) (r 0).toNat j v ≤ 60 * (j : Int) := fun v h0 h1 => bfN_rng (by omega) (laF_L r) j (by omega) v h0 h1
  have eL := hL.1
  have eB := hB (j + 1) (Nat.le_refl _) u hu
  rw [show (5 - ((j + 1 : Nat) : Int)) = 4 - (j : Int) by omega] at eB
  have bfu := bfN_rng (N := (r 0).toNat) (by omega) (laF_L r) (j + 1) (by omega) (u : Int) (by omega) (by omega)
  refine am_of (by decide) (Nat.le_of_ble_eq_true rfl) (L := [some (aR 16 0), some (aI (4 - (j : Int))), some (aI (u : Int)), none]) rfl ?_
  refine aw_b kX1_ok bX1_firstBest_0_ok (Cs := []) (pc' := 2) (L' := [some (aR 16 0), some (aI (4 - (j : Int))), some (aI (u : Int)), some (aI 0)]) (st' := []) (σ' := σ) rfl trivial ?_
  refine aloop (P := fun p : Nat => ∀ (hA : fbF (laF r) (r 0).toNat (4 - (j : Int)) u j (r 0).toNat 0 = fbF (laF r) (r 0).toNat (4 - (j : Int)) u j ((r 0).toNat - p) p), AW l 1 mX1_firstBest _ 2 [some (aR 16 0), some (aI (4 - (j : Int))), some (aI (u : Int)), some (aI (p : Int))] [] σ) ((r 0).toNat) (fun p hp ihp hA => ?_) rfl
  refine aw_b kX1_ok bX1_firstBest_2_ok (Cs := [0 < 1]) (pc' := 7) (L' := [some (aR 16 0), some (aI (4 - (j : Int))), some (aI (u : Int)), some (aI (p : Int))]) (st' := [aI (σ 16 0 2), aI (p : Int)]) (σ' := σ) rfl (show 0 < 1 from by omega) ?_
  refine aw_cge dX1_firstBest_7 (tgt := 48) (by decide) ⟨by omega, by omega⟩ ⟨by omega, by omega⟩ (fun wh1 => ?_) (fun wh1 => ?_)
  · refine aw_b kX1_ok bX1_firstBest_48_ok (Cs := []) (pc' := 49) (L' := [some (aR 16 0), some (aI (4 - (j : Int))), some (aI (u : Int)), some (aI (p : Int))]) (st' := [aI (-1)]) (σ' := σ) rfl trivial ?_
    exact aw_iret dX1_firstBest_49 rfl ⟨aret (by rw [hA, show (r 0).toNat - p = 0 by omega]; rfl), rfl⟩
  · have bt := bit_all (s := (u : Int)) (by omega) (by omega) (p := (p : Int)) (by omega) (by omega)
    have hbv : aAnd ((u : Int) / 2 ^ (Int.toNat (p : Int))) 1 = bitF (u : Int) (p : Int) := rfl
    have al := addF_lt (r 0).toNat (by omega) p (by omega) u hu
    obtain ⟨a, ha⟩ := Int.eq_ofNat_of_zero_le bt.2.1.1
    have a2 : a < 2 ^ (r 0).toNat := by rw [ha] at al; exact_mod_cast al
    have ew : (σ 17 0 ((4 - (j : Int)) * 8 + (p : Int)) + σ 18 0 (((4 - (j : Int)) + 1) * 256 + addF (u : Int) (p : Int))) = laF r (4 - (j : Int)) (p : Int) + bfN (laF r) (r 0).toNat j (addF (u : Int) (p : Int)) := by
      have z := hB j (Nat.le_succ j) a a2
      rw [show (5 - (j : Int)) = (4 - (j : Int)) + 1 by omega, ← ha] at z
      rw [z, hL.2 _ _ (by omega) (by omega) (by omega) (by omega)]
    have lr := laF_rng r (4 - (j : Int)) (p : Int)
    have b2 := hb2 (addF (u : Int) (p : Int)) bt.2.1.1 bt.2.1.2
    have hC : fbF (laF r) (r 0).toNat (4 - (j : Int)) u j (r 0).toNat 0 = (if bitF (u : Int) (p : Int) = 0 ∧ laF r (4 - (j : Int)) (p : Int) + bfN (laF r) (r 0).toNat j (addF (u : Int) (p : Int)) = bfN (laF r) (r 0).toNat (j + 1) u then (p : Int) else fbF (laF r) (r 0).toNat (4 - (j : Int)) u j ((r 0).toNat - (p + 1)) (p + 1)) := by
      rw [hA, show (r 0).toNat - p = ((r 0).toNat - (p + 1)) + 1 by omega]; rfl
    refine aw_b kX1_ok bX1_firstBest_10_ok (Cs := [0 ≤ (p : Int) ∧ (p : Int) < 32, -2147483648 ≤ (u : Int) ∧ (u : Int) < 2147483648]) (pc' := 15) (L' := [some (aR 16 0), some (aI (4 - (j : Int))), some (aI (u : Int)), some (aI (p : Int))]) (st' := [aI (aAnd ((u : Int) / 2 ^ (Int.toNat (p : Int))) 1)]) (σ' := σ) rfl (show (0 ≤ (p : Int) ∧ (p : Int) < 32) ∧ (-2147483648 ≤ (u : Int) ∧ (u : Int) < 2147483648) from ⟨by omega, by omega⟩) ?_
    refine aw_ine dX1_firstBest_15 (tgt := 42) (by decide) ⟨by omega, by omega⟩ (fun wh2 => ?_) (fun wh2 => ?_)
    · refine aw_b kX1_ok bX1_firstBest_42_ok (Cs := []) (pc' := 2) (L' := [some (aR 16 0), some (aI (4 - (j : Int))), some (aI (u : Int)), some (aI ((p : Int) + 1))]) (st' := []) (σ' := σ) rfl trivial ?_
      exact ihp (by omega) (hC.trans (if_neg (by omega)))
    · refine aw_b kX1_ok bX1_firstBest_18_ok (Cs := []) (pc' := 22) (L' := [some (aR 16 0), some (aI (4 - (j : Int))), some (aI (u : Int)), some (aI (p : Int))]) (st' := [aI (p : Int), aI (u : Int), aI (4 - (j : Int)), aR 16 0]) (σ' := σ) rfl trivial ?_
      refine aw_fV lX1_36 (as := [aI (4 - (j : Int)), aI (u : Int), aI (p : Int)]) (rest := []) (t := 16) (c := 0) (by decide) (by decide) (by decide) rfl rfl (Nat.le_of_ble_eq_true rfl) rfl dX1_firstBest_22 (cZ_with l (4 - (j : Int)) (u : Int) (p : Int) σ (by omega) (by omega) (by omega) (by omega) (by omega) (by omega)) ?_
      refine aw_b kX1_ok bX1_firstBest_25_ok (Cs := [0 < 1, 0 < 1, 0 ≤ ((4 - (j : Int)) * 256) + (u : Int) ∧ ((4 - (j : Int)) * 256) + (u : Int) < 1536]) (pc' := 37) (L' := [some (aR 16 0), some (aI (4 - (j : Int))), some (aI (u : Int)), some (aI (p : Int))]) (st' := [aI (σ 18 0 (((4 - (j : Int)) * 256) + (u : Int))), aI (σ 17 0 ((4 - (j : Int)) * 8 + (p : Int)) + σ 18 0 (((4 - (j : Int)) + 1) * 256 + addF (u : Int) (p : Int)))]) (σ' := σ) rfl (show (0 < 1) ∧ (0 < 1) ∧ (0 ≤ ((4 - (j : Int)) * 256) + (u : Int) ∧ ((4 - (j : Int)) * 256) + (u : Int) < 1536) from ⟨by omega, by omega, by omega⟩) ?_
      refine aw_cne dX1_firstBest_37 (tgt := 42) (by decide) ⟨by omega, by omega⟩ ⟨by omega, by omega⟩ (fun wh3 => ?_) (fun wh3 => ?_)
      · refine aw_b kX1_ok bX1_firstBest_42_ok (Cs := []) (pc' := 2) (L' := [some (aR 16 0), some (aI (4 - (j : Int))), some (aI (u : Int)), some (aI ((p : Int) + 1))]) (st' := []) (σ' := σ) rfl trivial ?_
        exact ihp (by omega) (hC.trans (if_neg (by omega)))
      · refine aw_b kX1_ok bX1_firstBest_40_ok (Cs := []) (pc' := 41) (L' := [some (aR 16 0), some (aI (4 - (j : Int))), some (aI (u : Int)), some (aI (p : Int))]) (st' := [aI (p : Int)]) (σ' := σ) rfl trivial ?_
        exact aw_iret dX1_firstBest_41 rfl ⟨aret (by rw [hC, if_pos (by omega)]; unfold nb; rw [if_neg (by omega)]), rfl⟩
