/-! ===== the class: what is asked (2) ===== -/
def fiR (r : aRw) (f k n : Int) : Int := dysR (rUp r (3 + f) k) n.toNat 2
def fwR (r : aRw) (f n : Int) : Int := dysR (emR r f) n.toNat 2
def fcW (r : aRw) (a b : Int) : aRw := rUp (rUp r (3 + a) (r (3 + b))) (3 + b) (r (3 + a))
def fcR (r : aRw) (a b n : Int) : Int := dysR (fcW r a b) n.toNat 2
theorem dys2 {r : aRw} (hw : WF r) (n : Nat) : 0 ≤ dysR r n 2 ∧ dysR r n 2 ≤ 999 := (dysR_wf hw n).2.2.1
theorem fiR_rng {r : aRw} (hw : WF r) {f k : Int} (f0 : 0 ≤ f) (f1 : f < 5) (hk : 0 ≤ k ∧ k ≤ 9) (n : Int) : 0 ≤ fiR r f k n ∧ fiR r f k n ≤ 999 := dys2 (WF_cost hw f0 f1 hk) _
theorem fwR_rng {r : aRw} (hw : WF r) (f n : Int) : 0 ≤ fwR r f n ∧ fwR r f n ≤ 999 := dys2 (emR_wf hw f) _
theorem fcW_wf {r : aRw} (hw : WF r) {a b : Int} (a0 : 0 ≤ a) (a1 : a < 5) (b0 : 0 ≤ b) (b1 : b < 5) : WF (fcW r a b) := WF_cost (WF_cost hw a0 a1 (hw.co b0 b1)) b0 b1 (hw.co a0 a1)
theorem fcR_rng {r : aRw} (hw : WF r) {a b : Int} (a0 : 0 ≤ a) (a1 : a < 5) (b0 : 0 ≤ b) (b1 : b < 5) (n : Int) : 0 ≤ fcR r a b n ∧ fcR r a b n ≤ 999 := dys2 (fcW_wf hw a0 a1 b0 b1) _
def bsN (r : aRw) (f n : Int) : Nat → Int × Int
  | 0 => (0, 1000000000)
  | k + 1 => if fiR r f k n < (bsN r f n k).2 then ((k : Int), fiR r f k n) else bsN r f n k
theorem bsN_rng {r : aRw} (hw : WF r) {f : Int} (f0 : 0 ≤ f) (f1 : f < 5) (n : Int) : ∀ k : Nat, k < 10 → 0 ≤ (bsN r f n (k + 1)).2 ∧ (bsN r f n (k + 1)).2 ≤ 999 ∧ 0 ≤ (bsN r f n (k + 1)).1 ∧ (bsN r f n (k + 1)).1 ≤ k
  | 0, _ => by
    have h := fiR_rng hw f0 f1 (k := 0) (by decide) n
    have e : bsN r f n 1 = (0, fiR r f 0 n) := by
      show (if fiR r f ((0 : Nat) : Int) n < (0, (1000000000 : Int)).2 then (((0 : Nat) : Int), fiR r f ((0 : Nat) : Int) n) else (0, 1000000000)) = _
      exact if_pos (by show fiR r f 0 n < 1000000000; omega)
    rw [e]
    exact ⟨h.1, h.2, Int.le_refl 0, Int.le_refl 0⟩
  | k + 1, hk => by
    have z := bsN_rng hw f0 f1 n k (by omega)
    have h := fiR_rng hw f0 f1 (k := ((k + 1 : Nat) : Int)) (by omega) n
    rw [bsN]
    split
    · exact ⟨h.1, h.2, by show (0 : Int) ≤ ((k + 1 : Nat) : Int); omega, by show ((k + 1 : Nat) : Int) ≤ ((k + 1 : Nat) : Int); omega⟩
    · exact ⟨z.1, z.2.1, z.2.2.1, by omega⟩
def A_bestCostume (r : aRw) (f n w : Int) : Int := if (0 ≤ f ∧ f < 5) ∧ (0 ≤ n ∧ n ≤ 60) ∧ (w = 0 ∨ w = 1) then (if w = 0 then (bsN r f n 10).1 else (bsN r f n 10).2 - r 2) else -1
def sdN (r : aRw) (n : Int) : Nat → Int × Int
  | 0 => (-4, dysR r n.toNat 2)
  | p + 1 => if 0 ≤ off r p ∧ fwR r (off r p) n < (sdN r n p).2 then ((p : Int), fwR r (off r p) n) else sdN r n p
theorem sdN_rng {r : aRw} (hw : WF r) (n : Int) : ∀ p : Nat, 0 ≤ (sdN r n p).2 ∧ (sdN r n p).2 ≤ 999 ∧ -4 ≤ (sdN r n p).1 ∧ (sdN r n p).1 ≤ p
  | 0 => ⟨(dys2 hw _).1, (dys2 hw _).2, Int.le_refl _, by show (-4 : Int) ≤ 0; decide⟩
  | p + 1 => by
    have z := sdN_rng hw n p
    have h := fwR_rng hw (off r p) n
    rw [sdN]
    split
    · exact ⟨h.1, h.2, by show (-4 : Int) ≤ (p : Int); omega, by show (p : Int) ≤ ((p + 1 : Nat) : Int); omega⟩
    · exact ⟨z.1, z.2.1, z.2.2.1, by omega⟩
def A_send (r : aRw) (n : Int) : Int := if 0 ≤ n ∧ n ≤ 60 then (sdN r n (r 0).toNat).1 else -1
def chI (r : aRw) (n : Int) (a : Nat) (z : Int × Int) : Nat → Int × Int
  | 0 => z
  | j + 1 => if fcR r a ((a : Int) + 1 + j) n < (chI r n a z j).2 then (10 * (a : Int) + ((a : Int) + 1 + j), fcR r a ((a : Int) + 1 + j) n) else chI r n a z j
def chO (r : aRw) (n : Int) : Nat → Int × Int
  | 0 => (-4, dysR r n.toNat 2)
  | a + 1 => chI r n a (chO r n a) (4 - a)
theorem chI_rng {r : aRw} (hw : WF r) (n : Int) {a : Nat} (ha : a < 5) {z : Int × Int} (hz : 0 ≤ z.2 ∧ z.2 ≤ 999 ∧ -4 ≤ z.1 ∧ z.1 ≤ 99) : ∀ j : Nat, a + 1 + j ≤ 5 → 0 ≤ (chI r n a z j).2 ∧ (chI r n a z j).2 ≤ 999 ∧ -4 ≤ (chI r n a z j).1 ∧ (chI r n a z j).1 ≤ 99
  | 0, _ => hz
  | j + 1, hj => by
    have y := chI_rng hw n ha hz j (by omega)
    have h := fcR_rng hw (a := (a : Int)) (b := (a : Int) + 1 + j) (by omega) (by omega) (by omega) (by omega) n
    rw [chI]
    split
    · exact ⟨h.1, h.2, by show (-4 : Int) ≤ 10 * (a : Int) + ((a : Int) + 1 + j); omega, by show 10 * (a : Int) + ((a : Int) + 1 + j) ≤ 99; omega⟩
    · exact y
theorem chO_rng {r : aRw} (hw : WF r) (n : Int) : ∀ a : Nat, a ≤ 5 → 0 ≤ (chO r n a).2 ∧ (chO r n a).2 ≤ 999 ∧ -4 ≤ (chO r n a).1 ∧ (chO r n a).1 ≤ 99
  | 0, _ => ⟨(dys2 hw _).1, (dys2 hw _).2, Int.le_refl _, by show (-4 : Int) ≤ 99; decide⟩
  | a + 1, ha => chI_rng hw n (by omega) (chO_rng hw n a (by omega)) (4 - a) (by omega)
def A_change (r : aRw) (n : Int) : Int := if 0 ≤ n ∧ n ≤ 60 then (chO r n 5).1 else -1
/-- behind how many days an office is not held by one first; is empty first -/
def wnF (r : aRw) (f p : Int) : Nat → Nat → Int
  | 0, _ => -4
  | k + 1, d => if dysR r d (8 + f) = p then wnF r f p k (d + 1) else (d : Int)
def emF (r : aRw) (f : Int) : Nat → Nat → Int
  | 0, _ => -4
  | k + 1, d => if dysR r d (8 + f) < 0 then (d : Int) else emF r f k (d + 1)
def A_falls (r : aRw) (p : Int) : Int := if 0 ≤ p ∧ p < r 0 then (if off r p < 0 then -4 else wnF r (off r p) p 61 0) else -1
def A_empty (r : aRw) (f : Int) : Int := if 0 ≤ f ∧ f < 5 then emF r f 61 0 else -1
set_option maxRecDepth 10000 in
theorem cC_fallenIn (l : Launch) (f k n : Int) (σ : aS) (r : aRw) (hR : Rep σ 0 r) (hw : WF r) (hd : r 1 ≤ 999) (f0 : 0 ≤ f) (f1 : f < 5) (k0 : 0 ≤ k ∧ k ≤ 9) (h0 : 0 ≤ n) (h1 : n ≤ 60) : AM l 5 mX6_fallenIn [aR 0 0, aI f, aI k, aI n] σ (QC (fiR r f k n) σ) := by
  have bn := hw.1
  have en := hR.n
  have b1 := hw.2.1
  have e1 := hR.1.2.1
  have b2 := hw.2.2.1
  have e2 := hR.1.2.2
  refine am_of (by decide) (Nat.le_of_ble_eq_true rfl) (L := [some (aR 0 0), some (aI f), some (aI k), some (aI n)]) rfl ?_
  refine aw_b kX6_ok bX6_fallenIn_0_ok (Cs := [0 < 1, 0 < 1]) (pc' := 8) (L' := [some (aR 0 0), some (aI f), some (aI k), some (aI n)]) (st' := [aR 1 0, aR 1 1]) (σ' := σ) rfl (show (0 < 1) ∧ (0 < 1) from ⟨by omega, by omega⟩) ?_
  refine aw_callV lX6_68 (as := [aR 1 0]) (rest := []) (t := 1) (c := 1) (by decide) (by decide) (by decide) rfl rfl (Nat.le_of_ble_eq_true rfl) rfl dX6_fallenIn_8 (cC_becomes l 0 1 (by decide) (by decide) (by decide) σ r hR hw) ?_
  rintro _ τ1 ⟨rfl, hT1, hF1⟩
  refine aw_b kX6_ok bX6_fallenIn_11_ok (Cs := [0 < 1, 1 < 3, 1 < 3, 0 ≤ f ∧ f < 5, 0 < 1]) (pc' := 26) (L' := [some (aR 0 0), some (aI f), some (aI k), some (aI n)]) (st' := [aI n, aR 1 1]) (σ' := aUp τ1 7 1 f k) rfl (show (0 < 1) ∧ (1 < 3) ∧ (1 < 3) ∧ (0 ≤ f ∧ f < 5) ∧ (0 < 1) from ⟨by omega, by omega, by omega, by omega, by omega⟩) ?_
  have hP := Rep_cost hT1 hw f0 f1 k
  have e1R : rUp r (3 + f) k 1 = r 1 := rUp_ne (by omega)
  refine aw_callV lX6_159 (as := [aI n]) (rest := []) (t := 1) (c := 1) (by decide) (by decide) (by decide) rfl rfl (Nat.le_of_ble_eq_true rfl) rfl dX6_fallenIn_26 (cC_passI l n 1 (by decide) (aUp τ1 7 1 f k) (rUp r (3 + f) k) hP (WF_cost hw f0 f1 k0) h0 (by omega) (by have := e1R; omega)) ?_
  rintro _ τ2 ⟨rfl, hT2, hF2⟩
  refine aw_b kX6_ok bX6_fallenIn_29_ok (Cs := [0 < 1, 1 < 3]) (pc' := 36) (L' := [some (aR 0 0), some (aI f), some (aI k), some (aI n)]) (st' := [aI (τ2 1 1 2)]) (σ' := τ2) rfl (show (0 < 1) ∧ (1 < 3) from ⟨by omega, by omega⟩) ?_
  exact aw_iret dX6_fallenIn_36 rfl ⟨aret hT2.1.2.2, aFrC (aFr_tr (aFr_tr hF1 (aFr_up (cb (by decide)))) hF2)⟩
set_option maxRecDepth 10000 in
theorem cC_fallenWithout (l : Launch) (f n : Int) (σ : aS) (r : aRw) (hR : Rep σ 0 r) (hw : WF r) (hd : r 1 ≤ 999) (hf : aIr f) (h0 : 0 ≤ n) (h1 : n ≤ 60) : AM l 5 mX6_fallenWithout [aR 0 0, aI f, aI n] σ (QC (fwR r f n) σ) := by
  have bn := hw.1
  have en := hR.n
  have b1 := hw.2.1
  have e1 := hR.1.2.1
  have b2 := hw.2.2.1
  have e2 := hR.1.2.2
  refine am_of (by decide) (Nat.le_of_ble_eq_true rfl) (L := [some (aR 0 0), some (aI f), some (aI n)]) rfl ?_
  refine aw_b kX6_ok bX6_fallenWithout_0_ok (Cs := [0 < 1, 0 < 1]) (pc' := 8) (L' := [some (aR 0 0), some (aI f), some (aI n)]) (st' := [aR 1 0, aR 1 1]) (σ' := σ) rfl (show (0 < 1) ∧ (0 < 1) from ⟨by omega, by omega⟩) ?_
  refine aw_callV lX6_68 (as := [aR 1 0]) (rest := []) (t := 1) (c := 1) (by decide) (by decide) (by decide) rfl rfl (Nat.le_of_ble_eq_true rfl) rfl dX6_fallenWithout_8 (cC_becomes l 0 1 (by decide) (by decide) (by decide) σ r hR hw) ?_
  rintro _ τ1 ⟨rfl, hT1, hF1⟩
  refine aw_b kX6_ok bX6_fallenWithout_11_ok (Cs := [0 < 1]) (pc' := 16) (L' := [some (aR 0 0), some (aI f), some (aI n)]) (st' := [aI f, aR 1 1]) (σ' := τ1) rfl (show 0 < 1 from by omega) ?_
  refine aw_callV lX6_155 (as := [aI f]) (rest := []) (t := 1) (c := 1) (by decide) (by decide) (by decide) rfl rfl (Nat.le_of_ble_eq_true rfl) rfl dX6_fallenWithout_16 (cC_vacate l f 1 (by decide) τ1 r hT1 hw ⟨by omega, by omega⟩) ?_
  rintro _ τ3 ⟨rfl, hP, hF3, h33⟩
  have e1R : emR r f 1 = r 1 := emR_at (by omega)
  refine aw_b kX6_ok bX6_fallenWithout_19_ok (Cs := [0 < 1]) (pc' := 24) (L' := [some (aR 0 0), some (aI f), some (aI n)]) (st' := [aI n, aR 1 1]) (σ' := τ3) rfl (show 0 < 1 from by omega) ?_
  refine aw_callV lX6_159 (as := [aI n]) (rest := []) (t := 1) (c := 1) (by decide) (by decide) (by decide) rfl rfl (Nat.le_of_ble_eq_true rfl) rfl dX6_fallenWithout_24 (cC_passI l n 1 (by decide) τ3 (emR r f) hP (emR_wf hw f) h0 (by omega) (by have := e1R; omega)) ?_
  rintro _ τ2 ⟨rfl, hT2, hF2⟩
  refine aw_b kX6_ok bX6_fallenWithout_27_ok (Cs := [0 < 1, 1 < 3]) (pc' := 34) (L' := [some (aR 0 0), some (aI f), some (aI n)]) (st' := [aI (τ2 1 1 2)]) (σ' := τ2) rfl (show (0 < 1) ∧ (1 < 3) from ⟨by omega, by omega⟩) ?_
  exact aw_iret dX6_fallenWithout_34 rfl ⟨aret hT2.1.2.2, aFrC (aFr_tr (aFr_tr hF1 hF3) hF2)⟩
set_option maxRecDepth 10000 in
theorem cC_fallenChanged (l : Launch) (a b n : Int) (σ : aS) (r : aRw) (hR : Rep σ 0 r) (hw : WF r) (hd : r 1 ≤ 999) (a0 : 0 ≤ a) (a1 : a < 5) (c0 : 0 ≤ b) (c1 : b < 5) (h0 : 0 ≤ n) (h1 : n ≤ 60) : AM l 5 mX6_fallenChanged [aR 0 0, aI a, aI b, aI n] σ (QC (fcR r a b n) σ) := by
  have bn := hw.1
  have en := hR.n
  have b1 := hw.2.1
  have e1 := hR.1.2.1
  have b2 := hw.2.2.1
  have e2 := hR.1.2.2
  refine am_of (by decide) (Nat.le_of_ble_eq_true rfl) (L := [some (aR 0 0), some (aI a), some (aI b), some (aI n)]) rfl ?_
  refine aw_b kX6_ok bX6_fallenChanged_0_ok (Cs := [0 < 1, 0 < 1]) (pc' := 8) (L' := [some (aR 0 0), some (aI a), some (aI b), some (aI n)]) (st' := [aR 1 0, aR 1 1]) (σ' := σ) rfl (show (0 < 1) ∧ (0 < 1) from ⟨by omega, by omega⟩) ?_
  refine aw_callV lX6_68 (as := [aR 1 0]) (rest := []) (t := 1) (c := 1) (by decide) (by decide) (by decide) rfl rfl (Nat.le_of_ble_eq_true rfl) rfl dX6_fallenChanged_8 (cC_becomes l 0 1 (by decide) (by decide) (by decide) σ r hR hw) ?_
  rintro _ τ1 ⟨rfl, hT1, hF1⟩
  refine aw_b kX6_ok bX6_fallenChanged_11_ok (Cs := [0 < 1, 1 < 3, 0 < 1, 0 < 3, 0 < 3, 0 ≤ b ∧ b < 5, 1 < 3, 0 ≤ a ∧ a < 5, 0 < 1, 1 < 3, 0 < 1, 0 < 3, 0 < 3, 0 ≤ a ∧ a < 5, 1 < 3, 0 ≤ b ∧ b < 5, 0 < 1]) (pc' := 52) (L' := [some (aR 0 0), some (aI a), some (aI b), some (aI n)]) (st' := [aI n, aR 1 1]) (σ' := aUp (aUp τ1 7 1 a (τ1 7 0 b)) 7 1 b ((aUp τ1 7 1 a (τ1 7 0 b)) 7 0 a)) rfl (show (0 < 1) ∧ (1 < 3) ∧ (0 < 1) ∧ (0 < 3) ∧ (0 < 3) ∧ (0 ≤ b ∧ b < 5) ∧ (1 < 3) ∧ (0 ≤ a ∧ a < 5) ∧ (0 < 1) ∧ (1 < 3) ∧ (0 < 1) ∧ (0 < 3) ∧ (0 < 3) ∧ (0 ≤ a ∧ a < 5) ∧ (1 < 3) ∧ (0 ≤ b ∧ b < 5) ∧ (0 < 1) from ⟨by omega, by omega, by omega, by omega, by omega, by omega, by omega, by omega, by omega, by omega, by omega, by omega, by omega, by omega, by omega, by omega, by omega⟩) ?_
  have hR0 := hR.scr (by decide) (aFrC hF1)
  have qa := hR0.of a0 a1
  have qb := hR0.of c0 c1
  have hP : Rep (aUp (aUp τ1 7 1 a (τ1 7 0 b)) 7 1 b (aUp τ1 7 1 a (τ1 7 0 b) 7 0 a)) 1 (fcW r a b) := by
    have e9 : aUp τ1 7 1 a (τ1 7 0 b) 7 0 a = r (3 + a) := by rw [aUp_off (fun q => absurd q.2 (by decide))]; exact qa.1
    rw [e9, qb.1]
    exact Rep_cost (Rep_cost hT1 hw a0 a1 _) (WF_cost hw a0 a1 (hw.co c0 c1)) c0 c1 _
  have e1R : fcW r a b 1 = r 1 := by unfold fcW; rw [rUp_ne (by omega), rUp_ne (by omega)]
  refine aw_callV lX6_159 (as := [aI n]) (rest := []) (t := 1) (c := 1) (by decide) (by decide) (by decide) rfl rfl (Nat.le_of_ble_eq_true rfl) rfl dX6_fallenChanged_52 (cC_passI l n 1 (by decide) (aUp (aUp τ1 7 1 a (τ1 7 0 b)) 7 1 b ((aUp τ1 7 1 a (τ1 7 0 b)) 7 0 a)) (fcW r a b) hP (fcW_wf hw a0 a1 c0 c1) h0 (by omega) (by have := e1R; omega)) ?_
  rintro _ τ2 ⟨rfl, hT2, hF2⟩
  refine aw_b kX6_ok bX6_fallenChanged_55_ok (Cs := [0 < 1, 1 < 3]) (pc' := 62) (L' := [some (aR 0 0), some (aI a), some (aI b), some (aI n)]) (st' := [aI (τ2 1 1 2)]) (σ' := τ2) rfl (show (0 < 1) ∧ (1 < 3) from ⟨by omega, by omega⟩) ?_
  exact aw_iret dX6_fallenChanged_62 rfl ⟨aret hT2.1.2.2, aFrC (aFr_tr (aFr_tr hF1 (aFr_tr (aFr_up (cb (by decide))) (aFr_up (cb (by decide))))) hF2)⟩
set_option maxRecDepth 10000 in
theorem cC_bestCostume (l : Launch) (f n w : Int) (σ : aS) (r : aRw) (hR : Rep σ 0 r) (hw : WF r) (hd : r 1 ≤ 999) (hf : aIr f) (hn : aIr n) (hv : aIr w) : AM l 6 mX6_bestCostume [aR 0 0, aI f, aI n, aI w] σ (QC (A_bestCostume r f n w) σ) := by
  have bn := hw.1
  have en := hR.n
  have b1 := hw.2.1
  have e1 := hR.1.2.1
  have b2 := hw.2.2.1
  have e2 := hR.1.2.2
  refine am_of (by decide) (Nat.le_of_ble_eq_true rfl) (L := [some (aR 0 0), some (aI f), some (aI n), some (aI w), none, none, none, none]) rfl ?_
  refine aw_b kX6_ok bX6_bestCostume_0_ok (Cs := []) (pc' := 1) (L' := [some (aR 0 0), some (aI f), some (aI n), some (aI w), none, none, none, none]) (st' := [aI f]) (σ' := σ) rfl trivial ?_
  refine aw_bS lX6_109 (as := [aI f]) (rest := []) (by decide) rfl (Nat.le_of_ble_eq_true rfl) rfl dX6_bestCostume_1 (cC_isOffice l f σ ⟨by omega, by omega⟩) (fun wh1 => ?_) (fun wh1 => ?_)
  · refine aw_ieq dX6_bestCostume_4 (tgt := 21) (by decide) ⟨by omega, by omega⟩ (fun wh2 => absurd wh2 (by decide)) (fun wh2 => ?_)
    refine aw_b kX6_ok bX6_bestCostume_7_ok (Cs := []) (pc' := 8) (L' := [some (aR 0 0), some (aI f), some (aI n), some (aI w), none, none, none, none]) (st' := [aI n]) (σ' := σ) rfl trivial ?_
    refine aw_bS lX6_165 (as := [aI n]) (rest := []) (by decide) rfl (Nat.le_of_ble_eq_true rfl) rfl dX6_bestCostume_8 (cC_isAhead l n σ ⟨by omega, by omega⟩) (fun wh3 => ?_) (fun wh3 => ?_)
    · refine aw_ieq dX6_bestCostume_11 (tgt := 21) (by decide) ⟨by omega, by omega⟩ (fun wh4 => absurd wh4 (by decide)) (fun wh4 => ?_)
      refine aw_b kX6_ok bX6_bestCostume_14_ok (Cs := []) (pc' := 15) (L' := [some (aR 0 0), some (aI f), some (aI n), some (aI w), none, none, none, none]) (st' := [aI w]) (σ' := σ) rfl trivial ?_
      refine aw_bS lX6_171 (as := [aI w]) (rest := []) (by decide) rfl (Nat.le_of_ble_eq_true rfl) rfl dX6_bestCostume_15 (cC_isChoice l w σ ⟨by omega, by omega⟩) (fun wh5 => ?_) (fun wh5 => ?_)
      · refine aw_ine dX6_bestCostume_18 (tgt := 23) (by decide) ⟨by omega, by omega⟩ (fun wh6 => ?_) (fun wh6 => absurd wh6 (by decide))
        refine aw_b kX6_ok bX6_bestCostume_23_ok (Cs := []) (pc' := 30) (L' := [some (aR 0 0), some (aI f), some (aI n), some (aI w), some (aI 0), none, none, none]) (st' := [aI n, aI 0, aI f, aR 0 0]) (σ' := σ) rfl trivial ?_
        refine aw_callV lX6_184 (as := [aI f, aI 0, aI n]) (rest := []) (t := 0) (c := 0) (by decide) (by decide) (by decide) rfl rfl (Nat.le_of_ble_eq_true rfl) rfl dX6_bestCostume_30 (cC_fallenIn l f 0 n σ r hR hw hd (by omega) (by omega) (by decide) (by omega) (by omega) ) ?_
        rintro _ τ1 ⟨rfl, hF1⟩
        have hR1 := hR.scr (by decide) hF1
        refine aw_b kX6_ok bX6_bestCostume_33_ok (Cs := []) (pc' := 38) (L' := [some (aR 0 0), some (aI f), some (aI n), some (aI w), some (aI 0), some (aI (fiR r f 0 n)), some (aI 1), none]) (st' := []) (σ' := τ1) rfl trivial ?_
        have g0 := fiR_rng hw (f := f) (k := 0) (by omega) (by omega) (by decide) n
        have e10 : bsN r f n 1 = (0, fiR r f 0 n) := by
          rw [bsN, bsN, if_pos (by show fiR r f 0 n < 1000000000; omega)]; rfl
        have e11 := congrArg Prod.fst e10
        have e12 := congrArg Prod.snd e10
        dsimp only at e11 e12
        refine aw_eq (L' := [some (aR 0 0), some (aI f), some (aI n), some (aI w), some (aI (bsN r f n (0 + 1)).1), some (aI (bsN r f n (0 + 1)).2), some (aI (((0 : Nat) : Int) + 1)), none]) (by rw [show (bsN r f n (0 + 1)).1 = 0 from e11, show (bsN r f n (0 + 1)).2 = fiR r f 0 n from e12]; rfl) rfl rfl ?_
        refine aloop (P := fun k : Nat => ∀ (ρ : aS) (hQ : Rep ρ 0 r) (hG : aFr CScr σ ρ), AW l 6 mX6_bestCostume _ 38 [some (aR 0 0), some (aI f), some (aI n), some (aI w), some (aI ((bsN r f n (k + 1)).1)), some (aI ((bsN r f n (k + 1)).2)), some (aI ((k : Int) + 1)), none] [] ρ) (9) (fun k hk ihk ρ hQ hG => ?_) τ1 hR1 hF1
        have gb := bsN_rng hw (f := f) (by omega) (by omega) n k (by omega)
        refine aw_b kX6_ok bX6_bestCostume_38_ok (Cs := []) (pc' := 42) (L' := [some (aR 0 0), some (aI f), some (aI n), some (aI w), some (aI ((bsN r f n (k + 1)).1)), some (aI ((bsN r f n (k + 1)).2)), some (aI ((k : Int) + 1)), none]) (st' := [aI 10, aI ((k : Int) + 1)]) (σ' := ρ) rfl trivial ?_
        refine aw_cge dX6_bestCostume_42 (tgt := 76) (by decide) ⟨by omega, by omega⟩ ⟨by omega, by omega⟩ (fun wh7 => ?_) (fun wh7 => ?_)
        · have e9 : k = 9 := by omega
          have eQ := hQ.1.2.2
          refine aw_b kX6_ok bX6_bestCostume_76_ok (Cs := []) (pc' := 77) (L' := [some (aR 0 0), some (aI f), some (aI n), some (aI w), some (aI ((bsN r f n (k + 1)).1)), some (aI ((bsN r f n (k + 1)).2)), some (aI ((k : Int) + 1)), none]) (st' := [aI w]) (σ' := ρ) rfl trivial ?_
          refine aw_ine dX6_bestCostume_77 (tgt := 85) (by decide) ⟨by omega, by omega⟩ (fun wh8 => ?_) (fun wh8 => ?_)
          · refine aw_b kX6_ok bX6_bestCostume_85_ok (Cs := [0 < 1, 0 < 3]) (pc' := 95) (L' := [some (aR 0 0), some (aI f), some (aI n), some (aI w), some (aI ((bsN r f n (k + 1)).1)), some (aI ((bsN r f n (k + 1)).2)), some (aI ((k : Int) + 1)), none]) (st' := [aI (((bsN r f n (k + 1)).2) - (ρ 1 0 2))]) (σ' := ρ) rfl (show (0 < 1) ∧ (0 < 3) from ⟨by omega, by omega⟩) ?_
            exact aw_iret dX6_bestCostume_95 rfl ⟨aret (by subst e9; unfold A_bestCostume; rw [if_pos (by omega)]; (first | rw [if_pos (by omega)] | rw [if_neg (by omega), ← eQ])), hG⟩
          · refine aw_b kX6_ok bX6_bestCostume_80_ok (Cs := []) (pc' := 95) (L' := [some (aR 0 0), some (aI f), some (aI n), some (aI w), some (aI ((bsN r f n (k + 1)).1)), some (aI ((bsN r f n (k + 1)).2)), some (aI ((k : Int) + 1)), none]) (st' := [aI ((bsN r f n (k + 1)).1)]) (σ' := ρ) rfl trivial ?_
            exact aw_iret dX6_bestCostume_95 rfl ⟨aret (by subst e9; unfold A_bestCostume; rw [if_pos (by omega)]; (first | rw [if_pos (by omega)] | rw [if_neg (by omega), ← eQ])), hG⟩
        · refine aw_b kX6_ok bX6_bestCostume_45_ok (Cs := []) (pc' := 50) (L' := [some (aR 0 0), some (aI f), some (aI n), some (aI w), some (aI ((bsN r f n (k + 1)).1)), some (aI ((bsN r f n (k + 1)).2)), some (aI ((k : Int) + 1)), none]) (st' := [aI n, aI ((k : Int) + 1), aI f, aR 0 0]) (σ' := ρ) rfl trivial ?_
          have gk := fiR_rng hw (f := f) (k := (k : Int) + 1) (by omega) (by omega) (by omega) n
          have ekk : fiR r f ((k + 1 : Nat) : Int) n = fiR r f ((k : Int) + 1) n := rfl
          refine aw_callV lX6_184 (as := [aI f, aI ((k : Int) + 1), aI n]) (rest := []) (t := 0) (c := 0) (by decide) (by decide) (by decide) rfl rfl (Nat.le_of_ble_eq_true rfl) rfl dX6_bestCostume_50 (cC_fallenIn l f ((k : Int) + 1) n ρ r hQ hw hd (by omega) (by omega) (by omega) (by omega) (by omega) ) ?_
          rintro _ τ2 ⟨rfl, hF2⟩
          have hR2 := hQ.scr (by decide) hF2
          refine aw_b kX6_ok bX6_bestCostume_53_ok (Cs := []) (pc' := 59) (L' := [some (aR 0 0), some (aI f), some (aI n), some (aI w), some (aI ((bsN r f n (k + 1)).1)), some (aI ((bsN r f n (k + 1)).2)), some (aI ((k : Int) + 1)), some (aI (fiR r f ((k : Int) + 1) n))]) (st' := [aI ((bsN r f n (k + 1)).2), aI (fiR r f ((k : Int) + 1) n)]) (σ' := τ2) rfl trivial ?_
          refine aw_cge dX6_bestCostume_59 (tgt := 70) (by decide) ⟨by omega, by omega⟩ ⟨by omega, by omega⟩ (fun wh9 => ?_) (fun wh9 => ?_)
          · refine aw_b kX6_ok bX6_bestCostume_70_ok (Cs := []) (pc' := 38) (L' := [some (aR 0 0), some (aI f), some (aI n), some (aI w), some (aI ((bsN r f n (k + 1)).1)), some (aI ((bsN r f n (k + 1)).2)), some (aI (((k : Int) + 1) + 1)), some (aI (fiR r f ((k : Int) + 1) n))]) (st' := []) (σ' := τ2) rfl trivial ?_
            refine aw_drop [7] (L' := [some (aR 0 0), some (aI f), some (aI n), some (aI w), some (aI ((bsN r f n (k + 1)).1)), some (aI ((bsN r f n (k + 1)).2)), some (aI (((k : Int) + 1) + 1)), none]) rfl ?_
            exact aw_eq (by rw [show bsN r f n (k + 1 + 1) = bsN r f n (k + 1) from by rw [bsN]; exact if_neg (by omega)]; rfl) rfl rfl (ihk (by omega) τ2 hR2 (aFr_tr hG hF2))
          · refine aw_b kX6_ok bX6_bestCostume_62_ok (Cs := []) (pc' := 70) (L' := [some (aR 0 0), some (aI f), some (aI n), some (aI w), some (aI ((k : Int) + 1)), some (aI (fiR r f ((k : Int) + 1) n)), some (aI ((k : Int) + 1)), some (aI (fiR r f ((k : Int) + 1) n))]) (st' := []) (σ' := τ2) rfl trivial ?_
            refine aw_b kX6_ok bX6_bestCostume_70_ok (Cs := []) (pc' := 38) (L' := [some (aR 0 0), some (aI f), some (aI n), some (aI w), some (aI ((k : Int) + 1)), some (aI (fiR r f ((k : Int) + 1) n)), some (aI (((k : Int) + 1) + 1)), some (aI (fiR r f ((k : Int) + 1) n))]) (st' := []) (σ' := τ2) rfl trivial ?_
            refine aw_drop [7] (L' := [some (aR 0 0), some (aI f), some (aI n), some (aI w), some (aI ((k : Int) + 1)), some (aI (fiR r f ((k : Int) + 1) n)), some (aI (((k : Int) + 1) + 1)), none]) rfl ?_
            exact aw_eq (by rw [show bsN r f n (k + 1 + 1) = (((k + 1 : Nat) : Int), fiR r f ((k + 1 : Nat) : Int) n) from by rw [bsN]; exact if_pos (by omega)]; rfl) rfl rfl (ihk (by omega) τ2 hR2 (aFr_tr hG hF2))
      · refine aw_ine dX6_bestCostume_18 (tgt := 23) (by decide) ⟨by omega, by omega⟩ (fun wh10 => absurd wh10 (by decide)) (fun wh10 => ?_)
        refine aw_b kX6_ok bX6_bestCostume_21_ok (Cs := []) (pc' := 22) (L' := [some (aR 0 0), some (aI f), some (aI n), some (aI w), none, none, none, none]) (st' := [aI (-1)]) (σ' := σ) rfl trivial ?_
        exact aw_iret dX6_bestCostume_22 rfl ⟨aret (by unfold A_bestCostume; rw [if_neg (by omega)]), aFr_rf⟩
    · refine aw_ieq dX6_bestCostume_11 (tgt := 21) (by decide) ⟨by omega, by omega⟩ (fun wh11 => ?_) (fun wh11 => absurd wh11 (by decide))
      refine aw_b kX6_ok bX6_bestCostume_21_ok (Cs := []) (pc' := 22) (L' := [some (aR 0 0), some (aI f), some (aI n), some (aI w), none, none, none, none]) (st' := [aI (-1)]) (σ' := σ) rfl trivial ?_
      exact aw_iret dX6_bestCostume_22 rfl ⟨aret (by unfold A_bestCostume; rw [if_neg (by omega)]), aFr_rf⟩
  · refine aw_ieq dX6_bestCostume_4 (tgt := 21) (by decide) ⟨by omega, by omega⟩ (fun wh12 => ?_) (fun wh12 => absurd wh12 (by decide))
    refine aw_b kX6_ok bX6_bestCostume_21_ok (Cs := []) (pc' := 22) (L' := [some (aR 0 0), some (aI f), some (aI n), some (aI w), none, none, none, none]) (st' := [aI (-1)]) (σ' := σ) rfl trivial ?_
    exact aw_iret dX6_bestCostume_22 rfl ⟨aret (by unfold A_bestCostume; rw [if_neg (by omega)]), aFr_rf⟩
set_option maxRecDepth 10000 in
theorem cC_send (l : Launch) (n : Int) (σ : aS) (r : aRw) (hR : Rep σ 0 r) (hw : WF r) (hd : r 1 ≤ 999) (hn : aIr n) : AM l 6 mX6_send [aR 0 0, aI n] σ (QC (A_send r n) σ) := by
  have bn := hw.1
  have en := hR.n
  have b1 := hw.2.1
  have e1 := hR.1.2.1
  have b2 := hw.2.2.1
  have e2 := hR.1.2.2
  refine am_of (by decide) (Nat.le_of_ble_eq_true rfl) (L := [some (aR 0 0), some (aI n), none, none, none, none, none]) rfl ?_
  refine aw_b kX6_ok bX6_send_0_ok (Cs := []) (pc' := 1) (L' := [some (aR 0 0), some (aI n), none, none, none, none, none]) (st' := [aI n]) (σ' := σ) rfl trivial ?_
  refine aw_bS lX6_165 (as := [aI n]) (rest := []) (by decide) rfl (Nat.le_of_ble_eq_true rfl) rfl dX6_send_1 (cC_isAhead l n σ ⟨by omega, by omega⟩) (fun wh1 => ?_) (fun wh1 => ?_)
  · refine aw_ine dX6_send_4 (tgt := 9) (by decide) ⟨by omega, by omega⟩ (fun wh2 => ?_) (fun wh2 => absurd wh2 (by decide))
    refine aw_b kX6_ok bX6_send_9_ok (Cs := []) (pc' := 11) (L' := [some (aR 0 0), some (aI n), none, none, none, none, none]) (st' := [aI n, aR 0 0]) (σ' := σ) rfl trivial ?_
    refine aw_callV lX6_168 (as := [aI n]) (rest := []) (t := 0) (c := 0) (by decide) (by decide) (by decide) rfl rfl (Nat.le_of_ble_eq_true rfl) rfl dX6_send_11 (cC_foresee l n σ r hR hw hd (by omega) (by omega)) ?_
    rintro _ τ ⟨rfl, hT, hF⟩
    have hwT := dysR_wf hw n.toNat
    have eT := dysR_0 r n.toNat
    have enT := hT.n
    refine aw_b kX6_ok bX6_send_14_ok (Cs := [0 < 1, 1 < 3]) (pc' := 28) (L' := [some (aR 0 0), some (aI n), some (aI (τ 1 1 2)), some (aI (-4)), some (aI 0), none, none]) (st' := []) (σ' := τ) rfl (show (0 < 1) ∧ (1 < 3) from ⟨by omega, by omega⟩) ?_
    have hR1 := hR.scr (by decide) (aFrC hF)
    refine aw_eq (L' := [some (aR 0 0), some (aI n), some (aI (sdN r n 0).2), some (aI (sdN r n 0).1), some (aI ((0 : Nat) : Int)), none, none]) (by rw [hT.1.2.2]; rfl) rfl rfl ?_
    refine aloop (P := fun p : Nat => ∀ (ρ : aS) (hQ : Rep ρ 0 r) (hG : aFr CScr σ ρ), AW l 6 mX6_send _ 28 [some (aR 0 0), some (aI n), some (aI ((sdN r n p).2)), some (aI ((sdN r n p).1)), some (aI (p : Int)), none, none] [] ρ) ((r 0).toNat) (fun p hp ihp ρ hQ hG => ?_) τ hR1 (aFrC hF)
    have gb := sdN_rng hw n p
    have enQ := hQ.n
    refine aw_b kX6_ok bX6_send_28_ok (Cs := [0 < 1, 0 < 3]) (pc' := 37) (L' := [some (aR 0 0), some (aI n), some (aI ((sdN r n p).2)), some (aI ((sdN r n p).1)), some (aI (p : Int)), none, none]) (st' := [aI (ρ 1 0 0), aI (p : Int)]) (σ' := ρ) rfl (show (0 < 1) ∧ (0 < 3) from ⟨by omega, by omega⟩) ?_
    refine aw_cge dX6_send_37 (tgt := 85) (by decide) ⟨by omega, by omega⟩ ⟨by omega, by omega⟩ (fun wh3 => ?_) (fun wh3 => ?_)
    · refine aw_b kX6_ok bX6_send_85_ok (Cs := []) (pc' := 86) (L' := [some (aR 0 0), some (aI n), some (aI ((sdN r n p).2)), some (aI ((sdN r n p).1)), some (aI (p : Int)), none, none]) (st' := [aI ((sdN r n p).1)]) (σ' := ρ) rfl trivial ?_
      exact aw_iret dX6_send_86 rfl ⟨aret (by unfold A_send; rw [if_pos (by omega), show p = (r 0).toNat by omega]), hG⟩
    · have rp := hQ.pe (p := (p : Int)) (by omega) (by omega)
      have bo := off_rng r (p : Int)
      have no := nb_cases (off r (p : Int))
      refine aw_b kX6_ok bX6_send_40_ok (Cs := [0 < 1, 0 < 3, 0 < 3, 0 ≤ (p : Int) ∧ (p : Int) < 8]) (pc' := 55) (L' := [some (aR 0 0), some (aI n), some (aI ((sdN r n p).2)), some (aI ((sdN r n p).1)), some (aI (p : Int)), some (aI (ρ 6 0 (p : Int))), none]) (st' := [aI (-1), aI (ρ 6 0 (p : Int))]) (σ' := ρ) rfl (show (0 < 1) ∧ (0 < 3) ∧ (0 < 3) ∧ (0 ≤ (p : Int) ∧ (p : Int) < 8) from ⟨by omega, by omega, by omega, by omega⟩) ?_
      refine aw_ceq dX6_send_55 (tgt := 79) (by decide) ⟨by omega, by omega⟩ ⟨by omega, by omega⟩ (fun wh4 => ?_) (fun wh4 => ?_)
      · refine aw_b kX6_ok bX6_send_79_ok (Cs := []) (pc' := 28) (L' := [some (aR 0 0), some (aI n), some (aI ((sdN r n p).2)), some (aI ((sdN r n p).1)), some (aI ((p : Int) + 1)), some (aI (ρ 6 0 (p : Int))), none]) (st' := []) (σ' := ρ) rfl trivial ?_
        refine aw_drop [5] (L' := [some (aR 0 0), some (aI n), some (aI ((sdN r n p).2)), some (aI ((sdN r n p).1)), some (aI ((p : Int) + 1)), none, none]) rfl ?_
        exact aw_eq (by rw [show sdN r n (p + 1) = sdN r n p from by rw [sdN]; exact if_neg (by omega)]; rfl) rfl rfl (ihp (by omega) ρ hQ hG)
      · have e6 : ρ 6 0 (p : Int) = off r (p : Int) := by omega
        have gk := fwR_rng hw (off r (p : Int)) n
        have ekk : fwR r (ρ 6 0 (p : Int)) n = fwR r (off r (p : Int)) n := by rw [e6]
        refine aw_b kX6_ok bX6_send_58_ok (Cs := []) (pc' := 62) (L' := [some (aR 0 0), some (aI n), some (aI ((sdN r n p).2)), some (aI ((sdN r n p).1)), some (aI (p : Int)), some (aI (ρ 6 0 (p : Int))), none]) (st' := [aI n, aI (ρ 6 0 (p : Int)), aR 0 0]) (σ' := ρ) rfl trivial ?_
        refine aw_callV lX6_199 (as := [aI (ρ 6 0 (p : Int)), aI n]) (rest := []) (t := 0) (c := 0) (by decide) (by decide) (by decide) rfl rfl (Nat.le_of_ble_eq_true rfl) rfl dX6_send_62 (cC_fallenWithout l (ρ 6 0 (p : Int)) n ρ r hQ hw hd ⟨by omega, by omega⟩ (by omega) (by omega) ) ?_
        rintro _ τ2 ⟨rfl, hF2⟩
        have hR2 := hQ.scr (by decide) hF2
        refine aw_b kX6_ok bX6_send_65_ok (Cs := []) (pc' := 70) (L' := [some (aR 0 0), some (aI n), some (aI ((sdN r n p).2)), some (aI ((sdN r n p).1)), some (aI (p : Int)), some (aI (ρ 6 0 (p : Int))), some (aI (fwR r (ρ 6 0 (p : Int)) n))]) (st' := [aI ((sdN r n p).2), aI (fwR r (ρ 6 0 (p : Int)) n)]) (σ' := τ2) rfl trivial ?_
        refine aw_cge dX6_send_70 (tgt := 79) (by decide) ⟨by omega, by omega⟩ ⟨by omega, by omega⟩ (fun wh5 => ?_) (fun wh5 => ?_)
        · refine aw_b kX6_ok bX6_send_79_ok (Cs := []) (pc' := 28) (L' := [some (aR 0 0), some (aI n), some (aI ((sdN r n p).2)), some (aI ((sdN r n p).1)), some (aI ((p : Int) + 1)), some (aI (ρ 6 0 (p : Int))), some (aI (fwR r (ρ 6 0 (p : Int)) n))]) (st' := []) (σ' := τ2) rfl trivial ?_
          refine aw_drop [5, 6] (L' := [some (aR 0 0), some (aI n), some (aI ((sdN r n p).2)), some (aI ((sdN r n p).1)), some (aI ((p : Int) + 1)), none, none]) rfl ?_
          exact aw_eq (by rw [show sdN r n (p + 1) = sdN r n p from by rw [sdN]; exact if_neg (by omega)]; rfl) rfl rfl (ihp (by omega) τ2 hR2 (aFr_tr hG hF2))
        · refine aw_b kX6_ok bX6_send_73_ok (Cs := []) (pc' := 79) (L' := [some (aR 0 0), some (aI n), some (aI (fwR r (ρ 6 0 (p : Int)) n)), some (aI (p : Int)), some (aI (p : Int)), some (aI (ρ 6 0 (p : Int))), some (aI (fwR r (ρ 6 0 (p : Int)) n))]) (st' := []) (σ' := τ2) rfl trivial ?_
          refine aw_b kX6_ok bX6_send_79_ok (Cs := []) (pc' := 28) (L' := [some (aR 0 0), some (aI n), some (aI (fwR r (ρ 6 0 (p : Int)) n)), some (aI (p : Int)), some (aI ((p : Int) + 1)), some (aI (ρ 6 0 (p : Int))), some (aI (fwR r (ρ 6 0 (p : Int)) n))]) (st' := []) (σ' := τ2) rfl trivial ?_
          refine aw_drop [5, 6] (L' := [some (aR 0 0), some (aI n), some (aI (fwR r (ρ 6 0 (p : Int)) n)), some (aI (p : Int)), some (aI ((p : Int) + 1)), none, none]) rfl ?_
          exact aw_eq (by rw [show sdN r n (p + 1) = ((p : Int), fwR r (off r p) n) from by rw [sdN]; exact if_pos (by omega), e6]; rfl) rfl rfl (ihp (by omega) τ2 hR2 (aFr_tr hG hF2))
  · refine aw_ine dX6_send_4 (tgt := 9) (by decide) ⟨by omega, by omega⟩ (fun wh6 => absurd wh6 (by decide)) (fun wh6 => ?_)
    refine aw_b kX6_ok bX6_send_7_ok (Cs := []) (pc' := 8) (L' := [some (aR 0 0), some (aI n), none, none, none, none, none]) (st' := [aI (-1)]) (σ' := σ) rfl trivial ?_
    exact aw_iret dX6_send_8 rfl ⟨aret (by unfold A_send; rw [if_neg (by omega)]), aFr_rf⟩
set_option maxRecDepth 10000 in
theorem cC_change (l : Launch) (n : Int) (σ : aS) (r : aRw) (hR : Rep σ 0 r) (hw : WF r) (hd : r 1 ≤ 999) (hn : aIr n) : AM l 6 mX6_change [aR 0 0, aI n] σ (QC (A_change r n) σ) := by
  have bn := hw.1
  have en := hR.n
  have b1 := hw.2.1
  have e1 := hR.1.2.1
  have b2 := hw.2.2.1
  have e2 := hR.1.2.2
  refine am_of (by decide) (Nat.le_of_ble_eq_true rfl) (L := [some (aR 0 0), some (aI n), none, none, none, none, none]) rfl ?_
  refine aw_b kX6_ok bX6_change_0_ok (Cs := []) (pc' := 1) (L' := [some (aR 0 0), some (aI n), none, none, none, none, none]) (st' := [aI n]) (σ' := σ) rfl trivial ?_
  refine aw_bS lX6_165 (as := [aI n]) (rest := []) (by decide) rfl (Nat.le_of_ble_eq_true rfl) rfl dX6_change_1 (cC_isAhead l n σ ⟨by omega, by omega⟩) (fun wh1 => ?_) (fun wh1 => ?_)
  · refine aw_ine dX6_change_4 (tgt := 9) (by decide) ⟨by omega, by omega⟩ (fun wh2 => ?_) (fun wh2 => absurd wh2 (by decide))
    refine aw_b kX6_ok bX6_change_9_ok (Cs := []) (pc' := 11) (L' := [some (aR 0 0), some (aI n), none, none, none, none, none]) (st' := [aI n, aR 0 0]) (σ' := σ) rfl trivial ?_
    refine aw_callV lX6_168 (as := [aI n]) (rest := []) (t := 0) (c := 0) (by decide) (by decide) (by decide) rfl rfl (Nat.le_of_ble_eq_true rfl) rfl dX6_change_11 (cC_foresee l n σ r hR hw hd (by omega) (by omega)) ?_
    rintro _ τ ⟨rfl, hT, hF⟩
    have hwT := dysR_wf hw n.toNat
    have eT := dysR_0 r n.toNat
    have enT := hT.n
    refine aw_b kX6_ok bX6_change_14_ok (Cs := [0 < 1, 1 < 3]) (pc' := 28) (L' := [some (aR 0 0), some (aI n), some (aI (τ 1 1 2)), some (aI (-4)), some (aI 0), none, none]) (st' := []) (σ' := τ) rfl (show (0 < 1) ∧ (1 < 3) from ⟨by omega, by omega⟩) ?_
    have hR1 := hR.scr (by decide) (aFrC hF)
    refine aw_eq (L' := [some (aR 0 0), some (aI n), some (aI (chO r n 0).2), some (aI (chO r n 0).1), some (aI ((0 : Nat) : Int)), none, none]) (by rw [hT.1.2.2]; rfl) rfl rfl ?_
    refine aloop (P := fun a : Nat => ∀ (ρ : aS) (hQ : Rep ρ 0 r) (hG : aFr CScr σ ρ), AW l 6 mX6_change _ 28 [some (aR 0 0), some (aI n), some (aI ((chO r n a).2)), some (aI ((chO r n a).1)), some (aI (a : Int)), none, none] [] ρ) (5) (fun a ha iha ρ hQ hG => ?_) τ hR1 (aFrC hF)
    refine aw_b kX6_ok bX6_change_28_ok (Cs := []) (pc' := 31) (L' := [some (aR 0 0), some (aI n), some (aI ((chO r n a).2)), some (aI ((chO r n a).1)), some (aI (a : Int)), none, none]) (st' := [aI 5, aI (a : Int)]) (σ' := ρ) rfl trivial ?_
    refine aw_cge dX6_change_31 (tgt := 87) (by decide) ⟨by omega, by omega⟩ ⟨by omega, by omega⟩ (fun wh3 => ?_) (fun wh3 => ?_)
    · refine aw_b kX6_ok bX6_change_87_ok (Cs := []) (pc' := 88) (L' := [some (aR 0 0), some (aI n), some (aI ((chO r n a).2)), some (aI ((chO r n a).1)), some (aI (a : Int)), none, none]) (st' := [aI ((chO r n a).1)]) (σ' := ρ) rfl trivial ?_
      exact aw_iret dX6_change_88 rfl ⟨aret (by unfold A_change; rw [if_pos (by omega), show a = 5 by omega]), hG⟩
    · refine aw_b kX6_ok bX6_change_34_ok (Cs := []) (pc' := 40) (L' := [some (aR 0 0), some (aI n), some (aI ((chO r n a).2)), some (aI ((chO r n a).1)), some (aI (a : Int)), some (aI ((a : Int) + 1)), none]) (st' := []) (σ' := ρ) rfl trivial ?_
      refine aw_eq (L' := [some (aR 0 0), some (aI n), some (aI (chI r n a (chO r n a) 0).2), some (aI (chI r n a (chO r n a) 0).1), some (aI (a : Int)), some (aI ((a : Int) + 1 + ((0 : Nat) : Int))), none]) (by rw [show (a : Int) + 1 + ((0 : Nat) : Int) = (a : Int) + 1 from Int.add_zero _]; rfl) rfl rfl ?_
      refine aloop (P := fun j : Nat => ∀ (π : aS) (hQ2 : Rep π 0 r) (hG2 : aFr CScr σ π), AW l 6 mX6_change _ 40 [some (aR 0 0), some (aI n), some (aI ((chI r n a (chO r n a) j).2)), some (aI ((chI r n a (chO r n a) j).1)), some (aI (a : Int)), some (aI ((a : Int) + 1 + (j : Int))), none] [] (π)) (4 - a) (fun j hj ihj π hQ2 hG2 => ?_) ρ hQ hG
      have gb := chI_rng hw n (a := a) (by omega) (chO_rng hw n a (by omega)) j (by omega)
      refine aw_b kX6_ok bX6_change_40_ok (Cs := []) (pc' := 43) (L' := [some (aR 0 0), some (aI n), some (aI ((chI r n a (chO r n a) j).2)), some (aI ((chI r n a (chO r n a) j).1)), some (aI (a : Int)), some (aI ((a : Int) + 1 + (j : Int))), none]) (st' := [aI 5, aI ((a : Int) + 1 + (j : Int))]) (σ' := π) rfl trivial ?_
      refine aw_cge dX6_change_43 (tgt := 81) (by decide) ⟨by omega, by omega⟩ ⟨by omega, by omega⟩ (fun wh4 => ?_) (fun wh4 => ?_)
      · refine aw_b kX6_ok bX6_change_81_ok (Cs := []) (pc' := 28) (L' := [some (aR 0 0), some (aI n), some (aI ((chI r n a (chO r n a) j).2)), some (aI ((chI r n a (chO r n a) j).1)), some (aI ((a : Int) + 1)), some (aI ((a : Int) + 1 + (j : Int))), none]) (st' := []) (σ' := π) rfl trivial ?_
        refine aw_drop [5] (L' := [some (aR 0 0), some (aI n), some (aI ((chI r n a (chO r n a) j).2)), some (aI ((chI r n a (chO r n a) j).1)), some (aI ((a : Int) + 1)), none, none]) rfl ?_
        exact aw_eq (by rw [show j = 4 - a by omega]; rfl) rfl rfl (iha (by omega) π hQ2 hG2)
      · have gk := fcR_rng hw (a := (a : Int)) (b := (a : Int) + 1 + (j : Int)) (by omega) (by omega) (by omega) (by omega) n
        refine aw_b kX6_ok bX6_change_46_ok (Cs := []) (pc' := 52) (L' := [some (aR 0 0), some (aI n), some (aI ((chI r n a (chO r n a) j).2)), some (aI ((chI r n a (chO r n a) j).1)), some (aI (a : Int)), some (aI ((a : Int) + 1 + (j : Int))), none]) (st' := [aI n, aI ((a : Int) + 1 + (j : Int)), aI (a : Int), aR 0 0]) (σ' := π) rfl trivial ?_
        refine aw_callV lX6_202 (as := [aI (a : Int), aI ((a : Int) + 1 + (j : Int)), aI n]) (rest := []) (t := 0) (c := 0) (by decide) (by decide) (by decide) rfl rfl (Nat.le_of_ble_eq_true rfl) rfl dX6_change_52 (cC_fallenChanged l (a : Int) ((a : Int) + 1 + (j : Int)) n π r hQ2 hw hd (by omega) (by omega) (by omega) (by omega) (by omega) (by omega) ) ?_
        rintro _ τ2 ⟨rfl, hF2⟩
        have hR2 := hQ2.scr (by decide) hF2
        refine aw_b kX6_ok bX6_change_55_ok (Cs := []) (pc' := 60) (L' := [some (aR 0 0), some (aI n), some (aI ((chI r n a (chO r n a) j).2)), some (aI ((chI r n a (chO r n a) j).1)), some (aI (a : Int)), some (aI ((a : Int) + 1 + (j : Int))), some (aI (fcR r (a : Int) ((a : Int) + 1 + (j : Int)) n))]) (st' := [aI ((chI r n a (chO r n a) j).2), aI (fcR r (a : Int) ((a : Int) + 1 + (j : Int)) n)]) (σ' := τ2) rfl trivial ?_
        refine aw_cge dX6_change_60 (tgt := 75) (by decide) ⟨by omega, by omega⟩ ⟨by omega, by omega⟩ (fun wh5 => ?_) (fun wh5 => ?_)
        · refine aw_b kX6_ok bX6_change_75_ok (Cs := []) (pc' := 40) (L' := [some (aR 0 0), some (aI n), some (aI ((chI r n a (chO r n a) j).2)), some (aI ((chI r n a (chO r n a) j).1)), some (aI (a : Int)), some (aI (((a : Int) + 1 + (j : Int)) + 1)), some (aI (fcR r (a : Int) ((a : Int) + 1 + (j : Int)) n))]) (st' := []) (σ' := τ2) rfl trivial ?_
          refine aw_drop [6] (L' := [some (aR 0 0), some (aI n), some (aI ((chI r n a (chO r n a) j).2)), some (aI ((chI r n a (chO r n a) j).1)), some (aI (a : Int)), some (aI (((a : Int) + 1 + (j : Int)) + 1)), none]) rfl ?_
          exact aw_eq (by rw [show chI r n a (chO r n a) (j + 1) = chI r n a (chO r n a) j from by rw [chI]; exact if_neg (by omega), show (a : Int) + 1 + ((j + 1 : Nat) : Int) = (a : Int) + 1 + (j : Int) + 1 by omega]) rfl rfl (ihj (by omega) τ2 hR2 (aFr_tr hG2 hF2))
        · refine aw_b kX6_ok bX6_change_63_ok (Cs := []) (pc' := 75) (L' := [some (aR 0 0), some (aI n), some (aI (fcR r (a : Int) ((a : Int) + 1 + (j : Int)) n)), some (aI ((10 * (a : Int)) + ((a : Int) + 1 + (j : Int)))), some (aI (a : Int)), some (aI ((a : Int) + 1 + (j : Int))), some (aI (fcR r (a : Int) ((a : Int) + 1 + (j : Int)) n))]) (st' := []) (σ' := τ2) rfl trivial ?_
          refine aw_b kX6_ok bX6_change_75_ok (Cs := []) (pc' := 40) (L' := [some (aR 0 0), some (aI n), some (aI (fcR r (a : Int) ((a : Int) + 1 + (j : Int)) n)), some (aI ((10 * (a : Int)) + ((a : Int) + 1 + (j : Int)))), some (aI (a : Int)), some (aI (((a : Int) + 1 + (j : Int)) + 1)), some (aI (fcR r (a : Int) ((a : Int) + 1 + (j : Int)) n))]) (st' := []) (σ' := τ2) rfl trivial ?_
          refine aw_drop [6] (L' := [some (aR 0 0), some (aI n), some (aI (fcR r (a : Int) ((a : Int) + 1 + (j : Int)) n)), some (aI ((10 * (a : Int)) + ((a : Int) + 1 + (j : Int)))), some (aI (a : Int)), some (aI (((a : Int) + 1 + (j : Int)) + 1)), none]) rfl ?_
          exact aw_eq (by rw [show chI r n a (chO r n a) (j + 1) = (10 * (a : Int) + ((a : Int) + 1 + j), fcR r a ((a : Int) + 1 + j) n) from by rw [chI]; exact if_pos (by omega), show (a : Int) + 1 + ((j + 1 : Nat) : Int) = (a : Int) + 1 + (j : Int) + 1 by omega]) rfl rfl (ihj (by omega) τ2 hR2 (aFr_tr hG2 hF2))
  · refine aw_ine dX6_change_4 (tgt := 9) (by decide) ⟨by omega, by omega⟩ (fun wh6 => absurd wh6 (by decide)) (fun wh6 => ?_)
    refine aw_b kX6_ok bX6_change_7_ok (Cs := []) (pc' := 8) (L' := [some (aR 0 0), some (aI n), none, none, none, none, none]) (st' := [aI (-1)]) (σ' := σ) rfl trivial ?_
    exact aw_iret dX6_change_8 rfl ⟨aret (by unfold A_change; rw [if_neg (by omega)]), aFr_rf⟩
set_option maxRecDepth 10000 in
theorem cC_falls (l : Launch) (p : Int) (σ : aS) (r : aRw) (hR : Rep σ 0 r) (hw : WF r) (hd : r 1 ≤ 999) (hp : aIr p) : AM l 4 mX6_falls [aR 0 0, aI p] σ (QC (A_falls r p) σ) := by
  have bn := hw.1
  have en := hR.n
  have b1 := hw.2.1
  have e1 := hR.1.2.1
  have b2 := hw.2.2.1
  have e2 := hR.1.2.2
  refine am_of (by decide) (Nat.le_of_ble_eq_true rfl) (L := [some (aR 0 0), some (aI p), none, none]) rfl ?_
  refine aw_b kX6_ok bX6_falls_0_ok (Cs := [0 < 1]) (pc' := 5) (L' := [some (aR 0 0), some (aI p), none, none]) (st' := [aI p, aR 1 0]) (σ' := σ) rfl (show 0 < 1 from by omega) ?_
  refine aw_bV lX6_76 (as := [aI p]) (rest := []) (t := 1) (c := 0) (by decide) (by decide) (by decide) rfl rfl (Nat.le_of_ble_eq_true rfl) rfl dX6_falls_5 (cC_isThere l p 0 (by omega) σ r hR hw ⟨by omega, by omega⟩) (fun wh1 => ?_) (fun wh1 => ?_)
  · have bp := hw.pe (p := p) (by omega) (by omega)
    have rp := hR.pe (p := p) (by omega) (by omega)
    have bo := off_rng r p
    have no := nb_cases (off r p)
    refine aw_ine dX6_falls_8 (tgt := 13) (by decide) ⟨by omega, by omega⟩ (fun wh2 => ?_) (fun wh2 => absurd wh2 (by decide))
    refine aw_b kX6_ok bX6_falls_13_ok (Cs := [0 < 1, 0 < 3, 0 < 3, 0 ≤ p ∧ p < 8]) (pc' := 25) (L' := [some (aR 0 0), some (aI p), some (aI (σ 6 0 p)), none]) (st' := [aI (-1), aI (σ 6 0 p)]) (σ' := σ) rfl (show (0 < 1) ∧ (0 < 3) ∧ (0 < 3) ∧ (0 ≤ p ∧ p < 8) from ⟨by omega, by omega, by omega, by omega⟩) ?_
    refine aw_cne dX6_falls_25 (tgt := 31) (by decide) ⟨by omega, by omega⟩ ⟨by omega, by omega⟩ (fun wh3 => ?_) (fun wh3 => ?_)
    · have e6 : σ 6 0 p = off r p := by omega
      rcases off_cases r p with of0 | of1
      · omega
      refine aw_b kX6_ok bX6_falls_31_ok (Cs := [0 < 1, 0 < 1]) (pc' := 39) (L' := [some (aR 0 0), some (aI p), some (aI (σ 6 0 p)), none]) (st' := [aR 1 0, aR 1 1]) (σ' := σ) rfl (show (0 < 1) ∧ (0 < 1) from ⟨by omega, by omega⟩) ?_
      refine aw_callV lX6_68 (as := [aR 1 0]) (rest := []) (t := 1) (c := 1) (by decide) (by decide) (by decide) rfl rfl (Nat.le_of_ble_eq_true rfl) rfl dX6_falls_39 (cC_becomes l 0 1 (by decide) (by decide) (by decide) σ r hR hw) ?_
      rintro _ τ1 ⟨rfl, hT1, hF1⟩
      refine aw_b kX6_ok bX6_falls_42_ok (Cs := []) (pc' := 44) (L' := [some (aR 0 0), some (aI p), some (aI (σ 6 0 p)), some (aI 1)]) (st' := []) (σ' := τ1) rfl trivial ?_
      have hA0 : A_falls r p = wnF r (off r p) p 60 1 := by
        unfold A_falls; rw [if_pos (by omega), if_neg (by omega)]; show (if dysR r 0 (8 + off r p) = p then wnF r (off r p) p 60 (0 + 1) else ((0 : Nat) : Int)) = _
        exact if_pos of1.2.2
      refine aw_eq (L' := [some (aR 0 0), some (aI p), some (aI (off r p)), some (aI (((0 : Nat) : Int) + 1))]) (by rw [e6]; rfl) rfl rfl ?_
      refine aloop (P := fun n : Nat => ∀ (ρ : aS) (hQ : Rep ρ 1 (dysR r n)) (hG : aFr (Cb 1) σ ρ) (hA : A_falls r p = wnF r (off r p) p (60 - n) (n + 1)), AW l 4 mX6_falls _ 44 [some (aR 0 0), some (aI p), some (aI (off r p)), some (aI ((n : Int) + 1))] [] ρ) (60) (fun n hn ihn ρ hQ hG hA => ?_) τ1 hT1 hF1 hA0
      have eD := dysR_0 r n
      refine aw_b kX6_ok bX6_falls_44_ok (Cs := []) (pc' := 47) (L' := [some (aR 0 0), some (aI p), some (aI (off r p)), some (aI ((n : Int) + 1))]) (st' := [aI 60, aI ((n : Int) + 1)]) (σ' := ρ) rfl trivial ?_
      refine aw_cgt dX6_falls_47 (tgt := 78) (by decide) ⟨by omega, by omega⟩ ⟨by omega, by omega⟩ (fun wh4 => ?_) (fun wh4 => ?_)
      · refine aw_b kX6_ok bX6_falls_78_ok (Cs := []) (pc' := 80) (L' := [some (aR 0 0), some (aI p), some (aI (off r p)), some (aI ((n : Int) + 1))]) (st' := [aI (-4)]) (σ' := ρ) rfl trivial ?_
        exact aw_iret dX6_falls_80 rfl ⟨aret (by rw [hA, show 60 - n = 0 by omega]; rfl), aFrC hG⟩
      · refine aw_b kX6_ok bX6_falls_50_ok (Cs := [0 < 1]) (pc' := 54) (L' := [some (aR 0 0), some (aI p), some (aI (off r p)), some (aI ((n : Int) + 1))]) (st' := [aR 1 1]) (σ' := ρ) rfl (show 0 < 1 from by omega) ?_
        refine aw_callV lX6_178 (as := []) (rest := []) (t := 1) (c := 1) (by decide) (by decide) (by decide) rfl rfl (Nat.le_of_ble_eq_true rfl) rfl dX6_falls_54 (cC_oneDay l 1 (by decide) ρ (dysR r n) hQ (dysR_wf hw _) (by omega)) ?_
        rintro _ τ9 ⟨rfl, hT9, hF9, h39⟩
        have rq := hT9.of (f := off r p) (by omega) (by omega)
        have hwq := (dysR_wf hw (n + 1)).ho (f := off r p) (by omega) (by omega)
        have nq := nb_cases (dysR r (n + 1) (8 + off r p))
        have eD1 := dysR_0 r (n + 1)
        have rq2 : τ9 8 1 (off r p) = nb (dysR r (n + 1) (8 + off r p)) := rq.2
        have hB : A_falls r p = (if dysR r (n + 1) (8 + off r p) = p then wnF r (off r p) p (60 - (n + 1)) (n + 1 + 1) else ((n + 1 : Nat) : Int)) := by
          rw [hA, show 60 - n = (60 - (n + 1)) + 1 by omega]; rfl
        refine aw_b kX6_ok bX6_falls_57_ok (Cs := [0 < 1, 1 < 3, 1 < 3, 0 ≤ off r p ∧ off r p < 5]) (pc' := 67) (L' := [some (aR 0 0), some (aI p), some (aI (off r p)), some (aI ((n : Int) + 1))]) (st' := [aI p, aI (τ9 8 1 (off r p))]) (σ' := τ9) rfl (show (0 < 1) ∧ (1 < 3) ∧ (1 < 3) ∧ (0 ≤ off r p ∧ off r p < 5) from ⟨by omega, by omega, by omega, by omega⟩) ?_
        refine aw_ceq dX6_falls_67 (tgt := 72) (by decide) ⟨by omega, by omega⟩ ⟨by omega, by omega⟩ (fun wh5 => ?_) (fun wh5 => ?_)
        · refine aw_b kX6_ok bX6_falls_72_ok (Cs := []) (pc' := 44) (L' := [some (aR 0 0), some (aI p), some (aI (off r p)), some (aI (((n : Int) + 1) + 1))]) (st' := []) (σ' := τ9) rfl trivial ?_
          exact ihn (by omega) τ9 hT9 (aFr_tr hG hF9) (hB.trans (if_pos (by omega)))
        · refine aw_b kX6_ok bX6_falls_70_ok (Cs := []) (pc' := 71) (L' := [some (aR 0 0), some (aI p), some (aI (off r p)), some (aI ((n : Int) + 1))]) (st' := [aI ((n : Int) + 1)]) (σ' := τ9) rfl trivial ?_
          exact aw_iret dX6_falls_71 rfl ⟨aret (hB.trans (if_neg (by omega))).symm, aFrC (aFr_tr hG hF9)⟩
    · refine aw_b kX6_ok bX6_falls_28_ok (Cs := []) (pc' := 30) (L' := [some (aR 0 0), some (aI p), some (aI (σ 6 0 p)), none]) (st' := [aI (-4)]) (σ' := σ) rfl trivial ?_
      exact aw_iret dX6_falls_30 rfl ⟨aret (by unfold A_falls; rw [if_pos (by omega), if_pos (by omega)]), aFr_rf⟩
  · refine aw_ine dX6_falls_8 (tgt := 13) (by decide) ⟨by omega, by omega⟩ (fun wh6 => absurd wh6 (by decide)) (fun wh6 => ?_)
    refine aw_b kX6_ok bX6_falls_11_ok (Cs := []) (pc' := 12) (L' := [some (aR 0 0), some (aI p), none, none]) (st' := [aI (-1)]) (σ' := σ) rfl trivial ?_
    exact aw_iret dX6_falls_12 rfl ⟨aret (by unfold A_falls; rw [if_neg (by omega)]), aFr_rf⟩
set_option maxRecDepth 10000 in
theorem cC_empty (l : Launch) (f : Int) (σ : aS) (r : aRw) (hR : Rep σ 0 r) (hw : WF r) (hd : r 1 ≤ 999) (hf : aIr f) : AM l 4 mX6_empty [aR 0 0, aI f] σ (QC (A_empty r f) σ) := by
  have bn := hw.1
  have en := hR.n
  have b1 := hw.2.1
  have e1 := hR.1.2.1
  have b2 := hw.2.2.1
  have e2 := hR.1.2.2
  refine am_of (by decide) (Nat.le_of_ble_eq_true rfl) (L := [some (aR 0 0), some (aI f), none]) rfl ?_
  refine aw_b kX6_ok bX6_empty_0_ok (Cs := []) (pc' := 1) (L' := [some (aR 0 0), some (aI f), none]) (st' := [aI f]) (σ' := σ) rfl trivial ?_
  refine aw_bS lX6_109 (as := [aI f]) (rest := []) (by decide) rfl (Nat.le_of_ble_eq_true rfl) rfl dX6_empty_1 (cC_isOffice l f σ ⟨by omega, by omega⟩) (fun wh1 => ?_) (fun wh1 => ?_)
  · refine aw_ine dX6_empty_4 (tgt := 9) (by decide) ⟨by omega, by omega⟩ (fun wh2 => ?_) (fun wh2 => absurd wh2 (by decide))
    refine aw_b kX6_ok bX6_empty_9_ok (Cs := [0 < 1, 0 < 1]) (pc' := 17) (L' := [some (aR 0 0), some (aI f), none]) (st' := [aR 1 0, aR 1 1]) (σ' := σ) rfl (show (0 < 1) ∧ (0 < 1) from ⟨by omega, by omega⟩) ?_
    refine aw_callV lX6_68 (as := [aR 1 0]) (rest := []) (t := 1) (c := 1) (by decide) (by decide) (by decide) rfl rfl (Nat.le_of_ble_eq_true rfl) rfl dX6_empty_17 (cC_becomes l 0 1 (by decide) (by decide) (by decide) σ r hR hw) ?_
    rintro _ τ1 ⟨rfl, hT1, hF1⟩
    refine aw_b kX6_ok bX6_empty_20_ok (Cs := []) (pc' := 22) (L' := [some (aR 0 0), some (aI f), some (aI 0)]) (st' := []) (σ' := τ1) rfl trivial ?_
    have hA0 : A_empty r f = emF r f 61 0 := by unfold A_empty; rw [if_pos (by omega)]
    refine aloop (P := fun n : Nat => ∀ (ρ : aS) (hQ : Rep ρ 1 (dysR r n)) (hG : aFr (Cb 1) σ ρ) (hA : A_empty r f = emF r f (61 - n) n), AW l 4 mX6_empty _ 22 [some (aR 0 0), some (aI f), some (aI (n : Int))] [] ρ) (61) (fun n hn ihn ρ hQ hG hA => ?_) τ1 hT1 hF1 hA0
    have eD := dysR_0 r n
    refine aw_b kX6_ok bX6_empty_22_ok (Cs := []) (pc' := 25) (L' := [some (aR 0 0), some (aI f), some (aI (n : Int))]) (st' := [aI 60, aI (n : Int)]) (σ' := ρ) rfl trivial ?_
    refine aw_cgt dX6_empty_25 (tgt := 56) (by decide) ⟨by omega, by omega⟩ ⟨by omega, by omega⟩ (fun wh3 => ?_) (fun wh3 => ?_)
    · refine aw_b kX6_ok bX6_empty_56_ok (Cs := []) (pc' := 58) (L' := [some (aR 0 0), some (aI f), some (aI (n : Int))]) (st' := [aI (-4)]) (σ' := ρ) rfl trivial ?_
      exact aw_iret dX6_empty_58 rfl ⟨aret (by rw [hA, show 61 - n = 0 by omega]; rfl), aFrC hG⟩
    · have rq := hQ.of (f := f) (by omega) (by omega)
      have hwq := (dysR_wf hw n).ho (f := f) (by omega) (by omega)
      have nq := nb_cases (dysR r n (8 + f))
      have hB : A_empty r f = (if dysR r n (8 + f) < 0 then (n : Int) else emF r f (61 - (n + 1)) (n + 1)) := by
        rw [hA, show 61 - n = (61 - (n + 1)) + 1 by omega]; rfl
      refine aw_b kX6_ok bX6_empty_28_ok (Cs := [0 < 1, 1 < 3, 1 < 3, 0 ≤ f ∧ f < 5]) (pc' := 38) (L' := [some (aR 0 0), some (aI f), some (aI (n : Int))]) (st' := [aI (-1), aI (ρ 8 1 f)]) (σ' := ρ) rfl (show (0 < 1) ∧ (1 < 3) ∧ (1 < 3) ∧ (0 ≤ f ∧ f < 5) from ⟨by omega, by omega, by omega, by omega⟩) ?_
      refine aw_cne dX6_empty_38 (tgt := 43) (by decide) ⟨by omega, by omega⟩ ⟨by omega, by omega⟩ (fun wh4 => ?_) (fun wh4 => ?_)
      · refine aw_b kX6_ok bX6_empty_43_ok (Cs := [0 < 1]) (pc' := 47) (L' := [some (aR 0 0), some (aI f), some (aI (n : Int))]) (st' := [aR 1 1]) (σ' := ρ) rfl (show 0 < 1 from by omega) ?_
        refine aw_callV lX6_178 (as := []) (rest := []) (t := 1) (c := 1) (by decide) (by decide) (by decide) rfl rfl (Nat.le_of_ble_eq_true rfl) rfl dX6_empty_47 (cC_oneDay l 1 (by decide) ρ (dysR r n) hQ (dysR_wf hw _) (by omega)) ?_
        rintro _ τ9 ⟨rfl, hT9, hF9, h39⟩
        refine aw_b kX6_ok bX6_empty_50_ok (Cs := []) (pc' := 22) (L' := [some (aR 0 0), some (aI f), some (aI ((n : Int) + 1))]) (st' := []) (σ' := τ9) rfl trivial ?_
        exact ihn (by omega) τ9 hT9 (aFr_tr hG hF9) (hB.trans (if_neg (by omega)))
      · refine aw_b kX6_ok bX6_empty_41_ok (Cs := []) (pc' := 42) (L' := [some (aR 0 0), some (aI f), some (aI (n : Int))]) (st' := [aI (n : Int)]) (σ' := ρ) rfl trivial ?_
        exact aw_iret dX6_empty_42 rfl ⟨aret (hB.trans (if_pos (by omega))).symm, aFrC hG⟩
  · refine aw_ine dX6_empty_4 (tgt := 9) (by decide) ⟨by omega, by omega⟩ (fun wh5 => absurd wh5 (by decide)) (fun wh5 => ?_)
    refine aw_b kX6_ok bX6_empty_7_ok (Cs := []) (pc' := 8) (L' := [some (aR 0 0), some (aI f), none]) (st' := [aI (-1)]) (σ' := σ) rfl trivial ?_
    exact aw_iret dX6_empty_8 rfl ⟨aret (by unfold A_empty; rw [if_neg (by omega)]), aFr_rf⟩
