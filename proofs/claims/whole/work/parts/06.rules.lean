/-! ===== rules: stretches, branches, switches, ends, entries, calls ===== -/
section Rules
variable {l : Launch} {d : Nat} {M : aMt} {Q : Option aV → aS → Prop} {pc : Nat} {L : aLs} {st : List aV} {σ : aS}
theorem aw_run (hk : aKok M.1.cls M.2.2.2.2) : ∀ (B : List (Nat × Instr)) (pc : Nat) (L : aLs) (st : List aV) (σ : aS) {Cs : List Prop} {pc' : Nat} {L' : aLs} {st' : List aV} {σ' : aS}, (∀ q ∈ B, decode M.2.1 q.1 = .ok (q.2, aLn q.2)) → aRun M.2.2.2.2 B pc L st σ = some (Cs, pc', L', st', σ') → (∀ P ∈ Cs, P) → AW l d M Q pc' L' st' σ' → AW l d M Q pc L st σ := by
  intro B
  induction B with
  | nil => intro pc L st σ Cs pc' L' st' σ' _ h _ k; cases h; exact k
  | cons q B ih =>
    intro pc L st σ Cs pc' L' st' σ' hB h hC k
    unfold aRun at h
    split at h
    · rename_i hq
      split at h
      · rename_i cs pc1 L1 st1 σ1 h1
        split at h
        · rename_i cs' r h2
          obtain ⟨pc2, L2, st2, σ2⟩ := r
          cases h
          refine aw_1 (ins := q.2) hk (by rw [← hq]; exact hB q List.mem_cons_self) h1 (fun P hP => hC P (List.mem_append_left _ hP)) ?_
          exact ih pc1 L1 st1 σ1 (fun z hz => hB z (List.mem_cons_of_mem _ hz)) h2 (fun P hP => hC P (List.mem_append_right _ hP)) k
        · cases h
      · cases h
    · cases h
/-- a stretch of code -/
theorem aw_b (hk : aKok M.1.cls M.2.2.2.2) {B : List (Nat × Instr)} (hB : ∀ q ∈ B, decode M.2.1 q.1 = .ok (q.2, aLn q.2)) {Cs : List Prop} {pc' : Nat} {L' : aLs} {st' : List aV} {σ' : aS} (h : aRun M.2.2.2.2 B pc L st σ = some (Cs, pc', L', st', σ')) (hC : aAll Cs) (k : AW l d M Q pc' L' st' σ') : AW l d M Q pc L st σ :=
  aw_run hk B pc L st σ hB h (aAll_mem hC) k
/-- locals that are forgotten -/
theorem aw_le {L' : aLs} (h : aLe L' L) (k : AW l d M Q pc L' st σ) : AW l d M Q pc L st σ :=
  fun p e s m args below meth c D cA ad H locs ls C0 C1 hl => k p e s m args below meth c D cA ad H locs ls C0 C1 (aLoc_le hl h)
theorem aw_drop (ks : List Nat) {L' : aLs} (h : aDrop L ks = L') (k : AW l d M Q pc L' st σ) : AW l d M Q pc L st σ := aw_le (by rw [← h]; exact aDrop_le ks L) k
theorem aw_eq {L' : aLs} {st' : List aV} {σ' : aS} (h1 : L = L') (h2 : st = st') (h3 : σ = σ') (k : AW l d M Q pc L' st' σ') : AW l d M Q pc L st σ := by
  subst h1; subst h2; subst h3; exact k
theorem aw_post {Q' : Option aV → aS → Prop} (hq : ∀ r σ', Q r σ' → Q' r σ') (k : AW l d M Q pc L st σ) : AW l d M Q' pc L st σ := by
  intro p e s m args below meth c D cA ad H locs ls C0 C1 hl T hT X
  obtain ⟨t, a, o, b1, b2, ⟨⟨r, σ', c1, c2, c3⟩, c4⟩, b4⟩ := k p e s m args below meth c D cA ad H locs ls C0 C1 hl T hT X
  exact ⟨t, a, o, b1, b2, ⟨⟨r, σ', c1, hq _ _ c2, c3⟩, c4⟩, b4⟩
theorem aw_ceq {x y : Int} {r : List aV} {off : Int} {tgt : Nat} (hd : decode M.2.1 pc = .ok (.if_icmp .eq off, 3)) (ht : (pc : Int) + off = (tgt : Int)) (hx : aIr x) (hy : aIr y) (kt : x = y → AW l d M Q tgt L r σ) (kf : ¬ x = y → AW l d M Q (pc + 3) L r σ) : AW l d M Q pc L (aI y :: aI x :: r) σ := by
  intro p e s m args below meth c D cA ad H locs ls C0 C1 hl
  obtain ⟨hx1, hb, -⟩ := id C0
  have hi := aIn_eq hx hy
  exact lv_icmp_eq hx1 hb hd ht (fun h => kt (hi.mp h) p e s m args below meth c D cA ad H locs ls C0 C1 hl) (fun h => kf (fun q => h (hi.mpr q)) p e s m args below meth c D cA ad H locs ls C0 C1 hl)
theorem aw_ieq {x : Int} {r : List aV} {off : Int} {tgt : Nat} (hd : decode M.2.1 pc = .ok (.ifCond .eq off, 3)) (ht : (pc : Int) + off = (tgt : Int)) (hx : aIr x) (kt : x = 0 → AW l d M Q tgt L r σ) (kf : ¬ x = 0 → AW l d M Q (pc + 3) L r σ) : AW l d M Q pc L (aI x :: r) σ := by
  intro p e s m args below meth c D cA ad H locs ls C0 C1 hl
  obtain ⟨hx1, hb, -⟩ := id C0
  have hy : aIr 0 := by decide
  have hi := aIn_eq hx hy
  exact lv_if_eq hx1 hb hd ht (fun h => kt (hi.mp h) p e s m args below meth c D cA ad H locs ls C0 C1 hl) (fun h => kf (fun q => h (hi.mpr q)) p e s m args below meth c D cA ad H locs ls C0 C1 hl)
theorem aw_cne {x y : Int} {r : List aV} {off : Int} {tgt : Nat} (hd : decode M.2.1 pc = .ok (.if_icmp .ne off, 3)) (ht : (pc : Int) + off = (tgt : Int)) (hx : aIr x) (hy : aIr y) (kt : ¬ x = y → AW l d M Q tgt L r σ) (kf : x = y → AW l d M Q (pc + 3) L r σ) : AW l d M Q pc L (aI y :: aI x :: r) σ := by
  intro p e s m args below meth c D cA ad H locs ls C0 C1 hl
  obtain ⟨hx1, hb, -⟩ := id C0
  have hi := aIn_eq hx hy
  exact lv_icmp_ne hx1 hb hd ht (fun h => kt (fun q => h (hi.mpr q)) p e s m args below meth c D cA ad H locs ls C0 C1 hl) (fun h => kf (hi.mp h) p e s m args below meth c D cA ad H locs ls C0 C1 hl)
theorem aw_ine {x : Int} {r : List aV} {off : Int} {tgt : Nat} (hd : decode M.2.1 pc = .ok (.ifCond .ne off, 3)) (ht : (pc : Int) + off = (tgt : Int)) (hx : aIr x) (kt : ¬ x = 0 → AW l d M Q tgt L r σ) (kf : x = 0 → AW l d M Q (pc + 3) L r σ) : AW l d M Q pc L (aI x :: r) σ := by
  intro p e s m args below meth c D cA ad H locs ls C0 C1 hl
  obtain ⟨hx1, hb, -⟩ := id C0
  have hy : aIr 0 := by decide
  have hi := aIn_eq hx hy
  exact lv_if_ne hx1 hb hd ht (fun h => kt (fun q => h (hi.mpr q)) p e s m args below meth c D cA ad H locs ls C0 C1 hl) (fun h => kf (hi.mp h) p e s m args below meth c D cA ad H locs ls C0 C1 hl)
theorem aw_clt {x y : Int} {r : List aV} {off : Int} {tgt : Nat} (hd : decode M.2.1 pc = .ok (.if_icmp .lt off, 3)) (ht : (pc : Int) + off = (tgt : Int)) (hx : aIr x) (hy : aIr y) (kt : x < y → AW l d M Q tgt L r σ) (kf : ¬ x < y → AW l d M Q (pc + 3) L r σ) : AW l d M Q pc L (aI y :: aI x :: r) σ := by
  intro p e s m args below meth c D cA ad H locs ls C0 C1 hl
  obtain ⟨hx1, hb, -⟩ := id C0
  have hi := aIn_lt hx hy
  exact lv_icmp_lt hx1 hb hd ht (fun h => kt (hi.mp h) p e s m args below meth c D cA ad H locs ls C0 C1 hl) (fun h => kf (fun q => h (hi.mpr q)) p e s m args below meth c D cA ad H locs ls C0 C1 hl)
theorem aw_ilt {x : Int} {r : List aV} {off : Int} {tgt : Nat} (hd : decode M.2.1 pc = .ok (.ifCond .lt off, 3)) (ht : (pc : Int) + off = (tgt : Int)) (hx : aIr x) (kt : x < 0 → AW l d M Q tgt L r σ) (kf : ¬ x < 0 → AW l d M Q (pc + 3) L r σ) : AW l d M Q pc L (aI x :: r) σ := by
  intro p e s m args below meth c D cA ad H locs ls C0 C1 hl
  obtain ⟨hx1, hb, -⟩ := id C0
  have hy : aIr 0 := by decide
  have hi := aIn_lt hx hy
  exact lv_if_lt hx1 hb hd ht (fun h => kt (hi.mp h) p e s m args below meth c D cA ad H locs ls C0 C1 hl) (fun h => kf (fun q => h (hi.mpr q)) p e s m args below meth c D cA ad H locs ls C0 C1 hl)
theorem aw_cge {x y : Int} {r : List aV} {off : Int} {tgt : Nat} (hd : decode M.2.1 pc = .ok (.if_icmp .ge off, 3)) (ht : (pc : Int) + off = (tgt : Int)) (hx : aIr x) (hy : aIr y) (kt : y ≤ x → AW l d M Q tgt L r σ) (kf : ¬ y ≤ x → AW l d M Q (pc + 3) L r σ) : AW l d M Q pc L (aI y :: aI x :: r) σ := by
  intro p e s m args below meth c D cA ad H locs ls C0 C1 hl
  obtain ⟨hx1, hb, -⟩ := id C0
  have hi := aIn_le hy hx
  exact lv_icmp_ge hx1 hb hd ht (fun h => kt (hi.mp h) p e s m args below meth c D cA ad H locs ls C0 C1 hl) (fun h => kf (fun q => h (hi.mpr q)) p e s m args below meth c D cA ad H locs ls C0 C1 hl)
theorem aw_ige {x : Int} {r : List aV} {off : Int} {tgt : Nat} (hd : decode M.2.1 pc = .ok (.ifCond .ge off, 3)) (ht : (pc : Int) + off = (tgt : Int)) (hx : aIr x) (kt : 0 ≤ x → AW l d M Q tgt L r σ) (kf : ¬ 0 ≤ x → AW l d M Q (pc + 3) L r σ) : AW l d M Q pc L (aI x :: r) σ := by
  intro p e s m args below meth c D cA ad H locs ls C0 C1 hl
  obtain ⟨hx1, hb, -⟩ := id C0
  have hy : aIr 0 := by decide
  have hi := aIn_le hy hx
  exact lv_if_ge hx1 hb hd ht (fun h => kt (hi.mp h) p e s m args below meth c D cA ad H locs ls C0 C1 hl) (fun h => kf (fun q => h (hi.mpr q)) p e s m args below meth c D cA ad H locs ls C0 C1 hl)
theorem aw_cgt {x y : Int} {r : List aV} {off : Int} {tgt : Nat} (hd : decode M.2.1 pc = .ok (.if_icmp .gt off, 3)) (ht : (pc : Int) + off = (tgt : Int)) (hx : aIr x) (hy : aIr y) (kt : y < x → AW l d M Q tgt L r σ) (kf : ¬ y < x → AW l d M Q (pc + 3) L r σ) : AW l d M Q pc L (aI y :: aI x :: r) σ := by
  intro p e s m args below meth c D cA ad H locs ls C0 C1 hl
  obtain ⟨hx1, hb, -⟩ := id C0
  have hi := aIn_lt hy hx
  exact lv_icmp_gt hx1 hb hd ht (fun h => kt (hi.mp h) p e s m args below meth c D cA ad H locs ls C0 C1 hl) (fun h => kf (fun q => h (hi.mpr q)) p e s m args below meth c D cA ad H locs ls C0 C1 hl)
theorem aw_igt {x : Int} {r : List aV} {off : Int} {tgt : Nat} (hd : decode M.2.1 pc = .ok (.ifCond .gt off, 3)) (ht : (pc : Int) + off = (tgt : Int)) (hx : aIr x) (kt : 0 < x → AW l d M Q tgt L r σ) (kf : ¬ 0 < x → AW l d M Q (pc + 3) L r σ) : AW l d M Q pc L (aI x :: r) σ := by
  intro p e s m args below meth c D cA ad H locs ls C0 C1 hl
  obtain ⟨hx1, hb, -⟩ := id C0
  have hy : aIr 0 := by decide
  have hi := aIn_lt hy hx
  exact lv_if_gt hx1 hb hd ht (fun h => kt (hi.mp h) p e s m args below meth c D cA ad H locs ls C0 C1 hl) (fun h => kf (fun q => h (hi.mpr q)) p e s m args below meth c D cA ad H locs ls C0 C1 hl)
theorem aw_cle {x y : Int} {r : List aV} {off : Int} {tgt : Nat} (hd : decode M.2.1 pc = .ok (.if_icmp .le off, 3)) (ht : (pc : Int) + off = (tgt : Int)) (hx : aIr x) (hy : aIr y) (kt : x ≤ y → AW l d M Q tgt L r σ) (kf : ¬ x ≤ y → AW l d M Q (pc + 3) L r σ) : AW l d M Q pc L (aI y :: aI x :: r) σ := by
  intro p e s m args below meth c D cA ad H locs ls C0 C1 hl
  obtain ⟨hx1, hb, -⟩ := id C0
  have hi := aIn_le hx hy
  exact lv_icmp_le hx1 hb hd ht (fun h => kt (hi.mp h) p e s m args below meth c D cA ad H locs ls C0 C1 hl) (fun h => kf (fun q => h (hi.mpr q)) p e s m args below meth c D cA ad H locs ls C0 C1 hl)
theorem aw_ile {x : Int} {r : List aV} {off : Int} {tgt : Nat} (hd : decode M.2.1 pc = .ok (.ifCond .le off, 3)) (ht : (pc : Int) + off = (tgt : Int)) (hx : aIr x) (kt : x ≤ 0 → AW l d M Q tgt L r σ) (kf : ¬ x ≤ 0 → AW l d M Q (pc + 3) L r σ) : AW l d M Q pc L (aI x :: r) σ := by
  intro p e s m args below meth c D cA ad H locs ls C0 C1 hl
  obtain ⟨hx1, hb, -⟩ := id C0
  have hy : aIr 0 := by decide
  have hi := aIn_le hx hy
  exact lv_if_le hx1 hb hd ht (fun h => kt (hi.mp h) p e s m args below meth c D cA ad H locs ls C0 C1 hl) (fun h => kf (fun q => h (hi.mpr q)) p e s m args below meth c D cA ad H locs ls C0 C1 hl)
/-- a switch by a table -/
def aTgt (pc : Nat) (dflt lo hi : Int) (offs : Array Int) (x : Int) : Int := if x < lo ∨ hi < x then pc + dflt else pc + offs.getD (x - lo).toNat 0
theorem aw_tsw {dflt lo hi : Int} {offs : Array Int} {len : Nat} {x : Int} {r : List aV} {tgt : Nat} (hd : decode M.2.1 pc = .ok (.tableswitch dflt lo hi offs, len)) (hx : aIr x) (hn : (offs.size : Int) = hi - lo + 1) (ht : aTgt pc dflt lo hi offs x = (tgt : Int)) (k : AW l d M Q tgt L r σ) : AW l d M Q pc L (aI x :: r) σ := by
  intro p e s m args below meth c D cA ad H locs ls C0 C1 hl
  obtain ⟨hx1, hb, -⟩ := id C0
  have K := k p e s m args below meth c D cA ad H locs ls C0 C1 hl
  unfold aTgt at ht
  have e1 := aIn_toInt hx
  split at ht
  · rename_i h
    exact lv_tableOut hx1 hb hd (by rw [e1]; exact h) ht K
  · rename_i h
    have h1 : ¬ x < lo := fun q => h (Or.inl q)
    have h2 : ¬ hi < x := fun q => h (Or.inr q)
    refine lv_tableIn (off := offs.getD (x - lo).toNat 0) hx1 hb hd (by rw [e1]; exact h1) (by rw [e1]; exact h2) ?_ ht K
    rw [e1]
    have hlt : (x - lo).toNat < offs.size := by omega
    simp [Array.getD, hlt]
/-- a switch by pairs -/
theorem aw_lsw {dflt : Int} {ps : Array (Int × Int)} {len : Nat} {x off : Int} {r : List aV} {tgt : Nat} (hd : decode M.2.1 pc = .ok (.lookupswitch dflt ps, len)) (hp : (ps.toList.zip (ps.toList.drop 1)).all (fun (a, next) => a.1 < next.1) = true) (hx : aIr x) (ho : Op.lookupswitch.offset ps.toList dflt x = off) (ht : (pc : Int) + off = (tgt : Int)) (k : AW l d M Q tgt L r σ) : AW l d M Q pc L (aI x :: r) σ := by
  intro p e s m args below meth c D cA ad H locs ls C0 C1 hl
  obtain ⟨hx1, hb, -⟩ := id C0
  exact lv_lookup hx1 hb hd hp (by rw [aIn_toInt hx]; exact ho) ht (k p e s m args below meth c D cA ad H locs ls C0 C1 hl)
/-- ends -/
theorem aw_iret {x : Int} (hd : decode M.2.1 pc = .ok (.ireturn, 1)) (hr : M.2.2.2.1 = some .int) (hq : Q (some (aI x)) σ) : AW l d M Q pc L [aI x] σ := by
  intro p e s m args below meth c D cA ad H locs ls C0 C1 hl
  obtain ⟨hx, hb, hml, hr0, hlk, hown, hts, hK, hN⟩ := id C0
  obtain ⟨hP, hD, hS⟩ := id C1
  exact W.iret hx hb (hr0.trans hr) (fun t ht hW => ⟨⟨some (aI x), σ, rfl, hq, by rw [ht]; exact hP⟩, hS.F ht⟩) hS.2.2 hd
theorem aw_zret {x : Int} (hd : decode M.2.1 pc = .ok (.ireturn, 1)) (hr : M.2.2.2.1 = some .boolean) (h01 : x = 0 ∨ x = 1) (hq : Q (some (aI x)) σ) : AW l d M Q pc L [aI x] σ := by
  intro p e s m args below meth c D cA ad H locs ls C0 C1 hl
  obtain ⟨hx, hb, hml, hr0, hlk, hown, hts, hK, hN⟩ := id C0
  obtain ⟨hP, hD, hS⟩ := id C1
  exact W.zret hx hb (hr0.trans hr) (by rcases h01 with rfl | rfl <;> decide +kernel) (fun t ht hW => ⟨⟨some (aI x), σ, rfl, hq, by rw [ht]; exact hP⟩, hS.F ht⟩) hS.2.2 hd
theorem aw_lret {x : Int} (hd : decode M.2.1 pc = .ok (.lreturn, 1)) (hr : M.2.2.2.1 = some .long) (hq : Q (some (aL x)) σ) : AW l d M Q pc L [aL x] σ := by
  intro p e s m args below meth c D cA ad H locs ls C0 C1 hl
  obtain ⟨hx, hb, hml, hr0, hlk, hown, hts, hK, hN⟩ := id C0
  obtain ⟨hP, hD, hS⟩ := id C1
  exact W.lret hx hb (hr0.trans hr) (fun t ht hW => ⟨⟨some (aL x), σ, rfl, hq, by rw [ht]; exact hP⟩, hS.F ht⟩) hS.2.2 hd
theorem aw_vret (hd : decode M.2.1 pc = .ok (.return_, 1)) (hr : M.2.2.2.1 = none) (hq : Q none σ) : AW l d M Q pc L [] σ := by
  intro p e s m args below meth c D cA ad H locs ls C0 C1 hl
  obtain ⟨hx, hb, hml, hr0, hlk, hown, hts, hK, hN⟩ := id C0
  obtain ⟨hP, hD, hS⟩ := id C1
  exact W.vret hx hb (hr0.trans hr) (fun t ht hW => ⟨⟨none, σ, rfl, hq, by rw [ht]; exact hP⟩, hS.F ht⟩) hS.2.2 hd
/-- the locals with which a method begins -/
def aEn : List aV → aLs
  | [] => []
  | v :: t => if aLg (some v) then some v :: none :: aEn t else some v :: aEn t
theorem aEn_len (ad : Nat → Nat → Nat) : ∀ as : List aV, (aEn as).length = (lg_sl (as.map (cV ad))).length := by
  intro as
  induction as with
  | nil => rfl
  | cons v t ih =>
    unfold aEn
    rw [List.map_cons]
    unfold lg_sl at ih ⊢
    rw [List.flatMap_cons, List.length_append, ← ih]
    rcases v with x | y | ⟨q1, q2⟩
    · show (aEn t).length + 1 = 1 + _; omega
    · show (aEn t).length + 1 + 1 = 2 + _; omega
    · show (aEn t).length + 1 = 1 + _; omega
theorem aEn_in (ad : Nat → Nat → Nat) (n : Nat) : ∀ (as : List aV) (i : Nat), ∀ q ∈ aAs ad i (aEn as ++ List.replicate n none), q ∈ lv_args i (as.map (cV ad)) := by
  intro as
  induction as with
  | nil =>
    intro i q hq
    exfalso
    obtain ⟨j, v, h1, -⟩ := aAs_mem.mp hq
    unfold aEn at h1
    rw [List.nil_append] at h1
    have := List.eq_of_mem_replicate (List.mem_of_getElem? h1)
    cases this
  | cons v t ih =>
    intro i q hq
    rw [List.map_cons]
    unfold lv_args
    unfold aEn at hq
    rcases v with x | y | ⟨q1, q2⟩
    · rcases List.mem_cons.mp hq with h | h
      · exact List.mem_cons.mpr (Or.inl h)
      · exact List.mem_cons.mpr (Or.inr (ih _ _ h))
    · rcases List.mem_cons.mp hq with h | h
      · exact List.mem_cons.mpr (Or.inl h)
      · exact List.mem_cons.mpr (Or.inr (ih _ _ h))
    · rcases List.mem_cons.mp hq with h | h
      · exact List.mem_cons.mpr (Or.inl h)
      · exact List.mem_cons.mpr (Or.inr (ih _ _ h))
/-- a contract, from its entry -/
theorem am_of {as : List aV} (hy : plainName M.1.cls = true) (hn : (aEn as).length ≤ M.2.2.1) (hL : aEn as ++ List.replicate (M.2.2.1 - (aEn as).length) none = L) (k : AW l d M Q 0 L [] σ) : AM l d M as σ Q := by
  intro D cA ad
  refine Met.ofW (cc := M.2.1) (maxL := M.2.2.1) (ret := M.2.2.2.1) hy rfl ?_
  intro p e s m args below meth c s₁ B hml hv
  obtain ⟨rfl, hP, hK, hD, hN⟩ := hv
  have hts := atoms_spec (ws := aWs M) B.pre
  have hown : s.vm.findClass M.1.cls = some m.cls := findClass_of_methodNamed B.named
  have hln := aEn_len ad as
  have hl := lv_entry (as.map (cV ad)) (n := M.2.2.1) (by rw [← hln]; exact hn)
  rw [lg_entry_eq]
  refine k p e s m _ below meth c D cA ad s.heap [] _ ⟨B.exec, B.bytes, hml, B.returns, B.notSynchronized, hown, hts, hK, hN⟩ ⟨hP, hD, va_S.rf⟩ ⟨?_, lv_mono hl ?_⟩
  · rw [← hL, List.length_append, List.length_replicate]; omega
  · rw [← hL]
    exact aEn_in ad _ as 0
theorem am_post {as : List aV} {Q' : Option aV → aS → Prop} (hq : ∀ r σ', Q r σ' → Q' r σ') (k : AM l d M as σ Q) : AM l d M as σ Q' := by
  intro D cA ad p e ha hc hk s m args below hf happ hP hX
  obtain ⟨t, o, h1, h2, h3, ⟨⟨⟨r, σ', c1, c2, c3⟩, c4⟩, b4⟩⟩ := k D cA ad p e ha hc hk s m args below hf happ hP hX
  exact ⟨t, o, h1, h2, h3, ⟨⟨r, σ', c1, hq _ _ c2, c3⟩, c4⟩, b4⟩
end Rules
section CallRules
variable {l : Launch} {d d' : Nat} {M M' : aMt} {Q Q' : Option aV → aS → Prop} {pc : Nat} {L : aLs} {st : List aV} {σ : aS}
theorem aPc_blind {ad : Nat → Nat → Nat} {cA : ClassId} {D : va_G} {as : List aV} {σ : aS} : FrameBlind (aPc ad cA D as σ) := by
  intro a U g mk q
  obtain ⟨q0, qP, qK, qD, qN⟩ := q
  exact ⟨q0, qP, va_K.moved (u := U) (U := U.calling g mk a) (Vm.Alike.refl U.vm) qK, qD, aNe_same rfl qN⟩
theorem aPc_at {ad : Nat → Nat → Nat} {cA : ClassId} {D : va_G} {as : List aV} {σ : aS} {s : State} {H : Heap} {locs : List Loc} {vs : List Value} (hv : vs = as.map (cV ad)) (C1 : aIs ad cA D s σ H locs) (hK : va_K D aCl [(cA, .int)] s) (hN : aNe s) : ∀ U : State, U.heap = H → s.WarmedH U.vm → aPc ad cA D as σ vs.toArray U := by
  intro U hU hW
  exact ⟨by rw [hv], by rw [hU]; exact C1.1, va_K.moved hW.alike hK, C1.2.1, aNe_warm hW hN⟩
/-- what a call gives back -/
theorem aw_back {p : Program} {e : Env} {s : State} {m : MethodId} {args : Array Value} {below : List Frame} {meth : Method} {c : Code} {D : va_G} {cA : ClassId} {ad : Nat → Nat → Nat} {H : Heap} {locs : List Loc} {ls : Array Slot} {g : List Value} {rest : List aV} {a : Array Value}
    (C0 : aAt M p s m args meth c D cA) (C1 : aIs ad cA D s σ H locs) (hl : aLoc ad M.2.2.1 L ls)
    (hr : va_Run p l e (aRm d) s m args below meth c H locs 0 0 0 0 (F0 m pc ls g) (rest.map (cV ad)) (aQ ad cA D Q' a) (aA ad))
    (k : ∀ r σ', Q' r σ' → AW l d M Q (pc + 3) L (r.toList ++ rest) σ') : W p l e (aRm d) s m args below meth c H locs 0 0 (MQ below (aQ ad cA D Q) args s 0 0 (aA ad)) (F0 m pc ls g) := by
  intro T hT X
  obtain ⟨v, st₀, t, T', Lc, h0, X', hLc, e1, e2, ⟨⟨r, σ', hv, hq, hP'⟩, hz, hkk⟩, stp⟩ := hr T hT X
  have hv2 : v = r.map (cV ad) := by cases hv; rfl
  subst hv2
  rw [h0] at hz hkk
  obtain ⟨hP, hD, hS⟩ := C1
  have hD' : va_D (aA ad) (aWo ad cA σ') := by
    refine ⟨fun i j pq qq hi hj he => ?_, fun kq qq hkq => ?_⟩
    · unfold aWo at hi hj
      rw [List.getElem?_map] at hi hj
      cases hi2 : aPl[i]? with
      | none => rw [hi2] at hi; cases hi
      | some x1 =>
        cases hj2 : aPl[j]? with
        | none => rw [hj2] at hj; cases hj
        | some x2 =>
          rw [hi2] at hi
          rw [hj2] at hj
          cases hi
          cases hj
          exact hD.1 i j _ _ (aWo_at hi2) (aWo_at hj2) he
    · unfold aWo at hkq
      rw [List.getElem?_map] at hkq
      cases hi2 : aPl[kq]? with
      | none => rw [hi2] at hkq; cases hkq
      | some x1 =>
        rw [hi2] at hkq
        cases hkq
        exact hD.2 kq (ad x1.1 x1.2, aCell ad cA σ x1.1 x1.2) (aWo_at hi2)
  have C1' : aIs ad cA D s σ' T'.heap (locs ++ Lc) := by
    refine ⟨by rw [e1]; exact hP', hD', ⟨Nat.le_trans hS.1 (by rw [e1]; exact hz), fun q h1 h2 => ?_, fun q hq => ?_⟩⟩
    · rw [e1, hkk q (Nat.lt_of_lt_of_le h1 hS.1) h2]; exact hS.2.1 q h1 h2
    · rcases List.mem_append.mp hq with h | h
      · exact hS.2.2 q h
      · exact hLc q h
  have hmap : (r.toList ++ rest).map (cV ad) = (r.map (cV ad)).toList ++ rest.map (cV ad) := by
    cases r <;> rfl
  have K := k r σ' hq p e s m args below meth c D cA ad T'.heap (locs ++ Lc) ls C0 C1' hl
  rw [hmap] at K
  obtain ⟨t2, a1, b1⟩ := K T' rfl X'
  exact ⟨t2, stp t2 a1, b1⟩
def aCat (st : List aV) : Nat := (st.map fun v => if aLg (some v) then 2 else 1).sum
theorem aCat_eq (ad : Nat → Nat → Nat) (st : List aV) : ((st.map (cV ad)).map fun v => v.category).sum = aCat st := by
  unfold aCat
  rw [List.map_map]
  congr 1
  apply List.map_congr_left
  intro v _
  rcases v with x | y | ⟨t, c⟩ <;> rfl
/-- a call of a method of an object, linked -/
def aLV (own : String) (idx : Nat) (M' : aMt) (n ci : Nat) : Prop :=
  (Cond.methodLink own idx M'.1 ∈ aTbl ∧ Cond.instanceMethod M'.1 ∈ aTbl ∧ Cond.selects M'.1.cls M'.1 M'.1 ∈ aTbl ∧ Cond.initialized M'.1.cls ∈ aTbl ∧ Cond.code M'.1 M'.2.1 M'.2.2.1 M'.2.2.2.1 ∈ aTbl) ∧
  (M'.1.cls = M'.1.cls ∧ M'.1.cls ≠ "java/lang/invoke/MethodHandle" ∧ M'.1.cls ≠ "java/lang/invoke/VarHandle" ∧ (parseMethodDescriptor M'.1.desc).map (fun d => d.parameters.length) = some n) ∧ M'.2.2.1 ≤ 19 ∧ ∃ r : vw_C, aCl[ci]? = some r ∧ r.1 = M'.1.cls
def aLS (own : String) (idx : Nat) (M' : aMt) (n : Nat) : Prop :=
  (Cond.methodLink own idx M'.1 ∈ aTbl ∧ Cond.static M'.1 ∈ aTbl ∧ Cond.initialized M'.1.cls ∈ aTbl ∧ Cond.code M'.1 M'.2.1 M'.2.2.1 M'.2.2.2.1 ∈ aTbl) ∧
  (M'.1.cls ≠ "java/lang/invoke/MethodHandle" ∧ M'.1.cls ≠ "java/lang/invoke/VarHandle" ∧ (parseMethodDescriptor M'.1.desc).map (fun d => d.parameters.length) = some n) ∧ M'.2.2.1 ≤ 19
def aLN (own : String) (idx : Nat) (M' : aMt) (n : Nat) : Prop :=
  ((own, idx, M'.1, "OnlyInDisguise") ∈ aNq ∧ Cond.static M'.1 ∈ aTbl ∧ Cond.initialized M'.1.cls ∈ aTbl ∧ Cond.code M'.1 M'.2.1 M'.2.2.1 M'.2.2.2.1 ∈ aTbl) ∧
  (M'.1.cls ≠ "java/lang/invoke/MethodHandle" ∧ M'.1.cls ≠ "java/lang/invoke/VarHandle" ∧ (parseMethodDescriptor M'.1.desc).map (fun d => d.parameters.length) = some n) ∧ M'.2.2.1 ≤ 19
theorem aWs_good {M M' : aMt} (h : Cond.code M'.1 M'.2.1 M'.2.2.1 M'.2.2.2.1 ∈ aTbl) : GoodIn (aWs M) (aWs M') := by
  intro w hw
  have hw2 : w ∈ aTbl := (List.mem_cons.mp hw).elim (fun e => by rw [e]; exact h) id
  exact ⟨List.mem_cons_of_mem _ hw2, (aTbl_good w hw2).2⟩
theorem aRm_fit {M' : aMt} (hm : M'.2.2.1 ≤ 19) (hd : d' + 1 ≤ d) : (aRm d').frames + 1 ≤ (aRm d).frames ∧ 8 + (M'.2.2.1 + 11) + (aRm d').locals ≤ (aRm d).locals := by
  refine ⟨hd, ?_⟩
  show 8 + (M'.2.2.1 + 11) + 38 * d' ≤ 38 * d
  omega
theorem aw_callV {idx n ci t c : Nat} {as rest : List aV} (lk : aLV M.1.cls idx M' n ci) (hd : d' + 1 ≤ d) (ht : t < 32) (hc : c < aCnt t) (hcl : aCls t = some ci) (hn : as.length = n) (hr : aCat rest ≤ 8) (hst : st = as.reverse ++ aR t c :: rest) (hdg : decode M.2.1 pc = .ok (.invokevirtual idx, 3)) (hm : AM l d' M' (aR t c :: as) σ Q') (k : ∀ r σ', Q' r σ' → AW l d M Q (pc + 3) L (r.toList ++ rest) σ') : AW l d M Q pc L st σ := by
  intro p e s m args below meth c2 D cA ad H locs ls C0 C1 hl
  obtain ⟨hx, hb, hml, hr0, hlk, hown, hts, hK, hN⟩ := id C0
  obtain ⟨⟨l1, l2, l3, l4, l5⟩, l6, l7, rc, l8, l9⟩ := lk
  subst hst
  have hin : ∀ w ∈ aTbl, w ∈ aWs M := fun w hw => List.mem_cons_of_mem _ hw
  have hG : GoodIn (aWs M) (wsV M.1.cls idx M'.1.cls M'.1 (aWs M')) := by
    intro w hw
    unfold wsV at hw
    rcases List.mem_append.mp hw with h | h
    · have hw2 : w ∈ aTbl := by
        simp only [List.mem_cons, List.not_mem_nil, or_false] at h
        rcases h with rfl | rfl | rfl | rfl
        · exact l1
        · exact l2
        · exact l3
        · exact l4
      exact ⟨hin w hw2, (aTbl_good w hw2).2⟩
    · exact aWs_good l5 w h
  obtain ⟨q0, hq0⟩ := aPl_at ht hc
  have e1 := aWo_at (ad := ad) (cA := cA) (σ := σ) hq0
  unfold aCell at e1
  rw [hcl] at e1
  have hrec := va_recv hK C1.1 l8 e1
  rw [l9] at hrec
  refine aw_back C0 C1 hl (va_runV (As := as.map (cV ad)) (rest := rest.map (cV ad)) (b := ad t c) ⟨hx, hb, hml, hown, hts⟩ (hm D cA ad) (cwV n hts hG rfl rfl rfl l6 (aRm_fit l7 hd)) ⟨aPc_blind, hrec, aPc_at rfl C1 hK hN⟩ rfl (by rw [List.length_map]; exact hn) hl.2.1 ?_ (lv_room (by rw [aCat_eq]; exact hr)) hdg ⟨Nat.zero_le _, Nat.zero_le _⟩) k
  show (as.reverse ++ aR t c :: rest).map (cV ad) = _
  rw [List.map_append, List.map_reverse]
  rfl
theorem aw_callS {idx n : Nat} {as rest : List aV} (lk : aLS M.1.cls idx M' n) (hd : d' + 1 ≤ d) (hn : as.length = n) (hr : aCat rest ≤ 8) (hst : st = as.reverse ++ rest) (hdg : decode M.2.1 pc = .ok (.invokestatic idx, 3)) (hm : AM l d' M' as σ Q') (k : ∀ r σ', Q' r σ' → AW l d M Q (pc + 3) L (r.toList ++ rest) σ') : AW l d M Q pc L st σ := by
  intro p e s m args below meth c2 D cA ad H locs ls C0 C1 hl
  obtain ⟨hx, hb, hml, hr0, hlk, hown, hts, hK, hN⟩ := id C0
  obtain ⟨⟨l1, l2, l4, l5⟩, l6, l7⟩ := lk
  subst hst
  have hws : ∀ w ∈ aTbl, w.before args s = true := fun w hw => hts w (List.mem_cons_of_mem _ hw)
  refine aw_back C0 C1 hl (va_runS (As := as.map (cV ad)) (rest := rest.map (cV ad)) ⟨hx, hb, hml, hown, hts⟩ (hm D cA ad) ⟨callB_of n hts (aWs_good l5) rfl rfl rfl (hws _ l4) (hws _ l1) l6 (aRm_fit l7 hd), hws _ l2⟩ ⟨aPc_blind, aPc_at rfl C1 hK hN⟩ rfl (by rw [List.length_map]; exact hn) hl.2.1 ?_ (lv_room (by rw [aCat_eq]; exact hr)) hdg ⟨Nat.zero_le _, Nat.zero_le _⟩) k
  show (as.reverse ++ rest).map (cV ad) = _
  rw [List.map_append, List.map_reverse]
theorem aw_callN {idx n : Nat} {as rest : List aV} (lk : aLN M.1.cls idx M' n) (hd : d' + 1 ≤ d) (hn : as.length = n) (hr : aCat rest ≤ 8) (hst : st = as.reverse ++ rest) (hdg : decode M.2.1 pc = .ok (.invokestatic idx, 3)) (hm : AM l d' M' as σ Q') (k : ∀ r σ', Q' r σ' → AW l d M Q (pc + 3) L (r.toList ++ rest) σ') : AW l d M Q pc L st σ := by
  intro p e s m args below meth c2 D cA ad H locs ls C0 C1 hl
  obtain ⟨hx, hb, hml, hr0, hlk, hown, hts, hK, hN⟩ := id C0
  obtain ⟨⟨l1, l2, l4, l5⟩, l6, l7⟩ := lk
  subst hst
  have hws : ∀ w ∈ aTbl, w.before args s = true := fun w hw => hts w (List.mem_cons_of_mem _ hw)
  refine aw_back C0 C1 hl (va_runSN (As := as.map (cV ad)) (rest := rest.map (cV ad)) (host := "OnlyInDisguise") ⟨hx, hb, hml, hown, hts⟩ (hm D cA ad) ⟨va_cnB n hts (aWs_good l5) rfl rfl rfl (hN _ l1) (hws _ l4) l6 (aRm_fit l7 hd), hws _ l2, trivial⟩ ⟨aPc_blind, aPc_at rfl C1 hK hN⟩ rfl (by rw [List.length_map]; exact hn) hl.2.1 ?_ (lv_room (by rw [aCat_eq]; exact hr)) hdg ⟨Nat.zero_le _, Nat.zero_le _⟩) k
  show (as.reverse ++ rest).map (cV ad) = _
  rw [List.map_append, List.map_reverse]
end CallRules
