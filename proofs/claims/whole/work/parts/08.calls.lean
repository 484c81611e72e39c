/-! ===== contracts that say just what comes out ===== -/
abbrev aF (v : Option aV) (τ : aS) : Option aV → aS → Prop := fun r σ' => r = v ∧ σ' = τ
theorem aret {x y : Int} (h : x = y) : (some (aI x) : Option aV) = some (aI y) := by rw [h]
theorem alret {x y : Int} (h : x = y) : (some (aL x) : Option aV) = some (aL y) := by rw [h]
section FCalls
variable {l : Launch} {d d' : Nat} {M M' : aMt} {Q : Option aV → aS → Prop} {pc : Nat} {L : aLs} {st : List aV} {σ τ : aS} {v : Option aV}
theorem aw_fV {idx n ci t c : Nat} {as rest : List aV} (lk : aLV M.1.cls idx M' n ci) (hd : d' + 1 ≤ d) (ht : t < 32) (hc : c < aCnt t) (hcl : aCls t = some ci) (hn : as.length = n) (hr : aCat rest ≤ 8) (hst : st = as.reverse ++ aR t c :: rest) (hdg : decode M.2.1 pc = .ok (.invokevirtual idx, 3)) (hm : AM l d' M' (aR t c :: as) σ (aF v τ)) (k : AW l d M Q (pc + 3) L (v.toList ++ rest) τ) : AW l d M Q pc L st σ :=
  aw_callV lk hd ht hc hcl hn hr hst hdg hm (fun r σ' h => by obtain ⟨h1, h2⟩ := h; subst h1; subst h2; exact k)
theorem aw_fS {idx n : Nat} {as rest : List aV} (lk : aLS M.1.cls idx M' n) (hd : d' + 1 ≤ d) (hn : as.length = n) (hr : aCat rest ≤ 8) (hst : st = as.reverse ++ rest) (hdg : decode M.2.1 pc = .ok (.invokestatic idx, 3)) (hm : AM l d' M' as σ (aF v τ)) (k : AW l d M Q (pc + 3) L (v.toList ++ rest) τ) : AW l d M Q pc L st σ :=
  aw_callS lk hd hn hr hst hdg hm (fun r σ' h => by obtain ⟨h1, h2⟩ := h; subst h1; subst h2; exact k)
theorem aw_fN {idx n : Nat} {as rest : List aV} (lk : aLN M.1.cls idx M' n) (hd : d' + 1 ≤ d) (hn : as.length = n) (hr : aCat rest ≤ 8) (hst : st = as.reverse ++ rest) (hdg : decode M.2.1 pc = .ok (.invokestatic idx, 3)) (hm : AM l d' M' as σ (aF v τ)) (k : AW l d M Q (pc + 3) L (v.toList ++ rest) τ) : AW l d M Q pc L st σ :=
  aw_callN lk hd hn hr hst hdg hm (fun r σ' h => by obtain ⟨h1, h2⟩ := h; subst h1; subst h2; exact k)
end FCalls
/-- a loop that counts up to N -/
theorem aloop_at {P : Nat → Prop} (N : Nat) (h : ∀ n, n ≤ N → (n < N → P (n + 1)) → P n) : ∀ n, n ≤ N → P n := by
  have key : ∀ k n, n + k = N → P n := by
    intro k
    induction k with
    | zero => intro n hn; exact h n (by omega) (fun q => by omega)
    | succ k ih => intro n hn; exact h n (by omega) (fun q => ih (n + 1) (by omega))
  intro n hn
  exact key (N - n) n (by omega)
theorem aloop {P : Nat → Prop} (N : Nat) (h : ∀ n, n ≤ N → (n < N → P (n + 1)) → P n) : P 0 := aloop_at N h 0 (Nat.zero_le N)
section BCalls
variable {l : Launch} {d d' : Nat} {M M' : aMt} {Q : Option aV → aS → Prop} {pc : Nat} {L : aLs} {st : List aV} {σ : aS} {P : Prop}
theorem aw_bV [Decidable P] {idx n ci t c : Nat} {as rest : List aV} (lk : aLV M.1.cls idx M' n ci) (hd : d' + 1 ≤ d) (ht : t < 32) (hc : c < aCnt t) (hcl : aCls t = some ci) (hn : as.length = n) (hr : aCat rest ≤ 8) (hst : st = as.reverse ++ aR t c :: rest) (hdg : decode M.2.1 pc = .ok (.invokevirtual idx, 3)) (hm : AM l d' M' (aR t c :: as) σ (aF (some (aI (if P then 1 else 0))) σ)) (kt : P → AW l d M Q (pc + 3) L (aI 1 :: rest) σ) (kf : ¬ P → AW l d M Q (pc + 3) L (aI 0 :: rest) σ) : AW l d M Q pc L st σ := by
  by_cases h : P
  · rw [if_pos h] at hm; exact aw_fV lk hd ht hc hcl hn hr hst hdg hm (kt h)
  · rw [if_neg h] at hm; exact aw_fV lk hd ht hc hcl hn hr hst hdg hm (kf h)
theorem aw_bS [Decidable P] {idx n : Nat} {as rest : List aV} (lk : aLS M.1.cls idx M' n) (hd : d' + 1 ≤ d) (hn : as.length = n) (hr : aCat rest ≤ 8) (hst : st = as.reverse ++ rest) (hdg : decode M.2.1 pc = .ok (.invokestatic idx, 3)) (hm : AM l d' M' as σ (aF (some (aI (if P then 1 else 0))) σ)) (kt : P → AW l d M Q (pc + 3) L (aI 1 :: rest) σ) (kf : ¬ P → AW l d M Q (pc + 3) L (aI 0 :: rest) σ) : AW l d M Q pc L st σ := by
  by_cases h : P
  · rw [if_pos h] at hm; exact aw_fS lk hd hn hr hst hdg hm (kt h)
  · rw [if_neg h] at hm; exact aw_fS lk hd hn hr hst hdg hm (kf h)
theorem aw_bN [Decidable P] {idx n : Nat} {as rest : List aV} (lk : aLN M.1.cls idx M' n) (hd : d' + 1 ≤ d) (hn : as.length = n) (hr : aCat rest ≤ 8) (hst : st = as.reverse ++ rest) (hdg : decode M.2.1 pc = .ok (.invokestatic idx, 3)) (hm : AM l d' M' as σ (aF (some (aI (if P then 1 else 0))) σ)) (kt : P → AW l d M Q (pc + 3) L (aI 1 :: rest) σ) (kf : ¬ P → AW l d M Q (pc + 3) L (aI 0 :: rest) σ) : AW l d M Q pc L st σ := by
  by_cases h : P
  · rw [if_pos h] at hm; exact aw_fN lk hd hn hr hst hdg hm (kt h)
  · rw [if_neg h] at hm; exact aw_fN lk hd hn hr hst hdg hm (kf h)
end BCalls
/-- the same contract, by equal answers and stores -/
theorem am_eq {l : Launch} {d : Nat} {M : aMt} {as : List aV} {σ : aS} {v v' : Option aV} {τ τ' : aS} (h : AM l d M as σ (aF v τ)) (hv : v = v') (hτ : τ = τ') : AM l d M as σ (aF v' τ') := by
  subst hv; subst hτ; exact h
