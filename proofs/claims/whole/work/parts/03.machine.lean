/-! ===== the abstract machine: values, stores, places ===== -/
abbrev aV : Type := Int ⊕ (Int ⊕ (Nat × Nat))
abbrev aI (x : Int) : aV := Sum.inl x
abbrev aL (x : Int) : aV := Sum.inr (Sum.inl x)
abbrev aR (t c : Nat) : aV := Sum.inr (Sum.inr (t, c))
abbrev aS : Type := Nat → Nat → Int → Int
abbrev aLs : Type := List (Option aV)
def aUp (σ : aS) (t c : Nat) (i x : Int) : aS := fun t' c' i' => if t' = t ∧ c' = c ∧ i' = i then x else σ t' c' i'
/-- how many of a kind of place there are -/
def aCnt (t : Nat) : Nat := match t with
  | 1 => 3 | 2 => 3 | 3 => 3 | 4 => 3 | 5 => 3 | 6 => 3 | 7 => 3 | 8 => 3
  | 20 => 2 | 22 => 4 | _ => 1
/-- how long the rows of a kind are -/
def aLen (t : Nat) : Nat := match t with
  | 2 => 8 | 3 => 8 | 4 => 8 | 5 => 8 | 6 => 8 | 7 => 5 | 8 => 5
  | 10 => 8 | 11 => 8 | 12 => 8 | 13 => 8 | 14 => 8 | 15 => 800
  | 17 => 40 | 18 => 1536 | 20 => 4
  | 22 => 45 | 23 => 3 | 24 => 40 | 25 => 1536 | 26 => 8 | 27 => 8 | 28 => 8 | 29 => 8 | 30 => 8 | 31 => 800
  | _ => 0
/-- the class (its number in aCl) of the objects of a kind; none: rows -/
def aCls (t : Nat) : Option Nat := match t with
  | 0 => some 4 | 1 => some 0 | 9 => some 3 | 16 => some 1 | 19 => some 2 | 21 => some 5 | _ => none
/-- the fields of the objects of a kind: a number, or a place (kind; its instance, or the same one) -/
def aFld (t : Nat) : List (Option (Nat × Option Nat)) := match t with
  | 0 => [some (1, some 0), some (1, some 1), some (1, some 2), none, some (9, some 0), some (16, some 0), some (19, some 0), some (20, some 0), some (20, some 1)]
  | 1 => [none, none, none, none, some (2, none), some (3, none), some (4, none), some (5, none), some (6, none), some (7, none), some (8, none)]
  | 9 => [some (10, none), some (11, none), some (12, none), some (13, none), some (14, none), some (15, none)]
  | 16 => [some (17, none), some (18, none), none]
  | 19 => [none]
  | 21 => [some (22, some 0), some (22, some 1), some (22, some 2), some (22, some 3), none, none, none, none, some (23, none), some (24, none), some (25, none), none, some (26, none), some (27, none), some (28, none), some (29, none), some (30, none), some (31, none), none]
  | _ => []
/-- fields that hold a boolean -/
def aBoo (t k : Nat) : Bool := (t == 0 && k == 3) || (t == 21 && k == 4)
def aPl : List (Nat × Nat) := (List.range 32).flatMap fun t => (List.range (aCnt t)).map fun c => (t, c)
theorem aPl_nd : aPl.Nodup := by decide +kernel
theorem aPl_all : ∀ t : Nat, t < 32 → ∀ c : Nat, c < aCnt t → (t, c) ∈ aPl := by decide +kernel
theorem aPl_in : ∀ q ∈ aPl, q.1 < 32 ∧ q.2 < aCnt q.1 := by decide +kernel
theorem aLen_ok : ∀ t : Nat, aLen t < 2147483648 := by
  intro t
  unfold aLen
  split <;> decide
theorem aPl_at {t c : Nat} (ht : t < 32) (hc : c < aCnt t) : ∃ k : Nat, aPl[k]? = some (t, c) := List.getElem?_of_mem (aPl_all t ht c hc)
section Conc
variable (ad : Nat → Nat → Nat) (cA : ClassId)
def cV (v : aV) : Value := match v with
  | .inl x => .int (Int32.ofInt x)
  | .inr (.inl y) => .long (Int64.ofInt y)
  | .inr (.inr (t, c)) => .ref (ad t c)
def aFv (σ : aS) (t c j : Nat) (f : Option (Nat × Option Nat)) : Value := match f with
  | none => .int (Int32.ofInt (σ t c j))
  | some (t', c') => .ref (ad t' (c'.getD c))
def aCell (σ : aS) (t c : Nat) : va_E := match aCls t with
  | none => .inl (cA, aLen t, .inl (fun j => Int32.ofInt (σ t c j)))
  | some ci => .inr (ci, (aFld t).mapIdx (fun j f => aFv ad σ t c j f))
def aWo (σ : aS) : va_W := aPl.map (fun q => (ad q.1 q.2, aCell ad cA σ q.1 q.2))
def aAs : Nat → aLs → List (Nat × Value)
  | _, [] => []
  | i, none :: t => aAs (i + 1) t
  | i, some v :: t => (i, cV ad v) :: aAs (i + 1) t
def aLoc (n : Nat) (L : aLs) (ls : Array Slot) : Prop := L.length = n ∧ lv_has ls n (aAs ad 0 L)
def aA : Nat → Prop := fun q => ∃ t c : Nat, t < 32 ∧ c < aCnt t ∧ q = ad t c
end Conc
theorem aWo_at {ad : Nat → Nat → Nat} {cA : ClassId} {σ : aS} {k t c : Nat} (h : aPl[k]? = some (t, c)) : (aWo ad cA σ)[k]? = some (ad t c, aCell ad cA σ t c) := by
  unfold aWo
  rw [List.getElem?_map, h]
  rfl
theorem aWo_set {ad : Nat → Nat → Nat} {cA : ClassId} {σ σ' : aS} {k t c : Nat} {e : va_E} (h : aPl[k]? = some (t, c)) (he : aCell ad cA σ' t c = e) (ho : ∀ t' c' : Nat, ¬ (t' = t ∧ c' = c) → aCell ad cA σ' t' c' = aCell ad cA σ t' c') : (aWo ad cA σ).set k (ad t c, e) = aWo ad cA σ' := by
  apply List.ext_getElem?
  intro j
  have hk : k < aPl.length := (List.getElem?_eq_some_iff.mp h).1
  by_cases hj : k = j
  · subst hj
    rw [List.getElem?_set_self (by unfold aWo; rw [List.length_map]; exact hk), aWo_at h, he]
  · rw [List.getElem?_set_ne hj]
    unfold aWo
    rw [List.getElem?_map, List.getElem?_map]
    cases hq : aPl[j]? with
    | none => rfl
    | some q =>
      obtain ⟨t', c'⟩ := q
      have hne : ¬ (t' = t ∧ c' = c) := fun hh => by
        obtain ⟨rfl, rfl⟩ := hh
        have hj' : j < aPl.length := (List.getElem?_eq_some_iff.mp hq).1
        exact hj ((List.getElem?_inj hk aPl_nd).mp (h.trans hq.symm))
      show some (ad t' c', aCell ad cA σ t' c') = some (ad t' c', aCell ad cA σ' t' c')
      rw [ho t' c' hne]
theorem aUp_off {σ : aS} {t c : Nat} {i x : Int} {t' c' : Nat} (h : ¬ (t' = t ∧ c' = c)) (j : Int) : aUp σ t c i x t' c' j = σ t' c' j := by
  unfold aUp
  rw [if_neg (fun hh => h ⟨hh.1, hh.2.1⟩)]
theorem aCell_off {ad : Nat → Nat → Nat} {cA : ClassId} {σ : aS} {t c : Nat} {i x : Int} (t' c' : Nat) (h : ¬ (t' = t ∧ c' = c)) : aCell ad cA (aUp σ t c i x) t' c' = aCell ad cA σ t' c' := by
  unfold aCell
  split
  · congr 4
    funext j
    rw [aUp_off h]
  · congr 3
    funext j f
    unfold aFv
    split
    · rw [aUp_off h]
    · rfl
theorem aCell_arr {ad : Nat → Nat → Nat} {cA : ClassId} {σ : aS} {t c : Nat} {i x : Int} (hc : aCls t = none) (hi : 0 ≤ i ∧ i < 2147483648) : aCell ad cA (aUp σ t c i x) t c = .inl (cA, aLen t, .inl (upd (fun j => Int32.ofInt (σ t c j)) (Int32.ofInt i).toNatClampNeg (Int32.ofInt x))) := by
  unfold aCell
  rw [hc]
  show (Sum.inl (cA, aLen t, Sum.inl (fun j : Nat => Int32.ofInt (aUp σ t c i x t c j))) : va_E) = _
  congr 4
  funext j
  rw [aIn_nat hi]
  unfold upd aUp
  by_cases h : j = i.toNat
  · rw [if_pos h, if_pos ⟨rfl, rfl, by omega⟩]
  · rw [if_neg h, if_neg (fun hh => h (by omega))]
theorem aCell_fld {ad : Nat → Nat → Nat} {cA : ClassId} {σ : aS} {t c ci k : Nat} {x : Int} (hc : aCls t = some ci) (hk : (aFld t)[k]? = some none) : aCell ad cA (aUp σ t c k x) t c = .inr (ci, ((aFld t).mapIdx (fun j f => aFv ad σ t c j f)).set k (.int (Int32.ofInt x))) := by
  unfold aCell
  rw [hc]
  show (Sum.inr (ci, (aFld t).mapIdx (fun j f => aFv ad (aUp σ t c k x) t c j f)) : va_E) = _
  congr 2
  apply List.ext_getElem?
  intro j
  have hl : k < (aFld t).length := (List.getElem?_eq_some_iff.mp hk).1
  by_cases h : k = j
  · subst h
    rw [List.getElem?_set_self (by rw [List.length_mapIdx]; exact hl), List.getElem?_mapIdx, hk]
    show some (Value.int (Int32.ofInt (aUp σ t c k x t c k))) = _
    unfold aUp
    rw [if_pos ⟨rfl, rfl, rfl⟩]
  · rw [List.getElem?_set_ne h, List.getElem?_mapIdx, List.getElem?_mapIdx]
    congr 1
    funext f
    unfold aFv
    split
    · unfold aUp
      rw [if_neg (fun hh => h (by omega))]
    · rfl
/-! ===== locals ===== -/
theorem aAs_mem {ad : Nat → Nat → Nat} {q : Nat × Value} : ∀ {L : aLs} {i : Nat}, q ∈ aAs ad i L ↔ ∃ (j : Nat) (v : aV), L[j]? = some (some v) ∧ q = (i + j, cV ad v) := by
  intro L
  induction L with
  | nil => intro i; simp [aAs]
  | cons a t ih =>
    intro i
    constructor
    · intro h
      cases a with
      | none =>
        obtain ⟨j, v, h1, h2⟩ := ih.mp h
        exact ⟨j + 1, v, by simpa using h1, by rw [h2]; congr 1; omega⟩
      | some w =>
        rcases List.mem_cons.mp h with h | h
        · exact ⟨0, w, rfl, h⟩
        · obtain ⟨j, v, h1, h2⟩ := ih.mp h
          exact ⟨j + 1, v, by simpa using h1, by rw [h2]; congr 1; omega⟩
    · rintro ⟨j, v, h1, h2⟩
      cases j with
      | zero =>
        have : a = some v := by simpa using h1
        subst this
        exact List.mem_cons.mpr (Or.inl h2)
      | succ j =>
        have h3 : q ∈ aAs ad (i + 1) t := ih.mpr ⟨j, v, by simpa using h1, by rw [h2]; congr 1; omega⟩
        cases a with
        | none => exact h3
        | some w => exact List.mem_cons.mpr (Or.inr h3)
theorem lv_mono {ls : Array Slot} {n : Nat} {l l' : List (Nat × Value)} (h : lv_has ls n l) (hs : ∀ q ∈ l', q ∈ l) : lv_has ls n l' := ⟨h.1, h.2.1, fun q hq => h.2.2 q (hs q hq)⟩
theorem aLoc_at {ad : Nat → Nat → Nat} {n i : Nat} {L : aLs} {ls : Array Slot} {v : aV} (h : aLoc ad n L ls) (hi : L[i]? = some (some v)) : ls[i]? = some (.val (cV ad v)) :=
  h.2.2.2 (i, cV ad v) (aAs_mem.mpr ⟨i, v, hi, by rw [Nat.zero_add]⟩)
/-- locals that are forgotten -/
def aLe (L' L : aLs) : Prop := L'.length = L.length ∧ ∀ (j : Nat) (v : aV), L'[j]? = some (some v) → L[j]? = some (some v)
theorem aLoc_le {ad : Nat → Nat → Nat} {n : Nat} {L L' : aLs} {ls : Array Slot} (h : aLoc ad n L ls) (hl : aLe L' L) : aLoc ad n L' ls :=
  ⟨hl.1.trans h.1, lv_mono h.2 (fun q hq => by
    obtain ⟨j, v, h1, h2⟩ := aAs_mem.mp hq
    exact aAs_mem.mpr ⟨j, v, hl.2 j v h1, h2⟩)⟩
def aDrop : aLs → List Nat → aLs
  | L, [] => L
  | L, k :: ks => aDrop (L.set k none) ks
theorem aDrop_le (ks : List Nat) : ∀ L : aLs, aLe (aDrop L ks) L := by
  induction ks with
  | nil => intro L; exact ⟨rfl, fun _ _ h => h⟩
  | cons k ks ih =>
    intro L
    obtain ⟨h1, h2⟩ := ih (L.set k none)
    refine ⟨h1.trans (List.length_set ..), fun j v h => ?_⟩
    have h3 := h2 j v h
    by_cases hj : k = j
    · subst hj
      rw [List.getElem?_set] at h3
      simp at h3
    · rwa [List.getElem?_set_ne hj] at h3
/-- is it a long? -/
def aLg (o : Option aV) : Bool := match o with
  | some (.inr (.inl _)) => true
  | _ => false
/-- a store of a value that isn't long: what it breaks is forgotten -/
def aPut (L : aLs) (i : Nat) (v : aV) : aLs := match i with
  | 0 => L.set 0 (some v)
  | j + 1 => if aLg (L[j]?.join) then (L.set j none).set (j + 1) (some v) else L.set (j + 1) (some v)
def aPut2 (L : aLs) (i : Nat) (v : aV) : aLs := (aPut L i v).set (i + 1) none
theorem aPut_len (L : aLs) (i : Nat) (v : aV) : (aPut L i v).length = L.length := by
  unfold aPut
  split
  · simp
  · split <;> simp
theorem aPut_get {L : aLs} {i j : Nat} {v w : aV} (h : (aPut L i v)[j]? = some (some w)) : (j = i ∧ w = v) ∨ (j ≠ i ∧ L[j]? = some (some w) ∧ ¬ (j + 1 = i ∧ aLg (some w) = true)) := by
  unfold aPut at h
  split at h
  · by_cases hj : 0 = j
    · subst hj
      rw [List.getElem?_set] at h
      simp at h
      exact Or.inl ⟨rfl, h.2.symm⟩
    · rw [List.getElem?_set_ne hj] at h
      exact Or.inr ⟨fun q => hj q.symm, h, fun q => by omega⟩
  · rename_i i'
    split at h
    · rename_i hlg
      by_cases hj : i' + 1 = j
      · subst hj
        rw [List.getElem?_set] at h
        simp at h
        exact Or.inl ⟨rfl, h.2.symm⟩
      · rw [List.getElem?_set_ne hj] at h
        by_cases hj2 : i' = j
        · subst hj2
          rw [List.getElem?_set] at h
          simp at h
        · rw [List.getElem?_set_ne hj2] at h
          exact Or.inr ⟨fun q => hj q.symm, h, fun q => by omega⟩
    · rename_i hlg
      by_cases hj : i' + 1 = j
      · subst hj
        rw [List.getElem?_set] at h
        simp at h
        exact Or.inl ⟨rfl, h.2.symm⟩
      · rw [List.getElem?_set_ne hj] at h
        refine Or.inr ⟨fun q => hj q.symm, h, fun q => ?_⟩
        have : j = i' := by omega
        subst this
        rw [h] at hlg
        exact hlg q.2
theorem aLg_cat {ad : Nat → Nat → Nat} {w : aV} (h : (cV ad w).category = 2) : aLg (some w) = true := by
  rcases w with x | y | ⟨t, c⟩
  · exact absurd (show (1 : Nat) = 2 from h) (by decide)
  · rfl
  · exact absurd (show (1 : Nat) = 2 from h) (by decide)
theorem aPut_has {ad : Nat → Nat → Nat} {n i : Nat} {L : aLs} {ls' : Array Slot} {v : aV} (hl : L.length = n)
    (h : lv_has ls' n ((i, cV ad v) :: (aAs ad 0 L).filter (fun q => !(q.1 == i) && !(q.1 + 1 == i && q.2.category == 2)))) : aLoc ad n (aPut L i v) ls' := by
  refine ⟨(aPut_len L i v).trans hl, lv_mono h (fun q hq => ?_)⟩
  obtain ⟨j, w, h1, h2⟩ := aAs_mem.mp hq
  rw [Nat.zero_add] at h2
  rcases aPut_get h1 with ⟨rfl, rfl⟩ | ⟨g1, g2, g3⟩
  · exact List.mem_cons.mpr (Or.inl h2)
  · refine List.mem_cons.mpr (Or.inr (List.mem_filter.mpr ⟨aAs_mem.mpr ⟨j, w, g2, by rw [Nat.zero_add]; exact h2⟩, ?_⟩))
    subst h2
    have e1 : (j == i) = false := by simpa using g1
    have e2 : (j + 1 == i && (cV ad w).category == 2) = false := by
      by_cases c1 : j + 1 = i
      · by_cases c2 : (cV ad w).category = 2
        · exact absurd ⟨c1, aLg_cat c2⟩ g3
        · simp [c2]
      · simp [c1]
    simp only [e1, e2]
    rfl
theorem aPut2_has {ad : Nat → Nat → Nat} {n i : Nat} {L : aLs} {ls' : Array Slot} {v : aV} (hl : L.length = n)
    (h : lv_has ls' n ((i, cV ad v) :: (aAs ad 0 L).filter (fun q => !(q.1 == i) && (!(q.1 == i + 1) && !(q.1 + 1 == i && q.2.category == 2))))) : aLoc ad n (aPut2 L i v) ls' := by
  refine ⟨by unfold aPut2; rw [List.length_set]; exact (aPut_len L i v).trans hl, lv_mono h (fun q hq => ?_)⟩
  obtain ⟨j, w, h1, h2⟩ := aAs_mem.mp hq
  rw [Nat.zero_add] at h2
  unfold aPut2 at h1
  by_cases hj : i + 1 = j
  · subst hj
    rw [List.getElem?_set] at h1
    simp at h1
  · rw [List.getElem?_set_ne hj] at h1
    rcases aPut_get h1 with ⟨rfl, rfl⟩ | ⟨g1, g2, g3⟩
    · exact List.mem_cons.mpr (Or.inl h2)
    · refine List.mem_cons.mpr (Or.inr (List.mem_filter.mpr ⟨aAs_mem.mpr ⟨j, w, g2, by rw [Nat.zero_add]; exact h2⟩, ?_⟩))
      subst h2
      have e1 : (j == i) = false := by simpa using g1
      have e3 : (j == i + 1) = false := by simpa using fun q : j = i + 1 => hj q.symm
      have e2 : (j + 1 == i && (cV ad w).category == 2) = false := by
        by_cases c1 : j + 1 = i
        · by_cases c2 : (cV ad w).category = 2
          · exact absurd ⟨c1, aLg_cat c2⟩ g3
          · simp [c2]
        · simp [c1]
      simp only [e1, e2, e3]
      rfl
