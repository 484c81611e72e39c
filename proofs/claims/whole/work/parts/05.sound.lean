/-! ===== the abstract machine stands for the real one ===== -/
def aRm (d : Nat) : Room := { frames := d, cells := 0, slots := 0, locals := 38 * d }
/-- a method: its name, its code, its locals, what it returns, its class's constant pool -/
abbrev aMt : Type := MethodName × ByteArray × Nat × Option FieldType × aK
def aWs (M : aMt) : List Cond := Cond.code M.1 M.2.1 M.2.2.1 M.2.2.2.1 :: aTbl
/-- calls of a nest mate's private methods -/
def aNq : List (String × Nat × MethodName × String) := [("OnlyInDisguise$Shelves", 30, ⟨"OnlyInDisguise", "isShelf", "(I)Z"⟩, "OnlyInDisguise"), ("OnlyInDisguise$Text", 28, ⟨"OnlyInDisguise", "isMate", "(I)Z"⟩, "OnlyInDisguise"), ("OnlyInDisguise$Text", 62, ⟨"OnlyInDisguise", "isOffice", "(I)Z"⟩, "OnlyInDisguise"), ("OnlyInDisguise$Cabinet", 46, ⟨"OnlyInDisguise", "isOffice", "(I)Z"⟩, "OnlyInDisguise")]
def aNe (U : State) : Prop := ∀ q ∈ aNq, va_Nw (.methodLinkNest q.1 q.2.1 q.2.2.1 q.2.2.2) U
def aQ (ad : Nat → Nat → Nat) (cA : ClassId) (D : va_G) (Q : Option aV → aS → Prop) : Array Value → State → Outcome → State → Prop := fun _ st oc t => (∃ (r : Option aV) (σ' : aS), oc = .returned (r.map (cV ad)) ∧ Q r σ' ∧ va_P D aCl (aWo ad cA σ') t.heap) ∧ va_F (aA ad) st t
def aAt (M : aMt) (p : Program) (s : State) (m : MethodId) (args : Array Value) (meth : Method) (c : Code) (D : va_G) (cA : ClassId) : Prop :=
  p.tables.exec = Jvm.exec ∧ c.code = M.2.1 ∧ c.maxLocals = M.2.2.1 ∧ meth.sig.returnType = M.2.2.2.1 ∧ meth.locks = false ∧ s.vm.findClass M.1.cls = some m.cls ∧ (∀ w ∈ aWs M, w.before args s = true) ∧ va_K D aCl [(cA, .int)] s ∧ aNe s
def aIs (ad : Nat → Nat → Nat) (cA : ClassId) (D : va_G) (s : State) (σ : aS) (H : Heap) (locs : List Loc) : Prop := va_P D aCl (aWo ad cA σ) H ∧ va_D (aA ad) (aWo ad cA σ) ∧ va_S (aA ad) s.heap H locs
/-- from here the method comes to its end, with Q -/
def AW (l : Launch) (d : Nat) (M : aMt) (Q : Option aV → aS → Prop) (pc : Nat) (L : aLs) (st : List aV) (σ : aS) : Prop :=
  ∀ (p : Program) (e : Env) (s : State) (m : MethodId) (args : Array Value) (below : List Frame) (meth : Method) (c : Code) (D : va_G) (cA : ClassId) (ad : Nat → Nat → Nat) (H : Heap) (locs : List Loc) (ls : Array Slot),
    aAt M p s m args meth c D cA → aIs ad cA D s σ H locs → aLoc ad M.2.2.1 L ls →
    W p l e (aRm d) s m args below meth c H locs 0 0 (MQ below (aQ ad cA D Q) args s 0 0 (aA ad)) (F0 m pc ls (st.map (cV ad)))
/-- what a method needs, by the store -/
def aPc (ad : Nat → Nat → Nat) (cA : ClassId) (D : va_G) (as : List aV) (σ : aS) : Array Value → State → Prop := va_Pc (as.map (cV ad)) (fun U => va_P D aCl (aWo ad cA σ) U.heap ∧ va_K D aCl [(cA, .int)] U ∧ va_D (aA ad) (aWo ad cA σ) ∧ aNe U)
/-- a method's contract, by stores -/
def AM (l : Launch) (d : Nat) (M : aMt) (as : List aV) (σ : aS) (Q : Option aV → aS → Prop) : Prop :=
  ∀ (D : va_G) (cA : ClassId) (ad : Nat → Nat → Nat), Met l M.1 (aWs M) (aRm d) (aPc ad cA D as σ) (aQ ad cA D Q) 0 0 (aA ad)
/-- what a constant pool's table says is in the words -/
def aKok (own : String) (K : aK) : Prop :=
  (∀ q ∈ K.1, ∃ r : vw_C, aCl[q.2.1]? = some r ∧ q.2.2 < r.2.2 ∧ Cond.fieldLink own q.1 r.1 (r.2.1 q.2.2).2.1 (r.2.1 q.2.2).2.2.1 ∈ aTbl ∧ (r.2.1 q.2.2).1 = r.1) ∧
  (∀ q ∈ K.2.1, Cond.constant own q.1 (Int32.ofInt q.2) ∈ aTbl) ∧ (∀ q ∈ K.2.2, Cond.constantLong own q.1 (Int64.ofInt q.2) ∈ aTbl)
theorem aLk_mem {α : Type} {i : Nat} {v : α} : ∀ {t : List (Nat × α)}, aLk t i = some v → (i, v) ∈ t := by
  intro t
  induction t with
  | nil => intro h; cases h
  | cons q t ih =>
    intro h
    unfold aLk at h
    split at h
    · rename_i hq
      cases h
      subst hq
      exact List.mem_cons_self
    · exact List.mem_cons_of_mem _ (ih h)
/-- the six classes: their field words, types, names -/
theorem aCl_ok : ∀ (ci : Nat) (r : vw_C), aCl[ci]? = some r → (∀ w ∈ u_ws r.1 r.2.1 r.2.2, w ∈ aTbl) ∧ ∃ ty : Nat → FieldType, (∀ k, k < r.2.2 → parseFieldDescriptor (r.2.1 k).2.2.1 = some (ty k)) ∧ (∀ a, a < r.2.2 → ∀ b, b < r.2.2 → a ≠ b → (r.2.1 a).2.1 ≠ (r.2.1 b).2.1) := by
  intro ci r h
  match ci, h with
  | 0, h => cases h; exact ⟨iaX0, tyX0, tyX0_ok, nmX0⟩
  | 1, h => cases h; exact ⟨iaX1, tyX1, tyX1_ok, nmX1⟩
  | 2, h => cases h; exact ⟨iaX2, tyX2, tyX2_ok, nmX2⟩
  | 3, h => cases h; exact ⟨iaX4, tyX4, tyX4_ok, nmX4⟩
  | 4, h => cases h; exact ⟨iaX6, tyX6, tyX6_ok, nmX6⟩
  | 5, h => cases h; exact ⟨iaX7, tyX7, tyX7_ok, nmX7⟩
  | k + 6, h => simp [aCl] at h
def aFty (t k : Nat) : FieldType := if aBoo t k then .boolean else .int
def aNum (t k : Nat) : Bool := match (aFld t)[k]? with
  | some none => true
  | _ => false
theorem aNum_of {t k : Nat} (h : (aFld t)[k]? = some none) : aNum t k = true := by
  unfold aNum
  rw [h]
/-- the kinds of places: how long the list of fields is, of what type the fields are that hold numbers -/
theorem aFld_ok : ∀ t : Nat, t < 32 → ∀ ci : Nat, aCls t = some ci → ∀ r : vw_C, aCl[ci]? = some r → (aFld t).length = r.2.2 ∧ ∀ k : Nat, (aFld t)[k]? = some none → (r.2.1 k).2.2.2 = false ∧ parseFieldDescriptor (r.2.1 k).2.2.1 = some (aFty t k) := by
  intro t ht ci hci r hr
  have key1 : ∀ t : Nat, t < 32 → ∀ ci : Nat, ci < 6 → aCls t = some ci → (aFld t).length = (aCl.getD ci (RX0, TX0, 11)).2.2 := by decide +kernel
  have key2 : ∀ t : Nat, t < 32 → ∀ ci : Nat, ci < 6 → ∀ k : Nat, k < 20 → (aCls t = some ci ∧ aNum t k = true) → ((aCl.getD ci (RX0, TX0, 11)).2.1 k).2.2.2 = false := by decide +kernel
  have key3 : ∀ k : Nat, k < 20 → aNum t k = true → parseFieldDescriptor (r.2.1 k).2.2.1 = some (aFty t k) := by
    have htag : ∀ t : Nat, t < 32 → ∀ ci : Nat, ci < 6 → aCls t = some ci → t = [1, 16, 19, 9, 0, 21].getD ci 0 := by decide +kernel
    have ht2 := htag t ht ci ((List.getElem?_eq_some_iff.mp hr).1) hci
    clear ht hci
    match ci, hr, ht2 with
    | 0, hr, ht2 => cases hr; subst ht2; exact (by decide +kernel : ∀ k : Nat, k < 20 → aNum 1 k = true → parseFieldDescriptor (TX0 k).2.2.1 = some (aFty 1 k))
    | 1, hr, ht2 => cases hr; subst ht2; exact (by decide +kernel : ∀ k : Nat, k < 20 → aNum 16 k = true → parseFieldDescriptor (TX1 k).2.2.1 = some (aFty 16 k))
    | 2, hr, ht2 => cases hr; subst ht2; exact (by decide +kernel : ∀ k : Nat, k < 20 → aNum 19 k = true → parseFieldDescriptor (TX2 k).2.2.1 = some (aFty 19 k))
    | 3, hr, ht2 => cases hr; subst ht2; exact (by decide +kernel : ∀ k : Nat, k < 20 → aNum 9 k = true → parseFieldDescriptor (TX4 k).2.2.1 = some (aFty 9 k))
    | 4, hr, ht2 => cases hr; subst ht2; exact (by decide +kernel : ∀ k : Nat, k < 20 → aNum 0 k = true → parseFieldDescriptor (TX6 k).2.2.1 = some (aFty 0 k))
    | 5, hr, ht2 => cases hr; subst ht2; exact (by decide +kernel : ∀ k : Nat, k < 20 → aNum 21 k = true → parseFieldDescriptor (TX7 k).2.2.1 = some (aFty 21 k))
    | k + 6, hr, _ => simp [aCl] at hr
  have hc6 : ci < 6 := (List.getElem?_eq_some_iff.mp hr).1
  have hl : ∀ t : Nat, t < 32 → (aFld t).length < 20 := by decide +kernel
  have e : aCl.getD ci (RX0, TX0, 11) = r := by rw [List.getD_eq_getElem?_getD, hr]; rfl
  have h1 := key1 t ht ci hc6 hci
  have h2 := key2 t ht ci hc6
  rw [e] at h1 h2
  refine ⟨h1, fun k hk => ?_⟩
  have g1 := (List.getElem?_eq_some_iff.mp hk).1
  have g2 := hl t ht
  exact ⟨h2 k (by omega) ⟨hci, aNum_of hk⟩, key3 k (by omega) (aNum_of hk)⟩
theorem aNe_warm {s U : State} (hW : s.WarmedH U.vm) (h : aNe s) : aNe U := fun q hq => va_Nw.warmM hW (h q hq)
theorem aNe_same {s U : State} (hv : s.vm = U.vm) (h : aNe s) : aNe U := fun q hq => va_Nw.same rfl hv (h q hq)
theorem cV_cat {ad : Nat → Nat → Nat} {v : aV} (h : aLg (some v) = false) : (cV ad v).category = 1 := by
  rcases v with x | y | ⟨t, c⟩
  · rfl
  · cases h
  · rfl
section Sound
variable {l : Launch} {d : Nat} {M : aMt} {Q : Option aV → aS → Prop} {pc : Nat} {L : aLs} {st : List aV} {σ : aS}
set_option maxHeartbeats 4000000 in
theorem aw_1 {ins : Instr} {Cs : List Prop} {pc' : Nat} {L' : aLs} {st' : List aV} {σ' : aS} (hk : aKok M.1.cls M.2.2.2.2) (hd : decode M.2.1 pc = .ok (ins, aLn ins)) (hs : aStep M.2.2.2.2 ins pc L st σ = some (Cs, pc', L', st', σ')) (hC : ∀ P ∈ Cs, P) (k : AW l d M Q pc' L' st' σ') : AW l d M Q pc L st σ := by
  intro p e s m args below meth c D cA ad H locs ls C0 C1 hl
  obtain ⟨hx, hb, hml, hr, hlk, hown, hts, hK, hN⟩ := id C0
  obtain ⟨hP, hD, hS⟩ := id C1
  have hws : ∀ w ∈ aTbl, w.before args s = true := fun w hw => hts w (List.mem_cons_of_mem _ hw)
  have K := fun H locs ls (C1 : aIs ad cA D s σ' H locs) hl => k p e s m args below meth c D cA ad H locs ls C0 C1 hl
  clear k
  cases ins with
  | iconst n => cases hs; exact lv_iconst hx hb hd rfl (K H locs ls C1 hl)
  | bipush n =>
    simp only [aStep] at hs
    split at hs
    · rename_i hn; cases hs; exact lv_bipush hx hb hd (aIn_byte hn) (K H locs ls C1 hl)
    · cases hs
  | sipush n =>
    simp only [aStep] at hs
    split at hs
    · rename_i hn; cases hs; exact lv_sipush hx hb hd (aIn_short hn) (K H locs ls C1 hl)
    · cases hs
  | lconst n => cases hs; exact lv_lconst hx hb hd (Int64.ofInt_eq_ofNat).symm (K H locs ls C1 hl)
  | ldc i =>
    simp only [aStep] at hs
    split at hs
    · rename_i v hv; cases hs; exact lv_ldc hx hb hown (hws _ (hk.2.1 _ (aLk_mem hv))) hd (K H locs ls C1 hl)
    · cases hs
  | ldc_w i =>
    simp only [aStep] at hs
    split at hs
    · rename_i v hv; cases hs; exact lv_ldcw hx hb hown (hws _ (hk.2.1 _ (aLk_mem hv))) hd (K H locs ls C1 hl)
    · cases hs
  | ldc2_w i =>
    simp only [aStep] at hs
    split at hs
    · rename_i v hv; cases hs; exact lv_ldc2 hx hb hown (hws _ (hk.2.2 _ (aLk_mem hv))) hd (K H locs ls C1 hl)
    · cases hs
  | iload_n i =>
    simp only [aStep, aLdI] at hs
    split at hs
    · rename_i x hx2; cases hs; exact lv_iload_n hx hb hd rfl (aLoc_at hl hx2) (K H locs ls C1 hl)
    · cases hs
  | iload i =>
    simp only [aStep, aLdI] at hs
    split at hs
    · rename_i x hx2; cases hs; exact lv_iload hx hb hd (aLoc_at hl hx2) (K H locs ls C1 hl)
    · cases hs
  | lload_n i =>
    simp only [aStep, aLdL] at hs
    split at hs
    · rename_i x hx2; cases hs; exact lv_lload_n hx hb hd rfl (aLoc_at hl hx2) (K H locs ls C1 hl)
    · cases hs
  | lload i =>
    simp only [aStep, aLdL] at hs
    split at hs
    · rename_i x hx2; cases hs; exact lv_lload hx hb hd (aLoc_at hl hx2) (K H locs ls C1 hl)
    · cases hs
  | aload_n i =>
    simp only [aStep, aLdR] at hs
    split at hs
    · rename_i x hx2; cases hs; exact lv_aload_n hx hb hd rfl (aLoc_at hl hx2) (K H locs ls C1 hl)
    · cases hs
  | aload i =>
    simp only [aStep, aLdR] at hs
    split at hs
    · rename_i x hx2; cases hs; exact lv_aload hx hb hd (aLoc_at hl hx2) (K H locs ls C1 hl)
    · cases hs
  | istore_n i =>
    simp only [aStep, aStI] at hs
    split at hs
    · split at hs
      · rename_i hi; cases hs
        exact lv_istore_n hx hb hd rfl hl.2 (by rw [← hl.1]; exact hi) rfl (fun ls' h' => K H locs ls' C1 (aPut_has hl.1 h'))
      · cases hs
    · cases hs
  | istore i =>
    simp only [aStep, aStI] at hs
    split at hs
    · split at hs
      · rename_i hi; cases hs
        exact lv_istore hx hb hd hl.2 (by rw [← hl.1]; exact hi) rfl (fun ls' h' => K H locs ls' C1 (aPut_has hl.1 h'))
      · cases hs
    · cases hs
  | lstore_n i =>
    simp only [aStep, aStL] at hs
    split at hs
    · split at hs
      · rename_i hi; cases hs
        exact lv_lstore_n hx hb hd rfl hl.2 (by rw [← hl.1]; exact hi) rfl (fun ls' h' => K H locs ls' C1 (aPut2_has hl.1 h'))
      · cases hs
    · cases hs
  | lstore i =>
    simp only [aStep, aStL] at hs
    split at hs
    · split at hs
      · rename_i hi; cases hs
        exact lv_lstore hx hb hd hl.2 (by rw [← hl.1]; exact hi) rfl (fun ls' h' => K H locs ls' C1 (aPut2_has hl.1 h'))
      · cases hs
    · cases hs
  | iinc i n =>
    simp only [aStep, aInc] at hs
    split at hs
    · rename_i x hx2; cases hs
      obtain ⟨kk, hkk⟩ := List.getElem?_of_mem (aAs_mem (ad := ad) (i := 0).mpr ⟨i, aI x, hx2, rfl⟩)
      rw [Nat.zero_add] at hkk
      exact lv_iinc (v := Int32.ofInt (x + n)) hx hb hd hl.2 hkk (Int32.ofInt_add x n).symm (by rw [← hl.1]; exact (List.getElem?_eq_some_iff.mp hx2).1) rfl (fun ls' h' => K H locs ls' C1 (aPut_has hl.1 h'))
    · cases hs
  | iadd =>
    simp only [aStep, aBin] at hs
    split at hs
    · rename_i y x r; cases hs; refine lv_iadd hx hb hd ?_; rw [← Int32.ofInt_add]; exact K H locs ls C1 hl
    · cases hs
  | isub =>
    simp only [aStep, aBin] at hs
    split at hs
    · rename_i y x r; cases hs; refine lv_isub hx hb hd ?_; rw [← Int32.ofInt_sub]; exact K H locs ls C1 hl
    · cases hs
  | imul =>
    simp only [aStep, aBin] at hs
    split at hs
    · rename_i y x r; cases hs; refine lv_imul hx hb hd ?_; rw [← Int32.ofInt_mul]; exact K H locs ls C1 hl
    · cases hs
  | idiv =>
    simp only [aStep, aBin] at hs
    split at hs
    · rename_i y x r; cases hs
      have h1 : aIr x := hC _ (by simp)
      have h2 : 0 < y ∧ y < 2147483648 := hC _ (by simp)
      refine lv_idiv hx hb hd (aIn_ne0 h2) ?_; rw [← aIn_div h1 h2]; exact K H locs ls C1 hl
    · cases hs
  | irem =>
    simp only [aStep, aBin] at hs
    split at hs
    · rename_i y x r; cases hs
      have h1 : aIr x := hC _ (by simp)
      have h2 : 0 < y ∧ y < 2147483648 := hC _ (by simp)
      refine lv_irem hx hb hd (aIn_ne0 h2) ?_; rw [← aIn_rem h1 h2]; exact K H locs ls C1 hl
    · cases hs
  | iand =>
    simp only [aStep, aBin] at hs
    split at hs
    · rename_i y x r; cases hs; refine lv_iand hx hb hd ?_; rw [← aAnd_eq]; exact K H locs ls C1 hl
    · cases hs
  | ior =>
    simp only [aStep, aBin] at hs
    split at hs
    · rename_i y x r; cases hs; refine lv_ior hx hb hd ?_; rw [← aOr_eq]; exact K H locs ls C1 hl
    · cases hs
  | ixor =>
    simp only [aStep, aBin] at hs
    split at hs
    · rename_i y x r; cases hs; refine lv_ixor hx hb hd ?_; rw [← aXor_eq]; exact K H locs ls C1 hl
    · cases hs
  | ishl =>
    simp only [aStep, aBin] at hs
    split at hs
    · rename_i y x r; cases hs
      have h2 : 0 ≤ y ∧ y < 32 := hC _ (by simp)
      refine lv_ishl hx hb hd ?_; rw [← aIn_shl h2]; exact K H locs ls C1 hl
    · cases hs
  | ishr =>
    simp only [aStep, aBin] at hs
    split at hs
    · rename_i y x r; cases hs
      have h2 : 0 ≤ y ∧ y < 32 := hC _ (by simp)
      have h1 : aIr x := hC _ (by simp)
      refine lv_ishr hx hb hd ?_; rw [← aIn_shr h2 h1]; exact K H locs ls C1 hl
    · cases hs
  | iushr =>
    simp only [aStep, aBin] at hs
    split at hs
    · rename_i y x r; cases hs
      have h2 : 0 ≤ y ∧ y < 32 := hC _ (by simp)
      have h1 : 0 ≤ x ∧ x < 2147483648 := hC _ (by simp)
      exact lv_iushr hx hb hd (aIn_ushr h2 h1) (K H locs ls C1 hl)
    · cases hs
  | ineg =>
    simp only [aStep, aUn] at hs
    split at hs
    · rename_i x r; cases hs; refine lv_ineg hx hb hd ?_; rw [← Int32.ofInt_neg]; exact K H locs ls C1 hl
    · cases hs
  | i2b =>
    simp only [aStep, aUn] at hs
    split at hs
    · rename_i x r; cases hs; exact lv_i2b hx hb hd (aIn_i2b x) (K H locs ls C1 hl)
    · cases hs
  | i2s =>
    simp only [aStep, aUn] at hs
    split at hs
    · rename_i x r; cases hs; exact lv_i2s hx hb hd (aIn_i2s x) (K H locs ls C1 hl)
    · cases hs
  | i2l =>
    simp only [aStep] at hs
    split at hs
    · rename_i x r; cases hs
      exact lv_i2l hx hb hd (aIn_i2l (hC _ (by simp))) (K H locs ls C1 hl)
    · cases hs
  | ladd =>
    simp only [aStep, aBinL] at hs
    split at hs
    · rename_i y x r; cases hs; refine lv_ladd hx hb hd ?_; rw [← Int64.ofInt_add]; exact K H locs ls C1 hl
    · cases hs
  | lmul =>
    simp only [aStep, aBinL] at hs
    split at hs
    · rename_i y x r; cases hs; refine lv_lmul hx hb hd ?_; rw [← Int64.ofInt_mul]; exact K H locs ls C1 hl
    · cases hs
  | ldiv =>
    simp only [aStep, aBinL] at hs
    split at hs
    · rename_i y x r; cases hs
      have h1 : aLr x := hC _ (by simp)
      have h2 : 0 < y ∧ y < 9223372036854775808 := hC _ (by simp)
      refine lv_ldiv hx hb hd (aIn_ne064 h2) ?_; rw [← aIn_div64 h1 h2]; exact K H locs ls C1 hl
    · cases hs
  | lrem =>
    simp only [aStep, aBinL] at hs
    split at hs
    · rename_i y x r; cases hs
      have h1 : aLr x := hC _ (by simp)
      have h2 : 0 < y ∧ y < 9223372036854775808 := hC _ (by simp)
      refine lv_lrem hx hb hd (aIn_ne064 h2) ?_; rw [← aIn_rem64 h1 h2]; exact K H locs ls C1 hl
    · cases hs
  | lcmp =>
    simp only [aStep] at hs
    split at hs
    · rename_i y x r; cases hs
      have h1 : aLr x := hC _ (by simp)
      have h2 : aLr y := hC _ (by simp)
      refine W.lcmp hx hb hd ?_; rw [aIn_lcmp h1 h2]; exact K H locs ls C1 hl
    · cases hs
  | dup =>
    simp only [aStep, aDup] at hs
    split at hs
    · split at hs
      · cases hs
      · rename_i v r hv; cases hs
        exact lv_dup hx hb hd (cV_cat (by simpa using hv)) (K H locs ls C1 hl)
    · cases hs
  | dup2 =>
    simp only [aStep, aDup2] at hs
    split at hs
    · split at hs
      · cases hs
      · rename_i v w r hv; cases hs
        have hv2 : aLg (some v) = false ∧ aLg (some w) = false := by simpa using hv
        exact lv_dup2_11 hx hb hd (cV_cat hv2.1) (cV_cat hv2.2) (K H locs ls C1 hl)
    · cases hs
  | getfield i =>
    simp only [aStep, aGet] at hs
    split at hs
    · rename_i q r
      split at hs
      · rename_i ci kf hq
        split at hs
        · rename_i ht
          obtain ⟨ht1, ht2⟩ := ht
          obtain ⟨rc, hc1, hc2, hc3, hc4⟩ := hk.1 _ (aLk_mem hq)
          obtain ⟨t, cc⟩ := q
          dsimp only at ht1 ht2 hs hc1 hc2 hc3 hc4
          obtain ⟨o1, -⟩ := aCl_ok ci rc hc1
          split at hs
          · rename_i hf; cases hs
            obtain ⟨q0, hq0⟩ := aPl_at (c := cc) ht2 (hC _ (by simp))
            have e1 := aWo_at (ad := ad) (cA := cA) (σ := σ) hq0
            unfold aCell at e1
            rw [ht1] at e1
            exact va_get (D := D) hx hb hws o1 hown hK hP q0 e1 hc1 kf hc2 (hws _ hc3) (fun x h => by rw [← hc4]; exact h) (v := .int (Int32.ofInt (σ t cc kf))) (by rw [List.getElem?_mapIdx, hf]; rfl) hd (K H locs ls C1 hl)
          · rename_i f hf; cases hs
            obtain ⟨q0, hq0⟩ := aPl_at (c := cc) ht2 (hC _ (by simp))
            have e1 := aWo_at (ad := ad) (cA := cA) (σ := σ) hq0
            unfold aCell at e1
            rw [ht1] at e1
            exact va_get (D := D) hx hb hws o1 hown hK hP q0 e1 hc1 kf hc2 (hws _ hc3) (fun x h => by rw [← hc4]; exact h) (v := .ref (ad f.1 (f.2.getD cc))) (by rw [List.getElem?_mapIdx, hf]; rfl) hd (K H locs ls C1 hl)
          · cases hs
        · cases hs
      · cases hs
    · cases hs
  | putfield i =>
    simp only [aStep, aSet] at hs
    split at hs
    · rename_i x q r
      split at hs
      · rename_i ci kf hq
        split at hs
        · rename_i ht
          obtain ⟨ht1, ht2⟩ := ht
          obtain ⟨rc, hc1, hc2, hc3, hc4⟩ := hk.1 _ (aLk_mem hq)
          obtain ⟨t, cc⟩ := q
          dsimp only at ht1 ht2 hs hc1 hc2 hc3 hc4
          obtain ⟨o1, ty, o2, o3⟩ := aCl_ok ci rc hc1
          obtain ⟨f1, f2⟩ := aFld_ok t ht2 ci ht1 rc hc1
          split at hs
          · rename_i hf
            obtain ⟨f3, f4⟩ := f2 kf hf
            have hcc : cc < aCnt t := by
              split at hs <;> (cases hs; exact hC _ (by simp))
            have hnar : narrow (aFty t kf) (.int (Int32.ofInt x)) = .int (Int32.ofInt x) ∧ fits (aFty t kf) (.int (Int32.ofInt x)) = true := by
              split at hs
              · rename_i hbo; cases hs
                rw [show aFty t kf = .boolean from by unfold aFty; rw [if_pos hbo]]
                have hx01 : x = 0 ∨ x = 1 := hC _ (by simp)
                rcases hx01 with rfl | rfl <;> decide +kernel
              · rename_i hbo; cases hs
                rw [show aFty t kf = .int from by unfold aFty; rw [if_neg hbo]]
                exact ⟨rfl, rfl⟩
            obtain ⟨q0, hq0⟩ := aPl_at ht2 hcc
            have e1 := aWo_at (ad := ad) (cA := cA) (σ := σ) hq0
            unfold aCell at e1
            rw [ht1] at e1
            have hsame : ∀ y, s.fieldFound? (rc.2.1 kf).1 (rc.2.1 kf).2.1 (rc.2.1 kf).2.2.1 = some y → s.fieldFound? rc.1 (rc.2.1 kf).2.1 (rc.2.1 kf).2.2.1 = some y := fun y h => by rw [← hc4]; exact h
            have hcell := aCell_fld (ad := ad) (cA := cA) (σ := σ) (c := cc) (x := x) ht1 hf
            have hset := aWo_set (e := .inr (ci, ((aFld t).mapIdx (fun j f => aFv ad σ t cc j f)).set kf (.int (Int32.ofInt x)))) (σ := σ) (σ' := aUp σ t cc kf x) hq0 hcell (fun t' c' h => aCell_off t' c' h)
            have hgo : ∀ (H1 : Heap) (locs1 : List Loc), va_P D aCl ((aWo ad cA σ).set q0 (ad t cc, .inr (ci, ((aFld t).mapIdx (fun j f => aFv ad σ t cc j f)).set kf (.int (Int32.ofInt x))))) H1 → va_D (aA ad) ((aWo ad cA σ).set q0 (ad t cc, .inr (ci, ((aFld t).mapIdx (fun j f => aFv ad σ t cc j f)).set kf (.int (Int32.ofInt x))))) → va_S (aA ad) s.heap H1 locs1 → aIs ad cA D s (aUp σ t cc kf x) H1 locs1 := fun H1 locs1 g1 g2 g3 => by
              rw [hset] at g1 g2
              exact ⟨g1, g2, g3⟩
            split at hs
            · cases hs
              exact va_put (D := D) hx hb hws o1 ty o2 o3 hown hK hP hD hS q0 e1 hc1 kf hc2 (hws _ hc3) hsame f3 f4 hnar.1 hnar.2 (by rw [List.length_mapIdx, f1]; exact hc2) hd (fun H1 locs1 g1 g2 g3 => K H1 locs1 ls (hgo H1 locs1 g1 g2 g3) hl)
            · cases hs
              exact va_put (D := D) hx hb hws o1 ty o2 o3 hown hK hP hD hS q0 e1 hc1 kf hc2 (hws _ hc3) hsame f3 f4 hnar.1 hnar.2 (by rw [List.length_mapIdx, f1]; exact hc2) hd (fun H1 locs1 g1 g2 g3 => K H1 locs1 ls (hgo H1 locs1 g1 g2 g3) hl)
          · cases hs
        · cases hs
      · cases hs
    · cases hs
  | iaload =>
    simp only [aStep, aAld] at hs
    split at hs
    · rename_i i q r
      split at hs
      · rename_i ht
        obtain ⟨t, cc⟩ := q
        obtain ⟨ht1, ht2⟩ := ht
        cases hs
        have hcc : cc < aCnt t := hC _ (by simp)
        have hi : 0 ≤ i ∧ i < (aLen t : Int) := hC _ (by simp)
        obtain ⟨q0, hq0⟩ := aPl_at ht2 hcc
        have e1 := aWo_at (ad := ad) (cA := cA) (σ := σ) hq0
        unfold aCell at e1
        rw [ht1] at e1
        have hln := aLen_ok t
        refine va_iald (D := D) hx hb hK hP q0 0 e1 rfl (aIn_vp hln hi) hd ?_
        have e2 : (Int32.ofInt i).toNatClampNeg = i.toNat := aIn_nat (by omega)
        have e3 : ((i.toNat : Nat) : Int) = i := by omega
        have e4 : Int32.ofInt (σ t cc ((Int32.ofInt i).toNatClampNeg : Nat)) = Int32.ofInt (σ t cc i) := by rw [e2, e3]
        dsimp only
        rw [e4]
        exact K H locs ls C1 hl
      · cases hs
    · cases hs
  | iastore =>
    simp only [aStep, aAst] at hs
    split at hs
    · rename_i x i q r
      split at hs
      · rename_i ht
        obtain ⟨t, cc⟩ := q
        obtain ⟨ht1, ht2⟩ := ht
        cases hs
        have hcc : cc < aCnt t := hC _ (by simp)
        have hi : 0 ≤ i ∧ i < (aLen t : Int) := hC _ (by simp)
        obtain ⟨q0, hq0⟩ := aPl_at ht2 hcc
        have e1 := aWo_at (ad := ad) (cA := cA) (σ := σ) hq0
        unfold aCell at e1
        rw [ht1] at e1
        have hln := aLen_ok t
        have hcell := aCell_arr (ad := ad) (cA := cA) (σ := σ) (c := cc) (x := x) ht1 (i := i) (by omega)
        have hset := aWo_set (σ := σ) (σ' := aUp σ t cc i x) hq0 hcell (fun t' c' h => aCell_off t' c' h)
        refine va_iast (D := D) hx hb hK hP hD hS q0 0 e1 rfl (aIn_vp hln hi) hd (fun H1 locs1 g1 g2 g3 => ?_)
        rw [hset] at g1 g2
        exact K H1 locs1 ls ⟨g1, g2, g3⟩ hl
      · cases hs
    · cases hs
  | goto o =>
    simp only [aStep] at hs
    split at hs
    · rename_i ho; cases hs
      exact lv_goto (tgt := ((pc : Int) + o).toNat) hx hb hd (by omega) (K H locs ls C1 hl)
    · cases hs
  | _ => cases hs
end Sound
