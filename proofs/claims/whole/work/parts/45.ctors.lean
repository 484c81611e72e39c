/-! ===== constructors ===== -/
abbrev zA (cA : ClassId) (n : Nat) : va_E := .inl (cA, n, .inl (fun _ => Int32.ofInt 0))
def cz (j : Int) : Int := if 0 ≤ j ∧ j < 5 then j else 0
def hz (j : Int) : Int := if 0 ≤ j ∧ j < 5 then -1 else 0
def szF (j : Int) : Int := if 3 ≤ j ∧ j < 8 then j - 3 else if 8 ≤ j ∧ j < 13 then -4 else 0
abbrev fA (cA : ClassId) (n : Nat) (f : Int → Int) : va_E := .inl (cA, n, .inl (fun j : Nat => Int32.ofInt (f (j : Int))))
abbrev cz9 : Nat → Int32 := upd (upd (upd (upd (upd (fun _ => Int32.ofInt 0) (0 : Int32).toNatClampNeg 0) (1 : Int32).toNatClampNeg 1) (2 : Int32).toNatClampNeg 2) (3 : Int32).toNatClampNeg 3) (4 : Int32).toNatClampNeg 4
abbrev hz9 : Nat → Int32 := upd (upd (upd (upd (upd (fun _ => Int32.ofInt 0) (0 : Int32).toNatClampNeg (-1)) (1 : Int32).toNatClampNeg (-1)) (2 : Int32).toNatClampNeg (-1)) (3 : Int32).toNatClampNeg (-1)) (4 : Int32).toNatClampNeg (-1)
abbrev sz9 : Nat → Int32 := (upd (upd (upd (upd (upd (upd (upd (upd (upd (upd (fun _ => Int32.ofInt 0) ((3 : Int32) + 0).toNatClampNeg 0) ((8 : Int32) + 0).toNatClampNeg (-4)) ((3 : Int32) + 1).toNatClampNeg 1) ((8 : Int32) + 1).toNatClampNeg (-4)) ((3 : Int32) + 2).toNatClampNeg 2) ((8 : Int32) + 2).toNatClampNeg (-4)) ((3 : Int32) + 3).toNatClampNeg 3) ((8 : Int32) + 3).toNatClampNeg (-4)) ((3 : Int32) + 4).toNatClampNeg 4) ((8 : Int32) + 4).toNatClampNeg (-4))
theorem cz_eq : cz9 = fun j : Nat => Int32.ofInt (cz (j : Int)) := by
  funext j
  match j with
  | 0 => decide +kernel
  | 1 => decide +kernel
  | 2 => decide +kernel
  | 3 => decide +kernel
  | 4 => decide +kernel
  | n + 5 =>
    have e : Int32.ofInt (cz ((n + 5 : Nat) : Int)) = Int32.ofInt 0 := by
      unfold cz
      rw [if_neg (by omega)]
    rw [e]
    show upd _ 4 _ _ = _
    unfold upd
    show (if n + 5 = 4 then _ else if n + 5 = 3 then _ else if n + 5 = 2 then _ else if n + 5 = 1 then _ else if n + 5 = 0 then _ else _) = _
    rw [if_neg (by omega), if_neg (by omega), if_neg (by omega), if_neg (by omega), if_neg (by omega)]
theorem hz_eq : hz9 = fun j : Nat => Int32.ofInt (hz (j : Int)) := by
  funext j
  match j with
  | 0 => decide +kernel
  | 1 => decide +kernel
  | 2 => decide +kernel
  | 3 => decide +kernel
  | 4 => decide +kernel
  | n + 5 =>
    have e : Int32.ofInt (hz ((n + 5 : Nat) : Int)) = Int32.ofInt 0 := by
      unfold hz
      rw [if_neg (by omega)]
    rw [e]
    show upd _ 4 _ _ = _
    unfold upd
    show (if n + 5 = 4 then _ else if n + 5 = 3 then _ else if n + 5 = 2 then _ else if n + 5 = 1 then _ else if n + 5 = 0 then _ else _) = _
    rw [if_neg (by omega), if_neg (by omega), if_neg (by omega), if_neg (by omega), if_neg (by omega)]
theorem sz_eq : sz9 = fun j : Nat => Int32.ofInt (szF (j : Int)) := by
  funext j
  match j with
  | 0 => decide +kernel
  | 1 => decide +kernel
  | 2 => decide +kernel
  | 3 => decide +kernel
  | 4 => decide +kernel
  | 5 => decide +kernel
  | 6 => decide +kernel
  | 7 => decide +kernel
  | 8 => decide +kernel
  | 9 => decide +kernel
  | 10 => decide +kernel
  | 11 => decide +kernel
  | 12 => decide +kernel
  | n + 13 =>
    have e : Int32.ofInt (szF ((n + 13 : Nat) : Int)) = Int32.ofInt 0 := by
      unfold szF
      rw [if_neg (by omega), if_neg (by omega)]
    rw [e]
    show upd _ 12 _ _ = _
    unfold upd
    show (if n + 13 = 12 then _ else if n + 13 = 7 then _ else if n + 13 = 11 then _ else if n + 13 = 6 then _ else if n + 13 = 10 then _ else if n + 13 = 5 then _ else if n + 13 = 9 then _ else if n + 13 = 4 then _ else if n + 13 = 8 then _ else if n + 13 = 3 then _ else _) = _
    rw [if_neg (by omega), if_neg (by omega), if_neg (by omega), if_neg (by omega), if_neg (by omega), if_neg (by omega), if_neg (by omega), if_neg (by omega), if_neg (by omega), if_neg (by omega)]
theorem cA_same {D : va_G} {s : State} {cA cA' : ClassId} (h : va_K D aCl [(cA, .int)] s) (h' : va_K D aCl ([(cA, .int)] ++ [(cA', .int)]) s) : cA' = cA := by
  have a : s.vm.findClass ("[" ++ (FieldType.int).toString) = some cA := (h.2 0 _ rfl).2
  have b : s.vm.findClass ("[" ++ (FieldType.int).toString) = some cA' := (h'.2 1 _ rfl).2
  exact Option.some.inj (b.symm.trans a)
section CtorRows
variable {p : Program} {l : Launch} {e : Env} {R : Room} {s : State} {m : MethodId} {args : Array Value} {below : List Frame} {meth : Method} {c : Code} {H : Heap} {locs : List Loc} {cells slots : Nat} {QQ : State → Prop}
variable {D : va_G} {cA : ClassId} {A : Nat → Prop} {cc : ByteArray} {pc : Nat} {ls : Array Slot} {rest : List Value} {ws : va_W} {h0 : Nat}
/-- a new row of ints, into a final field -/
theorem z_arr {C : String} {T : u_T} {N ci idx : Nat} {fs : List Value} {n : Int32} (nn k : Nat) (hx : p.tables.exec = Jvm.exec) (hb : c.code = cc) (hws : ∀ w ∈ aTbl, w.before args s = true) (hown : s.vm.findClass C = some m.cls) (hin2 : meth.name = "<init>") (hK : va_K D aCl [(cA, .int)] s) (hP : va_P D aCl ((h0, .inr (ci, fs)) :: ws) H) (hD : va_D A ((h0, .inr (ci, fs)) :: ws)) (hS : va_S A s.heap H locs) (hA : ∀ q, s.heap.size ≤ q → A q)
    (hn : ¬ n < 0) (hN : n.toNatClampNeg = nn) (hb2 : nn ≤ 2000) (hc : cells + 1 ≤ R.cells) (hs : slots + nn ≤ R.slots) (hdg : decode cc pc = .ok (.newarray .int, 2)) (hin : ∀ w ∈ u_ws C T N, w ∈ aTbl) (ty0 : Nat → FieldType) (hty : ∀ k, k < N → parseFieldDescriptor (T k).2.2.1 = some (ty0 k)) (hnm : ∀ a, a < N → ∀ b, b < N → a ≠ b → (T a).2.1 ≠ (T b).2.1) (hcl : aCl[ci]? = some (C, T, N)) (hk : k < N) (hlink : Cond.fieldLink C idx C (T k).2.1 (T k).2.2.1 ∈ aTbl) (hfin : (T k).2.2.2 = true) (hdecl : (T k).1 = C) (hd : parseFieldDescriptor (T k).2.2.1 = some (.array .int)) (hl : k < fs.length) (hdg2 : decode cc (pc + 2) = .ok (.putfield idx, 3))
    (kk : ∀ (q : Nat) (H1 : Heap) (locs1 : List Loc), va_P D aCl ((h0, .inr (ci, fs.set k (.ref q))) :: (ws ++ [(q, zA cA nn)])) H1 → va_D A ((h0, .inr (ci, fs.set k (.ref q))) :: (ws ++ [(q, zA cA nn)])) → va_S A s.heap H1 locs1 → W p l e R s m args below meth c H1 locs1 (cells + 1) (slots + nn) QQ (F0 m (pc + 5) ls rest)) : W p l e R s m args below meth c H locs cells slots QQ (F0 m pc ls (.int n :: .ref h0 :: rest)) := by
  refine va_newa (atype := .int) (ty := .int) (a0 := (nn, .inl (fun _ => Int32.ofInt 0))) hx hb (hws _ (in_aTbl 125 (by decide +kernel) rfl)) rfl hK hP hD hS hA (fun _ => rfl) hn hN (by show nn * 4 ≤ 536870912; omega) hc hs hdg (fun q cA' H1 hK' hP hD hS => ?_)
  have hcA := cA_same hK hK'
  subst hcA
  exact va_putF (D := D) (ci := ci) (v := .ref q) (ty := .array .int) (own := C) (ref := C) hx hb hws hin ty0 hty hnm hown hK hP hD hS 0 rfl hcl k hk (hws _ hlink) (fun _ h => by rw [hdecl] at h; exact h) hfin hin2 hdecl hd rfl rfl hl hdg2 (fun H2 locs2 hP hD hS => kk q H2 locs2 hP hD hS)
end CtorRows
abbrev kCab (cA : ClassId) (h0 : Nat) (u : Nat → Nat) : va_W := [(h0, .inr (0, [.int 0, .int 0, .int 0, .int 0, .ref (u 2), .ref (u 3), .ref (u 4), .ref (u 5), .ref (u 6), .ref (u 7), .ref (u 8)])), (u 2, zA cA 8), (u 3, zA cA 8), (u 4, zA cA 8), (u 5, zA cA 8), (u 6, zA cA 8), (u 7, fA cA 5 cz), (u 8, fA cA 5 hz)]
abbrev kShe (cA : ClassId) (h0 : Nat) (u : Nat → Nat) : va_W := [(h0, .inr (3, [.ref (u 10), .ref (u 11), .ref (u 12), .ref (u 13), .ref (u 14), .ref (u 15)])), (u 10, zA cA 8), (u 11, zA cA 8), (u 12, zA cA 8), (u 13, zA cA 8), (u 14, zA cA 8), (u 15, zA cA 800)]
abbrev kCas (cA : ClassId) (h0 : Nat) (u : Nat → Nat) : va_W := [(h0, .inr (1, [.ref (u 17), .ref (u 18), .int 0])), (u 17, zA cA 40), (u 18, zA cA 1536)]
abbrev kDra (h0 : Nat) : va_W := [(h0, .inr (2, [.int 0]))]
abbrev kCls (cA : ClassId) (h0 : Nat) (u : Nat → Nat → Nat) : va_W := [(h0, .inr (4, [.ref (u 1 0), .ref (u 1 1), .ref (u 1 2), .int 0, .ref (u 9 0), .ref (u 16 0), .ref (u 19 0), .ref (u 20 0), .ref (u 20 1)]))] ++ kCab cA (u 1 0) (fun t => u t 0) ++ kCab cA (u 1 1) (fun t => u t 1) ++ kCab cA (u 1 2) (fun t => u t 2) ++ kShe cA (u 9 0) (fun t => u t 0) ++ kCas cA (u 16 0) (fun t => u t 0) ++ kDra (u 19 0) ++ [(u 20 0, zA cA 4)] ++ [(u 20 1, zA cA 4)]
abbrev kMod (cA : ClassId) (h0 : Nat) (u : Nat → Nat → Nat) : va_W := [(h0, .inr (5, [.ref (u 22 0), .ref (u 22 1), .ref (u 22 2), .ref (u 22 3), .int 0, .int 0, .int 0, .int 0, .ref (u 23 0), .ref (u 24 0), .ref (u 25 0), .int 0, .ref (u 26 0), .ref (u 27 0), .ref (u 28 0), .ref (u 29 0), .ref (u 30 0), .ref (u 31 0), .int 0])), (u 22 0, fA cA 45 szF), (u 22 1, zA cA 45), (u 22 2, zA cA 45), (u 22 3, zA cA 45), (u 23 0, zA cA 3), (u 24 0, zA cA 40), (u 25 0, zA cA 1536), (u 26 0, zA cA 8), (u 27 0, zA cA 8), (u 28 0, zA cA 8), (u 29 0, zA cA 8), (u 30 0, zA cA 8), (u 31 0, zA cA 800)]
theorem dICab_0 : decode prog_2_method_1_code 0 = .ok (.aload_n 0, 1) := by decide +kernel
theorem dICab_1 : decode prog_2_method_1_code 1 = .ok (.invokespecial 3, 3) := by decide +kernel
theorem dICab_4 : decode prog_2_method_1_code 4 = .ok (.aload_n 0, 1) := by decide +kernel
theorem dICab_5 : decode prog_2_method_1_code 5 = .ok (.iconst 0, 1) := by decide +kernel
theorem dICab_6 : decode prog_2_method_1_code 6 = .ok (.putfield 9, 3) := by decide +kernel
theorem dICab_9 : decode prog_2_method_1_code 9 = .ok (.aload_n 0, 1) := by decide +kernel
theorem dICab_10 : decode prog_2_method_1_code 10 = .ok (.iconst 0, 1) := by decide +kernel
theorem dICab_11 : decode prog_2_method_1_code 11 = .ok (.putfield 15, 3) := by decide +kernel
theorem dICab_14 : decode prog_2_method_1_code 14 = .ok (.aload_n 0, 1) := by decide +kernel
theorem dICab_15 : decode prog_2_method_1_code 15 = .ok (.iconst 0, 1) := by decide +kernel
theorem dICab_16 : decode prog_2_method_1_code 16 = .ok (.putfield 18, 3) := by decide +kernel
theorem dICab_19 : decode prog_2_method_1_code 19 = .ok (.aload_n 0, 1) := by decide +kernel
theorem dICab_20 : decode prog_2_method_1_code 20 = .ok (.iconst 0, 1) := by decide +kernel
theorem dICab_21 : decode prog_2_method_1_code 21 = .ok (.putfield 21, 3) := by decide +kernel
theorem dICab_24 : decode prog_2_method_1_code 24 = .ok (.aload_n 0, 1) := by decide +kernel
theorem dICab_25 : decode prog_2_method_1_code 25 = .ok (.bipush 8, 2) := by decide +kernel
theorem dICab_27 : decode prog_2_method_1_code 27 = .ok (.newarray .int, 2) := by decide +kernel
theorem dICab_29 : decode prog_2_method_1_code 29 = .ok (.putfield 24, 3) := by decide +kernel
theorem dICab_32 : decode prog_2_method_1_code 32 = .ok (.aload_n 0, 1) := by decide +kernel
theorem dICab_33 : decode prog_2_method_1_code 33 = .ok (.bipush 8, 2) := by decide +kernel
theorem dICab_35 : decode prog_2_method_1_code 35 = .ok (.newarray .int, 2) := by decide +kernel
theorem dICab_37 : decode prog_2_method_1_code 37 = .ok (.putfield 28, 3) := by decide +kernel
theorem dICab_40 : decode prog_2_method_1_code 40 = .ok (.aload_n 0, 1) := by decide +kernel
theorem dICab_41 : decode prog_2_method_1_code 41 = .ok (.bipush 8, 2) := by decide +kernel
theorem dICab_43 : decode prog_2_method_1_code 43 = .ok (.newarray .int, 2) := by decide +kernel
theorem dICab_45 : decode prog_2_method_1_code 45 = .ok (.putfield 31, 3) := by decide +kernel
theorem dICab_48 : decode prog_2_method_1_code 48 = .ok (.aload_n 0, 1) := by decide +kernel
theorem dICab_49 : decode prog_2_method_1_code 49 = .ok (.bipush 8, 2) := by decide +kernel
theorem dICab_51 : decode prog_2_method_1_code 51 = .ok (.newarray .int, 2) := by decide +kernel
theorem dICab_53 : decode prog_2_method_1_code 53 = .ok (.putfield 34, 3) := by decide +kernel
theorem dICab_56 : decode prog_2_method_1_code 56 = .ok (.aload_n 0, 1) := by decide +kernel
theorem dICab_57 : decode prog_2_method_1_code 57 = .ok (.bipush 8, 2) := by decide +kernel
theorem dICab_59 : decode prog_2_method_1_code 59 = .ok (.newarray .int, 2) := by decide +kernel
theorem dICab_61 : decode prog_2_method_1_code 61 = .ok (.putfield 37, 3) := by decide +kernel
theorem dICab_64 : decode prog_2_method_1_code 64 = .ok (.aload_n 0, 1) := by decide +kernel
theorem dICab_65 : decode prog_2_method_1_code 65 = .ok (.iconst 5, 1) := by decide +kernel
theorem dICab_66 : decode prog_2_method_1_code 66 = .ok (.newarray .int, 2) := by decide +kernel
theorem dICab_68 : decode prog_2_method_1_code 68 = .ok (.putfield 40, 3) := by decide +kernel
theorem dICab_71 : decode prog_2_method_1_code 71 = .ok (.aload_n 0, 1) := by decide +kernel
theorem dICab_72 : decode prog_2_method_1_code 72 = .ok (.iconst 5, 1) := by decide +kernel
theorem dICab_73 : decode prog_2_method_1_code 73 = .ok (.newarray .int, 2) := by decide +kernel
theorem dICab_75 : decode prog_2_method_1_code 75 = .ok (.putfield 43, 3) := by decide +kernel
theorem dICab_78 : decode prog_2_method_1_code 78 = .ok (.iconst 0, 1) := by decide +kernel
theorem dICab_79 : decode prog_2_method_1_code 79 = .ok (.istore_n 1, 1) := by decide +kernel
theorem dICab_80 : decode prog_2_method_1_code 80 = .ok (.iload_n 1, 1) := by decide +kernel
theorem dICab_81 : decode prog_2_method_1_code 81 = .ok (.iconst 5, 1) := by decide +kernel
theorem dICab_82 : decode prog_2_method_1_code 82 = .ok (.if_icmp .ge 23, 3) := by decide +kernel
theorem dICab_85 : decode prog_2_method_1_code 85 = .ok (.aload_n 0, 1) := by decide +kernel
theorem dICab_86 : decode prog_2_method_1_code 86 = .ok (.getfield 40, 3) := by decide +kernel
theorem dICab_89 : decode prog_2_method_1_code 89 = .ok (.iload_n 1, 1) := by decide +kernel
theorem dICab_90 : decode prog_2_method_1_code 90 = .ok (.iload_n 1, 1) := by decide +kernel
theorem dICab_91 : decode prog_2_method_1_code 91 = .ok (.iastore, 1) := by decide +kernel
theorem dICab_92 : decode prog_2_method_1_code 92 = .ok (.aload_n 0, 1) := by decide +kernel
theorem dICab_93 : decode prog_2_method_1_code 93 = .ok (.getfield 43, 3) := by decide +kernel
theorem dICab_96 : decode prog_2_method_1_code 96 = .ok (.iload_n 1, 1) := by decide +kernel
theorem dICab_97 : decode prog_2_method_1_code 97 = .ok (.iconst (-1), 1) := by decide +kernel
theorem dICab_98 : decode prog_2_method_1_code 98 = .ok (.iastore, 1) := by decide +kernel
theorem dICab_99 : decode prog_2_method_1_code 99 = .ok (.iinc 1 1, 3) := by decide +kernel
theorem dICab_102 : decode prog_2_method_1_code 102 = .ok (.goto (-22), 3) := by decide +kernel
theorem dICab_105 : decode prog_2_method_1_code 105 = .ok (.return_, 1) := by decide +kernel
abbrev nmICab : MethodName := ⟨"OnlyInDisguise$Cabinet", "<init>", "()V"⟩
abbrev wsICab : List Cond := .code nmICab prog_2_method_1_code 2 none :: aTbl
theorem good_ICab : GoodIn aTbl wsICab := by
  intro w hw
  have hw2 : w ∈ aTbl := (List.mem_cons.mp hw).elim (fun e => by rw [e]; exact in_aTbl 74 (by decide +kernel) rfl) id
  exact ⟨hw2, (aTbl_good w hw2).2⟩
theorem dIShe_0 : decode prog_6_method_1_code 0 = .ok (.aload_n 0, 1) := by decide +kernel
theorem dIShe_1 : decode prog_6_method_1_code 1 = .ok (.invokespecial 3, 3) := by decide +kernel
theorem dIShe_4 : decode prog_6_method_1_code 4 = .ok (.aload_n 0, 1) := by decide +kernel
theorem dIShe_5 : decode prog_6_method_1_code 5 = .ok (.bipush 8, 2) := by decide +kernel
theorem dIShe_7 : decode prog_6_method_1_code 7 = .ok (.newarray .int, 2) := by decide +kernel
theorem dIShe_9 : decode prog_6_method_1_code 9 = .ok (.putfield 11, 3) := by decide +kernel
theorem dIShe_12 : decode prog_6_method_1_code 12 = .ok (.aload_n 0, 1) := by decide +kernel
theorem dIShe_13 : decode prog_6_method_1_code 13 = .ok (.bipush 8, 2) := by decide +kernel
theorem dIShe_15 : decode prog_6_method_1_code 15 = .ok (.newarray .int, 2) := by decide +kernel
theorem dIShe_17 : decode prog_6_method_1_code 17 = .ok (.putfield 15, 3) := by decide +kernel
theorem dIShe_20 : decode prog_6_method_1_code 20 = .ok (.aload_n 0, 1) := by decide +kernel
theorem dIShe_21 : decode prog_6_method_1_code 21 = .ok (.bipush 8, 2) := by decide +kernel
theorem dIShe_23 : decode prog_6_method_1_code 23 = .ok (.newarray .int, 2) := by decide +kernel
theorem dIShe_25 : decode prog_6_method_1_code 25 = .ok (.putfield 18, 3) := by decide +kernel
theorem dIShe_28 : decode prog_6_method_1_code 28 = .ok (.aload_n 0, 1) := by decide +kernel
theorem dIShe_29 : decode prog_6_method_1_code 29 = .ok (.bipush 8, 2) := by decide +kernel
theorem dIShe_31 : decode prog_6_method_1_code 31 = .ok (.newarray .int, 2) := by decide +kernel
theorem dIShe_33 : decode prog_6_method_1_code 33 = .ok (.putfield 21, 3) := by decide +kernel
theorem dIShe_36 : decode prog_6_method_1_code 36 = .ok (.aload_n 0, 1) := by decide +kernel
theorem dIShe_37 : decode prog_6_method_1_code 37 = .ok (.bipush 8, 2) := by decide +kernel
theorem dIShe_39 : decode prog_6_method_1_code 39 = .ok (.newarray .int, 2) := by decide +kernel
theorem dIShe_41 : decode prog_6_method_1_code 41 = .ok (.putfield 24, 3) := by decide +kernel
theorem dIShe_44 : decode prog_6_method_1_code 44 = .ok (.aload_n 0, 1) := by decide +kernel
theorem dIShe_45 : decode prog_6_method_1_code 45 = .ok (.sipush 800, 3) := by decide +kernel
theorem dIShe_48 : decode prog_6_method_1_code 48 = .ok (.newarray .int, 2) := by decide +kernel
theorem dIShe_50 : decode prog_6_method_1_code 50 = .ok (.putfield 27, 3) := by decide +kernel
theorem dIShe_53 : decode prog_6_method_1_code 53 = .ok (.return_, 1) := by decide +kernel
abbrev nmIShe : MethodName := ⟨"OnlyInDisguise$Shelves", "<init>", "()V"⟩
abbrev wsIShe : List Cond := .code nmIShe prog_6_method_1_code 1 none :: aTbl
theorem good_IShe : GoodIn aTbl wsIShe := by
  intro w hw
  have hw2 : w ∈ aTbl := (List.mem_cons.mp hw).elim (fun e => by rw [e]; exact in_aTbl 130 (by decide +kernel) rfl) id
  exact ⟨hw2, (aTbl_good w hw2).2⟩
theorem dICas_0 : decode prog_3_method_1_code 0 = .ok (.aload_n 0, 1) := by decide +kernel
theorem dICas_1 : decode prog_3_method_1_code 1 = .ok (.invokespecial 3, 3) := by decide +kernel
theorem dICas_4 : decode prog_3_method_1_code 4 = .ok (.aload_n 0, 1) := by decide +kernel
theorem dICas_5 : decode prog_3_method_1_code 5 = .ok (.bipush 40, 2) := by decide +kernel
theorem dICas_7 : decode prog_3_method_1_code 7 = .ok (.newarray .int, 2) := by decide +kernel
theorem dICas_9 : decode prog_3_method_1_code 9 = .ok (.putfield 9, 3) := by decide +kernel
theorem dICas_12 : decode prog_3_method_1_code 12 = .ok (.aload_n 0, 1) := by decide +kernel
theorem dICas_13 : decode prog_3_method_1_code 13 = .ok (.sipush 1536, 3) := by decide +kernel
theorem dICas_16 : decode prog_3_method_1_code 16 = .ok (.newarray .int, 2) := by decide +kernel
theorem dICas_18 : decode prog_3_method_1_code 18 = .ok (.putfield 15, 3) := by decide +kernel
theorem dICas_21 : decode prog_3_method_1_code 21 = .ok (.aload_n 0, 1) := by decide +kernel
theorem dICas_22 : decode prog_3_method_1_code 22 = .ok (.iconst 0, 1) := by decide +kernel
theorem dICas_23 : decode prog_3_method_1_code 23 = .ok (.putfield 18, 3) := by decide +kernel
theorem dICas_26 : decode prog_3_method_1_code 26 = .ok (.return_, 1) := by decide +kernel
abbrev nmICas : MethodName := ⟨"OnlyInDisguise$Casting", "<init>", "()V"⟩
abbrev wsICas : List Cond := .code nmICas prog_3_method_1_code 1 none :: aTbl
theorem good_ICas : GoodIn aTbl wsICas := by
  intro w hw
  have hw2 : w ∈ aTbl := (List.mem_cons.mp hw).elim (fun e => by rw [e]; exact in_aTbl 155 (by decide +kernel) rfl) id
  exact ⟨hw2, (aTbl_good w hw2).2⟩
theorem dIDra_0 : decode prog_4_method_1_code 0 = .ok (.aload_n 0, 1) := by decide +kernel
theorem dIDra_1 : decode prog_4_method_1_code 1 = .ok (.invokespecial 1, 3) := by decide +kernel
theorem dIDra_4 : decode prog_4_method_1_code 4 = .ok (.aload_n 0, 1) := by decide +kernel
theorem dIDra_5 : decode prog_4_method_1_code 5 = .ok (.iconst 0, 1) := by decide +kernel
theorem dIDra_6 : decode prog_4_method_1_code 6 = .ok (.putfield 7, 3) := by decide +kernel
theorem dIDra_9 : decode prog_4_method_1_code 9 = .ok (.return_, 1) := by decide +kernel
abbrev nmIDra : MethodName := ⟨"OnlyInDisguise$Draws", "<init>", "()V"⟩
abbrev wsIDra : List Cond := .code nmIDra prog_4_method_1_code 1 none :: aTbl
theorem good_IDra : GoodIn aTbl wsIDra := by
  intro w hw
  have hw2 : w ∈ aTbl := (List.mem_cons.mp hw).elim (fun e => by rw [e]; exact in_aTbl 171 (by decide +kernel) rfl) id
  exact ⟨hw2, (aTbl_good w hw2).2⟩
theorem dICls_0 : decode prog_1_method_1_code 0 = .ok (.aload_n 0, 1) := by decide +kernel
theorem dICls_1 : decode prog_1_method_1_code 1 = .ok (.invokespecial 1, 3) := by decide +kernel
theorem dICls_4 : decode prog_1_method_1_code 4 = .ok (.aload_n 0, 1) := by decide +kernel
theorem dICls_5 : decode prog_1_method_1_code 5 = .ok (.new 7, 3) := by decide +kernel
theorem dICls_8 : decode prog_1_method_1_code 8 = .ok (.dup, 1) := by decide +kernel
theorem dICls_9 : decode prog_1_method_1_code 9 = .ok (.invokespecial 9, 3) := by decide +kernel
theorem dICls_12 : decode prog_1_method_1_code 12 = .ok (.putfield 10, 3) := by decide +kernel
theorem dICls_15 : decode prog_1_method_1_code 15 = .ok (.aload_n 0, 1) := by decide +kernel
theorem dICls_16 : decode prog_1_method_1_code 16 = .ok (.new 7, 3) := by decide +kernel
theorem dICls_19 : decode prog_1_method_1_code 19 = .ok (.dup, 1) := by decide +kernel
theorem dICls_20 : decode prog_1_method_1_code 20 = .ok (.invokespecial 9, 3) := by decide +kernel
theorem dICls_23 : decode prog_1_method_1_code 23 = .ok (.putfield 16, 3) := by decide +kernel
theorem dICls_26 : decode prog_1_method_1_code 26 = .ok (.aload_n 0, 1) := by decide +kernel
theorem dICls_27 : decode prog_1_method_1_code 27 = .ok (.new 7, 3) := by decide +kernel
theorem dICls_30 : decode prog_1_method_1_code 30 = .ok (.dup, 1) := by decide +kernel
theorem dICls_31 : decode prog_1_method_1_code 31 = .ok (.invokespecial 9, 3) := by decide +kernel
theorem dICls_34 : decode prog_1_method_1_code 34 = .ok (.putfield 19, 3) := by decide +kernel
theorem dICls_37 : decode prog_1_method_1_code 37 = .ok (.aload_n 0, 1) := by decide +kernel
theorem dICls_38 : decode prog_1_method_1_code 38 = .ok (.iconst 0, 1) := by decide +kernel
theorem dICls_39 : decode prog_1_method_1_code 39 = .ok (.putfield 22, 3) := by decide +kernel
theorem dICls_42 : decode prog_1_method_1_code 42 = .ok (.aload_n 0, 1) := by decide +kernel
theorem dICls_43 : decode prog_1_method_1_code 43 = .ok (.new 26, 3) := by decide +kernel
theorem dICls_46 : decode prog_1_method_1_code 46 = .ok (.dup, 1) := by decide +kernel
theorem dICls_47 : decode prog_1_method_1_code 47 = .ok (.invokespecial 28, 3) := by decide +kernel
theorem dICls_50 : decode prog_1_method_1_code 50 = .ok (.putfield 29, 3) := by decide +kernel
theorem dICls_53 : decode prog_1_method_1_code 53 = .ok (.aload_n 0, 1) := by decide +kernel
theorem dICls_54 : decode prog_1_method_1_code 54 = .ok (.new 33, 3) := by decide +kernel
theorem dICls_57 : decode prog_1_method_1_code 57 = .ok (.dup, 1) := by decide +kernel
theorem dICls_58 : decode prog_1_method_1_code 58 = .ok (.invokespecial 35, 3) := by decide +kernel
theorem dICls_61 : decode prog_1_method_1_code 61 = .ok (.putfield 36, 3) := by decide +kernel
theorem dICls_64 : decode prog_1_method_1_code 64 = .ok (.aload_n 0, 1) := by decide +kernel
theorem dICls_65 : decode prog_1_method_1_code 65 = .ok (.new 40, 3) := by decide +kernel
theorem dICls_68 : decode prog_1_method_1_code 68 = .ok (.dup, 1) := by decide +kernel
theorem dICls_69 : decode prog_1_method_1_code 69 = .ok (.invokespecial 42, 3) := by decide +kernel
theorem dICls_72 : decode prog_1_method_1_code 72 = .ok (.putfield 43, 3) := by decide +kernel
theorem dICls_75 : decode prog_1_method_1_code 75 = .ok (.aload_n 0, 1) := by decide +kernel
theorem dICls_76 : decode prog_1_method_1_code 76 = .ok (.iconst 4, 1) := by decide +kernel
theorem dICls_77 : decode prog_1_method_1_code 77 = .ok (.newarray .int, 2) := by decide +kernel
theorem dICls_79 : decode prog_1_method_1_code 79 = .ok (.putfield 47, 3) := by decide +kernel
theorem dICls_82 : decode prog_1_method_1_code 82 = .ok (.aload_n 0, 1) := by decide +kernel
theorem dICls_83 : decode prog_1_method_1_code 83 = .ok (.iconst 4, 1) := by decide +kernel
theorem dICls_84 : decode prog_1_method_1_code 84 = .ok (.newarray .int, 2) := by decide +kernel
theorem dICls_86 : decode prog_1_method_1_code 86 = .ok (.putfield 51, 3) := by decide +kernel
theorem dICls_89 : decode prog_1_method_1_code 89 = .ok (.return_, 1) := by decide +kernel
abbrev nmICls : MethodName := ⟨"OnlyInDisguise", "<init>", "()V"⟩
abbrev wsICls : List Cond := .code nmICls prog_1_method_1_code 1 none :: aTbl
theorem good_ICls : GoodIn aTbl wsICls := by
  intro w hw
  have hw2 : w ∈ aTbl := (List.mem_cons.mp hw).elim (fun e => by rw [e]; exact in_aTbl 66 (by decide +kernel) rfl) id
  exact ⟨hw2, (aTbl_good w hw2).2⟩
theorem dIMod_0 : decode prog_9_method_1_code 0 = .ok (.aload_n 0, 1) := by decide +kernel
theorem dIMod_1 : decode prog_9_method_1_code 1 = .ok (.invokespecial 1, 3) := by decide +kernel
theorem dIMod_4 : decode prog_9_method_1_code 4 = .ok (.aload_n 0, 1) := by decide +kernel
theorem dIMod_5 : decode prog_9_method_1_code 5 = .ok (.bipush 45, 2) := by decide +kernel
theorem dIMod_7 : decode prog_9_method_1_code 7 = .ok (.newarray .int, 2) := by decide +kernel
theorem dIMod_9 : decode prog_9_method_1_code 9 = .ok (.putfield 9, 3) := by decide +kernel
theorem dIMod_12 : decode prog_9_method_1_code 12 = .ok (.aload_n 0, 1) := by decide +kernel
theorem dIMod_13 : decode prog_9_method_1_code 13 = .ok (.bipush 45, 2) := by decide +kernel
theorem dIMod_15 : decode prog_9_method_1_code 15 = .ok (.newarray .int, 2) := by decide +kernel
theorem dIMod_17 : decode prog_9_method_1_code 17 = .ok (.putfield 13, 3) := by decide +kernel
theorem dIMod_20 : decode prog_9_method_1_code 20 = .ok (.aload_n 0, 1) := by decide +kernel
theorem dIMod_21 : decode prog_9_method_1_code 21 = .ok (.bipush 45, 2) := by decide +kernel
theorem dIMod_23 : decode prog_9_method_1_code 23 = .ok (.newarray .int, 2) := by decide +kernel
theorem dIMod_25 : decode prog_9_method_1_code 25 = .ok (.putfield 16, 3) := by decide +kernel
theorem dIMod_28 : decode prog_9_method_1_code 28 = .ok (.aload_n 0, 1) := by decide +kernel
theorem dIMod_29 : decode prog_9_method_1_code 29 = .ok (.bipush 45, 2) := by decide +kernel
theorem dIMod_31 : decode prog_9_method_1_code 31 = .ok (.newarray .int, 2) := by decide +kernel
theorem dIMod_33 : decode prog_9_method_1_code 33 = .ok (.putfield 19, 3) := by decide +kernel
theorem dIMod_36 : decode prog_9_method_1_code 36 = .ok (.aload_n 0, 1) := by decide +kernel
theorem dIMod_37 : decode prog_9_method_1_code 37 = .ok (.iconst 3, 1) := by decide +kernel
theorem dIMod_38 : decode prog_9_method_1_code 38 = .ok (.newarray .int, 2) := by decide +kernel
theorem dIMod_40 : decode prog_9_method_1_code 40 = .ok (.putfield 22, 3) := by decide +kernel
theorem dIMod_43 : decode prog_9_method_1_code 43 = .ok (.aload_n 0, 1) := by decide +kernel
theorem dIMod_44 : decode prog_9_method_1_code 44 = .ok (.bipush 40, 2) := by decide +kernel
theorem dIMod_46 : decode prog_9_method_1_code 46 = .ok (.newarray .int, 2) := by decide +kernel
theorem dIMod_48 : decode prog_9_method_1_code 48 = .ok (.putfield 25, 3) := by decide +kernel
theorem dIMod_51 : decode prog_9_method_1_code 51 = .ok (.aload_n 0, 1) := by decide +kernel
theorem dIMod_52 : decode prog_9_method_1_code 52 = .ok (.sipush 1536, 3) := by decide +kernel
theorem dIMod_55 : decode prog_9_method_1_code 55 = .ok (.newarray .int, 2) := by decide +kernel
theorem dIMod_57 : decode prog_9_method_1_code 57 = .ok (.putfield 28, 3) := by decide +kernel
theorem dIMod_60 : decode prog_9_method_1_code 60 = .ok (.aload_n 0, 1) := by decide +kernel
theorem dIMod_61 : decode prog_9_method_1_code 61 = .ok (.bipush 8, 2) := by decide +kernel
theorem dIMod_63 : decode prog_9_method_1_code 63 = .ok (.newarray .int, 2) := by decide +kernel
theorem dIMod_65 : decode prog_9_method_1_code 65 = .ok (.putfield 31, 3) := by decide +kernel
theorem dIMod_68 : decode prog_9_method_1_code 68 = .ok (.aload_n 0, 1) := by decide +kernel
theorem dIMod_69 : decode prog_9_method_1_code 69 = .ok (.bipush 8, 2) := by decide +kernel
theorem dIMod_71 : decode prog_9_method_1_code 71 = .ok (.newarray .int, 2) := by decide +kernel
theorem dIMod_73 : decode prog_9_method_1_code 73 = .ok (.putfield 34, 3) := by decide +kernel
theorem dIMod_76 : decode prog_9_method_1_code 76 = .ok (.aload_n 0, 1) := by decide +kernel
theorem dIMod_77 : decode prog_9_method_1_code 77 = .ok (.bipush 8, 2) := by decide +kernel
theorem dIMod_79 : decode prog_9_method_1_code 79 = .ok (.newarray .int, 2) := by decide +kernel
theorem dIMod_81 : decode prog_9_method_1_code 81 = .ok (.putfield 37, 3) := by decide +kernel
theorem dIMod_84 : decode prog_9_method_1_code 84 = .ok (.aload_n 0, 1) := by decide +kernel
theorem dIMod_85 : decode prog_9_method_1_code 85 = .ok (.bipush 8, 2) := by decide +kernel
theorem dIMod_87 : decode prog_9_method_1_code 87 = .ok (.newarray .int, 2) := by decide +kernel
theorem dIMod_89 : decode prog_9_method_1_code 89 = .ok (.putfield 40, 3) := by decide +kernel
theorem dIMod_92 : decode prog_9_method_1_code 92 = .ok (.aload_n 0, 1) := by decide +kernel
theorem dIMod_93 : decode prog_9_method_1_code 93 = .ok (.bipush 8, 2) := by decide +kernel
theorem dIMod_95 : decode prog_9_method_1_code 95 = .ok (.newarray .int, 2) := by decide +kernel
theorem dIMod_97 : decode prog_9_method_1_code 97 = .ok (.putfield 43, 3) := by decide +kernel
theorem dIMod_100 : decode prog_9_method_1_code 100 = .ok (.aload_n 0, 1) := by decide +kernel
theorem dIMod_101 : decode prog_9_method_1_code 101 = .ok (.sipush 800, 3) := by decide +kernel
theorem dIMod_104 : decode prog_9_method_1_code 104 = .ok (.newarray .int, 2) := by decide +kernel
theorem dIMod_106 : decode prog_9_method_1_code 106 = .ok (.putfield 46, 3) := by decide +kernel
theorem dIMod_109 : decode prog_9_method_1_code 109 = .ok (.iconst 0, 1) := by decide +kernel
theorem dIMod_110 : decode prog_9_method_1_code 110 = .ok (.istore_n 1, 1) := by decide +kernel
theorem dIMod_111 : decode prog_9_method_1_code 111 = .ok (.iload_n 1, 1) := by decide +kernel
theorem dIMod_112 : decode prog_9_method_1_code 112 = .ok (.iconst 5, 1) := by decide +kernel
theorem dIMod_113 : decode prog_9_method_1_code 113 = .ok (.if_icmp .ge 29, 3) := by decide +kernel
theorem dIMod_116 : decode prog_9_method_1_code 116 = .ok (.aload_n 0, 1) := by decide +kernel
theorem dIMod_117 : decode prog_9_method_1_code 117 = .ok (.getfield 9, 3) := by decide +kernel
theorem dIMod_120 : decode prog_9_method_1_code 120 = .ok (.iconst 3, 1) := by decide +kernel
theorem dIMod_121 : decode prog_9_method_1_code 121 = .ok (.iload_n 1, 1) := by decide +kernel
theorem dIMod_122 : decode prog_9_method_1_code 122 = .ok (.iadd, 1) := by decide +kernel
theorem dIMod_123 : decode prog_9_method_1_code 123 = .ok (.iload_n 1, 1) := by decide +kernel
theorem dIMod_124 : decode prog_9_method_1_code 124 = .ok (.iastore, 1) := by decide +kernel
theorem dIMod_125 : decode prog_9_method_1_code 125 = .ok (.aload_n 0, 1) := by decide +kernel
theorem dIMod_126 : decode prog_9_method_1_code 126 = .ok (.getfield 9, 3) := by decide +kernel
theorem dIMod_129 : decode prog_9_method_1_code 129 = .ok (.bipush 8, 2) := by decide +kernel
theorem dIMod_131 : decode prog_9_method_1_code 131 = .ok (.iload_n 1, 1) := by decide +kernel
theorem dIMod_132 : decode prog_9_method_1_code 132 = .ok (.iadd, 1) := by decide +kernel
theorem dIMod_133 : decode prog_9_method_1_code 133 = .ok (.bipush (-4), 2) := by decide +kernel
theorem dIMod_135 : decode prog_9_method_1_code 135 = .ok (.iastore, 1) := by decide +kernel
theorem dIMod_136 : decode prog_9_method_1_code 136 = .ok (.iinc 1 1, 3) := by decide +kernel
theorem dIMod_139 : decode prog_9_method_1_code 139 = .ok (.goto (-28), 3) := by decide +kernel
theorem dIMod_142 : decode prog_9_method_1_code 142 = .ok (.return_, 1) := by decide +kernel
abbrev nmIMod : MethodName := ⟨"OnlyInDisguiseModel", "<init>", "()V"⟩
abbrev wsIMod : List Cond := .code nmIMod prog_9_method_1_code 2 none :: aTbl
theorem good_IMod : GoodIn aTbl wsIMod := by
  intro w hw
  have hw2 : w ∈ aTbl := (List.mem_cons.mp hw).elim (fun e => by rw [e]; exact in_aTbl 844 (by decide +kernel) rfl) id
  exact ⟨hw2, (aTbl_good w hw2).2⟩
def iNq : List (String × Nat × MethodName × String) := [("OnlyInDisguise", 28, nmIShe, "OnlyInDisguise"), ("OnlyInDisguise", 35, nmICas, "OnlyInDisguise"), ("OnlyInDisguise", 42, nmIDra, "OnlyInDisguise")]
def iNe (U : State) : Prop := ∀ q ∈ iNq, va_Nw (.methodLinkNest q.1 q.2.1 q.2.2.1 q.2.2.2) U
theorem iNe_warm {s U : State} (hW : s.WarmedH U.vm) (h : iNe s) : iNe U := fun q hq => va_Nw.warmM hW (h q hq)
theorem iNe_same {s U : State} (hv : s.vm = U.vm) (h : iNe s) : iNe U := fun q hq => va_Nw.same rfl hv (h q hq)
theorem fX0 : ∀ j, j < 11 → defaultValue (tyX0 j) = vp_V [.int 0, .int 0, .int 0, .int 0, .null, .null, .null, .null, .null, .null, .null] j := by
  intro j hj
  rcases (show j = 0 ∨ j = 1 ∨ j = 2 ∨ j = 3 ∨ j = 4 ∨ j = 5 ∨ j = 6 ∨ j = 7 ∨ j = 8 ∨ j = 9 ∨ j = 10 by omega) with rfl | rfl | rfl | rfl | rfl | rfl | rfl | rfl | rfl | rfl | rfl <;> rfl
theorem fX4 : ∀ j, j < 6 → defaultValue (tyX4 j) = vp_V [.null, .null, .null, .null, .null, .null] j := by
  intro j hj
  rcases (show j = 0 ∨ j = 1 ∨ j = 2 ∨ j = 3 ∨ j = 4 ∨ j = 5 by omega) with rfl | rfl | rfl | rfl | rfl | rfl <;> rfl
theorem fX1 : ∀ j, j < 3 → defaultValue (tyX1 j) = vp_V [.null, .null, .int 0] j := by
  intro j hj
  rcases (show j = 0 ∨ j = 1 ∨ j = 2 by omega) with rfl | rfl | rfl <;> rfl
theorem fX2 : ∀ j, j < 1 → defaultValue (tyX2 j) = vp_V [.int 0] j := by
  intro j hj
  rcases (show j = 0 by omega) with rfl <;> rfl
theorem fX6 : ∀ j, j < 9 → defaultValue (tyX6 j) = vp_V [.null, .null, .null, .int 0, .null, .null, .null, .null, .null] j := by
  intro j hj
  rcases (show j = 0 ∨ j = 1 ∨ j = 2 ∨ j = 3 ∨ j = 4 ∨ j = 5 ∨ j = 6 ∨ j = 7 ∨ j = 8 by omega) with rfl | rfl | rfl | rfl | rfl | rfl | rfl | rfl | rfl <;> rfl
theorem fX7 : ∀ j, j < 19 → defaultValue (tyX7 j) = vp_V [.null, .null, .null, .null, .int 0, .int 0, .int 0, .int 0, .null, .null, .null, .int 0, .null, .null, .null, .null, .null, .null, .int 0] j := by
  intro j hj
  rcases (show j = 0 ∨ j = 1 ∨ j = 2 ∨ j = 3 ∨ j = 4 ∨ j = 5 ∨ j = 6 ∨ j = 7 ∨ j = 8 ∨ j = 9 ∨ j = 10 ∨ j = 11 ∨ j = 12 ∨ j = 13 ∨ j = 14 ∨ j = 15 ∨ j = 16 ∨ j = 17 ∨ j = 18 by omega) with rfl | rfl | rfl | rfl | rfl | rfl | rfl | rfl | rfl | rfl | rfl | rfl | rfl | rfl | rfl | rfl | rfl | rfl | rfl <;> rfl
set_option maxHeartbeats 4000000 in
set_option maxRecDepth 100000 in
theorem i_Cab (l : Launch) (D : va_G) (cA : ClassId) (h0 sz : Nat) : Met l nmICab wsICab { frames := 1, cells := 7, slots := 50, locals := 12 } (va_Pc [.ref h0] (fun U => U.heap.size = sz ∧ va_P D aCl [(h0, .inr (0, [.int 0, .int 0, .int 0, .int 0, .null, .null, .null, .null, .null, .null, .null]))] U.heap ∧ va_K D aCl [(cA, .int)] U ∧ va_D (fun _ => True) [(h0, .inr (0, [.int 0, .int 0, .int 0, .int 0, .null, .null, .null, .null, .null, .null, .null]))])) (va_Qv (fun _ : Nat → Nat => True) (fun u t => va_P D aCl (kCab cA h0 u) t.heap ∧ va_D (va_A [(h0, .inr (0, [.int 0, .int 0, .int 0, .int 0, .null, .null, .null, .null, .null, .null, .null]))] sz) (kCab cA h0 u)) (va_A [(h0, .inr (0, [.int 0, .int 0, .int 0, .int 0, .null, .null, .null, .null, .null, .null, .null]))] sz)) 7 50 (va_A [(h0, .inr (0, [.int 0, .int 0, .int 0, .int 0, .null, .null, .null, .null, .null, .null, .null]))] sz) := by
  refine Met.ofW (cc := prog_2_method_1_code) (maxL := 2) (ret := none) (by decide) rfl ?_
  intro p e s m args below meth c s₁ B hml hv
  obtain ⟨rfl, hsz, hP, hK, hD0⟩ := hv
  have hx := B.exec
  have hb := B.bytes
  have hr := B.returns
  have hts := atoms_spec (ws := wsICab) B.pre
  have hws : ∀ w ∈ aTbl, w.before _ s = true := fun w hw => hts w (List.mem_cons_of_mem _ hw)
  have hown : s.vm.findClass "OnlyInDisguise$Cabinet" = some m.cls := findClass_of_methodNamed B.named
  have hlocks := B.notSynchronized
  have hin : meth.name = "<init>" := (name_of_methodNamed B.named B.method).1
  subst hsz
  have hD := hD0.self (sz := s.heap.size)
  generalize hAe : va_A [(h0, .inr (0, [.int 0, .int 0, .int 0, .int 0, .null, .null, .null, .null, .null, .null, .null]))] s.heap.size = A at hD ⊢
  have hA : ∀ q : Nat, s.heap.size ≤ q → A q := fun q h => by rw [← hAe]; exact Or.inr h
  have hS : va_S A s.heap s.heap [] := va_S.rf
  have hl := lv_entry ([.ref h0]) (n := 2) (Nat.le_of_ble_eq_true rfl)
  rw [lg_entry_eq]
  generalize (lg_sl ([.ref h0]) ++ List.replicate (2 - (lg_sl ([.ref h0])).length) Slot.unset).toArray = ls at hl ⊢
  have hl : lv_has ls 2 [(0, .ref h0)] := hl
  generalize hRR : (headSpec wsICab { frames := 1, cells := 7, slots := 50, locals := 12 }).room = RR
  have hR1 : RR.frames = 1 ∧ RR.cells = 7 ∧ RR.slots = 50 ∧ RR.locals = 12 := by subst hRR; exact ⟨rfl, rfl, rfl, rfl⟩
  refine lv_aload_n hx hb dICab_0 rfl (lv_at hl 0 rfl) ?_
  refine W.objInit hx hb hown (hws _ (in_aTbl 75 (by decide +kernel) rfl)) (hws _ (in_aTbl 68 (by decide +kernel) rfl)) (hws _ (in_aTbl 69 (by decide +kernel) rfl)) rfl (by rw [hml]; exact hl.1) rfl dICab_1 (by omega) (by show 0 + 12 ≤ RR.locals; omega) ?_
  refine W.eq (g2 := F0 m 4 ls []) rfl ?_
  refine lv_aload_n hx hb dICab_4 rfl (lv_at hl 0 rfl) ?_
  refine lv_iconst (v := 0) hx hb dICab_5 (by decide) ?_
  refine va_put (D := D) (ci := 0) (v := .int 0) (ty := .int) (own := "OnlyInDisguise$Cabinet") (ref := "OnlyInDisguise$Cabinet") (C := RX0) (T := TX0) (N := 11) hx hb hws iaX0 tyX0 tyX0_ok nmX0 hown hK hP hD hS 0 rfl rfl 0 (by decide) (hws _ (in_aTbl 76 (by decide +kernel) rfl)) (fun _ h => h) rfl (by decide +kernel) rfl rfl (Nat.le_of_ble_eq_true rfl) dICab_6 (fun H locs hP hD hS => ?_)
  have hP : va_P D aCl [(h0, .inr (0, [.int 0, .int 0, .int 0, .int 0, .null, .null, .null, .null, .null, .null, .null]))] H := hP
  have hD : va_D A [(h0, .inr (0, [.int 0, .int 0, .int 0, .int 0, .null, .null, .null, .null, .null, .null, .null]))] := hD
  refine lv_aload_n hx hb dICab_9 rfl (lv_at hl 0 rfl) ?_
  refine lv_iconst (v := 0) hx hb dICab_10 (by decide) ?_
  refine va_put (D := D) (ci := 0) (v := .int 0) (ty := .int) (own := "OnlyInDisguise$Cabinet") (ref := "OnlyInDisguise$Cabinet") (C := RX0) (T := TX0) (N := 11) hx hb hws iaX0 tyX0 tyX0_ok nmX0 hown hK hP hD hS 0 rfl rfl 1 (by decide) (hws _ (in_aTbl 79 (by decide +kernel) rfl)) (fun _ h => h) rfl (by decide +kernel) rfl rfl (Nat.le_of_ble_eq_true rfl) dICab_11 (fun H locs hP hD hS => ?_)
  have hP : va_P D aCl [(h0, .inr (0, [.int 0, .int 0, .int 0, .int 0, .null, .null, .null, .null, .null, .null, .null]))] H := hP
  have hD : va_D A [(h0, .inr (0, [.int 0, .int 0, .int 0, .int 0, .null, .null, .null, .null, .null, .null, .null]))] := hD
  refine lv_aload_n hx hb dICab_14 rfl (lv_at hl 0 rfl) ?_
  refine lv_iconst (v := 0) hx hb dICab_15 (by decide) ?_
  refine va_put (D := D) (ci := 0) (v := .int 0) (ty := .int) (own := "OnlyInDisguise$Cabinet") (ref := "OnlyInDisguise$Cabinet") (C := RX0) (T := TX0) (N := 11) hx hb hws iaX0 tyX0 tyX0_ok nmX0 hown hK hP hD hS 0 rfl rfl 2 (by decide) (hws _ (in_aTbl 82 (by decide +kernel) rfl)) (fun _ h => h) rfl (by decide +kernel) rfl rfl (Nat.le_of_ble_eq_true rfl) dICab_16 (fun H locs hP hD hS => ?_)
  have hP : va_P D aCl [(h0, .inr (0, [.int 0, .int 0, .int 0, .int 0, .null, .null, .null, .null, .null, .null, .null]))] H := hP
  have hD : va_D A [(h0, .inr (0, [.int 0, .int 0, .int 0, .int 0, .null, .null, .null, .null, .null, .null, .null]))] := hD
  refine lv_aload_n hx hb dICab_19 rfl (lv_at hl 0 rfl) ?_
  refine lv_iconst (v := 0) hx hb dICab_20 (by decide) ?_
  refine va_put (D := D) (ci := 0) (v := .int 0) (ty := .int) (own := "OnlyInDisguise$Cabinet") (ref := "OnlyInDisguise$Cabinet") (C := RX0) (T := TX0) (N := 11) hx hb hws iaX0 tyX0 tyX0_ok nmX0 hown hK hP hD hS 0 rfl rfl 3 (by decide) (hws _ (in_aTbl 84 (by decide +kernel) rfl)) (fun _ h => h) rfl (by decide +kernel) rfl rfl (Nat.le_of_ble_eq_true rfl) dICab_21 (fun H locs hP hD hS => ?_)
  have hP : va_P D aCl [(h0, .inr (0, [.int 0, .int 0, .int 0, .int 0, .null, .null, .null, .null, .null, .null, .null]))] H := hP
  have hD : va_D A [(h0, .inr (0, [.int 0, .int 0, .int 0, .int 0, .null, .null, .null, .null, .null, .null, .null]))] := hD
  refine lv_aload_n hx hb dICab_24 rfl (lv_at hl 0 rfl) ?_
  refine lv_bipush (v := 8) hx hb dICab_25 (by decide) ?_
  refine z_arr (C := RX0) (T := TX0) (N := 11) (ci := 0) 8 4 hx hb hws hown hin hK hP hD hS hA (by decide) (by decide) (Nat.le_of_ble_eq_true rfl) (by omega) (by omega) dICab_27 iaX0 tyX0 tyX0_ok nmX0 rfl (by decide) (in_aTbl 86 (by decide +kernel) rfl) rfl rfl (by decide +kernel) (Nat.le_of_ble_eq_true rfl) dICab_29 (fun q27 H locs hP hD hS => ?_)
  have hP : va_P D aCl [(h0, .inr (0, [.int 0, .int 0, .int 0, .int 0, .ref q27, .null, .null, .null, .null, .null, .null])), (q27, zA cA 8)] H := hP
  have hD : va_D A [(h0, .inr (0, [.int 0, .int 0, .int 0, .int 0, .ref q27, .null, .null, .null, .null, .null, .null])), (q27, zA cA 8)] := hD
  refine lv_aload_n hx hb dICab_32 rfl (lv_at hl 0 rfl) ?_
  refine lv_bipush (v := 8) hx hb dICab_33 (by decide) ?_
  refine z_arr (C := RX0) (T := TX0) (N := 11) (ci := 0) 8 5 hx hb hws hown hin hK hP hD hS hA (by decide) (by decide) (Nat.le_of_ble_eq_true rfl) (by omega) (by omega) dICab_35 iaX0 tyX0 tyX0_ok nmX0 rfl (by decide) (in_aTbl 88 (by decide +kernel) rfl) rfl rfl (by decide +kernel) (Nat.le_of_ble_eq_true rfl) dICab_37 (fun q35 H locs hP hD hS => ?_)
  have hP : va_P D aCl [(h0, .inr (0, [.int 0, .int 0, .int 0, .int 0, .ref q27, .ref q35, .null, .null, .null, .null, .null])), (q27, zA cA 8), (q35, zA cA 8)] H := hP
  have hD : va_D A [(h0, .inr (0, [.int 0, .int 0, .int 0, .int 0, .ref q27, .ref q35, .null, .null, .null, .null, .null])), (q27, zA cA 8), (q35, zA cA 8)] := hD
  refine lv_aload_n hx hb dICab_40 rfl (lv_at hl 0 rfl) ?_
  refine lv_bipush (v := 8) hx hb dICab_41 (by decide) ?_
  refine z_arr (C := RX0) (T := TX0) (N := 11) (ci := 0) 8 6 hx hb hws hown hin hK hP hD hS hA (by decide) (by decide) (Nat.le_of_ble_eq_true rfl) (by omega) (by omega) dICab_43 iaX0 tyX0 tyX0_ok nmX0 rfl (by decide) (in_aTbl 90 (by decide +kernel) rfl) rfl rfl (by decide +kernel) (Nat.le_of_ble_eq_true rfl) dICab_45 (fun q43 H locs hP hD hS => ?_)
  have hP : va_P D aCl [(h0, .inr (0, [.int 0, .int 0, .int 0, .int 0, .ref q27, .ref q35, .ref q43, .null, .null, .null, .null])), (q27, zA cA 8), (q35, zA cA 8), (q43, zA cA 8)] H := hP
  have hD : va_D A [(h0, .inr (0, [.int 0, .int 0, .int 0, .int 0, .ref q27, .ref q35, .ref q43, .null, .null, .null, .null])), (q27, zA cA 8), (q35, zA cA 8), (q43, zA cA 8)] := hD
  refine lv_aload_n hx hb dICab_48 rfl (lv_at hl 0 rfl) ?_
  refine lv_bipush (v := 8) hx hb dICab_49 (by decide) ?_
  refine z_arr (C := RX0) (T := TX0) (N := 11) (ci := 0) 8 7 hx hb hws hown hin hK hP hD hS hA (by decide) (by decide) (Nat.le_of_ble_eq_true rfl) (by omega) (by omega) dICab_51 iaX0 tyX0 tyX0_ok nmX0 rfl (by decide) (in_aTbl 93 (by decide +kernel) rfl) rfl rfl (by decide +kernel) (Nat.le_of_ble_eq_true rfl) dICab_53 (fun q51 H locs hP hD hS => ?_)
  have hP : va_P D aCl [(h0, .inr (0, [.int 0, .int 0, .int 0, .int 0, .ref q27, .ref q35, .ref q43, .ref q51, .null, .null, .null])), (q27, zA cA 8), (q35, zA cA 8), (q43, zA cA 8), (q51, zA cA 8)] H := hP
  have hD : va_D A [(h0, .inr (0, [.int 0, .int 0, .int 0, .int 0, .ref q27, .ref q35, .ref q43, .ref q51, .null, .null, .null])), (q27, zA cA 8), (q35, zA cA 8), (q43, zA cA 8), (q51, zA cA 8)] := hD
  refine lv_aload_n hx hb dICab_56 rfl (lv_at hl 0 rfl) ?_
  refine lv_bipush (v := 8) hx hb dICab_57 (by decide) ?_
  refine z_arr (C := RX0) (T := TX0) (N := 11) (ci := 0) 8 8 hx hb hws hown hin hK hP hD hS hA (by decide) (by decide) (Nat.le_of_ble_eq_true rfl) (by omega) (by omega) dICab_59 iaX0 tyX0 tyX0_ok nmX0 rfl (by decide) (in_aTbl 95 (by decide +kernel) rfl) rfl rfl (by decide +kernel) (Nat.le_of_ble_eq_true rfl) dICab_61 (fun q59 H locs hP hD hS => ?_)
  have hP : va_P D aCl [(h0, .inr (0, [.int 0, .int 0, .int 0, .int 0, .ref q27, .ref q35, .ref q43, .ref q51, .ref q59, .null, .null])), (q27, zA cA 8), (q35, zA cA 8), (q43, zA cA 8), (q51, zA cA 8), (q59, zA cA 8)] H := hP
  have hD : va_D A [(h0, .inr (0, [.int 0, .int 0, .int 0, .int 0, .ref q27, .ref q35, .ref q43, .ref q51, .ref q59, .null, .null])), (q27, zA cA 8), (q35, zA cA 8), (q43, zA cA 8), (q51, zA cA 8), (q59, zA cA 8)] := hD
  refine lv_aload_n hx hb dICab_64 rfl (lv_at hl 0 rfl) ?_
  refine lv_iconst (v := 5) hx hb dICab_65 (by decide) ?_
  refine z_arr (C := RX0) (T := TX0) (N := 11) (ci := 0) 5 9 hx hb hws hown hin hK hP hD hS hA (by decide) (by decide) (Nat.le_of_ble_eq_true rfl) (by omega) (by omega) dICab_66 iaX0 tyX0 tyX0_ok nmX0 rfl (by decide) (in_aTbl 97 (by decide +kernel) rfl) rfl rfl (by decide +kernel) (Nat.le_of_ble_eq_true rfl) dICab_68 (fun q66 H locs hP hD hS => ?_)
  have hP : va_P D aCl [(h0, .inr (0, [.int 0, .int 0, .int 0, .int 0, .ref q27, .ref q35, .ref q43, .ref q51, .ref q59, .ref q66, .null])), (q27, zA cA 8), (q35, zA cA 8), (q43, zA cA 8), (q51, zA cA 8), (q59, zA cA 8), (q66, zA cA 5)] H := hP
  have hD : va_D A [(h0, .inr (0, [.int 0, .int 0, .int 0, .int 0, .ref q27, .ref q35, .ref q43, .ref q51, .ref q59, .ref q66, .null])), (q27, zA cA 8), (q35, zA cA 8), (q43, zA cA 8), (q51, zA cA 8), (q59, zA cA 8), (q66, zA cA 5)] := hD
  refine lv_aload_n hx hb dICab_71 rfl (lv_at hl 0 rfl) ?_
  refine lv_iconst (v := 5) hx hb dICab_72 (by decide) ?_
  refine z_arr (C := RX0) (T := TX0) (N := 11) (ci := 0) 5 10 hx hb hws hown hin hK hP hD hS hA (by decide) (by decide) (Nat.le_of_ble_eq_true rfl) (by omega) (by omega) dICab_73 iaX0 tyX0 tyX0_ok nmX0 rfl (by decide) (in_aTbl 100 (by decide +kernel) rfl) rfl rfl (by decide +kernel) (Nat.le_of_ble_eq_true rfl) dICab_75 (fun q73 H locs hP hD hS => ?_)
  have hP : va_P D aCl [(h0, .inr (0, [.int 0, .int 0, .int 0, .int 0, .ref q27, .ref q35, .ref q43, .ref q51, .ref q59, .ref q66, .ref q73])), (q27, zA cA 8), (q35, zA cA 8), (q43, zA cA 8), (q51, zA cA 8), (q59, zA cA 8), (q66, zA cA 5), (q73, zA cA 5)] H := hP
  have hD : va_D A [(h0, .inr (0, [.int 0, .int 0, .int 0, .int 0, .ref q27, .ref q35, .ref q43, .ref q51, .ref q59, .ref q66, .ref q73])), (q27, zA cA 8), (q35, zA cA 8), (q43, zA cA 8), (q51, zA cA 8), (q59, zA cA 8), (q66, zA cA 5), (q73, zA cA 5)] := hD
  refine lv_iconst (v := 0) hx hb dICab_78 (by decide) ?_
  refine lv_istore_n (lv' := [(1, .int 0), (0, .ref h0)]) hx hb dICab_79 rfl hl (by decide) rfl (fun ls hl => ?_)
  refine lv_iload_n hx hb dICab_80 rfl (lv_at hl 0 rfl) ?_
  refine lv_iconst (v := 5) hx hb dICab_81 (by decide) ?_
  refine lv_icmp_ge (tgt := 105) hx hb dICab_82 (by decide) (fun h => absurd h (by decide)) (fun _ => ?_)
  refine lv_aload_n hx hb dICab_85 rfl (lv_at hl 1 rfl) ?_
  refine va_get (D := D) (ci := 0) (v := .ref q66) (own := "OnlyInDisguise$Cabinet") (ref := "OnlyInDisguise$Cabinet") (C := RX0) (T := TX0) (N := 11) hx hb hws iaX0 hown hK hP 0 rfl rfl 9 (by decide) (hws _ (in_aTbl 97 (by decide +kernel) rfl)) (fun _ h => h) rfl dICab_86 ?_
  refine lv_iload_n hx hb dICab_89 rfl (lv_at hl 0 rfl) ?_
  refine lv_iload_n hx hb dICab_90 rfl (lv_at hl 0 rfl) ?_
  refine va_iast hx hb hK hP hD hS 6 0 rfl rfl (by show ¬ (_ ∨ _); decide) dICab_91 (fun H locs hP hD hS => ?_)
  have hP : va_P D aCl [(h0, .inr (0, [.int 0, .int 0, .int 0, .int 0, .ref q27, .ref q35, .ref q43, .ref q51, .ref q59, .ref q66, .ref q73])), (q27, zA cA 8), (q35, zA cA 8), (q43, zA cA 8), (q51, zA cA 8), (q59, zA cA 8), (q66, .inl (cA, 5, .inl (upd (fun _ => Int32.ofInt 0) (0 : Int32).toNatClampNeg 0))), (q73, zA cA 5)] H := hP
  have hD : va_D A [(h0, .inr (0, [.int 0, .int 0, .int 0, .int 0, .ref q27, .ref q35, .ref q43, .ref q51, .ref q59, .ref q66, .ref q73])), (q27, zA cA 8), (q35, zA cA 8), (q43, zA cA 8), (q51, zA cA 8), (q59, zA cA 8), (q66, .inl (cA, 5, .inl (upd (fun _ => Int32.ofInt 0) (0 : Int32).toNatClampNeg 0))), (q73, zA cA 5)] := hD
  refine lv_aload_n hx hb dICab_92 rfl (lv_at hl 1 rfl) ?_
  refine va_get (D := D) (ci := 0) (v := .ref q73) (own := "OnlyInDisguise$Cabinet") (ref := "OnlyInDisguise$Cabinet") (C := RX0) (T := TX0) (N := 11) hx hb hws iaX0 hown hK hP 0 rfl rfl 10 (by decide) (hws _ (in_aTbl 100 (by decide +kernel) rfl)) (fun _ h => h) rfl dICab_93 ?_
  refine lv_iload_n hx hb dICab_96 rfl (lv_at hl 0 rfl) ?_
  refine lv_iconst (v := (-1)) hx hb dICab_97 (by decide) ?_
  refine va_iast hx hb hK hP hD hS 7 0 rfl rfl (by show ¬ (_ ∨ _); decide) dICab_98 (fun H locs hP hD hS => ?_)
  have hP : va_P D aCl [(h0, .inr (0, [.int 0, .int 0, .int 0, .int 0, .ref q27, .ref q35, .ref q43, .ref q51, .ref q59, .ref q66, .ref q73])), (q27, zA cA 8), (q35, zA cA 8), (q43, zA cA 8), (q51, zA cA 8), (q59, zA cA 8), (q66, .inl (cA, 5, .inl (upd (fun _ => Int32.ofInt 0) (0 : Int32).toNatClampNeg 0))), (q73, .inl (cA, 5, .inl (upd (fun _ => Int32.ofInt 0) (0 : Int32).toNatClampNeg (-1))))] H := hP
  have hD : va_D A [(h0, .inr (0, [.int 0, .int 0, .int 0, .int 0, .ref q27, .ref q35, .ref q43, .ref q51, .ref q59, .ref q66, .ref q73])), (q27, zA cA 8), (q35, zA cA 8), (q43, zA cA 8), (q51, zA cA 8), (q59, zA cA 8), (q66, .inl (cA, 5, .inl (upd (fun _ => Int32.ofInt 0) (0 : Int32).toNatClampNeg 0))), (q73, .inl (cA, 5, .inl (upd (fun _ => Int32.ofInt 0) (0 : Int32).toNatClampNeg (-1))))] := hD
  refine lv_iinc (v := 1) (lv' := [(1, .int 1), (0, .ref h0)]) hx hb dICab_99 hl (k := 0) rfl (by decide) (by decide) rfl (fun ls hl => ?_)
  refine lv_goto (tgt := 80) hx hb dICab_102 (by decide) ?_
  refine lv_iload_n hx hb dICab_80 rfl (lv_at hl 0 rfl) ?_
  refine lv_iconst (v := 5) hx hb dICab_81 (by decide) ?_
  refine lv_icmp_ge (tgt := 105) hx hb dICab_82 (by decide) (fun h => absurd h (by decide)) (fun _ => ?_)
  refine lv_aload_n hx hb dICab_85 rfl (lv_at hl 1 rfl) ?_
  refine va_get (D := D) (ci := 0) (v := .ref q66) (own := "OnlyInDisguise$Cabinet") (ref := "OnlyInDisguise$Cabinet") (C := RX0) (T := TX0) (N := 11) hx hb hws iaX0 hown hK hP 0 rfl rfl 9 (by decide) (hws _ (in_aTbl 97 (by decide +kernel) rfl)) (fun _ h => h) rfl dICab_86 ?_
  refine lv_iload_n hx hb dICab_89 rfl (lv_at hl 0 rfl) ?_
  refine lv_iload_n hx hb dICab_90 rfl (lv_at hl 0 rfl) ?_
  refine va_iast hx hb hK hP hD hS 6 0 rfl rfl (by show ¬ (_ ∨ _); decide) dICab_91 (fun H locs hP hD hS => ?_)
  have hP : va_P D aCl [(h0, .inr (0, [.int 0, .int 0, .int 0, .int 0, .ref q27, .ref q35, .ref q43, .ref q51, .ref q59, .ref q66, .ref q73])), (q27, zA cA 8), (q35, zA cA 8), (q43, zA cA 8), (q51, zA cA 8), (q59, zA cA 8), (q66, .inl (cA, 5, .inl (upd (upd (fun _ => Int32.ofInt 0) (0 : Int32).toNatClampNeg 0) (1 : Int32).toNatClampNeg 1))), (q73, .inl (cA, 5, .inl (upd (fun _ => Int32.ofInt 0) (0 : Int32).toNatClampNeg (-1))))] H := hP
  have hD : va_D A [(h0, .inr (0, [.int 0, .int 0, .int 0, .int 0, .ref q27, .ref q35, .ref q43, .ref q51, .ref q59, .ref q66, .ref q73])), (q27, zA cA 8), (q35, zA cA 8), (q43, zA cA 8), (q51, zA cA 8), (q59, zA cA 8), (q66, .inl (cA, 5, .inl (upd (upd (fun _ => Int32.ofInt 0) (0 : Int32).toNatClampNeg 0) (1 : Int32).toNatClampNeg 1))), (q73, .inl (cA, 5, .inl (upd (fun _ => Int32.ofInt 0) (0 : Int32).toNatClampNeg (-1))))] := hD
  refine lv_aload_n hx hb dICab_92 rfl (lv_at hl 1 rfl) ?_
  refine va_get (D := D) (ci := 0) (v := .ref q73) (own := "OnlyInDisguise$Cabinet") (ref := "OnlyInDisguise$Cabinet") (C := RX0) (T := TX0) (N := 11) hx hb hws iaX0 hown hK hP 0 rfl rfl 10 (by decide) (hws _ (in_aTbl 100 (by decide +kernel) rfl)) (fun _ h => h) rfl dICab_93 ?_
  refine lv_iload_n hx hb dICab_96 rfl (lv_at hl 0 rfl) ?_
  refine lv_iconst (v := (-1)) hx hb dICab_97 (by decide) ?_
  refine va_iast hx hb hK hP hD hS 7 0 rfl rfl (by show ¬ (_ ∨ _); decide) dICab_98 (fun H locs hP hD hS => ?_)
  have hP : va_P D aCl [(h0, .inr (0, [.int 0, .int 0, .int 0, .int 0, .ref q27, .ref q35, .ref q43, .ref q51, .ref q59, .ref q66, .ref q73])), (q27, zA cA 8), (q35, zA cA 8), (q43, zA cA 8), (q51, zA cA 8), (q59, zA cA 8), (q66, .inl (cA, 5, .inl (upd (upd (fun _ => Int32.ofInt 0) (0 : Int32).toNatClampNeg 0) (1 : Int32).toNatClampNeg 1))), (q73, .inl (cA, 5, .inl (upd (upd (fun _ => Int32.ofInt 0) (0 : Int32).toNatClampNeg (-1)) (1 : Int32).toNatClampNeg (-1))))] H := hP
  have hD : va_D A [(h0, .inr (0, [.int 0, .int 0, .int 0, .int 0, .ref q27, .ref q35, .ref q43, .ref q51, .ref q59, .ref q66, .ref q73])), (q27, zA cA 8), (q35, zA cA 8), (q43, zA cA 8), (q51, zA cA 8), (q59, zA cA 8), (q66, .inl (cA, 5, .inl (upd (upd (fun _ => Int32.ofInt 0) (0 : Int32).toNatClampNeg 0) (1 : Int32).toNatClampNeg 1))), (q73, .inl (cA, 5, .inl (upd (upd (fun _ => Int32.ofInt 0) (0 : Int32).toNatClampNeg (-1)) (1 : Int32).toNatClampNeg (-1))))] := hD
  refine lv_iinc (v := 2) (lv' := [(1, .int 2), (0, .ref h0)]) hx hb dICab_99 hl (k := 0) rfl (by decide) (by decide) rfl (fun ls hl => ?_)
  refine lv_goto (tgt := 80) hx hb dICab_102 (by decide) ?_
  refine lv_iload_n hx hb dICab_80 rfl (lv_at hl 0 rfl) ?_
  refine lv_iconst (v := 5) hx hb dICab_81 (by decide) ?_
  refine lv_icmp_ge (tgt := 105) hx hb dICab_82 (by decide) (fun h => absurd h (by decide)) (fun _ => ?_)
  refine lv_aload_n hx hb dICab_85 rfl (lv_at hl 1 rfl) ?_
  refine va_get (D := D) (ci := 0) (v := .ref q66) (own := "OnlyInDisguise$Cabinet") (ref := "OnlyInDisguise$Cabinet") (C := RX0) (T := TX0) (N := 11) hx hb hws iaX0 hown hK hP 0 rfl rfl 9 (by decide) (hws _ (in_aTbl 97 (by decide +kernel) rfl)) (fun _ h => h) rfl dICab_86 ?_
  refine lv_iload_n hx hb dICab_89 rfl (lv_at hl 0 rfl) ?_
  refine lv_iload_n hx hb dICab_90 rfl (lv_at hl 0 rfl) ?_
  refine va_iast hx hb hK hP hD hS 6 0 rfl rfl (by show ¬ (_ ∨ _); decide) dICab_91 (fun H locs hP hD hS => ?_)
  have hP : va_P D aCl [(h0, .inr (0, [.int 0, .int 0, .int 0, .int 0, .ref q27, .ref q35, .ref q43, .ref q51, .ref q59, .ref q66, .ref q73])), (q27, zA cA 8), (q35, zA cA 8), (q43, zA cA 8), (q51, zA cA 8), (q59, zA cA 8), (q66, .inl (cA, 5, .inl (upd (upd (upd (fun _ => Int32.ofInt 0) (0 : Int32).toNatClampNeg 0) (1 : Int32).toNatClampNeg 1) (2 : Int32).toNatClampNeg 2))), (q73, .inl (cA, 5, .inl (upd (upd (fun _ => Int32.ofInt 0) (0 : Int32).toNatClampNeg (-1)) (1 : Int32).toNatClampNeg (-1))))] H := hP
  have hD : va_D A [(h0, .inr (0, [.int 0, .int 0, .int 0, .int 0, .ref q27, .ref q35, .ref q43, .ref q51, .ref q59, .ref q66, .ref q73])), (q27, zA cA 8), (q35, zA cA 8), (q43, zA cA 8), (q51, zA cA 8), (q59, zA cA 8), (q66, .inl (cA, 5, .inl (upd (upd (upd (fun _ => Int32.ofInt 0) (0 : Int32).toNatClampNeg 0) (1 : Int32).toNatClampNeg 1) (2 : Int32).toNatClampNeg 2))), (q73, .inl (cA, 5, .inl (upd (upd (fun _ => Int32.ofInt 0) (0 : Int32).toNatClampNeg (-1)) (1 : Int32).toNatClampNeg (-1))))] := hD
  refine lv_aload_n hx hb dICab_92 rfl (lv_at hl 1 rfl) ?_
  refine va_get (D := D) (ci := 0) (v := .ref q73) (own := "OnlyInDisguise$Cabinet") (ref := "OnlyInDisguise$Cabinet") (C := RX0) (T := TX0) (N := 11) hx hb hws iaX0 hown hK hP 0 rfl rfl 10 (by decide) (hws _ (in_aTbl 100 (by decide +kernel) rfl)) (fun _ h => h) rfl dICab_93 ?_
  refine lv_iload_n hx hb dICab_96 rfl (lv_at hl 0 rfl) ?_
  refine lv_iconst (v := (-1)) hx hb dICab_97 (by decide) ?_
  refine va_iast hx hb hK hP hD hS 7 0 rfl rfl (by show ¬ (_ ∨ _); decide) dICab_98 (fun H locs hP hD hS => ?_)
  have hP : va_P D aCl [(h0, .inr (0, [.int 0, .int 0, .int 0, .int 0, .ref q27, .ref q35, .ref q43, .ref q51, .ref q59, .ref q66, .ref q73])), (q27, zA cA 8), (q35, zA cA 8), (q43, zA cA 8), (q51, zA cA 8), (q59, zA cA 8), (q66, .inl (cA, 5, .inl (upd (upd (upd (fun _ => Int32.ofInt 0) (0 : Int32).toNatClampNeg 0) (1 : Int32).toNatClampNeg 1) (2 : Int32).toNatClampNeg 2))), (q73, .inl (cA, 5, .inl (upd (upd (upd (fun _ => Int32.ofInt 0) (0 : Int32).toNatClampNeg (-1)) (1 : Int32).toNatClampNeg (-1)) (2 : Int32).toNatClampNeg (-1))))] H := hP
  have hD : va_D A [(h0, .inr (0, [.int 0, .int 0, .int 0, .int 0, .ref q27, .ref q35, .ref q43, .ref q51, .ref q59, .ref q66, .ref q73])), (q27, zA cA 8), (q35, zA cA 8), (q43, zA cA 8), (q51, zA cA 8), (q59, zA cA 8), (q66, .inl (cA, 5, .inl (upd (upd (upd (fun _ => Int32.ofInt 0) (0 : Int32).toNatClampNeg 0) (1 : Int32).toNatClampNeg 1) (2 : Int32).toNatClampNeg 2))), (q73, .inl (cA, 5, .inl (upd (upd (upd (fun _ => Int32.ofInt 0) (0 : Int32).toNatClampNeg (-1)) (1 : Int32).toNatClampNeg (-1)) (2 : Int32).toNatClampNeg (-1))))] := hD
  refine lv_iinc (v := 3) (lv' := [(1, .int 3), (0, .ref h0)]) hx hb dICab_99 hl (k := 0) rfl (by decide) (by decide) rfl (fun ls hl => ?_)
  refine lv_goto (tgt := 80) hx hb dICab_102 (by decide) ?_
  refine lv_iload_n hx hb dICab_80 rfl (lv_at hl 0 rfl) ?_
  refine lv_iconst (v := 5) hx hb dICab_81 (by decide) ?_
  refine lv_icmp_ge (tgt := 105) hx hb dICab_82 (by decide) (fun h => absurd h (by decide)) (fun _ => ?_)
  refine lv_aload_n hx hb dICab_85 rfl (lv_at hl 1 rfl) ?_
  refine va_get (D := D) (ci := 0) (v := .ref q66) (own := "OnlyInDisguise$Cabinet") (ref := "OnlyInDisguise$Cabinet") (C := RX0) (T := TX0) (N := 11) hx hb hws iaX0 hown hK hP 0 rfl rfl 9 (by decide) (hws _ (in_aTbl 97 (by decide +kernel) rfl)) (fun _ h => h) rfl dICab_86 ?_
  refine lv_iload_n hx hb dICab_89 rfl (lv_at hl 0 rfl) ?_
  refine lv_iload_n hx hb dICab_90 rfl (lv_at hl 0 rfl) ?_
  refine va_iast hx hb hK hP hD hS 6 0 rfl rfl (by show ¬ (_ ∨ _); decide) dICab_91 (fun H locs hP hD hS => ?_)
  have hP : va_P D aCl [(h0, .inr (0, [.int 0, .int 0, .int 0, .int 0, .ref q27, .ref q35, .ref q43, .ref q51, .ref q59, .ref q66, .ref q73])), (q27, zA cA 8), (q35, zA cA 8), (q43, zA cA 8), (q51, zA cA 8), (q59, zA cA 8), (q66, .inl (cA, 5, .inl (upd (upd (upd (upd (fun _ => Int32.ofInt 0) (0 : Int32).toNatClampNeg 0) (1 : Int32).toNatClampNeg 1) (2 : Int32).toNatClampNeg 2) (3 : Int32).toNatClampNeg 3))), (q73, .inl (cA, 5, .inl (upd (upd (upd (fun _ => Int32.ofInt 0) (0 : Int32).toNatClampNeg (-1)) (1 : Int32).toNatClampNeg (-1)) (2 : Int32).toNatClampNeg (-1))))] H := hP
  have hD : va_D A [(h0, .inr (0, [.int 0, .int 0, .int 0, .int 0, .ref q27, .ref q35, .ref q43, .ref q51, .ref q59, .ref q66, .ref q73])), (q27, zA cA 8), (q35, zA cA 8), (q43, zA cA 8), (q51, zA cA 8), (q59, zA cA 8), (q66, .inl (cA, 5, .inl (upd (upd (upd (upd (fun _ => Int32.ofInt 0) (0 : Int32).toNatClampNeg 0) (1 : Int32).toNatClampNeg 1) (2 : Int32).toNatClampNeg 2) (3 : Int32).toNatClampNeg 3))), (q73, .inl (cA, 5, .inl (upd (upd (upd (fun _ => Int32.ofInt 0) (0 : Int32).toNatClampNeg (-1)) (1 : Int32).toNatClampNeg (-1)) (2 : Int32).toNatClampNeg (-1))))] := hD
  refine lv_aload_n hx hb dICab_92 rfl (lv_at hl 1 rfl) ?_
  refine va_get (D := D) (ci := 0) (v := .ref q73) (own := "OnlyInDisguise$Cabinet") (ref := "OnlyInDisguise$Cabinet") (C := RX0) (T := TX0) (N := 11) hx hb hws iaX0 hown hK hP 0 rfl rfl 10 (by decide) (hws _ (in_aTbl 100 (by decide +kernel) rfl)) (fun _ h => h) rfl dICab_93 ?_
  refine lv_iload_n hx hb dICab_96 rfl (lv_at hl 0 rfl) ?_
  refine lv_iconst (v := (-1)) hx hb dICab_97 (by decide) ?_
  refine va_iast hx hb hK hP hD hS 7 0 rfl rfl (by show ¬ (_ ∨ _); decide) dICab_98 (fun H locs hP hD hS => ?_)
  have hP : va_P D aCl [(h0, .inr (0, [.int 0, .int 0, .int 0, .int 0, .ref q27, .ref q35, .ref q43, .ref q51, .ref q59, .ref q66, .ref q73])), (q27, zA cA 8), (q35, zA cA 8), (q43, zA cA 8), (q51, zA cA 8), (q59, zA cA 8), (q66, .inl (cA, 5, .inl (upd (upd (upd (upd (fun _ => Int32.ofInt 0) (0 : Int32).toNatClampNeg 0) (1 : Int32).toNatClampNeg 1) (2 : Int32).toNatClampNeg 2) (3 : Int32).toNatClampNeg 3))), (q73, .inl (cA, 5, .inl (upd (upd (upd (upd (fun _ => Int32.ofInt 0) (0 : Int32).toNatClampNeg (-1)) (1 : Int32).toNatClampNeg (-1)) (2 : Int32).toNatClampNeg (-1)) (3 : Int32).toNatClampNeg (-1))))] H := hP
  have hD : va_D A [(h0, .inr (0, [.int 0, .int 0, .int 0, .int 0, .ref q27, .ref q35, .ref q43, .ref q51, .ref q59, .ref q66, .ref q73])), (q27, zA cA 8), (q35, zA cA 8), (q43, zA cA 8), (q51, zA cA 8), (q59, zA cA 8), (q66, .inl (cA, 5, .inl (upd (upd (upd (upd (fun _ => Int32.ofInt 0) (0 : Int32).toNatClampNeg 0) (1 : Int32).toNatClampNeg 1) (2 : Int32).toNatClampNeg 2) (3 : Int32).toNatClampNeg 3))), (q73, .inl (cA, 5, .inl (upd (upd (upd (upd (fun _ => Int32.ofInt 0) (0 : Int32).toNatClampNeg (-1)) (1 : Int32).toNatClampNeg (-1)) (2 : Int32).toNatClampNeg (-1)) (3 : Int32).toNatClampNeg (-1))))] := hD
  refine lv_iinc (v := 4) (lv' := [(1, .int 4), (0, .ref h0)]) hx hb dICab_99 hl (k := 0) rfl (by decide) (by decide) rfl (fun ls hl => ?_)
  refine lv_goto (tgt := 80) hx hb dICab_102 (by decide) ?_
  refine lv_iload_n hx hb dICab_80 rfl (lv_at hl 0 rfl) ?_
  refine lv_iconst (v := 5) hx hb dICab_81 (by decide) ?_
  refine lv_icmp_ge (tgt := 105) hx hb dICab_82 (by decide) (fun h => absurd h (by decide)) (fun _ => ?_)
  refine lv_aload_n hx hb dICab_85 rfl (lv_at hl 1 rfl) ?_
  refine va_get (D := D) (ci := 0) (v := .ref q66) (own := "OnlyInDisguise$Cabinet") (ref := "OnlyInDisguise$Cabinet") (C := RX0) (T := TX0) (N := 11) hx hb hws iaX0 hown hK hP 0 rfl rfl 9 (by decide) (hws _ (in_aTbl 97 (by decide +kernel) rfl)) (fun _ h => h) rfl dICab_86 ?_
  refine lv_iload_n hx hb dICab_89 rfl (lv_at hl 0 rfl) ?_
  refine lv_iload_n hx hb dICab_90 rfl (lv_at hl 0 rfl) ?_
  refine va_iast hx hb hK hP hD hS 6 0 rfl rfl (by show ¬ (_ ∨ _); decide) dICab_91 (fun H locs hP hD hS => ?_)
  have hP : va_P D aCl [(h0, .inr (0, [.int 0, .int 0, .int 0, .int 0, .ref q27, .ref q35, .ref q43, .ref q51, .ref q59, .ref q66, .ref q73])), (q27, zA cA 8), (q35, zA cA 8), (q43, zA cA 8), (q51, zA cA 8), (q59, zA cA 8), (q66, .inl (cA, 5, .inl (upd (upd (upd (upd (upd (fun _ => Int32.ofInt 0) (0 : Int32).toNatClampNeg 0) (1 : Int32).toNatClampNeg 1) (2 : Int32).toNatClampNeg 2) (3 : Int32).toNatClampNeg 3) (4 : Int32).toNatClampNeg 4))), (q73, .inl (cA, 5, .inl (upd (upd (upd (upd (fun _ => Int32.ofInt 0) (0 : Int32).toNatClampNeg (-1)) (1 : Int32).toNatClampNeg (-1)) (2 : Int32).toNatClampNeg (-1)) (3 : Int32).toNatClampNeg (-1))))] H := hP
  have hD : va_D A [(h0, .inr (0, [.int 0, .int 0, .int 0, .int 0, .ref q27, .ref q35, .ref q43, .ref q51, .ref q59, .ref q66, .ref q73])), (q27, zA cA 8), (q35, zA cA 8), (q43, zA cA 8), (q51, zA cA 8), (q59, zA cA 8), (q66, .inl (cA, 5, .inl (upd (upd (upd (upd (upd (fun _ => Int32.ofInt 0) (0 : Int32).toNatClampNeg 0) (1 : Int32).toNatClampNeg 1) (2 : Int32).toNatClampNeg 2) (3 : Int32).toNatClampNeg 3) (4 : Int32).toNatClampNeg 4))), (q73, .inl (cA, 5, .inl (upd (upd (upd (upd (fun _ => Int32.ofInt 0) (0 : Int32).toNatClampNeg (-1)) (1 : Int32).toNatClampNeg (-1)) (2 : Int32).toNatClampNeg (-1)) (3 : Int32).toNatClampNeg (-1))))] := hD
  refine lv_aload_n hx hb dICab_92 rfl (lv_at hl 1 rfl) ?_
  refine va_get (D := D) (ci := 0) (v := .ref q73) (own := "OnlyInDisguise$Cabinet") (ref := "OnlyInDisguise$Cabinet") (C := RX0) (T := TX0) (N := 11) hx hb hws iaX0 hown hK hP 0 rfl rfl 10 (by decide) (hws _ (in_aTbl 100 (by decide +kernel) rfl)) (fun _ h => h) rfl dICab_93 ?_
  refine lv_iload_n hx hb dICab_96 rfl (lv_at hl 0 rfl) ?_
  refine lv_iconst (v := (-1)) hx hb dICab_97 (by decide) ?_
  refine va_iast hx hb hK hP hD hS 7 0 rfl rfl (by show ¬ (_ ∨ _); decide) dICab_98 (fun H locs hP hD hS => ?_)
  have hP : va_P D aCl [(h0, .inr (0, [.int 0, .int 0, .int 0, .int 0, .ref q27, .ref q35, .ref q43, .ref q51, .ref q59, .ref q66, .ref q73])), (q27, zA cA 8), (q35, zA cA 8), (q43, zA cA 8), (q51, zA cA 8), (q59, zA cA 8), (q66, .inl (cA, 5, .inl (upd (upd (upd (upd (upd (fun _ => Int32.ofInt 0) (0 : Int32).toNatClampNeg 0) (1 : Int32).toNatClampNeg 1) (2 : Int32).toNatClampNeg 2) (3 : Int32).toNatClampNeg 3) (4 : Int32).toNatClampNeg 4))), (q73, .inl (cA, 5, .inl (upd (upd (upd (upd (upd (fun _ => Int32.ofInt 0) (0 : Int32).toNatClampNeg (-1)) (1 : Int32).toNatClampNeg (-1)) (2 : Int32).toNatClampNeg (-1)) (3 : Int32).toNatClampNeg (-1)) (4 : Int32).toNatClampNeg (-1))))] H := hP
  have hD : va_D A [(h0, .inr (0, [.int 0, .int 0, .int 0, .int 0, .ref q27, .ref q35, .ref q43, .ref q51, .ref q59, .ref q66, .ref q73])), (q27, zA cA 8), (q35, zA cA 8), (q43, zA cA 8), (q51, zA cA 8), (q59, zA cA 8), (q66, .inl (cA, 5, .inl (upd (upd (upd (upd (upd (fun _ => Int32.ofInt 0) (0 : Int32).toNatClampNeg 0) (1 : Int32).toNatClampNeg 1) (2 : Int32).toNatClampNeg 2) (3 : Int32).toNatClampNeg 3) (4 : Int32).toNatClampNeg 4))), (q73, .inl (cA, 5, .inl (upd (upd (upd (upd (upd (fun _ => Int32.ofInt 0) (0 : Int32).toNatClampNeg (-1)) (1 : Int32).toNatClampNeg (-1)) (2 : Int32).toNatClampNeg (-1)) (3 : Int32).toNatClampNeg (-1)) (4 : Int32).toNatClampNeg (-1))))] := hD
  refine lv_iinc (v := 5) (lv' := [(1, .int 5), (0, .ref h0)]) hx hb dICab_99 hl (k := 0) rfl (by decide) (by decide) rfl (fun ls hl => ?_)
  refine lv_goto (tgt := 80) hx hb dICab_102 (by decide) ?_
  refine lv_iload_n hx hb dICab_80 rfl (lv_at hl 0 rfl) ?_
  refine lv_iconst (v := 5) hx hb dICab_81 (by decide) ?_
  refine lv_icmp_ge (tgt := 105) hx hb dICab_82 (by decide) (fun _ => ?_) (fun h => absurd (by decide) h)
  have ec : cz9 = fun j : Nat => Int32.ofInt (cz (j : Int)) := cz_eq
  have eh : hz9 = fun j : Nat => Int32.ofInt (hz (j : Int)) := hz_eq
  have hP : va_P D aCl [(h0, .inr (0, [.int 0, .int 0, .int 0, .int 0, .ref q27, .ref q35, .ref q43, .ref q51, .ref q59, .ref q66, .ref q73])), (q27, zA cA 8), (q35, zA cA 8), (q43, zA cA 8), (q51, zA cA 8), (q59, zA cA 8), (q66, fA cA 5 cz), (q73, fA cA 5 hz)] H := by
    unfold fA
    rw [← ec, ← eh]
    exact hP
  have hD : va_D A [(h0, .inr (0, [.int 0, .int 0, .int 0, .int 0, .ref q27, .ref q35, .ref q43, .ref q51, .ref q59, .ref q66, .ref q73])), (q27, zA cA 8), (q35, zA cA 8), (q43, zA cA 8), (q51, zA cA 8), (q59, zA cA 8), (q66, fA cA 5 cz), (q73, fA cA 5 hz)] := by
    unfold fA
    rw [← ec, ← eh]
    exact hD
  have hP9 : va_P D aCl (kCab cA h0 (fun t => ([q27, q35, q43, q51, q59, q66, q73] : List Nat).getD (t - 2) 0)) H := hP
  have hD9 : va_D A (kCab cA h0 (fun t => ([q27, q35, q43, q51, q59, q66, q73] : List Nat).getD (t - 2) 0)) := hD
  refine W.widen (k := 7) (n := 50) (by omega) (by omega) ?_
  exact W.vret hx hb hr (fun t ht hW => ⟨⟨(fun t => ([q27, q35, q43, q51, q59, q66, q73] : List Nat).getD (t - 2) 0), rfl, trivial, by rw [ht]; exact hP9, hD9⟩, hS.F ht⟩) hS.2.2 dICab_105
set_option maxHeartbeats 4000000 in
set_option maxRecDepth 100000 in
theorem i_She (l : Launch) (D : va_G) (cA : ClassId) (h0 sz : Nat) : Met l nmIShe wsIShe { frames := 1, cells := 6, slots := 840, locals := 12 } (va_Pc [.ref h0] (fun U => U.heap.size = sz ∧ va_P D aCl [(h0, .inr (3, [.null, .null, .null, .null, .null, .null]))] U.heap ∧ va_K D aCl [(cA, .int)] U ∧ va_D (fun _ => True) [(h0, .inr (3, [.null, .null, .null, .null, .null, .null]))])) (va_Qv (fun _ : Nat → Nat => True) (fun u t => va_P D aCl (kShe cA h0 u) t.heap ∧ va_D (va_A [(h0, .inr (3, [.null, .null, .null, .null, .null, .null]))] sz) (kShe cA h0 u)) (va_A [(h0, .inr (3, [.null, .null, .null, .null, .null, .null]))] sz)) 6 840 (va_A [(h0, .inr (3, [.null, .null, .null, .null, .null, .null]))] sz) := by
  refine Met.ofW (cc := prog_6_method_1_code) (maxL := 1) (ret := none) (by decide) rfl ?_
  intro p e s m args below meth c s₁ B hml hv
  obtain ⟨rfl, hsz, hP, hK, hD0⟩ := hv
  have hx := B.exec
  have hb := B.bytes
  have hr := B.returns
  have hts := atoms_spec (ws := wsIShe) B.pre
  have hws : ∀ w ∈ aTbl, w.before _ s = true := fun w hw => hts w (List.mem_cons_of_mem _ hw)
  have hown : s.vm.findClass "OnlyInDisguise$Shelves" = some m.cls := findClass_of_methodNamed B.named
  have hlocks := B.notSynchronized
  have hin : meth.name = "<init>" := (name_of_methodNamed B.named B.method).1
  subst hsz
  have hD := hD0.self (sz := s.heap.size)
  generalize hAe : va_A [(h0, .inr (3, [.null, .null, .null, .null, .null, .null]))] s.heap.size = A at hD ⊢
  have hA : ∀ q : Nat, s.heap.size ≤ q → A q := fun q h => by rw [← hAe]; exact Or.inr h
  have hS : va_S A s.heap s.heap [] := va_S.rf
  have hl := lv_entry ([.ref h0]) (n := 1) (Nat.le_of_ble_eq_true rfl)
  rw [lg_entry_eq]
  generalize (lg_sl ([.ref h0]) ++ List.replicate (1 - (lg_sl ([.ref h0])).length) Slot.unset).toArray = ls at hl ⊢
  have hl : lv_has ls 1 [(0, .ref h0)] := hl
  generalize hRR : (headSpec wsIShe { frames := 1, cells := 6, slots := 840, locals := 12 }).room = RR
  have hR1 : RR.frames = 1 ∧ RR.cells = 6 ∧ RR.slots = 840 ∧ RR.locals = 12 := by subst hRR; exact ⟨rfl, rfl, rfl, rfl⟩
  refine lv_aload_n hx hb dIShe_0 rfl (lv_at hl 0 rfl) ?_
  refine W.objInit hx hb hown (hws _ (in_aTbl 131 (by decide +kernel) rfl)) (hws _ (in_aTbl 68 (by decide +kernel) rfl)) (hws _ (in_aTbl 69 (by decide +kernel) rfl)) rfl (by rw [hml]; exact hl.1) rfl dIShe_1 (by omega) (by show 0 + 12 ≤ RR.locals; omega) ?_
  refine W.eq (g2 := F0 m 4 ls []) rfl ?_
  refine lv_aload_n hx hb dIShe_4 rfl (lv_at hl 0 rfl) ?_
  refine lv_bipush (v := 8) hx hb dIShe_5 (by decide) ?_
  refine z_arr (C := RX4) (T := TX4) (N := 6) (ci := 3) 8 0 hx hb hws hown hin hK hP hD hS hA (by decide) (by decide) (Nat.le_of_ble_eq_true rfl) (by omega) (by omega) dIShe_7 iaX4 tyX4 tyX4_ok nmX4 rfl (by decide) (in_aTbl 132 (by decide +kernel) rfl) rfl rfl (by decide +kernel) (Nat.le_of_ble_eq_true rfl) dIShe_9 (fun q7 H locs hP hD hS => ?_)
  have hP : va_P D aCl [(h0, .inr (3, [.ref q7, .null, .null, .null, .null, .null])), (q7, zA cA 8)] H := hP
  have hD : va_D A [(h0, .inr (3, [.ref q7, .null, .null, .null, .null, .null])), (q7, zA cA 8)] := hD
  refine lv_aload_n hx hb dIShe_12 rfl (lv_at hl 0 rfl) ?_
  refine lv_bipush (v := 8) hx hb dIShe_13 (by decide) ?_
  refine z_arr (C := RX4) (T := TX4) (N := 6) (ci := 3) 8 1 hx hb hws hown hin hK hP hD hS hA (by decide) (by decide) (Nat.le_of_ble_eq_true rfl) (by omega) (by omega) dIShe_15 iaX4 tyX4 tyX4_ok nmX4 rfl (by decide) (in_aTbl 133 (by decide +kernel) rfl) rfl rfl (by decide +kernel) (Nat.le_of_ble_eq_true rfl) dIShe_17 (fun q15 H locs hP hD hS => ?_)
  have hP : va_P D aCl [(h0, .inr (3, [.ref q7, .ref q15, .null, .null, .null, .null])), (q7, zA cA 8), (q15, zA cA 8)] H := hP
  have hD : va_D A [(h0, .inr (3, [.ref q7, .ref q15, .null, .null, .null, .null])), (q7, zA cA 8), (q15, zA cA 8)] := hD
  refine lv_aload_n hx hb dIShe_20 rfl (lv_at hl 0 rfl) ?_
  refine lv_bipush (v := 8) hx hb dIShe_21 (by decide) ?_
  refine z_arr (C := RX4) (T := TX4) (N := 6) (ci := 3) 8 2 hx hb hws hown hin hK hP hD hS hA (by decide) (by decide) (Nat.le_of_ble_eq_true rfl) (by omega) (by omega) dIShe_23 iaX4 tyX4 tyX4_ok nmX4 rfl (by decide) (in_aTbl 134 (by decide +kernel) rfl) rfl rfl (by decide +kernel) (Nat.le_of_ble_eq_true rfl) dIShe_25 (fun q23 H locs hP hD hS => ?_)
  have hP : va_P D aCl [(h0, .inr (3, [.ref q7, .ref q15, .ref q23, .null, .null, .null])), (q7, zA cA 8), (q15, zA cA 8), (q23, zA cA 8)] H := hP
  have hD : va_D A [(h0, .inr (3, [.ref q7, .ref q15, .ref q23, .null, .null, .null])), (q7, zA cA 8), (q15, zA cA 8), (q23, zA cA 8)] := hD
  refine lv_aload_n hx hb dIShe_28 rfl (lv_at hl 0 rfl) ?_
  refine lv_bipush (v := 8) hx hb dIShe_29 (by decide) ?_
  refine z_arr (C := RX4) (T := TX4) (N := 6) (ci := 3) 8 3 hx hb hws hown hin hK hP hD hS hA (by decide) (by decide) (Nat.le_of_ble_eq_true rfl) (by omega) (by omega) dIShe_31 iaX4 tyX4 tyX4_ok nmX4 rfl (by decide) (in_aTbl 135 (by decide +kernel) rfl) rfl rfl (by decide +kernel) (Nat.le_of_ble_eq_true rfl) dIShe_33 (fun q31 H locs hP hD hS => ?_)
  have hP : va_P D aCl [(h0, .inr (3, [.ref q7, .ref q15, .ref q23, .ref q31, .null, .null])), (q7, zA cA 8), (q15, zA cA 8), (q23, zA cA 8), (q31, zA cA 8)] H := hP
  have hD : va_D A [(h0, .inr (3, [.ref q7, .ref q15, .ref q23, .ref q31, .null, .null])), (q7, zA cA 8), (q15, zA cA 8), (q23, zA cA 8), (q31, zA cA 8)] := hD
  refine lv_aload_n hx hb dIShe_36 rfl (lv_at hl 0 rfl) ?_
  refine lv_bipush (v := 8) hx hb dIShe_37 (by decide) ?_
  refine z_arr (C := RX4) (T := TX4) (N := 6) (ci := 3) 8 4 hx hb hws hown hin hK hP hD hS hA (by decide) (by decide) (Nat.le_of_ble_eq_true rfl) (by omega) (by omega) dIShe_39 iaX4 tyX4 tyX4_ok nmX4 rfl (by decide) (in_aTbl 136 (by decide +kernel) rfl) rfl rfl (by decide +kernel) (Nat.le_of_ble_eq_true rfl) dIShe_41 (fun q39 H locs hP hD hS => ?_)
  have hP : va_P D aCl [(h0, .inr (3, [.ref q7, .ref q15, .ref q23, .ref q31, .ref q39, .null])), (q7, zA cA 8), (q15, zA cA 8), (q23, zA cA 8), (q31, zA cA 8), (q39, zA cA 8)] H := hP
  have hD : va_D A [(h0, .inr (3, [.ref q7, .ref q15, .ref q23, .ref q31, .ref q39, .null])), (q7, zA cA 8), (q15, zA cA 8), (q23, zA cA 8), (q31, zA cA 8), (q39, zA cA 8)] := hD
  refine lv_aload_n hx hb dIShe_44 rfl (lv_at hl 0 rfl) ?_
  refine lv_sipush (v := 800) hx hb dIShe_45 (by decide) ?_
  refine z_arr (C := RX4) (T := TX4) (N := 6) (ci := 3) 800 5 hx hb hws hown hin hK hP hD hS hA (by decide) (by decide) (Nat.le_of_ble_eq_true rfl) (by omega) (by omega) dIShe_48 iaX4 tyX4 tyX4_ok nmX4 rfl (by decide) (in_aTbl 137 (by decide +kernel) rfl) rfl rfl (by decide +kernel) (Nat.le_of_ble_eq_true rfl) dIShe_50 (fun q48 H locs hP hD hS => ?_)
  have hP : va_P D aCl [(h0, .inr (3, [.ref q7, .ref q15, .ref q23, .ref q31, .ref q39, .ref q48])), (q7, zA cA 8), (q15, zA cA 8), (q23, zA cA 8), (q31, zA cA 8), (q39, zA cA 8), (q48, zA cA 800)] H := hP
  have hD : va_D A [(h0, .inr (3, [.ref q7, .ref q15, .ref q23, .ref q31, .ref q39, .ref q48])), (q7, zA cA 8), (q15, zA cA 8), (q23, zA cA 8), (q31, zA cA 8), (q39, zA cA 8), (q48, zA cA 800)] := hD
  have hP9 : va_P D aCl (kShe cA h0 (fun t => ([q7, q15, q23, q31, q39, q48] : List Nat).getD (t - 10) 0)) H := hP
  have hD9 : va_D A (kShe cA h0 (fun t => ([q7, q15, q23, q31, q39, q48] : List Nat).getD (t - 10) 0)) := hD
  refine W.widen (k := 6) (n := 840) (by omega) (by omega) ?_
  exact W.vret hx hb hr (fun t ht hW => ⟨⟨(fun t => ([q7, q15, q23, q31, q39, q48] : List Nat).getD (t - 10) 0), rfl, trivial, by rw [ht]; exact hP9, hD9⟩, hS.F ht⟩) hS.2.2 dIShe_53
set_option maxHeartbeats 4000000 in
set_option maxRecDepth 100000 in
theorem i_Cas (l : Launch) (D : va_G) (cA : ClassId) (h0 sz : Nat) : Met l nmICas wsICas { frames := 1, cells := 2, slots := 1576, locals := 12 } (va_Pc [.ref h0] (fun U => U.heap.size = sz ∧ va_P D aCl [(h0, .inr (1, [.null, .null, .int 0]))] U.heap ∧ va_K D aCl [(cA, .int)] U ∧ va_D (fun _ => True) [(h0, .inr (1, [.null, .null, .int 0]))])) (va_Qv (fun _ : Nat → Nat => True) (fun u t => va_P D aCl (kCas cA h0 u) t.heap ∧ va_D (va_A [(h0, .inr (1, [.null, .null, .int 0]))] sz) (kCas cA h0 u)) (va_A [(h0, .inr (1, [.null, .null, .int 0]))] sz)) 2 1576 (va_A [(h0, .inr (1, [.null, .null, .int 0]))] sz) := by
  refine Met.ofW (cc := prog_3_method_1_code) (maxL := 1) (ret := none) (by decide) rfl ?_
  intro p e s m args below meth c s₁ B hml hv
  obtain ⟨rfl, hsz, hP, hK, hD0⟩ := hv
  have hx := B.exec
  have hb := B.bytes
  have hr := B.returns
  have hts := atoms_spec (ws := wsICas) B.pre
  have hws : ∀ w ∈ aTbl, w.before _ s = true := fun w hw => hts w (List.mem_cons_of_mem _ hw)
  have hown : s.vm.findClass "OnlyInDisguise$Casting" = some m.cls := findClass_of_methodNamed B.named
  have hlocks := B.notSynchronized
  have hin : meth.name = "<init>" := (name_of_methodNamed B.named B.method).1
  subst hsz
  have hD := hD0.self (sz := s.heap.size)
  generalize hAe : va_A [(h0, .inr (1, [.null, .null, .int 0]))] s.heap.size = A at hD ⊢
  have hA : ∀ q : Nat, s.heap.size ≤ q → A q := fun q h => by rw [← hAe]; exact Or.inr h
  have hS : va_S A s.heap s.heap [] := va_S.rf
  have hl := lv_entry ([.ref h0]) (n := 1) (Nat.le_of_ble_eq_true rfl)
  rw [lg_entry_eq]
  generalize (lg_sl ([.ref h0]) ++ List.replicate (1 - (lg_sl ([.ref h0])).length) Slot.unset).toArray = ls at hl ⊢
  have hl : lv_has ls 1 [(0, .ref h0)] := hl
  generalize hRR : (headSpec wsICas { frames := 1, cells := 2, slots := 1576, locals := 12 }).room = RR
  have hR1 : RR.frames = 1 ∧ RR.cells = 2 ∧ RR.slots = 1576 ∧ RR.locals = 12 := by subst hRR; exact ⟨rfl, rfl, rfl, rfl⟩
  refine lv_aload_n hx hb dICas_0 rfl (lv_at hl 0 rfl) ?_
  refine W.objInit hx hb hown (hws _ (in_aTbl 156 (by decide +kernel) rfl)) (hws _ (in_aTbl 68 (by decide +kernel) rfl)) (hws _ (in_aTbl 69 (by decide +kernel) rfl)) rfl (by rw [hml]; exact hl.1) rfl dICas_1 (by omega) (by show 0 + 12 ≤ RR.locals; omega) ?_
  refine W.eq (g2 := F0 m 4 ls []) rfl ?_
  refine lv_aload_n hx hb dICas_4 rfl (lv_at hl 0 rfl) ?_
  refine lv_bipush (v := 40) hx hb dICas_5 (by decide) ?_
  refine z_arr (C := RX1) (T := TX1) (N := 3) (ci := 1) 40 0 hx hb hws hown hin hK hP hD hS hA (by decide) (by decide) (Nat.le_of_ble_eq_true rfl) (by omega) (by omega) dICas_7 iaX1 tyX1 tyX1_ok nmX1 rfl (by decide) (in_aTbl 157 (by decide +kernel) rfl) rfl rfl (by decide +kernel) (Nat.le_of_ble_eq_true rfl) dICas_9 (fun q7 H locs hP hD hS => ?_)
  have hP : va_P D aCl [(h0, .inr (1, [.ref q7, .null, .int 0])), (q7, zA cA 40)] H := hP
  have hD : va_D A [(h0, .inr (1, [.ref q7, .null, .int 0])), (q7, zA cA 40)] := hD
  refine lv_aload_n hx hb dICas_12 rfl (lv_at hl 0 rfl) ?_
  refine lv_sipush (v := 1536) hx hb dICas_13 (by decide) ?_
  refine z_arr (C := RX1) (T := TX1) (N := 3) (ci := 1) 1536 1 hx hb hws hown hin hK hP hD hS hA (by decide) (by decide) (Nat.le_of_ble_eq_true rfl) (by omega) (by omega) dICas_16 iaX1 tyX1 tyX1_ok nmX1 rfl (by decide) (in_aTbl 158 (by decide +kernel) rfl) rfl rfl (by decide +kernel) (Nat.le_of_ble_eq_true rfl) dICas_18 (fun q16 H locs hP hD hS => ?_)
  have hP : va_P D aCl [(h0, .inr (1, [.ref q7, .ref q16, .int 0])), (q7, zA cA 40), (q16, zA cA 1536)] H := hP
  have hD : va_D A [(h0, .inr (1, [.ref q7, .ref q16, .int 0])), (q7, zA cA 40), (q16, zA cA 1536)] := hD
  refine lv_aload_n hx hb dICas_21 rfl (lv_at hl 0 rfl) ?_
  refine lv_iconst (v := 0) hx hb dICas_22 (by decide) ?_
  refine va_put (D := D) (ci := 1) (v := .int 0) (ty := .int) (own := "OnlyInDisguise$Casting") (ref := "OnlyInDisguise$Casting") (C := RX1) (T := TX1) (N := 3) hx hb hws iaX1 tyX1 tyX1_ok nmX1 hown hK hP hD hS 0 rfl rfl 2 (by decide) (hws _ (in_aTbl 159 (by decide +kernel) rfl)) (fun _ h => h) rfl (by decide +kernel) rfl rfl (Nat.le_of_ble_eq_true rfl) dICas_23 (fun H locs hP hD hS => ?_)
  have hP : va_P D aCl [(h0, .inr (1, [.ref q7, .ref q16, .int 0])), (q7, zA cA 40), (q16, zA cA 1536)] H := hP
  have hD : va_D A [(h0, .inr (1, [.ref q7, .ref q16, .int 0])), (q7, zA cA 40), (q16, zA cA 1536)] := hD
  have hP9 : va_P D aCl (kCas cA h0 (fun t => ([q7, q16] : List Nat).getD (t - 17) 0)) H := hP
  have hD9 : va_D A (kCas cA h0 (fun t => ([q7, q16] : List Nat).getD (t - 17) 0)) := hD
  refine W.widen (k := 2) (n := 1576) (by omega) (by omega) ?_
  exact W.vret hx hb hr (fun t ht hW => ⟨⟨(fun t => ([q7, q16] : List Nat).getD (t - 17) 0), rfl, trivial, by rw [ht]; exact hP9, hD9⟩, hS.F ht⟩) hS.2.2 dICas_26
set_option maxHeartbeats 4000000 in
set_option maxRecDepth 100000 in
theorem i_Dra (l : Launch) (D : va_G) (cA : ClassId) (h0 sz : Nat) : Met l nmIDra wsIDra { frames := 1, cells := 0, slots := 0, locals := 12 } (va_Pc [.ref h0] (fun U => U.heap.size = sz ∧ va_P D aCl [(h0, .inr (2, [.int 0]))] U.heap ∧ va_K D aCl [(cA, .int)] U ∧ va_D (fun _ => True) [(h0, .inr (2, [.int 0]))])) (va_Qv (fun _ : Unit => True) (fun u t => va_P D aCl (kDra h0) t.heap ∧ va_D (va_A [(h0, .inr (2, [.int 0]))] sz) (kDra h0)) (va_A [(h0, .inr (2, [.int 0]))] sz)) 0 0 (va_A [(h0, .inr (2, [.int 0]))] sz) := by
  refine Met.ofW (cc := prog_4_method_1_code) (maxL := 1) (ret := none) (by decide) rfl ?_
  intro p e s m args below meth c s₁ B hml hv
  obtain ⟨rfl, hsz, hP, hK, hD0⟩ := hv
  have hx := B.exec
  have hb := B.bytes
  have hr := B.returns
  have hts := atoms_spec (ws := wsIDra) B.pre
  have hws : ∀ w ∈ aTbl, w.before _ s = true := fun w hw => hts w (List.mem_cons_of_mem _ hw)
  have hown : s.vm.findClass "OnlyInDisguise$Draws" = some m.cls := findClass_of_methodNamed B.named
  have hlocks := B.notSynchronized
  have hin : meth.name = "<init>" := (name_of_methodNamed B.named B.method).1
  subst hsz
  have hD := hD0.self (sz := s.heap.size)
  generalize hAe : va_A [(h0, .inr (2, [.int 0]))] s.heap.size = A at hD ⊢
  have hA : ∀ q : Nat, s.heap.size ≤ q → A q := fun q h => by rw [← hAe]; exact Or.inr h
  have hS : va_S A s.heap s.heap [] := va_S.rf
  have hl := lv_entry ([.ref h0]) (n := 1) (Nat.le_of_ble_eq_true rfl)
  rw [lg_entry_eq]
  generalize (lg_sl ([.ref h0]) ++ List.replicate (1 - (lg_sl ([.ref h0])).length) Slot.unset).toArray = ls at hl ⊢
  have hl : lv_has ls 1 [(0, .ref h0)] := hl
  generalize hRR : (headSpec wsIDra { frames := 1, cells := 0, slots := 0, locals := 12 }).room = RR
  have hR1 : RR.frames = 1 ∧ RR.cells = 0 ∧ RR.slots = 0 ∧ RR.locals = 12 := by subst hRR; exact ⟨rfl, rfl, rfl, rfl⟩
  refine lv_aload_n hx hb dIDra_0 rfl (lv_at hl 0 rfl) ?_
  refine W.objInit hx hb hown (hws _ (in_aTbl 172 (by decide +kernel) rfl)) (hws _ (in_aTbl 68 (by decide +kernel) rfl)) (hws _ (in_aTbl 69 (by decide +kernel) rfl)) rfl (by rw [hml]; exact hl.1) rfl dIDra_1 (by omega) (by show 0 + 12 ≤ RR.locals; omega) ?_
  refine W.eq (g2 := F0 m 4 ls []) rfl ?_
  refine lv_aload_n hx hb dIDra_4 rfl (lv_at hl 0 rfl) ?_
  refine lv_iconst (v := 0) hx hb dIDra_5 (by decide) ?_
  refine va_put (D := D) (ci := 2) (v := .int 0) (ty := .int) (own := "OnlyInDisguise$Draws") (ref := "OnlyInDisguise$Draws") (C := RX2) (T := TX2) (N := 1) hx hb hws iaX2 tyX2 tyX2_ok nmX2 hown hK hP hD hS 0 rfl rfl 0 (by decide) (hws _ (in_aTbl 173 (by decide +kernel) rfl)) (fun _ h => h) rfl (by decide +kernel) rfl rfl (Nat.le_of_ble_eq_true rfl) dIDra_6 (fun H locs hP hD hS => ?_)
  have hP : va_P D aCl [(h0, .inr (2, [.int 0]))] H := hP
  have hD : va_D A [(h0, .inr (2, [.int 0]))] := hD
  have hP9 : va_P D aCl (kDra h0) H := hP
  have hD9 : va_D A (kDra h0) := hD
  refine W.widen (k := 0) (n := 0) (by omega) (by omega) ?_
  exact W.vret hx hb hr (fun t ht hW => ⟨⟨(), rfl, trivial, by rw [ht]; exact hP9, hD9⟩, hS.F ht⟩) hS.2.2 dIDra_9
set_option maxHeartbeats 4000000 in
set_option maxRecDepth 100000 in
theorem i_Cls (l : Launch) (D : va_G) (cA : ClassId) (h0 sz : Nat) : Met l nmICls wsICls { frames := 2, cells := 37, slots := 2617, locals := 60 } (va_Pc [.ref h0] (fun U => U.heap.size = sz ∧ va_P D aCl [(h0, .inr (4, [.null, .null, .null, .int 0, .null, .null, .null, .null, .null]))] U.heap ∧ va_K D aCl [(cA, .int)] U ∧ va_D (fun _ => True) [(h0, .inr (4, [.null, .null, .null, .int 0, .null, .null, .null, .null, .null]))] ∧ iNe U)) (va_Qv (fun _ : Nat → Nat → Nat => True) (fun u t => va_P D aCl (kCls cA h0 u) t.heap ∧ va_D (va_A [(h0, .inr (4, [.null, .null, .null, .int 0, .null, .null, .null, .null, .null]))] sz) (kCls cA h0 u)) (va_A [(h0, .inr (4, [.null, .null, .null, .int 0, .null, .null, .null, .null, .null]))] sz)) 37 2617 (va_A [(h0, .inr (4, [.null, .null, .null, .int 0, .null, .null, .null, .null, .null]))] sz) := by
  refine Met.ofW (cc := prog_1_method_1_code) (maxL := 1) (ret := none) (by decide) rfl ?_
  intro p e s m args below meth c s₁ B hml hv
  obtain ⟨rfl, hsz, hP, hK, hD0, hNe⟩ := hv
  have hx := B.exec
  have hb := B.bytes
  have hr := B.returns
  have hts := atoms_spec (ws := wsICls) B.pre
  have hws : ∀ w ∈ aTbl, w.before _ s = true := fun w hw => hts w (List.mem_cons_of_mem _ hw)
  have hown : s.vm.findClass "OnlyInDisguise" = some m.cls := findClass_of_methodNamed B.named
  have hlocks := B.notSynchronized
  have hin : meth.name = "<init>" := (name_of_methodNamed B.named B.method).1
  subst hsz
  have hD := hD0.self (sz := s.heap.size)
  generalize hAe : va_A [(h0, .inr (4, [.null, .null, .null, .int 0, .null, .null, .null, .null, .null]))] s.heap.size = A at hD ⊢
  have hA : ∀ q : Nat, s.heap.size ≤ q → A q := fun q h => by rw [← hAe]; exact Or.inr h
  have hS : va_S A s.heap s.heap [] := va_S.rf
  have hl := lv_entry ([.ref h0]) (n := 1) (Nat.le_of_ble_eq_true rfl)
  rw [lg_entry_eq]
  generalize (lg_sl ([.ref h0]) ++ List.replicate (1 - (lg_sl ([.ref h0])).length) Slot.unset).toArray = ls at hl ⊢
  have hl : lv_has ls 1 [(0, .ref h0)] := hl
  generalize hRR : (headSpec wsICls { frames := 2, cells := 37, slots := 2617, locals := 60 }).room = RR
  have hR1 : RR.frames = 2 ∧ RR.cells = 37 ∧ RR.slots = 2617 ∧ RR.locals = 60 := by subst hRR; exact ⟨rfl, rfl, rfl, rfl⟩
  refine lv_aload_n hx hb dICls_0 rfl (lv_at hl 0 rfl) ?_
  refine W.objInit hx hb hown (hws _ (in_aTbl 67 (by decide +kernel) rfl)) (hws _ (in_aTbl 68 (by decide +kernel) rfl)) (hws _ (in_aTbl 69 (by decide +kernel) rfl)) rfl (by rw [hml]; exact hl.1) rfl dICls_1 (by omega) (by show 0 + 12 ≤ RR.locals; omega) ?_
  refine W.eq (g2 := F0 m 4 ls []) rfl ?_
  refine lv_aload_n hx hb dICls_4 rfl (lv_at hl 0 rfl) ?_
  refine va_new (ci := 0) (fs := [.int 0, .int 0, .int 0, .int 0, .null, .null, .null, .null, .null, .null, .null]) (C := RX0) (T := TX0) (N := 11) hx hb hws iaX0 tyX0 tyX0_ok hown (hws _ (in_aTbl 70 (by decide +kernel) rfl)) (hws _ (in_aTbl 71 (by decide +kernel) rfl)) (hws _ (in_aTbl 46 (by decide +kernel) rfl)) hK hP hD hS hA rfl fX0 (by omega) (by omega) dICls_5 (fun q5 H hP hD hS => ?_)
  have hP : va_P D aCl [(h0, .inr (4, [.null, .null, .null, .int 0, .null, .null, .null, .null, .null])), (q5, .inr (0, [.int 0, .int 0, .int 0, .int 0, .null, .null, .null, .null, .null, .null, .null]))] H := hP
  have hD : va_D A [(h0, .inr (4, [.null, .null, .null, .int 0, .null, .null, .null, .null, .null])), (q5, .inr (0, [.int 0, .int 0, .int 0, .int 0, .null, .null, .null, .null, .null, .null, .null]))] := hD
  refine lv_dup hx hb dICls_8 rfl ?_
  have hPc := hP.sub (ws' := [(q5, .inr (0, [.int 0, .int 0, .int 0, .int 0, .null, .null, .null, .null, .null, .null, .null]))]) [1] rfl
  have hDc := hD.sub (ws' := [(q5, .inr (0, [.int 0, .int 0, .int 0, .int 0, .null, .null, .null, .null, .null, .null, .null]))]) [1] (by decide) rfl
  have hFc := va_free (wc := [(q5, .inr (0, [.int 0, .int 0, .int 0, .int 0, .null, .null, .null, .null, .null, .null, .null]))]) hD hS hA [1] rfl
  refine va_callv (va_runI (As := []) (rest := [.ref q5, .ref h0]) ⟨hx, hb, hml, hown, hws⟩ (i_Cab l D cA q5 H.size) (cwI 0 hws good_ICab rfl rfl rfl (hws _ (in_aTbl 46 (by decide +kernel) rfl)) (hws _ (in_aTbl 72 (by decide +kernel) rfl)) (hws _ (in_aTbl 73 (by decide +kernel) rfl)) rfl (by decide +kernel) ⟨by show 1 + 1 ≤ RR.frames; omega, by show 8 + (2 + 11) + 12 ≤ RR.locals; omega⟩) ⟨fun a U g mk q => by obtain ⟨q0, q1, qP, qK, qD⟩ := q; exact ⟨q0, q1, qP, va_K.moved (u := U) (U := U.calling g mk a) (Vm.Alike.refl U.vm) qK, qD⟩, fun U hU hW => ⟨rfl, by rw [hU], by rw [hU]; exact hPc, va_K.moved hW.alike hK, hDc.weaken (fun _ _ _ _ => trivial)⟩⟩ rfl rfl hl.1 rfl (lv_room (Nat.le_of_ble_eq_true rfl)) dICls_9 ⟨by omega, by omega⟩) hS (fun q _ h => hFc q h) hFc (fun u t H1 locs ht hvm _ hB hz1 hk1 hS => ?_)
  obtain ⟨hP1, hD1⟩ := hB
  rw [ht] at hP1
  obtain ⟨hP, hD⟩ := va_join (wr := [(h0, .inr (4, [.null, .null, .null, .int 0, .null, .null, .null, .null, .null]))]) (w1 := kCab cA q5 u) hP hD [1] [0] rfl rfl (by decide) (by decide) hk1 hFc hP1 hD1
  clear hPc hDc hFc hP1 hD1 hk1 hz1 ht hvm
  generalize H1 = H at hP hS ⊢
  obtain ⟨u0, rfl⟩ : ∃ z, z = u := ⟨_, rfl⟩
  have hP : va_P D aCl [(h0, .inr (4, [.null, .null, .null, .int 0, .null, .null, .null, .null, .null])), (q5, .inr (0, [.int 0, .int 0, .int 0, .int 0, .ref (u0 2), .ref (u0 3), .ref (u0 4), .ref (u0 5), .ref (u0 6), .ref (u0 7), .ref (u0 8)])), (u0 2, zA cA 8), (u0 3, zA cA 8), (u0 4, zA cA 8), (u0 5, zA cA 8), (u0 6, zA cA 8), (u0 7, fA cA 5 cz), (u0 8, fA cA 5 hz)] H := hP
  have hD : va_D A [(h0, .inr (4, [.null, .null, .null, .int 0, .null, .null, .null, .null, .null])), (q5, .inr (0, [.int 0, .int 0, .int 0, .int 0, .ref (u0 2), .ref (u0 3), .ref (u0 4), .ref (u0 5), .ref (u0 6), .ref (u0 7), .ref (u0 8)])), (u0 2, zA cA 8), (u0 3, zA cA 8), (u0 4, zA cA 8), (u0 5, zA cA 8), (u0 6, zA cA 8), (u0 7, fA cA 5 cz), (u0 8, fA cA 5 hz)] := hD
  refine va_putF (D := D) (ci := 4) (v := .ref q5) (ty := .object "OnlyInDisguise$Cabinet") (own := "OnlyInDisguise") (ref := "OnlyInDisguise") (C := RX6) (T := TX6) (N := 9) hx hb hws iaX6 tyX6 tyX6_ok nmX6 hown hK hP hD hS 0 rfl rfl 0 (by decide) (hws _ (in_aTbl 177 (by decide +kernel) rfl)) (fun _ h => h) rfl hin rfl (by decide +kernel) rfl rfl (Nat.le_of_ble_eq_true rfl) dICls_12 (fun H locs hP hD hS => ?_)
  have hP : va_P D aCl [(h0, .inr (4, [.ref q5, .null, .null, .int 0, .null, .null, .null, .null, .null])), (q5, .inr (0, [.int 0, .int 0, .int 0, .int 0, .ref (u0 2), .ref (u0 3), .ref (u0 4), .ref (u0 5), .ref (u0 6), .ref (u0 7), .ref (u0 8)])), (u0 2, zA cA 8), (u0 3, zA cA 8), (u0 4, zA cA 8), (u0 5, zA cA 8), (u0 6, zA cA 8), (u0 7, fA cA 5 cz), (u0 8, fA cA 5 hz)] H := hP
  have hD : va_D A [(h0, .inr (4, [.ref q5, .null, .null, .int 0, .null, .null, .null, .null, .null])), (q5, .inr (0, [.int 0, .int 0, .int 0, .int 0, .ref (u0 2), .ref (u0 3), .ref (u0 4), .ref (u0 5), .ref (u0 6), .ref (u0 7), .ref (u0 8)])), (u0 2, zA cA 8), (u0 3, zA cA 8), (u0 4, zA cA 8), (u0 5, zA cA 8), (u0 6, zA cA 8), (u0 7, fA cA 5 cz), (u0 8, fA cA 5 hz)] := hD
  refine lv_aload_n hx hb dICls_15 rfl (lv_at hl 0 rfl) ?_
  refine va_new (ci := 0) (fs := [.int 0, .int 0, .int 0, .int 0, .null, .null, .null, .null, .null, .null, .null]) (C := RX0) (T := TX0) (N := 11) hx hb hws iaX0 tyX0 tyX0_ok hown (hws _ (in_aTbl 70 (by decide +kernel) rfl)) (hws _ (in_aTbl 71 (by decide +kernel) rfl)) (hws _ (in_aTbl 46 (by decide +kernel) rfl)) hK hP hD hS hA rfl fX0 (by omega) (by omega) dICls_16 (fun q16 H hP hD hS => ?_)
  have hP : va_P D aCl [(h0, .inr (4, [.ref q5, .null, .null, .int 0, .null, .null, .null, .null, .null])), (q5, .inr (0, [.int 0, .int 0, .int 0, .int 0, .ref (u0 2), .ref (u0 3), .ref (u0 4), .ref (u0 5), .ref (u0 6), .ref (u0 7), .ref (u0 8)])), (u0 2, zA cA 8), (u0 3, zA cA 8), (u0 4, zA cA 8), (u0 5, zA cA 8), (u0 6, zA cA 8), (u0 7, fA cA 5 cz), (u0 8, fA cA 5 hz), (q16, .inr (0, [.int 0, .int 0, .int 0, .int 0, .null, .null, .null, .null, .null, .null, .null]))] H := hP
  have hD : va_D A [(h0, .inr (4, [.ref q5, .null, .null, .int 0, .null, .null, .null, .null, .null])), (q5, .inr (0, [.int 0, .int 0, .int 0, .int 0, .ref (u0 2), .ref (u0 3), .ref (u0 4), .ref (u0 5), .ref (u0 6), .ref (u0 7), .ref (u0 8)])), (u0 2, zA cA 8), (u0 3, zA cA 8), (u0 4, zA cA 8), (u0 5, zA cA 8), (u0 6, zA cA 8), (u0 7, fA cA 5 cz), (u0 8, fA cA 5 hz), (q16, .inr (0, [.int 0, .int 0, .int 0, .int 0, .null, .null, .null, .null, .null, .null, .null]))] := hD
  refine lv_dup hx hb dICls_19 rfl ?_
  have hPc := hP.sub (ws' := [(q16, .inr (0, [.int 0, .int 0, .int 0, .int 0, .null, .null, .null, .null, .null, .null, .null]))]) [9] rfl
  have hDc := hD.sub (ws' := [(q16, .inr (0, [.int 0, .int 0, .int 0, .int 0, .null, .null, .null, .null, .null, .null, .null]))]) [9] (by decide) rfl
  have hFc := va_free (wc := [(q16, .inr (0, [.int 0, .int 0, .int 0, .int 0, .null, .null, .null, .null, .null, .null, .null]))]) hD hS hA [9] rfl
  refine va_callv (va_runI (As := []) (rest := [.ref q16, .ref h0]) ⟨hx, hb, hml, hown, hws⟩ (i_Cab l D cA q16 H.size) (cwI 0 hws good_ICab rfl rfl rfl (hws _ (in_aTbl 46 (by decide +kernel) rfl)) (hws _ (in_aTbl 72 (by decide +kernel) rfl)) (hws _ (in_aTbl 73 (by decide +kernel) rfl)) rfl (by decide +kernel) ⟨by show 1 + 1 ≤ RR.frames; omega, by show 8 + (2 + 11) + 12 ≤ RR.locals; omega⟩) ⟨fun a U g mk q => by obtain ⟨q0, q1, qP, qK, qD⟩ := q; exact ⟨q0, q1, qP, va_K.moved (u := U) (U := U.calling g mk a) (Vm.Alike.refl U.vm) qK, qD⟩, fun U hU hW => ⟨rfl, by rw [hU], by rw [hU]; exact hPc, va_K.moved hW.alike hK, hDc.weaken (fun _ _ _ _ => trivial)⟩⟩ rfl rfl hl.1 rfl (lv_room (Nat.le_of_ble_eq_true rfl)) dICls_20 ⟨by omega, by omega⟩) hS (fun q _ h => hFc q h) hFc (fun u t H1 locs ht hvm _ hB hz1 hk1 hS => ?_)
  obtain ⟨hP1, hD1⟩ := hB
  rw [ht] at hP1
  obtain ⟨hP, hD⟩ := va_join (wr := [(h0, .inr (4, [.ref q5, .null, .null, .int 0, .null, .null, .null, .null, .null])), (q5, .inr (0, [.int 0, .int 0, .int 0, .int 0, .ref (u0 2), .ref (u0 3), .ref (u0 4), .ref (u0 5), .ref (u0 6), .ref (u0 7), .ref (u0 8)])), (u0 2, zA cA 8), (u0 3, zA cA 8), (u0 4, zA cA 8), (u0 5, zA cA 8), (u0 6, zA cA 8), (u0 7, fA cA 5 cz), (u0 8, fA cA 5 hz)]) (w1 := kCab cA q16 u) hP hD [9] [0, 1, 2, 3, 4, 5, 6, 7, 8] rfl rfl (by decide) (by decide) hk1 hFc hP1 hD1
  clear hPc hDc hFc hP1 hD1 hk1 hz1 ht hvm
  generalize H1 = H at hP hS ⊢
  obtain ⟨u1, rfl⟩ : ∃ z, z = u := ⟨_, rfl⟩
  have hP : va_P D aCl [(h0, .inr (4, [.ref q5, .null, .null, .int 0, .null, .null, .null, .null, .null])), (q5, .inr (0, [.int 0, .int 0, .int 0, .int 0, .ref (u0 2), .ref (u0 3), .ref (u0 4), .ref (u0 5), .ref (u0 6), .ref (u0 7), .ref (u0 8)])), (u0 2, zA cA 8), (u0 3, zA cA 8), (u0 4, zA cA 8), (u0 5, zA cA 8), (u0 6, zA cA 8), (u0 7, fA cA 5 cz), (u0 8, fA cA 5 hz), (q16, .inr (0, [.int 0, .int 0, .int 0, .int 0, .ref (u1 2), .ref (u1 3), .ref (u1 4), .ref (u1 5), .ref (u1 6), .ref (u1 7), .ref (u1 8)])), (u1 2, zA cA 8), (u1 3, zA cA 8), (u1 4, zA cA 8), (u1 5, zA cA 8), (u1 6, zA cA 8), (u1 7, fA cA 5 cz), (u1 8, fA cA 5 hz)] H := hP
  have hD : va_D A [(h0, .inr (4, [.ref q5, .null, .null, .int 0, .null, .null, .null, .null, .null])), (q5, .inr (0, [.int 0, .int 0, .int 0, .int 0, .ref (u0 2), .ref (u0 3), .ref (u0 4), .ref (u0 5), .ref (u0 6), .ref (u0 7), .ref (u0 8)])), (u0 2, zA cA 8), (u0 3, zA cA 8), (u0 4, zA cA 8), (u0 5, zA cA 8), (u0 6, zA cA 8), (u0 7, fA cA 5 cz), (u0 8, fA cA 5 hz), (q16, .inr (0, [.int 0, .int 0, .int 0, .int 0, .ref (u1 2), .ref (u1 3), .ref (u1 4), .ref (u1 5), .ref (u1 6), .ref (u1 7), .ref (u1 8)])), (u1 2, zA cA 8), (u1 3, zA cA 8), (u1 4, zA cA 8), (u1 5, zA cA 8), (u1 6, zA cA 8), (u1 7, fA cA 5 cz), (u1 8, fA cA 5 hz)] := hD
  refine va_putF (D := D) (ci := 4) (v := .ref q16) (ty := .object "OnlyInDisguise$Cabinet") (own := "OnlyInDisguise") (ref := "OnlyInDisguise") (C := RX6) (T := TX6) (N := 9) hx hb hws iaX6 tyX6 tyX6_ok nmX6 hown hK hP hD hS 0 rfl rfl 1 (by decide) (hws _ (in_aTbl 178 (by decide +kernel) rfl)) (fun _ h => h) rfl hin rfl (by decide +kernel) rfl rfl (Nat.le_of_ble_eq_true rfl) dICls_23 (fun H locs hP hD hS => ?_)
  have hP : va_P D aCl [(h0, .inr (4, [.ref q5, .ref q16, .null, .int 0, .null, .null, .null, .null, .null])), (q5, .inr (0, [.int 0, .int 0, .int 0, .int 0, .ref (u0 2), .ref (u0 3), .ref (u0 4), .ref (u0 5), .ref (u0 6), .ref (u0 7), .ref (u0 8)])), (u0 2, zA cA 8), (u0 3, zA cA 8), (u0 4, zA cA 8), (u0 5, zA cA 8), (u0 6, zA cA 8), (u0 7, fA cA 5 cz), (u0 8, fA cA 5 hz), (q16, .inr (0, [.int 0, .int 0, .int 0, .int 0, .ref (u1 2), .ref (u1 3), .ref (u1 4), .ref (u1 5), .ref (u1 6), .ref (u1 7), .ref (u1 8)])), (u1 2, zA cA 8), (u1 3, zA cA 8), (u1 4, zA cA 8), (u1 5, zA cA 8), (u1 6, zA cA 8), (u1 7, fA cA 5 cz), (u1 8, fA cA 5 hz)] H := hP
  have hD : va_D A [(h0, .inr (4, [.ref q5, .ref q16, .null, .int 0, .null, .null, .null, .null, .null])), (q5, .inr (0, [.int 0, .int 0, .int 0, .int 0, .ref (u0 2), .ref (u0 3), .ref (u0 4), .ref (u0 5), .ref (u0 6), .ref (u0 7), .ref (u0 8)])), (u0 2, zA cA 8), (u0 3, zA cA 8), (u0 4, zA cA 8), (u0 5, zA cA 8), (u0 6, zA cA 8), (u0 7, fA cA 5 cz), (u0 8, fA cA 5 hz), (q16, .inr (0, [.int 0, .int 0, .int 0, .int 0, .ref (u1 2), .ref (u1 3), .ref (u1 4), .ref (u1 5), .ref (u1 6), .ref (u1 7), .ref (u1 8)])), (u1 2, zA cA 8), (u1 3, zA cA 8), (u1 4, zA cA 8), (u1 5, zA cA 8), (u1 6, zA cA 8), (u1 7, fA cA 5 cz), (u1 8, fA cA 5 hz)] := hD
  refine lv_aload_n hx hb dICls_26 rfl (lv_at hl 0 rfl) ?_
  refine va_new (ci := 0) (fs := [.int 0, .int 0, .int 0, .int 0, .null, .null, .null, .null, .null, .null, .null]) (C := RX0) (T := TX0) (N := 11) hx hb hws iaX0 tyX0 tyX0_ok hown (hws _ (in_aTbl 70 (by decide +kernel) rfl)) (hws _ (in_aTbl 71 (by decide +kernel) rfl)) (hws _ (in_aTbl 46 (by decide +kernel) rfl)) hK hP hD hS hA rfl fX0 (by omega) (by omega) dICls_27 (fun q27 H hP hD hS => ?_)
  have hP : va_P D aCl [(h0, .inr (4, [.ref q5, .ref q16, .null, .int 0, .null, .null, .null, .null, .null])), (q5, .inr (0, [.int 0, .int 0, .int 0, .int 0, .ref (u0 2), .ref (u0 3), .ref (u0 4), .ref (u0 5), .ref (u0 6), .ref (u0 7), .ref (u0 8)])), (u0 2, zA cA 8), (u0 3, zA cA 8), (u0 4, zA cA 8), (u0 5, zA cA 8), (u0 6, zA cA 8), (u0 7, fA cA 5 cz), (u0 8, fA cA 5 hz), (q16, .inr (0, [.int 0, .int 0, .int 0, .int 0, .ref (u1 2), .ref (u1 3), .ref (u1 4), .ref (u1 5), .ref (u1 6), .ref (u1 7), .ref (u1 8)])), (u1 2, zA cA 8), (u1 3, zA cA 8), (u1 4, zA cA 8), (u1 5, zA cA 8), (u1 6, zA cA 8), (u1 7, fA cA 5 cz), (u1 8, fA cA 5 hz), (q27, .inr (0, [.int 0, .int 0, .int 0, .int 0, .null, .null, .null, .null, .null, .null, .null]))] H := hP
  have hD : va_D A [(h0, .inr (4, [.ref q5, .ref q16, .null, .int 0, .null, .null, .null, .null, .null])), (q5, .inr (0, [.int 0, .int 0, .int 0, .int 0, .ref (u0 2), .ref (u0 3), .ref (u0 4), .ref (u0 5), .ref (u0 6), .ref (u0 7), .ref (u0 8)])), (u0 2, zA cA 8), (u0 3, zA cA 8), (u0 4, zA cA 8), (u0 5, zA cA 8), (u0 6, zA cA 8), (u0 7, fA cA 5 cz), (u0 8, fA cA 5 hz), (q16, .inr (0, [.int 0, .int 0, .int 0, .int 0, .ref (u1 2), .ref (u1 3), .ref (u1 4), .ref (u1 5), .ref (u1 6), .ref (u1 7), .ref (u1 8)])), (u1 2, zA cA 8), (u1 3, zA cA 8), (u1 4, zA cA 8), (u1 5, zA cA 8), (u1 6, zA cA 8), (u1 7, fA cA 5 cz), (u1 8, fA cA 5 hz), (q27, .inr (0, [.int 0, .int 0, .int 0, .int 0, .null, .null, .null, .null, .null, .null, .null]))] := hD
  refine lv_dup hx hb dICls_30 rfl ?_
  have hPc := hP.sub (ws' := [(q27, .inr (0, [.int 0, .int 0, .int 0, .int 0, .null, .null, .null, .null, .null, .null, .null]))]) [17] rfl
  have hDc := hD.sub (ws' := [(q27, .inr (0, [.int 0, .int 0, .int 0, .int 0, .null, .null, .null, .null, .null, .null, .null]))]) [17] (by decide) rfl
  have hFc := va_free (wc := [(q27, .inr (0, [.int 0, .int 0, .int 0, .int 0, .null, .null, .null, .null, .null, .null, .null]))]) hD hS hA [17] rfl
  refine va_callv (va_runI (As := []) (rest := [.ref q27, .ref h0]) ⟨hx, hb, hml, hown, hws⟩ (i_Cab l D cA q27 H.size) (cwI 0 hws good_ICab rfl rfl rfl (hws _ (in_aTbl 46 (by decide +kernel) rfl)) (hws _ (in_aTbl 72 (by decide +kernel) rfl)) (hws _ (in_aTbl 73 (by decide +kernel) rfl)) rfl (by decide +kernel) ⟨by show 1 + 1 ≤ RR.frames; omega, by show 8 + (2 + 11) + 12 ≤ RR.locals; omega⟩) ⟨fun a U g mk q => by obtain ⟨q0, q1, qP, qK, qD⟩ := q; exact ⟨q0, q1, qP, va_K.moved (u := U) (U := U.calling g mk a) (Vm.Alike.refl U.vm) qK, qD⟩, fun U hU hW => ⟨rfl, by rw [hU], by rw [hU]; exact hPc, va_K.moved hW.alike hK, hDc.weaken (fun _ _ _ _ => trivial)⟩⟩ rfl rfl hl.1 rfl (lv_room (Nat.le_of_ble_eq_true rfl)) dICls_31 ⟨by omega, by omega⟩) hS (fun q _ h => hFc q h) hFc (fun u t H1 locs ht hvm _ hB hz1 hk1 hS => ?_)
  obtain ⟨hP1, hD1⟩ := hB
  rw [ht] at hP1
  obtain ⟨hP, hD⟩ := va_join (wr := [(h0, .inr (4, [.ref q5, .ref q16, .null, .int 0, .null, .null, .null, .null, .null])), (q5, .inr (0, [.int 0, .int 0, .int 0, .int 0, .ref (u0 2), .ref (u0 3), .ref (u0 4), .ref (u0 5), .ref (u0 6), .ref (u0 7), .ref (u0 8)])), (u0 2, zA cA 8), (u0 3, zA cA 8), (u0 4, zA cA 8), (u0 5, zA cA 8), (u0 6, zA cA 8), (u0 7, fA cA 5 cz), (u0 8, fA cA 5 hz), (q16, .inr (0, [.int 0, .int 0, .int 0, .int 0, .ref (u1 2), .ref (u1 3), .ref (u1 4), .ref (u1 5), .ref (u1 6), .ref (u1 7), .ref (u1 8)])), (u1 2, zA cA 8), (u1 3, zA cA 8), (u1 4, zA cA 8), (u1 5, zA cA 8), (u1 6, zA cA 8), (u1 7, fA cA 5 cz), (u1 8, fA cA 5 hz)]) (w1 := kCab cA q27 u) hP hD [17] [0, 1, 2, 3, 4, 5, 6, 7, 8, 9, 10, 11, 12, 13, 14, 15, 16] rfl rfl (by decide) (by decide) hk1 hFc hP1 hD1
  clear hPc hDc hFc hP1 hD1 hk1 hz1 ht hvm
  generalize H1 = H at hP hS ⊢
  obtain ⟨u2, rfl⟩ : ∃ z, z = u := ⟨_, rfl⟩
  have hP : va_P D aCl [(h0, .inr (4, [.ref q5, .ref q16, .null, .int 0, .null, .null, .null, .null, .null])), (q5, .inr (0, [.int 0, .int 0, .int 0, .int 0, .ref (u0 2), .ref (u0 3), .ref (u0 4), .ref (u0 5), .ref (u0 6), .ref (u0 7), .ref (u0 8)])), (u0 2, zA cA 8), (u0 3, zA cA 8), (u0 4, zA cA 8), (u0 5, zA cA 8), (u0 6, zA cA 8), (u0 7, fA cA 5 cz), (u0 8, fA cA 5 hz), (q16, .inr (0, [.int 0, .int 0, .int 0, .int 0, .ref (u1 2), .ref (u1 3), .ref (u1 4), .ref (u1 5), .ref (u1 6), .ref (u1 7), .ref (u1 8)])), (u1 2, zA cA 8), (u1 3, zA cA 8), (u1 4, zA cA 8), (u1 5, zA cA 8), (u1 6, zA cA 8), (u1 7, fA cA 5 cz), (u1 8, fA cA 5 hz), (q27, .inr (0, [.int 0, .int 0, .int 0, .int 0, .ref (u2 2), .ref (u2 3), .ref (u2 4), .ref (u2 5), .ref (u2 6), .ref (u2 7), .ref (u2 8)])), (u2 2, zA cA 8), (u2 3, zA cA 8), (u2 4, zA cA 8), (u2 5, zA cA 8), (u2 6, zA cA 8), (u2 7, fA cA 5 cz), (u2 8, fA cA 5 hz)] H := hP
  have hD : va_D A [(h0, .inr (4, [.ref q5, .ref q16, .null, .int 0, .null, .null, .null, .null, .null])), (q5, .inr (0, [.int 0, .int 0, .int 0, .int 0, .ref (u0 2), .ref (u0 3), .ref (u0 4), .ref (u0 5), .ref (u0 6), .ref (u0 7), .ref (u0 8)])), (u0 2, zA cA 8), (u0 3, zA cA 8), (u0 4, zA cA 8), (u0 5, zA cA 8), (u0 6, zA cA 8), (u0 7, fA cA 5 cz), (u0 8, fA cA 5 hz), (q16, .inr (0, [.int 0, .int 0, .int 0, .int 0, .ref (u1 2), .ref (u1 3), .ref (u1 4), .ref (u1 5), .ref (u1 6), .ref (u1 7), .ref (u1 8)])), (u1 2, zA cA 8), (u1 3, zA cA 8), (u1 4, zA cA 8), (u1 5, zA cA 8), (u1 6, zA cA 8), (u1 7, fA cA 5 cz), (u1 8, fA cA 5 hz), (q27, .inr (0, [.int 0, .int 0, .int 0, .int 0, .ref (u2 2), .ref (u2 3), .ref (u2 4), .ref (u2 5), .ref (u2 6), .ref (u2 7), .ref (u2 8)])), (u2 2, zA cA 8), (u2 3, zA cA 8), (u2 4, zA cA 8), (u2 5, zA cA 8), (u2 6, zA cA 8), (u2 7, fA cA 5 cz), (u2 8, fA cA 5 hz)] := hD
  refine va_putF (D := D) (ci := 4) (v := .ref q27) (ty := .object "OnlyInDisguise$Cabinet") (own := "OnlyInDisguise") (ref := "OnlyInDisguise") (C := RX6) (T := TX6) (N := 9) hx hb hws iaX6 tyX6 tyX6_ok nmX6 hown hK hP hD hS 0 rfl rfl 2 (by decide) (hws _ (in_aTbl 179 (by decide +kernel) rfl)) (fun _ h => h) rfl hin rfl (by decide +kernel) rfl rfl (Nat.le_of_ble_eq_true rfl) dICls_34 (fun H locs hP hD hS => ?_)
  have hP : va_P D aCl [(h0, .inr (4, [.ref q5, .ref q16, .ref q27, .int 0, .null, .null, .null, .null, .null])), (q5, .inr (0, [.int 0, .int 0, .int 0, .int 0, .ref (u0 2), .ref (u0 3), .ref (u0 4), .ref (u0 5), .ref (u0 6), .ref (u0 7), .ref (u0 8)])), (u0 2, zA cA 8), (u0 3, zA cA 8), (u0 4, zA cA 8), (u0 5, zA cA 8), (u0 6, zA cA 8), (u0 7, fA cA 5 cz), (u0 8, fA cA 5 hz), (q16, .inr (0, [.int 0, .int 0, .int 0, .int 0, .ref (u1 2), .ref (u1 3), .ref (u1 4), .ref (u1 5), .ref (u1 6), .ref (u1 7), .ref (u1 8)])), (u1 2, zA cA 8), (u1 3, zA cA 8), (u1 4, zA cA 8), (u1 5, zA cA 8), (u1 6, zA cA 8), (u1 7, fA cA 5 cz), (u1 8, fA cA 5 hz), (q27, .inr (0, [.int 0, .int 0, .int 0, .int 0, .ref (u2 2), .ref (u2 3), .ref (u2 4), .ref (u2 5), .ref (u2 6), .ref (u2 7), .ref (u2 8)])), (u2 2, zA cA 8), (u2 3, zA cA 8), (u2 4, zA cA 8), (u2 5, zA cA 8), (u2 6, zA cA 8), (u2 7, fA cA 5 cz), (u2 8, fA cA 5 hz)] H := hP
  have hD : va_D A [(h0, .inr (4, [.ref q5, .ref q16, .ref q27, .int 0, .null, .null, .null, .null, .null])), (q5, .inr (0, [.int 0, .int 0, .int 0, .int 0, .ref (u0 2), .ref (u0 3), .ref (u0 4), .ref (u0 5), .ref (u0 6), .ref (u0 7), .ref (u0 8)])), (u0 2, zA cA 8), (u0 3, zA cA 8), (u0 4, zA cA 8), (u0 5, zA cA 8), (u0 6, zA cA 8), (u0 7, fA cA 5 cz), (u0 8, fA cA 5 hz), (q16, .inr (0, [.int 0, .int 0, .int 0, .int 0, .ref (u1 2), .ref (u1 3), .ref (u1 4), .ref (u1 5), .ref (u1 6), .ref (u1 7), .ref (u1 8)])), (u1 2, zA cA 8), (u1 3, zA cA 8), (u1 4, zA cA 8), (u1 5, zA cA 8), (u1 6, zA cA 8), (u1 7, fA cA 5 cz), (u1 8, fA cA 5 hz), (q27, .inr (0, [.int 0, .int 0, .int 0, .int 0, .ref (u2 2), .ref (u2 3), .ref (u2 4), .ref (u2 5), .ref (u2 6), .ref (u2 7), .ref (u2 8)])), (u2 2, zA cA 8), (u2 3, zA cA 8), (u2 4, zA cA 8), (u2 5, zA cA 8), (u2 6, zA cA 8), (u2 7, fA cA 5 cz), (u2 8, fA cA 5 hz)] := hD
  refine lv_aload_n hx hb dICls_37 rfl (lv_at hl 0 rfl) ?_
  refine lv_iconst (v := 0) hx hb dICls_38 (by decide) ?_
  refine va_put (D := D) (ci := 4) (v := .int 0) (ty := .boolean) (own := "OnlyInDisguise") (ref := "OnlyInDisguise") (C := RX6) (T := TX6) (N := 9) hx hb hws iaX6 tyX6 tyX6_ok nmX6 hown hK hP hD hS 0 rfl rfl 3 (by decide) (hws _ (in_aTbl 180 (by decide +kernel) rfl)) (fun _ h => h) rfl (by decide +kernel) rfl rfl (Nat.le_of_ble_eq_true rfl) dICls_39 (fun H locs hP hD hS => ?_)
  have hP : va_P D aCl [(h0, .inr (4, [.ref q5, .ref q16, .ref q27, .int 0, .null, .null, .null, .null, .null])), (q5, .inr (0, [.int 0, .int 0, .int 0, .int 0, .ref (u0 2), .ref (u0 3), .ref (u0 4), .ref (u0 5), .ref (u0 6), .ref (u0 7), .ref (u0 8)])), (u0 2, zA cA 8), (u0 3, zA cA 8), (u0 4, zA cA 8), (u0 5, zA cA 8), (u0 6, zA cA 8), (u0 7, fA cA 5 cz), (u0 8, fA cA 5 hz), (q16, .inr (0, [.int 0, .int 0, .int 0, .int 0, .ref (u1 2), .ref (u1 3), .ref (u1 4), .ref (u1 5), .ref (u1 6), .ref (u1 7), .ref (u1 8)])), (u1 2, zA cA 8), (u1 3, zA cA 8), (u1 4, zA cA 8), (u1 5, zA cA 8), (u1 6, zA cA 8), (u1 7, fA cA 5 cz), (u1 8, fA cA 5 hz), (q27, .inr (0, [.int 0, .int 0, .int 0, .int 0, .ref (u2 2), .ref (u2 3), .ref (u2 4), .ref (u2 5), .ref (u2 6), .ref (u2 7), .ref (u2 8)])), (u2 2, zA cA 8), (u2 3, zA cA 8), (u2 4, zA cA 8), (u2 5, zA cA 8), (u2 6, zA cA 8), (u2 7, fA cA 5 cz), (u2 8, fA cA 5 hz)] H := hP
  have hD : va_D A [(h0, .inr (4, [.ref q5, .ref q16, .ref q27, .int 0, .null, .null, .null, .null, .null])), (q5, .inr (0, [.int 0, .int 0, .int 0, .int 0, .ref (u0 2), .ref (u0 3), .ref (u0 4), .ref (u0 5), .ref (u0 6), .ref (u0 7), .ref (u0 8)])), (u0 2, zA cA 8), (u0 3, zA cA 8), (u0 4, zA cA 8), (u0 5, zA cA 8), (u0 6, zA cA 8), (u0 7, fA cA 5 cz), (u0 8, fA cA 5 hz), (q16, .inr (0, [.int 0, .int 0, .int 0, .int 0, .ref (u1 2), .ref (u1 3), .ref (u1 4), .ref (u1 5), .ref (u1 6), .ref (u1 7), .ref (u1 8)])), (u1 2, zA cA 8), (u1 3, zA cA 8), (u1 4, zA cA 8), (u1 5, zA cA 8), (u1 6, zA cA 8), (u1 7, fA cA 5 cz), (u1 8, fA cA 5 hz), (q27, .inr (0, [.int 0, .int 0, .int 0, .int 0, .ref (u2 2), .ref (u2 3), .ref (u2 4), .ref (u2 5), .ref (u2 6), .ref (u2 7), .ref (u2 8)])), (u2 2, zA cA 8), (u2 3, zA cA 8), (u2 4, zA cA 8), (u2 5, zA cA 8), (u2 6, zA cA 8), (u2 7, fA cA 5 cz), (u2 8, fA cA 5 hz)] := hD
  refine lv_aload_n hx hb dICls_42 rfl (lv_at hl 0 rfl) ?_
  refine va_new (ci := 3) (fs := [.null, .null, .null, .null, .null, .null]) (C := RX4) (T := TX4) (N := 6) hx hb hws iaX4 tyX4 tyX4_ok hown (hws _ (in_aTbl 126 (by decide +kernel) rfl)) (hws _ (in_aTbl 127 (by decide +kernel) rfl)) (hws _ (in_aTbl 47 (by decide +kernel) rfl)) hK hP hD hS hA rfl fX4 (by omega) (by omega) dICls_43 (fun q43 H hP hD hS => ?_)
  have hP : va_P D aCl [(h0, .inr (4, [.ref q5, .ref q16, .ref q27, .int 0, .null, .null, .null, .null, .null])), (q5, .inr (0, [.int 0, .int 0, .int 0, .int 0, .ref (u0 2), .ref (u0 3), .ref (u0 4), .ref (u0 5), .ref (u0 6), .ref (u0 7), .ref (u0 8)])), (u0 2, zA cA 8), (u0 3, zA cA 8), (u0 4, zA cA 8), (u0 5, zA cA 8), (u0 6, zA cA 8), (u0 7, fA cA 5 cz), (u0 8, fA cA 5 hz), (q16, .inr (0, [.int 0, .int 0, .int 0, .int 0, .ref (u1 2), .ref (u1 3), .ref (u1 4), .ref (u1 5), .ref (u1 6), .ref (u1 7), .ref (u1 8)])), (u1 2, zA cA 8), (u1 3, zA cA 8), (u1 4, zA cA 8), (u1 5, zA cA 8), (u1 6, zA cA 8), (u1 7, fA cA 5 cz), (u1 8, fA cA 5 hz), (q27, .inr (0, [.int 0, .int 0, .int 0, .int 0, .ref (u2 2), .ref (u2 3), .ref (u2 4), .ref (u2 5), .ref (u2 6), .ref (u2 7), .ref (u2 8)])), (u2 2, zA cA 8), (u2 3, zA cA 8), (u2 4, zA cA 8), (u2 5, zA cA 8), (u2 6, zA cA 8), (u2 7, fA cA 5 cz), (u2 8, fA cA 5 hz), (q43, .inr (3, [.null, .null, .null, .null, .null, .null]))] H := hP
  have hD : va_D A [(h0, .inr (4, [.ref q5, .ref q16, .ref q27, .int 0, .null, .null, .null, .null, .null])), (q5, .inr (0, [.int 0, .int 0, .int 0, .int 0, .ref (u0 2), .ref (u0 3), .ref (u0 4), .ref (u0 5), .ref (u0 6), .ref (u0 7), .ref (u0 8)])), (u0 2, zA cA 8), (u0 3, zA cA 8), (u0 4, zA cA 8), (u0 5, zA cA 8), (u0 6, zA cA 8), (u0 7, fA cA 5 cz), (u0 8, fA cA 5 hz), (q16, .inr (0, [.int 0, .int 0, .int 0, .int 0, .ref (u1 2), .ref (u1 3), .ref (u1 4), .ref (u1 5), .ref (u1 6), .ref (u1 7), .ref (u1 8)])), (u1 2, zA cA 8), (u1 3, zA cA 8), (u1 4, zA cA 8), (u1 5, zA cA 8), (u1 6, zA cA 8), (u1 7, fA cA 5 cz), (u1 8, fA cA 5 hz), (q27, .inr (0, [.int 0, .int 0, .int 0, .int 0, .ref (u2 2), .ref (u2 3), .ref (u2 4), .ref (u2 5), .ref (u2 6), .ref (u2 7), .ref (u2 8)])), (u2 2, zA cA 8), (u2 3, zA cA 8), (u2 4, zA cA 8), (u2 5, zA cA 8), (u2 6, zA cA 8), (u2 7, fA cA 5 cz), (u2 8, fA cA 5 hz), (q43, .inr (3, [.null, .null, .null, .null, .null, .null]))] := hD
  refine lv_dup hx hb dICls_46 rfl ?_
  have hPc := hP.sub (ws' := [(q43, .inr (3, [.null, .null, .null, .null, .null, .null]))]) [25] rfl
  have hDc := hD.sub (ws' := [(q43, .inr (3, [.null, .null, .null, .null, .null, .null]))]) [25] (by decide) rfl
  have hFc := va_free (wc := [(q43, .inr (3, [.null, .null, .null, .null, .null, .null]))]) hD hS hA [25] rfl
  refine va_callv (va_runIN (As := []) (rest := [.ref q43, .ref h0]) ⟨hx, hb, hml, hown, hws⟩ (i_She l D cA q43 H.size) ⟨va_cnB (host := "OnlyInDisguise") 0 hws good_IShe rfl rfl rfl (hNe ("OnlyInDisguise", 28, nmIShe, "OnlyInDisguise") (List.mem_of_getElem? (i := 0) rfl)) (hws _ (in_aTbl 47 (by decide +kernel) rfl)) ⟨by decide, by decide, by decide +kernel⟩ ⟨by show 1 + 1 ≤ RR.frames; omega, by show 8 + (1 + 11) + 12 ≤ RR.locals; omega⟩, rfl, hws _ (in_aTbl 129 (by decide +kernel) rfl)⟩ ⟨fun a U g mk q => by obtain ⟨q0, q1, qP, qK, qD⟩ := q; exact ⟨q0, q1, qP, va_K.moved (u := U) (U := U.calling g mk a) (Vm.Alike.refl U.vm) qK, qD⟩, fun U hU hW => ⟨rfl, by rw [hU], by rw [hU]; exact hPc, va_K.moved hW.alike hK, hDc.weaken (fun _ _ _ _ => trivial)⟩⟩ rfl rfl hl.1 rfl (lv_room (Nat.le_of_ble_eq_true rfl)) dICls_47 ⟨by omega, by omega⟩) hS (fun q _ h => hFc q h) hFc (fun u t H1 locs ht hvm _ hB hz1 hk1 hS => ?_)
  obtain ⟨hP1, hD1⟩ := hB
  rw [ht] at hP1
  obtain ⟨hP, hD⟩ := va_join (wr := [(h0, .inr (4, [.ref q5, .ref q16, .ref q27, .int 0, .null, .null, .null, .null, .null])), (q5, .inr (0, [.int 0, .int 0, .int 0, .int 0, .ref (u0 2), .ref (u0 3), .ref (u0 4), .ref (u0 5), .ref (u0 6), .ref (u0 7), .ref (u0 8)])), (u0 2, zA cA 8), (u0 3, zA cA 8), (u0 4, zA cA 8), (u0 5, zA cA 8), (u0 6, zA cA 8), (u0 7, fA cA 5 cz), (u0 8, fA cA 5 hz), (q16, .inr (0, [.int 0, .int 0, .int 0, .int 0, .ref (u1 2), .ref (u1 3), .ref (u1 4), .ref (u1 5), .ref (u1 6), .ref (u1 7), .ref (u1 8)])), (u1 2, zA cA 8), (u1 3, zA cA 8), (u1 4, zA cA 8), (u1 5, zA cA 8), (u1 6, zA cA 8), (u1 7, fA cA 5 cz), (u1 8, fA cA 5 hz), (q27, .inr (0, [.int 0, .int 0, .int 0, .int 0, .ref (u2 2), .ref (u2 3), .ref (u2 4), .ref (u2 5), .ref (u2 6), .ref (u2 7), .ref (u2 8)])), (u2 2, zA cA 8), (u2 3, zA cA 8), (u2 4, zA cA 8), (u2 5, zA cA 8), (u2 6, zA cA 8), (u2 7, fA cA 5 cz), (u2 8, fA cA 5 hz)]) (w1 := kShe cA q43 u) hP hD [25] [0, 1, 2, 3, 4, 5, 6, 7, 8, 9, 10, 11, 12, 13, 14, 15, 16, 17, 18, 19, 20, 21, 22, 23, 24] rfl rfl (by decide) (by decide) hk1 hFc hP1 hD1
  clear hPc hDc hFc hP1 hD1 hk1 hz1 ht hvm
  generalize H1 = H at hP hS ⊢
  obtain ⟨u3, rfl⟩ : ∃ z, z = u := ⟨_, rfl⟩
  have hP : va_P D aCl [(h0, .inr (4, [.ref q5, .ref q16, .ref q27, .int 0, .null, .null, .null, .null, .null])), (q5, .inr (0, [.int 0, .int 0, .int 0, .int 0, .ref (u0 2), .ref (u0 3), .ref (u0 4), .ref (u0 5), .ref (u0 6), .ref (u0 7), .ref (u0 8)])), (u0 2, zA cA 8), (u0 3, zA cA 8), (u0 4, zA cA 8), (u0 5, zA cA 8), (u0 6, zA cA 8), (u0 7, fA cA 5 cz), (u0 8, fA cA 5 hz), (q16, .inr (0, [.int 0, .int 0, .int 0, .int 0, .ref (u1 2), .ref (u1 3), .ref (u1 4), .ref (u1 5), .ref (u1 6), .ref (u1 7), .ref (u1 8)])), (u1 2, zA cA 8), (u1 3, zA cA 8), (u1 4, zA cA 8), (u1 5, zA cA 8), (u1 6, zA cA 8), (u1 7, fA cA 5 cz), (u1 8, fA cA 5 hz), (q27, .inr (0, [.int 0, .int 0, .int 0, .int 0, .ref (u2 2), .ref (u2 3), .ref (u2 4), .ref (u2 5), .ref (u2 6), .ref (u2 7), .ref (u2 8)])), (u2 2, zA cA 8), (u2 3, zA cA 8), (u2 4, zA cA 8), (u2 5, zA cA 8), (u2 6, zA cA 8), (u2 7, fA cA 5 cz), (u2 8, fA cA 5 hz), (q43, .inr (3, [.ref (u3 10), .ref (u3 11), .ref (u3 12), .ref (u3 13), .ref (u3 14), .ref (u3 15)])), (u3 10, zA cA 8), (u3 11, zA cA 8), (u3 12, zA cA 8), (u3 13, zA cA 8), (u3 14, zA cA 8), (u3 15, zA cA 800)] H := hP
  have hD : va_D A [(h0, .inr (4, [.ref q5, .ref q16, .ref q27, .int 0, .null, .null, .null, .null, .null])), (q5, .inr (0, [.int 0, .int 0, .int 0, .int 0, .ref (u0 2), .ref (u0 3), .ref (u0 4), .ref (u0 5), .ref (u0 6), .ref (u0 7), .ref (u0 8)])), (u0 2, zA cA 8), (u0 3, zA cA 8), (u0 4, zA cA 8), (u0 5, zA cA 8), (u0 6, zA cA 8), (u0 7, fA cA 5 cz), (u0 8, fA cA 5 hz), (q16, .inr (0, [.int 0, .int 0, .int 0, .int 0, .ref (u1 2), .ref (u1 3), .ref (u1 4), .ref (u1 5), .ref (u1 6), .ref (u1 7), .ref (u1 8)])), (u1 2, zA cA 8), (u1 3, zA cA 8), (u1 4, zA cA 8), (u1 5, zA cA 8), (u1 6, zA cA 8), (u1 7, fA cA 5 cz), (u1 8, fA cA 5 hz), (q27, .inr (0, [.int 0, .int 0, .int 0, .int 0, .ref (u2 2), .ref (u2 3), .ref (u2 4), .ref (u2 5), .ref (u2 6), .ref (u2 7), .ref (u2 8)])), (u2 2, zA cA 8), (u2 3, zA cA 8), (u2 4, zA cA 8), (u2 5, zA cA 8), (u2 6, zA cA 8), (u2 7, fA cA 5 cz), (u2 8, fA cA 5 hz), (q43, .inr (3, [.ref (u3 10), .ref (u3 11), .ref (u3 12), .ref (u3 13), .ref (u3 14), .ref (u3 15)])), (u3 10, zA cA 8), (u3 11, zA cA 8), (u3 12, zA cA 8), (u3 13, zA cA 8), (u3 14, zA cA 8), (u3 15, zA cA 800)] := hD
  refine va_putF (D := D) (ci := 4) (v := .ref q43) (ty := .object "OnlyInDisguise$Shelves") (own := "OnlyInDisguise") (ref := "OnlyInDisguise") (C := RX6) (T := TX6) (N := 9) hx hb hws iaX6 tyX6 tyX6_ok nmX6 hown hK hP hD hS 0 rfl rfl 4 (by decide) (hws _ (in_aTbl 181 (by decide +kernel) rfl)) (fun _ h => h) rfl hin rfl (by decide +kernel) rfl rfl (Nat.le_of_ble_eq_true rfl) dICls_50 (fun H locs hP hD hS => ?_)
  have hP : va_P D aCl [(h0, .inr (4, [.ref q5, .ref q16, .ref q27, .int 0, .ref q43, .null, .null, .null, .null])), (q5, .inr (0, [.int 0, .int 0, .int 0, .int 0, .ref (u0 2), .ref (u0 3), .ref (u0 4), .ref (u0 5), .ref (u0 6), .ref (u0 7), .ref (u0 8)])), (u0 2, zA cA 8), (u0 3, zA cA 8), (u0 4, zA cA 8), (u0 5, zA cA 8), (u0 6, zA cA 8), (u0 7, fA cA 5 cz), (u0 8, fA cA 5 hz), (q16, .inr (0, [.int 0, .int 0, .int 0, .int 0, .ref (u1 2), .ref (u1 3), .ref (u1 4), .ref (u1 5), .ref (u1 6), .ref (u1 7), .ref (u1 8)])), (u1 2, zA cA 8), (u1 3, zA cA 8), (u1 4, zA cA 8), (u1 5, zA cA 8), (u1 6, zA cA 8), (u1 7, fA cA 5 cz), (u1 8, fA cA 5 hz), (q27, .inr (0, [.int 0, .int 0, .int 0, .int 0, .ref (u2 2), .ref (u2 3), .ref (u2 4), .ref (u2 5), .ref (u2 6), .ref (u2 7), .ref (u2 8)])), (u2 2, zA cA 8), (u2 3, zA cA 8), (u2 4, zA cA 8), (u2 5, zA cA 8), (u2 6, zA cA 8), (u2 7, fA cA 5 cz), (u2 8, fA cA 5 hz), (q43, .inr (3, [.ref (u3 10), .ref (u3 11), .ref (u3 12), .ref (u3 13), .ref (u3 14), .ref (u3 15)])), (u3 10, zA cA 8), (u3 11, zA cA 8), (u3 12, zA cA 8), (u3 13, zA cA 8), (u3 14, zA cA 8), (u3 15, zA cA 800)] H := hP
  have hD : va_D A [(h0, .inr (4, [.ref q5, .ref q16, .ref q27, .int 0, .ref q43, .null, .null, .null, .null])), (q5, .inr (0, [.int 0, .int 0, .int 0, .int 0, .ref (u0 2), .ref (u0 3), .ref (u0 4), .ref (u0 5), .ref (u0 6), .ref (u0 7), .ref (u0 8)])), (u0 2, zA cA 8), (u0 3, zA cA 8), (u0 4, zA cA 8), (u0 5, zA cA 8), (u0 6, zA cA 8), (u0 7, fA cA 5 cz), (u0 8, fA cA 5 hz), (q16, .inr (0, [.int 0, .int 0, .int 0, .int 0, .ref (u1 2), .ref (u1 3), .ref (u1 4), .ref (u1 5), .ref (u1 6), .ref (u1 7), .ref (u1 8)])), (u1 2, zA cA 8), (u1 3, zA cA 8), (u1 4, zA cA 8), (u1 5, zA cA 8), (u1 6, zA cA 8), (u1 7, fA cA 5 cz), (u1 8, fA cA 5 hz), (q27, .inr (0, [.int 0, .int 0, .int 0, .int 0, .ref (u2 2), .ref (u2 3), .ref (u2 4), .ref (u2 5), .ref (u2 6), .ref (u2 7), .ref (u2 8)])), (u2 2, zA cA 8), (u2 3, zA cA 8), (u2 4, zA cA 8), (u2 5, zA cA 8), (u2 6, zA cA 8), (u2 7, fA cA 5 cz), (u2 8, fA cA 5 hz), (q43, .inr (3, [.ref (u3 10), .ref (u3 11), .ref (u3 12), .ref (u3 13), .ref (u3 14), .ref (u3 15)])), (u3 10, zA cA 8), (u3 11, zA cA 8), (u3 12, zA cA 8), (u3 13, zA cA 8), (u3 14, zA cA 8), (u3 15, zA cA 800)] := hD
  refine lv_aload_n hx hb dICls_53 rfl (lv_at hl 0 rfl) ?_
  refine va_new (ci := 1) (fs := [.null, .null, .int 0]) (C := RX1) (T := TX1) (N := 3) hx hb hws iaX1 tyX1 tyX1_ok hown (hws _ (in_aTbl 151 (by decide +kernel) rfl)) (hws _ (in_aTbl 152 (by decide +kernel) rfl)) (hws _ (in_aTbl 48 (by decide +kernel) rfl)) hK hP hD hS hA rfl fX1 (by omega) (by omega) dICls_54 (fun q54 H hP hD hS => ?_)
  have hP : va_P D aCl [(h0, .inr (4, [.ref q5, .ref q16, .ref q27, .int 0, .ref q43, .null, .null, .null, .null])), (q5, .inr (0, [.int 0, .int 0, .int 0, .int 0, .ref (u0 2), .ref (u0 3), .ref (u0 4), .ref (u0 5), .ref (u0 6), .ref (u0 7), .ref (u0 8)])), (u0 2, zA cA 8), (u0 3, zA cA 8), (u0 4, zA cA 8), (u0 5, zA cA 8), (u0 6, zA cA 8), (u0 7, fA cA 5 cz), (u0 8, fA cA 5 hz), (q16, .inr (0, [.int 0, .int 0, .int 0, .int 0, .ref (u1 2), .ref (u1 3), .ref (u1 4), .ref (u1 5), .ref (u1 6), .ref (u1 7), .ref (u1 8)])), (u1 2, zA cA 8), (u1 3, zA cA 8), (u1 4, zA cA 8), (u1 5, zA cA 8), (u1 6, zA cA 8), (u1 7, fA cA 5 cz), (u1 8, fA cA 5 hz), (q27, .inr (0, [.int 0, .int 0, .int 0, .int 0, .ref (u2 2), .ref (u2 3), .ref (u2 4), .ref (u2 5), .ref (u2 6), .ref (u2 7), .ref (u2 8)])), (u2 2, zA cA 8), (u2 3, zA cA 8), (u2 4, zA cA 8), (u2 5, zA cA 8), (u2 6, zA cA 8), (u2 7, fA cA 5 cz), (u2 8, fA cA 5 hz), (q43, .inr (3, [.ref (u3 10), .ref (u3 11), .ref (u3 12), .ref (u3 13), .ref (u3 14), .ref (u3 15)])), (u3 10, zA cA 8), (u3 11, zA cA 8), (u3 12, zA cA 8), (u3 13, zA cA 8), (u3 14, zA cA 8), (u3 15, zA cA 800), (q54, .inr (1, [.null, .null, .int 0]))] H := hP
  have hD : va_D A [(h0, .inr (4, [.ref q5, .ref q16, .ref q27, .int 0, .ref q43, .null, .null, .null, .null])), (q5, .inr (0, [.int 0, .int 0, .int 0, .int 0, .ref (u0 2), .ref (u0 3), .ref (u0 4), .ref (u0 5), .ref (u0 6), .ref (u0 7), .ref (u0 8)])), (u0 2, zA cA 8), (u0 3, zA cA 8), (u0 4, zA cA 8), (u0 5, zA cA 8), (u0 6, zA cA 8), (u0 7, fA cA 5 cz), (u0 8, fA cA 5 hz), (q16, .inr (0, [.int 0, .int 0, .int 0, .int 0, .ref (u1 2), .ref (u1 3), .ref (u1 4), .ref (u1 5), .ref (u1 6), .ref (u1 7), .ref (u1 8)])), (u1 2, zA cA 8), (u1 3, zA cA 8), (u1 4, zA cA 8), (u1 5, zA cA 8), (u1 6, zA cA 8), (u1 7, fA cA 5 cz), (u1 8, fA cA 5 hz), (q27, .inr (0, [.int 0, .int 0, .int 0, .int 0, .ref (u2 2), .ref (u2 3), .ref (u2 4), .ref (u2 5), .ref (u2 6), .ref (u2 7), .ref (u2 8)])), (u2 2, zA cA 8), (u2 3, zA cA 8), (u2 4, zA cA 8), (u2 5, zA cA 8), (u2 6, zA cA 8), (u2 7, fA cA 5 cz), (u2 8, fA cA 5 hz), (q43, .inr (3, [.ref (u3 10), .ref (u3 11), .ref (u3 12), .ref (u3 13), .ref (u3 14), .ref (u3 15)])), (u3 10, zA cA 8), (u3 11, zA cA 8), (u3 12, zA cA 8), (u3 13, zA cA 8), (u3 14, zA cA 8), (u3 15, zA cA 800), (q54, .inr (1, [.null, .null, .int 0]))] := hD
  refine lv_dup hx hb dICls_57 rfl ?_
  have hPc := hP.sub (ws' := [(q54, .inr (1, [.null, .null, .int 0]))]) [32] rfl
  have hDc := hD.sub (ws' := [(q54, .inr (1, [.null, .null, .int 0]))]) [32] (by decide) rfl
  have hFc := va_free (wc := [(q54, .inr (1, [.null, .null, .int 0]))]) hD hS hA [32] rfl
  refine va_callv (va_runIN (As := []) (rest := [.ref q54, .ref h0]) ⟨hx, hb, hml, hown, hws⟩ (i_Cas l D cA q54 H.size) ⟨va_cnB (host := "OnlyInDisguise") 0 hws good_ICas rfl rfl rfl (hNe ("OnlyInDisguise", 35, nmICas, "OnlyInDisguise") (List.mem_of_getElem? (i := 1) rfl)) (hws _ (in_aTbl 48 (by decide +kernel) rfl)) ⟨by decide, by decide, by decide +kernel⟩ ⟨by show 1 + 1 ≤ RR.frames; omega, by show 8 + (1 + 11) + 12 ≤ RR.locals; omega⟩, rfl, hws _ (in_aTbl 154 (by decide +kernel) rfl)⟩ ⟨fun a U g mk q => by obtain ⟨q0, q1, qP, qK, qD⟩ := q; exact ⟨q0, q1, qP, va_K.moved (u := U) (U := U.calling g mk a) (Vm.Alike.refl U.vm) qK, qD⟩, fun U hU hW => ⟨rfl, by rw [hU], by rw [hU]; exact hPc, va_K.moved hW.alike hK, hDc.weaken (fun _ _ _ _ => trivial)⟩⟩ rfl rfl hl.1 rfl (lv_room (Nat.le_of_ble_eq_true rfl)) dICls_58 ⟨by omega, by omega⟩) hS (fun q _ h => hFc q h) hFc (fun u t H1 locs ht hvm _ hB hz1 hk1 hS => ?_)
  obtain ⟨hP1, hD1⟩ := hB
  rw [ht] at hP1
  obtain ⟨hP, hD⟩ := va_join (wr := [(h0, .inr (4, [.ref q5, .ref q16, .ref q27, .int 0, .ref q43, .null, .null, .null, .null])), (q5, .inr (0, [.int 0, .int 0, .int 0, .int 0, .ref (u0 2), .ref (u0 3), .ref (u0 4), .ref (u0 5), .ref (u0 6), .ref (u0 7), .ref (u0 8)])), (u0 2, zA cA 8), (u0 3, zA cA 8), (u0 4, zA cA 8), (u0 5, zA cA 8), (u0 6, zA cA 8), (u0 7, fA cA 5 cz), (u0 8, fA cA 5 hz), (q16, .inr (0, [.int 0, .int 0, .int 0, .int 0, .ref (u1 2), .ref (u1 3), .ref (u1 4), .ref (u1 5), .ref (u1 6), .ref (u1 7), .ref (u1 8)])), (u1 2, zA cA 8), (u1 3, zA cA 8), (u1 4, zA cA 8), (u1 5, zA cA 8), (u1 6, zA cA 8), (u1 7, fA cA 5 cz), (u1 8, fA cA 5 hz), (q27, .inr (0, [.int 0, .int 0, .int 0, .int 0, .ref (u2 2), .ref (u2 3), .ref (u2 4), .ref (u2 5), .ref (u2 6), .ref (u2 7), .ref (u2 8)])), (u2 2, zA cA 8), (u2 3, zA cA 8), (u2 4, zA cA 8), (u2 5, zA cA 8), (u2 6, zA cA 8), (u2 7, fA cA 5 cz), (u2 8, fA cA 5 hz), (q43, .inr (3, [.ref (u3 10), .ref (u3 11), .ref (u3 12), .ref (u3 13), .ref (u3 14), .ref (u3 15)])), (u3 10, zA cA 8), (u3 11, zA cA 8), (u3 12, zA cA 8), (u3 13, zA cA 8), (u3 14, zA cA 8), (u3 15, zA cA 800)]) (w1 := kCas cA q54 u) hP hD [32] [0, 1, 2, 3, 4, 5, 6, 7, 8, 9, 10, 11, 12, 13, 14, 15, 16, 17, 18, 19, 20, 21, 22, 23, 24, 25, 26, 27, 28, 29, 30, 31] rfl rfl (by decide) (by decide) hk1 hFc hP1 hD1
  clear hPc hDc hFc hP1 hD1 hk1 hz1 ht hvm
  generalize H1 = H at hP hS ⊢
  obtain ⟨u4, rfl⟩ : ∃ z, z = u := ⟨_, rfl⟩
  have hP : va_P D aCl [(h0, .inr (4, [.ref q5, .ref q16, .ref q27, .int 0, .ref q43, .null, .null, .null, .null])), (q5, .inr (0, [.int 0, .int 0, .int 0, .int 0, .ref (u0 2), .ref (u0 3), .ref (u0 4), .ref (u0 5), .ref (u0 6), .ref (u0 7), .ref (u0 8)])), (u0 2, zA cA 8), (u0 3, zA cA 8), (u0 4, zA cA 8), (u0 5, zA cA 8), (u0 6, zA cA 8), (u0 7, fA cA 5 cz), (u0 8, fA cA 5 hz), (q16, .inr (0, [.int 0, .int 0, .int 0, .int 0, .ref (u1 2), .ref (u1 3), .ref (u1 4), .ref (u1 5), .ref (u1 6), .ref (u1 7), .ref (u1 8)])), (u1 2, zA cA 8), (u1 3, zA cA 8), (u1 4, zA cA 8), (u1 5, zA cA 8), (u1 6, zA cA 8), (u1 7, fA cA 5 cz), (u1 8, fA cA 5 hz), (q27, .inr (0, [.int 0, .int 0, .int 0, .int 0, .ref (u2 2), .ref (u2 3), .ref (u2 4), .ref (u2 5), .ref (u2 6), .ref (u2 7), .ref (u2 8)])), (u2 2, zA cA 8), (u2 3, zA cA 8), (u2 4, zA cA 8), (u2 5, zA cA 8), (u2 6, zA cA 8), (u2 7, fA cA 5 cz), (u2 8, fA cA 5 hz), (q43, .inr (3, [.ref (u3 10), .ref (u3 11), .ref (u3 12), .ref (u3 13), .ref (u3 14), .ref (u3 15)])), (u3 10, zA cA 8), (u3 11, zA cA 8), (u3 12, zA cA 8), (u3 13, zA cA 8), (u3 14, zA cA 8), (u3 15, zA cA 800), (q54, .inr (1, [.ref (u4 17), .ref (u4 18), .int 0])), (u4 17, zA cA 40), (u4 18, zA cA 1536)] H := hP
  have hD : va_D A [(h0, .inr (4, [.ref q5, .ref q16, .ref q27, .int 0, .ref q43, .null, .null, .null, .null])), (q5, .inr (0, [.int 0, .int 0, .int 0, .int 0, .ref (u0 2), .ref (u0 3), .ref (u0 4), .ref (u0 5), .ref (u0 6), .ref (u0 7), .ref (u0 8)])), (u0 2, zA cA 8), (u0 3, zA cA 8), (u0 4, zA cA 8), (u0 5, zA cA 8), (u0 6, zA cA 8), (u0 7, fA cA 5 cz), (u0 8, fA cA 5 hz), (q16, .inr (0, [.int 0, .int 0, .int 0, .int 0, .ref (u1 2), .ref (u1 3), .ref (u1 4), .ref (u1 5), .ref (u1 6), .ref (u1 7), .ref (u1 8)])), (u1 2, zA cA 8), (u1 3, zA cA 8), (u1 4, zA cA 8), (u1 5, zA cA 8), (u1 6, zA cA 8), (u1 7, fA cA 5 cz), (u1 8, fA cA 5 hz), (q27, .inr (0, [.int 0, .int 0, .int 0, .int 0, .ref (u2 2), .ref (u2 3), .ref (u2 4), .ref (u2 5), .ref (u2 6), .ref (u2 7), .ref (u2 8)])), (u2 2, zA cA 8), (u2 3, zA cA 8), (u2 4, zA cA 8), (u2 5, zA cA 8), (u2 6, zA cA 8), (u2 7, fA cA 5 cz), (u2 8, fA cA 5 hz), (q43, .inr (3, [.ref (u3 10), .ref (u3 11), .ref (u3 12), .ref (u3 13), .ref (u3 14), .ref (u3 15)])), (u3 10, zA cA 8), (u3 11, zA cA 8), (u3 12, zA cA 8), (u3 13, zA cA 8), (u3 14, zA cA 8), (u3 15, zA cA 800), (q54, .inr (1, [.ref (u4 17), .ref (u4 18), .int 0])), (u4 17, zA cA 40), (u4 18, zA cA 1536)] := hD
  refine va_putF (D := D) (ci := 4) (v := .ref q54) (ty := .object "OnlyInDisguise$Casting") (own := "OnlyInDisguise") (ref := "OnlyInDisguise") (C := RX6) (T := TX6) (N := 9) hx hb hws iaX6 tyX6 tyX6_ok nmX6 hown hK hP hD hS 0 rfl rfl 5 (by decide) (hws _ (in_aTbl 182 (by decide +kernel) rfl)) (fun _ h => h) rfl hin rfl (by decide +kernel) rfl rfl (Nat.le_of_ble_eq_true rfl) dICls_61 (fun H locs hP hD hS => ?_)
  have hP : va_P D aCl [(h0, .inr (4, [.ref q5, .ref q16, .ref q27, .int 0, .ref q43, .ref q54, .null, .null, .null])), (q5, .inr (0, [.int 0, .int 0, .int 0, .int 0, .ref (u0 2), .ref (u0 3), .ref (u0 4), .ref (u0 5), .ref (u0 6), .ref (u0 7), .ref (u0 8)])), (u0 2, zA cA 8), (u0 3, zA cA 8), (u0 4, zA cA 8), (u0 5, zA cA 8), (u0 6, zA cA 8), (u0 7, fA cA 5 cz), (u0 8, fA cA 5 hz), (q16, .inr (0, [.int 0, .int 0, .int 0, .int 0, .ref (u1 2), .ref (u1 3), .ref (u1 4), .ref (u1 5), .ref (u1 6), .ref (u1 7), .ref (u1 8)])), (u1 2, zA cA 8), (u1 3, zA cA 8), (u1 4, zA cA 8), (u1 5, zA cA 8), (u1 6, zA cA 8), (u1 7, fA cA 5 cz), (u1 8, fA cA 5 hz), (q27, .inr (0, [.int 0, .int 0, .int 0, .int 0, .ref (u2 2), .ref (u2 3), .ref (u2 4), .ref (u2 5), .ref (u2 6), .ref (u2 7), .ref (u2 8)])), (u2 2, zA cA 8), (u2 3, zA cA 8), (u2 4, zA cA 8), (u2 5, zA cA 8), (u2 6, zA cA 8), (u2 7, fA cA 5 cz), (u2 8, fA cA 5 hz), (q43, .inr (3, [.ref (u3 10), .ref (u3 11), .ref (u3 12), .ref (u3 13), .ref (u3 14), .ref (u3 15)])), (u3 10, zA cA 8), (u3 11, zA cA 8), (u3 12, zA cA 8), (u3 13, zA cA 8), (u3 14, zA cA 8), (u3 15, zA cA 800), (q54, .inr (1, [.ref (u4 17), .ref (u4 18), .int 0])), (u4 17, zA cA 40), (u4 18, zA cA 1536)] H := hP
  have hD : va_D A [(h0, .inr (4, [.ref q5, .ref q16, .ref q27, .int 0, .ref q43, .ref q54, .null, .null, .null])), (q5, .inr (0, [.int 0, .int 0, .int 0, .int 0, .ref (u0 2), .ref (u0 3), .ref (u0 4), .ref (u0 5), .ref (u0 6), .ref (u0 7), .ref (u0 8)])), (u0 2, zA cA 8), (u0 3, zA cA 8), (u0 4, zA cA 8), (u0 5, zA cA 8), (u0 6, zA cA 8), (u0 7, fA cA 5 cz), (u0 8, fA cA 5 hz), (q16, .inr (0, [.int 0, .int 0, .int 0, .int 0, .ref (u1 2), .ref (u1 3), .ref (u1 4), .ref (u1 5), .ref (u1 6), .ref (u1 7), .ref (u1 8)])), (u1 2, zA cA 8), (u1 3, zA cA 8), (u1 4, zA cA 8), (u1 5, zA cA 8), (u1 6, zA cA 8), (u1 7, fA cA 5 cz), (u1 8, fA cA 5 hz), (q27, .inr (0, [.int 0, .int 0, .int 0, .int 0, .ref (u2 2), .ref (u2 3), .ref (u2 4), .ref (u2 5), .ref (u2 6), .ref (u2 7), .ref (u2 8)])), (u2 2, zA cA 8), (u2 3, zA cA 8), (u2 4, zA cA 8), (u2 5, zA cA 8), (u2 6, zA cA 8), (u2 7, fA cA 5 cz), (u2 8, fA cA 5 hz), (q43, .inr (3, [.ref (u3 10), .ref (u3 11), .ref (u3 12), .ref (u3 13), .ref (u3 14), .ref (u3 15)])), (u3 10, zA cA 8), (u3 11, zA cA 8), (u3 12, zA cA 8), (u3 13, zA cA 8), (u3 14, zA cA 8), (u3 15, zA cA 800), (q54, .inr (1, [.ref (u4 17), .ref (u4 18), .int 0])), (u4 17, zA cA 40), (u4 18, zA cA 1536)] := hD
  refine lv_aload_n hx hb dICls_64 rfl (lv_at hl 0 rfl) ?_
  refine va_new (ci := 2) (fs := [.int 0]) (C := RX2) (T := TX2) (N := 1) hx hb hws iaX2 tyX2 tyX2_ok hown (hws _ (in_aTbl 167 (by decide +kernel) rfl)) (hws _ (in_aTbl 168 (by decide +kernel) rfl)) (hws _ (in_aTbl 49 (by decide +kernel) rfl)) hK hP hD hS hA rfl fX2 (by omega) (by omega) dICls_65 (fun q65 H hP hD hS => ?_)
  have hP : va_P D aCl [(h0, .inr (4, [.ref q5, .ref q16, .ref q27, .int 0, .ref q43, .ref q54, .null, .null, .null])), (q5, .inr (0, [.int 0, .int 0, .int 0, .int 0, .ref (u0 2), .ref (u0 3), .ref (u0 4), .ref (u0 5), .ref (u0 6), .ref (u0 7), .ref (u0 8)])), (u0 2, zA cA 8), (u0 3, zA cA 8), (u0 4, zA cA 8), (u0 5, zA cA 8), (u0 6, zA cA 8), (u0 7, fA cA 5 cz), (u0 8, fA cA 5 hz), (q16, .inr (0, [.int 0, .int 0, .int 0, .int 0, .ref (u1 2), .ref (u1 3), .ref (u1 4), .ref (u1 5), .ref (u1 6), .ref (u1 7), .ref (u1 8)])), (u1 2, zA cA 8), (u1 3, zA cA 8), (u1 4, zA cA 8), (u1 5, zA cA 8), (u1 6, zA cA 8), (u1 7, fA cA 5 cz), (u1 8, fA cA 5 hz), (q27, .inr (0, [.int 0, .int 0, .int 0, .int 0, .ref (u2 2), .ref (u2 3), .ref (u2 4), .ref (u2 5), .ref (u2 6), .ref (u2 7), .ref (u2 8)])), (u2 2, zA cA 8), (u2 3, zA cA 8), (u2 4, zA cA 8), (u2 5, zA cA 8), (u2 6, zA cA 8), (u2 7, fA cA 5 cz), (u2 8, fA cA 5 hz), (q43, .inr (3, [.ref (u3 10), .ref (u3 11), .ref (u3 12), .ref (u3 13), .ref (u3 14), .ref (u3 15)])), (u3 10, zA cA 8), (u3 11, zA cA 8), (u3 12, zA cA 8), (u3 13, zA cA 8), (u3 14, zA cA 8), (u3 15, zA cA 800), (q54, .inr (1, [.ref (u4 17), .ref (u4 18), .int 0])), (u4 17, zA cA 40), (u4 18, zA cA 1536), (q65, .inr (2, [.int 0]))] H := hP
  have hD : va_D A [(h0, .inr (4, [.ref q5, .ref q16, .ref q27, .int 0, .ref q43, .ref q54, .null, .null, .null])), (q5, .inr (0, [.int 0, .int 0, .int 0, .int 0, .ref (u0 2), .ref (u0 3), .ref (u0 4), .ref (u0 5), .ref (u0 6), .ref (u0 7), .ref (u0 8)])), (u0 2, zA cA 8), (u0 3, zA cA 8), (u0 4, zA cA 8), (u0 5, zA cA 8), (u0 6, zA cA 8), (u0 7, fA cA 5 cz), (u0 8, fA cA 5 hz), (q16, .inr (0, [.int 0, .int 0, .int 0, .int 0, .ref (u1 2), .ref (u1 3), .ref (u1 4), .ref (u1 5), .ref (u1 6), .ref (u1 7), .ref (u1 8)])), (u1 2, zA cA 8), (u1 3, zA cA 8), (u1 4, zA cA 8), (u1 5, zA cA 8), (u1 6, zA cA 8), (u1 7, fA cA 5 cz), (u1 8, fA cA 5 hz), (q27, .inr (0, [.int 0, .int 0, .int 0, .int 0, .ref (u2 2), .ref (u2 3), .ref (u2 4), .ref (u2 5), .ref (u2 6), .ref (u2 7), .ref (u2 8)])), (u2 2, zA cA 8), (u2 3, zA cA 8), (u2 4, zA cA 8), (u2 5, zA cA 8), (u2 6, zA cA 8), (u2 7, fA cA 5 cz), (u2 8, fA cA 5 hz), (q43, .inr (3, [.ref (u3 10), .ref (u3 11), .ref (u3 12), .ref (u3 13), .ref (u3 14), .ref (u3 15)])), (u3 10, zA cA 8), (u3 11, zA cA 8), (u3 12, zA cA 8), (u3 13, zA cA 8), (u3 14, zA cA 8), (u3 15, zA cA 800), (q54, .inr (1, [.ref (u4 17), .ref (u4 18), .int 0])), (u4 17, zA cA 40), (u4 18, zA cA 1536), (q65, .inr (2, [.int 0]))] := hD
  refine lv_dup hx hb dICls_68 rfl ?_
  have hPc := hP.sub (ws' := [(q65, .inr (2, [.int 0]))]) [35] rfl
  have hDc := hD.sub (ws' := [(q65, .inr (2, [.int 0]))]) [35] (by decide) rfl
  have hFc := va_free (wc := [(q65, .inr (2, [.int 0]))]) hD hS hA [35] rfl
  refine va_callv (va_runIN (As := []) (rest := [.ref q65, .ref h0]) ⟨hx, hb, hml, hown, hws⟩ (i_Dra l D cA q65 H.size) ⟨va_cnB (host := "OnlyInDisguise") 0 hws good_IDra rfl rfl rfl (hNe ("OnlyInDisguise", 42, nmIDra, "OnlyInDisguise") (List.mem_of_getElem? (i := 2) rfl)) (hws _ (in_aTbl 49 (by decide +kernel) rfl)) ⟨by decide, by decide, by decide +kernel⟩ ⟨by show 1 + 1 ≤ RR.frames; omega, by show 8 + (1 + 11) + 12 ≤ RR.locals; omega⟩, rfl, hws _ (in_aTbl 170 (by decide +kernel) rfl)⟩ ⟨fun a U g mk q => by obtain ⟨q0, q1, qP, qK, qD⟩ := q; exact ⟨q0, q1, qP, va_K.moved (u := U) (U := U.calling g mk a) (Vm.Alike.refl U.vm) qK, qD⟩, fun U hU hW => ⟨rfl, by rw [hU], by rw [hU]; exact hPc, va_K.moved hW.alike hK, hDc.weaken (fun _ _ _ _ => trivial)⟩⟩ rfl rfl hl.1 rfl (lv_room (Nat.le_of_ble_eq_true rfl)) dICls_69 ⟨by omega, by omega⟩) hS (fun q _ h => hFc q h) hFc (fun u t H1 locs ht hvm _ hB hz1 hk1 hS => ?_)
  obtain ⟨hP1, hD1⟩ := hB
  rw [ht] at hP1
  obtain ⟨hP, hD⟩ := va_join (wr := [(h0, .inr (4, [.ref q5, .ref q16, .ref q27, .int 0, .ref q43, .ref q54, .null, .null, .null])), (q5, .inr (0, [.int 0, .int 0, .int 0, .int 0, .ref (u0 2), .ref (u0 3), .ref (u0 4), .ref (u0 5), .ref (u0 6), .ref (u0 7), .ref (u0 8)])), (u0 2, zA cA 8), (u0 3, zA cA 8), (u0 4, zA cA 8), (u0 5, zA cA 8), (u0 6, zA cA 8), (u0 7, fA cA 5 cz), (u0 8, fA cA 5 hz), (q16, .inr (0, [.int 0, .int 0, .int 0, .int 0, .ref (u1 2), .ref (u1 3), .ref (u1 4), .ref (u1 5), .ref (u1 6), .ref (u1 7), .ref (u1 8)])), (u1 2, zA cA 8), (u1 3, zA cA 8), (u1 4, zA cA 8), (u1 5, zA cA 8), (u1 6, zA cA 8), (u1 7, fA cA 5 cz), (u1 8, fA cA 5 hz), (q27, .inr (0, [.int 0, .int 0, .int 0, .int 0, .ref (u2 2), .ref (u2 3), .ref (u2 4), .ref (u2 5), .ref (u2 6), .ref (u2 7), .ref (u2 8)])), (u2 2, zA cA 8), (u2 3, zA cA 8), (u2 4, zA cA 8), (u2 5, zA cA 8), (u2 6, zA cA 8), (u2 7, fA cA 5 cz), (u2 8, fA cA 5 hz), (q43, .inr (3, [.ref (u3 10), .ref (u3 11), .ref (u3 12), .ref (u3 13), .ref (u3 14), .ref (u3 15)])), (u3 10, zA cA 8), (u3 11, zA cA 8), (u3 12, zA cA 8), (u3 13, zA cA 8), (u3 14, zA cA 8), (u3 15, zA cA 800), (q54, .inr (1, [.ref (u4 17), .ref (u4 18), .int 0])), (u4 17, zA cA 40), (u4 18, zA cA 1536)]) (w1 := kDra q65) hP hD [35] [0, 1, 2, 3, 4, 5, 6, 7, 8, 9, 10, 11, 12, 13, 14, 15, 16, 17, 18, 19, 20, 21, 22, 23, 24, 25, 26, 27, 28, 29, 30, 31, 32, 33, 34] rfl rfl (by decide) (by decide) hk1 hFc hP1 hD1
  clear hPc hDc hFc hP1 hD1 hk1 hz1 ht hvm
  generalize H1 = H at hP hS ⊢
  have hP : va_P D aCl [(h0, .inr (4, [.ref q5, .ref q16, .ref q27, .int 0, .ref q43, .ref q54, .null, .null, .null])), (q5, .inr (0, [.int 0, .int 0, .int 0, .int 0, .ref (u0 2), .ref (u0 3), .ref (u0 4), .ref (u0 5), .ref (u0 6), .ref (u0 7), .ref (u0 8)])), (u0 2, zA cA 8), (u0 3, zA cA 8), (u0 4, zA cA 8), (u0 5, zA cA 8), (u0 6, zA cA 8), (u0 7, fA cA 5 cz), (u0 8, fA cA 5 hz), (q16, .inr (0, [.int 0, .int 0, .int 0, .int 0, .ref (u1 2), .ref (u1 3), .ref (u1 4), .ref (u1 5), .ref (u1 6), .ref (u1 7), .ref (u1 8)])), (u1 2, zA cA 8), (u1 3, zA cA 8), (u1 4, zA cA 8), (u1 5, zA cA 8), (u1 6, zA cA 8), (u1 7, fA cA 5 cz), (u1 8, fA cA 5 hz), (q27, .inr (0, [.int 0, .int 0, .int 0, .int 0, .ref (u2 2), .ref (u2 3), .ref (u2 4), .ref (u2 5), .ref (u2 6), .ref (u2 7), .ref (u2 8)])), (u2 2, zA cA 8), (u2 3, zA cA 8), (u2 4, zA cA 8), (u2 5, zA cA 8), (u2 6, zA cA 8), (u2 7, fA cA 5 cz), (u2 8, fA cA 5 hz), (q43, .inr (3, [.ref (u3 10), .ref (u3 11), .ref (u3 12), .ref (u3 13), .ref (u3 14), .ref (u3 15)])), (u3 10, zA cA 8), (u3 11, zA cA 8), (u3 12, zA cA 8), (u3 13, zA cA 8), (u3 14, zA cA 8), (u3 15, zA cA 800), (q54, .inr (1, [.ref (u4 17), .ref (u4 18), .int 0])), (u4 17, zA cA 40), (u4 18, zA cA 1536), (q65, .inr (2, [.int 0]))] H := hP
  have hD : va_D A [(h0, .inr (4, [.ref q5, .ref q16, .ref q27, .int 0, .ref q43, .ref q54, .null, .null, .null])), (q5, .inr (0, [.int 0, .int 0, .int 0, .int 0, .ref (u0 2), .ref (u0 3), .ref (u0 4), .ref (u0 5), .ref (u0 6), .ref (u0 7), .ref (u0 8)])), (u0 2, zA cA 8), (u0 3, zA cA 8), (u0 4, zA cA 8), (u0 5, zA cA 8), (u0 6, zA cA 8), (u0 7, fA cA 5 cz), (u0 8, fA cA 5 hz), (q16, .inr (0, [.int 0, .int 0, .int 0, .int 0, .ref (u1 2), .ref (u1 3), .ref (u1 4), .ref (u1 5), .ref (u1 6), .ref (u1 7), .ref (u1 8)])), (u1 2, zA cA 8), (u1 3, zA cA 8), (u1 4, zA cA 8), (u1 5, zA cA 8), (u1 6, zA cA 8), (u1 7, fA cA 5 cz), (u1 8, fA cA 5 hz), (q27, .inr (0, [.int 0, .int 0, .int 0, .int 0, .ref (u2 2), .ref (u2 3), .ref (u2 4), .ref (u2 5), .ref (u2 6), .ref (u2 7), .ref (u2 8)])), (u2 2, zA cA 8), (u2 3, zA cA 8), (u2 4, zA cA 8), (u2 5, zA cA 8), (u2 6, zA cA 8), (u2 7, fA cA 5 cz), (u2 8, fA cA 5 hz), (q43, .inr (3, [.ref (u3 10), .ref (u3 11), .ref (u3 12), .ref (u3 13), .ref (u3 14), .ref (u3 15)])), (u3 10, zA cA 8), (u3 11, zA cA 8), (u3 12, zA cA 8), (u3 13, zA cA 8), (u3 14, zA cA 8), (u3 15, zA cA 800), (q54, .inr (1, [.ref (u4 17), .ref (u4 18), .int 0])), (u4 17, zA cA 40), (u4 18, zA cA 1536), (q65, .inr (2, [.int 0]))] := hD
  refine va_putF (D := D) (ci := 4) (v := .ref q65) (ty := .object "OnlyInDisguise$Draws") (own := "OnlyInDisguise") (ref := "OnlyInDisguise") (C := RX6) (T := TX6) (N := 9) hx hb hws iaX6 tyX6 tyX6_ok nmX6 hown hK hP hD hS 0 rfl rfl 6 (by decide) (hws _ (in_aTbl 183 (by decide +kernel) rfl)) (fun _ h => h) rfl hin rfl (by decide +kernel) rfl rfl (Nat.le_of_ble_eq_true rfl) dICls_72 (fun H locs hP hD hS => ?_)
  have hP : va_P D aCl [(h0, .inr (4, [.ref q5, .ref q16, .ref q27, .int 0, .ref q43, .ref q54, .ref q65, .null, .null])), (q5, .inr (0, [.int 0, .int 0, .int 0, .int 0, .ref (u0 2), .ref (u0 3), .ref (u0 4), .ref (u0 5), .ref (u0 6), .ref (u0 7), .ref (u0 8)])), (u0 2, zA cA 8), (u0 3, zA cA 8), (u0 4, zA cA 8), (u0 5, zA cA 8), (u0 6, zA cA 8), (u0 7, fA cA 5 cz), (u0 8, fA cA 5 hz), (q16, .inr (0, [.int 0, .int 0, .int 0, .int 0, .ref (u1 2), .ref (u1 3), .ref (u1 4), .ref (u1 5), .ref (u1 6), .ref (u1 7), .ref (u1 8)])), (u1 2, zA cA 8), (u1 3, zA cA 8), (u1 4, zA cA 8), (u1 5, zA cA 8), (u1 6, zA cA 8), (u1 7, fA cA 5 cz), (u1 8, fA cA 5 hz), (q27, .inr (0, [.int 0, .int 0, .int 0, .int 0, .ref (u2 2), .ref (u2 3), .ref (u2 4), .ref (u2 5), .ref (u2 6), .ref (u2 7), .ref (u2 8)])), (u2 2, zA cA 8), (u2 3, zA cA 8), (u2 4, zA cA 8), (u2 5, zA cA 8), (u2 6, zA cA 8), (u2 7, fA cA 5 cz), (u2 8, fA cA 5 hz), (q43, .inr (3, [.ref (u3 10), .ref (u3 11), .ref (u3 12), .ref (u3 13), .ref (u3 14), .ref (u3 15)])), (u3 10, zA cA 8), (u3 11, zA cA 8), (u3 12, zA cA 8), (u3 13, zA cA 8), (u3 14, zA cA 8), (u3 15, zA cA 800), (q54, .inr (1, [.ref (u4 17), .ref (u4 18), .int 0])), (u4 17, zA cA 40), (u4 18, zA cA 1536), (q65, .inr (2, [.int 0]))] H := hP
  have hD : va_D A [(h0, .inr (4, [.ref q5, .ref q16, .ref q27, .int 0, .ref q43, .ref q54, .ref q65, .null, .null])), (q5, .inr (0, [.int 0, .int 0, .int 0, .int 0, .ref (u0 2), .ref (u0 3), .ref (u0 4), .ref (u0 5), .ref (u0 6), .ref (u0 7), .ref (u0 8)])), (u0 2, zA cA 8), (u0 3, zA cA 8), (u0 4, zA cA 8), (u0 5, zA cA 8), (u0 6, zA cA 8), (u0 7, fA cA 5 cz), (u0 8, fA cA 5 hz), (q16, .inr (0, [.int 0, .int 0, .int 0, .int 0, .ref (u1 2), .ref (u1 3), .ref (u1 4), .ref (u1 5), .ref (u1 6), .ref (u1 7), .ref (u1 8)])), (u1 2, zA cA 8), (u1 3, zA cA 8), (u1 4, zA cA 8), (u1 5, zA cA 8), (u1 6, zA cA 8), (u1 7, fA cA 5 cz), (u1 8, fA cA 5 hz), (q27, .inr (0, [.int 0, .int 0, .int 0, .int 0, .ref (u2 2), .ref (u2 3), .ref (u2 4), .ref (u2 5), .ref (u2 6), .ref (u2 7), .ref (u2 8)])), (u2 2, zA cA 8), (u2 3, zA cA 8), (u2 4, zA cA 8), (u2 5, zA cA 8), (u2 6, zA cA 8), (u2 7, fA cA 5 cz), (u2 8, fA cA 5 hz), (q43, .inr (3, [.ref (u3 10), .ref (u3 11), .ref (u3 12), .ref (u3 13), .ref (u3 14), .ref (u3 15)])), (u3 10, zA cA 8), (u3 11, zA cA 8), (u3 12, zA cA 8), (u3 13, zA cA 8), (u3 14, zA cA 8), (u3 15, zA cA 800), (q54, .inr (1, [.ref (u4 17), .ref (u4 18), .int 0])), (u4 17, zA cA 40), (u4 18, zA cA 1536), (q65, .inr (2, [.int 0]))] := hD
  refine lv_aload_n hx hb dICls_75 rfl (lv_at hl 0 rfl) ?_
  refine lv_iconst (v := 4) hx hb dICls_76 (by decide) ?_
  refine z_arr (C := RX6) (T := TX6) (N := 9) (ci := 4) 4 7 hx hb hws hown hin hK hP hD hS hA (by decide) (by decide) (Nat.le_of_ble_eq_true rfl) (by omega) (by omega) dICls_77 iaX6 tyX6 tyX6_ok nmX6 rfl (by decide) (in_aTbl 184 (by decide +kernel) rfl) rfl rfl (by decide +kernel) (Nat.le_of_ble_eq_true rfl) dICls_79 (fun q77 H locs hP hD hS => ?_)
  have hP : va_P D aCl [(h0, .inr (4, [.ref q5, .ref q16, .ref q27, .int 0, .ref q43, .ref q54, .ref q65, .ref q77, .null])), (q5, .inr (0, [.int 0, .int 0, .int 0, .int 0, .ref (u0 2), .ref (u0 3), .ref (u0 4), .ref (u0 5), .ref (u0 6), .ref (u0 7), .ref (u0 8)])), (u0 2, zA cA 8), (u0 3, zA cA 8), (u0 4, zA cA 8), (u0 5, zA cA 8), (u0 6, zA cA 8), (u0 7, fA cA 5 cz), (u0 8, fA cA 5 hz), (q16, .inr (0, [.int 0, .int 0, .int 0, .int 0, .ref (u1 2), .ref (u1 3), .ref (u1 4), .ref (u1 5), .ref (u1 6), .ref (u1 7), .ref (u1 8)])), (u1 2, zA cA 8), (u1 3, zA cA 8), (u1 4, zA cA 8), (u1 5, zA cA 8), (u1 6, zA cA 8), (u1 7, fA cA 5 cz), (u1 8, fA cA 5 hz), (q27, .inr (0, [.int 0, .int 0, .int 0, .int 0, .ref (u2 2), .ref (u2 3), .ref (u2 4), .ref (u2 5), .ref (u2 6), .ref (u2 7), .ref (u2 8)])), (u2 2, zA cA 8), (u2 3, zA cA 8), (u2 4, zA cA 8), (u2 5, zA cA 8), (u2 6, zA cA 8), (u2 7, fA cA 5 cz), (u2 8, fA cA 5 hz), (q43, .inr (3, [.ref (u3 10), .ref (u3 11), .ref (u3 12), .ref (u3 13), .ref (u3 14), .ref (u3 15)])), (u3 10, zA cA 8), (u3 11, zA cA 8), (u3 12, zA cA 8), (u3 13, zA cA 8), (u3 14, zA cA 8), (u3 15, zA cA 800), (q54, .inr (1, [.ref (u4 17), .ref (u4 18), .int 0])), (u4 17, zA cA 40), (u4 18, zA cA 1536), (q65, .inr (2, [.int 0])), (q77, zA cA 4)] H := hP
  have hD : va_D A [(h0, .inr (4, [.ref q5, .ref q16, .ref q27, .int 0, .ref q43, .ref q54, .ref q65, .ref q77, .null])), (q5, .inr (0, [.int 0, .int 0, .int 0, .int 0, .ref (u0 2), .ref (u0 3), .ref (u0 4), .ref (u0 5), .ref (u0 6), .ref (u0 7), .ref (u0 8)])), (u0 2, zA cA 8), (u0 3, zA cA 8), (u0 4, zA cA 8), (u0 5, zA cA 8), (u0 6, zA cA 8), (u0 7, fA cA 5 cz), (u0 8, fA cA 5 hz), (q16, .inr (0, [.int 0, .int 0, .int 0, .int 0, .ref (u1 2), .ref (u1 3), .ref (u1 4), .ref (u1 5), .ref (u1 6), .ref (u1 7), .ref (u1 8)])), (u1 2, zA cA 8), (u1 3, zA cA 8), (u1 4, zA cA 8), (u1 5, zA cA 8), (u1 6, zA cA 8), (u1 7, fA cA 5 cz), (u1 8, fA cA 5 hz), (q27, .inr (0, [.int 0, .int 0, .int 0, .int 0, .ref (u2 2), .ref (u2 3), .ref (u2 4), .ref (u2 5), .ref (u2 6), .ref (u2 7), .ref (u2 8)])), (u2 2, zA cA 8), (u2 3, zA cA 8), (u2 4, zA cA 8), (u2 5, zA cA 8), (u2 6, zA cA 8), (u2 7, fA cA 5 cz), (u2 8, fA cA 5 hz), (q43, .inr (3, [.ref (u3 10), .ref (u3 11), .ref (u3 12), .ref (u3 13), .ref (u3 14), .ref (u3 15)])), (u3 10, zA cA 8), (u3 11, zA cA 8), (u3 12, zA cA 8), (u3 13, zA cA 8), (u3 14, zA cA 8), (u3 15, zA cA 800), (q54, .inr (1, [.ref (u4 17), .ref (u4 18), .int 0])), (u4 17, zA cA 40), (u4 18, zA cA 1536), (q65, .inr (2, [.int 0])), (q77, zA cA 4)] := hD
  refine lv_aload_n hx hb dICls_82 rfl (lv_at hl 0 rfl) ?_
  refine lv_iconst (v := 4) hx hb dICls_83 (by decide) ?_
  refine z_arr (C := RX6) (T := TX6) (N := 9) (ci := 4) 4 8 hx hb hws hown hin hK hP hD hS hA (by decide) (by decide) (Nat.le_of_ble_eq_true rfl) (by omega) (by omega) dICls_84 iaX6 tyX6 tyX6_ok nmX6 rfl (by decide) (in_aTbl 185 (by decide +kernel) rfl) rfl rfl (by decide +kernel) (Nat.le_of_ble_eq_true rfl) dICls_86 (fun q84 H locs hP hD hS => ?_)
  have hP : va_P D aCl [(h0, .inr (4, [.ref q5, .ref q16, .ref q27, .int 0, .ref q43, .ref q54, .ref q65, .ref q77, .ref q84])), (q5, .inr (0, [.int 0, .int 0, .int 0, .int 0, .ref (u0 2), .ref (u0 3), .ref (u0 4), .ref (u0 5), .ref (u0 6), .ref (u0 7), .ref (u0 8)])), (u0 2, zA cA 8), (u0 3, zA cA 8), (u0 4, zA cA 8), (u0 5, zA cA 8), (u0 6, zA cA 8), (u0 7, fA cA 5 cz), (u0 8, fA cA 5 hz), (q16, .inr (0, [.int 0, .int 0, .int 0, .int 0, .ref (u1 2), .ref (u1 3), .ref (u1 4), .ref (u1 5), .ref (u1 6), .ref (u1 7), .ref (u1 8)])), (u1 2, zA cA 8), (u1 3, zA cA 8), (u1 4, zA cA 8), (u1 5, zA cA 8), (u1 6, zA cA 8), (u1 7, fA cA 5 cz), (u1 8, fA cA 5 hz), (q27, .inr (0, [.int 0, .int 0, .int 0, .int 0, .ref (u2 2), .ref (u2 3), .ref (u2 4), .ref (u2 5), .ref (u2 6), .ref (u2 7), .ref (u2 8)])), (u2 2, zA cA 8), (u2 3, zA cA 8), (u2 4, zA cA 8), (u2 5, zA cA 8), (u2 6, zA cA 8), (u2 7, fA cA 5 cz), (u2 8, fA cA 5 hz), (q43, .inr (3, [.ref (u3 10), .ref (u3 11), .ref (u3 12), .ref (u3 13), .ref (u3 14), .ref (u3 15)])), (u3 10, zA cA 8), (u3 11, zA cA 8), (u3 12, zA cA 8), (u3 13, zA cA 8), (u3 14, zA cA 8), (u3 15, zA cA 800), (q54, .inr (1, [.ref (u4 17), .ref (u4 18), .int 0])), (u4 17, zA cA 40), (u4 18, zA cA 1536), (q65, .inr (2, [.int 0])), (q77, zA cA 4), (q84, zA cA 4)] H := hP
  have hD : va_D A [(h0, .inr (4, [.ref q5, .ref q16, .ref q27, .int 0, .ref q43, .ref q54, .ref q65, .ref q77, .ref q84])), (q5, .inr (0, [.int 0, .int 0, .int 0, .int 0, .ref (u0 2), .ref (u0 3), .ref (u0 4), .ref (u0 5), .ref (u0 6), .ref (u0 7), .ref (u0 8)])), (u0 2, zA cA 8), (u0 3, zA cA 8), (u0 4, zA cA 8), (u0 5, zA cA 8), (u0 6, zA cA 8), (u0 7, fA cA 5 cz), (u0 8, fA cA 5 hz), (q16, .inr (0, [.int 0, .int 0, .int 0, .int 0, .ref (u1 2), .ref (u1 3), .ref (u1 4), .ref (u1 5), .ref (u1 6), .ref (u1 7), .ref (u1 8)])), (u1 2, zA cA 8), (u1 3, zA cA 8), (u1 4, zA cA 8), (u1 5, zA cA 8), (u1 6, zA cA 8), (u1 7, fA cA 5 cz), (u1 8, fA cA 5 hz), (q27, .inr (0, [.int 0, .int 0, .int 0, .int 0, .ref (u2 2), .ref (u2 3), .ref (u2 4), .ref (u2 5), .ref (u2 6), .ref (u2 7), .ref (u2 8)])), (u2 2, zA cA 8), (u2 3, zA cA 8), (u2 4, zA cA 8), (u2 5, zA cA 8), (u2 6, zA cA 8), (u2 7, fA cA 5 cz), (u2 8, fA cA 5 hz), (q43, .inr (3, [.ref (u3 10), .ref (u3 11), .ref (u3 12), .ref (u3 13), .ref (u3 14), .ref (u3 15)])), (u3 10, zA cA 8), (u3 11, zA cA 8), (u3 12, zA cA 8), (u3 13, zA cA 8), (u3 14, zA cA 8), (u3 15, zA cA 800), (q54, .inr (1, [.ref (u4 17), .ref (u4 18), .int 0])), (u4 17, zA cA 40), (u4 18, zA cA 1536), (q65, .inr (2, [.int 0])), (q77, zA cA 4), (q84, zA cA 4)] := hD
  have hP9 : va_P D aCl (kCls cA h0 (fun t c => (([[], [q5, q16, q27], [u0 2, u1 2, u2 2], [u0 3, u1 3, u2 3], [u0 4, u1 4, u2 4], [u0 5, u1 5, u2 5], [u0 6, u1 6, u2 6], [u0 7, u1 7, u2 7], [u0 8, u1 8, u2 8], [q43], [u3 10], [u3 11], [u3 12], [u3 13], [u3 14], [u3 15], [q54], [u4 17], [u4 18], [q65], [q77, q84]] : List (List Nat)).getD t []).getD c 0)) H := hP
  have hD9 : va_D A (kCls cA h0 (fun t c => (([[], [q5, q16, q27], [u0 2, u1 2, u2 2], [u0 3, u1 3, u2 3], [u0 4, u1 4, u2 4], [u0 5, u1 5, u2 5], [u0 6, u1 6, u2 6], [u0 7, u1 7, u2 7], [u0 8, u1 8, u2 8], [q43], [u3 10], [u3 11], [u3 12], [u3 13], [u3 14], [u3 15], [q54], [u4 17], [u4 18], [q65], [q77, q84]] : List (List Nat)).getD t []).getD c 0)) := hD
  refine W.widen (k := 37) (n := 2617) (by omega) (by omega) ?_
  exact W.vret hx hb hr (fun t ht hW => ⟨⟨(fun t c => (([[], [q5, q16, q27], [u0 2, u1 2, u2 2], [u0 3, u1 3, u2 3], [u0 4, u1 4, u2 4], [u0 5, u1 5, u2 5], [u0 6, u1 6, u2 6], [u0 7, u1 7, u2 7], [u0 8, u1 8, u2 8], [q43], [u3 10], [u3 11], [u3 12], [u3 13], [u3 14], [u3 15], [q54], [u4 17], [u4 18], [q65], [q77, q84]] : List (List Nat)).getD t []).getD c 0), rfl, trivial, by rw [ht]; exact hP9, hD9⟩, hS.F ht⟩) hS.2.2 dICls_89
set_option maxHeartbeats 4000000 in
set_option maxRecDepth 100000 in
theorem i_Mod (l : Launch) (D : va_G) (cA : ClassId) (h0 sz : Nat) : Met l nmIMod wsIMod { frames := 1, cells := 13, slots := 2599, locals := 12 } (va_Pc [.ref h0] (fun U => U.heap.size = sz ∧ va_P D aCl [(h0, .inr (5, [.null, .null, .null, .null, .int 0, .int 0, .int 0, .int 0, .null, .null, .null, .int 0, .null, .null, .null, .null, .null, .null, .int 0]))] U.heap ∧ va_K D aCl [(cA, .int)] U ∧ va_D (fun _ => True) [(h0, .inr (5, [.null, .null, .null, .null, .int 0, .int 0, .int 0, .int 0, .null, .null, .null, .int 0, .null, .null, .null, .null, .null, .null, .int 0]))])) (va_Qv (fun _ : Nat → Nat → Nat => True) (fun u t => va_P D aCl (kMod cA h0 u) t.heap ∧ va_D (va_A [(h0, .inr (5, [.null, .null, .null, .null, .int 0, .int 0, .int 0, .int 0, .null, .null, .null, .int 0, .null, .null, .null, .null, .null, .null, .int 0]))] sz) (kMod cA h0 u)) (va_A [(h0, .inr (5, [.null, .null, .null, .null, .int 0, .int 0, .int 0, .int 0, .null, .null, .null, .int 0, .null, .null, .null, .null, .null, .null, .int 0]))] sz)) 13 2599 (va_A [(h0, .inr (5, [.null, .null, .null, .null, .int 0, .int 0, .int 0, .int 0, .null, .null, .null, .int 0, .null, .null, .null, .null, .null, .null, .int 0]))] sz) := by
  refine Met.ofW (cc := prog_9_method_1_code) (maxL := 2) (ret := none) (by decide) rfl ?_
  intro p e s m args below meth c s₁ B hml hv
  obtain ⟨rfl, hsz, hP, hK, hD0⟩ := hv
  have hx := B.exec
  have hb := B.bytes
  have hr := B.returns
  have hts := atoms_spec (ws := wsIMod) B.pre
  have hws : ∀ w ∈ aTbl, w.before _ s = true := fun w hw => hts w (List.mem_cons_of_mem _ hw)
  have hown : s.vm.findClass "OnlyInDisguiseModel" = some m.cls := findClass_of_methodNamed B.named
  have hlocks := B.notSynchronized
  have hin : meth.name = "<init>" := (name_of_methodNamed B.named B.method).1
  subst hsz
  have hD := hD0.self (sz := s.heap.size)
  generalize hAe : va_A [(h0, .inr (5, [.null, .null, .null, .null, .int 0, .int 0, .int 0, .int 0, .null, .null, .null, .int 0, .null, .null, .null, .null, .null, .null, .int 0]))] s.heap.size = A at hD ⊢
  have hA : ∀ q : Nat, s.heap.size ≤ q → A q := fun q h => by rw [← hAe]; exact Or.inr h
  have hS : va_S A s.heap s.heap [] := va_S.rf
  have hl := lv_entry ([.ref h0]) (n := 2) (Nat.le_of_ble_eq_true rfl)
  rw [lg_entry_eq]
  generalize (lg_sl ([.ref h0]) ++ List.replicate (2 - (lg_sl ([.ref h0])).length) Slot.unset).toArray = ls at hl ⊢
  have hl : lv_has ls 2 [(0, .ref h0)] := hl
  generalize hRR : (headSpec wsIMod { frames := 1, cells := 13, slots := 2599, locals := 12 }).room = RR
  have hR1 : RR.frames = 1 ∧ RR.cells = 13 ∧ RR.slots = 2599 ∧ RR.locals = 12 := by subst hRR; exact ⟨rfl, rfl, rfl, rfl⟩
  refine lv_aload_n hx hb dIMod_0 rfl (lv_at hl 0 rfl) ?_
  refine W.objInit hx hb hown (hws _ (in_aTbl 845 (by decide +kernel) rfl)) (hws _ (in_aTbl 68 (by decide +kernel) rfl)) (hws _ (in_aTbl 69 (by decide +kernel) rfl)) rfl (by rw [hml]; exact hl.1) rfl dIMod_1 (by omega) (by show 0 + 12 ≤ RR.locals; omega) ?_
  refine W.eq (g2 := F0 m 4 ls []) rfl ?_
  refine lv_aload_n hx hb dIMod_4 rfl (lv_at hl 0 rfl) ?_
  refine lv_bipush (v := 45) hx hb dIMod_5 (by decide) ?_
  refine z_arr (C := RX7) (T := TX7) (N := 19) (ci := 5) 45 0 hx hb hws hown hin hK hP hD hS hA (by decide) (by decide) (Nat.le_of_ble_eq_true rfl) (by omega) (by omega) dIMod_7 iaX7 tyX7 tyX7_ok nmX7 rfl (by decide) (in_aTbl 846 (by decide +kernel) rfl) rfl rfl (by decide +kernel) (Nat.le_of_ble_eq_true rfl) dIMod_9 (fun q7 H locs hP hD hS => ?_)
  have hP : va_P D aCl [(h0, .inr (5, [.ref q7, .null, .null, .null, .int 0, .int 0, .int 0, .int 0, .null, .null, .null, .int 0, .null, .null, .null, .null, .null, .null, .int 0])), (q7, zA cA 45)] H := hP
  have hD : va_D A [(h0, .inr (5, [.ref q7, .null, .null, .null, .int 0, .int 0, .int 0, .int 0, .null, .null, .null, .int 0, .null, .null, .null, .null, .null, .null, .int 0])), (q7, zA cA 45)] := hD
  refine lv_aload_n hx hb dIMod_12 rfl (lv_at hl 0 rfl) ?_
  refine lv_bipush (v := 45) hx hb dIMod_13 (by decide) ?_
  refine z_arr (C := RX7) (T := TX7) (N := 19) (ci := 5) 45 1 hx hb hws hown hin hK hP hD hS hA (by decide) (by decide) (Nat.le_of_ble_eq_true rfl) (by omega) (by omega) dIMod_15 iaX7 tyX7 tyX7_ok nmX7 rfl (by decide) (in_aTbl 847 (by decide +kernel) rfl) rfl rfl (by decide +kernel) (Nat.le_of_ble_eq_true rfl) dIMod_17 (fun q15 H locs hP hD hS => ?_)
  have hP : va_P D aCl [(h0, .inr (5, [.ref q7, .ref q15, .null, .null, .int 0, .int 0, .int 0, .int 0, .null, .null, .null, .int 0, .null, .null, .null, .null, .null, .null, .int 0])), (q7, zA cA 45), (q15, zA cA 45)] H := hP
  have hD : va_D A [(h0, .inr (5, [.ref q7, .ref q15, .null, .null, .int 0, .int 0, .int 0, .int 0, .null, .null, .null, .int 0, .null, .null, .null, .null, .null, .null, .int 0])), (q7, zA cA 45), (q15, zA cA 45)] := hD
  refine lv_aload_n hx hb dIMod_20 rfl (lv_at hl 0 rfl) ?_
  refine lv_bipush (v := 45) hx hb dIMod_21 (by decide) ?_
  refine z_arr (C := RX7) (T := TX7) (N := 19) (ci := 5) 45 2 hx hb hws hown hin hK hP hD hS hA (by decide) (by decide) (Nat.le_of_ble_eq_true rfl) (by omega) (by omega) dIMod_23 iaX7 tyX7 tyX7_ok nmX7 rfl (by decide) (in_aTbl 848 (by decide +kernel) rfl) rfl rfl (by decide +kernel) (Nat.le_of_ble_eq_true rfl) dIMod_25 (fun q23 H locs hP hD hS => ?_)
  have hP : va_P D aCl [(h0, .inr (5, [.ref q7, .ref q15, .ref q23, .null, .int 0, .int 0, .int 0, .int 0, .null, .null, .null, .int 0, .null, .null, .null, .null, .null, .null, .int 0])), (q7, zA cA 45), (q15, zA cA 45), (q23, zA cA 45)] H := hP
  have hD : va_D A [(h0, .inr (5, [.ref q7, .ref q15, .ref q23, .null, .int 0, .int 0, .int 0, .int 0, .null, .null, .null, .int 0, .null, .null, .null, .null, .null, .null, .int 0])), (q7, zA cA 45), (q15, zA cA 45), (q23, zA cA 45)] := hD
  refine lv_aload_n hx hb dIMod_28 rfl (lv_at hl 0 rfl) ?_
  refine lv_bipush (v := 45) hx hb dIMod_29 (by decide) ?_
  refine z_arr (C := RX7) (T := TX7) (N := 19) (ci := 5) 45 3 hx hb hws hown hin hK hP hD hS hA (by decide) (by decide) (Nat.le_of_ble_eq_true rfl) (by omega) (by omega) dIMod_31 iaX7 tyX7 tyX7_ok nmX7 rfl (by decide) (in_aTbl 849 (by decide +kernel) rfl) rfl rfl (by decide +kernel) (Nat.le_of_ble_eq_true rfl) dIMod_33 (fun q31 H locs hP hD hS => ?_)
  have hP : va_P D aCl [(h0, .inr (5, [.ref q7, .ref q15, .ref q23, .ref q31, .int 0, .int 0, .int 0, .int 0, .null, .null, .null, .int 0, .null, .null, .null, .null, .null, .null, .int 0])), (q7, zA cA 45), (q15, zA cA 45), (q23, zA cA 45), (q31, zA cA 45)] H := hP
  have hD : va_D A [(h0, .inr (5, [.ref q7, .ref q15, .ref q23, .ref q31, .int 0, .int 0, .int 0, .int 0, .null, .null, .null, .int 0, .null, .null, .null, .null, .null, .null, .int 0])), (q7, zA cA 45), (q15, zA cA 45), (q23, zA cA 45), (q31, zA cA 45)] := hD
  refine lv_aload_n hx hb dIMod_36 rfl (lv_at hl 0 rfl) ?_
  refine lv_iconst (v := 3) hx hb dIMod_37 (by decide) ?_
  refine z_arr (C := RX7) (T := TX7) (N := 19) (ci := 5) 3 8 hx hb hws hown hin hK hP hD hS hA (by decide) (by decide) (Nat.le_of_ble_eq_true rfl) (by omega) (by omega) dIMod_38 iaX7 tyX7 tyX7_ok nmX7 rfl (by decide) (in_aTbl 854 (by decide +kernel) rfl) rfl rfl (by decide +kernel) (Nat.le_of_ble_eq_true rfl) dIMod_40 (fun q38 H locs hP hD hS => ?_)
  have hP : va_P D aCl [(h0, .inr (5, [.ref q7, .ref q15, .ref q23, .ref q31, .int 0, .int 0, .int 0, .int 0, .ref q38, .null, .null, .int 0, .null, .null, .null, .null, .null, .null, .int 0])), (q7, zA cA 45), (q15, zA cA 45), (q23, zA cA 45), (q31, zA cA 45), (q38, zA cA 3)] H := hP
  have hD : va_D A [(h0, .inr (5, [.ref q7, .ref q15, .ref q23, .ref q31, .int 0, .int 0, .int 0, .int 0, .ref q38, .null, .null, .int 0, .null, .null, .null, .null, .null, .null, .int 0])), (q7, zA cA 45), (q15, zA cA 45), (q23, zA cA 45), (q31, zA cA 45), (q38, zA cA 3)] := hD
  refine lv_aload_n hx hb dIMod_43 rfl (lv_at hl 0 rfl) ?_
  refine lv_bipush (v := 40) hx hb dIMod_44 (by decide) ?_
  refine z_arr (C := RX7) (T := TX7) (N := 19) (ci := 5) 40 9 hx hb hws hown hin hK hP hD hS hA (by decide) (by decide) (Nat.le_of_ble_eq_true rfl) (by omega) (by omega) dIMod_46 iaX7 tyX7 tyX7_ok nmX7 rfl (by decide) (in_aTbl 855 (by decide +kernel) rfl) rfl rfl (by decide +kernel) (Nat.le_of_ble_eq_true rfl) dIMod_48 (fun q46 H locs hP hD hS => ?_)
  have hP : va_P D aCl [(h0, .inr (5, [.ref q7, .ref q15, .ref q23, .ref q31, .int 0, .int 0, .int 0, .int 0, .ref q38, .ref q46, .null, .int 0, .null, .null, .null, .null, .null, .null, .int 0])), (q7, zA cA 45), (q15, zA cA 45), (q23, zA cA 45), (q31, zA cA 45), (q38, zA cA 3), (q46, zA cA 40)] H := hP
  have hD : va_D A [(h0, .inr (5, [.ref q7, .ref q15, .ref q23, .ref q31, .int 0, .int 0, .int 0, .int 0, .ref q38, .ref q46, .null, .int 0, .null, .null, .null, .null, .null, .null, .int 0])), (q7, zA cA 45), (q15, zA cA 45), (q23, zA cA 45), (q31, zA cA 45), (q38, zA cA 3), (q46, zA cA 40)] := hD
  refine lv_aload_n hx hb dIMod_51 rfl (lv_at hl 0 rfl) ?_
  refine lv_sipush (v := 1536) hx hb dIMod_52 (by decide) ?_
  refine z_arr (C := RX7) (T := TX7) (N := 19) (ci := 5) 1536 10 hx hb hws hown hin hK hP hD hS hA (by decide) (by decide) (Nat.le_of_ble_eq_true rfl) (by omega) (by omega) dIMod_55 iaX7 tyX7 tyX7_ok nmX7 rfl (by decide) (in_aTbl 856 (by decide +kernel) rfl) rfl rfl (by decide +kernel) (Nat.le_of_ble_eq_true rfl) dIMod_57 (fun q55 H locs hP hD hS => ?_)
  have hP : va_P D aCl [(h0, .inr (5, [.ref q7, .ref q15, .ref q23, .ref q31, .int 0, .int 0, .int 0, .int 0, .ref q38, .ref q46, .ref q55, .int 0, .null, .null, .null, .null, .null, .null, .int 0])), (q7, zA cA 45), (q15, zA cA 45), (q23, zA cA 45), (q31, zA cA 45), (q38, zA cA 3), (q46, zA cA 40), (q55, zA cA 1536)] H := hP
  have hD : va_D A [(h0, .inr (5, [.ref q7, .ref q15, .ref q23, .ref q31, .int 0, .int 0, .int 0, .int 0, .ref q38, .ref q46, .ref q55, .int 0, .null, .null, .null, .null, .null, .null, .int 0])), (q7, zA cA 45), (q15, zA cA 45), (q23, zA cA 45), (q31, zA cA 45), (q38, zA cA 3), (q46, zA cA 40), (q55, zA cA 1536)] := hD
  refine lv_aload_n hx hb dIMod_60 rfl (lv_at hl 0 rfl) ?_
  refine lv_bipush (v := 8) hx hb dIMod_61 (by decide) ?_
  refine z_arr (C := RX7) (T := TX7) (N := 19) (ci := 5) 8 12 hx hb hws hown hin hK hP hD hS hA (by decide) (by decide) (Nat.le_of_ble_eq_true rfl) (by omega) (by omega) dIMod_63 iaX7 tyX7 tyX7_ok nmX7 rfl (by decide) (in_aTbl 858 (by decide +kernel) rfl) rfl rfl (by decide +kernel) (Nat.le_of_ble_eq_true rfl) dIMod_65 (fun q63 H locs hP hD hS => ?_)
  have hP : va_P D aCl [(h0, .inr (5, [.ref q7, .ref q15, .ref q23, .ref q31, .int 0, .int 0, .int 0, .int 0, .ref q38, .ref q46, .ref q55, .int 0, .ref q63, .null, .null, .null, .null, .null, .int 0])), (q7, zA cA 45), (q15, zA cA 45), (q23, zA cA 45), (q31, zA cA 45), (q38, zA cA 3), (q46, zA cA 40), (q55, zA cA 1536), (q63, zA cA 8)] H := hP
  have hD : va_D A [(h0, .inr (5, [.ref q7, .ref q15, .ref q23, .ref q31, .int 0, .int 0, .int 0, .int 0, .ref q38, .ref q46, .ref q55, .int 0, .ref q63, .null, .null, .null, .null, .null, .int 0])), (q7, zA cA 45), (q15, zA cA 45), (q23, zA cA 45), (q31, zA cA 45), (q38, zA cA 3), (q46, zA cA 40), (q55, zA cA 1536), (q63, zA cA 8)] := hD
  refine lv_aload_n hx hb dIMod_68 rfl (lv_at hl 0 rfl) ?_
  refine lv_bipush (v := 8) hx hb dIMod_69 (by decide) ?_
  refine z_arr (C := RX7) (T := TX7) (N := 19) (ci := 5) 8 13 hx hb hws hown hin hK hP hD hS hA (by decide) (by decide) (Nat.le_of_ble_eq_true rfl) (by omega) (by omega) dIMod_71 iaX7 tyX7 tyX7_ok nmX7 rfl (by decide) (in_aTbl 859 (by decide +kernel) rfl) rfl rfl (by decide +kernel) (Nat.le_of_ble_eq_true rfl) dIMod_73 (fun q71 H locs hP hD hS => ?_)
  have hP : va_P D aCl [(h0, .inr (5, [.ref q7, .ref q15, .ref q23, .ref q31, .int 0, .int 0, .int 0, .int 0, .ref q38, .ref q46, .ref q55, .int 0, .ref q63, .ref q71, .null, .null, .null, .null, .int 0])), (q7, zA cA 45), (q15, zA cA 45), (q23, zA cA 45), (q31, zA cA 45), (q38, zA cA 3), (q46, zA cA 40), (q55, zA cA 1536), (q63, zA cA 8), (q71, zA cA 8)] H := hP
  have hD : va_D A [(h0, .inr (5, [.ref q7, .ref q15, .ref q23, .ref q31, .int 0, .int 0, .int 0, .int 0, .ref q38, .ref q46, .ref q55, .int 0, .ref q63, .ref q71, .null, .null, .null, .null, .int 0])), (q7, zA cA 45), (q15, zA cA 45), (q23, zA cA 45), (q31, zA cA 45), (q38, zA cA 3), (q46, zA cA 40), (q55, zA cA 1536), (q63, zA cA 8), (q71, zA cA 8)] := hD
  refine lv_aload_n hx hb dIMod_76 rfl (lv_at hl 0 rfl) ?_
  refine lv_bipush (v := 8) hx hb dIMod_77 (by decide) ?_
  refine z_arr (C := RX7) (T := TX7) (N := 19) (ci := 5) 8 14 hx hb hws hown hin hK hP hD hS hA (by decide) (by decide) (Nat.le_of_ble_eq_true rfl) (by omega) (by omega) dIMod_79 iaX7 tyX7 tyX7_ok nmX7 rfl (by decide) (in_aTbl 860 (by decide +kernel) rfl) rfl rfl (by decide +kernel) (Nat.le_of_ble_eq_true rfl) dIMod_81 (fun q79 H locs hP hD hS => ?_)
  have hP : va_P D aCl [(h0, .inr (5, [.ref q7, .ref q15, .ref q23, .ref q31, .int 0, .int 0, .int 0, .int 0, .ref q38, .ref q46, .ref q55, .int 0, .ref q63, .ref q71, .ref q79, .null, .null, .null, .int 0])), (q7, zA cA 45), (q15, zA cA 45), (q23, zA cA 45), (q31, zA cA 45), (q38, zA cA 3), (q46, zA cA 40), (q55, zA cA 1536), (q63, zA cA 8), (q71, zA cA 8), (q79, zA cA 8)] H := hP
  have hD : va_D A [(h0, .inr (5, [.ref q7, .ref q15, .ref q23, .ref q31, .int 0, .int 0, .int 0, .int 0, .ref q38, .ref q46, .ref q55, .int 0, .ref q63, .ref q71, .ref q79, .null, .null, .null, .int 0])), (q7, zA cA 45), (q15, zA cA 45), (q23, zA cA 45), (q31, zA cA 45), (q38, zA cA 3), (q46, zA cA 40), (q55, zA cA 1536), (q63, zA cA 8), (q71, zA cA 8), (q79, zA cA 8)] := hD
  refine lv_aload_n hx hb dIMod_84 rfl (lv_at hl 0 rfl) ?_
  refine lv_bipush (v := 8) hx hb dIMod_85 (by decide) ?_
  refine z_arr (C := RX7) (T := TX7) (N := 19) (ci := 5) 8 15 hx hb hws hown hin hK hP hD hS hA (by decide) (by decide) (Nat.le_of_ble_eq_true rfl) (by omega) (by omega) dIMod_87 iaX7 tyX7 tyX7_ok nmX7 rfl (by decide) (in_aTbl 861 (by decide +kernel) rfl) rfl rfl (by decide +kernel) (Nat.le_of_ble_eq_true rfl) dIMod_89 (fun q87 H locs hP hD hS => ?_)
  have hP : va_P D aCl [(h0, .inr (5, [.ref q7, .ref q15, .ref q23, .ref q31, .int 0, .int 0, .int 0, .int 0, .ref q38, .ref q46, .ref q55, .int 0, .ref q63, .ref q71, .ref q79, .ref q87, .null, .null, .int 0])), (q7, zA cA 45), (q15, zA cA 45), (q23, zA cA 45), (q31, zA cA 45), (q38, zA cA 3), (q46, zA cA 40), (q55, zA cA 1536), (q63, zA cA 8), (q71, zA cA 8), (q79, zA cA 8), (q87, zA cA 8)] H := hP
  have hD : va_D A [(h0, .inr (5, [.ref q7, .ref q15, .ref q23, .ref q31, .int 0, .int 0, .int 0, .int 0, .ref q38, .ref q46, .ref q55, .int 0, .ref q63, .ref q71, .ref q79, .ref q87, .null, .null, .int 0])), (q7, zA cA 45), (q15, zA cA 45), (q23, zA cA 45), (q31, zA cA 45), (q38, zA cA 3), (q46, zA cA 40), (q55, zA cA 1536), (q63, zA cA 8), (q71, zA cA 8), (q79, zA cA 8), (q87, zA cA 8)] := hD
  refine lv_aload_n hx hb dIMod_92 rfl (lv_at hl 0 rfl) ?_
  refine lv_bipush (v := 8) hx hb dIMod_93 (by decide) ?_
  refine z_arr (C := RX7) (T := TX7) (N := 19) (ci := 5) 8 16 hx hb hws hown hin hK hP hD hS hA (by decide) (by decide) (Nat.le_of_ble_eq_true rfl) (by omega) (by omega) dIMod_95 iaX7 tyX7 tyX7_ok nmX7 rfl (by decide) (in_aTbl 862 (by decide +kernel) rfl) rfl rfl (by decide +kernel) (Nat.le_of_ble_eq_true rfl) dIMod_97 (fun q95 H locs hP hD hS => ?_)
  have hP : va_P D aCl [(h0, .inr (5, [.ref q7, .ref q15, .ref q23, .ref q31, .int 0, .int 0, .int 0, .int 0, .ref q38, .ref q46, .ref q55, .int 0, .ref q63, .ref q71, .ref q79, .ref q87, .ref q95, .null, .int 0])), (q7, zA cA 45), (q15, zA cA 45), (q23, zA cA 45), (q31, zA cA 45), (q38, zA cA 3), (q46, zA cA 40), (q55, zA cA 1536), (q63, zA cA 8), (q71, zA cA 8), (q79, zA cA 8), (q87, zA cA 8), (q95, zA cA 8)] H := hP
  have hD : va_D A [(h0, .inr (5, [.ref q7, .ref q15, .ref q23, .ref q31, .int 0, .int 0, .int 0, .int 0, .ref q38, .ref q46, .ref q55, .int 0, .ref q63, .ref q71, .ref q79, .ref q87, .ref q95, .null, .int 0])), (q7, zA cA 45), (q15, zA cA 45), (q23, zA cA 45), (q31, zA cA 45), (q38, zA cA 3), (q46, zA cA 40), (q55, zA cA 1536), (q63, zA cA 8), (q71, zA cA 8), (q79, zA cA 8), (q87, zA cA 8), (q95, zA cA 8)] := hD
  refine lv_aload_n hx hb dIMod_100 rfl (lv_at hl 0 rfl) ?_
  refine lv_sipush (v := 800) hx hb dIMod_101 (by decide) ?_
  refine z_arr (C := RX7) (T := TX7) (N := 19) (ci := 5) 800 17 hx hb hws hown hin hK hP hD hS hA (by decide) (by decide) (Nat.le_of_ble_eq_true rfl) (by omega) (by omega) dIMod_104 iaX7 tyX7 tyX7_ok nmX7 rfl (by decide) (in_aTbl 863 (by decide +kernel) rfl) rfl rfl (by decide +kernel) (Nat.le_of_ble_eq_true rfl) dIMod_106 (fun q104 H locs hP hD hS => ?_)
  have hP : va_P D aCl [(h0, .inr (5, [.ref q7, .ref q15, .ref q23, .ref q31, .int 0, .int 0, .int 0, .int 0, .ref q38, .ref q46, .ref q55, .int 0, .ref q63, .ref q71, .ref q79, .ref q87, .ref q95, .ref q104, .int 0])), (q7, zA cA 45), (q15, zA cA 45), (q23, zA cA 45), (q31, zA cA 45), (q38, zA cA 3), (q46, zA cA 40), (q55, zA cA 1536), (q63, zA cA 8), (q71, zA cA 8), (q79, zA cA 8), (q87, zA cA 8), (q95, zA cA 8), (q104, zA cA 800)] H := hP
  have hD : va_D A [(h0, .inr (5, [.ref q7, .ref q15, .ref q23, .ref q31, .int 0, .int 0, .int 0, .int 0, .ref q38, .ref q46, .ref q55, .int 0, .ref q63, .ref q71, .ref q79, .ref q87, .ref q95, .ref q104, .int 0])), (q7, zA cA 45), (q15, zA cA 45), (q23, zA cA 45), (q31, zA cA 45), (q38, zA cA 3), (q46, zA cA 40), (q55, zA cA 1536), (q63, zA cA 8), (q71, zA cA 8), (q79, zA cA 8), (q87, zA cA 8), (q95, zA cA 8), (q104, zA cA 800)] := hD
  refine lv_iconst (v := 0) hx hb dIMod_109 (by decide) ?_
  refine lv_istore_n (lv' := [(1, .int 0), (0, .ref h0)]) hx hb dIMod_110 rfl hl (by decide) rfl (fun ls hl => ?_)
  refine lv_iload_n hx hb dIMod_111 rfl (lv_at hl 0 rfl) ?_
  refine lv_iconst (v := 5) hx hb dIMod_112 (by decide) ?_
  refine lv_icmp_ge (tgt := 142) hx hb dIMod_113 (by decide) (fun h => absurd h (by decide)) (fun _ => ?_)
  refine lv_aload_n hx hb dIMod_116 rfl (lv_at hl 1 rfl) ?_
  refine va_get (D := D) (ci := 5) (v := .ref q7) (own := "OnlyInDisguiseModel") (ref := "OnlyInDisguiseModel") (C := RX7) (T := TX7) (N := 19) hx hb hws iaX7 hown hK hP 0 rfl rfl 0 (by decide) (hws _ (in_aTbl 846 (by decide +kernel) rfl)) (fun _ h => h) rfl dIMod_117 ?_
  refine lv_iconst (v := 3) hx hb dIMod_120 (by decide) ?_
  refine lv_iload_n hx hb dIMod_121 rfl (lv_at hl 0 rfl) ?_
  refine lv_iadd hx hb dIMod_122 ?_
  refine lv_iload_n hx hb dIMod_123 rfl (lv_at hl 0 rfl) ?_
  refine va_iast hx hb hK hP hD hS 1 0 rfl rfl (by show ¬ (_ ∨ _); decide) dIMod_124 (fun H locs hP hD hS => ?_)
  have hP : va_P D aCl [(h0, .inr (5, [.ref q7, .ref q15, .ref q23, .ref q31, .int 0, .int 0, .int 0, .int 0, .ref q38, .ref q46, .ref q55, .int 0, .ref q63, .ref q71, .ref q79, .ref q87, .ref q95, .ref q104, .int 0])), (q7, .inl (cA, 45, .inl (upd (fun _ => Int32.ofInt 0) ((3 : Int32) + 0).toNatClampNeg 0))), (q15, zA cA 45), (q23, zA cA 45), (q31, zA cA 45), (q38, zA cA 3), (q46, zA cA 40), (q55, zA cA 1536), (q63, zA cA 8), (q71, zA cA 8), (q79, zA cA 8), (q87, zA cA 8), (q95, zA cA 8), (q104, zA cA 800)] H := hP
  have hD : va_D A [(h0, .inr (5, [.ref q7, .ref q15, .ref q23, .ref q31, .int 0, .int 0, .int 0, .int 0, .ref q38, .ref q46, .ref q55, .int 0, .ref q63, .ref q71, .ref q79, .ref q87, .ref q95, .ref q104, .int 0])), (q7, .inl (cA, 45, .inl (upd (fun _ => Int32.ofInt 0) ((3 : Int32) + 0).toNatClampNeg 0))), (q15, zA cA 45), (q23, zA cA 45), (q31, zA cA 45), (q38, zA cA 3), (q46, zA cA 40), (q55, zA cA 1536), (q63, zA cA 8), (q71, zA cA 8), (q79, zA cA 8), (q87, zA cA 8), (q95, zA cA 8), (q104, zA cA 800)] := hD
  refine lv_aload_n hx hb dIMod_125 rfl (lv_at hl 1 rfl) ?_
  refine va_get (D := D) (ci := 5) (v := .ref q7) (own := "OnlyInDisguiseModel") (ref := "OnlyInDisguiseModel") (C := RX7) (T := TX7) (N := 19) hx hb hws iaX7 hown hK hP 0 rfl rfl 0 (by decide) (hws _ (in_aTbl 846 (by decide +kernel) rfl)) (fun _ h => h) rfl dIMod_126 ?_
  refine lv_bipush (v := 8) hx hb dIMod_129 (by decide) ?_
  refine lv_iload_n hx hb dIMod_131 rfl (lv_at hl 0 rfl) ?_
  refine lv_iadd hx hb dIMod_132 ?_
  refine lv_bipush (v := (-4)) hx hb dIMod_133 (by decide) ?_
  refine va_iast hx hb hK hP hD hS 1 0 rfl rfl (by show ¬ (_ ∨ _); decide) dIMod_135 (fun H locs hP hD hS => ?_)
  have hP : va_P D aCl [(h0, .inr (5, [.ref q7, .ref q15, .ref q23, .ref q31, .int 0, .int 0, .int 0, .int 0, .ref q38, .ref q46, .ref q55, .int 0, .ref q63, .ref q71, .ref q79, .ref q87, .ref q95, .ref q104, .int 0])), (q7, .inl (cA, 45, .inl (upd (upd (fun _ => Int32.ofInt 0) ((3 : Int32) + 0).toNatClampNeg 0) ((8 : Int32) + 0).toNatClampNeg (-4)))), (q15, zA cA 45), (q23, zA cA 45), (q31, zA cA 45), (q38, zA cA 3), (q46, zA cA 40), (q55, zA cA 1536), (q63, zA cA 8), (q71, zA cA 8), (q79, zA cA 8), (q87, zA cA 8), (q95, zA cA 8), (q104, zA cA 800)] H := hP
  have hD : va_D A [(h0, .inr (5, [.ref q7, .ref q15, .ref q23, .ref q31, .int 0, .int 0, .int 0, .int 0, .ref q38, .ref q46, .ref q55, .int 0, .ref q63, .ref q71, .ref q79, .ref q87, .ref q95, .ref q104, .int 0])), (q7, .inl (cA, 45, .inl (upd (upd (fun _ => Int32.ofInt 0) ((3 : Int32) + 0).toNatClampNeg 0) ((8 : Int32) + 0).toNatClampNeg (-4)))), (q15, zA cA 45), (q23, zA cA 45), (q31, zA cA 45), (q38, zA cA 3), (q46, zA cA 40), (q55, zA cA 1536), (q63, zA cA 8), (q71, zA cA 8), (q79, zA cA 8), (q87, zA cA 8), (q95, zA cA 8), (q104, zA cA 800)] := hD
  refine lv_iinc (v := 1) (lv' := [(1, .int 1), (0, .ref h0)]) hx hb dIMod_136 hl (k := 0) rfl (by decide) (by decide) rfl (fun ls hl => ?_)
  refine lv_goto (tgt := 111) hx hb dIMod_139 (by decide) ?_
  refine lv_iload_n hx hb dIMod_111 rfl (lv_at hl 0 rfl) ?_
  refine lv_iconst (v := 5) hx hb dIMod_112 (by decide) ?_
  refine lv_icmp_ge (tgt := 142) hx hb dIMod_113 (by decide) (fun h => absurd h (by decide)) (fun _ => ?_)
  refine lv_aload_n hx hb dIMod_116 rfl (lv_at hl 1 rfl) ?_
  refine va_get (D := D) (ci := 5) (v := .ref q7) (own := "OnlyInDisguiseModel") (ref := "OnlyInDisguiseModel") (C := RX7) (T := TX7) (N := 19) hx hb hws iaX7 hown hK hP 0 rfl rfl 0 (by decide) (hws _ (in_aTbl 846 (by decide +kernel) rfl)) (fun _ h => h) rfl dIMod_117 ?_
  refine lv_iconst (v := 3) hx hb dIMod_120 (by decide) ?_
  refine lv_iload_n hx hb dIMod_121 rfl (lv_at hl 0 rfl) ?_
  refine lv_iadd hx hb dIMod_122 ?_
  refine lv_iload_n hx hb dIMod_123 rfl (lv_at hl 0 rfl) ?_
  refine va_iast hx hb hK hP hD hS 1 0 rfl rfl (by show ¬ (_ ∨ _); decide) dIMod_124 (fun H locs hP hD hS => ?_)
  have hP : va_P D aCl [(h0, .inr (5, [.ref q7, .ref q15, .ref q23, .ref q31, .int 0, .int 0, .int 0, .int 0, .ref q38, .ref q46, .ref q55, .int 0, .ref q63, .ref q71, .ref q79, .ref q87, .ref q95, .ref q104, .int 0])), (q7, .inl (cA, 45, .inl (upd (upd (upd (fun _ => Int32.ofInt 0) ((3 : Int32) + 0).toNatClampNeg 0) ((8 : Int32) + 0).toNatClampNeg (-4)) ((3 : Int32) + 1).toNatClampNeg 1))), (q15, zA cA 45), (q23, zA cA 45), (q31, zA cA 45), (q38, zA cA 3), (q46, zA cA 40), (q55, zA cA 1536), (q63, zA cA 8), (q71, zA cA 8), (q79, zA cA 8), (q87, zA cA 8), (q95, zA cA 8), (q104, zA cA 800)] H := hP
  have hD : va_D A [(h0, .inr (5, [.ref q7, .ref q15, .ref q23, .ref q31, .int 0, .int 0, .int 0, .int 0, .ref q38, .ref q46, .ref q55, .int 0, .ref q63, .ref q71, .ref q79, .ref q87, .ref q95, .ref q104, .int 0])), (q7, .inl (cA, 45, .inl (upd (upd (upd (fun _ => Int32.ofInt 0) ((3 : Int32) + 0).toNatClampNeg 0) ((8 : Int32) + 0).toNatClampNeg (-4)) ((3 : Int32) + 1).toNatClampNeg 1))), (q15, zA cA 45), (q23, zA cA 45), (q31, zA cA 45), (q38, zA cA 3), (q46, zA cA 40), (q55, zA cA 1536), (q63, zA cA 8), (q71, zA cA 8), (q79, zA cA 8), (q87, zA cA 8), (q95, zA cA 8), (q104, zA cA 800)] := hD
  refine lv_aload_n hx hb dIMod_125 rfl (lv_at hl 1 rfl) ?_
  refine va_get (D := D) (ci := 5) (v := .ref q7) (own := "OnlyInDisguiseModel") (ref := "OnlyInDisguiseModel") (C := RX7) (T := TX7) (N := 19) hx hb hws iaX7 hown hK hP 0 rfl rfl 0 (by decide) (hws _ (in_aTbl 846 (by decide +kernel) rfl)) (fun _ h => h) rfl dIMod_126 ?_
  refine lv_bipush (v := 8) hx hb dIMod_129 (by decide) ?_
  refine lv_iload_n hx hb dIMod_131 rfl (lv_at hl 0 rfl) ?_
  refine lv_iadd hx hb dIMod_132 ?_
  refine lv_bipush (v := (-4)) hx hb dIMod_133 (by decide) ?_
  refine va_iast hx hb hK hP hD hS 1 0 rfl rfl (by show ¬ (_ ∨ _); decide) dIMod_135 (fun H locs hP hD hS => ?_)
  have hP : va_P D aCl [(h0, .inr (5, [.ref q7, .ref q15, .ref q23, .ref q31, .int 0, .int 0, .int 0, .int 0, .ref q38, .ref q46, .ref q55, .int 0, .ref q63, .ref q71, .ref q79, .ref q87, .ref q95, .ref q104, .int 0])), (q7, .inl (cA, 45, .inl (upd (upd (upd (upd (fun _ => Int32.ofInt 0) ((3 : Int32) + 0).toNatClampNeg 0) ((8 : Int32) + 0).toNatClampNeg (-4)) ((3 : Int32) + 1).toNatClampNeg 1) ((8 : Int32) + 1).toNatClampNeg (-4)))), (q15, zA cA 45), (q23, zA cA 45), (q31, zA cA 45), (q38, zA cA 3), (q46, zA cA 40), (q55, zA cA 1536), (q63, zA cA 8), (q71, zA cA 8), (q79, zA cA 8), (q87, zA cA 8), (q95, zA cA 8), (q104, zA cA 800)] H := hP
  have hD : va_D A [(h0, .inr (5, [.ref q7, .ref q15, .ref q23, .ref q31, .int 0, .int 0, .int 0, .int 0, .ref q38, .ref q46, .ref q55, .int 0, .ref q63, .ref q71, .ref q79, .ref q87, .ref q95, .ref q104, .int 0])), (q7, .inl (cA, 45, .inl (upd (upd (upd (upd (fun _ => Int32.ofInt 0) ((3 : Int32) + 0).toNatClampNeg 0) ((8 : Int32) + 0).toNatClampNeg (-4)) ((3 : Int32) + 1).toNatClampNeg 1) ((8 : Int32) + 1).toNatClampNeg (-4)))), (q15, zA cA 45), (q23, zA cA 45), (q31, zA cA 45), (q38, zA cA 3), (q46, zA cA 40), (q55, zA cA 1536), (q63, zA cA 8), (q71, zA cA 8), (q79, zA cA 8), (q87, zA cA 8), (q95, zA cA 8), (q104, zA cA 800)] := hD
  refine lv_iinc (v := 2) (lv' := [(1, .int 2), (0, .ref h0)]) hx hb dIMod_136 hl (k := 0) rfl (by decide) (by decide) rfl (fun ls hl => ?_)
  refine lv_goto (tgt := 111) hx hb dIMod_139 (by decide) ?_
  refine lv_iload_n hx hb dIMod_111 rfl (lv_at hl 0 rfl) ?_
  refine lv_iconst (v := 5) hx hb dIMod_112 (by decide) ?_
  refine lv_icmp_ge (tgt := 142) hx hb dIMod_113 (by decide) (fun h => absurd h (by decide)) (fun _ => ?_)
  refine lv_aload_n hx hb dIMod_116 rfl (lv_at hl 1 rfl) ?_
  refine va_get (D := D) (ci := 5) (v := .ref q7) (own := "OnlyInDisguiseModel") (ref := "OnlyInDisguiseModel") (C := RX7) (T := TX7) (N := 19) hx hb hws iaX7 hown hK hP 0 rfl rfl 0 (by decide) (hws _ (in_aTbl 846 (by decide +kernel) rfl)) (fun _ h => h) rfl dIMod_117 ?_
  refine lv_iconst (v := 3) hx hb dIMod_120 (by decide) ?_
  refine lv_iload_n hx hb dIMod_121 rfl (lv_at hl 0 rfl) ?_
  refine lv_iadd hx hb dIMod_122 ?_
  refine lv_iload_n hx hb dIMod_123 rfl (lv_at hl 0 rfl) ?_
  refine va_iast hx hb hK hP hD hS 1 0 rfl rfl (by show ¬ (_ ∨ _); decide) dIMod_124 (fun H locs hP hD hS => ?_)
  have hP : va_P D aCl [(h0, .inr (5, [.ref q7, .ref q15, .ref q23, .ref q31, .int 0, .int 0, .int 0, .int 0, .ref q38, .ref q46, .ref q55, .int 0, .ref q63, .ref q71, .ref q79, .ref q87, .ref q95, .ref q104, .int 0])), (q7, .inl (cA, 45, .inl (upd (upd (upd (upd (upd (fun _ => Int32.ofInt 0) ((3 : Int32) + 0).toNatClampNeg 0) ((8 : Int32) + 0).toNatClampNeg (-4)) ((3 : Int32) + 1).toNatClampNeg 1) ((8 : Int32) + 1).toNatClampNeg (-4)) ((3 : Int32) + 2).toNatClampNeg 2))), (q15, zA cA 45), (q23, zA cA 45), (q31, zA cA 45), (q38, zA cA 3), (q46, zA cA 40), (q55, zA cA 1536), (q63, zA cA 8), (q71, zA cA 8), (q79, zA cA 8), (q87, zA cA 8), (q95, zA cA 8), (q104, zA cA 800)] H := hP
  have hD : va_D A [(h0, .inr (5, [.ref q7, .ref q15, .ref q23, .ref q31, .int 0, .int 0, .int 0, .int 0, .ref q38, .ref q46, .ref q55, .int 0, .ref q63, .ref q71, .ref q79, .ref q87, .ref q95, .ref q104, .int 0])), (q7, .inl (cA, 45, .inl (upd (upd (upd (upd (upd (fun _ => Int32.ofInt 0) ((3 : Int32) + 0).toNatClampNeg 0) ((8 : Int32) + 0).toNatClampNeg (-4)) ((3 : Int32) + 1).toNatClampNeg 1) ((8 : Int32) + 1).toNatClampNeg (-4)) ((3 : Int32) + 2).toNatClampNeg 2))), (q15, zA cA 45), (q23, zA cA 45), (q31, zA cA 45), (q38, zA cA 3), (q46, zA cA 40), (q55, zA cA 1536), (q63, zA cA 8), (q71, zA cA 8), (q79, zA cA 8), (q87, zA cA 8), (q95, zA cA 8), (q104, zA cA 800)] := hD
  refine lv_aload_n hx hb dIMod_125 rfl (lv_at hl 1 rfl) ?_
  refine va_get (D := D) (ci := 5) (v := .ref q7) (own := "OnlyInDisguiseModel") (ref := "OnlyInDisguiseModel") (C := RX7) (T := TX7) (N := 19) hx hb hws iaX7 hown hK hP 0 rfl rfl 0 (by decide) (hws _ (in_aTbl 846 (by decide +kernel) rfl)) (fun _ h => h) rfl dIMod_126 ?_
  refine lv_bipush (v := 8) hx hb dIMod_129 (by decide) ?_
  refine lv_iload_n hx hb dIMod_131 rfl (lv_at hl 0 rfl) ?_
  refine lv_iadd hx hb dIMod_132 ?_
  refine lv_bipush (v := (-4)) hx hb dIMod_133 (by decide) ?_
  refine va_iast hx hb hK hP hD hS 1 0 rfl rfl (by show ¬ (_ ∨ _); decide) dIMod_135 (fun H locs hP hD hS => ?_)
  have hP : va_P D aCl [(h0, .inr (5, [.ref q7, .ref q15, .ref q23, .ref q31, .int 0, .int 0, .int 0, .int 0, .ref q38, .ref q46, .ref q55, .int 0, .ref q63, .ref q71, .ref q79, .ref q87, .ref q95, .ref q104, .int 0])), (q7, .inl (cA, 45, .inl (upd (upd (upd (upd (upd (upd (fun _ => Int32.ofInt 0) ((3 : Int32) + 0).toNatClampNeg 0) ((8 : Int32) + 0).toNatClampNeg (-4)) ((3 : Int32) + 1).toNatClampNeg 1) ((8 : Int32) + 1).toNatClampNeg (-4)) ((3 : Int32) + 2).toNatClampNeg 2) ((8 : Int32) + 2).toNatClampNeg (-4)))), (q15, zA cA 45), (q23, zA cA 45), (q31, zA cA 45), (q38, zA cA 3), (q46, zA cA 40), (q55, zA cA 1536), (q63, zA cA 8), (q71, zA cA 8), (q79, zA cA 8), (q87, zA cA 8), (q95, zA cA 8), (q104, zA cA 800)] H := hP
  have hD : va_D A [(h0, .inr (5, [.ref q7, .ref q15, .ref q23, .ref q31, .int 0, .int 0, .int 0, .int 0, .ref q38, .ref q46, .ref q55, .int 0, .ref q63, .ref q71, .ref q79, .ref q87, .ref q95, .ref q104, .int 0])), (q7, .inl (cA, 45, .inl (upd (upd (upd (upd (upd (upd (fun _ => Int32.ofInt 0) ((3 : Int32) + 0).toNatClampNeg 0) ((8 : Int32) + 0).toNatClampNeg (-4)) ((3 : Int32) + 1).toNatClampNeg 1) ((8 : Int32) + 1).toNatClampNeg (-4)) ((3 : Int32) + 2).toNatClampNeg 2) ((8 : Int32) + 2).toNatClampNeg (-4)))), (q15, zA cA 45), (q23, zA cA 45), (q31, zA cA 45), (q38, zA cA 3), (q46, zA cA 40), (q55, zA cA 1536), (q63, zA cA 8), (q71, zA cA 8), (q79, zA cA 8), (q87, zA cA 8), (q95, zA cA 8), (q104, zA cA 800)] := hD
  refine lv_iinc (v := 3) (lv' := [(1, .int 3), (0, .ref h0)]) hx hb dIMod_136 hl (k := 0) rfl (by decide) (by decide) rfl (fun ls hl => ?_)
  refine lv_goto (tgt := 111) hx hb dIMod_139 (by decide) ?_
  refine lv_iload_n hx hb dIMod_111 rfl (lv_at hl 0 rfl) ?_
  refine lv_iconst (v := 5) hx hb dIMod_112 (by decide) ?_
  refine lv_icmp_ge (tgt := 142) hx hb dIMod_113 (by decide) (fun h => absurd h (by decide)) (fun _ => ?_)
  refine lv_aload_n hx hb dIMod_116 rfl (lv_at hl 1 rfl) ?_
  refine va_get (D := D) (ci := 5) (v := .ref q7) (own := "OnlyInDisguiseModel") (ref := "OnlyInDisguiseModel") (C := RX7) (T := TX7) (N := 19) hx hb hws iaX7 hown hK hP 0 rfl rfl 0 (by decide) (hws _ (in_aTbl 846 (by decide +kernel) rfl)) (fun _ h => h) rfl dIMod_117 ?_
  refine lv_iconst (v := 3) hx hb dIMod_120 (by decide) ?_
  refine lv_iload_n hx hb dIMod_121 rfl (lv_at hl 0 rfl) ?_
  refine lv_iadd hx hb dIMod_122 ?_
  refine lv_iload_n hx hb dIMod_123 rfl (lv_at hl 0 rfl) ?_
  refine va_iast hx hb hK hP hD hS 1 0 rfl rfl (by show ¬ (_ ∨ _); decide) dIMod_124 (fun H locs hP hD hS => ?_)
  have hP : va_P D aCl [(h0, .inr (5, [.ref q7, .ref q15, .ref q23, .ref q31, .int 0, .int 0, .int 0, .int 0, .ref q38, .ref q46, .ref q55, .int 0, .ref q63, .ref q71, .ref q79, .ref q87, .ref q95, .ref q104, .int 0])), (q7, .inl (cA, 45, .inl (upd (upd (upd (upd (upd (upd (upd (fun _ => Int32.ofInt 0) ((3 : Int32) + 0).toNatClampNeg 0) ((8 : Int32) + 0).toNatClampNeg (-4)) ((3 : Int32) + 1).toNatClampNeg 1) ((8 : Int32) + 1).toNatClampNeg (-4)) ((3 : Int32) + 2).toNatClampNeg 2) ((8 : Int32) + 2).toNatClampNeg (-4)) ((3 : Int32) + 3).toNatClampNeg 3))), (q15, zA cA 45), (q23, zA cA 45), (q31, zA cA 45), (q38, zA cA 3), (q46, zA cA 40), (q55, zA cA 1536), (q63, zA cA 8), (q71, zA cA 8), (q79, zA cA 8), (q87, zA cA 8), (q95, zA cA 8), (q104, zA cA 800)] H := hP
  have hD : va_D A [(h0, .inr (5, [.ref q7, .ref q15, .ref q23, .ref q31, .int 0, .int 0, .int 0, .int 0, .ref q38, .ref q46, .ref q55, .int 0, .ref q63, .ref q71, .ref q79, .ref q87, .ref q95, .ref q104, .int 0])), (q7, .inl (cA, 45, .inl (upd (upd (upd (upd (upd (upd (upd (fun _ => Int32.ofInt 0) ((3 : Int32) + 0).toNatClampNeg 0) ((8 : Int32) + 0).toNatClampNeg (-4)) ((3 : Int32) + 1).toNatClampNeg 1) ((8 : Int32) + 1).toNatClampNeg (-4)) ((3 : Int32) + 2).toNatClampNeg 2) ((8 : Int32) + 2).toNatClampNeg (-4)) ((3 : Int32) + 3).toNatClampNeg 3))), (q15, zA cA 45), (q23, zA cA 45), (q31, zA cA 45), (q38, zA cA 3), (q46, zA cA 40), (q55, zA cA 1536), (q63, zA cA 8), (q71, zA cA 8), (q79, zA cA 8), (q87, zA cA 8), (q95, zA cA 8), (q104, zA cA 800)] := hD
  refine lv_aload_n hx hb dIMod_125 rfl (lv_at hl 1 rfl) ?_
  refine va_get (D := D) (ci := 5) (v := .ref q7) (own := "OnlyInDisguiseModel") (ref := "OnlyInDisguiseModel") (C := RX7) (T := TX7) (N := 19) hx hb hws iaX7 hown hK hP 0 rfl rfl 0 (by decide) (hws _ (in_aTbl 846 (by decide +kernel) rfl)) (fun _ h => h) rfl dIMod_126 ?_
  refine lv_bipush (v := 8) hx hb dIMod_129 (by decide) ?_
  refine lv_iload_n hx hb dIMod_131 rfl (lv_at hl 0 rfl) ?_
  refine lv_iadd hx hb dIMod_132 ?_
  refine lv_bipush (v := (-4)) hx hb dIMod_133 (by decide) ?_
  refine va_iast hx hb hK hP hD hS 1 0 rfl rfl (by show ¬ (_ ∨ _); decide) dIMod_135 (fun H locs hP hD hS => ?_)
  have hP : va_P D aCl [(h0, .inr (5, [.ref q7, .ref q15, .ref q23, .ref q31, .int 0, .int 0, .int 0, .int 0, .ref q38, .ref q46, .ref q55, .int 0, .ref q63, .ref q71, .ref q79, .ref q87, .ref q95, .ref q104, .int 0])), (q7, .inl (cA, 45, .inl (upd (upd (upd (upd (upd (upd (upd (upd (fun _ => Int32.ofInt 0) ((3 : Int32) + 0).toNatClampNeg 0) ((8 : Int32) + 0).toNatClampNeg (-4)) ((3 : Int32) + 1).toNatClampNeg 1) ((8 : Int32) + 1).toNatClampNeg (-4)) ((3 : Int32) + 2).toNatClampNeg 2) ((8 : Int32) + 2).toNatClampNeg (-4)) ((3 : Int32) + 3).toNatClampNeg 3) ((8 : Int32) + 3).toNatClampNeg (-4)))), (q15, zA cA 45), (q23, zA cA 45), (q31, zA cA 45), (q38, zA cA 3), (q46, zA cA 40), (q55, zA cA 1536), (q63, zA cA 8), (q71, zA cA 8), (q79, zA cA 8), (q87, zA cA 8), (q95, zA cA 8), (q104, zA cA 800)] H := hP
  have hD : va_D A [(h0, .inr (5, [.ref q7, .ref q15, .ref q23, .ref q31, .int 0, .int 0, .int 0, .int 0, .ref q38, .ref q46, .ref q55, .int 0, .ref q63, .ref q71, .ref q79, .ref q87, .ref q95, .ref q104, .int 0])), (q7, .inl (cA, 45, .inl (upd (upd (upd (upd (upd (upd (upd (upd (fun _ => Int32.ofInt 0) ((3 : Int32) + 0).toNatClampNeg 0) ((8 : Int32) + 0).toNatClampNeg (-4)) ((3 : Int32) + 1).toNatClampNeg 1) ((8 : Int32) + 1).toNatClampNeg (-4)) ((3 : Int32) + 2).toNatClampNeg 2) ((8 : Int32) + 2).toNatClampNeg (-4)) ((3 : Int32) + 3).toNatClampNeg 3) ((8 : Int32) + 3).toNatClampNeg (-4)))), (q15, zA cA 45), (q23, zA cA 45), (q31, zA cA 45), (q38, zA cA 3), (q46, zA cA 40), (q55, zA cA 1536), (q63, zA cA 8), (q71, zA cA 8), (q79, zA cA 8), (q87, zA cA 8), (q95, zA cA 8), (q104, zA cA 800)] := hD
  refine lv_iinc (v := 4) (lv' := [(1, .int 4), (0, .ref h0)]) hx hb dIMod_136 hl (k := 0) rfl (by decide) (by decide) rfl (fun ls hl => ?_)
  refine lv_goto (tgt := 111) hx hb dIMod_139 (by decide) ?_
  refine lv_iload_n hx hb dIMod_111 rfl (lv_at hl 0 rfl) ?_
  refine lv_iconst (v := 5) hx hb dIMod_112 (by decide) ?_
  refine lv_icmp_ge (tgt := 142) hx hb dIMod_113 (by decide) (fun h => absurd h (by decide)) (fun _ => ?_)
  refine lv_aload_n hx hb dIMod_116 rfl (lv_at hl 1 rfl) ?_
  refine va_get (D := D) (ci := 5) (v := .ref q7) (own := "OnlyInDisguiseModel") (ref := "OnlyInDisguiseModel") (C := RX7) (T := TX7) (N := 19) hx hb hws iaX7 hown hK hP 0 rfl rfl 0 (by decide) (hws _ (in_aTbl 846 (by decide +kernel) rfl)) (fun _ h => h) rfl dIMod_117 ?_
  refine lv_iconst (v := 3) hx hb dIMod_120 (by decide) ?_
  refine lv_iload_n hx hb dIMod_121 rfl (lv_at hl 0 rfl) ?_
  refine lv_iadd hx hb dIMod_122 ?_
  refine lv_iload_n hx hb dIMod_123 rfl (lv_at hl 0 rfl) ?_
  refine va_iast hx hb hK hP hD hS 1 0 rfl rfl (by show ¬ (_ ∨ _); decide) dIMod_124 (fun H locs hP hD hS => ?_)
  have hP : va_P D aCl [(h0, .inr (5, [.ref q7, .ref q15, .ref q23, .ref q31, .int 0, .int 0, .int 0, .int 0, .ref q38, .ref q46, .ref q55, .int 0, .ref q63, .ref q71, .ref q79, .ref q87, .ref q95, .ref q104, .int 0])), (q7, .inl (cA, 45, .inl (upd (upd (upd (upd (upd (upd (upd (upd (upd (fun _ => Int32.ofInt 0) ((3 : Int32) + 0).toNatClampNeg 0) ((8 : Int32) + 0).toNatClampNeg (-4)) ((3 : Int32) + 1).toNatClampNeg 1) ((8 : Int32) + 1).toNatClampNeg (-4)) ((3 : Int32) + 2).toNatClampNeg 2) ((8 : Int32) + 2).toNatClampNeg (-4)) ((3 : Int32) + 3).toNatClampNeg 3) ((8 : Int32) + 3).toNatClampNeg (-4)) ((3 : Int32) + 4).toNatClampNeg 4))), (q15, zA cA 45), (q23, zA cA 45), (q31, zA cA 45), (q38, zA cA 3), (q46, zA cA 40), (q55, zA cA 1536), (q63, zA cA 8), (q71, zA cA 8), (q79, zA cA 8), (q87, zA cA 8), (q95, zA cA 8), (q104, zA cA 800)] H := hP
  have hD : va_D A [(h0, .inr (5, [.ref q7, .ref q15, .ref q23, .ref q31, .int 0, .int 0, .int 0, .int 0, .ref q38, .ref q46, .ref q55, .int 0, .ref q63, .ref q71, .ref q79, .ref q87, .ref q95, .ref q104, .int 0])), (q7, .inl (cA, 45, .inl (upd (upd (upd (upd (upd (upd (upd (upd (upd (fun _ => Int32.ofInt 0) ((3 : Int32) + 0).toNatClampNeg 0) ((8 : Int32) + 0).toNatClampNeg (-4)) ((3 : Int32) + 1).toNatClampNeg 1) ((8 : Int32) + 1).toNatClampNeg (-4)) ((3 : Int32) + 2).toNatClampNeg 2) ((8 : Int32) + 2).toNatClampNeg (-4)) ((3 : Int32) + 3).toNatClampNeg 3) ((8 : Int32) + 3).toNatClampNeg (-4)) ((3 : Int32) + 4).toNatClampNeg 4))), (q15, zA cA 45), (q23, zA cA 45), (q31, zA cA 45), (q38, zA cA 3), (q46, zA cA 40), (q55, zA cA 1536), (q63, zA cA 8), (q71, zA cA 8), (q79, zA cA 8), (q87, zA cA 8), (q95, zA cA 8), (q104, zA cA 800)] := hD
  refine lv_aload_n hx hb dIMod_125 rfl (lv_at hl 1 rfl) ?_
  refine va_get (D := D) (ci := 5) (v := .ref q7) (own := "OnlyInDisguiseModel") (ref := "OnlyInDisguiseModel") (C := RX7) (T := TX7) (N := 19) hx hb hws iaX7 hown hK hP 0 rfl rfl 0 (by decide) (hws _ (in_aTbl 846 (by decide +kernel) rfl)) (fun _ h => h) rfl dIMod_126 ?_
  refine lv_bipush (v := 8) hx hb dIMod_129 (by decide) ?_
  refine lv_iload_n hx hb dIMod_131 rfl (lv_at hl 0 rfl) ?_
  refine lv_iadd hx hb dIMod_132 ?_
  refine lv_bipush (v := (-4)) hx hb dIMod_133 (by decide) ?_
  refine va_iast hx hb hK hP hD hS 1 0 rfl rfl (by show ¬ (_ ∨ _); decide) dIMod_135 (fun H locs hP hD hS => ?_)
  have hP : va_P D aCl [(h0, .inr (5, [.ref q7, .ref q15, .ref q23, .ref q31, .int 0, .int 0, .int 0, .int 0, .ref q38, .ref q46, .ref q55, .int 0, .ref q63, .ref q71, .ref q79, .ref q87, .ref q95, .ref q104, .int 0])), (q7, .inl (cA, 45, .inl (upd (upd (upd (upd (upd (upd (upd (upd (upd (upd (fun _ => Int32.ofInt 0) ((3 : Int32) + 0).toNatClampNeg 0) ((8 : Int32) + 0).toNatClampNeg (-4)) ((3 : Int32) + 1).toNatClampNeg 1) ((8 : Int32) + 1).toNatClampNeg (-4)) ((3 : Int32) + 2).toNatClampNeg 2) ((8 : Int32) + 2).toNatClampNeg (-4)) ((3 : Int32) + 3).toNatClampNeg 3) ((8 : Int32) + 3).toNatClampNeg (-4)) ((3 : Int32) + 4).toNatClampNeg 4) ((8 : Int32) + 4).toNatClampNeg (-4)))), (q15, zA cA 45), (q23, zA cA 45), (q31, zA cA 45), (q38, zA cA 3), (q46, zA cA 40), (q55, zA cA 1536), (q63, zA cA 8), (q71, zA cA 8), (q79, zA cA 8), (q87, zA cA 8), (q95, zA cA 8), (q104, zA cA 800)] H := hP
  have hD : va_D A [(h0, .inr (5, [.ref q7, .ref q15, .ref q23, .ref q31, .int 0, .int 0, .int 0, .int 0, .ref q38, .ref q46, .ref q55, .int 0, .ref q63, .ref q71, .ref q79, .ref q87, .ref q95, .ref q104, .int 0])), (q7, .inl (cA, 45, .inl (upd (upd (upd (upd (upd (upd (upd (upd (upd (upd (fun _ => Int32.ofInt 0) ((3 : Int32) + 0).toNatClampNeg 0) ((8 : Int32) + 0).toNatClampNeg (-4)) ((3 : Int32) + 1).toNatClampNeg 1) ((8 : Int32) + 1).toNatClampNeg (-4)) ((3 : Int32) + 2).toNatClampNeg 2) ((8 : Int32) + 2).toNatClampNeg (-4)) ((3 : Int32) + 3).toNatClampNeg 3) ((8 : Int32) + 3).toNatClampNeg (-4)) ((3 : Int32) + 4).toNatClampNeg 4) ((8 : Int32) + 4).toNatClampNeg (-4)))), (q15, zA cA 45), (q23, zA cA 45), (q31, zA cA 45), (q38, zA cA 3), (q46, zA cA 40), (q55, zA cA 1536), (q63, zA cA 8), (q71, zA cA 8), (q79, zA cA 8), (q87, zA cA 8), (q95, zA cA 8), (q104, zA cA 800)] := hD
  refine lv_iinc (v := 5) (lv' := [(1, .int 5), (0, .ref h0)]) hx hb dIMod_136 hl (k := 0) rfl (by decide) (by decide) rfl (fun ls hl => ?_)
  refine lv_goto (tgt := 111) hx hb dIMod_139 (by decide) ?_
  refine lv_iload_n hx hb dIMod_111 rfl (lv_at hl 0 rfl) ?_
  refine lv_iconst (v := 5) hx hb dIMod_112 (by decide) ?_
  refine lv_icmp_ge (tgt := 142) hx hb dIMod_113 (by decide) (fun _ => ?_) (fun h => absurd (by decide) h)
  have es : sz9 = fun j : Nat => Int32.ofInt (szF (j : Int)) := sz_eq
  have hP : va_P D aCl [(h0, .inr (5, [.ref q7, .ref q15, .ref q23, .ref q31, .int 0, .int 0, .int 0, .int 0, .ref q38, .ref q46, .ref q55, .int 0, .ref q63, .ref q71, .ref q79, .ref q87, .ref q95, .ref q104, .int 0])), (q7, fA cA 45 szF), (q15, zA cA 45), (q23, zA cA 45), (q31, zA cA 45), (q38, zA cA 3), (q46, zA cA 40), (q55, zA cA 1536), (q63, zA cA 8), (q71, zA cA 8), (q79, zA cA 8), (q87, zA cA 8), (q95, zA cA 8), (q104, zA cA 800)] H := by
    unfold fA
    rw [← es]
    exact hP
  have hD : va_D A [(h0, .inr (5, [.ref q7, .ref q15, .ref q23, .ref q31, .int 0, .int 0, .int 0, .int 0, .ref q38, .ref q46, .ref q55, .int 0, .ref q63, .ref q71, .ref q79, .ref q87, .ref q95, .ref q104, .int 0])), (q7, fA cA 45 szF), (q15, zA cA 45), (q23, zA cA 45), (q31, zA cA 45), (q38, zA cA 3), (q46, zA cA 40), (q55, zA cA 1536), (q63, zA cA 8), (q71, zA cA 8), (q79, zA cA 8), (q87, zA cA 8), (q95, zA cA 8), (q104, zA cA 800)] := by
    unfold fA
    rw [← es]
    exact hD
  have hP9 : va_P D aCl (kMod cA h0 (fun t c => (([[q7, q15, q23, q31], [q38], [q46], [q55], [q63], [q71], [q79], [q87], [q95], [q104]] : List (List Nat)).getD (t - 22) []).getD c 0)) H := hP
  have hD9 : va_D A (kMod cA h0 (fun t c => (([[q7, q15, q23, q31], [q38], [q46], [q55], [q63], [q71], [q79], [q87], [q95], [q104]] : List (List Nat)).getD (t - 22) []).getD c 0)) := hD
  refine W.widen (k := 13) (n := 2599) (by omega) (by omega) ?_
  exact W.vret hx hb hr (fun t ht hW => ⟨⟨(fun t c => (([[q7, q15, q23, q31], [q38], [q46], [q55], [q63], [q71], [q79], [q87], [q95], [q104]] : List (List Nat)).getD (t - 22) []).getD c 0), rfl, trivial, by rw [ht]; exact hP9, hD9⟩, hS.F ht⟩) hS.2.2 dIMod_142
