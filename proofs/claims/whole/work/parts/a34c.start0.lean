theorem k_arr {args : Array Value} {s : State} {ty : FieldType} (h : (Cond.arrayClass ty).before args s = true) : ∃ c, ArrOfT s c ty ∧ s.vm.findClass ("[" ++ ty.toString) = some c := by
  obtain ⟨c, k, comp, h1, h2, h3⟩ := Cond.arrayClass_spec h
  exact ⟨c, fun n z => ⟨fun k h => (by cases h), k, h2, comp, h3⟩, h1⟩
theorem k_arrO {args : Array Value} {s : State} {C : String} (h : (Cond.arrayOver (.object C)).before args s = true) : ∃ c, ArrOfT s c (.object C) ∧ va_RA s c (.object C) := by
  obtain ⟨comp, c, k, h1, -, h2, h3, h4⟩ := Cond.arrayOver_spec h
  exact ⟨c, fun n z => ⟨fun k h => (by cases h), k, h2, comp, h3⟩, k, comp, h2, h3, h1, h4⟩
theorem k_arrA {args : Array Value} {s : State} (h : (Cond.arrayOver (.array .int)).before args s = true) : ∃ c, ArrOfT s c (.array .int) ∧ va_RA s c (.array .int) := by
  obtain ⟨comp, c, k, h1, -, h2, h3, h4⟩ := arrayOverA_spec h
  exact ⟨c, fun n z => ⟨fun k h => (by cases h), k, h2, comp, h3⟩, h4⟩
theorem k_cls {args : Array Value} {s : State} (hg : ∀ x ∈ gW, x.before args s = true) : ∃ D : va_G, ∀ (k : Nat) (q : vw_C), vwCl[k]? = some q → u_Kn s q.1 q.2.1 q.2.2 (D.1 k) (D.2 k) := by
  have h0 : ∀ (k : Nat) (q : vw_C), vwCl[k]? = some q → ∃ (cC : ClassId) (iS : Nat → Nat), u_Kn s q.1 q.2.1 q.2.2 cC iS := by
    intro k q hq
    match k, hq with
    | 0, hq => cases hq; exact u_known hg uw_J6 (hg _ m931)
    | 1, hq => cases hq; exact u_known hg uw_Jx4a65c (hg _ m232)
    | 2, hq => cases hq; exact u_known hg uw_X0 (hg _ m259)
    | 3, hq => cases hq; exact u_known hg uw_X1 (hg _ m351)
    | 4, hq => cases hq; exact u_known hg uw_X2 (hg _ m409)
    | 5, hq => cases hq; exact u_known hg uw_X3 (hg _ m439)
    | 6, hq => cases hq; exact u_known hg uw_X4 (hg _ m110)
    | 7, hq => cases hq; exact u_known hg uw_X5 (hg _ m419)
    | 8, hq => cases hq; exact u_known hg uw_X6 (hg _ m283)
    | 9, hq => cases hq; exact u_known hg uw_X7 (hg _ m210)
    | 10, hq => cases hq; exact u_known hg uw_X8 (hg _ m389)
    | 11, hq => cases hq; exact u_known hg uw_X9 (hg _ m399)
    | 12, hq => cases hq; exact u_known hg uw_X10 (hg _ m429)
    | 13, hq => cases hq; exact u_known hg uw_X11 (hg _ m102)
    | 14, hq => cases hq; exact u_known hg uw_X12 (hg _ m1151)
    | k + 15, hq => simp at hq
  have h1 : ∀ k : Nat, ∃ z : ClassId × (Nat → Nat), ∀ q : vw_C, vwCl[k]? = some q → u_Kn s q.1 q.2.1 q.2.2 z.1 z.2 := by
    intro k
    cases hq : vwCl[k]? with
    | none =>
      obtain ⟨c, i, -⟩ := h0 0 _ rfl
      exact ⟨(c, i), fun q hz => by cases hz⟩
    | some q =>
      obtain ⟨c, i, h⟩ := h0 k q hq
      exact ⟨(c, i), fun q2 hz => by cases hz; exact h⟩
  exact ⟨(fun k => (Classical.choose (h1 k)).1, fun k => (Classical.choose (h1 k)).2), fun k q hq => Classical.choose_spec (h1 k) q hq⟩
theorem k_nc {args : Array Value} {s : State} (hs : ∀ c ∈ flatC (Jvm.Cond.and given_1 narrow_1), c.before args s = true) : ∀ x ∈ ncastL, va_Nc x.1 x.2 s := by
  have h : ∀ x ∈ ncastL, Cond.not (.castable x.1 x.2) ∈ flatC (Jvm.Cond.and given_1 narrow_1) := by decide +kernel
  exact fun x hx => va_Nc.of (hs _ (h x hx))
def k_tm : Nat → Term := fun i => match i with
  | 0 => .string "TwoServes$Text" 43
  | 1 => .string "TwoServes$Text" 45
  | 2 => .string "TwoServes$Text" 47
  | 3 => .string "TwoServes$Text" 82
  | _ => .string "TwoServes$Text" 88
theorem k_str {args : Array Value} {s : State} {A : Nat → Prop} (hs : ∀ c ∈ flatC (Jvm.Cond.and given_1 narrow_1), c.before args s = true) (hA : ∀ a : Nat, a < s.heap.size → ¬ A a) : ∃ adK adV : Nat → Nat, vk_S 5 strLen strByt adK adV A s s.heap ∧ ∀ i : Nat, i < 5 → (k_tm i).eval args s none [] s = some (.ref (adK i)) := by
  have g1 : ∀ i, i < 5 → strLen.getD i 0 < 2 ^ 31 := by decide
  have g2 : ∀ i, i < 5 → Cond.exactly (k_tm i) "java/lang/String" ∈ flatC (Jvm.Cond.and given_1 narrow_1) := by decide +kernel
  have g3 : ∀ i, i < 5 → Cond.eq (.field (k_tm i) "java/lang/String" "coder" "B") (.int 0) ∈ flatC (Jvm.Cond.and given_1 narrow_1) := by decide +kernel
  have g4 : ∀ i, i < 5 → Cond.arrayOf (.field (k_tm i) "java/lang/String" "value" "[B") .byte ∈ flatC (Jvm.Cond.and given_1 narrow_1) := by decide +kernel
  have g5 : ∀ i, i < 5 → Cond.eq (.length (.field (k_tm i) "java/lang/String" "value" "[B")) (.int (Int32.ofNat (strLen.getD i 0))) ∈ flatC (Jvm.Cond.and given_1 narrow_1) := by decide +kernel
  have g6 : ∀ i, i < 5 → ∀ j, j < strLen.getD i 0 → Cond.eq (.elem (.field (k_tm i) "java/lang/String" "value" "[B") (.int (Int32.ofNat j))) (.int ((strByt.getD i []).getD j 0)) ∈ flatC (Jvm.Cond.and given_1 narrow_1) := by decide +kernel
  have g7 : ∀ i, i < 5 → ∀ j, j < 5 → i ≠ j → Cond.not (Cond.eq (k_tm i) (k_tm j)) ∈ flatC (Jvm.Cond.and given_1 narrow_1) ∨ Cond.not (Cond.eq (k_tm j) (k_tm i)) ∈ flatC (Jvm.Cond.and given_1 narrow_1) := by decide +kernel
  exact vk_Sof g1 (fun i hi => hs _ (g2 i hi)) (fun i hi => hs _ (g3 i hi)) (fun i hi => hs _ (g4 i hi)) (fun i hi => hs _ (g5 i hi)) (fun i hi j hj => hs _ (g6 i hi j hj)) (fun i j hi hj hne => (g7 i hi j hj hne).imp (hs _) (hs _)) hA
theorem k_nest {args : Array Value} {s : State} (hts : ∀ w ∈ lw_tbl, w.before args s = true) : ∀ x ∈ nestL, va_Nw (.methodLinkNest x.1 x.2.1 x.2.2.1 x.2.2.2) s := List.forall_mem_cons.mpr ⟨va_Nw.of rfl (hts _ (List.mem_of_getElem? (i := 111) (by decide +kernel))), List.forall_mem_cons.mpr ⟨va_Nw.of rfl (hts _ (List.mem_of_getElem? (i := 211) (by decide +kernel))), List.forall_mem_cons.mpr ⟨va_Nw.of rfl (hts _ (List.mem_of_getElem? (i := 260) (by decide +kernel))), List.forall_mem_cons.mpr ⟨va_Nw.of rfl (hts _ (List.mem_of_getElem? (i := 284) (by decide +kernel))), List.forall_mem_cons.mpr ⟨va_Nw.of rfl (hts _ (List.mem_of_getElem? (i := 736) (by decide +kernel))), List.forall_mem_cons.mpr ⟨va_Nw.of rfl (hts _ (List.mem_of_getElem? (i := 449) (by decide +kernel))), List.forall_mem_cons.mpr ⟨va_Nw.of rfl (hts _ (List.mem_of_getElem? (i := 558) (by decide +kernel))), fun _ z => absurd z List.not_mem_nil⟩⟩⟩⟩⟩⟩⟩
theorem k_cast {args : Array Value} {s : State} (hts : ∀ w ∈ lw_tbl, w.before args s = true) : ∀ x ∈ castL, va_Nw (.castable x.1 x.2) s := List.forall_mem_cons.mpr ⟨va_Nw.of rfl (hts _ (List.mem_of_getElem? (i := 1728) (by decide +kernel))), List.forall_mem_cons.mpr ⟨va_Nw.of rfl (hts _ (List.mem_of_getElem? (i := 1729) (by decide +kernel))), List.forall_mem_cons.mpr ⟨va_Nw.of rfl (hts _ (List.mem_of_getElem? (i := 1730) (by decide +kernel))), List.forall_mem_cons.mpr ⟨va_Nw.of rfl (hts _ (List.mem_of_getElem? (i := 1731) (by decide +kernel))), List.forall_mem_cons.mpr ⟨va_Nw.of rfl (hts _ (List.mem_of_getElem? (i := 1732) (by decide +kernel))), List.forall_mem_cons.mpr ⟨va_Nw.of rfl (hts _ (List.mem_of_getElem? (i := 1733) (by decide +kernel))), List.forall_mem_cons.mpr ⟨va_Nw.of rfl (hts _ (List.mem_of_getElem? (i := 1709) (by decide +kernel))), List.forall_mem_cons.mpr ⟨va_Nw.of rfl (hts _ (List.mem_of_getElem? (i := 1710) (by decide +kernel))), List.forall_mem_cons.mpr ⟨va_Nw.of rfl (hts _ (List.mem_of_getElem? (i := 1711) (by decide +kernel))), List.forall_mem_cons.mpr ⟨va_Nw.of rfl (hts _ (List.mem_of_getElem? (i := 1715) (by decide +kernel))), fun _ z => absurd z List.not_mem_nil⟩⟩⟩⟩⟩⟩⟩⟩⟩⟩
theorem k_ex {args : Array Value} {s : State} {A : Nat → Prop} (hts : ∀ w ∈ lw_tbl, w.before args s = true) (hs : ∀ c ∈ flatC (Jvm.Cond.and given_1 narrow_1), c.before args s = true) (hA : ∀ a : Nat, a < s.heap.size → ¬ A a) :
    ∃ (ad : Nat → Nat) (tc td : Nat) (sf : Value), vb_C ad A s s.heap ∧ va_Z "java/lang/Integer$IntegerCache" "cache" "[Ljava/lang/Integer;" (.ref tc) A s s.heap ∧ va_T (.object "java/lang/Integer") tc 256 (fun j => .ref (ad j)) A s s.heap ∧ va_Z "java/lang/Integer$IntegerCache" "high" "I" (.int 127) A s s.heap ∧ va_Z "java/util/ArrayList" "DEFAULTCAPACITY_EMPTY_ELEMENTDATA" "[Ljava/lang/Object;" (.ref td) A s s.heap ∧ va_T (.object "java/lang/Object") td 0 (fun _ => .null) A s s.heap ∧ va_Z "java/lang/String" "COMPACT_STRINGS" "Z" (.int 1) A s s.heap ∧ va_Z "jdk/internal/util/Preconditions" "SIOOBE_FORMATTER" "Ljava/util/function/BiFunction;" sf A s s.heap ∧ sf.category = 1 := by
  obtain ⟨ad, hC, hel⟩ := vb_Cof (A := A) (st := (.static "java/lang/Integer$IntegerCache" "cache" "[Ljava/lang/Integer;")) rfl (va_eqt (hs _ (by decide +kernel))) (hs _ (by decide +kernel)) hA
  obtain ⟨tc, hc, hTc⟩ := va_Tof (tm := (.static "java/lang/Integer$IntegerCache" "cache" "[Ljava/lang/Integer;")) (ty := .object "java/lang/Integer") (N := 256) (f := fun j => .ref (ad j)) (A := A) (by decide) (hs _ (by decide +kernel)) (va_eqt (hs _ (by decide +kernel))) hel hA
  obtain ⟨td, hd, hTd⟩ := va_Tof (tm := (.static "java/util/ArrayList" "DEFAULTCAPACITY_EMPTY_ELEMENTDATA" "[Ljava/lang/Object;")) (ty := .object "java/lang/Object") (N := 0) (f := fun _ => .null) (A := A) (by decide) (hs _ (by decide +kernel)) (va_eqt (hs _ (by decide +kernel))) (fun j hj => absurd hj (Nat.not_lt_zero j)) hA
  have hsf : ∃ sf : Value, va_Z "jdk/internal/util/Preconditions" "SIOOBE_FORMATTER" "Ljava/util/function/BiFunction;" sf A s s.heap ∧ sf.category = 1 := by
    rcases va_Zqof (A := A) (C := "jdk/internal/util/Preconditions") (n := "SIOOBE_FORMATTER") (d := "Ljava/util/function/BiFunction;") (hts _ (List.mem_of_getElem? (i := 598) (by decide +kernel))) (hts _ (List.mem_of_getElem? (i := 91) (by decide +kernel))) (hs _ (by decide +kernel)) hA with h | ⟨t, h⟩
    · exact ⟨_, h, rfl⟩
    · exact ⟨_, h, rfl⟩
  obtain ⟨sf, hsf, hcat⟩ := hsf
  exact ⟨ad, tc, td, sf, hC, va_Zof (hts _ (List.mem_of_getElem? (i := 929) (by decide +kernel))) (hts _ (List.mem_of_getElem? (i := 97) (by decide +kernel))) hc hA, hTc, va_Zof (hts _ (List.mem_of_getElem? (i := 927) (by decide +kernel))) (hts _ (List.mem_of_getElem? (i := 97) (by decide +kernel))) (va_eqi (hs _ (by decide +kernel))) hA, va_Zof (hts _ (List.mem_of_getElem? (i := 244) (by decide +kernel))) (hts _ (List.mem_of_getElem? (i := 78) (by decide +kernel))) hd hA, hTd, va_Zof (hts _ (List.mem_of_getElem? (i := 127) (by decide +kernel))) (hts _ (List.mem_of_getElem? (i := 74) (by decide +kernel))) (va_eqi (hs _ (by decide +kernel))) hA, hsf, hcat⟩
