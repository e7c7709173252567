theorem mm999 : Cond.methodLink RX2 31 ⟨RX1, "tosses", "(ILjava/util/ArrayList;)I"⟩ ∈ gW := gW_of (i := 999) (by decide +kernel) rfl
theorem mm1000 : Cond.sameMethod RX1 RX3 "tosses" "(ILjava/util/ArrayList;)I" ∈ gW := gW_of (i := 1000) (by decide +kernel) rfl
theorem mm1015 : Cond.methodLink RX10 40 ⟨RX9, "tosses", "(ILjava/util/ArrayList;)I"⟩ ∈ gW := gW_of (i := 1015) (by decide +kernel) rfl
theorem mm1016 : Cond.sameMethod RX9 RX3 "tosses" "(ILjava/util/ArrayList;)I" ∈ gW := gW_of (i := 1016) (by decide +kernel) rfl
theorem mm1040 : Cond.methodLink RX10 36 ⟨RX9, "strikes", "(ILjava/util/ArrayList;)I"⟩ ∈ gW := gW_of (i := 1040) (by decide +kernel) rfl
theorem mm1041 : Cond.sameMethod RX9 RX3 "strikes" "(ILjava/util/ArrayList;)I" ∈ gW := gW_of (i := 1041) (by decide +kernel) rfl
theorem mm1056 : Cond.methodLink RX5 41 ⟨RX8, "tells", "(ILjava/util/ArrayList;)I"⟩ ∈ gW := gW_of (i := 1056) (by decide +kernel) rfl
theorem mm1057 : Cond.sameMethod RX8 RX3 "tells" "(ILjava/util/ArrayList;)I" ∈ gW := gW_of (i := 1057) (by decide +kernel) rfl
theorem mm387 : Cond.superclass RX1 RX3 ∈ gW := gW_of (i := 387) (by decide +kernel) rfl
theorem mm397 : Cond.superclass RX8 RX3 ∈ gW := gW_of (i := 397) (by decide +kernel) rfl
theorem mm407 : Cond.superclass RX9 RX3 ∈ gW := gW_of (i := 407) (by decide +kernel) rfl
theorem mm417 : Cond.superclass RX2 RX1 ∈ gW := gW_of (i := 417) (by decide +kernel) rfl
theorem mm427 : Cond.superclass RX5 RX8 ∈ gW := gW_of (i := 427) (by decide +kernel) rfl
theorem mm437 : Cond.superclass RX10 RX9 ∈ gW := gW_of (i := 437) (by decide +kernel) rfl
theorem cpx_X2_31 : CWPX RX2 31 ⟨RX1, "tosses", "(ILjava/util/ArrayList;)I"⟩ qX3_tosses 2 := ⟨mm999, mm1000, mm417, mm387, cp_X8_31.2.2.2.1, cp_X8_31.2.2.2.2.1, cp_X8_31.2.2.2.2.2.1, ⟨⟨rfl, rfl⟩, by decide +kernel⟩, by decide +kernel, by decide⟩
theorem cpx_X10_40 : CWPX RX10 40 ⟨RX9, "tosses", "(ILjava/util/ArrayList;)I"⟩ qX3_tosses 2 := ⟨mm1015, mm1016, mm437, mm407, cp_X8_31.2.2.2.1, cp_X8_31.2.2.2.2.1, cp_X8_31.2.2.2.2.2.1, ⟨⟨rfl, rfl⟩, by decide +kernel⟩, by decide +kernel, by decide⟩
theorem cpx_X10_36 : CWPX RX10 36 ⟨RX9, "strikes", "(ILjava/util/ArrayList;)I"⟩ qX3_strikes 2 := ⟨mm1040, mm1041, mm437, mm407, cp_X1_31.2.2.2.1, cp_X1_31.2.2.2.2.1, cp_X1_31.2.2.2.2.2.1, ⟨⟨rfl, rfl⟩, by decide +kernel⟩, by decide +kernel, by decide⟩
theorem cpx_X5_41 : CWPX RX5 41 ⟨RX8, "tells", "(ILjava/util/ArrayList;)I"⟩ qX3_tells 2 := ⟨mm1056, mm1057, mm427, mm397, cp_X9_40.2.2.2.1, cp_X9_40.2.2.2.2.1, cp_X9_40.2.2.2.2.2.1, ⟨⟨rfl, rfl⟩, by decide +kernel⟩, by decide +kernel, by decide⟩
/-- an act's answer and the bodies that ran in it -/
abbrev AC (X : XZ) (M : MZ) (D : HP) (tr : List Int32) (r : Int32 × List Int32) : PO := PI fun y h => y = r.1 ∧ ∃ X2 D2, h = xh X2 M D2 ∧ FB X D X2 D2 ∧ BO X2 D2 (tr ++ r.2)
theorem BO.asc {X : XZ} {D : HP} {tr l1 l2 : List Int32} (h : BO X D (tr ++ l1 ++ l2)) : BO X D (tr ++ (l1 ++ l2)) := by
  rw [← List.append_assoc]
  exact h
theorem len1 (tr : List Int32) (b : Int32) : (tr ++ [b]).length = tr.length + 1 := by
  rw [List.length_append, List.length_singleton]
theorem aT2 {k v i x : Int32} (h : k = 2 ∨ k = 5) : aT k v i x = (x * 3 + i, [30, 10]) := by rw [aT, if_pos h]
theorem SV.cle {D : HP} {n : Nat} {k i v : Int32} (hs : SV D n k i v) : ∃ Cn T N, vwCl[kci k]? = some (Cn, T, N) := by
  rcases i07 hs.2.2 with rfl | rfl | rfl | rfl | rfl | rfl | rfl <;> exact ⟨_, _, _, rfl⟩
theorem BO.asc2 {X : XZ} {D : HP} {tr l0 l1 l2 : List Int32} (h : BO X D (tr ++ l0 ++ (l1 ++ l2))) : BO X D (tr ++ (l0 ++ (l1 ++ l2))) := by
  rw [← List.append_assoc]
  exact h
