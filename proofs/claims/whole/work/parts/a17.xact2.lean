theorem FB.sr {X X2 : XZ} {D D2 : HP} {w : Nat} {K : MZ} (h : FB X D X2 D2) (hw : w < 3) (hR : SR X D w K) : SR X2 D2 w K := by
  obtain ⟨f1, f2, f3, f4, f5, f6⟩ := h
  obtain ⟨⟨a1, a2, a3, a4, a5, a6⟩, hA, ⟨s1, s2⟩, hC⟩ := hR
  refine ⟨⟨?_, ?_, ?_, ?_, ?_, ?_⟩, ?_, ⟨fun i h4 hl => ?_, fun i h4 hl => ?_⟩, ?_⟩
  any_goals (rw [f1 _ (by omega) (by omega)]; assumption)
  · unfold SA; rw [f2]; exact hA
  · obtain ⟨n, e, hs⟩ := s1 i h4 hl
    exact ⟨n, by rw [f5]; exact e, hs.fd f6⟩
  · rw [f5]
    rcases s2 i h4 hl with e | ⟨n, k, j, v, e, hs⟩
    · exact Or.inl e
    · exact Or.inr ⟨n, k, j, v, e, hs.fd f6⟩
  · unfold SC; rw [f4 w (by omega)]; exact hC
theorem a012 {a : Int32} (h : 0 ≤ a ∧ a ≤ 2) : a = 0 ∨ a = 1 ∨ a = 2 := by
  have h1 := h.1
  have h2 := h.2
  simp only [Int32.le_iff_toInt_le, ← Int32.toInt_inj] at *
  simp at *
  omega
section BoxC
variable {d mc ms pc : Nat} {q : QM} {L : List (Nat × Value)} {st : List Value} {h : HP} {Qp : PO}
theorem s_VB0i {own : String} {idx : Nat} {j : UInt32} {q' : QM} {P : Int32 → HP → Prop} (hj : j.toNat < 256) (cw : CWV own idx q' 0) (hown : q.1.cls = own) (hcl : q'.1.cls = RJ6) (hd : decode q.2.1 pc = .ok (.invokevirtual idx, 3)) (hs : (st.map fun v => v.category).sum ≤ 8) (hC : Con d q' 0 0 (.float j :: []) h (PI P)) (kk : ∀ (x : Int32) (h1 : HP), P x h1 → Sem (d + 1) q mc ms (pc + 3) L (.int x :: st) h1 Qp) : Sem (d + 1) q mc ms pc L (.float j :: st) h Qp := by
  have k9 := s_callVB (mc := mc) (ms := ms) (L := L) (Qp := Qp) hj cw hown hcl hd rfl hs rfl hC (fun r1 h1 hq => by
    obtain ⟨x, rfl, hp⟩ := hq
    exact kk x h1 hp)
  rwa [Nat.zero_add, Nat.zero_add] at k9
end BoxC
theorem tr_lt {i : Int32} {m : Nat} (hm : m < 2 ^ 31) (h : 0 ≤ i ∧ i < nI m) : ∃ k : Nat, k < m ∧ i = nI k := by
  refine ⟨pz i, ?_, nI_pz h.1⟩
  have e := nI_pz h.1
  by_cases g : m ≤ pz i
  · have h9 : nI m ≤ i := by
      rw [e]
      refine nI_le g ?_
      have := i.toInt_lt
      show i.toInt.toNat < _
      omega
    exact absurd h.2 (Int32.not_lt.mpr h9)
  · omega
