section MM
variable {d mc ms pc : Nat} {q : QM} {L : List (Nat × Value)} {st : List Value} {h : HP} {Qp : PO}
theorem nest_math {own host : String} {idx : Nat} {y : MethodName} (hy : y.cls = "java/lang/Math") : (own, idx, y, host) ∉ nestL := by
  intro h
  have h1 : ∀ x ∈ nestL, x.2.2.1.cls = "TwoServes$Situation" ∨ x.2.2.1.cls = "TwoServes$Text" ∨ x.2.2.1.cls = "TwoServes$Court" ∨ x.2.2.1.cls = "TwoServes$Tape" ∨ x.2.2.1.cls = "TwoServes" := by decide
  have h2 := h1 _ h
  simp only [hy] at h2
  exact absurd h2 (by decide)
theorem s_mmax {own : String} {idx : Nat} {x y : Int32} (cw : CWS own idx qJ9_max_7cf53 2) (hown : q.1.cls = own) (hd : decode q.2.1 pc = .ok (.invokestatic idx, 3)) (hs : (st.map fun v => v.category).sum ≤ 8) (k : Sem (d + 1) q mc ms (pc + 3) L (.int (if x < y then y else x) :: st) h Qp) : Sem (d + 1) q mc ms pc L (.int y :: .int x :: st) h Qp := by
  intro w HB p l e R s m args below meth c mcT msT H locs cells slots ls C hW hS hl g1 g2
  obtain ⟨w1, w2, w4, w5, w6, w7⟩ := cw
  have e1 := C.2.2.2.2.2.2.2.2.2.2.1
  have e2 := C.2.2.2.2.2.2.2.2.2.2.2.1
  have e3 := C.2.2.2.2.2.2.2.2.2.2.2.2
  have h9 : ((st.map (em w)).map fun v => v.category).sum ≤ 8 := g_sum (KX_of C) hs
  rcases w1 with w1 | ⟨host, w1⟩
  · exact va_mmax C.1 C.2.1 (by rw [C.2.2.1]; exact hl.1.symm) (own_of C hown) (hts_of C w1) (hts_of C w2) (hts_of C w4) (hts_of C w5) (by omega) (by omega) (by omega) (by omega) hd (k w HB p l e R s m args below meth c mcT msT H locs cells slots ls C hW hS hl g1 g2)
  · exact absurd w1 (nest_math rfl)
theorem s_mmin {own : String} {idx : Nat} {x y : Int32} (cw : CWS own idx qJ9_min_7cf53 2) (hown : q.1.cls = own) (hd : decode q.2.1 pc = .ok (.invokestatic idx, 3)) (hs : (st.map fun v => v.category).sum ≤ 8) (k : Sem (d + 1) q mc ms (pc + 3) L (.int (if y < x then y else x) :: st) h Qp) : Sem (d + 1) q mc ms pc L (.int y :: .int x :: st) h Qp := by
  intro w HB p l e R s m args below meth c mcT msT H locs cells slots ls C hW hS hl g1 g2
  obtain ⟨w1, w2, w4, w5, w6, w7⟩ := cw
  have e1 := C.2.2.2.2.2.2.2.2.2.2.1
  have e2 := C.2.2.2.2.2.2.2.2.2.2.2.1
  have e3 := C.2.2.2.2.2.2.2.2.2.2.2.2
  have h9 : ((st.map (em w)).map fun v => v.category).sum ≤ 8 := g_sum (KX_of C) hs
  rcases w1 with w1 | ⟨host, w1⟩
  · exact va_mmin C.1 C.2.1 (by rw [C.2.2.1]; exact hl.1.symm) (own_of C hown) (hts_of C w1) (hts_of C w2) (hts_of C w4) (hts_of C w5) (by omega) (by omega) (by omega) (by omega) hd (k w HB p l e R s m args below meth c mcT msT H locs cells slots ls C hW hS hl g1 g2)
  · exact absurd w1 (nest_math rfl)
end MM
