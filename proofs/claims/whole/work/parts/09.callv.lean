/-- what comes back: an int, a long, nothing, a reference, and the heap -/
def PI (P : Int32 → HP → Prop) : PO := fun r h => ∃ x : Int32, r = some (.int x) ∧ P x h
def PL (P : Int64 → HP → Prop) : PO := fun r h => ∃ x : Int64, r = some (.long x) ∧ P x h
def PV (P : HP → Prop) : PO := fun r h => r = none ∧ P h
def PR (P : Value → HP → Prop) : PO := fun r h => ∃ v : Value, r = some v ∧ P v h
section CallV
variable {d mc ms pc : Nat} {q : QM} {L : List (Nat × Value)} {st : List Value} {h : HP} {Qp : PO}
theorem s_V0i {own : String} {idx : Nat} {q' : QM} {b ci N : Nat} {fs : List Value} {T : u_T} {P : Int32 → HP → Prop} (cw : CWV own idx q' 0) (hown : q.1.cls = own) (hd : decode q.2.1 pc = .ok (.invokevirtual idx, 3)) (hc : h[b]? = some (.inr (ci, fs))) (hcl : vwCl[ci]? = some (q'.1.cls, T, N)) (hs : (st.map fun v => v.category).sum ≤ 8) (hC : Con d q' 0 0 (.ref b :: []) h (PI P)) (kk : ∀ (x : Int32) (h1 : HP), P x h1 → Sem (d + 1) q mc ms (pc + 3) L (.int x :: st) h1 Qp) : Sem (d + 1) q mc ms pc L (.ref b :: st) h Qp := by
  have k9 := s_callV (mc := mc) (ms := ms) (L := L) (Qp := Qp) cw hown hd hc hcl rfl hs rfl hC (fun r1 h1 hq => by
    obtain ⟨x, rfl, hp⟩ := hq
    exact kk x h1 hp)
  rwa [Nat.zero_add, Nat.zero_add] at k9
theorem s_V0im {own : String} {idx mc1 ms1 mc2 ms2 : Nat} {q' : QM} {b ci N : Nat} {fs : List Value} {T : u_T} {P : Int32 → HP → Prop} (cw : CWV own idx q' 0) (hown : q.1.cls = own) (hd : decode q.2.1 pc = .ok (.invokevirtual idx, 3)) (hc : h[b]? = some (.inr (ci, fs))) (hcl : vwCl[ci]? = some (q'.1.cls, T, N)) (hs : (st.map fun v => v.category).sum ≤ 8) (hC : Con d q' mc1 ms1 (.ref b :: []) h (PI P)) (hm : mc1 + mc = mc2) (hm2 : ms1 + ms = ms2) (kk : ∀ (x : Int32) (h1 : HP), P x h1 → Sem (d + 1) q mc ms (pc + 3) L (.int x :: st) h1 Qp) : Sem (d + 1) q mc2 ms2 pc L (.ref b :: st) h Qp := by
  subst hm hm2
  exact s_callV (mc := mc) (ms := ms) (L := L) (Qp := Qp) cw hown hd hc hcl rfl hs rfl hC (fun r1 h1 hq => by
    obtain ⟨x, rfl, hp⟩ := hq
    exact kk x h1 hp)
theorem s_U0i {own : String} {idx : Nat} {q' : QM} {b ci N : Nat} {fs : List Value} {T : u_T} {Cn : String} {x0 : MethodName} {P : Int32 → HP → Prop} (cw : CWU own idx Cn x0 q' 0) (hown : q.1.cls = own) (hd : decode q.2.1 pc = .ok (.invokevirtual idx, 3)) (hc : h[b]? = some (.inr (ci, fs))) (hcl : vwCl[ci]? = some (Cn, T, N)) (hs : (st.map fun v => v.category).sum ≤ 8) (hC : Con d q' 0 0 (.ref b :: []) h (PI P)) (kk : ∀ (x : Int32) (h1 : HP), P x h1 → Sem (d + 1) q mc ms (pc + 3) L (.int x :: st) h1 Qp) : Sem (d + 1) q mc ms pc L (.ref b :: st) h Qp := by
  have k9 := s_callU (mc := mc) (ms := ms) (L := L) (Qp := Qp) cw hown hd hc hcl rfl hs rfl hC (fun r1 h1 hq => by
    obtain ⟨x, rfl, hp⟩ := hq
    exact kk x h1 hp)
  rwa [Nat.zero_add, Nat.zero_add] at k9
theorem s_U0im {own : String} {idx mc1 ms1 mc2 ms2 : Nat} {q' : QM} {b ci N : Nat} {fs : List Value} {T : u_T} {Cn : String} {x0 : MethodName} {P : Int32 → HP → Prop} (cw : CWU own idx Cn x0 q' 0) (hown : q.1.cls = own) (hd : decode q.2.1 pc = .ok (.invokevirtual idx, 3)) (hc : h[b]? = some (.inr (ci, fs))) (hcl : vwCl[ci]? = some (Cn, T, N)) (hs : (st.map fun v => v.category).sum ≤ 8) (hC : Con d q' mc1 ms1 (.ref b :: []) h (PI P)) (hm : mc1 + mc = mc2) (hm2 : ms1 + ms = ms2) (kk : ∀ (x : Int32) (h1 : HP), P x h1 → Sem (d + 1) q mc ms (pc + 3) L (.int x :: st) h1 Qp) : Sem (d + 1) q mc2 ms2 pc L (.ref b :: st) h Qp := by
  subst hm hm2
  exact s_callU (mc := mc) (ms := ms) (L := L) (Qp := Qp) cw hown hd hc hcl rfl hs rfl hC (fun r1 h1 hq => by
    obtain ⟨x, rfl, hp⟩ := hq
    exact kk x h1 hp)
theorem s_P0i {own : String} {idx : Nat} {q' : QM} {b ci N : Nat} {fs : List Value} {T : u_T} {Cn : String} {P : Int32 → HP → Prop} (cw : CWP own idx q' 0) (hown : q.1.cls = own) (hd : decode q.2.1 pc = .ok (.invokespecial idx, 3)) (hc : h[b]? = some (.inr (ci, fs))) (hcl : vwCl[ci]? = some (Cn, T, N)) (hs : (st.map fun v => v.category).sum ≤ 8) (hC : Con d q' 0 0 (.ref b :: []) h (PI P)) (kk : ∀ (x : Int32) (h1 : HP), P x h1 → Sem (d + 1) q mc ms (pc + 3) L (.int x :: st) h1 Qp) : Sem (d + 1) q mc ms pc L (.ref b :: st) h Qp := by
  have k9 := s_callP (mc := mc) (ms := ms) (L := L) (Qp := Qp) cw hown hd hc hcl rfl hs rfl hC (fun r1 h1 hq => by
    obtain ⟨x, rfl, hp⟩ := hq
    exact kk x h1 hp)
  rwa [Nat.zero_add, Nat.zero_add] at k9
theorem s_P0im {own : String} {idx mc1 ms1 mc2 ms2 : Nat} {q' : QM} {b ci N : Nat} {fs : List Value} {T : u_T} {Cn : String} {P : Int32 → HP → Prop} (cw : CWP own idx q' 0) (hown : q.1.cls = own) (hd : decode q.2.1 pc = .ok (.invokespecial idx, 3)) (hc : h[b]? = some (.inr (ci, fs))) (hcl : vwCl[ci]? = some (Cn, T, N)) (hs : (st.map fun v => v.category).sum ≤ 8) (hC : Con d q' mc1 ms1 (.ref b :: []) h (PI P)) (hm : mc1 + mc = mc2) (hm2 : ms1 + ms = ms2) (kk : ∀ (x : Int32) (h1 : HP), P x h1 → Sem (d + 1) q mc ms (pc + 3) L (.int x :: st) h1 Qp) : Sem (d + 1) q mc2 ms2 pc L (.ref b :: st) h Qp := by
  subst hm hm2
  exact s_callP (mc := mc) (ms := ms) (L := L) (Qp := Qp) cw hown hd hc hcl rfl hs rfl hC (fun r1 h1 hq => by
    obtain ⟨x, rfl, hp⟩ := hq
    exact kk x h1 hp)
theorem s_S0i {own : String} {idx : Nat} {q' : QM} {P : Int32 → HP → Prop} (cw : CWS own idx q' 0) (hown : q.1.cls = own) (hd : decode q.2.1 pc = .ok (.invokestatic idx, 3)) (hs : (st.map fun v => v.category).sum ≤ 8) (hC : Con d q' 0 0 [] h (PI P)) (kk : ∀ (x : Int32) (h1 : HP), P x h1 → Sem (d + 1) q mc ms (pc + 3) L (.int x :: st) h1 Qp) : Sem (d + 1) q mc ms pc L (st) h Qp := by
  have k9 := s_callS (mc := mc) (ms := ms) (L := L) (Qp := Qp) cw hown hd rfl hs rfl hC (fun r1 h1 hq => by
    obtain ⟨x, rfl, hp⟩ := hq
    exact kk x h1 hp)
  rwa [Nat.zero_add, Nat.zero_add] at k9
theorem s_S0im {own : String} {idx mc1 ms1 mc2 ms2 : Nat} {q' : QM} {P : Int32 → HP → Prop} (cw : CWS own idx q' 0) (hown : q.1.cls = own) (hd : decode q.2.1 pc = .ok (.invokestatic idx, 3)) (hs : (st.map fun v => v.category).sum ≤ 8) (hC : Con d q' mc1 ms1 [] h (PI P)) (hm : mc1 + mc = mc2) (hm2 : ms1 + ms = ms2) (kk : ∀ (x : Int32) (h1 : HP), P x h1 → Sem (d + 1) q mc ms (pc + 3) L (.int x :: st) h1 Qp) : Sem (d + 1) q mc2 ms2 pc L (st) h Qp := by
  subst hm hm2
  exact s_callS (mc := mc) (ms := ms) (L := L) (Qp := Qp) cw hown hd rfl hs rfl hC (fun r1 h1 hq => by
    obtain ⟨x, rfl, hp⟩ := hq
    exact kk x h1 hp)
theorem s_V0l {own : String} {idx : Nat} {q' : QM} {b ci N : Nat} {fs : List Value} {T : u_T} {P : Int64 → HP → Prop} (cw : CWV own idx q' 0) (hown : q.1.cls = own) (hd : decode q.2.1 pc = .ok (.invokevirtual idx, 3)) (hc : h[b]? = some (.inr (ci, fs))) (hcl : vwCl[ci]? = some (q'.1.cls, T, N)) (hs : (st.map fun v => v.category).sum ≤ 8) (hC : Con d q' 0 0 (.ref b :: []) h (PL P)) (kk : ∀ (x : Int64) (h1 : HP), P x h1 → Sem (d + 1) q mc ms (pc + 3) L (.long x :: st) h1 Qp) : Sem (d + 1) q mc ms pc L (.ref b :: st) h Qp := by
  have k9 := s_callV (mc := mc) (ms := ms) (L := L) (Qp := Qp) cw hown hd hc hcl rfl hs rfl hC (fun r1 h1 hq => by
    obtain ⟨x, rfl, hp⟩ := hq
    exact kk x h1 hp)
  rwa [Nat.zero_add, Nat.zero_add] at k9
theorem s_V0lm {own : String} {idx mc1 ms1 mc2 ms2 : Nat} {q' : QM} {b ci N : Nat} {fs : List Value} {T : u_T} {P : Int64 → HP → Prop} (cw : CWV own idx q' 0) (hown : q.1.cls = own) (hd : decode q.2.1 pc = .ok (.invokevirtual idx, 3)) (hc : h[b]? = some (.inr (ci, fs))) (hcl : vwCl[ci]? = some (q'.1.cls, T, N)) (hs : (st.map fun v => v.category).sum ≤ 8) (hC : Con d q' mc1 ms1 (.ref b :: []) h (PL P)) (hm : mc1 + mc = mc2) (hm2 : ms1 + ms = ms2) (kk : ∀ (x : Int64) (h1 : HP), P x h1 → Sem (d + 1) q mc ms (pc + 3) L (.long x :: st) h1 Qp) : Sem (d + 1) q mc2 ms2 pc L (.ref b :: st) h Qp := by
  subst hm hm2
  exact s_callV (mc := mc) (ms := ms) (L := L) (Qp := Qp) cw hown hd hc hcl rfl hs rfl hC (fun r1 h1 hq => by
    obtain ⟨x, rfl, hp⟩ := hq
    exact kk x h1 hp)
theorem s_U0l {own : String} {idx : Nat} {q' : QM} {b ci N : Nat} {fs : List Value} {T : u_T} {Cn : String} {x0 : MethodName} {P : Int64 → HP → Prop} (cw : CWU own idx Cn x0 q' 0) (hown : q.1.cls = own) (hd : decode q.2.1 pc = .ok (.invokevirtual idx, 3)) (hc : h[b]? = some (.inr (ci, fs))) (hcl : vwCl[ci]? = some (Cn, T, N)) (hs : (st.map fun v => v.category).sum ≤ 8) (hC : Con d q' 0 0 (.ref b :: []) h (PL P)) (kk : ∀ (x : Int64) (h1 : HP), P x h1 → Sem (d + 1) q mc ms (pc + 3) L (.long x :: st) h1 Qp) : Sem (d + 1) q mc ms pc L (.ref b :: st) h Qp := by
  have k9 := s_callU (mc := mc) (ms := ms) (L := L) (Qp := Qp) cw hown hd hc hcl rfl hs rfl hC (fun r1 h1 hq => by
    obtain ⟨x, rfl, hp⟩ := hq
    exact kk x h1 hp)
  rwa [Nat.zero_add, Nat.zero_add] at k9
theorem s_U0lm {own : String} {idx mc1 ms1 mc2 ms2 : Nat} {q' : QM} {b ci N : Nat} {fs : List Value} {T : u_T} {Cn : String} {x0 : MethodName} {P : Int64 → HP → Prop} (cw : CWU own idx Cn x0 q' 0) (hown : q.1.cls = own) (hd : decode q.2.1 pc = .ok (.invokevirtual idx, 3)) (hc : h[b]? = some (.inr (ci, fs))) (hcl : vwCl[ci]? = some (Cn, T, N)) (hs : (st.map fun v => v.category).sum ≤ 8) (hC : Con d q' mc1 ms1 (.ref b :: []) h (PL P)) (hm : mc1 + mc = mc2) (hm2 : ms1 + ms = ms2) (kk : ∀ (x : Int64) (h1 : HP), P x h1 → Sem (d + 1) q mc ms (pc + 3) L (.long x :: st) h1 Qp) : Sem (d + 1) q mc2 ms2 pc L (.ref b :: st) h Qp := by
  subst hm hm2
  exact s_callU (mc := mc) (ms := ms) (L := L) (Qp := Qp) cw hown hd hc hcl rfl hs rfl hC (fun r1 h1 hq => by
    obtain ⟨x, rfl, hp⟩ := hq
    exact kk x h1 hp)
theorem s_P0l {own : String} {idx : Nat} {q' : QM} {b ci N : Nat} {fs : List Value} {T : u_T} {Cn : String} {P : Int64 → HP → Prop} (cw : CWP own idx q' 0) (hown : q.1.cls = own) (hd : decode q.2.1 pc = .ok (.invokespecial idx, 3)) (hc : h[b]? = some (.inr (ci, fs))) (hcl : vwCl[ci]? = some (Cn, T, N)) (hs : (st.map fun v => v.category).sum ≤ 8) (hC : Con d q' 0 0 (.ref b :: []) h (PL P)) (kk : ∀ (x : Int64) (h1 : HP), P x h1 → Sem (d + 1) q mc ms (pc + 3) L (.long x :: st) h1 Qp) : Sem (d + 1) q mc ms pc L (.ref b :: st) h Qp := by
  have k9 := s_callP (mc := mc) (ms := ms) (L := L) (Qp := Qp) cw hown hd hc hcl rfl hs rfl hC (fun r1 h1 hq => by
    obtain ⟨x, rfl, hp⟩ := hq
    exact kk x h1 hp)
  rwa [Nat.zero_add, Nat.zero_add] at k9
theorem s_P0lm {own : String} {idx mc1 ms1 mc2 ms2 : Nat} {q' : QM} {b ci N : Nat} {fs : List Value} {T : u_T} {Cn : String} {P : Int64 → HP → Prop} (cw : CWP own idx q' 0) (hown : q.1.cls = own) (hd : decode q.2.1 pc = .ok (.invokespecial idx, 3)) (hc : h[b]? = some (.inr (ci, fs))) (hcl : vwCl[ci]? = some (Cn, T, N)) (hs : (st.map fun v => v.category).sum ≤ 8) (hC : Con d q' mc1 ms1 (.ref b :: []) h (PL P)) (hm : mc1 + mc = mc2) (hm2 : ms1 + ms = ms2) (kk : ∀ (x : Int64) (h1 : HP), P x h1 → Sem (d + 1) q mc ms (pc + 3) L (.long x :: st) h1 Qp) : Sem (d + 1) q mc2 ms2 pc L (.ref b :: st) h Qp := by
  subst hm hm2
  exact s_callP (mc := mc) (ms := ms) (L := L) (Qp := Qp) cw hown hd hc hcl rfl hs rfl hC (fun r1 h1 hq => by
    obtain ⟨x, rfl, hp⟩ := hq
    exact kk x h1 hp)
theorem s_S0l {own : String} {idx : Nat} {q' : QM} {P : Int64 → HP → Prop} (cw : CWS own idx q' 0) (hown : q.1.cls = own) (hd : decode q.2.1 pc = .ok (.invokestatic idx, 3)) (hs : (st.map fun v => v.category).sum ≤ 8) (hC : Con d q' 0 0 [] h (PL P)) (kk : ∀ (x : Int64) (h1 : HP), P x h1 → Sem (d + 1) q mc ms (pc + 3) L (.long x :: st) h1 Qp) : Sem (d + 1) q mc ms pc L (st) h Qp := by
  have k9 := s_callS (mc := mc) (ms := ms) (L := L) (Qp := Qp) cw hown hd rfl hs rfl hC (fun r1 h1 hq => by
    obtain ⟨x, rfl, hp⟩ := hq
    exact kk x h1 hp)
  rwa [Nat.zero_add, Nat.zero_add] at k9
theorem s_S0lm {own : String} {idx mc1 ms1 mc2 ms2 : Nat} {q' : QM} {P : Int64 → HP → Prop} (cw : CWS own idx q' 0) (hown : q.1.cls = own) (hd : decode q.2.1 pc = .ok (.invokestatic idx, 3)) (hs : (st.map fun v => v.category).sum ≤ 8) (hC : Con d q' mc1 ms1 [] h (PL P)) (hm : mc1 + mc = mc2) (hm2 : ms1 + ms = ms2) (kk : ∀ (x : Int64) (h1 : HP), P x h1 → Sem (d + 1) q mc ms (pc + 3) L (.long x :: st) h1 Qp) : Sem (d + 1) q mc2 ms2 pc L (st) h Qp := by
  subst hm hm2
  exact s_callS (mc := mc) (ms := ms) (L := L) (Qp := Qp) cw hown hd rfl hs rfl hC (fun r1 h1 hq => by
    obtain ⟨x, rfl, hp⟩ := hq
    exact kk x h1 hp)
theorem s_V0r {own : String} {idx : Nat} {q' : QM} {b ci N : Nat} {fs : List Value} {T : u_T} {P : Value → HP → Prop} (cw : CWV own idx q' 0) (hown : q.1.cls = own) (hd : decode q.2.1 pc = .ok (.invokevirtual idx, 3)) (hc : h[b]? = some (.inr (ci, fs))) (hcl : vwCl[ci]? = some (q'.1.cls, T, N)) (hs : (st.map fun v => v.category).sum ≤ 8) (hC : Con d q' 0 0 (.ref b :: []) h (PR P)) (kk : ∀ (x : Value) (h1 : HP), P x h1 → Sem (d + 1) q mc ms (pc + 3) L (x :: st) h1 Qp) : Sem (d + 1) q mc ms pc L (.ref b :: st) h Qp := by
  have k9 := s_callV (mc := mc) (ms := ms) (L := L) (Qp := Qp) cw hown hd hc hcl rfl hs rfl hC (fun r1 h1 hq => by
    obtain ⟨x, rfl, hp⟩ := hq
    exact kk x h1 hp)
  rwa [Nat.zero_add, Nat.zero_add] at k9
theorem s_V0rm {own : String} {idx mc1 ms1 mc2 ms2 : Nat} {q' : QM} {b ci N : Nat} {fs : List Value} {T : u_T} {P : Value → HP → Prop} (cw : CWV own idx q' 0) (hown : q.1.cls = own) (hd : decode q.2.1 pc = .ok (.invokevirtual idx, 3)) (hc : h[b]? = some (.inr (ci, fs))) (hcl : vwCl[ci]? = some (q'.1.cls, T, N)) (hs : (st.map fun v => v.category).sum ≤ 8) (hC : Con d q' mc1 ms1 (.ref b :: []) h (PR P)) (hm : mc1 + mc = mc2) (hm2 : ms1 + ms = ms2) (kk : ∀ (x : Value) (h1 : HP), P x h1 → Sem (d + 1) q mc ms (pc + 3) L (x :: st) h1 Qp) : Sem (d + 1) q mc2 ms2 pc L (.ref b :: st) h Qp := by
  subst hm hm2
  exact s_callV (mc := mc) (ms := ms) (L := L) (Qp := Qp) cw hown hd hc hcl rfl hs rfl hC (fun r1 h1 hq => by
    obtain ⟨x, rfl, hp⟩ := hq
    exact kk x h1 hp)
theorem s_U0r {own : String} {idx : Nat} {q' : QM} {b ci N : Nat} {fs : List Value} {T : u_T} {Cn : String} {x0 : MethodName} {P : Value → HP → Prop} (cw : CWU own idx Cn x0 q' 0) (hown : q.1.cls = own) (hd : decode q.2.1 pc = .ok (.invokevirtual idx, 3)) (hc : h[b]? = some (.inr (ci, fs))) (hcl : vwCl[ci]? = some (Cn, T, N)) (hs : (st.map fun v => v.category).sum ≤ 8) (hC : Con d q' 0 0 (.ref b :: []) h (PR P)) (kk : ∀ (x : Value) (h1 : HP), P x h1 → Sem (d + 1) q mc ms (pc + 3) L (x :: st) h1 Qp) : Sem (d + 1) q mc ms pc L (.ref b :: st) h Qp := by
  have k9 := s_callU (mc := mc) (ms := ms) (L := L) (Qp := Qp) cw hown hd hc hcl rfl hs rfl hC (fun r1 h1 hq => by
    obtain ⟨x, rfl, hp⟩ := hq
    exact kk x h1 hp)
  rwa [Nat.zero_add, Nat.zero_add] at k9
theorem s_U0rm {own : String} {idx mc1 ms1 mc2 ms2 : Nat} {q' : QM} {b ci N : Nat} {fs : List Value} {T : u_T} {Cn : String} {x0 : MethodName} {P : Value → HP → Prop} (cw : CWU own idx Cn x0 q' 0) (hown : q.1.cls = own) (hd : decode q.2.1 pc = .ok (.invokevirtual idx, 3)) (hc : h[b]? = some (.inr (ci, fs))) (hcl : vwCl[ci]? = some (Cn, T, N)) (hs : (st.map fun v => v.category).sum ≤ 8) (hC : Con d q' mc1 ms1 (.ref b :: []) h (PR P)) (hm : mc1 + mc = mc2) (hm2 : ms1 + ms = ms2) (kk : ∀ (x : Value) (h1 : HP), P x h1 → Sem (d + 1) q mc ms (pc + 3) L (x :: st) h1 Qp) : Sem (d + 1) q mc2 ms2 pc L (.ref b :: st) h Qp := by
  subst hm hm2
  exact s_callU (mc := mc) (ms := ms) (L := L) (Qp := Qp) cw hown hd hc hcl rfl hs rfl hC (fun r1 h1 hq => by
    obtain ⟨x, rfl, hp⟩ := hq
    exact kk x h1 hp)
theorem s_P0r {own : String} {idx : Nat} {q' : QM} {b ci N : Nat} {fs : List Value} {T : u_T} {Cn : String} {P : Value → HP → Prop} (cw : CWP own idx q' 0) (hown : q.1.cls = own) (hd : decode q.2.1 pc = .ok (.invokespecial idx, 3)) (hc : h[b]? = some (.inr (ci, fs))) (hcl : vwCl[ci]? = some (Cn, T, N)) (hs : (st.map fun v => v.category).sum ≤ 8) (hC : Con d q' 0 0 (.ref b :: []) h (PR P)) (kk : ∀ (x : Value) (h1 : HP), P x h1 → Sem (d + 1) q mc ms (pc + 3) L (x :: st) h1 Qp) : Sem (d + 1) q mc ms pc L (.ref b :: st) h Qp := by
  have k9 := s_callP (mc := mc) (ms := ms) (L := L) (Qp := Qp) cw hown hd hc hcl rfl hs rfl hC (fun r1 h1 hq => by
    obtain ⟨x, rfl, hp⟩ := hq
    exact kk x h1 hp)
  rwa [Nat.zero_add, Nat.zero_add] at k9
theorem s_P0rm {own : String} {idx mc1 ms1 mc2 ms2 : Nat} {q' : QM} {b ci N : Nat} {fs : List Value} {T : u_T} {Cn : String} {P : Value → HP → Prop} (cw : CWP own idx q' 0) (hown : q.1.cls = own) (hd : decode q.2.1 pc = .ok (.invokespecial idx, 3)) (hc : h[b]? = some (.inr (ci, fs))) (hcl : vwCl[ci]? = some (Cn, T, N)) (hs : (st.map fun v => v.category).sum ≤ 8) (hC : Con d q' mc1 ms1 (.ref b :: []) h (PR P)) (hm : mc1 + mc = mc2) (hm2 : ms1 + ms = ms2) (kk : ∀ (x : Value) (h1 : HP), P x h1 → Sem (d + 1) q mc ms (pc + 3) L (x :: st) h1 Qp) : Sem (d + 1) q mc2 ms2 pc L (.ref b :: st) h Qp := by
  subst hm hm2
  exact s_callP (mc := mc) (ms := ms) (L := L) (Qp := Qp) cw hown hd hc hcl rfl hs rfl hC (fun r1 h1 hq => by
    obtain ⟨x, rfl, hp⟩ := hq
    exact kk x h1 hp)
theorem s_S0r {own : String} {idx : Nat} {q' : QM} {P : Value → HP → Prop} (cw : CWS own idx q' 0) (hown : q.1.cls = own) (hd : decode q.2.1 pc = .ok (.invokestatic idx, 3)) (hs : (st.map fun v => v.category).sum ≤ 8) (hC : Con d q' 0 0 [] h (PR P)) (kk : ∀ (x : Value) (h1 : HP), P x h1 → Sem (d + 1) q mc ms (pc + 3) L (x :: st) h1 Qp) : Sem (d + 1) q mc ms pc L (st) h Qp := by
  have k9 := s_callS (mc := mc) (ms := ms) (L := L) (Qp := Qp) cw hown hd rfl hs rfl hC (fun r1 h1 hq => by
    obtain ⟨x, rfl, hp⟩ := hq
    exact kk x h1 hp)
  rwa [Nat.zero_add, Nat.zero_add] at k9
theorem s_S0rm {own : String} {idx mc1 ms1 mc2 ms2 : Nat} {q' : QM} {P : Value → HP → Prop} (cw : CWS own idx q' 0) (hown : q.1.cls = own) (hd : decode q.2.1 pc = .ok (.invokestatic idx, 3)) (hs : (st.map fun v => v.category).sum ≤ 8) (hC : Con d q' mc1 ms1 [] h (PR P)) (hm : mc1 + mc = mc2) (hm2 : ms1 + ms = ms2) (kk : ∀ (x : Value) (h1 : HP), P x h1 → Sem (d + 1) q mc ms (pc + 3) L (x :: st) h1 Qp) : Sem (d + 1) q mc2 ms2 pc L (st) h Qp := by
  subst hm hm2
  exact s_callS (mc := mc) (ms := ms) (L := L) (Qp := Qp) cw hown hd rfl hs rfl hC (fun r1 h1 hq => by
    obtain ⟨x, rfl, hp⟩ := hq
    exact kk x h1 hp)
theorem s_V0v {own : String} {idx : Nat} {q' : QM} {b ci N : Nat} {fs : List Value} {T : u_T} {P : HP → Prop} (cw : CWV own idx q' 0) (hown : q.1.cls = own) (hd : decode q.2.1 pc = .ok (.invokevirtual idx, 3)) (hc : h[b]? = some (.inr (ci, fs))) (hcl : vwCl[ci]? = some (q'.1.cls, T, N)) (hs : (st.map fun v => v.category).sum ≤ 8) (hC : Con d q' 0 0 (.ref b :: []) h (PV P)) (kk : ∀ h1 : HP, P h1 → Sem (d + 1) q mc ms (pc + 3) L st h1 Qp) : Sem (d + 1) q mc ms pc L (.ref b :: st) h Qp := by
  have k9 := s_callV (mc := mc) (ms := ms) (L := L) (Qp := Qp) cw hown hd hc hcl rfl hs rfl hC (fun r1 h1 hq => by
    obtain ⟨rfl, hp⟩ := hq
    exact kk h1 hp)
  rwa [Nat.zero_add, Nat.zero_add] at k9
theorem s_V0vm {own : String} {idx mc1 ms1 mc2 ms2 : Nat} {q' : QM} {b ci N : Nat} {fs : List Value} {T : u_T} {P : HP → Prop} (cw : CWV own idx q' 0) (hown : q.1.cls = own) (hd : decode q.2.1 pc = .ok (.invokevirtual idx, 3)) (hc : h[b]? = some (.inr (ci, fs))) (hcl : vwCl[ci]? = some (q'.1.cls, T, N)) (hs : (st.map fun v => v.category).sum ≤ 8) (hC : Con d q' mc1 ms1 (.ref b :: []) h (PV P)) (hm : mc1 + mc = mc2) (hm2 : ms1 + ms = ms2) (kk : ∀ h1 : HP, P h1 → Sem (d + 1) q mc ms (pc + 3) L st h1 Qp) : Sem (d + 1) q mc2 ms2 pc L (.ref b :: st) h Qp := by
  subst hm hm2
  exact s_callV (mc := mc) (ms := ms) (L := L) (Qp := Qp) cw hown hd hc hcl rfl hs rfl hC (fun r1 h1 hq => by
    obtain ⟨rfl, hp⟩ := hq
    exact kk h1 hp)
theorem s_U0v {own : String} {idx : Nat} {q' : QM} {b ci N : Nat} {fs : List Value} {T : u_T} {Cn : String} {x0 : MethodName} {P : HP → Prop} (cw : CWU own idx Cn x0 q' 0) (hown : q.1.cls = own) (hd : decode q.2.1 pc = .ok (.invokevirtual idx, 3)) (hc : h[b]? = some (.inr (ci, fs))) (hcl : vwCl[ci]? = some (Cn, T, N)) (hs : (st.map fun v => v.category).sum ≤ 8) (hC : Con d q' 0 0 (.ref b :: []) h (PV P)) (kk : ∀ h1 : HP, P h1 → Sem (d + 1) q mc ms (pc + 3) L st h1 Qp) : Sem (d + 1) q mc ms pc L (.ref b :: st) h Qp := by
  have k9 := s_callU (mc := mc) (ms := ms) (L := L) (Qp := Qp) cw hown hd hc hcl rfl hs rfl hC (fun r1 h1 hq => by
    obtain ⟨rfl, hp⟩ := hq
    exact kk h1 hp)
  rwa [Nat.zero_add, Nat.zero_add] at k9
theorem s_U0vm {own : String} {idx mc1 ms1 mc2 ms2 : Nat} {q' : QM} {b ci N : Nat} {fs : List Value} {T : u_T} {Cn : String} {x0 : MethodName} {P : HP → Prop} (cw : CWU own idx Cn x0 q' 0) (hown : q.1.cls = own) (hd : decode q.2.1 pc = .ok (.invokevirtual idx, 3)) (hc : h[b]? = some (.inr (ci, fs))) (hcl : vwCl[ci]? = some (Cn, T, N)) (hs : (st.map fun v => v.category).sum ≤ 8) (hC : Con d q' mc1 ms1 (.ref b :: []) h (PV P)) (hm : mc1 + mc = mc2) (hm2 : ms1 + ms = ms2) (kk : ∀ h1 : HP, P h1 → Sem (d + 1) q mc ms (pc + 3) L st h1 Qp) : Sem (d + 1) q mc2 ms2 pc L (.ref b :: st) h Qp := by
  subst hm hm2
  exact s_callU (mc := mc) (ms := ms) (L := L) (Qp := Qp) cw hown hd hc hcl rfl hs rfl hC (fun r1 h1 hq => by
    obtain ⟨rfl, hp⟩ := hq
    exact kk h1 hp)
theorem s_P0v {own : String} {idx : Nat} {q' : QM} {b ci N : Nat} {fs : List Value} {T : u_T} {Cn : String} {P : HP → Prop} (cw : CWP own idx q' 0) (hown : q.1.cls = own) (hd : decode q.2.1 pc = .ok (.invokespecial idx, 3)) (hc : h[b]? = some (.inr (ci, fs))) (hcl : vwCl[ci]? = some (Cn, T, N)) (hs : (st.map fun v => v.category).sum ≤ 8) (hC : Con d q' 0 0 (.ref b :: []) h (PV P)) (kk : ∀ h1 : HP, P h1 → Sem (d + 1) q mc ms (pc + 3) L st h1 Qp) : Sem (d + 1) q mc ms pc L (.ref b :: st) h Qp := by
  have k9 := s_callP (mc := mc) (ms := ms) (L := L) (Qp := Qp) cw hown hd hc hcl rfl hs rfl hC (fun r1 h1 hq => by
    obtain ⟨rfl, hp⟩ := hq
    exact kk h1 hp)
  rwa [Nat.zero_add, Nat.zero_add] at k9
theorem s_P0vm {own : String} {idx mc1 ms1 mc2 ms2 : Nat} {q' : QM} {b ci N : Nat} {fs : List Value} {T : u_T} {Cn : String} {P : HP → Prop} (cw : CWP own idx q' 0) (hown : q.1.cls = own) (hd : decode q.2.1 pc = .ok (.invokespecial idx, 3)) (hc : h[b]? = some (.inr (ci, fs))) (hcl : vwCl[ci]? = some (Cn, T, N)) (hs : (st.map fun v => v.category).sum ≤ 8) (hC : Con d q' mc1 ms1 (.ref b :: []) h (PV P)) (hm : mc1 + mc = mc2) (hm2 : ms1 + ms = ms2) (kk : ∀ h1 : HP, P h1 → Sem (d + 1) q mc ms (pc + 3) L st h1 Qp) : Sem (d + 1) q mc2 ms2 pc L (.ref b :: st) h Qp := by
  subst hm hm2
  exact s_callP (mc := mc) (ms := ms) (L := L) (Qp := Qp) cw hown hd hc hcl rfl hs rfl hC (fun r1 h1 hq => by
    obtain ⟨rfl, hp⟩ := hq
    exact kk h1 hp)
theorem s_S0v {own : String} {idx : Nat} {q' : QM} {P : HP → Prop} (cw : CWS own idx q' 0) (hown : q.1.cls = own) (hd : decode q.2.1 pc = .ok (.invokestatic idx, 3)) (hs : (st.map fun v => v.category).sum ≤ 8) (hC : Con d q' 0 0 [] h (PV P)) (kk : ∀ h1 : HP, P h1 → Sem (d + 1) q mc ms (pc + 3) L st h1 Qp) : Sem (d + 1) q mc ms pc L (st) h Qp := by
  have k9 := s_callS (mc := mc) (ms := ms) (L := L) (Qp := Qp) cw hown hd rfl hs rfl hC (fun r1 h1 hq => by
    obtain ⟨rfl, hp⟩ := hq
    exact kk h1 hp)
  rwa [Nat.zero_add, Nat.zero_add] at k9
theorem s_S0vm {own : String} {idx mc1 ms1 mc2 ms2 : Nat} {q' : QM} {P : HP → Prop} (cw : CWS own idx q' 0) (hown : q.1.cls = own) (hd : decode q.2.1 pc = .ok (.invokestatic idx, 3)) (hs : (st.map fun v => v.category).sum ≤ 8) (hC : Con d q' mc1 ms1 [] h (PV P)) (hm : mc1 + mc = mc2) (hm2 : ms1 + ms = ms2) (kk : ∀ h1 : HP, P h1 → Sem (d + 1) q mc ms (pc + 3) L st h1 Qp) : Sem (d + 1) q mc2 ms2 pc L (st) h Qp := by
  subst hm hm2
  exact s_callS (mc := mc) (ms := ms) (L := L) (Qp := Qp) cw hown hd rfl hs rfl hC (fun r1 h1 hq => by
    obtain ⟨rfl, hp⟩ := hq
    exact kk h1 hp)
theorem s_I0v {own : String} {idx : Nat} {q' : QM} {b : Nat} {P : HP → Prop} (cw : CWI own idx q' 0) (hown : q.1.cls = own) (hd : decode q.2.1 pc = .ok (.invokespecial idx, 3)) (hs : (st.map fun v => v.category).sum ≤ 8) (hC : Con d q' 0 0 (.ref b :: []) h (PV P)) (kk : ∀ h1 : HP, P h1 → Sem (d + 1) q mc ms (pc + 3) L st h1 Qp) : Sem (d + 1) q mc ms pc L (.ref b :: st) h Qp := by
  have k9 := s_callI (mc := mc) (ms := ms) (L := L) (Qp := Qp) cw hown hd rfl hs rfl hC (fun r1 h1 hq => by
    obtain ⟨rfl, hp⟩ := hq
    exact kk h1 hp)
  rwa [Nat.zero_add, Nat.zero_add] at k9
theorem s_I0vm {own : String} {idx mc1 ms1 mc2 ms2 : Nat} {q' : QM} {b : Nat} {P : HP → Prop} (cw : CWI own idx q' 0) (hown : q.1.cls = own) (hd : decode q.2.1 pc = .ok (.invokespecial idx, 3)) (hs : (st.map fun v => v.category).sum ≤ 8) (hC : Con d q' mc1 ms1 (.ref b :: []) h (PV P)) (hm : mc1 + mc = mc2) (hm2 : ms1 + ms = ms2) (kk : ∀ h1 : HP, P h1 → Sem (d + 1) q mc ms (pc + 3) L st h1 Qp) : Sem (d + 1) q mc2 ms2 pc L (.ref b :: st) h Qp := by
  subst hm hm2
  exact s_callI (mc := mc) (ms := ms) (L := L) (Qp := Qp) cw hown hd rfl hs rfl hC (fun r1 h1 hq => by
    obtain ⟨rfl, hp⟩ := hq
    exact kk h1 hp)
theorem s_V1i {own : String} {idx : Nat} {q' : QM} {b ci N : Nat} {fs : List Value} {T : u_T} {v1 : Value} {P : Int32 → HP → Prop} (cw : CWV own idx q' 1) (hown : q.1.cls = own) (hd : decode q.2.1 pc = .ok (.invokevirtual idx, 3)) (hc : h[b]? = some (.inr (ci, fs))) (hcl : vwCl[ci]? = some (q'.1.cls, T, N)) (hs : (st.map fun v => v.category).sum ≤ 8) (hC : Con d q' 0 0 (.ref b :: [v1]) h (PI P)) (kk : ∀ (x : Int32) (h1 : HP), P x h1 → Sem (d + 1) q mc ms (pc + 3) L (.int x :: st) h1 Qp) : Sem (d + 1) q mc ms pc L (v1 :: .ref b :: st) h Qp := by
  have k9 := s_callV (mc := mc) (ms := ms) (L := L) (Qp := Qp) cw hown hd hc hcl rfl hs rfl hC (fun r1 h1 hq => by
    obtain ⟨x, rfl, hp⟩ := hq
    exact kk x h1 hp)
  rwa [Nat.zero_add, Nat.zero_add] at k9
theorem s_V1im {own : String} {idx mc1 ms1 mc2 ms2 : Nat} {q' : QM} {b ci N : Nat} {fs : List Value} {T : u_T} {v1 : Value} {P : Int32 → HP → Prop} (cw : CWV own idx q' 1) (hown : q.1.cls = own) (hd : decode q.2.1 pc = .ok (.invokevirtual idx, 3)) (hc : h[b]? = some (.inr (ci, fs))) (hcl : vwCl[ci]? = some (q'.1.cls, T, N)) (hs : (st.map fun v => v.category).sum ≤ 8) (hC : Con d q' mc1 ms1 (.ref b :: [v1]) h (PI P)) (hm : mc1 + mc = mc2) (hm2 : ms1 + ms = ms2) (kk : ∀ (x : Int32) (h1 : HP), P x h1 → Sem (d + 1) q mc ms (pc + 3) L (.int x :: st) h1 Qp) : Sem (d + 1) q mc2 ms2 pc L (v1 :: .ref b :: st) h Qp := by
  subst hm hm2
  exact s_callV (mc := mc) (ms := ms) (L := L) (Qp := Qp) cw hown hd hc hcl rfl hs rfl hC (fun r1 h1 hq => by
    obtain ⟨x, rfl, hp⟩ := hq
    exact kk x h1 hp)
theorem s_U1i {own : String} {idx : Nat} {q' : QM} {b ci N : Nat} {fs : List Value} {T : u_T} {Cn : String} {x0 : MethodName} {v1 : Value} {P : Int32 → HP → Prop} (cw : CWU own idx Cn x0 q' 1) (hown : q.1.cls = own) (hd : decode q.2.1 pc = .ok (.invokevirtual idx, 3)) (hc : h[b]? = some (.inr (ci, fs))) (hcl : vwCl[ci]? = some (Cn, T, N)) (hs : (st.map fun v => v.category).sum ≤ 8) (hC : Con d q' 0 0 (.ref b :: [v1]) h (PI P)) (kk : ∀ (x : Int32) (h1 : HP), P x h1 → Sem (d + 1) q mc ms (pc + 3) L (.int x :: st) h1 Qp) : Sem (d + 1) q mc ms pc L (v1 :: .ref b :: st) h Qp := by
  have k9 := s_callU (mc := mc) (ms := ms) (L := L) (Qp := Qp) cw hown hd hc hcl rfl hs rfl hC (fun r1 h1 hq => by
    obtain ⟨x, rfl, hp⟩ := hq
    exact kk x h1 hp)
  rwa [Nat.zero_add, Nat.zero_add] at k9
theorem s_U1im {own : String} {idx mc1 ms1 mc2 ms2 : Nat} {q' : QM} {b ci N : Nat} {fs : List Value} {T : u_T} {Cn : String} {x0 : MethodName} {v1 : Value} {P : Int32 → HP → Prop} (cw : CWU own idx Cn x0 q' 1) (hown : q.1.cls = own) (hd : decode q.2.1 pc = .ok (.invokevirtual idx, 3)) (hc : h[b]? = some (.inr (ci, fs))) (hcl : vwCl[ci]? = some (Cn, T, N)) (hs : (st.map fun v => v.category).sum ≤ 8) (hC : Con d q' mc1 ms1 (.ref b :: [v1]) h (PI P)) (hm : mc1 + mc = mc2) (hm2 : ms1 + ms = ms2) (kk : ∀ (x : Int32) (h1 : HP), P x h1 → Sem (d + 1) q mc ms (pc + 3) L (.int x :: st) h1 Qp) : Sem (d + 1) q mc2 ms2 pc L (v1 :: .ref b :: st) h Qp := by
  subst hm hm2
  exact s_callU (mc := mc) (ms := ms) (L := L) (Qp := Qp) cw hown hd hc hcl rfl hs rfl hC (fun r1 h1 hq => by
    obtain ⟨x, rfl, hp⟩ := hq
    exact kk x h1 hp)
theorem s_P1i {own : String} {idx : Nat} {q' : QM} {b ci N : Nat} {fs : List Value} {T : u_T} {Cn : String} {v1 : Value} {P : Int32 → HP → Prop} (cw : CWP own idx q' 1) (hown : q.1.cls = own) (hd : decode q.2.1 pc = .ok (.invokespecial idx, 3)) (hc : h[b]? = some (.inr (ci, fs))) (hcl : vwCl[ci]? = some (Cn, T, N)) (hs : (st.map fun v => v.category).sum ≤ 8) (hC : Con d q' 0 0 (.ref b :: [v1]) h (PI P)) (kk : ∀ (x : Int32) (h1 : HP), P x h1 → Sem (d + 1) q mc ms (pc + 3) L (.int x :: st) h1 Qp) : Sem (d + 1) q mc ms pc L (v1 :: .ref b :: st) h Qp := by
  have k9 := s_callP (mc := mc) (ms := ms) (L := L) (Qp := Qp) cw hown hd hc hcl rfl hs rfl hC (fun r1 h1 hq => by
    obtain ⟨x, rfl, hp⟩ := hq
    exact kk x h1 hp)
  rwa [Nat.zero_add, Nat.zero_add] at k9
theorem s_P1im {own : String} {idx mc1 ms1 mc2 ms2 : Nat} {q' : QM} {b ci N : Nat} {fs : List Value} {T : u_T} {Cn : String} {v1 : Value} {P : Int32 → HP → Prop} (cw : CWP own idx q' 1) (hown : q.1.cls = own) (hd : decode q.2.1 pc = .ok (.invokespecial idx, 3)) (hc : h[b]? = some (.inr (ci, fs))) (hcl : vwCl[ci]? = some (Cn, T, N)) (hs : (st.map fun v => v.category).sum ≤ 8) (hC : Con d q' mc1 ms1 (.ref b :: [v1]) h (PI P)) (hm : mc1 + mc = mc2) (hm2 : ms1 + ms = ms2) (kk : ∀ (x : Int32) (h1 : HP), P x h1 → Sem (d + 1) q mc ms (pc + 3) L (.int x :: st) h1 Qp) : Sem (d + 1) q mc2 ms2 pc L (v1 :: .ref b :: st) h Qp := by
  subst hm hm2
  exact s_callP (mc := mc) (ms := ms) (L := L) (Qp := Qp) cw hown hd hc hcl rfl hs rfl hC (fun r1 h1 hq => by
    obtain ⟨x, rfl, hp⟩ := hq
    exact kk x h1 hp)
theorem s_S1i {own : String} {idx : Nat} {q' : QM} {v1 : Value} {P : Int32 → HP → Prop} (cw : CWS own idx q' 1) (hown : q.1.cls = own) (hd : decode q.2.1 pc = .ok (.invokestatic idx, 3)) (hs : (st.map fun v => v.category).sum ≤ 8) (hC : Con d q' 0 0 [v1] h (PI P)) (kk : ∀ (x : Int32) (h1 : HP), P x h1 → Sem (d + 1) q mc ms (pc + 3) L (.int x :: st) h1 Qp) : Sem (d + 1) q mc ms pc L (v1 :: st) h Qp := by
  have k9 := s_callS (mc := mc) (ms := ms) (L := L) (Qp := Qp) cw hown hd rfl hs rfl hC (fun r1 h1 hq => by
    obtain ⟨x, rfl, hp⟩ := hq
    exact kk x h1 hp)
  rwa [Nat.zero_add, Nat.zero_add] at k9
theorem s_S1im {own : String} {idx mc1 ms1 mc2 ms2 : Nat} {q' : QM} {v1 : Value} {P : Int32 → HP → Prop} (cw : CWS own idx q' 1) (hown : q.1.cls = own) (hd : decode q.2.1 pc = .ok (.invokestatic idx, 3)) (hs : (st.map fun v => v.category).sum ≤ 8) (hC : Con d q' mc1 ms1 [v1] h (PI P)) (hm : mc1 + mc = mc2) (hm2 : ms1 + ms = ms2) (kk : ∀ (x : Int32) (h1 : HP), P x h1 → Sem (d + 1) q mc ms (pc + 3) L (.int x :: st) h1 Qp) : Sem (d + 1) q mc2 ms2 pc L (v1 :: st) h Qp := by
  subst hm hm2
  exact s_callS (mc := mc) (ms := ms) (L := L) (Qp := Qp) cw hown hd rfl hs rfl hC (fun r1 h1 hq => by
    obtain ⟨x, rfl, hp⟩ := hq
    exact kk x h1 hp)
theorem s_V1l {own : String} {idx : Nat} {q' : QM} {b ci N : Nat} {fs : List Value} {T : u_T} {v1 : Value} {P : Int64 → HP → Prop} (cw : CWV own idx q' 1) (hown : q.1.cls = own) (hd : decode q.2.1 pc = .ok (.invokevirtual idx, 3)) (hc : h[b]? = some (.inr (ci, fs))) (hcl : vwCl[ci]? = some (q'.1.cls, T, N)) (hs : (st.map fun v => v.category).sum ≤ 8) (hC : Con d q' 0 0 (.ref b :: [v1]) h (PL P)) (kk : ∀ (x : Int64) (h1 : HP), P x h1 → Sem (d + 1) q mc ms (pc + 3) L (.long x :: st) h1 Qp) : Sem (d + 1) q mc ms pc L (v1 :: .ref b :: st) h Qp := by
  have k9 := s_callV (mc := mc) (ms := ms) (L := L) (Qp := Qp) cw hown hd hc hcl rfl hs rfl hC (fun r1 h1 hq => by
    obtain ⟨x, rfl, hp⟩ := hq
    exact kk x h1 hp)
  rwa [Nat.zero_add, Nat.zero_add] at k9
theorem s_V1lm {own : String} {idx mc1 ms1 mc2 ms2 : Nat} {q' : QM} {b ci N : Nat} {fs : List Value} {T : u_T} {v1 : Value} {P : Int64 → HP → Prop} (cw : CWV own idx q' 1) (hown : q.1.cls = own) (hd : decode q.2.1 pc = .ok (.invokevirtual idx, 3)) (hc : h[b]? = some (.inr (ci, fs))) (hcl : vwCl[ci]? = some (q'.1.cls, T, N)) (hs : (st.map fun v => v.category).sum ≤ 8) (hC : Con d q' mc1 ms1 (.ref b :: [v1]) h (PL P)) (hm : mc1 + mc = mc2) (hm2 : ms1 + ms = ms2) (kk : ∀ (x : Int64) (h1 : HP), P x h1 → Sem (d + 1) q mc ms (pc + 3) L (.long x :: st) h1 Qp) : Sem (d + 1) q mc2 ms2 pc L (v1 :: .ref b :: st) h Qp := by
  subst hm hm2
  exact s_callV (mc := mc) (ms := ms) (L := L) (Qp := Qp) cw hown hd hc hcl rfl hs rfl hC (fun r1 h1 hq => by
    obtain ⟨x, rfl, hp⟩ := hq
    exact kk x h1 hp)
theorem s_U1l {own : String} {idx : Nat} {q' : QM} {b ci N : Nat} {fs : List Value} {T : u_T} {Cn : String} {x0 : MethodName} {v1 : Value} {P : Int64 → HP → Prop} (cw : CWU own idx Cn x0 q' 1) (hown : q.1.cls = own) (hd : decode q.2.1 pc = .ok (.invokevirtual idx, 3)) (hc : h[b]? = some (.inr (ci, fs))) (hcl : vwCl[ci]? = some (Cn, T, N)) (hs : (st.map fun v => v.category).sum ≤ 8) (hC : Con d q' 0 0 (.ref b :: [v1]) h (PL P)) (kk : ∀ (x : Int64) (h1 : HP), P x h1 → Sem (d + 1) q mc ms (pc + 3) L (.long x :: st) h1 Qp) : Sem (d + 1) q mc ms pc L (v1 :: .ref b :: st) h Qp := by
  have k9 := s_callU (mc := mc) (ms := ms) (L := L) (Qp := Qp) cw hown hd hc hcl rfl hs rfl hC (fun r1 h1 hq => by
    obtain ⟨x, rfl, hp⟩ := hq
    exact kk x h1 hp)
  rwa [Nat.zero_add, Nat.zero_add] at k9
theorem s_U1lm {own : String} {idx mc1 ms1 mc2 ms2 : Nat} {q' : QM} {b ci N : Nat} {fs : List Value} {T : u_T} {Cn : String} {x0 : MethodName} {v1 : Value} {P : Int64 → HP → Prop} (cw : CWU own idx Cn x0 q' 1) (hown : q.1.cls = own) (hd : decode q.2.1 pc = .ok (.invokevirtual idx, 3)) (hc : h[b]? = some (.inr (ci, fs))) (hcl : vwCl[ci]? = some (Cn, T, N)) (hs : (st.map fun v => v.category).sum ≤ 8) (hC : Con d q' mc1 ms1 (.ref b :: [v1]) h (PL P)) (hm : mc1 + mc = mc2) (hm2 : ms1 + ms = ms2) (kk : ∀ (x : Int64) (h1 : HP), P x h1 → Sem (d + 1) q mc ms (pc + 3) L (.long x :: st) h1 Qp) : Sem (d + 1) q mc2 ms2 pc L (v1 :: .ref b :: st) h Qp := by
  subst hm hm2
  exact s_callU (mc := mc) (ms := ms) (L := L) (Qp := Qp) cw hown hd hc hcl rfl hs rfl hC (fun r1 h1 hq => by
    obtain ⟨x, rfl, hp⟩ := hq
    exact kk x h1 hp)
theorem s_P1l {own : String} {idx : Nat} {q' : QM} {b ci N : Nat} {fs : List Value} {T : u_T} {Cn : String} {v1 : Value} {P : Int64 → HP → Prop} (cw : CWP own idx q' 1) (hown : q.1.cls = own) (hd : decode q.2.1 pc = .ok (.invokespecial idx, 3)) (hc : h[b]? = some (.inr (ci, fs))) (hcl : vwCl[ci]? = some (Cn, T, N)) (hs : (st.map fun v => v.category).sum ≤ 8) (hC : Con d q' 0 0 (.ref b :: [v1]) h (PL P)) (kk : ∀ (x : Int64) (h1 : HP), P x h1 → Sem (d + 1) q mc ms (pc + 3) L (.long x :: st) h1 Qp) : Sem (d + 1) q mc ms pc L (v1 :: .ref b :: st) h Qp := by
  have k9 := s_callP (mc := mc) (ms := ms) (L := L) (Qp := Qp) cw hown hd hc hcl rfl hs rfl hC (fun r1 h1 hq => by
    obtain ⟨x, rfl, hp⟩ := hq
    exact kk x h1 hp)
  rwa [Nat.zero_add, Nat.zero_add] at k9
theorem s_P1lm {own : String} {idx mc1 ms1 mc2 ms2 : Nat} {q' : QM} {b ci N : Nat} {fs : List Value} {T : u_T} {Cn : String} {v1 : Value} {P : Int64 → HP → Prop} (cw : CWP own idx q' 1) (hown : q.1.cls = own) (hd : decode q.2.1 pc = .ok (.invokespecial idx, 3)) (hc : h[b]? = some (.inr (ci, fs))) (hcl : vwCl[ci]? = some (Cn, T, N)) (hs : (st.map fun v => v.category).sum ≤ 8) (hC : Con d q' mc1 ms1 (.ref b :: [v1]) h (PL P)) (hm : mc1 + mc = mc2) (hm2 : ms1 + ms = ms2) (kk : ∀ (x : Int64) (h1 : HP), P x h1 → Sem (d + 1) q mc ms (pc + 3) L (.long x :: st) h1 Qp) : Sem (d + 1) q mc2 ms2 pc L (v1 :: .ref b :: st) h Qp := by
  subst hm hm2
  exact s_callP (mc := mc) (ms := ms) (L := L) (Qp := Qp) cw hown hd hc hcl rfl hs rfl hC (fun r1 h1 hq => by
    obtain ⟨x, rfl, hp⟩ := hq
    exact kk x h1 hp)
theorem s_S1l {own : String} {idx : Nat} {q' : QM} {v1 : Value} {P : Int64 → HP → Prop} (cw : CWS own idx q' 1) (hown : q.1.cls = own) (hd : decode q.2.1 pc = .ok (.invokestatic idx, 3)) (hs : (st.map fun v => v.category).sum ≤ 8) (hC : Con d q' 0 0 [v1] h (PL P)) (kk : ∀ (x : Int64) (h1 : HP), P x h1 → Sem (d + 1) q mc ms (pc + 3) L (.long x :: st) h1 Qp) : Sem (d + 1) q mc ms pc L (v1 :: st) h Qp := by
  have k9 := s_callS (mc := mc) (ms := ms) (L := L) (Qp := Qp) cw hown hd rfl hs rfl hC (fun r1 h1 hq => by
    obtain ⟨x, rfl, hp⟩ := hq
    exact kk x h1 hp)
  rwa [Nat.zero_add, Nat.zero_add] at k9
theorem s_S1lm {own : String} {idx mc1 ms1 mc2 ms2 : Nat} {q' : QM} {v1 : Value} {P : Int64 → HP → Prop} (cw : CWS own idx q' 1) (hown : q.1.cls = own) (hd : decode q.2.1 pc = .ok (.invokestatic idx, 3)) (hs : (st.map fun v => v.category).sum ≤ 8) (hC : Con d q' mc1 ms1 [v1] h (PL P)) (hm : mc1 + mc = mc2) (hm2 : ms1 + ms = ms2) (kk : ∀ (x : Int64) (h1 : HP), P x h1 → Sem (d + 1) q mc ms (pc + 3) L (.long x :: st) h1 Qp) : Sem (d + 1) q mc2 ms2 pc L (v1 :: st) h Qp := by
  subst hm hm2
  exact s_callS (mc := mc) (ms := ms) (L := L) (Qp := Qp) cw hown hd rfl hs rfl hC (fun r1 h1 hq => by
    obtain ⟨x, rfl, hp⟩ := hq
    exact kk x h1 hp)
theorem s_V1r {own : String} {idx : Nat} {q' : QM} {b ci N : Nat} {fs : List Value} {T : u_T} {v1 : Value} {P : Value → HP → Prop} (cw : CWV own idx q' 1) (hown : q.1.cls = own) (hd : decode q.2.1 pc = .ok (.invokevirtual idx, 3)) (hc : h[b]? = some (.inr (ci, fs))) (hcl : vwCl[ci]? = some (q'.1.cls, T, N)) (hs : (st.map fun v => v.category).sum ≤ 8) (hC : Con d q' 0 0 (.ref b :: [v1]) h (PR P)) (kk : ∀ (x : Value) (h1 : HP), P x h1 → Sem (d + 1) q mc ms (pc + 3) L (x :: st) h1 Qp) : Sem (d + 1) q mc ms pc L (v1 :: .ref b :: st) h Qp := by
  have k9 := s_callV (mc := mc) (ms := ms) (L := L) (Qp := Qp) cw hown hd hc hcl rfl hs rfl hC (fun r1 h1 hq => by
    obtain ⟨x, rfl, hp⟩ := hq
    exact kk x h1 hp)
  rwa [Nat.zero_add, Nat.zero_add] at k9
theorem s_V1rm {own : String} {idx mc1 ms1 mc2 ms2 : Nat} {q' : QM} {b ci N : Nat} {fs : List Value} {T : u_T} {v1 : Value} {P : Value → HP → Prop} (cw : CWV own idx q' 1) (hown : q.1.cls = own) (hd : decode q.2.1 pc = .ok (.invokevirtual idx, 3)) (hc : h[b]? = some (.inr (ci, fs))) (hcl : vwCl[ci]? = some (q'.1.cls, T, N)) (hs : (st.map fun v => v.category).sum ≤ 8) (hC : Con d q' mc1 ms1 (.ref b :: [v1]) h (PR P)) (hm : mc1 + mc = mc2) (hm2 : ms1 + ms = ms2) (kk : ∀ (x : Value) (h1 : HP), P x h1 → Sem (d + 1) q mc ms (pc + 3) L (x :: st) h1 Qp) : Sem (d + 1) q mc2 ms2 pc L (v1 :: .ref b :: st) h Qp := by
  subst hm hm2
  exact s_callV (mc := mc) (ms := ms) (L := L) (Qp := Qp) cw hown hd hc hcl rfl hs rfl hC (fun r1 h1 hq => by
    obtain ⟨x, rfl, hp⟩ := hq
    exact kk x h1 hp)
theorem s_U1r {own : String} {idx : Nat} {q' : QM} {b ci N : Nat} {fs : List Value} {T : u_T} {Cn : String} {x0 : MethodName} {v1 : Value} {P : Value → HP → Prop} (cw : CWU own idx Cn x0 q' 1) (hown : q.1.cls = own) (hd : decode q.2.1 pc = .ok (.invokevirtual idx, 3)) (hc : h[b]? = some (.inr (ci, fs))) (hcl : vwCl[ci]? = some (Cn, T, N)) (hs : (st.map fun v => v.category).sum ≤ 8) (hC : Con d q' 0 0 (.ref b :: [v1]) h (PR P)) (kk : ∀ (x : Value) (h1 : HP), P x h1 → Sem (d + 1) q mc ms (pc + 3) L (x :: st) h1 Qp) : Sem (d + 1) q mc ms pc L (v1 :: .ref b :: st) h Qp := by
  have k9 := s_callU (mc := mc) (ms := ms) (L := L) (Qp := Qp) cw hown hd hc hcl rfl hs rfl hC (fun r1 h1 hq => by
    obtain ⟨x, rfl, hp⟩ := hq
    exact kk x h1 hp)
  rwa [Nat.zero_add, Nat.zero_add] at k9
theorem s_U1rm {own : String} {idx mc1 ms1 mc2 ms2 : Nat} {q' : QM} {b ci N : Nat} {fs : List Value} {T : u_T} {Cn : String} {x0 : MethodName} {v1 : Value} {P : Value → HP → Prop} (cw : CWU own idx Cn x0 q' 1) (hown : q.1.cls = own) (hd : decode q.2.1 pc = .ok (.invokevirtual idx, 3)) (hc : h[b]? = some (.inr (ci, fs))) (hcl : vwCl[ci]? = some (Cn, T, N)) (hs : (st.map fun v => v.category).sum ≤ 8) (hC : Con d q' mc1 ms1 (.ref b :: [v1]) h (PR P)) (hm : mc1 + mc = mc2) (hm2 : ms1 + ms = ms2) (kk : ∀ (x : Value) (h1 : HP), P x h1 → Sem (d + 1) q mc ms (pc + 3) L (x :: st) h1 Qp) : Sem (d + 1) q mc2 ms2 pc L (v1 :: .ref b :: st) h Qp := by
  subst hm hm2
  exact s_callU (mc := mc) (ms := ms) (L := L) (Qp := Qp) cw hown hd hc hcl rfl hs rfl hC (fun r1 h1 hq => by
    obtain ⟨x, rfl, hp⟩ := hq
    exact kk x h1 hp)
theorem s_P1r {own : String} {idx : Nat} {q' : QM} {b ci N : Nat} {fs : List Value} {T : u_T} {Cn : String} {v1 : Value} {P : Value → HP → Prop} (cw : CWP own idx q' 1) (hown : q.1.cls = own) (hd : decode q.2.1 pc = .ok (.invokespecial idx, 3)) (hc : h[b]? = some (.inr (ci, fs))) (hcl : vwCl[ci]? = some (Cn, T, N)) (hs : (st.map fun v => v.category).sum ≤ 8) (hC : Con d q' 0 0 (.ref b :: [v1]) h (PR P)) (kk : ∀ (x : Value) (h1 : HP), P x h1 → Sem (d + 1) q mc ms (pc + 3) L (x :: st) h1 Qp) : Sem (d + 1) q mc ms pc L (v1 :: .ref b :: st) h Qp := by
  have k9 := s_callP (mc := mc) (ms := ms) (L := L) (Qp := Qp) cw hown hd hc hcl rfl hs rfl hC (fun r1 h1 hq => by
    obtain ⟨x, rfl, hp⟩ := hq
    exact kk x h1 hp)
  rwa [Nat.zero_add, Nat.zero_add] at k9
theorem s_P1rm {own : String} {idx mc1 ms1 mc2 ms2 : Nat} {q' : QM} {b ci N : Nat} {fs : List Value} {T : u_T} {Cn : String} {v1 : Value} {P : Value → HP → Prop} (cw : CWP own idx q' 1) (hown : q.1.cls = own) (hd : decode q.2.1 pc = .ok (.invokespecial idx, 3)) (hc : h[b]? = some (.inr (ci, fs))) (hcl : vwCl[ci]? = some (Cn, T, N)) (hs : (st.map fun v => v.category).sum ≤ 8) (hC : Con d q' mc1 ms1 (.ref b :: [v1]) h (PR P)) (hm : mc1 + mc = mc2) (hm2 : ms1 + ms = ms2) (kk : ∀ (x : Value) (h1 : HP), P x h1 → Sem (d + 1) q mc ms (pc + 3) L (x :: st) h1 Qp) : Sem (d + 1) q mc2 ms2 pc L (v1 :: .ref b :: st) h Qp := by
  subst hm hm2
  exact s_callP (mc := mc) (ms := ms) (L := L) (Qp := Qp) cw hown hd hc hcl rfl hs rfl hC (fun r1 h1 hq => by
    obtain ⟨x, rfl, hp⟩ := hq
    exact kk x h1 hp)
theorem s_S1r {own : String} {idx : Nat} {q' : QM} {v1 : Value} {P : Value → HP → Prop} (cw : CWS own idx q' 1) (hown : q.1.cls = own) (hd : decode q.2.1 pc = .ok (.invokestatic idx, 3)) (hs : (st.map fun v => v.category).sum ≤ 8) (hC : Con d q' 0 0 [v1] h (PR P)) (kk : ∀ (x : Value) (h1 : HP), P x h1 → Sem (d + 1) q mc ms (pc + 3) L (x :: st) h1 Qp) : Sem (d + 1) q mc ms pc L (v1 :: st) h Qp := by
  have k9 := s_callS (mc := mc) (ms := ms) (L := L) (Qp := Qp) cw hown hd rfl hs rfl hC (fun r1 h1 hq => by
    obtain ⟨x, rfl, hp⟩ := hq
    exact kk x h1 hp)
  rwa [Nat.zero_add, Nat.zero_add] at k9
theorem s_S1rm {own : String} {idx mc1 ms1 mc2 ms2 : Nat} {q' : QM} {v1 : Value} {P : Value → HP → Prop} (cw : CWS own idx q' 1) (hown : q.1.cls = own) (hd : decode q.2.1 pc = .ok (.invokestatic idx, 3)) (hs : (st.map fun v => v.category).sum ≤ 8) (hC : Con d q' mc1 ms1 [v1] h (PR P)) (hm : mc1 + mc = mc2) (hm2 : ms1 + ms = ms2) (kk : ∀ (x : Value) (h1 : HP), P x h1 → Sem (d + 1) q mc ms (pc + 3) L (x :: st) h1 Qp) : Sem (d + 1) q mc2 ms2 pc L (v1 :: st) h Qp := by
  subst hm hm2
  exact s_callS (mc := mc) (ms := ms) (L := L) (Qp := Qp) cw hown hd rfl hs rfl hC (fun r1 h1 hq => by
    obtain ⟨x, rfl, hp⟩ := hq
    exact kk x h1 hp)
theorem s_V1v {own : String} {idx : Nat} {q' : QM} {b ci N : Nat} {fs : List Value} {T : u_T} {v1 : Value} {P : HP → Prop} (cw : CWV own idx q' 1) (hown : q.1.cls = own) (hd : decode q.2.1 pc = .ok (.invokevirtual idx, 3)) (hc : h[b]? = some (.inr (ci, fs))) (hcl : vwCl[ci]? = some (q'.1.cls, T, N)) (hs : (st.map fun v => v.category).sum ≤ 8) (hC : Con d q' 0 0 (.ref b :: [v1]) h (PV P)) (kk : ∀ h1 : HP, P h1 → Sem (d + 1) q mc ms (pc + 3) L st h1 Qp) : Sem (d + 1) q mc ms pc L (v1 :: .ref b :: st) h Qp := by
  have k9 := s_callV (mc := mc) (ms := ms) (L := L) (Qp := Qp) cw hown hd hc hcl rfl hs rfl hC (fun r1 h1 hq => by
    obtain ⟨rfl, hp⟩ := hq
    exact kk h1 hp)
  rwa [Nat.zero_add, Nat.zero_add] at k9
theorem s_V1vm {own : String} {idx mc1 ms1 mc2 ms2 : Nat} {q' : QM} {b ci N : Nat} {fs : List Value} {T : u_T} {v1 : Value} {P : HP → Prop} (cw : CWV own idx q' 1) (hown : q.1.cls = own) (hd : decode q.2.1 pc = .ok (.invokevirtual idx, 3)) (hc : h[b]? = some (.inr (ci, fs))) (hcl : vwCl[ci]? = some (q'.1.cls, T, N)) (hs : (st.map fun v => v.category).sum ≤ 8) (hC : Con d q' mc1 ms1 (.ref b :: [v1]) h (PV P)) (hm : mc1 + mc = mc2) (hm2 : ms1 + ms = ms2) (kk : ∀ h1 : HP, P h1 → Sem (d + 1) q mc ms (pc + 3) L st h1 Qp) : Sem (d + 1) q mc2 ms2 pc L (v1 :: .ref b :: st) h Qp := by
  subst hm hm2
  exact s_callV (mc := mc) (ms := ms) (L := L) (Qp := Qp) cw hown hd hc hcl rfl hs rfl hC (fun r1 h1 hq => by
    obtain ⟨rfl, hp⟩ := hq
    exact kk h1 hp)
theorem s_U1v {own : String} {idx : Nat} {q' : QM} {b ci N : Nat} {fs : List Value} {T : u_T} {Cn : String} {x0 : MethodName} {v1 : Value} {P : HP → Prop} (cw : CWU own idx Cn x0 q' 1) (hown : q.1.cls = own) (hd : decode q.2.1 pc = .ok (.invokevirtual idx, 3)) (hc : h[b]? = some (.inr (ci, fs))) (hcl : vwCl[ci]? = some (Cn, T, N)) (hs : (st.map fun v => v.category).sum ≤ 8) (hC : Con d q' 0 0 (.ref b :: [v1]) h (PV P)) (kk : ∀ h1 : HP, P h1 → Sem (d + 1) q mc ms (pc + 3) L st h1 Qp) : Sem (d + 1) q mc ms pc L (v1 :: .ref b :: st) h Qp := by
  have k9 := s_callU (mc := mc) (ms := ms) (L := L) (Qp := Qp) cw hown hd hc hcl rfl hs rfl hC (fun r1 h1 hq => by
    obtain ⟨rfl, hp⟩ := hq
    exact kk h1 hp)
  rwa [Nat.zero_add, Nat.zero_add] at k9
theorem s_U1vm {own : String} {idx mc1 ms1 mc2 ms2 : Nat} {q' : QM} {b ci N : Nat} {fs : List Value} {T : u_T} {Cn : String} {x0 : MethodName} {v1 : Value} {P : HP → Prop} (cw : CWU own idx Cn x0 q' 1) (hown : q.1.cls = own) (hd : decode q.2.1 pc = .ok (.invokevirtual idx, 3)) (hc : h[b]? = some (.inr (ci, fs))) (hcl : vwCl[ci]? = some (Cn, T, N)) (hs : (st.map fun v => v.category).sum ≤ 8) (hC : Con d q' mc1 ms1 (.ref b :: [v1]) h (PV P)) (hm : mc1 + mc = mc2) (hm2 : ms1 + ms = ms2) (kk : ∀ h1 : HP, P h1 → Sem (d + 1) q mc ms (pc + 3) L st h1 Qp) : Sem (d + 1) q mc2 ms2 pc L (v1 :: .ref b :: st) h Qp := by
  subst hm hm2
  exact s_callU (mc := mc) (ms := ms) (L := L) (Qp := Qp) cw hown hd hc hcl rfl hs rfl hC (fun r1 h1 hq => by
    obtain ⟨rfl, hp⟩ := hq
    exact kk h1 hp)
theorem s_P1v {own : String} {idx : Nat} {q' : QM} {b ci N : Nat} {fs : List Value} {T : u_T} {Cn : String} {v1 : Value} {P : HP → Prop} (cw : CWP own idx q' 1) (hown : q.1.cls = own) (hd : decode q.2.1 pc = .ok (.invokespecial idx, 3)) (hc : h[b]? = some (.inr (ci, fs))) (hcl : vwCl[ci]? = some (Cn, T, N)) (hs : (st.map fun v => v.category).sum ≤ 8) (hC : Con d q' 0 0 (.ref b :: [v1]) h (PV P)) (kk : ∀ h1 : HP, P h1 → Sem (d + 1) q mc ms (pc + 3) L st h1 Qp) : Sem (d + 1) q mc ms pc L (v1 :: .ref b :: st) h Qp := by
  have k9 := s_callP (mc := mc) (ms := ms) (L := L) (Qp := Qp) cw hown hd hc hcl rfl hs rfl hC (fun r1 h1 hq => by
    obtain ⟨rfl, hp⟩ := hq
    exact kk h1 hp)
  rwa [Nat.zero_add, Nat.zero_add] at k9
theorem s_P1vm {own : String} {idx mc1 ms1 mc2 ms2 : Nat} {q' : QM} {b ci N : Nat} {fs : List Value} {T : u_T} {Cn : String} {v1 : Value} {P : HP → Prop} (cw : CWP own idx q' 1) (hown : q.1.cls = own) (hd : decode q.2.1 pc = .ok (.invokespecial idx, 3)) (hc : h[b]? = some (.inr (ci, fs))) (hcl : vwCl[ci]? = some (Cn, T, N)) (hs : (st.map fun v => v.category).sum ≤ 8) (hC : Con d q' mc1 ms1 (.ref b :: [v1]) h (PV P)) (hm : mc1 + mc = mc2) (hm2 : ms1 + ms = ms2) (kk : ∀ h1 : HP, P h1 → Sem (d + 1) q mc ms (pc + 3) L st h1 Qp) : Sem (d + 1) q mc2 ms2 pc L (v1 :: .ref b :: st) h Qp := by
  subst hm hm2
  exact s_callP (mc := mc) (ms := ms) (L := L) (Qp := Qp) cw hown hd hc hcl rfl hs rfl hC (fun r1 h1 hq => by
    obtain ⟨rfl, hp⟩ := hq
    exact kk h1 hp)
theorem s_S1v {own : String} {idx : Nat} {q' : QM} {v1 : Value} {P : HP → Prop} (cw : CWS own idx q' 1) (hown : q.1.cls = own) (hd : decode q.2.1 pc = .ok (.invokestatic idx, 3)) (hs : (st.map fun v => v.category).sum ≤ 8) (hC : Con d q' 0 0 [v1] h (PV P)) (kk : ∀ h1 : HP, P h1 → Sem (d + 1) q mc ms (pc + 3) L st h1 Qp) : Sem (d + 1) q mc ms pc L (v1 :: st) h Qp := by
  have k9 := s_callS (mc := mc) (ms := ms) (L := L) (Qp := Qp) cw hown hd rfl hs rfl hC (fun r1 h1 hq => by
    obtain ⟨rfl, hp⟩ := hq
    exact kk h1 hp)
  rwa [Nat.zero_add, Nat.zero_add] at k9
theorem s_S1vm {own : String} {idx mc1 ms1 mc2 ms2 : Nat} {q' : QM} {v1 : Value} {P : HP → Prop} (cw : CWS own idx q' 1) (hown : q.1.cls = own) (hd : decode q.2.1 pc = .ok (.invokestatic idx, 3)) (hs : (st.map fun v => v.category).sum ≤ 8) (hC : Con d q' mc1 ms1 [v1] h (PV P)) (hm : mc1 + mc = mc2) (hm2 : ms1 + ms = ms2) (kk : ∀ h1 : HP, P h1 → Sem (d + 1) q mc ms (pc + 3) L st h1 Qp) : Sem (d + 1) q mc2 ms2 pc L (v1 :: st) h Qp := by
  subst hm hm2
  exact s_callS (mc := mc) (ms := ms) (L := L) (Qp := Qp) cw hown hd rfl hs rfl hC (fun r1 h1 hq => by
    obtain ⟨rfl, hp⟩ := hq
    exact kk h1 hp)
theorem s_I1v {own : String} {idx : Nat} {q' : QM} {b : Nat} {v1 : Value} {P : HP → Prop} (cw : CWI own idx q' 1) (hown : q.1.cls = own) (hd : decode q.2.1 pc = .ok (.invokespecial idx, 3)) (hs : (st.map fun v => v.category).sum ≤ 8) (hC : Con d q' 0 0 (.ref b :: [v1]) h (PV P)) (kk : ∀ h1 : HP, P h1 → Sem (d + 1) q mc ms (pc + 3) L st h1 Qp) : Sem (d + 1) q mc ms pc L (v1 :: .ref b :: st) h Qp := by
  have k9 := s_callI (mc := mc) (ms := ms) (L := L) (Qp := Qp) cw hown hd rfl hs rfl hC (fun r1 h1 hq => by
    obtain ⟨rfl, hp⟩ := hq
    exact kk h1 hp)
  rwa [Nat.zero_add, Nat.zero_add] at k9
theorem s_I1vm {own : String} {idx mc1 ms1 mc2 ms2 : Nat} {q' : QM} {b : Nat} {v1 : Value} {P : HP → Prop} (cw : CWI own idx q' 1) (hown : q.1.cls = own) (hd : decode q.2.1 pc = .ok (.invokespecial idx, 3)) (hs : (st.map fun v => v.category).sum ≤ 8) (hC : Con d q' mc1 ms1 (.ref b :: [v1]) h (PV P)) (hm : mc1 + mc = mc2) (hm2 : ms1 + ms = ms2) (kk : ∀ h1 : HP, P h1 → Sem (d + 1) q mc ms (pc + 3) L st h1 Qp) : Sem (d + 1) q mc2 ms2 pc L (v1 :: .ref b :: st) h Qp := by
  subst hm hm2
  exact s_callI (mc := mc) (ms := ms) (L := L) (Qp := Qp) cw hown hd rfl hs rfl hC (fun r1 h1 hq => by
    obtain ⟨rfl, hp⟩ := hq
    exact kk h1 hp)
theorem s_V2i {own : String} {idx : Nat} {q' : QM} {b ci N : Nat} {fs : List Value} {T : u_T} {v1 v2 : Value} {P : Int32 → HP → Prop} (cw : CWV own idx q' 2) (hown : q.1.cls = own) (hd : decode q.2.1 pc = .ok (.invokevirtual idx, 3)) (hc : h[b]? = some (.inr (ci, fs))) (hcl : vwCl[ci]? = some (q'.1.cls, T, N)) (hs : (st.map fun v => v.category).sum ≤ 8) (hC : Con d q' 0 0 (.ref b :: [v1, v2]) h (PI P)) (kk : ∀ (x : Int32) (h1 : HP), P x h1 → Sem (d + 1) q mc ms (pc + 3) L (.int x :: st) h1 Qp) : Sem (d + 1) q mc ms pc L (v2 :: v1 :: .ref b :: st) h Qp := by
  have k9 := s_callV (mc := mc) (ms := ms) (L := L) (Qp := Qp) cw hown hd hc hcl rfl hs rfl hC (fun r1 h1 hq => by
    obtain ⟨x, rfl, hp⟩ := hq
    exact kk x h1 hp)
  rwa [Nat.zero_add, Nat.zero_add] at k9
theorem s_V2im {own : String} {idx mc1 ms1 mc2 ms2 : Nat} {q' : QM} {b ci N : Nat} {fs : List Value} {T : u_T} {v1 v2 : Value} {P : Int32 → HP → Prop} (cw : CWV own idx q' 2) (hown : q.1.cls = own) (hd : decode q.2.1 pc = .ok (.invokevirtual idx, 3)) (hc : h[b]? = some (.inr (ci, fs))) (hcl : vwCl[ci]? = some (q'.1.cls, T, N)) (hs : (st.map fun v => v.category).sum ≤ 8) (hC : Con d q' mc1 ms1 (.ref b :: [v1, v2]) h (PI P)) (hm : mc1 + mc = mc2) (hm2 : ms1 + ms = ms2) (kk : ∀ (x : Int32) (h1 : HP), P x h1 → Sem (d + 1) q mc ms (pc + 3) L (.int x :: st) h1 Qp) : Sem (d + 1) q mc2 ms2 pc L (v2 :: v1 :: .ref b :: st) h Qp := by
  subst hm hm2
  exact s_callV (mc := mc) (ms := ms) (L := L) (Qp := Qp) cw hown hd hc hcl rfl hs rfl hC (fun r1 h1 hq => by
    obtain ⟨x, rfl, hp⟩ := hq
    exact kk x h1 hp)
theorem s_U2i {own : String} {idx : Nat} {q' : QM} {b ci N : Nat} {fs : List Value} {T : u_T} {Cn : String} {x0 : MethodName} {v1 v2 : Value} {P : Int32 → HP → Prop} (cw : CWU own idx Cn x0 q' 2) (hown : q.1.cls = own) (hd : decode q.2.1 pc = .ok (.invokevirtual idx, 3)) (hc : h[b]? = some (.inr (ci, fs))) (hcl : vwCl[ci]? = some (Cn, T, N)) (hs : (st.map fun v => v.category).sum ≤ 8) (hC : Con d q' 0 0 (.ref b :: [v1, v2]) h (PI P)) (kk : ∀ (x : Int32) (h1 : HP), P x h1 → Sem (d + 1) q mc ms (pc + 3) L (.int x :: st) h1 Qp) : Sem (d + 1) q mc ms pc L (v2 :: v1 :: .ref b :: st) h Qp := by
  have k9 := s_callU (mc := mc) (ms := ms) (L := L) (Qp := Qp) cw hown hd hc hcl rfl hs rfl hC (fun r1 h1 hq => by
    obtain ⟨x, rfl, hp⟩ := hq
    exact kk x h1 hp)
  rwa [Nat.zero_add, Nat.zero_add] at k9
theorem s_U2im {own : String} {idx mc1 ms1 mc2 ms2 : Nat} {q' : QM} {b ci N : Nat} {fs : List Value} {T : u_T} {Cn : String} {x0 : MethodName} {v1 v2 : Value} {P : Int32 → HP → Prop} (cw : CWU own idx Cn x0 q' 2) (hown : q.1.cls = own) (hd : decode q.2.1 pc = .ok (.invokevirtual idx, 3)) (hc : h[b]? = some (.inr (ci, fs))) (hcl : vwCl[ci]? = some (Cn, T, N)) (hs : (st.map fun v => v.category).sum ≤ 8) (hC : Con d q' mc1 ms1 (.ref b :: [v1, v2]) h (PI P)) (hm : mc1 + mc = mc2) (hm2 : ms1 + ms = ms2) (kk : ∀ (x : Int32) (h1 : HP), P x h1 → Sem (d + 1) q mc ms (pc + 3) L (.int x :: st) h1 Qp) : Sem (d + 1) q mc2 ms2 pc L (v2 :: v1 :: .ref b :: st) h Qp := by
  subst hm hm2
  exact s_callU (mc := mc) (ms := ms) (L := L) (Qp := Qp) cw hown hd hc hcl rfl hs rfl hC (fun r1 h1 hq => by
    obtain ⟨x, rfl, hp⟩ := hq
    exact kk x h1 hp)
theorem s_P2i {own : String} {idx : Nat} {q' : QM} {b ci N : Nat} {fs : List Value} {T : u_T} {Cn : String} {v1 v2 : Value} {P : Int32 → HP → Prop} (cw : CWP own idx q' 2) (hown : q.1.cls = own) (hd : decode q.2.1 pc = .ok (.invokespecial idx, 3)) (hc : h[b]? = some (.inr (ci, fs))) (hcl : vwCl[ci]? = some (Cn, T, N)) (hs : (st.map fun v => v.category).sum ≤ 8) (hC : Con d q' 0 0 (.ref b :: [v1, v2]) h (PI P)) (kk : ∀ (x : Int32) (h1 : HP), P x h1 → Sem (d + 1) q mc ms (pc + 3) L (.int x :: st) h1 Qp) : Sem (d + 1) q mc ms pc L (v2 :: v1 :: .ref b :: st) h Qp := by
  have k9 := s_callP (mc := mc) (ms := ms) (L := L) (Qp := Qp) cw hown hd hc hcl rfl hs rfl hC (fun r1 h1 hq => by
    obtain ⟨x, rfl, hp⟩ := hq
    exact kk x h1 hp)
  rwa [Nat.zero_add, Nat.zero_add] at k9
theorem s_P2im {own : String} {idx mc1 ms1 mc2 ms2 : Nat} {q' : QM} {b ci N : Nat} {fs : List Value} {T : u_T} {Cn : String} {v1 v2 : Value} {P : Int32 → HP → Prop} (cw : CWP own idx q' 2) (hown : q.1.cls = own) (hd : decode q.2.1 pc = .ok (.invokespecial idx, 3)) (hc : h[b]? = some (.inr (ci, fs))) (hcl : vwCl[ci]? = some (Cn, T, N)) (hs : (st.map fun v => v.category).sum ≤ 8) (hC : Con d q' mc1 ms1 (.ref b :: [v1, v2]) h (PI P)) (hm : mc1 + mc = mc2) (hm2 : ms1 + ms = ms2) (kk : ∀ (x : Int32) (h1 : HP), P x h1 → Sem (d + 1) q mc ms (pc + 3) L (.int x :: st) h1 Qp) : Sem (d + 1) q mc2 ms2 pc L (v2 :: v1 :: .ref b :: st) h Qp := by
  subst hm hm2
  exact s_callP (mc := mc) (ms := ms) (L := L) (Qp := Qp) cw hown hd hc hcl rfl hs rfl hC (fun r1 h1 hq => by
    obtain ⟨x, rfl, hp⟩ := hq
    exact kk x h1 hp)
theorem s_S2i {own : String} {idx : Nat} {q' : QM} {v1 v2 : Value} {P : Int32 → HP → Prop} (cw : CWS own idx q' 2) (hown : q.1.cls = own) (hd : decode q.2.1 pc = .ok (.invokestatic idx, 3)) (hs : (st.map fun v => v.category).sum ≤ 8) (hC : Con d q' 0 0 [v1, v2] h (PI P)) (kk : ∀ (x : Int32) (h1 : HP), P x h1 → Sem (d + 1) q mc ms (pc + 3) L (.int x :: st) h1 Qp) : Sem (d + 1) q mc ms pc L (v2 :: v1 :: st) h Qp := by
  have k9 := s_callS (mc := mc) (ms := ms) (L := L) (Qp := Qp) cw hown hd rfl hs rfl hC (fun r1 h1 hq => by
    obtain ⟨x, rfl, hp⟩ := hq
    exact kk x h1 hp)
  rwa [Nat.zero_add, Nat.zero_add] at k9
theorem s_S2im {own : String} {idx mc1 ms1 mc2 ms2 : Nat} {q' : QM} {v1 v2 : Value} {P : Int32 → HP → Prop} (cw : CWS own idx q' 2) (hown : q.1.cls = own) (hd : decode q.2.1 pc = .ok (.invokestatic idx, 3)) (hs : (st.map fun v => v.category).sum ≤ 8) (hC : Con d q' mc1 ms1 [v1, v2] h (PI P)) (hm : mc1 + mc = mc2) (hm2 : ms1 + ms = ms2) (kk : ∀ (x : Int32) (h1 : HP), P x h1 → Sem (d + 1) q mc ms (pc + 3) L (.int x :: st) h1 Qp) : Sem (d + 1) q mc2 ms2 pc L (v2 :: v1 :: st) h Qp := by
  subst hm hm2
  exact s_callS (mc := mc) (ms := ms) (L := L) (Qp := Qp) cw hown hd rfl hs rfl hC (fun r1 h1 hq => by
    obtain ⟨x, rfl, hp⟩ := hq
    exact kk x h1 hp)
theorem s_V2l {own : String} {idx : Nat} {q' : QM} {b ci N : Nat} {fs : List Value} {T : u_T} {v1 v2 : Value} {P : Int64 → HP → Prop} (cw : CWV own idx q' 2) (hown : q.1.cls = own) (hd : decode q.2.1 pc = .ok (.invokevirtual idx, 3)) (hc : h[b]? = some (.inr (ci, fs))) (hcl : vwCl[ci]? = some (q'.1.cls, T, N)) (hs : (st.map fun v => v.category).sum ≤ 8) (hC : Con d q' 0 0 (.ref b :: [v1, v2]) h (PL P)) (kk : ∀ (x : Int64) (h1 : HP), P x h1 → Sem (d + 1) q mc ms (pc + 3) L (.long x :: st) h1 Qp) : Sem (d + 1) q mc ms pc L (v2 :: v1 :: .ref b :: st) h Qp := by
  have k9 := s_callV (mc := mc) (ms := ms) (L := L) (Qp := Qp) cw hown hd hc hcl rfl hs rfl hC (fun r1 h1 hq => by
    obtain ⟨x, rfl, hp⟩ := hq
    exact kk x h1 hp)
  rwa [Nat.zero_add, Nat.zero_add] at k9
theorem s_V2lm {own : String} {idx mc1 ms1 mc2 ms2 : Nat} {q' : QM} {b ci N : Nat} {fs : List Value} {T : u_T} {v1 v2 : Value} {P : Int64 → HP → Prop} (cw : CWV own idx q' 2) (hown : q.1.cls = own) (hd : decode q.2.1 pc = .ok (.invokevirtual idx, 3)) (hc : h[b]? = some (.inr (ci, fs))) (hcl : vwCl[ci]? = some (q'.1.cls, T, N)) (hs : (st.map fun v => v.category).sum ≤ 8) (hC : Con d q' mc1 ms1 (.ref b :: [v1, v2]) h (PL P)) (hm : mc1 + mc = mc2) (hm2 : ms1 + ms = ms2) (kk : ∀ (x : Int64) (h1 : HP), P x h1 → Sem (d + 1) q mc ms (pc + 3) L (.long x :: st) h1 Qp) : Sem (d + 1) q mc2 ms2 pc L (v2 :: v1 :: .ref b :: st) h Qp := by
  subst hm hm2
  exact s_callV (mc := mc) (ms := ms) (L := L) (Qp := Qp) cw hown hd hc hcl rfl hs rfl hC (fun r1 h1 hq => by
    obtain ⟨x, rfl, hp⟩ := hq
    exact kk x h1 hp)
theorem s_U2l {own : String} {idx : Nat} {q' : QM} {b ci N : Nat} {fs : List Value} {T : u_T} {Cn : String} {x0 : MethodName} {v1 v2 : Value} {P : Int64 → HP → Prop} (cw : CWU own idx Cn x0 q' 2) (hown : q.1.cls = own) (hd : decode q.2.1 pc = .ok (.invokevirtual idx, 3)) (hc : h[b]? = some (.inr (ci, fs))) (hcl : vwCl[ci]? = some (Cn, T, N)) (hs : (st.map fun v => v.category).sum ≤ 8) (hC : Con d q' 0 0 (.ref b :: [v1, v2]) h (PL P)) (kk : ∀ (x : Int64) (h1 : HP), P x h1 → Sem (d + 1) q mc ms (pc + 3) L (.long x :: st) h1 Qp) : Sem (d + 1) q mc ms pc L (v2 :: v1 :: .ref b :: st) h Qp := by
  have k9 := s_callU (mc := mc) (ms := ms) (L := L) (Qp := Qp) cw hown hd hc hcl rfl hs rfl hC (fun r1 h1 hq => by
    obtain ⟨x, rfl, hp⟩ := hq
    exact kk x h1 hp)
  rwa [Nat.zero_add, Nat.zero_add] at k9
theorem s_U2lm {own : String} {idx mc1 ms1 mc2 ms2 : Nat} {q' : QM} {b ci N : Nat} {fs : List Value} {T : u_T} {Cn : String} {x0 : MethodName} {v1 v2 : Value} {P : Int64 → HP → Prop} (cw : CWU own idx Cn x0 q' 2) (hown : q.1.cls = own) (hd : decode q.2.1 pc = .ok (.invokevirtual idx, 3)) (hc : h[b]? = some (.inr (ci, fs))) (hcl : vwCl[ci]? = some (Cn, T, N)) (hs : (st.map fun v => v.category).sum ≤ 8) (hC : Con d q' mc1 ms1 (.ref b :: [v1, v2]) h (PL P)) (hm : mc1 + mc = mc2) (hm2 : ms1 + ms = ms2) (kk : ∀ (x : Int64) (h1 : HP), P x h1 → Sem (d + 1) q mc ms (pc + 3) L (.long x :: st) h1 Qp) : Sem (d + 1) q mc2 ms2 pc L (v2 :: v1 :: .ref b :: st) h Qp := by
  subst hm hm2
  exact s_callU (mc := mc) (ms := ms) (L := L) (Qp := Qp) cw hown hd hc hcl rfl hs rfl hC (fun r1 h1 hq => by
    obtain ⟨x, rfl, hp⟩ := hq
    exact kk x h1 hp)
theorem s_P2l {own : String} {idx : Nat} {q' : QM} {b ci N : Nat} {fs : List Value} {T : u_T} {Cn : String} {v1 v2 : Value} {P : Int64 → HP → Prop} (cw : CWP own idx q' 2) (hown : q.1.cls = own) (hd : decode q.2.1 pc = .ok (.invokespecial idx, 3)) (hc : h[b]? = some (.inr (ci, fs))) (hcl : vwCl[ci]? = some (Cn, T, N)) (hs : (st.map fun v => v.category).sum ≤ 8) (hC : Con d q' 0 0 (.ref b :: [v1, v2]) h (PL P)) (kk : ∀ (x : Int64) (h1 : HP), P x h1 → Sem (d + 1) q mc ms (pc + 3) L (.long x :: st) h1 Qp) : Sem (d + 1) q mc ms pc L (v2 :: v1 :: .ref b :: st) h Qp := by
  have k9 := s_callP (mc := mc) (ms := ms) (L := L) (Qp := Qp) cw hown hd hc hcl rfl hs rfl hC (fun r1 h1 hq => by
    obtain ⟨x, rfl, hp⟩ := hq
    exact kk x h1 hp)
  rwa [Nat.zero_add, Nat.zero_add] at k9
theorem s_P2lm {own : String} {idx mc1 ms1 mc2 ms2 : Nat} {q' : QM} {b ci N : Nat} {fs : List Value} {T : u_T} {Cn : String} {v1 v2 : Value} {P : Int64 → HP → Prop} (cw : CWP own idx q' 2) (hown : q.1.cls = own) (hd : decode q.2.1 pc = .ok (.invokespecial idx, 3)) (hc : h[b]? = some (.inr (ci, fs))) (hcl : vwCl[ci]? = some (Cn, T, N)) (hs : (st.map fun v => v.category).sum ≤ 8) (hC : Con d q' mc1 ms1 (.ref b :: [v1, v2]) h (PL P)) (hm : mc1 + mc = mc2) (hm2 : ms1 + ms = ms2) (kk : ∀ (x : Int64) (h1 : HP), P x h1 → Sem (d + 1) q mc ms (pc + 3) L (.long x :: st) h1 Qp) : Sem (d + 1) q mc2 ms2 pc L (v2 :: v1 :: .ref b :: st) h Qp := by
  subst hm hm2
  exact s_callP (mc := mc) (ms := ms) (L := L) (Qp := Qp) cw hown hd hc hcl rfl hs rfl hC (fun r1 h1 hq => by
    obtain ⟨x, rfl, hp⟩ := hq
    exact kk x h1 hp)
theorem s_S2l {own : String} {idx : Nat} {q' : QM} {v1 v2 : Value} {P : Int64 → HP → Prop} (cw : CWS own idx q' 2) (hown : q.1.cls = own) (hd : decode q.2.1 pc = .ok (.invokestatic idx, 3)) (hs : (st.map fun v => v.category).sum ≤ 8) (hC : Con d q' 0 0 [v1, v2] h (PL P)) (kk : ∀ (x : Int64) (h1 : HP), P x h1 → Sem (d + 1) q mc ms (pc + 3) L (.long x :: st) h1 Qp) : Sem (d + 1) q mc ms pc L (v2 :: v1 :: st) h Qp := by
  have k9 := s_callS (mc := mc) (ms := ms) (L := L) (Qp := Qp) cw hown hd rfl hs rfl hC (fun r1 h1 hq => by
    obtain ⟨x, rfl, hp⟩ := hq
    exact kk x h1 hp)
  rwa [Nat.zero_add, Nat.zero_add] at k9
theorem s_S2lm {own : String} {idx mc1 ms1 mc2 ms2 : Nat} {q' : QM} {v1 v2 : Value} {P : Int64 → HP → Prop} (cw : CWS own idx q' 2) (hown : q.1.cls = own) (hd : decode q.2.1 pc = .ok (.invokestatic idx, 3)) (hs : (st.map fun v => v.category).sum ≤ 8) (hC : Con d q' mc1 ms1 [v1, v2] h (PL P)) (hm : mc1 + mc = mc2) (hm2 : ms1 + ms = ms2) (kk : ∀ (x : Int64) (h1 : HP), P x h1 → Sem (d + 1) q mc ms (pc + 3) L (.long x :: st) h1 Qp) : Sem (d + 1) q mc2 ms2 pc L (v2 :: v1 :: st) h Qp := by
  subst hm hm2
  exact s_callS (mc := mc) (ms := ms) (L := L) (Qp := Qp) cw hown hd rfl hs rfl hC (fun r1 h1 hq => by
    obtain ⟨x, rfl, hp⟩ := hq
    exact kk x h1 hp)
theorem s_V2r {own : String} {idx : Nat} {q' : QM} {b ci N : Nat} {fs : List Value} {T : u_T} {v1 v2 : Value} {P : Value → HP → Prop} (cw : CWV own idx q' 2) (hown : q.1.cls = own) (hd : decode q.2.1 pc = .ok (.invokevirtual idx, 3)) (hc : h[b]? = some (.inr (ci, fs))) (hcl : vwCl[ci]? = some (q'.1.cls, T, N)) (hs : (st.map fun v => v.category).sum ≤ 8) (hC : Con d q' 0 0 (.ref b :: [v1, v2]) h (PR P)) (kk : ∀ (x : Value) (h1 : HP), P x h1 → Sem (d + 1) q mc ms (pc + 3) L (x :: st) h1 Qp) : Sem (d + 1) q mc ms pc L (v2 :: v1 :: .ref b :: st) h Qp := by
  have k9 := s_callV (mc := mc) (ms := ms) (L := L) (Qp := Qp) cw hown hd hc hcl rfl hs rfl hC (fun r1 h1 hq => by
    obtain ⟨x, rfl, hp⟩ := hq
    exact kk x h1 hp)
  rwa [Nat.zero_add, Nat.zero_add] at k9
theorem s_V2rm {own : String} {idx mc1 ms1 mc2 ms2 : Nat} {q' : QM} {b ci N : Nat} {fs : List Value} {T : u_T} {v1 v2 : Value} {P : Value → HP → Prop} (cw : CWV own idx q' 2) (hown : q.1.cls = own) (hd : decode q.2.1 pc = .ok (.invokevirtual idx, 3)) (hc : h[b]? = some (.inr (ci, fs))) (hcl : vwCl[ci]? = some (q'.1.cls, T, N)) (hs : (st.map fun v => v.category).sum ≤ 8) (hC : Con d q' mc1 ms1 (.ref b :: [v1, v2]) h (PR P)) (hm : mc1 + mc = mc2) (hm2 : ms1 + ms = ms2) (kk : ∀ (x : Value) (h1 : HP), P x h1 → Sem (d + 1) q mc ms (pc + 3) L (x :: st) h1 Qp) : Sem (d + 1) q mc2 ms2 pc L (v2 :: v1 :: .ref b :: st) h Qp := by
  subst hm hm2
  exact s_callV (mc := mc) (ms := ms) (L := L) (Qp := Qp) cw hown hd hc hcl rfl hs rfl hC (fun r1 h1 hq => by
    obtain ⟨x, rfl, hp⟩ := hq
    exact kk x h1 hp)
theorem s_U2r {own : String} {idx : Nat} {q' : QM} {b ci N : Nat} {fs : List Value} {T : u_T} {Cn : String} {x0 : MethodName} {v1 v2 : Value} {P : Value → HP → Prop} (cw : CWU own idx Cn x0 q' 2) (hown : q.1.cls = own) (hd : decode q.2.1 pc = .ok (.invokevirtual idx, 3)) (hc : h[b]? = some (.inr (ci, fs))) (hcl : vwCl[ci]? = some (Cn, T, N)) (hs : (st.map fun v => v.category).sum ≤ 8) (hC : Con d q' 0 0 (.ref b :: [v1, v2]) h (PR P)) (kk : ∀ (x : Value) (h1 : HP), P x h1 → Sem (d + 1) q mc ms (pc + 3) L (x :: st) h1 Qp) : Sem (d + 1) q mc ms pc L (v2 :: v1 :: .ref b :: st) h Qp := by
  have k9 := s_callU (mc := mc) (ms := ms) (L := L) (Qp := Qp) cw hown hd hc hcl rfl hs rfl hC (fun r1 h1 hq => by
    obtain ⟨x, rfl, hp⟩ := hq
    exact kk x h1 hp)
  rwa [Nat.zero_add, Nat.zero_add] at k9
theorem s_U2rm {own : String} {idx mc1 ms1 mc2 ms2 : Nat} {q' : QM} {b ci N : Nat} {fs : List Value} {T : u_T} {Cn : String} {x0 : MethodName} {v1 v2 : Value} {P : Value → HP → Prop} (cw : CWU own idx Cn x0 q' 2) (hown : q.1.cls = own) (hd : decode q.2.1 pc = .ok (.invokevirtual idx, 3)) (hc : h[b]? = some (.inr (ci, fs))) (hcl : vwCl[ci]? = some (Cn, T, N)) (hs : (st.map fun v => v.category).sum ≤ 8) (hC : Con d q' mc1 ms1 (.ref b :: [v1, v2]) h (PR P)) (hm : mc1 + mc = mc2) (hm2 : ms1 + ms = ms2) (kk : ∀ (x : Value) (h1 : HP), P x h1 → Sem (d + 1) q mc ms (pc + 3) L (x :: st) h1 Qp) : Sem (d + 1) q mc2 ms2 pc L (v2 :: v1 :: .ref b :: st) h Qp := by
  subst hm hm2
  exact s_callU (mc := mc) (ms := ms) (L := L) (Qp := Qp) cw hown hd hc hcl rfl hs rfl hC (fun r1 h1 hq => by
    obtain ⟨x, rfl, hp⟩ := hq
    exact kk x h1 hp)
theorem s_P2r {own : String} {idx : Nat} {q' : QM} {b ci N : Nat} {fs : List Value} {T : u_T} {Cn : String} {v1 v2 : Value} {P : Value → HP → Prop} (cw : CWP own idx q' 2) (hown : q.1.cls = own) (hd : decode q.2.1 pc = .ok (.invokespecial idx, 3)) (hc : h[b]? = some (.inr (ci, fs))) (hcl : vwCl[ci]? = some (Cn, T, N)) (hs : (st.map fun v => v.category).sum ≤ 8) (hC : Con d q' 0 0 (.ref b :: [v1, v2]) h (PR P)) (kk : ∀ (x : Value) (h1 : HP), P x h1 → Sem (d + 1) q mc ms (pc + 3) L (x :: st) h1 Qp) : Sem (d + 1) q mc ms pc L (v2 :: v1 :: .ref b :: st) h Qp := by
  have k9 := s_callP (mc := mc) (ms := ms) (L := L) (Qp := Qp) cw hown hd hc hcl rfl hs rfl hC (fun r1 h1 hq => by
    obtain ⟨x, rfl, hp⟩ := hq
    exact kk x h1 hp)
  rwa [Nat.zero_add, Nat.zero_add] at k9
theorem s_P2rm {own : String} {idx mc1 ms1 mc2 ms2 : Nat} {q' : QM} {b ci N : Nat} {fs : List Value} {T : u_T} {Cn : String} {v1 v2 : Value} {P : Value → HP → Prop} (cw : CWP own idx q' 2) (hown : q.1.cls = own) (hd : decode q.2.1 pc = .ok (.invokespecial idx, 3)) (hc : h[b]? = some (.inr (ci, fs))) (hcl : vwCl[ci]? = some (Cn, T, N)) (hs : (st.map fun v => v.category).sum ≤ 8) (hC : Con d q' mc1 ms1 (.ref b :: [v1, v2]) h (PR P)) (hm : mc1 + mc = mc2) (hm2 : ms1 + ms = ms2) (kk : ∀ (x : Value) (h1 : HP), P x h1 → Sem (d + 1) q mc ms (pc + 3) L (x :: st) h1 Qp) : Sem (d + 1) q mc2 ms2 pc L (v2 :: v1 :: .ref b :: st) h Qp := by
  subst hm hm2
  exact s_callP (mc := mc) (ms := ms) (L := L) (Qp := Qp) cw hown hd hc hcl rfl hs rfl hC (fun r1 h1 hq => by
    obtain ⟨x, rfl, hp⟩ := hq
    exact kk x h1 hp)
theorem s_S2r {own : String} {idx : Nat} {q' : QM} {v1 v2 : Value} {P : Value → HP → Prop} (cw : CWS own idx q' 2) (hown : q.1.cls = own) (hd : decode q.2.1 pc = .ok (.invokestatic idx, 3)) (hs : (st.map fun v => v.category).sum ≤ 8) (hC : Con d q' 0 0 [v1, v2] h (PR P)) (kk : ∀ (x : Value) (h1 : HP), P x h1 → Sem (d + 1) q mc ms (pc + 3) L (x :: st) h1 Qp) : Sem (d + 1) q mc ms pc L (v2 :: v1 :: st) h Qp := by
  have k9 := s_callS (mc := mc) (ms := ms) (L := L) (Qp := Qp) cw hown hd rfl hs rfl hC (fun r1 h1 hq => by
    obtain ⟨x, rfl, hp⟩ := hq
    exact kk x h1 hp)
  rwa [Nat.zero_add, Nat.zero_add] at k9
theorem s_S2rm {own : String} {idx mc1 ms1 mc2 ms2 : Nat} {q' : QM} {v1 v2 : Value} {P : Value → HP → Prop} (cw : CWS own idx q' 2) (hown : q.1.cls = own) (hd : decode q.2.1 pc = .ok (.invokestatic idx, 3)) (hs : (st.map fun v => v.category).sum ≤ 8) (hC : Con d q' mc1 ms1 [v1, v2] h (PR P)) (hm : mc1 + mc = mc2) (hm2 : ms1 + ms = ms2) (kk : ∀ (x : Value) (h1 : HP), P x h1 → Sem (d + 1) q mc ms (pc + 3) L (x :: st) h1 Qp) : Sem (d + 1) q mc2 ms2 pc L (v2 :: v1 :: st) h Qp := by
  subst hm hm2
  exact s_callS (mc := mc) (ms := ms) (L := L) (Qp := Qp) cw hown hd rfl hs rfl hC (fun r1 h1 hq => by
    obtain ⟨x, rfl, hp⟩ := hq
    exact kk x h1 hp)
theorem s_V2v {own : String} {idx : Nat} {q' : QM} {b ci N : Nat} {fs : List Value} {T : u_T} {v1 v2 : Value} {P : HP → Prop} (cw : CWV own idx q' 2) (hown : q.1.cls = own) (hd : decode q.2.1 pc = .ok (.invokevirtual idx, 3)) (hc : h[b]? = some (.inr (ci, fs))) (hcl : vwCl[ci]? = some (q'.1.cls, T, N)) (hs : (st.map fun v => v.category).sum ≤ 8) (hC : Con d q' 0 0 (.ref b :: [v1, v2]) h (PV P)) (kk : ∀ h1 : HP, P h1 → Sem (d + 1) q mc ms (pc + 3) L st h1 Qp) : Sem (d + 1) q mc ms pc L (v2 :: v1 :: .ref b :: st) h Qp := by
  have k9 := s_callV (mc := mc) (ms := ms) (L := L) (Qp := Qp) cw hown hd hc hcl rfl hs rfl hC (fun r1 h1 hq => by
    obtain ⟨rfl, hp⟩ := hq
    exact kk h1 hp)
  rwa [Nat.zero_add, Nat.zero_add] at k9
theorem s_V2vm {own : String} {idx mc1 ms1 mc2 ms2 : Nat} {q' : QM} {b ci N : Nat} {fs : List Value} {T : u_T} {v1 v2 : Value} {P : HP → Prop} (cw : CWV own idx q' 2) (hown : q.1.cls = own) (hd : decode q.2.1 pc = .ok (.invokevirtual idx, 3)) (hc : h[b]? = some (.inr (ci, fs))) (hcl : vwCl[ci]? = some (q'.1.cls, T, N)) (hs : (st.map fun v => v.category).sum ≤ 8) (hC : Con d q' mc1 ms1 (.ref b :: [v1, v2]) h (PV P)) (hm : mc1 + mc = mc2) (hm2 : ms1 + ms = ms2) (kk : ∀ h1 : HP, P h1 → Sem (d + 1) q mc ms (pc + 3) L st h1 Qp) : Sem (d + 1) q mc2 ms2 pc L (v2 :: v1 :: .ref b :: st) h Qp := by
  subst hm hm2
  exact s_callV (mc := mc) (ms := ms) (L := L) (Qp := Qp) cw hown hd hc hcl rfl hs rfl hC (fun r1 h1 hq => by
    obtain ⟨rfl, hp⟩ := hq
    exact kk h1 hp)
theorem s_U2v {own : String} {idx : Nat} {q' : QM} {b ci N : Nat} {fs : List Value} {T : u_T} {Cn : String} {x0 : MethodName} {v1 v2 : Value} {P : HP → Prop} (cw : CWU own idx Cn x0 q' 2) (hown : q.1.cls = own) (hd : decode q.2.1 pc = .ok (.invokevirtual idx, 3)) (hc : h[b]? = some (.inr (ci, fs))) (hcl : vwCl[ci]? = some (Cn, T, N)) (hs : (st.map fun v => v.category).sum ≤ 8) (hC : Con d q' 0 0 (.ref b :: [v1, v2]) h (PV P)) (kk : ∀ h1 : HP, P h1 → Sem (d + 1) q mc ms (pc + 3) L st h1 Qp) : Sem (d + 1) q mc ms pc L (v2 :: v1 :: .ref b :: st) h Qp := by
  have k9 := s_callU (mc := mc) (ms := ms) (L := L) (Qp := Qp) cw hown hd hc hcl rfl hs rfl hC (fun r1 h1 hq => by
    obtain ⟨rfl, hp⟩ := hq
    exact kk h1 hp)
  rwa [Nat.zero_add, Nat.zero_add] at k9
theorem s_U2vm {own : String} {idx mc1 ms1 mc2 ms2 : Nat} {q' : QM} {b ci N : Nat} {fs : List Value} {T : u_T} {Cn : String} {x0 : MethodName} {v1 v2 : Value} {P : HP → Prop} (cw : CWU own idx Cn x0 q' 2) (hown : q.1.cls = own) (hd : decode q.2.1 pc = .ok (.invokevirtual idx, 3)) (hc : h[b]? = some (.inr (ci, fs))) (hcl : vwCl[ci]? = some (Cn, T, N)) (hs : (st.map fun v => v.category).sum ≤ 8) (hC : Con d q' mc1 ms1 (.ref b :: [v1, v2]) h (PV P)) (hm : mc1 + mc = mc2) (hm2 : ms1 + ms = ms2) (kk : ∀ h1 : HP, P h1 → Sem (d + 1) q mc ms (pc + 3) L st h1 Qp) : Sem (d + 1) q mc2 ms2 pc L (v2 :: v1 :: .ref b :: st) h Qp := by
  subst hm hm2
  exact s_callU (mc := mc) (ms := ms) (L := L) (Qp := Qp) cw hown hd hc hcl rfl hs rfl hC (fun r1 h1 hq => by
    obtain ⟨rfl, hp⟩ := hq
    exact kk h1 hp)
theorem s_P2v {own : String} {idx : Nat} {q' : QM} {b ci N : Nat} {fs : List Value} {T : u_T} {Cn : String} {v1 v2 : Value} {P : HP → Prop} (cw : CWP own idx q' 2) (hown : q.1.cls = own) (hd : decode q.2.1 pc = .ok (.invokespecial idx, 3)) (hc : h[b]? = some (.inr (ci, fs))) (hcl : vwCl[ci]? = some (Cn, T, N)) (hs : (st.map fun v => v.category).sum ≤ 8) (hC : Con d q' 0 0 (.ref b :: [v1, v2]) h (PV P)) (kk : ∀ h1 : HP, P h1 → Sem (d + 1) q mc ms (pc + 3) L st h1 Qp) : Sem (d + 1) q mc ms pc L (v2 :: v1 :: .ref b :: st) h Qp := by
  have k9 := s_callP (mc := mc) (ms := ms) (L := L) (Qp := Qp) cw hown hd hc hcl rfl hs rfl hC (fun r1 h1 hq => by
    obtain ⟨rfl, hp⟩ := hq
    exact kk h1 hp)
  rwa [Nat.zero_add, Nat.zero_add] at k9
theorem s_P2vm {own : String} {idx mc1 ms1 mc2 ms2 : Nat} {q' : QM} {b ci N : Nat} {fs : List Value} {T : u_T} {Cn : String} {v1 v2 : Value} {P : HP → Prop} (cw : CWP own idx q' 2) (hown : q.1.cls = own) (hd : decode q.2.1 pc = .ok (.invokespecial idx, 3)) (hc : h[b]? = some (.inr (ci, fs))) (hcl : vwCl[ci]? = some (Cn, T, N)) (hs : (st.map fun v => v.category).sum ≤ 8) (hC : Con d q' mc1 ms1 (.ref b :: [v1, v2]) h (PV P)) (hm : mc1 + mc = mc2) (hm2 : ms1 + ms = ms2) (kk : ∀ h1 : HP, P h1 → Sem (d + 1) q mc ms (pc + 3) L st h1 Qp) : Sem (d + 1) q mc2 ms2 pc L (v2 :: v1 :: .ref b :: st) h Qp := by
  subst hm hm2
  exact s_callP (mc := mc) (ms := ms) (L := L) (Qp := Qp) cw hown hd hc hcl rfl hs rfl hC (fun r1 h1 hq => by
    obtain ⟨rfl, hp⟩ := hq
    exact kk h1 hp)
theorem s_S2v {own : String} {idx : Nat} {q' : QM} {v1 v2 : Value} {P : HP → Prop} (cw : CWS own idx q' 2) (hown : q.1.cls = own) (hd : decode q.2.1 pc = .ok (.invokestatic idx, 3)) (hs : (st.map fun v => v.category).sum ≤ 8) (hC : Con d q' 0 0 [v1, v2] h (PV P)) (kk : ∀ h1 : HP, P h1 → Sem (d + 1) q mc ms (pc + 3) L st h1 Qp) : Sem (d + 1) q mc ms pc L (v2 :: v1 :: st) h Qp := by
  have k9 := s_callS (mc := mc) (ms := ms) (L := L) (Qp := Qp) cw hown hd rfl hs rfl hC (fun r1 h1 hq => by
    obtain ⟨rfl, hp⟩ := hq
    exact kk h1 hp)
  rwa [Nat.zero_add, Nat.zero_add] at k9
theorem s_S2vm {own : String} {idx mc1 ms1 mc2 ms2 : Nat} {q' : QM} {v1 v2 : Value} {P : HP → Prop} (cw : CWS own idx q' 2) (hown : q.1.cls = own) (hd : decode q.2.1 pc = .ok (.invokestatic idx, 3)) (hs : (st.map fun v => v.category).sum ≤ 8) (hC : Con d q' mc1 ms1 [v1, v2] h (PV P)) (hm : mc1 + mc = mc2) (hm2 : ms1 + ms = ms2) (kk : ∀ h1 : HP, P h1 → Sem (d + 1) q mc ms (pc + 3) L st h1 Qp) : Sem (d + 1) q mc2 ms2 pc L (v2 :: v1 :: st) h Qp := by
  subst hm hm2
  exact s_callS (mc := mc) (ms := ms) (L := L) (Qp := Qp) cw hown hd rfl hs rfl hC (fun r1 h1 hq => by
    obtain ⟨rfl, hp⟩ := hq
    exact kk h1 hp)
theorem s_I2v {own : String} {idx : Nat} {q' : QM} {b : Nat} {v1 v2 : Value} {P : HP → Prop} (cw : CWI own idx q' 2) (hown : q.1.cls = own) (hd : decode q.2.1 pc = .ok (.invokespecial idx, 3)) (hs : (st.map fun v => v.category).sum ≤ 8) (hC : Con d q' 0 0 (.ref b :: [v1, v2]) h (PV P)) (kk : ∀ h1 : HP, P h1 → Sem (d + 1) q mc ms (pc + 3) L st h1 Qp) : Sem (d + 1) q mc ms pc L (v2 :: v1 :: .ref b :: st) h Qp := by
  have k9 := s_callI (mc := mc) (ms := ms) (L := L) (Qp := Qp) cw hown hd rfl hs rfl hC (fun r1 h1 hq => by
    obtain ⟨rfl, hp⟩ := hq
    exact kk h1 hp)
  rwa [Nat.zero_add, Nat.zero_add] at k9
theorem s_I2vm {own : String} {idx mc1 ms1 mc2 ms2 : Nat} {q' : QM} {b : Nat} {v1 v2 : Value} {P : HP → Prop} (cw : CWI own idx q' 2) (hown : q.1.cls = own) (hd : decode q.2.1 pc = .ok (.invokespecial idx, 3)) (hs : (st.map fun v => v.category).sum ≤ 8) (hC : Con d q' mc1 ms1 (.ref b :: [v1, v2]) h (PV P)) (hm : mc1 + mc = mc2) (hm2 : ms1 + ms = ms2) (kk : ∀ h1 : HP, P h1 → Sem (d + 1) q mc ms (pc + 3) L st h1 Qp) : Sem (d + 1) q mc2 ms2 pc L (v2 :: v1 :: .ref b :: st) h Qp := by
  subst hm hm2
  exact s_callI (mc := mc) (ms := ms) (L := L) (Qp := Qp) cw hown hd rfl hs rfl hC (fun r1 h1 hq => by
    obtain ⟨rfl, hp⟩ := hq
    exact kk h1 hp)
theorem s_V3i {own : String} {idx : Nat} {q' : QM} {b ci N : Nat} {fs : List Value} {T : u_T} {v1 v2 v3 : Value} {P : Int32 → HP → Prop} (cw : CWV own idx q' 3) (hown : q.1.cls = own) (hd : decode q.2.1 pc = .ok (.invokevirtual idx, 3)) (hc : h[b]? = some (.inr (ci, fs))) (hcl : vwCl[ci]? = some (q'.1.cls, T, N)) (hs : (st.map fun v => v.category).sum ≤ 8) (hC : Con d q' 0 0 (.ref b :: [v1, v2, v3]) h (PI P)) (kk : ∀ (x : Int32) (h1 : HP), P x h1 → Sem (d + 1) q mc ms (pc + 3) L (.int x :: st) h1 Qp) : Sem (d + 1) q mc ms pc L (v3 :: v2 :: v1 :: .ref b :: st) h Qp := by
  have k9 := s_callV (mc := mc) (ms := ms) (L := L) (Qp := Qp) cw hown hd hc hcl rfl hs rfl hC (fun r1 h1 hq => by
    obtain ⟨x, rfl, hp⟩ := hq
    exact kk x h1 hp)
  rwa [Nat.zero_add, Nat.zero_add] at k9
theorem s_V3im {own : String} {idx mc1 ms1 mc2 ms2 : Nat} {q' : QM} {b ci N : Nat} {fs : List Value} {T : u_T} {v1 v2 v3 : Value} {P : Int32 → HP → Prop} (cw : CWV own idx q' 3) (hown : q.1.cls = own) (hd : decode q.2.1 pc = .ok (.invokevirtual idx, 3)) (hc : h[b]? = some (.inr (ci, fs))) (hcl : vwCl[ci]? = some (q'.1.cls, T, N)) (hs : (st.map fun v => v.category).sum ≤ 8) (hC : Con d q' mc1 ms1 (.ref b :: [v1, v2, v3]) h (PI P)) (hm : mc1 + mc = mc2) (hm2 : ms1 + ms = ms2) (kk : ∀ (x : Int32) (h1 : HP), P x h1 → Sem (d + 1) q mc ms (pc + 3) L (.int x :: st) h1 Qp) : Sem (d + 1) q mc2 ms2 pc L (v3 :: v2 :: v1 :: .ref b :: st) h Qp := by
  subst hm hm2
  exact s_callV (mc := mc) (ms := ms) (L := L) (Qp := Qp) cw hown hd hc hcl rfl hs rfl hC (fun r1 h1 hq => by
    obtain ⟨x, rfl, hp⟩ := hq
    exact kk x h1 hp)
theorem s_U3i {own : String} {idx : Nat} {q' : QM} {b ci N : Nat} {fs : List Value} {T : u_T} {Cn : String} {x0 : MethodName} {v1 v2 v3 : Value} {P : Int32 → HP → Prop} (cw : CWU own idx Cn x0 q' 3) (hown : q.1.cls = own) (hd : decode q.2.1 pc = .ok (.invokevirtual idx, 3)) (hc : h[b]? = some (.inr (ci, fs))) (hcl : vwCl[ci]? = some (Cn, T, N)) (hs : (st.map fun v => v.category).sum ≤ 8) (hC : Con d q' 0 0 (.ref b :: [v1, v2, v3]) h (PI P)) (kk : ∀ (x : Int32) (h1 : HP), P x h1 → Sem (d + 1) q mc ms (pc + 3) L (.int x :: st) h1 Qp) : Sem (d + 1) q mc ms pc L (v3 :: v2 :: v1 :: .ref b :: st) h Qp := by
  have k9 := s_callU (mc := mc) (ms := ms) (L := L) (Qp := Qp) cw hown hd hc hcl rfl hs rfl hC (fun r1 h1 hq => by
    obtain ⟨x, rfl, hp⟩ := hq
    exact kk x h1 hp)
  rwa [Nat.zero_add, Nat.zero_add] at k9
theorem s_U3im {own : String} {idx mc1 ms1 mc2 ms2 : Nat} {q' : QM} {b ci N : Nat} {fs : List Value} {T : u_T} {Cn : String} {x0 : MethodName} {v1 v2 v3 : Value} {P : Int32 → HP → Prop} (cw : CWU own idx Cn x0 q' 3) (hown : q.1.cls = own) (hd : decode q.2.1 pc = .ok (.invokevirtual idx, 3)) (hc : h[b]? = some (.inr (ci, fs))) (hcl : vwCl[ci]? = some (Cn, T, N)) (hs : (st.map fun v => v.category).sum ≤ 8) (hC : Con d q' mc1 ms1 (.ref b :: [v1, v2, v3]) h (PI P)) (hm : mc1 + mc = mc2) (hm2 : ms1 + ms = ms2) (kk : ∀ (x : Int32) (h1 : HP), P x h1 → Sem (d + 1) q mc ms (pc + 3) L (.int x :: st) h1 Qp) : Sem (d + 1) q mc2 ms2 pc L (v3 :: v2 :: v1 :: .ref b :: st) h Qp := by
  subst hm hm2
  exact s_callU (mc := mc) (ms := ms) (L := L) (Qp := Qp) cw hown hd hc hcl rfl hs rfl hC (fun r1 h1 hq => by
    obtain ⟨x, rfl, hp⟩ := hq
    exact kk x h1 hp)
theorem s_P3i {own : String} {idx : Nat} {q' : QM} {b ci N : Nat} {fs : List Value} {T : u_T} {Cn : String} {v1 v2 v3 : Value} {P : Int32 → HP → Prop} (cw : CWP own idx q' 3) (hown : q.1.cls = own) (hd : decode q.2.1 pc = .ok (.invokespecial idx, 3)) (hc : h[b]? = some (.inr (ci, fs))) (hcl : vwCl[ci]? = some (Cn, T, N)) (hs : (st.map fun v => v.category).sum ≤ 8) (hC : Con d q' 0 0 (.ref b :: [v1, v2, v3]) h (PI P)) (kk : ∀ (x : Int32) (h1 : HP), P x h1 → Sem (d + 1) q mc ms (pc + 3) L (.int x :: st) h1 Qp) : Sem (d + 1) q mc ms pc L (v3 :: v2 :: v1 :: .ref b :: st) h Qp := by
  have k9 := s_callP (mc := mc) (ms := ms) (L := L) (Qp := Qp) cw hown hd hc hcl rfl hs rfl hC (fun r1 h1 hq => by
    obtain ⟨x, rfl, hp⟩ := hq
    exact kk x h1 hp)
  rwa [Nat.zero_add, Nat.zero_add] at k9
theorem s_P3im {own : String} {idx mc1 ms1 mc2 ms2 : Nat} {q' : QM} {b ci N : Nat} {fs : List Value} {T : u_T} {Cn : String} {v1 v2 v3 : Value} {P : Int32 → HP → Prop} (cw : CWP own idx q' 3) (hown : q.1.cls = own) (hd : decode q.2.1 pc = .ok (.invokespecial idx, 3)) (hc : h[b]? = some (.inr (ci, fs))) (hcl : vwCl[ci]? = some (Cn, T, N)) (hs : (st.map fun v => v.category).sum ≤ 8) (hC : Con d q' mc1 ms1 (.ref b :: [v1, v2, v3]) h (PI P)) (hm : mc1 + mc = mc2) (hm2 : ms1 + ms = ms2) (kk : ∀ (x : Int32) (h1 : HP), P x h1 → Sem (d + 1) q mc ms (pc + 3) L (.int x :: st) h1 Qp) : Sem (d + 1) q mc2 ms2 pc L (v3 :: v2 :: v1 :: .ref b :: st) h Qp := by
  subst hm hm2
  exact s_callP (mc := mc) (ms := ms) (L := L) (Qp := Qp) cw hown hd hc hcl rfl hs rfl hC (fun r1 h1 hq => by
    obtain ⟨x, rfl, hp⟩ := hq
    exact kk x h1 hp)
theorem s_S3i {own : String} {idx : Nat} {q' : QM} {v1 v2 v3 : Value} {P : Int32 → HP → Prop} (cw : CWS own idx q' 3) (hown : q.1.cls = own) (hd : decode q.2.1 pc = .ok (.invokestatic idx, 3)) (hs : (st.map fun v => v.category).sum ≤ 8) (hC : Con d q' 0 0 [v1, v2, v3] h (PI P)) (kk : ∀ (x : Int32) (h1 : HP), P x h1 → Sem (d + 1) q mc ms (pc + 3) L (.int x :: st) h1 Qp) : Sem (d + 1) q mc ms pc L (v3 :: v2 :: v1 :: st) h Qp := by
  have k9 := s_callS (mc := mc) (ms := ms) (L := L) (Qp := Qp) cw hown hd rfl hs rfl hC (fun r1 h1 hq => by
    obtain ⟨x, rfl, hp⟩ := hq
    exact kk x h1 hp)
  rwa [Nat.zero_add, Nat.zero_add] at k9
theorem s_S3im {own : String} {idx mc1 ms1 mc2 ms2 : Nat} {q' : QM} {v1 v2 v3 : Value} {P : Int32 → HP → Prop} (cw : CWS own idx q' 3) (hown : q.1.cls = own) (hd : decode q.2.1 pc = .ok (.invokestatic idx, 3)) (hs : (st.map fun v => v.category).sum ≤ 8) (hC : Con d q' mc1 ms1 [v1, v2, v3] h (PI P)) (hm : mc1 + mc = mc2) (hm2 : ms1 + ms = ms2) (kk : ∀ (x : Int32) (h1 : HP), P x h1 → Sem (d + 1) q mc ms (pc + 3) L (.int x :: st) h1 Qp) : Sem (d + 1) q mc2 ms2 pc L (v3 :: v2 :: v1 :: st) h Qp := by
  subst hm hm2
  exact s_callS (mc := mc) (ms := ms) (L := L) (Qp := Qp) cw hown hd rfl hs rfl hC (fun r1 h1 hq => by
    obtain ⟨x, rfl, hp⟩ := hq
    exact kk x h1 hp)
theorem s_V3l {own : String} {idx : Nat} {q' : QM} {b ci N : Nat} {fs : List Value} {T : u_T} {v1 v2 v3 : Value} {P : Int64 → HP → Prop} (cw : CWV own idx q' 3) (hown : q.1.cls = own) (hd : decode q.2.1 pc = .ok (.invokevirtual idx, 3)) (hc : h[b]? = some (.inr (ci, fs))) (hcl : vwCl[ci]? = some (q'.1.cls, T, N)) (hs : (st.map fun v => v.category).sum ≤ 8) (hC : Con d q' 0 0 (.ref b :: [v1, v2, v3]) h (PL P)) (kk : ∀ (x : Int64) (h1 : HP), P x h1 → Sem (d + 1) q mc ms (pc + 3) L (.long x :: st) h1 Qp) : Sem (d + 1) q mc ms pc L (v3 :: v2 :: v1 :: .ref b :: st) h Qp := by
  have k9 := s_callV (mc := mc) (ms := ms) (L := L) (Qp := Qp) cw hown hd hc hcl rfl hs rfl hC (fun r1 h1 hq => by
    obtain ⟨x, rfl, hp⟩ := hq
    exact kk x h1 hp)
  rwa [Nat.zero_add, Nat.zero_add] at k9
theorem s_V3lm {own : String} {idx mc1 ms1 mc2 ms2 : Nat} {q' : QM} {b ci N : Nat} {fs : List Value} {T : u_T} {v1 v2 v3 : Value} {P : Int64 → HP → Prop} (cw : CWV own idx q' 3) (hown : q.1.cls = own) (hd : decode q.2.1 pc = .ok (.invokevirtual idx, 3)) (hc : h[b]? = some (.inr (ci, fs))) (hcl : vwCl[ci]? = some (q'.1.cls, T, N)) (hs : (st.map fun v => v.category).sum ≤ 8) (hC : Con d q' mc1 ms1 (.ref b :: [v1, v2, v3]) h (PL P)) (hm : mc1 + mc = mc2) (hm2 : ms1 + ms = ms2) (kk : ∀ (x : Int64) (h1 : HP), P x h1 → Sem (d + 1) q mc ms (pc + 3) L (.long x :: st) h1 Qp) : Sem (d + 1) q mc2 ms2 pc L (v3 :: v2 :: v1 :: .ref b :: st) h Qp := by
  subst hm hm2
  exact s_callV (mc := mc) (ms := ms) (L := L) (Qp := Qp) cw hown hd hc hcl rfl hs rfl hC (fun r1 h1 hq => by
    obtain ⟨x, rfl, hp⟩ := hq
    exact kk x h1 hp)
theorem s_U3l {own : String} {idx : Nat} {q' : QM} {b ci N : Nat} {fs : List Value} {T : u_T} {Cn : String} {x0 : MethodName} {v1 v2 v3 : Value} {P : Int64 → HP → Prop} (cw : CWU own idx Cn x0 q' 3) (hown : q.1.cls = own) (hd : decode q.2.1 pc = .ok (.invokevirtual idx, 3)) (hc : h[b]? = some (.inr (ci, fs))) (hcl : vwCl[ci]? = some (Cn, T, N)) (hs : (st.map fun v => v.category).sum ≤ 8) (hC : Con d q' 0 0 (.ref b :: [v1, v2, v3]) h (PL P)) (kk : ∀ (x : Int64) (h1 : HP), P x h1 → Sem (d + 1) q mc ms (pc + 3) L (.long x :: st) h1 Qp) : Sem (d + 1) q mc ms pc L (v3 :: v2 :: v1 :: .ref b :: st) h Qp := by
  have k9 := s_callU (mc := mc) (ms := ms) (L := L) (Qp := Qp) cw hown hd hc hcl rfl hs rfl hC (fun r1 h1 hq => by
    obtain ⟨x, rfl, hp⟩ := hq
    exact kk x h1 hp)
  rwa [Nat.zero_add, Nat.zero_add] at k9
theorem s_U3lm {own : String} {idx mc1 ms1 mc2 ms2 : Nat} {q' : QM} {b ci N : Nat} {fs : List Value} {T : u_T} {Cn : String} {x0 : MethodName} {v1 v2 v3 : Value} {P : Int64 → HP → Prop} (cw : CWU own idx Cn x0 q' 3) (hown : q.1.cls = own) (hd : decode q.2.1 pc = .ok (.invokevirtual idx, 3)) (hc : h[b]? = some (.inr (ci, fs))) (hcl : vwCl[ci]? = some (Cn, T, N)) (hs : (st.map fun v => v.category).sum ≤ 8) (hC : Con d q' mc1 ms1 (.ref b :: [v1, v2, v3]) h (PL P)) (hm : mc1 + mc = mc2) (hm2 : ms1 + ms = ms2) (kk : ∀ (x : Int64) (h1 : HP), P x h1 → Sem (d + 1) q mc ms (pc + 3) L (.long x :: st) h1 Qp) : Sem (d + 1) q mc2 ms2 pc L (v3 :: v2 :: v1 :: .ref b :: st) h Qp := by
  subst hm hm2
  exact s_callU (mc := mc) (ms := ms) (L := L) (Qp := Qp) cw hown hd hc hcl rfl hs rfl hC (fun r1 h1 hq => by
    obtain ⟨x, rfl, hp⟩ := hq
    exact kk x h1 hp)
theorem s_P3l {own : String} {idx : Nat} {q' : QM} {b ci N : Nat} {fs : List Value} {T : u_T} {Cn : String} {v1 v2 v3 : Value} {P : Int64 → HP → Prop} (cw : CWP own idx q' 3) (hown : q.1.cls = own) (hd : decode q.2.1 pc = .ok (.invokespecial idx, 3)) (hc : h[b]? = some (.inr (ci, fs))) (hcl : vwCl[ci]? = some (Cn, T, N)) (hs : (st.map fun v => v.category).sum ≤ 8) (hC : Con d q' 0 0 (.ref b :: [v1, v2, v3]) h (PL P)) (kk : ∀ (x : Int64) (h1 : HP), P x h1 → Sem (d + 1) q mc ms (pc + 3) L (.long x :: st) h1 Qp) : Sem (d + 1) q mc ms pc L (v3 :: v2 :: v1 :: .ref b :: st) h Qp := by
  have k9 := s_callP (mc := mc) (ms := ms) (L := L) (Qp := Qp) cw hown hd hc hcl rfl hs rfl hC (fun r1 h1 hq => by
    obtain ⟨x, rfl, hp⟩ := hq
    exact kk x h1 hp)
  rwa [Nat.zero_add, Nat.zero_add] at k9
theorem s_P3lm {own : String} {idx mc1 ms1 mc2 ms2 : Nat} {q' : QM} {b ci N : Nat} {fs : List Value} {T : u_T} {Cn : String} {v1 v2 v3 : Value} {P : Int64 → HP → Prop} (cw : CWP own idx q' 3) (hown : q.1.cls = own) (hd : decode q.2.1 pc = .ok (.invokespecial idx, 3)) (hc : h[b]? = some (.inr (ci, fs))) (hcl : vwCl[ci]? = some (Cn, T, N)) (hs : (st.map fun v => v.category).sum ≤ 8) (hC : Con d q' mc1 ms1 (.ref b :: [v1, v2, v3]) h (PL P)) (hm : mc1 + mc = mc2) (hm2 : ms1 + ms = ms2) (kk : ∀ (x : Int64) (h1 : HP), P x h1 → Sem (d + 1) q mc ms (pc + 3) L (.long x :: st) h1 Qp) : Sem (d + 1) q mc2 ms2 pc L (v3 :: v2 :: v1 :: .ref b :: st) h Qp := by
  subst hm hm2
  exact s_callP (mc := mc) (ms := ms) (L := L) (Qp := Qp) cw hown hd hc hcl rfl hs rfl hC (fun r1 h1 hq => by
    obtain ⟨x, rfl, hp⟩ := hq
    exact kk x h1 hp)
theorem s_S3l {own : String} {idx : Nat} {q' : QM} {v1 v2 v3 : Value} {P : Int64 → HP → Prop} (cw : CWS own idx q' 3) (hown : q.1.cls = own) (hd : decode q.2.1 pc = .ok (.invokestatic idx, 3)) (hs : (st.map fun v => v.category).sum ≤ 8) (hC : Con d q' 0 0 [v1, v2, v3] h (PL P)) (kk : ∀ (x : Int64) (h1 : HP), P x h1 → Sem (d + 1) q mc ms (pc + 3) L (.long x :: st) h1 Qp) : Sem (d + 1) q mc ms pc L (v3 :: v2 :: v1 :: st) h Qp := by
  have k9 := s_callS (mc := mc) (ms := ms) (L := L) (Qp := Qp) cw hown hd rfl hs rfl hC (fun r1 h1 hq => by
    obtain ⟨x, rfl, hp⟩ := hq
    exact kk x h1 hp)
  rwa [Nat.zero_add, Nat.zero_add] at k9
theorem s_S3lm {own : String} {idx mc1 ms1 mc2 ms2 : Nat} {q' : QM} {v1 v2 v3 : Value} {P : Int64 → HP → Prop} (cw : CWS own idx q' 3) (hown : q.1.cls = own) (hd : decode q.2.1 pc = .ok (.invokestatic idx, 3)) (hs : (st.map fun v => v.category).sum ≤ 8) (hC : Con d q' mc1 ms1 [v1, v2, v3] h (PL P)) (hm : mc1 + mc = mc2) (hm2 : ms1 + ms = ms2) (kk : ∀ (x : Int64) (h1 : HP), P x h1 → Sem (d + 1) q mc ms (pc + 3) L (.long x :: st) h1 Qp) : Sem (d + 1) q mc2 ms2 pc L (v3 :: v2 :: v1 :: st) h Qp := by
  subst hm hm2
  exact s_callS (mc := mc) (ms := ms) (L := L) (Qp := Qp) cw hown hd rfl hs rfl hC (fun r1 h1 hq => by
    obtain ⟨x, rfl, hp⟩ := hq
    exact kk x h1 hp)
theorem s_V3r {own : String} {idx : Nat} {q' : QM} {b ci N : Nat} {fs : List Value} {T : u_T} {v1 v2 v3 : Value} {P : Value → HP → Prop} (cw : CWV own idx q' 3) (hown : q.1.cls = own) (hd : decode q.2.1 pc = .ok (.invokevirtual idx, 3)) (hc : h[b]? = some (.inr (ci, fs))) (hcl : vwCl[ci]? = some (q'.1.cls, T, N)) (hs : (st.map fun v => v.category).sum ≤ 8) (hC : Con d q' 0 0 (.ref b :: [v1, v2, v3]) h (PR P)) (kk : ∀ (x : Value) (h1 : HP), P x h1 → Sem (d + 1) q mc ms (pc + 3) L (x :: st) h1 Qp) : Sem (d + 1) q mc ms pc L (v3 :: v2 :: v1 :: .ref b :: st) h Qp := by
  have k9 := s_callV (mc := mc) (ms := ms) (L := L) (Qp := Qp) cw hown hd hc hcl rfl hs rfl hC (fun r1 h1 hq => by
    obtain ⟨x, rfl, hp⟩ := hq
    exact kk x h1 hp)
  rwa [Nat.zero_add, Nat.zero_add] at k9
theorem s_V3rm {own : String} {idx mc1 ms1 mc2 ms2 : Nat} {q' : QM} {b ci N : Nat} {fs : List Value} {T : u_T} {v1 v2 v3 : Value} {P : Value → HP → Prop} (cw : CWV own idx q' 3) (hown : q.1.cls = own) (hd : decode q.2.1 pc = .ok (.invokevirtual idx, 3)) (hc : h[b]? = some (.inr (ci, fs))) (hcl : vwCl[ci]? = some (q'.1.cls, T, N)) (hs : (st.map fun v => v.category).sum ≤ 8) (hC : Con d q' mc1 ms1 (.ref b :: [v1, v2, v3]) h (PR P)) (hm : mc1 + mc = mc2) (hm2 : ms1 + ms = ms2) (kk : ∀ (x : Value) (h1 : HP), P x h1 → Sem (d + 1) q mc ms (pc + 3) L (x :: st) h1 Qp) : Sem (d + 1) q mc2 ms2 pc L (v3 :: v2 :: v1 :: .ref b :: st) h Qp := by
  subst hm hm2
  exact s_callV (mc := mc) (ms := ms) (L := L) (Qp := Qp) cw hown hd hc hcl rfl hs rfl hC (fun r1 h1 hq => by
    obtain ⟨x, rfl, hp⟩ := hq
    exact kk x h1 hp)
theorem s_U3r {own : String} {idx : Nat} {q' : QM} {b ci N : Nat} {fs : List Value} {T : u_T} {Cn : String} {x0 : MethodName} {v1 v2 v3 : Value} {P : Value → HP → Prop} (cw : CWU own idx Cn x0 q' 3) (hown : q.1.cls = own) (hd : decode q.2.1 pc = .ok (.invokevirtual idx, 3)) (hc : h[b]? = some (.inr (ci, fs))) (hcl : vwCl[ci]? = some (Cn, T, N)) (hs : (st.map fun v => v.category).sum ≤ 8) (hC : Con d q' 0 0 (.ref b :: [v1, v2, v3]) h (PR P)) (kk : ∀ (x : Value) (h1 : HP), P x h1 → Sem (d + 1) q mc ms (pc + 3) L (x :: st) h1 Qp) : Sem (d + 1) q mc ms pc L (v3 :: v2 :: v1 :: .ref b :: st) h Qp := by
  have k9 := s_callU (mc := mc) (ms := ms) (L := L) (Qp := Qp) cw hown hd hc hcl rfl hs rfl hC (fun r1 h1 hq => by
    obtain ⟨x, rfl, hp⟩ := hq
    exact kk x h1 hp)
  rwa [Nat.zero_add, Nat.zero_add] at k9
theorem s_U3rm {own : String} {idx mc1 ms1 mc2 ms2 : Nat} {q' : QM} {b ci N : Nat} {fs : List Value} {T : u_T} {Cn : String} {x0 : MethodName} {v1 v2 v3 : Value} {P : Value → HP → Prop} (cw : CWU own idx Cn x0 q' 3) (hown : q.1.cls = own) (hd : decode q.2.1 pc = .ok (.invokevirtual idx, 3)) (hc : h[b]? = some (.inr (ci, fs))) (hcl : vwCl[ci]? = some (Cn, T, N)) (hs : (st.map fun v => v.category).sum ≤ 8) (hC : Con d q' mc1 ms1 (.ref b :: [v1, v2, v3]) h (PR P)) (hm : mc1 + mc = mc2) (hm2 : ms1 + ms = ms2) (kk : ∀ (x : Value) (h1 : HP), P x h1 → Sem (d + 1) q mc ms (pc + 3) L (x :: st) h1 Qp) : Sem (d + 1) q mc2 ms2 pc L (v3 :: v2 :: v1 :: .ref b :: st) h Qp := by
  subst hm hm2
  exact s_callU (mc := mc) (ms := ms) (L := L) (Qp := Qp) cw hown hd hc hcl rfl hs rfl hC (fun r1 h1 hq => by
    obtain ⟨x, rfl, hp⟩ := hq
    exact kk x h1 hp)
theorem s_P3r {own : String} {idx : Nat} {q' : QM} {b ci N : Nat} {fs : List Value} {T : u_T} {Cn : String} {v1 v2 v3 : Value} {P : Value → HP → Prop} (cw : CWP own idx q' 3) (hown : q.1.cls = own) (hd : decode q.2.1 pc = .ok (.invokespecial idx, 3)) (hc : h[b]? = some (.inr (ci, fs))) (hcl : vwCl[ci]? = some (Cn, T, N)) (hs : (st.map fun v => v.category).sum ≤ 8) (hC : Con d q' 0 0 (.ref b :: [v1, v2, v3]) h (PR P)) (kk : ∀ (x : Value) (h1 : HP), P x h1 → Sem (d + 1) q mc ms (pc + 3) L (x :: st) h1 Qp) : Sem (d + 1) q mc ms pc L (v3 :: v2 :: v1 :: .ref b :: st) h Qp := by
  have k9 := s_callP (mc := mc) (ms := ms) (L := L) (Qp := Qp) cw hown hd hc hcl rfl hs rfl hC (fun r1 h1 hq => by
    obtain ⟨x, rfl, hp⟩ := hq
    exact kk x h1 hp)
  rwa [Nat.zero_add, Nat.zero_add] at k9
theorem s_P3rm {own : String} {idx mc1 ms1 mc2 ms2 : Nat} {q' : QM} {b ci N : Nat} {fs : List Value} {T : u_T} {Cn : String} {v1 v2 v3 : Value} {P : Value → HP → Prop} (cw : CWP own idx q' 3) (hown : q.1.cls = own) (hd : decode q.2.1 pc = .ok (.invokespecial idx, 3)) (hc : h[b]? = some (.inr (ci, fs))) (hcl : vwCl[ci]? = some (Cn, T, N)) (hs : (st.map fun v => v.category).sum ≤ 8) (hC : Con d q' mc1 ms1 (.ref b :: [v1, v2, v3]) h (PR P)) (hm : mc1 + mc = mc2) (hm2 : ms1 + ms = ms2) (kk : ∀ (x : Value) (h1 : HP), P x h1 → Sem (d + 1) q mc ms (pc + 3) L (x :: st) h1 Qp) : Sem (d + 1) q mc2 ms2 pc L (v3 :: v2 :: v1 :: .ref b :: st) h Qp := by
  subst hm hm2
  exact s_callP (mc := mc) (ms := ms) (L := L) (Qp := Qp) cw hown hd hc hcl rfl hs rfl hC (fun r1 h1 hq => by
    obtain ⟨x, rfl, hp⟩ := hq
    exact kk x h1 hp)
theorem s_S3r {own : String} {idx : Nat} {q' : QM} {v1 v2 v3 : Value} {P : Value → HP → Prop} (cw : CWS own idx q' 3) (hown : q.1.cls = own) (hd : decode q.2.1 pc = .ok (.invokestatic idx, 3)) (hs : (st.map fun v => v.category).sum ≤ 8) (hC : Con d q' 0 0 [v1, v2, v3] h (PR P)) (kk : ∀ (x : Value) (h1 : HP), P x h1 → Sem (d + 1) q mc ms (pc + 3) L (x :: st) h1 Qp) : Sem (d + 1) q mc ms pc L (v3 :: v2 :: v1 :: st) h Qp := by
  have k9 := s_callS (mc := mc) (ms := ms) (L := L) (Qp := Qp) cw hown hd rfl hs rfl hC (fun r1 h1 hq => by
    obtain ⟨x, rfl, hp⟩ := hq
    exact kk x h1 hp)
  rwa [Nat.zero_add, Nat.zero_add] at k9
theorem s_S3rm {own : String} {idx mc1 ms1 mc2 ms2 : Nat} {q' : QM} {v1 v2 v3 : Value} {P : Value → HP → Prop} (cw : CWS own idx q' 3) (hown : q.1.cls = own) (hd : decode q.2.1 pc = .ok (.invokestatic idx, 3)) (hs : (st.map fun v => v.category).sum ≤ 8) (hC : Con d q' mc1 ms1 [v1, v2, v3] h (PR P)) (hm : mc1 + mc = mc2) (hm2 : ms1 + ms = ms2) (kk : ∀ (x : Value) (h1 : HP), P x h1 → Sem (d + 1) q mc ms (pc + 3) L (x :: st) h1 Qp) : Sem (d + 1) q mc2 ms2 pc L (v3 :: v2 :: v1 :: st) h Qp := by
  subst hm hm2
  exact s_callS (mc := mc) (ms := ms) (L := L) (Qp := Qp) cw hown hd rfl hs rfl hC (fun r1 h1 hq => by
    obtain ⟨x, rfl, hp⟩ := hq
    exact kk x h1 hp)
theorem s_V3v {own : String} {idx : Nat} {q' : QM} {b ci N : Nat} {fs : List Value} {T : u_T} {v1 v2 v3 : Value} {P : HP → Prop} (cw : CWV own idx q' 3) (hown : q.1.cls = own) (hd : decode q.2.1 pc = .ok (.invokevirtual idx, 3)) (hc : h[b]? = some (.inr (ci, fs))) (hcl : vwCl[ci]? = some (q'.1.cls, T, N)) (hs : (st.map fun v => v.category).sum ≤ 8) (hC : Con d q' 0 0 (.ref b :: [v1, v2, v3]) h (PV P)) (kk : ∀ h1 : HP, P h1 → Sem (d + 1) q mc ms (pc + 3) L st h1 Qp) : Sem (d + 1) q mc ms pc L (v3 :: v2 :: v1 :: .ref b :: st) h Qp := by
  have k9 := s_callV (mc := mc) (ms := ms) (L := L) (Qp := Qp) cw hown hd hc hcl rfl hs rfl hC (fun r1 h1 hq => by
    obtain ⟨rfl, hp⟩ := hq
    exact kk h1 hp)
  rwa [Nat.zero_add, Nat.zero_add] at k9
theorem s_V3vm {own : String} {idx mc1 ms1 mc2 ms2 : Nat} {q' : QM} {b ci N : Nat} {fs : List Value} {T : u_T} {v1 v2 v3 : Value} {P : HP → Prop} (cw : CWV own idx q' 3) (hown : q.1.cls = own) (hd : decode q.2.1 pc = .ok (.invokevirtual idx, 3)) (hc : h[b]? = some (.inr (ci, fs))) (hcl : vwCl[ci]? = some (q'.1.cls, T, N)) (hs : (st.map fun v => v.category).sum ≤ 8) (hC : Con d q' mc1 ms1 (.ref b :: [v1, v2, v3]) h (PV P)) (hm : mc1 + mc = mc2) (hm2 : ms1 + ms = ms2) (kk : ∀ h1 : HP, P h1 → Sem (d + 1) q mc ms (pc + 3) L st h1 Qp) : Sem (d + 1) q mc2 ms2 pc L (v3 :: v2 :: v1 :: .ref b :: st) h Qp := by
  subst hm hm2
  exact s_callV (mc := mc) (ms := ms) (L := L) (Qp := Qp) cw hown hd hc hcl rfl hs rfl hC (fun r1 h1 hq => by
    obtain ⟨rfl, hp⟩ := hq
    exact kk h1 hp)
theorem s_U3v {own : String} {idx : Nat} {q' : QM} {b ci N : Nat} {fs : List Value} {T : u_T} {Cn : String} {x0 : MethodName} {v1 v2 v3 : Value} {P : HP → Prop} (cw : CWU own idx Cn x0 q' 3) (hown : q.1.cls = own) (hd : decode q.2.1 pc = .ok (.invokevirtual idx, 3)) (hc : h[b]? = some (.inr (ci, fs))) (hcl : vwCl[ci]? = some (Cn, T, N)) (hs : (st.map fun v => v.category).sum ≤ 8) (hC : Con d q' 0 0 (.ref b :: [v1, v2, v3]) h (PV P)) (kk : ∀ h1 : HP, P h1 → Sem (d + 1) q mc ms (pc + 3) L st h1 Qp) : Sem (d + 1) q mc ms pc L (v3 :: v2 :: v1 :: .ref b :: st) h Qp := by
  have k9 := s_callU (mc := mc) (ms := ms) (L := L) (Qp := Qp) cw hown hd hc hcl rfl hs rfl hC (fun r1 h1 hq => by
    obtain ⟨rfl, hp⟩ := hq
    exact kk h1 hp)
  rwa [Nat.zero_add, Nat.zero_add] at k9
theorem s_U3vm {own : String} {idx mc1 ms1 mc2 ms2 : Nat} {q' : QM} {b ci N : Nat} {fs : List Value} {T : u_T} {Cn : String} {x0 : MethodName} {v1 v2 v3 : Value} {P : HP → Prop} (cw : CWU own idx Cn x0 q' 3) (hown : q.1.cls = own) (hd : decode q.2.1 pc = .ok (.invokevirtual idx, 3)) (hc : h[b]? = some (.inr (ci, fs))) (hcl : vwCl[ci]? = some (Cn, T, N)) (hs : (st.map fun v => v.category).sum ≤ 8) (hC : Con d q' mc1 ms1 (.ref b :: [v1, v2, v3]) h (PV P)) (hm : mc1 + mc = mc2) (hm2 : ms1 + ms = ms2) (kk : ∀ h1 : HP, P h1 → Sem (d + 1) q mc ms (pc + 3) L st h1 Qp) : Sem (d + 1) q mc2 ms2 pc L (v3 :: v2 :: v1 :: .ref b :: st) h Qp := by
  subst hm hm2
  exact s_callU (mc := mc) (ms := ms) (L := L) (Qp := Qp) cw hown hd hc hcl rfl hs rfl hC (fun r1 h1 hq => by
    obtain ⟨rfl, hp⟩ := hq
    exact kk h1 hp)
theorem s_P3v {own : String} {idx : Nat} {q' : QM} {b ci N : Nat} {fs : List Value} {T : u_T} {Cn : String} {v1 v2 v3 : Value} {P : HP → Prop} (cw : CWP own idx q' 3) (hown : q.1.cls = own) (hd : decode q.2.1 pc = .ok (.invokespecial idx, 3)) (hc : h[b]? = some (.inr (ci, fs))) (hcl : vwCl[ci]? = some (Cn, T, N)) (hs : (st.map fun v => v.category).sum ≤ 8) (hC : Con d q' 0 0 (.ref b :: [v1, v2, v3]) h (PV P)) (kk : ∀ h1 : HP, P h1 → Sem (d + 1) q mc ms (pc + 3) L st h1 Qp) : Sem (d + 1) q mc ms pc L (v3 :: v2 :: v1 :: .ref b :: st) h Qp := by
  have k9 := s_callP (mc := mc) (ms := ms) (L := L) (Qp := Qp) cw hown hd hc hcl rfl hs rfl hC (fun r1 h1 hq => by
    obtain ⟨rfl, hp⟩ := hq
    exact kk h1 hp)
  rwa [Nat.zero_add, Nat.zero_add] at k9
theorem s_P3vm {own : String} {idx mc1 ms1 mc2 ms2 : Nat} {q' : QM} {b ci N : Nat} {fs : List Value} {T : u_T} {Cn : String} {v1 v2 v3 : Value} {P : HP → Prop} (cw : CWP own idx q' 3) (hown : q.1.cls = own) (hd : decode q.2.1 pc = .ok (.invokespecial idx, 3)) (hc : h[b]? = some (.inr (ci, fs))) (hcl : vwCl[ci]? = some (Cn, T, N)) (hs : (st.map fun v => v.category).sum ≤ 8) (hC : Con d q' mc1 ms1 (.ref b :: [v1, v2, v3]) h (PV P)) (hm : mc1 + mc = mc2) (hm2 : ms1 + ms = ms2) (kk : ∀ h1 : HP, P h1 → Sem (d + 1) q mc ms (pc + 3) L st h1 Qp) : Sem (d + 1) q mc2 ms2 pc L (v3 :: v2 :: v1 :: .ref b :: st) h Qp := by
  subst hm hm2
  exact s_callP (mc := mc) (ms := ms) (L := L) (Qp := Qp) cw hown hd hc hcl rfl hs rfl hC (fun r1 h1 hq => by
    obtain ⟨rfl, hp⟩ := hq
    exact kk h1 hp)
theorem s_S3v {own : String} {idx : Nat} {q' : QM} {v1 v2 v3 : Value} {P : HP → Prop} (cw : CWS own idx q' 3) (hown : q.1.cls = own) (hd : decode q.2.1 pc = .ok (.invokestatic idx, 3)) (hs : (st.map fun v => v.category).sum ≤ 8) (hC : Con d q' 0 0 [v1, v2, v3] h (PV P)) (kk : ∀ h1 : HP, P h1 → Sem (d + 1) q mc ms (pc + 3) L st h1 Qp) : Sem (d + 1) q mc ms pc L (v3 :: v2 :: v1 :: st) h Qp := by
  have k9 := s_callS (mc := mc) (ms := ms) (L := L) (Qp := Qp) cw hown hd rfl hs rfl hC (fun r1 h1 hq => by
    obtain ⟨rfl, hp⟩ := hq
    exact kk h1 hp)
  rwa [Nat.zero_add, Nat.zero_add] at k9
theorem s_S3vm {own : String} {idx mc1 ms1 mc2 ms2 : Nat} {q' : QM} {v1 v2 v3 : Value} {P : HP → Prop} (cw : CWS own idx q' 3) (hown : q.1.cls = own) (hd : decode q.2.1 pc = .ok (.invokestatic idx, 3)) (hs : (st.map fun v => v.category).sum ≤ 8) (hC : Con d q' mc1 ms1 [v1, v2, v3] h (PV P)) (hm : mc1 + mc = mc2) (hm2 : ms1 + ms = ms2) (kk : ∀ h1 : HP, P h1 → Sem (d + 1) q mc ms (pc + 3) L st h1 Qp) : Sem (d + 1) q mc2 ms2 pc L (v3 :: v2 :: v1 :: st) h Qp := by
  subst hm hm2
  exact s_callS (mc := mc) (ms := ms) (L := L) (Qp := Qp) cw hown hd rfl hs rfl hC (fun r1 h1 hq => by
    obtain ⟨rfl, hp⟩ := hq
    exact kk h1 hp)
theorem s_I3v {own : String} {idx : Nat} {q' : QM} {b : Nat} {v1 v2 v3 : Value} {P : HP → Prop} (cw : CWI own idx q' 3) (hown : q.1.cls = own) (hd : decode q.2.1 pc = .ok (.invokespecial idx, 3)) (hs : (st.map fun v => v.category).sum ≤ 8) (hC : Con d q' 0 0 (.ref b :: [v1, v2, v3]) h (PV P)) (kk : ∀ h1 : HP, P h1 → Sem (d + 1) q mc ms (pc + 3) L st h1 Qp) : Sem (d + 1) q mc ms pc L (v3 :: v2 :: v1 :: .ref b :: st) h Qp := by
  have k9 := s_callI (mc := mc) (ms := ms) (L := L) (Qp := Qp) cw hown hd rfl hs rfl hC (fun r1 h1 hq => by
    obtain ⟨rfl, hp⟩ := hq
    exact kk h1 hp)
  rwa [Nat.zero_add, Nat.zero_add] at k9
theorem s_I3vm {own : String} {idx mc1 ms1 mc2 ms2 : Nat} {q' : QM} {b : Nat} {v1 v2 v3 : Value} {P : HP → Prop} (cw : CWI own idx q' 3) (hown : q.1.cls = own) (hd : decode q.2.1 pc = .ok (.invokespecial idx, 3)) (hs : (st.map fun v => v.category).sum ≤ 8) (hC : Con d q' mc1 ms1 (.ref b :: [v1, v2, v3]) h (PV P)) (hm : mc1 + mc = mc2) (hm2 : ms1 + ms = ms2) (kk : ∀ h1 : HP, P h1 → Sem (d + 1) q mc ms (pc + 3) L st h1 Qp) : Sem (d + 1) q mc2 ms2 pc L (v3 :: v2 :: v1 :: .ref b :: st) h Qp := by
  subst hm hm2
  exact s_callI (mc := mc) (ms := ms) (L := L) (Qp := Qp) cw hown hd rfl hs rfl hC (fun r1 h1 hq => by
    obtain ⟨rfl, hp⟩ := hq
    exact kk h1 hp)
theorem s_V4i {own : String} {idx : Nat} {q' : QM} {b ci N : Nat} {fs : List Value} {T : u_T} {v1 v2 v3 v4 : Value} {P : Int32 → HP → Prop} (cw : CWV own idx q' 4) (hown : q.1.cls = own) (hd : decode q.2.1 pc = .ok (.invokevirtual idx, 3)) (hc : h[b]? = some (.inr (ci, fs))) (hcl : vwCl[ci]? = some (q'.1.cls, T, N)) (hs : (st.map fun v => v.category).sum ≤ 8) (hC : Con d q' 0 0 (.ref b :: [v1, v2, v3, v4]) h (PI P)) (kk : ∀ (x : Int32) (h1 : HP), P x h1 → Sem (d + 1) q mc ms (pc + 3) L (.int x :: st) h1 Qp) : Sem (d + 1) q mc ms pc L (v4 :: v3 :: v2 :: v1 :: .ref b :: st) h Qp := by
  have k9 := s_callV (mc := mc) (ms := ms) (L := L) (Qp := Qp) cw hown hd hc hcl rfl hs rfl hC (fun r1 h1 hq => by
    obtain ⟨x, rfl, hp⟩ := hq
    exact kk x h1 hp)
  rwa [Nat.zero_add, Nat.zero_add] at k9
theorem s_V4im {own : String} {idx mc1 ms1 mc2 ms2 : Nat} {q' : QM} {b ci N : Nat} {fs : List Value} {T : u_T} {v1 v2 v3 v4 : Value} {P : Int32 → HP → Prop} (cw : CWV own idx q' 4) (hown : q.1.cls = own) (hd : decode q.2.1 pc = .ok (.invokevirtual idx, 3)) (hc : h[b]? = some (.inr (ci, fs))) (hcl : vwCl[ci]? = some (q'.1.cls, T, N)) (hs : (st.map fun v => v.category).sum ≤ 8) (hC : Con d q' mc1 ms1 (.ref b :: [v1, v2, v3, v4]) h (PI P)) (hm : mc1 + mc = mc2) (hm2 : ms1 + ms = ms2) (kk : ∀ (x : Int32) (h1 : HP), P x h1 → Sem (d + 1) q mc ms (pc + 3) L (.int x :: st) h1 Qp) : Sem (d + 1) q mc2 ms2 pc L (v4 :: v3 :: v2 :: v1 :: .ref b :: st) h Qp := by
  subst hm hm2
  exact s_callV (mc := mc) (ms := ms) (L := L) (Qp := Qp) cw hown hd hc hcl rfl hs rfl hC (fun r1 h1 hq => by
    obtain ⟨x, rfl, hp⟩ := hq
    exact kk x h1 hp)
theorem s_U4i {own : String} {idx : Nat} {q' : QM} {b ci N : Nat} {fs : List Value} {T : u_T} {Cn : String} {x0 : MethodName} {v1 v2 v3 v4 : Value} {P : Int32 → HP → Prop} (cw : CWU own idx Cn x0 q' 4) (hown : q.1.cls = own) (hd : decode q.2.1 pc = .ok (.invokevirtual idx, 3)) (hc : h[b]? = some (.inr (ci, fs))) (hcl : vwCl[ci]? = some (Cn, T, N)) (hs : (st.map fun v => v.category).sum ≤ 8) (hC : Con d q' 0 0 (.ref b :: [v1, v2, v3, v4]) h (PI P)) (kk : ∀ (x : Int32) (h1 : HP), P x h1 → Sem (d + 1) q mc ms (pc + 3) L (.int x :: st) h1 Qp) : Sem (d + 1) q mc ms pc L (v4 :: v3 :: v2 :: v1 :: .ref b :: st) h Qp := by
  have k9 := s_callU (mc := mc) (ms := ms) (L := L) (Qp := Qp) cw hown hd hc hcl rfl hs rfl hC (fun r1 h1 hq => by
    obtain ⟨x, rfl, hp⟩ := hq
    exact kk x h1 hp)
  rwa [Nat.zero_add, Nat.zero_add] at k9
theorem s_U4im {own : String} {idx mc1 ms1 mc2 ms2 : Nat} {q' : QM} {b ci N : Nat} {fs : List Value} {T : u_T} {Cn : String} {x0 : MethodName} {v1 v2 v3 v4 : Value} {P : Int32 → HP → Prop} (cw : CWU own idx Cn x0 q' 4) (hown : q.1.cls = own) (hd : decode q.2.1 pc = .ok (.invokevirtual idx, 3)) (hc : h[b]? = some (.inr (ci, fs))) (hcl : vwCl[ci]? = some (Cn, T, N)) (hs : (st.map fun v => v.category).sum ≤ 8) (hC : Con d q' mc1 ms1 (.ref b :: [v1, v2, v3, v4]) h (PI P)) (hm : mc1 + mc = mc2) (hm2 : ms1 + ms = ms2) (kk : ∀ (x : Int32) (h1 : HP), P x h1 → Sem (d + 1) q mc ms (pc + 3) L (.int x :: st) h1 Qp) : Sem (d + 1) q mc2 ms2 pc L (v4 :: v3 :: v2 :: v1 :: .ref b :: st) h Qp := by
  subst hm hm2
  exact s_callU (mc := mc) (ms := ms) (L := L) (Qp := Qp) cw hown hd hc hcl rfl hs rfl hC (fun r1 h1 hq => by
    obtain ⟨x, rfl, hp⟩ := hq
    exact kk x h1 hp)
theorem s_P4i {own : String} {idx : Nat} {q' : QM} {b ci N : Nat} {fs : List Value} {T : u_T} {Cn : String} {v1 v2 v3 v4 : Value} {P : Int32 → HP → Prop} (cw : CWP own idx q' 4) (hown : q.1.cls = own) (hd : decode q.2.1 pc = .ok (.invokespecial idx, 3)) (hc : h[b]? = some (.inr (ci, fs))) (hcl : vwCl[ci]? = some (Cn, T, N)) (hs : (st.map fun v => v.category).sum ≤ 8) (hC : Con d q' 0 0 (.ref b :: [v1, v2, v3, v4]) h (PI P)) (kk : ∀ (x : Int32) (h1 : HP), P x h1 → Sem (d + 1) q mc ms (pc + 3) L (.int x :: st) h1 Qp) : Sem (d + 1) q mc ms pc L (v4 :: v3 :: v2 :: v1 :: .ref b :: st) h Qp := by
  have k9 := s_callP (mc := mc) (ms := ms) (L := L) (Qp := Qp) cw hown hd hc hcl rfl hs rfl hC (fun r1 h1 hq => by
    obtain ⟨x, rfl, hp⟩ := hq
    exact kk x h1 hp)
  rwa [Nat.zero_add, Nat.zero_add] at k9
theorem s_P4im {own : String} {idx mc1 ms1 mc2 ms2 : Nat} {q' : QM} {b ci N : Nat} {fs : List Value} {T : u_T} {Cn : String} {v1 v2 v3 v4 : Value} {P : Int32 → HP → Prop} (cw : CWP own idx q' 4) (hown : q.1.cls = own) (hd : decode q.2.1 pc = .ok (.invokespecial idx, 3)) (hc : h[b]? = some (.inr (ci, fs))) (hcl : vwCl[ci]? = some (Cn, T, N)) (hs : (st.map fun v => v.category).sum ≤ 8) (hC : Con d q' mc1 ms1 (.ref b :: [v1, v2, v3, v4]) h (PI P)) (hm : mc1 + mc = mc2) (hm2 : ms1 + ms = ms2) (kk : ∀ (x : Int32) (h1 : HP), P x h1 → Sem (d + 1) q mc ms (pc + 3) L (.int x :: st) h1 Qp) : Sem (d + 1) q mc2 ms2 pc L (v4 :: v3 :: v2 :: v1 :: .ref b :: st) h Qp := by
  subst hm hm2
  exact s_callP (mc := mc) (ms := ms) (L := L) (Qp := Qp) cw hown hd hc hcl rfl hs rfl hC (fun r1 h1 hq => by
    obtain ⟨x, rfl, hp⟩ := hq
    exact kk x h1 hp)
theorem s_S4i {own : String} {idx : Nat} {q' : QM} {v1 v2 v3 v4 : Value} {P : Int32 → HP → Prop} (cw : CWS own idx q' 4) (hown : q.1.cls = own) (hd : decode q.2.1 pc = .ok (.invokestatic idx, 3)) (hs : (st.map fun v => v.category).sum ≤ 8) (hC : Con d q' 0 0 [v1, v2, v3, v4] h (PI P)) (kk : ∀ (x : Int32) (h1 : HP), P x h1 → Sem (d + 1) q mc ms (pc + 3) L (.int x :: st) h1 Qp) : Sem (d + 1) q mc ms pc L (v4 :: v3 :: v2 :: v1 :: st) h Qp := by
  have k9 := s_callS (mc := mc) (ms := ms) (L := L) (Qp := Qp) cw hown hd rfl hs rfl hC (fun r1 h1 hq => by
    obtain ⟨x, rfl, hp⟩ := hq
    exact kk x h1 hp)
  rwa [Nat.zero_add, Nat.zero_add] at k9
theorem s_S4im {own : String} {idx mc1 ms1 mc2 ms2 : Nat} {q' : QM} {v1 v2 v3 v4 : Value} {P : Int32 → HP → Prop} (cw : CWS own idx q' 4) (hown : q.1.cls = own) (hd : decode q.2.1 pc = .ok (.invokestatic idx, 3)) (hs : (st.map fun v => v.category).sum ≤ 8) (hC : Con d q' mc1 ms1 [v1, v2, v3, v4] h (PI P)) (hm : mc1 + mc = mc2) (hm2 : ms1 + ms = ms2) (kk : ∀ (x : Int32) (h1 : HP), P x h1 → Sem (d + 1) q mc ms (pc + 3) L (.int x :: st) h1 Qp) : Sem (d + 1) q mc2 ms2 pc L (v4 :: v3 :: v2 :: v1 :: st) h Qp := by
  subst hm hm2
  exact s_callS (mc := mc) (ms := ms) (L := L) (Qp := Qp) cw hown hd rfl hs rfl hC (fun r1 h1 hq => by
    obtain ⟨x, rfl, hp⟩ := hq
    exact kk x h1 hp)
theorem s_V4l {own : String} {idx : Nat} {q' : QM} {b ci N : Nat} {fs : List Value} {T : u_T} {v1 v2 v3 v4 : Value} {P : Int64 → HP → Prop} (cw : CWV own idx q' 4) (hown : q.1.cls = own) (hd : decode q.2.1 pc = .ok (.invokevirtual idx, 3)) (hc : h[b]? = some (.inr (ci, fs))) (hcl : vwCl[ci]? = some (q'.1.cls, T, N)) (hs : (st.map fun v => v.category).sum ≤ 8) (hC : Con d q' 0 0 (.ref b :: [v1, v2, v3, v4]) h (PL P)) (kk : ∀ (x : Int64) (h1 : HP), P x h1 → Sem (d + 1) q mc ms (pc + 3) L (.long x :: st) h1 Qp) : Sem (d + 1) q mc ms pc L (v4 :: v3 :: v2 :: v1 :: .ref b :: st) h Qp := by
  have k9 := s_callV (mc := mc) (ms := ms) (L := L) (Qp := Qp) cw hown hd hc hcl rfl hs rfl hC (fun r1 h1 hq => by
    obtain ⟨x, rfl, hp⟩ := hq
    exact kk x h1 hp)
  rwa [Nat.zero_add, Nat.zero_add] at k9
theorem s_V4lm {own : String} {idx mc1 ms1 mc2 ms2 : Nat} {q' : QM} {b ci N : Nat} {fs : List Value} {T : u_T} {v1 v2 v3 v4 : Value} {P : Int64 → HP → Prop} (cw : CWV own idx q' 4) (hown : q.1.cls = own) (hd : decode q.2.1 pc = .ok (.invokevirtual idx, 3)) (hc : h[b]? = some (.inr (ci, fs))) (hcl : vwCl[ci]? = some (q'.1.cls, T, N)) (hs : (st.map fun v => v.category).sum ≤ 8) (hC : Con d q' mc1 ms1 (.ref b :: [v1, v2, v3, v4]) h (PL P)) (hm : mc1 + mc = mc2) (hm2 : ms1 + ms = ms2) (kk : ∀ (x : Int64) (h1 : HP), P x h1 → Sem (d + 1) q mc ms (pc + 3) L (.long x :: st) h1 Qp) : Sem (d + 1) q mc2 ms2 pc L (v4 :: v3 :: v2 :: v1 :: .ref b :: st) h Qp := by
  subst hm hm2
  exact s_callV (mc := mc) (ms := ms) (L := L) (Qp := Qp) cw hown hd hc hcl rfl hs rfl hC (fun r1 h1 hq => by
    obtain ⟨x, rfl, hp⟩ := hq
    exact kk x h1 hp)
theorem s_U4l {own : String} {idx : Nat} {q' : QM} {b ci N : Nat} {fs : List Value} {T : u_T} {Cn : String} {x0 : MethodName} {v1 v2 v3 v4 : Value} {P : Int64 → HP → Prop} (cw : CWU own idx Cn x0 q' 4) (hown : q.1.cls = own) (hd : decode q.2.1 pc = .ok (.invokevirtual idx, 3)) (hc : h[b]? = some (.inr (ci, fs))) (hcl : vwCl[ci]? = some (Cn, T, N)) (hs : (st.map fun v => v.category).sum ≤ 8) (hC : Con d q' 0 0 (.ref b :: [v1, v2, v3, v4]) h (PL P)) (kk : ∀ (x : Int64) (h1 : HP), P x h1 → Sem (d + 1) q mc ms (pc + 3) L (.long x :: st) h1 Qp) : Sem (d + 1) q mc ms pc L (v4 :: v3 :: v2 :: v1 :: .ref b :: st) h Qp := by
  have k9 := s_callU (mc := mc) (ms := ms) (L := L) (Qp := Qp) cw hown hd hc hcl rfl hs rfl hC (fun r1 h1 hq => by
    obtain ⟨x, rfl, hp⟩ := hq
    exact kk x h1 hp)
  rwa [Nat.zero_add, Nat.zero_add] at k9
theorem s_U4lm {own : String} {idx mc1 ms1 mc2 ms2 : Nat} {q' : QM} {b ci N : Nat} {fs : List Value} {T : u_T} {Cn : String} {x0 : MethodName} {v1 v2 v3 v4 : Value} {P : Int64 → HP → Prop} (cw : CWU own idx Cn x0 q' 4) (hown : q.1.cls = own) (hd : decode q.2.1 pc = .ok (.invokevirtual idx, 3)) (hc : h[b]? = some (.inr (ci, fs))) (hcl : vwCl[ci]? = some (Cn, T, N)) (hs : (st.map fun v => v.category).sum ≤ 8) (hC : Con d q' mc1 ms1 (.ref b :: [v1, v2, v3, v4]) h (PL P)) (hm : mc1 + mc = mc2) (hm2 : ms1 + ms = ms2) (kk : ∀ (x : Int64) (h1 : HP), P x h1 → Sem (d + 1) q mc ms (pc + 3) L (.long x :: st) h1 Qp) : Sem (d + 1) q mc2 ms2 pc L (v4 :: v3 :: v2 :: v1 :: .ref b :: st) h Qp := by
  subst hm hm2
  exact s_callU (mc := mc) (ms := ms) (L := L) (Qp := Qp) cw hown hd hc hcl rfl hs rfl hC (fun r1 h1 hq => by
    obtain ⟨x, rfl, hp⟩ := hq
    exact kk x h1 hp)
theorem s_P4l {own : String} {idx : Nat} {q' : QM} {b ci N : Nat} {fs : List Value} {T : u_T} {Cn : String} {v1 v2 v3 v4 : Value} {P : Int64 → HP → Prop} (cw : CWP own idx q' 4) (hown : q.1.cls = own) (hd : decode q.2.1 pc = .ok (.invokespecial idx, 3)) (hc : h[b]? = some (.inr (ci, fs))) (hcl : vwCl[ci]? = some (Cn, T, N)) (hs : (st.map fun v => v.category).sum ≤ 8) (hC : Con d q' 0 0 (.ref b :: [v1, v2, v3, v4]) h (PL P)) (kk : ∀ (x : Int64) (h1 : HP), P x h1 → Sem (d + 1) q mc ms (pc + 3) L (.long x :: st) h1 Qp) : Sem (d + 1) q mc ms pc L (v4 :: v3 :: v2 :: v1 :: .ref b :: st) h Qp := by
  have k9 := s_callP (mc := mc) (ms := ms) (L := L) (Qp := Qp) cw hown hd hc hcl rfl hs rfl hC (fun r1 h1 hq => by
    obtain ⟨x, rfl, hp⟩ := hq
    exact kk x h1 hp)
  rwa [Nat.zero_add, Nat.zero_add] at k9
theorem s_P4lm {own : String} {idx mc1 ms1 mc2 ms2 : Nat} {q' : QM} {b ci N : Nat} {fs : List Value} {T : u_T} {Cn : String} {v1 v2 v3 v4 : Value} {P : Int64 → HP → Prop} (cw : CWP own idx q' 4) (hown : q.1.cls = own) (hd : decode q.2.1 pc = .ok (.invokespecial idx, 3)) (hc : h[b]? = some (.inr (ci, fs))) (hcl : vwCl[ci]? = some (Cn, T, N)) (hs : (st.map fun v => v.category).sum ≤ 8) (hC : Con d q' mc1 ms1 (.ref b :: [v1, v2, v3, v4]) h (PL P)) (hm : mc1 + mc = mc2) (hm2 : ms1 + ms = ms2) (kk : ∀ (x : Int64) (h1 : HP), P x h1 → Sem (d + 1) q mc ms (pc + 3) L (.long x :: st) h1 Qp) : Sem (d + 1) q mc2 ms2 pc L (v4 :: v3 :: v2 :: v1 :: .ref b :: st) h Qp := by
  subst hm hm2
  exact s_callP (mc := mc) (ms := ms) (L := L) (Qp := Qp) cw hown hd hc hcl rfl hs rfl hC (fun r1 h1 hq => by
    obtain ⟨x, rfl, hp⟩ := hq
    exact kk x h1 hp)
theorem s_S4l {own : String} {idx : Nat} {q' : QM} {v1 v2 v3 v4 : Value} {P : Int64 → HP → Prop} (cw : CWS own idx q' 4) (hown : q.1.cls = own) (hd : decode q.2.1 pc = .ok (.invokestatic idx, 3)) (hs : (st.map fun v => v.category).sum ≤ 8) (hC : Con d q' 0 0 [v1, v2, v3, v4] h (PL P)) (kk : ∀ (x : Int64) (h1 : HP), P x h1 → Sem (d + 1) q mc ms (pc + 3) L (.long x :: st) h1 Qp) : Sem (d + 1) q mc ms pc L (v4 :: v3 :: v2 :: v1 :: st) h Qp := by
  have k9 := s_callS (mc := mc) (ms := ms) (L := L) (Qp := Qp) cw hown hd rfl hs rfl hC (fun r1 h1 hq => by
    obtain ⟨x, rfl, hp⟩ := hq
    exact kk x h1 hp)
  rwa [Nat.zero_add, Nat.zero_add] at k9
theorem s_S4lm {own : String} {idx mc1 ms1 mc2 ms2 : Nat} {q' : QM} {v1 v2 v3 v4 : Value} {P : Int64 → HP → Prop} (cw : CWS own idx q' 4) (hown : q.1.cls = own) (hd : decode q.2.1 pc = .ok (.invokestatic idx, 3)) (hs : (st.map fun v => v.category).sum ≤ 8) (hC : Con d q' mc1 ms1 [v1, v2, v3, v4] h (PL P)) (hm : mc1 + mc = mc2) (hm2 : ms1 + ms = ms2) (kk : ∀ (x : Int64) (h1 : HP), P x h1 → Sem (d + 1) q mc ms (pc + 3) L (.long x :: st) h1 Qp) : Sem (d + 1) q mc2 ms2 pc L (v4 :: v3 :: v2 :: v1 :: st) h Qp := by
  subst hm hm2
  exact s_callS (mc := mc) (ms := ms) (L := L) (Qp := Qp) cw hown hd rfl hs rfl hC (fun r1 h1 hq => by
    obtain ⟨x, rfl, hp⟩ := hq
    exact kk x h1 hp)
theorem s_V4r {own : String} {idx : Nat} {q' : QM} {b ci N : Nat} {fs : List Value} {T : u_T} {v1 v2 v3 v4 : Value} {P : Value → HP → Prop} (cw : CWV own idx q' 4) (hown : q.1.cls = own) (hd : decode q.2.1 pc = .ok (.invokevirtual idx, 3)) (hc : h[b]? = some (.inr (ci, fs))) (hcl : vwCl[ci]? = some (q'.1.cls, T, N)) (hs : (st.map fun v => v.category).sum ≤ 8) (hC : Con d q' 0 0 (.ref b :: [v1, v2, v3, v4]) h (PR P)) (kk : ∀ (x : Value) (h1 : HP), P x h1 → Sem (d + 1) q mc ms (pc + 3) L (x :: st) h1 Qp) : Sem (d + 1) q mc ms pc L (v4 :: v3 :: v2 :: v1 :: .ref b :: st) h Qp := by
  have k9 := s_callV (mc := mc) (ms := ms) (L := L) (Qp := Qp) cw hown hd hc hcl rfl hs rfl hC (fun r1 h1 hq => by
    obtain ⟨x, rfl, hp⟩ := hq
    exact kk x h1 hp)
  rwa [Nat.zero_add, Nat.zero_add] at k9
theorem s_V4rm {own : String} {idx mc1 ms1 mc2 ms2 : Nat} {q' : QM} {b ci N : Nat} {fs : List Value} {T : u_T} {v1 v2 v3 v4 : Value} {P : Value → HP → Prop} (cw : CWV own idx q' 4) (hown : q.1.cls = own) (hd : decode q.2.1 pc = .ok (.invokevirtual idx, 3)) (hc : h[b]? = some (.inr (ci, fs))) (hcl : vwCl[ci]? = some (q'.1.cls, T, N)) (hs : (st.map fun v => v.category).sum ≤ 8) (hC : Con d q' mc1 ms1 (.ref b :: [v1, v2, v3, v4]) h (PR P)) (hm : mc1 + mc = mc2) (hm2 : ms1 + ms = ms2) (kk : ∀ (x : Value) (h1 : HP), P x h1 → Sem (d + 1) q mc ms (pc + 3) L (x :: st) h1 Qp) : Sem (d + 1) q mc2 ms2 pc L (v4 :: v3 :: v2 :: v1 :: .ref b :: st) h Qp := by
  subst hm hm2
  exact s_callV (mc := mc) (ms := ms) (L := L) (Qp := Qp) cw hown hd hc hcl rfl hs rfl hC (fun r1 h1 hq => by
    obtain ⟨x, rfl, hp⟩ := hq
    exact kk x h1 hp)
theorem s_U4r {own : String} {idx : Nat} {q' : QM} {b ci N : Nat} {fs : List Value} {T : u_T} {Cn : String} {x0 : MethodName} {v1 v2 v3 v4 : Value} {P : Value → HP → Prop} (cw : CWU own idx Cn x0 q' 4) (hown : q.1.cls = own) (hd : decode q.2.1 pc = .ok (.invokevirtual idx, 3)) (hc : h[b]? = some (.inr (ci, fs))) (hcl : vwCl[ci]? = some (Cn, T, N)) (hs : (st.map fun v => v.category).sum ≤ 8) (hC : Con d q' 0 0 (.ref b :: [v1, v2, v3, v4]) h (PR P)) (kk : ∀ (x : Value) (h1 : HP), P x h1 → Sem (d + 1) q mc ms (pc + 3) L (x :: st) h1 Qp) : Sem (d + 1) q mc ms pc L (v4 :: v3 :: v2 :: v1 :: .ref b :: st) h Qp := by
  have k9 := s_callU (mc := mc) (ms := ms) (L := L) (Qp := Qp) cw hown hd hc hcl rfl hs rfl hC (fun r1 h1 hq => by
    obtain ⟨x, rfl, hp⟩ := hq
    exact kk x h1 hp)
  rwa [Nat.zero_add, Nat.zero_add] at k9
theorem s_U4rm {own : String} {idx mc1 ms1 mc2 ms2 : Nat} {q' : QM} {b ci N : Nat} {fs : List Value} {T : u_T} {Cn : String} {x0 : MethodName} {v1 v2 v3 v4 : Value} {P : Value → HP → Prop} (cw : CWU own idx Cn x0 q' 4) (hown : q.1.cls = own) (hd : decode q.2.1 pc = .ok (.invokevirtual idx, 3)) (hc : h[b]? = some (.inr (ci, fs))) (hcl : vwCl[ci]? = some (Cn, T, N)) (hs : (st.map fun v => v.category).sum ≤ 8) (hC : Con d q' mc1 ms1 (.ref b :: [v1, v2, v3, v4]) h (PR P)) (hm : mc1 + mc = mc2) (hm2 : ms1 + ms = ms2) (kk : ∀ (x : Value) (h1 : HP), P x h1 → Sem (d + 1) q mc ms (pc + 3) L (x :: st) h1 Qp) : Sem (d + 1) q mc2 ms2 pc L (v4 :: v3 :: v2 :: v1 :: .ref b :: st) h Qp := by
  subst hm hm2
  exact s_callU (mc := mc) (ms := ms) (L := L) (Qp := Qp) cw hown hd hc hcl rfl hs rfl hC (fun r1 h1 hq => by
    obtain ⟨x, rfl, hp⟩ := hq
    exact kk x h1 hp)
theorem s_P4r {own : String} {idx : Nat} {q' : QM} {b ci N : Nat} {fs : List Value} {T : u_T} {Cn : String} {v1 v2 v3 v4 : Value} {P : Value → HP → Prop} (cw : CWP own idx q' 4) (hown : q.1.cls = own) (hd : decode q.2.1 pc = .ok (.invokespecial idx, 3)) (hc : h[b]? = some (.inr (ci, fs))) (hcl : vwCl[ci]? = some (Cn, T, N)) (hs : (st.map fun v => v.category).sum ≤ 8) (hC : Con d q' 0 0 (.ref b :: [v1, v2, v3, v4]) h (PR P)) (kk : ∀ (x : Value) (h1 : HP), P x h1 → Sem (d + 1) q mc ms (pc + 3) L (x :: st) h1 Qp) : Sem (d + 1) q mc ms pc L (v4 :: v3 :: v2 :: v1 :: .ref b :: st) h Qp := by
  have k9 := s_callP (mc := mc) (ms := ms) (L := L) (Qp := Qp) cw hown hd hc hcl rfl hs rfl hC (fun r1 h1 hq => by
    obtain ⟨x, rfl, hp⟩ := hq
    exact kk x h1 hp)
  rwa [Nat.zero_add, Nat.zero_add] at k9
theorem s_P4rm {own : String} {idx mc1 ms1 mc2 ms2 : Nat} {q' : QM} {b ci N : Nat} {fs : List Value} {T : u_T} {Cn : String} {v1 v2 v3 v4 : Value} {P : Value → HP → Prop} (cw : CWP own idx q' 4) (hown : q.1.cls = own) (hd : decode q.2.1 pc = .ok (.invokespecial idx, 3)) (hc : h[b]? = some (.inr (ci, fs))) (hcl : vwCl[ci]? = some (Cn, T, N)) (hs : (st.map fun v => v.category).sum ≤ 8) (hC : Con d q' mc1 ms1 (.ref b :: [v1, v2, v3, v4]) h (PR P)) (hm : mc1 + mc = mc2) (hm2 : ms1 + ms = ms2) (kk : ∀ (x : Value) (h1 : HP), P x h1 → Sem (d + 1) q mc ms (pc + 3) L (x :: st) h1 Qp) : Sem (d + 1) q mc2 ms2 pc L (v4 :: v3 :: v2 :: v1 :: .ref b :: st) h Qp := by
  subst hm hm2
  exact s_callP (mc := mc) (ms := ms) (L := L) (Qp := Qp) cw hown hd hc hcl rfl hs rfl hC (fun r1 h1 hq => by
    obtain ⟨x, rfl, hp⟩ := hq
    exact kk x h1 hp)
theorem s_S4r {own : String} {idx : Nat} {q' : QM} {v1 v2 v3 v4 : Value} {P : Value → HP → Prop} (cw : CWS own idx q' 4) (hown : q.1.cls = own) (hd : decode q.2.1 pc = .ok (.invokestatic idx, 3)) (hs : (st.map fun v => v.category).sum ≤ 8) (hC : Con d q' 0 0 [v1, v2, v3, v4] h (PR P)) (kk : ∀ (x : Value) (h1 : HP), P x h1 → Sem (d + 1) q mc ms (pc + 3) L (x :: st) h1 Qp) : Sem (d + 1) q mc ms pc L (v4 :: v3 :: v2 :: v1 :: st) h Qp := by
  have k9 := s_callS (mc := mc) (ms := ms) (L := L) (Qp := Qp) cw hown hd rfl hs rfl hC (fun r1 h1 hq => by
    obtain ⟨x, rfl, hp⟩ := hq
    exact kk x h1 hp)
  rwa [Nat.zero_add, Nat.zero_add] at k9
theorem s_S4rm {own : String} {idx mc1 ms1 mc2 ms2 : Nat} {q' : QM} {v1 v2 v3 v4 : Value} {P : Value → HP → Prop} (cw : CWS own idx q' 4) (hown : q.1.cls = own) (hd : decode q.2.1 pc = .ok (.invokestatic idx, 3)) (hs : (st.map fun v => v.category).sum ≤ 8) (hC : Con d q' mc1 ms1 [v1, v2, v3, v4] h (PR P)) (hm : mc1 + mc = mc2) (hm2 : ms1 + ms = ms2) (kk : ∀ (x : Value) (h1 : HP), P x h1 → Sem (d + 1) q mc ms (pc + 3) L (x :: st) h1 Qp) : Sem (d + 1) q mc2 ms2 pc L (v4 :: v3 :: v2 :: v1 :: st) h Qp := by
  subst hm hm2
  exact s_callS (mc := mc) (ms := ms) (L := L) (Qp := Qp) cw hown hd rfl hs rfl hC (fun r1 h1 hq => by
    obtain ⟨x, rfl, hp⟩ := hq
    exact kk x h1 hp)
theorem s_V4v {own : String} {idx : Nat} {q' : QM} {b ci N : Nat} {fs : List Value} {T : u_T} {v1 v2 v3 v4 : Value} {P : HP → Prop} (cw : CWV own idx q' 4) (hown : q.1.cls = own) (hd : decode q.2.1 pc = .ok (.invokevirtual idx, 3)) (hc : h[b]? = some (.inr (ci, fs))) (hcl : vwCl[ci]? = some (q'.1.cls, T, N)) (hs : (st.map fun v => v.category).sum ≤ 8) (hC : Con d q' 0 0 (.ref b :: [v1, v2, v3, v4]) h (PV P)) (kk : ∀ h1 : HP, P h1 → Sem (d + 1) q mc ms (pc + 3) L st h1 Qp) : Sem (d + 1) q mc ms pc L (v4 :: v3 :: v2 :: v1 :: .ref b :: st) h Qp := by
  have k9 := s_callV (mc := mc) (ms := ms) (L := L) (Qp := Qp) cw hown hd hc hcl rfl hs rfl hC (fun r1 h1 hq => by
    obtain ⟨rfl, hp⟩ := hq
    exact kk h1 hp)
  rwa [Nat.zero_add, Nat.zero_add] at k9
theorem s_V4vm {own : String} {idx mc1 ms1 mc2 ms2 : Nat} {q' : QM} {b ci N : Nat} {fs : List Value} {T : u_T} {v1 v2 v3 v4 : Value} {P : HP → Prop} (cw : CWV own idx q' 4) (hown : q.1.cls = own) (hd : decode q.2.1 pc = .ok (.invokevirtual idx, 3)) (hc : h[b]? = some (.inr (ci, fs))) (hcl : vwCl[ci]? = some (q'.1.cls, T, N)) (hs : (st.map fun v => v.category).sum ≤ 8) (hC : Con d q' mc1 ms1 (.ref b :: [v1, v2, v3, v4]) h (PV P)) (hm : mc1 + mc = mc2) (hm2 : ms1 + ms = ms2) (kk : ∀ h1 : HP, P h1 → Sem (d + 1) q mc ms (pc + 3) L st h1 Qp) : Sem (d + 1) q mc2 ms2 pc L (v4 :: v3 :: v2 :: v1 :: .ref b :: st) h Qp := by
  subst hm hm2
  exact s_callV (mc := mc) (ms := ms) (L := L) (Qp := Qp) cw hown hd hc hcl rfl hs rfl hC (fun r1 h1 hq => by
    obtain ⟨rfl, hp⟩ := hq
    exact kk h1 hp)
theorem s_U4v {own : String} {idx : Nat} {q' : QM} {b ci N : Nat} {fs : List Value} {T : u_T} {Cn : String} {x0 : MethodName} {v1 v2 v3 v4 : Value} {P : HP → Prop} (cw : CWU own idx Cn x0 q' 4) (hown : q.1.cls = own) (hd : decode q.2.1 pc = .ok (.invokevirtual idx, 3)) (hc : h[b]? = some (.inr (ci, fs))) (hcl : vwCl[ci]? = some (Cn, T, N)) (hs : (st.map fun v => v.category).sum ≤ 8) (hC : Con d q' 0 0 (.ref b :: [v1, v2, v3, v4]) h (PV P)) (kk : ∀ h1 : HP, P h1 → Sem (d + 1) q mc ms (pc + 3) L st h1 Qp) : Sem (d + 1) q mc ms pc L (v4 :: v3 :: v2 :: v1 :: .ref b :: st) h Qp := by
  have k9 := s_callU (mc := mc) (ms := ms) (L := L) (Qp := Qp) cw hown hd hc hcl rfl hs rfl hC (fun r1 h1 hq => by
    obtain ⟨rfl, hp⟩ := hq
    exact kk h1 hp)
  rwa [Nat.zero_add, Nat.zero_add] at k9
theorem s_U4vm {own : String} {idx mc1 ms1 mc2 ms2 : Nat} {q' : QM} {b ci N : Nat} {fs : List Value} {T : u_T} {Cn : String} {x0 : MethodName} {v1 v2 v3 v4 : Value} {P : HP → Prop} (cw : CWU own idx Cn x0 q' 4) (hown : q.1.cls = own) (hd : decode q.2.1 pc = .ok (.invokevirtual idx, 3)) (hc : h[b]? = some (.inr (ci, fs))) (hcl : vwCl[ci]? = some (Cn, T, N)) (hs : (st.map fun v => v.category).sum ≤ 8) (hC : Con d q' mc1 ms1 (.ref b :: [v1, v2, v3, v4]) h (PV P)) (hm : mc1 + mc = mc2) (hm2 : ms1 + ms = ms2) (kk : ∀ h1 : HP, P h1 → Sem (d + 1) q mc ms (pc + 3) L st h1 Qp) : Sem (d + 1) q mc2 ms2 pc L (v4 :: v3 :: v2 :: v1 :: .ref b :: st) h Qp := by
  subst hm hm2
  exact s_callU (mc := mc) (ms := ms) (L := L) (Qp := Qp) cw hown hd hc hcl rfl hs rfl hC (fun r1 h1 hq => by
    obtain ⟨rfl, hp⟩ := hq
    exact kk h1 hp)
theorem s_P4v {own : String} {idx : Nat} {q' : QM} {b ci N : Nat} {fs : List Value} {T : u_T} {Cn : String} {v1 v2 v3 v4 : Value} {P : HP → Prop} (cw : CWP own idx q' 4) (hown : q.1.cls = own) (hd : decode q.2.1 pc = .ok (.invokespecial idx, 3)) (hc : h[b]? = some (.inr (ci, fs))) (hcl : vwCl[ci]? = some (Cn, T, N)) (hs : (st.map fun v => v.category).sum ≤ 8) (hC : Con d q' 0 0 (.ref b :: [v1, v2, v3, v4]) h (PV P)) (kk : ∀ h1 : HP, P h1 → Sem (d + 1) q mc ms (pc + 3) L st h1 Qp) : Sem (d + 1) q mc ms pc L (v4 :: v3 :: v2 :: v1 :: .ref b :: st) h Qp := by
  have k9 := s_callP (mc := mc) (ms := ms) (L := L) (Qp := Qp) cw hown hd hc hcl rfl hs rfl hC (fun r1 h1 hq => by
    obtain ⟨rfl, hp⟩ := hq
    exact kk h1 hp)
  rwa [Nat.zero_add, Nat.zero_add] at k9
theorem s_P4vm {own : String} {idx mc1 ms1 mc2 ms2 : Nat} {q' : QM} {b ci N : Nat} {fs : List Value} {T : u_T} {Cn : String} {v1 v2 v3 v4 : Value} {P : HP → Prop} (cw : CWP own idx q' 4) (hown : q.1.cls = own) (hd : decode q.2.1 pc = .ok (.invokespecial idx, 3)) (hc : h[b]? = some (.inr (ci, fs))) (hcl : vwCl[ci]? = some (Cn, T, N)) (hs : (st.map fun v => v.category).sum ≤ 8) (hC : Con d q' mc1 ms1 (.ref b :: [v1, v2, v3, v4]) h (PV P)) (hm : mc1 + mc = mc2) (hm2 : ms1 + ms = ms2) (kk : ∀ h1 : HP, P h1 → Sem (d + 1) q mc ms (pc + 3) L st h1 Qp) : Sem (d + 1) q mc2 ms2 pc L (v4 :: v3 :: v2 :: v1 :: .ref b :: st) h Qp := by
  subst hm hm2
  exact s_callP (mc := mc) (ms := ms) (L := L) (Qp := Qp) cw hown hd hc hcl rfl hs rfl hC (fun r1 h1 hq => by
    obtain ⟨rfl, hp⟩ := hq
    exact kk h1 hp)
theorem s_S4v {own : String} {idx : Nat} {q' : QM} {v1 v2 v3 v4 : Value} {P : HP → Prop} (cw : CWS own idx q' 4) (hown : q.1.cls = own) (hd : decode q.2.1 pc = .ok (.invokestatic idx, 3)) (hs : (st.map fun v => v.category).sum ≤ 8) (hC : Con d q' 0 0 [v1, v2, v3, v4] h (PV P)) (kk : ∀ h1 : HP, P h1 → Sem (d + 1) q mc ms (pc + 3) L st h1 Qp) : Sem (d + 1) q mc ms pc L (v4 :: v3 :: v2 :: v1 :: st) h Qp := by
  have k9 := s_callS (mc := mc) (ms := ms) (L := L) (Qp := Qp) cw hown hd rfl hs rfl hC (fun r1 h1 hq => by
    obtain ⟨rfl, hp⟩ := hq
    exact kk h1 hp)
  rwa [Nat.zero_add, Nat.zero_add] at k9
theorem s_S4vm {own : String} {idx mc1 ms1 mc2 ms2 : Nat} {q' : QM} {v1 v2 v3 v4 : Value} {P : HP → Prop} (cw : CWS own idx q' 4) (hown : q.1.cls = own) (hd : decode q.2.1 pc = .ok (.invokestatic idx, 3)) (hs : (st.map fun v => v.category).sum ≤ 8) (hC : Con d q' mc1 ms1 [v1, v2, v3, v4] h (PV P)) (hm : mc1 + mc = mc2) (hm2 : ms1 + ms = ms2) (kk : ∀ h1 : HP, P h1 → Sem (d + 1) q mc ms (pc + 3) L st h1 Qp) : Sem (d + 1) q mc2 ms2 pc L (v4 :: v3 :: v2 :: v1 :: st) h Qp := by
  subst hm hm2
  exact s_callS (mc := mc) (ms := ms) (L := L) (Qp := Qp) cw hown hd rfl hs rfl hC (fun r1 h1 hq => by
    obtain ⟨rfl, hp⟩ := hq
    exact kk h1 hp)
theorem s_I4v {own : String} {idx : Nat} {q' : QM} {b : Nat} {v1 v2 v3 v4 : Value} {P : HP → Prop} (cw : CWI own idx q' 4) (hown : q.1.cls = own) (hd : decode q.2.1 pc = .ok (.invokespecial idx, 3)) (hs : (st.map fun v => v.category).sum ≤ 8) (hC : Con d q' 0 0 (.ref b :: [v1, v2, v3, v4]) h (PV P)) (kk : ∀ h1 : HP, P h1 → Sem (d + 1) q mc ms (pc + 3) L st h1 Qp) : Sem (d + 1) q mc ms pc L (v4 :: v3 :: v2 :: v1 :: .ref b :: st) h Qp := by
  have k9 := s_callI (mc := mc) (ms := ms) (L := L) (Qp := Qp) cw hown hd rfl hs rfl hC (fun r1 h1 hq => by
    obtain ⟨rfl, hp⟩ := hq
    exact kk h1 hp)
  rwa [Nat.zero_add, Nat.zero_add] at k9
theorem s_I4vm {own : String} {idx mc1 ms1 mc2 ms2 : Nat} {q' : QM} {b : Nat} {v1 v2 v3 v4 : Value} {P : HP → Prop} (cw : CWI own idx q' 4) (hown : q.1.cls = own) (hd : decode q.2.1 pc = .ok (.invokespecial idx, 3)) (hs : (st.map fun v => v.category).sum ≤ 8) (hC : Con d q' mc1 ms1 (.ref b :: [v1, v2, v3, v4]) h (PV P)) (hm : mc1 + mc = mc2) (hm2 : ms1 + ms = ms2) (kk : ∀ h1 : HP, P h1 → Sem (d + 1) q mc ms (pc + 3) L st h1 Qp) : Sem (d + 1) q mc2 ms2 pc L (v4 :: v3 :: v2 :: v1 :: .ref b :: st) h Qp := by
  subst hm hm2
  exact s_callI (mc := mc) (ms := ms) (L := L) (Qp := Qp) cw hown hd rfl hs rfl hC (fun r1 h1 hq => by
    obtain ⟨rfl, hp⟩ := hq
    exact kk h1 hp)
theorem s_V5i {own : String} {idx : Nat} {q' : QM} {b ci N : Nat} {fs : List Value} {T : u_T} {v1 v2 v3 v4 v5 : Value} {P : Int32 → HP → Prop} (cw : CWV own idx q' 5) (hown : q.1.cls = own) (hd : decode q.2.1 pc = .ok (.invokevirtual idx, 3)) (hc : h[b]? = some (.inr (ci, fs))) (hcl : vwCl[ci]? = some (q'.1.cls, T, N)) (hs : (st.map fun v => v.category).sum ≤ 8) (hC : Con d q' 0 0 (.ref b :: [v1, v2, v3, v4, v5]) h (PI P)) (kk : ∀ (x : Int32) (h1 : HP), P x h1 → Sem (d + 1) q mc ms (pc + 3) L (.int x :: st) h1 Qp) : Sem (d + 1) q mc ms pc L (v5 :: v4 :: v3 :: v2 :: v1 :: .ref b :: st) h Qp := by
  have k9 := s_callV (mc := mc) (ms := ms) (L := L) (Qp := Qp) cw hown hd hc hcl rfl hs rfl hC (fun r1 h1 hq => by
    obtain ⟨x, rfl, hp⟩ := hq
    exact kk x h1 hp)
  rwa [Nat.zero_add, Nat.zero_add] at k9
theorem s_V5im {own : String} {idx mc1 ms1 mc2 ms2 : Nat} {q' : QM} {b ci N : Nat} {fs : List Value} {T : u_T} {v1 v2 v3 v4 v5 : Value} {P : Int32 → HP → Prop} (cw : CWV own idx q' 5) (hown : q.1.cls = own) (hd : decode q.2.1 pc = .ok (.invokevirtual idx, 3)) (hc : h[b]? = some (.inr (ci, fs))) (hcl : vwCl[ci]? = some (q'.1.cls, T, N)) (hs : (st.map fun v => v.category).sum ≤ 8) (hC : Con d q' mc1 ms1 (.ref b :: [v1, v2, v3, v4, v5]) h (PI P)) (hm : mc1 + mc = mc2) (hm2 : ms1 + ms = ms2) (kk : ∀ (x : Int32) (h1 : HP), P x h1 → Sem (d + 1) q mc ms (pc + 3) L (.int x :: st) h1 Qp) : Sem (d + 1) q mc2 ms2 pc L (v5 :: v4 :: v3 :: v2 :: v1 :: .ref b :: st) h Qp := by
  subst hm hm2
  exact s_callV (mc := mc) (ms := ms) (L := L) (Qp := Qp) cw hown hd hc hcl rfl hs rfl hC (fun r1 h1 hq => by
    obtain ⟨x, rfl, hp⟩ := hq
    exact kk x h1 hp)
theorem s_U5i {own : String} {idx : Nat} {q' : QM} {b ci N : Nat} {fs : List Value} {T : u_T} {Cn : String} {x0 : MethodName} {v1 v2 v3 v4 v5 : Value} {P : Int32 → HP → Prop} (cw : CWU own idx Cn x0 q' 5) (hown : q.1.cls = own) (hd : decode q.2.1 pc = .ok (.invokevirtual idx, 3)) (hc : h[b]? = some (.inr (ci, fs))) (hcl : vwCl[ci]? = some (Cn, T, N)) (hs : (st.map fun v => v.category).sum ≤ 8) (hC : Con d q' 0 0 (.ref b :: [v1, v2, v3, v4, v5]) h (PI P)) (kk : ∀ (x : Int32) (h1 : HP), P x h1 → Sem (d + 1) q mc ms (pc + 3) L (.int x :: st) h1 Qp) : Sem (d + 1) q mc ms pc L (v5 :: v4 :: v3 :: v2 :: v1 :: .ref b :: st) h Qp := by
  have k9 := s_callU (mc := mc) (ms := ms) (L := L) (Qp := Qp) cw hown hd hc hcl rfl hs rfl hC (fun r1 h1 hq => by
    obtain ⟨x, rfl, hp⟩ := hq
    exact kk x h1 hp)
  rwa [Nat.zero_add, Nat.zero_add] at k9
theorem s_U5im {own : String} {idx mc1 ms1 mc2 ms2 : Nat} {q' : QM} {b ci N : Nat} {fs : List Value} {T : u_T} {Cn : String} {x0 : MethodName} {v1 v2 v3 v4 v5 : Value} {P : Int32 → HP → Prop} (cw : CWU own idx Cn x0 q' 5) (hown : q.1.cls = own) (hd : decode q.2.1 pc = .ok (.invokevirtual idx, 3)) (hc : h[b]? = some (.inr (ci, fs))) (hcl : vwCl[ci]? = some (Cn, T, N)) (hs : (st.map fun v => v.category).sum ≤ 8) (hC : Con d q' mc1 ms1 (.ref b :: [v1, v2, v3, v4, v5]) h (PI P)) (hm : mc1 + mc = mc2) (hm2 : ms1 + ms = ms2) (kk : ∀ (x : Int32) (h1 : HP), P x h1 → Sem (d + 1) q mc ms (pc + 3) L (.int x :: st) h1 Qp) : Sem (d + 1) q mc2 ms2 pc L (v5 :: v4 :: v3 :: v2 :: v1 :: .ref b :: st) h Qp := by
  subst hm hm2
  exact s_callU (mc := mc) (ms := ms) (L := L) (Qp := Qp) cw hown hd hc hcl rfl hs rfl hC (fun r1 h1 hq => by
    obtain ⟨x, rfl, hp⟩ := hq
    exact kk x h1 hp)
theorem s_P5i {own : String} {idx : Nat} {q' : QM} {b ci N : Nat} {fs : List Value} {T : u_T} {Cn : String} {v1 v2 v3 v4 v5 : Value} {P : Int32 → HP → Prop} (cw : CWP own idx q' 5) (hown : q.1.cls = own) (hd : decode q.2.1 pc = .ok (.invokespecial idx, 3)) (hc : h[b]? = some (.inr (ci, fs))) (hcl : vwCl[ci]? = some (Cn, T, N)) (hs : (st.map fun v => v.category).sum ≤ 8) (hC : Con d q' 0 0 (.ref b :: [v1, v2, v3, v4, v5]) h (PI P)) (kk : ∀ (x : Int32) (h1 : HP), P x h1 → Sem (d + 1) q mc ms (pc + 3) L (.int x :: st) h1 Qp) : Sem (d + 1) q mc ms pc L (v5 :: v4 :: v3 :: v2 :: v1 :: .ref b :: st) h Qp := by
  have k9 := s_callP (mc := mc) (ms := ms) (L := L) (Qp := Qp) cw hown hd hc hcl rfl hs rfl hC (fun r1 h1 hq => by
    obtain ⟨x, rfl, hp⟩ := hq
    exact kk x h1 hp)
  rwa [Nat.zero_add, Nat.zero_add] at k9
theorem s_P5im {own : String} {idx mc1 ms1 mc2 ms2 : Nat} {q' : QM} {b ci N : Nat} {fs : List Value} {T : u_T} {Cn : String} {v1 v2 v3 v4 v5 : Value} {P : Int32 → HP → Prop} (cw : CWP own idx q' 5) (hown : q.1.cls = own) (hd : decode q.2.1 pc = .ok (.invokespecial idx, 3)) (hc : h[b]? = some (.inr (ci, fs))) (hcl : vwCl[ci]? = some (Cn, T, N)) (hs : (st.map fun v => v.category).sum ≤ 8) (hC : Con d q' mc1 ms1 (.ref b :: [v1, v2, v3, v4, v5]) h (PI P)) (hm : mc1 + mc = mc2) (hm2 : ms1 + ms = ms2) (kk : ∀ (x : Int32) (h1 : HP), P x h1 → Sem (d + 1) q mc ms (pc + 3) L (.int x :: st) h1 Qp) : Sem (d + 1) q mc2 ms2 pc L (v5 :: v4 :: v3 :: v2 :: v1 :: .ref b :: st) h Qp := by
  subst hm hm2
  exact s_callP (mc := mc) (ms := ms) (L := L) (Qp := Qp) cw hown hd hc hcl rfl hs rfl hC (fun r1 h1 hq => by
    obtain ⟨x, rfl, hp⟩ := hq
    exact kk x h1 hp)
theorem s_S5i {own : String} {idx : Nat} {q' : QM} {v1 v2 v3 v4 v5 : Value} {P : Int32 → HP → Prop} (cw : CWS own idx q' 5) (hown : q.1.cls = own) (hd : decode q.2.1 pc = .ok (.invokestatic idx, 3)) (hs : (st.map fun v => v.category).sum ≤ 8) (hC : Con d q' 0 0 [v1, v2, v3, v4, v5] h (PI P)) (kk : ∀ (x : Int32) (h1 : HP), P x h1 → Sem (d + 1) q mc ms (pc + 3) L (.int x :: st) h1 Qp) : Sem (d + 1) q mc ms pc L (v5 :: v4 :: v3 :: v2 :: v1 :: st) h Qp := by
  have k9 := s_callS (mc := mc) (ms := ms) (L := L) (Qp := Qp) cw hown hd rfl hs rfl hC (fun r1 h1 hq => by
    obtain ⟨x, rfl, hp⟩ := hq
    exact kk x h1 hp)
  rwa [Nat.zero_add, Nat.zero_add] at k9
theorem s_S5im {own : String} {idx mc1 ms1 mc2 ms2 : Nat} {q' : QM} {v1 v2 v3 v4 v5 : Value} {P : Int32 → HP → Prop} (cw : CWS own idx q' 5) (hown : q.1.cls = own) (hd : decode q.2.1 pc = .ok (.invokestatic idx, 3)) (hs : (st.map fun v => v.category).sum ≤ 8) (hC : Con d q' mc1 ms1 [v1, v2, v3, v4, v5] h (PI P)) (hm : mc1 + mc = mc2) (hm2 : ms1 + ms = ms2) (kk : ∀ (x : Int32) (h1 : HP), P x h1 → Sem (d + 1) q mc ms (pc + 3) L (.int x :: st) h1 Qp) : Sem (d + 1) q mc2 ms2 pc L (v5 :: v4 :: v3 :: v2 :: v1 :: st) h Qp := by
  subst hm hm2
  exact s_callS (mc := mc) (ms := ms) (L := L) (Qp := Qp) cw hown hd rfl hs rfl hC (fun r1 h1 hq => by
    obtain ⟨x, rfl, hp⟩ := hq
    exact kk x h1 hp)
theorem s_V5l {own : String} {idx : Nat} {q' : QM} {b ci N : Nat} {fs : List Value} {T : u_T} {v1 v2 v3 v4 v5 : Value} {P : Int64 → HP → Prop} (cw : CWV own idx q' 5) (hown : q.1.cls = own) (hd : decode q.2.1 pc = .ok (.invokevirtual idx, 3)) (hc : h[b]? = some (.inr (ci, fs))) (hcl : vwCl[ci]? = some (q'.1.cls, T, N)) (hs : (st.map fun v => v.category).sum ≤ 8) (hC : Con d q' 0 0 (.ref b :: [v1, v2, v3, v4, v5]) h (PL P)) (kk : ∀ (x : Int64) (h1 : HP), P x h1 → Sem (d + 1) q mc ms (pc + 3) L (.long x :: st) h1 Qp) : Sem (d + 1) q mc ms pc L (v5 :: v4 :: v3 :: v2 :: v1 :: .ref b :: st) h Qp := by
  have k9 := s_callV (mc := mc) (ms := ms) (L := L) (Qp := Qp) cw hown hd hc hcl rfl hs rfl hC (fun r1 h1 hq => by
    obtain ⟨x, rfl, hp⟩ := hq
    exact kk x h1 hp)
  rwa [Nat.zero_add, Nat.zero_add] at k9
theorem s_V5lm {own : String} {idx mc1 ms1 mc2 ms2 : Nat} {q' : QM} {b ci N : Nat} {fs : List Value} {T : u_T} {v1 v2 v3 v4 v5 : Value} {P : Int64 → HP → Prop} (cw : CWV own idx q' 5) (hown : q.1.cls = own) (hd : decode q.2.1 pc = .ok (.invokevirtual idx, 3)) (hc : h[b]? = some (.inr (ci, fs))) (hcl : vwCl[ci]? = some (q'.1.cls, T, N)) (hs : (st.map fun v => v.category).sum ≤ 8) (hC : Con d q' mc1 ms1 (.ref b :: [v1, v2, v3, v4, v5]) h (PL P)) (hm : mc1 + mc = mc2) (hm2 : ms1 + ms = ms2) (kk : ∀ (x : Int64) (h1 : HP), P x h1 → Sem (d + 1) q mc ms (pc + 3) L (.long x :: st) h1 Qp) : Sem (d + 1) q mc2 ms2 pc L (v5 :: v4 :: v3 :: v2 :: v1 :: .ref b :: st) h Qp := by
  subst hm hm2
  exact s_callV (mc := mc) (ms := ms) (L := L) (Qp := Qp) cw hown hd hc hcl rfl hs rfl hC (fun r1 h1 hq => by
    obtain ⟨x, rfl, hp⟩ := hq
    exact kk x h1 hp)
theorem s_U5l {own : String} {idx : Nat} {q' : QM} {b ci N : Nat} {fs : List Value} {T : u_T} {Cn : String} {x0 : MethodName} {v1 v2 v3 v4 v5 : Value} {P : Int64 → HP → Prop} (cw : CWU own idx Cn x0 q' 5) (hown : q.1.cls = own) (hd : decode q.2.1 pc = .ok (.invokevirtual idx, 3)) (hc : h[b]? = some (.inr (ci, fs))) (hcl : vwCl[ci]? = some (Cn, T, N)) (hs : (st.map fun v => v.category).sum ≤ 8) (hC : Con d q' 0 0 (.ref b :: [v1, v2, v3, v4, v5]) h (PL P)) (kk : ∀ (x : Int64) (h1 : HP), P x h1 → Sem (d + 1) q mc ms (pc + 3) L (.long x :: st) h1 Qp) : Sem (d + 1) q mc ms pc L (v5 :: v4 :: v3 :: v2 :: v1 :: .ref b :: st) h Qp := by
  have k9 := s_callU (mc := mc) (ms := ms) (L := L) (Qp := Qp) cw hown hd hc hcl rfl hs rfl hC (fun r1 h1 hq => by
    obtain ⟨x, rfl, hp⟩ := hq
    exact kk x h1 hp)
  rwa [Nat.zero_add, Nat.zero_add] at k9
theorem s_U5lm {own : String} {idx mc1 ms1 mc2 ms2 : Nat} {q' : QM} {b ci N : Nat} {fs : List Value} {T : u_T} {Cn : String} {x0 : MethodName} {v1 v2 v3 v4 v5 : Value} {P : Int64 → HP → Prop} (cw : CWU own idx Cn x0 q' 5) (hown : q.1.cls = own) (hd : decode q.2.1 pc = .ok (.invokevirtual idx, 3)) (hc : h[b]? = some (.inr (ci, fs))) (hcl : vwCl[ci]? = some (Cn, T, N)) (hs : (st.map fun v => v.category).sum ≤ 8) (hC : Con d q' mc1 ms1 (.ref b :: [v1, v2, v3, v4, v5]) h (PL P)) (hm : mc1 + mc = mc2) (hm2 : ms1 + ms = ms2) (kk : ∀ (x : Int64) (h1 : HP), P x h1 → Sem (d + 1) q mc ms (pc + 3) L (.long x :: st) h1 Qp) : Sem (d + 1) q mc2 ms2 pc L (v5 :: v4 :: v3 :: v2 :: v1 :: .ref b :: st) h Qp := by
  subst hm hm2
  exact s_callU (mc := mc) (ms := ms) (L := L) (Qp := Qp) cw hown hd hc hcl rfl hs rfl hC (fun r1 h1 hq => by
    obtain ⟨x, rfl, hp⟩ := hq
    exact kk x h1 hp)
theorem s_P5l {own : String} {idx : Nat} {q' : QM} {b ci N : Nat} {fs : List Value} {T : u_T} {Cn : String} {v1 v2 v3 v4 v5 : Value} {P : Int64 → HP → Prop} (cw : CWP own idx q' 5) (hown : q.1.cls = own) (hd : decode q.2.1 pc = .ok (.invokespecial idx, 3)) (hc : h[b]? = some (.inr (ci, fs))) (hcl : vwCl[ci]? = some (Cn, T, N)) (hs : (st.map fun v => v.category).sum ≤ 8) (hC : Con d q' 0 0 (.ref b :: [v1, v2, v3, v4, v5]) h (PL P)) (kk : ∀ (x : Int64) (h1 : HP), P x h1 → Sem (d + 1) q mc ms (pc + 3) L (.long x :: st) h1 Qp) : Sem (d + 1) q mc ms pc L (v5 :: v4 :: v3 :: v2 :: v1 :: .ref b :: st) h Qp := by
  have k9 := s_callP (mc := mc) (ms := ms) (L := L) (Qp := Qp) cw hown hd hc hcl rfl hs rfl hC (fun r1 h1 hq => by
    obtain ⟨x, rfl, hp⟩ := hq
    exact kk x h1 hp)
  rwa [Nat.zero_add, Nat.zero_add] at k9
theorem s_P5lm {own : String} {idx mc1 ms1 mc2 ms2 : Nat} {q' : QM} {b ci N : Nat} {fs : List Value} {T : u_T} {Cn : String} {v1 v2 v3 v4 v5 : Value} {P : Int64 → HP → Prop} (cw : CWP own idx q' 5) (hown : q.1.cls = own) (hd : decode q.2.1 pc = .ok (.invokespecial idx, 3)) (hc : h[b]? = some (.inr (ci, fs))) (hcl : vwCl[ci]? = some (Cn, T, N)) (hs : (st.map fun v => v.category).sum ≤ 8) (hC : Con d q' mc1 ms1 (.ref b :: [v1, v2, v3, v4, v5]) h (PL P)) (hm : mc1 + mc = mc2) (hm2 : ms1 + ms = ms2) (kk : ∀ (x : Int64) (h1 : HP), P x h1 → Sem (d + 1) q mc ms (pc + 3) L (.long x :: st) h1 Qp) : Sem (d + 1) q mc2 ms2 pc L (v5 :: v4 :: v3 :: v2 :: v1 :: .ref b :: st) h Qp := by
  subst hm hm2
  exact s_callP (mc := mc) (ms := ms) (L := L) (Qp := Qp) cw hown hd hc hcl rfl hs rfl hC (fun r1 h1 hq => by
    obtain ⟨x, rfl, hp⟩ := hq
    exact kk x h1 hp)
theorem s_S5l {own : String} {idx : Nat} {q' : QM} {v1 v2 v3 v4 v5 : Value} {P : Int64 → HP → Prop} (cw : CWS own idx q' 5) (hown : q.1.cls = own) (hd : decode q.2.1 pc = .ok (.invokestatic idx, 3)) (hs : (st.map fun v => v.category).sum ≤ 8) (hC : Con d q' 0 0 [v1, v2, v3, v4, v5] h (PL P)) (kk : ∀ (x : Int64) (h1 : HP), P x h1 → Sem (d + 1) q mc ms (pc + 3) L (.long x :: st) h1 Qp) : Sem (d + 1) q mc ms pc L (v5 :: v4 :: v3 :: v2 :: v1 :: st) h Qp := by
  have k9 := s_callS (mc := mc) (ms := ms) (L := L) (Qp := Qp) cw hown hd rfl hs rfl hC (fun r1 h1 hq => by
    obtain ⟨x, rfl, hp⟩ := hq
    exact kk x h1 hp)
  rwa [Nat.zero_add, Nat.zero_add] at k9
theorem s_S5lm {own : String} {idx mc1 ms1 mc2 ms2 : Nat} {q' : QM} {v1 v2 v3 v4 v5 : Value} {P : Int64 → HP → Prop} (cw : CWS own idx q' 5) (hown : q.1.cls = own) (hd : decode q.2.1 pc = .ok (.invokestatic idx, 3)) (hs : (st.map fun v => v.category).sum ≤ 8) (hC : Con d q' mc1 ms1 [v1, v2, v3, v4, v5] h (PL P)) (hm : mc1 + mc = mc2) (hm2 : ms1 + ms = ms2) (kk : ∀ (x : Int64) (h1 : HP), P x h1 → Sem (d + 1) q mc ms (pc + 3) L (.long x :: st) h1 Qp) : Sem (d + 1) q mc2 ms2 pc L (v5 :: v4 :: v3 :: v2 :: v1 :: st) h Qp := by
  subst hm hm2
  exact s_callS (mc := mc) (ms := ms) (L := L) (Qp := Qp) cw hown hd rfl hs rfl hC (fun r1 h1 hq => by
    obtain ⟨x, rfl, hp⟩ := hq
    exact kk x h1 hp)
theorem s_V5r {own : String} {idx : Nat} {q' : QM} {b ci N : Nat} {fs : List Value} {T : u_T} {v1 v2 v3 v4 v5 : Value} {P : Value → HP → Prop} (cw : CWV own idx q' 5) (hown : q.1.cls = own) (hd : decode q.2.1 pc = .ok (.invokevirtual idx, 3)) (hc : h[b]? = some (.inr (ci, fs))) (hcl : vwCl[ci]? = some (q'.1.cls, T, N)) (hs : (st.map fun v => v.category).sum ≤ 8) (hC : Con d q' 0 0 (.ref b :: [v1, v2, v3, v4, v5]) h (PR P)) (kk : ∀ (x : Value) (h1 : HP), P x h1 → Sem (d + 1) q mc ms (pc + 3) L (x :: st) h1 Qp) : Sem (d + 1) q mc ms pc L (v5 :: v4 :: v3 :: v2 :: v1 :: .ref b :: st) h Qp := by
  have k9 := s_callV (mc := mc) (ms := ms) (L := L) (Qp := Qp) cw hown hd hc hcl rfl hs rfl hC (fun r1 h1 hq => by
    obtain ⟨x, rfl, hp⟩ := hq
    exact kk x h1 hp)
  rwa [Nat.zero_add, Nat.zero_add] at k9
theorem s_V5rm {own : String} {idx mc1 ms1 mc2 ms2 : Nat} {q' : QM} {b ci N : Nat} {fs : List Value} {T : u_T} {v1 v2 v3 v4 v5 : Value} {P : Value → HP → Prop} (cw : CWV own idx q' 5) (hown : q.1.cls = own) (hd : decode q.2.1 pc = .ok (.invokevirtual idx, 3)) (hc : h[b]? = some (.inr (ci, fs))) (hcl : vwCl[ci]? = some (q'.1.cls, T, N)) (hs : (st.map fun v => v.category).sum ≤ 8) (hC : Con d q' mc1 ms1 (.ref b :: [v1, v2, v3, v4, v5]) h (PR P)) (hm : mc1 + mc = mc2) (hm2 : ms1 + ms = ms2) (kk : ∀ (x : Value) (h1 : HP), P x h1 → Sem (d + 1) q mc ms (pc + 3) L (x :: st) h1 Qp) : Sem (d + 1) q mc2 ms2 pc L (v5 :: v4 :: v3 :: v2 :: v1 :: .ref b :: st) h Qp := by
  subst hm hm2
  exact s_callV (mc := mc) (ms := ms) (L := L) (Qp := Qp) cw hown hd hc hcl rfl hs rfl hC (fun r1 h1 hq => by
    obtain ⟨x, rfl, hp⟩ := hq
    exact kk x h1 hp)
theorem s_U5r {own : String} {idx : Nat} {q' : QM} {b ci N : Nat} {fs : List Value} {T : u_T} {Cn : String} {x0 : MethodName} {v1 v2 v3 v4 v5 : Value} {P : Value → HP → Prop} (cw : CWU own idx Cn x0 q' 5) (hown : q.1.cls = own) (hd : decode q.2.1 pc = .ok (.invokevirtual idx, 3)) (hc : h[b]? = some (.inr (ci, fs))) (hcl : vwCl[ci]? = some (Cn, T, N)) (hs : (st.map fun v => v.category).sum ≤ 8) (hC : Con d q' 0 0 (.ref b :: [v1, v2, v3, v4, v5]) h (PR P)) (kk : ∀ (x : Value) (h1 : HP), P x h1 → Sem (d + 1) q mc ms (pc + 3) L (x :: st) h1 Qp) : Sem (d + 1) q mc ms pc L (v5 :: v4 :: v3 :: v2 :: v1 :: .ref b :: st) h Qp := by
  have k9 := s_callU (mc := mc) (ms := ms) (L := L) (Qp := Qp) cw hown hd hc hcl rfl hs rfl hC (fun r1 h1 hq => by
    obtain ⟨x, rfl, hp⟩ := hq
    exact kk x h1 hp)
  rwa [Nat.zero_add, Nat.zero_add] at k9
theorem s_U5rm {own : String} {idx mc1 ms1 mc2 ms2 : Nat} {q' : QM} {b ci N : Nat} {fs : List Value} {T : u_T} {Cn : String} {x0 : MethodName} {v1 v2 v3 v4 v5 : Value} {P : Value → HP → Prop} (cw : CWU own idx Cn x0 q' 5) (hown : q.1.cls = own) (hd : decode q.2.1 pc = .ok (.invokevirtual idx, 3)) (hc : h[b]? = some (.inr (ci, fs))) (hcl : vwCl[ci]? = some (Cn, T, N)) (hs : (st.map fun v => v.category).sum ≤ 8) (hC : Con d q' mc1 ms1 (.ref b :: [v1, v2, v3, v4, v5]) h (PR P)) (hm : mc1 + mc = mc2) (hm2 : ms1 + ms = ms2) (kk : ∀ (x : Value) (h1 : HP), P x h1 → Sem (d + 1) q mc ms (pc + 3) L (x :: st) h1 Qp) : Sem (d + 1) q mc2 ms2 pc L (v5 :: v4 :: v3 :: v2 :: v1 :: .ref b :: st) h Qp := by
  subst hm hm2
  exact s_callU (mc := mc) (ms := ms) (L := L) (Qp := Qp) cw hown hd hc hcl rfl hs rfl hC (fun r1 h1 hq => by
    obtain ⟨x, rfl, hp⟩ := hq
    exact kk x h1 hp)
theorem s_P5r {own : String} {idx : Nat} {q' : QM} {b ci N : Nat} {fs : List Value} {T : u_T} {Cn : String} {v1 v2 v3 v4 v5 : Value} {P : Value → HP → Prop} (cw : CWP own idx q' 5) (hown : q.1.cls = own) (hd : decode q.2.1 pc = .ok (.invokespecial idx, 3)) (hc : h[b]? = some (.inr (ci, fs))) (hcl : vwCl[ci]? = some (Cn, T, N)) (hs : (st.map fun v => v.category).sum ≤ 8) (hC : Con d q' 0 0 (.ref b :: [v1, v2, v3, v4, v5]) h (PR P)) (kk : ∀ (x : Value) (h1 : HP), P x h1 → Sem (d + 1) q mc ms (pc + 3) L (x :: st) h1 Qp) : Sem (d + 1) q mc ms pc L (v5 :: v4 :: v3 :: v2 :: v1 :: .ref b :: st) h Qp := by
  have k9 := s_callP (mc := mc) (ms := ms) (L := L) (Qp := Qp) cw hown hd hc hcl rfl hs rfl hC (fun r1 h1 hq => by
    obtain ⟨x, rfl, hp⟩ := hq
    exact kk x h1 hp)
  rwa [Nat.zero_add, Nat.zero_add] at k9
theorem s_P5rm {own : String} {idx mc1 ms1 mc2 ms2 : Nat} {q' : QM} {b ci N : Nat} {fs : List Value} {T : u_T} {Cn : String} {v1 v2 v3 v4 v5 : Value} {P : Value → HP → Prop} (cw : CWP own idx q' 5) (hown : q.1.cls = own) (hd : decode q.2.1 pc = .ok (.invokespecial idx, 3)) (hc : h[b]? = some (.inr (ci, fs))) (hcl : vwCl[ci]? = some (Cn, T, N)) (hs : (st.map fun v => v.category).sum ≤ 8) (hC : Con d q' mc1 ms1 (.ref b :: [v1, v2, v3, v4, v5]) h (PR P)) (hm : mc1 + mc = mc2) (hm2 : ms1 + ms = ms2) (kk : ∀ (x : Value) (h1 : HP), P x h1 → Sem (d + 1) q mc ms (pc + 3) L (x :: st) h1 Qp) : Sem (d + 1) q mc2 ms2 pc L (v5 :: v4 :: v3 :: v2 :: v1 :: .ref b :: st) h Qp := by
  subst hm hm2
  exact s_callP (mc := mc) (ms := ms) (L := L) (Qp := Qp) cw hown hd hc hcl rfl hs rfl hC (fun r1 h1 hq => by
    obtain ⟨x, rfl, hp⟩ := hq
    exact kk x h1 hp)
theorem s_S5r {own : String} {idx : Nat} {q' : QM} {v1 v2 v3 v4 v5 : Value} {P : Value → HP → Prop} (cw : CWS own idx q' 5) (hown : q.1.cls = own) (hd : decode q.2.1 pc = .ok (.invokestatic idx, 3)) (hs : (st.map fun v => v.category).sum ≤ 8) (hC : Con d q' 0 0 [v1, v2, v3, v4, v5] h (PR P)) (kk : ∀ (x : Value) (h1 : HP), P x h1 → Sem (d + 1) q mc ms (pc + 3) L (x :: st) h1 Qp) : Sem (d + 1) q mc ms pc L (v5 :: v4 :: v3 :: v2 :: v1 :: st) h Qp := by
  have k9 := s_callS (mc := mc) (ms := ms) (L := L) (Qp := Qp) cw hown hd rfl hs rfl hC (fun r1 h1 hq => by
    obtain ⟨x, rfl, hp⟩ := hq
    exact kk x h1 hp)
  rwa [Nat.zero_add, Nat.zero_add] at k9
theorem s_S5rm {own : String} {idx mc1 ms1 mc2 ms2 : Nat} {q' : QM} {v1 v2 v3 v4 v5 : Value} {P : Value → HP → Prop} (cw : CWS own idx q' 5) (hown : q.1.cls = own) (hd : decode q.2.1 pc = .ok (.invokestatic idx, 3)) (hs : (st.map fun v => v.category).sum ≤ 8) (hC : Con d q' mc1 ms1 [v1, v2, v3, v4, v5] h (PR P)) (hm : mc1 + mc = mc2) (hm2 : ms1 + ms = ms2) (kk : ∀ (x : Value) (h1 : HP), P x h1 → Sem (d + 1) q mc ms (pc + 3) L (x :: st) h1 Qp) : Sem (d + 1) q mc2 ms2 pc L (v5 :: v4 :: v3 :: v2 :: v1 :: st) h Qp := by
  subst hm hm2
  exact s_callS (mc := mc) (ms := ms) (L := L) (Qp := Qp) cw hown hd rfl hs rfl hC (fun r1 h1 hq => by
    obtain ⟨x, rfl, hp⟩ := hq
    exact kk x h1 hp)
theorem s_V5v {own : String} {idx : Nat} {q' : QM} {b ci N : Nat} {fs : List Value} {T : u_T} {v1 v2 v3 v4 v5 : Value} {P : HP → Prop} (cw : CWV own idx q' 5) (hown : q.1.cls = own) (hd : decode q.2.1 pc = .ok (.invokevirtual idx, 3)) (hc : h[b]? = some (.inr (ci, fs))) (hcl : vwCl[ci]? = some (q'.1.cls, T, N)) (hs : (st.map fun v => v.category).sum ≤ 8) (hC : Con d q' 0 0 (.ref b :: [v1, v2, v3, v4, v5]) h (PV P)) (kk : ∀ h1 : HP, P h1 → Sem (d + 1) q mc ms (pc + 3) L st h1 Qp) : Sem (d + 1) q mc ms pc L (v5 :: v4 :: v3 :: v2 :: v1 :: .ref b :: st) h Qp := by
  have k9 := s_callV (mc := mc) (ms := ms) (L := L) (Qp := Qp) cw hown hd hc hcl rfl hs rfl hC (fun r1 h1 hq => by
    obtain ⟨rfl, hp⟩ := hq
    exact kk h1 hp)
  rwa [Nat.zero_add, Nat.zero_add] at k9
theorem s_V5vm {own : String} {idx mc1 ms1 mc2 ms2 : Nat} {q' : QM} {b ci N : Nat} {fs : List Value} {T : u_T} {v1 v2 v3 v4 v5 : Value} {P : HP → Prop} (cw : CWV own idx q' 5) (hown : q.1.cls = own) (hd : decode q.2.1 pc = .ok (.invokevirtual idx, 3)) (hc : h[b]? = some (.inr (ci, fs))) (hcl : vwCl[ci]? = some (q'.1.cls, T, N)) (hs : (st.map fun v => v.category).sum ≤ 8) (hC : Con d q' mc1 ms1 (.ref b :: [v1, v2, v3, v4, v5]) h (PV P)) (hm : mc1 + mc = mc2) (hm2 : ms1 + ms = ms2) (kk : ∀ h1 : HP, P h1 → Sem (d + 1) q mc ms (pc + 3) L st h1 Qp) : Sem (d + 1) q mc2 ms2 pc L (v5 :: v4 :: v3 :: v2 :: v1 :: .ref b :: st) h Qp := by
  subst hm hm2
  exact s_callV (mc := mc) (ms := ms) (L := L) (Qp := Qp) cw hown hd hc hcl rfl hs rfl hC (fun r1 h1 hq => by
    obtain ⟨rfl, hp⟩ := hq
    exact kk h1 hp)
theorem s_U5v {own : String} {idx : Nat} {q' : QM} {b ci N : Nat} {fs : List Value} {T : u_T} {Cn : String} {x0 : MethodName} {v1 v2 v3 v4 v5 : Value} {P : HP → Prop} (cw : CWU own idx Cn x0 q' 5) (hown : q.1.cls = own) (hd : decode q.2.1 pc = .ok (.invokevirtual idx, 3)) (hc : h[b]? = some (.inr (ci, fs))) (hcl : vwCl[ci]? = some (Cn, T, N)) (hs : (st.map fun v => v.category).sum ≤ 8) (hC : Con d q' 0 0 (.ref b :: [v1, v2, v3, v4, v5]) h (PV P)) (kk : ∀ h1 : HP, P h1 → Sem (d + 1) q mc ms (pc + 3) L st h1 Qp) : Sem (d + 1) q mc ms pc L (v5 :: v4 :: v3 :: v2 :: v1 :: .ref b :: st) h Qp := by
  have k9 := s_callU (mc := mc) (ms := ms) (L := L) (Qp := Qp) cw hown hd hc hcl rfl hs rfl hC (fun r1 h1 hq => by
    obtain ⟨rfl, hp⟩ := hq
    exact kk h1 hp)
  rwa [Nat.zero_add, Nat.zero_add] at k9
theorem s_U5vm {own : String} {idx mc1 ms1 mc2 ms2 : Nat} {q' : QM} {b ci N : Nat} {fs : List Value} {T : u_T} {Cn : String} {x0 : MethodName} {v1 v2 v3 v4 v5 : Value} {P : HP → Prop} (cw : CWU own idx Cn x0 q' 5) (hown : q.1.cls = own) (hd : decode q.2.1 pc = .ok (.invokevirtual idx, 3)) (hc : h[b]? = some (.inr (ci, fs))) (hcl : vwCl[ci]? = some (Cn, T, N)) (hs : (st.map fun v => v.category).sum ≤ 8) (hC : Con d q' mc1 ms1 (.ref b :: [v1, v2, v3, v4, v5]) h (PV P)) (hm : mc1 + mc = mc2) (hm2 : ms1 + ms = ms2) (kk : ∀ h1 : HP, P h1 → Sem (d + 1) q mc ms (pc + 3) L st h1 Qp) : Sem (d + 1) q mc2 ms2 pc L (v5 :: v4 :: v3 :: v2 :: v1 :: .ref b :: st) h Qp := by
  subst hm hm2
  exact s_callU (mc := mc) (ms := ms) (L := L) (Qp := Qp) cw hown hd hc hcl rfl hs rfl hC (fun r1 h1 hq => by
    obtain ⟨rfl, hp⟩ := hq
    exact kk h1 hp)
theorem s_P5v {own : String} {idx : Nat} {q' : QM} {b ci N : Nat} {fs : List Value} {T : u_T} {Cn : String} {v1 v2 v3 v4 v5 : Value} {P : HP → Prop} (cw : CWP own idx q' 5) (hown : q.1.cls = own) (hd : decode q.2.1 pc = .ok (.invokespecial idx, 3)) (hc : h[b]? = some (.inr (ci, fs))) (hcl : vwCl[ci]? = some (Cn, T, N)) (hs : (st.map fun v => v.category).sum ≤ 8) (hC : Con d q' 0 0 (.ref b :: [v1, v2, v3, v4, v5]) h (PV P)) (kk : ∀ h1 : HP, P h1 → Sem (d + 1) q mc ms (pc + 3) L st h1 Qp) : Sem (d + 1) q mc ms pc L (v5 :: v4 :: v3 :: v2 :: v1 :: .ref b :: st) h Qp := by
  have k9 := s_callP (mc := mc) (ms := ms) (L := L) (Qp := Qp) cw hown hd hc hcl rfl hs rfl hC (fun r1 h1 hq => by
    obtain ⟨rfl, hp⟩ := hq
    exact kk h1 hp)
  rwa [Nat.zero_add, Nat.zero_add] at k9
theorem s_P5vm {own : String} {idx mc1 ms1 mc2 ms2 : Nat} {q' : QM} {b ci N : Nat} {fs : List Value} {T : u_T} {Cn : String} {v1 v2 v3 v4 v5 : Value} {P : HP → Prop} (cw : CWP own idx q' 5) (hown : q.1.cls = own) (hd : decode q.2.1 pc = .ok (.invokespecial idx, 3)) (hc : h[b]? = some (.inr (ci, fs))) (hcl : vwCl[ci]? = some (Cn, T, N)) (hs : (st.map fun v => v.category).sum ≤ 8) (hC : Con d q' mc1 ms1 (.ref b :: [v1, v2, v3, v4, v5]) h (PV P)) (hm : mc1 + mc = mc2) (hm2 : ms1 + ms = ms2) (kk : ∀ h1 : HP, P h1 → Sem (d + 1) q mc ms (pc + 3) L st h1 Qp) : Sem (d + 1) q mc2 ms2 pc L (v5 :: v4 :: v3 :: v2 :: v1 :: .ref b :: st) h Qp := by
  subst hm hm2
  exact s_callP (mc := mc) (ms := ms) (L := L) (Qp := Qp) cw hown hd hc hcl rfl hs rfl hC (fun r1 h1 hq => by
    obtain ⟨rfl, hp⟩ := hq
    exact kk h1 hp)
theorem s_S5v {own : String} {idx : Nat} {q' : QM} {v1 v2 v3 v4 v5 : Value} {P : HP → Prop} (cw : CWS own idx q' 5) (hown : q.1.cls = own) (hd : decode q.2.1 pc = .ok (.invokestatic idx, 3)) (hs : (st.map fun v => v.category).sum ≤ 8) (hC : Con d q' 0 0 [v1, v2, v3, v4, v5] h (PV P)) (kk : ∀ h1 : HP, P h1 → Sem (d + 1) q mc ms (pc + 3) L st h1 Qp) : Sem (d + 1) q mc ms pc L (v5 :: v4 :: v3 :: v2 :: v1 :: st) h Qp := by
  have k9 := s_callS (mc := mc) (ms := ms) (L := L) (Qp := Qp) cw hown hd rfl hs rfl hC (fun r1 h1 hq => by
    obtain ⟨rfl, hp⟩ := hq
    exact kk h1 hp)
  rwa [Nat.zero_add, Nat.zero_add] at k9
theorem s_S5vm {own : String} {idx mc1 ms1 mc2 ms2 : Nat} {q' : QM} {v1 v2 v3 v4 v5 : Value} {P : HP → Prop} (cw : CWS own idx q' 5) (hown : q.1.cls = own) (hd : decode q.2.1 pc = .ok (.invokestatic idx, 3)) (hs : (st.map fun v => v.category).sum ≤ 8) (hC : Con d q' mc1 ms1 [v1, v2, v3, v4, v5] h (PV P)) (hm : mc1 + mc = mc2) (hm2 : ms1 + ms = ms2) (kk : ∀ h1 : HP, P h1 → Sem (d + 1) q mc ms (pc + 3) L st h1 Qp) : Sem (d + 1) q mc2 ms2 pc L (v5 :: v4 :: v3 :: v2 :: v1 :: st) h Qp := by
  subst hm hm2
  exact s_callS (mc := mc) (ms := ms) (L := L) (Qp := Qp) cw hown hd rfl hs rfl hC (fun r1 h1 hq => by
    obtain ⟨rfl, hp⟩ := hq
    exact kk h1 hp)
theorem s_I5v {own : String} {idx : Nat} {q' : QM} {b : Nat} {v1 v2 v3 v4 v5 : Value} {P : HP → Prop} (cw : CWI own idx q' 5) (hown : q.1.cls = own) (hd : decode q.2.1 pc = .ok (.invokespecial idx, 3)) (hs : (st.map fun v => v.category).sum ≤ 8) (hC : Con d q' 0 0 (.ref b :: [v1, v2, v3, v4, v5]) h (PV P)) (kk : ∀ h1 : HP, P h1 → Sem (d + 1) q mc ms (pc + 3) L st h1 Qp) : Sem (d + 1) q mc ms pc L (v5 :: v4 :: v3 :: v2 :: v1 :: .ref b :: st) h Qp := by
  have k9 := s_callI (mc := mc) (ms := ms) (L := L) (Qp := Qp) cw hown hd rfl hs rfl hC (fun r1 h1 hq => by
    obtain ⟨rfl, hp⟩ := hq
    exact kk h1 hp)
  rwa [Nat.zero_add, Nat.zero_add] at k9
theorem s_I5vm {own : String} {idx mc1 ms1 mc2 ms2 : Nat} {q' : QM} {b : Nat} {v1 v2 v3 v4 v5 : Value} {P : HP → Prop} (cw : CWI own idx q' 5) (hown : q.1.cls = own) (hd : decode q.2.1 pc = .ok (.invokespecial idx, 3)) (hs : (st.map fun v => v.category).sum ≤ 8) (hC : Con d q' mc1 ms1 (.ref b :: [v1, v2, v3, v4, v5]) h (PV P)) (hm : mc1 + mc = mc2) (hm2 : ms1 + ms = ms2) (kk : ∀ h1 : HP, P h1 → Sem (d + 1) q mc ms (pc + 3) L st h1 Qp) : Sem (d + 1) q mc2 ms2 pc L (v5 :: v4 :: v3 :: v2 :: v1 :: .ref b :: st) h Qp := by
  subst hm hm2
  exact s_callI (mc := mc) (ms := ms) (L := L) (Qp := Qp) cw hown hd rfl hs rfl hC (fun r1 h1 hq => by
    obtain ⟨rfl, hp⟩ := hq
    exact kk h1 hp)
theorem e_iret {x : Int32} {P : Int32 → HP → Prop} (hd : decode q.2.1 pc = .ok (.ireturn, 1)) (hr : q.2.2.2 = some .int) (e : P x h) : Sem d q mc ms pc L (.int x :: []) h (PI P) := s_iret hd hr ⟨_, rfl, e⟩
theorem e_lret {x : Int64} {P : Int64 → HP → Prop} (hd : decode q.2.1 pc = .ok (.lreturn, 1)) (hr : q.2.2.2 = some .long) (e : P x h) : Sem d q mc ms pc L (.long x :: []) h (PL P) := s_lret hd hr ⟨_, rfl, e⟩
theorem e_zret {x : Int32} {P : Int32 → HP → Prop} {ty : FieldType} (hd : decode q.2.1 pc = .ok (.ireturn, 1)) (hr : q.2.2.2 = some ty) (hz : narrow ty (.int x) = .int x) (e : P x h) : Sem d q mc ms pc L (.int x :: []) h (PI P) := s_zret hd hz hr ⟨_, rfl, e⟩
theorem e_vret {P : HP → Prop} (hd : decode q.2.1 pc = .ok (.return_, 1)) (hr : q.2.2.2 = none) (e : P h) : Sem d q mc ms pc L [] h (PV P) := s_vret hd hr ⟨rfl, e⟩
theorem e_aret {v : Value} {P : Value → HP → Prop} {rt : FieldType} (hd : decode q.2.1 pc = .ok (.areturn, 1)) (hr : q.2.2.2 = some rt) (hrt : (∃ n, rt = .object n) ∨ ∃ t, rt = .array t) (hv : v = .null ∨ (∃ a, v = .ref a) ∨ ∃ a, v = .float a) (e : P v h) : Sem d q mc ms pc L (v :: []) h (PR P) := s_aret hd hr hrt hv ⟨_, rfl, e⟩
theorem s_topi {x : Int32} (k : ∀ y : Int32, y = x → Sem d q mc ms pc L (.int y :: st) h Qp) : Sem d q mc ms pc L (.int x :: st) h Qp := k x rfl
theorem s_topl {x : Int64} (k : ∀ y : Int64, y = x → Sem d q mc ms pc L (.long y :: st) h Qp) : Sem d q mc ms pc L (.long x :: st) h Qp := k x rfl
theorem s_heq {h2 : HP} (e : h = h2) (k : Sem d q mc ms pc L st h2 Qp) : Sem d q mc ms pc L st h Qp := by
  subst e
  exact k
theorem Con.mono {args : List Value} {Q1 Q2 : PO} (hC : Con d q mc ms args h Q1) (hq : ∀ r h', Q1 r h' → Q2 r h') : Con d q mc ms args h Q2 := by
  intro w HB l p e ha hc hk s m av below hf hp hP hK
  obtain ⟨k, o, g1, g2, g3, ⟨r, h', hq1, hrest⟩, hF⟩ := hC w HB l p e ha hc hk s m av below hf hp hP hK
  exact ⟨k, o, g1, g2, g3, ⟨r, h', hq r h' hq1, hrest⟩, hF⟩
/-- a Java truth value -/
def b2i (c : Prop) [Decidable c] : Int32 := if c then 1 else 0
theorem b2i_t {c : Prop} [Decidable c] (h : c) : b2i c = 1 := if_pos h
theorem b2i_f {c : Prop} [Decidable c] (h : ¬ c) : b2i c = 0 := if_neg h
theorem b2i_0 {c : Prop} [Decidable c] : b2i c = 0 ↔ ¬ c := by
  by_cases h : c
  · rw [b2i_t h]; exact ⟨fun z => absurd z (by decide), fun z => absurd h z⟩
  · rw [b2i_f h]; exact ⟨fun _ => h, fun _ => rfl⟩
theorem b2i_n0 {c : Prop} [Decidable c] : ¬ b2i c = 0 ↔ c := by
  rw [b2i_0]
  exact Decidable.not_not
theorem b2i_z {c : Prop} [Decidable c] : narrow .boolean (.int (b2i c)) = .int (b2i c) := by
  by_cases h : c
  · rw [b2i_t h]; rfl
  · rw [b2i_f h]; rfl
theorem b2i_c {c e : Prop} [Decidable c] [Decidable e] (h : c ↔ e) : b2i c = b2i e := by
  by_cases hc : c
  · rw [b2i_t hc, b2i_t (h.mp hc)]
  · rw [b2i_f hc, b2i_f (fun z => hc (h.mpr z))]
end CallV
