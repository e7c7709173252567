section Calls
variable {d mc ms pc : Nat} {q : QM} {L : List (Nat × Value)} {st : List Value} {h : HP} {Qp : PO}
theorem wsL_good {x : Cond} (hx : x ∈ gW) : (x.onTables && x.keeps) = true ∨ ∃ ty, x = .arrayClass ty := good_of_word (List.mem_filter.mp hx).2
theorem good_wsq {q' : QM} (hc : Cond.code q'.1 q'.2.1 q'.2.2.1 q'.2.2.2 ∈ gW) : GoodIn gW (wsq q') := fun x hx => by
  rcases List.mem_cons.mp hx with rfl | hx
  · exact ⟨hc, wsL_good hc⟩
  · exact ⟨hx, wsL_good hx⟩
theorem g_after {w : WP} {p : Program} {l : Launch} {e : Env} {R : Room} {s : State} {m : MethodId} {args : Array Value} {below : List Frame} {meth : Method} {c : Code} {H : Heap} {locs : List Loc} {cells slots mc1 ms1 : Nat} {ls : Array Slot} {st0 rest : List Value} {a : Array Value} {Q : State → Prop} {Q1 : PO}
    (hr : va_Run p l e R s m args below meth c H locs cells slots mc1 ms1 (F0 m pc ls st0) rest (QCr w Q1 a) (w.1 ≤ ·)) (hS : va_S (w.1 ≤ ·) s.heap H locs)
    (kk : ∀ (r1 : Option Value) (h1 : HP) (H1 : Heap) (locs1 : List Loc), Q1 r1 h1 → Wd w h1 H1 → va_S (w.1 ≤ ·) s.heap H1 locs1 → W p l e R s m args below meth c H1 locs1 (cells + mc1) (slots + ms1) Q (F0 m (pc + 3) ls ((r1.map (em w)).toList ++ rest))) : W p l e R s m args below meth c H locs cells slots Q (F0 m pc ls st0) := by
  intro T hT X
  obtain ⟨v, st₀, t, T', L, h0, X', hL, e1, e2, ⟨r1, h1, hq1, hv, hw, hz, hk⟩, stp⟩ := hr T hT X
  have hv := Outcome.returned.inj hv
  subst hv
  rw [h0] at hz hk
  obtain ⟨t2, a1, b1⟩ := kk r1 h1 T'.heap (locs ++ L) hq1 (by rw [e1]; exact hw) ⟨Nat.le_trans hS.1 (by rw [e1]; exact hz), fun q g1 g2 => by rw [e1, hk q (Nat.lt_of_lt_of_le g1 hS.1) g2]; exact hS.2.1 q g1 g2, fun q hq => by
    rcases List.mem_append.mp hq with g | g
    · exact hS.2.2 q g
    · exact hL q g⟩ T' rfl X'
  exact ⟨t2, stp t2 a1, b1⟩
theorem g_pre {w : WP} {HB : Heap} {p : Program} {R : Room} {s : State} {m : MethodId} {args : Array Value} {meth : Method} {c : Code} {mcT msT : Nat} {H : Heap} {locs : List Loc} (C : SCt w HB d q p R s m args meth c mcT msT) (hW : Wd w h H) (hS : va_S (w.1 ≤ ·) s.heap H locs) (as : List Value) : ∀ U : State, U.heap = H → s.WarmedH U.vm → PCr w HB as h (as.map (em w)).toArray U := fun U hU hv =>
  ⟨rfl, by rw [hU]; exact hW, (KX_of C).warm hv, by rw [hU]; exact Nat.le_trans C.2.2.2.2.2.2.2.2.2.1.1 hS.1, fun a ha => by rw [hU]; exact low_of C hS a ha⟩
def notMH (q' : QM) (n : Nat) : Prop := (q'.1.cls ≠ "java/lang/invoke/MethodHandle" ∧ q'.1.cls ≠ "java/lang/invoke/VarHandle" ∧ (parseMethodDescriptor q'.1.desc).map (fun d => d.parameters.length) = some n) ∧ q'.2.2.1 ≤ 45
def CWV (own : String) (idx : Nat) (q' : QM) (n : Nat) : Prop := Cond.methodLink own idx q'.1 ∈ gW ∧ Cond.instanceMethod q'.1 ∈ gW ∧ Cond.selects q'.1.cls q'.1 q'.1 ∈ gW ∧ Cond.initialized q'.1.cls ∈ gW ∧ Cond.code q'.1 q'.2.1 q'.2.2.1 q'.2.2.2 ∈ gW ∧ notMH q' n
def CWS (own : String) (idx : Nat) (q' : QM) (n : Nat) : Prop := (Cond.methodLink own idx q'.1 ∈ gW ∨ ∃ host, (own, idx, q'.1, host) ∈ nestL) ∧ Cond.static q'.1 ∈ gW ∧ Cond.initialized q'.1.cls ∈ gW ∧ Cond.code q'.1 q'.2.1 q'.2.2.1 q'.2.2.2 ∈ gW ∧ notMH q' n
def CWI (own : String) (idx : Nat) (q' : QM) (n : Nat) : Prop := (Cond.methodLink own idx q'.1 ∈ gW ∨ ∃ host, (own, idx, q'.1, host) ∈ nestL) ∧ Cond.instanceMethod q'.1 ∈ gW ∧ Cond.initialized q'.1.cls ∈ gW ∧ Cond.code q'.1 q'.2.1 q'.2.2.1 none ∈ gW ∧ notMH q' n ∧ q'.1.name = "<init>" ∧ q'.2.2.2 = none
def CWU (own : String) (idx : Nat) (Cn : String) (x : MethodName) (q' : QM) (n : Nat) : Prop := Cond.methodLink own idx x ∈ gW ∧ (∃ owner b0 m0 r0, Cond.sameMethod x.cls owner x.name x.desc ∈ gW ∧ Cond.instanceMethod ⟨owner, x.name, x.desc⟩ ∈ gW ∧ Cond.code ⟨owner, x.name, x.desc⟩ b0 m0 r0 ∈ gW ∧ (owner ≠ "java/lang/invoke/MethodHandle" ∧ owner ≠ "java/lang/invoke/VarHandle")) ∧ Cond.selects Cn x q'.1 ∈ gW ∧ Cond.instanceMethod q'.1 ∈ gW ∧ Cond.initialized q'.1.cls ∈ gW ∧ Cond.code q'.1 q'.2.1 q'.2.2.1 q'.2.2.2 ∈ gW ∧ (parseMethodDescriptor x.desc).map (fun d => d.parameters.length) = some n ∧ q'.2.2.1 ≤ 45
def CWP (own : String) (idx : Nat) (q' : QM) (n : Nat) : Prop := Cond.methodLink own idx q'.1 ∈ gW ∧ Cond.sameMethod q'.1.cls q'.1.cls q'.1.name q'.1.desc ∈ gW ∧ Cond.superclass own q'.1.cls ∈ gW ∧ Cond.instanceMethod q'.1 ∈ gW ∧ Cond.initialized q'.1.cls ∈ gW ∧ Cond.code q'.1 q'.2.1 q'.2.2.1 q'.2.2.2 ∈ gW ∧ q'.1.name ≠ "<init>" ∧ (parseMethodDescriptor q'.1.desc).map (fun d => d.parameters.length) = some n ∧ q'.2.2.1 ≤ 45
theorem g_room {d mcT msT mc1 ms1 : Nat} {q' : QM} {w : WP} {HB : Heap} {p : Program} {R : Room} {s : State} {m : MethodId} {args : Array Value} {meth : Method} {c : Code} (C : SCt w HB (d + 1) q p R s m args meth c mcT msT) (h9 : q'.2.2.1 ≤ 45) : (rmq d mc1 ms1).frames + 1 ≤ R.frames ∧ 8 + (q'.2.2.1 + 11) + (rmq d mc1 ms1).locals ≤ R.locals := by
  have e1 := C.2.2.2.2.2.2.2.2.2.2.1
  have e2 := C.2.2.2.2.2.2.2.2.2.2.2.1
  exact ⟨e1, by show 8 + (q'.2.2.1 + 11) + 64 * d ≤ _; omega⟩
theorem g_fits {mcT msT mc1 ms1 cells slots : Nat} {w : WP} {HB : Heap} {p : Program} {R : Room} {s : State} {m : MethodId} {args : Array Value} {meth : Method} {c : Code} (C : SCt w HB d q p R s m args meth c mcT msT) (h1 : cells + (mc1 + mc) ≤ mcT) (h2 : slots + (ms1 + ms) ≤ msT) : cells + mc1 ≤ R.cells ∧ slots + ms1 ≤ R.slots := by
  have e1 := C.2.2.2.2.2.2.2.2.2.2.2.2.1
  have e2 := C.2.2.2.2.2.2.2.2.2.2.2.2.2
  omega
theorem g_stk {w : WP} (As st : List Value) (b : Nat) : (As.reverse ++ .ref b :: st).map (em w) = (As.map (em w)).reverse ++ .ref (w.1 + b) :: st.map (em w) := by
  rw [List.map_append, List.map_reverse]
  rfl
theorem g_sum {w : WP} {HB : Heap} {s : State} (hK : KX w HB s) {st : List Value} (hs : (st.map fun v => v.category).sum ≤ 8) : ((st.map (em w)).map fun v => v.category).sum ≤ 8 := by
  rw [em_cats hK]
  exact hs
theorem g_ret {w : WP} {r1 : Option Value} {st : List Value} : (r1.map (em w)).toList ++ st.map (em w) = (r1.toList ++ st).map (em w) := by
  cases r1 <;> rfl
theorem s_callV {own : String} {idx n mc1 ms1 b ci N : Nat} {q' : QM} {As st0 : List Value} {fs : List Value} {T : u_T} {Q1 : PO} (cw : CWV own idx q' n) (hown : q.1.cls = own) (hd : decode q.2.1 pc = .ok (.invokevirtual idx, 3)) (hc : h[b]? = some (.inr (ci, fs))) (hcl : vwCl[ci]? = some (q'.1.cls, T, N)) (hn : As.length = n) (hs : (st.map fun v => v.category).sum ≤ 8) (hst : st0 = As.reverse ++ .ref b :: st)
    (hC : Con d q' mc1 ms1 (.ref b :: As) h Q1) (kk : ∀ (r1 : Option Value) (h1 : HP), Q1 r1 h1 → Sem (d + 1) q mc ms (pc + 3) L (r1.toList ++ st) h1 Qp) : Sem (d + 1) q (mc1 + mc) (ms1 + ms) pc L st0 h Qp := by
  intro w HB p l e R s m args below meth c mcT msT H locs cells slots ls C hW hS hl g1 g2
  obtain ⟨w1, w2, w3, w4, w5, w6, w7⟩ := cw
  subst hst
  rw [g_stk]
  refine g_after (va_runV (cc := q.2.1) (nL := q.2.2.1) (Ts := gW) (own := own) (C := q'.1.cls) (As := As.map (em w)) (rest := st.map (em w)) (n := n) ⟨C.1, C.2.1, C.2.2.1, own_of C hown, fun x hx => hts_of C hx⟩ (hC w HB l) ⟨callB_of n (fun x hx => hts_of C hx) (good_wsq w5) rfl rfl rfl (hts_of C w4) (hts_of C w1) w6 (g_room C w7), hts_of C w2, hts_of C w3⟩ ⟨PCr.blind, obj_of (KX_of C) hW hc hcl, g_pre C hW hS (.ref b :: As)⟩ rfl (by rw [List.length_map]; exact hn) hl.1 rfl (lv_room (g_sum (KX_of C) hs)) hd (g_fits C g1 g2)) hS (fun r1 h1 H1 locs1 hq1 hW1 hS1 => ?_)
  rw [g_ret]
  exact kk r1 h1 hq1 w HB p l e R s m args below meth c mcT msT H1 locs1 _ _ ls C hW1 hS1 hl (by omega) (by omega)
theorem s_callS {own : String} {idx n mc1 ms1 : Nat} {q' : QM} {As st0 : List Value} {Q1 : PO} (cw : CWS own idx q' n) (hown : q.1.cls = own) (hd : decode q.2.1 pc = .ok (.invokestatic idx, 3)) (hn : As.length = n) (hs : (st.map fun v => v.category).sum ≤ 8) (hst : st0 = As.reverse ++ st)
    (hC : Con d q' mc1 ms1 As h Q1) (kk : ∀ (r1 : Option Value) (h1 : HP), Q1 r1 h1 → Sem (d + 1) q mc ms (pc + 3) L (r1.toList ++ st) h1 Qp) : Sem (d + 1) q (mc1 + mc) (ms1 + ms) pc L st0 h Qp := by
  intro w HB p l e R s m args below meth c mcT msT H locs cells slots ls C hW hS hl g1 g2
  obtain ⟨w1, w2, w4, w5, w6, w7⟩ := cw
  subst hst
  rw [List.map_append, List.map_reverse]
  have go : ∀ (r1 : Option Value) (h1 : HP) (H1 : Heap) (locs1 : List Loc), Q1 r1 h1 → Wd w h1 H1 → va_S (w.1 ≤ ·) s.heap H1 locs1 → W p l e R s m args below meth c H1 locs1 (cells + mc1) (slots + ms1) (MQ below (QCr w Qp) args s mcT msT (w.1 ≤ ·)) (F0 m (pc + 3) ls ((r1.map (em w)).toList ++ st.map (em w))) := fun r1 h1 H1 locs1 hq1 hW1 hS1 => by
    rw [g_ret]
    exact kk r1 h1 hq1 w HB p l e R s m args below meth c mcT msT H1 locs1 _ _ ls C hW1 hS1 hl (by omega) (by omega)
  rcases w1 with w1 | ⟨host, w1⟩
  · exact g_after (va_runS (cc := q.2.1) (nL := q.2.2.1) (Ts := gW) (own := own) (As := As.map (em w)) (rest := st.map (em w)) (n := n) ⟨C.1, C.2.1, C.2.2.1, own_of C hown, fun x hx => hts_of C hx⟩ (hC w HB l) ⟨callB_of n (fun x hx => hts_of C hx) (good_wsq w5) rfl rfl rfl (hts_of C w4) (hts_of C w1) w6 (g_room C w7), hts_of C w2⟩ ⟨PCr.blind, g_pre C hW hS As⟩ rfl (by rw [List.length_map]; exact hn) hl.1 rfl (lv_room (g_sum (KX_of C) hs)) hd (g_fits C g1 g2)) hS go
  · exact g_after (va_runSN (cc := q.2.1) (nL := q.2.2.1) (Ts := gW) (own := own) (host := host) (As := As.map (em w)) (rest := st.map (em w)) (n := n) ⟨C.1, C.2.1, C.2.2.1, own_of C hown, fun x hx => hts_of C hx⟩ (hC w HB l) ⟨va_cnB n (fun x hx => hts_of C hx) (good_wsq w5) rfl rfl rfl ((KX_of C).2.1.1 _ w1) (hts_of C w4) w6 (g_room C w7), hts_of C w2, trivial⟩ ⟨PCr.blind, g_pre C hW hS As⟩ rfl (by rw [List.length_map]; exact hn) hl.1 rfl (lv_room (g_sum (KX_of C) hs)) hd (g_fits C g1 g2)) hS go
theorem s_callI {own : String} {idx n mc1 ms1 b : Nat} {q' : QM} {As st0 : List Value} {Q1 : PO} (cw : CWI own idx q' n) (hown : q.1.cls = own) (hd : decode q.2.1 pc = .ok (.invokespecial idx, 3)) (hn : As.length = n) (hs : (st.map fun v => v.category).sum ≤ 8) (hst : st0 = As.reverse ++ .ref b :: st)
    (hC : Con d q' mc1 ms1 (.ref b :: As) h Q1) (kk : ∀ (r1 : Option Value) (h1 : HP), Q1 r1 h1 → Sem (d + 1) q mc ms (pc + 3) L (r1.toList ++ st) h1 Qp) : Sem (d + 1) q (mc1 + mc) (ms1 + ms) pc L st0 h Qp := by
  intro w HB p l e R s m args below meth c mcT msT H locs cells slots ls C hW hS hl g1 g2
  obtain ⟨w1, w2, w4, w5, ⟨w6, w7⟩, w8, w9⟩ := cw
  obtain ⟨y, cc, mL, rt⟩ := q'
  dsimp only at w9
  subst w9
  subst hst
  rw [g_stk]
  have go : ∀ (r1 : Option Value) (h1 : HP) (H1 : Heap) (locs1 : List Loc), Q1 r1 h1 → Wd w h1 H1 → va_S (w.1 ≤ ·) s.heap H1 locs1 → W p l e R s m args below meth c H1 locs1 (cells + mc1) (slots + ms1) (MQ below (QCr w Qp) args s mcT msT (w.1 ≤ ·)) (F0 m (pc + 3) ls ((r1.map (em w)).toList ++ st.map (em w))) := fun r1 h1 H1 locs1 hq1 hW1 hS1 => by
    rw [g_ret]
    exact kk r1 h1 hq1 w HB p l e R s m args below meth c mcT msT H1 locs1 _ _ ls C hW1 hS1 hl (by omega) (by omega)
  rcases w1 with w1 | ⟨host, w1⟩
  · exact g_after (va_runI (cc := q.2.1) (nL := q.2.2.1) (Ts := gW) (own := own) (As := As.map (em w)) (rest := st.map (em w)) (n := n) ⟨C.1, C.2.1, C.2.2.1, own_of C hown, fun x hx => hts_of C hx⟩ (hC w HB l) ⟨callB_of n (fun x hx => hts_of C hx) (good_wsq (q' := (y, cc, mL, none)) w5) rfl rfl rfl (hts_of C w4) (hts_of C w1) w6 (g_room (q' := (y, cc, mL, none)) C w7), w8, hts_of C w2⟩ ⟨PCr.blind, g_pre C hW hS (.ref b :: As)⟩ rfl (by rw [List.length_map]; exact hn) hl.1 rfl (lv_room (g_sum (KX_of C) hs)) hd (g_fits C g1 g2)) hS go
  · exact g_after (va_runIN (cc := q.2.1) (nL := q.2.2.1) (Ts := gW) (own := own) (host := host) (As := As.map (em w)) (rest := st.map (em w)) (n := n) ⟨C.1, C.2.1, C.2.2.1, own_of C hown, fun x hx => hts_of C hx⟩ (hC w HB l) ⟨va_cnB n (fun x hx => hts_of C hx) (good_wsq (q' := (y, cc, mL, none)) w5) rfl rfl rfl ((KX_of C).2.1.1 _ w1) (hts_of C w4) w6 (g_room (q' := (y, cc, mL, none)) C w7), w8, hts_of C w2⟩ ⟨PCr.blind, g_pre C hW hS (.ref b :: As)⟩ rfl (by rw [List.length_map]; exact hn) hl.1 rfl (lv_room (g_sum (KX_of C) hs)) hd (g_fits C g1 g2)) hS go
theorem s_callU {own Cn : String} {x : MethodName} {idx n mc1 ms1 b ci N : Nat} {q' : QM} {As st0 : List Value} {fs : List Value} {T : u_T} {Q1 : PO} (cw : CWU own idx Cn x q' n) (hown : q.1.cls = own) (hd : decode q.2.1 pc = .ok (.invokevirtual idx, 3)) (hc : h[b]? = some (.inr (ci, fs))) (hcl : vwCl[ci]? = some (Cn, T, N)) (hn : As.length = n) (hs : (st.map fun v => v.category).sum ≤ 8) (hst : st0 = As.reverse ++ .ref b :: st)
    (hC : Con d q' mc1 ms1 (.ref b :: As) h Q1) (kk : ∀ (r1 : Option Value) (h1 : HP), Q1 r1 h1 → Sem (d + 1) q mc ms (pc + 3) L (r1.toList ++ st) h1 Qp) : Sem (d + 1) q (mc1 + mc) (ms1 + ms) pc L st0 h Qp := by
  intro w HB p l e R s m args below meth c mcT msT H locs cells slots ls C hW hS hl g1 g2
  obtain ⟨w1, ⟨owner, b0, m0, r0, v1, v2, v3, v4⟩, w2, w3, w4, w5, w6, w7⟩ := cw
  subst hst
  rw [g_stk]
  refine g_after (va_runU (x := x) (cc := q.2.1) (nL := q.2.2.1) (Ts := gW) (own := own) (C := Cn) (owner := owner) (As := As.map (em w)) (rest := st.map (em w)) (n := n) ⟨C.1, C.2.1, C.2.2.1, own_of C hown, fun x hx => hts_of C hx⟩ (hC w HB l) ⟨⟨rfl, rfl, (g_room C w7).1, (g_room C w7).2, pay_in (fun x hx => hts_of C hx) (good_wsq w5), List.mem_cons_self⟩, hts_of C w5, hts_of C w4, v4, fun sig hsig => by rw [hsig] at w6; exact (Option.some.inj w6).symm, hts_of C w1, hts_of C v1, va_Decl.of (hts_of C v2) (hts_of C v3), hts_of C w2, hts_of C w3⟩ ⟨PCr.blind, obj_of (KX_of C) hW hc hcl, g_pre C hW hS (.ref b :: As)⟩ rfl (by rw [List.length_map]; exact hn) hl.1 rfl (lv_room (g_sum (KX_of C) hs)) hd (g_fits C g1 g2)) hS (fun r1 h1 H1 locs1 hq1 hW1 hS1 => ?_)
  rw [g_ret]
  exact kk r1 h1 hq1 w HB p l e R s m args below meth c mcT msT H1 locs1 _ _ ls C hW1 hS1 hl (by omega) (by omega)
theorem s_callP {own Cn : String} {idx n mc1 ms1 b ci N : Nat} {q' : QM} {As st0 : List Value} {fs : List Value} {T : u_T} {Q1 : PO} (cw : CWP own idx q' n) (hown : q.1.cls = own) (hd : decode q.2.1 pc = .ok (.invokespecial idx, 3)) (hc : h[b]? = some (.inr (ci, fs))) (hcl : vwCl[ci]? = some (Cn, T, N)) (hn : As.length = n) (hs : (st.map fun v => v.category).sum ≤ 8) (hst : st0 = As.reverse ++ .ref b :: st)
    (hC : Con d q' mc1 ms1 (.ref b :: As) h Q1) (kk : ∀ (r1 : Option Value) (h1 : HP), Q1 r1 h1 → Sem (d + 1) q mc ms (pc + 3) L (r1.toList ++ st) h1 Qp) : Sem (d + 1) q (mc1 + mc) (ms1 + ms) pc L st0 h Qp := by
  intro w HB p l e R s m args below meth c mcT msT H locs cells slots ls C hW hS hl g1 g2
  obtain ⟨w1, v1, v2, w3, w4, w5, w8, w6, w7⟩ := cw
  subst hst
  rw [g_stk]
  refine g_after (va_runSU ((KX_of C).1.1 ci _ hcl).2 (cc := q.2.1) (nL := q.2.2.1) (Ts := gW) (own := own) (C := Cn) (As := As.map (em w)) (rest := st.map (em w)) (n := n) ⟨C.1, C.2.1, C.2.2.1, own_of C hown, fun x hx => hts_of C hx⟩ (hC w HB l) ⟨⟨rfl, rfl, (g_room C w7).1, (g_room C w7).2, pay_in (fun x hx => hts_of C hx) (good_wsq w5), List.mem_cons_self⟩, hts_of C w1, hts_of C v1, hts_of C v2, hts_of C w3, hts_of C w4, hts_of C w5, w8, fun sig hsig => by rw [hsig] at w6; exact (Option.some.inj w6).symm⟩ ⟨PCr.blind, obj_of (KX_of C) hW hc hcl, g_pre C hW hS (.ref b :: As)⟩ rfl (by rw [List.length_map]; exact hn) hl.1 rfl (lv_room (g_sum (KX_of C) hs)) hd (g_fits C g1 g2)) hS (fun r1 h1 H1 locs1 hq1 hW1 hS1 => ?_)
  rw [g_ret]
  exact kk r1 h1 hq1 w HB p l e R s m args below meth c mcT msT H1 locs1 _ _ ls C hW1 hS1 hl (by omega) (by omega)
theorem s_objInit {own : String} {idx b : Nat} (hown : q.1.cls = own) (hw : Cond.methodLink own idx objectInit ∈ gW) (hw2 : Cond.instanceMethod objectInit ∈ gW) (hw3 : Cond.code objectInit ⟨#[0xb1]⟩ 1 none ∈ gW) (hd : decode q.2.1 pc = .ok (.invokespecial idx, 3)) (hs : (st.map fun v => v.category).sum ≤ 8) (kk : Sem (d + 1) q mc ms (pc + 3) L st h Qp) : Sem (d + 1) q mc ms pc L (.ref b :: st) h Qp := by
  intro w HB p l e R s m args below meth c mcT msT H locs cells slots ls C hW hS hl g1 g2
  have e1 := C.2.2.2.2.2.2.2.2.2.2.1
  have e2 := C.2.2.2.2.2.2.2.2.2.2.2.1
  refine W.objInit C.1 C.2.1 (own_of C hown) (hts_of C hw) (hts_of C hw2) (hts_of C hw3) rfl (by rw [C.2.2.1]; exact hl.1) rfl hd (by omega) ?_ (kk w HB p l e R s m args below meth c mcT msT H locs cells slots ls C hW hS hl g1 g2)
  have h9 := g_sum (KX_of C) hs
  show 2 * 0 + _ + 12 ≤ _
  have e3 : ((st.map (em w)).map fun v => v.category).sum ≤ 8 := h9
  omega
theorem nn_of {z : Int32} (hz : ¬ z < 0) : z.toInt = (z.toNatClampNeg : Int) := by
  have hz0 : (0 : Int) ≤ z.toInt := by
    have := Int32.not_lt.mp hz
    simpa using Int32.le_iff_toInt_le.mp this
  show z.toInt = ((z.toInt.toNat : Nat) : Int)
  omega
/-- System.arraycopy between arrays of one type of numbers -/
theorem s_copy {own : String} {idx t i j n0 n1 : Nat} {a0 a1 a2 : HA} {ty : FieldType} {sp dp n : Int32} (hown : q.1.cls = own) (hd : decode q.2.1 pc = .ok (.invokestatic idx, 3)) (hw1 : Cond.methodLink own idx arraycopyName ∈ gW) (hw2 : Cond.native arraycopyName ∈ gW) (hw3 : Cond.static arraycopyName ∈ gW) (hw4 : Cond.initialized "java/lang/System" ∈ gW)
    (hi : h[i]? = some (.inl (t, n0, a0))) (hj : h[j]? = some (.inl (t, n1, a1))) (ht : aTy[t]? = some ty) (hprim : refKind ty = false) (p1 : ¬ sp < 0) (p2 : ¬ dp < 0) (p3 : ¬ n < 0) (p4 : sp.toNatClampNeg + n.toNatClampNeg ≤ n0) (p5 : dp.toNatClampNeg + n.toNatClampNeg ≤ n1) (hfit : ∀ (w : WP) (k : Nat), fits ty (caW w a0 k) = true) (hnr : (∃ f, a0 = .inl f) ∨ ∃ f, a0 = .inr (.inl f)) (hs : (st.map fun v => v.category).sum ≤ 8)
    (he : ∀ (w : WP) (k : Nat), k < n1 → va_cpy (caW w a0) (caW w a1) sp.toNatClampNeg dp.toNatClampNeg n.toNatClampNeg k = caW w a2 k)
    (kk : Sem (d + 1) q mc ms (pc + 3) L st (h.set j (.inl (t, n1, a2))) Qp) : Sem (d + 1) q mc ms pc L (.int n :: .int dp :: .ref j :: .int sp :: .ref i :: st) h Qp := by
  intro w HB p l e R s m args below meth c mcT msT H locs cells slots ls C hW hS hl g1 g2
  have f1 := C.2.2.2.2.2.2.2.2.2.2.1
  have f2 := C.2.2.2.2.2.2.2.2.2.2.2.1
  have h9 : ((st.map (em w)).map fun v => v.category).sum ≤ 8 := g_sum (KX_of C) hs
  have hnw : nativeFrameWords "java/lang/System" "arraycopy" 5 ≤ 20 := by decide
  have hc0 : H[w.1 + i]? = some (arrV (w.2.2.2.2 t) n0 (caW w a0)) := hW.2 i _ hi
  have hc1 : H[w.1 + j]? = some (arrV (w.2.2.2.2 t) n1 (caW w a1)) := hW.2 j _ hj
  obtain ⟨-, k0, hk0, cm0, hkk0⟩ := arr_of (KX_of C) ht n0 (caW w a0)
  obtain ⟨-, k1, hk1, cm1, hkk1⟩ := arr_of (KX_of C) ht n1 (caW w a1)
  intro T hT X
  obtain ⟨vm', X', step⟩ := X.arraycopy C.1 (own_of C hown) (hts_of C hw1) (hts_of C hw2) (hts_of C hw3) (hts_of C hw4) (src := w.1 + i) (dst := w.1 + j) (cs := arrV (w.2.2.2.2 t) n0 (caW w a0)) (cd := arrV (w.2.2.2.2 t) n1 (caW w a1)) (srcPos := sp) (destPos := dp) (n := n) (by rw [hT]; exact hc0) (by rw [hT]; exact hc1)
    (fun _ hz => by cases hz) (fun _ hz => by cases hz) (fun hz => by cases hz) (fun hz => by cases hz) hk0 hk1 hkk0 hkk1 (by simp [hprim]) p1 p2 p3
    (by rw [nn_of p1, nn_of p3, arrV_size]; omega)
    (by rw [nn_of p2, nn_of p3, arrV_size]; omega)
    (fun vm₁ _ k hk => by
      have e : (arrV (w.2.2.2.2 t) n0 (caW w a0)).slots.getD (sp.toNatClampNeg + k) .null = caW w a0 (sp.toNatClampNeg + k) := by
        rw [Array.getD_eq_getD_getElem?, arrV_read _ _ (by omega)]
        rfl
      have hf9 := hfit w (sp.toNatClampNeg + k)
      refine ⟨?_, ?_⟩
      · rw [e]
        exact hf9
      · rw [e]
        rcases hnr with ⟨f, rfl⟩ | ⟨f, rfl⟩ <;> exact trivial)
    (g := F0 m pc ls (.int n :: .int dp :: .ref (w.1 + j) :: .int sp :: .ref (w.1 + i) :: st.map (em w))) rfl (by rw [C.2.2.1]; exact hl.1) (rest := st.map (em w)) rfl (by rw [C.2.1]; exact hd) (by omega) (by show 2 * 0 + _ + _ ≤ _; omega)
  have e1 : copied (arrV (w.2.2.2.2 t) n0 (caW w a0)) (arrV (w.2.2.2.2 t) n1 (caW w a1)) sp dp n = arrV (w.2.2.2.2 t) n1 (caW w a2) := by
    refine (va_copied (fun z => z) (w.2.2.2.2 t) (w.2.2.2.2 t) (caW w a0) (caW w a1) p4).trans ?_
    unfold arrV
    congr 2
    funext k
    exact he w k.val k.isLt
  rw [e1] at X' step
  have hlt : w.1 + j < H.size := (Array.getElem?_eq_some_iff.mp hc1).1
  have hheap : ((T.setVm vm').setCell (w.1 + j) (arrV (w.2.2.2.2 t) n1 (caW w a2))).heap = H.setIfInBounds (w.1 + j) (arrV (w.2.2.2.2 t) n1 (caW w a2)) := by rw [← hT]; rfl
  have oq : ∀ x : Nat, x ≠ w.1 + j → (H.setIfInBounds (w.1 + j) (arrV (w.2.2.2.2 t) n1 (caW w a2)))[x]? = H[x]? := fun x hx => by simp [Array.getElem?_setIfInBounds, Ne.symm hx]
  obtain ⟨t9, b1, b2⟩ := kk w HB p l e R s m args below meth c mcT msT _ _ cells slots ls C (hW.set (H1 := H.setIfInBounds (w.1 + j) (arrV (w.2.2.2.2 t) n1 (caW w a2))) (by simp) oq (show _ = some _ by simp [Array.getElem?_setIfInBounds, hlt])) ⟨by simp; exact hS.1, fun x x1 x2 => by
      rw [oq x (fun z => x2 (by rw [z]; exact Nat.le_add_right _ _))]
      exact hS.2.1 x x1 x2, fun x hx => by
      rcases List.mem_append.mp hx with z | z
      · exact hS.2.2 x z
      · obtain ⟨y, -, hy⟩ := List.mem_map.mp z
        rw [← hy]
        exact Nat.le_add_right _ _⟩ hl g1 g2 _ hheap X'
  exact ⟨t9, step t9 b1, b2⟩
end Calls
