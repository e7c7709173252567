theorem mCS : Cond.fieldLink RJ0 38 "java/lang/String" "COMPACT_STRINGS" "Z" ∈ gW := gW_of (i := 126) (by decide +kernel) rfl
theorem mSF : Cond.fieldLink RJ0 1053 "jdk/internal/util/Preconditions" "SIOOBE_FORMATTER" "Ljava/util/function/BiFunction;" ∈ gW := gW_of (i := 597) (by decide +kernel) rfl
section ERules
variable {d mc ms pc : Nat} {q : QM} {L : List (Nat × Value)} {st : List Value} {h : HP} {Qp : PO}
theorem low_q {w : WP} {HB : Heap} {p : Program} {R : Room} {s : State} {m : MethodId} {args : Array Value} {meth : Method} {c : Code} {mcT msT : Nat} (C : SCt w HB d q p R s m args meth c mcT msT) : ∀ a : Nat, a < HB.size → ¬ w.1 ≤ a → s.heap[a]? = HB[a]? := fun a _ ha => C.2.2.2.2.2.2.2.2.2.1.2 a (Nat.not_le.mp ha)
theorem e_compact (hd : decode q.2.1 pc = .ok (.getstatic 38, 3)) (hown : q.1.cls = RJ0) (k : Sem d q mc ms (pc + 3) L (.int 1 :: st) h Qp) : Sem d q mc ms pc L st h Qp := by
  intro w HB p l e R s m args below meth c mcT msT H locs cells slots ls C hW hS hl g1 g2
  exact va_gets C.1 C.2.1 ((KX_of C).2.2.2.2.2.2.2.2.1.kept (low_q C)) hS (own_of C hown) (hts_of C mCS) (fun _ z => z) hd (k w HB p l e R s m args below meth c mcT msT H locs cells slots ls C hW hS hl g1 g2)
theorem e_siobe (hd : decode q.2.1 pc = .ok (.getstatic 1053, 3)) (hown : q.1.cls = RJ0) (k : Sem d q mc ms (pc + 3) L (.retAddr 0 :: st) h Qp) : Sem d q mc ms pc L st h Qp := by
  intro w HB p l e R s m args below meth c mcT msT H locs cells slots ls C hW hS hl g1 g2
  exact va_gets C.1 C.2.1 ((KX_of C).2.2.2.2.2.2.2.2.2.2.1.kept (low_q C)) hS (own_of C hown) (hts_of C mSF) (fun _ z => z) hd (k w HB p l e R s m args below meth c mcT msT H locs cells slots ls C hW hS hl g1 g2)
theorem str_of {w : WP} {HB : Heap} {p : Program} {R : Room} {s : State} {m : MethodId} {args : Array Value} {meth : Method} {c : Code} {mcT msT : Nat} (C : SCt w HB d q p R s m args meth c mcT msT) : vk_S 5 strLen strByt (fun i => w.2.1 (310 + i)) (fun i => w.2.1 (320 + i)) (w.1 ≤ ·) s s.heap := (KX_of C).2.2.2.2.2.2.2.2.2.1.kept (low_q C)
theorem f32 {a i : Nat} (h : a + i < 2 ^ 32) (ha : a < 2 ^ 32) : (UInt32.ofNat a + UInt32.ofNat i).toNat = a + i := by
  rw [← UInt32.ofNat_add, UInt32.toNat_ofNat']
  exact Nat.mod_eq_of_lt h
theorem e_sval {i : Nat} (hi : i < 5) (hd : decode q.2.1 pc = .ok (.getfield 9, 3)) (hown : q.1.cls = RJ0) (k : Sem d q mc ms (pc + 3) L (.float (320 + UInt32.ofNat i) :: st) h Qp) : Sem d q mc ms pc L (.float (310 + UInt32.ofNat i) :: st) h Qp := by
  intro w HB p l e R s m args below meth c mcT msT H locs cells slots ls C hW hS hl g1 g2
  have k1 := k w HB p l e R s m args below meth c mcT msT H locs cells slots ls C hW hS hl g1 g2
  have e1 : (310 + UInt32.ofNat i).toNat = 310 + i := f32 (a := 310) (by omega) (by decide)
  have e2 : (320 + UInt32.ofNat i).toNat = 320 + i := f32 (a := 320) (by omega) (by decide)
  simp only [List.map_cons, em, e2] at k1
  simp only [List.map_cons, em, e1]
  exact vk_getf C.1 C.2.1 ((str_of C).1 i hi).2.2.1 hS (own_of C hown) (hts_of C m1747) (fun _ z => z) hd k1
theorem e_scod {i : Nat} (hi : i < 5) (hd : decode q.2.1 pc = .ok (.getfield 15, 3)) (hown : q.1.cls = RJ0) (k : Sem d q mc ms (pc + 3) L (.int 0 :: st) h Qp) : Sem d q mc ms pc L (.float (310 + UInt32.ofNat i) :: st) h Qp := by
  intro w HB p l e R s m args below meth c mcT msT H locs cells slots ls C hW hS hl g1 g2
  have k1 := k w HB p l e R s m args below meth c mcT msT H locs cells slots ls C hW hS hl g1 g2
  have e1 : (310 + UInt32.ofNat i).toNat = 310 + i := f32 (a := 310) (by omega) (by decide)
  simp only [List.map_cons, em, e1]
  exact vk_getf C.1 C.2.1 ((str_of C).1 i hi).2.1 hS (own_of C hown) (hts_of C m1748) (fun _ z => z) hd k1
theorem e_slen {i : Nat} (hi : i < 5) (hd : decode q.2.1 pc = .ok (.arraylength, 1)) (k : Sem d q mc ms (pc + 1) L (.int (nI (strLen.getD i 0)) :: st) h Qp) : Sem d q mc ms pc L (.float (320 + UInt32.ofNat i) :: st) h Qp := by
  intro w HB p l e R s m args below meth c mcT msT H locs cells slots ls C hW hS hl g1 g2
  have k1 := k w HB p l e R s m args below meth c mcT msT H locs cells slots ls C hW hS hl g1 g2
  have e2 : (320 + UInt32.ofNat i).toNat = 320 + i := f32 (a := 320) (by omega) (by decide)
  simp only [List.map_cons, em, e2]
  exact va_tlen C.1 C.2.1 ((str_of C).1 i hi).2.2.2 hS rfl hd k1
theorem e_sbyt {i : Nat} {x : Int32} (hi : i < 5) (hin : vp_in x (strLen.getD i 0)) (hd : decode q.2.1 pc = .ok (.baload, 1)) (k : Sem d q mc ms (pc + 1) L (.int ((strByt.getD i []).getD (pz x) 0) :: st) h Qp) : Sem d q mc ms pc L (.int x :: .float (320 + UInt32.ofNat i) :: st) h Qp := by
  intro w HB p l e R s m args below meth c mcT msT H locs cells slots ls C hW hS hl g1 g2
  have k1 := k w HB p l e R s m args below meth c mcT msT H locs cells slots ls C hW hS hl g1 g2
  have e2 : (320 + UInt32.ofNat i).toNat = 320 + i := f32 (a := 320) (by omega) (by decide)
  simp only [List.map_cons, em, e2]
  exact va_tb C.1 C.2.1 ((str_of C).1 i hi).2.2.2 hS hin rfl hd k1
theorem s_callVS {own : String} {idx n mc1 ms1 i : Nat} {q' : QM} {As st0 : List Value} {Q1 : PO} (hi : i < 5) (cw : CWV own idx q' n) (hown : q.1.cls = own) (hcl : q'.1.cls = RJ0) (hd : decode q.2.1 pc = .ok (.invokevirtual idx, 3)) (hn : As.length = n) (hs : (st.map fun v => v.category).sum ≤ 8) (hst : st0 = As.reverse ++ .float (310 + UInt32.ofNat i) :: st)
    (hC : Con d q' mc1 ms1 (.float (310 + UInt32.ofNat i) :: As) h Q1) (kk : ∀ (r1 : Option Value) (h1 : HP), Q1 r1 h1 → Sem (d + 1) q mc ms (pc + 3) L (r1.toList ++ st) h1 Qp) : Sem (d + 1) q (mc1 + mc) (ms1 + ms) pc L st0 h Qp := by
  intro w HB p l e R s m args below meth c mcT msT H locs cells slots ls C hW hS hl g1 g2
  obtain ⟨w1, w2, w3, w4, w5, w6, w7⟩ := cw
  subst hst
  have e1 : (310 + UInt32.ofNat i).toNat = 310 + i := f32 (a := 310) (by omega) (by decide)
  have gs : (As.reverse ++ .float (310 + UInt32.ofNat i) :: st).map (em w) = (As.map (em w)).reverse ++ .ref (w.2.1 (310 + i)) :: st.map (em w) := by
    rw [List.map_append, List.map_cons, List.map_reverse]
    simp only [em, e1]
  rw [gs]
  have hP := g_pre C hW hS (.float (310 + UInt32.ofNat i) :: As)
  simp only [List.map_cons, em, e1] at hP
  refine g_after (va_runV (cc := q.2.1) (nL := q.2.2.1) (Ts := gW) (own := own) (C := q'.1.cls) (As := As.map (em w)) (rest := st.map (em w)) (n := n) ⟨C.1, C.2.1, C.2.2.1, own_of C hown, fun x hx => hts_of C hx⟩ (hC w HB l) ⟨callB_of n (fun x hx => hts_of C hx) (good_wsq w5) rfl rfl rfl (hts_of C w4) (hts_of C w1) w6 (g_room C w7), hts_of C w2, hts_of C w3⟩ ⟨PCr.blind, by rw [hcl]; exact vk_recv (adK := fun i => w.2.1 (310 + i)) (i := i) (str_of C) hi hS, ?_⟩ rfl (by rw [List.length_map]; exact hn) hl.1 rfl (lv_room (g_sum (KX_of C) hs)) hd (g_fits C g1 g2)) hS (fun r1 h1 H1 locs1 hq1 hW1 hS1 => ?_)
  · intro U hU hWm
    have := hP U hU hWm
    unfold PCr
    unfold PCr at this
    simp only [List.map_cons, em, e1] at this ⊢
    exact this
  · rw [g_ret]
    exact kk r1 h1 hq1 w HB p l e R s m args below meth c mcT msT H1 locs1 _ _ ls C hW1 hS1 hl (by omega) (by omega)
end ERules
