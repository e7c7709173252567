theorem mIC191 : Cond.fieldLink RJ6 191 "java/lang/Integer$IntegerCache" "high" "I" ∈ gW := gW_of (i := 926) (by decide +kernel) rfl
theorem mIC195 : Cond.fieldLink RJ6 195 "java/lang/Integer$IntegerCache" "cache" "[Ljava/lang/Integer;" ∈ gW := gW_of (i := 928) (by decide +kernel) rfl
theorem mAL39 : Cond.fieldLink RJx4a65c 39 "java/util/ArrayList" "DEFAULTCAPACITY_EMPTY_ELEMENTDATA" "[Ljava/lang/Object;" ∈ gW := gW_of (i := 243) (by decide +kernel) rfl
theorem mGC970 : Cond.methodLink RJ7 86 ⟨"java/lang/Object", "getClass", "()Ljava/lang/Class;"⟩ ∈ gW := gW_of (i := 970) (by decide +kernel) rfl
theorem mGC971 : Cond.instanceMethod ⟨"java/lang/Object", "getClass", "()Ljava/lang/Class;"⟩ ∈ gW := gW_of (i := 971) (by decide +kernel) rfl
theorem mGC988 : Cond.native ⟨"java/lang/Object", "getClass", "()Ljava/lang/Class;"⟩ ∈ gW := gW_of (i := 988) (by decide +kernel) rfl
theorem mGC1735 : Cond.selects "[Ljava/lang/Object;" ⟨"java/lang/Object", "getClass", "()Ljava/lang/Class;"⟩ ⟨"java/lang/Object", "getClass", "()Ljava/lang/Class;"⟩ ∈ gW := gW_of (i := 1735) (by decide +kernel) rfl
theorem mCL992 : Cond.classLink RJ7 110 "[Ljava/lang/Object;" ∈ gW := gW_of (i := 992) (by decide +kernel) rfl
theorem u_nat {k : Nat} (h : k < 2 ^ 32) : (UInt32.ofNat k).toNat = k := by
  show k % 4294967296 = k
  exact Nat.mod_eq_of_lt h
section JRules
variable {d mc ms pc : Nat} {q : QM} {L : List (Nat × Value)} {st : List Value} {h : HP} {Qp : PO}
theorem e_high (hd : decode q.2.1 pc = .ok (.getstatic 191, 3)) (hown : q.1.cls = RJ6) (k : Sem d q mc ms (pc + 3) L (.int 127 :: st) h Qp) : Sem d q mc ms pc L st h Qp := by
  intro w HB p l e R s m args below meth c mcT msT H locs cells slots ls C hW hS hl g1 g2
  exact va_gets C.1 C.2.1 ((KX_of C).2.2.2.2.2.1.kept (low_q C)) hS (own_of C hown) (hts_of C mIC191) (fun _ z => z) hd (k w HB p l e R s m args below meth c mcT msT H locs cells slots ls C hW hS hl g1 g2)
theorem e_cache (hd : decode q.2.1 pc = .ok (.getstatic 195, 3)) (hown : q.1.cls = RJ6) (k : Sem d q mc ms (pc + 3) L (.float 300 :: st) h Qp) : Sem d q mc ms pc L st h Qp := by
  intro w HB p l e R s m args below meth c mcT msT H locs cells slots ls C hW hS hl g1 g2
  exact va_gets C.1 C.2.1 ((KX_of C).2.2.2.1.kept (low_q C)) hS (own_of C hown) (hts_of C mIC195) (fun _ z => z) hd (k w HB p l e R s m args below meth c mcT msT H locs cells slots ls C hW hS hl g1 g2)
theorem e_empty (hd : decode q.2.1 pc = .ok (.getstatic 39, 3)) (hown : q.1.cls = RJx4a65c) (k : Sem d q mc ms (pc + 3) L (.float 301 :: st) h Qp) : Sem d q mc ms pc L st h Qp := by
  intro w HB p l e R s m args below meth c mcT msT H locs cells slots ls C hW hS hl g1 g2
  exact va_gets C.1 C.2.1 ((KX_of C).2.2.2.2.2.2.1.kept (low_q C)) hS (own_of C hown) (hts_of C mAL39) (fun _ z => z) hd (k w HB p l e R s m args below meth c mcT msT H locs cells slots ls C hW hS hl g1 g2)
theorem e_alen0 (hd : decode q.2.1 pc = .ok (.arraylength, 1)) (k : Sem d q mc ms (pc + 1) L (.int 0 :: st) h Qp) : Sem d q mc ms pc L (.float 301 :: st) h Qp := by
  intro w HB p l e R s m args below meth c mcT msT H locs cells slots ls C hW hS hl g1 g2
  exact va_tlen C.1 C.2.1 ((KX_of C).2.2.2.2.2.2.2.1.kept (low_q C)) hS rfl hd (k w HB p l e R s m args below meth c mcT msT H locs cells slots ls C hW hS hl g1 g2)
theorem e_cald {x : Int32} (hin : vp_in x 256) (hd : decode q.2.1 pc = .ok (.aaload, 1)) (k : Sem d q mc ms (pc + 1) L (.float (UInt32.ofNat (pz x)) :: st) h Qp) : Sem d q mc ms pc L (.int x :: .float 300 :: st) h Qp := by
  intro w HB p l e R s m args below meth c mcT msT H locs cells slots ls C hW hS hl g1 g2
  have k1 := k w HB p l e R s m args below meth c mcT msT H locs cells slots ls C hW hS hl g1 g2
  have hlt : pz x < 256 := Nat.not_le.mp fun z => hin (Or.inr z)
  have e2 : (UInt32.ofNat (pz x)).toNat = pz x := u_nat (by omega)
  simp only [List.map_cons, em, e2] at k1
  exact vb_tq C.1 C.2.1 ((KX_of C).2.2.2.2.1.kept (low_q C)) hS hin rfl hd k1
/-- two that are one -/
theorem e_acmpeq_t {i : UInt32} {off : Int} {tgt : Nat} (hd : decode q.2.1 pc = .ok (.if_acmp .eq off, 3)) (ht : (pc : Int) + off = (tgt : Int)) (k : Sem d q mc ms tgt L st h Qp) : Sem d q mc ms pc L (.float i :: .float i :: st) h Qp := by
  intro w HB p l e R s m args below meth c mcT msT H locs cells slots ls C hW hS hl g1 g2
  exact lv_acmp_eq (rx := some (w.2.1 i.toNat)) (ry := some (w.2.1 i.toNat)) C.1 C.2.1 hd ht (fun _ => k w HB p l e R s m args below meth c mcT msT H locs cells slots ls C hW hS hl g1 g2) (fun z => absurd rfl z)
theorem e_acmpne_f {i : UInt32} {off : Int} {tgt : Nat} (hd : decode q.2.1 pc = .ok (.if_acmp .ne off, 3)) (ht : (pc : Int) + off = (tgt : Int)) (k : Sem d q mc ms (pc + 3) L st h Qp) : Sem d q mc ms pc L (.float i :: .float i :: st) h Qp := by
  intro w HB p l e R s m args below meth c mcT msT H locs cells slots ls C hW hS hl g1 g2
  exact lv_acmp_ne (rx := some (w.2.1 i.toNat)) (ry := some (w.2.1 i.toNat)) C.1 C.2.1 hd ht (fun z => absurd rfl z) (fun _ => k w HB p l e R s m args below meth c mcT msT H locs cells slots ls C hW hS hl g1 g2)
theorem e_ldcM (hd : decode q.2.1 pc = .ok (.ldc 110, 2)) (hown : q.1.cls = RJ7) (k : Sem d q mc ms (pc + 2) L (.float 302 :: st) h Qp) : Sem d q mc ms pc L st h Qp := by
  intro w HB p l e R s m args below meth c mcT msT H locs cells slots ls C hW hS hl g1 g2
  exact va_ldcM C.1 C.2.1 (own_of C hown) (hts_of C mCL992) ((KX_of C).2.1.2.2.2.2.1) hd (k w HB p l e R s m args below meth c mcT msT H locs cells slots ls C hW hS hl g1 g2)
theorem e_getC {i n : Nat} {f : Nat → Value} (hd : decode q.2.1 pc = .ok (.invokevirtual 86, 3)) (hown : q.1.cls = RJ7) (hc : h[i]? = some (.inl (8, n, .inr (.inr f)))) (hs : (st.map fun v => v.category).sum ≤ 8) (k : Sem (d + 1) q mc ms (pc + 3) L (.float 302 :: st) h Qp) : Sem (d + 1) q mc ms pc L (.ref i :: st) h Qp := by
  intro w HB p l e R s m args below meth c mcT msT H locs cells slots ls C hW hS hl g1 g2
  have f1 := C.2.2.2.2.2.2.2.2.2.2.1
  have f2 := C.2.2.2.2.2.2.2.2.2.2.2.1
  have h9 : ((st.map (em w)).map fun v => v.category).sum ≤ 8 := g_sum (KX_of C) hs
  have hci : H[w.1 + i]? = some (arrV (w.2.2.2.2 8) n (caW w (.inr (.inr f)))) := hW.2 i _ hc
  have hnm : s.vm.findClass "[Ljava/lang/Object;" = some (w.2.2.2.2 8) := va_nmO (ra_of (t := 8) (KX_of C) rfl) (by decide +kernel)
  exact va_getC (C := "[Ljava/lang/Object;") C.1 C.2.1 (by rw [C.2.2.1]; exact hl.1.symm) (own_of C hown) (hts_of C mGC970) ((KX_of C).2.1.2.2.2.2.2.1.use) (hts_of C mGC1735) (hts_of C mGC971) (hts_of C mGC988) ((KX_of C).2.1.2.2.2.2.1) ⟨_, hci, rfl, hnm⟩ (by omega) (by omega) hd (k w HB p l e R s m args below meth c mcT msT H locs cells slots ls C hW hS hl g1 g2)
/-- the int in a box of the cache -/
theorem e_bval {j : UInt32} (hj : j.toNat < 256) (hd : decode q.2.1 pc = .ok (.getfield 205, 3)) (hown : q.1.cls = RJ6) (k : Sem d q mc ms (pc + 3) L (.int (vb_c j.toNat) :: st) h Qp) : Sem d q mc ms pc L (.float j :: st) h Qp := by
  intro w HB p l e R s m args below meth c mcT msT H locs cells slots ls C hW hS hl g1 g2
  exact va_getX (i := j.toNat) (v := fun k => .int (vb_c k)) C.1 C.2.1 ((KX_of C).2.2.1.kept (low_q C)).2 hj hS (own_of C hown) (hts_of C m939) (fun _ z => z) hd (k w HB p l e R s m args below meth c mcT msT H locs cells slots ls C hW hS hl g1 g2)
theorem s_callVB {own : String} {idx n mc1 ms1 : Nat} {j : UInt32} {q' : QM} {As st0 : List Value} {Q1 : PO} (hj : j.toNat < 256) (cw : CWV own idx q' n) (hown : q.1.cls = own) (hcl : q'.1.cls = RJ6) (hd : decode q.2.1 pc = .ok (.invokevirtual idx, 3)) (hn : As.length = n) (hs : (st.map fun v => v.category).sum ≤ 8) (hst : st0 = As.reverse ++ .float j :: st)
    (hC : Con d q' mc1 ms1 (.float j :: As) h Q1) (kk : ∀ (r1 : Option Value) (h1 : HP), Q1 r1 h1 → Sem (d + 1) q mc ms (pc + 3) L (r1.toList ++ st) h1 Qp) : Sem (d + 1) q (mc1 + mc) (ms1 + ms) pc L st0 h Qp := by
  intro w HB p l e R s m args below meth c mcT msT H locs cells slots ls C hW hS hl g1 g2
  obtain ⟨w1, w2, w3, w4, w5, w6, w7⟩ := cw
  subst hst
  have gs : (As.reverse ++ .float j :: st).map (em w) = (As.map (em w)).reverse ++ .ref (w.2.1 j.toNat) :: st.map (em w) := by
    rw [List.map_append, List.map_cons, List.map_reverse]
    simp only [em]
  rw [gs]
  have hP := g_pre C hW hS (.float j :: As)
  simp only [List.map_cons, em] at hP
  refine g_after (va_runV (cc := q.2.1) (nL := q.2.2.1) (Ts := gW) (own := own) (C := q'.1.cls) (As := As.map (em w)) (rest := st.map (em w)) (n := n) ⟨C.1, C.2.1, C.2.2.1, own_of C hown, fun x hx => hts_of C hx⟩ (hC w HB l) ⟨callB_of n (fun x hx => hts_of C hx) (good_wsq w5) rfl rfl rfl (hts_of C w4) (hts_of C w1) w6 (g_room C w7), hts_of C w2, hts_of C w3⟩ ⟨PCr.blind, by rw [hcl]; exact box_of C hS hj, hP⟩ rfl (by rw [List.length_map]; exact hn) hl.1 rfl (lv_room (g_sum (KX_of C) hs)) hd (g_fits C g1 g2)) hS (fun r1 h1 H1 locs1 hq1 hW1 hS1 => ?_)
  rw [g_ret]
  exact kk r1 h1 hq1 w HB p l e R s m args below meth c mcT msT H1 locs1 _ _ ls C hW1 hS1 hl (by omega) (by omega)
/-- System.arraycopy of boxes between rows of objects -/
theorem s_copyB {own : String} {idx i j n0 n1 : Nat} {a0 a1 : Nat → Value} {sp dp n : Int32} (hown : q.1.cls = own) (hd : decode q.2.1 pc = .ok (.invokestatic idx, 3)) (hw1 : Cond.methodLink own idx arraycopyName ∈ gW) (hw2 : Cond.native arraycopyName ∈ gW) (hw3 : Cond.static arraycopyName ∈ gW) (hw4 : Cond.initialized "java/lang/System" ∈ gW)
    (hi : h[i]? = some (.inl (8, n0, .inr (.inr a0)))) (hj : h[j]? = some (.inl (8, n1, .inr (.inr a1)))) (p1 : ¬ sp < 0) (p2 : ¬ dp < 0) (p3 : ¬ n < 0) (p4 : sp.toNatClampNeg + n.toNatClampNeg ≤ n0) (p5 : dp.toNatClampNeg + n.toNatClampNeg ≤ n1) (hB : ∀ k : Nat, k < n.toNatClampNeg → ∃ b : UInt32, b.toNat < 256 ∧ a0 (sp.toNatClampNeg + k) = .float b) (hs : (st.map fun v => v.category).sum ≤ 8)
    (kk : Sem (d + 1) q mc ms (pc + 3) L st (h.set j (.inl (8, n1, .inr (.inr (va_cpy a0 a1 sp.toNatClampNeg dp.toNatClampNeg n.toNatClampNeg))))) Qp) : Sem (d + 1) q mc ms pc L (.int n :: .int dp :: .ref j :: .int sp :: .ref i :: st) h Qp := by
  intro w HB p l e R s m args below meth c mcT msT H locs cells slots ls C hW hS hl g1 g2
  have f1 := C.2.2.2.2.2.2.2.2.2.2.1
  have f2 := C.2.2.2.2.2.2.2.2.2.2.2.1
  have h9 : ((st.map (em w)).map fun v => v.category).sum ≤ 8 := g_sum (KX_of C) hs
  have hnw : nativeFrameWords "java/lang/System" "arraycopy" 5 ≤ 20 := by decide
  have hc0 : H[w.1 + i]? = some (arrV (w.2.2.2.2 8) n0 (caW w (.inr (.inr a0)))) := hW.2 i _ hi
  have hc1 : H[w.1 + j]? = some (arrV (w.2.2.2.2 8) n1 (caW w (.inr (.inr a1)))) := hW.2 j _ hj
  obtain ⟨-, k0, hk0, cm0, hkk0⟩ := arr_of (t := 8) (KX_of C) rfl n0 (caW w (.inr (.inr a0)))
  obtain ⟨-, k1, hk1, cm1, hkk1⟩ := arr_of (t := 8) (KX_of C) rfl n1 (caW w (.inr (.inr a1)))
  intro T hT X
  obtain ⟨vm', X', step⟩ := X.arraycopy C.1 (own_of C hown) (hts_of C hw1) (hts_of C hw2) (hts_of C hw3) (hts_of C hw4) (src := w.1 + i) (dst := w.1 + j) (cs := arrV (w.2.2.2.2 8) n0 (caW w (.inr (.inr a0)))) (cd := arrV (w.2.2.2.2 8) n1 (caW w (.inr (.inr a1)))) (srcPos := sp) (destPos := dp) (n := n) (by rw [hT]; exact hc0) (by rw [hT]; exact hc1)
    (fun _ hz => by cases hz) (fun _ hz => by cases hz) (fun hz => by cases hz) (fun hz => by cases hz) hk0 hk1 hkk0 hkk1 rfl p1 p2 p3
    (by rw [nn_of p1, nn_of p3, arrV_size]; omega)
    (by rw [nn_of p2, nn_of p3, arrV_size]; omega)
    (fun vm₁ hal k hk => by
      have e : (arrV (w.2.2.2.2 8) n0 (caW w (.inr (.inr a0)))).slots.getD (sp.toNatClampNeg + k) .null = caW w (.inr (.inr a0)) (sp.toNatClampNeg + k) := by
        rw [Array.getD_eq_getD_getElem?, arrV_read _ _ (by omega)]
        rfl
      rw [e]
      obtain ⟨b, hb, hy⟩ := hB k hk
      show fits _ (em w (a0 _)) = true ∧ _
      rw [show caW w (.inr (.inr a0)) (sp.toNatClampNeg + k) = em w (a0 (sp.toNatClampNeg + k)) from rfl, hy]
      obtain ⟨cellV, b1, b2, b3⟩ := box_of C hS hb
      obtain ⟨kA, comp, r1, r2, r3, -⟩ := ra_of (t := 8) (KX_of C) rfl
      cases hk1.symm.trans r1
      cases hkk1.symm.trans r2
      obtain ⟨kC, hkC, -⟩ := Vm.findClass_spec b3
      obtain ⟨kE, hkE, -⟩ := Vm.findClass_spec r3
      obtain ⟨kC', hkC', -⟩ := hal.2.2 _ _ hkC
      obtain ⟨kE', hkE', -⟩ := hal.2.2 _ _ hkE
      refine ⟨rfl, cellV, (show T.heap[w.2.1 b.toNat]? = some cellV by rw [hT]; exact b1), (fun z hz => by rw [hz] at b2; cases b2), ⟨kC', hkC'⟩, ⟨kE', hkE'⟩, ?_⟩
      show vm₁.assignable _ _ = true
      rw [hal.assignable]
      exact asg_of (KX_of C) (Or.inr (by decide)) r3 b3)
    (g := F0 m pc ls (.int n :: .int dp :: .ref (w.1 + j) :: .int sp :: .ref (w.1 + i) :: st.map (em w))) rfl (by rw [C.2.2.1]; exact hl.1) (rest := st.map (em w)) rfl (by rw [C.2.1]; exact hd) (by omega) (by show 2 * 0 + _ + _ ≤ _; omega)
  have e1 : copied (arrV (w.2.2.2.2 8) n0 (caW w (.inr (.inr a0)))) (arrV (w.2.2.2.2 8) n1 (caW w (.inr (.inr a1)))) sp dp n = arrV (w.2.2.2.2 8) n1 (caW w (.inr (.inr (va_cpy a0 a1 sp.toNatClampNeg dp.toNatClampNeg n.toNatClampNeg)))) := by
    exact va_copied (em w) (w.2.2.2.2 8) (w.2.2.2.2 8) a0 a1 p4
  rw [e1] at X' step
  have hlt : w.1 + j < H.size := (Array.getElem?_eq_some_iff.mp hc1).1
  have hheap : ((T.setVm vm').setCell (w.1 + j) (arrV (w.2.2.2.2 8) n1 (caW w (.inr (.inr (va_cpy a0 a1 sp.toNatClampNeg dp.toNatClampNeg n.toNatClampNeg)))))).heap = H.setIfInBounds (w.1 + j) (arrV (w.2.2.2.2 8) n1 (caW w (.inr (.inr (va_cpy a0 a1 sp.toNatClampNeg dp.toNatClampNeg n.toNatClampNeg))))) := by rw [← hT]; rfl
  have oq : ∀ x : Nat, x ≠ w.1 + j → (H.setIfInBounds (w.1 + j) (arrV (w.2.2.2.2 8) n1 (caW w (.inr (.inr (va_cpy a0 a1 sp.toNatClampNeg dp.toNatClampNeg n.toNatClampNeg))))))[x]? = H[x]? := fun x hx => by simp [Array.getElem?_setIfInBounds, Ne.symm hx]
  obtain ⟨t9, b1, b2⟩ := kk w HB p l e R s m args below meth c mcT msT _ _ cells slots ls C (hW.set (H1 := H.setIfInBounds (w.1 + j) (arrV (w.2.2.2.2 8) n1 (caW w (.inr (.inr (va_cpy a0 a1 sp.toNatClampNeg dp.toNatClampNeg n.toNatClampNeg)))))) (by simp) oq (show _ = some _ by simp [Array.getElem?_setIfInBounds, hlt])) ⟨by simp; exact hS.1, fun x x1 x2 => by
      rw [oq x (fun z => x2 (by rw [z]; exact Nat.le_add_right _ _))]
      exact hS.2.1 x x1 x2, fun x hx => by
      rcases List.mem_append.mp hx with z | z
      · exact hS.2.2 x z
      · obtain ⟨y, -, hy⟩ := List.mem_map.mp z
        rw [← hy]
        exact Nat.le_add_right _ _⟩ hl g1 g2 _ hheap X'
  exact ⟨t9, step t9 b1, b2⟩
end JRules
section SuperX
variable {p : Program} {l : Launch} {e : Env} {R : Room} {s : State} {m : MethodId} {args : Array Value} {below : List Frame} {meth : Method} {c : Code}
/-- super.x(..) where the superclass has it from its own superclass -/
theorem va_callSX {T : State} {locs : List Loc} {cells slots : Nat} (X : Stand p l e R s m args below meth c T locs cells slots) (hexec : p.tables.exec = Jvm.exec) {own : String} {index : Nat} {x y : MethodName} {bytes : ByteArray} {maxL : Nat} {ret : Option FieldType}
    (hown : s.vm.findClass own = some m.cls) (hlink : (Cond.methodLink own index x).before args s = true) (hsame : (Cond.sameMethod x.cls y.cls x.name x.desc).before args s = true) (hsup : (Cond.superclass own x.cls).before args s = true) (hsup2 : (Cond.superclass x.cls y.cls).before args s = true) (hxy : x.name = y.name ∧ x.desc = y.desc)
    (hinst : (Cond.instanceMethod y).before args s = true) (hcode : (Cond.code y bytes maxL ret).before args s = true) (hno : x.name ≠ "<init>")
    {W : Nat} {Pre : Pt → Array Value → Prop} {Post : Pt → Array Value → Option Value → Pt → Prop} (hK : Back l R p e below s args y 3 W Pre Post)
    {b : Addr} {cellB : Cell} {kB : Class} (hcell : T.heap[b]? = some cellB) (hobj : cellB.vm.isStatics = false) (hkB : s.vm.classes[cellB.cls]? = some kB)
    {g : JFrame} (hg : g.method = m) (hsize : g.locals.size = c.maxLocals) {argsL rest : List Value} (hlen : ∀ sig, parseMethodDescriptor y.desc = some sig → argsL.length = sig.parameters.length)
    (hstack : g.stack = argsL.reverse ++ .ref b :: rest) (hW : 2 * g.monitorRoom + (rest.map fun v => v.category).sum ≤ W) (hdg : decode c.code g.pc = .ok (.invokespecial index, 3))
    (hpre : ∀ vm₁, s.WarmedH vm₁ → Pre ⟨T.setVm vm₁, locs, cells, slots⟩ (Value.ref b :: argsL).toArray) :
    ∃ (v : Option Value) (vm₁ : Vm) (B : Pt), s.WarmedH vm₁ ∧ Stand p l e R s m args below meth c B.U B.locs B.cells B.slots ∧ Post ⟨T.setVm vm₁, locs, cells, slots⟩ (Value.ref b :: argsL).toArray v B ∧
      ∀ target, Steps p.tables e below (B.U.setTop { g with pc := g.pc + 3, stack := v.toList ++ rest }) target → Steps p.tables e below (T.setTop g) target := by
  obtain ⟨mk, methM, hnamed, hmethM, hstM, habM⟩ := Cond.instanceMethod_spec hinst
  obtain ⟨methM', cM, hmethM', -, -, -, -, -, -, hsigM⟩ := Cond.code_spec hnamed hcode
  cases hmethM.symm.trans hmethM'
  obtain ⟨ps, dk, kp, hps, hdk, hkp, hsuper, -, -, hnid⟩ := Cond.superclass_spec hown hsup
  obtain ⟨ps2, dk2, kp2, hps2, hdk2, hkp2, hsuper2, -, -, -⟩ := Cond.superclass_spec hps hsup2
  have hn : s.methodNamed? ⟨y.cls, x.name, x.desc⟩ = some mk := by
    rw [hxy.1, hxy.2]
    exact hnamed
  have hpm : ps2 = mk.cls := Option.some.inj (hps2.symm.trans (findClass_of_methodNamed hnamed))
  have hsub : s.vm.isSubclass ps mk.cls = true := by
    rw [← hpm]
    have hlt : ps < s.vm.classes.size := (Array.getElem?_eq_some_iff.mp hdk2).1
    obtain ⟨n, hn9⟩ : ∃ n, s.vm.classes.size = n + 1 := ⟨s.vm.classes.size - 1, (Nat.succ_pred_eq_of_pos (Nat.lt_of_le_of_lt (Nat.zero_le ps) hlt)).symm⟩
    unfold Vm.isSubclass
    rw [hn9]
    simp [Vm.isSubclassAux, hdk2, hsuper2]
  obtain ⟨vm₁, X₁, hstep₁⟩ := X.invokespecialUp hexec hown hlink hsame hn hmethM hstM habM hno hdk hnid hps hsuper hsub (a := b) (cell := cellB) hcell
    (fun z h => by rw [h] at hobj; cases hobj) hkB (g := g) hg (argsL := argsL) (rest := rest) (hlen _ hsigM) hstack hdg
  obtain ⟨v, B, X', hpost, hsteps⟩ := hK m meth c ⟨T.setVm vm₁, locs, cells, slots⟩ { g with stack := rest } (.invokespecial index) mk (Value.ref b :: argsL).toArray X₁ hg hsize hdg hW (X₁.named hnamed) (hpre vm₁ X₁.warmed)
  exact ⟨v, vm₁, B, X₁.warmed, X', hpost, fun target h => hstep₁ _ (by rw [doInvoke_state]; exact hsteps.trans h)⟩
end SuperX
def CWPX (own : String) (idx : Nat) (x : MethodName) (q' : QM) (n : Nat) : Prop := Cond.methodLink own idx x ∈ gW ∧ Cond.sameMethod x.cls q'.1.cls x.name x.desc ∈ gW ∧ Cond.superclass own x.cls ∈ gW ∧ Cond.superclass x.cls q'.1.cls ∈ gW ∧ Cond.instanceMethod q'.1 ∈ gW ∧ Cond.initialized q'.1.cls ∈ gW ∧ Cond.code q'.1 q'.2.1 q'.2.2.1 q'.2.2.2 ∈ gW ∧ ((x.name = q'.1.name ∧ x.desc = q'.1.desc) ∧ x.name ≠ "<init>") ∧ (parseMethodDescriptor q'.1.desc).map (fun d => d.parameters.length) = some n ∧ q'.2.2.1 ≤ 45
section SuperC
variable {d mc ms pc : Nat} {q : QM} {L : List (Nat × Value)} {st : List Value} {h : HP} {Qp : PO}
theorem s_callPX {own Cn : String} {idx n mc1 ms1 b ci N : Nat} {x : MethodName} {q' : QM} {As st0 : List Value} {fs : List Value} {T : u_T} {Q1 : PO} (cw : CWPX own idx x q' n) (hown : q.1.cls = own) (hd : decode q.2.1 pc = .ok (.invokespecial idx, 3)) (hc : h[b]? = some (.inr (ci, fs))) (hcl : vwCl[ci]? = some (Cn, T, N)) (hn : As.length = n) (hs : (st.map fun v => v.category).sum ≤ 8) (hst : st0 = As.reverse ++ .ref b :: st)
    (hC : Con d q' mc1 ms1 (.ref b :: As) h Q1) (kk : ∀ (r1 : Option Value) (h1 : HP), Q1 r1 h1 → Sem (d + 1) q mc ms (pc + 3) L (r1.toList ++ st) h1 Qp) : Sem (d + 1) q (mc1 + mc) (ms1 + ms) pc L st0 h Qp := by
  intro w HB p l e R s m args below meth c mcT msT H locs cells slots ls C hW hS hl g1 g2
  obtain ⟨w1, v1, v2, v3, w3, w4, w5, ⟨e1, w8⟩, w6, w7⟩ := cw
  subst hst
  rw [g_stk]
  obtain ⟨cellB, hcB, hoB, hclB⟩ := obj_of (KX_of C) hW hc hcl
  obtain ⟨kB, hkB, -⟩ := Vm.findClass_spec hclB
  have hK : Back l R p e below s args q'.1 3 8 (PreOf R mc1 ms1 (PCr w HB (.ref b :: As) h)) (PostOf (QCr w Q1) mc1 ms1 (w.1 ≤ ·)) := back_of (bytes := q'.2.1) (maxL := q'.2.2.1) (ret := q'.2.2.2) (hC w HB l) PCr.blind rfl rfl (g_room (mc1 := mc1) (ms1 := ms1) C w7).1 (g_room (mc1 := mc1) (ms1 := ms1) C w7).2 (pay_in (fun x hx => hts_of C hx) (good_wsq w5)) List.mem_cons_self (fun a' U hW => word_at hW (Or.inl (by first | rfl | simp [Cond.onTables, Cond.keeps, Cond.steady])) (hts_of C w4))
  have hr : va_Run p l e R s m args below meth c H locs cells slots mc1 ms1 (F0 m pc ls ((As.map (em w)).reverse ++ .ref (w.1 + b) :: st.map (em w))) (st.map (em w)) (QCr w Q1 (Value.ref (w.1 + b) :: As.map (em w)).toArray) (w.1 ≤ ·) := by
    intro T hT X
    obtain ⟨v, vm₁, ⟨U', l2, c2, s2⟩, hW₁, X', ⟨g', mk, t, L', f1, f2, hq, h1, hL, h2, h3⟩, st9⟩ := va_callSX X C.1 (bytes := q'.2.1) (maxL := q'.2.2.1) (ret := q'.2.2.2) (own_of C hown) (hts_of C w1) (hts_of C v1) (hts_of C v2) (hts_of C v3) e1 (hts_of C w3) (hts_of C w5) w8 hK (by rw [hT]; exact hcB) hoB hkB (g := F0 m pc ls ((As.map (em w)).reverse ++ .ref (w.1 + b) :: st.map (em w))) rfl (hl.1.trans C.2.2.1.symm) (argsL := As.map (em w)) (rest := st.map (em w)) (fun sig hsig => by rw [hsig] at w6; rw [List.length_map, hn]; exact (Option.some.inj w6).symm) rfl (lv_room (g_sum (KX_of C) hs)) (by rw [C.2.1]; exact hd)
      (fun vm₁ hW₁ => ⟨(g_fits C g1 g2).1, (g_fits C g1 g2).2, g_pre C hW hS (.ref b :: As) (T.setVm vm₁) hT hW₁⟩)
    dsimp only [Pt.U, Pt.locs, Pt.cells, Pt.slots] at X' f1 f2 h1 h2 h3 st9
    subst h1; subst h2; subst h3
    exact ⟨v, (T.setVm vm₁).calling g' mk (Value.ref (w.1 + b) :: As.map (em w)).toArray, t, U', L', hT, X', hL, f1, f2, hq, st9⟩
  refine g_after hr hS (fun r1 h1 H1 locs1 hq1 hW1 hS1 => ?_)
  rw [g_ret]
  exact kk r1 h1 hq1 w HB p l e R s m args below meth c mcT msT H1 locs1 _ _ ls C hW1 hS1 hl (by omega) (by omega)
theorem s_PX2im {own Cn : String} {idx mc1 ms1 mc2 ms2 b ci N : Nat} {x : MethodName} {q' : QM} {fs : List Value} {T : u_T} {v1 v2 : Value} {P : Int32 → HP → Prop} (cw : CWPX own idx x q' 2) (hown : q.1.cls = own) (hd : decode q.2.1 pc = .ok (.invokespecial idx, 3)) (hc : h[b]? = some (.inr (ci, fs))) (hcl : vwCl[ci]? = some (Cn, T, N)) (hs : (st.map fun v => v.category).sum ≤ 8) (hC : Con d q' mc1 ms1 (.ref b :: [v1, v2]) h (PI P)) (hm : mc1 + mc = mc2) (hm2 : ms1 + ms = ms2) (kk : ∀ (x : Int32) (h1 : HP), P x h1 → Sem (d + 1) q mc ms (pc + 3) L (.int x :: st) h1 Qp) : Sem (d + 1) q mc2 ms2 pc L (v2 :: v1 :: .ref b :: st) h Qp := by
  subst hm hm2
  exact s_callPX (mc := mc) (ms := ms) (L := L) (Qp := Qp) cw hown hd hc hcl rfl hs rfl hC (fun r1 h1 hq => by
    obtain ⟨x, rfl, hp⟩ := hq
    exact kk x h1 hp)
end SuperC
