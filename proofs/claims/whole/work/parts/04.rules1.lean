section Rules1
variable {d mc ms pc : Nat} {q : QM} {L : List (Nat × Value)} {st : List Value} {h : HP} {Qp : PO}
theorem strAt {w : WP} {HB : Heap} {p : Program} {R : Room} {s : State} {m : MethodId} {args : Array Value} {meth : Method} {c : Code} {mcT msT : Nat} {own tx : String} {i j : Nat} (C : SCt w HB d q p R s m args meth c mcT msT) (hc : (own, i, tx, j) ∈ strL) : vk_R own i tx (w.2.1 (310 + UInt32.ofNat j).toNat) s := by
  have h := C.2.2.2.2.2.2.2.2.1.2.1.2.2.2.1 _ hc
  have e : (310 + UInt32.ofNat j).toNat = 310 + j := by
    simp only [strL, List.mem_cons, Prod.mk.injEq, List.not_mem_nil, or_false] at hc
    rcases hc with ⟨-, -, -, rfl⟩ | ⟨-, -, -, rfl⟩ | ⟨-, -, -, rfl⟩ | ⟨-, -, -, rfl⟩ | ⟨-, -, -, rfl⟩ | ⟨-, -, -, rfl⟩ <;> rfl
  rw [e]
  exact h
theorem s_iconst {n : Int} {v : Int32} (hd : decode q.2.1 pc = .ok (.iconst n, 1)) (hv : Int32.ofInt n = v) (k : Sem d q mc ms (pc + 1) L (.int v :: st) h Qp) : Sem d q mc ms (pc) L (st) h Qp := by
  intro w HB p l e R s m args below meth c mcT msT H locs cells slots ls C hW hS hl h1 h2
  exact lv_iconst C.1 C.2.1 hd hv (k w HB p l e R s m args below meth c mcT msT H locs cells slots ls C hW hS hl h1 h2)

theorem s_bipush {n : Int} {v : Int32} (hd : decode q.2.1 pc = .ok (.bipush n, 2)) (hv : (Int8.ofInt n).toInt32 = v) (k : Sem d q mc ms (pc + 2) L (.int v :: st) h Qp) : Sem d q mc ms (pc) L (st) h Qp := by
  intro w HB p l e R s m args below meth c mcT msT H locs cells slots ls C hW hS hl h1 h2
  exact lv_bipush C.1 C.2.1 hd hv (k w HB p l e R s m args below meth c mcT msT H locs cells slots ls C hW hS hl h1 h2)

theorem s_sipush {n : Int} {v : Int32} (hd : decode q.2.1 pc = .ok (.sipush n, 3)) (hv : (Int16.ofInt n).toInt32 = v) (k : Sem d q mc ms (pc + 3) L (.int v :: st) h Qp) : Sem d q mc ms (pc) L (st) h Qp := by
  intro w HB p l e R s m args below meth c mcT msT H locs cells slots ls C hW hS hl h1 h2
  exact lv_sipush C.1 C.2.1 hd hv (k w HB p l e R s m args below meth c mcT msT H locs cells slots ls C hW hS hl h1 h2)

theorem s_lconst {n : Fin 2} {v : Int64} (hd : decode q.2.1 pc = .ok (.lconst n, 1)) (hv : Int64.ofNat (n : Nat) = v) (k : Sem d q mc ms (pc + 1) L (.long v :: st) h Qp) : Sem d q mc ms (pc) L (st) h Qp := by
  intro w HB p l e R s m args below meth c mcT msT H locs cells slots ls C hW hS hl h1 h2
  exact lv_lconst C.1 C.2.1 hd hv (k w HB p l e R s m args below meth c mcT msT H locs cells slots ls C hW hS hl h1 h2)

theorem s_null (hd : decode q.2.1 pc = .ok (.aconst_null, 1)) (k : Sem d q mc ms (pc + 1) L (.null :: st) h Qp) : Sem d q mc ms (pc) L (st) h Qp := by
  intro w HB p l e R s m args below meth c mcT msT H locs cells slots ls C hW hS hl h1 h2
  exact lv_null C.1 C.2.1 hd (k w HB p l e R s m args below meth c mcT msT H locs cells slots ls C hW hS hl h1 h2)

theorem s_ldc {own : String} {i : Nat} {v : Int32} (hd : decode q.2.1 pc = .ok (.ldc i, 2)) (hown : q.1.cls = own) (hc : Cond.constant own i v ∈ gW) (k : Sem d q mc ms (pc + 2) L (.int v :: st) h Qp) : Sem d q mc ms (pc) L (st) h Qp := by
  intro w HB p l e R s m args below meth c mcT msT H locs cells slots ls C hW hS hl h1 h2
  exact lv_ldc C.1 C.2.1 (hown ▸ C.2.2.2.2.2.1) (C.2.2.2.2.2.2.1 _ (List.mem_cons_of_mem _ hc)) hd (k w HB p l e R s m args below meth c mcT msT H locs cells slots ls C hW hS hl h1 h2)

theorem s_ldcw {own : String} {i : Nat} {v : Int32} (hd : decode q.2.1 pc = .ok (.ldc_w i, 3)) (hown : q.1.cls = own) (hc : Cond.constant own i v ∈ gW) (k : Sem d q mc ms (pc + 3) L (.int v :: st) h Qp) : Sem d q mc ms (pc) L (st) h Qp := by
  intro w HB p l e R s m args below meth c mcT msT H locs cells slots ls C hW hS hl h1 h2
  exact lv_ldcw C.1 C.2.1 (hown ▸ C.2.2.2.2.2.1) (C.2.2.2.2.2.2.1 _ (List.mem_cons_of_mem _ hc)) hd (k w HB p l e R s m args below meth c mcT msT H locs cells slots ls C hW hS hl h1 h2)

theorem s_ldc2 {own : String} {i : Nat} {v : Int64} (hd : decode q.2.1 pc = .ok (.ldc2_w i, 3)) (hown : q.1.cls = own) (hc : Cond.constantLong own i v ∈ gW) (k : Sem d q mc ms (pc + 3) L (.long v :: st) h Qp) : Sem d q mc ms (pc) L (st) h Qp := by
  intro w HB p l e R s m args below meth c mcT msT H locs cells slots ls C hW hS hl h1 h2
  exact lv_ldc2 C.1 C.2.1 (hown ▸ C.2.2.2.2.2.1) (C.2.2.2.2.2.2.1 _ (List.mem_cons_of_mem _ hc)) hd (k w HB p l e R s m args below meth c mcT msT H locs cells slots ls C hW hS hl h1 h2)

theorem s_ldcS {own tx : String} {i j : Nat} (hd : decode q.2.1 pc = .ok (.ldc i, 2)) (hown : q.1.cls = own) (hc : (own, i, tx, j) ∈ strL) (k : Sem d q mc ms (pc + 2) L (.float (310 + UInt32.ofNat j) :: st) h Qp) : Sem d q mc ms (pc) L (st) h Qp := by
  intro w HB p l e R s m args below meth c mcT msT H locs cells slots ls C hW hS hl h1 h2
  exact va_ldcS C.1 C.2.1 (hown ▸ C.2.2.2.2.2.1) (tx := tx) (strAt C hc) hd (k w HB p l e R s m args below meth c mcT msT H locs cells slots ls C hW hS hl h1 h2)

theorem at_em {w : WP} {ls : Array Slot} {n j i : Nat} {v : Value} {L : List (Nat × Value)} (hl : lv_has ls n (L.map fun x => (x.1, em w x.2))) (hv : L[j]? = some (i, v)) : ls[i]? = some (.val (em w v)) :=
  lv_at hl j (by rw [List.getElem?_map, hv]; rfl)

theorem s_iload_n {n : Fin 4} {j : Nat} {x : Int32} (hd : decode q.2.1 pc = .ok (.iload_n n, 1)) (hv : L[j]? = some ((n : Nat), .int x)) (k : Sem d q mc ms (pc + 1) L (.int x :: st) h Qp) : Sem d q mc ms (pc) L (st) h Qp := by
  intro w HB p l e R s m args below meth c mcT msT H locs cells slots ls C hW hS hl h1 h2
  exact lv_iload_n C.1 C.2.1 hd rfl (at_em hl hv) (k w HB p l e R s m args below meth c mcT msT H locs cells slots ls C hW hS hl h1 h2)

theorem s_iload {i j : Nat} {x : Int32} (hd : decode q.2.1 pc = .ok (.iload i, 2)) (hv : L[j]? = some (i, .int x)) (k : Sem d q mc ms (pc + 2) L (.int x :: st) h Qp) : Sem d q mc ms (pc) L (st) h Qp := by
  intro w HB p l e R s m args below meth c mcT msT H locs cells slots ls C hW hS hl h1 h2
  exact lv_iload C.1 C.2.1 hd (at_em hl hv) (k w HB p l e R s m args below meth c mcT msT H locs cells slots ls C hW hS hl h1 h2)

theorem s_lload_n {n : Fin 4} {j : Nat} {x : Int64} (hd : decode q.2.1 pc = .ok (.lload_n n, 1)) (hv : L[j]? = some ((n : Nat), .long x)) (k : Sem d q mc ms (pc + 1) L (.long x :: st) h Qp) : Sem d q mc ms (pc) L (st) h Qp := by
  intro w HB p l e R s m args below meth c mcT msT H locs cells slots ls C hW hS hl h1 h2
  exact lv_lload_n C.1 C.2.1 hd rfl (at_em hl hv) (k w HB p l e R s m args below meth c mcT msT H locs cells slots ls C hW hS hl h1 h2)

theorem s_lload {i j : Nat} {x : Int64} (hd : decode q.2.1 pc = .ok (.lload i, 2)) (hv : L[j]? = some (i, .long x)) (k : Sem d q mc ms (pc + 2) L (.long x :: st) h Qp) : Sem d q mc ms (pc) L (st) h Qp := by
  intro w HB p l e R s m args below meth c mcT msT H locs cells slots ls C hW hS hl h1 h2
  exact lv_lload C.1 C.2.1 hd (at_em hl hv) (k w HB p l e R s m args below meth c mcT msT H locs cells slots ls C hW hS hl h1 h2)

theorem s_aload_nr {n : Fin 4} {j : Nat} {x : Nat} (hd : decode q.2.1 pc = .ok (.aload_n n, 1)) (hv : L[j]? = some ((n : Nat), .ref x)) (k : Sem d q mc ms (pc + 1) L (.ref x :: st) h Qp) : Sem d q mc ms (pc) L (st) h Qp := by
  intro w HB p l e R s m args below meth c mcT msT H locs cells slots ls C hW hS hl h1 h2
  exact lv_aload_n C.1 C.2.1 hd rfl (at_em hl hv) (k w HB p l e R s m args below meth c mcT msT H locs cells slots ls C hW hS hl h1 h2)

theorem s_aloadr {i j : Nat} {x : Nat} (hd : decode q.2.1 pc = .ok (.aload i, 2)) (hv : L[j]? = some (i, .ref x)) (k : Sem d q mc ms (pc + 2) L (.ref x :: st) h Qp) : Sem d q mc ms (pc) L (st) h Qp := by
  intro w HB p l e R s m args below meth c mcT msT H locs cells slots ls C hW hS hl h1 h2
  exact lv_aload C.1 C.2.1 hd (at_em hl hv) (k w HB p l e R s m args below meth c mcT msT H locs cells slots ls C hW hS hl h1 h2)

theorem s_aload_ne {n : Fin 4} {j : Nat} {x : UInt32} (hd : decode q.2.1 pc = .ok (.aload_n n, 1)) (hv : L[j]? = some ((n : Nat), .float x)) (k : Sem d q mc ms (pc + 1) L (.float x :: st) h Qp) : Sem d q mc ms (pc) L (st) h Qp := by
  intro w HB p l e R s m args below meth c mcT msT H locs cells slots ls C hW hS hl h1 h2
  exact lv_aload_n C.1 C.2.1 hd rfl (at_em hl hv) (k w HB p l e R s m args below meth c mcT msT H locs cells slots ls C hW hS hl h1 h2)

theorem s_aloade {i j : Nat} {x : UInt32} (hd : decode q.2.1 pc = .ok (.aload i, 2)) (hv : L[j]? = some (i, .float x)) (k : Sem d q mc ms (pc + 2) L (.float x :: st) h Qp) : Sem d q mc ms (pc) L (st) h Qp := by
  intro w HB p l e R s m args below meth c mcT msT H locs cells slots ls C hW hS hl h1 h2
  exact lv_aload C.1 C.2.1 hd (at_em hl hv) (k w HB p l e R s m args below meth c mcT msT H locs cells slots ls C hW hS hl h1 h2)

theorem s_aload_n0 {n : Fin 4} {j : Nat} (hd : decode q.2.1 pc = .ok (.aload_n n, 1)) (hv : L[j]? = some ((n : Nat), .null)) (k : Sem d q mc ms (pc + 1) L (.null :: st) h Qp) : Sem d q mc ms (pc) L (st) h Qp := by
  intro w HB p l e R s m args below meth c mcT msT H locs cells slots ls C hW hS hl h1 h2
  exact lv_aload_nN C.1 C.2.1 hd rfl (at_em hl hv) (k w HB p l e R s m args below meth c mcT msT H locs cells slots ls C hW hS hl h1 h2)

theorem s_aload0 {i j : Nat} (hd : decode q.2.1 pc = .ok (.aload i, 2)) (hv : L[j]? = some (i, .null)) (k : Sem d q mc ms (pc + 2) L (.null :: st) h Qp) : Sem d q mc ms (pc) L (st) h Qp := by
  intro w HB p l e R s m args below meth c mcT msT H locs cells slots ls C hW hS hl h1 h2
  exact lv_aloadN C.1 C.2.1 hd (at_em hl hv) (k w HB p l e R s m args below meth c mcT msT H locs cells slots ls C hW hS hl h1 h2)

/-- the locals behind a store of one word, of two -/
def stL (i : Nat) (v : Value) (L : List (Nat × Value)) : List (Nat × Value) := (i, v) :: L.filter (fun q => !(q.1 == i) && !(q.1 + 1 == i && q.2.category == 2))
def stL2 (i : Nat) (v : Value) (L : List (Nat × Value)) : List (Nat × Value) := (i, v) :: L.filter (fun q => !(q.1 == i) && (!(q.1 == i + 1) && !(q.1 + 1 == i && q.2.category == 2)))
theorem stL_em {w : WP} {HB : Heap} {s : State} (hE : KX w HB s) (i : Nat) (v : Value) (L : List (Nat × Value)) : (i, em w v) :: (L.map fun x => (x.1, em w x.2)).filter (fun q => !(q.1 == i) && !(q.1 + 1 == i && q.2.category == 2)) = (stL i v L).map fun x => (x.1, em w x.2) := by
  unfold stL
  rw [List.map_cons, List.filter_map]
  congr 2
  apply List.filter_congr
  intro x _
  simp only [Function.comp, em_cat1 hE]
theorem stL2_em {w : WP} {HB : Heap} {s : State} (hE : KX w HB s) (i : Nat) (v : Value) (L : List (Nat × Value)) : (i, em w v) :: (L.map fun x => (x.1, em w x.2)).filter (fun q => !(q.1 == i) && (!(q.1 == i + 1) && !(q.1 + 1 == i && q.2.category == 2))) = (stL2 i v L).map fun x => (x.1, em w x.2) := by
  unfold stL2
  rw [List.map_cons, List.filter_map]
  congr 2
  apply List.filter_congr
  intro x _
  simp only [Function.comp, em_cat1 hE]

theorem s_istore_n {n : Fin 4} {x : Int32} {L' : List (Nat × Value)} (hd : decode q.2.1 pc = .ok (.istore_n n, 1)) (hn : (n : Nat) < q.2.2.1) (hL : stL (n : Nat) (.int x) L = L') (k : Sem d q mc ms (pc + 1) L' (st) h Qp) : Sem d q mc ms (pc) L (.int x :: st) h Qp := by
  intro w HB p l e R s m args below meth c mcT msT H locs cells slots ls C hW hS hl h1 h2
  subst hL
  exact lv_istore_n C.1 C.2.1 hd rfl hl hn (stL_em C.2.2.2.2.2.2.2.2.1 (n : Nat) (.int x) L) (fun ls hl => k w HB p l e R s m args below meth c mcT msT H locs cells slots ls C hW hS hl h1 h2)

theorem s_istore {i : Nat} {x : Int32} {L' : List (Nat × Value)} (hd : decode q.2.1 pc = .ok (.istore i, 2)) (hn : i < q.2.2.1) (hL : stL i (.int x) L = L') (k : Sem d q mc ms (pc + 2) L' (st) h Qp) : Sem d q mc ms (pc) L (.int x :: st) h Qp := by
  intro w HB p l e R s m args below meth c mcT msT H locs cells slots ls C hW hS hl h1 h2
  subst hL
  exact lv_istore C.1 C.2.1 hd hl hn (stL_em C.2.2.2.2.2.2.2.2.1 i (.int x) L) (fun ls hl => k w HB p l e R s m args below meth c mcT msT H locs cells slots ls C hW hS hl h1 h2)

theorem s_lstore_n {n : Fin 4} {x : Int64} {L' : List (Nat × Value)} (hd : decode q.2.1 pc = .ok (.lstore_n n, 1)) (hn : (n : Nat) + 1 < q.2.2.1) (hL : stL2 (n : Nat) (.long x) L = L') (k : Sem d q mc ms (pc + 1) L' (st) h Qp) : Sem d q mc ms (pc) L (.long x :: st) h Qp := by
  intro w HB p l e R s m args below meth c mcT msT H locs cells slots ls C hW hS hl h1 h2
  subst hL
  exact lv_lstore_n C.1 C.2.1 hd rfl hl hn (stL2_em C.2.2.2.2.2.2.2.2.1 (n : Nat) (.long x) L) (fun ls hl => k w HB p l e R s m args below meth c mcT msT H locs cells slots ls C hW hS hl h1 h2)

theorem s_lstore {i : Nat} {x : Int64} {L' : List (Nat × Value)} (hd : decode q.2.1 pc = .ok (.lstore i, 2)) (hn : i + 1 < q.2.2.1) (hL : stL2 i (.long x) L = L') (k : Sem d q mc ms (pc + 2) L' (st) h Qp) : Sem d q mc ms (pc) L (.long x :: st) h Qp := by
  intro w HB p l e R s m args below meth c mcT msT H locs cells slots ls C hW hS hl h1 h2
  subst hL
  exact lv_lstore C.1 C.2.1 hd hl hn (stL2_em C.2.2.2.2.2.2.2.2.1 i (.long x) L) (fun ls hl => k w HB p l e R s m args below meth c mcT msT H locs cells slots ls C hW hS hl h1 h2)

theorem s_astore_nr {n : Fin 4} {x : Nat} {L' : List (Nat × Value)} (hd : decode q.2.1 pc = .ok (.astore_n n, 1)) (hn : (n : Nat) < q.2.2.1) (hL : stL (n : Nat) (.ref x) L = L') (k : Sem d q mc ms (pc + 1) L' (st) h Qp) : Sem d q mc ms (pc) L (.ref x :: st) h Qp := by
  intro w HB p l e R s m args below meth c mcT msT H locs cells slots ls C hW hS hl h1 h2
  subst hL
  exact lv_astore_n C.1 C.2.1 hd rfl hl hn (stL_em C.2.2.2.2.2.2.2.2.1 (n : Nat) (.ref x) L) (fun ls hl => k w HB p l e R s m args below meth c mcT msT H locs cells slots ls C hW hS hl h1 h2)

theorem s_astorer {i : Nat} {x : Nat} {L' : List (Nat × Value)} (hd : decode q.2.1 pc = .ok (.astore i, 2)) (hn : i < q.2.2.1) (hL : stL i (.ref x) L = L') (k : Sem d q mc ms (pc + 2) L' (st) h Qp) : Sem d q mc ms (pc) L (.ref x :: st) h Qp := by
  intro w HB p l e R s m args below meth c mcT msT H locs cells slots ls C hW hS hl h1 h2
  subst hL
  exact lv_astore C.1 C.2.1 hd hl hn (stL_em C.2.2.2.2.2.2.2.2.1 i (.ref x) L) (fun ls hl => k w HB p l e R s m args below meth c mcT msT H locs cells slots ls C hW hS hl h1 h2)

theorem s_astore_ne {n : Fin 4} {x : UInt32} {L' : List (Nat × Value)} (hd : decode q.2.1 pc = .ok (.astore_n n, 1)) (hn : (n : Nat) < q.2.2.1) (hL : stL (n : Nat) (.float x) L = L') (k : Sem d q mc ms (pc + 1) L' (st) h Qp) : Sem d q mc ms (pc) L (.float x :: st) h Qp := by
  intro w HB p l e R s m args below meth c mcT msT H locs cells slots ls C hW hS hl h1 h2
  subst hL
  exact lv_astore_n C.1 C.2.1 hd rfl hl hn (stL_em C.2.2.2.2.2.2.2.2.1 (n : Nat) (.float x) L) (fun ls hl => k w HB p l e R s m args below meth c mcT msT H locs cells slots ls C hW hS hl h1 h2)

theorem s_astoree {i : Nat} {x : UInt32} {L' : List (Nat × Value)} (hd : decode q.2.1 pc = .ok (.astore i, 2)) (hn : i < q.2.2.1) (hL : stL i (.float x) L = L') (k : Sem d q mc ms (pc + 2) L' (st) h Qp) : Sem d q mc ms (pc) L (.float x :: st) h Qp := by
  intro w HB p l e R s m args below meth c mcT msT H locs cells slots ls C hW hS hl h1 h2
  subst hL
  exact lv_astore C.1 C.2.1 hd hl hn (stL_em C.2.2.2.2.2.2.2.2.1 i (.float x) L) (fun ls hl => k w HB p l e R s m args below meth c mcT msT H locs cells slots ls C hW hS hl h1 h2)

theorem s_iinc {i j : Nat} {n : Int} {x v : Int32} {L' : List (Nat × Value)} (hd : decode q.2.1 pc = .ok (.iinc i n, 3)) (hk : L[j]? = some (i, .int x)) (hv : x + Int32.ofInt n = v) (hn : i < q.2.2.1) (hL : stL i (.int v) L = L') (k : Sem d q mc ms (pc + 3) L' (st) h Qp) : Sem d q mc ms (pc) L (st) h Qp := by
  intro w HB p l e R s m args below meth c mcT msT H locs cells slots ls C hW hS hl h1 h2
  subst hL
  exact lv_iinc C.1 C.2.1 hd hl (k := j) (by rw [List.getElem?_map, hk]; rfl) hv hn (stL_em C.2.2.2.2.2.2.2.2.1 i (.int v) L) (fun ls hl => k w HB p l e R s m args below meth c mcT msT H locs cells slots ls C hW hS hl h1 h2)

theorem s_locals {L' : List (Nat × Value)} (ks : List Nat) (hL : lv_pick L ks = L') (k : Sem d q mc ms (pc) L' (st) h Qp) : Sem d q mc ms (pc) L (st) h Qp := by
  intro w HB p l e R s m args below meth c mcT msT H locs cells slots ls C hW hS hl h1 h2
  subst hL
  exact k w HB p l e R s m args below meth c mcT msT H locs cells slots ls C hW hS (lv_sub hl ks (by simp only [lv_pick, List.getElem?_map, List.map_filterMap])) h1 h2

theorem s_iadd {x y : Int32} (hd : decode q.2.1 pc = .ok (.iadd, 1)) (k : Sem d q mc ms (pc + 1) L (.int (x + y) :: st) h Qp) : Sem d q mc ms (pc) L (.int y :: .int x :: st) h Qp := by
  intro w HB p l e R s m args below meth c mcT msT H locs cells slots ls C hW hS hl h1 h2
  exact lv_iadd C.1 C.2.1 hd (k w HB p l e R s m args below meth c mcT msT H locs cells slots ls C hW hS hl h1 h2)

theorem s_isub {x y : Int32} (hd : decode q.2.1 pc = .ok (.isub, 1)) (k : Sem d q mc ms (pc + 1) L (.int (x - y) :: st) h Qp) : Sem d q mc ms (pc) L (.int y :: .int x :: st) h Qp := by
  intro w HB p l e R s m args below meth c mcT msT H locs cells slots ls C hW hS hl h1 h2
  exact lv_isub C.1 C.2.1 hd (k w HB p l e R s m args below meth c mcT msT H locs cells slots ls C hW hS hl h1 h2)

theorem s_imul {x y : Int32} (hd : decode q.2.1 pc = .ok (.imul, 1)) (k : Sem d q mc ms (pc + 1) L (.int (x * y) :: st) h Qp) : Sem d q mc ms (pc) L (.int y :: .int x :: st) h Qp := by
  intro w HB p l e R s m args below meth c mcT msT H locs cells slots ls C hW hS hl h1 h2
  exact lv_imul C.1 C.2.1 hd (k w HB p l e R s m args below meth c mcT msT H locs cells slots ls C hW hS hl h1 h2)

theorem s_iand {x y : Int32} (hd : decode q.2.1 pc = .ok (.iand, 1)) (k : Sem d q mc ms (pc + 1) L (.int (x &&& y) :: st) h Qp) : Sem d q mc ms (pc) L (.int y :: .int x :: st) h Qp := by
  intro w HB p l e R s m args below meth c mcT msT H locs cells slots ls C hW hS hl h1 h2
  exact lv_iand C.1 C.2.1 hd (k w HB p l e R s m args below meth c mcT msT H locs cells slots ls C hW hS hl h1 h2)

theorem s_ior {x y : Int32} (hd : decode q.2.1 pc = .ok (.ior, 1)) (k : Sem d q mc ms (pc + 1) L (.int (x ||| y) :: st) h Qp) : Sem d q mc ms (pc) L (.int y :: .int x :: st) h Qp := by
  intro w HB p l e R s m args below meth c mcT msT H locs cells slots ls C hW hS hl h1 h2
  exact lv_ior C.1 C.2.1 hd (k w HB p l e R s m args below meth c mcT msT H locs cells slots ls C hW hS hl h1 h2)

theorem s_ixor {x y : Int32} (hd : decode q.2.1 pc = .ok (.ixor, 1)) (k : Sem d q mc ms (pc + 1) L (.int (x ^^^ y) :: st) h Qp) : Sem d q mc ms (pc) L (.int y :: .int x :: st) h Qp := by
  intro w HB p l e R s m args below meth c mcT msT H locs cells slots ls C hW hS hl h1 h2
  exact lv_ixor C.1 C.2.1 hd (k w HB p l e R s m args below meth c mcT msT H locs cells slots ls C hW hS hl h1 h2)

theorem s_ishl {x y : Int32} (hd : decode q.2.1 pc = .ok (.ishl, 1)) (k : Sem d q mc ms (pc + 1) L (.int (x <<< (y &&& 31)) :: st) h Qp) : Sem d q mc ms (pc) L (.int y :: .int x :: st) h Qp := by
  intro w HB p l e R s m args below meth c mcT msT H locs cells slots ls C hW hS hl h1 h2
  exact lv_ishl C.1 C.2.1 hd (k w HB p l e R s m args below meth c mcT msT H locs cells slots ls C hW hS hl h1 h2)

theorem s_ishr {x y : Int32} (hd : decode q.2.1 pc = .ok (.ishr, 1)) (k : Sem d q mc ms (pc + 1) L (.int (x >>> (y &&& 31)) :: st) h Qp) : Sem d q mc ms (pc) L (.int y :: .int x :: st) h Qp := by
  intro w HB p l e R s m args below meth c mcT msT H locs cells slots ls C hW hS hl h1 h2
  exact lv_ishr C.1 C.2.1 hd (k w HB p l e R s m args below meth c mcT msT H locs cells slots ls C hW hS hl h1 h2)

theorem s_idiv {x y : Int32} (hd : decode q.2.1 pc = .ok (.idiv, 1)) (hy : ¬ y = 0) (k : Sem d q mc ms (pc + 1) L (.int (x / y) :: st) h Qp) : Sem d q mc ms (pc) L (.int y :: .int x :: st) h Qp := by
  intro w HB p l e R s m args below meth c mcT msT H locs cells slots ls C hW hS hl h1 h2
  exact lv_idiv C.1 C.2.1 hd hy (k w HB p l e R s m args below meth c mcT msT H locs cells slots ls C hW hS hl h1 h2)

theorem s_irem {x y : Int32} (hd : decode q.2.1 pc = .ok (.irem, 1)) (hy : ¬ y = 0) (k : Sem d q mc ms (pc + 1) L (.int (x % y) :: st) h Qp) : Sem d q mc ms (pc) L (.int y :: .int x :: st) h Qp := by
  intro w HB p l e R s m args below meth c mcT msT H locs cells slots ls C hW hS hl h1 h2
  refine lv_irem C.1 C.2.1 hd hy ?_
  rw [irem_eq_mod]
  exact (k w HB p l e R s m args below meth c mcT msT H locs cells slots ls C hW hS hl h1 h2)

theorem s_ineg {x : Int32} (hd : decode q.2.1 pc = .ok (.ineg, 1)) (k : Sem d q mc ms (pc + 1) L (.int (-x) :: st) h Qp) : Sem d q mc ms (pc) L (.int x :: st) h Qp := by
  intro w HB p l e R s m args below meth c mcT msT H locs cells slots ls C hW hS hl h1 h2
  exact lv_ineg C.1 C.2.1 hd (k w HB p l e R s m args below meth c mcT msT H locs cells slots ls C hW hS hl h1 h2)

theorem s_ladd {x y : Int64} (hd : decode q.2.1 pc = .ok (.ladd, 1)) (k : Sem d q mc ms (pc + 1) L (.long (x + y) :: st) h Qp) : Sem d q mc ms (pc) L (.long y :: .long x :: st) h Qp := by
  intro w HB p l e R s m args below meth c mcT msT H locs cells slots ls C hW hS hl h1 h2
  exact lv_ladd C.1 C.2.1 hd (k w HB p l e R s m args below meth c mcT msT H locs cells slots ls C hW hS hl h1 h2)

theorem s_lsub {x y : Int64} (hd : decode q.2.1 pc = .ok (.lsub, 1)) (k : Sem d q mc ms (pc + 1) L (.long (x - y) :: st) h Qp) : Sem d q mc ms (pc) L (.long y :: .long x :: st) h Qp := by
  intro w HB p l e R s m args below meth c mcT msT H locs cells slots ls C hW hS hl h1 h2
  exact lv_lsub C.1 C.2.1 hd (k w HB p l e R s m args below meth c mcT msT H locs cells slots ls C hW hS hl h1 h2)

theorem s_lmul {x y : Int64} (hd : decode q.2.1 pc = .ok (.lmul, 1)) (k : Sem d q mc ms (pc + 1) L (.long (x * y) :: st) h Qp) : Sem d q mc ms (pc) L (.long y :: .long x :: st) h Qp := by
  intro w HB p l e R s m args below meth c mcT msT H locs cells slots ls C hW hS hl h1 h2
  exact lv_lmul C.1 C.2.1 hd (k w HB p l e R s m args below meth c mcT msT H locs cells slots ls C hW hS hl h1 h2)

theorem s_land {x y : Int64} (hd : decode q.2.1 pc = .ok (.land, 1)) (k : Sem d q mc ms (pc + 1) L (.long (x &&& y) :: st) h Qp) : Sem d q mc ms (pc) L (.long y :: .long x :: st) h Qp := by
  intro w HB p l e R s m args below meth c mcT msT H locs cells slots ls C hW hS hl h1 h2
  exact lv_land C.1 C.2.1 hd (k w HB p l e R s m args below meth c mcT msT H locs cells slots ls C hW hS hl h1 h2)

theorem s_lor {x y : Int64} (hd : decode q.2.1 pc = .ok (.lor, 1)) (k : Sem d q mc ms (pc + 1) L (.long (x ||| y) :: st) h Qp) : Sem d q mc ms (pc) L (.long y :: .long x :: st) h Qp := by
  intro w HB p l e R s m args below meth c mcT msT H locs cells slots ls C hW hS hl h1 h2
  exact lv_lor C.1 C.2.1 hd (k w HB p l e R s m args below meth c mcT msT H locs cells slots ls C hW hS hl h1 h2)

theorem s_ldiv {x y : Int64} (hd : decode q.2.1 pc = .ok (.ldiv, 1)) (hy : ¬ y = 0) (k : Sem d q mc ms (pc + 1) L (.long (x / y) :: st) h Qp) : Sem d q mc ms (pc) L (.long y :: .long x :: st) h Qp := by
  intro w HB p l e R s m args below meth c mcT msT H locs cells slots ls C hW hS hl h1 h2
  exact lv_ldiv C.1 C.2.1 hd hy (k w HB p l e R s m args below meth c mcT msT H locs cells slots ls C hW hS hl h1 h2)

theorem s_lrem {x y : Int64} (hd : decode q.2.1 pc = .ok (.lrem, 1)) (hy : ¬ y = 0) (k : Sem d q mc ms (pc + 1) L (.long (x - x / y * y) :: st) h Qp) : Sem d q mc ms (pc) L (.long y :: .long x :: st) h Qp := by
  intro w HB p l e R s m args below meth c mcT msT H locs cells slots ls C hW hS hl h1 h2
  exact lv_lrem C.1 C.2.1 hd hy (k w HB p l e R s m args below meth c mcT msT H locs cells slots ls C hW hS hl h1 h2)

theorem s_lshl {x : Int64} {y : Int32} (hd : decode q.2.1 pc = .ok (.lshl, 1)) (k : Sem d q mc ms (pc + 1) L (.long (x <<< (y.toInt64 &&& 63)) :: st) h Qp) : Sem d q mc ms (pc) L (.int y :: .long x :: st) h Qp := by
  intro w HB p l e R s m args below meth c mcT msT H locs cells slots ls C hW hS hl h1 h2
  exact lv_lshl C.1 C.2.1 hd rfl (k w HB p l e R s m args below meth c mcT msT H locs cells slots ls C hW hS hl h1 h2)

theorem s_i2l {x : Int32} (hd : decode q.2.1 pc = .ok (.i2l, 1)) (k : Sem d q mc ms (pc + 1) L (.long x.toInt64 :: st) h Qp) : Sem d q mc ms (pc) L (.int x :: st) h Qp := by
  intro w HB p l e R s m args below meth c mcT msT H locs cells slots ls C hW hS hl h1 h2
  exact lv_i2l C.1 C.2.1 hd rfl (k w HB p l e R s m args below meth c mcT msT H locs cells slots ls C hW hS hl h1 h2)

theorem s_l2i {x : Int64} (hd : decode q.2.1 pc = .ok (.l2i, 1)) (k : Sem d q mc ms (pc + 1) L (.int x.toInt32 :: st) h Qp) : Sem d q mc ms (pc) L (.long x :: st) h Qp := by
  intro w HB p l e R s m args below meth c mcT msT H locs cells slots ls C hW hS hl h1 h2
  exact lv_l2i C.1 C.2.1 hd rfl (k w HB p l e R s m args below meth c mcT msT H locs cells slots ls C hW hS hl h1 h2)

theorem s_i2b {x : Int32} (hd : decode q.2.1 pc = .ok (.i2b, 1)) (k : Sem d q mc ms (pc + 1) L (.int x.toInt8.toInt32 :: st) h Qp) : Sem d q mc ms (pc) L (.int x :: st) h Qp := by
  intro w HB p l e R s m args below meth c mcT msT H locs cells slots ls C hW hS hl h1 h2
  exact lv_i2b C.1 C.2.1 hd rfl (k w HB p l e R s m args below meth c mcT msT H locs cells slots ls C hW hS hl h1 h2)

theorem s_i2s {x : Int32} (hd : decode q.2.1 pc = .ok (.i2s, 1)) (k : Sem d q mc ms (pc + 1) L (.int x.toInt16.toInt32 :: st) h Qp) : Sem d q mc ms (pc) L (.int x :: st) h Qp := by
  intro w HB p l e R s m args below meth c mcT msT H locs cells slots ls C hW hS hl h1 h2
  exact lv_i2s C.1 C.2.1 hd rfl (k w HB p l e R s m args below meth c mcT msT H locs cells slots ls C hW hS hl h1 h2)

theorem s_i2c {x : Int32} (hd : decode q.2.1 pc = .ok (.i2c, 1)) (k : Sem d q mc ms (pc + 1) L (.int (x.toUInt32 % 65536).toInt32 :: st) h Qp) : Sem d q mc ms (pc) L (.int x :: st) h Qp := by
  intro w HB p l e R s m args below meth c mcT msT H locs cells slots ls C hW hS hl h1 h2
  exact lv_i2c C.1 C.2.1 hd rfl (k w HB p l e R s m args below meth c mcT msT H locs cells slots ls C hW hS hl h1 h2)

theorem s_lcmp {x y : Int64} (hd : decode q.2.1 pc = .ok (.lcmp, 1)) (k : Sem d q mc ms (pc + 1) L (.int (lg_cmp x y) :: st) h Qp) : Sem d q mc ms (pc) L (.long y :: .long x :: st) h Qp := by
  intro w HB p l e R s m args below meth c mcT msT H locs cells slots ls C hW hS hl h1 h2
  exact W.lcmp C.1 C.2.1 hd (k w HB p l e R s m args below meth c mcT msT H locs cells slots ls C hW hS hl h1 h2)

theorem s_dup {v : Value} (hd : decode q.2.1 pc = .ok (.dup, 1)) (hv : v.category = 1) (k : Sem d q mc ms (pc + 1) L (v :: v :: st) h Qp) : Sem d q mc ms (pc) L (v :: st) h Qp := by
  intro w HB p l e R s m args below meth c mcT msT H locs cells slots ls C hW hS hl h1 h2
  exact lv_dup C.1 C.2.1 hd ((em_cat1 C.2.2.2.2.2.2.2.2.1 v).trans hv) (k w HB p l e R s m args below meth c mcT msT H locs cells slots ls C hW hS hl h1 h2)

theorem s_pop {v : Value} (hd : decode q.2.1 pc = .ok (.pop, 1)) (hv : v.category = 1) (k : Sem d q mc ms (pc + 1) L (st) h Qp) : Sem d q mc ms (pc) L (v :: st) h Qp := by
  intro w HB p l e R s m args below meth c mcT msT H locs cells slots ls C hW hS hl h1 h2
  exact lv_pop C.1 C.2.1 hd ((em_cat1 C.2.2.2.2.2.2.2.2.1 v).trans hv) (k w HB p l e R s m args below meth c mcT msT H locs cells slots ls C hW hS hl h1 h2)

theorem s_dup_x1 {v u : Value} (hd : decode q.2.1 pc = .ok (.dup_x1, 1)) (hv : v.category = 1) (hu : u.category = 1) (k : Sem d q mc ms (pc + 1) L (v :: u :: v :: st) h Qp) : Sem d q mc ms (pc) L (v :: u :: st) h Qp := by
  intro w HB p l e R s m args below meth c mcT msT H locs cells slots ls C hW hS hl h1 h2
  exact lv_dup_x1 C.1 C.2.1 hd ((em_cat1 C.2.2.2.2.2.2.2.2.1 v).trans hv) ((em_cat1 C.2.2.2.2.2.2.2.2.1 u).trans hu) (k w HB p l e R s m args below meth c mcT msT H locs cells slots ls C hW hS hl h1 h2)

theorem s_dup2 {v u : Value} (hd : decode q.2.1 pc = .ok (.dup2, 1)) (hv : v.category = 1) (hu : u.category = 1) (k : Sem d q mc ms (pc + 1) L (v :: u :: v :: u :: st) h Qp) : Sem d q mc ms (pc) L (v :: u :: st) h Qp := by
  intro w HB p l e R s m args below meth c mcT msT H locs cells slots ls C hW hS hl h1 h2
  exact lv_dup2_11 C.1 C.2.1 hd ((em_cat1 C.2.2.2.2.2.2.2.2.1 v).trans hv) ((em_cat1 C.2.2.2.2.2.2.2.2.1 u).trans hu) (k w HB p l e R s m args below meth c mcT msT H locs cells slots ls C hW hS hl h1 h2)

theorem s_if_eq {x : Int32} {off : Int} {tgt : Nat} (hd : decode q.2.1 pc = .ok (.ifCond .eq off, 3)) (ht : (pc : Int) + off = (tgt : Int)) (kt : x = 0 → Sem d q mc ms (tgt) L (st) h Qp) (kf : ¬ x = 0 → Sem d q mc ms (pc + 3) L (st) h Qp) : Sem d q mc ms (pc) L (.int x :: st) h Qp := by
  intro w HB p l e R s m args below meth c mcT msT H locs cells slots ls C hW hS hl h1 h2
  exact lv_if_eq C.1 C.2.1 hd ht (fun cc => kt cc w HB p l e R s m args below meth c mcT msT H locs cells slots ls C hW hS hl h1 h2) (fun cc => kf cc w HB p l e R s m args below meth c mcT msT H locs cells slots ls C hW hS hl h1 h2)

theorem s_icmp_eq {x y : Int32} {off : Int} {tgt : Nat} (hd : decode q.2.1 pc = .ok (.if_icmp .eq off, 3)) (ht : (pc : Int) + off = (tgt : Int)) (kt : x = y → Sem d q mc ms (tgt) L (st) h Qp) (kf : ¬ x = y → Sem d q mc ms (pc + 3) L (st) h Qp) : Sem d q mc ms (pc) L (.int y :: .int x :: st) h Qp := by
  intro w HB p l e R s m args below meth c mcT msT H locs cells slots ls C hW hS hl h1 h2
  exact lv_icmp_eq C.1 C.2.1 hd ht (fun cc => kt cc w HB p l e R s m args below meth c mcT msT H locs cells slots ls C hW hS hl h1 h2) (fun cc => kf cc w HB p l e R s m args below meth c mcT msT H locs cells slots ls C hW hS hl h1 h2)

theorem s_if_ne {x : Int32} {off : Int} {tgt : Nat} (hd : decode q.2.1 pc = .ok (.ifCond .ne off, 3)) (ht : (pc : Int) + off = (tgt : Int)) (kt : ¬ x = 0 → Sem d q mc ms (tgt) L (st) h Qp) (kf : x = 0 → Sem d q mc ms (pc + 3) L (st) h Qp) : Sem d q mc ms (pc) L (.int x :: st) h Qp := by
  intro w HB p l e R s m args below meth c mcT msT H locs cells slots ls C hW hS hl h1 h2
  exact lv_if_ne C.1 C.2.1 hd ht (fun cc => kt cc w HB p l e R s m args below meth c mcT msT H locs cells slots ls C hW hS hl h1 h2) (fun cc => kf cc w HB p l e R s m args below meth c mcT msT H locs cells slots ls C hW hS hl h1 h2)

theorem s_icmp_ne {x y : Int32} {off : Int} {tgt : Nat} (hd : decode q.2.1 pc = .ok (.if_icmp .ne off, 3)) (ht : (pc : Int) + off = (tgt : Int)) (kt : ¬ x = y → Sem d q mc ms (tgt) L (st) h Qp) (kf : x = y → Sem d q mc ms (pc + 3) L (st) h Qp) : Sem d q mc ms (pc) L (.int y :: .int x :: st) h Qp := by
  intro w HB p l e R s m args below meth c mcT msT H locs cells slots ls C hW hS hl h1 h2
  exact lv_icmp_ne C.1 C.2.1 hd ht (fun cc => kt cc w HB p l e R s m args below meth c mcT msT H locs cells slots ls C hW hS hl h1 h2) (fun cc => kf cc w HB p l e R s m args below meth c mcT msT H locs cells slots ls C hW hS hl h1 h2)

theorem s_if_lt {x : Int32} {off : Int} {tgt : Nat} (hd : decode q.2.1 pc = .ok (.ifCond .lt off, 3)) (ht : (pc : Int) + off = (tgt : Int)) (kt : x < 0 → Sem d q mc ms (tgt) L (st) h Qp) (kf : ¬ x < 0 → Sem d q mc ms (pc + 3) L (st) h Qp) : Sem d q mc ms (pc) L (.int x :: st) h Qp := by
  intro w HB p l e R s m args below meth c mcT msT H locs cells slots ls C hW hS hl h1 h2
  exact lv_if_lt C.1 C.2.1 hd ht (fun cc => kt cc w HB p l e R s m args below meth c mcT msT H locs cells slots ls C hW hS hl h1 h2) (fun cc => kf cc w HB p l e R s m args below meth c mcT msT H locs cells slots ls C hW hS hl h1 h2)

theorem s_icmp_lt {x y : Int32} {off : Int} {tgt : Nat} (hd : decode q.2.1 pc = .ok (.if_icmp .lt off, 3)) (ht : (pc : Int) + off = (tgt : Int)) (kt : x < y → Sem d q mc ms (tgt) L (st) h Qp) (kf : ¬ x < y → Sem d q mc ms (pc + 3) L (st) h Qp) : Sem d q mc ms (pc) L (.int y :: .int x :: st) h Qp := by
  intro w HB p l e R s m args below meth c mcT msT H locs cells slots ls C hW hS hl h1 h2
  exact lv_icmp_lt C.1 C.2.1 hd ht (fun cc => kt cc w HB p l e R s m args below meth c mcT msT H locs cells slots ls C hW hS hl h1 h2) (fun cc => kf cc w HB p l e R s m args below meth c mcT msT H locs cells slots ls C hW hS hl h1 h2)

theorem s_if_ge {x : Int32} {off : Int} {tgt : Nat} (hd : decode q.2.1 pc = .ok (.ifCond .ge off, 3)) (ht : (pc : Int) + off = (tgt : Int)) (kt : 0 ≤ x → Sem d q mc ms (tgt) L (st) h Qp) (kf : ¬ 0 ≤ x → Sem d q mc ms (pc + 3) L (st) h Qp) : Sem d q mc ms (pc) L (.int x :: st) h Qp := by
  intro w HB p l e R s m args below meth c mcT msT H locs cells slots ls C hW hS hl h1 h2
  exact lv_if_ge C.1 C.2.1 hd ht (fun cc => kt cc w HB p l e R s m args below meth c mcT msT H locs cells slots ls C hW hS hl h1 h2) (fun cc => kf cc w HB p l e R s m args below meth c mcT msT H locs cells slots ls C hW hS hl h1 h2)

theorem s_icmp_ge {x y : Int32} {off : Int} {tgt : Nat} (hd : decode q.2.1 pc = .ok (.if_icmp .ge off, 3)) (ht : (pc : Int) + off = (tgt : Int)) (kt : y ≤ x → Sem d q mc ms (tgt) L (st) h Qp) (kf : ¬ y ≤ x → Sem d q mc ms (pc + 3) L (st) h Qp) : Sem d q mc ms (pc) L (.int y :: .int x :: st) h Qp := by
  intro w HB p l e R s m args below meth c mcT msT H locs cells slots ls C hW hS hl h1 h2
  exact lv_icmp_ge C.1 C.2.1 hd ht (fun cc => kt cc w HB p l e R s m args below meth c mcT msT H locs cells slots ls C hW hS hl h1 h2) (fun cc => kf cc w HB p l e R s m args below meth c mcT msT H locs cells slots ls C hW hS hl h1 h2)

theorem s_if_gt {x : Int32} {off : Int} {tgt : Nat} (hd : decode q.2.1 pc = .ok (.ifCond .gt off, 3)) (ht : (pc : Int) + off = (tgt : Int)) (kt : 0 < x → Sem d q mc ms (tgt) L (st) h Qp) (kf : ¬ 0 < x → Sem d q mc ms (pc + 3) L (st) h Qp) : Sem d q mc ms (pc) L (.int x :: st) h Qp := by
  intro w HB p l e R s m args below meth c mcT msT H locs cells slots ls C hW hS hl h1 h2
  exact lv_if_gt C.1 C.2.1 hd ht (fun cc => kt cc w HB p l e R s m args below meth c mcT msT H locs cells slots ls C hW hS hl h1 h2) (fun cc => kf cc w HB p l e R s m args below meth c mcT msT H locs cells slots ls C hW hS hl h1 h2)

theorem s_icmp_gt {x y : Int32} {off : Int} {tgt : Nat} (hd : decode q.2.1 pc = .ok (.if_icmp .gt off, 3)) (ht : (pc : Int) + off = (tgt : Int)) (kt : y < x → Sem d q mc ms (tgt) L (st) h Qp) (kf : ¬ y < x → Sem d q mc ms (pc + 3) L (st) h Qp) : Sem d q mc ms (pc) L (.int y :: .int x :: st) h Qp := by
  intro w HB p l e R s m args below meth c mcT msT H locs cells slots ls C hW hS hl h1 h2
  exact lv_icmp_gt C.1 C.2.1 hd ht (fun cc => kt cc w HB p l e R s m args below meth c mcT msT H locs cells slots ls C hW hS hl h1 h2) (fun cc => kf cc w HB p l e R s m args below meth c mcT msT H locs cells slots ls C hW hS hl h1 h2)

theorem s_if_le {x : Int32} {off : Int} {tgt : Nat} (hd : decode q.2.1 pc = .ok (.ifCond .le off, 3)) (ht : (pc : Int) + off = (tgt : Int)) (kt : x ≤ 0 → Sem d q mc ms (tgt) L (st) h Qp) (kf : ¬ x ≤ 0 → Sem d q mc ms (pc + 3) L (st) h Qp) : Sem d q mc ms (pc) L (.int x :: st) h Qp := by
  intro w HB p l e R s m args below meth c mcT msT H locs cells slots ls C hW hS hl h1 h2
  exact lv_if_le C.1 C.2.1 hd ht (fun cc => kt cc w HB p l e R s m args below meth c mcT msT H locs cells slots ls C hW hS hl h1 h2) (fun cc => kf cc w HB p l e R s m args below meth c mcT msT H locs cells slots ls C hW hS hl h1 h2)

theorem s_icmp_le {x y : Int32} {off : Int} {tgt : Nat} (hd : decode q.2.1 pc = .ok (.if_icmp .le off, 3)) (ht : (pc : Int) + off = (tgt : Int)) (kt : x ≤ y → Sem d q mc ms (tgt) L (st) h Qp) (kf : ¬ x ≤ y → Sem d q mc ms (pc + 3) L (st) h Qp) : Sem d q mc ms (pc) L (.int y :: .int x :: st) h Qp := by
  intro w HB p l e R s m args below meth c mcT msT H locs cells slots ls C hW hS hl h1 h2
  exact lv_icmp_le C.1 C.2.1 hd ht (fun cc => kt cc w HB p l e R s m args below meth c mcT msT H locs cells slots ls C hW hS hl h1 h2) (fun cc => kf cc w HB p l e R s m args below meth c mcT msT H locs cells slots ls C hW hS hl h1 h2)

theorem s_goto {off : Int} {tgt : Nat} (hd : decode q.2.1 pc = .ok (.goto off, 3)) (ht : (pc : Int) + off = (tgt : Int)) (k : Sem d q mc ms (tgt) L (st) h Qp) : Sem d q mc ms (pc) L (st) h Qp := by
  intro w HB p l e R s m args below meth c mcT msT H locs cells slots ls C hW hS hl h1 h2
  exact lv_goto C.1 C.2.1 hd ht (k w HB p l e R s m args below meth c mcT msT H locs cells slots ls C hW hS hl h1 h2)

theorem s_ifnonnullr {x : Nat} {off : Int} {tgt : Nat} (hd : decode q.2.1 pc = .ok (.ifnonnull off, 3)) (ht : (pc : Int) + off = (tgt : Int)) (k : Sem d q mc ms (tgt) L (st) h Qp) : Sem d q mc ms (pc) L (.ref x :: st) h Qp := by
  intro w HB p l e R s m args below meth c mcT msT H locs cells slots ls C hW hS hl h1 h2
  exact lv_ifnonnull C.1 C.2.1 hd ht (k w HB p l e R s m args below meth c mcT msT H locs cells slots ls C hW hS hl h1 h2)

theorem s_ifnullr {x : Nat} {off : Int} (hd : decode q.2.1 pc = .ok (.ifnull off, 3)) (k : Sem d q mc ms (pc + 3) L (st) h Qp) : Sem d q mc ms (pc) L (.ref x :: st) h Qp := by
  intro w HB p l e R s m args below meth c mcT msT H locs cells slots ls C hW hS hl h1 h2
  exact lv_ifnull C.1 C.2.1 hd (k w HB p l e R s m args below meth c mcT msT H locs cells slots ls C hW hS hl h1 h2)

theorem s_ifnonnulle {x : UInt32} {off : Int} {tgt : Nat} (hd : decode q.2.1 pc = .ok (.ifnonnull off, 3)) (ht : (pc : Int) + off = (tgt : Int)) (k : Sem d q mc ms (tgt) L (st) h Qp) : Sem d q mc ms (pc) L (.float x :: st) h Qp := by
  intro w HB p l e R s m args below meth c mcT msT H locs cells slots ls C hW hS hl h1 h2
  exact lv_ifnonnull C.1 C.2.1 hd ht (k w HB p l e R s m args below meth c mcT msT H locs cells slots ls C hW hS hl h1 h2)

theorem s_ifnulle {x : UInt32} {off : Int} (hd : decode q.2.1 pc = .ok (.ifnull off, 3)) (k : Sem d q mc ms (pc + 3) L (st) h Qp) : Sem d q mc ms (pc) L (.float x :: st) h Qp := by
  intro w HB p l e R s m args below meth c mcT msT H locs cells slots ls C hW hS hl h1 h2
  exact lv_ifnull C.1 C.2.1 hd (k w HB p l e R s m args below meth c mcT msT H locs cells slots ls C hW hS hl h1 h2)

theorem s_ifnonnull0 {off : Int} (hd : decode q.2.1 pc = .ok (.ifnonnull off, 3)) (k : Sem d q mc ms (pc + 3) L (st) h Qp) : Sem d q mc ms (pc) L (.null :: st) h Qp := by
  intro w HB p l e R s m args below meth c mcT msT H locs cells slots ls C hW hS hl h1 h2
  exact lv_ifnonnullN C.1 C.2.1 hd (k w HB p l e R s m args below meth c mcT msT H locs cells slots ls C hW hS hl h1 h2)

theorem s_ifnull0 {off : Int} {tgt : Nat} (hd : decode q.2.1 pc = .ok (.ifnull off, 3)) (ht : (pc : Int) + off = (tgt : Int)) (k : Sem d q mc ms (tgt) L (st) h Qp) : Sem d q mc ms (pc) L (.null :: st) h Qp := by
  intro w HB p l e R s m args below meth c mcT msT H locs cells slots ls C hW hS hl h1 h2
  exact lv_ifnullN C.1 C.2.1 hd ht (k w HB p l e R s m args below meth c mcT msT H locs cells slots ls C hW hS hl h1 h2)

theorem s_tswOut {dflt lo hi : Int} {offs : Array Int} {len : Nat} {x : Int32} {tgt : Nat} (hd : decode q.2.1 pc = .ok (.tableswitch dflt lo hi offs, len)) (hx : x.toInt < lo ∨ hi < x.toInt) (ht : (pc : Int) + dflt = (tgt : Int)) (k : Sem d q mc ms (tgt) L (st) h Qp) : Sem d q mc ms (pc) L (.int x :: st) h Qp := by
  intro w HB p l e R s m args below meth c mcT msT H locs cells slots ls C hW hS hl h1 h2
  exact lv_tableOut C.1 C.2.1 hd hx ht (k w HB p l e R s m args below meth c mcT msT H locs cells slots ls C hW hS hl h1 h2)

theorem s_tswIn {dflt lo hi : Int} {offs : Array Int} {len : Nat} {x : Int32} {off : Int} {tgt : Nat} (hd : decode q.2.1 pc = .ok (.tableswitch dflt lo hi offs, len)) (hx1 : ¬ x.toInt < lo) (hx2 : ¬ hi < x.toInt) (ho : offs[(x.toInt - lo).toNat]? = some off) (ht : (pc : Int) + off = (tgt : Int)) (k : Sem d q mc ms (tgt) L (st) h Qp) : Sem d q mc ms (pc) L (.int x :: st) h Qp := by
  intro w HB p l e R s m args below meth c mcT msT H locs cells slots ls C hW hS hl h1 h2
  exact lv_tableIn C.1 C.2.1 hd hx1 hx2 ho ht (k w HB p l e R s m args below meth c mcT msT H locs cells slots ls C hW hS hl h1 h2)

theorem s_lsw {dflt : Int} {ps : Array (Int × Int)} {len : Nat} {x : Int32} {off : Int} {tgt : Nat} (hd : decode q.2.1 pc = .ok (.lookupswitch dflt ps, len)) (hp : (ps.toList.zip (ps.toList.drop 1)).all (fun (a, next) => a.1 < next.1) = true) (ho : Op.lookupswitch.offset ps.toList dflt x.toInt = off) (ht : (pc : Int) + off = (tgt : Int)) (k : Sem d q mc ms (tgt) L (st) h Qp) : Sem d q mc ms (pc) L (.int x :: st) h Qp := by
  intro w HB p l e R s m args below meth c mcT msT H locs cells slots ls C hW hS hl h1 h2
  exact lv_lookup C.1 C.2.1 hd hp ho ht (k w HB p l e R s m args below meth c mcT msT H locs cells slots ls C hW hS hl h1 h2)

theorem s_iret {x : Int32} (hd : decode q.2.1 pc = .ok (.ireturn, 1)) (hr : q.2.2.2 = some .int) (e9 : Qp (some (.int x)) h) : Sem d q mc ms pc L (.int x :: []) h Qp := by
  intro w HB p l e R s m args below meth c mcT msT H locs cells slots ls C hW hS hl h1 h2
  refine W.widen (k := mcT) (n := msT) (by omega) (by omega) ?_
  exact W.iret C.1 C.2.1 (C.2.2.2.1.trans hr) (fun t ht hW2 => ⟨_, _, e9, rfl, by rw [ht]; exact hW, hS.F ht⟩) hS.2.2 hd C.2.2.2.2.2.2.2.1

theorem s_lret {x : Int64} (hd : decode q.2.1 pc = .ok (.lreturn, 1)) (hr : q.2.2.2 = some .long) (e9 : Qp (some (.long x)) h) : Sem d q mc ms pc L (.long x :: []) h Qp := by
  intro w HB p l e R s m args below meth c mcT msT H locs cells slots ls C hW hS hl h1 h2
  refine W.widen (k := mcT) (n := msT) (by omega) (by omega) ?_
  exact W.lret C.1 C.2.1 (C.2.2.2.1.trans hr) (fun t ht hW2 => ⟨_, _, e9, rfl, by rw [ht]; exact hW, hS.F ht⟩) hS.2.2 hd C.2.2.2.2.2.2.2.1

theorem s_zret {x : Int32} {ty : FieldType} (hd : decode q.2.1 pc = .ok (.ireturn, 1)) (hz : narrow ty (.int x) = .int x) (hr : q.2.2.2 = some ty) (e9 : Qp (some (.int x)) h) : Sem d q mc ms pc L (.int x :: []) h Qp := by
  intro w HB p l e R s m args below meth c mcT msT H locs cells slots ls C hW hS hl h1 h2
  refine W.widen (k := mcT) (n := msT) (by omega) (by omega) ?_
  exact W.zret C.1 C.2.1 (C.2.2.2.1.trans hr) hz (fun t ht hW2 => ⟨_, _, e9, rfl, by rw [ht]; exact hW, hS.F ht⟩) hS.2.2 hd C.2.2.2.2.2.2.2.1

theorem s_vret (hd : decode q.2.1 pc = .ok (.return_, 1)) (hr : q.2.2.2 = none) (e9 : Qp (none) h) : Sem d q mc ms pc L ([]) h Qp := by
  intro w HB p l e R s m args below meth c mcT msT H locs cells slots ls C hW hS hl h1 h2
  refine W.widen (k := mcT) (n := msT) (by omega) (by omega) ?_
  exact W.vret C.1 C.2.1 (C.2.2.2.1.trans hr) (fun t ht hW2 => ⟨_, _, e9, rfl, by rw [ht]; exact hW, hS.F ht⟩) hS.2.2 hd C.2.2.2.2.2.2.2.1

end Rules1
