/-- what the law's frame knows: as a callee's, but for its own name and code -/
def SCtL (w : WP) (HB : Heap) (d : Nat) (q : QM) (p : Program) (R : Room) (s : State) (m : MethodId) (args : Array Value) (meth : Method) (c : Code) (mcT msT : Nat) : Prop :=
  p.tables.exec = Jvm.exec ∧ c.code = q.2.1 ∧ c.maxLocals = q.2.2.1 ∧ meth.sig.returnType = q.2.2.2 ∧ True ∧ s.vm.findClass q.1.cls = some m.cls ∧
  (∀ x ∈ gW, x.before args s = true) ∧ meth.locks = false ∧ KX w HB s ∧ lowB w HB s ∧ d ≤ R.frames ∧ 64 * d ≤ R.locals ∧ mcT ≤ R.cells ∧ msT ≤ R.slots
section LSCt
variable {d mc ms pc : Nat} {q : QM} {h : HP}
theorem hts_ofL {w : WP} {HB : Heap} {p : Program} {R : Room} {s : State} {m : MethodId} {args : Array Value} {meth : Method} {c : Code} {mcT msT : Nat} (C : SCtL w HB d q p R s m args meth c mcT msT) {x : Cond} (hx : x ∈ gW) : x.before args s = true := C.2.2.2.2.2.2.1 _ hx
theorem KX_ofL {w : WP} {HB : Heap} {p : Program} {R : Room} {s : State} {m : MethodId} {args : Array Value} {meth : Method} {c : Code} {mcT msT : Nat} (C : SCtL w HB d q p R s m args meth c mcT msT) : KX w HB s := C.2.2.2.2.2.2.2.2.1
theorem own_ofL {w : WP} {HB : Heap} {p : Program} {R : Room} {s : State} {m : MethodId} {args : Array Value} {meth : Method} {c : Code} {mcT msT : Nat} {own : String} (C : SCtL w HB d q p R s m args meth c mcT msT) (hown : q.1.cls = own) : s.vm.findClass own = some m.cls := hown ▸ C.2.2.2.2.2.1
theorem low_ofL {w : WP} {HB : Heap} {p : Program} {R : Room} {s : State} {m : MethodId} {args : Array Value} {meth : Method} {c : Code} {mcT msT : Nat} {H : Heap} {locs : List Loc} (C : SCtL w HB d q p R s m args meth c mcT msT) (hS : va_S (w.1 ≤ ·) s.heap H locs) : ∀ a : Nat, a < w.1 → H[a]? = HB[a]? := fun a ha => by
  have e := C.2.2.2.2.2.2.2.2.2.1
  rw [hS.2.1 a (Nat.lt_of_lt_of_le ha e.1) (Nat.not_le.mpr ha), e.2 a ha]
theorem g_preL {w : WP} {HB : Heap} {p : Program} {R : Room} {s : State} {m : MethodId} {args : Array Value} {meth : Method} {c : Code} {mcT msT : Nat} {H : Heap} {locs : List Loc} (C : SCtL w HB d q p R s m args meth c mcT msT) (hW : Wd w h H) (hS : va_S (w.1 ≤ ·) s.heap H locs) (as : List Value) : ∀ U : State, U.heap = H → s.WarmedH U.vm → PCr w HB as h (as.map (em w)).toArray U := fun U hU hv =>
  ⟨rfl, by rw [hU]; exact hW, (KX_ofL C).warm hv, by rw [hU]; exact Nat.le_trans C.2.2.2.2.2.2.2.2.2.1.1 hS.1, fun a ha => by rw [hU]; exact low_ofL C hS a ha⟩
theorem g_roomL {d mcT msT mc1 ms1 : Nat} {q' : QM} {w : WP} {HB : Heap} {p : Program} {R : Room} {s : State} {m : MethodId} {args : Array Value} {meth : Method} {c : Code} (C : SCtL w HB (d + 1) q p R s m args meth c mcT msT) (h9 : q'.2.2.1 ≤ 45) : (rmq d mc1 ms1).frames + 1 ≤ R.frames ∧ 8 + (q'.2.2.1 + 11) + (rmq d mc1 ms1).locals ≤ R.locals := by
  have e1 := C.2.2.2.2.2.2.2.2.2.2.1
  have e2 := C.2.2.2.2.2.2.2.2.2.2.2.1
  exact ⟨e1, by show 8 + (q'.2.2.1 + 11) + 64 * d ≤ _; omega⟩
theorem g_fitsL {mcT msT mc1 ms1 cells slots : Nat} {w : WP} {HB : Heap} {p : Program} {R : Room} {s : State} {m : MethodId} {args : Array Value} {meth : Method} {c : Code} (C : SCtL w HB d q p R s m args meth c mcT msT) (h1 : cells + (mc1 + mc) ≤ mcT) (h2 : slots + (ms1 + ms) ≤ msT) : cells + mc1 ≤ R.cells ∧ slots + ms1 ≤ R.slots := by
  have e1 := C.2.2.2.2.2.2.2.2.2.2.2.2.1
  have e2 := C.2.2.2.2.2.2.2.2.2.2.2.2.2
  omega
end LSCt
/-! THE LAW'S OWN RULES: as the others, but the script is told, and the end is the claim's -/
def SemL (sb sL : Nat) (sx : Nat → Int32) (d : Nat) (q : QM) (mc ms pc : Nat) (L : List (Nat × Value)) (st : List Value) (h : HP) : Prop :=
  ∀ (w : WP) (HB : Heap) (p : Program) (l : Launch) (e : Env) (R : Room) (s : State) (m : MethodId) (args : Array Value) (below : List Frame) (meth : Method) (c : Code) (mcT msT : Nat) (H : Heap) (locs : List Loc) (cells slots : Nat) (ls : Array Slot),
    (w.2.1 400 = sb ∧ va_X sb sL sx s s.heap ∧ sb < w.1 ∧ R = room_1 ∧ args = #[Value.ref sb] ∧ w.1 = s.heap.size) → SCtL w HB d q p R s m args meth c mcT msT → Wd w h H → va_S (w.1 ≤ ·) s.heap H locs → lv_has ls q.2.2.1 (L.map fun x => (x.1, em w x.2)) → cells + mc ≤ mcT → slots + ms ≤ msT →
    W p l e R s m args below meth c H locs cells slots (lw_Z below args s) (F0 m pc ls (st.map (em w)))
section LRules
variable {sb sL : Nat} {sx : Nat → Int32} {d mc ms pc : Nat} {q : QM} {L : List (Nat × Value)} {st : List Value} {h : HP}
theorem zl_iconst {n : Int} {v : Int32} (hd : decode q.2.1 pc = .ok (.iconst n, 1)) (hv : Int32.ofInt n = v) (k : SemL sb sL sx d q mc ms (pc + 1) L (.int v :: st) h) : SemL sb sL sx d q mc ms (pc) L (st) h := by
  intro w HB p l e R s m args below meth c mcT msT H locs cells slots ls hE C hW hS hl h1 h2
  exact lv_iconst C.1 C.2.1 hd hv (k w HB p l e R s m args below meth c mcT msT H locs cells slots ls hE C hW hS hl h1 h2)
theorem zl_bipush {n : Int} {v : Int32} (hd : decode q.2.1 pc = .ok (.bipush n, 2)) (hv : (Int8.ofInt n).toInt32 = v) (k : SemL sb sL sx d q mc ms (pc + 2) L (.int v :: st) h) : SemL sb sL sx d q mc ms (pc) L (st) h := by
  intro w HB p l e R s m args below meth c mcT msT H locs cells slots ls hE C hW hS hl h1 h2
  exact lv_bipush C.1 C.2.1 hd hv (k w HB p l e R s m args below meth c mcT msT H locs cells slots ls hE C hW hS hl h1 h2)
theorem zl_ldc2 {own : String} {i : Nat} {v : Int64} (hd : decode q.2.1 pc = .ok (.ldc2_w i, 3)) (hown : q.1.cls = own) (hc : Cond.constantLong own i v ∈ gW) (k : SemL sb sL sx d q mc ms (pc + 3) L (.long v :: st) h) : SemL sb sL sx d q mc ms (pc) L (st) h := by
  intro w HB p l e R s m args below meth c mcT msT H locs cells slots ls hE C hW hS hl h1 h2
  exact lv_ldc2 C.1 C.2.1 (hown ▸ C.2.2.2.2.2.1) (C.2.2.2.2.2.2.1 _ hc) hd (k w HB p l e R s m args below meth c mcT msT H locs cells slots ls hE C hW hS hl h1 h2)
theorem zl_iload_n {n : Fin 4} {j : Nat} {x : Int32} (hd : decode q.2.1 pc = .ok (.iload_n n, 1)) (hv : L[j]? = some ((n : Nat), .int x)) (k : SemL sb sL sx d q mc ms (pc + 1) L (.int x :: st) h) : SemL sb sL sx d q mc ms (pc) L (st) h := by
  intro w HB p l e R s m args below meth c mcT msT H locs cells slots ls hE C hW hS hl h1 h2
  exact lv_iload_n C.1 C.2.1 hd rfl (at_em hl hv) (k w HB p l e R s m args below meth c mcT msT H locs cells slots ls hE C hW hS hl h1 h2)
theorem zl_aload_nr {n : Fin 4} {j : Nat} {x : Nat} (hd : decode q.2.1 pc = .ok (.aload_n n, 1)) (hv : L[j]? = some ((n : Nat), .ref x)) (k : SemL sb sL sx d q mc ms (pc + 1) L (.ref x :: st) h) : SemL sb sL sx d q mc ms (pc) L (st) h := by
  intro w HB p l e R s m args below meth c mcT msT H locs cells slots ls hE C hW hS hl h1 h2
  exact lv_aload_n C.1 C.2.1 hd rfl (at_em hl hv) (k w HB p l e R s m args below meth c mcT msT H locs cells slots ls hE C hW hS hl h1 h2)
theorem zl_aload_ne {n : Fin 4} {j : Nat} {x : UInt32} (hd : decode q.2.1 pc = .ok (.aload_n n, 1)) (hv : L[j]? = some ((n : Nat), .float x)) (k : SemL sb sL sx d q mc ms (pc + 1) L (.float x :: st) h) : SemL sb sL sx d q mc ms (pc) L (st) h := by
  intro w HB p l e R s m args below meth c mcT msT H locs cells slots ls hE C hW hS hl h1 h2
  exact lv_aload_n C.1 C.2.1 hd rfl (at_em hl hv) (k w HB p l e R s m args below meth c mcT msT H locs cells slots ls hE C hW hS hl h1 h2)
theorem zl_istore_n {n : Fin 4} {x : Int32} {L' : List (Nat × Value)} (hd : decode q.2.1 pc = .ok (.istore_n n, 1)) (hn : (n : Nat) < q.2.2.1) (hL : stL (n : Nat) (.int x) L = L') (k : SemL sb sL sx d q mc ms (pc + 1) L' (st) h) : SemL sb sL sx d q mc ms (pc) L (.int x :: st) h := by
  intro w HB p l e R s m args below meth c mcT msT H locs cells slots ls hE C hW hS hl h1 h2
  subst hL
  exact lv_istore_n C.1 C.2.1 hd rfl hl hn (stL_em C.2.2.2.2.2.2.2.2.1 (n : Nat) (.int x) L) (fun ls hl => k w HB p l e R s m args below meth c mcT msT H locs cells slots ls hE C hW hS hl h1 h2)
theorem zl_astore_nr {n : Fin 4} {x : Nat} {L' : List (Nat × Value)} (hd : decode q.2.1 pc = .ok (.astore_n n, 1)) (hn : (n : Nat) < q.2.2.1) (hL : stL (n : Nat) (.ref x) L = L') (k : SemL sb sL sx d q mc ms (pc + 1) L' (st) h) : SemL sb sL sx d q mc ms (pc) L (.ref x :: st) h := by
  intro w HB p l e R s m args below meth c mcT msT H locs cells slots ls hE C hW hS hl h1 h2
  subst hL
  exact lv_astore_n C.1 C.2.1 hd rfl hl hn (stL_em C.2.2.2.2.2.2.2.2.1 (n : Nat) (.ref x) L) (fun ls hl => k w HB p l e R s m args below meth c mcT msT H locs cells slots ls hE C hW hS hl h1 h2)
theorem zl_iinc {i j : Nat} {n : Int} {x v : Int32} {L' : List (Nat × Value)} (hd : decode q.2.1 pc = .ok (.iinc i n, 3)) (hk : L[j]? = some (i, .int x)) (hv : x + Int32.ofInt n = v) (hn : i < q.2.2.1) (hL : stL i (.int v) L = L') (k : SemL sb sL sx d q mc ms (pc + 3) L' (st) h) : SemL sb sL sx d q mc ms (pc) L (st) h := by
  intro w HB p l e R s m args below meth c mcT msT H locs cells slots ls hE C hW hS hl h1 h2
  subst hL
  exact lv_iinc C.1 C.2.1 hd hl (k := j) (by rw [List.getElem?_map, hk]; rfl) hv hn (stL_em C.2.2.2.2.2.2.2.2.1 i (.int v) L) (fun ls hl => k w HB p l e R s m args below meth c mcT msT H locs cells slots ls hE C hW hS hl h1 h2)
theorem zl_locals {L' : List (Nat × Value)} (ks : List Nat) (hL : lv_pick L ks = L') (k : SemL sb sL sx d q mc ms (pc) L' (st) h) : SemL sb sL sx d q mc ms (pc) L (st) h := by
  intro w HB p l e R s m args below meth c mcT msT H locs cells slots ls hE C hW hS hl h1 h2
  subst hL
  exact k w HB p l e R s m args below meth c mcT msT H locs cells slots ls hE C hW hS (lv_sub hl ks (by simp only [lv_pick, List.getElem?_map, List.map_filterMap])) h1 h2
theorem zl_iadd {x y : Int32} (hd : decode q.2.1 pc = .ok (.iadd, 1)) (k : SemL sb sL sx d q mc ms (pc + 1) L (.int (x + y) :: st) h) : SemL sb sL sx d q mc ms (pc) L (.int y :: .int x :: st) h := by
  intro w HB p l e R s m args below meth c mcT msT H locs cells slots ls hE C hW hS hl h1 h2
  exact lv_iadd C.1 C.2.1 hd (k w HB p l e R s m args below meth c mcT msT H locs cells slots ls hE C hW hS hl h1 h2)
theorem zl_isub {x y : Int32} (hd : decode q.2.1 pc = .ok (.isub, 1)) (k : SemL sb sL sx d q mc ms (pc + 1) L (.int (x - y) :: st) h) : SemL sb sL sx d q mc ms (pc) L (.int y :: .int x :: st) h := by
  intro w HB p l e R s m args below meth c mcT msT H locs cells slots ls hE C hW hS hl h1 h2
  exact lv_isub C.1 C.2.1 hd (k w HB p l e R s m args below meth c mcT msT H locs cells slots ls hE C hW hS hl h1 h2)
theorem zl_iand {x y : Int32} (hd : decode q.2.1 pc = .ok (.iand, 1)) (k : SemL sb sL sx d q mc ms (pc + 1) L (.int (x &&& y) :: st) h) : SemL sb sL sx d q mc ms (pc) L (.int y :: .int x :: st) h := by
  intro w HB p l e R s m args below meth c mcT msT H locs cells slots ls hE C hW hS hl h1 h2
  exact lv_iand C.1 C.2.1 hd (k w HB p l e R s m args below meth c mcT msT H locs cells slots ls hE C hW hS hl h1 h2)
theorem zl_land {x y : Int64} (hd : decode q.2.1 pc = .ok (.land, 1)) (k : SemL sb sL sx d q mc ms (pc + 1) L (.long (x &&& y) :: st) h) : SemL sb sL sx d q mc ms (pc) L (.long y :: .long x :: st) h := by
  intro w HB p l e R s m args below meth c mcT msT H locs cells slots ls hE C hW hS hl h1 h2
  exact lv_land C.1 C.2.1 hd (k w HB p l e R s m args below meth c mcT msT H locs cells slots ls hE C hW hS hl h1 h2)
theorem zl_lor {x y : Int64} (hd : decode q.2.1 pc = .ok (.lor, 1)) (k : SemL sb sL sx d q mc ms (pc + 1) L (.long (x ||| y) :: st) h) : SemL sb sL sx d q mc ms (pc) L (.long y :: .long x :: st) h := by
  intro w HB p l e R s m args below meth c mcT msT H locs cells slots ls hE C hW hS hl h1 h2
  exact lv_lor C.1 C.2.1 hd (k w HB p l e R s m args below meth c mcT msT H locs cells slots ls hE C hW hS hl h1 h2)
theorem zl_lshl {x : Int64} {y : Int32} (hd : decode q.2.1 pc = .ok (.lshl, 1)) (k : SemL sb sL sx d q mc ms (pc + 1) L (.long (x <<< (y.toInt64 &&& 63)) :: st) h) : SemL sb sL sx d q mc ms (pc) L (.int y :: .long x :: st) h := by
  intro w HB p l e R s m args below meth c mcT msT H locs cells slots ls hE C hW hS hl h1 h2
  exact lv_lshl C.1 C.2.1 hd rfl (k w HB p l e R s m args below meth c mcT msT H locs cells slots ls hE C hW hS hl h1 h2)
theorem zl_i2l {x : Int32} (hd : decode q.2.1 pc = .ok (.i2l, 1)) (k : SemL sb sL sx d q mc ms (pc + 1) L (.long x.toInt64 :: st) h) : SemL sb sL sx d q mc ms (pc) L (.int x :: st) h := by
  intro w HB p l e R s m args below meth c mcT msT H locs cells slots ls hE C hW hS hl h1 h2
  exact lv_i2l C.1 C.2.1 hd rfl (k w HB p l e R s m args below meth c mcT msT H locs cells slots ls hE C hW hS hl h1 h2)
theorem zl_lcmp {x y : Int64} (hd : decode q.2.1 pc = .ok (.lcmp, 1)) (k : SemL sb sL sx d q mc ms (pc + 1) L (.int (lg_cmp x y) :: st) h) : SemL sb sL sx d q mc ms (pc) L (.long y :: .long x :: st) h := by
  intro w HB p l e R s m args below meth c mcT msT H locs cells slots ls hE C hW hS hl h1 h2
  exact W.lcmp C.1 C.2.1 hd (k w HB p l e R s m args below meth c mcT msT H locs cells slots ls hE C hW hS hl h1 h2)
theorem zl_dup {v : Value} (hd : decode q.2.1 pc = .ok (.dup, 1)) (hv : v.category = 1) (k : SemL sb sL sx d q mc ms (pc + 1) L (v :: v :: st) h) : SemL sb sL sx d q mc ms (pc) L (v :: st) h := by
  intro w HB p l e R s m args below meth c mcT msT H locs cells slots ls hE C hW hS hl h1 h2
  exact lv_dup C.1 C.2.1 hd ((em_cat1 C.2.2.2.2.2.2.2.2.1 v).trans hv) (k w HB p l e R s m args below meth c mcT msT H locs cells slots ls hE C hW hS hl h1 h2)
theorem zl_if_eq {x : Int32} {off : Int} {tgt : Nat} (hd : decode q.2.1 pc = .ok (.ifCond .eq off, 3)) (ht : (pc : Int) + off = (tgt : Int)) (kt : x = 0 → SemL sb sL sx d q mc ms (tgt) L (st) h) (kf : ¬ x = 0 → SemL sb sL sx d q mc ms (pc + 3) L (st) h) : SemL sb sL sx d q mc ms (pc) L (.int x :: st) h := by
  intro w HB p l e R s m args below meth c mcT msT H locs cells slots ls hE C hW hS hl h1 h2
  exact lv_if_eq C.1 C.2.1 hd ht (fun cc => kt cc w HB p l e R s m args below meth c mcT msT H locs cells slots ls hE C hW hS hl h1 h2) (fun cc => kf cc w HB p l e R s m args below meth c mcT msT H locs cells slots ls hE C hW hS hl h1 h2)
theorem zl_icmp_eq {x y : Int32} {off : Int} {tgt : Nat} (hd : decode q.2.1 pc = .ok (.if_icmp .eq off, 3)) (ht : (pc : Int) + off = (tgt : Int)) (kt : x = y → SemL sb sL sx d q mc ms (tgt) L (st) h) (kf : ¬ x = y → SemL sb sL sx d q mc ms (pc + 3) L (st) h) : SemL sb sL sx d q mc ms (pc) L (.int y :: .int x :: st) h := by
  intro w HB p l e R s m args below meth c mcT msT H locs cells slots ls hE C hW hS hl h1 h2
  exact lv_icmp_eq C.1 C.2.1 hd ht (fun cc => kt cc w HB p l e R s m args below meth c mcT msT H locs cells slots ls hE C hW hS hl h1 h2) (fun cc => kf cc w HB p l e R s m args below meth c mcT msT H locs cells slots ls hE C hW hS hl h1 h2)
theorem zl_icmp_gt {x y : Int32} {off : Int} {tgt : Nat} (hd : decode q.2.1 pc = .ok (.if_icmp .gt off, 3)) (ht : (pc : Int) + off = (tgt : Int)) (kt : y < x → SemL sb sL sx d q mc ms (tgt) L (st) h) (kf : ¬ y < x → SemL sb sL sx d q mc ms (pc + 3) L (st) h) : SemL sb sL sx d q mc ms (pc) L (.int y :: .int x :: st) h := by
  intro w HB p l e R s m args below meth c mcT msT H locs cells slots ls hE C hW hS hl h1 h2
  exact lv_icmp_gt C.1 C.2.1 hd ht (fun cc => kt cc w HB p l e R s m args below meth c mcT msT H locs cells slots ls hE C hW hS hl h1 h2) (fun cc => kf cc w HB p l e R s m args below meth c mcT msT H locs cells slots ls hE C hW hS hl h1 h2)
theorem zl_goto {off : Int} {tgt : Nat} (hd : decode q.2.1 pc = .ok (.goto off, 3)) (ht : (pc : Int) + off = (tgt : Int)) (k : SemL sb sL sx d q mc ms (tgt) L (st) h) : SemL sb sL sx d q mc ms (pc) L (st) h := by
  intro w HB p l e R s m args below meth c mcT msT H locs cells slots ls hE C hW hS hl h1 h2
  exact lv_goto C.1 C.2.1 hd ht (k w HB p l e R s m args below meth c mcT msT H locs cells slots ls hE C hW hS hl h1 h2)
theorem zl_tswOut {dflt lo hi : Int} {offs : Array Int} {len : Nat} {x : Int32} {tgt : Nat} (hd : decode q.2.1 pc = .ok (.tableswitch dflt lo hi offs, len)) (hx : x.toInt < lo ∨ hi < x.toInt) (ht : (pc : Int) + dflt = (tgt : Int)) (k : SemL sb sL sx d q mc ms (tgt) L (st) h) : SemL sb sL sx d q mc ms (pc) L (.int x :: st) h := by
  intro w HB p l e R s m args below meth c mcT msT H locs cells slots ls hE C hW hS hl h1 h2
  exact lv_tableOut C.1 C.2.1 hd hx ht (k w HB p l e R s m args below meth c mcT msT H locs cells slots ls hE C hW hS hl h1 h2)
theorem zl_tswIn {dflt lo hi : Int} {offs : Array Int} {len : Nat} {x : Int32} {off : Int} {tgt : Nat} (hd : decode q.2.1 pc = .ok (.tableswitch dflt lo hi offs, len)) (hx1 : ¬ x.toInt < lo) (hx2 : ¬ hi < x.toInt) (ho : offs[(x.toInt - lo).toNat]? = some off) (ht : (pc : Int) + off = (tgt : Int)) (k : SemL sb sL sx d q mc ms (tgt) L (st) h) : SemL sb sL sx d q mc ms (pc) L (.int x :: st) h := by
  intro w HB p l e R s m args below meth c mcT msT H locs cells slots ls hE C hW hS hl h1 h2
  exact lv_tableIn C.1 C.2.1 hd hx1 hx2 ho ht (k w HB p l e R s m args below meth c mcT msT H locs cells slots ls hE C hW hS hl h1 h2)
theorem zl_new {own Cn : String} {T : u_T} {N idx ci : Nat} {fs : List Value} (ty0 : Nat → FieldType) (hty : ∀ k, k < N → parseFieldDescriptor (T k).2.2.1 = some (ty0 k)) (hd : decode q.2.1 pc = .ok (.new idx, 3)) (hown : q.1.cls = own) (hin : ∀ x ∈ u_ws Cn T N, x ∈ gW) (hw1 : Cond.classLink own idx Cn ∈ gW) (hw2 : Cond.instantiable Cn N ∈ gW) (hw3 : Cond.initialized Cn ∈ gW) (hcl : vwCl[ci]? = some (Cn, T, N)) (hfs : ∀ (w : WP) (j : Nat), j < N → defaultValue (ty0 j) = vp_V (fs.map (em w)) j)
    (kk : SemL sb sL sx d q mc ms (pc + 3) L (.ref h.length :: st) (h ++ [.inr (ci, fs)])) : SemL sb sL sx d q (mc + 1) (ms + N) pc L st h := by
  intro w HB p l e R s m args below meth c mcT msT H locs cells slots ls hE C hW hS hl h1 h2
  have hcell := C.2.2.2.2.2.2.2.2.2.2.2.2.1
  have hslot := C.2.2.2.2.2.2.2.2.2.2.2.2.2
  have hKn := (KX_ofL C).1.1 ci _ hcl
  refine W.newcK C.1 C.2.1 (own_ofL C hown) (hts_ofL C hw1) (hts_ofL C hw2) (hts_ofL C hw3) rfl hd (by omega) (by omega) hKn.2.1 rfl fun H' kC hkC e1 e2 e3 => ?_
  have e5 : F0 m (pc + 3) ls (.ref H.size :: st.map (em w)) = F0 m (pc + 3) ls ((Value.ref h.length :: st).map (em w)) := by rw [hW.1]; rfl
  refine W.eq e5 (kk w HB p l e R s m args below meth c mcT msT H' _ (cells + 1) (slots + N) ls hE C (hW.push e2 e3 ?_) ⟨Nat.le_trans hS.1 (by omega), fun x g1 g2 => (e3 x (Nat.lt_of_lt_of_le g1 hS.1)).trans (hS.2.1 x g1 g2), hS.2.2⟩ hl (by omega) (by omega))
  rw [hW.1] at e1
  exact ⟨_, hcl, (u_born ty0 (ws := gW) (fun x hx => hts_ofL C hx) hin hKn hkC e1 hty).to (hfs w)⟩
theorem zl_room {mc' ms' : Nat} (hm : mc ≤ mc') (hs : ms ≤ ms') (k : SemL sb sL sx d q mc ms pc L st h) : SemL sb sL sx d q mc' ms' pc L st h := by
  intro w HB p l e R s m args below meth c mcT msT H locs cells slots ls hE C hW hS hl h1 h2
  exact k w HB p l e R s m args below meth c mcT msT H locs cells slots ls hE C hW hS hl (by omega) (by omega)
theorem zl_callV {own : String} {idx n mc1 ms1 b ci N : Nat} {q' : QM} {As st0 : List Value} {fs : List Value} {T : u_T} {Q1 : PO} (cw : CWV own idx q' n) (hown : q.1.cls = own) (hd : decode q.2.1 pc = .ok (.invokevirtual idx, 3)) (hc : h[b]? = some (.inr (ci, fs))) (hcl : vwCl[ci]? = some (q'.1.cls, T, N)) (hn : As.length = n) (hs : (st.map fun v => v.category).sum ≤ 8) (hst : st0 = As.reverse ++ .ref b :: st)
    (hC : Con d q' mc1 ms1 (.ref b :: As) h Q1) (kk : ∀ (r1 : Option Value) (h1 : HP), Q1 r1 h1 → SemL sb sL sx (d + 1) q mc ms (pc + 3) L (r1.toList ++ st) h1) : SemL sb sL sx (d + 1) q (mc1 + mc) (ms1 + ms) pc L st0 h := by
  intro w HB p l e R s m args below meth c mcT msT H locs cells slots ls hE C hW hS hl g1 g2
  obtain ⟨w1, w2, w3, w4, w5, w6, w7⟩ := cw
  subst hst
  rw [g_stk]
  refine g_after (va_runV (cc := q.2.1) (nL := q.2.2.1) (Ts := gW) (own := own) (C := q'.1.cls) (As := As.map (em w)) (rest := st.map (em w)) (n := n) ⟨C.1, C.2.1, C.2.2.1, own_ofL C hown, fun x hx => hts_ofL C hx⟩ (hC w HB l) ⟨callB_of n (fun x hx => hts_ofL C hx) (good_wsq w5) rfl rfl rfl (hts_ofL C w4) (hts_ofL C w1) w6 (g_roomL C w7), hts_ofL C w2, hts_ofL C w3⟩ ⟨PCr.blind, obj_of (KX_ofL C) hW hc hcl, g_preL C hW hS (.ref b :: As)⟩ rfl (by rw [List.length_map]; exact hn) hl.1 rfl (lv_room (g_sum (KX_ofL C) hs)) hd (g_fitsL C g1 g2)) hS (fun r1 h1 H1 locs1 hq1 hW1 hS1 => ?_)
  rw [g_ret]
  exact kk r1 h1 hq1 w HB p l e R s m args below meth c mcT msT H1 locs1 _ _ ls hE C hW1 hS1 hl (by omega) (by omega)
theorem zl_callI {own : String} {idx n mc1 ms1 b : Nat} {q' : QM} {As st0 : List Value} {Q1 : PO} (cw : CWI own idx q' n) (hown : q.1.cls = own) (hd : decode q.2.1 pc = .ok (.invokespecial idx, 3)) (hn : As.length = n) (hs : (st.map fun v => v.category).sum ≤ 8) (hst : st0 = As.reverse ++ .ref b :: st)
    (hC : Con d q' mc1 ms1 (.ref b :: As) h Q1) (kk : ∀ (r1 : Option Value) (h1 : HP), Q1 r1 h1 → SemL sb sL sx (d + 1) q mc ms (pc + 3) L (r1.toList ++ st) h1) : SemL sb sL sx (d + 1) q (mc1 + mc) (ms1 + ms) pc L st0 h := by
  intro w HB p l e R s m args below meth c mcT msT H locs cells slots ls hE C hW hS hl g1 g2
  obtain ⟨w1, w2, w4, w5, ⟨w6, w7⟩, w8, w9⟩ := cw
  obtain ⟨y, cc, mL, rt⟩ := q'
  dsimp only at w9
  subst w9
  subst hst
  rw [g_stk]
  have go : ∀ (r1 : Option Value) (h1 : HP) (H1 : Heap) (locs1 : List Loc), Q1 r1 h1 → Wd w h1 H1 → va_S (w.1 ≤ ·) s.heap H1 locs1 → W p l e R s m args below meth c H1 locs1 (cells + mc1) (slots + ms1) (lw_Z below args s) (F0 m (pc + 3) ls ((r1.map (em w)).toList ++ st.map (em w))) := fun r1 h1 H1 locs1 hq1 hW1 hS1 => by
    rw [g_ret]
    exact kk r1 h1 hq1 w HB p l e R s m args below meth c mcT msT H1 locs1 _ _ ls hE C hW1 hS1 hl (by omega) (by omega)
  rcases w1 with w1 | ⟨host, w1⟩
  · exact g_after (va_runI (cc := q.2.1) (nL := q.2.2.1) (Ts := gW) (own := own) (As := As.map (em w)) (rest := st.map (em w)) (n := n) ⟨C.1, C.2.1, C.2.2.1, own_ofL C hown, fun x hx => hts_ofL C hx⟩ (hC w HB l) ⟨callB_of n (fun x hx => hts_ofL C hx) (good_wsq (q' := (y, cc, mL, none)) w5) rfl rfl rfl (hts_ofL C w4) (hts_ofL C w1) w6 (g_roomL (q' := (y, cc, mL, none)) C w7), w8, hts_ofL C w2⟩ ⟨PCr.blind, g_preL C hW hS (.ref b :: As)⟩ rfl (by rw [List.length_map]; exact hn) hl.1 rfl (lv_room (g_sum (KX_ofL C) hs)) hd (g_fitsL C g1 g2)) hS go
  · exact g_after (va_runIN (cc := q.2.1) (nL := q.2.2.1) (Ts := gW) (own := own) (host := host) (As := As.map (em w)) (rest := st.map (em w)) (n := n) ⟨C.1, C.2.1, C.2.2.1, own_ofL C hown, fun x hx => hts_ofL C hx⟩ (hC w HB l) ⟨va_cnB n (fun x hx => hts_ofL C hx) (good_wsq (q' := (y, cc, mL, none)) w5) rfl rfl rfl ((KX_ofL C).2.1.1 _ w1) (hts_ofL C w4) w6 (g_roomL (q' := (y, cc, mL, none)) C w7), w8, hts_ofL C w2⟩ ⟨PCr.blind, g_preL C hW hS (.ref b :: As)⟩ rfl (by rw [List.length_map]; exact hn) hl.1 rfl (lv_room (g_sum (KX_ofL C) hs)) hd (g_fitsL C g1 g2)) hS go
theorem zl_I0vm {own : String} {idx mc1 ms1 mc2 ms2 : Nat} {q' : QM} {b : Nat} {P : HP → Prop} (cw : CWI own idx q' 0) (hown : q.1.cls = own) (hd : decode q.2.1 pc = .ok (.invokespecial idx, 3)) (hs : (st.map fun v => v.category).sum ≤ 8) (hC : Con d q' mc1 ms1 (.ref b :: []) h (PV P)) (hm : mc1 + mc = mc2) (hm2 : ms1 + ms = ms2) (kk : ∀ h1 : HP, P h1 → SemL sb sL sx (d + 1) q mc ms (pc + 3) L st h1) : SemL sb sL sx (d + 1) q mc2 ms2 pc L (.ref b :: st) h := by
  subst hm hm2
  exact zl_callI (mc := mc) (ms := ms) (L := L) cw hown hd rfl hs rfl hC (fun r1 h1 hq => by
    obtain ⟨rfl, hp⟩ := hq
    exact kk h1 hp)
theorem zl_topi {x : Int32} (k : ∀ y : Int32, y = x → SemL sb sL sx d q mc ms pc L (.int y :: st) h) : SemL sb sL sx d q mc ms pc L (.int x :: st) h := k x rfl
theorem zl_V0i {own : String} {idx : Nat} {q' : QM} {b ci N : Nat} {fs : List Value} {T : u_T} {P : Int32 → HP → Prop} (cw : CWV own idx q' 0) (hown : q.1.cls = own) (hd : decode q.2.1 pc = .ok (.invokevirtual idx, 3)) (hc : h[b]? = some (.inr (ci, fs))) (hcl : vwCl[ci]? = some (q'.1.cls, T, N)) (hs : (st.map fun v => v.category).sum ≤ 8) (hC : Con d q' 0 0 (.ref b :: []) h (PI P)) (kk : ∀ (x : Int32) (h1 : HP), P x h1 → SemL sb sL sx (d + 1) q mc ms (pc + 3) L (.int x :: st) h1) : SemL sb sL sx (d + 1) q mc ms pc L (.ref b :: st) h := by
  have k9 := zl_callV (mc := mc) (ms := ms) (L := L) cw hown hd hc hcl rfl hs rfl hC (fun r1 h1 hq => by
    obtain ⟨x, rfl, hp⟩ := hq
    exact kk x h1 hp)
  rwa [Nat.zero_add, Nat.zero_add] at k9
theorem zl_V0im {own : String} {idx mc1 ms1 mc2 ms2 : Nat} {q' : QM} {b ci N : Nat} {fs : List Value} {T : u_T} {P : Int32 → HP → Prop} (cw : CWV own idx q' 0) (hown : q.1.cls = own) (hd : decode q.2.1 pc = .ok (.invokevirtual idx, 3)) (hc : h[b]? = some (.inr (ci, fs))) (hcl : vwCl[ci]? = some (q'.1.cls, T, N)) (hs : (st.map fun v => v.category).sum ≤ 8) (hC : Con d q' mc1 ms1 (.ref b :: []) h (PI P)) (hm : mc1 + mc = mc2) (hm2 : ms1 + ms = ms2) (kk : ∀ (x : Int32) (h1 : HP), P x h1 → SemL sb sL sx (d + 1) q mc ms (pc + 3) L (.int x :: st) h1) : SemL sb sL sx (d + 1) q mc2 ms2 pc L (.ref b :: st) h := by
  subst hm hm2
  exact zl_callV (mc := mc) (ms := ms) (L := L) cw hown hd hc hcl rfl hs rfl hC (fun r1 h1 hq => by
    obtain ⟨x, rfl, hp⟩ := hq
    exact kk x h1 hp)
theorem zl_V1i {own : String} {idx : Nat} {q' : QM} {b ci N : Nat} {fs : List Value} {T : u_T} {v1 : Value} {P : Int32 → HP → Prop} (cw : CWV own idx q' 1) (hown : q.1.cls = own) (hd : decode q.2.1 pc = .ok (.invokevirtual idx, 3)) (hc : h[b]? = some (.inr (ci, fs))) (hcl : vwCl[ci]? = some (q'.1.cls, T, N)) (hs : (st.map fun v => v.category).sum ≤ 8) (hC : Con d q' 0 0 (.ref b :: [v1]) h (PI P)) (kk : ∀ (x : Int32) (h1 : HP), P x h1 → SemL sb sL sx (d + 1) q mc ms (pc + 3) L (.int x :: st) h1) : SemL sb sL sx (d + 1) q mc ms pc L (v1 :: .ref b :: st) h := by
  have k9 := zl_callV (mc := mc) (ms := ms) (L := L) cw hown hd hc hcl rfl hs rfl hC (fun r1 h1 hq => by
    obtain ⟨x, rfl, hp⟩ := hq
    exact kk x h1 hp)
  rwa [Nat.zero_add, Nat.zero_add] at k9
theorem zl_V1im {own : String} {idx mc1 ms1 mc2 ms2 : Nat} {q' : QM} {b ci N : Nat} {fs : List Value} {T : u_T} {v1 : Value} {P : Int32 → HP → Prop} (cw : CWV own idx q' 1) (hown : q.1.cls = own) (hd : decode q.2.1 pc = .ok (.invokevirtual idx, 3)) (hc : h[b]? = some (.inr (ci, fs))) (hcl : vwCl[ci]? = some (q'.1.cls, T, N)) (hs : (st.map fun v => v.category).sum ≤ 8) (hC : Con d q' mc1 ms1 (.ref b :: [v1]) h (PI P)) (hm : mc1 + mc = mc2) (hm2 : ms1 + ms = ms2) (kk : ∀ (x : Int32) (h1 : HP), P x h1 → SemL sb sL sx (d + 1) q mc ms (pc + 3) L (.int x :: st) h1) : SemL sb sL sx (d + 1) q mc2 ms2 pc L (v1 :: .ref b :: st) h := by
  subst hm hm2
  exact zl_callV (mc := mc) (ms := ms) (L := L) cw hown hd hc hcl rfl hs rfl hC (fun r1 h1 hq => by
    obtain ⟨x, rfl, hp⟩ := hq
    exact kk x h1 hp)
theorem zl_V2i {own : String} {idx : Nat} {q' : QM} {b ci N : Nat} {fs : List Value} {T : u_T} {v1 v2 : Value} {P : Int32 → HP → Prop} (cw : CWV own idx q' 2) (hown : q.1.cls = own) (hd : decode q.2.1 pc = .ok (.invokevirtual idx, 3)) (hc : h[b]? = some (.inr (ci, fs))) (hcl : vwCl[ci]? = some (q'.1.cls, T, N)) (hs : (st.map fun v => v.category).sum ≤ 8) (hC : Con d q' 0 0 (.ref b :: [v1, v2]) h (PI P)) (kk : ∀ (x : Int32) (h1 : HP), P x h1 → SemL sb sL sx (d + 1) q mc ms (pc + 3) L (.int x :: st) h1) : SemL sb sL sx (d + 1) q mc ms pc L (v2 :: v1 :: .ref b :: st) h := by
  have k9 := zl_callV (mc := mc) (ms := ms) (L := L) cw hown hd hc hcl rfl hs rfl hC (fun r1 h1 hq => by
    obtain ⟨x, rfl, hp⟩ := hq
    exact kk x h1 hp)
  rwa [Nat.zero_add, Nat.zero_add] at k9
theorem zl_V2im {own : String} {idx mc1 ms1 mc2 ms2 : Nat} {q' : QM} {b ci N : Nat} {fs : List Value} {T : u_T} {v1 v2 : Value} {P : Int32 → HP → Prop} (cw : CWV own idx q' 2) (hown : q.1.cls = own) (hd : decode q.2.1 pc = .ok (.invokevirtual idx, 3)) (hc : h[b]? = some (.inr (ci, fs))) (hcl : vwCl[ci]? = some (q'.1.cls, T, N)) (hs : (st.map fun v => v.category).sum ≤ 8) (hC : Con d q' mc1 ms1 (.ref b :: [v1, v2]) h (PI P)) (hm : mc1 + mc = mc2) (hm2 : ms1 + ms = ms2) (kk : ∀ (x : Int32) (h1 : HP), P x h1 → SemL sb sL sx (d + 1) q mc ms (pc + 3) L (.int x :: st) h1) : SemL sb sL sx (d + 1) q mc2 ms2 pc L (v2 :: v1 :: .ref b :: st) h := by
  subst hm hm2
  exact zl_callV (mc := mc) (ms := ms) (L := L) cw hown hd hc hcl rfl hs rfl hC (fun r1 h1 hq => by
    obtain ⟨x, rfl, hp⟩ := hq
    exact kk x h1 hp)
theorem zl_V3i {own : String} {idx : Nat} {q' : QM} {b ci N : Nat} {fs : List Value} {T : u_T} {v1 v2 v3 : Value} {P : Int32 → HP → Prop} (cw : CWV own idx q' 3) (hown : q.1.cls = own) (hd : decode q.2.1 pc = .ok (.invokevirtual idx, 3)) (hc : h[b]? = some (.inr (ci, fs))) (hcl : vwCl[ci]? = some (q'.1.cls, T, N)) (hs : (st.map fun v => v.category).sum ≤ 8) (hC : Con d q' 0 0 (.ref b :: [v1, v2, v3]) h (PI P)) (kk : ∀ (x : Int32) (h1 : HP), P x h1 → SemL sb sL sx (d + 1) q mc ms (pc + 3) L (.int x :: st) h1) : SemL sb sL sx (d + 1) q mc ms pc L (v3 :: v2 :: v1 :: .ref b :: st) h := by
  have k9 := zl_callV (mc := mc) (ms := ms) (L := L) cw hown hd hc hcl rfl hs rfl hC (fun r1 h1 hq => by
    obtain ⟨x, rfl, hp⟩ := hq
    exact kk x h1 hp)
  rwa [Nat.zero_add, Nat.zero_add] at k9
theorem zl_V3im {own : String} {idx mc1 ms1 mc2 ms2 : Nat} {q' : QM} {b ci N : Nat} {fs : List Value} {T : u_T} {v1 v2 v3 : Value} {P : Int32 → HP → Prop} (cw : CWV own idx q' 3) (hown : q.1.cls = own) (hd : decode q.2.1 pc = .ok (.invokevirtual idx, 3)) (hc : h[b]? = some (.inr (ci, fs))) (hcl : vwCl[ci]? = some (q'.1.cls, T, N)) (hs : (st.map fun v => v.category).sum ≤ 8) (hC : Con d q' mc1 ms1 (.ref b :: [v1, v2, v3]) h (PI P)) (hm : mc1 + mc = mc2) (hm2 : ms1 + ms = ms2) (kk : ∀ (x : Int32) (h1 : HP), P x h1 → SemL sb sL sx (d + 1) q mc ms (pc + 3) L (.int x :: st) h1) : SemL sb sL sx (d + 1) q mc2 ms2 pc L (v3 :: v2 :: v1 :: .ref b :: st) h := by
  subst hm hm2
  exact zl_callV (mc := mc) (ms := ms) (L := L) cw hown hd hc hcl rfl hs rfl hC (fun r1 h1 hq => by
    obtain ⟨x, rfl, hp⟩ := hq
    exact kk x h1 hp)
theorem zl_V4i {own : String} {idx : Nat} {q' : QM} {b ci N : Nat} {fs : List Value} {T : u_T} {v1 v2 v3 v4 : Value} {P : Int32 → HP → Prop} (cw : CWV own idx q' 4) (hown : q.1.cls = own) (hd : decode q.2.1 pc = .ok (.invokevirtual idx, 3)) (hc : h[b]? = some (.inr (ci, fs))) (hcl : vwCl[ci]? = some (q'.1.cls, T, N)) (hs : (st.map fun v => v.category).sum ≤ 8) (hC : Con d q' 0 0 (.ref b :: [v1, v2, v3, v4]) h (PI P)) (kk : ∀ (x : Int32) (h1 : HP), P x h1 → SemL sb sL sx (d + 1) q mc ms (pc + 3) L (.int x :: st) h1) : SemL sb sL sx (d + 1) q mc ms pc L (v4 :: v3 :: v2 :: v1 :: .ref b :: st) h := by
  have k9 := zl_callV (mc := mc) (ms := ms) (L := L) cw hown hd hc hcl rfl hs rfl hC (fun r1 h1 hq => by
    obtain ⟨x, rfl, hp⟩ := hq
    exact kk x h1 hp)
  rwa [Nat.zero_add, Nat.zero_add] at k9
theorem zl_V4im {own : String} {idx mc1 ms1 mc2 ms2 : Nat} {q' : QM} {b ci N : Nat} {fs : List Value} {T : u_T} {v1 v2 v3 v4 : Value} {P : Int32 → HP → Prop} (cw : CWV own idx q' 4) (hown : q.1.cls = own) (hd : decode q.2.1 pc = .ok (.invokevirtual idx, 3)) (hc : h[b]? = some (.inr (ci, fs))) (hcl : vwCl[ci]? = some (q'.1.cls, T, N)) (hs : (st.map fun v => v.category).sum ≤ 8) (hC : Con d q' mc1 ms1 (.ref b :: [v1, v2, v3, v4]) h (PI P)) (hm : mc1 + mc = mc2) (hm2 : ms1 + ms = ms2) (kk : ∀ (x : Int32) (h1 : HP), P x h1 → SemL sb sL sx (d + 1) q mc ms (pc + 3) L (.int x :: st) h1) : SemL sb sL sx (d + 1) q mc2 ms2 pc L (v4 :: v3 :: v2 :: v1 :: .ref b :: st) h := by
  subst hm hm2
  exact zl_callV (mc := mc) (ms := ms) (L := L) cw hown hd hc hcl rfl hs rfl hC (fun r1 h1 hq => by
    obtain ⟨x, rfl, hp⟩ := hq
    exact kk x h1 hp)
theorem zl_V5i {own : String} {idx : Nat} {q' : QM} {b ci N : Nat} {fs : List Value} {T : u_T} {v1 v2 v3 v4 v5 : Value} {P : Int32 → HP → Prop} (cw : CWV own idx q' 5) (hown : q.1.cls = own) (hd : decode q.2.1 pc = .ok (.invokevirtual idx, 3)) (hc : h[b]? = some (.inr (ci, fs))) (hcl : vwCl[ci]? = some (q'.1.cls, T, N)) (hs : (st.map fun v => v.category).sum ≤ 8) (hC : Con d q' 0 0 (.ref b :: [v1, v2, v3, v4, v5]) h (PI P)) (kk : ∀ (x : Int32) (h1 : HP), P x h1 → SemL sb sL sx (d + 1) q mc ms (pc + 3) L (.int x :: st) h1) : SemL sb sL sx (d + 1) q mc ms pc L (v5 :: v4 :: v3 :: v2 :: v1 :: .ref b :: st) h := by
  have k9 := zl_callV (mc := mc) (ms := ms) (L := L) cw hown hd hc hcl rfl hs rfl hC (fun r1 h1 hq => by
    obtain ⟨x, rfl, hp⟩ := hq
    exact kk x h1 hp)
  rwa [Nat.zero_add, Nat.zero_add] at k9
theorem zl_V5im {own : String} {idx mc1 ms1 mc2 ms2 : Nat} {q' : QM} {b ci N : Nat} {fs : List Value} {T : u_T} {v1 v2 v3 v4 v5 : Value} {P : Int32 → HP → Prop} (cw : CWV own idx q' 5) (hown : q.1.cls = own) (hd : decode q.2.1 pc = .ok (.invokevirtual idx, 3)) (hc : h[b]? = some (.inr (ci, fs))) (hcl : vwCl[ci]? = some (q'.1.cls, T, N)) (hs : (st.map fun v => v.category).sum ≤ 8) (hC : Con d q' mc1 ms1 (.ref b :: [v1, v2, v3, v4, v5]) h (PI P)) (hm : mc1 + mc = mc2) (hm2 : ms1 + ms = ms2) (kk : ∀ (x : Int32) (h1 : HP), P x h1 → SemL sb sL sx (d + 1) q mc ms (pc + 3) L (.int x :: st) h1) : SemL sb sL sx (d + 1) q mc2 ms2 pc L (v5 :: v4 :: v3 :: v2 :: v1 :: .ref b :: st) h := by
  subst hm hm2
  exact zl_callV (mc := mc) (ms := ms) (L := L) cw hown hd hc hcl rfl hs rfl hC (fun r1 h1 hq => by
    obtain ⟨x, rfl, hp⟩ := hq
    exact kk x h1 hp)
theorem zl_V1l {own : String} {idx : Nat} {q' : QM} {b ci N : Nat} {fs : List Value} {T : u_T} {v1 : Value} {P : Int64 → HP → Prop} (cw : CWV own idx q' 1) (hown : q.1.cls = own) (hd : decode q.2.1 pc = .ok (.invokevirtual idx, 3)) (hc : h[b]? = some (.inr (ci, fs))) (hcl : vwCl[ci]? = some (q'.1.cls, T, N)) (hs : (st.map fun v => v.category).sum ≤ 8) (hC : Con d q' 0 0 (.ref b :: [v1]) h (PL P)) (kk : ∀ (x : Int64) (h1 : HP), P x h1 → SemL sb sL sx (d + 1) q mc ms (pc + 3) L (.long x :: st) h1) : SemL sb sL sx (d + 1) q mc ms pc L (v1 :: .ref b :: st) h := by
  have k9 := zl_callV (mc := mc) (ms := ms) (L := L) cw hown hd hc hcl rfl hs rfl hC (fun r1 h1 hq => by
    obtain ⟨x, rfl, hp⟩ := hq
    exact kk x h1 hp)
  rwa [Nat.zero_add, Nat.zero_add] at k9
theorem zl_V1lm {own : String} {idx mc1 ms1 mc2 ms2 : Nat} {q' : QM} {b ci N : Nat} {fs : List Value} {T : u_T} {v1 : Value} {P : Int64 → HP → Prop} (cw : CWV own idx q' 1) (hown : q.1.cls = own) (hd : decode q.2.1 pc = .ok (.invokevirtual idx, 3)) (hc : h[b]? = some (.inr (ci, fs))) (hcl : vwCl[ci]? = some (q'.1.cls, T, N)) (hs : (st.map fun v => v.category).sum ≤ 8) (hC : Con d q' mc1 ms1 (.ref b :: [v1]) h (PL P)) (hm : mc1 + mc = mc2) (hm2 : ms1 + ms = ms2) (kk : ∀ (x : Int64) (h1 : HP), P x h1 → SemL sb sL sx (d + 1) q mc ms (pc + 3) L (.long x :: st) h1) : SemL sb sL sx (d + 1) q mc2 ms2 pc L (v1 :: .ref b :: st) h := by
  subst hm hm2
  exact zl_callV (mc := mc) (ms := ms) (L := L) cw hown hd hc hcl rfl hs rfl hC (fun r1 h1 hq => by
    obtain ⟨x, rfl, hp⟩ := hq
    exact kk x h1 hp)
theorem zl_V2l {own : String} {idx : Nat} {q' : QM} {b ci N : Nat} {fs : List Value} {T : u_T} {v1 v2 : Value} {P : Int64 → HP → Prop} (cw : CWV own idx q' 2) (hown : q.1.cls = own) (hd : decode q.2.1 pc = .ok (.invokevirtual idx, 3)) (hc : h[b]? = some (.inr (ci, fs))) (hcl : vwCl[ci]? = some (q'.1.cls, T, N)) (hs : (st.map fun v => v.category).sum ≤ 8) (hC : Con d q' 0 0 (.ref b :: [v1, v2]) h (PL P)) (kk : ∀ (x : Int64) (h1 : HP), P x h1 → SemL sb sL sx (d + 1) q mc ms (pc + 3) L (.long x :: st) h1) : SemL sb sL sx (d + 1) q mc ms pc L (v2 :: v1 :: .ref b :: st) h := by
  have k9 := zl_callV (mc := mc) (ms := ms) (L := L) cw hown hd hc hcl rfl hs rfl hC (fun r1 h1 hq => by
    obtain ⟨x, rfl, hp⟩ := hq
    exact kk x h1 hp)
  rwa [Nat.zero_add, Nat.zero_add] at k9
theorem zl_V2lm {own : String} {idx mc1 ms1 mc2 ms2 : Nat} {q' : QM} {b ci N : Nat} {fs : List Value} {T : u_T} {v1 v2 : Value} {P : Int64 → HP → Prop} (cw : CWV own idx q' 2) (hown : q.1.cls = own) (hd : decode q.2.1 pc = .ok (.invokevirtual idx, 3)) (hc : h[b]? = some (.inr (ci, fs))) (hcl : vwCl[ci]? = some (q'.1.cls, T, N)) (hs : (st.map fun v => v.category).sum ≤ 8) (hC : Con d q' mc1 ms1 (.ref b :: [v1, v2]) h (PL P)) (hm : mc1 + mc = mc2) (hm2 : ms1 + ms = ms2) (kk : ∀ (x : Int64) (h1 : HP), P x h1 → SemL sb sL sx (d + 1) q mc ms (pc + 3) L (.long x :: st) h1) : SemL sb sL sx (d + 1) q mc2 ms2 pc L (v2 :: v1 :: .ref b :: st) h := by
  subst hm hm2
  exact zl_callV (mc := mc) (ms := ms) (L := L) cw hown hd hc hcl rfl hs rfl hC (fun r1 h1 hq => by
    obtain ⟨x, rfl, hp⟩ := hq
    exact kk x h1 hp)
theorem zl_V3l {own : String} {idx : Nat} {q' : QM} {b ci N : Nat} {fs : List Value} {T : u_T} {v1 v2 v3 : Value} {P : Int64 → HP → Prop} (cw : CWV own idx q' 3) (hown : q.1.cls = own) (hd : decode q.2.1 pc = .ok (.invokevirtual idx, 3)) (hc : h[b]? = some (.inr (ci, fs))) (hcl : vwCl[ci]? = some (q'.1.cls, T, N)) (hs : (st.map fun v => v.category).sum ≤ 8) (hC : Con d q' 0 0 (.ref b :: [v1, v2, v3]) h (PL P)) (kk : ∀ (x : Int64) (h1 : HP), P x h1 → SemL sb sL sx (d + 1) q mc ms (pc + 3) L (.long x :: st) h1) : SemL sb sL sx (d + 1) q mc ms pc L (v3 :: v2 :: v1 :: .ref b :: st) h := by
  have k9 := zl_callV (mc := mc) (ms := ms) (L := L) cw hown hd hc hcl rfl hs rfl hC (fun r1 h1 hq => by
    obtain ⟨x, rfl, hp⟩ := hq
    exact kk x h1 hp)
  rwa [Nat.zero_add, Nat.zero_add] at k9
theorem zl_V3lm {own : String} {idx mc1 ms1 mc2 ms2 : Nat} {q' : QM} {b ci N : Nat} {fs : List Value} {T : u_T} {v1 v2 v3 : Value} {P : Int64 → HP → Prop} (cw : CWV own idx q' 3) (hown : q.1.cls = own) (hd : decode q.2.1 pc = .ok (.invokevirtual idx, 3)) (hc : h[b]? = some (.inr (ci, fs))) (hcl : vwCl[ci]? = some (q'.1.cls, T, N)) (hs : (st.map fun v => v.category).sum ≤ 8) (hC : Con d q' mc1 ms1 (.ref b :: [v1, v2, v3]) h (PL P)) (hm : mc1 + mc = mc2) (hm2 : ms1 + ms = ms2) (kk : ∀ (x : Int64) (h1 : HP), P x h1 → SemL sb sL sx (d + 1) q mc ms (pc + 3) L (.long x :: st) h1) : SemL sb sL sx (d + 1) q mc2 ms2 pc L (v3 :: v2 :: v1 :: .ref b :: st) h := by
  subst hm hm2
  exact zl_callV (mc := mc) (ms := ms) (L := L) cw hown hd hc hcl rfl hs rfl hC (fun r1 h1 hq => by
    obtain ⟨x, rfl, hp⟩ := hq
    exact kk x h1 hp)
theorem zl_sld {i : Int32} (hd : decode q.2.1 pc = .ok (.iaload, 1)) (hin : vp_in i sL) (kk : SemL sb sL sx d q mc ms (pc + 1) L (.int (sx i.toNatClampNeg) :: st) h) : SemL sb sL sx d q mc ms pc L (.int i :: .float 400 :: st) h := by
  intro w HB p l e R s m args below meth c mcT msT H locs cells slots ls hE C hW hS hl h1 h2
  have k1 := kk w HB p l e R s m args below meth c mcT msT H locs cells slots ls hE C hW hS hl h1 h2
  obtain ⟨e1, hX, hlt, -, -, e6⟩ := hE
  have e2 : em w (.float 400) = .ref sb := by
    show Value.ref (w.2.1 400) = _
    rw [e1]
  rw [List.map_cons, List.map_cons, e2]
  exact va_sld C.1 C.2.1 hX (by omega) (by omega) hS hin hd k1
theorem zl_slen (hd : decode q.2.1 pc = .ok (.arraylength, 1)) (kk : SemL sb sL sx d q mc ms (pc + 1) L (.int (nI sL) :: st) h) : SemL sb sL sx d q mc ms pc L (.float 400 :: st) h := by
  intro w HB p l e R s m args below meth c mcT msT H locs cells slots ls hE C hW hS hl h1 h2
  have k1 := kk w HB p l e R s m args below meth c mcT msT H locs cells slots ls hE C hW hS hl h1 h2
  obtain ⟨e1, hX, hlt, -, -, e6⟩ := hE
  have e2 : em w (.float 400) = .ref sb := by
    show Value.ref (w.2.1 400) = _
    rw [e1]
  rw [List.map_cons, e2]
  exact va_slen C.1 C.2.1 hX (by omega) (by omega) hS hd k1
theorem zl_end (hq : q.2.1 = code) (hr : q.2.2.2 = ret) (hd : decode code pc = .ok (.ireturn, 1)) : SemL sb sL sx d q mc ms pc L [.int 1] h := by
  intro w HB p l e R s m args below meth c mcT msT H locs cells slots ls hE C hW hS hl h1 h2
  obtain ⟨e1, hX, hlt, rfl, rfl, e6⟩ := hE
  have f1 := C.2.2.2.2.2.2.2.2.2.2.2.2.1
  have f2 := C.2.2.2.2.2.2.2.2.2.2.2.2.2
  refine va_forget (fun x hx => by have := hS.2.2 x hx; omega) ?_
  have g1 : mcT ≤ 606698 := f1
  have g2 : msT ≤ 7282154 := f2
  refine W.widen (k := 606698) (n := 7282154) (by omega) (by omega) ?_
  exact lw_ret C.1 (C.2.1.trans hq) (C.2.2.2.1.trans hr) C.2.2.2.2.2.2.2.1 hd
end LRules
