/-! THE ABSTRACT HEAP: a list of cells, an address is a place in it; em, cat, Wd say which machine heap it stands for -/
abbrev HA : Type := (Nat → Int32) ⊕ (Nat → Int64) ⊕ (Nat → Value)
abbrev HC : Type := (Nat × Nat × HA) ⊕ (Nat × List Value)
abbrev HP : Type := List HC
abbrev WP : Type := Nat × (Nat → Nat) × Value × va_G × (Nat → ClassId)
abbrev QM : Type := MethodName × ByteArray × Nat × Option FieldType
/-- a value as the machine has it: ref i is the i-th cell from the base on, float j the j-th thing from outside, retAddr the one whose kind nobody asks -/
def em (w : WP) (v : Value) : Value := match v with
  | .ref i => .ref (w.1 + i)
  | .float j => .ref (w.2.1 j.toNat)
  | .retAddr _ => w.2.2.1
  | .int x => .int x
  | .long x => .long x
  | .double x => .double x
  | .null => .null
def caW (w : WP) (a : HA) : Nat → Value := match a with
  | .inl f => fun k => .int (f k)
  | .inr (.inl f) => fun k => .long (f k)
  | .inr (.inr f) => fun k => em w (f k)
def cat (w : WP) (a : Nat) (H : Heap) (c : HC) : Prop := match c with
  | .inl x => H[a]? = some (arrV (w.2.2.2.2 x.1) x.2.1 (caW w x.2.2))
  | .inr o => ∃ r : vw_C, vwCl[o.1]? = some r ∧ t_OB a (w.2.2.2.1.1 o.1) r.2.2 (w.2.2.2.1.2 o.1) H (vp_V (o.2.map (em w)))
def Wd (w : WP) (h : HP) (H : Heap) : Prop := H.size = w.1 + h.length ∧ ∀ (i : Nat) (c : HC), h[i]? = some c → cat w (w.1 + i) H c
def aTy : List FieldType := [.int, .long, .char, .boolean, .object "TwoServes$Server", .object "TwoServes$Court", .object "TwoServes$Tape", .array .int, .object "java/lang/Object"]
def tyL (tc : Nat → ClassId) : List (ClassId × FieldType) := [(tc 0, .int), (tc 1, .long), (tc 2, .char), (tc 3, .boolean), (tc 4, .object "TwoServes$Server"), (tc 5, .object "TwoServes$Court"), (tc 6, .object "TwoServes$Tape"), (tc 7, .array .int), (tc 8, .object "java/lang/Object")]
theorem tyL_at (tc : Nat → ClassId) {t : Nat} {ty : FieldType} (h : aTy[t]? = some ty) : (tyL tc)[t]? = some (tc t, ty) := by
  match t, h with
  | 0, h | 1, h | 2, h | 3, h | 4, h | 5, h | 6, h | 7, h | 8, h => cases h; rfl
  | n + 9, h => simp [aTy] at h
theorem cat.kept {w : WP} {a : Nat} {H H1 : Heap} {c : HC} (h : cat w a H c) (hq : H1[a]? = H[a]?) : cat w a H1 c := by
  cases c with
  | inl x => exact hq.trans h
  | inr o =>
    obtain ⟨r, h1, h2⟩ := h
    exact ⟨r, h1, h2.kept hq⟩
theorem Wd.lt {w : WP} {h : HP} {H : Heap} (hW : Wd w h H) {i : Nat} {c : HC} (hc : h[i]? = some c) : w.1 + i < H.size := by
  have := (List.getElem?_eq_some_iff.mp hc).1
  rw [hW.1]
  omega
theorem Wd.set {w : WP} {h : HP} {H H1 : Heap} (hW : Wd w h H) {i : Nat} {c : HC} (z : H1.size = H.size) (oq : ∀ q, q ≠ w.1 + i → H1[q]? = H[q]?) (hc : cat w (w.1 + i) H1 c) : Wd w (h.set i c) H1 := by
  refine ⟨by rw [z, hW.1, List.length_set], fun j cj hj => ?_⟩
  by_cases e : i = j
  · subst e
    by_cases hl : i < h.length
    · rw [List.getElem?_set_self hl] at hj
      cases hj
      exact hc
    · have := (List.getElem?_eq_some_iff.mp hj).1
      rw [List.length_set] at this
      exact absurd this hl
  · rw [List.getElem?_set_ne e] at hj
    exact (hW.2 j cj hj).kept (oq _ (by omega))
theorem Wd.push {w : WP} {h : HP} {H H1 : Heap} (hW : Wd w h H) {c : HC} (z : H1.size = H.size + 1) (oq : ∀ q, q < H.size → H1[q]? = H[q]?) (hc : cat w (w.1 + h.length) H1 c) : Wd w (h ++ [c]) H1 := by
  refine ⟨by rw [z, hW.1, List.length_append]; simp; omega, fun j cj hj => ?_⟩
  by_cases hl : j < h.length
  · rw [List.getElem?_append_left hl] at hj
    exact (hW.2 j cj hj).kept (oq _ (by rw [hW.1]; omega))
  · rw [List.getElem?_append_right (by omega)] at hj
    have h0 : j - h.length < 1 := (List.getElem?_eq_some_iff.mp hj).1
    have e : j = h.length := by omega
    subst e
    rw [Nat.sub_self] at hj
    cases hj
    exact hc
/-! what a method may take as given beside its words -/
def nestL : List (String × Nat × MethodName × String) := [("TwoServes", 11, ⟨"TwoServes$Situation", "<init>", "()V"⟩, "TwoServes"), ("TwoServes", 26, ⟨"TwoServes$Text", "<init>", "()V"⟩, "TwoServes"), ("TwoServes", 65, ⟨"TwoServes$Court", "<init>", "()V"⟩, "TwoServes"), ("TwoServes", 66, ⟨"TwoServes$Tape", "<init>", "()V"⟩, "TwoServes"), ("TwoServes$Situation", 127, ⟨"TwoServes", "twoServes", "(IIII)I"⟩, "TwoServes"), ("TwoServes$Situation", 87, ⟨"TwoServes", "within", "(II)Z"⟩, "TwoServes"), ("TwoServes$Text", 19, ⟨"TwoServes", "within", "(II)Z"⟩, "TwoServes")]
def svN : List String := ["TwoServes$Server", "TwoServes$Daring", "TwoServes$Timid", "TwoServes$Tiring", "TwoServes$Read", "TwoServes$Sure", "TwoServes$Told"]
/-- the classes of the KINDS: the KIND's class, and those it can be taken for -/
def castL : List (String × String) := [("TwoServes$Daring", "TwoServes$Server"), ("TwoServes$Timid", "TwoServes$Server"), ("TwoServes$Tiring", "TwoServes$Server"), ("TwoServes$Read", "TwoServes$Server"), ("TwoServes$Sure", "TwoServes$Server"), ("TwoServes$Told", "TwoServes$Server"), ("TwoServes$Read", "TwoServes$Daring"), ("TwoServes$Sure", "TwoServes$Timid"), ("TwoServes$Told", "TwoServes$Tiring"), ("java/lang/Integer", "java/lang/Object")]
def ncastL : List (String × String) := svN.flatMap fun a => (svN.drop 1).filterMap fun b => if a = b ∨ (a, b) ∈ castL then none else some (a, b)
def strL : List (String × Nat × String × Nat) := [("TwoServes$Situation", 48, "pkfswl", 3), ("TwoServes$Text", 43, "in ", 0), ("TwoServes$Text", 45, "win ", 1), ("TwoServes$Text", 47, "out ", 2), ("TwoServes$Text", 82, "pkfswl", 3), ("TwoServes$Text", 88, "<=>", 4)]
def strLen : List Nat := [3, 4, 4, 6, 3]
def strByt : List (List Int32) := [[105, 110, 32], [119, 105, 110, 32], [111, 117, 116, 32], [112, 107, 102, 115, 119, 108], [60, 61, 62]]
def getCN : MethodName := ⟨"java/lang/Object", "getClass", "()Ljava/lang/Class;"⟩
def NW (w : WP) (s : State) : Prop :=
  (∀ x ∈ nestL, va_Nw (.methodLinkNest x.1 x.2.1 x.2.2.1 x.2.2.2) s) ∧ (∀ x ∈ castL, va_Nw (.castable x.1 x.2) s) ∧ (∀ x ∈ ncastL, va_Nc x.1 x.2 s) ∧
  (∀ x ∈ strL, vk_R x.1 x.2.1 x.2.2.1 (w.2.1 (310 + x.2.2.2)) s) ∧ va_Mi "[Ljava/lang/Object;" (w.2.1 302) s ∧ va_Dc s ∧
  va_AO "TwoServes$Server" s ∧ va_AO "TwoServes$Court" s ∧ va_AO "TwoServes$Tape" s ∧ va_AO "java/lang/Object" s ∧ va_AOA .int s
def EX (w : WP) (HB : Heap) (s : State) : Prop :=
  vb_C w.2.1 (w.1 ≤ ·) s HB ∧ va_Z "java/lang/Integer$IntegerCache" "cache" "[Ljava/lang/Integer;" (.ref (w.2.1 300)) (w.1 ≤ ·) s HB ∧
  va_T (.object "java/lang/Integer") (w.2.1 300) 256 (fun j => .ref (w.2.1 j)) (w.1 ≤ ·) s HB ∧ va_Z "java/lang/Integer$IntegerCache" "high" "I" (.int 127) (w.1 ≤ ·) s HB ∧
  va_Z "java/util/ArrayList" "DEFAULTCAPACITY_EMPTY_ELEMENTDATA" "[Ljava/lang/Object;" (.ref (w.2.1 301)) (w.1 ≤ ·) s HB ∧ va_T (.object "java/lang/Object") (w.2.1 301) 0 (fun _ => .null) (w.1 ≤ ·) s HB ∧
  va_Z "java/lang/String" "COMPACT_STRINGS" "Z" (.int 1) (w.1 ≤ ·) s HB ∧ vk_S 5 strLen strByt (fun i => w.2.1 (310 + i)) (fun i => w.2.1 (320 + i)) (w.1 ≤ ·) s HB ∧
  va_Z "jdk/internal/util/Preconditions" "SIOOBE_FORMATTER" "Ljava/util/function/BiFunction;" w.2.2.1 (w.1 ≤ ·) s HB ∧ w.2.2.1.category = 1
def KX (w : WP) (HB : Heap) (s : State) : Prop := va_K w.2.2.2.1 vwCl (tyL w.2.2.2.2) s ∧ NW w s ∧ EX w HB s
theorem EX.moved {w : WP} {HB : Heap} {s U : State} (hvm : s.vm.Alike U.vm) (h : EX w HB s) : EX w HB U := by
  obtain ⟨h1, h2, h3, h4, h5, h6, h7, h8, h9, h10⟩ := h
  exact ⟨vb_C.moved hvm h1, va_Z.moved hvm h2, va_T.moved hvm h3, va_Z.moved hvm h4, va_Z.moved hvm h5, va_T.moved hvm h6, va_Z.moved hvm h7, vk_S.moved hvm h8, va_Z.moved hvm h9, h10⟩
theorem KX.warm {w : WP} {HB : Heap} {s U : State} (hW : s.WarmedH U.vm) (h : KX w HB s) : KX w HB U := by
  obtain ⟨hK, ⟨n1, n2, n3, n4, n5, n6, n7, n8, n9, n10, n11⟩, hE⟩ := h
  exact ⟨va_K.moved hW.alike hK, ⟨fun x hx => va_Nw.warmM hW (n1 x hx), fun x hx => va_Nw.warmC hW (n2 x hx), fun x hx => va_Nc.moved hW.alike (n3 x hx), fun x hx => vk_R.warm hW (n4 x hx), va_Mi.moved hW.alike n5, va_Dc.moved hW.alike n6, va_AO.moved hW.alike n7, va_AO.moved hW.alike n8, va_AO.moved hW.alike n9, va_AO.moved hW.alike n10, va_AOA.moved hW.alike n11⟩, hE.moved hW.alike⟩
theorem KX.same {w : WP} {HB : Heap} {s U : State} (hv : U.vm = s.vm) (h : KX w HB s) : KX w HB U := by
  have ha : s.vm.Alike U.vm := by rw [hv]; exact Vm.Alike.refl _
  obtain ⟨hK, ⟨n1, n2, n3, n4, n5, n6, n7, n8, n9, n10, n11⟩, hE⟩ := h
  exact ⟨va_K.moved ha hK, ⟨fun x hx => va_Nw.same rfl hv.symm (n1 x hx), fun x hx => va_Nw.same rfl hv.symm (n2 x hx), fun x hx => va_Nc.moved ha (n3 x hx), fun x hx => vk_R.same hv (n4 x hx), va_Mi.moved ha n5, va_Dc.moved ha n6, va_AO.moved ha n7, va_AO.moved ha n8, va_AO.moved ha n9, va_AO.moved ha n10, va_AOA.moved ha n11⟩, hE.moved ha⟩
/-! THE JUDGEMENTS -/
/-- the tables' words that a callee may keep -/
def gW : List Cond := lw_tbl.filter goodWord
theorem gW_of {i : Nat} {x : Cond} (h : lw_tbl[i]? = some x) (hg : goodWord x = true) : x ∈ gW := List.mem_filter.mpr ⟨List.mem_of_getElem? h, hg⟩
def wsq (q : QM) : List Cond := Cond.code q.1 q.2.1 q.2.2.1 q.2.2.2 :: gW
/-- below the base all is as it was -/
def lowB (w : WP) (HB : Heap) (s : State) : Prop := w.1 ≤ s.heap.size ∧ ∀ a : Nat, a < w.1 → s.heap[a]? = HB[a]?
def SCt (w : WP) (HB : Heap) (d : Nat) (q : QM) (p : Program) (R : Room) (s : State) (m : MethodId) (args : Array Value) (meth : Method) (c : Code) (mcT msT : Nat) : Prop :=
  p.tables.exec = Jvm.exec ∧ c.code = q.2.1 ∧ c.maxLocals = q.2.2.1 ∧ meth.sig.returnType = q.2.2.2 ∧ meth.name = q.1.name ∧ s.vm.findClass q.1.cls = some m.cls ∧
  (∀ x ∈ wsq q, x.before args s = true) ∧ meth.locks = false ∧ KX w HB s ∧ lowB w HB s ∧ d ≤ R.frames ∧ 64 * d ≤ R.locals ∧ mcT ≤ R.cells ∧ msT ≤ R.slots
abbrev PO : Type := Option Value → HP → Prop
def QCr (w : WP) (Qp : PO) : Array Value → State → Outcome → State → Prop := fun _ st o t => ∃ (r : Option Value) (h' : HP), Qp r h' ∧ o = .returned (r.map (em w)) ∧ Wd w h' t.heap ∧ va_F (w.1 ≤ ·) st t
def Sem (d : Nat) (q : QM) (mc ms pc : Nat) (L : List (Nat × Value)) (st : List Value) (h : HP) (Qp : PO) : Prop :=
  ∀ (w : WP) (HB : Heap) (p : Program) (l : Launch) (e : Env) (R : Room) (s : State) (m : MethodId) (args : Array Value) (below : List Frame) (meth : Method) (c : Code) (mcT msT : Nat) (H : Heap) (locs : List Loc) (cells slots : Nat) (ls : Array Slot),
    SCt w HB d q p R s m args meth c mcT msT → Wd w h H → va_S (w.1 ≤ ·) s.heap H locs → lv_has ls q.2.2.1 (L.map fun x => (x.1, em w x.2)) → cells + mc ≤ mcT → slots + ms ≤ msT →
    W p l e R s m args below meth c H locs cells slots (MQ below (QCr w Qp) args s mcT msT (w.1 ≤ ·)) (F0 m pc ls (st.map (em w)))
def rmq (d mc ms : Nat) : Room := { frames := d, cells := mc, slots := ms, locals := 64 * d }
def PCr (w : WP) (HB : Heap) (args : List Value) (h : HP) : Array Value → State → Prop := va_Pc (args.map (em w)) (fun U => Wd w h U.heap ∧ KX w HB U ∧ lowB w HB U)
def Con (d : Nat) (q : QM) (mc ms : Nat) (args : List Value) (h : HP) (Qp : PO) : Prop :=
  ∀ (w : WP) (HB : Heap) (l : Launch), Met l q.1 (wsq q) (rmq d mc ms) (PCr w HB args h) (QCr w Qp) mc ms (w.1 ≤ ·)
theorem PCr.blind {w : WP} {HB : Heap} {args : List Value} {h : HP} : FrameBlind (PCr w HB args h) := by
  intro a U g mk hp
  exact ⟨hp.1, hp.2.1, KX.same rfl hp.2.2.1, hp.2.2.2⟩
theorem em_cat1 {w : WP} {HB : Heap} {s : State} (hE : KX w HB s) (v : Value) : (em w v).category = v.category := by
  cases v <;> first | rfl | exact hE.2.2.2.2.2.2.2.2.2.2.2
theorem em_cats {w : WP} {HB : Heap} {s : State} (hE : KX w HB s) (l : List Value) : ((l.map (em w)).map fun v => v.category) = l.map fun v => v.category := by
  rw [List.map_map]
  exact List.map_congr_left fun v _ => em_cat1 hE v
theorem lv_args_em {w : WP} {HB : Heap} {s : State} (hE : KX w HB s) : ∀ (l : List Value) (n : Nat), lv_args n (l.map (em w)) = (lv_args n l).map fun x => (x.1, em w x.2)
  | [], _ => rfl
  | v :: l, n => by
    have hc := em_cat1 hE v
    simp only [List.map_cons, lv_args, hc, lv_args_em hE l]
theorem lg_sl_len {w : WP} {HB : Heap} {s : State} (hE : KX w HB s) : ∀ (l : List Value), (lg_sl (l.map (em w))).length = (lg_sl l).length
  | [] => rfl
  | v :: l => by
    have hc := em_cat1 hE v
    have ih := lg_sl_len hE l
    simp only [lg_sl, List.map_cons, List.flatMap_cons, List.length_append, hc] at ih ⊢
    rw [ih]
    split <;> rfl
theorem Con.of {d : Nat} {q : QM} {mc ms : Nat} {args : List Value} {h : HP} {Qp : PO} (hy : plainName q.1.cls = true) (hlen : (lg_sl args).length ≤ q.2.2.1) (k : Sem d q mc ms 0 (lv_args 0 args) [] h Qp) : Con d q mc ms args h Qp := by
  intro w HB l
  refine Met.ofW (cc := q.2.1) (maxL := q.2.2.1) (ret := q.2.2.2) hy rfl ?_
  intro p e s m av below meth c s₁ B hml hv
  obtain ⟨rfl, hWd, hKX, hlow⟩ := hv
  have hn := name_of_methodNamed B.named B.method
  have hl := lv_entry (args.map (em w)) (n := q.2.2.1) (by rw [lg_sl_len hKX]; exact hlen)
  rw [lg_entry_eq]
  rw [lv_args_em hKX] at hl
  exact k w HB p l e _ s m _ below meth c mc ms s.heap [] 0 0 _ ⟨B.exec, B.bytes, hml, B.returns, hn.1, findClass_of_methodNamed B.named, atoms_spec (ws := wsq q) B.pre, B.notSynchronized, hKX, hlow, Nat.le_refl _, Nat.le_refl _, Nat.le_refl _, Nat.le_refl _⟩ hWd va_S.rf hl (by omega) (by omega)
