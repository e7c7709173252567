section
/-! an array class over arrays of t: the word that says so, and that it stays; new T[n][k] with its addresses told -/
def va_AOA (t : FieldType) (U : State) : Prop := (Cond.arrayOver (.array t)).before #[] U = true
theorem va_AOA.use {t : FieldType} {A : Array Value} {U : State} (h : va_AOA t U) : (Cond.arrayOver (.array t)).before A U = true := h
theorem va_AOA.moved {t : FieldType} {u U : State} (hvm : u.vm.Alike U.vm) (h : va_AOA t u) : va_AOA t U := by
  obtain ⟨comp, c, k, h1, h2, h3, h4, h5⟩ := arrayOverA_spec h
  obtain ⟨k', hk', he⟩ := hvm.2.2 _ _ h3
  have hi : (U.vm.classes.findIdx? fun (x : Class) => match x.kind with | .array component _ => component == comp | _ => false) = some c := by
    have e0 := va_idx_bare U.vm comp
    have e1 := va_idx_bare u.vm comp
    first | rw [hvm.bare_eq] at e1 | rw [← hvm.bare_eq] at e1
    exact e0.symm.trans (e1.trans h2)
  have hkind : k'.kind = .array comp (.array t) := by rw [he]; exact h4
  have f1 : U.vm.findClass (FieldType.array t).toString = some comp := by rw [hvm.findClass]; exact h1
  have f2 : U.vm.findClass ("[" ++ (FieldType.array t).toString) = some c := by rw [hvm.findClass]; exact h5
  unfold va_AOA Cond.before Cond.holds
  simp only [Cond.value]
  rw [f1, Option.bind_some]
  refine (congrArg (fun o : Option Nat => (o.bind (fun c => (U.vm.classes[c]?).map fun (k : Class) => match k.kind with | .array _ ty => decide (ty = FieldType.array t) && decide (U.vm.findClass ("[" ++ (FieldType.array t).toString) = some c) | _ => false) == some true)) hi).trans ?_
  simp [hk', hkind, f2]
theorem g_outer (c : ClassId) (N h0 : Nat) : ∀ i : Nat, Jvm.Free.Multi.outerC c N h0 i = arrV c N (fun j => if j < i then .ref (h0 + 1 + j) else .null)
  | 0 => by
    show ({ cls := c, slots := Array.replicate N .null, vm := .none } : Cell) = _
    rw [arrV_new]
    exact congrArg (arrV c N) (funext fun j => (if_neg (Nat.not_lt_zero j)).symm)
  | i + 1 => by
    show (Jvm.Free.Multi.outerC c N h0 i).setSlot i (.ref (h0 + 1 + i)) = _
    rw [g_outer c N h0 i, arrV_store]
    refine congrArg (arrV c N) (funext fun j => ?_)
    by_cases e : j = i
    · subst e
      simp [updV]
    · by_cases h : j < i
      · simp [updV, e, h, Nat.lt_succ_of_lt h]
      · simp [updV, e, h, show ¬ j < i + 1 by omega]
section GMN
variable {p : Program} {l : Launch} {e : Env} {R : Room} {s : State} {m : MethodId} {args : Array Value} {below : List Frame} {meth : Method} {c : Code} {H : Heap} {locs : List Loc} {cells slots : Nat} {Q : State → Prop}
theorem g_mna {cc : ByteArray} {pc : Nat} {ls : Array Slot} {rest : List Value} (hexec : p.tables.exec = Jvm.exec) (hb : c.code = cc) {own : String} {index : Nat} {ty : FieldType} (hown : s.vm.findClass own = some m.cls) (hclink : (Cond.classLink own index ("[" ++ (FieldType.array ty).toString)).before args s = true) (hover : va_AOA ty s) (harr : (Cond.arrayClass ty).before args s = true)
    {n k : Int32} (hn : ¬ n < 0) (hk : ¬ k < 0) (hb1 : n.toNatClampNeg * 4 ≤ 536870912) (hb2 : k.toNatClampNeg * componentBytes ty ≤ 536870912) (hb3 : k.toNatClampNeg ≤ 536870912) (hdf : fits ty (defaultValue ty) = true) (hdd : (defaultValue ty).isDefault = true) (hcells : cells + (1 + n.toNatClampNeg) ≤ R.cells) (hslots : slots + (n.toNatClampNeg + n.toNatClampNeg * k.toNatClampNeg) ≤ R.slots) (hdg : decode cc pc = .ok (.multianewarray index 2, 4))
    (kk : ∀ (cA cy : ClassId) (H1 : Heap), s.vm.findClass ("[" ++ (FieldType.array ty).toString) = some cA → s.vm.findClass (FieldType.array ty).toString = some cy → H1.size = H.size + 1 + n.toNatClampNeg → (∀ q, q < H.size → H1[q]? = H[q]?) → H1[H.size]? = some (arrV cA n.toNatClampNeg (fun j => .ref (H.size + 1 + j))) → (∀ j, j < n.toNatClampNeg → H1[H.size + 1 + j]? = some (arrV cy k.toNatClampNeg (fun _ => defaultValue ty))) →
      W p l e R s m args below meth c H1 locs (cells + 1 + n.toNatClampNeg) (slots + n.toNatClampNeg + n.toNatClampNeg * k.toNatClampNeg) Q (F0 m (pc + 4) ls (.ref H.size :: rest))) : W p l e R s m args below meth c H locs cells slots Q (F0 m pc ls (.int k :: .int n :: rest)) := by
  intro T hT Xs
  obtain ⟨vm₁, cA, comp, -, fA, fC, -, -, X', step⟩ := Xs.multianewarray2F hexec hown hclink (va_AOA.use hover) harr (g := F0 m pc ls (.int k :: .int n :: rest)) rfl (by rw [hb]; exact hdg) rfl hn hk hb1 hb2 hb3 hdf hdd hcells hslots
  generalize hF : Jvm.Free.Multi.fill (T.setVm vm₁) cA comp n.toNatClampNeg k.toNatClampNeg (defaultValue ty) n.toNatClampNeg = F at X' step
  have hTh : (T.setVm vm₁).heap = H := hT
  obtain ⟨f1, f2, -, -⟩ := Jvm.Free.Multi.fill_facts (T.setVm vm₁) cA comp n.toNatClampNeg k.toNatClampNeg (defaultValue ty) n.toNatClampNeg
  rw [hF, hTh] at f1 f2
  have hold : ∀ x : Nat, x < H.size → F.heap[x]? = H[x]? := fun x hx => by
    have h9 := Jvm.Free.Multi.fill_old (T.setVm vm₁) cA comp n.toNatClampNeg k.toNatClampNeg (defaultValue ty) (a := x) (by rw [hTh]; exact hx) n.toNatClampNeg
    rw [hF, hTh] at h9
    exact h9
  have hrow : ∀ j : Nat, j < n.toNatClampNeg → F.heap[H.size + 1 + j]? = some (arrV comp k.toNatClampNeg (fun _ => defaultValue ty)) := fun j hj => by
    have h9 := Jvm.Free.Multi.fill_inner (T.setVm vm₁) cA comp n.toNatClampNeg k.toNatClampNeg (defaultValue ty) n.toNatClampNeg j hj
    rw [hF, hTh] at h9
    rw [h9, ← arrV_new]
    rfl
  have hout : F.heap[H.size]? = some (arrV cA n.toNatClampNeg (fun j => .ref (H.size + 1 + j))) := by
    rw [f2, g_outer]
    refine congrArg some ?_
    unfold arrV
    congr 2
    funext j
    show (if j.val < n.toNatClampNeg then _ else _) = _
    rw [if_pos j.isLt]
  obtain ⟨t, a1, b1⟩ := kk cA comp F.heap fA fC f1 hold hout hrow F rfl X'
  refine ⟨t, step t ?_, b1⟩
  have e9 : T.heap.size = H.size := by rw [hT]
  rw [e9]
  exact a1
end GMN
end
section
-- ===== PART A: goes FIRST, ahead of the names: the tables' words, and 'selects' of the private methods out of them =====
/-- a private method of a class that the tables say can be made, by its rows of tables_1 -/
def lw_okq (q : MethodName × Nat) : Prop := (q.1.cls ≠ "java/lang/invoke/MethodHandle" ∧ q.1.cls ≠ "java/lang/invoke/VarHandle") ∧ Cond.instantiable q.1.cls q.2 ∈ tables_1 ∧ Cond.privateMethod q.1 ∈ tables_1 ∧ Cond.instanceMethod q.1 ∈ tables_1
theorem lw_p0 : lw_okq (⟨"TwoServes", "serverAt", "(I)LTwoServes$Server;"⟩, 13) := ⟨⟨by decide +kernel, by decide +kernel⟩, List.mem_of_getElem? (i := 31) (by decide +kernel), List.mem_of_getElem? (i := 384) (by decide +kernel), List.mem_of_getElem? (i := 385) (by decide +kernel)⟩
theorem lw_p1 : lw_okq (⟨"TwoServes$Situation", "lettersOf", "(LTwoServes$Server;I)[I"⟩, 17) := ⟨⟨by decide +kernel, by decide +kernel⟩, List.mem_of_getElem? (i := 39) (by decide +kernel), List.mem_of_getElem? (i := 395) (by decide +kernel), List.mem_of_getElem? (i := 396) (by decide +kernel)⟩
theorem lw_p2 : lw_okq (⟨"TwoServes$Court", "holds", "(II[I)Z"⟩, 6) := ⟨⟨by decide +kernel, by decide +kernel⟩, List.mem_of_getElem? (i := 188) (by decide +kernel), List.mem_of_getElem? (i := 403) (by decide +kernel), List.mem_of_getElem? (i := 404) (by decide +kernel)⟩
theorem lw_p3 : lw_okq (⟨"TwoServes$Text", "clause", "(LTwoServes$Court;)Z"⟩, 3) := ⟨⟨by decide +kernel, by decide +kernel⟩, List.mem_of_getElem? (i := 139) (by decide +kernel), List.mem_of_getElem? (i := 501) (by decide +kernel), List.mem_of_getElem? (i := 502) (by decide +kernel)⟩
theorem lw_p4 : lw_okq (⟨"TwoServes$Text", "sign", "()C"⟩, 3) := ⟨⟨by decide +kernel, by decide +kernel⟩, List.mem_of_getElem? (i := 139) (by decide +kernel), List.mem_of_getElem? (i := 505) (by decide +kernel), List.mem_of_getElem? (i := 506) (by decide +kernel)⟩
theorem lw_p5 : lw_okq (⟨"TwoServes$Text", "took", "(C)Z"⟩, 3) := ⟨⟨by decide +kernel, by decide +kernel⟩, List.mem_of_getElem? (i := 139) (by decide +kernel), List.mem_of_getElem? (i := 551) (by decide +kernel), List.mem_of_getElem? (i := 552) (by decide +kernel)⟩
theorem lw_p6 : lw_okq (⟨"TwoServes$Text", "number", "()I"⟩, 3) := ⟨⟨by decide +kernel, by decide +kernel⟩, List.mem_of_getElem? (i := 139) (by decide +kernel), List.mem_of_getElem? (i := 555) (by decide +kernel), List.mem_of_getElem? (i := 556) (by decide +kernel)⟩
theorem lw_p7 : lw_okq (⟨"TwoServes$Text", "anyOf", "(LTwoServes$Court;I)Z"⟩, 3) := ⟨⟨by decide +kernel, by decide +kernel⟩, List.mem_of_getElem? (i := 139) (by decide +kernel), List.mem_of_getElem? (i := 560) (by decide +kernel), List.mem_of_getElem? (i := 561) (by decide +kernel)⟩
theorem lw_p8 : lw_okq (⟨"TwoServes$Text", "allOf", "(LTwoServes$Court;I)Z"⟩, 3) := ⟨⟨by decide +kernel, by decide +kernel⟩, List.mem_of_getElem? (i := 139) (by decide +kernel), List.mem_of_getElem? (i := 564) (by decide +kernel), List.mem_of_getElem? (i := 565) (by decide +kernel)⟩
theorem lw_p9 : lw_okq (⟨"TwoServes$Text", "factor", "(LTwoServes$Court;I)Z"⟩, 3) := ⟨⟨by decide +kernel, by decide +kernel⟩, List.mem_of_getElem? (i := 139) (by decide +kernel), List.mem_of_getElem? (i := 568) (by decide +kernel), List.mem_of_getElem? (i := 569) (by decide +kernel)⟩
theorem lw_p10 : lw_okq (⟨"TwoServes$Text", "test", "(LTwoServes$Court;)Z"⟩, 3) := ⟨⟨by decide +kernel, by decide +kernel⟩, List.mem_of_getElem? (i := 139) (by decide +kernel), List.mem_of_getElem? (i := 576) (by decide +kernel), List.mem_of_getElem? (i := 577) (by decide +kernel)⟩
theorem lw_p11 : lw_okq (⟨"TwoServes$Situation", "wins", "(LTwoServes$Server;II)Z"⟩, 17) := ⟨⟨by decide +kernel, by decide +kernel⟩, List.mem_of_getElem? (i := 39) (by decide +kernel), List.mem_of_getElem? (i := 689) (by decide +kernel), List.mem_of_getElem? (i := 690) (by decide +kernel)⟩
theorem lw_p12 : lw_okq (⟨"TwoServes", "bestOf", "(LTwoServes$Server;I)I"⟩, 13) := ⟨⟨by decide +kernel, by decide +kernel⟩, List.mem_of_getElem? (i := 31) (by decide +kernel), List.mem_of_getElem? (i := 699) (by decide +kernel), List.mem_of_getElem? (i := 700) (by decide +kernel)⟩
theorem lw_p13 : lw_okq (⟨"TwoServes", "chanceAgainst", "(LTwoServes$Server;I)I"⟩, 13) := ⟨⟨by decide +kernel, by decide +kernel⟩, List.mem_of_getElem? (i := 31) (by decide +kernel), List.mem_of_getElem? (i := 740) (by decide +kernel), List.mem_of_getElem? (i := 741) (by decide +kernel)⟩
theorem lw_p14 : lw_okq (⟨"TwoServes", "gameOf", "(LTwoServes$Server;II)I"⟩, 13) := ⟨⟨by decide +kernel, by decide +kernel⟩, List.mem_of_getElem? (i := 31) (by decide +kernel), List.mem_of_getElem? (i := 748) (by decide +kernel), List.mem_of_getElem? (i := 749) (by decide +kernel)⟩
theorem lw_p15 : lw_okq (⟨"TwoServes", "matchOf", "(III)I"⟩, 13) := ⟨⟨by decide +kernel, by decide +kernel⟩, List.mem_of_getElem? (i := 31) (by decide +kernel), List.mem_of_getElem? (i := 765) (by decide +kernel), List.mem_of_getElem? (i := 766) (by decide +kernel)⟩
def lw_privs_1 : List (MethodName × Nat) := [(⟨"TwoServes", "serverAt", "(I)LTwoServes$Server;"⟩, 13), (⟨"TwoServes$Situation", "lettersOf", "(LTwoServes$Server;I)[I"⟩, 17), (⟨"TwoServes$Court", "holds", "(II[I)Z"⟩, 6), (⟨"TwoServes$Text", "clause", "(LTwoServes$Court;)Z"⟩, 3), (⟨"TwoServes$Text", "sign", "()C"⟩, 3), (⟨"TwoServes$Text", "took", "(C)Z"⟩, 3), (⟨"TwoServes$Text", "number", "()I"⟩, 3), (⟨"TwoServes$Text", "anyOf", "(LTwoServes$Court;I)Z"⟩, 3), (⟨"TwoServes$Text", "allOf", "(LTwoServes$Court;I)Z"⟩, 3), (⟨"TwoServes$Text", "factor", "(LTwoServes$Court;I)Z"⟩, 3), (⟨"TwoServes$Text", "test", "(LTwoServes$Court;)Z"⟩, 3), (⟨"TwoServes$Situation", "wins", "(LTwoServes$Server;II)Z"⟩, 17), (⟨"TwoServes", "bestOf", "(LTwoServes$Server;I)I"⟩, 13), (⟨"TwoServes", "chanceAgainst", "(LTwoServes$Server;I)I"⟩, 13), (⟨"TwoServes", "gameOf", "(LTwoServes$Server;II)I"⟩, 13), (⟨"TwoServes", "matchOf", "(III)I"⟩, 13)]
theorem lw_r1 : ∀ q ∈ lw_privs_1, lw_okq q := List.forall_mem_cons.mpr ⟨lw_p0, List.forall_mem_cons.mpr ⟨lw_p1, List.forall_mem_cons.mpr ⟨lw_p2, List.forall_mem_cons.mpr ⟨lw_p3, List.forall_mem_cons.mpr ⟨lw_p4, List.forall_mem_cons.mpr ⟨lw_p5, List.forall_mem_cons.mpr ⟨lw_p6, List.forall_mem_cons.mpr ⟨lw_p7, List.forall_mem_cons.mpr ⟨lw_p8, List.forall_mem_cons.mpr ⟨lw_p9, List.forall_mem_cons.mpr ⟨lw_p10, List.forall_mem_cons.mpr ⟨lw_p11, List.forall_mem_cons.mpr ⟨lw_p12, List.forall_mem_cons.mpr ⟨lw_p13, List.forall_mem_cons.mpr ⟨lw_p14, List.forall_mem_cons.mpr ⟨lw_p15, fun _ h => absurd h List.not_mem_nil⟩⟩⟩⟩⟩⟩⟩⟩⟩⟩⟩⟩⟩⟩⟩⟩
theorem lw_p16 : lw_okq (⟨"TwoServes", "tapeAt", "(I)LTwoServes$Tape;"⟩, 13) := ⟨⟨by decide +kernel, by decide +kernel⟩, List.mem_of_getElem? (i := 31) (by decide +kernel), List.mem_of_getElem? (i := 815) (by decide +kernel), List.mem_of_getElem? (i := 816) (by decide +kernel)⟩
theorem lw_p17 : lw_okq (⟨"java/util/ArrayList", "add", "(Ljava/lang/Object;[Ljava/lang/Object;I)V"⟩, 3) := ⟨⟨by decide +kernel, by decide +kernel⟩, List.mem_of_getElem? (i := 161) (by decide +kernel), List.mem_of_getElem? (i := 877) (by decide +kernel), List.mem_of_getElem? (i := 878) (by decide +kernel)⟩
theorem lw_p18 : lw_okq (⟨"java/util/ArrayList", "grow", "()[Ljava/lang/Object;"⟩, 3) := ⟨⟨by decide +kernel, by decide +kernel⟩, List.mem_of_getElem? (i := 161) (by decide +kernel), List.mem_of_getElem? (i := 881) (by decide +kernel), List.mem_of_getElem? (i := 882) (by decide +kernel)⟩
theorem lw_p19 : lw_okq (⟨"java/util/ArrayList", "grow", "(I)[Ljava/lang/Object;"⟩, 3) := ⟨⟨by decide +kernel, by decide +kernel⟩, List.mem_of_getElem? (i := 161) (by decide +kernel), List.mem_of_getElem? (i := 885) (by decide +kernel), List.mem_of_getElem? (i := 886) (by decide +kernel)⟩
theorem lw_p20 : lw_okq (⟨"TwoServes$Tape", "cut", "(J)J"⟩, 3) := ⟨⟨by decide +kernel, by decide +kernel⟩, List.mem_of_getElem? (i := 212) (by decide +kernel), List.mem_of_getElem? (i := 1059) (by decide +kernel), List.mem_of_getElem? (i := 1060) (by decide +kernel)⟩
theorem lw_p21 : lw_okq (⟨"TwoServes$Tape", "spans", "(II)Z"⟩, 3) := ⟨⟨by decide +kernel, by decide +kernel⟩, List.mem_of_getElem? (i := 212) (by decide +kernel), List.mem_of_getElem? (i := 1075) (by decide +kernel), List.mem_of_getElem? (i := 1076) (by decide +kernel)⟩
theorem lw_p22 : lw_okq (⟨"TwoServesModel", "in", "(III)Z"⟩, 63) := ⟨⟨by decide +kernel, by decide +kernel⟩, List.mem_of_getElem? (i := 1080) (by decide +kernel), List.mem_of_getElem? (i := 1281) (by decide +kernel), List.mem_of_getElem? (i := 1282) (by decide +kernel)⟩
theorem lw_p23 : lw_okq (⟨"TwoServesModel", "isForce", "(I)Z"⟩, 63) := ⟨⟨by decide +kernel, by decide +kernel⟩, List.mem_of_getElem? (i := 1080) (by decide +kernel), List.mem_of_getElem? (i := 1285) (by decide +kernel), List.mem_of_getElem? (i := 1286) (by decide +kernel)⟩
theorem lw_p24 : lw_okq (⟨"TwoServesModel", "isServer", "(I)Z"⟩, 63) := ⟨⟨by decide +kernel, by decide +kernel⟩, List.mem_of_getElem? (i := 1080) (by decide +kernel), List.mem_of_getElem? (i := 1293) (by decide +kernel), List.mem_of_getElem? (i := 1294) (by decide +kernel)⟩
theorem lw_p25 : lw_okq (⟨"TwoServesModel", "goesText", "(I)Z"⟩, 63) := ⟨⟨by decide +kernel, by decide +kernel⟩, List.mem_of_getElem? (i := 1080) (by decide +kernel), List.mem_of_getElem? (i := 1309) (by decide +kernel), List.mem_of_getElem? (i := 1310) (by decide +kernel)⟩
theorem lw_p26 : lw_okq (⟨"TwoServesModel", "takesClause", "(I)Z"⟩, 63) := ⟨⟨by decide +kernel, by decide +kernel⟩, List.mem_of_getElem? (i := 1080) (by decide +kernel), List.mem_of_getElem? (i := 1313) (by decide +kernel), List.mem_of_getElem? (i := 1314) (by decide +kernel)⟩
theorem lw_p27 : lw_okq (⟨"TwoServesModel", "takesHead", "(I)Z"⟩, 63) := ⟨⟨by decide +kernel, by decide +kernel⟩, List.mem_of_getElem? (i := 1080) (by decide +kernel), List.mem_of_getElem? (i := 1317) (by decide +kernel), List.mem_of_getElem? (i := 1318) (by decide +kernel)⟩
theorem lw_p28 : lw_okq (⟨"TwoServesModel", "next", "()I"⟩, 63) := ⟨⟨by decide +kernel, by decide +kernel⟩, List.mem_of_getElem? (i := 1080) (by decide +kernel), List.mem_of_getElem? (i := 1321) (by decide +kernel), List.mem_of_getElem? (i := 1322) (by decide +kernel)⟩
theorem lw_p29 : lw_okq (⟨"TwoServesModel", "takesWord", "(II)Z"⟩, 63) := ⟨⟨by decide +kernel, by decide +kernel⟩, List.mem_of_getElem? (i := 1080) (by decide +kernel), List.mem_of_getElem? (i := 1325) (by decide +kernel), List.mem_of_getElem? (i := 1326) (by decide +kernel)⟩
theorem lw_p30 : lw_okq (⟨"TwoServesModel", "takes", "(I)Z"⟩, 63) := ⟨⟨by decide +kernel, by decide +kernel⟩, List.mem_of_getElem? (i := 1080) (by decide +kernel), List.mem_of_getElem? (i := 1329) (by decide +kernel), List.mem_of_getElem? (i := 1330) (by decide +kernel)⟩
theorem lw_p31 : lw_okq (⟨"TwoServesModel", "takesNumber", "()Z"⟩, 63) := ⟨⟨by decide +kernel, by decide +kernel⟩, List.mem_of_getElem? (i := 1080) (by decide +kernel), List.mem_of_getElem? (i := 1333) (by decide +kernel), List.mem_of_getElem? (i := 1334) (by decide +kernel)⟩
def lw_privs_2 : List (MethodName × Nat) := [(⟨"TwoServes", "tapeAt", "(I)LTwoServes$Tape;"⟩, 13), (⟨"java/util/ArrayList", "add", "(Ljava/lang/Object;[Ljava/lang/Object;I)V"⟩, 3), (⟨"java/util/ArrayList", "grow", "()[Ljava/lang/Object;"⟩, 3), (⟨"java/util/ArrayList", "grow", "(I)[Ljava/lang/Object;"⟩, 3), (⟨"TwoServes$Tape", "cut", "(J)J"⟩, 3), (⟨"TwoServes$Tape", "spans", "(II)Z"⟩, 3), (⟨"TwoServesModel", "in", "(III)Z"⟩, 63), (⟨"TwoServesModel", "isForce", "(I)Z"⟩, 63), (⟨"TwoServesModel", "isServer", "(I)Z"⟩, 63), (⟨"TwoServesModel", "goesText", "(I)Z"⟩, 63), (⟨"TwoServesModel", "takesClause", "(I)Z"⟩, 63), (⟨"TwoServesModel", "takesHead", "(I)Z"⟩, 63), (⟨"TwoServesModel", "next", "()I"⟩, 63), (⟨"TwoServesModel", "takesWord", "(II)Z"⟩, 63), (⟨"TwoServesModel", "takes", "(I)Z"⟩, 63), (⟨"TwoServesModel", "takesNumber", "()Z"⟩, 63)]
theorem lw_r2 : ∀ q ∈ lw_privs_2, lw_okq q := List.forall_mem_cons.mpr ⟨lw_p16, List.forall_mem_cons.mpr ⟨lw_p17, List.forall_mem_cons.mpr ⟨lw_p18, List.forall_mem_cons.mpr ⟨lw_p19, List.forall_mem_cons.mpr ⟨lw_p20, List.forall_mem_cons.mpr ⟨lw_p21, List.forall_mem_cons.mpr ⟨lw_p22, List.forall_mem_cons.mpr ⟨lw_p23, List.forall_mem_cons.mpr ⟨lw_p24, List.forall_mem_cons.mpr ⟨lw_p25, List.forall_mem_cons.mpr ⟨lw_p26, List.forall_mem_cons.mpr ⟨lw_p27, List.forall_mem_cons.mpr ⟨lw_p28, List.forall_mem_cons.mpr ⟨lw_p29, List.forall_mem_cons.mpr ⟨lw_p30, List.forall_mem_cons.mpr ⟨lw_p31, fun _ h => absurd h List.not_mem_nil⟩⟩⟩⟩⟩⟩⟩⟩⟩⟩⟩⟩⟩⟩⟩⟩
theorem lw_p32 : lw_okq (⟨"TwoServesModel", "isDigit", "()Z"⟩, 63) := ⟨⟨by decide +kernel, by decide +kernel⟩, List.mem_of_getElem? (i := 1080) (by decide +kernel), List.mem_of_getElem? (i := 1337) (by decide +kernel), List.mem_of_getElem? (i := 1338) (by decide +kernel)⟩
theorem lw_p33 : lw_okq (⟨"TwoServesModel", "takesE", "(I)Z"⟩, 63) := ⟨⟨by decide +kernel, by decide +kernel⟩, List.mem_of_getElem? (i := 1080) (by decide +kernel), List.mem_of_getElem? (i := 1341) (by decide +kernel), List.mem_of_getElem? (i := 1342) (by decide +kernel)⟩
theorem lw_p34 : lw_okq (⟨"TwoServesModel", "takesTest", "()Z"⟩, 63) := ⟨⟨by decide +kernel, by decide +kernel⟩, List.mem_of_getElem? (i := 1080) (by decide +kernel), List.mem_of_getElem? (i := 1345) (by decide +kernel), List.mem_of_getElem? (i := 1346) (by decide +kernel)⟩
theorem lw_p35 : lw_okq (⟨"TwoServesModel", "place", "(I)I"⟩, 63) := ⟨⟨by decide +kernel, by decide +kernel⟩, List.mem_of_getElem? (i := 1080) (by decide +kernel), List.mem_of_getElem? (i := 1349) (by decide +kernel), List.mem_of_getElem? (i := 1350) (by decide +kernel)⟩
theorem lw_p36 : lw_okq (⟨"TwoServesModel", "emits", "(I)V"⟩, 63) := ⟨⟨by decide +kernel, by decide +kernel⟩, List.mem_of_getElem? (i := 1080) (by decide +kernel), List.mem_of_getElem? (i := 1353) (by decide +kernel), List.mem_of_getElem? (i := 1354) (by decide +kernel)⟩
theorem lw_p37 : lw_okq (⟨"TwoServesModel", "whole", "()V"⟩, 63) := ⟨⟨by decide +kernel, by decide +kernel⟩, List.mem_of_getElem? (i := 1080) (by decide +kernel), List.mem_of_getElem? (i := 1357) (by decide +kernel), List.mem_of_getElem? (i := 1358) (by decide +kernel)⟩
theorem lw_p38 : lw_okq (⟨"TwoServesModel", "settle", "(I)V"⟩, 63) := ⟨⟨by decide +kernel, by decide +kernel⟩, List.mem_of_getElem? (i := 1080) (by decide +kernel), List.mem_of_getElem? (i := 1361) (by decide +kernel), List.mem_of_getElem? (i := 1362) (by decide +kernel)⟩
theorem lw_p39 : lw_okq (⟨"TwoServesModel", "inOf", "(II)I"⟩, 63) := ⟨⟨by decide +kernel, by decide +kernel⟩, List.mem_of_getElem? (i := 1080) (by decide +kernel), List.mem_of_getElem? (i := 1369) (by decide +kernel), List.mem_of_getElem? (i := 1370) (by decide +kernel)⟩
theorem lw_p40 : lw_okq (⟨"TwoServesModel", "sumOf", "(III)I"⟩, 63) := ⟨⟨by decide +kernel, by decide +kernel⟩, List.mem_of_getElem? (i := 1080) (by decide +kernel), List.mem_of_getElem? (i := 1373) (by decide +kernel), List.mem_of_getElem? (i := 1374) (by decide +kernel)⟩
theorem lw_p41 : lw_okq (⟨"TwoServesModel", "begin", "()I"⟩, 63) := ⟨⟨by decide +kernel, by decide +kernel⟩, List.mem_of_getElem? (i := 1080) (by decide +kernel), List.mem_of_getElem? (i := 1377) (by decide +kernel), List.mem_of_getElem? (i := 1378) (by decide +kernel)⟩
theorem lw_p42 : lw_okq (⟨"TwoServesModel", "behind", "()I"⟩, 63) := ⟨⟨by decide +kernel, by decide +kernel⟩, List.mem_of_getElem? (i := 1080) (by decide +kernel), List.mem_of_getElem? (i := 1381) (by decide +kernel), List.mem_of_getElem? (i := 1382) (by decide +kernel)⟩
theorem lw_p43 : lw_okq (⟨"TwoServesModel", "holds", "(III)Z"⟩, 63) := ⟨⟨by decide +kernel, by decide +kernel⟩, List.mem_of_getElem? (i := 1080) (by decide +kernel), List.mem_of_getElem? (i := 1385) (by decide +kernel), List.mem_of_getElem? (i := 1386) (by decide +kernel)⟩
theorem lw_p44 : lw_okq (⟨"TwoServesModel", "factOf", "(III)I"⟩, 63) := ⟨⟨by decide +kernel, by decide +kernel⟩, List.mem_of_getElem? (i := 1080) (by decide +kernel), List.mem_of_getElem? (i := 1389) (by decide +kernel), List.mem_of_getElem? (i := 1390) (by decide +kernel)⟩
theorem lw_p45 : lw_okq (⟨"TwoServesModel", "percent", "(I)I"⟩, 63) := ⟨⟨by decide +kernel, by decide +kernel⟩, List.mem_of_getElem? (i := 1080) (by decide +kernel), List.mem_of_getElem? (i := 1393) (by decide +kernel), List.mem_of_getElem? (i := 1394) (by decide +kernel)⟩
theorem lw_p46 : lw_okq (⟨"TwoServesModel", "winsOf", "(II)I"⟩, 63) := ⟨⟨by decide +kernel, by decide +kernel⟩, List.mem_of_getElem? (i := 1080) (by decide +kernel), List.mem_of_getElem? (i := 1397) (by decide +kernel), List.mem_of_getElem? (i := 1398) (by decide +kernel)⟩
theorem lw_p47 : lw_okq (⟨"TwoServesModel", "firstOf", "(I)I"⟩, 63) := ⟨⟨by decide +kernel, by decide +kernel⟩, List.mem_of_getElem? (i := 1080) (by decide +kernel), List.mem_of_getElem? (i := 1401) (by decide +kernel), List.mem_of_getElem? (i := 1402) (by decide +kernel)⟩
def lw_privs_3 : List (MethodName × Nat) := [(⟨"TwoServesModel", "isDigit", "()Z"⟩, 63), (⟨"TwoServesModel", "takesE", "(I)Z"⟩, 63), (⟨"TwoServesModel", "takesTest", "()Z"⟩, 63), (⟨"TwoServesModel", "place", "(I)I"⟩, 63), (⟨"TwoServesModel", "emits", "(I)V"⟩, 63), (⟨"TwoServesModel", "whole", "()V"⟩, 63), (⟨"TwoServesModel", "settle", "(I)V"⟩, 63), (⟨"TwoServesModel", "inOf", "(II)I"⟩, 63), (⟨"TwoServesModel", "sumOf", "(III)I"⟩, 63), (⟨"TwoServesModel", "begin", "()I"⟩, 63), (⟨"TwoServesModel", "behind", "()I"⟩, 63), (⟨"TwoServesModel", "holds", "(III)Z"⟩, 63), (⟨"TwoServesModel", "factOf", "(III)I"⟩, 63), (⟨"TwoServesModel", "percent", "(I)I"⟩, 63), (⟨"TwoServesModel", "winsOf", "(II)I"⟩, 63), (⟨"TwoServesModel", "firstOf", "(I)I"⟩, 63)]
theorem lw_r3 : ∀ q ∈ lw_privs_3, lw_okq q := List.forall_mem_cons.mpr ⟨lw_p32, List.forall_mem_cons.mpr ⟨lw_p33, List.forall_mem_cons.mpr ⟨lw_p34, List.forall_mem_cons.mpr ⟨lw_p35, List.forall_mem_cons.mpr ⟨lw_p36, List.forall_mem_cons.mpr ⟨lw_p37, List.forall_mem_cons.mpr ⟨lw_p38, List.forall_mem_cons.mpr ⟨lw_p39, List.forall_mem_cons.mpr ⟨lw_p40, List.forall_mem_cons.mpr ⟨lw_p41, List.forall_mem_cons.mpr ⟨lw_p42, List.forall_mem_cons.mpr ⟨lw_p43, List.forall_mem_cons.mpr ⟨lw_p44, List.forall_mem_cons.mpr ⟨lw_p45, List.forall_mem_cons.mpr ⟨lw_p46, List.forall_mem_cons.mpr ⟨lw_p47, fun _ h => absurd h List.not_mem_nil⟩⟩⟩⟩⟩⟩⟩⟩⟩⟩⟩⟩⟩⟩⟩⟩
theorem lw_p48 : lw_okq (⟨"TwoServesModel", "secondOf", "(I)I"⟩, 63) := ⟨⟨by decide +kernel, by decide +kernel⟩, List.mem_of_getElem? (i := 1080) (by decide +kernel), List.mem_of_getElem? (i := 1405) (by decide +kernel), List.mem_of_getElem? (i := 1406) (by decide +kernel)⟩
theorem lw_p49 : lw_okq (⟨"TwoServesModel", "chanceOf", "(III)I"⟩, 63) := ⟨⟨by decide +kernel, by decide +kernel⟩, List.mem_of_getElem? (i := 1080) (by decide +kernel), List.mem_of_getElem? (i := 1425) (by decide +kernel), List.mem_of_getElem? (i := 1426) (by decide +kernel)⟩
theorem lw_p50 : lw_okq (⟨"TwoServesModel", "faultsOf", "(III)I"⟩, 63) := ⟨⟨by decide +kernel, by decide +kernel⟩, List.mem_of_getElem? (i := 1080) (by decide +kernel), List.mem_of_getElem? (i := 1433) (by decide +kernel), List.mem_of_getElem? (i := 1434) (by decide +kernel)⟩
theorem lw_p51 : lw_okq (⟨"TwoServesModel", "areDraws", "(II)Z"⟩, 63) := ⟨⟨by decide +kernel, by decide +kernel⟩, List.mem_of_getElem? (i := 1080) (by decide +kernel), List.mem_of_getElem? (i := 1441) (by decide +kernel), List.mem_of_getElem? (i := 1442) (by decide +kernel)⟩
theorem lw_p52 : lw_okq (⟨"TwoServesModel", "isOver", "()Z"⟩, 63) := ⟨⟨by decide +kernel, by decide +kernel⟩, List.mem_of_getElem? (i := 1080) (by decide +kernel), List.mem_of_getElem? (i := 1445) (by decide +kernel), List.mem_of_getElem? (i := 1446) (by decide +kernel)⟩
theorem lw_p53 : lw_okq (⟨"TwoServesModel", "goPoint", "(III)Z"⟩, 63) := ⟨⟨by decide +kernel, by decide +kernel⟩, List.mem_of_getElem? (i := 1080) (by decide +kernel), List.mem_of_getElem? (i := 1449) (by decide +kernel), List.mem_of_getElem? (i := 1450) (by decide +kernel)⟩
theorem lw_p54 : lw_okq (⟨"TwoServesModel", "chanceNow", "(I)I"⟩, 63) := ⟨⟨by decide +kernel, by decide +kernel⟩, List.mem_of_getElem? (i := 1080) (by decide +kernel), List.mem_of_getElem? (i := 1466) (by decide +kernel), List.mem_of_getElem? (i := 1467) (by decide +kernel)⟩
theorem lw_p55 : lw_okq (⟨"TwoServesModel", "gameNow", "(I)I"⟩, 63) := ⟨⟨by decide +kernel, by decide +kernel⟩, List.mem_of_getElem? (i := 1080) (by decide +kernel), List.mem_of_getElem? (i := 1487) (by decide +kernel), List.mem_of_getElem? (i := 1488) (by decide +kernel)⟩
theorem lw_p56 : lw_okq (⟨"TwoServesModel", "layGames", "(I)V"⟩, 63) := ⟨⟨by decide +kernel, by decide +kernel⟩, List.mem_of_getElem? (i := 1080) (by decide +kernel), List.mem_of_getElem? (i := 1491) (by decide +kernel), List.mem_of_getElem? (i := 1492) (by decide +kernel)⟩
theorem lw_p57 : lw_okq (⟨"TwoServesModel", "clean", "(I)I"⟩, 63) := ⟨⟨by decide +kernel, by decide +kernel⟩, List.mem_of_getElem? (i := 1080) (by decide +kernel), List.mem_of_getElem? (i := 1497) (by decide +kernel), List.mem_of_getElem? (i := 1498) (by decide +kernel)⟩
theorem lw_p58 : lw_okq (⟨"TwoServesModel", "matchOf", "(III)I"⟩, 63) := ⟨⟨by decide +kernel, by decide +kernel⟩, List.mem_of_getElem? (i := 1080) (by decide +kernel), List.mem_of_getElem? (i := 1509) (by decide +kernel), List.mem_of_getElem? (i := 1510) (by decide +kernel)⟩
theorem lw_p59 : lw_okq (⟨"TwoServesModel", "lowest", "(III)J"⟩, 63) := ⟨⟨by decide +kernel, by decide +kernel⟩, List.mem_of_getElem? (i := 1080) (by decide +kernel), List.mem_of_getElem? (i := 1532) (by decide +kernel), List.mem_of_getElem? (i := 1533) (by decide +kernel)⟩
theorem lw_p60 : lw_okq (⟨"TwoServesModel", "divisor", "(II)I"⟩, 63) := ⟨⟨by decide +kernel, by decide +kernel⟩, List.mem_of_getElem? (i := 1080) (by decide +kernel), List.mem_of_getElem? (i := 1536) (by decide +kernel), List.mem_of_getElem? (i := 1537) (by decide +kernel)⟩
theorem lw_p61 : lw_okq (⟨"TwoServesModel", "isTape", "(I)Z"⟩, 63) := ⟨⟨by decide +kernel, by decide +kernel⟩, List.mem_of_getElem? (i := 1080) (by decide +kernel), List.mem_of_getElem? (i := 1556) (by decide +kernel), List.mem_of_getElem? (i := 1557) (by decide +kernel)⟩
theorem lw_p62 : lw_okq (⟨"TwoServesModel", "tossesAct", "(II)I"⟩, 63) := ⟨⟨by decide +kernel, by decide +kernel⟩, List.mem_of_getElem? (i := 1080) (by decide +kernel), List.mem_of_getElem? (i := 1572) (by decide +kernel), List.mem_of_getElem? (i := 1573) (by decide +kernel)⟩
theorem lw_p63 : lw_okq (⟨"TwoServesModel", "body", "(I)V"⟩, 63) := ⟨⟨by decide +kernel, by decide +kernel⟩, List.mem_of_getElem? (i := 1080) (by decide +kernel), List.mem_of_getElem? (i := 1576) (by decide +kernel), List.mem_of_getElem? (i := 1577) (by decide +kernel)⟩
def lw_privs_4 : List (MethodName × Nat) := [(⟨"TwoServesModel", "secondOf", "(I)I"⟩, 63), (⟨"TwoServesModel", "chanceOf", "(III)I"⟩, 63), (⟨"TwoServesModel", "faultsOf", "(III)I"⟩, 63), (⟨"TwoServesModel", "areDraws", "(II)Z"⟩, 63), (⟨"TwoServesModel", "isOver", "()Z"⟩, 63), (⟨"TwoServesModel", "goPoint", "(III)Z"⟩, 63), (⟨"TwoServesModel", "chanceNow", "(I)I"⟩, 63), (⟨"TwoServesModel", "gameNow", "(I)I"⟩, 63), (⟨"TwoServesModel", "layGames", "(I)V"⟩, 63), (⟨"TwoServesModel", "clean", "(I)I"⟩, 63), (⟨"TwoServesModel", "matchOf", "(III)I"⟩, 63), (⟨"TwoServesModel", "lowest", "(III)J"⟩, 63), (⟨"TwoServesModel", "divisor", "(II)I"⟩, 63), (⟨"TwoServesModel", "isTape", "(I)Z"⟩, 63), (⟨"TwoServesModel", "tossesAct", "(II)I"⟩, 63), (⟨"TwoServesModel", "body", "(I)V"⟩, 63)]
theorem lw_r4 : ∀ q ∈ lw_privs_4, lw_okq q := List.forall_mem_cons.mpr ⟨lw_p48, List.forall_mem_cons.mpr ⟨lw_p49, List.forall_mem_cons.mpr ⟨lw_p50, List.forall_mem_cons.mpr ⟨lw_p51, List.forall_mem_cons.mpr ⟨lw_p52, List.forall_mem_cons.mpr ⟨lw_p53, List.forall_mem_cons.mpr ⟨lw_p54, List.forall_mem_cons.mpr ⟨lw_p55, List.forall_mem_cons.mpr ⟨lw_p56, List.forall_mem_cons.mpr ⟨lw_p57, List.forall_mem_cons.mpr ⟨lw_p58, List.forall_mem_cons.mpr ⟨lw_p59, List.forall_mem_cons.mpr ⟨lw_p60, List.forall_mem_cons.mpr ⟨lw_p61, List.forall_mem_cons.mpr ⟨lw_p62, List.forall_mem_cons.mpr ⟨lw_p63, fun _ h => absurd h List.not_mem_nil⟩⟩⟩⟩⟩⟩⟩⟩⟩⟩⟩⟩⟩⟩⟩⟩
theorem lw_p64 : lw_okq (⟨"TwoServesModel", "serverTosses", "(II)I"⟩, 63) := ⟨⟨by decide +kernel, by decide +kernel⟩, List.mem_of_getElem? (i := 1080) (by decide +kernel), List.mem_of_getElem? (i := 1580) (by decide +kernel), List.mem_of_getElem? (i := 1581) (by decide +kernel)⟩
theorem lw_p65 : lw_okq (⟨"TwoServesModel", "strikesAct", "(II)I"⟩, 63) := ⟨⟨by decide +kernel, by decide +kernel⟩, List.mem_of_getElem? (i := 1080) (by decide +kernel), List.mem_of_getElem? (i := 1584) (by decide +kernel), List.mem_of_getElem? (i := 1585) (by decide +kernel)⟩
theorem lw_p66 : lw_okq (⟨"TwoServesModel", "daringStrikes", "(II)I"⟩, 63) := ⟨⟨by decide +kernel, by decide +kernel⟩, List.mem_of_getElem? (i := 1080) (by decide +kernel), List.mem_of_getElem? (i := 1588) (by decide +kernel), List.mem_of_getElem? (i := 1589) (by decide +kernel)⟩
theorem lw_p67 : lw_okq (⟨"TwoServesModel", "serverStrikes", "(II)I"⟩, 63) := ⟨⟨by decide +kernel, by decide +kernel⟩, List.mem_of_getElem? (i := 1080) (by decide +kernel), List.mem_of_getElem? (i := 1592) (by decide +kernel), List.mem_of_getElem? (i := 1593) (by decide +kernel)⟩
theorem lw_p68 : lw_okq (⟨"TwoServesModel", "tellsAct", "(II)I"⟩, 63) := ⟨⟨by decide +kernel, by decide +kernel⟩, List.mem_of_getElem? (i := 1080) (by decide +kernel), List.mem_of_getElem? (i := 1596) (by decide +kernel), List.mem_of_getElem? (i := 1597) (by decide +kernel)⟩
theorem lw_p69 : lw_okq (⟨"TwoServesModel", "serverTells", "(II)I"⟩, 63) := ⟨⟨by decide +kernel, by decide +kernel⟩, List.mem_of_getElem? (i := 1080) (by decide +kernel), List.mem_of_getElem? (i := 1600) (by decide +kernel), List.mem_of_getElem? (i := 1601) (by decide +kernel)⟩
theorem lw_p70 : lw_okq (⟨"TwoServesModel", "narrow", "(IJ)J"⟩, 63) := ⟨⟨by decide +kernel, by decide +kernel⟩, List.mem_of_getElem? (i := 1080) (by decide +kernel), List.mem_of_getElem? (i := 1624) (by decide +kernel), List.mem_of_getElem? (i := 1625) (by decide +kernel)⟩
def lw_privs_5 : List (MethodName × Nat) := [(⟨"TwoServesModel", "serverTosses", "(II)I"⟩, 63), (⟨"TwoServesModel", "strikesAct", "(II)I"⟩, 63), (⟨"TwoServesModel", "daringStrikes", "(II)I"⟩, 63), (⟨"TwoServesModel", "serverStrikes", "(II)I"⟩, 63), (⟨"TwoServesModel", "tellsAct", "(II)I"⟩, 63), (⟨"TwoServesModel", "serverTells", "(II)I"⟩, 63), (⟨"TwoServesModel", "narrow", "(IJ)J"⟩, 63)]
theorem lw_r5 : ∀ q ∈ lw_privs_5, lw_okq q := List.forall_mem_cons.mpr ⟨lw_p64, List.forall_mem_cons.mpr ⟨lw_p65, List.forall_mem_cons.mpr ⟨lw_p66, List.forall_mem_cons.mpr ⟨lw_p67, List.forall_mem_cons.mpr ⟨lw_p68, List.forall_mem_cons.mpr ⟨lw_p69, List.forall_mem_cons.mpr ⟨lw_p70, fun _ h => absurd h List.not_mem_nil⟩⟩⟩⟩⟩⟩⟩
def lw_privs : List (MethodName × Nat) := lw_privs_1 ++ (lw_privs_2 ++ (lw_privs_3 ++ (lw_privs_4 ++ (lw_privs_5))))
def lw_tbl : List Cond := k2_sels lw_privs ++ tables_1
theorem lw_privs_ok : ∀ q ∈ lw_privs, lw_okq q := by
  show ∀ q ∈ lw_privs_1 ++ (lw_privs_2 ++ (lw_privs_3 ++ (lw_privs_4 ++ (lw_privs_5)))), lw_okq q
  exact List.forall_mem_append.mpr ⟨lw_r1, List.forall_mem_append.mpr ⟨lw_r2, List.forall_mem_append.mpr ⟨lw_r3, List.forall_mem_append.mpr ⟨lw_r4, lw_r5⟩⟩⟩⟩
-- ===== end of PART A; then your names; then what follows =====
end
section
def RX0 : String := "TwoServes$Court"
def TX0 : u_T := fun k => match k with
  | 0 => ("TwoServes$Court", "code", "[I", true)
  | 1 => ("TwoServes$Court", "size", "I", false)
  | 2 => ("TwoServes$Court", "sums", "[I", true)
  | 3 => ("TwoServes$Court", "amounts", "[I", true)
  | 4 => ("TwoServes$Court", "ends", "[I", true)
  | _ => ("TwoServes$Court", "clauses", "I", false)
def tyX0 : Nat → FieldType := fun k => match k with
  | 0 => .array .int
  | 1 => .int
  | 2 => .array .int
  | 3 => .array .int
  | 4 => .array .int
  | _ => .int
theorem nmX0 : ∀ a, a < 6 → ∀ b, b < 6 → a ≠ b → (TX0 a).2.1 ≠ (TX0 b).2.1 := by decide +kernel
theorem tyX0_ok : ∀ k, k < 6 → parseFieldDescriptor (TX0 k).2.2.1 = some (tyX0 k) := by decide +kernel
abbrev cX0_init : ByteArray := prog_2_method_1_code
def yX0_init : MethodName := ⟨RX0, "<init>", "()V"⟩
abbrev cX0_testOf : ByteArray := prog_2_method_2_code
def yX0_testOf : MethodName := ⟨RX0, "testOf", "(III)I"⟩
abbrev cX0_clear : ByteArray := prog_2_method_3_code
def yX0_clear : MethodName := ⟨RX0, "clear", "()V"⟩
abbrev cX0_add : ByteArray := prog_2_method_4_code
def yX0_add : MethodName := ⟨RX0, "add", "(I)V"⟩
abbrev cX0_closeClause : ByteArray := prog_2_method_5_code
def yX0_closeClause : MethodName := ⟨RX0, "closeClause", "(II)V"⟩
abbrev cX0_together : ByteArray := prog_2_method_6_code
def yX0_together : MethodName := ⟨RX0, "together", "(I[I)I"⟩
abbrev cX0_holds : ByteArray := prog_2_method_7_code
def yX0_holds : MethodName := ⟨RX0, "holds", "(II[I)Z"⟩
abbrev cX0_passes : ByteArray := prog_2_method_8_code
def yX0_passes : MethodName := ⟨RX0, "passes", "(I[I)Z"⟩
def RX1 : String := "TwoServes$Daring"
def TX1 : u_T := fun k => match k with
  | 0 => ("TwoServes$Server", "kind", "I", true)
  | 1 => ("TwoServes$Server", "number", "I", true)
  | _ => ("TwoServes$Server", "v", "I", true)
def tyX1 : Nat → FieldType := fun k => match k with
  | 0 => .int
  | 1 => .int
  | _ => .int
theorem nmX1 : ∀ a, a < 3 → ∀ b, b < 3 → a ≠ b → (TX1 a).2.1 ≠ (TX1 b).2.1 := by decide +kernel
theorem tyX1_ok : ∀ k, k < 3 → parseFieldDescriptor (TX1 k).2.2.1 = some (tyX1 k) := by decide +kernel
abbrev cX1_init : ByteArray := prog_3_method_1_code
def yX1_init : MethodName := ⟨RX1, "<init>", "(III)V"⟩
abbrev cX1_second : ByteArray := prog_3_method_2_code
def yX1_second : MethodName := ⟨RX1, "second", "(LTwoServes$Situation;)I"⟩
abbrev cX1_strikes : ByteArray := prog_3_method_3_code
def yX1_strikes : MethodName := ⟨RX1, "strikes", "(ILjava/util/ArrayList;)I"⟩
def RX2 : String := "TwoServes$Read"
def TX2 : u_T := fun k => match k with
  | 0 => ("TwoServes$Server", "kind", "I", true)
  | 1 => ("TwoServes$Server", "number", "I", true)
  | _ => ("TwoServes$Server", "v", "I", true)
def tyX2 : Nat → FieldType := fun k => match k with
  | 0 => .int
  | 1 => .int
  | _ => .int
theorem nmX2 : ∀ a, a < 3 → ∀ b, b < 3 → a ≠ b → (TX2 a).2.1 ≠ (TX2 b).2.1 := by decide +kernel
theorem tyX2_ok : ∀ k, k < 3 → parseFieldDescriptor (TX2 k).2.2.1 = some (tyX2 k) := by decide +kernel
abbrev cX2_init : ByteArray := prog_4_method_1_code
def yX2_init : MethodName := ⟨RX2, "<init>", "(III)V"⟩
abbrev cX2_winsAgainst : ByteArray := prog_4_method_2_code
def yX2_winsAgainst : MethodName := ⟨RX2, "winsAgainst", "(I)I"⟩
abbrev cX2_tosses : ByteArray := prog_4_method_3_code
def yX2_tosses : MethodName := ⟨RX2, "tosses", "(ILjava/util/ArrayList;)I"⟩
abbrev cX2_strikes : ByteArray := prog_4_method_4_code
def yX2_strikes : MethodName := ⟨RX2, "strikes", "(ILjava/util/ArrayList;)I"⟩
def RX3 : String := "TwoServes$Server"
def TX3 : u_T := fun k => match k with
  | 0 => ("TwoServes$Server", "kind", "I", true)
  | 1 => ("TwoServes$Server", "number", "I", true)
  | _ => ("TwoServes$Server", "v", "I", true)
def tyX3 : Nat → FieldType := fun k => match k with
  | 0 => .int
  | 1 => .int
  | _ => .int
theorem nmX3 : ∀ a, a < 3 → ∀ b, b < 3 → a ≠ b → (TX3 a).2.1 ≠ (TX3 b).2.1 := by decide +kernel
theorem tyX3_ok : ∀ k, k < 3 → parseFieldDescriptor (TX3 k).2.2.1 = some (tyX3 k) := by decide +kernel
abbrev cX3_init : ByteArray := prog_5_method_1_code
def yX3_init : MethodName := ⟨RX3, "<init>", "(III)V"⟩
abbrev cX3_first : ByteArray := prog_5_method_2_code
def yX3_first : MethodName := ⟨RX3, "first", "(LTwoServes$Situation;)I"⟩
abbrev cX3_second : ByteArray := prog_5_method_3_code
def yX3_second : MethodName := ⟨RX3, "second", "(LTwoServes$Situation;)I"⟩
abbrev cX3_winsAgainst : ByteArray := prog_5_method_4_code
def yX3_winsAgainst : MethodName := ⟨RX3, "winsAgainst", "(I)I"⟩
abbrev cX3_tosses : ByteArray := prog_5_method_5_code
def yX3_tosses : MethodName := ⟨RX3, "tosses", "(ILjava/util/ArrayList;)I"⟩
abbrev cX3_strikes : ByteArray := prog_5_method_6_code
def yX3_strikes : MethodName := ⟨RX3, "strikes", "(ILjava/util/ArrayList;)I"⟩
abbrev cX3_tells : ByteArray := prog_5_method_7_code
def yX3_tells : MethodName := ⟨RX3, "tells", "(ILjava/util/ArrayList;)I"⟩
def RX4 : String := "TwoServes$Situation"
def TX4 : u_T := fun k => match k with
  | 0 => ("TwoServes$Situation", "servers", "[LTwoServes$Server;", true)
  | 1 => ("TwoServes$Situation", "hard", "[I", true)
  | 2 => ("TwoServes$Situation", "soft", "[I", true)
  | 3 => ("TwoServes$Situation", "served", "[I", true)
  | 4 => ("TwoServes$Situation", "rows", "[I", true)
  | 5 => ("TwoServes$Situation", "count", "I", false)
  | 6 => ("TwoServes$Situation", "won", "I", false)
  | 7 => ("TwoServes$Situation", "lost", "I", false)
  | 8 => ("TwoServes$Situation", "stance", "I", false)
  | 9 => ("TwoServes$Situation", "seen", "[I", true)
  | 10 => ("TwoServes$Situation", "seenCount", "I", false)
  | 11 => ("TwoServes$Situation", "bookServer", "[I", true)
  | 12 => ("TwoServes$Situation", "bookD", "[I", true)
  | 13 => ("TwoServes$Situation", "bookE", "[I", true)
  | 14 => ("TwoServes$Situation", "bookCount", "I", false)
  | 15 => ("TwoServes$Situation", "court", "LTwoServes$Court;", false)
  | _ => ("TwoServes$Situation", "letters", "[I", true)
def tyX4 : Nat → FieldType := fun k => match k with
  | 0 => .array (.object "TwoServes$Server")
  | 1 => .array .int
  | 2 => .array .int
  | 3 => .array .int
  | 4 => .array .int
  | 5 => .int
  | 6 => .int
  | 7 => .int
  | 8 => .int
  | 9 => .array .int
  | 10 => .int
  | 11 => .array .int
  | 12 => .array .int
  | 13 => .array .int
  | 14 => .int
  | 15 => .object "TwoServes$Court"
  | _ => .array .int
theorem nmX4 : ∀ a, a < 17 → ∀ b, b < 17 → a ≠ b → (TX4 a).2.1 ≠ (TX4 b).2.1 := by decide +kernel
theorem tyX4_ok : ∀ k, k < 17 → parseFieldDescriptor (TX4 k).2.2.1 = some (tyX4 k) := by decide +kernel
abbrev cX4_init : ByteArray := prog_6_method_1_code
def yX4_init : MethodName := ⟨RX4, "<init>", "()V"⟩
abbrev cX4_takeFrom : ByteArray := prog_6_method_2_code
def yX4_takeFrom : MethodName := ⟨RX4, "takeFrom", "(LTwoServes$Situation;)V"⟩
abbrev cX4_welcome : ByteArray := prog_6_method_3_code
def yX4_welcome : MethodName := ⟨RX4, "welcome", "(LTwoServes$Server;II)I"⟩
abbrev cX4_books : ByteArray := prog_6_method_4_code
def yX4_books : MethodName := ⟨RX4, "books", "(III)Z"⟩
abbrev cX4_hasSeen : ByteArray := prog_6_method_5_code
def yX4_hasSeen : MethodName := ⟨RX4, "hasSeen", "(I)Z"⟩
abbrev cX4_isOver : ByteArray := prog_6_method_6_code
def yX4_isOver : MethodName := ⟨RX4, "isOver", "()Z"⟩
abbrev cX4_inOf : ByteArray := prog_6_method_7_code
def yX4_inOf : MethodName := ⟨RX4, "inOf", "(LTwoServes$Server;I)I"⟩
abbrev cX4_winsOf : ByteArray := prog_6_method_8_code
def yX4_winsOf : MethodName := ⟨RX4, "winsOf", "(LTwoServes$Server;I)I"⟩
abbrev cX4_percent : ByteArray := prog_6_method_9_code
def yX4_percent : MethodName := ⟨RX4, "percent", "(I)I"⟩
abbrev cX4_lettersOf : ByteArray := prog_6_method_10_code
def yX4_lettersOf : MethodName := ⟨RX4, "lettersOf", "(LTwoServes$Server;I)[I"⟩
abbrev cX4_chanceBy : ByteArray := prog_6_method_11_code
def yX4_chanceBy : MethodName := ⟨RX4, "chanceBy", "(LTwoServes$Server;II)I"⟩
abbrev cX4_chanceOf : ByteArray := prog_6_method_12_code
def yX4_chanceOf : MethodName := ⟨RX4, "chanceOf", "(LTwoServes$Server;)I"⟩
abbrev cX4_faultsBy : ByteArray := prog_6_method_13_code
def yX4_faultsBy : MethodName := ⟨RX4, "faultsBy", "(LTwoServes$Server;II)I"⟩
abbrev cX4_plays : ByteArray := prog_6_method_14_code
def yX4_plays : MethodName := ⟨RX4, "plays", "(LTwoServes$Server;II)Z"⟩
abbrev cX4_wins : ByteArray := prog_6_method_15_code
def yX4_wins : MethodName := ⟨RX4, "wins", "(LTwoServes$Server;II)Z"⟩
def RX5 : String := "TwoServes$Sure"
def TX5 : u_T := fun k => match k with
  | 0 => ("TwoServes$Server", "kind", "I", true)
  | 1 => ("TwoServes$Server", "number", "I", true)
  | _ => ("TwoServes$Server", "v", "I", true)
def tyX5 : Nat → FieldType := fun k => match k with
  | 0 => .int
  | 1 => .int
  | _ => .int
theorem nmX5 : ∀ a, a < 3 → ∀ b, b < 3 → a ≠ b → (TX5 a).2.1 ≠ (TX5 b).2.1 := by decide +kernel
theorem tyX5_ok : ∀ k, k < 3 → parseFieldDescriptor (TX5 k).2.2.1 = some (tyX5 k) := by decide +kernel
abbrev cX5_init : ByteArray := prog_7_method_1_code
def yX5_init : MethodName := ⟨RX5, "<init>", "(III)V"⟩
abbrev cX5_first : ByteArray := prog_7_method_2_code
def yX5_first : MethodName := ⟨RX5, "first", "(LTwoServes$Situation;)I"⟩
abbrev cX5_tells : ByteArray := prog_7_method_3_code
def yX5_tells : MethodName := ⟨RX5, "tells", "(ILjava/util/ArrayList;)I"⟩
def RX6 : String := "TwoServes$Tape"
def TX6 : u_T := fun k => match k with
  | 0 => ("TwoServes$Tape", "items", "[J", true)
  | 1 => ("TwoServes$Tape", "length", "I", false)
  | _ => ("TwoServes$Tape", "sort", "I", false)
def tyX6 : Nat → FieldType := fun k => match k with
  | 0 => .array .long
  | 1 => .int
  | _ => .int
theorem nmX6 : ∀ a, a < 3 → ∀ b, b < 3 → a ≠ b → (TX6 a).2.1 ≠ (TX6 b).2.1 := by decide +kernel
theorem tyX6_ok : ∀ k, k < 3 → parseFieldDescriptor (TX6 k).2.2.1 = some (tyX6 k) := by decide +kernel
abbrev cX6_init : ByteArray := prog_8_method_1_code
def yX6_init : MethodName := ⟨RX6, "<init>", "()V"⟩
abbrev cX6_become : ByteArray := prog_8_method_2_code
def yX6_become : MethodName := ⟨RX6, "become", "(II)V"⟩
abbrev cX6_has : ByteArray := prog_8_method_3_code
def yX6_has : MethodName := ⟨RX6, "has", "(J)Z"⟩
abbrev cX6_at : ByteArray := prog_8_method_4_code
def yX6_at : MethodName := ⟨RX6, "at", "(I)J"⟩
abbrev cX6_puts : ByteArray := prog_8_method_5_code
def yX6_puts : MethodName := ⟨RX6, "puts", "(IJ)Z"⟩
abbrev cX6_cut : ByteArray := prog_8_method_6_code
def yX6_cut : MethodName := ⟨RX6, "cut", "(J)J"⟩
abbrev cX6_spans : ByteArray := prog_8_method_7_code
def yX6_spans : MethodName := ⟨RX6, "spans", "(II)Z"⟩
abbrev cX6_takes : ByteArray := prog_8_method_8_code
def yX6_takes : MethodName := ⟨RX6, "takes", "(ILTwoServes$Tape;II)Z"⟩
def RX7 : String := "TwoServes$Text"
def TX7 : u_T := fun k => match k with
  | 0 => ("TwoServes$Text", "signs", "[C", true)
  | 1 => ("TwoServes$Text", "length", "I", false)
  | _ => ("TwoServes$Text", "place", "I", false)
def tyX7 : Nat → FieldType := fun k => match k with
  | 0 => .array .char
  | 1 => .int
  | _ => .int
theorem nmX7 : ∀ a, a < 3 → ∀ b, b < 3 → a ≠ b → (TX7 a).2.1 ≠ (TX7 b).2.1 := by decide +kernel
theorem tyX7_ok : ∀ k, k < 3 → parseFieldDescriptor (TX7 k).2.2.1 = some (tyX7 k) := by decide +kernel
abbrev cX7_init : ByteArray := prog_9_method_1_code
def yX7_init : MethodName := ⟨RX7, "<init>", "()V"⟩
abbrev cX7_takes : ByteArray := prog_9_method_2_code
def yX7_takes : MethodName := ⟨RX7, "takes", "(I)Z"⟩
abbrev cX7_readInto : ByteArray := prog_9_method_3_code
def yX7_readInto : MethodName := ⟨RX7, "readInto", "(LTwoServes$Court;)I"⟩
abbrev cX7_clause : ByteArray := prog_9_method_4_code
def yX7_clause : MethodName := ⟨RX7, "clause", "(LTwoServes$Court;)Z"⟩
abbrev cX7_anyOf : ByteArray := prog_9_method_5_code
def yX7_anyOf : MethodName := ⟨RX7, "anyOf", "(LTwoServes$Court;I)Z"⟩
abbrev cX7_allOf : ByteArray := prog_9_method_6_code
def yX7_allOf : MethodName := ⟨RX7, "allOf", "(LTwoServes$Court;I)Z"⟩
abbrev cX7_factor : ByteArray := prog_9_method_7_code
def yX7_factor : MethodName := ⟨RX7, "factor", "(LTwoServes$Court;I)Z"⟩
abbrev cX7_test : ByteArray := prog_9_method_8_code
def yX7_test : MethodName := ⟨RX7, "test", "(LTwoServes$Court;)Z"⟩
abbrev cX7_number : ByteArray := prog_9_method_9_code
def yX7_number : MethodName := ⟨RX7, "number", "()I"⟩
abbrev cX7_took : ByteArray := prog_9_method_10_code
def yX7_took : MethodName := ⟨RX7, "took", "(C)Z"⟩
abbrev cX7_sign : ByteArray := prog_9_method_11_code
def yX7_sign : MethodName := ⟨RX7, "sign", "()C"⟩
def RX8 : String := "TwoServes$Timid"
def TX8 : u_T := fun k => match k with
  | 0 => ("TwoServes$Server", "kind", "I", true)
  | 1 => ("TwoServes$Server", "number", "I", true)
  | _ => ("TwoServes$Server", "v", "I", true)
def tyX8 : Nat → FieldType := fun k => match k with
  | 0 => .int
  | 1 => .int
  | _ => .int
theorem nmX8 : ∀ a, a < 3 → ∀ b, b < 3 → a ≠ b → (TX8 a).2.1 ≠ (TX8 b).2.1 := by decide +kernel
theorem tyX8_ok : ∀ k, k < 3 → parseFieldDescriptor (TX8 k).2.2.1 = some (tyX8 k) := by decide +kernel
abbrev cX8_init : ByteArray := prog_10_method_1_code
def yX8_init : MethodName := ⟨RX8, "<init>", "(III)V"⟩
abbrev cX8_first : ByteArray := prog_10_method_2_code
def yX8_first : MethodName := ⟨RX8, "first", "(LTwoServes$Situation;)I"⟩
abbrev cX8_tosses : ByteArray := prog_10_method_3_code
def yX8_tosses : MethodName := ⟨RX8, "tosses", "(ILjava/util/ArrayList;)I"⟩
def RX9 : String := "TwoServes$Tiring"
def TX9 : u_T := fun k => match k with
  | 0 => ("TwoServes$Server", "kind", "I", true)
  | 1 => ("TwoServes$Server", "number", "I", true)
  | _ => ("TwoServes$Server", "v", "I", true)
def tyX9 : Nat → FieldType := fun k => match k with
  | 0 => .int
  | 1 => .int
  | _ => .int
theorem nmX9 : ∀ a, a < 3 → ∀ b, b < 3 → a ≠ b → (TX9 a).2.1 ≠ (TX9 b).2.1 := by decide +kernel
theorem tyX9_ok : ∀ k, k < 3 → parseFieldDescriptor (TX9 k).2.2.1 = some (tyX9 k) := by decide +kernel
abbrev cX9_init : ByteArray := prog_11_method_1_code
def yX9_init : MethodName := ⟨RX9, "<init>", "(III)V"⟩
abbrev cX9_first : ByteArray := prog_11_method_2_code
def yX9_first : MethodName := ⟨RX9, "first", "(LTwoServes$Situation;)I"⟩
abbrev cX9_tells : ByteArray := prog_11_method_3_code
def yX9_tells : MethodName := ⟨RX9, "tells", "(ILjava/util/ArrayList;)I"⟩
def RX10 : String := "TwoServes$Told"
def TX10 : u_T := fun k => match k with
  | 0 => ("TwoServes$Server", "kind", "I", true)
  | 1 => ("TwoServes$Server", "number", "I", true)
  | _ => ("TwoServes$Server", "v", "I", true)
def tyX10 : Nat → FieldType := fun k => match k with
  | 0 => .int
  | 1 => .int
  | _ => .int
theorem nmX10 : ∀ a, a < 3 → ∀ b, b < 3 → a ≠ b → (TX10 a).2.1 ≠ (TX10 b).2.1 := by decide +kernel
theorem tyX10_ok : ∀ k, k < 3 → parseFieldDescriptor (TX10 k).2.2.1 = some (tyX10 k) := by decide +kernel
abbrev cX10_init : ByteArray := prog_12_method_1_code
def yX10_init : MethodName := ⟨RX10, "<init>", "(III)V"⟩
abbrev cX10_first : ByteArray := prog_12_method_2_code
def yX10_first : MethodName := ⟨RX10, "first", "(LTwoServes$Situation;)I"⟩
abbrev cX10_strikes : ByteArray := prog_12_method_3_code
def yX10_strikes : MethodName := ⟨RX10, "strikes", "(ILjava/util/ArrayList;)I"⟩
abbrev cX10_tosses : ByteArray := prog_12_method_4_code
def yX10_tosses : MethodName := ⟨RX10, "tosses", "(ILjava/util/ArrayList;)I"⟩
def RX11 : String := "TwoServes"
def TX11 : u_T := fun k => match k with
  | 0 => ("TwoServes", "now", "LTwoServes$Situation;", true)
  | 1 => ("TwoServes", "kept", "LTwoServes$Situation;", true)
  | 2 => ("TwoServes", "supposed", "LTwoServes$Situation;", true)
  | 3 => ("TwoServes", "imageTaken", "Z", false)
  | 4 => ("TwoServes", "text", "LTwoServes$Text;", true)
  | 5 => ("TwoServes", "courts", "[LTwoServes$Court;", true)
  | 6 => ("TwoServes", "courtCount", "I", false)
  | 7 => ("TwoServes", "tapes", "[LTwoServes$Tape;", true)
  | 8 => ("TwoServes", "bodies", "Ljava/util/ArrayList;", true)
  | 9 => ("TwoServes", "ins", "[I", true)
  | 10 => ("TwoServes", "wins", "[I", true)
  | 11 => ("TwoServes", "games", "[[I", true)
  | _ => ("TwoServes", "matches", "[[I", true)
def tyX11 : Nat → FieldType := fun k => match k with
  | 0 => .object "TwoServes$Situation"
  | 1 => .object "TwoServes$Situation"
  | 2 => .object "TwoServes$Situation"
  | 3 => .boolean
  | 4 => .object "TwoServes$Text"
  | 5 => .array (.object "TwoServes$Court")
  | 6 => .int
  | 7 => .array (.object "TwoServes$Tape")
  | 8 => .object "java/util/ArrayList"
  | 9 => .array .int
  | 10 => .array .int
  | 11 => .array (.array .int)
  | _ => .array (.array .int)
theorem nmX11 : ∀ a, a < 13 → ∀ b, b < 13 → a ≠ b → (TX11 a).2.1 ≠ (TX11 b).2.1 := by decide +kernel
theorem tyX11_ok : ∀ k, k < 13 → parseFieldDescriptor (TX11 k).2.2.1 = some (tyX11 k) := by decide +kernel
abbrev cX11_init : ByteArray := prog_1_method_1_code
def yX11_init : MethodName := ⟨RX11, "<init>", "()V"⟩
abbrev cX11_server : ByteArray := prog_1_method_2_code
def yX11_server : MethodName := ⟨RX11, "server", "(IIII)I"⟩
abbrev cX11_of : ByteArray := prog_1_method_3_code
def yX11_of : MethodName := ⟨RX11, "of", "(II)I"⟩
abbrev cX11_set : ByteArray := prog_1_method_4_code
def yX11_set : MethodName := ⟨RX11, "set", "(III)I"⟩
abbrev cX11_row : ByteArray := prog_1_method_5_code
def yX11_row : MethodName := ⟨RX11, "row", "(III)I"⟩
abbrev cX11_feed : ByteArray := prog_1_method_6_code
def yX11_feed : MethodName := ⟨RX11, "feed", "(I)I"⟩
abbrev cX11_court : ByteArray := prog_1_method_7_code
def yX11_court : MethodName := ⟨RX11, "court", "()I"⟩
abbrev cX11_told : ByteArray := prog_1_method_8_code
def yX11_told : MethodName := ⟨RX11, "told", "(I)I"⟩
abbrev cX11_stance : ByteArray := prog_1_method_9_code
def yX11_stance : MethodName := ⟨RX11, "stance", "(I)I"⟩
abbrev cX11_score : ByteArray := prog_1_method_10_code
def yX11_score : MethodName := ⟨RX11, "score", "(II)I"⟩
abbrev cX11_chance : ByteArray := prog_1_method_11_code
def yX11_chance : MethodName := ⟨RX11, "chance", "(III)I"⟩
abbrev cX11_faults : ByteArray := prog_1_method_12_code
def yX11_faults : MethodName := ⟨RX11, "faults", "(III)I"⟩
abbrev cX11_play : ByteArray := prog_1_method_13_code
def yX11_play : MethodName := ⟨RX11, "play", "(III)I"⟩
abbrev cX11_best : ByteArray := prog_1_method_14_code
def yX11_best : MethodName := ⟨RX11, "best", "(II)I"⟩
abbrev cX11_risk : ByteArray := prog_1_method_15_code
def yX11_risk : MethodName := ⟨RX11, "risk", "(I)I"⟩
abbrev cX11_dare : ByteArray := prog_1_method_16_code
def yX11_dare : MethodName := ⟨RX11, "dare", "(I)I"⟩
abbrev cX11_more : ByteArray := prog_1_method_17_code
def yX11_more : MethodName := ⟨RX11, "more", "(II)I"⟩
abbrev cX11_safe : ByteArray := prog_1_method_18_code
def yX11_safe : MethodName := ⟨RX11, "safe", "(II)I"⟩
abbrev cX11_stand : ByteArray := prog_1_method_19_code
def yX11_stand : MethodName := ⟨RX11, "stand", "(II)I"⟩
abbrev cX11_game : ByteArray := prog_1_method_20_code
def yX11_game : MethodName := ⟨RX11, "game", "(II)I"⟩
abbrev cX11_swing : ByteArray := prog_1_method_21_code
def yX11_swing : MethodName := ⟨RX11, "swing", "(I)I"⟩
abbrev cX11_match : ByteArray := prog_1_method_22_code
def yX11_match : MethodName := ⟨RX11, "match", "(III)I"⟩
abbrev cX11_ahead : ByteArray := prog_1_method_23_code
def yX11_ahead : MethodName := ⟨RX11, "ahead", "(III)I"⟩
abbrev cX11_see : ByteArray := prog_1_method_24_code
def yX11_see : MethodName := ⟨RX11, "see", "(II)I"⟩
abbrev cX11_who : ByteArray := prog_1_method_25_code
def yX11_who : MethodName := ⟨RX11, "who", "()I"⟩
abbrev cX11_odds : ByteArray := prog_1_method_26_code
def yX11_odds : MethodName := ⟨RX11, "odds", "(II)J"⟩
abbrev cX11_mean : ByteArray := prog_1_method_27_code
def yX11_mean : MethodName := ⟨RX11, "mean", "(I)J"⟩
abbrev cX11_book : ByteArray := prog_1_method_28_code
def yX11_book : MethodName := ⟨RX11, "book", "(III)I"⟩
abbrev cX11_looked : ByteArray := prog_1_method_29_code
def yX11_looked : MethodName := ⟨RX11, "looked", "()I"⟩
abbrev cX11_judge : ByteArray := prog_1_method_30_code
def yX11_judge : MethodName := ⟨RX11, "judge", "(II)I"⟩
abbrev cX11_image : ByteArray := prog_1_method_31_code
def yX11_image : MethodName := ⟨RX11, "image", "()I"⟩
abbrev cX11_undo : ByteArray := prog_1_method_32_code
def yX11_undo : MethodName := ⟨RX11, "undo", "()I"⟩
abbrev cX11_act : ByteArray := prog_1_method_33_code
def yX11_act : MethodName := ⟨RX11, "act", "(III)I"⟩
abbrev cX11_trace : ByteArray := prog_1_method_34_code
def yX11_trace : MethodName := ⟨RX11, "trace", "(I)I"⟩
abbrev cX11_taken : ByteArray := prog_1_method_35_code
def yX11_taken : MethodName := ⟨RX11, "taken", "(II)I"⟩
abbrev cX11_count : ByteArray := prog_1_method_36_code
def yX11_count : MethodName := ⟨RX11, "count", "(I)I"⟩
abbrev cX11_tape : ByteArray := prog_1_method_37_code
def yX11_tape : MethodName := ⟨RX11, "tape", "(III)I"⟩
abbrev cX11_item : ByteArray := prog_1_method_38_code
def yX11_item : MethodName := ⟨RX11, "item", "(IIJ)I"⟩
abbrev cX11_read : ByteArray := prog_1_method_39_code
def yX11_read : MethodName := ⟨RX11, "read", "(II)J"⟩
abbrev cX11_shift : ByteArray := prog_1_method_40_code
def yX11_shift : MethodName := ⟨RX11, "shift", "(IIIII)I"⟩
abbrev cX11_within : ByteArray := prog_1_method_41_code
def yX11_within : MethodName := ⟨RX11, "within", "(II)Z"⟩
abbrev cX11_pair : ByteArray := prog_1_method_42_code
def yX11_pair : MethodName := ⟨RX11, "pair", "(II)I"⟩
abbrev cX11_replaced : ByteArray := prog_1_method_43_code
def yX11_replaced : MethodName := ⟨RX11, "replaced", "([III)I"⟩
abbrev cX11_serverAt : ByteArray := prog_1_method_44_code
def yX11_serverAt : MethodName := ⟨RX11, "serverAt", "(I)LTwoServes$Server;"⟩
abbrev cX11_tapeAt : ByteArray := prog_1_method_45_code
def yX11_tapeAt : MethodName := ⟨RX11, "tapeAt", "(I)LTwoServes$Tape;"⟩
abbrev cX11_born : ByteArray := prog_1_method_46_code
def yX11_born : MethodName := ⟨RX11, "born", "(III)LTwoServes$Server;"⟩
abbrev cX11_isOneOf : ByteArray := prog_1_method_47_code
def yX11_isOneOf : MethodName := ⟨RX11, "isOneOf", "(LTwoServes$Server;I)Z"⟩
abbrev cX11_bestOf : ByteArray := prog_1_method_48_code
def yX11_bestOf : MethodName := ⟨RX11, "bestOf", "(LTwoServes$Server;I)I"⟩
abbrev cX11_twoServes : ByteArray := prog_1_method_49_code
def yX11_twoServes : MethodName := ⟨RX11, "twoServes", "(IIII)I"⟩
abbrev cX11_chanceAgainst : ByteArray := prog_1_method_50_code
def yX11_chanceAgainst : MethodName := ⟨RX11, "chanceAgainst", "(LTwoServes$Server;I)I"⟩
abbrev cX11_gameOf : ByteArray := prog_1_method_51_code
def yX11_gameOf : MethodName := ⟨RX11, "gameOf", "(LTwoServes$Server;II)I"⟩
abbrev cX11_matchOf : ByteArray := prog_1_method_52_code
def yX11_matchOf : MethodName := ⟨RX11, "matchOf", "(III)I"⟩
abbrev cX11_mixed : ByteArray := prog_1_method_53_code
def yX11_mixed : MethodName := ⟨RX11, "mixed", "(JII)I"⟩
abbrev cX11_lowest : ByteArray := prog_1_method_54_code
def yX11_lowest : MethodName := ⟨RX11, "lowest", "(JJI)J"⟩
def RX12 : String := "TwoServesModel"
def TX12 : u_T := fun k => match k with
  | 0 => ("TwoServesModel", "servers", "I", false)
  | 1 => ("TwoServesModel", "won", "I", false)
  | 2 => ("TwoServesModel", "lost", "I", false)
  | 3 => ("TwoServesModel", "stance", "I", false)
  | 4 => ("TwoServesModel", "kind", "[I", true)
  | 5 => ("TwoServesModel", "v", "[I", true)
  | 6 => ("TwoServesModel", "hard", "[I", true)
  | 7 => ("TwoServesModel", "soft", "[I", true)
  | 8 => ("TwoServesModel", "served", "[I", true)
  | 9 => ("TwoServesModel", "rows", "[I", true)
  | 10 => ("TwoServesModel", "courts", "I", false)
  | 11 => ("TwoServesModel", "the", "I", false)
  | 12 => ("TwoServesModel", "fed", "I", false)
  | 13 => ("TwoServesModel", "at", "I", false)
  | 14 => ("TwoServesModel", "digits", "I", false)
  | 15 => ("TwoServesModel", "text", "[I", true)
  | 16 => ("TwoServesModel", "clauses", "[I", true)
  | 17 => ("TwoServesModel", "word", "[I", true)
  | 18 => ("TwoServesModel", "number", "[I", true)
  | 19 => ("TwoServesModel", "from", "[I", true)
  | 20 => ("TwoServesModel", "to", "[I", true)
  | 21 => ("TwoServesModel", "sign", "[I", true)
  | 22 => ("TwoServesModel", "waits", "[I", true)
  | 23 => ("TwoServesModel", "signs", "I", false)
  | 24 => ("TwoServesModel", "waiting", "I", false)
  | 25 => ("TwoServesModel", "open", "I", false)
  | 26 => ("TwoServesModel", "letters", "[I", true)
  | 27 => ("TwoServesModel", "pile", "[Z", true)
  | 28 => ("TwoServesModel", "games", "[I", true)
  | 29 => ("TwoServesModel", "matches", "[I", true)
  | 30 => ("TwoServesModel", "seen", "I", false)
  | 31 => ("TwoServesModel", "seenOne", "[I", true)
  | 32 => ("TwoServesModel", "seenTwo", "[I", true)
  | 33 => ("TwoServesModel", "books", "I", false)
  | 34 => ("TwoServesModel", "bookWho", "[I", true)
  | 35 => ("TwoServesModel", "bookOne", "[I", true)
  | 36 => ("TwoServesModel", "bookTwo", "[I", true)
  | 37 => ("TwoServesModel", "keptServed", "[I", true)
  | 38 => ("TwoServesModel", "hasImage", "Z", false)
  | 39 => ("TwoServesModel", "imageThe", "I", false)
  | 40 => ("TwoServesModel", "imageServers", "I", false)
  | 41 => ("TwoServesModel", "imageWon", "I", false)
  | 42 => ("TwoServesModel", "imageLost", "I", false)
  | 43 => ("TwoServesModel", "imageStance", "I", false)
  | 44 => ("TwoServesModel", "imageSeen", "I", false)
  | 45 => ("TwoServesModel", "imageBooks", "I", false)
  | 46 => ("TwoServesModel", "imageKind", "[I", true)
  | 47 => ("TwoServesModel", "imageV", "[I", true)
  | 48 => ("TwoServesModel", "imageHard", "[I", true)
  | 49 => ("TwoServesModel", "imageSoft", "[I", true)
  | 50 => ("TwoServesModel", "imageServed", "[I", true)
  | 51 => ("TwoServesModel", "imageRows", "[I", true)
  | 52 => ("TwoServesModel", "imageOne", "[I", true)
  | 53 => ("TwoServesModel", "imageTwo", "[I", true)
  | 54 => ("TwoServesModel", "imageWho", "[I", true)
  | 55 => ("TwoServesModel", "imageD", "[I", true)
  | 56 => ("TwoServesModel", "imageE", "[I", true)
  | 57 => ("TwoServesModel", "ran", "I", false)
  | 58 => ("TwoServesModel", "bodies", "[I", true)
  | 59 => ("TwoServesModel", "sort", "[I", true)
  | 60 => ("TwoServesModel", "length", "[I", true)
  | 61 => ("TwoServesModel", "item", "[J", true)
  | _ => ("TwoServesModel", "aside", "[J", true)
def tyX12 : Nat → FieldType := fun k => match k with
  | 0 => .int
  | 1 => .int
  | 2 => .int
  | 3 => .int
  | 4 => .array .int
  | 5 => .array .int
  | 6 => .array .int
  | 7 => .array .int
  | 8 => .array .int
  | 9 => .array .int
  | 10 => .int
  | 11 => .int
  | 12 => .int
  | 13 => .int
  | 14 => .int
  | 15 => .array .int
  | 16 => .array .int
  | 17 => .array .int
  | 18 => .array .int
  | 19 => .array .int
  | 20 => .array .int
  | 21 => .array .int
  | 22 => .array .int
  | 23 => .int
  | 24 => .int
  | 25 => .int
  | 26 => .array .int
  | 27 => .array .boolean
  | 28 => .array .int
  | 29 => .array .int
  | 30 => .int
  | 31 => .array .int
  | 32 => .array .int
  | 33 => .int
  | 34 => .array .int
  | 35 => .array .int
  | 36 => .array .int
  | 37 => .array .int
  | 38 => .boolean
  | 39 => .int
  | 40 => .int
  | 41 => .int
  | 42 => .int
  | 43 => .int
  | 44 => .int
  | 45 => .int
  | 46 => .array .int
  | 47 => .array .int
  | 48 => .array .int
  | 49 => .array .int
  | 50 => .array .int
  | 51 => .array .int
  | 52 => .array .int
  | 53 => .array .int
  | 54 => .array .int
  | 55 => .array .int
  | 56 => .array .int
  | 57 => .int
  | 58 => .array .int
  | 59 => .array .int
  | 60 => .array .int
  | 61 => .array .long
  | _ => .array .long
theorem nmX12 : ∀ a, a < 63 → ∀ b, b < 63 → a ≠ b → (TX12 a).2.1 ≠ (TX12 b).2.1 := by decide +kernel
theorem tyX12_ok : ∀ k, k < 63 → parseFieldDescriptor (TX12 k).2.2.1 = some (tyX12 k) := by decide +kernel
abbrev cX12_init : ByteArray := prog_14_method_1_code
def yX12_init : MethodName := ⟨RX12, "<init>", "()V"⟩
abbrev cX12_in : ByteArray := prog_14_method_2_code
def yX12_in : MethodName := ⟨RX12, "in", "(III)Z"⟩
abbrev cX12_isServer : ByteArray := prog_14_method_3_code
def yX12_isServer : MethodName := ⟨RX12, "isServer", "(I)Z"⟩
abbrev cX12_isForce : ByteArray := prog_14_method_4_code
def yX12_isForce : MethodName := ⟨RX12, "isForce", "(I)Z"⟩
abbrev cX12_server : ByteArray := prog_14_method_5_code
def yX12_server : MethodName := ⟨RX12, "server", "(IIII)I"⟩
abbrev cX12_set : ByteArray := prog_14_method_6_code
def yX12_set : MethodName := ⟨RX12, "set", "(III)I"⟩
abbrev cX12_row : ByteArray := prog_14_method_7_code
def yX12_row : MethodName := ⟨RX12, "row", "(III)I"⟩
abbrev cX12_feed : ByteArray := prog_14_method_8_code
def yX12_feed : MethodName := ⟨RX12, "feed", "(I)I"⟩
abbrev cX12_next : ByteArray := prog_14_method_9_code
def yX12_next : MethodName := ⟨RX12, "next", "()I"⟩
abbrev cX12_takes : ByteArray := prog_14_method_10_code
def yX12_takes : MethodName := ⟨RX12, "takes", "(I)Z"⟩
abbrev cX12_takesWord : ByteArray := prog_14_method_11_code
def yX12_takesWord : MethodName := ⟨RX12, "takesWord", "(II)Z"⟩
abbrev cX12_isDigit : ByteArray := prog_14_method_12_code
def yX12_isDigit : MethodName := ⟨RX12, "isDigit", "()Z"⟩
abbrev cX12_takesNumber : ByteArray := prog_14_method_13_code
def yX12_takesNumber : MethodName := ⟨RX12, "takesNumber", "()Z"⟩
abbrev cX12_emits : ByteArray := prog_14_method_14_code
def yX12_emits : MethodName := ⟨RX12, "emits", "(I)V"⟩
abbrev cX12_whole : ByteArray := prog_14_method_15_code
def yX12_whole : MethodName := ⟨RX12, "whole", "()V"⟩
abbrev cX12_settle : ByteArray := prog_14_method_16_code
def yX12_settle : MethodName := ⟨RX12, "settle", "(I)V"⟩
abbrev cX12_place : ByteArray := prog_14_method_17_code
def yX12_place : MethodName := ⟨RX12, "place", "(I)I"⟩
abbrev cX12_takesTest : ByteArray := prog_14_method_18_code
def yX12_takesTest : MethodName := ⟨RX12, "takesTest", "()Z"⟩
abbrev cX12_takesE : ByteArray := prog_14_method_19_code
def yX12_takesE : MethodName := ⟨RX12, "takesE", "(I)Z"⟩
abbrev cX12_takesHead : ByteArray := prog_14_method_20_code
def yX12_takesHead : MethodName := ⟨RX12, "takesHead", "(I)Z"⟩
abbrev cX12_takesClause : ByteArray := prog_14_method_21_code
def yX12_takesClause : MethodName := ⟨RX12, "takesClause", "(I)Z"⟩
abbrev cX12_goesText : ByteArray := prog_14_method_22_code
def yX12_goesText : MethodName := ⟨RX12, "goesText", "(I)Z"⟩
abbrev cX12_court : ByteArray := prog_14_method_23_code
def yX12_court : MethodName := ⟨RX12, "court", "()I"⟩
abbrev cX12_begin : ByteArray := prog_14_method_24_code
def yX12_begin : MethodName := ⟨RX12, "begin", "()I"⟩
abbrev cX12_behind : ByteArray := prog_14_method_25_code
def yX12_behind : MethodName := ⟨RX12, "behind", "()I"⟩
abbrev cX12_factOf : ByteArray := prog_14_method_26_code
def yX12_factOf : MethodName := ⟨RX12, "factOf", "(III)I"⟩
abbrev cX12_holds : ByteArray := prog_14_method_27_code
def yX12_holds : MethodName := ⟨RX12, "holds", "(III)Z"⟩
abbrev cX12_sumOf : ByteArray := prog_14_method_28_code
def yX12_sumOf : MethodName := ⟨RX12, "sumOf", "(III)I"⟩
abbrev cX12_percent : ByteArray := prog_14_method_29_code
def yX12_percent : MethodName := ⟨RX12, "percent", "(I)I"⟩
abbrev cX12_inOf : ByteArray := prog_14_method_30_code
def yX12_inOf : MethodName := ⟨RX12, "inOf", "(II)I"⟩
abbrev cX12_winsOf : ByteArray := prog_14_method_31_code
def yX12_winsOf : MethodName := ⟨RX12, "winsOf", "(II)I"⟩
abbrev cX12_firstOf : ByteArray := prog_14_method_32_code
def yX12_firstOf : MethodName := ⟨RX12, "firstOf", "(I)I"⟩
abbrev cX12_secondOf : ByteArray := prog_14_method_33_code
def yX12_secondOf : MethodName := ⟨RX12, "secondOf", "(I)I"⟩
abbrev cX12_of : ByteArray := prog_14_method_34_code
def yX12_of : MethodName := ⟨RX12, "of", "(II)I"⟩
abbrev cX12_told : ByteArray := prog_14_method_35_code
def yX12_told : MethodName := ⟨RX12, "told", "(I)I"⟩
abbrev cX12_stance : ByteArray := prog_14_method_36_code
def yX12_stance : MethodName := ⟨RX12, "stance", "(I)I"⟩
abbrev cX12_score : ByteArray := prog_14_method_37_code
def yX12_score : MethodName := ⟨RX12, "score", "(II)I"⟩
abbrev cX12_chanceOf : ByteArray := prog_14_method_38_code
def yX12_chanceOf : MethodName := ⟨RX12, "chanceOf", "(III)I"⟩
abbrev cX12_faultsOf : ByteArray := prog_14_method_39_code
def yX12_faultsOf : MethodName := ⟨RX12, "faultsOf", "(III)I"⟩
abbrev cX12_chance : ByteArray := prog_14_method_40_code
def yX12_chance : MethodName := ⟨RX12, "chance", "(III)I"⟩
abbrev cX12_faults : ByteArray := prog_14_method_41_code
def yX12_faults : MethodName := ⟨RX12, "faults", "(III)I"⟩
abbrev cX12_chanceNow : ByteArray := prog_14_method_42_code
def yX12_chanceNow : MethodName := ⟨RX12, "chanceNow", "(I)I"⟩
abbrev cX12_isOver : ByteArray := prog_14_method_43_code
def yX12_isOver : MethodName := ⟨RX12, "isOver", "()Z"⟩
abbrev cX12_areDraws : ByteArray := prog_14_method_44_code
def yX12_areDraws : MethodName := ⟨RX12, "areDraws", "(II)Z"⟩
abbrev cX12_goPoint : ByteArray := prog_14_method_45_code
def yX12_goPoint : MethodName := ⟨RX12, "goPoint", "(III)Z"⟩
abbrev cX12_play : ByteArray := prog_14_method_46_code
def yX12_play : MethodName := ⟨RX12, "play", "(III)I"⟩
abbrev cX12_best : ByteArray := prog_14_method_47_code
def yX12_best : MethodName := ⟨RX12, "best", "(II)I"⟩
abbrev cX12_risk : ByteArray := prog_14_method_48_code
def yX12_risk : MethodName := ⟨RX12, "risk", "(I)I"⟩
abbrev cX12_dare : ByteArray := prog_14_method_49_code
def yX12_dare : MethodName := ⟨RX12, "dare", "(I)I"⟩
abbrev cX12_more : ByteArray := prog_14_method_50_code
def yX12_more : MethodName := ⟨RX12, "more", "(II)I"⟩
abbrev cX12_safe : ByteArray := prog_14_method_51_code
def yX12_safe : MethodName := ⟨RX12, "safe", "(II)I"⟩
abbrev cX12_stand : ByteArray := prog_14_method_52_code
def yX12_stand : MethodName := ⟨RX12, "stand", "(II)I"⟩
abbrev cX12_layGames : ByteArray := prog_14_method_53_code
def yX12_layGames : MethodName := ⟨RX12, "layGames", "(I)V"⟩
abbrev cX12_gameNow : ByteArray := prog_14_method_54_code
def yX12_gameNow : MethodName := ⟨RX12, "gameNow", "(I)I"⟩
abbrev cX12_clean : ByteArray := prog_14_method_55_code
def yX12_clean : MethodName := ⟨RX12, "clean", "(I)I"⟩
abbrev cX12_game : ByteArray := prog_14_method_56_code
def yX12_game : MethodName := ⟨RX12, "game", "(II)I"⟩
abbrev cX12_swing : ByteArray := prog_14_method_57_code
def yX12_swing : MethodName := ⟨RX12, "swing", "(I)I"⟩
abbrev cX12_matchOf : ByteArray := prog_14_method_58_code
def yX12_matchOf : MethodName := ⟨RX12, "matchOf", "(III)I"⟩
abbrev cX12_match : ByteArray := prog_14_method_59_code
def yX12_match : MethodName := ⟨RX12, "match", "(III)I"⟩
abbrev cX12_ahead : ByteArray := prog_14_method_60_code
def yX12_ahead : MethodName := ⟨RX12, "ahead", "(III)I"⟩
abbrev cX12_see : ByteArray := prog_14_method_61_code
def yX12_see : MethodName := ⟨RX12, "see", "(II)I"⟩
abbrev cX12_who : ByteArray := prog_14_method_62_code
def yX12_who : MethodName := ⟨RX12, "who", "()I"⟩
abbrev cX12_divisor : ByteArray := prog_14_method_63_code
def yX12_divisor : MethodName := ⟨RX12, "divisor", "(II)I"⟩
abbrev cX12_lowest : ByteArray := prog_14_method_64_code
def yX12_lowest : MethodName := ⟨RX12, "lowest", "(III)J"⟩
abbrev cX12_odds : ByteArray := prog_14_method_65_code
def yX12_odds : MethodName := ⟨RX12, "odds", "(II)J"⟩
abbrev cX12_mean : ByteArray := prog_14_method_66_code
def yX12_mean : MethodName := ⟨RX12, "mean", "(I)J"⟩
abbrev cX12_book : ByteArray := prog_14_method_67_code
def yX12_book : MethodName := ⟨RX12, "book", "(III)I"⟩
abbrev cX12_looked : ByteArray := prog_14_method_68_code
def yX12_looked : MethodName := ⟨RX12, "looked", "()I"⟩
abbrev cX12_judge : ByteArray := prog_14_method_69_code
def yX12_judge : MethodName := ⟨RX12, "judge", "(II)I"⟩
abbrev cX12_image : ByteArray := prog_14_method_70_code
def yX12_image : MethodName := ⟨RX12, "image", "()I"⟩
abbrev cX12_undo : ByteArray := prog_14_method_71_code
def yX12_undo : MethodName := ⟨RX12, "undo", "()I"⟩
abbrev cX12_body : ByteArray := prog_14_method_72_code
def yX12_body : MethodName := ⟨RX12, "body", "(I)V"⟩
abbrev cX12_serverTosses : ByteArray := prog_14_method_73_code
def yX12_serverTosses : MethodName := ⟨RX12, "serverTosses", "(II)I"⟩
abbrev cX12_tossesAct : ByteArray := prog_14_method_74_code
def yX12_tossesAct : MethodName := ⟨RX12, "tossesAct", "(II)I"⟩
abbrev cX12_serverStrikes : ByteArray := prog_14_method_75_code
def yX12_serverStrikes : MethodName := ⟨RX12, "serverStrikes", "(II)I"⟩
abbrev cX12_daringStrikes : ByteArray := prog_14_method_76_code
def yX12_daringStrikes : MethodName := ⟨RX12, "daringStrikes", "(II)I"⟩
abbrev cX12_strikesAct : ByteArray := prog_14_method_77_code
def yX12_strikesAct : MethodName := ⟨RX12, "strikesAct", "(II)I"⟩
abbrev cX12_serverTells : ByteArray := prog_14_method_78_code
def yX12_serverTells : MethodName := ⟨RX12, "serverTells", "(II)I"⟩
abbrev cX12_tellsAct : ByteArray := prog_14_method_79_code
def yX12_tellsAct : MethodName := ⟨RX12, "tellsAct", "(II)I"⟩
abbrev cX12_act : ByteArray := prog_14_method_80_code
def yX12_act : MethodName := ⟨RX12, "act", "(III)I"⟩
abbrev cX12_trace : ByteArray := prog_14_method_81_code
def yX12_trace : MethodName := ⟨RX12, "trace", "(I)I"⟩
abbrev cX12_taken : ByteArray := prog_14_method_82_code
def yX12_taken : MethodName := ⟨RX12, "taken", "(II)I"⟩
abbrev cX12_count : ByteArray := prog_14_method_83_code
def yX12_count : MethodName := ⟨RX12, "count", "(I)I"⟩
abbrev cX12_isTape : ByteArray := prog_14_method_84_code
def yX12_isTape : MethodName := ⟨RX12, "isTape", "(I)Z"⟩
abbrev cX12_tape : ByteArray := prog_14_method_85_code
def yX12_tape : MethodName := ⟨RX12, "tape", "(III)I"⟩
abbrev cX12_narrow : ByteArray := prog_14_method_86_code
def yX12_narrow : MethodName := ⟨RX12, "narrow", "(IJ)J"⟩
abbrev cX12_item : ByteArray := prog_14_method_87_code
def yX12_item : MethodName := ⟨RX12, "item", "(IIJ)I"⟩
abbrev cX12_read : ByteArray := prog_14_method_88_code
def yX12_read : MethodName := ⟨RX12, "read", "(II)J"⟩
abbrev cX12_shift : ByteArray := prog_14_method_89_code
def yX12_shift : MethodName := ⟨RX12, "shift", "(IIIII)I"⟩
def RJx145de : String := "java/io/Serializable"
def TJx145de : u_T := fun k => match k with
  | _ => ("", "", "", false)
def tyJx145de : Nat → FieldType := fun k => match k with
  | _ => .int
theorem nmJx145de : ∀ a, a < 0 → ∀ b, b < 0 → a ≠ b → (TJx145de a).2.1 ≠ (TJx145de b).2.1 := by decide +kernel
theorem tyJx145de_ok : ∀ k, k < 0 → parseFieldDescriptor (TJx145de k).2.2.1 = some (tyJx145de k) := by decide +kernel
def RJx9f9b0 : String := "java/lang/CharSequence"
def TJx9f9b0 : u_T := fun k => match k with
  | _ => ("", "", "", false)
def tyJx9f9b0 : Nat → FieldType := fun k => match k with
  | _ => .int
theorem nmJx9f9b0 : ∀ a, a < 0 → ∀ b, b < 0 → a ≠ b → (TJx9f9b0 a).2.1 ≠ (TJx9f9b0 b).2.1 := by decide +kernel
theorem tyJx9f9b0_ok : ∀ k, k < 0 → parseFieldDescriptor (TJx9f9b0 k).2.2.1 = some (tyJx9f9b0 k) := by decide +kernel
def RJ11 : String := "java/lang/Character"
def TJ11 : u_T := fun k => match k with
  | _ => ("", "", "", false)
def tyJ11 : Nat → FieldType := fun k => match k with
  | _ => .int
theorem nmJ11 : ∀ a, a < 0 → ∀ b, b < 0 → a ≠ b → (TJ11 a).2.1 ≠ (TJ11 b).2.1 := by decide +kernel
theorem tyJ11_ok : ∀ k, k < 0 → parseFieldDescriptor (TJ11 k).2.2.1 = some (tyJ11 k) := by decide +kernel
abbrev cJ11_isValidCodePoint_9a6ad : ByteArray := prog_17_method_11_code
def yJ11_isValidCodePoint_9a6ad : MethodName := ⟨RJ11, "isValidCodePoint", "(I)Z"⟩
abbrev cJ11_highSurrogate_5068e : ByteArray := prog_17_method_28_code
def yJ11_highSurrogate_5068e : MethodName := ⟨RJ11, "highSurrogate", "(I)C"⟩
abbrev cJ11_lowSurrogate_5068e : ByteArray := prog_17_method_29_code
def yJ11_lowSurrogate_5068e : MethodName := ⟨RJ11, "lowSurrogate", "(I)C"⟩
def RJx8e188 : String := "java/lang/Cloneable"
def TJx8e188 : u_T := fun k => match k with
  | _ => ("", "", "", false)
def tyJx8e188 : Nat → FieldType := fun k => match k with
  | _ => .int
theorem nmJx8e188 : ∀ a, a < 0 → ∀ b, b < 0 → a ≠ b → (TJx8e188 a).2.1 ≠ (TJx8e188 b).2.1 := by decide +kernel
theorem tyJx8e188_ok : ∀ k, k < 0 → parseFieldDescriptor (TJx8e188 k).2.2.1 = some (tyJx8e188 k) := by decide +kernel
def RJxb160c : String := "java/lang/Comparable"
def TJxb160c : u_T := fun k => match k with
  | _ => ("", "", "", false)
def tyJxb160c : Nat → FieldType := fun k => match k with
  | _ => .int
theorem nmJxb160c : ∀ a, a < 0 → ∀ b, b < 0 → a ≠ b → (TJxb160c a).2.1 ≠ (TJxb160c b).2.1 := by decide +kernel
theorem tyJxb160c_ok : ∀ k, k < 0 → parseFieldDescriptor (TJxb160c k).2.2.1 = some (tyJxb160c k) := by decide +kernel
def RJxabbfe : String := "java/lang/Integer$IntegerCache"
def TJxabbfe : u_T := fun k => match k with
  | _ => ("", "", "", false)
def tyJxabbfe : Nat → FieldType := fun k => match k with
  | _ => .int
theorem nmJxabbfe : ∀ a, a < 0 → ∀ b, b < 0 → a ≠ b → (TJxabbfe a).2.1 ≠ (TJxabbfe b).2.1 := by decide +kernel
theorem tyJxabbfe_ok : ∀ k, k < 0 → parseFieldDescriptor (TJxabbfe k).2.2.1 = some (tyJxabbfe k) := by decide +kernel
def RJ6 : String := "java/lang/Integer"
def TJ6 : u_T := fun k => match k with
  | _ => ("java/lang/Integer", "value", "I", true)
def tyJ6 : Nat → FieldType := fun k => match k with
  | _ => .int
theorem nmJ6 : ∀ a, a < 1 → ∀ b, b < 1 → a ≠ b → (TJ6 a).2.1 ≠ (TJ6 b).2.1 := by decide +kernel
theorem tyJ6_ok : ∀ k, k < 1 → parseFieldDescriptor (TJ6 k).2.2.1 = some (tyJ6 k) := by decide +kernel
abbrev cJ6_valueOf_2dffe : ByteArray := prog_20_method_22_code
def yJ6_valueOf_2dffe : MethodName := ⟨RJ6, "valueOf", "(I)Ljava/lang/Integer;"⟩
abbrev cJ6_init_d00df : ByteArray := prog_20_method_23_code
def yJ6_init_d00df : MethodName := ⟨RJ6, "<init>", "(I)V"⟩
abbrev cJ6_intValue_8abf5 : ByteArray := prog_20_method_27_code
def yJ6_intValue_8abf5 : MethodName := ⟨RJ6, "intValue", "()I"⟩
def RJxab1ab : String := "java/lang/Iterable"
def TJxab1ab : u_T := fun k => match k with
  | _ => ("", "", "", false)
def tyJxab1ab : Nat → FieldType := fun k => match k with
  | _ => .int
theorem nmJxab1ab : ∀ a, a < 0 → ∀ b, b < 0 → a ≠ b → (TJxab1ab a).2.1 ≠ (TJxab1ab b).2.1 := by decide +kernel
theorem tyJxab1ab_ok : ∀ k, k < 0 → parseFieldDescriptor (TJxab1ab k).2.2.1 = some (tyJxab1ab k) := by decide +kernel
def RJ9 : String := "java/lang/Math"
def TJ9 : u_T := fun k => match k with
  | _ => ("", "", "", false)
def tyJ9 : Nat → FieldType := fun k => match k with
  | _ => .int
theorem nmJ9 : ∀ a, a < 0 → ∀ b, b < 0 → a ≠ b → (TJ9 a).2.1 ≠ (TJ9 b).2.1 := by decide +kernel
theorem tyJ9_ok : ∀ k, k < 0 → parseFieldDescriptor (TJ9 k).2.2.1 = some (tyJ9 k) := by decide +kernel
abbrev cJ9_max_7cf53 : ByteArray := prog_23_method_65_code
def yJ9_max_7cf53 : MethodName := ⟨RJ9, "max", "(II)I"⟩
abbrev cJ9_min_7cf53 : ByteArray := prog_23_method_69_code
def yJ9_min_7cf53 : MethodName := ⟨RJ9, "min", "(II)I"⟩
def RJxd2413 : String := "java/lang/Number"
def TJxd2413 : u_T := fun k => match k with
  | _ => ("", "", "", false)
def tyJxd2413 : Nat → FieldType := fun k => match k with
  | _ => .int
theorem nmJxd2413 : ∀ a, a < 0 → ∀ b, b < 0 → a ≠ b → (TJxd2413 a).2.1 ≠ (TJxd2413 b).2.1 := by decide +kernel
theorem tyJxd2413_ok : ∀ k, k < 0 → parseFieldDescriptor (TJxd2413 k).2.2.1 = some (tyJxd2413 k) := by decide +kernel
abbrev cJxd2413_init_da8c8 : ByteArray := prog_24_method_1_code
def yJxd2413_init_da8c8 : MethodName := ⟨RJxd2413, "<init>", "()V"⟩
def RJ0 : String := "java/lang/String"
def TJ0 : u_T := fun k => match k with
  | _ => ("", "", "", false)
def tyJ0 : Nat → FieldType := fun k => match k with
  | _ => .int
theorem nmJ0 : ∀ a, a < 0 → ∀ b, b < 0 → a ≠ b → (TJ0 a).2.1 ≠ (TJ0 b).2.1 := by decide +kernel
theorem tyJ0_ok : ∀ k, k < 0 → parseFieldDescriptor (TJ0 k).2.2.1 = some (tyJ0 k) := by decide +kernel
abbrev cJ0_length_8abf5 : ByteArray := prog_25_method_54_code
def yJ0_length_8abf5 : MethodName := ⟨RJ0, "length", "()I"⟩
abbrev cJ0_charAt_5068e : ByteArray := prog_25_method_56_code
def yJ0_charAt_5068e : MethodName := ⟨RJ0, "charAt", "(I)C"⟩
abbrev cJ0_indexOf_0f7a4 : ByteArray := prog_25_method_79_code
def yJ0_indexOf_0f7a4 : MethodName := ⟨RJ0, "indexOf", "(I)I"⟩
abbrev cJ0_indexOf_7cf53 : ByteArray := prog_25_method_80_code
def yJ0_indexOf_7cf53 : MethodName := ⟨RJ0, "indexOf", "(II)I"⟩
abbrev cJ0_coder_7d493 : ByteArray := prog_25_method_152_code
def yJ0_coder_7d493 : MethodName := ⟨RJ0, "coder", "()B"⟩
abbrev cJ0_isLatin1_aae02 : ByteArray := prog_25_method_154_code
def yJ0_isLatin1_aae02 : MethodName := ⟨RJ0, "isLatin1", "()Z"⟩
abbrev cJ0_checkIndex_df160 : ByteArray := prog_25_method_155_code
def yJ0_checkIndex_df160 : MethodName := ⟨RJ0, "checkIndex", "(II)V"⟩
abbrev cJ0_checkBoundsBeginEnd_23922 : ByteArray := prog_25_method_158_code
def yJ0_checkBoundsBeginEnd_23922 : MethodName := ⟨RJ0, "checkBoundsBeginEnd", "(III)V"⟩
def RJ1 : String := "java/lang/StringLatin1"
def TJ1 : u_T := fun k => match k with
  | _ => ("", "", "", false)
def tyJ1 : Nat → FieldType := fun k => match k with
  | _ => .int
theorem nmJ1 : ∀ a, a < 0 → ∀ b, b < 0 → a ≠ b → (TJ1 a).2.1 ≠ (TJ1 b).2.1 := by decide +kernel
theorem tyJ1_ok : ∀ k, k < 0 → parseFieldDescriptor (TJ1 k).2.2.1 = some (tyJ1 k) := by decide +kernel
abbrev cJ1_charAt_3b067 : ByteArray := prog_26_method_2_code
def yJ1_charAt_3b067 : MethodName := ⟨RJ1, "charAt", "([BI)C"⟩
abbrev cJ1_canEncode_9a6ad : ByteArray := prog_26_method_4_code
def yJ1_canEncode_9a6ad : MethodName := ⟨RJ1, "canEncode", "(I)Z"⟩
abbrev cJ1_indexOf_4cfef : ByteArray := prog_26_method_22_code
def yJ1_indexOf_4cfef : MethodName := ⟨RJ1, "indexOf", "([BIII)I"⟩
abbrev cJ1_indexOfChar_4cfef : ByteArray := prog_26_method_23_code
def yJ1_indexOfChar_4cfef : MethodName := ⟨RJ1, "indexOfChar", "([BIII)I"⟩
def RJ2 : String := "java/lang/StringUTF16"
def TJ2 : u_T := fun k => match k with
  | _ => ("", "", "", false)
def tyJ2 : Nat → FieldType := fun k => match k with
  | _ => .int
theorem nmJ2 : ∀ a, a < 0 → ∀ b, b < 0 → a ≠ b → (TJ2 a).2.1 ≠ (TJ2 b).2.1 := by decide +kernel
theorem tyJ2_ok : ∀ k, k < 0 → parseFieldDescriptor (TJ2 k).2.2.1 = some (tyJ2 k) := by decide +kernel
abbrev cJ2_getChar_3b067 : ByteArray := prog_27_method_5_code
def yJ2_getChar_3b067 : MethodName := ⟨RJ2, "getChar", "([BI)C"⟩
abbrev cJ2_length_9d52b : ByteArray := prog_27_method_6_code
def yJ2_length_9d52b : MethodName := ⟨RJ2, "length", "([B)I"⟩
abbrev cJ2_indexOf_4cfef : ByteArray := prog_27_method_40_code
def yJ2_indexOf_4cfef : MethodName := ⟨RJ2, "indexOf", "([BIII)I"⟩
abbrev cJ2_indexOfChar_4cfef : ByteArray := prog_27_method_47_code
def yJ2_indexOfChar_4cfef : MethodName := ⟨RJ2, "indexOfChar", "([BIII)I"⟩
abbrev cJ2_indexOfCharUnsafe_4cfef : ByteArray := prog_27_method_48_code
def yJ2_indexOfCharUnsafe_4cfef : MethodName := ⟨RJ2, "indexOfCharUnsafe", "([BIII)I"⟩
abbrev cJ2_indexOfSupplementary_4cfef : ByteArray := prog_27_method_49_code
def yJ2_indexOfSupplementary_4cfef : MethodName := ⟨RJ2, "indexOfSupplementary", "([BIII)I"⟩
abbrev cJ2_charAt_3b067 : ByteArray := prog_27_method_83_code
def yJ2_charAt_3b067 : MethodName := ⟨RJ2, "charAt", "([BI)C"⟩
abbrev cJ2_checkIndex_2214a : ByteArray := prog_27_method_91_code
def yJ2_checkIndex_2214a : MethodName := ⟨RJ2, "checkIndex", "(I[B)V"⟩
abbrev cJ2_checkBoundsBeginEnd_d044e : ByteArray := prog_27_method_93_code
def yJ2_checkBoundsBeginEnd_d044e : MethodName := ⟨RJ2, "checkBoundsBeginEnd", "(II[B)V"⟩
def RJ10 : String := "java/lang/System"
def TJ10 : u_T := fun k => match k with
  | _ => ("", "", "", false)
def tyJ10 : Nat → FieldType := fun k => match k with
  | _ => .int
theorem nmJ10 : ∀ a, a < 0 → ∀ b, b < 0 → a ≠ b → (TJ10 a).2.1 ≠ (TJ10 b).2.1 := by decide +kernel
theorem tyJ10_ok : ∀ k, k < 0 → parseFieldDescriptor (TJ10 k).2.2.1 = some (tyJ10 k) := by decide +kernel
def RJxfd54e : String := "java/lang/constant/Constable"
def TJxfd54e : u_T := fun k => match k with
  | _ => ("", "", "", false)
def tyJxfd54e : Nat → FieldType := fun k => match k with
  | _ => .int
theorem nmJxfd54e : ∀ a, a < 0 → ∀ b, b < 0 → a ≠ b → (TJxfd54e a).2.1 ≠ (TJxfd54e b).2.1 := by decide +kernel
theorem tyJxfd54e_ok : ∀ k, k < 0 → parseFieldDescriptor (TJxfd54e k).2.2.1 = some (tyJxfd54e k) := by decide +kernel
def RJx3cf43 : String := "java/lang/constant/ConstantDesc"
def TJx3cf43 : u_T := fun k => match k with
  | _ => ("", "", "", false)
def tyJx3cf43 : Nat → FieldType := fun k => match k with
  | _ => .int
theorem nmJx3cf43 : ∀ a, a < 0 → ∀ b, b < 0 → a ≠ b → (TJx3cf43 a).2.1 ≠ (TJx3cf43 b).2.1 := by decide +kernel
theorem tyJx3cf43_ok : ∀ k, k < 0 → parseFieldDescriptor (TJx3cf43 k).2.2.1 = some (tyJx3cf43 k) := by decide +kernel
def RJxa1e45 : String := "java/util/AbstractCollection"
def TJxa1e45 : u_T := fun k => match k with
  | _ => ("", "", "", false)
def tyJxa1e45 : Nat → FieldType := fun k => match k with
  | _ => .int
theorem nmJxa1e45 : ∀ a, a < 0 → ∀ b, b < 0 → a ≠ b → (TJxa1e45 a).2.1 ≠ (TJxa1e45 b).2.1 := by decide +kernel
theorem tyJxa1e45_ok : ∀ k, k < 0 → parseFieldDescriptor (TJxa1e45 k).2.2.1 = some (tyJxa1e45 k) := by decide +kernel
abbrev cJxa1e45_init_da8c8 : ByteArray := prog_31_method_1_code
def yJxa1e45_init_da8c8 : MethodName := ⟨RJxa1e45, "<init>", "()V"⟩
def RJxc12de : String := "java/util/AbstractList"
def TJxc12de : u_T := fun k => match k with
  | _ => ("", "", "", false)
def tyJxc12de : Nat → FieldType := fun k => match k with
  | _ => .int
theorem nmJxc12de : ∀ a, a < 0 → ∀ b, b < 0 → a ≠ b → (TJxc12de a).2.1 ≠ (TJxc12de b).2.1 := by decide +kernel
theorem tyJxc12de_ok : ∀ k, k < 0 → parseFieldDescriptor (TJxc12de k).2.2.1 = some (tyJxc12de k) := by decide +kernel
abbrev cJxc12de_init_da8c8 : ByteArray := prog_32_method_1_code
def yJxc12de_init_da8c8 : MethodName := ⟨RJxc12de, "<init>", "()V"⟩
def RJx4a65c : String := "java/util/ArrayList"
def TJx4a65c : u_T := fun k => match k with
  | 0 => ("java/util/AbstractList", "modCount", "I", false)
  | 1 => ("java/util/ArrayList", "elementData", "[Ljava/lang/Object;", false)
  | _ => ("java/util/ArrayList", "size", "I", false)
def tyJx4a65c : Nat → FieldType := fun k => match k with
  | 0 => .int
  | 1 => .array (.object "java/lang/Object")
  | _ => .int
theorem nmJx4a65c : ∀ a, a < 3 → ∀ b, b < 3 → a ≠ b → (TJx4a65c a).2.1 ≠ (TJx4a65c b).2.1 := by decide +kernel
theorem tyJx4a65c_ok : ∀ k, k < 3 → parseFieldDescriptor (TJx4a65c k).2.2.1 = some (tyJx4a65c k) := by decide +kernel
abbrev cJx4a65c_init_da8c8 : ByteArray := prog_33_method_2_code
def yJx4a65c_init_da8c8 : MethodName := ⟨RJx4a65c, "<init>", "()V"⟩
abbrev cJx4a65c_grow_92f84 : ByteArray := prog_33_method_6_code
def yJx4a65c_grow_92f84 : MethodName := ⟨RJx4a65c, "grow", "(I)[Ljava/lang/Object;"⟩
abbrev cJx4a65c_grow_d5877 : ByteArray := prog_33_method_7_code
def yJx4a65c_grow_d5877 : MethodName := ⟨RJx4a65c, "grow", "()[Ljava/lang/Object;"⟩
abbrev cJx4a65c_size_8abf5 : ByteArray := prog_33_method_8_code
def yJx4a65c_size_8abf5 : MethodName := ⟨RJx4a65c, "size", "()I"⟩
abbrev cJx4a65c_elementData_915e3 : ByteArray := prog_33_method_18_code
def yJx4a65c_elementData_915e3 : MethodName := ⟨RJx4a65c, "elementData", "(I)Ljava/lang/Object;"⟩
abbrev cJx4a65c_get_915e3 : ByteArray := prog_33_method_20_code
def yJx4a65c_get_915e3 : MethodName := ⟨RJx4a65c, "get", "(I)Ljava/lang/Object;"⟩
abbrev cJx4a65c_add_72be8 : ByteArray := prog_33_method_24_code
def yJx4a65c_add_72be8 : MethodName := ⟨RJx4a65c, "add", "(Ljava/lang/Object;[Ljava/lang/Object;I)V"⟩
abbrev cJx4a65c_add_9ea2d : ByteArray := prog_33_method_25_code
def yJx4a65c_add_9ea2d : MethodName := ⟨RJx4a65c, "add", "(Ljava/lang/Object;)Z"⟩
abbrev cJx4a65c_clear_da8c8 : ByteArray := prog_33_method_40_code
def yJx4a65c_clear_da8c8 : MethodName := ⟨RJx4a65c, "clear", "()V"⟩
def RJ7 : String := "java/util/Arrays"
def TJ7 : u_T := fun k => match k with
  | _ => ("", "", "", false)
def tyJ7 : Nat → FieldType := fun k => match k with
  | _ => .int
theorem nmJ7 : ∀ a, a < 0 → ∀ b, b < 0 → a ≠ b → (TJ7 a).2.1 ≠ (TJ7 b).2.1 := by decide +kernel
theorem tyJ7_ok : ∀ k, k < 0 → parseFieldDescriptor (TJ7 k).2.2.1 = some (tyJ7 k) := by decide +kernel
abbrev cJ7_fill_d0a16 : ByteArray := prog_34_method_101_code
def yJ7_fill_d0a16 : MethodName := ⟨RJ7, "fill", "([JJ)V"⟩
abbrev cJ7_copyOf_1904c : ByteArray := prog_34_method_119_code
def yJ7_copyOf_1904c : MethodName := ⟨RJ7, "copyOf", "([Ljava/lang/Object;I)[Ljava/lang/Object;"⟩
abbrev cJ7_copyOf_6403c : ByteArray := prog_34_method_120_code
def yJ7_copyOf_6403c : MethodName := ⟨RJ7, "copyOf", "([Ljava/lang/Object;ILjava/lang/Class;)[Ljava/lang/Object;"⟩
def RJx5ef63 : String := "java/util/Collection"
def TJx5ef63 : u_T := fun k => match k with
  | _ => ("", "", "", false)
def tyJx5ef63 : Nat → FieldType := fun k => match k with
  | _ => .int
theorem nmJx5ef63 : ∀ a, a < 0 → ∀ b, b < 0 → a ≠ b → (TJx5ef63 a).2.1 ≠ (TJx5ef63 b).2.1 := by decide +kernel
theorem tyJx5ef63_ok : ∀ k, k < 0 → parseFieldDescriptor (TJx5ef63 k).2.2.1 = some (tyJx5ef63 k) := by decide +kernel
def RJxbd725 : String := "java/util/List"
def TJxbd725 : u_T := fun k => match k with
  | _ => ("", "", "", false)
def tyJxbd725 : Nat → FieldType := fun k => match k with
  | _ => .int
theorem nmJxbd725 : ∀ a, a < 0 → ∀ b, b < 0 → a ≠ b → (TJxbd725 a).2.1 ≠ (TJxbd725 b).2.1 := by decide +kernel
theorem tyJxbd725_ok : ∀ k, k < 0 → parseFieldDescriptor (TJxbd725 k).2.2.1 = some (tyJxbd725 k) := by decide +kernel
def RJ15 : String := "java/util/Objects"
def TJ15 : u_T := fun k => match k with
  | _ => ("", "", "", false)
def tyJ15 : Nat → FieldType := fun k => match k with
  | _ => .int
theorem nmJ15 : ∀ a, a < 0 → ∀ b, b < 0 → a ≠ b → (TJ15 a).2.1 ≠ (TJ15 b).2.1 := by decide +kernel
theorem tyJ15_ok : ∀ k, k < 0 → parseFieldDescriptor (TJ15 k).2.2.1 = some (tyJ15 k) := by decide +kernel
abbrev cJ15_checkIndex_7cf53 : ByteArray := prog_37_method_17_code
def yJ15_checkIndex_7cf53 : MethodName := ⟨RJ15, "checkIndex", "(II)I"⟩
def RJxf0a74 : String := "java/util/RandomAccess"
def TJxf0a74 : u_T := fun k => match k with
  | _ => ("", "", "", false)
def tyJxf0a74 : Nat → FieldType := fun k => match k with
  | _ => .int
theorem nmJxf0a74 : ∀ a, a < 0 → ∀ b, b < 0 → a ≠ b → (TJxf0a74 a).2.1 ≠ (TJxf0a74 b).2.1 := by decide +kernel
theorem tyJxf0a74_ok : ∀ k, k < 0 → parseFieldDescriptor (TJxf0a74 k).2.2.1 = some (tyJxf0a74 k) := by decide +kernel
def RJxa66e6 : String := "java/util/SequencedCollection"
def TJxa66e6 : u_T := fun k => match k with
  | _ => ("", "", "", false)
def tyJxa66e6 : Nat → FieldType := fun k => match k with
  | _ => .int
theorem nmJxa66e6 : ∀ a, a < 0 → ∀ b, b < 0 → a ≠ b → (TJxa66e6 a).2.1 ≠ (TJxa66e6 b).2.1 := by decide +kernel
theorem tyJxa66e6_ok : ∀ k, k < 0 → parseFieldDescriptor (TJxa66e6 k).2.2.1 = some (tyJxa66e6 k) := by decide +kernel
def RJ8 : String := "jdk/internal/util/ArraysSupport"
def TJ8 : u_T := fun k => match k with
  | _ => ("", "", "", false)
def tyJ8 : Nat → FieldType := fun k => match k with
  | _ => .int
theorem nmJ8 : ∀ a, a < 0 → ∀ b, b < 0 → a ≠ b → (TJ8 a).2.1 ≠ (TJ8 b).2.1 := by decide +kernel
theorem tyJ8_ok : ∀ k, k < 0 → parseFieldDescriptor (TJ8 k).2.2.1 = some (tyJ8 k) := by decide +kernel
abbrev cJ8_newLength_cabcc : ByteArray := prog_40_method_27_code
def yJ8_newLength_cabcc : MethodName := ⟨RJ8, "newLength", "(III)I"⟩
abbrev cJ8_hugeLength_7cf53 : ByteArray := prog_40_method_28_code
def yJ8_hugeLength_7cf53 : MethodName := ⟨RJ8, "hugeLength", "(II)I"⟩
def RJ3 : String := "jdk/internal/util/Preconditions"
def TJ3 : u_T := fun k => match k with
  | _ => ("", "", "", false)
def tyJ3 : Nat → FieldType := fun k => match k with
  | _ => .int
theorem nmJ3 : ∀ a, a < 0 → ∀ b, b < 0 → a ≠ b → (TJ3 a).2.1 ≠ (TJ3 b).2.1 := by decide +kernel
theorem tyJ3_ok : ∀ k, k < 0 → parseFieldDescriptor (TJ3 k).2.2.1 = some (tyJ3 k) := by decide +kernel
abbrev cJ3_checkIndex_8e157 : ByteArray := prog_41_method_11_code
def yJ3_checkIndex_8e157 : MethodName := ⟨RJ3, "checkIndex", "(IILjava/util/function/BiFunction;)I"⟩
abbrev cJ3_checkFromToIndex_8c36e : ByteArray := prog_41_method_12_code
def yJ3_checkFromToIndex_8c36e : MethodName := ⟨RJ3, "checkFromToIndex", "(IIILjava/util/function/BiFunction;)I"⟩
def RL : String := "TwoServesLaw"
abbrev cL_law : ByteArray := code
def yL_law : MethodName := ⟨RL, "law", "([I)Z"⟩
abbrev vwCl : List vw_C := [(RJ6, TJ6, 1), (RJx4a65c, TJx4a65c, 3), (RX0, TX0, 6), (RX1, TX1, 3), (RX2, TX2, 3), (RX3, TX3, 3), (RX4, TX4, 17), (RX5, TX5, 3), (RX6, TX6, 3), (RX7, TX7, 3), (RX8, TX8, 3), (RX9, TX9, 3), (RX10, TX10, 3), (RX11, TX11, 13), (RX12, TX12, 63)]
end
section
/-! THE ABSTRACT HEAP: a list of cells, an address is a place in it; em, cat, Wd say which machine heap it stands for -/
abbrev HA : Type := (Nat → Int32) ⊕ (Nat → Int64) ⊕ (Nat → Value)
abbrev HC : Type := (Nat × Nat × HA) ⊕ (Nat × List Value)
abbrev HP : Type := List HC
abbrev WP : Type := Nat × (Nat → Nat) × Value × va_G × (Nat → ClassId)
abbrev QM : Type := MethodName × ByteArray × Nat × Option FieldType
/-- a value as the machine has it: ref i is the i-th cell from the base on, float j the j-th thing from outside, retAddr the one whose kind nobody asks -/
def em (w : WP) (v : Value) : Value := match v with
  | .ref i => .ref (w.1 + i)
  | .float j => .ref (w.2.1 j.toNat)
  | .retAddr _ => w.2.2.1
  | .int x => .int x
  | .long x => .long x
  | .double x => .double x
  | .null => .null
def caW (w : WP) (a : HA) : Nat → Value := match a with
  | .inl f => fun k => .int (f k)
  | .inr (.inl f) => fun k => .long (f k)
  | .inr (.inr f) => fun k => em w (f k)
def cat (w : WP) (a : Nat) (H : Heap) (c : HC) : Prop := match c with
  | .inl x => H[a]? = some (arrV (w.2.2.2.2 x.1) x.2.1 (caW w x.2.2))
  | .inr o => ∃ r : vw_C, vwCl[o.1]? = some r ∧ t_OB a (w.2.2.2.1.1 o.1) r.2.2 (w.2.2.2.1.2 o.1) H (vp_V (o.2.map (em w)))
def Wd (w : WP) (h : HP) (H : Heap) : Prop := H.size = w.1 + h.length ∧ ∀ (i : Nat) (c : HC), h[i]? = some c → cat w (w.1 + i) H c
def aTy : List FieldType := [.int, .long, .char, .boolean, .object "TwoServes$Server", .object "TwoServes$Court", .object "TwoServes$Tape", .array .int, .object "java/lang/Object"]
def tyL (tc : Nat → ClassId) : List (ClassId × FieldType) := [(tc 0, .int), (tc 1, .long), (tc 2, .char), (tc 3, .boolean), (tc 4, .object "TwoServes$Server"), (tc 5, .object "TwoServes$Court"), (tc 6, .object "TwoServes$Tape"), (tc 7, .array .int), (tc 8, .object "java/lang/Object")]
theorem tyL_at (tc : Nat → ClassId) {t : Nat} {ty : FieldType} (h : aTy[t]? = some ty) : (tyL tc)[t]? = some (tc t, ty) := by
  match t, h with
  | 0, h | 1, h | 2, h | 3, h | 4, h | 5, h | 6, h | 7, h | 8, h => cases h; rfl
  | n + 9, h => simp [aTy] at h
theorem cat.kept {w : WP} {a : Nat} {H H1 : Heap} {c : HC} (h : cat w a H c) (hq : H1[a]? = H[a]?) : cat w a H1 c := by
  cases c with
  | inl x => exact hq.trans h
  | inr o =>
    obtain ⟨r, h1, h2⟩ := h
    exact ⟨r, h1, h2.kept hq⟩
theorem Wd.lt {w : WP} {h : HP} {H : Heap} (hW : Wd w h H) {i : Nat} {c : HC} (hc : h[i]? = some c) : w.1 + i < H.size := by
  have := (List.getElem?_eq_some_iff.mp hc).1
  rw [hW.1]
  omega
theorem Wd.set {w : WP} {h : HP} {H H1 : Heap} (hW : Wd w h H) {i : Nat} {c : HC} (z : H1.size = H.size) (oq : ∀ q, q ≠ w.1 + i → H1[q]? = H[q]?) (hc : cat w (w.1 + i) H1 c) : Wd w (h.set i c) H1 := by
  refine ⟨by rw [z, hW.1, List.length_set], fun j cj hj => ?_⟩
  by_cases e : i = j
  · subst e
    by_cases hl : i < h.length
    · rw [List.getElem?_set_self hl] at hj
      cases hj
      exact hc
    · have := (List.getElem?_eq_some_iff.mp hj).1
      rw [List.length_set] at this
      exact absurd this hl
  · rw [List.getElem?_set_ne e] at hj
    exact (hW.2 j cj hj).kept (oq _ (by omega))
theorem Wd.push {w : WP} {h : HP} {H H1 : Heap} (hW : Wd w h H) {c : HC} (z : H1.size = H.size + 1) (oq : ∀ q, q < H.size → H1[q]? = H[q]?) (hc : cat w (w.1 + h.length) H1 c) : Wd w (h ++ [c]) H1 := by
  refine ⟨by rw [z, hW.1, List.length_append]; simp; omega, fun j cj hj => ?_⟩
  by_cases hl : j < h.length
  · rw [List.getElem?_append_left hl] at hj
    exact (hW.2 j cj hj).kept (oq _ (by rw [hW.1]; omega))
  · rw [List.getElem?_append_right (by omega)] at hj
    have h0 : j - h.length < 1 := (List.getElem?_eq_some_iff.mp hj).1
    have e : j = h.length := by omega
    subst e
    rw [Nat.sub_self] at hj
    cases hj
    exact hc
/-! what a method may take as given beside its words -/
def nestL : List (String × Nat × MethodName × String) := [("TwoServes", 11, ⟨"TwoServes$Situation", "<init>", "()V"⟩, "TwoServes"), ("TwoServes", 26, ⟨"TwoServes$Text", "<init>", "()V"⟩, "TwoServes"), ("TwoServes", 65, ⟨"TwoServes$Court", "<init>", "()V"⟩, "TwoServes"), ("TwoServes", 66, ⟨"TwoServes$Tape", "<init>", "()V"⟩, "TwoServes"), ("TwoServes$Situation", 127, ⟨"TwoServes", "twoServes", "(IIII)I"⟩, "TwoServes"), ("TwoServes$Situation", 87, ⟨"TwoServes", "within", "(II)Z"⟩, "TwoServes"), ("TwoServes$Text", 19, ⟨"TwoServes", "within", "(II)Z"⟩, "TwoServes")]
def svN : List String := ["TwoServes$Server", "TwoServes$Daring", "TwoServes$Timid", "TwoServes$Tiring", "TwoServes$Read", "TwoServes$Sure", "TwoServes$Told"]
/-- the classes of the KINDS: the KIND's class, and those it can be taken for -/
def castL : List (String × String) := [("TwoServes$Daring", "TwoServes$Server"), ("TwoServes$Timid", "TwoServes$Server"), ("TwoServes$Tiring", "TwoServes$Server"), ("TwoServes$Read", "TwoServes$Server"), ("TwoServes$Sure", "TwoServes$Server"), ("TwoServes$Told", "TwoServes$Server"), ("TwoServes$Read", "TwoServes$Daring"), ("TwoServes$Sure", "TwoServes$Timid"), ("TwoServes$Told", "TwoServes$Tiring"), ("java/lang/Integer", "java/lang/Object")]
def ncastL : List (String × String) := svN.flatMap fun a => (svN.drop 1).filterMap fun b => if a = b ∨ (a, b) ∈ castL then none else some (a, b)
def strL : List (String × Nat × String × Nat) := [("TwoServes$Situation", 48, "pkfswl", 3), ("TwoServes$Text", 43, "in ", 0), ("TwoServes$Text", 45, "win ", 1), ("TwoServes$Text", 47, "out ", 2), ("TwoServes$Text", 82, "pkfswl", 3), ("TwoServes$Text", 88, "<=>", 4)]
def strLen : List Nat := [3, 4, 4, 6, 3]
def strByt : List (List Int32) := [[105, 110, 32], [119, 105, 110, 32], [111, 117, 116, 32], [112, 107, 102, 115, 119, 108], [60, 61, 62]]
def getCN : MethodName := ⟨"java/lang/Object", "getClass", "()Ljava/lang/Class;"⟩
def NW (w : WP) (s : State) : Prop :=
  (∀ x ∈ nestL, va_Nw (.methodLinkNest x.1 x.2.1 x.2.2.1 x.2.2.2) s) ∧ (∀ x ∈ castL, va_Nw (.castable x.1 x.2) s) ∧ (∀ x ∈ ncastL, va_Nc x.1 x.2 s) ∧
  (∀ x ∈ strL, vk_R x.1 x.2.1 x.2.2.1 (w.2.1 (310 + x.2.2.2)) s) ∧ va_Mi "[Ljava/lang/Object;" (w.2.1 302) s ∧ va_Dc s ∧
  va_AO "TwoServes$Server" s ∧ va_AO "TwoServes$Court" s ∧ va_AO "TwoServes$Tape" s ∧ va_AO "java/lang/Object" s ∧ va_AOA .int s
def EX (w : WP) (HB : Heap) (s : State) : Prop :=
  vb_C w.2.1 (w.1 ≤ ·) s HB ∧ va_Z "java/lang/Integer$IntegerCache" "cache" "[Ljava/lang/Integer;" (.ref (w.2.1 300)) (w.1 ≤ ·) s HB ∧
  va_T (.object "java/lang/Integer") (w.2.1 300) 256 (fun j => .ref (w.2.1 j)) (w.1 ≤ ·) s HB ∧ va_Z "java/lang/Integer$IntegerCache" "high" "I" (.int 127) (w.1 ≤ ·) s HB ∧
  va_Z "java/util/ArrayList" "DEFAULTCAPACITY_EMPTY_ELEMENTDATA" "[Ljava/lang/Object;" (.ref (w.2.1 301)) (w.1 ≤ ·) s HB ∧ va_T (.object "java/lang/Object") (w.2.1 301) 0 (fun _ => .null) (w.1 ≤ ·) s HB ∧
  va_Z "java/lang/String" "COMPACT_STRINGS" "Z" (.int 1) (w.1 ≤ ·) s HB ∧ vk_S 5 strLen strByt (fun i => w.2.1 (310 + i)) (fun i => w.2.1 (320 + i)) (w.1 ≤ ·) s HB ∧
  va_Z "jdk/internal/util/Preconditions" "SIOOBE_FORMATTER" "Ljava/util/function/BiFunction;" w.2.2.1 (w.1 ≤ ·) s HB ∧ w.2.2.1.category = 1
def KX (w : WP) (HB : Heap) (s : State) : Prop := va_K w.2.2.2.1 vwCl (tyL w.2.2.2.2) s ∧ NW w s ∧ EX w HB s
theorem EX.moved {w : WP} {HB : Heap} {s U : State} (hvm : s.vm.Alike U.vm) (h : EX w HB s) : EX w HB U := by
  obtain ⟨h1, h2, h3, h4, h5, h6, h7, h8, h9, h10⟩ := h
  exact ⟨vb_C.moved hvm h1, va_Z.moved hvm h2, va_T.moved hvm h3, va_Z.moved hvm h4, va_Z.moved hvm h5, va_T.moved hvm h6, va_Z.moved hvm h7, vk_S.moved hvm h8, va_Z.moved hvm h9, h10⟩
theorem KX.warm {w : WP} {HB : Heap} {s U : State} (hW : s.WarmedH U.vm) (h : KX w HB s) : KX w HB U := by
  obtain ⟨hK, ⟨n1, n2, n3, n4, n5, n6, n7, n8, n9, n10, n11⟩, hE⟩ := h
  exact ⟨va_K.moved hW.alike hK, ⟨fun x hx => va_Nw.warmM hW (n1 x hx), fun x hx => va_Nw.warmC hW (n2 x hx), fun x hx => va_Nc.moved hW.alike (n3 x hx), fun x hx => vk_R.warm hW (n4 x hx), va_Mi.moved hW.alike n5, va_Dc.moved hW.alike n6, va_AO.moved hW.alike n7, va_AO.moved hW.alike n8, va_AO.moved hW.alike n9, va_AO.moved hW.alike n10, va_AOA.moved hW.alike n11⟩, hE.moved hW.alike⟩
theorem KX.same {w : WP} {HB : Heap} {s U : State} (hv : U.vm = s.vm) (h : KX w HB s) : KX w HB U := by
  have ha : s.vm.Alike U.vm := by rw [hv]; exact Vm.Alike.refl _
  obtain ⟨hK, ⟨n1, n2, n3, n4, n5, n6, n7, n8, n9, n10, n11⟩, hE⟩ := h
  exact ⟨va_K.moved ha hK, ⟨fun x hx => va_Nw.same rfl hv.symm (n1 x hx), fun x hx => va_Nw.same rfl hv.symm (n2 x hx), fun x hx => va_Nc.moved ha (n3 x hx), fun x hx => vk_R.same hv (n4 x hx), va_Mi.moved ha n5, va_Dc.moved ha n6, va_AO.moved ha n7, va_AO.moved ha n8, va_AO.moved ha n9, va_AO.moved ha n10, va_AOA.moved ha n11⟩, hE.moved ha⟩
/-! THE JUDGEMENTS -/
/-- the tables' words that a callee may keep -/
def gW : List Cond := lw_tbl.filter goodWord
theorem gW_of {i : Nat} {x : Cond} (h : lw_tbl[i]? = some x) (hg : goodWord x = true) : x ∈ gW := List.mem_filter.mpr ⟨List.mem_of_getElem? h, hg⟩
def wsq (q : QM) : List Cond := Cond.code q.1 q.2.1 q.2.2.1 q.2.2.2 :: gW
/-- below the base all is as it was -/
def lowB (w : WP) (HB : Heap) (s : State) : Prop := w.1 ≤ s.heap.size ∧ ∀ a : Nat, a < w.1 → s.heap[a]? = HB[a]?
def SCt (w : WP) (HB : Heap) (d : Nat) (q : QM) (p : Program) (R : Room) (s : State) (m : MethodId) (args : Array Value) (meth : Method) (c : Code) (mcT msT : Nat) : Prop :=
  p.tables.exec = Jvm.exec ∧ c.code = q.2.1 ∧ c.maxLocals = q.2.2.1 ∧ meth.sig.returnType = q.2.2.2 ∧ meth.name = q.1.name ∧ s.vm.findClass q.1.cls = some m.cls ∧
  (∀ x ∈ wsq q, x.before args s = true) ∧ meth.locks = false ∧ KX w HB s ∧ lowB w HB s ∧ d ≤ R.frames ∧ 64 * d ≤ R.locals ∧ mcT ≤ R.cells ∧ msT ≤ R.slots
def QCr (w : WP) (r : Option Value) (h' : HP) : Array Value → State → Outcome → State → Prop := fun _ st o t => o = .returned (r.map (em w)) ∧ Wd w h' t.heap ∧ va_F (w.1 ≤ ·) st t
def Sem (d : Nat) (q : QM) (mc ms pc : Nat) (L : List (Nat × Value)) (st : List Value) (h : HP) (r : Option Value) (h' : HP) : Prop :=
  ∀ (w : WP) (HB : Heap) (p : Program) (l : Launch) (e : Env) (R : Room) (s : State) (m : MethodId) (args : Array Value) (below : List Frame) (meth : Method) (c : Code) (mcT msT : Nat) (H : Heap) (locs : List Loc) (cells slots : Nat) (ls : Array Slot),
    SCt w HB d q p R s m args meth c mcT msT → Wd w h H → va_S (w.1 ≤ ·) s.heap H locs → lv_has ls q.2.2.1 (L.map fun x => (x.1, em w x.2)) → cells + mc ≤ mcT → slots + ms ≤ msT →
    W p l e R s m args below meth c H locs cells slots (MQ below (QCr w r h') args s mcT msT (w.1 ≤ ·)) (F0 m pc ls (st.map (em w)))
def rmq (d mc ms : Nat) : Room := { frames := d, cells := mc, slots := ms, locals := 64 * d }
def PCr (w : WP) (HB : Heap) (args : List Value) (h : HP) : Array Value → State → Prop := va_Pc (args.map (em w)) (fun U => Wd w h U.heap ∧ KX w HB U ∧ lowB w HB U)
def Con (d : Nat) (q : QM) (mc ms : Nat) (args : List Value) (h : HP) (r : Option Value) (h' : HP) : Prop :=
  ∀ (w : WP) (HB : Heap) (l : Launch), Met l q.1 (wsq q) (rmq d mc ms) (PCr w HB args h) (QCr w r h') mc ms (w.1 ≤ ·)
theorem PCr.blind {w : WP} {HB : Heap} {args : List Value} {h : HP} : FrameBlind (PCr w HB args h) := by
  intro a U g mk hp
  exact ⟨hp.1, hp.2.1, KX.same rfl hp.2.2.1, hp.2.2.2⟩
theorem em_cat1 {w : WP} {HB : Heap} {s : State} (hE : KX w HB s) (v : Value) : (em w v).category = v.category := by
  cases v <;> first | rfl | exact hE.2.2.2.2.2.2.2.2.2.2.2
theorem em_cats {w : WP} {HB : Heap} {s : State} (hE : KX w HB s) (l : List Value) : ((l.map (em w)).map fun v => v.category) = l.map fun v => v.category := by
  rw [List.map_map]
  exact List.map_congr_left fun v _ => em_cat1 hE v
theorem lv_args_em {w : WP} {HB : Heap} {s : State} (hE : KX w HB s) : ∀ (l : List Value) (n : Nat), lv_args n (l.map (em w)) = (lv_args n l).map fun x => (x.1, em w x.2)
  | [], _ => rfl
  | v :: l, n => by
    have hc := em_cat1 hE v
    simp only [List.map_cons, lv_args, hc, lv_args_em hE l]
theorem lg_sl_len {w : WP} {HB : Heap} {s : State} (hE : KX w HB s) : ∀ (l : List Value), (lg_sl (l.map (em w))).length = (lg_sl l).length
  | [] => rfl
  | v :: l => by
    have hc := em_cat1 hE v
    have ih := lg_sl_len hE l
    simp only [lg_sl, List.map_cons, List.flatMap_cons, List.length_append, hc] at ih ⊢
    rw [ih]
    split <;> rfl
theorem Con.of {d : Nat} {q : QM} {mc ms : Nat} {args : List Value} {h h' : HP} {r : Option Value} (hy : plainName q.1.cls = true) (hlen : (lg_sl args).length ≤ q.2.2.1) (k : Sem d q mc ms 0 (lv_args 0 args) [] h r h') : Con d q mc ms args h r h' := by
  intro w HB l
  refine Met.ofW (cc := q.2.1) (maxL := q.2.2.1) (ret := q.2.2.2) hy rfl ?_
  intro p e s m av below meth c s₁ B hml hv
  obtain ⟨rfl, hWd, hKX, hlow⟩ := hv
  have hn := name_of_methodNamed B.named B.method
  have hl := lv_entry (args.map (em w)) (n := q.2.2.1) (by rw [lg_sl_len hKX]; exact hlen)
  rw [lg_entry_eq]
  rw [lv_args_em hKX] at hl
  exact k w HB p l e _ s m _ below meth c mc ms s.heap [] 0 0 _ ⟨B.exec, B.bytes, hml, B.returns, hn.1, findClass_of_methodNamed B.named, atoms_spec (ws := wsq q) B.pre, B.notSynchronized, hKX, hlow, Nat.le_refl _, Nat.le_refl _, Nat.le_refl _, Nat.le_refl _⟩ hWd va_S.rf hl (by omega) (by omega)
end
section
section Rules1
variable {d mc ms pc : Nat} {q : QM} {L : List (Nat × Value)} {st : List Value} {h h' : HP} {r : Option Value}
theorem strAt {w : WP} {HB : Heap} {p : Program} {R : Room} {s : State} {m : MethodId} {args : Array Value} {meth : Method} {c : Code} {mcT msT : Nat} {own tx : String} {i j : Nat} (C : SCt w HB d q p R s m args meth c mcT msT) (hc : (own, i, tx, j) ∈ strL) : vk_R own i tx (w.2.1 (310 + UInt32.ofNat j).toNat) s := by
  have h := C.2.2.2.2.2.2.2.2.1.2.1.2.2.2.1 _ hc
  have e : (310 + UInt32.ofNat j).toNat = 310 + j := by
    simp only [strL, List.mem_cons, Prod.mk.injEq, List.not_mem_nil, or_false] at hc
    rcases hc with ⟨-, -, -, rfl⟩ | ⟨-, -, -, rfl⟩ | ⟨-, -, -, rfl⟩ | ⟨-, -, -, rfl⟩ | ⟨-, -, -, rfl⟩ | ⟨-, -, -, rfl⟩ <;> rfl
  rw [e]
  exact h
theorem s_iconst {n : Int} {v : Int32} (hd : decode q.2.1 pc = .ok (.iconst n, 1)) (hv : Int32.ofInt n = v) (k : Sem d q mc ms (pc + 1) L (.int v :: st) h r h') : Sem d q mc ms (pc) L (st) h r h' := by
  intro w HB p l e R s m args below meth c mcT msT H locs cells slots ls C hW hS hl h1 h2
  exact lv_iconst C.1 C.2.1 hd hv (k w HB p l e R s m args below meth c mcT msT H locs cells slots ls C hW hS hl h1 h2)

theorem s_bipush {n : Int} {v : Int32} (hd : decode q.2.1 pc = .ok (.bipush n, 2)) (hv : (Int8.ofInt n).toInt32 = v) (k : Sem d q mc ms (pc + 2) L (.int v :: st) h r h') : Sem d q mc ms (pc) L (st) h r h' := by
  intro w HB p l e R s m args below meth c mcT msT H locs cells slots ls C hW hS hl h1 h2
  exact lv_bipush C.1 C.2.1 hd hv (k w HB p l e R s m args below meth c mcT msT H locs cells slots ls C hW hS hl h1 h2)

theorem s_sipush {n : Int} {v : Int32} (hd : decode q.2.1 pc = .ok (.sipush n, 3)) (hv : (Int16.ofInt n).toInt32 = v) (k : Sem d q mc ms (pc + 3) L (.int v :: st) h r h') : Sem d q mc ms (pc) L (st) h r h' := by
  intro w HB p l e R s m args below meth c mcT msT H locs cells slots ls C hW hS hl h1 h2
  exact lv_sipush C.1 C.2.1 hd hv (k w HB p l e R s m args below meth c mcT msT H locs cells slots ls C hW hS hl h1 h2)

theorem s_lconst {n : Fin 2} {v : Int64} (hd : decode q.2.1 pc = .ok (.lconst n, 1)) (hv : Int64.ofNat (n : Nat) = v) (k : Sem d q mc ms (pc + 1) L (.long v :: st) h r h') : Sem d q mc ms (pc) L (st) h r h' := by
  intro w HB p l e R s m args below meth c mcT msT H locs cells slots ls C hW hS hl h1 h2
  exact lv_lconst C.1 C.2.1 hd hv (k w HB p l e R s m args below meth c mcT msT H locs cells slots ls C hW hS hl h1 h2)

theorem s_null (hd : decode q.2.1 pc = .ok (.aconst_null, 1)) (k : Sem d q mc ms (pc + 1) L (.null :: st) h r h') : Sem d q mc ms (pc) L (st) h r h' := by
  intro w HB p l e R s m args below meth c mcT msT H locs cells slots ls C hW hS hl h1 h2
  exact lv_null C.1 C.2.1 hd (k w HB p l e R s m args below meth c mcT msT H locs cells slots ls C hW hS hl h1 h2)

theorem s_ldc {own : String} {i : Nat} {v : Int32} (hd : decode q.2.1 pc = .ok (.ldc i, 2)) (hown : q.1.cls = own) (hc : Cond.constant own i v ∈ gW) (k : Sem d q mc ms (pc + 2) L (.int v :: st) h r h') : Sem d q mc ms (pc) L (st) h r h' := by
  intro w HB p l e R s m args below meth c mcT msT H locs cells slots ls C hW hS hl h1 h2
  exact lv_ldc C.1 C.2.1 (hown ▸ C.2.2.2.2.2.1) (C.2.2.2.2.2.2.1 _ (List.mem_cons_of_mem _ hc)) hd (k w HB p l e R s m args below meth c mcT msT H locs cells slots ls C hW hS hl h1 h2)

theorem s_ldcw {own : String} {i : Nat} {v : Int32} (hd : decode q.2.1 pc = .ok (.ldc_w i, 3)) (hown : q.1.cls = own) (hc : Cond.constant own i v ∈ gW) (k : Sem d q mc ms (pc + 3) L (.int v :: st) h r h') : Sem d q mc ms (pc) L (st) h r h' := by
  intro w HB p l e R s m args below meth c mcT msT H locs cells slots ls C hW hS hl h1 h2
  exact lv_ldcw C.1 C.2.1 (hown ▸ C.2.2.2.2.2.1) (C.2.2.2.2.2.2.1 _ (List.mem_cons_of_mem _ hc)) hd (k w HB p l e R s m args below meth c mcT msT H locs cells slots ls C hW hS hl h1 h2)

theorem s_ldc2 {own : String} {i : Nat} {v : Int64} (hd : decode q.2.1 pc = .ok (.ldc2_w i, 3)) (hown : q.1.cls = own) (hc : Cond.constantLong own i v ∈ gW) (k : Sem d q mc ms (pc + 3) L (.long v :: st) h r h') : Sem d q mc ms (pc) L (st) h r h' := by
  intro w HB p l e R s m args below meth c mcT msT H locs cells slots ls C hW hS hl h1 h2
  exact lv_ldc2 C.1 C.2.1 (hown ▸ C.2.2.2.2.2.1) (C.2.2.2.2.2.2.1 _ (List.mem_cons_of_mem _ hc)) hd (k w HB p l e R s m args below meth c mcT msT H locs cells slots ls C hW hS hl h1 h2)

theorem s_ldcS {own tx : String} {i j : Nat} (hd : decode q.2.1 pc = .ok (.ldc i, 2)) (hown : q.1.cls = own) (hc : (own, i, tx, j) ∈ strL) (k : Sem d q mc ms (pc + 2) L (.float (310 + UInt32.ofNat j) :: st) h r h') : Sem d q mc ms (pc) L (st) h r h' := by
  intro w HB p l e R s m args below meth c mcT msT H locs cells slots ls C hW hS hl h1 h2
  exact va_ldcS C.1 C.2.1 (hown ▸ C.2.2.2.2.2.1) (tx := tx) (strAt C hc) hd (k w HB p l e R s m args below meth c mcT msT H locs cells slots ls C hW hS hl h1 h2)

theorem at_em {w : WP} {ls : Array Slot} {n j i : Nat} {v : Value} {L : List (Nat × Value)} (hl : lv_has ls n (L.map fun x => (x.1, em w x.2))) (hv : L[j]? = some (i, v)) : ls[i]? = some (.val (em w v)) :=
  lv_at hl j (by rw [List.getElem?_map, hv]; rfl)

theorem s_iload_n {n : Fin 4} {j : Nat} {x : Int32} (hd : decode q.2.1 pc = .ok (.iload_n n, 1)) (hv : L[j]? = some ((n : Nat), .int x)) (k : Sem d q mc ms (pc + 1) L (.int x :: st) h r h') : Sem d q mc ms (pc) L (st) h r h' := by
  intro w HB p l e R s m args below meth c mcT msT H locs cells slots ls C hW hS hl h1 h2
  exact lv_iload_n C.1 C.2.1 hd rfl (at_em hl hv) (k w HB p l e R s m args below meth c mcT msT H locs cells slots ls C hW hS hl h1 h2)

theorem s_iload {i j : Nat} {x : Int32} (hd : decode q.2.1 pc = .ok (.iload i, 2)) (hv : L[j]? = some (i, .int x)) (k : Sem d q mc ms (pc + 2) L (.int x :: st) h r h') : Sem d q mc ms (pc) L (st) h r h' := by
  intro w HB p l e R s m args below meth c mcT msT H locs cells slots ls C hW hS hl h1 h2
  exact lv_iload C.1 C.2.1 hd (at_em hl hv) (k w HB p l e R s m args below meth c mcT msT H locs cells slots ls C hW hS hl h1 h2)

theorem s_lload_n {n : Fin 4} {j : Nat} {x : Int64} (hd : decode q.2.1 pc = .ok (.lload_n n, 1)) (hv : L[j]? = some ((n : Nat), .long x)) (k : Sem d q mc ms (pc + 1) L (.long x :: st) h r h') : Sem d q mc ms (pc) L (st) h r h' := by
  intro w HB p l e R s m args below meth c mcT msT H locs cells slots ls C hW hS hl h1 h2
  exact lv_lload_n C.1 C.2.1 hd rfl (at_em hl hv) (k w HB p l e R s m args below meth c mcT msT H locs cells slots ls C hW hS hl h1 h2)

theorem s_lload {i j : Nat} {x : Int64} (hd : decode q.2.1 pc = .ok (.lload i, 2)) (hv : L[j]? = some (i, .long x)) (k : Sem d q mc ms (pc + 2) L (.long x :: st) h r h') : Sem d q mc ms (pc) L (st) h r h' := by
  intro w HB p l e R s m args below meth c mcT msT H locs cells slots ls C hW hS hl h1 h2
  exact lv_lload C.1 C.2.1 hd (at_em hl hv) (k w HB p l e R s m args below meth c mcT msT H locs cells slots ls C hW hS hl h1 h2)

theorem s_aload_nr {n : Fin 4} {j : Nat} {x : Nat} (hd : decode q.2.1 pc = .ok (.aload_n n, 1)) (hv : L[j]? = some ((n : Nat), .ref x)) (k : Sem d q mc ms (pc + 1) L (.ref x :: st) h r h') : Sem d q mc ms (pc) L (st) h r h' := by
  intro w HB p l e R s m args below meth c mcT msT H locs cells slots ls C hW hS hl h1 h2
  exact lv_aload_n C.1 C.2.1 hd rfl (at_em hl hv) (k w HB p l e R s m args below meth c mcT msT H locs cells slots ls C hW hS hl h1 h2)

theorem s_aloadr {i j : Nat} {x : Nat} (hd : decode q.2.1 pc = .ok (.aload i, 2)) (hv : L[j]? = some (i, .ref x)) (k : Sem d q mc ms (pc + 2) L (.ref x :: st) h r h') : Sem d q mc ms (pc) L (st) h r h' := by
  intro w HB p l e R s m args below meth c mcT msT H locs cells slots ls C hW hS hl h1 h2
  exact lv_aload C.1 C.2.1 hd (at_em hl hv) (k w HB p l e R s m args below meth c mcT msT H locs cells slots ls C hW hS hl h1 h2)

theorem s_aload_ne {n : Fin 4} {j : Nat} {x : UInt32} (hd : decode q.2.1 pc = .ok (.aload_n n, 1)) (hv : L[j]? = some ((n : Nat), .float x)) (k : Sem d q mc ms (pc + 1) L (.float x :: st) h r h') : Sem d q mc ms (pc) L (st) h r h' := by
  intro w HB p l e R s m args below meth c mcT msT H locs cells slots ls C hW hS hl h1 h2
  exact lv_aload_n C.1 C.2.1 hd rfl (at_em hl hv) (k w HB p l e R s m args below meth c mcT msT H locs cells slots ls C hW hS hl h1 h2)

theorem s_aloade {i j : Nat} {x : UInt32} (hd : decode q.2.1 pc = .ok (.aload i, 2)) (hv : L[j]? = some (i, .float x)) (k : Sem d q mc ms (pc + 2) L (.float x :: st) h r h') : Sem d q mc ms (pc) L (st) h r h' := by
  intro w HB p l e R s m args below meth c mcT msT H locs cells slots ls C hW hS hl h1 h2
  exact lv_aload C.1 C.2.1 hd (at_em hl hv) (k w HB p l e R s m args below meth c mcT msT H locs cells slots ls C hW hS hl h1 h2)

theorem s_aload_n0 {n : Fin 4} {j : Nat} (hd : decode q.2.1 pc = .ok (.aload_n n, 1)) (hv : L[j]? = some ((n : Nat), .null)) (k : Sem d q mc ms (pc + 1) L (.null :: st) h r h') : Sem d q mc ms (pc) L (st) h r h' := by
  intro w HB p l e R s m args below meth c mcT msT H locs cells slots ls C hW hS hl h1 h2
  exact lv_aload_nN C.1 C.2.1 hd rfl (at_em hl hv) (k w HB p l e R s m args below meth c mcT msT H locs cells slots ls C hW hS hl h1 h2)

theorem s_aload0 {i j : Nat} (hd : decode q.2.1 pc = .ok (.aload i, 2)) (hv : L[j]? = some (i, .null)) (k : Sem d q mc ms (pc + 2) L (.null :: st) h r h') : Sem d q mc ms (pc) L (st) h r h' := by
  intro w HB p l e R s m args below meth c mcT msT H locs cells slots ls C hW hS hl h1 h2
  exact lv_aloadN C.1 C.2.1 hd (at_em hl hv) (k w HB p l e R s m args below meth c mcT msT H locs cells slots ls C hW hS hl h1 h2)

/-- the locals behind a store of one word, of two -/
def stL (i : Nat) (v : Value) (L : List (Nat × Value)) : List (Nat × Value) := (i, v) :: L.filter (fun q => !(q.1 == i) && !(q.1 + 1 == i && q.2.category == 2))
def stL2 (i : Nat) (v : Value) (L : List (Nat × Value)) : List (Nat × Value) := (i, v) :: L.filter (fun q => !(q.1 == i) && (!(q.1 == i + 1) && !(q.1 + 1 == i && q.2.category == 2)))
theorem stL_em {w : WP} {HB : Heap} {s : State} (hE : KX w HB s) (i : Nat) (v : Value) (L : List (Nat × Value)) : (i, em w v) :: (L.map fun x => (x.1, em w x.2)).filter (fun q => !(q.1 == i) && !(q.1 + 1 == i && q.2.category == 2)) = (stL i v L).map fun x => (x.1, em w x.2) := by
  unfold stL
  rw [List.map_cons, List.filter_map]
  congr 2
  apply List.filter_congr
  intro x _
  simp only [Function.comp, em_cat1 hE]
theorem stL2_em {w : WP} {HB : Heap} {s : State} (hE : KX w HB s) (i : Nat) (v : Value) (L : List (Nat × Value)) : (i, em w v) :: (L.map fun x => (x.1, em w x.2)).filter (fun q => !(q.1 == i) && (!(q.1 == i + 1) && !(q.1 + 1 == i && q.2.category == 2))) = (stL2 i v L).map fun x => (x.1, em w x.2) := by
  unfold stL2
  rw [List.map_cons, List.filter_map]
  congr 2
  apply List.filter_congr
  intro x _
  simp only [Function.comp, em_cat1 hE]

theorem s_istore_n {n : Fin 4} {x : Int32} {L' : List (Nat × Value)} (hd : decode q.2.1 pc = .ok (.istore_n n, 1)) (hn : (n : Nat) < q.2.2.1) (hL : stL (n : Nat) (.int x) L = L') (k : Sem d q mc ms (pc + 1) L' (st) h r h') : Sem d q mc ms (pc) L (.int x :: st) h r h' := by
  intro w HB p l e R s m args below meth c mcT msT H locs cells slots ls C hW hS hl h1 h2
  subst hL
  exact lv_istore_n C.1 C.2.1 hd rfl hl hn (stL_em C.2.2.2.2.2.2.2.2.1 (n : Nat) (.int x) L) (fun ls hl => k w HB p l e R s m args below meth c mcT msT H locs cells slots ls C hW hS hl h1 h2)

theorem s_istore {i : Nat} {x : Int32} {L' : List (Nat × Value)} (hd : decode q.2.1 pc = .ok (.istore i, 2)) (hn : i < q.2.2.1) (hL : stL i (.int x) L = L') (k : Sem d q mc ms (pc + 2) L' (st) h r h') : Sem d q mc ms (pc) L (.int x :: st) h r h' := by
  intro w HB p l e R s m args below meth c mcT msT H locs cells slots ls C hW hS hl h1 h2
  subst hL
  exact lv_istore C.1 C.2.1 hd hl hn (stL_em C.2.2.2.2.2.2.2.2.1 i (.int x) L) (fun ls hl => k w HB p l e R s m args below meth c mcT msT H locs cells slots ls C hW hS hl h1 h2)

theorem s_lstore_n {n : Fin 4} {x : Int64} {L' : List (Nat × Value)} (hd : decode q.2.1 pc = .ok (.lstore_n n, 1)) (hn : (n : Nat) + 1 < q.2.2.1) (hL : stL2 (n : Nat) (.long x) L = L') (k : Sem d q mc ms (pc + 1) L' (st) h r h') : Sem d q mc ms (pc) L (.long x :: st) h r h' := by
  intro w HB p l e R s m args below meth c mcT msT H locs cells slots ls C hW hS hl h1 h2
  subst hL
  exact lv_lstore_n C.1 C.2.1 hd rfl hl hn (stL2_em C.2.2.2.2.2.2.2.2.1 (n : Nat) (.long x) L) (fun ls hl => k w HB p l e R s m args below meth c mcT msT H locs cells slots ls C hW hS hl h1 h2)

theorem s_lstore {i : Nat} {x : Int64} {L' : List (Nat × Value)} (hd : decode q.2.1 pc = .ok (.lstore i, 2)) (hn : i + 1 < q.2.2.1) (hL : stL2 i (.long x) L = L') (k : Sem d q mc ms (pc + 2) L' (st) h r h') : Sem d q mc ms (pc) L (.long x :: st) h r h' := by
  intro w HB p l e R s m args below meth c mcT msT H locs cells slots ls C hW hS hl h1 h2
  subst hL
  exact lv_lstore C.1 C.2.1 hd hl hn (stL2_em C.2.2.2.2.2.2.2.2.1 i (.long x) L) (fun ls hl => k w HB p l e R s m args below meth c mcT msT H locs cells slots ls C hW hS hl h1 h2)

theorem s_astore_nr {n : Fin 4} {x : Nat} {L' : List (Nat × Value)} (hd : decode q.2.1 pc = .ok (.astore_n n, 1)) (hn : (n : Nat) < q.2.2.1) (hL : stL (n : Nat) (.ref x) L = L') (k : Sem d q mc ms (pc + 1) L' (st) h r h') : Sem d q mc ms (pc) L (.ref x :: st) h r h' := by
  intro w HB p l e R s m args below meth c mcT msT H locs cells slots ls C hW hS hl h1 h2
  subst hL
  exact lv_astore_n C.1 C.2.1 hd rfl hl hn (stL_em C.2.2.2.2.2.2.2.2.1 (n : Nat) (.ref x) L) (fun ls hl => k w HB p l e R s m args below meth c mcT msT H locs cells slots ls C hW hS hl h1 h2)

theorem s_astorer {i : Nat} {x : Nat} {L' : List (Nat × Value)} (hd : decode q.2.1 pc = .ok (.astore i, 2)) (hn : i < q.2.2.1) (hL : stL i (.ref x) L = L') (k : Sem d q mc ms (pc + 2) L' (st) h r h') : Sem d q mc ms (pc) L (.ref x :: st) h r h' := by
  intro w HB p l e R s m args below meth c mcT msT H locs cells slots ls C hW hS hl h1 h2
  subst hL
  exact lv_astore C.1 C.2.1 hd hl hn (stL_em C.2.2.2.2.2.2.2.2.1 i (.ref x) L) (fun ls hl => k w HB p l e R s m args below meth c mcT msT H locs cells slots ls C hW hS hl h1 h2)

theorem s_astore_ne {n : Fin 4} {x : UInt32} {L' : List (Nat × Value)} (hd : decode q.2.1 pc = .ok (.astore_n n, 1)) (hn : (n : Nat) < q.2.2.1) (hL : stL (n : Nat) (.float x) L = L') (k : Sem d q mc ms (pc + 1) L' (st) h r h') : Sem d q mc ms (pc) L (.float x :: st) h r h' := by
  intro w HB p l e R s m args below meth c mcT msT H locs cells slots ls C hW hS hl h1 h2
  subst hL
  exact lv_astore_n C.1 C.2.1 hd rfl hl hn (stL_em C.2.2.2.2.2.2.2.2.1 (n : Nat) (.float x) L) (fun ls hl => k w HB p l e R s m args below meth c mcT msT H locs cells slots ls C hW hS hl h1 h2)

theorem s_astoree {i : Nat} {x : UInt32} {L' : List (Nat × Value)} (hd : decode q.2.1 pc = .ok (.astore i, 2)) (hn : i < q.2.2.1) (hL : stL i (.float x) L = L') (k : Sem d q mc ms (pc + 2) L' (st) h r h') : Sem d q mc ms (pc) L (.float x :: st) h r h' := by
  intro w HB p l e R s m args below meth c mcT msT H locs cells slots ls C hW hS hl h1 h2
  subst hL
  exact lv_astore C.1 C.2.1 hd hl hn (stL_em C.2.2.2.2.2.2.2.2.1 i (.float x) L) (fun ls hl => k w HB p l e R s m args below meth c mcT msT H locs cells slots ls C hW hS hl h1 h2)

theorem s_iinc {i j : Nat} {n : Int} {x v : Int32} {L' : List (Nat × Value)} (hd : decode q.2.1 pc = .ok (.iinc i n, 3)) (hk : L[j]? = some (i, .int x)) (hv : x + Int32.ofInt n = v) (hn : i < q.2.2.1) (hL : stL i (.int v) L = L') (k : Sem d q mc ms (pc + 3) L' (st) h r h') : Sem d q mc ms (pc) L (st) h r h' := by
  intro w HB p l e R s m args below meth c mcT msT H locs cells slots ls C hW hS hl h1 h2
  subst hL
  exact lv_iinc C.1 C.2.1 hd hl (k := j) (by rw [List.getElem?_map, hk]; rfl) hv hn (stL_em C.2.2.2.2.2.2.2.2.1 i (.int v) L) (fun ls hl => k w HB p l e R s m args below meth c mcT msT H locs cells slots ls C hW hS hl h1 h2)

theorem s_locals {L' : List (Nat × Value)} (ks : List Nat) (hL : lv_pick L ks = L') (k : Sem d q mc ms (pc) L' (st) h r h') : Sem d q mc ms (pc) L (st) h r h' := by
  intro w HB p l e R s m args below meth c mcT msT H locs cells slots ls C hW hS hl h1 h2
  subst hL
  exact k w HB p l e R s m args below meth c mcT msT H locs cells slots ls C hW hS (lv_sub hl ks (by simp only [lv_pick, List.getElem?_map, List.map_filterMap])) h1 h2

theorem s_iadd {x y : Int32} (hd : decode q.2.1 pc = .ok (.iadd, 1)) (k : Sem d q mc ms (pc + 1) L (.int (x + y) :: st) h r h') : Sem d q mc ms (pc) L (.int y :: .int x :: st) h r h' := by
  intro w HB p l e R s m args below meth c mcT msT H locs cells slots ls C hW hS hl h1 h2
  exact lv_iadd C.1 C.2.1 hd (k w HB p l e R s m args below meth c mcT msT H locs cells slots ls C hW hS hl h1 h2)

theorem s_isub {x y : Int32} (hd : decode q.2.1 pc = .ok (.isub, 1)) (k : Sem d q mc ms (pc + 1) L (.int (x - y) :: st) h r h') : Sem d q mc ms (pc) L (.int y :: .int x :: st) h r h' := by
  intro w HB p l e R s m args below meth c mcT msT H locs cells slots ls C hW hS hl h1 h2
  exact lv_isub C.1 C.2.1 hd (k w HB p l e R s m args below meth c mcT msT H locs cells slots ls C hW hS hl h1 h2)

theorem s_imul {x y : Int32} (hd : decode q.2.1 pc = .ok (.imul, 1)) (k : Sem d q mc ms (pc + 1) L (.int (x * y) :: st) h r h') : Sem d q mc ms (pc) L (.int y :: .int x :: st) h r h' := by
  intro w HB p l e R s m args below meth c mcT msT H locs cells slots ls C hW hS hl h1 h2
  exact lv_imul C.1 C.2.1 hd (k w HB p l e R s m args below meth c mcT msT H locs cells slots ls C hW hS hl h1 h2)

theorem s_iand {x y : Int32} (hd : decode q.2.1 pc = .ok (.iand, 1)) (k : Sem d q mc ms (pc + 1) L (.int (x &&& y) :: st) h r h') : Sem d q mc ms (pc) L (.int y :: .int x :: st) h r h' := by
  intro w HB p l e R s m args below meth c mcT msT H locs cells slots ls C hW hS hl h1 h2
  exact lv_iand C.1 C.2.1 hd (k w HB p l e R s m args below meth c mcT msT H locs cells slots ls C hW hS hl h1 h2)

theorem s_ior {x y : Int32} (hd : decode q.2.1 pc = .ok (.ior, 1)) (k : Sem d q mc ms (pc + 1) L (.int (x ||| y) :: st) h r h') : Sem d q mc ms (pc) L (.int y :: .int x :: st) h r h' := by
  intro w HB p l e R s m args below meth c mcT msT H locs cells slots ls C hW hS hl h1 h2
  exact lv_ior C.1 C.2.1 hd (k w HB p l e R s m args below meth c mcT msT H locs cells slots ls C hW hS hl h1 h2)

theorem s_ixor {x y : Int32} (hd : decode q.2.1 pc = .ok (.ixor, 1)) (k : Sem d q mc ms (pc + 1) L (.int (x ^^^ y) :: st) h r h') : Sem d q mc ms (pc) L (.int y :: .int x :: st) h r h' := by
  intro w HB p l e R s m args below meth c mcT msT H locs cells slots ls C hW hS hl h1 h2
  exact lv_ixor C.1 C.2.1 hd (k w HB p l e R s m args below meth c mcT msT H locs cells slots ls C hW hS hl h1 h2)

theorem s_ishl {x y : Int32} (hd : decode q.2.1 pc = .ok (.ishl, 1)) (k : Sem d q mc ms (pc + 1) L (.int (x <<< (y &&& 31)) :: st) h r h') : Sem d q mc ms (pc) L (.int y :: .int x :: st) h r h' := by
  intro w HB p l e R s m args below meth c mcT msT H locs cells slots ls C hW hS hl h1 h2
  exact lv_ishl C.1 C.2.1 hd (k w HB p l e R s m args below meth c mcT msT H locs cells slots ls C hW hS hl h1 h2)

theorem s_ishr {x y : Int32} (hd : decode q.2.1 pc = .ok (.ishr, 1)) (k : Sem d q mc ms (pc + 1) L (.int (x >>> (y &&& 31)) :: st) h r h') : Sem d q mc ms (pc) L (.int y :: .int x :: st) h r h' := by
  intro w HB p l e R s m args below meth c mcT msT H locs cells slots ls C hW hS hl h1 h2
  exact lv_ishr C.1 C.2.1 hd (k w HB p l e R s m args below meth c mcT msT H locs cells slots ls C hW hS hl h1 h2)

theorem s_idiv {x y : Int32} (hd : decode q.2.1 pc = .ok (.idiv, 1)) (hy : ¬ y = 0) (k : Sem d q mc ms (pc + 1) L (.int (x / y) :: st) h r h') : Sem d q mc ms (pc) L (.int y :: .int x :: st) h r h' := by
  intro w HB p l e R s m args below meth c mcT msT H locs cells slots ls C hW hS hl h1 h2
  exact lv_idiv C.1 C.2.1 hd hy (k w HB p l e R s m args below meth c mcT msT H locs cells slots ls C hW hS hl h1 h2)

theorem s_irem {x y : Int32} (hd : decode q.2.1 pc = .ok (.irem, 1)) (hy : ¬ y = 0) (k : Sem d q mc ms (pc + 1) L (.int (x % y) :: st) h r h') : Sem d q mc ms (pc) L (.int y :: .int x :: st) h r h' := by
  intro w HB p l e R s m args below meth c mcT msT H locs cells slots ls C hW hS hl h1 h2
  refine lv_irem C.1 C.2.1 hd hy ?_
  rw [irem_eq_mod]
  exact (k w HB p l e R s m args below meth c mcT msT H locs cells slots ls C hW hS hl h1 h2)

theorem s_ineg {x : Int32} (hd : decode q.2.1 pc = .ok (.ineg, 1)) (k : Sem d q mc ms (pc + 1) L (.int (-x) :: st) h r h') : Sem d q mc ms (pc) L (.int x :: st) h r h' := by
  intro w HB p l e R s m args below meth c mcT msT H locs cells slots ls C hW hS hl h1 h2
  exact lv_ineg C.1 C.2.1 hd (k w HB p l e R s m args below meth c mcT msT H locs cells slots ls C hW hS hl h1 h2)

theorem s_ladd {x y : Int64} (hd : decode q.2.1 pc = .ok (.ladd, 1)) (k : Sem d q mc ms (pc + 1) L (.long (x + y) :: st) h r h') : Sem d q mc ms (pc) L (.long y :: .long x :: st) h r h' := by
  intro w HB p l e R s m args below meth c mcT msT H locs cells slots ls C hW hS hl h1 h2
  exact lv_ladd C.1 C.2.1 hd (k w HB p l e R s m args below meth c mcT msT H locs cells slots ls C hW hS hl h1 h2)

theorem s_lsub {x y : Int64} (hd : decode q.2.1 pc = .ok (.lsub, 1)) (k : Sem d q mc ms (pc + 1) L (.long (x - y) :: st) h r h') : Sem d q mc ms (pc) L (.long y :: .long x :: st) h r h' := by
  intro w HB p l e R s m args below meth c mcT msT H locs cells slots ls C hW hS hl h1 h2
  exact lv_lsub C.1 C.2.1 hd (k w HB p l e R s m args below meth c mcT msT H locs cells slots ls C hW hS hl h1 h2)

theorem s_lmul {x y : Int64} (hd : decode q.2.1 pc = .ok (.lmul, 1)) (k : Sem d q mc ms (pc + 1) L (.long (x * y) :: st) h r h') : Sem d q mc ms (pc) L (.long y :: .long x :: st) h r h' := by
  intro w HB p l e R s m args below meth c mcT msT H locs cells slots ls C hW hS hl h1 h2
  exact lv_lmul C.1 C.2.1 hd (k w HB p l e R s m args below meth c mcT msT H locs cells slots ls C hW hS hl h1 h2)

theorem s_land {x y : Int64} (hd : decode q.2.1 pc = .ok (.land, 1)) (k : Sem d q mc ms (pc + 1) L (.long (x &&& y) :: st) h r h') : Sem d q mc ms (pc) L (.long y :: .long x :: st) h r h' := by
  intro w HB p l e R s m args below meth c mcT msT H locs cells slots ls C hW hS hl h1 h2
  exact lv_land C.1 C.2.1 hd (k w HB p l e R s m args below meth c mcT msT H locs cells slots ls C hW hS hl h1 h2)

theorem s_lor {x y : Int64} (hd : decode q.2.1 pc = .ok (.lor, 1)) (k : Sem d q mc ms (pc + 1) L (.long (x ||| y) :: st) h r h') : Sem d q mc ms (pc) L (.long y :: .long x :: st) h r h' := by
  intro w HB p l e R s m args below meth c mcT msT H locs cells slots ls C hW hS hl h1 h2
  exact lv_lor C.1 C.2.1 hd (k w HB p l e R s m args below meth c mcT msT H locs cells slots ls C hW hS hl h1 h2)

theorem s_ldiv {x y : Int64} (hd : decode q.2.1 pc = .ok (.ldiv, 1)) (hy : ¬ y = 0) (k : Sem d q mc ms (pc + 1) L (.long (x / y) :: st) h r h') : Sem d q mc ms (pc) L (.long y :: .long x :: st) h r h' := by
  intro w HB p l e R s m args below meth c mcT msT H locs cells slots ls C hW hS hl h1 h2
  exact lv_ldiv C.1 C.2.1 hd hy (k w HB p l e R s m args below meth c mcT msT H locs cells slots ls C hW hS hl h1 h2)

theorem s_lrem {x y : Int64} (hd : decode q.2.1 pc = .ok (.lrem, 1)) (hy : ¬ y = 0) (k : Sem d q mc ms (pc + 1) L (.long (x - x / y * y) :: st) h r h') : Sem d q mc ms (pc) L (.long y :: .long x :: st) h r h' := by
  intro w HB p l e R s m args below meth c mcT msT H locs cells slots ls C hW hS hl h1 h2
  exact lv_lrem C.1 C.2.1 hd hy (k w HB p l e R s m args below meth c mcT msT H locs cells slots ls C hW hS hl h1 h2)

theorem s_lshl {x : Int64} {y : Int32} (hd : decode q.2.1 pc = .ok (.lshl, 1)) (k : Sem d q mc ms (pc + 1) L (.long (x <<< (y.toInt64 &&& 63)) :: st) h r h') : Sem d q mc ms (pc) L (.int y :: .long x :: st) h r h' := by
  intro w HB p l e R s m args below meth c mcT msT H locs cells slots ls C hW hS hl h1 h2
  exact lv_lshl C.1 C.2.1 hd rfl (k w HB p l e R s m args below meth c mcT msT H locs cells slots ls C hW hS hl h1 h2)

theorem s_i2l {x : Int32} (hd : decode q.2.1 pc = .ok (.i2l, 1)) (k : Sem d q mc ms (pc + 1) L (.long x.toInt64 :: st) h r h') : Sem d q mc ms (pc) L (.int x :: st) h r h' := by
  intro w HB p l e R s m args below meth c mcT msT H locs cells slots ls C hW hS hl h1 h2
  exact lv_i2l C.1 C.2.1 hd rfl (k w HB p l e R s m args below meth c mcT msT H locs cells slots ls C hW hS hl h1 h2)

theorem s_l2i {x : Int64} (hd : decode q.2.1 pc = .ok (.l2i, 1)) (k : Sem d q mc ms (pc + 1) L (.int x.toInt32 :: st) h r h') : Sem d q mc ms (pc) L (.long x :: st) h r h' := by
  intro w HB p l e R s m args below meth c mcT msT H locs cells slots ls C hW hS hl h1 h2
  exact lv_l2i C.1 C.2.1 hd rfl (k w HB p l e R s m args below meth c mcT msT H locs cells slots ls C hW hS hl h1 h2)

theorem s_i2b {x : Int32} (hd : decode q.2.1 pc = .ok (.i2b, 1)) (k : Sem d q mc ms (pc + 1) L (.int x.toInt8.toInt32 :: st) h r h') : Sem d q mc ms (pc) L (.int x :: st) h r h' := by
  intro w HB p l e R s m args below meth c mcT msT H locs cells slots ls C hW hS hl h1 h2
  exact lv_i2b C.1 C.2.1 hd rfl (k w HB p l e R s m args below meth c mcT msT H locs cells slots ls C hW hS hl h1 h2)

theorem s_i2s {x : Int32} (hd : decode q.2.1 pc = .ok (.i2s, 1)) (k : Sem d q mc ms (pc + 1) L (.int x.toInt16.toInt32 :: st) h r h') : Sem d q mc ms (pc) L (.int x :: st) h r h' := by
  intro w HB p l e R s m args below meth c mcT msT H locs cells slots ls C hW hS hl h1 h2
  exact lv_i2s C.1 C.2.1 hd rfl (k w HB p l e R s m args below meth c mcT msT H locs cells slots ls C hW hS hl h1 h2)

theorem s_i2c {x : Int32} (hd : decode q.2.1 pc = .ok (.i2c, 1)) (k : Sem d q mc ms (pc + 1) L (.int (x.toUInt32 % 65536).toInt32 :: st) h r h') : Sem d q mc ms (pc) L (.int x :: st) h r h' := by
  intro w HB p l e R s m args below meth c mcT msT H locs cells slots ls C hW hS hl h1 h2
  exact lv_i2c C.1 C.2.1 hd rfl (k w HB p l e R s m args below meth c mcT msT H locs cells slots ls C hW hS hl h1 h2)

theorem s_lcmp {x y : Int64} (hd : decode q.2.1 pc = .ok (.lcmp, 1)) (k : Sem d q mc ms (pc + 1) L (.int (lg_cmp x y) :: st) h r h') : Sem d q mc ms (pc) L (.long y :: .long x :: st) h r h' := by
  intro w HB p l e R s m args below meth c mcT msT H locs cells slots ls C hW hS hl h1 h2
  exact W.lcmp C.1 C.2.1 hd (k w HB p l e R s m args below meth c mcT msT H locs cells slots ls C hW hS hl h1 h2)

theorem s_dup {v : Value} (hd : decode q.2.1 pc = .ok (.dup, 1)) (hv : v.category = 1) (k : Sem d q mc ms (pc + 1) L (v :: v :: st) h r h') : Sem d q mc ms (pc) L (v :: st) h r h' := by
  intro w HB p l e R s m args below meth c mcT msT H locs cells slots ls C hW hS hl h1 h2
  exact lv_dup C.1 C.2.1 hd ((em_cat1 C.2.2.2.2.2.2.2.2.1 v).trans hv) (k w HB p l e R s m args below meth c mcT msT H locs cells slots ls C hW hS hl h1 h2)

theorem s_pop {v : Value} (hd : decode q.2.1 pc = .ok (.pop, 1)) (hv : v.category = 1) (k : Sem d q mc ms (pc + 1) L (st) h r h') : Sem d q mc ms (pc) L (v :: st) h r h' := by
  intro w HB p l e R s m args below meth c mcT msT H locs cells slots ls C hW hS hl h1 h2
  exact lv_pop C.1 C.2.1 hd ((em_cat1 C.2.2.2.2.2.2.2.2.1 v).trans hv) (k w HB p l e R s m args below meth c mcT msT H locs cells slots ls C hW hS hl h1 h2)

theorem s_dup_x1 {v u : Value} (hd : decode q.2.1 pc = .ok (.dup_x1, 1)) (hv : v.category = 1) (hu : u.category = 1) (k : Sem d q mc ms (pc + 1) L (v :: u :: v :: st) h r h') : Sem d q mc ms (pc) L (v :: u :: st) h r h' := by
  intro w HB p l e R s m args below meth c mcT msT H locs cells slots ls C hW hS hl h1 h2
  exact lv_dup_x1 C.1 C.2.1 hd ((em_cat1 C.2.2.2.2.2.2.2.2.1 v).trans hv) ((em_cat1 C.2.2.2.2.2.2.2.2.1 u).trans hu) (k w HB p l e R s m args below meth c mcT msT H locs cells slots ls C hW hS hl h1 h2)

theorem s_dup2 {v u : Value} (hd : decode q.2.1 pc = .ok (.dup2, 1)) (hv : v.category = 1) (hu : u.category = 1) (k : Sem d q mc ms (pc + 1) L (v :: u :: v :: u :: st) h r h') : Sem d q mc ms (pc) L (v :: u :: st) h r h' := by
  intro w HB p l e R s m args below meth c mcT msT H locs cells slots ls C hW hS hl h1 h2
  exact lv_dup2_11 C.1 C.2.1 hd ((em_cat1 C.2.2.2.2.2.2.2.2.1 v).trans hv) ((em_cat1 C.2.2.2.2.2.2.2.2.1 u).trans hu) (k w HB p l e R s m args below meth c mcT msT H locs cells slots ls C hW hS hl h1 h2)

theorem s_if_eq {x : Int32} {off : Int} {tgt : Nat} (hd : decode q.2.1 pc = .ok (.ifCond .eq off, 3)) (ht : (pc : Int) + off = (tgt : Int)) (kt : x = 0 → Sem d q mc ms (tgt) L (st) h r h') (kf : ¬ x = 0 → Sem d q mc ms (pc + 3) L (st) h r h') : Sem d q mc ms (pc) L (.int x :: st) h r h' := by
  intro w HB p l e R s m args below meth c mcT msT H locs cells slots ls C hW hS hl h1 h2
  exact lv_if_eq C.1 C.2.1 hd ht (fun cc => kt cc w HB p l e R s m args below meth c mcT msT H locs cells slots ls C hW hS hl h1 h2) (fun cc => kf cc w HB p l e R s m args below meth c mcT msT H locs cells slots ls C hW hS hl h1 h2)

theorem s_icmp_eq {x y : Int32} {off : Int} {tgt : Nat} (hd : decode q.2.1 pc = .ok (.if_icmp .eq off, 3)) (ht : (pc : Int) + off = (tgt : Int)) (kt : x = y → Sem d q mc ms (tgt) L (st) h r h') (kf : ¬ x = y → Sem d q mc ms (pc + 3) L (st) h r h') : Sem d q mc ms (pc) L (.int y :: .int x :: st) h r h' := by
  intro w HB p l e R s m args below meth c mcT msT H locs cells slots ls C hW hS hl h1 h2
  exact lv_icmp_eq C.1 C.2.1 hd ht (fun cc => kt cc w HB p l e R s m args below meth c mcT msT H locs cells slots ls C hW hS hl h1 h2) (fun cc => kf cc w HB p l e R s m args below meth c mcT msT H locs cells slots ls C hW hS hl h1 h2)

theorem s_if_ne {x : Int32} {off : Int} {tgt : Nat} (hd : decode q.2.1 pc = .ok (.ifCond .ne off, 3)) (ht : (pc : Int) + off = (tgt : Int)) (kt : ¬ x = 0 → Sem d q mc ms (tgt) L (st) h r h') (kf : x = 0 → Sem d q mc ms (pc + 3) L (st) h r h') : Sem d q mc ms (pc) L (.int x :: st) h r h' := by
  intro w HB p l e R s m args below meth c mcT msT H locs cells slots ls C hW hS hl h1 h2
  exact lv_if_ne C.1 C.2.1 hd ht (fun cc => kt cc w HB p l e R s m args below meth c mcT msT H locs cells slots ls C hW hS hl h1 h2) (fun cc => kf cc w HB p l e R s m args below meth c mcT msT H locs cells slots ls C hW hS hl h1 h2)

theorem s_icmp_ne {x y : Int32} {off : Int} {tgt : Nat} (hd : decode q.2.1 pc = .ok (.if_icmp .ne off, 3)) (ht : (pc : Int) + off = (tgt : Int)) (kt : ¬ x = y → Sem d q mc ms (tgt) L (st) h r h') (kf : x = y → Sem d q mc ms (pc + 3) L (st) h r h') : Sem d q mc ms (pc) L (.int y :: .int x :: st) h r h' := by
  intro w HB p l e R s m args below meth c mcT msT H locs cells slots ls C hW hS hl h1 h2
  exact lv_icmp_ne C.1 C.2.1 hd ht (fun cc => kt cc w HB p l e R s m args below meth c mcT msT H locs cells slots ls C hW hS hl h1 h2) (fun cc => kf cc w HB p l e R s m args below meth c mcT msT H locs cells slots ls C hW hS hl h1 h2)

theorem s_if_lt {x : Int32} {off : Int} {tgt : Nat} (hd : decode q.2.1 pc = .ok (.ifCond .lt off, 3)) (ht : (pc : Int) + off = (tgt : Int)) (kt : x < 0 → Sem d q mc ms (tgt) L (st) h r h') (kf : ¬ x < 0 → Sem d q mc ms (pc + 3) L (st) h r h') : Sem d q mc ms (pc) L (.int x :: st) h r h' := by
  intro w HB p l e R s m args below meth c mcT msT H locs cells slots ls C hW hS hl h1 h2
  exact lv_if_lt C.1 C.2.1 hd ht (fun cc => kt cc w HB p l e R s m args below meth c mcT msT H locs cells slots ls C hW hS hl h1 h2) (fun cc => kf cc w HB p l e R s m args below meth c mcT msT H locs cells slots ls C hW hS hl h1 h2)

theorem s_icmp_lt {x y : Int32} {off : Int} {tgt : Nat} (hd : decode q.2.1 pc = .ok (.if_icmp .lt off, 3)) (ht : (pc : Int) + off = (tgt : Int)) (kt : x < y → Sem d q mc ms (tgt) L (st) h r h') (kf : ¬ x < y → Sem d q mc ms (pc + 3) L (st) h r h') : Sem d q mc ms (pc) L (.int y :: .int x :: st) h r h' := by
  intro w HB p l e R s m args below meth c mcT msT H locs cells slots ls C hW hS hl h1 h2
  exact lv_icmp_lt C.1 C.2.1 hd ht (fun cc => kt cc w HB p l e R s m args below meth c mcT msT H locs cells slots ls C hW hS hl h1 h2) (fun cc => kf cc w HB p l e R s m args below meth c mcT msT H locs cells slots ls C hW hS hl h1 h2)

theorem s_if_ge {x : Int32} {off : Int} {tgt : Nat} (hd : decode q.2.1 pc = .ok (.ifCond .ge off, 3)) (ht : (pc : Int) + off = (tgt : Int)) (kt : 0 ≤ x → Sem d q mc ms (tgt) L (st) h r h') (kf : ¬ 0 ≤ x → Sem d q mc ms (pc + 3) L (st) h r h') : Sem d q mc ms (pc) L (.int x :: st) h r h' := by
  intro w HB p l e R s m args below meth c mcT msT H locs cells slots ls C hW hS hl h1 h2
  exact lv_if_ge C.1 C.2.1 hd ht (fun cc => kt cc w HB p l e R s m args below meth c mcT msT H locs cells slots ls C hW hS hl h1 h2) (fun cc => kf cc w HB p l e R s m args below meth c mcT msT H locs cells slots ls C hW hS hl h1 h2)

theorem s_icmp_ge {x y : Int32} {off : Int} {tgt : Nat} (hd : decode q.2.1 pc = .ok (.if_icmp .ge off, 3)) (ht : (pc : Int) + off = (tgt : Int)) (kt : y ≤ x → Sem d q mc ms (tgt) L (st) h r h') (kf : ¬ y ≤ x → Sem d q mc ms (pc + 3) L (st) h r h') : Sem d q mc ms (pc) L (.int y :: .int x :: st) h r h' := by
  intro w HB p l e R s m args below meth c mcT msT H locs cells slots ls C hW hS hl h1 h2
  exact lv_icmp_ge C.1 C.2.1 hd ht (fun cc => kt cc w HB p l e R s m args below meth c mcT msT H locs cells slots ls C hW hS hl h1 h2) (fun cc => kf cc w HB p l e R s m args below meth c mcT msT H locs cells slots ls C hW hS hl h1 h2)

theorem s_if_gt {x : Int32} {off : Int} {tgt : Nat} (hd : decode q.2.1 pc = .ok (.ifCond .gt off, 3)) (ht : (pc : Int) + off = (tgt : Int)) (kt : 0 < x → Sem d q mc ms (tgt) L (st) h r h') (kf : ¬ 0 < x → Sem d q mc ms (pc + 3) L (st) h r h') : Sem d q mc ms (pc) L (.int x :: st) h r h' := by
  intro w HB p l e R s m args below meth c mcT msT H locs cells slots ls C hW hS hl h1 h2
  exact lv_if_gt C.1 C.2.1 hd ht (fun cc => kt cc w HB p l e R s m args below meth c mcT msT H locs cells slots ls C hW hS hl h1 h2) (fun cc => kf cc w HB p l e R s m args below meth c mcT msT H locs cells slots ls C hW hS hl h1 h2)

theorem s_icmp_gt {x y : Int32} {off : Int} {tgt : Nat} (hd : decode q.2.1 pc = .ok (.if_icmp .gt off, 3)) (ht : (pc : Int) + off = (tgt : Int)) (kt : y < x → Sem d q mc ms (tgt) L (st) h r h') (kf : ¬ y < x → Sem d q mc ms (pc + 3) L (st) h r h') : Sem d q mc ms (pc) L (.int y :: .int x :: st) h r h' := by
  intro w HB p l e R s m args below meth c mcT msT H locs cells slots ls C hW hS hl h1 h2
  exact lv_icmp_gt C.1 C.2.1 hd ht (fun cc => kt cc w HB p l e R s m args below meth c mcT msT H locs cells slots ls C hW hS hl h1 h2) (fun cc => kf cc w HB p l e R s m args below meth c mcT msT H locs cells slots ls C hW hS hl h1 h2)

theorem s_if_le {x : Int32} {off : Int} {tgt : Nat} (hd : decode q.2.1 pc = .ok (.ifCond .le off, 3)) (ht : (pc : Int) + off = (tgt : Int)) (kt : x ≤ 0 → Sem d q mc ms (tgt) L (st) h r h') (kf : ¬ x ≤ 0 → Sem d q mc ms (pc + 3) L (st) h r h') : Sem d q mc ms (pc) L (.int x :: st) h r h' := by
  intro w HB p l e R s m args below meth c mcT msT H locs cells slots ls C hW hS hl h1 h2
  exact lv_if_le C.1 C.2.1 hd ht (fun cc => kt cc w HB p l e R s m args below meth c mcT msT H locs cells slots ls C hW hS hl h1 h2) (fun cc => kf cc w HB p l e R s m args below meth c mcT msT H locs cells slots ls C hW hS hl h1 h2)

theorem s_icmp_le {x y : Int32} {off : Int} {tgt : Nat} (hd : decode q.2.1 pc = .ok (.if_icmp .le off, 3)) (ht : (pc : Int) + off = (tgt : Int)) (kt : x ≤ y → Sem d q mc ms (tgt) L (st) h r h') (kf : ¬ x ≤ y → Sem d q mc ms (pc + 3) L (st) h r h') : Sem d q mc ms (pc) L (.int y :: .int x :: st) h r h' := by
  intro w HB p l e R s m args below meth c mcT msT H locs cells slots ls C hW hS hl h1 h2
  exact lv_icmp_le C.1 C.2.1 hd ht (fun cc => kt cc w HB p l e R s m args below meth c mcT msT H locs cells slots ls C hW hS hl h1 h2) (fun cc => kf cc w HB p l e R s m args below meth c mcT msT H locs cells slots ls C hW hS hl h1 h2)

theorem s_goto {off : Int} {tgt : Nat} (hd : decode q.2.1 pc = .ok (.goto off, 3)) (ht : (pc : Int) + off = (tgt : Int)) (k : Sem d q mc ms (tgt) L (st) h r h') : Sem d q mc ms (pc) L (st) h r h' := by
  intro w HB p l e R s m args below meth c mcT msT H locs cells slots ls C hW hS hl h1 h2
  exact lv_goto C.1 C.2.1 hd ht (k w HB p l e R s m args below meth c mcT msT H locs cells slots ls C hW hS hl h1 h2)

theorem s_ifnonnullr {x : Nat} {off : Int} {tgt : Nat} (hd : decode q.2.1 pc = .ok (.ifnonnull off, 3)) (ht : (pc : Int) + off = (tgt : Int)) (k : Sem d q mc ms (tgt) L (st) h r h') : Sem d q mc ms (pc) L (.ref x :: st) h r h' := by
  intro w HB p l e R s m args below meth c mcT msT H locs cells slots ls C hW hS hl h1 h2
  exact lv_ifnonnull C.1 C.2.1 hd ht (k w HB p l e R s m args below meth c mcT msT H locs cells slots ls C hW hS hl h1 h2)

theorem s_ifnullr {x : Nat} {off : Int} (hd : decode q.2.1 pc = .ok (.ifnull off, 3)) (k : Sem d q mc ms (pc + 3) L (st) h r h') : Sem d q mc ms (pc) L (.ref x :: st) h r h' := by
  intro w HB p l e R s m args below meth c mcT msT H locs cells slots ls C hW hS hl h1 h2
  exact lv_ifnull C.1 C.2.1 hd (k w HB p l e R s m args below meth c mcT msT H locs cells slots ls C hW hS hl h1 h2)

theorem s_ifnonnulle {x : UInt32} {off : Int} {tgt : Nat} (hd : decode q.2.1 pc = .ok (.ifnonnull off, 3)) (ht : (pc : Int) + off = (tgt : Int)) (k : Sem d q mc ms (tgt) L (st) h r h') : Sem d q mc ms (pc) L (.float x :: st) h r h' := by
  intro w HB p l e R s m args below meth c mcT msT H locs cells slots ls C hW hS hl h1 h2
  exact lv_ifnonnull C.1 C.2.1 hd ht (k w HB p l e R s m args below meth c mcT msT H locs cells slots ls C hW hS hl h1 h2)

theorem s_ifnulle {x : UInt32} {off : Int} (hd : decode q.2.1 pc = .ok (.ifnull off, 3)) (k : Sem d q mc ms (pc + 3) L (st) h r h') : Sem d q mc ms (pc) L (.float x :: st) h r h' := by
  intro w HB p l e R s m args below meth c mcT msT H locs cells slots ls C hW hS hl h1 h2
  exact lv_ifnull C.1 C.2.1 hd (k w HB p l e R s m args below meth c mcT msT H locs cells slots ls C hW hS hl h1 h2)

theorem s_ifnonnull0 {off : Int} (hd : decode q.2.1 pc = .ok (.ifnonnull off, 3)) (k : Sem d q mc ms (pc + 3) L (st) h r h') : Sem d q mc ms (pc) L (.null :: st) h r h' := by
  intro w HB p l e R s m args below meth c mcT msT H locs cells slots ls C hW hS hl h1 h2
  exact lv_ifnonnullN C.1 C.2.1 hd (k w HB p l e R s m args below meth c mcT msT H locs cells slots ls C hW hS hl h1 h2)

theorem s_ifnull0 {off : Int} {tgt : Nat} (hd : decode q.2.1 pc = .ok (.ifnull off, 3)) (ht : (pc : Int) + off = (tgt : Int)) (k : Sem d q mc ms (tgt) L (st) h r h') : Sem d q mc ms (pc) L (.null :: st) h r h' := by
  intro w HB p l e R s m args below meth c mcT msT H locs cells slots ls C hW hS hl h1 h2
  exact lv_ifnullN C.1 C.2.1 hd ht (k w HB p l e R s m args below meth c mcT msT H locs cells slots ls C hW hS hl h1 h2)

theorem s_tswOut {dflt lo hi : Int} {offs : Array Int} {len : Nat} {x : Int32} {tgt : Nat} (hd : decode q.2.1 pc = .ok (.tableswitch dflt lo hi offs, len)) (hx : x.toInt < lo ∨ hi < x.toInt) (ht : (pc : Int) + dflt = (tgt : Int)) (k : Sem d q mc ms (tgt) L (st) h r h') : Sem d q mc ms (pc) L (.int x :: st) h r h' := by
  intro w HB p l e R s m args below meth c mcT msT H locs cells slots ls C hW hS hl h1 h2
  exact lv_tableOut C.1 C.2.1 hd hx ht (k w HB p l e R s m args below meth c mcT msT H locs cells slots ls C hW hS hl h1 h2)

theorem s_tswIn {dflt lo hi : Int} {offs : Array Int} {len : Nat} {x : Int32} {off : Int} {tgt : Nat} (hd : decode q.2.1 pc = .ok (.tableswitch dflt lo hi offs, len)) (hx1 : ¬ x.toInt < lo) (hx2 : ¬ hi < x.toInt) (ho : offs[(x.toInt - lo).toNat]? = some off) (ht : (pc : Int) + off = (tgt : Int)) (k : Sem d q mc ms (tgt) L (st) h r h') : Sem d q mc ms (pc) L (.int x :: st) h r h' := by
  intro w HB p l e R s m args below meth c mcT msT H locs cells slots ls C hW hS hl h1 h2
  exact lv_tableIn C.1 C.2.1 hd hx1 hx2 ho ht (k w HB p l e R s m args below meth c mcT msT H locs cells slots ls C hW hS hl h1 h2)

theorem s_lsw {dflt : Int} {ps : Array (Int × Int)} {len : Nat} {x : Int32} {off : Int} {tgt : Nat} (hd : decode q.2.1 pc = .ok (.lookupswitch dflt ps, len)) (hp : (ps.toList.zip (ps.toList.drop 1)).all (fun (a, next) => a.1 < next.1) = true) (ho : Op.lookupswitch.offset ps.toList dflt x.toInt = off) (ht : (pc : Int) + off = (tgt : Int)) (k : Sem d q mc ms (tgt) L (st) h r h') : Sem d q mc ms (pc) L (.int x :: st) h r h' := by
  intro w HB p l e R s m args below meth c mcT msT H locs cells slots ls C hW hS hl h1 h2
  exact lv_lookup C.1 C.2.1 hd hp ho ht (k w HB p l e R s m args below meth c mcT msT H locs cells slots ls C hW hS hl h1 h2)

theorem s_iret {x : Int32} (hd : decode q.2.1 pc = .ok (.ireturn, 1)) (hr : q.2.2.2 = some .int) : Sem d q mc ms pc L (.int x :: []) h (some (.int x)) h := by
  intro w HB p l e R s m args below meth c mcT msT H locs cells slots ls C hW hS hl h1 h2
  refine W.widen (k := mcT) (n := msT) (by omega) (by omega) ?_
  exact W.iret C.1 C.2.1 (C.2.2.2.1.trans hr) (fun t ht hW2 => ⟨rfl, by rw [ht]; exact hW, hS.F ht⟩) hS.2.2 hd C.2.2.2.2.2.2.2.1

theorem s_lret {x : Int64} (hd : decode q.2.1 pc = .ok (.lreturn, 1)) (hr : q.2.2.2 = some .long) : Sem d q mc ms pc L (.long x :: []) h (some (.long x)) h := by
  intro w HB p l e R s m args below meth c mcT msT H locs cells slots ls C hW hS hl h1 h2
  refine W.widen (k := mcT) (n := msT) (by omega) (by omega) ?_
  exact W.lret C.1 C.2.1 (C.2.2.2.1.trans hr) (fun t ht hW2 => ⟨rfl, by rw [ht]; exact hW, hS.F ht⟩) hS.2.2 hd C.2.2.2.2.2.2.2.1

theorem s_zret {x : Int32} {ty : FieldType} (hd : decode q.2.1 pc = .ok (.ireturn, 1)) (hz : narrow ty (.int x) = .int x) (hr : q.2.2.2 = some ty) : Sem d q mc ms pc L (.int x :: []) h (some (.int x)) h := by
  intro w HB p l e R s m args below meth c mcT msT H locs cells slots ls C hW hS hl h1 h2
  refine W.widen (k := mcT) (n := msT) (by omega) (by omega) ?_
  exact W.zret C.1 C.2.1 (C.2.2.2.1.trans hr) hz (fun t ht hW2 => ⟨rfl, by rw [ht]; exact hW, hS.F ht⟩) hS.2.2 hd C.2.2.2.2.2.2.2.1

theorem s_vret (hd : decode q.2.1 pc = .ok (.return_, 1)) (hr : q.2.2.2 = none) : Sem d q mc ms pc L ([]) h (none) h := by
  intro w HB p l e R s m args below meth c mcT msT H locs cells slots ls C hW hS hl h1 h2
  refine W.widen (k := mcT) (n := msT) (by omega) (by omega) ?_
  exact W.vret C.1 C.2.1 (C.2.2.2.1.trans hr) (fun t ht hW2 => ⟨rfl, by rw [ht]; exact hW, hS.F ht⟩) hS.2.2 hd C.2.2.2.2.2.2.2.1

end Rules1
end
section
section Rules2
variable {d mc ms pc : Nat} {q : QM} {L : List (Nat × Value)} {st : List Value} {h h' : HP} {r : Option Value}
/-- a field: the k-th of class ci; constant idx of class own names it -/
def FL (own : String) (idx ci k : Nat) (Cn : String) (T : u_T) (N : Nat) : Prop :=
  vwCl[ci]? = some (Cn, T, N) ∧ k < N ∧ (∀ x ∈ u_ws Cn T N, x ∈ gW) ∧ ∃ ref, Cond.fieldLink own idx ref (T k).2.1 (T k).2.2.1 ∈ gW ∧ (ref = (T k).1 ∨ Cond.sameField ref (T k).1 (T k).2.1 (T k).2.2.1 ∈ gW)
theorem hts_of {w : WP} {HB : Heap} {p : Program} {R : Room} {s : State} {m : MethodId} {args : Array Value} {meth : Method} {c : Code} {mcT msT : Nat} (C : SCt w HB d q p R s m args meth c mcT msT) {x : Cond} (hx : x ∈ gW) : x.before args s = true := C.2.2.2.2.2.2.1 _ (List.mem_cons_of_mem _ hx)
theorem KX_of {w : WP} {HB : Heap} {p : Program} {R : Room} {s : State} {m : MethodId} {args : Array Value} {meth : Method} {c : Code} {mcT msT : Nat} (C : SCt w HB d q p R s m args meth c mcT msT) : KX w HB s := C.2.2.2.2.2.2.2.2.1
theorem own_of {w : WP} {HB : Heap} {p : Program} {R : Room} {s : State} {m : MethodId} {args : Array Value} {meth : Method} {c : Code} {mcT msT : Nat} {own : String} (C : SCt w HB d q p R s m args meth c mcT msT) (hown : q.1.cls = own) : s.vm.findClass own = some m.cls := hown ▸ C.2.2.2.2.2.1
theorem low_of {w : WP} {HB : Heap} {p : Program} {R : Room} {s : State} {m : MethodId} {args : Array Value} {meth : Method} {c : Code} {mcT msT : Nat} {H : Heap} {locs : List Loc} (C : SCt w HB d q p R s m args meth c mcT msT) (hS : va_S (w.1 ≤ ·) s.heap H locs) : ∀ a : Nat, a < w.1 → H[a]? = HB[a]? := fun a ha => by
  have hl := C.2.2.2.2.2.2.2.2.2.1
  rw [hS.2.1 a (Nat.lt_of_lt_of_le ha hl.1) (Nat.not_le.mpr ha)]
  exact hl.2 a ha
theorem s_get {own Cn : String} {T : u_T} {N idx ci k i : Nat} {fs : List Value} {v : Value} (F : FL own idx ci k Cn T N) (hown : q.1.cls = own) (hd : decode q.2.1 pc = .ok (.getfield idx, 3)) (hc : h[i]? = some (.inr (ci, fs))) (hv : fs[k]? = some v) (kk : Sem d q mc ms (pc + 3) L (v :: st) h r h') : Sem d q mc ms pc L (.ref i :: st) h r h' := by
  intro w HB p l e R s m args below meth c mcT msT H locs cells slots ls C hW hS hl h1 h2
  obtain ⟨hcl, hk, hin, ref, hlink, hsame⟩ := F
  obtain ⟨r0, hr0, cell, q1, q2, q3, q4⟩ := hW.2 i _ hc
  cases hcl.symm.trans hr0
  obtain ⟨hSl, hfc, kC, hkC, hkind⟩ := (KX_of C).1.1 ci _ hcl
  obtain ⟨cf, kf, fi, f, hi, hsl⟩ := hSl k hk
  have hsame' : s.fieldFound? ref (T k).2.1 (T k).2.2.1 = some (cf, kf, fi, f) := by
    rcases hsame with rfl | hs
    · exact hi
    · exact u_same (hts_of C hs) _ hi
  refine W.getf C.1 C.2.1 (own_of C hown) (hts_of C hlink) hsame' (u_facts hfc hkC (u_lays (ws := gW) (fun x hx => hts_of C hx) hin hk) hi).1 q1 (by rw [q3]; exact fun h => by cases h) (v := em w v) ?_ rfl rfl hd (kk w HB p l e R s m args below meth c mcT msT H locs cells slots ls C hW hS hl h1 h2)
  rw [hsl, q4 k hk]
  simp [vp_V, hv]
theorem vp_V_em (w : WP) {fs : List Value} {k : Nat} (hk : k < fs.length) (v : Value) (j : Nat) : updV (vp_V (fs.map (em w))) k (em w v) j = vp_V ((fs.set k v).map (em w)) j := by
  rw [List.map_set]
  exact vp_updV_set (by rw [List.length_map]; exact hk) _ j
theorem s_put {own Cn : String} {T : u_T} {N idx ci k i : Nat} {fs : List Value} {v : Value} (F : FL own idx ci k Cn T N) (ty0 : Nat → FieldType) (hty : ∀ k, k < N → parseFieldDescriptor (T k).2.2.1 = some (ty0 k)) (hnm : ∀ a, a < N → ∀ b, b < N → a ≠ b → (T a).2.1 ≠ (T b).2.1) (hown : q.1.cls = own) (hfin : (T k).2.2.2 = false ∨ ((T k).2.2.2 = true ∧ q.1.name = "<init>" ∧ (T k).1 = own)) (hnf : ∀ w : WP, narrow (ty0 k) (em w v) = em w v ∧ fits (ty0 k) (em w v) = true) (hd : decode q.2.1 pc = .ok (.putfield idx, 3)) (hc : h[i]? = some (.inr (ci, fs))) (hlen : k < fs.length)
    (kk : Sem d q mc ms (pc + 3) L st (h.set i (.inr (ci, fs.set k v))) r h') : Sem d q mc ms pc L (v :: .ref i :: st) h r h' := by
  intro w HB p l e R s m args below meth c mcT msT H locs cells slots ls C hW hS hl h1 h2
  obtain ⟨hcl, hk, hin, ref, hlink, hsame⟩ := F
  have htsL : ∀ x ∈ gW, x.before args s = true := fun x hx => hts_of C hx
  have hap := va_apart (own := own) (tys := tyL w.2.2.2.2) (D := w.2.2.2.1) (cl := vwCl) htsL hin ty0 hty hnm (KX_of C).1 hcl
  obtain ⟨r0, hr0, cell, q1, q2, q3, q4⟩ := hW.2 i _ hc
  cases hcl.symm.trans hr0
  obtain ⟨hSl, hfc, kC, hkC, hkind⟩ := (KX_of C).1.1 ci _ hcl
  obtain ⟨cf, kf, fi, f, hi, hsl⟩ := hSl k hk
  have hsame' : s.fieldFound? ref (T k).2.1 (T k).2.2.1 = some (cf, kf, fi, f) := by
    rcases hsame with rfl | hs
    · exact hi
    · exact u_same (hts_of C hs) _ hi
  have hst := (u_facts hfc hkC (u_lays htsL hin hk) hi).1
  have hlay := htsL _ (hin _ (u_in_lay hk))
  unfold u_lay at hlay
  have fin : ∀ H' : Heap, H'[w.1 + i]? = some (cell.setSlot f.slot (em w v)) → H'.size = H.size → (∀ q, q ≠ w.1 + i → H'[q]? = H[q]?) → W p l e R s m args below meth c H' (locs ++ [⟨w.1 + i, f.slot⟩]) cells slots (MQ below (QCr w r h') args s mcT msT (w.1 ≤ ·)) (F0 m (pc + 3) ls (st.map (em w))) := fun H' e1 e2 e3 => by
    refine kk w HB p l e R s m args below meth c mcT msT H' _ cells slots ls C (hW.set e2 e3 ⟨_, hcl, ?_⟩) (hS.put e2 e3 (Nat.le_add_right _ _)) hl h1 h2
    rw [hsl] at e1
    exact t_OB.to (V := updV (vp_V (fs.map (em w))) k (em w v)) ⟨_, e1, q2, q3, t_set q4 hap hk (em w v)⟩ (fun j _ => vp_V_em w hlen v j)
  rcases hfin with hf | ⟨hf, hini, hdecl⟩
  · rw [if_neg (by rw [hf]; decide)] at hlay
    exact W.putK C.1 C.2.1 (f := f) ⟨own_of C hown, hts_of C hlink, ⟨_, _, _, hsame'⟩, hst⟩ (by rw [q2]; exact u_store hfc hkC hkind hlay hi (hty k hk) (hnf w).1 (hnf w).2) q1 q3 (by rw [hsl]; exact k2_hasslot (q4 k hk)) rfl rfl hd fin
  · rw [if_pos hf] at hlay
    have hcf : m.cls = cf := by
      obtain ⟨_, _, c', _, _, _, -, -, hf', -, -, -, hown2, -⟩ := Cond.laysFinal_spec hlay
      have e1 : c' = cf := by have := hi.symm.trans hf'; simp at this; exact this.1.symm
      rw [hdecl] at hown2
      rw [← e1]; exact Option.some.inj ((own_of C hown).symm.trans hown2)
    exact W.putFinK C.1 C.2.1 (own_of C hown) (hts_of C hlink) hsame' hst hcf (C.2.2.2.2.1.trans hini) (by rw [q2]; exact u_fits hfc hkC hkind (Or.inr hlay) hi (hty k hk) (hnf w).1 (hnf w).2) q1 q3 (by rw [hsl]; exact k2_hasslot (q4 k hk)) rfl rfl hd fin
theorem arr_of {w : WP} {HB : Heap} {s : State} (hK : KX w HB s) {t : Nat} {ty : FieldType} (ht : aTy[t]? = some ty) (n : Nat) (z : Nat → Value) : s.isArrayOf (arrV (w.2.2.2.2 t) n z) ty := (hK.1.2 t _ (tyL_at _ ht)).1 n z
theorem ra_of {w : WP} {HB : Heap} {s : State} (hK : KX w HB s) {t : Nat} {ty : FieldType} (ht : aTy[t]? = some ty) : va_RA s (w.2.2.2.2 t) ty := (hK.1.2 t _ (tyL_at _ ht)).2
theorem s_alen {t n i : Nat} {a : HA} {ty : FieldType} {v : Int32} (hd : decode q.2.1 pc = .ok (.arraylength, 1)) (hc : h[i]? = some (.inl (t, n, a))) (ht : aTy[t]? = some ty) (hv : Int32.ofNat n = v) (kk : Sem d q mc ms (pc + 1) L (.int v :: st) h r h') : Sem d q mc ms pc L (.ref i :: st) h r h' := by
  intro w HB p l e R s m args below meth c mcT msT H locs cells slots ls C hW hS hl h1 h2
  exact W.alen C.1 C.2.1 (hW.2 i _ hc) (arr_of (KX_of C) ht _ _) (by rw [arrV_size]; exact hv) rfl rfl hd (kk w HB p l e R s m args below meth c mcT msT H locs cells slots ls C hW hS hl h1 h2)
theorem upd_i (w : WP) (f : Nat → Int32) (k : Nat) (x : Int32) : updV (caW w (.inl f)) k (.int x) = caW w (.inl (upd f k x)) := by
  funext j
  simp only [updV, caW, upd]
  split <;> rfl
theorem upd_l (w : WP) (f : Nat → Int64) (k : Nat) (x : Int64) : updV (caW w (.inr (.inl f))) k (.long x) = caW w (.inr (.inl (vp_updL f k x))) := by
  funext j
  simp only [updV, caW, vp_updL]
  split <;> rfl
theorem upd_r (w : WP) (f : Nat → Value) (k : Nat) (x : Value) : updV (caW w (.inr (.inr f))) k (em w x) = caW w (.inr (.inr (va_up f k x))) := by
  funext j
  simp only [updV, caW, va_up]
  split <;> rfl
-- GENERATED
theorem s_iald {n i : Nat} {f : Nat → Int32} {x : Int32} (hd : decode q.2.1 pc = .ok (.iaload, 1)) (hc : h[i]? = some (.inl (0, n, .inl f))) (hin : vp_in x n) (kk : Sem d q mc ms (pc + 1) L (.int (f x.toNatClampNeg) :: st) h r h') : Sem d q mc ms pc L (.int x :: .ref i :: st) h r h' := by
  intro w HB p l e R s m args below meth c mcT msT H locs cells slots ls C hW hS hl h1 h2
  exact W.iald C.1 C.2.1 (hW.2 i _ hc) (arr_of (KX_of C) rfl _ _) (fun z => by cases z) (by show ¬ (x < 0 ∨ (arrV _ _ _).slots.size ≤ _); rw [arrV_size]; exact hin) (arrV_read _ _ (Nat.not_le.mp fun z => hin (Or.inr z))) rfl rfl hd (kk w HB p l e R s m args below meth c mcT msT H locs cells slots ls C hW hS hl h1 h2)

theorem s_zald {n i : Nat} {f : Nat → Int32} {x : Int32} (hd : decode q.2.1 pc = .ok (.baload, 1)) (hc : h[i]? = some (.inl (3, n, .inl f))) (hin : vp_in x n) (kk : Sem d q mc ms (pc + 1) L (.int (f x.toNatClampNeg) :: st) h r h') : Sem d q mc ms pc L (.int x :: .ref i :: st) h r h' := by
  intro w HB p l e R s m args below meth c mcT msT H locs cells slots ls C hW hS hl h1 h2
  exact W.zald C.1 C.2.1 (hW.2 i _ hc) (arr_of (KX_of C) rfl _ _) (fun z => by cases z) (by show ¬ (x < 0 ∨ (arrV _ _ _).slots.size ≤ _); rw [arrV_size]; exact hin) (arrV_read _ _ (Nat.not_le.mp fun z => hin (Or.inr z))) rfl rfl hd (kk w HB p l e R s m args below meth c mcT msT H locs cells slots ls C hW hS hl h1 h2)

theorem s_cald {n i : Nat} {f : Nat → Int32} {x : Int32} (hd : decode q.2.1 pc = .ok (.caload, 1)) (hc : h[i]? = some (.inl (2, n, .inl f))) (hin : vp_in x n) (kk : Sem d q mc ms (pc + 1) L (.int (f x.toNatClampNeg) :: st) h r h') : Sem d q mc ms pc L (.int x :: .ref i :: st) h r h' := by
  intro w HB p l e R s m args below meth c mcT msT H locs cells slots ls C hW hS hl h1 h2
  exact W.cald C.1 C.2.1 (hW.2 i _ hc) (arr_of (KX_of C) rfl _ _) (fun z => by cases z) (by show ¬ (x < 0 ∨ (arrV _ _ _).slots.size ≤ _); rw [arrV_size]; exact hin) (arrV_read _ _ (Nat.not_le.mp fun z => hin (Or.inr z))) rfl rfl hd (kk w HB p l e R s m args below meth c mcT msT H locs cells slots ls C hW hS hl h1 h2)

theorem s_lald {n i : Nat} {f : Nat → Int64} {x : Int32} (hd : decode q.2.1 pc = .ok (.laload, 1)) (hc : h[i]? = some (.inl (1, n, .inr (.inl f)))) (hin : vp_in x n) (kk : Sem d q mc ms (pc + 1) L (.long (f x.toNatClampNeg) :: st) h r h') : Sem d q mc ms pc L (.int x :: .ref i :: st) h r h' := by
  intro w HB p l e R s m args below meth c mcT msT H locs cells slots ls C hW hS hl h1 h2
  exact W.lald C.1 C.2.1 (hW.2 i _ hc) (arr_of (KX_of C) rfl _ _) (fun z => by cases z) (by show ¬ (x < 0 ∨ (arrV _ _ _).slots.size ≤ _); rw [arrV_size]; exact hin) (arrV_read _ _ (Nat.not_le.mp fun z => hin (Or.inr z))) rfl rfl hd (kk w HB p l e R s m args below meth c mcT msT H locs cells slots ls C hW hS hl h1 h2)

theorem s_iast {n i : Nat} {f : Nat → Int32} {j : Int32} {x : Int32} (hd : decode q.2.1 pc = .ok (.iastore, 1)) (hc : h[i]? = some (.inl (0, n, .inl f))) (hin : vp_in j n) (kk : Sem d q mc ms (pc + 1) L st (h.set i (.inl (0, n, .inl (upd f j.toNatClampNeg x)))) r h') : Sem d q mc ms pc L (.int x :: .int j :: .ref i :: st) h r h' := by
  intro w HB p l e R s m args below meth c mcT msT H locs cells slots ls C hW hS hl h1 h2
  refine W.iast C.1 C.2.1 (hW.2 i _ hc) (arr_of (KX_of C) rfl _ _) (fun z => by cases z) (by show ¬ (j < 0 ∨ (arrV _ _ _).slots.size ≤ _); rw [arrV_size]; exact hin) rfl rfl hd fun H' e1 e2 e3 => ?_
  refine kk w HB p l e R s m args below meth c mcT msT H' _ cells slots ls C (hW.set e2 e3 ?_) (hS.put e2 e3 (Nat.le_add_right _ _)) hl h1 h2
  · rw [arrV_store, upd_i] at e1
    exact e1

theorem s_zast {n i : Nat} {f : Nat → Int32} {j : Int32} {x : Int32} (hd : decode q.2.1 pc = .ok (.bastore, 1)) (hc : h[i]? = some (.inl (3, n, .inl f))) (hin : vp_in j n) (hz : narrow .boolean (.int x) = .int x) (kk : Sem d q mc ms (pc + 1) L st (h.set i (.inl (3, n, .inl (upd f j.toNatClampNeg x)))) r h') : Sem d q mc ms pc L (.int x :: .int j :: .ref i :: st) h r h' := by
  intro w HB p l e R s m args below meth c mcT msT H locs cells slots ls C hW hS hl h1 h2
  refine W.zast C.1 C.2.1 (hW.2 i _ hc) (arr_of (KX_of C) rfl _ _) (fun z => by cases z) (by show ¬ (j < 0 ∨ (arrV _ _ _).slots.size ≤ _); rw [arrV_size]; exact hin) rfl rfl hd fun H' e1 e2 e3 => ?_
  refine kk w HB p l e R s m args below meth c mcT msT H' _ cells slots ls C (hW.set e2 e3 ?_) (hS.put e2 e3 (Nat.le_add_right _ _)) hl h1 h2
  · rw [hz] at e1
    rw [arrV_store, upd_i] at e1
    exact e1

theorem s_cast {n i : Nat} {f : Nat → Int32} {j : Int32} {x : Int32} (hd : decode q.2.1 pc = .ok (.castore, 1)) (hc : h[i]? = some (.inl (2, n, .inl f))) (hin : vp_in j n) (hz : narrow .char (.int x) = .int x) (kk : Sem d q mc ms (pc + 1) L st (h.set i (.inl (2, n, .inl (upd f j.toNatClampNeg x)))) r h') : Sem d q mc ms pc L (.int x :: .int j :: .ref i :: st) h r h' := by
  intro w HB p l e R s m args below meth c mcT msT H locs cells slots ls C hW hS hl h1 h2
  refine W.cast C.1 C.2.1 (hW.2 i _ hc) (arr_of (KX_of C) rfl _ _) (fun z => by cases z) (by show ¬ (j < 0 ∨ (arrV _ _ _).slots.size ≤ _); rw [arrV_size]; exact hin) rfl rfl hd fun H' e1 e2 e3 => ?_
  refine kk w HB p l e R s m args below meth c mcT msT H' _ cells slots ls C (hW.set e2 e3 ?_) (hS.put e2 e3 (Nat.le_add_right _ _)) hl h1 h2
  · rw [hz] at e1
    rw [arrV_store, upd_i] at e1
    exact e1

theorem s_last {n i : Nat} {f : Nat → Int64} {j : Int32} {x : Int64} (hd : decode q.2.1 pc = .ok (.lastore, 1)) (hc : h[i]? = some (.inl (1, n, .inr (.inl f)))) (hin : vp_in j n) (kk : Sem d q mc ms (pc + 1) L st (h.set i (.inl (1, n, .inr (.inl (vp_updL f j.toNatClampNeg x))))) r h') : Sem d q mc ms pc L (.long x :: .int j :: .ref i :: st) h r h' := by
  intro w HB p l e R s m args below meth c mcT msT H locs cells slots ls C hW hS hl h1 h2
  refine W.last C.1 C.2.1 (hW.2 i _ hc) (arr_of (KX_of C) rfl _ _) (fun z => by cases z) (by show ¬ (j < 0 ∨ (arrV _ _ _).slots.size ≤ _); rw [arrV_size]; exact hin) rfl rfl hd fun H' e1 e2 e3 => ?_
  refine kk w HB p l e R s m args below meth c mcT msT H' _ cells slots ls C (hW.set e2 e3 ?_) (hS.put e2 e3 (Nat.le_add_right _ _)) hl h1 h2
  · rw [arrV_store, upd_l] at e1
    exact e1

theorem s_aald {t n i : Nat} {f : Nat → Value} {x : Int32} {v : Value} {ty : FieldType} (hd : decode q.2.1 pc = .ok (.aaload, 1)) (hc : h[i]? = some (.inl (t, n, .inr (.inr f)))) (ht : aTy[t]? = some ty) (hr : ty.isReference = true) (hin : vp_in x n) (hv : f x.toNatClampNeg = v) (kk : Sem d q mc ms (pc + 1) L (v :: st) h r h') : Sem d q mc ms pc L (.int x :: .ref i :: st) h r h' := by
  intro w HB p l e R s m args below meth c mcT msT H locs cells slots ls C hW hS hl h1 h2
  subst hv
  exact W.aald C.1 C.2.1 (hW.2 i _ hc) (arr_of (KX_of C) ht _ _) hr (fun z => by cases z) (by show ¬ (x < 0 ∨ (arrV _ _ _).slots.size ≤ _); rw [arrV_size]; exact hin) (arrV_read _ _ (Nat.not_le.mp fun z => hin (Or.inr z))) rfl rfl hd (kk w HB p l e R s m args below meth c mcT msT H locs cells slots ls C hW hS hl h1 h2)
theorem asg_of {w : WP} {HB : Heap} {s : State} (hK : KX w HB s) {Cn E : String} (hE : Cn = E ∨ (Cn, E) ∈ castL) {comp c0 : ClassId} (f1 : s.vm.findClass E = some comp) (f2 : s.vm.findClass Cn = some c0) : s.vm.assignable c0 comp = true := by
  rcases hE with rfl | hE
  · exact vb_asgS comp c0 f1 f2
  · exact vb_asgC (hK.2.1.2.1 _ hE) comp c0 f1 f2
theorem s_aast {t n i j ci N : Nat} {f : Nat → Value} {fs : List Value} {x : Int32} {Cn E : String} {T : u_T} (hd : decode q.2.1 pc = .ok (.aastore, 1)) (hc : h[i]? = some (.inl (t, n, .inr (.inr f)))) (ht : aTy[t]? = some (.object E)) (hv : h[j]? = some (.inr (ci, fs))) (hcl : vwCl[ci]? = some (Cn, T, N)) (hE : Cn = E ∨ (Cn, E) ∈ castL) (hin : vp_in x n) (kk : Sem d q mc ms (pc + 1) L st (h.set i (.inl (t, n, .inr (.inr (va_up f x.toNatClampNeg (.ref j)))))) r h') : Sem d q mc ms pc L (.ref j :: .int x :: .ref i :: st) h r h' := by
  intro w HB p l e R s m args below meth c mcT msT H locs cells slots ls C hW hS hl h1 h2
  obtain ⟨kA, comp, k1, k2, k3, -⟩ := ra_of (KX_of C) ht
  obtain ⟨r0, hr0, cellV, g1, g2, g3, -⟩ := hW.2 j _ hv
  cases hcl.symm.trans hr0
  have hcls := ((KX_of C).1.1 ci _ hcl).2
  obtain ⟨kE, hkE, -⟩ := Vm.findClass_spec k3
  obtain ⟨kC, hkC, -⟩ := hcls.2
  refine W.aast C.1 C.2.1 (hW.2 i _ hc) (fun z hz => by cases hz) (fun hz => by cases hz) k1 k2 rfl hkE ⟨fun z => hin (Or.inl z), by show _ < (arrV _ _ _).slots.size; rw [arrV_size]; exact Nat.not_le.mp fun z => hin (Or.inr z)⟩ g1 (fun z hz => by rw [g3] at hz; cases hz) (by rw [g2]; exact hkC) (by rw [g2]; exact asg_of (KX_of C) hE k3 hcls.1) rfl rfl hd fun H' e1 e2 e3 => ?_
  refine kk w HB p l e R s m args below meth c mcT msT H' _ cells slots ls C (hW.set e2 e3 ?_) (hS.put e2 e3 (Nat.le_add_right _ _)) hl h1 h2
  have e4 := upd_r w f x.toNatClampNeg (.ref j)
  rw [arrV_store] at e1
  exact e1.trans (congrArg (fun z => some (arrV (w.2.2.2.2 t) n z)) e4)
theorem s_aast0 {t n i : Nat} {f : Nat → Value} {x : Int32} {E : String} (hd : decode q.2.1 pc = .ok (.aastore, 1)) (hc : h[i]? = some (.inl (t, n, .inr (.inr f)))) (ht : aTy[t]? = some (.object E)) (hin : vp_in x n) (kk : Sem d q mc ms (pc + 1) L st (h.set i (.inl (t, n, .inr (.inr (va_up f x.toNatClampNeg .null))))) r h') : Sem d q mc ms pc L (.null :: .int x :: .ref i :: st) h r h' := by
  intro w HB p l e R s m args below meth c mcT msT H locs cells slots ls C hW hS hl h1 h2
  refine va_WaastN (C := E) C.1 C.2.1 (hW.2 i _ hc) (arr_of (KX_of C) ht _ _) (fun hz => by cases hz) (by show ¬ (x < 0 ∨ (arrV _ _ _).slots.size ≤ _); rw [arrV_size]; exact hin) rfl rfl hd fun H' e1 e2 e3 => ?_
  refine kk w HB p l e R s m args below meth c mcT msT H' _ cells slots ls C (hW.set e2 e3 ?_) (hS.put e2 e3 (Nat.le_add_right _ _)) hl h1 h2
  have e4 := upd_r w f x.toNatClampNeg .null
  rw [arrV_store] at e1
  exact e1.trans (congrArg (fun z => some (arrV (w.2.2.2.2 t) n z)) e4)
theorem box_of {w : WP} {HB : Heap} {p : Program} {R : Room} {s : State} {m : MethodId} {args : Array Value} {meth : Method} {c : Code} {mcT msT : Nat} {H : Heap} {locs : List Loc} (C : SCt w HB d q p R s m args meth c mcT msT) (hS : va_S (w.1 ≤ ·) s.heap H locs) {k : Nat} (hk : k < 256) : ∃ cell : Cell, H[w.2.1 k]? = some cell ∧ cell.vm.isStatics = false ∧ s.vm.findClass "java/lang/Integer" = some cell.cls := by
  obtain ⟨cell, g1, g2, g3, g4⟩ := ((KX_of C).2.2.1).1 k hk
  exact ⟨cell, by rw [low_of C hS _ (Nat.not_le.mp g4)]; exact g1, g2, g3⟩
theorem s_aastB {n i : Nat} {f : Nat → Value} {x : Int32} {j : UInt32} (hd : decode q.2.1 pc = .ok (.aastore, 1)) (hc : h[i]? = some (.inl (8, n, .inr (.inr f)))) (hj : j.toNat < 256) (hin : vp_in x n) (kk : Sem d q mc ms (pc + 1) L st (h.set i (.inl (8, n, .inr (.inr (va_up f x.toNatClampNeg (.float j)))))) r h') : Sem d q mc ms pc L (.float j :: .int x :: .ref i :: st) h r h' := by
  intro w HB p l e R s m args below meth c mcT msT H locs cells slots ls C hW hS hl h1 h2
  obtain ⟨kA, comp, k1, k2, k3, -⟩ := ra_of (t := 8) (KX_of C) rfl
  obtain ⟨cellV, g1, g2, g3⟩ := box_of C hS hj
  obtain ⟨kE, hkE, -⟩ := Vm.findClass_spec k3
  obtain ⟨kC, hkC, -⟩ := Vm.findClass_spec g3
  refine W.aast C.1 C.2.1 (hW.2 i _ hc) (fun z hz => by cases hz) (fun hz => by cases hz) k1 k2 rfl hkE ⟨fun z => hin (Or.inl z), by show _ < (arrV _ _ _).slots.size; rw [arrV_size]; exact Nat.not_le.mp fun z => hin (Or.inr z)⟩ g1 (fun z hz => by rw [hz] at g2; cases g2) hkC (asg_of (KX_of C) (Or.inr (by decide)) k3 g3) rfl rfl hd fun H' e1 e2 e3 => ?_
  refine kk w HB p l e R s m args below meth c mcT msT H' _ cells slots ls C (hW.set e2 e3 ?_) (hS.put e2 e3 (Nat.le_add_right _ _)) hl h1 h2
  have e4 := upd_r w f x.toNatClampNeg (.float j)
  rw [arrV_store] at e1
  exact e1.trans (congrArg (fun z => some (arrV (w.2.2.2.2 8) n z)) e4)
theorem s_newarr {t N : Nat} {ty : FieldType} {aty : ArrayType} {n : Int32} {c0 : HA} (hd : decode q.2.1 pc = .ok (.newarray aty, 2)) (hty : newarray.typeOf aty = ty) (hw : Cond.arrayClass ty ∈ gW) (ht : aTy[t]? = some ty) (hp : ∀ (s : State) (cA : ClassId), va_RA s cA ty → s.vm.findClass ("[" ++ ty.toString) = some cA) (hn : ¬ n < 0) (hN : n.toNatClampNeg = N) (hb : N * componentBytes ty ≤ 536870912) (h0 : ∀ w : WP, caW w c0 = fun _ => defaultValue ty)
    (kk : Sem d q mc ms (pc + 2) L (.ref h.length :: st) (h ++ [.inl (t, N, c0)]) r h') : Sem d q (mc + 1) (ms + N) pc L (.int n :: st) h r h' := by
  intro w HB p l e R s m args below meth c mcT msT H locs cells slots ls C hW hS hl h1 h2
  subst hty
  have hcell := C.2.2.2.2.2.2.2.2.2.2.2.2.1
  have hslot := C.2.2.2.2.2.2.2.2.2.2.2.2.2
  refine va_newaK C.1 C.2.1 (hts_of C hw) rfl hd rfl hn hN hb (by omega) (by omega) rfl fun H' cA e1 e2 e3 _ hNm => ?_
  have eA : cA = w.2.2.2.2 t := Option.some.inj (hNm.symm.trans (hp s _ (ra_of (KX_of C) ht)))
  subst eA
  have e5 : F0 m (pc + 2) ls (.ref H.size :: st.map (em w)) = F0 m (pc + 2) ls ((Value.ref h.length :: st).map (em w)) := by rw [hW.1]; rfl
  refine W.eq e5 (kk w HB p l e R s m args below meth c mcT msT H' _ (cells + 1) (slots + N) ls C (hW.push e2 e3 ?_) ⟨Nat.le_trans hS.1 (by omega), fun x g1 g2 => (e3 x (Nat.lt_of_lt_of_le g1 hS.1)).trans (hS.2.1 x g1 g2), hS.2.2⟩ hl (by omega) (by omega))
  show H'[w.1 + h.length]? = _
  rw [← hW.1, e1, h0 w]
theorem s_newref {t N idx : Nat} {own Cn : String} {n : Int32} (hd : decode q.2.1 pc = .ok (.anewarray idx, 3)) (hown : q.1.cls = own) (hw : Cond.classLink own idx Cn ∈ gW) (ho : ∀ (w : WP) (s : State), NW w s → va_AO Cn s) (ht : aTy[t]? = some (.object Cn)) (hn : ¬ n < 0) (hN : n.toNatClampNeg = N) (hb : N * 4 ≤ 536870912)
    (kk : Sem d q mc ms (pc + 3) L (.ref h.length :: st) (h ++ [.inl (t, N, .inr (.inr fun _ => .null))]) r h') : Sem d q (mc + 1) (ms + N) pc L (.int n :: st) h r h' := by
  intro w HB p l e R s m args below meth c mcT msT H locs cells slots ls C hW hS hl h1 h2
  subst hN
  have hcell := C.2.2.2.2.2.2.2.2.2.2.2.2.1
  have hslot := C.2.2.2.2.2.2.2.2.2.2.2.2.2
  refine W.anew C.1 C.2.1 (own_of C hown) (hts_of C hw) (va_AO.use (ho w s (KX_of C).2.1)) rfl hd rfl hn hb (by omega) (by omega) fun cA kA comp f1 f2 f3 f4 => ?_
  obtain ⟨-, -, -, -, -, k4⟩ := ra_of (KX_of C) ht
  have eA : cA = w.2.2.2.2 t := Option.some.inj (f1.symm.trans k4)
  subst eA
  have e5 : F0 m (pc + 3) ls (.ref H.size :: st.map (em w)) = F0 m (pc + 3) ls ((Value.ref h.length :: st).map (em w)) := by rw [hW.1]; rfl
  refine W.eq e5 (kk w HB p l e R s m args below meth c mcT msT _ _ (cells + 1) (slots + n.toNatClampNeg) ls C (hW.push (Array.size_push _) (fun x hx => by rw [Array.getElem?_push, if_neg (Nat.ne_of_lt hx)]) ?_) ⟨Nat.le_trans hS.1 (by rw [Array.size_push]; omega), fun x g1 g2 => ((by rw [Array.getElem?_push, if_neg (by have := hS.1; omega)] : _ = H[x]?)).trans (hS.2.1 x g1 g2), hS.2.2⟩ hl (by omega) (by omega))
  show _ = some (arrV (w.2.2.2.2 t) n.toNatClampNeg (fun _ => Value.null))
  rw [← hW.1, Array.getElem?_push_size, ← arrV_new]
theorem s_new {own Cn : String} {T : u_T} {N idx ci : Nat} {fs : List Value} (ty0 : Nat → FieldType) (hty : ∀ k, k < N → parseFieldDescriptor (T k).2.2.1 = some (ty0 k)) (hd : decode q.2.1 pc = .ok (.new idx, 3)) (hown : q.1.cls = own) (hin : ∀ x ∈ u_ws Cn T N, x ∈ gW) (hw1 : Cond.classLink own idx Cn ∈ gW) (hw2 : Cond.instantiable Cn N ∈ gW) (hw3 : Cond.initialized Cn ∈ gW) (hcl : vwCl[ci]? = some (Cn, T, N)) (hfs : ∀ (w : WP) (j : Nat), j < N → defaultValue (ty0 j) = vp_V (fs.map (em w)) j)
    (kk : Sem d q mc ms (pc + 3) L (.ref h.length :: st) (h ++ [.inr (ci, fs)]) r h') : Sem d q (mc + 1) (ms + N) pc L st h r h' := by
  intro w HB p l e R s m args below meth c mcT msT H locs cells slots ls C hW hS hl h1 h2
  have hcell := C.2.2.2.2.2.2.2.2.2.2.2.2.1
  have hslot := C.2.2.2.2.2.2.2.2.2.2.2.2.2
  have hKn := (KX_of C).1.1 ci _ hcl
  refine W.newcK C.1 C.2.1 (own_of C hown) (hts_of C hw1) (hts_of C hw2) (hts_of C hw3) rfl hd (by omega) (by omega) hKn.2.1 rfl fun H' kC hkC e1 e2 e3 => ?_
  have e5 : F0 m (pc + 3) ls (.ref H.size :: st.map (em w)) = F0 m (pc + 3) ls ((Value.ref h.length :: st).map (em w)) := by rw [hW.1]; rfl
  refine W.eq e5 (kk w HB p l e R s m args below meth c mcT msT H' _ (cells + 1) (slots + N) ls C (hW.push e2 e3 ?_) ⟨Nat.le_trans hS.1 (by omega), fun x g1 g2 => (e3 x (Nat.lt_of_lt_of_le g1 hS.1)).trans (hS.2.1 x g1 g2), hS.2.2⟩ hl (by omega) (by omega))
  rw [hW.1] at e1
  exact ⟨_, hcl, (u_born ty0 (ws := gW) (fun x hx => hts_of C hx) hin hKn hkC e1 hty).to (hfs w)⟩
theorem obj_of {w : WP} {H : Heap} {HB : Heap} {s : State} (hK : KX w HB s) (hW : Wd w h H) {i ci N : Nat} {fs : List Value} {Cn : String} {T : u_T} (hc : h[i]? = some (.inr (ci, fs))) (hcl : vwCl[ci]? = some (Cn, T, N)) : ∃ cell : Cell, H[w.1 + i]? = some cell ∧ cell.vm.isStatics = false ∧ s.vm.findClass Cn = some cell.cls := by
  obtain ⟨r0, hr0, cell, q1, q2, q3, q4⟩ := hW.2 i _ hc
  cases hcl.symm.trans hr0
  exact ⟨cell, q1, by rw [q3]; rfl, by rw [q2]; exact (hK.1.1 ci _ hcl).2.1⟩
theorem s_instY {own Cn nm : String} {T : u_T} {N idx ci i : Nat} {fs : List Value} (hd : decode q.2.1 pc = .ok (.instanceof idx, 3)) (hown : q.1.cls = own) (hw : Cond.classLink own idx nm ∈ gW) (hc : h[i]? = some (.inr (ci, fs))) (hcl : vwCl[ci]? = some (Cn, T, N)) (hE : Cn = nm ∨ (Cn, nm) ∈ castL) (kk : Sem d q mc ms (pc + 3) L (.int 1 :: st) h r h') : Sem d q mc ms pc L (.ref i :: st) h r h' := by
  intro w HB p l e R s m args below meth c mcT msT H locs cells slots ls C hW hS hl h1 h2
  have K1 := kk w HB p l e R s m args below meth c mcT msT H locs cells slots ls C hW hS hl h1 h2
  rcases hE with rfl | hE
  · exact va_instE C.1 C.2.1 (own_of C hown) (hts_of C hw) (obj_of (KX_of C) hW hc hcl) hd K1
  · exact va_instY C.1 C.2.1 (own_of C hown) (hts_of C hw) ((KX_of C).2.1.2.1 _ hE) (obj_of (KX_of C) hW hc hcl) hd K1
theorem s_instNo {own Cn nm : String} {T : u_T} {N idx ci i : Nat} {fs : List Value} (hd : decode q.2.1 pc = .ok (.instanceof idx, 3)) (hown : q.1.cls = own) (hw : Cond.classLink own idx nm ∈ gW) (hc : h[i]? = some (.inr (ci, fs))) (hcl : vwCl[ci]? = some (Cn, T, N)) (hE : (Cn, nm) ∈ ncastL) (kk : Sem d q mc ms (pc + 3) L (.int 0 :: st) h r h') : Sem d q mc ms pc L (.ref i :: st) h r h' := by
  intro w HB p l e R s m args below meth c mcT msT H locs cells slots ls C hW hS hl h1 h2
  exact va_instNo C.1 C.2.1 (own_of C hown) (hts_of C hw) ((KX_of C).2.1.2.2.1 _ hE) (obj_of (KX_of C) hW hc hcl) hd (kk w HB p l e R s m args below meth c mcT msT H locs cells slots ls C hW hS hl h1 h2)
theorem s_castB {own : String} {idx : Nat} {j : UInt32} (hd : decode q.2.1 pc = .ok (.checkcast idx, 3)) (hown : q.1.cls = own) (hw : Cond.classLink own idx "java/lang/Integer" ∈ gW) (hj : j.toNat < 256) (kk : Sem d q mc ms (pc + 3) L (.float j :: st) h r h') : Sem d q mc ms pc L (.float j :: st) h r h' := by
  intro w HB p l e R s m args below meth c mcT msT H locs cells slots ls C hW hS hl h1 h2
  exact va_castE C.1 C.2.1 (own_of C hown) (hts_of C hw) (box_of C hS hj) hd (kk w HB p l e R s m args below meth c mcT msT H locs cells slots ls C hW hS hl h1 h2)
theorem s_aret {v : Value} {rt : FieldType} (hd : decode q.2.1 pc = .ok (.areturn, 1)) (hr : q.2.2.2 = some rt) (hrt : (∃ n, rt = .object n) ∨ ∃ t, rt = .array t) (hv : v = .null ∨ (∃ a, v = .ref a) ∨ ∃ a, v = .float a) : Sem d q mc ms pc L (v :: []) h (some v) h := by
  intro w HB p l e R s m args below meth c mcT msT H locs cells slots ls C hW hS hl h1 h2
  refine W.widen (k := mcT) (n := msT) (by omega) (by omega) ?_
  exact W.aret C.1 C.2.1 (C.2.2.2.1.trans hr) hrt (by rcases hv with rfl | ⟨a, rfl⟩ | ⟨a, rfl⟩ <;> first | exact Or.inl rfl | exact Or.inr ⟨_, rfl⟩) (fun t ht hW2 => ⟨rfl, by rw [ht]; exact hW, hS.F ht⟩) hS.2.2 hd C.2.2.2.2.2.2.2.1
/-- cells that differ only behind an array's end -/
def hcE (a b : HC) : Prop := ∀ (w : WP) (x : Nat) (H : Heap), cat w x H a → cat w x H b
theorem hcE_i {t n : Nat} {f g : Nat → Int32} (he : ∀ k, k < n → f k = g k) : hcE (.inl (t, n, .inl f)) (.inl (t, n, .inl g)) := by
  intro w x H hx
  have e9 : arrV (w.2.2.2.2 t) n (caW w (.inl f)) = arrV (w.2.2.2.2 t) n (caW w (.inl g)) := by
    unfold arrV
    congr 2
    funext k
    show Value.int _ = Value.int _
    rw [he k.val k.isLt]
  exact Eq.trans hx (congrArg some e9)
theorem hcE_l {t n : Nat} {f g : Nat → Int64} (he : ∀ k, k < n → f k = g k) : hcE (.inl (t, n, .inr (.inl f))) (.inl (t, n, .inr (.inl g))) := by
  intro w x H hx
  have e9 : arrV (w.2.2.2.2 t) n (caW w (.inr (.inl f))) = arrV (w.2.2.2.2 t) n (caW w (.inr (.inl g))) := by
    unfold arrV
    congr 2
    funext k
    show Value.long _ = Value.long _
    rw [he k.val k.isLt]
  exact Eq.trans hx (congrArg some e9)
theorem hcE_r {t n : Nat} {f g : Nat → Value} (he : ∀ k, k < n → f k = g k) : hcE (.inl (t, n, .inr (.inr f))) (.inl (t, n, .inr (.inr g))) := by
  intro w x H hx
  have e9 : arrV (w.2.2.2.2 t) n (caW w (.inr (.inr f))) = arrV (w.2.2.2.2 t) n (caW w (.inr (.inr g))) := by
    unfold arrV
    congr 2
    funext k
    show em w _ = em w _
    rw [he k.val k.isLt]
  exact Eq.trans hx (congrArg some e9)
theorem Wd.eqv {w : WP} {H : Heap} {ha hb : HP} (hlen : ha.length = hb.length) (he : ∀ (i : Nat) (a b : HC), ha[i]? = some a → hb[i]? = some b → hcE a b) (hW : Wd w ha H) : Wd w hb H := by
  refine ⟨by rw [hW.1, hlen], fun i b hb' => ?_⟩
  have hi : i < ha.length := by rw [hlen]; exact (List.getElem?_eq_some_iff.mp hb').1
  exact he i _ b (List.getElem?_eq_getElem hi) hb' w _ H (hW.2 i _ (List.getElem?_eq_getElem hi))
/-- the heap read otherwise -/
theorem s_heap {h2 : HP} (he : ∀ (w : WP) (H : Heap), Wd w h H → Wd w h2 H) (k : Sem d q mc ms pc L st h2 r h') : Sem d q mc ms pc L st h r h' := by
  intro w HB p l e R s m args below meth c mcT msT H locs cells slots ls C hW hS hl h1 h2
  exact k w HB p l e R s m args below meth c mcT msT H locs cells slots ls C (he w H hW) hS hl h1 h2
theorem s_room {mc' ms' : Nat} (hm : mc ≤ mc') (hs : ms ≤ ms') (k : Sem d q mc ms pc L st h r h') : Sem d q mc' ms' pc L st h r h' := by
  intro w HB p l e R s m args below meth c mcT msT H locs cells slots ls C hW hS hl h1 h2
  exact k w HB p l e R s m args below meth c mcT msT H locs cells slots ls C hW hS hl (by omega) (by omega)
end Rules2
end
section
section Calls
variable {d mc ms pc : Nat} {q : QM} {L : List (Nat × Value)} {st : List Value} {h h' : HP} {r : Option Value}
theorem wsL_good {x : Cond} (hx : x ∈ gW) : (x.onTables && x.keeps) = true ∨ ∃ ty, x = .arrayClass ty := good_of_word (List.mem_filter.mp hx).2
theorem good_wsq {q' : QM} (hc : Cond.code q'.1 q'.2.1 q'.2.2.1 q'.2.2.2 ∈ gW) : GoodIn gW (wsq q') := fun x hx => by
  rcases List.mem_cons.mp hx with rfl | hx
  · exact ⟨hc, wsL_good hc⟩
  · exact ⟨hx, wsL_good hx⟩
theorem g_after {w : WP} {p : Program} {l : Launch} {e : Env} {R : Room} {s : State} {m : MethodId} {args : Array Value} {below : List Frame} {meth : Method} {c : Code} {H : Heap} {locs : List Loc} {cells slots mc1 ms1 : Nat} {ls : Array Slot} {st0 rest : List Value} {a : Array Value} {Q : State → Prop} {r1 : Option Value} {h1 : HP}
    (hr : va_Run p l e R s m args below meth c H locs cells slots mc1 ms1 (F0 m pc ls st0) rest (QCr w r1 h1 a) (w.1 ≤ ·)) (hS : va_S (w.1 ≤ ·) s.heap H locs)
    (kk : ∀ (H1 : Heap) (locs1 : List Loc), Wd w h1 H1 → va_S (w.1 ≤ ·) s.heap H1 locs1 → W p l e R s m args below meth c H1 locs1 (cells + mc1) (slots + ms1) Q (F0 m (pc + 3) ls ((r1.map (em w)).toList ++ rest))) : W p l e R s m args below meth c H locs cells slots Q (F0 m pc ls st0) := by
  intro T hT X
  obtain ⟨v, st₀, t, T', L, h0, X', hL, e1, e2, ⟨hv, hw, hz, hk⟩, stp⟩ := hr T hT X
  have hv := Outcome.returned.inj hv
  subst hv
  rw [h0] at hz hk
  obtain ⟨t2, a1, b1⟩ := kk T'.heap (locs ++ L) (by rw [e1]; exact hw) ⟨Nat.le_trans hS.1 (by rw [e1]; exact hz), fun q g1 g2 => by rw [e1, hk q (Nat.lt_of_lt_of_le g1 hS.1) g2]; exact hS.2.1 q g1 g2, fun q hq => by
    rcases List.mem_append.mp hq with g | g
    · exact hS.2.2 q g
    · exact hL q g⟩ T' rfl X'
  exact ⟨t2, stp t2 a1, b1⟩
theorem g_pre {w : WP} {HB : Heap} {p : Program} {R : Room} {s : State} {m : MethodId} {args : Array Value} {meth : Method} {c : Code} {mcT msT : Nat} {H : Heap} {locs : List Loc} (C : SCt w HB d q p R s m args meth c mcT msT) (hW : Wd w h H) (hS : va_S (w.1 ≤ ·) s.heap H locs) (as : List Value) : ∀ U : State, U.heap = H → s.WarmedH U.vm → PCr w HB as h (as.map (em w)).toArray U := fun U hU hv =>
  ⟨rfl, by rw [hU]; exact hW, (KX_of C).warm hv, by rw [hU]; exact Nat.le_trans C.2.2.2.2.2.2.2.2.2.1.1 hS.1, fun a ha => by rw [hU]; exact low_of C hS a ha⟩
def notMH (q' : QM) (n : Nat) : Prop := (q'.1.cls ≠ "java/lang/invoke/MethodHandle" ∧ q'.1.cls ≠ "java/lang/invoke/VarHandle" ∧ (parseMethodDescriptor q'.1.desc).map (fun d => d.parameters.length) = some n) ∧ q'.2.2.1 ≤ 45
def CWV (own : String) (idx : Nat) (q' : QM) (n : Nat) : Prop := Cond.methodLink own idx q'.1 ∈ gW ∧ Cond.instanceMethod q'.1 ∈ gW ∧ Cond.selects q'.1.cls q'.1 q'.1 ∈ gW ∧ Cond.initialized q'.1.cls ∈ gW ∧ Cond.code q'.1 q'.2.1 q'.2.2.1 q'.2.2.2 ∈ gW ∧ notMH q' n
def CWS (own : String) (idx : Nat) (q' : QM) (n : Nat) : Prop := (Cond.methodLink own idx q'.1 ∈ gW ∨ ∃ host, (own, idx, q'.1, host) ∈ nestL) ∧ Cond.static q'.1 ∈ gW ∧ Cond.initialized q'.1.cls ∈ gW ∧ Cond.code q'.1 q'.2.1 q'.2.2.1 q'.2.2.2 ∈ gW ∧ notMH q' n
def CWI (own : String) (idx : Nat) (q' : QM) (n : Nat) : Prop := (Cond.methodLink own idx q'.1 ∈ gW ∨ ∃ host, (own, idx, q'.1, host) ∈ nestL) ∧ Cond.instanceMethod q'.1 ∈ gW ∧ Cond.initialized q'.1.cls ∈ gW ∧ Cond.code q'.1 q'.2.1 q'.2.2.1 none ∈ gW ∧ notMH q' n ∧ q'.1.name = "<init>" ∧ q'.2.2.2 = none
def CWU (own : String) (idx : Nat) (Cn : String) (x : MethodName) (q' : QM) (n : Nat) : Prop := Cond.methodLink own idx x ∈ gW ∧ (∃ owner b0 m0 r0, Cond.sameMethod x.cls owner x.name x.desc ∈ gW ∧ Cond.instanceMethod ⟨owner, x.name, x.desc⟩ ∈ gW ∧ Cond.code ⟨owner, x.name, x.desc⟩ b0 m0 r0 ∈ gW ∧ (owner ≠ "java/lang/invoke/MethodHandle" ∧ owner ≠ "java/lang/invoke/VarHandle")) ∧ Cond.selects Cn x q'.1 ∈ gW ∧ Cond.instanceMethod q'.1 ∈ gW ∧ Cond.initialized q'.1.cls ∈ gW ∧ Cond.code q'.1 q'.2.1 q'.2.2.1 q'.2.2.2 ∈ gW ∧ (parseMethodDescriptor x.desc).map (fun d => d.parameters.length) = some n ∧ q'.2.2.1 ≤ 45
def CWP (own : String) (idx : Nat) (q' : QM) (n : Nat) : Prop := Cond.methodLink own idx q'.1 ∈ gW ∧ Cond.sameMethod q'.1.cls q'.1.cls q'.1.name q'.1.desc ∈ gW ∧ Cond.superclass own q'.1.cls ∈ gW ∧ Cond.instanceMethod q'.1 ∈ gW ∧ Cond.initialized q'.1.cls ∈ gW ∧ Cond.code q'.1 q'.2.1 q'.2.2.1 q'.2.2.2 ∈ gW ∧ q'.1.name ≠ "<init>" ∧ (parseMethodDescriptor q'.1.desc).map (fun d => d.parameters.length) = some n ∧ q'.2.2.1 ≤ 45
theorem g_room {d mcT msT mc1 ms1 : Nat} {q' : QM} {w : WP} {HB : Heap} {p : Program} {R : Room} {s : State} {m : MethodId} {args : Array Value} {meth : Method} {c : Code} (C : SCt w HB (d + 1) q p R s m args meth c mcT msT) (h9 : q'.2.2.1 ≤ 45) : (rmq d mc1 ms1).frames + 1 ≤ R.frames ∧ 8 + (q'.2.2.1 + 11) + (rmq d mc1 ms1).locals ≤ R.locals := by
  have e1 := C.2.2.2.2.2.2.2.2.2.2.1
  have e2 := C.2.2.2.2.2.2.2.2.2.2.2.1
  exact ⟨e1, by show 8 + (q'.2.2.1 + 11) + 64 * d ≤ _; omega⟩
theorem g_fits {mcT msT mc1 ms1 cells slots : Nat} {w : WP} {HB : Heap} {p : Program} {R : Room} {s : State} {m : MethodId} {args : Array Value} {meth : Method} {c : Code} (C : SCt w HB d q p R s m args meth c mcT msT) (h1 : cells + (mc1 + mc) ≤ mcT) (h2 : slots + (ms1 + ms) ≤ msT) : cells + mc1 ≤ R.cells ∧ slots + ms1 ≤ R.slots := by
  have e1 := C.2.2.2.2.2.2.2.2.2.2.2.2.1
  have e2 := C.2.2.2.2.2.2.2.2.2.2.2.2.2
  omega
theorem g_stk {w : WP} (As st : List Value) (b : Nat) : (As.reverse ++ .ref b :: st).map (em w) = (As.map (em w)).reverse ++ .ref (w.1 + b) :: st.map (em w) := by
  rw [List.map_append, List.map_reverse]
  rfl
theorem g_sum {w : WP} {HB : Heap} {s : State} (hK : KX w HB s) {st : List Value} (hs : (st.map fun v => v.category).sum ≤ 8) : ((st.map (em w)).map fun v => v.category).sum ≤ 8 := by
  rw [em_cats hK]
  exact hs
theorem g_ret {w : WP} {r1 : Option Value} {st : List Value} : (r1.map (em w)).toList ++ st.map (em w) = (r1.toList ++ st).map (em w) := by
  cases r1 <;> rfl
theorem s_callV {own : String} {idx n mc1 ms1 b ci N : Nat} {q' : QM} {As st0 : List Value} {fs : List Value} {T : u_T} {r1 : Option Value} {h1 : HP} (cw : CWV own idx q' n) (hown : q.1.cls = own) (hd : decode q.2.1 pc = .ok (.invokevirtual idx, 3)) (hc : h[b]? = some (.inr (ci, fs))) (hcl : vwCl[ci]? = some (q'.1.cls, T, N)) (hn : As.length = n) (hs : (st.map fun v => v.category).sum ≤ 8) (hst : st0 = As.reverse ++ .ref b :: st)
    (hC : Con d q' mc1 ms1 (.ref b :: As) h r1 h1) (kk : Sem (d + 1) q mc ms (pc + 3) L (r1.toList ++ st) h1 r h') : Sem (d + 1) q (mc1 + mc) (ms1 + ms) pc L st0 h r h' := by
  intro w HB p l e R s m args below meth c mcT msT H locs cells slots ls C hW hS hl g1 g2
  obtain ⟨w1, w2, w3, w4, w5, w6, w7⟩ := cw
  subst hst
  rw [g_stk]
  refine g_after (va_runV (cc := q.2.1) (nL := q.2.2.1) (Ts := gW) (own := own) (C := q'.1.cls) (As := As.map (em w)) (rest := st.map (em w)) (n := n) ⟨C.1, C.2.1, C.2.2.1, own_of C hown, fun x hx => hts_of C hx⟩ (hC w HB l) ⟨callB_of n (fun x hx => hts_of C hx) (good_wsq w5) rfl rfl rfl (hts_of C w4) (hts_of C w1) w6 (g_room C w7), hts_of C w2, hts_of C w3⟩ ⟨PCr.blind, obj_of (KX_of C) hW hc hcl, g_pre C hW hS (.ref b :: As)⟩ rfl (by rw [List.length_map]; exact hn) hl.1 rfl (lv_room (g_sum (KX_of C) hs)) hd (g_fits C g1 g2)) hS (fun H1 locs1 hW1 hS1 => ?_)
  rw [g_ret]
  exact kk w HB p l e R s m args below meth c mcT msT H1 locs1 _ _ ls C hW1 hS1 hl (by omega) (by omega)
theorem s_callS {own : String} {idx n mc1 ms1 : Nat} {q' : QM} {As st0 : List Value} {r1 : Option Value} {h1 : HP} (cw : CWS own idx q' n) (hown : q.1.cls = own) (hd : decode q.2.1 pc = .ok (.invokestatic idx, 3)) (hn : As.length = n) (hs : (st.map fun v => v.category).sum ≤ 8) (hst : st0 = As.reverse ++ st)
    (hC : Con d q' mc1 ms1 As h r1 h1) (kk : Sem (d + 1) q mc ms (pc + 3) L (r1.toList ++ st) h1 r h') : Sem (d + 1) q (mc1 + mc) (ms1 + ms) pc L st0 h r h' := by
  intro w HB p l e R s m args below meth c mcT msT H locs cells slots ls C hW hS hl g1 g2
  obtain ⟨w1, w2, w4, w5, w6, w7⟩ := cw
  subst hst
  rw [List.map_append, List.map_reverse]
  have go : ∀ (H1 : Heap) (locs1 : List Loc), Wd w h1 H1 → va_S (w.1 ≤ ·) s.heap H1 locs1 → W p l e R s m args below meth c H1 locs1 (cells + mc1) (slots + ms1) (MQ below (QCr w r h') args s mcT msT (w.1 ≤ ·)) (F0 m (pc + 3) ls ((r1.map (em w)).toList ++ st.map (em w))) := fun H1 locs1 hW1 hS1 => by
    rw [g_ret]
    exact kk w HB p l e R s m args below meth c mcT msT H1 locs1 _ _ ls C hW1 hS1 hl (by omega) (by omega)
  rcases w1 with w1 | ⟨host, w1⟩
  · exact g_after (va_runS (cc := q.2.1) (nL := q.2.2.1) (Ts := gW) (own := own) (As := As.map (em w)) (rest := st.map (em w)) (n := n) ⟨C.1, C.2.1, C.2.2.1, own_of C hown, fun x hx => hts_of C hx⟩ (hC w HB l) ⟨callB_of n (fun x hx => hts_of C hx) (good_wsq w5) rfl rfl rfl (hts_of C w4) (hts_of C w1) w6 (g_room C w7), hts_of C w2⟩ ⟨PCr.blind, g_pre C hW hS As⟩ rfl (by rw [List.length_map]; exact hn) hl.1 rfl (lv_room (g_sum (KX_of C) hs)) hd (g_fits C g1 g2)) hS go
  · exact g_after (va_runSN (cc := q.2.1) (nL := q.2.2.1) (Ts := gW) (own := own) (host := host) (As := As.map (em w)) (rest := st.map (em w)) (n := n) ⟨C.1, C.2.1, C.2.2.1, own_of C hown, fun x hx => hts_of C hx⟩ (hC w HB l) ⟨va_cnB n (fun x hx => hts_of C hx) (good_wsq w5) rfl rfl rfl ((KX_of C).2.1.1 _ w1) (hts_of C w4) w6 (g_room C w7), hts_of C w2, trivial⟩ ⟨PCr.blind, g_pre C hW hS As⟩ rfl (by rw [List.length_map]; exact hn) hl.1 rfl (lv_room (g_sum (KX_of C) hs)) hd (g_fits C g1 g2)) hS go
theorem s_callI {own : String} {idx n mc1 ms1 b : Nat} {q' : QM} {As st0 : List Value} {h1 : HP} (cw : CWI own idx q' n) (hown : q.1.cls = own) (hd : decode q.2.1 pc = .ok (.invokespecial idx, 3)) (hn : As.length = n) (hs : (st.map fun v => v.category).sum ≤ 8) (hst : st0 = As.reverse ++ .ref b :: st)
    (hC : Con d q' mc1 ms1 (.ref b :: As) h none h1) (kk : Sem (d + 1) q mc ms (pc + 3) L st h1 r h') : Sem (d + 1) q (mc1 + mc) (ms1 + ms) pc L st0 h r h' := by
  intro w HB p l e R s m args below meth c mcT msT H locs cells slots ls C hW hS hl g1 g2
  obtain ⟨w1, w2, w4, w5, ⟨w6, w7⟩, w8, w9⟩ := cw
  obtain ⟨y, cc, mL, rt⟩ := q'
  dsimp only at w9
  subst w9
  subst hst
  rw [g_stk]
  have go : ∀ (H1 : Heap) (locs1 : List Loc), Wd w h1 H1 → va_S (w.1 ≤ ·) s.heap H1 locs1 → W p l e R s m args below meth c H1 locs1 (cells + mc1) (slots + ms1) (MQ below (QCr w r h') args s mcT msT (w.1 ≤ ·)) (F0 m (pc + 3) ls (((none : Option Value).map (em w)).toList ++ st.map (em w))) := fun H1 locs1 hW1 hS1 =>
    kk w HB p l e R s m args below meth c mcT msT H1 locs1 _ _ ls C hW1 hS1 hl (by omega) (by omega)
  rcases w1 with w1 | ⟨host, w1⟩
  · exact g_after (va_runI (cc := q.2.1) (nL := q.2.2.1) (Ts := gW) (own := own) (As := As.map (em w)) (rest := st.map (em w)) (n := n) ⟨C.1, C.2.1, C.2.2.1, own_of C hown, fun x hx => hts_of C hx⟩ (hC w HB l) ⟨callB_of n (fun x hx => hts_of C hx) (good_wsq (q' := (y, cc, mL, none)) w5) rfl rfl rfl (hts_of C w4) (hts_of C w1) w6 (g_room (q' := (y, cc, mL, none)) C w7), w8, hts_of C w2⟩ ⟨PCr.blind, g_pre C hW hS (.ref b :: As)⟩ rfl (by rw [List.length_map]; exact hn) hl.1 rfl (lv_room (g_sum (KX_of C) hs)) hd (g_fits C g1 g2)) hS go
  · exact g_after (va_runIN (cc := q.2.1) (nL := q.2.2.1) (Ts := gW) (own := own) (host := host) (As := As.map (em w)) (rest := st.map (em w)) (n := n) ⟨C.1, C.2.1, C.2.2.1, own_of C hown, fun x hx => hts_of C hx⟩ (hC w HB l) ⟨va_cnB n (fun x hx => hts_of C hx) (good_wsq (q' := (y, cc, mL, none)) w5) rfl rfl rfl ((KX_of C).2.1.1 _ w1) (hts_of C w4) w6 (g_room (q' := (y, cc, mL, none)) C w7), w8, hts_of C w2⟩ ⟨PCr.blind, g_pre C hW hS (.ref b :: As)⟩ rfl (by rw [List.length_map]; exact hn) hl.1 rfl (lv_room (g_sum (KX_of C) hs)) hd (g_fits C g1 g2)) hS go
theorem s_callU {own Cn : String} {x : MethodName} {idx n mc1 ms1 b ci N : Nat} {q' : QM} {As st0 : List Value} {fs : List Value} {T : u_T} {r1 : Option Value} {h1 : HP} (cw : CWU own idx Cn x q' n) (hown : q.1.cls = own) (hd : decode q.2.1 pc = .ok (.invokevirtual idx, 3)) (hc : h[b]? = some (.inr (ci, fs))) (hcl : vwCl[ci]? = some (Cn, T, N)) (hn : As.length = n) (hs : (st.map fun v => v.category).sum ≤ 8) (hst : st0 = As.reverse ++ .ref b :: st)
    (hC : Con d q' mc1 ms1 (.ref b :: As) h r1 h1) (kk : Sem (d + 1) q mc ms (pc + 3) L (r1.toList ++ st) h1 r h') : Sem (d + 1) q (mc1 + mc) (ms1 + ms) pc L st0 h r h' := by
  intro w HB p l e R s m args below meth c mcT msT H locs cells slots ls C hW hS hl g1 g2
  obtain ⟨w1, ⟨owner, b0, m0, r0, v1, v2, v3, v4⟩, w2, w3, w4, w5, w6, w7⟩ := cw
  subst hst
  rw [g_stk]
  refine g_after (va_runU (x := x) (cc := q.2.1) (nL := q.2.2.1) (Ts := gW) (own := own) (C := Cn) (owner := owner) (As := As.map (em w)) (rest := st.map (em w)) (n := n) ⟨C.1, C.2.1, C.2.2.1, own_of C hown, fun x hx => hts_of C hx⟩ (hC w HB l) ⟨⟨rfl, rfl, (g_room C w7).1, (g_room C w7).2, pay_in (fun x hx => hts_of C hx) (good_wsq w5), List.mem_cons_self⟩, hts_of C w5, hts_of C w4, v4, fun sig hsig => by rw [hsig] at w6; exact (Option.some.inj w6).symm, hts_of C w1, hts_of C v1, va_Decl.of (hts_of C v2) (hts_of C v3), hts_of C w2, hts_of C w3⟩ ⟨PCr.blind, obj_of (KX_of C) hW hc hcl, g_pre C hW hS (.ref b :: As)⟩ rfl (by rw [List.length_map]; exact hn) hl.1 rfl (lv_room (g_sum (KX_of C) hs)) hd (g_fits C g1 g2)) hS (fun H1 locs1 hW1 hS1 => ?_)
  rw [g_ret]
  exact kk w HB p l e R s m args below meth c mcT msT H1 locs1 _ _ ls C hW1 hS1 hl (by omega) (by omega)
theorem s_callP {own Cn : String} {idx n mc1 ms1 b ci N : Nat} {q' : QM} {As st0 : List Value} {fs : List Value} {T : u_T} {r1 : Option Value} {h1 : HP} (cw : CWP own idx q' n) (hown : q.1.cls = own) (hd : decode q.2.1 pc = .ok (.invokespecial idx, 3)) (hc : h[b]? = some (.inr (ci, fs))) (hcl : vwCl[ci]? = some (Cn, T, N)) (hn : As.length = n) (hs : (st.map fun v => v.category).sum ≤ 8) (hst : st0 = As.reverse ++ .ref b :: st)
    (hC : Con d q' mc1 ms1 (.ref b :: As) h r1 h1) (kk : Sem (d + 1) q mc ms (pc + 3) L (r1.toList ++ st) h1 r h') : Sem (d + 1) q (mc1 + mc) (ms1 + ms) pc L st0 h r h' := by
  intro w HB p l e R s m args below meth c mcT msT H locs cells slots ls C hW hS hl g1 g2
  obtain ⟨w1, v1, v2, w3, w4, w5, w8, w6, w7⟩ := cw
  subst hst
  rw [g_stk]
  refine g_after (va_runSU ((KX_of C).1.1 ci _ hcl).2 (cc := q.2.1) (nL := q.2.2.1) (Ts := gW) (own := own) (C := Cn) (As := As.map (em w)) (rest := st.map (em w)) (n := n) ⟨C.1, C.2.1, C.2.2.1, own_of C hown, fun x hx => hts_of C hx⟩ (hC w HB l) ⟨⟨rfl, rfl, (g_room C w7).1, (g_room C w7).2, pay_in (fun x hx => hts_of C hx) (good_wsq w5), List.mem_cons_self⟩, hts_of C w1, hts_of C v1, hts_of C v2, hts_of C w3, hts_of C w4, hts_of C w5, w8, fun sig hsig => by rw [hsig] at w6; exact (Option.some.inj w6).symm⟩ ⟨PCr.blind, obj_of (KX_of C) hW hc hcl, g_pre C hW hS (.ref b :: As)⟩ rfl (by rw [List.length_map]; exact hn) hl.1 rfl (lv_room (g_sum (KX_of C) hs)) hd (g_fits C g1 g2)) hS (fun H1 locs1 hW1 hS1 => ?_)
  rw [g_ret]
  exact kk w HB p l e R s m args below meth c mcT msT H1 locs1 _ _ ls C hW1 hS1 hl (by omega) (by omega)
theorem s_objInit {own : String} {idx b : Nat} (hown : q.1.cls = own) (hw : Cond.methodLink own idx objectInit ∈ gW) (hw2 : Cond.instanceMethod objectInit ∈ gW) (hw3 : Cond.code objectInit ⟨#[0xb1]⟩ 1 none ∈ gW) (hd : decode q.2.1 pc = .ok (.invokespecial idx, 3)) (hs : (st.map fun v => v.category).sum ≤ 8) (kk : Sem (d + 1) q mc ms (pc + 3) L st h r h') : Sem (d + 1) q mc ms pc L (.ref b :: st) h r h' := by
  intro w HB p l e R s m args below meth c mcT msT H locs cells slots ls C hW hS hl g1 g2
  have e1 := C.2.2.2.2.2.2.2.2.2.2.1
  have e2 := C.2.2.2.2.2.2.2.2.2.2.2.1
  refine W.objInit C.1 C.2.1 (own_of C hown) (hts_of C hw) (hts_of C hw2) (hts_of C hw3) rfl (by rw [C.2.2.1]; exact hl.1) rfl hd (by omega) ?_ (kk w HB p l e R s m args below meth c mcT msT H locs cells slots ls C hW hS hl g1 g2)
  have h9 := g_sum (KX_of C) hs
  show 2 * 0 + _ + 12 ≤ _
  have e3 : ((st.map (em w)).map fun v => v.category).sum ≤ 8 := h9
  omega
theorem nn_of {z : Int32} (hz : ¬ z < 0) : z.toInt = (z.toNatClampNeg : Int) := by
  have hz0 : (0 : Int) ≤ z.toInt := by
    have := Int32.not_lt.mp hz
    simpa using Int32.le_iff_toInt_le.mp this
  show z.toInt = ((z.toInt.toNat : Nat) : Int)
  omega
/-- System.arraycopy between arrays of one type of numbers -/
theorem s_copy {own : String} {idx t i j n0 n1 : Nat} {a0 a1 a2 : HA} {ty : FieldType} {sp dp n : Int32} (hown : q.1.cls = own) (hd : decode q.2.1 pc = .ok (.invokestatic idx, 3)) (hw1 : Cond.methodLink own idx arraycopyName ∈ gW) (hw2 : Cond.native arraycopyName ∈ gW) (hw3 : Cond.static arraycopyName ∈ gW) (hw4 : Cond.initialized "java/lang/System" ∈ gW)
    (hi : h[i]? = some (.inl (t, n0, a0))) (hj : h[j]? = some (.inl (t, n1, a1))) (ht : aTy[t]? = some ty) (hprim : refKind ty = false) (p1 : ¬ sp < 0) (p2 : ¬ dp < 0) (p3 : ¬ n < 0) (p4 : sp.toNatClampNeg + n.toNatClampNeg ≤ n0) (p5 : dp.toNatClampNeg + n.toNatClampNeg ≤ n1) (hfit : ∀ (w : WP) (k : Nat), fits ty (caW w a0 k) = true ∧ caW w a0 k ≠ .null) (hs : (st.map fun v => v.category).sum ≤ 8)
    (he : ∀ (w : WP) (k : Nat), k < n1 → va_cpy (caW w a0) (caW w a1) sp.toNatClampNeg dp.toNatClampNeg n.toNatClampNeg k = caW w a2 k)
    (kk : Sem (d + 1) q mc ms (pc + 3) L st (h.set j (.inl (t, n1, a2))) r h') : Sem (d + 1) q mc ms pc L (.int n :: .int dp :: .ref j :: .int sp :: .ref i :: st) h r h' := by
  intro w HB p l e R s m args below meth c mcT msT H locs cells slots ls C hW hS hl g1 g2
  have f1 := C.2.2.2.2.2.2.2.2.2.2.1
  have f2 := C.2.2.2.2.2.2.2.2.2.2.2.1
  have h9 : ((st.map (em w)).map fun v => v.category).sum ≤ 8 := g_sum (KX_of C) hs
  have hnw : nativeFrameWords "java/lang/System" "arraycopy" 5 ≤ 20 := by decide
  have hc0 : H[w.1 + i]? = some (arrV (w.2.2.2.2 t) n0 (caW w a0)) := hW.2 i _ hi
  have hc1 : H[w.1 + j]? = some (arrV (w.2.2.2.2 t) n1 (caW w a1)) := hW.2 j _ hj
  obtain ⟨-, k0, hk0, cm0, hkk0⟩ := arr_of (KX_of C) ht n0 (caW w a0)
  obtain ⟨-, k1, hk1, cm1, hkk1⟩ := arr_of (KX_of C) ht n1 (caW w a1)
  intro T hT X
  obtain ⟨vm', X', step⟩ := X.arraycopy C.1 (own_of C hown) (hts_of C hw1) (hts_of C hw2) (hts_of C hw3) (hts_of C hw4) (src := w.1 + i) (dst := w.1 + j) (cs := arrV (w.2.2.2.2 t) n0 (caW w a0)) (cd := arrV (w.2.2.2.2 t) n1 (caW w a1)) (srcPos := sp) (destPos := dp) (n := n) (by rw [hT]; exact hc0) (by rw [hT]; exact hc1)
    (fun _ hz => by cases hz) (fun _ hz => by cases hz) (fun hz => by cases hz) (fun hz => by cases hz) hk0 hk1 hkk0 hkk1 (by simp [hprim]) p1 p2 p3
    (by rw [nn_of p1, nn_of p3, arrV_size]; omega)
    (by rw [nn_of p2, nn_of p3, arrV_size]; omega)
    (fun vm₁ _ k hk => by
      have e : (arrV (w.2.2.2.2 t) n0 (caW w a0)).slots.getD (sp.toNatClampNeg + k) .null = caW w a0 (sp.toNatClampNeg + k) := by
        rw [Array.getD_eq_getD_getElem?, arrV_read _ _ (by omega)]
        rfl
      have hf9 := hfit w (sp.toNatClampNeg + k)
      refine ⟨?_, ?_⟩
      · rw [e]
        exact hf9.1
      · rw [e]
        cases a0 with
        | inl f => exact trivial
        | inr z => cases z with
          | inl f => exact trivial
          | inr f => sorry)
    (g := F0 m pc ls (.int n :: .int dp :: .ref (w.1 + j) :: .int sp :: .ref (w.1 + i) :: st.map (em w))) rfl (by rw [C.2.2.1]; exact hl.1) (rest := st.map (em w)) rfl (by rw [C.2.1]; exact hd) (by omega) (by show 2 * 0 + _ + _ ≤ _; omega)
  have e1 : copied (arrV (w.2.2.2.2 t) n0 (caW w a0)) (arrV (w.2.2.2.2 t) n1 (caW w a1)) sp dp n = arrV (w.2.2.2.2 t) n1 (caW w a2) := by
    refine (va_copied (fun z => z) (w.2.2.2.2 t) (w.2.2.2.2 t) (caW w a0) (caW w a1) p4).trans ?_
    unfold arrV
    congr 2
    funext k
    exact he w k.val k.isLt
  rw [e1] at X' step
  have hlt : w.1 + j < H.size := (Array.getElem?_eq_some_iff.mp hc1).1
  have hheap : ((T.setVm vm').setCell (w.1 + j) (arrV (w.2.2.2.2 t) n1 (caW w a2))).heap = H.setIfInBounds (w.1 + j) (arrV (w.2.2.2.2 t) n1 (caW w a2)) := by rw [← hT]; rfl
  have oq : ∀ x : Nat, x ≠ w.1 + j → (H.setIfInBounds (w.1 + j) (arrV (w.2.2.2.2 t) n1 (caW w a2)))[x]? = H[x]? := fun x hx => by simp [Array.getElem?_setIfInBounds, Ne.symm hx]
  obtain ⟨t9, b1, b2⟩ := kk w HB p l e R s m args below meth c mcT msT _ _ cells slots ls C (hW.set (H1 := H.setIfInBounds (w.1 + j) (arrV (w.2.2.2.2 t) n1 (caW w a2))) (by simp) oq (show _ = some _ by simp [Array.getElem?_setIfInBounds, hlt])) ⟨by simp; exact hS.1, fun x x1 x2 => by
      rw [oq x (fun z => x2 (by rw [z]; exact Nat.le_add_right _ _))]
      exact hS.2.1 x x1 x2, fun x hx => by
      rcases List.mem_append.mp hx with z | z
      · exact hS.2.2 x z
      · obtain ⟨y, -, hy⟩ := List.mem_map.mp z
        rw [← hy]
        exact Nat.le_add_right _ _⟩ hl g1 g2 _ hheap X'
  exact ⟨t9, step t9 b1, b2⟩
end Calls
end
