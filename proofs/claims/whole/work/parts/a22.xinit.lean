/-! THINGS IN THE MAKING: the thing stands behind P, what was made for it behind it -/
theorem pl_get {P R : HP} {o : HC} {n : Nat} (hP : P.length = n) : (P ++ (o :: R))[n]? = some o := by
  subst hP
  rw [List.getElem?_append_right (Nat.le_refl _), Nat.sub_self]
  rfl
theorem pl_set {P R : HP} {o o2 : HC} {n : Nat} (hP : P.length = n) : (P ++ (o :: R)).set n o2 = P ++ (o2 :: R) := by
  subst hP
  rw [List.set_append_right _ _ (Nat.le_refl _), Nat.sub_self]
  rfl
theorem pl_len {P R : HP} {o : HC} {n k : Nat} (hP : P.length = n) (hR : R.length = k) : (P ++ (o :: R)).length = n + (k + 1) := by
  rw [List.length_append, List.length_cons, hP, hR]
theorem pl_push (P R S : HP) (o : HC) : (P ++ (o :: R)) ++ S = P ++ (o :: (R ++ S)) := by
  rw [List.append_assoc]
  rfl
section InitR
variable {d mc ms pc : Nat} {q : QM} {L : List (Nat × Value)} {st : List Value} {h : HP} {Qp : PO}
theorem i_newarr {P R : HP} {o : HC} {np k t N : Nat} {ty : FieldType} {aty : ArrayType} {x : Int32} {c0 : HA} (hP : P.length = np) (hR : R.length = k) (hd : decode q.2.1 pc = .ok (.newarray aty, 2)) (hty : newarray.typeOf aty = ty) (hw : Cond.arrayClass ty ∈ gW) (ht : aTy[t]? = some ty) (hp : ∀ (s : State) (cA : ClassId), va_RA s cA ty → s.vm.findClass ("[" ++ ty.toString) = some cA) (hn : ¬ x < 0) (hN : x.toNatClampNeg = N) (hb : N * componentBytes ty ≤ 536870912) (h0 : ∀ w : WP, caW w c0 = fun _ => defaultValue ty)
    (kk : ∀ R2 : HP, R2 = R ++ [.inl (t, N, c0)] → R2.length = k + 1 → Sem d q mc ms (pc + 2) L (.ref (np + (k + 1)) :: st) (P ++ (o :: R2)) Qp) : Sem d q (mc + 1) (ms + N) pc L (.int x :: st) (P ++ (o :: R)) Qp := by
  refine s_newarr hd hty hw ht hp hn hN hb h0 ?_
  rw [pl_len hP hR, pl_push]
  exact kk _ rfl (by rw [List.length_append, hR]; rfl)
theorem i_newref {P R : HP} {o : HC} {np k t N idx : Nat} {own Cn : String} {x : Int32} (hP : P.length = np) (hR : R.length = k) (hd : decode q.2.1 pc = .ok (.anewarray idx, 3)) (hown : q.1.cls = own) (hw : Cond.classLink own idx Cn ∈ gW) (ho : ∀ (w : WP) (s : State), NW w s → va_AO Cn s) (ht : aTy[t]? = some (.object Cn)) (hn : ¬ x < 0) (hN : x.toNatClampNeg = N) (hb : N * 4 ≤ 536870912)
    (kk : ∀ R2 : HP, R2 = R ++ [.inl (t, N, .inr (.inr fun _ => .null))] → R2.length = k + 1 → Sem d q mc ms (pc + 3) L (.ref (np + (k + 1)) :: st) (P ++ (o :: R2)) Qp) : Sem d q (mc + 1) (ms + N) pc L (.int x :: st) (P ++ (o :: R)) Qp := by
  refine s_newref hd hown hw ho ht hn hN hb ?_
  rw [pl_len hP hR, pl_push]
  exact kk _ rfl (by rw [List.length_append, hR]; rfl)
theorem i_put {P R : HP} {np : Nat} {own Cn : String} {T : u_T} {N idx ci k : Nat} {fs : List Value} {v : Value} (F : FL own idx ci k Cn T N) (ty0 : Nat → FieldType) (hty : ∀ k, k < N → parseFieldDescriptor (T k).2.2.1 = some (ty0 k)) (hnm : ∀ a, a < N → ∀ b, b < N → a ≠ b → (T a).2.1 ≠ (T b).2.1) (hown : q.1.cls = own) (hfin : (T k).2.2.2 = false ∨ ((T k).2.2.2 = true ∧ q.1.name = "<init>" ∧ (T k).1 = own)) (hnf : ∀ w : WP, narrow (ty0 k) (em w v) = em w v ∧ fits (ty0 k) (em w v) = true) (hd : decode q.2.1 pc = .ok (.putfield idx, 3)) (hP : P.length = np) (hfs : fs.length = N) (hk : k < N)
    (kk : ∀ fs2 : List Value, fs2 = fs.set k v → fs2.length = N → Sem d q mc ms (pc + 3) L st (P ++ (.inr (ci, fs2) :: R)) Qp) : Sem d q mc ms pc L (v :: .ref np :: st) (P ++ (.inr (ci, fs) :: R)) Qp := by
  refine s_put F ty0 hty hnm hown hfin hnf hd (pl_get hP) (by rw [hfs]; exact hk) ?_
  rw [pl_set hP]
  exact kk _ rfl (by rw [List.length_set]; exact hfs)
theorem i_iast {P R R0 : HP} {o : HC} {np k N : Nat} {f : Nat → Int32} {j x : Int32} (hP : P.length = np) (hR0 : R0.length = k) (hr : R = R0 ++ [.inl (0, N, .inl f)]) (hd : decode q.2.1 pc = .ok (.iastore, 1)) (hin : vp_in j N)
    (kk : ∀ R2 : HP, R2 = R0 ++ [.inl (0, N, .inl (upd f j.toNatClampNeg x))] → R2.length = k + 1 → Sem d q mc ms (pc + 1) L st (P ++ (o :: R2)) Qp) : Sem d q mc ms pc L (.int x :: .int j :: .ref (np + (k + 1)) :: st) (P ++ (o :: R)) Qp := by
  subst hr
  have e1 : (P ++ (o :: R0)).length = np + (k + 1) := pl_len hP hR0
  have e2 : P ++ (o :: (R0 ++ [.inl (0, N, .inl f)])) = (P ++ (o :: R0)) ++ [.inl (0, N, .inl f)] := (pl_push _ _ _ _).symm
  rw [e2]
  refine s_iast hd (by rw [← e1]; exact List.getElem?_concat_length) hin ?_
  rw [← e1, set_last, pl_push]
  exact kk _ rfl (by rw [List.length_append, hR0]; rfl)
theorem i_newO {P R : HP} {o : HC} {np k : Nat} {own Cn : String} {T : u_T} {N idx ci : Nat} {fs : List Value} (hP : P.length = np) (hR : R.length = k) (ty0 : Nat → FieldType) (hty : ∀ k, k < N → parseFieldDescriptor (T k).2.2.1 = some (ty0 k)) (hd : decode q.2.1 pc = .ok (.new idx, 3)) (hown : q.1.cls = own) (hin : ∀ x ∈ u_ws Cn T N, x ∈ gW) (hw1 : Cond.classLink own idx Cn ∈ gW) (hw2 : Cond.instantiable Cn N ∈ gW) (hw3 : Cond.initialized Cn ∈ gW) (hcl : vwCl[ci]? = some (Cn, T, N)) (hfs : ∀ (w : WP) (j : Nat), j < N → defaultValue (ty0 j) = vp_V (fs.map (em w)) j)
    (kk : Sem d q mc ms (pc + 3) L (.ref (np + (k + 1)) :: st) ((P ++ (o :: R)) ++ [.inr (ci, fs)]) Qp) : Sem d q (mc + 1) (ms + N) pc L st (P ++ (o :: R)) Qp := by
  refine s_new ty0 hty hd hown hin hw1 hw2 hw3 hcl hfs ?_
  rw [pl_len hP hR]
  exact kk
theorem i_back {P R S : HP} {o : HC} {k m : Nat} (hR : R.length = k) (hS : S.length = m) (kk : ∀ R2 : HP, R2 = R ++ S → R2.length = k + m → Sem d q mc ms pc L st (P ++ (o :: R2)) Qp) : Sem d q mc ms pc L st ((P ++ (o :: R)) ++ S) Qp := by
  rw [pl_push]
  exact kk _ rfl (by rw [List.length_append, hR, hS])
theorem s_mna5 {own : String} {idx : Nat} (hd : decode q.2.1 pc = .ok (.multianewarray idx 2, 4)) (hown : q.1.cls = own) (hw : Cond.classLink own idx "[[I" ∈ gW)
    (kk : Sem d q mc ms (pc + 4) L (.ref h.length :: st) (h ++ [.inl (7, 5, .inr (.inr fun j => .ref (h.length + 1 + j))), .inl (0, 5, .inl fun _ => 0), .inl (0, 5, .inl fun _ => 0), .inl (0, 5, .inl fun _ => 0), .inl (0, 5, .inl fun _ => 0), .inl (0, 5, .inl fun _ => 0)]) Qp) : Sem d q (mc + 6) (ms + 30) pc L (.int 5 :: .int 5 :: st) h Qp := by
  intro w HB p l e R s m args below meth c mcT msT H locs cells slots ls C hW hS hl h1 h2
  have hcell := C.2.2.2.2.2.2.2.2.2.2.2.2.1
  have hslot := C.2.2.2.2.2.2.2.2.2.2.2.2.2
  have e5 : (5 : Int32).toNatClampNeg = 5 := rfl
  refine g_mna (ty := .int) C.1 C.2.1 (own_of C hown) (hts_of C hw) ((KX_of C).2.1.2.2.2.2.2.2.2.2.2.2) (hts_of C m207) (by decide) (by decide) (by decide) (by decide) (by decide) rfl rfl (by rw [e5]; omega) (by rw [e5]; omega) hd fun cA cy H1 fA fy z1 z2 z3 z4 => ?_
  rw [e5] at z1 z3 z4
  have eA : cA = w.2.2.2.2 7 := Option.some.inj (fA.symm.trans (ra_of (t := 7) (ty := .array .int) (KX_of C) rfl))
  have ey : cy = w.2.2.2.2 0 := Option.some.inj (fy.symm.trans (ra_of (t := 0) (ty := .int) (KX_of C) rfl))
  subst eA; subst ey
  have e6 : F0 m (pc + 4) ls (.ref H.size :: st.map (em w)) = F0 m (pc + 4) ls ((Value.ref h.length :: st).map (em w)) := by rw [hW.1]; rfl
  have hWd : Wd w (h ++ [.inl (7, 5, .inr (.inr fun j => .ref (h.length + 1 + j))), .inl (0, 5, .inl fun _ => 0), .inl (0, 5, .inl fun _ => 0), .inl (0, 5, .inl fun _ => 0), .inl (0, 5, .inl fun _ => 0), .inl (0, 5, .inl fun _ => 0)]) H1 := by
    refine ⟨by rw [z1, hW.1, List.length_append]; simp; omega, fun i ci hi => ?_⟩
    by_cases g : i < h.length
    · rw [List.getElem?_append_left g] at hi
      exact (hW.2 i ci hi).kept (z2 _ (by rw [hW.1]; omega))
    · rw [List.getElem?_append_right (by omega)] at hi
      obtain ⟨r, rfl⟩ : ∃ r, i = h.length + r := ⟨i - h.length, by omega⟩
      rw [Nat.add_sub_cancel_left] at hi
      have hr : r < 6 := (List.getElem?_eq_some_iff.mp hi).1
      have zr : ∀ j, j < 5 → H1[w.1 + (h.length + (j + 1))]? = some (arrV (w.2.2.2.2 0) 5 (fun _ => .int 0)) := fun j hj => by
        have := z4 j hj
        rw [hW.1] at this
        rwa [show w.1 + (h.length + (j + 1)) = w.1 + h.length + 1 + j by omega]
      match r, hr, hi with
      | 0, _, hi =>
        cases hi
        show H1[w.1 + h.length]? = _
        rw [← hW.1, z3, hW.1]
        refine congrArg (fun z => some (arrV (w.2.2.2.2 7) 5 z)) (funext fun j => ?_)
        show Value.ref (w.1 + h.length + 1 + j) = .ref (w.1 + (h.length + 1 + j))
        rw [Nat.add_assoc w.1, Nat.add_assoc w.1]
      | 1, _, hi => cases hi; exact zr 0 (by decide)
      | 2, _, hi => cases hi; exact zr 1 (by decide)
      | 3, _, hi => cases hi; exact zr 2 (by decide)
      | 4, _, hi => cases hi; exact zr 3 (by decide)
      | 5, _, hi => cases hi; exact zr 4 (by decide)
  refine W.eq e6 (kk w HB p l e R s m args below meth c mcT msT H1 _ (cells + 1 + 5) (slots + 5 + 5 * 5) ls C hWd ⟨Nat.le_trans hS.1 (by omega), fun x x1 x2 => (z2 x (Nat.lt_of_lt_of_le x1 hS.1)).trans (hS.2.1 x x1 x2), hS.2.2⟩ hl (by omega) (by omega))
theorem i_mna {P R : HP} {o : HC} {np k : Nat} {own : String} {idx : Nat} (hP : P.length = np) (hR : R.length = k) (hd : decode q.2.1 pc = .ok (.multianewarray idx 2, 4)) (hown : q.1.cls = own) (hw : Cond.classLink own idx "[[I" ∈ gW)
    (kk : ∀ R2 : HP, R2 = R ++ [.inl (7, 5, .inr (.inr fun j => .ref (np + (k + 1) + 1 + j))), .inl (0, 5, .inl fun _ => 0), .inl (0, 5, .inl fun _ => 0), .inl (0, 5, .inl fun _ => 0), .inl (0, 5, .inl fun _ => 0), .inl (0, 5, .inl fun _ => 0)] → R2.length = k + 6 → Sem d q mc ms (pc + 4) L (.ref (np + (k + 1)) :: st) (P ++ (o :: R2)) Qp) : Sem d q (mc + 6) (ms + 30) pc L (.int 5 :: .int 5 :: st) (P ++ (o :: R)) Qp := by
  refine s_mna5 hd hown hw ?_
  rw [pl_len hP hR, pl_push]
  exact kk _ rfl (by rw [List.length_append, hR]; rfl)
end InitR
