section Rules2
variable {d mc ms pc : Nat} {q : QM} {L : List (Nat × Value)} {st : List Value} {h : HP} {Qp : PO}
/-- a field: the k-th of class ci; constant idx of class own names it -/
def FL (own : String) (idx ci k : Nat) (Cn : String) (T : u_T) (N : Nat) : Prop :=
  vwCl[ci]? = some (Cn, T, N) ∧ k < N ∧ (∀ x ∈ u_ws Cn T N, x ∈ gW) ∧ ∃ ref, Cond.fieldLink own idx ref (T k).2.1 (T k).2.2.1 ∈ gW ∧ (ref = (T k).1 ∨ Cond.sameField ref (T k).1 (T k).2.1 (T k).2.2.1 ∈ gW)
theorem hts_of {w : WP} {HB : Heap} {p : Program} {R : Room} {s : State} {m : MethodId} {args : Array Value} {meth : Method} {c : Code} {mcT msT : Nat} (C : SCt w HB d q p R s m args meth c mcT msT) {x : Cond} (hx : x ∈ gW) : x.before args s = true := C.2.2.2.2.2.2.1 _ (List.mem_cons_of_mem _ hx)
theorem KX_of {w : WP} {HB : Heap} {p : Program} {R : Room} {s : State} {m : MethodId} {args : Array Value} {meth : Method} {c : Code} {mcT msT : Nat} (C : SCt w HB d q p R s m args meth c mcT msT) : KX w HB s := C.2.2.2.2.2.2.2.2.1
theorem own_of {w : WP} {HB : Heap} {p : Program} {R : Room} {s : State} {m : MethodId} {args : Array Value} {meth : Method} {c : Code} {mcT msT : Nat} {own : String} (C : SCt w HB d q p R s m args meth c mcT msT) (hown : q.1.cls = own) : s.vm.findClass own = some m.cls := hown ▸ C.2.2.2.2.2.1
theorem low_of {w : WP} {HB : Heap} {p : Program} {R : Room} {s : State} {m : MethodId} {args : Array Value} {meth : Method} {c : Code} {mcT msT : Nat} {H : Heap} {locs : List Loc} (C : SCt w HB d q p R s m args meth c mcT msT) (hS : va_S (w.1 ≤ ·) s.heap H locs) : ∀ a : Nat, a < w.1 → H[a]? = HB[a]? := fun a ha => by
  have hl := C.2.2.2.2.2.2.2.2.2.1
  rw [hS.2.1 a (Nat.lt_of_lt_of_le ha hl.1) (Nat.not_le.mpr ha)]
  exact hl.2 a ha
theorem s_get {own Cn : String} {T : u_T} {N idx ci k i : Nat} {fs : List Value} {v : Value} (F : FL own idx ci k Cn T N) (hown : q.1.cls = own) (hd : decode q.2.1 pc = .ok (.getfield idx, 3)) (hc : h[i]? = some (.inr (ci, fs))) (hv : fs[k]? = some v) (kk : Sem d q mc ms (pc + 3) L (v :: st) h Qp) : Sem d q mc ms pc L (.ref i :: st) h Qp := by
  intro w HB p l e R s m args below meth c mcT msT H locs cells slots ls C hW hS hl h1 h2
  obtain ⟨hcl, hk, hin, ref, hlink, hsame⟩ := F
  obtain ⟨r0, hr0, cell, q1, q2, q3, q4⟩ := hW.2 i _ hc
  cases hcl.symm.trans hr0
  obtain ⟨hSl, hfc, kC, hkC, hkind⟩ := (KX_of C).1.1 ci _ hcl
  obtain ⟨cf, kf, fi, f, hi, hsl⟩ := hSl k hk
  have hsame' : s.fieldFound? ref (T k).2.1 (T k).2.2.1 = some (cf, kf, fi, f) := by
    rcases hsame with rfl | hs
    · exact hi
    · exact u_same (hts_of C hs) _ hi
  refine W.getf C.1 C.2.1 (own_of C hown) (hts_of C hlink) hsame' (u_facts hfc hkC (u_lays (ws := gW) (fun x hx => hts_of C hx) hin hk) hi).1 q1 (by rw [q3]; exact fun h => by cases h) (v := em w v) ?_ rfl rfl hd (kk w HB p l e R s m args below meth c mcT msT H locs cells slots ls C hW hS hl h1 h2)
  rw [hsl, q4 k hk]
  simp [vp_V, hv]
theorem vp_V_em (w : WP) {fs : List Value} {k : Nat} (hk : k < fs.length) (v : Value) (j : Nat) : updV (vp_V (fs.map (em w))) k (em w v) j = vp_V ((fs.set k v).map (em w)) j := by
  rw [List.map_set]
  exact vp_updV_set (by rw [List.length_map]; exact hk) _ j
theorem s_put {own Cn : String} {T : u_T} {N idx ci k i : Nat} {fs : List Value} {v : Value} (F : FL own idx ci k Cn T N) (ty0 : Nat → FieldType) (hty : ∀ k, k < N → parseFieldDescriptor (T k).2.2.1 = some (ty0 k)) (hnm : ∀ a, a < N → ∀ b, b < N → a ≠ b → (T a).2.1 ≠ (T b).2.1) (hown : q.1.cls = own) (hfin : (T k).2.2.2 = false ∨ ((T k).2.2.2 = true ∧ q.1.name = "<init>" ∧ (T k).1 = own)) (hnf : ∀ w : WP, narrow (ty0 k) (em w v) = em w v ∧ fits (ty0 k) (em w v) = true) (hd : decode q.2.1 pc = .ok (.putfield idx, 3)) (hc : h[i]? = some (.inr (ci, fs))) (hlen : k < fs.length)
    (kk : Sem d q mc ms (pc + 3) L st (h.set i (.inr (ci, fs.set k v))) Qp) : Sem d q mc ms pc L (v :: .ref i :: st) h Qp := by
  intro w HB p l e R s m args below meth c mcT msT H locs cells slots ls C hW hS hl h1 h2
  obtain ⟨hcl, hk, hin, ref, hlink, hsame⟩ := F
  have htsL : ∀ x ∈ gW, x.before args s = true := fun x hx => hts_of C hx
  have hap := va_apart (own := own) (tys := tyL w.2.2.2.2) (D := w.2.2.2.1) (cl := vwCl) htsL hin ty0 hty hnm (KX_of C).1 hcl
  obtain ⟨r0, hr0, cell, q1, q2, q3, q4⟩ := hW.2 i _ hc
  cases hcl.symm.trans hr0
  obtain ⟨hSl, hfc, kC, hkC, hkind⟩ := (KX_of C).1.1 ci _ hcl
  obtain ⟨cf, kf, fi, f, hi, hsl⟩ := hSl k hk
  have hsame' : s.fieldFound? ref (T k).2.1 (T k).2.2.1 = some (cf, kf, fi, f) := by
    rcases hsame with rfl | hs
    · exact hi
    · exact u_same (hts_of C hs) _ hi
  have hst := (u_facts hfc hkC (u_lays htsL hin hk) hi).1
  have hlay := htsL _ (hin _ (u_in_lay hk))
  unfold u_lay at hlay
  have fin : ∀ H' : Heap, H'[w.1 + i]? = some (cell.setSlot f.slot (em w v)) → H'.size = H.size → (∀ q, q ≠ w.1 + i → H'[q]? = H[q]?) → W p l e R s m args below meth c H' (locs ++ [⟨w.1 + i, f.slot⟩]) cells slots (MQ below (QCr w Qp) args s mcT msT (w.1 ≤ ·)) (F0 m (pc + 3) ls (st.map (em w))) := fun H' e1 e2 e3 => by
    refine kk w HB p l e R s m args below meth c mcT msT H' _ cells slots ls C (hW.set e2 e3 ⟨_, hcl, ?_⟩) (hS.put e2 e3 (Nat.le_add_right _ _)) hl h1 h2
    rw [hsl] at e1
    exact t_OB.to (V := updV (vp_V (fs.map (em w))) k (em w v)) ⟨_, e1, q2, q3, t_set q4 hap hk (em w v)⟩ (fun j _ => vp_V_em w hlen v j)
  rcases hfin with hf | ⟨hf, hini, hdecl⟩
  · rw [if_neg (by rw [hf]; decide)] at hlay
    exact W.putK C.1 C.2.1 (f := f) ⟨own_of C hown, hts_of C hlink, ⟨_, _, _, hsame'⟩, hst⟩ (by rw [q2]; exact u_store hfc hkC hkind hlay hi (hty k hk) (hnf w).1 (hnf w).2) q1 q3 (by rw [hsl]; exact k2_hasslot (q4 k hk)) rfl rfl hd fin
  · rw [if_pos hf] at hlay
    have hcf : m.cls = cf := by
      obtain ⟨_, _, c', _, _, _, -, -, hf', -, -, -, hown2, -⟩ := Cond.laysFinal_spec hlay
      have e1 : c' = cf := by have := hi.symm.trans hf'; simp at this; exact this.1.symm
      rw [hdecl] at hown2
      rw [← e1]; exact Option.some.inj ((own_of C hown).symm.trans hown2)
    exact W.putFinK C.1 C.2.1 (own_of C hown) (hts_of C hlink) hsame' hst hcf (C.2.2.2.2.1.trans hini) (by rw [q2]; exact u_fits hfc hkC hkind (Or.inr hlay) hi (hty k hk) (hnf w).1 (hnf w).2) q1 q3 (by rw [hsl]; exact k2_hasslot (q4 k hk)) rfl rfl hd fin
theorem arr_of {w : WP} {HB : Heap} {s : State} (hK : KX w HB s) {t : Nat} {ty : FieldType} (ht : aTy[t]? = some ty) (n : Nat) (z : Nat → Value) : s.isArrayOf (arrV (w.2.2.2.2 t) n z) ty := (hK.1.2 t _ (tyL_at _ ht)).1 n z
theorem ra_of {w : WP} {HB : Heap} {s : State} (hK : KX w HB s) {t : Nat} {ty : FieldType} (ht : aTy[t]? = some ty) : va_RA s (w.2.2.2.2 t) ty := (hK.1.2 t _ (tyL_at _ ht)).2
theorem s_alen {t n i : Nat} {a : HA} {ty : FieldType} {v : Int32} (hd : decode q.2.1 pc = .ok (.arraylength, 1)) (hc : h[i]? = some (.inl (t, n, a))) (ht : aTy[t]? = some ty) (hv : Int32.ofNat n = v) (kk : Sem d q mc ms (pc + 1) L (.int v :: st) h Qp) : Sem d q mc ms pc L (.ref i :: st) h Qp := by
  intro w HB p l e R s m args below meth c mcT msT H locs cells slots ls C hW hS hl h1 h2
  exact W.alen C.1 C.2.1 (hW.2 i _ hc) (arr_of (KX_of C) ht _ _) (by rw [arrV_size]; exact hv) rfl rfl hd (kk w HB p l e R s m args below meth c mcT msT H locs cells slots ls C hW hS hl h1 h2)
theorem upd_i (w : WP) (f : Nat → Int32) (k : Nat) (x : Int32) : updV (caW w (.inl f)) k (.int x) = caW w (.inl (upd f k x)) := by
  funext j
  simp only [updV, caW, upd]
  split <;> rfl
theorem upd_l (w : WP) (f : Nat → Int64) (k : Nat) (x : Int64) : updV (caW w (.inr (.inl f))) k (.long x) = caW w (.inr (.inl (vp_updL f k x))) := by
  funext j
  simp only [updV, caW, vp_updL]
  split <;> rfl
theorem upd_r (w : WP) (f : Nat → Value) (k : Nat) (x : Value) : updV (caW w (.inr (.inr f))) k (em w x) = caW w (.inr (.inr (va_up f k x))) := by
  funext j
  simp only [updV, caW, va_up]
  split <;> rfl
-- GENERATED
theorem s_iald {n i : Nat} {f : Nat → Int32} {x : Int32} (hd : decode q.2.1 pc = .ok (.iaload, 1)) (hc : h[i]? = some (.inl (0, n, .inl f))) (hin : vp_in x n) (kk : Sem d q mc ms (pc + 1) L (.int (f x.toNatClampNeg) :: st) h Qp) : Sem d q mc ms pc L (.int x :: .ref i :: st) h Qp := by
  intro w HB p l e R s m args below meth c mcT msT H locs cells slots ls C hW hS hl h1 h2
  exact W.iald C.1 C.2.1 (hW.2 i _ hc) (arr_of (KX_of C) rfl _ _) (fun z => by cases z) (by show ¬ (x < 0 ∨ (arrV _ _ _).slots.size ≤ _); rw [arrV_size]; exact hin) (arrV_read _ _ (Nat.not_le.mp fun z => hin (Or.inr z))) rfl rfl hd (kk w HB p l e R s m args below meth c mcT msT H locs cells slots ls C hW hS hl h1 h2)

theorem s_zald {n i : Nat} {f : Nat → Int32} {x : Int32} (hd : decode q.2.1 pc = .ok (.baload, 1)) (hc : h[i]? = some (.inl (3, n, .inl f))) (hin : vp_in x n) (kk : Sem d q mc ms (pc + 1) L (.int (f x.toNatClampNeg) :: st) h Qp) : Sem d q mc ms pc L (.int x :: .ref i :: st) h Qp := by
  intro w HB p l e R s m args below meth c mcT msT H locs cells slots ls C hW hS hl h1 h2
  exact W.zald C.1 C.2.1 (hW.2 i _ hc) (arr_of (KX_of C) rfl _ _) (fun z => by cases z) (by show ¬ (x < 0 ∨ (arrV _ _ _).slots.size ≤ _); rw [arrV_size]; exact hin) (arrV_read _ _ (Nat.not_le.mp fun z => hin (Or.inr z))) rfl rfl hd (kk w HB p l e R s m args below meth c mcT msT H locs cells slots ls C hW hS hl h1 h2)

theorem s_cald {n i : Nat} {f : Nat → Int32} {x : Int32} (hd : decode q.2.1 pc = .ok (.caload, 1)) (hc : h[i]? = some (.inl (2, n, .inl f))) (hin : vp_in x n) (kk : Sem d q mc ms (pc + 1) L (.int (f x.toNatClampNeg) :: st) h Qp) : Sem d q mc ms pc L (.int x :: .ref i :: st) h Qp := by
  intro w HB p l e R s m args below meth c mcT msT H locs cells slots ls C hW hS hl h1 h2
  exact W.cald C.1 C.2.1 (hW.2 i _ hc) (arr_of (KX_of C) rfl _ _) (fun z => by cases z) (by show ¬ (x < 0 ∨ (arrV _ _ _).slots.size ≤ _); rw [arrV_size]; exact hin) (arrV_read _ _ (Nat.not_le.mp fun z => hin (Or.inr z))) rfl rfl hd (kk w HB p l e R s m args below meth c mcT msT H locs cells slots ls C hW hS hl h1 h2)

theorem s_lald {n i : Nat} {f : Nat → Int64} {x : Int32} (hd : decode q.2.1 pc = .ok (.laload, 1)) (hc : h[i]? = some (.inl (1, n, .inr (.inl f)))) (hin : vp_in x n) (kk : Sem d q mc ms (pc + 1) L (.long (f x.toNatClampNeg) :: st) h Qp) : Sem d q mc ms pc L (.int x :: .ref i :: st) h Qp := by
  intro w HB p l e R s m args below meth c mcT msT H locs cells slots ls C hW hS hl h1 h2
  exact W.lald C.1 C.2.1 (hW.2 i _ hc) (arr_of (KX_of C) rfl _ _) (fun z => by cases z) (by show ¬ (x < 0 ∨ (arrV _ _ _).slots.size ≤ _); rw [arrV_size]; exact hin) (arrV_read _ _ (Nat.not_le.mp fun z => hin (Or.inr z))) rfl rfl hd (kk w HB p l e R s m args below meth c mcT msT H locs cells slots ls C hW hS hl h1 h2)

theorem s_iast {n i : Nat} {f : Nat → Int32} {j : Int32} {x : Int32} (hd : decode q.2.1 pc = .ok (.iastore, 1)) (hc : h[i]? = some (.inl (0, n, .inl f))) (hin : vp_in j n) (kk : Sem d q mc ms (pc + 1) L st (h.set i (.inl (0, n, .inl (upd f j.toNatClampNeg x)))) Qp) : Sem d q mc ms pc L (.int x :: .int j :: .ref i :: st) h Qp := by
  intro w HB p l e R s m args below meth c mcT msT H locs cells slots ls C hW hS hl h1 h2
  refine W.iast C.1 C.2.1 (hW.2 i _ hc) (arr_of (KX_of C) rfl _ _) (fun z => by cases z) (by show ¬ (j < 0 ∨ (arrV _ _ _).slots.size ≤ _); rw [arrV_size]; exact hin) rfl rfl hd fun H' e1 e2 e3 => ?_
  refine kk w HB p l e R s m args below meth c mcT msT H' _ cells slots ls C (hW.set e2 e3 ?_) (hS.put e2 e3 (Nat.le_add_right _ _)) hl h1 h2
  · rw [arrV_store, upd_i] at e1
    exact e1

theorem s_zast {n i : Nat} {f : Nat → Int32} {j : Int32} {x : Int32} (hd : decode q.2.1 pc = .ok (.bastore, 1)) (hc : h[i]? = some (.inl (3, n, .inl f))) (hin : vp_in j n) (hz : narrow .boolean (.int x) = .int x) (kk : Sem d q mc ms (pc + 1) L st (h.set i (.inl (3, n, .inl (upd f j.toNatClampNeg x)))) Qp) : Sem d q mc ms pc L (.int x :: .int j :: .ref i :: st) h Qp := by
  intro w HB p l e R s m args below meth c mcT msT H locs cells slots ls C hW hS hl h1 h2
  refine W.zast C.1 C.2.1 (hW.2 i _ hc) (arr_of (KX_of C) rfl _ _) (fun z => by cases z) (by show ¬ (j < 0 ∨ (arrV _ _ _).slots.size ≤ _); rw [arrV_size]; exact hin) rfl rfl hd fun H' e1 e2 e3 => ?_
  refine kk w HB p l e R s m args below meth c mcT msT H' _ cells slots ls C (hW.set e2 e3 ?_) (hS.put e2 e3 (Nat.le_add_right _ _)) hl h1 h2
  · rw [hz] at e1
    rw [arrV_store, upd_i] at e1
    exact e1

theorem s_cast {n i : Nat} {f : Nat → Int32} {j : Int32} {x : Int32} (hd : decode q.2.1 pc = .ok (.castore, 1)) (hc : h[i]? = some (.inl (2, n, .inl f))) (hin : vp_in j n) (hz : narrow .char (.int x) = .int x) (kk : Sem d q mc ms (pc + 1) L st (h.set i (.inl (2, n, .inl (upd f j.toNatClampNeg x)))) Qp) : Sem d q mc ms pc L (.int x :: .int j :: .ref i :: st) h Qp := by
  intro w HB p l e R s m args below meth c mcT msT H locs cells slots ls C hW hS hl h1 h2
  refine W.cast C.1 C.2.1 (hW.2 i _ hc) (arr_of (KX_of C) rfl _ _) (fun z => by cases z) (by show ¬ (j < 0 ∨ (arrV _ _ _).slots.size ≤ _); rw [arrV_size]; exact hin) rfl rfl hd fun H' e1 e2 e3 => ?_
  refine kk w HB p l e R s m args below meth c mcT msT H' _ cells slots ls C (hW.set e2 e3 ?_) (hS.put e2 e3 (Nat.le_add_right _ _)) hl h1 h2
  · rw [hz] at e1
    rw [arrV_store, upd_i] at e1
    exact e1

theorem s_last {n i : Nat} {f : Nat → Int64} {j : Int32} {x : Int64} (hd : decode q.2.1 pc = .ok (.lastore, 1)) (hc : h[i]? = some (.inl (1, n, .inr (.inl f)))) (hin : vp_in j n) (kk : Sem d q mc ms (pc + 1) L st (h.set i (.inl (1, n, .inr (.inl (vp_updL f j.toNatClampNeg x))))) Qp) : Sem d q mc ms pc L (.long x :: .int j :: .ref i :: st) h Qp := by
  intro w HB p l e R s m args below meth c mcT msT H locs cells slots ls C hW hS hl h1 h2
  refine W.last C.1 C.2.1 (hW.2 i _ hc) (arr_of (KX_of C) rfl _ _) (fun z => by cases z) (by show ¬ (j < 0 ∨ (arrV _ _ _).slots.size ≤ _); rw [arrV_size]; exact hin) rfl rfl hd fun H' e1 e2 e3 => ?_
  refine kk w HB p l e R s m args below meth c mcT msT H' _ cells slots ls C (hW.set e2 e3 ?_) (hS.put e2 e3 (Nat.le_add_right _ _)) hl h1 h2
  · rw [arrV_store, upd_l] at e1
    exact e1

theorem s_aald {t n i : Nat} {f : Nat → Value} {x : Int32} {v : Value} {ty : FieldType} (hd : decode q.2.1 pc = .ok (.aaload, 1)) (hc : h[i]? = some (.inl (t, n, .inr (.inr f)))) (ht : aTy[t]? = some ty) (hr : ty.isReference = true) (hin : vp_in x n) (hv : f x.toNatClampNeg = v) (kk : Sem d q mc ms (pc + 1) L (v :: st) h Qp) : Sem d q mc ms pc L (.int x :: .ref i :: st) h Qp := by
  intro w HB p l e R s m args below meth c mcT msT H locs cells slots ls C hW hS hl h1 h2
  subst hv
  exact W.aald C.1 C.2.1 (hW.2 i _ hc) (arr_of (KX_of C) ht _ _) hr (fun z => by cases z) (by show ¬ (x < 0 ∨ (arrV _ _ _).slots.size ≤ _); rw [arrV_size]; exact hin) (arrV_read _ _ (Nat.not_le.mp fun z => hin (Or.inr z))) rfl rfl hd (kk w HB p l e R s m args below meth c mcT msT H locs cells slots ls C hW hS hl h1 h2)
theorem asg_of {w : WP} {HB : Heap} {s : State} (hK : KX w HB s) {Cn E : String} (hE : Cn = E ∨ (Cn, E) ∈ castL) {comp c0 : ClassId} (f1 : s.vm.findClass E = some comp) (f2 : s.vm.findClass Cn = some c0) : s.vm.assignable c0 comp = true := by
  rcases hE with rfl | hE
  · exact vb_asgS comp c0 f1 f2
  · exact vb_asgC (hK.2.1.2.1 _ hE) comp c0 f1 f2
theorem s_aast {t n i j ci N : Nat} {f : Nat → Value} {fs : List Value} {x : Int32} {Cn E : String} {T : u_T} (hd : decode q.2.1 pc = .ok (.aastore, 1)) (hc : h[i]? = some (.inl (t, n, .inr (.inr f)))) (ht : aTy[t]? = some (.object E)) (hv : h[j]? = some (.inr (ci, fs))) (hcl : vwCl[ci]? = some (Cn, T, N)) (hE : Cn = E ∨ (Cn, E) ∈ castL) (hin : vp_in x n) (kk : Sem d q mc ms (pc + 1) L st (h.set i (.inl (t, n, .inr (.inr (va_up f x.toNatClampNeg (.ref j)))))) Qp) : Sem d q mc ms pc L (.ref j :: .int x :: .ref i :: st) h Qp := by
  intro w HB p l e R s m args below meth c mcT msT H locs cells slots ls C hW hS hl h1 h2
  obtain ⟨kA, comp, k1, k2, k3, -⟩ := ra_of (KX_of C) ht
  obtain ⟨r0, hr0, cellV, g1, g2, g3, -⟩ := hW.2 j _ hv
  cases hcl.symm.trans hr0
  have hcls := ((KX_of C).1.1 ci _ hcl).2
  obtain ⟨kE, hkE, -⟩ := Vm.findClass_spec k3
  obtain ⟨kC, hkC, -⟩ := hcls.2
  refine W.aast C.1 C.2.1 (hW.2 i _ hc) (fun z hz => by cases hz) (fun hz => by cases hz) k1 k2 rfl hkE ⟨fun z => hin (Or.inl z), by show _ < (arrV _ _ _).slots.size; rw [arrV_size]; exact Nat.not_le.mp fun z => hin (Or.inr z)⟩ g1 (fun z hz => by rw [g3] at hz; cases hz) (by rw [g2]; exact hkC) (by rw [g2]; exact asg_of (KX_of C) hE k3 hcls.1) rfl rfl hd fun H' e1 e2 e3 => ?_
  refine kk w HB p l e R s m args below meth c mcT msT H' _ cells slots ls C (hW.set e2 e3 ?_) (hS.put e2 e3 (Nat.le_add_right _ _)) hl h1 h2
  have e4 := upd_r w f x.toNatClampNeg (.ref j)
  rw [arrV_store] at e1
  exact e1.trans (congrArg (fun z => some (arrV (w.2.2.2.2 t) n z)) e4)
theorem s_aast0 {t n i : Nat} {f : Nat → Value} {x : Int32} {E : String} (hd : decode q.2.1 pc = .ok (.aastore, 1)) (hc : h[i]? = some (.inl (t, n, .inr (.inr f)))) (ht : aTy[t]? = some (.object E)) (hin : vp_in x n) (kk : Sem d q mc ms (pc + 1) L st (h.set i (.inl (t, n, .inr (.inr (va_up f x.toNatClampNeg .null))))) Qp) : Sem d q mc ms pc L (.null :: .int x :: .ref i :: st) h Qp := by
  intro w HB p l e R s m args below meth c mcT msT H locs cells slots ls C hW hS hl h1 h2
  refine va_WaastN (C := E) C.1 C.2.1 (hW.2 i _ hc) (arr_of (KX_of C) ht _ _) (fun hz => by cases hz) (by show ¬ (x < 0 ∨ (arrV _ _ _).slots.size ≤ _); rw [arrV_size]; exact hin) rfl rfl hd fun H' e1 e2 e3 => ?_
  refine kk w HB p l e R s m args below meth c mcT msT H' _ cells slots ls C (hW.set e2 e3 ?_) (hS.put e2 e3 (Nat.le_add_right _ _)) hl h1 h2
  have e4 := upd_r w f x.toNatClampNeg .null
  rw [arrV_store] at e1
  exact e1.trans (congrArg (fun z => some (arrV (w.2.2.2.2 t) n z)) e4)
theorem box_of {w : WP} {HB : Heap} {p : Program} {R : Room} {s : State} {m : MethodId} {args : Array Value} {meth : Method} {c : Code} {mcT msT : Nat} {H : Heap} {locs : List Loc} (C : SCt w HB d q p R s m args meth c mcT msT) (hS : va_S (w.1 ≤ ·) s.heap H locs) {k : Nat} (hk : k < 256) : ∃ cell : Cell, H[w.2.1 k]? = some cell ∧ cell.vm.isStatics = false ∧ s.vm.findClass "java/lang/Integer" = some cell.cls := by
  obtain ⟨cell, g1, g2, g3, g4⟩ := ((KX_of C).2.2.1).1 k hk
  exact ⟨cell, by rw [low_of C hS _ (Nat.not_le.mp g4)]; exact g1, g2, g3⟩
theorem s_aastB {n i : Nat} {f : Nat → Value} {x : Int32} {j : UInt32} (hd : decode q.2.1 pc = .ok (.aastore, 1)) (hc : h[i]? = some (.inl (8, n, .inr (.inr f)))) (hj : j.toNat < 256) (hin : vp_in x n) (kk : Sem d q mc ms (pc + 1) L st (h.set i (.inl (8, n, .inr (.inr (va_up f x.toNatClampNeg (.float j)))))) Qp) : Sem d q mc ms pc L (.float j :: .int x :: .ref i :: st) h Qp := by
  intro w HB p l e R s m args below meth c mcT msT H locs cells slots ls C hW hS hl h1 h2
  obtain ⟨kA, comp, k1, k2, k3, -⟩ := ra_of (t := 8) (KX_of C) rfl
  obtain ⟨cellV, g1, g2, g3⟩ := box_of C hS hj
  obtain ⟨kE, hkE, -⟩ := Vm.findClass_spec k3
  obtain ⟨kC, hkC, -⟩ := Vm.findClass_spec g3
  refine W.aast C.1 C.2.1 (hW.2 i _ hc) (fun z hz => by cases hz) (fun hz => by cases hz) k1 k2 rfl hkE ⟨fun z => hin (Or.inl z), by show _ < (arrV _ _ _).slots.size; rw [arrV_size]; exact Nat.not_le.mp fun z => hin (Or.inr z)⟩ g1 (fun z hz => by rw [hz] at g2; cases g2) hkC (asg_of (KX_of C) (Or.inr (by decide)) k3 g3) rfl rfl hd fun H' e1 e2 e3 => ?_
  refine kk w HB p l e R s m args below meth c mcT msT H' _ cells slots ls C (hW.set e2 e3 ?_) (hS.put e2 e3 (Nat.le_add_right _ _)) hl h1 h2
  have e4 := upd_r w f x.toNatClampNeg (.float j)
  rw [arrV_store] at e1
  exact e1.trans (congrArg (fun z => some (arrV (w.2.2.2.2 8) n z)) e4)
theorem s_newarr {t N : Nat} {ty : FieldType} {aty : ArrayType} {n : Int32} {c0 : HA} (hd : decode q.2.1 pc = .ok (.newarray aty, 2)) (hty : newarray.typeOf aty = ty) (hw : Cond.arrayClass ty ∈ gW) (ht : aTy[t]? = some ty) (hp : ∀ (s : State) (cA : ClassId), va_RA s cA ty → s.vm.findClass ("[" ++ ty.toString) = some cA) (hn : ¬ n < 0) (hN : n.toNatClampNeg = N) (hb : N * componentBytes ty ≤ 536870912) (h0 : ∀ w : WP, caW w c0 = fun _ => defaultValue ty)
    (kk : Sem d q mc ms (pc + 2) L (.ref h.length :: st) (h ++ [.inl (t, N, c0)]) Qp) : Sem d q (mc + 1) (ms + N) pc L (.int n :: st) h Qp := by
  intro w HB p l e R s m args below meth c mcT msT H locs cells slots ls C hW hS hl h1 h2
  subst hty
  have hcell := C.2.2.2.2.2.2.2.2.2.2.2.2.1
  have hslot := C.2.2.2.2.2.2.2.2.2.2.2.2.2
  refine va_newaK C.1 C.2.1 (hts_of C hw) rfl hd rfl hn hN hb (by omega) (by omega) rfl fun H' cA e1 e2 e3 _ hNm => ?_
  have eA : cA = w.2.2.2.2 t := Option.some.inj (hNm.symm.trans (hp s _ (ra_of (KX_of C) ht)))
  subst eA
  have e5 : F0 m (pc + 2) ls (.ref H.size :: st.map (em w)) = F0 m (pc + 2) ls ((Value.ref h.length :: st).map (em w)) := by rw [hW.1]; rfl
  refine W.eq e5 (kk w HB p l e R s m args below meth c mcT msT H' _ (cells + 1) (slots + N) ls C (hW.push e2 e3 ?_) ⟨Nat.le_trans hS.1 (by omega), fun x g1 g2 => (e3 x (Nat.lt_of_lt_of_le g1 hS.1)).trans (hS.2.1 x g1 g2), hS.2.2⟩ hl (by omega) (by omega))
  show H'[w.1 + h.length]? = _
  rw [← hW.1, e1, h0 w]
theorem s_newref {t N idx : Nat} {own Cn : String} {n : Int32} (hd : decode q.2.1 pc = .ok (.anewarray idx, 3)) (hown : q.1.cls = own) (hw : Cond.classLink own idx Cn ∈ gW) (ho : ∀ (w : WP) (s : State), NW w s → va_AO Cn s) (ht : aTy[t]? = some (.object Cn)) (hn : ¬ n < 0) (hN : n.toNatClampNeg = N) (hb : N * 4 ≤ 536870912)
    (kk : Sem d q mc ms (pc + 3) L (.ref h.length :: st) (h ++ [.inl (t, N, .inr (.inr fun _ => .null))]) Qp) : Sem d q (mc + 1) (ms + N) pc L (.int n :: st) h Qp := by
  intro w HB p l e R s m args below meth c mcT msT H locs cells slots ls C hW hS hl h1 h2
  subst hN
  have hcell := C.2.2.2.2.2.2.2.2.2.2.2.2.1
  have hslot := C.2.2.2.2.2.2.2.2.2.2.2.2.2
  refine W.anew C.1 C.2.1 (own_of C hown) (hts_of C hw) (va_AO.use (ho w s (KX_of C).2.1)) rfl hd rfl hn hb (by omega) (by omega) fun cA kA comp f1 f2 f3 f4 => ?_
  obtain ⟨-, -, -, -, -, k4⟩ := ra_of (KX_of C) ht
  have eA : cA = w.2.2.2.2 t := Option.some.inj (f1.symm.trans k4)
  subst eA
  have e5 : F0 m (pc + 3) ls (.ref H.size :: st.map (em w)) = F0 m (pc + 3) ls ((Value.ref h.length :: st).map (em w)) := by rw [hW.1]; rfl
  refine W.eq e5 (kk w HB p l e R s m args below meth c mcT msT _ _ (cells + 1) (slots + n.toNatClampNeg) ls C (hW.push (Array.size_push _) (fun x hx => by rw [Array.getElem?_push, if_neg (Nat.ne_of_lt hx)]) ?_) ⟨Nat.le_trans hS.1 (by rw [Array.size_push]; omega), fun x g1 g2 => ((by rw [Array.getElem?_push, if_neg (by have := hS.1; omega)] : _ = H[x]?)).trans (hS.2.1 x g1 g2), hS.2.2⟩ hl (by omega) (by omega))
  show _ = some (arrV (w.2.2.2.2 t) n.toNatClampNeg (fun _ => Value.null))
  rw [← hW.1, Array.getElem?_push_size, ← arrV_new]
theorem s_new {own Cn : String} {T : u_T} {N idx ci : Nat} {fs : List Value} (ty0 : Nat → FieldType) (hty : ∀ k, k < N → parseFieldDescriptor (T k).2.2.1 = some (ty0 k)) (hd : decode q.2.1 pc = .ok (.new idx, 3)) (hown : q.1.cls = own) (hin : ∀ x ∈ u_ws Cn T N, x ∈ gW) (hw1 : Cond.classLink own idx Cn ∈ gW) (hw2 : Cond.instantiable Cn N ∈ gW) (hw3 : Cond.initialized Cn ∈ gW) (hcl : vwCl[ci]? = some (Cn, T, N)) (hfs : ∀ (w : WP) (j : Nat), j < N → defaultValue (ty0 j) = vp_V (fs.map (em w)) j)
    (kk : Sem d q mc ms (pc + 3) L (.ref h.length :: st) (h ++ [.inr (ci, fs)]) Qp) : Sem d q (mc + 1) (ms + N) pc L st h Qp := by
  intro w HB p l e R s m args below meth c mcT msT H locs cells slots ls C hW hS hl h1 h2
  have hcell := C.2.2.2.2.2.2.2.2.2.2.2.2.1
  have hslot := C.2.2.2.2.2.2.2.2.2.2.2.2.2
  have hKn := (KX_of C).1.1 ci _ hcl
  refine W.newcK C.1 C.2.1 (own_of C hown) (hts_of C hw1) (hts_of C hw2) (hts_of C hw3) rfl hd (by omega) (by omega) hKn.2.1 rfl fun H' kC hkC e1 e2 e3 => ?_
  have e5 : F0 m (pc + 3) ls (.ref H.size :: st.map (em w)) = F0 m (pc + 3) ls ((Value.ref h.length :: st).map (em w)) := by rw [hW.1]; rfl
  refine W.eq e5 (kk w HB p l e R s m args below meth c mcT msT H' _ (cells + 1) (slots + N) ls C (hW.push e2 e3 ?_) ⟨Nat.le_trans hS.1 (by omega), fun x g1 g2 => (e3 x (Nat.lt_of_lt_of_le g1 hS.1)).trans (hS.2.1 x g1 g2), hS.2.2⟩ hl (by omega) (by omega))
  rw [hW.1] at e1
  exact ⟨_, hcl, (u_born ty0 (ws := gW) (fun x hx => hts_of C hx) hin hKn hkC e1 hty).to (hfs w)⟩
theorem obj_of {w : WP} {H : Heap} {HB : Heap} {s : State} (hK : KX w HB s) (hW : Wd w h H) {i ci N : Nat} {fs : List Value} {Cn : String} {T : u_T} (hc : h[i]? = some (.inr (ci, fs))) (hcl : vwCl[ci]? = some (Cn, T, N)) : ∃ cell : Cell, H[w.1 + i]? = some cell ∧ cell.vm.isStatics = false ∧ s.vm.findClass Cn = some cell.cls := by
  obtain ⟨r0, hr0, cell, q1, q2, q3, q4⟩ := hW.2 i _ hc
  cases hcl.symm.trans hr0
  exact ⟨cell, q1, by rw [q3]; rfl, by rw [q2]; exact (hK.1.1 ci _ hcl).2.1⟩
theorem s_instY {own Cn nm : String} {T : u_T} {N idx ci i : Nat} {fs : List Value} (hd : decode q.2.1 pc = .ok (.instanceof idx, 3)) (hown : q.1.cls = own) (hw : Cond.classLink own idx nm ∈ gW) (hc : h[i]? = some (.inr (ci, fs))) (hcl : vwCl[ci]? = some (Cn, T, N)) (hE : Cn = nm ∨ (Cn, nm) ∈ castL) (kk : Sem d q mc ms (pc + 3) L (.int 1 :: st) h Qp) : Sem d q mc ms pc L (.ref i :: st) h Qp := by
  intro w HB p l e R s m args below meth c mcT msT H locs cells slots ls C hW hS hl h1 h2
  have K1 := kk w HB p l e R s m args below meth c mcT msT H locs cells slots ls C hW hS hl h1 h2
  rcases hE with rfl | hE
  · exact va_instE C.1 C.2.1 (own_of C hown) (hts_of C hw) (obj_of (KX_of C) hW hc hcl) hd K1
  · exact va_instY C.1 C.2.1 (own_of C hown) (hts_of C hw) ((KX_of C).2.1.2.1 _ hE) (obj_of (KX_of C) hW hc hcl) hd K1
theorem s_instNo {own Cn nm : String} {T : u_T} {N idx ci i : Nat} {fs : List Value} (hd : decode q.2.1 pc = .ok (.instanceof idx, 3)) (hown : q.1.cls = own) (hw : Cond.classLink own idx nm ∈ gW) (hc : h[i]? = some (.inr (ci, fs))) (hcl : vwCl[ci]? = some (Cn, T, N)) (hE : (Cn, nm) ∈ ncastL) (kk : Sem d q mc ms (pc + 3) L (.int 0 :: st) h Qp) : Sem d q mc ms pc L (.ref i :: st) h Qp := by
  intro w HB p l e R s m args below meth c mcT msT H locs cells slots ls C hW hS hl h1 h2
  exact va_instNo C.1 C.2.1 (own_of C hown) (hts_of C hw) ((KX_of C).2.1.2.2.1 _ hE) (obj_of (KX_of C) hW hc hcl) hd (kk w HB p l e R s m args below meth c mcT msT H locs cells slots ls C hW hS hl h1 h2)
theorem s_castB {own : String} {idx : Nat} {j : UInt32} (hd : decode q.2.1 pc = .ok (.checkcast idx, 3)) (hown : q.1.cls = own) (hw : Cond.classLink own idx "java/lang/Integer" ∈ gW) (hj : j.toNat < 256) (kk : Sem d q mc ms (pc + 3) L (.float j :: st) h Qp) : Sem d q mc ms pc L (.float j :: st) h Qp := by
  intro w HB p l e R s m args below meth c mcT msT H locs cells slots ls C hW hS hl h1 h2
  exact va_castE C.1 C.2.1 (own_of C hown) (hts_of C hw) (box_of C hS hj) hd (kk w HB p l e R s m args below meth c mcT msT H locs cells slots ls C hW hS hl h1 h2)
theorem s_aret {v : Value} {rt : FieldType} (hd : decode q.2.1 pc = .ok (.areturn, 1)) (hr : q.2.2.2 = some rt) (hrt : (∃ n, rt = .object n) ∨ ∃ t, rt = .array t) (hv : v = .null ∨ (∃ a, v = .ref a) ∨ ∃ a, v = .float a) (e9 : Qp (some v) h) : Sem d q mc ms pc L (v :: []) h Qp := by
  intro w HB p l e R s m args below meth c mcT msT H locs cells slots ls C hW hS hl h1 h2
  refine W.widen (k := mcT) (n := msT) (by omega) (by omega) ?_
  exact W.aret C.1 C.2.1 (C.2.2.2.1.trans hr) hrt (by rcases hv with rfl | ⟨a, rfl⟩ | ⟨a, rfl⟩ <;> first | exact Or.inl rfl | exact Or.inr ⟨_, rfl⟩) (fun t ht hW2 => ⟨_, _, e9, rfl, by rw [ht]; exact hW, hS.F ht⟩) hS.2.2 hd C.2.2.2.2.2.2.2.1
/-- cells that differ only behind an array's end -/
def hcE (a b : HC) : Prop := ∀ (w : WP) (x : Nat) (H : Heap), cat w x H a → cat w x H b
theorem hcE_i {t n : Nat} {f g : Nat → Int32} (he : ∀ k, k < n → f k = g k) : hcE (.inl (t, n, .inl f)) (.inl (t, n, .inl g)) := by
  intro w x H hx
  have e9 : arrV (w.2.2.2.2 t) n (caW w (.inl f)) = arrV (w.2.2.2.2 t) n (caW w (.inl g)) := by
    unfold arrV
    congr 2
    funext k
    show Value.int _ = Value.int _
    rw [he k.val k.isLt]
  exact Eq.trans hx (congrArg some e9)
theorem hcE_l {t n : Nat} {f g : Nat → Int64} (he : ∀ k, k < n → f k = g k) : hcE (.inl (t, n, .inr (.inl f))) (.inl (t, n, .inr (.inl g))) := by
  intro w x H hx
  have e9 : arrV (w.2.2.2.2 t) n (caW w (.inr (.inl f))) = arrV (w.2.2.2.2 t) n (caW w (.inr (.inl g))) := by
    unfold arrV
    congr 2
    funext k
    show Value.long _ = Value.long _
    rw [he k.val k.isLt]
  exact Eq.trans hx (congrArg some e9)
theorem hcE_r {t n : Nat} {f g : Nat → Value} (he : ∀ k, k < n → f k = g k) : hcE (.inl (t, n, .inr (.inr f))) (.inl (t, n, .inr (.inr g))) := by
  intro w x H hx
  have e9 : arrV (w.2.2.2.2 t) n (caW w (.inr (.inr f))) = arrV (w.2.2.2.2 t) n (caW w (.inr (.inr g))) := by
    unfold arrV
    congr 2
    funext k
    show em w _ = em w _
    rw [he k.val k.isLt]
  exact Eq.trans hx (congrArg some e9)
theorem Wd.eqv {w : WP} {H : Heap} {ha hb : HP} (hlen : ha.length = hb.length) (he : ∀ (i : Nat) (a b : HC), ha[i]? = some a → hb[i]? = some b → hcE a b) (hW : Wd w ha H) : Wd w hb H := by
  refine ⟨by rw [hW.1, hlen], fun i b hb' => ?_⟩
  have hi : i < ha.length := by rw [hlen]; exact (List.getElem?_eq_some_iff.mp hb').1
  exact he i _ b (List.getElem?_eq_getElem hi) hb' w _ H (hW.2 i _ (List.getElem?_eq_getElem hi))
/-- the heap read otherwise -/
theorem s_heap {h2 : HP} (he : ∀ (w : WP) (H : Heap), Wd w h H → Wd w h2 H) (k : Sem d q mc ms pc L st h2 Qp) : Sem d q mc ms pc L st h Qp := by
  intro w HB p l e R s m args below meth c mcT msT H locs cells slots ls C hW hS hl h1 h2
  exact k w HB p l e R s m args below meth c mcT msT H locs cells slots ls C (he w H hW) hS hl h1 h2
theorem s_room {mc' ms' : Nat} (hm : mc ≤ mc') (hs : ms ≤ ms') (k : Sem d q mc ms pc L st h Qp) : Sem d q mc' ms' pc L st h Qp := by
  intro w HB p l e R s m args below meth c mcT msT H locs cells slots ls C hW hS hl h1 h2
  exact k w HB p l e R s m args below meth c mcT msT H locs cells slots ls C hW hS hl (by omega) (by omega)
end Rules2
