/-! reading as the class does it -/
def scx (T : Nat → Int32) (N a : Nat) : Int32 := if a < N then T a else 255
/-- the text of the class -/
def TX (X : XZ) (T : Nat → Int32) (N : Nat) : Prop := X.1 26 = nI N ∧ N ≤ 100 ∧ ∀ i, i < N → X.2.1 27 i = T i ∧ 0 ≤ T i ∧ T i ≤ 127
def rdx (X : XZ) (c a z : Nat) (g : Nat → Int32) : XZ := (upd (upd X.1 27 (nI a)) (28 + 2 * c) (nI z), va_up X.2.1 (40 + 4 * c + 0) g, X.2.2)
theorem rdx_27 (X : XZ) (c a z : Nat) (g : Nat → Int32) : (rdx X c a z g).1 27 = nI a := (if_neg (by omega)).trans (if_pos rfl)
theorem rdx_26 (X : XZ) (c a z : Nat) (g : Nat → Int32) : (rdx X c a z g).1 26 = X.1 26 := (if_neg (by omega)).trans (if_neg (by decide))
theorem rdx_z (X : XZ) (c a z : Nat) (g : Nat → Int32) : (rdx X c a z g).1 (28 + 2 * c) = nI z := if_pos rfl
theorem rdx_s (X : XZ) (c a z : Nat) (g : Nat → Int32) : (rdx X c a z g).2.1 27 = X.2.1 27 := if_neg (by omega)
theorem rdx_p (X : XZ) (c a z b : Nat) (g : Nat → Int32) : x1 (rdx X c a z g) 27 (nI b) = rdx X c b z g := by
  unfold x1 rdx
  refine Prod.ext ?_ rfl
  funext k
  simp only [upd]
  by_cases h : k = 27
  · subst h; rw [if_pos rfl, if_neg (by omega), if_pos rfl]
  · rw [if_neg h]
    by_cases h2 : k = 28 + 2 * c
    · rw [if_pos h2, if_pos h2]
    · rw [if_neg h2, if_neg h2, if_neg h, if_neg h]
theorem rdx_w (X : XZ) (c a z b : Nat) (g : Nat → Int32) : x1 (rdx X c a z g) (28 + 2 * c) (nI b) = rdx X c a b g := by
  unfold x1 rdx
  refine Prod.ext ?_ rfl
  funext k
  simp only [upd]
  by_cases h2 : k = 28 + 2 * c
  · rw [if_pos h2, if_pos h2]
  · rw [if_neg h2, if_neg h2, if_neg h2]
theorem rdx_g (X : XZ) (c a z i : Nat) (g : Nat → Int32) (v : Int32) : xa (rdx X c a z g) (40 + 4 * c + 0) i v = rdx X c a z (upd g i v) := by
  unfold xa rdx
  dsimp only
  rw [va_up_up, show va_up X.2.1 (40 + 4 * c + 0) g (40 + 4 * c + 0) = g from if_pos rfl]
theorem scx_sg {T : Nat → Int32} {N a : Nat} {k : Int32} (hk : 0 ≤ k ∧ k ≤ 127) : scx T N a = k ↔ sg T N a = k := by
  unfold scx sg
  by_cases h : a < N
  · rw [if_pos h, if_pos h]
  · rw [if_neg h, if_neg h]
    refine ⟨fun z => ?_, fun z => ?_⟩
    · rw [← z] at hk; exact absurd hk.2 (by decide)
    · rw [← z] at hk; exact absurd hk.1 (by decide)
theorem scx_in {X : XZ} {T : Nat → Int32} {N : Nat} (h : TX X T N) (a : Nat) : ∃ j : Nat, j < 256 ∧ scx T N a = nI j := by
  unfold scx
  by_cases e : a < N
  · rw [if_pos e]
    obtain ⟨j, hj, e2⟩ := bw_of (m := 127) (n := 127) (by decide) (h.2.2 a e).2
    exact ⟨j, by omega, e2⟩
  · rw [if_neg e]
    exact ⟨255, by decide, rfl⟩
theorem c255 : ∀ n : Fin 256, (nI n.val).toUInt32.toUInt16.toUInt32.toInt32 = nI n.val := by decide +kernel
theorem scx_nar {X : XZ} {T : Nat → Int32} {N : Nat} (h : TX X T N) (a : Nat) : narrow .char (.int (scx T N a)) = .int (scx T N a) := by
  obtain ⟨j, hj, e⟩ := scx_in h a
  rw [e]
  exact congrArg Value.int (c255 ⟨j, hj⟩)
def cmpN (c : Int32) : Int32 := if 60 ≤ c ∧ c ≤ 62 then c - 60 else -1
theorem ix_let : ∀ n : Fin 256, (if 0 ≤ nI n.val ∧ nI n.val ≤ 255 then ixF (nI n.val) (strByt.getD 3 []) (strLen.getD 3 0) 0 else -1) = plc (nI n.val) := by decide +kernel
theorem ix_cmp : ∀ n : Fin 256, (if 0 ≤ nI n.val ∧ nI n.val ≤ 255 then ixF (nI n.val) (strByt.getD 4 []) (strLen.getD 4 0) 0 else -1) = cmpN (nI n.val) := by decide +kernel
theorem plc_sg (T : Nat → Int32) (N a : Nat) : plc (scx T N a) = plc (sg T N a) := by
  unfold scx sg
  by_cases h : a < N
  · rw [if_pos h, if_pos h]
  · rw [if_neg h, if_neg h]; decide
theorem cmp_sg (T : Nat → Int32) (N a : Nat) : cmpN (scx T N a) = cmpN (sg T N a) := by
  unfold scx sg
  by_cases h : a < N
  · rw [if_pos h, if_pos h]
  · rw [if_neg h, if_neg h]; decide
theorem ixl {X : XZ} {T : Nat → Int32} {N : Nat} (h : TX X T N) (a : Nat) : (if 0 ≤ scx T N a ∧ scx T N a ≤ 255 then ixF (scx T N a) (strByt.getD 3 []) (strLen.getD 3 0) 0 else -1) = plc (sg T N a) := by
  rw [← plc_sg]
  obtain ⟨j, hj, e⟩ := scx_in h a
  rw [e]
  exact ix_let ⟨j, hj⟩
theorem ixm {X : XZ} {T : Nat → Int32} {N : Nat} (h : TX X T N) (a : Nat) : (if 0 ≤ scx T N a ∧ scx T N a ≤ 255 then ixF (scx T N a) (strByt.getD 4 []) (strLen.getD 4 0) 0 else -1) = cmpN (sg T N a) := by
  rw [← cmp_sg]
  obtain ⟨j, hj, e⟩ := scx_in h a
  rw [e]
  exact ix_cmp ⟨j, hj⟩
/-- tokens told by the class's row, newest first -/
def GDL (g : Nat → Int32) (z : Nat) : List Int32 → Prop
  | [] => True
  | t :: r => g (z + r.length) = tkX t ∧ GDL g z r
theorem GDL.up {g : Nat → Int32} {z n : Nat} {v : Int32} : ∀ {tk : List Int32}, GDL g z tk → z + tk.length ≤ n → GDL (upd g n v) z tk
  | [], _, _ => trivial
  | t :: r, h, hn => by
    rw [List.length_cons] at hn
    exact ⟨(if_neg (by omega)).trans h.1, GDL.up h.2 (by omega)⟩
theorem GDL.put {g : Nat → Int32} {z : Nat} {tk : List Int32} {t : Int32} (h : GDL g z tk) : GDL (upd g (z + tk.length) (tkX t)) z (t :: tk) := ⟨if_pos rfl, h.up (Nat.le_refl _)⟩
theorem GDL.cg {g g2 : Nat → Int32} {z : Nat} : ∀ {tk : List Int32}, GDL g z tk → (∀ i, i < z + tk.length → g2 i = g i) → GDL g2 z tk
  | [], _, _ => trivial
  | t :: r, h, e => by
    rw [List.length_cons] at e
    exact ⟨(e _ (by omega)).trans h.1, GDL.cg h.2 (fun i hi => e i (by omega))⟩
theorem GDL.app {g : Nat → Int32} {z : Nat} : ∀ {a b : List Int32}, GDL g (z + b.length) a → GDL g z b → GDL g z (a ++ b)
  | [], _, _, h => h
  | t :: r, b, h, h2 => by
    refine ⟨?_, GDL.app h.2 h2⟩
    show g (z + (r ++ b).length) = tkX t
    rw [List.length_append, show z + (r.length + b.length) = z + b.length + r.length from by omega]
    exact h.1
/-- reading by descent: parts parted by s, op behind the second and each later one -/
def lpR (T : Nat → Int32) (N : Nat) (f : Nat → Bool × Nat × List Int32) (s op : Int32) : Nat → Bool → Nat → List Int32 → Bool × Nat × List Int32
  | 0, _, a, tk => (false, a, tk)
  | k + 1, fst, a, tk =>
    if (f a).1 = true then
      (if sg T N (f a).2.1 = s then lpR T N f s op k false ((f a).2.1 + 1) (cond fst ((f a).2.2 ++ tk) (op :: ((f a).2.2 ++ tk)))
       else (true, (f a).2.1, cond fst ((f a).2.2 ++ tk) (op :: ((f a).2.2 ++ tk))))
    else (false, (f a).2.1, (f a).2.2 ++ tk)
def teR (T : Nat → Int32) (N a : Nat) : Bool × Nat × List Int32 := if 0 ≤ plc (sg T N a) ∧ (60 ≤ sg T N (a + 1) ∧ sg T N (a + 1) ≤ 62) ∧ dgt (sg T N (a + 2)) then (true, ttA T N a, [ttV T N a]) else (false, ttA T N a, [])
def fF (T : Nat → Int32) (N : Nat) : Nat → Nat → Bool × Nat × List Int32
  | 0, a => teR T N a
  | n + 1, a =>
    if sg T N a = 40 then
      (if (lpR T N (fun b => lpR T N (fF T N n) 38 (-38) 100 true b []) 124 (-124) 100 true (a + 1) []).1 = true ∧ sg T N (lpR T N (fun b => lpR T N (fF T N n) 38 (-38) 100 true b []) 124 (-124) 100 true (a + 1) []).2.1 = 41 then
        (true, (lpR T N (fun b => lpR T N (fF T N n) 38 (-38) 100 true b []) 124 (-124) 100 true (a + 1) []).2.1 + 1, (lpR T N (fun b => lpR T N (fF T N n) 38 (-38) 100 true b []) 124 (-124) 100 true (a + 1) []).2.2)
       else (false, (lpR T N (fun b => lpR T N (fF T N n) 38 (-38) 100 true b []) 124 (-124) 100 true (a + 1) []).2.1, (lpR T N (fun b => lpR T N (fF T N n) 38 (-38) 100 true b []) 124 (-124) 100 true (a + 1) []).2.2))
    else if sg T N a = 33 then ((fF T N n (a + 1)).1, (fF T N n (a + 1)).2.1, -33 :: (fF T N n (a + 1)).2.2)
    else teR T N a
def fT (T : Nat → Int32) (N n a : Nat) : Bool × Nat × List Int32 := lpR T N (fF T N n) 38 (-38) 100 true a []
def fE (T : Nat → Int32) (N n a : Nat) : Bool × Nat × List Int32 := lpR T N (fT T N n) 124 (-124) 100 true a []
theorem fF_s (T : Nat → Int32) (N n a : Nat) : fF T N (n + 1) a = if sg T N a = 40 then (if (fE T N n (a + 1)).1 = true ∧ sg T N (fE T N n (a + 1)).2.1 = 41 then (true, (fE T N n (a + 1)).2.1 + 1, (fE T N n (a + 1)).2.2) else (false, (fE T N n (a + 1)).2.1, (fE T N n (a + 1)).2.2)) else if sg T N a = 33 then ((fF T N n (a + 1)).1, (fF T N n (a + 1)).2.1, -33 :: (fF T N n (a + 1)).2.2) else teR T N a := rfl
theorem lpR_bd {T : Nat → Int32} {N : Nat} {f : Nat → Bool × Nat × List Int32} {s op : Int32} (hs : ¬ s = -1) (hf : ∀ a, a ≤ N → (f a).2.2.length + a ≤ (f a).2.1 ∧ (f a).2.1 ≤ N) : ∀ (k : Nat) (fst : Bool) (a z : Nat) (tk : List Int32), a ≤ N → z + tk.length + cond fst 0 1 ≤ a → z + (lpR T N f s op k fst a tk).2.2.length ≤ (lpR T N f s op k fst a tk).2.1 ∧ (lpR T N f s op k fst a tk).2.1 ≤ N
  | 0, fst, a, z, tk, ha, h => by
    refine ⟨?_, ha⟩
    show z + tk.length ≤ a
    cases fst <;> simp at h <;> omega
  | k + 1, fst, a, z, tk, ha, h => by
    have h1 := hf a ha
    have hc : z + (cond fst ((f a).2.2 ++ tk) (op :: ((f a).2.2 ++ tk))).length ≤ (f a).2.1 := by
      cases fst <;> simp at h ⊢ <;> omega
    unfold lpR
    by_cases e : (f a).1 = true
    · rw [if_pos e]
      by_cases e2 : sg T N (f a).2.1 = s
      · rw [if_pos e2]
        have h3 : (f a).2.1 < N := sg_lt (fun w => hs (by rw [← e2, w]))
        exact lpR_bd hs hf k false _ z _ (by omega) (by show z + (cond fst ((f a).2.2 ++ tk) (op :: ((f a).2.2 ++ tk))).length + 1 ≤ (f a).2.1 + 1; omega)
      · rw [if_neg e2]
        exact ⟨hc, h1.2⟩
    · rw [if_neg e]
      refine ⟨?_, h1.2⟩
      show z + ((f a).2.2 ++ tk).length ≤ (f a).2.1
      rw [List.length_append]
      cases fst <;> simp at h <;> omega
theorem teR_bd {T : Nat → Int32} {N a : Nat} (ha : a ≤ N) : (teR T N a).2.2.length + a ≤ (teR T N a).2.1 ∧ (teR T N a).2.1 ≤ N := by
  unfold teR
  have h2 := ttA_le2 (T := T) ha
  by_cases e : 0 ≤ plc (sg T N a) ∧ (60 ≤ sg T N (a + 1) ∧ sg T N (a + 1) ≤ 62) ∧ dgt (sg T N (a + 2))
  · rw [if_pos e]
    have h1 := ttA_le (show ttP T N a from e)
    exact ⟨by show 1 + a ≤ ttA T N a; omega, h2.2⟩
  · rw [if_neg e]
    exact ⟨by show 0 + a ≤ ttA T N a; omega, h2.2⟩
theorem fF_bd {T : Nat → Int32} {N : Nat} : ∀ (n a : Nat), a ≤ N → (fF T N n a).2.2.length + a ≤ (fF T N n a).2.1 ∧ (fF T N n a).2.1 ≤ N
  | 0, a, ha => teR_bd ha
  | n + 1, a, ha => by
    rw [fF_s]
    have hT : ∀ b, b ≤ N → (fT T N n b).2.2.length + b ≤ (fT T N n b).2.1 ∧ (fT T N n b).2.1 ≤ N := fun b hb => by
      have := lpR_bd (T := T) (s := 38) (op := -38) (by decide) (fF_bd (T := T) (N := N) n) 100 true b b [] hb (by simp)
      exact ⟨by rw [Nat.add_comm]; exact this.1, this.2⟩
    by_cases e : sg T N a = 40
    · rw [if_pos e]
      have h3 : a < N := sg_lt (fun w => by rw [w] at e; exact absurd e (by decide))
      have h4 := lpR_bd (T := T) (s := 124) (op := -124) (by decide) hT 100 true (a + 1) (a + 1) [] (by omega) (by simp)
      change a + 1 + (fE T N n (a + 1)).2.2.length ≤ (fE T N n (a + 1)).2.1 ∧ (fE T N n (a + 1)).2.1 ≤ N at h4
      by_cases e2 : (fE T N n (a + 1)).1 = true ∧ sg T N (fE T N n (a + 1)).2.1 = 41
      · rw [if_pos e2]
        have h5 : (fE T N n (a + 1)).2.1 < N := sg_lt (fun w => by rw [w] at e2; exact absurd e2.2 (by decide))
        exact ⟨by show (fE T N n (a + 1)).2.2.length + a ≤ (fE T N n (a + 1)).2.1 + 1; omega, by show (fE T N n (a + 1)).2.1 + 1 ≤ N; omega⟩
      · rw [if_neg e2]
        exact ⟨by show (fE T N n (a + 1)).2.2.length + a ≤ (fE T N n (a + 1)).2.1; omega, h4.2⟩
    · rw [if_neg e]
      by_cases e3 : sg T N a = 33
      · rw [if_pos e3]
        have h3 : a < N := sg_lt (fun w => by rw [w] at e3; exact absurd e3 (by decide))
        have h4 := fF_bd (T := T) (N := N) n (a + 1) (by omega)
        exact ⟨by show (fF T N n (a + 1)).2.2.length + 1 + a ≤ (fF T N n (a + 1)).2.1; omega, h4.2⟩
      · rw [if_neg e3]
        exact teR_bd ha
