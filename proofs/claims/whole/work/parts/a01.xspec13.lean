theorem rdx_xa {X : XZ} {c a z j i : Nat} {g : Nat → Int32} {v : Int32} (hj : j ≠ 40 + 4 * c + 0) : xa (rdx X c a z g) j i v = rdx (xa X j i v) c a z g := by
  unfold xa rdx
  refine Prod.ext rfl (Prod.ext ?_ rfl)
  funext k
  show va_up (va_up X.2.1 (40 + 4 * c + 0) g) j (upd (va_up X.2.1 (40 + 4 * c + 0) g j) i v) k = va_up (va_up X.2.1 j (upd (X.2.1 j) i v)) (40 + 4 * c + 0) g k
  simp only [va_up]
  by_cases e : k = j
  · subst e
    rw [if_pos rfl, if_neg hj, if_neg hj, if_pos rfl]
  · rw [if_neg e]
    by_cases e2 : k = 40 + 4 * c + 0
    · rw [if_pos e2, if_pos e2]
    · rw [if_neg e2, if_neg e2, if_neg e]
theorem rdx_x1 {X : XZ} {c a z k : Nat} {g : Nat → Int32} {v : Int32} (h1 : k ≠ 27) (h2 : k ≠ 28 + 2 * c) : x1 (rdx X c a z g) k v = rdx (x1 X k v) c a z g := by
  unfold x1 rdx
  refine Prod.ext ?_ rfl
  funext j
  simp only [upd]
  by_cases e : j = k
  · subst e
    rw [if_pos rfl, if_neg h2, if_neg h1, if_pos rfl]
  · rw [if_neg e]
    by_cases e2 : j = 28 + 2 * c
    · rw [if_pos e2, if_pos e2]
    · rw [if_neg e2, if_neg e2]
      by_cases e3 : j = 27
      · rw [if_pos e3, if_pos e3]
      · rw [if_neg e3, if_neg e3, if_neg e]
theorem rdx_c (X : XZ) (c a z : Nat) (g : Nat → Int32) : (rdx X c a z g).1 (29 + 2 * c) = X.1 (29 + 2 * c) := (if_neg (by omega)).trans (if_neg (by omega))
/-- a clause is closed -/
def cloX (X : XZ) (c k : Nat) (s am : Int32) (e : Nat) : XZ := x1 (xa (xa (xa X (40 + 4 * c + 1) k s) (40 + 4 * c + 2) k am) (40 + 4 * c + 3) k (nI e)) (29 + 2 * c) (nI (k + 1))
/-- the signs of a literal, one by one -/
def spI (T : Nat → Int32) (N : Nat) (bs : List Int32) : Nat → Nat → Nat → Bool × Nat
  | 0, _, a => (true, a)
  | r + 1, k, a => if sg T N a = bs.getD k 0 then spI T N bs r (k + 1) (a + 1) else (false, a)
def LTV (LT : Nat → Int32) : Prop := LT 0 = 105 ∧ LT 1 = 110 ∧ LT 2 = 119 ∧ LT 3 = 105 ∧ LT 4 = 110 ∧ LT 5 = 111 ∧ LT 6 = 117 ∧ LT 7 = 116
theorem LTV.n1 {LT : Nat → Int32} (h : LTV LT) : ∀ i, i < 8 → ¬ LT i = -1 := by
  obtain ⟨h0, h1, h2, h3, h4, h5, h6, h7⟩ := h
  intro i hi
  match i, hi with
  | 0, _ => rw [h0]; decide
  | 1, _ => rw [h1]; decide
  | 2, _ => rw [h2]; decide
  | 3, _ => rw [h3]; decide
  | 4, _ => rw [h4]; decide
  | 5, _ => rw [h5]; decide
  | 6, _ => rw [h6]; decide
  | 7, _ => rw [h7]; decide
theorem hd_in {T : Nat → Int32} {N a : Nat} {LT : Nat → Int32} (h : LTV LT) (e : sg T N a = 105) : hdR T N LT a = spI T N (strByt.getD 0 []) (strLen.getD 0 0) 0 a := by
  unfold hdR
  rw [if_pos e]
  show twR T N LT 2 0 a = spI T N [105, 110, 32] 3 0 a
  simp only [twR, spI, h.1, h.2.1, List.getD_cons_zero, List.getD_cons_succ, Nat.zero_add]
theorem hd_win {T : Nat → Int32} {N a : Nat} {LT : Nat → Int32} (h : LTV LT) (e0 : ¬ sg T N a = 105) (e : sg T N a = 119) : hdR T N LT a = spI T N (strByt.getD 1 []) (strLen.getD 1 0) 0 a := by
  unfold hdR
  rw [if_neg e0, if_pos e]
  show twR T N LT 3 2 a = spI T N [119, 105, 110, 32] 4 0 a
  simp only [twR, spI, h.2.2.1, h.2.2.2.1, h.2.2.2.2.1, List.getD_cons_zero, List.getD_cons_succ, Nat.zero_add, Nat.reduceAdd]
theorem hd_out {T : Nat → Int32} {N a : Nat} {LT : Nat → Int32} (h : LTV LT) (e0 : ¬ sg T N a = 105) (e : ¬ sg T N a = 119) : hdR T N LT a = spI T N (strByt.getD 2 []) (strLen.getD 2 0) 0 a := by
  unfold hdR
  rw [if_neg e0, if_neg e]
  show twR T N LT 3 5 a = spI T N [111, 117, 116, 32] 4 0 a
  simp only [twR, spI, h.2.2.2.2.2.1, h.2.2.2.2.2.2.1, h.2.2.2.2.2.2.2, List.getD_cons_zero, List.getD_cons_succ, Nat.zero_add, Nat.reduceAdd]
/-- a clause as the class reads it -/
def ckR (T : Nat → Int32) (N : Nat) (LT : Nat → Int32) (a : Nat) : Bool × Nat × List Int32 :=
  if (hdR T N LT a).1 = true then
    (if dgt (sg T N (hdR T N LT a).2) then
      (if sg T N ((hdR T N LT a).2 + nbK T N (hdR T N LT a).2) = 32 then fE T N 4 ((hdR T N LT a).2 + nbK T N (hdR T N LT a).2 + 1)
       else (false, (hdR T N LT a).2 + nbK T N (hdR T N LT a).2, []))
     else (false, (hdR T N LT a).2, []))
  else (false, (hdR T N LT a).2, [])
theorem ck_cl {T : Nat → Int32} {N a : Nat} {LT : Nat → Int32} (hN : N ≤ 100) : (clR T N LT a).1 = (ckR T N LT a).1 ∧ (clR T N LT a).2.1 = (ckR T N LT a).2.1 ∧ ((ckR T N LT a).1 = true → (clR T N LT a).2.2 = (ckR T N LT a).2.2) := by
  unfold clR ckR
  by_cases h1 : (hdR T N LT a).1 = true
  · rw [if_pos h1, if_pos h1]
    by_cases h2 : dgt (sg T N (hdR T N LT a).2)
    · rw [if_pos h2, if_pos h2]
      by_cases h3 : sg T N ((hdR T N LT a).2 + nbK T N (hdR T N LT a).2) = 32
      · rw [if_pos h3, if_pos h3]
        have h4 : (hdR T N LT a).2 + nbK T N (hdR T N LT a).2 < N := sg_lt (fun w => by rw [w] at h3; exact absurd h3 (by decide))
        exact E_all hN (by omega) (by omega)
      · rw [if_neg h3, if_neg h3]
        exact ⟨rfl, rfl, fun _ => rfl⟩
    · rw [if_neg h2, if_neg h2]
      exact ⟨rfl, rfl, fun _ => rfl⟩
  · rw [if_neg h1, if_neg h1]
    exact ⟨rfl, rfl, fun _ => rfl⟩
theorem GDL_rev {g : Nat → Int32} {z : Nat} : ∀ {tk : List Int32}, GDL g z tk → ∀ j, j < tk.reverse.length → g (z + j) = tkX (tk.reverse.getD j 0)
  | [], _, j, hj => absurd hj (Nat.not_lt_zero _)
  | t :: r, h, j, hj => by
    rw [List.length_reverse, List.length_cons] at hj
    rw [List.reverse_cons, List.getD_eq_getElem?_getD]
    by_cases e : j < r.length
    · rw [List.getElem?_append_left (by rw [List.length_reverse]; exact e), ← List.getD_eq_getElem?_getD]
      exact GDL_rev h.2 j (by rw [List.length_reverse]; exact e)
    · have ej : j = r.length := by omega
      subst ej
      rw [List.getElem?_append_right (by rw [List.length_reverse]; exact Nat.le_refl _), List.length_reverse, Nat.sub_self]
      exact h.1
/-- clauses are told by rows that stay -/
theorem XCC.cg {X X2 : XZ} {c : Nat} : ∀ {cl : CLs} {fr i e : Nat}, XCC X c fr i cl → (∀ r, r ∈ cl → True) → fr + (cl.map fun r => r.2.2.length).sum = e → (∀ j k, 40 + 4 * c + 1 ≤ j → j ≤ 40 + 4 * c + 3 → k < i + cl.length → X2.2.1 j k = X.2.1 j k) → (∀ k, k < e → X2.2.1 (40 + 4 * c + 0) k = X.2.1 (40 + 4 * c + 0) k) → XCC X2 c fr i cl
  | [], _, _, _, _, _, _, _, _ => trivial
  | r :: cl, fr, i, e, h, _, he, hr, hc => by
    rw [List.map_cons, List.sum_cons] at he
    rw [List.length_cons] at hr
    obtain ⟨⟨a1, a2, a3, a4, a5⟩, a6⟩ := h
    refine ⟨⟨?_, ?_, ?_, a4, fun j hj => ?_⟩, XCC.cg (e := e) a6 (fun _ _ => trivial) (by omega) (fun j k h1 h2 h3 => hr j k h1 h2 (by omega)) hc⟩
    · rw [hr _ _ (by omega) (by omega) (by omega)]; exact a1
    · rw [hr _ _ (by omega) (by omega) (by omega)]; exact a2
    · rw [hr _ _ (by omega) (by omega) (by omega)]; exact a3
    · rw [hc _ (by omega)]; exact a5 j hj
theorem XCC.snoc {X : XZ} {c : Nat} {r : Int32 × Int32 × List Int32} : ∀ {cl : CLs} {fr i : Nat}, XCC X c fr i cl → XCC X c (fr + (cl.map fun r => r.2.2.length).sum) (i + cl.length) [r] → XCC X c fr i (cl ++ [r])
  | [], _, _, _, h => h
  | q :: cl, fr, i, h, h2 => by
    rw [List.map_cons, List.sum_cons, List.length_cons] at h2
    exact ⟨h.1, XCC.snoc h.2 (by rw [show fr + q.2.2.length + (cl.map fun r => r.2.2.length).sum = fr + (q.2.2.length + (cl.map fun r => r.2.2.length).sum) from by omega, show i + 1 + cl.length = i + (cl.length + 1) from by omega]; exact h2)⟩
