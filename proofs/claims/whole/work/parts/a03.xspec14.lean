theorem upd_ne {f : Nat → Int32} {i k : Nat} {v : Int32} (h : ¬ k = i) : upd f i v k = f k := if_neg h
/-- X2 is X but for the clauses' rows of court c -/
def FC (X X2 : XZ) (c : Nat) : Prop := (∀ k, k ≠ 29 + 2 * c → X2.1 k = X.1 k) ∧ (∀ j, j ≤ 40 + 4 * c + 0 ∨ 40 + 4 * c + 3 < j → X2.2.1 j = X.2.1 j) ∧ X2.2.2 = X.2.2
theorem FC.rf (X : XZ) (c : Nat) : FC X X c := ⟨fun _ _ => rfl, fun _ _ => rfl, rfl⟩
theorem FC.clo {X X2 : XZ} {c k e : Nat} {s am : Int32} (h : FC X X2 c) : FC X (cloX X2 c k s am e) c := by
  refine ⟨fun j hj => (if_neg hj).trans (h.1 j hj), fun j hj => ?_, h.2.2⟩
  show (xa (xa (xa X2 (40 + 4 * c + 1) k s) (40 + 4 * c + 2) k am) (40 + 4 * c + 3) k (nI e)).2.1 j = _
  rw [xa_ne (by omega), xa_ne (by omega), xa_ne (by omega)]
  exact h.2.1 j hj
theorem TX.fc {X X2 : XZ} {T : Nat → Int32} {N c : Nat} (hT : TX X T N) (h : FC X X2 c) : TX X2 T N := by
  refine ⟨(h.1 26 (by omega)).trans hT.1, hT.2.1, fun i hi => ?_⟩
  rw [h.2.1 27 (by omega)]
  exact hT.2.2 i hi
/-- k clauses are read, the tokens go up to z -/
def RDI (X X2 : XZ) (c z : Nat) (g : Nat → Int32) (dn : CLs) : Prop := FC X X2 c ∧ X2.1 (29 + 2 * c) = nI dn.length ∧ (dn.map fun r => r.2.2.length).sum = z ∧ XCC (rdx X2 c 0 0 g) c 0 0 dn
theorem XCC.rd {X : XZ} {c a z a2 z2 : Nat} {g : Nat → Int32} : ∀ {cl : CLs} {fr i : Nat}, XCC (rdx X c a z g) c fr i cl → XCC (rdx X c a2 z2 g) c fr i cl
  | [], _, _, _ => trivial
  | _ :: _, _, _, h => ⟨h.1, XCC.rd h.2⟩
theorem rdx_r (X : XZ) {c a z j : Nat} {g : Nat → Int32} (h : j ≠ 40 + 4 * c + 0) : (rdx X c a z g).2.1 j = X.2.1 j := if_neg h
theorem rdx_0 (X : XZ) (c a z : Nat) (g : Nat → Int32) : (rdx X c a z g).2.1 (40 + 4 * c + 0) = g := if_pos rfl
theorem RDI.step {X X2 : XZ} {c z N a : Nat} {g g2 : Nat → Int32} {dn : CLs} {T LT : Nat → Int32} (h : RDI X X2 c z g dn) (hc : (ckR T N LT a).1 = true) (he : (clR T N LT a).2.2 = (ckR T N LT a).2.2) (hlo : ∀ i, i < z → g2 i = g i) (hg : GDL g2 z (ckR T N LT a).2.2) (hz : z + (ckR T N LT a).2.2.length ≤ 100) :
    RDI X (cloX X2 c dn.length (if hdW T N a = 1 then 1 else 0) (if hdW T N a = 2 then -clN T N LT a else clN T N LT a) (z + (ckR T N LT a).2.2.length)) c (z + (ckR T N LT a).2.2.length) g2 (dn ++ [clO T N LT a]) := by
  obtain ⟨h1, h2, h3, h4⟩ := h
  have hl : (clO T N LT a).2.2.length = (ckR T N LT a).2.2.length := by rw [← he]; exact List.length_reverse
  refine ⟨h1.clo, ?_, ?_, XCC.snoc (XCC.cg (X := rdx X2 c 0 0 g) (e := z) h4 (fun _ _ => trivial) (by rw [Nat.zero_add]; exact h3) (fun j k k1 k2 k3 => ?_) (fun k hk => ?_)) ⟨⟨?_, ?_, ?_, ?_, fun j hj => ?_⟩, trivial⟩⟩
  · rw [List.length_append]; exact if_pos rfl
  · rw [List.map_append, List.sum_append, h3]
    show z + ((clO T N LT a).2.2.length + 0) = _
    rw [hl, Nat.add_zero]
  · rw [rdx_r _ (by omega), rdx_r _ (by omega)]
    show (xa (xa (xa X2 (40 + 4 * c + 1) _ _) (40 + 4 * c + 2) _ _) (40 + 4 * c + 3) _ _).2.1 j k = _
    rw [Nat.zero_add] at k3
    have hne : ¬ k = dn.length := by omega
    unfold xa
    simp only [va_up]
    by_cases e1 : j = 40 + 4 * c + 3
    · subst e1; rw [if_pos rfl, upd_ne hne, if_neg (by omega), if_neg (by omega)]
    · rw [if_neg e1]
      by_cases e2 : j = 40 + 4 * c + 2
      · subst e2; rw [if_pos rfl, upd_ne hne, if_neg (by omega)]
      · rw [if_neg e2]
        by_cases e3 : j = 40 + 4 * c + 1
        · subst e3; rw [if_pos rfl, upd_ne hne]
        · rw [if_neg e3]
  · rw [rdx_0, rdx_0]; exact hlo k hk
  · rw [rdx_r _ (by omega), Nat.zero_add]
    show (xa (xa (xa X2 (40 + 4 * c + 1) _ _) (40 + 4 * c + 2) _ _) (40 + 4 * c + 3) _ _).2.1 (40 + 4 * c + 1) dn.length = _
    rw [xa_ne (by omega), xa_ne (by omega), xa_at]
    exact if_pos rfl
  · rw [rdx_r _ (by omega), Nat.zero_add]
    show (xa (xa (xa X2 (40 + 4 * c + 1) _ _) (40 + 4 * c + 2) _ _) (40 + 4 * c + 3) _ _).2.1 (40 + 4 * c + 2) dn.length = _
    rw [xa_ne (by omega), xa_at]
    exact if_pos rfl
  · rw [rdx_r _ (by omega), Nat.zero_add, Nat.zero_add, h3, hl]
    show (xa (xa (xa X2 (40 + 4 * c + 1) _ _) (40 + 4 * c + 2) _ _) (40 + 4 * c + 3) _ _).2.1 (40 + 4 * c + 3) dn.length = _
    rw [xa_at]
    exact if_pos rfl
  · rw [Nat.zero_add, h3, hl]; exact hz
  · rw [rdx_0, Nat.zero_add, h3]
    have hj2 : j < (ckR T N LT a).2.2.reverse.length := by rw [List.length_reverse]; rw [hl] at hj; exact hj
    rw [GDL_rev hg j hj2]
    show _ = tkX ((clR T N LT a).2.2.reverse.getD j 0)
    rw [he]
theorem rdx_beg (X : XZ) (c : Nat) : x1 (x1 (x1 X (28 + 2 * c) 0) (29 + 2 * c) 0) 27 0 = rdx (x1 X (29 + 2 * c) 0) c 0 0 (X.2.1 (40 + 4 * c + 0)) := by
  unfold x1 rdx
  refine Prod.ext ?_ (Prod.ext ?_ rfl)
  · funext j
    simp only [upd]
    by_cases e : j = 27
    · subst e; rw [if_pos rfl, if_neg (by omega), if_pos rfl]; rfl
    · rw [if_neg e]
      by_cases e2 : j = 28 + 2 * c
      · subst e2; rw [if_neg (by omega), if_pos rfl, if_pos rfl]; rfl
      · rw [if_neg e2, if_neg e2, if_neg e]
  · exact (va_up_id _ _).symm
