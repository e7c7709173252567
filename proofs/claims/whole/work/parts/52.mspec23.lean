/-- what court leaves as it was, F being the court that is read; scalars 4 to 11 and row 13 are not spoken of -/
def KO (M M4 : MZ) (F : Nat) : Prop := M4.2.2 = M.2.2 ∧ (∀ k, k < 4 ∨ 11 < k → M4.1 k = M.1 k) ∧ (∀ j, j < 7 ∨ 13 < j → M4.2.1 j = M.2.1 j) ∧ (∀ i, i ≠ F → M4.2.1 7 i = M.2.1 7 i) ∧ (∀ j i, 8 ≤ j → j ≤ 11 → i < 10 * F → M4.2.1 j i = M.2.1 j i) ∧ (∀ j, j < 100 * F → M4.2.1 12 j = M.2.1 12 j)
/-- what court leaves: court F is read, R what reading gave -/
def CTO (M : MZ) (P D : HP) (F : Nat) (R : Bool × Nat × CLs) (y : Int32) (h : HP) : Prop := ∃ M4, KO M M4 F ∧ M4.1 6 = 0 ∧ h = mh P M4 D ∧ (R.1 = true → y = nI F ∧ M4.1 4 = nI (F + 1) ∧ M4.1 5 = nI F ∧ M4.2.1 7 F = nI R.2.2.length ∧ R.2.2.length ≤ 10 ∧ CC M4 (10 * F) R.2.2) ∧ (¬ R.1 = true → y = -10 - nI R.2.1 ∧ M4.1 4 = M.1 4 ∧ M4.1 5 = M.1 5)
theorem KO.of {M M2 : MZ} {F : Nat} {Sg Sg0 W W0 : Nat → Int32} {a dg sn wt op a2 dg2 sn2 wt2 op2 : Int32} {s : Nat → Int32} (h : GF M M2 F Sg Sg0) (hs : ∀ k, k < 4 ∨ 11 < k → s k = M.1 k) : KO (pst M a dg sn wt op Sg0 W0) (pst (s, M2.2) a2 dg2 sn2 wt2 op2 Sg W) F := by
  obtain ⟨a1, a2, a3, a4, a5, a6⟩ := h
  refine ⟨a2, fun k hk => ?_, fun j hj => ?_, fun i hi => ?_, fun j i h8 h11 hi => ?_, fun j hj => ?_⟩
  · simp only [pst]
    rw [if_neg (by omega), if_neg (by omega), if_neg (by omega), if_neg (by omega), if_neg (by omega), if_neg (by omega), if_neg (by omega), if_neg (by omega), if_neg (by omega), if_neg (by omega)]
    exact hs k hk
  · simp only [pst]
    rw [if_neg (by omega), if_neg (by omega), if_neg (by omega), if_neg (by omega)]
    exact a3 j (by omega)
  · exact a4 i hi
  · simp only [pst]
    rw [if_neg (by omega), if_neg (by omega), if_neg (by omega), if_neg (by omega)]
    exact a5 j i h8 h11 hi
  · exact a6 j hj
theorem CS.cc {M4 M2 : MZ} {Sg : Nat → Int32} {bs : Nat} (hb : bs ≤ 600) (h2 : ∀ j, 8 ≤ j → j ≤ 11 → M4.2.1 j = M2.2.1 j) (h3 : M4.2.1 12 = Sg) : ∀ {cl : CLs} {c : Nat}, CS M2 Sg c bs cl → CC M4 c cl
  | [], _, _ => trivial
  | r :: cl, c, h => by
    obtain ⟨⟨k1, k2, x, k3, k4, k5, k6, k7, k8⟩, k9⟩ := h
    refine ⟨⟨by rw [h2 8 (by decide) (by decide)]; exact k1, by rw [h2 9 (by decide) (by decide)]; exact k2, x, by omega, by rw [h2 10 (by decide) (by decide)]; exact k4, by rw [h2 11 (by decide) (by decide)]; exact k5, fun j hj => by rw [h3]; exact k6 j hj, k7⟩, CS.cc hb h2 h3 k9⟩
theorem pst_w1 {M : MZ} {a dg sn wt op : Int32} {Sg W : Nat → Int32} {k : Nat} {v : Int32} (hk : k < 7 ∨ 11 < k) : ms1 (pst M a dg sn wt op Sg W) k v = pst (ms1 M k v) a dg sn wt op Sg W := by
  unfold ms1 pst
  refine Prod.ext ?_ rfl
  funext j
  dsimp only
  simp only [upd]
  by_cases h : j = k
  · subst h
    rw [if_pos rfl, if_neg (by omega), if_neg (by omega), if_neg (by omega), if_neg (by omega), if_neg (by omega), if_pos rfl]
  · rw [if_neg h, if_neg h]
section PRules9
variable {d mc ms pc : Nat} {q : QM} {L : List (Nat × Value)} {st : List Value} {P D : HP} {M : MZ} {Qp : PO} {a dg sn wt op : Int32} {Sg W : Nat → Int32}
theorem pP_fed {v : Int32} (hd : decode q.2.1 pc = .ok (.putfield 47, 3)) (hown : q.1.cls = RX12) (hP : P.length = 95) (kk : Sem d q mc ms (pc + 3) L st (mh P (pst (ms1 M 6 v) a dg sn wt op Sg W) D) Qp) : Sem d q mc ms pc L (.int v :: .ref 95 :: st) (mh P (pst M a dg sn wt op Sg W) D) Qp := pM_fed hd hown hP (by rw [pst_w1 (by decide)]; exact kk)
theorem pP_the {v : Int32} (hd : decode q.2.1 pc = .ok (.putfield 44, 3)) (hown : q.1.cls = RX12) (hP : P.length = 95) (kk : Sem d q mc ms (pc + 3) L st (mh P (pst (ms1 M 5 v) a dg sn wt op Sg W) D) Qp) : Sem d q mc ms pc L (.int v :: .ref 95 :: st) (mh P (pst M a dg sn wt op Sg W) D) Qp := pM_the hd hown hP (by rw [pst_w1 (by decide)]; exact kk)
theorem pP_courts {v : Int32} (hd : decode q.2.1 pc = .ok (.putfield 41, 3)) (hown : q.1.cls = RX12) (hP : P.length = 95) (kk : Sem d q mc ms (pc + 3) L st (mh P (pst (ms1 M 4 v) a dg sn wt op Sg W) D) Qp) : Sem d q mc ms pc L (.int v :: .ref 95 :: st) (mh P (pst M a dg sn wt op Sg W) D) Qp := pM_courts hd hown hP (by rw [pst_w1 (by decide)]; exact kk)
end PRules9
