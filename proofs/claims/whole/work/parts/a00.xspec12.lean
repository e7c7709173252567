/-! the class's descent and the model's machine read alike -/
/-- the machine stops short: it says no at this place -/
def MF (R : Bool × Nat × List Int32) (a : Nat) : Prop := R.1 = false ∧ R.2.1 = a
def FOK (T : Nat → Int32) (N n : Nat) : Prop := ∀ (a : Nat) (Wl tk : List Int32) (k : Nat), a ≤ N → N + 1 ≤ a + k → cO Wl + n = 4 →
  if (fF T N n a).1 = true then ∃ k', N + 1 ≤ (fF T N n a).2.1 + k' ∧ mrun T N k true a Wl tk = mrun T N k' false (fF T N n a).2.1 (whW Wl) (whT Wl ((fF T N n a).2.2 ++ tk))
  else MF (mrun T N k true a Wl tk) (fF T N n a).2.1
def TOK (T : Nat → Int32) (N n : Nat) : Prop := ∀ (a : Nat) (V tk : List Int32) (k : Nat), 1 ≤ a → a ≤ N → N + 1 ≤ a + k → cO V + n = 4 → whW V = V → (∀ X, whT V X = X) → stW 38 V = V → (∀ X, stT 38 V X = X) →
  if (fT T N n a).1 = true then ∃ k' W' tk', N + 1 ≤ (fT T N n a).2.1 + k' ∧ mrun T N k true a V tk = mrun T N k' false (fT T N n a).2.1 W' tk' ∧ ((W' = V ∧ tk' = (fT T N n a).2.2 ++ tk) ∨ (W' = 38 :: V ∧ -38 :: tk' = (fT T N n a).2.2 ++ tk)) ∧ ¬ sg T N (fT T N n a).2.1 = 38
  else MF (mrun T N k true a V tk) (fT T N n a).2.1
def EOK (T : Nat → Int32) (N n : Nat) : Prop := ∀ (a : Nat) (V tk : List Int32) (k : Nat), 1 ≤ a → a ≤ N → N + 1 ≤ a + k → cO V + n = 4 → (V = [] ∨ ∃ r, V = 40 :: r) →
  if (fE T N n a).1 = true then ∃ k' W' tk', N + 1 ≤ (fE T N n a).2.1 + k' ∧ mrun T N k true a V tk = mrun T N k' false (fE T N n a).2.1 W' tk' ∧ stW 124 W' = V ∧ stT 124 W' tk' = (fE T N n a).2.2 ++ tk ∧ ¬ sg T N (fE T N n a).2.1 = 38 ∧ ¬ sg T N (fE T N n a).2.1 = 124
  else MF (mrun T N k true a V tk) (fE T N n a).2.1
theorem te_ok {T : Nat → Int32} {N a k : Nat} {Wl tk : List Int32} (h : ¬ (sg T N a = 33 ∨ sg T N a = 40) ∨ cO Wl = 4) (ha : a ≤ N) (hk : N + 1 ≤ a + k) : if (teR T N a).1 = true then ∃ k', N + 1 ≤ (teR T N a).2.1 + k' ∧ mrun T N k true a Wl tk = mrun T N k' false (teR T N a).2.1 (whW Wl) (whT Wl ((teR T N a).2.2 ++ tk)) else MF (mrun T N k true a Wl tk) (teR T N a).2.1 := by
  obtain ⟨k, rfl⟩ : ∃ x, k = x + 1 := ⟨k - 1, by omega⟩
  by_cases e0 : sg T N a = 33 ∨ sg T N a = 40
  · have h4 : cO Wl = 4 := h.resolve_left (fun z => z e0)
    have hn : ¬ (0 ≤ plc (sg T N a) ∧ (60 ≤ sg T N (a + 1) ∧ sg T N (a + 1) ≤ 62) ∧ dgt (sg T N (a + 2))) := fun z => by
      rcases e0 with w | w <;> rw [w] at z <;> exact absurd z.1 (by decide)
    have hA : ttA T N a = a := by unfold ttA; rw [if_pos]; rcases e0 with w | w <;> rw [w] <;> decide
    unfold teR
    rw [if_neg hn, mrun, if_pos e0, if_pos h4, hA]
    exact ⟨rfl, rfl⟩
  · by_cases e : 0 ≤ plc (sg T N a) ∧ (60 ≤ sg T N (a + 1) ∧ sg T N (a + 1) ≤ 62) ∧ dgt (sg T N (a + 2))
    · have h1 := ttA_le (show ttP T N a from e)
      unfold teR
      rw [if_pos e, mrun, if_neg e0, if_pos e]
      exact ⟨k, by show N + 1 ≤ ttA T N a + k; omega, rfl⟩
    · unfold teR
      rw [if_neg e, mrun, if_neg e0, if_neg e]
      exact ⟨rfl, rfl⟩
theorem T_of_F {T : Nat → Int32} {N n : Nat} (hN : N ≤ 100) (hF : FOK T N n) : TOK T N n := by
  intro a V tk k h1 ha hk hc hw hwt hs hst
  have key : ∀ (r : Nat) (fst : Bool) (a : Nat) (acc : List Int32) (k : Nat), a ≤ N → N + 1 ≤ a + k → N + 1 ≤ a + r →
      if (lpR T N (fF T N n) 38 (-38) r fst a acc).1 = true then ∃ k' W' tk', N + 1 ≤ (lpR T N (fF T N n) 38 (-38) r fst a acc).2.1 + k' ∧ mrun T N k true a (cond fst V (38 :: V)) (acc ++ tk) = mrun T N k' false (lpR T N (fF T N n) 38 (-38) r fst a acc).2.1 W' tk' ∧ ((W' = V ∧ tk' = (lpR T N (fF T N n) 38 (-38) r fst a acc).2.2 ++ tk) ∨ (W' = 38 :: V ∧ -38 :: tk' = (lpR T N (fF T N n) 38 (-38) r fst a acc).2.2 ++ tk)) ∧ ¬ sg T N (lpR T N (fF T N n) 38 (-38) r fst a acc).2.1 = 38
      else MF (mrun T N k true a (cond fst V (38 :: V)) (acc ++ tk)) (lpR T N (fF T N n) 38 (-38) r fst a acc).2.1 := by
    intro r
    induction r with
    | zero => intro fst a acc k ha _ hr; omega
    | succ r ih =>
      intro fst a acc k ha hk hr
      have hS : cO (cond fst V (38 :: V)) + n = 4 := by
        cases fst
        · show cO (38 :: V) + n = 4
          rw [cO, if_neg (by decide)]; exact hc
        · exact hc
      have hw2 : whW (cond fst V (38 :: V)) = cond fst V (38 :: V) := by
        cases fst
        · show whW (38 :: V) = 38 :: V
          rw [whW, if_neg (by decide)]
        · exact hw
      have hwt2 : ∀ X, whT (cond fst V (38 :: V)) X = X := by
        cases fst
        · intro X; show whT (38 :: V) X = X
          rw [whT, if_neg (by decide)]
        · exact hwt
      have hf := hF a (cond fst V (38 :: V)) (acc ++ tk) k ha hk hS
      have hb := fF_bd (T := T) (N := N) n a ha
      unfold lpR
      by_cases e : (fF T N n a).1 = true
      · rw [if_pos e] at hf
        obtain ⟨k1, hk1, hm⟩ := hf
        rw [hw2, hwt2] at hm
        rw [if_pos e]
        by_cases e2 : sg T N (fF T N n a).2.1 = 38
        · rw [if_pos e2]
          have hlt : (fF T N n a).2.1 < N := sg_lt (fun w => by rw [w] at e2; exact absurd e2 (by decide))
          obtain ⟨k1, rfl⟩ : ∃ x, k1 = x + 1 := ⟨k1 - 1, by omega⟩
          have e3 : mrun T N (k1 + 1) false (fF T N n a).2.1 (cond fst V (38 :: V)) ((fF T N n a).2.2 ++ (acc ++ tk)) = mrun T N k1 true ((fF T N n a).2.1 + 1) (38 :: V) (cond fst ((fF T N n a).2.2 ++ acc) (-38 :: ((fF T N n a).2.2 ++ acc)) ++ tk) := by
            rw [mrun, if_pos (Or.inl e2), e2]
            cases fst
            · show mrun T N k1 true _ (38 :: stW 38 (38 :: V)) (stT 38 (38 :: V) _) = _
              rw [stW, if_pos (Or.inl rfl), stT, if_pos (Or.inl rfl), hs, hst]
              show mrun T N k1 true _ _ (-38 :: ((fF T N n a).2.2 ++ (acc ++ tk))) = mrun T N k1 true _ _ (-38 :: ((fF T N n a).2.2 ++ acc) ++ tk)
              rw [List.cons_append, List.append_assoc]
            · show mrun T N k1 true _ (38 :: stW 38 V) (stT 38 V _) = _
              rw [hs, hst]
              show mrun T N k1 true _ _ ((fF T N n a).2.2 ++ (acc ++ tk)) = mrun T N k1 true _ _ ((fF T N n a).2.2 ++ acc ++ tk)
              rw [List.append_assoc]
          rw [hm, e3]
          have e4 := ih false ((fF T N n a).2.1 + 1) (cond fst ((fF T N n a).2.2 ++ acc) (-38 :: ((fF T N n a).2.2 ++ acc))) k1 (by omega) (by omega) (by omega)
          exact e4
        · rw [if_neg e2]
          refine ⟨k1, cond fst V (38 :: V), (fF T N n a).2.2 ++ (acc ++ tk), hk1, hm, ?_, e2⟩
          cases fst
          · refine Or.inr ⟨rfl, ?_⟩
            show -38 :: ((fF T N n a).2.2 ++ (acc ++ tk)) = -38 :: ((fF T N n a).2.2 ++ acc) ++ tk
            rw [List.cons_append, List.append_assoc]
          · refine Or.inl ⟨rfl, ?_⟩
            show (fF T N n a).2.2 ++ (acc ++ tk) = (fF T N n a).2.2 ++ acc ++ tk
            rw [List.append_assoc]
      · rw [if_neg e] at hf
        rw [if_neg e]
        exact hf
  exact key 100 true a [] k ha hk (by omega)
theorem E_of_T {T : Nat → Int32} {N n : Nat} (hN : N ≤ 100) (hT : TOK T N n) : EOK T N n := by
  intro a V tk k h1 ha hk hc hV
  have hs : stW 124 V = V ∧ ∀ X, stT 124 V X = X := by
    rcases hV with rfl | ⟨r, rfl⟩
    · exact ⟨rfl, fun _ => rfl⟩
    · exact ⟨by rw [stW, if_neg (by decide)], fun X => by rw [stT, if_neg (by decide)]⟩
  have hs8 : stW 38 V = V ∧ ∀ X, stT 38 V X = X := by
    rcases hV with rfl | ⟨r, rfl⟩
    · exact ⟨rfl, fun _ => rfl⟩
    · exact ⟨by rw [stW, if_neg (by decide)], fun X => by rw [stT, if_neg (by decide)]⟩
  have hw : whW V = V ∧ ∀ X, whT V X = X := by
    rcases hV with rfl | ⟨r, rfl⟩
    · exact ⟨rfl, fun _ => rfl⟩
    · exact ⟨by rw [whW, if_neg (by decide)], fun X => by rw [whT, if_neg (by decide)]⟩
  have key : ∀ (r : Nat) (fst : Bool) (a : Nat) (acc : List Int32) (k : Nat), 1 ≤ a → a ≤ N → N + 1 ≤ a + k → N + 1 ≤ a + r →
      if (lpR T N (fT T N n) 124 (-124) r fst a acc).1 = true then ∃ k' W' tk', N + 1 ≤ (lpR T N (fT T N n) 124 (-124) r fst a acc).2.1 + k' ∧ mrun T N k true a (cond fst V (124 :: V)) (acc ++ tk) = mrun T N k' false (lpR T N (fT T N n) 124 (-124) r fst a acc).2.1 W' tk' ∧ stW 124 W' = V ∧ stT 124 W' tk' = (lpR T N (fT T N n) 124 (-124) r fst a acc).2.2 ++ tk ∧ ¬ sg T N (lpR T N (fT T N n) 124 (-124) r fst a acc).2.1 = 38 ∧ ¬ sg T N (lpR T N (fT T N n) 124 (-124) r fst a acc).2.1 = 124
      else MF (mrun T N k true a (cond fst V (124 :: V)) (acc ++ tk)) (lpR T N (fT T N n) 124 (-124) r fst a acc).2.1 := by
    intro r
    induction r with
    | zero => intro fst a acc k _ ha _ hr; omega
    | succ r ih =>
      intro fst a acc k ha1 ha hk hr
      have hS : cO (cond fst V (124 :: V)) + n = 4 := by
        cases fst
        · show cO (124 :: V) + n = 4
          rw [cO, if_neg (by decide)]; exact hc
        · exact hc
      have hw2 : whW (cond fst V (124 :: V)) = cond fst V (124 :: V) ∧ ∀ X, whT (cond fst V (124 :: V)) X = X := by
        cases fst
        · exact ⟨by show whW (124 :: V) = 124 :: V; rw [whW, if_neg (by decide)], fun X => by show whT (124 :: V) X = X; rw [whT, if_neg (by decide)]⟩
        · exact hw
      have hs2 : stW 38 (cond fst V (124 :: V)) = cond fst V (124 :: V) ∧ ∀ X, stT 38 (cond fst V (124 :: V)) X = X := by
        cases fst
        · exact ⟨by show stW 38 (124 :: V) = 124 :: V; rw [stW, if_neg (by decide)], fun X => by show stT 38 (124 :: V) X = X; rw [stT, if_neg (by decide)]⟩
        · exact hs8
      have hu : stW 124 (cond fst V (124 :: V)) = V ∧ ∀ X, stT 124 (cond fst V (124 :: V)) X = cond fst X (-124 :: X) := by
        cases fst
        · refine ⟨?_, fun X => ?_⟩
          · show stW 124 (124 :: V) = V
            rw [stW, if_pos (Or.inr ⟨rfl, by decide⟩)]; exact hs.1
          · show stT 124 (124 :: V) X = -124 :: X
            rw [stT, if_pos (Or.inr ⟨rfl, by decide⟩)]; exact hs.2 _
        · exact hs
      have hf := hT a (cond fst V (124 :: V)) (acc ++ tk) k ha1 ha hk hS hw2.1 hw2.2 hs2.1 hs2.2
      have hb := fT_bd (T := T) (N := N) (n := n) ha
      unfold lpR
      by_cases e : (fT T N n a).1 = true
      · rw [if_pos e] at hf
        obtain ⟨k1, W1, tk1, hk1, hm, hW, h38⟩ := hf
        have hall : stW 124 W1 = V ∧ stT 124 W1 tk1 = cond fst ((fT T N n a).2.2 ++ acc) (-124 :: ((fT T N n a).2.2 ++ acc)) ++ tk := by
          have e9 : ∀ X, X = (fT T N n a).2.2 ++ (acc ++ tk) → cond fst X (-124 :: X) = cond fst ((fT T N n a).2.2 ++ acc) (-124 :: ((fT T N n a).2.2 ++ acc)) ++ tk := by
            intro X hX
            subst hX
            cases fst
            · show -124 :: ((fT T N n a).2.2 ++ (acc ++ tk)) = -124 :: ((fT T N n a).2.2 ++ acc) ++ tk
              rw [List.cons_append, List.append_assoc]
            · show (fT T N n a).2.2 ++ (acc ++ tk) = (fT T N n a).2.2 ++ acc ++ tk
              rw [List.append_assoc]
          rcases hW with ⟨rfl, h2⟩ | ⟨rfl, h2⟩
          · exact ⟨hu.1, (hu.2 _).trans (e9 _ h2)⟩
          · refine ⟨?_, ?_⟩
            · rw [stW, if_pos (Or.inl rfl)]; exact hu.1
            · rw [stT, if_pos (Or.inl rfl)]
              exact (hu.2 _).trans (e9 _ h2)
        rw [if_pos e]
        by_cases e2 : sg T N (fT T N n a).2.1 = 124
        · rw [if_pos e2]
          have hlt : (fT T N n a).2.1 < N := sg_lt (fun w => by rw [w] at e2; exact absurd e2 (by decide))
          obtain ⟨k1, rfl⟩ : ∃ x, k1 = x + 1 := ⟨k1 - 1, by omega⟩
          rw [hm, mrun, if_pos (Or.inr e2), e2, hall.1, hall.2]
          exact ih false ((fT T N n a).2.1 + 1) (cond fst ((fT T N n a).2.2 ++ acc) (-124 :: ((fT T N n a).2.2 ++ acc))) k1 (by omega) (by omega) (by omega) (by omega)
        · rw [if_neg e2]
          exact ⟨k1, W1, tk1, hk1, hm, hall.1, hall.2, h38, e2⟩
      · rw [if_neg e] at hf
        rw [if_neg e]
        exact hf
  exact key 100 true a [] k h1 ha hk (by omega)
theorem F_all {T : Nat → Int32} {N : Nat} (hN : N ≤ 100) : ∀ n, n ≤ 4 → FOK T N n
  | 0, _ => fun a Wl tk k ha hk hc => te_ok (Or.inr (by omega)) ha hk
  | n + 1, hn => by
    intro a Wl tk k ha hk hc
    have hF := F_all (T := T) hN n (by omega)
    have hE := E_of_T hN (T_of_F hN hF)
    rw [fF_s]
    by_cases e : sg T N a = 40
    · rw [if_pos e]
      have hlt : a < N := sg_lt (fun w => by rw [w] at e; exact absurd e (by decide))
      obtain ⟨k, rfl⟩ : ∃ x, k = x + 1 := ⟨k - 1, by omega⟩
      have e3 : mrun T N (k + 1) true a Wl tk = mrun T N k true (a + 1) (40 :: Wl) tk := by
        rw [mrun, if_pos (Or.inr e), if_neg (by omega), e]
      rw [e3]
      have hf := hE (a + 1) (40 :: Wl) tk k (by omega) (by omega) (by omega) (by rw [cO, if_pos (Or.inr rfl)]; omega) (Or.inr ⟨Wl, rfl⟩)
      have hb := fE_bd (T := T) (N := N) (n := n) (a := a + 1) (by omega)
      by_cases e4 : (fE T N n (a + 1)).1 = true
      · rw [if_pos e4] at hf
        obtain ⟨k1, W1, tk1, hk1, hm, hW, hTk, h38, h124⟩ := hf
        obtain ⟨k1, rfl⟩ : ∃ x, k1 = x + 1 := ⟨k1 - 1, by omega⟩
        by_cases e5 : sg T N (fE T N n (a + 1)).2.1 = 41
        · rw [if_pos (⟨e4, e5⟩ : (fE T N n (a + 1)).1 = true ∧ sg T N (fE T N n (a + 1)).2.1 = 41)]
          refine (if_pos rfl).mpr ⟨k1, by show N + 1 ≤ (fE T N n (a + 1)).2.1 + 1 + k1; omega, ?_⟩
          have c : ¬ (sg T N (fE T N n (a + 1)).2.1 = 38 ∨ sg T N (fE T N n (a + 1)).2.1 = 124) := fun z => z.elim h38 h124
          rw [hm, mrun, if_neg c, hW, if_neg (List.cons_ne_nil _ _), hTk, if_pos e5]
          rfl
        · rw [if_neg (fun z : (fE T N n (a + 1)).1 = true ∧ sg T N (fE T N n (a + 1)).2.1 = 41 => e5 z.2)]
          refine (if_neg (by simp)).mpr ?_
          have c : ¬ (sg T N (fE T N n (a + 1)).2.1 = 38 ∨ sg T N (fE T N n (a + 1)).2.1 = 124) := fun z => z.elim h38 h124
          rw [hm, mrun, if_neg c, hW, if_neg (List.cons_ne_nil _ _), hTk, if_neg e5]
          exact ⟨rfl, rfl⟩
      · rw [if_neg e4] at hf
        rw [if_neg (fun z : (fE T N n (a + 1)).1 = true ∧ sg T N (fE T N n (a + 1)).2.1 = 41 => e4 z.1)]
        exact (if_neg (by simp)).mpr hf
    · rw [if_neg e]
      by_cases e2 : sg T N a = 33
      · rw [if_pos e2]
        have hlt : a < N := sg_lt (fun w => by rw [w] at e2; exact absurd e2 (by decide))
        obtain ⟨k, rfl⟩ : ∃ x, k = x + 1 := ⟨k - 1, by omega⟩
        have e3 : mrun T N (k + 1) true a Wl tk = mrun T N k true (a + 1) (33 :: Wl) tk := by
          rw [mrun, if_pos (Or.inl e2), if_neg (by omega), e2]
        rw [e3]
        have hf := hF (a + 1) (33 :: Wl) tk k (by omega) (by omega) (by rw [cO, if_pos (Or.inl rfl)]; omega)
        by_cases e4 : (fF T N n (a + 1)).1 = true
        · rw [if_pos e4] at hf
          obtain ⟨k1, hk1, hm⟩ := hf
          rw [whW, if_pos rfl, whT, if_pos rfl] at hm
          show if (fF T N n (a + 1)).1 = true then _ else _
          rw [if_pos e4]
          exact ⟨k1, hk1, hm⟩
        · rw [if_neg e4] at hf
          show if (fF T N n (a + 1)).1 = true then _ else _
          rw [if_neg e4]
          exact hf
      · rw [if_neg e2]
        exact te_ok (Or.inl (fun z => z.elim e2 e)) ha hk
/-- an E from place a on -/
theorem E_all {T : Nat → Int32} {N a : Nat} (hN : N ≤ 100) (h1 : 1 ≤ a) (ha : a ≤ N) : (mrun T N (N + 1) true a [] []).1 = (fE T N 4 a).1 ∧ (mrun T N (N + 1) true a [] []).2.1 = (fE T N 4 a).2.1 ∧ ((fE T N 4 a).1 = true → (mrun T N (N + 1) true a [] []).2.2 = (fE T N 4 a).2.2) := by
  have h := E_of_T hN (T_of_F hN (F_all (T := T) hN 4 (Nat.le_refl _))) a [] [] (N + 1) h1 ha (by omega) rfl (Or.inl rfl)
  have hb := fE_bd (T := T) (N := N) (n := 4) ha
  by_cases e : (fE T N 4 a).1 = true
  · rw [if_pos e] at h
    obtain ⟨k1, W1, tk1, hk1, hm, hW, hTk, h38, h124⟩ := h
    obtain ⟨k1, rfl⟩ : ∃ x, k1 = x + 1 := ⟨k1 - 1, by omega⟩
    rw [hm, mrun, if_neg (fun z => z.elim h38 h124), if_pos hW, hTk, List.append_nil]
    exact ⟨e.symm, rfl, fun _ => rfl⟩
  · rw [if_neg e] at h
    exact ⟨h.1.trans (Bool.eq_false_iff.mpr e).symm, h.2, fun z => absurd z e⟩
