abbrev tkf (t : Int32) : Prop := t = -33 ∨ t = -38 ∨ t = -124 ∨ ∃ f c n : Nat, f < 6 ∧ c < 3 ∧ n < 100 ∧ t = nI (1000 * f + 100 * c + n)
theorem rg_nI {x a b : Int32} {m n : Nat} (ha : a.toInt = (m : Int)) (hb : b.toInt = (n : Int)) (h : a ≤ x ∧ x ≤ b) : ∃ j, m ≤ j ∧ j ≤ n ∧ x = nI j := by
  obtain ⟨h1, h2⟩ := h
  have hx : ¬ x < 0 := by
    rw [Int32.lt_iff_toInt_lt, show (0 : Int32).toInt = 0 from rfl]
    rw [Int32.le_iff_toInt_le] at h1
    omega
  obtain ⟨j, hj, rfl⟩ := nI_of hx
  rw [Int32.le_iff_toInt_le] at h1 h2
  have e := nI_toInt (n := j) hj
  exact ⟨j, by omega, by omega, rfl⟩
theorem plc_n {c : Int32} (h : 0 ≤ plc c) : ∃ f : Nat, f < 6 ∧ plc c = nI f := by
  unfold plc at h ⊢
  split
  · exact ⟨0, by decide, rfl⟩
  · split
    · exact ⟨1, by decide, rfl⟩
    · split
      · exact ⟨2, by decide, rfl⟩
      · split
        · exact ⟨3, by decide, rfl⟩
        · split
          · exact ⟨4, by decide, rfl⟩
          · split
            · exact ⟨5, by decide, rfl⟩
            · rename_i h1 h2 h3 h4 h5 h6
              rw [if_neg h1, if_neg h2, if_neg h3, if_neg h4, if_neg h5, if_neg h6] at h
              exact absurd h (by decide)
theorem nb_n {T : Nat → Int32} {N a : Nat} (h : dgt (sg T N a)) : ∃ n : Nat, n < 100 ∧ nbS T N a (nbK T N a) = nI n := by
  obtain ⟨j, h1, h2, e⟩ := rg_nI (m := 48) (n := 57) (by decide) (by decide) h
  have s1 : nbS T N a 1 = nI (j - 48) := by
    show 10 * 0 + sg T N (a + 0) - 48 = _
    rw [Nat.add_zero, e, show (10 : Int32) * 0 = 0 from by decide, Int32.zero_add, show (48 : Int32) = nI 48 from rfl, nI_subI h1 (by omega)]
  unfold nbK
  rw [if_pos h]
  by_cases h3 : dgt (sg T N (a + 1))
  · rw [if_pos h3]
    obtain ⟨k, h4, h5, e2⟩ := rg_nI (m := 48) (n := 57) (by decide) (by decide) h3
    refine ⟨10 * (j - 48) + k - 48, by omega, ?_⟩
    show 10 * nbS T N a 1 + sg T N (a + 1) - 48 = _
    rw [s1, e2, show (10 : Int32) = nI 10 from rfl, show (48 : Int32) = nI 48 from rfl, nI_mul, nI_add, nI_subI (by omega) (by omega)]
  · rw [if_neg h3]
    exact ⟨j - 48, by omega, s1⟩
theorem ttV_n {T : Nat → Int32} {N a : Nat} (h : ttP T N a) : ∃ f c n : Nat, f < 6 ∧ c < 3 ∧ n < 100 ∧ ttV T N a = nI (1000 * f + 100 * c + n) := by
  obtain ⟨f, hf, e1⟩ := plc_n h.1
  obtain ⟨j, h1, h2, e2⟩ := rg_nI (m := 60) (n := 62) (by decide) (by decide) h.2.1
  obtain ⟨n, hn, e3⟩ := nb_n h.2.2
  refine ⟨f, j - 60, n, hf, by omega, hn, ?_⟩
  unfold ttV
  rw [e1, e2, e3, show (1000 : Int32) = nI 1000 from rfl, show (100 : Int32) = nI 100 from rfl, show (60 : Int32) = nI 60 from rfl, nI_subI h1 (by omega), nI_mul, nI_mul, nI_add, nI_add]
theorem wh_tkf : ∀ {Wl tk : List Int32}, (∀ t, t ∈ tk → tkf t) → ∀ t, t ∈ whT Wl tk → tkf t
  | [], tk, h, t, ht => h t ht
  | b :: r, tk, h, t, ht => by
    unfold whT at ht
    by_cases e : b = 33
    · rw [if_pos e] at ht
      exact wh_tkf (fun x hx => by rcases List.mem_cons.mp hx with z | z; exact Or.inl z; exact h x z) t ht
    · rw [if_neg e] at ht; exact h t ht
theorem st_tkf {s : Int32} : ∀ {Wl tk : List Int32}, (∀ t, t ∈ tk → tkf t) → ∀ t, t ∈ stT s Wl tk → tkf t
  | [], tk, h, t, ht => h t ht
  | b :: r, tk, h, t, ht => by
    unfold stT at ht
    by_cases e : cls b s
    · rw [if_pos e] at ht
      refine st_tkf (fun x hx => ?_) t ht
      rcases List.mem_cons.mp hx with z | z
      · rcases e with e | e
        · exact Or.inr (Or.inl (by rw [z, e]))
        · exact Or.inr (Or.inr (Or.inl (by rw [z, e.1])))
      · exact h x z
    · rw [if_neg e] at ht; exact h t ht
theorem mrun_wf {T : Nat → Int32} {N : Nat} : ∀ (n : Nat) (w : Bool) (a : Nat) (Wl tk : List Int32), okW Wl → cO Wl ≤ 4 → wpf tk (oN Wl + cond w 0 1) → (∀ t, t ∈ tk → tkf t) → (mrun T N n w a Wl tk).1 = true → wpf (mrun T N n w a Wl tk).2.2 1 ∧ ∀ t, t ∈ (mrun T N n w a Wl tk).2.2 → tkf t
  | 0, w, a, Wl, tk, _, _, _, _, hr => by unfold mrun at hr; exact absurd hr (by simp)
  | n + 1, true, a, Wl, tk, h1, h2, h3, h4, hr => by
    unfold mrun at hr ⊢
    by_cases e : sg T N a = 33 ∨ sg T N a = 40
    · rw [if_pos e] at hr ⊢
      by_cases e2 : cO Wl = 4
      · rw [if_pos e2] at hr; exact absurd hr (by simp)
      · rw [if_neg e2] at hr ⊢
        have ec : cO (sg T N a :: Wl) = cO Wl + 1 := by rw [cO, if_pos e]
        have eo : oN (sg T N a :: Wl) = oN Wl := by rw [oN, if_pos e]
        exact mrun_wf n true (a + 1) _ tk ⟨by rcases e with z | z; exact Or.inl z; exact Or.inr (Or.inl z), by rcases e with z | z; exact Or.inl z; exact Or.inr (Or.inl z), h1⟩ (by omega) (by rw [eo]; exact h3) h4 hr
    · rw [if_neg e] at hr ⊢
      by_cases e2 : 0 ≤ plc (sg T N a) ∧ (60 ≤ sg T N (a + 1) ∧ sg T N (a + 1) ≤ 62) ∧ dgt (sg T N (a + 2))
      · rw [if_pos e2] at hr ⊢
        obtain ⟨f, c, m, hf, hc, hm, ev⟩ := ttV_n (T := T) (N := N) (a := a) e2
        have hl := oN_le h1
        have hl2 := lv_le Wl
        have hv : ¬ ttV T N a = -33 ∧ ¬ ttV T N a < 0 := by
          have hp := nI_pos (n := 1000 * f + 100 * c + m) (by omega)
          rw [ev]
          refine ⟨fun z => hp ?_, hp⟩
          rw [z]; decide
        have h5 : wpf (ttV T N a :: tk) (oN Wl + 1) := by
          unfold wpf
          rw [if_neg hv.1, if_neg hv.2]
          exact ⟨by omega, by omega, h3⟩
        exact mrun_wf n false _ _ _ (wh_ok h1) (Nat.le_trans (wh_cO Wl) h2) (by rw [wh_oN]; exact wh_wpf h5 (Nat.succ_pos _)) (wh_tkf (fun t ht => by rcases List.mem_cons.mp ht with z | z; exact Or.inr (Or.inr (Or.inr ⟨f, c, m, hf, hc, hm, z.trans ev⟩)); exact h4 t z)) hr
      · rw [if_neg e2] at hr; exact absurd hr (by simp)
  | n + 1, false, a, Wl, tk, h1, h2, h3, h4, hr => by
    unfold mrun at hr ⊢
    by_cases e : sg T N a = 38 ∨ sg T N a = 124
    · rw [if_pos e] at hr ⊢
      have ec : cO (sg T N a :: stW (sg T N a) Wl) = cO Wl := by rw [cO, if_neg (by rcases e with z | z <;> rw [z] <;> decide), cO_st]
      have eo : oN (sg T N a :: stW (sg T N a) Wl) = oN (stW (sg T N a) Wl) + 1 := by rw [oN, if_neg (by rcases e with z | z <;> rw [z] <;> decide)]
      exact mrun_wf n true (a + 1) _ _ ⟨by rcases e with z | z; exact Or.inr (Or.inr (Or.inl z)); exact Or.inr (Or.inr (Or.inr z)), Or.inr (Or.inr (st_lv e h1)), st_ok h1⟩ (by omega) (by rw [eo]; exact st_wpf h3) (st_tkf h4) hr
    · rw [if_neg e] at hr ⊢
      by_cases e2 : stW 124 Wl = []
      · rw [if_pos e2] at hr ⊢
        have h5 := st_wpf (s := 124) (Wl := Wl) h3
        rw [e2] at h5
        exact ⟨h5, st_tkf h4⟩
      · rw [if_neg e2] at hr ⊢
        by_cases e3 : sg T N a = 41
        · rw [if_pos e3] at hr ⊢
          have h5 := st_wpf (s := 124) (Wl := Wl) h3
          have h6 := st_ok (s := 124) h1
          have h7 := cO_st 124 Wl
          cases ew : stW 124 Wl with
          | nil => exact absurd ew e2
          | cons x r =>
            rw [ew] at h5 h6 h7 hr
            have hx : x = 33 ∨ x = 40 := by
              have h8 := st_lv (s := 124) (Or.inr rfl) h1
              rw [ew] at h8
              rcases h6.1 with z | z | z | z
              · exact Or.inl z
              · exact Or.inr z
              · rw [z] at h8; exact absurd h8 (by show ¬ lvT _ < lvT 124; decide)
              · rw [z] at h8; exact absurd h8 (by show ¬ lvT _ < lvT 124; decide)
            have eo : oN (x :: r) = oN r := by rw [oN, if_pos hx]
            have ec : cO (x :: r) = cO r + 1 := by rw [cO, if_pos hx]
            rw [eo] at h5
            exact mrun_wf n false (a + 1) _ _ (wh_ok h6.2.2) (Nat.le_trans (wh_cO r) (by omega)) (by rw [List.tail_cons, wh_oN]; exact wh_wpf h5 (Nat.succ_pos _)) (wh_tkf (st_tkf h4)) hr
        · rw [if_neg e3] at hr; exact absurd hr (by simp)
