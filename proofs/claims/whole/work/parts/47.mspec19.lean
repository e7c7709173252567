theorem nbK_0 {T : Nat → Int32} {N a : Nat} (h : ¬ dgt (sg T N a)) : nbK T N a = 0 := by unfold nbK; rw [if_neg h]
theorem ttA_le2 {T : Nat → Int32} {N a : Nat} (ha : a ≤ N) : a ≤ ttA T N a ∧ ttA T N a ≤ N := by
  unfold ttA
  by_cases h1 : plc (sg T N a) < 0
  · rw [if_pos h1]; exact ⟨Nat.le_refl _, ha⟩
  · rw [if_neg h1]
    have l1 : a < N := sg_lt fun z => h1 (by rw [z]; decide)
    by_cases h2 : 60 ≤ sg T N (a + 1) ∧ sg T N (a + 1) ≤ 62
    · rw [if_pos h2]
      have l2 : a + 1 < N := sg_lt fun z => by rw [z] at h2; exact absurd h2.1 (by decide)
      by_cases h3 : dgt (sg T N (a + 2))
      · have := nbK_le h3; exact ⟨by omega, this⟩
      · rw [nbK_0 h3]; exact ⟨by omega, by omega⟩
    · rw [if_neg h2]; exact ⟨by omega, by omega⟩
theorem mrun_bd {T : Nat → Int32} {N x : Nat} : ∀ (n : Nat) (w : Bool) (a : Nat) (Wl tk : List Int32), a ≤ N → tk.length + Wl.length + x ≤ a → (mrun T N n w a Wl tk).2.1 ≤ N ∧ (mrun T N n w a Wl tk).2.2.length + x ≤ (mrun T N n w a Wl tk).2.1
  | 0, w, a, Wl, tk, h1, h2 => by unfold mrun; exact ⟨h1, by show tk.length + x ≤ a; omega⟩
  | n + 1, true, a, Wl, tk, h1, h2 => by
    unfold mrun
    by_cases e : sg T N a = 33 ∨ sg T N a = 40
    · rw [if_pos e]
      have l1 : a < N := sg_lt fun z => by rw [z] at e; exact absurd e (by decide)
      by_cases e2 : cO Wl = 4
      · rw [if_pos e2]; exact ⟨h1, by show tk.length + x ≤ a; omega⟩
      · rw [if_neg e2]; exact mrun_bd n true (a + 1) _ _ l1 (by rw [List.length_cons]; omega)
    · rw [if_neg e]
      by_cases e2 : 0 ≤ plc (sg T N a) ∧ (60 ≤ sg T N (a + 1) ∧ sg T N (a + 1) ≤ 62) ∧ dgt (sg T N (a + 2))
      · rw [if_pos e2]
        obtain ⟨l1, l2⟩ := ttA_le (T := T) (N := N) (a := a) e2
        have l3 := wh_len Wl (ttV T N a :: tk)
        rw [List.length_cons] at l3
        exact mrun_bd n false _ _ _ l2 (by omega)
      · rw [if_neg e2]
        obtain ⟨l1, l2⟩ := ttA_le2 (T := T) h1
        exact ⟨l2, by show tk.length + x ≤ ttA T N a; omega⟩
  | n + 1, false, a, Wl, tk, h1, h2 => by
    unfold mrun
    by_cases e : sg T N a = 38 ∨ sg T N a = 124
    · rw [if_pos e]
      have l1 : a < N := sg_lt fun z => by rw [z] at e; exact absurd e (by decide)
      have l2 := st_len (sg T N a) Wl tk
      exact mrun_bd n true (a + 1) _ _ l1 (by rw [List.length_cons]; omega)
    · rw [if_neg e]
      have l2 := st_len 124 Wl tk
      by_cases e2 : stW 124 Wl = []
      · rw [if_pos e2]; exact ⟨h1, by show (stT 124 Wl tk).length + x ≤ a; omega⟩
      · rw [if_neg e2]
        by_cases e3 : sg T N a = 41
        · rw [if_pos e3]
          have l1 : a < N := sg_lt fun z => by rw [z] at e3; exact absurd e3 (by decide)
          have l3 := wh_len (stW 124 Wl).tail (stT 124 Wl tk)
          rw [List.length_tail] at l3
          exact mrun_bd n false (a + 1) _ _ l1 (by omega)
        · rw [if_neg e3]; exact ⟨h1, by show (stT 124 Wl tk).length + x ≤ a; omega⟩
/-- a clause: reading stops within the text; as many tokens as signs at most -/
theorem clR_bd {T : Nat → Int32} {N : Nat} {LT : Nat → Int32} {a : Nat} (ha : a ≤ N) (h : ∀ i, i < 8 → ¬ LT i = -1) : (clR T N LT a).2.1 ≤ N ∧ (clR T N LT a).2.2.length + a ≤ (clR T N LT a).2.1 := by
  have h1 := hdR_ge T N LT a
  have h2 := hdR_le (T := T) ha h
  unfold clR
  by_cases e1 : (hdR T N LT a).1 = true
  · rw [if_pos e1]
    by_cases e2 : dgt (sg T N (hdR T N LT a).2)
    · rw [if_pos e2]
      have h3 := nbK_le e2
      by_cases e3 : sg T N ((hdR T N LT a).2 + nbK T N (hdR T N LT a).2) = 32
      · rw [if_pos e3]
        have l1 : (hdR T N LT a).2 + nbK T N (hdR T N LT a).2 < N := sg_lt fun z => by rw [z] at e3; exact absurd e3 (by decide)
        exact mrun_bd (x := a) (N + 1) true _ [] [] l1 (by simp only [List.length_nil]; omega)
      · rw [if_neg e3]; exact ⟨h3, by simp only [List.length_nil]; omega⟩
    · rw [if_neg e2]; exact ⟨h2, by simp only [List.length_nil]; omega⟩
  · rw [if_neg e1]; exact ⟨h2, by simp only [List.length_nil]; omega⟩
theorem clR_wf {T : Nat → Int32} {N : Nat} {LT : Nat → Int32} {a : Nat} (h : (clR T N LT a).1 = true) : wfs (clR T N LT a).2.2.reverse 0 ∧ ∀ t, t ∈ (clR T N LT a).2.2.reverse → tkf t := by
  unfold clR at h ⊢
  by_cases e1 : (hdR T N LT a).1 = true
  · rw [if_pos e1] at h ⊢
    by_cases e2 : dgt (sg T N (hdR T N LT a).2)
    · rw [if_pos e2] at h ⊢
      by_cases e3 : sg T N ((hdR T N LT a).2 + nbK T N (hdR T N LT a).2) = 32
      · rw [if_pos e3] at h ⊢
        obtain ⟨w1, w2⟩ := mrun_wf (N + 1) true _ [] [] trivial (Nat.zero_le _) (show wpf [] 0 from rfl) (fun t ht => by cases ht) h
        exact ⟨wpf_wfs w1, fun t ht => w2 t (List.mem_reverse.mp ht)⟩
      · rw [if_neg e3] at h; exact absurd h (by simp)
    · rw [if_neg e2] at h; exact absurd h (by simp)
  · rw [if_neg e1] at h; exact absurd h (by simp)
