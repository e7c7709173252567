/-- the model's reading of an E, n steps at most: does it stand, where reading stops, the tokens -/
def mrun (T : Nat → Int32) (N : Nat) : Nat → Bool → Nat → List Int32 → List Int32 → Bool × Nat × List Int32
  | 0, _, a, _, tk => (false, a, tk)
  | n + 1, true, a, Wl, tk =>
    if sg T N a = 33 ∨ sg T N a = 40 then (if cO Wl = 4 then (false, a, tk) else mrun T N n true (a + 1) (sg T N a :: Wl) tk)
    else if 0 ≤ plc (sg T N a) ∧ (60 ≤ sg T N (a + 1) ∧ sg T N (a + 1) ≤ 62) ∧ dgt (sg T N (a + 2)) then mrun T N n false (ttA T N a) (whW Wl) (whT Wl (ttV T N a :: tk))
    else (false, ttA T N a, tk)
  | n + 1, false, a, Wl, tk =>
    if sg T N a = 38 ∨ sg T N a = 124 then mrun T N n true (a + 1) (sg T N a :: stW (sg T N a) Wl) (stT (sg T N a) Wl tk)
    else if stW 124 Wl = [] then (true, a, stT 124 Wl tk)
    else if sg T N a = 41 then mrun T N n false (a + 1) (whW (stW 124 Wl).tail) (whT (stW 124 Wl).tail (stT 124 Wl tk))
    else (false, a, stT 124 Wl tk)
abbrev wsg (b : Int32) : Prop := b = 33 ∨ b = 40 ∨ b = 38 ∨ b = 124
theorem wh_len : ∀ (Wl tk : List Int32), (whT Wl tk).length + (whW Wl).length = tk.length + Wl.length
  | [], tk => rfl
  | b :: r, tk => by
    unfold whT whW
    by_cases h : b = 33
    · rw [if_pos h, if_pos h, wh_len r (-33 :: tk), List.length_cons, List.length_cons]; omega
    · rw [if_neg h, if_neg h]
theorem st_len (s : Int32) : ∀ (Wl tk : List Int32), (stT s Wl tk).length + (stW s Wl).length = tk.length + Wl.length
  | [], tk => rfl
  | b :: r, tk => by
    unfold stT stW
    by_cases h : cls b s
    · rw [if_pos h, if_pos h, st_len s r (-b :: tk), List.length_cons, List.length_cons]; omega
    · rw [if_neg h, if_neg h]
theorem wh_le : ∀ (Wl : List Int32), (whW Wl).length ≤ Wl.length
  | [] => Nat.le_refl _
  | b :: r => by
    unfold whW
    by_cases h : b = 33
    · rw [if_pos h, List.length_cons]; have := wh_le r; omega
    · rw [if_neg h]; exact Nat.le_refl _
theorem st_le (s : Int32) : ∀ (Wl : List Int32), (stW s Wl).length ≤ Wl.length
  | [] => Nat.le_refl _
  | b :: r => by
    unfold stW
    by_cases h : cls b s
    · rw [if_pos h, List.length_cons]; have := st_le s r; omega
    · rw [if_neg h]; exact Nat.le_refl _
theorem wh_all {p : Int32 → Prop} : ∀ {Wl : List Int32}, (∀ b, b ∈ Wl → p b) → ∀ b, b ∈ whW Wl → p b
  | [], _, b, hb => by cases hb
  | x :: r, h, b, hb => by
    unfold whW at hb
    by_cases e : x = 33
    · rw [if_pos e] at hb; exact wh_all (fun y hy => h y (List.mem_cons_of_mem _ hy)) b hb
    · rw [if_neg e] at hb; exact h b hb
theorem st_all {p : Int32 → Prop} {s : Int32} : ∀ {Wl : List Int32}, (∀ b, b ∈ Wl → p b) → ∀ b, b ∈ stW s Wl → p b
  | [], _, b, hb => by cases hb
  | x :: r, h, b, hb => by
    unfold stW at hb
    by_cases e : cls x s
    · rw [if_pos e] at hb; exact st_all (fun y hy => h y (List.mem_cons_of_mem _ hy)) b hb
    · rw [if_neg e] at hb; exact h b hb
theorem wh_TWL {W : Nat → Int32} : ∀ {Wl : List Int32}, TWL W Wl → TWL W (whW Wl)
  | [], h => h
  | x :: r, h => by
    unfold whW
    by_cases e : x = 33
    · rw [if_pos e]; exact wh_TWL h.2
    · rw [if_neg e]; exact h
theorem st_TWL {W : Nat → Int32} {s : Int32} : ∀ {Wl : List Int32}, TWL W Wl → TWL W (stW s Wl)
  | [], h => h
  | x :: r, h => by
    unfold stW
    by_cases e : cls x s
    · rw [if_pos e]; exact st_TWL h.2
    · rw [if_neg e]; exact h
/-- what settle leaves on top is ! or ( -/
theorem st_top : ∀ {Wl : List Int32}, (∀ b, b ∈ Wl → wsg b) → ∀ {x r}, stW 124 Wl = x :: r → x = 33 ∨ x = 40
  | [], _, x, r, h => by cases h
  | y :: l, ha, x, r, h => by
    unfold stW at h
    by_cases e : cls y 124
    · rw [if_pos e] at h; exact st_top (fun b hb => ha b (List.mem_cons_of_mem _ hb)) h
    · rw [if_neg e] at h
      cases h
      rcases ha y (List.mem_cons_self) with z | z | z | z
      · exact Or.inl z
      · exact Or.inr z
      · exact absurd (Or.inl z) e
      · exact absurd (Or.inr ⟨z, by decide⟩) e
theorem sg_lt {T : Nat → Int32} {N a : Nat} (h : ¬ sg T N a = -1) : a < N := by
  refine Nat.lt_of_not_le fun z => h ?_
  unfold sg
  rw [if_neg (by omega)]
theorem dg_lt {T : Nat → Int32} {N a : Nat} (h : dgt (sg T N a)) : a < N := sg_lt fun z => by rw [z] at h; exact absurd h.1 (by decide)
theorem nbK_le {T : Nat → Int32} {N a : Nat} (h : dgt (sg T N a)) : a + nbK T N a ≤ N := by
  have h1 := dg_lt h
  unfold nbK
  rw [if_pos h]
  by_cases h2 : dgt (sg T N (a + 1))
  · rw [if_pos h2]; have := dg_lt h2; omega
  · rw [if_neg h2]; omega
theorem ttA_le {T : Nat → Int32} {N a : Nat} (h : ttP T N a) : a + 3 ≤ ttA T N a ∧ ttA T N a ≤ N := by
  have h1 := nbK_le h.2.2
  unfold ttA
  rw [if_neg (Int32.not_lt.mpr h.1), if_pos h.2.1]
  refine ⟨?_, h1⟩
  unfold nbK
  rw [if_pos h.2.2]
  split <;> omega
/-- what takesE leaves -/
def EO (M : MZ) (P D : HP) (bs : Nat) (c : Int32) (Sg0 : Nat → Int32) (R : Bool × Nat × List Int32) (y : Int32) (h : HP) : Prop := y = b2i (R.1 = true) ∧ ∃ dg wt op v Sg W, SGL Sg bs R.2.2 ∧ (∀ j, j < bs → Sg j = Sg0 j) ∧ (R.1 = true → v = nI (bs + R.2.2.length)) ∧ h = mh P (pst (msa (msa M 10 (pz c) (nI bs)) 11 (pz c) v) (nI R.2.1) dg (nI (bs + R.2.2.length)) wt op Sg W) D
