/-! the tokens that reading an E leaves never ask for an answer that isn't there -/
def wpf : List Int32 → Nat → Prop
  | [], n => n = 0
  | t :: r, n => if t = -33 then 1 ≤ n ∧ wpf r n else if t < 0 then 1 ≤ n ∧ wpf r (n + 1) else 1 ≤ n ∧ n ≤ 31 ∧ wpf r (n - 1)
def wfr : List Int32 → Nat → Nat → Prop
  | [], n, m => n = m
  | t :: ts, n, m => if t = -33 then 1 ≤ n ∧ wfr ts n m else if t < 0 then 2 ≤ n ∧ wfr ts (n - 1) m else n < 31 ∧ wfr ts (n + 1) m
theorem wfr_snoc : ∀ {l : List Int32} {n m k : Nat} {t : Int32}, wfr l n m → (if t = -33 then 1 ≤ m ∧ m = k else if t < 0 then 2 ≤ m ∧ m - 1 = k else m < 31 ∧ m + 1 = k) → wfr (l ++ [t]) n k
  | [], n, m, k, t, h, hk => by
    have h : n = m := h
    subst h
    exact hk
  | x :: l, n, m, k, t, h, hk => by
    unfold wfr at h
    show wfr (x :: (l ++ [t])) n k
    unfold wfr
    by_cases e : x = -33
    · rw [if_pos e] at h ⊢; exact ⟨h.1, wfr_snoc h.2 hk⟩
    · rw [if_neg e] at h ⊢
      by_cases e2 : x < 0
      · rw [if_pos e2] at h ⊢; exact ⟨h.1, wfr_snoc h.2 hk⟩
      · rw [if_neg e2] at h ⊢; exact ⟨h.1, wfr_snoc h.2 hk⟩
theorem wpf_wfr : ∀ {tk : List Int32} {n : Nat}, wpf tk n → wfr tk.reverse 0 n
  | [], n, h => Eq.symm h
  | t :: r, n, h => by
    rw [List.reverse_cons]
    unfold wpf at h
    by_cases e : t = -33
    · rw [if_pos e] at h
      exact wfr_snoc (wpf_wfr h.2) (by rw [if_pos e]; exact ⟨h.1, rfl⟩)
    · rw [if_neg e] at h
      by_cases e2 : t < 0
      · rw [if_pos e2] at h
        exact wfr_snoc (wpf_wfr h.2) (by rw [if_neg e, if_pos e2]; omega)
      · rw [if_neg e2] at h
        exact wfr_snoc (wpf_wfr h.2.2) (by rw [if_neg e, if_neg e2]; omega)
theorem wfr_wfs : ∀ {l : List Int32} {n : Nat}, wfr l n 1 → wfs l n
  | [], n, h => h
  | t :: l, n, h => by
    unfold wfr at h
    unfold wfs
    by_cases e : t = -33
    · rw [if_pos e] at h ⊢; exact ⟨h.1, wfr_wfs h.2⟩
    · rw [if_neg e] at h ⊢
      by_cases e2 : t < 0
      · rw [if_pos e2] at h ⊢; exact ⟨h.1, wfr_wfs h.2⟩
      · rw [if_neg e2] at h ⊢; exact ⟨h.1, wfr_wfs h.2⟩
theorem wpf_wfs {tk : List Int32} (h : wpf tk 1) : wfs tk.reverse 0 := wfr_wfs (wpf_wfr h)
/-- how many & and | wait; how close the one on top binds; in each E and T one of a kind at most -/
def oN : List Int32 → Nat
  | [] => 0
  | b :: r => if b = 33 ∨ b = 40 then oN r else oN r + 1
def lvT (b : Int32) : Nat := if b = 38 then 2 else if b = 124 then 1 else 0
def lv : List Int32 → Nat
  | [] => 0
  | b :: _ => lvT b
def okW : List Int32 → Prop
  | [] => True
  | b :: r => wsg b ∧ (b = 33 ∨ b = 40 ∨ lv r < lvT b) ∧ okW r
theorem lv_le (l : List Int32) : lv l ≤ 2 := by
  cases l with
  | nil => exact Nat.zero_le _
  | cons b r => show lvT b ≤ 2; unfold lvT; split; exact Nat.le_refl _; split <;> omega
theorem oN_le : ∀ {l : List Int32}, okW l → oN l ≤ 2 * cO l + lv l
  | [], _ => Nat.zero_le _
  | b :: r, h => by
    have ih := oN_le h.2.2
    have h2 := lv_le r
    unfold oN cO
    show _ ≤ _ + lvT b
    by_cases e : b = 33 ∨ b = 40
    · rw [if_pos e, if_pos e]; omega
    · rw [if_neg e, if_neg e]
      rcases h.2.1 with z | z | z
      · exact absurd (Or.inl z) e
      · exact absurd (Or.inr z) e
      · omega
theorem wh_wpf : ∀ {Wl tk : List Int32} {n : Nat}, wpf tk n → 1 ≤ n → wpf (whT Wl tk) n
  | [], tk, n, h, _ => h
  | b :: r, tk, n, h, h1 => by
    unfold whT
    by_cases e : b = 33
    · rw [if_pos e]
      exact wh_wpf (by unfold wpf; rw [if_pos rfl]; exact ⟨h1, h⟩) h1
    · rw [if_neg e]; exact h
theorem wh_oN : ∀ (Wl : List Int32), oN (whW Wl) = oN Wl
  | [] => rfl
  | b :: r => by
    unfold whW
    by_cases e : b = 33
    · rw [if_pos e, wh_oN r]
      conv => rhs; unfold oN
      rw [if_pos (Or.inl e)]
    · rw [if_neg e]
theorem wh_cO : ∀ (Wl : List Int32), cO (whW Wl) ≤ cO Wl
  | [] => Nat.le_refl _
  | b :: r => by
    unfold whW
    by_cases e : b = 33
    · rw [if_pos e]
      have := wh_cO r
      conv => rhs; unfold cO
      rw [if_pos (Or.inl e)]
      omega
    · rw [if_neg e]; exact Nat.le_refl _
theorem wh_ok : ∀ {Wl : List Int32}, okW Wl → okW (whW Wl)
  | [], h => h
  | b :: r, h => by
    unfold whW
    by_cases e : b = 33
    · rw [if_pos e]; exact wh_ok h.2.2
    · rw [if_neg e]; exact h
theorem st_ok {s : Int32} : ∀ {Wl : List Int32}, okW Wl → okW (stW s Wl)
  | [], h => h
  | b :: r, h => by
    unfold stW
    by_cases e : cls b s
    · rw [if_pos e]; exact st_ok h.2.2
    · rw [if_neg e]; exact h
theorem st_wpf {s : Int32} : ∀ {Wl tk : List Int32}, wpf tk (oN Wl + 1) → wpf (stT s Wl tk) (oN (stW s Wl) + 1)
  | [], tk, h => h
  | b :: r, tk, h => by
    unfold stT stW
    by_cases e : cls b s
    · rw [if_pos e, if_pos e]
      refine st_wpf ?_
      have eb : b = 38 ∨ b = 124 := by
        rcases e with e | e
        · exact Or.inl e
        · exact Or.inr e.1
      have ho : oN (b :: r) = oN r + 1 := by
        conv => lhs; unfold oN
        rw [if_neg (by rcases eb with z | z <;> rw [z] <;> decide)]
      rw [ho] at h
      unfold wpf
      rw [if_neg (by rcases eb with z | z <;> rw [z] <;> decide), if_pos (by rcases eb with z | z <;> rw [z] <;> decide)]
      exact ⟨by omega, h⟩
    · rw [if_neg e, if_neg e]; exact h
theorem st_lv {s : Int32} (hs : s = 38 ∨ s = 124) : ∀ {Wl : List Int32}, okW Wl → lv (stW s Wl) < lvT s
  | [], _ => by rcases hs with z | z <;> rw [z] <;> decide
  | b :: r, h => by
    unfold stW
    by_cases e : cls b s
    · rw [if_pos e]; exact st_lv hs h.2.2
    · rw [if_neg e]
      show lvT b < lvT s
      rcases hs with z | z <;> subst z
      · have hb : ¬ b = 38 := fun y => e (Or.inl y)
        unfold lvT
        rw [if_neg hb, if_pos rfl]
        split <;> omega
      · have hb : ¬ b = 38 := fun y => e (Or.inl y)
        have hb2 : ¬ b = 124 := fun y => e (Or.inr ⟨y, by decide⟩)
        unfold lvT
        rw [if_neg hb, if_neg hb2]
        decide
