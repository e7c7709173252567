theorem tkX_n {f c n : Nat} (hf : f < 6) (hc : c < 3) (hn : n < 100) : tkX (nI (1000 * f + 100 * c + n)) = nI (300 * f + 100 * c + n) := by
  have h0 : ∀ k : Int32, k < 0 → ¬ nI (1000 * f + 100 * c + n) = k := fun k hk z => by rw [← z] at hk; exact nI_pos (by omega) hk
  unfold tkX
  rw [if_neg (h0 _ (by decide)), if_neg (h0 _ (by decide)), if_neg (nI_pos (by omega))]
  rw [show (1000 : Int32) = nI 1000 from rfl, show (100 : Int32) = nI 100 from rfl, show (3 : Int32) = nI 3 from rfl, show (10 : Int32) = nI 10 from rfl, nI_div (by omega) (by decide), nI_div (by omega) (by decide), nI_mod (by omega) (by decide), nI_mod (by omega) (by decide), nI_mul, nI_add, nI_mul, nI_add]
  congr 1
  omega
/-- what the letters say -/
def LTR (g : Nat → Int32) (K : MZ) (p f : Int32) : Prop := g 0 = p ∧ g 1 = K.2.1 0 (pz p) ∧ g 2 = f ∧ g 3 = K.1 3 ∧ g 4 = K.1 1 ∧ g 5 = K.1 2
theorem LTR.at {g : Nat → Int32} {K : MZ} {p f : Int32} (h : LTR g K p f) {t : Nat} (ht : t < 6) : g t = fct K p f (nI t) := by
  obtain ⟨h0, h1, h2, h3, h4, h5⟩ := h
  match t, ht with
  | 0, _ => exact h0
  | 1, _ => exact h1
  | 2, _ => exact h2
  | 3, _ => exact h3
  | 4, _ => exact h4
  | 5, _ => exact h5
/-- the parts of a test's token -/
theorem tkP {f c n : Nat} (hf : f < 6) (hc : c < 3) (hn : n < 100) : nI (1000 * f + 100 * c + n) / 1000 = nI f ∧ nI (1000 * f + 100 * c + n) / 100 % 10 = nI c ∧ nI (1000 * f + 100 * c + n) % 100 = nI n ∧ nI (300 * f + 100 * c + n) / 300 = nI f ∧ nI (300 * f + 100 * c + n) / 100 % 3 = nI c ∧ nI (300 * f + 100 * c + n) % 100 = nI n := by
  rw [show (1000 : Int32) = nI 1000 from rfl, show (300 : Int32) = nI 300 from rfl, show (100 : Int32) = nI 100 from rfl, show (3 : Int32) = nI 3 from rfl, show (10 : Int32) = nI 10 from rfl]
  refine ⟨?_, ?_, ?_, ?_, ?_, ?_⟩
  · rw [nI_div (by omega) (by decide)]; congr 1; omega
  · rw [nI_div (by omega) (by decide), nI_mod (by omega) (by decide)]; congr 1; omega
  · rw [nI_mod (by omega) (by decide)]; congr 1; omega
  · rw [nI_div (by omega) (by decide)]; congr 1; omega
  · rw [nI_div (by omega) (by decide), nI_mod (by omega) (by decide)]; congr 1; omega
  · rw [nI_mod (by omega) (by decide)]; congr 1; omega
/-- what the clauses of an E add, as the class counts it -/
def tog (K : MZ) (s p f : Int32) : CLs → Int32 → Int32
  | [], a => a
  | r :: cl, a => tog K s p f cl (if (if r.1 = 1 then (1 : Int32) else 0) = s then (if hol K p f r.2.2 = true then a + (if r.1 = 2 then -r.2.1 else r.2.1) else a) else a)
theorem sms_add (K : MZ) (w p f : Int32) : ∀ (cl : CLs) (a : Int32), sms K w p f cl a = a + sms K w p f cl 0
  | [], a => (Int32.add_zero a).symm
  | r :: cl, a => by
    unfold sms
    rw [sms_add K w p f cl (a + _), sms_add K w p f cl (0 + _), Int32.zero_add, Int32.add_assoc]
theorem tog_add (K : MZ) (s p f : Int32) : ∀ (cl : CLs) (a : Int32), tog K s p f cl a = a + tog K s p f cl 0
  | [], a => (Int32.add_zero a).symm
  | r :: cl, a => by
    unfold tog
    rw [tog_add K s p f cl (ite _ _ _), tog_add K s p f cl (if (if r.1 = 1 then (1 : Int32) else 0) = s then (if hol K p f r.2.2 = true then 0 + (if r.1 = 2 then -r.2.1 else r.2.1) else 0) else 0), ← Int32.add_assoc]
    congr 1
    by_cases h1 : (if r.1 = 1 then (1 : Int32) else 0) = s
    · rw [if_pos h1, if_pos h1]
      by_cases h2 : hol K p f r.2.2 = true
      · rw [if_pos h2, if_pos h2, Int32.zero_add]
      · rw [if_neg h2, if_neg h2, Int32.add_zero]
    · rw [if_neg h1, if_neg h1, Int32.add_zero]
theorem tog1 (K : MZ) (p f : Int32) : ∀ {cl : CLs}, (∀ r, r ∈ cl → r.1 = 0 ∨ r.1 = 1 ∨ r.1 = 2) → tog K 1 p f cl 0 = sms K 1 p f cl 0
  | [], _ => rfl
  | r :: cl, h => by
    unfold tog sms
    rw [tog_add, sms_add, tog1 K p f (fun x hx => h x (List.mem_cons_of_mem _ hx))]
    congr 1
    rcases h r List.mem_cons_self with e | e | e <;> rw [e]
    · rw [if_neg (by decide), if_neg (by decide)]; rfl
    · rw [if_pos (by decide), if_pos rfl]
      by_cases h2 : hol K p f r.2.2 = true
      · rw [if_pos h2, if_pos h2]; rfl
      · rw [if_neg h2, if_neg h2]; rfl
    · rw [if_neg (by decide), if_neg (by decide)]; rfl
theorem tog0 (K : MZ) (p f : Int32) : ∀ {cl : CLs}, (∀ r, r ∈ cl → r.1 = 0 ∨ r.1 = 1 ∨ r.1 = 2) → tog K 0 p f cl 0 = sms K 0 p f cl 0 - sms K 2 p f cl 0
  | [], _ => (Int32.sub_self 0).symm
  | r :: cl, h => by
    unfold tog sms
    rw [tog_add, sms_add K 0, sms_add K 2, tog0 K p f (fun x hx => h x (List.mem_cons_of_mem _ hx))]
    rcases h r List.mem_cons_self with e | e | e <;> rw [e] <;> by_cases h2 : hol K p f r.2.2 = true
    · simp [h2, Int32.sub_eq_add_neg, Int32.add_assoc]
    · simp [h2]
    · simp [h2]
    · simp [h2]
    · simp [h2, Int32.sub_eq_add_neg, Int32.neg_add, Int32.add_assoc]
      rw [← Int32.add_assoc, ← Int32.add_assoc, Int32.add_comm (-r.2.1)]
    · simp [h2]
