/-! clauses are told by a ghost list: (word, number, tokens) -/
abbrev CLs : Type := List (Int32 × Int32 × List Int32)
def fct (M : MZ) (p f t : Int32) : Int32 := if t = 0 then p else if t = 1 then M.2.1 0 (pz p) else if t = 2 then f else if t = 3 then M.1 3 else if t = 4 then M.1 1 else M.1 2
def tst (M : MZ) (p f t : Int32) : Bool := if t / 100 % 10 = 0 then decide (fct M p f (t / 1000) < t % 100) else if t / 100 % 10 = 1 then decide (fct M p f (t / 1000) = t % 100) else decide (t % 100 < fct M p f (t / 1000))
def stp (M : MZ) (p f t : Int32) (sk : List Bool) : List Bool :=
  if t = -33 then (!(sk.headD false)) :: sk.tail
  else if t < 0 then (if t = -38 then (sk.tail.headD false && sk.headD false) else (sk.tail.headD false || sk.headD false)) :: sk.tail.tail
  else tst M p f t :: sk
def evs (M : MZ) (p f : Int32) : List Int32 → List Bool → List Bool
  | [], sk => sk
  | t :: ts, sk => evs M p f ts (stp M p f t sk)
/-- does the E with these tokens hold -/
def hol (M : MZ) (p f : Int32) (ts : List Int32) : Bool := (evs M p f ts []).headD false
/-- the tokens never ask for an answer that isn't there, nor keep more than 31 -/
def wfs : List Int32 → Nat → Prop
  | [], n => n = 1
  | t :: ts, n => if t = -33 then 1 ≤ n ∧ wfs ts n else if t < 0 then 2 ≤ n ∧ wfs ts (n - 1) else n < 31 ∧ wfs ts (n + 1)
def bz (b : Bool) : Int32 := cond b 1 0
theorem bz_i (b : Bool) : bz b = b2i (b = true) := by cases b <;> rfl
theorem bz_n (b : Bool) : narrow .boolean (.int (bz b)) = .int (bz b) := by cases b <;> rfl
theorem bz_0 {b : Bool} : bz b = 0 ↔ b = false := by cases b <;> decide
theorem bz_n0 {b : Bool} : ¬ bz b = 0 ↔ b = true := by cases b <;> decide
/-- the row g keeps the answers sk, the newest last -/
def TB (g : Nat → Int32) : List Bool → Prop
  | [] => True
  | b :: r => g r.length = bz b ∧ TB g r
theorem TB.up {g : Nat → Int32} {n : Nat} {v : Int32} : ∀ {sk : List Bool}, TB g sk → sk.length ≤ n → TB (upd g n v) sk
  | [], _, _ => trivial
  | b :: r, h, hn => by
    rw [List.length_cons] at hn
    exact ⟨(if_neg (by omega)).trans h.1, TB.up h.2 (by omega)⟩
theorem TB.put {g : Nat → Int32} {v : Int32} {sk : List Bool} {b : Bool} (h : TB g sk) (hv : v = bz b) : TB (upd g sk.length v) (b :: sk) := ⟨(if_pos rfl).trans hv, h.up (Nat.le_refl _)⟩
def lenB (sk : List Bool) : Nat := sk.length
/-- clause c of the model is (_, _, ts) -/
def CT (M : MZ) (c : Nat) (ts : List Int32) : Prop := ∃ a : Nat, a + ts.length ≤ 600 ∧ M.2.1 10 c = nI a ∧ M.2.1 11 c = nI (a + ts.length) ∧ (∀ j, j < ts.length → M.2.1 12 (a + j) = ts.getD j 0) ∧ wfs ts 0
def CC (M : MZ) (c : Nat) : CLs → Prop
  | [] => True
  | r :: cl => (M.2.1 8 c = r.1 ∧ M.2.1 9 c = r.2.1 ∧ CT M c r.2.2) ∧ CC M (c + 1) cl
/-- the court in force has these clauses -/
def CN (M : MZ) (cl : CLs) : Prop := (M.1 5 < 0 ∧ cl = []) ∨ ∃ f : Nat, f < 6 ∧ M.1 5 = nI f ∧ cl.length ≤ 10 ∧ M.2.1 7 f = nI cl.length ∧ CC M (10 * f) cl
def sms (M : MZ) (w p f : Int32) : CLs → Int32 → Int32
  | [], a => a
  | r :: cl, a => sms M w p f cl (a + (if r.1 = w then (if hol M p f r.2.2 = true then r.2.1 else 0) else 0))
def pct (n : Int32) : Int32 := if n < 0 then 0 else if 100 < n then 100 else n
def sIn (M : MZ) (cl : CLs) (p f : Int32) : Int32 := pct (95 - 6 * f + sms M 0 p f cl 0 - sms M 2 p f cl 0)
def sWn (M : MZ) (cl : CLs) (p f : Int32) : Int32 := if M.2.1 0 (pz p) = 4 then pct (pct (40 + 5 * f + sms M 1 p f cl 0) - M.2.1 1 (pz p)) else pct (40 + 5 * f + sms M 1 p f cl 0)
def sCh (M : MZ) (cl : CLs) (p a b : Int32) : Int32 := sIn M cl p a * sWn M cl p a * 100 + (100 - sIn M cl p a) * sIn M cl p b * sWn M cl p b
def sFa (M : MZ) (cl : CLs) (p a b : Int32) : Int32 := (100 - sIn M cl p a) * (100 - sIn M cl p b)
def sNow (M : MZ) (cl : CLs) (p : Int32) : Int32 := sCh M cl p (mFirst M p) (mSecond M p)
/-- an answer, and the model behind it but for its scratch -/
abbrev XS (P D : HP) (y0 : Int32) (M s : MZ) : PO := PI fun y h => y = y0 ∧ ∃ g, h = mh P (scr M (mra s 15 g)) D
abbrev XSL (P D : HP) (y0 : Int64) (M s : MZ) : PO := PL fun y h => y = y0 ∧ ∃ g, h = mh P (scr M (mra s 15 g)) D
theorem CN.in6 {M : MZ} {cl : CLs} (h : CN M cl) (hn : ¬ M.1 5 < 0) : vp_in (M.1 5) 6 := by
  rcases h with h | ⟨f, hf, e, _⟩
  · exact absurd h.1 hn
  · rw [e]; exact vp_in_nI hf (by decide)
/-- where the clauses begin, where they end, as Nats -/
theorem CN.ends {M : MZ} {cl : CLs} (h : CN M cl) : ∃ c : Nat, c + cl.length ≤ 60 ∧ (if M.1 5 < 0 then (0 : Int32) else 10 * M.1 5) = nI c ∧ (if M.1 5 < 0 then (0 : Int32) else 10 * M.1 5 + M.2.1 7 (pz (M.1 5))) = nI (c + cl.length) ∧ CC M c cl := by
  rcases h with ⟨h, rfl⟩ | ⟨f, hf, e, hl, h7, hc⟩
  · exact ⟨0, by decide, if_pos h, if_pos h, trivial⟩
  · have hn : ¬ M.1 5 < 0 := by rw [e]; exact nI_pos (by omega)
    have e10 : (10 : Int32) * nI f = nI (10 * f) := by
      match f, hf with
      | 0, _ => decide
      | 1, _ => decide
      | 2, _ => decide
      | 3, _ => decide
      | 4, _ => decide
      | 5, _ => decide
    refine ⟨10 * f, by omega, ?_, ?_, hc⟩
    · rw [if_neg hn, e, e10]
    · rw [if_neg hn, e, e10, show pz (nI f) = f from nI_clamp (by omega), h7, nI_add]
