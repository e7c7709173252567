abbrev pz (p : Int32) : Nat := p.toNatClampNeg
theorem pz_lt {x : Int32} {n : Nat} (h : vp_in x n) : pz x < n := Nat.not_le.mp fun z => h (Or.inr z)
def mFirst (M : MZ) (p : Int32) : Int32 :=
  if M.2.1 0 (pz p) = 2 then M.2.1 3 (pz p)
  else if M.2.1 0 (pz p) = 5 then (if M.1 1 = 3 ∨ M.1 2 = 3 then M.2.1 2 (pz p) else M.2.1 3 (pz p))
  else if M.2.1 0 (pz p) = 3 then (if M.2.1 2 (pz p) < M.2.1 4 (pz p) / 20 then 0 else M.2.1 2 (pz p) - M.2.1 4 (pz p) / 20)
  else if M.2.1 0 (pz p) = 6 then M.2.1 5 (pz (4 * p + M.2.1 4 (pz p) % 4))
  else M.2.1 2 (pz p)
def mSecond (M : MZ) (p : Int32) : Int32 := if M.2.1 0 (pz p) = 1 ∨ M.2.1 0 (pz p) = 4 then M.2.1 2 (pz p) else M.2.1 3 (pz p)
theorem rows_in {p z : Int32} (hp : vp_in p 4) (hz : 0 ≤ z) : vp_in (4 * p + z % 4) 16 := by
  rw [vp_in_iff] at hp ⊢
  have h0 : 0 ≤ z.toInt := by rw [Int32.le_iff_toInt_le] at hz; exact hz
  have h4 : (4 : Int32).toInt = 4 := rfl
  have e1 : (z % 4).toInt = z.toInt % 4 := by rw [Int32.toInt_mod, h4, Int.tmod_eq_emod_of_nonneg h0]
  have e2 : (4 * p).toInt = 4 * p.toInt := by rw [fb_mulI (by rw [h4]; omega) (by rw [h4]; omega), h4]
  have e3 : (4 * p + z % 4).toInt = 4 * p.toInt + z.toInt % 4 := by rw [fb_addI (by rw [e1, e2]; omega) (by rw [e1, e2]; omega), e1, e2]
  rw [e3]
  omega
theorem upd_upd (f : Nat → Int32) (k : Nat) (x y : Int32) : upd (upd f k x) k y = upd f k y := by
  funext j
  simp only [upd]
  split <;> rfl
theorem va_up_up {α : Type} (f : Nat → α) (k : Nat) (x y : α) : va_up (va_up f k x) k y = va_up f k y := by
  funext j
  simp only [va_up]
  split <;> rfl
theorem va_up_id {α : Type} (f : Nat → α) (k : Nat) : va_up f k (f k) = f := by
  funext j
  simp only [va_up]
  split
  · rename_i h; rw [h]
  · rfl
theorem upd_id (f : Nat → Int32) (k : Nat) : upd f k (f k) = f := by
  funext j
  simp only [upd]
  split
  · rename_i h; rw [h]
  · rfl
theorem upd_idv {f : Nat → Int32} {k : Nat} {v : Int32} (h : f k = v) : upd f k v = f := by rw [← h]; exact upd_id f k
/-! the acts: result, and the bodies that ran; k the KIND, v, i the number -/
def aT (k v i x : Int32) : Int32 × List Int32 :=
  if k = 2 ∨ k = 5 then (x * 3 + i, [30, 10]) else if k = 4 then (-(x + i), [50, 10]) else if k = 6 then ((x + i) ^^^ v, [71, 10]) else (x + i, [10])
def aS0 (k v i x : Int32) : Int32 × List Int32 := ((aT k v i x).1 - v, 11 :: (aT k v i x).2)
def aSD (k v i x : Int32) : Int32 × List Int32 := ((aS0 k v i x).1 ^^^ 6, 20 :: (aS0 k v i x).2)
def aS (k v i x : Int32) : Int32 × List Int32 :=
  if k = 1 then aSD k v i x else if k = 4 then ((aSD k v i (x + 1)).1, 51 :: (aSD k v i (x + 1)).2) else if k = 6 then ((aS0 k v i x).1 + (2 + i), 70 :: ((aS0 k v i x).2 ++ [10])) else aS0 k v i x
def aL0 (k v i x : Int32) : Int32 × List Int32 := ((aS k v i x).1 * 2, 12 :: (aS k v i x).2)
def aL (k v i x : Int32) : Int32 × List Int32 :=
  if k = 3 ∨ k = 6 then ((aL0 k v i x).1 + (aS k v i 1).1, 40 :: ((aL0 k v i x).2 ++ (aS k v i 1).2)) else if k = 5 then ((aL0 k v i (x - i)).1, 60 :: (aL0 k v i (x - i)).2) else aL0 k v i x
theorem aT_len (k v i x : Int32) : (aT k v i x).2.length ≤ 2 := by
  unfold aT
  repeat' split
  all_goals simp
theorem aS0_len (k v i x : Int32) : (aS0 k v i x).2.length ≤ 3 := by
  have := aT_len k v i x
  simp only [aS0, List.length_cons]
  omega
theorem aSD_len (k v i x : Int32) : (aSD k v i x).2.length ≤ 4 := by
  have := aS0_len k v i x
  simp only [aSD, List.length_cons]
  omega
theorem aS_len (k v i x : Int32) : (aS k v i x).2.length ≤ 5 := by
  have h1 := aS0_len k v i x
  have h2 := aSD_len k v i x
  have h3 := aSD_len k v i (x + 1)
  unfold aS
  repeat' split
  all_goals (try simp only [List.length_cons, List.length_append, List.length_nil])
  all_goals omega
theorem aL0_len (k v i x : Int32) : (aL0 k v i x).2.length ≤ 6 := by
  have := aS_len k v i x
  simp only [aL0, List.length_cons]
  omega
theorem aL_len (k v i x : Int32) : (aL k v i x).2.length ≤ 12 := by
  have h1 := aL0_len k v i x
  have h2 := aL0_len k v i (x - i)
  have h3 := aS_len k v i 1
  unfold aL
  repeat' split
  all_goals (try simp only [List.length_cons, List.length_append, List.length_nil])
  all_goals omega
/-- the model with the trace tr, told by the row g -/
def mtr (M : MZ) (tr : List Int32) (g : Nat → Int32) : MZ := (upd M.1 22 (nI tr.length), va_up M.2.1 35 g, M.2.2)
def TRo (tr : List Int32) (g : Nat → Int32) : Prop := ∀ j : Nat, j < tr.length → j < 20 → g j = tr.getD j 0
theorem TRo.push {tr : List Int32} {g : Nat → Int32} (h : TRo tr g) (b : Int32) : TRo (tr ++ [b]) (upd g tr.length b) := by
  intro j hj h2
  rw [List.length_append, List.length_singleton] at hj
  rw [List.getD_eq_getElem?_getD]
  by_cases e : j = tr.length
  · subst e
    simp [upd]
  · rw [List.getElem?_append_left (by omega)]
    simp only [upd, if_neg e]
    rw [h j (by omega) h2, List.getD_eq_getElem?_getD]
theorem TRo.over {tr : List Int32} {g : Nat → Int32} (h : TRo tr g) (b : Int32) (hl : 20 ≤ tr.length) : TRo (tr ++ [b]) g := by
  intro j hj h2
  rw [List.getD_eq_getElem?_getD, List.getElem?_append_left (by omega), ← List.getD_eq_getElem?_getD]
  exact h j (by omega) h2
theorem mtr_0 (M : MZ) (tr : List Int32) (g : Nat → Int32) : (mtr M tr g).2.1 0 = M.2.1 0 := rfl
theorem mtr_1 (M : MZ) (tr : List Int32) (g : Nat → Int32) : (mtr M tr g).2.1 1 = M.2.1 1 := rfl
theorem mtr_push (M : MZ) (tr : List Int32) (g : Nat → Int32) (b : Int32) (hl : tr.length < 1000) : ms1 (msa (mtr M tr g) 35 (pz (nI tr.length)) b) 22 (nI tr.length + 1) = mtr M (tr ++ [b]) (upd g tr.length b) := by
  have e : pz (nI tr.length) = tr.length := nI_clamp (by omega)
  rw [e]
  unfold ms1 msa mtr
  dsimp only
  rw [upd_upd, va_up_up, nI_1, List.length_append, List.length_singleton]
  rfl
theorem mtr_over (M : MZ) (tr : List Int32) (g : Nat → Int32) (b : Int32) : ms1 (mtr M tr g) 22 (nI tr.length + 1) = mtr M (tr ++ [b]) g := by
  unfold ms1 mtr
  dsimp only
  rw [upd_upd, nI_1, List.length_append, List.length_singleton]
