/-- A is A0, but rows lo .. hi - 1 have n items of the rows f tells; those ahead of row c one more -/
def CPX (A A0 : Nat → Nat → Int32) (f : Nat → Nat) (lo hi n c : Nat) : Prop := ∀ j i, A j i = if lo ≤ j ∧ j < hi ∧ (i < n ∨ (i = n ∧ j < c)) then A0 (f j) i else A0 j i
theorem CPX.beg (A : Nat → Nat → Int32) (f : Nat → Nat) (lo hi : Nat) : CPX A A f lo hi 0 lo := by
  intro j i
  rw [if_neg (by omega)]
theorem CPX.put {A A0 : Nat → Nat → Int32} {f : Nat → Nat} {lo hi n c : Nat} {v : Int32} (h : CPX A A0 f lo hi n c) (h1 : lo ≤ c) (h2 : c < hi) (hv : v = A0 (f c) n) : CPX (va_up A c (upd (A c) n v)) A0 f lo hi n (c + 1) := by
  intro j i
  simp only [va_up]
  by_cases e : j = c
  · subst e
    rw [if_pos rfl]
    simp only [upd]
    by_cases e2 : i = n
    · subst e2
      rw [if_pos rfl, if_pos (by omega), hv]
    · rw [if_neg e2, h j i]
      by_cases e3 : i < n
      · rw [if_pos (by omega), if_pos (by omega)]
      · rw [if_neg (by omega), if_neg (by omega)]
  · rw [if_neg e, h j i]
    by_cases e3 : lo ≤ j ∧ j < hi ∧ (i < n ∨ (i = n ∧ j < c))
    · rw [if_pos e3, if_pos (by omega)]
    · rw [if_neg e3, if_neg (by omega)]
theorem CPX.nxt {A A0 : Nat → Nat → Int32} {f : Nat → Nat} {lo hi n : Nat} (h : CPX A A0 f lo hi n hi) : CPX A A0 f lo hi (n + 1) lo := by
  intro j i
  rw [h j i]
  by_cases e3 : lo ≤ j ∧ j < hi ∧ (i < n ∨ (i = n ∧ j < hi))
  · rw [if_pos e3, if_pos (by omega)]
  · rw [if_neg e3, if_neg (by omega)]
theorem CPX.src {A A0 : Nat → Nat → Int32} {f : Nat → Nat} {lo hi n c : Nat} (h : CPX A A0 f lo hi n c) {j : Nat} (hj : j < lo ∨ hi ≤ j) (i : Nat) : A j i = A0 j i := by
  rw [h j i, if_neg (by omega)]
theorem CPX.got {A A0 : Nat → Nat → Int32} {f : Nat → Nat} {lo hi n c : Nat} (h : CPX A A0 f lo hi n c) {j i : Nat} (h1 : lo ≤ j) (h2 : j < hi) (hi : i < n) : A j i = A0 (f j) i := by
  rw [h j i, if_pos ⟨h1, h2, Or.inl hi⟩]
/-- rows t .. are what rows s .. were, as far as anybody reads them; o tells which stay -/
def IMG (B A : Nat → Nat → Int32) : Prop := (∀ j, j < 24 ∨ 34 < j → A j = B j) ∧ (∀ j i, j < 5 → i < 4 → A (j + 24) i = B j i) ∧ (∀ i, i < 16 → A 29 i = B 5 i) ∧ (∀ j i, j < 2 → i < 6 → A (j + 30) i = B (j + 18) i) ∧ (∀ j i, j < 3 → i < 10 → A (j + 32) i = B (j + 20) i)
def IMU (B A : Nat → Nat → Int32) : Prop := (∀ j, (6 ≤ j ∧ j < 18) ∨ 22 < j → A j = B j) ∧ (∀ j i, j < 5 → i < 4 → A j i = B (j + 24) i) ∧ (∀ i, i < 16 → A 5 i = B 29 i) ∧ (∀ j i, j < 2 → i < 6 → A (j + 18) i = B (j + 30) i) ∧ (∀ j i, j < 3 → i < 10 → A (j + 20) i = B (j + 32) i)
theorem IMG.of {B A1 A2 A3 A4 : Nat → Nat → Int32} (h1 : CPX A1 B (· - 24) 24 29 4 24) (h2 : CPX A2 A1 (· - 24) 29 30 16 29) (h3 : CPX A3 A2 (· - 12) 30 32 6 30) (h4 : CPX A4 A3 (· - 12) 32 35 10 32) : IMG B A4 := by
  refine ⟨fun j hj => ?_, fun j i hj hi => ?_, fun i hi => ?_, fun j i hj hi => ?_, fun j i hj hi => ?_⟩
  · funext i
    rw [h4.src (by omega), h3.src (by omega), h2.src (by omega), h1.src (by omega)]
  · rw [h4.src (by omega), h3.src (by omega), h2.src (by omega), h1.got (by omega) (by omega) hi, Nat.add_sub_cancel]
  · rw [h4.src (by omega), h3.src (by omega), h2.got (by omega) (by omega) hi]
    exact h1.src (by omega) i
  · rw [h4.src (by omega), h3.got (by omega) (by omega) hi, show j + 30 - 12 = j + 18 by omega, h2.src (by omega), h1.src (by omega)]
  · rw [h4.got (by omega) (by omega) hi, show j + 32 - 12 = j + 20 by omega, h3.src (by omega), h2.src (by omega), h1.src (by omega)]
theorem IMU.of {B A1 A2 A3 A4 : Nat → Nat → Int32} (h1 : CPX A1 B (· + 24) 0 5 4 0) (h2 : CPX A2 A1 (· + 24) 5 6 16 5) (h3 : CPX A3 A2 (· + 12) 18 20 6 18) (h4 : CPX A4 A3 (· + 12) 20 23 10 20) : IMU B A4 := by
  refine ⟨fun j hj => ?_, fun j i hj hi => ?_, fun i hi => ?_, fun j i hj hi => ?_, fun j i hj hi => ?_⟩
  · funext i
    rw [h4.src (by omega), h3.src (by omega), h2.src (by omega), h1.src (by omega)]
  · rw [h4.src (by omega), h3.src (by omega), h2.src (by omega), h1.got (by omega) (by omega) hi]
  · rw [h4.src (by omega), h3.src (by omega), h2.got (by omega) (by omega) hi]
    exact h1.src (by omega) i
  · rw [h4.src (by omega), h3.got (by omega) (by omega) hi, show j + 18 + 12 = j + 30 by omega, h2.src (by omega), h1.src (by omega)]
  · rw [h4.got (by omega) (by omega) hi, show j + 20 + 12 = j + 32 by omega, h3.src (by omega), h2.src (by omega), h1.src (by omega)]
def imS (f : Nat → Int32) : Nat → Int32 := upd (upd (upd (upd (upd (upd (upd (upd f 14 1) 15 (f 5)) 16 (f 0)) 17 (f 1)) 18 (f 2)) 19 (f 3)) 20 (f 12)) 21 (f 13)
def unS (f : Nat → Int32) : Nat → Int32 := upd (upd (upd (upd (upd (upd (upd f 5 (f 15)) 0 (f 16)) 1 (f 17)) 2 (f 18)) 3 (f 19)) 12 (f 20)) 13 (f 21)
/-- judge from server p on, n servers -/
def jdT (M : MZ) (t j : Int32) : Nat → Nat → Int32
  | 0, _ => -5
  | n + 1, p => if M.2.1 36 (pz t) < 0 ∨ j < 0 ∨ ¬ j ≤ M.2.1 37 (pz t) - nI p - 1 then 100 + nI p else if M.2.2 0 (pz (60 * t + j + nI p)) = (M.2.1 4 p).toInt64 then jdT M t j n (p + 1) else nI p
def sp_judge (M : MZ) (t j : Int32) : Int32 := if isT t then (if M.2.1 36 (pz t) < 0 then jdT M t j (pz (M.1 0)) 0 else if M.2.1 36 (pz t) = 1 then jdT M t j (pz (M.1 0)) 0 else -12) else -1
theorem jd_in {t j len : Int32} {p : Nat} (ht : vp_in t 6) (hl : 0 ≤ len ∧ len ≤ 60) (hj : ¬ j < 0) (hjl : j ≤ len - nI p - 1) (hp : p < 4) : vp_in (60 * t + j + nI p) 360 := by
  rw [vp_in_iff] at ht ⊢
  obtain ⟨h1, h2⟩ := hl
  rw [Int32.le_iff_toInt_le] at h1 h2 hjl
  have hj2 := Int32.not_lt.mp hj
  rw [Int32.le_iff_toInt_le] at hj2
  have z : (0 : Int32).toInt = 0 := rfl
  have z1 : (1 : Int32).toInt = 1 := rfl
  have z6 : (60 : Int32).toInt = 60 := rfl
  have ep : (nI p).toInt = (p : Int) := nI_toInt (by omega)
  have e1 : (len - nI p).toInt = len.toInt - p := by rw [fb_subI (by omega) (by omega), ep]
  have e2 : (len - nI p - 1).toInt = len.toInt - p - 1 := by rw [fb_subI (by omega) (by omega), e1, z1]
  have e3 : (60 * t).toInt = 60 * t.toInt := by rw [fb_mulI (by rw [z6]; omega) (by rw [z6]; omega), z6]
  have e4 : (60 * t + j).toInt = 60 * t.toInt + j.toInt := by rw [fb_addI (by omega) (by omega), e3]
  have e5 : (60 * t + j + nI p).toInt = 60 * t.toInt + j.toInt + p := by rw [fb_addI (by omega) (by omega), e4, ep]
  rw [e5]
  omega
def sp_act (M : MZ) (i a x : Int32) : Int32 × List Int32 :=
  if isS M i then (if 0 ≤ a ∧ a ≤ 2 then (if a = 0 then aT (M.2.1 0 i.toNatClampNeg) (M.2.1 1 i.toNatClampNeg) i x else if a = 1 then aS (M.2.1 0 i.toNatClampNeg) (M.2.1 1 i.toNatClampNeg) i x else aL (M.2.1 0 i.toNatClampNeg) (M.2.1 1 i.toNatClampNeg) i x) else (0, [])) else (0, [])
theorem mtr_nil (M : MZ) : ms1 M 22 0 = mtr M [] (M.2.1 35) := by
  unfold mtr ms1
  rw [va_up_id]
  rfl
