theorem cnt_in {x k : Int32} {n : Nat} (h0 : 0 ≤ x) (h1 : x ≤ k) (hne : ¬ x = k) (hk : k.toInt = (n : Int)) : vp_in x n := by
  rw [vp_in_iff]
  rw [Int32.le_iff_toInt_le] at h0 h1
  rw [← Int32.toInt_inj] at hne
  have z : (0 : Int32).toInt = 0 := rfl
  omega
theorem rng_in {x k : Int32} {n : Nat} (h : 0 ≤ x ∧ x ≤ k) (hk : k.toInt + 1 = (n : Int)) : vp_in x n := by
  rw [vp_in_iff]
  obtain ⟨h0, h1⟩ := h
  rw [Int32.le_iff_toInt_le] at h0 h1
  have z : (0 : Int32).toInt = 0 := rfl
  omega
theorem lt_in {x k : Int32} {n : Nat} (h0 : 0 ≤ x) (h : ¬ k ≤ x) (hk : k.toInt = (n : Int)) : vp_in x n := by
  rw [vp_in_iff]
  rw [Int32.le_iff_toInt_le] at h0 h
  have z : (0 : Int32).toInt = 0 := rfl
  omega
theorem vp_mono {x : Int32} {a b : Nat} (h : vp_in x a) (hab : a ≤ b) : vp_in x b := by
  rw [vp_in_iff] at h ⊢
  omega
/-- a * p + q, told by Nats -/
theorem ix_nat {a p q : Int32} {n m c : Nat} (hp : vp_in p n) (hq : vp_in q m) (ha : a.toInt = (c : Int)) (hb : c * n + m < 2147483648) : (a * p + q).toInt = ((c * pz p + pz q : Nat) : Int) := by
  have e1 : p.toInt = (pz p : Int) := nn_of (fun z => hp (Or.inl z))
  have e2 : q.toInt = (pz q : Int) := nn_of (fun z => hq (Or.inl z))
  have l1 := pz_lt hp
  have l2 := pz_lt hq
  have l3 : c * pz p ≤ c * n := Nat.mul_le_mul_left _ (Nat.le_of_lt l1)
  have l4 : ((c * pz p : Nat) : Int) = (c : Int) * (pz p : Int) := by simp
  have e3 : (a * p).toInt = (c : Int) * (pz p : Int) := by
    rw [fb_mulI (by rw [ha, e1]; omega) (by rw [ha, e1]; omega), ha, e1]
  rw [fb_addI (by rw [e3, e2]; omega) (by rw [e3, e2]; omega), e3, e2]
  simp
theorem ix_in {a p q : Int32} {n m c k : Nat} (hp : vp_in p n) (hq : vp_in q m) (ha : a.toInt = (c : Int)) (hb : c * n + m < 2147483648) (hk : c * (n - 1) + m ≤ k) : vp_in (a * p + q) k := by
  rw [vp_in_iff, ix_nat hp hq ha hb]
  have l1 := pz_lt hp
  have l2 := pz_lt hq
  have l3 : c * pz p ≤ c * (n - 1) := Nat.mul_le_mul_left _ (by omega)
  omega
theorem ix_pz {a p q : Int32} {n m c : Nat} (hp : vp_in p n) (hq : vp_in q m) (ha : a.toInt = (c : Int)) (hb : c * n + m < 2147483648) : pz (a * p + q) = c * pz p + pz q := by
  show (a * p + q).toInt.toNat = _
  rw [ix_nat hp hq ha hb]
  exact Int.toNat_natCast _
/-- f, but from b on k items of g -/
def fil {α : Type} (f : Nat → α) (b k : Nat) (g : Nat → α) : Nat → α := fun j => if b ≤ j ∧ j < b + k then g (j - b) else f j
theorem fil_0 {α : Type} (f : Nat → α) (b : Nat) (g : Nat → α) : fil f b 0 g = f := by
  funext j
  simp only [fil]
  rw [if_neg (by omega)]
theorem fil_s (f : Nat → Int32) (b k : Nat) (g : Nat → Int32) : upd (fil f b k g) (b + k) (g k) = fil f b (k + 1) g := by
  funext j
  simp only [fil, upd]
  by_cases e : j = b + k
  · subst e
    rw [if_pos rfl, if_pos (by omega)]
    congr 1
    omega
  · rw [if_neg e]
    by_cases h : b ≤ j ∧ j < b + k
    · rw [if_pos h, if_pos (by omega)]
    · rw [if_neg h, if_neg (by omega)]
theorem fil_sL (f : Nat → Int64) (b k : Nat) (g : Nat → Int64) : vp_updL (fil f b k g) (b + k) (g k) = fil f b (k + 1) g := by
  funext j
  simp only [fil, vp_updL]
  by_cases e : j = b + k
  · subst e
    rw [if_pos rfl, if_pos (by omega)]
    congr 1
    omega
  · rw [if_neg e]
    by_cases h : b ≤ j ∧ j < b + k
    · rw [if_pos h, if_pos (by omega)]
    · rw [if_neg h, if_neg (by omega)]
theorem fil_lt {α : Type} {f g : Nat → α} {n j : Nat} (h : j < n) : fil f 0 n g j = g j := by
  simp only [fil]
  rw [if_pos (by omega)]
  rfl
/-- array j of the model is f; row j of longs is f -/
def mra (M : MZ) (j : Nat) (f : Nat → Int32) : MZ := (M.1, va_up M.2.1 j f, M.2.2)
def mrl (M : MZ) (j : Nat) (f : Nat → Int64) : MZ := (M.1, M.2.1, va_up M.2.2 j f)
theorem mra_id (M : MZ) (j : Nat) : mra M j (M.2.1 j) = M := by
  unfold mra
  rw [va_up_id]
theorem mrl_id (M : MZ) (j : Nat) : mrl M j (M.2.2 j) = M := by
  unfold mrl
  rw [va_up_id]
theorem mra_sa (M : MZ) (j : Nat) (f : Nat → Int32) (i : Nat) (v : Int32) : msa (mra M j f) j i v = mra M j (upd f i v) := by
  unfold msa mra
  dsimp only
  rw [va_up_up, show va_up M.2.1 j f j = f from if_pos rfl]
theorem mrl_sl (M : MZ) (j : Nat) (f : Nat → Int64) (i : Nat) (v : Int64) : msl (mrl M j f) j i v = mrl M j (vp_updL f i v) := by
  unfold msl mrl
  dsimp only
  rw [va_up_up, show va_up M.2.2 j f j = f from if_pos rfl]
/-! what the simple methods answer, and the model behind them -/
def sp_score (M : MZ) (a b : Int32) : Int32 × MZ := if 0 ≤ a ∧ a ≤ 4 then (if 0 ≤ b ∧ b ≤ 4 then (if a + b = 8 then (-2, M) else (1, ms1 (ms1 M 1 a) 2 b)) else (-2, M)) else (-2, M)
def sp_feed (M : MZ) (s : Int32) : Int32 × MZ := if 0 ≤ s ∧ s ≤ 127 then (if M.1 6 = 100 then (-4, M) else (M.1 6 + 1, ms1 (msa M 6 (pz (M.1 6)) s) 6 (M.1 6 + 1))) else (-2, M)
def sp_see (M : MZ) (a b : Int32) : Int32 × MZ := if a = -1 then (0, ms1 M 12 0) else if isF a then (if isF b then (if M.1 12 = 6 then (-4, M) else (M.1 12 + 1, ms1 (msa (msa M 18 (pz (M.1 12)) a) 19 (pz (M.1 12)) b) 12 (M.1 12 + 1))) else (-1, M)) else (-1, M)
abbrev drw (a b : Int32) : Prop := (0 ≤ a ∧ a ≤ 99) ∧ (0 ≤ b ∧ b ≤ 99)
def sp_book (M : MZ) (p a b : Int32) : Int32 × MZ := if p = -1 then (0, ms1 M 13 0) else if isS M p then (if drw a b then (if M.1 13 = 10 then (-4, M) else (M.1 13 + 1, ms1 (msa (msa (msa M 20 (pz (M.1 13)) p) 21 (pz (M.1 13)) a) 22 (pz (M.1 13)) b) 13 (M.1 13 + 1))) else (-2, M)) else (-1, M)
def sp_set (M : MZ) (p w n : Int32) : Int32 × MZ :=
  if isS M p then (if 0 ≤ w ∧ w ≤ 2 then
    (if w = 2 then (if 0 ≤ n ∧ n ≤ 9999 then (M.2.1 4 (pz p), msa M 4 (pz p) n) else (-2, M))
     else if 0 ≤ n ∧ n ≤ 9 then (if w = 0 then (M.2.1 2 (pz p), msa M 2 (pz p) n) else (M.2.1 3 (pz p), msa M 3 (pz p) n)) else (-2, M)) else (-1, M)) else (-1, M)
def sp_row (M : MZ) (p w n : Int32) : Int32 × MZ :=
  if isS M p then (if 0 ≤ w ∧ w ≤ 3 then (if isF n then (if M.2.1 0 (pz p) = 6 then (M.2.1 5 (pz (4 * p + w)), msa M 5 (pz (4 * p + w)) n) else (-3, M)) else (-2, M)) else (-1, M)) else (-1, M)
def sp_trace (M : MZ) (i : Int32) : Int32 := if 0 ≤ i ∧ i ≤ 19 then (if i < M.1 22 then M.2.1 35 (pz i) else -1) else -1
def sp_taken (M : MZ) (i k : Int32) : Int32 :=
  if 0 ≤ k ∧ k ≤ 6 then (if isS M i then (if k = 0 ∨ M.2.1 0 (pz i) = k ∨ (k = 1 ∧ M.2.1 0 (pz i) = 4) ∨ (k = 2 ∧ M.2.1 0 (pz i) = 5) ∨ (k = 3 ∧ M.2.1 0 (pz i) = 6) then M.2.1 0 (pz i) else -12) else -11) else -2
def sp_count (M : MZ) (w : Int32) : Int32 := if w = 0 then M.1 0 else if w = 1 then M.1 4 else if w = 2 then M.1 12 else if w = 3 then M.1 13 else if w = 4 then M.1 6 else if w = 5 then M.1 22 else -2
def sp_narrow (s : Int32) (z : Int64) : Int64 := if s = 0 then z.toInt32.toInt8.toInt32.toInt64 else if s = 1 then z.toInt32.toInt16.toInt32.toInt64 else if s = 2 then z.toInt32.toInt64 else if s = 4 then (if z = 0 then 0 else 1) else z
abbrev isT (t : Int32) : Prop := 0 ≤ t ∧ t ≤ 5
def sp_item (M : MZ) (t i : Int32) (z : Int64) : Int32 × MZ :=
  if isT t then (if M.2.1 36 (pz t) < 0 then (-11, M) else if 0 ≤ i ∧ i ≤ M.2.1 37 (pz t) - 1 then (1, msl M 0 (pz (60 * t + i)) (sp_narrow (M.2.1 36 (pz t)) z)) else (-13, M)) else (-1, M)
def sp_read (M : MZ) (t i : Int32) : Int64 :=
  if isT t then (if M.2.1 36 (pz t) < 0 then -9223372036854775808 else if 0 ≤ i ∧ i ≤ M.2.1 37 (pz t) - 1 then M.2.2 0 (pz (60 * t + i)) else -9223372036854775808) else -9223372036854775808
def sp_tape (M : MZ) (t s n : Int32) : Int32 × MZ :=
  if isT t then (if -1 ≤ s ∧ s ≤ 4 then (if s < 0 then (1, mrl (msa (msa M 36 (pz t) s) 37 (pz t) 0) 0 (fil (M.2.2 0) (60 * pz t) 60 (fun _ => 0))) else if 60 < n then (-2, M) else if n < 0 then (-14, M) else (1, mrl (msa (msa M 36 (pz t) s) 37 (pz t) n) 0 (fil (M.2.2 0) (60 * pz t) 60 (fun _ => 0)))) else (-2, M)) else (-1, M)
/-- a server is made -/
def mborn (M : MZ) (k v hd sf : Int32) : MZ := msa (msa (msa (msa (msa M 0 (pz (M.1 0)) k) 1 (pz (M.1 0)) v) 2 (pz (M.1 0)) hd) 3 (pz (M.1 0)) sf) 4 (pz (M.1 0)) 0
def sp_server (M : MZ) (k v hd sf : Int32) : Int32 × MZ :=
  if 0 ≤ k ∧ k ≤ 6 then (if 0 ≤ v ∧ v ≤ 9 then (if isF hd then (if isF sf then (if M.1 0 = 4 then (-4, M) else (M.1 0, ms1 (mra (mborn M k v hd sf) 5 (fil (M.2.1 5) (4 * pz (M.1 0)) 4 (fun _ => 0))) 0 (M.1 0 + 1))) else (-2, M)) else (-2, M)) else (-2, M)) else (-1, M)
theorem it_in {M : MZ} {t i : Int32} (hlen : ∀ j, j < 6 → 0 ≤ M.2.1 37 j ∧ M.2.1 37 j ≤ 60) (ht : vp_in t 6) (hi : 0 ≤ i ∧ i ≤ M.2.1 37 (pz t) - 1) : vp_in i 60 := by
  obtain ⟨h1, h2⟩ := hlen _ (pz_lt ht)
  rw [Int32.le_iff_toInt_le] at h1 h2
  have z : (0 : Int32).toInt = 0 := rfl
  have z1 : (1 : Int32).toInt = 1 := rfl
  have z6 : (60 : Int32).toInt = 60 := rfl
  have e : (M.2.1 37 (pz t) - 1).toInt = (M.2.1 37 (pz t)).toInt - 1 := by rw [fb_subI (by omega) (by omega), z1]
  obtain ⟨h3, h4⟩ := hi
  rw [Int32.le_iff_toInt_le] at h3 h4
  rw [vp_in_iff]
  omega
theorem lgc {x y : Int64} : lg_cmp x y = 0 ↔ x = y := by
  unfold lg_cmp
  constructor
  · intro h
    split at h
    · exact absurd h (by decide)
    · split at h
      · assumption
      · exact absurd h (by decide)
  · intro h
    subst h
    rw [if_neg (show ¬ x > x from by intro z; exact absurd z (Int64.lt_irrefl)), if_pos rfl]
