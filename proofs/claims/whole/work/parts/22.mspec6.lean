theorem nI_mul (a b : Nat) : nI a * nI b = nI (a * b) := (Int32.ofNat_mul a b).symm
theorem nI_subI {a b : Nat} (h : b ≤ a) (ha : a < 2 ^ 31) : nI a - nI b = nI (a - b) := by
  apply Int32.toInt_inj.1
  have e1 := nI_toInt (n := a) ha
  have e2 := nI_toInt (n := b) (by omega)
  rw [fb_subI (by omega) (by omega), e1, e2, nI_toInt (by omega)]
  omega
theorem nI_div {a b : Nat} (ha : a < 2 ^ 31) (hb : b < 2 ^ 31) : nI a / nI b = nI (a / b) := by
  apply Int32.toInt_inj.1
  have h := Nat.div_le_self a b
  have e : Int.tdiv (a : Int) (b : Int) = ((a / b : Nat) : Int) := by rw [Int.tdiv_eq_ediv_of_nonneg (by omega)]; exact (Int.natCast_ediv a b).symm
  generalize a / b = r at *
  rw [Int32.toInt_div, nI_toInt ha, nI_toInt hb, nI_toInt (by omega), e, fb_bmod (by omega) (by omega)]
theorem nI_mod {a b : Nat} (ha : a < 2 ^ 31) (hb : b < 2 ^ 31) : nI a % nI b = nI (a % b) := by
  apply Int32.toInt_inj.1
  have h := Nat.mod_le a b
  rw [Int32.toInt_mod, nI_toInt ha, nI_toInt hb, nI_toInt (by omega), Int.tmod_eq_emod_of_nonneg (by omega)]
  simp
theorem nI_pz {x : Int32} (h : 0 ≤ x) : x = nI (pz x) := by
  obtain ⟨j, hj, rfl⟩ := nI_of (x := x) (Int32.not_lt.mpr h)
  rw [show pz (nI j) = j from nI_clamp hj]
/-- between 0 and n -/
def bw (x : Int32) (n : Nat) : Prop := ∃ j : Nat, j ≤ n ∧ x = nI j
theorem bw.nz {x : Int32} {n : Nat} (h : bw x n) (hn : n < 2 ^ 31) : x = nI (pz x) ∧ pz x ≤ n := by
  obtain ⟨j, hj, rfl⟩ := h
  have e : pz (nI j) = j := nI_clamp (by omega)
  rw [e]
  exact ⟨rfl, hj⟩
theorem pct_bw (x : Int32) : bw (pct x) 100 := by
  unfold pct
  by_cases h1 : x < 0
  · rw [if_pos h1]; exact ⟨0, by decide, rfl⟩
  · rw [if_neg h1]
    by_cases h2 : 100 < x
    · rw [if_pos h2]; exact ⟨100, by decide, rfl⟩
    · rw [if_neg h2]
      obtain ⟨j, hj, e⟩ := nI_of2 (M := 100) (n := 100) (by decide) h1 (Int32.not_lt.mp h2)
      exact ⟨j, hj, e⟩
theorem sIn_bw (M : MZ) (cl : CLs) (p f : Int32) : bw (sIn M cl p f) 100 := pct_bw _
theorem sWn_bw (M : MZ) (cl : CLs) (p f : Int32) : bw (sWn M cl p f) 100 := by
  unfold sWn
  split
  · exact pct_bw _
  · exact pct_bw _
/-- a million -/
def MIL : Nat := 1000000
theorem MIL_L : (1000000 : Int64).toInt = (MIL : Int) := rfl
theorem MIL_I : (1000000 : Int32) = nI MIL := rfl
theorem MIL_0 : 0 < MIL := by decide
theorem MIL_le : MIL ≤ 1000000 := Nat.le_refl _
theorem two_bw {a b c e : Int32} (ha : bw a 100) (hb : bw b 100) (hc : bw c 100) (he : bw e 100) : bw (a * b * 100 + (100 - a) * c * e) MIL := by
  obtain ⟨i, hi, rfl⟩ := ha
  obtain ⟨j, hj, rfl⟩ := hb
  obtain ⟨k, hk, rfl⟩ := hc
  obtain ⟨l, hl, rfl⟩ := he
  refine ⟨i * j * 100 + (100 - i) * k * l, ?_, ?_⟩
  · have h1 : i * j ≤ i * 100 := Nat.mul_le_mul_left _ hj
    have h2 : (100 - i) * k ≤ (100 - i) * 100 := Nat.mul_le_mul_left _ hk
    have h3 : (100 - i) * k * l ≤ (100 - i) * 100 * 100 := Nat.mul_le_mul h2 hl
    have h4 : MIL = 1000000 := rfl
    omega
  · rw [show (100 : Int32) = nI 100 from rfl, nI_mul, nI_mul, nI_subI hi (by decide), nI_mul, nI_mul, nI_add]
theorem sCh_bw (M : MZ) (cl : CLs) (p a b : Int32) : bw (sCh M cl p a b) MIL := two_bw (sIn_bw _ _ _ _) (sWn_bw _ _ _ _) (sIn_bw _ _ _ _) (sWn_bw _ _ _ _)
theorem sNow_bw (M : MZ) (cl : CLs) (p : Int32) : bw (sNow M cl p) MIL := sCh_bw _ _ _ _ _
/-- c in a million of x, the rest of y -/
def gmL (c : Int64) (x y : Int32) : Int32 := ((c * x.toInt64 + (1000000 - c) * y.toInt64) / 1000000).toInt32
theorem gm_aux {N i j k : Nat} {m : Int64} (hm : m.toInt = (N : Int)) (h0 : 0 < N) (hN : N ≤ 1000000) (hi : i ≤ N) (hj : j ≤ N) (hk : k ≤ N) : (i * j + (N - i) * k) / N ≤ N ∧ ((lN i * lN j + (m - lN i) * lN k) / m).toInt = (((i * j + (N - i) * k) / N : Nat) : Int) := by
  have h1 : i * j ≤ i * N := Nat.mul_le_mul_left _ hj
  have h2 : (N - i) * k ≤ (N - i) * N := Nat.mul_le_mul_left _ hk
  have h3 : i * N + (N - i) * N = N * N := by rw [← Nat.add_mul]; congr 1; omega
  have h4 : N * N ≤ 1000000 * 1000000 := Nat.mul_le_mul hN hN
  have h5 : i * j + (N - i) * k ≤ N * N := by omega
  have h6 : (i * j + (N - i) * k) / N ≤ N := by
    have := Nat.div_le_div_right (c := N) h5
    rwa [Nat.mul_div_cancel _ h0] at this
  have ei : (lN i).toInt = (i : Int) := lN_toInt (by omega)
  have ej : (lN j).toInt = (j : Int) := lN_toInt (by omega)
  have ek : (lN k).toInt = (k : Int) := lN_toInt (by omega)
  generalize ha : i * j = a at *
  generalize hb : (N - i) * k = b at *
  generalize hs : N * N = q at *
  have c1 : (i : Int) * (j : Int) = (a : Int) := by rw [← ha, Int.natCast_mul]
  have c2 : ((N : Int) - (i : Int)) * (k : Int) = (b : Int) := by rw [← hb, Int.natCast_mul, Int.natCast_sub hi]
  have z1 : (lN i * lN j).toInt = (a : Int) := by rw [fb_mulL (by rw [ei, ej, c1]; omega) (by rw [ei, ej, c1]; omega), ei, ej, c1]
  have z2 : (m - lN i).toInt = (N : Int) - (i : Int) := by rw [fb_subL (by omega) (by omega), ei, hm]
  have z3 : ((m - lN i) * lN k).toInt = (b : Int) := by rw [fb_mulL (by rw [z2, ek, c2]; omega) (by rw [z2, ek, c2]; omega), z2, ek, c2]
  have z4 : (lN i * lN j + (m - lN i) * lN k).toInt = ((a + b : Nat) : Int) := by rw [fb_addL (by omega) (by omega), z1, z3]; omega
  refine ⟨h6, ?_⟩
  have e : Int.tdiv ((a + b : Nat) : Int) (N : Int) = (((a + b) / N : Nat) : Int) := by rw [Int.tdiv_eq_ediv_of_nonneg (by omega)]; exact (Int.natCast_ediv (a + b) N).symm
  generalize (a + b) / N = r at *
  rw [Int64.toInt_div, z4, hm, e, fb_bmodL (by omega) (by omega)]
theorem gm_bw {N : Nat} {m : Int64} {c x y : Int32} (hm : m.toInt = (N : Int)) (h0 : 0 < N) (hN : N ≤ 1000000) (hc : bw c N) (hx : bw x N) (hy : bw y N) : bw ((c.toInt64 * x.toInt64 + (m - c.toInt64) * y.toInt64) / m).toInt32 N := by
  obtain ⟨i, hi, rfl⟩ := hc
  obtain ⟨j, hj, rfl⟩ := hx
  obtain ⟨k, hk, rfl⟩ := hy
  obtain ⟨h1, h2⟩ := gm_aux hm h0 hN hi hj hk
  refine ⟨_, h1, ?_⟩
  rw [nI_l (by omega), nI_l (by omega), nI_l (by omega)]
  apply Int32.toInt_inj.1
  generalize (i * j + (N - i) * k) / N = r at *
  rw [Int64.toInt_toInt32, h2, nI_toInt (by omega), fb_bmod (by omega) (by omega)]
theorem gmL_bw {c x y : Int32} (hc : bw c MIL) (hx : bw x MIL) (hy : bw y MIL) : bw (gmL c.toInt64 x y) MIL := gm_bw MIL_L MIL_0 MIL_le hc hx hy
/-- GAME from the score a, b on, with n steps at most -/
def gmv (M : MZ) (cl : CLs) (p : Int32) : Nat → Nat → Nat → Int32
  | 0, _, _ => 0
  | n + 1, a, b => if a = 4 then 1000000 else if b = 4 then 0 else gmL (sNow (ms1 (ms1 M 1 (nI a)) 2 (nI b)) cl p).toInt64 (gmv M cl p n (a + 1) b) (gmv M cl p n a (b + 1))
def gG (M : MZ) (cl : CLs) (p : Int32) (a b : Nat) : Int32 := gmv M cl p (9 - a - b) a b
theorem gG_s (M : MZ) (cl : CLs) (p : Int32) {a b : Nat} (ha : a ≤ 4) (hb : b ≤ 4) : gG M cl p a b = if a = 4 then 1000000 else if b = 4 then 0 else gmL (sNow (ms1 (ms1 M 1 (nI a)) 2 (nI b)) cl p).toInt64 (gG M cl p (a + 1) b) (gG M cl p a (b + 1)) := by
  unfold gG
  rw [show 9 - a - b = (8 - a - b) + 1 by omega, show 9 - (a + 1) - b = 8 - a - b by omega, show 9 - a - (b + 1) = 8 - a - b by omega]
  rfl
theorem gmv_bw (M : MZ) (cl : CLs) (p : Int32) : ∀ (n a b : Nat), bw (gmv M cl p n a b) MIL
  | 0, _, _ => ⟨0, Nat.zero_le _, rfl⟩
  | n + 1, a, b => by
    unfold gmv
    split
    · exact ⟨MIL, Nat.le_refl _, MIL_I⟩
    · split
      · exact ⟨0, Nat.zero_le _, rfl⟩
      · exact gmL_bw (sNow_bw _ _ _) (gmv_bw M cl p n _ _) (gmv_bw M cl p n _ _)
theorem gG_bw (M : MZ) (cl : CLs) (p : Int32) (a b : Nat) : bw (gG M cl p a b) MIL := gmv_bw M cl p _ _ _
def sGm (M : MZ) (cl : CLs) (p : Int32) : Int32 := gG M cl p (pz (M.1 1)) (pz (M.1 2))
def sCl (M : MZ) (cl : CLs) (p : Int32) : Int32 := gG M cl p 0 0
/-- MATCH from a, b games on -/
def mtv (c e : Int64) (m : Nat) : Nat → Nat → Nat → Int32
  | 0, _, _ => 0
  | n + 1, a, b => if a = m then 1000000 else if b = m then 0 else gmL (if (a + b) % 2 = 0 then c else e) (mtv c e m n (a + 1) b) (mtv c e m n a (b + 1))
def mG (c e : Int64) (m a b : Nat) : Int32 := mtv c e m (9 - a - b) a b
theorem mG_s (c e : Int64) (m : Nat) {a b : Nat} (ha : a ≤ 4) (hb : b ≤ 4) : mG c e m a b = if a = m then 1000000 else if b = m then 0 else gmL (if (a + b) % 2 = 0 then c else e) (mG c e m (a + 1) b) (mG c e m a (b + 1)) := by
  unfold mG
  rw [show 9 - a - b = (8 - a - b) + 1 by omega, show 9 - (a + 1) - b = 8 - a - b by omega, show 9 - a - (b + 1) = 8 - a - b by omega]
  rfl
def sMa (M : MZ) (cl : CLs) (p q n : Int32) : Int32 := mG (sCl M cl p).toInt64 (1000000 - sCl M cl q).toInt64 (pz n) 0 0
def sp_game (M : MZ) (cl : CLs) (p w : Int32) : Int32 := if isS M p then (if 0 ≤ w ∧ w ≤ 1 then (if w = 0 then sGm M cl p else sCl M cl p) else -1) else -1
def sp_swing (M : MZ) (cl : CLs) (p : Int32) : Int32 := if isS M p then (if ovr M then 0 else gG M cl p (pz (M.1 1) + 1) (pz (M.1 2)) - gG M cl p (pz (M.1 1)) (pz (M.1 2) + 1)) else -1000001
def sp_match (M : MZ) (cl : CLs) (p q n : Int32) : Int32 := if isS M p then (if isS M q then (if p = q then -2 else if 1 ≤ n ∧ n ≤ 4 then sMa M cl p q n else -2) else -1) else -1
def sp_ahead (M : MZ) (cl : CLs) (p q n : Int32) : Int32 := if isS M p then (if isS M q then (if p = q then -1000002 else if 1 ≤ n ∧ n ≤ 4 then sMa M cl p q n - (1000000 - sMa M cl q p n) else -1000002) else -1000001) else -1000001
/-- row g tells the table G: rows from k on; and of row a what stands from l on -/
def GT (g : Nat → Int32) (G : Nat → Nat → Int32) (N k : Nat) : Prop := ∀ a b, k ≤ a → a ≤ N → b ≤ N → g (5 * a + b) = G a b
def GU (g : Nat → Int32) (G : Nat → Nat → Int32) (N a l : Nat) : Prop := GT g G N (a + 1) ∧ ∀ b, l ≤ b → b ≤ N → g (5 * a + b) = G a b
theorem GU.fin {g : Nat → Int32} {G : Nat → Nat → Int32} {N a : Nat} (h : GU g G N a 0) : GT g G N a := by
  intro x b hx hN hb
  by_cases e : x = a
  · subst e; exact h.2 b (by omega) hb
  · exact h.1 x b (by omega) hN hb
theorem GU.put {g : Nat → Int32} {G : Nat → Nat → Int32} {N a b : Nat} {v : Int32} (h : GU g G N a (b + 1)) (hN : N ≤ 4) (hb : b ≤ N) (hv : v = G a b) : GU (upd g (5 * a + b) v) G N a b := by
  refine ⟨fun x y hx hy hz => ?_, fun y hy hz => ?_⟩
  · simp only [upd]; rw [if_neg (by omega)]; exact h.1 x y hx hy hz
  · simp only [upd]
    by_cases e : y = b
    · subst e; rw [if_pos rfl]; exact hv
    · rw [if_neg (by omega)]; exact h.2 y (by omega) hz
theorem e5 (a : Nat) : (5 : Int32) * nI a = nI (5 * a) := nI_mul 5 a
theorem i5a (a b : Nat) : (5 : Int32) * nI a + nI b = nI (5 * a + b) := by rw [e5, nI_add]
theorem i5b (a b : Nat) : (5 : Int32) * nI a + 5 + nI b = nI (5 * (a + 1) + b) := by
  rw [e5, show nI (5 * a) + (5 : Int32) = nI (5 * a + 5) from nI_add (5 * a) 5, nI_add]
  congr 1
theorem i5c (a b : Nat) : (5 : Int32) * nI a + nI b + 1 = nI (5 * a + (b + 1)) := by rw [i5a, nI_1, Nat.add_assoc]
theorem wl4 (M : MZ) (a b c e : Int32) : ms1 (ms1 (ms1 (ms1 M 1 a) 2 b) 1 c) 2 e = ms1 (ms1 M 1 c) 2 e := by
  unfold ms1
  refine Prod.ext ?_ rfl
  funext j
  dsimp only
  simp only [upd]
  by_cases h1 : j = 1
  · subst h1; rfl
  · by_cases h2 : j = 2
    · subst h2; rfl
    · rw [if_neg h2, if_neg h1, if_neg h2, if_neg h1, if_neg h2, if_neg h1]
theorem wl_id (M : MZ) : ms1 (ms1 M 1 (M.1 1)) 2 (M.1 2) = M := by
  rw [ms1_id, ms1_id]
theorem wl_bk (M : MZ) (a b : Int32) : ms1 (ms1 (ms1 (ms1 M 1 a) 2 b) 1 (M.1 1)) 2 (M.1 2) = M := by
  rw [wl4, wl_id]
/-! who, and what is lowest -/
def whI (M : MZ) (p : Nat) : Nat → Int32 → Int32
  | 0, a => a
  | k + 1, a => whI M p k a ||| (if mFirst M (nI p) = M.2.1 18 k ∧ mSecond M (nI p) = M.2.1 19 k then 1 <<< (nI p &&& 31) else 0)
def whO (M : MZ) (n : Nat) : Nat → Int32
  | 0 => 0
  | p + 1 => whI M p n (whO M n p)
def sp_who (M : MZ) : Int32 := whO M (pz (M.1 12)) (pz (M.1 0))
def lwN (x y : Nat) (w : Int32) : Int64 := if w = 0 then lN (x / Nat.gcd x y) else lN (y / Nat.gcd x y)
def odS (M : MZ) (cl : CLs) (p : Int32) : Nat → Nat
  | 0 => 0
  | n + 1 => odS M cl p n + pz (sNow (ms1 M 3 (nI n)) cl p)
def sp_odds (M : MZ) (cl : CLs) (p w : Int32) : Int64 := if isS M p then (if 0 ≤ w ∧ w ≤ 1 then lwN (odS M cl p 3) (3 * MIL) w else -9223372036854775808) else -9223372036854775808
def meS (M : MZ) (cl : CLs) : Nat → Nat
  | 0 => 0
  | n + 1 => meS M cl n + pz (sGm M cl (nI n))
def sp_mean (M : MZ) (cl : CLs) (w : Int32) : Int64 := if 0 ≤ w ∧ w ≤ 1 then (if M.1 0 = 0 then -9223372036854775808 else lwN (meS M cl (pz (M.1 0))) (pz (M.1 0)) w) else -9223372036854775808
theorem odS_le (M : MZ) (cl : CLs) (p : Int32) : ∀ n, odS M cl p n ≤ n * MIL
  | 0 => Nat.zero_le _
  | n + 1 => by
    have h1 := odS_le M cl p n
    have h2 := ((sNow_bw (ms1 M 3 (nI n)) cl p).nz (by decide)).2
    rw [Nat.succ_mul]
    unfold odS
    omega
theorem meS_le (M : MZ) (cl : CLs) : ∀ n, meS M cl n ≤ n * MIL
  | 0 => Nat.zero_le _
  | n + 1 => by
    have h1 := meS_le M cl n
    have h2 := ((gG_bw M cl (nI n) (pz (M.1 1)) (pz (M.1 2))).nz (by decide)).2
    rw [Nat.succ_mul]
    show meS M cl n + pz (gG M cl (nI n) (pz (M.1 1)) (pz (M.1 2))) ≤ _
    omega
/-- the book from k on, n entries: the first whose POINT isn't won -/
def lkN (M : MZ) : MZ := if ovr M then ms1 (ms1 M 1 0) 2 0 else M
def lkT (cl : CLs) : MZ → Nat → Nat → Int32
  | _, 0, _ => -5
  | M, n + 1, k => if goW (lkN M) cl (M.2.1 20 k) (M.2.1 21 k) (M.2.1 22 k) = true then lkT cl (goM (lkN M) (M.2.1 20 k) true) n (k + 1) else nI k
def mlk (M : MZ) (a b : Int32) (f : Nat → Int32) : MZ := mra (ms1 (ms1 M 1 a) 2 b) 4 f
/-- an answer, the model, and whatever scratch -/
abbrev XT (P D : HP) (y0 : Int32) (M : MZ) : PO := PI fun y h => y = y0 ∧ ∃ s, h = mh P (scr M s) D
abbrev XTL (P D : HP) (y0 : Int64) (M : MZ) : PO := PL fun y h => y = y0 ∧ ∃ s, h = mh P (scr M s) D
theorem mra_up (s : MZ) (t g : Nat → Int32) (i : Nat) (v : Int32) : msa (mra (mra s 16 t) 15 g) 16 i v = mra (mra s 16 (upd t i v)) 15 g := by
  unfold msa mra
  refine Prod.ext rfl (Prod.ext ?_ rfl)
  funext j
  dsimp only
  simp only [va_up]
  by_cases h1 : j = 16
  · subst h1; rfl
  · rw [if_neg h1]
    by_cases h2 : j = 15
    · rw [if_pos h2, if_pos h2]
    · rw [if_neg h2, if_neg h2, if_neg h1, if_neg h1]
theorem pz5 (n : Nat) (h : n < 2 ^ 31) : pz (nI n) = n := nI_clamp h
theorem bw_of {x : Int32} {n : Nat} {m : Int32} (hm : m.toInt = (n : Int)) (h : 0 ≤ x ∧ x ≤ m) : bw x n := by
  obtain ⟨j, hj, e⟩ := nI_of2 hm (Int32.not_lt.mpr h.1) h.2
  exact ⟨j, hj, e⟩
theorem bw_14 {x : Int32} (h : 1 ≤ x ∧ x ≤ 4) : bw x 4 := bw_of (m := 4) (by decide) ⟨Int32.le_trans (show (0 : Int32) ≤ 1 by decide) h.1, h.2⟩
