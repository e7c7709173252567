def shI (M : MZ) (t a o b n : Nat) : Nat → Int64 := fil (M.2.2 0) (60 * o + b) n (fun k => M.2.2 0 (60 * t + a + k))
def sp_shift (M : MZ) (t a o b n : Int32) : Int32 × MZ :=
  if isT t then (if isT o then (if M.2.1 36 (pz t) < 0 then (-11, M) else if 0 ≤ M.2.1 36 (pz o) then (if M.2.1 36 (pz t) = M.2.1 36 (pz o) then
    (if n < 0 then (-13, M) else if a < 0 then (-13, M) else if b < 0 then (-13, M) else if M.2.1 37 (pz t) - n < a then (-13, M) else if b ≤ M.2.1 37 (pz o) - n then (n, mrl M 0 (shI M (pz t) (pz a) (pz o) (pz b) (pz n))) else (-13, M))
    else (-12, M)) else (-11, M)) else (-1, M)) else (-1, M)
theorem sh_le {L : Int32} {A N : Nat} (hL : 0 ≤ L ∧ L ≤ 60) (hA : A < 2 ^ 31) (hN : N < 2 ^ 31) (h : nI A ≤ L - nI N) : A + N ≤ 60 := by
  obtain ⟨l, hl, rfl⟩ := bw_of (m := 60) (n := 60) (by decide) hL
  rw [Int32.le_iff_toInt_le, nI_toInt hA] at h
  have e1 := nI_toInt (n := l) (by omega)
  have e2 := nI_toInt (n := N) hN
  rw [fb_subI (by omega) (by omega), e1, e2] at h
  omega
theorem sh_ix {t : Int32} {T A r : Nat} (ht : t = nI T) : 60 * t + nI A + nI r = nI (60 * T + A + r) := by
  rw [ht, show (60 : Int32) * nI T = nI (60 * T) from nI_mul 60 T, nI_add, nI_add]
theorem mrl_2 (M : MZ) (k : Nat) (f g : Nat → Int64) : mrl (mrl M k f) k g = mrl M k g := by
  unfold mrl
  rw [va_up_up]
theorem mrl_sw (M : MZ) (f g : Nat → Int64) (i : Nat) (v : Int64) : msl (mrl (mrl M 0 f) 1 g) 0 i v = mrl (mrl M 0 (vp_updL f i v)) 1 g := by
  unfold msl mrl
  refine Prod.ext rfl (Prod.ext rfl ?_)
  funext j
  dsimp only
  simp only [va_up]
  by_cases h1 : j = 0
  · subst h1; rfl
  · rw [if_neg h1]
    by_cases h2 : j = 1
    · rw [if_pos h2, if_pos h2]
    · rw [if_neg h2, if_neg h2, if_neg h1, if_neg h1]
theorem mra_u23 (s : MZ) (t g : Nat → Int32) (i : Nat) (v : Int32) : msa (mra (mra s 23 t) 15 g) 23 i v = mra (mra s 23 (upd t i v)) 15 g := by
  unfold msa mra
  refine Prod.ext rfl (Prod.ext ?_ rfl)
  funext j
  dsimp only
  simp only [va_up]
  by_cases h1 : j = 23
  · subst h1; rfl
  · rw [if_neg h1]
    by_cases h2 : j = 15
    · rw [if_pos h2, if_pos h2]
    · rw [if_neg h2, if_neg h2, if_neg h1, if_neg h1]
theorem mlk_id (M : MZ) : mlk M (M.1 1) (M.1 2) (M.2.1 4) = M := by
  unfold mlk
  rw [wl_id, mra_id]
theorem mlk_wl (M : MZ) (a b c e : Int32) (f : Nat → Int32) : ms1 (ms1 (mlk M a b f) 1 c) 2 e = mlk M c e f := by
  show mra (ms1 (ms1 (ms1 (ms1 M 1 a) 2 b) 1 c) 2 e) 4 f = _
  rw [wl4]
  rfl
theorem mlk_lkN (M : MZ) (a b : Int32) (f : Nat → Int32) : ∃ c e, lkN (mlk M a b f) = mlk M c e f := by
  unfold lkN
  split
  · exact ⟨0, 0, mlk_wl _ _ _ _ _ _⟩
  · exact ⟨a, b, rfl⟩
theorem mlk_go (M : MZ) (a b : Int32) (f : Nat → Int32) (p : Int32) (w : Bool) : ∃ c e, goM (mlk M a b f) p w = mlk M c e (upd f (pz p) (f (pz p) + if 9999 ≤ f (pz p) then 0 else 1)) := by
  have h4 : (mlk M a b f).2.1 4 = f := rfl
  unfold goM
  rw [h4]
  generalize f (pz p) + (if 9999 ≤ f (pz p) then (0 : Int32) else 1) = v
  have hb : ∀ (N : MZ) (i : Nat) (x : Int32), N.2.1 4 = f → msa N 4 i x = mra N 4 (upd f i x) := by
    intro N i x hN
    unfold msa mra
    rw [hN]
  cases w
  · refine ⟨a, b + 1, ?_⟩
    rw [show (cond false (ms1 (mlk M a b f) 1 ((mlk M a b f).1 1 + 1)) (ms1 (mlk M a b f) 2 ((mlk M a b f).1 2 + 1))) = mra (ms1 (ms1 (ms1 M 1 a) 2 b) 2 (b + 1)) 4 f from rfl, ms1_2, hb _ _ _ rfl, mra_2]
    rfl
  · refine ⟨a + 1, b, ?_⟩
    have e : ms1 (ms1 (ms1 M 1 a) 2 b) 1 (a + 1) = ms1 (ms1 M 1 (a + 1)) 2 b := by
      have := wl4 M a b (a + 1) b
      rw [← this]
      refine (ms1_id (ms1 (ms1 (ms1 M 1 a) 2 b) 1 (a + 1)) 2).symm.trans ?_
      rfl
    rw [show (cond true (ms1 (mlk M a b f) 1 ((mlk M a b f).1 1 + 1)) (ms1 (mlk M a b f) 2 ((mlk M a b f).1 2 + 1))) = mra (ms1 (ms1 (ms1 M 1 a) 2 b) 1 (a + 1)) 4 f from rfl, e, hb _ _ _ rfl, mra_2]
    rfl
theorem up_nn {x : Int32} (h : 0 ≤ x) : 0 ≤ x + (if 9999 ≤ x then (0 : Int32) else 1) := by
  by_cases e : 9999 ≤ x
  · rw [if_pos e, Int32.add_zero]; exact h
  · rw [if_neg e]
    rw [Int32.le_iff_toInt_le] at h e ⊢
    have z : (0 : Int32).toInt = 0 := rfl
    have z1 : (1 : Int32).toInt = 1 := rfl
    have z9 : (9999 : Int32).toInt = 9999 := rfl
    rw [fb_addI (by omega) (by omega), z1]
    omega
/-- the book so far: B entries, k done, the answer r */ -/
def LKI (M : MZ) (cl : CLs) (N : MZ) (B k : Nat) (fd : Int32) : Prop := (fd = -5 ∧ ∃ m, k + m = B ∧ lkT cl N m k = lkT cl M B 0) ∨ (0 ≤ fd ∧ fd = lkT cl M B 0)
theorem LKI.out {M N : MZ} {cl : CLs} {B : Nat} {fd : Int32} (h : LKI M cl N B B fd) : fd = lkT cl M B 0 := by
  rcases h with ⟨h1, m, h2, h3⟩ | h
  · obtain rfl : m = 0 := by omega
    rw [h1, ← h3]; rfl
  · exact h.2
theorem LKI.outf {M N : MZ} {cl : CLs} {B k : Nat} {fd : Int32} (h : LKI M cl N B k fd) (hf : 0 ≤ fd) : fd = lkT cl M B 0 := by
  rcases h with ⟨h1, _⟩ | h
  · rw [h1] at hf; exact absurd hf (by decide)
  · exact h.2
theorem LKI.win {M N N2 : MZ} {cl : CLs} {B k : Nat} {fd : Int32} (h : LKI M cl N B k fd) (hf : ¬ 0 ≤ fd) (hk : k < B) (hB : B ≤ 10) (hN : lkN N = N2) (w : goW N2 cl (N.2.1 20 k) (N.2.1 21 k) (N.2.1 22 k) = true) : LKI M cl (goM N2 (N.2.1 20 k) true) B (k + 1) (-5) := by
  subst hN
  rcases h with ⟨h1, m, h2, h3⟩ | h
  · obtain ⟨m, rfl⟩ : ∃ x, m = x + 1 := ⟨m - 1, by omega⟩
    rw [lkT, if_pos w] at h3
    exact Or.inl ⟨rfl, m, by omega, h3⟩
  · exact absurd h.1 hf
theorem LKI.los {M N N2 N3 : MZ} {cl : CLs} {B k : Nat} {fd : Int32} (h : LKI M cl N B k fd) (hf : ¬ 0 ≤ fd) (hk : k < B) (hB : B ≤ 10) (hN : lkN N = N2) (w : ¬ goW N2 cl (N.2.1 20 k) (N.2.1 21 k) (N.2.1 22 k) = true) : LKI M cl N3 B (k + 1) (nI k) := by
  subst hN
  rcases h with ⟨h1, m, h2, h3⟩ | h
  · obtain ⟨m, rfl⟩ : ∃ x, m = x + 1 := ⟨m - 1, by omega⟩
    rw [lkT, if_neg w] at h3
    exact Or.inr ⟨nI_pos' (by omega), h3⟩
  · exact absurd h.1 hf
