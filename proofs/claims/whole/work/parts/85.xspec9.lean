theorem odS_s (M : MZ) (cl : CLs) (p : Int32) {k : Nat} (hk : k < 4) : lN (odS M cl p k) + (sNow (ms1 M 3 (nI k)) cl p).toInt64 = lN (odS M cl p (k + 1)) := by
  have h := (sNow_bw (ms1 M 3 (nI k)) cl p).nz (by decide)
  have h2 : pz (sNow (ms1 M 3 (nI k)) cl p) < 2 ^ 31 := Nat.lt_of_le_of_lt h.2 (by decide)
  conv => lhs; rw [h.1]
  rw [nI_l h2, lN_add]
  rfl
theorem meS_s (M : MZ) (cl : CLs) {k : Nat} : lN (meS M cl k) + (sGm M cl (nI k)).toInt64 = lN (meS M cl (k + 1)) := by
  have h := (gG_bw M cl (nI k) (pz (M.1 1)) (pz (M.1 2))).nz (by decide)
  have h2 : pz (gG M cl (nI k) (pz (M.1 1)) (pz (M.1 2))) < 2 ^ 31 := Nat.lt_of_le_of_lt h.2 (by decide)
  unfold sGm
  conv => lhs; rw [h.1]
  rw [nI_l h2, lN_add]
  rfl
/-- is it among the seen from k on -/
def hsU (K : MZ) (f : Int32) : Nat → Nat → Bool
  | 0, _ => false
  | r + 1, k => if 10 * K.2.1 18 k + K.2.1 19 k = f then true else hsU K f r (k + 1)
theorem hsU_ex (K : MZ) (f : Int32) : ∀ (r k : Nat), hsU K f r k = true ↔ ∃ j, k ≤ j ∧ j < k + r ∧ 10 * K.2.1 18 j + K.2.1 19 j = f
  | 0, k => ⟨fun h => absurd h (by simp [hsU]), fun ⟨j, h1, h2, _⟩ => by omega⟩
  | r + 1, k => by
    unfold hsU
    by_cases e : 10 * K.2.1 18 k + K.2.1 19 k = f
    · rw [if_pos e]
      exact ⟨fun _ => ⟨k, Nat.le_refl _, by omega, e⟩, fun _ => rfl⟩
    · rw [if_neg e, hsU_ex K f r (k + 1)]
      constructor
      · intro ⟨j, h1, h2, h3⟩
        exact ⟨j, by omega, by omega, h3⟩
      · intro ⟨j, h1, h2, h3⟩
        refine ⟨j, ?_, by omega, h3⟩
        have : ¬ j = k := fun z => e (by rw [← z]; exact h3)
        omega
theorem pair_inj {a b c e : Int32} (ha : 0 ≤ a ∧ a ≤ 9) (hb : 0 ≤ b ∧ b ≤ 9) (hc : 0 ≤ c ∧ c ≤ 9) (he : 0 ≤ e ∧ e ≤ 9) : 10 * a + b = 10 * c + e ↔ c = a ∧ e = b := by
  obtain ⟨x, hx, rfl⟩ := bw_of (m := 9) (n := 9) (by decide) ha
  obtain ⟨y, hy, rfl⟩ := bw_of (m := 9) (n := 9) (by decide) hb
  obtain ⟨u, hu, rfl⟩ := bw_of (m := 9) (n := 9) (by decide) hc
  obtain ⟨v, hv, rfl⟩ := bw_of (m := 9) (n := 9) (by decide) he
  rw [show (10 : Int32) = nI 10 from rfl, nI_mul, nI_add, nI_mul, nI_add, nI_eq (by omega) (by omega), nI_eq (by omega) (by omega), nI_eq (by omega) (by omega)]
  omega
theorem mFirst_in {K : MZ} {p : Int32} (hK : KI K) (hr : ∀ i, i < 16 → 0 ≤ K.2.1 5 i ∧ K.2.1 5 i ≤ 9) (hp : vp_in p 4) : 0 ≤ mFirst K p ∧ mFirst K p ≤ 9 := by
  have h2 := hK.2.2.1 _ (pz_lt hp)
  have h3 := hK.2.2.2.1 _ (pz_lt hp)
  have h4 := hK.2.1 _ (pz_lt hp)
  unfold mFirst
  split
  · exact h3
  · split
    · split
      · exact h2
      · exact h3
    · split
      · split
        · decide
        · rename_i h
          obtain ⟨x, hx, e⟩ := bw_of (m := 9) (n := 9) (by decide) h2
          obtain ⟨y, hy, e2⟩ := bw_of (m := 9999) (n := 9999) (by decide) h4
          rw [e, e2, show (20 : Int32) = nI 20 from rfl, nI_div (by omega) (by decide)] at h ⊢
          have h5 : ¬ x < y / 20 := fun z => h (nI_lt z (by omega))
          rw [nI_subI (by omega) (by omega)]
          exact ⟨nI_pos' (by omega), nI_le (b := 9) (by omega) (by decide)⟩
      · split
        · exact hr _ (pz_lt (rows_in hp h4.1))
        · exact h2
theorem mSecond_in {K : MZ} {p : Int32} (hK : KI K) (hp : vp_in p 4) : 0 ≤ mSecond K p ∧ mSecond K p ≤ 9 := by
  unfold mSecond
  split
  · exact hK.2.2.1 _ (pz_lt hp)
  · exact hK.2.2.2.1 _ (pz_lt hp)
theorem or_self' (a b : Int32) : a ||| b ||| b = a ||| b := by
  apply Int32.toBitVec_inj.1
  simp only [Int32.toBitVec_or]
  rw [BitVec.or_assoc, BitVec.or_self]
theorem or_0 (a : Int32) : a ||| 0 = a := by
  apply Int32.toBitVec_inj.1
  simp
theorem whI_hs {K : MZ} {p : Nat} (hK : KI K) (hr : ∀ i, i < 16 → 0 ≤ K.2.1 5 i ∧ K.2.1 5 i ≤ 9) (hp : vp_in (nI p) 4) (hs : ∀ j, j < 6 → (0 ≤ K.2.1 18 j ∧ K.2.1 18 j ≤ 9) ∧ (0 ≤ K.2.1 19 j ∧ K.2.1 19 j ≤ 9)) (a : Int32) : ∀ n, n ≤ 6 → whI K p n a = if hsU K (10 * mFirst K (nI p) + mSecond K (nI p)) n 0 = true then a ||| 1 <<< (nI p &&& 31) else a
  | 0, _ => rfl
  | n + 1, hn => by
    have hq := pair_inj (hs n (by omega)).1 (hs n (by omega)).2 (mFirst_in hK hr hp) (mSecond_in hK hp)
    rw [whI, whI_hs hK hr hp hs a n (by omega)]
    have e1 := hsU_ex K (10 * mFirst K (nI p) + mSecond K (nI p)) n 0
    have e2 := hsU_ex K (10 * mFirst K (nI p) + mSecond K (nI p)) (n + 1) 0
    by_cases c : mFirst K (nI p) = K.2.1 18 n ∧ mSecond K (nI p) = K.2.1 19 n
    · rw [if_pos c]
      rw [if_pos (e2.mpr ⟨n, Nat.zero_le _, by omega, hq.mpr c⟩)]
      split
      · exact or_self' _ _
      · rfl
    · rw [if_neg c, or_0]
      have h9 : (hsU K (10 * mFirst K (nI p) + mSecond K (nI p)) n 0 = true) ↔ (hsU K (10 * mFirst K (nI p) + mSecond K (nI p)) (n + 1) 0 = true) := by
        rw [e1, e2]
        constructor
        · intro ⟨j, h1, h2, h3⟩
          exact ⟨j, h1, by omega, h3⟩
        · intro ⟨j, h1, h2, h3⟩
          refine ⟨j, h1, ?_, h3⟩
          have : ¬ j = n := fun z => c (hq.mp (by rw [← z]; exact h3))
          omega
      by_cases h8 : hsU K (10 * mFirst K (nI p) + mSecond K (nI p)) n 0 = true
      · rw [if_pos h8, if_pos (h9.mp h8)]
      · rw [if_neg h8, if_neg (fun z => h8 (h9.mpr z))]
/-- N is M but for WON, LOST and SERVED -/
def AG (N M : MZ) : Prop := (∀ j, j ≠ 1 → j ≠ 2 → N.1 j = M.1 j) ∧ ∀ j, j ≠ 4 → N.2.1 j = M.2.1 j
theorem AG.rf (M : MZ) : AG M M := ⟨fun _ _ _ => rfl, fun _ _ => rfl⟩
theorem AG.wl {N M : MZ} (h : AG N M) (a b : Int32) : AG (ms1 (ms1 N 1 a) 2 b) M := ⟨fun j h1 h2 => (if_neg h2).trans ((if_neg h1).trans (h.1 j h1 h2)), h.2⟩
theorem AG.lk {N M : MZ} (h : AG N M) : AG (lkN N) M := by
  unfold lkN
  split
  · exact h.wl 0 0
  · exact h
theorem AG.go {N M : MZ} (h : AG N M) (p : Int32) (b : Bool) : AG (goM N p b) M := by
  refine ⟨fun j h1 h2 => ?_, fun j hj => ?_⟩
  · cases b
    · exact (if_neg h2).trans (h.1 j h1 h2)
    · exact (if_neg h1).trans (h.1 j h1 h2)
  · unfold goM
    rw [msa_ne hj]
    cases b <;> exact h.2 j hj
theorem KI.lk {N : MZ} (h : KI N) : KI (lkN N) ∧ ¬ ovr (lkN N) := by
  unfold lkN
  by_cases e : ovr N
  · rw [if_pos e]
    refine ⟨h.wl (a := 0) (b := 0) (by decide) (by decide), ?_⟩
    rintro (z | z)
    · exact absurd (show (0 : Int32) = 4 from z) (by decide)
    · exact absurd (show (0 : Int32) = 4 from z) (by decide)
  · rw [if_neg e]
    exact ⟨h, e⟩
theorem p1_in {x : Int32} (h : 0 ≤ x ∧ x ≤ 4) (h4 : ¬ x = 4) : 0 ≤ x + 1 ∧ x + 1 ≤ 4 := by
  obtain ⟨j, hj, rfl⟩ := bw_of (m := 4) (n := 4) (by decide) h
  have : ¬ j = 4 := fun z => h4 (by rw [z]; rfl)
  rw [nI_1]
  exact ⟨nI_pos' (by omega), nI_le (b := 4) (by omega) (by decide)⟩
theorem sv_in {x : Int32} (h : 0 ≤ x ∧ x ≤ 9999) : 0 ≤ (x + if 9999 ≤ x then 0 else 1) ∧ (x + if 9999 ≤ x then 0 else 1) ≤ 9999 := by
  rw [← mn_eq h]
  obtain ⟨j, hj, rfl⟩ := bw_of (m := 9999) (n := 9999) (by decide) h
  rw [nI_1]
  split
  · rename_i z
    have := (nI_ltI (a := j + 1) (b := 9999) (by omega) (by decide)).mp z
    exact ⟨nI_pos' (by omega), nI_le (b := 9999) (by omega) (by decide)⟩
  · decide
theorem KI.go {N : MZ} (h : KI N) (ho : ¬ ovr N) {p : Int32} (hp : vp_in p 4) (b : Bool) : KI (goM N p b) := by
  have hv := sv_in (h.2.1 _ (pz_lt hp))
  have h1 : KI (cond b (ms1 N 1 (N.1 1 + 1)) (ms1 N 2 (N.1 2 + 1))) := by
    cases b
    · exact ⟨⟨h.1.1, h.1.2.1, p1_in h.1.2.2 (fun z => ho (Or.inr z))⟩, h.2⟩
    · exact ⟨⟨h.1.1, p1_in h.1.2.1 (fun z => ho (Or.inl z)), h.1.2.2⟩, h.2⟩
  exact h1.pa (Or.inr (Or.inr ⟨rfl, hv⟩))
