theorem tkX_c {t : Int32} (h : tkf t) : (tkX t = -1 ↔ t = -33) ∧ (tkX t = -2 ↔ t = -38) ∧ (tkX t = -3 ↔ t = -124) := by
  rcases h with rfl | rfl | rfl | ⟨f, c, n, hf, hc, hn, rfl⟩
  · decide
  · decide
  · decide
  · rw [tkX_n hf hc hn]
    have h0 : ∀ m : Nat, m < 10000 → ∀ k : Int32, k < 0 → ¬ nI m = k := fun m hm k hk z => by rw [← z] at hk; exact nI_pos (by omega) hk
    refine ⟨⟨fun z => absurd z (h0 _ (by omega) _ (by decide)), fun z => absurd z (h0 _ (by omega) _ (by decide))⟩, ⟨fun z => absurd z (h0 _ (by omega) _ (by decide)), fun z => absurd z (h0 _ (by omega) _ (by decide))⟩, ⟨fun z => absurd z (h0 _ (by omega) _ (by decide)), fun z => absurd z (h0 _ (by omega) _ (by decide))⟩⟩
theorem st_not {us : List Int32} {sk : List Bool} (K : MZ) (p f : Int32) (h : wfs (-33 :: us) sk.length) : ∃ b s, sk = b :: s ∧ stp K p f (-33) sk = (!b) :: s ∧ wfs us ((!b) :: s).length := by
  unfold wfs at h
  rw [if_pos rfl] at h
  cases sk with
  | nil => exact absurd h.1 (by decide)
  | cons b s => exact ⟨b, s, rfl, rfl, h.2⟩
theorem st_two {us : List Int32} {sk : List Bool} {t : Int32} (h3 : ¬ t = -33) (h0 : t < 0) (h : wfs (t :: us) sk.length) : ∃ a b s, sk = a :: b :: s ∧ wfs us (s.length + 1) := by
  unfold wfs at h
  rw [if_neg h3, if_pos h0] at h
  match sk, h with
  | [], h => exact absurd h.1 (by decide)
  | [_], h => exact absurd h.1 (by simp)
  | a :: b :: s, h => exact ⟨a, b, s, rfl, h.2⟩
theorem st_push {us : List Int32} {n m : Nat} (hm : m < 10000) (h : wfs (nI m :: us) n) : n < 31 ∧ wfs us (n + 1) := by
  unfold wfs at h
  rw [if_neg (fun z => absurd (z ▸ nI_pos (n := m) (by omega)) (by decide)), if_neg (nI_pos (by omega))] at h
  exact h
theorem stp_n {sk : List Bool} (K : MZ) (p f : Int32) {m : Nat} (hm : m < 10000) : stp K p f (nI m) sk = tst K p f (nI m) :: sk := by
  unfold stp
  rw [if_neg (fun z => absurd (z ▸ nI_pos (n := m) (by omega)) (by decide)), if_neg (nI_pos (by omega))]
theorem BT.fin {x : Int32} {sk : List Bool} (h : BT x sk) (hl : sk.length = 1) : x &&& 1 = 1 ↔ sk.headD false = true := by
  match sk, hl with
  | [b], _ =>
    rw [← bit1, h 0 (by simp)]
    rfl
theorem BT.nil (x : Int32) : BT x [] := fun i hi => absurd hi (Nat.not_lt_zero _)
theorem bz_tst (b : Bool) : b2i (b = true) = bz b := by cases b <;> rfl
