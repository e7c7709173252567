theorem MS.p1 {M M2 : MZ} {k : Nat} {v : Int32} (h : MS M M2) (hk : k < 4 ∨ k = 5 ∨ (6 < k ∧ k < 14)) : MS M (ms1 M2 k v) := ⟨fun j hj => (if_neg (by omega)).trans (h.1 j hj), h.2.1, h.2.2⟩
theorem MS.pa {M M2 : MZ} {j i : Nat} {v : Int32} (h : MS M M2) (hj : j < 6 ∨ (18 ≤ j ∧ j < 23)) : MS M (msa M2 j i v) := ⟨h.1, fun k hk => (if_neg (by omega)).trans (h.2.1 k hk), h.2.2⟩
theorem MS.pr {M M2 : MZ} {j : Nat} {f : Nat → Int32} (h : MS M M2) (hj : j < 6 ∨ (18 ≤ j ∧ j < 23)) : MS M (mra M2 j f) := ⟨h.1, fun k hk => (if_neg (by omega)).trans (h.2.1 k hk), h.2.2⟩
theorem upd_in {f : Nat → Int32} {j m : Nat} {v lo hi : Int32} (h : ∀ i, i < m → lo ≤ f i ∧ f i ≤ hi) (hv : lo ≤ v ∧ v ≤ hi) : ∀ i, i < m → lo ≤ upd f j v i ∧ upd f j v i ≤ hi := fun i hi9 => by
  simp only [upd]
  by_cases e : i = j
  · rw [if_pos e]; exact hv
  · rw [if_neg e]; exact h i hi9
theorem RI.a2 {F i : Nat} {M : MZ} {n : Int32} (h : RI F M) (hn : 0 ≤ n ∧ n ≤ 9) : RI F (msa M 2 i n) := by
  obtain ⟨⟨m, k1, k2, k3, k4⟩, s, r1, b, z, c⟩ := h
  exact ⟨⟨m, k1, upd_in k2 hn, k3, k4⟩, s, r1, b, z, c⟩
theorem RI.a3 {F i : Nat} {M : MZ} {n : Int32} (h : RI F M) (hn : 0 ≤ n ∧ n ≤ 9) : RI F (msa M 3 i n) := by
  obtain ⟨⟨m, k1, k2, k3, k4⟩, s, r1, b, z, c⟩ := h
  exact ⟨⟨m, k1, k2, upd_in k3 hn, k4⟩, s, r1, b, z, c⟩
theorem RI.a4 {F i : Nat} {M : MZ} {n : Int32} (h : RI F M) (hi : nI i < M.1 0) (hn : 0 ≤ n ∧ n ≤ 9999) : RI F (msa M 4 i n) := by
  obtain ⟨⟨m, k1, k2, k3, k4⟩, s, r1, b, z, c⟩ := h
  refine ⟨⟨m, upd_in k1 hn, k2, k3, k4⟩, s, r1, b, fun j hj hl => ⟨?_, (z j hj hl).2⟩, c⟩
  show upd (M.2.1 4) i n j = 0
  simp only [upd]
  rw [if_neg (fun e => hl (by rw [e]; exact hi))]
  exact (z j hj hl).1
theorem RI.a5 {F i r : Nat} {M : MZ} {n : Int32} (h : RI F M) (hi : nI i < M.1 0) (hr : r < 4) (hn : 0 ≤ n ∧ n ≤ 9) : RI F (msa M 5 (4 * i + r) n) := by
  obtain ⟨⟨m, k1, k2, k3, k4⟩, s, r1, b, z, c⟩ := h
  refine ⟨⟨m, k1, k2, k3, k4⟩, s, upd_in r1 hn, b, fun j hj hl => ⟨(z j hj hl).1, fun q hq => ?_⟩, c⟩
  show upd (M.2.1 5) (4 * i + r) n (4 * j + q) = 0
  simp only [upd]
  rw [if_neg (fun e => hl (by rw [show j = i by omega]; exact hi))]
  exact (z j hj hl).2 q hq
theorem RI.p1 {F : Nat} {M : MZ} {n : Int32} (h : RI F M) (hn : 0 ≤ n ∧ n ≤ 4) : RI F (ms1 M 1 n) := by
  obtain ⟨⟨⟨m1, m2, m3⟩, k⟩, s, r1, b, z, c⟩ := h
  exact ⟨⟨⟨m1, hn, m3⟩, k⟩, s, r1, b, z, c⟩
theorem RI.p2 {F : Nat} {M : MZ} {n : Int32} (h : RI F M) (hn : 0 ≤ n ∧ n ≤ 4) : RI F (ms1 M 2 n) := by
  obtain ⟨⟨⟨m1, m2, m3⟩, k⟩, s, r1, b, z, c⟩ := h
  exact ⟨⟨⟨m1, m2, hn⟩, k⟩, s, r1, b, z, c⟩
theorem RI.p3 {F : Nat} {M : MZ} {n : Int32} (h : RI F M) : RI F (ms1 M 3 n) := h
theorem up1 {x m : Int32} {n : Nat} (hm : m = nI n) (hn : n < 1000000) (h : 0 ≤ x ∧ x ≤ m) (hx : ¬ x = m) : 0 ≤ x + 1 ∧ x + 1 ≤ m := by
  subst hm
  obtain ⟨j, hj, rfl⟩ := bw_of (m := nI n) (n := n) (nI_toInt (by omega)) h
  rw [nI_1]
  have : j ≠ n := fun e => hx (by rw [e])
  exact ⟨Int32.not_lt.mp (nI_pos (by omega)), nI_le (by omega) (by omega)⟩
theorem RR.set {X X2 : XZ} {M : MZ} {D : HP} {p w n : Int32} (h : RR X M D) (hf : FX X X2 0) (hS : SR X2 D 0 (sp_set M p w n).2) : RR X2 (sp_set M p w n).2 D := by
  have hM := h.ki.1.1
  refine h.fx hf hS ?_ (fun F hF => ?_)
  · unfold sp_set
    repeat' split
    all_goals first | exact MS.rf M | exact (MS.rf M).pa (by decide)
  · unfold sp_set
    split
    · rename_i hp
      obtain ⟨-, -, hlt⟩ := isS_nat hM hp
      split
      · split
        · split
          · rename_i hn
            exact hF.a4 hlt hn
          · exact hF
        · split
          · rename_i hn
            split
            · exact hF.a2 hn
            · exact hF.a3 hn
          · exact hF
      · exact hF
    · exact hF
theorem RR.row {X X2 : XZ} {M : MZ} {D : HP} {p w n : Int32} (h : RR X M D) (hf : FX X X2 0) (hS : SR X2 D 0 (sp_row M p w n).2) : RR X2 (sp_row M p w n).2 D := by
  have hM := h.ki.1.1
  refine h.fx hf hS ?_ (fun F hF => ?_)
  · unfold sp_row
    repeat' split
    all_goals first | exact MS.rf M | exact (MS.rf M).pa (by decide)
  · unfold sp_row
    split
    · rename_i hp
      obtain ⟨e1, h4, hlt⟩ := isS_nat hM hp
      split
      · rename_i hw
        split
        · rename_i hn
          split
          · obtain ⟨r, hr, rfl⟩ := bw_of (m := 3) (n := 3) (by decide) hw
            have e2 : pz (4 * p + nI r) = 4 * pz p + r := by
              rw [e1, show (4 : Int32) = nI 4 from rfl, nI_mul, nI_add, pz5 _ (by omega), pz5 _ (by omega)]
            show RI F (msa M 5 (pz (4 * p + nI r)) n)
            rw [e2]
            exact hF.a5 hlt (by omega) hn
          · exact hF
        · exact hF
      · exact hF
    · exact hF
theorem RR.score {X X2 : XZ} {M : MZ} {D : HP} {a b : Int32} (h : RR X M D) (hf : FX X X2 0) (hS : SR X2 D 0 (sp_score M a b).2) : RR X2 (sp_score M a b).2 D := by
  refine h.fx hf hS ?_ (fun F hF => ?_)
  · unfold sp_score
    repeat' split
    all_goals first | exact MS.rf M | exact ((MS.rf M).p1 (by decide)).p1 (by decide)
  · unfold sp_score
    split
    · rename_i ha
      split
      · rename_i hb
        split
        · exact hF
        · exact (hF.p1 ha).p2 hb
      · exact hF
    · exact hF
theorem RR.see {X X2 : XZ} {M : MZ} {D : HP} {a b : Int32} (h : RR X M D) (hf : FX X X2 0) (hS : SR X2 D 0 (sp_see M a b).2) : RR X2 (sp_see M a b).2 D := by
  refine h.fx hf hS ?_ (fun F hF => ?_)
  · unfold sp_see
    repeat' split
    all_goals first | exact MS.rf M | exact (((MS.rf M).pa (by decide)).pa (by decide)).p1 (by decide) | exact (MS.rf M).p1 (by decide)
  · obtain ⟨k, ⟨⟨n, n1, n2⟩, s2⟩, r1, bk, z, c⟩ := hF
    unfold sp_see
    split
    · exact ⟨k, ⟨⟨0, by decide, rfl⟩, s2⟩, r1, bk, z, c⟩
    · split
      · rename_i ha
        split
        · rename_i hb
          split
          · exact ⟨k, ⟨⟨n, n1, n2⟩, s2⟩, r1, bk, z, c⟩
          · rename_i h6
            have hn6 : n ≠ 6 := fun e => h6 (by rw [n2, e]; rfl)
            refine ⟨k, ⟨⟨n + 1, by omega, ?_⟩, fun j hj => ⟨upd_in (fun i hi => (s2 i hi).1) ha j hj, upd_in (fun i hi => (s2 i hi).2) hb j hj⟩⟩, r1, bk, z, c⟩
            show M.1 12 + 1 = nI (n + 1)
            rw [n2, nI_1]
        · exact ⟨k, ⟨⟨n, n1, n2⟩, s2⟩, r1, bk, z, c⟩
      · exact ⟨k, ⟨⟨n, n1, n2⟩, s2⟩, r1, bk, z, c⟩
theorem RR.book {X X2 : XZ} {M : MZ} {D : HP} {p a b : Int32} (h : RR X M D) (hf : FX X X2 0) (hS : SR X2 D 0 (sp_book M p a b).2) : RR X2 (sp_book M p a b).2 D := by
  refine h.fx hf hS ?_ (fun F hF => ?_)
  · unfold sp_book
    repeat' split
    all_goals first | exact MS.rf M | exact ((((MS.rf M).pa (by decide)).pa (by decide)).pa (by decide)).p1 (by decide) | exact (MS.rf M).p1 (by decide)
  · have hF0 := hF
    obtain ⟨k, s, r1, ⟨n, n1, n2, n3⟩, z, c⟩ := hF
    unfold sp_book
    split
    · exact ⟨k, s, r1, ⟨0, by decide, rfl, fun j hj => absurd hj (Nat.not_lt_zero j)⟩, z, c⟩
    · split
      · rename_i hp
        split
        · split
          · exact hF0
          · rename_i h10
            have hn10 : n ≠ 10 := fun e => h10 (by rw [n2, e]; rfl)
            have en : pz (M.1 13) = n := by rw [n2]; exact pz5 n (by omega)
            refine ⟨k, s, r1, ⟨n + 1, by omega, ?_, fun j hj => ?_⟩, z, c⟩
            · show M.1 13 + 1 = nI (n + 1)
              rw [n2, nI_1]
            · show isS M (upd (M.2.1 20) (pz (M.1 13)) p j)
              rw [en]
              simp only [upd]
              by_cases e : j = n
              · rw [if_pos e]; exact hp
              · rw [if_neg e]; exact n3 j (by omega)
        · exact hF0
      · exact hF0
theorem RR.play {X X2 : XZ} {M : MZ} {D : HP} {cl : CLs} {p a b : Int32} (h : RR X M D) (hf : FX X X2 0) (hS : SR X2 D 0 (sp_play M cl p a b).2) : RR X2 (sp_play M cl p a b).2 D := by
  have hM := h.ki.1.1
  refine h.fx hf hS ?_ (fun F hF => ?_)
  · unfold sp_play goM
    repeat' split
    all_goals first | exact MS.rf M | (cases goW M cl p a b <;> exact ((MS.rf M).p1 (by decide)).pa (by decide))
  · unfold sp_play
    split
    · rename_i hp
      obtain ⟨-, h4, hlt⟩ := isS_nat hM hp
      split
      · split
        · exact hF
        · rename_i ho
          have hsv : 0 ≤ (M.2.1 4 (pz p) + if 9999 ≤ M.2.1 4 (pz p) then 0 else 1) ∧ (M.2.1 4 (pz p) + if 9999 ≤ M.2.1 4 (pz p) then 0 else 1) ≤ 9999 := by
            have hb := hF.1.2.1 _ h4
            by_cases e : 9999 ≤ M.2.1 4 (pz p)
            · rw [if_pos e, Int32.add_zero]; exact hb
            · rw [if_neg e]; exact up1 (m := 9999) (n := 9999) rfl (by decide) hb (fun w => e (by rw [w]; exact Int32.le_refl _))
          have h1 : RI F (ms1 M 1 (M.1 1 + 1)) := hF.p1 (up1 (m := 4) (n := 4) rfl (by decide) hF.1.1.2.1 (fun w => ho (Or.inl w)))
          have h2 : RI F (ms1 M 2 (M.1 2 + 1)) := hF.p2 (up1 (m := 4) (n := 4) rfl (by decide) hF.1.1.2.2 (fun w => ho (Or.inr w)))
          show RI F (goM M p (goW M cl p a b))
          unfold goM
          cases goW M cl p a b
          · exact h2.a4 hlt hsv
          · exact h1.a4 hlt hsv
      · exact hF
    · exact hF
theorem RR.stance {X X2 : XZ} {M : MZ} {D : HP} {n : Int32} (h : RR X M D) (hf : FX X X2 0) (hS : SR X2 D 0 (if 0 ≤ n ∧ n ≤ 2 then ms1 M 3 n else M)) : RR X2 (if 0 ≤ n ∧ n ≤ 2 then ms1 M 3 n else M) D := by
  refine h.fx hf hS ?_ (fun F hF => ?_)
  · split
    · exact (MS.rf M).p1 (by decide)
    · exact MS.rf M
  · split
    · exact hF
    · exact hF
