section Pairs1
variable {X : XZ} {M : MZ} {D : HP}
theorem pr_of (h : RR X M D) (p w : Int32) : PairI qX11_of qX12_of [.int p, .int w] X M D := by
  obtain ⟨cl, hN, hX⟩ := h.cl
  exact pair_q h (x_of 36 X M D h.1 h.ki hX p w) (fun X2 => m_of 36 (xcells X2) D M M (xcells_len X2) p w h.z h.sv cl hN)
theorem pr_chance (h : RR X M D) (p a b : Int32) : PairI qX11_chance qX12_chance [.int p, .int a, .int b] X M D := by
  obtain ⟨cl, hN, hX⟩ := h.cl
  exact pair_q h (x_chance 35 X M D h.1 h.ki hX p a b) (fun X2 => m_chance 35 (xcells X2) D M M (xcells_len X2) p a b h.z h.sv cl hN)
theorem pr_faults (h : RR X M D) (p a b : Int32) : PairI qX11_faults qX12_faults [.int p, .int a, .int b] X M D := by
  obtain ⟨cl, hN, hX⟩ := h.cl
  exact pair_q h (x_faults 35 X M D h.1 h.ki hX p a b) (fun X2 => m_faults 35 (xcells X2) D M M (xcells_len X2) p a b h.z h.sv cl hN)
theorem pr_best (h : RR X M D) (p w : Int32) : PairI qX11_best qX12_best [.int p, .int w] X M D := by
  obtain ⟨cl, hN, hX⟩ := h.cl
  exact pair_q h (x_best 35 X M D h.1 h.ki hX p w) (fun X2 => m_best 35 (xcells X2) D M M (xcells_len X2) p w h.z h.sv cl hN)
theorem pr_risk (h : RR X M D) (p : Int32) : PairI qX11_risk qX12_risk [.int p] X M D := by
  obtain ⟨cl, hN, hX⟩ := h.cl
  exact pair_q h (x_risk 35 X M D h.1 h.ki hX p) (fun X2 => m_risk 35 (xcells X2) D M M (xcells_len X2) p h.z h.sv cl hN)
theorem pr_dare (h : RR X M D) (p : Int32) : PairI qX11_dare qX12_dare [.int p] X M D := by
  obtain ⟨cl, hN, hX⟩ := h.cl
  exact pair_q h (x_dare 34 X M D h.1 h.ki hX p) (fun X2 => m_dare 34 (xcells X2) D M M (xcells_len X2) p h.z h.sv cl hN)
theorem pr_more (h : RR X M D) (p w : Int32) : PairI qX11_more qX12_more [.int p, .int w] X M D := by
  obtain ⟨cl, hN, hX⟩ := h.cl
  exact pair_q h (x_more 34 X M D h.1 h.ki hX p w) (fun X2 => m_more 34 (xcells X2) D M M (xcells_len X2) p w h.z h.sv cl hN)
theorem pr_safe (h : RR X M D) (p q : Int32) : PairI qX11_safe qX12_safe [.int p, .int q] X M D := by
  obtain ⟨cl, hN, hX⟩ := h.cl
  exact pair_q h (x_safe 36 X M D h.1 h.ki hX p q) (fun X2 => m_safe 36 (xcells X2) D M M (xcells_len X2) p q h.z h.sv cl hN)
theorem pr_stand (h : RR X M D) (p w : Int32) : PairI qX11_stand qX12_stand [.int p, .int w] X M D := by
  obtain ⟨cl, hN, hX⟩ := h.cl
  exact pair_q h (x_stand 33 X M D h.1 h.ki hX p w) (fun X2 => m_stand 34 (xcells X2) D M M (xcells_len X2) p w h.z h.sv cl hN)
theorem pr_game (h : RR X M D) (p w : Int32) : PairI qX11_game qX12_game [.int p, .int w] X M D := by
  obtain ⟨cl, hN, hX⟩ := h.cl
  exact pair_t h (x_game 33 X M D h.1 h.ki hX h.rv p w) (fun X2 => m_game 32 (xcells X2) D M M (xcells_len X2) p w h.z h.sv cl hN h.b1 h.b2)
theorem pr_swing (h : RR X M D) (p : Int32) : PairI qX11_swing qX12_swing [.int p] X M D := by
  obtain ⟨cl, hN, hX⟩ := h.cl
  exact pair_t h (x_swing 33 X M D h.1 h.ki hX h.rv p) (fun X2 => m_swing 33 (xcells X2) D M M (xcells_len X2) p h.z h.sv cl hN h.b1 h.b2)
theorem pr_match (h : RR X M D) (p q m : Int32) : PairI qX11_match qX12_match [.int p, .int q, .int m] X M D := by
  obtain ⟨cl, hN, hX⟩ := h.cl
  exact pair_t h (x_match 33 X M D h.1 h.ki hX h.rv p q m) (fun X2 => m_match 31 (xcells X2) D M M (xcells_len X2) p q m h.z h.sv cl hN)
theorem pr_ahead (h : RR X M D) (p q m : Int32) : PairI qX11_ahead qX12_ahead [.int p, .int q, .int m] X M D := by
  obtain ⟨cl, hN, hX⟩ := h.cl
  exact pair_t h (x_ahead 33 X M D h.1 h.ki hX h.rv p q m) (fun X2 => m_ahead 31 (xcells X2) D M M (xcells_len X2) p q m h.z h.sv cl hN)
theorem pr_looked (h : RR X M D) : PairI qX11_looked qX12_looked [] X M D := by
  obtain ⟨cl, hN, hX⟩ := h.cl
  exact pair_t h (x_looked 33 X M D h.1 h.ki hX h.c13 h.bk) (fun X2 => m_looked 35 (xcells X2) D M M (xcells_len X2) h.sv cl hN ⟨_, h.c13.2, h.c13.1⟩ (fun j hj => in4_of h.z (h.bk j hj)))
theorem pr_odds (h : RR X M D) (p w : Int32) : PairL qX11_odds qX12_odds [.int p, .int w] X M D := by
  obtain ⟨cl, hN, hX⟩ := h.cl
  exact pairL_q h (x_odds 33 X M D h.1 h.ki hX p w) (fun X2 => m_odds 34 (xcells X2) D M M (xcells_len X2) p w h.z h.sv cl hN)
theorem pr_mean (h : RR X M D) (w : Int32) : PairL qX11_mean qX12_mean [.int w] X M D := by
  obtain ⟨cl, hN, hX⟩ := h.cl
  exact pairL_t h (x_mean 33 X M D h.1 h.ki hX h.rv w) (fun X2 => m_mean 32 (xcells X2) D M M (xcells_len X2) w h.z h.sv cl hN h.b1 h.b2)
theorem pr_told (h : RR X M D) (w : Int32) : PairI qX11_told qX12_told [.int w] X M D := pair_p h (x_told 40 X M D h.1 w) (m_told 40 (xcells X) D M (xcells_len X) w)
theorem pr_who (h : RR X M D) : PairI qX11_who qX12_who [] X M D := by
  have h9 := m_who 39 (xcells X) D M M (xcells_len X) h.z h.sv ⟨_, h.c12.2, h.c12.1⟩
  rw [scr_id] at h9
  exact pair_p h (x_who 37 X M D h.1 h.ki h.c12 h.rw h.sn) h9
theorem pr_judge (h : RR X M D) (t j : Int32) : PairI qX11_judge qX12_judge [.int t, .int j] X M D := pair_p h (x_judge 38 X M D h.1 h.ki h.rv h.rp t j) (m_judge 38 (xcells X) D M (xcells_len X) t j h.z h.ln)
theorem pr_trace (h : RR X M D) (i : Int32) : PairI qX11_trace qX12_trace [.int i] X M D := by
  obtain ⟨-, -, -, -, -, -, -, tr, hB, h22, hT⟩ := id h
  exact pair_p h (x_trace 37 X M D tr hB h22 hT i) (m_trace 39 (xcells X) D M (xcells_len X) i)
theorem pr_taken (h : RR X M D) (i k : Int32) : PairI qX11_taken qX12_taken [.int i, .int k] X M D := pair_p h (x_taken 38 X M D h.1 h.ki i k) (m_taken 38 (xcells X) D M (xcells_len X) i k h.z)
theorem pr_count (h : RR X M D) (w : Int32) : PairI qX11_count qX12_count [.int w] X M D := by
  obtain ⟨-, ⟨F, -, c1, c2, -⟩, -, ⟨N, hT, h6⟩, -, -, -, tr, hB, h22, -⟩ := id h
  exact pair_p h (x_count 39 X M D h.1 (c1.trans c2.symm) (hT.1.trans h6.symm) (hB.1.trans h22.symm) w) (m_count 40 (xcells X) D M (xcells_len X) w)
theorem pr_read (h : RR X M D) (t i : Int32) : PairL qX11_read qX12_read [.int t, .int i] X M D := pairL_c (Φ := fun X2 => X2 = X) ((x_read 38 X M D h.rv h.rp t i).mono (fun r h' ⟨x, e, e1, e2⟩ => ⟨x, e, e1, X, e2, rfl⟩)) (fun X2 e => by
  subst e
  exact (m_read 38 (xcells X2) D M (xcells_len X2) t i h.ln).mono (fun r h' ⟨x, e, e1, e2⟩ => ⟨x, e, e1, M, e2, h⟩))
theorem pr_set (h : RR X M D) (p w n : Int32) : PairI qX11_set qX12_set [.int p, .int w, .int n] X M D := pair_c (x_set 38 X M D h.1 h.ki p w n) (fun X2 ⟨hf, hS⟩ => (m_set 38 (xcells X2) D M (xcells_len X2) p w n h.z).mono (fun r h' ⟨x, e, e1, e2⟩ => ⟨x, e, e1, _, e2, h.set hf hS⟩))
theorem pr_row (h : RR X M D) (p w n : Int32) : PairI qX11_row qX12_row [.int p, .int w, .int n] X M D := pair_c (x_row 38 X M D h.1 h.ki p w n) (fun X2 ⟨hf, hS⟩ => (m_row 38 (xcells X2) D M (xcells_len X2) p w n h.z).mono (fun r h' ⟨x, e, e1, e2⟩ => ⟨x, e, e1, _, e2, h.row hf hS⟩))
theorem pr_score (h : RR X M D) (a b : Int32) : PairI qX11_score qX12_score [.int a, .int b] X M D := pair_c (x_score 39 X M D h.1 a b) (fun X2 ⟨hf, hS⟩ => (m_score 39 (xcells X2) D M (xcells_len X2) a b).mono (fun r h' ⟨x, e, e1, e2⟩ => ⟨x, e, e1, _, e2, h.score hf hS⟩))
theorem pr_see (h : RR X M D) (a b : Int32) : PairI qX11_see qX12_see [.int a, .int b] X M D := pair_c (x_see 38 X M D h.1 a b h.c12) (fun X2 ⟨hf, hS⟩ => (m_see 38 (xcells X2) D M (xcells_len X2) a b (c_in h.c12.1 h.c12.2 (by decide))).mono (fun r h' ⟨x, e, e1, e2⟩ => ⟨x, e, e1, _, e2, h.see hf hS⟩))
theorem pr_book (h : RR X M D) (p a b : Int32) : PairI qX11_book qX12_book [.int p, .int a, .int b] X M D := pair_c (x_book 38 X M D h.1 h.ki p a b h.c13) (fun X2 ⟨hf, hS⟩ => (m_book 38 (xcells X2) D M (xcells_len X2) p a b (c_in h.c13.1 h.c13.2 (by decide))).mono (fun r h' ⟨x, e, e1, e2⟩ => ⟨x, e, e1, _, e2, h.book hf hS⟩))
theorem pr_stance (h : RR X M D) (n : Int32) : PairI qX11_stance qX12_stance [.int n] X M D := pair_c (x_stance 39 X M D h.1 n) (fun X2 ⟨hf, hS⟩ => (m_stance 39 (xcells X2) D M (xcells_len X2) n).mono (fun r h' ⟨x, e, e1⟩ => by
  refine ⟨x, e, ?_⟩
  have hR := h.stance hf hS
  dsimp only at e1 ⊢
  by_cases c : 0 ≤ n ∧ n ≤ 2
  · rw [if_pos c] at e1 hR ⊢
    exact ⟨e1.1, _, e1.2, hR⟩
  · rw [if_neg c] at e1 hR ⊢
    exact ⟨e1.1, _, e1.2, hR⟩))
theorem pr_play (h : RR X M D) (p a b : Int32) : PairI qX11_play qX12_play [.int p, .int a, .int b] X M D := by
  obtain ⟨cl, hN, hX⟩ := h.cl
  refine pair_c (x_play 33 X M D h.1 h.ki hX p a b) (fun X2 ⟨hf, hS⟩ => ?_)
  have h9 := m_play 35 (xcells X2) D M M (xcells_len X2) p a b h.z h.sv cl hN
  rw [scr_id] at h9
  exact h9.mono (fun r h' ⟨x, e, e1, g, e2⟩ => ⟨x, e, e1, _, e2, (h.play hf hS).mo (MO.scr _ _)⟩)
theorem tape_fr (M : MZ) (t s n : Int32) : (sp_tape M t s n).2.1 = M.1 ∧ ∀ j, j ≠ 36 ∧ j ≠ 37 → (sp_tape M t s n).2.2.1 j = M.2.1 j := by
  have e : ∀ a b f j, j ≠ 36 ∧ j ≠ 37 → (mrl (msa (msa M 36 (pz t) a) 37 (pz t) b) 0 f).2.1 j = M.2.1 j := fun a b f j hj => (msa_ne hj.2).trans (msa_ne hj.1)
  unfold sp_tape
  split
  · split
    · split
      · exact ⟨rfl, e _ _ _⟩
      · split
        · exact ⟨rfl, fun _ _ => rfl⟩
        · split
          · exact ⟨rfl, fun _ _ => rfl⟩
          · exact ⟨rfl, e _ _ _⟩
    · exact ⟨rfl, fun _ _ => rfl⟩
  · exact ⟨rfl, fun _ _ => rfl⟩
theorem item_fr (M : MZ) (t i : Int32) (z : Int64) : (sp_item M t i z).2.1 = M.1 ∧ ∀ j, j ≠ 36 ∧ j ≠ 37 → (sp_item M t i z).2.2.1 j = M.2.1 j := by
  unfold sp_item
  split
  · split
    · exact ⟨rfl, fun _ _ => rfl⟩
    · split
      · exact ⟨rfl, fun _ _ => rfl⟩
      · exact ⟨rfl, fun _ _ => rfl⟩
  · exact ⟨rfl, fun _ _ => rfl⟩
theorem shift_fr (M : MZ) (t a u b n : Int32) : (sp_shift M t a u b n).2.1 = M.1 ∧ (sp_shift M t a u b n).2.2.1 = M.2.1 := by
  unfold sp_shift
  split
  · split
    · split
      · exact ⟨rfl, rfl⟩
      · split
        · split
          · split
            · exact ⟨rfl, rfl⟩
            · split
              · exact ⟨rfl, rfl⟩
              · split
                · exact ⟨rfl, rfl⟩
                · split
                  · exact ⟨rfl, rfl⟩
                  · split
                    · exact ⟨rfl, rfl⟩
                    · exact ⟨rfl, rfl⟩
          · exact ⟨rfl, rfl⟩
        · exact ⟨rfl, rfl⟩
    · exact ⟨rfl, rfl⟩
  · exact ⟨rfl, rfl⟩
theorem pr_tape (h : RR X M D) (t s n : Int32) : PairI qX11_tape qX12_tape [.int t, .int s, .int n] X M D := pair_c (x_tape 38 X M D h.rv h.rp t s n) (fun X2 ⟨hf, hS⟩ => (m_tape 38 (xcells X2) D M (xcells_len X2) t s n).mono (fun r h' ⟨x, e, e1, e2⟩ => ⟨x, e, e1, _, e2, h.tp hf hS (tape_fr M t s n).1 (tape_fr M t s n).2⟩))
theorem pr_item (h : RR X M D) (t i : Int32) (z : Int64) : PairI qX11_item qX12_item [.int t, .int i, .long z] X M D := pair_c (x_item 38 X M D h.rv h.rp t i z) (fun X2 ⟨hf, hS⟩ => (m_item 38 (xcells X2) D M (xcells_len X2) t i z h.ln).mono (fun r h' ⟨x, e, e1, e2⟩ => ⟨x, e, e1, _, e2, h.tp hf hS (item_fr M t i z).1 (item_fr M t i z).2⟩))
theorem pr_shift (h : RR X M D) (t a u b n : Int32) : PairI qX11_shift qX12_shift [.int t, .int a, .int u, .int b, .int n] X M D := pair_c (x_shift 38 X M D h.rv h.rp t a u b n) (fun X2 ⟨hf, hS⟩ => (m_shift 38 (xcells X2) D M (xcells_len X2) t a u b n h.ln).mono (fun r h' ⟨x, e, e1, f, e2⟩ => ⟨x, e, e1, _, e2, h.tp hf (RP.eq (X := X2) (fun _ _ _ => rfl) rfl rfl rfl rfl hS) (shift_fr M t a u b n).1 (fun j _ => congrFun (shift_fr M t a u b n).2 j)⟩))
theorem pr_image (h : RR X M D) : PairI qX11_image qX12_image [] X M D := pair_c (Φ := fun X3 => ∃ X2, X3 = x1 X2 0 1 ∧ FX X X2 1 ∧ SR X2 D 1 M) ((x_image 38 X M D h.1).mono (fun r h' ⟨x, e, e1, X2, e2, e3, e4⟩ => ⟨x, e, e1, _, e2, X2, rfl, e3, e4⟩)) (fun X3 ⟨X2, e0, hf, hS⟩ => by
  subst e0
  exact (m_image 40 (xcells (x1 X2 0 1)) D M (xcells_len _)).mono (fun r h' ⟨x, e, e1, A, hA, e2⟩ => ⟨x, e, e1, _, e2, h.image hf hS hA⟩))
theorem pr_undo (h : RR X M D) : PairI qX11_undo qX12_undo [] X M D := by
  obtain ⟨-, ⟨F, -, -, -, -, him, -⟩, h14, -⟩ := id h
  have hx := x_undo 38 X M D (K := imK M) (fun z => (him (by rw [← h14]; exact z)).1)
  by_cases c : M.1 14 = 0
  · refine pair_c (y0 := -3) (Φ := fun X2 => X2 = X) (hx.mono (fun r h' ⟨x, e, e1⟩ => ?_)) (fun X2 e => ?_)
    · rcases e1 with ⟨-, e2, e3⟩ | ⟨e2, -⟩
      · exact ⟨x, e, e2, X, e3, rfl⟩
      · exact absurd (h14.trans c) e2
    · subst e
      exact (m_undo 40 (xcells X2) D M (xcells_len X2)).mono (fun r h' ⟨x, e, e1⟩ => by
        rcases e1 with ⟨-, e2, e3⟩ | ⟨e2, -⟩
        · exact ⟨x, e, e2, M, e3, h⟩
        · exact absurd c e2)
  · refine pair_c (y0 := M.1 16) (Φ := fun X2 => FX X X2 0 ∧ SR X2 D 0 (imK M)) (hx.mono (fun r h' ⟨x, e, e1⟩ => ?_)) (fun X2 ⟨hf, hS⟩ => ?_)
    · rcases e1 with ⟨e2, -⟩ | ⟨-, e2, X2, e3, e4⟩
      · exact absurd (h14.symm.trans e2) c
      · exact ⟨x, e, e2, X2, e3, e4⟩
    · exact (m_undo 40 (xcells X2) D M (xcells_len X2)).mono (fun r h' ⟨x, e, e1⟩ => by
        rcases e1 with ⟨e2, -⟩ | ⟨-, e2, A, hA, e3⟩
        · exact absurd e2 c
        · exact ⟨x, e, e2, _, e3, h.undo c hf hS hA⟩)
theorem pr_feed (h : RR X M D) (s : Int32) : PairI qX11_feed qX12_feed [.int s] X M D := by
  obtain ⟨-, -, -, ⟨N, hT, h6⟩, -⟩ := id h
  have hN := hT.2.1
  have hx := x_feed 38 X M D N hN hT.1 s
  have hm := fun X2 : XZ => m_feed 39 (xcells X2) D M (xcells_len X2) s (c_in h6 hN (by decide))
  have e6 : pz (M.1 6) = N := by rw [h6]; exact pz5 N (by omega)
  by_cases c : 0 ≤ s ∧ s ≤ 127
  · by_cases c2 : N = 100
    · have es : sp_feed M s = (-4, M) := by unfold sp_feed; rw [if_pos c, if_pos (by rw [h6, c2]; rfl)]
      refine pair_c (y0 := -4) (Φ := fun X2 => X2 = X) (hx.mono (fun r h' ⟨x, e, e1⟩ => ?_)) (fun X2 e => ?_)
      · rcases e1 with ⟨-, -, e2, -⟩ | ⟨-, -, -, e2, e3⟩ | ⟨e2, -⟩
        · omega
        · exact ⟨x, e, e2, X, e3, rfl⟩
        · exact absurd c e2
      · subst e
        exact (hm X2).mono (fun r h' ⟨x, e, e1, e2⟩ => ⟨x, e, by rw [es] at e1; exact e1, M, by rw [es] at e2; exact e2, h⟩)
    · have es : sp_feed M s = (nI (N + 1), ms1 (msa M 6 N s) 6 (nI (N + 1))) := by
        unfold sp_feed
        have n6 : ¬ M.1 6 = 100 := fun w => c2 ((nI_eq (b := 100) (by omega) (by decide)).mp (h6.symm.trans w))
        rw [if_pos c, if_neg n6, e6, h6, nI_1]
      refine pair_c (y0 := nI (N + 1)) (Φ := fun X2 => X2 = x1 (xa X 27 N s) 26 (nI (N + 1))) (hx.mono (fun r h' ⟨x, e, e1⟩ => ?_)) (fun X2 e => ?_)
      · rcases e1 with ⟨-, -, e2, e3, e4⟩ | ⟨-, -, e2, -⟩ | ⟨e2, -⟩
        · exact ⟨x, e, e3, _, e4, rfl⟩
        · exact absurd e2 c2
        · exact absurd c e2
      · subst e
        exact (hm _).mono (fun r h' ⟨x, e, e1, e2⟩ => ⟨x, e, by rw [es] at e1; exact e1, _, by rw [es] at e2; exact e2, h.feed h6 (by omega) c⟩)
  · have es : sp_feed M s = (-2, M) := by unfold sp_feed; rw [if_neg c]
    refine pair_c (y0 := -2) (Φ := fun X2 => X2 = X) (hx.mono (fun r h' ⟨x, e, e1⟩ => ?_)) (fun X2 e => ?_)
    · rcases e1 with ⟨e2, e3, -⟩ | ⟨e2, e3, -⟩ | ⟨-, e2, e3⟩
      · exact absurd ⟨e2, e3⟩ c
      · exact absurd ⟨e2, e3⟩ c
      · exact ⟨x, e, e2, X, e3, rfl⟩
    · subst e
      exact (hm X2).mono (fun r h' ⟨x, e, e1, e2⟩ => ⟨x, e, by rw [es] at e1; exact e1, M, by rw [es] at e2; exact e2, h⟩)
theorem pr_server (h : RR X M D) (k v hd sf : Int32) : PairI qX11_server qX12_server [.int k, .int v, .int hd, .int sf] X M D := ⟨1, 3, (sp_server M k v hd sf).1, fun X2 D2 => ∃ E, D2 = D ++ E ∧ FX X X2 0 ∧ SR X2 (D ++ E) 0 (sp_server M k v hd sf).2, by decide, by decide, (x_server 35 X M D h.1 h.ki.1 h.zr k v hd sf).mono (fun r h' ⟨x, e, e1, X2, E, e2, e3⟩ => ⟨x, e, e1, X2, D ++ E, e2, E, rfl, e3⟩), fun X2 D2 ⟨E, e0, hf, hS⟩ => by
  subst e0
  exact (m_server 38 (xcells X2) (D ++ E) M (xcells_len X2) k v hd sf h.z).mono (fun r h' ⟨x, e, e1, e2⟩ => ⟨x, e, e1, _, e2, h.serv hf hS⟩)⟩
theorem pr_act (h : RR X M D) (p a x : Int32) : PairI qX11_act qX12_act [.int p, .int a, .int x] X M D := by
  obtain ⟨-, -, -, -, -, -, -, tr, hB, h22, hT⟩ := id h
  exact ⟨12, 180, (sp_act M p a x).1, fun X2 D2 => FB X D X2 D2 ∧ BO X2 D2 (sp_act M p a x).2, by decide, by decide, (x_act 26 X M D h.1 h.ki tr hB p a x).mono (fun r h' ⟨y, e, e1, X2, D2, e2, e3⟩ => ⟨y, e, e1, X2, D2, e2, e3⟩), fun X2 D2 ⟨hf, hB2⟩ => (m_act 32 (xcells X2) D2 M (xcells_len X2) p a x h.z).mono (fun r h' ⟨y, e, e1, g, hT2, e2⟩ => ⟨y, e, e1, _, e2, h.act hf hB2 hT2⟩)⟩
theorem pr_court (h : RR X M D) : PairI qX11_court qX12_court [] X M D := by
  obtain ⟨-, ⟨F, hF, c1, c2, hri, -⟩, -, ⟨N, hT, h6⟩, hL, hV, -⟩ := id h
  have hx := x_court 18 X M D F hF c1 hV (M.2.1 6) N hT (M.2.1 14) hL
  have hm := fun X2 : XZ => m_court2 33 (xcells X2) D M (xcells_len X2) (M.1 7) (M.1 8) (M.1 9) (M.1 10) (M.1 11) (M.2.1 12) (M.2.1 13) N h6 hT.2.1 hL.n1 F (by omega) c2
  simp only [pst_id] at hm
  by_cases e6 : F = 6
  · have e4 : M.1 4 = 6 := by rw [c2, e6]; rfl
    refine pair_c (y0 := -4) (Φ := fun X2 => X2 = X) (hx.mono (fun r h' ⟨x, e, e1⟩ => ?_)) (fun X2 e => ?_)
    · rcases e1 with ⟨-, e2, e3⟩ | ⟨e2, -⟩
      · exact ⟨x, e, e2, X, e3, rfl⟩
      · omega
    · subst e
      exact (hm X2).mono (fun r h' ⟨x, e, e1⟩ => by
        rcases e1 with ⟨-, e2, e3⟩ | ⟨e2, -⟩
        · exact ⟨x, e, e2, M, e3, h⟩
        · exact absurd e4 e2)
  · have hF6 : F < 6 := by omega
    have n4 : ¬ M.1 4 = 6 := fun w => e6 ((nI_eq (b := 6) (by omega) (by decide)).mp (c2.symm.trans w))
    by_cases g : (gtR (M.2.1 6) N (M.2.1 14) 10 0).1 = true
    · refine pair_c (y0 := nI F) (Φ := fun X2 => FCT X X2 F ∧ X2.1 26 = 0 ∧ X2.1 1 = nI (F + 1) ∧ X2.2.2.2.1 0 = .ref (53 + 5 * F) ∧ XC X2 F (gtR (M.2.1 6) N (M.2.1 14) 10 0).2.2) (hx.mono (fun r h' ⟨x, e, e1⟩ => ?_)) (fun X2 ⟨hf, h26, d1, d2, d3⟩ => ?_)
      · rcases e1 with ⟨e2, -⟩ | ⟨-, X2, e2, e3, e4, e5, -⟩
        · exact absurd e2 e6
        · exact ⟨x, e, (e5 g).1, X2, e2, e3, e4, (e5 g).2⟩
      · exact (hm X2).mono (fun r h' ⟨x, e, e1⟩ => by
          rcases e1 with ⟨e2, -⟩ | ⟨-, M4, hk, k6, e3, e4, -⟩
          · exact absurd e2 n4
          · obtain ⟨q1, q2, q3, q4, q5, q6⟩ := e4 g
            have hw := gtR_wf (T := M.2.1 6) (N := N) (LT := M.2.1 14) 10 0 g
            exact ⟨x, e, q1, M4, e3, h.court c2 hF6 hf h26 hk k6 (F2 := F + 1) ⟨by omega, by omega⟩ d1 q2 (Or.inr ⟨F, hF6, q3, d2⟩) (Or.inr ⟨F, by omega, q3⟩) (fun _ => ⟨rfl, _, ⟨hw.1, hw.2⟩, d3, q4, q6⟩)⟩)
    · refine pair_c (y0 := -10 - nI (gtR (M.2.1 6) N (M.2.1 14) 10 0).2.1) (Φ := fun X2 => FCT X X2 F ∧ X2.1 26 = 0 ∧ X2.1 1 = X.1 1 ∧ X2.2.2.2.1 0 = X.2.2.2.1 0) (hx.mono (fun r h' ⟨x, e, e1⟩ => ?_)) (fun X2 ⟨hf, h26, d1, d2⟩ => ?_)
      · rcases e1 with ⟨e2, -⟩ | ⟨-, X2, e2, e3, e4, -, e5⟩
        · exact absurd e2 e6
        · exact ⟨x, e, (e5 g).1, X2, e2, e3, e4, (e5 g).2⟩
      · exact (hm X2).mono (fun r h' ⟨x, e, e1⟩ => by
          rcases e1 with ⟨e2, -⟩ | ⟨-, M4, hk, k6, e3, -, e4⟩
          · exact absurd e2 n4
          · obtain ⟨q1, q2, q3⟩ := e4 g
            have hsc : SC X2 0 M4 := by
              have := h.1.2.2.2
              unfold SC at this ⊢
              rw [q3, d2]; exact this
            exact ⟨x, e, q1, M4, e3, h.court c2 hF6 hf h26 hk k6 (F2 := F) ⟨Nat.le_refl _, hF⟩ (d1.trans c1) (q2.trans c2) hsc (by rw [q3]; exact hri.2.2.2.2.2) (fun w => absurd w (Nat.lt_irrefl F))⟩)
end Pairs1
