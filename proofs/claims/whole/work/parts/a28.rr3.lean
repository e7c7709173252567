theorem RI.serv {F : Nat} {M : MZ} {k v hd sf : Int32} (h : RI F M) (hv : 0 ≤ v ∧ v ≤ 9) (hh : 0 ≤ hd ∧ hd ≤ 9) (hs : 0 ≤ sf ∧ sf ≤ 9) (h4 : ¬ M.1 0 = 4) : RI F (mserv M k v hd sf) := by
  obtain ⟨⟨⟨m1, m2, m3⟩, k1, k2, k3, k4⟩, s, r1, ⟨n, n1, n2, n3⟩, z, c⟩ := h
  obtain ⟨j, hj, h0⟩ := bw_of (m := 4) (n := 4) (by decide) m1
  have hj4 : j ≠ 4 := fun e => h4 (by rw [h0, e]; rfl)
  have ej : pz (M.1 0) = j := by rw [h0]; exact pz5 j (by omega)
  have e0 : (mserv M k v hd sf).1 0 = nI (j + 1) := by
    show M.1 0 + 1 = _
    rw [h0, nI_1]
  have e5 : (mserv M k v hd sf).2.1 5 = fil (M.2.1 5) (4 * j) 4 (fun _ => 0) := by rw [← ej]; rfl
  have e4 : (mserv M k v hd sf).2.1 4 = upd (M.2.1 4) j 0 := by rw [← ej]; rfl
  refine ⟨⟨⟨?_, m2, m3⟩, upd_in k1 ⟨by decide, by decide⟩, upd_in k2 hh, upd_in k3 hs, upd_in k4 hv⟩, s, fun i hi => ?_, ⟨n, n1, n2, fun q hq => ?_⟩, fun i hi hl => ?_, c⟩
  · rw [e0]; exact ⟨Int32.not_lt.mp (nI_pos (by omega)), nI_le (b := 4) (by omega) (by decide)⟩
  · rw [e5]
    unfold fil
    split
    · show (0 : Int32) ≤ 0 ∧ (0 : Int32) ≤ 9
      exact ⟨by decide, by decide⟩
    · exact r1 i hi
  · have h9 : isS M (M.2.1 20 q) := n3 q hq
    obtain ⟨-, -, hlt⟩ := isS_nat m1 h9
    refine ⟨h9.1, ?_⟩
    show M.2.1 20 q ≤ (mserv M k v hd sf).1 0 - 1
    rw [e0, nI_pred, ← h0]
    obtain ⟨e9, -, -⟩ := isS_nat m1 h9
    rw [e9]
    exact Int32.le_of_lt hlt
  · rw [e0] at hl
    have hij : j + 1 ≤ i := Nat.not_lt.mp fun z => hl (nI_lt z (by omega))
    have hz := z i hi (by rw [h0]; exact Int32.not_lt.mpr (nI_le (by omega) (by omega)))
    refine ⟨?_, fun r hr => ?_⟩
    · rw [e4]
      simp only [upd]
      rw [if_neg (by omega)]
      exact hz.1
    · rw [e5]
      unfold fil
      rw [if_neg (by omega)]
      exact hz.2 r hr
theorem RR.serv {X X2 : XZ} {M : MZ} {D E : HP} {k v hd sf : Int32} (h : RR X M D) (hf : FX X X2 0) (hS : SR X2 (D ++ E) 0 (sp_server M k v hd sf).2) : RR X2 (sp_server M k v hd sf).2 (D ++ E) := by
  refine h.fg hf.fg hS ?_ (fun F hF _ => ?_)
  · unfold sp_server mborn
    split
    · split
      · split
        · split
          · split
            · exact MS.rf M
            · exact (((((((MS.rf M).pa (by decide)).pa (by decide)).pa (by decide)).pa (by decide)).pa (by decide)).pr (by decide)).p1 (by decide)
          · exact MS.rf M
        · exact MS.rf M
      · exact MS.rf M
    · exact MS.rf M
  · unfold sp_server
    split
    · split
      · rename_i hv
        split
        · rename_i hh
          split
          · rename_i hs
            split
            · exact hF
            · rename_i h4
              exact hF.serv hv hh hs h4
          · exact hF
        · exact hF
      · exact hF
    · exact hF
theorem SR.eqx {X X2 : XZ} {D : HP} {w : Nat} {K : MZ} (h1 : ∀ k, 8 * w + 2 ≤ k → k < 8 * w + 8 → X2.1 k = X.1 k) (h2 : ∀ j, 9 * w ≤ j → j < 9 * w + 9 → X2.2.1 j = X.2.1 j) (h3 : X2.2.2.2.1 w = X.2.2.2.1 w) (h4 : X2.2.2.2.2 w = X.2.2.2.2 w) (h : SR X D w K) : SR X2 D w K := by
  obtain ⟨⟨a1, a2, a3, a4, a5, a6⟩, ⟨b1, b2, b3, b4, b5, b6, b7, b8⟩, hS, hC⟩ := h
  refine ⟨⟨?_, ?_, ?_, ?_, ?_, ?_⟩, ⟨?_, ?_, ?_, ?_, ?_, ?_, ?_, ?_⟩, ?_, ?_⟩
  any_goals (rw [h1 _ (by omega) (by omega)]; assumption)
  any_goals (rw [h2 _ (by omega) (by omega)]; assumption)
  · unfold SS; rw [h4]; exact hS
  · unfold SC; rw [h3]; exact hC
/-- image() and undo() -/
theorem im_sit {M : MZ} {A : Nat → Nat → Int32} (hA : IMG M.2.1 A) : SIT M (imS M.1, A, M.2.2) := ⟨fun k hk => by rcases hk with rfl | rfl | rfl | rfl | rfl | rfl | rfl <;> rfl, fun j i hj _ => congrFun (hA.1 j (by omega)) i, fun i _ => congrFun (hA.1 5 (by omega)) i, fun j i hj _ => congrFun (hA.1 j (by omega)) i, fun j i h1 h2 _ => congrFun (hA.1 j (by omega)) i⟩
theorem im_sit2 {M : MZ} {A : Nat → Nat → Int32} (hA : IMG M.2.1 A) : SIT M (imK (imS M.1, A, M.2.2)) := by
  refine ⟨fun k hk => by rcases hk with rfl | rfl | rfl | rfl | rfl | rfl | rfl <;> rfl, fun j i hj hi => ?_, fun i hi => ?_, fun j i hj hi => ?_, fun j i h1 h2 hi => ?_⟩
  · show imA A j i = _
    unfold imA
    rw [if_pos hj]
    exact hA.2.1 j i hj hi
  · show imA A 5 i = _
    exact hA.2.2.1 i hi
  · show imA A j i = _
    unfold imA
    rw [if_neg (by omega), if_neg (by omega), if_pos (by omega)]
    obtain ⟨r, hr, rfl⟩ : ∃ r, r < 2 ∧ j = r + 18 := ⟨j - 18, by omega, by omega⟩
    exact hA.2.2.2.1 r i hr hi
  · show imA A j i = _
    unfold imA
    rw [if_neg (by omega), if_neg (by omega), if_pos (by omega)]
    obtain ⟨r, hr, rfl⟩ : ∃ r, r < 3 ∧ j = r + 20 := ⟨j - 20, by omega, by omega⟩
    exact hA.2.2.2.2 r i hr hi
theorem un_sit {M : MZ} {A : Nat → Nat → Int32} (hA : IMU M.2.1 A) : SIT (imK M) (unS M.1, A, M.2.2) := by
  refine ⟨fun _ _ => rfl, fun j i hj hi => ?_, fun i hi => ?_, fun j i hj hi => ?_, fun j i h1 h2 hi => ?_⟩
  · show _ = imA M.2.1 j i
    unfold imA
    rw [if_pos hj]
    exact hA.2.1 j i hj hi
  · show _ = imA M.2.1 5 i
    exact hA.2.2.1 i hi
  · show _ = imA M.2.1 j i
    unfold imA
    rw [if_neg (by omega), if_neg (by omega), if_pos (by omega)]
    obtain ⟨r, hr, rfl⟩ : ∃ r, r < 2 ∧ j = r + 18 := ⟨j - 18, by omega, by omega⟩
    exact hA.2.2.2.1 r i hr hi
  · show _ = imA M.2.1 j i
    unfold imA
    rw [if_neg (by omega), if_neg (by omega), if_pos (by omega)]
    obtain ⟨r, hr, rfl⟩ : ∃ r, r < 3 ∧ j = r + 20 := ⟨j - 20, by omega, by omega⟩
    exact hA.2.2.2.2 r i hr hi
theorem imS_ne {f : Nat → Int32} {k : Nat} (h : k < 14 ∨ 21 < k) : imS f k = f k := by
  unfold imS
  simp only [upd]
  rw [if_neg (by omega), if_neg (by omega), if_neg (by omega), if_neg (by omega), if_neg (by omega), if_neg (by omega), if_neg (by omega), if_neg (by omega)]
theorem RR.image {X X2 : XZ} {M : MZ} {D : HP} {A : Nat → Nat → Int32} (h : RR X M D) (hf : FX X X2 1) (hS : SR X2 D 1 M) (hA : IMG M.2.1 A) : RR (x1 X2 0 1) (imS M.1, A, M.2.2) D := by
  obtain ⟨h1, ⟨F, hF, hc1, hc2, hri, him, hcr⟩, h14, ⟨N, hT, h6⟩, hL, hV, hP, tr, hB, h22, hTR⟩ := h
  have hx : ∀ k, k ≠ 0 → (x1 X2 0 1).1 k = X2.1 k := fun k hk => if_neg hk
  refine ⟨(SR.eqx (fun k a b => hx k (by omega)) (fun _ _ _ => rfl) rfl rfl (hf.sr (by decide) h1)).sit (im_sit hA), ⟨F, hF, ?_, ?_, hri.sit (im_sit hA), fun _ => ⟨(SR.eqx (fun k a b => hx k (by omega)) (fun _ _ _ => rfl) rfl rfl hS).sit (im_sit2 hA), hri.sit (im_sit2 hA)⟩, fun f hf2 => ?_⟩, rfl, ⟨N, ⟨?_, hT.2.1, fun i hi => ?_⟩, ?_⟩, ?_, ?_, ?_, tr, ?_, ?_, ?_⟩
  · rw [hx 1 (by decide), hf.1 1 (by omega)]; exact hc1
  · exact (imS_ne (by omega)).trans hc2
  · obtain ⟨cl, c1, c2, c3, c4⟩ := hcr f hf2
    refine ⟨cl, c1, c2.eq ((hx _ (by omega)).trans (hf.1 _ (by omega))) (fun j hj => hf.2.1 j (by omega)), ?_, c4.cg (fun j a b => hA.1 j (by omega))⟩
    show A 7 f = _
    rw [hA.1 7 (by omega)]; exact c3
  · rw [hx 26 (by decide), hf.1 26 (by omega)]; exact hT.1
  · show X2.2.1 27 i = A 6 i ∧ _
    rw [hf.2.1 27 (by omega)]
    show X.2.1 27 i = A 6 i ∧ 0 ≤ A 6 i ∧ A 6 i ≤ 127
    rw [hA.1 6 (by omega)]; exact hT.2.2 i hi
  · exact (imS_ne (by omega)).trans h6
  · show LTV (A 14)
    rw [hA.1 14 (by omega)]; exact hL
  · exact hV.eq (fun k hk => hf.2.2.2.2 k (by omega))
  · exact hP.eq (fun k a b => (hx k (by omega)).trans (hf.1 k (by omega))) hf.2.2.1 (hA.1 36 (by omega)) (hA.1 37 (by omega)) rfl
  · exact hB.eq ((hx 53 (by decide)).trans (hf.1 53 (by omega))) (hf.2.2.2.1 3 (by omega))
  · exact (imS_ne (by omega)).trans h22
  · show TRo tr (A 35)
    rw [hA.1 35 (by omega)]; exact hTR
theorem RR.undo {X X2 : XZ} {M : MZ} {D : HP} {A : Nat → Nat → Int32} (h : RR X M D) (h14 : ¬ M.1 14 = 0) (hf : FX X X2 0) (hS : SR X2 D 0 (imK M)) (hA : IMU M.2.1 A) : RR X2 (unS M.1, A, M.2.2) D :=
  app_nil (P := RR X2 (unS M.1, A, M.2.2)) (h.fg hf.fg (by rw [List.append_nil]; exact hS.sit (un_sit hA)) ⟨fun k hk => unS_ne (by omega), fun j hj => hA.1 j (by omega), rfl⟩ (fun F _ z => (z h14).sit (un_sit hA)))
/-- feed() -/
theorem RR.feed {X : XZ} {M : MZ} {D : HP} {N : Nat} {s : Int32} (h : RR X M D) (h6 : M.1 6 = nI N) (hN : N < 100) (hs : 0 ≤ s ∧ s ≤ 127) : RR (x1 (xa X 27 N s) 26 (nI (N + 1))) (ms1 (msa M 6 N s) 6 (nI (N + 1))) D := by
  obtain ⟨h1, ⟨F, hF, hc1, hc2, hri, him, hcr⟩, h14, ⟨N2, hT, h62⟩, hL, hV, hP, tr, hB, h22, hTR⟩ := h
  obtain rfl : N2 = N := (nI_eq (by have := hT.2.1; omega) (by omega)).mp (h62.symm.trans h6)
  have hx : ∀ k, k ≠ 26 → (x1 (xa X 27 N2 s) 26 (nI (N2 + 1))).1 k = X.1 k := fun k hk => if_neg hk
  have hr : ∀ j, j ≠ 27 → (x1 (xa X 27 N2 s) 26 (nI (N2 + 1))).2.1 j = X.2.1 j := fun j hj => xa_ne hj
  have hm : ∀ k, k ≠ 6 → (ms1 (msa M 6 N2 s) 6 (nI (N2 + 1))).1 k = M.1 k := fun k hk => if_neg hk
  have hj : ∀ j, j ≠ 6 → (ms1 (msa M 6 N2 s) 6 (nI (N2 + 1))).2.1 j = M.2.1 j := fun j hj => msa_ne hj
  have hst : SIT M (ms1 (msa M 6 N2 s) 6 (nI (N2 + 1))) := ⟨fun k hk => hm k (by omega), fun j i a _ => congrFun (hj j (by omega)) i, fun i _ => congrFun (hj 5 (by omega)) i, fun j i a _ => congrFun (hj j (by omega)) i, fun j i a b _ => congrFun (hj j (by omega)) i⟩
  refine ⟨(SR.eqx (fun k a b => hx k (by omega)) (fun j a b => hr j (by omega)) rfl rfl h1).sit hst, ⟨F, hF, (hx 1 (by decide)).trans hc1, (hm 4 (by decide)).trans hc2, hri.sit hst, fun h0 => ?_, fun f hf2 => ?_⟩, ?_, ⟨N2 + 1, ⟨x1_at _ _ _, by omega, fun i hi => ?_⟩, rfl⟩, ?_, hV, hP.eq (fun k a b => hx k (by omega)) rfl (hj 36 (by decide)) (hj 37 (by decide)) rfl, tr, hB.eq (hx 53 (by decide)) rfl, (hm 22 (by decide)).trans h22, ?_⟩
  · rw [hm 14 (by decide)] at h0
    have hs2 : SIT (imK M) (imK (ms1 (msa M 6 N2 s) 6 (nI (N2 + 1)))) := SIT.im (fun k a b => hm k (by omega)) (fun j a b => hj j (by omega))
    exact ⟨(SR.eqx (fun k a b => hx k (by omega)) (fun j a b => hr j (by omega)) rfl rfl (him h0).1).sit hs2, (him h0).2.sit hs2⟩
  · obtain ⟨cl, c1, c2, c3, c4⟩ := hcr f hf2
    exact ⟨cl, c1, c2.eq (hx _ (by omega)) (fun j hj2 => hr j (by omega)), by rw [hj 7 (by decide)]; exact c3, c4.cg (fun j a b => hj j (by omega))⟩
  · rw [hx 0 (by decide), hm 14 (by decide)]; exact h14
  · show (xa X 27 N2 s).2.1 27 i = (msa M 6 N2 s).2.1 6 i ∧ 0 ≤ (msa M 6 N2 s).2.1 6 i ∧ (msa M 6 N2 s).2.1 6 i ≤ 127
    rw [xa_at, msa_at]
    simp only [upd]
    by_cases e : i = N2
    · rw [if_pos e, if_pos e]; exact ⟨rfl, hs⟩
    · rw [if_neg e, if_neg e]; exact hT.2.2 i (by omega)
  · rw [hj 14 (by decide)]; exact hL
  · rw [hj 35 (by decide)]; exact hTR
/-- the tapes -/
theorem RR.tp {X X2 : XZ} {M M2 : MZ} {D : HP} (h : RR X M D) (hf : FT X X2) (hP2 : RP X2 M2) (m1 : M2.1 = M.1) (m2 : ∀ j, j ≠ 36 ∧ j ≠ 37 → M2.2.1 j = M.2.1 j) : RR X2 M2 D := by
  obtain ⟨h1, ⟨F, hF, hc1, hc2, hri, him, hcr⟩, h14, ⟨N, hT, h6⟩, hL, hV, hP, tr, hB, h22, hTR⟩ := h
  have hst : SIT M M2 := ⟨fun k _ => congrFun m1 k, fun j i a _ => congrFun (m2 j (by omega)) i, fun i _ => congrFun (m2 5 (by omega)) i, fun j i a _ => congrFun (m2 j (by omega)) i, fun j i a b _ => congrFun (m2 j (by omega)) i⟩
  have f4 : X2.2.2.2.1 = X.2.2.2.1 := congrArg (fun z => z.1) hf.2.2
  have f5 : X2.2.2.2.2 = X.2.2.2.2 := congrArg (fun z => z.2) hf.2.2
  refine ⟨(SR.eqx (fun k a b => hf.1 k (by omega)) (fun j a b => congrFun hf.2.1 j) (by rw [f4]) (by rw [f5]) h1).sit hst, ⟨F, hF, (hf.1 1 (by omega)).trans hc1, (congrFun m1 4).trans hc2, hri.sit hst, fun h0 => ?_, fun f hf2 => ?_⟩, ?_, ⟨N, ⟨(hf.1 26 (by omega)).trans hT.1, hT.2.1, fun i hi => ?_⟩, (congrFun m1 6).trans h6⟩, ?_, hV.eq (fun k _ => by rw [f5]), hP2, tr, hB.eq (hf.1 53 (by omega)) (by rw [f4]), (congrFun m1 22).trans h22, ?_⟩
  · rw [congrFun m1 14] at h0
    have hs2 : SIT (imK M) (imK M2) := SIT.im (fun k a b => congrFun m1 k) (fun j a b => m2 j (by omega))
    exact ⟨(SR.eqx (fun k a b => hf.1 k (by omega)) (fun j a b => congrFun hf.2.1 j) (by rw [f4]) (by rw [f5]) (him h0).1).sit hs2, (him h0).2.sit hs2⟩
  · obtain ⟨cl, c1, c2, c3, c4⟩ := hcr f hf2
    exact ⟨cl, c1, c2.eq (hf.1 _ (by omega)) (fun j _ => congrFun hf.2.1 j), by rw [m2 7 (by omega)]; exact c3, c4.cg (fun j a b => m2 j (by omega))⟩
  · rw [hf.1 0 (by omega), congrFun m1 14]; exact h14
  · rw [congrFun hf.2.1 27, m2 6 (by omega)]; exact hT.2.2 i hi
  · rw [m2 14 (by omega)]; exact hL
  · rw [m2 35 (by omega)]; exact hTR
/-- act() -/
theorem RR.act {X X2 : XZ} {M : MZ} {D D2 : HP} {tr2 : List Int32} {g : Nat → Int32} (h : RR X M D) (hf : FB X D X2 D2) (hB2 : BO X2 D2 tr2) (hT2 : TRo tr2 g) : RR X2 (mtr M tr2 g) D2 := by
  obtain ⟨h1, ⟨F, hF, hc1, hc2, hri, him, hcr⟩, h14, ⟨N, hT, h6⟩, hL, hV, hP, tr, hB, h22, hTR⟩ := h
  have hm : ∀ k, k ≠ 22 → (mtr M tr2 g).1 k = M.1 k := fun k hk => if_neg hk
  have hj : ∀ j, j ≠ 35 → (mtr M tr2 g).2.1 j = M.2.1 j := fun j hj => if_neg hj
  have hst : SIT M (mtr M tr2 g) := ⟨fun k hk => hm k (by omega), fun j i a _ => congrFun (hj j (by omega)) i, fun i _ => congrFun (hj 5 (by omega)) i, fun j i a _ => congrFun (hj j (by omega)) i, fun j i a b _ => congrFun (hj j (by omega)) i⟩
  refine ⟨(hf.sr (by decide) h1).sit hst, ⟨F, hF, (hf.1 1 (by decide) (by decide)).trans hc1, (hm 4 (by decide)).trans hc2, hri.sit hst, fun h0 => ?_, fun f hf2 => ?_⟩, ?_, ⟨N, ⟨(hf.1 26 (by decide) (by decide)).trans hT.1, hT.2.1, fun i hi => ?_⟩, (hm 6 (by decide)).trans h6⟩, ?_, hV.eq (fun k _ => congrFun hf.2.2.2.2.1 k), hP.eq (fun k a b => hf.1 k (by omega) (by omega)) hf.2.2.1 (hj 36 (by decide)) (hj 37 (by decide)) rfl, tr2, hB2, show upd M.1 22 (nI tr2.length) 22 = _ from if_pos rfl, ?_⟩
  · rw [hm 14 (by decide)] at h0
    have hs2 : SIT (imK M) (imK (mtr M tr2 g)) := SIT.im (fun k a b => hm k (by omega)) (fun j a b => hj j (by omega))
    exact ⟨(hf.sr (by decide) (him h0).1).sit hs2, (him h0).2.sit hs2⟩
  · obtain ⟨cl, c1, c2, c3, c4⟩ := hcr f hf2
    exact ⟨cl, c1, c2.eq (hf.1 _ (by omega) (by omega)) (fun j _ => congrFun hf.2.1 j), by rw [hj 7 (by decide)]; exact c3, c4.cg (fun j a b => hj j (by omega))⟩
  · rw [hf.1 0 (by decide) (by decide), hm 14 (by decide)]; exact h14
  · rw [congrFun hf.2.1 27, hj 6 (by decide)]; exact hT.2.2 i hi
  · rw [hj 14 (by decide)]; exact hL
  · show TRo tr2 (va_up M.2.1 35 g 35)
    rw [show va_up M.2.1 35 g 35 = g from if_pos rfl]; exact hT2
/-- court() -/
theorem RI.mono {F G : Nat} {M : MZ} (h : RI F M) (hg : F ≤ G) : RI G M := by
  obtain ⟨a, b, c, d, e, f⟩ := h
  exact ⟨a, b, c, d, e, f.imp id fun ⟨x, h1, h2⟩ => ⟨x, by omega, h2⟩⟩
theorem RI.p5 {F : Nat} {M : MZ} {v : Int32} (h : RI F M) (hv : v < 0 ∨ ∃ f : Nat, f < F ∧ v = nI f) : RI F (ms1 M 5 v) := by
  obtain ⟨a, b, c, d, e, f⟩ := h
  exact ⟨a, b, c, d, e, hv⟩
theorem XCC.eqc {X X2 : XZ} {c : Nat} (h : ∀ j, 40 + 4 * c ≤ j → j ≤ 40 + 4 * c + 3 → X2.2.1 j = X.2.1 j) : ∀ {cl : CLs} {fr i : Nat}, XCC X c fr i cl → XCC X2 c fr i cl
  | [], _, _, _ => trivial
  | r :: cl, fr, i, hx => by
    obtain ⟨⟨a1, a2, a3, a4, a5⟩, a6⟩ := hx
    refine ⟨⟨?_, ?_, ?_, a4, fun j hj => ?_⟩, XCC.eqc h a6⟩
    · rw [h _ (by omega) (by omega)]; exact a1
    · rw [h _ (by omega) (by omega)]; exact a2
    · rw [h _ (by omega) (by omega)]; exact a3
    · rw [h _ (by omega) (by omega)]; exact a5 j hj
theorem RR.court {X X2 : XZ} {M M4 : MZ} {D : HP} {F F2 : Nat} (h : RR X M D) (hF0 : M.1 4 = nI F) (hF6 : F < 6) (hf : FCT X X2 F) (h26 : X2.1 26 = 0) (hk : KO M M4 F) (h6 : M4.1 6 = 0) (hF2 : F ≤ F2 ∧ F2 ≤ 6) (c1 : X2.1 1 = nI F2) (c2 : M4.1 4 = nI F2) (hSC : SC X2 0 M4) (h5 : M4.1 5 < 0 ∨ ∃ f : Nat, f < F2 ∧ M4.1 5 = nI f) (hnew : F < F2 → F2 = F + 1 ∧ ∃ cl, CLW cl ∧ XC X2 F cl ∧ M4.2.1 7 F = nI cl.length ∧ CCB M4 (100 * F + 100) (10 * F) cl) : RR X2 M4 D := by
  obtain ⟨h1, ⟨G, hG, hc1, hc2, hri, him, hcr⟩, h14, ⟨N, hT, h62⟩, hL, hV, hP, tr, hB, h22, hTR⟩ := h
  obtain rfl : G = F := (nI_eq (by omega) (by omega)).mp (hc2.symm.trans hF0)
  obtain ⟨f1, f2, f3, f4, f5⟩ := hf
  obtain ⟨k1, k2, k3, k4, k5, k6⟩ := hk
  have hst : SIT (ms1 M 5 (M4.1 5)) M4 := by
    refine ⟨fun k hk => ?_, fun j i a _ => congrFun (k3 j (by omega)) i, fun i _ => congrFun (k3 5 (by omega)) i, fun j i a _ => congrFun (k3 j (by omega)) i, fun j i a b _ => congrFun (k3 j (by omega)) i⟩
    show M4.1 k = upd M.1 5 (M4.1 5) k
    simp only [upd]
    by_cases e : k = 5
    · rw [if_pos e, e]
    · rw [if_neg e]; exact k2 k (by omega)
  have hsr : SR X2 D 0 M4 := by
    obtain ⟨⟨a1, a2, a3, a4, a5, a6⟩, ⟨b1, b2, b3, b4, b5, b6, b7, b8⟩, hS, hC⟩ := h1
    refine ⟨⟨?_, ?_, ?_, ?_, ?_, ?_⟩, ⟨?_, ?_, ?_, ?_, ?_, ?_, ?_, ?_⟩, ?_, hSC⟩
    any_goals (rw [f1 _ (by omega) (by omega) (by omega) (by omega) (by omega), k2 _ (by omega)]; assumption)
    any_goals (rw [f2 _ (by omega), k3 _ (by omega)]; assumption)
    · rw [f2 _ (by omega), k3 18 (by omega), k3 19 (by omega)]; exact b5
    · refine ⟨fun i hi hl => ?_, fun i hi hl => ?_⟩
      · rw [k2 0 (by omega)] at hl
        rw [f5, k3 0 (by omega), k3 1 (by omega)]
        exact hS.1 i hi hl
      · rw [k2 0 (by omega)] at hl
        rw [f5]
        exact hS.2 i hi hl
  refine ⟨hsr, ⟨F2, hF2.2, c1, c2, ((hri.mono hF2.1).p5 h5).sit hst, fun h0 => ?_, fun f hf2 => ?_⟩, ?_, ⟨0, ⟨h26, by decide, fun i hi => absurd hi (Nat.not_lt_zero i)⟩, h6⟩, ?_, hV.eq (fun k _ => by rw [f5]), ?_, tr, hB.eq (f1 53 (by omega) (by omega) (by omega) (by omega) (by omega)) (f4 3 (by decide)), (k2 22 (by omega)).trans h22, ?_⟩
  · rw [k2 14 (by omega)] at h0
    have hs2 : SIT (imK M) (imK M4) := SIT.im (fun k a b => k2 k (by omega)) (fun j a b => k3 j (by omega))
    exact ⟨(SR.eqx (fun k a b => f1 k (by omega) (by omega) (by omega) (by omega) (by omega)) (fun j a b => f2 j (by omega)) (f4 1 (by decide)) (by rw [f5]) (him h0).1).sit hs2, ((him h0).2.mono hF2.1).sit hs2⟩
  · by_cases e : f < G
    · obtain ⟨cl, c1, c2, c3, c4⟩ := hcr f e
      refine ⟨cl, c1, ⟨(f1 _ (by omega) (by omega) (by omega) (by omega) (by omega)).trans c2.1, c2.2.eqc (fun j a b => f2 j (by omega))⟩, by rw [k4 f (by omega)]; exact c3, c4.keep (fun i hi => k6 i (by omega)) (fun j i h8 h11 hi => k5 j i h8 h11 (by have := c1.1; omega))⟩
    · obtain ⟨e2, cl, n1, n2, n3, n4⟩ := hnew (by omega)
      obtain rfl : f = G := by omega
      exact ⟨cl, n1, n2, n3, n4⟩
  · rw [f1 0 (by omega) (by omega) (by omega) (by omega) (by omega), k2 14 (by omega)]; exact h14
  · rw [k3 14 (by omega)]; exact hL
  · exact hP.eq (fun k a b => f1 k (by omega) (by omega) (by omega) (by omega) (by omega)) f3 (k3 36 (by omega)) (k3 37 (by omega)) (by rw [k1])
  · rw [k3 35 (by omega)]; exact hTR
