/-- the sides as they are made are related -/
theorem rr0 : RR xz0 mz0 [] := by
  have z0 : (0 : Int32) ≤ 0 := by decide
  have z9 : (0 : Int32) ≤ 9 := by decide
  refine ⟨⟨⟨rfl, rfl, rfl, rfl, rfl, rfl⟩, ⟨fun _ _ => rfl, fun _ _ => rfl, fun _ _ => rfl, fun _ _ => rfl, fun _ _ => rfl, fun _ _ => rfl, fun _ _ => rfl, fun _ _ => rfl⟩, ⟨fun i hi hl => absurd (show nI i < 0 from hl) (nI_pos (by omega)), fun i hi hl => Or.inl rfl⟩, Or.inl ⟨show (-1 : Int32) < 0 by decide, rfl⟩⟩, ⟨0, by decide, rfl, rfl, ?_, fun h => absurd rfl h, fun f hf => absurd hf (Nat.not_lt_zero f)⟩, rfl, ⟨0, ⟨rfl, by decide, fun i hi => absurd hi (Nat.not_lt_zero i)⟩, rfl⟩, ⟨rfl, rfl, rfl, rfl, rfl, rfl, rfl, rfl⟩, ⟨?_, ?_, ?_, ?_⟩, ?_, [], BO.nil0 rfl rfl, rfl, fun j hj => absurd hj (Nat.not_lt_zero j)⟩
  · refine ⟨⟨⟨⟨z0, show (0 : Int32) ≤ 4 by decide⟩, ⟨z0, show (0 : Int32) ≤ 4 by decide⟩, ⟨z0, show (0 : Int32) ≤ 4 by decide⟩⟩, fun _ _ => ⟨z0, show (0 : Int32) ≤ 9999 by decide⟩, fun _ _ => ⟨z0, z9⟩, fun _ _ => ⟨z0, z9⟩, fun _ _ => ⟨z0, z9⟩⟩, ⟨⟨0, by decide, rfl⟩, fun _ _ => ⟨⟨z0, z9⟩, ⟨z0, z9⟩⟩⟩, fun _ _ => ⟨z0, z9⟩, ⟨0, by decide, rfl, fun j hj => absurd hj (Nat.not_lt_zero j)⟩, fun _ _ _ => ⟨rfl, fun _ _ => rfl⟩, Or.inl (show (-1 : Int32) < 0 by decide)⟩
  · exact fun c hc => match c, hc with | 0, _ | 1, _ | 2, _ | 3, _ | 4, _ | 5, _ => rfl
  · exact fun c hc => match c, hc with | 0, _ | 1, _ | 2, _ | 3, _ | 4, _ | 5, _ => rfl
  · exact fun a _ => rfl
  · exact fun a _ => rfl
  · exact fun t ht => match t, ht with | 0, _ | 1, _ | 2, _ | 3, _ | 4, _ | 5, _ => ⟨rfl, rfl, ⟨show (-1 : Int32) ≤ -1 by decide, show (-1 : Int32) ≤ 4 by decide⟩, ⟨z0, show (0 : Int32) ≤ 60 by decide⟩, fun _ => rfl, fun _ _ => rfl⟩
set_option maxRecDepth 100000 in
theorem l_body {sb sL : Nat} {sx : Nat → Int32} (hL : sL ≤ 3072) : SemL sb sL sx 41 qLaw 6280 95718 0 [(0, .float 400)] [] [] := by
  refine zl_new (N := 13) (ci := 13) (fs := [.null, .null, .null, .int 0, .null, .null, .int 0, .null, .null, .null, .null, .null, .null]) tyX11 tyX11_ok dL_law_0 rfl uw_X11 m101 m102 m72 rfl (fun _ j hj => match j, hj with | 0, _ | 1, _ | 2, _ | 3, _ | 4, _ | 5, _ | 6, _ | 7, _ | 8, _ | 9, _ | 10, _ | 11, _ | 12, _ => rfl | k + 13, hj => absurd hj (by omega)) ?_
  show SemL sb sL sx 41 qLaw 6279 95705 3 [(0, .float 400)] [.ref 0] [.inr (13, [.null, .null, .null, .int 0, .null, .null, .int 0, .null, .null, .null, .null, .null, .null])]
  refine zl_dup dL_law_3 rfl ?_
  refine zl_I0vm (mc := 6185) (ms := 94040) ci_L_9 rfl dL_law_4 (Nat.le_of_ble_eq_true rfl) (i_X11 (d := 36)) rfl rfl (fun h1 q1 => ?_)
  obtain rfl := q1
  refine zl_astore_nr dL_law_7 (by decide) rfl ?_
  refine zl_new (N := 63) (ci := 14) (fs := [.int 0, .int 0, .int 0, .int 0, .null, .null, .null, .null, .null, .null, .int 0, .int 0, .int 0, .int 0, .int 0, .null, .null, .null, .null, .null, .null, .null, .null, .int 0, .int 0, .int 0, .null, .null, .null, .null, .int 0, .null, .null, .int 0, .null, .null, .null, .null, .int 0, .int 0, .int 0, .int 0, .int 0, .int 0, .int 0, .int 0, .null, .null, .null, .null, .null, .null, .null, .null, .null, .null, .null, .int 0, .null, .null, .null, .null, .null]) tyX12 tyX12_ok dL_law_8 rfl uw_X12 m1150 m1151 m81 rfl (fun _ j hj => match j, hj with | 0, _ | 1, _ | 2, _ | 3, _ | 4, _ | 5, _ | 6, _ | 7, _ | 8, _ | 9, _ | 10, _ | 11, _ | 12, _ | 13, _ | 14, _ | 15, _ | 16, _ | 17, _ | 18, _ | 19, _ | 20, _ | 21, _ | 22, _ | 23, _ | 24, _ | 25, _ | 26, _ | 27, _ | 28, _ | 29, _ | 30, _ | 31, _ | 32, _ | 33, _ | 34, _ | 35, _ | 36, _ | 37, _ | 38, _ | 39, _ | 40, _ | 41, _ | 42, _ | 43, _ | 44, _ | 45, _ | 46, _ | 47, _ | 48, _ | 49, _ | 50, _ | 51, _ | 52, _ | 53, _ | 54, _ | 55, _ | 56, _ | 57, _ | 58, _ | 59, _ | 60, _ | 61, _ | 62, _ => rfl | k + 63, hj => absurd hj (by omega)) ?_
  rw [xcells_len]
  refine zl_dup dL_law_11 rfl ?_
  refine zl_I0vm (mc := 6144) (ms := 92160) ci_L_12 rfl dL_law_12 (Nat.le_of_ble_eq_true rfl) (i_X12 39 (xcells xz0) (xcells_len xz0)) rfl rfl (fun h2 q2 => ?_)
  obtain rfl := q2
  refine zl_astore_nr dL_law_15 (by decide) rfl ?_
  refine zl_iconst (v := 0) dL_law_16 (by decide) ?_
  refine zl_istore_n dL_law_17 (by decide) rfl ?_
  have e : xcells xz0 ++ mcells mz0 = xh xz0 mz0 [] := by
    unfold xh mh
    rw [List.append_nil]
  rw [e]
  exact l_loop hL 512 0 xz0 mz0 [] rfl rr0
