section BornR
variable {d mc ms pc : Nat} {q : QM} {L : List (Nat × Value)} {st : List Value} {h : HP} {Qp : PO}
theorem pS_X3_7 {n : Nat} {k9 : Int32} (hk : 0 ≤ k9 ∧ k9 ≤ 6) {fs : List Value} (hc : h[n]? = some (.inr (kci k9, fs))) (hl : fs.length = 3) {v : Int32} (hd : decode q.2.1 pc = .ok (.putfield 7, 3)) (hown : q.1.cls = RX3) (hin : q.1.name = "<init>") (kk : Sem d q mc ms (pc + 3) L st (h.set n (.inr (kci k9, fs.set 0 (.int v)))) Qp) : Sem d q mc ms pc L (.int v :: .ref n :: st) h Qp := by
  rcases i07 hk with rfl | rfl | rfl | rfl | rfl | rfl | rfl
  · exact s_put fl_X3_7_5 tyX3 tyX3_ok nmX3 hown (Or.inr ⟨rfl, hin, rfl⟩) (fun _ => ⟨rfl, rfl⟩) hd hc (by rw [hl]; decide) kk
  · exact s_put fl_X3_7_3 tyX1 tyX1_ok nmX1 hown (Or.inr ⟨rfl, hin, rfl⟩) (fun _ => ⟨rfl, rfl⟩) hd hc (by rw [hl]; decide) kk
  · exact s_put fl_X3_7_10 tyX8 tyX8_ok nmX8 hown (Or.inr ⟨rfl, hin, rfl⟩) (fun _ => ⟨rfl, rfl⟩) hd hc (by rw [hl]; decide) kk
  · exact s_put fl_X3_7_11 tyX9 tyX9_ok nmX9 hown (Or.inr ⟨rfl, hin, rfl⟩) (fun _ => ⟨rfl, rfl⟩) hd hc (by rw [hl]; decide) kk
  · exact s_put fl_X3_7_4 tyX2 tyX2_ok nmX2 hown (Or.inr ⟨rfl, hin, rfl⟩) (fun _ => ⟨rfl, rfl⟩) hd hc (by rw [hl]; decide) kk
  · exact s_put fl_X3_7_7 tyX5 tyX5_ok nmX5 hown (Or.inr ⟨rfl, hin, rfl⟩) (fun _ => ⟨rfl, rfl⟩) hd hc (by rw [hl]; decide) kk
  · exact s_put fl_X3_7_12 tyX10 tyX10_ok nmX10 hown (Or.inr ⟨rfl, hin, rfl⟩) (fun _ => ⟨rfl, rfl⟩) hd hc (by rw [hl]; decide) kk
theorem pS_X3_13 {n : Nat} {k9 : Int32} (hk : 0 ≤ k9 ∧ k9 ≤ 6) {fs : List Value} (hc : h[n]? = some (.inr (kci k9, fs))) (hl : fs.length = 3) {v : Int32} (hd : decode q.2.1 pc = .ok (.putfield 13, 3)) (hown : q.1.cls = RX3) (hin : q.1.name = "<init>") (kk : Sem d q mc ms (pc + 3) L st (h.set n (.inr (kci k9, fs.set 1 (.int v)))) Qp) : Sem d q mc ms pc L (.int v :: .ref n :: st) h Qp := by
  rcases i07 hk with rfl | rfl | rfl | rfl | rfl | rfl | rfl
  · exact s_put fl_X3_13_5 tyX3 tyX3_ok nmX3 hown (Or.inr ⟨rfl, hin, rfl⟩) (fun _ => ⟨rfl, rfl⟩) hd hc (by rw [hl]; decide) kk
  · exact s_put fl_X3_13_3 tyX1 tyX1_ok nmX1 hown (Or.inr ⟨rfl, hin, rfl⟩) (fun _ => ⟨rfl, rfl⟩) hd hc (by rw [hl]; decide) kk
  · exact s_put fl_X3_13_10 tyX8 tyX8_ok nmX8 hown (Or.inr ⟨rfl, hin, rfl⟩) (fun _ => ⟨rfl, rfl⟩) hd hc (by rw [hl]; decide) kk
  · exact s_put fl_X3_13_11 tyX9 tyX9_ok nmX9 hown (Or.inr ⟨rfl, hin, rfl⟩) (fun _ => ⟨rfl, rfl⟩) hd hc (by rw [hl]; decide) kk
  · exact s_put fl_X3_13_4 tyX2 tyX2_ok nmX2 hown (Or.inr ⟨rfl, hin, rfl⟩) (fun _ => ⟨rfl, rfl⟩) hd hc (by rw [hl]; decide) kk
  · exact s_put fl_X3_13_7 tyX5 tyX5_ok nmX5 hown (Or.inr ⟨rfl, hin, rfl⟩) (fun _ => ⟨rfl, rfl⟩) hd hc (by rw [hl]; decide) kk
  · exact s_put fl_X3_13_12 tyX10 tyX10_ok nmX10 hown (Or.inr ⟨rfl, hin, rfl⟩) (fun _ => ⟨rfl, rfl⟩) hd hc (by rw [hl]; decide) kk
theorem pS_X3_16 {n : Nat} {k9 : Int32} (hk : 0 ≤ k9 ∧ k9 ≤ 6) {fs : List Value} (hc : h[n]? = some (.inr (kci k9, fs))) (hl : fs.length = 3) {v : Int32} (hd : decode q.2.1 pc = .ok (.putfield 16, 3)) (hown : q.1.cls = RX3) (hin : q.1.name = "<init>") (kk : Sem d q mc ms (pc + 3) L st (h.set n (.inr (kci k9, fs.set 2 (.int v)))) Qp) : Sem d q mc ms pc L (.int v :: .ref n :: st) h Qp := by
  rcases i07 hk with rfl | rfl | rfl | rfl | rfl | rfl | rfl
  · exact s_put fl_X3_16_5 tyX3 tyX3_ok nmX3 hown (Or.inr ⟨rfl, hin, rfl⟩) (fun _ => ⟨rfl, rfl⟩) hd hc (by rw [hl]; decide) kk
  · exact s_put fl_X3_16_3 tyX1 tyX1_ok nmX1 hown (Or.inr ⟨rfl, hin, rfl⟩) (fun _ => ⟨rfl, rfl⟩) hd hc (by rw [hl]; decide) kk
  · exact s_put fl_X3_16_10 tyX8 tyX8_ok nmX8 hown (Or.inr ⟨rfl, hin, rfl⟩) (fun _ => ⟨rfl, rfl⟩) hd hc (by rw [hl]; decide) kk
  · exact s_put fl_X3_16_11 tyX9 tyX9_ok nmX9 hown (Or.inr ⟨rfl, hin, rfl⟩) (fun _ => ⟨rfl, rfl⟩) hd hc (by rw [hl]; decide) kk
  · exact s_put fl_X3_16_4 tyX2 tyX2_ok nmX2 hown (Or.inr ⟨rfl, hin, rfl⟩) (fun _ => ⟨rfl, rfl⟩) hd hc (by rw [hl]; decide) kk
  · exact s_put fl_X3_16_7 tyX5 tyX5_ok nmX5 hown (Or.inr ⟨rfl, hin, rfl⟩) (fun _ => ⟨rfl, rfl⟩) hd hc (by rw [hl]; decide) kk
  · exact s_put fl_X3_16_12 tyX10 tyX10_ok nmX10 hown (Or.inr ⟨rfl, hin, rfl⟩) (fun _ => ⟨rfl, rfl⟩) hd hc (by rw [hl]; decide) kk
theorem sS_X4_servers {X : XZ} {M : MZ} {D : HP} {w : Nat} (hw : w < 3) {n : Nat} {k i v x : Int32} (hs : SV D n k i v) (hd : decode q.2.1 pc = .ok (.aastore, 1)) (hin : vp_in x 4) (kk : Sem d q mc ms (pc + 1) L st (xh (xw X w (pz x) (.ref n)) M D) Qp) : Sem d q mc ms pc L (.ref n :: .int x :: .ref (1 + 11 * w + 1) :: st) (xh X M D) Qp := by
  rcases i07 hs.2.2 with rfl | rfl | rfl | rfl | rfl | rfl | rfl
  · exact s_aast (t := 4) hd (xg_X4_servers hw) rfl (hs.get (k := 0)) rfl (Or.inl rfl) hin (s_heq (xq_X4_servers hw) kk)
  · exact s_aast (t := 4) hd (xg_X4_servers hw) rfl (hs.get (k := 1)) rfl (Or.inr (by decide)) hin (s_heq (xq_X4_servers hw) kk)
  · exact s_aast (t := 4) hd (xg_X4_servers hw) rfl (hs.get (k := 2)) rfl (Or.inr (by decide)) hin (s_heq (xq_X4_servers hw) kk)
  · exact s_aast (t := 4) hd (xg_X4_servers hw) rfl (hs.get (k := 3)) rfl (Or.inr (by decide)) hin (s_heq (xq_X4_servers hw) kk)
  · exact s_aast (t := 4) hd (xg_X4_servers hw) rfl (hs.get (k := 4)) rfl (Or.inr (by decide)) hin (s_heq (xq_X4_servers hw) kk)
  · exact s_aast (t := 4) hd (xg_X4_servers hw) rfl (hs.get (k := 5)) rfl (Or.inr (by decide)) hin (s_heq (xq_X4_servers hw) kk)
  · exact s_aast (t := 4) hd (xg_X4_servers hw) rfl (hs.get (k := 6)) rfl (Or.inr (by decide)) hin (s_heq (xq_X4_servers hw) kk)
end BornR
theorem x_iX3 (d : Nat) (h : HP) (n : Nat) (k9 : Int32) (hk : 0 ≤ k9 ∧ k9 ≤ 6) (hc : h[n]? = some (.inr (kci k9, [.int 0, .int 0, .int 0]))) (k i v : Int32) : Con (d + 1) qX3_init 0 0 [.ref n, .int k, .int i, .int v] h (PV fun h1 => h1 = h.set n (.inr (kci k9, [.int k, .int i, .int v]))) := by
  refine Con.of (by decide +kernel) (Nat.le_of_ble_eq_true rfl) ?_
  show Sem (d + 1) qX3_init 0 0 0 [(0, .ref n), (1, .int k), (2, .int i), (3, .int v)] [] h _
  have hlt := (List.getElem?_eq_some_iff.mp hc).1
  refine s_aload_nr (j := 0) dX3_init_0 rfl ?_
  refine s_objInit rfl m358 m107 m108 dX3_init_1 (Nat.le_of_ble_eq_true rfl) ?_
  refine s_aload_nr (j := 0) dX3_init_4 rfl ?_
  refine s_iload_n (j := 1) dX3_init_5 rfl ?_
  refine pS_X3_7 hk hc rfl dX3_init_6 rfl rfl ?_
  refine s_aload_nr (j := 0) dX3_init_9 rfl ?_
  refine s_iload_n (j := 2) dX3_init_10 rfl ?_
  refine pS_X3_13 hk (List.getElem?_set_self hlt) rfl dX3_init_11 rfl rfl ?_
  rw [List.set_set]
  refine s_aload_nr (j := 0) dX3_init_14 rfl ?_
  refine s_iload_n (j := 3) dX3_init_15 rfl ?_
  refine pS_X3_16 hk (List.getElem?_set_self hlt) rfl dX3_init_16 rfl rfl ?_
  rw [List.set_set]
  exact e_vret dX3_init_19 rfl rfl
theorem x_iX1 (d : Nat) (h : HP) (n : Nat) (k9 : Int32) (hk : 0 ≤ k9 ∧ k9 ≤ 6) (hc : h[n]? = some (.inr (kci k9, [.int 0, .int 0, .int 0]))) (k i v : Int32) : Con (d + 2) qX1_init 0 0 [.ref n, .int k, .int i, .int v] h (PV fun h1 => h1 = h.set n (.inr (kci k9, [.int k, .int i, .int v]))) := by
  refine Con.of (by decide +kernel) (Nat.le_of_ble_eq_true rfl) ?_
  show Sem (d + 2) qX1_init 0 0 0 [(0, .ref n), (1, .int k), (2, .int i), (3, .int v)] [] h _
  refine s_aload_nr (j := 0) dX1_init_0 rfl ?_
  refine s_iload_n (j := 1) dX1_init_1 rfl ?_
  refine s_iload_n (j := 2) dX1_init_2 rfl ?_
  refine s_iload_n (j := 3) dX1_init_3 rfl ?_
  refine s_I3v ci_X1_1 rfl dX1_init_4 (Nat.le_of_ble_eq_true rfl) (x_iX3 _ h n k9 hk hc k i v) (fun h4 q4 => ?_)
  obtain rfl := q4
  exact e_vret dX1_init_7 rfl rfl
theorem x_iX8 (d : Nat) (h : HP) (n : Nat) (k9 : Int32) (hk : 0 ≤ k9 ∧ k9 ≤ 6) (hc : h[n]? = some (.inr (kci k9, [.int 0, .int 0, .int 0]))) (k i v : Int32) : Con (d + 2) qX8_init 0 0 [.ref n, .int k, .int i, .int v] h (PV fun h1 => h1 = h.set n (.inr (kci k9, [.int k, .int i, .int v]))) := by
  refine Con.of (by decide +kernel) (Nat.le_of_ble_eq_true rfl) ?_
  show Sem (d + 2) qX8_init 0 0 0 [(0, .ref n), (1, .int k), (2, .int i), (3, .int v)] [] h _
  refine s_aload_nr (j := 0) dX8_init_0 rfl ?_
  refine s_iload_n (j := 1) dX8_init_1 rfl ?_
  refine s_iload_n (j := 2) dX8_init_2 rfl ?_
  refine s_iload_n (j := 3) dX8_init_3 rfl ?_
  refine s_I3v ci_X8_1 rfl dX8_init_4 (Nat.le_of_ble_eq_true rfl) (x_iX3 _ h n k9 hk hc k i v) (fun h4 q4 => ?_)
  obtain rfl := q4
  exact e_vret dX8_init_7 rfl rfl
theorem x_iX9 (d : Nat) (h : HP) (n : Nat) (k9 : Int32) (hk : 0 ≤ k9 ∧ k9 ≤ 6) (hc : h[n]? = some (.inr (kci k9, [.int 0, .int 0, .int 0]))) (k i v : Int32) : Con (d + 2) qX9_init 0 0 [.ref n, .int k, .int i, .int v] h (PV fun h1 => h1 = h.set n (.inr (kci k9, [.int k, .int i, .int v]))) := by
  refine Con.of (by decide +kernel) (Nat.le_of_ble_eq_true rfl) ?_
  show Sem (d + 2) qX9_init 0 0 0 [(0, .ref n), (1, .int k), (2, .int i), (3, .int v)] [] h _
  refine s_aload_nr (j := 0) dX9_init_0 rfl ?_
  refine s_iload_n (j := 1) dX9_init_1 rfl ?_
  refine s_iload_n (j := 2) dX9_init_2 rfl ?_
  refine s_iload_n (j := 3) dX9_init_3 rfl ?_
  refine s_I3v ci_X9_1 rfl dX9_init_4 (Nat.le_of_ble_eq_true rfl) (x_iX3 _ h n k9 hk hc k i v) (fun h4 q4 => ?_)
  obtain rfl := q4
  exact e_vret dX9_init_7 rfl rfl
theorem x_iX2 (d : Nat) (h : HP) (n : Nat) (k9 : Int32) (hk : 0 ≤ k9 ∧ k9 ≤ 6) (hc : h[n]? = some (.inr (kci k9, [.int 0, .int 0, .int 0]))) (k i v : Int32) : Con (d + 3) qX2_init 0 0 [.ref n, .int k, .int i, .int v] h (PV fun h1 => h1 = h.set n (.inr (kci k9, [.int k, .int i, .int v]))) := by
  refine Con.of (by decide +kernel) (Nat.le_of_ble_eq_true rfl) ?_
  show Sem (d + 3) qX2_init 0 0 0 [(0, .ref n), (1, .int k), (2, .int i), (3, .int v)] [] h _
  refine s_aload_nr (j := 0) dX2_init_0 rfl ?_
  refine s_iload_n (j := 1) dX2_init_1 rfl ?_
  refine s_iload_n (j := 2) dX2_init_2 rfl ?_
  refine s_iload_n (j := 3) dX2_init_3 rfl ?_
  refine s_I3v ci_X2_1 rfl dX2_init_4 (Nat.le_of_ble_eq_true rfl) (x_iX1 _ h n k9 hk hc k i v) (fun h4 q4 => ?_)
  obtain rfl := q4
  exact e_vret dX2_init_7 rfl rfl
theorem x_iX5 (d : Nat) (h : HP) (n : Nat) (k9 : Int32) (hk : 0 ≤ k9 ∧ k9 ≤ 6) (hc : h[n]? = some (.inr (kci k9, [.int 0, .int 0, .int 0]))) (k i v : Int32) : Con (d + 3) qX5_init 0 0 [.ref n, .int k, .int i, .int v] h (PV fun h1 => h1 = h.set n (.inr (kci k9, [.int k, .int i, .int v]))) := by
  refine Con.of (by decide +kernel) (Nat.le_of_ble_eq_true rfl) ?_
  show Sem (d + 3) qX5_init 0 0 0 [(0, .ref n), (1, .int k), (2, .int i), (3, .int v)] [] h _
  refine s_aload_nr (j := 0) dX5_init_0 rfl ?_
  refine s_iload_n (j := 1) dX5_init_1 rfl ?_
  refine s_iload_n (j := 2) dX5_init_2 rfl ?_
  refine s_iload_n (j := 3) dX5_init_3 rfl ?_
  refine s_I3v ci_X5_1 rfl dX5_init_4 (Nat.le_of_ble_eq_true rfl) (x_iX8 _ h n k9 hk hc k i v) (fun h4 q4 => ?_)
  obtain rfl := q4
  exact e_vret dX5_init_7 rfl rfl
theorem x_iX10 (d : Nat) (h : HP) (n : Nat) (k9 : Int32) (hk : 0 ≤ k9 ∧ k9 ≤ 6) (hc : h[n]? = some (.inr (kci k9, [.int 0, .int 0, .int 0]))) (k i v : Int32) : Con (d + 3) qX10_init 0 0 [.ref n, .int k, .int i, .int v] h (PV fun h1 => h1 = h.set n (.inr (kci k9, [.int k, .int i, .int v]))) := by
  refine Con.of (by decide +kernel) (Nat.le_of_ble_eq_true rfl) ?_
  show Sem (d + 3) qX10_init 0 0 0 [(0, .ref n), (1, .int k), (2, .int i), (3, .int v)] [] h _
  refine s_aload_nr (j := 0) dX10_init_0 rfl ?_
  refine s_iload_n (j := 1) dX10_init_1 rfl ?_
  refine s_iload_n (j := 2) dX10_init_2 rfl ?_
  refine s_iload_n (j := 3) dX10_init_3 rfl ?_
  refine s_I3v ci_X10_3 rfl dX10_init_4 (Nat.le_of_ble_eq_true rfl) (x_iX9 _ h n k9 hk hc k i v) (fun h4 q4 => ?_)
  obtain rfl := q4
  exact e_vret dX10_init_7 rfl rfl
theorem x_born (d : Nat) (h : HP) (k i v : Int32) (hk : 0 ≤ k ∧ k ≤ 6) : Con (d + 4) qX11_born 1 3 [.int k, .int i, .int v] h (PR fun y h1 => y = .ref h.length ∧ h1 = h ++ [.inr (kci k, [.int k, .int i, .int v])]) := by
  refine Con.of (by decide +kernel) (Nat.le_of_ble_eq_true rfl) ?_
  show Sem (d + 4) qX11_born 1 3 0 [(0, .int k), (1, .int i), (2, .int v)] [] h _
  have h9 : ∀ (c : HC), (h ++ [c])[h.length]? = some c := fun c => List.getElem?_concat_length
  refine s_iload_n (j := 0) dX11_born_0 rfl ?_
  rcases i07 hk with rfl | rfl | rfl | rfl | rfl | rfl | rfl
  · refine s_tswOut dX11_born_1 (tgt := 106) (Or.inl (by decide)) (by decide) ?_
    refine s_new (fs := [.int 0, .int 0, .int 0]) tyX3 tyX3_ok dX11_born_106 rfl uw_X3 m438 m439 m82 (ci := 5) rfl (fun _ j hj => match j, hj with | 0, _ | 1, _ | 2, _ => rfl) ?_
    refine s_dup dX11_born_109 rfl ?_
    refine s_iload_n (j := 0) dX11_born_110 rfl ?_
    refine s_iload_n (j := 1) dX11_born_111 rfl ?_
    refine s_iload_n (j := 2) dX11_born_112 rfl ?_
    refine s_I3v ci_X11_319 rfl dX11_born_113 (Nat.le_of_ble_eq_true rfl) (x_iX3 _ _ h.length 0 (by decide) (h9 _) _ _ _) (fun h4 q4 => ?_)
    obtain rfl := q4
    rw [set_last]
    exact e_aret dX11_born_116 rfl (Or.inl ⟨_, rfl⟩) (Or.inr (Or.inl ⟨_, rfl⟩)) ⟨rfl, rfl⟩
  · refine s_tswIn dX11_born_1 (tgt := 40) (by decide) (by decide) (off := 39) (by decide) (by decide) ?_
    refine s_new (fs := [.int 0, .int 0, .int 0]) tyX1 tyX1_ok dX11_born_40 rfl uw_X1 m350 m351 m83 (ci := 3) rfl (fun _ j hj => match j, hj with | 0, _ | 1, _ | 2, _ => rfl) ?_
    refine s_dup dX11_born_43 rfl ?_
    refine s_iload_n (j := 0) dX11_born_44 rfl ?_
    refine s_iload_n (j := 1) dX11_born_45 rfl ?_
    refine s_iload_n (j := 2) dX11_born_46 rfl ?_
    refine s_I3v ci_X11_303 rfl dX11_born_47 (Nat.le_of_ble_eq_true rfl) (x_iX1 _ _ h.length 1 (by decide) (h9 _) _ _ _) (fun h4 q4 => ?_)
    obtain rfl := q4
    rw [set_last]
    exact e_aret dX11_born_50 rfl (Or.inl ⟨_, rfl⟩) (Or.inr (Or.inl ⟨_, rfl⟩)) ⟨rfl, rfl⟩
  · refine s_tswIn dX11_born_1 (tgt := 51) (by decide) (by decide) (off := 50) (by decide) (by decide) ?_
    refine s_new (fs := [.int 0, .int 0, .int 0]) tyX8 tyX8_ok dX11_born_51 rfl uw_X8 m388 m389 m84 (ci := 10) rfl (fun _ j hj => match j, hj with | 0, _ | 1, _ | 2, _ => rfl) ?_
    refine s_dup dX11_born_54 rfl ?_
    refine s_iload_n (j := 0) dX11_born_55 rfl ?_
    refine s_iload_n (j := 1) dX11_born_56 rfl ?_
    refine s_iload_n (j := 2) dX11_born_57 rfl ?_
    refine s_I3v ci_X11_308 rfl dX11_born_58 (Nat.le_of_ble_eq_true rfl) (x_iX8 _ _ h.length 2 (by decide) (h9 _) _ _ _) (fun h4 q4 => ?_)
    obtain rfl := q4
    rw [set_last]
    exact e_aret dX11_born_61 rfl (Or.inl ⟨_, rfl⟩) (Or.inr (Or.inl ⟨_, rfl⟩)) ⟨rfl, rfl⟩
  · refine s_tswIn dX11_born_1 (tgt := 62) (by decide) (by decide) (off := 61) (by decide) (by decide) ?_
    refine s_new (fs := [.int 0, .int 0, .int 0]) tyX9 tyX9_ok dX11_born_62 rfl uw_X9 m398 m399 m85 (ci := 11) rfl (fun _ j hj => match j, hj with | 0, _ | 1, _ | 2, _ => rfl) ?_
    refine s_dup dX11_born_65 rfl ?_
    refine s_iload_n (j := 0) dX11_born_66 rfl ?_
    refine s_iload_n (j := 1) dX11_born_67 rfl ?_
    refine s_iload_n (j := 2) dX11_born_68 rfl ?_
    refine s_I3v ci_X11_311 rfl dX11_born_69 (Nat.le_of_ble_eq_true rfl) (x_iX9 _ _ h.length 3 (by decide) (h9 _) _ _ _) (fun h4 q4 => ?_)
    obtain rfl := q4
    rw [set_last]
    exact e_aret dX11_born_72 rfl (Or.inl ⟨_, rfl⟩) (Or.inr (Or.inl ⟨_, rfl⟩)) ⟨rfl, rfl⟩
  · refine s_tswIn dX11_born_1 (tgt := 73) (by decide) (by decide) (off := 72) (by decide) (by decide) ?_
    refine s_new (fs := [.int 0, .int 0, .int 0]) tyX2 tyX2_ok dX11_born_73 rfl uw_X2 m408 m409 m86 (ci := 4) rfl (fun _ j hj => match j, hj with | 0, _ | 1, _ | 2, _ => rfl) ?_
    refine s_dup dX11_born_76 rfl ?_
    refine s_iload_n (j := 0) dX11_born_77 rfl ?_
    refine s_iload_n (j := 1) dX11_born_78 rfl ?_
    refine s_iload_n (j := 2) dX11_born_79 rfl ?_
    refine s_I3v ci_X11_314 rfl dX11_born_80 (Nat.le_of_ble_eq_true rfl) (x_iX2 _ _ h.length 4 (by decide) (h9 _) _ _ _) (fun h4 q4 => ?_)
    obtain rfl := q4
    rw [set_last]
    exact e_aret dX11_born_83 rfl (Or.inl ⟨_, rfl⟩) (Or.inr (Or.inl ⟨_, rfl⟩)) ⟨rfl, rfl⟩
  · refine s_tswIn dX11_born_1 (tgt := 84) (by decide) (by decide) (off := 83) (by decide) (by decide) ?_
    refine s_new (fs := [.int 0, .int 0, .int 0]) tyX5 tyX5_ok dX11_born_84 rfl uw_X5 m418 m419 m87 (ci := 7) rfl (fun _ j hj => match j, hj with | 0, _ | 1, _ | 2, _ => rfl) ?_
    refine s_dup dX11_born_87 rfl ?_
    refine s_iload_n (j := 0) dX11_born_88 rfl ?_
    refine s_iload_n (j := 1) dX11_born_89 rfl ?_
    refine s_iload_n (j := 2) dX11_born_90 rfl ?_
    refine s_I3v ci_X11_317 rfl dX11_born_91 (Nat.le_of_ble_eq_true rfl) (x_iX5 _ _ h.length 5 (by decide) (h9 _) _ _ _) (fun h4 q4 => ?_)
    obtain rfl := q4
    rw [set_last]
    exact e_aret dX11_born_94 rfl (Or.inl ⟨_, rfl⟩) (Or.inr (Or.inl ⟨_, rfl⟩)) ⟨rfl, rfl⟩
  · refine s_tswIn dX11_born_1 (tgt := 95) (by decide) (by decide) (off := 94) (by decide) (by decide) ?_
    refine s_new (fs := [.int 0, .int 0, .int 0]) tyX10 tyX10_ok dX11_born_95 rfl uw_X10 m428 m429 m88 (ci := 12) rfl (fun _ j hj => match j, hj with | 0, _ | 1, _ | 2, _ => rfl) ?_
    refine s_dup dX11_born_98 rfl ?_
    refine s_iload_n (j := 0) dX11_born_99 rfl ?_
    refine s_iload_n (j := 1) dX11_born_100 rfl ?_
    refine s_iload_n (j := 2) dX11_born_101 rfl ?_
    refine s_I3v ci_X11_318 rfl dX11_born_102 (Nat.le_of_ble_eq_true rfl) (x_iX10 _ _ h.length 6 (by decide) (h9 _) _ _ _) (fun h4 q4 => ?_)
    obtain rfl := q4
    rw [set_last]
    exact e_aret dX11_born_105 rfl (Or.inl ⟨_, rfl⟩) (Or.inr (Or.inl ⟨_, rfl⟩)) ⟨rfl, rfl⟩
