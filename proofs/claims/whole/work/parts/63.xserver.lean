/-! THE SERVERS: objects behind the model -/
def kci (k : Int32) : Nat := if k = 0 then 5 else if k = 1 then 3 else if k = 2 then 10 else if k = 3 then 11 else if k = 4 then 4 else if k = 5 then 7 else 12
/-- cell n is a SERVER of kind k, number i, with this v -/
def SV (D : HP) (n : Nat) (k i v : Int32) : Prop := 136 ≤ n ∧ D[n - 136]? = some (.inr (kci k, [.int k, .int i, .int v])) ∧ (0 ≤ k ∧ k ≤ 6)
theorem i07 {k : Int32} (h : 0 ≤ k ∧ k ≤ 6) : k = 0 ∨ k = 1 ∨ k = 2 ∨ k = 3 ∨ k = 4 ∨ k = 5 ∨ k = 6 := by
  have h1 := h.1
  have h2 := h.2
  simp only [Int32.le_iff_toInt_le, ← Int32.toInt_inj] at *
  simp at *
  omega
theorem mcells_len (M : MZ) : (mcells M).length = 41 := rfl
theorem xh_dyn {X : XZ} {M : MZ} {D : HP} {n : Nat} (hn : 136 ≤ n) : (xh X M D)[n]? = D[n - 136]? := by
  unfold xh mh
  rw [List.getElem?_append_right (by rw [xcells_len]; omega), List.getElem?_append_right (by rw [xcells_len, mcells_len]; omega), xcells_len, mcells_len, show n - 95 - 41 = n - 136 by omega]
theorem SV.get {D : HP} {n : Nat} {k i v : Int32} (hs : SV D n k i v) {X : XZ} {M : MZ} : (xh X M D)[n]? = some (.inr (kci k, [.int k, .int i, .int v])) := (xh_dyn hs.1).trans hs.2.1
theorem SV.push {D : HP} {n : Nat} {k i v : Int32} (hs : SV D n k i v) (E : HP) : SV (D ++ E) n k i v := by
  refine ⟨hs.1, ?_, hs.2.2⟩
  rw [List.getElem?_append_left (List.getElem?_eq_some_iff.mp hs.2.1).1]
  exact hs.2.1
theorem SV.uniq {D : HP} {n : Nat} {k i v k2 i2 v2 : Int32} (hs : SV D n k i v) (h2 : SV D n k2 i2 v2) : k = k2 ∧ i = i2 ∧ v = v2 := by
  have e := hs.2.1.symm.trans h2.2.1
  simp only [Option.some.injEq, Sum.inr.injEq, Prod.mk.injEq, List.cons.injEq, Value.int.injEq] at e
  exact ⟨e.2.1, e.2.2.1, e.2.2.2.1⟩
def Q_first (k : Int32) : QM := if k = 0 then qX3_first else if k = 1 then qX3_first else if k = 2 then qX8_first else if k = 3 then qX9_first else if k = 4 then qX3_first else if k = 5 then qX5_first else qX10_first
def Q_second (k : Int32) : QM := if k = 0 then qX3_second else if k = 1 then qX1_second else if k = 2 then qX3_second else if k = 3 then qX3_second else if k = 4 then qX1_second else if k = 5 then qX3_second else qX3_second
def Q_winsAgainst (k : Int32) : QM := if k = 0 then qX3_winsAgainst else if k = 1 then qX3_winsAgainst else if k = 2 then qX3_winsAgainst else if k = 3 then qX3_winsAgainst else if k = 4 then qX2_winsAgainst else if k = 5 then qX3_winsAgainst else qX3_winsAgainst
def Q_tosses (k : Int32) : QM := if k = 0 then qX3_tosses else if k = 1 then qX3_tosses else if k = 2 then qX8_tosses else if k = 3 then qX3_tosses else if k = 4 then qX2_tosses else if k = 5 then qX8_tosses else qX10_tosses
def Q_strikes (k : Int32) : QM := if k = 0 then qX3_strikes else if k = 1 then qX1_strikes else if k = 2 then qX3_strikes else if k = 3 then qX3_strikes else if k = 4 then qX2_strikes else if k = 5 then qX3_strikes else qX10_strikes
def Q_tells (k : Int32) : QM := if k = 0 then qX3_tells else if k = 1 then qX3_tells else if k = 2 then qX3_tells else if k = 3 then qX9_tells else if k = 4 then qX3_tells else if k = 5 then qX5_tells else qX9_tells
section SVRules
variable {d mc ms pc : Nat} {q : QM} {L : List (Nat × Value)} {st : List Value} {X : XZ} {M : MZ} {D : HP} {Qp : PO}
theorem s_topv {v v2 : Value} {h : HP} (e : v = v2) (k : Sem d q mc ms pc L (v2 :: st) h Qp) : Sem d q mc ms pc L (v :: st) h Qp := by rw [e]; exact k
theorem gS_X11_94 {n : Nat} {k i v : Int32} (hs : SV D n k i v) (hd : decode q.2.1 pc = .ok (.getfield 94, 3)) (hown : q.1.cls = RX11) (kk : Sem d q mc ms (pc + 3) L (.int k :: st) (xh X M D) Qp) : Sem d q mc ms pc L (.ref n :: st) (xh X M D) Qp := by
  rcases i07 hs.2.2 with rfl | rfl | rfl | rfl | rfl | rfl | rfl
  · exact s_get fl_X11_94_5 hown hd (hs.get (k := 0)) rfl kk
  · exact s_get fl_X11_94_3 hown hd (hs.get (k := 1)) rfl kk
  · exact s_get fl_X11_94_10 hown hd (hs.get (k := 2)) rfl kk
  · exact s_get fl_X11_94_11 hown hd (hs.get (k := 3)) rfl kk
  · exact s_get fl_X11_94_4 hown hd (hs.get (k := 4)) rfl kk
  · exact s_get fl_X11_94_7 hown hd (hs.get (k := 5)) rfl kk
  · exact s_get fl_X11_94_12 hown hd (hs.get (k := 6)) rfl kk
theorem gS_X11_99 {n : Nat} {k i v : Int32} (hs : SV D n k i v) (hd : decode q.2.1 pc = .ok (.getfield 99, 3)) (hown : q.1.cls = RX11) (kk : Sem d q mc ms (pc + 3) L (.int v :: st) (xh X M D) Qp) : Sem d q mc ms pc L (.ref n :: st) (xh X M D) Qp := by
  rcases i07 hs.2.2 with rfl | rfl | rfl | rfl | rfl | rfl | rfl
  · exact s_get fl_X11_99_5 hown hd (hs.get (k := 0)) rfl kk
  · exact s_get fl_X11_99_3 hown hd (hs.get (k := 1)) rfl kk
  · exact s_get fl_X11_99_10 hown hd (hs.get (k := 2)) rfl kk
  · exact s_get fl_X11_99_11 hown hd (hs.get (k := 3)) rfl kk
  · exact s_get fl_X11_99_4 hown hd (hs.get (k := 4)) rfl kk
  · exact s_get fl_X11_99_7 hown hd (hs.get (k := 5)) rfl kk
  · exact s_get fl_X11_99_12 hown hd (hs.get (k := 6)) rfl kk
theorem gS_X11_105 {n : Nat} {k i v : Int32} (hs : SV D n k i v) (hd : decode q.2.1 pc = .ok (.getfield 105, 3)) (hown : q.1.cls = RX11) (kk : Sem d q mc ms (pc + 3) L (.int i :: st) (xh X M D) Qp) : Sem d q mc ms pc L (.ref n :: st) (xh X M D) Qp := by
  rcases i07 hs.2.2 with rfl | rfl | rfl | rfl | rfl | rfl | rfl
  · exact s_get fl_X11_105_5 hown hd (hs.get (k := 0)) rfl kk
  · exact s_get fl_X11_105_3 hown hd (hs.get (k := 1)) rfl kk
  · exact s_get fl_X11_105_10 hown hd (hs.get (k := 2)) rfl kk
  · exact s_get fl_X11_105_11 hown hd (hs.get (k := 3)) rfl kk
  · exact s_get fl_X11_105_4 hown hd (hs.get (k := 4)) rfl kk
  · exact s_get fl_X11_105_7 hown hd (hs.get (k := 5)) rfl kk
  · exact s_get fl_X11_105_12 hown hd (hs.get (k := 6)) rfl kk
theorem gS_X1_13 {n : Nat} {k i v : Int32} (hs : SV D n k i v) (hk : k = 1 ∨ k = 4) (hd : decode q.2.1 pc = .ok (.getfield 13, 3)) (hown : q.1.cls = RX1) (kk : Sem d q mc ms (pc + 3) L (.int i :: st) (xh X M D) Qp) : Sem d q mc ms pc L (.ref n :: st) (xh X M D) Qp := by
  rcases hk with rfl | rfl
  · exact s_get fl_X1_13_3 hown hd (hs.get (k := 1)) rfl kk
  · exact s_get fl_X1_13_4 hown hd (hs.get (k := 4)) rfl kk
theorem gS_X2_7 {n : Nat} {k i v : Int32} (hs : SV D n k i v) (hk : k = 4) (hd : decode q.2.1 pc = .ok (.getfield 7, 3)) (hown : q.1.cls = RX2) (kk : Sem d q mc ms (pc + 3) L (.int v :: st) (xh X M D) Qp) : Sem d q mc ms pc L (.ref n :: st) (xh X M D) Qp := by
  subst hk
  exact s_get fl_X2_7_4 hown hd (hs.get (k := 4)) rfl kk
theorem gS_X3_7 {n : Nat} {k i v : Int32} (hs : SV D n k i v) (hd : decode q.2.1 pc = .ok (.getfield 7, 3)) (hown : q.1.cls = RX3) (kk : Sem d q mc ms (pc + 3) L (.int k :: st) (xh X M D) Qp) : Sem d q mc ms pc L (.ref n :: st) (xh X M D) Qp := by
  rcases i07 hs.2.2 with rfl | rfl | rfl | rfl | rfl | rfl | rfl
  · exact s_get fl_X3_7_5 hown hd (hs.get (k := 0)) rfl kk
  · exact s_get fl_X3_7_3 hown hd (hs.get (k := 1)) rfl kk
  · exact s_get fl_X3_7_10 hown hd (hs.get (k := 2)) rfl kk
  · exact s_get fl_X3_7_11 hown hd (hs.get (k := 3)) rfl kk
  · exact s_get fl_X3_7_4 hown hd (hs.get (k := 4)) rfl kk
  · exact s_get fl_X3_7_7 hown hd (hs.get (k := 5)) rfl kk
  · exact s_get fl_X3_7_12 hown hd (hs.get (k := 6)) rfl kk
theorem gS_X3_13 {n : Nat} {k i v : Int32} (hs : SV D n k i v) (hd : decode q.2.1 pc = .ok (.getfield 13, 3)) (hown : q.1.cls = RX3) (kk : Sem d q mc ms (pc + 3) L (.int i :: st) (xh X M D) Qp) : Sem d q mc ms pc L (.ref n :: st) (xh X M D) Qp := by
  rcases i07 hs.2.2 with rfl | rfl | rfl | rfl | rfl | rfl | rfl
  · exact s_get fl_X3_13_5 hown hd (hs.get (k := 0)) rfl kk
  · exact s_get fl_X3_13_3 hown hd (hs.get (k := 1)) rfl kk
  · exact s_get fl_X3_13_10 hown hd (hs.get (k := 2)) rfl kk
  · exact s_get fl_X3_13_11 hown hd (hs.get (k := 3)) rfl kk
  · exact s_get fl_X3_13_4 hown hd (hs.get (k := 4)) rfl kk
  · exact s_get fl_X3_13_7 hown hd (hs.get (k := 5)) rfl kk
  · exact s_get fl_X3_13_12 hown hd (hs.get (k := 6)) rfl kk
theorem gS_X3_16 {n : Nat} {k i v : Int32} (hs : SV D n k i v) (hd : decode q.2.1 pc = .ok (.getfield 16, 3)) (hown : q.1.cls = RX3) (kk : Sem d q mc ms (pc + 3) L (.int v :: st) (xh X M D) Qp) : Sem d q mc ms pc L (.ref n :: st) (xh X M D) Qp := by
  rcases i07 hs.2.2 with rfl | rfl | rfl | rfl | rfl | rfl | rfl
  · exact s_get fl_X3_16_5 hown hd (hs.get (k := 0)) rfl kk
  · exact s_get fl_X3_16_3 hown hd (hs.get (k := 1)) rfl kk
  · exact s_get fl_X3_16_10 hown hd (hs.get (k := 2)) rfl kk
  · exact s_get fl_X3_16_11 hown hd (hs.get (k := 3)) rfl kk
  · exact s_get fl_X3_16_4 hown hd (hs.get (k := 4)) rfl kk
  · exact s_get fl_X3_16_7 hown hd (hs.get (k := 5)) rfl kk
  · exact s_get fl_X3_16_12 hown hd (hs.get (k := 6)) rfl kk
theorem gS_X4_84 {n : Nat} {k i v : Int32} (hs : SV D n k i v) (hd : decode q.2.1 pc = .ok (.getfield 84, 3)) (hown : q.1.cls = RX4) (kk : Sem d q mc ms (pc + 3) L (.int i :: st) (xh X M D) Qp) : Sem d q mc ms pc L (.ref n :: st) (xh X M D) Qp := by
  rcases i07 hs.2.2 with rfl | rfl | rfl | rfl | rfl | rfl | rfl
  · exact s_get fl_X4_84_5 hown hd (hs.get (k := 0)) rfl kk
  · exact s_get fl_X4_84_3 hown hd (hs.get (k := 1)) rfl kk
  · exact s_get fl_X4_84_10 hown hd (hs.get (k := 2)) rfl kk
  · exact s_get fl_X4_84_11 hown hd (hs.get (k := 3)) rfl kk
  · exact s_get fl_X4_84_4 hown hd (hs.get (k := 4)) rfl kk
  · exact s_get fl_X4_84_7 hown hd (hs.get (k := 5)) rfl kk
  · exact s_get fl_X4_84_12 hown hd (hs.get (k := 6)) rfl kk
theorem gS_X4_117 {n : Nat} {k i v : Int32} (hs : SV D n k i v) (hd : decode q.2.1 pc = .ok (.getfield 117, 3)) (hown : q.1.cls = RX4) (kk : Sem d q mc ms (pc + 3) L (.int k :: st) (xh X M D) Qp) : Sem d q mc ms pc L (.ref n :: st) (xh X M D) Qp := by
  rcases i07 hs.2.2 with rfl | rfl | rfl | rfl | rfl | rfl | rfl
  · exact s_get fl_X4_117_5 hown hd (hs.get (k := 0)) rfl kk
  · exact s_get fl_X4_117_3 hown hd (hs.get (k := 1)) rfl kk
  · exact s_get fl_X4_117_10 hown hd (hs.get (k := 2)) rfl kk
  · exact s_get fl_X4_117_11 hown hd (hs.get (k := 3)) rfl kk
  · exact s_get fl_X4_117_4 hown hd (hs.get (k := 4)) rfl kk
  · exact s_get fl_X4_117_7 hown hd (hs.get (k := 5)) rfl kk
  · exact s_get fl_X4_117_12 hown hd (hs.get (k := 6)) rfl kk
theorem gS_X5_20 {n : Nat} {k i v : Int32} (hs : SV D n k i v) (hk : k = 5) (hd : decode q.2.1 pc = .ok (.getfield 20, 3)) (hown : q.1.cls = RX5) (kk : Sem d q mc ms (pc + 3) L (.int i :: st) (xh X M D) Qp) : Sem d q mc ms pc L (.ref n :: st) (xh X M D) Qp := by
  subst hk
  exact s_get fl_X5_20_7 hown hd (hs.get (k := 5)) rfl kk
theorem gS_X8_13 {n : Nat} {k i v : Int32} (hs : SV D n k i v) (hk : k = 2 ∨ k = 5) (hd : decode q.2.1 pc = .ok (.getfield 13, 3)) (hown : q.1.cls = RX8) (kk : Sem d q mc ms (pc + 3) L (.int i :: st) (xh X M D) Qp) : Sem d q mc ms pc L (.ref n :: st) (xh X M D) Qp := by
  rcases hk with rfl | rfl
  · exact s_get fl_X8_13_10 hown hd (hs.get (k := 2)) rfl kk
  · exact s_get fl_X8_13_7 hown hd (hs.get (k := 5)) rfl kk
theorem gS_X9_13 {n : Nat} {k i v : Int32} (hs : SV D n k i v) (hk : k = 3 ∨ k = 6) (hd : decode q.2.1 pc = .ok (.getfield 13, 3)) (hown : q.1.cls = RX9) (kk : Sem d q mc ms (pc + 3) L (.int i :: st) (xh X M D) Qp) : Sem d q mc ms pc L (.ref n :: st) (xh X M D) Qp := by
  rcases hk with rfl | rfl
  · exact s_get fl_X9_13_11 hown hd (hs.get (k := 3)) rfl kk
  · exact s_get fl_X9_13_12 hown hd (hs.get (k := 6)) rfl kk
theorem gS_X10_15 {n : Nat} {k i v : Int32} (hs : SV D n k i v) (hk : k = 6) (hd : decode q.2.1 pc = .ok (.getfield 15, 3)) (hown : q.1.cls = RX10) (kk : Sem d q mc ms (pc + 3) L (.int i :: st) (xh X M D) Qp) : Sem d q mc ms pc L (.ref n :: st) (xh X M D) Qp := by
  subst hk
  exact s_get fl_X10_15_12 hown hd (hs.get (k := 6)) rfl kk
theorem gS_X10_43 {n : Nat} {k i v : Int32} (hs : SV D n k i v) (hk : k = 6) (hd : decode q.2.1 pc = .ok (.getfield 43, 3)) (hown : q.1.cls = RX10) (kk : Sem d q mc ms (pc + 3) L (.int v :: st) (xh X M D) Qp) : Sem d q mc ms pc L (.ref n :: st) (xh X M D) Qp := by
  subst hk
  exact s_get fl_X10_43_12 hown hd (hs.get (k := 6)) rfl kk
theorem u1i_X11_114 {n : Nat} {k i v : Int32} {v1 : Value} {P : Int32 → HP → Prop} (hs : SV D n k i v) (hd : decode q.2.1 pc = .ok (.invokevirtual 114, 3)) (hown : q.1.cls = RX11) (hz : (st.map fun v => v.category).sum ≤ 8) (hC : Con d (Q_first k) 0 0 (.ref n :: [v1]) (xh X M D) (PI P)) (kk : ∀ (x : Int32) (h1 : HP), P x h1 → Sem (d + 1) q mc ms (pc + 3) L (.int x :: st) h1 Qp) : Sem (d + 1) q mc ms pc L (v1 :: .ref n :: st) (xh X M D) Qp := by
  rcases i07 hs.2.2 with rfl | rfl | rfl | rfl | rfl | rfl | rfl
  · exact s_U1i cu_X11_114_5 hown hd (hs.get (k := 0)) rfl hz hC kk
  · exact s_U1i cu_X11_114_3 hown hd (hs.get (k := 1)) rfl hz hC kk
  · exact s_U1i cu_X11_114_10 hown hd (hs.get (k := 2)) rfl hz hC kk
  · exact s_U1i cu_X11_114_11 hown hd (hs.get (k := 3)) rfl hz hC kk
  · exact s_U1i cu_X11_114_4 hown hd (hs.get (k := 4)) rfl hz hC kk
  · exact s_U1i cu_X11_114_7 hown hd (hs.get (k := 5)) rfl hz hC kk
  · exact s_U1i cu_X11_114_12 hown hd (hs.get (k := 6)) rfl hz hC kk
theorem u1im_X11_114 {n : Nat} {k i v : Int32} {v1 : Value} {mc1 ms1 mc2 ms2 : Nat} {P : Int32 → HP → Prop} (hs : SV D n k i v) (hd : decode q.2.1 pc = .ok (.invokevirtual 114, 3)) (hown : q.1.cls = RX11) (hz : (st.map fun v => v.category).sum ≤ 8) (hC : Con d (Q_first k) mc1 ms1 (.ref n :: [v1]) (xh X M D) (PI P)) (hm : mc1 + mc = mc2) (hm2 : ms1 + ms = ms2) (kk : ∀ (x : Int32) (h1 : HP), P x h1 → Sem (d + 1) q mc ms (pc + 3) L (.int x :: st) h1 Qp) : Sem (d + 1) q mc2 ms2 pc L (v1 :: .ref n :: st) (xh X M D) Qp := by
  rcases i07 hs.2.2 with rfl | rfl | rfl | rfl | rfl | rfl | rfl
  · exact s_U1im cu_X11_114_5 hown hd (hs.get (k := 0)) rfl hz hC hm hm2 kk
  · exact s_U1im cu_X11_114_3 hown hd (hs.get (k := 1)) rfl hz hC hm hm2 kk
  · exact s_U1im cu_X11_114_10 hown hd (hs.get (k := 2)) rfl hz hC hm hm2 kk
  · exact s_U1im cu_X11_114_11 hown hd (hs.get (k := 3)) rfl hz hC hm hm2 kk
  · exact s_U1im cu_X11_114_4 hown hd (hs.get (k := 4)) rfl hz hC hm hm2 kk
  · exact s_U1im cu_X11_114_7 hown hd (hs.get (k := 5)) rfl hz hC hm hm2 kk
  · exact s_U1im cu_X11_114_12 hown hd (hs.get (k := 6)) rfl hz hC hm hm2 kk
theorem u1i_X11_118 {n : Nat} {k i v : Int32} {v1 : Value} {P : Int32 → HP → Prop} (hs : SV D n k i v) (hd : decode q.2.1 pc = .ok (.invokevirtual 118, 3)) (hown : q.1.cls = RX11) (hz : (st.map fun v => v.category).sum ≤ 8) (hC : Con d (Q_second k) 0 0 (.ref n :: [v1]) (xh X M D) (PI P)) (kk : ∀ (x : Int32) (h1 : HP), P x h1 → Sem (d + 1) q mc ms (pc + 3) L (.int x :: st) h1 Qp) : Sem (d + 1) q mc ms pc L (v1 :: .ref n :: st) (xh X M D) Qp := by
  rcases i07 hs.2.2 with rfl | rfl | rfl | rfl | rfl | rfl | rfl
  · exact s_U1i cu_X11_118_5 hown hd (hs.get (k := 0)) rfl hz hC kk
  · exact s_U1i cu_X11_118_3 hown hd (hs.get (k := 1)) rfl hz hC kk
  · exact s_U1i cu_X11_118_10 hown hd (hs.get (k := 2)) rfl hz hC kk
  · exact s_U1i cu_X11_118_11 hown hd (hs.get (k := 3)) rfl hz hC kk
  · exact s_U1i cu_X11_118_4 hown hd (hs.get (k := 4)) rfl hz hC kk
  · exact s_U1i cu_X11_118_7 hown hd (hs.get (k := 5)) rfl hz hC kk
  · exact s_U1i cu_X11_118_12 hown hd (hs.get (k := 6)) rfl hz hC kk
theorem u1im_X11_118 {n : Nat} {k i v : Int32} {v1 : Value} {mc1 ms1 mc2 ms2 : Nat} {P : Int32 → HP → Prop} (hs : SV D n k i v) (hd : decode q.2.1 pc = .ok (.invokevirtual 118, 3)) (hown : q.1.cls = RX11) (hz : (st.map fun v => v.category).sum ≤ 8) (hC : Con d (Q_second k) mc1 ms1 (.ref n :: [v1]) (xh X M D) (PI P)) (hm : mc1 + mc = mc2) (hm2 : ms1 + ms = ms2) (kk : ∀ (x : Int32) (h1 : HP), P x h1 → Sem (d + 1) q mc ms (pc + 3) L (.int x :: st) h1 Qp) : Sem (d + 1) q mc2 ms2 pc L (v1 :: .ref n :: st) (xh X M D) Qp := by
  rcases i07 hs.2.2 with rfl | rfl | rfl | rfl | rfl | rfl | rfl
  · exact s_U1im cu_X11_118_5 hown hd (hs.get (k := 0)) rfl hz hC hm hm2 kk
  · exact s_U1im cu_X11_118_3 hown hd (hs.get (k := 1)) rfl hz hC hm hm2 kk
  · exact s_U1im cu_X11_118_10 hown hd (hs.get (k := 2)) rfl hz hC hm hm2 kk
  · exact s_U1im cu_X11_118_11 hown hd (hs.get (k := 3)) rfl hz hC hm hm2 kk
  · exact s_U1im cu_X11_118_4 hown hd (hs.get (k := 4)) rfl hz hC hm hm2 kk
  · exact s_U1im cu_X11_118_7 hown hd (hs.get (k := 5)) rfl hz hC hm hm2 kk
  · exact s_U1im cu_X11_118_12 hown hd (hs.get (k := 6)) rfl hz hC hm hm2 kk
theorem u2i_X11_259 {n : Nat} {k i v : Int32} {v1 v2 : Value} {P : Int32 → HP → Prop} (hs : SV D n k i v) (hd : decode q.2.1 pc = .ok (.invokevirtual 259, 3)) (hown : q.1.cls = RX11) (hz : (st.map fun v => v.category).sum ≤ 8) (hC : Con d (Q_tosses k) 0 0 (.ref n :: [v1, v2]) (xh X M D) (PI P)) (kk : ∀ (x : Int32) (h1 : HP), P x h1 → Sem (d + 1) q mc ms (pc + 3) L (.int x :: st) h1 Qp) : Sem (d + 1) q mc ms pc L (v2 :: v1 :: .ref n :: st) (xh X M D) Qp := by
  rcases i07 hs.2.2 with rfl | rfl | rfl | rfl | rfl | rfl | rfl
  · exact s_U2i cu_X11_259_5 hown hd (hs.get (k := 0)) rfl hz hC kk
  · exact s_U2i cu_X11_259_3 hown hd (hs.get (k := 1)) rfl hz hC kk
  · exact s_U2i cu_X11_259_10 hown hd (hs.get (k := 2)) rfl hz hC kk
  · exact s_U2i cu_X11_259_11 hown hd (hs.get (k := 3)) rfl hz hC kk
  · exact s_U2i cu_X11_259_4 hown hd (hs.get (k := 4)) rfl hz hC kk
  · exact s_U2i cu_X11_259_7 hown hd (hs.get (k := 5)) rfl hz hC kk
  · exact s_U2i cu_X11_259_12 hown hd (hs.get (k := 6)) rfl hz hC kk
theorem u2im_X11_259 {n : Nat} {k i v : Int32} {v1 v2 : Value} {mc1 ms1 mc2 ms2 : Nat} {P : Int32 → HP → Prop} (hs : SV D n k i v) (hd : decode q.2.1 pc = .ok (.invokevirtual 259, 3)) (hown : q.1.cls = RX11) (hz : (st.map fun v => v.category).sum ≤ 8) (hC : Con d (Q_tosses k) mc1 ms1 (.ref n :: [v1, v2]) (xh X M D) (PI P)) (hm : mc1 + mc = mc2) (hm2 : ms1 + ms = ms2) (kk : ∀ (x : Int32) (h1 : HP), P x h1 → Sem (d + 1) q mc ms (pc + 3) L (.int x :: st) h1 Qp) : Sem (d + 1) q mc2 ms2 pc L (v2 :: v1 :: .ref n :: st) (xh X M D) Qp := by
  rcases i07 hs.2.2 with rfl | rfl | rfl | rfl | rfl | rfl | rfl
  · exact s_U2im cu_X11_259_5 hown hd (hs.get (k := 0)) rfl hz hC hm hm2 kk
  · exact s_U2im cu_X11_259_3 hown hd (hs.get (k := 1)) rfl hz hC hm hm2 kk
  · exact s_U2im cu_X11_259_10 hown hd (hs.get (k := 2)) rfl hz hC hm hm2 kk
  · exact s_U2im cu_X11_259_11 hown hd (hs.get (k := 3)) rfl hz hC hm hm2 kk
  · exact s_U2im cu_X11_259_4 hown hd (hs.get (k := 4)) rfl hz hC hm hm2 kk
  · exact s_U2im cu_X11_259_7 hown hd (hs.get (k := 5)) rfl hz hC hm hm2 kk
  · exact s_U2im cu_X11_259_12 hown hd (hs.get (k := 6)) rfl hz hC hm hm2 kk
theorem u2i_X11_263 {n : Nat} {k i v : Int32} {v1 v2 : Value} {P : Int32 → HP → Prop} (hs : SV D n k i v) (hd : decode q.2.1 pc = .ok (.invokevirtual 263, 3)) (hown : q.1.cls = RX11) (hz : (st.map fun v => v.category).sum ≤ 8) (hC : Con d (Q_strikes k) 0 0 (.ref n :: [v1, v2]) (xh X M D) (PI P)) (kk : ∀ (x : Int32) (h1 : HP), P x h1 → Sem (d + 1) q mc ms (pc + 3) L (.int x :: st) h1 Qp) : Sem (d + 1) q mc ms pc L (v2 :: v1 :: .ref n :: st) (xh X M D) Qp := by
  rcases i07 hs.2.2 with rfl | rfl | rfl | rfl | rfl | rfl | rfl
  · exact s_U2i cu_X11_263_5 hown hd (hs.get (k := 0)) rfl hz hC kk
  · exact s_U2i cu_X11_263_3 hown hd (hs.get (k := 1)) rfl hz hC kk
  · exact s_U2i cu_X11_263_10 hown hd (hs.get (k := 2)) rfl hz hC kk
  · exact s_U2i cu_X11_263_11 hown hd (hs.get (k := 3)) rfl hz hC kk
  · exact s_U2i cu_X11_263_4 hown hd (hs.get (k := 4)) rfl hz hC kk
  · exact s_U2i cu_X11_263_7 hown hd (hs.get (k := 5)) rfl hz hC kk
  · exact s_U2i cu_X11_263_12 hown hd (hs.get (k := 6)) rfl hz hC kk
theorem u2im_X11_263 {n : Nat} {k i v : Int32} {v1 v2 : Value} {mc1 ms1 mc2 ms2 : Nat} {P : Int32 → HP → Prop} (hs : SV D n k i v) (hd : decode q.2.1 pc = .ok (.invokevirtual 263, 3)) (hown : q.1.cls = RX11) (hz : (st.map fun v => v.category).sum ≤ 8) (hC : Con d (Q_strikes k) mc1 ms1 (.ref n :: [v1, v2]) (xh X M D) (PI P)) (hm : mc1 + mc = mc2) (hm2 : ms1 + ms = ms2) (kk : ∀ (x : Int32) (h1 : HP), P x h1 → Sem (d + 1) q mc ms (pc + 3) L (.int x :: st) h1 Qp) : Sem (d + 1) q mc2 ms2 pc L (v2 :: v1 :: .ref n :: st) (xh X M D) Qp := by
  rcases i07 hs.2.2 with rfl | rfl | rfl | rfl | rfl | rfl | rfl
  · exact s_U2im cu_X11_263_5 hown hd (hs.get (k := 0)) rfl hz hC hm hm2 kk
  · exact s_U2im cu_X11_263_3 hown hd (hs.get (k := 1)) rfl hz hC hm hm2 kk
  · exact s_U2im cu_X11_263_10 hown hd (hs.get (k := 2)) rfl hz hC hm hm2 kk
  · exact s_U2im cu_X11_263_11 hown hd (hs.get (k := 3)) rfl hz hC hm hm2 kk
  · exact s_U2im cu_X11_263_4 hown hd (hs.get (k := 4)) rfl hz hC hm hm2 kk
  · exact s_U2im cu_X11_263_7 hown hd (hs.get (k := 5)) rfl hz hC hm hm2 kk
  · exact s_U2im cu_X11_263_12 hown hd (hs.get (k := 6)) rfl hz hC hm hm2 kk
theorem u2i_X11_266 {n : Nat} {k i v : Int32} {v1 v2 : Value} {P : Int32 → HP → Prop} (hs : SV D n k i v) (hd : decode q.2.1 pc = .ok (.invokevirtual 266, 3)) (hown : q.1.cls = RX11) (hz : (st.map fun v => v.category).sum ≤ 8) (hC : Con d (Q_tells k) 0 0 (.ref n :: [v1, v2]) (xh X M D) (PI P)) (kk : ∀ (x : Int32) (h1 : HP), P x h1 → Sem (d + 1) q mc ms (pc + 3) L (.int x :: st) h1 Qp) : Sem (d + 1) q mc ms pc L (v2 :: v1 :: .ref n :: st) (xh X M D) Qp := by
  rcases i07 hs.2.2 with rfl | rfl | rfl | rfl | rfl | rfl | rfl
  · exact s_U2i cu_X11_266_5 hown hd (hs.get (k := 0)) rfl hz hC kk
  · exact s_U2i cu_X11_266_3 hown hd (hs.get (k := 1)) rfl hz hC kk
  · exact s_U2i cu_X11_266_10 hown hd (hs.get (k := 2)) rfl hz hC kk
  · exact s_U2i cu_X11_266_11 hown hd (hs.get (k := 3)) rfl hz hC kk
  · exact s_U2i cu_X11_266_4 hown hd (hs.get (k := 4)) rfl hz hC kk
  · exact s_U2i cu_X11_266_7 hown hd (hs.get (k := 5)) rfl hz hC kk
  · exact s_U2i cu_X11_266_12 hown hd (hs.get (k := 6)) rfl hz hC kk
theorem u2im_X11_266 {n : Nat} {k i v : Int32} {v1 v2 : Value} {mc1 ms1 mc2 ms2 : Nat} {P : Int32 → HP → Prop} (hs : SV D n k i v) (hd : decode q.2.1 pc = .ok (.invokevirtual 266, 3)) (hown : q.1.cls = RX11) (hz : (st.map fun v => v.category).sum ≤ 8) (hC : Con d (Q_tells k) mc1 ms1 (.ref n :: [v1, v2]) (xh X M D) (PI P)) (hm : mc1 + mc = mc2) (hm2 : ms1 + ms = ms2) (kk : ∀ (x : Int32) (h1 : HP), P x h1 → Sem (d + 1) q mc ms (pc + 3) L (.int x :: st) h1 Qp) : Sem (d + 1) q mc2 ms2 pc L (v2 :: v1 :: .ref n :: st) (xh X M D) Qp := by
  rcases i07 hs.2.2 with rfl | rfl | rfl | rfl | rfl | rfl | rfl
  · exact s_U2im cu_X11_266_5 hown hd (hs.get (k := 0)) rfl hz hC hm hm2 kk
  · exact s_U2im cu_X11_266_3 hown hd (hs.get (k := 1)) rfl hz hC hm hm2 kk
  · exact s_U2im cu_X11_266_10 hown hd (hs.get (k := 2)) rfl hz hC hm hm2 kk
  · exact s_U2im cu_X11_266_11 hown hd (hs.get (k := 3)) rfl hz hC hm hm2 kk
  · exact s_U2im cu_X11_266_4 hown hd (hs.get (k := 4)) rfl hz hC hm hm2 kk
  · exact s_U2im cu_X11_266_7 hown hd (hs.get (k := 5)) rfl hz hC hm hm2 kk
  · exact s_U2im cu_X11_266_12 hown hd (hs.get (k := 6)) rfl hz hC hm hm2 kk
theorem u2i_X3_40 {n : Nat} {k i v : Int32} {v1 v2 : Value} {P : Int32 → HP → Prop} (hs : SV D n k i v) (hd : decode q.2.1 pc = .ok (.invokevirtual 40, 3)) (hown : q.1.cls = RX3) (hz : (st.map fun v => v.category).sum ≤ 8) (hC : Con d (Q_tosses k) 0 0 (.ref n :: [v1, v2]) (xh X M D) (PI P)) (kk : ∀ (x : Int32) (h1 : HP), P x h1 → Sem (d + 1) q mc ms (pc + 3) L (.int x :: st) h1 Qp) : Sem (d + 1) q mc ms pc L (v2 :: v1 :: .ref n :: st) (xh X M D) Qp := by
  rcases i07 hs.2.2 with rfl | rfl | rfl | rfl | rfl | rfl | rfl
  · exact s_U2i cu_X3_40_5 hown hd (hs.get (k := 0)) rfl hz hC kk
  · exact s_U2i cu_X3_40_3 hown hd (hs.get (k := 1)) rfl hz hC kk
  · exact s_U2i cu_X3_40_10 hown hd (hs.get (k := 2)) rfl hz hC kk
  · exact s_U2i cu_X3_40_11 hown hd (hs.get (k := 3)) rfl hz hC kk
  · exact s_U2i cu_X3_40_4 hown hd (hs.get (k := 4)) rfl hz hC kk
  · exact s_U2i cu_X3_40_7 hown hd (hs.get (k := 5)) rfl hz hC kk
  · exact s_U2i cu_X3_40_12 hown hd (hs.get (k := 6)) rfl hz hC kk
theorem u2im_X3_40 {n : Nat} {k i v : Int32} {v1 v2 : Value} {mc1 ms1 mc2 ms2 : Nat} {P : Int32 → HP → Prop} (hs : SV D n k i v) (hd : decode q.2.1 pc = .ok (.invokevirtual 40, 3)) (hown : q.1.cls = RX3) (hz : (st.map fun v => v.category).sum ≤ 8) (hC : Con d (Q_tosses k) mc1 ms1 (.ref n :: [v1, v2]) (xh X M D) (PI P)) (hm : mc1 + mc = mc2) (hm2 : ms1 + ms = ms2) (kk : ∀ (x : Int32) (h1 : HP), P x h1 → Sem (d + 1) q mc ms (pc + 3) L (.int x :: st) h1 Qp) : Sem (d + 1) q mc2 ms2 pc L (v2 :: v1 :: .ref n :: st) (xh X M D) Qp := by
  rcases i07 hs.2.2 with rfl | rfl | rfl | rfl | rfl | rfl | rfl
  · exact s_U2im cu_X3_40_5 hown hd (hs.get (k := 0)) rfl hz hC hm hm2 kk
  · exact s_U2im cu_X3_40_3 hown hd (hs.get (k := 1)) rfl hz hC hm hm2 kk
  · exact s_U2im cu_X3_40_10 hown hd (hs.get (k := 2)) rfl hz hC hm hm2 kk
  · exact s_U2im cu_X3_40_11 hown hd (hs.get (k := 3)) rfl hz hC hm hm2 kk
  · exact s_U2im cu_X3_40_4 hown hd (hs.get (k := 4)) rfl hz hC hm hm2 kk
  · exact s_U2im cu_X3_40_7 hown hd (hs.get (k := 5)) rfl hz hC hm hm2 kk
  · exact s_U2im cu_X3_40_12 hown hd (hs.get (k := 6)) rfl hz hC hm hm2 kk
theorem u2i_X3_44 {n : Nat} {k i v : Int32} {v1 v2 : Value} {P : Int32 → HP → Prop} (hs : SV D n k i v) (hd : decode q.2.1 pc = .ok (.invokevirtual 44, 3)) (hown : q.1.cls = RX3) (hz : (st.map fun v => v.category).sum ≤ 8) (hC : Con d (Q_strikes k) 0 0 (.ref n :: [v1, v2]) (xh X M D) (PI P)) (kk : ∀ (x : Int32) (h1 : HP), P x h1 → Sem (d + 1) q mc ms (pc + 3) L (.int x :: st) h1 Qp) : Sem (d + 1) q mc ms pc L (v2 :: v1 :: .ref n :: st) (xh X M D) Qp := by
  rcases i07 hs.2.2 with rfl | rfl | rfl | rfl | rfl | rfl | rfl
  · exact s_U2i cu_X3_44_5 hown hd (hs.get (k := 0)) rfl hz hC kk
  · exact s_U2i cu_X3_44_3 hown hd (hs.get (k := 1)) rfl hz hC kk
  · exact s_U2i cu_X3_44_10 hown hd (hs.get (k := 2)) rfl hz hC kk
  · exact s_U2i cu_X3_44_11 hown hd (hs.get (k := 3)) rfl hz hC kk
  · exact s_U2i cu_X3_44_4 hown hd (hs.get (k := 4)) rfl hz hC kk
  · exact s_U2i cu_X3_44_7 hown hd (hs.get (k := 5)) rfl hz hC kk
  · exact s_U2i cu_X3_44_12 hown hd (hs.get (k := 6)) rfl hz hC kk
theorem u2im_X3_44 {n : Nat} {k i v : Int32} {v1 v2 : Value} {mc1 ms1 mc2 ms2 : Nat} {P : Int32 → HP → Prop} (hs : SV D n k i v) (hd : decode q.2.1 pc = .ok (.invokevirtual 44, 3)) (hown : q.1.cls = RX3) (hz : (st.map fun v => v.category).sum ≤ 8) (hC : Con d (Q_strikes k) mc1 ms1 (.ref n :: [v1, v2]) (xh X M D) (PI P)) (hm : mc1 + mc = mc2) (hm2 : ms1 + ms = ms2) (kk : ∀ (x : Int32) (h1 : HP), P x h1 → Sem (d + 1) q mc ms (pc + 3) L (.int x :: st) h1 Qp) : Sem (d + 1) q mc2 ms2 pc L (v2 :: v1 :: .ref n :: st) (xh X M D) Qp := by
  rcases i07 hs.2.2 with rfl | rfl | rfl | rfl | rfl | rfl | rfl
  · exact s_U2im cu_X3_44_5 hown hd (hs.get (k := 0)) rfl hz hC hm hm2 kk
  · exact s_U2im cu_X3_44_3 hown hd (hs.get (k := 1)) rfl hz hC hm hm2 kk
  · exact s_U2im cu_X3_44_10 hown hd (hs.get (k := 2)) rfl hz hC hm hm2 kk
  · exact s_U2im cu_X3_44_11 hown hd (hs.get (k := 3)) rfl hz hC hm hm2 kk
  · exact s_U2im cu_X3_44_4 hown hd (hs.get (k := 4)) rfl hz hC hm hm2 kk
  · exact s_U2im cu_X3_44_7 hown hd (hs.get (k := 5)) rfl hz hC hm hm2 kk
  · exact s_U2im cu_X3_44_12 hown hd (hs.get (k := 6)) rfl hz hC hm hm2 kk
theorem u1i_X4_105 {n : Nat} {k i v : Int32} {v1 : Value} {P : Int32 → HP → Prop} (hs : SV D n k i v) (hd : decode q.2.1 pc = .ok (.invokevirtual 105, 3)) (hown : q.1.cls = RX4) (hz : (st.map fun v => v.category).sum ≤ 8) (hC : Con d (Q_winsAgainst k) 0 0 (.ref n :: [v1]) (xh X M D) (PI P)) (kk : ∀ (x : Int32) (h1 : HP), P x h1 → Sem (d + 1) q mc ms (pc + 3) L (.int x :: st) h1 Qp) : Sem (d + 1) q mc ms pc L (v1 :: .ref n :: st) (xh X M D) Qp := by
  rcases i07 hs.2.2 with rfl | rfl | rfl | rfl | rfl | rfl | rfl
  · exact s_U1i cu_X4_105_5 hown hd (hs.get (k := 0)) rfl hz hC kk
  · exact s_U1i cu_X4_105_3 hown hd (hs.get (k := 1)) rfl hz hC kk
  · exact s_U1i cu_X4_105_10 hown hd (hs.get (k := 2)) rfl hz hC kk
  · exact s_U1i cu_X4_105_11 hown hd (hs.get (k := 3)) rfl hz hC kk
  · exact s_U1i cu_X4_105_4 hown hd (hs.get (k := 4)) rfl hz hC kk
  · exact s_U1i cu_X4_105_7 hown hd (hs.get (k := 5)) rfl hz hC kk
  · exact s_U1i cu_X4_105_12 hown hd (hs.get (k := 6)) rfl hz hC kk
theorem u1im_X4_105 {n : Nat} {k i v : Int32} {v1 : Value} {mc1 ms1 mc2 ms2 : Nat} {P : Int32 → HP → Prop} (hs : SV D n k i v) (hd : decode q.2.1 pc = .ok (.invokevirtual 105, 3)) (hown : q.1.cls = RX4) (hz : (st.map fun v => v.category).sum ≤ 8) (hC : Con d (Q_winsAgainst k) mc1 ms1 (.ref n :: [v1]) (xh X M D) (PI P)) (hm : mc1 + mc = mc2) (hm2 : ms1 + ms = ms2) (kk : ∀ (x : Int32) (h1 : HP), P x h1 → Sem (d + 1) q mc ms (pc + 3) L (.int x :: st) h1 Qp) : Sem (d + 1) q mc2 ms2 pc L (v1 :: .ref n :: st) (xh X M D) Qp := by
  rcases i07 hs.2.2 with rfl | rfl | rfl | rfl | rfl | rfl | rfl
  · exact s_U1im cu_X4_105_5 hown hd (hs.get (k := 0)) rfl hz hC hm hm2 kk
  · exact s_U1im cu_X4_105_3 hown hd (hs.get (k := 1)) rfl hz hC hm hm2 kk
  · exact s_U1im cu_X4_105_10 hown hd (hs.get (k := 2)) rfl hz hC hm hm2 kk
  · exact s_U1im cu_X4_105_11 hown hd (hs.get (k := 3)) rfl hz hC hm hm2 kk
  · exact s_U1im cu_X4_105_4 hown hd (hs.get (k := 4)) rfl hz hC hm hm2 kk
  · exact s_U1im cu_X4_105_7 hown hd (hs.get (k := 5)) rfl hz hC hm hm2 kk
  · exact s_U1im cu_X4_105_12 hown hd (hs.get (k := 6)) rfl hz hC hm hm2 kk
theorem u1i_X4_131 {n : Nat} {k i v : Int32} {v1 : Value} {P : Int32 → HP → Prop} (hs : SV D n k i v) (hd : decode q.2.1 pc = .ok (.invokevirtual 131, 3)) (hown : q.1.cls = RX4) (hz : (st.map fun v => v.category).sum ≤ 8) (hC : Con d (Q_first k) 0 0 (.ref n :: [v1]) (xh X M D) (PI P)) (kk : ∀ (x : Int32) (h1 : HP), P x h1 → Sem (d + 1) q mc ms (pc + 3) L (.int x :: st) h1 Qp) : Sem (d + 1) q mc ms pc L (v1 :: .ref n :: st) (xh X M D) Qp := by
  rcases i07 hs.2.2 with rfl | rfl | rfl | rfl | rfl | rfl | rfl
  · exact s_U1i cu_X4_131_5 hown hd (hs.get (k := 0)) rfl hz hC kk
  · exact s_U1i cu_X4_131_3 hown hd (hs.get (k := 1)) rfl hz hC kk
  · exact s_U1i cu_X4_131_10 hown hd (hs.get (k := 2)) rfl hz hC kk
  · exact s_U1i cu_X4_131_11 hown hd (hs.get (k := 3)) rfl hz hC kk
  · exact s_U1i cu_X4_131_4 hown hd (hs.get (k := 4)) rfl hz hC kk
  · exact s_U1i cu_X4_131_7 hown hd (hs.get (k := 5)) rfl hz hC kk
  · exact s_U1i cu_X4_131_12 hown hd (hs.get (k := 6)) rfl hz hC kk
theorem u1im_X4_131 {n : Nat} {k i v : Int32} {v1 : Value} {mc1 ms1 mc2 ms2 : Nat} {P : Int32 → HP → Prop} (hs : SV D n k i v) (hd : decode q.2.1 pc = .ok (.invokevirtual 131, 3)) (hown : q.1.cls = RX4) (hz : (st.map fun v => v.category).sum ≤ 8) (hC : Con d (Q_first k) mc1 ms1 (.ref n :: [v1]) (xh X M D) (PI P)) (hm : mc1 + mc = mc2) (hm2 : ms1 + ms = ms2) (kk : ∀ (x : Int32) (h1 : HP), P x h1 → Sem (d + 1) q mc ms (pc + 3) L (.int x :: st) h1 Qp) : Sem (d + 1) q mc2 ms2 pc L (v1 :: .ref n :: st) (xh X M D) Qp := by
  rcases i07 hs.2.2 with rfl | rfl | rfl | rfl | rfl | rfl | rfl
  · exact s_U1im cu_X4_131_5 hown hd (hs.get (k := 0)) rfl hz hC hm hm2 kk
  · exact s_U1im cu_X4_131_3 hown hd (hs.get (k := 1)) rfl hz hC hm hm2 kk
  · exact s_U1im cu_X4_131_10 hown hd (hs.get (k := 2)) rfl hz hC hm hm2 kk
  · exact s_U1im cu_X4_131_11 hown hd (hs.get (k := 3)) rfl hz hC hm hm2 kk
  · exact s_U1im cu_X4_131_4 hown hd (hs.get (k := 4)) rfl hz hC hm hm2 kk
  · exact s_U1im cu_X4_131_7 hown hd (hs.get (k := 5)) rfl hz hC hm hm2 kk
  · exact s_U1im cu_X4_131_12 hown hd (hs.get (k := 6)) rfl hz hC hm hm2 kk
theorem u1i_X4_135 {n : Nat} {k i v : Int32} {v1 : Value} {P : Int32 → HP → Prop} (hs : SV D n k i v) (hd : decode q.2.1 pc = .ok (.invokevirtual 135, 3)) (hown : q.1.cls = RX4) (hz : (st.map fun v => v.category).sum ≤ 8) (hC : Con d (Q_second k) 0 0 (.ref n :: [v1]) (xh X M D) (PI P)) (kk : ∀ (x : Int32) (h1 : HP), P x h1 → Sem (d + 1) q mc ms (pc + 3) L (.int x :: st) h1 Qp) : Sem (d + 1) q mc ms pc L (v1 :: .ref n :: st) (xh X M D) Qp := by
  rcases i07 hs.2.2 with rfl | rfl | rfl | rfl | rfl | rfl | rfl
  · exact s_U1i cu_X4_135_5 hown hd (hs.get (k := 0)) rfl hz hC kk
  · exact s_U1i cu_X4_135_3 hown hd (hs.get (k := 1)) rfl hz hC kk
  · exact s_U1i cu_X4_135_10 hown hd (hs.get (k := 2)) rfl hz hC kk
  · exact s_U1i cu_X4_135_11 hown hd (hs.get (k := 3)) rfl hz hC kk
  · exact s_U1i cu_X4_135_4 hown hd (hs.get (k := 4)) rfl hz hC kk
  · exact s_U1i cu_X4_135_7 hown hd (hs.get (k := 5)) rfl hz hC kk
  · exact s_U1i cu_X4_135_12 hown hd (hs.get (k := 6)) rfl hz hC kk
theorem u1im_X4_135 {n : Nat} {k i v : Int32} {v1 : Value} {mc1 ms1 mc2 ms2 : Nat} {P : Int32 → HP → Prop} (hs : SV D n k i v) (hd : decode q.2.1 pc = .ok (.invokevirtual 135, 3)) (hown : q.1.cls = RX4) (hz : (st.map fun v => v.category).sum ≤ 8) (hC : Con d (Q_second k) mc1 ms1 (.ref n :: [v1]) (xh X M D) (PI P)) (hm : mc1 + mc = mc2) (hm2 : ms1 + ms = ms2) (kk : ∀ (x : Int32) (h1 : HP), P x h1 → Sem (d + 1) q mc ms (pc + 3) L (.int x :: st) h1 Qp) : Sem (d + 1) q mc2 ms2 pc L (v1 :: .ref n :: st) (xh X M D) Qp := by
  rcases i07 hs.2.2 with rfl | rfl | rfl | rfl | rfl | rfl | rfl
  · exact s_U1im cu_X4_135_5 hown hd (hs.get (k := 0)) rfl hz hC hm hm2 kk
  · exact s_U1im cu_X4_135_3 hown hd (hs.get (k := 1)) rfl hz hC hm hm2 kk
  · exact s_U1im cu_X4_135_10 hown hd (hs.get (k := 2)) rfl hz hC hm hm2 kk
  · exact s_U1im cu_X4_135_11 hown hd (hs.get (k := 3)) rfl hz hC hm hm2 kk
  · exact s_U1im cu_X4_135_4 hown hd (hs.get (k := 4)) rfl hz hC hm hm2 kk
  · exact s_U1im cu_X4_135_7 hown hd (hs.get (k := 5)) rfl hz hC hm hm2 kk
  · exact s_U1im cu_X4_135_12 hown hd (hs.get (k := 6)) rfl hz hC hm hm2 kk
theorem u2i_X9_44 {n : Nat} {k i v : Int32} {v1 v2 : Value} {P : Int32 → HP → Prop} (hs : SV D n k i v) (hk : k = 3 ∨ k = 6) (hd : decode q.2.1 pc = .ok (.invokevirtual 44, 3)) (hown : q.1.cls = RX9) (hz : (st.map fun v => v.category).sum ≤ 8) (hC : Con d (Q_strikes k) 0 0 (.ref n :: [v1, v2]) (xh X M D) (PI P)) (kk : ∀ (x : Int32) (h1 : HP), P x h1 → Sem (d + 1) q mc ms (pc + 3) L (.int x :: st) h1 Qp) : Sem (d + 1) q mc ms pc L (v2 :: v1 :: .ref n :: st) (xh X M D) Qp := by
  rcases hk with rfl | rfl
  · exact s_U2i cu_X9_44_11 hown hd (hs.get (k := 3)) rfl hz hC kk
  · exact s_U2i cu_X9_44_12 hown hd (hs.get (k := 6)) rfl hz hC kk
theorem u2im_X9_44 {n : Nat} {k i v : Int32} {v1 v2 : Value} {mc1 ms1 mc2 ms2 : Nat} {P : Int32 → HP → Prop} (hs : SV D n k i v) (hk : k = 3 ∨ k = 6) (hd : decode q.2.1 pc = .ok (.invokevirtual 44, 3)) (hown : q.1.cls = RX9) (hz : (st.map fun v => v.category).sum ≤ 8) (hC : Con d (Q_strikes k) mc1 ms1 (.ref n :: [v1, v2]) (xh X M D) (PI P)) (hm : mc1 + mc = mc2) (hm2 : ms1 + ms = ms2) (kk : ∀ (x : Int32) (h1 : HP), P x h1 → Sem (d + 1) q mc ms (pc + 3) L (.int x :: st) h1 Qp) : Sem (d + 1) q mc2 ms2 pc L (v2 :: v1 :: .ref n :: st) (xh X M D) Qp := by
  rcases hk with rfl | rfl
  · exact s_U2im cu_X9_44_11 hown hd (hs.get (k := 3)) rfl hz hC hm hm2 kk
  · exact s_U2im cu_X9_44_12 hown hd (hs.get (k := 6)) rfl hz hC hm hm2 kk
end SVRules
