/-! A CALL ON BOTH SIDES -/
def PairI (qx qm : QM) (args : List Value) (X : XZ) (M : MZ) (D : HP) : Prop := ∃ (mc ms : Nat) (a : Int32) (Φ : XZ → HP → Prop), mc ≤ 12 ∧ ms ≤ 180 ∧ Con 40 qx mc ms (.ref 0 :: args) (xh X M D) (PI fun y h => y = a ∧ ∃ X2 D2, h = xh X2 M D2 ∧ Φ X2 D2) ∧ ∀ X2 D2, Φ X2 D2 → Con 40 qm 0 0 (.ref 95 :: args) (xh X2 M D2) (PI fun y h => y = a ∧ ∃ M2, h = xh X2 M2 D2 ∧ RR X2 M2 D2)
def PairL (qx qm : QM) (args : List Value) (X : XZ) (M : MZ) (D : HP) : Prop := ∃ (mc ms : Nat) (a : Int64) (Φ : XZ → HP → Prop), mc ≤ 12 ∧ ms ≤ 180 ∧ Con 40 qx mc ms (.ref 0 :: args) (xh X M D) (PL fun y h => y = a ∧ ∃ X2 D2, h = xh X2 M D2 ∧ Φ X2 D2) ∧ ∀ X2 D2, Φ X2 D2 → Con 40 qm 0 0 (.ref 95 :: args) (xh X2 M D2) (PL fun y h => y = a ∧ ∃ M2, h = xh X2 M2 D2 ∧ RR X2 M2 D2)
section Pairs
variable {qx qm : QM} {args : List Value} {X : XZ} {M : MZ} {D : HP}
theorem pair_c {y0 : Int32} {Φ : XZ → Prop} (hx : Con 40 qx 0 0 (.ref 0 :: args) (xh X M D) (PI fun y h => y = y0 ∧ ∃ X2, h = xh X2 M D ∧ Φ X2)) (hm : ∀ X2, Φ X2 → Con 40 qm 0 0 (.ref 95 :: args) (mh (xcells X2) M D) (PI fun y h => y = y0 ∧ ∃ M2, h = mh (xcells X2) M2 D ∧ RR X2 M2 D)) : PairI qx qm args X M D :=
  ⟨0, 0, y0, fun X2 D2 => D2 = D ∧ Φ X2, by decide, by decide, hx.mono (fun r h' ⟨x, e, e1, X2, e2, e3⟩ => ⟨x, e, e1, X2, D, e2, rfl, e3⟩), fun X2 D2 ⟨e1, e2⟩ => by
    subst e1
    exact hm X2 e2⟩
theorem pairL_c {y0 : Int64} {Φ : XZ → Prop} (hx : Con 40 qx 0 0 (.ref 0 :: args) (xh X M D) (PL fun y h => y = y0 ∧ ∃ X2, h = xh X2 M D ∧ Φ X2)) (hm : ∀ X2, Φ X2 → Con 40 qm 0 0 (.ref 95 :: args) (mh (xcells X2) M D) (PL fun y h => y = y0 ∧ ∃ M2, h = mh (xcells X2) M2 D ∧ RR X2 M2 D)) : PairL qx qm args X M D :=
  ⟨0, 0, y0, fun X2 D2 => D2 = D ∧ Φ X2, by decide, by decide, hx.mono (fun r h' ⟨x, e, e1, X2, e2, e3⟩ => ⟨x, e, e1, X2, D, e2, rfl, e3⟩), fun X2 D2 ⟨e1, e2⟩ => by
    subst e1
    exact hm X2 e2⟩
theorem pair_q {y0 : Int32} (h : RR X M D) (hx : Con 40 qx 0 0 (.ref 0 :: args) (xh X M D) (PI fun y h => y = y0 ∧ ∃ X2, h = xh X2 M D ∧ FQ X X2)) (hm : ∀ X2, Con 40 qm 0 0 (.ref 95 :: args) (mh (xcells X2) (scr M M) D) (XS (xcells X2) D y0 M M)) : PairI qx qm args X M D :=
  pair_c hx (fun X2 hq => by
    have h9 := hm X2
    rw [scr_id] at h9
    exact h9.mono (fun r h' ⟨x, e, e1, g, e2⟩ => ⟨x, e, e1, _, e2, (h.fq hq).mo (MO.scr _ _)⟩))
theorem pair_t {y0 : Int32} (h : RR X M D) (hx : Con 40 qx 0 0 (.ref 0 :: args) (xh X M D) (PI fun y h => y = y0 ∧ ∃ X2, h = xh X2 M D ∧ FQ X X2)) (hm : ∀ X2, Con 40 qm 0 0 (.ref 95 :: args) (mh (xcells X2) (scr M M) D) (XT (xcells X2) D y0 M)) : PairI qx qm args X M D :=
  pair_c hx (fun X2 hq => by
    have h9 := hm X2
    rw [scr_id] at h9
    exact h9.mono (fun r h' ⟨x, e, e1, g, e2⟩ => ⟨x, e, e1, _, e2, (h.fq hq).mo (MO.scr _ _)⟩))
theorem pairL_q {y0 : Int64} (h : RR X M D) (hx : Con 40 qx 0 0 (.ref 0 :: args) (xh X M D) (PL fun y h => y = y0 ∧ ∃ X2, h = xh X2 M D ∧ FQ X X2)) (hm : ∀ X2, Con 40 qm 0 0 (.ref 95 :: args) (mh (xcells X2) (scr M M) D) (XSL (xcells X2) D y0 M M)) : PairL qx qm args X M D :=
  pairL_c hx (fun X2 hq => by
    have h9 := hm X2
    rw [scr_id] at h9
    exact h9.mono (fun r h' ⟨x, e, e1, g, e2⟩ => ⟨x, e, e1, _, e2, (h.fq hq).mo (MO.scr _ _)⟩))
theorem pairL_t {y0 : Int64} (h : RR X M D) (hx : Con 40 qx 0 0 (.ref 0 :: args) (xh X M D) (PL fun y h => y = y0 ∧ ∃ X2, h = xh X2 M D ∧ FQ X X2)) (hm : ∀ X2, Con 40 qm 0 0 (.ref 95 :: args) (mh (xcells X2) (scr M M) D) (XTL (xcells X2) D y0 M)) : PairL qx qm args X M D :=
  pairL_c hx (fun X2 hq => by
    have h9 := hm X2
    rw [scr_id] at h9
    exact h9.mono (fun r h' ⟨x, e, e1, g, e2⟩ => ⟨x, e, e1, _, e2, (h.fq hq).mo (MO.scr _ _)⟩))
theorem pair_p {y0 : Int32} (h : RR X M D) (hx : Con 40 qx 0 0 (.ref 0 :: args) (xh X M D) (XI y0 (xh X M D))) (hm : Con 40 qm 0 0 (.ref 95 :: args) (mh (xcells X) M D) (XI y0 (mh (xcells X) M D))) : PairI qx qm args X M D :=
  pair_c (Φ := fun X2 => X2 = X) (hx.mono (fun r h' ⟨x, e, e1, e2⟩ => ⟨x, e, e1, X, e2, rfl⟩)) (fun X2 e => by
    subst e
    exact hm.mono (fun r h' ⟨x, e, e1, e2⟩ => ⟨x, e, e1, M, e2, h⟩))
/-- what the calls ask of the relation -/
theorem RR.z {X : XZ} {M : MZ} {D : HP} (h : RR X M D) : 0 ≤ M.1 0 ∧ M.1 0 ≤ 4 := h.ki.1.1
theorem RR.sv {X : XZ} {M : MZ} {D : HP} (h : RR X M D) : ∀ i, i < 4 → 0 ≤ M.2.1 4 i := fun i hi => (h.ki.2.1 i hi).1
theorem RR.b1 {X : XZ} {M : MZ} {D : HP} (h : RR X M D) : bw (M.1 1) 4 := bw_of (m := 4) (by decide) h.ki.1.2.1
theorem RR.b2 {X : XZ} {M : MZ} {D : HP} (h : RR X M D) : bw (M.1 2) 4 := bw_of (m := 4) (by decide) h.ki.1.2.2
theorem RR.rv {X : XZ} {M : MZ} {D : HP} (h : RR X M D) : RV X := h.2.2.2.2.2.1
theorem RR.rp {X : XZ} {M : MZ} {D : HP} (h : RR X M D) : RP X M := h.2.2.2.2.2.2.1
theorem RR.ri {X : XZ} {M : MZ} {D : HP} (h : RR X M D) : ∃ F, RI F M := by
  obtain ⟨-, ⟨F, -, -, -, hri, -⟩, -⟩ := h
  exact ⟨F, hri⟩
theorem nI_self {x : Int32} {n m : Nat} (hn : n ≤ m) (hm : m < 1000) (e : x = nI n) : x = nI (pz x) ∧ pz x ≤ m := by
  subst e
  rw [pz5 n (by omega)]
  exact ⟨rfl, hn⟩
theorem RR.c12 {X : XZ} {M : MZ} {D : HP} (h : RR X M D) : M.1 12 = nI (pz (M.1 12)) ∧ pz (M.1 12) ≤ 6 := by
  obtain ⟨F, -, ⟨⟨n, h1, h2⟩, -⟩, -⟩ := h.ri
  exact nI_self h1 (by decide) h2
theorem RR.c13 {X : XZ} {M : MZ} {D : HP} (h : RR X M D) : M.1 13 = nI (pz (M.1 13)) ∧ pz (M.1 13) ≤ 10 := by
  obtain ⟨F, -, -, -, ⟨n, h1, h2, -⟩, -⟩ := h.ri
  exact nI_self h1 (by decide) h2
theorem RR.bk {X : XZ} {M : MZ} {D : HP} (h : RR X M D) : ∀ j, j < pz (M.1 13) → isS M (M.2.1 20 j) := fun j hj => by
  obtain ⟨F, -, -, -, ⟨n, h1, h2, h3⟩, -⟩ := h.ri
  rw [h2, pz5 n (by omega)] at hj
  exact h3 j hj
theorem RR.sn {X : XZ} {M : MZ} {D : HP} (h : RR X M D) : ∀ j, j < 6 → (0 ≤ M.2.1 18 j ∧ M.2.1 18 j ≤ 9) ∧ (0 ≤ M.2.1 19 j ∧ M.2.1 19 j ≤ 9) := by
  obtain ⟨F, -, ⟨-, h2⟩, -⟩ := h.ri
  exact h2
theorem RR.rw {X : XZ} {M : MZ} {D : HP} (h : RR X M D) : ∀ i, i < 16 → 0 ≤ M.2.1 5 i ∧ M.2.1 5 i ≤ 9 := by
  obtain ⟨F, -, -, h3, -⟩ := h.ri
  exact h3
theorem RR.zr {X : XZ} {M : MZ} {D : HP} (h : RR X M D) : ∀ j : Nat, j < 4 → M.1 0 = nI j → M.2.1 4 j = 0 ∧ ∀ r, r < 4 → M.2.1 5 (4 * j + r) = 0 := fun j hj e => by
  obtain ⟨F, -, -, -, -, h5, -⟩ := h.ri
  exact h5 j hj (by rw [e]; exact Int32.not_lt.mpr (Int32.le_refl _))
theorem RR.ln {X : XZ} {M : MZ} {D : HP} (h : RR X M D) : ∀ j, j < 6 → 0 ≤ M.2.1 37 j ∧ M.2.1 37 j ≤ 60 := fun j hj => (h.rp j hj).2.2.2.1
theorem c_in {x : Int32} {n m : Nat} (e : x = nI n) (hn : n ≤ m) (hm : m < 1000) : 0 ≤ x ∧ x ≤ nI m := by
  subst e
  exact ⟨Int32.not_lt.mp (nI_pos (by omega)), nI_le hn (by omega)⟩
end Pairs
