/-- the kinds' first, second, winsAgainst -/
theorem x_first (d : Nat) (X : XZ) (M : MZ) (D : HP) {w : Nat} (hw : w < 3) {K : MZ} (hR : SR X D w K) (hK : KI K) {n : Nat} {p v : Int32} (hs : SV D n (K.2.1 0 (pz p)) p v) (hp : vp_in p 4) : Con (d + 2) (Q_first (K.2.1 0 (pz p))) 0 0 [.ref n, .ref (1 + 11 * w)] (xh X M D) (XI (mFirst K p) (xh X M D)) := by
  unfold mFirst
  generalize hk : K.2.1 0 (pz p) = k at hs
  rcases i07 hs.2.2 with rfl | rfl | rfl | rfl | rfl | rfl | rfl
  · exact x3_first _ X M D hw hR hs hp
  · exact x3_first _ X M D hw hR hs hp
  · exact x8_first _ X M D hw hR hs hp (Or.inl rfl)
  · exact x9_first _ X M D hw hR hK hs hp (Or.inl rfl)
  · exact x3_first _ X M D hw hR hs hp
  · exact x5_first _ X M D hw hR hs hp rfl
  · exact x10_first _ X M D hw hR hK hs hp rfl
theorem x_second (d : Nat) (X : XZ) (M : MZ) (D : HP) {w : Nat} (hw : w < 3) {K : MZ} (hR : SR X D w K) {n : Nat} {p v : Int32} (hs : SV D n (K.2.1 0 (pz p)) p v) (hp : vp_in p 4) : Con d (Q_second (K.2.1 0 (pz p))) 0 0 [.ref n, .ref (1 + 11 * w)] (xh X M D) (XI (mSecond K p) (xh X M D)) := by
  unfold mSecond
  generalize hk : K.2.1 0 (pz p) = k at hs
  rcases i07 hs.2.2 with rfl | rfl | rfl | rfl | rfl | rfl | rfl
  · exact x3_second _ X M D hw hR hs hp
  · exact x1_second _ X M D hw hR hs hp (Or.inl rfl)
  · exact x3_second _ X M D hw hR hs hp
  · exact x3_second _ X M D hw hR hs hp
  · exact x1_second _ X M D hw hR hs hp (Or.inr rfl)
  · exact x3_second _ X M D hw hR hs hp
  · exact x3_second _ X M D hw hR hs hp
theorem x_wins (d : Nat) (X : XZ) (M : MZ) (D : HP) {n : Nat} {k p v : Int32} (hs : SV D n k p v) (x : Int32) : Con (d + 1) (Q_winsAgainst k) 0 0 [.ref n, .int x] (xh X M D) (XI (if k = 4 then (if 0 < x - v then x - v else 0) else x) (xh X M D)) := by
  rcases i07 hs.2.2 with rfl | rfl | rfl | rfl | rfl | rfl | rfl
  · exact x3_wins _ X M D hs x
  · exact x3_wins _ X M D hs x
  · exact x3_wins _ X M D hs x
  · exact x3_wins _ X M D hs x
  · exact x2_wins _ X M D hs rfl x
  · exact x3_wins _ X M D hs x
  · exact x3_wins _ X M D hs x
/-! courts of the class -/
/-- the model's token as the class has it -/
def tkX (t : Int32) : Int32 := if t = -33 then -1 else if t = -38 then -2 else if t < 0 then -3 else (t / 1000 * 3 + t / 100 % 10) * 100 + t % 100
def XCC (X : XZ) (c : Nat) : Nat → Nat → CLs → Prop
  | _, _, [] => True
  | fr, i, r :: cl => (X.2.1 (40 + 4 * c + 1) i = (if r.1 = 1 then 1 else 0) ∧ X.2.1 (40 + 4 * c + 2) i = (if r.1 = 2 then -r.2.1 else r.2.1) ∧ X.2.1 (40 + 4 * c + 3) i = nI (fr + r.2.2.length) ∧ fr + r.2.2.length ≤ 100 ∧ ∀ j, j < r.2.2.length → X.2.1 (40 + 4 * c + 0) (fr + j) = tkX (r.2.2.getD j 0)) ∧ XCC X c (fr + r.2.2.length) (i + 1) cl
/-- clauses as reading makes them -/
def CLW (cl : CLs) : Prop := cl.length ≤ 10 ∧ ∀ r, r ∈ cl → (r.1 = 0 ∨ r.1 = 1 ∨ r.1 = 2) ∧ wfs r.2.2 0 ∧ ∀ t, t ∈ r.2.2 → tkf t
def XC (X : XZ) (c : Nat) (cl : CLs) : Prop := X.1 (29 + 2 * c) = nI cl.length ∧ XCC X c 0 0 cl
/-- the bits of x are the stack, the lowest its top -/
def BT (x : Int32) (sk : List Bool) : Prop := ∀ i, i < sk.length → x.toBitVec.getLsbD i = sk.getD i false
theorem bit1 (x : Int32) : x.toBitVec.getLsbD 0 = true ↔ x &&& 1 = 1 := by
  rw [← Int32.toBitVec_inj, Int32.toBitVec_and]
  constructor
  · intro h
    apply BitVec.eq_of_getLsbD_eq
    intro i hi
    rw [BitVec.getLsbD_and]
    by_cases e : i = 0
    · subst e; rw [h]; rfl
    · have : (1 : Int32).toBitVec.getLsbD i = false := by
        show (1#32).getLsbD i = false
        rw [BitVec.getLsbD_one]
        simp [e]
      rw [this, Bool.and_false]
  · intro h
    have := congrArg (fun z => BitVec.getLsbD z 0) h
    simpa using this
theorem BT.not {x : Int32} {b : Bool} {sk : List Bool} (h : BT x (b :: sk)) (hl : sk.length < 32) : BT (x ^^^ 1) ((!b) :: sk) := by
  intro i hi
  have h1 := h i hi
  rw [Int32.toBitVec_xor, BitVec.getLsbD_xor, h1]
  cases i with
  | zero => cases b <;> rfl
  | succ i =>
    have : (1 : Int32).toBitVec.getLsbD (i + 1) = false := by
      show (1#32).getLsbD (i + 1) = false
      rw [BitVec.getLsbD_one]
      simp
    rw [this, Bool.xor_false]
    rfl
theorem bit_sr (x : Int32) {i : Nat} (hi : i + 1 < 32) : (x >>> ((1 : Int32) &&& 31)).toBitVec.getLsbD i = x.toBitVec.getLsbD (i + 1) := by
  rw [show ((1 : Int32) &&& 31) = 1 from by decide, Int32.toBitVec_shiftRight]
  show (x.toBitVec.sshiftRight 1).getLsbD i = _
  rw [BitVec.getLsbD_sshiftRight, if_pos (by omega), Nat.add_comm 1 i]
  simp
  omega
theorem bit_t (x : Int32) (i : Nat) : (x &&& 1).toBitVec.getLsbD i = (decide (i = 0) && x.toBitVec.getLsbD 0) := by
  rw [Int32.toBitVec_and, BitVec.getLsbD_and]
  show (x.toBitVec.getLsbD i && (1#32).getLsbD i) = _
  rw [BitVec.getLsbD_one]
  by_cases e : i = 0
  · subst e; simp
  · simp [e]
theorem BT.or {x : Int32} {a b : Bool} {sk : List Bool} (h : BT x (a :: b :: sk)) (hl : sk.length + 2 ≤ 32) : BT (x >>> ((1 : Int32) &&& 31) ||| (x &&& 1)) ((b || a) :: sk) := by
  intro i hi
  rw [List.length_cons] at hi
  rw [Int32.toBitVec_or, BitVec.getLsbD_or, bit_sr x (by omega), bit_t, h (i + 1) (by rw [List.length_cons, List.length_cons]; omega), h 0 (by simp)]
  cases i with
  | zero => cases a <;> cases b <;> rfl
  | succ i => simp
theorem bit_m2 (i : Nat) (hi : i < 32) : (-2 : Int32).toBitVec.getLsbD i = !decide (i = 0) := by
  have : ∀ i : Fin 32, (-2 : Int32).toBitVec.getLsbD i.val = !decide (i.val = 0) := by decide
  exact this ⟨i, hi⟩
theorem BT.and {x : Int32} {a b : Bool} {sk : List Bool} (h : BT x (a :: b :: sk)) (hl : sk.length + 2 ≤ 32) : BT (x >>> ((1 : Int32) &&& 31) &&& (x &&& 1 ||| -2)) ((b && a) :: sk) := by
  intro i hi
  rw [List.length_cons] at hi
  rw [Int32.toBitVec_and, BitVec.getLsbD_and, Int32.toBitVec_or, BitVec.getLsbD_or, bit_sr x (by omega), bit_t, bit_m2 i (by omega), h (i + 1) (by rw [List.length_cons, List.length_cons]; omega), h 0 (by simp)]
  cases i with
  | zero => cases a <;> cases b <;> rfl
  | succ i => simp
theorem BT.push {x : Int32} {b : Bool} {sk : List Bool} (h : BT x sk) (hl : sk.length < 32) {v : Int32} (hv : v = bz b) : BT (x <<< ((1 : Int32) &&& 31) ||| v) (b :: sk) := by
  intro i hi
  rw [List.length_cons] at hi
  subst hv
  rw [Int32.toBitVec_or, BitVec.getLsbD_or, show ((1 : Int32) &&& 31) = 1 from by decide, Int32.toBitVec_shiftLeft]
  show ((x.toBitVec <<< 1).getLsbD i || _) = _
  rw [BitVec.getLsbD_shiftLeft]
  cases i with
  | zero => cases b <;> simp <;> decide
  | succ i =>
    have e : (bz b).toBitVec.getLsbD (i + 1) = false := by
      cases b
      · show (0#32).getLsbD (i + 1) = false
        simp
      · show (1#32).getLsbD (i + 1) = false
        rw [BitVec.getLsbD_one]
        simp
    rw [e]
    have := h i (by omega)
    simp
    rw [this]
    simp
    omega
