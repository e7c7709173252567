/-! THE LIST OF BODIES: its row stands behind the servers' model, or is the empty one -/
def bx (b : Int32) : UInt32 := UInt32.ofNat (pz (b + 128))
theorem bx_in {b : Int32} (h : 0 ≤ b ∧ b ≤ 127) : vp_in (b + 128) 256 := by
  rw [vp_in_iff]
  have h1 := Int32.le_iff_toInt_le.mp h.1
  have h2 := Int32.le_iff_toInt_le.mp h.2
  rw [show (0 : Int32).toInt = 0 from rfl] at h1
  rw [show (127 : Int32).toInt = 127 from rfl] at h2
  have e : (b + 128).toInt = b.toInt + 128 := by rw [fb_addI (by rw [show (128 : Int32).toInt = 128 from rfl]; omega) (by rw [show (128 : Int32).toInt = 128 from rfl]; omega)]; rfl
  rw [e]
  omega
theorem bx_lt {b : Int32} (h : 0 ≤ b ∧ b ≤ 127) : (bx b).toNat < 256 := by
  have h1 : pz (b + 128) < 256 := Nat.not_le.mp fun z => bx_in h (Or.inr z)
  rw [bx, u_nat (by omega)]
  exact h1
theorem bx_val {b : Int32} (h : 0 ≤ b ∧ b ≤ 127) : vb_c (bx b).toNat = b := by
  have h1 : pz (b + 128) < 256 := Nat.not_le.mp fun z => bx_in h (Or.inr z)
  have h0 : 0 ≤ b + 128 := Int32.not_lt.mp fun z => bx_in h (Or.inl z)
  rw [bx, u_nat (by omega), vb_c]
  rw [show Int32.ofNat (pz (b + 128)) = b + 128 from (nI_pz h0).symm]
  exact Int32.add_sub_cancel _ _
/-- the list's row: the empty one, or one of 10 or 15 places -/
def AL (X : XZ) (D : HP) (cap : Nat) (f : Nat → Value) : Prop := (cap = 0 ∧ X.2.2.2.1 3 = .float 301) ∨ ((cap = 10 ∨ cap = 15) ∧ ∃ n, 136 ≤ n ∧ X.2.2.2.1 3 = .ref n ∧ D[n - 136]? = some (.inl (8, cap, .inr (.inr f))))
def BF (tr : List Int32) (f : Nat → Value) : Prop := ∀ i : Nat, i < tr.length → f i = .float (bx (tr.getD i 0))
/-- the bodies that ran -/
def BO (X : XZ) (D : HP) (tr : List Int32) : Prop := X.1 53 = nI tr.length ∧ tr.length ≤ 15 ∧ (∀ b, b ∈ tr → 0 ≤ b ∧ b ≤ 127) ∧ ∃ cap f, AL X D cap f ∧ tr.length ≤ cap ∧ BF tr f
/-- X2 is X but for the list; objects behind the model stay -/
def FD (D D2 : HP) : Prop := ∀ (i : Nat) (o : Nat × List Value), D[i]? = some (.inr o) → D2[i]? = some (.inr o)
def FB (X : XZ) (D : HP) (X2 : XZ) (D2 : HP) : Prop := (∀ k, k ≠ 52 → k ≠ 53 → X2.1 k = X.1 k) ∧ X2.2.1 = X.2.1 ∧ X2.2.2.1 = X.2.2.1 ∧ (∀ k, k ≠ 3 → X2.2.2.2.1 k = X.2.2.2.1 k) ∧ X2.2.2.2.2 = X.2.2.2.2 ∧ FD D D2
theorem FB.rf (X : XZ) (D : HP) : FB X D X D := ⟨fun _ _ _ => rfl, rfl, rfl, fun _ _ => rfl, rfl, fun _ _ h => h⟩
theorem FB.tr {X X2 X3 : XZ} {D D2 D3 : HP} (h : FB X D X2 D2) (h2 : FB X2 D2 X3 D3) : FB X D X3 D3 := ⟨fun k a b => (h2.1 k a b).trans (h.1 k a b), h2.2.1.trans h.2.1, h2.2.2.1.trans h.2.2.1, fun k hk => (h2.2.2.2.1 k hk).trans (h.2.2.2.1 k hk), h2.2.2.2.2.1.trans h.2.2.2.2.1, fun i o ho => h2.2.2.2.2.2 i o (h.2.2.2.2.2 i o ho)⟩
theorem FB.p1 {X X2 : XZ} {D D2 : HP} {k : Nat} {v : Int32} (h : FB X D X2 D2) (hk : k = 52 ∨ k = 53) : FB X D (x1 X2 k v) D2 := h.tr ⟨fun j a b => upd_ne (by omega), rfl, rfl, fun _ _ => rfl, rfl, fun _ _ h => h⟩
theorem FB.pv {X X2 : XZ} {D D2 : HP} {v : Value} (h : FB X D X2 D2) : FB X D (xv X2 3 v) D2 := h.tr ⟨fun _ _ _ => rfl, rfl, rfl, fun k hk => vaup_ne hk, rfl, fun _ _ h => h⟩
theorem FB.dd {X X2 : XZ} {D D2 D3 : HP} (h : FB X D X2 D2) (hd : FD D2 D3) : FB X D X2 D3 := h.tr ⟨fun _ _ _ => rfl, rfl, rfl, fun _ _ => rfl, rfl, hd⟩
theorem FD.push (D E : HP) : FD D (D ++ E) := fun i o h => by
  rw [List.getElem?_append_left (List.getElem?_eq_some_iff.mp h).1]
  exact h
theorem FD.set {D : HP} {n : Nat} {x y : Nat × Nat × HA} (h : D[n]? = some (.inl x)) : FD D (D.set n (.inl y)) := fun i o ho => by
  by_cases e : n = i
  · subst e
    rw [h] at ho
    cases ho
  · rw [List.getElem?_set_ne e]
    exact ho
theorem FD.tr {D D2 D3 : HP} (h : FD D D2) (h2 : FD D2 D3) : FD D D3 := fun i o ho => h2 i o (h i o ho)
theorem SV.fd {D D2 : HP} {n : Nat} {k i v : Int32} (h : SV D n k i v) (hd : FD D D2) : SV D2 n k i v := ⟨h.1, hd _ _ h.2.1, h.2.2⟩
theorem xh_len (X : XZ) (M : MZ) (D : HP) : (xh X M D).length = 136 + D.length := by
  unfold xh mh
  rw [List.length_append, List.length_append, xcells_len, mcells_len]
  omega
theorem xh_push (X : XZ) (M : MZ) (D : HP) (c : HC) : xh X M D ++ [c] = xh X M (D ++ [c]) := by
  unfold xh mh
  rw [List.append_assoc, List.append_assoc]
theorem xh_dset {X : XZ} {M : MZ} {D : HP} {n : Nat} {c : HC} (hn : 136 ≤ n) : (xh X M D).set n c = xh X M (D.set (n - 136) c) := by
  unfold xh mh
  rw [List.set_append_right _ _ (by rw [xcells_len]; omega), List.set_append_right _ _ (by rw [xcells_len, mcells_len]; omega), xcells_len, mcells_len, show n - 95 - 41 = n - 136 by omega]
theorem d_at {D : HP} {n : Nat} {c c2 : HC} (h : D[n]? = some c) : (D.set n c2)[n]? = some c2 := List.getElem?_set_self (List.getElem?_eq_some_iff.mp h).1
theorem d_new (D : HP) (c : HC) : (D ++ [c])[136 + D.length - 136]? = some c := by
  rw [show 136 + D.length - 136 = D.length by omega]
  exact List.getElem?_concat_length
theorem BF.push {tr : List Int32} {f : Nat → Value} {b : Int32} (h : BF tr f) : BF (tr ++ [b]) (va_up f tr.length (.float (bx b))) := by
  intro i hi
  rw [List.length_append, List.length_singleton] at hi
  rw [List.getD_eq_getElem?_getD]
  by_cases e : i = tr.length
  · subst e
    rw [List.getElem?_concat_length]
    exact if_pos rfl
  · rw [List.getElem?_append_left (by omega), ← List.getD_eq_getElem?_getD]
    exact (if_neg e).trans (h i (by omega))
theorem set_last (h : HP) (x y : HC) : (h ++ [x]).set h.length y = h ++ [y] := by
  rw [List.set_append_right _ _ (Nat.le_refl _), Nat.sub_self]
  rfl
