/-- the sign at place i, -1 behind the last -/
def sg (T : Nat → Int32) (N i : Nat) : Int32 := if i < N then T i else -1
def tkA (T : Nat → Int32) (N a : Nat) (c : Int32) : Nat := if sg T N a = c then a + 1 else a
abbrev dgt (x : Int32) : Prop := 48 ≤ x ∧ x ≤ 57
/-- the number at place a: how many digits, what they say -/
def nbK (T : Nat → Int32) (N a : Nat) : Nat := if dgt (sg T N a) then (if dgt (sg T N (a + 1)) then 2 else 1) else 0
def nbS (T : Nat → Int32) (N a : Nat) : Nat → Int32
  | 0 => 0
  | k + 1 => 10 * nbS T N a k + sg T N (a + k) - 48
theorem nb_fin {T : Nat → Int32} {N a k : Nat} (h0 : dgt (sg T N a)) (h1 : ∀ i, i < k → dgt (sg T N (a + i))) (h2 : k = 2 ∨ ¬ dgt (sg T N (a + k))) (h3 : k ≤ 2) : k = nbK T N a := by
  unfold nbK
  rw [if_pos h0]
  match k, h1, h2, h3 with
  | 0, h1, h2, h3 =>
    rcases h2 with h2 | h2
    · exact absurd h2 (by decide)
    · exact absurd h0 h2
  | 1, h1, h2, h3 =>
    rcases h2 with h2 | h2
    · exact absurd h2 (by decide)
    · rw [if_neg h2]
  | 2, h1, h2, h3 => rw [if_pos (h1 1 (by decide))]
def plc (c : Int32) : Int32 := if c = 112 then 0 else if c = 107 then 1 else if c = 102 then 2 else if c = 115 then 3 else if c = 119 then 4 else if c = 108 then 5 else -1
/-- the rows of what waits and of the tokens, newest first -/
def TWL (W : Nat → Int32) : List Int32 → Prop
  | [] => True
  | b :: r => W r.length = b ∧ TWL W r
def SGL (Sg : Nat → Int32) (bs : Nat) : List Int32 → Prop
  | [] => True
  | t :: r => Sg (bs + r.length) = t ∧ SGL Sg bs r
theorem SGL.up {Sg : Nat → Int32} {bs n : Nat} {v : Int32} : ∀ {tk : List Int32}, SGL Sg bs tk → bs + tk.length ≤ n → SGL (upd Sg n v) bs tk
  | [], _, _ => trivial
  | b :: r, h, hn => by
    rw [List.length_cons] at hn
    exact ⟨(if_neg (by omega)).trans h.1, SGL.up h.2 (by omega)⟩
theorem SGL.put {Sg : Nat → Int32} {bs : Nat} {tk : List Int32} (h : SGL Sg bs tk) (v : Int32) : SGL (upd Sg (bs + tk.length) v) bs (v :: tk) := ⟨if_pos rfl, h.up (Nat.le_refl _)⟩
theorem TWL.up {W : Nat → Int32} {n : Nat} {v : Int32} : ∀ {l : List Int32}, TWL W l → l.length ≤ n → TWL (upd W n v) l
  | [], _, _ => trivial
  | b :: r, h, hn => by
    rw [List.length_cons] at hn
    exact ⟨(if_neg (by omega)).trans h.1, TWL.up h.2 (by omega)⟩
theorem TWL.put {W : Nat → Int32} {l : List Int32} (h : TWL W l) (v : Int32) : TWL (upd W l.length v) (v :: l) := ⟨if_pos rfl, h.up (Nat.le_refl _)⟩
/-- how many ! and ( wait -/
def cO : List Int32 → Nat
  | [] => 0
  | b :: r => if b = 33 ∨ b = 40 then cO r + 1 else cO r
/-- a whole F stands there: every ! on top is done -/
def whW : List Int32 → List Int32
  | [] => []
  | b :: r => if b = 33 then whW r else b :: r
def whT : List Int32 → List Int32 → List Int32
  | [], tk => tk
  | b :: r, tk => if b = 33 then whT r (-33 :: tk) else tk
/-- the signs that bind closer than s are done -/
abbrev cls (b s : Int32) : Prop := b = 38 ∨ (b = 124 ∧ ¬ s = 38)
def stW (s : Int32) : List Int32 → List Int32
  | [] => []
  | b :: r => if cls b s then stW s r else b :: r
def stT (s : Int32) : List Int32 → List Int32 → List Int32
  | [], tk => tk
  | b :: r, tk => if cls b s then stT s r (-b :: tk) else tk
/-- the rows as told -/
def RD (M : MZ) (P D : HP) (bs a : Nat) (dg : Int32) (Wl tk : List Int32) (Sg0 W : Nat → Int32) (h : HP) : Prop := ∃ Sg, SGL Sg bs tk ∧ (∀ j, j < bs → Sg j = Sg0 j) ∧ h = mh P (pst M (nI a) dg (nI (bs + tk.length)) (nI Wl.length) (nI (cO Wl)) Sg W) D
theorem cO_st (s : Int32) : ∀ (l : List Int32), cO (stW s l) = cO l
  | [] => rfl
  | b :: r => by
    unfold stW
    by_cases h : cls b s
    · rw [if_pos h, cO_st s r]
      conv => rhs; unfold cO
      rw [if_neg (by rcases h with h | ⟨h, _⟩ <;> rw [h] <;> decide)]
    · rw [if_neg h]
