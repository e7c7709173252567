theorem CC.cg {M M' : MZ} (h : ∀ j, 7 ≤ j → j ≤ 12 → M'.2.1 j = M.2.1 j) : ∀ {c : Nat} {cl : CLs}, CC M c cl → CC M' c cl
  | _, [], _ => trivial
  | c, r :: cl, hc => by
    obtain ⟨⟨h1, h2, a, h3, h4, h5, h6, h7⟩, h8⟩ := hc
    refine ⟨⟨?_, ?_, a, h3, ?_, ?_, ?_, h7⟩, h8.cg h⟩
    · rw [h 8 (by decide) (by decide)]; exact h1
    · rw [h 9 (by decide) (by decide)]; exact h2
    · rw [h 10 (by decide) (by decide)]; exact h4
    · rw [h 11 (by decide) (by decide)]; exact h5
    · rw [h 12 (by decide) (by decide)]; exact h6
theorem CN.cg {M M' : MZ} {cl : CLs} (hc : CN M cl) (h5 : M'.1 5 = M.1 5) (h : ∀ j, 7 ≤ j → j ≤ 12 → M'.2.1 j = M.2.1 j) : CN M' cl := by
  rcases hc with ⟨h1, h2⟩ | ⟨f, h1, h2, h3, h4, h6⟩
  · exact Or.inl ⟨by rw [h5]; exact h1, h2⟩
  · exact Or.inr ⟨f, h1, h5.trans h2, h3, by rw [h 7 (by decide) (by decide)]; exact h4, h6.cg h⟩
theorem CN.w1 {M : MZ} {cl : CLs} (hc : CN M cl) {k : Nat} {v : Int32} (hk : k ≠ 5) : CN (ms1 M k v) cl := hc.cg (if_neg (Ne.symm hk)) (fun _ _ _ => rfl)
theorem CN.wa {M : MZ} {cl : CLs} (hc : CN M cl) {k i : Nat} {v : Int32} (hk : k < 7 ∨ 12 < k) : CN (msa M k i v) cl := hc.cg rfl (fun _ _ _ => if_neg (by omega))
theorem ms1_2 (M : MZ) (k : Nat) (v w : Int32) : ms1 (ms1 M k v) k w = ms1 M k w := by
  unfold ms1
  dsimp only
  rw [upd_upd]
theorem ms1_id (M : MZ) (k : Nat) : ms1 M k (M.1 k) = M := by
  unfold ms1
  rw [upd_id]
theorem msa_2 (M : MZ) (k i : Nat) (v w : Int32) : msa (msa M k i v) k i w = msa M k i w := by
  unfold msa
  dsimp only
  rw [va_up_up, show va_up M.2.1 k (upd (M.2.1 k) i v) k = upd (M.2.1 k) i v from if_pos rfl, upd_upd]
theorem msa_id (M : MZ) (k i : Nat) : msa M k i (M.2.1 k i) = M := by
  unfold msa
  rw [upd_id, va_up_id]
theorem msa_sw (M : MZ) {j k : Nat} (i l : Nat) (v w : Int32) (h : j ≠ k) : msa (msa M j i v) k l w = msa (msa M k l w) j i v := by
  unfold msa
  refine Prod.ext rfl (Prod.ext ?_ rfl)
  funext x
  dsimp only
  simp only [va_up]
  by_cases e1 : x = j
  · subst e1
    rw [if_neg h, if_pos rfl, if_pos rfl, if_neg h]
  · by_cases e2 : x = k
    · subst e2
      rw [if_pos rfl, if_neg e1, if_pos rfl, if_neg (Ne.symm h)]
    · rw [if_neg e2, if_neg e1, if_neg e1, if_neg e2]
def sp_of (M : MZ) (cl : CLs) (p w : Int32) : Int32 :=
  if isS M p then (if 10 ≤ w ∧ w ≤ 29 then (if 20 ≤ w then sWn M cl p (w - 20) else sIn M cl p (w - 10))
    else if w = 0 then M.2.1 0 (pz p) else if w = 1 then M.2.1 1 (pz p) else if w = 2 then M.2.1 2 (pz p) else if w = 3 then M.2.1 3 (pz p) else if w = 4 then M.2.1 4 (pz p) else if w = 5 then mFirst M p else if w = 6 then mSecond M p else -1) else -1
def sp_chance (M : MZ) (cl : CLs) (p a b : Int32) : Int32 := if isS M p then (if isF a then (if isF b then sCh M cl p a b else -1) else -1) else -1
def sp_faults (M : MZ) (cl : CLs) (p a b : Int32) : Int32 := if isS M p then (if isF a then (if isF b then sFa M cl p a b else -1) else -1) else -1
/-- is the POINT won -/
def goW (M : MZ) (cl : CLs) (p d e : Int32) : Bool := if sIn M cl p (mFirst M p) ≤ d then (!(decide (sIn M cl p (mSecond M p) ≤ e)) && !(decide (sWn M cl p (mSecond M p) ≤ (d + e) % 100))) else !(decide (sWn M cl p (mFirst M p) ≤ e))
def goM (M : MZ) (p : Int32) (w : Bool) : MZ := msa (cond w (ms1 M 1 (M.1 1 + 1)) (ms1 M 2 (M.1 2 + 1))) 4 (pz p) (M.2.1 4 (pz p) + if 9999 ≤ M.2.1 4 (pz p) then 0 else 1)
abbrev ovr (M : MZ) : Prop := M.1 1 = 4 ∨ M.1 2 = 4
def sp_play (M : MZ) (cl : CLs) (p d e : Int32) : Int32 × MZ := if isS M p then (if drw d e then (if ovr M then (-3, M) else (b2i (goW M cl p d e = true), goM M p (goW M cl p d e))) else (-2, M)) else (-1, M)
def bst (M : MZ) (cl : CLs) (p : Int32) : Nat → Int32 × Int32
  | 0 => (0, -1)
  | n + 1 => if (bst M cl p n).2 < sCh M cl p (nI n / 10) (nI n % 10) then (nI n, sCh M cl p (nI n / 10) (nI n % 10)) else bst M cl p n
def sp_best (M : MZ) (cl : CLs) (p w : Int32) : Int32 := if isS M p then (if 0 ≤ w ∧ w ≤ 1 then (if w = 0 then (bst M cl p 100).1 else (bst M cl p 100).2) else -1) else -1
/-- the first from k on -/
def srU (P : Nat → Prop) [DecidablePred P] : Nat → Nat → Int32
  | 0, _ => -5
  | n + 1, k => if P k then nI k else srU P n (k + 1)
/-- the last ahead of k -/
def srD (P : Nat → Prop) [DecidablePred P] : Nat → Int32
  | 0 => -5
  | k + 1 => if P k then nI k else srD P k
def sp_risk (M : MZ) (cl : CLs) (p : Int32) : Int32 := if isS M p then srU (fun k => sFa M cl p (mFirst M p) (mSecond M p) < sFa M cl p (mFirst M p) (nI k)) 10 0 else -1
def sp_dare (M : MZ) (cl : CLs) (p : Int32) : Int32 := if isS M p then sCh M cl p (mFirst M p) (mFirst M p) - sNow M cl p else -1000001
def up9 (x : Int32) : Int32 := if 9 ≤ x then 9 else x + 1
def sp_more (M : MZ) (cl : CLs) (p w : Int32) : Int32 := if isS M p then (if 0 ≤ w ∧ w ≤ 1 then (if w = 0 then sNow (msa (msa M 2 (pz p) (up9 (M.2.1 2 (pz p)))) 3 (pz p) (up9 (M.2.1 3 (pz p)))) cl p - sNow M cl p else sNow (msa M 4 (pz p) 0) cl p - sNow M cl p) else -1000001) else -1000001
def sp_safe (M : MZ) (cl : CLs) (p q : Int32) : Int32 := if isS M p then (if 0 ≤ q ∧ q ≤ 100 then srD (fun k => ¬ sIn M cl p (nI k) < q) 10 else -2) else -1
def sdt (M : MZ) (cl : CLs) (p : Int32) : Nat → Int32 × Int32
  | 0 => (0, 1000001)
  | n + 1 => if sNow (ms1 M 3 (nI n)) cl p < (sdt M cl p n).2 then (nI n, sNow (ms1 M 3 (nI n)) cl p) else sdt M cl p n
def sp_stand (M : MZ) (cl : CLs) (p w : Int32) : Int32 := if isS M p then (if 0 ≤ w ∧ w ≤ 1 then (if w = 0 then (sdt M cl p 3).1 else (sdt M cl p 3).2) else -1) else -1
