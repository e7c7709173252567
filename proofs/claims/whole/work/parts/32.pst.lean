/-! the model while it reads: at, digits, signs, waiting, open, the rows sign and waits are told -/
def pst (M : MZ) (a dg sn wt op : Int32) (Sg W : Nat → Int32) : MZ := (fun k => if k = 7 then a else if k = 8 then dg else if k = 9 then sn else if k = 10 then wt else if k = 11 then op else M.1 k, fun j => if j = 12 then Sg else if j = 13 then W else M.2.1 j, M.2.2)
theorem pst_id (M : MZ) : pst M (M.1 7) (M.1 8) (M.1 9) (M.1 10) (M.1 11) (M.2.1 12) (M.2.1 13) = M := by
  unfold pst
  refine Prod.ext ?_ (Prod.ext ?_ rfl)
  · funext k
    dsimp only
    split
    · rename_i h; rw [h]
    · split
      · rename_i h; rw [h]
      · split
        · rename_i h; rw [h]
        · split
          · rename_i h; rw [h]
          · split
            · rename_i h; rw [h]
            · rfl
  · funext k
    dsimp only
    split
    · rename_i h; rw [h]
    · split
      · rename_i h; rw [h]
      · rfl
section PRules0
variable {M : MZ} {a dg sn wt op : Int32} {Sg W : Nat → Int32}
theorem pst_a (v : Int32) : ms1 (pst M a dg sn wt op Sg W) 7 v = pst M v dg sn wt op Sg W := by
  unfold ms1 pst
  refine Prod.ext ?_ rfl
  funext j
  dsimp only
  simp only [upd]
  by_cases h7 : j = 7
  · subst h7; rfl
  by_cases h8 : j = 8
  · subst h8; rfl
  by_cases h9 : j = 9
  · subst h9; rfl
  by_cases h10 : j = 10
  · subst h10; rfl
  by_cases h11 : j = 11
  · subst h11; rfl
  rw [if_neg h7]
  simp only [if_neg h7, if_neg h8, if_neg h9, if_neg h10, if_neg h11]
theorem pst_dg (v : Int32) : ms1 (pst M a dg sn wt op Sg W) 8 v = pst M a v sn wt op Sg W := by
  unfold ms1 pst
  refine Prod.ext ?_ rfl
  funext j
  dsimp only
  simp only [upd]
  by_cases h7 : j = 7
  · subst h7; rfl
  by_cases h8 : j = 8
  · subst h8; rfl
  by_cases h9 : j = 9
  · subst h9; rfl
  by_cases h10 : j = 10
  · subst h10; rfl
  by_cases h11 : j = 11
  · subst h11; rfl
  rw [if_neg h8]
  simp only [if_neg h7, if_neg h8, if_neg h9, if_neg h10, if_neg h11]
theorem pst_sn (v : Int32) : ms1 (pst M a dg sn wt op Sg W) 9 v = pst M a dg v wt op Sg W := by
  unfold ms1 pst
  refine Prod.ext ?_ rfl
  funext j
  dsimp only
  simp only [upd]
  by_cases h7 : j = 7
  · subst h7; rfl
  by_cases h8 : j = 8
  · subst h8; rfl
  by_cases h9 : j = 9
  · subst h9; rfl
  by_cases h10 : j = 10
  · subst h10; rfl
  by_cases h11 : j = 11
  · subst h11; rfl
  rw [if_neg h9]
  simp only [if_neg h7, if_neg h8, if_neg h9, if_neg h10, if_neg h11]
theorem pst_wt (v : Int32) : ms1 (pst M a dg sn wt op Sg W) 10 v = pst M a dg sn v op Sg W := by
  unfold ms1 pst
  refine Prod.ext ?_ rfl
  funext j
  dsimp only
  simp only [upd]
  by_cases h7 : j = 7
  · subst h7; rfl
  by_cases h8 : j = 8
  · subst h8; rfl
  by_cases h9 : j = 9
  · subst h9; rfl
  by_cases h10 : j = 10
  · subst h10; rfl
  by_cases h11 : j = 11
  · subst h11; rfl
  rw [if_neg h10]
  simp only [if_neg h7, if_neg h8, if_neg h9, if_neg h10, if_neg h11]
theorem pst_op (v : Int32) : ms1 (pst M a dg sn wt op Sg W) 11 v = pst M a dg sn wt v Sg W := by
  unfold ms1 pst
  refine Prod.ext ?_ rfl
  funext j
  dsimp only
  simp only [upd]
  by_cases h7 : j = 7
  · subst h7; rfl
  by_cases h8 : j = 8
  · subst h8; rfl
  by_cases h9 : j = 9
  · subst h9; rfl
  by_cases h10 : j = 10
  · subst h10; rfl
  by_cases h11 : j = 11
  · subst h11; rfl
  rw [if_neg h11]
  simp only [if_neg h7, if_neg h8, if_neg h9, if_neg h10, if_neg h11]
theorem pst_Sg (i : Nat) (v : Int32) : msa (pst M a dg sn wt op Sg W) 12 i v = pst M a dg sn wt op (upd Sg i v) W := by
  unfold msa pst
  refine Prod.ext rfl (Prod.ext ?_ rfl)
  funext j
  dsimp only
  simp only [va_up]
  by_cases h : j = 12
  · subst h; rfl
  · rw [if_neg h, if_neg h, if_neg h]
theorem pst_W (i : Nat) (v : Int32) : msa (pst M a dg sn wt op Sg W) 13 i v = pst M a dg sn wt op Sg (upd W i v) := by
  unfold msa pst
  refine Prod.ext rfl (Prod.ext ?_ rfl)
  funext j
  dsimp only
  simp only [va_up]
  by_cases h : j = 13
  · subst h; rfl
  · rw [if_neg h, if_neg h, if_neg h]
theorem pst_wa {k : Nat} (hk : k ≠ 12 ∧ k ≠ 13) (i : Nat) (v : Int32) : msa (pst M a dg sn wt op Sg W) k i v = pst (msa M k i v) a dg sn wt op Sg W := by
  have e : (pst M a dg sn wt op Sg W).2.1 k = M.2.1 k := by
    show (if k = 12 then Sg else if k = 13 then W else M.2.1 k) = _
    rw [if_neg hk.1, if_neg hk.2]
  unfold msa
  rw [e]
  unfold pst
  refine Prod.ext rfl (Prod.ext ?_ rfl)
  funext j
  dsimp only
  simp only [va_up]
  by_cases h : j = k
  · subst h; rw [if_pos rfl, if_neg hk.1, if_neg hk.2, if_pos rfl]
  · rw [if_neg h, if_neg h]
end PRules0
section PRules
variable {d mc ms pc : Nat} {q : QM} {L : List (Nat × Value)} {st : List Value} {P D : HP} {M : MZ} {a dg sn wt op : Int32} {Sg W : Nat → Int32} {Qp : PO}
theorem gP_courts (hd : decode q.2.1 pc = .ok (.getfield 41, 3)) (hown : q.1.cls = RX12) (hP : P.length = 95) (kk : Sem d q mc ms (pc + 3) L (.int (M.1 4) :: st) (mh P (pst M a dg sn wt op Sg W) D) Qp) : Sem d q mc ms pc L (.ref 95 :: st) (mh P (pst M a dg sn wt op Sg W) D) Qp := gM_courts hd hown hP kk
theorem gP_the (hd : decode q.2.1 pc = .ok (.getfield 44, 3)) (hown : q.1.cls = RX12) (hP : P.length = 95) (kk : Sem d q mc ms (pc + 3) L (.int (M.1 5) :: st) (mh P (pst M a dg sn wt op Sg W) D) Qp) : Sem d q mc ms pc L (.ref 95 :: st) (mh P (pst M a dg sn wt op Sg W) D) Qp := gM_the hd hown hP kk
theorem gP_fed (hd : decode q.2.1 pc = .ok (.getfield 47, 3)) (hown : q.1.cls = RX12) (hP : P.length = 95) (kk : Sem d q mc ms (pc + 3) L (.int (M.1 6) :: st) (mh P (pst M a dg sn wt op Sg W) D) Qp) : Sem d q mc ms pc L (.ref 95 :: st) (mh P (pst M a dg sn wt op Sg W) D) Qp := gM_fed hd hown hP kk
theorem gP_at (hd : decode q.2.1 pc = .ok (.getfield 50, 3)) (hown : q.1.cls = RX12) (hP : P.length = 95) (kk : Sem d q mc ms (pc + 3) L (.int (a) :: st) (mh P (pst M a dg sn wt op Sg W) D) Qp) : Sem d q mc ms pc L (.ref 95 :: st) (mh P (pst M a dg sn wt op Sg W) D) Qp := gM_at hd hown hP kk
theorem pP_at {v : Int32} (hd : decode q.2.1 pc = .ok (.putfield 50, 3)) (hown : q.1.cls = RX12) (hP : P.length = 95) (kk : Sem d q mc ms (pc + 3) L st (mh P (pst M v dg sn wt op Sg W) D) Qp) : Sem d q mc ms pc L (.int v :: .ref 95 :: st) (mh P (pst M a dg sn wt op Sg W) D) Qp := pM_at hd hown hP (by show Sem d q mc ms (pc + 3) L st (mh P (ms1 (pst M a dg sn wt op Sg W) 7 v) D) Qp; rw [pst_a]; exact kk)
theorem gP_digits (hd : decode q.2.1 pc = .ok (.getfield 53, 3)) (hown : q.1.cls = RX12) (hP : P.length = 95) (kk : Sem d q mc ms (pc + 3) L (.int (dg) :: st) (mh P (pst M a dg sn wt op Sg W) D) Qp) : Sem d q mc ms pc L (.ref 95 :: st) (mh P (pst M a dg sn wt op Sg W) D) Qp := gM_digits hd hown hP kk
theorem pP_digits {v : Int32} (hd : decode q.2.1 pc = .ok (.putfield 53, 3)) (hown : q.1.cls = RX12) (hP : P.length = 95) (kk : Sem d q mc ms (pc + 3) L st (mh P (pst M a v sn wt op Sg W) D) Qp) : Sem d q mc ms pc L (.int v :: .ref 95 :: st) (mh P (pst M a dg sn wt op Sg W) D) Qp := pM_digits hd hown hP (by show Sem d q mc ms (pc + 3) L st (mh P (ms1 (pst M a dg sn wt op Sg W) 8 v) D) Qp; rw [pst_dg]; exact kk)
theorem gP_text (hd : decode q.2.1 pc = .ok (.getfield 56, 3)) (hown : q.1.cls = RX12) (hP : P.length = 95) (kk : Sem d q mc ms (pc + 3) L (.ref 102 :: st) (mh P (pst M a dg sn wt op Sg W) D) Qp) : Sem d q mc ms pc L (.ref 95 :: st) (mh P (pst M a dg sn wt op Sg W) D) Qp := gM_text hd hown hP kk
theorem lP_text {x : Int32} (hd : decode q.2.1 pc = .ok (.iaload, 1)) (hP : P.length = 95) (hin : vp_in x 100) (kk : Sem d q mc ms (pc + 1) L (.int (M.2.1 6 (pz x)) :: st) (mh P (pst M a dg sn wt op Sg W) D) Qp) : Sem d q mc ms pc L (.int x :: .ref 102 :: st) (mh P (pst M a dg sn wt op Sg W) D) Qp := lM 7 hd hP rfl hin kk
theorem gP_clauses (hd : decode q.2.1 pc = .ok (.getfield 59, 3)) (hown : q.1.cls = RX12) (hP : P.length = 95) (kk : Sem d q mc ms (pc + 3) L (.ref 103 :: st) (mh P (pst M a dg sn wt op Sg W) D) Qp) : Sem d q mc ms pc L (.ref 95 :: st) (mh P (pst M a dg sn wt op Sg W) D) Qp := gM_clauses hd hown hP kk
theorem lP_clauses {x : Int32} (hd : decode q.2.1 pc = .ok (.iaload, 1)) (hP : P.length = 95) (hin : vp_in x 6) (kk : Sem d q mc ms (pc + 1) L (.int (M.2.1 7 (pz x)) :: st) (mh P (pst M a dg sn wt op Sg W) D) Qp) : Sem d q mc ms pc L (.int x :: .ref 103 :: st) (mh P (pst M a dg sn wt op Sg W) D) Qp := lM 8 hd hP rfl hin kk
theorem sP_clauses {x v : Int32} (hd : decode q.2.1 pc = .ok (.iastore, 1)) (hP : P.length = 95) (hin : vp_in x 6) (kk : Sem d q mc ms (pc + 1) L st (mh P (pst (msa M 7 (pz x) v) a dg sn wt op Sg W) D) Qp) : Sem d q mc ms pc L (.int v :: .int x :: .ref 103 :: st) (mh P (pst M a dg sn wt op Sg W) D) Qp := sM_clauses hd hP hin (by show Sem d q mc ms (pc + 1) L st (mh P (msa (pst M a dg sn wt op Sg W) 7 (pz x) v) D) Qp; rw [pst_wa (by decide)]; exact kk)
theorem gP_word (hd : decode q.2.1 pc = .ok (.getfield 62, 3)) (hown : q.1.cls = RX12) (hP : P.length = 95) (kk : Sem d q mc ms (pc + 3) L (.ref 104 :: st) (mh P (pst M a dg sn wt op Sg W) D) Qp) : Sem d q mc ms pc L (.ref 95 :: st) (mh P (pst M a dg sn wt op Sg W) D) Qp := gM_word hd hown hP kk
theorem lP_word {x : Int32} (hd : decode q.2.1 pc = .ok (.iaload, 1)) (hP : P.length = 95) (hin : vp_in x 60) (kk : Sem d q mc ms (pc + 1) L (.int (M.2.1 8 (pz x)) :: st) (mh P (pst M a dg sn wt op Sg W) D) Qp) : Sem d q mc ms pc L (.int x :: .ref 104 :: st) (mh P (pst M a dg sn wt op Sg W) D) Qp := lM 9 hd hP rfl hin kk
theorem sP_word {x v : Int32} (hd : decode q.2.1 pc = .ok (.iastore, 1)) (hP : P.length = 95) (hin : vp_in x 60) (kk : Sem d q mc ms (pc + 1) L st (mh P (pst (msa M 8 (pz x) v) a dg sn wt op Sg W) D) Qp) : Sem d q mc ms pc L (.int v :: .int x :: .ref 104 :: st) (mh P (pst M a dg sn wt op Sg W) D) Qp := sM_word hd hP hin (by show Sem d q mc ms (pc + 1) L st (mh P (msa (pst M a dg sn wt op Sg W) 8 (pz x) v) D) Qp; rw [pst_wa (by decide)]; exact kk)
theorem gP_number (hd : decode q.2.1 pc = .ok (.getfield 65, 3)) (hown : q.1.cls = RX12) (hP : P.length = 95) (kk : Sem d q mc ms (pc + 3) L (.ref 105 :: st) (mh P (pst M a dg sn wt op Sg W) D) Qp) : Sem d q mc ms pc L (.ref 95 :: st) (mh P (pst M a dg sn wt op Sg W) D) Qp := gM_number hd hown hP kk
theorem lP_number {x : Int32} (hd : decode q.2.1 pc = .ok (.iaload, 1)) (hP : P.length = 95) (hin : vp_in x 60) (kk : Sem d q mc ms (pc + 1) L (.int (M.2.1 9 (pz x)) :: st) (mh P (pst M a dg sn wt op Sg W) D) Qp) : Sem d q mc ms pc L (.int x :: .ref 105 :: st) (mh P (pst M a dg sn wt op Sg W) D) Qp := lM 10 hd hP rfl hin kk
theorem sP_number {x v : Int32} (hd : decode q.2.1 pc = .ok (.iastore, 1)) (hP : P.length = 95) (hin : vp_in x 60) (kk : Sem d q mc ms (pc + 1) L st (mh P (pst (msa M 9 (pz x) v) a dg sn wt op Sg W) D) Qp) : Sem d q mc ms pc L (.int v :: .int x :: .ref 105 :: st) (mh P (pst M a dg sn wt op Sg W) D) Qp := sM_number hd hP hin (by show Sem d q mc ms (pc + 1) L st (mh P (msa (pst M a dg sn wt op Sg W) 9 (pz x) v) D) Qp; rw [pst_wa (by decide)]; exact kk)
theorem gP_from (hd : decode q.2.1 pc = .ok (.getfield 68, 3)) (hown : q.1.cls = RX12) (hP : P.length = 95) (kk : Sem d q mc ms (pc + 3) L (.ref 106 :: st) (mh P (pst M a dg sn wt op Sg W) D) Qp) : Sem d q mc ms pc L (.ref 95 :: st) (mh P (pst M a dg sn wt op Sg W) D) Qp := gM_from hd hown hP kk
theorem lP_from {x : Int32} (hd : decode q.2.1 pc = .ok (.iaload, 1)) (hP : P.length = 95) (hin : vp_in x 60) (kk : Sem d q mc ms (pc + 1) L (.int (M.2.1 10 (pz x)) :: st) (mh P (pst M a dg sn wt op Sg W) D) Qp) : Sem d q mc ms pc L (.int x :: .ref 106 :: st) (mh P (pst M a dg sn wt op Sg W) D) Qp := lM 11 hd hP rfl hin kk
theorem sP_from {x v : Int32} (hd : decode q.2.1 pc = .ok (.iastore, 1)) (hP : P.length = 95) (hin : vp_in x 60) (kk : Sem d q mc ms (pc + 1) L st (mh P (pst (msa M 10 (pz x) v) a dg sn wt op Sg W) D) Qp) : Sem d q mc ms pc L (.int v :: .int x :: .ref 106 :: st) (mh P (pst M a dg sn wt op Sg W) D) Qp := sM_from hd hP hin (by show Sem d q mc ms (pc + 1) L st (mh P (msa (pst M a dg sn wt op Sg W) 10 (pz x) v) D) Qp; rw [pst_wa (by decide)]; exact kk)
theorem gP_to (hd : decode q.2.1 pc = .ok (.getfield 71, 3)) (hown : q.1.cls = RX12) (hP : P.length = 95) (kk : Sem d q mc ms (pc + 3) L (.ref 107 :: st) (mh P (pst M a dg sn wt op Sg W) D) Qp) : Sem d q mc ms pc L (.ref 95 :: st) (mh P (pst M a dg sn wt op Sg W) D) Qp := gM_to hd hown hP kk
theorem lP_to {x : Int32} (hd : decode q.2.1 pc = .ok (.iaload, 1)) (hP : P.length = 95) (hin : vp_in x 60) (kk : Sem d q mc ms (pc + 1) L (.int (M.2.1 11 (pz x)) :: st) (mh P (pst M a dg sn wt op Sg W) D) Qp) : Sem d q mc ms pc L (.int x :: .ref 107 :: st) (mh P (pst M a dg sn wt op Sg W) D) Qp := lM 12 hd hP rfl hin kk
theorem sP_to {x v : Int32} (hd : decode q.2.1 pc = .ok (.iastore, 1)) (hP : P.length = 95) (hin : vp_in x 60) (kk : Sem d q mc ms (pc + 1) L st (mh P (pst (msa M 11 (pz x) v) a dg sn wt op Sg W) D) Qp) : Sem d q mc ms pc L (.int v :: .int x :: .ref 107 :: st) (mh P (pst M a dg sn wt op Sg W) D) Qp := sM_to hd hP hin (by show Sem d q mc ms (pc + 1) L st (mh P (msa (pst M a dg sn wt op Sg W) 11 (pz x) v) D) Qp; rw [pst_wa (by decide)]; exact kk)
theorem gP_sign (hd : decode q.2.1 pc = .ok (.getfield 74, 3)) (hown : q.1.cls = RX12) (hP : P.length = 95) (kk : Sem d q mc ms (pc + 3) L (.ref 108 :: st) (mh P (pst M a dg sn wt op Sg W) D) Qp) : Sem d q mc ms pc L (.ref 95 :: st) (mh P (pst M a dg sn wt op Sg W) D) Qp := gM_sign hd hown hP kk
theorem lP_sign {x : Int32} (hd : decode q.2.1 pc = .ok (.iaload, 1)) (hP : P.length = 95) (hin : vp_in x 600) (kk : Sem d q mc ms (pc + 1) L (.int (Sg (pz x)) :: st) (mh P (pst M a dg sn wt op Sg W) D) Qp) : Sem d q mc ms pc L (.int x :: .ref 108 :: st) (mh P (pst M a dg sn wt op Sg W) D) Qp := lM 13 hd hP rfl hin kk
theorem sP_sign {x v : Int32} (hd : decode q.2.1 pc = .ok (.iastore, 1)) (hP : P.length = 95) (hin : vp_in x 600) (kk : Sem d q mc ms (pc + 1) L st (mh P (pst M a dg sn wt op (upd Sg (pz x) v) W) D) Qp) : Sem d q mc ms pc L (.int v :: .int x :: .ref 108 :: st) (mh P (pst M a dg sn wt op Sg W) D) Qp := sM_sign hd hP hin (by show Sem d q mc ms (pc + 1) L st (mh P (msa (pst M a dg sn wt op Sg W) 12 (pz x) v) D) Qp; rw [pst_Sg]; exact kk)
theorem gP_waits (hd : decode q.2.1 pc = .ok (.getfield 77, 3)) (hown : q.1.cls = RX12) (hP : P.length = 95) (kk : Sem d q mc ms (pc + 3) L (.ref 109 :: st) (mh P (pst M a dg sn wt op Sg W) D) Qp) : Sem d q mc ms pc L (.ref 95 :: st) (mh P (pst M a dg sn wt op Sg W) D) Qp := gM_waits hd hown hP kk
theorem lP_waits {x : Int32} (hd : decode q.2.1 pc = .ok (.iaload, 1)) (hP : P.length = 95) (hin : vp_in x 101) (kk : Sem d q mc ms (pc + 1) L (.int (W (pz x)) :: st) (mh P (pst M a dg sn wt op Sg W) D) Qp) : Sem d q mc ms pc L (.int x :: .ref 109 :: st) (mh P (pst M a dg sn wt op Sg W) D) Qp := lM 14 hd hP rfl hin kk
theorem sP_waits {x v : Int32} (hd : decode q.2.1 pc = .ok (.iastore, 1)) (hP : P.length = 95) (hin : vp_in x 101) (kk : Sem d q mc ms (pc + 1) L st (mh P (pst M a dg sn wt op Sg (upd W (pz x) v)) D) Qp) : Sem d q mc ms pc L (.int v :: .int x :: .ref 109 :: st) (mh P (pst M a dg sn wt op Sg W) D) Qp := sM_waits hd hP hin (by show Sem d q mc ms (pc + 1) L st (mh P (msa (pst M a dg sn wt op Sg W) 13 (pz x) v) D) Qp; rw [pst_W]; exact kk)
theorem gP_signs (hd : decode q.2.1 pc = .ok (.getfield 80, 3)) (hown : q.1.cls = RX12) (hP : P.length = 95) (kk : Sem d q mc ms (pc + 3) L (.int (sn) :: st) (mh P (pst M a dg sn wt op Sg W) D) Qp) : Sem d q mc ms pc L (.ref 95 :: st) (mh P (pst M a dg sn wt op Sg W) D) Qp := gM_signs hd hown hP kk
theorem pP_signs {v : Int32} (hd : decode q.2.1 pc = .ok (.putfield 80, 3)) (hown : q.1.cls = RX12) (hP : P.length = 95) (kk : Sem d q mc ms (pc + 3) L st (mh P (pst M a dg v wt op Sg W) D) Qp) : Sem d q mc ms pc L (.int v :: .ref 95 :: st) (mh P (pst M a dg sn wt op Sg W) D) Qp := pM_signs hd hown hP (by show Sem d q mc ms (pc + 3) L st (mh P (ms1 (pst M a dg sn wt op Sg W) 9 v) D) Qp; rw [pst_sn]; exact kk)
theorem gP_waiting (hd : decode q.2.1 pc = .ok (.getfield 83, 3)) (hown : q.1.cls = RX12) (hP : P.length = 95) (kk : Sem d q mc ms (pc + 3) L (.int (wt) :: st) (mh P (pst M a dg sn wt op Sg W) D) Qp) : Sem d q mc ms pc L (.ref 95 :: st) (mh P (pst M a dg sn wt op Sg W) D) Qp := gM_waiting hd hown hP kk
theorem pP_waiting {v : Int32} (hd : decode q.2.1 pc = .ok (.putfield 83, 3)) (hown : q.1.cls = RX12) (hP : P.length = 95) (kk : Sem d q mc ms (pc + 3) L st (mh P (pst M a dg sn v op Sg W) D) Qp) : Sem d q mc ms pc L (.int v :: .ref 95 :: st) (mh P (pst M a dg sn wt op Sg W) D) Qp := pM_waiting hd hown hP (by show Sem d q mc ms (pc + 3) L st (mh P (ms1 (pst M a dg sn wt op Sg W) 10 v) D) Qp; rw [pst_wt]; exact kk)
theorem gP_open (hd : decode q.2.1 pc = .ok (.getfield 86, 3)) (hown : q.1.cls = RX12) (hP : P.length = 95) (kk : Sem d q mc ms (pc + 3) L (.int (op) :: st) (mh P (pst M a dg sn wt op Sg W) D) Qp) : Sem d q mc ms pc L (.ref 95 :: st) (mh P (pst M a dg sn wt op Sg W) D) Qp := gM_open hd hown hP kk
theorem pP_open {v : Int32} (hd : decode q.2.1 pc = .ok (.putfield 86, 3)) (hown : q.1.cls = RX12) (hP : P.length = 95) (kk : Sem d q mc ms (pc + 3) L st (mh P (pst M a dg sn wt v Sg W) D) Qp) : Sem d q mc ms pc L (.int v :: .ref 95 :: st) (mh P (pst M a dg sn wt op Sg W) D) Qp := pM_open hd hown hP (by show Sem d q mc ms (pc + 3) L st (mh P (ms1 (pst M a dg sn wt op Sg W) 11 v) D) Qp; rw [pst_op]; exact kk)
theorem gP_letters (hd : decode q.2.1 pc = .ok (.getfield 89, 3)) (hown : q.1.cls = RX12) (hP : P.length = 95) (kk : Sem d q mc ms (pc + 3) L (.ref 110 :: st) (mh P (pst M a dg sn wt op Sg W) D) Qp) : Sem d q mc ms pc L (.ref 95 :: st) (mh P (pst M a dg sn wt op Sg W) D) Qp := gM_letters hd hown hP kk
theorem lP_letters {x : Int32} (hd : decode q.2.1 pc = .ok (.iaload, 1)) (hP : P.length = 95) (hin : vp_in x 8) (kk : Sem d q mc ms (pc + 1) L (.int (M.2.1 14 (pz x)) :: st) (mh P (pst M a dg sn wt op Sg W) D) Qp) : Sem d q mc ms pc L (.int x :: .ref 110 :: st) (mh P (pst M a dg sn wt op Sg W) D) Qp := lM 15 hd hP rfl hin kk
end PRules
