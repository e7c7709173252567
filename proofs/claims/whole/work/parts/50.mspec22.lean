theorem go_step {M M2 M3 : MZ} {F bs a N : Nat} {Sg Sg0 Sg3 : Nat → Int32} {dn : CLs} {T LT : Nat → Int32} {v : Int32} (g5 : GF M M2 F Sg Sg0) (g6 : CS M2 Sg (10 * F) bs dn) (hb : 100 * F ≤ bs)
    (k1 : M4 M2 M3 (10 * F + dn.length)) (k2 : SGL Sg3 bs (clR T N LT a).2.2) (k3 : ∀ j, j < bs → Sg3 j = Sg j)
    (k4 : M3.2.1 8 (10 * F + dn.length) = hdW T N a ∧ M3.2.1 9 (10 * F + dn.length) = clN T N LT a ∧ M3.2.1 10 (10 * F + dn.length) = nI bs ∧ M3.2.1 11 (10 * F + dn.length) = nI (bs + (clR T N LT a).2.2.length))
    (hok : (clR T N LT a).1 = true) :
    GF M (msa M3 7 F v) F Sg3 Sg0 ∧ CS (msa M3 7 F v) Sg3 (10 * F) (bs + (clR T N LT a).2.2.length) (dn ++ [clO T N LT a]) := by
  refine ⟨(g5.m4 k1 (Nat.le_add_right _ _) k3 hb).p7 v, ?_⟩
  have hw := clR_wf hok
  have hl : (clO T N LT a).2.2.length = (clR T N LT a).2.2.length := List.length_reverse
  refine CS.keep (M2 := M3) (Sg := Sg3) (CS.snoc (CS.keep g6 (fun j i _ hi => k1.2.2.2 j i (by omega)) k3 (Nat.le_add_right _ _)) ⟨⟨k4.1, k4.2.1, bs, Nat.le_of_eq (by rw [hl]), k4.2.2.1, by rw [hl]; exact k4.2.2.2, fun j hj => SGL_rev k2 j hj, hw.1, hw.2⟩, trivial⟩) (fun j i h9 hi => by show va_up M3.2.1 7 _ j i = _; simp only [va_up]; rw [if_neg (by omega)]) (fun _ _ => rfl) (Nat.le_refl _)
