section MM2
variable {d mc ms pc : Nat} {q : QM} {L : List (Nat × Value)} {st : List Value} {h : HP} {Qp : PO}
theorem s_astore_n0 {n : Fin 4} {L' : List (Nat × Value)} (hd : decode q.2.1 pc = .ok (.astore_n n, 1)) (hn : (n : Nat) < q.2.2.1) (hL : stL (n : Nat) (.null) L = L') (k : Sem d q mc ms (pc + 1) L' (st) h Qp) : Sem d q mc ms (pc) L (.null :: st) h Qp := by
  intro w HB p l e R s m args below meth c mcT msT H locs cells slots ls C hW hS hl h1 h2
  subst hL
  exact lv_astore_nN C.1 C.2.1 hd rfl hl hn (stL_em C.2.2.2.2.2.2.2.2.1 (n : Nat) (.null) L) (fun ls hl => k w HB p l e R s m args below meth c mcT msT H locs cells slots ls C hW hS hl h1 h2)
theorem s_astore0 {i : Nat} {L' : List (Nat × Value)} (hd : decode q.2.1 pc = .ok (.astore i, 2)) (hn : i < q.2.2.1) (hL : stL i (.null) L = L') (k : Sem d q mc ms (pc + 2) L' (st) h Qp) : Sem d q mc ms (pc) L (.null :: st) h Qp := by
  intro w HB p l e R s m args below meth c mcT msT H locs cells slots ls C hW hS hl h1 h2
  subst hL
  exact lv_astoreN C.1 C.2.1 hd hl hn (stL_em C.2.2.2.2.2.2.2.2.1 i (.null) L) (fun ls hl => k w HB p l e R s m args below meth c mcT msT H locs cells slots ls C hW hS hl h1 h2)
end MM2
