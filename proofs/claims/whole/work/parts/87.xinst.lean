section IRules
variable {d mc ms pc : Nat} {q : QM} {L : List (Nat × Value)} {st : List Value} {X : XZ} {M : MZ} {D : HP} {Qp : PO}
theorem iS_X11_301 {n : Nat} {k i v : Int32} (hs : SV D n k i v) (hd : decode q.2.1 pc = .ok (.instanceof 301, 3)) (hown : q.1.cls = RX11) (kk : Sem d q mc ms (pc + 3) L (.int (b2i (k = 1 ∨ k = 4)) :: st) (xh X M D) Qp) : Sem d q mc ms pc L (.ref n :: st) (xh X M D) Qp := by
  rcases i07 hs.2.2 with rfl | rfl | rfl | rfl | rfl | rfl | rfl
  · have e : b2i ((0 : Int32) = 1 ∨ (0 : Int32) = 4) = 0 := by decide
    rw [e] at kk
    exact s_instNo (ci := 5) (Cn := RX3) (T := TX3) (N := 3) hd hown m350 (hs.get (k := 0)) rfl (by decide +kernel) kk
  · have e : b2i ((1 : Int32) = 1 ∨ (1 : Int32) = 4) = 1 := by decide
    rw [e] at kk
    exact s_instY (ci := 3) (Cn := RX1) (T := TX1) (N := 3) hd hown m350 (hs.get (k := 1)) rfl (Or.inl rfl) kk
  · have e : b2i ((2 : Int32) = 1 ∨ (2 : Int32) = 4) = 0 := by decide
    rw [e] at kk
    exact s_instNo (ci := 10) (Cn := RX8) (T := TX8) (N := 3) hd hown m350 (hs.get (k := 2)) rfl (by decide +kernel) kk
  · have e : b2i ((3 : Int32) = 1 ∨ (3 : Int32) = 4) = 0 := by decide
    rw [e] at kk
    exact s_instNo (ci := 11) (Cn := RX9) (T := TX9) (N := 3) hd hown m350 (hs.get (k := 3)) rfl (by decide +kernel) kk
  · have e : b2i ((4 : Int32) = 1 ∨ (4 : Int32) = 4) = 1 := by decide
    rw [e] at kk
    exact s_instY (ci := 4) (Cn := RX2) (T := TX2) (N := 3) hd hown m350 (hs.get (k := 4)) rfl (Or.inr (by decide)) kk
  · have e : b2i ((5 : Int32) = 1 ∨ (5 : Int32) = 4) = 0 := by decide
    rw [e] at kk
    exact s_instNo (ci := 7) (Cn := RX5) (T := TX5) (N := 3) hd hown m350 (hs.get (k := 5)) rfl (by decide +kernel) kk
  · have e : b2i ((6 : Int32) = 1 ∨ (6 : Int32) = 4) = 0 := by decide
    rw [e] at kk
    exact s_instNo (ci := 12) (Cn := RX10) (T := TX10) (N := 3) hd hown m350 (hs.get (k := 6)) rfl (by decide +kernel) kk
theorem iS_X11_306 {n : Nat} {k i v : Int32} (hs : SV D n k i v) (hd : decode q.2.1 pc = .ok (.instanceof 306, 3)) (hown : q.1.cls = RX11) (kk : Sem d q mc ms (pc + 3) L (.int (b2i (k = 2 ∨ k = 5)) :: st) (xh X M D) Qp) : Sem d q mc ms pc L (.ref n :: st) (xh X M D) Qp := by
  rcases i07 hs.2.2 with rfl | rfl | rfl | rfl | rfl | rfl | rfl
  · have e : b2i ((0 : Int32) = 2 ∨ (0 : Int32) = 5) = 0 := by decide
    rw [e] at kk
    exact s_instNo (ci := 5) (Cn := RX3) (T := TX3) (N := 3) hd hown m388 (hs.get (k := 0)) rfl (by decide +kernel) kk
  · have e : b2i ((1 : Int32) = 2 ∨ (1 : Int32) = 5) = 0 := by decide
    rw [e] at kk
    exact s_instNo (ci := 3) (Cn := RX1) (T := TX1) (N := 3) hd hown m388 (hs.get (k := 1)) rfl (by decide +kernel) kk
  · have e : b2i ((2 : Int32) = 2 ∨ (2 : Int32) = 5) = 1 := by decide
    rw [e] at kk
    exact s_instY (ci := 10) (Cn := RX8) (T := TX8) (N := 3) hd hown m388 (hs.get (k := 2)) rfl (Or.inl rfl) kk
  · have e : b2i ((3 : Int32) = 2 ∨ (3 : Int32) = 5) = 0 := by decide
    rw [e] at kk
    exact s_instNo (ci := 11) (Cn := RX9) (T := TX9) (N := 3) hd hown m388 (hs.get (k := 3)) rfl (by decide +kernel) kk
  · have e : b2i ((4 : Int32) = 2 ∨ (4 : Int32) = 5) = 0 := by decide
    rw [e] at kk
    exact s_instNo (ci := 4) (Cn := RX2) (T := TX2) (N := 3) hd hown m388 (hs.get (k := 4)) rfl (by decide +kernel) kk
  · have e : b2i ((5 : Int32) = 2 ∨ (5 : Int32) = 5) = 1 := by decide
    rw [e] at kk
    exact s_instY (ci := 7) (Cn := RX5) (T := TX5) (N := 3) hd hown m388 (hs.get (k := 5)) rfl (Or.inr (by decide)) kk
  · have e : b2i ((6 : Int32) = 2 ∨ (6 : Int32) = 5) = 0 := by decide
    rw [e] at kk
    exact s_instNo (ci := 12) (Cn := RX10) (T := TX10) (N := 3) hd hown m388 (hs.get (k := 6)) rfl (by decide +kernel) kk
theorem iS_X11_309 {n : Nat} {k i v : Int32} (hs : SV D n k i v) (hd : decode q.2.1 pc = .ok (.instanceof 309, 3)) (hown : q.1.cls = RX11) (kk : Sem d q mc ms (pc + 3) L (.int (b2i (k = 3 ∨ k = 6)) :: st) (xh X M D) Qp) : Sem d q mc ms pc L (.ref n :: st) (xh X M D) Qp := by
  rcases i07 hs.2.2 with rfl | rfl | rfl | rfl | rfl | rfl | rfl
  · have e : b2i ((0 : Int32) = 3 ∨ (0 : Int32) = 6) = 0 := by decide
    rw [e] at kk
    exact s_instNo (ci := 5) (Cn := RX3) (T := TX3) (N := 3) hd hown m398 (hs.get (k := 0)) rfl (by decide +kernel) kk
  · have e : b2i ((1 : Int32) = 3 ∨ (1 : Int32) = 6) = 0 := by decide
    rw [e] at kk
    exact s_instNo (ci := 3) (Cn := RX1) (T := TX1) (N := 3) hd hown m398 (hs.get (k := 1)) rfl (by decide +kernel) kk
  · have e : b2i ((2 : Int32) = 3 ∨ (2 : Int32) = 6) = 0 := by decide
    rw [e] at kk
    exact s_instNo (ci := 10) (Cn := RX8) (T := TX8) (N := 3) hd hown m398 (hs.get (k := 2)) rfl (by decide +kernel) kk
  · have e : b2i ((3 : Int32) = 3 ∨ (3 : Int32) = 6) = 1 := by decide
    rw [e] at kk
    exact s_instY (ci := 11) (Cn := RX9) (T := TX9) (N := 3) hd hown m398 (hs.get (k := 3)) rfl (Or.inl rfl) kk
  · have e : b2i ((4 : Int32) = 3 ∨ (4 : Int32) = 6) = 0 := by decide
    rw [e] at kk
    exact s_instNo (ci := 4) (Cn := RX2) (T := TX2) (N := 3) hd hown m398 (hs.get (k := 4)) rfl (by decide +kernel) kk
  · have e : b2i ((5 : Int32) = 3 ∨ (5 : Int32) = 6) = 0 := by decide
    rw [e] at kk
    exact s_instNo (ci := 7) (Cn := RX5) (T := TX5) (N := 3) hd hown m398 (hs.get (k := 5)) rfl (by decide +kernel) kk
  · have e : b2i ((6 : Int32) = 3 ∨ (6 : Int32) = 6) = 1 := by decide
    rw [e] at kk
    exact s_instY (ci := 12) (Cn := RX10) (T := TX10) (N := 3) hd hown m398 (hs.get (k := 6)) rfl (Or.inr (by decide)) kk
theorem iS_X11_312 {n : Nat} {k i v : Int32} (hs : SV D n k i v) (hd : decode q.2.1 pc = .ok (.instanceof 312, 3)) (hown : q.1.cls = RX11) (kk : Sem d q mc ms (pc + 3) L (.int (b2i (k = 4)) :: st) (xh X M D) Qp) : Sem d q mc ms pc L (.ref n :: st) (xh X M D) Qp := by
  rcases i07 hs.2.2 with rfl | rfl | rfl | rfl | rfl | rfl | rfl
  · have e : b2i ((0 : Int32) = 4) = 0 := by decide
    rw [e] at kk
    exact s_instNo (ci := 5) (Cn := RX3) (T := TX3) (N := 3) hd hown m408 (hs.get (k := 0)) rfl (by decide +kernel) kk
  · have e : b2i ((1 : Int32) = 4) = 0 := by decide
    rw [e] at kk
    exact s_instNo (ci := 3) (Cn := RX1) (T := TX1) (N := 3) hd hown m408 (hs.get (k := 1)) rfl (by decide +kernel) kk
  · have e : b2i ((2 : Int32) = 4) = 0 := by decide
    rw [e] at kk
    exact s_instNo (ci := 10) (Cn := RX8) (T := TX8) (N := 3) hd hown m408 (hs.get (k := 2)) rfl (by decide +kernel) kk
  · have e : b2i ((3 : Int32) = 4) = 0 := by decide
    rw [e] at kk
    exact s_instNo (ci := 11) (Cn := RX9) (T := TX9) (N := 3) hd hown m408 (hs.get (k := 3)) rfl (by decide +kernel) kk
  · have e : b2i ((4 : Int32) = 4) = 1 := by decide
    rw [e] at kk
    exact s_instY (ci := 4) (Cn := RX2) (T := TX2) (N := 3) hd hown m408 (hs.get (k := 4)) rfl (Or.inl rfl) kk
  · have e : b2i ((5 : Int32) = 4) = 0 := by decide
    rw [e] at kk
    exact s_instNo (ci := 7) (Cn := RX5) (T := TX5) (N := 3) hd hown m408 (hs.get (k := 5)) rfl (by decide +kernel) kk
  · have e : b2i ((6 : Int32) = 4) = 0 := by decide
    rw [e] at kk
    exact s_instNo (ci := 12) (Cn := RX10) (T := TX10) (N := 3) hd hown m408 (hs.get (k := 6)) rfl (by decide +kernel) kk
theorem iS_X11_315 {n : Nat} {k i v : Int32} (hs : SV D n k i v) (hd : decode q.2.1 pc = .ok (.instanceof 315, 3)) (hown : q.1.cls = RX11) (kk : Sem d q mc ms (pc + 3) L (.int (b2i (k = 5)) :: st) (xh X M D) Qp) : Sem d q mc ms pc L (.ref n :: st) (xh X M D) Qp := by
  rcases i07 hs.2.2 with rfl | rfl | rfl | rfl | rfl | rfl | rfl
  · have e : b2i ((0 : Int32) = 5) = 0 := by decide
    rw [e] at kk
    exact s_instNo (ci := 5) (Cn := RX3) (T := TX3) (N := 3) hd hown m418 (hs.get (k := 0)) rfl (by decide +kernel) kk
  · have e : b2i ((1 : Int32) = 5) = 0 := by decide
    rw [e] at kk
    exact s_instNo (ci := 3) (Cn := RX1) (T := TX1) (N := 3) hd hown m418 (hs.get (k := 1)) rfl (by decide +kernel) kk
  · have e : b2i ((2 : Int32) = 5) = 0 := by decide
    rw [e] at kk
    exact s_instNo (ci := 10) (Cn := RX8) (T := TX8) (N := 3) hd hown m418 (hs.get (k := 2)) rfl (by decide +kernel) kk
  · have e : b2i ((3 : Int32) = 5) = 0 := by decide
    rw [e] at kk
    exact s_instNo (ci := 11) (Cn := RX9) (T := TX9) (N := 3) hd hown m418 (hs.get (k := 3)) rfl (by decide +kernel) kk
  · have e : b2i ((4 : Int32) = 5) = 0 := by decide
    rw [e] at kk
    exact s_instNo (ci := 4) (Cn := RX2) (T := TX2) (N := 3) hd hown m418 (hs.get (k := 4)) rfl (by decide +kernel) kk
  · have e : b2i ((5 : Int32) = 5) = 1 := by decide
    rw [e] at kk
    exact s_instY (ci := 7) (Cn := RX5) (T := TX5) (N := 3) hd hown m418 (hs.get (k := 5)) rfl (Or.inl rfl) kk
  · have e : b2i ((6 : Int32) = 5) = 0 := by decide
    rw [e] at kk
    exact s_instNo (ci := 12) (Cn := RX10) (T := TX10) (N := 3) hd hown m418 (hs.get (k := 6)) rfl (by decide +kernel) kk
theorem iS_X11_125 {n : Nat} {k i v : Int32} (hs : SV D n k i v) (hd : decode q.2.1 pc = .ok (.instanceof 125, 3)) (hown : q.1.cls = RX11) (kk : Sem d q mc ms (pc + 3) L (.int (b2i (k = 6)) :: st) (xh X M D) Qp) : Sem d q mc ms pc L (.ref n :: st) (xh X M D) Qp := by
  rcases i07 hs.2.2 with rfl | rfl | rfl | rfl | rfl | rfl | rfl
  · have e : b2i ((0 : Int32) = 6) = 0 := by decide
    rw [e] at kk
    exact s_instNo (ci := 5) (Cn := RX3) (T := TX3) (N := 3) hd hown m428 (hs.get (k := 0)) rfl (by decide +kernel) kk
  · have e : b2i ((1 : Int32) = 6) = 0 := by decide
    rw [e] at kk
    exact s_instNo (ci := 3) (Cn := RX1) (T := TX1) (N := 3) hd hown m428 (hs.get (k := 1)) rfl (by decide +kernel) kk
  · have e : b2i ((2 : Int32) = 6) = 0 := by decide
    rw [e] at kk
    exact s_instNo (ci := 10) (Cn := RX8) (T := TX8) (N := 3) hd hown m428 (hs.get (k := 2)) rfl (by decide +kernel) kk
  · have e : b2i ((3 : Int32) = 6) = 0 := by decide
    rw [e] at kk
    exact s_instNo (ci := 11) (Cn := RX9) (T := TX9) (N := 3) hd hown m428 (hs.get (k := 3)) rfl (by decide +kernel) kk
  · have e : b2i ((4 : Int32) = 6) = 0 := by decide
    rw [e] at kk
    exact s_instNo (ci := 4) (Cn := RX2) (T := TX2) (N := 3) hd hown m428 (hs.get (k := 4)) rfl (by decide +kernel) kk
  · have e : b2i ((5 : Int32) = 6) = 0 := by decide
    rw [e] at kk
    exact s_instNo (ci := 7) (Cn := RX5) (T := TX5) (N := 3) hd hown m428 (hs.get (k := 5)) rfl (by decide +kernel) kk
  · have e : b2i ((6 : Int32) = 6) = 1 := by decide
    rw [e] at kk
    exact s_instY (ci := 12) (Cn := RX10) (T := TX10) (N := 3) hd hown m428 (hs.get (k := 6)) rfl (Or.inl rfl) kk
end IRules
