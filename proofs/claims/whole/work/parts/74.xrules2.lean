theorem mAC_X4 : Cond.methodLink RX4 59 arraycopyName ∈ gW := gW_of (i := 799) (by decide +kernel) rfl
theorem mAC_X6 : Cond.methodLink RX6 51 arraycopyName ∈ gW := gW_of (i := 1149) (by decide +kernel) rfl
theorem mAC_J7 : Cond.methodLink RJ7 150 arraycopyName ∈ gW := gW_of (i := 996) (by decide +kernel) rfl
theorem mACs : Cond.static arraycopyName ∈ gW := gW_of (i := 800) (by decide +kernel) rfl
theorem mACn : Cond.native arraycopyName ∈ gW := gW_of (i := 801) (by decide +kernel) rfl
theorem mSys : Cond.initialized "java/lang/System" ∈ gW := gW_of (i := 94) (by decide +kernel) rfl
def xra (X : XZ) (j : Nat) (f : Nat → Int32) : XZ := (X.1, va_up X.2.1 j f, X.2.2)
def xrl (X : XZ) (j : Nat) (f : Nat → Int64) : XZ := (X.1, X.2.1, va_up X.2.2.1 j f, X.2.2.2)
section XRules2
variable {d mc ms pc : Nat} {q : QM} {L : List (Nat × Value)} {st : List Value} {X : XZ} {M : MZ} {D : HP} {Qp : PO}
theorem sX_srv0 {w : Nat} (hw : w < 3) {x : Int32} (hd : decode q.2.1 pc = .ok (.aastore, 1)) (hin : vp_in x 4) (kk : Sem d q mc ms (pc + 1) L st (xh (xw X w (pz x) .null) M D) Qp) : Sem d q mc ms pc L (.null :: .int x :: .ref (1 + 11 * w + 1) :: st) (xh X M D) Qp := s_aast0 (t := 4) (E := "TwoServes$Server") hd (xg_X4_servers hw) rfl hin (s_heq (xq_X4_servers hw) kk)
theorem sX_srv {w : Nat} (hw : w < 3) {x : Int32} {n : Nat} {k i v : Int32} (hs : SV D n k i v) (hd : decode q.2.1 pc = .ok (.aastore, 1)) (hin : vp_in x 4) (kk : Sem d q mc ms (pc + 1) L st (xh (xw X w (pz x) (.ref n)) M D) Qp) : Sem d q mc ms pc L (.ref n :: .int x :: .ref (1 + 11 * w + 1) :: st) (xh X M D) Qp := by
  rcases i07 hs.2.2 with rfl | rfl | rfl | rfl | rfl | rfl | rfl
  · exact s_aast (t := 4) (E := "TwoServes$Server") (ci := 5) (Cn := RX3) (T := TX3) (N := 3) hd (xg_X4_servers hw) rfl (hs.get (k := 0)) rfl (Or.inl rfl) hin (s_heq (xq_X4_servers hw) kk)
  · exact s_aast (t := 4) (E := "TwoServes$Server") (ci := 3) (Cn := RX1) (T := TX1) (N := 3) hd (xg_X4_servers hw) rfl (hs.get (k := 1)) rfl (Or.inr (by decide)) hin (s_heq (xq_X4_servers hw) kk)
  · exact s_aast (t := 4) (E := "TwoServes$Server") (ci := 10) (Cn := RX8) (T := TX8) (N := 3) hd (xg_X4_servers hw) rfl (hs.get (k := 2)) rfl (Or.inr (by decide)) hin (s_heq (xq_X4_servers hw) kk)
  · exact s_aast (t := 4) (E := "TwoServes$Server") (ci := 11) (Cn := RX9) (T := TX9) (N := 3) hd (xg_X4_servers hw) rfl (hs.get (k := 3)) rfl (Or.inr (by decide)) hin (s_heq (xq_X4_servers hw) kk)
  · exact s_aast (t := 4) (E := "TwoServes$Server") (ci := 4) (Cn := RX2) (T := TX2) (N := 3) hd (xg_X4_servers hw) rfl (hs.get (k := 4)) rfl (Or.inr (by decide)) hin (s_heq (xq_X4_servers hw) kk)
  · exact s_aast (t := 4) (E := "TwoServes$Server") (ci := 7) (Cn := RX5) (T := TX5) (N := 3) hd (xg_X4_servers hw) rfl (hs.get (k := 5)) rfl (Or.inr (by decide)) hin (s_heq (xq_X4_servers hw) kk)
  · exact s_aast (t := 4) (E := "TwoServes$Server") (ci := 12) (Cn := RX10) (T := TX10) (N := 3) hd (xg_X4_servers hw) rfl (hs.get (k := 6)) rfl (Or.inr (by decide)) hin (s_heq (xq_X4_servers hw) kk)
theorem xr_X4_rows {f : Nat → Int32} {w : Nat} (hw : w < 3) : (xh X M D).set (1 + 11 * w + 5) (.inl (0, 16, .inl f)) = xh (xra X (9 * w + 3) f) M D := xh_set (by omega) (match w, hw with | 0, _ => rfl | 1, _ => rfl | 2, _ => rfl)
theorem cX_rows {w u : Nat} (hw : w < 3) (hu : u < 3) {n : Int32} (hn : n = 16) (hd : decode q.2.1 pc = .ok (.invokestatic 59, 3)) (hown : q.1.cls = RX4) (hz : (st.map fun v => v.category).sum ≤ 8) (kk : Sem (d + 1) q mc ms (pc + 3) L st (xh (xra X (9 * w + 3) (X.2.1 (9 * u + 3))) M D) Qp) : Sem (d + 1) q mc ms pc L (.int n :: .int 0 :: .ref (1 + 11 * w + 5) :: .int 0 :: .ref (1 + 11 * u + 5) :: st) (xh X M D) Qp := by
  subst hn
  refine s_copy (t := 0) (n0 := 16) (n1 := 16) (a2 := .inl (X.2.1 (9 * u + 3))) hown hd mAC_X4 mACn mACs mSys (xg_X4_rows hu) (xg_X4_rows hw) rfl rfl (by decide) (by decide) (by decide) (by decide) (by decide) (fun _ _ => rfl) (Or.inl ⟨_, rfl⟩) hz (fun w9 k hk => ?_) (s_heq (xr_X4_rows hw) kk)
  unfold va_cpy
  rw [show (0 : Int32).toNatClampNeg = 0 from rfl, show (16 : Int32).toNatClampNeg = 16 from rfl, if_pos ⟨Nat.zero_le _, by omega⟩, Nat.sub_zero, Nat.zero_add]
theorem xr_X4_seen {f : Nat → Int32} {w : Nat} (hw : w < 3) : (xh X M D).set (1 + 11 * w + 6) (.inl (0, 6, .inl f)) = xh (xra X (9 * w + 4) f) M D := xh_set (by omega) (match w, hw with | 0, _ => rfl | 1, _ => rfl | 2, _ => rfl)
theorem cX_seen {w u : Nat} (hw : w < 3) (hu : u < 3) {n : Int32} (hn : n = 6) (hd : decode q.2.1 pc = .ok (.invokestatic 59, 3)) (hown : q.1.cls = RX4) (hz : (st.map fun v => v.category).sum ≤ 8) (kk : Sem (d + 1) q mc ms (pc + 3) L st (xh (xra X (9 * w + 4) (X.2.1 (9 * u + 4))) M D) Qp) : Sem (d + 1) q mc ms pc L (.int n :: .int 0 :: .ref (1 + 11 * w + 6) :: .int 0 :: .ref (1 + 11 * u + 6) :: st) (xh X M D) Qp := by
  subst hn
  refine s_copy (t := 0) (n0 := 6) (n1 := 6) (a2 := .inl (X.2.1 (9 * u + 4))) hown hd mAC_X4 mACn mACs mSys (xg_X4_seen hu) (xg_X4_seen hw) rfl rfl (by decide) (by decide) (by decide) (by decide) (by decide) (fun _ _ => rfl) (Or.inl ⟨_, rfl⟩) hz (fun w9 k hk => ?_) (s_heq (xr_X4_seen hw) kk)
  unfold va_cpy
  rw [show (0 : Int32).toNatClampNeg = 0 from rfl, show (6 : Int32).toNatClampNeg = 6 from rfl, if_pos ⟨Nat.zero_le _, by omega⟩, Nat.sub_zero, Nat.zero_add]
theorem xr_X4_bookServer {f : Nat → Int32} {w : Nat} (hw : w < 3) : (xh X M D).set (1 + 11 * w + 7) (.inl (0, 10, .inl f)) = xh (xra X (9 * w + 5) f) M D := xh_set (by omega) (match w, hw with | 0, _ => rfl | 1, _ => rfl | 2, _ => rfl)
theorem cX_bookServer {w u : Nat} (hw : w < 3) (hu : u < 3) {n : Int32} (hn : n = 10) (hd : decode q.2.1 pc = .ok (.invokestatic 59, 3)) (hown : q.1.cls = RX4) (hz : (st.map fun v => v.category).sum ≤ 8) (kk : Sem (d + 1) q mc ms (pc + 3) L st (xh (xra X (9 * w + 5) (X.2.1 (9 * u + 5))) M D) Qp) : Sem (d + 1) q mc ms pc L (.int n :: .int 0 :: .ref (1 + 11 * w + 7) :: .int 0 :: .ref (1 + 11 * u + 7) :: st) (xh X M D) Qp := by
  subst hn
  refine s_copy (t := 0) (n0 := 10) (n1 := 10) (a2 := .inl (X.2.1 (9 * u + 5))) hown hd mAC_X4 mACn mACs mSys (xg_X4_bookServer hu) (xg_X4_bookServer hw) rfl rfl (by decide) (by decide) (by decide) (by decide) (by decide) (fun _ _ => rfl) (Or.inl ⟨_, rfl⟩) hz (fun w9 k hk => ?_) (s_heq (xr_X4_bookServer hw) kk)
  unfold va_cpy
  rw [show (0 : Int32).toNatClampNeg = 0 from rfl, show (10 : Int32).toNatClampNeg = 10 from rfl, if_pos ⟨Nat.zero_le _, by omega⟩, Nat.sub_zero, Nat.zero_add]
theorem xr_X4_bookD {f : Nat → Int32} {w : Nat} (hw : w < 3) : (xh X M D).set (1 + 11 * w + 8) (.inl (0, 10, .inl f)) = xh (xra X (9 * w + 6) f) M D := xh_set (by omega) (match w, hw with | 0, _ => rfl | 1, _ => rfl | 2, _ => rfl)
theorem cX_bookD {w u : Nat} (hw : w < 3) (hu : u < 3) {n : Int32} (hn : n = 10) (hd : decode q.2.1 pc = .ok (.invokestatic 59, 3)) (hown : q.1.cls = RX4) (hz : (st.map fun v => v.category).sum ≤ 8) (kk : Sem (d + 1) q mc ms (pc + 3) L st (xh (xra X (9 * w + 6) (X.2.1 (9 * u + 6))) M D) Qp) : Sem (d + 1) q mc ms pc L (.int n :: .int 0 :: .ref (1 + 11 * w + 8) :: .int 0 :: .ref (1 + 11 * u + 8) :: st) (xh X M D) Qp := by
  subst hn
  refine s_copy (t := 0) (n0 := 10) (n1 := 10) (a2 := .inl (X.2.1 (9 * u + 6))) hown hd mAC_X4 mACn mACs mSys (xg_X4_bookD hu) (xg_X4_bookD hw) rfl rfl (by decide) (by decide) (by decide) (by decide) (by decide) (fun _ _ => rfl) (Or.inl ⟨_, rfl⟩) hz (fun w9 k hk => ?_) (s_heq (xr_X4_bookD hw) kk)
  unfold va_cpy
  rw [show (0 : Int32).toNatClampNeg = 0 from rfl, show (10 : Int32).toNatClampNeg = 10 from rfl, if_pos ⟨Nat.zero_le _, by omega⟩, Nat.sub_zero, Nat.zero_add]
theorem xr_X4_bookE {f : Nat → Int32} {w : Nat} (hw : w < 3) : (xh X M D).set (1 + 11 * w + 9) (.inl (0, 10, .inl f)) = xh (xra X (9 * w + 7) f) M D := xh_set (by omega) (match w, hw with | 0, _ => rfl | 1, _ => rfl | 2, _ => rfl)
theorem cX_bookE {w u : Nat} (hw : w < 3) (hu : u < 3) {n : Int32} (hn : n = 10) (hd : decode q.2.1 pc = .ok (.invokestatic 59, 3)) (hown : q.1.cls = RX4) (hz : (st.map fun v => v.category).sum ≤ 8) (kk : Sem (d + 1) q mc ms (pc + 3) L st (xh (xra X (9 * w + 7) (X.2.1 (9 * u + 7))) M D) Qp) : Sem (d + 1) q mc ms pc L (.int n :: .int 0 :: .ref (1 + 11 * w + 9) :: .int 0 :: .ref (1 + 11 * u + 9) :: st) (xh X M D) Qp := by
  subst hn
  refine s_copy (t := 0) (n0 := 10) (n1 := 10) (a2 := .inl (X.2.1 (9 * u + 7))) hown hd mAC_X4 mACn mACs mSys (xg_X4_bookE hu) (xg_X4_bookE hw) rfl rfl (by decide) (by decide) (by decide) (by decide) (by decide) (fun _ _ => rfl) (Or.inl ⟨_, rfl⟩) hz (fun w9 k hk => ?_) (s_heq (xr_X4_bookE hw) kk)
  unfold va_cpy
  rw [show (0 : Int32).toNatClampNeg = 0 from rfl, show (10 : Int32).toNatClampNeg = 10 from rfl, if_pos ⟨Nat.zero_le _, by omega⟩, Nat.sub_zero, Nat.zero_add]
end XRules2
