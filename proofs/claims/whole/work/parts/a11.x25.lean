set_option maxRecDepth 100000 in
set_option maxHeartbeats 800000 in
theorem x_adA (d : Nat) (X : XZ) (M : MZ) (D : HP) (b : Int32) (hb : 0 ≤ b ∧ b ≤ 127) (hs : X.1 53 = 0) (he : X.2.2.2.1 3 = .float 301) : Con (d + 3) qJx4a65c_add_72be8 1 15 [.ref 38, .float (bx b), .float 301, .int 0] (xh X M D) (PV fun h => ∃ X2 D2, h = xh X2 M D2 ∧ FB X D X2 D2 ∧ BO X2 D2 [b]) := by
  refine Con.of (by decide +kernel) (Nat.le_of_ble_eq_true rfl) ?_
  show Sem (d + 3) qJx4a65c_add_72be8 1 15 0 [(0, .ref 38), (1, .float (bx b)), (2, .float 301), (3, .int 0)] [] (xh X M D) _
  refine s_iload_n (j := 3) dJx4a65c_add_72be8_0 rfl ?_
  refine s_aload_ne (j := 2) dJx4a65c_add_72be8_1 rfl ?_
  refine e_alen0 dJx4a65c_add_72be8_2 ?_
  refine s_icmp_ne dJx4a65c_add_72be8_3 (tgt := 11) (by decide) (fun c3 => ?_) (fun c3 => ?_)
  · exact absurd rfl c3
  · refine s_aload_nr (j := 0) dJx4a65c_add_72be8_6 rfl ?_
    refine s_V0rm (mc := 0) (ms := 5) cv_Jx4a65c_129 rfl dJx4a65c_add_72be8_7 xg_Jx4a65c rfl (Nat.le_of_ble_eq_true rfl) (x_gr0A _ X M D he hs) rfl rfl (fun y7 h7 q7 => ?_)
    obtain ⟨rfl, rfl⟩ := q7
    refine s_astore_nr dJx4a65c_add_72be8_10 (by decide) rfl ?_
    have hc2 : (xh (xv X 3 (.ref (136 + D.length))) M (D ++ [.inl (8, 10, .inr (.inr fun _ => Value.null))]))[136 + D.length]? = some (.inl (8, 10, .inr (.inr fun _ => Value.null))) := (xh_dyn (by omega)).trans (d_new D _)
    refine s_aload_nr (j := 0) dJx4a65c_add_72be8_11 rfl ?_
    refine s_iload_n (j := 3) dJx4a65c_add_72be8_12 rfl ?_
    refine s_aload_ne (j := 2) dJx4a65c_add_72be8_13 rfl ?_
    refine s_aastB dJx4a65c_add_72be8_14 hc2 (bx_lt hb) (by show vp_in (nI 0) 10; exact vp_in_nI (by decide) (by decide)) ?_
    rw [xh_dset (by omega)]
    refine s_aload_nr (j := 1) dJx4a65c_add_72be8_15 rfl ?_
    refine s_iload_n (j := 3) dJx4a65c_add_72be8_16 rfl ?_
    refine s_iconst (v := 1) dJx4a65c_add_72be8_17 (by decide) ?_
    refine s_iadd dJx4a65c_add_72be8_18 ?_
    refine pX_Jx4a65c_48 dJx4a65c_add_72be8_19 rfl ?_
    exact e_vret dJx4a65c_add_72be8_22 rfl (by exact ⟨_, _, rfl, (((FB.rf X D).pv.dd (FD.push D _)).dd (FD.set (d_new D _))).p1 (Or.inr rfl), BO.put (tr := []) (n := 136 + D.length) (by omega) (xvat _ _ _) (d_new D _) (Or.inl rfl) (by decide) (by decide) (fun _ h => absurd h List.not_mem_nil) hb (BF.nil _)⟩)

set_option maxRecDepth 100000 in
set_option maxHeartbeats 800000 in
theorem x_adB (d : Nat) (X : XZ) (M : MZ) (D : HP) (tr : List Int32) (hl2 : tr.length ≤ 14) (ht : ∀ x, x ∈ tr → 0 ≤ x ∧ x ≤ 127) (b : Int32) (hb : 0 ≤ b ∧ b ≤ 127) (hs : X.1 53 = nI tr.length) (n cap : Nat) (hn : 136 ≤ n) (f : Nat → Value) (he : X.2.2.2.1 3 = .ref n) (hc : D[n - 136]? = some (.inl (8, cap, .inr (.inr f)))) (hcap : cap = 10 ∨ cap = 15) (hl : tr.length < cap) (hf : BF tr f) : Con d qJx4a65c_add_72be8 0 0 [.ref 38, .float (bx b), .ref n, .int (nI tr.length)] (xh X M D) (PV fun h => ∃ X2 D2, h = xh X2 M D2 ∧ FB X D X2 D2 ∧ BO X2 D2 (tr ++ [b])) := by
  refine Con.of (by decide +kernel) (Nat.le_of_ble_eq_true rfl) ?_
  show Sem d qJx4a65c_add_72be8 0 0 0 [(0, .ref 38), (1, .float (bx b)), (2, .ref n), (3, .int (nI tr.length))] [] (xh X M D) _
  refine s_iload_n (j := 3) dJx4a65c_add_72be8_0 rfl ?_
  refine s_aload_nr (j := 2) dJx4a65c_add_72be8_1 rfl ?_
  refine s_alen dJx4a65c_add_72be8_2 (((xh_dyn hn).trans hc)) rfl (v := nI cap) rfl ?_
  refine s_icmp_ne dJx4a65c_add_72be8_3 (tgt := 11) (by decide) (fun c3 => ?_) (fun c3 => ?_)
  · refine s_aload_nr (j := 2) dJx4a65c_add_72be8_11 rfl ?_
    refine s_iload_n (j := 3) dJx4a65c_add_72be8_12 rfl ?_
    refine s_aload_ne (j := 1) dJx4a65c_add_72be8_13 rfl ?_
    refine s_aastB dJx4a65c_add_72be8_14 ((xh_dyn hn).trans hc) (bx_lt hb) (vp_in_nI hl (by omega)) ?_
    rw [xh_dset hn, nI_clamp (n := tr.length) (by omega)]
    refine s_aload_nr (j := 0) dJx4a65c_add_72be8_15 rfl ?_
    refine s_iload_n (j := 3) dJx4a65c_add_72be8_16 rfl ?_
    refine s_iconst (v := 1) dJx4a65c_add_72be8_17 (by decide) ?_
    refine s_iadd dJx4a65c_add_72be8_18 ?_
    simp only [nI_1]
    refine pX_Jx4a65c_48 dJx4a65c_add_72be8_19 rfl ?_
    exact e_vret dJx4a65c_add_72be8_22 rfl (by exact ⟨_, _, rfl, ((FB.rf X D).dd (FD.set hc)).p1 (Or.inr rfl), BO.put hn he hc hcap hl hl2 ht hb hf⟩)
  · exact absurd ((nI_eq (by omega) (by omega)).mp c3) (by omega)

set_option maxRecDepth 100000 in
set_option maxHeartbeats 800000 in
theorem x_adC (d : Nat) (X : XZ) (M : MZ) (D : HP) (tr : List Int32) (hl2 : tr.length ≤ 14) (ht : ∀ x, x ∈ tr → 0 ≤ x ∧ x ≤ 127) (b : Int32) (hb : 0 ≤ b ∧ b ≤ 127) (hs : X.1 53 = nI tr.length) (n : Nat) (hn : 136 ≤ n) (f : Nat → Value) (he : X.2.2.2.1 3 = .ref n) (hc : D[n - 136]? = some (.inl (8, 10, .inr (.inr f)))) (hl : tr.length = 10) (hf : BF tr f) : Con (d + 5) qJx4a65c_add_72be8 1 15 [.ref 38, .float (bx b), .ref n, .int (nI tr.length)] (xh X M D) (PV fun h => ∃ X2 D2, h = xh X2 M D2 ∧ FB X D X2 D2 ∧ BO X2 D2 (tr ++ [b])) := by
  refine Con.of (by decide +kernel) (Nat.le_of_ble_eq_true rfl) ?_
  show Sem (d + 5) qJx4a65c_add_72be8 1 15 0 [(0, .ref 38), (1, .float (bx b)), (2, .ref n), (3, .int (nI tr.length))] [] (xh X M D) _
  refine s_iload_n (j := 3) dJx4a65c_add_72be8_0 rfl ?_
  refine s_aload_nr (j := 2) dJx4a65c_add_72be8_1 rfl ?_
  refine s_alen dJx4a65c_add_72be8_2 (((xh_dyn hn).trans hc)) rfl (v := nI 10) rfl ?_
  refine s_icmp_ne dJx4a65c_add_72be8_3 (tgt := 11) (by decide) (fun c3 => ?_) (fun c3 => ?_)
  · exact absurd (by rw [hl]) c3
  · refine s_aload_nr (j := 0) dJx4a65c_add_72be8_6 rfl ?_
    refine s_V0rm (mc := 0) (ms := 0) cv_Jx4a65c_129 rfl dJx4a65c_add_72be8_7 xg_Jx4a65c rfl (Nat.le_of_ble_eq_true rfl) (x_gr0C _ X M D n hn f he hc (by have := hf.box ht; rw [hl] at this; exact this) (by rw [hs, hl]; rfl)) rfl rfl (fun y7 h7 q7 => ?_)
    obtain ⟨rfl, rfl⟩ := q7
    refine s_astore_nr dJx4a65c_add_72be8_10 (by decide) rfl ?_
    have hc2 : (xh (xv X 3 (.ref (136 + D.length))) M (D ++ [.inl (8, 15, .inr (.inr (va_cpy f (fun _ => Value.null) 0 0 10)))]))[136 + D.length]? = some (.inl (8, 15, .inr (.inr (va_cpy f (fun _ => Value.null) 0 0 10)))) := (xh_dyn (by omega)).trans (d_new D _)
    refine s_aload_nr (j := 0) dJx4a65c_add_72be8_11 rfl ?_
    refine s_iload_n (j := 3) dJx4a65c_add_72be8_12 rfl ?_
    refine s_aload_ne (j := 2) dJx4a65c_add_72be8_13 rfl ?_
    refine s_aastB dJx4a65c_add_72be8_14 hc2 (bx_lt hb) (vp_in_nI (by omega) (by omega)) ?_
    rw [xh_dset (by omega), nI_clamp (n := tr.length) (by omega)]
    refine s_aload_nr (j := 1) dJx4a65c_add_72be8_15 rfl ?_
    refine s_iload_n (j := 3) dJx4a65c_add_72be8_16 rfl ?_
    refine s_iconst (v := 1) dJx4a65c_add_72be8_17 (by decide) ?_
    refine s_iadd dJx4a65c_add_72be8_18 ?_
    simp only [nI_1]
    refine pX_Jx4a65c_48 dJx4a65c_add_72be8_19 rfl ?_
    exact e_vret dJx4a65c_add_72be8_22 rfl (by exact ⟨_, _, rfl, (((FB.rf X D).pv.dd (FD.push D _)).dd (FD.set (d_new D _))).p1 (Or.inr rfl), BO.put (n := 136 + D.length) (by omega) (xvat _ _ _) (d_new D _) (Or.inr rfl) (by omega) hl2 ht hb (hf.cpy (by omega))⟩)
