theorem l_room {k r : Nat} (hkr : k + r = 512) {sL : Nat} (hL : sL ≤ 3072) (c : ¬ nI sL - 6 < nI (6 * k)) : 6 * k + 6 ≤ sL := by
  have h := Int32.not_lt.mp c
  rw [Int32.le_iff_toInt_le] at h
  have e1 : (nI sL).toInt = (sL : Int) := nI_toInt (by omega)
  have e2 : (nI (6 * k)).toInt = ((6 * k : Nat) : Int) := nI_toInt (by omega)
  have e3 : (nI sL - 6).toInt = (sL : Int) - 6 := by rw [fb_subI (by rw [e1, show (6 : Int32).toInt = 6 from rfl]; omega) (by rw [e1, show (6 : Int32).toInt = 6 from rfl]; omega), e1]; rfl
  rw [e2, e3] at h
  omega
theorem l_loop {sb sL : Nat} {sx : Nat → Int32} (hL : sL ≤ 3072) : ∀ (r k : Nat) (X : XZ) (M : MZ) (D : HP), k + r = 512 → RR X M D → SemL sb sL sx 41 qLaw (12 * r) (180 * r) 18 [(3, .int (nI (6 * k))), (2, .ref 95), (1, .ref 0), (0, .float 400)] [] (xh X M D) := by
  intro r
  induction r with
  | zero =>
    intro k X M D hkr h
    refine zl_iload_n (j := 0) dL_law_18 rfl ?_
    refine zl_aload_ne (j := 3) dL_law_19 rfl ?_
    refine zl_slen dL_law_20 ?_
    refine zl_bipush (v := 6) dL_law_21 (by decide) ?_
    refine zl_isub dL_law_23 ?_
    refine zl_icmp_gt dL_law_24 (tgt := 1500) (by decide) (fun c24 => ?_) (fun c24 => ?_)
    · refine zl_iconst (v := 1) dL_law_1500 (by decide) ?_
      exact zl_end rfl rfl dL_law_1501
    · have := l_room hkr hL c24
      omega
  | succ r ih =>
    intro k X M D hkr h
    have kk : ∀ X2 M2 D2, RR X2 M2 D2 → SemL sb sL sx 41 qLaw (12 * r) (180 * r) 1494 [(3, .int (nI (6 * k))), (2, .ref 95), (1, .ref 0), (0, .float 400)] [] (xh X2 M2 D2) := fun X2 M2 D2 hR => by
      refine zl_iinc (j := 0) (v := _ + (6)) dL_law_1494 rfl rfl (by decide) rfl ?_
      refine zl_goto dL_law_1497 (tgt := 18) (by decide) ?_
      have h9 := ih (k + 1) X2 M2 D2 (by omega) hR
      rw [show nI (6 * (k + 1)) = nI (6 * k) + 6 from by rw [show (6 : Int32) = nI 6 from rfl, nI_add, Nat.mul_succ]] at h9
      exact h9
    refine zl_iload_n (j := 0) dL_law_18 rfl ?_
    refine zl_aload_ne (j := 3) dL_law_19 rfl ?_
    refine zl_slen dL_law_20 ?_
    refine zl_bipush (v := 6) dL_law_21 (by decide) ?_
    refine zl_isub dL_law_23 ?_
    refine zl_icmp_gt dL_law_24 (tgt := 1500) (by decide) (fun c24 => ?_) (fun c24 => ?_)
    · refine zl_iconst (v := 1) dL_law_1500 (by decide) ?_
      exact zl_end rfl rfl dL_law_1501
    · have hk := l_room hkr hL c24
      refine zl_aload_ne (j := 3) dL_law_27 rfl ?_
      refine zl_iload_n (j := 0) dL_law_28 rfl ?_
      refine zl_sld dL_law_29 (l_i0 hk hL) ?_
      refine zl_bipush (v := 63) dL_law_30 (by decide) ?_
      refine zl_iand dL_law_32 ?_
      rw [Nat.mul_succ, Nat.mul_succ]
      refine zl_topi (fun x33 e33 => ?_)
      clear e33
      by_cases k0 : x33 = 0
      · exact zl_tswIn dL_law_33 (tgt := 204) (by rw [k0]; decide) (by rw [k0]; decide) (off := 171) (by rw [k0]; decide) (by decide) (l_c0 k hk hL h kk)
      by_cases k1 : x33 = 1
      · exact zl_tswIn dL_law_33 (tgt := 257) (by rw [k1]; decide) (by rw [k1]; decide) (off := 224) (by rw [k1]; decide) (by decide) (l_c1 k hk hL h kk)
      by_cases k2 : x33 = 2
      · exact zl_tswIn dL_law_33 (tgt := 290) (by rw [k2]; decide) (by rw [k2]; decide) (off := 257) (by rw [k2]; decide) (by decide) (l_c2 k hk hL h kk)
      by_cases k3 : x33 = 3
      · exact zl_tswIn dL_law_33 (tgt := 333) (by rw [k3]; decide) (by rw [k3]; decide) (off := 300) (by rw [k3]; decide) (by decide) (l_c3 k hk hL h kk)
      by_cases k4 : x33 = 4
      · exact zl_tswIn dL_law_33 (tgt := 376) (by rw [k4]; decide) (by rw [k4]; decide) (off := 343) (by rw [k4]; decide) (by decide) (l_c4 k hk hL h kk)
      by_cases k5 : x33 = 5
      · exact zl_tswIn dL_law_33 (tgt := 399) (by rw [k5]; decide) (by rw [k5]; decide) (off := 366) (by rw [k5]; decide) (by decide) (l_c5 k hk hL h kk)
      by_cases k6 : x33 = 6
      · exact zl_tswIn dL_law_33 (tgt := 412) (by rw [k6]; decide) (by rw [k6]; decide) (off := 379) (by rw [k6]; decide) (by decide) (l_c6 k hk hL h kk)
      by_cases k7 : x33 = 7
      · exact zl_tswIn dL_law_33 (tgt := 435) (by rw [k7]; decide) (by rw [k7]; decide) (off := 402) (by rw [k7]; decide) (by decide) (l_c7 k hk hL h kk)
      by_cases k8 : x33 = 8
      · exact zl_tswIn dL_law_33 (tgt := 458) (by rw [k8]; decide) (by rw [k8]; decide) (off := 425) (by rw [k8]; decide) (by decide) (l_c8 k hk hL h kk)
      by_cases k9 : x33 = 9
      · exact zl_tswIn dL_law_33 (tgt := 491) (by rw [k9]; decide) (by rw [k9]; decide) (off := 458) (by rw [k9]; decide) (by decide) (l_c9 k hk hL h kk)
      by_cases k10 : x33 = 10
      · exact zl_tswIn dL_law_33 (tgt := 534) (by rw [k10]; decide) (by rw [k10]; decide) (off := 501) (by rw [k10]; decide) (by decide) (l_c10 k hk hL h kk)
      by_cases k11 : x33 = 11
      · exact zl_tswIn dL_law_33 (tgt := 577) (by rw [k11]; decide) (by rw [k11]; decide) (off := 544) (by rw [k11]; decide) (by decide) (l_c11 k hk hL h kk)
      by_cases k12 : x33 = 12
      · exact zl_tswIn dL_law_33 (tgt := 620) (by rw [k12]; decide) (by rw [k12]; decide) (off := 587) (by rw [k12]; decide) (by decide) (l_c12 k hk hL h kk)
      by_cases k13 : x33 = 13
      · exact zl_tswIn dL_law_33 (tgt := 653) (by rw [k13]; decide) (by rw [k13]; decide) (off := 620) (by rw [k13]; decide) (by decide) (l_c13 k hk hL h kk)
      by_cases k14 : x33 = 14
      · exact zl_tswIn dL_law_33 (tgt := 676) (by rw [k14]; decide) (by rw [k14]; decide) (off := 643) (by rw [k14]; decide) (by decide) (l_c14 k hk hL h kk)
      by_cases k15 : x33 = 15
      · exact zl_tswIn dL_law_33 (tgt := 699) (by rw [k15]; decide) (by rw [k15]; decide) (off := 666) (by rw [k15]; decide) (by decide) (l_c15 k hk hL h kk)
      by_cases k16 : x33 = 16
      · exact zl_tswIn dL_law_33 (tgt := 732) (by rw [k16]; decide) (by rw [k16]; decide) (off := 699) (by rw [k16]; decide) (by decide) (l_c16 k hk hL h kk)
      by_cases k17 : x33 = 17
      · exact zl_tswIn dL_law_33 (tgt := 765) (by rw [k17]; decide) (by rw [k17]; decide) (off := 732) (by rw [k17]; decide) (by decide) (l_c17 k hk hL h kk)
      by_cases k18 : x33 = 18
      · exact zl_tswIn dL_law_33 (tgt := 798) (by rw [k18]; decide) (by rw [k18]; decide) (off := 765) (by rw [k18]; decide) (by decide) (l_c18 k hk hL h kk)
      by_cases k19 : x33 = 19
      · exact zl_tswIn dL_law_33 (tgt := 831) (by rw [k19]; decide) (by rw [k19]; decide) (off := 798) (by rw [k19]; decide) (by decide) (l_c19 k hk hL h kk)
      by_cases k20 : x33 = 20
      · exact zl_tswIn dL_law_33 (tgt := 854) (by rw [k20]; decide) (by rw [k20]; decide) (off := 821) (by rw [k20]; decide) (by decide) (l_c20 k hk hL h kk)
      by_cases k21 : x33 = 21
      · exact zl_tswIn dL_law_33 (tgt := 897) (by rw [k21]; decide) (by rw [k21]; decide) (off := 864) (by rw [k21]; decide) (by decide) (l_c21 k hk hL h kk)
      by_cases k22 : x33 = 22
      · exact zl_tswIn dL_law_33 (tgt := 940) (by rw [k22]; decide) (by rw [k22]; decide) (off := 907) (by rw [k22]; decide) (by decide) (l_c22 k hk hL h kk)
      by_cases k23 : x33 = 23
      · exact zl_tswIn dL_law_33 (tgt := 973) (by rw [k23]; decide) (by rw [k23]; decide) (off := 940) (by rw [k23]; decide) (by decide) (l_c23 k hk hL h kk)
      by_cases k24 : x33 = 24
      · exact zl_tswIn dL_law_33 (tgt := 986) (by rw [k24]; decide) (by rw [k24]; decide) (off := 953) (by rw [k24]; decide) (by decide) (l_c24 k hk hL h kk)
      by_cases k25 : x33 = 25
      · exact zl_tswIn dL_law_33 (tgt := 1020) (by rw [k25]; decide) (by rw [k25]; decide) (off := 987) (by rw [k25]; decide) (by decide) (l_c25 k hk hL h kk)
      by_cases k26 : x33 = 26
      · exact zl_tswIn dL_law_33 (tgt := 1044) (by rw [k26]; decide) (by rw [k26]; decide) (off := 1011) (by rw [k26]; decide) (by decide) (l_c26 k hk hL h kk)
      by_cases k27 : x33 = 27
      · exact zl_tswIn dL_law_33 (tgt := 1087) (by rw [k27]; decide) (by rw [k27]; decide) (off := 1054) (by rw [k27]; decide) (by decide) (l_c27 k hk hL h kk)
      by_cases k28 : x33 = 28
      · exact zl_tswIn dL_law_33 (tgt := 1100) (by rw [k28]; decide) (by rw [k28]; decide) (off := 1067) (by rw [k28]; decide) (by decide) (l_c28 k hk hL h kk)
      by_cases k29 : x33 = 29
      · exact zl_tswIn dL_law_33 (tgt := 1133) (by rw [k29]; decide) (by rw [k29]; decide) (off := 1100) (by rw [k29]; decide) (by decide) (l_c29 k hk hL h kk)
      by_cases k30 : x33 = 30
      · exact zl_tswIn dL_law_33 (tgt := 1146) (by rw [k30]; decide) (by rw [k30]; decide) (off := 1113) (by rw [k30]; decide) (by decide) (l_c30 k hk hL h kk)
      by_cases k31 : x33 = 31
      · exact zl_tswIn dL_law_33 (tgt := 1159) (by rw [k31]; decide) (by rw [k31]; decide) (off := 1126) (by rw [k31]; decide) (by decide) (l_c31 k hk hL h kk)
      by_cases k32 : x33 = 32
      · exact zl_tswIn dL_law_33 (tgt := 1202) (by rw [k32]; decide) (by rw [k32]; decide) (off := 1169) (by rw [k32]; decide) (by decide) (l_c32 k hk hL h kk)
      by_cases k33 : x33 = 33
      · exact zl_tswIn dL_law_33 (tgt := 1225) (by rw [k33]; decide) (by rw [k33]; decide) (off := 1192) (by rw [k33]; decide) (by decide) (l_c33 k hk hL h kk)
      by_cases k34 : x33 = 34
      · exact zl_tswIn dL_law_33 (tgt := 1258) (by rw [k34]; decide) (by rw [k34]; decide) (off := 1225) (by rw [k34]; decide) (by decide) (l_c34 k hk hL h kk)
      by_cases k35 : x33 = 35
      · exact zl_tswIn dL_law_33 (tgt := 1281) (by rw [k35]; decide) (by rw [k35]; decide) (off := 1248) (by rw [k35]; decide) (by decide) (l_c35 k hk hL h kk)
      by_cases k36 : x33 = 36
      · exact zl_tswIn dL_law_33 (tgt := 1324) (by rw [k36]; decide) (by rw [k36]; decide) (off := 1291) (by rw [k36]; decide) (by decide) (l_c36 k hk hL h kk)
      by_cases k37 : x33 = 37
      · exact zl_tswIn dL_law_33 (tgt := 1397) (by rw [k37]; decide) (by rw [k37]; decide) (off := 1364) (by rw [k37]; decide) (by decide) (l_c37 k hk hL h kk)
      by_cases k38 : x33 = 38
      · exact zl_tswIn dL_law_33 (tgt := 1431) (by rw [k38]; decide) (by rw [k38]; decide) (off := 1398) (by rw [k38]; decide) (by decide) (l_c38 k hk hL h kk)
      refine zl_tswOut dL_law_33 (tgt := 1494) (by have a0 := lv_neT (a := 0) k0 rfl; have a1 := lv_neT (a := 1) k1 rfl; have a2 := lv_neT (a := 2) k2 rfl; have a3 := lv_neT (a := 3) k3 rfl; have a4 := lv_neT (a := 4) k4 rfl; have a5 := lv_neT (a := 5) k5 rfl; have a6 := lv_neT (a := 6) k6 rfl; have a7 := lv_neT (a := 7) k7 rfl; have a8 := lv_neT (a := 8) k8 rfl; have a9 := lv_neT (a := 9) k9 rfl; have a10 := lv_neT (a := 10) k10 rfl; have a11 := lv_neT (a := 11) k11 rfl; have a12 := lv_neT (a := 12) k12 rfl; have a13 := lv_neT (a := 13) k13 rfl; have a14 := lv_neT (a := 14) k14 rfl; have a15 := lv_neT (a := 15) k15 rfl; have a16 := lv_neT (a := 16) k16 rfl; have a17 := lv_neT (a := 17) k17 rfl; have a18 := lv_neT (a := 18) k18 rfl; have a19 := lv_neT (a := 19) k19 rfl; have a20 := lv_neT (a := 20) k20 rfl; have a21 := lv_neT (a := 21) k21 rfl; have a22 := lv_neT (a := 22) k22 rfl; have a23 := lv_neT (a := 23) k23 rfl; have a24 := lv_neT (a := 24) k24 rfl; have a25 := lv_neT (a := 25) k25 rfl; have a26 := lv_neT (a := 26) k26 rfl; have a27 := lv_neT (a := 27) k27 rfl; have a28 := lv_neT (a := 28) k28 rfl; have a29 := lv_neT (a := 29) k29 rfl; have a30 := lv_neT (a := 30) k30 rfl; have a31 := lv_neT (a := 31) k31 rfl; have a32 := lv_neT (a := 32) k32 rfl; have a33 := lv_neT (a := 33) k33 rfl; have a34 := lv_neT (a := 34) k34 rfl; have a35 := lv_neT (a := 35) k35 rfl; have a36 := lv_neT (a := 36) k36 rfl; have a37 := lv_neT (a := 37) k37 rfl; have a38 := lv_neT (a := 38) k38 rfl; omega) (by decide) ?_
      exact zl_room (by omega) (by omega) (kk X M D h)
