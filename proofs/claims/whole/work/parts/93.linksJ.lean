theorem m939 : Cond.fieldLink RJ6 205 "java/lang/Integer" "value" "I" ∈ gW := gW_of (i := 939) (by decide +kernel) rfl
theorem uw_J6 : ∀ x ∈ u_ws RJ6 TJ6 1, x ∈ gW := by
  show ∀ x ∈ [u_lay RJ6 TJ6 0], x ∈ gW
  exact List.forall_mem_cons.mpr ⟨gW_of (i := 940) (by decide +kernel) (by decide +kernel), fun _ h => nomatch h⟩
theorem fl_J6_205_0 : FL RJ6 205 0 0 RJ6 TJ6 1 := ⟨rfl, by decide, uw_J6, "java/lang/Integer", m939, Or.inl rfl⟩
theorem m1747 : Cond.fieldLink RJ0 9 "java/lang/String" "value" "[B" ∈ gW := gW_of (i := 1747) (by decide +kernel) rfl
theorem m1748 : Cond.fieldLink RJ0 15 "java/lang/String" "coder" "B" ∈ gW := gW_of (i := 1748) (by decide +kernel) rfl
theorem m932 : Cond.methodLink RJ6 199 yJ6_init_d00df ∈ gW := gW_of (i := 932) (by decide +kernel) rfl
abbrev qJ6_init_d00df : QM := (yJ6_init_d00df, cJ6_init_d00df, 2, none)
theorem m933 : Cond.instanceMethod yJ6_init_d00df ∈ gW := gW_of (i := 933) (by decide +kernel) rfl
theorem m934 : Cond.code yJ6_init_d00df cJ6_init_d00df 2 none ∈ gW := gW_of (i := 934) (by decide +kernel) rfl
theorem ci_J6_199 : CWI RJ6 199 qJ6_init_d00df 1 := ⟨Or.inl m932, m933, m96, m934, ⟨⟨by decide +kernel, by decide +kernel, by decide +kernel⟩, by decide⟩, rfl, rfl⟩
theorem m935 : Cond.methodLink RJ6 202 yJxd2413_init_da8c8 ∈ gW := gW_of (i := 935) (by decide +kernel) rfl
abbrev qJxd2413_init_da8c8 : QM := (yJxd2413_init_da8c8, cJxd2413_init_da8c8, 1, none)
theorem m936 : Cond.instanceMethod yJxd2413_init_da8c8 ∈ gW := gW_of (i := 936) (by decide +kernel) rfl
theorem m95 : Cond.initialized RJxd2413 ∈ gW := gW_of (i := 95) (by decide +kernel) rfl
theorem m937 : Cond.code yJxd2413_init_da8c8 cJxd2413_init_da8c8 1 none ∈ gW := gW_of (i := 937) (by decide +kernel) rfl
theorem ci_J6_202 : CWI RJ6 202 qJxd2413_init_da8c8 0 := ⟨Or.inl m935, m936, m95, m937, ⟨⟨by decide +kernel, by decide +kernel, by decide +kernel⟩, by decide⟩, rfl, rfl⟩
abbrev qJ0_coder_7d493 : QM := (yJ0_coder_7d493, cJ0_coder_7d493, 1, some .byte)
theorem m122 : Cond.methodLink RJ0 335 yJ0_coder_7d493 ∈ gW := gW_of (i := 122) (by decide +kernel) rfl
theorem m123 : Cond.instanceMethod yJ0_coder_7d493 ∈ gW := gW_of (i := 123) (by decide +kernel) rfl
theorem m124 : Cond.selects RJ0 yJ0_coder_7d493 yJ0_coder_7d493 ∈ gW := gW_of (i := 124) (by decide +kernel) rfl
theorem m125 : Cond.code yJ0_coder_7d493 cJ0_coder_7d493 1 (some .byte) ∈ gW := gW_of (i := 125) (by decide +kernel) rfl
theorem cv_J0_335 : CWV RJ0 335 qJ0_coder_7d493 0 := ⟨m122, m123, m124, m74, m125, ⟨⟨by decide +kernel, by decide +kernel, by decide +kernel⟩, by decide⟩⟩
abbrev qJ0_isLatin1_aae02 : QM := (yJ0_isLatin1_aae02, cJ0_isLatin1_aae02, 1, some .boolean)
theorem m587 : Cond.methodLink RJ0 492 yJ0_isLatin1_aae02 ∈ gW := gW_of (i := 587) (by decide +kernel) rfl
theorem m588 : Cond.instanceMethod yJ0_isLatin1_aae02 ∈ gW := gW_of (i := 588) (by decide +kernel) rfl
theorem m589 : Cond.selects RJ0 yJ0_isLatin1_aae02 yJ0_isLatin1_aae02 ∈ gW := gW_of (i := 589) (by decide +kernel) rfl
theorem m590 : Cond.code yJ0_isLatin1_aae02 cJ0_isLatin1_aae02 1 (some .boolean) ∈ gW := gW_of (i := 590) (by decide +kernel) rfl
theorem cv_J0_492 : CWV RJ0 492 qJ0_isLatin1_aae02 0 := ⟨m587, m588, m589, m74, m590, ⟨⟨by decide +kernel, by decide +kernel, by decide +kernel⟩, by decide⟩⟩
theorem m591 : Cond.methodLink RJ0 495 yJ1_charAt_3b067 ∈ gW := gW_of (i := 591) (by decide +kernel) rfl
abbrev qJ1_charAt_3b067 : QM := (yJ1_charAt_3b067, cJ1_charAt_3b067, 2, some .char)
theorem m592 : Cond.static yJ1_charAt_3b067 ∈ gW := gW_of (i := 592) (by decide +kernel) rfl
theorem m90 : Cond.initialized RJ1 ∈ gW := gW_of (i := 90) (by decide +kernel) rfl
theorem m593 : Cond.code yJ1_charAt_3b067 cJ1_charAt_3b067 2 (some .char) ∈ gW := gW_of (i := 593) (by decide +kernel) rfl
theorem cs_J0_495 : CWS RJ0 495 qJ1_charAt_3b067 2 := ⟨Or.inl m591, m592, m90, m593, ⟨⟨by decide +kernel, by decide +kernel, by decide +kernel⟩, by decide⟩⟩
theorem m602 : Cond.methodLink RJ0 498 yJ2_charAt_3b067 ∈ gW := gW_of (i := 602) (by decide +kernel) rfl
abbrev qJ2_charAt_3b067 : QM := (yJ2_charAt_3b067, cJ2_charAt_3b067, 2, some .char)
theorem m603 : Cond.static yJ2_charAt_3b067 ∈ gW := gW_of (i := 603) (by decide +kernel) rfl
theorem m92 : Cond.initialized RJ2 ∈ gW := gW_of (i := 92) (by decide +kernel) rfl
theorem m604 : Cond.code yJ2_charAt_3b067 cJ2_charAt_3b067 2 (some .char) ∈ gW := gW_of (i := 604) (by decide +kernel) rfl
theorem cs_J0_498 : CWS RJ0 498 qJ2_charAt_3b067 2 := ⟨Or.inl m602, m603, m92, m604, ⟨⟨by decide +kernel, by decide +kernel, by decide +kernel⟩, by decide⟩⟩
theorem m659 : Cond.methodLink RJ0 505 yJ0_length_8abf5 ∈ gW := gW_of (i := 659) (by decide +kernel) rfl
theorem cv_J0_505 : CWV RJ0 505 qJ0_length_8abf5 0 := ⟨m659, m119, m120, m74, m121, ⟨⟨by decide +kernel, by decide +kernel, by decide +kernel⟩, by decide⟩⟩
abbrev qJ0_indexOf_7cf53 : QM := (yJ0_indexOf_7cf53, cJ0_indexOf_7cf53, 3, some .int)
theorem m655 : Cond.methodLink RJ0 633 yJ0_indexOf_7cf53 ∈ gW := gW_of (i := 655) (by decide +kernel) rfl
theorem m656 : Cond.instanceMethod yJ0_indexOf_7cf53 ∈ gW := gW_of (i := 656) (by decide +kernel) rfl
theorem m657 : Cond.selects RJ0 yJ0_indexOf_7cf53 yJ0_indexOf_7cf53 ∈ gW := gW_of (i := 657) (by decide +kernel) rfl
theorem m658 : Cond.code yJ0_indexOf_7cf53 cJ0_indexOf_7cf53 3 (some .int) ∈ gW := gW_of (i := 658) (by decide +kernel) rfl
theorem cv_J0_633 : CWV RJ0 633 qJ0_indexOf_7cf53 2 := ⟨m655, m656, m657, m74, m658, ⟨⟨by decide +kernel, by decide +kernel, by decide +kernel⟩, by decide⟩⟩
theorem m660 : Cond.methodLink RJ0 637 yJ1_indexOf_4cfef ∈ gW := gW_of (i := 660) (by decide +kernel) rfl
abbrev qJ1_indexOf_4cfef : QM := (yJ1_indexOf_4cfef, cJ1_indexOf_4cfef, 4, some .int)
theorem m661 : Cond.static yJ1_indexOf_4cfef ∈ gW := gW_of (i := 661) (by decide +kernel) rfl
theorem m662 : Cond.code yJ1_indexOf_4cfef cJ1_indexOf_4cfef 4 (some .int) ∈ gW := gW_of (i := 662) (by decide +kernel) rfl
theorem cs_J0_637 : CWS RJ0 637 qJ1_indexOf_4cfef 4 := ⟨Or.inl m660, m661, m90, m662, ⟨⟨by decide +kernel, by decide +kernel, by decide +kernel⟩, by decide⟩⟩
theorem m671 : Cond.methodLink RJ0 640 yJ2_indexOf_4cfef ∈ gW := gW_of (i := 671) (by decide +kernel) rfl
abbrev qJ2_indexOf_4cfef : QM := (yJ2_indexOf_4cfef, cJ2_indexOf_4cfef, 4, some .int)
theorem m672 : Cond.static yJ2_indexOf_4cfef ∈ gW := gW_of (i := 672) (by decide +kernel) rfl
theorem m673 : Cond.code yJ2_indexOf_4cfef cJ2_indexOf_4cfef 4 (some .int) ∈ gW := gW_of (i := 673) (by decide +kernel) rfl
theorem cs_J0_640 : CWS RJ0 640 qJ2_indexOf_4cfef 4 := ⟨Or.inl m671, m672, m92, m673, ⟨⟨by decide +kernel, by decide +kernel, by decide +kernel⟩, by decide⟩⟩
theorem m599 : Cond.methodLink RJ0 1059 yJ3_checkIndex_8e157 ∈ gW := gW_of (i := 599) (by decide +kernel) rfl
abbrev qJ3_checkIndex_8e157 : QM := (yJ3_checkIndex_8e157, cJ3_checkIndex_8e157, 3, some .int)
theorem m600 : Cond.static yJ3_checkIndex_8e157 ∈ gW := gW_of (i := 600) (by decide +kernel) rfl
theorem m91 : Cond.initialized RJ3 ∈ gW := gW_of (i := 91) (by decide +kernel) rfl
theorem m601 : Cond.code yJ3_checkIndex_8e157 cJ3_checkIndex_8e157 3 (some .int) ∈ gW := gW_of (i := 601) (by decide +kernel) rfl
theorem cs_J0_1059 : CWS RJ0 1059 qJ3_checkIndex_8e157 3 := ⟨Or.inl m599, m600, m91, m601, ⟨⟨by decide +kernel, by decide +kernel, by decide +kernel⟩, by decide⟩⟩
theorem m686 : Cond.methodLink RJ0 1062 yJ3_checkFromToIndex_8c36e ∈ gW := gW_of (i := 686) (by decide +kernel) rfl
abbrev qJ3_checkFromToIndex_8c36e : QM := (yJ3_checkFromToIndex_8c36e, cJ3_checkFromToIndex_8c36e, 4, some .int)
theorem m687 : Cond.static yJ3_checkFromToIndex_8c36e ∈ gW := gW_of (i := 687) (by decide +kernel) rfl
theorem m688 : Cond.code yJ3_checkFromToIndex_8c36e cJ3_checkFromToIndex_8c36e 4 (some .int) ∈ gW := gW_of (i := 688) (by decide +kernel) rfl
theorem cs_J0_1062 : CWS RJ0 1062 qJ3_checkFromToIndex_8c36e 4 := ⟨Or.inl m686, m687, m91, m688, ⟨⟨by decide +kernel, by decide +kernel, by decide +kernel⟩, by decide⟩⟩
theorem m594 : Cond.methodLink RJ1 9 yJ0_checkIndex_df160 ∈ gW := gW_of (i := 594) (by decide +kernel) rfl
abbrev qJ0_checkIndex_df160 : QM := (yJ0_checkIndex_df160, cJ0_checkIndex_df160, 2, none)
theorem m595 : Cond.static yJ0_checkIndex_df160 ∈ gW := gW_of (i := 595) (by decide +kernel) rfl
theorem m596 : Cond.code yJ0_checkIndex_df160 cJ0_checkIndex_df160 2 none ∈ gW := gW_of (i := 596) (by decide +kernel) rfl
theorem cs_J1_9 : CWS RJ1 9 qJ0_checkIndex_df160 2 := ⟨Or.inl m594, m595, m74, m596, ⟨⟨by decide +kernel, by decide +kernel, by decide +kernel⟩, by decide⟩⟩
theorem m667 : Cond.methodLink RJ1 38 yJ9_min_7cf53 ∈ gW := gW_of (i := 667) (by decide +kernel) rfl
theorem cs_J1_38 : CWS RJ1 38 qJ9_min_7cf53 2 := ⟨Or.inl m667, m459, m89, m460, ⟨⟨by decide +kernel, by decide +kernel, by decide +kernel⟩, by decide⟩⟩
theorem m663 : Cond.methodLink RJ1 88 yJ1_canEncode_9a6ad ∈ gW := gW_of (i := 663) (by decide +kernel) rfl
abbrev qJ1_canEncode_9a6ad : QM := (yJ1_canEncode_9a6ad, cJ1_canEncode_9a6ad, 1, some .boolean)
theorem m664 : Cond.static yJ1_canEncode_9a6ad ∈ gW := gW_of (i := 664) (by decide +kernel) rfl
theorem m665 : Cond.code yJ1_canEncode_9a6ad cJ1_canEncode_9a6ad 1 (some .boolean) ∈ gW := gW_of (i := 665) (by decide +kernel) rfl
theorem cs_J1_88 : CWS RJ1 88 qJ1_canEncode_9a6ad 1 := ⟨Or.inl m663, m664, m90, m665, ⟨⟨by decide +kernel, by decide +kernel, by decide +kernel⟩, by decide⟩⟩
theorem m666 : Cond.methodLink RJ1 92 yJ9_max_7cf53 ∈ gW := gW_of (i := 666) (by decide +kernel) rfl
theorem cs_J1_92 : CWS RJ1 92 qJ9_max_7cf53 2 := ⟨Or.inl m666, m485, m89, m486, ⟨⟨by decide +kernel, by decide +kernel, by decide +kernel⟩, by decide⟩⟩
theorem m668 : Cond.methodLink RJ1 95 yJ1_indexOfChar_4cfef ∈ gW := gW_of (i := 668) (by decide +kernel) rfl
abbrev qJ1_indexOfChar_4cfef : QM := (yJ1_indexOfChar_4cfef, cJ1_indexOfChar_4cfef, 6, some .int)
theorem m669 : Cond.static yJ1_indexOfChar_4cfef ∈ gW := gW_of (i := 669) (by decide +kernel) rfl
theorem m670 : Cond.code yJ1_indexOfChar_4cfef cJ1_indexOfChar_4cfef 6 (some .int) ∈ gW := gW_of (i := 670) (by decide +kernel) rfl
theorem cs_J1_95 : CWS RJ1 95 qJ1_indexOfChar_4cfef 4 := ⟨Or.inl m668, m669, m90, m670, ⟨⟨by decide +kernel, by decide +kernel, by decide +kernel⟩, by decide⟩⟩
theorem m1087 : Cond.methodLink RJ15 105 yJ3_checkIndex_8e157 ∈ gW := gW_of (i := 1087) (by decide +kernel) rfl
theorem cs_J15_105 : CWS RJ15 105 qJ3_checkIndex_8e157 3 := ⟨Or.inl m1087, m600, m91, m601, ⟨⟨by decide +kernel, by decide +kernel, by decide +kernel⟩, by decide⟩⟩
theorem m962 : Cond.methodLink RJ8 194 yJ9_max_7cf53 ∈ gW := gW_of (i := 962) (by decide +kernel) rfl
theorem cs_J8_194 : CWS RJ8 194 qJ9_max_7cf53 2 := ⟨Or.inl m962, m485, m89, m486, ⟨⟨by decide +kernel, by decide +kernel, by decide +kernel⟩, by decide⟩⟩
theorem m964 : Cond.methodLink RJ8 201 yJ8_hugeLength_7cf53 ∈ gW := gW_of (i := 964) (by decide +kernel) rfl
abbrev qJ8_hugeLength_7cf53 : QM := (yJ8_hugeLength_7cf53, cJ8_hugeLength_7cf53, 3, some .int)
theorem m965 : Cond.static yJ8_hugeLength_7cf53 ∈ gW := gW_of (i := 965) (by decide +kernel) rfl
theorem m966 : Cond.code yJ8_hugeLength_7cf53 cJ8_hugeLength_7cf53 3 (some .int) ∈ gW := gW_of (i := 966) (by decide +kernel) rfl
theorem cs_J8_201 : CWS RJ8 201 qJ8_hugeLength_7cf53 2 := ⟨Or.inl m964, m965, m98, m966, ⟨⟨by decide +kernel, by decide +kernel, by decide +kernel⟩, by decide⟩⟩
theorem m930 : Cond.classLink RJ6 1 RJ6 ∈ gW := gW_of (i := 930) (by decide +kernel) rfl
theorem m963 : Cond.constant RJ8 200 2147483639 ∈ gW := gW_of (i := 963) (by decide +kernel) rfl
theorem m931 : Cond.instantiable RJ6 1 ∈ gW := gW_of (i := 931) (by decide +kernel) rfl
abbrev qJ0_checkBoundsBeginEnd_23922 : QM := (yJ0_checkBoundsBeginEnd_23922, cJ0_checkBoundsBeginEnd_23922, 3, none)
