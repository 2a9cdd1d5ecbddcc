/-! ===== facts of the tables, of the cells (written by wip/whole/gen/facts.py) ===== -/
theorem ju0 : ∀ w ∈ u_ws RX0 TX0 17, w ∈ jTbl := by
  intro w h
  obtain ⟨k, hk, rfl⟩ := List.mem_map.mp h
  have hk := List.mem_range.mp hk
  exact match k, hk with
  | 0, _ => jTbl_in (k := 214) (by decide +kernel) rfl
  | 1, _ => jTbl_in (k := 216) (by decide +kernel) rfl
  | 2, _ => jTbl_in (k := 218) (by decide +kernel) rfl
  | 3, _ => jTbl_in (k := 220) (by decide +kernel) rfl
  | 4, _ => jTbl_in (k := 222) (by decide +kernel) rfl
  | 5, _ => jTbl_in (k := 224) (by decide +kernel) rfl
  | 6, _ => jTbl_in (k := 226) (by decide +kernel) rfl
  | 7, _ => jTbl_in (k := 228) (by decide +kernel) rfl
  | 8, _ => jTbl_in (k := 230) (by decide +kernel) rfl
  | 9, _ => jTbl_in (k := 232) (by decide +kernel) rfl
  | 10, _ => jTbl_in (k := 234) (by decide +kernel) rfl
  | 11, _ => jTbl_in (k := 236) (by decide +kernel) rfl
  | 12, _ => jTbl_in (k := 238) (by decide +kernel) rfl
  | 13, _ => jTbl_in (k := 240) (by decide +kernel) rfl
  | 14, _ => jTbl_in (k := 242) (by decide +kernel) rfl
  | 15, _ => jTbl_in (k := 244) (by decide +kernel) rfl
  | 16, _ => jTbl_in (k := 246) (by decide +kernel) rfl
  | k + 17, hk => absurd hk (by omega)
theorem ju1 : ∀ w ∈ u_ws RX1 TX1 5, w ∈ jTbl := by
  intro w h
  obtain ⟨k, hk, rfl⟩ := List.mem_map.mp h
  have hk := List.mem_range.mp hk
  exact match k, hk with
  | 0, _ => jTbl_in (k := 292) (by decide +kernel) rfl
  | 1, _ => jTbl_in (k := 294) (by decide +kernel) rfl
  | 2, _ => jTbl_in (k := 296) (by decide +kernel) rfl
  | 3, _ => jTbl_in (k := 298) (by decide +kernel) rfl
  | 4, _ => jTbl_in (k := 300) (by decide +kernel) rfl
  | k + 5, hk => absurd hk (by omega)
theorem ju2 : ∀ w ∈ u_ws RX2 TX2 6, w ∈ jTbl := by
  intro w h
  obtain ⟨k, hk, rfl⟩ := List.mem_map.mp h
  have hk := List.mem_range.mp hk
  exact match k, hk with
  | 0, _ => jTbl_in (k := 264) (by decide +kernel) rfl
  | 1, _ => jTbl_in (k := 266) (by decide +kernel) rfl
  | 2, _ => jTbl_in (k := 268) (by decide +kernel) rfl
  | 3, _ => jTbl_in (k := 270) (by decide +kernel) rfl
  | 4, _ => jTbl_in (k := 272) (by decide +kernel) rfl
  | 5, _ => jTbl_in (k := 274) (by decide +kernel) rfl
  | k + 6, hk => absurd hk (by omega)
theorem ju3 : ∀ w ∈ u_ws RX3 TX3 3, w ∈ jTbl := by
  intro w h
  obtain ⟨k, hk, rfl⟩ := List.mem_map.mp h
  have hk := List.mem_range.mp hk
  exact match k, hk with
  | 0, _ => jTbl_in (k := 346) (by decide +kernel) rfl
  | 1, _ => jTbl_in (k := 348) (by decide +kernel) rfl
  | 2, _ => jTbl_in (k := 350) (by decide +kernel) rfl
  | k + 3, hk => absurd hk (by omega)
theorem ju4 : ∀ w ∈ u_ws RX4 TX4 6, w ∈ jTbl := by
  intro w h
  obtain ⟨k, hk, rfl⟩ := List.mem_map.mp h
  have hk := List.mem_range.mp hk
  exact match k, hk with
  | 0, _ => jTbl_in (k := 156) (by decide +kernel) rfl
  | 1, _ => jTbl_in (k := 158) (by decide +kernel) rfl
  | 2, _ => jTbl_in (k := 160) (by decide +kernel) rfl
  | 3, _ => jTbl_in (k := 162) (by decide +kernel) rfl
  | 4, _ => jTbl_in (k := 164) (by decide +kernel) rfl
  | 5, _ => jTbl_in (k := 166) (by decide +kernel) rfl
  | k + 6, hk => absurd hk (by omega)
theorem ju5 : ∀ w ∈ u_ws RX5 TX5 6, w ∈ jTbl := by
  intro w h
  obtain ⟨k, hk, rfl⟩ := List.mem_map.mp h
  have hk := List.mem_range.mp hk
  exact match k, hk with
  | 0, _ => jTbl_in (k := 319) (by decide +kernel) rfl
  | 1, _ => jTbl_in (k := 321) (by decide +kernel) rfl
  | 2, _ => jTbl_in (k := 323) (by decide +kernel) rfl
  | 3, _ => jTbl_in (k := 325) (by decide +kernel) rfl
  | 4, _ => jTbl_in (k := 327) (by decide +kernel) rfl
  | 5, _ => jTbl_in (k := 329) (by decide +kernel) rfl
  | k + 6, hk => absurd hk (by omega)
theorem ju6 : ∀ w ∈ u_ws RX6 TX6 9, w ∈ jTbl := by
  intro w h
  obtain ⟨k, hk, rfl⟩ := List.mem_map.mp h
  have hk := List.mem_range.mp hk
  exact match k, hk with
  | 0, _ => jTbl_in (k := 362) (by decide +kernel) rfl
  | 1, _ => jTbl_in (k := 364) (by decide +kernel) rfl
  | 2, _ => jTbl_in (k := 366) (by decide +kernel) rfl
  | 3, _ => jTbl_in (k := 368) (by decide +kernel) rfl
  | 4, _ => jTbl_in (k := 370) (by decide +kernel) rfl
  | 5, _ => jTbl_in (k := 372) (by decide +kernel) rfl
  | 6, _ => jTbl_in (k := 374) (by decide +kernel) rfl
  | 7, _ => jTbl_in (k := 376) (by decide +kernel) rfl
  | 8, _ => jTbl_in (k := 378) (by decide +kernel) rfl
  | k + 9, hk => absurd hk (by omega)
theorem ju7 : ∀ w ∈ u_ws RX7 TX7 24, w ∈ jTbl := by
  intro w h
  obtain ⟨k, hk, rfl⟩ := List.mem_map.mp h
  have hk := List.mem_range.mp hk
  exact match k, hk with
  | 0, _ => jTbl_in (k := 961) (by decide +kernel) rfl
  | 1, _ => jTbl_in (k := 963) (by decide +kernel) rfl
  | 2, _ => jTbl_in (k := 965) (by decide +kernel) rfl
  | 3, _ => jTbl_in (k := 967) (by decide +kernel) rfl
  | 4, _ => jTbl_in (k := 969) (by decide +kernel) rfl
  | 5, _ => jTbl_in (k := 971) (by decide +kernel) rfl
  | 6, _ => jTbl_in (k := 973) (by decide +kernel) rfl
  | 7, _ => jTbl_in (k := 975) (by decide +kernel) rfl
  | 8, _ => jTbl_in (k := 977) (by decide +kernel) rfl
  | 9, _ => jTbl_in (k := 979) (by decide +kernel) rfl
  | 10, _ => jTbl_in (k := 981) (by decide +kernel) rfl
  | 11, _ => jTbl_in (k := 983) (by decide +kernel) rfl
  | 12, _ => jTbl_in (k := 985) (by decide +kernel) rfl
  | 13, _ => jTbl_in (k := 987) (by decide +kernel) rfl
  | 14, _ => jTbl_in (k := 989) (by decide +kernel) rfl
  | 15, _ => jTbl_in (k := 991) (by decide +kernel) rfl
  | 16, _ => jTbl_in (k := 993) (by decide +kernel) rfl
  | 17, _ => jTbl_in (k := 995) (by decide +kernel) rfl
  | 18, _ => jTbl_in (k := 997) (by decide +kernel) rfl
  | 19, _ => jTbl_in (k := 999) (by decide +kernel) rfl
  | 20, _ => jTbl_in (k := 1001) (by decide +kernel) rfl
  | 21, _ => jTbl_in (k := 1003) (by decide +kernel) rfl
  | 22, _ => jTbl_in (k := 1005) (by decide +kernel) rfl
  | 23, _ => jTbl_in (k := 1007) (by decide +kernel) rfl
  | k + 24, hk => absurd hk (by omega)
theorem lk_6_59 : jLkS RX6 59 yX6_isKindAndNumber 1 := ⟨⟨⟨by decide +kernel, by decide +kernel, by decide +kernel⟩, jTbl_in (k := 109) (by decide +kernel) rfl, Or.inl (jTbl_in (k := 385) (by decide +kernel) rfl)⟩, jTbl_in (k := 386) (by decide +kernel) rfl⟩
theorem lk_6_63 : jLkV RX6 63 yX6_isPicture 1 := ⟨⟨⟨by decide +kernel, by decide +kernel, by decide +kernel⟩, jTbl_in (k := 109) (by decide +kernel) rfl, Or.inl (jTbl_in (k := 391) (by decide +kernel) rfl)⟩, jTbl_in (k := 393) (by decide +kernel) rfl, jTbl_in (k := 0) (by decide +kernel) rfl⟩
theorem lk_6_66 : jLkS RX6 66 yX6_isTold 1 := ⟨⟨⟨by decide +kernel, by decide +kernel, by decide +kernel⟩, jTbl_in (k := 109) (by decide +kernel) rfl, Or.inl (jTbl_in (k := 395) (by decide +kernel) rfl)⟩, jTbl_in (k := 396) (by decide +kernel) rfl⟩
theorem lk_6_69 : jLkV RX6 69 yX6_error 1 := ⟨⟨⟨by decide +kernel, by decide +kernel, by decide +kernel⟩, jTbl_in (k := 109) (by decide +kernel) rfl, Or.inl (jTbl_in (k := 398) (by decide +kernel) rfl)⟩, jTbl_in (k := 400) (by decide +kernel) rfl, jTbl_in (k := 1) (by decide +kernel) rfl⟩
theorem fl_6_12 : jFl RX6 12 6 0 := ⟨RX6, TX6, 9, rfl, by decide, ju6, rfl, Or.inl (jTbl_in (k := 353) (by decide +kernel) rfl)⟩
theorem fl_6_73 : jFl RX6 73 0 8 := ⟨RX0, TX0, 17, rfl, by decide, ju0, rfl, Or.inr ⟨"PictureBlock", jNest_in (k := 191) (by decide +kernel) rfl⟩⟩
theorem lk_6_77 : jLkV RX6 77 yX0_add 4 := ⟨⟨⟨by decide +kernel, by decide +kernel, by decide +kernel⟩, jTbl_in (k := 110) (by decide +kernel) rfl, Or.inr ⟨"PictureBlock", jNest_in (k := 403) (by decide +kernel) rfl⟩⟩, jTbl_in (k := 405) (by decide +kernel) rfl, jTbl_in (k := 2) (by decide +kernel) rfl⟩
theorem lk_6_81 : jLkV RX6 81 yX6_isMark 1 := ⟨⟨⟨by decide +kernel, by decide +kernel, by decide +kernel⟩, jTbl_in (k := 109) (by decide +kernel) rfl, Or.inl (jTbl_in (k := 415) (by decide +kernel) rfl)⟩, jTbl_in (k := 417) (by decide +kernel) rfl, jTbl_in (k := 4) (by decide +kernel) rfl⟩
theorem fl_6_84 : jFl RX6 84 0 0 := ⟨RX0, TX0, 17, rfl, by decide, ju0, rfl, Or.inr ⟨"PictureBlock", jNest_in (k := 173) (by decide +kernel) rfl⟩⟩
theorem fl_6_87 : jFl RX6 87 0 1 := ⟨RX0, TX0, 17, rfl, by decide, ju0, rfl, Or.inr ⟨"PictureBlock", jNest_in (k := 175) (by decide +kernel) rfl⟩⟩
theorem fl_6_90 : jFl RX6 90 0 2 := ⟨RX0, TX0, 17, rfl, by decide, ju0, rfl, Or.inr ⟨"PictureBlock", jNest_in (k := 178) (by decide +kernel) rfl⟩⟩
theorem fl_6_93 : jFl RX6 93 0 3 := ⟨RX0, TX0, 17, rfl, by decide, ju0, rfl, Or.inr ⟨"PictureBlock", jNest_in (k := 181) (by decide +kernel) rfl⟩⟩
theorem fl_6_96 : jFl RX6 96 0 4 := ⟨RX0, TX0, 17, rfl, by decide, ju0, rfl, Or.inr ⟨"PictureBlock", jNest_in (k := 183) (by decide +kernel) rfl⟩⟩
theorem lk_6_99 : jLkV RX6 99 yX0_isOn 1 := ⟨⟨⟨by decide +kernel, by decide +kernel, by decide +kernel⟩, jTbl_in (k := 110) (by decide +kernel) rfl, Or.inr ⟨"PictureBlock", jNest_in (k := 419) (by decide +kernel) rfl⟩⟩, jTbl_in (k := 421) (by decide +kernel) rfl, jTbl_in (k := 5) (by decide +kernel) rfl⟩
theorem lk_6_102 : jLkV RX6 102 yX0_weightOf 1 := ⟨⟨⟨by decide +kernel, by decide +kernel, by decide +kernel⟩, jTbl_in (k := 110) (by decide +kernel) rfl, Or.inr ⟨"PictureBlock", jNest_in (k := 423) (by decide +kernel) rfl⟩⟩, jTbl_in (k := 425) (by decide +kernel) rfl, jTbl_in (k := 6) (by decide +kernel) rfl⟩
theorem lk_6_105 : jLkV RX6 105 yX0_saidBy 1 := ⟨⟨⟨by decide +kernel, by decide +kernel, by decide +kernel⟩, jTbl_in (k := 110) (by decide +kernel) rfl, Or.inr ⟨"PictureBlock", jNest_in (k := 452) (by decide +kernel) rfl⟩⟩, jTbl_in (k := 454) (by decide +kernel) rfl, jTbl_in (k := 10) (by decide +kernel) rfl⟩
theorem lk_6_108 : jLkS RX6 108 yX6_isWithin 3 := ⟨⟨⟨by decide +kernel, by decide +kernel, by decide +kernel⟩, jTbl_in (k := 109) (by decide +kernel) rfl, Or.inl (jTbl_in (k := 388) (by decide +kernel) rfl)⟩, jTbl_in (k := 389) (by decide +kernel) rfl⟩
theorem lk_6_112 : jLkS RX6 112 yX6_isOfKind 2 := ⟨⟨⟨by decide +kernel, by decide +kernel, by decide +kernel⟩, jTbl_in (k := 109) (by decide +kernel) rfl, Or.inl (jTbl_in (k := 469) (by decide +kernel) rfl)⟩, jTbl_in (k := 470) (by decide +kernel) rfl⟩
theorem lk_6_116 : jLkV RX6 116 yX0_turn 2 := ⟨⟨⟨by decide +kernel, by decide +kernel, by decide +kernel⟩, jTbl_in (k := 110) (by decide +kernel) rfl, Or.inr ⟨"PictureBlock", jNest_in (k := 482) (by decide +kernel) rfl⟩⟩, jTbl_in (k := 409) (by decide +kernel) rfl, jTbl_in (k := 3) (by decide +kernel) rfl⟩
theorem lk_6_120 : jLkV RX6 120 yX0_lastPictureMarked 0 := ⟨⟨⟨by decide +kernel, by decide +kernel, by decide +kernel⟩, jTbl_in (k := 110) (by decide +kernel) rfl, Or.inr ⟨"PictureBlock", jNest_in (k := 487) (by decide +kernel) rfl⟩⟩, jTbl_in (k := 489) (by decide +kernel) rfl, jTbl_in (k := 12) (by decide +kernel) rfl⟩
theorem fl_6_124 : jFl RX6 124 0 10 := ⟨RX0, TX0, 17, rfl, by decide, ju0, rfl, Or.inr ⟨"PictureBlock", jNest_in (k := 198) (by decide +kernel) rfl⟩⟩
theorem fp_6_124 : jFp RX6 124 0 10 .int := ⟨RX0, TX0, 17, tyX0, rfl, by decide, ju0, rfl, Or.inr ⟨"PictureBlock", jNest_in (k := 198) (by decide +kernel) rfl⟩, tyX0_ok, nmX0, rfl, by decide +kernel⟩
theorem fl_6_127 : jFl RX6 127 0 12 := ⟨RX0, TX0, 17, rfl, by decide, ju0, rfl, Or.inr ⟨"PictureBlock", jNest_in (k := 203) (by decide +kernel) rfl⟩⟩
theorem fp_6_127 : jFp RX6 127 0 12 .int := ⟨RX0, TX0, 17, tyX0, rfl, by decide, ju0, rfl, Or.inr ⟨"PictureBlock", jNest_in (k := 203) (by decide +kernel) rfl⟩, tyX0_ok, nmX0, rfl, by decide +kernel⟩
theorem fl_6_130 : jFl RX6 130 0 15 := ⟨RX0, TX0, 17, rfl, by decide, ju0, rfl, Or.inr ⟨"PictureBlock", jNest_in (k := 211) (by decide +kernel) rfl⟩⟩
theorem fl_6_24 : jFl RX6 24 0 5 := ⟨RX0, TX0, 17, rfl, by decide, ju0, rfl, Or.inr ⟨"PictureBlock", jNest_in (k := 184) (by decide +kernel) rfl⟩⟩
theorem fp_6_130 : jFp RX6 130 0 15 .int := ⟨RX0, TX0, 17, tyX0, rfl, by decide, ju0, rfl, Or.inr ⟨"PictureBlock", jNest_in (k := 211) (by decide +kernel) rfl⟩, tyX0_ok, nmX0, rfl, by decide +kernel⟩
theorem lk_6_133 : jLkS RX6 133 yX6_isUse 1 := ⟨⟨⟨by decide +kernel, by decide +kernel, by decide +kernel⟩, jTbl_in (k := 109) (by decide +kernel) rfl, Or.inl (jTbl_in (k := 503) (by decide +kernel) rfl)⟩, jTbl_in (k := 504) (by decide +kernel) rfl⟩
theorem fl_6_31 : jFl RX6 31 6 3 := ⟨RX6, TX6, 9, rfl, by decide, ju6, rfl, Or.inl (jTbl_in (k := 356) (by decide +kernel) rfl)⟩
theorem fl_6_136 : jFl RX6 136 0 7 := ⟨RX0, TX0, 17, rfl, by decide, ju0, rfl, Or.inr ⟨"PictureBlock", jNest_in (k := 189) (by decide +kernel) rfl⟩⟩
theorem fl_6_140 : jFl RX6 140 4 0 := ⟨RX4, TX4, 6, rfl, by decide, ju4, rfl, Or.inr ⟨"PictureBlock", jNest_in (k := 148) (by decide +kernel) rfl⟩⟩
theorem lk_6_146 : jLkV RX6 146 yX2_faultOf 2 := ⟨⟨⟨by decide +kernel, by decide +kernel, by decide +kernel⟩, jTbl_in (k := 112) (by decide +kernel) rfl, Or.inr ⟨"PictureBlock", jNest_in (k := 506) (by decide +kernel) rfl⟩⟩, jTbl_in (k := 508) (by decide +kernel) rfl, jTbl_in (k := 13) (by decide +kernel) rfl⟩
theorem fl_6_150 : jFl RX6 150 2 1 := ⟨RX2, TX2, 6, rfl, by decide, ju2, rfl, Or.inr ⟨"PictureBlock", jNest_in (k := 258) (by decide +kernel) rfl⟩⟩
theorem fl_6_153 : jFl RX6 153 2 2 := ⟨RX2, TX2, 6, rfl, by decide, ju2, rfl, Or.inr ⟨"PictureBlock", jNest_in (k := 260) (by decide +kernel) rfl⟩⟩
theorem lk_6_156 : jLkV RX6 156 yX4_copy 2 := ⟨⟨⟨by decide +kernel, by decide +kernel, by decide +kernel⟩, jTbl_in (k := 111) (by decide +kernel) rfl, Or.inr ⟨"PictureBlock", jNest_in (k := 636) (by decide +kernel) rfl⟩⟩, jTbl_in (k := 638) (by decide +kernel) rfl, jTbl_in (k := 24) (by decide +kernel) rfl⟩
theorem lk_6_160 : jLkV RX6 160 yX4_isThere 0 := ⟨⟨⟨by decide +kernel, by decide +kernel, by decide +kernel⟩, jTbl_in (k := 111) (by decide +kernel) rfl, Or.inr ⟨"PictureBlock", jNest_in (k := 647) (by decide +kernel) rfl⟩⟩, jTbl_in (k := 649) (by decide +kernel) rfl, jTbl_in (k := 25) (by decide +kernel) rfl⟩
theorem lk_6_164 : jLkV RX6 164 yX4_clear 0 := ⟨⟨⟨by decide +kernel, by decide +kernel, by decide +kernel⟩, jTbl_in (k := 111) (by decide +kernel) rfl, Or.inr ⟨"PictureBlock", jNest_in (k := 651) (by decide +kernel) rfl⟩⟩, jTbl_in (k := 653) (by decide +kernel) rfl, jTbl_in (k := 26) (by decide +kernel) rfl⟩
theorem lk_6_167 : jLkV RX6 167 yX4_given 3 := ⟨⟨⟨by decide +kernel, by decide +kernel, by decide +kernel⟩, jTbl_in (k := 111) (by decide +kernel) rfl, Or.inr ⟨"PictureBlock", jNest_in (k := 659) (by decide +kernel) rfl⟩⟩, jTbl_in (k := 441) (by decide +kernel) rfl, jTbl_in (k := 9) (by decide +kernel) rfl⟩
theorem fl_6_171 : jFl RX6 171 0 11 := ⟨RX0, TX0, 17, rfl, by decide, ju0, rfl, Or.inr ⟨"PictureBlock", jNest_in (k := 201) (by decide +kernel) rfl⟩⟩
theorem fl_6_38 : jFl RX6 38 6 4 := ⟨RX6, TX6, 9, rfl, by decide, ju6, rfl, Or.inl (jTbl_in (k := 357) (by decide +kernel) rfl)⟩
theorem lk_6_174 : jLkV RX6 174 yX1_passRound 1 := ⟨⟨⟨by decide +kernel, by decide +kernel, by decide +kernel⟩, jTbl_in (k := 113) (by decide +kernel) rfl, Or.inr ⟨"PictureBlock", jNest_in (k := 664) (by decide +kernel) rfl⟩⟩, jTbl_in (k := 666) (by decide +kernel) rfl, jTbl_in (k := 27) (by decide +kernel) rfl⟩
theorem fl_6_178 : jFl RX6 178 0 9 := ⟨RX0, TX0, 17, rfl, by decide, ju0, rfl, Or.inr ⟨"PictureBlock", jNest_in (k := 195) (by decide +kernel) rfl⟩⟩
theorem lk_6_181 : jLkS RX6 181 yJ6_bitCount_0f7a4 1 := ⟨⟨⟨by decide +kernel, by decide +kernel, by decide +kernel⟩, jTbl_in (k := 124) (by decide +kernel) rfl, Or.inl (jTbl_in (k := 715) (by decide +kernel) rfl)⟩, jTbl_in (k := 716) (by decide +kernel) rfl⟩
theorem lk_6_186 : jLkV RX6 186 yX0_drawMark 0 := ⟨⟨⟨by decide +kernel, by decide +kernel, by decide +kernel⟩, jTbl_in (k := 110) (by decide +kernel) rfl, Or.inr ⟨"PictureBlock", jNest_in (k := 725) (by decide +kernel) rfl⟩⟩, jTbl_in (k := 727) (by decide +kernel) rfl, jTbl_in (k := 36) (by decide +kernel) rfl⟩
theorem fp_6_171 : jFp RX6 171 0 11 .int := ⟨RX0, TX0, 17, tyX0, rfl, by decide, ju0, rfl, Or.inr ⟨"PictureBlock", jNest_in (k := 201) (by decide +kernel) rfl⟩, tyX0_ok, nmX0, rfl, by decide +kernel⟩
theorem fl_6_189 : jFl RX6 189 0 14 := ⟨RX0, TX0, 17, rfl, by decide, ju0, rfl, Or.inr ⟨"PictureBlock", jNest_in (k := 209) (by decide +kernel) rfl⟩⟩
theorem fp_6_189 : jFp RX6 189 0 14 .int := ⟨RX0, TX0, 17, tyX0, rfl, by decide, ju0, rfl, Or.inr ⟨"PictureBlock", jNest_in (k := 209) (by decide +kernel) rfl⟩, tyX0_ok, nmX0, rfl, by decide +kernel⟩
theorem lk_6_192 : jLkS RX6 192 yX6_isPart 1 := ⟨⟨⟨by decide +kernel, by decide +kernel, by decide +kernel⟩, jTbl_in (k := 109) (by decide +kernel) rfl, Or.inl (jTbl_in (k := 746) (by decide +kernel) rfl)⟩, jTbl_in (k := 747) (by decide +kernel) rfl⟩
theorem lk_6_195 : jLkV RX6 195 yX1_find 1 := ⟨⟨⟨by decide +kernel, by decide +kernel, by decide +kernel⟩, jTbl_in (k := 113) (by decide +kernel) rfl, Or.inr ⟨"PictureBlock", jNest_in (k := 749) (by decide +kernel) rfl⟩⟩, jTbl_in (k := 670) (by decide +kernel) rfl, jTbl_in (k := 28) (by decide +kernel) rfl⟩
theorem fl_6_199 : jFl RX6 199 1 1 := ⟨RX1, TX1, 5, rfl, by decide, ju1, rfl, Or.inr ⟨"PictureBlock", jNest_in (k := 287) (by decide +kernel) rfl⟩⟩
theorem fl_6_203 : jFl RX6 203 1 4 := ⟨RX1, TX1, 5, rfl, by decide, ju1, rfl, Or.inr ⟨"PictureBlock", jNest_in (k := 291) (by decide +kernel) rfl⟩⟩
theorem lk_6_207 : jLkS RX6 207 yX6_partOf 3 := ⟨⟨⟨by decide +kernel, by decide +kernel, by decide +kernel⟩, jTbl_in (k := 109) (by decide +kernel) rfl, Or.inl (jTbl_in (k := 750) (by decide +kernel) rfl)⟩, jTbl_in (k := 751) (by decide +kernel) rfl⟩
theorem lk_6_211 : jLkV RX6 211 yX1_missAbove 3 := ⟨⟨⟨by decide +kernel, by decide +kernel, by decide +kernel⟩, jTbl_in (k := 113) (by decide +kernel) rfl, Or.inr ⟨"PictureBlock", jNest_in (k := 762) (by decide +kernel) rfl⟩⟩, jTbl_in (k := 708) (by decide +kernel) rfl, jTbl_in (k := 35) (by decide +kernel) rfl⟩
theorem lk_6_215 : jLkV RX6 215 yX1_sumAbove 1 := ⟨⟨⟨by decide +kernel, by decide +kernel, by decide +kernel⟩, jTbl_in (k := 113) (by decide +kernel) rfl, Or.inr ⟨"PictureBlock", jNest_in (k := 767) (by decide +kernel) rfl⟩⟩, jTbl_in (k := 769) (by decide +kernel) rfl, jTbl_in (k := 38) (by decide +kernel) rfl⟩
theorem lk_6_219 : jLkV RX6 219 yX1_mostDoubted 1 := ⟨⟨⟨by decide +kernel, by decide +kernel, by decide +kernel⟩, jTbl_in (k := 113) (by decide +kernel) rfl, Or.inr ⟨"PictureBlock", jNest_in (k := 775) (by decide +kernel) rfl⟩⟩, jTbl_in (k := 699) (by decide +kernel) rfl, jTbl_in (k := 33) (by decide +kernel) rfl⟩
theorem lk_6_223 : jLkV RX6 223 yX0_holds 1 := ⟨⟨⟨by decide +kernel, by decide +kernel, by decide +kernel⟩, jTbl_in (k := 110) (by decide +kernel) rfl, Or.inr ⟨"PictureBlock", jNest_in (k := 780) (by decide +kernel) rfl⟩⟩, jTbl_in (k := 674) (by decide +kernel) rfl, jTbl_in (k := 29) (by decide +kernel) rfl⟩
theorem lk_6_226 : jLkV RX6 226 yX0_weightOfAll 1 := ⟨⟨⟨by decide +kernel, by decide +kernel, by decide +kernel⟩, jTbl_in (k := 110) (by decide +kernel) rfl, Or.inr ⟨"PictureBlock", jNest_in (k := 785) (by decide +kernel) rfl⟩⟩, jTbl_in (k := 787) (by decide +kernel) rfl, jTbl_in (k := 39) (by decide +kernel) rfl⟩
theorem fl_6_19 : jFl RX6 19 6 2 := ⟨RX6, TX6, 9, rfl, by decide, ju6, rfl, Or.inl (jTbl_in (k := 355) (by decide +kernel) rfl)⟩
theorem lk_6_229 : jLkV RX6 229 yX0_copy 1 := ⟨⟨⟨by decide +kernel, by decide +kernel, by decide +kernel⟩, jTbl_in (k := 110) (by decide +kernel) rfl, Or.inr ⟨"PictureBlock", jNest_in (k := 794) (by decide +kernel) rfl⟩⟩, jTbl_in (k := 796) (by decide +kernel) rfl, jTbl_in (k := 40) (by decide +kernel) rfl⟩
theorem fl_6_231 : jFl RX6 231 0 13 := ⟨RX0, TX0, 17, rfl, by decide, ju0, rfl, Or.inr ⟨"PictureBlock", jNest_in (k := 207) (by decide +kernel) rfl⟩⟩
theorem lk_6_234 : jLkV RX6 234 yX6_roundsUntilOff 2 := ⟨⟨⟨by decide +kernel, by decide +kernel, by decide +kernel⟩, jTbl_in (k := 109) (by decide +kernel) rfl, Or.inl (jTbl_in (k := 804) (by decide +kernel) rfl)⟩, jTbl_in (k := 806) (by decide +kernel) rfl, jTbl_in (k := 41) (by decide +kernel) rfl⟩
theorem lk_6_238 : jLkV RX6 238 yX1_leastLimit 1 := ⟨⟨⟨by decide +kernel, by decide +kernel, by decide +kernel⟩, jTbl_in (k := 113) (by decide +kernel) rfl, Or.inr ⟨"PictureBlock", jNest_in (k := 812) (by decide +kernel) rfl⟩⟩, jTbl_in (k := 814) (by decide +kernel) rfl, jTbl_in (k := 42) (by decide +kernel) rfl⟩
theorem lm_6_241 : Cond.methodLink RX6 241 Lib.MathLoose.max_long.x ∈ jTbl := jTbl_in (k := 816) (by decide +kernel) rfl
theorem kc_6_247 : Cond.constantLong RX6 247 (99) ∈ jTbl := jTbl_in (k := 819) (by decide +kernel) rfl
theorem kc_6_251 : Cond.constantLong RX6 251 (9223372036854775807) ∈ jTbl := jTbl_in (k := 824) (by decide +kernel) rfl
theorem kc_6_253 : Cond.constantLong RX6 253 (41) ∈ jTbl := jTbl_in (k := 829) (by decide +kernel) rfl
theorem lk_6_255 : jLkS RX6 255 yX6_isSheet 1 := ⟨⟨⟨by decide +kernel, by decide +kernel, by decide +kernel⟩, jTbl_in (k := 109) (by decide +kernel) rfl, Or.inl (jTbl_in (k := 834) (by decide +kernel) rfl)⟩, jTbl_in (k := 835) (by decide +kernel) rfl⟩
theorem fl_6_52 : jFl RX6 52 6 6 := ⟨RX6, TX6, 9, rfl, by decide, ju6, rfl, Or.inl (jTbl_in (k := 359) (by decide +kernel) rfl)⟩
theorem lk_6_258 : jLkV RX6 258 yX3_isMissing 1 := ⟨⟨⟨by decide +kernel, by decide +kernel, by decide +kernel⟩, jTbl_in (k := 115) (by decide +kernel) rfl, Or.inr ⟨"PictureBlock", jNest_in (k := 837) (by decide +kernel) rfl⟩⟩, jTbl_in (k := 839) (by decide +kernel) rfl, jTbl_in (k := 43) (by decide +kernel) rfl⟩
theorem lk_6_261 : jLkV RX6 261 yX6_goesAsSheetTells 1 := ⟨⟨⟨by decide +kernel, by decide +kernel, by decide +kernel⟩, jTbl_in (k := 109) (by decide +kernel) rfl, Or.inl (jTbl_in (k := 841) (by decide +kernel) rfl)⟩, jTbl_in (k := 843) (by decide +kernel) rfl, jTbl_in (k := 44) (by decide +kernel) rfl⟩
theorem fl_6_45 : jFl RX6 45 6 5 := ⟨RX6, TX6, 9, rfl, by decide, ju6, rfl, Or.inl (jTbl_in (k := 358) (by decide +kernel) rfl)⟩
theorem lk_6_264 : jLkV RX6 264 yX5_answerOf 5 := ⟨⟨⟨by decide +kernel, by decide +kernel, by decide +kernel⟩, jTbl_in (k := 114) (by decide +kernel) rfl, Or.inr ⟨"PictureBlock", jNest_in (k := 849) (by decide +kernel) rfl⟩⟩, jTbl_in (k := 851) (by decide +kernel) rfl, jTbl_in (k := 45) (by decide +kernel) rfl⟩
theorem fl_6_268 : jFl RX6 268 5 5 := ⟨RX5, TX5, 6, rfl, by decide, ju5, rfl, Or.inr ⟨"PictureBlock", jNest_in (k := 318) (by decide +kernel) rfl⟩⟩
theorem fl_6_272 : jFl RX6 272 5 1 := ⟨RX5, TX5, 6, rfl, by decide, ju5, rfl, Or.inr ⟨"PictureBlock", jNest_in (k := 313) (by decide +kernel) rfl⟩⟩
theorem fl_6_275 : jFl RX6 275 5 0 := ⟨RX5, TX5, 6, rfl, by decide, ju5, rfl, Or.inr ⟨"PictureBlock", jNest_in (k := 311) (by decide +kernel) rfl⟩⟩
theorem lk_6_278 : jLkV RX6 278 yX3_lay 3 := ⟨⟨⟨by decide +kernel, by decide +kernel, by decide +kernel⟩, jTbl_in (k := 115) (by decide +kernel) rfl, Or.inr ⟨"PictureBlock", jNest_in (k := 876) (by decide +kernel) rfl⟩⟩, jTbl_in (k := 878) (by decide +kernel) rfl, jTbl_in (k := 49) (by decide +kernel) rfl⟩
theorem fl_6_282 : jFl RX6 282 3 2 := ⟨RX3, TX3, 3, rfl, by decide, ju3, rfl, Or.inr ⟨"PictureBlock", jNest_in (k := 345) (by decide +kernel) rfl⟩⟩
theorem lk_6_285 : jLkV RX6 285 yX3_write 3 := ⟨⟨⟨by decide +kernel, by decide +kernel, by decide +kernel⟩, jTbl_in (k := 115) (by decide +kernel) rfl, Or.inr ⟨"PictureBlock", jNest_in (k := 884) (by decide +kernel) rfl⟩⟩, jTbl_in (k := 886) (by decide +kernel) rfl, jTbl_in (k := 50) (by decide +kernel) rfl⟩
theorem fl_6_288 : jFl RX6 288 3 1 := ⟨RX3, TX3, 3, rfl, by decide, ju3, rfl, Or.inr ⟨"PictureBlock", jNest_in (k := 343) (by decide +kernel) rfl⟩⟩
theorem lk_6_291 : jLkV RX6 291 yX3_stand 3 := ⟨⟨⟨by decide +kernel, by decide +kernel, by decide +kernel⟩, jTbl_in (k := 115) (by decide +kernel) rfl, Or.inr ⟨"PictureBlock", jNest_in (k := 892) (by decide +kernel) rfl⟩⟩, jTbl_in (k := 894) (by decide +kernel) rfl, jTbl_in (k := 51) (by decide +kernel) rfl⟩
theorem fl_6_294 : jFl RX6 294 3 0 := ⟨RX3, TX3, 3, rfl, by decide, ju3, rfl, Or.inr ⟨"PictureBlock", jNest_in (k := 341) (by decide +kernel) rfl⟩⟩
theorem lc_6_298 : Cond.methodLink RX6 298 arraycopyName ∈ jTbl := jTbl_in (k := 896) (by decide +kernel) rfl
theorem lm_6_304 : Cond.methodLink RX6 304 Lib.Math.min.name ∈ jTbl := jTbl_in (k := 901) (by decide +kernel) rfl
theorem fl_6_16 : jFl RX6 16 6 1 := ⟨RX6, TX6, 9, rfl, by decide, ju6, rfl, Or.inl (jTbl_in (k := 354) (by decide +kernel) rfl)⟩
theorem fl_6_307 : jFl RX6 307 6 8 := ⟨RX6, TX6, 9, rfl, by decide, ju6, rfl, Or.inl (jTbl_in (k := 361) (by decide +kernel) rfl)⟩
theorem fp_6_307 : jFp RX6 307 6 8 .int := ⟨RX6, TX6, 9, tyX6, rfl, by decide, ju6, rfl, Or.inl (jTbl_in (k := 361) (by decide +kernel) rfl), tyX6_ok, nmX6, rfl, by decide +kernel⟩
theorem fl_6_310 : jFl RX6 310 0 16 := ⟨RX0, TX0, 17, rfl, by decide, ju0, rfl, Or.inr ⟨"PictureBlock", jNest_in (k := 213) (by decide +kernel) rfl⟩⟩
theorem fl_6_313 : jFl RX6 313 0 6 := ⟨RX0, TX0, 17, rfl, by decide, ju0, rfl, Or.inr ⟨"PictureBlock", jNest_in (k := 187) (by decide +kernel) rfl⟩⟩
theorem fp_6_310 : jFp RX6 310 0 16 .int := ⟨RX0, TX0, 17, tyX0, rfl, by decide, ju0, rfl, Or.inr ⟨"PictureBlock", jNest_in (k := 213) (by decide +kernel) rfl⟩, tyX0_ok, nmX0, rfl, by decide +kernel⟩
theorem lk_6_316 : jLkV RX6 316 yX0_tiedBy 1 := ⟨⟨⟨by decide +kernel, by decide +kernel, by decide +kernel⟩, jTbl_in (k := 110) (by decide +kernel) rfl, Or.inr ⟨"PictureBlock", jNest_in (k := 926) (by decide +kernel) rfl⟩⟩, jTbl_in (k := 678) (by decide +kernel) rfl, jTbl_in (k := 30) (by decide +kernel) rfl⟩
theorem fl_6_56 : jFl RX6 56 6 7 := ⟨RX6, TX6, 9, rfl, by decide, ju6, rfl, Or.inl (jTbl_in (k := 360) (by decide +kernel) rfl)⟩
theorem kc_6_319 : Cond.constant RX6 319 (-1000000000) ∈ jTbl := jTbl_in (k := 402) (by decide +kernel) rfl
theorem gs_6_320 : Cond.fieldLink RX6 320 "PictureBlock" "ABOVE" "[I" ∈ jTbl := jTbl_in (k := 472) (by decide +kernel) rfl
theorem lm_6_323 : Cond.methodLink RX6 323 Lib.MathLoose.abs_long.x ∈ jTbl := jTbl_in (k := 753) (by decide +kernel) rfl
theorem lk_6_327 : jLkS RX6 327 yX6_greatestDivisor 2 := ⟨⟨⟨by decide +kernel, by decide +kernel, by decide +kernel⟩, jTbl_in (k := 109) (by decide +kernel) rfl, Or.inl (jTbl_in (k := 754) (by decide +kernel) rfl)⟩, jTbl_in (k := 755) (by decide +kernel) rfl⟩
theorem lk_6_330 : jLkS RX6 330 yX6_quotient 2 := ⟨⟨⟨by decide +kernel, by decide +kernel, by decide +kernel⟩, jTbl_in (k := 109) (by decide +kernel) rfl, Or.inl (jTbl_in (k := 757) (by decide +kernel) rfl)⟩, jTbl_in (k := 695) (by decide +kernel) rfl⟩
theorem fl_7_19 : jFl RX7 19 7 4 := ⟨RX7, TX7, 24, rfl, by decide, ju7, rfl, Or.inl (jTbl_in (k := 941) (by decide +kernel) rfl)⟩
theorem kc_7_56 : Cond.constant RX7 56 (-1000000000) ∈ jTbl := jTbl_in (k := 1029) (by decide +kernel) rfl
theorem fl_7_9 : jFl RX7 9 7 0 := ⟨RX7, TX7, 24, rfl, by decide, ju7, rfl, Or.inl (jTbl_in (k := 937) (by decide +kernel) rfl)⟩
theorem fl_7_16 : jFl RX7 16 7 2 := ⟨RX7, TX7, 24, rfl, by decide, ju7, rfl, Or.inl (jTbl_in (k := 939) (by decide +kernel) rfl)⟩
theorem lk_7_57 : jLkS RX7 57 yX7_copyAll 2 := ⟨⟨⟨by decide +kernel, by decide +kernel, by decide +kernel⟩, jTbl_in (k := 116) (by decide +kernel) rfl, Or.inl (jTbl_in (k := 1290) (by decide +kernel) rfl)⟩, jTbl_in (k := 1291) (by decide +kernel) rfl⟩
theorem lk_7_61 : jLkS RX7 61 yX7_in 3 := ⟨⟨⟨by decide +kernel, by decide +kernel, by decide +kernel⟩, jTbl_in (k := 116) (by decide +kernel) rfl, Or.inl (jTbl_in (k := 1017) (by decide +kernel) rfl)⟩, jTbl_in (k := 1018) (by decide +kernel) rfl⟩
theorem lk_7_65 : jLkV RX7 65 yX7_of 2 := ⟨⟨⟨by decide +kernel, by decide +kernel, by decide +kernel⟩, jTbl_in (k := 116) (by decide +kernel) rfl, Or.inl (jTbl_in (k := 1043) (by decide +kernel) rfl)⟩, jTbl_in (k := 1045) (by decide +kernel) rfl, jTbl_in (k := 56) (by decide +kernel) rfl⟩
theorem lk_7_69 : jLkV RX7 69 yX7_touching 1 := ⟨⟨⟨by decide +kernel, by decide +kernel, by decide +kernel⟩, jTbl_in (k := 116) (by decide +kernel) rfl, Or.inl (jTbl_in (k := 1055) (by decide +kernel) rfl)⟩, jTbl_in (k := 1057) (by decide +kernel) rfl, jTbl_in (k := 59) (by decide +kernel) rfl⟩
theorem lk_7_73 : jLkV RX7 73 yX7_weighsBy 1 := ⟨⟨⟨by decide +kernel, by decide +kernel, by decide +kernel⟩, jTbl_in (k := 116) (by decide +kernel) rfl, Or.inl (jTbl_in (k := 1051) (by decide +kernel) rfl)⟩, jTbl_in (k := 1053) (by decide +kernel) rfl, jTbl_in (k := 58) (by decide +kernel) rfl⟩
theorem lk_7_76 : jLkV RX7 76 yX7_gives 4 := ⟨⟨⟨by decide +kernel, by decide +kernel, by decide +kernel⟩, jTbl_in (k := 116) (by decide +kernel) rfl, Or.inl (jTbl_in (k := 1059) (by decide +kernel) rfl)⟩, jTbl_in (k := 1061) (by decide +kernel) rfl, jTbl_in (k := 60) (by decide +kernel) rfl⟩
theorem lk_7_80 : jLkV RX7 80 yX7_readBy 1 := ⟨⟨⟨by decide +kernel, by decide +kernel, by decide +kernel⟩, jTbl_in (k := 116) (by decide +kernel) rfl, Or.inl (jTbl_in (k := 1077) (by decide +kernel) rfl)⟩, jTbl_in (k := 1079) (by decide +kernel) rfl, jTbl_in (k := 63) (by decide +kernel) rfl⟩
theorem lk_7_83 : jLkV RX7 83 yX7_tiedBy 1 := ⟨⟨⟨by decide +kernel, by decide +kernel, by decide +kernel⟩, jTbl_in (k := 116) (by decide +kernel) rfl, Or.inl (jTbl_in (k := 1196) (by decide +kernel) rfl)⟩, jTbl_in (k := 1198) (by decide +kernel) rfl, jTbl_in (k := 81) (by decide +kernel) rfl⟩
theorem fl_7_35 : jFl RX7 35 7 9 := ⟨RX7, TX7, 24, rfl, by decide, ju7, rfl, Or.inl (jTbl_in (k := 946) (by decide +kernel) rfl)⟩
theorem fl_7_31 : jFl RX7 31 7 8 := ⟨RX7, TX7, 24, rfl, by decide, ju7, rfl, Or.inl (jTbl_in (k := 945) (by decide +kernel) rfl)⟩
theorem lk_7_86 : jLkV RX7 86 yX7_det 3 := ⟨⟨⟨by decide +kernel, by decide +kernel, by decide +kernel⟩, jTbl_in (k := 116) (by decide +kernel) rfl, Or.inl (jTbl_in (k := 1204) (by decide +kernel) rfl)⟩, jTbl_in (k := 1206) (by decide +kernel) rfl, jTbl_in (k := 83) (by decide +kernel) rfl⟩
theorem lk_7_90 : jLkV RX7 90 yX7_weight 1 := ⟨⟨⟨by decide +kernel, by decide +kernel, by decide +kernel⟩, jTbl_in (k := 116) (by decide +kernel) rfl, Or.inl (jTbl_in (k := 1047) (by decide +kernel) rfl)⟩, jTbl_in (k := 1049) (by decide +kernel) rfl, jTbl_in (k := 57) (by decide +kernel) rfl⟩
theorem lk_7_93 : jLkV RX7 93 yX7_saysOf 1 := ⟨⟨⟨by decide +kernel, by decide +kernel, by decide +kernel⟩, jTbl_in (k := 116) (by decide +kernel) rfl, Or.inl (jTbl_in (k := 1073) (by decide +kernel) rfl)⟩, jTbl_in (k := 1075) (by decide +kernel) rfl, jTbl_in (k := 62) (by decide +kernel) rfl⟩
theorem lk_7_96 : jLkV RX7 96 yX7_onOnes 0 := ⟨⟨⟨by decide +kernel, by decide +kernel, by decide +kernel⟩, jTbl_in (k := 116) (by decide +kernel) rfl, Or.inl (jTbl_in (k := 1188) (by decide +kernel) rfl)⟩, jTbl_in (k := 1190) (by decide +kernel) rfl, jTbl_in (k := 79) (by decide +kernel) rfl⟩
theorem lk_7_100 : jLkV RX7 100 yX7_doesHold 1 := ⟨⟨⟨by decide +kernel, by decide +kernel, by decide +kernel⟩, jTbl_in (k := 116) (by decide +kernel) rfl, Or.inl (jTbl_in (k := 1192) (by decide +kernel) rfl)⟩, jTbl_in (k := 1194) (by decide +kernel) rfl, jTbl_in (k := 80) (by decide +kernel) rfl⟩
theorem lk_7_104 : jLkV RX7 104 yX7_adds 1 := ⟨⟨⟨by decide +kernel, by decide +kernel, by decide +kernel⟩, jTbl_in (k := 116) (by decide +kernel) rfl, Or.inl (jTbl_in (k := 1200) (by decide +kernel) rfl)⟩, jTbl_in (k := 1202) (by decide +kernel) rfl, jTbl_in (k := 82) (by decide +kernel) rfl⟩
theorem fp_7_108 : jFp RX7 108 7 11 .long := ⟨RX7, TX7, 24, tyX7, rfl, by decide, ju7, rfl, Or.inl (jTbl_in (k := 948) (by decide +kernel) rfl), tyX7_ok, nmX7, rfl, by decide +kernel⟩
theorem fl_7_38 : jFl RX7 38 7 10 := ⟨RX7, TX7, 24, rfl, by decide, ju7, rfl, Or.inl (jTbl_in (k := 947) (by decide +kernel) rfl)⟩
theorem fl_7_108 : jFl RX7 108 7 11 := ⟨RX7, TX7, 24, rfl, by decide, ju7, rfl, Or.inl (jTbl_in (k := 948) (by decide +kernel) rfl)⟩
theorem lk_7_112 : jLkV RX7 112 yX7_missOf 1 := ⟨⟨⟨by decide +kernel, by decide +kernel, by decide +kernel⟩, jTbl_in (k := 116) (by decide +kernel) rfl, Or.inl (jTbl_in (k := 1216) (by decide +kernel) rfl)⟩, jTbl_in (k := 1218) (by decide +kernel) rfl, jTbl_in (k := 86) (by decide +kernel) rfl⟩
theorem lk_7_116 : jLkV RX7 116 yX7_doubt 1 := ⟨⟨⟨by decide +kernel, by decide +kernel, by decide +kernel⟩, jTbl_in (k := 116) (by decide +kernel) rfl, Or.inl (jTbl_in (k := 1212) (by decide +kernel) rfl)⟩, jTbl_in (k := 1214) (by decide +kernel) rfl, jTbl_in (k := 85) (by decide +kernel) rfl⟩
theorem lk_7_119 : jLkS RX7 119 yX7_isKm 1 := ⟨⟨⟨by decide +kernel, by decide +kernel, by decide +kernel⟩, jTbl_in (k := 116) (by decide +kernel) rfl, Or.inl (jTbl_in (k := 1014) (by decide +kernel) rfl)⟩, jTbl_in (k := 1015) (by decide +kernel) rfl⟩
theorem lk_7_122 : jLkV RX7 122 yX7_isPicture 1 := ⟨⟨⟨by decide +kernel, by decide +kernel, by decide +kernel⟩, jTbl_in (k := 116) (by decide +kernel) rfl, Or.inl (jTbl_in (k := 1020) (by decide +kernel) rfl)⟩, jTbl_in (k := 1022) (by decide +kernel) rfl, jTbl_in (k := 52) (by decide +kernel) rfl⟩
theorem kc_7_125 : Cond.constant RX7 125 (-1000000001) ∈ jTbl := jTbl_in (k := 1024) (by decide +kernel) rfl
theorem lk_7_126 : jLkV RX7 126 yX7_error 1 := ⟨⟨⟨by decide +kernel, by decide +kernel, by decide +kernel⟩, jTbl_in (k := 116) (by decide +kernel) rfl, Or.inl (jTbl_in (k := 1025) (by decide +kernel) rfl)⟩, jTbl_in (k := 1027) (by decide +kernel) rfl, jTbl_in (k := 53) (by decide +kernel) rfl⟩
theorem kc_7_129 : Cond.constant RX7 129 (-1000000004) ∈ jTbl := jTbl_in (k := 1030) (by decide +kernel) rfl
theorem lk_7_130 : jLkV RX7 130 yX7_puts 3 := ⟨⟨⟨by decide +kernel, by decide +kernel, by decide +kernel⟩, jTbl_in (k := 116) (by decide +kernel) rfl, Or.inl (jTbl_in (k := 1031) (by decide +kernel) rfl)⟩, jTbl_in (k := 1033) (by decide +kernel) rfl, jTbl_in (k := 54) (by decide +kernel) rfl⟩
theorem lk_7_134 : jLkV RX7 134 yX7_isMark 1 := ⟨⟨⟨by decide +kernel, by decide +kernel, by decide +kernel⟩, jTbl_in (k := 116) (by decide +kernel) rfl, Or.inl (jTbl_in (k := 1039) (by decide +kernel) rfl)⟩, jTbl_in (k := 1041) (by decide +kernel) rfl, jTbl_in (k := 55) (by decide +kernel) rfl⟩
theorem lk_7_137 : jLkV RX7 137 yX7_becomes 2 := ⟨⟨⟨by decide +kernel, by decide +kernel, by decide +kernel⟩, jTbl_in (k := 116) (by decide +kernel) rfl, Or.inl (jTbl_in (k := 1085) (by decide +kernel) rfl)⟩, jTbl_in (k := 1087) (by decide +kernel) rfl, jTbl_in (k := 64) (by decide +kernel) rfl⟩
theorem kc_7_140 : Cond.constant RX7 140 (-1000000005) ∈ jTbl := jTbl_in (k := 1093) (by decide +kernel) rfl
theorem kc_7_141 : Cond.constant RX7 141 (-1000000003) ∈ jTbl := jTbl_in (k := 1106) (by decide +kernel) rfl
theorem kc_7_142 : Cond.constantLong RX7 142 (255) ∈ jTbl := jTbl_in (k := 1115) (by decide +kernel) rfl
theorem fl_7_144 : jFl RX7 144 7 17 := ⟨RX7, TX7, 24, rfl, by decide, ju7, rfl, Or.inl (jTbl_in (k := 954) (by decide +kernel) rfl)⟩
theorem fl_7_148 : jFl RX7 148 7 16 := ⟨RX7, TX7, 24, rfl, by decide, ju7, rfl, Or.inl (jTbl_in (k := 953) (by decide +kernel) rfl)⟩
theorem fl_7_41 : jFl RX7 41 7 12 := ⟨RX7, TX7, 24, rfl, by decide, ju7, rfl, Or.inl (jTbl_in (k := 949) (by decide +kernel) rfl)⟩
theorem fl_7_44 : jFl RX7 44 7 13 := ⟨RX7, TX7, 24, rfl, by decide, ju7, rfl, Or.inl (jTbl_in (k := 950) (by decide +kernel) rfl)⟩
theorem fp_7_148 : jFp RX7 148 7 16 .int := ⟨RX7, TX7, 24, tyX7, rfl, by decide, ju7, rfl, Or.inl (jTbl_in (k := 953) (by decide +kernel) rfl), tyX7_ok, nmX7, rfl, by decide +kernel⟩
theorem fl_7_151 : jFl RX7 151 7 20 := ⟨RX7, TX7, 24, rfl, by decide, ju7, rfl, Or.inl (jTbl_in (k := 957) (by decide +kernel) rfl)⟩
theorem lk_7_154 : jLkV RX7 154 yX7_look 0 := ⟨⟨⟨by decide +kernel, by decide +kernel, by decide +kernel⟩, jTbl_in (k := 116) (by decide +kernel) rfl, Or.inl (jTbl_in (k := 1144) (by decide +kernel) rfl)⟩, jTbl_in (k := 1146) (by decide +kernel) rfl, jTbl_in (k := 71) (by decide +kernel) rfl⟩
theorem fp_7_144 : jFp RX7 144 7 17 .int := ⟨RX7, TX7, 24, tyX7, rfl, by decide, ju7, rfl, Or.inl (jTbl_in (k := 954) (by decide +kernel) rfl), tyX7_ok, nmX7, rfl, by decide +kernel⟩
theorem fp_7_157 : jFp RX7 157 7 19 .boolean := ⟨RX7, TX7, 24, tyX7, rfl, by decide, ju7, rfl, Or.inl (jTbl_in (k := 956) (by decide +kernel) rfl), tyX7_ok, nmX7, rfl, by decide +kernel⟩
theorem lk_7_161 : jLkV RX7 161 yX7_lays 2 := ⟨⟨⟨by decide +kernel, by decide +kernel, by decide +kernel⟩, jTbl_in (k := 116) (by decide +kernel) rfl, Or.inl (jTbl_in (k := 1152) (by decide +kernel) rfl)⟩, jTbl_in (k := 1154) (by decide +kernel) rfl, jTbl_in (k := 73) (by decide +kernel) rfl⟩
theorem fl_7_165 : jFl RX7 165 7 18 := ⟨RX7, TX7, 24, rfl, by decide, ju7, rfl, Or.inl (jTbl_in (k := 955) (by decide +kernel) rfl)⟩
theorem fp_7_165 : jFp RX7 165 7 18 .int := ⟨RX7, TX7, 24, tyX7, rfl, by decide, ju7, rfl, Or.inl (jTbl_in (k := 955) (by decide +kernel) rfl), tyX7_ok, nmX7, rfl, by decide +kernel⟩
theorem lk_7_168 : jLkV RX7 168 yX7_one 0 := ⟨⟨⟨by decide +kernel, by decide +kernel, by decide +kernel⟩, jTbl_in (k := 116) (by decide +kernel) rfl, Or.inl (jTbl_in (k := 1140) (by decide +kernel) rfl)⟩, jTbl_in (k := 1142) (by decide +kernel) rfl, jTbl_in (k := 70) (by decide +kernel) rfl⟩
theorem lk_7_171 : jLkV RX7 171 yX7_any 0 := ⟨⟨⟨by decide +kernel, by decide +kernel, by decide +kernel⟩, jTbl_in (k := 116) (by decide +kernel) rfl, Or.inl (jTbl_in (k := 1120) (by decide +kernel) rfl)⟩, jTbl_in (k := 1122) (by decide +kernel) rfl, jTbl_in (k := 65) (by decide +kernel) rfl⟩
theorem fl_7_157 : jFl RX7 157 7 19 := ⟨RX7, TX7, 24, rfl, by decide, ju7, rfl, Or.inl (jTbl_in (k := 956) (by decide +kernel) rfl)⟩
theorem lk_7_174 : jLkV RX7 174 yX7_nameOf 1 := ⟨⟨⟨by decide +kernel, by decide +kernel, by decide +kernel⟩, jTbl_in (k := 116) (by decide +kernel) rfl, Or.inl (jTbl_in (k := 1148) (by decide +kernel) rfl)⟩, jTbl_in (k := 1150) (by decide +kernel) rfl, jTbl_in (k := 72) (by decide +kernel) rfl⟩
theorem lk_7_177 : jLkV RX7 177 yX7_opens 1 := ⟨⟨⟨by decide +kernel, by decide +kernel, by decide +kernel⟩, jTbl_in (k := 116) (by decide +kernel) rfl, Or.inl (jTbl_in (k := 1156) (by decide +kernel) rfl)⟩, jTbl_in (k := 1158) (by decide +kernel) rfl, jTbl_in (k := 74) (by decide +kernel) rfl⟩
theorem lk_7_180 : jLkV RX7 180 yX7_number 0 := ⟨⟨⟨by decide +kernel, by decide +kernel, by decide +kernel⟩, jTbl_in (k := 116) (by decide +kernel) rfl, Or.inl (jTbl_in (k := 1160) (by decide +kernel) rfl)⟩, jTbl_in (k := 1162) (by decide +kernel) rfl, jTbl_in (k := 75) (by decide +kernel) rfl⟩
theorem lk_7_183 : jLkV RX7 183 yX7_times 0 := ⟨⟨⟨by decide +kernel, by decide +kernel, by decide +kernel⟩, jTbl_in (k := 116) (by decide +kernel) rfl, Or.inl (jTbl_in (k := 1136) (by decide +kernel) rfl)⟩, jTbl_in (k := 1138) (by decide +kernel) rfl, jTbl_in (k := 69) (by decide +kernel) rfl⟩
theorem lk_7_186 : jLkV RX7 186 yX7_sumBy 0 := ⟨⟨⟨by decide +kernel, by decide +kernel, by decide +kernel⟩, jTbl_in (k := 116) (by decide +kernel) rfl, Or.inl (jTbl_in (k := 1132) (by decide +kernel) rfl)⟩, jTbl_in (k := 1134) (by decide +kernel) rfl, jTbl_in (k := 68) (by decide +kernel) rfl⟩
theorem lk_7_189 : jLkV RX7 189 yX7_compares 0 := ⟨⟨⟨by decide +kernel, by decide +kernel, by decide +kernel⟩, jTbl_in (k := 116) (by decide +kernel) rfl, Or.inl (jTbl_in (k := 1128) (by decide +kernel) rfl)⟩, jTbl_in (k := 1130) (by decide +kernel) rfl, jTbl_in (k := 67) (by decide +kernel) rfl⟩
theorem lk_7_192 : jLkV RX7 192 yX7_all 0 := ⟨⟨⟨by decide +kernel, by decide +kernel, by decide +kernel⟩, jTbl_in (k := 116) (by decide +kernel) rfl, Or.inl (jTbl_in (k := 1124) (by decide +kernel) rfl)⟩, jTbl_in (k := 1126) (by decide +kernel) rfl, jTbl_in (k := 66) (by decide +kernel) rfl⟩
theorem fp_7_151 : jFp RX7 151 7 20 .int := ⟨RX7, TX7, 24, tyX7, rfl, by decide, ju7, rfl, Or.inl (jTbl_in (k := 957) (by decide +kernel) rfl), tyX7_ok, nmX7, rfl, by decide +kernel⟩
theorem fl_7_50 : jFl RX7 50 7 15 := ⟨RX7, TX7, 24, rfl, by decide, ju7, rfl, Or.inl (jTbl_in (k := 952) (by decide +kernel) rfl)⟩
theorem fl_7_47 : jFl RX7 47 7 14 := ⟨RX7, TX7, 24, rfl, by decide, ju7, rfl, Or.inl (jTbl_in (k := 951) (by decide +kernel) rfl)⟩
theorem lk_7_195 : jLkS RX7 195 yX7_twoOf 3 := ⟨⟨⟨by decide +kernel, by decide +kernel, by decide +kernel⟩, jTbl_in (k := 116) (by decide +kernel) rfl, Or.inl (jTbl_in (k := 1067) (by decide +kernel) rfl)⟩, jTbl_in (k := 1068) (by decide +kernel) rfl⟩
theorem lk_7_199 : jLkV RX7 199 yX7_works 1 := ⟨⟨⟨by decide +kernel, by decide +kernel, by decide +kernel⟩, jTbl_in (k := 116) (by decide +kernel) rfl, Or.inl (jTbl_in (k := 1063) (by decide +kernel) rfl)⟩, jTbl_in (k := 1065) (by decide +kernel) rfl, jTbl_in (k := 61) (by decide +kernel) rfl⟩
theorem lk_7_202 : jLkS RX7 202 yX7_held 3 := ⟨⟨⟨by decide +kernel, by decide +kernel, by decide +kernel⟩, jTbl_in (k := 116) (by decide +kernel) rfl, Or.inl (jTbl_in (k := 1070) (by decide +kernel) rfl)⟩, jTbl_in (k := 1071) (by decide +kernel) rfl⟩
theorem lk_7_205 : jLkV RX7 205 yX7_isSolved 0 := ⟨⟨⟨by decide +kernel, by decide +kernel, by decide +kernel⟩, jTbl_in (k := 116) (by decide +kernel) rfl, Or.inl (jTbl_in (k := 1184) (by decide +kernel) rfl)⟩, jTbl_in (k := 1186) (by decide +kernel) rfl, jTbl_in (k := 78) (by decide +kernel) rfl⟩
theorem lk_7_209 : jLkV RX7 209 yX7_mostDoubted 0 := ⟨⟨⟨by decide +kernel, by decide +kernel, by decide +kernel⟩, jTbl_in (k := 116) (by decide +kernel) rfl, Or.inl (jTbl_in (k := 1208) (by decide +kernel) rfl)⟩, jTbl_in (k := 1210) (by decide +kernel) rfl, jTbl_in (k := 84) (by decide +kernel) rfl⟩
theorem lk_7_212 : jLkV RX7 212 yX7_goes 0 := ⟨⟨⟨by decide +kernel, by decide +kernel, by decide +kernel⟩, jTbl_in (k := 116) (by decide +kernel) rfl, Or.inl (jTbl_in (k := 1180) (by decide +kernel) rfl)⟩, jTbl_in (k := 1182) (by decide +kernel) rfl, jTbl_in (k := 77) (by decide +kernel) rfl⟩
theorem lk_7_215 : jLkV RX7 215 yX7_goesFor 1 := ⟨⟨⟨by decide +kernel, by decide +kernel, by decide +kernel⟩, jTbl_in (k := 116) (by decide +kernel) rfl, Or.inl (jTbl_in (k := 1176) (by decide +kernel) rfl)⟩, jTbl_in (k := 1178) (by decide +kernel) rfl, jTbl_in (k := 76) (by decide +kernel) rfl⟩
theorem lk_7_218 : jLkS RX7 218 yX7_bits 1 := ⟨⟨⟨by decide +kernel, by decide +kernel, by decide +kernel⟩, jTbl_in (k := 116) (by decide +kernel) rfl, Or.inl (jTbl_in (k := 1220) (by decide +kernel) rfl)⟩, jTbl_in (k := 1221) (by decide +kernel) rfl⟩
theorem kc_7_221 : Cond.constant RX7 221 (1103515245) ∈ jTbl := jTbl_in (k := 1235) (by decide +kernel) rfl
theorem lk_7_222 : jLkV RX7 222 yX7_draw 0 := ⟨⟨⟨by decide +kernel, by decide +kernel, by decide +kernel⟩, jTbl_in (k := 116) (by decide +kernel) rfl, Or.inl (jTbl_in (k := 1231) (by decide +kernel) rfl)⟩, jTbl_in (k := 1233) (by decide +kernel) rfl, jTbl_in (k := 88) (by decide +kernel) rfl⟩
theorem lk_7_225 : jLkV RX7 225 yX7_drawn 0 := ⟨⟨⟨by decide +kernel, by decide +kernel, by decide +kernel⟩, jTbl_in (k := 116) (by decide +kernel) rfl, Or.inl (jTbl_in (k := 1227) (by decide +kernel) rfl)⟩, jTbl_in (k := 1229) (by decide +kernel) rfl, jTbl_in (k := 87) (by decide +kernel) rfl⟩
theorem lk_7_228 : jLkS RX7 228 yX7_isPart 1 := ⟨⟨⟨by decide +kernel, by decide +kernel, by decide +kernel⟩, jTbl_in (k := 116) (by decide +kernel) rfl, Or.inl (jTbl_in (k := 1248) (by decide +kernel) rfl)⟩, jTbl_in (k := 1249) (by decide +kernel) rfl⟩
theorem lk_7_231 : jLkS RX7 231 yX7_inTerms 3 := ⟨⟨⟨by decide +kernel, by decide +kernel, by decide +kernel⟩, jTbl_in (k := 116) (by decide +kernel) rfl, Or.inl (jTbl_in (k := 1251) (by decide +kernel) rfl)⟩, jTbl_in (k := 1252) (by decide +kernel) rfl⟩
theorem lk_7_235 : jLkV RX7 235 yX7_allMiss 0 := ⟨⟨⟨by decide +kernel, by decide +kernel, by decide +kernel⟩, jTbl_in (k := 116) (by decide +kernel) rfl, Or.inl (jTbl_in (k := 1262) (by decide +kernel) rfl)⟩, jTbl_in (k := 1264) (by decide +kernel) rfl, jTbl_in (k := 89) (by decide +kernel) rfl⟩
theorem lk_7_239 : jLkV RX7 239 yX7_weightOf 1 := ⟨⟨⟨by decide +kernel, by decide +kernel, by decide +kernel⟩, jTbl_in (k := 116) (by decide +kernel) rfl, Or.inl (jTbl_in (k := 1278) (by decide +kernel) rfl)⟩, jTbl_in (k := 1280) (by decide +kernel) rfl, jTbl_in (k := 90) (by decide +kernel) rfl⟩
theorem lk_7_242 : jLkV RX7 242 yX7_thinks 0 := ⟨⟨⟨by decide +kernel, by decide +kernel, by decide +kernel⟩, jTbl_in (k := 116) (by decide +kernel) rfl, Or.inl (jTbl_in (k := 1286) (by decide +kernel) rfl)⟩, jTbl_in (k := 1288) (by decide +kernel) rfl, jTbl_in (k := 91) (by decide +kernel) rfl⟩
theorem lk_7_245 : jLkV RX7 245 yX7_putsBack 0 := ⟨⟨⟨by decide +kernel, by decide +kernel, by decide +kernel⟩, jTbl_in (k := 116) (by decide +kernel) rfl, Or.inl (jTbl_in (k := 1293) (by decide +kernel) rfl)⟩, jTbl_in (k := 1295) (by decide +kernel) rfl, jTbl_in (k := 92) (by decide +kernel) rfl⟩
theorem kc_7_248 : Cond.constant RX7 248 (-1000000002) ∈ jTbl := jTbl_in (k := 1301) (by decide +kernel) rfl
theorem lk_7_249 : jLkV RX7 249 yX7_doStay 1 := ⟨⟨⟨by decide +kernel, by decide +kernel, by decide +kernel⟩, jTbl_in (k := 116) (by decide +kernel) rfl, Or.inl (jTbl_in (k := 1306) (by decide +kernel) rfl)⟩, jTbl_in (k := 1308) (by decide +kernel) rfl, jTbl_in (k := 93) (by decide +kernel) rfl⟩
theorem kc_7_252 : Cond.constantLong RX7 252 (-1) ∈ jTbl := jTbl_in (k := 1314) (by decide +kernel) rfl
theorem kc_7_254 : Cond.constantLong RX7 254 (41) ∈ jTbl := jTbl_in (k := 1319) (by decide +kernel) rfl
theorem fl_7_25 : jFl RX7 25 7 6 := ⟨RX7, TX7, 24, rfl, by decide, ju7, rfl, Or.inl (jTbl_in (k := 943) (by decide +kernel) rfl)⟩
theorem fl_7_28 : jFl RX7 28 7 7 := ⟨RX7, TX7, 24, rfl, by decide, ju7, rfl, Or.inl (jTbl_in (k := 944) (by decide +kernel) rfl)⟩
theorem lk_7_256 : jLkS RX7 256 yX7_isSheet 1 := ⟨⟨⟨by decide +kernel, by decide +kernel, by decide +kernel⟩, jTbl_in (k := 116) (by decide +kernel) rfl, Or.inl (jTbl_in (k := 1324) (by decide +kernel) rfl)⟩, jTbl_in (k := 1325) (by decide +kernel) rfl⟩
theorem fl_7_22 : jFl RX7 22 7 5 := ⟨RX7, TX7, 24, rfl, by decide, ju7, rfl, Or.inl (jTbl_in (k := 942) (by decide +kernel) rfl)⟩
theorem lk_7_259 : jLkV RX7 259 yX7_isSo 1 := ⟨⟨⟨by decide +kernel, by decide +kernel, by decide +kernel⟩, jTbl_in (k := 116) (by decide +kernel) rfl, Or.inl (jTbl_in (k := 1327) (by decide +kernel) rfl)⟩, jTbl_in (k := 1329) (by decide +kernel) rfl, jTbl_in (k := 94) (by decide +kernel) rfl⟩
theorem fl_7_262 : jFl RX7 262 7 22 := ⟨RX7, TX7, 24, rfl, by decide, ju7, rfl, Or.inl (jTbl_in (k := 959) (by decide +kernel) rfl)⟩
theorem fl_7_53 : jFl RX7 53 7 21 := ⟨RX7, TX7, 24, rfl, by decide, ju7, rfl, Or.inl (jTbl_in (k := 958) (by decide +kernel) rfl)⟩
theorem fp_7_262 : jFp RX7 262 7 22 .int := ⟨RX7, TX7, 24, tyX7, rfl, by decide, ju7, rfl, Or.inl (jTbl_in (k := 959) (by decide +kernel) rfl), tyX7_ok, nmX7, rfl, by decide +kernel⟩
theorem lk_7_265 : jLkV RX7 265 yX7_begins 1 := ⟨⟨⟨by decide +kernel, by decide +kernel, by decide +kernel⟩, jTbl_in (k := 116) (by decide +kernel) rfl, Or.inl (jTbl_in (k := 1343) (by decide +kernel) rfl)⟩, jTbl_in (k := 1345) (by decide +kernel) rfl, jTbl_in (k := 97) (by decide +kernel) rfl⟩
theorem lk_7_268 : jLkV RX7 268 yX7_plainWeighs 2 := ⟨⟨⟨by decide +kernel, by decide +kernel, by decide +kernel⟩, jTbl_in (k := 116) (by decide +kernel) rfl, Or.inl (jTbl_in (k := 1347) (by decide +kernel) rfl)⟩, jTbl_in (k := 1349) (by decide +kernel) rfl, jTbl_in (k := 98) (by decide +kernel) rfl⟩
theorem lk_7_271 : jLkV RX7 271 yX7_flatWeighs 2 := ⟨⟨⟨by decide +kernel, by decide +kernel, by decide +kernel⟩, jTbl_in (k := 116) (by decide +kernel) rfl, Or.inl (jTbl_in (k := 1339) (by decide +kernel) rfl)⟩, jTbl_in (k := 1341) (by decide +kernel) rfl, jTbl_in (k := 96) (by decide +kernel) rfl⟩
theorem lk_7_274 : jLkV RX7 274 yX7_weighs 2 := ⟨⟨⟨by decide +kernel, by decide +kernel, by decide +kernel⟩, jTbl_in (k := 116) (by decide +kernel) rfl, Or.inl (jTbl_in (k := 1335) (by decide +kernel) rfl)⟩, jTbl_in (k := 1337) (by decide +kernel) rfl, jTbl_in (k := 95) (by decide +kernel) rfl⟩
theorem lk_7_277 : jLkV RX7 277 yX7_plainSays 2 := ⟨⟨⟨by decide +kernel, by decide +kernel, by decide +kernel⟩, jTbl_in (k := 116) (by decide +kernel) rfl, Or.inl (jTbl_in (k := 1359) (by decide +kernel) rfl)⟩, jTbl_in (k := 1361) (by decide +kernel) rfl, jTbl_in (k := 101) (by decide +kernel) rfl⟩
theorem lk_7_280 : jLkV RX7 280 yX7_starSays 2 := ⟨⟨⟨by decide +kernel, by decide +kernel, by decide +kernel⟩, jTbl_in (k := 116) (by decide +kernel) rfl, Or.inl (jTbl_in (k := 1355) (by decide +kernel) rfl)⟩, jTbl_in (k := 1357) (by decide +kernel) rfl, jTbl_in (k := 100) (by decide +kernel) rfl⟩
theorem lk_7_283 : jLkV RX7 283 yX7_says 2 := ⟨⟨⟨by decide +kernel, by decide +kernel, by decide +kernel⟩, jTbl_in (k := 116) (by decide +kernel) rfl, Or.inl (jTbl_in (k := 1351) (by decide +kernel) rfl)⟩, jTbl_in (k := 1353) (by decide +kernel) rfl, jTbl_in (k := 99) (by decide +kernel) rfl⟩
theorem lk_7_286 : jLkV RX7 286 yX7_plainTies 2 := ⟨⟨⟨by decide +kernel, by decide +kernel, by decide +kernel⟩, jTbl_in (k := 116) (by decide +kernel) rfl, Or.inl (jTbl_in (k := 1367) (by decide +kernel) rfl)⟩, jTbl_in (k := 1369) (by decide +kernel) rfl, jTbl_in (k := 103) (by decide +kernel) rfl⟩
theorem fp_7_289 : jFp RX7 289 7 23 .boolean := ⟨RX7, TX7, 24, tyX7, rfl, by decide, ju7, rfl, Or.inl (jTbl_in (k := 960) (by decide +kernel) rfl), tyX7_ok, nmX7, rfl, by decide +kernel⟩
theorem fl_7_289 : jFl RX7 289 7 23 := ⟨RX7, TX7, 24, rfl, by decide, ju7, rfl, Or.inl (jTbl_in (k := 960) (by decide +kernel) rfl)⟩
theorem lk_7_292 : jLkV RX7 292 yX7_plainParts 2 := ⟨⟨⟨by decide +kernel, by decide +kernel, by decide +kernel⟩, jTbl_in (k := 116) (by decide +kernel) rfl, Or.inl (jTbl_in (k := 1375) (by decide +kernel) rfl)⟩, jTbl_in (k := 1377) (by decide +kernel) rfl, jTbl_in (k := 105) (by decide +kernel) rfl⟩
theorem lk_7_295 : jLkV RX7 295 yX7_ties 2 := ⟨⟨⟨by decide +kernel, by decide +kernel, by decide +kernel⟩, jTbl_in (k := 116) (by decide +kernel) rfl, Or.inl (jTbl_in (k := 1363) (by decide +kernel) rfl)⟩, jTbl_in (k := 1365) (by decide +kernel) rfl, jTbl_in (k := 102) (by decide +kernel) rfl⟩
theorem lk_7_298 : jLkV RX7 298 yX7_partsBy 2 := ⟨⟨⟨by decide +kernel, by decide +kernel, by decide +kernel⟩, jTbl_in (k := 116) (by decide +kernel) rfl, Or.inl (jTbl_in (k := 1371) (by decide +kernel) rfl)⟩, jTbl_in (k := 1373) (by decide +kernel) rfl, jTbl_in (k := 104) (by decide +kernel) rfl⟩
theorem kc_7_301 : Cond.constant RX7 301 (-1000000006) ∈ jTbl := jTbl_in (k := 1379) (by decide +kernel) rfl
theorem lk_7_302 : jLkV RX7 302 yX7_notThere 1 := ⟨⟨⟨by decide +kernel, by decide +kernel, by decide +kernel⟩, jTbl_in (k := 116) (by decide +kernel) rfl, Or.inl (jTbl_in (k := 1392) (by decide +kernel) rfl)⟩, jTbl_in (k := 1394) (by decide +kernel) rfl, jTbl_in (k := 106) (by decide +kernel) rfl⟩
theorem lk_7_305 : jLkV RX7 305 yX7_notMoved 5 := ⟨⟨⟨by decide +kernel, by decide +kernel, by decide +kernel⟩, jTbl_in (k := 116) (by decide +kernel) rfl, Or.inl (jTbl_in (k := 1400) (by decide +kernel) rfl)⟩, jTbl_in (k := 1402) (by decide +kernel) rfl, jTbl_in (k := 107) (by decide +kernel) rfl⟩
theorem fl_7_13 : jFl RX7 13 7 1 := ⟨RX7, TX7, 24, rfl, by decide, ju7, rfl, Or.inl (jTbl_in (k := 938) (by decide +kernel) rfl)⟩
theorem fl_7_309 : jFl RX7 309 7 3 := ⟨RX7, TX7, 24, rfl, by decide, ju7, rfl, Or.inl (jTbl_in (k := 940) (by decide +kernel) rfl)⟩
theorem fp_7_309 : jFp RX7 309 7 3 .int := ⟨RX7, TX7, 24, tyX7, rfl, by decide, ju7, rfl, Or.inl (jTbl_in (k := 940) (by decide +kernel) rfl), tyX7_ok, nmX7, rfl, by decide +kernel⟩
theorem fl_0_9 : jFl RX0 9 0 0 := ⟨RX0, TX0, 17, rfl, by decide, ju0, rfl, Or.inl (jTbl_in (k := 172) (by decide +kernel) rfl)⟩
theorem lc_0_56 : Cond.methodLink RX0 56 arraycopyName ∈ jTbl := jTbl_in (k := 798) (by decide +kernel) rfl
theorem fl_0_15 : jFl RX0 15 0 1 := ⟨RX0, TX0, 17, rfl, by decide, ju0, rfl, Or.inl (jTbl_in (k := 174) (by decide +kernel) rfl)⟩
theorem fl_0_18 : jFl RX0 18 0 2 := ⟨RX0, TX0, 17, rfl, by decide, ju0, rfl, Or.inl (jTbl_in (k := 176) (by decide +kernel) rfl)⟩
theorem fl_0_21 : jFl RX0 21 0 3 := ⟨RX0, TX0, 17, rfl, by decide, ju0, rfl, Or.inl (jTbl_in (k := 179) (by decide +kernel) rfl)⟩
theorem fl_0_24 : jFl RX0 24 0 4 := ⟨RX0, TX0, 17, rfl, by decide, ju0, rfl, Or.inl (jTbl_in (k := 182) (by decide +kernel) rfl)⟩
theorem fl_0_27 : jFl RX0 27 0 5 := ⟨RX0, TX0, 17, rfl, by decide, ju0, rfl, Or.inl (jTbl_in (k := 185) (by decide +kernel) rfl)⟩
theorem fl_0_30 : jFl RX0 30 0 6 := ⟨RX0, TX0, 17, rfl, by decide, ju0, rfl, Or.inl (jTbl_in (k := 186) (by decide +kernel) rfl)⟩
theorem fl_0_42 : jFl RX0 42 0 7 := ⟨RX0, TX0, 17, rfl, by decide, ju0, rfl, Or.inl (jTbl_in (k := 188) (by decide +kernel) rfl)⟩
theorem fl_0_62 : jFl RX0 62 4 3 := ⟨RX4, TX4, 6, rfl, by decide, ju4, rfl, Or.inr ⟨"PictureBlock", jNest_in (k := 152) (by decide +kernel) rfl⟩⟩
theorem fl_0_65 : jFl RX0 65 4 5 := ⟨RX4, TX4, 6, rfl, by decide, ju4, rfl, Or.inr ⟨"PictureBlock", jNest_in (k := 155) (by decide +kernel) rfl⟩⟩
theorem lk_0_68 : jLkV RX0 68 yX4_copy 2 := ⟨⟨⟨by decide +kernel, by decide +kernel, by decide +kernel⟩, jTbl_in (k := 111) (by decide +kernel) rfl, Or.inr ⟨"PictureBlock", jNest_in (k := 799) (by decide +kernel) rfl⟩⟩, jTbl_in (k := 638) (by decide +kernel) rfl, jTbl_in (k := 24) (by decide +kernel) rfl⟩
theorem fl_0_72 : jFl RX0 72 0 8 := ⟨RX0, TX0, 17, rfl, by decide, ju0, rfl, Or.inl (jTbl_in (k := 192) (by decide +kernel) rfl)⟩
theorem fp_0_72 : jFp RX0 72 0 8 .int := ⟨RX0, TX0, 17, tyX0, rfl, by decide, ju0, rfl, Or.inl (jTbl_in (k := 192) (by decide +kernel) rfl), tyX0_ok, nmX0, rfl, by decide +kernel⟩
theorem fl_0_75 : jFl RX0 75 0 9 := ⟨RX0, TX0, 17, rfl, by decide, ju0, rfl, Or.inl (jTbl_in (k := 194) (by decide +kernel) rfl)⟩
theorem fp_0_75 : jFp RX0 75 0 9 .int := ⟨RX0, TX0, 17, tyX0, rfl, by decide, ju0, rfl, Or.inl (jTbl_in (k := 194) (by decide +kernel) rfl), tyX0_ok, nmX0, rfl, by decide +kernel⟩
theorem fl_0_46 : jFl RX0 46 0 10 := ⟨RX0, TX0, 17, rfl, by decide, ju0, rfl, Or.inl (jTbl_in (k := 196) (by decide +kernel) rfl)⟩
theorem fp_0_46 : jFp RX0 46 0 10 .int := ⟨RX0, TX0, 17, tyX0, rfl, by decide, ju0, rfl, Or.inl (jTbl_in (k := 196) (by decide +kernel) rfl), tyX0_ok, nmX0, rfl, by decide +kernel⟩
theorem fl_0_78 : jFl RX0 78 0 11 := ⟨RX0, TX0, 17, rfl, by decide, ju0, rfl, Or.inl (jTbl_in (k := 199) (by decide +kernel) rfl)⟩
theorem fp_0_78 : jFp RX0 78 0 11 .int := ⟨RX0, TX0, 17, tyX0, rfl, by decide, ju0, rfl, Or.inl (jTbl_in (k := 199) (by decide +kernel) rfl), tyX0_ok, nmX0, rfl, by decide +kernel⟩
theorem fl_0_50 : jFl RX0 50 0 12 := ⟨RX0, TX0, 17, rfl, by decide, ju0, rfl, Or.inl (jTbl_in (k := 202) (by decide +kernel) rfl)⟩
theorem fp_0_50 : jFp RX0 50 0 12 .int := ⟨RX0, TX0, 17, tyX0, rfl, by decide, ju0, rfl, Or.inl (jTbl_in (k := 202) (by decide +kernel) rfl), tyX0_ok, nmX0, rfl, by decide +kernel⟩
theorem fl_0_81 : jFl RX0 81 0 13 := ⟨RX0, TX0, 17, rfl, by decide, ju0, rfl, Or.inl (jTbl_in (k := 205) (by decide +kernel) rfl)⟩
theorem fp_0_81 : jFp RX0 81 0 13 .int := ⟨RX0, TX0, 17, tyX0, rfl, by decide, ju0, rfl, Or.inl (jTbl_in (k := 205) (by decide +kernel) rfl), tyX0_ok, nmX0, rfl, by decide +kernel⟩
theorem fl_0_53 : jFl RX0 53 0 14 := ⟨RX0, TX0, 17, rfl, by decide, ju0, rfl, Or.inl (jTbl_in (k := 208) (by decide +kernel) rfl)⟩
theorem fp_0_53 : jFp RX0 53 0 14 .int := ⟨RX0, TX0, 17, tyX0, rfl, by decide, ju0, rfl, Or.inl (jTbl_in (k := 208) (by decide +kernel) rfl), tyX0_ok, nmX0, rfl, by decide +kernel⟩
theorem fl_0_84 : jFl RX0 84 0 15 := ⟨RX0, TX0, 17, rfl, by decide, ju0, rfl, Or.inl (jTbl_in (k := 210) (by decide +kernel) rfl)⟩
theorem fp_0_84 : jFp RX0 84 0 15 .int := ⟨RX0, TX0, 17, tyX0, rfl, by decide, ju0, rfl, Or.inl (jTbl_in (k := 210) (by decide +kernel) rfl), tyX0_ok, nmX0, rfl, by decide +kernel⟩
theorem fl_0_87 : jFl RX0 87 0 16 := ⟨RX0, TX0, 17, rfl, by decide, ju0, rfl, Or.inl (jTbl_in (k := 212) (by decide +kernel) rfl)⟩
theorem fp_0_87 : jFp RX0 87 0 16 .int := ⟨RX0, TX0, 17, tyX0, rfl, by decide, ju0, rfl, Or.inl (jTbl_in (k := 212) (by decide +kernel) rfl), tyX0_ok, nmX0, rfl, by decide +kernel⟩
theorem lk_0_90 : jLkV RX0 90 yX0_turn 2 := ⟨⟨⟨by decide +kernel, by decide +kernel, by decide +kernel⟩, jTbl_in (k := 110) (by decide +kernel) rfl, Or.inl (jTbl_in (k := 407) (by decide +kernel) rfl)⟩, jTbl_in (k := 409) (by decide +kernel) rfl, jTbl_in (k := 3) (by decide +kernel) rfl⟩
theorem lm_0_94 : Cond.methodLink RX0 94 Lib.Math.max.name ∈ jTbl := jTbl_in (k := 460) (by decide +kernel) rfl
theorem lk_0_100 : jLkV RX0 100 yX0_tiedBy 1 := ⟨⟨⟨by decide +kernel, by decide +kernel, by decide +kernel⟩, jTbl_in (k := 110) (by decide +kernel) rfl, Or.inl (jTbl_in (k := 676) (by decide +kernel) rfl)⟩, jTbl_in (k := 678) (by decide +kernel) rfl, jTbl_in (k := 30) (by decide +kernel) rfl⟩
theorem lk_0_104 : jLkV RX0 104 yX0_isOn 1 := ⟨⟨⟨by decide +kernel, by decide +kernel, by decide +kernel⟩, jTbl_in (k := 110) (by decide +kernel) rfl, Or.inl (jTbl_in (k := 431) (by decide +kernel) rfl)⟩, jTbl_in (k := 421) (by decide +kernel) rfl, jTbl_in (k := 5) (by decide +kernel) rfl⟩
theorem lk_0_108 : jLkV RX0 108 yX0_touching 1 := ⟨⟨⟨by decide +kernel, by decide +kernel, by decide +kernel⟩, jTbl_in (k := 110) (by decide +kernel) rfl, Or.inl (jTbl_in (k := 427) (by decide +kernel) rfl)⟩, jTbl_in (k := 429) (by decide +kernel) rfl, jTbl_in (k := 7) (by decide +kernel) rfl⟩
theorem lk_0_111 : jLkV RX0 111 yX0_weighed 2 := ⟨⟨⟨by decide +kernel, by decide +kernel, by decide +kernel⟩, jTbl_in (k := 110) (by decide +kernel) rfl, Or.inl (jTbl_in (k := 432) (by decide +kernel) rfl)⟩, jTbl_in (k := 434) (by decide +kernel) rfl, jTbl_in (k := 8) (by decide +kernel) rfl⟩
theorem lk_0_114 : jLkV RX0 114 yX4_given 3 := ⟨⟨⟨by decide +kernel, by decide +kernel, by decide +kernel⟩, jTbl_in (k := 111) (by decide +kernel) rfl, Or.inr ⟨"PictureBlock", jNest_in (k := 439) (by decide +kernel) rfl⟩⟩, jTbl_in (k := 441) (by decide +kernel) rfl, jTbl_in (k := 9) (by decide +kernel) rfl⟩
theorem lk_0_118 : jLkV RX0 118 yX0_weightOf 1 := ⟨⟨⟨by decide +kernel, by decide +kernel, by decide +kernel⟩, jTbl_in (k := 110) (by decide +kernel) rfl, Or.inl (jTbl_in (k := 789) (by decide +kernel) rfl)⟩, jTbl_in (k := 425) (by decide +kernel) rfl, jTbl_in (k := 6) (by decide +kernel) rfl⟩
theorem lk_0_121 : jLkV RX0 121 yX0_read 1 := ⟨⟨⟨by decide +kernel, by decide +kernel, by decide +kernel⟩, jTbl_in (k := 110) (by decide +kernel) rfl, Or.inl (jTbl_in (k := 456) (by decide +kernel) rfl)⟩, jTbl_in (k := 458) (by decide +kernel) rfl, jTbl_in (k := 11) (by decide +kernel) rfl⟩
theorem lk_0_124 : jLkS RX0 124 yX0_starWeighed 1 := ⟨⟨⟨by decide +kernel, by decide +kernel, by decide +kernel⟩, jTbl_in (k := 110) (by decide +kernel) rfl, Or.inl (jTbl_in (k := 436) (by decide +kernel) rfl)⟩, jTbl_in (k := 437) (by decide +kernel) rfl⟩
theorem lk_0_127 : jLkV RX0 127 yX0_draw 0 := ⟨⟨⟨by decide +kernel, by decide +kernel, by decide +kernel⟩, jTbl_in (k := 110) (by decide +kernel) rfl, Or.inl (jTbl_in (k := 729) (by decide +kernel) rfl)⟩, jTbl_in (k := 731) (by decide +kernel) rfl, jTbl_in (k := 37) (by decide +kernel) rfl⟩
theorem kc_0_131 : Cond.constant RX0 131 (1103515245) ∈ jTbl := jTbl_in (k := 733) (by decide +kernel) rfl
theorem fl_1_31 : jFl RX1 31 0 9 := ⟨RX0, TX0, 17, rfl, by decide, ju0, rfl, Or.inr ⟨"PictureBlock", jNest_in (k := 193) (by decide +kernel) rfl⟩⟩
theorem lk_1_37 : jLkV RX1 37 yX0_holds 1 := ⟨⟨⟨by decide +kernel, by decide +kernel, by decide +kernel⟩, jTbl_in (k := 110) (by decide +kernel) rfl, Or.inr ⟨"PictureBlock", jNest_in (k := 672) (by decide +kernel) rfl⟩⟩, jTbl_in (k := 674) (by decide +kernel) rfl, jTbl_in (k := 29) (by decide +kernel) rfl⟩
theorem fl_1_11 : jFl RX1 11 1 0 := ⟨RX1, TX1, 5, rfl, by decide, ju1, rfl, Or.inl (jTbl_in (k := 285) (by decide +kernel) rfl)⟩
theorem fl_1_41 : jFl RX1 41 0 8 := ⟨RX0, TX0, 17, rfl, by decide, ju0, rfl, Or.inr ⟨"PictureBlock", jNest_in (k := 190) (by decide +kernel) rfl⟩⟩
theorem lk_1_44 : jLkV RX1 44 yX0_isOn 1 := ⟨⟨⟨by decide +kernel, by decide +kernel, by decide +kernel⟩, jTbl_in (k := 110) (by decide +kernel) rfl, Or.inr ⟨"PictureBlock", jNest_in (k := 680) (by decide +kernel) rfl⟩⟩, jTbl_in (k := 421) (by decide +kernel) rfl, jTbl_in (k := 5) (by decide +kernel) rfl⟩
theorem fl_1_20 : jFl RX1 20 1 2 := ⟨RX1, TX1, 5, rfl, by decide, ju1, rfl, Or.inl (jTbl_in (k := 288) (by decide +kernel) rfl)⟩
theorem lk_1_47 : jLkV RX1 47 yX0_weightOf 1 := ⟨⟨⟨by decide +kernel, by decide +kernel, by decide +kernel⟩, jTbl_in (k := 110) (by decide +kernel) rfl, Or.inr ⟨"PictureBlock", jNest_in (k := 681) (by decide +kernel) rfl⟩⟩, jTbl_in (k := 425) (by decide +kernel) rfl, jTbl_in (k := 6) (by decide +kernel) rfl⟩
theorem fl_1_24 : jFl RX1 24 1 3 := ⟨RX1, TX1, 5, rfl, by decide, ju1, rfl, Or.inl (jTbl_in (k := 289) (by decide +kernel) rfl)⟩
theorem lk_1_51 : jLkV RX1 51 yX0_saidBy 1 := ⟨⟨⟨by decide +kernel, by decide +kernel, by decide +kernel⟩, jTbl_in (k := 110) (by decide +kernel) rfl, Or.inr ⟨"PictureBlock", jNest_in (k := 682) (by decide +kernel) rfl⟩⟩, jTbl_in (k := 454) (by decide +kernel) rfl, jTbl_in (k := 10) (by decide +kernel) rfl⟩
theorem fl_1_54 : jFl RX1 54 0 2 := ⟨RX0, TX0, 17, rfl, by decide, ju0, rfl, Or.inr ⟨"PictureBlock", jNest_in (k := 177) (by decide +kernel) rfl⟩⟩
theorem fl_1_57 : jFl RX1 57 0 3 := ⟨RX0, TX0, 17, rfl, by decide, ju0, rfl, Or.inr ⟨"PictureBlock", jNest_in (k := 180) (by decide +kernel) rfl⟩⟩
theorem lk_1_60 : jLkV RX1 60 yX1_enter 4 := ⟨⟨⟨by decide +kernel, by decide +kernel, by decide +kernel⟩, jTbl_in (k := 113) (by decide +kernel) rfl, Or.inl (jTbl_in (k := 683) (by decide +kernel) rfl)⟩, jTbl_in (k := 685) (by decide +kernel) rfl, jTbl_in (k := 31) (by decide +kernel) rfl⟩
theorem fl_1_64 : jFl RX1 64 0 10 := ⟨RX0, TX0, 17, rfl, by decide, ju0, rfl, Or.inr ⟨"PictureBlock", jNest_in (k := 197) (by decide +kernel) rfl⟩⟩
theorem lk_1_67 : jLkV RX1 67 yX1_solve 1 := ⟨⟨⟨by decide +kernel, by decide +kernel, by decide +kernel⟩, jTbl_in (k := 113) (by decide +kernel) rfl, Or.inl (jTbl_in (k := 687) (by decide +kernel) rfl)⟩, jTbl_in (k := 689) (by decide +kernel) rfl, jTbl_in (k := 32) (by decide +kernel) rfl⟩
theorem lk_1_71 : jLkS RX1 71 yX1_clearColumn 4 := ⟨⟨⟨by decide +kernel, by decide +kernel, by decide +kernel⟩, jTbl_in (k := 113) (by decide +kernel) rfl, Or.inl (jTbl_in (k := 691) (by decide +kernel) rfl)⟩, jTbl_in (k := 692) (by decide +kernel) rfl⟩
theorem fp_1_27 : jFp RX1 27 1 4 .long := ⟨RX1, TX1, 5, tyX1, rfl, by decide, ju1, rfl, Or.inl (jTbl_in (k := 290) (by decide +kernel) rfl), tyX1_ok, nmX1, rfl, by decide +kernel⟩
theorem fl_1_16 : jFl RX1 16 1 1 := ⟨RX1, TX1, 5, rfl, by decide, ju1, rfl, Or.inl (jTbl_in (k := 286) (by decide +kernel) rfl)⟩
theorem lk_1_75 : jLkS RX1 75 yX6_quotient 2 := ⟨⟨⟨by decide +kernel, by decide +kernel, by decide +kernel⟩, jTbl_in (k := 109) (by decide +kernel) rfl, Or.inr ⟨"PictureBlock", jNest_in (k := 694) (by decide +kernel) rfl⟩⟩, jTbl_in (k := 695) (by decide +kernel) rfl⟩
theorem fl_1_27 : jFl RX1 27 1 4 := ⟨RX1, TX1, 5, rfl, by decide, ju1, rfl, Or.inl (jTbl_in (k := 290) (by decide +kernel) rfl)⟩
theorem lk_1_79 : jLkV RX1 79 yX1_missAbove 3 := ⟨⟨⟨by decide +kernel, by decide +kernel, by decide +kernel⟩, jTbl_in (k := 113) (by decide +kernel) rfl, Or.inl (jTbl_in (k := 706) (by decide +kernel) rfl)⟩, jTbl_in (k := 708) (by decide +kernel) rfl, jTbl_in (k := 35) (by decide +kernel) rfl⟩
theorem lm_1_83 : Cond.methodLink RX1 83 Lib.MathLoose.abs_long.x ∈ jTbl := jTbl_in (k := 710) (by decide +kernel) rfl
theorem kc_1_89 : Cond.constantLong RX1 89 (-1) ∈ jTbl := jTbl_in (k := 701) (by decide +kernel) rfl
theorem lk_1_91 : jLkV RX1 91 yX1_doubtAbove 2 := ⟨⟨⟨by decide +kernel, by decide +kernel, by decide +kernel⟩, jTbl_in (k := 113) (by decide +kernel) rfl, Or.inl (jTbl_in (k := 702) (by decide +kernel) rfl)⟩, jTbl_in (k := 704) (by decide +kernel) rfl, jTbl_in (k := 34) (by decide +kernel) rfl⟩
theorem lk_1_95 : jLkV RX1 95 yX1_find 1 := ⟨⟨⟨by decide +kernel, by decide +kernel, by decide +kernel⟩, jTbl_in (k := 113) (by decide +kernel) rfl, Or.inl (jTbl_in (k := 668) (by decide +kernel) rfl)⟩, jTbl_in (k := 670) (by decide +kernel) rfl, jTbl_in (k := 28) (by decide +kernel) rfl⟩
theorem lk_1_99 : jLkV RX1 99 yX1_mostDoubted 1 := ⟨⟨⟨by decide +kernel, by decide +kernel, by decide +kernel⟩, jTbl_in (k := 113) (by decide +kernel) rfl, Or.inl (jTbl_in (k := 697) (by decide +kernel) rfl)⟩, jTbl_in (k := 699) (by decide +kernel) rfl, jTbl_in (k := 33) (by decide +kernel) rfl⟩
theorem fl_1_103 : jFl RX1 103 0 12 := ⟨RX0, TX0, 17, rfl, by decide, ju0, rfl, Or.inr ⟨"PictureBlock", jNest_in (k := 204) (by decide +kernel) rfl⟩⟩
theorem lk_1_106 : jLkV RX1 106 yX0_turn 2 := ⟨⟨⟨by decide +kernel, by decide +kernel, by decide +kernel⟩, jTbl_in (k := 110) (by decide +kernel) rfl, Or.inr ⟨"PictureBlock", jNest_in (k := 713) (by decide +kernel) rfl⟩⟩, jTbl_in (k := 409) (by decide +kernel) rfl, jTbl_in (k := 3) (by decide +kernel) rfl⟩
theorem fl_1_110 : jFl RX1 110 0 13 := ⟨RX0, TX0, 17, rfl, by decide, ju0, rfl, Or.inr ⟨"PictureBlock", jNest_in (k := 206) (by decide +kernel) rfl⟩⟩
theorem lm_1_113 : Cond.methodLink RX1 113 Lib.Math.min.name ∈ jTbl := jTbl_in (k := 714) (by decide +kernel) rfl
theorem fp_1_110 : jFp RX1 110 0 13 .int := ⟨RX0, TX0, 17, tyX0, rfl, by decide, ju0, rfl, Or.inr ⟨"PictureBlock", jNest_in (k := 206) (by decide +kernel) rfl⟩, tyX0_ok, nmX0, rfl, by decide +kernel⟩
theorem fl_1_117 : jFl RX1 117 0 11 := ⟨RX0, TX0, 17, rfl, by decide, ju0, rfl, Or.inr ⟨"PictureBlock", jNest_in (k := 200) (by decide +kernel) rfl⟩⟩
theorem fp_1_117 : jFp RX1 117 0 11 .int := ⟨RX0, TX0, 17, tyX0, rfl, by decide, ju0, rfl, Or.inr ⟨"PictureBlock", jNest_in (k := 200) (by decide +kernel) rfl⟩, tyX0_ok, nmX0, rfl, by decide +kernel⟩
theorem fp_2_24 : jFp RX2 24 2 3 .int := ⟨RX2, TX2, 6, tyX2, rfl, by decide, ju2, rfl, Or.inl (jTbl_in (k := 261) (by decide +kernel) rfl), tyX2_ok, nmX2, rfl, by decide +kernel⟩
theorem fp_2_17 : jFp RX2 17 2 5 (.object "java/lang/String") := ⟨RX2, TX2, 6, tyX2, rfl, by decide, ju2, rfl, Or.inl (jTbl_in (k := 263) (by decide +kernel) rfl), tyX2_ok, nmX2, rfl, by decide +kernel⟩
theorem fp_2_28 : jFp RX2 28 2 4 .int := ⟨RX2, TX2, 6, tyX2, rfl, by decide, ju2, rfl, Or.inl (jTbl_in (k := 262) (by decide +kernel) rfl), tyX2_ok, nmX2, rfl, by decide +kernel⟩
theorem fp_2_31 : jFp RX2 31 2 2 .int := ⟨RX2, TX2, 6, tyX2, rfl, by decide, ju2, rfl, Or.inl (jTbl_in (k := 259) (by decide +kernel) rfl), tyX2_ok, nmX2, rfl, by decide +kernel⟩
theorem lk_2_34 : jLkV RX2 34 yX2_readOr 1 := ⟨⟨⟨by decide +kernel, by decide +kernel, by decide +kernel⟩, jTbl_in (k := 112) (by decide +kernel) rfl, Or.inl (jTbl_in (k := 510) (by decide +kernel) rfl)⟩, jTbl_in (k := 512) (by decide +kernel) rfl, jTbl_in (k := 14) (by decide +kernel) rfl⟩
theorem fl_2_28 : jFl RX2 28 2 4 := ⟨RX2, TX2, 6, rfl, by decide, ju2, rfl, Or.inl (jTbl_in (k := 262) (by decide +kernel) rfl)⟩
theorem fl_2_24 : jFl RX2 24 2 3 := ⟨RX2, TX2, 6, rfl, by decide, ju2, rfl, Or.inl (jTbl_in (k := 261) (by decide +kernel) rfl)⟩
theorem fl_2_21 : jFl RX2 21 2 0 := ⟨RX2, TX2, 6, rfl, by decide, ju2, rfl, Or.inl (jTbl_in (k := 256) (by decide +kernel) rfl)⟩
theorem fl_2_31 : jFl RX2 31 2 2 := ⟨RX2, TX2, 6, rfl, by decide, ju2, rfl, Or.inl (jTbl_in (k := 259) (by decide +kernel) rfl)⟩
theorem fl_2_9 : jFl RX2 9 2 1 := ⟨RX2, TX2, 6, rfl, by decide, ju2, rfl, Or.inl (jTbl_in (k := 257) (by decide +kernel) rfl)⟩
theorem lk_2_38 : jLkV RX2 38 yX2_readAnd 1 := ⟨⟨⟨by decide +kernel, by decide +kernel, by decide +kernel⟩, jTbl_in (k := 112) (by decide +kernel) rfl, Or.inl (jTbl_in (k := 514) (by decide +kernel) rfl)⟩, jTbl_in (k := 516) (by decide +kernel) rfl, jTbl_in (k := 15) (by decide +kernel) rfl⟩
theorem lk_2_41 : jLkV RX2 41 yX2_next 0 := ⟨⟨⟨by decide +kernel, by decide +kernel, by decide +kernel⟩, jTbl_in (k := 112) (by decide +kernel) rfl, Or.inl (jTbl_in (k := 534) (by decide +kernel) rfl)⟩, jTbl_in (k := 536) (by decide +kernel) rfl, jTbl_in (k := 20) (by decide +kernel) rfl⟩
theorem lk_2_45 : jLkV RX2 45 yX2_write 1 := ⟨⟨⟨by decide +kernel, by decide +kernel, by decide +kernel⟩, jTbl_in (k := 112) (by decide +kernel) rfl, Or.inl (jTbl_in (k := 543) (by decide +kernel) rfl)⟩, jTbl_in (k := 545) (by decide +kernel) rfl, jTbl_in (k := 22) (by decide +kernel) rfl⟩
theorem lk_2_49 : jLkV RX2 49 yX2_readCompared 1 := ⟨⟨⟨by decide +kernel, by decide +kernel, by decide +kernel⟩, jTbl_in (k := 112) (by decide +kernel) rfl, Or.inl (jTbl_in (k := 518) (by decide +kernel) rfl)⟩, jTbl_in (k := 520) (by decide +kernel) rfl, jTbl_in (k := 16) (by decide +kernel) rfl⟩
theorem lk_2_52 : jLkV RX2 52 yX2_readAdded 1 := ⟨⟨⟨by decide +kernel, by decide +kernel, by decide +kernel⟩, jTbl_in (k := 112) (by decide +kernel) rfl, Or.inl (jTbl_in (k := 522) (by decide +kernel) rfl)⟩, jTbl_in (k := 524) (by decide +kernel) rfl, jTbl_in (k := 17) (by decide +kernel) rfl⟩
theorem lk_2_55 : jLkV RX2 55 yX2_readMultiplied 1 := ⟨⟨⟨by decide +kernel, by decide +kernel, by decide +kernel⟩, jTbl_in (k := 112) (by decide +kernel) rfl, Or.inl (jTbl_in (k := 526) (by decide +kernel) rfl)⟩, jTbl_in (k := 528) (by decide +kernel) rfl, jTbl_in (k := 18) (by decide +kernel) rfl⟩
theorem lk_2_58 : jLkV RX2 58 yX2_readPart 1 := ⟨⟨⟨by decide +kernel, by decide +kernel, by decide +kernel⟩, jTbl_in (k := 112) (by decide +kernel) rfl, Or.inl (jTbl_in (k := 530) (by decide +kernel) rfl)⟩, jTbl_in (k := 532) (by decide +kernel) rfl, jTbl_in (k := 19) (by decide +kernel) rfl⟩
theorem lk_2_61 : jLkS RX2 61 yX2_isProductSign 1 := ⟨⟨⟨by decide +kernel, by decide +kernel, by decide +kernel⟩, jTbl_in (k := 112) (by decide +kernel) rfl, Or.inl (jTbl_in (k := 633) (by decide +kernel) rfl)⟩, jTbl_in (k := 634) (by decide +kernel) rfl⟩
theorem lk_2_64 : jLkS RX2 64 yX6_isWithin 3 := ⟨⟨⟨by decide +kernel, by decide +kernel, by decide +kernel⟩, jTbl_in (k := 109) (by decide +kernel) rfl, Or.inr ⟨"PictureBlock", jNest_in (k := 538) (by decide +kernel) rfl⟩⟩, jTbl_in (k := 389) (by decide +kernel) rfl⟩
theorem lk_2_68 : jLkV RX2 68 yX2_readNumber 0 := ⟨⟨⟨by decide +kernel, by decide +kernel, by decide +kernel⟩, jTbl_in (k := 112) (by decide +kernel) rfl, Or.inl (jTbl_in (k := 539) (by decide +kernel) rfl)⟩, jTbl_in (k := 541) (by decide +kernel) rfl, jTbl_in (k := 21) (by decide +kernel) rfl⟩
theorem lk_2_72 : jLkV RX2 72 yX2_readOpened 2 := ⟨⟨⟨by decide +kernel, by decide +kernel, by decide +kernel⟩, jTbl_in (k := 112) (by decide +kernel) rfl, Or.inl (jTbl_in (k := 547) (by decide +kernel) rfl)⟩, jTbl_in (k := 549) (by decide +kernel) rfl, jTbl_in (k := 23) (by decide +kernel) rfl⟩
theorem fl_2_17 : jFl RX2 17 2 5 := ⟨RX2, TX2, 6, rfl, by decide, ju2, rfl, Or.inl (jTbl_in (k := 263) (by decide +kernel) rfl)⟩
theorem lk_2_76 : jLkV RX2 76 yJ0_indexOf_0f7a4 1 := ⟨⟨⟨by decide +kernel, by decide +kernel, by decide +kernel⟩, jTbl_in (k := 118) (by decide +kernel) rfl, Or.inl (jTbl_in (k := 551) (by decide +kernel) rfl)⟩, jTbl_in (k := 552) (by decide +kernel) rfl, jTbl_in (k := 553) (by decide +kernel) rfl⟩
theorem fl_3_16 : jFl RX3 16 3 1 := ⟨RX3, TX3, 3, rfl, by decide, ju3, rfl, Or.inl (jTbl_in (k := 342) (by decide +kernel) rfl)⟩
theorem fl_3_20 : jFl RX3 20 3 2 := ⟨RX3, TX3, 3, rfl, by decide, ju3, rfl, Or.inl (jTbl_in (k := 344) (by decide +kernel) rfl)⟩
theorem fl_3_11 : jFl RX3 11 3 0 := ⟨RX3, TX3, 3, rfl, by decide, ju3, rfl, Or.inl (jTbl_in (k := 340) (by decide +kernel) rfl)⟩
theorem fl_4_9 : jFl RX4 9 4 3 := ⟨RX4, TX4, 6, rfl, by decide, ju4, rfl, Or.inl (jTbl_in (k := 151) (by decide +kernel) rfl)⟩
theorem lc_4_29 : Cond.methodLink RX4 29 arraycopyName ∈ jTbl := jTbl_in (k := 640) (by decide +kernel) rfl
theorem fp_4_35 : jFp RX4 35 4 5 .int := ⟨RX4, TX4, 6, tyX4, rfl, by decide, ju4, rfl, Or.inl (jTbl_in (k := 154) (by decide +kernel) rfl), tyX4_ok, nmX4, rfl, by decide +kernel⟩
theorem fl_4_35 : jFl RX4 35 4 5 := ⟨RX4, TX4, 6, rfl, by decide, ju4, rfl, Or.inl (jTbl_in (k := 154) (by decide +kernel) rfl)⟩
theorem fl_4_15 : jFl RX4 15 4 4 := ⟨RX4, TX4, 6, rfl, by decide, ju4, rfl, Or.inl (jTbl_in (k := 153) (by decide +kernel) rfl)⟩
theorem lm_4_38 : Cond.methodLink RX4 38 Lib.Math.min.name ∈ jTbl := jTbl_in (k := 443) (by decide +kernel) rfl
theorem lk_4_44 : jLkS RX4 44 yX4_joined 3 := ⟨⟨⟨by decide +kernel, by decide +kernel, by decide +kernel⟩, jTbl_in (k := 111) (by decide +kernel) rfl, Or.inl (jTbl_in (k := 446) (by decide +kernel) rfl)⟩, jTbl_in (k := 447) (by decide +kernel) rfl⟩
theorem fl_4_22 : jFl RX4 22 4 1 := ⟨RX4, TX4, 6, rfl, by decide, ju4, rfl, Or.inl (jTbl_in (k := 149) (by decide +kernel) rfl)⟩
theorem fl_4_26 : jFl RX4 26 4 2 := ⟨RX4, TX4, 6, rfl, by decide, ju4, rfl, Or.inl (jTbl_in (k := 150) (by decide +kernel) rfl)⟩
theorem lm_4_48 : Cond.methodLink RX4 48 Lib.Math.max.name ∈ jTbl := jTbl_in (k := 449) (by decide +kernel) rfl
theorem fp_5_15 : jFp RX5 15 5 3 .int := ⟨RX5, TX5, 6, tyX5, rfl, by decide, ju5, rfl, Or.inl (jTbl_in (k := 315) (by decide +kernel) rfl), tyX5_ok, nmX5, rfl, by decide +kernel⟩
theorem fp_5_19 : jFp RX5 19 5 4 .int := ⟨RX5, TX5, 6, tyX5, rfl, by decide, ju5, rfl, Or.inl (jTbl_in (k := 316) (by decide +kernel) rfl), tyX5_ok, nmX5, rfl, by decide +kernel⟩
theorem fp_5_22 : jFp RX5 22 5 2 .int := ⟨RX5, TX5, 6, tyX5, rfl, by decide, ju5, rfl, Or.inl (jTbl_in (k := 314) (by decide +kernel) rfl), tyX5_ok, nmX5, rfl, by decide +kernel⟩
theorem fp_5_25 : jFp RX5 25 5 5 .boolean := ⟨RX5, TX5, 6, tyX5, rfl, by decide, ju5, rfl, Or.inl (jTbl_in (k := 317) (by decide +kernel) rfl), tyX5_ok, nmX5, rfl, by decide +kernel⟩
theorem fp_5_29 : jFp RX5 29 5 1 .int := ⟨RX5, TX5, 6, tyX5, rfl, by decide, ju5, rfl, Or.inl (jTbl_in (k := 312) (by decide +kernel) rfl), tyX5_ok, nmX5, rfl, by decide +kernel⟩
theorem lk_5_32 : jLkV RX5 32 yX5_spoken 4 := ⟨⟨⟨by decide +kernel, by decide +kernel, by decide +kernel⟩, jTbl_in (k := 114) (by decide +kernel) rfl, Or.inl (jTbl_in (k := 853) (by decide +kernel) rfl)⟩, jTbl_in (k := 855) (by decide +kernel) rfl, jTbl_in (k := 46) (by decide +kernel) rfl⟩
theorem fl_5_25 : jFl RX5 25 5 5 := ⟨RX5, TX5, 6, rfl, by decide, ju5, rfl, Or.inl (jTbl_in (k := 317) (by decide +kernel) rfl)⟩
theorem gs_5_36 : Cond.fieldLink RX5 36 "PictureBlock$Voices" "BODIES" "[I" ∈ jTbl := jTbl_in (k := 857) (by decide +kernel) rfl
theorem lk_5_39 : jLkS RX5 39 yX6_isWithin 3 := ⟨⟨⟨by decide +kernel, by decide +kernel, by decide +kernel⟩, jTbl_in (k := 109) (by decide +kernel) rfl, Or.inr ⟨"PictureBlock", jNest_in (k := 859) (by decide +kernel) rfl⟩⟩, jTbl_in (k := 389) (by decide +kernel) rfl⟩
theorem lk_5_43 : jLkV RX5 43 yX5_worked 3 := ⟨⟨⟨by decide +kernel, by decide +kernel, by decide +kernel⟩, jTbl_in (k := 114) (by decide +kernel) rfl, Or.inl (jTbl_in (k := 860) (by decide +kernel) rfl)⟩, jTbl_in (k := 862) (by decide +kernel) rfl, jTbl_in (k := 47) (by decide +kernel) rfl⟩
theorem fl_5_29 : jFl RX5 29 5 1 := ⟨RX5, TX5, 6, rfl, by decide, ju5, rfl, Or.inl (jTbl_in (k := 312) (by decide +kernel) rfl)⟩
theorem fl_5_9 : jFl RX5 9 5 0 := ⟨RX5, TX5, 6, rfl, by decide, ju5, rfl, Or.inl (jTbl_in (k := 310) (by decide +kernel) rfl)⟩
theorem fl_5_15 : jFl RX5 15 5 3 := ⟨RX5, TX5, 6, rfl, by decide, ju5, rfl, Or.inl (jTbl_in (k := 315) (by decide +kernel) rfl)⟩
theorem fl_5_22 : jFl RX5 22 5 2 := ⟨RX5, TX5, 6, rfl, by decide, ju5, rfl, Or.inl (jTbl_in (k := 314) (by decide +kernel) rfl)⟩
theorem fl_5_19 : jFl RX5 19 5 4 := ⟨RX5, TX5, 6, rfl, by decide, ju5, rfl, Or.inl (jTbl_in (k := 316) (by decide +kernel) rfl)⟩
theorem lk_5_47 : jLkV RX5 47 yX5_partOfDifference 1 := ⟨⟨⟨by decide +kernel, by decide +kernel, by decide +kernel⟩, jTbl_in (k := 114) (by decide +kernel) rfl, Or.inl (jTbl_in (k := 864) (by decide +kernel) rfl)⟩, jTbl_in (k := 866) (by decide +kernel) rfl, jTbl_in (k := 48) (by decide +kernel) rfl⟩
theorem lk_L_13 : jLkV RL 13 yX6_mark 4 := ⟨⟨⟨by decide +kernel, by decide +kernel, by decide +kernel⟩, jTbl_in (k := 109) (by decide +kernel) rfl, Or.inl (jTbl_in (k := 381) (by decide +kernel) rfl)⟩, jTbl_in (k := 382) (by decide +kernel) rfl, jTbl_in (k := 383) (by decide +kernel) rfl⟩
theorem lk_L_17 : jLkV RL 17 yX7_mark 4 := ⟨⟨⟨by decide +kernel, by decide +kernel, by decide +kernel⟩, jTbl_in (k := 116) (by decide +kernel) rfl, Or.inl (jTbl_in (k := 1010) (by decide +kernel) rfl)⟩, jTbl_in (k := 1011) (by decide +kernel) rfl, jTbl_in (k := 1012) (by decide +kernel) rfl⟩
theorem lk_L_18 : jLkV RL 18 yX6_markIs 2 := ⟨⟨⟨by decide +kernel, by decide +kernel, by decide +kernel⟩, jTbl_in (k := 109) (by decide +kernel) rfl, Or.inl (jTbl_in (k := 411) (by decide +kernel) rfl)⟩, jTbl_in (k := 412) (by decide +kernel) rfl, jTbl_in (k := 413) (by decide +kernel) rfl⟩
theorem lk_L_22 : jLkV RL 22 yX7_markIs 2 := ⟨⟨⟨by decide +kernel, by decide +kernel, by decide +kernel⟩, jTbl_in (k := 116) (by decide +kernel) rfl, Or.inl (jTbl_in (k := 1035) (by decide +kernel) rfl)⟩, jTbl_in (k := 1036) (by decide +kernel) rfl, jTbl_in (k := 1037) (by decide +kernel) rfl⟩
theorem lk_L_23 : jLkV RL 23 yX6_become 2 := ⟨⟨⟨by decide +kernel, by decide +kernel, by decide +kernel⟩, jTbl_in (k := 109) (by decide +kernel) rfl, Or.inl (jTbl_in (k := 461) (by decide +kernel) rfl)⟩, jTbl_in (k := 462) (by decide +kernel) rfl, jTbl_in (k := 463) (by decide +kernel) rfl⟩
theorem lk_L_26 : jLkV RL 26 yX7_become 2 := ⟨⟨⟨by decide +kernel, by decide +kernel, by decide +kernel⟩, jTbl_in (k := 116) (by decide +kernel) rfl, Or.inl (jTbl_in (k := 1081) (by decide +kernel) rfl)⟩, jTbl_in (k := 1082) (by decide +kernel) rfl, jTbl_in (k := 1083) (by decide +kernel) rfl⟩
theorem lk_L_27 : jLkV RL 27 yX6_as 2 := ⟨⟨⟨by decide +kernel, by decide +kernel, by decide +kernel⟩, jTbl_in (k := 109) (by decide +kernel) rfl, Or.inl (jTbl_in (k := 465) (by decide +kernel) rfl)⟩, jTbl_in (k := 466) (by decide +kernel) rfl, jTbl_in (k := 467) (by decide +kernel) rfl⟩
theorem lk_L_30 : jLkV RL 30 yX7_as 2 := ⟨⟨⟨by decide +kernel, by decide +kernel, by decide +kernel⟩, jTbl_in (k := 116) (by decide +kernel) rfl, Or.inl (jTbl_in (k := 1089) (by decide +kernel) rfl)⟩, jTbl_in (k := 1090) (by decide +kernel) rfl, jTbl_in (k := 1091) (by decide +kernel) rfl⟩
theorem lk_L_31 : jLkV RL 31 yX6_measure 2 := ⟨⟨⟨by decide +kernel, by decide +kernel, by decide +kernel⟩, jTbl_in (k := 109) (by decide +kernel) rfl, Or.inl (jTbl_in (k := 474) (by decide +kernel) rfl)⟩, jTbl_in (k := 475) (by decide +kernel) rfl, jTbl_in (k := 476) (by decide +kernel) rfl⟩
theorem lk_L_34 : jLkV RL 34 yX7_measure 2 := ⟨⟨⟨by decide +kernel, by decide +kernel, by decide +kernel⟩, jTbl_in (k := 116) (by decide +kernel) rfl, Or.inl (jTbl_in (k := 1094) (by decide +kernel) rfl)⟩, jTbl_in (k := 1095) (by decide +kernel) rfl, jTbl_in (k := 1096) (by decide +kernel) rfl⟩
theorem lk_L_35 : jLkV RL 35 yX6_on 2 := ⟨⟨⟨by decide +kernel, by decide +kernel, by decide +kernel⟩, jTbl_in (k := 109) (by decide +kernel) rfl, Or.inl (jTbl_in (k := 478) (by decide +kernel) rfl)⟩, jTbl_in (k := 479) (by decide +kernel) rfl, jTbl_in (k := 480) (by decide +kernel) rfl⟩
theorem lk_L_38 : jLkV RL 38 yX7_on 2 := ⟨⟨⟨by decide +kernel, by decide +kernel, by decide +kernel⟩, jTbl_in (k := 116) (by decide +kernel) rfl, Or.inl (jTbl_in (k := 1098) (by decide +kernel) rfl)⟩, jTbl_in (k := 1099) (by decide +kernel) rfl, jTbl_in (k := 1100) (by decide +kernel) rfl⟩
theorem lk_L_39 : jLkV RL 39 yX6_pictures 1 := ⟨⟨⟨by decide +kernel, by decide +kernel, by decide +kernel⟩, jTbl_in (k := 109) (by decide +kernel) rfl, Or.inl (jTbl_in (k := 483) (by decide +kernel) rfl)⟩, jTbl_in (k := 484) (by decide +kernel) rfl, jTbl_in (k := 485) (by decide +kernel) rfl⟩
theorem lk_L_43 : jLkV RL 43 yX7_pictures 1 := ⟨⟨⟨by decide +kernel, by decide +kernel, by decide +kernel⟩, jTbl_in (k := 116) (by decide +kernel) rfl, Or.inl (jTbl_in (k := 1102) (by decide +kernel) rfl)⟩, jTbl_in (k := 1103) (by decide +kernel) rfl, jTbl_in (k := 1104) (by decide +kernel) rfl⟩
theorem lk_L_44 : jLkV RL 44 yX6_limit 1 := ⟨⟨⟨by decide +kernel, by decide +kernel, by decide +kernel⟩, jTbl_in (k := 109) (by decide +kernel) rfl, Or.inl (jTbl_in (k := 491) (by decide +kernel) rfl)⟩, jTbl_in (k := 492) (by decide +kernel) rfl, jTbl_in (k := 493) (by decide +kernel) rfl⟩
theorem lk_L_47 : jLkV RL 47 yX7_limit 1 := ⟨⟨⟨by decide +kernel, by decide +kernel, by decide +kernel⟩, jTbl_in (k := 116) (by decide +kernel) rfl, Or.inl (jTbl_in (k := 1107) (by decide +kernel) rfl)⟩, jTbl_in (k := 1108) (by decide +kernel) rfl, jTbl_in (k := 1109) (by decide +kernel) rfl⟩
theorem kc_L_48 : Cond.constantLong RL 48 (4294967295) ∈ jTbl := jTbl_in (k := 1436) (by decide +kernel) rfl
theorem lk_L_50 : jLkV RL 50 yX6_feed 2 := ⟨⟨⟨by decide +kernel, by decide +kernel, by decide +kernel⟩, jTbl_in (k := 109) (by decide +kernel) rfl, Or.inl (jTbl_in (k := 495) (by decide +kernel) rfl)⟩, jTbl_in (k := 496) (by decide +kernel) rfl, jTbl_in (k := 497) (by decide +kernel) rfl⟩
theorem lk_L_54 : jLkV RL 54 yX7_feed 2 := ⟨⟨⟨by decide +kernel, by decide +kernel, by decide +kernel⟩, jTbl_in (k := 116) (by decide +kernel) rfl, Or.inl (jTbl_in (k := 1111) (by decide +kernel) rfl)⟩, jTbl_in (k := 1112) (by decide +kernel) rfl, jTbl_in (k := 1113) (by decide +kernel) rfl⟩
theorem lk_L_55 : jLkV RL 55 yX6_text 1 := ⟨⟨⟨by decide +kernel, by decide +kernel, by decide +kernel⟩, jTbl_in (k := 109) (by decide +kernel) rfl, Or.inl (jTbl_in (k := 499) (by decide +kernel) rfl)⟩, jTbl_in (k := 500) (by decide +kernel) rfl, jTbl_in (k := 501) (by decide +kernel) rfl⟩
theorem lk_L_58 : jLkV RL 58 yX7_text 1 := ⟨⟨⟨by decide +kernel, by decide +kernel, by decide +kernel⟩, jTbl_in (k := 116) (by decide +kernel) rfl, Or.inl (jTbl_in (k := 1116) (by decide +kernel) rfl)⟩, jTbl_in (k := 1117) (by decide +kernel) rfl, jTbl_in (k := 1118) (by decide +kernel) rfl⟩
theorem lk_L_59 : jLkV RL 59 yX6_untell 1 := ⟨⟨⟨by decide +kernel, by decide +kernel, by decide +kernel⟩, jTbl_in (k := 109) (by decide +kernel) rfl, Or.inl (jTbl_in (k := 643) (by decide +kernel) rfl)⟩, jTbl_in (k := 644) (by decide +kernel) rfl, jTbl_in (k := 645) (by decide +kernel) rfl⟩
theorem lk_L_62 : jLkV RL 62 yX7_untell 1 := ⟨⟨⟨by decide +kernel, by decide +kernel, by decide +kernel⟩, jTbl_in (k := 116) (by decide +kernel) rfl, Or.inl (jTbl_in (k := 1164) (by decide +kernel) rfl)⟩, jTbl_in (k := 1165) (by decide +kernel) rfl, jTbl_in (k := 1166) (by decide +kernel) rfl⟩
theorem lk_L_63 : jLkV RL 63 yX6_law 4 := ⟨⟨⟨by decide +kernel, by decide +kernel, by decide +kernel⟩, jTbl_in (k := 109) (by decide +kernel) rfl, Or.inl (jTbl_in (k := 655) (by decide +kernel) rfl)⟩, jTbl_in (k := 656) (by decide +kernel) rfl, jTbl_in (k := 657) (by decide +kernel) rfl⟩
theorem lk_L_66 : jLkV RL 66 yX7_law 4 := ⟨⟨⟨by decide +kernel, by decide +kernel, by decide +kernel⟩, jTbl_in (k := 116) (by decide +kernel) rfl, Or.inl (jTbl_in (k := 1168) (by decide +kernel) rfl)⟩, jTbl_in (k := 1169) (by decide +kernel) rfl, jTbl_in (k := 1170) (by decide +kernel) rfl⟩
theorem lk_L_67 : jLkV RL 67 yX6_rounds 1 := ⟨⟨⟨by decide +kernel, by decide +kernel, by decide +kernel⟩, jTbl_in (k := 109) (by decide +kernel) rfl, Or.inl (jTbl_in (k := 660) (by decide +kernel) rfl)⟩, jTbl_in (k := 661) (by decide +kernel) rfl, jTbl_in (k := 662) (by decide +kernel) rfl⟩
theorem lk_L_70 : jLkV RL 70 yX7_rounds 1 := ⟨⟨⟨by decide +kernel, by decide +kernel, by decide +kernel⟩, jTbl_in (k := 116) (by decide +kernel) rfl, Or.inl (jTbl_in (k := 1172) (by decide +kernel) rfl)⟩, jTbl_in (k := 1173) (by decide +kernel) rfl, jTbl_in (k := 1174) (by decide +kernel) rfl⟩
theorem lk_L_71 : jLkV RL 71 yX6_loose 1 := ⟨⟨⟨by decide +kernel, by decide +kernel, by decide +kernel⟩, jTbl_in (k := 109) (by decide +kernel) rfl, Or.inl (jTbl_in (k := 721) (by decide +kernel) rfl)⟩, jTbl_in (k := 722) (by decide +kernel) rfl, jTbl_in (k := 723) (by decide +kernel) rfl⟩
theorem lk_L_74 : jLkV RL 74 yX7_loose 1 := ⟨⟨⟨by decide +kernel, by decide +kernel, by decide +kernel⟩, jTbl_in (k := 116) (by decide +kernel) rfl, Or.inl (jTbl_in (k := 1223) (by decide +kernel) rfl)⟩, jTbl_in (k := 1224) (by decide +kernel) rfl, jTbl_in (k := 1225) (by decide +kernel) rfl⟩
theorem lk_L_75 : jLkV RL 75 yX6_round 1 := ⟨⟨⟨by decide +kernel, by decide +kernel, by decide +kernel⟩, jTbl_in (k := 109) (by decide +kernel) rfl, Or.inl (jTbl_in (k := 734) (by decide +kernel) rfl)⟩, jTbl_in (k := 735) (by decide +kernel) rfl, jTbl_in (k := 736) (by decide +kernel) rfl⟩
theorem lk_L_78 : jLkV RL 78 yX7_round 1 := ⟨⟨⟨by decide +kernel, by decide +kernel, by decide +kernel⟩, jTbl_in (k := 116) (by decide +kernel) rfl, Or.inl (jTbl_in (k := 1236) (by decide +kernel) rfl)⟩, jTbl_in (k := 1237) (by decide +kernel) rfl, jTbl_in (k := 1238) (by decide +kernel) rfl⟩
theorem lk_L_79 : jLkV RL 79 yX6_seed 1 := ⟨⟨⟨by decide +kernel, by decide +kernel, by decide +kernel⟩, jTbl_in (k := 109) (by decide +kernel) rfl, Or.inl (jTbl_in (k := 738) (by decide +kernel) rfl)⟩, jTbl_in (k := 739) (by decide +kernel) rfl, jTbl_in (k := 740) (by decide +kernel) rfl⟩
theorem lk_L_82 : jLkV RL 82 yX7_seed 1 := ⟨⟨⟨by decide +kernel, by decide +kernel, by decide +kernel⟩, jTbl_in (k := 116) (by decide +kernel) rfl, Or.inl (jTbl_in (k := 1240) (by decide +kernel) rfl)⟩, jTbl_in (k := 1241) (by decide +kernel) rfl, jTbl_in (k := 1242) (by decide +kernel) rfl⟩
theorem lk_L_83 : jLkV RL 83 yX6_place 2 := ⟨⟨⟨by decide +kernel, by decide +kernel, by decide +kernel⟩, jTbl_in (k := 109) (by decide +kernel) rfl, Or.inl (jTbl_in (k := 742) (by decide +kernel) rfl)⟩, jTbl_in (k := 743) (by decide +kernel) rfl, jTbl_in (k := 744) (by decide +kernel) rfl⟩
theorem lk_L_87 : jLkV RL 87 yX7_place 2 := ⟨⟨⟨by decide +kernel, by decide +kernel, by decide +kernel⟩, jTbl_in (k := 116) (by decide +kernel) rfl, Or.inl (jTbl_in (k := 1244) (by decide +kernel) rfl)⟩, jTbl_in (k := 1245) (by decide +kernel) rfl, jTbl_in (k := 1246) (by decide +kernel) rfl⟩
theorem lk_L_88 : jLkV RL 88 yX6_miss 2 := ⟨⟨⟨by decide +kernel, by decide +kernel, by decide +kernel⟩, jTbl_in (k := 109) (by decide +kernel) rfl, Or.inl (jTbl_in (k := 758) (by decide +kernel) rfl)⟩, jTbl_in (k := 759) (by decide +kernel) rfl, jTbl_in (k := 760) (by decide +kernel) rfl⟩
theorem lk_L_91 : jLkV RL 91 yX7_miss 2 := ⟨⟨⟨by decide +kernel, by decide +kernel, by decide +kernel⟩, jTbl_in (k := 116) (by decide +kernel) rfl, Or.inl (jTbl_in (k := 1254) (by decide +kernel) rfl)⟩, jTbl_in (k := 1255) (by decide +kernel) rfl, jTbl_in (k := 1256) (by decide +kernel) rfl⟩
theorem lk_L_92 : jLkV RL 92 yX6_sum 1 := ⟨⟨⟨by decide +kernel, by decide +kernel, by decide +kernel⟩, jTbl_in (k := 109) (by decide +kernel) rfl, Or.inl (jTbl_in (k := 763) (by decide +kernel) rfl)⟩, jTbl_in (k := 764) (by decide +kernel) rfl, jTbl_in (k := 765) (by decide +kernel) rfl⟩
theorem lk_L_96 : jLkV RL 96 yX7_sum 1 := ⟨⟨⟨by decide +kernel, by decide +kernel, by decide +kernel⟩, jTbl_in (k := 116) (by decide +kernel) rfl, Or.inl (jTbl_in (k := 1258) (by decide +kernel) rfl)⟩, jTbl_in (k := 1259) (by decide +kernel) rfl, jTbl_in (k := 1260) (by decide +kernel) rfl⟩
theorem lk_L_97 : jLkV RL 97 yX6_doubted 0 := ⟨⟨⟨by decide +kernel, by decide +kernel, by decide +kernel⟩, jTbl_in (k := 109) (by decide +kernel) rfl, Or.inl (jTbl_in (k := 771) (by decide +kernel) rfl)⟩, jTbl_in (k := 772) (by decide +kernel) rfl, jTbl_in (k := 773) (by decide +kernel) rfl⟩
theorem lk_L_101 : jLkV RL 101 yX7_doubted 0 := ⟨⟨⟨by decide +kernel, by decide +kernel, by decide +kernel⟩, jTbl_in (k := 116) (by decide +kernel) rfl, Or.inl (jTbl_in (k := 1266) (by decide +kernel) rfl)⟩, jTbl_in (k := 1267) (by decide +kernel) rfl, jTbl_in (k := 1268) (by decide +kernel) rfl⟩
theorem lk_L_102 : jLkV RL 102 yX6_needed 0 := ⟨⟨⟨by decide +kernel, by decide +kernel, by decide +kernel⟩, jTbl_in (k := 109) (by decide +kernel) rfl, Or.inl (jTbl_in (k := 776) (by decide +kernel) rfl)⟩, jTbl_in (k := 777) (by decide +kernel) rfl, jTbl_in (k := 778) (by decide +kernel) rfl⟩
theorem lk_L_105 : jLkV RL 105 yX7_needed 0 := ⟨⟨⟨by decide +kernel, by decide +kernel, by decide +kernel⟩, jTbl_in (k := 116) (by decide +kernel) rfl, Or.inl (jTbl_in (k := 1270) (by decide +kernel) rfl)⟩, jTbl_in (k := 1271) (by decide +kernel) rfl, jTbl_in (k := 1272) (by decide +kernel) rfl⟩
theorem lk_L_106 : jLkV RL 106 yX6_spine 0 := ⟨⟨⟨by decide +kernel, by decide +kernel, by decide +kernel⟩, jTbl_in (k := 109) (by decide +kernel) rfl, Or.inl (jTbl_in (k := 781) (by decide +kernel) rfl)⟩, jTbl_in (k := 782) (by decide +kernel) rfl, jTbl_in (k := 783) (by decide +kernel) rfl⟩
theorem lk_L_109 : jLkV RL 109 yX7_spine 0 := ⟨⟨⟨by decide +kernel, by decide +kernel, by decide +kernel⟩, jTbl_in (k := 116) (by decide +kernel) rfl, Or.inl (jTbl_in (k := 1274) (by decide +kernel) rfl)⟩, jTbl_in (k := 1275) (by decide +kernel) rfl, jTbl_in (k := 1276) (by decide +kernel) rfl⟩
theorem lk_L_110 : jLkV RL 110 yX6_then 2 := ⟨⟨⟨by decide +kernel, by decide +kernel, by decide +kernel⟩, jTbl_in (k := 109) (by decide +kernel) rfl, Or.inl (jTbl_in (k := 790) (by decide +kernel) rfl)⟩, jTbl_in (k := 791) (by decide +kernel) rfl, jTbl_in (k := 792) (by decide +kernel) rfl⟩
theorem lk_L_113 : jLkV RL 113 yX7_then 2 := ⟨⟨⟨by decide +kernel, by decide +kernel, by decide +kernel⟩, jTbl_in (k := 116) (by decide +kernel) rfl, Or.inl (jTbl_in (k := 1282) (by decide +kernel) rfl)⟩, jTbl_in (k := 1283) (by decide +kernel) rfl, jTbl_in (k := 1284) (by decide +kernel) rfl⟩
theorem lk_L_114 : jLkV RL 114 yX6_soonest 1 := ⟨⟨⟨by decide +kernel, by decide +kernel, by decide +kernel⟩, jTbl_in (k := 109) (by decide +kernel) rfl, Or.inl (jTbl_in (k := 800) (by decide +kernel) rfl)⟩, jTbl_in (k := 801) (by decide +kernel) rfl, jTbl_in (k := 802) (by decide +kernel) rfl⟩
theorem lk_L_117 : jLkV RL 117 yX7_soonest 1 := ⟨⟨⟨by decide +kernel, by decide +kernel, by decide +kernel⟩, jTbl_in (k := 116) (by decide +kernel) rfl, Or.inl (jTbl_in (k := 1297) (by decide +kernel) rfl)⟩, jTbl_in (k := 1298) (by decide +kernel) rfl, jTbl_in (k := 1299) (by decide +kernel) rfl⟩
theorem lk_L_118 : jLkV RL 118 yX6_limitFor 1 := ⟨⟨⟨by decide +kernel, by decide +kernel, by decide +kernel⟩, jTbl_in (k := 109) (by decide +kernel) rfl, Or.inl (jTbl_in (k := 808) (by decide +kernel) rfl)⟩, jTbl_in (k := 809) (by decide +kernel) rfl, jTbl_in (k := 810) (by decide +kernel) rfl⟩
theorem lk_L_121 : jLkV RL 121 yX7_limitFor 1 := ⟨⟨⟨by decide +kernel, by decide +kernel, by decide +kernel⟩, jTbl_in (k := 116) (by decide +kernel) rfl, Or.inl (jTbl_in (k := 1302) (by decide +kernel) rfl)⟩, jTbl_in (k := 1303) (by decide +kernel) rfl, jTbl_in (k := 1304) (by decide +kernel) rfl⟩
theorem lk_L_122 : jLkV RL 122 yX6_toldFor 1 := ⟨⟨⟨by decide +kernel, by decide +kernel, by decide +kernel⟩, jTbl_in (k := 109) (by decide +kernel) rfl, Or.inl (jTbl_in (k := 820) (by decide +kernel) rfl)⟩, jTbl_in (k := 821) (by decide +kernel) rfl, jTbl_in (k := 822) (by decide +kernel) rfl⟩
theorem lk_L_125 : jLkV RL 125 yX7_toldFor 1 := ⟨⟨⟨by decide +kernel, by decide +kernel, by decide +kernel⟩, jTbl_in (k := 116) (by decide +kernel) rfl, Or.inl (jTbl_in (k := 1310) (by decide +kernel) rfl)⟩, jTbl_in (k := 1311) (by decide +kernel) rfl, jTbl_in (k := 1312) (by decide +kernel) rfl⟩
theorem lk_L_126 : jLkV RL 126 yX6_odds 3 := ⟨⟨⟨by decide +kernel, by decide +kernel, by decide +kernel⟩, jTbl_in (k := 109) (by decide +kernel) rfl, Or.inl (jTbl_in (k := 825) (by decide +kernel) rfl)⟩, jTbl_in (k := 826) (by decide +kernel) rfl, jTbl_in (k := 827) (by decide +kernel) rfl⟩
theorem lk_L_130 : jLkV RL 130 yX7_odds 3 := ⟨⟨⟨by decide +kernel, by decide +kernel, by decide +kernel⟩, jTbl_in (k := 116) (by decide +kernel) rfl, Or.inl (jTbl_in (k := 1315) (by decide +kernel) rfl)⟩, jTbl_in (k := 1316) (by decide +kernel) rfl, jTbl_in (k := 1317) (by decide +kernel) rfl⟩
theorem lk_L_131 : jLkV RL 131 yX6_fits 3 := ⟨⟨⟨by decide +kernel, by decide +kernel, by decide +kernel⟩, jTbl_in (k := 109) (by decide +kernel) rfl, Or.inl (jTbl_in (k := 830) (by decide +kernel) rfl)⟩, jTbl_in (k := 831) (by decide +kernel) rfl, jTbl_in (k := 832) (by decide +kernel) rfl⟩
theorem lk_L_134 : jLkV RL 134 yX7_fits 3 := ⟨⟨⟨by decide +kernel, by decide +kernel, by decide +kernel⟩, jTbl_in (k := 116) (by decide +kernel) rfl, Or.inl (jTbl_in (k := 1320) (by decide +kernel) rfl)⟩, jTbl_in (k := 1321) (by decide +kernel) rfl, jTbl_in (k := 1322) (by decide +kernel) rfl⟩
theorem lk_L_135 : jLkV RL 135 yX6_voice 3 := ⟨⟨⟨by decide +kernel, by decide +kernel, by decide +kernel⟩, jTbl_in (k := 109) (by decide +kernel) rfl, Or.inl (jTbl_in (k := 845) (by decide +kernel) rfl)⟩, jTbl_in (k := 846) (by decide +kernel) rfl, jTbl_in (k := 847) (by decide +kernel) rfl⟩
theorem lk_L_138 : jLkV RL 138 yX7_voice 3 := ⟨⟨⟨by decide +kernel, by decide +kernel, by decide +kernel⟩, jTbl_in (k := 116) (by decide +kernel) rfl, Or.inl (jTbl_in (k := 1331) (by decide +kernel) rfl)⟩, jTbl_in (k := 1332) (by decide +kernel) rfl, jTbl_in (k := 1333) (by decide +kernel) rfl⟩
theorem lk_L_139 : jLkV RL 139 yX6_body 1 := ⟨⟨⟨by decide +kernel, by decide +kernel, by decide +kernel⟩, jTbl_in (k := 109) (by decide +kernel) rfl, Or.inl (jTbl_in (k := 868) (by decide +kernel) rfl)⟩, jTbl_in (k := 869) (by decide +kernel) rfl, jTbl_in (k := 870) (by decide +kernel) rfl⟩
theorem lk_L_142 : jLkV RL 142 yX7_body 1 := ⟨⟨⟨by decide +kernel, by decide +kernel, by decide +kernel⟩, jTbl_in (k := 116) (by decide +kernel) rfl, Or.inl (jTbl_in (k := 1380) (by decide +kernel) rfl)⟩, jTbl_in (k := 1381) (by decide +kernel) rfl, jTbl_in (k := 1382) (by decide +kernel) rfl⟩
theorem lk_L_143 : jLkV RL 143 yX6_sheet 3 := ⟨⟨⟨by decide +kernel, by decide +kernel, by decide +kernel⟩, jTbl_in (k := 109) (by decide +kernel) rfl, Or.inl (jTbl_in (k := 872) (by decide +kernel) rfl)⟩, jTbl_in (k := 873) (by decide +kernel) rfl, jTbl_in (k := 874) (by decide +kernel) rfl⟩
theorem lk_L_146 : jLkV RL 146 yX7_sheet 3 := ⟨⟨⟨by decide +kernel, by decide +kernel, by decide +kernel⟩, jTbl_in (k := 116) (by decide +kernel) rfl, Or.inl (jTbl_in (k := 1384) (by decide +kernel) rfl)⟩, jTbl_in (k := 1385) (by decide +kernel) rfl, jTbl_in (k := 1386) (by decide +kernel) rfl⟩
theorem lk_L_147 : jLkV RL 147 yX6_put 3 := ⟨⟨⟨by decide +kernel, by decide +kernel, by decide +kernel⟩, jTbl_in (k := 109) (by decide +kernel) rfl, Or.inl (jTbl_in (k := 880) (by decide +kernel) rfl)⟩, jTbl_in (k := 881) (by decide +kernel) rfl, jTbl_in (k := 882) (by decide +kernel) rfl⟩
theorem lk_L_150 : jLkV RL 150 yX7_put 3 := ⟨⟨⟨by decide +kernel, by decide +kernel, by decide +kernel⟩, jTbl_in (k := 116) (by decide +kernel) rfl, Or.inl (jTbl_in (k := 1388) (by decide +kernel) rfl)⟩, jTbl_in (k := 1389) (by decide +kernel) rfl, jTbl_in (k := 1390) (by decide +kernel) rfl⟩
theorem lk_L_151 : jLkV RL 151 yX6_move 5 := ⟨⟨⟨by decide +kernel, by decide +kernel, by decide +kernel⟩, jTbl_in (k := 109) (by decide +kernel) rfl, Or.inl (jTbl_in (k := 888) (by decide +kernel) rfl)⟩, jTbl_in (k := 889) (by decide +kernel) rfl, jTbl_in (k := 890) (by decide +kernel) rfl⟩
theorem lk_L_155 : jLkV RL 155 yX7_move 5 := ⟨⟨⟨by decide +kernel, by decide +kernel, by decide +kernel⟩, jTbl_in (k := 116) (by decide +kernel) rfl, Or.inl (jTbl_in (k := 1396) (by decide +kernel) rfl)⟩, jTbl_in (k := 1397) (by decide +kernel) rfl, jTbl_in (k := 1398) (by decide +kernel) rfl⟩
theorem lk_L_156 : jLkV RL 156 yX6_tells 1 := ⟨⟨⟨by decide +kernel, by decide +kernel, by decide +kernel⟩, jTbl_in (k := 109) (by decide +kernel) rfl, Or.inl (jTbl_in (k := 897) (by decide +kernel) rfl)⟩, jTbl_in (k := 898) (by decide +kernel) rfl, jTbl_in (k := 899) (by decide +kernel) rfl⟩
theorem lk_L_159 : jLkV RL 159 yX7_tells 1 := ⟨⟨⟨by decide +kernel, by decide +kernel, by decide +kernel⟩, jTbl_in (k := 116) (by decide +kernel) rfl, Or.inl (jTbl_in (k := 1404) (by decide +kernel) rfl)⟩, jTbl_in (k := 1405) (by decide +kernel) rfl, jTbl_in (k := 1406) (by decide +kernel) rfl⟩
theorem lk_L_160 : jLkV RL 160 yX6_judge 1 := ⟨⟨⟨by decide +kernel, by decide +kernel, by decide +kernel⟩, jTbl_in (k := 109) (by decide +kernel) rfl, Or.inl (jTbl_in (k := 902) (by decide +kernel) rfl)⟩, jTbl_in (k := 903) (by decide +kernel) rfl, jTbl_in (k := 904) (by decide +kernel) rfl⟩
theorem lk_L_163 : jLkV RL 163 yX7_judge 1 := ⟨⟨⟨by decide +kernel, by decide +kernel, by decide +kernel⟩, jTbl_in (k := 116) (by decide +kernel) rfl, Or.inl (jTbl_in (k := 1408) (by decide +kernel) rfl)⟩, jTbl_in (k := 1409) (by decide +kernel) rfl, jTbl_in (k := 1410) (by decide +kernel) rfl⟩
theorem lk_L_164 : jLkV RL 164 yX6_image 0 := ⟨⟨⟨by decide +kernel, by decide +kernel, by decide +kernel⟩, jTbl_in (k := 109) (by decide +kernel) rfl, Or.inl (jTbl_in (k := 906) (by decide +kernel) rfl)⟩, jTbl_in (k := 907) (by decide +kernel) rfl, jTbl_in (k := 908) (by decide +kernel) rfl⟩
theorem lk_L_167 : jLkV RL 167 yX7_image 0 := ⟨⟨⟨by decide +kernel, by decide +kernel, by decide +kernel⟩, jTbl_in (k := 116) (by decide +kernel) rfl, Or.inl (jTbl_in (k := 1412) (by decide +kernel) rfl)⟩, jTbl_in (k := 1413) (by decide +kernel) rfl, jTbl_in (k := 1414) (by decide +kernel) rfl⟩
theorem lk_L_168 : jLkV RL 168 yX6_restore 0 := ⟨⟨⟨by decide +kernel, by decide +kernel, by decide +kernel⟩, jTbl_in (k := 109) (by decide +kernel) rfl, Or.inl (jTbl_in (k := 910) (by decide +kernel) rfl)⟩, jTbl_in (k := 911) (by decide +kernel) rfl, jTbl_in (k := 912) (by decide +kernel) rfl⟩
theorem lk_L_171 : jLkV RL 171 yX7_restore 0 := ⟨⟨⟨by decide +kernel, by decide +kernel, by decide +kernel⟩, jTbl_in (k := 116) (by decide +kernel) rfl, Or.inl (jTbl_in (k := 1416) (by decide +kernel) rfl)⟩, jTbl_in (k := 1417) (by decide +kernel) rfl, jTbl_in (k := 1418) (by decide +kernel) rfl⟩
theorem lk_L_172 : jLkV RL 172 yX6_tell 1 := ⟨⟨⟨by decide +kernel, by decide +kernel, by decide +kernel⟩, jTbl_in (k := 109) (by decide +kernel) rfl, Or.inl (jTbl_in (k := 914) (by decide +kernel) rfl)⟩, jTbl_in (k := 915) (by decide +kernel) rfl, jTbl_in (k := 916) (by decide +kernel) rfl⟩
theorem lk_L_175 : jLkV RL 175 yX7_tell 1 := ⟨⟨⟨by decide +kernel, by decide +kernel, by decide +kernel⟩, jTbl_in (k := 116) (by decide +kernel) rfl, Or.inl (jTbl_in (k := 1420) (by decide +kernel) rfl)⟩, jTbl_in (k := 1421) (by decide +kernel) rfl, jTbl_in (k := 1422) (by decide +kernel) rfl⟩
theorem lk_L_176 : jLkV RL 176 yX6_check 0 := ⟨⟨⟨by decide +kernel, by decide +kernel, by decide +kernel⟩, jTbl_in (k := 109) (by decide +kernel) rfl, Or.inl (jTbl_in (k := 918) (by decide +kernel) rfl)⟩, jTbl_in (k := 919) (by decide +kernel) rfl, jTbl_in (k := 920) (by decide +kernel) rfl⟩
theorem lk_L_179 : jLkV RL 179 yX7_check 0 := ⟨⟨⟨by decide +kernel, by decide +kernel, by decide +kernel⟩, jTbl_in (k := 116) (by decide +kernel) rfl, Or.inl (jTbl_in (k := 1424) (by decide +kernel) rfl)⟩, jTbl_in (k := 1425) (by decide +kernel) rfl, jTbl_in (k := 1426) (by decide +kernel) rfl⟩
theorem lk_L_180 : jLkV RL 180 yX6_count 1 := ⟨⟨⟨by decide +kernel, by decide +kernel, by decide +kernel⟩, jTbl_in (k := 109) (by decide +kernel) rfl, Or.inl (jTbl_in (k := 922) (by decide +kernel) rfl)⟩, jTbl_in (k := 923) (by decide +kernel) rfl, jTbl_in (k := 924) (by decide +kernel) rfl⟩
theorem lk_L_183 : jLkV RL 183 yX7_count 1 := ⟨⟨⟨by decide +kernel, by decide +kernel, by decide +kernel⟩, jTbl_in (k := 116) (by decide +kernel) rfl, Or.inl (jTbl_in (k := 1428) (by decide +kernel) rfl)⟩, jTbl_in (k := 1429) (by decide +kernel) rfl, jTbl_in (k := 1430) (by decide +kernel) rfl⟩
theorem lk_L_184 : jLkV RL 184 yX6_told 1 := ⟨⟨⟨by decide +kernel, by decide +kernel, by decide +kernel⟩, jTbl_in (k := 109) (by decide +kernel) rfl, Or.inl (jTbl_in (k := 927) (by decide +kernel) rfl)⟩, jTbl_in (k := 928) (by decide +kernel) rfl, jTbl_in (k := 929) (by decide +kernel) rfl⟩
theorem lk_L_187 : jLkV RL 187 yX7_told 1 := ⟨⟨⟨by decide +kernel, by decide +kernel, by decide +kernel⟩, jTbl_in (k := 116) (by decide +kernel) rfl, Or.inl (jTbl_in (k := 1432) (by decide +kernel) rfl)⟩, jTbl_in (k := 1433) (by decide +kernel) rfl, jTbl_in (k := 1434) (by decide +kernel) rfl⟩
theorem kc_RJ6_265 : Cond.constant "java/lang/Integer" 265 (1431655765) ∈ jTbl := jTbl_in (k := 718) (by decide +kernel) rfl
theorem kc_RJ6_266 : Cond.constant "java/lang/Integer" 266 (858993459) ∈ jTbl := jTbl_in (k := 719) (by decide +kernel) rfl
theorem kc_RJ6_267 : Cond.constant "java/lang/Integer" 267 (252645135) ∈ jTbl := jTbl_in (k := 720) (by decide +kernel) rfl
theorem cd_X6_as : Cond.code yX6_as cX6_as 3 (some .int) ∈ jTbl := jTbl_in (k := 468) (by decide +kernel) rfl
theorem cd_X6_become : Cond.code yX6_become cX6_become 4 (some .int) ∈ jTbl := jTbl_in (k := 464) (by decide +kernel) rfl
theorem cd_X6_body : Cond.code yX6_body cX6_body 2 (some .int) ∈ jTbl := jTbl_in (k := 871) (by decide +kernel) rfl
theorem cd_X6_check : Cond.code yX6_check cX6_check 3 (some .int) ∈ jTbl := jTbl_in (k := 921) (by decide +kernel) rfl
theorem cd_X6_count : Cond.code yX6_count cX6_count 2 (some .int) ∈ jTbl := jTbl_in (k := 925) (by decide +kernel) rfl
theorem cd_X6_doubted : Cond.code yX6_doubted cX6_doubted 1 (some .int) ∈ jTbl := jTbl_in (k := 774) (by decide +kernel) rfl
theorem cd_X6_error : Cond.code yX6_error cX6_error 2 (some .int) ∈ jTbl := jTbl_in (k := 401) (by decide +kernel) rfl
theorem cd_X6_feed : Cond.code yX6_feed cX6_feed 5 (some .int) ∈ jTbl := jTbl_in (k := 498) (by decide +kernel) rfl
theorem cd_X6_fits : Cond.code yX6_fits cX6_fits 6 (some .int) ∈ jTbl := jTbl_in (k := 833) (by decide +kernel) rfl
theorem cd_X6_goesAsSheetTells : Cond.code yX6_goesAsSheetTells cX6_goesAsSheetTells 3 (some .boolean) ∈ jTbl := jTbl_in (k := 844) (by decide +kernel) rfl
theorem cd_X6_greatestDivisor : Cond.code yX6_greatestDivisor cX6_greatestDivisor 11 (some .long) ∈ jTbl := jTbl_in (k := 756) (by decide +kernel) rfl
theorem cd_X6_image : Cond.code yX6_image cX6_image 1 (some .int) ∈ jTbl := jTbl_in (k := 909) (by decide +kernel) rfl
theorem cd_X6_isKindAndNumber : Cond.code yX6_isKindAndNumber cX6_isKindAndNumber 1 (some .boolean) ∈ jTbl := jTbl_in (k := 387) (by decide +kernel) rfl
theorem cd_X6_isMark : Cond.code yX6_isMark cX6_isMark 2 (some .boolean) ∈ jTbl := jTbl_in (k := 418) (by decide +kernel) rfl
theorem cd_X6_isOfKind : Cond.code yX6_isOfKind cX6_isOfKind 4 (some .boolean) ∈ jTbl := jTbl_in (k := 471) (by decide +kernel) rfl
theorem cd_X6_isPart : Cond.code yX6_isPart cX6_isPart 1 (some .boolean) ∈ jTbl := jTbl_in (k := 748) (by decide +kernel) rfl
theorem cd_X6_isPicture : Cond.code yX6_isPicture cX6_isPicture 2 (some .boolean) ∈ jTbl := jTbl_in (k := 394) (by decide +kernel) rfl
theorem cd_X6_isSheet : Cond.code yX6_isSheet cX6_isSheet 1 (some .boolean) ∈ jTbl := jTbl_in (k := 836) (by decide +kernel) rfl
theorem cd_X6_isTold : Cond.code yX6_isTold cX6_isTold 1 (some .boolean) ∈ jTbl := jTbl_in (k := 397) (by decide +kernel) rfl
theorem cd_X6_isUse : Cond.code yX6_isUse cX6_isUse 1 (some .boolean) ∈ jTbl := jTbl_in (k := 505) (by decide +kernel) rfl
theorem cd_X6_isWithin : Cond.code yX6_isWithin cX6_isWithin 3 (some .boolean) ∈ jTbl := jTbl_in (k := 390) (by decide +kernel) rfl
theorem cd_X6_judge : Cond.code yX6_judge cX6_judge 4 (some .int) ∈ jTbl := jTbl_in (k := 905) (by decide +kernel) rfl
theorem cd_X6_law : Cond.code yX6_law cX6_law 5 (some .int) ∈ jTbl := jTbl_in (k := 658) (by decide +kernel) rfl
theorem cd_X6_limit : Cond.code yX6_limit cX6_limit 3 (some .int) ∈ jTbl := jTbl_in (k := 494) (by decide +kernel) rfl
theorem cd_X6_limitFor : Cond.code yX6_limitFor cX6_limitFor 5 (some .int) ∈ jTbl := jTbl_in (k := 811) (by decide +kernel) rfl
theorem cd_X6_loose : Cond.code yX6_loose cX6_loose 3 (some .int) ∈ jTbl := jTbl_in (k := 724) (by decide +kernel) rfl
theorem cd_X6_mark : Cond.code yX6_mark cX6_mark 6 (some .int) ∈ jTbl := jTbl_in (k := 384) (by decide +kernel) rfl
theorem cd_X6_markIs : Cond.code yX6_markIs cX6_markIs 3 (some .int) ∈ jTbl := jTbl_in (k := 414) (by decide +kernel) rfl
theorem cd_X6_measure : Cond.code yX6_measure cX6_measure 4 (some .int) ∈ jTbl := jTbl_in (k := 477) (by decide +kernel) rfl
theorem cd_X6_miss : Cond.code yX6_miss cX6_miss 3 (some .long) ∈ jTbl := jTbl_in (k := 761) (by decide +kernel) rfl
theorem cd_X6_move : Cond.code yX6_move cX6_move 6 (some .int) ∈ jTbl := jTbl_in (k := 891) (by decide +kernel) rfl
theorem cd_X6_needed : Cond.code yX6_needed cX6_needed 3 (some .int) ∈ jTbl := jTbl_in (k := 779) (by decide +kernel) rfl
theorem cd_X6_odds : Cond.code yX6_odds cX6_odds 6 (some .int) ∈ jTbl := jTbl_in (k := 828) (by decide +kernel) rfl
theorem cd_X6_on : Cond.code yX6_on cX6_on 4 (some .int) ∈ jTbl := jTbl_in (k := 481) (by decide +kernel) rfl
theorem cd_X6_partOf : Cond.code yX6_partOf cX6_partOf 5 (some .long) ∈ jTbl := jTbl_in (k := 752) (by decide +kernel) rfl
theorem cd_X6_pictures : Cond.code yX6_pictures cX6_pictures 3 (some .int) ∈ jTbl := jTbl_in (k := 486) (by decide +kernel) rfl
theorem cd_X6_place : Cond.code yX6_place cX6_place 3 (some .long) ∈ jTbl := jTbl_in (k := 745) (by decide +kernel) rfl
theorem cd_X6_put : Cond.code yX6_put cX6_put 4 (some .int) ∈ jTbl := jTbl_in (k := 883) (by decide +kernel) rfl
theorem cd_X6_quotient : Cond.code yX6_quotient cX6_quotient 4 (some .long) ∈ jTbl := jTbl_in (k := 696) (by decide +kernel) rfl
theorem cd_X6_restore : Cond.code yX6_restore cX6_restore 1 (some .int) ∈ jTbl := jTbl_in (k := 913) (by decide +kernel) rfl
theorem cd_X6_round : Cond.code yX6_round cX6_round 3 (some .int) ∈ jTbl := jTbl_in (k := 737) (by decide +kernel) rfl
theorem cd_X6_rounds : Cond.code yX6_rounds cX6_rounds 3 (some .int) ∈ jTbl := jTbl_in (k := 663) (by decide +kernel) rfl
theorem cd_X6_roundsUntilOff : Cond.code yX6_roundsUntilOff cX6_roundsUntilOff 4 (some .int) ∈ jTbl := jTbl_in (k := 807) (by decide +kernel) rfl
theorem cd_X6_seed : Cond.code yX6_seed cX6_seed 3 (some .int) ∈ jTbl := jTbl_in (k := 741) (by decide +kernel) rfl
theorem cd_X6_sheet : Cond.code yX6_sheet cX6_sheet 5 (some .int) ∈ jTbl := jTbl_in (k := 875) (by decide +kernel) rfl
theorem cd_X6_soonest : Cond.code yX6_soonest cX6_soonest 3 (some .int) ∈ jTbl := jTbl_in (k := 803) (by decide +kernel) rfl
theorem cd_X6_spine : Cond.code yX6_spine cX6_spine 6 (some .int) ∈ jTbl := jTbl_in (k := 784) (by decide +kernel) rfl
theorem cd_X6_sum : Cond.code yX6_sum cX6_sum 2 (some .long) ∈ jTbl := jTbl_in (k := 766) (by decide +kernel) rfl
theorem cd_X6_tell : Cond.code yX6_tell cX6_tell 2 (some .int) ∈ jTbl := jTbl_in (k := 917) (by decide +kernel) rfl
theorem cd_X6_tells : Cond.code yX6_tells cX6_tells 5 (some .int) ∈ jTbl := jTbl_in (k := 900) (by decide +kernel) rfl
theorem cd_X6_text : Cond.code yX6_text cX6_text 3 (some .int) ∈ jTbl := jTbl_in (k := 502) (by decide +kernel) rfl
theorem cd_X6_then : Cond.code yX6_then cX6_then 4 (some .int) ∈ jTbl := jTbl_in (k := 793) (by decide +kernel) rfl
theorem cd_X6_told : Cond.code yX6_told cX6_told 2 (some .int) ∈ jTbl := jTbl_in (k := 930) (by decide +kernel) rfl
theorem cd_X6_toldFor : Cond.code yX6_toldFor cX6_toldFor 8 (some .int) ∈ jTbl := jTbl_in (k := 823) (by decide +kernel) rfl
theorem cd_X6_untell : Cond.code yX6_untell cX6_untell 3 (some .int) ∈ jTbl := jTbl_in (k := 646) (by decide +kernel) rfl
theorem cd_X6_voice : Cond.code yX6_voice cX6_voice 5 (some .int) ∈ jTbl := jTbl_in (k := 848) (by decide +kernel) rfl
theorem cd_X0_add : Cond.code yX0_add cX0_add 6 (some .int) ∈ jTbl := jTbl_in (k := 406) (by decide +kernel) rfl
theorem cd_X0_copy : Cond.code yX0_copy cX0_copy 3 none ∈ jTbl := jTbl_in (k := 797) (by decide +kernel) rfl
theorem cd_X0_draw : Cond.code yX0_draw cX0_draw 1 (some .int) ∈ jTbl := jTbl_in (k := 732) (by decide +kernel) rfl
theorem cd_X0_drawMark : Cond.code yX0_drawMark cX0_drawMark 2 none ∈ jTbl := jTbl_in (k := 728) (by decide +kernel) rfl
theorem cd_X0_holds : Cond.code yX0_holds cX0_holds 2 (some .boolean) ∈ jTbl := jTbl_in (k := 675) (by decide +kernel) rfl
theorem cd_X0_isOn : Cond.code yX0_isOn cX0_isOn 2 (some .boolean) ∈ jTbl := jTbl_in (k := 422) (by decide +kernel) rfl
theorem cd_X0_lastPictureMarked : Cond.code yX0_lastPictureMarked cX0_lastPictureMarked 3 (some .int) ∈ jTbl := jTbl_in (k := 490) (by decide +kernel) rfl
theorem cd_X0_read : Cond.code yX0_read cX0_read 3 (some .int) ∈ jTbl := jTbl_in (k := 459) (by decide +kernel) rfl
theorem cd_X0_saidBy : Cond.code yX0_saidBy cX0_saidBy 2 (some .int) ∈ jTbl := jTbl_in (k := 455) (by decide +kernel) rfl
theorem cd_X0_starWeighed : Cond.code yX0_starWeighed cX0_starWeighed 1 (some .int) ∈ jTbl := jTbl_in (k := 438) (by decide +kernel) rfl
theorem cd_X0_tiedBy : Cond.code yX0_tiedBy cX0_tiedBy 6 (some .int) ∈ jTbl := jTbl_in (k := 679) (by decide +kernel) rfl
theorem cd_X0_touching : Cond.code yX0_touching cX0_touching 4 (some .int) ∈ jTbl := jTbl_in (k := 430) (by decide +kernel) rfl
theorem cd_X0_turn : Cond.code yX0_turn cX0_turn 3 none ∈ jTbl := jTbl_in (k := 410) (by decide +kernel) rfl
theorem cd_X0_weighed : Cond.code yX0_weighed cX0_weighed 3 (some .int) ∈ jTbl := jTbl_in (k := 435) (by decide +kernel) rfl
theorem cd_X0_weightOf : Cond.code yX0_weightOf cX0_weightOf 3 (some .int) ∈ jTbl := jTbl_in (k := 426) (by decide +kernel) rfl
theorem cd_X0_weightOfAll : Cond.code yX0_weightOfAll cX0_weightOfAll 4 (some .int) ∈ jTbl := jTbl_in (k := 788) (by decide +kernel) rfl
theorem cd_X1_clearColumn : Cond.code yX1_clearColumn cX1_clearColumn 10 none ∈ jTbl := jTbl_in (k := 693) (by decide +kernel) rfl
theorem cd_X1_doubtAbove : Cond.code yX1_doubtAbove cX1_doubtAbove 3 (some .long) ∈ jTbl := jTbl_in (k := 705) (by decide +kernel) rfl
theorem cd_X1_enter : Cond.code yX1_enter cX1_enter 5 none ∈ jTbl := jTbl_in (k := 686) (by decide +kernel) rfl
theorem cd_X1_find : Cond.code yX1_find cX1_find 4 (some .boolean) ∈ jTbl := jTbl_in (k := 671) (by decide +kernel) rfl
theorem cd_X1_leastLimit : Cond.code yX1_leastLimit cX1_leastLimit 3 (some .long) ∈ jTbl := jTbl_in (k := 815) (by decide +kernel) rfl
theorem cd_X1_missAbove : Cond.code yX1_missAbove cX1_missAbove 5 (some .long) ∈ jTbl := jTbl_in (k := 709) (by decide +kernel) rfl
theorem cd_X1_mostDoubted : Cond.code yX1_mostDoubted cX1_mostDoubted 8 (some .int) ∈ jTbl := jTbl_in (k := 700) (by decide +kernel) rfl
theorem cd_X1_passRound : Cond.code yX1_passRound cX1_passRound 3 none ∈ jTbl := jTbl_in (k := 667) (by decide +kernel) rfl
theorem cd_X1_solve : Cond.code yX1_solve cX1_solve 8 none ∈ jTbl := jTbl_in (k := 690) (by decide +kernel) rfl
theorem cd_X1_sumAbove : Cond.code yX1_sumAbove cX1_sumAbove 7 (some .long) ∈ jTbl := jTbl_in (k := 770) (by decide +kernel) rfl
theorem cd_X2_faultOf : Cond.code yX2_faultOf cX2_faultOf 3 (some .int) ∈ jTbl := jTbl_in (k := 509) (by decide +kernel) rfl
theorem cd_X2_isProductSign : Cond.code yX2_isProductSign cX2_isProductSign 1 (some .boolean) ∈ jTbl := jTbl_in (k := 635) (by decide +kernel) rfl
theorem cd_X2_next : Cond.code yX2_next cX2_next 1 (some .int) ∈ jTbl := jTbl_in (k := 537) (by decide +kernel) rfl
theorem cd_X2_readAdded : Cond.code yX2_readAdded cX2_readAdded 5 (some .boolean) ∈ jTbl := jTbl_in (k := 525) (by decide +kernel) rfl
theorem cd_X2_readAnd : Cond.code yX2_readAnd cX2_readAnd 4 (some .boolean) ∈ jTbl := jTbl_in (k := 517) (by decide +kernel) rfl
theorem cd_X2_readCompared : Cond.code yX2_readCompared cX2_readCompared 4 (some .boolean) ∈ jTbl := jTbl_in (k := 521) (by decide +kernel) rfl
theorem cd_X2_readMultiplied : Cond.code yX2_readMultiplied cX2_readMultiplied 5 (some .boolean) ∈ jTbl := jTbl_in (k := 529) (by decide +kernel) rfl
theorem cd_X2_readNumber : Cond.code yX2_readNumber cX2_readNumber 3 (some .boolean) ∈ jTbl := jTbl_in (k := 542) (by decide +kernel) rfl
theorem cd_X2_readOpened : Cond.code yX2_readOpened cX2_readOpened 4 (some .boolean) ∈ jTbl := jTbl_in (k := 550) (by decide +kernel) rfl
theorem cd_X2_readOr : Cond.code yX2_readOr cX2_readOr 4 (some .boolean) ∈ jTbl := jTbl_in (k := 513) (by decide +kernel) rfl
theorem cd_X2_readPart : Cond.code yX2_readPart cX2_readPart 4 (some .boolean) ∈ jTbl := jTbl_in (k := 533) (by decide +kernel) rfl
theorem cd_X2_write : Cond.code yX2_write cX2_write 2 none ∈ jTbl := jTbl_in (k := 546) (by decide +kernel) rfl
theorem cd_X3_isMissing : Cond.code yX3_isMissing cX3_isMissing 2 (some .boolean) ∈ jTbl := jTbl_in (k := 840) (by decide +kernel) rfl
theorem cd_X3_lay : Cond.code yX3_lay cX3_lay 5 none ∈ jTbl := jTbl_in (k := 879) (by decide +kernel) rfl
theorem cd_X3_stand : Cond.code yX3_stand cX3_stand 4 (some .boolean) ∈ jTbl := jTbl_in (k := 895) (by decide +kernel) rfl
theorem cd_X3_write : Cond.code yX3_write cX3_write 4 none ∈ jTbl := jTbl_in (k := 887) (by decide +kernel) rfl
theorem cd_X4_clear : Cond.code yX4_clear cX4_clear 1 none ∈ jTbl := jTbl_in (k := 654) (by decide +kernel) rfl
theorem cd_X4_copy : Cond.code yX4_copy cX4_copy 3 none ∈ jTbl := jTbl_in (k := 639) (by decide +kernel) rfl
theorem cd_X4_given : Cond.code yX4_given cX4_given 7 (some .int) ∈ jTbl := jTbl_in (k := 442) (by decide +kernel) rfl
theorem cd_X4_isThere : Cond.code yX4_isThere cX4_isThere 1 (some .boolean) ∈ jTbl := jTbl_in (k := 650) (by decide +kernel) rfl
theorem cd_X4_joined : Cond.code yX4_joined cX4_joined 3 (some .int) ∈ jTbl := jTbl_in (k := 448) (by decide +kernel) rfl
theorem cd_X5_answerOf : Cond.code yX5_answerOf cX5_answerOf 6 (some .int) ∈ jTbl := jTbl_in (k := 852) (by decide +kernel) rfl
theorem cd_X5_partOfDifference : Cond.code yX5_partOfDifference cX5_partOfDifference 3 (some .int) ∈ jTbl := jTbl_in (k := 867) (by decide +kernel) rfl
theorem cd_X5_spoken : Cond.code yX5_spoken cX5_spoken 6 (some .int) ∈ jTbl := jTbl_in (k := 856) (by decide +kernel) rfl
theorem cd_X5_worked : Cond.code yX5_worked cX5_worked 4 (some .int) ∈ jTbl := jTbl_in (k := 863) (by decide +kernel) rfl
theorem cd_X7_adds : Cond.code yX7_adds cX7_adds 6 none ∈ jTbl := jTbl_in (k := 1203) (by decide +kernel) rfl
theorem cd_X7_all : Cond.code yX7_all cX7_all 1 none ∈ jTbl := jTbl_in (k := 1127) (by decide +kernel) rfl
theorem cd_X7_allMiss : Cond.code yX7_allMiss cX7_allMiss 4 (some .long) ∈ jTbl := jTbl_in (k := 1265) (by decide +kernel) rfl
theorem cd_X7_any : Cond.code yX7_any cX7_any 1 none ∈ jTbl := jTbl_in (k := 1123) (by decide +kernel) rfl
theorem cd_X7_as : Cond.code yX7_as cX7_as 5 (some .int) ∈ jTbl := jTbl_in (k := 1092) (by decide +kernel) rfl
theorem cd_X7_become : Cond.code yX7_become cX7_become 3 (some .int) ∈ jTbl := jTbl_in (k := 1084) (by decide +kernel) rfl
theorem cd_X7_becomes : Cond.code yX7_becomes cX7_becomes 4 (some .int) ∈ jTbl := jTbl_in (k := 1088) (by decide +kernel) rfl
theorem cd_X7_begins : Cond.code yX7_begins cX7_begins 2 none ∈ jTbl := jTbl_in (k := 1346) (by decide +kernel) rfl
theorem cd_X7_bits : Cond.code yX7_bits cX7_bits 3 (some .int) ∈ jTbl := jTbl_in (k := 1222) (by decide +kernel) rfl
theorem cd_X7_body : Cond.code yX7_body cX7_body 2 (some .int) ∈ jTbl := jTbl_in (k := 1383) (by decide +kernel) rfl
theorem cd_X7_check : Cond.code yX7_check cX7_check 3 (some .int) ∈ jTbl := jTbl_in (k := 1427) (by decide +kernel) rfl
theorem cd_X7_compares : Cond.code yX7_compares cX7_compares 2 none ∈ jTbl := jTbl_in (k := 1131) (by decide +kernel) rfl
theorem cd_X7_copyAll : Cond.code yX7_copyAll cX7_copyAll 3 none ∈ jTbl := jTbl_in (k := 1292) (by decide +kernel) rfl
theorem cd_X7_count : Cond.code yX7_count cX7_count 2 (some .int) ∈ jTbl := jTbl_in (k := 1431) (by decide +kernel) rfl
theorem cd_X7_det : Cond.code yX7_det cX7_det 12 (some .long) ∈ jTbl := jTbl_in (k := 1207) (by decide +kernel) rfl
theorem cd_X7_doStay : Cond.code yX7_doStay cX7_doStay 5 (some .boolean) ∈ jTbl := jTbl_in (k := 1309) (by decide +kernel) rfl
theorem cd_X7_doesHold : Cond.code yX7_doesHold cX7_doesHold 2 (some .boolean) ∈ jTbl := jTbl_in (k := 1195) (by decide +kernel) rfl
theorem cd_X7_doubt : Cond.code yX7_doubt cX7_doubt 4 (some .long) ∈ jTbl := jTbl_in (k := 1215) (by decide +kernel) rfl
theorem cd_X7_doubted : Cond.code yX7_doubted cX7_doubted 1 (some .int) ∈ jTbl := jTbl_in (k := 1269) (by decide +kernel) rfl
theorem cd_X7_draw : Cond.code yX7_draw cX7_draw 1 (some .int) ∈ jTbl := jTbl_in (k := 1234) (by decide +kernel) rfl
theorem cd_X7_drawn : Cond.code yX7_drawn cX7_drawn 2 none ∈ jTbl := jTbl_in (k := 1230) (by decide +kernel) rfl
theorem cd_X7_error : Cond.code yX7_error cX7_error 2 (some .int) ∈ jTbl := jTbl_in (k := 1028) (by decide +kernel) rfl
theorem cd_X7_feed : Cond.code yX7_feed cX7_feed 5 (some .int) ∈ jTbl := jTbl_in (k := 1114) (by decide +kernel) rfl
theorem cd_X7_fits : Cond.code yX7_fits cX7_fits 6 (some .int) ∈ jTbl := jTbl_in (k := 1323) (by decide +kernel) rfl
theorem cd_X7_flatWeighs : Cond.code yX7_flatWeighs cX7_flatWeighs 3 (some .int) ∈ jTbl := jTbl_in (k := 1342) (by decide +kernel) rfl
theorem cd_X7_gives : Cond.code yX7_gives cX7_gives 7 (some .int) ∈ jTbl := jTbl_in (k := 1062) (by decide +kernel) rfl
theorem cd_X7_goes : Cond.code yX7_goes cX7_goes 2 none ∈ jTbl := jTbl_in (k := 1183) (by decide +kernel) rfl
theorem cd_X7_goesFor : Cond.code yX7_goesFor cX7_goesFor 3 none ∈ jTbl := jTbl_in (k := 1179) (by decide +kernel) rfl
theorem cd_X7_held : Cond.code yX7_held cX7_held 3 (some .int) ∈ jTbl := jTbl_in (k := 1072) (by decide +kernel) rfl
theorem cd_X7_image : Cond.code yX7_image cX7_image 1 (some .int) ∈ jTbl := jTbl_in (k := 1415) (by decide +kernel) rfl
theorem cd_X7_in : Cond.code yX7_in cX7_in 3 (some .boolean) ∈ jTbl := jTbl_in (k := 1019) (by decide +kernel) rfl
theorem cd_X7_inTerms : Cond.code yX7_inTerms cX7_inTerms 11 (some .long) ∈ jTbl := jTbl_in (k := 1253) (by decide +kernel) rfl
theorem cd_X7_isKm : Cond.code yX7_isKm cX7_isKm 1 (some .boolean) ∈ jTbl := jTbl_in (k := 1016) (by decide +kernel) rfl
theorem cd_X7_isMark : Cond.code yX7_isMark cX7_isMark 2 (some .boolean) ∈ jTbl := jTbl_in (k := 1042) (by decide +kernel) rfl
theorem cd_X7_isPart : Cond.code yX7_isPart cX7_isPart 1 (some .boolean) ∈ jTbl := jTbl_in (k := 1250) (by decide +kernel) rfl
theorem cd_X7_isPicture : Cond.code yX7_isPicture cX7_isPicture 2 (some .boolean) ∈ jTbl := jTbl_in (k := 1023) (by decide +kernel) rfl
theorem cd_X7_isSheet : Cond.code yX7_isSheet cX7_isSheet 1 (some .boolean) ∈ jTbl := jTbl_in (k := 1326) (by decide +kernel) rfl
theorem cd_X7_isSo : Cond.code yX7_isSo cX7_isSo 4 (some .boolean) ∈ jTbl := jTbl_in (k := 1330) (by decide +kernel) rfl
theorem cd_X7_isSolved : Cond.code yX7_isSolved cX7_isSolved 2 (some .boolean) ∈ jTbl := jTbl_in (k := 1187) (by decide +kernel) rfl
theorem cd_X7_judge : Cond.code yX7_judge cX7_judge 4 (some .int) ∈ jTbl := jTbl_in (k := 1411) (by decide +kernel) rfl
theorem cd_X7_law : Cond.code yX7_law cX7_law 5 (some .int) ∈ jTbl := jTbl_in (k := 1171) (by decide +kernel) rfl
theorem cd_X7_lays : Cond.code yX7_lays cX7_lays 3 none ∈ jTbl := jTbl_in (k := 1155) (by decide +kernel) rfl
theorem cd_X7_limit : Cond.code yX7_limit cX7_limit 2 (some .int) ∈ jTbl := jTbl_in (k := 1110) (by decide +kernel) rfl
theorem cd_X7_limitFor : Cond.code yX7_limitFor cX7_limitFor 3 (some .int) ∈ jTbl := jTbl_in (k := 1305) (by decide +kernel) rfl
theorem cd_X7_look : Cond.code yX7_look cX7_look 1 (some .int) ∈ jTbl := jTbl_in (k := 1147) (by decide +kernel) rfl
theorem cd_X7_loose : Cond.code yX7_loose cX7_loose 3 (some .int) ∈ jTbl := jTbl_in (k := 1226) (by decide +kernel) rfl
theorem cd_X7_mark : Cond.code yX7_mark cX7_mark 6 (some .int) ∈ jTbl := jTbl_in (k := 1013) (by decide +kernel) rfl
theorem cd_X7_markIs : Cond.code yX7_markIs cX7_markIs 3 (some .int) ∈ jTbl := jTbl_in (k := 1038) (by decide +kernel) rfl
theorem cd_X7_measure : Cond.code yX7_measure cX7_measure 3 (some .int) ∈ jTbl := jTbl_in (k := 1097) (by decide +kernel) rfl
theorem cd_X7_miss : Cond.code yX7_miss cX7_miss 3 (some .long) ∈ jTbl := jTbl_in (k := 1257) (by decide +kernel) rfl
theorem cd_X7_missOf : Cond.code yX7_missOf cX7_missOf 4 (some .long) ∈ jTbl := jTbl_in (k := 1219) (by decide +kernel) rfl
theorem cd_X7_mostDoubted : Cond.code yX7_mostDoubted cX7_mostDoubted 3 (some .int) ∈ jTbl := jTbl_in (k := 1211) (by decide +kernel) rfl
theorem cd_X7_move : Cond.code yX7_move cX7_move 9 (some .int) ∈ jTbl := jTbl_in (k := 1399) (by decide +kernel) rfl
theorem cd_X7_nameOf : Cond.code yX7_nameOf cX7_nameOf 2 (some .int) ∈ jTbl := jTbl_in (k := 1151) (by decide +kernel) rfl
theorem cd_X7_needed : Cond.code yX7_needed cX7_needed 4 (some .int) ∈ jTbl := jTbl_in (k := 1273) (by decide +kernel) rfl
theorem cd_X7_notMoved : Cond.code yX7_notMoved cX7_notMoved 7 (some .int) ∈ jTbl := jTbl_in (k := 1403) (by decide +kernel) rfl
theorem cd_X7_notThere : Cond.code yX7_notThere cX7_notThere 2 (some .int) ∈ jTbl := jTbl_in (k := 1395) (by decide +kernel) rfl
theorem cd_X7_number : Cond.code yX7_number cX7_number 3 none ∈ jTbl := jTbl_in (k := 1163) (by decide +kernel) rfl
theorem cd_X7_odds : Cond.code yX7_odds cX7_odds 7 (some .int) ∈ jTbl := jTbl_in (k := 1318) (by decide +kernel) rfl
theorem cd_X7_of : Cond.code yX7_of cX7_of 3 (some .int) ∈ jTbl := jTbl_in (k := 1046) (by decide +kernel) rfl
theorem cd_X7_on : Cond.code yX7_on cX7_on 3 (some .int) ∈ jTbl := jTbl_in (k := 1101) (by decide +kernel) rfl
theorem cd_X7_onOnes : Cond.code yX7_onOnes cX7_onOnes 3 (some .int) ∈ jTbl := jTbl_in (k := 1191) (by decide +kernel) rfl
theorem cd_X7_one : Cond.code yX7_one cX7_one 3 none ∈ jTbl := jTbl_in (k := 1143) (by decide +kernel) rfl
theorem cd_X7_opens : Cond.code yX7_opens cX7_opens 2 none ∈ jTbl := jTbl_in (k := 1159) (by decide +kernel) rfl
theorem cd_X7_partsBy : Cond.code yX7_partsBy cX7_partsBy 4 (some .int) ∈ jTbl := jTbl_in (k := 1374) (by decide +kernel) rfl
theorem cd_X7_pictures : Cond.code yX7_pictures cX7_pictures 4 (some .int) ∈ jTbl := jTbl_in (k := 1105) (by decide +kernel) rfl
theorem cd_X7_place : Cond.code yX7_place cX7_place 3 (some .long) ∈ jTbl := jTbl_in (k := 1247) (by decide +kernel) rfl
theorem cd_X7_plainParts : Cond.code yX7_plainParts cX7_plainParts 4 (some .int) ∈ jTbl := jTbl_in (k := 1378) (by decide +kernel) rfl
theorem cd_X7_plainSays : Cond.code yX7_plainSays cX7_plainSays 3 (some .int) ∈ jTbl := jTbl_in (k := 1362) (by decide +kernel) rfl
theorem cd_X7_plainTies : Cond.code yX7_plainTies cX7_plainTies 3 (some .int) ∈ jTbl := jTbl_in (k := 1370) (by decide +kernel) rfl
theorem cd_X7_plainWeighs : Cond.code yX7_plainWeighs cX7_plainWeighs 3 (some .int) ∈ jTbl := jTbl_in (k := 1350) (by decide +kernel) rfl
theorem cd_X7_put : Cond.code yX7_put cX7_put 5 (some .int) ∈ jTbl := jTbl_in (k := 1391) (by decide +kernel) rfl
theorem cd_X7_puts : Cond.code yX7_puts cX7_puts 4 none ∈ jTbl := jTbl_in (k := 1034) (by decide +kernel) rfl
theorem cd_X7_putsBack : Cond.code yX7_putsBack cX7_putsBack 1 none ∈ jTbl := jTbl_in (k := 1296) (by decide +kernel) rfl
theorem cd_X7_readBy : Cond.code yX7_readBy cX7_readBy 3 (some .int) ∈ jTbl := jTbl_in (k := 1080) (by decide +kernel) rfl
theorem cd_X7_restore : Cond.code yX7_restore cX7_restore 1 (some .int) ∈ jTbl := jTbl_in (k := 1419) (by decide +kernel) rfl
theorem cd_X7_round : Cond.code yX7_round cX7_round 2 (some .int) ∈ jTbl := jTbl_in (k := 1239) (by decide +kernel) rfl
theorem cd_X7_rounds : Cond.code yX7_rounds cX7_rounds 2 (some .int) ∈ jTbl := jTbl_in (k := 1175) (by decide +kernel) rfl
theorem cd_X7_says : Cond.code yX7_says cX7_says 3 (some .int) ∈ jTbl := jTbl_in (k := 1354) (by decide +kernel) rfl
theorem cd_X7_saysOf : Cond.code yX7_saysOf cX7_saysOf 2 (some .int) ∈ jTbl := jTbl_in (k := 1076) (by decide +kernel) rfl
theorem cd_X7_seed : Cond.code yX7_seed cX7_seed 2 (some .int) ∈ jTbl := jTbl_in (k := 1243) (by decide +kernel) rfl
theorem cd_X7_sheet : Cond.code yX7_sheet cX7_sheet 5 (some .int) ∈ jTbl := jTbl_in (k := 1387) (by decide +kernel) rfl
theorem cd_X7_soonest : Cond.code yX7_soonest cX7_soonest 3 (some .int) ∈ jTbl := jTbl_in (k := 1300) (by decide +kernel) rfl
theorem cd_X7_spine : Cond.code yX7_spine cX7_spine 5 (some .int) ∈ jTbl := jTbl_in (k := 1277) (by decide +kernel) rfl
theorem cd_X7_starSays : Cond.code yX7_starSays cX7_starSays 3 (some .int) ∈ jTbl := jTbl_in (k := 1358) (by decide +kernel) rfl
theorem cd_X7_sum : Cond.code yX7_sum cX7_sum 2 (some .long) ∈ jTbl := jTbl_in (k := 1261) (by decide +kernel) rfl
theorem cd_X7_sumBy : Cond.code yX7_sumBy cX7_sumBy 2 none ∈ jTbl := jTbl_in (k := 1135) (by decide +kernel) rfl
theorem cd_X7_tell : Cond.code yX7_tell cX7_tell 2 (some .int) ∈ jTbl := jTbl_in (k := 1423) (by decide +kernel) rfl
theorem cd_X7_tells : Cond.code yX7_tells cX7_tells 4 (some .int) ∈ jTbl := jTbl_in (k := 1407) (by decide +kernel) rfl
theorem cd_X7_text : Cond.code yX7_text cX7_text 4 (some .int) ∈ jTbl := jTbl_in (k := 1119) (by decide +kernel) rfl
theorem cd_X7_then : Cond.code yX7_then cX7_then 4 (some .int) ∈ jTbl := jTbl_in (k := 1285) (by decide +kernel) rfl
theorem cd_X7_thinks : Cond.code yX7_thinks cX7_thinks 1 none ∈ jTbl := jTbl_in (k := 1289) (by decide +kernel) rfl
theorem cd_X7_tiedBy : Cond.code yX7_tiedBy cX7_tiedBy 7 (some .int) ∈ jTbl := jTbl_in (k := 1199) (by decide +kernel) rfl
theorem cd_X7_ties : Cond.code yX7_ties cX7_ties 3 (some .int) ∈ jTbl := jTbl_in (k := 1366) (by decide +kernel) rfl
theorem cd_X7_times : Cond.code yX7_times cX7_times 2 none ∈ jTbl := jTbl_in (k := 1139) (by decide +kernel) rfl
theorem cd_X7_told : Cond.code yX7_told cX7_told 2 (some .int) ∈ jTbl := jTbl_in (k := 1435) (by decide +kernel) rfl
theorem cd_X7_toldFor : Cond.code yX7_toldFor cX7_toldFor 10 (some .int) ∈ jTbl := jTbl_in (k := 1313) (by decide +kernel) rfl
theorem cd_X7_touching : Cond.code yX7_touching cX7_touching 5 (some .int) ∈ jTbl := jTbl_in (k := 1058) (by decide +kernel) rfl
theorem cd_X7_twoOf : Cond.code yX7_twoOf cX7_twoOf 3 (some .int) ∈ jTbl := jTbl_in (k := 1069) (by decide +kernel) rfl
theorem cd_X7_untell : Cond.code yX7_untell cX7_untell 2 (some .int) ∈ jTbl := jTbl_in (k := 1167) (by decide +kernel) rfl
theorem cd_X7_voice : Cond.code yX7_voice cX7_voice 5 (some .int) ∈ jTbl := jTbl_in (k := 1334) (by decide +kernel) rfl
theorem cd_X7_weighs : Cond.code yX7_weighs cX7_weighs 3 (some .int) ∈ jTbl := jTbl_in (k := 1338) (by decide +kernel) rfl
theorem cd_X7_weighsBy : Cond.code yX7_weighsBy cX7_weighsBy 3 (some .int) ∈ jTbl := jTbl_in (k := 1054) (by decide +kernel) rfl
theorem cd_X7_weight : Cond.code yX7_weight cX7_weight 2 (some .int) ∈ jTbl := jTbl_in (k := 1050) (by decide +kernel) rfl
theorem cd_X7_weightOf : Cond.code yX7_weightOf cX7_weightOf 4 (some .int) ∈ jTbl := jTbl_in (k := 1281) (by decide +kernel) rfl
theorem cd_X7_works : Cond.code yX7_works cX7_works 5 (some .int) ∈ jTbl := jTbl_in (k := 1066) (by decide +kernel) rfl
theorem cd_J6_bitCount_0f7a4 : Cond.code yJ6_bitCount_0f7a4 cJ6_bitCount_0f7a4 1 (some .int) ∈ jTbl := jTbl_in (k := 717) (by decide +kernel) rfl
theorem cd_J0_indexOf_0f7a4 : Cond.code yJ0_indexOf_0f7a4 cJ0_indexOf_0f7a4 2 (some .int) ∈ jTbl := jTbl_in (k := 554) (by decide +kernel) rfl
theorem cm_mmax : Cond.code Lib.Math.max.name Lib.Math.max.code 2 (some .int) ∈ jTbl := jTbl_in (k := 451) (by decide +kernel) rfl
theorem sm_mmax : Cond.static Lib.Math.max.name ∈ jTbl := jTbl_in (k := 450) (by decide +kernel) rfl
theorem cm_mmin : Cond.code Lib.Math.min.name Lib.Math.min.code 2 (some .int) ∈ jTbl := jTbl_in (k := 445) (by decide +kernel) rfl
theorem sm_mmin : Cond.static Lib.Math.min.name ∈ jTbl := jTbl_in (k := 444) (by decide +kernel) rfl
theorem cm_mmaxL : Cond.code Lib.MathLoose.max_long.x Lib.MathLoose.max_long.code 4 (some .long) ∈ jTbl := jTbl_in (k := 818) (by decide +kernel) rfl
theorem sm_mmaxL : Cond.static Lib.MathLoose.max_long.x ∈ jTbl := jTbl_in (k := 817) (by decide +kernel) rfl
theorem cm_mabsL : Cond.code Lib.MathLoose.abs_long.x Lib.MathLoose.abs_long.code 2 (some .long) ∈ jTbl := jTbl_in (k := 712) (by decide +kernel) rfl
theorem sm_mabsL : Cond.static Lib.MathLoose.abs_long.x ∈ jTbl := jTbl_in (k := 711) (by decide +kernel) rfl
theorem im_Math : Cond.initialized "java/lang/Math" ∈ jTbl := jTbl_in (k := 117) (by decide +kernel) rfl
theorem ac_2 : Cond.native arraycopyName ∈ jTbl := jTbl_in (k := 642) (by decide +kernel) rfl
theorem ac_3 : Cond.static arraycopyName ∈ jTbl := jTbl_in (k := 641) (by decide +kernel) rfl
theorem ac_4 : Cond.initialized "java/lang/System" ∈ jTbl := jTbl_in (k := 123) (by decide +kernel) rfl
