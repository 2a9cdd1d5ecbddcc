/-! ===== constructors: facts ===== -/
/-! constructors: what their instructions link -/
theorem kz_oI : Cond.instanceMethod Lib.objectInit ∈ jTbl := jTbl_in (k := 131) (by decide +kernel) rfl
theorem kz_oC : Cond.code Lib.objectInit ⟨#[0xb1]⟩ 1 none ∈ jTbl := jTbl_in (k := 132) (by decide +kernel) rfl
theorem kz_aint : Cond.arrayClass .int ∈ jTbl := jTbl_in (k := 169) (by decide +kernel) rfl
theorem kz_along : Cond.arrayClass .long ∈ jTbl := jTbl_in (k := 303) (by decide +kernel) rfl
theorem kz_i0 : Cond.instantiable RX0 17 ∈ jTbl := jTbl_in (k := 134) (by decide +kernel) rfl
theorem kz_n0 : Cond.initialized RX0 ∈ jTbl := jTbl_in (k := 110) (by decide +kernel) rfl
theorem kz_i1 : Cond.instantiable RX1 5 ∈ jTbl := jTbl_in (k := 278) (by decide +kernel) rfl
theorem kz_n1 : Cond.initialized RX1 ∈ jTbl := jTbl_in (k := 113) (by decide +kernel) rfl
theorem kz_i2 : Cond.instantiable RX2 6 ∈ jTbl := jTbl_in (k := 250) (by decide +kernel) rfl
theorem kz_n2 : Cond.initialized RX2 ∈ jTbl := jTbl_in (k := 112) (by decide +kernel) rfl
theorem kz_i3 : Cond.instantiable RX3 3 ∈ jTbl := jTbl_in (k := 333) (by decide +kernel) rfl
theorem kz_n3 : Cond.initialized RX3 ∈ jTbl := jTbl_in (k := 115) (by decide +kernel) rfl
theorem kz_i4 : Cond.instantiable RX4 6 ∈ jTbl := jTbl_in (k := 141) (by decide +kernel) rfl
theorem kz_n4 : Cond.initialized RX4 ∈ jTbl := jTbl_in (k := 111) (by decide +kernel) rfl
theorem kz_i5 : Cond.instantiable RX5 6 ∈ jTbl := jTbl_in (k := 305) (by decide +kernel) rfl
theorem kz_n5 : Cond.initialized RX5 ∈ jTbl := jTbl_in (k := 114) (by decide +kernel) rfl
theorem kz_i6 : Cond.instantiable RX6 9 ∈ jTbl := jTbl_in (k := 126) (by decide +kernel) rfl
theorem kz_n6 : Cond.initialized RX6 ∈ jTbl := jTbl_in (k := 109) (by decide +kernel) rfl
theorem kz_i7 : Cond.instantiable RX7 24 ∈ jTbl := jTbl_in (k := 932) (by decide +kernel) rfl
theorem kz_n7 : Cond.initialized RX7 ∈ jTbl := jTbl_in (k := 116) (by decide +kernel) rfl
theorem kz_o_6 : Cond.methodLink RX6 3 Lib.objectInit ∈ jTbl := jTbl_in (k := 130) (by decide +kernel) rfl
theorem kz_c_6_9 : Cond.classLink RX6 9 RX0 ∈ jTbl := jTbl_in (k := 133) (by decide +kernel) rfl
theorem kz_l_6_11 : kzL RX6 11 yX0_init 0 := ⟨⟨⟨by decide +kernel, by decide +kernel, by decide +kernel⟩, kz_n0, Or.inr ⟨"PictureBlock", jNest_in (k := 135) (by decide +kernel) rfl⟩⟩, jTbl_in (k := 136) (by decide +kernel) rfl, rfl⟩
theorem kz_f_6_12 : kzF RX6 12 6 0 (.object "PictureBlock$Block") true := ⟨RX6, TX6, 9, tyX6, rfl, by decide, ju6, rfl, jTbl_in (k := 353) (by decide +kernel) rfl, tyX6_ok, nmX6, rfl, by decide +kernel, rfl⟩
theorem kz_f_6_16 : kzF RX6 16 6 1 (.object "PictureBlock$Block") true := ⟨RX6, TX6, 9, tyX6, rfl, by decide, ju6, rfl, jTbl_in (k := 354) (by decide +kernel) rfl, tyX6_ok, nmX6, rfl, by decide +kernel, rfl⟩
theorem kz_f_6_19 : kzF RX6 19 6 2 (.object "PictureBlock$Block") true := ⟨RX6, TX6, 9, tyX6, rfl, by decide, ju6, rfl, jTbl_in (k := 355) (by decide +kernel) rfl, tyX6_ok, nmX6, rfl, by decide +kernel, rfl⟩
theorem kz_c_6_22 : Cond.classLink RX6 22 RX2 ∈ jTbl := jTbl_in (k := 249) (by decide +kernel) rfl
theorem kz_l_6_28 : kzL RX6 28 yX2_init 1 := ⟨⟨⟨by decide +kernel, by decide +kernel, by decide +kernel⟩, kz_n2, Or.inr ⟨"PictureBlock", jNest_in (k := 251) (by decide +kernel) rfl⟩⟩, jTbl_in (k := 252) (by decide +kernel) rfl, rfl⟩
theorem kz_f_6_31 : kzF RX6 31 6 3 (.object "PictureBlock$Reader") true := ⟨RX6, TX6, 9, tyX6, rfl, by decide, ju6, rfl, jTbl_in (k := 356) (by decide +kernel) rfl, tyX6_ok, nmX6, rfl, by decide +kernel, rfl⟩
theorem kz_c_6_35 : Cond.classLink RX6 35 RX1 ∈ jTbl := jTbl_in (k := 277) (by decide +kernel) rfl
theorem kz_l_6_37 : kzL RX6 37 yX1_init 0 := ⟨⟨⟨by decide +kernel, by decide +kernel, by decide +kernel⟩, kz_n1, Or.inr ⟨"PictureBlock", jNest_in (k := 279) (by decide +kernel) rfl⟩⟩, jTbl_in (k := 280) (by decide +kernel) rfl, rfl⟩
theorem kz_f_6_38 : kzF RX6 38 6 4 (.object "PictureBlock$Places") true := ⟨RX6, TX6, 9, tyX6, rfl, by decide, ju6, rfl, jTbl_in (k := 357) (by decide +kernel) rfl, tyX6_ok, nmX6, rfl, by decide +kernel, rfl⟩
theorem kz_c_6_42 : Cond.classLink RX6 42 RX5 ∈ jTbl := jTbl_in (k := 304) (by decide +kernel) rfl
theorem kz_l_6_44 : kzL RX6 44 yX5_init 0 := ⟨⟨⟨by decide +kernel, by decide +kernel, by decide +kernel⟩, kz_n5, Or.inr ⟨"PictureBlock", jNest_in (k := 306) (by decide +kernel) rfl⟩⟩, jTbl_in (k := 307) (by decide +kernel) rfl, rfl⟩
theorem kz_f_6_45 : kzF RX6 45 6 5 (.object "PictureBlock$Voices") true := ⟨RX6, TX6, 9, tyX6, rfl, by decide, ju6, rfl, jTbl_in (k := 358) (by decide +kernel) rfl, tyX6_ok, nmX6, rfl, by decide +kernel, rfl⟩
theorem kz_c_6_49 : Cond.classLink RX6 49 RX3 ∈ jTbl := jTbl_in (k := 332) (by decide +kernel) rfl
theorem kz_l_6_51 : kzL RX6 51 yX3_init 0 := ⟨⟨⟨by decide +kernel, by decide +kernel, by decide +kernel⟩, kz_n3, Or.inr ⟨"PictureBlock", jNest_in (k := 334) (by decide +kernel) rfl⟩⟩, jTbl_in (k := 335) (by decide +kernel) rfl, rfl⟩
theorem kz_f_6_52 : kzF RX6 52 6 6 (.object "PictureBlock$Sheets") true := ⟨RX6, TX6, 9, tyX6, rfl, by decide, ju6, rfl, jTbl_in (k := 359) (by decide +kernel) rfl, tyX6_ok, nmX6, rfl, by decide +kernel, rfl⟩
theorem kz_f_6_56 : kzF RX6 56 6 7 (.array .int) true := ⟨RX6, TX6, 9, tyX6, rfl, by decide, ju6, rfl, jTbl_in (k := 360) (by decide +kernel) rfl, tyX6_ok, nmX6, rfl, by decide +kernel, rfl⟩
theorem kz_o_7 : Cond.methodLink RX7 3 Lib.objectInit ∈ jTbl := jTbl_in (k := 936) (by decide +kernel) rfl
theorem kz_f_7_9 : kzF RX7 9 7 0 (.array .int) true := ⟨RX7, TX7, 24, tyX7, rfl, by decide, ju7, rfl, jTbl_in (k := 937) (by decide +kernel) rfl, tyX7_ok, nmX7, rfl, by decide +kernel, rfl⟩
theorem kz_f_7_13 : kzF RX7 13 7 1 (.array .int) true := ⟨RX7, TX7, 24, tyX7, rfl, by decide, ju7, rfl, jTbl_in (k := 938) (by decide +kernel) rfl, tyX7_ok, nmX7, rfl, by decide +kernel, rfl⟩
theorem kz_f_7_16 : kzF RX7 16 7 2 (.array .int) true := ⟨RX7, TX7, 24, tyX7, rfl, by decide, ju7, rfl, jTbl_in (k := 939) (by decide +kernel) rfl, tyX7_ok, nmX7, rfl, by decide +kernel, rfl⟩
theorem kz_f_7_19 : kzF RX7 19 7 4 (.array .int) true := ⟨RX7, TX7, 24, tyX7, rfl, by decide, ju7, rfl, jTbl_in (k := 941) (by decide +kernel) rfl, tyX7_ok, nmX7, rfl, by decide +kernel, rfl⟩
theorem kz_f_7_22 : kzF RX7 22 7 5 (.array .int) true := ⟨RX7, TX7, 24, tyX7, rfl, by decide, ju7, rfl, jTbl_in (k := 942) (by decide +kernel) rfl, tyX7_ok, nmX7, rfl, by decide +kernel, rfl⟩
theorem kz_f_7_25 : kzF RX7 25 7 6 (.array .int) true := ⟨RX7, TX7, 24, tyX7, rfl, by decide, ju7, rfl, jTbl_in (k := 943) (by decide +kernel) rfl, tyX7_ok, nmX7, rfl, by decide +kernel, rfl⟩
theorem kz_f_7_28 : kzF RX7 28 7 7 (.array .int) true := ⟨RX7, TX7, 24, tyX7, rfl, by decide, ju7, rfl, jTbl_in (k := 944) (by decide +kernel) rfl, tyX7_ok, nmX7, rfl, by decide +kernel, rfl⟩
theorem kz_f_7_31 : kzF RX7 31 7 8 (.array .long) true := ⟨RX7, TX7, 24, tyX7, rfl, by decide, ju7, rfl, jTbl_in (k := 945) (by decide +kernel) rfl, tyX7_ok, nmX7, rfl, by decide +kernel, rfl⟩
theorem kz_f_7_35 : kzF RX7 35 7 9 (.array .long) true := ⟨RX7, TX7, 24, tyX7, rfl, by decide, ju7, rfl, jTbl_in (k := 946) (by decide +kernel) rfl, tyX7_ok, nmX7, rfl, by decide +kernel, rfl⟩
theorem kz_f_7_38 : kzF RX7 38 7 10 (.array .long) true := ⟨RX7, TX7, 24, tyX7, rfl, by decide, ju7, rfl, jTbl_in (k := 947) (by decide +kernel) rfl, tyX7_ok, nmX7, rfl, by decide +kernel, rfl⟩
theorem kz_f_7_41 : kzF RX7 41 7 12 (.array .int) true := ⟨RX7, TX7, 24, tyX7, rfl, by decide, ju7, rfl, jTbl_in (k := 949) (by decide +kernel) rfl, tyX7_ok, nmX7, rfl, by decide +kernel, rfl⟩
theorem kz_f_7_44 : kzF RX7 44 7 13 (.array .int) true := ⟨RX7, TX7, 24, tyX7, rfl, by decide, ju7, rfl, jTbl_in (k := 950) (by decide +kernel) rfl, tyX7_ok, nmX7, rfl, by decide +kernel, rfl⟩
theorem kz_f_7_47 : kzF RX7 47 7 14 (.array .int) true := ⟨RX7, TX7, 24, tyX7, rfl, by decide, ju7, rfl, jTbl_in (k := 951) (by decide +kernel) rfl, tyX7_ok, nmX7, rfl, by decide +kernel, rfl⟩
theorem kz_f_7_50 : kzF RX7 50 7 15 (.array .int) true := ⟨RX7, TX7, 24, tyX7, rfl, by decide, ju7, rfl, jTbl_in (k := 952) (by decide +kernel) rfl, tyX7_ok, nmX7, rfl, by decide +kernel, rfl⟩
theorem kz_f_7_53 : kzF RX7 53 7 21 (.array .int) true := ⟨RX7, TX7, 24, tyX7, rfl, by decide, ju7, rfl, jTbl_in (k := 958) (by decide +kernel) rfl, tyX7_ok, nmX7, rfl, by decide +kernel, rfl⟩
theorem kz_o_0 : Cond.methodLink RX0 3 Lib.objectInit ∈ jTbl := jTbl_in (k := 138) (by decide +kernel) rfl
theorem kz_f_0_9 : kzF RX0 9 0 0 (.array .int) true := ⟨RX0, TX0, 17, tyX0, rfl, by decide, ju0, rfl, jTbl_in (k := 172) (by decide +kernel) rfl, tyX0_ok, nmX0, rfl, by decide +kernel, rfl⟩
theorem kz_f_0_15 : kzF RX0 15 0 1 (.array .int) true := ⟨RX0, TX0, 17, tyX0, rfl, by decide, ju0, rfl, jTbl_in (k := 174) (by decide +kernel) rfl, tyX0_ok, nmX0, rfl, by decide +kernel, rfl⟩
theorem kz_f_0_18 : kzF RX0 18 0 2 (.array .int) true := ⟨RX0, TX0, 17, tyX0, rfl, by decide, ju0, rfl, jTbl_in (k := 176) (by decide +kernel) rfl, tyX0_ok, nmX0, rfl, by decide +kernel, rfl⟩
theorem kz_f_0_21 : kzF RX0 21 0 3 (.array .int) true := ⟨RX0, TX0, 17, tyX0, rfl, by decide, ju0, rfl, jTbl_in (k := 179) (by decide +kernel) rfl, tyX0_ok, nmX0, rfl, by decide +kernel, rfl⟩
theorem kz_f_0_24 : kzF RX0 24 0 4 (.array .int) true := ⟨RX0, TX0, 17, tyX0, rfl, by decide, ju0, rfl, jTbl_in (k := 182) (by decide +kernel) rfl, tyX0_ok, nmX0, rfl, by decide +kernel, rfl⟩
theorem kz_f_0_27 : kzF RX0 27 0 5 (.array .int) true := ⟨RX0, TX0, 17, tyX0, rfl, by decide, ju0, rfl, jTbl_in (k := 185) (by decide +kernel) rfl, tyX0_ok, nmX0, rfl, by decide +kernel, rfl⟩
theorem kz_f_0_30 : kzF RX0 30 0 6 (.array .int) true := ⟨RX0, TX0, 17, tyX0, rfl, by decide, ju0, rfl, jTbl_in (k := 186) (by decide +kernel) rfl, tyX0_ok, nmX0, rfl, by decide +kernel, rfl⟩
theorem kz_c_0_33 : Cond.classLink RX0 33 RX4 ∈ jTbl := jTbl_in (k := 139) (by decide +kernel) rfl
theorem kz_l_0_37 : kzL RX0 37 yX4_init 3 := ⟨⟨⟨by decide +kernel, by decide +kernel, by decide +kernel⟩, kz_n4, Or.inr ⟨"PictureBlock", jNest_in (k := 143) (by decide +kernel) rfl⟩⟩, jTbl_in (k := 144) (by decide +kernel) rfl, rfl⟩
theorem kz_f_0_42 : kzF RX0 42 0 7 (.array (.object "PictureBlock$Text")) true := ⟨RX0, TX0, 17, tyX0, rfl, by decide, ju0, rfl, jTbl_in (k := 188) (by decide +kernel) rfl, tyX0_ok, nmX0, rfl, by decide +kernel, rfl⟩
theorem kz_f_0_46 : kzF RX0 46 0 10 .int false := ⟨RX0, TX0, 17, tyX0, rfl, by decide, ju0, rfl, jTbl_in (k := 196) (by decide +kernel) rfl, tyX0_ok, nmX0, rfl, by decide +kernel, rfl⟩
theorem kz_f_0_50 : kzF RX0 50 0 12 .int false := ⟨RX0, TX0, 17, tyX0, rfl, by decide, ju0, rfl, jTbl_in (k := 202) (by decide +kernel) rfl, tyX0_ok, nmX0, rfl, by decide +kernel, rfl⟩
theorem kz_f_0_53 : kzF RX0 53 0 14 .int false := ⟨RX0, TX0, 17, tyX0, rfl, by decide, ju0, rfl, jTbl_in (k := 208) (by decide +kernel) rfl, tyX0_ok, nmX0, rfl, by decide +kernel, rfl⟩
theorem kz_o_1 : Cond.methodLink RX1 3 Lib.objectInit ∈ jTbl := jTbl_in (k := 282) (by decide +kernel) rfl
theorem kz_c_1_9 : Cond.classLink RX1 9 ("[" ++ (FieldType.array .long).toString) ∈ jTbl := jTbl_in (k := 283) (by decide +kernel) rfl
theorem kz_f_1_11 : kzF RX1 11 1 0 (.array (.array .long)) true := ⟨RX1, TX1, 5, tyX1, rfl, by decide, ju1, rfl, jTbl_in (k := 285) (by decide +kernel) rfl, tyX1_ok, nmX1, rfl, by decide +kernel, rfl⟩
theorem kz_f_1_16 : kzF RX1 16 1 1 (.array .long) true := ⟨RX1, TX1, 5, tyX1, rfl, by decide, ju1, rfl, jTbl_in (k := 286) (by decide +kernel) rfl, tyX1_ok, nmX1, rfl, by decide +kernel, rfl⟩
theorem kz_f_1_20 : kzF RX1 20 1 2 (.array .int) true := ⟨RX1, TX1, 5, tyX1, rfl, by decide, ju1, rfl, jTbl_in (k := 288) (by decide +kernel) rfl, tyX1_ok, nmX1, rfl, by decide +kernel, rfl⟩
theorem kz_f_1_24 : kzF RX1 24 1 3 (.array .int) true := ⟨RX1, TX1, 5, tyX1, rfl, by decide, ju1, rfl, jTbl_in (k := 289) (by decide +kernel) rfl, tyX1_ok, nmX1, rfl, by decide +kernel, rfl⟩
theorem kz_f_1_27 : kzF RX1 27 1 4 .long false := ⟨RX1, TX1, 5, tyX1, rfl, by decide, ju1, rfl, jTbl_in (k := 290) (by decide +kernel) rfl, tyX1_ok, nmX1, rfl, by decide +kernel, rfl⟩
theorem kz_o_2 : Cond.methodLink RX2 3 Lib.objectInit ∈ jTbl := jTbl_in (k := 254) (by decide +kernel) rfl
theorem kz_f_2_9 : kzF RX2 9 2 1 (.array .int) true := ⟨RX2, TX2, 6, tyX2, rfl, by decide, ju2, rfl, jTbl_in (k := 257) (by decide +kernel) rfl, tyX2_ok, nmX2, rfl, by decide +kernel, rfl⟩
theorem kz_f_2_17 : kzF RX2 17 2 5 (.object "java/lang/String") false := ⟨RX2, TX2, 6, tyX2, rfl, by decide, ju2, rfl, jTbl_in (k := 263) (by decide +kernel) rfl, tyX2_ok, nmX2, rfl, by decide +kernel, rfl⟩
theorem kz_f_2_21 : kzF RX2 21 2 0 (.array .int) true := ⟨RX2, TX2, 6, tyX2, rfl, by decide, ju2, rfl, jTbl_in (k := 256) (by decide +kernel) rfl, tyX2_ok, nmX2, rfl, by decide +kernel, rfl⟩
theorem kz_o_3 : Cond.methodLink RX3 3 Lib.objectInit ∈ jTbl := jTbl_in (k := 337) (by decide +kernel) rfl
theorem kz_c_3_9 : Cond.classLink RX3 9 ("[" ++ (FieldType.array .int).toString) ∈ jTbl := jTbl_in (k := 338) (by decide +kernel) rfl
theorem kz_f_3_11 : kzF RX3 11 3 0 (.array (.array .int)) true := ⟨RX3, TX3, 3, tyX3, rfl, by decide, ju3, rfl, jTbl_in (k := 340) (by decide +kernel) rfl, tyX3_ok, nmX3, rfl, by decide +kernel, rfl⟩
theorem kz_f_3_16 : kzF RX3 16 3 1 (.array .int) true := ⟨RX3, TX3, 3, tyX3, rfl, by decide, ju3, rfl, jTbl_in (k := 342) (by decide +kernel) rfl, tyX3_ok, nmX3, rfl, by decide +kernel, rfl⟩
theorem kz_f_3_20 : kzF RX3 20 3 2 (.array .int) true := ⟨RX3, TX3, 3, tyX3, rfl, by decide, ju3, rfl, jTbl_in (k := 344) (by decide +kernel) rfl, tyX3_ok, nmX3, rfl, by decide +kernel, rfl⟩
theorem kz_o_4 : Cond.methodLink RX4 3 Lib.objectInit ∈ jTbl := jTbl_in (k := 146) (by decide +kernel) rfl
theorem kz_f_4_9 : kzF RX4 9 4 3 (.array .int) true := ⟨RX4, TX4, 6, tyX4, rfl, by decide, ju4, rfl, jTbl_in (k := 151) (by decide +kernel) rfl, tyX4_ok, nmX4, rfl, by decide +kernel, rfl⟩
theorem kz_f_4_15 : kzF RX4 15 4 4 (.array .int) true := ⟨RX4, TX4, 6, tyX4, rfl, by decide, ju4, rfl, jTbl_in (k := 153) (by decide +kernel) rfl, tyX4_ok, nmX4, rfl, by decide +kernel, rfl⟩
theorem kz_f_4_18 : kzF RX4 18 4 0 (.object "java/lang/String") true := ⟨RX4, TX4, 6, tyX4, rfl, by decide, ju4, rfl, jTbl_in (k := 147) (by decide +kernel) rfl, tyX4_ok, nmX4, rfl, by decide +kernel, rfl⟩
theorem kz_f_4_22 : kzF RX4 22 4 1 .int true := ⟨RX4, TX4, 6, tyX4, rfl, by decide, ju4, rfl, jTbl_in (k := 149) (by decide +kernel) rfl, tyX4_ok, nmX4, rfl, by decide +kernel, rfl⟩
theorem kz_f_4_26 : kzF RX4 26 4 2 .int true := ⟨RX4, TX4, 6, tyX4, rfl, by decide, ju4, rfl, jTbl_in (k := 150) (by decide +kernel) rfl, tyX4_ok, nmX4, rfl, by decide +kernel, rfl⟩
theorem kz_o_5 : Cond.methodLink RX5 3 Lib.objectInit ∈ jTbl := jTbl_in (k := 309) (by decide +kernel) rfl
theorem kz_f_5_9 : kzF RX5 9 5 0 (.array .int) true := ⟨RX5, TX5, 6, tyX5, rfl, by decide, ju5, rfl, jTbl_in (k := 310) (by decide +kernel) rfl, tyX5_ok, nmX5, rfl, by decide +kernel, rfl⟩
theorem kz_c_L_7 : Cond.classLink RL 7 RX6 ∈ jTbl := jTbl_in (k := 125) (by decide +kernel) rfl
theorem kz_l_L_9 : kzL RL 9 yX6_init 0 := ⟨⟨⟨by decide +kernel, by decide +kernel, by decide +kernel⟩, kz_n6, Or.inl (jTbl_in (k := 127) (by decide +kernel) rfl)⟩, jTbl_in (k := 128) (by decide +kernel) rfl, rfl⟩
theorem kz_c_L_10 : Cond.classLink RL 10 RX7 ∈ jTbl := jTbl_in (k := 931) (by decide +kernel) rfl
theorem kz_l_L_12 : kzL RL 12 yX7_init 0 := ⟨⟨⟨by decide +kernel, by decide +kernel, by decide +kernel⟩, kz_n7, Or.inl (jTbl_in (k := 933) (by decide +kernel) rfl)⟩, jTbl_in (k := 934) (by decide +kernel) rfl, rfl⟩
theorem kz_d0 : Cond.code yX0_init cX0_init 1 none ∈ jTbl := jTbl_in (k := 137) (by decide +kernel) rfl
theorem kz_d1 : Cond.code yX1_init cX1_init 1 none ∈ jTbl := jTbl_in (k := 281) (by decide +kernel) rfl
theorem kz_d2 : Cond.code yX2_init cX2_init 2 none ∈ jTbl := jTbl_in (k := 253) (by decide +kernel) rfl
theorem kz_d3 : Cond.code yX3_init cX3_init 1 none ∈ jTbl := jTbl_in (k := 336) (by decide +kernel) rfl
theorem kz_d4 : Cond.code yX4_init cX4_init 4 none ∈ jTbl := jTbl_in (k := 145) (by decide +kernel) rfl
theorem kz_d5 : Cond.code yX5_init cX5_init 1 none ∈ jTbl := jTbl_in (k := 308) (by decide +kernel) rfl
theorem kz_d6 : Cond.code yX6_init cX6_init 1 none ∈ jTbl := jTbl_in (k := 129) (by decide +kernel) rfl
theorem kz_d7 : Cond.code yX7_init cX7_init 1 none ∈ jTbl := jTbl_in (k := 935) (by decide +kernel) rfl
