theorem cb_m100 : (Int8.ofInt (-100)).toInt32 = (-100 : Int32) := by decide +kernel
theorem cb_m20 : (Int8.ofInt (-20)).toInt32 = (-20 : Int32) := by decide +kernel
theorem cb_m14 : (Int8.ofInt (-14)).toInt32 = (-14 : Int32) := by decide +kernel
theorem cb_m13 : (Int8.ofInt (-13)).toInt32 = (-13 : Int32) := by decide +kernel
theorem cb_m12 : (Int8.ofInt (-12)).toInt32 = (-12 : Int32) := by decide +kernel
theorem cb_m11 : (Int8.ofInt (-11)).toInt32 = (-11 : Int32) := by decide +kernel
theorem cb_m4 : (Int8.ofInt (-4)).toInt32 = (-4 : Int32) := by decide +kernel
theorem cb_m3 : (Int8.ofInt (-3)).toInt32 = (-3 : Int32) := by decide +kernel
theorem cb_m2 : (Int8.ofInt (-2)).toInt32 = (-2 : Int32) := by decide +kernel
theorem cb_6 : (Int8.ofInt 6).toInt32 = (6 : Int32) := by decide +kernel
theorem cb_7 : (Int8.ofInt 7).toInt32 = (7 : Int32) := by decide +kernel
theorem cb_8 : (Int8.ofInt 8).toInt32 = (8 : Int32) := by decide +kernel
theorem cb_9 : (Int8.ofInt 9).toInt32 = (9 : Int32) := by decide +kernel
theorem cb_10 : (Int8.ofInt 10).toInt32 = (10 : Int32) := by decide +kernel
theorem cb_12 : (Int8.ofInt 12).toInt32 = (12 : Int32) := by decide +kernel
theorem cb_16 : (Int8.ofInt 16).toInt32 = (16 : Int32) := by decide +kernel
theorem cb_20 : (Int8.ofInt 20).toInt32 = (20 : Int32) := by decide +kernel
theorem cb_21 : (Int8.ofInt 21).toInt32 = (21 : Int32) := by decide +kernel
theorem cb_24 : (Int8.ofInt 24).toInt32 = (24 : Int32) := by decide +kernel
theorem cb_30 : (Int8.ofInt 30).toInt32 = (30 : Int32) := by decide +kernel
theorem cb_32 : (Int8.ofInt 32).toInt32 = (32 : Int32) := by decide +kernel
theorem cb_33 : (Int8.ofInt 33).toInt32 = (33 : Int32) := by decide +kernel
theorem cb_38 : (Int8.ofInt 38).toInt32 = (38 : Int32) := by decide +kernel
theorem cb_39 : (Int8.ofInt 39).toInt32 = (39 : Int32) := by decide +kernel
theorem cb_40 : (Int8.ofInt 40).toInt32 = (40 : Int32) := by decide +kernel
theorem cb_41 : (Int8.ofInt 41).toInt32 = (41 : Int32) := by decide +kernel
theorem cb_47 : (Int8.ofInt 47).toInt32 = (47 : Int32) := by decide +kernel
theorem cb_48 : (Int8.ofInt 48).toInt32 = (48 : Int32) := by decide +kernel
theorem cb_57 : (Int8.ofInt 57).toInt32 = (57 : Int32) := by decide +kernel
theorem cb_58 : (Int8.ofInt 58).toInt32 = (58 : Int32) := by decide +kernel
theorem cb_59 : (Int8.ofInt 59).toInt32 = (59 : Int32) := by decide +kernel
theorem cb_60 : (Int8.ofInt 60).toInt32 = (60 : Int32) := by decide +kernel
theorem cb_61 : (Int8.ofInt 61).toInt32 = (61 : Int32) := by decide +kernel
theorem cb_62 : (Int8.ofInt 62).toInt32 = (62 : Int32) := by decide +kernel
theorem cb_63 : (Int8.ofInt 63).toInt32 = (63 : Int32) := by decide +kernel
theorem cb_80 : (Int8.ofInt 80).toInt32 = (80 : Int32) := by decide +kernel
theorem cb_97 : (Int8.ofInt 97).toInt32 = (97 : Int32) := by decide +kernel
theorem cb_98 : (Int8.ofInt 98).toInt32 = (98 : Int32) := by decide +kernel
theorem cb_100 : (Int8.ofInt 100).toInt32 = (100 : Int32) := by decide +kernel
theorem cb_101 : (Int8.ofInt 101).toInt32 = (101 : Int32) := by decide +kernel
theorem cb_112 : (Int8.ofInt 112).toInt32 = (112 : Int32) := by decide +kernel
theorem cb_120 : (Int8.ofInt 120).toInt32 = (120 : Int32) := by decide +kernel
theorem cb_124 : (Int8.ofInt 124).toInt32 = (124 : Int32) := by decide +kernel
theorem cb_126 : (Int8.ofInt 126).toInt32 = (126 : Int32) := by decide +kernel
theorem ci_m1 : Int32.ofInt (-1) = (-1 : Int32) := by decide +kernel
theorem ci_0 : Int32.ofInt 0 = (0 : Int32) := by decide +kernel
theorem ci_1 : Int32.ofInt 1 = (1 : Int32) := by decide +kernel
theorem ci_2 : Int32.ofInt 2 = (2 : Int32) := by decide +kernel
theorem ci_3 : Int32.ofInt 3 = (3 : Int32) := by decide +kernel
theorem ci_4 : Int32.ofInt 4 = (4 : Int32) := by decide +kernel
theorem ci_5 : Int32.ofInt 5 = (5 : Int32) := by decide +kernel
theorem cs_m1004 : (Int16.ofInt (-1004)).toInt32 = (-1004 : Int32) := by decide +kernel
theorem cs_m1001 : (Int16.ofInt (-1001)).toInt32 = (-1001 : Int32) := by decide +kernel
theorem cs_128 : (Int16.ofInt 128).toInt32 = (128 : Int32) := by decide +kernel
theorem cs_192 : (Int16.ofInt 192).toInt32 = (192 : Int32) := by decide +kernel
theorem cs_255 : (Int16.ofInt 255).toInt32 = (255 : Int32) := by decide +kernel
theorem cs_256 : (Int16.ofInt 256).toInt32 = (256 : Int32) := by decide +kernel
theorem cs_512 : (Int16.ofInt 512).toInt32 = (512 : Int32) := by decide +kernel
theorem cs_800 : (Int16.ofInt 800).toInt32 = (800 : Int32) := by decide +kernel
theorem cs_999 : (Int16.ofInt 999).toInt32 = (999 : Int32) := by decide +kernel
theorem cs_1600 : (Int16.ofInt 1600).toInt32 = (1600 : Int32) := by decide +kernel
theorem cs_3072 : (Int16.ofInt 3072).toInt32 = (3072 : Int32) := by decide +kernel
theorem cs_3999 : (Int16.ofInt 3999).toInt32 = (3999 : Int32) := by decide +kernel
theorem cs_4000 : (Int16.ofInt 4000).toInt32 = (4000 : Int32) := by decide +kernel
theorem cs_4096 : (Int16.ofInt 4096).toInt32 = (4096 : Int32) := by decide +kernel
theorem q0 : pQ 0 = (iT0, yX0_init, cX0_init, 1, none, 0) := rfl
theorem o0 : ow 0 = 0 := congrArg (fun x : PTy => x.2.2.2.2.2) q0
theorem x0 : mxl 0 = 1 := congrArg (fun x : PTy => x.2.2.2.1) q0
theorem r0 : rt 0 = none := congrArg (fun x : PTy => x.2.2.2.2.1) q0
theorem n0 : (nam 0).name = "<init>" := congrArg (fun x : PTy => x.2.1.name) q0
theorem q1 : pQ 1 = (iT1, yX0_clear, cX0_clear, 1, none, 0) := rfl
theorem o1 : ow 1 = 0 := congrArg (fun x : PTy => x.2.2.2.2.2) q1
theorem x1 : mxl 1 = 1 := congrArg (fun x : PTy => x.2.2.2.1) q1
theorem r1 : rt 1 = none := congrArg (fun x : PTy => x.2.2.2.2.1) q1
theorem q2 : pQ 2 = (iT2, yX0_tells, cX0_tells, 2, (some .boolean), 0) := rfl
theorem o2 : ow 2 = 0 := congrArg (fun x : PTy => x.2.2.2.2.2) q2
theorem x2 : mxl 2 = 2 := congrArg (fun x : PTy => x.2.2.2.1) q2
theorem r2 : rt 2 = (some .boolean) := congrArg (fun x : PTy => x.2.2.2.2.1) q2
theorem q3 : pQ 3 = (iT3, yX0_tell, cX0_tell, 4, none, 0) := rfl
theorem o3 : ow 3 = 0 := congrArg (fun x : PTy => x.2.2.2.2.2) q3
theorem x3 : mxl 3 = 4 := congrArg (fun x : PTy => x.2.2.2.1) q3
theorem r3 : rt 3 = none := congrArg (fun x : PTy => x.2.2.2.2.1) q3
theorem q4 : pQ 4 = (iT4, yX0_addPassed, cX0_addPassed, 3, none, 0) := rfl
theorem o4 : ow 4 = 0 := congrArg (fun x : PTy => x.2.2.2.2.2) q4
theorem x4 : mxl 4 = 3 := congrArg (fun x : PTy => x.2.2.2.1) q4
theorem r4 : rt 4 = none := congrArg (fun x : PTy => x.2.2.2.2.1) q4
theorem q5 : pQ 5 = (iT5, yX0_addAbove, cX0_addAbove, 4, none, 0) := rfl
theorem o5 : ow 5 = 0 := congrArg (fun x : PTy => x.2.2.2.2.2) q5
theorem x5 : mxl 5 = 4 := congrArg (fun x : PTy => x.2.2.2.1) q5
theorem r5 : rt 5 = none := congrArg (fun x : PTy => x.2.2.2.2.1) q5
theorem q6 : pQ 6 = (iT6, yX0_add, cX0_add, 3, none, 0) := rfl
theorem o6 : ow 6 = 0 := congrArg (fun x : PTy => x.2.2.2.2.2) q6
theorem x6 : mxl 6 = 3 := congrArg (fun x : PTy => x.2.2.2.1) q6
theorem r6 : rt 6 = none := congrArg (fun x : PTy => x.2.2.2.2.1) q6
theorem q7 : pQ 7 = (iT7, yX0_leansOnToldAlone, cX0_leansOnToldAlone, 3, (some .boolean), 0) := rfl
theorem o7 : ow 7 = 0 := congrArg (fun x : PTy => x.2.2.2.2.2) q7
theorem x7 : mxl 7 = 3 := congrArg (fun x : PTy => x.2.2.2.1) q7
theorem r7 : rt 7 = (some .boolean) := congrArg (fun x : PTy => x.2.2.2.2.1) q7
theorem q8 : pQ 8 = (iT8, yX0_isPassed, cX0_isPassed, 3, (some .boolean), 0) := rfl
theorem o8 : ow 8 = 0 := congrArg (fun x : PTy => x.2.2.2.2.2) q8
theorem x8 : mxl 8 = 3 := congrArg (fun x : PTy => x.2.2.2.1) q8
theorem r8 : rt 8 = (some .boolean) := congrArg (fun x : PTy => x.2.2.2.2.1) q8
theorem q9 : pQ 9 = (iT9, yX0_claimHolds, cX0_claimHolds, 4, (some .boolean), 0) := rfl
theorem o9 : ow 9 = 0 := congrArg (fun x : PTy => x.2.2.2.2.2) q9
theorem x9 : mxl 9 = 4 := congrArg (fun x : PTy => x.2.2.2.1) q9
theorem r9 : rt 9 = (some .boolean) := congrArg (fun x : PTy => x.2.2.2.2.1) q9
theorem q10 : pQ 10 = (iT10, yX0_holds, cX0_holds, 6, (some .boolean), 0) := rfl
theorem o10 : ow 10 = 0 := congrArg (fun x : PTy => x.2.2.2.2.2) q10
theorem x10 : mxl 10 = 6 := congrArg (fun x : PTy => x.2.2.2.1) q10
theorem r10 : rt 10 = (some .boolean) := congrArg (fun x : PTy => x.2.2.2.2.1) q10
theorem q11 : pQ 11 = (iT11, yX0_passed, cX0_passed, 4, (some .int), 0) := rfl
theorem o11 : ow 11 = 0 := congrArg (fun x : PTy => x.2.2.2.2.2) q11
theorem x11 : mxl 11 = 4 := congrArg (fun x : PTy => x.2.2.2.1) q11
theorem r11 : rt 11 = (some .int) := congrArg (fun x : PTy => x.2.2.2.2.1) q11
theorem q12 : pQ 12 = (iT12, yX0_open, cX0_open, 4, (some .int), 0) := rfl
theorem o12 : ow 12 = 0 := congrArg (fun x : PTy => x.2.2.2.2.2) q12
theorem x12 : mxl 12 = 4 := congrArg (fun x : PTy => x.2.2.2.1) q12
theorem r12 : rt 12 = (some .int) := congrArg (fun x : PTy => x.2.2.2.2.1) q12
theorem q13 : pQ 13 = (iT13, yX0_namedLike, cX0_namedLike, 4, (some .int), 0) := rfl
theorem o13 : ow 13 = 0 := congrArg (fun x : PTy => x.2.2.2.2.2) q13
theorem x13 : mxl 13 = 4 := congrArg (fun x : PTy => x.2.2.2.1) q13
theorem r13 : rt 13 = (some .int) := congrArg (fun x : PTy => x.2.2.2.2.1) q13
theorem q14 : pQ 14 = (iT14, yX1_init, cX1_init, 1, none, 1) := rfl
theorem o14 : ow 14 = 1 := congrArg (fun x : PTy => x.2.2.2.2.2) q14
theorem x14 : mxl 14 = 1 := congrArg (fun x : PTy => x.2.2.2.1) q14
theorem r14 : rt 14 = none := congrArg (fun x : PTy => x.2.2.2.2.1) q14
theorem n14 : (nam 14).name = "<init>" := congrArg (fun x : PTy => x.2.1.name) q14
theorem q15 : pQ 15 = (iT15, yX1_add, cX1_add, 4, none, 1) := rfl
theorem o15 : ow 15 = 1 := congrArg (fun x : PTy => x.2.2.2.2.2) q15
theorem x15 : mxl 15 = 4 := congrArg (fun x : PTy => x.2.2.2.1) q15
theorem r15 : rt 15 = none := congrArg (fun x : PTy => x.2.2.2.2.1) q15
theorem q16 : pQ 16 = (iT16, yX1_partsBy, cX1_partsBy, 4, (some .int), 1) := rfl
theorem o16 : ow 16 = 1 := congrArg (fun x : PTy => x.2.2.2.2.2) q16
theorem x16 : mxl 16 = 4 := congrArg (fun x : PTy => x.2.2.2.1) q16
theorem r16 : rt 16 = (some .int) := congrArg (fun x : PTy => x.2.2.2.2.1) q16
theorem q17 : pQ 17 = (iT17, yX1_backAfter, cX1_backAfter, 3, (some .int), 1) := rfl
theorem o17 : ow 17 = 1 := congrArg (fun x : PTy => x.2.2.2.2.2) q17
theorem x17 : mxl 17 = 3 := congrArg (fun x : PTy => x.2.2.2.1) q17
theorem r17 : rt 17 = (some .int) := congrArg (fun x : PTy => x.2.2.2.2.1) q17
theorem q18 : pQ 18 = (iT18, yX2_init, cX2_init, 1, none, 2) := rfl
theorem o18 : ow 18 = 2 := congrArg (fun x : PTy => x.2.2.2.2.2) q18
theorem x18 : mxl 18 = 1 := congrArg (fun x : PTy => x.2.2.2.1) q18
theorem r18 : rt 18 = none := congrArg (fun x : PTy => x.2.2.2.2.1) q18
theorem n18 : (nam 18).name = "<init>" := congrArg (fun x : PTy => x.2.1.name) q18
theorem q19 : pQ 19 = (iT19, yX2_enter, cX2_enter, 4, (some .boolean), 2) := rfl
theorem o19 : ow 19 = 2 := congrArg (fun x : PTy => x.2.2.2.2.2) q19
theorem x19 : mxl 19 = 4 := congrArg (fun x : PTy => x.2.2.2.1) q19
theorem r19 : rt 19 = (some .boolean) := congrArg (fun x : PTy => x.2.2.2.2.1) q19
theorem q20 : pQ 20 = (iT20, yX2_paidBy, cX2_paidBy, 5, (some .int), 2) := rfl
theorem o20 : ow 20 = 2 := congrArg (fun x : PTy => x.2.2.2.2.2) q20
theorem x20 : mxl 20 = 5 := congrArg (fun x : PTy => x.2.2.2.1) q20
theorem r20 : rt 20 = (some .int) := congrArg (fun x : PTy => x.2.2.2.2.1) q20
theorem q21 : pQ 21 = (iT21, yX3_init, cX3_init, 1, none, 3) := rfl
theorem o21 : ow 21 = 3 := congrArg (fun x : PTy => x.2.2.2.2.2) q21
theorem x21 : mxl 21 = 1 := congrArg (fun x : PTy => x.2.2.2.1) q21
theorem r21 : rt 21 = none := congrArg (fun x : PTy => x.2.2.2.2.1) q21
theorem n21 : (nam 21).name = "<init>" := congrArg (fun x : PTy => x.2.1.name) q21
theorem q22 : pQ 22 = (iT22, yX3_losesNext, cX3_losesNext, 1, (some .boolean), 3) := rfl
theorem o22 : ow 22 = 3 := congrArg (fun x : PTy => x.2.2.2.2.2) q22
theorem x22 : mxl 22 = 1 := congrArg (fun x : PTy => x.2.2.2.1) q22
theorem r22 : rt 22 = (some .boolean) := congrArg (fun x : PTy => x.2.2.2.2.1) q22
theorem q23 : pQ 23 = (iT23, yX4_init, cX4_init, 6, none, 4) := rfl
theorem o23 : ow 23 = 4 := congrArg (fun x : PTy => x.2.2.2.2.2) q23
theorem x23 : mxl 23 = 6 := congrArg (fun x : PTy => x.2.2.2.1) q23
theorem r23 : rt 23 = none := congrArg (fun x : PTy => x.2.2.2.2.1) q23
theorem n23 : (nam 23).name = "<init>" := congrArg (fun x : PTy => x.2.1.name) q23
theorem q24 : pQ 24 = (iT24, yX4_follow, cX4_follow, 4, none, 4) := rfl
theorem o24 : ow 24 = 4 := congrArg (fun x : PTy => x.2.2.2.2.2) q24
theorem x24 : mxl 24 = 4 := congrArg (fun x : PTy => x.2.2.2.1) q24
theorem r24 : rt 24 = none := congrArg (fun x : PTy => x.2.2.2.2.1) q24
theorem q25 : pQ 25 = (iT25, yX4_hasLeftBy, cX4_hasLeftBy, 2, (some .boolean), 4) := rfl
theorem o25 : ow 25 = 4 := congrArg (fun x : PTy => x.2.2.2.2.2) q25
theorem x25 : mxl 25 = 2 := congrArg (fun x : PTy => x.2.2.2.1) q25
theorem r25 : rt 25 = (some .boolean) := congrArg (fun x : PTy => x.2.2.2.2.1) q25
theorem q26 : pQ 26 = (iT26, yX5_init, cX5_init, 1, none, 5) := rfl
theorem o26 : ow 26 = 5 := congrArg (fun x : PTy => x.2.2.2.2.2) q26
theorem x26 : mxl 26 = 1 := congrArg (fun x : PTy => x.2.2.2.1) q26
theorem r26 : rt 26 = none := congrArg (fun x : PTy => x.2.2.2.2.1) q26
theorem n26 : (nam 26).name = "<init>" := congrArg (fun x : PTy => x.2.1.name) q26
theorem q27 : pQ 27 = (iT27, yX5_clear, cX5_clear, 1, none, 5) := rfl
theorem o27 : ow 27 = 5 := congrArg (fun x : PTy => x.2.2.2.2.2) q27
theorem x27 : mxl 27 = 1 := congrArg (fun x : PTy => x.2.2.2.1) q27
theorem r27 : rt 27 = none := congrArg (fun x : PTy => x.2.2.2.2.1) q27
theorem q28 : pQ 28 = (iT28, yX5_addTutor, cX5_addTutor, 2, none, 5) := rfl
theorem o28 : ow 28 = 5 := congrArg (fun x : PTy => x.2.2.2.2.2) q28
theorem x28 : mxl 28 = 2 := congrArg (fun x : PTy => x.2.2.2.1) q28
theorem r28 : rt 28 = none := congrArg (fun x : PTy => x.2.2.2.2.1) q28
theorem q29 : pQ 29 = (iT29, yX5_addThing, cX5_addThing, 3, none, 5) := rfl
theorem o29 : ow 29 = 5 := congrArg (fun x : PTy => x.2.2.2.2.2) q29
theorem x29 : mxl 29 = 3 := congrArg (fun x : PTy => x.2.2.2.1) q29
theorem r29 : rt 29 = none := congrArg (fun x : PTy => x.2.2.2.2.1) q29
theorem q30 : pQ 30 = (iT30, yX5_solve, cX5_solve, 1, none, 5) := rfl
theorem o30 : ow 30 = 5 := congrArg (fun x : PTy => x.2.2.2.2.2) q30
theorem x30 : mxl 30 = 1 := congrArg (fun x : PTy => x.2.2.2.1) q30
theorem r30 : rt 30 = none := congrArg (fun x : PTy => x.2.2.2.2.1) q30
theorem q31 : pQ 31 = (iT31, yX5_lookAhead, cX5_lookAhead, 3, none, 5) := rfl
theorem o31 : ow 31 = 5 := congrArg (fun x : PTy => x.2.2.2.2.2) q31
theorem x31 : mxl 31 = 3 := congrArg (fun x : PTy => x.2.2.2.1) q31
theorem r31 : rt 31 = none := congrArg (fun x : PTy => x.2.2.2.2.1) q31
theorem q32 : pQ 32 = (iT32, yX5_fewestDays, cX5_fewestDays, 5, (some .int), 5) := rfl
theorem o32 : ow 32 = 5 := congrArg (fun x : PTy => x.2.2.2.2.2) q32
theorem x32 : mxl 32 = 5 := congrArg (fun x : PTy => x.2.2.2.1) q32
theorem r32 : rt 32 = (some .int) := congrArg (fun x : PTy => x.2.2.2.2.1) q32
theorem q33 : pQ 33 = (iT33, yX5_canTake, cX5_canTake, 3, (some .boolean), 5) := rfl
theorem o33 : ow 33 = 5 := congrArg (fun x : PTy => x.2.2.2.2.2) q33
theorem x33 : mxl 33 = 3 := congrArg (fun x : PTy => x.2.2.2.1) q33
theorem r33 : rt 33 = (some .boolean) := congrArg (fun x : PTy => x.2.2.2.2.1) q33
theorem q34 : pQ 34 = (iT34, yX5_seek, cX5_seek, 5, none, 5) := rfl
theorem o34 : ow 34 = 5 := congrArg (fun x : PTy => x.2.2.2.2.2) q34
theorem x34 : mxl 34 = 5 := congrArg (fun x : PTy => x.2.2.2.1) q34
theorem r34 : rt 34 = none := congrArg (fun x : PTy => x.2.2.2.2.1) q34
theorem q35 : pQ 35 = (iT35, yX5_canBeBetter, cX5_canBeBetter, 5, (some .boolean), 5) := rfl
theorem o35 : ow 35 = 5 := congrArg (fun x : PTy => x.2.2.2.2.2) q35
theorem x35 : mxl 35 = 5 := congrArg (fun x : PTy => x.2.2.2.1) q35
theorem r35 : rt 35 = (some .boolean) := congrArg (fun x : PTy => x.2.2.2.2.1) q35
theorem q36 : pQ 36 = (iT36, yX5_tutorOf, cX5_tutorOf, 3, (some .int), 5) := rfl
theorem o36 : ow 36 = 5 := congrArg (fun x : PTy => x.2.2.2.2.2) q36
theorem x36 : mxl 36 = 3 := congrArg (fun x : PTy => x.2.2.2.1) q36
theorem r36 : rt 36 = (some .int) := congrArg (fun x : PTy => x.2.2.2.2.1) q36
theorem q37 : pQ 37 = (iT37, yX6_init, cX6_init, 1, none, 6) := rfl
theorem o37 : ow 37 = 6 := congrArg (fun x : PTy => x.2.2.2.2.2) q37
theorem x37 : mxl 37 = 1 := congrArg (fun x : PTy => x.2.2.2.1) q37
theorem r37 : rt 37 = none := congrArg (fun x : PTy => x.2.2.2.2.1) q37
theorem n37 : (nam 37).name = "<init>" := congrArg (fun x : PTy => x.2.1.name) q37
theorem q38 : pQ 38 = (iT38, yX6_begin, cX6_begin, 3, none, 6) := rfl
theorem o38 : ow 38 = 6 := congrArg (fun x : PTy => x.2.2.2.2.2) q38
theorem x38 : mxl 38 = 3 := congrArg (fun x : PTy => x.2.2.2.1) q38
theorem r38 : rt 38 = none := congrArg (fun x : PTy => x.2.2.2.2.1) q38
theorem q39 : pQ 39 = (iT39, yX6_refusal, cX6_refusal, 4, (some .int), 6) := rfl
theorem o39 : ow 39 = 6 := congrArg (fun x : PTy => x.2.2.2.2.2) q39
theorem x39 : mxl 39 = 4 := congrArg (fun x : PTy => x.2.2.2.1) q39
theorem r39 : rt 39 = (some .int) := congrArg (fun x : PTy => x.2.2.2.2.1) q39
theorem q40 : pQ 40 = (iT40, yX6_put, cX6_put, 3, none, 6) := rfl
theorem o40 : ow 40 = 6 := congrArg (fun x : PTy => x.2.2.2.2.2) q40
theorem x40 : mxl 40 = 3 := congrArg (fun x : PTy => x.2.2.2.1) q40
theorem r40 : rt 40 = none := congrArg (fun x : PTy => x.2.2.2.2.1) q40
theorem q41 : pQ 41 = (iT41, yX7_init, cX7_init, 1, none, 7) := rfl
theorem o41 : ow 41 = 7 := congrArg (fun x : PTy => x.2.2.2.2.2) q41
theorem x41 : mxl 41 = 1 := congrArg (fun x : PTy => x.2.2.2.1) q41
theorem r41 : rt 41 = none := congrArg (fun x : PTy => x.2.2.2.2.1) q41
theorem n41 : (nam 41).name = "<init>" := congrArg (fun x : PTy => x.2.1.name) q41
theorem q42 : pQ 42 = (iT42, yX7_append, cX7_append, 2, none, 7) := rfl
theorem o42 : ow 42 = 7 := congrArg (fun x : PTy => x.2.2.2.2.2) q42
theorem x42 : mxl 42 = 2 := congrArg (fun x : PTy => x.2.2.2.1) q42
theorem r42 : rt 42 = none := congrArg (fun x : PTy => x.2.2.2.2.1) q42
theorem q43 : pQ 43 = (iT43, yX7_next, cX7_next, 2, (some .int), 7) := rfl
theorem o43 : ow 43 = 7 := congrArg (fun x : PTy => x.2.2.2.2.2) q43
theorem x43 : mxl 43 = 2 := congrArg (fun x : PTy => x.2.2.2.1) q43
theorem r43 : rt 43 = (some .int) := congrArg (fun x : PTy => x.2.2.2.2.1) q43
theorem q44 : pQ 44 = (iT44, yX7_takes, cX7_takes, 2, (some .boolean), 7) := rfl
theorem o44 : ow 44 = 7 := congrArg (fun x : PTy => x.2.2.2.2.2) q44
theorem x44 : mxl 44 = 2 := congrArg (fun x : PTy => x.2.2.2.1) q44
theorem r44 : rt 44 = (some .boolean) := congrArg (fun x : PTy => x.2.2.2.2.1) q44
theorem q45 : pQ 45 = (iT45, yX7_isDigit, cX7_isDigit, 1, (some .boolean), 7) := rfl
theorem o45 : ow 45 = 7 := congrArg (fun x : PTy => x.2.2.2.2.2) q45
theorem x45 : mxl 45 = 1 := congrArg (fun x : PTy => x.2.2.2.1) q45
theorem r45 : rt 45 = (some .boolean) := congrArg (fun x : PTy => x.2.2.2.2.1) q45
theorem q46 : pQ 46 = (iT46, yX7_takeNumber, cX7_takeNumber, 5, (some .int), 7) := rfl
theorem o46 : ow 46 = 7 := congrArg (fun x : PTy => x.2.2.2.2.2) q46
theorem x46 : mxl 46 = 5 := congrArg (fun x : PTy => x.2.2.2.1) q46
theorem r46 : rt 46 = (some .int) := congrArg (fun x : PTy => x.2.2.2.2.1) q46
theorem q47 : pQ 47 = (iT47, yX7_readEdition, cX7_readEdition, 3, (some .boolean), 7) := rfl
theorem o47 : ow 47 = 7 := congrArg (fun x : PTy => x.2.2.2.2.2) q47
theorem x47 : mxl 47 = 3 := congrArg (fun x : PTy => x.2.2.2.1) q47
theorem r47 : rt 47 = (some .boolean) := congrArg (fun x : PTy => x.2.2.2.2.1) q47
theorem q48 : pQ 48 = (iT48, yX7_readLesson, cX7_readLesson, 5, (some .boolean), 7) := rfl
theorem o48 : ow 48 = 7 := congrArg (fun x : PTy => x.2.2.2.2.2) q48
theorem x48 : mxl 48 = 5 := congrArg (fun x : PTy => x.2.2.2.1) q48
theorem r48 : rt 48 = (some .boolean) := congrArg (fun x : PTy => x.2.2.2.2.1) q48
theorem q49 : pQ 49 = (iT49, yX7_readCases, cX7_readCases, 6, (some .boolean), 7) := rfl
theorem o49 : ow 49 = 7 := congrArg (fun x : PTy => x.2.2.2.2.2) q49
theorem x49 : mxl 49 = 6 := congrArg (fun x : PTy => x.2.2.2.1) q49
theorem r49 : rt 49 = (some .boolean) := congrArg (fun x : PTy => x.2.2.2.2.1) q49
theorem q50 : pQ 50 = (iT50, yX7_readClaim, cX7_readClaim, 5, (some .boolean), 7) := rfl
theorem o50 : ow 50 = 7 := congrArg (fun x : PTy => x.2.2.2.2.2) q50
theorem x50 : mxl 50 = 5 := congrArg (fun x : PTy => x.2.2.2.1) q50
theorem r50 : rt 50 = (some .boolean) := congrArg (fun x : PTy => x.2.2.2.2.1) q50
theorem q51 : pQ 51 = (iT51, yX7_readLeaning, cX7_readLeaning, 5, (some .boolean), 7) := rfl
theorem o51 : ow 51 = 7 := congrArg (fun x : PTy => x.2.2.2.2.2) q51
theorem x51 : mxl 51 = 5 := congrArg (fun x : PTy => x.2.2.2.1) q51
theorem r51 : rt 51 = (some .boolean) := congrArg (fun x : PTy => x.2.2.2.2.1) q51
theorem q52 : pQ 52 = (iT52, yX7_readFees, cX7_readFees, 3, (some .boolean), 7) := rfl
theorem o52 : ow 52 = 7 := congrArg (fun x : PTy => x.2.2.2.2.2) q52
theorem x52 : mxl 52 = 3 := congrArg (fun x : PTy => x.2.2.2.1) q52
theorem r52 : rt 52 = (some .boolean) := congrArg (fun x : PTy => x.2.2.2.2.1) q52
theorem q53 : pQ 53 = (iT53, yX7_readFee, cX7_readFee, 5, (some .boolean), 7) := rfl
theorem o53 : ow 53 = 7 := congrArg (fun x : PTy => x.2.2.2.2.2) q53
theorem x53 : mxl 53 = 5 := congrArg (fun x : PTy => x.2.2.2.1) q53
theorem r53 : rt 53 = (some .boolean) := congrArg (fun x : PTy => x.2.2.2.2.1) q53
theorem q54 : pQ 54 = (iT54, yX8_init, cX8_init, 5, none, 8) := rfl
theorem o54 : ow 54 = 8 := congrArg (fun x : PTy => x.2.2.2.2.2) q54
theorem x54 : mxl 54 = 5 := congrArg (fun x : PTy => x.2.2.2.1) q54
theorem r54 : rt 54 = none := congrArg (fun x : PTy => x.2.2.2.2.1) q54
theorem n54 : (nam 54).name = "<init>" := congrArg (fun x : PTy => x.2.1.name) q54
theorem q55 : pQ 55 = (iT55, yX8_isAnswer, cX8_isAnswer, 1, (some .boolean), 8) := rfl
theorem o55 : ow 55 = 8 := congrArg (fun x : PTy => x.2.2.2.2.2) q55
theorem x55 : mxl 55 = 1 := congrArg (fun x : PTy => x.2.2.2.1) q55
theorem r55 : rt 55 = (some .boolean) := congrArg (fun x : PTy => x.2.2.2.2.1) q55
theorem q56 : pQ 56 = (iT56, yX8_isOpenBy, cX8_isOpenBy, 2, (some .boolean), 8) := rfl
theorem o56 : ow 56 = 8 := congrArg (fun x : PTy => x.2.2.2.2.2) q56
theorem x56 : mxl 56 = 2 := congrArg (fun x : PTy => x.2.2.2.1) q56
theorem r56 : rt 56 = (some .boolean) := congrArg (fun x : PTy => x.2.2.2.2.1) q56
theorem q57 : pQ 57 = (iT57, yX8_isGivenBy, cX8_isGivenBy, 2, (some .boolean), 8) := rfl
theorem o57 : ow 57 = 8 := congrArg (fun x : PTy => x.2.2.2.2.2) q57
theorem x57 : mxl 57 = 2 := congrArg (fun x : PTy => x.2.2.2.1) q57
theorem r57 : rt 57 = (some .boolean) := congrArg (fun x : PTy => x.2.2.2.2.1) q57
theorem q58 : pQ 58 = (iT58, yX8_isMarkedByBoth, cX8_isMarkedByBoth, 3, (some .boolean), 8) := rfl
theorem o58 : ow 58 = 8 := congrArg (fun x : PTy => x.2.2.2.2.2) q58
theorem x58 : mxl 58 = 3 := congrArg (fun x : PTy => x.2.2.2.1) q58
theorem r58 : rt 58 = (some .boolean) := congrArg (fun x : PTy => x.2.2.2.2.1) q58
theorem q59 : pQ 59 = (iT59, yX9_init, cX9_init, 3, none, 9) := rfl
theorem o59 : ow 59 = 9 := congrArg (fun x : PTy => x.2.2.2.2.2) q59
theorem x59 : mxl 59 = 3 := congrArg (fun x : PTy => x.2.2.2.1) q59
theorem r59 : rt 59 = none := congrArg (fun x : PTy => x.2.2.2.2.1) q59
theorem n59 : (nam 59).name = "<init>" := congrArg (fun x : PTy => x.2.1.name) q59
theorem q60 : pQ 60 = (iT60, yX9_mayMark, cX9_mayMark, 2, (some .boolean), 9) := rfl
theorem o60 : ow 60 = 9 := congrArg (fun x : PTy => x.2.2.2.2.2) q60
theorem x60 : mxl 60 = 2 := congrArg (fun x : PTy => x.2.2.2.1) q60
theorem r60 : rt 60 = (some .boolean) := congrArg (fun x : PTy => x.2.2.2.2.1) q60
theorem q61 : pQ 61 = (iT61, yX10_init, cX10_init, 1, none, 10) := rfl
theorem o61 : ow 61 = 10 := congrArg (fun x : PTy => x.2.2.2.2.2) q61
theorem x61 : mxl 61 = 1 := congrArg (fun x : PTy => x.2.2.2.1) q61
theorem r61 : rt 61 = none := congrArg (fun x : PTy => x.2.2.2.2.1) q61
theorem n61 : (nam 61).name = "<init>" := congrArg (fun x : PTy => x.2.1.name) q61
theorem q62 : pQ 62 = (iT62, yX10_shortest, cX10_shortest, 7, (some .int), 10) := rfl
theorem o62 : ow 62 = 10 := congrArg (fun x : PTy => x.2.2.2.2.2) q62
theorem x62 : mxl 62 = 7 := congrArg (fun x : PTy => x.2.2.2.1) q62
theorem r62 : rt 62 = (some .int) := congrArg (fun x : PTy => x.2.2.2.2.1) q62
theorem q63 : pQ 63 = (iT63, yX10_raise, cX10_raise, 4, none, 10) := rfl
theorem o63 : ow 63 = 10 := congrArg (fun x : PTy => x.2.2.2.2.2) q63
theorem x63 : mxl 63 = 4 := congrArg (fun x : PTy => x.2.2.2.1) q63
theorem r63 : rt 63 = none := congrArg (fun x : PTy => x.2.2.2.2.1) q63
theorem q64 : pQ 64 = (iT64, yX10_reach, cX10_reach, 8, (some .int), 10) := rfl
theorem o64 : ow 64 = 10 := congrArg (fun x : PTy => x.2.2.2.2.2) q64
theorem x64 : mxl 64 = 8 := congrArg (fun x : PTy => x.2.2.2.1) q64
theorem r64 : rt 64 = (some .int) := congrArg (fun x : PTy => x.2.2.2.2.1) q64
theorem q65 : pQ 65 = (iT65, yX11_init, cX11_init, 2, none, 11) := rfl
theorem o65 : ow 65 = 11 := congrArg (fun x : PTy => x.2.2.2.2.2) q65
theorem x65 : mxl 65 = 2 := congrArg (fun x : PTy => x.2.2.2.1) q65
theorem r65 : rt 65 = none := congrArg (fun x : PTy => x.2.2.2.2.1) q65
theorem n65 : (nam 65).name = "<init>" := congrArg (fun x : PTy => x.2.1.name) q65
theorem q66 : pQ 66 = (iT66, yX11_type, cX11_type, 6, (some .int), 11) := rfl
theorem o66 : ow 66 = 11 := congrArg (fun x : PTy => x.2.2.2.2.2) q66
theorem x66 : mxl 66 = 6 := congrArg (fun x : PTy => x.2.2.2.1) q66
theorem r66 : rt 66 = (some .int) := congrArg (fun x : PTy => x.2.2.2.2.1) q66
theorem q67 : pQ 67 = (iT67, yX11_edition, cX11_edition, 5, (some .int), 11) := rfl
theorem o67 : ow 67 = 11 := congrArg (fun x : PTy => x.2.2.2.2.2) q67
theorem x67 : mxl 67 = 5 := congrArg (fun x : PTy => x.2.2.2.1) q67
theorem r67 : rt 67 = (some .int) := congrArg (fun x : PTy => x.2.2.2.2.1) q67
theorem q68 : pQ 68 = (iT68, yX11_told, cX11_told, 5, (some .int), 11) := rfl
theorem o68 : ow 68 = 11 := congrArg (fun x : PTy => x.2.2.2.2.2) q68
theorem x68 : mxl 68 = 5 := congrArg (fun x : PTy => x.2.2.2.1) q68
theorem r68 : rt 68 = (some .int) := congrArg (fun x : PTy => x.2.2.2.2.1) q68
theorem q69 : pQ 69 = (iT69, yX11_lesson, cX11_lesson, 6, (some .int), 11) := rfl
theorem o69 : ow 69 = 11 := congrArg (fun x : PTy => x.2.2.2.2.2) q69
theorem x69 : mxl 69 = 6 := congrArg (fun x : PTy => x.2.2.2.1) q69
theorem r69 : rt 69 = (some .int) := congrArg (fun x : PTy => x.2.2.2.2.1) q69
theorem q70 : pQ 70 = (iT70, yX11_pupil, cX11_pupil, 6, (some .int), 11) := rfl
theorem o70 : ow 70 = 11 := congrArg (fun x : PTy => x.2.2.2.2.2) q70
theorem x70 : mxl 70 = 6 := congrArg (fun x : PTy => x.2.2.2.1) q70
theorem r70 : rt 70 = (some .int) := congrArg (fun x : PTy => x.2.2.2.2.1) q70
theorem q71 : pQ 71 = (iT71, yX11_who, cX11_who, 4, (some .int), 11) := rfl
theorem o71 : ow 71 = 11 := congrArg (fun x : PTy => x.2.2.2.2.2) q71
theorem x71 : mxl 71 = 4 := congrArg (fun x : PTy => x.2.2.2.1) q71
theorem r71 : rt 71 = (some .int) := congrArg (fun x : PTy => x.2.2.2.2.1) q71
theorem q72 : pQ 72 = (iT72, yX11_habit, cX11_habit, 5, (some .int), 11) := rfl
theorem o72 : ow 72 = 11 := congrArg (fun x : PTy => x.2.2.2.2.2) q72
theorem x72 : mxl 72 = 5 := congrArg (fun x : PTy => x.2.2.2.1) q72
theorem r72 : rt 72 = (some .int) := congrArg (fun x : PTy => x.2.2.2.2.1) q72
theorem q73 : pQ 73 = (iT73, yX11_best, cX11_best, 6, (some .int), 11) := rfl
theorem o73 : ow 73 = 11 := congrArg (fun x : PTy => x.2.2.2.2.2) q73
theorem x73 : mxl 73 = 6 := congrArg (fun x : PTy => x.2.2.2.1) q73
theorem r73 : rt 73 = (some .int) := congrArg (fun x : PTy => x.2.2.2.2.1) q73
theorem q74 : pQ 74 = (iT74, yX11_may, cX11_may, 5, (some .int), 11) := rfl
theorem o74 : ow 74 = 11 := congrArg (fun x : PTy => x.2.2.2.2.2) q74
theorem x74 : mxl 74 = 5 := congrArg (fun x : PTy => x.2.2.2.1) q74
theorem r74 : rt 74 = (some .int) := congrArg (fun x : PTy => x.2.2.2.2.1) q74
theorem q75 : pQ 75 = (iT75, yX11_lean, cX11_lean, 4, (some .int), 11) := rfl
theorem o75 : ow 75 = 11 := congrArg (fun x : PTy => x.2.2.2.2.2) q75
theorem x75 : mxl 75 = 4 := congrArg (fun x : PTy => x.2.2.2.1) q75
theorem r75 : rt 75 = (some .int) := congrArg (fun x : PTy => x.2.2.2.2.1) q75
theorem q76 : pQ 76 = (iT76, yX11_post, cX11_post, 4, (some .int), 11) := rfl
theorem o76 : ow 76 = 11 := congrArg (fun x : PTy => x.2.2.2.2.2) q76
theorem x76 : mxl 76 = 4 := congrArg (fun x : PTy => x.2.2.2.1) q76
theorem r76 : rt 76 = (some .int) := congrArg (fun x : PTy => x.2.2.2.2.1) q76
theorem q77 : pQ 77 = (iT77, yX11_send, cX11_send, 6, (some .int), 11) := rfl
theorem o77 : ow 77 = 11 := congrArg (fun x : PTy => x.2.2.2.2.2) q77
theorem x77 : mxl 77 = 6 := congrArg (fun x : PTy => x.2.2.2.1) q77
theorem r77 : rt 77 = (some .int) := congrArg (fun x : PTy => x.2.2.2.2.1) q77
theorem q78 : pQ 78 = (iT78, yX11_answer, cX11_answer, 5, (some .int), 11) := rfl
theorem o78 : ow 78 = 11 := congrArg (fun x : PTy => x.2.2.2.2.2) q78
theorem x78 : mxl 78 = 5 := congrArg (fun x : PTy => x.2.2.2.1) q78
theorem r78 : rt 78 = (some .int) := congrArg (fun x : PTy => x.2.2.2.2.1) q78
theorem q79 : pQ 79 = (iT79, yX11_give, cX11_give, 6, (some .int), 11) := rfl
theorem o79 : ow 79 = 11 := congrArg (fun x : PTy => x.2.2.2.2.2) q79
theorem x79 : mxl 79 = 6 := congrArg (fun x : PTy => x.2.2.2.1) q79
theorem r79 : rt 79 = (some .int) := congrArg (fun x : PTy => x.2.2.2.2.1) q79
theorem q80 : pQ 80 = (iT80, yX11_mark, cX11_mark, 7, (some .int), 11) := rfl
theorem o80 : ow 80 = 11 := congrArg (fun x : PTy => x.2.2.2.2.2) q80
theorem x80 : mxl 80 = 7 := congrArg (fun x : PTy => x.2.2.2.1) q80
theorem r80 : rt 80 = (some .int) := congrArg (fun x : PTy => x.2.2.2.2.1) q80
theorem q81 : pQ 81 = (iT81, yX11_again, cX11_again, 5, (some .int), 11) := rfl
theorem o81 : ow 81 = 11 := congrArg (fun x : PTy => x.2.2.2.2.2) q81
theorem x81 : mxl 81 = 5 := congrArg (fun x : PTy => x.2.2.2.1) q81
theorem r81 : rt 81 = (some .int) := congrArg (fun x : PTy => x.2.2.2.2.1) q81
theorem q82 : pQ 82 = (iT82, yX11_second, cX11_second, 7, (some .int), 11) := rfl
theorem o82 : ow 82 = 11 := congrArg (fun x : PTy => x.2.2.2.2.2) q82
theorem x82 : mxl 82 = 7 := congrArg (fun x : PTy => x.2.2.2.1) q82
theorem r82 : rt 82 = (some .int) := congrArg (fun x : PTy => x.2.2.2.2.1) q82
theorem q83 : pQ 83 = (iT83, yX11_thing, cX11_thing, 4, (some .int), 11) := rfl
theorem o83 : ow 83 = 11 := congrArg (fun x : PTy => x.2.2.2.2.2) q83
theorem x83 : mxl 83 = 4 := congrArg (fun x : PTy => x.2.2.2.1) q83
theorem r83 : rt 83 = (some .int) := congrArg (fun x : PTy => x.2.2.2.2.1) q83
theorem q84 : pQ 84 = (iT84, yX11_marks, cX11_marks, 4, (some .int), 11) := rfl
theorem o84 : ow 84 = 11 := congrArg (fun x : PTy => x.2.2.2.2.2) q84
theorem x84 : mxl 84 = 4 := congrArg (fun x : PTy => x.2.2.2.1) q84
theorem r84 : rt 84 = (some .int) := congrArg (fun x : PTy => x.2.2.2.2.1) q84
theorem q85 : pQ 85 = (iT85, yX11_count, cX11_count, 4, (some .int), 11) := rfl
theorem o85 : ow 85 = 11 := congrArg (fun x : PTy => x.2.2.2.2.2) q85
theorem x85 : mxl 85 = 4 := congrArg (fun x : PTy => x.2.2.2.1) q85
theorem r85 : rt 85 = (some .int) := congrArg (fun x : PTy => x.2.2.2.2.1) q85
theorem q86 : pQ 86 = (iT86, yX11_tutor, cX11_tutor, 3, (some .int), 11) := rfl
theorem o86 : ow 86 = 11 := congrArg (fun x : PTy => x.2.2.2.2.2) q86
theorem x86 : mxl 86 = 3 := congrArg (fun x : PTy => x.2.2.2.1) q86
theorem r86 : rt 86 = (some .int) := congrArg (fun x : PTy => x.2.2.2.2.1) q86
theorem q87 : pQ 87 = (iT87, yX11_kin, cX11_kin, 5, (some .int), 11) := rfl
theorem o87 : ow 87 = 11 := congrArg (fun x : PTy => x.2.2.2.2.2) q87
theorem x87 : mxl 87 = 5 := congrArg (fun x : PTy => x.2.2.2.1) q87
theorem r87 : rt 87 = (some .int) := congrArg (fun x : PTy => x.2.2.2.2.1) q87
theorem q88 : pQ 88 = (iT88, yX11_load, cX11_load, 3, (some .int), 11) := rfl
theorem o88 : ow 88 = 11 := congrArg (fun x : PTy => x.2.2.2.2.2) q88
theorem x88 : mxl 88 = 3 := congrArg (fun x : PTy => x.2.2.2.1) q88
theorem r88 : rt 88 = (some .int) := congrArg (fun x : PTy => x.2.2.2.2.1) q88
theorem q89 : pQ 89 = (iT89, yX11_wait, cX11_wait, 5, (some .int), 11) := rfl
theorem o89 : ow 89 = 11 := congrArg (fun x : PTy => x.2.2.2.2.2) q89
theorem x89 : mxl 89 = 5 := congrArg (fun x : PTy => x.2.2.2.1) q89
theorem r89 : rt 89 = (some .int) := congrArg (fun x : PTy => x.2.2.2.2.1) q89
theorem q90 : pQ 90 = (iT90, yX11_took, cX11_took, 3, (some .int), 11) := rfl
theorem o90 : ow 90 = 11 := congrArg (fun x : PTy => x.2.2.2.2.2) q90
theorem x90 : mxl 90 = 3 := congrArg (fun x : PTy => x.2.2.2.1) q90
theorem r90 : rt 90 = (some .int) := congrArg (fun x : PTy => x.2.2.2.2.1) q90
theorem q91 : pQ 91 = (iT91, yX11_share, cX11_share, 3, (some .int), 11) := rfl
theorem o91 : ow 91 = 11 := congrArg (fun x : PTy => x.2.2.2.2.2) q91
theorem x91 : mxl 91 = 3 := congrArg (fun x : PTy => x.2.2.2.1) q91
theorem r91 : rt 91 = (some .int) := congrArg (fun x : PTy => x.2.2.2.2.1) q91
theorem q92 : pQ 92 = (iT92, yX11_shareOf, cX11_shareOf, 3, (some .int), 11) := rfl
theorem o92 : ow 92 = 11 := congrArg (fun x : PTy => x.2.2.2.2.2) q92
theorem x92 : mxl 92 = 3 := congrArg (fun x : PTy => x.2.2.2.1) q92
theorem r92 : rt 92 = (some .int) := congrArg (fun x : PTy => x.2.2.2.2.1) q92
theorem q93 : pQ 93 = (iT93, yX11_offset, cX11_offset, 11, (some .int), 11) := rfl
theorem o93 : ow 93 = 11 := congrArg (fun x : PTy => x.2.2.2.2.2) q93
theorem x93 : mxl 93 = 11 := congrArg (fun x : PTy => x.2.2.2.1) q93
theorem r93 : rt 93 = (some .int) := congrArg (fun x : PTy => x.2.2.2.2.1) q93
theorem q94 : pQ 94 = (iT94, yX11_key, cX11_key, 5, (some .int), 11) := rfl
theorem o94 : ow 94 = 11 := congrArg (fun x : PTy => x.2.2.2.2.2) q94
theorem x94 : mxl 94 = 5 := congrArg (fun x : PTy => x.2.2.2.1) q94
theorem r94 : rt 94 = (some .int) := congrArg (fun x : PTy => x.2.2.2.2.1) q94
theorem q95 : pQ 95 = (iT95, yX11_choose, cX11_choose, 6, (some .int), 11) := rfl
theorem o95 : ow 95 = 11 := congrArg (fun x : PTy => x.2.2.2.2.2) q95
theorem x95 : mxl 95 = 6 := congrArg (fun x : PTy => x.2.2.2.1) q95
theorem r95 : rt 95 = (some .int) := congrArg (fun x : PTy => x.2.2.2.2.1) q95
theorem q96 : pQ 96 = (iT96, yX11_like, cX11_like, 5, (some .int), 11) := rfl
theorem o96 : ow 96 = 11 := congrArg (fun x : PTy => x.2.2.2.2.2) q96
theorem x96 : mxl 96 = 5 := congrArg (fun x : PTy => x.2.2.2.1) q96
theorem r96 : rt 96 = (some .int) := congrArg (fun x : PTy => x.2.2.2.2.1) q96
theorem q97 : pQ 97 = (iT97, yX11_limit, cX11_limit, 3, (some .int), 11) := rfl
theorem o97 : ow 97 = 11 := congrArg (fun x : PTy => x.2.2.2.2.2) q97
theorem x97 : mxl 97 = 3 := congrArg (fun x : PTy => x.2.2.2.1) q97
theorem r97 : rt 97 = (some .int) := congrArg (fun x : PTy => x.2.2.2.2.1) q97
theorem q98 : pQ 98 = (iT98, yX11_doubted, cX11_doubted, 5, (some .int), 11) := rfl
theorem o98 : ow 98 = 11 := congrArg (fun x : PTy => x.2.2.2.2.2) q98
theorem x98 : mxl 98 = 5 := congrArg (fun x : PTy => x.2.2.2.1) q98
theorem r98 : rt 98 = (some .int) := congrArg (fun x : PTy => x.2.2.2.2.1) q98
theorem q99 : pQ 99 = (iT99, yX11_fees, cX11_fees, 4, (some .int), 11) := rfl
theorem o99 : ow 99 = 11 := congrArg (fun x : PTy => x.2.2.2.2.2) q99
theorem x99 : mxl 99 = 4 := congrArg (fun x : PTy => x.2.2.2.1) q99
theorem r99 : rt 99 = (some .int) := congrArg (fun x : PTy => x.2.2.2.2.1) q99
theorem q100 : pQ 100 = (iT100, yX11_pay, cX11_pay, 5, (some .int), 11) := rfl
theorem o100 : ow 100 = 11 := congrArg (fun x : PTy => x.2.2.2.2.2) q100
theorem x100 : mxl 100 = 5 := congrArg (fun x : PTy => x.2.2.2.1) q100
theorem r100 : rt 100 = (some .int) := congrArg (fun x : PTy => x.2.2.2.2.1) q100
theorem q101 : pQ 101 = (iT101, yX11_due, cX11_due, 4, (some .int), 11) := rfl
theorem o101 : ow 101 = 11 := congrArg (fun x : PTy => x.2.2.2.2.2) q101
theorem x101 : mxl 101 = 4 := congrArg (fun x : PTy => x.2.2.2.1) q101
theorem r101 : rt 101 = (some .int) := congrArg (fun x : PTy => x.2.2.2.2.1) q101
theorem q102 : pQ 102 = (iT102, yX11_leave, cX11_leave, 4, (some .int), 11) := rfl
theorem o102 : ow 102 = 11 := congrArg (fun x : PTy => x.2.2.2.2.2) q102
theorem x102 : mxl 102 = 4 := congrArg (fun x : PTy => x.2.2.2.1) q102
theorem r102 : rt 102 = (some .int) := congrArg (fun x : PTy => x.2.2.2.2.1) q102
theorem q103 : pQ 103 = (iT103, yX11_move, cX11_move, 7, (some .int), 11) := rfl
theorem o103 : ow 103 = 11 := congrArg (fun x : PTy => x.2.2.2.2.2) q103
theorem x103 : mxl 103 = 7 := congrArg (fun x : PTy => x.2.2.2.1) q103
theorem r103 : rt 103 = (some .int) := congrArg (fun x : PTy => x.2.2.2.2.1) q103
theorem q104 : pQ 104 = (iT104, yX11_sheet, cX11_sheet, 4, (some .int), 11) := rfl
theorem o104 : ow 104 = 11 := congrArg (fun x : PTy => x.2.2.2.2.2) q104
theorem x104 : mxl 104 = 4 := congrArg (fun x : PTy => x.2.2.2.1) q104
theorem r104 : rt 104 = (some .int) := congrArg (fun x : PTy => x.2.2.2.2.1) q104
theorem q105 : pQ 105 = (iT105, yX11_drop, cX11_drop, 3, (some .int), 11) := rfl
theorem o105 : ow 105 = 11 := congrArg (fun x : PTy => x.2.2.2.2.2) q105
theorem x105 : mxl 105 = 3 := congrArg (fun x : PTy => x.2.2.2.1) q105
theorem r105 : rt 105 = (some .int) := congrArg (fun x : PTy => x.2.2.2.2.1) q105
theorem q106 : pQ 106 = (iT106, yX11_item, cX11_item, 6, (some .int), 11) := rfl
theorem o106 : ow 106 = 11 := congrArg (fun x : PTy => x.2.2.2.2.2) q106
theorem x106 : mxl 106 = 6 := congrArg (fun x : PTy => x.2.2.2.1) q106
theorem r106 : rt 106 = (some .int) := congrArg (fun x : PTy => x.2.2.2.2.1) q106
theorem q107 : pQ 107 = (iT107, yX11_choices, cX11_choices, 10, (some .int), 11) := rfl
theorem o107 : ow 107 = 11 := congrArg (fun x : PTy => x.2.2.2.2.2) q107
theorem x107 : mxl 107 = 10 := congrArg (fun x : PTy => x.2.2.2.1) q107
theorem r107 : rt 107 = (some .int) := congrArg (fun x : PTy => x.2.2.2.2.1) q107
theorem q108 : pQ 108 = (iT108, yX11_isIn, cX11_isIn, 2, (some .boolean), 11) := rfl
theorem o108 : ow 108 = 11 := congrArg (fun x : PTy => x.2.2.2.2.2) q108
theorem x108 : mxl 108 = 2 := congrArg (fun x : PTy => x.2.2.2.1) q108
theorem r108 : rt 108 = (some .boolean) := congrArg (fun x : PTy => x.2.2.2.2.1) q108
theorem q109 : pQ 109 = (iT109, yX11_isDay, cX11_isDay, 1, (some .boolean), 11) := rfl
theorem o109 : ow 109 = 11 := congrArg (fun x : PTy => x.2.2.2.2.2) q109
theorem x109 : mxl 109 = 1 := congrArg (fun x : PTy => x.2.2.2.1) q109
theorem r109 : rt 109 = (some .boolean) := congrArg (fun x : PTy => x.2.2.2.2.1) q109
theorem q110 : pQ 110 = (iT110, yX11_areParts, cX11_areParts, 3, (some .boolean), 11) := rfl
theorem o110 : ow 110 = 11 := congrArg (fun x : PTy => x.2.2.2.2.2) q110
theorem x110 : mxl 110 = 3 := congrArg (fun x : PTy => x.2.2.2.1) q110
theorem r110 : rt 110 = (some .boolean) := congrArg (fun x : PTy => x.2.2.2.2.1) q110
theorem q111 : pQ 111 = (iT111, yX11_weigh, cX11_weigh, 3, (some .int), 11) := rfl
theorem o111 : ow 111 = 11 := congrArg (fun x : PTy => x.2.2.2.2.2) q111
theorem x111 : mxl 111 = 3 := congrArg (fun x : PTy => x.2.2.2.1) q111
theorem r111 : rt 111 = (some .int) := congrArg (fun x : PTy => x.2.2.2.2.1) q111
theorem q112 : pQ 112 = (iT112, yX11_cutUp, cX11_cutUp, 2, (some .int), 11) := rfl
theorem o112 : ow 112 = 11 := congrArg (fun x : PTy => x.2.2.2.2.2) q112
theorem x112 : mxl 112 = 2 := congrArg (fun x : PTy => x.2.2.2.1) q112
theorem r112 : rt 112 = (some .int) := congrArg (fun x : PTy => x.2.2.2.2.1) q112
theorem q113 : pQ 113 = (iT113, yX11_pupilAt, cX11_pupilAt, 2, (some (.object "LetterSchool$Pupil")), 11) := rfl
theorem o113 : ow 113 = 11 := congrArg (fun x : PTy => x.2.2.2.2.2) q113
theorem x113 : mxl 113 = 2 := congrArg (fun x : PTy => x.2.2.2.1) q113
theorem r113 : rt 113 = (some (.object "LetterSchool$Pupil")) := congrArg (fun x : PTy => x.2.2.2.2.1) q113
theorem q114 : pQ 114 = (iT114, yX11_tutorAt, cX11_tutorAt, 2, (some (.object "LetterSchool$Tutor")), 11) := rfl
theorem o114 : ow 114 = 11 := congrArg (fun x : PTy => x.2.2.2.2.2) q114
theorem x114 : mxl 114 = 2 := congrArg (fun x : PTy => x.2.2.2.1) q114
theorem r114 : rt 114 = (some (.object "LetterSchool$Tutor")) := congrArg (fun x : PTy => x.2.2.2.2.1) q114
theorem q115 : pQ 115 = (iT115, yX11_thingAt, cX11_thingAt, 2, (some (.object "LetterSchool$Thing")), 11) := rfl
theorem o115 : ow 115 = 11 := congrArg (fun x : PTy => x.2.2.2.2.2) q115
theorem x115 : mxl 115 = 2 := congrArg (fun x : PTy => x.2.2.2.1) q115
theorem r115 : rt 115 = (some (.object "LetterSchool$Thing")) := congrArg (fun x : PTy => x.2.2.2.2.1) q115
theorem q116 : pQ 116 = (iT116, yX11_editionAt, cX11_editionAt, 3, (some (.object "LetterSchool$Edition")), 11) := rfl
theorem o116 : ow 116 = 11 := congrArg (fun x : PTy => x.2.2.2.2.2) q116
theorem x116 : mxl 116 = 3 := congrArg (fun x : PTy => x.2.2.2.1) q116
theorem r116 : rt 116 = (some (.object "LetterSchool$Edition")) := congrArg (fun x : PTy => x.2.2.2.2.1) q116
theorem q117 : pQ 117 = (iT117, yX11_latestFrom, cX11_latestFrom, 3, (some .int), 11) := rfl
theorem o117 : ow 117 = 11 := congrArg (fun x : PTy => x.2.2.2.2.2) q117
theorem x117 : mxl 117 = 3 := congrArg (fun x : PTy => x.2.2.2.1) q117
theorem r117 : rt 117 = (some .int) := congrArg (fun x : PTy => x.2.2.2.2.1) q117
theorem q118 : pQ 118 = (iT118, yX11_inForce, cX11_inForce, 4, (some .int), 11) := rfl
theorem o118 : ow 118 = 11 := congrArg (fun x : PTy => x.2.2.2.2.2) q118
theorem x118 : mxl 118 = 4 := congrArg (fun x : PTy => x.2.2.2.1) q118
theorem r118 : rt 118 = (some .int) := congrArg (fun x : PTy => x.2.2.2.2.1) q118
theorem q119 : pQ 119 = (iT119, yX11_bestByName, cX11_bestByName, 7, (some .int), 11) := rfl
theorem o119 : ow 119 = 11 := congrArg (fun x : PTy => x.2.2.2.2.2) q119
theorem x119 : mxl 119 = 7 := congrArg (fun x : PTy => x.2.2.2.1) q119
theorem r119 : rt 119 = (some .int) := congrArg (fun x : PTy => x.2.2.2.2.1) q119
theorem q120 : pQ 120 = (iT120, yX11_fillBests, cX11_fillBests, 4, none, 11) := rfl
theorem o120 : ow 120 = 11 := congrArg (fun x : PTy => x.2.2.2.2.2) q120
theorem x120 : mxl 120 = 4 := congrArg (fun x : PTy => x.2.2.2.1) q120
theorem r120 : rt 120 = none := congrArg (fun x : PTy => x.2.2.2.2.1) q120
theorem q121 : pQ 121 = (iT121, yX11_carry, cX11_carry, 5, (some .int), 11) := rfl
theorem o121 : ow 121 = 11 := congrArg (fun x : PTy => x.2.2.2.2.2) q121
theorem x121 : mxl 121 = 5 := congrArg (fun x : PTy => x.2.2.2.1) q121
theorem r121 : rt 121 = (some .int) := congrArg (fun x : PTy => x.2.2.2.2.1) q121
theorem q122 : pQ 122 = (iT122, yX11_unload, cX11_unload, 3, none, 11) := rfl
theorem o122 : ow 122 = 11 := congrArg (fun x : PTy => x.2.2.2.2.2) q122
theorem x122 : mxl 122 = 3 := congrArg (fun x : PTy => x.2.2.2.1) q122
theorem r122 : rt 122 = none := congrArg (fun x : PTy => x.2.2.2.2.1) q122
theorem q123 : pQ 123 = (iT123, yX11_knownOn, cX11_knownOn, 3, (some .int), 11) := rfl
theorem o123 : ow 123 = 11 := congrArg (fun x : PTy => x.2.2.2.2.2) q123
theorem x123 : mxl 123 = 3 := congrArg (fun x : PTy => x.2.2.2.1) q123
theorem r123 : rt 123 = (some .int) := congrArg (fun x : PTy => x.2.2.2.2.1) q123
theorem q124 : pQ 124 = (iT124, yX11_shareBy, cX11_shareBy, 3, none, 11) := rfl
theorem o124 : ow 124 = 11 := congrArg (fun x : PTy => x.2.2.2.2.2) q124
theorem x124 : mxl 124 = 3 := congrArg (fun x : PTy => x.2.2.2.1) q124
theorem r124 : rt 124 = none := congrArg (fun x : PTy => x.2.2.2.2.1) q124
theorem q125 : pQ 125 = (iT125, yX11_tutorsFor, cX11_tutorsFor, 4, (some .int), 11) := rfl
theorem o125 : ow 125 = 11 := congrArg (fun x : PTy => x.2.2.2.2.2) q125
theorem x125 : mxl 125 = 4 := congrArg (fun x : PTy => x.2.2.2.1) q125
theorem r125 : rt 125 = (some .int) := congrArg (fun x : PTy => x.2.2.2.2.1) q125
theorem q126 : pQ 126 = (iT126, yX11_areComparable, cX11_areComparable, 2, (some .boolean), 11) := rfl
theorem o126 : ow 126 = 11 := congrArg (fun x : PTy => x.2.2.2.2.2) q126
theorem x126 : mxl 126 = 2 := congrArg (fun x : PTy => x.2.2.2.1) q126
theorem r126 : rt 126 = (some .boolean) := congrArg (fun x : PTy => x.2.2.2.2.1) q126
theorem q127 : pQ 127 = (iT127, yX11_likeness, cX11_likeness, 5, (some .int), 11) := rfl
theorem o127 : ow 127 = 11 := congrArg (fun x : PTy => x.2.2.2.2.2) q127
theorem x127 : mxl 127 = 5 := congrArg (fun x : PTy => x.2.2.2.1) q127
theorem r127 : rt 127 = (some .int) := congrArg (fun x : PTy => x.2.2.2.2.1) q127
theorem q128 : pQ 128 = (iT128, yX11_isDoubted, cX11_isDoubted, 3, (some .boolean), 11) := rfl
theorem o128 : ow 128 = 11 := congrArg (fun x : PTy => x.2.2.2.2.2) q128
theorem x128 : mxl 128 = 3 := congrArg (fun x : PTy => x.2.2.2.1) q128
theorem r128 : rt 128 = (some .boolean) := congrArg (fun x : PTy => x.2.2.2.2.1) q128
theorem q129 : pQ 129 = (iT129, yX12_in, cX12_in, 6, (some .boolean), 12) := rfl
theorem o129 : ow 129 = 12 := congrArg (fun x : PTy => x.2.2.2.2.2) q129
theorem x129 : mxl 129 = 6 := congrArg (fun x : PTy => x.2.2.2.1) q129
theorem r129 : rt 129 = (some .boolean) := congrArg (fun x : PTy => x.2.2.2.2.1) q129
theorem q130 : pQ 130 = (iT130, yX12_init, cX12_init, 2, none, 12) := rfl
theorem o130 : ow 130 = 12 := congrArg (fun x : PTy => x.2.2.2.2.2) q130
theorem x130 : mxl 130 = 2 := congrArg (fun x : PTy => x.2.2.2.1) q130
theorem r130 : rt 130 = none := congrArg (fun x : PTy => x.2.2.2.2.1) q130
theorem n130 : (nam 130).name = "<init>" := congrArg (fun x : PTy => x.2.1.name) q130
theorem q131 : pQ 131 = (iT131, yX12_isDay, cX12_isDay, 1, (some .boolean), 12) := rfl
theorem o131 : ow 131 = 12 := congrArg (fun x : PTy => x.2.2.2.2.2) q131
theorem x131 : mxl 131 = 1 := congrArg (fun x : PTy => x.2.2.2.1) q131
theorem r131 : rt 131 = (some .boolean) := congrArg (fun x : PTy => x.2.2.2.2.1) q131
theorem q132 : pQ 132 = (iT132, yX12_type, cX12_type, 5, (some .int), 12) := rfl
theorem o132 : ow 132 = 12 := congrArg (fun x : PTy => x.2.2.2.2.2) q132
theorem x132 : mxl 132 = 5 := congrArg (fun x : PTy => x.2.2.2.1) q132
theorem r132 : rt 132 = (some .int) := congrArg (fun x : PTy => x.2.2.2.2.1) q132
theorem q133 : pQ 133 = (iT133, yX12_next, cX12_next, 1, (some .int), 12) := rfl
theorem o133 : ow 133 = 12 := congrArg (fun x : PTy => x.2.2.2.2.2) q133
theorem x133 : mxl 133 = 1 := congrArg (fun x : PTy => x.2.2.2.1) q133
theorem r133 : rt 133 = (some .int) := congrArg (fun x : PTy => x.2.2.2.2.1) q133
theorem q134 : pQ 134 = (iT134, yX12_fail, cX12_fail, 2, none, 12) := rfl
theorem o134 : ow 134 = 12 := congrArg (fun x : PTy => x.2.2.2.2.2) q134
theorem x134 : mxl 134 = 2 := congrArg (fun x : PTy => x.2.2.2.1) q134
theorem r134 : rt 134 = none := congrArg (fun x : PTy => x.2.2.2.2.1) q134
theorem q135 : pQ 135 = (iT135, yX12_takes, cX12_takes, 3, (some .boolean), 12) := rfl
theorem o135 : ow 135 = 12 := congrArg (fun x : PTy => x.2.2.2.2.2) q135
theorem x135 : mxl 135 = 3 := congrArg (fun x : PTy => x.2.2.2.1) q135
theorem r135 : rt 135 = (some .boolean) := congrArg (fun x : PTy => x.2.2.2.2.1) q135
theorem q136 : pQ 136 = (iT136, yX12_need, cX12_need, 2, none, 12) := rfl
theorem o136 : ow 136 = 12 := congrArg (fun x : PTy => x.2.2.2.2.2) q136
theorem x136 : mxl 136 = 2 := congrArg (fun x : PTy => x.2.2.2.1) q136
theorem r136 : rt 136 = none := congrArg (fun x : PTy => x.2.2.2.2.1) q136
theorem q137 : pQ 137 = (iT137, yX12_number, cX12_number, 5, (some .int), 12) := rfl
theorem o137 : ow 137 = 12 := congrArg (fun x : PTy => x.2.2.2.2.2) q137
theorem x137 : mxl 137 = 5 := congrArg (fun x : PTy => x.2.2.2.1) q137
theorem r137 : rt 137 = (some .int) := congrArg (fun x : PTy => x.2.2.2.2.1) q137
theorem q138 : pQ 138 = (iT138, yX12_emit, cX12_emit, 2, none, 12) := rfl
theorem o138 : ow 138 = 12 := congrArg (fun x : PTy => x.2.2.2.2.2) q138
theorem x138 : mxl 138 = 2 := congrArg (fun x : PTy => x.2.2.2.1) q138
theorem r138 : rt 138 = none := congrArg (fun x : PTy => x.2.2.2.2.1) q138
theorem q139 : pQ 139 = (iT139, yX12_turnIfTold, cX12_turnIfTold, 1, none, 12) := rfl
theorem o139 : ow 139 = 12 := congrArg (fun x : PTy => x.2.2.2.2.2) q139
theorem x139 : mxl 139 = 1 := congrArg (fun x : PTy => x.2.2.2.1) q139
theorem r139 : rt 139 = none := congrArg (fun x : PTy => x.2.2.2.2.1) q139
theorem q140 : pQ 140 = (iT140, yX12_comeOut, cX12_comeOut, 2, none, 12) := rfl
theorem o140 : ow 140 = 12 := congrArg (fun x : PTy => x.2.2.2.2.2) q140
theorem x140 : mxl 140 = 2 := congrArg (fun x : PTy => x.2.2.2.1) q140
theorem r140 : rt 140 = none := congrArg (fun x : PTy => x.2.2.2.2.1) q140
theorem q141 : pQ 141 = (iT141, yX12_readClaim, cX12_readClaim, 5, (some .int), 12) := rfl
theorem o141 : ow 141 = 12 := congrArg (fun x : PTy => x.2.2.2.2.2) q141
theorem x141 : mxl 141 = 5 := congrArg (fun x : PTy => x.2.2.2.1) q141
theorem r141 : rt 141 = (some .int) := congrArg (fun x : PTy => x.2.2.2.2.1) q141
theorem q142 : pQ 142 = (iT142, yX12_readLeans, cX12_readLeans, 3, none, 12) := rfl
theorem o142 : ow 142 = 12 := congrArg (fun x : PTy => x.2.2.2.2.2) q142
theorem x142 : mxl 142 = 3 := congrArg (fun x : PTy => x.2.2.2.1) q142
theorem r142 : rt 142 = none := congrArg (fun x : PTy => x.2.2.2.2.1) q142
theorem q143 : pQ 143 = (iT143, yX12_readLesson, cX12_readLesson, 3, none, 12) := rfl
theorem o143 : ow 143 = 12 := congrArg (fun x : PTy => x.2.2.2.2.2) q143
theorem x143 : mxl 143 = 3 := congrArg (fun x : PTy => x.2.2.2.1) q143
theorem r143 : rt 143 = none := congrArg (fun x : PTy => x.2.2.2.2.1) q143
theorem q144 : pQ 144 = (iT144, yX12_readEdition, cX12_readEdition, 2, none, 12) := rfl
theorem o144 : ow 144 = 12 := congrArg (fun x : PTy => x.2.2.2.2.2) q144
theorem x144 : mxl 144 = 2 := congrArg (fun x : PTy => x.2.2.2.1) q144
theorem r144 : rt 144 = none := congrArg (fun x : PTy => x.2.2.2.2.1) q144
theorem q145 : pQ 145 = (iT145, yX12_isCourse, cX12_isCourse, 1, (some .boolean), 12) := rfl
theorem o145 : ow 145 = 12 := congrArg (fun x : PTy => x.2.2.2.2.2) q145
theorem x145 : mxl 145 = 1 := congrArg (fun x : PTy => x.2.2.2.1) q145
theorem r145 : rt 145 = (some .boolean) := congrArg (fun x : PTy => x.2.2.2.2.1) q145
theorem q146 : pQ 146 = (iT146, yX12_edition, cX12_edition, 6, (some .int), 12) := rfl
theorem o146 : ow 146 = 12 := congrArg (fun x : PTy => x.2.2.2.2.2) q146
theorem x146 : mxl 146 = 6 := congrArg (fun x : PTy => x.2.2.2.1) q146
theorem r146 : rt 146 = (some .int) := congrArg (fun x : PTy => x.2.2.2.2.1) q146
theorem q147 : pQ 147 = (iT147, yX12_ones, cX12_ones, 3, (some .int), 12) := rfl
theorem o147 : ow 147 = 12 := congrArg (fun x : PTy => x.2.2.2.2.2) q147
theorem x147 : mxl 147 = 3 := congrArg (fun x : PTy => x.2.2.2.1) q147
theorem r147 : rt 147 = (some .int) := congrArg (fun x : PTy => x.2.2.2.2.1) q147
theorem q148 : pQ 148 = (iT148, yX12_isEdition, cX12_isEdition, 3, (some .boolean), 12) := rfl
theorem o148 : ow 148 = 12 := congrArg (fun x : PTy => x.2.2.2.2.2) q148
theorem x148 : mxl 148 = 3 := congrArg (fun x : PTy => x.2.2.2.1) q148
theorem r148 : rt 148 = (some .boolean) := congrArg (fun x : PTy => x.2.2.2.2.1) q148
theorem q149 : pQ 149 = (iT149, yX12_told, cX12_told, 5, (some .int), 12) := rfl
theorem o149 : ow 149 = 12 := congrArg (fun x : PTy => x.2.2.2.2.2) q149
theorem x149 : mxl 149 = 5 := congrArg (fun x : PTy => x.2.2.2.1) q149
theorem r149 : rt 149 = (some .int) := congrArg (fun x : PTy => x.2.2.2.2.1) q149
theorem q150 : pQ 150 = (iT150, yX12_hasLesson, cX12_hasLesson, 3, (some .boolean), 12) := rfl
theorem o150 : ow 150 = 12 := congrArg (fun x : PTy => x.2.2.2.2.2) q150
theorem x150 : mxl 150 = 3 := congrArg (fun x : PTy => x.2.2.2.1) q150
theorem r150 : rt 150 = (some .boolean) := congrArg (fun x : PTy => x.2.2.2.2.1) q150
theorem q151 : pQ 151 = (iT151, yX12_lesson, cX12_lesson, 9, (some .int), 12) := rfl
theorem o151 : ow 151 = 12 := congrArg (fun x : PTy => x.2.2.2.2.2) q151
theorem x151 : mxl 151 = 9 := congrArg (fun x : PTy => x.2.2.2.1) q151
theorem r151 : rt 151 = (some .int) := congrArg (fun x : PTy => x.2.2.2.2.1) q151
theorem q152 : pQ 152 = (iT152, yX12_forceOn, cX12_forceOn, 5, (some .int), 12) := rfl
theorem o152 : ow 152 = 12 := congrArg (fun x : PTy => x.2.2.2.2.2) q152
theorem x152 : mxl 152 = 5 := congrArg (fun x : PTy => x.2.2.2.1) q152
theorem r152 : rt 152 = (some .int) := congrArg (fun x : PTy => x.2.2.2.2.1) q152
theorem q153 : pQ 153 = (iT153, yX12_pupil, cX12_pupil, 5, (some .int), 12) := rfl
theorem o153 : ow 153 = 12 := congrArg (fun x : PTy => x.2.2.2.2.2) q153
theorem x153 : mxl 153 = 5 := congrArg (fun x : PTy => x.2.2.2.1) q153
theorem r153 : rt 153 = (some .int) := congrArg (fun x : PTy => x.2.2.2.2.1) q153
theorem q154 : pQ 154 = (iT154, yX12_isPupil, cX12_isPupil, 2, (some .boolean), 12) := rfl
theorem o154 : ow 154 = 12 := congrArg (fun x : PTy => x.2.2.2.2.2) q154
theorem x154 : mxl 154 = 2 := congrArg (fun x : PTy => x.2.2.2.1) q154
theorem r154 : rt 154 = (some .boolean) := congrArg (fun x : PTy => x.2.2.2.2.1) q154
theorem q155 : pQ 155 = (iT155, yX12_hasLeft, cX12_hasLeft, 3, (some .boolean), 12) := rfl
theorem o155 : ow 155 = 12 := congrArg (fun x : PTy => x.2.2.2.2.2) q155
theorem x155 : mxl 155 = 3 := congrArg (fun x : PTy => x.2.2.2.1) q155
theorem r155 : rt 155 = (some .boolean) := congrArg (fun x : PTy => x.2.2.2.2.1) q155
theorem q156 : pQ 156 = (iT156, yX12_who, cX12_who, 3, (some .int), 12) := rfl
theorem o156 : ow 156 = 12 := congrArg (fun x : PTy => x.2.2.2.2.2) q156
theorem x156 : mxl 156 = 3 := congrArg (fun x : PTy => x.2.2.2.1) q156
theorem r156 : rt 156 = (some .int) := congrArg (fun x : PTy => x.2.2.2.2.1) q156
theorem q157 : pQ 157 = (iT157, yX12_habit, cX12_habit, 4, (some .int), 12) := rfl
theorem o157 : ow 157 = 12 := congrArg (fun x : PTy => x.2.2.2.2.2) q157
theorem x157 : mxl 157 = 4 := congrArg (fun x : PTy => x.2.2.2.1) q157
theorem r157 : rt 157 = (some .int) := congrArg (fun x : PTy => x.2.2.2.2.1) q157
theorem q158 : pQ 158 = (iT158, yX12_findBests, cX12_findBests, 5, none, 12) := rfl
theorem o158 : ow 158 = 12 := congrArg (fun x : PTy => x.2.2.2.2.2) q158
theorem x158 : mxl 158 = 5 := congrArg (fun x : PTy => x.2.2.2.1) q158
theorem r158 : rt 158 = none := congrArg (fun x : PTy => x.2.2.2.2.1) q158
theorem q159 : pQ 159 = (iT159, yX12_bestOf, cX12_bestOf, 3, (some .int), 12) := rfl
theorem o159 : ow 159 = 12 := congrArg (fun x : PTy => x.2.2.2.2.2) q159
theorem x159 : mxl 159 = 3 := congrArg (fun x : PTy => x.2.2.2.1) q159
theorem r159 : rt 159 = (some .int) := congrArg (fun x : PTy => x.2.2.2.2.1) q159
theorem q160 : pQ 160 = (iT160, yX12_isPassed, cX12_isPassed, 3, (some .boolean), 12) := rfl
theorem o160 : ow 160 = 12 := congrArg (fun x : PTy => x.2.2.2.2.2) q160
theorem x160 : mxl 160 = 3 := congrArg (fun x : PTy => x.2.2.2.1) q160
theorem r160 : rt 160 = (some .boolean) := congrArg (fun x : PTy => x.2.2.2.2.1) q160
theorem q161 : pQ 161 = (iT161, yX12_holds, cX12_holds, 7, (some .boolean), 12) := rfl
theorem o161 : ow 161 = 12 := congrArg (fun x : PTy => x.2.2.2.2.2) q161
theorem x161 : mxl 161 = 7 := congrArg (fun x : PTy => x.2.2.2.1) q161
theorem r161 : rt 161 = (some .boolean) := congrArg (fun x : PTy => x.2.2.2.2.1) q161
theorem q162 : pQ 162 = (iT162, yX12_bitsOf, cX12_bitsOf, 7, (some .int), 12) := rfl
theorem o162 : ow 162 = 12 := congrArg (fun x : PTy => x.2.2.2.2.2) q162
theorem x162 : mxl 162 = 7 := congrArg (fun x : PTy => x.2.2.2.1) q162
theorem r162 : rt 162 = (some .int) := congrArg (fun x : PTy => x.2.2.2.2.1) q162
theorem q163 : pQ 163 = (iT163, yX12_best, cX12_best, 5, (some .int), 12) := rfl
theorem o163 : ow 163 = 12 := congrArg (fun x : PTy => x.2.2.2.2.2) q163
theorem x163 : mxl 163 = 5 := congrArg (fun x : PTy => x.2.2.2.1) q163
theorem r163 : rt 163 = (some .int) := congrArg (fun x : PTy => x.2.2.2.2.1) q163
theorem q164 : pQ 164 = (iT164, yX12_may, cX12_may, 3, (some .int), 12) := rfl
theorem o164 : ow 164 = 12 := congrArg (fun x : PTy => x.2.2.2.2.2) q164
theorem x164 : mxl 164 = 3 := congrArg (fun x : PTy => x.2.2.2.1) q164
theorem r164 : rt 164 = (some .int) := congrArg (fun x : PTy => x.2.2.2.2.1) q164
theorem q165 : pQ 165 = (iT165, yX12_findWith, cX12_findWith, 4, none, 12) := rfl
theorem o165 : ow 165 = 12 := congrArg (fun x : PTy => x.2.2.2.2.2) q165
theorem x165 : mxl 165 = 4 := congrArg (fun x : PTy => x.2.2.2.1) q165
theorem r165 : rt 165 = none := congrArg (fun x : PTy => x.2.2.2.2.1) q165
theorem q166 : pQ 166 = (iT166, yX12_lean, cX12_lean, 9, (some .int), 12) := rfl
theorem o166 : ow 166 = 12 := congrArg (fun x : PTy => x.2.2.2.2.2) q166
theorem x166 : mxl 166 = 9 := congrArg (fun x : PTy => x.2.2.2.1) q166
theorem r166 : rt 166 = (some .int) := congrArg (fun x : PTy => x.2.2.2.2.1) q166
theorem q167 : pQ 167 = (iT167, yX12_post, cX12_post, 4, (some .int), 12) := rfl
theorem o167 : ow 167 = 12 := congrArg (fun x : PTy => x.2.2.2.2.2) q167
theorem x167 : mxl 167 = 4 := congrArg (fun x : PTy => x.2.2.2.1) q167
theorem r167 : rt 167 = (some .int) := congrArg (fun x : PTy => x.2.2.2.2.1) q167
theorem q168 : pQ 168 = (iT168, yX12_goes, cX12_goes, 6, none, 12) := rfl
theorem o168 : ow 168 = 12 := congrArg (fun x : PTy => x.2.2.2.2.2) q168
theorem x168 : mxl 168 = 6 := congrArg (fun x : PTy => x.2.2.2.1) q168
theorem r168 : rt 168 = none := congrArg (fun x : PTy => x.2.2.2.2.1) q168
theorem q169 : pQ 169 = (iT169, yX12_send, cX12_send, 5, (some .int), 12) := rfl
theorem o169 : ow 169 = 12 := congrArg (fun x : PTy => x.2.2.2.2.2) q169
theorem x169 : mxl 169 = 5 := congrArg (fun x : PTy => x.2.2.2.1) q169
theorem r169 : rt 169 = (some .int) := congrArg (fun x : PTy => x.2.2.2.2.1) q169
theorem q170 : pQ 170 = (iT170, yX12_isThing, cX12_isThing, 2, (some .boolean), 12) := rfl
theorem o170 : ow 170 = 12 := congrArg (fun x : PTy => x.2.2.2.2.2) q170
theorem x170 : mxl 170 = 2 := congrArg (fun x : PTy => x.2.2.2.1) q170
theorem r170 : rt 170 = (some .boolean) := congrArg (fun x : PTy => x.2.2.2.2.1) q170
theorem q171 : pQ 171 = (iT171, yX12_answer, cX12_answer, 4, (some .int), 12) := rfl
theorem o171 : ow 171 = 12 := congrArg (fun x : PTy => x.2.2.2.2.2) q171
theorem x171 : mxl 171 = 4 := congrArg (fun x : PTy => x.2.2.2.1) q171
theorem r171 : rt 171 = (some .int) := congrArg (fun x : PTy => x.2.2.2.2.1) q171
theorem q172 : pQ 172 = (iT172, yX12_isAnswer, cX12_isAnswer, 2, (some .boolean), 12) := rfl
theorem o172 : ow 172 = 12 := congrArg (fun x : PTy => x.2.2.2.2.2) q172
theorem x172 : mxl 172 = 2 := congrArg (fun x : PTy => x.2.2.2.1) q172
theorem r172 : rt 172 = (some .boolean) := congrArg (fun x : PTy => x.2.2.2.2.1) q172
theorem q173 : pQ 173 = (iT173, yX12_suits, cX12_suits, 3, (some .boolean), 12) := rfl
theorem o173 : ow 173 = 12 := congrArg (fun x : PTy => x.2.2.2.2.2) q173
theorem x173 : mxl 173 = 3 := congrArg (fun x : PTy => x.2.2.2.1) q173
theorem r173 : rt 173 = (some .boolean) := congrArg (fun x : PTy => x.2.2.2.2.1) q173
theorem q174 : pQ 174 = (iT174, yX12_give, cX12_give, 4, (some .int), 12) := rfl
theorem o174 : ow 174 = 12 := congrArg (fun x : PTy => x.2.2.2.2.2) q174
theorem x174 : mxl 174 = 4 := congrArg (fun x : PTy => x.2.2.2.1) q174
theorem r174 : rt 174 = (some .int) := congrArg (fun x : PTy => x.2.2.2.2.1) q174
theorem q175 : pQ 175 = (iT175, yX12_isParts, cX12_isParts, 3, (some .boolean), 12) := rfl
theorem o175 : ow 175 = 12 := congrArg (fun x : PTy => x.2.2.2.2.2) q175
theorem x175 : mxl 175 = 3 := congrArg (fun x : PTy => x.2.2.2.1) q175
theorem r175 : rt 175 = (some .boolean) := congrArg (fun x : PTy => x.2.2.2.2.1) q175
theorem q176 : pQ 176 = (iT176, yX12_isGiven, cX12_isGiven, 3, (some .boolean), 12) := rfl
theorem o176 : ow 176 = 12 := congrArg (fun x : PTy => x.2.2.2.2.2) q176
theorem x176 : mxl 176 = 3 := congrArg (fun x : PTy => x.2.2.2.1) q176
theorem r176 : rt 176 = (some .boolean) := congrArg (fun x : PTy => x.2.2.2.2.1) q176
theorem q177 : pQ 177 = (iT177, yX12_mark, cX12_mark, 6, (some .int), 12) := rfl
theorem o177 : ow 177 = 12 := congrArg (fun x : PTy => x.2.2.2.2.2) q177
theorem x177 : mxl 177 = 6 := congrArg (fun x : PTy => x.2.2.2.1) q177
theorem r177 : rt 177 = (some .int) := congrArg (fun x : PTy => x.2.2.2.2.1) q177
theorem q178 : pQ 178 = (iT178, yX12_again, cX12_again, 3, (some .int), 12) := rfl
theorem o178 : ow 178 = 12 := congrArg (fun x : PTy => x.2.2.2.2.2) q178
theorem x178 : mxl 178 = 3 := congrArg (fun x : PTy => x.2.2.2.1) q178
theorem r178 : rt 178 = (some .int) := congrArg (fun x : PTy => x.2.2.2.2.1) q178
theorem q179 : pQ 179 = (iT179, yX12_second, cX12_second, 6, (some .int), 12) := rfl
theorem o179 : ow 179 = 12 := congrArg (fun x : PTy => x.2.2.2.2.2) q179
theorem x179 : mxl 179 = 6 := congrArg (fun x : PTy => x.2.2.2.1) q179
theorem r179 : rt 179 = (some .int) := congrArg (fun x : PTy => x.2.2.2.2.1) q179
theorem q180 : pQ 180 = (iT180, yX12_thing, cX12_thing, 3, (some .int), 12) := rfl
theorem o180 : ow 180 = 12 := congrArg (fun x : PTy => x.2.2.2.2.2) q180
theorem x180 : mxl 180 = 3 := congrArg (fun x : PTy => x.2.2.2.1) q180
theorem r180 : rt 180 = (some .int) := congrArg (fun x : PTy => x.2.2.2.2.1) q180
theorem q181 : pQ 181 = (iT181, yX12_knownOn, cX12_knownOn, 2, (some .int), 12) := rfl
theorem o181 : ow 181 = 12 := congrArg (fun x : PTy => x.2.2.2.2.2) q181
theorem x181 : mxl 181 = 2 := congrArg (fun x : PTy => x.2.2.2.1) q181
theorem r181 : rt 181 = (some .int) := congrArg (fun x : PTy => x.2.2.2.2.1) q181
theorem q182 : pQ 182 = (iT182, yX12_marks, cX12_marks, 3, (some .int), 12) := rfl
theorem o182 : ow 182 = 12 := congrArg (fun x : PTy => x.2.2.2.2.2) q182
theorem x182 : mxl 182 = 3 := congrArg (fun x : PTy => x.2.2.2.1) q182
theorem r182 : rt 182 = (some .int) := congrArg (fun x : PTy => x.2.2.2.2.1) q182
theorem q183 : pQ 183 = (iT183, yX12_count, cX12_count, 4, (some .int), 12) := rfl
theorem o183 : ow 183 = 12 := congrArg (fun x : PTy => x.2.2.2.2.2) q183
theorem x183 : mxl 183 = 4 := congrArg (fun x : PTy => x.2.2.2.1) q183
theorem r183 : rt 183 = (some .int) := congrArg (fun x : PTy => x.2.2.2.2.1) q183
theorem q184 : pQ 184 = (iT184, yX12_tutor, cX12_tutor, 3, (some .int), 12) := rfl
theorem o184 : ow 184 = 12 := congrArg (fun x : PTy => x.2.2.2.2.2) q184
theorem x184 : mxl 184 = 3 := congrArg (fun x : PTy => x.2.2.2.1) q184
theorem r184 : rt 184 = (some .int) := congrArg (fun x : PTy => x.2.2.2.2.1) q184
theorem q185 : pQ 185 = (iT185, yX12_isTutor, cX12_isTutor, 2, (some .boolean), 12) := rfl
theorem o185 : ow 185 = 12 := congrArg (fun x : PTy => x.2.2.2.2.2) q185
theorem x185 : mxl 185 = 2 := congrArg (fun x : PTy => x.2.2.2.1) q185
theorem r185 : rt 185 = (some .boolean) := congrArg (fun x : PTy => x.2.2.2.2.1) q185
theorem q186 : pQ 186 = (iT186, yX12_kin, cX12_kin, 4, (some .int), 12) := rfl
theorem o186 : ow 186 = 12 := congrArg (fun x : PTy => x.2.2.2.2.2) q186
theorem x186 : mxl 186 = 4 := congrArg (fun x : PTy => x.2.2.2.1) q186
theorem r186 : rt 186 = (some .int) := congrArg (fun x : PTy => x.2.2.2.2.1) q186
theorem q187 : pQ 187 = (iT187, yX12_load, cX12_load, 2, (some .int), 12) := rfl
theorem o187 : ow 187 = 12 := congrArg (fun x : PTy => x.2.2.2.2.2) q187
theorem x187 : mxl 187 = 2 := congrArg (fun x : PTy => x.2.2.2.1) q187
theorem r187 : rt 187 = (some .int) := congrArg (fun x : PTy => x.2.2.2.2.1) q187
theorem q188 : pQ 188 = (iT188, yX12_daysFor, cX12_daysFor, 3, (some .int), 12) := rfl
theorem o188 : ow 188 = 12 := congrArg (fun x : PTy => x.2.2.2.2.2) q188
theorem x188 : mxl 188 = 3 := congrArg (fun x : PTy => x.2.2.2.1) q188
theorem r188 : rt 188 = (some .int) := congrArg (fun x : PTy => x.2.2.2.2.1) q188
theorem q189 : pQ 189 = (iT189, yX12_wait, cX12_wait, 3, (some .int), 12) := rfl
theorem o189 : ow 189 = 12 := congrArg (fun x : PTy => x.2.2.2.2.2) q189
theorem x189 : mxl 189 = 3 := congrArg (fun x : PTy => x.2.2.2.1) q189
theorem r189 : rt 189 = (some .int) := congrArg (fun x : PTy => x.2.2.2.2.1) q189
theorem q190 : pQ 190 = (iT190, yX12_took, cX12_took, 2, (some .int), 12) := rfl
theorem o190 : ow 190 = 12 := congrArg (fun x : PTy => x.2.2.2.2.2) q190
theorem x190 : mxl 190 = 2 := congrArg (fun x : PTy => x.2.2.2.1) q190
theorem r190 : rt 190 = (some .int) := congrArg (fun x : PTy => x.2.2.2.2.1) q190
theorem q191 : pQ 191 = (iT191, yX12_look, cX12_look, 3, none, 12) := rfl
theorem o191 : ow 191 = 12 := congrArg (fun x : PTy => x.2.2.2.2.2) q191
theorem x191 : mxl 191 = 3 := congrArg (fun x : PTy => x.2.2.2.1) q191
theorem r191 : rt 191 = none := congrArg (fun x : PTy => x.2.2.2.2.1) q191
theorem q192 : pQ 192 = (iT192, yX12_step, cX12_step, 2, (some .boolean), 12) := rfl
theorem o192 : ow 192 = 12 := congrArg (fun x : PTy => x.2.2.2.2.2) q192
theorem x192 : mxl 192 = 2 := congrArg (fun x : PTy => x.2.2.2.1) q192
theorem r192 : rt 192 = (some .boolean) := congrArg (fun x : PTy => x.2.2.2.2.1) q192
theorem q193 : pQ 193 = (iT193, yX12_findShare, cX12_findShare, 4, none, 12) := rfl
theorem o193 : ow 193 = 12 := congrArg (fun x : PTy => x.2.2.2.2.2) q193
theorem x193 : mxl 193 = 4 := congrArg (fun x : PTy => x.2.2.2.1) q193
theorem r193 : rt 193 = none := congrArg (fun x : PTy => x.2.2.2.2.1) q193
theorem q194 : pQ 194 = (iT194, yX12_share, cX12_share, 3, (some .int), 12) := rfl
theorem o194 : ow 194 = 12 := congrArg (fun x : PTy => x.2.2.2.2.2) q194
theorem x194 : mxl 194 = 3 := congrArg (fun x : PTy => x.2.2.2.1) q194
theorem r194 : rt 194 = (some .int) := congrArg (fun x : PTy => x.2.2.2.2.1) q194
theorem q195 : pQ 195 = (iT195, yX12_shareOf, cX12_shareOf, 5, (some .int), 12) := rfl
theorem o195 : ow 195 = 12 := congrArg (fun x : PTy => x.2.2.2.2.2) q195
theorem x195 : mxl 195 = 5 := congrArg (fun x : PTy => x.2.2.2.1) q195
theorem r195 : rt 195 = (some .int) := congrArg (fun x : PTy => x.2.2.2.2.1) q195
theorem q196 : pQ 196 = (iT196, yX12_offset, cX12_offset, 12, (some .int), 12) := rfl
theorem o196 : ow 196 = 12 := congrArg (fun x : PTy => x.2.2.2.2.2) q196
theorem x196 : mxl 196 = 12 := congrArg (fun x : PTy => x.2.2.2.1) q196
theorem r196 : rt 196 = (some .int) := congrArg (fun x : PTy => x.2.2.2.2.1) q196
theorem q197 : pQ 197 = (iT197, yX12_key, cX12_key, 5, (some .int), 12) := rfl
theorem o197 : ow 197 = 12 := congrArg (fun x : PTy => x.2.2.2.2.2) q197
theorem x197 : mxl 197 = 5 := congrArg (fun x : PTy => x.2.2.2.1) q197
theorem r197 : rt 197 = (some .int) := congrArg (fun x : PTy => x.2.2.2.2.1) q197
theorem q198 : pQ 198 = (iT198, yX12_choose, cX12_choose, 5, (some .int), 12) := rfl
theorem o198 : ow 198 = 12 := congrArg (fun x : PTy => x.2.2.2.2.2) q198
theorem x198 : mxl 198 = 5 := congrArg (fun x : PTy => x.2.2.2.1) q198
theorem r198 : rt 198 = (some .int) := congrArg (fun x : PTy => x.2.2.2.2.1) q198
theorem q199 : pQ 199 = (iT199, yX12_likeOf, cX12_likeOf, 6, (some .int), 12) := rfl
theorem o199 : ow 199 = 12 := congrArg (fun x : PTy => x.2.2.2.2.2) q199
theorem x199 : mxl 199 = 6 := congrArg (fun x : PTy => x.2.2.2.1) q199
theorem r199 : rt 199 = (some .int) := congrArg (fun x : PTy => x.2.2.2.2.1) q199
theorem q200 : pQ 200 = (iT200, yX12_like, cX12_like, 3, (some .int), 12) := rfl
theorem o200 : ow 200 = 12 := congrArg (fun x : PTy => x.2.2.2.2.2) q200
theorem x200 : mxl 200 = 3 := congrArg (fun x : PTy => x.2.2.2.1) q200
theorem r200 : rt 200 = (some .int) := congrArg (fun x : PTy => x.2.2.2.2.1) q200
theorem q201 : pQ 201 = (iT201, yX12_limit, cX12_limit, 3, (some .int), 12) := rfl
theorem o201 : ow 201 = 12 := congrArg (fun x : PTy => x.2.2.2.2.2) q201
theorem x201 : mxl 201 = 3 := congrArg (fun x : PTy => x.2.2.2.1) q201
theorem r201 : rt 201 = (some .int) := congrArg (fun x : PTy => x.2.2.2.2.1) q201
theorem q202 : pQ 202 = (iT202, yX12_doubted, cX12_doubted, 5, (some .int), 12) := rfl
theorem o202 : ow 202 = 12 := congrArg (fun x : PTy => x.2.2.2.2.2) q202
theorem x202 : mxl 202 = 5 := congrArg (fun x : PTy => x.2.2.2.1) q202
theorem r202 : rt 202 = (some .int) := congrArg (fun x : PTy => x.2.2.2.2.1) q202
theorem q203 : pQ 203 = (iT203, yX12_readFees, cX12_readFees, 4, (some .int), 12) := rfl
theorem o203 : ow 203 = 12 := congrArg (fun x : PTy => x.2.2.2.2.2) q203
theorem x203 : mxl 203 = 4 := congrArg (fun x : PTy => x.2.2.2.1) q203
theorem r203 : rt 203 = (some .int) := congrArg (fun x : PTy => x.2.2.2.2.1) q203
theorem q204 : pQ 204 = (iT204, yX12_fees, cX12_fees, 4, (some .int), 12) := rfl
theorem o204 : ow 204 = 12 := congrArg (fun x : PTy => x.2.2.2.2.2) q204
theorem x204 : mxl 204 = 4 := congrArg (fun x : PTy => x.2.2.2.1) q204
theorem r204 : rt 204 = (some .int) := congrArg (fun x : PTy => x.2.2.2.2.1) q204
theorem q205 : pQ 205 = (iT205, yX12_pay, cX12_pay, 4, (some .int), 12) := rfl
theorem o205 : ow 205 = 12 := congrArg (fun x : PTy => x.2.2.2.2.2) q205
theorem x205 : mxl 205 = 4 := congrArg (fun x : PTy => x.2.2.2.1) q205
theorem r205 : rt 205 = (some .int) := congrArg (fun x : PTy => x.2.2.2.2.1) q205
theorem q206 : pQ 206 = (iT206, yX12_paidBy, cX12_paidBy, 6, (some .long), 12) := rfl
theorem o206 : ow 206 = 12 := congrArg (fun x : PTy => x.2.2.2.2.2) q206
theorem x206 : mxl 206 = 6 := congrArg (fun x : PTy => x.2.2.2.1) q206
theorem r206 : rt 206 = (some .long) := congrArg (fun x : PTy => x.2.2.2.2.1) q206
theorem q207 : pQ 207 = (iT207, yX12_due, cX12_due, 7, (some .int), 12) := rfl
theorem o207 : ow 207 = 12 := congrArg (fun x : PTy => x.2.2.2.2.2) q207
theorem x207 : mxl 207 = 7 := congrArg (fun x : PTy => x.2.2.2.1) q207
theorem r207 : rt 207 = (some .int) := congrArg (fun x : PTy => x.2.2.2.2.1) q207
theorem q208 : pQ 208 = (iT208, yX12_leave, cX12_leave, 5, (some .int), 12) := rfl
theorem o208 : ow 208 = 12 := congrArg (fun x : PTy => x.2.2.2.2.2) q208
theorem x208 : mxl 208 = 5 := congrArg (fun x : PTy => x.2.2.2.1) q208
theorem r208 : rt 208 = (some .int) := congrArg (fun x : PTy => x.2.2.2.2.1) q208
theorem q209 : pQ 209 = (iT209, yX12_move, cX12_move, 5, (some .int), 12) := rfl
theorem o209 : ow 209 = 12 := congrArg (fun x : PTy => x.2.2.2.2.2) q209
theorem x209 : mxl 209 = 5 := congrArg (fun x : PTy => x.2.2.2.1) q209
theorem r209 : rt 209 = (some .int) := congrArg (fun x : PTy => x.2.2.2.2.1) q209
theorem q210 : pQ 210 = (iT210, yX12_isSheet, cX12_isSheet, 2, (some .boolean), 12) := rfl
theorem o210 : ow 210 = 12 := congrArg (fun x : PTy => x.2.2.2.2.2) q210
theorem x210 : mxl 210 = 2 := congrArg (fun x : PTy => x.2.2.2.1) q210
theorem r210 : rt 210 = (some .boolean) := congrArg (fun x : PTy => x.2.2.2.2.1) q210
theorem q211 : pQ 211 = (iT211, yX12_sheet, cX12_sheet, 5, (some .int), 12) := rfl
theorem o211 : ow 211 = 12 := congrArg (fun x : PTy => x.2.2.2.2.2) q211
theorem x211 : mxl 211 = 5 := congrArg (fun x : PTy => x.2.2.2.1) q211
theorem r211 : rt 211 = (some .int) := congrArg (fun x : PTy => x.2.2.2.2.1) q211
theorem q212 : pQ 212 = (iT212, yX12_drop, cX12_drop, 2, (some .int), 12) := rfl
theorem o212 : ow 212 = 12 := congrArg (fun x : PTy => x.2.2.2.2.2) q212
theorem x212 : mxl 212 = 2 := congrArg (fun x : PTy => x.2.2.2.1) q212
theorem r212 : rt 212 = (some .int) := congrArg (fun x : PTy => x.2.2.2.2.1) q212
theorem q213 : pQ 213 = (iT213, yX12_against, cX12_against, 5, (some .int), 12) := rfl
theorem o213 : ow 213 = 12 := congrArg (fun x : PTy => x.2.2.2.2.2) q213
theorem x213 : mxl 213 = 5 := congrArg (fun x : PTy => x.2.2.2.1) q213
theorem r213 : rt 213 = (some .int) := congrArg (fun x : PTy => x.2.2.2.2.1) q213
theorem q214 : pQ 214 = (iT214, yX12_item, cX12_item, 6, (some .int), 12) := rfl
theorem o214 : ow 214 = 12 := congrArg (fun x : PTy => x.2.2.2.2.2) q214
theorem x214 : mxl 214 = 6 := congrArg (fun x : PTy => x.2.2.2.1) q214
theorem r214 : rt 214 = (some .int) := congrArg (fun x : PTy => x.2.2.2.2.1) q214
theorem q215 : pQ 215 = (iT215, yX12_choices, cX12_choices, 9, (some .int), 12) := rfl
theorem o215 : ow 215 = 12 := congrArg (fun x : PTy => x.2.2.2.2.2) q215
theorem x215 : mxl 215 = 9 := congrArg (fun x : PTy => x.2.2.2.1) q215
theorem r215 : rt 215 = (some .int) := congrArg (fun x : PTy => x.2.2.2.2.1) q215
theorem q216 : pQ 216 = (iT216, yJ6_bitCount_0f7a4, cJ6_bitCount_0f7a4, 1, (some .int), 14) := rfl
theorem o216 : ow 216 = 14 := congrArg (fun x : PTy => x.2.2.2.2.2) q216
theorem x216 : mxl 216 = 1 := congrArg (fun x : PTy => x.2.2.2.1) q216
theorem r216 : rt 216 = (some .int) := congrArg (fun x : PTy => x.2.2.2.2.1) q216
theorem q217 : pQ 217 = (iT217, yJ7_fill_53178, cJ7_fill_53178, 4, none, 17) := rfl
theorem o217 : ow 217 = 17 := congrArg (fun x : PTy => x.2.2.2.2.2) q217
theorem x217 : mxl 217 = 4 := congrArg (fun x : PTy => x.2.2.2.1) q217
theorem r217 : rt 217 = none := congrArg (fun x : PTy => x.2.2.2.2.1) q217
theorem q218 : pQ 218 = (iT218, yL_law, cL_law, 4, (some .boolean), 13) := rfl
theorem o218 : ow 218 = 13 := congrArg (fun x : PTy => x.2.2.2.2.2) q218
theorem x218 : mxl 218 = 4 := congrArg (fun x : PTy => x.2.2.2.1) q218
theorem r218 : rt 218 = (some .boolean) := congrArg (fun x : PTy => x.2.2.2.2.1) q218
theorem f0_9 : fldQ 0 9 = some (0, 0, 0) := rfl
theorem f0_15 : fldQ 0 15 = some (0, 1, 0) := rfl
theorem f0_18 : fldQ 0 18 = some (0, 2, 0) := rfl
theorem f0_22 : fldQ 0 22 = some (0, 3, 0) := rfl
theorem f0_25 : fldQ 0 25 = some (0, 4, 0) := rfl
theorem f0_28 : fldQ 0 28 = some (0, 5, 0) := rfl
theorem f0_31 : fldQ 0 31 = some (0, 6, 0) := rfl
theorem f0_36 : fldQ 0 36 = some (0, 7, 0) := rfl
theorem f0_40 : fldQ 0 40 = some (0, 8, 0) := rfl
theorem f1_7 : fldQ 1 7 = some (1, 0, 0) := rfl
theorem f1_13 : fldQ 1 13 = some (1, 1, 0) := rfl
theorem f1_17 : fldQ 1 17 = some (1, 2, 0) := rfl
theorem f1_21 : fldQ 1 21 = some (1, 3, 0) := rfl
theorem f2_9 : fldQ 2 9 = some (2, 0, 0) := rfl
theorem f2_15 : fldQ 2 15 = some (2, 1, 0) := rfl
theorem f2_19 : fldQ 2 19 = some (2, 2, 0) := rfl
theorem f2_23 : fldQ 2 23 = some (2, 3, 0) := rfl
theorem f3_7 : fldQ 3 7 = some (3, 0, 0) := rfl
theorem f3_13 : fldQ 3 13 = some (3, 1, 0) := rfl
theorem f3_16 : fldQ 3 16 = some (3, 2, 0) := rfl
theorem f4_9 : fldQ 4 9 = some (4, 5, 0) := rfl
theorem f4_15 : fldQ 4 15 = some (4, 6, 0) := rfl
theorem f4_18 : fldQ 4 18 = some (4, 0, 0) := rfl
theorem f4_21 : fldQ 4 21 = some (4, 1, 0) := rfl
theorem f4_24 : fldQ 4 24 = some (4, 2, 0) := rfl
theorem f4_27 : fldQ 4 27 = some (4, 3, 0) := rfl
theorem f4_30 : fldQ 4 30 = some (4, 4, 0) := rfl
theorem f5_9 : fldQ 5 9 = some (5, 0, 0) := rfl
theorem f5_15 : fldQ 5 15 = some (5, 1, 0) := rfl
theorem f5_18 : fldQ 5 18 = some (5, 2, 0) := rfl
theorem f5_21 : fldQ 5 21 = some (5, 3, 0) := rfl
theorem f5_24 : fldQ 5 24 = some (5, 4, 0) := rfl
theorem f5_27 : fldQ 5 27 = some (5, 5, 0) := rfl
theorem f5_30 : fldQ 5 30 = some (5, 6, 0) := rfl
theorem f5_33 : fldQ 5 33 = some (5, 7, 0) := rfl
theorem f5_36 : fldQ 5 36 = some (5, 8, 0) := rfl
theorem f5_40 : fldQ 5 40 = some (5, 9, 0) := rfl
theorem f5_43 : fldQ 5 43 = some (5, 10, 0) := rfl
theorem f5_46 : fldQ 5 46 = some (5, 11, 0) := rfl
theorem f5_49 : fldQ 5 49 = some (9, 3, 1) := rfl
theorem f5_53 : fldQ 5 53 = some (9, 1, 1) := rfl
theorem f6_11 : fldQ 6 11 = some (6, 0, 0) := rfl
theorem f6_15 : fldQ 6 15 = some (6, 1, 0) := rfl
theorem f6_18 : fldQ 6 18 = some (6, 2, 0) := rfl
theorem f7_11 : fldQ 7 11 = some (7, 0, 0) := rfl
theorem f7_15 : fldQ 7 15 = some (7, 1, 0) := rfl
theorem f7_19 : fldQ 7 19 = some (7, 2, 0) := rfl
theorem f7_88 : fldQ 7 88 = some (1, 0, 1) := rfl
theorem f8_9 : fldQ 8 9 = some (8, 4, 0) := rfl
theorem f8_15 : fldQ 8 15 = some (8, 5, 0) := rfl
theorem f8_19 : fldQ 8 19 = some (8, 6, 0) := rfl
theorem f8_22 : fldQ 8 22 = some (8, 7, 0) := rfl
theorem f8_25 : fldQ 8 25 = some (8, 8, 0) := rfl
theorem f8_28 : fldQ 8 28 = some (8, 9, 0) := rfl
theorem f8_31 : fldQ 8 31 = some (8, 10, 0) := rfl
theorem f8_34 : fldQ 8 34 = some (8, 11, 0) := rfl
theorem f8_37 : fldQ 8 37 = some (8, 12, 0) := rfl
theorem f8_40 : fldQ 8 40 = some (8, 13, 0) := rfl
theorem f8_43 : fldQ 8 43 = some (8, 14, 0) := rfl
theorem f8_46 : fldQ 8 46 = some (8, 0, 0) := rfl
theorem f8_49 : fldQ 8 49 = some (8, 1, 0) := rfl
theorem f8_52 : fldQ 8 52 = some (8, 2, 0) := rfl
theorem f8_55 : fldQ 8 55 = some (8, 3, 0) := rfl
theorem f9_7 : fldQ 9 7 = some (9, 2, 0) := rfl
theorem f9_13 : fldQ 9 13 = some (9, 3, 0) := rfl
theorem f9_16 : fldQ 9 16 = some (9, 0, 0) := rfl
theorem f9_19 : fldQ 9 19 = some (9, 1, 0) := rfl
theorem f9_22 : fldQ 9 22 = some (8, 1, 1) := rfl
theorem f9_27 : fldQ 9 27 = some (8, 0, 1) := rfl
theorem f10_11 : fldQ 10 11 = some (10, 0, 0) := rfl
theorem f10_15 : fldQ 10 15 = some (10, 1, 0) := rfl
theorem f10_18 : fldQ 10 18 = some (10, 2, 0) := rfl
theorem f11_10 : fldQ 11 10 = some (11, 0, 0) := rfl
theorem f11_18 : fldQ 11 18 = some (11, 1, 0) := rfl
theorem f11_22 : fldQ 11 22 = some (11, 2, 0) := rfl
theorem f11_28 : fldQ 11 28 = some (11, 3, 0) := rfl
theorem f11_33 : fldQ 11 33 = some (11, 4, 0) := rfl
theorem f11_38 : fldQ 11 38 = some (11, 5, 0) := rfl
theorem f11_44 : fldQ 11 44 = some (11, 6, 0) := rfl
theorem f11_48 : fldQ 11 48 = some (11, 7, 0) := rfl
theorem f11_54 : fldQ 11 54 = some (11, 8, 0) := rfl
theorem f11_58 : fldQ 11 58 = some (11, 9, 0) := rfl
theorem f11_63 : fldQ 11 63 = some (11, 10, 0) := rfl
theorem f11_67 : fldQ 11 67 = some (11, 11, 0) := rfl
theorem f11_72 : fldQ 11 72 = some (11, 12, 0) := rfl
theorem f11_79 : fldQ 11 79 = some (11, 13, 0) := rfl
theorem f11_83 : fldQ 11 83 = some (11, 14, 0) := rfl
theorem f11_87 : fldQ 11 87 = some (11, 15, 0) := rfl
theorem f11_92 : fldQ 11 92 = some (11, 16, 0) := rfl
theorem f11_99 : fldQ 11 99 = some (11, 17, 0) := rfl
theorem f11_106 : fldQ 11 106 = some (11, 18, 0) := rfl
theorem f11_110 : fldQ 11 110 = some (11, 19, 0) := rfl
theorem f11_115 : fldQ 11 115 = some (7, 1, 1) := rfl
theorem f11_138 : fldQ 11 138 = some (7, 2, 1) := rfl
theorem f11_141 : fldQ 11 141 = some (0, 0, 1) := rfl
theorem f11_148 : fldQ 11 148 = some (0, 1, 1) := rfl
theorem f11_159 : fldQ 11 159 = some (0, 2, 1) := rfl
theorem f11_162 : fldQ 11 162 = some (0, 3, 1) := rfl
theorem f11_165 : fldQ 11 165 = some (0, 4, 1) := rfl
theorem f11_179 : fldQ 11 179 = some (4, 0, 1) := rfl
theorem f11_180 : fldQ 11 180 = some (4, 2, 1) := rfl
theorem f11_183 : fldQ 11 183 = some (4, 3, 1) := rfl
theorem f11_186 : fldQ 11 186 = some (4, 1, 1) := rfl
theorem f11_189 : fldQ 11 189 = some (4, 5, 1) := rfl
theorem f11_192 : fldQ 11 192 = some (4, 6, 1) := rfl
theorem f11_198 : fldQ 11 198 = some (4, 4, 1) := rfl
theorem f11_220 : fldQ 11 220 = some (3, 0, 1) := rfl
theorem f11_223 : fldQ 11 223 = some (3, 1, 1) := rfl
theorem f11_226 : fldQ 11 226 = some (3, 2, 1) := rfl
theorem f11_243 : fldQ 11 243 = some (8, 5, 1) := rfl
theorem f11_246 : fldQ 11 246 = some (8, 0, 1) := rfl
theorem f11_249 : fldQ 11 249 = some (8, 7, 1) := rfl
theorem f11_267 : fldQ 11 267 = some (9, 3, 1) := rfl
theorem f11_270 : fldQ 11 270 = some (8, 8, 1) := rfl
theorem f11_273 : fldQ 11 273 = some (8, 9, 1) := rfl
theorem f11_290 : fldQ 11 290 = some (8, 11, 1) := rfl
theorem f11_293 : fldQ 11 293 = some (8, 12, 1) := rfl
theorem f11_296 : fldQ 11 296 = some (8, 10, 1) := rfl
theorem f11_299 : fldQ 11 299 = some (8, 13, 1) := rfl
theorem f11_302 : fldQ 11 302 = some (8, 14, 1) := rfl
theorem f11_305 : fldQ 11 305 = some (8, 1, 1) := rfl
theorem f11_307 : fldQ 11 307 = some (8, 2, 1) := rfl
theorem f11_310 : fldQ 11 310 = some (8, 6, 1) := rfl
theorem f11_320 : fldQ 11 320 = some (9, 2, 1) := rfl
theorem f11_323 : fldQ 11 323 = some (9, 1, 1) := rfl
theorem f11_329 : fldQ 11 329 = some (8, 3, 1) := rfl
theorem f11_335 : fldQ 11 335 = some (5, 10, 1) := rfl
theorem f11_338 : fldQ 11 338 = some (5, 11, 1) := rfl
theorem f11_355 : fldQ 11 355 = some (8, 4, 1) := rfl
theorem f11_373 : fldQ 11 373 = some (1, 0, 1) := rfl
theorem f11_394 : fldQ 11 394 = some (6, 0, 1) := rfl
theorem f11_397 : fldQ 11 397 = some (6, 1, 1) := rfl
theorem f11_406 : fldQ 11 406 = some (6, 2, 1) := rfl
theorem f12_7 : fldQ 12 7 = some (12, 0, 0) := rfl
theorem f12_13 : fldQ 12 13 = some (12, 4, 0) := rfl
theorem f12_16 : fldQ 12 16 = some (12, 5, 0) := rfl
theorem f12_19 : fldQ 12 19 = some (12, 6, 0) := rfl
theorem f12_22 : fldQ 12 22 = some (12, 7, 0) := rfl
theorem f12_25 : fldQ 12 25 = some (12, 8, 0) := rfl
theorem f12_28 : fldQ 12 28 = some (12, 13, 0) := rfl
theorem f12_31 : fldQ 12 31 = some (12, 15, 0) := rfl
theorem f12_34 : fldQ 12 34 = some (12, 16, 0) := rfl
theorem f12_37 : fldQ 12 37 = some (12, 17, 0) := rfl
theorem f12_40 : fldQ 12 40 = some (12, 18, 0) := rfl
theorem f12_43 : fldQ 12 43 = some (12, 19, 0) := rfl
theorem f12_46 : fldQ 12 46 = some (12, 20, 0) := rfl
theorem f12_49 : fldQ 12 49 = some (12, 21, 0) := rfl
theorem f12_52 : fldQ 12 52 = some (12, 22, 0) := rfl
theorem f12_55 : fldQ 12 55 = some (12, 24, 0) := rfl
theorem f12_58 : fldQ 12 58 = some (12, 25, 0) := rfl
theorem f12_61 : fldQ 12 61 = some (12, 26, 0) := rfl
theorem f12_64 : fldQ 12 64 = some (12, 27, 0) := rfl
theorem f12_67 : fldQ 12 67 = some (12, 28, 0) := rfl
theorem f12_70 : fldQ 12 70 = some (12, 29, 0) := rfl
theorem f12_74 : fldQ 12 74 = some (12, 30, 0) := rfl
theorem f12_77 : fldQ 12 77 = some (12, 31, 0) := rfl
theorem f12_80 : fldQ 12 80 = some (12, 32, 0) := rfl
theorem f12_84 : fldQ 12 84 = some (12, 33, 0) := rfl
theorem f12_87 : fldQ 12 87 = some (12, 34, 0) := rfl
theorem f12_90 : fldQ 12 90 = some (12, 35, 0) := rfl
theorem f12_93 : fldQ 12 93 = some (12, 36, 0) := rfl
theorem f12_96 : fldQ 12 96 = some (12, 37, 0) := rfl
theorem f12_99 : fldQ 12 99 = some (12, 39, 0) := rfl
theorem f12_102 : fldQ 12 102 = some (12, 40, 0) := rfl
theorem f12_105 : fldQ 12 105 = some (12, 41, 0) := rfl
theorem f12_108 : fldQ 12 108 = some (12, 42, 0) := rfl
theorem f12_111 : fldQ 12 111 = some (12, 43, 0) := rfl
theorem f12_114 : fldQ 12 114 = some (12, 44, 0) := rfl
theorem f12_117 : fldQ 12 117 = some (12, 45, 0) := rfl
theorem f12_120 : fldQ 12 120 = some (12, 46, 0) := rfl
theorem f12_123 : fldQ 12 123 = some (12, 47, 0) := rfl
theorem f12_126 : fldQ 12 126 = some (12, 48, 0) := rfl
theorem f12_129 : fldQ 12 129 = some (12, 49, 0) := rfl
theorem f12_132 : fldQ 12 132 = some (12, 50, 0) := rfl
theorem f12_135 : fldQ 12 135 = some (12, 51, 0) := rfl
theorem f12_138 : fldQ 12 138 = some (12, 52, 0) := rfl
theorem f12_141 : fldQ 12 141 = some (12, 53, 0) := rfl
theorem f12_144 : fldQ 12 144 = some (12, 55, 0) := rfl
theorem f12_147 : fldQ 12 147 = some (12, 56, 0) := rfl
theorem f12_150 : fldQ 12 150 = some (12, 57, 0) := rfl
theorem f12_153 : fldQ 12 153 = some (12, 58, 0) := rfl
theorem f12_156 : fldQ 12 156 = some (12, 60, 0) := rfl
theorem f12_159 : fldQ 12 159 = some (12, 61, 0) := rfl
theorem f12_162 : fldQ 12 162 = some (12, 62, 0) := rfl
theorem f12_165 : fldQ 12 165 = some (12, 63, 0) := rfl
theorem f12_168 : fldQ 12 168 = some (12, 68, 0) := rfl
theorem f12_171 : fldQ 12 171 = some (12, 69, 0) := rfl
theorem f12_175 : fldQ 12 175 = some (12, 70, 0) := rfl
theorem f12_178 : fldQ 12 178 = some (12, 71, 0) := rfl
theorem f12_181 : fldQ 12 181 = some (12, 72, 0) := rfl
theorem f12_184 : fldQ 12 184 = some (12, 73, 0) := rfl
theorem f12_187 : fldQ 12 187 = some (12, 74, 0) := rfl
theorem f12_190 : fldQ 12 190 = some (12, 75, 0) := rfl
theorem f12_193 : fldQ 12 193 = some (12, 76, 0) := rfl
theorem f12_196 : fldQ 12 196 = some (12, 77, 0) := rfl
theorem f12_199 : fldQ 12 199 = some (12, 78, 0) := rfl
theorem f12_202 : fldQ 12 202 = some (12, 79, 0) := rfl
theorem f12_205 : fldQ 12 205 = some (12, 80, 0) := rfl
theorem f12_208 : fldQ 12 208 = some (12, 81, 0) := rfl
theorem f12_225 : fldQ 12 225 = some (12, 1, 0) := rfl
theorem f12_228 : fldQ 12 228 = some (12, 2, 0) := rfl
theorem f12_231 : fldQ 12 231 = some (12, 3, 0) := rfl
theorem f12_251 : fldQ 12 251 = some (12, 9, 0) := rfl
theorem f12_254 : fldQ 12 254 = some (12, 14, 0) := rfl
theorem f12_264 : fldQ 12 264 = some (12, 11, 0) := rfl
theorem f12_282 : fldQ 12 282 = some (12, 10, 0) := rfl
theorem f12_291 : fldQ 12 291 = some (12, 12, 0) := rfl
theorem f12_326 : fldQ 12 326 = some (12, 23, 0) := rfl
theorem f12_334 : fldQ 12 334 = some (12, 38, 0) := rfl
theorem f12_389 : fldQ 12 389 = some (12, 54, 0) := rfl
theorem f12_399 : fldQ 12 399 = some (12, 66, 0) := rfl
theorem f12_402 : fldQ 12 402 = some (12, 67, 0) := rfl
theorem f12_405 : fldQ 12 405 = some (12, 59, 0) := rfl
theorem f12_408 : fldQ 12 408 = some (12, 64, 0) := rfl
theorem f12_414 : fldQ 12 414 = some (12, 65, 0) := rfl
theorem m0_3 : mthQ 0 3 = some (6, 0, 0) := rfl
theorem m0_43 : mthQ 0 43 = some (4, 108, 2) := rfl
theorem m0_47 : mthQ 0 47 = some (0, 6, 2) := rfl
theorem m0_51 : mthQ 0 51 = some (0, 2, 1) := rfl
theorem m0_55 : mthQ 0 55 = some (0, 8, 2) := rfl
theorem m0_59 : mthQ 0 59 = some (0, 9, 2) := rfl
theorem m0_62 : mthQ 0 62 = some (0, 10, 2) := rfl
theorem m1_1 : mthQ 1 1 = some (6, 0, 0) := rfl
theorem m2_3 : mthQ 2 3 = some (6, 0, 0) := rfl
theorem m3_1 : mthQ 3 1 = some (6, 0, 0) := rfl
theorem m4_3 : mthQ 4 3 = some (6, 0, 0) := rfl
theorem m5_3 : mthQ 5 3 = some (6, 0, 0) := rfl
theorem m5_55 : mthQ 5 55 = some (0, 31, 0) := rfl
theorem m5_58 : mthQ 5 58 = some (0, 34, 3) := rfl
theorem m5_62 : mthQ 5 62 = some (0, 32, 1) := rfl
theorem m5_66 : mthQ 5 66 = some (4, 112, 2) := rfl
theorem m5_70 : mthQ 5 70 = some (0, 33, 2) := rfl
theorem m5_74 : mthQ 5 74 = some (0, 35, 3) := rfl
theorem m5_78 : mthQ 5 78 = some (7, 0, 5) := rfl
theorem m6_3 : mthQ 6 3 = some (6, 0, 0) := rfl
theorem m6_22 : mthQ 6 22 = some (1, 217, 2) := rfl
theorem m7_3 : mthQ 7 3 = some (6, 0, 0) := rfl
theorem m7_22 : mthQ 7 22 = some (0, 43, 0) := rfl
theorem m7_26 : mthQ 7 26 = some (1, 45, 1) := rfl
theorem m7_30 : mthQ 7 30 = some (9, 0, 2) := rfl
theorem m7_36 : mthQ 7 36 = some (0, 1, 0) := rfl
theorem m7_41 : mthQ 7 41 = some (0, 48, 1) := rfl
theorem m7_45 : mthQ 7 45 = some (0, 7, 0) := rfl
theorem m7_49 : mthQ 7 49 = some (0, 44, 1) := rfl
theorem m7_52 : mthQ 7 52 = some (4, 108, 2) := rfl
theorem m7_56 : mthQ 7 56 = some (0, 2, 1) := rfl
theorem m7_59 : mthQ 7 59 = some (0, 46, 1) := rfl
theorem m7_63 : mthQ 7 63 = some (0, 3, 3) := rfl
theorem m7_67 : mthQ 7 67 = some (0, 49, 3) := rfl
theorem m7_71 : mthQ 7 71 = some (0, 50, 3) := rfl
theorem m7_74 : mthQ 7 74 = some (0, 6, 2) := rfl
theorem m7_78 : mthQ 7 78 = some (0, 51, 2) := rfl
theorem m7_82 : mthQ 7 82 = some (0, 4, 2) := rfl
theorem m7_85 : mthQ 7 85 = some (0, 5, 3) := rfl
theorem m7_93 : mthQ 7 93 = some (0, 53, 1) := rfl
theorem m7_98 : mthQ 7 98 = some (0, 15, 3) := rfl
theorem m8_3 : mthQ 8 3 = some (6, 0, 0) := rfl
theorem m9_1 : mthQ 9 1 = some (6, 0, 0) := rfl
theorem m10_3 : mthQ 10 3 = some (6, 0, 0) := rfl
theorem m10_21 : mthQ 10 21 = some (1, 217, 2) := rfl
theorem m10_27 : mthQ 10 27 = some (0, 63, 2) := rfl
theorem m10_30 : mthQ 10 30 = some (0, 11, 1) := rfl
theorem m10_36 : mthQ 10 36 = some (0, 64, 3) := rfl
theorem m10_40 : mthQ 10 40 = some (0, 12, 1) := rfl
theorem m10_43 : mthQ 10 43 = some (0, 13, 1) := rfl
theorem m11_1 : mthQ 11 1 = some (6, 0, 0) := rfl
theorem m11_9 : mthQ 11 9 = some (5, 41, 0) := rfl
theorem m11_32 : mthQ 11 32 = some (5, 0, 0) := rfl
theorem m11_37 : mthQ 11 37 = some (5, 14, 0) := rfl
theorem m11_78 : mthQ 11 78 = some (5, 18, 0) := rfl
theorem m11_98 : mthQ 11 98 = some (5, 26, 0) := rfl
theorem m11_105 : mthQ 11 105 = some (5, 61, 0) := rfl
theorem m11_113 : mthQ 11 113 = some (5, 21, 0) := rfl
theorem m11_114 : mthQ 11 114 = some (5, 37, 0) := rfl
theorem m11_118 : mthQ 11 118 = some (0, 42, 1) := rfl
theorem m11_122 : mthQ 11 122 = some (1, 108, 2) := rfl
theorem m11_126 : mthQ 11 126 = some (1, 109, 1) := rfl
theorem m11_130 : mthQ 11 130 = some (0, 117, 1) := rfl
theorem m11_134 : mthQ 11 134 = some (0, 47, 1) := rfl
theorem m11_144 : mthQ 11 144 = some (0, 116, 2) := rfl
theorem m11_151 : mthQ 11 151 = some (1, 216, 1) := rfl
theorem m11_156 : mthQ 11 156 = some (0, 2, 1) := rfl
theorem m11_168 : mthQ 11 168 = some (0, 118, 2) := rfl
theorem m11_172 : mthQ 11 172 = some (2, 23, 5) := rfl
theorem m11_175 : mthQ 11 175 = some (0, 113, 1) := rfl
theorem m11_195 : mthQ 11 195 = some (0, 20, 2) := rfl
theorem m11_201 : mthQ 11 201 = some (0, 119, 3) := rfl
theorem m11_205 : mthQ 11 205 = some (0, 120, 2) := rfl
theorem m11_209 : mthQ 11 209 = some (0, 12, 1) := rfl
theorem m11_213 : mthQ 11 213 = some (0, 11, 1) := rfl
theorem m11_216 : mthQ 11 216 = some (0, 62, 3) := rfl
theorem m11_229 : mthQ 11 229 = some (0, 25, 1) := rfl
theorem m11_232 : mthQ 11 232 = some (2, 54, 4) := rfl
theorem m11_235 : mthQ 11 235 = some (0, 121, 3) := rfl
theorem m11_239 : mthQ 11 239 = some (0, 115, 1) := rfl
theorem m11_252 : mthQ 11 252 = some (0, 114, 1) := rfl
theorem m11_256 : mthQ 11 256 = some (0, 55, 0) := rfl
theorem m11_260 : mthQ 11 260 = some (0, 56, 1) := rfl
theorem m11_263 : mthQ 11 263 = some (0, 60, 1) := rfl
theorem m11_276 : mthQ 11 276 = some (1, 110, 3) := rfl
theorem m11_280 : mthQ 11 280 = some (0, 57, 1) := rfl
theorem m11_283 : mthQ 11 283 = some (0, 122, 1) := rfl
theorem m11_287 : mthQ 11 287 = some (1, 111, 3) := rfl
theorem m11_313 : mthQ 11 313 = some (0, 123, 1) := rfl
theorem m11_317 : mthQ 11 317 = some (2, 59, 2) := rfl
theorem m11_326 : mthQ 11 326 = some (1, 112, 2) := rfl
theorem m11_332 : mthQ 11 332 = some (0, 124, 1) := rfl
theorem m11_341 : mthQ 11 341 = some (0, 36, 1) := rfl
theorem m11_344 : mthQ 11 344 = some (0, 58, 2) := rfl
theorem m11_347 : mthQ 11 347 = some (9, 0, 2) := rfl
theorem m11_352 : mthQ 11 352 = some (8, 0, 2) := rfl
theorem m11_358 : mthQ 11 358 = some (1, 126, 2) := rfl
theorem m11_362 : mthQ 11 362 = some (0, 127, 2) := rfl
theorem m11_366 : mthQ 11 366 = some (0, 128, 2) := rfl
theorem m11_369 : mthQ 11 369 = some (0, 52, 1) := rfl
theorem m11_377 : mthQ 11 377 = some (0, 19, 3) := rfl
theorem m11_380 : mthQ 11 380 = some (0, 16, 1) := rfl
theorem m11_383 : mthQ 11 383 = some (0, 17, 1) := rfl
theorem m11_388 : mthQ 11 388 = some (0, 24, 3) := rfl
theorem m11_392 : mthQ 11 392 = some (0, 38, 2) := rfl
theorem m11_400 : mthQ 11 400 = some (0, 39, 3) := rfl
theorem m11_403 : mthQ 11 403 = some (0, 40, 2) := rfl
theorem m11_409 : mthQ 11 409 = some (0, 22, 0) := rfl
theorem m11_412 : mthQ 11 412 = some (0, 27, 0) := rfl
theorem m11_415 : mthQ 11 415 = some (0, 28, 1) := rfl
theorem m11_419 : mthQ 11 419 = some (0, 125, 1) := rfl
theorem m11_422 : mthQ 11 422 = some (0, 29, 2) := rfl
theorem m11_425 : mthQ 11 425 = some (0, 30, 0) := rfl
theorem m12_1 : mthQ 12 1 = some (6, 0, 0) := rfl
theorem m12_213 : mthQ 12 213 = some (1, 129, 3) := rfl
theorem m12_235 : mthQ 12 235 = some (0, 133, 0) := rfl
theorem m12_239 : mthQ 12 239 = some (0, 135, 1) := rfl
theorem m12_243 : mthQ 12 243 = some (0, 134, 1) := rfl
theorem m12_257 : mthQ 12 257 = some (0, 138, 1) := rfl
theorem m12_267 : mthQ 12 267 = some (0, 137, 1) := rfl
theorem m12_271 : mthQ 12 271 = some (0, 139, 0) := rfl
theorem m12_274 : mthQ 12 274 = some (0, 141, 1) := rfl
theorem m12_277 : mthQ 12 277 = some (0, 140, 1) := rfl
theorem m12_285 : mthQ 12 285 = some (0, 136, 1) := rfl
theorem m12_288 : mthQ 12 288 = some (0, 142, 0) := rfl
theorem m12_294 : mthQ 12 294 = some (0, 143, 0) := rfl
theorem m12_299 : mthQ 12 299 = some (1, 145, 1) := rfl
theorem m12_302 : mthQ 12 302 = some (1, 131, 1) := rfl
theorem m12_305 : mthQ 12 305 = some (0, 144, 0) := rfl
theorem m12_308 : mthQ 12 308 = some (0, 148, 2) := rfl
theorem m12_314 : mthQ 12 314 = some (1, 147, 1) := rfl
theorem m12_317 : mthQ 12 317 = some (0, 150, 2) := rfl
theorem m12_322 : mthQ 12 322 = some (0, 152, 2) := rfl
theorem m12_329 : mthQ 12 329 = some (0, 154, 1) := rfl
theorem m12_337 : mthQ 12 337 = some (0, 159, 2) := rfl
theorem m12_340 : mthQ 12 340 = some (0, 160, 2) := rfl
theorem m12_343 : mthQ 12 343 = some (0, 161, 2) := rfl
theorem m12_346 : mthQ 12 346 = some (0, 158, 2) := rfl
theorem m12_350 : mthQ 12 350 = some (0, 162, 2) := rfl
theorem m12_353 : mthQ 12 353 = some (0, 165, 2) := rfl
theorem m12_358 : mthQ 12 358 = some (0, 155, 2) := rfl
theorem m12_361 : mthQ 12 361 = some (0, 168, 3) := rfl
theorem m12_365 : mthQ 12 365 = some (0, 170, 1) := rfl
theorem m12_368 : mthQ 12 368 = some (0, 185, 1) := rfl
theorem m12_371 : mthQ 12 371 = some (0, 172, 1) := rfl
theorem m12_374 : mthQ 12 374 = some (0, 173, 2) := rfl
theorem m12_379 : mthQ 12 379 = some (1, 175, 3) := rfl
theorem m12_383 : mthQ 12 383 = some (0, 176, 2) := rfl
theorem m12_386 : mthQ 12 386 = some (0, 181, 1) := rfl
theorem m12_396 : mthQ 12 396 = some (0, 188, 2) := rfl
theorem m12_411 : mthQ 12 411 = some (0, 191, 0) := rfl
theorem m12_417 : mthQ 12 417 = some (0, 192, 0) := rfl
theorem m12_421 : mthQ 12 421 = some (0, 193, 1) := rfl
theorem m12_430 : mthQ 12 430 = some (0, 199, 2) := rfl
theorem m12_434 : mthQ 12 434 = some (0, 203, 0) := rfl
theorem m12_439 : mthQ 12 439 = some (0, 206, 2) := rfl
theorem m12_443 : mthQ 12 443 = some (1, 210, 2) := rfl
theorem m12_446 : mthQ 12 446 = some (0, 213, 4) := rfl
theorem m13_9 : mthQ 13 9 = some (2, 65, 0) := rfl
theorem m13_12 : mthQ 13 12 = some (2, 130, 0) := rfl
theorem m13_15 : mthQ 13 15 = some (0, 66, 2) := rfl
theorem m13_19 : mthQ 13 19 = some (0, 132, 2) := rfl
theorem m13_20 : mthQ 13 20 = some (0, 67, 2) := rfl
theorem m13_24 : mthQ 13 24 = some (0, 146, 2) := rfl
theorem m13_25 : mthQ 13 25 = some (0, 68, 3) := rfl
theorem m13_29 : mthQ 13 29 = some (0, 149, 3) := rfl
theorem m13_30 : mthQ 13 30 = some (0, 69, 4) := rfl
theorem m13_34 : mthQ 13 34 = some (0, 151, 4) := rfl
theorem m13_35 : mthQ 13 35 = some (0, 70, 3) := rfl
theorem m13_38 : mthQ 13 38 = some (0, 153, 3) := rfl
theorem m13_39 : mthQ 13 39 = some (0, 71, 2) := rfl
theorem m13_42 : mthQ 13 42 = some (0, 156, 2) := rfl
theorem m13_43 : mthQ 13 43 = some (0, 72, 2) := rfl
theorem m13_46 : mthQ 13 46 = some (0, 157, 2) := rfl
theorem m13_47 : mthQ 13 47 = some (0, 73, 3) := rfl
theorem m13_50 : mthQ 13 50 = some (0, 163, 3) := rfl
theorem m13_51 : mthQ 13 51 = some (0, 74, 2) := rfl
theorem m13_54 : mthQ 13 54 = some (0, 164, 2) := rfl
theorem m13_55 : mthQ 13 55 = some (0, 75, 2) := rfl
theorem m13_58 : mthQ 13 58 = some (0, 166, 2) := rfl
theorem m13_59 : mthQ 13 59 = some (0, 76, 3) := rfl
theorem m13_62 : mthQ 13 62 = some (0, 167, 3) := rfl
theorem m13_63 : mthQ 13 63 = some (0, 77, 3) := rfl
theorem m13_66 : mthQ 13 66 = some (0, 169, 3) := rfl
theorem m13_67 : mthQ 13 67 = some (0, 78, 2) := rfl
theorem m13_70 : mthQ 13 70 = some (0, 171, 2) := rfl
theorem m13_71 : mthQ 13 71 = some (0, 79, 3) := rfl
theorem m13_74 : mthQ 13 74 = some (0, 174, 3) := rfl
theorem m13_75 : mthQ 13 75 = some (0, 80, 5) := rfl
theorem m13_79 : mthQ 13 79 = some (0, 177, 5) := rfl
theorem m13_80 : mthQ 13 80 = some (0, 81, 2) := rfl
theorem m13_83 : mthQ 13 83 = some (0, 178, 2) := rfl
theorem m13_84 : mthQ 13 84 = some (0, 82, 5) := rfl
theorem m13_87 : mthQ 13 87 = some (0, 179, 5) := rfl
theorem m13_88 : mthQ 13 88 = some (0, 83, 2) := rfl
theorem m13_91 : mthQ 13 91 = some (0, 180, 2) := rfl
theorem m13_92 : mthQ 13 92 = some (0, 84, 2) := rfl
theorem m13_95 : mthQ 13 95 = some (0, 182, 2) := rfl
theorem m13_96 : mthQ 13 96 = some (0, 85, 1) := rfl
theorem m13_100 : mthQ 13 100 = some (0, 183, 1) := rfl
theorem m13_101 : mthQ 13 101 = some (0, 86, 2) := rfl
theorem m13_104 : mthQ 13 104 = some (0, 184, 2) := rfl
theorem m13_105 : mthQ 13 105 = some (0, 87, 2) := rfl
theorem m13_108 : mthQ 13 108 = some (0, 186, 2) := rfl
theorem m13_109 : mthQ 13 109 = some (0, 88, 1) := rfl
theorem m13_112 : mthQ 13 112 = some (0, 187, 1) := rfl
theorem m13_113 : mthQ 13 113 = some (0, 89, 2) := rfl
theorem m13_116 : mthQ 13 116 = some (0, 189, 2) := rfl
theorem m13_117 : mthQ 13 117 = some (0, 90, 1) := rfl
theorem m13_120 : mthQ 13 120 = some (0, 190, 1) := rfl
theorem m13_121 : mthQ 13 121 = some (0, 91, 2) := rfl
theorem m13_124 : mthQ 13 124 = some (0, 194, 2) := rfl
theorem m13_125 : mthQ 13 125 = some (0, 92, 2) := rfl
theorem m13_128 : mthQ 13 128 = some (0, 195, 2) := rfl
theorem m13_129 : mthQ 13 129 = some (0, 93, 3) := rfl
theorem m13_132 : mthQ 13 132 = some (0, 196, 3) := rfl
theorem m13_133 : mthQ 13 133 = some (0, 94, 3) := rfl
theorem m13_136 : mthQ 13 136 = some (0, 197, 3) := rfl
theorem m13_137 : mthQ 13 137 = some (0, 95, 3) := rfl
theorem m13_140 : mthQ 13 140 = some (0, 198, 3) := rfl
theorem m13_141 : mthQ 13 141 = some (0, 96, 2) := rfl
theorem m13_144 : mthQ 13 144 = some (0, 200, 2) := rfl
theorem m13_145 : mthQ 13 145 = some (0, 97, 1) := rfl
theorem m13_148 : mthQ 13 148 = some (0, 201, 1) := rfl
theorem m13_149 : mthQ 13 149 = some (0, 98, 1) := rfl
theorem m13_152 : mthQ 13 152 = some (0, 202, 1) := rfl
theorem m13_153 : mthQ 13 153 = some (0, 99, 1) := rfl
theorem m13_156 : mthQ 13 156 = some (0, 204, 1) := rfl
theorem m13_157 : mthQ 13 157 = some (0, 100, 3) := rfl
theorem m13_160 : mthQ 13 160 = some (0, 205, 3) := rfl
theorem m13_161 : mthQ 13 161 = some (0, 101, 2) := rfl
theorem m13_164 : mthQ 13 164 = some (0, 207, 2) := rfl
theorem m13_165 : mthQ 13 165 = some (0, 102, 2) := rfl
theorem m13_168 : mthQ 13 168 = some (0, 208, 2) := rfl
theorem m13_169 : mthQ 13 169 = some (0, 103, 3) := rfl
theorem m13_172 : mthQ 13 172 = some (0, 209, 3) := rfl
theorem m13_173 : mthQ 13 173 = some (0, 104, 3) := rfl
theorem m13_176 : mthQ 13 176 = some (0, 211, 3) := rfl
theorem m13_177 : mthQ 13 177 = some (0, 105, 1) := rfl
theorem m13_180 : mthQ 13 180 = some (0, 212, 1) := rfl
theorem m13_181 : mthQ 13 181 = some (0, 106, 4) := rfl
theorem m13_184 : mthQ 13 184 = some (0, 214, 4) := rfl
theorem m13_185 : mthQ 13 185 = some (0, 107, 5) := rfl
theorem m13_188 : mthQ 13 188 = some (0, 215, 5) := rfl
theorem k11_7 : clsQ 11 7 = some 7 := rfl
theorem k11_16 : clsQ 11 16 = some 0 := rfl
theorem k11_26 : clsQ 11 26 = some 1 := rfl
theorem k11_42 : clsQ 11 42 = some 4 := rfl
theorem k11_52 : clsQ 11 52 = some 9 := rfl
theorem k11_61 : clsQ 11 61 = some 8 := rfl
theorem k11_70 : clsQ 11 70 = some 3 := rfl
theorem k11_76 : clsQ 11 76 = some 2 := rfl
theorem k11_90 : clsQ 11 90 = some 6 := rfl
theorem k11_96 : clsQ 11 96 = some 5 := rfl
theorem k11_103 : clsQ 11 103 = some 10 := rfl
theorem k13_7 : clsQ 13 7 = some 11 := rfl
theorem k13_10 : clsQ 13 10 = some 12 := rfl
theorem n7_97 : cstQ 7 97 = some 99999 := rfl
theorem n11_376 : cstQ 11 376 = some 99999 := rfl
theorem n12_73 : cstQ 12 73 = some 48000 := rfl
theorem n12_433 : cstQ 12 433 = some 99999 := rfl
theorem n14_265 : cstQ 14 265 = some 1431655765 := rfl
theorem n14_266 : cstQ 14 266 = some 858993459 := rfl
theorem n14_267 : cstQ 14 267 = some 252645135 := rfl
theorem l11_386 : lngQ 11 386 = some 100 := rfl
theorem l12_211 : lngQ 12 211 = some 3999 := rfl
theorem l12_217 : lngQ 12 217 = some 8 := rfl
theorem l12_219 : lngQ 12 219 = some 255 := rfl
theorem l12_221 : lngQ 12 221 = some 32 := rfl
theorem l12_223 : lngQ 12 223 = some 126 := rfl
theorem l12_247 : lngQ 12 247 = some 48 := rfl
theorem l12_249 : lngQ 12 249 = some 57 := rfl
theorem l12_260 : lngQ 12 260 = some 97 := rfl
theorem l12_262 : lngQ 12 262 = some 104 := rfl
theorem l12_280 : lngQ 12 280 = some 7 := rfl
theorem l12_297 : lngQ 12 297 = some 3 := rfl
theorem l12_312 : lngQ 12 312 = some 2 := rfl
theorem l12_320 : lngQ 12 320 = some 5 := rfl
theorem l12_332 : lngQ 12 332 = some 60 := rfl
theorem l12_356 : lngQ 12 356 = some 9 := rfl
theorem l12_377 : lngQ 12 377 = some 100 := rfl
theorem l12_392 : lngQ 12 392 = some 15 := rfl
theorem l12_394 : lngQ 12 394 = some 4095 := rfl
theorem l12_424 : lngQ 12 424 = some 39 := rfl
theorem l12_426 : lngQ 12 426 = some 19 := rfl
theorem l12_428 : lngQ 12 428 = some 4 := rfl
theorem l12_437 : lngQ 12 437 = some 99999 := rfl
theorem l12_450 : lngQ 12 450 = some 20 := rfl
theorem l13_13 : lngQ 13 13 = some 4294967295 := rfl
theorem en0 (i : Nat) : ent 0 [vR (some (0, 0, i))] = [some (vR (some (0, 0, i)))] := by unfold ent; rw [x0]; rfl
theorem ek0 (i : Nat) : entOK 0 [vR (some (0, 0, i))] = true := by unfold entOK; rw [x0]; rfl
theorem en1 (i : Nat) : ent 1 [vR (some (0, 0, i))] = [some (vR (some (0, 0, i)))] := by unfold ent; rw [x1]; rfl
theorem ek1 (i : Nat) : entOK 1 [vR (some (0, 0, i))] = true := by unfold entOK; rw [x1]; rfl
theorem en2 (i : Nat) (a1 : Int32) : ent 2 [vR (some (0, 0, i)), vI a1] = [some (vR (some (0, 0, i))), some (vI a1)] := by unfold ent; rw [x2]; rfl
theorem ek2 (i : Nat) (a1 : Int32) : entOK 2 [vR (some (0, 0, i)), vI a1] = true := by unfold entOK; rw [x2]; rfl
theorem en3 (i : Nat) (a1 : Int32) (a2 : Int32) (a3 : Int32) : ent 3 [vR (some (0, 0, i)), vI a1, vI a2, vI a3] = [some (vR (some (0, 0, i))), some (vI a1), some (vI a2), some (vI a3)] := by unfold ent; rw [x3]; rfl
theorem ek3 (i : Nat) (a1 : Int32) (a2 : Int32) (a3 : Int32) : entOK 3 [vR (some (0, 0, i)), vI a1, vI a2, vI a3] = true := by unfold entOK; rw [x3]; rfl
theorem en4 (i : Nat) (a1 : Int32) (a2 : Int32) : ent 4 [vR (some (0, 0, i)), vI a1, vI a2] = [some (vR (some (0, 0, i))), some (vI a1), some (vI a2)] := by unfold ent; rw [x4]; rfl
theorem ek4 (i : Nat) (a1 : Int32) (a2 : Int32) : entOK 4 [vR (some (0, 0, i)), vI a1, vI a2] = true := by unfold entOK; rw [x4]; rfl
theorem en5 (i : Nat) (a1 : Int32) (a2 : Int32) (a3 : Int32) : ent 5 [vR (some (0, 0, i)), vI a1, vI a2, vI a3] = [some (vR (some (0, 0, i))), some (vI a1), some (vI a2), some (vI a3)] := by unfold ent; rw [x5]; rfl
theorem ek5 (i : Nat) (a1 : Int32) (a2 : Int32) (a3 : Int32) : entOK 5 [vR (some (0, 0, i)), vI a1, vI a2, vI a3] = true := by unfold entOK; rw [x5]; rfl
theorem en6 (i : Nat) (a1 : Int32) (a2 : Int32) : ent 6 [vR (some (0, 0, i)), vI a1, vI a2] = [some (vR (some (0, 0, i))), some (vI a1), some (vI a2)] := by unfold ent; rw [x6]; rfl
theorem ek6 (i : Nat) (a1 : Int32) (a2 : Int32) : entOK 6 [vR (some (0, 0, i)), vI a1, vI a2] = true := by unfold entOK; rw [x6]; rfl
theorem en7 (i : Nat) : ent 7 [vR (some (0, 0, i))] = [some (vR (some (0, 0, i))), none, none] := by unfold ent; rw [x7]; rfl
theorem ek7 (i : Nat) : entOK 7 [vR (some (0, 0, i))] = true := by unfold entOK; rw [x7]; rfl
theorem en8 (i : Nat) (a1 : Int32) (a2 : Option (Nat × Nat × Nat)) : ent 8 [vR (some (0, 0, i)), vI a1, vR a2] = [some (vR (some (0, 0, i))), some (vI a1), some (vR a2)] := by unfold ent; rw [x8]; rfl
theorem ek8 (i : Nat) (a1 : Int32) (a2 : Option (Nat × Nat × Nat)) : entOK 8 [vR (some (0, 0, i)), vI a1, vR a2] = true := by unfold entOK; rw [x8]; rfl
theorem en9 (i : Nat) (a1 : Int32) (a2 : Option (Nat × Nat × Nat)) : ent 9 [vR (some (0, 0, i)), vI a1, vR a2] = [some (vR (some (0, 0, i))), some (vI a1), some (vR a2), none] := by unfold ent; rw [x9]; rfl
theorem ek9 (i : Nat) (a1 : Int32) (a2 : Option (Nat × Nat × Nat)) : entOK 9 [vR (some (0, 0, i)), vI a1, vR a2] = true := by unfold entOK; rw [x9]; rfl
theorem en10 (i : Nat) (a1 : Int32) (a2 : Option (Nat × Nat × Nat)) : ent 10 [vR (some (0, 0, i)), vI a1, vR a2] = [some (vR (some (0, 0, i))), some (vI a1), some (vR a2), none, none, none] := by unfold ent; rw [x10]; rfl
theorem ek10 (i : Nat) (a1 : Int32) (a2 : Option (Nat × Nat × Nat)) : entOK 10 [vR (some (0, 0, i)), vI a1, vR a2] = true := by unfold entOK; rw [x10]; rfl
theorem en11 (i : Nat) (a1 : Option (Nat × Nat × Nat)) : ent 11 [vR (some (0, 0, i)), vR a1] = [some (vR (some (0, 0, i))), some (vR a1), none, none] := by unfold ent; rw [x11]; rfl
theorem ek11 (i : Nat) (a1 : Option (Nat × Nat × Nat)) : entOK 11 [vR (some (0, 0, i)), vR a1] = true := by unfold entOK; rw [x11]; rfl
theorem en12 (i : Nat) (a1 : Option (Nat × Nat × Nat)) : ent 12 [vR (some (0, 0, i)), vR a1] = [some (vR (some (0, 0, i))), some (vR a1), none, none] := by unfold ent; rw [x12]; rfl
theorem ek12 (i : Nat) (a1 : Option (Nat × Nat × Nat)) : entOK 12 [vR (some (0, 0, i)), vR a1] = true := by unfold entOK; rw [x12]; rfl
theorem en13 (i : Nat) (a1 : Int32) : ent 13 [vR (some (0, 0, i)), vI a1] = [some (vR (some (0, 0, i))), some (vI a1), none, none] := by unfold ent; rw [x13]; rfl
theorem ek13 (i : Nat) (a1 : Int32) : entOK 13 [vR (some (0, 0, i)), vI a1] = true := by unfold entOK; rw [x13]; rfl
theorem en14 (i : Nat) : ent 14 [vR (some (1, 0, i))] = [some (vR (some (1, 0, i)))] := by unfold ent; rw [x14]; rfl
theorem ek14 (i : Nat) : entOK 14 [vR (some (1, 0, i))] = true := by unfold entOK; rw [x14]; rfl
theorem en15 (i : Nat) (a1 : Int32) (a2 : Int32) (a3 : Int32) : ent 15 [vR (some (1, 0, i)), vI a1, vI a2, vI a3] = [some (vR (some (1, 0, i))), some (vI a1), some (vI a2), some (vI a3)] := by unfold ent; rw [x15]; rfl
theorem ek15 (i : Nat) (a1 : Int32) (a2 : Int32) (a3 : Int32) : entOK 15 [vR (some (1, 0, i)), vI a1, vI a2, vI a3] = true := by unfold entOK; rw [x15]; rfl
theorem en16 (i : Nat) (a1 : Int32) : ent 16 [vR (some (1, 0, i)), vI a1] = [some (vR (some (1, 0, i))), some (vI a1), none, none] := by unfold ent; rw [x16]; rfl
theorem ek16 (i : Nat) (a1 : Int32) : entOK 16 [vR (some (1, 0, i)), vI a1] = true := by unfold entOK; rw [x16]; rfl
theorem en17 (i : Nat) (a1 : Int32) : ent 17 [vR (some (1, 0, i)), vI a1] = [some (vR (some (1, 0, i))), some (vI a1), none] := by unfold ent; rw [x17]; rfl
theorem ek17 (i : Nat) (a1 : Int32) : entOK 17 [vR (some (1, 0, i)), vI a1] = true := by unfold entOK; rw [x17]; rfl
theorem en18 (i : Nat) : ent 18 [vR (some (2, 0, i))] = [some (vR (some (2, 0, i)))] := by unfold ent; rw [x18]; rfl
theorem ek18 (i : Nat) : entOK 18 [vR (some (2, 0, i))] = true := by unfold entOK; rw [x18]; rfl
theorem en19 (i : Nat) (a1 : Int32) (a2 : Int32) (a3 : Int32) : ent 19 [vR (some (2, 0, i)), vI a1, vI a2, vI a3] = [some (vR (some (2, 0, i))), some (vI a1), some (vI a2), some (vI a3)] := by unfold ent; rw [x19]; rfl
theorem ek19 (i : Nat) (a1 : Int32) (a2 : Int32) (a3 : Int32) : entOK 19 [vR (some (2, 0, i)), vI a1, vI a2, vI a3] = true := by unfold entOK; rw [x19]; rfl
theorem en20 (i : Nat) (a1 : Int32) (a2 : Int32) : ent 20 [vR (some (2, 0, i)), vI a1, vI a2] = [some (vR (some (2, 0, i))), some (vI a1), some (vI a2), none, none] := by unfold ent; rw [x20]; rfl
theorem ek20 (i : Nat) (a1 : Int32) (a2 : Int32) : entOK 20 [vR (some (2, 0, i)), vI a1, vI a2] = true := by unfold entOK; rw [x20]; rfl
theorem en21 (i : Nat) : ent 21 [vR (some (3, 0, i))] = [some (vR (some (3, 0, i)))] := by unfold ent; rw [x21]; rfl
theorem ek21 (i : Nat) : entOK 21 [vR (some (3, 0, i))] = true := by unfold entOK; rw [x21]; rfl
theorem en22 (i : Nat) : ent 22 [vR (some (3, 0, i))] = [some (vR (some (3, 0, i)))] := by unfold ent; rw [x22]; rfl
theorem ek22 (i : Nat) : entOK 22 [vR (some (3, 0, i))] = true := by unfold entOK; rw [x22]; rfl
theorem en23 (i : Nat) (a1 : Int32) (a2 : Int32) (a3 : Int32) (a4 : Int32) (a5 : Option (Nat × Nat × Nat)) : ent 23 [vR (some (4, 0, i)), vI a1, vI a2, vI a3, vI a4, vR a5] = [some (vR (some (4, 0, i))), some (vI a1), some (vI a2), some (vI a3), some (vI a4), some (vR a5)] := by unfold ent; rw [x23]; rfl
theorem ek23 (i : Nat) (a1 : Int32) (a2 : Int32) (a3 : Int32) (a4 : Int32) (a5 : Option (Nat × Nat × Nat)) : entOK 23 [vR (some (4, 0, i)), vI a1, vI a2, vI a3, vI a4, vR a5] = true := by unfold entOK; rw [x23]; rfl
theorem en24 (i : Nat) (a1 : Int32) (a2 : Int32) (a3 : Option (Nat × Nat × Nat)) : ent 24 [vR (some (4, 0, i)), vI a1, vI a2, vR a3] = [some (vR (some (4, 0, i))), some (vI a1), some (vI a2), some (vR a3)] := by unfold ent; rw [x24]; rfl
theorem ek24 (i : Nat) (a1 : Int32) (a2 : Int32) (a3 : Option (Nat × Nat × Nat)) : entOK 24 [vR (some (4, 0, i)), vI a1, vI a2, vR a3] = true := by unfold entOK; rw [x24]; rfl
theorem en25 (i : Nat) (a1 : Int32) : ent 25 [vR (some (4, 0, i)), vI a1] = [some (vR (some (4, 0, i))), some (vI a1)] := by unfold ent; rw [x25]; rfl
theorem ek25 (i : Nat) (a1 : Int32) : entOK 25 [vR (some (4, 0, i)), vI a1] = true := by unfold entOK; rw [x25]; rfl
theorem en26 (i : Nat) : ent 26 [vR (some (5, 0, i))] = [some (vR (some (5, 0, i)))] := by unfold ent; rw [x26]; rfl
theorem ek26 (i : Nat) : entOK 26 [vR (some (5, 0, i))] = true := by unfold entOK; rw [x26]; rfl
theorem en27 (i : Nat) : ent 27 [vR (some (5, 0, i))] = [some (vR (some (5, 0, i)))] := by unfold ent; rw [x27]; rfl
theorem ek27 (i : Nat) : entOK 27 [vR (some (5, 0, i))] = true := by unfold entOK; rw [x27]; rfl
theorem en28 (i : Nat) (a1 : Option (Nat × Nat × Nat)) : ent 28 [vR (some (5, 0, i)), vR a1] = [some (vR (some (5, 0, i))), some (vR a1)] := by unfold ent; rw [x28]; rfl
theorem ek28 (i : Nat) (a1 : Option (Nat × Nat × Nat)) : entOK 28 [vR (some (5, 0, i)), vR a1] = true := by unfold entOK; rw [x28]; rfl
theorem en29 (i : Nat) (a1 : Int32) (a2 : Int32) : ent 29 [vR (some (5, 0, i)), vI a1, vI a2] = [some (vR (some (5, 0, i))), some (vI a1), some (vI a2)] := by unfold ent; rw [x29]; rfl
theorem ek29 (i : Nat) (a1 : Int32) (a2 : Int32) : entOK 29 [vR (some (5, 0, i)), vI a1, vI a2] = true := by unfold entOK; rw [x29]; rfl
theorem en30 (i : Nat) : ent 30 [vR (some (5, 0, i))] = [some (vR (some (5, 0, i)))] := by unfold ent; rw [x30]; rfl
theorem ek30 (i : Nat) : entOK 30 [vR (some (5, 0, i))] = true := by unfold entOK; rw [x30]; rfl
theorem en31 (i : Nat) : ent 31 [vR (some (5, 0, i))] = [some (vR (some (5, 0, i))), none, none] := by unfold ent; rw [x31]; rfl
theorem ek31 (i : Nat) : entOK 31 [vR (some (5, 0, i))] = true := by unfold entOK; rw [x31]; rfl
theorem en32 (i : Nat) (a1 : Int32) : ent 32 [vR (some (5, 0, i)), vI a1] = [some (vR (some (5, 0, i))), some (vI a1), none, none, none] := by unfold ent; rw [x32]; rfl
theorem ek32 (i : Nat) (a1 : Int32) : entOK 32 [vR (some (5, 0, i)), vI a1] = true := by unfold entOK; rw [x32]; rfl
theorem en33 (i : Nat) (a1 : Int32) (a2 : Int32) : ent 33 [vR (some (5, 0, i)), vI a1, vI a2] = [some (vR (some (5, 0, i))), some (vI a1), some (vI a2)] := by unfold ent; rw [x33]; rfl
theorem ek33 (i : Nat) (a1 : Int32) (a2 : Int32) : entOK 33 [vR (some (5, 0, i)), vI a1, vI a2] = true := by unfold entOK; rw [x33]; rfl
theorem en34 (i : Nat) (a1 : Int32) (a2 : Int32) (a3 : Int32) : ent 34 [vR (some (5, 0, i)), vI a1, vI a2, vI a3] = [some (vR (some (5, 0, i))), some (vI a1), some (vI a2), some (vI a3), none] := by unfold ent; rw [x34]; rfl
theorem ek34 (i : Nat) (a1 : Int32) (a2 : Int32) (a3 : Int32) : entOK 34 [vR (some (5, 0, i)), vI a1, vI a2, vI a3] = true := by unfold entOK; rw [x34]; rfl
theorem en35 (i : Nat) (a1 : Int32) (a2 : Int32) (a3 : Int32) : ent 35 [vR (some (5, 0, i)), vI a1, vI a2, vI a3] = [some (vR (some (5, 0, i))), some (vI a1), some (vI a2), some (vI a3), none] := by unfold ent; rw [x35]; rfl
theorem ek35 (i : Nat) (a1 : Int32) (a2 : Int32) (a3 : Int32) : entOK 35 [vR (some (5, 0, i)), vI a1, vI a2, vI a3] = true := by unfold entOK; rw [x35]; rfl
theorem en36 (i : Nat) (a1 : Int32) : ent 36 [vR (some (5, 0, i)), vI a1] = [some (vR (some (5, 0, i))), some (vI a1), none] := by unfold ent; rw [x36]; rfl
theorem ek36 (i : Nat) (a1 : Int32) : entOK 36 [vR (some (5, 0, i)), vI a1] = true := by unfold entOK; rw [x36]; rfl
theorem en37 (i : Nat) : ent 37 [vR (some (6, 0, i))] = [some (vR (some (6, 0, i)))] := by unfold ent; rw [x37]; rfl
theorem ek37 (i : Nat) : entOK 37 [vR (some (6, 0, i))] = true := by unfold entOK; rw [x37]; rfl
theorem en38 (i : Nat) (a1 : Int32) (a2 : Int32) : ent 38 [vR (some (6, 0, i)), vI a1, vI a2] = [some (vR (some (6, 0, i))), some (vI a1), some (vI a2)] := by unfold ent; rw [x38]; rfl
theorem ek38 (i : Nat) (a1 : Int32) (a2 : Int32) : entOK 38 [vR (some (6, 0, i)), vI a1, vI a2] = true := by unfold entOK; rw [x38]; rfl
theorem en39 (i : Nat) (a1 : Int32) (a2 : Int32) (a3 : Int32) : ent 39 [vR (some (6, 0, i)), vI a1, vI a2, vI a3] = [some (vR (some (6, 0, i))), some (vI a1), some (vI a2), some (vI a3)] := by unfold ent; rw [x39]; rfl
theorem ek39 (i : Nat) (a1 : Int32) (a2 : Int32) (a3 : Int32) : entOK 39 [vR (some (6, 0, i)), vI a1, vI a2, vI a3] = true := by unfold entOK; rw [x39]; rfl
theorem en40 (i : Nat) (a1 : Int32) (a2 : Int32) : ent 40 [vR (some (6, 0, i)), vI a1, vI a2] = [some (vR (some (6, 0, i))), some (vI a1), some (vI a2)] := by unfold ent; rw [x40]; rfl
theorem ek40 (i : Nat) (a1 : Int32) (a2 : Int32) : entOK 40 [vR (some (6, 0, i)), vI a1, vI a2] = true := by unfold entOK; rw [x40]; rfl
theorem en41 (i : Nat) : ent 41 [vR (some (7, 0, i))] = [some (vR (some (7, 0, i)))] := by unfold ent; rw [x41]; rfl
theorem ek41 (i : Nat) : entOK 41 [vR (some (7, 0, i))] = true := by unfold entOK; rw [x41]; rfl
theorem en42 (i : Nat) (a1 : Int32) : ent 42 [vR (some (7, 0, i)), vI a1] = [some (vR (some (7, 0, i))), some (vI a1)] := by unfold ent; rw [x42]; rfl
theorem ek42 (i : Nat) (a1 : Int32) : entOK 42 [vR (some (7, 0, i)), vI a1] = true := by unfold entOK; rw [x42]; rfl
theorem en43 (i : Nat) : ent 43 [vR (some (7, 0, i))] = [some (vR (some (7, 0, i))), none] := by unfold ent; rw [x43]; rfl
theorem ek43 (i : Nat) : entOK 43 [vR (some (7, 0, i))] = true := by unfold entOK; rw [x43]; rfl
theorem en44 (i : Nat) (a1 : Int32) : ent 44 [vR (some (7, 0, i)), vI a1] = [some (vR (some (7, 0, i))), some (vI a1)] := by unfold ent; rw [x44]; rfl
theorem ek44 (i : Nat) (a1 : Int32) : entOK 44 [vR (some (7, 0, i)), vI a1] = true := by unfold entOK; rw [x44]; rfl
theorem en45 (a0 : Int32) : ent 45 [vI a0] = [some (vI a0)] := by unfold ent; rw [x45]; rfl
theorem ek45 (a0 : Int32) : entOK 45 [vI a0] = true := by unfold entOK; rw [x45]; rfl
theorem en46 (i : Nat) (a1 : Int32) : ent 46 [vR (some (7, 0, i)), vI a1] = [some (vR (some (7, 0, i))), some (vI a1), none, none, none] := by unfold ent; rw [x46]; rfl
theorem ek46 (i : Nat) (a1 : Int32) : entOK 46 [vR (some (7, 0, i)), vI a1] = true := by unfold entOK; rw [x46]; rfl
theorem en47 (i : Nat) (a1 : Option (Nat × Nat × Nat)) : ent 47 [vR (some (7, 0, i)), vR a1] = [some (vR (some (7, 0, i))), some (vR a1), none] := by unfold ent; rw [x47]; rfl
theorem ek47 (i : Nat) (a1 : Option (Nat × Nat × Nat)) : entOK 47 [vR (some (7, 0, i)), vR a1] = true := by unfold entOK; rw [x47]; rfl
theorem en48 (i : Nat) (a1 : Option (Nat × Nat × Nat)) : ent 48 [vR (some (7, 0, i)), vR a1] = [some (vR (some (7, 0, i))), some (vR a1), none, none, none] := by unfold ent; rw [x48]; rfl
theorem ek48 (i : Nat) (a1 : Option (Nat × Nat × Nat)) : entOK 48 [vR (some (7, 0, i)), vR a1] = true := by unfold entOK; rw [x48]; rfl
theorem en49 (i : Nat) (a1 : Option (Nat × Nat × Nat)) (a2 : Int32) (a3 : Int32) : ent 49 [vR (some (7, 0, i)), vR a1, vI a2, vI a3] = [some (vR (some (7, 0, i))), some (vR a1), some (vI a2), some (vI a3), none, none] := by unfold ent; rw [x49]; rfl
theorem ek49 (i : Nat) (a1 : Option (Nat × Nat × Nat)) (a2 : Int32) (a3 : Int32) : entOK 49 [vR (some (7, 0, i)), vR a1, vI a2, vI a3] = true := by unfold entOK; rw [x49]; rfl
theorem en50 (i : Nat) (a1 : Option (Nat × Nat × Nat)) (a2 : Int32) (a3 : Int32) : ent 50 [vR (some (7, 0, i)), vR a1, vI a2, vI a3] = [some (vR (some (7, 0, i))), some (vR a1), some (vI a2), some (vI a3), none] := by unfold ent; rw [x50]; rfl
theorem ek50 (i : Nat) (a1 : Option (Nat × Nat × Nat)) (a2 : Int32) (a3 : Int32) : entOK 50 [vR (some (7, 0, i)), vR a1, vI a2, vI a3] = true := by unfold entOK; rw [x50]; rfl
theorem en51 (i : Nat) (a1 : Option (Nat × Nat × Nat)) (a2 : Int32) : ent 51 [vR (some (7, 0, i)), vR a1, vI a2] = [some (vR (some (7, 0, i))), some (vR a1), some (vI a2), none, none] := by unfold ent; rw [x51]; rfl
theorem ek51 (i : Nat) (a1 : Option (Nat × Nat × Nat)) (a2 : Int32) : entOK 51 [vR (some (7, 0, i)), vR a1, vI a2] = true := by unfold entOK; rw [x51]; rfl
theorem en52 (i : Nat) (a1 : Option (Nat × Nat × Nat)) : ent 52 [vR (some (7, 0, i)), vR a1] = [some (vR (some (7, 0, i))), some (vR a1), none] := by unfold ent; rw [x52]; rfl
theorem ek52 (i : Nat) (a1 : Option (Nat × Nat × Nat)) : entOK 52 [vR (some (7, 0, i)), vR a1] = true := by unfold entOK; rw [x52]; rfl
theorem en53 (i : Nat) (a1 : Option (Nat × Nat × Nat)) : ent 53 [vR (some (7, 0, i)), vR a1] = [some (vR (some (7, 0, i))), some (vR a1), none, none, none] := by unfold ent; rw [x53]; rfl
theorem ek53 (i : Nat) (a1 : Option (Nat × Nat × Nat)) : entOK 53 [vR (some (7, 0, i)), vR a1] = true := by unfold entOK; rw [x53]; rfl
theorem en54 (i : Nat) (a1 : Int32) (a2 : Int32) (a3 : Int32) (a4 : Int32) : ent 54 [vR (some (8, 0, i)), vI a1, vI a2, vI a3, vI a4] = [some (vR (some (8, 0, i))), some (vI a1), some (vI a2), some (vI a3), some (vI a4)] := by unfold ent; rw [x54]; rfl
theorem ek54 (i : Nat) (a1 : Int32) (a2 : Int32) (a3 : Int32) (a4 : Int32) : entOK 54 [vR (some (8, 0, i)), vI a1, vI a2, vI a3, vI a4] = true := by unfold entOK; rw [x54]; rfl
theorem en55 (i : Nat) : ent 55 [vR (some (8, 0, i))] = [some (vR (some (8, 0, i)))] := by unfold ent; rw [x55]; rfl
theorem ek55 (i : Nat) : entOK 55 [vR (some (8, 0, i))] = true := by unfold entOK; rw [x55]; rfl
theorem en56 (i : Nat) (a1 : Int32) : ent 56 [vR (some (8, 0, i)), vI a1] = [some (vR (some (8, 0, i))), some (vI a1)] := by unfold ent; rw [x56]; rfl
theorem ek56 (i : Nat) (a1 : Int32) : entOK 56 [vR (some (8, 0, i)), vI a1] = true := by unfold entOK; rw [x56]; rfl
theorem en57 (i : Nat) (a1 : Int32) : ent 57 [vR (some (8, 0, i)), vI a1] = [some (vR (some (8, 0, i))), some (vI a1)] := by unfold ent; rw [x57]; rfl
theorem ek57 (i : Nat) (a1 : Int32) : entOK 57 [vR (some (8, 0, i)), vI a1] = true := by unfold entOK; rw [x57]; rfl
theorem en58 (i : Nat) (a1 : Int32) (a2 : Int32) : ent 58 [vR (some (8, 0, i)), vI a1, vI a2] = [some (vR (some (8, 0, i))), some (vI a1), some (vI a2)] := by unfold ent; rw [x58]; rfl
theorem ek58 (i : Nat) (a1 : Int32) (a2 : Int32) : entOK 58 [vR (some (8, 0, i)), vI a1, vI a2] = true := by unfold entOK; rw [x58]; rfl
theorem en59 (i : Nat) (a1 : Int32) (a2 : Int32) : ent 59 [vR (some (9, 0, i)), vI a1, vI a2] = [some (vR (some (9, 0, i))), some (vI a1), some (vI a2)] := by unfold ent; rw [x59]; rfl
theorem ek59 (i : Nat) (a1 : Int32) (a2 : Int32) : entOK 59 [vR (some (9, 0, i)), vI a1, vI a2] = true := by unfold entOK; rw [x59]; rfl
theorem en60 (i : Nat) (a1 : Option (Nat × Nat × Nat)) : ent 60 [vR (some (9, 0, i)), vR a1] = [some (vR (some (9, 0, i))), some (vR a1)] := by unfold ent; rw [x60]; rfl
theorem ek60 (i : Nat) (a1 : Option (Nat × Nat × Nat)) : entOK 60 [vR (some (9, 0, i)), vR a1] = true := by unfold entOK; rw [x60]; rfl
theorem en61 (i : Nat) : ent 61 [vR (some (10, 0, i))] = [some (vR (some (10, 0, i)))] := by unfold ent; rw [x61]; rfl
theorem ek61 (i : Nat) : entOK 61 [vR (some (10, 0, i))] = true := by unfold entOK; rw [x61]; rfl
theorem en62 (i : Nat) (a1 : Option (Nat × Nat × Nat)) (a2 : Option (Nat × Nat × Nat)) (a3 : Int32) : ent 62 [vR (some (10, 0, i)), vR a1, vR a2, vI a3] = [some (vR (some (10, 0, i))), some (vR a1), some (vR a2), some (vI a3), none, none, none] := by unfold ent; rw [x62]; rfl
theorem ek62 (i : Nat) (a1 : Option (Nat × Nat × Nat)) (a2 : Option (Nat × Nat × Nat)) (a3 : Int32) : entOK 62 [vR (some (10, 0, i)), vR a1, vR a2, vI a3] = true := by unfold entOK; rw [x62]; rfl
theorem en63 (i : Nat) (a1 : Option (Nat × Nat × Nat)) (a2 : Int32) : ent 63 [vR (some (10, 0, i)), vR a1, vI a2] = [some (vR (some (10, 0, i))), some (vR a1), some (vI a2), none] := by unfold ent; rw [x63]; rfl
theorem ek63 (i : Nat) (a1 : Option (Nat × Nat × Nat)) (a2 : Int32) : entOK 63 [vR (some (10, 0, i)), vR a1, vI a2] = true := by unfold entOK; rw [x63]; rfl
theorem en64 (i : Nat) (a1 : Option (Nat × Nat × Nat)) (a2 : Int32) (a3 : Int32) : ent 64 [vR (some (10, 0, i)), vR a1, vI a2, vI a3] = [some (vR (some (10, 0, i))), some (vR a1), some (vI a2), some (vI a3), none, none, none, none] := by unfold ent; rw [x64]; rfl
theorem ek64 (i : Nat) (a1 : Option (Nat × Nat × Nat)) (a2 : Int32) (a3 : Int32) : entOK 64 [vR (some (10, 0, i)), vR a1, vI a2, vI a3] = true := by unfold entOK; rw [x64]; rfl
theorem en65 (i : Nat) : ent 65 [vR (some (11, 0, i))] = [some (vR (some (11, 0, i))), none] := by unfold ent; rw [x65]; rfl
theorem ek65 (i : Nat) : entOK 65 [vR (some (11, 0, i))] = true := by unfold entOK; rw [x65]; rfl
theorem en66 (i : Nat) (a1 : Int64) (a2 : Int32) : ent 66 [vR (some (11, 0, i)), vL a1, vI a2] = [some (vR (some (11, 0, i))), some (vL a1), none, some (vI a2), none, none] := by unfold ent; rw [x66]; rfl
theorem ek66 (i : Nat) (a1 : Int64) (a2 : Int32) : entOK 66 [vR (some (11, 0, i)), vL a1, vI a2] = true := by unfold entOK; rw [x66]; rfl
theorem en67 (i : Nat) (a1 : Int32) (a2 : Int32) : ent 67 [vR (some (11, 0, i)), vI a1, vI a2] = [some (vR (some (11, 0, i))), some (vI a1), some (vI a2), none, none] := by unfold ent; rw [x67]; rfl
theorem ek67 (i : Nat) (a1 : Int32) (a2 : Int32) : entOK 67 [vR (some (11, 0, i)), vI a1, vI a2] = true := by unfold entOK; rw [x67]; rfl
theorem en68 (i : Nat) (a1 : Int32) (a2 : Int32) (a3 : Int32) : ent 68 [vR (some (11, 0, i)), vI a1, vI a2, vI a3] = [some (vR (some (11, 0, i))), some (vI a1), some (vI a2), some (vI a3), none] := by unfold ent; rw [x68]; rfl
theorem ek68 (i : Nat) (a1 : Int32) (a2 : Int32) (a3 : Int32) : entOK 68 [vR (some (11, 0, i)), vI a1, vI a2, vI a3] = true := by unfold entOK; rw [x68]; rfl
theorem en69 (i : Nat) (a1 : Int32) (a2 : Int32) (a3 : Int32) (a4 : Int32) : ent 69 [vR (some (11, 0, i)), vI a1, vI a2, vI a3, vI a4] = [some (vR (some (11, 0, i))), some (vI a1), some (vI a2), some (vI a3), some (vI a4), none] := by unfold ent; rw [x69]; rfl
theorem ek69 (i : Nat) (a1 : Int32) (a2 : Int32) (a3 : Int32) (a4 : Int32) : entOK 69 [vR (some (11, 0, i)), vI a1, vI a2, vI a3, vI a4] = true := by unfold entOK; rw [x69]; rfl
theorem en70 (i : Nat) (a1 : Int32) (a2 : Int32) (a3 : Int32) : ent 70 [vR (some (11, 0, i)), vI a1, vI a2, vI a3] = [some (vR (some (11, 0, i))), some (vI a1), some (vI a2), some (vI a3), none, none] := by unfold ent; rw [x70]; rfl
theorem ek70 (i : Nat) (a1 : Int32) (a2 : Int32) (a3 : Int32) : entOK 70 [vR (some (11, 0, i)), vI a1, vI a2, vI a3] = true := by unfold entOK; rw [x70]; rfl
theorem en71 (i : Nat) (a1 : Int32) (a2 : Int32) : ent 71 [vR (some (11, 0, i)), vI a1, vI a2] = [some (vR (some (11, 0, i))), some (vI a1), some (vI a2), none] := by unfold ent; rw [x71]; rfl
theorem ek71 (i : Nat) (a1 : Int32) (a2 : Int32) : entOK 71 [vR (some (11, 0, i)), vI a1, vI a2] = true := by unfold entOK; rw [x71]; rfl
theorem en72 (i : Nat) (a1 : Int32) (a2 : Int32) : ent 72 [vR (some (11, 0, i)), vI a1, vI a2] = [some (vR (some (11, 0, i))), some (vI a1), some (vI a2), none, none] := by unfold ent; rw [x72]; rfl
theorem ek72 (i : Nat) (a1 : Int32) (a2 : Int32) : entOK 72 [vR (some (11, 0, i)), vI a1, vI a2] = true := by unfold entOK; rw [x72]; rfl
theorem en73 (i : Nat) (a1 : Int32) (a2 : Int32) (a3 : Int32) : ent 73 [vR (some (11, 0, i)), vI a1, vI a2, vI a3] = [some (vR (some (11, 0, i))), some (vI a1), some (vI a2), some (vI a3), none, none] := by unfold ent; rw [x73]; rfl
theorem ek73 (i : Nat) (a1 : Int32) (a2 : Int32) (a3 : Int32) : entOK 73 [vR (some (11, 0, i)), vI a1, vI a2, vI a3] = true := by unfold entOK; rw [x73]; rfl
theorem en74 (i : Nat) (a1 : Int32) (a2 : Int32) : ent 74 [vR (some (11, 0, i)), vI a1, vI a2] = [some (vR (some (11, 0, i))), some (vI a1), some (vI a2), none, none] := by unfold ent; rw [x74]; rfl
theorem ek74 (i : Nat) (a1 : Int32) (a2 : Int32) : entOK 74 [vR (some (11, 0, i)), vI a1, vI a2] = true := by unfold entOK; rw [x74]; rfl
theorem en75 (i : Nat) (a1 : Int32) (a2 : Int32) : ent 75 [vR (some (11, 0, i)), vI a1, vI a2] = [some (vR (some (11, 0, i))), some (vI a1), some (vI a2), none] := by unfold ent; rw [x75]; rfl
theorem ek75 (i : Nat) (a1 : Int32) (a2 : Int32) : entOK 75 [vR (some (11, 0, i)), vI a1, vI a2] = true := by unfold entOK; rw [x75]; rfl
theorem en76 (i : Nat) (a1 : Int32) (a2 : Int32) (a3 : Int32) : ent 76 [vR (some (11, 0, i)), vI a1, vI a2, vI a3] = [some (vR (some (11, 0, i))), some (vI a1), some (vI a2), some (vI a3)] := by unfold ent; rw [x76]; rfl
theorem ek76 (i : Nat) (a1 : Int32) (a2 : Int32) (a3 : Int32) : entOK 76 [vR (some (11, 0, i)), vI a1, vI a2, vI a3] = true := by unfold entOK; rw [x76]; rfl
theorem en77 (i : Nat) (a1 : Int32) (a2 : Int32) (a3 : Int32) : ent 77 [vR (some (11, 0, i)), vI a1, vI a2, vI a3] = [some (vR (some (11, 0, i))), some (vI a1), some (vI a2), some (vI a3), none, none] := by unfold ent; rw [x77]; rfl
theorem ek77 (i : Nat) (a1 : Int32) (a2 : Int32) (a3 : Int32) : entOK 77 [vR (some (11, 0, i)), vI a1, vI a2, vI a3] = true := by unfold entOK; rw [x77]; rfl
theorem en78 (i : Nat) (a1 : Int32) (a2 : Int32) : ent 78 [vR (some (11, 0, i)), vI a1, vI a2] = [some (vR (some (11, 0, i))), some (vI a1), some (vI a2), none, none] := by unfold ent; rw [x78]; rfl
theorem ek78 (i : Nat) (a1 : Int32) (a2 : Int32) : entOK 78 [vR (some (11, 0, i)), vI a1, vI a2] = true := by unfold entOK; rw [x78]; rfl
theorem en79 (i : Nat) (a1 : Int32) (a2 : Int32) (a3 : Int32) : ent 79 [vR (some (11, 0, i)), vI a1, vI a2, vI a3] = [some (vR (some (11, 0, i))), some (vI a1), some (vI a2), some (vI a3), none, none] := by unfold ent; rw [x79]; rfl
theorem ek79 (i : Nat) (a1 : Int32) (a2 : Int32) (a3 : Int32) : entOK 79 [vR (some (11, 0, i)), vI a1, vI a2, vI a3] = true := by unfold entOK; rw [x79]; rfl
theorem en80 (i : Nat) (a1 : Int32) (a2 : Int32) (a3 : Int32) (a4 : Int32) (a5 : Int32) : ent 80 [vR (some (11, 0, i)), vI a1, vI a2, vI a3, vI a4, vI a5] = [some (vR (some (11, 0, i))), some (vI a1), some (vI a2), some (vI a3), some (vI a4), some (vI a5), none] := by unfold ent; rw [x80]; rfl
theorem ek80 (i : Nat) (a1 : Int32) (a2 : Int32) (a3 : Int32) (a4 : Int32) (a5 : Int32) : entOK 80 [vR (some (11, 0, i)), vI a1, vI a2, vI a3, vI a4, vI a5] = true := by unfold entOK; rw [x80]; rfl
theorem en81 (i : Nat) (a1 : Int32) (a2 : Int32) : ent 81 [vR (some (11, 0, i)), vI a1, vI a2] = [some (vR (some (11, 0, i))), some (vI a1), some (vI a2), none, none] := by unfold ent; rw [x81]; rfl
theorem ek81 (i : Nat) (a1 : Int32) (a2 : Int32) : entOK 81 [vR (some (11, 0, i)), vI a1, vI a2] = true := by unfold entOK; rw [x81]; rfl
theorem en82 (i : Nat) (a1 : Int32) (a2 : Int32) (a3 : Int32) (a4 : Int32) (a5 : Int32) : ent 82 [vR (some (11, 0, i)), vI a1, vI a2, vI a3, vI a4, vI a5] = [some (vR (some (11, 0, i))), some (vI a1), some (vI a2), some (vI a3), some (vI a4), some (vI a5), none] := by unfold ent; rw [x82]; rfl
theorem ek82 (i : Nat) (a1 : Int32) (a2 : Int32) (a3 : Int32) (a4 : Int32) (a5 : Int32) : entOK 82 [vR (some (11, 0, i)), vI a1, vI a2, vI a3, vI a4, vI a5] = true := by unfold entOK; rw [x82]; rfl
theorem en83 (i : Nat) (a1 : Int32) (a2 : Int32) : ent 83 [vR (some (11, 0, i)), vI a1, vI a2] = [some (vR (some (11, 0, i))), some (vI a1), some (vI a2), none] := by unfold ent; rw [x83]; rfl
theorem ek83 (i : Nat) (a1 : Int32) (a2 : Int32) : entOK 83 [vR (some (11, 0, i)), vI a1, vI a2] = true := by unfold entOK; rw [x83]; rfl
theorem en84 (i : Nat) (a1 : Int32) (a2 : Int32) : ent 84 [vR (some (11, 0, i)), vI a1, vI a2] = [some (vR (some (11, 0, i))), some (vI a1), some (vI a2), none] := by unfold ent; rw [x84]; rfl
theorem ek84 (i : Nat) (a1 : Int32) (a2 : Int32) : entOK 84 [vR (some (11, 0, i)), vI a1, vI a2] = true := by unfold entOK; rw [x84]; rfl
theorem en85 (i : Nat) (a1 : Int32) : ent 85 [vR (some (11, 0, i)), vI a1] = [some (vR (some (11, 0, i))), some (vI a1), none, none] := by unfold ent; rw [x85]; rfl
theorem ek85 (i : Nat) (a1 : Int32) : entOK 85 [vR (some (11, 0, i)), vI a1] = true := by unfold entOK; rw [x85]; rfl
theorem en86 (i : Nat) (a1 : Int32) (a2 : Int32) : ent 86 [vR (some (11, 0, i)), vI a1, vI a2] = [some (vR (some (11, 0, i))), some (vI a1), some (vI a2)] := by unfold ent; rw [x86]; rfl
theorem ek86 (i : Nat) (a1 : Int32) (a2 : Int32) : entOK 86 [vR (some (11, 0, i)), vI a1, vI a2] = true := by unfold entOK; rw [x86]; rfl
theorem en87 (i : Nat) (a1 : Int32) (a2 : Int32) : ent 87 [vR (some (11, 0, i)), vI a1, vI a2] = [some (vR (some (11, 0, i))), some (vI a1), some (vI a2), none, none] := by unfold ent; rw [x87]; rfl
theorem ek87 (i : Nat) (a1 : Int32) (a2 : Int32) : entOK 87 [vR (some (11, 0, i)), vI a1, vI a2] = true := by unfold entOK; rw [x87]; rfl
theorem en88 (i : Nat) (a1 : Int32) : ent 88 [vR (some (11, 0, i)), vI a1] = [some (vR (some (11, 0, i))), some (vI a1), none] := by unfold ent; rw [x88]; rfl
theorem ek88 (i : Nat) (a1 : Int32) : entOK 88 [vR (some (11, 0, i)), vI a1] = true := by unfold entOK; rw [x88]; rfl
theorem en89 (i : Nat) (a1 : Int32) (a2 : Int32) : ent 89 [vR (some (11, 0, i)), vI a1, vI a2] = [some (vR (some (11, 0, i))), some (vI a1), some (vI a2), none, none] := by unfold ent; rw [x89]; rfl
theorem ek89 (i : Nat) (a1 : Int32) (a2 : Int32) : entOK 89 [vR (some (11, 0, i)), vI a1, vI a2] = true := by unfold entOK; rw [x89]; rfl
theorem en90 (i : Nat) (a1 : Int32) : ent 90 [vR (some (11, 0, i)), vI a1] = [some (vR (some (11, 0, i))), some (vI a1), none] := by unfold ent; rw [x90]; rfl
theorem ek90 (i : Nat) (a1 : Int32) : entOK 90 [vR (some (11, 0, i)), vI a1] = true := by unfold entOK; rw [x90]; rfl
theorem en91 (i : Nat) (a1 : Int32) (a2 : Int32) : ent 91 [vR (some (11, 0, i)), vI a1, vI a2] = [some (vR (some (11, 0, i))), some (vI a1), some (vI a2)] := by unfold ent; rw [x91]; rfl
theorem ek91 (i : Nat) (a1 : Int32) (a2 : Int32) : entOK 91 [vR (some (11, 0, i)), vI a1, vI a2] = true := by unfold entOK; rw [x91]; rfl
theorem en92 (i : Nat) (a1 : Int32) (a2 : Int32) : ent 92 [vR (some (11, 0, i)), vI a1, vI a2] = [some (vR (some (11, 0, i))), some (vI a1), some (vI a2)] := by unfold ent; rw [x92]; rfl
theorem ek92 (i : Nat) (a1 : Int32) (a2 : Int32) : entOK 92 [vR (some (11, 0, i)), vI a1, vI a2] = true := by unfold entOK; rw [x92]; rfl
theorem en93 (i : Nat) (a1 : Int32) (a2 : Int32) (a3 : Int32) : ent 93 [vR (some (11, 0, i)), vI a1, vI a2, vI a3] = [some (vR (some (11, 0, i))), some (vI a1), some (vI a2), some (vI a3), none, none, none, none, none, none, none] := by unfold ent; rw [x93]; rfl
theorem ek93 (i : Nat) (a1 : Int32) (a2 : Int32) (a3 : Int32) : entOK 93 [vR (some (11, 0, i)), vI a1, vI a2, vI a3] = true := by unfold entOK; rw [x93]; rfl
theorem en94 (i : Nat) (a1 : Int32) (a2 : Int32) (a3 : Int32) : ent 94 [vR (some (11, 0, i)), vI a1, vI a2, vI a3] = [some (vR (some (11, 0, i))), some (vI a1), some (vI a2), some (vI a3), none] := by unfold ent; rw [x94]; rfl
theorem ek94 (i : Nat) (a1 : Int32) (a2 : Int32) (a3 : Int32) : entOK 94 [vR (some (11, 0, i)), vI a1, vI a2, vI a3] = true := by unfold entOK; rw [x94]; rfl
theorem en95 (i : Nat) (a1 : Int32) (a2 : Int32) (a3 : Int32) : ent 95 [vR (some (11, 0, i)), vI a1, vI a2, vI a3] = [some (vR (some (11, 0, i))), some (vI a1), some (vI a2), some (vI a3), none, none] := by unfold ent; rw [x95]; rfl
theorem ek95 (i : Nat) (a1 : Int32) (a2 : Int32) (a3 : Int32) : entOK 95 [vR (some (11, 0, i)), vI a1, vI a2, vI a3] = true := by unfold entOK; rw [x95]; rfl
theorem en96 (i : Nat) (a1 : Int32) (a2 : Int32) : ent 96 [vR (some (11, 0, i)), vI a1, vI a2] = [some (vR (some (11, 0, i))), some (vI a1), some (vI a2), none, none] := by unfold ent; rw [x96]; rfl
theorem ek96 (i : Nat) (a1 : Int32) (a2 : Int32) : entOK 96 [vR (some (11, 0, i)), vI a1, vI a2] = true := by unfold entOK; rw [x96]; rfl
theorem en97 (i : Nat) (a1 : Int32) : ent 97 [vR (some (11, 0, i)), vI a1] = [some (vR (some (11, 0, i))), some (vI a1), none] := by unfold ent; rw [x97]; rfl
theorem ek97 (i : Nat) (a1 : Int32) : entOK 97 [vR (some (11, 0, i)), vI a1] = true := by unfold entOK; rw [x97]; rfl
theorem en98 (i : Nat) (a1 : Int32) : ent 98 [vR (some (11, 0, i)), vI a1] = [some (vR (some (11, 0, i))), some (vI a1), none, none, none] := by unfold ent; rw [x98]; rfl
theorem ek98 (i : Nat) (a1 : Int32) : entOK 98 [vR (some (11, 0, i)), vI a1] = true := by unfold entOK; rw [x98]; rfl
theorem en99 (i : Nat) (a1 : Int32) : ent 99 [vR (some (11, 0, i)), vI a1] = [some (vR (some (11, 0, i))), some (vI a1), none, none] := by unfold ent; rw [x99]; rfl
theorem ek99 (i : Nat) (a1 : Int32) : entOK 99 [vR (some (11, 0, i)), vI a1] = true := by unfold entOK; rw [x99]; rfl
theorem en100 (i : Nat) (a1 : Int32) (a2 : Int32) (a3 : Int32) : ent 100 [vR (some (11, 0, i)), vI a1, vI a2, vI a3] = [some (vR (some (11, 0, i))), some (vI a1), some (vI a2), some (vI a3), none] := by unfold ent; rw [x100]; rfl
theorem ek100 (i : Nat) (a1 : Int32) (a2 : Int32) (a3 : Int32) : entOK 100 [vR (some (11, 0, i)), vI a1, vI a2, vI a3] = true := by unfold entOK; rw [x100]; rfl
theorem en101 (i : Nat) (a1 : Int32) (a2 : Int32) : ent 101 [vR (some (11, 0, i)), vI a1, vI a2] = [some (vR (some (11, 0, i))), some (vI a1), some (vI a2), none] := by unfold ent; rw [x101]; rfl
theorem ek101 (i : Nat) (a1 : Int32) (a2 : Int32) : entOK 101 [vR (some (11, 0, i)), vI a1, vI a2] = true := by unfold entOK; rw [x101]; rfl
theorem en102 (i : Nat) (a1 : Int32) (a2 : Int32) : ent 102 [vR (some (11, 0, i)), vI a1, vI a2] = [some (vR (some (11, 0, i))), some (vI a1), some (vI a2), none] := by unfold ent; rw [x102]; rfl
theorem ek102 (i : Nat) (a1 : Int32) (a2 : Int32) : entOK 102 [vR (some (11, 0, i)), vI a1, vI a2] = true := by unfold entOK; rw [x102]; rfl
theorem en103 (i : Nat) (a1 : Int32) (a2 : Int32) (a3 : Int32) : ent 103 [vR (some (11, 0, i)), vI a1, vI a2, vI a3] = [some (vR (some (11, 0, i))), some (vI a1), some (vI a2), some (vI a3), none, none, none] := by unfold ent; rw [x103]; rfl
theorem ek103 (i : Nat) (a1 : Int32) (a2 : Int32) (a3 : Int32) : entOK 103 [vR (some (11, 0, i)), vI a1, vI a2, vI a3] = true := by unfold entOK; rw [x103]; rfl
theorem en104 (i : Nat) (a1 : Int32) (a2 : Int32) (a3 : Int32) : ent 104 [vR (some (11, 0, i)), vI a1, vI a2, vI a3] = [some (vR (some (11, 0, i))), some (vI a1), some (vI a2), some (vI a3)] := by unfold ent; rw [x104]; rfl
theorem ek104 (i : Nat) (a1 : Int32) (a2 : Int32) (a3 : Int32) : entOK 104 [vR (some (11, 0, i)), vI a1, vI a2, vI a3] = true := by unfold entOK; rw [x104]; rfl
theorem en105 (i : Nat) (a1 : Int32) : ent 105 [vR (some (11, 0, i)), vI a1] = [some (vR (some (11, 0, i))), some (vI a1), none] := by unfold ent; rw [x105]; rfl
theorem ek105 (i : Nat) (a1 : Int32) : entOK 105 [vR (some (11, 0, i)), vI a1] = true := by unfold entOK; rw [x105]; rfl
theorem en106 (i : Nat) (a1 : Int32) (a2 : Int32) (a3 : Int32) (a4 : Int32) : ent 106 [vR (some (11, 0, i)), vI a1, vI a2, vI a3, vI a4] = [some (vR (some (11, 0, i))), some (vI a1), some (vI a2), some (vI a3), some (vI a4), none] := by unfold ent; rw [x106]; rfl
theorem ek106 (i : Nat) (a1 : Int32) (a2 : Int32) (a3 : Int32) (a4 : Int32) : entOK 106 [vR (some (11, 0, i)), vI a1, vI a2, vI a3, vI a4] = true := by unfold entOK; rw [x106]; rfl
theorem en107 (i : Nat) (a1 : Int32) (a2 : Int32) (a3 : Int32) (a4 : Int32) (a5 : Int32) : ent 107 [vR (some (11, 0, i)), vI a1, vI a2, vI a3, vI a4, vI a5] = [some (vR (some (11, 0, i))), some (vI a1), some (vI a2), some (vI a3), some (vI a4), some (vI a5), none, none, none, none] := by unfold ent; rw [x107]; rfl
theorem ek107 (i : Nat) (a1 : Int32) (a2 : Int32) (a3 : Int32) (a4 : Int32) (a5 : Int32) : entOK 107 [vR (some (11, 0, i)), vI a1, vI a2, vI a3, vI a4, vI a5] = true := by unfold entOK; rw [x107]; rfl
theorem en108 (a0 : Int32) (a1 : Int32) : ent 108 [vI a0, vI a1] = [some (vI a0), some (vI a1)] := by unfold ent; rw [x108]; rfl
theorem ek108 (a0 : Int32) (a1 : Int32) : entOK 108 [vI a0, vI a1] = true := by unfold entOK; rw [x108]; rfl
theorem en109 (a0 : Int32) : ent 109 [vI a0] = [some (vI a0)] := by unfold ent; rw [x109]; rfl
theorem ek109 (a0 : Int32) : entOK 109 [vI a0] = true := by unfold entOK; rw [x109]; rfl
theorem en110 (a0 : Int32) (a1 : Int32) (a2 : Int32) : ent 110 [vI a0, vI a1, vI a2] = [some (vI a0), some (vI a1), some (vI a2)] := by unfold ent; rw [x110]; rfl
theorem ek110 (a0 : Int32) (a1 : Int32) (a2 : Int32) : entOK 110 [vI a0, vI a1, vI a2] = true := by unfold entOK; rw [x110]; rfl
theorem en111 (a0 : Int32) (a1 : Int32) (a2 : Int32) : ent 111 [vI a0, vI a1, vI a2] = [some (vI a0), some (vI a1), some (vI a2)] := by unfold ent; rw [x111]; rfl
theorem ek111 (a0 : Int32) (a1 : Int32) (a2 : Int32) : entOK 111 [vI a0, vI a1, vI a2] = true := by unfold entOK; rw [x111]; rfl
theorem en112 (a0 : Int32) (a1 : Int32) : ent 112 [vI a0, vI a1] = [some (vI a0), some (vI a1)] := by unfold ent; rw [x112]; rfl
theorem ek112 (a0 : Int32) (a1 : Int32) : entOK 112 [vI a0, vI a1] = true := by unfold entOK; rw [x112]; rfl
theorem en113 (i : Nat) (a1 : Int32) : ent 113 [vR (some (11, 0, i)), vI a1] = [some (vR (some (11, 0, i))), some (vI a1)] := by unfold ent; rw [x113]; rfl
theorem ek113 (i : Nat) (a1 : Int32) : entOK 113 [vR (some (11, 0, i)), vI a1] = true := by unfold entOK; rw [x113]; rfl
theorem en114 (i : Nat) (a1 : Int32) : ent 114 [vR (some (11, 0, i)), vI a1] = [some (vR (some (11, 0, i))), some (vI a1)] := by unfold ent; rw [x114]; rfl
theorem ek114 (i : Nat) (a1 : Int32) : entOK 114 [vR (some (11, 0, i)), vI a1] = true := by unfold entOK; rw [x114]; rfl
theorem en115 (i : Nat) (a1 : Int32) : ent 115 [vR (some (11, 0, i)), vI a1] = [some (vR (some (11, 0, i))), some (vI a1)] := by unfold ent; rw [x115]; rfl
theorem ek115 (i : Nat) (a1 : Int32) : entOK 115 [vR (some (11, 0, i)), vI a1] = true := by unfold entOK; rw [x115]; rfl
theorem en116 (i : Nat) (a1 : Int32) (a2 : Int32) : ent 116 [vR (some (11, 0, i)), vI a1, vI a2] = [some (vR (some (11, 0, i))), some (vI a1), some (vI a2)] := by unfold ent; rw [x116]; rfl
theorem ek116 (i : Nat) (a1 : Int32) (a2 : Int32) : entOK 116 [vR (some (11, 0, i)), vI a1, vI a2] = true := by unfold entOK; rw [x116]; rfl
theorem en117 (i : Nat) (a1 : Int32) : ent 117 [vR (some (11, 0, i)), vI a1] = [some (vR (some (11, 0, i))), some (vI a1), none] := by unfold ent; rw [x117]; rfl
theorem ek117 (i : Nat) (a1 : Int32) : entOK 117 [vR (some (11, 0, i)), vI a1] = true := by unfold entOK; rw [x117]; rfl
theorem en118 (i : Nat) (a1 : Int32) (a2 : Int32) : ent 118 [vR (some (11, 0, i)), vI a1, vI a2] = [some (vR (some (11, 0, i))), some (vI a1), some (vI a2), none] := by unfold ent; rw [x118]; rfl
theorem ek118 (i : Nat) (a1 : Int32) (a2 : Int32) : entOK 118 [vR (some (11, 0, i)), vI a1, vI a2] = true := by unfold entOK; rw [x118]; rfl
theorem en119 (i : Nat) (a1 : Int32) (a2 : Int32) (a3 : Int32) : ent 119 [vR (some (11, 0, i)), vI a1, vI a2, vI a3] = [some (vR (some (11, 0, i))), some (vI a1), some (vI a2), some (vI a3), none, none, none] := by unfold ent; rw [x119]; rfl
theorem ek119 (i : Nat) (a1 : Int32) (a2 : Int32) (a3 : Int32) : entOK 119 [vR (some (11, 0, i)), vI a1, vI a2, vI a3] = true := by unfold entOK; rw [x119]; rfl
theorem en120 (i : Nat) (a1 : Int32) (a2 : Option (Nat × Nat × Nat)) : ent 120 [vR (some (11, 0, i)), vI a1, vR a2] = [some (vR (some (11, 0, i))), some (vI a1), some (vR a2), none] := by unfold ent; rw [x120]; rfl
theorem ek120 (i : Nat) (a1 : Int32) (a2 : Option (Nat × Nat × Nat)) : entOK 120 [vR (some (11, 0, i)), vI a1, vR a2] = true := by unfold entOK; rw [x120]; rfl
theorem en121 (i : Nat) (a1 : Option (Nat × Nat × Nat)) (a2 : Option (Nat × Nat × Nat)) (a3 : Int32) : ent 121 [vR (some (11, 0, i)), vR a1, vR a2, vI a3] = [some (vR (some (11, 0, i))), some (vR a1), some (vR a2), some (vI a3), none] := by unfold ent; rw [x121]; rfl
theorem ek121 (i : Nat) (a1 : Option (Nat × Nat × Nat)) (a2 : Option (Nat × Nat × Nat)) (a3 : Int32) : entOK 121 [vR (some (11, 0, i)), vR a1, vR a2, vI a3] = true := by unfold entOK; rw [x121]; rfl
theorem en122 (i : Nat) (a1 : Option (Nat × Nat × Nat)) : ent 122 [vR (some (11, 0, i)), vR a1] = [some (vR (some (11, 0, i))), some (vR a1), none] := by unfold ent; rw [x122]; rfl
theorem ek122 (i : Nat) (a1 : Option (Nat × Nat × Nat)) : entOK 122 [vR (some (11, 0, i)), vR a1] = true := by unfold entOK; rw [x122]; rfl
theorem en123 (i : Nat) (a1 : Option (Nat × Nat × Nat)) : ent 123 [vR (some (11, 0, i)), vR a1] = [some (vR (some (11, 0, i))), some (vR a1), none] := by unfold ent; rw [x123]; rfl
theorem ek123 (i : Nat) (a1 : Option (Nat × Nat × Nat)) : entOK 123 [vR (some (11, 0, i)), vR a1] = true := by unfold entOK; rw [x123]; rfl
theorem en124 (i : Nat) (a1 : Int32) : ent 124 [vR (some (11, 0, i)), vI a1] = [some (vR (some (11, 0, i))), some (vI a1), none] := by unfold ent; rw [x124]; rfl
theorem ek124 (i : Nat) (a1 : Int32) : entOK 124 [vR (some (11, 0, i)), vI a1] = true := by unfold entOK; rw [x124]; rfl
theorem en125 (i : Nat) (a1 : Option (Nat × Nat × Nat)) : ent 125 [vR (some (11, 0, i)), vR a1] = [some (vR (some (11, 0, i))), some (vR a1), none, none] := by unfold ent; rw [x125]; rfl
theorem ek125 (i : Nat) (a1 : Option (Nat × Nat × Nat)) : entOK 125 [vR (some (11, 0, i)), vR a1] = true := by unfold entOK; rw [x125]; rfl
theorem en126 (a0 : Option (Nat × Nat × Nat)) (a1 : Option (Nat × Nat × Nat)) : ent 126 [vR a0, vR a1] = [some (vR a0), some (vR a1)] := by unfold ent; rw [x126]; rfl
theorem ek126 (a0 : Option (Nat × Nat × Nat)) (a1 : Option (Nat × Nat × Nat)) : entOK 126 [vR a0, vR a1] = true := by unfold entOK; rw [x126]; rfl
theorem en127 (i : Nat) (a1 : Option (Nat × Nat × Nat)) (a2 : Option (Nat × Nat × Nat)) : ent 127 [vR (some (11, 0, i)), vR a1, vR a2] = [some (vR (some (11, 0, i))), some (vR a1), some (vR a2), none, none] := by unfold ent; rw [x127]; rfl
theorem ek127 (i : Nat) (a1 : Option (Nat × Nat × Nat)) (a2 : Option (Nat × Nat × Nat)) : entOK 127 [vR (some (11, 0, i)), vR a1, vR a2] = true := by unfold entOK; rw [x127]; rfl
theorem en128 (i : Nat) (a1 : Option (Nat × Nat × Nat)) (a2 : Option (Nat × Nat × Nat)) : ent 128 [vR (some (11, 0, i)), vR a1, vR a2] = [some (vR (some (11, 0, i))), some (vR a1), some (vR a2)] := by unfold ent; rw [x128]; rfl
theorem ek128 (i : Nat) (a1 : Option (Nat × Nat × Nat)) (a2 : Option (Nat × Nat × Nat)) : entOK 128 [vR (some (11, 0, i)), vR a1, vR a2] = true := by unfold entOK; rw [x128]; rfl
theorem en129 (a0 : Int64) (a1 : Int64) (a2 : Int64) : ent 129 [vL a0, vL a1, vL a2] = [some (vL a0), none, some (vL a1), none, some (vL a2), none] := by unfold ent; rw [x129]; rfl
theorem ek129 (a0 : Int64) (a1 : Int64) (a2 : Int64) : entOK 129 [vL a0, vL a1, vL a2] = true := by unfold entOK; rw [x129]; rfl
theorem en130 (i : Nat) : ent 130 [vR (some (12, 0, i))] = [some (vR (some (12, 0, i))), none] := by unfold ent; rw [x130]; rfl
theorem ek130 (i : Nat) : entOK 130 [vR (some (12, 0, i))] = true := by unfold entOK; rw [x130]; rfl
theorem en131 (a0 : Int32) : ent 131 [vI a0] = [some (vI a0)] := by unfold ent; rw [x131]; rfl
theorem ek131 (a0 : Int32) : entOK 131 [vI a0] = true := by unfold entOK; rw [x131]; rfl
theorem en132 (i : Nat) (a1 : Int64) (a2 : Int32) : ent 132 [vR (some (12, 0, i)), vL a1, vI a2] = [some (vR (some (12, 0, i))), some (vL a1), none, some (vI a2), none] := by unfold ent; rw [x132]; rfl
theorem ek132 (i : Nat) (a1 : Int64) (a2 : Int32) : entOK 132 [vR (some (12, 0, i)), vL a1, vI a2] = true := by unfold entOK; rw [x132]; rfl
theorem en133 (i : Nat) : ent 133 [vR (some (12, 0, i))] = [some (vR (some (12, 0, i)))] := by unfold ent; rw [x133]; rfl
theorem ek133 (i : Nat) : entOK 133 [vR (some (12, 0, i))] = true := by unfold entOK; rw [x133]; rfl
theorem en134 (i : Nat) (a1 : Int32) : ent 134 [vR (some (12, 0, i)), vI a1] = [some (vR (some (12, 0, i))), some (vI a1)] := by unfold ent; rw [x134]; rfl
theorem ek134 (i : Nat) (a1 : Int32) : entOK 134 [vR (some (12, 0, i)), vI a1] = true := by unfold entOK; rw [x134]; rfl
theorem en135 (i : Nat) (a1 : Int32) : ent 135 [vR (some (12, 0, i)), vI a1] = [some (vR (some (12, 0, i))), some (vI a1), none] := by unfold ent; rw [x135]; rfl
theorem ek135 (i : Nat) (a1 : Int32) : entOK 135 [vR (some (12, 0, i)), vI a1] = true := by unfold entOK; rw [x135]; rfl
theorem en136 (i : Nat) (a1 : Int32) : ent 136 [vR (some (12, 0, i)), vI a1] = [some (vR (some (12, 0, i))), some (vI a1)] := by unfold ent; rw [x136]; rfl
theorem ek136 (i : Nat) (a1 : Int32) : entOK 136 [vR (some (12, 0, i)), vI a1] = true := by unfold entOK; rw [x136]; rfl
theorem en137 (i : Nat) (a1 : Int32) : ent 137 [vR (some (12, 0, i)), vI a1] = [some (vR (some (12, 0, i))), some (vI a1), none, none, none] := by unfold ent; rw [x137]; rfl
theorem ek137 (i : Nat) (a1 : Int32) : entOK 137 [vR (some (12, 0, i)), vI a1] = true := by unfold entOK; rw [x137]; rfl
theorem en138 (i : Nat) (a1 : Int32) : ent 138 [vR (some (12, 0, i)), vI a1] = [some (vR (some (12, 0, i))), some (vI a1)] := by unfold ent; rw [x138]; rfl
theorem ek138 (i : Nat) (a1 : Int32) : entOK 138 [vR (some (12, 0, i)), vI a1] = true := by unfold entOK; rw [x138]; rfl
theorem en139 (i : Nat) : ent 139 [vR (some (12, 0, i))] = [some (vR (some (12, 0, i)))] := by unfold ent; rw [x139]; rfl
theorem ek139 (i : Nat) : entOK 139 [vR (some (12, 0, i))] = true := by unfold entOK; rw [x139]; rfl
theorem en140 (i : Nat) (a1 : Int32) : ent 140 [vR (some (12, 0, i)), vI a1] = [some (vR (some (12, 0, i))), some (vI a1)] := by unfold ent; rw [x140]; rfl
theorem ek140 (i : Nat) (a1 : Int32) : entOK 140 [vR (some (12, 0, i)), vI a1] = true := by unfold entOK; rw [x140]; rfl
theorem en141 (i : Nat) (a1 : Int32) : ent 141 [vR (some (12, 0, i)), vI a1] = [some (vR (some (12, 0, i))), some (vI a1), none, none, none] := by unfold ent; rw [x141]; rfl
theorem ek141 (i : Nat) (a1 : Int32) : entOK 141 [vR (some (12, 0, i)), vI a1] = true := by unfold entOK; rw [x141]; rfl
theorem en142 (i : Nat) : ent 142 [vR (some (12, 0, i))] = [some (vR (some (12, 0, i))), none, none] := by unfold ent; rw [x142]; rfl
theorem ek142 (i : Nat) : entOK 142 [vR (some (12, 0, i))] = true := by unfold entOK; rw [x142]; rfl
theorem en143 (i : Nat) : ent 143 [vR (some (12, 0, i))] = [some (vR (some (12, 0, i))), none, none] := by unfold ent; rw [x143]; rfl
theorem ek143 (i : Nat) : entOK 143 [vR (some (12, 0, i))] = true := by unfold entOK; rw [x143]; rfl
theorem en144 (i : Nat) : ent 144 [vR (some (12, 0, i))] = [some (vR (some (12, 0, i))), none] := by unfold ent; rw [x144]; rfl
theorem ek144 (i : Nat) : entOK 144 [vR (some (12, 0, i))] = true := by unfold entOK; rw [x144]; rfl
theorem en145 (a0 : Int32) : ent 145 [vI a0] = [some (vI a0)] := by unfold ent; rw [x145]; rfl
theorem ek145 (a0 : Int32) : entOK 145 [vI a0] = true := by unfold entOK; rw [x145]; rfl
theorem en146 (i : Nat) (a1 : Int32) (a2 : Int32) : ent 146 [vR (some (12, 0, i)), vI a1, vI a2] = [some (vR (some (12, 0, i))), some (vI a1), some (vI a2), none, none, none] := by unfold ent; rw [x146]; rfl
theorem ek146 (i : Nat) (a1 : Int32) (a2 : Int32) : entOK 146 [vR (some (12, 0, i)), vI a1, vI a2] = true := by unfold entOK; rw [x146]; rfl
theorem en147 (a0 : Int32) : ent 147 [vI a0] = [some (vI a0), none, none] := by unfold ent; rw [x147]; rfl
theorem ek147 (a0 : Int32) : entOK 147 [vI a0] = true := by unfold entOK; rw [x147]; rfl
theorem en148 (i : Nat) (a1 : Int32) (a2 : Int32) : ent 148 [vR (some (12, 0, i)), vI a1, vI a2] = [some (vR (some (12, 0, i))), some (vI a1), some (vI a2)] := by unfold ent; rw [x148]; rfl
theorem ek148 (i : Nat) (a1 : Int32) (a2 : Int32) : entOK 148 [vR (some (12, 0, i)), vI a1, vI a2] = true := by unfold entOK; rw [x148]; rfl
theorem en149 (i : Nat) (a1 : Int32) (a2 : Int32) (a3 : Int32) : ent 149 [vR (some (12, 0, i)), vI a1, vI a2, vI a3] = [some (vR (some (12, 0, i))), some (vI a1), some (vI a2), some (vI a3), none] := by unfold ent; rw [x149]; rfl
theorem ek149 (i : Nat) (a1 : Int32) (a2 : Int32) (a3 : Int32) : entOK 149 [vR (some (12, 0, i)), vI a1, vI a2, vI a3] = true := by unfold entOK; rw [x149]; rfl
theorem en150 (i : Nat) (a1 : Int32) (a2 : Int32) : ent 150 [vR (some (12, 0, i)), vI a1, vI a2] = [some (vR (some (12, 0, i))), some (vI a1), some (vI a2)] := by unfold ent; rw [x150]; rfl
theorem ek150 (i : Nat) (a1 : Int32) (a2 : Int32) : entOK 150 [vR (some (12, 0, i)), vI a1, vI a2] = true := by unfold entOK; rw [x150]; rfl
theorem en151 (i : Nat) (a1 : Int32) (a2 : Int32) (a3 : Int32) (a4 : Int32) : ent 151 [vR (some (12, 0, i)), vI a1, vI a2, vI a3, vI a4] = [some (vR (some (12, 0, i))), some (vI a1), some (vI a2), some (vI a3), some (vI a4), none, none, none, none] := by unfold ent; rw [x151]; rfl
theorem ek151 (i : Nat) (a1 : Int32) (a2 : Int32) (a3 : Int32) (a4 : Int32) : entOK 151 [vR (some (12, 0, i)), vI a1, vI a2, vI a3, vI a4] = true := by unfold entOK; rw [x151]; rfl
theorem en152 (i : Nat) (a1 : Int32) (a2 : Int32) : ent 152 [vR (some (12, 0, i)), vI a1, vI a2] = [some (vR (some (12, 0, i))), some (vI a1), some (vI a2), none, none] := by unfold ent; rw [x152]; rfl
theorem ek152 (i : Nat) (a1 : Int32) (a2 : Int32) : entOK 152 [vR (some (12, 0, i)), vI a1, vI a2] = true := by unfold entOK; rw [x152]; rfl
theorem en153 (i : Nat) (a1 : Int32) (a2 : Int32) (a3 : Int32) : ent 153 [vR (some (12, 0, i)), vI a1, vI a2, vI a3] = [some (vR (some (12, 0, i))), some (vI a1), some (vI a2), some (vI a3), none] := by unfold ent; rw [x153]; rfl
theorem ek153 (i : Nat) (a1 : Int32) (a2 : Int32) (a3 : Int32) : entOK 153 [vR (some (12, 0, i)), vI a1, vI a2, vI a3] = true := by unfold entOK; rw [x153]; rfl
theorem en154 (i : Nat) (a1 : Int32) : ent 154 [vR (some (12, 0, i)), vI a1] = [some (vR (some (12, 0, i))), some (vI a1)] := by unfold ent; rw [x154]; rfl
theorem ek154 (i : Nat) (a1 : Int32) : entOK 154 [vR (some (12, 0, i)), vI a1] = true := by unfold entOK; rw [x154]; rfl
theorem en155 (i : Nat) (a1 : Int32) (a2 : Int32) : ent 155 [vR (some (12, 0, i)), vI a1, vI a2] = [some (vR (some (12, 0, i))), some (vI a1), some (vI a2)] := by unfold ent; rw [x155]; rfl
theorem ek155 (i : Nat) (a1 : Int32) (a2 : Int32) : entOK 155 [vR (some (12, 0, i)), vI a1, vI a2] = true := by unfold entOK; rw [x155]; rfl
theorem en156 (i : Nat) (a1 : Int32) (a2 : Int32) : ent 156 [vR (some (12, 0, i)), vI a1, vI a2] = [some (vR (some (12, 0, i))), some (vI a1), some (vI a2)] := by unfold ent; rw [x156]; rfl
theorem ek156 (i : Nat) (a1 : Int32) (a2 : Int32) : entOK 156 [vR (some (12, 0, i)), vI a1, vI a2] = true := by unfold entOK; rw [x156]; rfl
theorem en157 (i : Nat) (a1 : Int32) (a2 : Int32) : ent 157 [vR (some (12, 0, i)), vI a1, vI a2] = [some (vR (some (12, 0, i))), some (vI a1), some (vI a2), none] := by unfold ent; rw [x157]; rfl
theorem ek157 (i : Nat) (a1 : Int32) (a2 : Int32) : entOK 157 [vR (some (12, 0, i)), vI a1, vI a2] = true := by unfold entOK; rw [x157]; rfl
theorem en158 (i : Nat) (a1 : Int32) (a2 : Int32) : ent 158 [vR (some (12, 0, i)), vI a1, vI a2] = [some (vR (some (12, 0, i))), some (vI a1), some (vI a2), none, none] := by unfold ent; rw [x158]; rfl
theorem ek158 (i : Nat) (a1 : Int32) (a2 : Int32) : entOK 158 [vR (some (12, 0, i)), vI a1, vI a2] = true := by unfold entOK; rw [x158]; rfl
theorem en159 (i : Nat) (a1 : Int32) (a2 : Int32) : ent 159 [vR (some (12, 0, i)), vI a1, vI a2] = [some (vR (some (12, 0, i))), some (vI a1), some (vI a2)] := by unfold ent; rw [x159]; rfl
theorem ek159 (i : Nat) (a1 : Int32) (a2 : Int32) : entOK 159 [vR (some (12, 0, i)), vI a1, vI a2] = true := by unfold entOK; rw [x159]; rfl
theorem en160 (i : Nat) (a1 : Int32) (a2 : Int32) : ent 160 [vR (some (12, 0, i)), vI a1, vI a2] = [some (vR (some (12, 0, i))), some (vI a1), some (vI a2)] := by unfold ent; rw [x160]; rfl
theorem ek160 (i : Nat) (a1 : Int32) (a2 : Int32) : entOK 160 [vR (some (12, 0, i)), vI a1, vI a2] = true := by unfold entOK; rw [x160]; rfl
theorem en161 (i : Nat) (a1 : Int32) (a2 : Int32) : ent 161 [vR (some (12, 0, i)), vI a1, vI a2] = [some (vR (some (12, 0, i))), some (vI a1), some (vI a2), none, none, none, none] := by unfold ent; rw [x161]; rfl
theorem ek161 (i : Nat) (a1 : Int32) (a2 : Int32) : entOK 161 [vR (some (12, 0, i)), vI a1, vI a2] = true := by unfold entOK; rw [x161]; rfl
theorem en162 (i : Nat) (a1 : Int32) (a2 : Int32) : ent 162 [vR (some (12, 0, i)), vI a1, vI a2] = [some (vR (some (12, 0, i))), some (vI a1), some (vI a2), none, none, none, none] := by unfold ent; rw [x162]; rfl
theorem ek162 (i : Nat) (a1 : Int32) (a2 : Int32) : entOK 162 [vR (some (12, 0, i)), vI a1, vI a2] = true := by unfold entOK; rw [x162]; rfl
theorem en163 (i : Nat) (a1 : Int32) (a2 : Int32) (a3 : Int32) : ent 163 [vR (some (12, 0, i)), vI a1, vI a2, vI a3] = [some (vR (some (12, 0, i))), some (vI a1), some (vI a2), some (vI a3), none] := by unfold ent; rw [x163]; rfl
theorem ek163 (i : Nat) (a1 : Int32) (a2 : Int32) (a3 : Int32) : entOK 163 [vR (some (12, 0, i)), vI a1, vI a2, vI a3] = true := by unfold entOK; rw [x163]; rfl
theorem en164 (i : Nat) (a1 : Int32) (a2 : Int32) : ent 164 [vR (some (12, 0, i)), vI a1, vI a2] = [some (vR (some (12, 0, i))), some (vI a1), some (vI a2)] := by unfold ent; rw [x164]; rfl
theorem ek164 (i : Nat) (a1 : Int32) (a2 : Int32) : entOK 164 [vR (some (12, 0, i)), vI a1, vI a2] = true := by unfold entOK; rw [x164]; rfl
theorem en165 (i : Nat) (a1 : Int32) (a2 : Int32) : ent 165 [vR (some (12, 0, i)), vI a1, vI a2] = [some (vR (some (12, 0, i))), some (vI a1), some (vI a2), none] := by unfold ent; rw [x165]; rfl
theorem ek165 (i : Nat) (a1 : Int32) (a2 : Int32) : entOK 165 [vR (some (12, 0, i)), vI a1, vI a2] = true := by unfold entOK; rw [x165]; rfl
theorem en166 (i : Nat) (a1 : Int32) (a2 : Int32) : ent 166 [vR (some (12, 0, i)), vI a1, vI a2] = [some (vR (some (12, 0, i))), some (vI a1), some (vI a2), none, none, none, none, none, none] := by unfold ent; rw [x166]; rfl
theorem ek166 (i : Nat) (a1 : Int32) (a2 : Int32) : entOK 166 [vR (some (12, 0, i)), vI a1, vI a2] = true := by unfold entOK; rw [x166]; rfl
theorem en167 (i : Nat) (a1 : Int32) (a2 : Int32) (a3 : Int32) : ent 167 [vR (some (12, 0, i)), vI a1, vI a2, vI a3] = [some (vR (some (12, 0, i))), some (vI a1), some (vI a2), some (vI a3)] := by unfold ent; rw [x167]; rfl
theorem ek167 (i : Nat) (a1 : Int32) (a2 : Int32) (a3 : Int32) : entOK 167 [vR (some (12, 0, i)), vI a1, vI a2, vI a3] = true := by unfold entOK; rw [x167]; rfl
theorem en168 (i : Nat) (a1 : Int32) (a2 : Int32) (a3 : Int32) : ent 168 [vR (some (12, 0, i)), vI a1, vI a2, vI a3] = [some (vR (some (12, 0, i))), some (vI a1), some (vI a2), some (vI a3), none, none] := by unfold ent; rw [x168]; rfl
theorem ek168 (i : Nat) (a1 : Int32) (a2 : Int32) (a3 : Int32) : entOK 168 [vR (some (12, 0, i)), vI a1, vI a2, vI a3] = true := by unfold entOK; rw [x168]; rfl
theorem en169 (i : Nat) (a1 : Int32) (a2 : Int32) (a3 : Int32) : ent 169 [vR (some (12, 0, i)), vI a1, vI a2, vI a3] = [some (vR (some (12, 0, i))), some (vI a1), some (vI a2), some (vI a3), none] := by unfold ent; rw [x169]; rfl
theorem ek169 (i : Nat) (a1 : Int32) (a2 : Int32) (a3 : Int32) : entOK 169 [vR (some (12, 0, i)), vI a1, vI a2, vI a3] = true := by unfold entOK; rw [x169]; rfl
theorem en170 (i : Nat) (a1 : Int32) : ent 170 [vR (some (12, 0, i)), vI a1] = [some (vR (some (12, 0, i))), some (vI a1)] := by unfold ent; rw [x170]; rfl
theorem ek170 (i : Nat) (a1 : Int32) : entOK 170 [vR (some (12, 0, i)), vI a1] = true := by unfold entOK; rw [x170]; rfl
theorem en171 (i : Nat) (a1 : Int32) (a2 : Int32) : ent 171 [vR (some (12, 0, i)), vI a1, vI a2] = [some (vR (some (12, 0, i))), some (vI a1), some (vI a2), none] := by unfold ent; rw [x171]; rfl
theorem ek171 (i : Nat) (a1 : Int32) (a2 : Int32) : entOK 171 [vR (some (12, 0, i)), vI a1, vI a2] = true := by unfold entOK; rw [x171]; rfl
theorem en172 (i : Nat) (a1 : Int32) : ent 172 [vR (some (12, 0, i)), vI a1] = [some (vR (some (12, 0, i))), some (vI a1)] := by unfold ent; rw [x172]; rfl
theorem ek172 (i : Nat) (a1 : Int32) : entOK 172 [vR (some (12, 0, i)), vI a1] = true := by unfold entOK; rw [x172]; rfl
theorem en173 (i : Nat) (a1 : Int32) (a2 : Int32) : ent 173 [vR (some (12, 0, i)), vI a1, vI a2] = [some (vR (some (12, 0, i))), some (vI a1), some (vI a2)] := by unfold ent; rw [x173]; rfl
theorem ek173 (i : Nat) (a1 : Int32) (a2 : Int32) : entOK 173 [vR (some (12, 0, i)), vI a1, vI a2] = true := by unfold entOK; rw [x173]; rfl
theorem en174 (i : Nat) (a1 : Int32) (a2 : Int32) (a3 : Int32) : ent 174 [vR (some (12, 0, i)), vI a1, vI a2, vI a3] = [some (vR (some (12, 0, i))), some (vI a1), some (vI a2), some (vI a3)] := by unfold ent; rw [x174]; rfl
theorem ek174 (i : Nat) (a1 : Int32) (a2 : Int32) (a3 : Int32) : entOK 174 [vR (some (12, 0, i)), vI a1, vI a2, vI a3] = true := by unfold entOK; rw [x174]; rfl
theorem en175 (a0 : Int32) (a1 : Int32) (a2 : Int32) : ent 175 [vI a0, vI a1, vI a2] = [some (vI a0), some (vI a1), some (vI a2)] := by unfold ent; rw [x175]; rfl
theorem ek175 (a0 : Int32) (a1 : Int32) (a2 : Int32) : entOK 175 [vI a0, vI a1, vI a2] = true := by unfold entOK; rw [x175]; rfl
theorem en176 (i : Nat) (a1 : Int32) (a2 : Int32) : ent 176 [vR (some (12, 0, i)), vI a1, vI a2] = [some (vR (some (12, 0, i))), some (vI a1), some (vI a2)] := by unfold ent; rw [x176]; rfl
theorem ek176 (i : Nat) (a1 : Int32) (a2 : Int32) : entOK 176 [vR (some (12, 0, i)), vI a1, vI a2] = true := by unfold entOK; rw [x176]; rfl
theorem en177 (i : Nat) (a1 : Int32) (a2 : Int32) (a3 : Int32) (a4 : Int32) (a5 : Int32) : ent 177 [vR (some (12, 0, i)), vI a1, vI a2, vI a3, vI a4, vI a5] = [some (vR (some (12, 0, i))), some (vI a1), some (vI a2), some (vI a3), some (vI a4), some (vI a5)] := by unfold ent; rw [x177]; rfl
theorem ek177 (i : Nat) (a1 : Int32) (a2 : Int32) (a3 : Int32) (a4 : Int32) (a5 : Int32) : entOK 177 [vR (some (12, 0, i)), vI a1, vI a2, vI a3, vI a4, vI a5] = true := by unfold entOK; rw [x177]; rfl
theorem en178 (i : Nat) (a1 : Int32) (a2 : Int32) : ent 178 [vR (some (12, 0, i)), vI a1, vI a2] = [some (vR (some (12, 0, i))), some (vI a1), some (vI a2)] := by unfold ent; rw [x178]; rfl
theorem ek178 (i : Nat) (a1 : Int32) (a2 : Int32) : entOK 178 [vR (some (12, 0, i)), vI a1, vI a2] = true := by unfold entOK; rw [x178]; rfl
theorem en179 (i : Nat) (a1 : Int32) (a2 : Int32) (a3 : Int32) (a4 : Int32) (a5 : Int32) : ent 179 [vR (some (12, 0, i)), vI a1, vI a2, vI a3, vI a4, vI a5] = [some (vR (some (12, 0, i))), some (vI a1), some (vI a2), some (vI a3), some (vI a4), some (vI a5)] := by unfold ent; rw [x179]; rfl
theorem ek179 (i : Nat) (a1 : Int32) (a2 : Int32) (a3 : Int32) (a4 : Int32) (a5 : Int32) : entOK 179 [vR (some (12, 0, i)), vI a1, vI a2, vI a3, vI a4, vI a5] = true := by unfold entOK; rw [x179]; rfl
theorem en180 (i : Nat) (a1 : Int32) (a2 : Int32) : ent 180 [vR (some (12, 0, i)), vI a1, vI a2] = [some (vR (some (12, 0, i))), some (vI a1), some (vI a2)] := by unfold ent; rw [x180]; rfl
theorem ek180 (i : Nat) (a1 : Int32) (a2 : Int32) : entOK 180 [vR (some (12, 0, i)), vI a1, vI a2] = true := by unfold entOK; rw [x180]; rfl
theorem en181 (i : Nat) (a1 : Int32) : ent 181 [vR (some (12, 0, i)), vI a1] = [some (vR (some (12, 0, i))), some (vI a1)] := by unfold ent; rw [x181]; rfl
theorem ek181 (i : Nat) (a1 : Int32) : entOK 181 [vR (some (12, 0, i)), vI a1] = true := by unfold entOK; rw [x181]; rfl
theorem en182 (i : Nat) (a1 : Int32) (a2 : Int32) : ent 182 [vR (some (12, 0, i)), vI a1, vI a2] = [some (vR (some (12, 0, i))), some (vI a1), some (vI a2)] := by unfold ent; rw [x182]; rfl
theorem ek182 (i : Nat) (a1 : Int32) (a2 : Int32) : entOK 182 [vR (some (12, 0, i)), vI a1, vI a2] = true := by unfold entOK; rw [x182]; rfl
theorem en183 (i : Nat) (a1 : Int32) : ent 183 [vR (some (12, 0, i)), vI a1] = [some (vR (some (12, 0, i))), some (vI a1), none, none] := by unfold ent; rw [x183]; rfl
theorem ek183 (i : Nat) (a1 : Int32) : entOK 183 [vR (some (12, 0, i)), vI a1] = true := by unfold entOK; rw [x183]; rfl
theorem en184 (i : Nat) (a1 : Int32) (a2 : Int32) : ent 184 [vR (some (12, 0, i)), vI a1, vI a2] = [some (vR (some (12, 0, i))), some (vI a1), some (vI a2)] := by unfold ent; rw [x184]; rfl
theorem ek184 (i : Nat) (a1 : Int32) (a2 : Int32) : entOK 184 [vR (some (12, 0, i)), vI a1, vI a2] = true := by unfold entOK; rw [x184]; rfl
theorem en185 (i : Nat) (a1 : Int32) : ent 185 [vR (some (12, 0, i)), vI a1] = [some (vR (some (12, 0, i))), some (vI a1)] := by unfold ent; rw [x185]; rfl
theorem ek185 (i : Nat) (a1 : Int32) : entOK 185 [vR (some (12, 0, i)), vI a1] = true := by unfold entOK; rw [x185]; rfl
theorem en186 (i : Nat) (a1 : Int32) (a2 : Int32) : ent 186 [vR (some (12, 0, i)), vI a1, vI a2] = [some (vR (some (12, 0, i))), some (vI a1), some (vI a2), none] := by unfold ent; rw [x186]; rfl
theorem ek186 (i : Nat) (a1 : Int32) (a2 : Int32) : entOK 186 [vR (some (12, 0, i)), vI a1, vI a2] = true := by unfold entOK; rw [x186]; rfl
theorem en187 (i : Nat) (a1 : Int32) : ent 187 [vR (some (12, 0, i)), vI a1] = [some (vR (some (12, 0, i))), some (vI a1)] := by unfold ent; rw [x187]; rfl
theorem ek187 (i : Nat) (a1 : Int32) : entOK 187 [vR (some (12, 0, i)), vI a1] = true := by unfold entOK; rw [x187]; rfl
theorem en188 (i : Nat) (a1 : Int32) (a2 : Int32) : ent 188 [vR (some (12, 0, i)), vI a1, vI a2] = [some (vR (some (12, 0, i))), some (vI a1), some (vI a2)] := by unfold ent; rw [x188]; rfl
theorem ek188 (i : Nat) (a1 : Int32) (a2 : Int32) : entOK 188 [vR (some (12, 0, i)), vI a1, vI a2] = true := by unfold entOK; rw [x188]; rfl
theorem en189 (i : Nat) (a1 : Int32) (a2 : Int32) : ent 189 [vR (some (12, 0, i)), vI a1, vI a2] = [some (vR (some (12, 0, i))), some (vI a1), some (vI a2)] := by unfold ent; rw [x189]; rfl
theorem ek189 (i : Nat) (a1 : Int32) (a2 : Int32) : entOK 189 [vR (some (12, 0, i)), vI a1, vI a2] = true := by unfold entOK; rw [x189]; rfl
theorem en190 (i : Nat) (a1 : Int32) : ent 190 [vR (some (12, 0, i)), vI a1] = [some (vR (some (12, 0, i))), some (vI a1)] := by unfold ent; rw [x190]; rfl
theorem ek190 (i : Nat) (a1 : Int32) : entOK 190 [vR (some (12, 0, i)), vI a1] = true := by unfold entOK; rw [x190]; rfl
theorem en191 (i : Nat) : ent 191 [vR (some (12, 0, i))] = [some (vR (some (12, 0, i))), none, none] := by unfold ent; rw [x191]; rfl
theorem ek191 (i : Nat) : entOK 191 [vR (some (12, 0, i))] = true := by unfold entOK; rw [x191]; rfl
theorem en192 (i : Nat) : ent 192 [vR (some (12, 0, i))] = [some (vR (some (12, 0, i))), none] := by unfold ent; rw [x192]; rfl
theorem ek192 (i : Nat) : entOK 192 [vR (some (12, 0, i))] = true := by unfold entOK; rw [x192]; rfl
theorem en193 (i : Nat) (a1 : Int32) : ent 193 [vR (some (12, 0, i)), vI a1] = [some (vR (some (12, 0, i))), some (vI a1), none, none] := by unfold ent; rw [x193]; rfl
theorem ek193 (i : Nat) (a1 : Int32) : entOK 193 [vR (some (12, 0, i)), vI a1] = true := by unfold entOK; rw [x193]; rfl
theorem en194 (i : Nat) (a1 : Int32) (a2 : Int32) : ent 194 [vR (some (12, 0, i)), vI a1, vI a2] = [some (vR (some (12, 0, i))), some (vI a1), some (vI a2)] := by unfold ent; rw [x194]; rfl
theorem ek194 (i : Nat) (a1 : Int32) (a2 : Int32) : entOK 194 [vR (some (12, 0, i)), vI a1, vI a2] = true := by unfold entOK; rw [x194]; rfl
theorem en195 (i : Nat) (a1 : Int32) (a2 : Int32) : ent 195 [vR (some (12, 0, i)), vI a1, vI a2] = [some (vR (some (12, 0, i))), some (vI a1), some (vI a2), none, none] := by unfold ent; rw [x195]; rfl
theorem ek195 (i : Nat) (a1 : Int32) (a2 : Int32) : entOK 195 [vR (some (12, 0, i)), vI a1, vI a2] = true := by unfold entOK; rw [x195]; rfl
theorem en196 (i : Nat) (a1 : Int32) (a2 : Int32) (a3 : Int32) : ent 196 [vR (some (12, 0, i)), vI a1, vI a2, vI a3] = [some (vR (some (12, 0, i))), some (vI a1), some (vI a2), some (vI a3), none, none, none, none, none, none, none, none] := by unfold ent; rw [x196]; rfl
theorem ek196 (i : Nat) (a1 : Int32) (a2 : Int32) (a3 : Int32) : entOK 196 [vR (some (12, 0, i)), vI a1, vI a2, vI a3] = true := by unfold entOK; rw [x196]; rfl
theorem en197 (i : Nat) (a1 : Int32) (a2 : Int32) (a3 : Int32) : ent 197 [vR (some (12, 0, i)), vI a1, vI a2, vI a3] = [some (vR (some (12, 0, i))), some (vI a1), some (vI a2), some (vI a3), none] := by unfold ent; rw [x197]; rfl
theorem ek197 (i : Nat) (a1 : Int32) (a2 : Int32) (a3 : Int32) : entOK 197 [vR (some (12, 0, i)), vI a1, vI a2, vI a3] = true := by unfold entOK; rw [x197]; rfl
theorem en198 (i : Nat) (a1 : Int32) (a2 : Int32) (a3 : Int32) : ent 198 [vR (some (12, 0, i)), vI a1, vI a2, vI a3] = [some (vR (some (12, 0, i))), some (vI a1), some (vI a2), some (vI a3), none] := by unfold ent; rw [x198]; rfl
theorem ek198 (i : Nat) (a1 : Int32) (a2 : Int32) (a3 : Int32) : entOK 198 [vR (some (12, 0, i)), vI a1, vI a2, vI a3] = true := by unfold entOK; rw [x198]; rfl
theorem en199 (i : Nat) (a1 : Int32) (a2 : Int32) : ent 199 [vR (some (12, 0, i)), vI a1, vI a2] = [some (vR (some (12, 0, i))), some (vI a1), some (vI a2), none, none, none] := by unfold ent; rw [x199]; rfl
theorem ek199 (i : Nat) (a1 : Int32) (a2 : Int32) : entOK 199 [vR (some (12, 0, i)), vI a1, vI a2] = true := by unfold entOK; rw [x199]; rfl
theorem en200 (i : Nat) (a1 : Int32) (a2 : Int32) : ent 200 [vR (some (12, 0, i)), vI a1, vI a2] = [some (vR (some (12, 0, i))), some (vI a1), some (vI a2)] := by unfold ent; rw [x200]; rfl
theorem ek200 (i : Nat) (a1 : Int32) (a2 : Int32) : entOK 200 [vR (some (12, 0, i)), vI a1, vI a2] = true := by unfold entOK; rw [x200]; rfl
theorem en201 (i : Nat) (a1 : Int32) : ent 201 [vR (some (12, 0, i)), vI a1] = [some (vR (some (12, 0, i))), some (vI a1), none] := by unfold ent; rw [x201]; rfl
theorem ek201 (i : Nat) (a1 : Int32) : entOK 201 [vR (some (12, 0, i)), vI a1] = true := by unfold entOK; rw [x201]; rfl
theorem en202 (i : Nat) (a1 : Int32) : ent 202 [vR (some (12, 0, i)), vI a1] = [some (vR (some (12, 0, i))), some (vI a1), none, none, none] := by unfold ent; rw [x202]; rfl
theorem ek202 (i : Nat) (a1 : Int32) : entOK 202 [vR (some (12, 0, i)), vI a1] = true := by unfold entOK; rw [x202]; rfl
theorem en203 (i : Nat) : ent 203 [vR (some (12, 0, i))] = [some (vR (some (12, 0, i))), none, none, none] := by unfold ent; rw [x203]; rfl
theorem ek203 (i : Nat) : entOK 203 [vR (some (12, 0, i))] = true := by unfold entOK; rw [x203]; rfl
theorem en204 (i : Nat) (a1 : Int32) : ent 204 [vR (some (12, 0, i)), vI a1] = [some (vR (some (12, 0, i))), some (vI a1), none, none] := by unfold ent; rw [x204]; rfl
theorem ek204 (i : Nat) (a1 : Int32) : entOK 204 [vR (some (12, 0, i)), vI a1] = true := by unfold entOK; rw [x204]; rfl
theorem en205 (i : Nat) (a1 : Int32) (a2 : Int32) (a3 : Int32) : ent 205 [vR (some (12, 0, i)), vI a1, vI a2, vI a3] = [some (vR (some (12, 0, i))), some (vI a1), some (vI a2), some (vI a3)] := by unfold ent; rw [x205]; rfl
theorem ek205 (i : Nat) (a1 : Int32) (a2 : Int32) (a3 : Int32) : entOK 205 [vR (some (12, 0, i)), vI a1, vI a2, vI a3] = true := by unfold entOK; rw [x205]; rfl
theorem en206 (i : Nat) (a1 : Int32) (a2 : Int32) : ent 206 [vR (some (12, 0, i)), vI a1, vI a2] = [some (vR (some (12, 0, i))), some (vI a1), some (vI a2), none, none, none] := by unfold ent; rw [x206]; rfl
theorem ek206 (i : Nat) (a1 : Int32) (a2 : Int32) : entOK 206 [vR (some (12, 0, i)), vI a1, vI a2] = true := by unfold entOK; rw [x206]; rfl
theorem en207 (i : Nat) (a1 : Int32) (a2 : Int32) : ent 207 [vR (some (12, 0, i)), vI a1, vI a2] = [some (vR (some (12, 0, i))), some (vI a1), some (vI a2), none, none, none, none] := by unfold ent; rw [x207]; rfl
theorem ek207 (i : Nat) (a1 : Int32) (a2 : Int32) : entOK 207 [vR (some (12, 0, i)), vI a1, vI a2] = true := by unfold entOK; rw [x207]; rfl
theorem en208 (i : Nat) (a1 : Int32) (a2 : Int32) : ent 208 [vR (some (12, 0, i)), vI a1, vI a2] = [some (vR (some (12, 0, i))), some (vI a1), some (vI a2), none, none] := by unfold ent; rw [x208]; rfl
theorem ek208 (i : Nat) (a1 : Int32) (a2 : Int32) : entOK 208 [vR (some (12, 0, i)), vI a1, vI a2] = true := by unfold entOK; rw [x208]; rfl
theorem en209 (i : Nat) (a1 : Int32) (a2 : Int32) (a3 : Int32) : ent 209 [vR (some (12, 0, i)), vI a1, vI a2, vI a3] = [some (vR (some (12, 0, i))), some (vI a1), some (vI a2), some (vI a3), none] := by unfold ent; rw [x209]; rfl
theorem ek209 (i : Nat) (a1 : Int32) (a2 : Int32) (a3 : Int32) : entOK 209 [vR (some (12, 0, i)), vI a1, vI a2, vI a3] = true := by unfold entOK; rw [x209]; rfl
theorem en210 (a0 : Int32) (a1 : Int32) : ent 210 [vI a0, vI a1] = [some (vI a0), some (vI a1)] := by unfold ent; rw [x210]; rfl
theorem ek210 (a0 : Int32) (a1 : Int32) : entOK 210 [vI a0, vI a1] = true := by unfold entOK; rw [x210]; rfl
theorem en211 (i : Nat) (a1 : Int32) (a2 : Int32) (a3 : Int32) : ent 211 [vR (some (12, 0, i)), vI a1, vI a2, vI a3] = [some (vR (some (12, 0, i))), some (vI a1), some (vI a2), some (vI a3), none] := by unfold ent; rw [x211]; rfl
theorem ek211 (i : Nat) (a1 : Int32) (a2 : Int32) (a3 : Int32) : entOK 211 [vR (some (12, 0, i)), vI a1, vI a2, vI a3] = true := by unfold entOK; rw [x211]; rfl
theorem en212 (i : Nat) (a1 : Int32) : ent 212 [vR (some (12, 0, i)), vI a1] = [some (vR (some (12, 0, i))), some (vI a1)] := by unfold ent; rw [x212]; rfl
theorem ek212 (i : Nat) (a1 : Int32) : entOK 212 [vR (some (12, 0, i)), vI a1] = true := by unfold entOK; rw [x212]; rfl
theorem en213 (i : Nat) (a1 : Int32) (a2 : Int32) (a3 : Int32) (a4 : Int32) : ent 213 [vR (some (12, 0, i)), vI a1, vI a2, vI a3, vI a4] = [some (vR (some (12, 0, i))), some (vI a1), some (vI a2), some (vI a3), some (vI a4)] := by unfold ent; rw [x213]; rfl
theorem ek213 (i : Nat) (a1 : Int32) (a2 : Int32) (a3 : Int32) (a4 : Int32) : entOK 213 [vR (some (12, 0, i)), vI a1, vI a2, vI a3, vI a4] = true := by unfold entOK; rw [x213]; rfl
theorem en214 (i : Nat) (a1 : Int32) (a2 : Int32) (a3 : Int32) (a4 : Int32) : ent 214 [vR (some (12, 0, i)), vI a1, vI a2, vI a3, vI a4] = [some (vR (some (12, 0, i))), some (vI a1), some (vI a2), some (vI a3), some (vI a4), none] := by unfold ent; rw [x214]; rfl
theorem ek214 (i : Nat) (a1 : Int32) (a2 : Int32) (a3 : Int32) (a4 : Int32) : entOK 214 [vR (some (12, 0, i)), vI a1, vI a2, vI a3, vI a4] = true := by unfold entOK; rw [x214]; rfl
theorem en215 (i : Nat) (a1 : Int32) (a2 : Int32) (a3 : Int32) (a4 : Int32) (a5 : Int32) : ent 215 [vR (some (12, 0, i)), vI a1, vI a2, vI a3, vI a4, vI a5] = [some (vR (some (12, 0, i))), some (vI a1), some (vI a2), some (vI a3), some (vI a4), some (vI a5), none, none, none] := by unfold ent; rw [x215]; rfl
theorem ek215 (i : Nat) (a1 : Int32) (a2 : Int32) (a3 : Int32) (a4 : Int32) (a5 : Int32) : entOK 215 [vR (some (12, 0, i)), vI a1, vI a2, vI a3, vI a4, vI a5] = true := by unfold entOK; rw [x215]; rfl
theorem en216 (a0 : Int32) : ent 216 [vI a0] = [some (vI a0)] := by unfold ent; rw [x216]; rfl
theorem ek216 (a0 : Int32) : entOK 216 [vI a0] = true := by unfold entOK; rw [x216]; rfl
theorem en217 (a0 : Option (Nat × Nat × Nat)) (a1 : Int32) : ent 217 [vR a0, vI a1] = [some (vR a0), some (vI a1), none, none] := by unfold ent; rw [x217]; rfl
theorem ek217 (a0 : Option (Nat × Nat × Nat)) (a1 : Int32) : entOK 217 [vR a0, vI a1] = true := by unfold entOK; rw [x217]; rfl
theorem en218 (a0 : Option (Nat × Nat × Nat)) : ent 218 [vR a0] = [some (vR a0), none, none, none] := by unfold ent; rw [x218]; rfl
theorem ek218 (a0 : Option (Nat × Nat × Nat)) : entOK 218 [vR a0] = true := by unfold entOK; rw [x218]; rfl
