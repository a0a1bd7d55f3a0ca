theorem GL0 {h w L : Nat} {xs : Nat → Int32} : gL (Z0 h w L xs) 13 0 0 = some L := rfl
theorem GL1 {h w L : Nat} {xs : Nat → Int32} : gL (Z1 h w L xs) 13 0 0 = some L := by
  unfold Z1
  rw [LOp, if_neg (fun z => absurd z.1 (by decide))]; exact GL0
theorem GL2 {h w L : Nat} {xs : Nat → Int32} : gL (Z2 h w L xs) 13 0 0 = some L := by
  unfold Z2
  rw [LOp, if_neg (fun z => absurd z.1 (by decide))]; exact GL1
theorem GL3 {h w L : Nat} {xs : Nat → Int32} : gL (Z3 h w L xs) 13 0 0 = some L := by
  unfold Z3
  rw [LWp, if_neg (fun z => absurd z.1 (by decide))]; exact GL2
theorem GL4 {h w L : Nat} {xs : Nat → Int32} : gL (Z4 h w L xs) 13 0 0 = some L := by
  unfold Z4
  rw [LI]; exact GL3
theorem GL5 {h w L : Nat} {xs : Nat → Int32} : gL (Z5 h w L xs) 13 0 0 = some L := by
  unfold Z5
  rw [LI]; exact GL4
theorem GL6 {h w L : Nat} {xs : Nat → Int32} : gL (Z6 h w L xs) 13 0 0 = some L := by
  unfold Z6
  rw [LR]; exact GL5
theorem GL7 {h w L : Nat} {xs : Nat → Int32} : gL (Z7 h w L xs) 13 0 0 = some L := by
  unfold Z7
  rw [LWp, if_neg (fun z => absurd z.1 (by decide))]; exact GL6
theorem GL8 {h w L : Nat} {xs : Nat → Int32} : gL (Z8 h w L xs) 13 0 0 = some L := by
  unfold Z8
  rw [LWp, if_neg (fun z => absurd z.1 (by decide))]; exact GL7
theorem GL9 {h w L : Nat} {xs : Nat → Int32} : gL (Z9 h w L xs) 13 0 0 = some L := by
  unfold Z9
  rw [LWp, if_neg (fun z => absurd z.1 (by decide))]; exact GL8
theorem GL10 {h w L : Nat} {xs : Nat → Int32} : gL (Z10 h w L xs) 13 0 0 = some L := by
  unfold Z10
  rw [LOp, if_neg (fun z => absurd z.1 (by decide))]; exact GL9
theorem GL11 {h w L : Nat} {xs : Nat → Int32} : gL (Z11 h w L xs) 13 0 0 = some L := by
  unfold Z11
  rw [LI]; exact GL10
theorem GL12 {h w L : Nat} {xs : Nat → Int32} : gL (Z12 h w L xs) 13 0 0 = some L := by
  unfold Z12
  rw [LI]; exact GL11
theorem GL13 {h w L : Nat} {xs : Nat → Int32} : gL (Z13 h w L xs) 13 0 0 = some L := by
  unfold Z13
  rw [LWp, if_neg (fun z => absurd z.1 (by decide))]; exact GL12
theorem GL14 {h w L : Nat} {xs : Nat → Int32} : gL (Z14 h w L xs) 13 0 0 = some L := by
  unfold Z14
  rw [LWp, if_neg (fun z => absurd z.1 (by decide))]; exact GL13
theorem GL15 {h w L : Nat} {xs : Nat → Int32} : gL (Z15 h w L xs) 13 0 0 = some L := by
  unfold Z15
  rw [LWp, if_neg (fun z => absurd z.1 (by decide))]; exact GL14
theorem GL16 {h w L : Nat} {xs : Nat → Int32} : gL (Z16 h w L xs) 13 0 0 = some L := by
  unfold Z16
  rw [LWp, if_neg (fun z => absurd z.1 (by decide))]; exact GL15
theorem GL17 {h w L : Nat} {xs : Nat → Int32} : gL (Z17 h w L xs) 13 0 0 = some L := by
  unfold Z17
  rw [LWp, if_neg (fun z => absurd z.1 (by decide))]; exact GL16
theorem GL18 {h w L : Nat} {xs : Nat → Int32} : gL (Z18 h w L xs) 13 0 0 = some L := by
  unfold Z18
  rw [LWp, if_neg (fun z => absurd z.1 (by decide))]; exact GL17
theorem GL19 {h w L : Nat} {xs : Nat → Int32} : gL (Z19 h w L xs) 13 0 0 = some L := by
  unfold Z19
  rw [LI]; exact GL18
theorem GL20 {h w L : Nat} {xs : Nat → Int32} : gL (Z20 h w L xs) 13 0 0 = some L := by
  unfold Z20
  rw [LR]; exact GL19
theorem GL21 {h w L : Nat} {xs : Nat → Int32} : gL (Z21 h w L xs) 13 0 0 = some L := by
  unfold Z21
  rw [LOp, if_neg (fun z => absurd z.1 (by decide))]; exact GL20
theorem GL22 {h w L : Nat} {xs : Nat → Int32} : gL (Z22 h w L xs) 13 0 0 = some L := by
  unfold Z22
  rw [LI]; exact GL21
theorem GL23 {h w L : Nat} {xs : Nat → Int32} : gL (Z23 h w L xs) 13 0 0 = some L := by
  unfold Z23
  rw [LWp, if_neg (fun z => absurd z.1 (by decide))]; exact GL22
theorem GL24 {h w L : Nat} {xs : Nat → Int32} : gL (Z24 h w L xs) 13 0 0 = some L := by
  unfold Z24
  rw [LWp, if_neg (fun z => absurd z.1 (by decide))]; exact GL23
theorem GL25 {h w L : Nat} {xs : Nat → Int32} : gL (Z25 h w L xs) 13 0 0 = some L := by
  unfold Z25
  rw [LWp, if_neg (fun z => absurd z.1 (by decide))]; exact GL24
theorem GL26 {h w L : Nat} {xs : Nat → Int32} : gL (Z26 h w L xs) 13 0 0 = some L := by
  unfold Z26
  rw [LR]; exact GL25
theorem GL27 {h w L : Nat} {xs : Nat → Int32} : gL (Z27 h w L xs) 13 0 0 = some L := by
  unfold Z27
  rw [LWp, if_neg (fun z => absurd z.1 (by decide))]; exact GL26
theorem GL28 {h w L : Nat} {xs : Nat → Int32} : gL (Z28 h w L xs) 13 0 0 = some L := by
  unfold Z28
  rw [LI]; exact GL27
theorem GL29 {h w L : Nat} {xs : Nat → Int32} : gL (Z29 h w L xs) 13 0 0 = some L := by
  unfold Z29
  rw [LWp, if_neg (fun z => absurd z.1 (by decide))]; exact GL28
theorem GL30 {h w L : Nat} {xs : Nat → Int32} : gL (Z30 h w L xs) 13 0 0 = some L := by
  unfold Z30
  rw [LI]; exact GL29
theorem GL31 {h w L : Nat} {xs : Nat → Int32} : gL (Z31 h w L xs) 13 0 0 = some L := by
  unfold Z31
  rw [LWp, if_neg (fun z => absurd z.1 (by decide))]; exact GL30
theorem GL32 {h w L : Nat} {xs : Nat → Int32} : gL (Z32 h w L xs) 13 0 0 = some L := by
  unfold Z32
  rw [LI]; exact GL31
theorem GL33 {h w L : Nat} {xs : Nat → Int32} : gL (Z33 h w L xs) 13 0 0 = some L := by
  unfold Z33
  rw [LWp, if_neg (fun z => absurd z.1 (by decide))]; exact GL32
theorem GL34 {h w L : Nat} {xs : Nat → Int32} : gL (Z34 h w L xs) 13 0 0 = some L := by
  unfold Z34
  rw [LOp, if_neg (fun z => absurd z.1 (by decide))]; exact GL33
theorem GL35 {h w L : Nat} {xs : Nat → Int32} : gL (Z35 h w L xs) 13 0 0 = some L := by
  unfold Z35
  rw [LWp, if_neg (fun z => absurd z.1 (by decide))]; exact GL34
theorem GL36 {h w L : Nat} {xs : Nat → Int32} : gL (Z36 h w L xs) 13 0 0 = some L := by
  unfold Z36
  rw [LWp, if_neg (fun z => absurd z.1 (by decide))]; exact GL35
theorem GL37 {h w L : Nat} {xs : Nat → Int32} : gL (Z37 h w L xs) 13 0 0 = some L := by
  unfold Z37
  rw [LWp, if_neg (fun z => absurd z.1 (by decide))]; exact GL36
theorem GL38 {h w L : Nat} {xs : Nat → Int32} : gL (Z38 h w L xs) 13 0 0 = some L := by
  unfold Z38
  rw [LI]; exact GL37
theorem GL39 {h w L : Nat} {xs : Nat → Int32} : gL (Z39 h w L xs) 13 0 0 = some L := by
  unfold Z39
  rw [LR]; exact GL38
theorem GL40 {h w L : Nat} {xs : Nat → Int32} : gL (Z40 h w L xs) 13 0 0 = some L := by
  unfold Z40
  rw [LWp, if_neg (fun z => absurd z.1 (by decide))]; exact GL39
theorem GL41 {h w L : Nat} {xs : Nat → Int32} : gL (Z41 h w L xs) 13 0 0 = some L := by
  unfold Z41
  rw [LI]; exact GL40
theorem GL42 {h w L : Nat} {xs : Nat → Int32} : gL (Z42 h w L xs) 13 0 0 = some L := by
  unfold Z42
  rw [LWp, if_neg (fun z => absurd z.1 (by decide))]; exact GL41
theorem GL43 {h w L : Nat} {xs : Nat → Int32} : gL (Z43 h w L xs) 13 0 0 = some L := by
  unfold Z43
  rw [LOp, if_neg (fun z => absurd z.1 (by decide))]; exact GL42
theorem GL44 {h w L : Nat} {xs : Nat → Int32} : gL (Z44 h w L xs) 13 0 0 = some L := by
  unfold Z44
  rw [LWp, if_neg (fun z => absurd z.1 (by decide))]; exact GL43
theorem GL45 {h w L : Nat} {xs : Nat → Int32} : gL (Z45 h w L xs) 13 0 0 = some L := by
  unfold Z45
  rw [LWp, if_neg (fun z => absurd z.1 (by decide))]; exact GL44
theorem GL46 {h w L : Nat} {xs : Nat → Int32} : gL (Z46 h w L xs) 13 0 0 = some L := by
  unfold Z46
  rw [LWp, if_neg (fun z => absurd z.1 (by decide))]; exact GL45
theorem GL47 {h w L : Nat} {xs : Nat → Int32} : gL (Z47 h w L xs) 13 0 0 = some L := by
  unfold Z47
  rw [LWp, if_neg (fun z => absurd z.1 (by decide))]; exact GL46
theorem GL48 {h w L : Nat} {xs : Nat → Int32} : gL (Z48 h w L xs) 13 0 0 = some L := by
  unfold Z48
  rw [LWp, if_neg (fun z => absurd z.1 (by decide))]; exact GL47
theorem GL49 {h w L : Nat} {xs : Nat → Int32} : gL (Z49 h w L xs) 13 0 0 = some L := by
  unfold Z49
  rw [LWp, if_neg (fun z => absurd z.1 (by decide))]; exact GL48
theorem GL50 {h w L : Nat} {xs : Nat → Int32} : gL (Z50 h w L xs) 13 0 0 = some L := by
  unfold Z50
  rw [LWp, if_neg (fun z => absurd z.1 (by decide))]; exact GL49
theorem GL51 {h w L : Nat} {xs : Nat → Int32} : gL (Z51 h w L xs) 13 0 0 = some L := by
  unfold Z51
  rw [LWp, if_neg (fun z => absurd z.1 (by decide))]; exact GL50
theorem GL52 {h w L : Nat} {xs : Nat → Int32} : gL (Z52 h w L xs) 13 0 0 = some L := by
  unfold Z52
  rw [LI]; exact GL51
theorem GL53 {h w L : Nat} {xs : Nat → Int32} : gL (Z53 h w L xs) 13 0 0 = some L := by
  unfold Z53
  rw [LI]; exact GL52
theorem GL54 {h w L : Nat} {xs : Nat → Int32} : gL (Z54 h w L xs) 13 0 0 = some L := by
  unfold Z54
  rw [LI]; exact GL53
theorem GL55 {h w L : Nat} {xs : Nat → Int32} : gL (Z55 h w L xs) 13 0 0 = some L := by
  unfold Z55
  rw [LI]; exact GL54
theorem GL56 {h w L : Nat} {xs : Nat → Int32} : gL (Z56 h w L xs) 13 0 0 = some L := by
  unfold Z56
  rw [LR]; exact GL55
theorem GL57 {h w L : Nat} {xs : Nat → Int32} : gL (Z57 h w L xs) 13 0 0 = some L := by
  unfold Z57
  rw [LOp, if_neg (fun z => absurd z.1 (by decide))]; exact GL56
theorem GL58 {h w L : Nat} {xs : Nat → Int32} : gL (Z58 h w L xs) 13 0 0 = some L := by
  unfold Z58
  rw [LWp, if_neg (fun z => absurd z.1 (by decide))]; exact GL57
theorem GL59 {h w L : Nat} {xs : Nat → Int32} : gL (Z59 h w L xs) 13 0 0 = some L := by
  unfold Z59
  rw [LWp, if_neg (fun z => absurd z.1 (by decide))]; exact GL58
theorem GL60 {h w L : Nat} {xs : Nat → Int32} : gL (Z60 h w L xs) 13 0 0 = some L := by
  unfold Z60
  rw [LWp, if_neg (fun z => absurd z.1 (by decide))]; exact GL59
theorem GL61 {h w L : Nat} {xs : Nat → Int32} : gL (Z61 h w L xs) 13 0 0 = some L := by
  unfold Z61
  rw [LR]; exact GL60
theorem GL62 {h w L : Nat} {xs : Nat → Int32} : gL (Z62 h w L xs) 13 0 0 = some L := by
  unfold Z62
  rw [LWp, if_neg (fun z => absurd z.1 (by decide))]; exact GL61
theorem GL63 {h w L : Nat} {xs : Nat → Int32} : gL (Z63 h w L xs) 13 0 0 = some L := by
  unfold Z63
  rw [LOp, if_neg (fun z => absurd z.1 (by decide))]; exact GL62
theorem GL64 {h w L : Nat} {xs : Nat → Int32} : gL (Z64 h w L xs) 13 0 0 = some L := by
  unfold Z64
  rw [LI]; exact GL63
theorem GL65 {h w L : Nat} {xs : Nat → Int32} : gL (Z65 h w L xs) 13 0 0 = some L := by
  unfold Z65
  rw [LWp, if_neg (fun z => absurd z.1 (by decide))]; exact GL64
theorem GL66 {h w L : Nat} {xs : Nat → Int32} : gL (Z66 h w L xs) 13 0 0 = some L := by
  unfold Z66
  rw [LWp, if_neg (fun z => absurd z.1 (by decide))]; exact GL65
theorem GL67 {h w L : Nat} {xs : Nat → Int32} : gL (Z67 h w L xs) 13 0 0 = some L := by
  unfold Z67
  rw [LWp, if_neg (fun z => absurd z.1 (by decide))]; exact GL66
theorem GL68 {h w L : Nat} {xs : Nat → Int32} : gL (Z68 h w L xs) 13 0 0 = some L := by
  unfold Z68
  rw [LQ]; exact GL67
theorem GL69 {h w L : Nat} {xs : Nat → Int32} : gL (Z69 h w L xs) 13 0 0 = some L := by
  unfold Z69
  rw [LOp, if_neg (fun z => absurd z.1 (by decide))]; exact GL68
theorem GL70 {h w L : Nat} {xs : Nat → Int32} : gL (Z70 h w L xs) 13 0 0 = some L := by
  unfold Z70
  rw [LI]; exact GL69
theorem GL71 {h w L : Nat} {xs : Nat → Int32} : gL (Z71 h w L xs) 13 0 0 = some L := by
  unfold Z71
  rw [LWp, if_neg (fun z => absurd z.1 (by decide))]; exact GL70
theorem GL72 {h w L : Nat} {xs : Nat → Int32} : gL (Z72 h w L xs) 13 0 0 = some L := by
  unfold Z72
  rw [LWp, if_neg (fun z => absurd z.1 (by decide))]; exact GL71
theorem GL73 {h w L : Nat} {xs : Nat → Int32} : gL (Z73 h w L xs) 13 0 0 = some L := by
  unfold Z73
  rw [LWp, if_neg (fun z => absurd z.1 (by decide))]; exact GL72
theorem GL74 {h w L : Nat} {xs : Nat → Int32} : gL (Z74 h w L xs) 13 0 0 = some L := by
  unfold Z74
  rw [LQ]; exact GL73
theorem GL75 {h w L : Nat} {xs : Nat → Int32} : gL (Z75 h w L xs) 13 0 0 = some L := by
  unfold Z75
  rw [LOp, if_neg (fun z => absurd z.1 (by decide))]; exact GL74
theorem GL76 {h w L : Nat} {xs : Nat → Int32} : gL (Z76 h w L xs) 13 0 0 = some L := by
  unfold Z76
  rw [LI]; exact GL75
theorem GL77 {h w L : Nat} {xs : Nat → Int32} : gL (Z77 h w L xs) 13 0 0 = some L := by
  unfold Z77
  rw [LWp, if_neg (fun z => absurd z.1 (by decide))]; exact GL76
theorem GL78 {h w L : Nat} {xs : Nat → Int32} : gL (Z78 h w L xs) 13 0 0 = some L := by
  unfold Z78
  rw [LWp, if_neg (fun z => absurd z.1 (by decide))]; exact GL77
theorem GL79 {h w L : Nat} {xs : Nat → Int32} : gL (Z79 h w L xs) 13 0 0 = some L := by
  unfold Z79
  rw [LWp, if_neg (fun z => absurd z.1 (by decide))]; exact GL78
theorem GL80 {h w L : Nat} {xs : Nat → Int32} : gL (Z80 h w L xs) 13 0 0 = some L := by
  unfold Z80
  rw [LQ]; exact GL79
theorem GL81 {h w L : Nat} {xs : Nat → Int32} : gL (Z81 h w L xs) 13 0 0 = some L := by
  unfold Z81
  rw [LOp, if_neg (fun z => absurd z.1 (by decide))]; exact GL80
theorem GL82 {h w L : Nat} {xs : Nat → Int32} : gL (Z82 h w L xs) 13 0 0 = some L := by
  unfold Z82
  rw [LI]; exact GL81
theorem GL83 {h w L : Nat} {xs : Nat → Int32} : gL (Z83 h w L xs) 13 0 0 = some L := by
  unfold Z83
  rw [LWp, if_neg (fun z => absurd z.1 (by decide))]; exact GL82
theorem GL84 {h w L : Nat} {xs : Nat → Int32} : gL (Z84 h w L xs) 13 0 0 = some L := by
  unfold Z84
  rw [LWp, if_neg (fun z => absurd z.1 (by decide))]; exact GL83
theorem GL85 {h w L : Nat} {xs : Nat → Int32} : gL (Z85 h w L xs) 13 0 0 = some L := by
  unfold Z85
  rw [LWp, if_neg (fun z => absurd z.1 (by decide))]; exact GL84
theorem GL86 {h w L : Nat} {xs : Nat → Int32} : gL (Z86 h w L xs) 13 0 0 = some L := by
  unfold Z86
  rw [LQ]; exact GL85
theorem GL87 {h w L : Nat} {xs : Nat → Int32} : gL (Z87 h w L xs) 13 0 0 = some L := by
  unfold Z87
  rw [LOp, if_neg (fun z => absurd z.1 (by decide))]; exact GL86
theorem GL88 {h w L : Nat} {xs : Nat → Int32} : gL (Z88 h w L xs) 13 0 0 = some L := by
  unfold Z88
  rw [LI]; exact GL87
theorem GL89 {h w L : Nat} {xs : Nat → Int32} : gL (Z89 h w L xs) 13 0 0 = some L := by
  unfold Z89
  rw [LI]; exact GL88
theorem GL90 {h w L : Nat} {xs : Nat → Int32} : gL (Z90 h w L xs) 13 0 0 = some L := by
  unfold Z90
  rw [LI]; exact GL89
theorem GL91 {h w L : Nat} {xs : Nat → Int32} : gL (Z91 h w L xs) 13 0 0 = some L := by
  unfold Z91
  rw [LQ]; exact GL90
theorem GL92 {h w L : Nat} {xs : Nat → Int32} : gL (Z92 h w L xs) 13 0 0 = some L := by
  unfold Z92
  rw [LOp, if_neg (fun z => absurd z.1 (by decide))]; exact GL91
theorem GL93 {h w L : Nat} {xs : Nat → Int32} : gL (Z93 h w L xs) 13 0 0 = some L := by
  unfold Z93
  rw [LI]; exact GL92
theorem GL94 {h w L : Nat} {xs : Nat → Int32} : gL (Z94 h w L xs) 13 0 0 = some L := by
  unfold Z94
  rw [LI]; exact GL93
theorem GL95 {h w L : Nat} {xs : Nat → Int32} : gL (Z95 h w L xs) 13 0 0 = some L := by
  unfold Z95
  rw [LI]; exact GL94
theorem GL96 {h w L : Nat} {xs : Nat → Int32} : gL (Z96 h w L xs) 13 0 0 = some L := by
  unfold Z96
  rw [LQ]; exact GL95
theorem GL97 {h w L : Nat} {xs : Nat → Int32} : gL (Z97 h w L xs) 13 0 0 = some L := by
  unfold Z97
  rw [LOp, if_neg (fun z => absurd z.1 (by decide))]; exact GL96
theorem GL98 {h w L : Nat} {xs : Nat → Int32} : gL (Z98 h w L xs) 13 0 0 = some L := by
  unfold Z98
  rw [LI]; exact GL97
theorem GL99 {h w L : Nat} {xs : Nat → Int32} : gL (Z99 h w L xs) 13 0 0 = some L := by
  unfold Z99
  rw [LI]; exact GL98
theorem GL100 {h w L : Nat} {xs : Nat → Int32} : gL (Z100 h w L xs) 13 0 0 = some L := by
  unfold Z100
  rw [LI]; exact GL99
theorem GL101 {h w L : Nat} {xs : Nat → Int32} : gL (Z101 h w L xs) 13 0 0 = some L := by
  unfold Z101
  rw [LQ]; exact GL100
theorem GL102 {h w L : Nat} {xs : Nat → Int32} : gL (Z102 h w L xs) 13 0 0 = some L := by
  unfold Z102
  rw [LOp, if_neg (fun z => absurd z.1 (by decide))]; exact GL101
theorem GL103 {h w L : Nat} {xs : Nat → Int32} : gL (Z103 h w L xs) 13 0 0 = some L := by
  unfold Z103
  rw [LI]; exact GL102
theorem GL104 {h w L : Nat} {xs : Nat → Int32} : gL (Z104 h w L xs) 13 0 0 = some L := by
  unfold Z104
  rw [LI]; exact GL103
theorem GL105 {h w L : Nat} {xs : Nat → Int32} : gL (Z105 h w L xs) 13 0 0 = some L := by
  unfold Z105
  rw [LI]; exact GL104
theorem GL106 {h w L : Nat} {xs : Nat → Int32} : gL (Z106 h w L xs) 13 0 0 = some L := by
  unfold Z106
  rw [LQ]; exact GL105
theorem GL107 {h w L : Nat} {xs : Nat → Int32} : gL (Z107 h w L xs) 13 0 0 = some L := by
  unfold Z107
  rw [LOp, if_neg (fun z => absurd z.1 (by decide))]; exact GL106
theorem GL108 {h w L : Nat} {xs : Nat → Int32} : gL (Z108 h w L xs) 13 0 0 = some L := by
  unfold Z108
  rw [LI]; exact GL107
theorem GL109 {h w L : Nat} {xs : Nat → Int32} : gL (Z109 h w L xs) 13 0 0 = some L := by
  unfold Z109
  rw [LI]; exact GL108
theorem GL110 {h w L : Nat} {xs : Nat → Int32} : gL (Z110 h w L xs) 13 0 0 = some L := by
  unfold Z110
  rw [LI]; exact GL109
theorem GL111 {h w L : Nat} {xs : Nat → Int32} : gL (Z111 h w L xs) 13 0 0 = some L := by
  unfold Z111
  rw [LQ]; exact GL110
theorem GL112 {h w L : Nat} {xs : Nat → Int32} : gL (Z112 h w L xs) 13 0 0 = some L := by
  unfold Z112
  rw [LOp, if_neg (fun z => absurd z.1 (by decide))]; exact GL111
theorem GL113 {h w L : Nat} {xs : Nat → Int32} : gL (Z113 h w L xs) 13 0 0 = some L := by
  unfold Z113
  rw [LI]; exact GL112
theorem GL114 {h w L : Nat} {xs : Nat → Int32} : gL (Z114 h w L xs) 13 0 0 = some L := by
  unfold Z114
  rw [LI]; exact GL113
theorem GL115 {h w L : Nat} {xs : Nat → Int32} : gL (Z115 h w L xs) 13 0 0 = some L := by
  unfold Z115
  rw [LI]; exact GL114
theorem GL116 {h w L : Nat} {xs : Nat → Int32} : gL (Z116 h w L xs) 13 0 0 = some L := by
  unfold Z116
  rw [LQ]; exact GL115
theorem GL117 {h w L : Nat} {xs : Nat → Int32} : gL (Z117 h w L xs) 13 0 0 = some L := by
  unfold Z117
  rw [LOp, if_neg (fun z => absurd z.1 (by decide))]; exact GL116
theorem GL118 {h w L : Nat} {xs : Nat → Int32} : gL (Z118 h w L xs) 13 0 0 = some L := by
  unfold Z118
  rw [LI]; exact GL117
theorem GL119 {h w L : Nat} {xs : Nat → Int32} : gL (Z119 h w L xs) 13 0 0 = some L := by
  unfold Z119
  rw [LI]; exact GL118
theorem GL120 {h w L : Nat} {xs : Nat → Int32} : gL (Z120 h w L xs) 13 0 0 = some L := by
  unfold Z120
  rw [LWp, if_neg (fun z => absurd z.1 (by decide))]; exact GL119
theorem GL121 {h w L : Nat} {xs : Nat → Int32} : gL (Z121 h w L xs) 13 0 0 = some L := by
  unfold Z121
  rw [LQ]; exact GL120
theorem GL122 {h w L : Nat} {xs : Nat → Int32} : gL (Z122 h w L xs) 13 0 0 = some L := by
  unfold Z122
  rw [LOp, if_neg (fun z => absurd z.1 (by decide))]; exact GL121
theorem GL123 {h w L : Nat} {xs : Nat → Int32} : gL (Z123 h w L xs) 13 0 0 = some L := by
  unfold Z123
  rw [LI]; exact GL122
theorem GL124 {h w L : Nat} {xs : Nat → Int32} : gL (Z124 h w L xs) 13 0 0 = some L := by
  unfold Z124
  rw [LI]; exact GL123
theorem GL125 {h w L : Nat} {xs : Nat → Int32} : gL (Z125 h w L xs) 13 0 0 = some L := by
  unfold Z125
  rw [LWp, if_neg (fun z => absurd z.1 (by decide))]; exact GL124
theorem GL126 {h w L : Nat} {xs : Nat → Int32} : gL (Z126 h w L xs) 13 0 0 = some L := by
  unfold Z126
  rw [LQ]; exact GL125
theorem GL127 {h w L : Nat} {xs : Nat → Int32} : gL (Z127 h w L xs) 13 0 0 = some L := by
  unfold Z127
  rw [LOp, if_neg (fun z => absurd z.1 (by decide))]; exact GL126
theorem GL128 {h w L : Nat} {xs : Nat → Int32} : gL (Z128 h w L xs) 13 0 0 = some L := by
  unfold Z128
  rw [LI]; exact GL127
theorem GL129 {h w L : Nat} {xs : Nat → Int32} : gL (Z129 h w L xs) 13 0 0 = some L := by
  unfold Z129
  rw [LI]; exact GL128
theorem GL130 {h w L : Nat} {xs : Nat → Int32} : gL (Z130 h w L xs) 13 0 0 = some L := by
  unfold Z130
  rw [LWp, if_neg (fun z => absurd z.1 (by decide))]; exact GL129
theorem GL131 {h w L : Nat} {xs : Nat → Int32} : gL (Z131 h w L xs) 13 0 0 = some L := by
  unfold Z131
  rw [LQ]; exact GL130
theorem GL132 {h w L : Nat} {xs : Nat → Int32} : gL (Z132 h w L xs) 13 0 0 = some L := by
  unfold Z132
  rw [LOp, if_neg (fun z => absurd z.1 (by decide))]; exact GL131
theorem GL133 {h w L : Nat} {xs : Nat → Int32} : gL (Z133 h w L xs) 13 0 0 = some L := by
  unfold Z133
  rw [LI]; exact GL132
theorem GL134 {h w L : Nat} {xs : Nat → Int32} : gL (Z134 h w L xs) 13 0 0 = some L := by
  unfold Z134
  rw [LI]; exact GL133
theorem GL135 {h w L : Nat} {xs : Nat → Int32} : gL (Z135 h w L xs) 13 0 0 = some L := by
  unfold Z135
  rw [LWp, if_neg (fun z => absurd z.1 (by decide))]; exact GL134
theorem GL136 {h w L : Nat} {xs : Nat → Int32} : gL (Z136 h w L xs) 13 0 0 = some L := by
  unfold Z136
  rw [LQ]; exact GL135
theorem GL137 {h w L : Nat} {xs : Nat → Int32} : gL (Z137 h w L xs) 13 0 0 = some L := by
  unfold Z137
  rw [LOp, if_neg (fun z => absurd z.1 (by decide))]; exact GL136
theorem GL138 {h w L : Nat} {xs : Nat → Int32} : gL (Z138 h w L xs) 13 0 0 = some L := by
  unfold Z138
  rw [LWp, if_neg (fun z => absurd z.1 (by decide))]; exact GL137
theorem GL139 {h w L : Nat} {xs : Nat → Int32} : gL (Z139 h w L xs) 13 0 0 = some L := by
  unfold Z139
  rw [LWp, if_neg (fun z => absurd z.1 (by decide))]; exact GL138
theorem GL140 {h w L : Nat} {xs : Nat → Int32} : gL (Z140 h w L xs) 13 0 0 = some L := by
  unfold Z140
  rw [LWp, if_neg (fun z => absurd z.1 (by decide))]; exact GL139
theorem GL141 {h w L : Nat} {xs : Nat → Int32} : gL (Z141 h w L xs) 13 0 0 = some L := by
  unfold Z141
  rw [LWp, if_neg (fun z => absurd z.1 (by decide))]; exact GL140
theorem GL142 {h w L : Nat} {xs : Nat → Int32} : gL (Z142 h w L xs) 13 0 0 = some L := by
  unfold Z142
  rw [LWp, if_neg (fun z => absurd z.1 (by decide))]; exact GL141
theorem GL143 {h w L : Nat} {xs : Nat → Int32} : gL (Z143 h w L xs) 13 0 0 = some L := by
  unfold Z143
  rw [LWp, if_neg (fun z => absurd z.1 (by decide))]; exact GL142
theorem GL144 {h w L : Nat} {xs : Nat → Int32} : gL (Z144 h w L xs) 13 0 0 = some L := by
  unfold Z144
  rw [LWp, if_neg (fun z => absurd z.1 (by decide))]; exact GL143
theorem GL145 {h w L : Nat} {xs : Nat → Int32} : gL (Z145 h w L xs) 13 0 0 = some L := by
  unfold Z145
  rw [LWp, if_neg (fun z => absurd z.1 (by decide))]; exact GL144
theorem GL146 {h w L : Nat} {xs : Nat → Int32} : gL (Z146 h w L xs) 13 0 0 = some L := by
  unfold Z146
  rw [LWp, if_neg (fun z => absurd z.1 (by decide))]; exact GL145
theorem GL147 {h w L : Nat} {xs : Nat → Int32} : gL (Z147 h w L xs) 13 0 0 = some L := by
  unfold Z147
  rw [LWp, if_neg (fun z => absurd z.1 (by decide))]; exact GL146
theorem GL148 {h w L : Nat} {xs : Nat → Int32} : gL (Z148 h w L xs) 13 0 0 = some L := by
  unfold Z148
  rw [LWp, if_neg (fun z => absurd z.1 (by decide))]; exact GL147
theorem GL149 {h w L : Nat} {xs : Nat → Int32} : gL (Z149 h w L xs) 13 0 0 = some L := by
  unfold Z149
  rw [LWp, if_neg (fun z => absurd z.1 (by decide))]; exact GL148
theorem GL150 {h w L : Nat} {xs : Nat → Int32} : gL (Z150 h w L xs) 13 0 0 = some L := by
  unfold Z150
  rw [LWp, if_neg (fun z => absurd z.1 (by decide))]; exact GL149
theorem GL151 {h w L : Nat} {xs : Nat → Int32} : gL (Z151 h w L xs) 13 0 0 = some L := by
  unfold Z151
  rw [LWp, if_neg (fun z => absurd z.1 (by decide))]; exact GL150
theorem GL152 {h w L : Nat} {xs : Nat → Int32} : gL (Z152 h w L xs) 13 0 0 = some L := by
  unfold Z152
  rw [LWp, if_neg (fun z => absurd z.1 (by decide))]; exact GL151
theorem GL153 {h w L : Nat} {xs : Nat → Int32} : gL (Z153 h w L xs) 13 0 0 = some L := by
  unfold Z153
  rw [LWp, if_neg (fun z => absurd z.1 (by decide))]; exact GL152
theorem GL154 {h w L : Nat} {xs : Nat → Int32} : gL (Z154 h w L xs) 13 0 0 = some L := by
  unfold Z154
  rw [LWp, if_neg (fun z => absurd z.1 (by decide))]; exact GL153
theorem GL155 {h w L : Nat} {xs : Nat → Int32} : gL (Z155 h w L xs) 13 0 0 = some L := by
  unfold Z155
  rw [LWp, if_neg (fun z => absurd z.1 (by decide))]; exact GL154
theorem GL156 {h w L : Nat} {xs : Nat → Int32} : gL (Z156 h w L xs) 13 0 0 = some L := by
  unfold Z156
  rw [LWp, if_neg (fun z => absurd z.1 (by decide))]; exact GL155
theorem GL157 {h w L : Nat} {xs : Nat → Int32} : gL (Z157 h w L xs) 13 0 0 = some L := by
  unfold Z157
  rw [LWp, if_neg (fun z => absurd z.1 (by decide))]; exact GL156
theorem GL158 {h w L : Nat} {xs : Nat → Int32} : gL (Z158 h w L xs) 13 0 0 = some L := by
  unfold Z158
  rw [LWp, if_neg (fun z => absurd z.1 (by decide))]; exact GL157
theorem GL159 {h w L : Nat} {xs : Nat → Int32} : gL (Z159 h w L xs) 13 0 0 = some L := by
  unfold Z159
  rw [LWp, if_neg (fun z => absurd z.1 (by decide))]; exact GL158
theorem GL160 {h w L : Nat} {xs : Nat → Int32} : gL (Z160 h w L xs) 13 0 0 = some L := by
  unfold Z160
  rw [LWp, if_neg (fun z => absurd z.1 (by decide))]; exact GL159
theorem GL161 {h w L : Nat} {xs : Nat → Int32} : gL (Z161 h w L xs) 13 0 0 = some L := by
  unfold Z161
  rw [LWp, if_neg (fun z => absurd z.1 (by decide))]; exact GL160
theorem GL162 {h w L : Nat} {xs : Nat → Int32} : gL (Z162 h w L xs) 13 0 0 = some L := by
  unfold Z162
  rw [LWp, if_neg (fun z => absurd z.1 (by decide))]; exact GL161
theorem GL163 {h w L : Nat} {xs : Nat → Int32} : gL (Z163 h w L xs) 13 0 0 = some L := by
  unfold Z163
  rw [LWp, if_neg (fun z => absurd z.1 (by decide))]; exact GL162
theorem GL164 {h w L : Nat} {xs : Nat → Int32} : gL (Z164 h w L xs) 13 0 0 = some L := by
  unfold Z164
  rw [LWp, if_neg (fun z => absurd z.1 (by decide))]; exact GL163
theorem GL165 {h w L : Nat} {xs : Nat → Int32} : gL (Z165 h w L xs) 13 0 0 = some L := by
  unfold Z165
  rw [LWp, if_neg (fun z => absurd z.1 (by decide))]; exact GL164
theorem GL166 {h w L : Nat} {xs : Nat → Int32} : gL (Z166 h w L xs) 13 0 0 = some L := by
  unfold Z166
  rw [LWp, if_neg (fun z => absurd z.1 (by decide))]; exact GL165
theorem GL167 {h w L : Nat} {xs : Nat → Int32} : gL (Z167 h w L xs) 13 0 0 = some L := by
  unfold Z167
  rw [LWp, if_neg (fun z => absurd z.1 (by decide))]; exact GL166
theorem GL168 {h w L : Nat} {xs : Nat → Int32} : gL (Z168 h w L xs) 13 0 0 = some L := by
  unfold Z168
  rw [LWp, if_neg (fun z => absurd z.1 (by decide))]; exact GL167
theorem GL169 {h w L : Nat} {xs : Nat → Int32} : gL (Z169 h w L xs) 13 0 0 = some L := by
  unfold Z169
  rw [LWp, if_neg (fun z => absurd z.1 (by decide))]; exact GL168
theorem GL170 {h w L : Nat} {xs : Nat → Int32} : gL (Z170 h w L xs) 13 0 0 = some L := by
  unfold Z170
  rw [LWp, if_neg (fun z => absurd z.1 (by decide))]; exact GL169
theorem GL171 {h w L : Nat} {xs : Nat → Int32} : gL (Z171 h w L xs) 13 0 0 = some L := by
  unfold Z171
  rw [LWp, if_neg (fun z => absurd z.1 (by decide))]; exact GL170
theorem GL172 {h w L : Nat} {xs : Nat → Int32} : gL (Z172 h w L xs) 13 0 0 = some L := by
  unfold Z172
  rw [LWp, if_neg (fun z => absurd z.1 (by decide))]; exact GL171
theorem GL173 {h w L : Nat} {xs : Nat → Int32} : gL (Z173 h w L xs) 13 0 0 = some L := by
  unfold Z173
  rw [LWp, if_neg (fun z => absurd z.1 (by decide))]; exact GL172
theorem GL174 {h w L : Nat} {xs : Nat → Int32} : gL (Z174 h w L xs) 13 0 0 = some L := by
  unfold Z174
  rw [LWp, if_neg (fun z => absurd z.1 (by decide))]; exact GL173
theorem GL175 {h w L : Nat} {xs : Nat → Int32} : gL (Z175 h w L xs) 13 0 0 = some L := by
  unfold Z175
  rw [LWp, if_neg (fun z => absurd z.1 (by decide))]; exact GL174
theorem GL176 {h w L : Nat} {xs : Nat → Int32} : gL (Z176 h w L xs) 13 0 0 = some L := by
  unfold Z176
  rw [LWp, if_neg (fun z => absurd z.1 (by decide))]; exact GL175
theorem GL177 {h w L : Nat} {xs : Nat → Int32} : gL (Z177 h w L xs) 13 0 0 = some L := by
  unfold Z177
  rw [LWp, if_neg (fun z => absurd z.1 (by decide))]; exact GL176
theorem GL178 {h w L : Nat} {xs : Nat → Int32} : gL (Z178 h w L xs) 13 0 0 = some L := by
  unfold Z178
  rw [LWp, if_neg (fun z => absurd z.1 (by decide))]; exact GL177
theorem GL179 {h w L : Nat} {xs : Nat → Int32} : gL (Z179 h w L xs) 13 0 0 = some L := by
  unfold Z179
  rw [LWp, if_neg (fun z => absurd z.1 (by decide))]; exact GL178
theorem GL180 {h w L : Nat} {xs : Nat → Int32} : gL (Z180 h w L xs) 13 0 0 = some L := by
  unfold Z180
  rw [LWp, if_neg (fun z => absurd z.1 (by decide))]; exact GL179
theorem GL181 {h w L : Nat} {xs : Nat → Int32} : gL (Z181 h w L xs) 13 0 0 = some L := by
  unfold Z181
  rw [LWp, if_neg (fun z => absurd z.1 (by decide))]; exact GL180
theorem GL182 {h w L : Nat} {xs : Nat → Int32} : gL (Z182 h w L xs) 13 0 0 = some L := by
  unfold Z182
  rw [LWp, if_neg (fun z => absurd z.1 (by decide))]; exact GL181
theorem GL183 {h w L : Nat} {xs : Nat → Int32} : gL (Z183 h w L xs) 13 0 0 = some L := by
  unfold Z183
  rw [LWp, if_neg (fun z => absurd z.1 (by decide))]; exact GL182
theorem GL184 {h w L : Nat} {xs : Nat → Int32} : gL (Z184 h w L xs) 13 0 0 = some L := by
  unfold Z184
  rw [LWp, if_neg (fun z => absurd z.1 (by decide))]; exact GL183
theorem GL185 {h w L : Nat} {xs : Nat → Int32} : gL (Z185 h w L xs) 13 0 0 = some L := by
  unfold Z185
  rw [LWp, if_neg (fun z => absurd z.1 (by decide))]; exact GL184
theorem GL186 {h w L : Nat} {xs : Nat → Int32} : gL (Z186 h w L xs) 13 0 0 = some L := by
  unfold Z186
  rw [LWp, if_neg (fun z => absurd z.1 (by decide))]; exact GL185
theorem GL187 {h w L : Nat} {xs : Nat → Int32} : gL (Z187 h w L xs) 13 0 0 = some L := by
  unfold Z187
  rw [LWp, if_neg (fun z => absurd z.1 (by decide))]; exact GL186
theorem GL188 {h w L : Nat} {xs : Nat → Int32} : gL (Z188 h w L xs) 13 0 0 = some L := by
  unfold Z188
  rw [LWp, if_neg (fun z => absurd z.1 (by decide))]; exact GL187
theorem GL189 {h w L : Nat} {xs : Nat → Int32} : gL (Z189 h w L xs) 13 0 0 = some L := by
  unfold Z189
  rw [LWp, if_neg (fun z => absurd z.1 (by decide))]; exact GL188
theorem GL190 {h w L : Nat} {xs : Nat → Int32} : gL (Z190 h w L xs) 13 0 0 = some L := by
  unfold Z190
  rw [LWp, if_neg (fun z => absurd z.1 (by decide))]; exact GL189
theorem GL191 {h w L : Nat} {xs : Nat → Int32} : gL (Z191 h w L xs) 13 0 0 = some L := by
  unfold Z191
  rw [LI]; exact GL190
theorem GL192 {h w L : Nat} {xs : Nat → Int32} : gL (Z192 h w L xs) 13 0 0 = some L := by
  unfold Z192
  rw [LWp, if_neg (fun z => absurd z.1 (by decide))]; exact GL191
theorem GL193 {h w L : Nat} {xs : Nat → Int32} : gL (Z193 h w L xs) 13 0 0 = some L := by
  unfold Z193
  rw [LWp, if_neg (fun z => absurd z.1 (by decide))]; exact GL192
theorem GL194 {h w L : Nat} {xs : Nat → Int32} : gL (Z194 h w L xs) 13 0 0 = some L := by
  unfold Z194
  rw [LWp, if_neg (fun z => absurd z.1 (by decide))]; exact GL193
theorem GL195 {h w L : Nat} {xs : Nat → Int32} : gL (Z195 h w L xs) 13 0 0 = some L := by
  unfold Z195
  rw [LWp, if_neg (fun z => absurd z.1 (by decide))]; exact GL194
theorem GL196 {h w L : Nat} {xs : Nat → Int32} : gL (Z196 h w L xs) 13 0 0 = some L := by
  unfold Z196
  rw [LWp, if_neg (fun z => absurd z.1 (by decide))]; exact GL195
theorem GL197 {h w L : Nat} {xs : Nat → Int32} : gL (Z197 h w L xs) 13 0 0 = some L := by
  unfold Z197
  rw [LWp, if_neg (fun z => absurd z.1 (by decide))]; exact GL196
theorem GL198 {h w L : Nat} {xs : Nat → Int32} : gL (Z198 h w L xs) 13 0 0 = some L := by
  unfold Z198
  rw [LWp, if_neg (fun z => absurd z.1 (by decide))]; exact GL197
theorem GL199 {h w L : Nat} {xs : Nat → Int32} : gL (Z199 h w L xs) 13 0 0 = some L := by
  unfold Z199
  rw [LWp, if_neg (fun z => absurd z.1 (by decide))]; exact GL198
theorem GL200 {h w L : Nat} {xs : Nat → Int32} : gL (Z200 h w L xs) 13 0 0 = some L := by
  unfold Z200
  rw [LWp, if_neg (fun z => absurd z.1 (by decide))]; exact GL199
theorem GL201 {h w L : Nat} {xs : Nat → Int32} : gL (Z201 h w L xs) 13 0 0 = some L := by
  unfold Z201
  rw [LWp, if_neg (fun z => absurd z.1 (by decide))]; exact GL200
theorem GL202 {h w L : Nat} {xs : Nat → Int32} : gL (Z202 h w L xs) 13 0 0 = some L := by
  unfold Z202
  rw [LWp, if_neg (fun z => absurd z.1 (by decide))]; exact GL201
theorem GL203 {h w L : Nat} {xs : Nat → Int32} : gL (Z203 h w L xs) 13 0 0 = some L := by
  unfold Z203
  rw [LWp, if_neg (fun z => absurd z.1 (by decide))]; exact GL202
theorem GL204 {h w L : Nat} {xs : Nat → Int32} : gL (Z204 h w L xs) 13 0 0 = some L := by
  unfold Z204
  rw [LA]; exact GL203
theorem GL205 {h w L : Nat} {xs : Nat → Int32} : gL (Z205 h w L xs) 13 0 0 = some L := by
  unfold Z205
  rw [LA]; exact GL204
theorem GL206 {h w L : Nat} {xs : Nat → Int32} : gL (Z206 h w L xs) 13 0 0 = some L := by
  unfold Z206
  rw [LA]; exact GL205
theorem GL207 {h w L : Nat} {xs : Nat → Int32} : gL (Z207 h w L xs) 13 0 0 = some L := by
  unfold Z207
  rw [LA]; exact GL206
theorem GL208 {h w L : Nat} {xs : Nat → Int32} : gL (Z208 h w L xs) 13 0 0 = some L := by
  unfold Z208
  rw [LA]; exact GL207
theorem GL209 {h w L : Nat} {xs : Nat → Int32} : gL (Z209 h w L xs) 13 0 0 = some L := by
  unfold Z209
  rw [LA]; exact GL208
theorem GL210 {h w L : Nat} {xs : Nat → Int32} : gL (Z210 h w L xs) 13 0 0 = some L := by
  unfold Z210
  rw [LA]; exact GL209
theorem GL211 {h w L : Nat} {xs : Nat → Int32} : gL (Z211 h w L xs) 13 0 0 = some L := by
  unfold Z211
  rw [LA]; exact GL210
theorem GL212 {h w L : Nat} {xs : Nat → Int32} : gL (Z212 h w L xs) 13 0 0 = some L := by
  unfold Z212
  rw [LA]; exact GL211
theorem GL213 {h w L : Nat} {xs : Nat → Int32} : gL (Z213 h w L xs) 13 0 0 = some L := by
  unfold Z213
  rw [LA]; exact GL212
