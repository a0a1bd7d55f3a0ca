theorem LWp {σ : St} {c k i n a b d : Nat} : gL (newA σ c k i n) a b d = if a = c ∧ b = k ∧ d = i then some n else gL σ a b d := rfl
theorem LOp {σ : St} {c a b d : Nat} : gL (newO σ c) a b d = if a = c ∧ d = gN σ c then none else gL σ a b d := rfl
theorem IOp {σ : St} {c a b d : Nat} : gI (newO σ c) a b d = if a = c ∧ d = gN σ c then 0 else gI σ a b d := rfl
theorem ROp {σ : St} {c a b d : Nat} : gR (newO σ c) a b d = if a = c ∧ d = gN σ c then none else gR σ a b d := rfl
theorem IIp {σ : St} {c k i a b d : Nat} {v : Int32} : gI (setI σ c k i v) a b d = if a = c ∧ b = k ∧ d = i then v else gI σ a b d := rfl
theorem RRp {σ : St} {c k i a b d : Nat} {v : Option Nat} : gR (setR σ c k i v) a b d = if a = c ∧ b = k ∧ d = i then v else gR σ a b d := rfl
theorem QQp {σ : St} {c k i a b d : Nat} {v : Nat → Option Nat} : gQ (setQ σ c k i v) a b d = if a = c ∧ b = k ∧ d = i then v else gQ σ a b d := rfl
theorem QWp {σ : St} {c k i n a b d : Nat} : gQ (newA σ c k i n) a b d = if a = c ∧ b = k ∧ d = i then (fun _ => none) else gQ σ a b d := rfl
theorem AAp {σ : St} {c k i a b d : Nat} {v : Nat → Int32} : gA (setA σ c k i v) a b d = if a = c ∧ b = k ∧ d = i then v else gA σ a b d := rfl
theorem AWp {σ : St} {c k i n a b d : Nat} : gA (newA σ c k i n) a b d = if a = c ∧ b = k ∧ d = i then (fun _ => 0) else gA σ a b d := rfl
def Z0 (h w L : Nat) (xs : Nat → Int32) : St := σS h w L xs
def Z1 (h w L : Nat) (xs : Nat → Int32) : St := newO (Z0 h w L xs) 11
def Z2 (h w L : Nat) (xs : Nat → Int32) : St := newO (Z1 h w L xs) 7
def Z3 (h w L : Nat) (xs : Nat → Int32) : St := newA (Z2 h w L xs) 7 0 0 120
def Z4 (h w L : Nat) (xs : Nat → Int32) : St := setI (Z3 h w L xs) 7 1 0 0
def Z5 (h w L : Nat) (xs : Nat → Int32) : St := setI (Z4 h w L xs) 7 2 0 0
def Z6 (h w L : Nat) (xs : Nat → Int32) : St := setR (Z5 h w L xs) 11 0 0 (some 0)
def Z7 (h w L : Nat) (xs : Nat → Int32) : St := newA (Z6 h w L xs) 11 1 0 24
def Z8 (h w L : Nat) (xs : Nat → Int32) : St := newA (Z7 h w L xs) 11 2 0 4
def Z9 (h w L : Nat) (xs : Nat → Int32) : St := newA (Z8 h w L xs) 11 3 0 4
def Z10 (h w L : Nat) (xs : Nat → Int32) : St := newO (Z9 h w L xs) 0
def Z11 (h w L : Nat) (xs : Nat → Int32) : St := setI (Z10 h w L xs) 0 0 0 0
def Z12 (h w L : Nat) (xs : Nat → Int32) : St := setI (Z11 h w L xs) 0 1 0 0
def Z13 (h w L : Nat) (xs : Nat → Int32) : St := newA (Z12 h w L xs) 0 2 0 8
def Z14 (h w L : Nat) (xs : Nat → Int32) : St := newA (Z13 h w L xs) 0 3 0 8
def Z15 (h w L : Nat) (xs : Nat → Int32) : St := newA (Z14 h w L xs) 0 4 0 8
def Z16 (h w L : Nat) (xs : Nat → Int32) : St := newA (Z15 h w L xs) 0 5 0 8
def Z17 (h w L : Nat) (xs : Nat → Int32) : St := newA (Z16 h w L xs) 0 6 0 8
def Z18 (h w L : Nat) (xs : Nat → Int32) : St := newA (Z17 h w L xs) 0 7 0 120
def Z19 (h w L : Nat) (xs : Nat → Int32) : St := setI (Z18 h w L xs) 0 8 0 0
def Z20 (h w L : Nat) (xs : Nat → Int32) : St := setR (Z19 h w L xs) 11 4 0 (some 0)
def Z21 (h w L : Nat) (xs : Nat → Int32) : St := newO (Z20 h w L xs) 1
def Z22 (h w L : Nat) (xs : Nat → Int32) : St := setI (Z21 h w L xs) 1 0 0 0
def Z23 (h w L : Nat) (xs : Nat → Int32) : St := newA (Z22 h w L xs) 1 1 0 6
def Z24 (h w L : Nat) (xs : Nat → Int32) : St := newA (Z23 h w L xs) 1 2 0 6
def Z25 (h w L : Nat) (xs : Nat → Int32) : St := newA (Z24 h w L xs) 1 3 0 6
def Z26 (h w L : Nat) (xs : Nat → Int32) : St := setR (Z25 h w L xs) 11 5 0 (some 0)
def Z27 (h w L : Nat) (xs : Nat → Int32) : St := newA (Z26 h w L xs) 11 6 0 12
def Z28 (h w L : Nat) (xs : Nat → Int32) : St := setI (Z27 h w L xs) 11 7 0 0
def Z29 (h w L : Nat) (xs : Nat → Int32) : St := newA (Z28 h w L xs) 11 8 0 6
def Z30 (h w L : Nat) (xs : Nat → Int32) : St := setI (Z29 h w L xs) 11 9 0 0
def Z31 (h w L : Nat) (xs : Nat → Int32) : St := newA (Z30 h w L xs) 11 10 0 80
def Z32 (h w L : Nat) (xs : Nat → Int32) : St := setI (Z31 h w L xs) 11 11 0 0
def Z33 (h w L : Nat) (xs : Nat → Int32) : St := newA (Z32 h w L xs) 11 12 0 6
def Z34 (h w L : Nat) (xs : Nat → Int32) : St := newO (Z33 h w L xs) 2
def Z35 (h w L : Nat) (xs : Nat → Int32) : St := newA (Z34 h w L xs) 2 0 0 512
def Z36 (h w L : Nat) (xs : Nat → Int32) : St := newA (Z35 h w L xs) 2 1 0 512
def Z37 (h w L : Nat) (xs : Nat → Int32) : St := newA (Z36 h w L xs) 2 2 0 512
def Z38 (h w L : Nat) (xs : Nat → Int32) : St := setI (Z37 h w L xs) 2 3 0 0
def Z39 (h w L : Nat) (xs : Nat → Int32) : St := setR (Z38 h w L xs) 11 13 0 (some 0)
def Z40 (h w L : Nat) (xs : Nat → Int32) : St := newA (Z39 h w L xs) 11 14 0 800
def Z41 (h w L : Nat) (xs : Nat → Int32) : St := setI (Z40 h w L xs) 11 15 0 5
def Z42 (h w L : Nat) (xs : Nat → Int32) : St := newA (Z41 h w L xs) 11 16 0 4
def Z43 (h w L : Nat) (xs : Nat → Int32) : St := newO (Z42 h w L xs) 5
def Z44 (h w L : Nat) (xs : Nat → Int32) : St := newA (Z43 h w L xs) 5 0 0 6
def Z45 (h w L : Nat) (xs : Nat → Int32) : St := newA (Z44 h w L xs) 5 1 0 6
def Z46 (h w L : Nat) (xs : Nat → Int32) : St := newA (Z45 h w L xs) 5 2 0 6
def Z47 (h w L : Nat) (xs : Nat → Int32) : St := newA (Z46 h w L xs) 5 3 0 6
def Z48 (h w L : Nat) (xs : Nat → Int32) : St := newA (Z47 h w L xs) 5 4 0 7
def Z49 (h w L : Nat) (xs : Nat → Int32) : St := newA (Z48 h w L xs) 5 5 0 7
def Z50 (h w L : Nat) (xs : Nat → Int32) : St := newA (Z49 h w L xs) 5 6 0 6
def Z51 (h w L : Nat) (xs : Nat → Int32) : St := newA (Z50 h w L xs) 5 7 0 6
def Z52 (h w L : Nat) (xs : Nat → Int32) : St := setI (Z51 h w L xs) 5 8 0 0
def Z53 (h w L : Nat) (xs : Nat → Int32) : St := setI (Z52 h w L xs) 5 9 0 0
def Z54 (h w L : Nat) (xs : Nat → Int32) : St := setI (Z53 h w L xs) 5 10 0 0
def Z55 (h w L : Nat) (xs : Nat → Int32) : St := setI (Z54 h w L xs) 5 11 0 0
def Z56 (h w L : Nat) (xs : Nat → Int32) : St := setR (Z55 h w L xs) 11 17 0 (some 0)
def Z57 (h w L : Nat) (xs : Nat → Int32) : St := newO (Z56 h w L xs) 10
def Z58 (h w L : Nat) (xs : Nat → Int32) : St := newA (Z57 h w L xs) 10 0 0 256
def Z59 (h w L : Nat) (xs : Nat → Int32) : St := newA (Z58 h w L xs) 10 1 0 256
def Z60 (h w L : Nat) (xs : Nat → Int32) : St := newA (Z59 h w L xs) 10 2 0 8
def Z61 (h w L : Nat) (xs : Nat → Int32) : St := setR (Z60 h w L xs) 11 18 0 (some 0)
def Z62 (h w L : Nat) (xs : Nat → Int32) : St := newA (Z61 h w L xs) 11 19 0 8
def Z63 (h w L : Nat) (xs : Nat → Int32) : St := newO (Z62 h w L xs) 1
def Z64 (h w L : Nat) (xs : Nat → Int32) : St := setI (Z63 h w L xs) 1 0 1 0
def Z65 (h w L : Nat) (xs : Nat → Int32) : St := newA (Z64 h w L xs) 1 1 1 6
def Z66 (h w L : Nat) (xs : Nat → Int32) : St := newA (Z65 h w L xs) 1 2 1 6
def Z67 (h w L : Nat) (xs : Nat → Int32) : St := newA (Z66 h w L xs) 1 3 1 6
def Z68 (h w L : Nat) (xs : Nat → Int32) : St := setQ (Z67 h w L xs) 11 3 0 (va_up (gQ (Z67 h w L xs) 11 3 0) 0 (some 1))
def Z69 (h w L : Nat) (xs : Nat → Int32) : St := newO (Z68 h w L xs) 1
def Z70 (h w L : Nat) (xs : Nat → Int32) : St := setI (Z69 h w L xs) 1 0 2 0
def Z71 (h w L : Nat) (xs : Nat → Int32) : St := newA (Z70 h w L xs) 1 1 2 6
def Z72 (h w L : Nat) (xs : Nat → Int32) : St := newA (Z71 h w L xs) 1 2 2 6
def Z73 (h w L : Nat) (xs : Nat → Int32) : St := newA (Z72 h w L xs) 1 3 2 6
def Z74 (h w L : Nat) (xs : Nat → Int32) : St := setQ (Z73 h w L xs) 11 3 0 (va_up (gQ (Z73 h w L xs) 11 3 0) 1 (some 2))
def Z75 (h w L : Nat) (xs : Nat → Int32) : St := newO (Z74 h w L xs) 1
def Z76 (h w L : Nat) (xs : Nat → Int32) : St := setI (Z75 h w L xs) 1 0 3 0
def Z77 (h w L : Nat) (xs : Nat → Int32) : St := newA (Z76 h w L xs) 1 1 3 6
def Z78 (h w L : Nat) (xs : Nat → Int32) : St := newA (Z77 h w L xs) 1 2 3 6
def Z79 (h w L : Nat) (xs : Nat → Int32) : St := newA (Z78 h w L xs) 1 3 3 6
def Z80 (h w L : Nat) (xs : Nat → Int32) : St := setQ (Z79 h w L xs) 11 3 0 (va_up (gQ (Z79 h w L xs) 11 3 0) 2 (some 3))
def Z81 (h w L : Nat) (xs : Nat → Int32) : St := newO (Z80 h w L xs) 1
def Z82 (h w L : Nat) (xs : Nat → Int32) : St := setI (Z81 h w L xs) 1 0 4 0
def Z83 (h w L : Nat) (xs : Nat → Int32) : St := newA (Z82 h w L xs) 1 1 4 6
def Z84 (h w L : Nat) (xs : Nat → Int32) : St := newA (Z83 h w L xs) 1 2 4 6
def Z85 (h w L : Nat) (xs : Nat → Int32) : St := newA (Z84 h w L xs) 1 3 4 6
def Z86 (h w L : Nat) (xs : Nat → Int32) : St := setQ (Z85 h w L xs) 11 3 0 (va_up (gQ (Z85 h w L xs) 11 3 0) 3 (some 4))
def Z87 (h w L : Nat) (xs : Nat → Int32) : St := newO (Z86 h w L xs) 3
def Z88 (h w L : Nat) (xs : Nat → Int32) : St := setI (Z87 h w L xs) 3 0 0 3
def Z89 (h w L : Nat) (xs : Nat → Int32) : St := setI (Z88 h w L xs) 3 1 0 0
def Z90 (h w L : Nat) (xs : Nat → Int32) : St := setI (Z89 h w L xs) 3 2 0 0
def Z91 (h w L : Nat) (xs : Nat → Int32) : St := setQ (Z90 h w L xs) 11 12 0 (va_up (gQ (Z90 h w L xs) 11 12 0) 0 (some 0))
def Z92 (h w L : Nat) (xs : Nat → Int32) : St := newO (Z91 h w L xs) 3
def Z93 (h w L : Nat) (xs : Nat → Int32) : St := setI (Z92 h w L xs) 3 0 1 3
def Z94 (h w L : Nat) (xs : Nat → Int32) : St := setI (Z93 h w L xs) 3 1 1 0
def Z95 (h w L : Nat) (xs : Nat → Int32) : St := setI (Z94 h w L xs) 3 2 1 0
def Z96 (h w L : Nat) (xs : Nat → Int32) : St := setQ (Z95 h w L xs) 11 12 0 (va_up (gQ (Z95 h w L xs) 11 12 0) 1 (some 1))
def Z97 (h w L : Nat) (xs : Nat → Int32) : St := newO (Z96 h w L xs) 3
def Z98 (h w L : Nat) (xs : Nat → Int32) : St := setI (Z97 h w L xs) 3 0 2 3
def Z99 (h w L : Nat) (xs : Nat → Int32) : St := setI (Z98 h w L xs) 3 1 2 0
def Z100 (h w L : Nat) (xs : Nat → Int32) : St := setI (Z99 h w L xs) 3 2 2 0
def Z101 (h w L : Nat) (xs : Nat → Int32) : St := setQ (Z100 h w L xs) 11 12 0 (va_up (gQ (Z100 h w L xs) 11 12 0) 2 (some 2))
def Z102 (h w L : Nat) (xs : Nat → Int32) : St := newO (Z101 h w L xs) 3
def Z103 (h w L : Nat) (xs : Nat → Int32) : St := setI (Z102 h w L xs) 3 0 3 3
def Z104 (h w L : Nat) (xs : Nat → Int32) : St := setI (Z103 h w L xs) 3 1 3 0
def Z105 (h w L : Nat) (xs : Nat → Int32) : St := setI (Z104 h w L xs) 3 2 3 0
def Z106 (h w L : Nat) (xs : Nat → Int32) : St := setQ (Z105 h w L xs) 11 12 0 (va_up (gQ (Z105 h w L xs) 11 12 0) 3 (some 3))
def Z107 (h w L : Nat) (xs : Nat → Int32) : St := newO (Z106 h w L xs) 3
def Z108 (h w L : Nat) (xs : Nat → Int32) : St := setI (Z107 h w L xs) 3 0 4 3
def Z109 (h w L : Nat) (xs : Nat → Int32) : St := setI (Z108 h w L xs) 3 1 4 0
def Z110 (h w L : Nat) (xs : Nat → Int32) : St := setI (Z109 h w L xs) 3 2 4 0
def Z111 (h w L : Nat) (xs : Nat → Int32) : St := setQ (Z110 h w L xs) 11 12 0 (va_up (gQ (Z110 h w L xs) 11 12 0) 4 (some 4))
def Z112 (h w L : Nat) (xs : Nat → Int32) : St := newO (Z111 h w L xs) 3
def Z113 (h w L : Nat) (xs : Nat → Int32) : St := setI (Z112 h w L xs) 3 0 5 3
def Z114 (h w L : Nat) (xs : Nat → Int32) : St := setI (Z113 h w L xs) 3 1 5 0
def Z115 (h w L : Nat) (xs : Nat → Int32) : St := setI (Z114 h w L xs) 3 2 5 0
def Z116 (h w L : Nat) (xs : Nat → Int32) : St := setQ (Z115 h w L xs) 11 12 0 (va_up (gQ (Z115 h w L xs) 11 12 0) 5 (some 5))
def Z117 (h w L : Nat) (xs : Nat → Int32) : St := newO (Z116 h w L xs) 6
def Z118 (h w L : Nat) (xs : Nat → Int32) : St := setI (Z117 h w L xs) 6 0 0 (-1)
def Z119 (h w L : Nat) (xs : Nat → Int32) : St := setI (Z118 h w L xs) 6 1 0 0
def Z120 (h w L : Nat) (xs : Nat → Int32) : St := newA (Z119 h w L xs) 6 2 0 30
def Z121 (h w L : Nat) (xs : Nat → Int32) : St := setQ (Z120 h w L xs) 11 16 0 (va_up (gQ (Z120 h w L xs) 11 16 0) 0 (some 0))
def Z122 (h w L : Nat) (xs : Nat → Int32) : St := newO (Z121 h w L xs) 6
def Z123 (h w L : Nat) (xs : Nat → Int32) : St := setI (Z122 h w L xs) 6 0 1 (-1)
def Z124 (h w L : Nat) (xs : Nat → Int32) : St := setI (Z123 h w L xs) 6 1 1 0
def Z125 (h w L : Nat) (xs : Nat → Int32) : St := newA (Z124 h w L xs) 6 2 1 30
def Z126 (h w L : Nat) (xs : Nat → Int32) : St := setQ (Z125 h w L xs) 11 16 0 (va_up (gQ (Z125 h w L xs) 11 16 0) 1 (some 1))
def Z127 (h w L : Nat) (xs : Nat → Int32) : St := newO (Z126 h w L xs) 6
def Z128 (h w L : Nat) (xs : Nat → Int32) : St := setI (Z127 h w L xs) 6 0 2 (-1)
def Z129 (h w L : Nat) (xs : Nat → Int32) : St := setI (Z128 h w L xs) 6 1 2 0
def Z130 (h w L : Nat) (xs : Nat → Int32) : St := newA (Z129 h w L xs) 6 2 2 30
def Z131 (h w L : Nat) (xs : Nat → Int32) : St := setQ (Z130 h w L xs) 11 16 0 (va_up (gQ (Z130 h w L xs) 11 16 0) 2 (some 2))
def Z132 (h w L : Nat) (xs : Nat → Int32) : St := newO (Z131 h w L xs) 6
def Z133 (h w L : Nat) (xs : Nat → Int32) : St := setI (Z132 h w L xs) 6 0 3 (-1)
def Z134 (h w L : Nat) (xs : Nat → Int32) : St := setI (Z133 h w L xs) 6 1 3 0
def Z135 (h w L : Nat) (xs : Nat → Int32) : St := newA (Z134 h w L xs) 6 2 3 30
def Z136 (h w L : Nat) (xs : Nat → Int32) : St := setQ (Z135 h w L xs) 11 16 0 (va_up (gQ (Z135 h w L xs) 11 16 0) 3 (some 3))
def Z137 (h w L : Nat) (xs : Nat → Int32) : St := newO (Z136 h w L xs) 12
def Z138 (h w L : Nat) (xs : Nat → Int32) : St := newA (Z137 h w L xs) 12 0 0 120
def Z139 (h w L : Nat) (xs : Nat → Int32) : St := newA (Z138 h w L xs) 12 4 0 8
def Z140 (h w L : Nat) (xs : Nat → Int32) : St := newA (Z139 h w L xs) 12 5 0 8
def Z141 (h w L : Nat) (xs : Nat → Int32) : St := newA (Z140 h w L xs) 12 6 0 8
def Z142 (h w L : Nat) (xs : Nat → Int32) : St := newA (Z141 h w L xs) 12 7 0 8
def Z143 (h w L : Nat) (xs : Nat → Int32) : St := newA (Z142 h w L xs) 12 8 0 128
def Z144 (h w L : Nat) (xs : Nat → Int32) : St := newA (Z143 h w L xs) 12 13 0 128
def Z145 (h w L : Nat) (xs : Nat → Int32) : St := newA (Z144 h w L xs) 12 15 0 4
def Z146 (h w L : Nat) (xs : Nat → Int32) : St := newA (Z145 h w L xs) 12 16 0 24
def Z147 (h w L : Nat) (xs : Nat → Int32) : St := newA (Z146 h w L xs) 12 17 0 24
def Z148 (h w L : Nat) (xs : Nat → Int32) : St := newA (Z147 h w L xs) 12 18 0 192
def Z149 (h w L : Nat) (xs : Nat → Int32) : St := newA (Z148 h w L xs) 12 19 0 192
def Z150 (h w L : Nat) (xs : Nat → Int32) : St := newA (Z149 h w L xs) 12 20 0 192
def Z151 (h w L : Nat) (xs : Nat → Int32) : St := newA (Z150 h w L xs) 12 21 0 192
def Z152 (h w L : Nat) (xs : Nat → Int32) : St := newA (Z151 h w L xs) 12 22 0 3072
def Z153 (h w L : Nat) (xs : Nat → Int32) : St := newA (Z152 h w L xs) 12 24 0 12
def Z154 (h w L : Nat) (xs : Nat → Int32) : St := newA (Z153 h w L xs) 12 25 0 12
def Z155 (h w L : Nat) (xs : Nat → Int32) : St := newA (Z154 h w L xs) 12 26 0 12
def Z156 (h w L : Nat) (xs : Nat → Int32) : St := newA (Z155 h w L xs) 12 27 0 12
def Z157 (h w L : Nat) (xs : Nat → Int32) : St := newA (Z156 h w L xs) 12 28 0 12
def Z158 (h w L : Nat) (xs : Nat → Int32) : St := newA (Z157 h w L xs) 12 29 0 12
def Z159 (h w L : Nat) (xs : Nat → Int32) : St := newA (Z158 h w L xs) 12 30 0 48000
def Z160 (h w L : Nat) (xs : Nat → Int32) : St := newA (Z159 h w L xs) 12 31 0 40
def Z161 (h w L : Nat) (xs : Nat → Int32) : St := newA (Z160 h w L xs) 12 32 0 128
def Z162 (h w L : Nat) (xs : Nat → Int32) : St := newA (Z161 h w L xs) 12 33 0 256
def Z163 (h w L : Nat) (xs : Nat → Int32) : St := newA (Z162 h w L xs) 12 34 0 256
def Z164 (h w L : Nat) (xs : Nat → Int32) : St := newA (Z163 h w L xs) 12 35 0 6
def Z165 (h w L : Nat) (xs : Nat → Int32) : St := newA (Z164 h w L xs) 12 36 0 6
def Z166 (h w L : Nat) (xs : Nat → Int32) : St := newA (Z165 h w L xs) 12 37 0 6
def Z167 (h w L : Nat) (xs : Nat → Int32) : St := newA (Z166 h w L xs) 12 39 0 80
def Z168 (h w L : Nat) (xs : Nat → Int32) : St := newA (Z167 h w L xs) 12 40 0 80
def Z169 (h w L : Nat) (xs : Nat → Int32) : St := newA (Z168 h w L xs) 12 41 0 80
def Z170 (h w L : Nat) (xs : Nat → Int32) : St := newA (Z169 h w L xs) 12 42 0 80
def Z171 (h w L : Nat) (xs : Nat → Int32) : St := newA (Z170 h w L xs) 12 43 0 80
def Z172 (h w L : Nat) (xs : Nat → Int32) : St := newA (Z171 h w L xs) 12 44 0 80
def Z173 (h w L : Nat) (xs : Nat → Int32) : St := newA (Z172 h w L xs) 12 45 0 80
def Z174 (h w L : Nat) (xs : Nat → Int32) : St := newA (Z173 h w L xs) 12 46 0 80
def Z175 (h w L : Nat) (xs : Nat → Int32) : St := newA (Z174 h w L xs) 12 47 0 80
def Z176 (h w L : Nat) (xs : Nat → Int32) : St := newA (Z175 h w L xs) 12 48 0 80
def Z177 (h w L : Nat) (xs : Nat → Int32) : St := newA (Z176 h w L xs) 12 49 0 80
def Z178 (h w L : Nat) (xs : Nat → Int32) : St := newA (Z177 h w L xs) 12 50 0 80
def Z179 (h w L : Nat) (xs : Nat → Int32) : St := newA (Z178 h w L xs) 12 51 0 80
def Z180 (h w L : Nat) (xs : Nat → Int32) : St := newA (Z179 h w L xs) 12 52 0 80
def Z181 (h w L : Nat) (xs : Nat → Int32) : St := newA (Z180 h w L xs) 12 53 0 1600
def Z182 (h w L : Nat) (xs : Nat → Int32) : St := newA (Z181 h w L xs) 12 55 0 6
def Z183 (h w L : Nat) (xs : Nat → Int32) : St := newA (Z182 h w L xs) 12 56 0 6
def Z184 (h w L : Nat) (xs : Nat → Int32) : St := newA (Z183 h w L xs) 12 57 0 6
def Z185 (h w L : Nat) (xs : Nat → Int32) : St := newA (Z184 h w L xs) 12 58 0 6
def Z186 (h w L : Nat) (xs : Nat → Int32) : St := newA (Z185 h w L xs) 12 60 0 6
def Z187 (h w L : Nat) (xs : Nat → Int32) : St := newA (Z186 h w L xs) 12 61 0 6
def Z188 (h w L : Nat) (xs : Nat → Int32) : St := newA (Z187 h w L xs) 12 62 0 6
def Z189 (h w L : Nat) (xs : Nat → Int32) : St := newA (Z188 h w L xs) 12 63 0 6
def Z190 (h w L : Nat) (xs : Nat → Int32) : St := newA (Z189 h w L xs) 12 68 0 800
def Z191 (h w L : Nat) (xs : Nat → Int32) : St := setI (Z190 h w L xs) 12 69 0 5
def Z192 (h w L : Nat) (xs : Nat → Int32) : St := newA (Z191 h w L xs) 12 70 0 4
def Z193 (h w L : Nat) (xs : Nat → Int32) : St := newA (Z192 h w L xs) 12 71 0 24
def Z194 (h w L : Nat) (xs : Nat → Int32) : St := newA (Z193 h w L xs) 12 72 0 24
def Z195 (h w L : Nat) (xs : Nat → Int32) : St := newA (Z194 h w L xs) 12 73 0 4
def Z196 (h w L : Nat) (xs : Nat → Int32) : St := newA (Z195 h w L xs) 12 74 0 24
def Z197 (h w L : Nat) (xs : Nat → Int32) : St := newA (Z196 h w L xs) 12 75 0 24
def Z198 (h w L : Nat) (xs : Nat → Int32) : St := newA (Z197 h w L xs) 12 76 0 6
def Z199 (h w L : Nat) (xs : Nat → Int32) : St := newA (Z198 h w L xs) 12 77 0 6
def Z200 (h w L : Nat) (xs : Nat → Int32) : St := newA (Z199 h w L xs) 12 78 0 6
def Z201 (h w L : Nat) (xs : Nat → Int32) : St := newA (Z200 h w L xs) 12 79 0 4
def Z202 (h w L : Nat) (xs : Nat → Int32) : St := newA (Z201 h w L xs) 12 80 0 4
def Z203 (h w L : Nat) (xs : Nat → Int32) : St := newA (Z202 h w L xs) 12 81 0 120
def Z204 (h w L : Nat) (xs : Nat → Int32) : St := setA (Z203 h w L xs) 12 79 0 (upd (gA (Z203 h w L xs) 12 79 0) 0 (-1))
def Z205 (h w L : Nat) (xs : Nat → Int32) : St := setA (Z204 h w L xs) 12 79 0 (upd (gA (Z204 h w L xs) 12 79 0) 1 (-1))
def Z206 (h w L : Nat) (xs : Nat → Int32) : St := setA (Z205 h w L xs) 12 79 0 (upd (gA (Z205 h w L xs) 12 79 0) 2 (-1))
def Z207 (h w L : Nat) (xs : Nat → Int32) : St := setA (Z206 h w L xs) 12 79 0 (upd (gA (Z206 h w L xs) 12 79 0) 3 (-1))
def Z208 (h w L : Nat) (xs : Nat → Int32) : St := setA (Z207 h w L xs) 12 35 0 (upd (gA (Z207 h w L xs) 12 35 0) 0 3)
def Z209 (h w L : Nat) (xs : Nat → Int32) : St := setA (Z208 h w L xs) 12 35 0 (upd (gA (Z208 h w L xs) 12 35 0) 1 3)
def Z210 (h w L : Nat) (xs : Nat → Int32) : St := setA (Z209 h w L xs) 12 35 0 (upd (gA (Z209 h w L xs) 12 35 0) 2 3)
def Z211 (h w L : Nat) (xs : Nat → Int32) : St := setA (Z210 h w L xs) 12 35 0 (upd (gA (Z210 h w L xs) 12 35 0) 3 3)
def Z212 (h w L : Nat) (xs : Nat → Int32) : St := setA (Z211 h w L xs) 12 35 0 (upd (gA (Z211 h w L xs) 12 35 0) 4 3)
def Z213 (h w L : Nat) (xs : Nat → Int32) : St := setA (Z212 h w L xs) 12 35 0 (upd (gA (Z212 h w L xs) 12 35 0) 5 3)
def NN0 : Nat → Nat := fun c => if c = 13 then 1 else 0
def NN1 : Nat → Nat := fun a => if a = 11 then NN0 11 + 1 else NN0 a
def NN2 : Nat → Nat := fun a => if a = 7 then NN1 7 + 1 else NN1 a
def NN3 : Nat → Nat := fun a => if a = 0 then NN2 0 + 1 else NN2 a
def NN4 : Nat → Nat := fun a => if a = 1 then NN3 1 + 1 else NN3 a
def NN5 : Nat → Nat := fun a => if a = 2 then NN4 2 + 1 else NN4 a
def NN6 : Nat → Nat := fun a => if a = 5 then NN5 5 + 1 else NN5 a
def NN7 : Nat → Nat := fun a => if a = 10 then NN6 10 + 1 else NN6 a
def NN8 : Nat → Nat := fun a => if a = 1 then NN7 1 + 1 else NN7 a
def NN9 : Nat → Nat := fun a => if a = 1 then NN8 1 + 1 else NN8 a
def NN10 : Nat → Nat := fun a => if a = 1 then NN9 1 + 1 else NN9 a
def NN11 : Nat → Nat := fun a => if a = 1 then NN10 1 + 1 else NN10 a
def NN12 : Nat → Nat := fun a => if a = 3 then NN11 3 + 1 else NN11 a
def NN13 : Nat → Nat := fun a => if a = 3 then NN12 3 + 1 else NN12 a
def NN14 : Nat → Nat := fun a => if a = 3 then NN13 3 + 1 else NN13 a
def NN15 : Nat → Nat := fun a => if a = 3 then NN14 3 + 1 else NN14 a
def NN16 : Nat → Nat := fun a => if a = 3 then NN15 3 + 1 else NN15 a
def NN17 : Nat → Nat := fun a => if a = 3 then NN16 3 + 1 else NN16 a
def NN18 : Nat → Nat := fun a => if a = 6 then NN17 6 + 1 else NN17 a
def NN19 : Nat → Nat := fun a => if a = 6 then NN18 6 + 1 else NN18 a
def NN20 : Nat → Nat := fun a => if a = 6 then NN19 6 + 1 else NN19 a
def NN21 : Nat → Nat := fun a => if a = 6 then NN20 6 + 1 else NN20 a
def NN22 : Nat → Nat := fun a => if a = 12 then NN21 12 + 1 else NN21 a
theorem NZ0 {h w L : Nat} {xs : Nat → Int32} : gN (Z0 h w L xs) = NN0 := rfl
theorem NZ1 {h w L : Nat} {xs : Nat → Int32} : gN (Z1 h w L xs) = NN1 := by
  funext a
  unfold Z1 NN1
  rw [NO', NZ0]
theorem NZ2 {h w L : Nat} {xs : Nat → Int32} : gN (Z2 h w L xs) = NN2 := by
  funext a
  unfold Z2 NN2
  rw [NO', NZ1]
theorem NZ3 {h w L : Nat} {xs : Nat → Int32} : gN (Z3 h w L xs) = NN2 := by
  unfold Z3
  rw [NW']; exact NZ2
theorem NZ4 {h w L : Nat} {xs : Nat → Int32} : gN (Z4 h w L xs) = NN2 := by
  unfold Z4
  rw [NI]; exact NZ3
theorem NZ5 {h w L : Nat} {xs : Nat → Int32} : gN (Z5 h w L xs) = NN2 := by
  unfold Z5
  rw [NI]; exact NZ4
theorem NZ6 {h w L : Nat} {xs : Nat → Int32} : gN (Z6 h w L xs) = NN2 := by
  unfold Z6
  rw [NR]; exact NZ5
theorem NZ7 {h w L : Nat} {xs : Nat → Int32} : gN (Z7 h w L xs) = NN2 := by
  unfold Z7
  rw [NW']; exact NZ6
theorem NZ8 {h w L : Nat} {xs : Nat → Int32} : gN (Z8 h w L xs) = NN2 := by
  unfold Z8
  rw [NW']; exact NZ7
theorem NZ9 {h w L : Nat} {xs : Nat → Int32} : gN (Z9 h w L xs) = NN2 := by
  unfold Z9
  rw [NW']; exact NZ8
theorem NZ10 {h w L : Nat} {xs : Nat → Int32} : gN (Z10 h w L xs) = NN3 := by
  funext a
  unfold Z10 NN3
  rw [NO', NZ9]
theorem NZ11 {h w L : Nat} {xs : Nat → Int32} : gN (Z11 h w L xs) = NN3 := by
  unfold Z11
  rw [NI]; exact NZ10
theorem NZ12 {h w L : Nat} {xs : Nat → Int32} : gN (Z12 h w L xs) = NN3 := by
  unfold Z12
  rw [NI]; exact NZ11
theorem NZ13 {h w L : Nat} {xs : Nat → Int32} : gN (Z13 h w L xs) = NN3 := by
  unfold Z13
  rw [NW']; exact NZ12
theorem NZ14 {h w L : Nat} {xs : Nat → Int32} : gN (Z14 h w L xs) = NN3 := by
  unfold Z14
  rw [NW']; exact NZ13
theorem NZ15 {h w L : Nat} {xs : Nat → Int32} : gN (Z15 h w L xs) = NN3 := by
  unfold Z15
  rw [NW']; exact NZ14
theorem NZ16 {h w L : Nat} {xs : Nat → Int32} : gN (Z16 h w L xs) = NN3 := by
  unfold Z16
  rw [NW']; exact NZ15
theorem NZ17 {h w L : Nat} {xs : Nat → Int32} : gN (Z17 h w L xs) = NN3 := by
  unfold Z17
  rw [NW']; exact NZ16
theorem NZ18 {h w L : Nat} {xs : Nat → Int32} : gN (Z18 h w L xs) = NN3 := by
  unfold Z18
  rw [NW']; exact NZ17
theorem NZ19 {h w L : Nat} {xs : Nat → Int32} : gN (Z19 h w L xs) = NN3 := by
  unfold Z19
  rw [NI]; exact NZ18
theorem NZ20 {h w L : Nat} {xs : Nat → Int32} : gN (Z20 h w L xs) = NN3 := by
  unfold Z20
  rw [NR]; exact NZ19
theorem NZ21 {h w L : Nat} {xs : Nat → Int32} : gN (Z21 h w L xs) = NN4 := by
  funext a
  unfold Z21 NN4
  rw [NO', NZ20]
theorem NZ22 {h w L : Nat} {xs : Nat → Int32} : gN (Z22 h w L xs) = NN4 := by
  unfold Z22
  rw [NI]; exact NZ21
theorem NZ23 {h w L : Nat} {xs : Nat → Int32} : gN (Z23 h w L xs) = NN4 := by
  unfold Z23
  rw [NW']; exact NZ22
theorem NZ24 {h w L : Nat} {xs : Nat → Int32} : gN (Z24 h w L xs) = NN4 := by
  unfold Z24
  rw [NW']; exact NZ23
theorem NZ25 {h w L : Nat} {xs : Nat → Int32} : gN (Z25 h w L xs) = NN4 := by
  unfold Z25
  rw [NW']; exact NZ24
theorem NZ26 {h w L : Nat} {xs : Nat → Int32} : gN (Z26 h w L xs) = NN4 := by
  unfold Z26
  rw [NR]; exact NZ25
theorem NZ27 {h w L : Nat} {xs : Nat → Int32} : gN (Z27 h w L xs) = NN4 := by
  unfold Z27
  rw [NW']; exact NZ26
theorem NZ28 {h w L : Nat} {xs : Nat → Int32} : gN (Z28 h w L xs) = NN4 := by
  unfold Z28
  rw [NI]; exact NZ27
theorem NZ29 {h w L : Nat} {xs : Nat → Int32} : gN (Z29 h w L xs) = NN4 := by
  unfold Z29
  rw [NW']; exact NZ28
theorem NZ30 {h w L : Nat} {xs : Nat → Int32} : gN (Z30 h w L xs) = NN4 := by
  unfold Z30
  rw [NI]; exact NZ29
theorem NZ31 {h w L : Nat} {xs : Nat → Int32} : gN (Z31 h w L xs) = NN4 := by
  unfold Z31
  rw [NW']; exact NZ30
theorem NZ32 {h w L : Nat} {xs : Nat → Int32} : gN (Z32 h w L xs) = NN4 := by
  unfold Z32
  rw [NI]; exact NZ31
theorem NZ33 {h w L : Nat} {xs : Nat → Int32} : gN (Z33 h w L xs) = NN4 := by
  unfold Z33
  rw [NW']; exact NZ32
theorem NZ34 {h w L : Nat} {xs : Nat → Int32} : gN (Z34 h w L xs) = NN5 := by
  funext a
  unfold Z34 NN5
  rw [NO', NZ33]
theorem NZ35 {h w L : Nat} {xs : Nat → Int32} : gN (Z35 h w L xs) = NN5 := by
  unfold Z35
  rw [NW']; exact NZ34
theorem NZ36 {h w L : Nat} {xs : Nat → Int32} : gN (Z36 h w L xs) = NN5 := by
  unfold Z36
  rw [NW']; exact NZ35
theorem NZ37 {h w L : Nat} {xs : Nat → Int32} : gN (Z37 h w L xs) = NN5 := by
  unfold Z37
  rw [NW']; exact NZ36
theorem NZ38 {h w L : Nat} {xs : Nat → Int32} : gN (Z38 h w L xs) = NN5 := by
  unfold Z38
  rw [NI]; exact NZ37
theorem NZ39 {h w L : Nat} {xs : Nat → Int32} : gN (Z39 h w L xs) = NN5 := by
  unfold Z39
  rw [NR]; exact NZ38
theorem NZ40 {h w L : Nat} {xs : Nat → Int32} : gN (Z40 h w L xs) = NN5 := by
  unfold Z40
  rw [NW']; exact NZ39
theorem NZ41 {h w L : Nat} {xs : Nat → Int32} : gN (Z41 h w L xs) = NN5 := by
  unfold Z41
  rw [NI]; exact NZ40
theorem NZ42 {h w L : Nat} {xs : Nat → Int32} : gN (Z42 h w L xs) = NN5 := by
  unfold Z42
  rw [NW']; exact NZ41
theorem NZ43 {h w L : Nat} {xs : Nat → Int32} : gN (Z43 h w L xs) = NN6 := by
  funext a
  unfold Z43 NN6
  rw [NO', NZ42]
theorem NZ44 {h w L : Nat} {xs : Nat → Int32} : gN (Z44 h w L xs) = NN6 := by
  unfold Z44
  rw [NW']; exact NZ43
theorem NZ45 {h w L : Nat} {xs : Nat → Int32} : gN (Z45 h w L xs) = NN6 := by
  unfold Z45
  rw [NW']; exact NZ44
theorem NZ46 {h w L : Nat} {xs : Nat → Int32} : gN (Z46 h w L xs) = NN6 := by
  unfold Z46
  rw [NW']; exact NZ45
theorem NZ47 {h w L : Nat} {xs : Nat → Int32} : gN (Z47 h w L xs) = NN6 := by
  unfold Z47
  rw [NW']; exact NZ46
theorem NZ48 {h w L : Nat} {xs : Nat → Int32} : gN (Z48 h w L xs) = NN6 := by
  unfold Z48
  rw [NW']; exact NZ47
theorem NZ49 {h w L : Nat} {xs : Nat → Int32} : gN (Z49 h w L xs) = NN6 := by
  unfold Z49
  rw [NW']; exact NZ48
theorem NZ50 {h w L : Nat} {xs : Nat → Int32} : gN (Z50 h w L xs) = NN6 := by
  unfold Z50
  rw [NW']; exact NZ49
theorem NZ51 {h w L : Nat} {xs : Nat → Int32} : gN (Z51 h w L xs) = NN6 := by
  unfold Z51
  rw [NW']; exact NZ50
theorem NZ52 {h w L : Nat} {xs : Nat → Int32} : gN (Z52 h w L xs) = NN6 := by
  unfold Z52
  rw [NI]; exact NZ51
theorem NZ53 {h w L : Nat} {xs : Nat → Int32} : gN (Z53 h w L xs) = NN6 := by
  unfold Z53
  rw [NI]; exact NZ52
theorem NZ54 {h w L : Nat} {xs : Nat → Int32} : gN (Z54 h w L xs) = NN6 := by
  unfold Z54
  rw [NI]; exact NZ53
theorem NZ55 {h w L : Nat} {xs : Nat → Int32} : gN (Z55 h w L xs) = NN6 := by
  unfold Z55
  rw [NI]; exact NZ54
theorem NZ56 {h w L : Nat} {xs : Nat → Int32} : gN (Z56 h w L xs) = NN6 := by
  unfold Z56
  rw [NR]; exact NZ55
theorem NZ57 {h w L : Nat} {xs : Nat → Int32} : gN (Z57 h w L xs) = NN7 := by
  funext a
  unfold Z57 NN7
  rw [NO', NZ56]
theorem NZ58 {h w L : Nat} {xs : Nat → Int32} : gN (Z58 h w L xs) = NN7 := by
  unfold Z58
  rw [NW']; exact NZ57
theorem NZ59 {h w L : Nat} {xs : Nat → Int32} : gN (Z59 h w L xs) = NN7 := by
  unfold Z59
  rw [NW']; exact NZ58
theorem NZ60 {h w L : Nat} {xs : Nat → Int32} : gN (Z60 h w L xs) = NN7 := by
  unfold Z60
  rw [NW']; exact NZ59
theorem NZ61 {h w L : Nat} {xs : Nat → Int32} : gN (Z61 h w L xs) = NN7 := by
  unfold Z61
  rw [NR]; exact NZ60
theorem NZ62 {h w L : Nat} {xs : Nat → Int32} : gN (Z62 h w L xs) = NN7 := by
  unfold Z62
  rw [NW']; exact NZ61
theorem NZ63 {h w L : Nat} {xs : Nat → Int32} : gN (Z63 h w L xs) = NN8 := by
  funext a
  unfold Z63 NN8
  rw [NO', NZ62]
theorem NZ64 {h w L : Nat} {xs : Nat → Int32} : gN (Z64 h w L xs) = NN8 := by
  unfold Z64
  rw [NI]; exact NZ63
theorem NZ65 {h w L : Nat} {xs : Nat → Int32} : gN (Z65 h w L xs) = NN8 := by
  unfold Z65
  rw [NW']; exact NZ64
theorem NZ66 {h w L : Nat} {xs : Nat → Int32} : gN (Z66 h w L xs) = NN8 := by
  unfold Z66
  rw [NW']; exact NZ65
theorem NZ67 {h w L : Nat} {xs : Nat → Int32} : gN (Z67 h w L xs) = NN8 := by
  unfold Z67
  rw [NW']; exact NZ66
theorem NZ68 {h w L : Nat} {xs : Nat → Int32} : gN (Z68 h w L xs) = NN8 := by
  unfold Z68
  rw [NQ]; exact NZ67
theorem NZ69 {h w L : Nat} {xs : Nat → Int32} : gN (Z69 h w L xs) = NN9 := by
  funext a
  unfold Z69 NN9
  rw [NO', NZ68]
theorem NZ70 {h w L : Nat} {xs : Nat → Int32} : gN (Z70 h w L xs) = NN9 := by
  unfold Z70
  rw [NI]; exact NZ69
theorem NZ71 {h w L : Nat} {xs : Nat → Int32} : gN (Z71 h w L xs) = NN9 := by
  unfold Z71
  rw [NW']; exact NZ70
theorem NZ72 {h w L : Nat} {xs : Nat → Int32} : gN (Z72 h w L xs) = NN9 := by
  unfold Z72
  rw [NW']; exact NZ71
theorem NZ73 {h w L : Nat} {xs : Nat → Int32} : gN (Z73 h w L xs) = NN9 := by
  unfold Z73
  rw [NW']; exact NZ72
theorem NZ74 {h w L : Nat} {xs : Nat → Int32} : gN (Z74 h w L xs) = NN9 := by
  unfold Z74
  rw [NQ]; exact NZ73
theorem NZ75 {h w L : Nat} {xs : Nat → Int32} : gN (Z75 h w L xs) = NN10 := by
  funext a
  unfold Z75 NN10
  rw [NO', NZ74]
theorem NZ76 {h w L : Nat} {xs : Nat → Int32} : gN (Z76 h w L xs) = NN10 := by
  unfold Z76
  rw [NI]; exact NZ75
theorem NZ77 {h w L : Nat} {xs : Nat → Int32} : gN (Z77 h w L xs) = NN10 := by
  unfold Z77
  rw [NW']; exact NZ76
theorem NZ78 {h w L : Nat} {xs : Nat → Int32} : gN (Z78 h w L xs) = NN10 := by
  unfold Z78
  rw [NW']; exact NZ77
theorem NZ79 {h w L : Nat} {xs : Nat → Int32} : gN (Z79 h w L xs) = NN10 := by
  unfold Z79
  rw [NW']; exact NZ78
theorem NZ80 {h w L : Nat} {xs : Nat → Int32} : gN (Z80 h w L xs) = NN10 := by
  unfold Z80
  rw [NQ]; exact NZ79
theorem NZ81 {h w L : Nat} {xs : Nat → Int32} : gN (Z81 h w L xs) = NN11 := by
  funext a
  unfold Z81 NN11
  rw [NO', NZ80]
theorem NZ82 {h w L : Nat} {xs : Nat → Int32} : gN (Z82 h w L xs) = NN11 := by
  unfold Z82
  rw [NI]; exact NZ81
theorem NZ83 {h w L : Nat} {xs : Nat → Int32} : gN (Z83 h w L xs) = NN11 := by
  unfold Z83
  rw [NW']; exact NZ82
theorem NZ84 {h w L : Nat} {xs : Nat → Int32} : gN (Z84 h w L xs) = NN11 := by
  unfold Z84
  rw [NW']; exact NZ83
theorem NZ85 {h w L : Nat} {xs : Nat → Int32} : gN (Z85 h w L xs) = NN11 := by
  unfold Z85
  rw [NW']; exact NZ84
theorem NZ86 {h w L : Nat} {xs : Nat → Int32} : gN (Z86 h w L xs) = NN11 := by
  unfold Z86
  rw [NQ]; exact NZ85
theorem NZ87 {h w L : Nat} {xs : Nat → Int32} : gN (Z87 h w L xs) = NN12 := by
  funext a
  unfold Z87 NN12
  rw [NO', NZ86]
theorem NZ88 {h w L : Nat} {xs : Nat → Int32} : gN (Z88 h w L xs) = NN12 := by
  unfold Z88
  rw [NI]; exact NZ87
theorem NZ89 {h w L : Nat} {xs : Nat → Int32} : gN (Z89 h w L xs) = NN12 := by
  unfold Z89
  rw [NI]; exact NZ88
theorem NZ90 {h w L : Nat} {xs : Nat → Int32} : gN (Z90 h w L xs) = NN12 := by
  unfold Z90
  rw [NI]; exact NZ89
theorem NZ91 {h w L : Nat} {xs : Nat → Int32} : gN (Z91 h w L xs) = NN12 := by
  unfold Z91
  rw [NQ]; exact NZ90
theorem NZ92 {h w L : Nat} {xs : Nat → Int32} : gN (Z92 h w L xs) = NN13 := by
  funext a
  unfold Z92 NN13
  rw [NO', NZ91]
theorem NZ93 {h w L : Nat} {xs : Nat → Int32} : gN (Z93 h w L xs) = NN13 := by
  unfold Z93
  rw [NI]; exact NZ92
theorem NZ94 {h w L : Nat} {xs : Nat → Int32} : gN (Z94 h w L xs) = NN13 := by
  unfold Z94
  rw [NI]; exact NZ93
theorem NZ95 {h w L : Nat} {xs : Nat → Int32} : gN (Z95 h w L xs) = NN13 := by
  unfold Z95
  rw [NI]; exact NZ94
theorem NZ96 {h w L : Nat} {xs : Nat → Int32} : gN (Z96 h w L xs) = NN13 := by
  unfold Z96
  rw [NQ]; exact NZ95
theorem NZ97 {h w L : Nat} {xs : Nat → Int32} : gN (Z97 h w L xs) = NN14 := by
  funext a
  unfold Z97 NN14
  rw [NO', NZ96]
theorem NZ98 {h w L : Nat} {xs : Nat → Int32} : gN (Z98 h w L xs) = NN14 := by
  unfold Z98
  rw [NI]; exact NZ97
theorem NZ99 {h w L : Nat} {xs : Nat → Int32} : gN (Z99 h w L xs) = NN14 := by
  unfold Z99
  rw [NI]; exact NZ98
theorem NZ100 {h w L : Nat} {xs : Nat → Int32} : gN (Z100 h w L xs) = NN14 := by
  unfold Z100
  rw [NI]; exact NZ99
theorem NZ101 {h w L : Nat} {xs : Nat → Int32} : gN (Z101 h w L xs) = NN14 := by
  unfold Z101
  rw [NQ]; exact NZ100
theorem NZ102 {h w L : Nat} {xs : Nat → Int32} : gN (Z102 h w L xs) = NN15 := by
  funext a
  unfold Z102 NN15
  rw [NO', NZ101]
theorem NZ103 {h w L : Nat} {xs : Nat → Int32} : gN (Z103 h w L xs) = NN15 := by
  unfold Z103
  rw [NI]; exact NZ102
theorem NZ104 {h w L : Nat} {xs : Nat → Int32} : gN (Z104 h w L xs) = NN15 := by
  unfold Z104
  rw [NI]; exact NZ103
theorem NZ105 {h w L : Nat} {xs : Nat → Int32} : gN (Z105 h w L xs) = NN15 := by
  unfold Z105
  rw [NI]; exact NZ104
theorem NZ106 {h w L : Nat} {xs : Nat → Int32} : gN (Z106 h w L xs) = NN15 := by
  unfold Z106
  rw [NQ]; exact NZ105
theorem NZ107 {h w L : Nat} {xs : Nat → Int32} : gN (Z107 h w L xs) = NN16 := by
  funext a
  unfold Z107 NN16
  rw [NO', NZ106]
theorem NZ108 {h w L : Nat} {xs : Nat → Int32} : gN (Z108 h w L xs) = NN16 := by
  unfold Z108
  rw [NI]; exact NZ107
theorem NZ109 {h w L : Nat} {xs : Nat → Int32} : gN (Z109 h w L xs) = NN16 := by
  unfold Z109
  rw [NI]; exact NZ108
theorem NZ110 {h w L : Nat} {xs : Nat → Int32} : gN (Z110 h w L xs) = NN16 := by
  unfold Z110
  rw [NI]; exact NZ109
theorem NZ111 {h w L : Nat} {xs : Nat → Int32} : gN (Z111 h w L xs) = NN16 := by
  unfold Z111
  rw [NQ]; exact NZ110
theorem NZ112 {h w L : Nat} {xs : Nat → Int32} : gN (Z112 h w L xs) = NN17 := by
  funext a
  unfold Z112 NN17
  rw [NO', NZ111]
theorem NZ113 {h w L : Nat} {xs : Nat → Int32} : gN (Z113 h w L xs) = NN17 := by
  unfold Z113
  rw [NI]; exact NZ112
theorem NZ114 {h w L : Nat} {xs : Nat → Int32} : gN (Z114 h w L xs) = NN17 := by
  unfold Z114
  rw [NI]; exact NZ113
theorem NZ115 {h w L : Nat} {xs : Nat → Int32} : gN (Z115 h w L xs) = NN17 := by
  unfold Z115
  rw [NI]; exact NZ114
theorem NZ116 {h w L : Nat} {xs : Nat → Int32} : gN (Z116 h w L xs) = NN17 := by
  unfold Z116
  rw [NQ]; exact NZ115
theorem NZ117 {h w L : Nat} {xs : Nat → Int32} : gN (Z117 h w L xs) = NN18 := by
  funext a
  unfold Z117 NN18
  rw [NO', NZ116]
theorem NZ118 {h w L : Nat} {xs : Nat → Int32} : gN (Z118 h w L xs) = NN18 := by
  unfold Z118
  rw [NI]; exact NZ117
theorem NZ119 {h w L : Nat} {xs : Nat → Int32} : gN (Z119 h w L xs) = NN18 := by
  unfold Z119
  rw [NI]; exact NZ118
theorem NZ120 {h w L : Nat} {xs : Nat → Int32} : gN (Z120 h w L xs) = NN18 := by
  unfold Z120
  rw [NW']; exact NZ119
theorem NZ121 {h w L : Nat} {xs : Nat → Int32} : gN (Z121 h w L xs) = NN18 := by
  unfold Z121
  rw [NQ]; exact NZ120
theorem NZ122 {h w L : Nat} {xs : Nat → Int32} : gN (Z122 h w L xs) = NN19 := by
  funext a
  unfold Z122 NN19
  rw [NO', NZ121]
theorem NZ123 {h w L : Nat} {xs : Nat → Int32} : gN (Z123 h w L xs) = NN19 := by
  unfold Z123
  rw [NI]; exact NZ122
theorem NZ124 {h w L : Nat} {xs : Nat → Int32} : gN (Z124 h w L xs) = NN19 := by
  unfold Z124
  rw [NI]; exact NZ123
theorem NZ125 {h w L : Nat} {xs : Nat → Int32} : gN (Z125 h w L xs) = NN19 := by
  unfold Z125
  rw [NW']; exact NZ124
theorem NZ126 {h w L : Nat} {xs : Nat → Int32} : gN (Z126 h w L xs) = NN19 := by
  unfold Z126
  rw [NQ]; exact NZ125
theorem NZ127 {h w L : Nat} {xs : Nat → Int32} : gN (Z127 h w L xs) = NN20 := by
  funext a
  unfold Z127 NN20
  rw [NO', NZ126]
theorem NZ128 {h w L : Nat} {xs : Nat → Int32} : gN (Z128 h w L xs) = NN20 := by
  unfold Z128
  rw [NI]; exact NZ127
theorem NZ129 {h w L : Nat} {xs : Nat → Int32} : gN (Z129 h w L xs) = NN20 := by
  unfold Z129
  rw [NI]; exact NZ128
theorem NZ130 {h w L : Nat} {xs : Nat → Int32} : gN (Z130 h w L xs) = NN20 := by
  unfold Z130
  rw [NW']; exact NZ129
theorem NZ131 {h w L : Nat} {xs : Nat → Int32} : gN (Z131 h w L xs) = NN20 := by
  unfold Z131
  rw [NQ]; exact NZ130
theorem NZ132 {h w L : Nat} {xs : Nat → Int32} : gN (Z132 h w L xs) = NN21 := by
  funext a
  unfold Z132 NN21
  rw [NO', NZ131]
theorem NZ133 {h w L : Nat} {xs : Nat → Int32} : gN (Z133 h w L xs) = NN21 := by
  unfold Z133
  rw [NI]; exact NZ132
theorem NZ134 {h w L : Nat} {xs : Nat → Int32} : gN (Z134 h w L xs) = NN21 := by
  unfold Z134
  rw [NI]; exact NZ133
theorem NZ135 {h w L : Nat} {xs : Nat → Int32} : gN (Z135 h w L xs) = NN21 := by
  unfold Z135
  rw [NW']; exact NZ134
theorem NZ136 {h w L : Nat} {xs : Nat → Int32} : gN (Z136 h w L xs) = NN21 := by
  unfold Z136
  rw [NQ]; exact NZ135
theorem NZ137 {h w L : Nat} {xs : Nat → Int32} : gN (Z137 h w L xs) = NN22 := by
  funext a
  unfold Z137 NN22
  rw [NO', NZ136]
theorem NZ138 {h w L : Nat} {xs : Nat → Int32} : gN (Z138 h w L xs) = NN22 := by
  unfold Z138
  rw [NW']; exact NZ137
theorem NZ139 {h w L : Nat} {xs : Nat → Int32} : gN (Z139 h w L xs) = NN22 := by
  unfold Z139
  rw [NW']; exact NZ138
theorem NZ140 {h w L : Nat} {xs : Nat → Int32} : gN (Z140 h w L xs) = NN22 := by
  unfold Z140
  rw [NW']; exact NZ139
theorem NZ141 {h w L : Nat} {xs : Nat → Int32} : gN (Z141 h w L xs) = NN22 := by
  unfold Z141
  rw [NW']; exact NZ140
theorem NZ142 {h w L : Nat} {xs : Nat → Int32} : gN (Z142 h w L xs) = NN22 := by
  unfold Z142
  rw [NW']; exact NZ141
theorem NZ143 {h w L : Nat} {xs : Nat → Int32} : gN (Z143 h w L xs) = NN22 := by
  unfold Z143
  rw [NW']; exact NZ142
theorem NZ144 {h w L : Nat} {xs : Nat → Int32} : gN (Z144 h w L xs) = NN22 := by
  unfold Z144
  rw [NW']; exact NZ143
theorem NZ145 {h w L : Nat} {xs : Nat → Int32} : gN (Z145 h w L xs) = NN22 := by
  unfold Z145
  rw [NW']; exact NZ144
theorem NZ146 {h w L : Nat} {xs : Nat → Int32} : gN (Z146 h w L xs) = NN22 := by
  unfold Z146
  rw [NW']; exact NZ145
theorem NZ147 {h w L : Nat} {xs : Nat → Int32} : gN (Z147 h w L xs) = NN22 := by
  unfold Z147
  rw [NW']; exact NZ146
theorem NZ148 {h w L : Nat} {xs : Nat → Int32} : gN (Z148 h w L xs) = NN22 := by
  unfold Z148
  rw [NW']; exact NZ147
theorem NZ149 {h w L : Nat} {xs : Nat → Int32} : gN (Z149 h w L xs) = NN22 := by
  unfold Z149
  rw [NW']; exact NZ148
theorem NZ150 {h w L : Nat} {xs : Nat → Int32} : gN (Z150 h w L xs) = NN22 := by
  unfold Z150
  rw [NW']; exact NZ149
theorem NZ151 {h w L : Nat} {xs : Nat → Int32} : gN (Z151 h w L xs) = NN22 := by
  unfold Z151
  rw [NW']; exact NZ150
theorem NZ152 {h w L : Nat} {xs : Nat → Int32} : gN (Z152 h w L xs) = NN22 := by
  unfold Z152
  rw [NW']; exact NZ151
theorem NZ153 {h w L : Nat} {xs : Nat → Int32} : gN (Z153 h w L xs) = NN22 := by
  unfold Z153
  rw [NW']; exact NZ152
theorem NZ154 {h w L : Nat} {xs : Nat → Int32} : gN (Z154 h w L xs) = NN22 := by
  unfold Z154
  rw [NW']; exact NZ153
theorem NZ155 {h w L : Nat} {xs : Nat → Int32} : gN (Z155 h w L xs) = NN22 := by
  unfold Z155
  rw [NW']; exact NZ154
theorem NZ156 {h w L : Nat} {xs : Nat → Int32} : gN (Z156 h w L xs) = NN22 := by
  unfold Z156
  rw [NW']; exact NZ155
theorem NZ157 {h w L : Nat} {xs : Nat → Int32} : gN (Z157 h w L xs) = NN22 := by
  unfold Z157
  rw [NW']; exact NZ156
theorem NZ158 {h w L : Nat} {xs : Nat → Int32} : gN (Z158 h w L xs) = NN22 := by
  unfold Z158
  rw [NW']; exact NZ157
theorem NZ159 {h w L : Nat} {xs : Nat → Int32} : gN (Z159 h w L xs) = NN22 := by
  unfold Z159
  rw [NW']; exact NZ158
theorem NZ160 {h w L : Nat} {xs : Nat → Int32} : gN (Z160 h w L xs) = NN22 := by
  unfold Z160
  rw [NW']; exact NZ159
theorem NZ161 {h w L : Nat} {xs : Nat → Int32} : gN (Z161 h w L xs) = NN22 := by
  unfold Z161
  rw [NW']; exact NZ160
theorem NZ162 {h w L : Nat} {xs : Nat → Int32} : gN (Z162 h w L xs) = NN22 := by
  unfold Z162
  rw [NW']; exact NZ161
theorem NZ163 {h w L : Nat} {xs : Nat → Int32} : gN (Z163 h w L xs) = NN22 := by
  unfold Z163
  rw [NW']; exact NZ162
theorem NZ164 {h w L : Nat} {xs : Nat → Int32} : gN (Z164 h w L xs) = NN22 := by
  unfold Z164
  rw [NW']; exact NZ163
theorem NZ165 {h w L : Nat} {xs : Nat → Int32} : gN (Z165 h w L xs) = NN22 := by
  unfold Z165
  rw [NW']; exact NZ164
theorem NZ166 {h w L : Nat} {xs : Nat → Int32} : gN (Z166 h w L xs) = NN22 := by
  unfold Z166
  rw [NW']; exact NZ165
theorem NZ167 {h w L : Nat} {xs : Nat → Int32} : gN (Z167 h w L xs) = NN22 := by
  unfold Z167
  rw [NW']; exact NZ166
theorem NZ168 {h w L : Nat} {xs : Nat → Int32} : gN (Z168 h w L xs) = NN22 := by
  unfold Z168
  rw [NW']; exact NZ167
theorem NZ169 {h w L : Nat} {xs : Nat → Int32} : gN (Z169 h w L xs) = NN22 := by
  unfold Z169
  rw [NW']; exact NZ168
theorem NZ170 {h w L : Nat} {xs : Nat → Int32} : gN (Z170 h w L xs) = NN22 := by
  unfold Z170
  rw [NW']; exact NZ169
theorem NZ171 {h w L : Nat} {xs : Nat → Int32} : gN (Z171 h w L xs) = NN22 := by
  unfold Z171
  rw [NW']; exact NZ170
theorem NZ172 {h w L : Nat} {xs : Nat → Int32} : gN (Z172 h w L xs) = NN22 := by
  unfold Z172
  rw [NW']; exact NZ171
theorem NZ173 {h w L : Nat} {xs : Nat → Int32} : gN (Z173 h w L xs) = NN22 := by
  unfold Z173
  rw [NW']; exact NZ172
theorem NZ174 {h w L : Nat} {xs : Nat → Int32} : gN (Z174 h w L xs) = NN22 := by
  unfold Z174
  rw [NW']; exact NZ173
theorem NZ175 {h w L : Nat} {xs : Nat → Int32} : gN (Z175 h w L xs) = NN22 := by
  unfold Z175
  rw [NW']; exact NZ174
theorem NZ176 {h w L : Nat} {xs : Nat → Int32} : gN (Z176 h w L xs) = NN22 := by
  unfold Z176
  rw [NW']; exact NZ175
theorem NZ177 {h w L : Nat} {xs : Nat → Int32} : gN (Z177 h w L xs) = NN22 := by
  unfold Z177
  rw [NW']; exact NZ176
theorem NZ178 {h w L : Nat} {xs : Nat → Int32} : gN (Z178 h w L xs) = NN22 := by
  unfold Z178
  rw [NW']; exact NZ177
theorem NZ179 {h w L : Nat} {xs : Nat → Int32} : gN (Z179 h w L xs) = NN22 := by
  unfold Z179
  rw [NW']; exact NZ178
theorem NZ180 {h w L : Nat} {xs : Nat → Int32} : gN (Z180 h w L xs) = NN22 := by
  unfold Z180
  rw [NW']; exact NZ179
theorem NZ181 {h w L : Nat} {xs : Nat → Int32} : gN (Z181 h w L xs) = NN22 := by
  unfold Z181
  rw [NW']; exact NZ180
theorem NZ182 {h w L : Nat} {xs : Nat → Int32} : gN (Z182 h w L xs) = NN22 := by
  unfold Z182
  rw [NW']; exact NZ181
theorem NZ183 {h w L : Nat} {xs : Nat → Int32} : gN (Z183 h w L xs) = NN22 := by
  unfold Z183
  rw [NW']; exact NZ182
theorem NZ184 {h w L : Nat} {xs : Nat → Int32} : gN (Z184 h w L xs) = NN22 := by
  unfold Z184
  rw [NW']; exact NZ183
theorem NZ185 {h w L : Nat} {xs : Nat → Int32} : gN (Z185 h w L xs) = NN22 := by
  unfold Z185
  rw [NW']; exact NZ184
theorem NZ186 {h w L : Nat} {xs : Nat → Int32} : gN (Z186 h w L xs) = NN22 := by
  unfold Z186
  rw [NW']; exact NZ185
theorem NZ187 {h w L : Nat} {xs : Nat → Int32} : gN (Z187 h w L xs) = NN22 := by
  unfold Z187
  rw [NW']; exact NZ186
theorem NZ188 {h w L : Nat} {xs : Nat → Int32} : gN (Z188 h w L xs) = NN22 := by
  unfold Z188
  rw [NW']; exact NZ187
theorem NZ189 {h w L : Nat} {xs : Nat → Int32} : gN (Z189 h w L xs) = NN22 := by
  unfold Z189
  rw [NW']; exact NZ188
theorem NZ190 {h w L : Nat} {xs : Nat → Int32} : gN (Z190 h w L xs) = NN22 := by
  unfold Z190
  rw [NW']; exact NZ189
theorem NZ191 {h w L : Nat} {xs : Nat → Int32} : gN (Z191 h w L xs) = NN22 := by
  unfold Z191
  rw [NI]; exact NZ190
theorem NZ192 {h w L : Nat} {xs : Nat → Int32} : gN (Z192 h w L xs) = NN22 := by
  unfold Z192
  rw [NW']; exact NZ191
theorem NZ193 {h w L : Nat} {xs : Nat → Int32} : gN (Z193 h w L xs) = NN22 := by
  unfold Z193
  rw [NW']; exact NZ192
theorem NZ194 {h w L : Nat} {xs : Nat → Int32} : gN (Z194 h w L xs) = NN22 := by
  unfold Z194
  rw [NW']; exact NZ193
theorem NZ195 {h w L : Nat} {xs : Nat → Int32} : gN (Z195 h w L xs) = NN22 := by
  unfold Z195
  rw [NW']; exact NZ194
theorem NZ196 {h w L : Nat} {xs : Nat → Int32} : gN (Z196 h w L xs) = NN22 := by
  unfold Z196
  rw [NW']; exact NZ195
theorem NZ197 {h w L : Nat} {xs : Nat → Int32} : gN (Z197 h w L xs) = NN22 := by
  unfold Z197
  rw [NW']; exact NZ196
theorem NZ198 {h w L : Nat} {xs : Nat → Int32} : gN (Z198 h w L xs) = NN22 := by
  unfold Z198
  rw [NW']; exact NZ197
theorem NZ199 {h w L : Nat} {xs : Nat → Int32} : gN (Z199 h w L xs) = NN22 := by
  unfold Z199
  rw [NW']; exact NZ198
theorem NZ200 {h w L : Nat} {xs : Nat → Int32} : gN (Z200 h w L xs) = NN22 := by
  unfold Z200
  rw [NW']; exact NZ199
theorem NZ201 {h w L : Nat} {xs : Nat → Int32} : gN (Z201 h w L xs) = NN22 := by
  unfold Z201
  rw [NW']; exact NZ200
theorem NZ202 {h w L : Nat} {xs : Nat → Int32} : gN (Z202 h w L xs) = NN22 := by
  unfold Z202
  rw [NW']; exact NZ201
theorem NZ203 {h w L : Nat} {xs : Nat → Int32} : gN (Z203 h w L xs) = NN22 := by
  unfold Z203
  rw [NW']; exact NZ202
theorem NZ204 {h w L : Nat} {xs : Nat → Int32} : gN (Z204 h w L xs) = NN22 := by
  unfold Z204
  rw [NA]; exact NZ203
theorem NZ205 {h w L : Nat} {xs : Nat → Int32} : gN (Z205 h w L xs) = NN22 := by
  unfold Z205
  rw [NA]; exact NZ204
theorem NZ206 {h w L : Nat} {xs : Nat → Int32} : gN (Z206 h w L xs) = NN22 := by
  unfold Z206
  rw [NA]; exact NZ205
theorem NZ207 {h w L : Nat} {xs : Nat → Int32} : gN (Z207 h w L xs) = NN22 := by
  unfold Z207
  rw [NA]; exact NZ206
theorem NZ208 {h w L : Nat} {xs : Nat → Int32} : gN (Z208 h w L xs) = NN22 := by
  unfold Z208
  rw [NA]; exact NZ207
theorem NZ209 {h w L : Nat} {xs : Nat → Int32} : gN (Z209 h w L xs) = NN22 := by
  unfold Z209
  rw [NA]; exact NZ208
theorem NZ210 {h w L : Nat} {xs : Nat → Int32} : gN (Z210 h w L xs) = NN22 := by
  unfold Z210
  rw [NA]; exact NZ209
theorem NZ211 {h w L : Nat} {xs : Nat → Int32} : gN (Z211 h w L xs) = NN22 := by
  unfold Z211
  rw [NA]; exact NZ210
theorem NZ212 {h w L : Nat} {xs : Nat → Int32} : gN (Z212 h w L xs) = NN22 := by
  unfold Z212
  rw [NA]; exact NZ211
theorem NZ213 {h w L : Nat} {xs : Nat → Int32} : gN (Z213 h w L xs) = NN22 := by
  unfold Z213
  rw [NA]; exact NZ212
theorem nn0_0 : NN0 0 = 0 := by decide
theorem nn0_1 : NN0 1 = 0 := by decide
theorem nn0_2 : NN0 2 = 0 := by decide
theorem nn0_3 : NN0 3 = 0 := by decide
theorem nn0_4 : NN0 4 = 0 := by decide
theorem nn0_5 : NN0 5 = 0 := by decide
theorem nn0_6 : NN0 6 = 0 := by decide
theorem nn0_7 : NN0 7 = 0 := by decide
theorem nn0_8 : NN0 8 = 0 := by decide
theorem nn0_9 : NN0 9 = 0 := by decide
theorem nn0_10 : NN0 10 = 0 := by decide
theorem nn0_11 : NN0 11 = 0 := by decide
theorem nn0_12 : NN0 12 = 0 := by decide
theorem nn0_13 : NN0 13 = 1 := by decide
theorem nn1_0 : NN1 0 = 0 := by decide
theorem nn1_1 : NN1 1 = 0 := by decide
theorem nn1_2 : NN1 2 = 0 := by decide
theorem nn1_3 : NN1 3 = 0 := by decide
theorem nn1_4 : NN1 4 = 0 := by decide
theorem nn1_5 : NN1 5 = 0 := by decide
theorem nn1_6 : NN1 6 = 0 := by decide
theorem nn1_7 : NN1 7 = 0 := by decide
theorem nn1_8 : NN1 8 = 0 := by decide
theorem nn1_9 : NN1 9 = 0 := by decide
theorem nn1_10 : NN1 10 = 0 := by decide
theorem nn1_11 : NN1 11 = 1 := by decide
theorem nn1_12 : NN1 12 = 0 := by decide
theorem nn1_13 : NN1 13 = 1 := by decide
theorem nn2_0 : NN2 0 = 0 := by decide
theorem nn2_1 : NN2 1 = 0 := by decide
theorem nn2_2 : NN2 2 = 0 := by decide
theorem nn2_3 : NN2 3 = 0 := by decide
theorem nn2_4 : NN2 4 = 0 := by decide
theorem nn2_5 : NN2 5 = 0 := by decide
theorem nn2_6 : NN2 6 = 0 := by decide
theorem nn2_7 : NN2 7 = 1 := by decide
theorem nn2_8 : NN2 8 = 0 := by decide
theorem nn2_9 : NN2 9 = 0 := by decide
theorem nn2_10 : NN2 10 = 0 := by decide
theorem nn2_11 : NN2 11 = 1 := by decide
theorem nn2_12 : NN2 12 = 0 := by decide
theorem nn2_13 : NN2 13 = 1 := by decide
theorem nn3_0 : NN3 0 = 1 := by decide
theorem nn3_1 : NN3 1 = 0 := by decide
theorem nn3_2 : NN3 2 = 0 := by decide
theorem nn3_3 : NN3 3 = 0 := by decide
theorem nn3_4 : NN3 4 = 0 := by decide
theorem nn3_5 : NN3 5 = 0 := by decide
theorem nn3_6 : NN3 6 = 0 := by decide
theorem nn3_7 : NN3 7 = 1 := by decide
theorem nn3_8 : NN3 8 = 0 := by decide
theorem nn3_9 : NN3 9 = 0 := by decide
theorem nn3_10 : NN3 10 = 0 := by decide
theorem nn3_11 : NN3 11 = 1 := by decide
theorem nn3_12 : NN3 12 = 0 := by decide
theorem nn3_13 : NN3 13 = 1 := by decide
theorem nn4_0 : NN4 0 = 1 := by decide
theorem nn4_1 : NN4 1 = 1 := by decide
theorem nn4_2 : NN4 2 = 0 := by decide
theorem nn4_3 : NN4 3 = 0 := by decide
theorem nn4_4 : NN4 4 = 0 := by decide
theorem nn4_5 : NN4 5 = 0 := by decide
theorem nn4_6 : NN4 6 = 0 := by decide
theorem nn4_7 : NN4 7 = 1 := by decide
theorem nn4_8 : NN4 8 = 0 := by decide
theorem nn4_9 : NN4 9 = 0 := by decide
theorem nn4_10 : NN4 10 = 0 := by decide
theorem nn4_11 : NN4 11 = 1 := by decide
theorem nn4_12 : NN4 12 = 0 := by decide
theorem nn4_13 : NN4 13 = 1 := by decide
theorem nn5_0 : NN5 0 = 1 := by decide
theorem nn5_1 : NN5 1 = 1 := by decide
theorem nn5_2 : NN5 2 = 1 := by decide
theorem nn5_3 : NN5 3 = 0 := by decide
theorem nn5_4 : NN5 4 = 0 := by decide
theorem nn5_5 : NN5 5 = 0 := by decide
theorem nn5_6 : NN5 6 = 0 := by decide
theorem nn5_7 : NN5 7 = 1 := by decide
theorem nn5_8 : NN5 8 = 0 := by decide
theorem nn5_9 : NN5 9 = 0 := by decide
theorem nn5_10 : NN5 10 = 0 := by decide
theorem nn5_11 : NN5 11 = 1 := by decide
theorem nn5_12 : NN5 12 = 0 := by decide
theorem nn5_13 : NN5 13 = 1 := by decide
theorem nn6_0 : NN6 0 = 1 := by decide
theorem nn6_1 : NN6 1 = 1 := by decide
theorem nn6_2 : NN6 2 = 1 := by decide
theorem nn6_3 : NN6 3 = 0 := by decide
theorem nn6_4 : NN6 4 = 0 := by decide
theorem nn6_5 : NN6 5 = 1 := by decide
theorem nn6_6 : NN6 6 = 0 := by decide
theorem nn6_7 : NN6 7 = 1 := by decide
theorem nn6_8 : NN6 8 = 0 := by decide
theorem nn6_9 : NN6 9 = 0 := by decide
theorem nn6_10 : NN6 10 = 0 := by decide
theorem nn6_11 : NN6 11 = 1 := by decide
theorem nn6_12 : NN6 12 = 0 := by decide
theorem nn6_13 : NN6 13 = 1 := by decide
theorem nn7_0 : NN7 0 = 1 := by decide
theorem nn7_1 : NN7 1 = 1 := by decide
theorem nn7_2 : NN7 2 = 1 := by decide
theorem nn7_3 : NN7 3 = 0 := by decide
theorem nn7_4 : NN7 4 = 0 := by decide
theorem nn7_5 : NN7 5 = 1 := by decide
theorem nn7_6 : NN7 6 = 0 := by decide
theorem nn7_7 : NN7 7 = 1 := by decide
theorem nn7_8 : NN7 8 = 0 := by decide
theorem nn7_9 : NN7 9 = 0 := by decide
theorem nn7_10 : NN7 10 = 1 := by decide
theorem nn7_11 : NN7 11 = 1 := by decide
theorem nn7_12 : NN7 12 = 0 := by decide
theorem nn7_13 : NN7 13 = 1 := by decide
theorem nn8_0 : NN8 0 = 1 := by decide
theorem nn8_1 : NN8 1 = 2 := by decide
theorem nn8_2 : NN8 2 = 1 := by decide
theorem nn8_3 : NN8 3 = 0 := by decide
theorem nn8_4 : NN8 4 = 0 := by decide
theorem nn8_5 : NN8 5 = 1 := by decide
theorem nn8_6 : NN8 6 = 0 := by decide
theorem nn8_7 : NN8 7 = 1 := by decide
theorem nn8_8 : NN8 8 = 0 := by decide
theorem nn8_9 : NN8 9 = 0 := by decide
theorem nn8_10 : NN8 10 = 1 := by decide
theorem nn8_11 : NN8 11 = 1 := by decide
theorem nn8_12 : NN8 12 = 0 := by decide
theorem nn8_13 : NN8 13 = 1 := by decide
theorem nn9_0 : NN9 0 = 1 := by decide
theorem nn9_1 : NN9 1 = 3 := by decide
theorem nn9_2 : NN9 2 = 1 := by decide
theorem nn9_3 : NN9 3 = 0 := by decide
theorem nn9_4 : NN9 4 = 0 := by decide
theorem nn9_5 : NN9 5 = 1 := by decide
theorem nn9_6 : NN9 6 = 0 := by decide
theorem nn9_7 : NN9 7 = 1 := by decide
theorem nn9_8 : NN9 8 = 0 := by decide
theorem nn9_9 : NN9 9 = 0 := by decide
theorem nn9_10 : NN9 10 = 1 := by decide
theorem nn9_11 : NN9 11 = 1 := by decide
theorem nn9_12 : NN9 12 = 0 := by decide
theorem nn9_13 : NN9 13 = 1 := by decide
theorem nn10_0 : NN10 0 = 1 := by decide
theorem nn10_1 : NN10 1 = 4 := by decide
theorem nn10_2 : NN10 2 = 1 := by decide
theorem nn10_3 : NN10 3 = 0 := by decide
theorem nn10_4 : NN10 4 = 0 := by decide
theorem nn10_5 : NN10 5 = 1 := by decide
theorem nn10_6 : NN10 6 = 0 := by decide
theorem nn10_7 : NN10 7 = 1 := by decide
theorem nn10_8 : NN10 8 = 0 := by decide
theorem nn10_9 : NN10 9 = 0 := by decide
theorem nn10_10 : NN10 10 = 1 := by decide
theorem nn10_11 : NN10 11 = 1 := by decide
theorem nn10_12 : NN10 12 = 0 := by decide
theorem nn10_13 : NN10 13 = 1 := by decide
theorem nn11_0 : NN11 0 = 1 := by decide
theorem nn11_1 : NN11 1 = 5 := by decide
theorem nn11_2 : NN11 2 = 1 := by decide
theorem nn11_3 : NN11 3 = 0 := by decide
theorem nn11_4 : NN11 4 = 0 := by decide
theorem nn11_5 : NN11 5 = 1 := by decide
theorem nn11_6 : NN11 6 = 0 := by decide
theorem nn11_7 : NN11 7 = 1 := by decide
theorem nn11_8 : NN11 8 = 0 := by decide
theorem nn11_9 : NN11 9 = 0 := by decide
theorem nn11_10 : NN11 10 = 1 := by decide
theorem nn11_11 : NN11 11 = 1 := by decide
theorem nn11_12 : NN11 12 = 0 := by decide
theorem nn11_13 : NN11 13 = 1 := by decide
theorem nn12_0 : NN12 0 = 1 := by decide
theorem nn12_1 : NN12 1 = 5 := by decide
theorem nn12_2 : NN12 2 = 1 := by decide
theorem nn12_3 : NN12 3 = 1 := by decide
theorem nn12_4 : NN12 4 = 0 := by decide
theorem nn12_5 : NN12 5 = 1 := by decide
theorem nn12_6 : NN12 6 = 0 := by decide
theorem nn12_7 : NN12 7 = 1 := by decide
theorem nn12_8 : NN12 8 = 0 := by decide
theorem nn12_9 : NN12 9 = 0 := by decide
theorem nn12_10 : NN12 10 = 1 := by decide
theorem nn12_11 : NN12 11 = 1 := by decide
theorem nn12_12 : NN12 12 = 0 := by decide
theorem nn12_13 : NN12 13 = 1 := by decide
theorem nn13_0 : NN13 0 = 1 := by decide
theorem nn13_1 : NN13 1 = 5 := by decide
theorem nn13_2 : NN13 2 = 1 := by decide
theorem nn13_3 : NN13 3 = 2 := by decide
theorem nn13_4 : NN13 4 = 0 := by decide
theorem nn13_5 : NN13 5 = 1 := by decide
theorem nn13_6 : NN13 6 = 0 := by decide
theorem nn13_7 : NN13 7 = 1 := by decide
theorem nn13_8 : NN13 8 = 0 := by decide
theorem nn13_9 : NN13 9 = 0 := by decide
theorem nn13_10 : NN13 10 = 1 := by decide
theorem nn13_11 : NN13 11 = 1 := by decide
theorem nn13_12 : NN13 12 = 0 := by decide
theorem nn13_13 : NN13 13 = 1 := by decide
theorem nn14_0 : NN14 0 = 1 := by decide
theorem nn14_1 : NN14 1 = 5 := by decide
theorem nn14_2 : NN14 2 = 1 := by decide
theorem nn14_3 : NN14 3 = 3 := by decide
theorem nn14_4 : NN14 4 = 0 := by decide
theorem nn14_5 : NN14 5 = 1 := by decide
theorem nn14_6 : NN14 6 = 0 := by decide
theorem nn14_7 : NN14 7 = 1 := by decide
theorem nn14_8 : NN14 8 = 0 := by decide
theorem nn14_9 : NN14 9 = 0 := by decide
theorem nn14_10 : NN14 10 = 1 := by decide
theorem nn14_11 : NN14 11 = 1 := by decide
theorem nn14_12 : NN14 12 = 0 := by decide
theorem nn14_13 : NN14 13 = 1 := by decide
theorem nn15_0 : NN15 0 = 1 := by decide
theorem nn15_1 : NN15 1 = 5 := by decide
theorem nn15_2 : NN15 2 = 1 := by decide
theorem nn15_3 : NN15 3 = 4 := by decide
theorem nn15_4 : NN15 4 = 0 := by decide
theorem nn15_5 : NN15 5 = 1 := by decide
theorem nn15_6 : NN15 6 = 0 := by decide
theorem nn15_7 : NN15 7 = 1 := by decide
theorem nn15_8 : NN15 8 = 0 := by decide
theorem nn15_9 : NN15 9 = 0 := by decide
theorem nn15_10 : NN15 10 = 1 := by decide
theorem nn15_11 : NN15 11 = 1 := by decide
theorem nn15_12 : NN15 12 = 0 := by decide
theorem nn15_13 : NN15 13 = 1 := by decide
theorem nn16_0 : NN16 0 = 1 := by decide
theorem nn16_1 : NN16 1 = 5 := by decide
theorem nn16_2 : NN16 2 = 1 := by decide
theorem nn16_3 : NN16 3 = 5 := by decide
theorem nn16_4 : NN16 4 = 0 := by decide
theorem nn16_5 : NN16 5 = 1 := by decide
theorem nn16_6 : NN16 6 = 0 := by decide
theorem nn16_7 : NN16 7 = 1 := by decide
theorem nn16_8 : NN16 8 = 0 := by decide
theorem nn16_9 : NN16 9 = 0 := by decide
theorem nn16_10 : NN16 10 = 1 := by decide
theorem nn16_11 : NN16 11 = 1 := by decide
theorem nn16_12 : NN16 12 = 0 := by decide
theorem nn16_13 : NN16 13 = 1 := by decide
theorem nn17_0 : NN17 0 = 1 := by decide
theorem nn17_1 : NN17 1 = 5 := by decide
theorem nn17_2 : NN17 2 = 1 := by decide
theorem nn17_3 : NN17 3 = 6 := by decide
theorem nn17_4 : NN17 4 = 0 := by decide
theorem nn17_5 : NN17 5 = 1 := by decide
theorem nn17_6 : NN17 6 = 0 := by decide
theorem nn17_7 : NN17 7 = 1 := by decide
theorem nn17_8 : NN17 8 = 0 := by decide
theorem nn17_9 : NN17 9 = 0 := by decide
theorem nn17_10 : NN17 10 = 1 := by decide
theorem nn17_11 : NN17 11 = 1 := by decide
theorem nn17_12 : NN17 12 = 0 := by decide
theorem nn17_13 : NN17 13 = 1 := by decide
theorem nn18_0 : NN18 0 = 1 := by decide
theorem nn18_1 : NN18 1 = 5 := by decide
theorem nn18_2 : NN18 2 = 1 := by decide
theorem nn18_3 : NN18 3 = 6 := by decide
theorem nn18_4 : NN18 4 = 0 := by decide
theorem nn18_5 : NN18 5 = 1 := by decide
theorem nn18_6 : NN18 6 = 1 := by decide
theorem nn18_7 : NN18 7 = 1 := by decide
theorem nn18_8 : NN18 8 = 0 := by decide
theorem nn18_9 : NN18 9 = 0 := by decide
theorem nn18_10 : NN18 10 = 1 := by decide
theorem nn18_11 : NN18 11 = 1 := by decide
theorem nn18_12 : NN18 12 = 0 := by decide
theorem nn18_13 : NN18 13 = 1 := by decide
theorem nn19_0 : NN19 0 = 1 := by decide
theorem nn19_1 : NN19 1 = 5 := by decide
theorem nn19_2 : NN19 2 = 1 := by decide
theorem nn19_3 : NN19 3 = 6 := by decide
theorem nn19_4 : NN19 4 = 0 := by decide
theorem nn19_5 : NN19 5 = 1 := by decide
theorem nn19_6 : NN19 6 = 2 := by decide
theorem nn19_7 : NN19 7 = 1 := by decide
theorem nn19_8 : NN19 8 = 0 := by decide
theorem nn19_9 : NN19 9 = 0 := by decide
theorem nn19_10 : NN19 10 = 1 := by decide
theorem nn19_11 : NN19 11 = 1 := by decide
theorem nn19_12 : NN19 12 = 0 := by decide
theorem nn19_13 : NN19 13 = 1 := by decide
theorem nn20_0 : NN20 0 = 1 := by decide
theorem nn20_1 : NN20 1 = 5 := by decide
theorem nn20_2 : NN20 2 = 1 := by decide
theorem nn20_3 : NN20 3 = 6 := by decide
theorem nn20_4 : NN20 4 = 0 := by decide
theorem nn20_5 : NN20 5 = 1 := by decide
theorem nn20_6 : NN20 6 = 3 := by decide
theorem nn20_7 : NN20 7 = 1 := by decide
theorem nn20_8 : NN20 8 = 0 := by decide
theorem nn20_9 : NN20 9 = 0 := by decide
theorem nn20_10 : NN20 10 = 1 := by decide
theorem nn20_11 : NN20 11 = 1 := by decide
theorem nn20_12 : NN20 12 = 0 := by decide
theorem nn20_13 : NN20 13 = 1 := by decide
theorem nn21_0 : NN21 0 = 1 := by decide
theorem nn21_1 : NN21 1 = 5 := by decide
theorem nn21_2 : NN21 2 = 1 := by decide
theorem nn21_3 : NN21 3 = 6 := by decide
theorem nn21_4 : NN21 4 = 0 := by decide
theorem nn21_5 : NN21 5 = 1 := by decide
theorem nn21_6 : NN21 6 = 4 := by decide
theorem nn21_7 : NN21 7 = 1 := by decide
theorem nn21_8 : NN21 8 = 0 := by decide
theorem nn21_9 : NN21 9 = 0 := by decide
theorem nn21_10 : NN21 10 = 1 := by decide
theorem nn21_11 : NN21 11 = 1 := by decide
theorem nn21_12 : NN21 12 = 0 := by decide
theorem nn21_13 : NN21 13 = 1 := by decide
theorem nn22_0 : NN22 0 = 1 := by decide
theorem nn22_1 : NN22 1 = 5 := by decide
theorem nn22_2 : NN22 2 = 1 := by decide
theorem nn22_3 : NN22 3 = 6 := by decide
theorem nn22_4 : NN22 4 = 0 := by decide
theorem nn22_5 : NN22 5 = 1 := by decide
theorem nn22_6 : NN22 6 = 4 := by decide
theorem nn22_7 : NN22 7 = 1 := by decide
theorem nn22_8 : NN22 8 = 0 := by decide
theorem nn22_9 : NN22 9 = 0 := by decide
theorem nn22_10 : NN22 10 = 1 := by decide
theorem nn22_11 : NN22 11 = 1 := by decide
theorem nn22_12 : NN22 12 = 1 := by decide
theorem nn22_13 : NN22 13 = 1 := by decide
def LV0 : Nat → Nat → Nat → Option Nat := fun _ _ _ => none
theorem LZ0 {h w L : Nat} {xs : Nat → Int32} : ∀ a b d : Nat, a < 13 → gL (Z0 h w L xs) a b d = LV0 a b d := fun a b d ha => by
  show (if a = 13 ∧ b = 0 ∧ d = 0 then some L else none) = none
  rw [if_neg (fun z => by omega)]
def LV1 : Nat → Nat → Nat → Option Nat := fun a b d => if a = 11 ∧ d = 0 then none else LV0 a b d
theorem LZ1 {h w L : Nat} {xs : Nat → Int32} : ∀ a b d : Nat, a < 13 → gL (Z1 h w L xs) a b d = LV1 a b d := fun a b d ha => by
  unfold Z1 LV1
  rw [LOp, NZ0, nn0_11, LZ0 a b d ha]
def LV2 : Nat → Nat → Nat → Option Nat := fun a b d => if a = 7 ∧ d = 0 then none else LV1 a b d
theorem LZ2 {h w L : Nat} {xs : Nat → Int32} : ∀ a b d : Nat, a < 13 → gL (Z2 h w L xs) a b d = LV2 a b d := fun a b d ha => by
  unfold Z2 LV2
  rw [LOp, NZ1, nn1_7, LZ1 a b d ha]
def LV3 : Nat → Nat → Nat → Option Nat := fun a b d => if a = 7 ∧ b = 0 ∧ d = 0 then some 120 else LV2 a b d
theorem LZ3 {h w L : Nat} {xs : Nat → Int32} : ∀ a b d : Nat, a < 13 → gL (Z3 h w L xs) a b d = LV3 a b d := fun a b d ha => by
  unfold Z3 LV3
  rw [LWp, LZ2 a b d ha]
theorem LZ4 {h w L : Nat} {xs : Nat → Int32} : ∀ a b d : Nat, a < 13 → gL (Z4 h w L xs) a b d = LV3 a b d := fun a b d ha => by
  unfold Z4
  rw [LI]; exact LZ3 a b d ha
theorem LZ5 {h w L : Nat} {xs : Nat → Int32} : ∀ a b d : Nat, a < 13 → gL (Z5 h w L xs) a b d = LV3 a b d := fun a b d ha => by
  unfold Z5
  rw [LI]; exact LZ4 a b d ha
theorem LZ6 {h w L : Nat} {xs : Nat → Int32} : ∀ a b d : Nat, a < 13 → gL (Z6 h w L xs) a b d = LV3 a b d := fun a b d ha => by
  unfold Z6
  rw [LR]; exact LZ5 a b d ha
def LV4 : Nat → Nat → Nat → Option Nat := fun a b d => if a = 11 ∧ b = 1 ∧ d = 0 then some 24 else LV3 a b d
theorem LZ7 {h w L : Nat} {xs : Nat → Int32} : ∀ a b d : Nat, a < 13 → gL (Z7 h w L xs) a b d = LV4 a b d := fun a b d ha => by
  unfold Z7 LV4
  rw [LWp, LZ6 a b d ha]
def LV5 : Nat → Nat → Nat → Option Nat := fun a b d => if a = 11 ∧ b = 2 ∧ d = 0 then some 4 else LV4 a b d
theorem LZ8 {h w L : Nat} {xs : Nat → Int32} : ∀ a b d : Nat, a < 13 → gL (Z8 h w L xs) a b d = LV5 a b d := fun a b d ha => by
  unfold Z8 LV5
  rw [LWp, LZ7 a b d ha]
def LV6 : Nat → Nat → Nat → Option Nat := fun a b d => if a = 11 ∧ b = 3 ∧ d = 0 then some 4 else LV5 a b d
theorem LZ9 {h w L : Nat} {xs : Nat → Int32} : ∀ a b d : Nat, a < 13 → gL (Z9 h w L xs) a b d = LV6 a b d := fun a b d ha => by
  unfold Z9 LV6
  rw [LWp, LZ8 a b d ha]
def LV7 : Nat → Nat → Nat → Option Nat := fun a b d => if a = 0 ∧ d = 0 then none else LV6 a b d
theorem LZ10 {h w L : Nat} {xs : Nat → Int32} : ∀ a b d : Nat, a < 13 → gL (Z10 h w L xs) a b d = LV7 a b d := fun a b d ha => by
  unfold Z10 LV7
  rw [LOp, NZ9, nn2_0, LZ9 a b d ha]
theorem LZ11 {h w L : Nat} {xs : Nat → Int32} : ∀ a b d : Nat, a < 13 → gL (Z11 h w L xs) a b d = LV7 a b d := fun a b d ha => by
  unfold Z11
  rw [LI]; exact LZ10 a b d ha
theorem LZ12 {h w L : Nat} {xs : Nat → Int32} : ∀ a b d : Nat, a < 13 → gL (Z12 h w L xs) a b d = LV7 a b d := fun a b d ha => by
  unfold Z12
  rw [LI]; exact LZ11 a b d ha
def LV8 : Nat → Nat → Nat → Option Nat := fun a b d => if a = 0 ∧ b = 2 ∧ d = 0 then some 8 else LV7 a b d
theorem LZ13 {h w L : Nat} {xs : Nat → Int32} : ∀ a b d : Nat, a < 13 → gL (Z13 h w L xs) a b d = LV8 a b d := fun a b d ha => by
  unfold Z13 LV8
  rw [LWp, LZ12 a b d ha]
def LV9 : Nat → Nat → Nat → Option Nat := fun a b d => if a = 0 ∧ b = 3 ∧ d = 0 then some 8 else LV8 a b d
theorem LZ14 {h w L : Nat} {xs : Nat → Int32} : ∀ a b d : Nat, a < 13 → gL (Z14 h w L xs) a b d = LV9 a b d := fun a b d ha => by
  unfold Z14 LV9
  rw [LWp, LZ13 a b d ha]
def LV10 : Nat → Nat → Nat → Option Nat := fun a b d => if a = 0 ∧ b = 4 ∧ d = 0 then some 8 else LV9 a b d
theorem LZ15 {h w L : Nat} {xs : Nat → Int32} : ∀ a b d : Nat, a < 13 → gL (Z15 h w L xs) a b d = LV10 a b d := fun a b d ha => by
  unfold Z15 LV10
  rw [LWp, LZ14 a b d ha]
def LV11 : Nat → Nat → Nat → Option Nat := fun a b d => if a = 0 ∧ b = 5 ∧ d = 0 then some 8 else LV10 a b d
theorem LZ16 {h w L : Nat} {xs : Nat → Int32} : ∀ a b d : Nat, a < 13 → gL (Z16 h w L xs) a b d = LV11 a b d := fun a b d ha => by
  unfold Z16 LV11
  rw [LWp, LZ15 a b d ha]
def LV12 : Nat → Nat → Nat → Option Nat := fun a b d => if a = 0 ∧ b = 6 ∧ d = 0 then some 8 else LV11 a b d
theorem LZ17 {h w L : Nat} {xs : Nat → Int32} : ∀ a b d : Nat, a < 13 → gL (Z17 h w L xs) a b d = LV12 a b d := fun a b d ha => by
  unfold Z17 LV12
  rw [LWp, LZ16 a b d ha]
def LV13 : Nat → Nat → Nat → Option Nat := fun a b d => if a = 0 ∧ b = 7 ∧ d = 0 then some 120 else LV12 a b d
theorem LZ18 {h w L : Nat} {xs : Nat → Int32} : ∀ a b d : Nat, a < 13 → gL (Z18 h w L xs) a b d = LV13 a b d := fun a b d ha => by
  unfold Z18 LV13
  rw [LWp, LZ17 a b d ha]
theorem LZ19 {h w L : Nat} {xs : Nat → Int32} : ∀ a b d : Nat, a < 13 → gL (Z19 h w L xs) a b d = LV13 a b d := fun a b d ha => by
  unfold Z19
  rw [LI]; exact LZ18 a b d ha
theorem LZ20 {h w L : Nat} {xs : Nat → Int32} : ∀ a b d : Nat, a < 13 → gL (Z20 h w L xs) a b d = LV13 a b d := fun a b d ha => by
  unfold Z20
  rw [LR]; exact LZ19 a b d ha
def LV14 : Nat → Nat → Nat → Option Nat := fun a b d => if a = 1 ∧ d = 0 then none else LV13 a b d
theorem LZ21 {h w L : Nat} {xs : Nat → Int32} : ∀ a b d : Nat, a < 13 → gL (Z21 h w L xs) a b d = LV14 a b d := fun a b d ha => by
  unfold Z21 LV14
  rw [LOp, NZ20, nn3_1, LZ20 a b d ha]
theorem LZ22 {h w L : Nat} {xs : Nat → Int32} : ∀ a b d : Nat, a < 13 → gL (Z22 h w L xs) a b d = LV14 a b d := fun a b d ha => by
  unfold Z22
  rw [LI]; exact LZ21 a b d ha
def LV15 : Nat → Nat → Nat → Option Nat := fun a b d => if a = 1 ∧ b = 1 ∧ d = 0 then some 6 else LV14 a b d
theorem LZ23 {h w L : Nat} {xs : Nat → Int32} : ∀ a b d : Nat, a < 13 → gL (Z23 h w L xs) a b d = LV15 a b d := fun a b d ha => by
  unfold Z23 LV15
  rw [LWp, LZ22 a b d ha]
def LV16 : Nat → Nat → Nat → Option Nat := fun a b d => if a = 1 ∧ b = 2 ∧ d = 0 then some 6 else LV15 a b d
theorem LZ24 {h w L : Nat} {xs : Nat → Int32} : ∀ a b d : Nat, a < 13 → gL (Z24 h w L xs) a b d = LV16 a b d := fun a b d ha => by
  unfold Z24 LV16
  rw [LWp, LZ23 a b d ha]
def LV17 : Nat → Nat → Nat → Option Nat := fun a b d => if a = 1 ∧ b = 3 ∧ d = 0 then some 6 else LV16 a b d
theorem LZ25 {h w L : Nat} {xs : Nat → Int32} : ∀ a b d : Nat, a < 13 → gL (Z25 h w L xs) a b d = LV17 a b d := fun a b d ha => by
  unfold Z25 LV17
  rw [LWp, LZ24 a b d ha]
theorem LZ26 {h w L : Nat} {xs : Nat → Int32} : ∀ a b d : Nat, a < 13 → gL (Z26 h w L xs) a b d = LV17 a b d := fun a b d ha => by
  unfold Z26
  rw [LR]; exact LZ25 a b d ha
def LV18 : Nat → Nat → Nat → Option Nat := fun a b d => if a = 11 ∧ b = 6 ∧ d = 0 then some 12 else LV17 a b d
theorem LZ27 {h w L : Nat} {xs : Nat → Int32} : ∀ a b d : Nat, a < 13 → gL (Z27 h w L xs) a b d = LV18 a b d := fun a b d ha => by
  unfold Z27 LV18
  rw [LWp, LZ26 a b d ha]
theorem LZ28 {h w L : Nat} {xs : Nat → Int32} : ∀ a b d : Nat, a < 13 → gL (Z28 h w L xs) a b d = LV18 a b d := fun a b d ha => by
  unfold Z28
  rw [LI]; exact LZ27 a b d ha
def LV19 : Nat → Nat → Nat → Option Nat := fun a b d => if a = 11 ∧ b = 8 ∧ d = 0 then some 6 else LV18 a b d
theorem LZ29 {h w L : Nat} {xs : Nat → Int32} : ∀ a b d : Nat, a < 13 → gL (Z29 h w L xs) a b d = LV19 a b d := fun a b d ha => by
  unfold Z29 LV19
  rw [LWp, LZ28 a b d ha]
theorem LZ30 {h w L : Nat} {xs : Nat → Int32} : ∀ a b d : Nat, a < 13 → gL (Z30 h w L xs) a b d = LV19 a b d := fun a b d ha => by
  unfold Z30
  rw [LI]; exact LZ29 a b d ha
def LV20 : Nat → Nat → Nat → Option Nat := fun a b d => if a = 11 ∧ b = 10 ∧ d = 0 then some 80 else LV19 a b d
theorem LZ31 {h w L : Nat} {xs : Nat → Int32} : ∀ a b d : Nat, a < 13 → gL (Z31 h w L xs) a b d = LV20 a b d := fun a b d ha => by
  unfold Z31 LV20
  rw [LWp, LZ30 a b d ha]
theorem LZ32 {h w L : Nat} {xs : Nat → Int32} : ∀ a b d : Nat, a < 13 → gL (Z32 h w L xs) a b d = LV20 a b d := fun a b d ha => by
  unfold Z32
  rw [LI]; exact LZ31 a b d ha
def LV21 : Nat → Nat → Nat → Option Nat := fun a b d => if a = 11 ∧ b = 12 ∧ d = 0 then some 6 else LV20 a b d
theorem LZ33 {h w L : Nat} {xs : Nat → Int32} : ∀ a b d : Nat, a < 13 → gL (Z33 h w L xs) a b d = LV21 a b d := fun a b d ha => by
  unfold Z33 LV21
  rw [LWp, LZ32 a b d ha]
def LV22 : Nat → Nat → Nat → Option Nat := fun a b d => if a = 2 ∧ d = 0 then none else LV21 a b d
theorem LZ34 {h w L : Nat} {xs : Nat → Int32} : ∀ a b d : Nat, a < 13 → gL (Z34 h w L xs) a b d = LV22 a b d := fun a b d ha => by
  unfold Z34 LV22
  rw [LOp, NZ33, nn4_2, LZ33 a b d ha]
def LV23 : Nat → Nat → Nat → Option Nat := fun a b d => if a = 2 ∧ b = 0 ∧ d = 0 then some 512 else LV22 a b d
theorem LZ35 {h w L : Nat} {xs : Nat → Int32} : ∀ a b d : Nat, a < 13 → gL (Z35 h w L xs) a b d = LV23 a b d := fun a b d ha => by
  unfold Z35 LV23
  rw [LWp, LZ34 a b d ha]
def LV24 : Nat → Nat → Nat → Option Nat := fun a b d => if a = 2 ∧ b = 1 ∧ d = 0 then some 512 else LV23 a b d
theorem LZ36 {h w L : Nat} {xs : Nat → Int32} : ∀ a b d : Nat, a < 13 → gL (Z36 h w L xs) a b d = LV24 a b d := fun a b d ha => by
  unfold Z36 LV24
  rw [LWp, LZ35 a b d ha]
def LV25 : Nat → Nat → Nat → Option Nat := fun a b d => if a = 2 ∧ b = 2 ∧ d = 0 then some 512 else LV24 a b d
theorem LZ37 {h w L : Nat} {xs : Nat → Int32} : ∀ a b d : Nat, a < 13 → gL (Z37 h w L xs) a b d = LV25 a b d := fun a b d ha => by
  unfold Z37 LV25
  rw [LWp, LZ36 a b d ha]
theorem LZ38 {h w L : Nat} {xs : Nat → Int32} : ∀ a b d : Nat, a < 13 → gL (Z38 h w L xs) a b d = LV25 a b d := fun a b d ha => by
  unfold Z38
  rw [LI]; exact LZ37 a b d ha
theorem LZ39 {h w L : Nat} {xs : Nat → Int32} : ∀ a b d : Nat, a < 13 → gL (Z39 h w L xs) a b d = LV25 a b d := fun a b d ha => by
  unfold Z39
  rw [LR]; exact LZ38 a b d ha
def LV26 : Nat → Nat → Nat → Option Nat := fun a b d => if a = 11 ∧ b = 14 ∧ d = 0 then some 800 else LV25 a b d
theorem LZ40 {h w L : Nat} {xs : Nat → Int32} : ∀ a b d : Nat, a < 13 → gL (Z40 h w L xs) a b d = LV26 a b d := fun a b d ha => by
  unfold Z40 LV26
  rw [LWp, LZ39 a b d ha]
theorem LZ41 {h w L : Nat} {xs : Nat → Int32} : ∀ a b d : Nat, a < 13 → gL (Z41 h w L xs) a b d = LV26 a b d := fun a b d ha => by
  unfold Z41
  rw [LI]; exact LZ40 a b d ha
def LV27 : Nat → Nat → Nat → Option Nat := fun a b d => if a = 11 ∧ b = 16 ∧ d = 0 then some 4 else LV26 a b d
theorem LZ42 {h w L : Nat} {xs : Nat → Int32} : ∀ a b d : Nat, a < 13 → gL (Z42 h w L xs) a b d = LV27 a b d := fun a b d ha => by
  unfold Z42 LV27
  rw [LWp, LZ41 a b d ha]
def LV28 : Nat → Nat → Nat → Option Nat := fun a b d => if a = 5 ∧ d = 0 then none else LV27 a b d
theorem LZ43 {h w L : Nat} {xs : Nat → Int32} : ∀ a b d : Nat, a < 13 → gL (Z43 h w L xs) a b d = LV28 a b d := fun a b d ha => by
  unfold Z43 LV28
  rw [LOp, NZ42, nn5_5, LZ42 a b d ha]
def LV29 : Nat → Nat → Nat → Option Nat := fun a b d => if a = 5 ∧ b = 0 ∧ d = 0 then some 6 else LV28 a b d
theorem LZ44 {h w L : Nat} {xs : Nat → Int32} : ∀ a b d : Nat, a < 13 → gL (Z44 h w L xs) a b d = LV29 a b d := fun a b d ha => by
  unfold Z44 LV29
  rw [LWp, LZ43 a b d ha]
def LV30 : Nat → Nat → Nat → Option Nat := fun a b d => if a = 5 ∧ b = 1 ∧ d = 0 then some 6 else LV29 a b d
theorem LZ45 {h w L : Nat} {xs : Nat → Int32} : ∀ a b d : Nat, a < 13 → gL (Z45 h w L xs) a b d = LV30 a b d := fun a b d ha => by
  unfold Z45 LV30
  rw [LWp, LZ44 a b d ha]
def LV31 : Nat → Nat → Nat → Option Nat := fun a b d => if a = 5 ∧ b = 2 ∧ d = 0 then some 6 else LV30 a b d
theorem LZ46 {h w L : Nat} {xs : Nat → Int32} : ∀ a b d : Nat, a < 13 → gL (Z46 h w L xs) a b d = LV31 a b d := fun a b d ha => by
  unfold Z46 LV31
  rw [LWp, LZ45 a b d ha]
def LV32 : Nat → Nat → Nat → Option Nat := fun a b d => if a = 5 ∧ b = 3 ∧ d = 0 then some 6 else LV31 a b d
theorem LZ47 {h w L : Nat} {xs : Nat → Int32} : ∀ a b d : Nat, a < 13 → gL (Z47 h w L xs) a b d = LV32 a b d := fun a b d ha => by
  unfold Z47 LV32
  rw [LWp, LZ46 a b d ha]
def LV33 : Nat → Nat → Nat → Option Nat := fun a b d => if a = 5 ∧ b = 4 ∧ d = 0 then some 7 else LV32 a b d
theorem LZ48 {h w L : Nat} {xs : Nat → Int32} : ∀ a b d : Nat, a < 13 → gL (Z48 h w L xs) a b d = LV33 a b d := fun a b d ha => by
  unfold Z48 LV33
  rw [LWp, LZ47 a b d ha]
def LV34 : Nat → Nat → Nat → Option Nat := fun a b d => if a = 5 ∧ b = 5 ∧ d = 0 then some 7 else LV33 a b d
theorem LZ49 {h w L : Nat} {xs : Nat → Int32} : ∀ a b d : Nat, a < 13 → gL (Z49 h w L xs) a b d = LV34 a b d := fun a b d ha => by
  unfold Z49 LV34
  rw [LWp, LZ48 a b d ha]
def LV35 : Nat → Nat → Nat → Option Nat := fun a b d => if a = 5 ∧ b = 6 ∧ d = 0 then some 6 else LV34 a b d
theorem LZ50 {h w L : Nat} {xs : Nat → Int32} : ∀ a b d : Nat, a < 13 → gL (Z50 h w L xs) a b d = LV35 a b d := fun a b d ha => by
  unfold Z50 LV35
  rw [LWp, LZ49 a b d ha]
def LV36 : Nat → Nat → Nat → Option Nat := fun a b d => if a = 5 ∧ b = 7 ∧ d = 0 then some 6 else LV35 a b d
theorem LZ51 {h w L : Nat} {xs : Nat → Int32} : ∀ a b d : Nat, a < 13 → gL (Z51 h w L xs) a b d = LV36 a b d := fun a b d ha => by
  unfold Z51 LV36
  rw [LWp, LZ50 a b d ha]
theorem LZ52 {h w L : Nat} {xs : Nat → Int32} : ∀ a b d : Nat, a < 13 → gL (Z52 h w L xs) a b d = LV36 a b d := fun a b d ha => by
  unfold Z52
  rw [LI]; exact LZ51 a b d ha
theorem LZ53 {h w L : Nat} {xs : Nat → Int32} : ∀ a b d : Nat, a < 13 → gL (Z53 h w L xs) a b d = LV36 a b d := fun a b d ha => by
  unfold Z53
  rw [LI]; exact LZ52 a b d ha
theorem LZ54 {h w L : Nat} {xs : Nat → Int32} : ∀ a b d : Nat, a < 13 → gL (Z54 h w L xs) a b d = LV36 a b d := fun a b d ha => by
  unfold Z54
  rw [LI]; exact LZ53 a b d ha
theorem LZ55 {h w L : Nat} {xs : Nat → Int32} : ∀ a b d : Nat, a < 13 → gL (Z55 h w L xs) a b d = LV36 a b d := fun a b d ha => by
  unfold Z55
  rw [LI]; exact LZ54 a b d ha
theorem LZ56 {h w L : Nat} {xs : Nat → Int32} : ∀ a b d : Nat, a < 13 → gL (Z56 h w L xs) a b d = LV36 a b d := fun a b d ha => by
  unfold Z56
  rw [LR]; exact LZ55 a b d ha
def LV37 : Nat → Nat → Nat → Option Nat := fun a b d => if a = 10 ∧ d = 0 then none else LV36 a b d
theorem LZ57 {h w L : Nat} {xs : Nat → Int32} : ∀ a b d : Nat, a < 13 → gL (Z57 h w L xs) a b d = LV37 a b d := fun a b d ha => by
  unfold Z57 LV37
  rw [LOp, NZ56, nn6_10, LZ56 a b d ha]
def LV38 : Nat → Nat → Nat → Option Nat := fun a b d => if a = 10 ∧ b = 0 ∧ d = 0 then some 256 else LV37 a b d
theorem LZ58 {h w L : Nat} {xs : Nat → Int32} : ∀ a b d : Nat, a < 13 → gL (Z58 h w L xs) a b d = LV38 a b d := fun a b d ha => by
  unfold Z58 LV38
  rw [LWp, LZ57 a b d ha]
def LV39 : Nat → Nat → Nat → Option Nat := fun a b d => if a = 10 ∧ b = 1 ∧ d = 0 then some 256 else LV38 a b d
theorem LZ59 {h w L : Nat} {xs : Nat → Int32} : ∀ a b d : Nat, a < 13 → gL (Z59 h w L xs) a b d = LV39 a b d := fun a b d ha => by
  unfold Z59 LV39
  rw [LWp, LZ58 a b d ha]
def LV40 : Nat → Nat → Nat → Option Nat := fun a b d => if a = 10 ∧ b = 2 ∧ d = 0 then some 8 else LV39 a b d
theorem LZ60 {h w L : Nat} {xs : Nat → Int32} : ∀ a b d : Nat, a < 13 → gL (Z60 h w L xs) a b d = LV40 a b d := fun a b d ha => by
  unfold Z60 LV40
  rw [LWp, LZ59 a b d ha]
theorem LZ61 {h w L : Nat} {xs : Nat → Int32} : ∀ a b d : Nat, a < 13 → gL (Z61 h w L xs) a b d = LV40 a b d := fun a b d ha => by
  unfold Z61
  rw [LR]; exact LZ60 a b d ha
def LV41 : Nat → Nat → Nat → Option Nat := fun a b d => if a = 11 ∧ b = 19 ∧ d = 0 then some 8 else LV40 a b d
theorem LZ62 {h w L : Nat} {xs : Nat → Int32} : ∀ a b d : Nat, a < 13 → gL (Z62 h w L xs) a b d = LV41 a b d := fun a b d ha => by
  unfold Z62 LV41
  rw [LWp, LZ61 a b d ha]
def LV42 : Nat → Nat → Nat → Option Nat := fun a b d => if a = 1 ∧ d = 1 then none else LV41 a b d
theorem LZ63 {h w L : Nat} {xs : Nat → Int32} : ∀ a b d : Nat, a < 13 → gL (Z63 h w L xs) a b d = LV42 a b d := fun a b d ha => by
  unfold Z63 LV42
  rw [LOp, NZ62, nn7_1, LZ62 a b d ha]
theorem LZ64 {h w L : Nat} {xs : Nat → Int32} : ∀ a b d : Nat, a < 13 → gL (Z64 h w L xs) a b d = LV42 a b d := fun a b d ha => by
  unfold Z64
  rw [LI]; exact LZ63 a b d ha
def LV43 : Nat → Nat → Nat → Option Nat := fun a b d => if a = 1 ∧ b = 1 ∧ d = 1 then some 6 else LV42 a b d
theorem LZ65 {h w L : Nat} {xs : Nat → Int32} : ∀ a b d : Nat, a < 13 → gL (Z65 h w L xs) a b d = LV43 a b d := fun a b d ha => by
  unfold Z65 LV43
  rw [LWp, LZ64 a b d ha]
def LV44 : Nat → Nat → Nat → Option Nat := fun a b d => if a = 1 ∧ b = 2 ∧ d = 1 then some 6 else LV43 a b d
theorem LZ66 {h w L : Nat} {xs : Nat → Int32} : ∀ a b d : Nat, a < 13 → gL (Z66 h w L xs) a b d = LV44 a b d := fun a b d ha => by
  unfold Z66 LV44
  rw [LWp, LZ65 a b d ha]
def LV45 : Nat → Nat → Nat → Option Nat := fun a b d => if a = 1 ∧ b = 3 ∧ d = 1 then some 6 else LV44 a b d
theorem LZ67 {h w L : Nat} {xs : Nat → Int32} : ∀ a b d : Nat, a < 13 → gL (Z67 h w L xs) a b d = LV45 a b d := fun a b d ha => by
  unfold Z67 LV45
  rw [LWp, LZ66 a b d ha]
theorem LZ68 {h w L : Nat} {xs : Nat → Int32} : ∀ a b d : Nat, a < 13 → gL (Z68 h w L xs) a b d = LV45 a b d := fun a b d ha => by
  unfold Z68
  rw [LQ]; exact LZ67 a b d ha
def LV46 : Nat → Nat → Nat → Option Nat := fun a b d => if a = 1 ∧ d = 2 then none else LV45 a b d
theorem LZ69 {h w L : Nat} {xs : Nat → Int32} : ∀ a b d : Nat, a < 13 → gL (Z69 h w L xs) a b d = LV46 a b d := fun a b d ha => by
  unfold Z69 LV46
  rw [LOp, NZ68, nn8_1, LZ68 a b d ha]
theorem LZ70 {h w L : Nat} {xs : Nat → Int32} : ∀ a b d : Nat, a < 13 → gL (Z70 h w L xs) a b d = LV46 a b d := fun a b d ha => by
  unfold Z70
  rw [LI]; exact LZ69 a b d ha
def LV47 : Nat → Nat → Nat → Option Nat := fun a b d => if a = 1 ∧ b = 1 ∧ d = 2 then some 6 else LV46 a b d
theorem LZ71 {h w L : Nat} {xs : Nat → Int32} : ∀ a b d : Nat, a < 13 → gL (Z71 h w L xs) a b d = LV47 a b d := fun a b d ha => by
  unfold Z71 LV47
  rw [LWp, LZ70 a b d ha]
def LV48 : Nat → Nat → Nat → Option Nat := fun a b d => if a = 1 ∧ b = 2 ∧ d = 2 then some 6 else LV47 a b d
theorem LZ72 {h w L : Nat} {xs : Nat → Int32} : ∀ a b d : Nat, a < 13 → gL (Z72 h w L xs) a b d = LV48 a b d := fun a b d ha => by
  unfold Z72 LV48
  rw [LWp, LZ71 a b d ha]
def LV49 : Nat → Nat → Nat → Option Nat := fun a b d => if a = 1 ∧ b = 3 ∧ d = 2 then some 6 else LV48 a b d
theorem LZ73 {h w L : Nat} {xs : Nat → Int32} : ∀ a b d : Nat, a < 13 → gL (Z73 h w L xs) a b d = LV49 a b d := fun a b d ha => by
  unfold Z73 LV49
  rw [LWp, LZ72 a b d ha]
theorem LZ74 {h w L : Nat} {xs : Nat → Int32} : ∀ a b d : Nat, a < 13 → gL (Z74 h w L xs) a b d = LV49 a b d := fun a b d ha => by
  unfold Z74
  rw [LQ]; exact LZ73 a b d ha
def LV50 : Nat → Nat → Nat → Option Nat := fun a b d => if a = 1 ∧ d = 3 then none else LV49 a b d
theorem LZ75 {h w L : Nat} {xs : Nat → Int32} : ∀ a b d : Nat, a < 13 → gL (Z75 h w L xs) a b d = LV50 a b d := fun a b d ha => by
  unfold Z75 LV50
  rw [LOp, NZ74, nn9_1, LZ74 a b d ha]
theorem LZ76 {h w L : Nat} {xs : Nat → Int32} : ∀ a b d : Nat, a < 13 → gL (Z76 h w L xs) a b d = LV50 a b d := fun a b d ha => by
  unfold Z76
  rw [LI]; exact LZ75 a b d ha
def LV51 : Nat → Nat → Nat → Option Nat := fun a b d => if a = 1 ∧ b = 1 ∧ d = 3 then some 6 else LV50 a b d
theorem LZ77 {h w L : Nat} {xs : Nat → Int32} : ∀ a b d : Nat, a < 13 → gL (Z77 h w L xs) a b d = LV51 a b d := fun a b d ha => by
  unfold Z77 LV51
  rw [LWp, LZ76 a b d ha]
def LV52 : Nat → Nat → Nat → Option Nat := fun a b d => if a = 1 ∧ b = 2 ∧ d = 3 then some 6 else LV51 a b d
theorem LZ78 {h w L : Nat} {xs : Nat → Int32} : ∀ a b d : Nat, a < 13 → gL (Z78 h w L xs) a b d = LV52 a b d := fun a b d ha => by
  unfold Z78 LV52
  rw [LWp, LZ77 a b d ha]
def LV53 : Nat → Nat → Nat → Option Nat := fun a b d => if a = 1 ∧ b = 3 ∧ d = 3 then some 6 else LV52 a b d
theorem LZ79 {h w L : Nat} {xs : Nat → Int32} : ∀ a b d : Nat, a < 13 → gL (Z79 h w L xs) a b d = LV53 a b d := fun a b d ha => by
  unfold Z79 LV53
  rw [LWp, LZ78 a b d ha]
theorem LZ80 {h w L : Nat} {xs : Nat → Int32} : ∀ a b d : Nat, a < 13 → gL (Z80 h w L xs) a b d = LV53 a b d := fun a b d ha => by
  unfold Z80
  rw [LQ]; exact LZ79 a b d ha
def LV54 : Nat → Nat → Nat → Option Nat := fun a b d => if a = 1 ∧ d = 4 then none else LV53 a b d
theorem LZ81 {h w L : Nat} {xs : Nat → Int32} : ∀ a b d : Nat, a < 13 → gL (Z81 h w L xs) a b d = LV54 a b d := fun a b d ha => by
  unfold Z81 LV54
  rw [LOp, NZ80, nn10_1, LZ80 a b d ha]
theorem LZ82 {h w L : Nat} {xs : Nat → Int32} : ∀ a b d : Nat, a < 13 → gL (Z82 h w L xs) a b d = LV54 a b d := fun a b d ha => by
  unfold Z82
  rw [LI]; exact LZ81 a b d ha
def LV55 : Nat → Nat → Nat → Option Nat := fun a b d => if a = 1 ∧ b = 1 ∧ d = 4 then some 6 else LV54 a b d
theorem LZ83 {h w L : Nat} {xs : Nat → Int32} : ∀ a b d : Nat, a < 13 → gL (Z83 h w L xs) a b d = LV55 a b d := fun a b d ha => by
  unfold Z83 LV55
  rw [LWp, LZ82 a b d ha]
def LV56 : Nat → Nat → Nat → Option Nat := fun a b d => if a = 1 ∧ b = 2 ∧ d = 4 then some 6 else LV55 a b d
theorem LZ84 {h w L : Nat} {xs : Nat → Int32} : ∀ a b d : Nat, a < 13 → gL (Z84 h w L xs) a b d = LV56 a b d := fun a b d ha => by
  unfold Z84 LV56
  rw [LWp, LZ83 a b d ha]
def LV57 : Nat → Nat → Nat → Option Nat := fun a b d => if a = 1 ∧ b = 3 ∧ d = 4 then some 6 else LV56 a b d
theorem LZ85 {h w L : Nat} {xs : Nat → Int32} : ∀ a b d : Nat, a < 13 → gL (Z85 h w L xs) a b d = LV57 a b d := fun a b d ha => by
  unfold Z85 LV57
  rw [LWp, LZ84 a b d ha]
theorem LZ86 {h w L : Nat} {xs : Nat → Int32} : ∀ a b d : Nat, a < 13 → gL (Z86 h w L xs) a b d = LV57 a b d := fun a b d ha => by
  unfold Z86
  rw [LQ]; exact LZ85 a b d ha
def LV58 : Nat → Nat → Nat → Option Nat := fun a b d => if a = 3 ∧ d = 0 then none else LV57 a b d
theorem LZ87 {h w L : Nat} {xs : Nat → Int32} : ∀ a b d : Nat, a < 13 → gL (Z87 h w L xs) a b d = LV58 a b d := fun a b d ha => by
  unfold Z87 LV58
  rw [LOp, NZ86, nn11_3, LZ86 a b d ha]
theorem LZ88 {h w L : Nat} {xs : Nat → Int32} : ∀ a b d : Nat, a < 13 → gL (Z88 h w L xs) a b d = LV58 a b d := fun a b d ha => by
  unfold Z88
  rw [LI]; exact LZ87 a b d ha
theorem LZ89 {h w L : Nat} {xs : Nat → Int32} : ∀ a b d : Nat, a < 13 → gL (Z89 h w L xs) a b d = LV58 a b d := fun a b d ha => by
  unfold Z89
  rw [LI]; exact LZ88 a b d ha
theorem LZ90 {h w L : Nat} {xs : Nat → Int32} : ∀ a b d : Nat, a < 13 → gL (Z90 h w L xs) a b d = LV58 a b d := fun a b d ha => by
  unfold Z90
  rw [LI]; exact LZ89 a b d ha
theorem LZ91 {h w L : Nat} {xs : Nat → Int32} : ∀ a b d : Nat, a < 13 → gL (Z91 h w L xs) a b d = LV58 a b d := fun a b d ha => by
  unfold Z91
  rw [LQ]; exact LZ90 a b d ha
def LV59 : Nat → Nat → Nat → Option Nat := fun a b d => if a = 3 ∧ d = 1 then none else LV58 a b d
theorem LZ92 {h w L : Nat} {xs : Nat → Int32} : ∀ a b d : Nat, a < 13 → gL (Z92 h w L xs) a b d = LV59 a b d := fun a b d ha => by
  unfold Z92 LV59
  rw [LOp, NZ91, nn12_3, LZ91 a b d ha]
theorem LZ93 {h w L : Nat} {xs : Nat → Int32} : ∀ a b d : Nat, a < 13 → gL (Z93 h w L xs) a b d = LV59 a b d := fun a b d ha => by
  unfold Z93
  rw [LI]; exact LZ92 a b d ha
theorem LZ94 {h w L : Nat} {xs : Nat → Int32} : ∀ a b d : Nat, a < 13 → gL (Z94 h w L xs) a b d = LV59 a b d := fun a b d ha => by
  unfold Z94
  rw [LI]; exact LZ93 a b d ha
theorem LZ95 {h w L : Nat} {xs : Nat → Int32} : ∀ a b d : Nat, a < 13 → gL (Z95 h w L xs) a b d = LV59 a b d := fun a b d ha => by
  unfold Z95
  rw [LI]; exact LZ94 a b d ha
theorem LZ96 {h w L : Nat} {xs : Nat → Int32} : ∀ a b d : Nat, a < 13 → gL (Z96 h w L xs) a b d = LV59 a b d := fun a b d ha => by
  unfold Z96
  rw [LQ]; exact LZ95 a b d ha
def LV60 : Nat → Nat → Nat → Option Nat := fun a b d => if a = 3 ∧ d = 2 then none else LV59 a b d
theorem LZ97 {h w L : Nat} {xs : Nat → Int32} : ∀ a b d : Nat, a < 13 → gL (Z97 h w L xs) a b d = LV60 a b d := fun a b d ha => by
  unfold Z97 LV60
  rw [LOp, NZ96, nn13_3, LZ96 a b d ha]
theorem LZ98 {h w L : Nat} {xs : Nat → Int32} : ∀ a b d : Nat, a < 13 → gL (Z98 h w L xs) a b d = LV60 a b d := fun a b d ha => by
  unfold Z98
  rw [LI]; exact LZ97 a b d ha
theorem LZ99 {h w L : Nat} {xs : Nat → Int32} : ∀ a b d : Nat, a < 13 → gL (Z99 h w L xs) a b d = LV60 a b d := fun a b d ha => by
  unfold Z99
  rw [LI]; exact LZ98 a b d ha
theorem LZ100 {h w L : Nat} {xs : Nat → Int32} : ∀ a b d : Nat, a < 13 → gL (Z100 h w L xs) a b d = LV60 a b d := fun a b d ha => by
  unfold Z100
  rw [LI]; exact LZ99 a b d ha
theorem LZ101 {h w L : Nat} {xs : Nat → Int32} : ∀ a b d : Nat, a < 13 → gL (Z101 h w L xs) a b d = LV60 a b d := fun a b d ha => by
  unfold Z101
  rw [LQ]; exact LZ100 a b d ha
def LV61 : Nat → Nat → Nat → Option Nat := fun a b d => if a = 3 ∧ d = 3 then none else LV60 a b d
theorem LZ102 {h w L : Nat} {xs : Nat → Int32} : ∀ a b d : Nat, a < 13 → gL (Z102 h w L xs) a b d = LV61 a b d := fun a b d ha => by
  unfold Z102 LV61
  rw [LOp, NZ101, nn14_3, LZ101 a b d ha]
theorem LZ103 {h w L : Nat} {xs : Nat → Int32} : ∀ a b d : Nat, a < 13 → gL (Z103 h w L xs) a b d = LV61 a b d := fun a b d ha => by
  unfold Z103
  rw [LI]; exact LZ102 a b d ha
theorem LZ104 {h w L : Nat} {xs : Nat → Int32} : ∀ a b d : Nat, a < 13 → gL (Z104 h w L xs) a b d = LV61 a b d := fun a b d ha => by
  unfold Z104
  rw [LI]; exact LZ103 a b d ha
theorem LZ105 {h w L : Nat} {xs : Nat → Int32} : ∀ a b d : Nat, a < 13 → gL (Z105 h w L xs) a b d = LV61 a b d := fun a b d ha => by
  unfold Z105
  rw [LI]; exact LZ104 a b d ha
theorem LZ106 {h w L : Nat} {xs : Nat → Int32} : ∀ a b d : Nat, a < 13 → gL (Z106 h w L xs) a b d = LV61 a b d := fun a b d ha => by
  unfold Z106
  rw [LQ]; exact LZ105 a b d ha
def LV62 : Nat → Nat → Nat → Option Nat := fun a b d => if a = 3 ∧ d = 4 then none else LV61 a b d
theorem LZ107 {h w L : Nat} {xs : Nat → Int32} : ∀ a b d : Nat, a < 13 → gL (Z107 h w L xs) a b d = LV62 a b d := fun a b d ha => by
  unfold Z107 LV62
  rw [LOp, NZ106, nn15_3, LZ106 a b d ha]
theorem LZ108 {h w L : Nat} {xs : Nat → Int32} : ∀ a b d : Nat, a < 13 → gL (Z108 h w L xs) a b d = LV62 a b d := fun a b d ha => by
  unfold Z108
  rw [LI]; exact LZ107 a b d ha
theorem LZ109 {h w L : Nat} {xs : Nat → Int32} : ∀ a b d : Nat, a < 13 → gL (Z109 h w L xs) a b d = LV62 a b d := fun a b d ha => by
  unfold Z109
  rw [LI]; exact LZ108 a b d ha
theorem LZ110 {h w L : Nat} {xs : Nat → Int32} : ∀ a b d : Nat, a < 13 → gL (Z110 h w L xs) a b d = LV62 a b d := fun a b d ha => by
  unfold Z110
  rw [LI]; exact LZ109 a b d ha
theorem LZ111 {h w L : Nat} {xs : Nat → Int32} : ∀ a b d : Nat, a < 13 → gL (Z111 h w L xs) a b d = LV62 a b d := fun a b d ha => by
  unfold Z111
  rw [LQ]; exact LZ110 a b d ha
def LV63 : Nat → Nat → Nat → Option Nat := fun a b d => if a = 3 ∧ d = 5 then none else LV62 a b d
theorem LZ112 {h w L : Nat} {xs : Nat → Int32} : ∀ a b d : Nat, a < 13 → gL (Z112 h w L xs) a b d = LV63 a b d := fun a b d ha => by
  unfold Z112 LV63
  rw [LOp, NZ111, nn16_3, LZ111 a b d ha]
theorem LZ113 {h w L : Nat} {xs : Nat → Int32} : ∀ a b d : Nat, a < 13 → gL (Z113 h w L xs) a b d = LV63 a b d := fun a b d ha => by
  unfold Z113
  rw [LI]; exact LZ112 a b d ha
theorem LZ114 {h w L : Nat} {xs : Nat → Int32} : ∀ a b d : Nat, a < 13 → gL (Z114 h w L xs) a b d = LV63 a b d := fun a b d ha => by
  unfold Z114
  rw [LI]; exact LZ113 a b d ha
theorem LZ115 {h w L : Nat} {xs : Nat → Int32} : ∀ a b d : Nat, a < 13 → gL (Z115 h w L xs) a b d = LV63 a b d := fun a b d ha => by
  unfold Z115
  rw [LI]; exact LZ114 a b d ha
theorem LZ116 {h w L : Nat} {xs : Nat → Int32} : ∀ a b d : Nat, a < 13 → gL (Z116 h w L xs) a b d = LV63 a b d := fun a b d ha => by
  unfold Z116
  rw [LQ]; exact LZ115 a b d ha
def LV64 : Nat → Nat → Nat → Option Nat := fun a b d => if a = 6 ∧ d = 0 then none else LV63 a b d
theorem LZ117 {h w L : Nat} {xs : Nat → Int32} : ∀ a b d : Nat, a < 13 → gL (Z117 h w L xs) a b d = LV64 a b d := fun a b d ha => by
  unfold Z117 LV64
  rw [LOp, NZ116, nn17_6, LZ116 a b d ha]
theorem LZ118 {h w L : Nat} {xs : Nat → Int32} : ∀ a b d : Nat, a < 13 → gL (Z118 h w L xs) a b d = LV64 a b d := fun a b d ha => by
  unfold Z118
  rw [LI]; exact LZ117 a b d ha
theorem LZ119 {h w L : Nat} {xs : Nat → Int32} : ∀ a b d : Nat, a < 13 → gL (Z119 h w L xs) a b d = LV64 a b d := fun a b d ha => by
  unfold Z119
  rw [LI]; exact LZ118 a b d ha
def LV65 : Nat → Nat → Nat → Option Nat := fun a b d => if a = 6 ∧ b = 2 ∧ d = 0 then some 30 else LV64 a b d
theorem LZ120 {h w L : Nat} {xs : Nat → Int32} : ∀ a b d : Nat, a < 13 → gL (Z120 h w L xs) a b d = LV65 a b d := fun a b d ha => by
  unfold Z120 LV65
  rw [LWp, LZ119 a b d ha]
theorem LZ121 {h w L : Nat} {xs : Nat → Int32} : ∀ a b d : Nat, a < 13 → gL (Z121 h w L xs) a b d = LV65 a b d := fun a b d ha => by
  unfold Z121
  rw [LQ]; exact LZ120 a b d ha
def LV66 : Nat → Nat → Nat → Option Nat := fun a b d => if a = 6 ∧ d = 1 then none else LV65 a b d
theorem LZ122 {h w L : Nat} {xs : Nat → Int32} : ∀ a b d : Nat, a < 13 → gL (Z122 h w L xs) a b d = LV66 a b d := fun a b d ha => by
  unfold Z122 LV66
  rw [LOp, NZ121, nn18_6, LZ121 a b d ha]
theorem LZ123 {h w L : Nat} {xs : Nat → Int32} : ∀ a b d : Nat, a < 13 → gL (Z123 h w L xs) a b d = LV66 a b d := fun a b d ha => by
  unfold Z123
  rw [LI]; exact LZ122 a b d ha
theorem LZ124 {h w L : Nat} {xs : Nat → Int32} : ∀ a b d : Nat, a < 13 → gL (Z124 h w L xs) a b d = LV66 a b d := fun a b d ha => by
  unfold Z124
  rw [LI]; exact LZ123 a b d ha
def LV67 : Nat → Nat → Nat → Option Nat := fun a b d => if a = 6 ∧ b = 2 ∧ d = 1 then some 30 else LV66 a b d
theorem LZ125 {h w L : Nat} {xs : Nat → Int32} : ∀ a b d : Nat, a < 13 → gL (Z125 h w L xs) a b d = LV67 a b d := fun a b d ha => by
  unfold Z125 LV67
  rw [LWp, LZ124 a b d ha]
theorem LZ126 {h w L : Nat} {xs : Nat → Int32} : ∀ a b d : Nat, a < 13 → gL (Z126 h w L xs) a b d = LV67 a b d := fun a b d ha => by
  unfold Z126
  rw [LQ]; exact LZ125 a b d ha
def LV68 : Nat → Nat → Nat → Option Nat := fun a b d => if a = 6 ∧ d = 2 then none else LV67 a b d
theorem LZ127 {h w L : Nat} {xs : Nat → Int32} : ∀ a b d : Nat, a < 13 → gL (Z127 h w L xs) a b d = LV68 a b d := fun a b d ha => by
  unfold Z127 LV68
  rw [LOp, NZ126, nn19_6, LZ126 a b d ha]
theorem LZ128 {h w L : Nat} {xs : Nat → Int32} : ∀ a b d : Nat, a < 13 → gL (Z128 h w L xs) a b d = LV68 a b d := fun a b d ha => by
  unfold Z128
  rw [LI]; exact LZ127 a b d ha
theorem LZ129 {h w L : Nat} {xs : Nat → Int32} : ∀ a b d : Nat, a < 13 → gL (Z129 h w L xs) a b d = LV68 a b d := fun a b d ha => by
  unfold Z129
  rw [LI]; exact LZ128 a b d ha
def LV69 : Nat → Nat → Nat → Option Nat := fun a b d => if a = 6 ∧ b = 2 ∧ d = 2 then some 30 else LV68 a b d
theorem LZ130 {h w L : Nat} {xs : Nat → Int32} : ∀ a b d : Nat, a < 13 → gL (Z130 h w L xs) a b d = LV69 a b d := fun a b d ha => by
  unfold Z130 LV69
  rw [LWp, LZ129 a b d ha]
theorem LZ131 {h w L : Nat} {xs : Nat → Int32} : ∀ a b d : Nat, a < 13 → gL (Z131 h w L xs) a b d = LV69 a b d := fun a b d ha => by
  unfold Z131
  rw [LQ]; exact LZ130 a b d ha
def LV70 : Nat → Nat → Nat → Option Nat := fun a b d => if a = 6 ∧ d = 3 then none else LV69 a b d
theorem LZ132 {h w L : Nat} {xs : Nat → Int32} : ∀ a b d : Nat, a < 13 → gL (Z132 h w L xs) a b d = LV70 a b d := fun a b d ha => by
  unfold Z132 LV70
  rw [LOp, NZ131, nn20_6, LZ131 a b d ha]
theorem LZ133 {h w L : Nat} {xs : Nat → Int32} : ∀ a b d : Nat, a < 13 → gL (Z133 h w L xs) a b d = LV70 a b d := fun a b d ha => by
  unfold Z133
  rw [LI]; exact LZ132 a b d ha
theorem LZ134 {h w L : Nat} {xs : Nat → Int32} : ∀ a b d : Nat, a < 13 → gL (Z134 h w L xs) a b d = LV70 a b d := fun a b d ha => by
  unfold Z134
  rw [LI]; exact LZ133 a b d ha
def LV71 : Nat → Nat → Nat → Option Nat := fun a b d => if a = 6 ∧ b = 2 ∧ d = 3 then some 30 else LV70 a b d
theorem LZ135 {h w L : Nat} {xs : Nat → Int32} : ∀ a b d : Nat, a < 13 → gL (Z135 h w L xs) a b d = LV71 a b d := fun a b d ha => by
  unfold Z135 LV71
  rw [LWp, LZ134 a b d ha]
theorem LZ136 {h w L : Nat} {xs : Nat → Int32} : ∀ a b d : Nat, a < 13 → gL (Z136 h w L xs) a b d = LV71 a b d := fun a b d ha => by
  unfold Z136
  rw [LQ]; exact LZ135 a b d ha
def LV72 : Nat → Nat → Nat → Option Nat := fun a b d => if a = 12 ∧ d = 0 then none else LV71 a b d
theorem LZ137 {h w L : Nat} {xs : Nat → Int32} : ∀ a b d : Nat, a < 13 → gL (Z137 h w L xs) a b d = LV72 a b d := fun a b d ha => by
  unfold Z137 LV72
  rw [LOp, NZ136, nn21_12, LZ136 a b d ha]
def LV73 : Nat → Nat → Nat → Option Nat := fun a b d => if a = 12 ∧ b = 0 ∧ d = 0 then some 120 else LV72 a b d
theorem LZ138 {h w L : Nat} {xs : Nat → Int32} : ∀ a b d : Nat, a < 13 → gL (Z138 h w L xs) a b d = LV73 a b d := fun a b d ha => by
  unfold Z138 LV73
  rw [LWp, LZ137 a b d ha]
def LV74 : Nat → Nat → Nat → Option Nat := fun a b d => if a = 12 ∧ b = 4 ∧ d = 0 then some 8 else LV73 a b d
theorem LZ139 {h w L : Nat} {xs : Nat → Int32} : ∀ a b d : Nat, a < 13 → gL (Z139 h w L xs) a b d = LV74 a b d := fun a b d ha => by
  unfold Z139 LV74
  rw [LWp, LZ138 a b d ha]
def LV75 : Nat → Nat → Nat → Option Nat := fun a b d => if a = 12 ∧ b = 5 ∧ d = 0 then some 8 else LV74 a b d
theorem LZ140 {h w L : Nat} {xs : Nat → Int32} : ∀ a b d : Nat, a < 13 → gL (Z140 h w L xs) a b d = LV75 a b d := fun a b d ha => by
  unfold Z140 LV75
  rw [LWp, LZ139 a b d ha]
def LV76 : Nat → Nat → Nat → Option Nat := fun a b d => if a = 12 ∧ b = 6 ∧ d = 0 then some 8 else LV75 a b d
theorem LZ141 {h w L : Nat} {xs : Nat → Int32} : ∀ a b d : Nat, a < 13 → gL (Z141 h w L xs) a b d = LV76 a b d := fun a b d ha => by
  unfold Z141 LV76
  rw [LWp, LZ140 a b d ha]
def LV77 : Nat → Nat → Nat → Option Nat := fun a b d => if a = 12 ∧ b = 7 ∧ d = 0 then some 8 else LV76 a b d
theorem LZ142 {h w L : Nat} {xs : Nat → Int32} : ∀ a b d : Nat, a < 13 → gL (Z142 h w L xs) a b d = LV77 a b d := fun a b d ha => by
  unfold Z142 LV77
  rw [LWp, LZ141 a b d ha]
def LV78 : Nat → Nat → Nat → Option Nat := fun a b d => if a = 12 ∧ b = 8 ∧ d = 0 then some 128 else LV77 a b d
theorem LZ143 {h w L : Nat} {xs : Nat → Int32} : ∀ a b d : Nat, a < 13 → gL (Z143 h w L xs) a b d = LV78 a b d := fun a b d ha => by
  unfold Z143 LV78
  rw [LWp, LZ142 a b d ha]
def LV79 : Nat → Nat → Nat → Option Nat := fun a b d => if a = 12 ∧ b = 13 ∧ d = 0 then some 128 else LV78 a b d
theorem LZ144 {h w L : Nat} {xs : Nat → Int32} : ∀ a b d : Nat, a < 13 → gL (Z144 h w L xs) a b d = LV79 a b d := fun a b d ha => by
  unfold Z144 LV79
  rw [LWp, LZ143 a b d ha]
def LV80 : Nat → Nat → Nat → Option Nat := fun a b d => if a = 12 ∧ b = 15 ∧ d = 0 then some 4 else LV79 a b d
theorem LZ145 {h w L : Nat} {xs : Nat → Int32} : ∀ a b d : Nat, a < 13 → gL (Z145 h w L xs) a b d = LV80 a b d := fun a b d ha => by
  unfold Z145 LV80
  rw [LWp, LZ144 a b d ha]
def LV81 : Nat → Nat → Nat → Option Nat := fun a b d => if a = 12 ∧ b = 16 ∧ d = 0 then some 24 else LV80 a b d
theorem LZ146 {h w L : Nat} {xs : Nat → Int32} : ∀ a b d : Nat, a < 13 → gL (Z146 h w L xs) a b d = LV81 a b d := fun a b d ha => by
  unfold Z146 LV81
  rw [LWp, LZ145 a b d ha]
def LV82 : Nat → Nat → Nat → Option Nat := fun a b d => if a = 12 ∧ b = 17 ∧ d = 0 then some 24 else LV81 a b d
theorem LZ147 {h w L : Nat} {xs : Nat → Int32} : ∀ a b d : Nat, a < 13 → gL (Z147 h w L xs) a b d = LV82 a b d := fun a b d ha => by
  unfold Z147 LV82
  rw [LWp, LZ146 a b d ha]
def LV83 : Nat → Nat → Nat → Option Nat := fun a b d => if a = 12 ∧ b = 18 ∧ d = 0 then some 192 else LV82 a b d
theorem LZ148 {h w L : Nat} {xs : Nat → Int32} : ∀ a b d : Nat, a < 13 → gL (Z148 h w L xs) a b d = LV83 a b d := fun a b d ha => by
  unfold Z148 LV83
  rw [LWp, LZ147 a b d ha]
def LV84 : Nat → Nat → Nat → Option Nat := fun a b d => if a = 12 ∧ b = 19 ∧ d = 0 then some 192 else LV83 a b d
theorem LZ149 {h w L : Nat} {xs : Nat → Int32} : ∀ a b d : Nat, a < 13 → gL (Z149 h w L xs) a b d = LV84 a b d := fun a b d ha => by
  unfold Z149 LV84
  rw [LWp, LZ148 a b d ha]
def LV85 : Nat → Nat → Nat → Option Nat := fun a b d => if a = 12 ∧ b = 20 ∧ d = 0 then some 192 else LV84 a b d
theorem LZ150 {h w L : Nat} {xs : Nat → Int32} : ∀ a b d : Nat, a < 13 → gL (Z150 h w L xs) a b d = LV85 a b d := fun a b d ha => by
  unfold Z150 LV85
  rw [LWp, LZ149 a b d ha]
def LV86 : Nat → Nat → Nat → Option Nat := fun a b d => if a = 12 ∧ b = 21 ∧ d = 0 then some 192 else LV85 a b d
theorem LZ151 {h w L : Nat} {xs : Nat → Int32} : ∀ a b d : Nat, a < 13 → gL (Z151 h w L xs) a b d = LV86 a b d := fun a b d ha => by
  unfold Z151 LV86
  rw [LWp, LZ150 a b d ha]
def LV87 : Nat → Nat → Nat → Option Nat := fun a b d => if a = 12 ∧ b = 22 ∧ d = 0 then some 3072 else LV86 a b d
theorem LZ152 {h w L : Nat} {xs : Nat → Int32} : ∀ a b d : Nat, a < 13 → gL (Z152 h w L xs) a b d = LV87 a b d := fun a b d ha => by
  unfold Z152 LV87
  rw [LWp, LZ151 a b d ha]
def LV88 : Nat → Nat → Nat → Option Nat := fun a b d => if a = 12 ∧ b = 24 ∧ d = 0 then some 12 else LV87 a b d
theorem LZ153 {h w L : Nat} {xs : Nat → Int32} : ∀ a b d : Nat, a < 13 → gL (Z153 h w L xs) a b d = LV88 a b d := fun a b d ha => by
  unfold Z153 LV88
  rw [LWp, LZ152 a b d ha]
def LV89 : Nat → Nat → Nat → Option Nat := fun a b d => if a = 12 ∧ b = 25 ∧ d = 0 then some 12 else LV88 a b d
theorem LZ154 {h w L : Nat} {xs : Nat → Int32} : ∀ a b d : Nat, a < 13 → gL (Z154 h w L xs) a b d = LV89 a b d := fun a b d ha => by
  unfold Z154 LV89
  rw [LWp, LZ153 a b d ha]
def LV90 : Nat → Nat → Nat → Option Nat := fun a b d => if a = 12 ∧ b = 26 ∧ d = 0 then some 12 else LV89 a b d
theorem LZ155 {h w L : Nat} {xs : Nat → Int32} : ∀ a b d : Nat, a < 13 → gL (Z155 h w L xs) a b d = LV90 a b d := fun a b d ha => by
  unfold Z155 LV90
  rw [LWp, LZ154 a b d ha]
def LV91 : Nat → Nat → Nat → Option Nat := fun a b d => if a = 12 ∧ b = 27 ∧ d = 0 then some 12 else LV90 a b d
theorem LZ156 {h w L : Nat} {xs : Nat → Int32} : ∀ a b d : Nat, a < 13 → gL (Z156 h w L xs) a b d = LV91 a b d := fun a b d ha => by
  unfold Z156 LV91
  rw [LWp, LZ155 a b d ha]
def LV92 : Nat → Nat → Nat → Option Nat := fun a b d => if a = 12 ∧ b = 28 ∧ d = 0 then some 12 else LV91 a b d
theorem LZ157 {h w L : Nat} {xs : Nat → Int32} : ∀ a b d : Nat, a < 13 → gL (Z157 h w L xs) a b d = LV92 a b d := fun a b d ha => by
  unfold Z157 LV92
  rw [LWp, LZ156 a b d ha]
def LV93 : Nat → Nat → Nat → Option Nat := fun a b d => if a = 12 ∧ b = 29 ∧ d = 0 then some 12 else LV92 a b d
theorem LZ158 {h w L : Nat} {xs : Nat → Int32} : ∀ a b d : Nat, a < 13 → gL (Z158 h w L xs) a b d = LV93 a b d := fun a b d ha => by
  unfold Z158 LV93
  rw [LWp, LZ157 a b d ha]
def LV94 : Nat → Nat → Nat → Option Nat := fun a b d => if a = 12 ∧ b = 30 ∧ d = 0 then some 48000 else LV93 a b d
theorem LZ159 {h w L : Nat} {xs : Nat → Int32} : ∀ a b d : Nat, a < 13 → gL (Z159 h w L xs) a b d = LV94 a b d := fun a b d ha => by
  unfold Z159 LV94
  rw [LWp, LZ158 a b d ha]
def LV95 : Nat → Nat → Nat → Option Nat := fun a b d => if a = 12 ∧ b = 31 ∧ d = 0 then some 40 else LV94 a b d
theorem LZ160 {h w L : Nat} {xs : Nat → Int32} : ∀ a b d : Nat, a < 13 → gL (Z160 h w L xs) a b d = LV95 a b d := fun a b d ha => by
  unfold Z160 LV95
  rw [LWp, LZ159 a b d ha]
def LV96 : Nat → Nat → Nat → Option Nat := fun a b d => if a = 12 ∧ b = 32 ∧ d = 0 then some 128 else LV95 a b d
theorem LZ161 {h w L : Nat} {xs : Nat → Int32} : ∀ a b d : Nat, a < 13 → gL (Z161 h w L xs) a b d = LV96 a b d := fun a b d ha => by
  unfold Z161 LV96
  rw [LWp, LZ160 a b d ha]
def LV97 : Nat → Nat → Nat → Option Nat := fun a b d => if a = 12 ∧ b = 33 ∧ d = 0 then some 256 else LV96 a b d
theorem LZ162 {h w L : Nat} {xs : Nat → Int32} : ∀ a b d : Nat, a < 13 → gL (Z162 h w L xs) a b d = LV97 a b d := fun a b d ha => by
  unfold Z162 LV97
  rw [LWp, LZ161 a b d ha]
def LV98 : Nat → Nat → Nat → Option Nat := fun a b d => if a = 12 ∧ b = 34 ∧ d = 0 then some 256 else LV97 a b d
theorem LZ163 {h w L : Nat} {xs : Nat → Int32} : ∀ a b d : Nat, a < 13 → gL (Z163 h w L xs) a b d = LV98 a b d := fun a b d ha => by
  unfold Z163 LV98
  rw [LWp, LZ162 a b d ha]
def LV99 : Nat → Nat → Nat → Option Nat := fun a b d => if a = 12 ∧ b = 35 ∧ d = 0 then some 6 else LV98 a b d
theorem LZ164 {h w L : Nat} {xs : Nat → Int32} : ∀ a b d : Nat, a < 13 → gL (Z164 h w L xs) a b d = LV99 a b d := fun a b d ha => by
  unfold Z164 LV99
  rw [LWp, LZ163 a b d ha]
def LV100 : Nat → Nat → Nat → Option Nat := fun a b d => if a = 12 ∧ b = 36 ∧ d = 0 then some 6 else LV99 a b d
theorem LZ165 {h w L : Nat} {xs : Nat → Int32} : ∀ a b d : Nat, a < 13 → gL (Z165 h w L xs) a b d = LV100 a b d := fun a b d ha => by
  unfold Z165 LV100
  rw [LWp, LZ164 a b d ha]
def LV101 : Nat → Nat → Nat → Option Nat := fun a b d => if a = 12 ∧ b = 37 ∧ d = 0 then some 6 else LV100 a b d
theorem LZ166 {h w L : Nat} {xs : Nat → Int32} : ∀ a b d : Nat, a < 13 → gL (Z166 h w L xs) a b d = LV101 a b d := fun a b d ha => by
  unfold Z166 LV101
  rw [LWp, LZ165 a b d ha]
def LV102 : Nat → Nat → Nat → Option Nat := fun a b d => if a = 12 ∧ b = 39 ∧ d = 0 then some 80 else LV101 a b d
theorem LZ167 {h w L : Nat} {xs : Nat → Int32} : ∀ a b d : Nat, a < 13 → gL (Z167 h w L xs) a b d = LV102 a b d := fun a b d ha => by
  unfold Z167 LV102
  rw [LWp, LZ166 a b d ha]
def LV103 : Nat → Nat → Nat → Option Nat := fun a b d => if a = 12 ∧ b = 40 ∧ d = 0 then some 80 else LV102 a b d
theorem LZ168 {h w L : Nat} {xs : Nat → Int32} : ∀ a b d : Nat, a < 13 → gL (Z168 h w L xs) a b d = LV103 a b d := fun a b d ha => by
  unfold Z168 LV103
  rw [LWp, LZ167 a b d ha]
def LV104 : Nat → Nat → Nat → Option Nat := fun a b d => if a = 12 ∧ b = 41 ∧ d = 0 then some 80 else LV103 a b d
theorem LZ169 {h w L : Nat} {xs : Nat → Int32} : ∀ a b d : Nat, a < 13 → gL (Z169 h w L xs) a b d = LV104 a b d := fun a b d ha => by
  unfold Z169 LV104
  rw [LWp, LZ168 a b d ha]
def LV105 : Nat → Nat → Nat → Option Nat := fun a b d => if a = 12 ∧ b = 42 ∧ d = 0 then some 80 else LV104 a b d
theorem LZ170 {h w L : Nat} {xs : Nat → Int32} : ∀ a b d : Nat, a < 13 → gL (Z170 h w L xs) a b d = LV105 a b d := fun a b d ha => by
  unfold Z170 LV105
  rw [LWp, LZ169 a b d ha]
def LV106 : Nat → Nat → Nat → Option Nat := fun a b d => if a = 12 ∧ b = 43 ∧ d = 0 then some 80 else LV105 a b d
theorem LZ171 {h w L : Nat} {xs : Nat → Int32} : ∀ a b d : Nat, a < 13 → gL (Z171 h w L xs) a b d = LV106 a b d := fun a b d ha => by
  unfold Z171 LV106
  rw [LWp, LZ170 a b d ha]
def LV107 : Nat → Nat → Nat → Option Nat := fun a b d => if a = 12 ∧ b = 44 ∧ d = 0 then some 80 else LV106 a b d
theorem LZ172 {h w L : Nat} {xs : Nat → Int32} : ∀ a b d : Nat, a < 13 → gL (Z172 h w L xs) a b d = LV107 a b d := fun a b d ha => by
  unfold Z172 LV107
  rw [LWp, LZ171 a b d ha]
def LV108 : Nat → Nat → Nat → Option Nat := fun a b d => if a = 12 ∧ b = 45 ∧ d = 0 then some 80 else LV107 a b d
theorem LZ173 {h w L : Nat} {xs : Nat → Int32} : ∀ a b d : Nat, a < 13 → gL (Z173 h w L xs) a b d = LV108 a b d := fun a b d ha => by
  unfold Z173 LV108
  rw [LWp, LZ172 a b d ha]
def LV109 : Nat → Nat → Nat → Option Nat := fun a b d => if a = 12 ∧ b = 46 ∧ d = 0 then some 80 else LV108 a b d
theorem LZ174 {h w L : Nat} {xs : Nat → Int32} : ∀ a b d : Nat, a < 13 → gL (Z174 h w L xs) a b d = LV109 a b d := fun a b d ha => by
  unfold Z174 LV109
  rw [LWp, LZ173 a b d ha]
def LV110 : Nat → Nat → Nat → Option Nat := fun a b d => if a = 12 ∧ b = 47 ∧ d = 0 then some 80 else LV109 a b d
theorem LZ175 {h w L : Nat} {xs : Nat → Int32} : ∀ a b d : Nat, a < 13 → gL (Z175 h w L xs) a b d = LV110 a b d := fun a b d ha => by
  unfold Z175 LV110
  rw [LWp, LZ174 a b d ha]
def LV111 : Nat → Nat → Nat → Option Nat := fun a b d => if a = 12 ∧ b = 48 ∧ d = 0 then some 80 else LV110 a b d
theorem LZ176 {h w L : Nat} {xs : Nat → Int32} : ∀ a b d : Nat, a < 13 → gL (Z176 h w L xs) a b d = LV111 a b d := fun a b d ha => by
  unfold Z176 LV111
  rw [LWp, LZ175 a b d ha]
def LV112 : Nat → Nat → Nat → Option Nat := fun a b d => if a = 12 ∧ b = 49 ∧ d = 0 then some 80 else LV111 a b d
theorem LZ177 {h w L : Nat} {xs : Nat → Int32} : ∀ a b d : Nat, a < 13 → gL (Z177 h w L xs) a b d = LV112 a b d := fun a b d ha => by
  unfold Z177 LV112
  rw [LWp, LZ176 a b d ha]
def LV113 : Nat → Nat → Nat → Option Nat := fun a b d => if a = 12 ∧ b = 50 ∧ d = 0 then some 80 else LV112 a b d
theorem LZ178 {h w L : Nat} {xs : Nat → Int32} : ∀ a b d : Nat, a < 13 → gL (Z178 h w L xs) a b d = LV113 a b d := fun a b d ha => by
  unfold Z178 LV113
  rw [LWp, LZ177 a b d ha]
def LV114 : Nat → Nat → Nat → Option Nat := fun a b d => if a = 12 ∧ b = 51 ∧ d = 0 then some 80 else LV113 a b d
theorem LZ179 {h w L : Nat} {xs : Nat → Int32} : ∀ a b d : Nat, a < 13 → gL (Z179 h w L xs) a b d = LV114 a b d := fun a b d ha => by
  unfold Z179 LV114
  rw [LWp, LZ178 a b d ha]
def LV115 : Nat → Nat → Nat → Option Nat := fun a b d => if a = 12 ∧ b = 52 ∧ d = 0 then some 80 else LV114 a b d
theorem LZ180 {h w L : Nat} {xs : Nat → Int32} : ∀ a b d : Nat, a < 13 → gL (Z180 h w L xs) a b d = LV115 a b d := fun a b d ha => by
  unfold Z180 LV115
  rw [LWp, LZ179 a b d ha]
def LV116 : Nat → Nat → Nat → Option Nat := fun a b d => if a = 12 ∧ b = 53 ∧ d = 0 then some 1600 else LV115 a b d
theorem LZ181 {h w L : Nat} {xs : Nat → Int32} : ∀ a b d : Nat, a < 13 → gL (Z181 h w L xs) a b d = LV116 a b d := fun a b d ha => by
  unfold Z181 LV116
  rw [LWp, LZ180 a b d ha]
def LV117 : Nat → Nat → Nat → Option Nat := fun a b d => if a = 12 ∧ b = 55 ∧ d = 0 then some 6 else LV116 a b d
theorem LZ182 {h w L : Nat} {xs : Nat → Int32} : ∀ a b d : Nat, a < 13 → gL (Z182 h w L xs) a b d = LV117 a b d := fun a b d ha => by
  unfold Z182 LV117
  rw [LWp, LZ181 a b d ha]
def LV118 : Nat → Nat → Nat → Option Nat := fun a b d => if a = 12 ∧ b = 56 ∧ d = 0 then some 6 else LV117 a b d
theorem LZ183 {h w L : Nat} {xs : Nat → Int32} : ∀ a b d : Nat, a < 13 → gL (Z183 h w L xs) a b d = LV118 a b d := fun a b d ha => by
  unfold Z183 LV118
  rw [LWp, LZ182 a b d ha]
def LV119 : Nat → Nat → Nat → Option Nat := fun a b d => if a = 12 ∧ b = 57 ∧ d = 0 then some 6 else LV118 a b d
theorem LZ184 {h w L : Nat} {xs : Nat → Int32} : ∀ a b d : Nat, a < 13 → gL (Z184 h w L xs) a b d = LV119 a b d := fun a b d ha => by
  unfold Z184 LV119
  rw [LWp, LZ183 a b d ha]
def LV120 : Nat → Nat → Nat → Option Nat := fun a b d => if a = 12 ∧ b = 58 ∧ d = 0 then some 6 else LV119 a b d
theorem LZ185 {h w L : Nat} {xs : Nat → Int32} : ∀ a b d : Nat, a < 13 → gL (Z185 h w L xs) a b d = LV120 a b d := fun a b d ha => by
  unfold Z185 LV120
  rw [LWp, LZ184 a b d ha]
def LV121 : Nat → Nat → Nat → Option Nat := fun a b d => if a = 12 ∧ b = 60 ∧ d = 0 then some 6 else LV120 a b d
theorem LZ186 {h w L : Nat} {xs : Nat → Int32} : ∀ a b d : Nat, a < 13 → gL (Z186 h w L xs) a b d = LV121 a b d := fun a b d ha => by
  unfold Z186 LV121
  rw [LWp, LZ185 a b d ha]
def LV122 : Nat → Nat → Nat → Option Nat := fun a b d => if a = 12 ∧ b = 61 ∧ d = 0 then some 6 else LV121 a b d
theorem LZ187 {h w L : Nat} {xs : Nat → Int32} : ∀ a b d : Nat, a < 13 → gL (Z187 h w L xs) a b d = LV122 a b d := fun a b d ha => by
  unfold Z187 LV122
  rw [LWp, LZ186 a b d ha]
def LV123 : Nat → Nat → Nat → Option Nat := fun a b d => if a = 12 ∧ b = 62 ∧ d = 0 then some 6 else LV122 a b d
theorem LZ188 {h w L : Nat} {xs : Nat → Int32} : ∀ a b d : Nat, a < 13 → gL (Z188 h w L xs) a b d = LV123 a b d := fun a b d ha => by
  unfold Z188 LV123
  rw [LWp, LZ187 a b d ha]
def LV124 : Nat → Nat → Nat → Option Nat := fun a b d => if a = 12 ∧ b = 63 ∧ d = 0 then some 6 else LV123 a b d
theorem LZ189 {h w L : Nat} {xs : Nat → Int32} : ∀ a b d : Nat, a < 13 → gL (Z189 h w L xs) a b d = LV124 a b d := fun a b d ha => by
  unfold Z189 LV124
  rw [LWp, LZ188 a b d ha]
def LV125 : Nat → Nat → Nat → Option Nat := fun a b d => if a = 12 ∧ b = 68 ∧ d = 0 then some 800 else LV124 a b d
theorem LZ190 {h w L : Nat} {xs : Nat → Int32} : ∀ a b d : Nat, a < 13 → gL (Z190 h w L xs) a b d = LV125 a b d := fun a b d ha => by
  unfold Z190 LV125
  rw [LWp, LZ189 a b d ha]
theorem LZ191 {h w L : Nat} {xs : Nat → Int32} : ∀ a b d : Nat, a < 13 → gL (Z191 h w L xs) a b d = LV125 a b d := fun a b d ha => by
  unfold Z191
  rw [LI]; exact LZ190 a b d ha
def LV126 : Nat → Nat → Nat → Option Nat := fun a b d => if a = 12 ∧ b = 70 ∧ d = 0 then some 4 else LV125 a b d
theorem LZ192 {h w L : Nat} {xs : Nat → Int32} : ∀ a b d : Nat, a < 13 → gL (Z192 h w L xs) a b d = LV126 a b d := fun a b d ha => by
  unfold Z192 LV126
  rw [LWp, LZ191 a b d ha]
def LV127 : Nat → Nat → Nat → Option Nat := fun a b d => if a = 12 ∧ b = 71 ∧ d = 0 then some 24 else LV126 a b d
theorem LZ193 {h w L : Nat} {xs : Nat → Int32} : ∀ a b d : Nat, a < 13 → gL (Z193 h w L xs) a b d = LV127 a b d := fun a b d ha => by
  unfold Z193 LV127
  rw [LWp, LZ192 a b d ha]
def LV128 : Nat → Nat → Nat → Option Nat := fun a b d => if a = 12 ∧ b = 72 ∧ d = 0 then some 24 else LV127 a b d
theorem LZ194 {h w L : Nat} {xs : Nat → Int32} : ∀ a b d : Nat, a < 13 → gL (Z194 h w L xs) a b d = LV128 a b d := fun a b d ha => by
  unfold Z194 LV128
  rw [LWp, LZ193 a b d ha]
def LV129 : Nat → Nat → Nat → Option Nat := fun a b d => if a = 12 ∧ b = 73 ∧ d = 0 then some 4 else LV128 a b d
theorem LZ195 {h w L : Nat} {xs : Nat → Int32} : ∀ a b d : Nat, a < 13 → gL (Z195 h w L xs) a b d = LV129 a b d := fun a b d ha => by
  unfold Z195 LV129
  rw [LWp, LZ194 a b d ha]
def LV130 : Nat → Nat → Nat → Option Nat := fun a b d => if a = 12 ∧ b = 74 ∧ d = 0 then some 24 else LV129 a b d
theorem LZ196 {h w L : Nat} {xs : Nat → Int32} : ∀ a b d : Nat, a < 13 → gL (Z196 h w L xs) a b d = LV130 a b d := fun a b d ha => by
  unfold Z196 LV130
  rw [LWp, LZ195 a b d ha]
def LV131 : Nat → Nat → Nat → Option Nat := fun a b d => if a = 12 ∧ b = 75 ∧ d = 0 then some 24 else LV130 a b d
theorem LZ197 {h w L : Nat} {xs : Nat → Int32} : ∀ a b d : Nat, a < 13 → gL (Z197 h w L xs) a b d = LV131 a b d := fun a b d ha => by
  unfold Z197 LV131
  rw [LWp, LZ196 a b d ha]
def LV132 : Nat → Nat → Nat → Option Nat := fun a b d => if a = 12 ∧ b = 76 ∧ d = 0 then some 6 else LV131 a b d
theorem LZ198 {h w L : Nat} {xs : Nat → Int32} : ∀ a b d : Nat, a < 13 → gL (Z198 h w L xs) a b d = LV132 a b d := fun a b d ha => by
  unfold Z198 LV132
  rw [LWp, LZ197 a b d ha]
def LV133 : Nat → Nat → Nat → Option Nat := fun a b d => if a = 12 ∧ b = 77 ∧ d = 0 then some 6 else LV132 a b d
theorem LZ199 {h w L : Nat} {xs : Nat → Int32} : ∀ a b d : Nat, a < 13 → gL (Z199 h w L xs) a b d = LV133 a b d := fun a b d ha => by
  unfold Z199 LV133
  rw [LWp, LZ198 a b d ha]
def LV134 : Nat → Nat → Nat → Option Nat := fun a b d => if a = 12 ∧ b = 78 ∧ d = 0 then some 6 else LV133 a b d
theorem LZ200 {h w L : Nat} {xs : Nat → Int32} : ∀ a b d : Nat, a < 13 → gL (Z200 h w L xs) a b d = LV134 a b d := fun a b d ha => by
  unfold Z200 LV134
  rw [LWp, LZ199 a b d ha]
def LV135 : Nat → Nat → Nat → Option Nat := fun a b d => if a = 12 ∧ b = 79 ∧ d = 0 then some 4 else LV134 a b d
theorem LZ201 {h w L : Nat} {xs : Nat → Int32} : ∀ a b d : Nat, a < 13 → gL (Z201 h w L xs) a b d = LV135 a b d := fun a b d ha => by
  unfold Z201 LV135
  rw [LWp, LZ200 a b d ha]
def LV136 : Nat → Nat → Nat → Option Nat := fun a b d => if a = 12 ∧ b = 80 ∧ d = 0 then some 4 else LV135 a b d
theorem LZ202 {h w L : Nat} {xs : Nat → Int32} : ∀ a b d : Nat, a < 13 → gL (Z202 h w L xs) a b d = LV136 a b d := fun a b d ha => by
  unfold Z202 LV136
  rw [LWp, LZ201 a b d ha]
def LV137 : Nat → Nat → Nat → Option Nat := fun a b d => if a = 12 ∧ b = 81 ∧ d = 0 then some 120 else LV136 a b d
theorem LZ203 {h w L : Nat} {xs : Nat → Int32} : ∀ a b d : Nat, a < 13 → gL (Z203 h w L xs) a b d = LV137 a b d := fun a b d ha => by
  unfold Z203 LV137
  rw [LWp, LZ202 a b d ha]
theorem LZ204 {h w L : Nat} {xs : Nat → Int32} : ∀ a b d : Nat, a < 13 → gL (Z204 h w L xs) a b d = LV137 a b d := fun a b d ha => by
  unfold Z204
  rw [LA]; exact LZ203 a b d ha
theorem LZ205 {h w L : Nat} {xs : Nat → Int32} : ∀ a b d : Nat, a < 13 → gL (Z205 h w L xs) a b d = LV137 a b d := fun a b d ha => by
  unfold Z205
  rw [LA]; exact LZ204 a b d ha
theorem LZ206 {h w L : Nat} {xs : Nat → Int32} : ∀ a b d : Nat, a < 13 → gL (Z206 h w L xs) a b d = LV137 a b d := fun a b d ha => by
  unfold Z206
  rw [LA]; exact LZ205 a b d ha
theorem LZ207 {h w L : Nat} {xs : Nat → Int32} : ∀ a b d : Nat, a < 13 → gL (Z207 h w L xs) a b d = LV137 a b d := fun a b d ha => by
  unfold Z207
  rw [LA]; exact LZ206 a b d ha
theorem LZ208 {h w L : Nat} {xs : Nat → Int32} : ∀ a b d : Nat, a < 13 → gL (Z208 h w L xs) a b d = LV137 a b d := fun a b d ha => by
  unfold Z208
  rw [LA]; exact LZ207 a b d ha
theorem LZ209 {h w L : Nat} {xs : Nat → Int32} : ∀ a b d : Nat, a < 13 → gL (Z209 h w L xs) a b d = LV137 a b d := fun a b d ha => by
  unfold Z209
  rw [LA]; exact LZ208 a b d ha
theorem LZ210 {h w L : Nat} {xs : Nat → Int32} : ∀ a b d : Nat, a < 13 → gL (Z210 h w L xs) a b d = LV137 a b d := fun a b d ha => by
  unfold Z210
  rw [LA]; exact LZ209 a b d ha
theorem LZ211 {h w L : Nat} {xs : Nat → Int32} : ∀ a b d : Nat, a < 13 → gL (Z211 h w L xs) a b d = LV137 a b d := fun a b d ha => by
  unfold Z211
  rw [LA]; exact LZ210 a b d ha
theorem LZ212 {h w L : Nat} {xs : Nat → Int32} : ∀ a b d : Nat, a < 13 → gL (Z212 h w L xs) a b d = LV137 a b d := fun a b d ha => by
  unfold Z212
  rw [LA]; exact LZ211 a b d ha
theorem LZ213 {h w L : Nat} {xs : Nat → Int32} : ∀ a b d : Nat, a < 13 → gL (Z213 h w L xs) a b d = LV137 a b d := fun a b d ha => by
  unfold Z213
  rw [LA]; exact LZ212 a b d ha
def IV0 : Nat → Nat → Nat → Int32 := fun _ _ _ => 0
theorem IZ0 {h w L : Nat} {xs : Nat → Int32} : ∀ a b d : Nat, gI (Z0 h w L xs) a b d = IV0 a b d := fun _ _ _ => rfl
def IV1 : Nat → Nat → Nat → Int32 := fun a b d => if a = 11 ∧ d = 0 then 0 else IV0 a b d
theorem IZ1 {h w L : Nat} {xs : Nat → Int32} : ∀ a b d : Nat, gI (Z1 h w L xs) a b d = IV1 a b d := fun a b d => by
  unfold Z1 IV1
  rw [IOp, NZ0, nn0_11, IZ0 a b d]
def IV2 : Nat → Nat → Nat → Int32 := fun a b d => if a = 7 ∧ d = 0 then 0 else IV1 a b d
theorem IZ2 {h w L : Nat} {xs : Nat → Int32} : ∀ a b d : Nat, gI (Z2 h w L xs) a b d = IV2 a b d := fun a b d => by
  unfold Z2 IV2
  rw [IOp, NZ1, nn1_7, IZ1 a b d]
theorem IZ3 {h w L : Nat} {xs : Nat → Int32} : ∀ a b d : Nat, gI (Z3 h w L xs) a b d = IV2 a b d := fun a b d => by
  unfold Z3
  rw [IW']; exact IZ2 a b d
def IV3 : Nat → Nat → Nat → Int32 := fun a b d => if a = 7 ∧ b = 1 ∧ d = 0 then 0 else IV2 a b d
theorem IZ4 {h w L : Nat} {xs : Nat → Int32} : ∀ a b d : Nat, gI (Z4 h w L xs) a b d = IV3 a b d := fun a b d => by
  unfold Z4 IV3
  rw [IIp, IZ3 a b d]
def IV4 : Nat → Nat → Nat → Int32 := fun a b d => if a = 7 ∧ b = 2 ∧ d = 0 then 0 else IV3 a b d
theorem IZ5 {h w L : Nat} {xs : Nat → Int32} : ∀ a b d : Nat, gI (Z5 h w L xs) a b d = IV4 a b d := fun a b d => by
  unfold Z5 IV4
  rw [IIp, IZ4 a b d]
theorem IZ6 {h w L : Nat} {xs : Nat → Int32} : ∀ a b d : Nat, gI (Z6 h w L xs) a b d = IV4 a b d := fun a b d => by
  unfold Z6
  rw [IR]; exact IZ5 a b d
theorem IZ7 {h w L : Nat} {xs : Nat → Int32} : ∀ a b d : Nat, gI (Z7 h w L xs) a b d = IV4 a b d := fun a b d => by
  unfold Z7
  rw [IW']; exact IZ6 a b d
theorem IZ8 {h w L : Nat} {xs : Nat → Int32} : ∀ a b d : Nat, gI (Z8 h w L xs) a b d = IV4 a b d := fun a b d => by
  unfold Z8
  rw [IW']; exact IZ7 a b d
theorem IZ9 {h w L : Nat} {xs : Nat → Int32} : ∀ a b d : Nat, gI (Z9 h w L xs) a b d = IV4 a b d := fun a b d => by
  unfold Z9
  rw [IW']; exact IZ8 a b d
def IV5 : Nat → Nat → Nat → Int32 := fun a b d => if a = 0 ∧ d = 0 then 0 else IV4 a b d
theorem IZ10 {h w L : Nat} {xs : Nat → Int32} : ∀ a b d : Nat, gI (Z10 h w L xs) a b d = IV5 a b d := fun a b d => by
  unfold Z10 IV5
  rw [IOp, NZ9, nn2_0, IZ9 a b d]
def IV6 : Nat → Nat → Nat → Int32 := fun a b d => if a = 0 ∧ b = 0 ∧ d = 0 then 0 else IV5 a b d
theorem IZ11 {h w L : Nat} {xs : Nat → Int32} : ∀ a b d : Nat, gI (Z11 h w L xs) a b d = IV6 a b d := fun a b d => by
  unfold Z11 IV6
  rw [IIp, IZ10 a b d]
def IV7 : Nat → Nat → Nat → Int32 := fun a b d => if a = 0 ∧ b = 1 ∧ d = 0 then 0 else IV6 a b d
theorem IZ12 {h w L : Nat} {xs : Nat → Int32} : ∀ a b d : Nat, gI (Z12 h w L xs) a b d = IV7 a b d := fun a b d => by
  unfold Z12 IV7
  rw [IIp, IZ11 a b d]
theorem IZ13 {h w L : Nat} {xs : Nat → Int32} : ∀ a b d : Nat, gI (Z13 h w L xs) a b d = IV7 a b d := fun a b d => by
  unfold Z13
  rw [IW']; exact IZ12 a b d
theorem IZ14 {h w L : Nat} {xs : Nat → Int32} : ∀ a b d : Nat, gI (Z14 h w L xs) a b d = IV7 a b d := fun a b d => by
  unfold Z14
  rw [IW']; exact IZ13 a b d
theorem IZ15 {h w L : Nat} {xs : Nat → Int32} : ∀ a b d : Nat, gI (Z15 h w L xs) a b d = IV7 a b d := fun a b d => by
  unfold Z15
  rw [IW']; exact IZ14 a b d
theorem IZ16 {h w L : Nat} {xs : Nat → Int32} : ∀ a b d : Nat, gI (Z16 h w L xs) a b d = IV7 a b d := fun a b d => by
  unfold Z16
  rw [IW']; exact IZ15 a b d
theorem IZ17 {h w L : Nat} {xs : Nat → Int32} : ∀ a b d : Nat, gI (Z17 h w L xs) a b d = IV7 a b d := fun a b d => by
  unfold Z17
  rw [IW']; exact IZ16 a b d
theorem IZ18 {h w L : Nat} {xs : Nat → Int32} : ∀ a b d : Nat, gI (Z18 h w L xs) a b d = IV7 a b d := fun a b d => by
  unfold Z18
  rw [IW']; exact IZ17 a b d
def IV8 : Nat → Nat → Nat → Int32 := fun a b d => if a = 0 ∧ b = 8 ∧ d = 0 then 0 else IV7 a b d
theorem IZ19 {h w L : Nat} {xs : Nat → Int32} : ∀ a b d : Nat, gI (Z19 h w L xs) a b d = IV8 a b d := fun a b d => by
  unfold Z19 IV8
  rw [IIp, IZ18 a b d]
theorem IZ20 {h w L : Nat} {xs : Nat → Int32} : ∀ a b d : Nat, gI (Z20 h w L xs) a b d = IV8 a b d := fun a b d => by
  unfold Z20
  rw [IR]; exact IZ19 a b d
def IV9 : Nat → Nat → Nat → Int32 := fun a b d => if a = 1 ∧ d = 0 then 0 else IV8 a b d
theorem IZ21 {h w L : Nat} {xs : Nat → Int32} : ∀ a b d : Nat, gI (Z21 h w L xs) a b d = IV9 a b d := fun a b d => by
  unfold Z21 IV9
  rw [IOp, NZ20, nn3_1, IZ20 a b d]
def IV10 : Nat → Nat → Nat → Int32 := fun a b d => if a = 1 ∧ b = 0 ∧ d = 0 then 0 else IV9 a b d
theorem IZ22 {h w L : Nat} {xs : Nat → Int32} : ∀ a b d : Nat, gI (Z22 h w L xs) a b d = IV10 a b d := fun a b d => by
  unfold Z22 IV10
  rw [IIp, IZ21 a b d]
theorem IZ23 {h w L : Nat} {xs : Nat → Int32} : ∀ a b d : Nat, gI (Z23 h w L xs) a b d = IV10 a b d := fun a b d => by
  unfold Z23
  rw [IW']; exact IZ22 a b d
theorem IZ24 {h w L : Nat} {xs : Nat → Int32} : ∀ a b d : Nat, gI (Z24 h w L xs) a b d = IV10 a b d := fun a b d => by
  unfold Z24
  rw [IW']; exact IZ23 a b d
theorem IZ25 {h w L : Nat} {xs : Nat → Int32} : ∀ a b d : Nat, gI (Z25 h w L xs) a b d = IV10 a b d := fun a b d => by
  unfold Z25
  rw [IW']; exact IZ24 a b d
theorem IZ26 {h w L : Nat} {xs : Nat → Int32} : ∀ a b d : Nat, gI (Z26 h w L xs) a b d = IV10 a b d := fun a b d => by
  unfold Z26
  rw [IR]; exact IZ25 a b d
theorem IZ27 {h w L : Nat} {xs : Nat → Int32} : ∀ a b d : Nat, gI (Z27 h w L xs) a b d = IV10 a b d := fun a b d => by
  unfold Z27
  rw [IW']; exact IZ26 a b d
def IV11 : Nat → Nat → Nat → Int32 := fun a b d => if a = 11 ∧ b = 7 ∧ d = 0 then 0 else IV10 a b d
theorem IZ28 {h w L : Nat} {xs : Nat → Int32} : ∀ a b d : Nat, gI (Z28 h w L xs) a b d = IV11 a b d := fun a b d => by
  unfold Z28 IV11
  rw [IIp, IZ27 a b d]
theorem IZ29 {h w L : Nat} {xs : Nat → Int32} : ∀ a b d : Nat, gI (Z29 h w L xs) a b d = IV11 a b d := fun a b d => by
  unfold Z29
  rw [IW']; exact IZ28 a b d
def IV12 : Nat → Nat → Nat → Int32 := fun a b d => if a = 11 ∧ b = 9 ∧ d = 0 then 0 else IV11 a b d
theorem IZ30 {h w L : Nat} {xs : Nat → Int32} : ∀ a b d : Nat, gI (Z30 h w L xs) a b d = IV12 a b d := fun a b d => by
  unfold Z30 IV12
  rw [IIp, IZ29 a b d]
theorem IZ31 {h w L : Nat} {xs : Nat → Int32} : ∀ a b d : Nat, gI (Z31 h w L xs) a b d = IV12 a b d := fun a b d => by
  unfold Z31
  rw [IW']; exact IZ30 a b d
def IV13 : Nat → Nat → Nat → Int32 := fun a b d => if a = 11 ∧ b = 11 ∧ d = 0 then 0 else IV12 a b d
theorem IZ32 {h w L : Nat} {xs : Nat → Int32} : ∀ a b d : Nat, gI (Z32 h w L xs) a b d = IV13 a b d := fun a b d => by
  unfold Z32 IV13
  rw [IIp, IZ31 a b d]
theorem IZ33 {h w L : Nat} {xs : Nat → Int32} : ∀ a b d : Nat, gI (Z33 h w L xs) a b d = IV13 a b d := fun a b d => by
  unfold Z33
  rw [IW']; exact IZ32 a b d
def IV14 : Nat → Nat → Nat → Int32 := fun a b d => if a = 2 ∧ d = 0 then 0 else IV13 a b d
theorem IZ34 {h w L : Nat} {xs : Nat → Int32} : ∀ a b d : Nat, gI (Z34 h w L xs) a b d = IV14 a b d := fun a b d => by
  unfold Z34 IV14
  rw [IOp, NZ33, nn4_2, IZ33 a b d]
theorem IZ35 {h w L : Nat} {xs : Nat → Int32} : ∀ a b d : Nat, gI (Z35 h w L xs) a b d = IV14 a b d := fun a b d => by
  unfold Z35
  rw [IW']; exact IZ34 a b d
theorem IZ36 {h w L : Nat} {xs : Nat → Int32} : ∀ a b d : Nat, gI (Z36 h w L xs) a b d = IV14 a b d := fun a b d => by
  unfold Z36
  rw [IW']; exact IZ35 a b d
theorem IZ37 {h w L : Nat} {xs : Nat → Int32} : ∀ a b d : Nat, gI (Z37 h w L xs) a b d = IV14 a b d := fun a b d => by
  unfold Z37
  rw [IW']; exact IZ36 a b d
def IV15 : Nat → Nat → Nat → Int32 := fun a b d => if a = 2 ∧ b = 3 ∧ d = 0 then 0 else IV14 a b d
theorem IZ38 {h w L : Nat} {xs : Nat → Int32} : ∀ a b d : Nat, gI (Z38 h w L xs) a b d = IV15 a b d := fun a b d => by
  unfold Z38 IV15
  rw [IIp, IZ37 a b d]
theorem IZ39 {h w L : Nat} {xs : Nat → Int32} : ∀ a b d : Nat, gI (Z39 h w L xs) a b d = IV15 a b d := fun a b d => by
  unfold Z39
  rw [IR]; exact IZ38 a b d
theorem IZ40 {h w L : Nat} {xs : Nat → Int32} : ∀ a b d : Nat, gI (Z40 h w L xs) a b d = IV15 a b d := fun a b d => by
  unfold Z40
  rw [IW']; exact IZ39 a b d
def IV16 : Nat → Nat → Nat → Int32 := fun a b d => if a = 11 ∧ b = 15 ∧ d = 0 then 5 else IV15 a b d
theorem IZ41 {h w L : Nat} {xs : Nat → Int32} : ∀ a b d : Nat, gI (Z41 h w L xs) a b d = IV16 a b d := fun a b d => by
  unfold Z41 IV16
  rw [IIp, IZ40 a b d]
theorem IZ42 {h w L : Nat} {xs : Nat → Int32} : ∀ a b d : Nat, gI (Z42 h w L xs) a b d = IV16 a b d := fun a b d => by
  unfold Z42
  rw [IW']; exact IZ41 a b d
def IV17 : Nat → Nat → Nat → Int32 := fun a b d => if a = 5 ∧ d = 0 then 0 else IV16 a b d
theorem IZ43 {h w L : Nat} {xs : Nat → Int32} : ∀ a b d : Nat, gI (Z43 h w L xs) a b d = IV17 a b d := fun a b d => by
  unfold Z43 IV17
  rw [IOp, NZ42, nn5_5, IZ42 a b d]
theorem IZ44 {h w L : Nat} {xs : Nat → Int32} : ∀ a b d : Nat, gI (Z44 h w L xs) a b d = IV17 a b d := fun a b d => by
  unfold Z44
  rw [IW']; exact IZ43 a b d
theorem IZ45 {h w L : Nat} {xs : Nat → Int32} : ∀ a b d : Nat, gI (Z45 h w L xs) a b d = IV17 a b d := fun a b d => by
  unfold Z45
  rw [IW']; exact IZ44 a b d
theorem IZ46 {h w L : Nat} {xs : Nat → Int32} : ∀ a b d : Nat, gI (Z46 h w L xs) a b d = IV17 a b d := fun a b d => by
  unfold Z46
  rw [IW']; exact IZ45 a b d
theorem IZ47 {h w L : Nat} {xs : Nat → Int32} : ∀ a b d : Nat, gI (Z47 h w L xs) a b d = IV17 a b d := fun a b d => by
  unfold Z47
  rw [IW']; exact IZ46 a b d
theorem IZ48 {h w L : Nat} {xs : Nat → Int32} : ∀ a b d : Nat, gI (Z48 h w L xs) a b d = IV17 a b d := fun a b d => by
  unfold Z48
  rw [IW']; exact IZ47 a b d
theorem IZ49 {h w L : Nat} {xs : Nat → Int32} : ∀ a b d : Nat, gI (Z49 h w L xs) a b d = IV17 a b d := fun a b d => by
  unfold Z49
  rw [IW']; exact IZ48 a b d
theorem IZ50 {h w L : Nat} {xs : Nat → Int32} : ∀ a b d : Nat, gI (Z50 h w L xs) a b d = IV17 a b d := fun a b d => by
  unfold Z50
  rw [IW']; exact IZ49 a b d
theorem IZ51 {h w L : Nat} {xs : Nat → Int32} : ∀ a b d : Nat, gI (Z51 h w L xs) a b d = IV17 a b d := fun a b d => by
  unfold Z51
  rw [IW']; exact IZ50 a b d
def IV18 : Nat → Nat → Nat → Int32 := fun a b d => if a = 5 ∧ b = 8 ∧ d = 0 then 0 else IV17 a b d
theorem IZ52 {h w L : Nat} {xs : Nat → Int32} : ∀ a b d : Nat, gI (Z52 h w L xs) a b d = IV18 a b d := fun a b d => by
  unfold Z52 IV18
  rw [IIp, IZ51 a b d]
def IV19 : Nat → Nat → Nat → Int32 := fun a b d => if a = 5 ∧ b = 9 ∧ d = 0 then 0 else IV18 a b d
theorem IZ53 {h w L : Nat} {xs : Nat → Int32} : ∀ a b d : Nat, gI (Z53 h w L xs) a b d = IV19 a b d := fun a b d => by
  unfold Z53 IV19
  rw [IIp, IZ52 a b d]
def IV20 : Nat → Nat → Nat → Int32 := fun a b d => if a = 5 ∧ b = 10 ∧ d = 0 then 0 else IV19 a b d
theorem IZ54 {h w L : Nat} {xs : Nat → Int32} : ∀ a b d : Nat, gI (Z54 h w L xs) a b d = IV20 a b d := fun a b d => by
  unfold Z54 IV20
  rw [IIp, IZ53 a b d]
def IV21 : Nat → Nat → Nat → Int32 := fun a b d => if a = 5 ∧ b = 11 ∧ d = 0 then 0 else IV20 a b d
theorem IZ55 {h w L : Nat} {xs : Nat → Int32} : ∀ a b d : Nat, gI (Z55 h w L xs) a b d = IV21 a b d := fun a b d => by
  unfold Z55 IV21
  rw [IIp, IZ54 a b d]
theorem IZ56 {h w L : Nat} {xs : Nat → Int32} : ∀ a b d : Nat, gI (Z56 h w L xs) a b d = IV21 a b d := fun a b d => by
  unfold Z56
  rw [IR]; exact IZ55 a b d
def IV22 : Nat → Nat → Nat → Int32 := fun a b d => if a = 10 ∧ d = 0 then 0 else IV21 a b d
theorem IZ57 {h w L : Nat} {xs : Nat → Int32} : ∀ a b d : Nat, gI (Z57 h w L xs) a b d = IV22 a b d := fun a b d => by
  unfold Z57 IV22
  rw [IOp, NZ56, nn6_10, IZ56 a b d]
theorem IZ58 {h w L : Nat} {xs : Nat → Int32} : ∀ a b d : Nat, gI (Z58 h w L xs) a b d = IV22 a b d := fun a b d => by
  unfold Z58
  rw [IW']; exact IZ57 a b d
theorem IZ59 {h w L : Nat} {xs : Nat → Int32} : ∀ a b d : Nat, gI (Z59 h w L xs) a b d = IV22 a b d := fun a b d => by
  unfold Z59
  rw [IW']; exact IZ58 a b d
theorem IZ60 {h w L : Nat} {xs : Nat → Int32} : ∀ a b d : Nat, gI (Z60 h w L xs) a b d = IV22 a b d := fun a b d => by
  unfold Z60
  rw [IW']; exact IZ59 a b d
theorem IZ61 {h w L : Nat} {xs : Nat → Int32} : ∀ a b d : Nat, gI (Z61 h w L xs) a b d = IV22 a b d := fun a b d => by
  unfold Z61
  rw [IR]; exact IZ60 a b d
theorem IZ62 {h w L : Nat} {xs : Nat → Int32} : ∀ a b d : Nat, gI (Z62 h w L xs) a b d = IV22 a b d := fun a b d => by
  unfold Z62
  rw [IW']; exact IZ61 a b d
def IV23 : Nat → Nat → Nat → Int32 := fun a b d => if a = 1 ∧ d = 1 then 0 else IV22 a b d
theorem IZ63 {h w L : Nat} {xs : Nat → Int32} : ∀ a b d : Nat, gI (Z63 h w L xs) a b d = IV23 a b d := fun a b d => by
  unfold Z63 IV23
  rw [IOp, NZ62, nn7_1, IZ62 a b d]
def IV24 : Nat → Nat → Nat → Int32 := fun a b d => if a = 1 ∧ b = 0 ∧ d = 1 then 0 else IV23 a b d
theorem IZ64 {h w L : Nat} {xs : Nat → Int32} : ∀ a b d : Nat, gI (Z64 h w L xs) a b d = IV24 a b d := fun a b d => by
  unfold Z64 IV24
  rw [IIp, IZ63 a b d]
theorem IZ65 {h w L : Nat} {xs : Nat → Int32} : ∀ a b d : Nat, gI (Z65 h w L xs) a b d = IV24 a b d := fun a b d => by
  unfold Z65
  rw [IW']; exact IZ64 a b d
theorem IZ66 {h w L : Nat} {xs : Nat → Int32} : ∀ a b d : Nat, gI (Z66 h w L xs) a b d = IV24 a b d := fun a b d => by
  unfold Z66
  rw [IW']; exact IZ65 a b d
theorem IZ67 {h w L : Nat} {xs : Nat → Int32} : ∀ a b d : Nat, gI (Z67 h w L xs) a b d = IV24 a b d := fun a b d => by
  unfold Z67
  rw [IW']; exact IZ66 a b d
theorem IZ68 {h w L : Nat} {xs : Nat → Int32} : ∀ a b d : Nat, gI (Z68 h w L xs) a b d = IV24 a b d := fun a b d => by
  unfold Z68
  rw [IQ]; exact IZ67 a b d
def IV25 : Nat → Nat → Nat → Int32 := fun a b d => if a = 1 ∧ d = 2 then 0 else IV24 a b d
theorem IZ69 {h w L : Nat} {xs : Nat → Int32} : ∀ a b d : Nat, gI (Z69 h w L xs) a b d = IV25 a b d := fun a b d => by
  unfold Z69 IV25
  rw [IOp, NZ68, nn8_1, IZ68 a b d]
def IV26 : Nat → Nat → Nat → Int32 := fun a b d => if a = 1 ∧ b = 0 ∧ d = 2 then 0 else IV25 a b d
theorem IZ70 {h w L : Nat} {xs : Nat → Int32} : ∀ a b d : Nat, gI (Z70 h w L xs) a b d = IV26 a b d := fun a b d => by
  unfold Z70 IV26
  rw [IIp, IZ69 a b d]
theorem IZ71 {h w L : Nat} {xs : Nat → Int32} : ∀ a b d : Nat, gI (Z71 h w L xs) a b d = IV26 a b d := fun a b d => by
  unfold Z71
  rw [IW']; exact IZ70 a b d
theorem IZ72 {h w L : Nat} {xs : Nat → Int32} : ∀ a b d : Nat, gI (Z72 h w L xs) a b d = IV26 a b d := fun a b d => by
  unfold Z72
  rw [IW']; exact IZ71 a b d
theorem IZ73 {h w L : Nat} {xs : Nat → Int32} : ∀ a b d : Nat, gI (Z73 h w L xs) a b d = IV26 a b d := fun a b d => by
  unfold Z73
  rw [IW']; exact IZ72 a b d
theorem IZ74 {h w L : Nat} {xs : Nat → Int32} : ∀ a b d : Nat, gI (Z74 h w L xs) a b d = IV26 a b d := fun a b d => by
  unfold Z74
  rw [IQ]; exact IZ73 a b d
def IV27 : Nat → Nat → Nat → Int32 := fun a b d => if a = 1 ∧ d = 3 then 0 else IV26 a b d
theorem IZ75 {h w L : Nat} {xs : Nat → Int32} : ∀ a b d : Nat, gI (Z75 h w L xs) a b d = IV27 a b d := fun a b d => by
  unfold Z75 IV27
  rw [IOp, NZ74, nn9_1, IZ74 a b d]
def IV28 : Nat → Nat → Nat → Int32 := fun a b d => if a = 1 ∧ b = 0 ∧ d = 3 then 0 else IV27 a b d
theorem IZ76 {h w L : Nat} {xs : Nat → Int32} : ∀ a b d : Nat, gI (Z76 h w L xs) a b d = IV28 a b d := fun a b d => by
  unfold Z76 IV28
  rw [IIp, IZ75 a b d]
theorem IZ77 {h w L : Nat} {xs : Nat → Int32} : ∀ a b d : Nat, gI (Z77 h w L xs) a b d = IV28 a b d := fun a b d => by
  unfold Z77
  rw [IW']; exact IZ76 a b d
theorem IZ78 {h w L : Nat} {xs : Nat → Int32} : ∀ a b d : Nat, gI (Z78 h w L xs) a b d = IV28 a b d := fun a b d => by
  unfold Z78
  rw [IW']; exact IZ77 a b d
theorem IZ79 {h w L : Nat} {xs : Nat → Int32} : ∀ a b d : Nat, gI (Z79 h w L xs) a b d = IV28 a b d := fun a b d => by
  unfold Z79
  rw [IW']; exact IZ78 a b d
theorem IZ80 {h w L : Nat} {xs : Nat → Int32} : ∀ a b d : Nat, gI (Z80 h w L xs) a b d = IV28 a b d := fun a b d => by
  unfold Z80
  rw [IQ]; exact IZ79 a b d
def IV29 : Nat → Nat → Nat → Int32 := fun a b d => if a = 1 ∧ d = 4 then 0 else IV28 a b d
theorem IZ81 {h w L : Nat} {xs : Nat → Int32} : ∀ a b d : Nat, gI (Z81 h w L xs) a b d = IV29 a b d := fun a b d => by
  unfold Z81 IV29
  rw [IOp, NZ80, nn10_1, IZ80 a b d]
def IV30 : Nat → Nat → Nat → Int32 := fun a b d => if a = 1 ∧ b = 0 ∧ d = 4 then 0 else IV29 a b d
theorem IZ82 {h w L : Nat} {xs : Nat → Int32} : ∀ a b d : Nat, gI (Z82 h w L xs) a b d = IV30 a b d := fun a b d => by
  unfold Z82 IV30
  rw [IIp, IZ81 a b d]
theorem IZ83 {h w L : Nat} {xs : Nat → Int32} : ∀ a b d : Nat, gI (Z83 h w L xs) a b d = IV30 a b d := fun a b d => by
  unfold Z83
  rw [IW']; exact IZ82 a b d
theorem IZ84 {h w L : Nat} {xs : Nat → Int32} : ∀ a b d : Nat, gI (Z84 h w L xs) a b d = IV30 a b d := fun a b d => by
  unfold Z84
  rw [IW']; exact IZ83 a b d
theorem IZ85 {h w L : Nat} {xs : Nat → Int32} : ∀ a b d : Nat, gI (Z85 h w L xs) a b d = IV30 a b d := fun a b d => by
  unfold Z85
  rw [IW']; exact IZ84 a b d
theorem IZ86 {h w L : Nat} {xs : Nat → Int32} : ∀ a b d : Nat, gI (Z86 h w L xs) a b d = IV30 a b d := fun a b d => by
  unfold Z86
  rw [IQ]; exact IZ85 a b d
def IV31 : Nat → Nat → Nat → Int32 := fun a b d => if a = 3 ∧ d = 0 then 0 else IV30 a b d
theorem IZ87 {h w L : Nat} {xs : Nat → Int32} : ∀ a b d : Nat, gI (Z87 h w L xs) a b d = IV31 a b d := fun a b d => by
  unfold Z87 IV31
  rw [IOp, NZ86, nn11_3, IZ86 a b d]
def IV32 : Nat → Nat → Nat → Int32 := fun a b d => if a = 3 ∧ b = 0 ∧ d = 0 then 3 else IV31 a b d
theorem IZ88 {h w L : Nat} {xs : Nat → Int32} : ∀ a b d : Nat, gI (Z88 h w L xs) a b d = IV32 a b d := fun a b d => by
  unfold Z88 IV32
  rw [IIp, IZ87 a b d]
def IV33 : Nat → Nat → Nat → Int32 := fun a b d => if a = 3 ∧ b = 1 ∧ d = 0 then 0 else IV32 a b d
theorem IZ89 {h w L : Nat} {xs : Nat → Int32} : ∀ a b d : Nat, gI (Z89 h w L xs) a b d = IV33 a b d := fun a b d => by
  unfold Z89 IV33
  rw [IIp, IZ88 a b d]
def IV34 : Nat → Nat → Nat → Int32 := fun a b d => if a = 3 ∧ b = 2 ∧ d = 0 then 0 else IV33 a b d
theorem IZ90 {h w L : Nat} {xs : Nat → Int32} : ∀ a b d : Nat, gI (Z90 h w L xs) a b d = IV34 a b d := fun a b d => by
  unfold Z90 IV34
  rw [IIp, IZ89 a b d]
theorem IZ91 {h w L : Nat} {xs : Nat → Int32} : ∀ a b d : Nat, gI (Z91 h w L xs) a b d = IV34 a b d := fun a b d => by
  unfold Z91
  rw [IQ]; exact IZ90 a b d
def IV35 : Nat → Nat → Nat → Int32 := fun a b d => if a = 3 ∧ d = 1 then 0 else IV34 a b d
theorem IZ92 {h w L : Nat} {xs : Nat → Int32} : ∀ a b d : Nat, gI (Z92 h w L xs) a b d = IV35 a b d := fun a b d => by
  unfold Z92 IV35
  rw [IOp, NZ91, nn12_3, IZ91 a b d]
def IV36 : Nat → Nat → Nat → Int32 := fun a b d => if a = 3 ∧ b = 0 ∧ d = 1 then 3 else IV35 a b d
theorem IZ93 {h w L : Nat} {xs : Nat → Int32} : ∀ a b d : Nat, gI (Z93 h w L xs) a b d = IV36 a b d := fun a b d => by
  unfold Z93 IV36
  rw [IIp, IZ92 a b d]
def IV37 : Nat → Nat → Nat → Int32 := fun a b d => if a = 3 ∧ b = 1 ∧ d = 1 then 0 else IV36 a b d
theorem IZ94 {h w L : Nat} {xs : Nat → Int32} : ∀ a b d : Nat, gI (Z94 h w L xs) a b d = IV37 a b d := fun a b d => by
  unfold Z94 IV37
  rw [IIp, IZ93 a b d]
def IV38 : Nat → Nat → Nat → Int32 := fun a b d => if a = 3 ∧ b = 2 ∧ d = 1 then 0 else IV37 a b d
theorem IZ95 {h w L : Nat} {xs : Nat → Int32} : ∀ a b d : Nat, gI (Z95 h w L xs) a b d = IV38 a b d := fun a b d => by
  unfold Z95 IV38
  rw [IIp, IZ94 a b d]
theorem IZ96 {h w L : Nat} {xs : Nat → Int32} : ∀ a b d : Nat, gI (Z96 h w L xs) a b d = IV38 a b d := fun a b d => by
  unfold Z96
  rw [IQ]; exact IZ95 a b d
def IV39 : Nat → Nat → Nat → Int32 := fun a b d => if a = 3 ∧ d = 2 then 0 else IV38 a b d
theorem IZ97 {h w L : Nat} {xs : Nat → Int32} : ∀ a b d : Nat, gI (Z97 h w L xs) a b d = IV39 a b d := fun a b d => by
  unfold Z97 IV39
  rw [IOp, NZ96, nn13_3, IZ96 a b d]
def IV40 : Nat → Nat → Nat → Int32 := fun a b d => if a = 3 ∧ b = 0 ∧ d = 2 then 3 else IV39 a b d
theorem IZ98 {h w L : Nat} {xs : Nat → Int32} : ∀ a b d : Nat, gI (Z98 h w L xs) a b d = IV40 a b d := fun a b d => by
  unfold Z98 IV40
  rw [IIp, IZ97 a b d]
def IV41 : Nat → Nat → Nat → Int32 := fun a b d => if a = 3 ∧ b = 1 ∧ d = 2 then 0 else IV40 a b d
theorem IZ99 {h w L : Nat} {xs : Nat → Int32} : ∀ a b d : Nat, gI (Z99 h w L xs) a b d = IV41 a b d := fun a b d => by
  unfold Z99 IV41
  rw [IIp, IZ98 a b d]
def IV42 : Nat → Nat → Nat → Int32 := fun a b d => if a = 3 ∧ b = 2 ∧ d = 2 then 0 else IV41 a b d
theorem IZ100 {h w L : Nat} {xs : Nat → Int32} : ∀ a b d : Nat, gI (Z100 h w L xs) a b d = IV42 a b d := fun a b d => by
  unfold Z100 IV42
  rw [IIp, IZ99 a b d]
theorem IZ101 {h w L : Nat} {xs : Nat → Int32} : ∀ a b d : Nat, gI (Z101 h w L xs) a b d = IV42 a b d := fun a b d => by
  unfold Z101
  rw [IQ]; exact IZ100 a b d
def IV43 : Nat → Nat → Nat → Int32 := fun a b d => if a = 3 ∧ d = 3 then 0 else IV42 a b d
theorem IZ102 {h w L : Nat} {xs : Nat → Int32} : ∀ a b d : Nat, gI (Z102 h w L xs) a b d = IV43 a b d := fun a b d => by
  unfold Z102 IV43
  rw [IOp, NZ101, nn14_3, IZ101 a b d]
def IV44 : Nat → Nat → Nat → Int32 := fun a b d => if a = 3 ∧ b = 0 ∧ d = 3 then 3 else IV43 a b d
theorem IZ103 {h w L : Nat} {xs : Nat → Int32} : ∀ a b d : Nat, gI (Z103 h w L xs) a b d = IV44 a b d := fun a b d => by
  unfold Z103 IV44
  rw [IIp, IZ102 a b d]
def IV45 : Nat → Nat → Nat → Int32 := fun a b d => if a = 3 ∧ b = 1 ∧ d = 3 then 0 else IV44 a b d
theorem IZ104 {h w L : Nat} {xs : Nat → Int32} : ∀ a b d : Nat, gI (Z104 h w L xs) a b d = IV45 a b d := fun a b d => by
  unfold Z104 IV45
  rw [IIp, IZ103 a b d]
def IV46 : Nat → Nat → Nat → Int32 := fun a b d => if a = 3 ∧ b = 2 ∧ d = 3 then 0 else IV45 a b d
theorem IZ105 {h w L : Nat} {xs : Nat → Int32} : ∀ a b d : Nat, gI (Z105 h w L xs) a b d = IV46 a b d := fun a b d => by
  unfold Z105 IV46
  rw [IIp, IZ104 a b d]
theorem IZ106 {h w L : Nat} {xs : Nat → Int32} : ∀ a b d : Nat, gI (Z106 h w L xs) a b d = IV46 a b d := fun a b d => by
  unfold Z106
  rw [IQ]; exact IZ105 a b d
def IV47 : Nat → Nat → Nat → Int32 := fun a b d => if a = 3 ∧ d = 4 then 0 else IV46 a b d
theorem IZ107 {h w L : Nat} {xs : Nat → Int32} : ∀ a b d : Nat, gI (Z107 h w L xs) a b d = IV47 a b d := fun a b d => by
  unfold Z107 IV47
  rw [IOp, NZ106, nn15_3, IZ106 a b d]
def IV48 : Nat → Nat → Nat → Int32 := fun a b d => if a = 3 ∧ b = 0 ∧ d = 4 then 3 else IV47 a b d
theorem IZ108 {h w L : Nat} {xs : Nat → Int32} : ∀ a b d : Nat, gI (Z108 h w L xs) a b d = IV48 a b d := fun a b d => by
  unfold Z108 IV48
  rw [IIp, IZ107 a b d]
def IV49 : Nat → Nat → Nat → Int32 := fun a b d => if a = 3 ∧ b = 1 ∧ d = 4 then 0 else IV48 a b d
theorem IZ109 {h w L : Nat} {xs : Nat → Int32} : ∀ a b d : Nat, gI (Z109 h w L xs) a b d = IV49 a b d := fun a b d => by
  unfold Z109 IV49
  rw [IIp, IZ108 a b d]
def IV50 : Nat → Nat → Nat → Int32 := fun a b d => if a = 3 ∧ b = 2 ∧ d = 4 then 0 else IV49 a b d
theorem IZ110 {h w L : Nat} {xs : Nat → Int32} : ∀ a b d : Nat, gI (Z110 h w L xs) a b d = IV50 a b d := fun a b d => by
  unfold Z110 IV50
  rw [IIp, IZ109 a b d]
theorem IZ111 {h w L : Nat} {xs : Nat → Int32} : ∀ a b d : Nat, gI (Z111 h w L xs) a b d = IV50 a b d := fun a b d => by
  unfold Z111
  rw [IQ]; exact IZ110 a b d
def IV51 : Nat → Nat → Nat → Int32 := fun a b d => if a = 3 ∧ d = 5 then 0 else IV50 a b d
theorem IZ112 {h w L : Nat} {xs : Nat → Int32} : ∀ a b d : Nat, gI (Z112 h w L xs) a b d = IV51 a b d := fun a b d => by
  unfold Z112 IV51
  rw [IOp, NZ111, nn16_3, IZ111 a b d]
def IV52 : Nat → Nat → Nat → Int32 := fun a b d => if a = 3 ∧ b = 0 ∧ d = 5 then 3 else IV51 a b d
theorem IZ113 {h w L : Nat} {xs : Nat → Int32} : ∀ a b d : Nat, gI (Z113 h w L xs) a b d = IV52 a b d := fun a b d => by
  unfold Z113 IV52
  rw [IIp, IZ112 a b d]
def IV53 : Nat → Nat → Nat → Int32 := fun a b d => if a = 3 ∧ b = 1 ∧ d = 5 then 0 else IV52 a b d
theorem IZ114 {h w L : Nat} {xs : Nat → Int32} : ∀ a b d : Nat, gI (Z114 h w L xs) a b d = IV53 a b d := fun a b d => by
  unfold Z114 IV53
  rw [IIp, IZ113 a b d]
def IV54 : Nat → Nat → Nat → Int32 := fun a b d => if a = 3 ∧ b = 2 ∧ d = 5 then 0 else IV53 a b d
theorem IZ115 {h w L : Nat} {xs : Nat → Int32} : ∀ a b d : Nat, gI (Z115 h w L xs) a b d = IV54 a b d := fun a b d => by
  unfold Z115 IV54
  rw [IIp, IZ114 a b d]
theorem IZ116 {h w L : Nat} {xs : Nat → Int32} : ∀ a b d : Nat, gI (Z116 h w L xs) a b d = IV54 a b d := fun a b d => by
  unfold Z116
  rw [IQ]; exact IZ115 a b d
def IV55 : Nat → Nat → Nat → Int32 := fun a b d => if a = 6 ∧ d = 0 then 0 else IV54 a b d
theorem IZ117 {h w L : Nat} {xs : Nat → Int32} : ∀ a b d : Nat, gI (Z117 h w L xs) a b d = IV55 a b d := fun a b d => by
  unfold Z117 IV55
  rw [IOp, NZ116, nn17_6, IZ116 a b d]
def IV56 : Nat → Nat → Nat → Int32 := fun a b d => if a = 6 ∧ b = 0 ∧ d = 0 then (-1) else IV55 a b d
theorem IZ118 {h w L : Nat} {xs : Nat → Int32} : ∀ a b d : Nat, gI (Z118 h w L xs) a b d = IV56 a b d := fun a b d => by
  unfold Z118 IV56
  rw [IIp, IZ117 a b d]
def IV57 : Nat → Nat → Nat → Int32 := fun a b d => if a = 6 ∧ b = 1 ∧ d = 0 then 0 else IV56 a b d
theorem IZ119 {h w L : Nat} {xs : Nat → Int32} : ∀ a b d : Nat, gI (Z119 h w L xs) a b d = IV57 a b d := fun a b d => by
  unfold Z119 IV57
  rw [IIp, IZ118 a b d]
theorem IZ120 {h w L : Nat} {xs : Nat → Int32} : ∀ a b d : Nat, gI (Z120 h w L xs) a b d = IV57 a b d := fun a b d => by
  unfold Z120
  rw [IW']; exact IZ119 a b d
theorem IZ121 {h w L : Nat} {xs : Nat → Int32} : ∀ a b d : Nat, gI (Z121 h w L xs) a b d = IV57 a b d := fun a b d => by
  unfold Z121
  rw [IQ]; exact IZ120 a b d
def IV58 : Nat → Nat → Nat → Int32 := fun a b d => if a = 6 ∧ d = 1 then 0 else IV57 a b d
theorem IZ122 {h w L : Nat} {xs : Nat → Int32} : ∀ a b d : Nat, gI (Z122 h w L xs) a b d = IV58 a b d := fun a b d => by
  unfold Z122 IV58
  rw [IOp, NZ121, nn18_6, IZ121 a b d]
def IV59 : Nat → Nat → Nat → Int32 := fun a b d => if a = 6 ∧ b = 0 ∧ d = 1 then (-1) else IV58 a b d
theorem IZ123 {h w L : Nat} {xs : Nat → Int32} : ∀ a b d : Nat, gI (Z123 h w L xs) a b d = IV59 a b d := fun a b d => by
  unfold Z123 IV59
  rw [IIp, IZ122 a b d]
def IV60 : Nat → Nat → Nat → Int32 := fun a b d => if a = 6 ∧ b = 1 ∧ d = 1 then 0 else IV59 a b d
theorem IZ124 {h w L : Nat} {xs : Nat → Int32} : ∀ a b d : Nat, gI (Z124 h w L xs) a b d = IV60 a b d := fun a b d => by
  unfold Z124 IV60
  rw [IIp, IZ123 a b d]
theorem IZ125 {h w L : Nat} {xs : Nat → Int32} : ∀ a b d : Nat, gI (Z125 h w L xs) a b d = IV60 a b d := fun a b d => by
  unfold Z125
  rw [IW']; exact IZ124 a b d
theorem IZ126 {h w L : Nat} {xs : Nat → Int32} : ∀ a b d : Nat, gI (Z126 h w L xs) a b d = IV60 a b d := fun a b d => by
  unfold Z126
  rw [IQ]; exact IZ125 a b d
def IV61 : Nat → Nat → Nat → Int32 := fun a b d => if a = 6 ∧ d = 2 then 0 else IV60 a b d
theorem IZ127 {h w L : Nat} {xs : Nat → Int32} : ∀ a b d : Nat, gI (Z127 h w L xs) a b d = IV61 a b d := fun a b d => by
  unfold Z127 IV61
  rw [IOp, NZ126, nn19_6, IZ126 a b d]
def IV62 : Nat → Nat → Nat → Int32 := fun a b d => if a = 6 ∧ b = 0 ∧ d = 2 then (-1) else IV61 a b d
theorem IZ128 {h w L : Nat} {xs : Nat → Int32} : ∀ a b d : Nat, gI (Z128 h w L xs) a b d = IV62 a b d := fun a b d => by
  unfold Z128 IV62
  rw [IIp, IZ127 a b d]
def IV63 : Nat → Nat → Nat → Int32 := fun a b d => if a = 6 ∧ b = 1 ∧ d = 2 then 0 else IV62 a b d
theorem IZ129 {h w L : Nat} {xs : Nat → Int32} : ∀ a b d : Nat, gI (Z129 h w L xs) a b d = IV63 a b d := fun a b d => by
  unfold Z129 IV63
  rw [IIp, IZ128 a b d]
theorem IZ130 {h w L : Nat} {xs : Nat → Int32} : ∀ a b d : Nat, gI (Z130 h w L xs) a b d = IV63 a b d := fun a b d => by
  unfold Z130
  rw [IW']; exact IZ129 a b d
theorem IZ131 {h w L : Nat} {xs : Nat → Int32} : ∀ a b d : Nat, gI (Z131 h w L xs) a b d = IV63 a b d := fun a b d => by
  unfold Z131
  rw [IQ]; exact IZ130 a b d
def IV64 : Nat → Nat → Nat → Int32 := fun a b d => if a = 6 ∧ d = 3 then 0 else IV63 a b d
theorem IZ132 {h w L : Nat} {xs : Nat → Int32} : ∀ a b d : Nat, gI (Z132 h w L xs) a b d = IV64 a b d := fun a b d => by
  unfold Z132 IV64
  rw [IOp, NZ131, nn20_6, IZ131 a b d]
def IV65 : Nat → Nat → Nat → Int32 := fun a b d => if a = 6 ∧ b = 0 ∧ d = 3 then (-1) else IV64 a b d
theorem IZ133 {h w L : Nat} {xs : Nat → Int32} : ∀ a b d : Nat, gI (Z133 h w L xs) a b d = IV65 a b d := fun a b d => by
  unfold Z133 IV65
  rw [IIp, IZ132 a b d]
def IV66 : Nat → Nat → Nat → Int32 := fun a b d => if a = 6 ∧ b = 1 ∧ d = 3 then 0 else IV65 a b d
theorem IZ134 {h w L : Nat} {xs : Nat → Int32} : ∀ a b d : Nat, gI (Z134 h w L xs) a b d = IV66 a b d := fun a b d => by
  unfold Z134 IV66
  rw [IIp, IZ133 a b d]
theorem IZ135 {h w L : Nat} {xs : Nat → Int32} : ∀ a b d : Nat, gI (Z135 h w L xs) a b d = IV66 a b d := fun a b d => by
  unfold Z135
  rw [IW']; exact IZ134 a b d
theorem IZ136 {h w L : Nat} {xs : Nat → Int32} : ∀ a b d : Nat, gI (Z136 h w L xs) a b d = IV66 a b d := fun a b d => by
  unfold Z136
  rw [IQ]; exact IZ135 a b d
def IV67 : Nat → Nat → Nat → Int32 := fun a b d => if a = 12 ∧ d = 0 then 0 else IV66 a b d
theorem IZ137 {h w L : Nat} {xs : Nat → Int32} : ∀ a b d : Nat, gI (Z137 h w L xs) a b d = IV67 a b d := fun a b d => by
  unfold Z137 IV67
  rw [IOp, NZ136, nn21_12, IZ136 a b d]
theorem IZ138 {h w L : Nat} {xs : Nat → Int32} : ∀ a b d : Nat, gI (Z138 h w L xs) a b d = IV67 a b d := fun a b d => by
  unfold Z138
  rw [IW']; exact IZ137 a b d
theorem IZ139 {h w L : Nat} {xs : Nat → Int32} : ∀ a b d : Nat, gI (Z139 h w L xs) a b d = IV67 a b d := fun a b d => by
  unfold Z139
  rw [IW']; exact IZ138 a b d
theorem IZ140 {h w L : Nat} {xs : Nat → Int32} : ∀ a b d : Nat, gI (Z140 h w L xs) a b d = IV67 a b d := fun a b d => by
  unfold Z140
  rw [IW']; exact IZ139 a b d
theorem IZ141 {h w L : Nat} {xs : Nat → Int32} : ∀ a b d : Nat, gI (Z141 h w L xs) a b d = IV67 a b d := fun a b d => by
  unfold Z141
  rw [IW']; exact IZ140 a b d
theorem IZ142 {h w L : Nat} {xs : Nat → Int32} : ∀ a b d : Nat, gI (Z142 h w L xs) a b d = IV67 a b d := fun a b d => by
  unfold Z142
  rw [IW']; exact IZ141 a b d
theorem IZ143 {h w L : Nat} {xs : Nat → Int32} : ∀ a b d : Nat, gI (Z143 h w L xs) a b d = IV67 a b d := fun a b d => by
  unfold Z143
  rw [IW']; exact IZ142 a b d
theorem IZ144 {h w L : Nat} {xs : Nat → Int32} : ∀ a b d : Nat, gI (Z144 h w L xs) a b d = IV67 a b d := fun a b d => by
  unfold Z144
  rw [IW']; exact IZ143 a b d
theorem IZ145 {h w L : Nat} {xs : Nat → Int32} : ∀ a b d : Nat, gI (Z145 h w L xs) a b d = IV67 a b d := fun a b d => by
  unfold Z145
  rw [IW']; exact IZ144 a b d
theorem IZ146 {h w L : Nat} {xs : Nat → Int32} : ∀ a b d : Nat, gI (Z146 h w L xs) a b d = IV67 a b d := fun a b d => by
  unfold Z146
  rw [IW']; exact IZ145 a b d
theorem IZ147 {h w L : Nat} {xs : Nat → Int32} : ∀ a b d : Nat, gI (Z147 h w L xs) a b d = IV67 a b d := fun a b d => by
  unfold Z147
  rw [IW']; exact IZ146 a b d
theorem IZ148 {h w L : Nat} {xs : Nat → Int32} : ∀ a b d : Nat, gI (Z148 h w L xs) a b d = IV67 a b d := fun a b d => by
  unfold Z148
  rw [IW']; exact IZ147 a b d
theorem IZ149 {h w L : Nat} {xs : Nat → Int32} : ∀ a b d : Nat, gI (Z149 h w L xs) a b d = IV67 a b d := fun a b d => by
  unfold Z149
  rw [IW']; exact IZ148 a b d
theorem IZ150 {h w L : Nat} {xs : Nat → Int32} : ∀ a b d : Nat, gI (Z150 h w L xs) a b d = IV67 a b d := fun a b d => by
  unfold Z150
  rw [IW']; exact IZ149 a b d
theorem IZ151 {h w L : Nat} {xs : Nat → Int32} : ∀ a b d : Nat, gI (Z151 h w L xs) a b d = IV67 a b d := fun a b d => by
  unfold Z151
  rw [IW']; exact IZ150 a b d
theorem IZ152 {h w L : Nat} {xs : Nat → Int32} : ∀ a b d : Nat, gI (Z152 h w L xs) a b d = IV67 a b d := fun a b d => by
  unfold Z152
  rw [IW']; exact IZ151 a b d
theorem IZ153 {h w L : Nat} {xs : Nat → Int32} : ∀ a b d : Nat, gI (Z153 h w L xs) a b d = IV67 a b d := fun a b d => by
  unfold Z153
  rw [IW']; exact IZ152 a b d
theorem IZ154 {h w L : Nat} {xs : Nat → Int32} : ∀ a b d : Nat, gI (Z154 h w L xs) a b d = IV67 a b d := fun a b d => by
  unfold Z154
  rw [IW']; exact IZ153 a b d
theorem IZ155 {h w L : Nat} {xs : Nat → Int32} : ∀ a b d : Nat, gI (Z155 h w L xs) a b d = IV67 a b d := fun a b d => by
  unfold Z155
  rw [IW']; exact IZ154 a b d
theorem IZ156 {h w L : Nat} {xs : Nat → Int32} : ∀ a b d : Nat, gI (Z156 h w L xs) a b d = IV67 a b d := fun a b d => by
  unfold Z156
  rw [IW']; exact IZ155 a b d
theorem IZ157 {h w L : Nat} {xs : Nat → Int32} : ∀ a b d : Nat, gI (Z157 h w L xs) a b d = IV67 a b d := fun a b d => by
  unfold Z157
  rw [IW']; exact IZ156 a b d
theorem IZ158 {h w L : Nat} {xs : Nat → Int32} : ∀ a b d : Nat, gI (Z158 h w L xs) a b d = IV67 a b d := fun a b d => by
  unfold Z158
  rw [IW']; exact IZ157 a b d
theorem IZ159 {h w L : Nat} {xs : Nat → Int32} : ∀ a b d : Nat, gI (Z159 h w L xs) a b d = IV67 a b d := fun a b d => by
  unfold Z159
  rw [IW']; exact IZ158 a b d
theorem IZ160 {h w L : Nat} {xs : Nat → Int32} : ∀ a b d : Nat, gI (Z160 h w L xs) a b d = IV67 a b d := fun a b d => by
  unfold Z160
  rw [IW']; exact IZ159 a b d
theorem IZ161 {h w L : Nat} {xs : Nat → Int32} : ∀ a b d : Nat, gI (Z161 h w L xs) a b d = IV67 a b d := fun a b d => by
  unfold Z161
  rw [IW']; exact IZ160 a b d
theorem IZ162 {h w L : Nat} {xs : Nat → Int32} : ∀ a b d : Nat, gI (Z162 h w L xs) a b d = IV67 a b d := fun a b d => by
  unfold Z162
  rw [IW']; exact IZ161 a b d
theorem IZ163 {h w L : Nat} {xs : Nat → Int32} : ∀ a b d : Nat, gI (Z163 h w L xs) a b d = IV67 a b d := fun a b d => by
  unfold Z163
  rw [IW']; exact IZ162 a b d
theorem IZ164 {h w L : Nat} {xs : Nat → Int32} : ∀ a b d : Nat, gI (Z164 h w L xs) a b d = IV67 a b d := fun a b d => by
  unfold Z164
  rw [IW']; exact IZ163 a b d
theorem IZ165 {h w L : Nat} {xs : Nat → Int32} : ∀ a b d : Nat, gI (Z165 h w L xs) a b d = IV67 a b d := fun a b d => by
  unfold Z165
  rw [IW']; exact IZ164 a b d
theorem IZ166 {h w L : Nat} {xs : Nat → Int32} : ∀ a b d : Nat, gI (Z166 h w L xs) a b d = IV67 a b d := fun a b d => by
  unfold Z166
  rw [IW']; exact IZ165 a b d
theorem IZ167 {h w L : Nat} {xs : Nat → Int32} : ∀ a b d : Nat, gI (Z167 h w L xs) a b d = IV67 a b d := fun a b d => by
  unfold Z167
  rw [IW']; exact IZ166 a b d
theorem IZ168 {h w L : Nat} {xs : Nat → Int32} : ∀ a b d : Nat, gI (Z168 h w L xs) a b d = IV67 a b d := fun a b d => by
  unfold Z168
  rw [IW']; exact IZ167 a b d
theorem IZ169 {h w L : Nat} {xs : Nat → Int32} : ∀ a b d : Nat, gI (Z169 h w L xs) a b d = IV67 a b d := fun a b d => by
  unfold Z169
  rw [IW']; exact IZ168 a b d
theorem IZ170 {h w L : Nat} {xs : Nat → Int32} : ∀ a b d : Nat, gI (Z170 h w L xs) a b d = IV67 a b d := fun a b d => by
  unfold Z170
  rw [IW']; exact IZ169 a b d
theorem IZ171 {h w L : Nat} {xs : Nat → Int32} : ∀ a b d : Nat, gI (Z171 h w L xs) a b d = IV67 a b d := fun a b d => by
  unfold Z171
  rw [IW']; exact IZ170 a b d
theorem IZ172 {h w L : Nat} {xs : Nat → Int32} : ∀ a b d : Nat, gI (Z172 h w L xs) a b d = IV67 a b d := fun a b d => by
  unfold Z172
  rw [IW']; exact IZ171 a b d
theorem IZ173 {h w L : Nat} {xs : Nat → Int32} : ∀ a b d : Nat, gI (Z173 h w L xs) a b d = IV67 a b d := fun a b d => by
  unfold Z173
  rw [IW']; exact IZ172 a b d
theorem IZ174 {h w L : Nat} {xs : Nat → Int32} : ∀ a b d : Nat, gI (Z174 h w L xs) a b d = IV67 a b d := fun a b d => by
  unfold Z174
  rw [IW']; exact IZ173 a b d
theorem IZ175 {h w L : Nat} {xs : Nat → Int32} : ∀ a b d : Nat, gI (Z175 h w L xs) a b d = IV67 a b d := fun a b d => by
  unfold Z175
  rw [IW']; exact IZ174 a b d
theorem IZ176 {h w L : Nat} {xs : Nat → Int32} : ∀ a b d : Nat, gI (Z176 h w L xs) a b d = IV67 a b d := fun a b d => by
  unfold Z176
  rw [IW']; exact IZ175 a b d
theorem IZ177 {h w L : Nat} {xs : Nat → Int32} : ∀ a b d : Nat, gI (Z177 h w L xs) a b d = IV67 a b d := fun a b d => by
  unfold Z177
  rw [IW']; exact IZ176 a b d
theorem IZ178 {h w L : Nat} {xs : Nat → Int32} : ∀ a b d : Nat, gI (Z178 h w L xs) a b d = IV67 a b d := fun a b d => by
  unfold Z178
  rw [IW']; exact IZ177 a b d
theorem IZ179 {h w L : Nat} {xs : Nat → Int32} : ∀ a b d : Nat, gI (Z179 h w L xs) a b d = IV67 a b d := fun a b d => by
  unfold Z179
  rw [IW']; exact IZ178 a b d
theorem IZ180 {h w L : Nat} {xs : Nat → Int32} : ∀ a b d : Nat, gI (Z180 h w L xs) a b d = IV67 a b d := fun a b d => by
  unfold Z180
  rw [IW']; exact IZ179 a b d
theorem IZ181 {h w L : Nat} {xs : Nat → Int32} : ∀ a b d : Nat, gI (Z181 h w L xs) a b d = IV67 a b d := fun a b d => by
  unfold Z181
  rw [IW']; exact IZ180 a b d
theorem IZ182 {h w L : Nat} {xs : Nat → Int32} : ∀ a b d : Nat, gI (Z182 h w L xs) a b d = IV67 a b d := fun a b d => by
  unfold Z182
  rw [IW']; exact IZ181 a b d
theorem IZ183 {h w L : Nat} {xs : Nat → Int32} : ∀ a b d : Nat, gI (Z183 h w L xs) a b d = IV67 a b d := fun a b d => by
  unfold Z183
  rw [IW']; exact IZ182 a b d
theorem IZ184 {h w L : Nat} {xs : Nat → Int32} : ∀ a b d : Nat, gI (Z184 h w L xs) a b d = IV67 a b d := fun a b d => by
  unfold Z184
  rw [IW']; exact IZ183 a b d
theorem IZ185 {h w L : Nat} {xs : Nat → Int32} : ∀ a b d : Nat, gI (Z185 h w L xs) a b d = IV67 a b d := fun a b d => by
  unfold Z185
  rw [IW']; exact IZ184 a b d
theorem IZ186 {h w L : Nat} {xs : Nat → Int32} : ∀ a b d : Nat, gI (Z186 h w L xs) a b d = IV67 a b d := fun a b d => by
  unfold Z186
  rw [IW']; exact IZ185 a b d
theorem IZ187 {h w L : Nat} {xs : Nat → Int32} : ∀ a b d : Nat, gI (Z187 h w L xs) a b d = IV67 a b d := fun a b d => by
  unfold Z187
  rw [IW']; exact IZ186 a b d
theorem IZ188 {h w L : Nat} {xs : Nat → Int32} : ∀ a b d : Nat, gI (Z188 h w L xs) a b d = IV67 a b d := fun a b d => by
  unfold Z188
  rw [IW']; exact IZ187 a b d
theorem IZ189 {h w L : Nat} {xs : Nat → Int32} : ∀ a b d : Nat, gI (Z189 h w L xs) a b d = IV67 a b d := fun a b d => by
  unfold Z189
  rw [IW']; exact IZ188 a b d
theorem IZ190 {h w L : Nat} {xs : Nat → Int32} : ∀ a b d : Nat, gI (Z190 h w L xs) a b d = IV67 a b d := fun a b d => by
  unfold Z190
  rw [IW']; exact IZ189 a b d
def IV68 : Nat → Nat → Nat → Int32 := fun a b d => if a = 12 ∧ b = 69 ∧ d = 0 then 5 else IV67 a b d
theorem IZ191 {h w L : Nat} {xs : Nat → Int32} : ∀ a b d : Nat, gI (Z191 h w L xs) a b d = IV68 a b d := fun a b d => by
  unfold Z191 IV68
  rw [IIp, IZ190 a b d]
theorem IZ192 {h w L : Nat} {xs : Nat → Int32} : ∀ a b d : Nat, gI (Z192 h w L xs) a b d = IV68 a b d := fun a b d => by
  unfold Z192
  rw [IW']; exact IZ191 a b d
theorem IZ193 {h w L : Nat} {xs : Nat → Int32} : ∀ a b d : Nat, gI (Z193 h w L xs) a b d = IV68 a b d := fun a b d => by
  unfold Z193
  rw [IW']; exact IZ192 a b d
theorem IZ194 {h w L : Nat} {xs : Nat → Int32} : ∀ a b d : Nat, gI (Z194 h w L xs) a b d = IV68 a b d := fun a b d => by
  unfold Z194
  rw [IW']; exact IZ193 a b d
theorem IZ195 {h w L : Nat} {xs : Nat → Int32} : ∀ a b d : Nat, gI (Z195 h w L xs) a b d = IV68 a b d := fun a b d => by
  unfold Z195
  rw [IW']; exact IZ194 a b d
theorem IZ196 {h w L : Nat} {xs : Nat → Int32} : ∀ a b d : Nat, gI (Z196 h w L xs) a b d = IV68 a b d := fun a b d => by
  unfold Z196
  rw [IW']; exact IZ195 a b d
theorem IZ197 {h w L : Nat} {xs : Nat → Int32} : ∀ a b d : Nat, gI (Z197 h w L xs) a b d = IV68 a b d := fun a b d => by
  unfold Z197
  rw [IW']; exact IZ196 a b d
theorem IZ198 {h w L : Nat} {xs : Nat → Int32} : ∀ a b d : Nat, gI (Z198 h w L xs) a b d = IV68 a b d := fun a b d => by
  unfold Z198
  rw [IW']; exact IZ197 a b d
theorem IZ199 {h w L : Nat} {xs : Nat → Int32} : ∀ a b d : Nat, gI (Z199 h w L xs) a b d = IV68 a b d := fun a b d => by
  unfold Z199
  rw [IW']; exact IZ198 a b d
theorem IZ200 {h w L : Nat} {xs : Nat → Int32} : ∀ a b d : Nat, gI (Z200 h w L xs) a b d = IV68 a b d := fun a b d => by
  unfold Z200
  rw [IW']; exact IZ199 a b d
theorem IZ201 {h w L : Nat} {xs : Nat → Int32} : ∀ a b d : Nat, gI (Z201 h w L xs) a b d = IV68 a b d := fun a b d => by
  unfold Z201
  rw [IW']; exact IZ200 a b d
theorem IZ202 {h w L : Nat} {xs : Nat → Int32} : ∀ a b d : Nat, gI (Z202 h w L xs) a b d = IV68 a b d := fun a b d => by
  unfold Z202
  rw [IW']; exact IZ201 a b d
theorem IZ203 {h w L : Nat} {xs : Nat → Int32} : ∀ a b d : Nat, gI (Z203 h w L xs) a b d = IV68 a b d := fun a b d => by
  unfold Z203
  rw [IW']; exact IZ202 a b d
theorem IZ204 {h w L : Nat} {xs : Nat → Int32} : ∀ a b d : Nat, gI (Z204 h w L xs) a b d = IV68 a b d := fun a b d => by
  unfold Z204
  rw [IA]; exact IZ203 a b d
theorem IZ205 {h w L : Nat} {xs : Nat → Int32} : ∀ a b d : Nat, gI (Z205 h w L xs) a b d = IV68 a b d := fun a b d => by
  unfold Z205
  rw [IA]; exact IZ204 a b d
theorem IZ206 {h w L : Nat} {xs : Nat → Int32} : ∀ a b d : Nat, gI (Z206 h w L xs) a b d = IV68 a b d := fun a b d => by
  unfold Z206
  rw [IA]; exact IZ205 a b d
theorem IZ207 {h w L : Nat} {xs : Nat → Int32} : ∀ a b d : Nat, gI (Z207 h w L xs) a b d = IV68 a b d := fun a b d => by
  unfold Z207
  rw [IA]; exact IZ206 a b d
theorem IZ208 {h w L : Nat} {xs : Nat → Int32} : ∀ a b d : Nat, gI (Z208 h w L xs) a b d = IV68 a b d := fun a b d => by
  unfold Z208
  rw [IA]; exact IZ207 a b d
theorem IZ209 {h w L : Nat} {xs : Nat → Int32} : ∀ a b d : Nat, gI (Z209 h w L xs) a b d = IV68 a b d := fun a b d => by
  unfold Z209
  rw [IA]; exact IZ208 a b d
theorem IZ210 {h w L : Nat} {xs : Nat → Int32} : ∀ a b d : Nat, gI (Z210 h w L xs) a b d = IV68 a b d := fun a b d => by
  unfold Z210
  rw [IA]; exact IZ209 a b d
theorem IZ211 {h w L : Nat} {xs : Nat → Int32} : ∀ a b d : Nat, gI (Z211 h w L xs) a b d = IV68 a b d := fun a b d => by
  unfold Z211
  rw [IA]; exact IZ210 a b d
theorem IZ212 {h w L : Nat} {xs : Nat → Int32} : ∀ a b d : Nat, gI (Z212 h w L xs) a b d = IV68 a b d := fun a b d => by
  unfold Z212
  rw [IA]; exact IZ211 a b d
theorem IZ213 {h w L : Nat} {xs : Nat → Int32} : ∀ a b d : Nat, gI (Z213 h w L xs) a b d = IV68 a b d := fun a b d => by
  unfold Z213
  rw [IA]; exact IZ212 a b d
def RV0 : Nat → Nat → Nat → Option Nat := fun _ _ _ => none
theorem RZ0 {h w L : Nat} {xs : Nat → Int32} : ∀ a b d : Nat, gR (Z0 h w L xs) a b d = RV0 a b d := fun _ _ _ => rfl
def RV1 : Nat → Nat → Nat → Option Nat := fun a b d => if a = 11 ∧ d = 0 then none else RV0 a b d
theorem RZ1 {h w L : Nat} {xs : Nat → Int32} : ∀ a b d : Nat, gR (Z1 h w L xs) a b d = RV1 a b d := fun a b d => by
  unfold Z1 RV1
  rw [ROp, NZ0, nn0_11, RZ0 a b d]
def RV2 : Nat → Nat → Nat → Option Nat := fun a b d => if a = 7 ∧ d = 0 then none else RV1 a b d
theorem RZ2 {h w L : Nat} {xs : Nat → Int32} : ∀ a b d : Nat, gR (Z2 h w L xs) a b d = RV2 a b d := fun a b d => by
  unfold Z2 RV2
  rw [ROp, NZ1, nn1_7, RZ1 a b d]
theorem RZ3 {h w L : Nat} {xs : Nat → Int32} : ∀ a b d : Nat, gR (Z3 h w L xs) a b d = RV2 a b d := fun a b d => by
  unfold Z3
  rw [RW']; exact RZ2 a b d
theorem RZ4 {h w L : Nat} {xs : Nat → Int32} : ∀ a b d : Nat, gR (Z4 h w L xs) a b d = RV2 a b d := fun a b d => by
  unfold Z4
  rw [RI]; exact RZ3 a b d
theorem RZ5 {h w L : Nat} {xs : Nat → Int32} : ∀ a b d : Nat, gR (Z5 h w L xs) a b d = RV2 a b d := fun a b d => by
  unfold Z5
  rw [RI]; exact RZ4 a b d
def RV3 : Nat → Nat → Nat → Option Nat := fun a b d => if a = 11 ∧ b = 0 ∧ d = 0 then (some 0) else RV2 a b d
theorem RZ6 {h w L : Nat} {xs : Nat → Int32} : ∀ a b d : Nat, gR (Z6 h w L xs) a b d = RV3 a b d := fun a b d => by
  unfold Z6 RV3
  rw [RRp, RZ5 a b d]
theorem RZ7 {h w L : Nat} {xs : Nat → Int32} : ∀ a b d : Nat, gR (Z7 h w L xs) a b d = RV3 a b d := fun a b d => by
  unfold Z7
  rw [RW']; exact RZ6 a b d
theorem RZ8 {h w L : Nat} {xs : Nat → Int32} : ∀ a b d : Nat, gR (Z8 h w L xs) a b d = RV3 a b d := fun a b d => by
  unfold Z8
  rw [RW']; exact RZ7 a b d
theorem RZ9 {h w L : Nat} {xs : Nat → Int32} : ∀ a b d : Nat, gR (Z9 h w L xs) a b d = RV3 a b d := fun a b d => by
  unfold Z9
  rw [RW']; exact RZ8 a b d
def RV4 : Nat → Nat → Nat → Option Nat := fun a b d => if a = 0 ∧ d = 0 then none else RV3 a b d
theorem RZ10 {h w L : Nat} {xs : Nat → Int32} : ∀ a b d : Nat, gR (Z10 h w L xs) a b d = RV4 a b d := fun a b d => by
  unfold Z10 RV4
  rw [ROp, NZ9, nn2_0, RZ9 a b d]
theorem RZ11 {h w L : Nat} {xs : Nat → Int32} : ∀ a b d : Nat, gR (Z11 h w L xs) a b d = RV4 a b d := fun a b d => by
  unfold Z11
  rw [RI]; exact RZ10 a b d
theorem RZ12 {h w L : Nat} {xs : Nat → Int32} : ∀ a b d : Nat, gR (Z12 h w L xs) a b d = RV4 a b d := fun a b d => by
  unfold Z12
  rw [RI]; exact RZ11 a b d
theorem RZ13 {h w L : Nat} {xs : Nat → Int32} : ∀ a b d : Nat, gR (Z13 h w L xs) a b d = RV4 a b d := fun a b d => by
  unfold Z13
  rw [RW']; exact RZ12 a b d
theorem RZ14 {h w L : Nat} {xs : Nat → Int32} : ∀ a b d : Nat, gR (Z14 h w L xs) a b d = RV4 a b d := fun a b d => by
  unfold Z14
  rw [RW']; exact RZ13 a b d
theorem RZ15 {h w L : Nat} {xs : Nat → Int32} : ∀ a b d : Nat, gR (Z15 h w L xs) a b d = RV4 a b d := fun a b d => by
  unfold Z15
  rw [RW']; exact RZ14 a b d
theorem RZ16 {h w L : Nat} {xs : Nat → Int32} : ∀ a b d : Nat, gR (Z16 h w L xs) a b d = RV4 a b d := fun a b d => by
  unfold Z16
  rw [RW']; exact RZ15 a b d
theorem RZ17 {h w L : Nat} {xs : Nat → Int32} : ∀ a b d : Nat, gR (Z17 h w L xs) a b d = RV4 a b d := fun a b d => by
  unfold Z17
  rw [RW']; exact RZ16 a b d
theorem RZ18 {h w L : Nat} {xs : Nat → Int32} : ∀ a b d : Nat, gR (Z18 h w L xs) a b d = RV4 a b d := fun a b d => by
  unfold Z18
  rw [RW']; exact RZ17 a b d
theorem RZ19 {h w L : Nat} {xs : Nat → Int32} : ∀ a b d : Nat, gR (Z19 h w L xs) a b d = RV4 a b d := fun a b d => by
  unfold Z19
  rw [RI]; exact RZ18 a b d
def RV5 : Nat → Nat → Nat → Option Nat := fun a b d => if a = 11 ∧ b = 4 ∧ d = 0 then (some 0) else RV4 a b d
theorem RZ20 {h w L : Nat} {xs : Nat → Int32} : ∀ a b d : Nat, gR (Z20 h w L xs) a b d = RV5 a b d := fun a b d => by
  unfold Z20 RV5
  rw [RRp, RZ19 a b d]
def RV6 : Nat → Nat → Nat → Option Nat := fun a b d => if a = 1 ∧ d = 0 then none else RV5 a b d
theorem RZ21 {h w L : Nat} {xs : Nat → Int32} : ∀ a b d : Nat, gR (Z21 h w L xs) a b d = RV6 a b d := fun a b d => by
  unfold Z21 RV6
  rw [ROp, NZ20, nn3_1, RZ20 a b d]
theorem RZ22 {h w L : Nat} {xs : Nat → Int32} : ∀ a b d : Nat, gR (Z22 h w L xs) a b d = RV6 a b d := fun a b d => by
  unfold Z22
  rw [RI]; exact RZ21 a b d
theorem RZ23 {h w L : Nat} {xs : Nat → Int32} : ∀ a b d : Nat, gR (Z23 h w L xs) a b d = RV6 a b d := fun a b d => by
  unfold Z23
  rw [RW']; exact RZ22 a b d
theorem RZ24 {h w L : Nat} {xs : Nat → Int32} : ∀ a b d : Nat, gR (Z24 h w L xs) a b d = RV6 a b d := fun a b d => by
  unfold Z24
  rw [RW']; exact RZ23 a b d
theorem RZ25 {h w L : Nat} {xs : Nat → Int32} : ∀ a b d : Nat, gR (Z25 h w L xs) a b d = RV6 a b d := fun a b d => by
  unfold Z25
  rw [RW']; exact RZ24 a b d
def RV7 : Nat → Nat → Nat → Option Nat := fun a b d => if a = 11 ∧ b = 5 ∧ d = 0 then (some 0) else RV6 a b d
theorem RZ26 {h w L : Nat} {xs : Nat → Int32} : ∀ a b d : Nat, gR (Z26 h w L xs) a b d = RV7 a b d := fun a b d => by
  unfold Z26 RV7
  rw [RRp, RZ25 a b d]
theorem RZ27 {h w L : Nat} {xs : Nat → Int32} : ∀ a b d : Nat, gR (Z27 h w L xs) a b d = RV7 a b d := fun a b d => by
  unfold Z27
  rw [RW']; exact RZ26 a b d
theorem RZ28 {h w L : Nat} {xs : Nat → Int32} : ∀ a b d : Nat, gR (Z28 h w L xs) a b d = RV7 a b d := fun a b d => by
  unfold Z28
  rw [RI]; exact RZ27 a b d
theorem RZ29 {h w L : Nat} {xs : Nat → Int32} : ∀ a b d : Nat, gR (Z29 h w L xs) a b d = RV7 a b d := fun a b d => by
  unfold Z29
  rw [RW']; exact RZ28 a b d
theorem RZ30 {h w L : Nat} {xs : Nat → Int32} : ∀ a b d : Nat, gR (Z30 h w L xs) a b d = RV7 a b d := fun a b d => by
  unfold Z30
  rw [RI]; exact RZ29 a b d
theorem RZ31 {h w L : Nat} {xs : Nat → Int32} : ∀ a b d : Nat, gR (Z31 h w L xs) a b d = RV7 a b d := fun a b d => by
  unfold Z31
  rw [RW']; exact RZ30 a b d
theorem RZ32 {h w L : Nat} {xs : Nat → Int32} : ∀ a b d : Nat, gR (Z32 h w L xs) a b d = RV7 a b d := fun a b d => by
  unfold Z32
  rw [RI]; exact RZ31 a b d
theorem RZ33 {h w L : Nat} {xs : Nat → Int32} : ∀ a b d : Nat, gR (Z33 h w L xs) a b d = RV7 a b d := fun a b d => by
  unfold Z33
  rw [RW']; exact RZ32 a b d
def RV8 : Nat → Nat → Nat → Option Nat := fun a b d => if a = 2 ∧ d = 0 then none else RV7 a b d
theorem RZ34 {h w L : Nat} {xs : Nat → Int32} : ∀ a b d : Nat, gR (Z34 h w L xs) a b d = RV8 a b d := fun a b d => by
  unfold Z34 RV8
  rw [ROp, NZ33, nn4_2, RZ33 a b d]
theorem RZ35 {h w L : Nat} {xs : Nat → Int32} : ∀ a b d : Nat, gR (Z35 h w L xs) a b d = RV8 a b d := fun a b d => by
  unfold Z35
  rw [RW']; exact RZ34 a b d
theorem RZ36 {h w L : Nat} {xs : Nat → Int32} : ∀ a b d : Nat, gR (Z36 h w L xs) a b d = RV8 a b d := fun a b d => by
  unfold Z36
  rw [RW']; exact RZ35 a b d
theorem RZ37 {h w L : Nat} {xs : Nat → Int32} : ∀ a b d : Nat, gR (Z37 h w L xs) a b d = RV8 a b d := fun a b d => by
  unfold Z37
  rw [RW']; exact RZ36 a b d
theorem RZ38 {h w L : Nat} {xs : Nat → Int32} : ∀ a b d : Nat, gR (Z38 h w L xs) a b d = RV8 a b d := fun a b d => by
  unfold Z38
  rw [RI]; exact RZ37 a b d
def RV9 : Nat → Nat → Nat → Option Nat := fun a b d => if a = 11 ∧ b = 13 ∧ d = 0 then (some 0) else RV8 a b d
theorem RZ39 {h w L : Nat} {xs : Nat → Int32} : ∀ a b d : Nat, gR (Z39 h w L xs) a b d = RV9 a b d := fun a b d => by
  unfold Z39 RV9
  rw [RRp, RZ38 a b d]
theorem RZ40 {h w L : Nat} {xs : Nat → Int32} : ∀ a b d : Nat, gR (Z40 h w L xs) a b d = RV9 a b d := fun a b d => by
  unfold Z40
  rw [RW']; exact RZ39 a b d
theorem RZ41 {h w L : Nat} {xs : Nat → Int32} : ∀ a b d : Nat, gR (Z41 h w L xs) a b d = RV9 a b d := fun a b d => by
  unfold Z41
  rw [RI]; exact RZ40 a b d
theorem RZ42 {h w L : Nat} {xs : Nat → Int32} : ∀ a b d : Nat, gR (Z42 h w L xs) a b d = RV9 a b d := fun a b d => by
  unfold Z42
  rw [RW']; exact RZ41 a b d
def RV10 : Nat → Nat → Nat → Option Nat := fun a b d => if a = 5 ∧ d = 0 then none else RV9 a b d
theorem RZ43 {h w L : Nat} {xs : Nat → Int32} : ∀ a b d : Nat, gR (Z43 h w L xs) a b d = RV10 a b d := fun a b d => by
  unfold Z43 RV10
  rw [ROp, NZ42, nn5_5, RZ42 a b d]
theorem RZ44 {h w L : Nat} {xs : Nat → Int32} : ∀ a b d : Nat, gR (Z44 h w L xs) a b d = RV10 a b d := fun a b d => by
  unfold Z44
  rw [RW']; exact RZ43 a b d
theorem RZ45 {h w L : Nat} {xs : Nat → Int32} : ∀ a b d : Nat, gR (Z45 h w L xs) a b d = RV10 a b d := fun a b d => by
  unfold Z45
  rw [RW']; exact RZ44 a b d
theorem RZ46 {h w L : Nat} {xs : Nat → Int32} : ∀ a b d : Nat, gR (Z46 h w L xs) a b d = RV10 a b d := fun a b d => by
  unfold Z46
  rw [RW']; exact RZ45 a b d
theorem RZ47 {h w L : Nat} {xs : Nat → Int32} : ∀ a b d : Nat, gR (Z47 h w L xs) a b d = RV10 a b d := fun a b d => by
  unfold Z47
  rw [RW']; exact RZ46 a b d
theorem RZ48 {h w L : Nat} {xs : Nat → Int32} : ∀ a b d : Nat, gR (Z48 h w L xs) a b d = RV10 a b d := fun a b d => by
  unfold Z48
  rw [RW']; exact RZ47 a b d
theorem RZ49 {h w L : Nat} {xs : Nat → Int32} : ∀ a b d : Nat, gR (Z49 h w L xs) a b d = RV10 a b d := fun a b d => by
  unfold Z49
  rw [RW']; exact RZ48 a b d
theorem RZ50 {h w L : Nat} {xs : Nat → Int32} : ∀ a b d : Nat, gR (Z50 h w L xs) a b d = RV10 a b d := fun a b d => by
  unfold Z50
  rw [RW']; exact RZ49 a b d
theorem RZ51 {h w L : Nat} {xs : Nat → Int32} : ∀ a b d : Nat, gR (Z51 h w L xs) a b d = RV10 a b d := fun a b d => by
  unfold Z51
  rw [RW']; exact RZ50 a b d
theorem RZ52 {h w L : Nat} {xs : Nat → Int32} : ∀ a b d : Nat, gR (Z52 h w L xs) a b d = RV10 a b d := fun a b d => by
  unfold Z52
  rw [RI]; exact RZ51 a b d
theorem RZ53 {h w L : Nat} {xs : Nat → Int32} : ∀ a b d : Nat, gR (Z53 h w L xs) a b d = RV10 a b d := fun a b d => by
  unfold Z53
  rw [RI]; exact RZ52 a b d
theorem RZ54 {h w L : Nat} {xs : Nat → Int32} : ∀ a b d : Nat, gR (Z54 h w L xs) a b d = RV10 a b d := fun a b d => by
  unfold Z54
  rw [RI]; exact RZ53 a b d
theorem RZ55 {h w L : Nat} {xs : Nat → Int32} : ∀ a b d : Nat, gR (Z55 h w L xs) a b d = RV10 a b d := fun a b d => by
  unfold Z55
  rw [RI]; exact RZ54 a b d
def RV11 : Nat → Nat → Nat → Option Nat := fun a b d => if a = 11 ∧ b = 17 ∧ d = 0 then (some 0) else RV10 a b d
theorem RZ56 {h w L : Nat} {xs : Nat → Int32} : ∀ a b d : Nat, gR (Z56 h w L xs) a b d = RV11 a b d := fun a b d => by
  unfold Z56 RV11
  rw [RRp, RZ55 a b d]
def RV12 : Nat → Nat → Nat → Option Nat := fun a b d => if a = 10 ∧ d = 0 then none else RV11 a b d
theorem RZ57 {h w L : Nat} {xs : Nat → Int32} : ∀ a b d : Nat, gR (Z57 h w L xs) a b d = RV12 a b d := fun a b d => by
  unfold Z57 RV12
  rw [ROp, NZ56, nn6_10, RZ56 a b d]
theorem RZ58 {h w L : Nat} {xs : Nat → Int32} : ∀ a b d : Nat, gR (Z58 h w L xs) a b d = RV12 a b d := fun a b d => by
  unfold Z58
  rw [RW']; exact RZ57 a b d
theorem RZ59 {h w L : Nat} {xs : Nat → Int32} : ∀ a b d : Nat, gR (Z59 h w L xs) a b d = RV12 a b d := fun a b d => by
  unfold Z59
  rw [RW']; exact RZ58 a b d
theorem RZ60 {h w L : Nat} {xs : Nat → Int32} : ∀ a b d : Nat, gR (Z60 h w L xs) a b d = RV12 a b d := fun a b d => by
  unfold Z60
  rw [RW']; exact RZ59 a b d
def RV13 : Nat → Nat → Nat → Option Nat := fun a b d => if a = 11 ∧ b = 18 ∧ d = 0 then (some 0) else RV12 a b d
theorem RZ61 {h w L : Nat} {xs : Nat → Int32} : ∀ a b d : Nat, gR (Z61 h w L xs) a b d = RV13 a b d := fun a b d => by
  unfold Z61 RV13
  rw [RRp, RZ60 a b d]
theorem RZ62 {h w L : Nat} {xs : Nat → Int32} : ∀ a b d : Nat, gR (Z62 h w L xs) a b d = RV13 a b d := fun a b d => by
  unfold Z62
  rw [RW']; exact RZ61 a b d
def RV14 : Nat → Nat → Nat → Option Nat := fun a b d => if a = 1 ∧ d = 1 then none else RV13 a b d
theorem RZ63 {h w L : Nat} {xs : Nat → Int32} : ∀ a b d : Nat, gR (Z63 h w L xs) a b d = RV14 a b d := fun a b d => by
  unfold Z63 RV14
  rw [ROp, NZ62, nn7_1, RZ62 a b d]
theorem RZ64 {h w L : Nat} {xs : Nat → Int32} : ∀ a b d : Nat, gR (Z64 h w L xs) a b d = RV14 a b d := fun a b d => by
  unfold Z64
  rw [RI]; exact RZ63 a b d
theorem RZ65 {h w L : Nat} {xs : Nat → Int32} : ∀ a b d : Nat, gR (Z65 h w L xs) a b d = RV14 a b d := fun a b d => by
  unfold Z65
  rw [RW']; exact RZ64 a b d
theorem RZ66 {h w L : Nat} {xs : Nat → Int32} : ∀ a b d : Nat, gR (Z66 h w L xs) a b d = RV14 a b d := fun a b d => by
  unfold Z66
  rw [RW']; exact RZ65 a b d
theorem RZ67 {h w L : Nat} {xs : Nat → Int32} : ∀ a b d : Nat, gR (Z67 h w L xs) a b d = RV14 a b d := fun a b d => by
  unfold Z67
  rw [RW']; exact RZ66 a b d
theorem RZ68 {h w L : Nat} {xs : Nat → Int32} : ∀ a b d : Nat, gR (Z68 h w L xs) a b d = RV14 a b d := fun a b d => by
  unfold Z68
  rw [RQ]; exact RZ67 a b d
def RV15 : Nat → Nat → Nat → Option Nat := fun a b d => if a = 1 ∧ d = 2 then none else RV14 a b d
theorem RZ69 {h w L : Nat} {xs : Nat → Int32} : ∀ a b d : Nat, gR (Z69 h w L xs) a b d = RV15 a b d := fun a b d => by
  unfold Z69 RV15
  rw [ROp, NZ68, nn8_1, RZ68 a b d]
theorem RZ70 {h w L : Nat} {xs : Nat → Int32} : ∀ a b d : Nat, gR (Z70 h w L xs) a b d = RV15 a b d := fun a b d => by
  unfold Z70
  rw [RI]; exact RZ69 a b d
theorem RZ71 {h w L : Nat} {xs : Nat → Int32} : ∀ a b d : Nat, gR (Z71 h w L xs) a b d = RV15 a b d := fun a b d => by
  unfold Z71
  rw [RW']; exact RZ70 a b d
theorem RZ72 {h w L : Nat} {xs : Nat → Int32} : ∀ a b d : Nat, gR (Z72 h w L xs) a b d = RV15 a b d := fun a b d => by
  unfold Z72
  rw [RW']; exact RZ71 a b d
theorem RZ73 {h w L : Nat} {xs : Nat → Int32} : ∀ a b d : Nat, gR (Z73 h w L xs) a b d = RV15 a b d := fun a b d => by
  unfold Z73
  rw [RW']; exact RZ72 a b d
theorem RZ74 {h w L : Nat} {xs : Nat → Int32} : ∀ a b d : Nat, gR (Z74 h w L xs) a b d = RV15 a b d := fun a b d => by
  unfold Z74
  rw [RQ]; exact RZ73 a b d
def RV16 : Nat → Nat → Nat → Option Nat := fun a b d => if a = 1 ∧ d = 3 then none else RV15 a b d
theorem RZ75 {h w L : Nat} {xs : Nat → Int32} : ∀ a b d : Nat, gR (Z75 h w L xs) a b d = RV16 a b d := fun a b d => by
  unfold Z75 RV16
  rw [ROp, NZ74, nn9_1, RZ74 a b d]
theorem RZ76 {h w L : Nat} {xs : Nat → Int32} : ∀ a b d : Nat, gR (Z76 h w L xs) a b d = RV16 a b d := fun a b d => by
  unfold Z76
  rw [RI]; exact RZ75 a b d
theorem RZ77 {h w L : Nat} {xs : Nat → Int32} : ∀ a b d : Nat, gR (Z77 h w L xs) a b d = RV16 a b d := fun a b d => by
  unfold Z77
  rw [RW']; exact RZ76 a b d
theorem RZ78 {h w L : Nat} {xs : Nat → Int32} : ∀ a b d : Nat, gR (Z78 h w L xs) a b d = RV16 a b d := fun a b d => by
  unfold Z78
  rw [RW']; exact RZ77 a b d
theorem RZ79 {h w L : Nat} {xs : Nat → Int32} : ∀ a b d : Nat, gR (Z79 h w L xs) a b d = RV16 a b d := fun a b d => by
  unfold Z79
  rw [RW']; exact RZ78 a b d
theorem RZ80 {h w L : Nat} {xs : Nat → Int32} : ∀ a b d : Nat, gR (Z80 h w L xs) a b d = RV16 a b d := fun a b d => by
  unfold Z80
  rw [RQ]; exact RZ79 a b d
def RV17 : Nat → Nat → Nat → Option Nat := fun a b d => if a = 1 ∧ d = 4 then none else RV16 a b d
theorem RZ81 {h w L : Nat} {xs : Nat → Int32} : ∀ a b d : Nat, gR (Z81 h w L xs) a b d = RV17 a b d := fun a b d => by
  unfold Z81 RV17
  rw [ROp, NZ80, nn10_1, RZ80 a b d]
theorem RZ82 {h w L : Nat} {xs : Nat → Int32} : ∀ a b d : Nat, gR (Z82 h w L xs) a b d = RV17 a b d := fun a b d => by
  unfold Z82
  rw [RI]; exact RZ81 a b d
theorem RZ83 {h w L : Nat} {xs : Nat → Int32} : ∀ a b d : Nat, gR (Z83 h w L xs) a b d = RV17 a b d := fun a b d => by
  unfold Z83
  rw [RW']; exact RZ82 a b d
theorem RZ84 {h w L : Nat} {xs : Nat → Int32} : ∀ a b d : Nat, gR (Z84 h w L xs) a b d = RV17 a b d := fun a b d => by
  unfold Z84
  rw [RW']; exact RZ83 a b d
theorem RZ85 {h w L : Nat} {xs : Nat → Int32} : ∀ a b d : Nat, gR (Z85 h w L xs) a b d = RV17 a b d := fun a b d => by
  unfold Z85
  rw [RW']; exact RZ84 a b d
theorem RZ86 {h w L : Nat} {xs : Nat → Int32} : ∀ a b d : Nat, gR (Z86 h w L xs) a b d = RV17 a b d := fun a b d => by
  unfold Z86
  rw [RQ]; exact RZ85 a b d
def RV18 : Nat → Nat → Nat → Option Nat := fun a b d => if a = 3 ∧ d = 0 then none else RV17 a b d
theorem RZ87 {h w L : Nat} {xs : Nat → Int32} : ∀ a b d : Nat, gR (Z87 h w L xs) a b d = RV18 a b d := fun a b d => by
  unfold Z87 RV18
  rw [ROp, NZ86, nn11_3, RZ86 a b d]
theorem RZ88 {h w L : Nat} {xs : Nat → Int32} : ∀ a b d : Nat, gR (Z88 h w L xs) a b d = RV18 a b d := fun a b d => by
  unfold Z88
  rw [RI]; exact RZ87 a b d
theorem RZ89 {h w L : Nat} {xs : Nat → Int32} : ∀ a b d : Nat, gR (Z89 h w L xs) a b d = RV18 a b d := fun a b d => by
  unfold Z89
  rw [RI]; exact RZ88 a b d
theorem RZ90 {h w L : Nat} {xs : Nat → Int32} : ∀ a b d : Nat, gR (Z90 h w L xs) a b d = RV18 a b d := fun a b d => by
  unfold Z90
  rw [RI]; exact RZ89 a b d
theorem RZ91 {h w L : Nat} {xs : Nat → Int32} : ∀ a b d : Nat, gR (Z91 h w L xs) a b d = RV18 a b d := fun a b d => by
  unfold Z91
  rw [RQ]; exact RZ90 a b d
def RV19 : Nat → Nat → Nat → Option Nat := fun a b d => if a = 3 ∧ d = 1 then none else RV18 a b d
theorem RZ92 {h w L : Nat} {xs : Nat → Int32} : ∀ a b d : Nat, gR (Z92 h w L xs) a b d = RV19 a b d := fun a b d => by
  unfold Z92 RV19
  rw [ROp, NZ91, nn12_3, RZ91 a b d]
theorem RZ93 {h w L : Nat} {xs : Nat → Int32} : ∀ a b d : Nat, gR (Z93 h w L xs) a b d = RV19 a b d := fun a b d => by
  unfold Z93
  rw [RI]; exact RZ92 a b d
theorem RZ94 {h w L : Nat} {xs : Nat → Int32} : ∀ a b d : Nat, gR (Z94 h w L xs) a b d = RV19 a b d := fun a b d => by
  unfold Z94
  rw [RI]; exact RZ93 a b d
theorem RZ95 {h w L : Nat} {xs : Nat → Int32} : ∀ a b d : Nat, gR (Z95 h w L xs) a b d = RV19 a b d := fun a b d => by
  unfold Z95
  rw [RI]; exact RZ94 a b d
theorem RZ96 {h w L : Nat} {xs : Nat → Int32} : ∀ a b d : Nat, gR (Z96 h w L xs) a b d = RV19 a b d := fun a b d => by
  unfold Z96
  rw [RQ]; exact RZ95 a b d
def RV20 : Nat → Nat → Nat → Option Nat := fun a b d => if a = 3 ∧ d = 2 then none else RV19 a b d
theorem RZ97 {h w L : Nat} {xs : Nat → Int32} : ∀ a b d : Nat, gR (Z97 h w L xs) a b d = RV20 a b d := fun a b d => by
  unfold Z97 RV20
  rw [ROp, NZ96, nn13_3, RZ96 a b d]
theorem RZ98 {h w L : Nat} {xs : Nat → Int32} : ∀ a b d : Nat, gR (Z98 h w L xs) a b d = RV20 a b d := fun a b d => by
  unfold Z98
  rw [RI]; exact RZ97 a b d
theorem RZ99 {h w L : Nat} {xs : Nat → Int32} : ∀ a b d : Nat, gR (Z99 h w L xs) a b d = RV20 a b d := fun a b d => by
  unfold Z99
  rw [RI]; exact RZ98 a b d
theorem RZ100 {h w L : Nat} {xs : Nat → Int32} : ∀ a b d : Nat, gR (Z100 h w L xs) a b d = RV20 a b d := fun a b d => by
  unfold Z100
  rw [RI]; exact RZ99 a b d
theorem RZ101 {h w L : Nat} {xs : Nat → Int32} : ∀ a b d : Nat, gR (Z101 h w L xs) a b d = RV20 a b d := fun a b d => by
  unfold Z101
  rw [RQ]; exact RZ100 a b d
def RV21 : Nat → Nat → Nat → Option Nat := fun a b d => if a = 3 ∧ d = 3 then none else RV20 a b d
theorem RZ102 {h w L : Nat} {xs : Nat → Int32} : ∀ a b d : Nat, gR (Z102 h w L xs) a b d = RV21 a b d := fun a b d => by
  unfold Z102 RV21
  rw [ROp, NZ101, nn14_3, RZ101 a b d]
theorem RZ103 {h w L : Nat} {xs : Nat → Int32} : ∀ a b d : Nat, gR (Z103 h w L xs) a b d = RV21 a b d := fun a b d => by
  unfold Z103
  rw [RI]; exact RZ102 a b d
theorem RZ104 {h w L : Nat} {xs : Nat → Int32} : ∀ a b d : Nat, gR (Z104 h w L xs) a b d = RV21 a b d := fun a b d => by
  unfold Z104
  rw [RI]; exact RZ103 a b d
theorem RZ105 {h w L : Nat} {xs : Nat → Int32} : ∀ a b d : Nat, gR (Z105 h w L xs) a b d = RV21 a b d := fun a b d => by
  unfold Z105
  rw [RI]; exact RZ104 a b d
theorem RZ106 {h w L : Nat} {xs : Nat → Int32} : ∀ a b d : Nat, gR (Z106 h w L xs) a b d = RV21 a b d := fun a b d => by
  unfold Z106
  rw [RQ]; exact RZ105 a b d
def RV22 : Nat → Nat → Nat → Option Nat := fun a b d => if a = 3 ∧ d = 4 then none else RV21 a b d
theorem RZ107 {h w L : Nat} {xs : Nat → Int32} : ∀ a b d : Nat, gR (Z107 h w L xs) a b d = RV22 a b d := fun a b d => by
  unfold Z107 RV22
  rw [ROp, NZ106, nn15_3, RZ106 a b d]
theorem RZ108 {h w L : Nat} {xs : Nat → Int32} : ∀ a b d : Nat, gR (Z108 h w L xs) a b d = RV22 a b d := fun a b d => by
  unfold Z108
  rw [RI]; exact RZ107 a b d
theorem RZ109 {h w L : Nat} {xs : Nat → Int32} : ∀ a b d : Nat, gR (Z109 h w L xs) a b d = RV22 a b d := fun a b d => by
  unfold Z109
  rw [RI]; exact RZ108 a b d
theorem RZ110 {h w L : Nat} {xs : Nat → Int32} : ∀ a b d : Nat, gR (Z110 h w L xs) a b d = RV22 a b d := fun a b d => by
  unfold Z110
  rw [RI]; exact RZ109 a b d
theorem RZ111 {h w L : Nat} {xs : Nat → Int32} : ∀ a b d : Nat, gR (Z111 h w L xs) a b d = RV22 a b d := fun a b d => by
  unfold Z111
  rw [RQ]; exact RZ110 a b d
def RV23 : Nat → Nat → Nat → Option Nat := fun a b d => if a = 3 ∧ d = 5 then none else RV22 a b d
theorem RZ112 {h w L : Nat} {xs : Nat → Int32} : ∀ a b d : Nat, gR (Z112 h w L xs) a b d = RV23 a b d := fun a b d => by
  unfold Z112 RV23
  rw [ROp, NZ111, nn16_3, RZ111 a b d]
theorem RZ113 {h w L : Nat} {xs : Nat → Int32} : ∀ a b d : Nat, gR (Z113 h w L xs) a b d = RV23 a b d := fun a b d => by
  unfold Z113
  rw [RI]; exact RZ112 a b d
theorem RZ114 {h w L : Nat} {xs : Nat → Int32} : ∀ a b d : Nat, gR (Z114 h w L xs) a b d = RV23 a b d := fun a b d => by
  unfold Z114
  rw [RI]; exact RZ113 a b d
theorem RZ115 {h w L : Nat} {xs : Nat → Int32} : ∀ a b d : Nat, gR (Z115 h w L xs) a b d = RV23 a b d := fun a b d => by
  unfold Z115
  rw [RI]; exact RZ114 a b d
theorem RZ116 {h w L : Nat} {xs : Nat → Int32} : ∀ a b d : Nat, gR (Z116 h w L xs) a b d = RV23 a b d := fun a b d => by
  unfold Z116
  rw [RQ]; exact RZ115 a b d
def RV24 : Nat → Nat → Nat → Option Nat := fun a b d => if a = 6 ∧ d = 0 then none else RV23 a b d
theorem RZ117 {h w L : Nat} {xs : Nat → Int32} : ∀ a b d : Nat, gR (Z117 h w L xs) a b d = RV24 a b d := fun a b d => by
  unfold Z117 RV24
  rw [ROp, NZ116, nn17_6, RZ116 a b d]
theorem RZ118 {h w L : Nat} {xs : Nat → Int32} : ∀ a b d : Nat, gR (Z118 h w L xs) a b d = RV24 a b d := fun a b d => by
  unfold Z118
  rw [RI]; exact RZ117 a b d
theorem RZ119 {h w L : Nat} {xs : Nat → Int32} : ∀ a b d : Nat, gR (Z119 h w L xs) a b d = RV24 a b d := fun a b d => by
  unfold Z119
  rw [RI]; exact RZ118 a b d
theorem RZ120 {h w L : Nat} {xs : Nat → Int32} : ∀ a b d : Nat, gR (Z120 h w L xs) a b d = RV24 a b d := fun a b d => by
  unfold Z120
  rw [RW']; exact RZ119 a b d
theorem RZ121 {h w L : Nat} {xs : Nat → Int32} : ∀ a b d : Nat, gR (Z121 h w L xs) a b d = RV24 a b d := fun a b d => by
  unfold Z121
  rw [RQ]; exact RZ120 a b d
def RV25 : Nat → Nat → Nat → Option Nat := fun a b d => if a = 6 ∧ d = 1 then none else RV24 a b d
theorem RZ122 {h w L : Nat} {xs : Nat → Int32} : ∀ a b d : Nat, gR (Z122 h w L xs) a b d = RV25 a b d := fun a b d => by
  unfold Z122 RV25
  rw [ROp, NZ121, nn18_6, RZ121 a b d]
theorem RZ123 {h w L : Nat} {xs : Nat → Int32} : ∀ a b d : Nat, gR (Z123 h w L xs) a b d = RV25 a b d := fun a b d => by
  unfold Z123
  rw [RI]; exact RZ122 a b d
theorem RZ124 {h w L : Nat} {xs : Nat → Int32} : ∀ a b d : Nat, gR (Z124 h w L xs) a b d = RV25 a b d := fun a b d => by
  unfold Z124
  rw [RI]; exact RZ123 a b d
theorem RZ125 {h w L : Nat} {xs : Nat → Int32} : ∀ a b d : Nat, gR (Z125 h w L xs) a b d = RV25 a b d := fun a b d => by
  unfold Z125
  rw [RW']; exact RZ124 a b d
theorem RZ126 {h w L : Nat} {xs : Nat → Int32} : ∀ a b d : Nat, gR (Z126 h w L xs) a b d = RV25 a b d := fun a b d => by
  unfold Z126
  rw [RQ]; exact RZ125 a b d
def RV26 : Nat → Nat → Nat → Option Nat := fun a b d => if a = 6 ∧ d = 2 then none else RV25 a b d
theorem RZ127 {h w L : Nat} {xs : Nat → Int32} : ∀ a b d : Nat, gR (Z127 h w L xs) a b d = RV26 a b d := fun a b d => by
  unfold Z127 RV26
  rw [ROp, NZ126, nn19_6, RZ126 a b d]
theorem RZ128 {h w L : Nat} {xs : Nat → Int32} : ∀ a b d : Nat, gR (Z128 h w L xs) a b d = RV26 a b d := fun a b d => by
  unfold Z128
  rw [RI]; exact RZ127 a b d
theorem RZ129 {h w L : Nat} {xs : Nat → Int32} : ∀ a b d : Nat, gR (Z129 h w L xs) a b d = RV26 a b d := fun a b d => by
  unfold Z129
  rw [RI]; exact RZ128 a b d
theorem RZ130 {h w L : Nat} {xs : Nat → Int32} : ∀ a b d : Nat, gR (Z130 h w L xs) a b d = RV26 a b d := fun a b d => by
  unfold Z130
  rw [RW']; exact RZ129 a b d
theorem RZ131 {h w L : Nat} {xs : Nat → Int32} : ∀ a b d : Nat, gR (Z131 h w L xs) a b d = RV26 a b d := fun a b d => by
  unfold Z131
  rw [RQ]; exact RZ130 a b d
def RV27 : Nat → Nat → Nat → Option Nat := fun a b d => if a = 6 ∧ d = 3 then none else RV26 a b d
theorem RZ132 {h w L : Nat} {xs : Nat → Int32} : ∀ a b d : Nat, gR (Z132 h w L xs) a b d = RV27 a b d := fun a b d => by
  unfold Z132 RV27
  rw [ROp, NZ131, nn20_6, RZ131 a b d]
theorem RZ133 {h w L : Nat} {xs : Nat → Int32} : ∀ a b d : Nat, gR (Z133 h w L xs) a b d = RV27 a b d := fun a b d => by
  unfold Z133
  rw [RI]; exact RZ132 a b d
theorem RZ134 {h w L : Nat} {xs : Nat → Int32} : ∀ a b d : Nat, gR (Z134 h w L xs) a b d = RV27 a b d := fun a b d => by
  unfold Z134
  rw [RI]; exact RZ133 a b d
theorem RZ135 {h w L : Nat} {xs : Nat → Int32} : ∀ a b d : Nat, gR (Z135 h w L xs) a b d = RV27 a b d := fun a b d => by
  unfold Z135
  rw [RW']; exact RZ134 a b d
theorem RZ136 {h w L : Nat} {xs : Nat → Int32} : ∀ a b d : Nat, gR (Z136 h w L xs) a b d = RV27 a b d := fun a b d => by
  unfold Z136
  rw [RQ]; exact RZ135 a b d
def RV28 : Nat → Nat → Nat → Option Nat := fun a b d => if a = 12 ∧ d = 0 then none else RV27 a b d
theorem RZ137 {h w L : Nat} {xs : Nat → Int32} : ∀ a b d : Nat, gR (Z137 h w L xs) a b d = RV28 a b d := fun a b d => by
  unfold Z137 RV28
  rw [ROp, NZ136, nn21_12, RZ136 a b d]
theorem RZ138 {h w L : Nat} {xs : Nat → Int32} : ∀ a b d : Nat, gR (Z138 h w L xs) a b d = RV28 a b d := fun a b d => by
  unfold Z138
  rw [RW']; exact RZ137 a b d
theorem RZ139 {h w L : Nat} {xs : Nat → Int32} : ∀ a b d : Nat, gR (Z139 h w L xs) a b d = RV28 a b d := fun a b d => by
  unfold Z139
  rw [RW']; exact RZ138 a b d
theorem RZ140 {h w L : Nat} {xs : Nat → Int32} : ∀ a b d : Nat, gR (Z140 h w L xs) a b d = RV28 a b d := fun a b d => by
  unfold Z140
  rw [RW']; exact RZ139 a b d
theorem RZ141 {h w L : Nat} {xs : Nat → Int32} : ∀ a b d : Nat, gR (Z141 h w L xs) a b d = RV28 a b d := fun a b d => by
  unfold Z141
  rw [RW']; exact RZ140 a b d
theorem RZ142 {h w L : Nat} {xs : Nat → Int32} : ∀ a b d : Nat, gR (Z142 h w L xs) a b d = RV28 a b d := fun a b d => by
  unfold Z142
  rw [RW']; exact RZ141 a b d
theorem RZ143 {h w L : Nat} {xs : Nat → Int32} : ∀ a b d : Nat, gR (Z143 h w L xs) a b d = RV28 a b d := fun a b d => by
  unfold Z143
  rw [RW']; exact RZ142 a b d
theorem RZ144 {h w L : Nat} {xs : Nat → Int32} : ∀ a b d : Nat, gR (Z144 h w L xs) a b d = RV28 a b d := fun a b d => by
  unfold Z144
  rw [RW']; exact RZ143 a b d
theorem RZ145 {h w L : Nat} {xs : Nat → Int32} : ∀ a b d : Nat, gR (Z145 h w L xs) a b d = RV28 a b d := fun a b d => by
  unfold Z145
  rw [RW']; exact RZ144 a b d
theorem RZ146 {h w L : Nat} {xs : Nat → Int32} : ∀ a b d : Nat, gR (Z146 h w L xs) a b d = RV28 a b d := fun a b d => by
  unfold Z146
  rw [RW']; exact RZ145 a b d
theorem RZ147 {h w L : Nat} {xs : Nat → Int32} : ∀ a b d : Nat, gR (Z147 h w L xs) a b d = RV28 a b d := fun a b d => by
  unfold Z147
  rw [RW']; exact RZ146 a b d
theorem RZ148 {h w L : Nat} {xs : Nat → Int32} : ∀ a b d : Nat, gR (Z148 h w L xs) a b d = RV28 a b d := fun a b d => by
  unfold Z148
  rw [RW']; exact RZ147 a b d
theorem RZ149 {h w L : Nat} {xs : Nat → Int32} : ∀ a b d : Nat, gR (Z149 h w L xs) a b d = RV28 a b d := fun a b d => by
  unfold Z149
  rw [RW']; exact RZ148 a b d
theorem RZ150 {h w L : Nat} {xs : Nat → Int32} : ∀ a b d : Nat, gR (Z150 h w L xs) a b d = RV28 a b d := fun a b d => by
  unfold Z150
  rw [RW']; exact RZ149 a b d
theorem RZ151 {h w L : Nat} {xs : Nat → Int32} : ∀ a b d : Nat, gR (Z151 h w L xs) a b d = RV28 a b d := fun a b d => by
  unfold Z151
  rw [RW']; exact RZ150 a b d
theorem RZ152 {h w L : Nat} {xs : Nat → Int32} : ∀ a b d : Nat, gR (Z152 h w L xs) a b d = RV28 a b d := fun a b d => by
  unfold Z152
  rw [RW']; exact RZ151 a b d
theorem RZ153 {h w L : Nat} {xs : Nat → Int32} : ∀ a b d : Nat, gR (Z153 h w L xs) a b d = RV28 a b d := fun a b d => by
  unfold Z153
  rw [RW']; exact RZ152 a b d
theorem RZ154 {h w L : Nat} {xs : Nat → Int32} : ∀ a b d : Nat, gR (Z154 h w L xs) a b d = RV28 a b d := fun a b d => by
  unfold Z154
  rw [RW']; exact RZ153 a b d
theorem RZ155 {h w L : Nat} {xs : Nat → Int32} : ∀ a b d : Nat, gR (Z155 h w L xs) a b d = RV28 a b d := fun a b d => by
  unfold Z155
  rw [RW']; exact RZ154 a b d
theorem RZ156 {h w L : Nat} {xs : Nat → Int32} : ∀ a b d : Nat, gR (Z156 h w L xs) a b d = RV28 a b d := fun a b d => by
  unfold Z156
  rw [RW']; exact RZ155 a b d
theorem RZ157 {h w L : Nat} {xs : Nat → Int32} : ∀ a b d : Nat, gR (Z157 h w L xs) a b d = RV28 a b d := fun a b d => by
  unfold Z157
  rw [RW']; exact RZ156 a b d
theorem RZ158 {h w L : Nat} {xs : Nat → Int32} : ∀ a b d : Nat, gR (Z158 h w L xs) a b d = RV28 a b d := fun a b d => by
  unfold Z158
  rw [RW']; exact RZ157 a b d
theorem RZ159 {h w L : Nat} {xs : Nat → Int32} : ∀ a b d : Nat, gR (Z159 h w L xs) a b d = RV28 a b d := fun a b d => by
  unfold Z159
  rw [RW']; exact RZ158 a b d
theorem RZ160 {h w L : Nat} {xs : Nat → Int32} : ∀ a b d : Nat, gR (Z160 h w L xs) a b d = RV28 a b d := fun a b d => by
  unfold Z160
  rw [RW']; exact RZ159 a b d
theorem RZ161 {h w L : Nat} {xs : Nat → Int32} : ∀ a b d : Nat, gR (Z161 h w L xs) a b d = RV28 a b d := fun a b d => by
  unfold Z161
  rw [RW']; exact RZ160 a b d
theorem RZ162 {h w L : Nat} {xs : Nat → Int32} : ∀ a b d : Nat, gR (Z162 h w L xs) a b d = RV28 a b d := fun a b d => by
  unfold Z162
  rw [RW']; exact RZ161 a b d
theorem RZ163 {h w L : Nat} {xs : Nat → Int32} : ∀ a b d : Nat, gR (Z163 h w L xs) a b d = RV28 a b d := fun a b d => by
  unfold Z163
  rw [RW']; exact RZ162 a b d
theorem RZ164 {h w L : Nat} {xs : Nat → Int32} : ∀ a b d : Nat, gR (Z164 h w L xs) a b d = RV28 a b d := fun a b d => by
  unfold Z164
  rw [RW']; exact RZ163 a b d
theorem RZ165 {h w L : Nat} {xs : Nat → Int32} : ∀ a b d : Nat, gR (Z165 h w L xs) a b d = RV28 a b d := fun a b d => by
  unfold Z165
  rw [RW']; exact RZ164 a b d
theorem RZ166 {h w L : Nat} {xs : Nat → Int32} : ∀ a b d : Nat, gR (Z166 h w L xs) a b d = RV28 a b d := fun a b d => by
  unfold Z166
  rw [RW']; exact RZ165 a b d
theorem RZ167 {h w L : Nat} {xs : Nat → Int32} : ∀ a b d : Nat, gR (Z167 h w L xs) a b d = RV28 a b d := fun a b d => by
  unfold Z167
  rw [RW']; exact RZ166 a b d
theorem RZ168 {h w L : Nat} {xs : Nat → Int32} : ∀ a b d : Nat, gR (Z168 h w L xs) a b d = RV28 a b d := fun a b d => by
  unfold Z168
  rw [RW']; exact RZ167 a b d
theorem RZ169 {h w L : Nat} {xs : Nat → Int32} : ∀ a b d : Nat, gR (Z169 h w L xs) a b d = RV28 a b d := fun a b d => by
  unfold Z169
  rw [RW']; exact RZ168 a b d
theorem RZ170 {h w L : Nat} {xs : Nat → Int32} : ∀ a b d : Nat, gR (Z170 h w L xs) a b d = RV28 a b d := fun a b d => by
  unfold Z170
  rw [RW']; exact RZ169 a b d
theorem RZ171 {h w L : Nat} {xs : Nat → Int32} : ∀ a b d : Nat, gR (Z171 h w L xs) a b d = RV28 a b d := fun a b d => by
  unfold Z171
  rw [RW']; exact RZ170 a b d
theorem RZ172 {h w L : Nat} {xs : Nat → Int32} : ∀ a b d : Nat, gR (Z172 h w L xs) a b d = RV28 a b d := fun a b d => by
  unfold Z172
  rw [RW']; exact RZ171 a b d
theorem RZ173 {h w L : Nat} {xs : Nat → Int32} : ∀ a b d : Nat, gR (Z173 h w L xs) a b d = RV28 a b d := fun a b d => by
  unfold Z173
  rw [RW']; exact RZ172 a b d
theorem RZ174 {h w L : Nat} {xs : Nat → Int32} : ∀ a b d : Nat, gR (Z174 h w L xs) a b d = RV28 a b d := fun a b d => by
  unfold Z174
  rw [RW']; exact RZ173 a b d
theorem RZ175 {h w L : Nat} {xs : Nat → Int32} : ∀ a b d : Nat, gR (Z175 h w L xs) a b d = RV28 a b d := fun a b d => by
  unfold Z175
  rw [RW']; exact RZ174 a b d
theorem RZ176 {h w L : Nat} {xs : Nat → Int32} : ∀ a b d : Nat, gR (Z176 h w L xs) a b d = RV28 a b d := fun a b d => by
  unfold Z176
  rw [RW']; exact RZ175 a b d
theorem RZ177 {h w L : Nat} {xs : Nat → Int32} : ∀ a b d : Nat, gR (Z177 h w L xs) a b d = RV28 a b d := fun a b d => by
  unfold Z177
  rw [RW']; exact RZ176 a b d
theorem RZ178 {h w L : Nat} {xs : Nat → Int32} : ∀ a b d : Nat, gR (Z178 h w L xs) a b d = RV28 a b d := fun a b d => by
  unfold Z178
  rw [RW']; exact RZ177 a b d
theorem RZ179 {h w L : Nat} {xs : Nat → Int32} : ∀ a b d : Nat, gR (Z179 h w L xs) a b d = RV28 a b d := fun a b d => by
  unfold Z179
  rw [RW']; exact RZ178 a b d
theorem RZ180 {h w L : Nat} {xs : Nat → Int32} : ∀ a b d : Nat, gR (Z180 h w L xs) a b d = RV28 a b d := fun a b d => by
  unfold Z180
  rw [RW']; exact RZ179 a b d
theorem RZ181 {h w L : Nat} {xs : Nat → Int32} : ∀ a b d : Nat, gR (Z181 h w L xs) a b d = RV28 a b d := fun a b d => by
  unfold Z181
  rw [RW']; exact RZ180 a b d
theorem RZ182 {h w L : Nat} {xs : Nat → Int32} : ∀ a b d : Nat, gR (Z182 h w L xs) a b d = RV28 a b d := fun a b d => by
  unfold Z182
  rw [RW']; exact RZ181 a b d
theorem RZ183 {h w L : Nat} {xs : Nat → Int32} : ∀ a b d : Nat, gR (Z183 h w L xs) a b d = RV28 a b d := fun a b d => by
  unfold Z183
  rw [RW']; exact RZ182 a b d
theorem RZ184 {h w L : Nat} {xs : Nat → Int32} : ∀ a b d : Nat, gR (Z184 h w L xs) a b d = RV28 a b d := fun a b d => by
  unfold Z184
  rw [RW']; exact RZ183 a b d
theorem RZ185 {h w L : Nat} {xs : Nat → Int32} : ∀ a b d : Nat, gR (Z185 h w L xs) a b d = RV28 a b d := fun a b d => by
  unfold Z185
  rw [RW']; exact RZ184 a b d
theorem RZ186 {h w L : Nat} {xs : Nat → Int32} : ∀ a b d : Nat, gR (Z186 h w L xs) a b d = RV28 a b d := fun a b d => by
  unfold Z186
  rw [RW']; exact RZ185 a b d
theorem RZ187 {h w L : Nat} {xs : Nat → Int32} : ∀ a b d : Nat, gR (Z187 h w L xs) a b d = RV28 a b d := fun a b d => by
  unfold Z187
  rw [RW']; exact RZ186 a b d
theorem RZ188 {h w L : Nat} {xs : Nat → Int32} : ∀ a b d : Nat, gR (Z188 h w L xs) a b d = RV28 a b d := fun a b d => by
  unfold Z188
  rw [RW']; exact RZ187 a b d
theorem RZ189 {h w L : Nat} {xs : Nat → Int32} : ∀ a b d : Nat, gR (Z189 h w L xs) a b d = RV28 a b d := fun a b d => by
  unfold Z189
  rw [RW']; exact RZ188 a b d
theorem RZ190 {h w L : Nat} {xs : Nat → Int32} : ∀ a b d : Nat, gR (Z190 h w L xs) a b d = RV28 a b d := fun a b d => by
  unfold Z190
  rw [RW']; exact RZ189 a b d
theorem RZ191 {h w L : Nat} {xs : Nat → Int32} : ∀ a b d : Nat, gR (Z191 h w L xs) a b d = RV28 a b d := fun a b d => by
  unfold Z191
  rw [RI]; exact RZ190 a b d
theorem RZ192 {h w L : Nat} {xs : Nat → Int32} : ∀ a b d : Nat, gR (Z192 h w L xs) a b d = RV28 a b d := fun a b d => by
  unfold Z192
  rw [RW']; exact RZ191 a b d
theorem RZ193 {h w L : Nat} {xs : Nat → Int32} : ∀ a b d : Nat, gR (Z193 h w L xs) a b d = RV28 a b d := fun a b d => by
  unfold Z193
  rw [RW']; exact RZ192 a b d
theorem RZ194 {h w L : Nat} {xs : Nat → Int32} : ∀ a b d : Nat, gR (Z194 h w L xs) a b d = RV28 a b d := fun a b d => by
  unfold Z194
  rw [RW']; exact RZ193 a b d
theorem RZ195 {h w L : Nat} {xs : Nat → Int32} : ∀ a b d : Nat, gR (Z195 h w L xs) a b d = RV28 a b d := fun a b d => by
  unfold Z195
  rw [RW']; exact RZ194 a b d
theorem RZ196 {h w L : Nat} {xs : Nat → Int32} : ∀ a b d : Nat, gR (Z196 h w L xs) a b d = RV28 a b d := fun a b d => by
  unfold Z196
  rw [RW']; exact RZ195 a b d
theorem RZ197 {h w L : Nat} {xs : Nat → Int32} : ∀ a b d : Nat, gR (Z197 h w L xs) a b d = RV28 a b d := fun a b d => by
  unfold Z197
  rw [RW']; exact RZ196 a b d
theorem RZ198 {h w L : Nat} {xs : Nat → Int32} : ∀ a b d : Nat, gR (Z198 h w L xs) a b d = RV28 a b d := fun a b d => by
  unfold Z198
  rw [RW']; exact RZ197 a b d
theorem RZ199 {h w L : Nat} {xs : Nat → Int32} : ∀ a b d : Nat, gR (Z199 h w L xs) a b d = RV28 a b d := fun a b d => by
  unfold Z199
  rw [RW']; exact RZ198 a b d
theorem RZ200 {h w L : Nat} {xs : Nat → Int32} : ∀ a b d : Nat, gR (Z200 h w L xs) a b d = RV28 a b d := fun a b d => by
  unfold Z200
  rw [RW']; exact RZ199 a b d
theorem RZ201 {h w L : Nat} {xs : Nat → Int32} : ∀ a b d : Nat, gR (Z201 h w L xs) a b d = RV28 a b d := fun a b d => by
  unfold Z201
  rw [RW']; exact RZ200 a b d
theorem RZ202 {h w L : Nat} {xs : Nat → Int32} : ∀ a b d : Nat, gR (Z202 h w L xs) a b d = RV28 a b d := fun a b d => by
  unfold Z202
  rw [RW']; exact RZ201 a b d
theorem RZ203 {h w L : Nat} {xs : Nat → Int32} : ∀ a b d : Nat, gR (Z203 h w L xs) a b d = RV28 a b d := fun a b d => by
  unfold Z203
  rw [RW']; exact RZ202 a b d
theorem RZ204 {h w L : Nat} {xs : Nat → Int32} : ∀ a b d : Nat, gR (Z204 h w L xs) a b d = RV28 a b d := fun a b d => by
  unfold Z204
  rw [RA]; exact RZ203 a b d
theorem RZ205 {h w L : Nat} {xs : Nat → Int32} : ∀ a b d : Nat, gR (Z205 h w L xs) a b d = RV28 a b d := fun a b d => by
  unfold Z205
  rw [RA]; exact RZ204 a b d
theorem RZ206 {h w L : Nat} {xs : Nat → Int32} : ∀ a b d : Nat, gR (Z206 h w L xs) a b d = RV28 a b d := fun a b d => by
  unfold Z206
  rw [RA]; exact RZ205 a b d
theorem RZ207 {h w L : Nat} {xs : Nat → Int32} : ∀ a b d : Nat, gR (Z207 h w L xs) a b d = RV28 a b d := fun a b d => by
  unfold Z207
  rw [RA]; exact RZ206 a b d
theorem RZ208 {h w L : Nat} {xs : Nat → Int32} : ∀ a b d : Nat, gR (Z208 h w L xs) a b d = RV28 a b d := fun a b d => by
  unfold Z208
  rw [RA]; exact RZ207 a b d
theorem RZ209 {h w L : Nat} {xs : Nat → Int32} : ∀ a b d : Nat, gR (Z209 h w L xs) a b d = RV28 a b d := fun a b d => by
  unfold Z209
  rw [RA]; exact RZ208 a b d
theorem RZ210 {h w L : Nat} {xs : Nat → Int32} : ∀ a b d : Nat, gR (Z210 h w L xs) a b d = RV28 a b d := fun a b d => by
  unfold Z210
  rw [RA]; exact RZ209 a b d
theorem RZ211 {h w L : Nat} {xs : Nat → Int32} : ∀ a b d : Nat, gR (Z211 h w L xs) a b d = RV28 a b d := fun a b d => by
  unfold Z211
  rw [RA]; exact RZ210 a b d
theorem RZ212 {h w L : Nat} {xs : Nat → Int32} : ∀ a b d : Nat, gR (Z212 h w L xs) a b d = RV28 a b d := fun a b d => by
  unfold Z212
  rw [RA]; exact RZ211 a b d
theorem RZ213 {h w L : Nat} {xs : Nat → Int32} : ∀ a b d : Nat, gR (Z213 h w L xs) a b d = RV28 a b d := fun a b d => by
  unfold Z213
  rw [RA]; exact RZ212 a b d
def QV0 : Nat → Nat → Nat → (Nat → Option Nat) := fun _ _ _ _ => none
theorem QZ0 {h w L : Nat} {xs : Nat → Int32} : ∀ a b d : Nat, gQ (Z0 h w L xs) a b d = QV0 a b d := fun _ _ _ => rfl
theorem QZ1 {h w L : Nat} {xs : Nat → Int32} : ∀ a b d : Nat, gQ (Z1 h w L xs) a b d = QV0 a b d := fun a b d => by
  unfold Z1
  rw [QO']; exact QZ0 a b d
theorem QZ2 {h w L : Nat} {xs : Nat → Int32} : ∀ a b d : Nat, gQ (Z2 h w L xs) a b d = QV0 a b d := fun a b d => by
  unfold Z2
  rw [QO']; exact QZ1 a b d
def QV1 : Nat → Nat → Nat → (Nat → Option Nat) := fun a b d => if a = 7 ∧ b = 0 ∧ d = 0 then (fun _ => none) else QV0 a b d
theorem QZ3 {h w L : Nat} {xs : Nat → Int32} : ∀ a b d : Nat, gQ (Z3 h w L xs) a b d = QV1 a b d := fun a b d => by
  unfold Z3 QV1
  rw [QWp, QZ2 a b d]
theorem QZ4 {h w L : Nat} {xs : Nat → Int32} : ∀ a b d : Nat, gQ (Z4 h w L xs) a b d = QV1 a b d := fun a b d => by
  unfold Z4
  rw [QI]; exact QZ3 a b d
theorem QZ5 {h w L : Nat} {xs : Nat → Int32} : ∀ a b d : Nat, gQ (Z5 h w L xs) a b d = QV1 a b d := fun a b d => by
  unfold Z5
  rw [QI]; exact QZ4 a b d
theorem QZ6 {h w L : Nat} {xs : Nat → Int32} : ∀ a b d : Nat, gQ (Z6 h w L xs) a b d = QV1 a b d := fun a b d => by
  unfold Z6
  rw [QR]; exact QZ5 a b d
def QV2 : Nat → Nat → Nat → (Nat → Option Nat) := fun a b d => if a = 11 ∧ b = 1 ∧ d = 0 then (fun _ => none) else QV1 a b d
theorem QZ7 {h w L : Nat} {xs : Nat → Int32} : ∀ a b d : Nat, gQ (Z7 h w L xs) a b d = QV2 a b d := fun a b d => by
  unfold Z7 QV2
  rw [QWp, QZ6 a b d]
def QV3 : Nat → Nat → Nat → (Nat → Option Nat) := fun a b d => if a = 11 ∧ b = 2 ∧ d = 0 then (fun _ => none) else QV2 a b d
theorem QZ8 {h w L : Nat} {xs : Nat → Int32} : ∀ a b d : Nat, gQ (Z8 h w L xs) a b d = QV3 a b d := fun a b d => by
  unfold Z8 QV3
  rw [QWp, QZ7 a b d]
def QV4 : Nat → Nat → Nat → (Nat → Option Nat) := fun a b d => if a = 11 ∧ b = 3 ∧ d = 0 then (fun _ => none) else QV3 a b d
theorem QZ9 {h w L : Nat} {xs : Nat → Int32} : ∀ a b d : Nat, gQ (Z9 h w L xs) a b d = QV4 a b d := fun a b d => by
  unfold Z9 QV4
  rw [QWp, QZ8 a b d]
theorem QZ10 {h w L : Nat} {xs : Nat → Int32} : ∀ a b d : Nat, gQ (Z10 h w L xs) a b d = QV4 a b d := fun a b d => by
  unfold Z10
  rw [QO']; exact QZ9 a b d
theorem QZ11 {h w L : Nat} {xs : Nat → Int32} : ∀ a b d : Nat, gQ (Z11 h w L xs) a b d = QV4 a b d := fun a b d => by
  unfold Z11
  rw [QI]; exact QZ10 a b d
theorem QZ12 {h w L : Nat} {xs : Nat → Int32} : ∀ a b d : Nat, gQ (Z12 h w L xs) a b d = QV4 a b d := fun a b d => by
  unfold Z12
  rw [QI]; exact QZ11 a b d
def QV5 : Nat → Nat → Nat → (Nat → Option Nat) := fun a b d => if a = 0 ∧ b = 2 ∧ d = 0 then (fun _ => none) else QV4 a b d
theorem QZ13 {h w L : Nat} {xs : Nat → Int32} : ∀ a b d : Nat, gQ (Z13 h w L xs) a b d = QV5 a b d := fun a b d => by
  unfold Z13 QV5
  rw [QWp, QZ12 a b d]
def QV6 : Nat → Nat → Nat → (Nat → Option Nat) := fun a b d => if a = 0 ∧ b = 3 ∧ d = 0 then (fun _ => none) else QV5 a b d
theorem QZ14 {h w L : Nat} {xs : Nat → Int32} : ∀ a b d : Nat, gQ (Z14 h w L xs) a b d = QV6 a b d := fun a b d => by
  unfold Z14 QV6
  rw [QWp, QZ13 a b d]
def QV7 : Nat → Nat → Nat → (Nat → Option Nat) := fun a b d => if a = 0 ∧ b = 4 ∧ d = 0 then (fun _ => none) else QV6 a b d
theorem QZ15 {h w L : Nat} {xs : Nat → Int32} : ∀ a b d : Nat, gQ (Z15 h w L xs) a b d = QV7 a b d := fun a b d => by
  unfold Z15 QV7
  rw [QWp, QZ14 a b d]
def QV8 : Nat → Nat → Nat → (Nat → Option Nat) := fun a b d => if a = 0 ∧ b = 5 ∧ d = 0 then (fun _ => none) else QV7 a b d
theorem QZ16 {h w L : Nat} {xs : Nat → Int32} : ∀ a b d : Nat, gQ (Z16 h w L xs) a b d = QV8 a b d := fun a b d => by
  unfold Z16 QV8
  rw [QWp, QZ15 a b d]
def QV9 : Nat → Nat → Nat → (Nat → Option Nat) := fun a b d => if a = 0 ∧ b = 6 ∧ d = 0 then (fun _ => none) else QV8 a b d
theorem QZ17 {h w L : Nat} {xs : Nat → Int32} : ∀ a b d : Nat, gQ (Z17 h w L xs) a b d = QV9 a b d := fun a b d => by
  unfold Z17 QV9
  rw [QWp, QZ16 a b d]
def QV10 : Nat → Nat → Nat → (Nat → Option Nat) := fun a b d => if a = 0 ∧ b = 7 ∧ d = 0 then (fun _ => none) else QV9 a b d
theorem QZ18 {h w L : Nat} {xs : Nat → Int32} : ∀ a b d : Nat, gQ (Z18 h w L xs) a b d = QV10 a b d := fun a b d => by
  unfold Z18 QV10
  rw [QWp, QZ17 a b d]
theorem QZ19 {h w L : Nat} {xs : Nat → Int32} : ∀ a b d : Nat, gQ (Z19 h w L xs) a b d = QV10 a b d := fun a b d => by
  unfold Z19
  rw [QI]; exact QZ18 a b d
theorem QZ20 {h w L : Nat} {xs : Nat → Int32} : ∀ a b d : Nat, gQ (Z20 h w L xs) a b d = QV10 a b d := fun a b d => by
  unfold Z20
  rw [QR]; exact QZ19 a b d
theorem QZ21 {h w L : Nat} {xs : Nat → Int32} : ∀ a b d : Nat, gQ (Z21 h w L xs) a b d = QV10 a b d := fun a b d => by
  unfold Z21
  rw [QO']; exact QZ20 a b d
theorem QZ22 {h w L : Nat} {xs : Nat → Int32} : ∀ a b d : Nat, gQ (Z22 h w L xs) a b d = QV10 a b d := fun a b d => by
  unfold Z22
  rw [QI]; exact QZ21 a b d
def QV11 : Nat → Nat → Nat → (Nat → Option Nat) := fun a b d => if a = 1 ∧ b = 1 ∧ d = 0 then (fun _ => none) else QV10 a b d
theorem QZ23 {h w L : Nat} {xs : Nat → Int32} : ∀ a b d : Nat, gQ (Z23 h w L xs) a b d = QV11 a b d := fun a b d => by
  unfold Z23 QV11
  rw [QWp, QZ22 a b d]
def QV12 : Nat → Nat → Nat → (Nat → Option Nat) := fun a b d => if a = 1 ∧ b = 2 ∧ d = 0 then (fun _ => none) else QV11 a b d
theorem QZ24 {h w L : Nat} {xs : Nat → Int32} : ∀ a b d : Nat, gQ (Z24 h w L xs) a b d = QV12 a b d := fun a b d => by
  unfold Z24 QV12
  rw [QWp, QZ23 a b d]
def QV13 : Nat → Nat → Nat → (Nat → Option Nat) := fun a b d => if a = 1 ∧ b = 3 ∧ d = 0 then (fun _ => none) else QV12 a b d
theorem QZ25 {h w L : Nat} {xs : Nat → Int32} : ∀ a b d : Nat, gQ (Z25 h w L xs) a b d = QV13 a b d := fun a b d => by
  unfold Z25 QV13
  rw [QWp, QZ24 a b d]
theorem QZ26 {h w L : Nat} {xs : Nat → Int32} : ∀ a b d : Nat, gQ (Z26 h w L xs) a b d = QV13 a b d := fun a b d => by
  unfold Z26
  rw [QR]; exact QZ25 a b d
def QV14 : Nat → Nat → Nat → (Nat → Option Nat) := fun a b d => if a = 11 ∧ b = 6 ∧ d = 0 then (fun _ => none) else QV13 a b d
theorem QZ27 {h w L : Nat} {xs : Nat → Int32} : ∀ a b d : Nat, gQ (Z27 h w L xs) a b d = QV14 a b d := fun a b d => by
  unfold Z27 QV14
  rw [QWp, QZ26 a b d]
theorem QZ28 {h w L : Nat} {xs : Nat → Int32} : ∀ a b d : Nat, gQ (Z28 h w L xs) a b d = QV14 a b d := fun a b d => by
  unfold Z28
  rw [QI]; exact QZ27 a b d
def QV15 : Nat → Nat → Nat → (Nat → Option Nat) := fun a b d => if a = 11 ∧ b = 8 ∧ d = 0 then (fun _ => none) else QV14 a b d
theorem QZ29 {h w L : Nat} {xs : Nat → Int32} : ∀ a b d : Nat, gQ (Z29 h w L xs) a b d = QV15 a b d := fun a b d => by
  unfold Z29 QV15
  rw [QWp, QZ28 a b d]
theorem QZ30 {h w L : Nat} {xs : Nat → Int32} : ∀ a b d : Nat, gQ (Z30 h w L xs) a b d = QV15 a b d := fun a b d => by
  unfold Z30
  rw [QI]; exact QZ29 a b d
def QV16 : Nat → Nat → Nat → (Nat → Option Nat) := fun a b d => if a = 11 ∧ b = 10 ∧ d = 0 then (fun _ => none) else QV15 a b d
theorem QZ31 {h w L : Nat} {xs : Nat → Int32} : ∀ a b d : Nat, gQ (Z31 h w L xs) a b d = QV16 a b d := fun a b d => by
  unfold Z31 QV16
  rw [QWp, QZ30 a b d]
theorem QZ32 {h w L : Nat} {xs : Nat → Int32} : ∀ a b d : Nat, gQ (Z32 h w L xs) a b d = QV16 a b d := fun a b d => by
  unfold Z32
  rw [QI]; exact QZ31 a b d
def QV17 : Nat → Nat → Nat → (Nat → Option Nat) := fun a b d => if a = 11 ∧ b = 12 ∧ d = 0 then (fun _ => none) else QV16 a b d
theorem QZ33 {h w L : Nat} {xs : Nat → Int32} : ∀ a b d : Nat, gQ (Z33 h w L xs) a b d = QV17 a b d := fun a b d => by
  unfold Z33 QV17
  rw [QWp, QZ32 a b d]
theorem QZ34 {h w L : Nat} {xs : Nat → Int32} : ∀ a b d : Nat, gQ (Z34 h w L xs) a b d = QV17 a b d := fun a b d => by
  unfold Z34
  rw [QO']; exact QZ33 a b d
def QV18 : Nat → Nat → Nat → (Nat → Option Nat) := fun a b d => if a = 2 ∧ b = 0 ∧ d = 0 then (fun _ => none) else QV17 a b d
theorem QZ35 {h w L : Nat} {xs : Nat → Int32} : ∀ a b d : Nat, gQ (Z35 h w L xs) a b d = QV18 a b d := fun a b d => by
  unfold Z35 QV18
  rw [QWp, QZ34 a b d]
def QV19 : Nat → Nat → Nat → (Nat → Option Nat) := fun a b d => if a = 2 ∧ b = 1 ∧ d = 0 then (fun _ => none) else QV18 a b d
theorem QZ36 {h w L : Nat} {xs : Nat → Int32} : ∀ a b d : Nat, gQ (Z36 h w L xs) a b d = QV19 a b d := fun a b d => by
  unfold Z36 QV19
  rw [QWp, QZ35 a b d]
def QV20 : Nat → Nat → Nat → (Nat → Option Nat) := fun a b d => if a = 2 ∧ b = 2 ∧ d = 0 then (fun _ => none) else QV19 a b d
theorem QZ37 {h w L : Nat} {xs : Nat → Int32} : ∀ a b d : Nat, gQ (Z37 h w L xs) a b d = QV20 a b d := fun a b d => by
  unfold Z37 QV20
  rw [QWp, QZ36 a b d]
theorem QZ38 {h w L : Nat} {xs : Nat → Int32} : ∀ a b d : Nat, gQ (Z38 h w L xs) a b d = QV20 a b d := fun a b d => by
  unfold Z38
  rw [QI]; exact QZ37 a b d
theorem QZ39 {h w L : Nat} {xs : Nat → Int32} : ∀ a b d : Nat, gQ (Z39 h w L xs) a b d = QV20 a b d := fun a b d => by
  unfold Z39
  rw [QR]; exact QZ38 a b d
def QV21 : Nat → Nat → Nat → (Nat → Option Nat) := fun a b d => if a = 11 ∧ b = 14 ∧ d = 0 then (fun _ => none) else QV20 a b d
theorem QZ40 {h w L : Nat} {xs : Nat → Int32} : ∀ a b d : Nat, gQ (Z40 h w L xs) a b d = QV21 a b d := fun a b d => by
  unfold Z40 QV21
  rw [QWp, QZ39 a b d]
theorem QZ41 {h w L : Nat} {xs : Nat → Int32} : ∀ a b d : Nat, gQ (Z41 h w L xs) a b d = QV21 a b d := fun a b d => by
  unfold Z41
  rw [QI]; exact QZ40 a b d
def QV22 : Nat → Nat → Nat → (Nat → Option Nat) := fun a b d => if a = 11 ∧ b = 16 ∧ d = 0 then (fun _ => none) else QV21 a b d
theorem QZ42 {h w L : Nat} {xs : Nat → Int32} : ∀ a b d : Nat, gQ (Z42 h w L xs) a b d = QV22 a b d := fun a b d => by
  unfold Z42 QV22
  rw [QWp, QZ41 a b d]
theorem QZ43 {h w L : Nat} {xs : Nat → Int32} : ∀ a b d : Nat, gQ (Z43 h w L xs) a b d = QV22 a b d := fun a b d => by
  unfold Z43
  rw [QO']; exact QZ42 a b d
def QV23 : Nat → Nat → Nat → (Nat → Option Nat) := fun a b d => if a = 5 ∧ b = 0 ∧ d = 0 then (fun _ => none) else QV22 a b d
theorem QZ44 {h w L : Nat} {xs : Nat → Int32} : ∀ a b d : Nat, gQ (Z44 h w L xs) a b d = QV23 a b d := fun a b d => by
  unfold Z44 QV23
  rw [QWp, QZ43 a b d]
def QV24 : Nat → Nat → Nat → (Nat → Option Nat) := fun a b d => if a = 5 ∧ b = 1 ∧ d = 0 then (fun _ => none) else QV23 a b d
theorem QZ45 {h w L : Nat} {xs : Nat → Int32} : ∀ a b d : Nat, gQ (Z45 h w L xs) a b d = QV24 a b d := fun a b d => by
  unfold Z45 QV24
  rw [QWp, QZ44 a b d]
def QV25 : Nat → Nat → Nat → (Nat → Option Nat) := fun a b d => if a = 5 ∧ b = 2 ∧ d = 0 then (fun _ => none) else QV24 a b d
theorem QZ46 {h w L : Nat} {xs : Nat → Int32} : ∀ a b d : Nat, gQ (Z46 h w L xs) a b d = QV25 a b d := fun a b d => by
  unfold Z46 QV25
  rw [QWp, QZ45 a b d]
def QV26 : Nat → Nat → Nat → (Nat → Option Nat) := fun a b d => if a = 5 ∧ b = 3 ∧ d = 0 then (fun _ => none) else QV25 a b d
theorem QZ47 {h w L : Nat} {xs : Nat → Int32} : ∀ a b d : Nat, gQ (Z47 h w L xs) a b d = QV26 a b d := fun a b d => by
  unfold Z47 QV26
  rw [QWp, QZ46 a b d]
def QV27 : Nat → Nat → Nat → (Nat → Option Nat) := fun a b d => if a = 5 ∧ b = 4 ∧ d = 0 then (fun _ => none) else QV26 a b d
theorem QZ48 {h w L : Nat} {xs : Nat → Int32} : ∀ a b d : Nat, gQ (Z48 h w L xs) a b d = QV27 a b d := fun a b d => by
  unfold Z48 QV27
  rw [QWp, QZ47 a b d]
def QV28 : Nat → Nat → Nat → (Nat → Option Nat) := fun a b d => if a = 5 ∧ b = 5 ∧ d = 0 then (fun _ => none) else QV27 a b d
theorem QZ49 {h w L : Nat} {xs : Nat → Int32} : ∀ a b d : Nat, gQ (Z49 h w L xs) a b d = QV28 a b d := fun a b d => by
  unfold Z49 QV28
  rw [QWp, QZ48 a b d]
def QV29 : Nat → Nat → Nat → (Nat → Option Nat) := fun a b d => if a = 5 ∧ b = 6 ∧ d = 0 then (fun _ => none) else QV28 a b d
theorem QZ50 {h w L : Nat} {xs : Nat → Int32} : ∀ a b d : Nat, gQ (Z50 h w L xs) a b d = QV29 a b d := fun a b d => by
  unfold Z50 QV29
  rw [QWp, QZ49 a b d]
def QV30 : Nat → Nat → Nat → (Nat → Option Nat) := fun a b d => if a = 5 ∧ b = 7 ∧ d = 0 then (fun _ => none) else QV29 a b d
theorem QZ51 {h w L : Nat} {xs : Nat → Int32} : ∀ a b d : Nat, gQ (Z51 h w L xs) a b d = QV30 a b d := fun a b d => by
  unfold Z51 QV30
  rw [QWp, QZ50 a b d]
theorem QZ52 {h w L : Nat} {xs : Nat → Int32} : ∀ a b d : Nat, gQ (Z52 h w L xs) a b d = QV30 a b d := fun a b d => by
  unfold Z52
  rw [QI]; exact QZ51 a b d
theorem QZ53 {h w L : Nat} {xs : Nat → Int32} : ∀ a b d : Nat, gQ (Z53 h w L xs) a b d = QV30 a b d := fun a b d => by
  unfold Z53
  rw [QI]; exact QZ52 a b d
theorem QZ54 {h w L : Nat} {xs : Nat → Int32} : ∀ a b d : Nat, gQ (Z54 h w L xs) a b d = QV30 a b d := fun a b d => by
  unfold Z54
  rw [QI]; exact QZ53 a b d
theorem QZ55 {h w L : Nat} {xs : Nat → Int32} : ∀ a b d : Nat, gQ (Z55 h w L xs) a b d = QV30 a b d := fun a b d => by
  unfold Z55
  rw [QI]; exact QZ54 a b d
theorem QZ56 {h w L : Nat} {xs : Nat → Int32} : ∀ a b d : Nat, gQ (Z56 h w L xs) a b d = QV30 a b d := fun a b d => by
  unfold Z56
  rw [QR]; exact QZ55 a b d
theorem QZ57 {h w L : Nat} {xs : Nat → Int32} : ∀ a b d : Nat, gQ (Z57 h w L xs) a b d = QV30 a b d := fun a b d => by
  unfold Z57
  rw [QO']; exact QZ56 a b d
def QV31 : Nat → Nat → Nat → (Nat → Option Nat) := fun a b d => if a = 10 ∧ b = 0 ∧ d = 0 then (fun _ => none) else QV30 a b d
theorem QZ58 {h w L : Nat} {xs : Nat → Int32} : ∀ a b d : Nat, gQ (Z58 h w L xs) a b d = QV31 a b d := fun a b d => by
  unfold Z58 QV31
  rw [QWp, QZ57 a b d]
def QV32 : Nat → Nat → Nat → (Nat → Option Nat) := fun a b d => if a = 10 ∧ b = 1 ∧ d = 0 then (fun _ => none) else QV31 a b d
theorem QZ59 {h w L : Nat} {xs : Nat → Int32} : ∀ a b d : Nat, gQ (Z59 h w L xs) a b d = QV32 a b d := fun a b d => by
  unfold Z59 QV32
  rw [QWp, QZ58 a b d]
def QV33 : Nat → Nat → Nat → (Nat → Option Nat) := fun a b d => if a = 10 ∧ b = 2 ∧ d = 0 then (fun _ => none) else QV32 a b d
theorem QZ60 {h w L : Nat} {xs : Nat → Int32} : ∀ a b d : Nat, gQ (Z60 h w L xs) a b d = QV33 a b d := fun a b d => by
  unfold Z60 QV33
  rw [QWp, QZ59 a b d]
theorem QZ61 {h w L : Nat} {xs : Nat → Int32} : ∀ a b d : Nat, gQ (Z61 h w L xs) a b d = QV33 a b d := fun a b d => by
  unfold Z61
  rw [QR]; exact QZ60 a b d
def QV34 : Nat → Nat → Nat → (Nat → Option Nat) := fun a b d => if a = 11 ∧ b = 19 ∧ d = 0 then (fun _ => none) else QV33 a b d
theorem QZ62 {h w L : Nat} {xs : Nat → Int32} : ∀ a b d : Nat, gQ (Z62 h w L xs) a b d = QV34 a b d := fun a b d => by
  unfold Z62 QV34
  rw [QWp, QZ61 a b d]
theorem QZ63 {h w L : Nat} {xs : Nat → Int32} : ∀ a b d : Nat, gQ (Z63 h w L xs) a b d = QV34 a b d := fun a b d => by
  unfold Z63
  rw [QO']; exact QZ62 a b d
theorem QZ64 {h w L : Nat} {xs : Nat → Int32} : ∀ a b d : Nat, gQ (Z64 h w L xs) a b d = QV34 a b d := fun a b d => by
  unfold Z64
  rw [QI]; exact QZ63 a b d
def QV35 : Nat → Nat → Nat → (Nat → Option Nat) := fun a b d => if a = 1 ∧ b = 1 ∧ d = 1 then (fun _ => none) else QV34 a b d
theorem QZ65 {h w L : Nat} {xs : Nat → Int32} : ∀ a b d : Nat, gQ (Z65 h w L xs) a b d = QV35 a b d := fun a b d => by
  unfold Z65 QV35
  rw [QWp, QZ64 a b d]
def QV36 : Nat → Nat → Nat → (Nat → Option Nat) := fun a b d => if a = 1 ∧ b = 2 ∧ d = 1 then (fun _ => none) else QV35 a b d
theorem QZ66 {h w L : Nat} {xs : Nat → Int32} : ∀ a b d : Nat, gQ (Z66 h w L xs) a b d = QV36 a b d := fun a b d => by
  unfold Z66 QV36
  rw [QWp, QZ65 a b d]
def QV37 : Nat → Nat → Nat → (Nat → Option Nat) := fun a b d => if a = 1 ∧ b = 3 ∧ d = 1 then (fun _ => none) else QV36 a b d
theorem QZ67 {h w L : Nat} {xs : Nat → Int32} : ∀ a b d : Nat, gQ (Z67 h w L xs) a b d = QV37 a b d := fun a b d => by
  unfold Z67 QV37
  rw [QWp, QZ66 a b d]
def QV38 : Nat → Nat → Nat → (Nat → Option Nat) := fun a b d => if a = 11 ∧ b = 3 ∧ d = 0 then va_up (QV37 11 3 0) 0 (some 1) else QV37 a b d
theorem QZ68 {h w L : Nat} {xs : Nat → Int32} : ∀ a b d : Nat, gQ (Z68 h w L xs) a b d = QV38 a b d := fun a b d => by
  unfold Z68 QV38
  rw [QQp, show gQ (Z67 h w L xs) 11 3 0 = QV37 11 3 0 from QZ67 _ _ _, QZ67 a b d]
theorem QZ69 {h w L : Nat} {xs : Nat → Int32} : ∀ a b d : Nat, gQ (Z69 h w L xs) a b d = QV38 a b d := fun a b d => by
  unfold Z69
  rw [QO']; exact QZ68 a b d
theorem QZ70 {h w L : Nat} {xs : Nat → Int32} : ∀ a b d : Nat, gQ (Z70 h w L xs) a b d = QV38 a b d := fun a b d => by
  unfold Z70
  rw [QI]; exact QZ69 a b d
def QV39 : Nat → Nat → Nat → (Nat → Option Nat) := fun a b d => if a = 1 ∧ b = 1 ∧ d = 2 then (fun _ => none) else QV38 a b d
theorem QZ71 {h w L : Nat} {xs : Nat → Int32} : ∀ a b d : Nat, gQ (Z71 h w L xs) a b d = QV39 a b d := fun a b d => by
  unfold Z71 QV39
  rw [QWp, QZ70 a b d]
def QV40 : Nat → Nat → Nat → (Nat → Option Nat) := fun a b d => if a = 1 ∧ b = 2 ∧ d = 2 then (fun _ => none) else QV39 a b d
theorem QZ72 {h w L : Nat} {xs : Nat → Int32} : ∀ a b d : Nat, gQ (Z72 h w L xs) a b d = QV40 a b d := fun a b d => by
  unfold Z72 QV40
  rw [QWp, QZ71 a b d]
def QV41 : Nat → Nat → Nat → (Nat → Option Nat) := fun a b d => if a = 1 ∧ b = 3 ∧ d = 2 then (fun _ => none) else QV40 a b d
theorem QZ73 {h w L : Nat} {xs : Nat → Int32} : ∀ a b d : Nat, gQ (Z73 h w L xs) a b d = QV41 a b d := fun a b d => by
  unfold Z73 QV41
  rw [QWp, QZ72 a b d]
def QV42 : Nat → Nat → Nat → (Nat → Option Nat) := fun a b d => if a = 11 ∧ b = 3 ∧ d = 0 then va_up (QV41 11 3 0) 1 (some 2) else QV41 a b d
theorem QZ74 {h w L : Nat} {xs : Nat → Int32} : ∀ a b d : Nat, gQ (Z74 h w L xs) a b d = QV42 a b d := fun a b d => by
  unfold Z74 QV42
  rw [QQp, show gQ (Z73 h w L xs) 11 3 0 = QV41 11 3 0 from QZ73 _ _ _, QZ73 a b d]
theorem QZ75 {h w L : Nat} {xs : Nat → Int32} : ∀ a b d : Nat, gQ (Z75 h w L xs) a b d = QV42 a b d := fun a b d => by
  unfold Z75
  rw [QO']; exact QZ74 a b d
theorem QZ76 {h w L : Nat} {xs : Nat → Int32} : ∀ a b d : Nat, gQ (Z76 h w L xs) a b d = QV42 a b d := fun a b d => by
  unfold Z76
  rw [QI]; exact QZ75 a b d
def QV43 : Nat → Nat → Nat → (Nat → Option Nat) := fun a b d => if a = 1 ∧ b = 1 ∧ d = 3 then (fun _ => none) else QV42 a b d
theorem QZ77 {h w L : Nat} {xs : Nat → Int32} : ∀ a b d : Nat, gQ (Z77 h w L xs) a b d = QV43 a b d := fun a b d => by
  unfold Z77 QV43
  rw [QWp, QZ76 a b d]
def QV44 : Nat → Nat → Nat → (Nat → Option Nat) := fun a b d => if a = 1 ∧ b = 2 ∧ d = 3 then (fun _ => none) else QV43 a b d
theorem QZ78 {h w L : Nat} {xs : Nat → Int32} : ∀ a b d : Nat, gQ (Z78 h w L xs) a b d = QV44 a b d := fun a b d => by
  unfold Z78 QV44
  rw [QWp, QZ77 a b d]
def QV45 : Nat → Nat → Nat → (Nat → Option Nat) := fun a b d => if a = 1 ∧ b = 3 ∧ d = 3 then (fun _ => none) else QV44 a b d
theorem QZ79 {h w L : Nat} {xs : Nat → Int32} : ∀ a b d : Nat, gQ (Z79 h w L xs) a b d = QV45 a b d := fun a b d => by
  unfold Z79 QV45
  rw [QWp, QZ78 a b d]
def QV46 : Nat → Nat → Nat → (Nat → Option Nat) := fun a b d => if a = 11 ∧ b = 3 ∧ d = 0 then va_up (QV45 11 3 0) 2 (some 3) else QV45 a b d
theorem QZ80 {h w L : Nat} {xs : Nat → Int32} : ∀ a b d : Nat, gQ (Z80 h w L xs) a b d = QV46 a b d := fun a b d => by
  unfold Z80 QV46
  rw [QQp, show gQ (Z79 h w L xs) 11 3 0 = QV45 11 3 0 from QZ79 _ _ _, QZ79 a b d]
theorem QZ81 {h w L : Nat} {xs : Nat → Int32} : ∀ a b d : Nat, gQ (Z81 h w L xs) a b d = QV46 a b d := fun a b d => by
  unfold Z81
  rw [QO']; exact QZ80 a b d
theorem QZ82 {h w L : Nat} {xs : Nat → Int32} : ∀ a b d : Nat, gQ (Z82 h w L xs) a b d = QV46 a b d := fun a b d => by
  unfold Z82
  rw [QI]; exact QZ81 a b d
def QV47 : Nat → Nat → Nat → (Nat → Option Nat) := fun a b d => if a = 1 ∧ b = 1 ∧ d = 4 then (fun _ => none) else QV46 a b d
theorem QZ83 {h w L : Nat} {xs : Nat → Int32} : ∀ a b d : Nat, gQ (Z83 h w L xs) a b d = QV47 a b d := fun a b d => by
  unfold Z83 QV47
  rw [QWp, QZ82 a b d]
def QV48 : Nat → Nat → Nat → (Nat → Option Nat) := fun a b d => if a = 1 ∧ b = 2 ∧ d = 4 then (fun _ => none) else QV47 a b d
theorem QZ84 {h w L : Nat} {xs : Nat → Int32} : ∀ a b d : Nat, gQ (Z84 h w L xs) a b d = QV48 a b d := fun a b d => by
  unfold Z84 QV48
  rw [QWp, QZ83 a b d]
def QV49 : Nat → Nat → Nat → (Nat → Option Nat) := fun a b d => if a = 1 ∧ b = 3 ∧ d = 4 then (fun _ => none) else QV48 a b d
theorem QZ85 {h w L : Nat} {xs : Nat → Int32} : ∀ a b d : Nat, gQ (Z85 h w L xs) a b d = QV49 a b d := fun a b d => by
  unfold Z85 QV49
  rw [QWp, QZ84 a b d]
def QV50 : Nat → Nat → Nat → (Nat → Option Nat) := fun a b d => if a = 11 ∧ b = 3 ∧ d = 0 then va_up (QV49 11 3 0) 3 (some 4) else QV49 a b d
theorem QZ86 {h w L : Nat} {xs : Nat → Int32} : ∀ a b d : Nat, gQ (Z86 h w L xs) a b d = QV50 a b d := fun a b d => by
  unfold Z86 QV50
  rw [QQp, show gQ (Z85 h w L xs) 11 3 0 = QV49 11 3 0 from QZ85 _ _ _, QZ85 a b d]
theorem QZ87 {h w L : Nat} {xs : Nat → Int32} : ∀ a b d : Nat, gQ (Z87 h w L xs) a b d = QV50 a b d := fun a b d => by
  unfold Z87
  rw [QO']; exact QZ86 a b d
theorem QZ88 {h w L : Nat} {xs : Nat → Int32} : ∀ a b d : Nat, gQ (Z88 h w L xs) a b d = QV50 a b d := fun a b d => by
  unfold Z88
  rw [QI]; exact QZ87 a b d
theorem QZ89 {h w L : Nat} {xs : Nat → Int32} : ∀ a b d : Nat, gQ (Z89 h w L xs) a b d = QV50 a b d := fun a b d => by
  unfold Z89
  rw [QI]; exact QZ88 a b d
theorem QZ90 {h w L : Nat} {xs : Nat → Int32} : ∀ a b d : Nat, gQ (Z90 h w L xs) a b d = QV50 a b d := fun a b d => by
  unfold Z90
  rw [QI]; exact QZ89 a b d
def QV51 : Nat → Nat → Nat → (Nat → Option Nat) := fun a b d => if a = 11 ∧ b = 12 ∧ d = 0 then va_up (QV50 11 12 0) 0 (some 0) else QV50 a b d
theorem QZ91 {h w L : Nat} {xs : Nat → Int32} : ∀ a b d : Nat, gQ (Z91 h w L xs) a b d = QV51 a b d := fun a b d => by
  unfold Z91 QV51
  rw [QQp, show gQ (Z90 h w L xs) 11 12 0 = QV50 11 12 0 from QZ90 _ _ _, QZ90 a b d]
theorem QZ92 {h w L : Nat} {xs : Nat → Int32} : ∀ a b d : Nat, gQ (Z92 h w L xs) a b d = QV51 a b d := fun a b d => by
  unfold Z92
  rw [QO']; exact QZ91 a b d
theorem QZ93 {h w L : Nat} {xs : Nat → Int32} : ∀ a b d : Nat, gQ (Z93 h w L xs) a b d = QV51 a b d := fun a b d => by
  unfold Z93
  rw [QI]; exact QZ92 a b d
theorem QZ94 {h w L : Nat} {xs : Nat → Int32} : ∀ a b d : Nat, gQ (Z94 h w L xs) a b d = QV51 a b d := fun a b d => by
  unfold Z94
  rw [QI]; exact QZ93 a b d
theorem QZ95 {h w L : Nat} {xs : Nat → Int32} : ∀ a b d : Nat, gQ (Z95 h w L xs) a b d = QV51 a b d := fun a b d => by
  unfold Z95
  rw [QI]; exact QZ94 a b d
def QV52 : Nat → Nat → Nat → (Nat → Option Nat) := fun a b d => if a = 11 ∧ b = 12 ∧ d = 0 then va_up (QV51 11 12 0) 1 (some 1) else QV51 a b d
theorem QZ96 {h w L : Nat} {xs : Nat → Int32} : ∀ a b d : Nat, gQ (Z96 h w L xs) a b d = QV52 a b d := fun a b d => by
  unfold Z96 QV52
  rw [QQp, show gQ (Z95 h w L xs) 11 12 0 = QV51 11 12 0 from QZ95 _ _ _, QZ95 a b d]
theorem QZ97 {h w L : Nat} {xs : Nat → Int32} : ∀ a b d : Nat, gQ (Z97 h w L xs) a b d = QV52 a b d := fun a b d => by
  unfold Z97
  rw [QO']; exact QZ96 a b d
theorem QZ98 {h w L : Nat} {xs : Nat → Int32} : ∀ a b d : Nat, gQ (Z98 h w L xs) a b d = QV52 a b d := fun a b d => by
  unfold Z98
  rw [QI]; exact QZ97 a b d
theorem QZ99 {h w L : Nat} {xs : Nat → Int32} : ∀ a b d : Nat, gQ (Z99 h w L xs) a b d = QV52 a b d := fun a b d => by
  unfold Z99
  rw [QI]; exact QZ98 a b d
theorem QZ100 {h w L : Nat} {xs : Nat → Int32} : ∀ a b d : Nat, gQ (Z100 h w L xs) a b d = QV52 a b d := fun a b d => by
  unfold Z100
  rw [QI]; exact QZ99 a b d
def QV53 : Nat → Nat → Nat → (Nat → Option Nat) := fun a b d => if a = 11 ∧ b = 12 ∧ d = 0 then va_up (QV52 11 12 0) 2 (some 2) else QV52 a b d
theorem QZ101 {h w L : Nat} {xs : Nat → Int32} : ∀ a b d : Nat, gQ (Z101 h w L xs) a b d = QV53 a b d := fun a b d => by
  unfold Z101 QV53
  rw [QQp, show gQ (Z100 h w L xs) 11 12 0 = QV52 11 12 0 from QZ100 _ _ _, QZ100 a b d]
theorem QZ102 {h w L : Nat} {xs : Nat → Int32} : ∀ a b d : Nat, gQ (Z102 h w L xs) a b d = QV53 a b d := fun a b d => by
  unfold Z102
  rw [QO']; exact QZ101 a b d
theorem QZ103 {h w L : Nat} {xs : Nat → Int32} : ∀ a b d : Nat, gQ (Z103 h w L xs) a b d = QV53 a b d := fun a b d => by
  unfold Z103
  rw [QI]; exact QZ102 a b d
theorem QZ104 {h w L : Nat} {xs : Nat → Int32} : ∀ a b d : Nat, gQ (Z104 h w L xs) a b d = QV53 a b d := fun a b d => by
  unfold Z104
  rw [QI]; exact QZ103 a b d
theorem QZ105 {h w L : Nat} {xs : Nat → Int32} : ∀ a b d : Nat, gQ (Z105 h w L xs) a b d = QV53 a b d := fun a b d => by
  unfold Z105
  rw [QI]; exact QZ104 a b d
def QV54 : Nat → Nat → Nat → (Nat → Option Nat) := fun a b d => if a = 11 ∧ b = 12 ∧ d = 0 then va_up (QV53 11 12 0) 3 (some 3) else QV53 a b d
theorem QZ106 {h w L : Nat} {xs : Nat → Int32} : ∀ a b d : Nat, gQ (Z106 h w L xs) a b d = QV54 a b d := fun a b d => by
  unfold Z106 QV54
  rw [QQp, show gQ (Z105 h w L xs) 11 12 0 = QV53 11 12 0 from QZ105 _ _ _, QZ105 a b d]
theorem QZ107 {h w L : Nat} {xs : Nat → Int32} : ∀ a b d : Nat, gQ (Z107 h w L xs) a b d = QV54 a b d := fun a b d => by
  unfold Z107
  rw [QO']; exact QZ106 a b d
theorem QZ108 {h w L : Nat} {xs : Nat → Int32} : ∀ a b d : Nat, gQ (Z108 h w L xs) a b d = QV54 a b d := fun a b d => by
  unfold Z108
  rw [QI]; exact QZ107 a b d
theorem QZ109 {h w L : Nat} {xs : Nat → Int32} : ∀ a b d : Nat, gQ (Z109 h w L xs) a b d = QV54 a b d := fun a b d => by
  unfold Z109
  rw [QI]; exact QZ108 a b d
theorem QZ110 {h w L : Nat} {xs : Nat → Int32} : ∀ a b d : Nat, gQ (Z110 h w L xs) a b d = QV54 a b d := fun a b d => by
  unfold Z110
  rw [QI]; exact QZ109 a b d
def QV55 : Nat → Nat → Nat → (Nat → Option Nat) := fun a b d => if a = 11 ∧ b = 12 ∧ d = 0 then va_up (QV54 11 12 0) 4 (some 4) else QV54 a b d
theorem QZ111 {h w L : Nat} {xs : Nat → Int32} : ∀ a b d : Nat, gQ (Z111 h w L xs) a b d = QV55 a b d := fun a b d => by
  unfold Z111 QV55
  rw [QQp, show gQ (Z110 h w L xs) 11 12 0 = QV54 11 12 0 from QZ110 _ _ _, QZ110 a b d]
theorem QZ112 {h w L : Nat} {xs : Nat → Int32} : ∀ a b d : Nat, gQ (Z112 h w L xs) a b d = QV55 a b d := fun a b d => by
  unfold Z112
  rw [QO']; exact QZ111 a b d
theorem QZ113 {h w L : Nat} {xs : Nat → Int32} : ∀ a b d : Nat, gQ (Z113 h w L xs) a b d = QV55 a b d := fun a b d => by
  unfold Z113
  rw [QI]; exact QZ112 a b d
theorem QZ114 {h w L : Nat} {xs : Nat → Int32} : ∀ a b d : Nat, gQ (Z114 h w L xs) a b d = QV55 a b d := fun a b d => by
  unfold Z114
  rw [QI]; exact QZ113 a b d
theorem QZ115 {h w L : Nat} {xs : Nat → Int32} : ∀ a b d : Nat, gQ (Z115 h w L xs) a b d = QV55 a b d := fun a b d => by
  unfold Z115
  rw [QI]; exact QZ114 a b d
def QV56 : Nat → Nat → Nat → (Nat → Option Nat) := fun a b d => if a = 11 ∧ b = 12 ∧ d = 0 then va_up (QV55 11 12 0) 5 (some 5) else QV55 a b d
theorem QZ116 {h w L : Nat} {xs : Nat → Int32} : ∀ a b d : Nat, gQ (Z116 h w L xs) a b d = QV56 a b d := fun a b d => by
  unfold Z116 QV56
  rw [QQp, show gQ (Z115 h w L xs) 11 12 0 = QV55 11 12 0 from QZ115 _ _ _, QZ115 a b d]
theorem QZ117 {h w L : Nat} {xs : Nat → Int32} : ∀ a b d : Nat, gQ (Z117 h w L xs) a b d = QV56 a b d := fun a b d => by
  unfold Z117
  rw [QO']; exact QZ116 a b d
theorem QZ118 {h w L : Nat} {xs : Nat → Int32} : ∀ a b d : Nat, gQ (Z118 h w L xs) a b d = QV56 a b d := fun a b d => by
  unfold Z118
  rw [QI]; exact QZ117 a b d
theorem QZ119 {h w L : Nat} {xs : Nat → Int32} : ∀ a b d : Nat, gQ (Z119 h w L xs) a b d = QV56 a b d := fun a b d => by
  unfold Z119
  rw [QI]; exact QZ118 a b d
def QV57 : Nat → Nat → Nat → (Nat → Option Nat) := fun a b d => if a = 6 ∧ b = 2 ∧ d = 0 then (fun _ => none) else QV56 a b d
theorem QZ120 {h w L : Nat} {xs : Nat → Int32} : ∀ a b d : Nat, gQ (Z120 h w L xs) a b d = QV57 a b d := fun a b d => by
  unfold Z120 QV57
  rw [QWp, QZ119 a b d]
def QV58 : Nat → Nat → Nat → (Nat → Option Nat) := fun a b d => if a = 11 ∧ b = 16 ∧ d = 0 then va_up (QV57 11 16 0) 0 (some 0) else QV57 a b d
theorem QZ121 {h w L : Nat} {xs : Nat → Int32} : ∀ a b d : Nat, gQ (Z121 h w L xs) a b d = QV58 a b d := fun a b d => by
  unfold Z121 QV58
  rw [QQp, show gQ (Z120 h w L xs) 11 16 0 = QV57 11 16 0 from QZ120 _ _ _, QZ120 a b d]
theorem QZ122 {h w L : Nat} {xs : Nat → Int32} : ∀ a b d : Nat, gQ (Z122 h w L xs) a b d = QV58 a b d := fun a b d => by
  unfold Z122
  rw [QO']; exact QZ121 a b d
theorem QZ123 {h w L : Nat} {xs : Nat → Int32} : ∀ a b d : Nat, gQ (Z123 h w L xs) a b d = QV58 a b d := fun a b d => by
  unfold Z123
  rw [QI]; exact QZ122 a b d
theorem QZ124 {h w L : Nat} {xs : Nat → Int32} : ∀ a b d : Nat, gQ (Z124 h w L xs) a b d = QV58 a b d := fun a b d => by
  unfold Z124
  rw [QI]; exact QZ123 a b d
def QV59 : Nat → Nat → Nat → (Nat → Option Nat) := fun a b d => if a = 6 ∧ b = 2 ∧ d = 1 then (fun _ => none) else QV58 a b d
theorem QZ125 {h w L : Nat} {xs : Nat → Int32} : ∀ a b d : Nat, gQ (Z125 h w L xs) a b d = QV59 a b d := fun a b d => by
  unfold Z125 QV59
  rw [QWp, QZ124 a b d]
def QV60 : Nat → Nat → Nat → (Nat → Option Nat) := fun a b d => if a = 11 ∧ b = 16 ∧ d = 0 then va_up (QV59 11 16 0) 1 (some 1) else QV59 a b d
theorem QZ126 {h w L : Nat} {xs : Nat → Int32} : ∀ a b d : Nat, gQ (Z126 h w L xs) a b d = QV60 a b d := fun a b d => by
  unfold Z126 QV60
  rw [QQp, show gQ (Z125 h w L xs) 11 16 0 = QV59 11 16 0 from QZ125 _ _ _, QZ125 a b d]
theorem QZ127 {h w L : Nat} {xs : Nat → Int32} : ∀ a b d : Nat, gQ (Z127 h w L xs) a b d = QV60 a b d := fun a b d => by
  unfold Z127
  rw [QO']; exact QZ126 a b d
theorem QZ128 {h w L : Nat} {xs : Nat → Int32} : ∀ a b d : Nat, gQ (Z128 h w L xs) a b d = QV60 a b d := fun a b d => by
  unfold Z128
  rw [QI]; exact QZ127 a b d
theorem QZ129 {h w L : Nat} {xs : Nat → Int32} : ∀ a b d : Nat, gQ (Z129 h w L xs) a b d = QV60 a b d := fun a b d => by
  unfold Z129
  rw [QI]; exact QZ128 a b d
def QV61 : Nat → Nat → Nat → (Nat → Option Nat) := fun a b d => if a = 6 ∧ b = 2 ∧ d = 2 then (fun _ => none) else QV60 a b d
theorem QZ130 {h w L : Nat} {xs : Nat → Int32} : ∀ a b d : Nat, gQ (Z130 h w L xs) a b d = QV61 a b d := fun a b d => by
  unfold Z130 QV61
  rw [QWp, QZ129 a b d]
def QV62 : Nat → Nat → Nat → (Nat → Option Nat) := fun a b d => if a = 11 ∧ b = 16 ∧ d = 0 then va_up (QV61 11 16 0) 2 (some 2) else QV61 a b d
theorem QZ131 {h w L : Nat} {xs : Nat → Int32} : ∀ a b d : Nat, gQ (Z131 h w L xs) a b d = QV62 a b d := fun a b d => by
  unfold Z131 QV62
  rw [QQp, show gQ (Z130 h w L xs) 11 16 0 = QV61 11 16 0 from QZ130 _ _ _, QZ130 a b d]
theorem QZ132 {h w L : Nat} {xs : Nat → Int32} : ∀ a b d : Nat, gQ (Z132 h w L xs) a b d = QV62 a b d := fun a b d => by
  unfold Z132
  rw [QO']; exact QZ131 a b d
theorem QZ133 {h w L : Nat} {xs : Nat → Int32} : ∀ a b d : Nat, gQ (Z133 h w L xs) a b d = QV62 a b d := fun a b d => by
  unfold Z133
  rw [QI]; exact QZ132 a b d
theorem QZ134 {h w L : Nat} {xs : Nat → Int32} : ∀ a b d : Nat, gQ (Z134 h w L xs) a b d = QV62 a b d := fun a b d => by
  unfold Z134
  rw [QI]; exact QZ133 a b d
def QV63 : Nat → Nat → Nat → (Nat → Option Nat) := fun a b d => if a = 6 ∧ b = 2 ∧ d = 3 then (fun _ => none) else QV62 a b d
theorem QZ135 {h w L : Nat} {xs : Nat → Int32} : ∀ a b d : Nat, gQ (Z135 h w L xs) a b d = QV63 a b d := fun a b d => by
  unfold Z135 QV63
  rw [QWp, QZ134 a b d]
def QV64 : Nat → Nat → Nat → (Nat → Option Nat) := fun a b d => if a = 11 ∧ b = 16 ∧ d = 0 then va_up (QV63 11 16 0) 3 (some 3) else QV63 a b d
theorem QZ136 {h w L : Nat} {xs : Nat → Int32} : ∀ a b d : Nat, gQ (Z136 h w L xs) a b d = QV64 a b d := fun a b d => by
  unfold Z136 QV64
  rw [QQp, show gQ (Z135 h w L xs) 11 16 0 = QV63 11 16 0 from QZ135 _ _ _, QZ135 a b d]
theorem QZ137 {h w L : Nat} {xs : Nat → Int32} : ∀ a b d : Nat, gQ (Z137 h w L xs) a b d = QV64 a b d := fun a b d => by
  unfold Z137
  rw [QO']; exact QZ136 a b d
def QV65 : Nat → Nat → Nat → (Nat → Option Nat) := fun a b d => if a = 12 ∧ b = 0 ∧ d = 0 then (fun _ => none) else QV64 a b d
theorem QZ138 {h w L : Nat} {xs : Nat → Int32} : ∀ a b d : Nat, gQ (Z138 h w L xs) a b d = QV65 a b d := fun a b d => by
  unfold Z138 QV65
  rw [QWp, QZ137 a b d]
def QV66 : Nat → Nat → Nat → (Nat → Option Nat) := fun a b d => if a = 12 ∧ b = 4 ∧ d = 0 then (fun _ => none) else QV65 a b d
theorem QZ139 {h w L : Nat} {xs : Nat → Int32} : ∀ a b d : Nat, gQ (Z139 h w L xs) a b d = QV66 a b d := fun a b d => by
  unfold Z139 QV66
  rw [QWp, QZ138 a b d]
def QV67 : Nat → Nat → Nat → (Nat → Option Nat) := fun a b d => if a = 12 ∧ b = 5 ∧ d = 0 then (fun _ => none) else QV66 a b d
theorem QZ140 {h w L : Nat} {xs : Nat → Int32} : ∀ a b d : Nat, gQ (Z140 h w L xs) a b d = QV67 a b d := fun a b d => by
  unfold Z140 QV67
  rw [QWp, QZ139 a b d]
def QV68 : Nat → Nat → Nat → (Nat → Option Nat) := fun a b d => if a = 12 ∧ b = 6 ∧ d = 0 then (fun _ => none) else QV67 a b d
theorem QZ141 {h w L : Nat} {xs : Nat → Int32} : ∀ a b d : Nat, gQ (Z141 h w L xs) a b d = QV68 a b d := fun a b d => by
  unfold Z141 QV68
  rw [QWp, QZ140 a b d]
def QV69 : Nat → Nat → Nat → (Nat → Option Nat) := fun a b d => if a = 12 ∧ b = 7 ∧ d = 0 then (fun _ => none) else QV68 a b d
theorem QZ142 {h w L : Nat} {xs : Nat → Int32} : ∀ a b d : Nat, gQ (Z142 h w L xs) a b d = QV69 a b d := fun a b d => by
  unfold Z142 QV69
  rw [QWp, QZ141 a b d]
def QV70 : Nat → Nat → Nat → (Nat → Option Nat) := fun a b d => if a = 12 ∧ b = 8 ∧ d = 0 then (fun _ => none) else QV69 a b d
theorem QZ143 {h w L : Nat} {xs : Nat → Int32} : ∀ a b d : Nat, gQ (Z143 h w L xs) a b d = QV70 a b d := fun a b d => by
  unfold Z143 QV70
  rw [QWp, QZ142 a b d]
def QV71 : Nat → Nat → Nat → (Nat → Option Nat) := fun a b d => if a = 12 ∧ b = 13 ∧ d = 0 then (fun _ => none) else QV70 a b d
theorem QZ144 {h w L : Nat} {xs : Nat → Int32} : ∀ a b d : Nat, gQ (Z144 h w L xs) a b d = QV71 a b d := fun a b d => by
  unfold Z144 QV71
  rw [QWp, QZ143 a b d]
def QV72 : Nat → Nat → Nat → (Nat → Option Nat) := fun a b d => if a = 12 ∧ b = 15 ∧ d = 0 then (fun _ => none) else QV71 a b d
theorem QZ145 {h w L : Nat} {xs : Nat → Int32} : ∀ a b d : Nat, gQ (Z145 h w L xs) a b d = QV72 a b d := fun a b d => by
  unfold Z145 QV72
  rw [QWp, QZ144 a b d]
def QV73 : Nat → Nat → Nat → (Nat → Option Nat) := fun a b d => if a = 12 ∧ b = 16 ∧ d = 0 then (fun _ => none) else QV72 a b d
theorem QZ146 {h w L : Nat} {xs : Nat → Int32} : ∀ a b d : Nat, gQ (Z146 h w L xs) a b d = QV73 a b d := fun a b d => by
  unfold Z146 QV73
  rw [QWp, QZ145 a b d]
def QV74 : Nat → Nat → Nat → (Nat → Option Nat) := fun a b d => if a = 12 ∧ b = 17 ∧ d = 0 then (fun _ => none) else QV73 a b d
theorem QZ147 {h w L : Nat} {xs : Nat → Int32} : ∀ a b d : Nat, gQ (Z147 h w L xs) a b d = QV74 a b d := fun a b d => by
  unfold Z147 QV74
  rw [QWp, QZ146 a b d]
def QV75 : Nat → Nat → Nat → (Nat → Option Nat) := fun a b d => if a = 12 ∧ b = 18 ∧ d = 0 then (fun _ => none) else QV74 a b d
theorem QZ148 {h w L : Nat} {xs : Nat → Int32} : ∀ a b d : Nat, gQ (Z148 h w L xs) a b d = QV75 a b d := fun a b d => by
  unfold Z148 QV75
  rw [QWp, QZ147 a b d]
def QV76 : Nat → Nat → Nat → (Nat → Option Nat) := fun a b d => if a = 12 ∧ b = 19 ∧ d = 0 then (fun _ => none) else QV75 a b d
theorem QZ149 {h w L : Nat} {xs : Nat → Int32} : ∀ a b d : Nat, gQ (Z149 h w L xs) a b d = QV76 a b d := fun a b d => by
  unfold Z149 QV76
  rw [QWp, QZ148 a b d]
def QV77 : Nat → Nat → Nat → (Nat → Option Nat) := fun a b d => if a = 12 ∧ b = 20 ∧ d = 0 then (fun _ => none) else QV76 a b d
theorem QZ150 {h w L : Nat} {xs : Nat → Int32} : ∀ a b d : Nat, gQ (Z150 h w L xs) a b d = QV77 a b d := fun a b d => by
  unfold Z150 QV77
  rw [QWp, QZ149 a b d]
def QV78 : Nat → Nat → Nat → (Nat → Option Nat) := fun a b d => if a = 12 ∧ b = 21 ∧ d = 0 then (fun _ => none) else QV77 a b d
theorem QZ151 {h w L : Nat} {xs : Nat → Int32} : ∀ a b d : Nat, gQ (Z151 h w L xs) a b d = QV78 a b d := fun a b d => by
  unfold Z151 QV78
  rw [QWp, QZ150 a b d]
def QV79 : Nat → Nat → Nat → (Nat → Option Nat) := fun a b d => if a = 12 ∧ b = 22 ∧ d = 0 then (fun _ => none) else QV78 a b d
theorem QZ152 {h w L : Nat} {xs : Nat → Int32} : ∀ a b d : Nat, gQ (Z152 h w L xs) a b d = QV79 a b d := fun a b d => by
  unfold Z152 QV79
  rw [QWp, QZ151 a b d]
def QV80 : Nat → Nat → Nat → (Nat → Option Nat) := fun a b d => if a = 12 ∧ b = 24 ∧ d = 0 then (fun _ => none) else QV79 a b d
theorem QZ153 {h w L : Nat} {xs : Nat → Int32} : ∀ a b d : Nat, gQ (Z153 h w L xs) a b d = QV80 a b d := fun a b d => by
  unfold Z153 QV80
  rw [QWp, QZ152 a b d]
def QV81 : Nat → Nat → Nat → (Nat → Option Nat) := fun a b d => if a = 12 ∧ b = 25 ∧ d = 0 then (fun _ => none) else QV80 a b d
theorem QZ154 {h w L : Nat} {xs : Nat → Int32} : ∀ a b d : Nat, gQ (Z154 h w L xs) a b d = QV81 a b d := fun a b d => by
  unfold Z154 QV81
  rw [QWp, QZ153 a b d]
def QV82 : Nat → Nat → Nat → (Nat → Option Nat) := fun a b d => if a = 12 ∧ b = 26 ∧ d = 0 then (fun _ => none) else QV81 a b d
theorem QZ155 {h w L : Nat} {xs : Nat → Int32} : ∀ a b d : Nat, gQ (Z155 h w L xs) a b d = QV82 a b d := fun a b d => by
  unfold Z155 QV82
  rw [QWp, QZ154 a b d]
def QV83 : Nat → Nat → Nat → (Nat → Option Nat) := fun a b d => if a = 12 ∧ b = 27 ∧ d = 0 then (fun _ => none) else QV82 a b d
theorem QZ156 {h w L : Nat} {xs : Nat → Int32} : ∀ a b d : Nat, gQ (Z156 h w L xs) a b d = QV83 a b d := fun a b d => by
  unfold Z156 QV83
  rw [QWp, QZ155 a b d]
def QV84 : Nat → Nat → Nat → (Nat → Option Nat) := fun a b d => if a = 12 ∧ b = 28 ∧ d = 0 then (fun _ => none) else QV83 a b d
theorem QZ157 {h w L : Nat} {xs : Nat → Int32} : ∀ a b d : Nat, gQ (Z157 h w L xs) a b d = QV84 a b d := fun a b d => by
  unfold Z157 QV84
  rw [QWp, QZ156 a b d]
def QV85 : Nat → Nat → Nat → (Nat → Option Nat) := fun a b d => if a = 12 ∧ b = 29 ∧ d = 0 then (fun _ => none) else QV84 a b d
theorem QZ158 {h w L : Nat} {xs : Nat → Int32} : ∀ a b d : Nat, gQ (Z158 h w L xs) a b d = QV85 a b d := fun a b d => by
  unfold Z158 QV85
  rw [QWp, QZ157 a b d]
def QV86 : Nat → Nat → Nat → (Nat → Option Nat) := fun a b d => if a = 12 ∧ b = 30 ∧ d = 0 then (fun _ => none) else QV85 a b d
theorem QZ159 {h w L : Nat} {xs : Nat → Int32} : ∀ a b d : Nat, gQ (Z159 h w L xs) a b d = QV86 a b d := fun a b d => by
  unfold Z159 QV86
  rw [QWp, QZ158 a b d]
def QV87 : Nat → Nat → Nat → (Nat → Option Nat) := fun a b d => if a = 12 ∧ b = 31 ∧ d = 0 then (fun _ => none) else QV86 a b d
theorem QZ160 {h w L : Nat} {xs : Nat → Int32} : ∀ a b d : Nat, gQ (Z160 h w L xs) a b d = QV87 a b d := fun a b d => by
  unfold Z160 QV87
  rw [QWp, QZ159 a b d]
def QV88 : Nat → Nat → Nat → (Nat → Option Nat) := fun a b d => if a = 12 ∧ b = 32 ∧ d = 0 then (fun _ => none) else QV87 a b d
theorem QZ161 {h w L : Nat} {xs : Nat → Int32} : ∀ a b d : Nat, gQ (Z161 h w L xs) a b d = QV88 a b d := fun a b d => by
  unfold Z161 QV88
  rw [QWp, QZ160 a b d]
def QV89 : Nat → Nat → Nat → (Nat → Option Nat) := fun a b d => if a = 12 ∧ b = 33 ∧ d = 0 then (fun _ => none) else QV88 a b d
theorem QZ162 {h w L : Nat} {xs : Nat → Int32} : ∀ a b d : Nat, gQ (Z162 h w L xs) a b d = QV89 a b d := fun a b d => by
  unfold Z162 QV89
  rw [QWp, QZ161 a b d]
def QV90 : Nat → Nat → Nat → (Nat → Option Nat) := fun a b d => if a = 12 ∧ b = 34 ∧ d = 0 then (fun _ => none) else QV89 a b d
theorem QZ163 {h w L : Nat} {xs : Nat → Int32} : ∀ a b d : Nat, gQ (Z163 h w L xs) a b d = QV90 a b d := fun a b d => by
  unfold Z163 QV90
  rw [QWp, QZ162 a b d]
def QV91 : Nat → Nat → Nat → (Nat → Option Nat) := fun a b d => if a = 12 ∧ b = 35 ∧ d = 0 then (fun _ => none) else QV90 a b d
theorem QZ164 {h w L : Nat} {xs : Nat → Int32} : ∀ a b d : Nat, gQ (Z164 h w L xs) a b d = QV91 a b d := fun a b d => by
  unfold Z164 QV91
  rw [QWp, QZ163 a b d]
def QV92 : Nat → Nat → Nat → (Nat → Option Nat) := fun a b d => if a = 12 ∧ b = 36 ∧ d = 0 then (fun _ => none) else QV91 a b d
theorem QZ165 {h w L : Nat} {xs : Nat → Int32} : ∀ a b d : Nat, gQ (Z165 h w L xs) a b d = QV92 a b d := fun a b d => by
  unfold Z165 QV92
  rw [QWp, QZ164 a b d]
def QV93 : Nat → Nat → Nat → (Nat → Option Nat) := fun a b d => if a = 12 ∧ b = 37 ∧ d = 0 then (fun _ => none) else QV92 a b d
theorem QZ166 {h w L : Nat} {xs : Nat → Int32} : ∀ a b d : Nat, gQ (Z166 h w L xs) a b d = QV93 a b d := fun a b d => by
  unfold Z166 QV93
  rw [QWp, QZ165 a b d]
def QV94 : Nat → Nat → Nat → (Nat → Option Nat) := fun a b d => if a = 12 ∧ b = 39 ∧ d = 0 then (fun _ => none) else QV93 a b d
theorem QZ167 {h w L : Nat} {xs : Nat → Int32} : ∀ a b d : Nat, gQ (Z167 h w L xs) a b d = QV94 a b d := fun a b d => by
  unfold Z167 QV94
  rw [QWp, QZ166 a b d]
def QV95 : Nat → Nat → Nat → (Nat → Option Nat) := fun a b d => if a = 12 ∧ b = 40 ∧ d = 0 then (fun _ => none) else QV94 a b d
theorem QZ168 {h w L : Nat} {xs : Nat → Int32} : ∀ a b d : Nat, gQ (Z168 h w L xs) a b d = QV95 a b d := fun a b d => by
  unfold Z168 QV95
  rw [QWp, QZ167 a b d]
def QV96 : Nat → Nat → Nat → (Nat → Option Nat) := fun a b d => if a = 12 ∧ b = 41 ∧ d = 0 then (fun _ => none) else QV95 a b d
theorem QZ169 {h w L : Nat} {xs : Nat → Int32} : ∀ a b d : Nat, gQ (Z169 h w L xs) a b d = QV96 a b d := fun a b d => by
  unfold Z169 QV96
  rw [QWp, QZ168 a b d]
def QV97 : Nat → Nat → Nat → (Nat → Option Nat) := fun a b d => if a = 12 ∧ b = 42 ∧ d = 0 then (fun _ => none) else QV96 a b d
theorem QZ170 {h w L : Nat} {xs : Nat → Int32} : ∀ a b d : Nat, gQ (Z170 h w L xs) a b d = QV97 a b d := fun a b d => by
  unfold Z170 QV97
  rw [QWp, QZ169 a b d]
def QV98 : Nat → Nat → Nat → (Nat → Option Nat) := fun a b d => if a = 12 ∧ b = 43 ∧ d = 0 then (fun _ => none) else QV97 a b d
theorem QZ171 {h w L : Nat} {xs : Nat → Int32} : ∀ a b d : Nat, gQ (Z171 h w L xs) a b d = QV98 a b d := fun a b d => by
  unfold Z171 QV98
  rw [QWp, QZ170 a b d]
def QV99 : Nat → Nat → Nat → (Nat → Option Nat) := fun a b d => if a = 12 ∧ b = 44 ∧ d = 0 then (fun _ => none) else QV98 a b d
theorem QZ172 {h w L : Nat} {xs : Nat → Int32} : ∀ a b d : Nat, gQ (Z172 h w L xs) a b d = QV99 a b d := fun a b d => by
  unfold Z172 QV99
  rw [QWp, QZ171 a b d]
def QV100 : Nat → Nat → Nat → (Nat → Option Nat) := fun a b d => if a = 12 ∧ b = 45 ∧ d = 0 then (fun _ => none) else QV99 a b d
theorem QZ173 {h w L : Nat} {xs : Nat → Int32} : ∀ a b d : Nat, gQ (Z173 h w L xs) a b d = QV100 a b d := fun a b d => by
  unfold Z173 QV100
  rw [QWp, QZ172 a b d]
def QV101 : Nat → Nat → Nat → (Nat → Option Nat) := fun a b d => if a = 12 ∧ b = 46 ∧ d = 0 then (fun _ => none) else QV100 a b d
theorem QZ174 {h w L : Nat} {xs : Nat → Int32} : ∀ a b d : Nat, gQ (Z174 h w L xs) a b d = QV101 a b d := fun a b d => by
  unfold Z174 QV101
  rw [QWp, QZ173 a b d]
def QV102 : Nat → Nat → Nat → (Nat → Option Nat) := fun a b d => if a = 12 ∧ b = 47 ∧ d = 0 then (fun _ => none) else QV101 a b d
theorem QZ175 {h w L : Nat} {xs : Nat → Int32} : ∀ a b d : Nat, gQ (Z175 h w L xs) a b d = QV102 a b d := fun a b d => by
  unfold Z175 QV102
  rw [QWp, QZ174 a b d]
def QV103 : Nat → Nat → Nat → (Nat → Option Nat) := fun a b d => if a = 12 ∧ b = 48 ∧ d = 0 then (fun _ => none) else QV102 a b d
theorem QZ176 {h w L : Nat} {xs : Nat → Int32} : ∀ a b d : Nat, gQ (Z176 h w L xs) a b d = QV103 a b d := fun a b d => by
  unfold Z176 QV103
  rw [QWp, QZ175 a b d]
def QV104 : Nat → Nat → Nat → (Nat → Option Nat) := fun a b d => if a = 12 ∧ b = 49 ∧ d = 0 then (fun _ => none) else QV103 a b d
theorem QZ177 {h w L : Nat} {xs : Nat → Int32} : ∀ a b d : Nat, gQ (Z177 h w L xs) a b d = QV104 a b d := fun a b d => by
  unfold Z177 QV104
  rw [QWp, QZ176 a b d]
def QV105 : Nat → Nat → Nat → (Nat → Option Nat) := fun a b d => if a = 12 ∧ b = 50 ∧ d = 0 then (fun _ => none) else QV104 a b d
theorem QZ178 {h w L : Nat} {xs : Nat → Int32} : ∀ a b d : Nat, gQ (Z178 h w L xs) a b d = QV105 a b d := fun a b d => by
  unfold Z178 QV105
  rw [QWp, QZ177 a b d]
def QV106 : Nat → Nat → Nat → (Nat → Option Nat) := fun a b d => if a = 12 ∧ b = 51 ∧ d = 0 then (fun _ => none) else QV105 a b d
theorem QZ179 {h w L : Nat} {xs : Nat → Int32} : ∀ a b d : Nat, gQ (Z179 h w L xs) a b d = QV106 a b d := fun a b d => by
  unfold Z179 QV106
  rw [QWp, QZ178 a b d]
def QV107 : Nat → Nat → Nat → (Nat → Option Nat) := fun a b d => if a = 12 ∧ b = 52 ∧ d = 0 then (fun _ => none) else QV106 a b d
theorem QZ180 {h w L : Nat} {xs : Nat → Int32} : ∀ a b d : Nat, gQ (Z180 h w L xs) a b d = QV107 a b d := fun a b d => by
  unfold Z180 QV107
  rw [QWp, QZ179 a b d]
def QV108 : Nat → Nat → Nat → (Nat → Option Nat) := fun a b d => if a = 12 ∧ b = 53 ∧ d = 0 then (fun _ => none) else QV107 a b d
theorem QZ181 {h w L : Nat} {xs : Nat → Int32} : ∀ a b d : Nat, gQ (Z181 h w L xs) a b d = QV108 a b d := fun a b d => by
  unfold Z181 QV108
  rw [QWp, QZ180 a b d]
def QV109 : Nat → Nat → Nat → (Nat → Option Nat) := fun a b d => if a = 12 ∧ b = 55 ∧ d = 0 then (fun _ => none) else QV108 a b d
theorem QZ182 {h w L : Nat} {xs : Nat → Int32} : ∀ a b d : Nat, gQ (Z182 h w L xs) a b d = QV109 a b d := fun a b d => by
  unfold Z182 QV109
  rw [QWp, QZ181 a b d]
def QV110 : Nat → Nat → Nat → (Nat → Option Nat) := fun a b d => if a = 12 ∧ b = 56 ∧ d = 0 then (fun _ => none) else QV109 a b d
theorem QZ183 {h w L : Nat} {xs : Nat → Int32} : ∀ a b d : Nat, gQ (Z183 h w L xs) a b d = QV110 a b d := fun a b d => by
  unfold Z183 QV110
  rw [QWp, QZ182 a b d]
def QV111 : Nat → Nat → Nat → (Nat → Option Nat) := fun a b d => if a = 12 ∧ b = 57 ∧ d = 0 then (fun _ => none) else QV110 a b d
theorem QZ184 {h w L : Nat} {xs : Nat → Int32} : ∀ a b d : Nat, gQ (Z184 h w L xs) a b d = QV111 a b d := fun a b d => by
  unfold Z184 QV111
  rw [QWp, QZ183 a b d]
def QV112 : Nat → Nat → Nat → (Nat → Option Nat) := fun a b d => if a = 12 ∧ b = 58 ∧ d = 0 then (fun _ => none) else QV111 a b d
theorem QZ185 {h w L : Nat} {xs : Nat → Int32} : ∀ a b d : Nat, gQ (Z185 h w L xs) a b d = QV112 a b d := fun a b d => by
  unfold Z185 QV112
  rw [QWp, QZ184 a b d]
def QV113 : Nat → Nat → Nat → (Nat → Option Nat) := fun a b d => if a = 12 ∧ b = 60 ∧ d = 0 then (fun _ => none) else QV112 a b d
theorem QZ186 {h w L : Nat} {xs : Nat → Int32} : ∀ a b d : Nat, gQ (Z186 h w L xs) a b d = QV113 a b d := fun a b d => by
  unfold Z186 QV113
  rw [QWp, QZ185 a b d]
def QV114 : Nat → Nat → Nat → (Nat → Option Nat) := fun a b d => if a = 12 ∧ b = 61 ∧ d = 0 then (fun _ => none) else QV113 a b d
theorem QZ187 {h w L : Nat} {xs : Nat → Int32} : ∀ a b d : Nat, gQ (Z187 h w L xs) a b d = QV114 a b d := fun a b d => by
  unfold Z187 QV114
  rw [QWp, QZ186 a b d]
def QV115 : Nat → Nat → Nat → (Nat → Option Nat) := fun a b d => if a = 12 ∧ b = 62 ∧ d = 0 then (fun _ => none) else QV114 a b d
theorem QZ188 {h w L : Nat} {xs : Nat → Int32} : ∀ a b d : Nat, gQ (Z188 h w L xs) a b d = QV115 a b d := fun a b d => by
  unfold Z188 QV115
  rw [QWp, QZ187 a b d]
def QV116 : Nat → Nat → Nat → (Nat → Option Nat) := fun a b d => if a = 12 ∧ b = 63 ∧ d = 0 then (fun _ => none) else QV115 a b d
theorem QZ189 {h w L : Nat} {xs : Nat → Int32} : ∀ a b d : Nat, gQ (Z189 h w L xs) a b d = QV116 a b d := fun a b d => by
  unfold Z189 QV116
  rw [QWp, QZ188 a b d]
def QV117 : Nat → Nat → Nat → (Nat → Option Nat) := fun a b d => if a = 12 ∧ b = 68 ∧ d = 0 then (fun _ => none) else QV116 a b d
theorem QZ190 {h w L : Nat} {xs : Nat → Int32} : ∀ a b d : Nat, gQ (Z190 h w L xs) a b d = QV117 a b d := fun a b d => by
  unfold Z190 QV117
  rw [QWp, QZ189 a b d]
theorem QZ191 {h w L : Nat} {xs : Nat → Int32} : ∀ a b d : Nat, gQ (Z191 h w L xs) a b d = QV117 a b d := fun a b d => by
  unfold Z191
  rw [QI]; exact QZ190 a b d
def QV118 : Nat → Nat → Nat → (Nat → Option Nat) := fun a b d => if a = 12 ∧ b = 70 ∧ d = 0 then (fun _ => none) else QV117 a b d
theorem QZ192 {h w L : Nat} {xs : Nat → Int32} : ∀ a b d : Nat, gQ (Z192 h w L xs) a b d = QV118 a b d := fun a b d => by
  unfold Z192 QV118
  rw [QWp, QZ191 a b d]
def QV119 : Nat → Nat → Nat → (Nat → Option Nat) := fun a b d => if a = 12 ∧ b = 71 ∧ d = 0 then (fun _ => none) else QV118 a b d
theorem QZ193 {h w L : Nat} {xs : Nat → Int32} : ∀ a b d : Nat, gQ (Z193 h w L xs) a b d = QV119 a b d := fun a b d => by
  unfold Z193 QV119
  rw [QWp, QZ192 a b d]
def QV120 : Nat → Nat → Nat → (Nat → Option Nat) := fun a b d => if a = 12 ∧ b = 72 ∧ d = 0 then (fun _ => none) else QV119 a b d
theorem QZ194 {h w L : Nat} {xs : Nat → Int32} : ∀ a b d : Nat, gQ (Z194 h w L xs) a b d = QV120 a b d := fun a b d => by
  unfold Z194 QV120
  rw [QWp, QZ193 a b d]
def QV121 : Nat → Nat → Nat → (Nat → Option Nat) := fun a b d => if a = 12 ∧ b = 73 ∧ d = 0 then (fun _ => none) else QV120 a b d
theorem QZ195 {h w L : Nat} {xs : Nat → Int32} : ∀ a b d : Nat, gQ (Z195 h w L xs) a b d = QV121 a b d := fun a b d => by
  unfold Z195 QV121
  rw [QWp, QZ194 a b d]
def QV122 : Nat → Nat → Nat → (Nat → Option Nat) := fun a b d => if a = 12 ∧ b = 74 ∧ d = 0 then (fun _ => none) else QV121 a b d
theorem QZ196 {h w L : Nat} {xs : Nat → Int32} : ∀ a b d : Nat, gQ (Z196 h w L xs) a b d = QV122 a b d := fun a b d => by
  unfold Z196 QV122
  rw [QWp, QZ195 a b d]
def QV123 : Nat → Nat → Nat → (Nat → Option Nat) := fun a b d => if a = 12 ∧ b = 75 ∧ d = 0 then (fun _ => none) else QV122 a b d
theorem QZ197 {h w L : Nat} {xs : Nat → Int32} : ∀ a b d : Nat, gQ (Z197 h w L xs) a b d = QV123 a b d := fun a b d => by
  unfold Z197 QV123
  rw [QWp, QZ196 a b d]
def QV124 : Nat → Nat → Nat → (Nat → Option Nat) := fun a b d => if a = 12 ∧ b = 76 ∧ d = 0 then (fun _ => none) else QV123 a b d
theorem QZ198 {h w L : Nat} {xs : Nat → Int32} : ∀ a b d : Nat, gQ (Z198 h w L xs) a b d = QV124 a b d := fun a b d => by
  unfold Z198 QV124
  rw [QWp, QZ197 a b d]
def QV125 : Nat → Nat → Nat → (Nat → Option Nat) := fun a b d => if a = 12 ∧ b = 77 ∧ d = 0 then (fun _ => none) else QV124 a b d
theorem QZ199 {h w L : Nat} {xs : Nat → Int32} : ∀ a b d : Nat, gQ (Z199 h w L xs) a b d = QV125 a b d := fun a b d => by
  unfold Z199 QV125
  rw [QWp, QZ198 a b d]
def QV126 : Nat → Nat → Nat → (Nat → Option Nat) := fun a b d => if a = 12 ∧ b = 78 ∧ d = 0 then (fun _ => none) else QV125 a b d
theorem QZ200 {h w L : Nat} {xs : Nat → Int32} : ∀ a b d : Nat, gQ (Z200 h w L xs) a b d = QV126 a b d := fun a b d => by
  unfold Z200 QV126
  rw [QWp, QZ199 a b d]
def QV127 : Nat → Nat → Nat → (Nat → Option Nat) := fun a b d => if a = 12 ∧ b = 79 ∧ d = 0 then (fun _ => none) else QV126 a b d
theorem QZ201 {h w L : Nat} {xs : Nat → Int32} : ∀ a b d : Nat, gQ (Z201 h w L xs) a b d = QV127 a b d := fun a b d => by
  unfold Z201 QV127
  rw [QWp, QZ200 a b d]
def QV128 : Nat → Nat → Nat → (Nat → Option Nat) := fun a b d => if a = 12 ∧ b = 80 ∧ d = 0 then (fun _ => none) else QV127 a b d
theorem QZ202 {h w L : Nat} {xs : Nat → Int32} : ∀ a b d : Nat, gQ (Z202 h w L xs) a b d = QV128 a b d := fun a b d => by
  unfold Z202 QV128
  rw [QWp, QZ201 a b d]
def QV129 : Nat → Nat → Nat → (Nat → Option Nat) := fun a b d => if a = 12 ∧ b = 81 ∧ d = 0 then (fun _ => none) else QV128 a b d
theorem QZ203 {h w L : Nat} {xs : Nat → Int32} : ∀ a b d : Nat, gQ (Z203 h w L xs) a b d = QV129 a b d := fun a b d => by
  unfold Z203 QV129
  rw [QWp, QZ202 a b d]
theorem QZ204 {h w L : Nat} {xs : Nat → Int32} : ∀ a b d : Nat, gQ (Z204 h w L xs) a b d = QV129 a b d := fun a b d => by
  unfold Z204
  rw [QA]; exact QZ203 a b d
theorem QZ205 {h w L : Nat} {xs : Nat → Int32} : ∀ a b d : Nat, gQ (Z205 h w L xs) a b d = QV129 a b d := fun a b d => by
  unfold Z205
  rw [QA]; exact QZ204 a b d
theorem QZ206 {h w L : Nat} {xs : Nat → Int32} : ∀ a b d : Nat, gQ (Z206 h w L xs) a b d = QV129 a b d := fun a b d => by
  unfold Z206
  rw [QA]; exact QZ205 a b d
theorem QZ207 {h w L : Nat} {xs : Nat → Int32} : ∀ a b d : Nat, gQ (Z207 h w L xs) a b d = QV129 a b d := fun a b d => by
  unfold Z207
  rw [QA]; exact QZ206 a b d
theorem QZ208 {h w L : Nat} {xs : Nat → Int32} : ∀ a b d : Nat, gQ (Z208 h w L xs) a b d = QV129 a b d := fun a b d => by
  unfold Z208
  rw [QA]; exact QZ207 a b d
theorem QZ209 {h w L : Nat} {xs : Nat → Int32} : ∀ a b d : Nat, gQ (Z209 h w L xs) a b d = QV129 a b d := fun a b d => by
  unfold Z209
  rw [QA]; exact QZ208 a b d
theorem QZ210 {h w L : Nat} {xs : Nat → Int32} : ∀ a b d : Nat, gQ (Z210 h w L xs) a b d = QV129 a b d := fun a b d => by
  unfold Z210
  rw [QA]; exact QZ209 a b d
theorem QZ211 {h w L : Nat} {xs : Nat → Int32} : ∀ a b d : Nat, gQ (Z211 h w L xs) a b d = QV129 a b d := fun a b d => by
  unfold Z211
  rw [QA]; exact QZ210 a b d
theorem QZ212 {h w L : Nat} {xs : Nat → Int32} : ∀ a b d : Nat, gQ (Z212 h w L xs) a b d = QV129 a b d := fun a b d => by
  unfold Z212
  rw [QA]; exact QZ211 a b d
theorem QZ213 {h w L : Nat} {xs : Nat → Int32} : ∀ a b d : Nat, gQ (Z213 h w L xs) a b d = QV129 a b d := fun a b d => by
  unfold Z213
  rw [QA]; exact QZ212 a b d
def AV0 (xs : Nat → Int32) : Nat → Nat → Nat → (Nat → Int32) := fun _ _ _ => xs
theorem AZ0 {h w L : Nat} {xs : Nat → Int32} : ∀ a b d : Nat, gA (Z0 h w L xs) a b d = AV0 xs a b d := fun _ _ _ => rfl
theorem AZ1 {h w L : Nat} {xs : Nat → Int32} : ∀ a b d : Nat, gA (Z1 h w L xs) a b d = AV0 xs a b d := fun a b d => by
  unfold Z1
  rw [AO']; exact AZ0 a b d
theorem AZ2 {h w L : Nat} {xs : Nat → Int32} : ∀ a b d : Nat, gA (Z2 h w L xs) a b d = AV0 xs a b d := fun a b d => by
  unfold Z2
  rw [AO']; exact AZ1 a b d
def AV1 (xs : Nat → Int32) : Nat → Nat → Nat → (Nat → Int32) := fun a b d => if a = 7 ∧ b = 0 ∧ d = 0 then (fun _ => 0) else AV0 xs a b d
theorem AZ3 {h w L : Nat} {xs : Nat → Int32} : ∀ a b d : Nat, gA (Z3 h w L xs) a b d = AV1 xs a b d := fun a b d => by
  unfold Z3 AV1
  rw [AWp, AZ2 a b d]
theorem AZ4 {h w L : Nat} {xs : Nat → Int32} : ∀ a b d : Nat, gA (Z4 h w L xs) a b d = AV1 xs a b d := fun a b d => by
  unfold Z4
  rw [AI]; exact AZ3 a b d
theorem AZ5 {h w L : Nat} {xs : Nat → Int32} : ∀ a b d : Nat, gA (Z5 h w L xs) a b d = AV1 xs a b d := fun a b d => by
  unfold Z5
  rw [AI]; exact AZ4 a b d
theorem AZ6 {h w L : Nat} {xs : Nat → Int32} : ∀ a b d : Nat, gA (Z6 h w L xs) a b d = AV1 xs a b d := fun a b d => by
  unfold Z6
  rw [AR]; exact AZ5 a b d
def AV2 (xs : Nat → Int32) : Nat → Nat → Nat → (Nat → Int32) := fun a b d => if a = 11 ∧ b = 1 ∧ d = 0 then (fun _ => 0) else AV1 xs a b d
theorem AZ7 {h w L : Nat} {xs : Nat → Int32} : ∀ a b d : Nat, gA (Z7 h w L xs) a b d = AV2 xs a b d := fun a b d => by
  unfold Z7 AV2
  rw [AWp, AZ6 a b d]
def AV3 (xs : Nat → Int32) : Nat → Nat → Nat → (Nat → Int32) := fun a b d => if a = 11 ∧ b = 2 ∧ d = 0 then (fun _ => 0) else AV2 xs a b d
theorem AZ8 {h w L : Nat} {xs : Nat → Int32} : ∀ a b d : Nat, gA (Z8 h w L xs) a b d = AV3 xs a b d := fun a b d => by
  unfold Z8 AV3
  rw [AWp, AZ7 a b d]
def AV4 (xs : Nat → Int32) : Nat → Nat → Nat → (Nat → Int32) := fun a b d => if a = 11 ∧ b = 3 ∧ d = 0 then (fun _ => 0) else AV3 xs a b d
theorem AZ9 {h w L : Nat} {xs : Nat → Int32} : ∀ a b d : Nat, gA (Z9 h w L xs) a b d = AV4 xs a b d := fun a b d => by
  unfold Z9 AV4
  rw [AWp, AZ8 a b d]
theorem AZ10 {h w L : Nat} {xs : Nat → Int32} : ∀ a b d : Nat, gA (Z10 h w L xs) a b d = AV4 xs a b d := fun a b d => by
  unfold Z10
  rw [AO']; exact AZ9 a b d
theorem AZ11 {h w L : Nat} {xs : Nat → Int32} : ∀ a b d : Nat, gA (Z11 h w L xs) a b d = AV4 xs a b d := fun a b d => by
  unfold Z11
  rw [AI]; exact AZ10 a b d
theorem AZ12 {h w L : Nat} {xs : Nat → Int32} : ∀ a b d : Nat, gA (Z12 h w L xs) a b d = AV4 xs a b d := fun a b d => by
  unfold Z12
  rw [AI]; exact AZ11 a b d
def AV5 (xs : Nat → Int32) : Nat → Nat → Nat → (Nat → Int32) := fun a b d => if a = 0 ∧ b = 2 ∧ d = 0 then (fun _ => 0) else AV4 xs a b d
theorem AZ13 {h w L : Nat} {xs : Nat → Int32} : ∀ a b d : Nat, gA (Z13 h w L xs) a b d = AV5 xs a b d := fun a b d => by
  unfold Z13 AV5
  rw [AWp, AZ12 a b d]
def AV6 (xs : Nat → Int32) : Nat → Nat → Nat → (Nat → Int32) := fun a b d => if a = 0 ∧ b = 3 ∧ d = 0 then (fun _ => 0) else AV5 xs a b d
theorem AZ14 {h w L : Nat} {xs : Nat → Int32} : ∀ a b d : Nat, gA (Z14 h w L xs) a b d = AV6 xs a b d := fun a b d => by
  unfold Z14 AV6
  rw [AWp, AZ13 a b d]
def AV7 (xs : Nat → Int32) : Nat → Nat → Nat → (Nat → Int32) := fun a b d => if a = 0 ∧ b = 4 ∧ d = 0 then (fun _ => 0) else AV6 xs a b d
theorem AZ15 {h w L : Nat} {xs : Nat → Int32} : ∀ a b d : Nat, gA (Z15 h w L xs) a b d = AV7 xs a b d := fun a b d => by
  unfold Z15 AV7
  rw [AWp, AZ14 a b d]
def AV8 (xs : Nat → Int32) : Nat → Nat → Nat → (Nat → Int32) := fun a b d => if a = 0 ∧ b = 5 ∧ d = 0 then (fun _ => 0) else AV7 xs a b d
theorem AZ16 {h w L : Nat} {xs : Nat → Int32} : ∀ a b d : Nat, gA (Z16 h w L xs) a b d = AV8 xs a b d := fun a b d => by
  unfold Z16 AV8
  rw [AWp, AZ15 a b d]
def AV9 (xs : Nat → Int32) : Nat → Nat → Nat → (Nat → Int32) := fun a b d => if a = 0 ∧ b = 6 ∧ d = 0 then (fun _ => 0) else AV8 xs a b d
theorem AZ17 {h w L : Nat} {xs : Nat → Int32} : ∀ a b d : Nat, gA (Z17 h w L xs) a b d = AV9 xs a b d := fun a b d => by
  unfold Z17 AV9
  rw [AWp, AZ16 a b d]
def AV10 (xs : Nat → Int32) : Nat → Nat → Nat → (Nat → Int32) := fun a b d => if a = 0 ∧ b = 7 ∧ d = 0 then (fun _ => 0) else AV9 xs a b d
theorem AZ18 {h w L : Nat} {xs : Nat → Int32} : ∀ a b d : Nat, gA (Z18 h w L xs) a b d = AV10 xs a b d := fun a b d => by
  unfold Z18 AV10
  rw [AWp, AZ17 a b d]
theorem AZ19 {h w L : Nat} {xs : Nat → Int32} : ∀ a b d : Nat, gA (Z19 h w L xs) a b d = AV10 xs a b d := fun a b d => by
  unfold Z19
  rw [AI]; exact AZ18 a b d
theorem AZ20 {h w L : Nat} {xs : Nat → Int32} : ∀ a b d : Nat, gA (Z20 h w L xs) a b d = AV10 xs a b d := fun a b d => by
  unfold Z20
  rw [AR]; exact AZ19 a b d
theorem AZ21 {h w L : Nat} {xs : Nat → Int32} : ∀ a b d : Nat, gA (Z21 h w L xs) a b d = AV10 xs a b d := fun a b d => by
  unfold Z21
  rw [AO']; exact AZ20 a b d
theorem AZ22 {h w L : Nat} {xs : Nat → Int32} : ∀ a b d : Nat, gA (Z22 h w L xs) a b d = AV10 xs a b d := fun a b d => by
  unfold Z22
  rw [AI]; exact AZ21 a b d
def AV11 (xs : Nat → Int32) : Nat → Nat → Nat → (Nat → Int32) := fun a b d => if a = 1 ∧ b = 1 ∧ d = 0 then (fun _ => 0) else AV10 xs a b d
theorem AZ23 {h w L : Nat} {xs : Nat → Int32} : ∀ a b d : Nat, gA (Z23 h w L xs) a b d = AV11 xs a b d := fun a b d => by
  unfold Z23 AV11
  rw [AWp, AZ22 a b d]
def AV12 (xs : Nat → Int32) : Nat → Nat → Nat → (Nat → Int32) := fun a b d => if a = 1 ∧ b = 2 ∧ d = 0 then (fun _ => 0) else AV11 xs a b d
theorem AZ24 {h w L : Nat} {xs : Nat → Int32} : ∀ a b d : Nat, gA (Z24 h w L xs) a b d = AV12 xs a b d := fun a b d => by
  unfold Z24 AV12
  rw [AWp, AZ23 a b d]
def AV13 (xs : Nat → Int32) : Nat → Nat → Nat → (Nat → Int32) := fun a b d => if a = 1 ∧ b = 3 ∧ d = 0 then (fun _ => 0) else AV12 xs a b d
theorem AZ25 {h w L : Nat} {xs : Nat → Int32} : ∀ a b d : Nat, gA (Z25 h w L xs) a b d = AV13 xs a b d := fun a b d => by
  unfold Z25 AV13
  rw [AWp, AZ24 a b d]
theorem AZ26 {h w L : Nat} {xs : Nat → Int32} : ∀ a b d : Nat, gA (Z26 h w L xs) a b d = AV13 xs a b d := fun a b d => by
  unfold Z26
  rw [AR]; exact AZ25 a b d
def AV14 (xs : Nat → Int32) : Nat → Nat → Nat → (Nat → Int32) := fun a b d => if a = 11 ∧ b = 6 ∧ d = 0 then (fun _ => 0) else AV13 xs a b d
theorem AZ27 {h w L : Nat} {xs : Nat → Int32} : ∀ a b d : Nat, gA (Z27 h w L xs) a b d = AV14 xs a b d := fun a b d => by
  unfold Z27 AV14
  rw [AWp, AZ26 a b d]
theorem AZ28 {h w L : Nat} {xs : Nat → Int32} : ∀ a b d : Nat, gA (Z28 h w L xs) a b d = AV14 xs a b d := fun a b d => by
  unfold Z28
  rw [AI]; exact AZ27 a b d
def AV15 (xs : Nat → Int32) : Nat → Nat → Nat → (Nat → Int32) := fun a b d => if a = 11 ∧ b = 8 ∧ d = 0 then (fun _ => 0) else AV14 xs a b d
theorem AZ29 {h w L : Nat} {xs : Nat → Int32} : ∀ a b d : Nat, gA (Z29 h w L xs) a b d = AV15 xs a b d := fun a b d => by
  unfold Z29 AV15
  rw [AWp, AZ28 a b d]
theorem AZ30 {h w L : Nat} {xs : Nat → Int32} : ∀ a b d : Nat, gA (Z30 h w L xs) a b d = AV15 xs a b d := fun a b d => by
  unfold Z30
  rw [AI]; exact AZ29 a b d
def AV16 (xs : Nat → Int32) : Nat → Nat → Nat → (Nat → Int32) := fun a b d => if a = 11 ∧ b = 10 ∧ d = 0 then (fun _ => 0) else AV15 xs a b d
theorem AZ31 {h w L : Nat} {xs : Nat → Int32} : ∀ a b d : Nat, gA (Z31 h w L xs) a b d = AV16 xs a b d := fun a b d => by
  unfold Z31 AV16
  rw [AWp, AZ30 a b d]
theorem AZ32 {h w L : Nat} {xs : Nat → Int32} : ∀ a b d : Nat, gA (Z32 h w L xs) a b d = AV16 xs a b d := fun a b d => by
  unfold Z32
  rw [AI]; exact AZ31 a b d
def AV17 (xs : Nat → Int32) : Nat → Nat → Nat → (Nat → Int32) := fun a b d => if a = 11 ∧ b = 12 ∧ d = 0 then (fun _ => 0) else AV16 xs a b d
theorem AZ33 {h w L : Nat} {xs : Nat → Int32} : ∀ a b d : Nat, gA (Z33 h w L xs) a b d = AV17 xs a b d := fun a b d => by
  unfold Z33 AV17
  rw [AWp, AZ32 a b d]
theorem AZ34 {h w L : Nat} {xs : Nat → Int32} : ∀ a b d : Nat, gA (Z34 h w L xs) a b d = AV17 xs a b d := fun a b d => by
  unfold Z34
  rw [AO']; exact AZ33 a b d
def AV18 (xs : Nat → Int32) : Nat → Nat → Nat → (Nat → Int32) := fun a b d => if a = 2 ∧ b = 0 ∧ d = 0 then (fun _ => 0) else AV17 xs a b d
theorem AZ35 {h w L : Nat} {xs : Nat → Int32} : ∀ a b d : Nat, gA (Z35 h w L xs) a b d = AV18 xs a b d := fun a b d => by
  unfold Z35 AV18
  rw [AWp, AZ34 a b d]
def AV19 (xs : Nat → Int32) : Nat → Nat → Nat → (Nat → Int32) := fun a b d => if a = 2 ∧ b = 1 ∧ d = 0 then (fun _ => 0) else AV18 xs a b d
theorem AZ36 {h w L : Nat} {xs : Nat → Int32} : ∀ a b d : Nat, gA (Z36 h w L xs) a b d = AV19 xs a b d := fun a b d => by
  unfold Z36 AV19
  rw [AWp, AZ35 a b d]
def AV20 (xs : Nat → Int32) : Nat → Nat → Nat → (Nat → Int32) := fun a b d => if a = 2 ∧ b = 2 ∧ d = 0 then (fun _ => 0) else AV19 xs a b d
theorem AZ37 {h w L : Nat} {xs : Nat → Int32} : ∀ a b d : Nat, gA (Z37 h w L xs) a b d = AV20 xs a b d := fun a b d => by
  unfold Z37 AV20
  rw [AWp, AZ36 a b d]
theorem AZ38 {h w L : Nat} {xs : Nat → Int32} : ∀ a b d : Nat, gA (Z38 h w L xs) a b d = AV20 xs a b d := fun a b d => by
  unfold Z38
  rw [AI]; exact AZ37 a b d
theorem AZ39 {h w L : Nat} {xs : Nat → Int32} : ∀ a b d : Nat, gA (Z39 h w L xs) a b d = AV20 xs a b d := fun a b d => by
  unfold Z39
  rw [AR]; exact AZ38 a b d
def AV21 (xs : Nat → Int32) : Nat → Nat → Nat → (Nat → Int32) := fun a b d => if a = 11 ∧ b = 14 ∧ d = 0 then (fun _ => 0) else AV20 xs a b d
theorem AZ40 {h w L : Nat} {xs : Nat → Int32} : ∀ a b d : Nat, gA (Z40 h w L xs) a b d = AV21 xs a b d := fun a b d => by
  unfold Z40 AV21
  rw [AWp, AZ39 a b d]
theorem AZ41 {h w L : Nat} {xs : Nat → Int32} : ∀ a b d : Nat, gA (Z41 h w L xs) a b d = AV21 xs a b d := fun a b d => by
  unfold Z41
  rw [AI]; exact AZ40 a b d
def AV22 (xs : Nat → Int32) : Nat → Nat → Nat → (Nat → Int32) := fun a b d => if a = 11 ∧ b = 16 ∧ d = 0 then (fun _ => 0) else AV21 xs a b d
theorem AZ42 {h w L : Nat} {xs : Nat → Int32} : ∀ a b d : Nat, gA (Z42 h w L xs) a b d = AV22 xs a b d := fun a b d => by
  unfold Z42 AV22
  rw [AWp, AZ41 a b d]
theorem AZ43 {h w L : Nat} {xs : Nat → Int32} : ∀ a b d : Nat, gA (Z43 h w L xs) a b d = AV22 xs a b d := fun a b d => by
  unfold Z43
  rw [AO']; exact AZ42 a b d
def AV23 (xs : Nat → Int32) : Nat → Nat → Nat → (Nat → Int32) := fun a b d => if a = 5 ∧ b = 0 ∧ d = 0 then (fun _ => 0) else AV22 xs a b d
theorem AZ44 {h w L : Nat} {xs : Nat → Int32} : ∀ a b d : Nat, gA (Z44 h w L xs) a b d = AV23 xs a b d := fun a b d => by
  unfold Z44 AV23
  rw [AWp, AZ43 a b d]
def AV24 (xs : Nat → Int32) : Nat → Nat → Nat → (Nat → Int32) := fun a b d => if a = 5 ∧ b = 1 ∧ d = 0 then (fun _ => 0) else AV23 xs a b d
theorem AZ45 {h w L : Nat} {xs : Nat → Int32} : ∀ a b d : Nat, gA (Z45 h w L xs) a b d = AV24 xs a b d := fun a b d => by
  unfold Z45 AV24
  rw [AWp, AZ44 a b d]
def AV25 (xs : Nat → Int32) : Nat → Nat → Nat → (Nat → Int32) := fun a b d => if a = 5 ∧ b = 2 ∧ d = 0 then (fun _ => 0) else AV24 xs a b d
theorem AZ46 {h w L : Nat} {xs : Nat → Int32} : ∀ a b d : Nat, gA (Z46 h w L xs) a b d = AV25 xs a b d := fun a b d => by
  unfold Z46 AV25
  rw [AWp, AZ45 a b d]
def AV26 (xs : Nat → Int32) : Nat → Nat → Nat → (Nat → Int32) := fun a b d => if a = 5 ∧ b = 3 ∧ d = 0 then (fun _ => 0) else AV25 xs a b d
theorem AZ47 {h w L : Nat} {xs : Nat → Int32} : ∀ a b d : Nat, gA (Z47 h w L xs) a b d = AV26 xs a b d := fun a b d => by
  unfold Z47 AV26
  rw [AWp, AZ46 a b d]
def AV27 (xs : Nat → Int32) : Nat → Nat → Nat → (Nat → Int32) := fun a b d => if a = 5 ∧ b = 4 ∧ d = 0 then (fun _ => 0) else AV26 xs a b d
theorem AZ48 {h w L : Nat} {xs : Nat → Int32} : ∀ a b d : Nat, gA (Z48 h w L xs) a b d = AV27 xs a b d := fun a b d => by
  unfold Z48 AV27
  rw [AWp, AZ47 a b d]
def AV28 (xs : Nat → Int32) : Nat → Nat → Nat → (Nat → Int32) := fun a b d => if a = 5 ∧ b = 5 ∧ d = 0 then (fun _ => 0) else AV27 xs a b d
theorem AZ49 {h w L : Nat} {xs : Nat → Int32} : ∀ a b d : Nat, gA (Z49 h w L xs) a b d = AV28 xs a b d := fun a b d => by
  unfold Z49 AV28
  rw [AWp, AZ48 a b d]
def AV29 (xs : Nat → Int32) : Nat → Nat → Nat → (Nat → Int32) := fun a b d => if a = 5 ∧ b = 6 ∧ d = 0 then (fun _ => 0) else AV28 xs a b d
theorem AZ50 {h w L : Nat} {xs : Nat → Int32} : ∀ a b d : Nat, gA (Z50 h w L xs) a b d = AV29 xs a b d := fun a b d => by
  unfold Z50 AV29
  rw [AWp, AZ49 a b d]
def AV30 (xs : Nat → Int32) : Nat → Nat → Nat → (Nat → Int32) := fun a b d => if a = 5 ∧ b = 7 ∧ d = 0 then (fun _ => 0) else AV29 xs a b d
theorem AZ51 {h w L : Nat} {xs : Nat → Int32} : ∀ a b d : Nat, gA (Z51 h w L xs) a b d = AV30 xs a b d := fun a b d => by
  unfold Z51 AV30
  rw [AWp, AZ50 a b d]
theorem AZ52 {h w L : Nat} {xs : Nat → Int32} : ∀ a b d : Nat, gA (Z52 h w L xs) a b d = AV30 xs a b d := fun a b d => by
  unfold Z52
  rw [AI]; exact AZ51 a b d
theorem AZ53 {h w L : Nat} {xs : Nat → Int32} : ∀ a b d : Nat, gA (Z53 h w L xs) a b d = AV30 xs a b d := fun a b d => by
  unfold Z53
  rw [AI]; exact AZ52 a b d
theorem AZ54 {h w L : Nat} {xs : Nat → Int32} : ∀ a b d : Nat, gA (Z54 h w L xs) a b d = AV30 xs a b d := fun a b d => by
  unfold Z54
  rw [AI]; exact AZ53 a b d
theorem AZ55 {h w L : Nat} {xs : Nat → Int32} : ∀ a b d : Nat, gA (Z55 h w L xs) a b d = AV30 xs a b d := fun a b d => by
  unfold Z55
  rw [AI]; exact AZ54 a b d
theorem AZ56 {h w L : Nat} {xs : Nat → Int32} : ∀ a b d : Nat, gA (Z56 h w L xs) a b d = AV30 xs a b d := fun a b d => by
  unfold Z56
  rw [AR]; exact AZ55 a b d
theorem AZ57 {h w L : Nat} {xs : Nat → Int32} : ∀ a b d : Nat, gA (Z57 h w L xs) a b d = AV30 xs a b d := fun a b d => by
  unfold Z57
  rw [AO']; exact AZ56 a b d
def AV31 (xs : Nat → Int32) : Nat → Nat → Nat → (Nat → Int32) := fun a b d => if a = 10 ∧ b = 0 ∧ d = 0 then (fun _ => 0) else AV30 xs a b d
theorem AZ58 {h w L : Nat} {xs : Nat → Int32} : ∀ a b d : Nat, gA (Z58 h w L xs) a b d = AV31 xs a b d := fun a b d => by
  unfold Z58 AV31
  rw [AWp, AZ57 a b d]
def AV32 (xs : Nat → Int32) : Nat → Nat → Nat → (Nat → Int32) := fun a b d => if a = 10 ∧ b = 1 ∧ d = 0 then (fun _ => 0) else AV31 xs a b d
theorem AZ59 {h w L : Nat} {xs : Nat → Int32} : ∀ a b d : Nat, gA (Z59 h w L xs) a b d = AV32 xs a b d := fun a b d => by
  unfold Z59 AV32
  rw [AWp, AZ58 a b d]
def AV33 (xs : Nat → Int32) : Nat → Nat → Nat → (Nat → Int32) := fun a b d => if a = 10 ∧ b = 2 ∧ d = 0 then (fun _ => 0) else AV32 xs a b d
theorem AZ60 {h w L : Nat} {xs : Nat → Int32} : ∀ a b d : Nat, gA (Z60 h w L xs) a b d = AV33 xs a b d := fun a b d => by
  unfold Z60 AV33
  rw [AWp, AZ59 a b d]
theorem AZ61 {h w L : Nat} {xs : Nat → Int32} : ∀ a b d : Nat, gA (Z61 h w L xs) a b d = AV33 xs a b d := fun a b d => by
  unfold Z61
  rw [AR]; exact AZ60 a b d
def AV34 (xs : Nat → Int32) : Nat → Nat → Nat → (Nat → Int32) := fun a b d => if a = 11 ∧ b = 19 ∧ d = 0 then (fun _ => 0) else AV33 xs a b d
theorem AZ62 {h w L : Nat} {xs : Nat → Int32} : ∀ a b d : Nat, gA (Z62 h w L xs) a b d = AV34 xs a b d := fun a b d => by
  unfold Z62 AV34
  rw [AWp, AZ61 a b d]
theorem AZ63 {h w L : Nat} {xs : Nat → Int32} : ∀ a b d : Nat, gA (Z63 h w L xs) a b d = AV34 xs a b d := fun a b d => by
  unfold Z63
  rw [AO']; exact AZ62 a b d
theorem AZ64 {h w L : Nat} {xs : Nat → Int32} : ∀ a b d : Nat, gA (Z64 h w L xs) a b d = AV34 xs a b d := fun a b d => by
  unfold Z64
  rw [AI]; exact AZ63 a b d
def AV35 (xs : Nat → Int32) : Nat → Nat → Nat → (Nat → Int32) := fun a b d => if a = 1 ∧ b = 1 ∧ d = 1 then (fun _ => 0) else AV34 xs a b d
theorem AZ65 {h w L : Nat} {xs : Nat → Int32} : ∀ a b d : Nat, gA (Z65 h w L xs) a b d = AV35 xs a b d := fun a b d => by
  unfold Z65 AV35
  rw [AWp, AZ64 a b d]
def AV36 (xs : Nat → Int32) : Nat → Nat → Nat → (Nat → Int32) := fun a b d => if a = 1 ∧ b = 2 ∧ d = 1 then (fun _ => 0) else AV35 xs a b d
theorem AZ66 {h w L : Nat} {xs : Nat → Int32} : ∀ a b d : Nat, gA (Z66 h w L xs) a b d = AV36 xs a b d := fun a b d => by
  unfold Z66 AV36
  rw [AWp, AZ65 a b d]
def AV37 (xs : Nat → Int32) : Nat → Nat → Nat → (Nat → Int32) := fun a b d => if a = 1 ∧ b = 3 ∧ d = 1 then (fun _ => 0) else AV36 xs a b d
theorem AZ67 {h w L : Nat} {xs : Nat → Int32} : ∀ a b d : Nat, gA (Z67 h w L xs) a b d = AV37 xs a b d := fun a b d => by
  unfold Z67 AV37
  rw [AWp, AZ66 a b d]
theorem AZ68 {h w L : Nat} {xs : Nat → Int32} : ∀ a b d : Nat, gA (Z68 h w L xs) a b d = AV37 xs a b d := fun a b d => by
  unfold Z68
  rw [AQ]; exact AZ67 a b d
theorem AZ69 {h w L : Nat} {xs : Nat → Int32} : ∀ a b d : Nat, gA (Z69 h w L xs) a b d = AV37 xs a b d := fun a b d => by
  unfold Z69
  rw [AO']; exact AZ68 a b d
theorem AZ70 {h w L : Nat} {xs : Nat → Int32} : ∀ a b d : Nat, gA (Z70 h w L xs) a b d = AV37 xs a b d := fun a b d => by
  unfold Z70
  rw [AI]; exact AZ69 a b d
def AV38 (xs : Nat → Int32) : Nat → Nat → Nat → (Nat → Int32) := fun a b d => if a = 1 ∧ b = 1 ∧ d = 2 then (fun _ => 0) else AV37 xs a b d
theorem AZ71 {h w L : Nat} {xs : Nat → Int32} : ∀ a b d : Nat, gA (Z71 h w L xs) a b d = AV38 xs a b d := fun a b d => by
  unfold Z71 AV38
  rw [AWp, AZ70 a b d]
def AV39 (xs : Nat → Int32) : Nat → Nat → Nat → (Nat → Int32) := fun a b d => if a = 1 ∧ b = 2 ∧ d = 2 then (fun _ => 0) else AV38 xs a b d
theorem AZ72 {h w L : Nat} {xs : Nat → Int32} : ∀ a b d : Nat, gA (Z72 h w L xs) a b d = AV39 xs a b d := fun a b d => by
  unfold Z72 AV39
  rw [AWp, AZ71 a b d]
def AV40 (xs : Nat → Int32) : Nat → Nat → Nat → (Nat → Int32) := fun a b d => if a = 1 ∧ b = 3 ∧ d = 2 then (fun _ => 0) else AV39 xs a b d
theorem AZ73 {h w L : Nat} {xs : Nat → Int32} : ∀ a b d : Nat, gA (Z73 h w L xs) a b d = AV40 xs a b d := fun a b d => by
  unfold Z73 AV40
  rw [AWp, AZ72 a b d]
theorem AZ74 {h w L : Nat} {xs : Nat → Int32} : ∀ a b d : Nat, gA (Z74 h w L xs) a b d = AV40 xs a b d := fun a b d => by
  unfold Z74
  rw [AQ]; exact AZ73 a b d
theorem AZ75 {h w L : Nat} {xs : Nat → Int32} : ∀ a b d : Nat, gA (Z75 h w L xs) a b d = AV40 xs a b d := fun a b d => by
  unfold Z75
  rw [AO']; exact AZ74 a b d
theorem AZ76 {h w L : Nat} {xs : Nat → Int32} : ∀ a b d : Nat, gA (Z76 h w L xs) a b d = AV40 xs a b d := fun a b d => by
  unfold Z76
  rw [AI]; exact AZ75 a b d
def AV41 (xs : Nat → Int32) : Nat → Nat → Nat → (Nat → Int32) := fun a b d => if a = 1 ∧ b = 1 ∧ d = 3 then (fun _ => 0) else AV40 xs a b d
theorem AZ77 {h w L : Nat} {xs : Nat → Int32} : ∀ a b d : Nat, gA (Z77 h w L xs) a b d = AV41 xs a b d := fun a b d => by
  unfold Z77 AV41
  rw [AWp, AZ76 a b d]
def AV42 (xs : Nat → Int32) : Nat → Nat → Nat → (Nat → Int32) := fun a b d => if a = 1 ∧ b = 2 ∧ d = 3 then (fun _ => 0) else AV41 xs a b d
theorem AZ78 {h w L : Nat} {xs : Nat → Int32} : ∀ a b d : Nat, gA (Z78 h w L xs) a b d = AV42 xs a b d := fun a b d => by
  unfold Z78 AV42
  rw [AWp, AZ77 a b d]
def AV43 (xs : Nat → Int32) : Nat → Nat → Nat → (Nat → Int32) := fun a b d => if a = 1 ∧ b = 3 ∧ d = 3 then (fun _ => 0) else AV42 xs a b d
theorem AZ79 {h w L : Nat} {xs : Nat → Int32} : ∀ a b d : Nat, gA (Z79 h w L xs) a b d = AV43 xs a b d := fun a b d => by
  unfold Z79 AV43
  rw [AWp, AZ78 a b d]
theorem AZ80 {h w L : Nat} {xs : Nat → Int32} : ∀ a b d : Nat, gA (Z80 h w L xs) a b d = AV43 xs a b d := fun a b d => by
  unfold Z80
  rw [AQ]; exact AZ79 a b d
theorem AZ81 {h w L : Nat} {xs : Nat → Int32} : ∀ a b d : Nat, gA (Z81 h w L xs) a b d = AV43 xs a b d := fun a b d => by
  unfold Z81
  rw [AO']; exact AZ80 a b d
theorem AZ82 {h w L : Nat} {xs : Nat → Int32} : ∀ a b d : Nat, gA (Z82 h w L xs) a b d = AV43 xs a b d := fun a b d => by
  unfold Z82
  rw [AI]; exact AZ81 a b d
def AV44 (xs : Nat → Int32) : Nat → Nat → Nat → (Nat → Int32) := fun a b d => if a = 1 ∧ b = 1 ∧ d = 4 then (fun _ => 0) else AV43 xs a b d
theorem AZ83 {h w L : Nat} {xs : Nat → Int32} : ∀ a b d : Nat, gA (Z83 h w L xs) a b d = AV44 xs a b d := fun a b d => by
  unfold Z83 AV44
  rw [AWp, AZ82 a b d]
def AV45 (xs : Nat → Int32) : Nat → Nat → Nat → (Nat → Int32) := fun a b d => if a = 1 ∧ b = 2 ∧ d = 4 then (fun _ => 0) else AV44 xs a b d
theorem AZ84 {h w L : Nat} {xs : Nat → Int32} : ∀ a b d : Nat, gA (Z84 h w L xs) a b d = AV45 xs a b d := fun a b d => by
  unfold Z84 AV45
  rw [AWp, AZ83 a b d]
def AV46 (xs : Nat → Int32) : Nat → Nat → Nat → (Nat → Int32) := fun a b d => if a = 1 ∧ b = 3 ∧ d = 4 then (fun _ => 0) else AV45 xs a b d
theorem AZ85 {h w L : Nat} {xs : Nat → Int32} : ∀ a b d : Nat, gA (Z85 h w L xs) a b d = AV46 xs a b d := fun a b d => by
  unfold Z85 AV46
  rw [AWp, AZ84 a b d]
theorem AZ86 {h w L : Nat} {xs : Nat → Int32} : ∀ a b d : Nat, gA (Z86 h w L xs) a b d = AV46 xs a b d := fun a b d => by
  unfold Z86
  rw [AQ]; exact AZ85 a b d
theorem AZ87 {h w L : Nat} {xs : Nat → Int32} : ∀ a b d : Nat, gA (Z87 h w L xs) a b d = AV46 xs a b d := fun a b d => by
  unfold Z87
  rw [AO']; exact AZ86 a b d
theorem AZ88 {h w L : Nat} {xs : Nat → Int32} : ∀ a b d : Nat, gA (Z88 h w L xs) a b d = AV46 xs a b d := fun a b d => by
  unfold Z88
  rw [AI]; exact AZ87 a b d
theorem AZ89 {h w L : Nat} {xs : Nat → Int32} : ∀ a b d : Nat, gA (Z89 h w L xs) a b d = AV46 xs a b d := fun a b d => by
  unfold Z89
  rw [AI]; exact AZ88 a b d
theorem AZ90 {h w L : Nat} {xs : Nat → Int32} : ∀ a b d : Nat, gA (Z90 h w L xs) a b d = AV46 xs a b d := fun a b d => by
  unfold Z90
  rw [AI]; exact AZ89 a b d
theorem AZ91 {h w L : Nat} {xs : Nat → Int32} : ∀ a b d : Nat, gA (Z91 h w L xs) a b d = AV46 xs a b d := fun a b d => by
  unfold Z91
  rw [AQ]; exact AZ90 a b d
theorem AZ92 {h w L : Nat} {xs : Nat → Int32} : ∀ a b d : Nat, gA (Z92 h w L xs) a b d = AV46 xs a b d := fun a b d => by
  unfold Z92
  rw [AO']; exact AZ91 a b d
theorem AZ93 {h w L : Nat} {xs : Nat → Int32} : ∀ a b d : Nat, gA (Z93 h w L xs) a b d = AV46 xs a b d := fun a b d => by
  unfold Z93
  rw [AI]; exact AZ92 a b d
theorem AZ94 {h w L : Nat} {xs : Nat → Int32} : ∀ a b d : Nat, gA (Z94 h w L xs) a b d = AV46 xs a b d := fun a b d => by
  unfold Z94
  rw [AI]; exact AZ93 a b d
theorem AZ95 {h w L : Nat} {xs : Nat → Int32} : ∀ a b d : Nat, gA (Z95 h w L xs) a b d = AV46 xs a b d := fun a b d => by
  unfold Z95
  rw [AI]; exact AZ94 a b d
theorem AZ96 {h w L : Nat} {xs : Nat → Int32} : ∀ a b d : Nat, gA (Z96 h w L xs) a b d = AV46 xs a b d := fun a b d => by
  unfold Z96
  rw [AQ]; exact AZ95 a b d
theorem AZ97 {h w L : Nat} {xs : Nat → Int32} : ∀ a b d : Nat, gA (Z97 h w L xs) a b d = AV46 xs a b d := fun a b d => by
  unfold Z97
  rw [AO']; exact AZ96 a b d
theorem AZ98 {h w L : Nat} {xs : Nat → Int32} : ∀ a b d : Nat, gA (Z98 h w L xs) a b d = AV46 xs a b d := fun a b d => by
  unfold Z98
  rw [AI]; exact AZ97 a b d
theorem AZ99 {h w L : Nat} {xs : Nat → Int32} : ∀ a b d : Nat, gA (Z99 h w L xs) a b d = AV46 xs a b d := fun a b d => by
  unfold Z99
  rw [AI]; exact AZ98 a b d
theorem AZ100 {h w L : Nat} {xs : Nat → Int32} : ∀ a b d : Nat, gA (Z100 h w L xs) a b d = AV46 xs a b d := fun a b d => by
  unfold Z100
  rw [AI]; exact AZ99 a b d
theorem AZ101 {h w L : Nat} {xs : Nat → Int32} : ∀ a b d : Nat, gA (Z101 h w L xs) a b d = AV46 xs a b d := fun a b d => by
  unfold Z101
  rw [AQ]; exact AZ100 a b d
theorem AZ102 {h w L : Nat} {xs : Nat → Int32} : ∀ a b d : Nat, gA (Z102 h w L xs) a b d = AV46 xs a b d := fun a b d => by
  unfold Z102
  rw [AO']; exact AZ101 a b d
theorem AZ103 {h w L : Nat} {xs : Nat → Int32} : ∀ a b d : Nat, gA (Z103 h w L xs) a b d = AV46 xs a b d := fun a b d => by
  unfold Z103
  rw [AI]; exact AZ102 a b d
theorem AZ104 {h w L : Nat} {xs : Nat → Int32} : ∀ a b d : Nat, gA (Z104 h w L xs) a b d = AV46 xs a b d := fun a b d => by
  unfold Z104
  rw [AI]; exact AZ103 a b d
theorem AZ105 {h w L : Nat} {xs : Nat → Int32} : ∀ a b d : Nat, gA (Z105 h w L xs) a b d = AV46 xs a b d := fun a b d => by
  unfold Z105
  rw [AI]; exact AZ104 a b d
theorem AZ106 {h w L : Nat} {xs : Nat → Int32} : ∀ a b d : Nat, gA (Z106 h w L xs) a b d = AV46 xs a b d := fun a b d => by
  unfold Z106
  rw [AQ]; exact AZ105 a b d
theorem AZ107 {h w L : Nat} {xs : Nat → Int32} : ∀ a b d : Nat, gA (Z107 h w L xs) a b d = AV46 xs a b d := fun a b d => by
  unfold Z107
  rw [AO']; exact AZ106 a b d
theorem AZ108 {h w L : Nat} {xs : Nat → Int32} : ∀ a b d : Nat, gA (Z108 h w L xs) a b d = AV46 xs a b d := fun a b d => by
  unfold Z108
  rw [AI]; exact AZ107 a b d
theorem AZ109 {h w L : Nat} {xs : Nat → Int32} : ∀ a b d : Nat, gA (Z109 h w L xs) a b d = AV46 xs a b d := fun a b d => by
  unfold Z109
  rw [AI]; exact AZ108 a b d
theorem AZ110 {h w L : Nat} {xs : Nat → Int32} : ∀ a b d : Nat, gA (Z110 h w L xs) a b d = AV46 xs a b d := fun a b d => by
  unfold Z110
  rw [AI]; exact AZ109 a b d
theorem AZ111 {h w L : Nat} {xs : Nat → Int32} : ∀ a b d : Nat, gA (Z111 h w L xs) a b d = AV46 xs a b d := fun a b d => by
  unfold Z111
  rw [AQ]; exact AZ110 a b d
theorem AZ112 {h w L : Nat} {xs : Nat → Int32} : ∀ a b d : Nat, gA (Z112 h w L xs) a b d = AV46 xs a b d := fun a b d => by
  unfold Z112
  rw [AO']; exact AZ111 a b d
theorem AZ113 {h w L : Nat} {xs : Nat → Int32} : ∀ a b d : Nat, gA (Z113 h w L xs) a b d = AV46 xs a b d := fun a b d => by
  unfold Z113
  rw [AI]; exact AZ112 a b d
theorem AZ114 {h w L : Nat} {xs : Nat → Int32} : ∀ a b d : Nat, gA (Z114 h w L xs) a b d = AV46 xs a b d := fun a b d => by
  unfold Z114
  rw [AI]; exact AZ113 a b d
theorem AZ115 {h w L : Nat} {xs : Nat → Int32} : ∀ a b d : Nat, gA (Z115 h w L xs) a b d = AV46 xs a b d := fun a b d => by
  unfold Z115
  rw [AI]; exact AZ114 a b d
theorem AZ116 {h w L : Nat} {xs : Nat → Int32} : ∀ a b d : Nat, gA (Z116 h w L xs) a b d = AV46 xs a b d := fun a b d => by
  unfold Z116
  rw [AQ]; exact AZ115 a b d
theorem AZ117 {h w L : Nat} {xs : Nat → Int32} : ∀ a b d : Nat, gA (Z117 h w L xs) a b d = AV46 xs a b d := fun a b d => by
  unfold Z117
  rw [AO']; exact AZ116 a b d
theorem AZ118 {h w L : Nat} {xs : Nat → Int32} : ∀ a b d : Nat, gA (Z118 h w L xs) a b d = AV46 xs a b d := fun a b d => by
  unfold Z118
  rw [AI]; exact AZ117 a b d
theorem AZ119 {h w L : Nat} {xs : Nat → Int32} : ∀ a b d : Nat, gA (Z119 h w L xs) a b d = AV46 xs a b d := fun a b d => by
  unfold Z119
  rw [AI]; exact AZ118 a b d
def AV47 (xs : Nat → Int32) : Nat → Nat → Nat → (Nat → Int32) := fun a b d => if a = 6 ∧ b = 2 ∧ d = 0 then (fun _ => 0) else AV46 xs a b d
theorem AZ120 {h w L : Nat} {xs : Nat → Int32} : ∀ a b d : Nat, gA (Z120 h w L xs) a b d = AV47 xs a b d := fun a b d => by
  unfold Z120 AV47
  rw [AWp, AZ119 a b d]
theorem AZ121 {h w L : Nat} {xs : Nat → Int32} : ∀ a b d : Nat, gA (Z121 h w L xs) a b d = AV47 xs a b d := fun a b d => by
  unfold Z121
  rw [AQ]; exact AZ120 a b d
theorem AZ122 {h w L : Nat} {xs : Nat → Int32} : ∀ a b d : Nat, gA (Z122 h w L xs) a b d = AV47 xs a b d := fun a b d => by
  unfold Z122
  rw [AO']; exact AZ121 a b d
theorem AZ123 {h w L : Nat} {xs : Nat → Int32} : ∀ a b d : Nat, gA (Z123 h w L xs) a b d = AV47 xs a b d := fun a b d => by
  unfold Z123
  rw [AI]; exact AZ122 a b d
theorem AZ124 {h w L : Nat} {xs : Nat → Int32} : ∀ a b d : Nat, gA (Z124 h w L xs) a b d = AV47 xs a b d := fun a b d => by
  unfold Z124
  rw [AI]; exact AZ123 a b d
def AV48 (xs : Nat → Int32) : Nat → Nat → Nat → (Nat → Int32) := fun a b d => if a = 6 ∧ b = 2 ∧ d = 1 then (fun _ => 0) else AV47 xs a b d
theorem AZ125 {h w L : Nat} {xs : Nat → Int32} : ∀ a b d : Nat, gA (Z125 h w L xs) a b d = AV48 xs a b d := fun a b d => by
  unfold Z125 AV48
  rw [AWp, AZ124 a b d]
theorem AZ126 {h w L : Nat} {xs : Nat → Int32} : ∀ a b d : Nat, gA (Z126 h w L xs) a b d = AV48 xs a b d := fun a b d => by
  unfold Z126
  rw [AQ]; exact AZ125 a b d
theorem AZ127 {h w L : Nat} {xs : Nat → Int32} : ∀ a b d : Nat, gA (Z127 h w L xs) a b d = AV48 xs a b d := fun a b d => by
  unfold Z127
  rw [AO']; exact AZ126 a b d
theorem AZ128 {h w L : Nat} {xs : Nat → Int32} : ∀ a b d : Nat, gA (Z128 h w L xs) a b d = AV48 xs a b d := fun a b d => by
  unfold Z128
  rw [AI]; exact AZ127 a b d
theorem AZ129 {h w L : Nat} {xs : Nat → Int32} : ∀ a b d : Nat, gA (Z129 h w L xs) a b d = AV48 xs a b d := fun a b d => by
  unfold Z129
  rw [AI]; exact AZ128 a b d
def AV49 (xs : Nat → Int32) : Nat → Nat → Nat → (Nat → Int32) := fun a b d => if a = 6 ∧ b = 2 ∧ d = 2 then (fun _ => 0) else AV48 xs a b d
theorem AZ130 {h w L : Nat} {xs : Nat → Int32} : ∀ a b d : Nat, gA (Z130 h w L xs) a b d = AV49 xs a b d := fun a b d => by
  unfold Z130 AV49
  rw [AWp, AZ129 a b d]
theorem AZ131 {h w L : Nat} {xs : Nat → Int32} : ∀ a b d : Nat, gA (Z131 h w L xs) a b d = AV49 xs a b d := fun a b d => by
  unfold Z131
  rw [AQ]; exact AZ130 a b d
theorem AZ132 {h w L : Nat} {xs : Nat → Int32} : ∀ a b d : Nat, gA (Z132 h w L xs) a b d = AV49 xs a b d := fun a b d => by
  unfold Z132
  rw [AO']; exact AZ131 a b d
theorem AZ133 {h w L : Nat} {xs : Nat → Int32} : ∀ a b d : Nat, gA (Z133 h w L xs) a b d = AV49 xs a b d := fun a b d => by
  unfold Z133
  rw [AI]; exact AZ132 a b d
theorem AZ134 {h w L : Nat} {xs : Nat → Int32} : ∀ a b d : Nat, gA (Z134 h w L xs) a b d = AV49 xs a b d := fun a b d => by
  unfold Z134
  rw [AI]; exact AZ133 a b d
def AV50 (xs : Nat → Int32) : Nat → Nat → Nat → (Nat → Int32) := fun a b d => if a = 6 ∧ b = 2 ∧ d = 3 then (fun _ => 0) else AV49 xs a b d
theorem AZ135 {h w L : Nat} {xs : Nat → Int32} : ∀ a b d : Nat, gA (Z135 h w L xs) a b d = AV50 xs a b d := fun a b d => by
  unfold Z135 AV50
  rw [AWp, AZ134 a b d]
theorem AZ136 {h w L : Nat} {xs : Nat → Int32} : ∀ a b d : Nat, gA (Z136 h w L xs) a b d = AV50 xs a b d := fun a b d => by
  unfold Z136
  rw [AQ]; exact AZ135 a b d
theorem AZ137 {h w L : Nat} {xs : Nat → Int32} : ∀ a b d : Nat, gA (Z137 h w L xs) a b d = AV50 xs a b d := fun a b d => by
  unfold Z137
  rw [AO']; exact AZ136 a b d
def AV51 (xs : Nat → Int32) : Nat → Nat → Nat → (Nat → Int32) := fun a b d => if a = 12 ∧ b = 0 ∧ d = 0 then (fun _ => 0) else AV50 xs a b d
theorem AZ138 {h w L : Nat} {xs : Nat → Int32} : ∀ a b d : Nat, gA (Z138 h w L xs) a b d = AV51 xs a b d := fun a b d => by
  unfold Z138 AV51
  rw [AWp, AZ137 a b d]
def AV52 (xs : Nat → Int32) : Nat → Nat → Nat → (Nat → Int32) := fun a b d => if a = 12 ∧ b = 4 ∧ d = 0 then (fun _ => 0) else AV51 xs a b d
theorem AZ139 {h w L : Nat} {xs : Nat → Int32} : ∀ a b d : Nat, gA (Z139 h w L xs) a b d = AV52 xs a b d := fun a b d => by
  unfold Z139 AV52
  rw [AWp, AZ138 a b d]
def AV53 (xs : Nat → Int32) : Nat → Nat → Nat → (Nat → Int32) := fun a b d => if a = 12 ∧ b = 5 ∧ d = 0 then (fun _ => 0) else AV52 xs a b d
theorem AZ140 {h w L : Nat} {xs : Nat → Int32} : ∀ a b d : Nat, gA (Z140 h w L xs) a b d = AV53 xs a b d := fun a b d => by
  unfold Z140 AV53
  rw [AWp, AZ139 a b d]
def AV54 (xs : Nat → Int32) : Nat → Nat → Nat → (Nat → Int32) := fun a b d => if a = 12 ∧ b = 6 ∧ d = 0 then (fun _ => 0) else AV53 xs a b d
theorem AZ141 {h w L : Nat} {xs : Nat → Int32} : ∀ a b d : Nat, gA (Z141 h w L xs) a b d = AV54 xs a b d := fun a b d => by
  unfold Z141 AV54
  rw [AWp, AZ140 a b d]
def AV55 (xs : Nat → Int32) : Nat → Nat → Nat → (Nat → Int32) := fun a b d => if a = 12 ∧ b = 7 ∧ d = 0 then (fun _ => 0) else AV54 xs a b d
theorem AZ142 {h w L : Nat} {xs : Nat → Int32} : ∀ a b d : Nat, gA (Z142 h w L xs) a b d = AV55 xs a b d := fun a b d => by
  unfold Z142 AV55
  rw [AWp, AZ141 a b d]
def AV56 (xs : Nat → Int32) : Nat → Nat → Nat → (Nat → Int32) := fun a b d => if a = 12 ∧ b = 8 ∧ d = 0 then (fun _ => 0) else AV55 xs a b d
theorem AZ143 {h w L : Nat} {xs : Nat → Int32} : ∀ a b d : Nat, gA (Z143 h w L xs) a b d = AV56 xs a b d := fun a b d => by
  unfold Z143 AV56
  rw [AWp, AZ142 a b d]
def AV57 (xs : Nat → Int32) : Nat → Nat → Nat → (Nat → Int32) := fun a b d => if a = 12 ∧ b = 13 ∧ d = 0 then (fun _ => 0) else AV56 xs a b d
theorem AZ144 {h w L : Nat} {xs : Nat → Int32} : ∀ a b d : Nat, gA (Z144 h w L xs) a b d = AV57 xs a b d := fun a b d => by
  unfold Z144 AV57
  rw [AWp, AZ143 a b d]
def AV58 (xs : Nat → Int32) : Nat → Nat → Nat → (Nat → Int32) := fun a b d => if a = 12 ∧ b = 15 ∧ d = 0 then (fun _ => 0) else AV57 xs a b d
theorem AZ145 {h w L : Nat} {xs : Nat → Int32} : ∀ a b d : Nat, gA (Z145 h w L xs) a b d = AV58 xs a b d := fun a b d => by
  unfold Z145 AV58
  rw [AWp, AZ144 a b d]
def AV59 (xs : Nat → Int32) : Nat → Nat → Nat → (Nat → Int32) := fun a b d => if a = 12 ∧ b = 16 ∧ d = 0 then (fun _ => 0) else AV58 xs a b d
theorem AZ146 {h w L : Nat} {xs : Nat → Int32} : ∀ a b d : Nat, gA (Z146 h w L xs) a b d = AV59 xs a b d := fun a b d => by
  unfold Z146 AV59
  rw [AWp, AZ145 a b d]
def AV60 (xs : Nat → Int32) : Nat → Nat → Nat → (Nat → Int32) := fun a b d => if a = 12 ∧ b = 17 ∧ d = 0 then (fun _ => 0) else AV59 xs a b d
theorem AZ147 {h w L : Nat} {xs : Nat → Int32} : ∀ a b d : Nat, gA (Z147 h w L xs) a b d = AV60 xs a b d := fun a b d => by
  unfold Z147 AV60
  rw [AWp, AZ146 a b d]
def AV61 (xs : Nat → Int32) : Nat → Nat → Nat → (Nat → Int32) := fun a b d => if a = 12 ∧ b = 18 ∧ d = 0 then (fun _ => 0) else AV60 xs a b d
theorem AZ148 {h w L : Nat} {xs : Nat → Int32} : ∀ a b d : Nat, gA (Z148 h w L xs) a b d = AV61 xs a b d := fun a b d => by
  unfold Z148 AV61
  rw [AWp, AZ147 a b d]
def AV62 (xs : Nat → Int32) : Nat → Nat → Nat → (Nat → Int32) := fun a b d => if a = 12 ∧ b = 19 ∧ d = 0 then (fun _ => 0) else AV61 xs a b d
theorem AZ149 {h w L : Nat} {xs : Nat → Int32} : ∀ a b d : Nat, gA (Z149 h w L xs) a b d = AV62 xs a b d := fun a b d => by
  unfold Z149 AV62
  rw [AWp, AZ148 a b d]
def AV63 (xs : Nat → Int32) : Nat → Nat → Nat → (Nat → Int32) := fun a b d => if a = 12 ∧ b = 20 ∧ d = 0 then (fun _ => 0) else AV62 xs a b d
theorem AZ150 {h w L : Nat} {xs : Nat → Int32} : ∀ a b d : Nat, gA (Z150 h w L xs) a b d = AV63 xs a b d := fun a b d => by
  unfold Z150 AV63
  rw [AWp, AZ149 a b d]
def AV64 (xs : Nat → Int32) : Nat → Nat → Nat → (Nat → Int32) := fun a b d => if a = 12 ∧ b = 21 ∧ d = 0 then (fun _ => 0) else AV63 xs a b d
theorem AZ151 {h w L : Nat} {xs : Nat → Int32} : ∀ a b d : Nat, gA (Z151 h w L xs) a b d = AV64 xs a b d := fun a b d => by
  unfold Z151 AV64
  rw [AWp, AZ150 a b d]
def AV65 (xs : Nat → Int32) : Nat → Nat → Nat → (Nat → Int32) := fun a b d => if a = 12 ∧ b = 22 ∧ d = 0 then (fun _ => 0) else AV64 xs a b d
theorem AZ152 {h w L : Nat} {xs : Nat → Int32} : ∀ a b d : Nat, gA (Z152 h w L xs) a b d = AV65 xs a b d := fun a b d => by
  unfold Z152 AV65
  rw [AWp, AZ151 a b d]
def AV66 (xs : Nat → Int32) : Nat → Nat → Nat → (Nat → Int32) := fun a b d => if a = 12 ∧ b = 24 ∧ d = 0 then (fun _ => 0) else AV65 xs a b d
theorem AZ153 {h w L : Nat} {xs : Nat → Int32} : ∀ a b d : Nat, gA (Z153 h w L xs) a b d = AV66 xs a b d := fun a b d => by
  unfold Z153 AV66
  rw [AWp, AZ152 a b d]
def AV67 (xs : Nat → Int32) : Nat → Nat → Nat → (Nat → Int32) := fun a b d => if a = 12 ∧ b = 25 ∧ d = 0 then (fun _ => 0) else AV66 xs a b d
theorem AZ154 {h w L : Nat} {xs : Nat → Int32} : ∀ a b d : Nat, gA (Z154 h w L xs) a b d = AV67 xs a b d := fun a b d => by
  unfold Z154 AV67
  rw [AWp, AZ153 a b d]
def AV68 (xs : Nat → Int32) : Nat → Nat → Nat → (Nat → Int32) := fun a b d => if a = 12 ∧ b = 26 ∧ d = 0 then (fun _ => 0) else AV67 xs a b d
theorem AZ155 {h w L : Nat} {xs : Nat → Int32} : ∀ a b d : Nat, gA (Z155 h w L xs) a b d = AV68 xs a b d := fun a b d => by
  unfold Z155 AV68
  rw [AWp, AZ154 a b d]
def AV69 (xs : Nat → Int32) : Nat → Nat → Nat → (Nat → Int32) := fun a b d => if a = 12 ∧ b = 27 ∧ d = 0 then (fun _ => 0) else AV68 xs a b d
theorem AZ156 {h w L : Nat} {xs : Nat → Int32} : ∀ a b d : Nat, gA (Z156 h w L xs) a b d = AV69 xs a b d := fun a b d => by
  unfold Z156 AV69
  rw [AWp, AZ155 a b d]
def AV70 (xs : Nat → Int32) : Nat → Nat → Nat → (Nat → Int32) := fun a b d => if a = 12 ∧ b = 28 ∧ d = 0 then (fun _ => 0) else AV69 xs a b d
theorem AZ157 {h w L : Nat} {xs : Nat → Int32} : ∀ a b d : Nat, gA (Z157 h w L xs) a b d = AV70 xs a b d := fun a b d => by
  unfold Z157 AV70
  rw [AWp, AZ156 a b d]
def AV71 (xs : Nat → Int32) : Nat → Nat → Nat → (Nat → Int32) := fun a b d => if a = 12 ∧ b = 29 ∧ d = 0 then (fun _ => 0) else AV70 xs a b d
theorem AZ158 {h w L : Nat} {xs : Nat → Int32} : ∀ a b d : Nat, gA (Z158 h w L xs) a b d = AV71 xs a b d := fun a b d => by
  unfold Z158 AV71
  rw [AWp, AZ157 a b d]
def AV72 (xs : Nat → Int32) : Nat → Nat → Nat → (Nat → Int32) := fun a b d => if a = 12 ∧ b = 30 ∧ d = 0 then (fun _ => 0) else AV71 xs a b d
theorem AZ159 {h w L : Nat} {xs : Nat → Int32} : ∀ a b d : Nat, gA (Z159 h w L xs) a b d = AV72 xs a b d := fun a b d => by
  unfold Z159 AV72
  rw [AWp, AZ158 a b d]
def AV73 (xs : Nat → Int32) : Nat → Nat → Nat → (Nat → Int32) := fun a b d => if a = 12 ∧ b = 31 ∧ d = 0 then (fun _ => 0) else AV72 xs a b d
theorem AZ160 {h w L : Nat} {xs : Nat → Int32} : ∀ a b d : Nat, gA (Z160 h w L xs) a b d = AV73 xs a b d := fun a b d => by
  unfold Z160 AV73
  rw [AWp, AZ159 a b d]
def AV74 (xs : Nat → Int32) : Nat → Nat → Nat → (Nat → Int32) := fun a b d => if a = 12 ∧ b = 32 ∧ d = 0 then (fun _ => 0) else AV73 xs a b d
theorem AZ161 {h w L : Nat} {xs : Nat → Int32} : ∀ a b d : Nat, gA (Z161 h w L xs) a b d = AV74 xs a b d := fun a b d => by
  unfold Z161 AV74
  rw [AWp, AZ160 a b d]
def AV75 (xs : Nat → Int32) : Nat → Nat → Nat → (Nat → Int32) := fun a b d => if a = 12 ∧ b = 33 ∧ d = 0 then (fun _ => 0) else AV74 xs a b d
theorem AZ162 {h w L : Nat} {xs : Nat → Int32} : ∀ a b d : Nat, gA (Z162 h w L xs) a b d = AV75 xs a b d := fun a b d => by
  unfold Z162 AV75
  rw [AWp, AZ161 a b d]
def AV76 (xs : Nat → Int32) : Nat → Nat → Nat → (Nat → Int32) := fun a b d => if a = 12 ∧ b = 34 ∧ d = 0 then (fun _ => 0) else AV75 xs a b d
theorem AZ163 {h w L : Nat} {xs : Nat → Int32} : ∀ a b d : Nat, gA (Z163 h w L xs) a b d = AV76 xs a b d := fun a b d => by
  unfold Z163 AV76
  rw [AWp, AZ162 a b d]
def AV77 (xs : Nat → Int32) : Nat → Nat → Nat → (Nat → Int32) := fun a b d => if a = 12 ∧ b = 35 ∧ d = 0 then (fun _ => 0) else AV76 xs a b d
theorem AZ164 {h w L : Nat} {xs : Nat → Int32} : ∀ a b d : Nat, gA (Z164 h w L xs) a b d = AV77 xs a b d := fun a b d => by
  unfold Z164 AV77
  rw [AWp, AZ163 a b d]
def AV78 (xs : Nat → Int32) : Nat → Nat → Nat → (Nat → Int32) := fun a b d => if a = 12 ∧ b = 36 ∧ d = 0 then (fun _ => 0) else AV77 xs a b d
theorem AZ165 {h w L : Nat} {xs : Nat → Int32} : ∀ a b d : Nat, gA (Z165 h w L xs) a b d = AV78 xs a b d := fun a b d => by
  unfold Z165 AV78
  rw [AWp, AZ164 a b d]
def AV79 (xs : Nat → Int32) : Nat → Nat → Nat → (Nat → Int32) := fun a b d => if a = 12 ∧ b = 37 ∧ d = 0 then (fun _ => 0) else AV78 xs a b d
theorem AZ166 {h w L : Nat} {xs : Nat → Int32} : ∀ a b d : Nat, gA (Z166 h w L xs) a b d = AV79 xs a b d := fun a b d => by
  unfold Z166 AV79
  rw [AWp, AZ165 a b d]
def AV80 (xs : Nat → Int32) : Nat → Nat → Nat → (Nat → Int32) := fun a b d => if a = 12 ∧ b = 39 ∧ d = 0 then (fun _ => 0) else AV79 xs a b d
theorem AZ167 {h w L : Nat} {xs : Nat → Int32} : ∀ a b d : Nat, gA (Z167 h w L xs) a b d = AV80 xs a b d := fun a b d => by
  unfold Z167 AV80
  rw [AWp, AZ166 a b d]
def AV81 (xs : Nat → Int32) : Nat → Nat → Nat → (Nat → Int32) := fun a b d => if a = 12 ∧ b = 40 ∧ d = 0 then (fun _ => 0) else AV80 xs a b d
theorem AZ168 {h w L : Nat} {xs : Nat → Int32} : ∀ a b d : Nat, gA (Z168 h w L xs) a b d = AV81 xs a b d := fun a b d => by
  unfold Z168 AV81
  rw [AWp, AZ167 a b d]
def AV82 (xs : Nat → Int32) : Nat → Nat → Nat → (Nat → Int32) := fun a b d => if a = 12 ∧ b = 41 ∧ d = 0 then (fun _ => 0) else AV81 xs a b d
theorem AZ169 {h w L : Nat} {xs : Nat → Int32} : ∀ a b d : Nat, gA (Z169 h w L xs) a b d = AV82 xs a b d := fun a b d => by
  unfold Z169 AV82
  rw [AWp, AZ168 a b d]
def AV83 (xs : Nat → Int32) : Nat → Nat → Nat → (Nat → Int32) := fun a b d => if a = 12 ∧ b = 42 ∧ d = 0 then (fun _ => 0) else AV82 xs a b d
theorem AZ170 {h w L : Nat} {xs : Nat → Int32} : ∀ a b d : Nat, gA (Z170 h w L xs) a b d = AV83 xs a b d := fun a b d => by
  unfold Z170 AV83
  rw [AWp, AZ169 a b d]
def AV84 (xs : Nat → Int32) : Nat → Nat → Nat → (Nat → Int32) := fun a b d => if a = 12 ∧ b = 43 ∧ d = 0 then (fun _ => 0) else AV83 xs a b d
theorem AZ171 {h w L : Nat} {xs : Nat → Int32} : ∀ a b d : Nat, gA (Z171 h w L xs) a b d = AV84 xs a b d := fun a b d => by
  unfold Z171 AV84
  rw [AWp, AZ170 a b d]
def AV85 (xs : Nat → Int32) : Nat → Nat → Nat → (Nat → Int32) := fun a b d => if a = 12 ∧ b = 44 ∧ d = 0 then (fun _ => 0) else AV84 xs a b d
theorem AZ172 {h w L : Nat} {xs : Nat → Int32} : ∀ a b d : Nat, gA (Z172 h w L xs) a b d = AV85 xs a b d := fun a b d => by
  unfold Z172 AV85
  rw [AWp, AZ171 a b d]
def AV86 (xs : Nat → Int32) : Nat → Nat → Nat → (Nat → Int32) := fun a b d => if a = 12 ∧ b = 45 ∧ d = 0 then (fun _ => 0) else AV85 xs a b d
theorem AZ173 {h w L : Nat} {xs : Nat → Int32} : ∀ a b d : Nat, gA (Z173 h w L xs) a b d = AV86 xs a b d := fun a b d => by
  unfold Z173 AV86
  rw [AWp, AZ172 a b d]
def AV87 (xs : Nat → Int32) : Nat → Nat → Nat → (Nat → Int32) := fun a b d => if a = 12 ∧ b = 46 ∧ d = 0 then (fun _ => 0) else AV86 xs a b d
theorem AZ174 {h w L : Nat} {xs : Nat → Int32} : ∀ a b d : Nat, gA (Z174 h w L xs) a b d = AV87 xs a b d := fun a b d => by
  unfold Z174 AV87
  rw [AWp, AZ173 a b d]
def AV88 (xs : Nat → Int32) : Nat → Nat → Nat → (Nat → Int32) := fun a b d => if a = 12 ∧ b = 47 ∧ d = 0 then (fun _ => 0) else AV87 xs a b d
theorem AZ175 {h w L : Nat} {xs : Nat → Int32} : ∀ a b d : Nat, gA (Z175 h w L xs) a b d = AV88 xs a b d := fun a b d => by
  unfold Z175 AV88
  rw [AWp, AZ174 a b d]
def AV89 (xs : Nat → Int32) : Nat → Nat → Nat → (Nat → Int32) := fun a b d => if a = 12 ∧ b = 48 ∧ d = 0 then (fun _ => 0) else AV88 xs a b d
theorem AZ176 {h w L : Nat} {xs : Nat → Int32} : ∀ a b d : Nat, gA (Z176 h w L xs) a b d = AV89 xs a b d := fun a b d => by
  unfold Z176 AV89
  rw [AWp, AZ175 a b d]
def AV90 (xs : Nat → Int32) : Nat → Nat → Nat → (Nat → Int32) := fun a b d => if a = 12 ∧ b = 49 ∧ d = 0 then (fun _ => 0) else AV89 xs a b d
theorem AZ177 {h w L : Nat} {xs : Nat → Int32} : ∀ a b d : Nat, gA (Z177 h w L xs) a b d = AV90 xs a b d := fun a b d => by
  unfold Z177 AV90
  rw [AWp, AZ176 a b d]
def AV91 (xs : Nat → Int32) : Nat → Nat → Nat → (Nat → Int32) := fun a b d => if a = 12 ∧ b = 50 ∧ d = 0 then (fun _ => 0) else AV90 xs a b d
theorem AZ178 {h w L : Nat} {xs : Nat → Int32} : ∀ a b d : Nat, gA (Z178 h w L xs) a b d = AV91 xs a b d := fun a b d => by
  unfold Z178 AV91
  rw [AWp, AZ177 a b d]
def AV92 (xs : Nat → Int32) : Nat → Nat → Nat → (Nat → Int32) := fun a b d => if a = 12 ∧ b = 51 ∧ d = 0 then (fun _ => 0) else AV91 xs a b d
theorem AZ179 {h w L : Nat} {xs : Nat → Int32} : ∀ a b d : Nat, gA (Z179 h w L xs) a b d = AV92 xs a b d := fun a b d => by
  unfold Z179 AV92
  rw [AWp, AZ178 a b d]
def AV93 (xs : Nat → Int32) : Nat → Nat → Nat → (Nat → Int32) := fun a b d => if a = 12 ∧ b = 52 ∧ d = 0 then (fun _ => 0) else AV92 xs a b d
theorem AZ180 {h w L : Nat} {xs : Nat → Int32} : ∀ a b d : Nat, gA (Z180 h w L xs) a b d = AV93 xs a b d := fun a b d => by
  unfold Z180 AV93
  rw [AWp, AZ179 a b d]
def AV94 (xs : Nat → Int32) : Nat → Nat → Nat → (Nat → Int32) := fun a b d => if a = 12 ∧ b = 53 ∧ d = 0 then (fun _ => 0) else AV93 xs a b d
theorem AZ181 {h w L : Nat} {xs : Nat → Int32} : ∀ a b d : Nat, gA (Z181 h w L xs) a b d = AV94 xs a b d := fun a b d => by
  unfold Z181 AV94
  rw [AWp, AZ180 a b d]
def AV95 (xs : Nat → Int32) : Nat → Nat → Nat → (Nat → Int32) := fun a b d => if a = 12 ∧ b = 55 ∧ d = 0 then (fun _ => 0) else AV94 xs a b d
theorem AZ182 {h w L : Nat} {xs : Nat → Int32} : ∀ a b d : Nat, gA (Z182 h w L xs) a b d = AV95 xs a b d := fun a b d => by
  unfold Z182 AV95
  rw [AWp, AZ181 a b d]
def AV96 (xs : Nat → Int32) : Nat → Nat → Nat → (Nat → Int32) := fun a b d => if a = 12 ∧ b = 56 ∧ d = 0 then (fun _ => 0) else AV95 xs a b d
theorem AZ183 {h w L : Nat} {xs : Nat → Int32} : ∀ a b d : Nat, gA (Z183 h w L xs) a b d = AV96 xs a b d := fun a b d => by
  unfold Z183 AV96
  rw [AWp, AZ182 a b d]
def AV97 (xs : Nat → Int32) : Nat → Nat → Nat → (Nat → Int32) := fun a b d => if a = 12 ∧ b = 57 ∧ d = 0 then (fun _ => 0) else AV96 xs a b d
theorem AZ184 {h w L : Nat} {xs : Nat → Int32} : ∀ a b d : Nat, gA (Z184 h w L xs) a b d = AV97 xs a b d := fun a b d => by
  unfold Z184 AV97
  rw [AWp, AZ183 a b d]
def AV98 (xs : Nat → Int32) : Nat → Nat → Nat → (Nat → Int32) := fun a b d => if a = 12 ∧ b = 58 ∧ d = 0 then (fun _ => 0) else AV97 xs a b d
theorem AZ185 {h w L : Nat} {xs : Nat → Int32} : ∀ a b d : Nat, gA (Z185 h w L xs) a b d = AV98 xs a b d := fun a b d => by
  unfold Z185 AV98
  rw [AWp, AZ184 a b d]
def AV99 (xs : Nat → Int32) : Nat → Nat → Nat → (Nat → Int32) := fun a b d => if a = 12 ∧ b = 60 ∧ d = 0 then (fun _ => 0) else AV98 xs a b d
theorem AZ186 {h w L : Nat} {xs : Nat → Int32} : ∀ a b d : Nat, gA (Z186 h w L xs) a b d = AV99 xs a b d := fun a b d => by
  unfold Z186 AV99
  rw [AWp, AZ185 a b d]
def AV100 (xs : Nat → Int32) : Nat → Nat → Nat → (Nat → Int32) := fun a b d => if a = 12 ∧ b = 61 ∧ d = 0 then (fun _ => 0) else AV99 xs a b d
theorem AZ187 {h w L : Nat} {xs : Nat → Int32} : ∀ a b d : Nat, gA (Z187 h w L xs) a b d = AV100 xs a b d := fun a b d => by
  unfold Z187 AV100
  rw [AWp, AZ186 a b d]
def AV101 (xs : Nat → Int32) : Nat → Nat → Nat → (Nat → Int32) := fun a b d => if a = 12 ∧ b = 62 ∧ d = 0 then (fun _ => 0) else AV100 xs a b d
theorem AZ188 {h w L : Nat} {xs : Nat → Int32} : ∀ a b d : Nat, gA (Z188 h w L xs) a b d = AV101 xs a b d := fun a b d => by
  unfold Z188 AV101
  rw [AWp, AZ187 a b d]
def AV102 (xs : Nat → Int32) : Nat → Nat → Nat → (Nat → Int32) := fun a b d => if a = 12 ∧ b = 63 ∧ d = 0 then (fun _ => 0) else AV101 xs a b d
theorem AZ189 {h w L : Nat} {xs : Nat → Int32} : ∀ a b d : Nat, gA (Z189 h w L xs) a b d = AV102 xs a b d := fun a b d => by
  unfold Z189 AV102
  rw [AWp, AZ188 a b d]
def AV103 (xs : Nat → Int32) : Nat → Nat → Nat → (Nat → Int32) := fun a b d => if a = 12 ∧ b = 68 ∧ d = 0 then (fun _ => 0) else AV102 xs a b d
theorem AZ190 {h w L : Nat} {xs : Nat → Int32} : ∀ a b d : Nat, gA (Z190 h w L xs) a b d = AV103 xs a b d := fun a b d => by
  unfold Z190 AV103
  rw [AWp, AZ189 a b d]
theorem AZ191 {h w L : Nat} {xs : Nat → Int32} : ∀ a b d : Nat, gA (Z191 h w L xs) a b d = AV103 xs a b d := fun a b d => by
  unfold Z191
  rw [AI]; exact AZ190 a b d
def AV104 (xs : Nat → Int32) : Nat → Nat → Nat → (Nat → Int32) := fun a b d => if a = 12 ∧ b = 70 ∧ d = 0 then (fun _ => 0) else AV103 xs a b d
theorem AZ192 {h w L : Nat} {xs : Nat → Int32} : ∀ a b d : Nat, gA (Z192 h w L xs) a b d = AV104 xs a b d := fun a b d => by
  unfold Z192 AV104
  rw [AWp, AZ191 a b d]
def AV105 (xs : Nat → Int32) : Nat → Nat → Nat → (Nat → Int32) := fun a b d => if a = 12 ∧ b = 71 ∧ d = 0 then (fun _ => 0) else AV104 xs a b d
theorem AZ193 {h w L : Nat} {xs : Nat → Int32} : ∀ a b d : Nat, gA (Z193 h w L xs) a b d = AV105 xs a b d := fun a b d => by
  unfold Z193 AV105
  rw [AWp, AZ192 a b d]
def AV106 (xs : Nat → Int32) : Nat → Nat → Nat → (Nat → Int32) := fun a b d => if a = 12 ∧ b = 72 ∧ d = 0 then (fun _ => 0) else AV105 xs a b d
theorem AZ194 {h w L : Nat} {xs : Nat → Int32} : ∀ a b d : Nat, gA (Z194 h w L xs) a b d = AV106 xs a b d := fun a b d => by
  unfold Z194 AV106
  rw [AWp, AZ193 a b d]
def AV107 (xs : Nat → Int32) : Nat → Nat → Nat → (Nat → Int32) := fun a b d => if a = 12 ∧ b = 73 ∧ d = 0 then (fun _ => 0) else AV106 xs a b d
theorem AZ195 {h w L : Nat} {xs : Nat → Int32} : ∀ a b d : Nat, gA (Z195 h w L xs) a b d = AV107 xs a b d := fun a b d => by
  unfold Z195 AV107
  rw [AWp, AZ194 a b d]
def AV108 (xs : Nat → Int32) : Nat → Nat → Nat → (Nat → Int32) := fun a b d => if a = 12 ∧ b = 74 ∧ d = 0 then (fun _ => 0) else AV107 xs a b d
theorem AZ196 {h w L : Nat} {xs : Nat → Int32} : ∀ a b d : Nat, gA (Z196 h w L xs) a b d = AV108 xs a b d := fun a b d => by
  unfold Z196 AV108
  rw [AWp, AZ195 a b d]
def AV109 (xs : Nat → Int32) : Nat → Nat → Nat → (Nat → Int32) := fun a b d => if a = 12 ∧ b = 75 ∧ d = 0 then (fun _ => 0) else AV108 xs a b d
theorem AZ197 {h w L : Nat} {xs : Nat → Int32} : ∀ a b d : Nat, gA (Z197 h w L xs) a b d = AV109 xs a b d := fun a b d => by
  unfold Z197 AV109
  rw [AWp, AZ196 a b d]
def AV110 (xs : Nat → Int32) : Nat → Nat → Nat → (Nat → Int32) := fun a b d => if a = 12 ∧ b = 76 ∧ d = 0 then (fun _ => 0) else AV109 xs a b d
theorem AZ198 {h w L : Nat} {xs : Nat → Int32} : ∀ a b d : Nat, gA (Z198 h w L xs) a b d = AV110 xs a b d := fun a b d => by
  unfold Z198 AV110
  rw [AWp, AZ197 a b d]
def AV111 (xs : Nat → Int32) : Nat → Nat → Nat → (Nat → Int32) := fun a b d => if a = 12 ∧ b = 77 ∧ d = 0 then (fun _ => 0) else AV110 xs a b d
theorem AZ199 {h w L : Nat} {xs : Nat → Int32} : ∀ a b d : Nat, gA (Z199 h w L xs) a b d = AV111 xs a b d := fun a b d => by
  unfold Z199 AV111
  rw [AWp, AZ198 a b d]
def AV112 (xs : Nat → Int32) : Nat → Nat → Nat → (Nat → Int32) := fun a b d => if a = 12 ∧ b = 78 ∧ d = 0 then (fun _ => 0) else AV111 xs a b d
theorem AZ200 {h w L : Nat} {xs : Nat → Int32} : ∀ a b d : Nat, gA (Z200 h w L xs) a b d = AV112 xs a b d := fun a b d => by
  unfold Z200 AV112
  rw [AWp, AZ199 a b d]
def AV113 (xs : Nat → Int32) : Nat → Nat → Nat → (Nat → Int32) := fun a b d => if a = 12 ∧ b = 79 ∧ d = 0 then (fun _ => 0) else AV112 xs a b d
theorem AZ201 {h w L : Nat} {xs : Nat → Int32} : ∀ a b d : Nat, gA (Z201 h w L xs) a b d = AV113 xs a b d := fun a b d => by
  unfold Z201 AV113
  rw [AWp, AZ200 a b d]
def AV114 (xs : Nat → Int32) : Nat → Nat → Nat → (Nat → Int32) := fun a b d => if a = 12 ∧ b = 80 ∧ d = 0 then (fun _ => 0) else AV113 xs a b d
theorem AZ202 {h w L : Nat} {xs : Nat → Int32} : ∀ a b d : Nat, gA (Z202 h w L xs) a b d = AV114 xs a b d := fun a b d => by
  unfold Z202 AV114
  rw [AWp, AZ201 a b d]
def AV115 (xs : Nat → Int32) : Nat → Nat → Nat → (Nat → Int32) := fun a b d => if a = 12 ∧ b = 81 ∧ d = 0 then (fun _ => 0) else AV114 xs a b d
theorem AZ203 {h w L : Nat} {xs : Nat → Int32} : ∀ a b d : Nat, gA (Z203 h w L xs) a b d = AV115 xs a b d := fun a b d => by
  unfold Z203 AV115
  rw [AWp, AZ202 a b d]
def AV116 (xs : Nat → Int32) : Nat → Nat → Nat → (Nat → Int32) := fun a b d => if a = 12 ∧ b = 79 ∧ d = 0 then upd (AV115 xs 12 79 0) 0 (-1) else AV115 xs a b d
theorem AZ204 {h w L : Nat} {xs : Nat → Int32} : ∀ a b d : Nat, gA (Z204 h w L xs) a b d = AV116 xs a b d := fun a b d => by
  unfold Z204 AV116
  rw [AAp, show gA (Z203 h w L xs) 12 79 0 = AV115 xs 12 79 0 from AZ203 _ _ _, AZ203 a b d]
def AV117 (xs : Nat → Int32) : Nat → Nat → Nat → (Nat → Int32) := fun a b d => if a = 12 ∧ b = 79 ∧ d = 0 then upd (AV116 xs 12 79 0) 1 (-1) else AV116 xs a b d
theorem AZ205 {h w L : Nat} {xs : Nat → Int32} : ∀ a b d : Nat, gA (Z205 h w L xs) a b d = AV117 xs a b d := fun a b d => by
  unfold Z205 AV117
  rw [AAp, show gA (Z204 h w L xs) 12 79 0 = AV116 xs 12 79 0 from AZ204 _ _ _, AZ204 a b d]
def AV118 (xs : Nat → Int32) : Nat → Nat → Nat → (Nat → Int32) := fun a b d => if a = 12 ∧ b = 79 ∧ d = 0 then upd (AV117 xs 12 79 0) 2 (-1) else AV117 xs a b d
theorem AZ206 {h w L : Nat} {xs : Nat → Int32} : ∀ a b d : Nat, gA (Z206 h w L xs) a b d = AV118 xs a b d := fun a b d => by
  unfold Z206 AV118
  rw [AAp, show gA (Z205 h w L xs) 12 79 0 = AV117 xs 12 79 0 from AZ205 _ _ _, AZ205 a b d]
def AV119 (xs : Nat → Int32) : Nat → Nat → Nat → (Nat → Int32) := fun a b d => if a = 12 ∧ b = 79 ∧ d = 0 then upd (AV118 xs 12 79 0) 3 (-1) else AV118 xs a b d
theorem AZ207 {h w L : Nat} {xs : Nat → Int32} : ∀ a b d : Nat, gA (Z207 h w L xs) a b d = AV119 xs a b d := fun a b d => by
  unfold Z207 AV119
  rw [AAp, show gA (Z206 h w L xs) 12 79 0 = AV118 xs 12 79 0 from AZ206 _ _ _, AZ206 a b d]
def AV120 (xs : Nat → Int32) : Nat → Nat → Nat → (Nat → Int32) := fun a b d => if a = 12 ∧ b = 35 ∧ d = 0 then upd (AV119 xs 12 35 0) 0 3 else AV119 xs a b d
theorem AZ208 {h w L : Nat} {xs : Nat → Int32} : ∀ a b d : Nat, gA (Z208 h w L xs) a b d = AV120 xs a b d := fun a b d => by
  unfold Z208 AV120
  rw [AAp, show gA (Z207 h w L xs) 12 35 0 = AV119 xs 12 35 0 from AZ207 _ _ _, AZ207 a b d]
def AV121 (xs : Nat → Int32) : Nat → Nat → Nat → (Nat → Int32) := fun a b d => if a = 12 ∧ b = 35 ∧ d = 0 then upd (AV120 xs 12 35 0) 1 3 else AV120 xs a b d
theorem AZ209 {h w L : Nat} {xs : Nat → Int32} : ∀ a b d : Nat, gA (Z209 h w L xs) a b d = AV121 xs a b d := fun a b d => by
  unfold Z209 AV121
  rw [AAp, show gA (Z208 h w L xs) 12 35 0 = AV120 xs 12 35 0 from AZ208 _ _ _, AZ208 a b d]
def AV122 (xs : Nat → Int32) : Nat → Nat → Nat → (Nat → Int32) := fun a b d => if a = 12 ∧ b = 35 ∧ d = 0 then upd (AV121 xs 12 35 0) 2 3 else AV121 xs a b d
theorem AZ210 {h w L : Nat} {xs : Nat → Int32} : ∀ a b d : Nat, gA (Z210 h w L xs) a b d = AV122 xs a b d := fun a b d => by
  unfold Z210 AV122
  rw [AAp, show gA (Z209 h w L xs) 12 35 0 = AV121 xs 12 35 0 from AZ209 _ _ _, AZ209 a b d]
def AV123 (xs : Nat → Int32) : Nat → Nat → Nat → (Nat → Int32) := fun a b d => if a = 12 ∧ b = 35 ∧ d = 0 then upd (AV122 xs 12 35 0) 3 3 else AV122 xs a b d
theorem AZ211 {h w L : Nat} {xs : Nat → Int32} : ∀ a b d : Nat, gA (Z211 h w L xs) a b d = AV123 xs a b d := fun a b d => by
  unfold Z211 AV123
  rw [AAp, show gA (Z210 h w L xs) 12 35 0 = AV122 xs 12 35 0 from AZ210 _ _ _, AZ210 a b d]
def AV124 (xs : Nat → Int32) : Nat → Nat → Nat → (Nat → Int32) := fun a b d => if a = 12 ∧ b = 35 ∧ d = 0 then upd (AV123 xs 12 35 0) 4 3 else AV123 xs a b d
theorem AZ212 {h w L : Nat} {xs : Nat → Int32} : ∀ a b d : Nat, gA (Z212 h w L xs) a b d = AV124 xs a b d := fun a b d => by
  unfold Z212 AV124
  rw [AAp, show gA (Z211 h w L xs) 12 35 0 = AV123 xs 12 35 0 from AZ211 _ _ _, AZ211 a b d]
def AV125 (xs : Nat → Int32) : Nat → Nat → Nat → (Nat → Int32) := fun a b d => if a = 12 ∧ b = 35 ∧ d = 0 then upd (AV124 xs 12 35 0) 5 3 else AV124 xs a b d
theorem AZ213 {h w L : Nat} {xs : Nat → Int32} : ∀ a b d : Nat, gA (Z213 h w L xs) a b d = AV125 xs a b d := fun a b d => by
  unfold Z213 AV125
  rw [AAp, show gA (Z212 h w L xs) 12 35 0 = AV124 xs 12 35 0 from AZ212 _ _ _, AZ212 a b d]
theorem zz0 {h w L : Nat} {xs : Nat → Int32} : newO (Z0 h w L xs) 11 = (Z1 h w L xs) := rfl
theorem zz1 {h w L : Nat} {xs : Nat → Int32} : newO (Z1 h w L xs) 7 = (Z2 h w L xs) := rfl
theorem zz2 {h w L : Nat} {xs : Nat → Int32} : newA (Z2 h w L xs) 7 0 0 120 = (Z3 h w L xs) := rfl
theorem zz3 {h w L : Nat} {xs : Nat → Int32} : setI (Z3 h w L xs) 7 1 0 0 = (Z4 h w L xs) := rfl
theorem zz4 {h w L : Nat} {xs : Nat → Int32} : setI (Z4 h w L xs) 7 2 0 0 = (Z5 h w L xs) := rfl
theorem zz5 {h w L : Nat} {xs : Nat → Int32} : setR (Z5 h w L xs) 11 0 0 (some 0) = (Z6 h w L xs) := rfl
theorem zz6 {h w L : Nat} {xs : Nat → Int32} : newA (Z6 h w L xs) 11 1 0 24 = (Z7 h w L xs) := rfl
theorem zz7 {h w L : Nat} {xs : Nat → Int32} : newA (Z7 h w L xs) 11 2 0 4 = (Z8 h w L xs) := rfl
theorem zz8 {h w L : Nat} {xs : Nat → Int32} : newA (Z8 h w L xs) 11 3 0 4 = (Z9 h w L xs) := rfl
theorem zz9 {h w L : Nat} {xs : Nat → Int32} : newO (Z9 h w L xs) 0 = (Z10 h w L xs) := rfl
theorem zz10 {h w L : Nat} {xs : Nat → Int32} : setI (Z10 h w L xs) 0 0 0 0 = (Z11 h w L xs) := rfl
theorem zz11 {h w L : Nat} {xs : Nat → Int32} : setI (Z11 h w L xs) 0 1 0 0 = (Z12 h w L xs) := rfl
theorem zz12 {h w L : Nat} {xs : Nat → Int32} : newA (Z12 h w L xs) 0 2 0 8 = (Z13 h w L xs) := rfl
theorem zz13 {h w L : Nat} {xs : Nat → Int32} : newA (Z13 h w L xs) 0 3 0 8 = (Z14 h w L xs) := rfl
theorem zz14 {h w L : Nat} {xs : Nat → Int32} : newA (Z14 h w L xs) 0 4 0 8 = (Z15 h w L xs) := rfl
theorem zz15 {h w L : Nat} {xs : Nat → Int32} : newA (Z15 h w L xs) 0 5 0 8 = (Z16 h w L xs) := rfl
theorem zz16 {h w L : Nat} {xs : Nat → Int32} : newA (Z16 h w L xs) 0 6 0 8 = (Z17 h w L xs) := rfl
theorem zz17 {h w L : Nat} {xs : Nat → Int32} : newA (Z17 h w L xs) 0 7 0 120 = (Z18 h w L xs) := rfl
theorem zz18 {h w L : Nat} {xs : Nat → Int32} : setI (Z18 h w L xs) 0 8 0 0 = (Z19 h w L xs) := rfl
theorem zz19 {h w L : Nat} {xs : Nat → Int32} : setR (Z19 h w L xs) 11 4 0 (some 0) = (Z20 h w L xs) := rfl
theorem zz20 {h w L : Nat} {xs : Nat → Int32} : newO (Z20 h w L xs) 1 = (Z21 h w L xs) := rfl
theorem zz21 {h w L : Nat} {xs : Nat → Int32} : setI (Z21 h w L xs) 1 0 0 0 = (Z22 h w L xs) := rfl
theorem zz22 {h w L : Nat} {xs : Nat → Int32} : newA (Z22 h w L xs) 1 1 0 6 = (Z23 h w L xs) := rfl
theorem zz23 {h w L : Nat} {xs : Nat → Int32} : newA (Z23 h w L xs) 1 2 0 6 = (Z24 h w L xs) := rfl
theorem zz24 {h w L : Nat} {xs : Nat → Int32} : newA (Z24 h w L xs) 1 3 0 6 = (Z25 h w L xs) := rfl
theorem zz25 {h w L : Nat} {xs : Nat → Int32} : setR (Z25 h w L xs) 11 5 0 (some 0) = (Z26 h w L xs) := rfl
theorem zz26 {h w L : Nat} {xs : Nat → Int32} : newA (Z26 h w L xs) 11 6 0 12 = (Z27 h w L xs) := rfl
theorem zz27 {h w L : Nat} {xs : Nat → Int32} : setI (Z27 h w L xs) 11 7 0 0 = (Z28 h w L xs) := rfl
theorem zz28 {h w L : Nat} {xs : Nat → Int32} : newA (Z28 h w L xs) 11 8 0 6 = (Z29 h w L xs) := rfl
theorem zz29 {h w L : Nat} {xs : Nat → Int32} : setI (Z29 h w L xs) 11 9 0 0 = (Z30 h w L xs) := rfl
theorem zz30 {h w L : Nat} {xs : Nat → Int32} : newA (Z30 h w L xs) 11 10 0 80 = (Z31 h w L xs) := rfl
theorem zz31 {h w L : Nat} {xs : Nat → Int32} : setI (Z31 h w L xs) 11 11 0 0 = (Z32 h w L xs) := rfl
theorem zz32 {h w L : Nat} {xs : Nat → Int32} : newA (Z32 h w L xs) 11 12 0 6 = (Z33 h w L xs) := rfl
theorem zz33 {h w L : Nat} {xs : Nat → Int32} : newO (Z33 h w L xs) 2 = (Z34 h w L xs) := rfl
theorem zz34 {h w L : Nat} {xs : Nat → Int32} : newA (Z34 h w L xs) 2 0 0 512 = (Z35 h w L xs) := rfl
theorem zz35 {h w L : Nat} {xs : Nat → Int32} : newA (Z35 h w L xs) 2 1 0 512 = (Z36 h w L xs) := rfl
theorem zz36 {h w L : Nat} {xs : Nat → Int32} : newA (Z36 h w L xs) 2 2 0 512 = (Z37 h w L xs) := rfl
theorem zz37 {h w L : Nat} {xs : Nat → Int32} : setI (Z37 h w L xs) 2 3 0 0 = (Z38 h w L xs) := rfl
theorem zz38 {h w L : Nat} {xs : Nat → Int32} : setR (Z38 h w L xs) 11 13 0 (some 0) = (Z39 h w L xs) := rfl
theorem zz39 {h w L : Nat} {xs : Nat → Int32} : newA (Z39 h w L xs) 11 14 0 800 = (Z40 h w L xs) := rfl
theorem zz40 {h w L : Nat} {xs : Nat → Int32} : setI (Z40 h w L xs) 11 15 0 5 = (Z41 h w L xs) := rfl
theorem zz41 {h w L : Nat} {xs : Nat → Int32} : newA (Z41 h w L xs) 11 16 0 4 = (Z42 h w L xs) := rfl
theorem zz42 {h w L : Nat} {xs : Nat → Int32} : newO (Z42 h w L xs) 5 = (Z43 h w L xs) := rfl
theorem zz43 {h w L : Nat} {xs : Nat → Int32} : newA (Z43 h w L xs) 5 0 0 6 = (Z44 h w L xs) := rfl
theorem zz44 {h w L : Nat} {xs : Nat → Int32} : newA (Z44 h w L xs) 5 1 0 6 = (Z45 h w L xs) := rfl
theorem zz45 {h w L : Nat} {xs : Nat → Int32} : newA (Z45 h w L xs) 5 2 0 6 = (Z46 h w L xs) := rfl
theorem zz46 {h w L : Nat} {xs : Nat → Int32} : newA (Z46 h w L xs) 5 3 0 6 = (Z47 h w L xs) := rfl
theorem zz47 {h w L : Nat} {xs : Nat → Int32} : newA (Z47 h w L xs) 5 4 0 7 = (Z48 h w L xs) := rfl
theorem zz48 {h w L : Nat} {xs : Nat → Int32} : newA (Z48 h w L xs) 5 5 0 7 = (Z49 h w L xs) := rfl
theorem zz49 {h w L : Nat} {xs : Nat → Int32} : newA (Z49 h w L xs) 5 6 0 6 = (Z50 h w L xs) := rfl
theorem zz50 {h w L : Nat} {xs : Nat → Int32} : newA (Z50 h w L xs) 5 7 0 6 = (Z51 h w L xs) := rfl
theorem zz51 {h w L : Nat} {xs : Nat → Int32} : setI (Z51 h w L xs) 5 8 0 0 = (Z52 h w L xs) := rfl
theorem zz52 {h w L : Nat} {xs : Nat → Int32} : setI (Z52 h w L xs) 5 9 0 0 = (Z53 h w L xs) := rfl
theorem zz53 {h w L : Nat} {xs : Nat → Int32} : setI (Z53 h w L xs) 5 10 0 0 = (Z54 h w L xs) := rfl
theorem zz54 {h w L : Nat} {xs : Nat → Int32} : setI (Z54 h w L xs) 5 11 0 0 = (Z55 h w L xs) := rfl
theorem zz55 {h w L : Nat} {xs : Nat → Int32} : setR (Z55 h w L xs) 11 17 0 (some 0) = (Z56 h w L xs) := rfl
theorem zz56 {h w L : Nat} {xs : Nat → Int32} : newO (Z56 h w L xs) 10 = (Z57 h w L xs) := rfl
theorem zz57 {h w L : Nat} {xs : Nat → Int32} : newA (Z57 h w L xs) 10 0 0 256 = (Z58 h w L xs) := rfl
theorem zz58 {h w L : Nat} {xs : Nat → Int32} : newA (Z58 h w L xs) 10 1 0 256 = (Z59 h w L xs) := rfl
theorem zz59 {h w L : Nat} {xs : Nat → Int32} : newA (Z59 h w L xs) 10 2 0 8 = (Z60 h w L xs) := rfl
theorem zz60 {h w L : Nat} {xs : Nat → Int32} : setR (Z60 h w L xs) 11 18 0 (some 0) = (Z61 h w L xs) := rfl
theorem zz61 {h w L : Nat} {xs : Nat → Int32} : newA (Z61 h w L xs) 11 19 0 8 = (Z62 h w L xs) := rfl
theorem zz62 {h w L : Nat} {xs : Nat → Int32} : newO (Z62 h w L xs) 1 = (Z63 h w L xs) := rfl
theorem zz63 {h w L : Nat} {xs : Nat → Int32} : setI (Z63 h w L xs) 1 0 1 0 = (Z64 h w L xs) := rfl
theorem zz64 {h w L : Nat} {xs : Nat → Int32} : newA (Z64 h w L xs) 1 1 1 6 = (Z65 h w L xs) := rfl
theorem zz65 {h w L : Nat} {xs : Nat → Int32} : newA (Z65 h w L xs) 1 2 1 6 = (Z66 h w L xs) := rfl
theorem zz66 {h w L : Nat} {xs : Nat → Int32} : newA (Z66 h w L xs) 1 3 1 6 = (Z67 h w L xs) := rfl
theorem zz67 {h w L : Nat} {xs : Nat → Int32} : setQ (Z67 h w L xs) 11 3 0 (va_up (gQ (Z67 h w L xs) 11 3 0) 0 (some 1)) = (Z68 h w L xs) := rfl
theorem zz68 {h w L : Nat} {xs : Nat → Int32} : newO (Z68 h w L xs) 1 = (Z69 h w L xs) := rfl
theorem zz69 {h w L : Nat} {xs : Nat → Int32} : setI (Z69 h w L xs) 1 0 2 0 = (Z70 h w L xs) := rfl
theorem zz70 {h w L : Nat} {xs : Nat → Int32} : newA (Z70 h w L xs) 1 1 2 6 = (Z71 h w L xs) := rfl
theorem zz71 {h w L : Nat} {xs : Nat → Int32} : newA (Z71 h w L xs) 1 2 2 6 = (Z72 h w L xs) := rfl
theorem zz72 {h w L : Nat} {xs : Nat → Int32} : newA (Z72 h w L xs) 1 3 2 6 = (Z73 h w L xs) := rfl
theorem zz73 {h w L : Nat} {xs : Nat → Int32} : setQ (Z73 h w L xs) 11 3 0 (va_up (gQ (Z73 h w L xs) 11 3 0) 1 (some 2)) = (Z74 h w L xs) := rfl
theorem zz74 {h w L : Nat} {xs : Nat → Int32} : newO (Z74 h w L xs) 1 = (Z75 h w L xs) := rfl
theorem zz75 {h w L : Nat} {xs : Nat → Int32} : setI (Z75 h w L xs) 1 0 3 0 = (Z76 h w L xs) := rfl
theorem zz76 {h w L : Nat} {xs : Nat → Int32} : newA (Z76 h w L xs) 1 1 3 6 = (Z77 h w L xs) := rfl
theorem zz77 {h w L : Nat} {xs : Nat → Int32} : newA (Z77 h w L xs) 1 2 3 6 = (Z78 h w L xs) := rfl
theorem zz78 {h w L : Nat} {xs : Nat → Int32} : newA (Z78 h w L xs) 1 3 3 6 = (Z79 h w L xs) := rfl
theorem zz79 {h w L : Nat} {xs : Nat → Int32} : setQ (Z79 h w L xs) 11 3 0 (va_up (gQ (Z79 h w L xs) 11 3 0) 2 (some 3)) = (Z80 h w L xs) := rfl
theorem zz80 {h w L : Nat} {xs : Nat → Int32} : newO (Z80 h w L xs) 1 = (Z81 h w L xs) := rfl
theorem zz81 {h w L : Nat} {xs : Nat → Int32} : setI (Z81 h w L xs) 1 0 4 0 = (Z82 h w L xs) := rfl
theorem zz82 {h w L : Nat} {xs : Nat → Int32} : newA (Z82 h w L xs) 1 1 4 6 = (Z83 h w L xs) := rfl
theorem zz83 {h w L : Nat} {xs : Nat → Int32} : newA (Z83 h w L xs) 1 2 4 6 = (Z84 h w L xs) := rfl
theorem zz84 {h w L : Nat} {xs : Nat → Int32} : newA (Z84 h w L xs) 1 3 4 6 = (Z85 h w L xs) := rfl
theorem zz85 {h w L : Nat} {xs : Nat → Int32} : setQ (Z85 h w L xs) 11 3 0 (va_up (gQ (Z85 h w L xs) 11 3 0) 3 (some 4)) = (Z86 h w L xs) := rfl
theorem zz86 {h w L : Nat} {xs : Nat → Int32} : newO (Z86 h w L xs) 3 = (Z87 h w L xs) := rfl
theorem zz87 {h w L : Nat} {xs : Nat → Int32} : setI (Z87 h w L xs) 3 0 0 3 = (Z88 h w L xs) := rfl
theorem zz88 {h w L : Nat} {xs : Nat → Int32} : setI (Z88 h w L xs) 3 1 0 0 = (Z89 h w L xs) := rfl
theorem zz89 {h w L : Nat} {xs : Nat → Int32} : setI (Z89 h w L xs) 3 2 0 0 = (Z90 h w L xs) := rfl
theorem zz90 {h w L : Nat} {xs : Nat → Int32} : setQ (Z90 h w L xs) 11 12 0 (va_up (gQ (Z90 h w L xs) 11 12 0) 0 (some 0)) = (Z91 h w L xs) := rfl
theorem zz91 {h w L : Nat} {xs : Nat → Int32} : newO (Z91 h w L xs) 3 = (Z92 h w L xs) := rfl
theorem zz92 {h w L : Nat} {xs : Nat → Int32} : setI (Z92 h w L xs) 3 0 1 3 = (Z93 h w L xs) := rfl
theorem zz93 {h w L : Nat} {xs : Nat → Int32} : setI (Z93 h w L xs) 3 1 1 0 = (Z94 h w L xs) := rfl
theorem zz94 {h w L : Nat} {xs : Nat → Int32} : setI (Z94 h w L xs) 3 2 1 0 = (Z95 h w L xs) := rfl
theorem zz95 {h w L : Nat} {xs : Nat → Int32} : setQ (Z95 h w L xs) 11 12 0 (va_up (gQ (Z95 h w L xs) 11 12 0) 1 (some 1)) = (Z96 h w L xs) := rfl
theorem zz96 {h w L : Nat} {xs : Nat → Int32} : newO (Z96 h w L xs) 3 = (Z97 h w L xs) := rfl
theorem zz97 {h w L : Nat} {xs : Nat → Int32} : setI (Z97 h w L xs) 3 0 2 3 = (Z98 h w L xs) := rfl
theorem zz98 {h w L : Nat} {xs : Nat → Int32} : setI (Z98 h w L xs) 3 1 2 0 = (Z99 h w L xs) := rfl
theorem zz99 {h w L : Nat} {xs : Nat → Int32} : setI (Z99 h w L xs) 3 2 2 0 = (Z100 h w L xs) := rfl
theorem zz100 {h w L : Nat} {xs : Nat → Int32} : setQ (Z100 h w L xs) 11 12 0 (va_up (gQ (Z100 h w L xs) 11 12 0) 2 (some 2)) = (Z101 h w L xs) := rfl
theorem zz101 {h w L : Nat} {xs : Nat → Int32} : newO (Z101 h w L xs) 3 = (Z102 h w L xs) := rfl
theorem zz102 {h w L : Nat} {xs : Nat → Int32} : setI (Z102 h w L xs) 3 0 3 3 = (Z103 h w L xs) := rfl
theorem zz103 {h w L : Nat} {xs : Nat → Int32} : setI (Z103 h w L xs) 3 1 3 0 = (Z104 h w L xs) := rfl
theorem zz104 {h w L : Nat} {xs : Nat → Int32} : setI (Z104 h w L xs) 3 2 3 0 = (Z105 h w L xs) := rfl
theorem zz105 {h w L : Nat} {xs : Nat → Int32} : setQ (Z105 h w L xs) 11 12 0 (va_up (gQ (Z105 h w L xs) 11 12 0) 3 (some 3)) = (Z106 h w L xs) := rfl
theorem zz106 {h w L : Nat} {xs : Nat → Int32} : newO (Z106 h w L xs) 3 = (Z107 h w L xs) := rfl
theorem zz107 {h w L : Nat} {xs : Nat → Int32} : setI (Z107 h w L xs) 3 0 4 3 = (Z108 h w L xs) := rfl
theorem zz108 {h w L : Nat} {xs : Nat → Int32} : setI (Z108 h w L xs) 3 1 4 0 = (Z109 h w L xs) := rfl
theorem zz109 {h w L : Nat} {xs : Nat → Int32} : setI (Z109 h w L xs) 3 2 4 0 = (Z110 h w L xs) := rfl
theorem zz110 {h w L : Nat} {xs : Nat → Int32} : setQ (Z110 h w L xs) 11 12 0 (va_up (gQ (Z110 h w L xs) 11 12 0) 4 (some 4)) = (Z111 h w L xs) := rfl
theorem zz111 {h w L : Nat} {xs : Nat → Int32} : newO (Z111 h w L xs) 3 = (Z112 h w L xs) := rfl
theorem zz112 {h w L : Nat} {xs : Nat → Int32} : setI (Z112 h w L xs) 3 0 5 3 = (Z113 h w L xs) := rfl
theorem zz113 {h w L : Nat} {xs : Nat → Int32} : setI (Z113 h w L xs) 3 1 5 0 = (Z114 h w L xs) := rfl
theorem zz114 {h w L : Nat} {xs : Nat → Int32} : setI (Z114 h w L xs) 3 2 5 0 = (Z115 h w L xs) := rfl
theorem zz115 {h w L : Nat} {xs : Nat → Int32} : setQ (Z115 h w L xs) 11 12 0 (va_up (gQ (Z115 h w L xs) 11 12 0) 5 (some 5)) = (Z116 h w L xs) := rfl
theorem zz116 {h w L : Nat} {xs : Nat → Int32} : newO (Z116 h w L xs) 6 = (Z117 h w L xs) := rfl
theorem zz117 {h w L : Nat} {xs : Nat → Int32} : setI (Z117 h w L xs) 6 0 0 (-1) = (Z118 h w L xs) := rfl
theorem zz118 {h w L : Nat} {xs : Nat → Int32} : setI (Z118 h w L xs) 6 1 0 0 = (Z119 h w L xs) := rfl
theorem zz119 {h w L : Nat} {xs : Nat → Int32} : newA (Z119 h w L xs) 6 2 0 30 = (Z120 h w L xs) := rfl
theorem zz120 {h w L : Nat} {xs : Nat → Int32} : setQ (Z120 h w L xs) 11 16 0 (va_up (gQ (Z120 h w L xs) 11 16 0) 0 (some 0)) = (Z121 h w L xs) := rfl
theorem zz121 {h w L : Nat} {xs : Nat → Int32} : newO (Z121 h w L xs) 6 = (Z122 h w L xs) := rfl
theorem zz122 {h w L : Nat} {xs : Nat → Int32} : setI (Z122 h w L xs) 6 0 1 (-1) = (Z123 h w L xs) := rfl
theorem zz123 {h w L : Nat} {xs : Nat → Int32} : setI (Z123 h w L xs) 6 1 1 0 = (Z124 h w L xs) := rfl
theorem zz124 {h w L : Nat} {xs : Nat → Int32} : newA (Z124 h w L xs) 6 2 1 30 = (Z125 h w L xs) := rfl
theorem zz125 {h w L : Nat} {xs : Nat → Int32} : setQ (Z125 h w L xs) 11 16 0 (va_up (gQ (Z125 h w L xs) 11 16 0) 1 (some 1)) = (Z126 h w L xs) := rfl
theorem zz126 {h w L : Nat} {xs : Nat → Int32} : newO (Z126 h w L xs) 6 = (Z127 h w L xs) := rfl
theorem zz127 {h w L : Nat} {xs : Nat → Int32} : setI (Z127 h w L xs) 6 0 2 (-1) = (Z128 h w L xs) := rfl
theorem zz128 {h w L : Nat} {xs : Nat → Int32} : setI (Z128 h w L xs) 6 1 2 0 = (Z129 h w L xs) := rfl
theorem zz129 {h w L : Nat} {xs : Nat → Int32} : newA (Z129 h w L xs) 6 2 2 30 = (Z130 h w L xs) := rfl
theorem zz130 {h w L : Nat} {xs : Nat → Int32} : setQ (Z130 h w L xs) 11 16 0 (va_up (gQ (Z130 h w L xs) 11 16 0) 2 (some 2)) = (Z131 h w L xs) := rfl
theorem zz131 {h w L : Nat} {xs : Nat → Int32} : newO (Z131 h w L xs) 6 = (Z132 h w L xs) := rfl
theorem zz132 {h w L : Nat} {xs : Nat → Int32} : setI (Z132 h w L xs) 6 0 3 (-1) = (Z133 h w L xs) := rfl
theorem zz133 {h w L : Nat} {xs : Nat → Int32} : setI (Z133 h w L xs) 6 1 3 0 = (Z134 h w L xs) := rfl
theorem zz134 {h w L : Nat} {xs : Nat → Int32} : newA (Z134 h w L xs) 6 2 3 30 = (Z135 h w L xs) := rfl
theorem zz135 {h w L : Nat} {xs : Nat → Int32} : setQ (Z135 h w L xs) 11 16 0 (va_up (gQ (Z135 h w L xs) 11 16 0) 3 (some 3)) = (Z136 h w L xs) := rfl
theorem zz136 {h w L : Nat} {xs : Nat → Int32} : newO (Z136 h w L xs) 12 = (Z137 h w L xs) := rfl
theorem zz137 {h w L : Nat} {xs : Nat → Int32} : newA (Z137 h w L xs) 12 0 0 120 = (Z138 h w L xs) := rfl
theorem zz138 {h w L : Nat} {xs : Nat → Int32} : newA (Z138 h w L xs) 12 4 0 8 = (Z139 h w L xs) := rfl
theorem zz139 {h w L : Nat} {xs : Nat → Int32} : newA (Z139 h w L xs) 12 5 0 8 = (Z140 h w L xs) := rfl
theorem zz140 {h w L : Nat} {xs : Nat → Int32} : newA (Z140 h w L xs) 12 6 0 8 = (Z141 h w L xs) := rfl
theorem zz141 {h w L : Nat} {xs : Nat → Int32} : newA (Z141 h w L xs) 12 7 0 8 = (Z142 h w L xs) := rfl
theorem zz142 {h w L : Nat} {xs : Nat → Int32} : newA (Z142 h w L xs) 12 8 0 128 = (Z143 h w L xs) := rfl
theorem zz143 {h w L : Nat} {xs : Nat → Int32} : newA (Z143 h w L xs) 12 13 0 128 = (Z144 h w L xs) := rfl
theorem zz144 {h w L : Nat} {xs : Nat → Int32} : newA (Z144 h w L xs) 12 15 0 4 = (Z145 h w L xs) := rfl
theorem zz145 {h w L : Nat} {xs : Nat → Int32} : newA (Z145 h w L xs) 12 16 0 24 = (Z146 h w L xs) := rfl
theorem zz146 {h w L : Nat} {xs : Nat → Int32} : newA (Z146 h w L xs) 12 17 0 24 = (Z147 h w L xs) := rfl
theorem zz147 {h w L : Nat} {xs : Nat → Int32} : newA (Z147 h w L xs) 12 18 0 192 = (Z148 h w L xs) := rfl
theorem zz148 {h w L : Nat} {xs : Nat → Int32} : newA (Z148 h w L xs) 12 19 0 192 = (Z149 h w L xs) := rfl
theorem zz149 {h w L : Nat} {xs : Nat → Int32} : newA (Z149 h w L xs) 12 20 0 192 = (Z150 h w L xs) := rfl
theorem zz150 {h w L : Nat} {xs : Nat → Int32} : newA (Z150 h w L xs) 12 21 0 192 = (Z151 h w L xs) := rfl
theorem zz151 {h w L : Nat} {xs : Nat → Int32} : newA (Z151 h w L xs) 12 22 0 3072 = (Z152 h w L xs) := rfl
theorem zz152 {h w L : Nat} {xs : Nat → Int32} : newA (Z152 h w L xs) 12 24 0 12 = (Z153 h w L xs) := rfl
theorem zz153 {h w L : Nat} {xs : Nat → Int32} : newA (Z153 h w L xs) 12 25 0 12 = (Z154 h w L xs) := rfl
theorem zz154 {h w L : Nat} {xs : Nat → Int32} : newA (Z154 h w L xs) 12 26 0 12 = (Z155 h w L xs) := rfl
theorem zz155 {h w L : Nat} {xs : Nat → Int32} : newA (Z155 h w L xs) 12 27 0 12 = (Z156 h w L xs) := rfl
theorem zz156 {h w L : Nat} {xs : Nat → Int32} : newA (Z156 h w L xs) 12 28 0 12 = (Z157 h w L xs) := rfl
theorem zz157 {h w L : Nat} {xs : Nat → Int32} : newA (Z157 h w L xs) 12 29 0 12 = (Z158 h w L xs) := rfl
theorem zz158 {h w L : Nat} {xs : Nat → Int32} : newA (Z158 h w L xs) 12 30 0 48000 = (Z159 h w L xs) := rfl
theorem zz159 {h w L : Nat} {xs : Nat → Int32} : newA (Z159 h w L xs) 12 31 0 40 = (Z160 h w L xs) := rfl
theorem zz160 {h w L : Nat} {xs : Nat → Int32} : newA (Z160 h w L xs) 12 32 0 128 = (Z161 h w L xs) := rfl
theorem zz161 {h w L : Nat} {xs : Nat → Int32} : newA (Z161 h w L xs) 12 33 0 256 = (Z162 h w L xs) := rfl
theorem zz162 {h w L : Nat} {xs : Nat → Int32} : newA (Z162 h w L xs) 12 34 0 256 = (Z163 h w L xs) := rfl
theorem zz163 {h w L : Nat} {xs : Nat → Int32} : newA (Z163 h w L xs) 12 35 0 6 = (Z164 h w L xs) := rfl
theorem zz164 {h w L : Nat} {xs : Nat → Int32} : newA (Z164 h w L xs) 12 36 0 6 = (Z165 h w L xs) := rfl
theorem zz165 {h w L : Nat} {xs : Nat → Int32} : newA (Z165 h w L xs) 12 37 0 6 = (Z166 h w L xs) := rfl
theorem zz166 {h w L : Nat} {xs : Nat → Int32} : newA (Z166 h w L xs) 12 39 0 80 = (Z167 h w L xs) := rfl
theorem zz167 {h w L : Nat} {xs : Nat → Int32} : newA (Z167 h w L xs) 12 40 0 80 = (Z168 h w L xs) := rfl
theorem zz168 {h w L : Nat} {xs : Nat → Int32} : newA (Z168 h w L xs) 12 41 0 80 = (Z169 h w L xs) := rfl
theorem zz169 {h w L : Nat} {xs : Nat → Int32} : newA (Z169 h w L xs) 12 42 0 80 = (Z170 h w L xs) := rfl
theorem zz170 {h w L : Nat} {xs : Nat → Int32} : newA (Z170 h w L xs) 12 43 0 80 = (Z171 h w L xs) := rfl
theorem zz171 {h w L : Nat} {xs : Nat → Int32} : newA (Z171 h w L xs) 12 44 0 80 = (Z172 h w L xs) := rfl
theorem zz172 {h w L : Nat} {xs : Nat → Int32} : newA (Z172 h w L xs) 12 45 0 80 = (Z173 h w L xs) := rfl
theorem zz173 {h w L : Nat} {xs : Nat → Int32} : newA (Z173 h w L xs) 12 46 0 80 = (Z174 h w L xs) := rfl
theorem zz174 {h w L : Nat} {xs : Nat → Int32} : newA (Z174 h w L xs) 12 47 0 80 = (Z175 h w L xs) := rfl
theorem zz175 {h w L : Nat} {xs : Nat → Int32} : newA (Z175 h w L xs) 12 48 0 80 = (Z176 h w L xs) := rfl
theorem zz176 {h w L : Nat} {xs : Nat → Int32} : newA (Z176 h w L xs) 12 49 0 80 = (Z177 h w L xs) := rfl
theorem zz177 {h w L : Nat} {xs : Nat → Int32} : newA (Z177 h w L xs) 12 50 0 80 = (Z178 h w L xs) := rfl
theorem zz178 {h w L : Nat} {xs : Nat → Int32} : newA (Z178 h w L xs) 12 51 0 80 = (Z179 h w L xs) := rfl
theorem zz179 {h w L : Nat} {xs : Nat → Int32} : newA (Z179 h w L xs) 12 52 0 80 = (Z180 h w L xs) := rfl
theorem zz180 {h w L : Nat} {xs : Nat → Int32} : newA (Z180 h w L xs) 12 53 0 1600 = (Z181 h w L xs) := rfl
theorem zz181 {h w L : Nat} {xs : Nat → Int32} : newA (Z181 h w L xs) 12 55 0 6 = (Z182 h w L xs) := rfl
theorem zz182 {h w L : Nat} {xs : Nat → Int32} : newA (Z182 h w L xs) 12 56 0 6 = (Z183 h w L xs) := rfl
theorem zz183 {h w L : Nat} {xs : Nat → Int32} : newA (Z183 h w L xs) 12 57 0 6 = (Z184 h w L xs) := rfl
theorem zz184 {h w L : Nat} {xs : Nat → Int32} : newA (Z184 h w L xs) 12 58 0 6 = (Z185 h w L xs) := rfl
theorem zz185 {h w L : Nat} {xs : Nat → Int32} : newA (Z185 h w L xs) 12 60 0 6 = (Z186 h w L xs) := rfl
theorem zz186 {h w L : Nat} {xs : Nat → Int32} : newA (Z186 h w L xs) 12 61 0 6 = (Z187 h w L xs) := rfl
theorem zz187 {h w L : Nat} {xs : Nat → Int32} : newA (Z187 h w L xs) 12 62 0 6 = (Z188 h w L xs) := rfl
theorem zz188 {h w L : Nat} {xs : Nat → Int32} : newA (Z188 h w L xs) 12 63 0 6 = (Z189 h w L xs) := rfl
theorem zz189 {h w L : Nat} {xs : Nat → Int32} : newA (Z189 h w L xs) 12 68 0 800 = (Z190 h w L xs) := rfl
theorem zz190 {h w L : Nat} {xs : Nat → Int32} : setI (Z190 h w L xs) 12 69 0 5 = (Z191 h w L xs) := rfl
theorem zz191 {h w L : Nat} {xs : Nat → Int32} : newA (Z191 h w L xs) 12 70 0 4 = (Z192 h w L xs) := rfl
theorem zz192 {h w L : Nat} {xs : Nat → Int32} : newA (Z192 h w L xs) 12 71 0 24 = (Z193 h w L xs) := rfl
theorem zz193 {h w L : Nat} {xs : Nat → Int32} : newA (Z193 h w L xs) 12 72 0 24 = (Z194 h w L xs) := rfl
theorem zz194 {h w L : Nat} {xs : Nat → Int32} : newA (Z194 h w L xs) 12 73 0 4 = (Z195 h w L xs) := rfl
theorem zz195 {h w L : Nat} {xs : Nat → Int32} : newA (Z195 h w L xs) 12 74 0 24 = (Z196 h w L xs) := rfl
theorem zz196 {h w L : Nat} {xs : Nat → Int32} : newA (Z196 h w L xs) 12 75 0 24 = (Z197 h w L xs) := rfl
theorem zz197 {h w L : Nat} {xs : Nat → Int32} : newA (Z197 h w L xs) 12 76 0 6 = (Z198 h w L xs) := rfl
theorem zz198 {h w L : Nat} {xs : Nat → Int32} : newA (Z198 h w L xs) 12 77 0 6 = (Z199 h w L xs) := rfl
theorem zz199 {h w L : Nat} {xs : Nat → Int32} : newA (Z199 h w L xs) 12 78 0 6 = (Z200 h w L xs) := rfl
theorem zz200 {h w L : Nat} {xs : Nat → Int32} : newA (Z200 h w L xs) 12 79 0 4 = (Z201 h w L xs) := rfl
theorem zz201 {h w L : Nat} {xs : Nat → Int32} : newA (Z201 h w L xs) 12 80 0 4 = (Z202 h w L xs) := rfl
theorem zz202 {h w L : Nat} {xs : Nat → Int32} : newA (Z202 h w L xs) 12 81 0 120 = (Z203 h w L xs) := rfl
theorem zz203 {h w L : Nat} {xs : Nat → Int32} : setA (Z203 h w L xs) 12 79 0 (upd (gA (Z203 h w L xs) 12 79 0) 0 (-1)) = (Z204 h w L xs) := rfl
theorem zz204 {h w L : Nat} {xs : Nat → Int32} : setA (Z204 h w L xs) 12 79 0 (upd (gA (Z204 h w L xs) 12 79 0) 1 (-1)) = (Z205 h w L xs) := rfl
theorem zz205 {h w L : Nat} {xs : Nat → Int32} : setA (Z205 h w L xs) 12 79 0 (upd (gA (Z205 h w L xs) 12 79 0) 2 (-1)) = (Z206 h w L xs) := rfl
theorem zz206 {h w L : Nat} {xs : Nat → Int32} : setA (Z206 h w L xs) 12 79 0 (upd (gA (Z206 h w L xs) 12 79 0) 3 (-1)) = (Z207 h w L xs) := rfl
theorem zz207 {h w L : Nat} {xs : Nat → Int32} : setA (Z207 h w L xs) 12 35 0 (upd (gA (Z207 h w L xs) 12 35 0) 0 3) = (Z208 h w L xs) := rfl
theorem zz208 {h w L : Nat} {xs : Nat → Int32} : setA (Z208 h w L xs) 12 35 0 (upd (gA (Z208 h w L xs) 12 35 0) 1 3) = (Z209 h w L xs) := rfl
theorem zz209 {h w L : Nat} {xs : Nat → Int32} : setA (Z209 h w L xs) 12 35 0 (upd (gA (Z209 h w L xs) 12 35 0) 2 3) = (Z210 h w L xs) := rfl
theorem zz210 {h w L : Nat} {xs : Nat → Int32} : setA (Z210 h w L xs) 12 35 0 (upd (gA (Z210 h w L xs) 12 35 0) 3 3) = (Z211 h w L xs) := rfl
theorem zz211 {h w L : Nat} {xs : Nat → Int32} : setA (Z211 h w L xs) 12 35 0 (upd (gA (Z211 h w L xs) 12 35 0) 4 3) = (Z212 h w L xs) := rfl
theorem zz212 {h w L : Nat} {xs : Nat → Int32} : setA (Z212 h w L xs) 12 35 0 (upd (gA (Z212 h w L xs) 12 35 0) 5 3) = (Z213 h w L xs) := rfl
theorem lz2_7_0_0 {h w L : Nat} {xs : Nat → Int32} : gL (Z2 h w L xs) 7 0 0 = none := (LZ2 _ _ _ (by decide)).trans (by decide +kernel)
theorem lz6_11_1_0 {h w L : Nat} {xs : Nat → Int32} : gL (Z6 h w L xs) 11 1 0 = none := (LZ6 _ _ _ (by decide)).trans (by decide +kernel)
theorem lz7_11_2_0 {h w L : Nat} {xs : Nat → Int32} : gL (Z7 h w L xs) 11 2 0 = none := (LZ7 _ _ _ (by decide)).trans (by decide +kernel)
theorem lz8_11_3_0 {h w L : Nat} {xs : Nat → Int32} : gL (Z8 h w L xs) 11 3 0 = none := (LZ8 _ _ _ (by decide)).trans (by decide +kernel)
theorem lz12_0_2_0 {h w L : Nat} {xs : Nat → Int32} : gL (Z12 h w L xs) 0 2 0 = none := (LZ12 _ _ _ (by decide)).trans (by decide +kernel)
theorem lz13_0_3_0 {h w L : Nat} {xs : Nat → Int32} : gL (Z13 h w L xs) 0 3 0 = none := (LZ13 _ _ _ (by decide)).trans (by decide +kernel)
theorem lz14_0_4_0 {h w L : Nat} {xs : Nat → Int32} : gL (Z14 h w L xs) 0 4 0 = none := (LZ14 _ _ _ (by decide)).trans (by decide +kernel)
theorem lz15_0_5_0 {h w L : Nat} {xs : Nat → Int32} : gL (Z15 h w L xs) 0 5 0 = none := (LZ15 _ _ _ (by decide)).trans (by decide +kernel)
theorem lz16_0_6_0 {h w L : Nat} {xs : Nat → Int32} : gL (Z16 h w L xs) 0 6 0 = none := (LZ16 _ _ _ (by decide)).trans (by decide +kernel)
theorem lz17_0_7_0 {h w L : Nat} {xs : Nat → Int32} : gL (Z17 h w L xs) 0 7 0 = none := (LZ17 _ _ _ (by decide)).trans (by decide +kernel)
theorem lz22_1_1_0 {h w L : Nat} {xs : Nat → Int32} : gL (Z22 h w L xs) 1 1 0 = none := (LZ22 _ _ _ (by decide)).trans (by decide +kernel)
theorem lz23_1_2_0 {h w L : Nat} {xs : Nat → Int32} : gL (Z23 h w L xs) 1 2 0 = none := (LZ23 _ _ _ (by decide)).trans (by decide +kernel)
theorem lz24_1_3_0 {h w L : Nat} {xs : Nat → Int32} : gL (Z24 h w L xs) 1 3 0 = none := (LZ24 _ _ _ (by decide)).trans (by decide +kernel)
theorem lz26_11_6_0 {h w L : Nat} {xs : Nat → Int32} : gL (Z26 h w L xs) 11 6 0 = none := (LZ26 _ _ _ (by decide)).trans (by decide +kernel)
theorem lz28_11_8_0 {h w L : Nat} {xs : Nat → Int32} : gL (Z28 h w L xs) 11 8 0 = none := (LZ28 _ _ _ (by decide)).trans (by decide +kernel)
theorem lz30_11_10_0 {h w L : Nat} {xs : Nat → Int32} : gL (Z30 h w L xs) 11 10 0 = none := (LZ30 _ _ _ (by decide)).trans (by decide +kernel)
theorem lz32_11_12_0 {h w L : Nat} {xs : Nat → Int32} : gL (Z32 h w L xs) 11 12 0 = none := (LZ32 _ _ _ (by decide)).trans (by decide +kernel)
theorem lz34_2_0_0 {h w L : Nat} {xs : Nat → Int32} : gL (Z34 h w L xs) 2 0 0 = none := (LZ34 _ _ _ (by decide)).trans (by decide +kernel)
theorem lz35_2_1_0 {h w L : Nat} {xs : Nat → Int32} : gL (Z35 h w L xs) 2 1 0 = none := (LZ35 _ _ _ (by decide)).trans (by decide +kernel)
theorem lz36_2_2_0 {h w L : Nat} {xs : Nat → Int32} : gL (Z36 h w L xs) 2 2 0 = none := (LZ36 _ _ _ (by decide)).trans (by decide +kernel)
theorem lz39_11_14_0 {h w L : Nat} {xs : Nat → Int32} : gL (Z39 h w L xs) 11 14 0 = none := (LZ39 _ _ _ (by decide)).trans (by decide +kernel)
theorem lz41_11_16_0 {h w L : Nat} {xs : Nat → Int32} : gL (Z41 h w L xs) 11 16 0 = none := (LZ41 _ _ _ (by decide)).trans (by decide +kernel)
theorem lz43_5_0_0 {h w L : Nat} {xs : Nat → Int32} : gL (Z43 h w L xs) 5 0 0 = none := (LZ43 _ _ _ (by decide)).trans (by decide +kernel)
theorem lz44_5_1_0 {h w L : Nat} {xs : Nat → Int32} : gL (Z44 h w L xs) 5 1 0 = none := (LZ44 _ _ _ (by decide)).trans (by decide +kernel)
theorem lz45_5_2_0 {h w L : Nat} {xs : Nat → Int32} : gL (Z45 h w L xs) 5 2 0 = none := (LZ45 _ _ _ (by decide)).trans (by decide +kernel)
theorem lz46_5_3_0 {h w L : Nat} {xs : Nat → Int32} : gL (Z46 h w L xs) 5 3 0 = none := (LZ46 _ _ _ (by decide)).trans (by decide +kernel)
theorem lz47_5_4_0 {h w L : Nat} {xs : Nat → Int32} : gL (Z47 h w L xs) 5 4 0 = none := (LZ47 _ _ _ (by decide)).trans (by decide +kernel)
theorem lz48_5_5_0 {h w L : Nat} {xs : Nat → Int32} : gL (Z48 h w L xs) 5 5 0 = none := (LZ48 _ _ _ (by decide)).trans (by decide +kernel)
theorem lz49_5_6_0 {h w L : Nat} {xs : Nat → Int32} : gL (Z49 h w L xs) 5 6 0 = none := (LZ49 _ _ _ (by decide)).trans (by decide +kernel)
theorem lz50_5_7_0 {h w L : Nat} {xs : Nat → Int32} : gL (Z50 h w L xs) 5 7 0 = none := (LZ50 _ _ _ (by decide)).trans (by decide +kernel)
theorem lz57_10_0_0 {h w L : Nat} {xs : Nat → Int32} : gL (Z57 h w L xs) 10 0 0 = none := (LZ57 _ _ _ (by decide)).trans (by decide +kernel)
theorem lz58_10_1_0 {h w L : Nat} {xs : Nat → Int32} : gL (Z58 h w L xs) 10 1 0 = none := (LZ58 _ _ _ (by decide)).trans (by decide +kernel)
theorem lz59_10_2_0 {h w L : Nat} {xs : Nat → Int32} : gL (Z59 h w L xs) 10 2 0 = none := (LZ59 _ _ _ (by decide)).trans (by decide +kernel)
theorem lz61_11_19_0 {h w L : Nat} {xs : Nat → Int32} : gL (Z61 h w L xs) 11 19 0 = none := (LZ61 _ _ _ (by decide)).trans (by decide +kernel)
theorem lz62_11_3_0 {h w L : Nat} {xs : Nat → Int32} : gL (Z62 h w L xs) 11 3 0 = some 4 := (LZ62 _ _ _ (by decide)).trans (by decide +kernel)
theorem lz64_1_1_1 {h w L : Nat} {xs : Nat → Int32} : gL (Z64 h w L xs) 1 1 1 = none := (LZ64 _ _ _ (by decide)).trans (by decide +kernel)
theorem lz65_1_2_1 {h w L : Nat} {xs : Nat → Int32} : gL (Z65 h w L xs) 1 2 1 = none := (LZ65 _ _ _ (by decide)).trans (by decide +kernel)
theorem lz66_1_3_1 {h w L : Nat} {xs : Nat → Int32} : gL (Z66 h w L xs) 1 3 1 = none := (LZ66 _ _ _ (by decide)).trans (by decide +kernel)
theorem lz67_11_3_0 {h w L : Nat} {xs : Nat → Int32} : gL (Z67 h w L xs) 11 3 0 = some 4 := (LZ67 _ _ _ (by decide)).trans (by decide +kernel)
theorem lz68_11_3_0 {h w L : Nat} {xs : Nat → Int32} : gL (Z68 h w L xs) 11 3 0 = some 4 := (LZ68 _ _ _ (by decide)).trans (by decide +kernel)
theorem lz70_1_1_2 {h w L : Nat} {xs : Nat → Int32} : gL (Z70 h w L xs) 1 1 2 = none := (LZ70 _ _ _ (by decide)).trans (by decide +kernel)
theorem lz71_1_2_2 {h w L : Nat} {xs : Nat → Int32} : gL (Z71 h w L xs) 1 2 2 = none := (LZ71 _ _ _ (by decide)).trans (by decide +kernel)
theorem lz72_1_3_2 {h w L : Nat} {xs : Nat → Int32} : gL (Z72 h w L xs) 1 3 2 = none := (LZ72 _ _ _ (by decide)).trans (by decide +kernel)
theorem lz73_11_3_0 {h w L : Nat} {xs : Nat → Int32} : gL (Z73 h w L xs) 11 3 0 = some 4 := (LZ73 _ _ _ (by decide)).trans (by decide +kernel)
theorem lz74_11_3_0 {h w L : Nat} {xs : Nat → Int32} : gL (Z74 h w L xs) 11 3 0 = some 4 := (LZ74 _ _ _ (by decide)).trans (by decide +kernel)
theorem lz76_1_1_3 {h w L : Nat} {xs : Nat → Int32} : gL (Z76 h w L xs) 1 1 3 = none := (LZ76 _ _ _ (by decide)).trans (by decide +kernel)
theorem lz77_1_2_3 {h w L : Nat} {xs : Nat → Int32} : gL (Z77 h w L xs) 1 2 3 = none := (LZ77 _ _ _ (by decide)).trans (by decide +kernel)
theorem lz78_1_3_3 {h w L : Nat} {xs : Nat → Int32} : gL (Z78 h w L xs) 1 3 3 = none := (LZ78 _ _ _ (by decide)).trans (by decide +kernel)
theorem lz79_11_3_0 {h w L : Nat} {xs : Nat → Int32} : gL (Z79 h w L xs) 11 3 0 = some 4 := (LZ79 _ _ _ (by decide)).trans (by decide +kernel)
theorem lz80_11_3_0 {h w L : Nat} {xs : Nat → Int32} : gL (Z80 h w L xs) 11 3 0 = some 4 := (LZ80 _ _ _ (by decide)).trans (by decide +kernel)
theorem lz82_1_1_4 {h w L : Nat} {xs : Nat → Int32} : gL (Z82 h w L xs) 1 1 4 = none := (LZ82 _ _ _ (by decide)).trans (by decide +kernel)
theorem lz83_1_2_4 {h w L : Nat} {xs : Nat → Int32} : gL (Z83 h w L xs) 1 2 4 = none := (LZ83 _ _ _ (by decide)).trans (by decide +kernel)
theorem lz84_1_3_4 {h w L : Nat} {xs : Nat → Int32} : gL (Z84 h w L xs) 1 3 4 = none := (LZ84 _ _ _ (by decide)).trans (by decide +kernel)
theorem lz85_11_3_0 {h w L : Nat} {xs : Nat → Int32} : gL (Z85 h w L xs) 11 3 0 = some 4 := (LZ85 _ _ _ (by decide)).trans (by decide +kernel)
theorem lz86_11_12_0 {h w L : Nat} {xs : Nat → Int32} : gL (Z86 h w L xs) 11 12 0 = some 6 := (LZ86 _ _ _ (by decide)).trans (by decide +kernel)
theorem lz90_11_12_0 {h w L : Nat} {xs : Nat → Int32} : gL (Z90 h w L xs) 11 12 0 = some 6 := (LZ90 _ _ _ (by decide)).trans (by decide +kernel)
theorem lz91_11_12_0 {h w L : Nat} {xs : Nat → Int32} : gL (Z91 h w L xs) 11 12 0 = some 6 := (LZ91 _ _ _ (by decide)).trans (by decide +kernel)
theorem lz95_11_12_0 {h w L : Nat} {xs : Nat → Int32} : gL (Z95 h w L xs) 11 12 0 = some 6 := (LZ95 _ _ _ (by decide)).trans (by decide +kernel)
theorem lz96_11_12_0 {h w L : Nat} {xs : Nat → Int32} : gL (Z96 h w L xs) 11 12 0 = some 6 := (LZ96 _ _ _ (by decide)).trans (by decide +kernel)
theorem lz100_11_12_0 {h w L : Nat} {xs : Nat → Int32} : gL (Z100 h w L xs) 11 12 0 = some 6 := (LZ100 _ _ _ (by decide)).trans (by decide +kernel)
theorem lz101_11_12_0 {h w L : Nat} {xs : Nat → Int32} : gL (Z101 h w L xs) 11 12 0 = some 6 := (LZ101 _ _ _ (by decide)).trans (by decide +kernel)
theorem lz105_11_12_0 {h w L : Nat} {xs : Nat → Int32} : gL (Z105 h w L xs) 11 12 0 = some 6 := (LZ105 _ _ _ (by decide)).trans (by decide +kernel)
theorem lz106_11_12_0 {h w L : Nat} {xs : Nat → Int32} : gL (Z106 h w L xs) 11 12 0 = some 6 := (LZ106 _ _ _ (by decide)).trans (by decide +kernel)
theorem lz110_11_12_0 {h w L : Nat} {xs : Nat → Int32} : gL (Z110 h w L xs) 11 12 0 = some 6 := (LZ110 _ _ _ (by decide)).trans (by decide +kernel)
theorem lz111_11_12_0 {h w L : Nat} {xs : Nat → Int32} : gL (Z111 h w L xs) 11 12 0 = some 6 := (LZ111 _ _ _ (by decide)).trans (by decide +kernel)
theorem lz115_11_12_0 {h w L : Nat} {xs : Nat → Int32} : gL (Z115 h w L xs) 11 12 0 = some 6 := (LZ115 _ _ _ (by decide)).trans (by decide +kernel)
theorem lz116_11_16_0 {h w L : Nat} {xs : Nat → Int32} : gL (Z116 h w L xs) 11 16 0 = some 4 := (LZ116 _ _ _ (by decide)).trans (by decide +kernel)
theorem lz119_6_2_0 {h w L : Nat} {xs : Nat → Int32} : gL (Z119 h w L xs) 6 2 0 = none := (LZ119 _ _ _ (by decide)).trans (by decide +kernel)
theorem lz120_11_16_0 {h w L : Nat} {xs : Nat → Int32} : gL (Z120 h w L xs) 11 16 0 = some 4 := (LZ120 _ _ _ (by decide)).trans (by decide +kernel)
theorem lz121_11_16_0 {h w L : Nat} {xs : Nat → Int32} : gL (Z121 h w L xs) 11 16 0 = some 4 := (LZ121 _ _ _ (by decide)).trans (by decide +kernel)
theorem lz124_6_2_1 {h w L : Nat} {xs : Nat → Int32} : gL (Z124 h w L xs) 6 2 1 = none := (LZ124 _ _ _ (by decide)).trans (by decide +kernel)
theorem lz125_11_16_0 {h w L : Nat} {xs : Nat → Int32} : gL (Z125 h w L xs) 11 16 0 = some 4 := (LZ125 _ _ _ (by decide)).trans (by decide +kernel)
theorem lz126_11_16_0 {h w L : Nat} {xs : Nat → Int32} : gL (Z126 h w L xs) 11 16 0 = some 4 := (LZ126 _ _ _ (by decide)).trans (by decide +kernel)
theorem lz129_6_2_2 {h w L : Nat} {xs : Nat → Int32} : gL (Z129 h w L xs) 6 2 2 = none := (LZ129 _ _ _ (by decide)).trans (by decide +kernel)
theorem lz130_11_16_0 {h w L : Nat} {xs : Nat → Int32} : gL (Z130 h w L xs) 11 16 0 = some 4 := (LZ130 _ _ _ (by decide)).trans (by decide +kernel)
theorem lz131_11_16_0 {h w L : Nat} {xs : Nat → Int32} : gL (Z131 h w L xs) 11 16 0 = some 4 := (LZ131 _ _ _ (by decide)).trans (by decide +kernel)
theorem lz134_6_2_3 {h w L : Nat} {xs : Nat → Int32} : gL (Z134 h w L xs) 6 2 3 = none := (LZ134 _ _ _ (by decide)).trans (by decide +kernel)
theorem lz135_11_16_0 {h w L : Nat} {xs : Nat → Int32} : gL (Z135 h w L xs) 11 16 0 = some 4 := (LZ135 _ _ _ (by decide)).trans (by decide +kernel)
theorem lz137_12_0_0 {h w L : Nat} {xs : Nat → Int32} : gL (Z137 h w L xs) 12 0 0 = none := (LZ137 _ _ _ (by decide)).trans (by decide +kernel)
theorem lz138_12_4_0 {h w L : Nat} {xs : Nat → Int32} : gL (Z138 h w L xs) 12 4 0 = none := (LZ138 _ _ _ (by decide)).trans (by decide +kernel)
theorem lz139_12_5_0 {h w L : Nat} {xs : Nat → Int32} : gL (Z139 h w L xs) 12 5 0 = none := (LZ139 _ _ _ (by decide)).trans (by decide +kernel)
theorem lz140_12_6_0 {h w L : Nat} {xs : Nat → Int32} : gL (Z140 h w L xs) 12 6 0 = none := (LZ140 _ _ _ (by decide)).trans (by decide +kernel)
theorem lz141_12_7_0 {h w L : Nat} {xs : Nat → Int32} : gL (Z141 h w L xs) 12 7 0 = none := (LZ141 _ _ _ (by decide)).trans (by decide +kernel)
theorem lz142_12_8_0 {h w L : Nat} {xs : Nat → Int32} : gL (Z142 h w L xs) 12 8 0 = none := (LZ142 _ _ _ (by decide)).trans (by decide +kernel)
theorem lz143_12_13_0 {h w L : Nat} {xs : Nat → Int32} : gL (Z143 h w L xs) 12 13 0 = none := (LZ143 _ _ _ (by decide)).trans (by decide +kernel)
theorem lz144_12_15_0 {h w L : Nat} {xs : Nat → Int32} : gL (Z144 h w L xs) 12 15 0 = none := (LZ144 _ _ _ (by decide)).trans (by decide +kernel)
theorem lz145_12_16_0 {h w L : Nat} {xs : Nat → Int32} : gL (Z145 h w L xs) 12 16 0 = none := (LZ145 _ _ _ (by decide)).trans (by decide +kernel)
theorem lz146_12_17_0 {h w L : Nat} {xs : Nat → Int32} : gL (Z146 h w L xs) 12 17 0 = none := (LZ146 _ _ _ (by decide)).trans (by decide +kernel)
theorem lz147_12_18_0 {h w L : Nat} {xs : Nat → Int32} : gL (Z147 h w L xs) 12 18 0 = none := (LZ147 _ _ _ (by decide)).trans (by decide +kernel)
theorem lz148_12_19_0 {h w L : Nat} {xs : Nat → Int32} : gL (Z148 h w L xs) 12 19 0 = none := (LZ148 _ _ _ (by decide)).trans (by decide +kernel)
theorem lz149_12_20_0 {h w L : Nat} {xs : Nat → Int32} : gL (Z149 h w L xs) 12 20 0 = none := (LZ149 _ _ _ (by decide)).trans (by decide +kernel)
theorem lz150_12_21_0 {h w L : Nat} {xs : Nat → Int32} : gL (Z150 h w L xs) 12 21 0 = none := (LZ150 _ _ _ (by decide)).trans (by decide +kernel)
theorem lz151_12_22_0 {h w L : Nat} {xs : Nat → Int32} : gL (Z151 h w L xs) 12 22 0 = none := (LZ151 _ _ _ (by decide)).trans (by decide +kernel)
theorem lz152_12_24_0 {h w L : Nat} {xs : Nat → Int32} : gL (Z152 h w L xs) 12 24 0 = none := (LZ152 _ _ _ (by decide)).trans (by decide +kernel)
theorem lz153_12_25_0 {h w L : Nat} {xs : Nat → Int32} : gL (Z153 h w L xs) 12 25 0 = none := (LZ153 _ _ _ (by decide)).trans (by decide +kernel)
theorem lz154_12_26_0 {h w L : Nat} {xs : Nat → Int32} : gL (Z154 h w L xs) 12 26 0 = none := (LZ154 _ _ _ (by decide)).trans (by decide +kernel)
theorem lz155_12_27_0 {h w L : Nat} {xs : Nat → Int32} : gL (Z155 h w L xs) 12 27 0 = none := (LZ155 _ _ _ (by decide)).trans (by decide +kernel)
theorem lz156_12_28_0 {h w L : Nat} {xs : Nat → Int32} : gL (Z156 h w L xs) 12 28 0 = none := (LZ156 _ _ _ (by decide)).trans (by decide +kernel)
theorem lz157_12_29_0 {h w L : Nat} {xs : Nat → Int32} : gL (Z157 h w L xs) 12 29 0 = none := (LZ157 _ _ _ (by decide)).trans (by decide +kernel)
theorem lz158_12_30_0 {h w L : Nat} {xs : Nat → Int32} : gL (Z158 h w L xs) 12 30 0 = none := (LZ158 _ _ _ (by decide)).trans (by decide +kernel)
theorem lz159_12_31_0 {h w L : Nat} {xs : Nat → Int32} : gL (Z159 h w L xs) 12 31 0 = none := (LZ159 _ _ _ (by decide)).trans (by decide +kernel)
theorem lz160_12_32_0 {h w L : Nat} {xs : Nat → Int32} : gL (Z160 h w L xs) 12 32 0 = none := (LZ160 _ _ _ (by decide)).trans (by decide +kernel)
theorem lz161_12_33_0 {h w L : Nat} {xs : Nat → Int32} : gL (Z161 h w L xs) 12 33 0 = none := (LZ161 _ _ _ (by decide)).trans (by decide +kernel)
theorem lz162_12_34_0 {h w L : Nat} {xs : Nat → Int32} : gL (Z162 h w L xs) 12 34 0 = none := (LZ162 _ _ _ (by decide)).trans (by decide +kernel)
theorem lz163_12_35_0 {h w L : Nat} {xs : Nat → Int32} : gL (Z163 h w L xs) 12 35 0 = none := (LZ163 _ _ _ (by decide)).trans (by decide +kernel)
theorem lz164_12_36_0 {h w L : Nat} {xs : Nat → Int32} : gL (Z164 h w L xs) 12 36 0 = none := (LZ164 _ _ _ (by decide)).trans (by decide +kernel)
theorem lz165_12_37_0 {h w L : Nat} {xs : Nat → Int32} : gL (Z165 h w L xs) 12 37 0 = none := (LZ165 _ _ _ (by decide)).trans (by decide +kernel)
theorem lz166_12_39_0 {h w L : Nat} {xs : Nat → Int32} : gL (Z166 h w L xs) 12 39 0 = none := (LZ166 _ _ _ (by decide)).trans (by decide +kernel)
theorem lz167_12_40_0 {h w L : Nat} {xs : Nat → Int32} : gL (Z167 h w L xs) 12 40 0 = none := (LZ167 _ _ _ (by decide)).trans (by decide +kernel)
theorem lz168_12_41_0 {h w L : Nat} {xs : Nat → Int32} : gL (Z168 h w L xs) 12 41 0 = none := (LZ168 _ _ _ (by decide)).trans (by decide +kernel)
theorem lz169_12_42_0 {h w L : Nat} {xs : Nat → Int32} : gL (Z169 h w L xs) 12 42 0 = none := (LZ169 _ _ _ (by decide)).trans (by decide +kernel)
theorem lz170_12_43_0 {h w L : Nat} {xs : Nat → Int32} : gL (Z170 h w L xs) 12 43 0 = none := (LZ170 _ _ _ (by decide)).trans (by decide +kernel)
theorem lz171_12_44_0 {h w L : Nat} {xs : Nat → Int32} : gL (Z171 h w L xs) 12 44 0 = none := (LZ171 _ _ _ (by decide)).trans (by decide +kernel)
theorem lz172_12_45_0 {h w L : Nat} {xs : Nat → Int32} : gL (Z172 h w L xs) 12 45 0 = none := (LZ172 _ _ _ (by decide)).trans (by decide +kernel)
theorem lz173_12_46_0 {h w L : Nat} {xs : Nat → Int32} : gL (Z173 h w L xs) 12 46 0 = none := (LZ173 _ _ _ (by decide)).trans (by decide +kernel)
theorem lz174_12_47_0 {h w L : Nat} {xs : Nat → Int32} : gL (Z174 h w L xs) 12 47 0 = none := (LZ174 _ _ _ (by decide)).trans (by decide +kernel)
theorem lz175_12_48_0 {h w L : Nat} {xs : Nat → Int32} : gL (Z175 h w L xs) 12 48 0 = none := (LZ175 _ _ _ (by decide)).trans (by decide +kernel)
theorem lz176_12_49_0 {h w L : Nat} {xs : Nat → Int32} : gL (Z176 h w L xs) 12 49 0 = none := (LZ176 _ _ _ (by decide)).trans (by decide +kernel)
theorem lz177_12_50_0 {h w L : Nat} {xs : Nat → Int32} : gL (Z177 h w L xs) 12 50 0 = none := (LZ177 _ _ _ (by decide)).trans (by decide +kernel)
theorem lz178_12_51_0 {h w L : Nat} {xs : Nat → Int32} : gL (Z178 h w L xs) 12 51 0 = none := (LZ178 _ _ _ (by decide)).trans (by decide +kernel)
theorem lz179_12_52_0 {h w L : Nat} {xs : Nat → Int32} : gL (Z179 h w L xs) 12 52 0 = none := (LZ179 _ _ _ (by decide)).trans (by decide +kernel)
theorem lz180_12_53_0 {h w L : Nat} {xs : Nat → Int32} : gL (Z180 h w L xs) 12 53 0 = none := (LZ180 _ _ _ (by decide)).trans (by decide +kernel)
theorem lz181_12_55_0 {h w L : Nat} {xs : Nat → Int32} : gL (Z181 h w L xs) 12 55 0 = none := (LZ181 _ _ _ (by decide)).trans (by decide +kernel)
theorem lz182_12_56_0 {h w L : Nat} {xs : Nat → Int32} : gL (Z182 h w L xs) 12 56 0 = none := (LZ182 _ _ _ (by decide)).trans (by decide +kernel)
theorem lz183_12_57_0 {h w L : Nat} {xs : Nat → Int32} : gL (Z183 h w L xs) 12 57 0 = none := (LZ183 _ _ _ (by decide)).trans (by decide +kernel)
theorem lz184_12_58_0 {h w L : Nat} {xs : Nat → Int32} : gL (Z184 h w L xs) 12 58 0 = none := (LZ184 _ _ _ (by decide)).trans (by decide +kernel)
theorem lz185_12_60_0 {h w L : Nat} {xs : Nat → Int32} : gL (Z185 h w L xs) 12 60 0 = none := (LZ185 _ _ _ (by decide)).trans (by decide +kernel)
theorem lz186_12_61_0 {h w L : Nat} {xs : Nat → Int32} : gL (Z186 h w L xs) 12 61 0 = none := (LZ186 _ _ _ (by decide)).trans (by decide +kernel)
theorem lz187_12_62_0 {h w L : Nat} {xs : Nat → Int32} : gL (Z187 h w L xs) 12 62 0 = none := (LZ187 _ _ _ (by decide)).trans (by decide +kernel)
theorem lz188_12_63_0 {h w L : Nat} {xs : Nat → Int32} : gL (Z188 h w L xs) 12 63 0 = none := (LZ188 _ _ _ (by decide)).trans (by decide +kernel)
theorem lz189_12_68_0 {h w L : Nat} {xs : Nat → Int32} : gL (Z189 h w L xs) 12 68 0 = none := (LZ189 _ _ _ (by decide)).trans (by decide +kernel)
theorem lz191_12_70_0 {h w L : Nat} {xs : Nat → Int32} : gL (Z191 h w L xs) 12 70 0 = none := (LZ191 _ _ _ (by decide)).trans (by decide +kernel)
theorem lz192_12_71_0 {h w L : Nat} {xs : Nat → Int32} : gL (Z192 h w L xs) 12 71 0 = none := (LZ192 _ _ _ (by decide)).trans (by decide +kernel)
theorem lz193_12_72_0 {h w L : Nat} {xs : Nat → Int32} : gL (Z193 h w L xs) 12 72 0 = none := (LZ193 _ _ _ (by decide)).trans (by decide +kernel)
theorem lz194_12_73_0 {h w L : Nat} {xs : Nat → Int32} : gL (Z194 h w L xs) 12 73 0 = none := (LZ194 _ _ _ (by decide)).trans (by decide +kernel)
theorem lz195_12_74_0 {h w L : Nat} {xs : Nat → Int32} : gL (Z195 h w L xs) 12 74 0 = none := (LZ195 _ _ _ (by decide)).trans (by decide +kernel)
theorem lz196_12_75_0 {h w L : Nat} {xs : Nat → Int32} : gL (Z196 h w L xs) 12 75 0 = none := (LZ196 _ _ _ (by decide)).trans (by decide +kernel)
theorem lz197_12_76_0 {h w L : Nat} {xs : Nat → Int32} : gL (Z197 h w L xs) 12 76 0 = none := (LZ197 _ _ _ (by decide)).trans (by decide +kernel)
theorem lz198_12_77_0 {h w L : Nat} {xs : Nat → Int32} : gL (Z198 h w L xs) 12 77 0 = none := (LZ198 _ _ _ (by decide)).trans (by decide +kernel)
theorem lz199_12_78_0 {h w L : Nat} {xs : Nat → Int32} : gL (Z199 h w L xs) 12 78 0 = none := (LZ199 _ _ _ (by decide)).trans (by decide +kernel)
theorem lz200_12_79_0 {h w L : Nat} {xs : Nat → Int32} : gL (Z200 h w L xs) 12 79 0 = none := (LZ200 _ _ _ (by decide)).trans (by decide +kernel)
theorem lz201_12_80_0 {h w L : Nat} {xs : Nat → Int32} : gL (Z201 h w L xs) 12 80 0 = none := (LZ201 _ _ _ (by decide)).trans (by decide +kernel)
theorem lz202_12_81_0 {h w L : Nat} {xs : Nat → Int32} : gL (Z202 h w L xs) 12 81 0 = none := (LZ202 _ _ _ (by decide)).trans (by decide +kernel)
theorem lz203_12_79_0 {h w L : Nat} {xs : Nat → Int32} : gL (Z203 h w L xs) 12 79 0 = some 4 := (LZ203 _ _ _ (by decide)).trans (by decide +kernel)
theorem lz204_12_79_0 {h w L : Nat} {xs : Nat → Int32} : gL (Z204 h w L xs) 12 79 0 = some 4 := (LZ204 _ _ _ (by decide)).trans (by decide +kernel)
theorem lz205_12_79_0 {h w L : Nat} {xs : Nat → Int32} : gL (Z205 h w L xs) 12 79 0 = some 4 := (LZ205 _ _ _ (by decide)).trans (by decide +kernel)
theorem lz206_12_79_0 {h w L : Nat} {xs : Nat → Int32} : gL (Z206 h w L xs) 12 79 0 = some 4 := (LZ206 _ _ _ (by decide)).trans (by decide +kernel)
theorem lz207_12_35_0 {h w L : Nat} {xs : Nat → Int32} : gL (Z207 h w L xs) 12 35 0 = some 6 := (LZ207 _ _ _ (by decide)).trans (by decide +kernel)
theorem lz208_12_35_0 {h w L : Nat} {xs : Nat → Int32} : gL (Z208 h w L xs) 12 35 0 = some 6 := (LZ208 _ _ _ (by decide)).trans (by decide +kernel)
theorem lz209_12_35_0 {h w L : Nat} {xs : Nat → Int32} : gL (Z209 h w L xs) 12 35 0 = some 6 := (LZ209 _ _ _ (by decide)).trans (by decide +kernel)
theorem lz210_12_35_0 {h w L : Nat} {xs : Nat → Int32} : gL (Z210 h w L xs) 12 35 0 = some 6 := (LZ210 _ _ _ (by decide)).trans (by decide +kernel)
theorem lz211_12_35_0 {h w L : Nat} {xs : Nat → Int32} : gL (Z211 h w L xs) 12 35 0 = some 6 := (LZ211 _ _ _ (by decide)).trans (by decide +kernel)
theorem lz212_12_35_0 {h w L : Nat} {xs : Nat → Int32} : gL (Z212 h w L xs) 12 35 0 = some 6 := (LZ212 _ _ _ (by decide)).trans (by decide +kernel)
theorem HZ0 {h w L : Nat} {xs : Nat → Int32} : gH (Z0 h w L xs) = h + 0 := rfl
theorem SZ0 {h w L : Nat} {xs : Nat → Int32} : gS (Z0 h w L xs) = 0 := rfl
theorem HZ1 {h w L : Nat} {xs : Nat → Int32} : gH (Z1 h w L xs) = h + 1 := by
  unfold Z1
  rw [HO', HZ0]
theorem SZ1 {h w L : Nat} {xs : Nat → Int32} : gS (Z1 h w L xs) = 20 := by
  unfold Z1
  rw [SO', SZ0, show nfd 11 = 20 by decide]
theorem HZ2 {h w L : Nat} {xs : Nat → Int32} : gH (Z2 h w L xs) = h + 2 := by
  unfold Z2
  rw [HO', HZ1]
theorem SZ2 {h w L : Nat} {xs : Nat → Int32} : gS (Z2 h w L xs) = 23 := by
  unfold Z2
  rw [SO', SZ1, show nfd 7 = 3 by decide]
theorem HZ3 {h w L : Nat} {xs : Nat → Int32} : gH (Z3 h w L xs) = h + 3 := by
  unfold Z3
  rw [HW', HZ2]
theorem SZ3 {h w L : Nat} {xs : Nat → Int32} : gS (Z3 h w L xs) = 143 := by
  unfold Z3
  rw [SW', SZ2]
theorem HZ4 {h w L : Nat} {xs : Nat → Int32} : gH (Z4 h w L xs) = h + 3 := by
  unfold Z4
  rw [HI]; exact HZ3
theorem SZ4 {h w L : Nat} {xs : Nat → Int32} : gS (Z4 h w L xs) = 143 := by
  unfold Z4
  rw [SI]; exact SZ3
theorem HZ5 {h w L : Nat} {xs : Nat → Int32} : gH (Z5 h w L xs) = h + 3 := by
  unfold Z5
  rw [HI]; exact HZ4
theorem SZ5 {h w L : Nat} {xs : Nat → Int32} : gS (Z5 h w L xs) = 143 := by
  unfold Z5
  rw [SI]; exact SZ4
theorem HZ6 {h w L : Nat} {xs : Nat → Int32} : gH (Z6 h w L xs) = h + 3 := by
  unfold Z6
  rw [HR]; exact HZ5
theorem SZ6 {h w L : Nat} {xs : Nat → Int32} : gS (Z6 h w L xs) = 143 := by
  unfold Z6
  rw [SR]; exact SZ5
theorem HZ7 {h w L : Nat} {xs : Nat → Int32} : gH (Z7 h w L xs) = h + 4 := by
  unfold Z7
  rw [HW', HZ6]
theorem SZ7 {h w L : Nat} {xs : Nat → Int32} : gS (Z7 h w L xs) = 167 := by
  unfold Z7
  rw [SW', SZ6]
theorem HZ8 {h w L : Nat} {xs : Nat → Int32} : gH (Z8 h w L xs) = h + 5 := by
  unfold Z8
  rw [HW', HZ7]
theorem SZ8 {h w L : Nat} {xs : Nat → Int32} : gS (Z8 h w L xs) = 171 := by
  unfold Z8
  rw [SW', SZ7]
theorem HZ9 {h w L : Nat} {xs : Nat → Int32} : gH (Z9 h w L xs) = h + 6 := by
  unfold Z9
  rw [HW', HZ8]
theorem SZ9 {h w L : Nat} {xs : Nat → Int32} : gS (Z9 h w L xs) = 175 := by
  unfold Z9
  rw [SW', SZ8]
theorem HZ10 {h w L : Nat} {xs : Nat → Int32} : gH (Z10 h w L xs) = h + 7 := by
  unfold Z10
  rw [HO', HZ9]
theorem SZ10 {h w L : Nat} {xs : Nat → Int32} : gS (Z10 h w L xs) = 184 := by
  unfold Z10
  rw [SO', SZ9, show nfd 0 = 9 by decide]
theorem HZ11 {h w L : Nat} {xs : Nat → Int32} : gH (Z11 h w L xs) = h + 7 := by
  unfold Z11
  rw [HI]; exact HZ10
theorem SZ11 {h w L : Nat} {xs : Nat → Int32} : gS (Z11 h w L xs) = 184 := by
  unfold Z11
  rw [SI]; exact SZ10
theorem HZ12 {h w L : Nat} {xs : Nat → Int32} : gH (Z12 h w L xs) = h + 7 := by
  unfold Z12
  rw [HI]; exact HZ11
theorem SZ12 {h w L : Nat} {xs : Nat → Int32} : gS (Z12 h w L xs) = 184 := by
  unfold Z12
  rw [SI]; exact SZ11
theorem HZ13 {h w L : Nat} {xs : Nat → Int32} : gH (Z13 h w L xs) = h + 8 := by
  unfold Z13
  rw [HW', HZ12]
theorem SZ13 {h w L : Nat} {xs : Nat → Int32} : gS (Z13 h w L xs) = 192 := by
  unfold Z13
  rw [SW', SZ12]
theorem HZ14 {h w L : Nat} {xs : Nat → Int32} : gH (Z14 h w L xs) = h + 9 := by
  unfold Z14
  rw [HW', HZ13]
theorem SZ14 {h w L : Nat} {xs : Nat → Int32} : gS (Z14 h w L xs) = 200 := by
  unfold Z14
  rw [SW', SZ13]
theorem HZ15 {h w L : Nat} {xs : Nat → Int32} : gH (Z15 h w L xs) = h + 10 := by
  unfold Z15
  rw [HW', HZ14]
theorem SZ15 {h w L : Nat} {xs : Nat → Int32} : gS (Z15 h w L xs) = 208 := by
  unfold Z15
  rw [SW', SZ14]
theorem HZ16 {h w L : Nat} {xs : Nat → Int32} : gH (Z16 h w L xs) = h + 11 := by
  unfold Z16
  rw [HW', HZ15]
theorem SZ16 {h w L : Nat} {xs : Nat → Int32} : gS (Z16 h w L xs) = 216 := by
  unfold Z16
  rw [SW', SZ15]
theorem HZ17 {h w L : Nat} {xs : Nat → Int32} : gH (Z17 h w L xs) = h + 12 := by
  unfold Z17
  rw [HW', HZ16]
theorem SZ17 {h w L : Nat} {xs : Nat → Int32} : gS (Z17 h w L xs) = 224 := by
  unfold Z17
  rw [SW', SZ16]
theorem HZ18 {h w L : Nat} {xs : Nat → Int32} : gH (Z18 h w L xs) = h + 13 := by
  unfold Z18
  rw [HW', HZ17]
theorem SZ18 {h w L : Nat} {xs : Nat → Int32} : gS (Z18 h w L xs) = 344 := by
  unfold Z18
  rw [SW', SZ17]
theorem HZ19 {h w L : Nat} {xs : Nat → Int32} : gH (Z19 h w L xs) = h + 13 := by
  unfold Z19
  rw [HI]; exact HZ18
theorem SZ19 {h w L : Nat} {xs : Nat → Int32} : gS (Z19 h w L xs) = 344 := by
  unfold Z19
  rw [SI]; exact SZ18
theorem HZ20 {h w L : Nat} {xs : Nat → Int32} : gH (Z20 h w L xs) = h + 13 := by
  unfold Z20
  rw [HR]; exact HZ19
theorem SZ20 {h w L : Nat} {xs : Nat → Int32} : gS (Z20 h w L xs) = 344 := by
  unfold Z20
  rw [SR]; exact SZ19
theorem HZ21 {h w L : Nat} {xs : Nat → Int32} : gH (Z21 h w L xs) = h + 14 := by
  unfold Z21
  rw [HO', HZ20]
theorem SZ21 {h w L : Nat} {xs : Nat → Int32} : gS (Z21 h w L xs) = 348 := by
  unfold Z21
  rw [SO', SZ20, show nfd 1 = 4 by decide]
theorem HZ22 {h w L : Nat} {xs : Nat → Int32} : gH (Z22 h w L xs) = h + 14 := by
  unfold Z22
  rw [HI]; exact HZ21
theorem SZ22 {h w L : Nat} {xs : Nat → Int32} : gS (Z22 h w L xs) = 348 := by
  unfold Z22
  rw [SI]; exact SZ21
theorem HZ23 {h w L : Nat} {xs : Nat → Int32} : gH (Z23 h w L xs) = h + 15 := by
  unfold Z23
  rw [HW', HZ22]
theorem SZ23 {h w L : Nat} {xs : Nat → Int32} : gS (Z23 h w L xs) = 354 := by
  unfold Z23
  rw [SW', SZ22]
theorem HZ24 {h w L : Nat} {xs : Nat → Int32} : gH (Z24 h w L xs) = h + 16 := by
  unfold Z24
  rw [HW', HZ23]
theorem SZ24 {h w L : Nat} {xs : Nat → Int32} : gS (Z24 h w L xs) = 360 := by
  unfold Z24
  rw [SW', SZ23]
theorem HZ25 {h w L : Nat} {xs : Nat → Int32} : gH (Z25 h w L xs) = h + 17 := by
  unfold Z25
  rw [HW', HZ24]
theorem SZ25 {h w L : Nat} {xs : Nat → Int32} : gS (Z25 h w L xs) = 366 := by
  unfold Z25
  rw [SW', SZ24]
theorem HZ26 {h w L : Nat} {xs : Nat → Int32} : gH (Z26 h w L xs) = h + 17 := by
  unfold Z26
  rw [HR]; exact HZ25
theorem SZ26 {h w L : Nat} {xs : Nat → Int32} : gS (Z26 h w L xs) = 366 := by
  unfold Z26
  rw [SR]; exact SZ25
theorem HZ27 {h w L : Nat} {xs : Nat → Int32} : gH (Z27 h w L xs) = h + 18 := by
  unfold Z27
  rw [HW', HZ26]
theorem SZ27 {h w L : Nat} {xs : Nat → Int32} : gS (Z27 h w L xs) = 378 := by
  unfold Z27
  rw [SW', SZ26]
theorem HZ28 {h w L : Nat} {xs : Nat → Int32} : gH (Z28 h w L xs) = h + 18 := by
  unfold Z28
  rw [HI]; exact HZ27
theorem SZ28 {h w L : Nat} {xs : Nat → Int32} : gS (Z28 h w L xs) = 378 := by
  unfold Z28
  rw [SI]; exact SZ27
theorem HZ29 {h w L : Nat} {xs : Nat → Int32} : gH (Z29 h w L xs) = h + 19 := by
  unfold Z29
  rw [HW', HZ28]
theorem SZ29 {h w L : Nat} {xs : Nat → Int32} : gS (Z29 h w L xs) = 384 := by
  unfold Z29
  rw [SW', SZ28]
theorem HZ30 {h w L : Nat} {xs : Nat → Int32} : gH (Z30 h w L xs) = h + 19 := by
  unfold Z30
  rw [HI]; exact HZ29
theorem SZ30 {h w L : Nat} {xs : Nat → Int32} : gS (Z30 h w L xs) = 384 := by
  unfold Z30
  rw [SI]; exact SZ29
theorem HZ31 {h w L : Nat} {xs : Nat → Int32} : gH (Z31 h w L xs) = h + 20 := by
  unfold Z31
  rw [HW', HZ30]
theorem SZ31 {h w L : Nat} {xs : Nat → Int32} : gS (Z31 h w L xs) = 464 := by
  unfold Z31
  rw [SW', SZ30]
theorem HZ32 {h w L : Nat} {xs : Nat → Int32} : gH (Z32 h w L xs) = h + 20 := by
  unfold Z32
  rw [HI]; exact HZ31
theorem SZ32 {h w L : Nat} {xs : Nat → Int32} : gS (Z32 h w L xs) = 464 := by
  unfold Z32
  rw [SI]; exact SZ31
theorem HZ33 {h w L : Nat} {xs : Nat → Int32} : gH (Z33 h w L xs) = h + 21 := by
  unfold Z33
  rw [HW', HZ32]
theorem SZ33 {h w L : Nat} {xs : Nat → Int32} : gS (Z33 h w L xs) = 470 := by
  unfold Z33
  rw [SW', SZ32]
theorem HZ34 {h w L : Nat} {xs : Nat → Int32} : gH (Z34 h w L xs) = h + 22 := by
  unfold Z34
  rw [HO', HZ33]
theorem SZ34 {h w L : Nat} {xs : Nat → Int32} : gS (Z34 h w L xs) = 474 := by
  unfold Z34
  rw [SO', SZ33, show nfd 2 = 4 by decide]
theorem HZ35 {h w L : Nat} {xs : Nat → Int32} : gH (Z35 h w L xs) = h + 23 := by
  unfold Z35
  rw [HW', HZ34]
theorem SZ35 {h w L : Nat} {xs : Nat → Int32} : gS (Z35 h w L xs) = 986 := by
  unfold Z35
  rw [SW', SZ34]
theorem HZ36 {h w L : Nat} {xs : Nat → Int32} : gH (Z36 h w L xs) = h + 24 := by
  unfold Z36
  rw [HW', HZ35]
theorem SZ36 {h w L : Nat} {xs : Nat → Int32} : gS (Z36 h w L xs) = 1498 := by
  unfold Z36
  rw [SW', SZ35]
theorem HZ37 {h w L : Nat} {xs : Nat → Int32} : gH (Z37 h w L xs) = h + 25 := by
  unfold Z37
  rw [HW', HZ36]
theorem SZ37 {h w L : Nat} {xs : Nat → Int32} : gS (Z37 h w L xs) = 2010 := by
  unfold Z37
  rw [SW', SZ36]
theorem HZ38 {h w L : Nat} {xs : Nat → Int32} : gH (Z38 h w L xs) = h + 25 := by
  unfold Z38
  rw [HI]; exact HZ37
theorem SZ38 {h w L : Nat} {xs : Nat → Int32} : gS (Z38 h w L xs) = 2010 := by
  unfold Z38
  rw [SI]; exact SZ37
theorem HZ39 {h w L : Nat} {xs : Nat → Int32} : gH (Z39 h w L xs) = h + 25 := by
  unfold Z39
  rw [HR]; exact HZ38
theorem SZ39 {h w L : Nat} {xs : Nat → Int32} : gS (Z39 h w L xs) = 2010 := by
  unfold Z39
  rw [SR]; exact SZ38
theorem HZ40 {h w L : Nat} {xs : Nat → Int32} : gH (Z40 h w L xs) = h + 26 := by
  unfold Z40
  rw [HW', HZ39]
theorem SZ40 {h w L : Nat} {xs : Nat → Int32} : gS (Z40 h w L xs) = 2810 := by
  unfold Z40
  rw [SW', SZ39]
theorem HZ41 {h w L : Nat} {xs : Nat → Int32} : gH (Z41 h w L xs) = h + 26 := by
  unfold Z41
  rw [HI]; exact HZ40
theorem SZ41 {h w L : Nat} {xs : Nat → Int32} : gS (Z41 h w L xs) = 2810 := by
  unfold Z41
  rw [SI]; exact SZ40
theorem HZ42 {h w L : Nat} {xs : Nat → Int32} : gH (Z42 h w L xs) = h + 27 := by
  unfold Z42
  rw [HW', HZ41]
theorem SZ42 {h w L : Nat} {xs : Nat → Int32} : gS (Z42 h w L xs) = 2814 := by
  unfold Z42
  rw [SW', SZ41]
theorem HZ43 {h w L : Nat} {xs : Nat → Int32} : gH (Z43 h w L xs) = h + 28 := by
  unfold Z43
  rw [HO', HZ42]
theorem SZ43 {h w L : Nat} {xs : Nat → Int32} : gS (Z43 h w L xs) = 2826 := by
  unfold Z43
  rw [SO', SZ42, show nfd 5 = 12 by decide]
theorem HZ44 {h w L : Nat} {xs : Nat → Int32} : gH (Z44 h w L xs) = h + 29 := by
  unfold Z44
  rw [HW', HZ43]
theorem SZ44 {h w L : Nat} {xs : Nat → Int32} : gS (Z44 h w L xs) = 2832 := by
  unfold Z44
  rw [SW', SZ43]
theorem HZ45 {h w L : Nat} {xs : Nat → Int32} : gH (Z45 h w L xs) = h + 30 := by
  unfold Z45
  rw [HW', HZ44]
theorem SZ45 {h w L : Nat} {xs : Nat → Int32} : gS (Z45 h w L xs) = 2838 := by
  unfold Z45
  rw [SW', SZ44]
theorem HZ46 {h w L : Nat} {xs : Nat → Int32} : gH (Z46 h w L xs) = h + 31 := by
  unfold Z46
  rw [HW', HZ45]
theorem SZ46 {h w L : Nat} {xs : Nat → Int32} : gS (Z46 h w L xs) = 2844 := by
  unfold Z46
  rw [SW', SZ45]
theorem HZ47 {h w L : Nat} {xs : Nat → Int32} : gH (Z47 h w L xs) = h + 32 := by
  unfold Z47
  rw [HW', HZ46]
theorem SZ47 {h w L : Nat} {xs : Nat → Int32} : gS (Z47 h w L xs) = 2850 := by
  unfold Z47
  rw [SW', SZ46]
theorem HZ48 {h w L : Nat} {xs : Nat → Int32} : gH (Z48 h w L xs) = h + 33 := by
  unfold Z48
  rw [HW', HZ47]
theorem SZ48 {h w L : Nat} {xs : Nat → Int32} : gS (Z48 h w L xs) = 2857 := by
  unfold Z48
  rw [SW', SZ47]
theorem HZ49 {h w L : Nat} {xs : Nat → Int32} : gH (Z49 h w L xs) = h + 34 := by
  unfold Z49
  rw [HW', HZ48]
theorem SZ49 {h w L : Nat} {xs : Nat → Int32} : gS (Z49 h w L xs) = 2864 := by
  unfold Z49
  rw [SW', SZ48]
theorem HZ50 {h w L : Nat} {xs : Nat → Int32} : gH (Z50 h w L xs) = h + 35 := by
  unfold Z50
  rw [HW', HZ49]
theorem SZ50 {h w L : Nat} {xs : Nat → Int32} : gS (Z50 h w L xs) = 2870 := by
  unfold Z50
  rw [SW', SZ49]
theorem HZ51 {h w L : Nat} {xs : Nat → Int32} : gH (Z51 h w L xs) = h + 36 := by
  unfold Z51
  rw [HW', HZ50]
theorem SZ51 {h w L : Nat} {xs : Nat → Int32} : gS (Z51 h w L xs) = 2876 := by
  unfold Z51
  rw [SW', SZ50]
theorem HZ52 {h w L : Nat} {xs : Nat → Int32} : gH (Z52 h w L xs) = h + 36 := by
  unfold Z52
  rw [HI]; exact HZ51
theorem SZ52 {h w L : Nat} {xs : Nat → Int32} : gS (Z52 h w L xs) = 2876 := by
  unfold Z52
  rw [SI]; exact SZ51
theorem HZ53 {h w L : Nat} {xs : Nat → Int32} : gH (Z53 h w L xs) = h + 36 := by
  unfold Z53
  rw [HI]; exact HZ52
theorem SZ53 {h w L : Nat} {xs : Nat → Int32} : gS (Z53 h w L xs) = 2876 := by
  unfold Z53
  rw [SI]; exact SZ52
theorem HZ54 {h w L : Nat} {xs : Nat → Int32} : gH (Z54 h w L xs) = h + 36 := by
  unfold Z54
  rw [HI]; exact HZ53
theorem SZ54 {h w L : Nat} {xs : Nat → Int32} : gS (Z54 h w L xs) = 2876 := by
  unfold Z54
  rw [SI]; exact SZ53
theorem HZ55 {h w L : Nat} {xs : Nat → Int32} : gH (Z55 h w L xs) = h + 36 := by
  unfold Z55
  rw [HI]; exact HZ54
theorem SZ55 {h w L : Nat} {xs : Nat → Int32} : gS (Z55 h w L xs) = 2876 := by
  unfold Z55
  rw [SI]; exact SZ54
theorem HZ56 {h w L : Nat} {xs : Nat → Int32} : gH (Z56 h w L xs) = h + 36 := by
  unfold Z56
  rw [HR]; exact HZ55
theorem SZ56 {h w L : Nat} {xs : Nat → Int32} : gS (Z56 h w L xs) = 2876 := by
  unfold Z56
  rw [SR]; exact SZ55
theorem HZ57 {h w L : Nat} {xs : Nat → Int32} : gH (Z57 h w L xs) = h + 37 := by
  unfold Z57
  rw [HO', HZ56]
theorem SZ57 {h w L : Nat} {xs : Nat → Int32} : gS (Z57 h w L xs) = 2879 := by
  unfold Z57
  rw [SO', SZ56, show nfd 10 = 3 by decide]
theorem HZ58 {h w L : Nat} {xs : Nat → Int32} : gH (Z58 h w L xs) = h + 38 := by
  unfold Z58
  rw [HW', HZ57]
theorem SZ58 {h w L : Nat} {xs : Nat → Int32} : gS (Z58 h w L xs) = 3135 := by
  unfold Z58
  rw [SW', SZ57]
theorem HZ59 {h w L : Nat} {xs : Nat → Int32} : gH (Z59 h w L xs) = h + 39 := by
  unfold Z59
  rw [HW', HZ58]
theorem SZ59 {h w L : Nat} {xs : Nat → Int32} : gS (Z59 h w L xs) = 3391 := by
  unfold Z59
  rw [SW', SZ58]
theorem HZ60 {h w L : Nat} {xs : Nat → Int32} : gH (Z60 h w L xs) = h + 40 := by
  unfold Z60
  rw [HW', HZ59]
theorem SZ60 {h w L : Nat} {xs : Nat → Int32} : gS (Z60 h w L xs) = 3399 := by
  unfold Z60
  rw [SW', SZ59]
theorem HZ61 {h w L : Nat} {xs : Nat → Int32} : gH (Z61 h w L xs) = h + 40 := by
  unfold Z61
  rw [HR]; exact HZ60
theorem SZ61 {h w L : Nat} {xs : Nat → Int32} : gS (Z61 h w L xs) = 3399 := by
  unfold Z61
  rw [SR]; exact SZ60
theorem HZ62 {h w L : Nat} {xs : Nat → Int32} : gH (Z62 h w L xs) = h + 41 := by
  unfold Z62
  rw [HW', HZ61]
theorem SZ62 {h w L : Nat} {xs : Nat → Int32} : gS (Z62 h w L xs) = 3407 := by
  unfold Z62
  rw [SW', SZ61]
theorem HZ63 {h w L : Nat} {xs : Nat → Int32} : gH (Z63 h w L xs) = h + 42 := by
  unfold Z63
  rw [HO', HZ62]
theorem SZ63 {h w L : Nat} {xs : Nat → Int32} : gS (Z63 h w L xs) = 3411 := by
  unfold Z63
  rw [SO', SZ62, show nfd 1 = 4 by decide]
theorem HZ64 {h w L : Nat} {xs : Nat → Int32} : gH (Z64 h w L xs) = h + 42 := by
  unfold Z64
  rw [HI]; exact HZ63
theorem SZ64 {h w L : Nat} {xs : Nat → Int32} : gS (Z64 h w L xs) = 3411 := by
  unfold Z64
  rw [SI]; exact SZ63
theorem HZ65 {h w L : Nat} {xs : Nat → Int32} : gH (Z65 h w L xs) = h + 43 := by
  unfold Z65
  rw [HW', HZ64]
theorem SZ65 {h w L : Nat} {xs : Nat → Int32} : gS (Z65 h w L xs) = 3417 := by
  unfold Z65
  rw [SW', SZ64]
theorem HZ66 {h w L : Nat} {xs : Nat → Int32} : gH (Z66 h w L xs) = h + 44 := by
  unfold Z66
  rw [HW', HZ65]
theorem SZ66 {h w L : Nat} {xs : Nat → Int32} : gS (Z66 h w L xs) = 3423 := by
  unfold Z66
  rw [SW', SZ65]
theorem HZ67 {h w L : Nat} {xs : Nat → Int32} : gH (Z67 h w L xs) = h + 45 := by
  unfold Z67
  rw [HW', HZ66]
theorem SZ67 {h w L : Nat} {xs : Nat → Int32} : gS (Z67 h w L xs) = 3429 := by
  unfold Z67
  rw [SW', SZ66]
theorem HZ68 {h w L : Nat} {xs : Nat → Int32} : gH (Z68 h w L xs) = h + 45 := by
  unfold Z68
  rw [HQ]; exact HZ67
theorem SZ68 {h w L : Nat} {xs : Nat → Int32} : gS (Z68 h w L xs) = 3429 := by
  unfold Z68
  rw [SQ]; exact SZ67
theorem HZ69 {h w L : Nat} {xs : Nat → Int32} : gH (Z69 h w L xs) = h + 46 := by
  unfold Z69
  rw [HO', HZ68]
theorem SZ69 {h w L : Nat} {xs : Nat → Int32} : gS (Z69 h w L xs) = 3433 := by
  unfold Z69
  rw [SO', SZ68, show nfd 1 = 4 by decide]
theorem HZ70 {h w L : Nat} {xs : Nat → Int32} : gH (Z70 h w L xs) = h + 46 := by
  unfold Z70
  rw [HI]; exact HZ69
theorem SZ70 {h w L : Nat} {xs : Nat → Int32} : gS (Z70 h w L xs) = 3433 := by
  unfold Z70
  rw [SI]; exact SZ69
theorem HZ71 {h w L : Nat} {xs : Nat → Int32} : gH (Z71 h w L xs) = h + 47 := by
  unfold Z71
  rw [HW', HZ70]
theorem SZ71 {h w L : Nat} {xs : Nat → Int32} : gS (Z71 h w L xs) = 3439 := by
  unfold Z71
  rw [SW', SZ70]
theorem HZ72 {h w L : Nat} {xs : Nat → Int32} : gH (Z72 h w L xs) = h + 48 := by
  unfold Z72
  rw [HW', HZ71]
theorem SZ72 {h w L : Nat} {xs : Nat → Int32} : gS (Z72 h w L xs) = 3445 := by
  unfold Z72
  rw [SW', SZ71]
theorem HZ73 {h w L : Nat} {xs : Nat → Int32} : gH (Z73 h w L xs) = h + 49 := by
  unfold Z73
  rw [HW', HZ72]
theorem SZ73 {h w L : Nat} {xs : Nat → Int32} : gS (Z73 h w L xs) = 3451 := by
  unfold Z73
  rw [SW', SZ72]
theorem HZ74 {h w L : Nat} {xs : Nat → Int32} : gH (Z74 h w L xs) = h + 49 := by
  unfold Z74
  rw [HQ]; exact HZ73
theorem SZ74 {h w L : Nat} {xs : Nat → Int32} : gS (Z74 h w L xs) = 3451 := by
  unfold Z74
  rw [SQ]; exact SZ73
theorem HZ75 {h w L : Nat} {xs : Nat → Int32} : gH (Z75 h w L xs) = h + 50 := by
  unfold Z75
  rw [HO', HZ74]
theorem SZ75 {h w L : Nat} {xs : Nat → Int32} : gS (Z75 h w L xs) = 3455 := by
  unfold Z75
  rw [SO', SZ74, show nfd 1 = 4 by decide]
theorem HZ76 {h w L : Nat} {xs : Nat → Int32} : gH (Z76 h w L xs) = h + 50 := by
  unfold Z76
  rw [HI]; exact HZ75
theorem SZ76 {h w L : Nat} {xs : Nat → Int32} : gS (Z76 h w L xs) = 3455 := by
  unfold Z76
  rw [SI]; exact SZ75
theorem HZ77 {h w L : Nat} {xs : Nat → Int32} : gH (Z77 h w L xs) = h + 51 := by
  unfold Z77
  rw [HW', HZ76]
theorem SZ77 {h w L : Nat} {xs : Nat → Int32} : gS (Z77 h w L xs) = 3461 := by
  unfold Z77
  rw [SW', SZ76]
theorem HZ78 {h w L : Nat} {xs : Nat → Int32} : gH (Z78 h w L xs) = h + 52 := by
  unfold Z78
  rw [HW', HZ77]
theorem SZ78 {h w L : Nat} {xs : Nat → Int32} : gS (Z78 h w L xs) = 3467 := by
  unfold Z78
  rw [SW', SZ77]
theorem HZ79 {h w L : Nat} {xs : Nat → Int32} : gH (Z79 h w L xs) = h + 53 := by
  unfold Z79
  rw [HW', HZ78]
theorem SZ79 {h w L : Nat} {xs : Nat → Int32} : gS (Z79 h w L xs) = 3473 := by
  unfold Z79
  rw [SW', SZ78]
theorem HZ80 {h w L : Nat} {xs : Nat → Int32} : gH (Z80 h w L xs) = h + 53 := by
  unfold Z80
  rw [HQ]; exact HZ79
theorem SZ80 {h w L : Nat} {xs : Nat → Int32} : gS (Z80 h w L xs) = 3473 := by
  unfold Z80
  rw [SQ]; exact SZ79
theorem HZ81 {h w L : Nat} {xs : Nat → Int32} : gH (Z81 h w L xs) = h + 54 := by
  unfold Z81
  rw [HO', HZ80]
theorem SZ81 {h w L : Nat} {xs : Nat → Int32} : gS (Z81 h w L xs) = 3477 := by
  unfold Z81
  rw [SO', SZ80, show nfd 1 = 4 by decide]
theorem HZ82 {h w L : Nat} {xs : Nat → Int32} : gH (Z82 h w L xs) = h + 54 := by
  unfold Z82
  rw [HI]; exact HZ81
theorem SZ82 {h w L : Nat} {xs : Nat → Int32} : gS (Z82 h w L xs) = 3477 := by
  unfold Z82
  rw [SI]; exact SZ81
theorem HZ83 {h w L : Nat} {xs : Nat → Int32} : gH (Z83 h w L xs) = h + 55 := by
  unfold Z83
  rw [HW', HZ82]
theorem SZ83 {h w L : Nat} {xs : Nat → Int32} : gS (Z83 h w L xs) = 3483 := by
  unfold Z83
  rw [SW', SZ82]
theorem HZ84 {h w L : Nat} {xs : Nat → Int32} : gH (Z84 h w L xs) = h + 56 := by
  unfold Z84
  rw [HW', HZ83]
theorem SZ84 {h w L : Nat} {xs : Nat → Int32} : gS (Z84 h w L xs) = 3489 := by
  unfold Z84
  rw [SW', SZ83]
theorem HZ85 {h w L : Nat} {xs : Nat → Int32} : gH (Z85 h w L xs) = h + 57 := by
  unfold Z85
  rw [HW', HZ84]
theorem SZ85 {h w L : Nat} {xs : Nat → Int32} : gS (Z85 h w L xs) = 3495 := by
  unfold Z85
  rw [SW', SZ84]
theorem HZ86 {h w L : Nat} {xs : Nat → Int32} : gH (Z86 h w L xs) = h + 57 := by
  unfold Z86
  rw [HQ]; exact HZ85
theorem SZ86 {h w L : Nat} {xs : Nat → Int32} : gS (Z86 h w L xs) = 3495 := by
  unfold Z86
  rw [SQ]; exact SZ85
theorem HZ87 {h w L : Nat} {xs : Nat → Int32} : gH (Z87 h w L xs) = h + 58 := by
  unfold Z87
  rw [HO', HZ86]
theorem SZ87 {h w L : Nat} {xs : Nat → Int32} : gS (Z87 h w L xs) = 3498 := by
  unfold Z87
  rw [SO', SZ86, show nfd 3 = 3 by decide]
theorem HZ88 {h w L : Nat} {xs : Nat → Int32} : gH (Z88 h w L xs) = h + 58 := by
  unfold Z88
  rw [HI]; exact HZ87
theorem SZ88 {h w L : Nat} {xs : Nat → Int32} : gS (Z88 h w L xs) = 3498 := by
  unfold Z88
  rw [SI]; exact SZ87
theorem HZ89 {h w L : Nat} {xs : Nat → Int32} : gH (Z89 h w L xs) = h + 58 := by
  unfold Z89
  rw [HI]; exact HZ88
theorem SZ89 {h w L : Nat} {xs : Nat → Int32} : gS (Z89 h w L xs) = 3498 := by
  unfold Z89
  rw [SI]; exact SZ88
theorem HZ90 {h w L : Nat} {xs : Nat → Int32} : gH (Z90 h w L xs) = h + 58 := by
  unfold Z90
  rw [HI]; exact HZ89
theorem SZ90 {h w L : Nat} {xs : Nat → Int32} : gS (Z90 h w L xs) = 3498 := by
  unfold Z90
  rw [SI]; exact SZ89
theorem HZ91 {h w L : Nat} {xs : Nat → Int32} : gH (Z91 h w L xs) = h + 58 := by
  unfold Z91
  rw [HQ]; exact HZ90
theorem SZ91 {h w L : Nat} {xs : Nat → Int32} : gS (Z91 h w L xs) = 3498 := by
  unfold Z91
  rw [SQ]; exact SZ90
theorem HZ92 {h w L : Nat} {xs : Nat → Int32} : gH (Z92 h w L xs) = h + 59 := by
  unfold Z92
  rw [HO', HZ91]
theorem SZ92 {h w L : Nat} {xs : Nat → Int32} : gS (Z92 h w L xs) = 3501 := by
  unfold Z92
  rw [SO', SZ91, show nfd 3 = 3 by decide]
theorem HZ93 {h w L : Nat} {xs : Nat → Int32} : gH (Z93 h w L xs) = h + 59 := by
  unfold Z93
  rw [HI]; exact HZ92
theorem SZ93 {h w L : Nat} {xs : Nat → Int32} : gS (Z93 h w L xs) = 3501 := by
  unfold Z93
  rw [SI]; exact SZ92
theorem HZ94 {h w L : Nat} {xs : Nat → Int32} : gH (Z94 h w L xs) = h + 59 := by
  unfold Z94
  rw [HI]; exact HZ93
theorem SZ94 {h w L : Nat} {xs : Nat → Int32} : gS (Z94 h w L xs) = 3501 := by
  unfold Z94
  rw [SI]; exact SZ93
theorem HZ95 {h w L : Nat} {xs : Nat → Int32} : gH (Z95 h w L xs) = h + 59 := by
  unfold Z95
  rw [HI]; exact HZ94
theorem SZ95 {h w L : Nat} {xs : Nat → Int32} : gS (Z95 h w L xs) = 3501 := by
  unfold Z95
  rw [SI]; exact SZ94
theorem HZ96 {h w L : Nat} {xs : Nat → Int32} : gH (Z96 h w L xs) = h + 59 := by
  unfold Z96
  rw [HQ]; exact HZ95
theorem SZ96 {h w L : Nat} {xs : Nat → Int32} : gS (Z96 h w L xs) = 3501 := by
  unfold Z96
  rw [SQ]; exact SZ95
theorem HZ97 {h w L : Nat} {xs : Nat → Int32} : gH (Z97 h w L xs) = h + 60 := by
  unfold Z97
  rw [HO', HZ96]
theorem SZ97 {h w L : Nat} {xs : Nat → Int32} : gS (Z97 h w L xs) = 3504 := by
  unfold Z97
  rw [SO', SZ96, show nfd 3 = 3 by decide]
theorem HZ98 {h w L : Nat} {xs : Nat → Int32} : gH (Z98 h w L xs) = h + 60 := by
  unfold Z98
  rw [HI]; exact HZ97
theorem SZ98 {h w L : Nat} {xs : Nat → Int32} : gS (Z98 h w L xs) = 3504 := by
  unfold Z98
  rw [SI]; exact SZ97
theorem HZ99 {h w L : Nat} {xs : Nat → Int32} : gH (Z99 h w L xs) = h + 60 := by
  unfold Z99
  rw [HI]; exact HZ98
theorem SZ99 {h w L : Nat} {xs : Nat → Int32} : gS (Z99 h w L xs) = 3504 := by
  unfold Z99
  rw [SI]; exact SZ98
theorem HZ100 {h w L : Nat} {xs : Nat → Int32} : gH (Z100 h w L xs) = h + 60 := by
  unfold Z100
  rw [HI]; exact HZ99
theorem SZ100 {h w L : Nat} {xs : Nat → Int32} : gS (Z100 h w L xs) = 3504 := by
  unfold Z100
  rw [SI]; exact SZ99
theorem HZ101 {h w L : Nat} {xs : Nat → Int32} : gH (Z101 h w L xs) = h + 60 := by
  unfold Z101
  rw [HQ]; exact HZ100
theorem SZ101 {h w L : Nat} {xs : Nat → Int32} : gS (Z101 h w L xs) = 3504 := by
  unfold Z101
  rw [SQ]; exact SZ100
theorem HZ102 {h w L : Nat} {xs : Nat → Int32} : gH (Z102 h w L xs) = h + 61 := by
  unfold Z102
  rw [HO', HZ101]
theorem SZ102 {h w L : Nat} {xs : Nat → Int32} : gS (Z102 h w L xs) = 3507 := by
  unfold Z102
  rw [SO', SZ101, show nfd 3 = 3 by decide]
theorem HZ103 {h w L : Nat} {xs : Nat → Int32} : gH (Z103 h w L xs) = h + 61 := by
  unfold Z103
  rw [HI]; exact HZ102
theorem SZ103 {h w L : Nat} {xs : Nat → Int32} : gS (Z103 h w L xs) = 3507 := by
  unfold Z103
  rw [SI]; exact SZ102
theorem HZ104 {h w L : Nat} {xs : Nat → Int32} : gH (Z104 h w L xs) = h + 61 := by
  unfold Z104
  rw [HI]; exact HZ103
theorem SZ104 {h w L : Nat} {xs : Nat → Int32} : gS (Z104 h w L xs) = 3507 := by
  unfold Z104
  rw [SI]; exact SZ103
theorem HZ105 {h w L : Nat} {xs : Nat → Int32} : gH (Z105 h w L xs) = h + 61 := by
  unfold Z105
  rw [HI]; exact HZ104
theorem SZ105 {h w L : Nat} {xs : Nat → Int32} : gS (Z105 h w L xs) = 3507 := by
  unfold Z105
  rw [SI]; exact SZ104
theorem HZ106 {h w L : Nat} {xs : Nat → Int32} : gH (Z106 h w L xs) = h + 61 := by
  unfold Z106
  rw [HQ]; exact HZ105
theorem SZ106 {h w L : Nat} {xs : Nat → Int32} : gS (Z106 h w L xs) = 3507 := by
  unfold Z106
  rw [SQ]; exact SZ105
theorem HZ107 {h w L : Nat} {xs : Nat → Int32} : gH (Z107 h w L xs) = h + 62 := by
  unfold Z107
  rw [HO', HZ106]
theorem SZ107 {h w L : Nat} {xs : Nat → Int32} : gS (Z107 h w L xs) = 3510 := by
  unfold Z107
  rw [SO', SZ106, show nfd 3 = 3 by decide]
theorem HZ108 {h w L : Nat} {xs : Nat → Int32} : gH (Z108 h w L xs) = h + 62 := by
  unfold Z108
  rw [HI]; exact HZ107
theorem SZ108 {h w L : Nat} {xs : Nat → Int32} : gS (Z108 h w L xs) = 3510 := by
  unfold Z108
  rw [SI]; exact SZ107
theorem HZ109 {h w L : Nat} {xs : Nat → Int32} : gH (Z109 h w L xs) = h + 62 := by
  unfold Z109
  rw [HI]; exact HZ108
theorem SZ109 {h w L : Nat} {xs : Nat → Int32} : gS (Z109 h w L xs) = 3510 := by
  unfold Z109
  rw [SI]; exact SZ108
theorem HZ110 {h w L : Nat} {xs : Nat → Int32} : gH (Z110 h w L xs) = h + 62 := by
  unfold Z110
  rw [HI]; exact HZ109
theorem SZ110 {h w L : Nat} {xs : Nat → Int32} : gS (Z110 h w L xs) = 3510 := by
  unfold Z110
  rw [SI]; exact SZ109
theorem HZ111 {h w L : Nat} {xs : Nat → Int32} : gH (Z111 h w L xs) = h + 62 := by
  unfold Z111
  rw [HQ]; exact HZ110
theorem SZ111 {h w L : Nat} {xs : Nat → Int32} : gS (Z111 h w L xs) = 3510 := by
  unfold Z111
  rw [SQ]; exact SZ110
theorem HZ112 {h w L : Nat} {xs : Nat → Int32} : gH (Z112 h w L xs) = h + 63 := by
  unfold Z112
  rw [HO', HZ111]
theorem SZ112 {h w L : Nat} {xs : Nat → Int32} : gS (Z112 h w L xs) = 3513 := by
  unfold Z112
  rw [SO', SZ111, show nfd 3 = 3 by decide]
theorem HZ113 {h w L : Nat} {xs : Nat → Int32} : gH (Z113 h w L xs) = h + 63 := by
  unfold Z113
  rw [HI]; exact HZ112
theorem SZ113 {h w L : Nat} {xs : Nat → Int32} : gS (Z113 h w L xs) = 3513 := by
  unfold Z113
  rw [SI]; exact SZ112
theorem HZ114 {h w L : Nat} {xs : Nat → Int32} : gH (Z114 h w L xs) = h + 63 := by
  unfold Z114
  rw [HI]; exact HZ113
theorem SZ114 {h w L : Nat} {xs : Nat → Int32} : gS (Z114 h w L xs) = 3513 := by
  unfold Z114
  rw [SI]; exact SZ113
theorem HZ115 {h w L : Nat} {xs : Nat → Int32} : gH (Z115 h w L xs) = h + 63 := by
  unfold Z115
  rw [HI]; exact HZ114
theorem SZ115 {h w L : Nat} {xs : Nat → Int32} : gS (Z115 h w L xs) = 3513 := by
  unfold Z115
  rw [SI]; exact SZ114
theorem HZ116 {h w L : Nat} {xs : Nat → Int32} : gH (Z116 h w L xs) = h + 63 := by
  unfold Z116
  rw [HQ]; exact HZ115
theorem SZ116 {h w L : Nat} {xs : Nat → Int32} : gS (Z116 h w L xs) = 3513 := by
  unfold Z116
  rw [SQ]; exact SZ115
theorem HZ117 {h w L : Nat} {xs : Nat → Int32} : gH (Z117 h w L xs) = h + 64 := by
  unfold Z117
  rw [HO', HZ116]
theorem SZ117 {h w L : Nat} {xs : Nat → Int32} : gS (Z117 h w L xs) = 3516 := by
  unfold Z117
  rw [SO', SZ116, show nfd 6 = 3 by decide]
theorem HZ118 {h w L : Nat} {xs : Nat → Int32} : gH (Z118 h w L xs) = h + 64 := by
  unfold Z118
  rw [HI]; exact HZ117
theorem SZ118 {h w L : Nat} {xs : Nat → Int32} : gS (Z118 h w L xs) = 3516 := by
  unfold Z118
  rw [SI]; exact SZ117
theorem HZ119 {h w L : Nat} {xs : Nat → Int32} : gH (Z119 h w L xs) = h + 64 := by
  unfold Z119
  rw [HI]; exact HZ118
theorem SZ119 {h w L : Nat} {xs : Nat → Int32} : gS (Z119 h w L xs) = 3516 := by
  unfold Z119
  rw [SI]; exact SZ118
theorem HZ120 {h w L : Nat} {xs : Nat → Int32} : gH (Z120 h w L xs) = h + 65 := by
  unfold Z120
  rw [HW', HZ119]
theorem SZ120 {h w L : Nat} {xs : Nat → Int32} : gS (Z120 h w L xs) = 3546 := by
  unfold Z120
  rw [SW', SZ119]
theorem HZ121 {h w L : Nat} {xs : Nat → Int32} : gH (Z121 h w L xs) = h + 65 := by
  unfold Z121
  rw [HQ]; exact HZ120
theorem SZ121 {h w L : Nat} {xs : Nat → Int32} : gS (Z121 h w L xs) = 3546 := by
  unfold Z121
  rw [SQ]; exact SZ120
theorem HZ122 {h w L : Nat} {xs : Nat → Int32} : gH (Z122 h w L xs) = h + 66 := by
  unfold Z122
  rw [HO', HZ121]
theorem SZ122 {h w L : Nat} {xs : Nat → Int32} : gS (Z122 h w L xs) = 3549 := by
  unfold Z122
  rw [SO', SZ121, show nfd 6 = 3 by decide]
theorem HZ123 {h w L : Nat} {xs : Nat → Int32} : gH (Z123 h w L xs) = h + 66 := by
  unfold Z123
  rw [HI]; exact HZ122
theorem SZ123 {h w L : Nat} {xs : Nat → Int32} : gS (Z123 h w L xs) = 3549 := by
  unfold Z123
  rw [SI]; exact SZ122
theorem HZ124 {h w L : Nat} {xs : Nat → Int32} : gH (Z124 h w L xs) = h + 66 := by
  unfold Z124
  rw [HI]; exact HZ123
theorem SZ124 {h w L : Nat} {xs : Nat → Int32} : gS (Z124 h w L xs) = 3549 := by
  unfold Z124
  rw [SI]; exact SZ123
theorem HZ125 {h w L : Nat} {xs : Nat → Int32} : gH (Z125 h w L xs) = h + 67 := by
  unfold Z125
  rw [HW', HZ124]
theorem SZ125 {h w L : Nat} {xs : Nat → Int32} : gS (Z125 h w L xs) = 3579 := by
  unfold Z125
  rw [SW', SZ124]
theorem HZ126 {h w L : Nat} {xs : Nat → Int32} : gH (Z126 h w L xs) = h + 67 := by
  unfold Z126
  rw [HQ]; exact HZ125
theorem SZ126 {h w L : Nat} {xs : Nat → Int32} : gS (Z126 h w L xs) = 3579 := by
  unfold Z126
  rw [SQ]; exact SZ125
theorem HZ127 {h w L : Nat} {xs : Nat → Int32} : gH (Z127 h w L xs) = h + 68 := by
  unfold Z127
  rw [HO', HZ126]
theorem SZ127 {h w L : Nat} {xs : Nat → Int32} : gS (Z127 h w L xs) = 3582 := by
  unfold Z127
  rw [SO', SZ126, show nfd 6 = 3 by decide]
theorem HZ128 {h w L : Nat} {xs : Nat → Int32} : gH (Z128 h w L xs) = h + 68 := by
  unfold Z128
  rw [HI]; exact HZ127
theorem SZ128 {h w L : Nat} {xs : Nat → Int32} : gS (Z128 h w L xs) = 3582 := by
  unfold Z128
  rw [SI]; exact SZ127
theorem HZ129 {h w L : Nat} {xs : Nat → Int32} : gH (Z129 h w L xs) = h + 68 := by
  unfold Z129
  rw [HI]; exact HZ128
theorem SZ129 {h w L : Nat} {xs : Nat → Int32} : gS (Z129 h w L xs) = 3582 := by
  unfold Z129
  rw [SI]; exact SZ128
theorem HZ130 {h w L : Nat} {xs : Nat → Int32} : gH (Z130 h w L xs) = h + 69 := by
  unfold Z130
  rw [HW', HZ129]
theorem SZ130 {h w L : Nat} {xs : Nat → Int32} : gS (Z130 h w L xs) = 3612 := by
  unfold Z130
  rw [SW', SZ129]
theorem HZ131 {h w L : Nat} {xs : Nat → Int32} : gH (Z131 h w L xs) = h + 69 := by
  unfold Z131
  rw [HQ]; exact HZ130
theorem SZ131 {h w L : Nat} {xs : Nat → Int32} : gS (Z131 h w L xs) = 3612 := by
  unfold Z131
  rw [SQ]; exact SZ130
theorem HZ132 {h w L : Nat} {xs : Nat → Int32} : gH (Z132 h w L xs) = h + 70 := by
  unfold Z132
  rw [HO', HZ131]
theorem SZ132 {h w L : Nat} {xs : Nat → Int32} : gS (Z132 h w L xs) = 3615 := by
  unfold Z132
  rw [SO', SZ131, show nfd 6 = 3 by decide]
theorem HZ133 {h w L : Nat} {xs : Nat → Int32} : gH (Z133 h w L xs) = h + 70 := by
  unfold Z133
  rw [HI]; exact HZ132
theorem SZ133 {h w L : Nat} {xs : Nat → Int32} : gS (Z133 h w L xs) = 3615 := by
  unfold Z133
  rw [SI]; exact SZ132
theorem HZ134 {h w L : Nat} {xs : Nat → Int32} : gH (Z134 h w L xs) = h + 70 := by
  unfold Z134
  rw [HI]; exact HZ133
theorem SZ134 {h w L : Nat} {xs : Nat → Int32} : gS (Z134 h w L xs) = 3615 := by
  unfold Z134
  rw [SI]; exact SZ133
theorem HZ135 {h w L : Nat} {xs : Nat → Int32} : gH (Z135 h w L xs) = h + 71 := by
  unfold Z135
  rw [HW', HZ134]
theorem SZ135 {h w L : Nat} {xs : Nat → Int32} : gS (Z135 h w L xs) = 3645 := by
  unfold Z135
  rw [SW', SZ134]
theorem HZ136 {h w L : Nat} {xs : Nat → Int32} : gH (Z136 h w L xs) = h + 71 := by
  unfold Z136
  rw [HQ]; exact HZ135
theorem SZ136 {h w L : Nat} {xs : Nat → Int32} : gS (Z136 h w L xs) = 3645 := by
  unfold Z136
  rw [SQ]; exact SZ135
theorem HZ137 {h w L : Nat} {xs : Nat → Int32} : gH (Z137 h w L xs) = h + 72 := by
  unfold Z137
  rw [HO', HZ136]
theorem SZ137 {h w L : Nat} {xs : Nat → Int32} : gS (Z137 h w L xs) = 3727 := by
  unfold Z137
  rw [SO', SZ136, show nfd 12 = 82 by decide]
theorem HZ138 {h w L : Nat} {xs : Nat → Int32} : gH (Z138 h w L xs) = h + 73 := by
  unfold Z138
  rw [HW', HZ137]
theorem SZ138 {h w L : Nat} {xs : Nat → Int32} : gS (Z138 h w L xs) = 3847 := by
  unfold Z138
  rw [SW', SZ137]
theorem HZ139 {h w L : Nat} {xs : Nat → Int32} : gH (Z139 h w L xs) = h + 74 := by
  unfold Z139
  rw [HW', HZ138]
theorem SZ139 {h w L : Nat} {xs : Nat → Int32} : gS (Z139 h w L xs) = 3855 := by
  unfold Z139
  rw [SW', SZ138]
theorem HZ140 {h w L : Nat} {xs : Nat → Int32} : gH (Z140 h w L xs) = h + 75 := by
  unfold Z140
  rw [HW', HZ139]
theorem SZ140 {h w L : Nat} {xs : Nat → Int32} : gS (Z140 h w L xs) = 3863 := by
  unfold Z140
  rw [SW', SZ139]
theorem HZ141 {h w L : Nat} {xs : Nat → Int32} : gH (Z141 h w L xs) = h + 76 := by
  unfold Z141
  rw [HW', HZ140]
theorem SZ141 {h w L : Nat} {xs : Nat → Int32} : gS (Z141 h w L xs) = 3871 := by
  unfold Z141
  rw [SW', SZ140]
theorem HZ142 {h w L : Nat} {xs : Nat → Int32} : gH (Z142 h w L xs) = h + 77 := by
  unfold Z142
  rw [HW', HZ141]
theorem SZ142 {h w L : Nat} {xs : Nat → Int32} : gS (Z142 h w L xs) = 3879 := by
  unfold Z142
  rw [SW', SZ141]
theorem HZ143 {h w L : Nat} {xs : Nat → Int32} : gH (Z143 h w L xs) = h + 78 := by
  unfold Z143
  rw [HW', HZ142]
theorem SZ143 {h w L : Nat} {xs : Nat → Int32} : gS (Z143 h w L xs) = 4007 := by
  unfold Z143
  rw [SW', SZ142]
theorem HZ144 {h w L : Nat} {xs : Nat → Int32} : gH (Z144 h w L xs) = h + 79 := by
  unfold Z144
  rw [HW', HZ143]
theorem SZ144 {h w L : Nat} {xs : Nat → Int32} : gS (Z144 h w L xs) = 4135 := by
  unfold Z144
  rw [SW', SZ143]
theorem HZ145 {h w L : Nat} {xs : Nat → Int32} : gH (Z145 h w L xs) = h + 80 := by
  unfold Z145
  rw [HW', HZ144]
theorem SZ145 {h w L : Nat} {xs : Nat → Int32} : gS (Z145 h w L xs) = 4139 := by
  unfold Z145
  rw [SW', SZ144]
theorem HZ146 {h w L : Nat} {xs : Nat → Int32} : gH (Z146 h w L xs) = h + 81 := by
  unfold Z146
  rw [HW', HZ145]
theorem SZ146 {h w L : Nat} {xs : Nat → Int32} : gS (Z146 h w L xs) = 4163 := by
  unfold Z146
  rw [SW', SZ145]
theorem HZ147 {h w L : Nat} {xs : Nat → Int32} : gH (Z147 h w L xs) = h + 82 := by
  unfold Z147
  rw [HW', HZ146]
theorem SZ147 {h w L : Nat} {xs : Nat → Int32} : gS (Z147 h w L xs) = 4187 := by
  unfold Z147
  rw [SW', SZ146]
theorem HZ148 {h w L : Nat} {xs : Nat → Int32} : gH (Z148 h w L xs) = h + 83 := by
  unfold Z148
  rw [HW', HZ147]
theorem SZ148 {h w L : Nat} {xs : Nat → Int32} : gS (Z148 h w L xs) = 4379 := by
  unfold Z148
  rw [SW', SZ147]
theorem HZ149 {h w L : Nat} {xs : Nat → Int32} : gH (Z149 h w L xs) = h + 84 := by
  unfold Z149
  rw [HW', HZ148]
theorem SZ149 {h w L : Nat} {xs : Nat → Int32} : gS (Z149 h w L xs) = 4571 := by
  unfold Z149
  rw [SW', SZ148]
theorem HZ150 {h w L : Nat} {xs : Nat → Int32} : gH (Z150 h w L xs) = h + 85 := by
  unfold Z150
  rw [HW', HZ149]
theorem SZ150 {h w L : Nat} {xs : Nat → Int32} : gS (Z150 h w L xs) = 4763 := by
  unfold Z150
  rw [SW', SZ149]
theorem HZ151 {h w L : Nat} {xs : Nat → Int32} : gH (Z151 h w L xs) = h + 86 := by
  unfold Z151
  rw [HW', HZ150]
theorem SZ151 {h w L : Nat} {xs : Nat → Int32} : gS (Z151 h w L xs) = 4955 := by
  unfold Z151
  rw [SW', SZ150]
theorem HZ152 {h w L : Nat} {xs : Nat → Int32} : gH (Z152 h w L xs) = h + 87 := by
  unfold Z152
  rw [HW', HZ151]
theorem SZ152 {h w L : Nat} {xs : Nat → Int32} : gS (Z152 h w L xs) = 8027 := by
  unfold Z152
  rw [SW', SZ151]
theorem HZ153 {h w L : Nat} {xs : Nat → Int32} : gH (Z153 h w L xs) = h + 88 := by
  unfold Z153
  rw [HW', HZ152]
theorem SZ153 {h w L : Nat} {xs : Nat → Int32} : gS (Z153 h w L xs) = 8039 := by
  unfold Z153
  rw [SW', SZ152]
theorem HZ154 {h w L : Nat} {xs : Nat → Int32} : gH (Z154 h w L xs) = h + 89 := by
  unfold Z154
  rw [HW', HZ153]
theorem SZ154 {h w L : Nat} {xs : Nat → Int32} : gS (Z154 h w L xs) = 8051 := by
  unfold Z154
  rw [SW', SZ153]
theorem HZ155 {h w L : Nat} {xs : Nat → Int32} : gH (Z155 h w L xs) = h + 90 := by
  unfold Z155
  rw [HW', HZ154]
theorem SZ155 {h w L : Nat} {xs : Nat → Int32} : gS (Z155 h w L xs) = 8063 := by
  unfold Z155
  rw [SW', SZ154]
theorem HZ156 {h w L : Nat} {xs : Nat → Int32} : gH (Z156 h w L xs) = h + 91 := by
  unfold Z156
  rw [HW', HZ155]
theorem SZ156 {h w L : Nat} {xs : Nat → Int32} : gS (Z156 h w L xs) = 8075 := by
  unfold Z156
  rw [SW', SZ155]
theorem HZ157 {h w L : Nat} {xs : Nat → Int32} : gH (Z157 h w L xs) = h + 92 := by
  unfold Z157
  rw [HW', HZ156]
theorem SZ157 {h w L : Nat} {xs : Nat → Int32} : gS (Z157 h w L xs) = 8087 := by
  unfold Z157
  rw [SW', SZ156]
theorem HZ158 {h w L : Nat} {xs : Nat → Int32} : gH (Z158 h w L xs) = h + 93 := by
  unfold Z158
  rw [HW', HZ157]
theorem SZ158 {h w L : Nat} {xs : Nat → Int32} : gS (Z158 h w L xs) = 8099 := by
  unfold Z158
  rw [SW', SZ157]
theorem HZ159 {h w L : Nat} {xs : Nat → Int32} : gH (Z159 h w L xs) = h + 94 := by
  unfold Z159
  rw [HW', HZ158]
theorem SZ159 {h w L : Nat} {xs : Nat → Int32} : gS (Z159 h w L xs) = 56099 := by
  unfold Z159
  rw [SW', SZ158]
theorem HZ160 {h w L : Nat} {xs : Nat → Int32} : gH (Z160 h w L xs) = h + 95 := by
  unfold Z160
  rw [HW', HZ159]
theorem SZ160 {h w L : Nat} {xs : Nat → Int32} : gS (Z160 h w L xs) = 56139 := by
  unfold Z160
  rw [SW', SZ159]
theorem HZ161 {h w L : Nat} {xs : Nat → Int32} : gH (Z161 h w L xs) = h + 96 := by
  unfold Z161
  rw [HW', HZ160]
theorem SZ161 {h w L : Nat} {xs : Nat → Int32} : gS (Z161 h w L xs) = 56267 := by
  unfold Z161
  rw [SW', SZ160]
theorem HZ162 {h w L : Nat} {xs : Nat → Int32} : gH (Z162 h w L xs) = h + 97 := by
  unfold Z162
  rw [HW', HZ161]
theorem SZ162 {h w L : Nat} {xs : Nat → Int32} : gS (Z162 h w L xs) = 56523 := by
  unfold Z162
  rw [SW', SZ161]
theorem HZ163 {h w L : Nat} {xs : Nat → Int32} : gH (Z163 h w L xs) = h + 98 := by
  unfold Z163
  rw [HW', HZ162]
theorem SZ163 {h w L : Nat} {xs : Nat → Int32} : gS (Z163 h w L xs) = 56779 := by
  unfold Z163
  rw [SW', SZ162]
theorem HZ164 {h w L : Nat} {xs : Nat → Int32} : gH (Z164 h w L xs) = h + 99 := by
  unfold Z164
  rw [HW', HZ163]
theorem SZ164 {h w L : Nat} {xs : Nat → Int32} : gS (Z164 h w L xs) = 56785 := by
  unfold Z164
  rw [SW', SZ163]
theorem HZ165 {h w L : Nat} {xs : Nat → Int32} : gH (Z165 h w L xs) = h + 100 := by
  unfold Z165
  rw [HW', HZ164]
theorem SZ165 {h w L : Nat} {xs : Nat → Int32} : gS (Z165 h w L xs) = 56791 := by
  unfold Z165
  rw [SW', SZ164]
theorem HZ166 {h w L : Nat} {xs : Nat → Int32} : gH (Z166 h w L xs) = h + 101 := by
  unfold Z166
  rw [HW', HZ165]
theorem SZ166 {h w L : Nat} {xs : Nat → Int32} : gS (Z166 h w L xs) = 56797 := by
  unfold Z166
  rw [SW', SZ165]
theorem HZ167 {h w L : Nat} {xs : Nat → Int32} : gH (Z167 h w L xs) = h + 102 := by
  unfold Z167
  rw [HW', HZ166]
theorem SZ167 {h w L : Nat} {xs : Nat → Int32} : gS (Z167 h w L xs) = 56877 := by
  unfold Z167
  rw [SW', SZ166]
theorem HZ168 {h w L : Nat} {xs : Nat → Int32} : gH (Z168 h w L xs) = h + 103 := by
  unfold Z168
  rw [HW', HZ167]
theorem SZ168 {h w L : Nat} {xs : Nat → Int32} : gS (Z168 h w L xs) = 56957 := by
  unfold Z168
  rw [SW', SZ167]
theorem HZ169 {h w L : Nat} {xs : Nat → Int32} : gH (Z169 h w L xs) = h + 104 := by
  unfold Z169
  rw [HW', HZ168]
theorem SZ169 {h w L : Nat} {xs : Nat → Int32} : gS (Z169 h w L xs) = 57037 := by
  unfold Z169
  rw [SW', SZ168]
theorem HZ170 {h w L : Nat} {xs : Nat → Int32} : gH (Z170 h w L xs) = h + 105 := by
  unfold Z170
  rw [HW', HZ169]
theorem SZ170 {h w L : Nat} {xs : Nat → Int32} : gS (Z170 h w L xs) = 57117 := by
  unfold Z170
  rw [SW', SZ169]
theorem HZ171 {h w L : Nat} {xs : Nat → Int32} : gH (Z171 h w L xs) = h + 106 := by
  unfold Z171
  rw [HW', HZ170]
theorem SZ171 {h w L : Nat} {xs : Nat → Int32} : gS (Z171 h w L xs) = 57197 := by
  unfold Z171
  rw [SW', SZ170]
theorem HZ172 {h w L : Nat} {xs : Nat → Int32} : gH (Z172 h w L xs) = h + 107 := by
  unfold Z172
  rw [HW', HZ171]
theorem SZ172 {h w L : Nat} {xs : Nat → Int32} : gS (Z172 h w L xs) = 57277 := by
  unfold Z172
  rw [SW', SZ171]
theorem HZ173 {h w L : Nat} {xs : Nat → Int32} : gH (Z173 h w L xs) = h + 108 := by
  unfold Z173
  rw [HW', HZ172]
theorem SZ173 {h w L : Nat} {xs : Nat → Int32} : gS (Z173 h w L xs) = 57357 := by
  unfold Z173
  rw [SW', SZ172]
theorem HZ174 {h w L : Nat} {xs : Nat → Int32} : gH (Z174 h w L xs) = h + 109 := by
  unfold Z174
  rw [HW', HZ173]
theorem SZ174 {h w L : Nat} {xs : Nat → Int32} : gS (Z174 h w L xs) = 57437 := by
  unfold Z174
  rw [SW', SZ173]
theorem HZ175 {h w L : Nat} {xs : Nat → Int32} : gH (Z175 h w L xs) = h + 110 := by
  unfold Z175
  rw [HW', HZ174]
theorem SZ175 {h w L : Nat} {xs : Nat → Int32} : gS (Z175 h w L xs) = 57517 := by
  unfold Z175
  rw [SW', SZ174]
theorem HZ176 {h w L : Nat} {xs : Nat → Int32} : gH (Z176 h w L xs) = h + 111 := by
  unfold Z176
  rw [HW', HZ175]
theorem SZ176 {h w L : Nat} {xs : Nat → Int32} : gS (Z176 h w L xs) = 57597 := by
  unfold Z176
  rw [SW', SZ175]
theorem HZ177 {h w L : Nat} {xs : Nat → Int32} : gH (Z177 h w L xs) = h + 112 := by
  unfold Z177
  rw [HW', HZ176]
theorem SZ177 {h w L : Nat} {xs : Nat → Int32} : gS (Z177 h w L xs) = 57677 := by
  unfold Z177
  rw [SW', SZ176]
theorem HZ178 {h w L : Nat} {xs : Nat → Int32} : gH (Z178 h w L xs) = h + 113 := by
  unfold Z178
  rw [HW', HZ177]
theorem SZ178 {h w L : Nat} {xs : Nat → Int32} : gS (Z178 h w L xs) = 57757 := by
  unfold Z178
  rw [SW', SZ177]
theorem HZ179 {h w L : Nat} {xs : Nat → Int32} : gH (Z179 h w L xs) = h + 114 := by
  unfold Z179
  rw [HW', HZ178]
theorem SZ179 {h w L : Nat} {xs : Nat → Int32} : gS (Z179 h w L xs) = 57837 := by
  unfold Z179
  rw [SW', SZ178]
theorem HZ180 {h w L : Nat} {xs : Nat → Int32} : gH (Z180 h w L xs) = h + 115 := by
  unfold Z180
  rw [HW', HZ179]
theorem SZ180 {h w L : Nat} {xs : Nat → Int32} : gS (Z180 h w L xs) = 57917 := by
  unfold Z180
  rw [SW', SZ179]
theorem HZ181 {h w L : Nat} {xs : Nat → Int32} : gH (Z181 h w L xs) = h + 116 := by
  unfold Z181
  rw [HW', HZ180]
theorem SZ181 {h w L : Nat} {xs : Nat → Int32} : gS (Z181 h w L xs) = 59517 := by
  unfold Z181
  rw [SW', SZ180]
theorem HZ182 {h w L : Nat} {xs : Nat → Int32} : gH (Z182 h w L xs) = h + 117 := by
  unfold Z182
  rw [HW', HZ181]
theorem SZ182 {h w L : Nat} {xs : Nat → Int32} : gS (Z182 h w L xs) = 59523 := by
  unfold Z182
  rw [SW', SZ181]
theorem HZ183 {h w L : Nat} {xs : Nat → Int32} : gH (Z183 h w L xs) = h + 118 := by
  unfold Z183
  rw [HW', HZ182]
theorem SZ183 {h w L : Nat} {xs : Nat → Int32} : gS (Z183 h w L xs) = 59529 := by
  unfold Z183
  rw [SW', SZ182]
theorem HZ184 {h w L : Nat} {xs : Nat → Int32} : gH (Z184 h w L xs) = h + 119 := by
  unfold Z184
  rw [HW', HZ183]
theorem SZ184 {h w L : Nat} {xs : Nat → Int32} : gS (Z184 h w L xs) = 59535 := by
  unfold Z184
  rw [SW', SZ183]
theorem HZ185 {h w L : Nat} {xs : Nat → Int32} : gH (Z185 h w L xs) = h + 120 := by
  unfold Z185
  rw [HW', HZ184]
theorem SZ185 {h w L : Nat} {xs : Nat → Int32} : gS (Z185 h w L xs) = 59541 := by
  unfold Z185
  rw [SW', SZ184]
theorem HZ186 {h w L : Nat} {xs : Nat → Int32} : gH (Z186 h w L xs) = h + 121 := by
  unfold Z186
  rw [HW', HZ185]
theorem SZ186 {h w L : Nat} {xs : Nat → Int32} : gS (Z186 h w L xs) = 59547 := by
  unfold Z186
  rw [SW', SZ185]
theorem HZ187 {h w L : Nat} {xs : Nat → Int32} : gH (Z187 h w L xs) = h + 122 := by
  unfold Z187
  rw [HW', HZ186]
theorem SZ187 {h w L : Nat} {xs : Nat → Int32} : gS (Z187 h w L xs) = 59553 := by
  unfold Z187
  rw [SW', SZ186]
theorem HZ188 {h w L : Nat} {xs : Nat → Int32} : gH (Z188 h w L xs) = h + 123 := by
  unfold Z188
  rw [HW', HZ187]
theorem SZ188 {h w L : Nat} {xs : Nat → Int32} : gS (Z188 h w L xs) = 59559 := by
  unfold Z188
  rw [SW', SZ187]
theorem HZ189 {h w L : Nat} {xs : Nat → Int32} : gH (Z189 h w L xs) = h + 124 := by
  unfold Z189
  rw [HW', HZ188]
theorem SZ189 {h w L : Nat} {xs : Nat → Int32} : gS (Z189 h w L xs) = 59565 := by
  unfold Z189
  rw [SW', SZ188]
theorem HZ190 {h w L : Nat} {xs : Nat → Int32} : gH (Z190 h w L xs) = h + 125 := by
  unfold Z190
  rw [HW', HZ189]
theorem SZ190 {h w L : Nat} {xs : Nat → Int32} : gS (Z190 h w L xs) = 60365 := by
  unfold Z190
  rw [SW', SZ189]
theorem HZ191 {h w L : Nat} {xs : Nat → Int32} : gH (Z191 h w L xs) = h + 125 := by
  unfold Z191
  rw [HI]; exact HZ190
theorem SZ191 {h w L : Nat} {xs : Nat → Int32} : gS (Z191 h w L xs) = 60365 := by
  unfold Z191
  rw [SI]; exact SZ190
theorem HZ192 {h w L : Nat} {xs : Nat → Int32} : gH (Z192 h w L xs) = h + 126 := by
  unfold Z192
  rw [HW', HZ191]
theorem SZ192 {h w L : Nat} {xs : Nat → Int32} : gS (Z192 h w L xs) = 60369 := by
  unfold Z192
  rw [SW', SZ191]
theorem HZ193 {h w L : Nat} {xs : Nat → Int32} : gH (Z193 h w L xs) = h + 127 := by
  unfold Z193
  rw [HW', HZ192]
theorem SZ193 {h w L : Nat} {xs : Nat → Int32} : gS (Z193 h w L xs) = 60393 := by
  unfold Z193
  rw [SW', SZ192]
theorem HZ194 {h w L : Nat} {xs : Nat → Int32} : gH (Z194 h w L xs) = h + 128 := by
  unfold Z194
  rw [HW', HZ193]
theorem SZ194 {h w L : Nat} {xs : Nat → Int32} : gS (Z194 h w L xs) = 60417 := by
  unfold Z194
  rw [SW', SZ193]
theorem HZ195 {h w L : Nat} {xs : Nat → Int32} : gH (Z195 h w L xs) = h + 129 := by
  unfold Z195
  rw [HW', HZ194]
theorem SZ195 {h w L : Nat} {xs : Nat → Int32} : gS (Z195 h w L xs) = 60421 := by
  unfold Z195
  rw [SW', SZ194]
theorem HZ196 {h w L : Nat} {xs : Nat → Int32} : gH (Z196 h w L xs) = h + 130 := by
  unfold Z196
  rw [HW', HZ195]
theorem SZ196 {h w L : Nat} {xs : Nat → Int32} : gS (Z196 h w L xs) = 60445 := by
  unfold Z196
  rw [SW', SZ195]
theorem HZ197 {h w L : Nat} {xs : Nat → Int32} : gH (Z197 h w L xs) = h + 131 := by
  unfold Z197
  rw [HW', HZ196]
theorem SZ197 {h w L : Nat} {xs : Nat → Int32} : gS (Z197 h w L xs) = 60469 := by
  unfold Z197
  rw [SW', SZ196]
theorem HZ198 {h w L : Nat} {xs : Nat → Int32} : gH (Z198 h w L xs) = h + 132 := by
  unfold Z198
  rw [HW', HZ197]
theorem SZ198 {h w L : Nat} {xs : Nat → Int32} : gS (Z198 h w L xs) = 60475 := by
  unfold Z198
  rw [SW', SZ197]
theorem HZ199 {h w L : Nat} {xs : Nat → Int32} : gH (Z199 h w L xs) = h + 133 := by
  unfold Z199
  rw [HW', HZ198]
theorem SZ199 {h w L : Nat} {xs : Nat → Int32} : gS (Z199 h w L xs) = 60481 := by
  unfold Z199
  rw [SW', SZ198]
theorem HZ200 {h w L : Nat} {xs : Nat → Int32} : gH (Z200 h w L xs) = h + 134 := by
  unfold Z200
  rw [HW', HZ199]
theorem SZ200 {h w L : Nat} {xs : Nat → Int32} : gS (Z200 h w L xs) = 60487 := by
  unfold Z200
  rw [SW', SZ199]
theorem HZ201 {h w L : Nat} {xs : Nat → Int32} : gH (Z201 h w L xs) = h + 135 := by
  unfold Z201
  rw [HW', HZ200]
theorem SZ201 {h w L : Nat} {xs : Nat → Int32} : gS (Z201 h w L xs) = 60491 := by
  unfold Z201
  rw [SW', SZ200]
theorem HZ202 {h w L : Nat} {xs : Nat → Int32} : gH (Z202 h w L xs) = h + 136 := by
  unfold Z202
  rw [HW', HZ201]
theorem SZ202 {h w L : Nat} {xs : Nat → Int32} : gS (Z202 h w L xs) = 60495 := by
  unfold Z202
  rw [SW', SZ201]
theorem HZ203 {h w L : Nat} {xs : Nat → Int32} : gH (Z203 h w L xs) = h + 137 := by
  unfold Z203
  rw [HW', HZ202]
theorem SZ203 {h w L : Nat} {xs : Nat → Int32} : gS (Z203 h w L xs) = 60615 := by
  unfold Z203
  rw [SW', SZ202]
theorem HZ204 {h w L : Nat} {xs : Nat → Int32} : gH (Z204 h w L xs) = h + 137 := by
  unfold Z204
  rw [HA]; exact HZ203
theorem SZ204 {h w L : Nat} {xs : Nat → Int32} : gS (Z204 h w L xs) = 60615 := by
  unfold Z204
  rw [SA]; exact SZ203
theorem HZ205 {h w L : Nat} {xs : Nat → Int32} : gH (Z205 h w L xs) = h + 137 := by
  unfold Z205
  rw [HA]; exact HZ204
theorem SZ205 {h w L : Nat} {xs : Nat → Int32} : gS (Z205 h w L xs) = 60615 := by
  unfold Z205
  rw [SA]; exact SZ204
theorem HZ206 {h w L : Nat} {xs : Nat → Int32} : gH (Z206 h w L xs) = h + 137 := by
  unfold Z206
  rw [HA]; exact HZ205
theorem SZ206 {h w L : Nat} {xs : Nat → Int32} : gS (Z206 h w L xs) = 60615 := by
  unfold Z206
  rw [SA]; exact SZ205
theorem HZ207 {h w L : Nat} {xs : Nat → Int32} : gH (Z207 h w L xs) = h + 137 := by
  unfold Z207
  rw [HA]; exact HZ206
theorem SZ207 {h w L : Nat} {xs : Nat → Int32} : gS (Z207 h w L xs) = 60615 := by
  unfold Z207
  rw [SA]; exact SZ206
theorem HZ208 {h w L : Nat} {xs : Nat → Int32} : gH (Z208 h w L xs) = h + 137 := by
  unfold Z208
  rw [HA]; exact HZ207
theorem SZ208 {h w L : Nat} {xs : Nat → Int32} : gS (Z208 h w L xs) = 60615 := by
  unfold Z208
  rw [SA]; exact SZ207
theorem HZ209 {h w L : Nat} {xs : Nat → Int32} : gH (Z209 h w L xs) = h + 137 := by
  unfold Z209
  rw [HA]; exact HZ208
theorem SZ209 {h w L : Nat} {xs : Nat → Int32} : gS (Z209 h w L xs) = 60615 := by
  unfold Z209
  rw [SA]; exact SZ208
theorem HZ210 {h w L : Nat} {xs : Nat → Int32} : gH (Z210 h w L xs) = h + 137 := by
  unfold Z210
  rw [HA]; exact HZ209
theorem SZ210 {h w L : Nat} {xs : Nat → Int32} : gS (Z210 h w L xs) = 60615 := by
  unfold Z210
  rw [SA]; exact SZ209
theorem HZ211 {h w L : Nat} {xs : Nat → Int32} : gH (Z211 h w L xs) = h + 137 := by
  unfold Z211
  rw [HA]; exact HZ210
theorem SZ211 {h w L : Nat} {xs : Nat → Int32} : gS (Z211 h w L xs) = 60615 := by
  unfold Z211
  rw [SA]; exact SZ210
theorem HZ212 {h w L : Nat} {xs : Nat → Int32} : gH (Z212 h w L xs) = h + 137 := by
  unfold Z212
  rw [HA]; exact HZ211
theorem SZ212 {h w L : Nat} {xs : Nat → Int32} : gS (Z212 h w L xs) = 60615 := by
  unfold Z212
  rw [SA]; exact SZ211
theorem HZ213 {h w L : Nat} {xs : Nat → Int32} : gH (Z213 h w L xs) = h + 137 := by
  unfold Z213
  rw [HA]; exact HZ212
theorem SZ213 {h w L : Nat} {xs : Nat → Int32} : gS (Z213 h w L xs) = 60615 := by
  unfold Z213
  rw [SA]; exact SZ212
theorem ii0 : (0 : Int32) + 1 = 1 := rfl
theorem ii1 : (1 : Int32) + 1 = 2 := rfl
theorem ii2 : (2 : Int32) + 1 = 3 := rfl
theorem ii3 : (3 : Int32) + 1 = 4 := rfl
theorem ii4 : (4 : Int32) + 1 = 5 := rfl
theorem ii5 : (5 : Int32) + 1 = 6 := rfl
theorem kk0 : (0 : Int32).toNatClampNeg = 0 := rfl
theorem kk1 : (1 : Int32).toNatClampNeg = 1 := rfl
theorem kk2 : (2 : Int32).toNatClampNeg = 2 := rfl
theorem kk3 : (3 : Int32).toNatClampNeg = 3 := rfl
theorem kk4 : (4 : Int32).toNatClampNeg = 4 := rfl
theorem kk5 : (5 : Int32).toNatClampNeg = 5 := rfl
