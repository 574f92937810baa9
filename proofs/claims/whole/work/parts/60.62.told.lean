/-! the shape of the class's Told; printed by a program of ours (gen_told.py) -/
theorem lk7 {h : mH} (w : Wd h) : LibK h 7 := ⟨k7 w, fun i hi => (by
    have : i = 0 ∨ i = 1 ∨ i = 2 ∨ i = 3 ∨ i = 4 ∨ i = 5 := by omega
    rcases this with rfl | rfl | rfl | rfl | rfl | rfl
    · exact ⟨r7_0 w, k8 w⟩
    · exact ⟨r7_1 w, k9 w⟩
    · exact ⟨r7_2 w, k10 w⟩
    · exact ⟨r7_3 w, k11 w⟩
    · exact ⟨r7_4 w, k12 w⟩
    · exact ⟨r7_5 w, k13 w⟩
    )⟩
theorem lk14 {h : mH} (w : Wd h) : YrK h 14 := ⟨k14 w, fun i hi => (by
    have : i = 0 ∨ i = 1 ∨ i = 2 := by omega
    rcases this with rfl | rfl | rfl
    · exact ⟨r14_0 w, k15 w⟩
    · exact ⟨r14_1 w, k16 w⟩
    · exact ⟨r14_2 w, k17 w⟩
    )⟩
theorem lk18 {h : mH} (w : Wd h) : LgK h 18 := ⟨k18 w, fun i hi => (by
    have : i = 0 ∨ i = 1 := by omega
    rcases this with rfl | rfl
    · exact ⟨r18_0 w, k19 w⟩
    · exact ⟨r18_1 w, k20 w⟩
    )⟩
theorem lk21 {h : mH} (w : Wd h) : LibK h 21 := ⟨k21 w, fun i hi => (by
    have : i = 0 ∨ i = 1 ∨ i = 2 ∨ i = 3 ∨ i = 4 ∨ i = 5 := by omega
    rcases this with rfl | rfl | rfl | rfl | rfl | rfl
    · exact ⟨r21_0 w, k22 w⟩
    · exact ⟨r21_1 w, k23 w⟩
    · exact ⟨r21_2 w, k24 w⟩
    · exact ⟨r21_3 w, k25 w⟩
    · exact ⟨r21_4 w, k26 w⟩
    · exact ⟨r21_5 w, k27 w⟩
    )⟩
theorem lk28 {h : mH} (w : Wd h) : YrK h 28 := ⟨k28 w, fun i hi => (by
    have : i = 0 ∨ i = 1 ∨ i = 2 := by omega
    rcases this with rfl | rfl | rfl
    · exact ⟨r28_0 w, k29 w⟩
    · exact ⟨r28_1 w, k30 w⟩
    · exact ⟨r28_2 w, k31 w⟩
    )⟩
theorem lk32 {h : mH} (w : Wd h) : LgK h 32 := ⟨k32 w, fun i hi => (by
    have : i = 0 ∨ i = 1 := by omega
    rcases this with rfl | rfl
    · exact ⟨r32_0 w, k33 w⟩
    · exact ⟨r32_1 w, k34 w⟩
    )⟩
theorem tk1 {h : mH} (w : Wd h) : ToldK h 1 := ⟨⟨k1 w, k2 w, k3 w⟩, ⟨r1_0 w, r1_1 w, r1_2 w, r1_3 w, r1_4 w⟩, ⟨k4 w, k5 w, k6 w⟩, fun i hi => (by
    have : i = 0 ∨ i = 1 := by omega
    rcases this with rfl | rfl
    · exact ⟨r4_0 w, r5_0 w, r6_0 w, lk7 w, lk14 w, lk18 w⟩
    · exact ⟨r4_1 w, r5_1 w, r6_1 w, lk21 w, lk28 w, lk32 w⟩)⟩
theorem lk97 {h : mH} (w : Wd h) : LibK h 97 := ⟨k97 w, fun i hi => (by
    have : i = 0 ∨ i = 1 ∨ i = 2 ∨ i = 3 ∨ i = 4 ∨ i = 5 := by omega
    rcases this with rfl | rfl | rfl | rfl | rfl | rfl
    · exact ⟨r97_0 w, k98 w⟩
    · exact ⟨r97_1 w, k99 w⟩
    · exact ⟨r97_2 w, k100 w⟩
    · exact ⟨r97_3 w, k101 w⟩
    · exact ⟨r97_4 w, k102 w⟩
    · exact ⟨r97_5 w, k103 w⟩
    )⟩
theorem lk104 {h : mH} (w : Wd h) : YrK h 104 := ⟨k104 w, fun i hi => (by
    have : i = 0 ∨ i = 1 ∨ i = 2 := by omega
    rcases this with rfl | rfl | rfl
    · exact ⟨r104_0 w, k105 w⟩
    · exact ⟨r104_1 w, k106 w⟩
    · exact ⟨r104_2 w, k107 w⟩
    )⟩
theorem lk108 {h : mH} (w : Wd h) : LgK h 108 := ⟨k108 w, fun i hi => (by
    have : i = 0 ∨ i = 1 := by omega
    rcases this with rfl | rfl
    · exact ⟨r108_0 w, k109 w⟩
    · exact ⟨r108_1 w, k110 w⟩
    )⟩
theorem lk111 {h : mH} (w : Wd h) : LibK h 111 := ⟨k111 w, fun i hi => (by
    have : i = 0 ∨ i = 1 ∨ i = 2 ∨ i = 3 ∨ i = 4 ∨ i = 5 := by omega
    rcases this with rfl | rfl | rfl | rfl | rfl | rfl
    · exact ⟨r111_0 w, k112 w⟩
    · exact ⟨r111_1 w, k113 w⟩
    · exact ⟨r111_2 w, k114 w⟩
    · exact ⟨r111_3 w, k115 w⟩
    · exact ⟨r111_4 w, k116 w⟩
    · exact ⟨r111_5 w, k117 w⟩
    )⟩
theorem lk118 {h : mH} (w : Wd h) : YrK h 118 := ⟨k118 w, fun i hi => (by
    have : i = 0 ∨ i = 1 ∨ i = 2 := by omega
    rcases this with rfl | rfl | rfl
    · exact ⟨r118_0 w, k119 w⟩
    · exact ⟨r118_1 w, k120 w⟩
    · exact ⟨r118_2 w, k121 w⟩
    )⟩
theorem lk122 {h : mH} (w : Wd h) : LgK h 122 := ⟨k122 w, fun i hi => (by
    have : i = 0 ∨ i = 1 := by omega
    rcases this with rfl | rfl
    · exact ⟨r122_0 w, k123 w⟩
    · exact ⟨r122_1 w, k124 w⟩
    )⟩
theorem tk91 {h : mH} (w : Wd h) : ToldK h 91 := ⟨⟨k91 w, k92 w, k93 w⟩, ⟨r91_0 w, r91_1 w, r91_2 w, r91_3 w, r91_4 w⟩, ⟨k94 w, k95 w, k96 w⟩, fun i hi => (by
    have : i = 0 ∨ i = 1 := by omega
    rcases this with rfl | rfl
    · exact ⟨r94_0 w, r95_0 w, r96_0 w, lk97 w, lk104 w, lk108 w⟩
    · exact ⟨r94_1 w, r95_1 w, r96_1 w, lk111 w, lk118 w, lk122 w⟩)⟩
theorem lk131 {h : mH} (w : Wd h) : LibK h 131 := ⟨k131 w, fun i hi => (by
    have : i = 0 ∨ i = 1 ∨ i = 2 ∨ i = 3 ∨ i = 4 ∨ i = 5 := by omega
    rcases this with rfl | rfl | rfl | rfl | rfl | rfl
    · exact ⟨r131_0 w, k132 w⟩
    · exact ⟨r131_1 w, k133 w⟩
    · exact ⟨r131_2 w, k134 w⟩
    · exact ⟨r131_3 w, k135 w⟩
    · exact ⟨r131_4 w, k136 w⟩
    · exact ⟨r131_5 w, k137 w⟩
    )⟩
theorem lk138 {h : mH} (w : Wd h) : YrK h 138 := ⟨k138 w, fun i hi => (by
    have : i = 0 ∨ i = 1 ∨ i = 2 := by omega
    rcases this with rfl | rfl | rfl
    · exact ⟨r138_0 w, k139 w⟩
    · exact ⟨r138_1 w, k140 w⟩
    · exact ⟨r138_2 w, k141 w⟩
    )⟩
theorem lk142 {h : mH} (w : Wd h) : LgK h 142 := ⟨k142 w, fun i hi => (by
    have : i = 0 ∨ i = 1 := by omega
    rcases this with rfl | rfl
    · exact ⟨r142_0 w, k143 w⟩
    · exact ⟨r142_1 w, k144 w⟩
    )⟩
theorem lk145 {h : mH} (w : Wd h) : LibK h 145 := ⟨k145 w, fun i hi => (by
    have : i = 0 ∨ i = 1 ∨ i = 2 ∨ i = 3 ∨ i = 4 ∨ i = 5 := by omega
    rcases this with rfl | rfl | rfl | rfl | rfl | rfl
    · exact ⟨r145_0 w, k146 w⟩
    · exact ⟨r145_1 w, k147 w⟩
    · exact ⟨r145_2 w, k148 w⟩
    · exact ⟨r145_3 w, k149 w⟩
    · exact ⟨r145_4 w, k150 w⟩
    · exact ⟨r145_5 w, k151 w⟩
    )⟩
theorem lk152 {h : mH} (w : Wd h) : YrK h 152 := ⟨k152 w, fun i hi => (by
    have : i = 0 ∨ i = 1 ∨ i = 2 := by omega
    rcases this with rfl | rfl | rfl
    · exact ⟨r152_0 w, k153 w⟩
    · exact ⟨r152_1 w, k154 w⟩
    · exact ⟨r152_2 w, k155 w⟩
    )⟩
theorem lk156 {h : mH} (w : Wd h) : LgK h 156 := ⟨k156 w, fun i hi => (by
    have : i = 0 ∨ i = 1 := by omega
    rcases this with rfl | rfl
    · exact ⟨r156_0 w, k157 w⟩
    · exact ⟨r156_1 w, k158 w⟩
    )⟩
theorem tk125 {h : mH} (w : Wd h) : ToldK h 125 := ⟨⟨k125 w, k126 w, k127 w⟩, ⟨r125_0 w, r125_1 w, r125_2 w, r125_3 w, r125_4 w⟩, ⟨k128 w, k129 w, k130 w⟩, fun i hi => (by
    have : i = 0 ∨ i = 1 := by omega
    rcases this with rfl | rfl
    · exact ⟨r128_0 w, r129_0 w, r130_0 w, lk131 w, lk138 w, lk142 w⟩
    · exact ⟨r128_1 w, r129_1 w, r130_1 w, lk145 w, lk152 w, lk156 w⟩)⟩
theorem lk165 {h : mH} (w : Wd h) : LibK h 165 := ⟨k165 w, fun i hi => (by
    have : i = 0 ∨ i = 1 ∨ i = 2 ∨ i = 3 ∨ i = 4 ∨ i = 5 := by omega
    rcases this with rfl | rfl | rfl | rfl | rfl | rfl
    · exact ⟨r165_0 w, k166 w⟩
    · exact ⟨r165_1 w, k167 w⟩
    · exact ⟨r165_2 w, k168 w⟩
    · exact ⟨r165_3 w, k169 w⟩
    · exact ⟨r165_4 w, k170 w⟩
    · exact ⟨r165_5 w, k171 w⟩
    )⟩
theorem lk172 {h : mH} (w : Wd h) : YrK h 172 := ⟨k172 w, fun i hi => (by
    have : i = 0 ∨ i = 1 ∨ i = 2 := by omega
    rcases this with rfl | rfl | rfl
    · exact ⟨r172_0 w, k173 w⟩
    · exact ⟨r172_1 w, k174 w⟩
    · exact ⟨r172_2 w, k175 w⟩
    )⟩
theorem lk176 {h : mH} (w : Wd h) : LgK h 176 := ⟨k176 w, fun i hi => (by
    have : i = 0 ∨ i = 1 := by omega
    rcases this with rfl | rfl
    · exact ⟨r176_0 w, k177 w⟩
    · exact ⟨r176_1 w, k178 w⟩
    )⟩
theorem lk179 {h : mH} (w : Wd h) : LibK h 179 := ⟨k179 w, fun i hi => (by
    have : i = 0 ∨ i = 1 ∨ i = 2 ∨ i = 3 ∨ i = 4 ∨ i = 5 := by omega
    rcases this with rfl | rfl | rfl | rfl | rfl | rfl
    · exact ⟨r179_0 w, k180 w⟩
    · exact ⟨r179_1 w, k181 w⟩
    · exact ⟨r179_2 w, k182 w⟩
    · exact ⟨r179_3 w, k183 w⟩
    · exact ⟨r179_4 w, k184 w⟩
    · exact ⟨r179_5 w, k185 w⟩
    )⟩
theorem lk186 {h : mH} (w : Wd h) : YrK h 186 := ⟨k186 w, fun i hi => (by
    have : i = 0 ∨ i = 1 ∨ i = 2 := by omega
    rcases this with rfl | rfl | rfl
    · exact ⟨r186_0 w, k187 w⟩
    · exact ⟨r186_1 w, k188 w⟩
    · exact ⟨r186_2 w, k189 w⟩
    )⟩
theorem lk190 {h : mH} (w : Wd h) : LgK h 190 := ⟨k190 w, fun i hi => (by
    have : i = 0 ∨ i = 1 := by omega
    rcases this with rfl | rfl
    · exact ⟨r190_0 w, k191 w⟩
    · exact ⟨r190_1 w, k192 w⟩
    )⟩
theorem tk159 {h : mH} (w : Wd h) : ToldK h 159 := ⟨⟨k159 w, k160 w, k161 w⟩, ⟨r159_0 w, r159_1 w, r159_2 w, r159_3 w, r159_4 w⟩, ⟨k162 w, k163 w, k164 w⟩, fun i hi => (by
    have : i = 0 ∨ i = 1 := by omega
    rcases this with rfl | rfl
    · exact ⟨r162_0 w, r163_0 w, r164_0 w, lk165 w, lk172 w, lk176 w⟩
    · exact ⟨r162_1 w, r163_1 w, r164_1 w, lk179 w, lk186 w, lk190 w⟩)⟩
theorem lk38 {h : mH} (w : Wd h) : LibK h 38 := ⟨k38 w, fun i hi => (by
    have : i = 0 ∨ i = 1 ∨ i = 2 ∨ i = 3 ∨ i = 4 ∨ i = 5 := by omega
    rcases this with rfl | rfl | rfl | rfl | rfl | rfl
    · exact ⟨r38_0 w, k39 w⟩
    · exact ⟨r38_1 w, k40 w⟩
    · exact ⟨r38_2 w, k41 w⟩
    · exact ⟨r38_3 w, k42 w⟩
    · exact ⟨r38_4 w, k43 w⟩
    · exact ⟨r38_5 w, k44 w⟩
    )⟩
theorem lk45 {h : mH} (w : Wd h) : YrK h 45 := ⟨k45 w, fun i hi => (by
    have : i = 0 ∨ i = 1 ∨ i = 2 := by omega
    rcases this with rfl | rfl | rfl
    · exact ⟨r45_0 w, k46 w⟩
    · exact ⟨r45_1 w, k47 w⟩
    · exact ⟨r45_2 w, k48 w⟩
    )⟩
theorem lk49 {h : mH} (w : Wd h) : LgK h 49 := ⟨k49 w, fun i hi => (by
    have : i = 0 ∨ i = 1 := by omega
    rcases this with rfl | rfl
    · exact ⟨r49_0 w, k50 w⟩
    · exact ⟨r49_1 w, k51 w⟩
    )⟩
