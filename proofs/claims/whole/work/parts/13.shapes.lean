/-! shapes and fixed references, by number -/
def RT : List (List (Option Nat)) := [[some 1, some 6, some 8, some 10, some 11, some 17, some 23, some 44], [some 2, none, none, some 3, none, some 4, some 5], [], [], [], [], [some 7], [], [some 9], [], [some 65, some 85, some 105], [none, none, some 12, some 16], [some 13, some 14, some 15], [], [], [], [], [none, none, some 18, some 22], [some 19, some 20, some 21], [], [], [], [], [some 11, none, none, some 24, some 43], [some 25, some 26, some 27, some 28, some 29, some 30, some 31, some 32, some 33, some 34, some 35, some 36, some 37, some 38, some 39, some 40, some 41, some 42], [], [], [], [], [], [], [], [], [], [], [], [], [], [], [], [], [], [], [], [some 11, none, none, some 45, some 64], [some 46, some 47, some 48, some 49, some 50, some 51, some 52, some 53, some 54, some 55, some 56, some 57, some 58, some 59, some 60, some 61, some 62, some 63], [], [], [], [], [], [], [], [], [], [], [], [], [], [], [], [], [], [], [], [some 66, some 67, some 68, none, none, none, some 69, some 78, some 79, some 80, some 81, some 82, some 83, some 84], [], [], [], [some 70, some 71, some 72, some 73, some 74, some 75, some 76, some 77], [], [], [], [], [], [], [], [], [], [], [], [], [], [], [], [some 86, some 87, some 88, none, none, none, some 89, some 98, some 99, some 100, some 101, some 102, some 103, some 104], [], [], [], [some 90, some 91, some 92, some 93, some 94, some 95, some 96, some 97], [], [], [], [], [], [], [], [], [], [], [], [], [], [], [], [some 106, some 107, some 108, none, none, none, some 109, some 118, some 119, some 120, some 121, some 122, some 123, some 124], [], [], [], [some 110, some 111, some 112, some 113, some 114, some 115, some 116, some 117], [], [], [], [], [], [], [], [], [], [], [], [], [], [], [], [none, some 126, some 127, none, some 128, some 129, none, none, none, none, none, some 130, some 131, some 132, some 133, none, some 134, some 135, some 136, none, some 137, some 138, some 139, none, none, some 140, some 141, some 142, some 143, none, some 144, some 145, some 146, some 147], [], [], [], [], [], [], [], [], [], [], [], [], [], [], [], [], [], [], [], [], [], [], [], []]
def RR (pr : Nat) (sv : Option Nat) : Nat → Nat → Option Nat := fun a k => if a = 0 then (if k = 8 then some pr else if k = 9 then sv else (RT.getD a []).getD k none) else (RT.getD a []).getD k none
theorem sh_0 : shp 0 = (9, 0) := rfl
theorem sh_1 : shp 1 = (7, 0) := rfl
theorem sh_2 : shp 2 = (102, 100) := rfl
theorem sh_3 : shp 3 = (100, 100) := rfl
theorem sh_4 : shp 4 = (100, 100) := rfl
theorem sh_5 : shp 5 = (100, 100) := rfl
theorem sh_6 : shp 6 = (3, 0) := rfl
theorem sh_7 : shp 7 = (100, 200) := rfl
theorem sh_8 : shp 8 = (0, 0) := rfl
theorem sh_9 : shp 9 = (100, 200) := rfl
theorem sh_10 : shp 10 = (108, 3) := rfl
theorem sh_11 : shp 11 = (1, 0) := rfl
theorem sh_12 : shp 12 = (106, 3) := rfl
theorem sh_13 : shp 13 = (100, 16) := rfl
theorem sh_14 : shp 14 = (100, 16) := rfl
theorem sh_15 : shp 15 = (100, 16) := rfl
theorem sh_16 : shp 16 = (100, 8) := rfl
theorem sh_17 : shp 17 = (1, 0) := rfl
theorem sh_18 : shp 18 = (106, 3) := rfl
theorem sh_19 : shp 19 = (100, 16) := rfl
theorem sh_20 : shp 20 = (100, 16) := rfl
theorem sh_21 : shp 21 = (100, 16) := rfl
theorem sh_22 : shp 22 = (100, 8) := rfl
theorem sh_23 : shp 23 = (4, 0) := rfl
theorem sh_24 : shp 24 = (106, 18) := rfl
theorem sh_25 : shp 25 = (100, 8) := rfl
theorem sh_26 : shp 26 = (100, 8) := rfl
theorem sh_27 : shp 27 = (100, 8) := rfl
theorem sh_28 : shp 28 = (100, 8) := rfl
theorem sh_29 : shp 29 = (100, 8) := rfl
theorem sh_30 : shp 30 = (100, 8) := rfl
theorem sh_31 : shp 31 = (100, 8) := rfl
theorem sh_32 : shp 32 = (100, 8) := rfl
theorem sh_33 : shp 33 = (100, 8) := rfl
theorem sh_34 : shp 34 = (100, 8) := rfl
theorem sh_35 : shp 35 = (100, 8) := rfl
theorem sh_36 : shp 36 = (100, 8) := rfl
theorem sh_37 : shp 37 = (100, 8) := rfl
theorem sh_38 : shp 38 = (100, 8) := rfl
theorem sh_39 : shp 39 = (100, 8) := rfl
theorem sh_40 : shp 40 = (100, 8) := rfl
theorem sh_41 : shp 41 = (100, 8) := rfl
theorem sh_42 : shp 42 = (100, 8) := rfl
theorem sh_43 : shp 43 = (100, 200) := rfl
theorem sh_44 : shp 44 = (2, 0) := rfl
theorem sh_45 : shp 45 = (107, 18) := rfl
theorem sh_46 : shp 46 = (104, 8) := rfl
theorem sh_47 : shp 47 = (104, 8) := rfl
theorem sh_48 : shp 48 = (104, 8) := rfl
theorem sh_49 : shp 49 = (104, 8) := rfl
theorem sh_50 : shp 50 = (104, 8) := rfl
theorem sh_51 : shp 51 = (104, 8) := rfl
theorem sh_52 : shp 52 = (104, 8) := rfl
theorem sh_53 : shp 53 = (104, 8) := rfl
theorem sh_54 : shp 54 = (104, 8) := rfl
theorem sh_55 : shp 55 = (104, 8) := rfl
theorem sh_56 : shp 56 = (104, 8) := rfl
theorem sh_57 : shp 57 = (104, 8) := rfl
theorem sh_58 : shp 58 = (104, 8) := rfl
theorem sh_59 : shp 59 = (104, 8) := rfl
theorem sh_60 : shp 60 = (104, 8) := rfl
theorem sh_61 : shp 61 = (104, 8) := rfl
theorem sh_62 : shp 62 = (104, 8) := rfl
theorem sh_63 : shp 63 = (104, 8) := rfl
theorem sh_64 : shp 64 = (104, 200) := rfl
theorem sh_65 : shp 65 = (6, 0) := rfl
theorem sh_66 : shp 66 = (100, 100) := rfl
theorem sh_67 : shp 67 = (100, 8) := rfl
theorem sh_68 : shp 68 = (100, 8) := rfl
theorem sh_69 : shp 69 = (106, 8) := rfl
theorem sh_70 : shp 70 = (100, 200) := rfl
theorem sh_71 : shp 71 = (100, 200) := rfl
theorem sh_72 : shp 72 = (100, 200) := rfl
theorem sh_73 : shp 73 = (100, 200) := rfl
theorem sh_74 : shp 74 = (100, 200) := rfl
theorem sh_75 : shp 75 = (100, 200) := rfl
theorem sh_76 : shp 76 = (100, 200) := rfl
theorem sh_77 : shp 77 = (100, 200) := rfl
theorem sh_78 : shp 78 = (100, 8) := rfl
theorem sh_79 : shp 79 = (100, 200) := rfl
theorem sh_80 : shp 80 = (103, 8) := rfl
theorem sh_81 : shp 81 = (100, 8) := rfl
theorem sh_82 : shp 82 = (100, 8) := rfl
theorem sh_83 : shp 83 = (100, 8) := rfl
theorem sh_84 : shp 84 = (100, 8) := rfl
theorem sh_85 : shp 85 = (6, 0) := rfl
theorem sh_86 : shp 86 = (100, 100) := rfl
theorem sh_87 : shp 87 = (100, 8) := rfl
theorem sh_88 : shp 88 = (100, 8) := rfl
theorem sh_89 : shp 89 = (106, 8) := rfl
theorem sh_90 : shp 90 = (100, 200) := rfl
theorem sh_91 : shp 91 = (100, 200) := rfl
theorem sh_92 : shp 92 = (100, 200) := rfl
theorem sh_93 : shp 93 = (100, 200) := rfl
theorem sh_94 : shp 94 = (100, 200) := rfl
theorem sh_95 : shp 95 = (100, 200) := rfl
theorem sh_96 : shp 96 = (100, 200) := rfl
theorem sh_97 : shp 97 = (100, 200) := rfl
theorem sh_98 : shp 98 = (100, 8) := rfl
theorem sh_99 : shp 99 = (100, 200) := rfl
theorem sh_100 : shp 100 = (103, 8) := rfl
theorem sh_101 : shp 101 = (100, 8) := rfl
theorem sh_102 : shp 102 = (100, 8) := rfl
theorem sh_103 : shp 103 = (100, 8) := rfl
theorem sh_104 : shp 104 = (100, 8) := rfl
theorem sh_105 : shp 105 = (6, 0) := rfl
theorem sh_106 : shp 106 = (100, 100) := rfl
theorem sh_107 : shp 107 = (100, 8) := rfl
theorem sh_108 : shp 108 = (100, 8) := rfl
theorem sh_109 : shp 109 = (106, 8) := rfl
theorem sh_110 : shp 110 = (100, 200) := rfl
theorem sh_111 : shp 111 = (100, 200) := rfl
theorem sh_112 : shp 112 = (100, 200) := rfl
theorem sh_113 : shp 113 = (100, 200) := rfl
theorem sh_114 : shp 114 = (100, 200) := rfl
theorem sh_115 : shp 115 = (100, 200) := rfl
theorem sh_116 : shp 116 = (100, 200) := rfl
theorem sh_117 : shp 117 = (100, 200) := rfl
theorem sh_118 : shp 118 = (100, 8) := rfl
theorem sh_119 : shp 119 = (100, 200) := rfl
theorem sh_120 : shp 120 = (103, 8) := rfl
theorem sh_121 : shp 121 = (100, 8) := rfl
theorem sh_122 : shp 122 = (100, 8) := rfl
theorem sh_123 : shp 123 = (100, 8) := rfl
theorem sh_124 : shp 124 = (100, 8) := rfl
theorem sh_125 : shp 125 = (10, 0) := rfl
theorem sh_126 : shp 126 = (100, 875) := rfl
theorem sh_127 : shp 127 = (100, 875) := rfl
theorem sh_128 : shp 128 = (100, 875) := rfl
theorem sh_129 : shp 129 = (100, 100) := rfl
theorem sh_130 : shp 130 = (100, 200) := rfl
theorem sh_131 : shp 131 = (100, 200) := rfl
theorem sh_132 : shp 132 = (100, 200) := rfl
theorem sh_133 : shp 133 = (100, 200) := rfl
theorem sh_134 : shp 134 = (100, 100) := rfl
theorem sh_135 : shp 135 = (100, 100) := rfl
theorem sh_136 : shp 136 = (100, 200) := rfl
theorem sh_137 : shp 137 = (100, 1600) := rfl
theorem sh_138 : shp 138 = (100, 8) := rfl
theorem sh_139 : shp 139 = (100, 200) := rfl
theorem sh_140 : shp 140 = (100, 8) := rfl
theorem sh_141 : shp 141 = (104, 8) := rfl
theorem sh_142 : shp 142 = (100, 16) := rfl
theorem sh_143 : shp 143 = (104, 16) := rfl
theorem sh_144 : shp 144 = (100, 8) := rfl
theorem sh_145 : shp 145 = (104, 8) := rfl
theorem sh_146 : shp 146 = (100, 8) := rfl
theorem sh_147 : shp 147 = (104, 8) := rfl
theorem sh_148 : shp 148 = (101, 1) := rfl
theorem sh_149 : shp 149 = (105, 1) := rfl
section
variable {pr : Nat} {sv : Option Nat}
theorem rr_0_8 : RR pr sv 0 8 = some pr := rfl
theorem rr_0_9 : RR pr sv 0 9 = sv := rfl
theorem rr_0_0 : RR pr sv 0 0 = some 1 := rfl
theorem rr_0_1 : RR pr sv 0 1 = some 6 := rfl
theorem rr_0_2 : RR pr sv 0 2 = some 8 := rfl
theorem rr_0_3 : RR pr sv 0 3 = some 10 := rfl
theorem rr_0_4 : RR pr sv 0 4 = some 11 := rfl
theorem rr_0_5 : RR pr sv 0 5 = some 17 := rfl
theorem rr_0_6 : RR pr sv 0 6 = some 23 := rfl
theorem rr_0_7 : RR pr sv 0 7 = some 44 := rfl
theorem rr_1_0 : RR pr sv 1 0 = some 2 := rfl
theorem rr_1_3 : RR pr sv 1 3 = some 3 := rfl
theorem rr_1_5 : RR pr sv 1 5 = some 4 := rfl
theorem rr_1_6 : RR pr sv 1 6 = some 5 := rfl
theorem rr_6_0 : RR pr sv 6 0 = some 7 := rfl
theorem rr_8_0 : RR pr sv 8 0 = some 9 := rfl
theorem rr_10_0 : RR pr sv 10 0 = some 65 := rfl
theorem rr_10_1 : RR pr sv 10 1 = some 85 := rfl
theorem rr_10_2 : RR pr sv 10 2 = some 105 := rfl
theorem rr_11_2 : RR pr sv 11 2 = some 12 := rfl
theorem rr_11_3 : RR pr sv 11 3 = some 16 := rfl
theorem rr_12_0 : RR pr sv 12 0 = some 13 := rfl
theorem rr_12_1 : RR pr sv 12 1 = some 14 := rfl
theorem rr_12_2 : RR pr sv 12 2 = some 15 := rfl
theorem rr_17_2 : RR pr sv 17 2 = some 18 := rfl
theorem rr_17_3 : RR pr sv 17 3 = some 22 := rfl
theorem rr_18_0 : RR pr sv 18 0 = some 19 := rfl
theorem rr_18_1 : RR pr sv 18 1 = some 20 := rfl
theorem rr_18_2 : RR pr sv 18 2 = some 21 := rfl
theorem rr_23_0 : RR pr sv 23 0 = some 11 := rfl
theorem rr_23_3 : RR pr sv 23 3 = some 24 := rfl
theorem rr_23_4 : RR pr sv 23 4 = some 43 := rfl
theorem rr_24_0 : RR pr sv 24 0 = some 25 := rfl
theorem rr_24_1 : RR pr sv 24 1 = some 26 := rfl
theorem rr_24_2 : RR pr sv 24 2 = some 27 := rfl
theorem rr_24_3 : RR pr sv 24 3 = some 28 := rfl
theorem rr_24_4 : RR pr sv 24 4 = some 29 := rfl
theorem rr_24_5 : RR pr sv 24 5 = some 30 := rfl
theorem rr_24_6 : RR pr sv 24 6 = some 31 := rfl
theorem rr_24_7 : RR pr sv 24 7 = some 32 := rfl
theorem rr_24_8 : RR pr sv 24 8 = some 33 := rfl
theorem rr_24_9 : RR pr sv 24 9 = some 34 := rfl
theorem rr_24_10 : RR pr sv 24 10 = some 35 := rfl
theorem rr_24_11 : RR pr sv 24 11 = some 36 := rfl
theorem rr_24_12 : RR pr sv 24 12 = some 37 := rfl
theorem rr_24_13 : RR pr sv 24 13 = some 38 := rfl
theorem rr_24_14 : RR pr sv 24 14 = some 39 := rfl
theorem rr_24_15 : RR pr sv 24 15 = some 40 := rfl
theorem rr_24_16 : RR pr sv 24 16 = some 41 := rfl
theorem rr_24_17 : RR pr sv 24 17 = some 42 := rfl
theorem rr_44_0 : RR pr sv 44 0 = some 11 := rfl
theorem rr_44_3 : RR pr sv 44 3 = some 45 := rfl
theorem rr_44_4 : RR pr sv 44 4 = some 64 := rfl
theorem rr_45_0 : RR pr sv 45 0 = some 46 := rfl
theorem rr_45_1 : RR pr sv 45 1 = some 47 := rfl
theorem rr_45_2 : RR pr sv 45 2 = some 48 := rfl
theorem rr_45_3 : RR pr sv 45 3 = some 49 := rfl
theorem rr_45_4 : RR pr sv 45 4 = some 50 := rfl
theorem rr_45_5 : RR pr sv 45 5 = some 51 := rfl
theorem rr_45_6 : RR pr sv 45 6 = some 52 := rfl
theorem rr_45_7 : RR pr sv 45 7 = some 53 := rfl
theorem rr_45_8 : RR pr sv 45 8 = some 54 := rfl
theorem rr_45_9 : RR pr sv 45 9 = some 55 := rfl
theorem rr_45_10 : RR pr sv 45 10 = some 56 := rfl
theorem rr_45_11 : RR pr sv 45 11 = some 57 := rfl
theorem rr_45_12 : RR pr sv 45 12 = some 58 := rfl
theorem rr_45_13 : RR pr sv 45 13 = some 59 := rfl
theorem rr_45_14 : RR pr sv 45 14 = some 60 := rfl
theorem rr_45_15 : RR pr sv 45 15 = some 61 := rfl
theorem rr_45_16 : RR pr sv 45 16 = some 62 := rfl
theorem rr_45_17 : RR pr sv 45 17 = some 63 := rfl
theorem rr_125_1 : RR pr sv 125 1 = some 126 := rfl
theorem rr_125_2 : RR pr sv 125 2 = some 127 := rfl
theorem rr_125_4 : RR pr sv 125 4 = some 128 := rfl
theorem rr_125_5 : RR pr sv 125 5 = some 129 := rfl
theorem rr_125_11 : RR pr sv 125 11 = some 130 := rfl
theorem rr_125_12 : RR pr sv 125 12 = some 131 := rfl
theorem rr_125_13 : RR pr sv 125 13 = some 132 := rfl
theorem rr_125_14 : RR pr sv 125 14 = some 133 := rfl
theorem rr_125_16 : RR pr sv 125 16 = some 134 := rfl
theorem rr_125_17 : RR pr sv 125 17 = some 135 := rfl
theorem rr_125_18 : RR pr sv 125 18 = some 136 := rfl
theorem rr_125_20 : RR pr sv 125 20 = some 137 := rfl
theorem rr_125_21 : RR pr sv 125 21 = some 138 := rfl
theorem rr_125_22 : RR pr sv 125 22 = some 139 := rfl
theorem rr_125_25 : RR pr sv 125 25 = some 140 := rfl
theorem rr_125_26 : RR pr sv 125 26 = some 141 := rfl
theorem rr_125_27 : RR pr sv 125 27 = some 142 := rfl
theorem rr_125_28 : RR pr sv 125 28 = some 143 := rfl
theorem rr_125_30 : RR pr sv 125 30 = some 144 := rfl
theorem rr_125_31 : RR pr sv 125 31 = some 145 := rfl
theorem rr_125_32 : RR pr sv 125 32 = some 146 := rfl
theorem rr_125_33 : RR pr sv 125 33 = some 147 := rfl
def isP (b : Nat) : Prop := b = 65 ∨ b = 85 ∨ b = 105
theorem rrp_0 {b : Nat} (h : isP b) : RR pr sv b 0 = some (b + 1) := by rcases h with rfl | rfl | rfl <;> rfl
theorem rrp_1 {b : Nat} (h : isP b) : RR pr sv b 1 = some (b + 2) := by rcases h with rfl | rfl | rfl <;> rfl
theorem rrp_2 {b : Nat} (h : isP b) : RR pr sv b 2 = some (b + 3) := by rcases h with rfl | rfl | rfl <;> rfl
theorem rrp_6 {b : Nat} (h : isP b) : RR pr sv b 6 = some (b + 4) := by rcases h with rfl | rfl | rfl <;> rfl
theorem rrp_7 {b : Nat} (h : isP b) : RR pr sv b 7 = some (b + 13) := by rcases h with rfl | rfl | rfl <;> rfl
theorem rrp_8 {b : Nat} (h : isP b) : RR pr sv b 8 = some (b + 14) := by rcases h with rfl | rfl | rfl <;> rfl
theorem rrp_9 {b : Nat} (h : isP b) : RR pr sv b 9 = some (b + 15) := by rcases h with rfl | rfl | rfl <;> rfl
theorem rrp_10 {b : Nat} (h : isP b) : RR pr sv b 10 = some (b + 16) := by rcases h with rfl | rfl | rfl <;> rfl
theorem rrp_11 {b : Nat} (h : isP b) : RR pr sv b 11 = some (b + 17) := by rcases h with rfl | rfl | rfl <;> rfl
theorem rrp_12 {b : Nat} (h : isP b) : RR pr sv b 12 = some (b + 18) := by rcases h with rfl | rfl | rfl <;> rfl
theorem rrp_13 {b : Nat} (h : isP b) : RR pr sv b 13 = some (b + 19) := by rcases h with rfl | rfl | rfl <;> rfl
theorem rrp_end {b v : Nat} (h : isP b) (hv : v < 8) : RR pr sv (b + 4) v = some (b + 5 + v) := by
  have : v = 0 ∨ v = 1 ∨ v = 2 ∨ v = 3 ∨ v = 4 ∨ v = 5 ∨ v = 6 ∨ v = 7 := by omega
  rcases h with rfl | rfl | rfl <;> rcases this with rfl | rfl | rfl | rfl | rfl | rfl | rfl | rfl <;> rfl
theorem shp_0 {b : Nat} (h : isP b) : shp (b) = (6, 0) := by rcases h with rfl | rfl | rfl <;> rfl
theorem shp_1 {b : Nat} (h : isP b) : shp (b + 1) = (100, 100) := by rcases h with rfl | rfl | rfl <;> rfl
theorem shp_2 {b : Nat} (h : isP b) : shp (b + 2) = (100, 8) := by rcases h with rfl | rfl | rfl <;> rfl
theorem shp_3 {b : Nat} (h : isP b) : shp (b + 3) = (100, 8) := by rcases h with rfl | rfl | rfl <;> rfl
theorem shp_4 {b : Nat} (h : isP b) : shp (b + 4) = (106, 8) := by rcases h with rfl | rfl | rfl <;> rfl
theorem shp_13 {b : Nat} (h : isP b) : shp (b + 13) = (100, 8) := by rcases h with rfl | rfl | rfl <;> rfl
theorem shp_14 {b : Nat} (h : isP b) : shp (b + 14) = (100, 200) := by rcases h with rfl | rfl | rfl <;> rfl
theorem shp_15 {b : Nat} (h : isP b) : shp (b + 15) = (103, 8) := by rcases h with rfl | rfl | rfl <;> rfl
theorem shp_16 {b : Nat} (h : isP b) : shp (b + 16) = (100, 8) := by rcases h with rfl | rfl | rfl <;> rfl
theorem shp_17 {b : Nat} (h : isP b) : shp (b + 17) = (100, 8) := by rcases h with rfl | rfl | rfl <;> rfl
theorem shp_18 {b : Nat} (h : isP b) : shp (b + 18) = (100, 8) := by rcases h with rfl | rfl | rfl <;> rfl
theorem shp_19 {b : Nat} (h : isP b) : shp (b + 19) = (100, 8) := by rcases h with rfl | rfl | rfl <;> rfl
theorem shp_end {b v : Nat} (h : isP b) (hv : v < 8) : shp (b + 5 + v) = (100, 200) := by
  have : v = 0 ∨ v = 1 ∨ v = 2 ∨ v = 3 ∨ v = 4 ∨ v = 5 ∨ v = 6 ∨ v = 7 := by omega
  rcases h with rfl | rfl | rfl <;> rcases this with rfl | rfl | rfl | rfl | rfl | rfl | rfl | rfl <;> rfl
end
