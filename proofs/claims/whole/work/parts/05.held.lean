theorem g_ok0_0 : ∀ e ∈ gk0_0, g_okI 0 e = true := by decide +kernel
theorem g_ok0 : ∀ e ∈ gk0, g_okI 0 e = true := g_ok0_0
theorem g_ok1_0 : ∀ e ∈ gk1_0, g_okI 1 e = true := by decide +kernel
theorem g_ok1 : ∀ e ∈ gk1, g_okI 1 e = true := g_ok1_0
theorem g_ok2_0 : ∀ e ∈ gk2_0, g_okI 2 e = true := by decide +kernel
theorem g_ok2 : ∀ e ∈ gk2, g_okI 2 e = true := g_ok2_0
theorem g_ok3_0 : ∀ e ∈ gk3_0, g_okI 3 e = true := by decide +kernel
theorem g_ok3 : ∀ e ∈ gk3, g_okI 3 e = true := g_ok3_0
theorem g_ok4_0 : ∀ e ∈ gk4_0, g_okI 4 e = true := by decide +kernel
theorem g_ok4 : ∀ e ∈ gk4, g_okI 4 e = true := g_ok4_0
theorem g_ok5_0 : ∀ e ∈ gk5_0, g_okI 5 e = true := by decide +kernel
theorem g_ok5_1 : ∀ e ∈ gk5_1, g_okI 5 e = true := by decide +kernel
theorem g_ok5 : ∀ e ∈ gk5, g_okI 5 e = true := List.forall_mem_append.mpr ⟨g_ok5_0, g_ok5_1⟩
theorem g_ok6_0 : ∀ e ∈ gk6_0, g_okI 6 e = true := by decide +kernel
theorem g_ok6_1 : ∀ e ∈ gk6_1, g_okI 6 e = true := by decide +kernel
theorem g_ok6 : ∀ e ∈ gk6, g_okI 6 e = true := List.forall_mem_append.mpr ⟨g_ok6_0, g_ok6_1⟩
theorem g_ok7_0 : ∀ e ∈ gk7_0, g_okI 7 e = true := by decide +kernel
theorem g_ok7_1 : ∀ e ∈ gk7_1, g_okI 7 e = true := by decide +kernel
theorem g_ok7 : ∀ e ∈ gk7, g_okI 7 e = true := List.forall_mem_append.mpr ⟨g_ok7_0, g_ok7_1⟩
theorem g_ok8_0 : ∀ e ∈ gk8_0, g_okI 8 e = true := by decide +kernel
theorem g_ok8_1 : ∀ e ∈ gk8_1, g_okI 8 e = true := by decide +kernel
theorem g_ok8 : ∀ e ∈ gk8, g_okI 8 e = true := List.forall_mem_append.mpr ⟨g_ok8_0, g_ok8_1⟩
theorem g_ok9_0 : ∀ e ∈ gk9_0, g_okI 9 e = true := by decide +kernel
theorem g_ok9 : ∀ e ∈ gk9, g_okI 9 e = true := g_ok9_0
theorem g_ok10_0 : ∀ e ∈ gk10_0, g_okI 10 e = true := by decide +kernel
theorem g_ok10 : ∀ e ∈ gk10, g_okI 10 e = true := g_ok10_0
theorem g_ok11_0 : ∀ e ∈ gk11_0, g_okI 11 e = true := by decide +kernel
theorem g_ok11 : ∀ e ∈ gk11, g_okI 11 e = true := g_ok11_0
theorem g_ok12_0 : ∀ e ∈ gk12_0, g_okI 12 e = true := by decide +kernel
theorem g_ok12 : ∀ e ∈ gk12, g_okI 12 e = true := g_ok12_0
theorem g_ok13_0 : ∀ e ∈ gk13_0, g_okI 13 e = true := by decide +kernel
theorem g_ok13 : ∀ e ∈ gk13, g_okI 13 e = true := g_ok13_0
theorem g_ok14_0 : ∀ e ∈ gk14_0, g_okI 14 e = true := by decide +kernel
theorem g_ok14 : ∀ e ∈ gk14, g_okI 14 e = true := g_ok14_0
theorem g_ok15_0 : ∀ e ∈ gk15_0, g_okI 15 e = true := by decide +kernel
theorem g_ok15 : ∀ e ∈ gk15, g_okI 15 e = true := g_ok15_0
theorem g_ok16_0 : ∀ e ∈ gk16_0, g_okI 16 e = true := by decide +kernel
theorem g_ok16_1 : ∀ e ∈ gk16_1, g_okI 16 e = true := by decide +kernel
theorem g_ok16 : ∀ e ∈ gk16, g_okI 16 e = true := List.forall_mem_append.mpr ⟨g_ok16_0, g_ok16_1⟩
theorem g_ok17_0 : ∀ e ∈ gk17_0, g_okI 17 e = true := by decide +kernel
theorem g_ok17 : ∀ e ∈ gk17, g_okI 17 e = true := g_ok17_0
theorem g_ok18_0 : ∀ e ∈ gk18_0, g_okI 18 e = true := by decide +kernel
theorem g_ok18_1 : ∀ e ∈ gk18_1, g_okI 18 e = true := by decide +kernel
theorem g_ok18 : ∀ e ∈ gk18, g_okI 18 e = true := List.forall_mem_append.mpr ⟨g_ok18_0, g_ok18_1⟩
theorem g_ok19_0 : ∀ e ∈ gk19_0, g_okI 19 e = true := by decide +kernel
theorem g_ok19 : ∀ e ∈ gk19, g_okI 19 e = true := g_ok19_0
theorem g_ok20_0 : ∀ e ∈ gk20_0, g_okI 20 e = true := by decide +kernel
theorem g_ok20 : ∀ e ∈ gk20, g_okI 20 e = true := g_ok20_0
theorem g_ok21_0 : ∀ e ∈ gk21_0, g_okI 21 e = true := by decide +kernel
theorem g_ok21 : ∀ e ∈ gk21, g_okI 21 e = true := g_ok21_0
theorem g_ok22_0 : ∀ e ∈ gk22_0, g_okI 22 e = true := by decide +kernel
theorem g_ok22 : ∀ e ∈ gk22, g_okI 22 e = true := g_ok22_0
theorem g_ok23_0 : ∀ e ∈ gk23_0, g_okI 23 e = true := by decide +kernel
theorem g_ok23 : ∀ e ∈ gk23, g_okI 23 e = true := g_ok23_0
theorem g_ok24_0 : ∀ e ∈ gk24_0, g_okI 24 e = true := by decide +kernel
theorem g_ok24 : ∀ e ∈ gk24, g_okI 24 e = true := g_ok24_0
theorem g_ok25_0 : ∀ e ∈ gk25_0, g_okI 25 e = true := by decide +kernel
theorem g_ok25 : ∀ e ∈ gk25, g_okI 25 e = true := g_ok25_0
theorem g_ok26_0 : ∀ e ∈ gk26_0, g_okI 26 e = true := by decide +kernel
theorem g_ok26_1 : ∀ e ∈ gk26_1, g_okI 26 e = true := by decide +kernel
theorem g_ok26 : ∀ e ∈ gk26, g_okI 26 e = true := List.forall_mem_append.mpr ⟨g_ok26_0, g_ok26_1⟩
theorem g_ok27_0 : ∀ e ∈ gk27_0, g_okI 27 e = true := by decide +kernel
theorem g_ok27_1 : ∀ e ∈ gk27_1, g_okI 27 e = true := by decide +kernel
theorem g_ok27 : ∀ e ∈ gk27, g_okI 27 e = true := List.forall_mem_append.mpr ⟨g_ok27_0, g_ok27_1⟩
theorem g_ok28_0 : ∀ e ∈ gk28_0, g_okI 28 e = true := by decide +kernel
theorem g_ok28 : ∀ e ∈ gk28, g_okI 28 e = true := g_ok28_0
theorem g_ok29_0 : ∀ e ∈ gk29_0, g_okI 29 e = true := by decide +kernel
theorem g_ok29 : ∀ e ∈ gk29, g_okI 29 e = true := g_ok29_0
theorem g_ok30_0 : ∀ e ∈ gk30_0, g_okI 30 e = true := by decide +kernel
theorem g_ok30_1 : ∀ e ∈ gk30_1, g_okI 30 e = true := by decide +kernel
theorem g_ok30 : ∀ e ∈ gk30, g_okI 30 e = true := List.forall_mem_append.mpr ⟨g_ok30_0, g_ok30_1⟩
theorem g_ok31_0 : ∀ e ∈ gk31_0, g_okI 31 e = true := by decide +kernel
theorem g_ok31 : ∀ e ∈ gk31, g_okI 31 e = true := g_ok31_0
theorem g_ok32_0 : ∀ e ∈ gk32_0, g_okI 32 e = true := by decide +kernel
theorem g_ok32 : ∀ e ∈ gk32, g_okI 32 e = true := g_ok32_0
theorem g_ok33_0 : ∀ e ∈ gk33_0, g_okI 33 e = true := by decide +kernel
theorem g_ok33_1 : ∀ e ∈ gk33_1, g_okI 33 e = true := by decide +kernel
theorem g_ok33 : ∀ e ∈ gk33, g_okI 33 e = true := List.forall_mem_append.mpr ⟨g_ok33_0, g_ok33_1⟩
theorem g_ok34_0 : ∀ e ∈ gk34_0, g_okI 34 e = true := by decide +kernel
theorem g_ok34 : ∀ e ∈ gk34, g_okI 34 e = true := g_ok34_0
theorem g_ok35_0 : ∀ e ∈ gk35_0, g_okI 35 e = true := by decide +kernel
theorem g_ok35 : ∀ e ∈ gk35, g_okI 35 e = true := g_ok35_0
theorem g_ok36_0 : ∀ e ∈ gk36_0, g_okI 36 e = true := by decide +kernel
theorem g_ok36 : ∀ e ∈ gk36, g_okI 36 e = true := g_ok36_0
theorem g_ok37_0 : ∀ e ∈ gk37_0, g_okI 37 e = true := by decide +kernel
theorem g_ok37_1 : ∀ e ∈ gk37_1, g_okI 37 e = true := by decide +kernel
theorem g_ok37 : ∀ e ∈ gk37, g_okI 37 e = true := List.forall_mem_append.mpr ⟨g_ok37_0, g_ok37_1⟩
theorem g_ok38_0 : ∀ e ∈ gk38_0, g_okI 38 e = true := by decide +kernel
theorem g_ok38 : ∀ e ∈ gk38, g_okI 38 e = true := g_ok38_0
theorem g_ok39_0 : ∀ e ∈ gk39_0, g_okI 39 e = true := by decide +kernel
theorem g_ok39 : ∀ e ∈ gk39, g_okI 39 e = true := g_ok39_0
theorem g_ok40_0 : ∀ e ∈ gk40_0, g_okI 40 e = true := by decide +kernel
theorem g_ok40_1 : ∀ e ∈ gk40_1, g_okI 40 e = true := by decide +kernel
theorem g_ok40 : ∀ e ∈ gk40, g_okI 40 e = true := List.forall_mem_append.mpr ⟨g_ok40_0, g_ok40_1⟩
theorem g_ok41_0 : ∀ e ∈ gk41_0, g_okI 41 e = true := by decide +kernel
theorem g_ok41_1 : ∀ e ∈ gk41_1, g_okI 41 e = true := by decide +kernel
theorem g_ok41 : ∀ e ∈ gk41, g_okI 41 e = true := List.forall_mem_append.mpr ⟨g_ok41_0, g_ok41_1⟩
theorem g_ok42_0 : ∀ e ∈ gk42_0, g_okI 42 e = true := by decide +kernel
theorem g_ok42 : ∀ e ∈ gk42, g_okI 42 e = true := g_ok42_0
theorem g_ok43_0 : ∀ e ∈ gk43_0, g_okI 43 e = true := by decide +kernel
theorem g_ok43_1 : ∀ e ∈ gk43_1, g_okI 43 e = true := by decide +kernel
theorem g_ok43 : ∀ e ∈ gk43, g_okI 43 e = true := List.forall_mem_append.mpr ⟨g_ok43_0, g_ok43_1⟩
theorem g_ok44_0 : ∀ e ∈ gk44_0, g_okI 44 e = true := by decide +kernel
theorem g_ok44 : ∀ e ∈ gk44, g_okI 44 e = true := g_ok44_0
theorem g_ok45_0 : ∀ e ∈ gk45_0, g_okI 45 e = true := by decide +kernel
theorem g_ok45_1 : ∀ e ∈ gk45_1, g_okI 45 e = true := by decide +kernel
theorem g_ok45 : ∀ e ∈ gk45, g_okI 45 e = true := List.forall_mem_append.mpr ⟨g_ok45_0, g_ok45_1⟩
theorem g_ok46_0 : ∀ e ∈ gk46_0, g_okI 46 e = true := by decide +kernel
theorem g_ok46 : ∀ e ∈ gk46, g_okI 46 e = true := g_ok46_0
theorem g_ok47_0 : ∀ e ∈ gk47_0, g_okI 47 e = true := by decide +kernel
theorem g_ok47_1 : ∀ e ∈ gk47_1, g_okI 47 e = true := by decide +kernel
theorem g_ok47_2 : ∀ e ∈ gk47_2, g_okI 47 e = true := by decide +kernel
theorem g_ok47 : ∀ e ∈ gk47, g_okI 47 e = true := List.forall_mem_append.mpr ⟨List.forall_mem_append.mpr ⟨g_ok47_0, g_ok47_1⟩, g_ok47_2⟩
theorem g_ok48_0 : ∀ e ∈ gk48_0, g_okI 48 e = true := by decide +kernel
theorem g_ok48 : ∀ e ∈ gk48, g_okI 48 e = true := g_ok48_0
theorem g_ok49_0 : ∀ e ∈ gk49_0, g_okI 49 e = true := by decide +kernel
theorem g_ok49_1 : ∀ e ∈ gk49_1, g_okI 49 e = true := by decide +kernel
theorem g_ok49 : ∀ e ∈ gk49, g_okI 49 e = true := List.forall_mem_append.mpr ⟨g_ok49_0, g_ok49_1⟩
theorem g_ok50_0 : ∀ e ∈ gk50_0, g_okI 50 e = true := by decide +kernel
theorem g_ok50 : ∀ e ∈ gk50, g_okI 50 e = true := g_ok50_0
theorem g_ok51_0 : ∀ e ∈ gk51_0, g_okI 51 e = true := by decide +kernel
theorem g_ok51 : ∀ e ∈ gk51, g_okI 51 e = true := g_ok51_0
theorem g_ok52_0 : ∀ e ∈ gk52_0, g_okI 52 e = true := by decide +kernel
theorem g_ok52 : ∀ e ∈ gk52, g_okI 52 e = true := g_ok52_0
theorem g_ok53_0 : ∀ e ∈ gk53_0, g_okI 53 e = true := by decide +kernel
theorem g_ok53 : ∀ e ∈ gk53, g_okI 53 e = true := g_ok53_0
theorem g_ok54_0 : ∀ e ∈ gk54_0, g_okI 54 e = true := by decide +kernel
theorem g_ok54_1 : ∀ e ∈ gk54_1, g_okI 54 e = true := by decide +kernel
theorem g_ok54 : ∀ e ∈ gk54, g_okI 54 e = true := List.forall_mem_append.mpr ⟨g_ok54_0, g_ok54_1⟩
theorem g_ok55_0 : ∀ e ∈ gk55_0, g_okI 55 e = true := by decide +kernel
theorem g_ok55_1 : ∀ e ∈ gk55_1, g_okI 55 e = true := by decide +kernel
theorem g_ok55_2 : ∀ e ∈ gk55_2, g_okI 55 e = true := by decide +kernel
theorem g_ok55 : ∀ e ∈ gk55, g_okI 55 e = true := List.forall_mem_append.mpr ⟨List.forall_mem_append.mpr ⟨g_ok55_0, g_ok55_1⟩, g_ok55_2⟩
theorem g_ok56_0 : ∀ e ∈ gk56_0, g_okI 56 e = true := by decide +kernel
theorem g_ok56_1 : ∀ e ∈ gk56_1, g_okI 56 e = true := by decide +kernel
theorem g_ok56 : ∀ e ∈ gk56, g_okI 56 e = true := List.forall_mem_append.mpr ⟨g_ok56_0, g_ok56_1⟩
theorem g_ok57_0 : ∀ e ∈ gk57_0, g_okI 57 e = true := by decide +kernel
theorem g_ok57_1 : ∀ e ∈ gk57_1, g_okI 57 e = true := by decide +kernel
theorem g_ok57 : ∀ e ∈ gk57, g_okI 57 e = true := List.forall_mem_append.mpr ⟨g_ok57_0, g_ok57_1⟩
theorem g_ok58_0 : ∀ e ∈ gk58_0, g_okI 58 e = true := by decide +kernel
theorem g_ok58_1 : ∀ e ∈ gk58_1, g_okI 58 e = true := by decide +kernel
theorem g_ok58 : ∀ e ∈ gk58, g_okI 58 e = true := List.forall_mem_append.mpr ⟨g_ok58_0, g_ok58_1⟩
theorem g_ok59_0 : ∀ e ∈ gk59_0, g_okI 59 e = true := by decide +kernel
theorem g_ok59_1 : ∀ e ∈ gk59_1, g_okI 59 e = true := by decide +kernel
theorem g_ok59_2 : ∀ e ∈ gk59_2, g_okI 59 e = true := by decide +kernel
theorem g_ok59 : ∀ e ∈ gk59, g_okI 59 e = true := List.forall_mem_append.mpr ⟨List.forall_mem_append.mpr ⟨g_ok59_0, g_ok59_1⟩, g_ok59_2⟩
theorem g_ok60_0 : ∀ e ∈ gk60_0, g_okI 60 e = true := by decide +kernel
theorem g_ok60_1 : ∀ e ∈ gk60_1, g_okI 60 e = true := by decide +kernel
theorem g_ok60 : ∀ e ∈ gk60, g_okI 60 e = true := List.forall_mem_append.mpr ⟨g_ok60_0, g_ok60_1⟩
theorem g_ok61_0 : ∀ e ∈ gk61_0, g_okI 61 e = true := by decide +kernel
theorem g_ok61 : ∀ e ∈ gk61, g_okI 61 e = true := g_ok61_0
theorem g_ok62_0 : ∀ e ∈ gk62_0, g_okI 62 e = true := by decide +kernel
theorem g_ok62_1 : ∀ e ∈ gk62_1, g_okI 62 e = true := by decide +kernel
theorem g_ok62 : ∀ e ∈ gk62, g_okI 62 e = true := List.forall_mem_append.mpr ⟨g_ok62_0, g_ok62_1⟩
theorem g_ok63_0 : ∀ e ∈ gk63_0, g_okI 63 e = true := by decide +kernel
theorem g_ok63_1 : ∀ e ∈ gk63_1, g_okI 63 e = true := by decide +kernel
theorem g_ok63_2 : ∀ e ∈ gk63_2, g_okI 63 e = true := by decide +kernel
theorem g_ok63 : ∀ e ∈ gk63, g_okI 63 e = true := List.forall_mem_append.mpr ⟨List.forall_mem_append.mpr ⟨g_ok63_0, g_ok63_1⟩, g_ok63_2⟩
theorem g_ok64_0 : ∀ e ∈ gk64_0, g_okI 64 e = true := by decide +kernel
theorem g_ok64 : ∀ e ∈ gk64, g_okI 64 e = true := g_ok64_0
theorem g_ok65_0 : ∀ e ∈ gk65_0, g_okI 65 e = true := by decide +kernel
theorem g_ok65 : ∀ e ∈ gk65, g_okI 65 e = true := g_ok65_0
theorem g_ok66_0 : ∀ e ∈ gk66_0, g_okI 66 e = true := by decide +kernel
theorem g_ok66 : ∀ e ∈ gk66, g_okI 66 e = true := g_ok66_0
theorem g_ok67_0 : ∀ e ∈ gk67_0, g_okI 67 e = true := by decide +kernel
theorem g_ok67_1 : ∀ e ∈ gk67_1, g_okI 67 e = true := by decide +kernel
theorem g_ok67 : ∀ e ∈ gk67, g_okI 67 e = true := List.forall_mem_append.mpr ⟨g_ok67_0, g_ok67_1⟩
theorem g_ok68_0 : ∀ e ∈ gk68_0, g_okI 68 e = true := by decide +kernel
theorem g_ok68 : ∀ e ∈ gk68, g_okI 68 e = true := g_ok68_0
theorem g_ok69_0 : ∀ e ∈ gk69_0, g_okI 69 e = true := by decide +kernel
theorem g_ok69 : ∀ e ∈ gk69, g_okI 69 e = true := g_ok69_0
theorem g_ok70_0 : ∀ e ∈ gk70_0, g_okI 70 e = true := by decide +kernel
theorem g_ok70_1 : ∀ e ∈ gk70_1, g_okI 70 e = true := by decide +kernel
theorem g_ok70_2 : ∀ e ∈ gk70_2, g_okI 70 e = true := by decide +kernel
theorem g_ok70 : ∀ e ∈ gk70, g_okI 70 e = true := List.forall_mem_append.mpr ⟨List.forall_mem_append.mpr ⟨g_ok70_0, g_ok70_1⟩, g_ok70_2⟩
theorem g_ok71_0 : ∀ e ∈ gk71_0, g_okI 71 e = true := by decide +kernel
theorem g_ok71_1 : ∀ e ∈ gk71_1, g_okI 71 e = true := by decide +kernel
theorem g_ok71_2 : ∀ e ∈ gk71_2, g_okI 71 e = true := by decide +kernel
theorem g_ok71 : ∀ e ∈ gk71, g_okI 71 e = true := List.forall_mem_append.mpr ⟨List.forall_mem_append.mpr ⟨g_ok71_0, g_ok71_1⟩, g_ok71_2⟩
theorem g_ok72_0 : ∀ e ∈ gk72_0, g_okI 72 e = true := by decide +kernel
theorem g_ok72 : ∀ e ∈ gk72, g_okI 72 e = true := g_ok72_0
theorem g_ok73_0 : ∀ e ∈ gk73_0, g_okI 73 e = true := by decide +kernel
theorem g_ok73 : ∀ e ∈ gk73, g_okI 73 e = true := g_ok73_0
theorem g_ok74_0 : ∀ e ∈ gk74_0, g_okI 74 e = true := by decide +kernel
theorem g_ok74 : ∀ e ∈ gk74, g_okI 74 e = true := g_ok74_0
theorem g_ok75_0 : ∀ e ∈ gk75_0, g_okI 75 e = true := by decide +kernel
theorem g_ok75 : ∀ e ∈ gk75, g_okI 75 e = true := g_ok75_0
theorem g_ok76_0 : ∀ e ∈ gk76_0, g_okI 76 e = true := by decide +kernel
theorem g_ok76_1 : ∀ e ∈ gk76_1, g_okI 76 e = true := by decide +kernel
theorem g_ok76 : ∀ e ∈ gk76, g_okI 76 e = true := List.forall_mem_append.mpr ⟨g_ok76_0, g_ok76_1⟩
theorem g_ok77_0 : ∀ e ∈ gk77_0, g_okI 77 e = true := by decide +kernel
theorem g_ok77 : ∀ e ∈ gk77, g_okI 77 e = true := g_ok77_0
theorem g_ok78_0 : ∀ e ∈ gk78_0, g_okI 78 e = true := by decide +kernel
theorem g_ok78_1 : ∀ e ∈ gk78_1, g_okI 78 e = true := by decide +kernel
theorem g_ok78 : ∀ e ∈ gk78, g_okI 78 e = true := List.forall_mem_append.mpr ⟨g_ok78_0, g_ok78_1⟩
theorem g_ok79_0 : ∀ e ∈ gk79_0, g_okI 79 e = true := by decide +kernel
theorem g_ok79 : ∀ e ∈ gk79, g_okI 79 e = true := g_ok79_0
theorem g_ok80_0 : ∀ e ∈ gk80_0, g_okI 80 e = true := by decide +kernel
theorem g_ok80 : ∀ e ∈ gk80, g_okI 80 e = true := g_ok80_0
theorem g_ok81_0 : ∀ e ∈ gk81_0, g_okI 81 e = true := by decide +kernel
theorem g_ok81_1 : ∀ e ∈ gk81_1, g_okI 81 e = true := by decide +kernel
theorem g_ok81 : ∀ e ∈ gk81, g_okI 81 e = true := List.forall_mem_append.mpr ⟨g_ok81_0, g_ok81_1⟩
theorem g_ok82_0 : ∀ e ∈ gk82_0, g_okI 82 e = true := by decide +kernel
theorem g_ok82 : ∀ e ∈ gk82, g_okI 82 e = true := g_ok82_0
theorem g_ok83_0 : ∀ e ∈ gk83_0, g_okI 83 e = true := by decide +kernel
theorem g_ok83_1 : ∀ e ∈ gk83_1, g_okI 83 e = true := by decide +kernel
theorem g_ok83 : ∀ e ∈ gk83, g_okI 83 e = true := List.forall_mem_append.mpr ⟨g_ok83_0, g_ok83_1⟩
theorem g_ok84_0 : ∀ e ∈ gk84_0, g_okI 84 e = true := by decide +kernel
theorem g_ok84 : ∀ e ∈ gk84, g_okI 84 e = true := g_ok84_0
theorem g_ok85_0 : ∀ e ∈ gk85_0, g_okI 85 e = true := by decide +kernel
theorem g_ok85 : ∀ e ∈ gk85, g_okI 85 e = true := g_ok85_0
theorem g_ok86_0 : ∀ e ∈ gk86_0, g_okI 86 e = true := by decide +kernel
theorem g_ok86_1 : ∀ e ∈ gk86_1, g_okI 86 e = true := by decide +kernel
theorem g_ok86 : ∀ e ∈ gk86, g_okI 86 e = true := List.forall_mem_append.mpr ⟨g_ok86_0, g_ok86_1⟩
theorem g_ok87_0 : ∀ e ∈ gk87_0, g_okI 87 e = true := by decide +kernel
theorem g_ok87 : ∀ e ∈ gk87, g_okI 87 e = true := g_ok87_0
theorem g_ok88_0 : ∀ e ∈ gk88_0, g_okI 88 e = true := by decide +kernel
theorem g_ok88 : ∀ e ∈ gk88, g_okI 88 e = true := g_ok88_0
theorem g_ok89_0 : ∀ e ∈ gk89_0, g_okI 89 e = true := by decide +kernel
theorem g_ok89 : ∀ e ∈ gk89, g_okI 89 e = true := g_ok89_0
theorem g_ok90_0 : ∀ e ∈ gk90_0, g_okI 90 e = true := by decide +kernel
theorem g_ok90 : ∀ e ∈ gk90, g_okI 90 e = true := g_ok90_0
theorem g_ok91_0 : ∀ e ∈ gk91_0, g_okI 91 e = true := by decide +kernel
theorem g_ok91 : ∀ e ∈ gk91, g_okI 91 e = true := g_ok91_0
theorem g_ok92_0 : ∀ e ∈ gk92_0, g_okI 92 e = true := by decide +kernel
theorem g_ok92_1 : ∀ e ∈ gk92_1, g_okI 92 e = true := by decide +kernel
theorem g_ok92_2 : ∀ e ∈ gk92_2, g_okI 92 e = true := by decide +kernel
theorem g_ok92_3 : ∀ e ∈ gk92_3, g_okI 92 e = true := by decide +kernel
theorem g_ok92_4 : ∀ e ∈ gk92_4, g_okI 92 e = true := by decide +kernel
theorem g_ok92 : ∀ e ∈ gk92, g_okI 92 e = true := List.forall_mem_append.mpr ⟨List.forall_mem_append.mpr ⟨List.forall_mem_append.mpr ⟨List.forall_mem_append.mpr ⟨g_ok92_0, g_ok92_1⟩, g_ok92_2⟩, g_ok92_3⟩, g_ok92_4⟩
theorem g_ok93_0 : ∀ e ∈ gk93_0, g_okI 93 e = true := by decide +kernel
theorem g_ok93_1 : ∀ e ∈ gk93_1, g_okI 93 e = true := by decide +kernel
theorem g_ok93 : ∀ e ∈ gk93, g_okI 93 e = true := List.forall_mem_append.mpr ⟨g_ok93_0, g_ok93_1⟩
theorem g_ok94_0 : ∀ e ∈ gk94_0, g_okI 94 e = true := by decide +kernel
theorem g_ok94 : ∀ e ∈ gk94, g_okI 94 e = true := g_ok94_0
theorem g_ok95_0 : ∀ e ∈ gk95_0, g_okI 95 e = true := by decide +kernel
theorem g_ok95 : ∀ e ∈ gk95, g_okI 95 e = true := g_ok95_0
theorem g_ok96_0 : ∀ e ∈ gk96_0, g_okI 96 e = true := by decide +kernel
theorem g_ok96 : ∀ e ∈ gk96, g_okI 96 e = true := g_ok96_0
theorem g_ok97_0 : ∀ e ∈ gk97_0, g_okI 97 e = true := by decide +kernel
theorem g_ok97_1 : ∀ e ∈ gk97_1, g_okI 97 e = true := by decide +kernel
theorem g_ok97 : ∀ e ∈ gk97, g_okI 97 e = true := List.forall_mem_append.mpr ⟨g_ok97_0, g_ok97_1⟩
theorem g_ok98_0 : ∀ e ∈ gk98_0, g_okI 98 e = true := by decide +kernel
theorem g_ok98 : ∀ e ∈ gk98, g_okI 98 e = true := g_ok98_0
theorem g_ok99_0 : ∀ e ∈ gk99_0, g_okI 99 e = true := by decide +kernel
theorem g_ok99 : ∀ e ∈ gk99, g_okI 99 e = true := g_ok99_0
theorem g_ok100_0 : ∀ e ∈ gk100_0, g_okI 100 e = true := by decide +kernel
theorem g_ok100 : ∀ e ∈ gk100, g_okI 100 e = true := g_ok100_0
theorem g_ok101_0 : ∀ e ∈ gk101_0, g_okI 101 e = true := by decide +kernel
theorem g_ok101 : ∀ e ∈ gk101, g_okI 101 e = true := g_ok101_0
theorem g_ok102_0 : ∀ e ∈ gk102_0, g_okI 102 e = true := by decide +kernel
theorem g_ok102 : ∀ e ∈ gk102, g_okI 102 e = true := g_ok102_0
theorem g_ok103_0 : ∀ e ∈ gk103_0, g_okI 103 e = true := by decide +kernel
theorem g_ok103_1 : ∀ e ∈ gk103_1, g_okI 103 e = true := by decide +kernel
theorem g_ok103 : ∀ e ∈ gk103, g_okI 103 e = true := List.forall_mem_append.mpr ⟨g_ok103_0, g_ok103_1⟩
theorem g_ok104_0 : ∀ e ∈ gk104_0, g_okI 104 e = true := by decide +kernel
theorem g_ok104 : ∀ e ∈ gk104, g_okI 104 e = true := g_ok104_0
theorem g_ok105_0 : ∀ e ∈ gk105_0, g_okI 105 e = true := by decide +kernel
theorem g_ok105 : ∀ e ∈ gk105, g_okI 105 e = true := g_ok105_0
theorem g_ok106_0 : ∀ e ∈ gk106_0, g_okI 106 e = true := by decide +kernel
theorem g_ok106_1 : ∀ e ∈ gk106_1, g_okI 106 e = true := by decide +kernel
theorem g_ok106 : ∀ e ∈ gk106, g_okI 106 e = true := List.forall_mem_append.mpr ⟨g_ok106_0, g_ok106_1⟩
theorem g_ok107_0 : ∀ e ∈ gk107_0, g_okI 107 e = true := by decide +kernel
theorem g_ok107_1 : ∀ e ∈ gk107_1, g_okI 107 e = true := by decide +kernel
theorem g_ok107 : ∀ e ∈ gk107, g_okI 107 e = true := List.forall_mem_append.mpr ⟨g_ok107_0, g_ok107_1⟩
theorem g_ok108_0 : ∀ e ∈ gk108_0, g_okI 108 e = true := by decide +kernel
theorem g_ok108 : ∀ e ∈ gk108, g_okI 108 e = true := g_ok108_0
theorem g_ok109_0 : ∀ e ∈ gk109_0, g_okI 109 e = true := by decide +kernel
theorem g_ok109 : ∀ e ∈ gk109, g_okI 109 e = true := g_ok109_0
theorem g_ok110_0 : ∀ e ∈ gk110_0, g_okI 110 e = true := by decide +kernel
theorem g_ok110 : ∀ e ∈ gk110, g_okI 110 e = true := g_ok110_0
theorem g_ok111_0 : ∀ e ∈ gk111_0, g_okI 111 e = true := by decide +kernel
theorem g_ok111 : ∀ e ∈ gk111, g_okI 111 e = true := g_ok111_0
theorem g_ok112_0 : ∀ e ∈ gk112_0, g_okI 112 e = true := by decide +kernel
theorem g_ok112 : ∀ e ∈ gk112, g_okI 112 e = true := g_ok112_0
theorem g_ok113_0 : ∀ e ∈ gk113_0, g_okI 113 e = true := by decide +kernel
theorem g_ok113_1 : ∀ e ∈ gk113_1, g_okI 113 e = true := by decide +kernel
theorem g_ok113 : ∀ e ∈ gk113, g_okI 113 e = true := List.forall_mem_append.mpr ⟨g_ok113_0, g_ok113_1⟩
theorem g_ok114_0 : ∀ e ∈ gk114_0, g_okI 114 e = true := by decide +kernel
theorem g_ok114_1 : ∀ e ∈ gk114_1, g_okI 114 e = true := by decide +kernel
theorem g_ok114 : ∀ e ∈ gk114, g_okI 114 e = true := List.forall_mem_append.mpr ⟨g_ok114_0, g_ok114_1⟩
theorem g_ok115_0 : ∀ e ∈ gk115_0, g_okI 115 e = true := by decide +kernel
theorem g_ok115 : ∀ e ∈ gk115, g_okI 115 e = true := g_ok115_0
theorem g_ok116_0 : ∀ e ∈ gk116_0, g_okI 116 e = true := by decide +kernel
theorem g_ok116_1 : ∀ e ∈ gk116_1, g_okI 116 e = true := by decide +kernel
theorem g_ok116_2 : ∀ e ∈ gk116_2, g_okI 116 e = true := by decide +kernel
theorem g_ok116 : ∀ e ∈ gk116, g_okI 116 e = true := List.forall_mem_append.mpr ⟨List.forall_mem_append.mpr ⟨g_ok116_0, g_ok116_1⟩, g_ok116_2⟩
theorem g_ok117_0 : ∀ e ∈ gk117_0, g_okI 117 e = true := by decide +kernel
theorem g_ok117_1 : ∀ e ∈ gk117_1, g_okI 117 e = true := by decide +kernel
theorem g_ok117 : ∀ e ∈ gk117, g_okI 117 e = true := List.forall_mem_append.mpr ⟨g_ok117_0, g_ok117_1⟩
theorem g_ok118_0 : ∀ e ∈ gk118_0, g_okI 118 e = true := by decide +kernel
theorem g_ok118_1 : ∀ e ∈ gk118_1, g_okI 118 e = true := by decide +kernel
theorem g_ok118 : ∀ e ∈ gk118, g_okI 118 e = true := List.forall_mem_append.mpr ⟨g_ok118_0, g_ok118_1⟩
theorem g_ok119_0 : ∀ e ∈ gk119_0, g_okI 119 e = true := by decide +kernel
theorem g_ok119 : ∀ e ∈ gk119, g_okI 119 e = true := g_ok119_0
theorem g_ok120_0 : ∀ e ∈ gk120_0, g_okI 120 e = true := by decide +kernel
theorem g_ok120_1 : ∀ e ∈ gk120_1, g_okI 120 e = true := by decide +kernel
theorem g_ok120 : ∀ e ∈ gk120, g_okI 120 e = true := List.forall_mem_append.mpr ⟨g_ok120_0, g_ok120_1⟩
theorem g_ok121_0 : ∀ e ∈ gk121_0, g_okI 121 e = true := by decide +kernel
theorem g_ok121 : ∀ e ∈ gk121, g_okI 121 e = true := g_ok121_0
theorem g_ok122_0 : ∀ e ∈ gk122_0, g_okI 122 e = true := by decide +kernel
theorem g_ok122 : ∀ e ∈ gk122, g_okI 122 e = true := g_ok122_0
theorem g_ok123_0 : ∀ e ∈ gk123_0, g_okI 123 e = true := by decide +kernel
theorem g_ok123 : ∀ e ∈ gk123, g_okI 123 e = true := g_ok123_0
theorem g_ok124_0 : ∀ e ∈ gk124_0, g_okI 124 e = true := by decide +kernel
theorem g_ok124 : ∀ e ∈ gk124, g_okI 124 e = true := g_ok124_0
theorem g_ok125_0 : ∀ e ∈ gk125_0, g_okI 125 e = true := by decide +kernel
theorem g_ok125_1 : ∀ e ∈ gk125_1, g_okI 125 e = true := by decide +kernel
theorem g_ok125 : ∀ e ∈ gk125, g_okI 125 e = true := List.forall_mem_append.mpr ⟨g_ok125_0, g_ok125_1⟩
theorem g_ok126_0 : ∀ e ∈ gk126_0, g_okI 126 e = true := by decide +kernel
theorem g_ok126 : ∀ e ∈ gk126, g_okI 126 e = true := g_ok126_0
theorem g_ok127_0 : ∀ e ∈ gk127_0, g_okI 127 e = true := by decide +kernel
theorem g_ok127_1 : ∀ e ∈ gk127_1, g_okI 127 e = true := by decide +kernel
theorem g_ok127 : ∀ e ∈ gk127, g_okI 127 e = true := List.forall_mem_append.mpr ⟨g_ok127_0, g_ok127_1⟩
theorem g_ok128_0 : ∀ e ∈ gk128_0, g_okI 128 e = true := by decide +kernel
theorem g_ok128 : ∀ e ∈ gk128, g_okI 128 e = true := g_ok128_0
theorem g_ok129_0 : ∀ e ∈ gk129_0, g_okI 129 e = true := by decide +kernel
theorem g_ok129_1 : ∀ e ∈ gk129_1, g_okI 129 e = true := by decide +kernel
theorem g_ok129_2 : ∀ e ∈ gk129_2, g_okI 129 e = true := by decide +kernel
theorem g_ok129_3 : ∀ e ∈ gk129_3, g_okI 129 e = true := by decide +kernel
theorem g_ok129 : ∀ e ∈ gk129, g_okI 129 e = true := List.forall_mem_append.mpr ⟨List.forall_mem_append.mpr ⟨List.forall_mem_append.mpr ⟨g_ok129_0, g_ok129_1⟩, g_ok129_2⟩, g_ok129_3⟩
theorem g_ok130_0 : ∀ e ∈ gk130_0, g_okI 130 e = true := by decide +kernel
theorem g_ok130 : ∀ e ∈ gk130, g_okI 130 e = true := g_ok130_0
theorem g_ok131_0 : ∀ e ∈ gk131_0, g_okI 131 e = true := by decide +kernel
theorem g_ok131_1 : ∀ e ∈ gk131_1, g_okI 131 e = true := by decide +kernel
theorem g_ok131 : ∀ e ∈ gk131, g_okI 131 e = true := List.forall_mem_append.mpr ⟨g_ok131_0, g_ok131_1⟩
theorem g_ok132_0 : ∀ e ∈ gk132_0, g_okI 132 e = true := by decide +kernel
theorem g_ok132 : ∀ e ∈ gk132, g_okI 132 e = true := g_ok132_0
theorem g_ok133_0 : ∀ e ∈ gk133_0, g_okI 133 e = true := by decide +kernel
theorem g_ok133 : ∀ e ∈ gk133, g_okI 133 e = true := g_ok133_0
theorem g_ok134_0 : ∀ e ∈ gk134_0, g_okI 134 e = true := by decide +kernel
theorem g_ok134 : ∀ e ∈ gk134, g_okI 134 e = true := g_ok134_0
theorem g_ok135_0 : ∀ e ∈ gk135_0, g_okI 135 e = true := by decide +kernel
theorem g_ok135 : ∀ e ∈ gk135, g_okI 135 e = true := g_ok135_0
theorem g_ok136_0 : ∀ e ∈ gk136_0, g_okI 136 e = true := by decide +kernel
theorem g_ok136_1 : ∀ e ∈ gk136_1, g_okI 136 e = true := by decide +kernel
theorem g_ok136 : ∀ e ∈ gk136, g_okI 136 e = true := List.forall_mem_append.mpr ⟨g_ok136_0, g_ok136_1⟩
theorem g_ok137_0 : ∀ e ∈ gk137_0, g_okI 137 e = true := by decide +kernel
theorem g_ok137 : ∀ e ∈ gk137, g_okI 137 e = true := g_ok137_0
theorem g_ok138_0 : ∀ e ∈ gk138_0, g_okI 138 e = true := by decide +kernel
theorem g_ok138 : ∀ e ∈ gk138, g_okI 138 e = true := g_ok138_0
theorem g_ok139_0 : ∀ e ∈ gk139_0, g_okI 139 e = true := by decide +kernel
theorem g_ok139_1 : ∀ e ∈ gk139_1, g_okI 139 e = true := by decide +kernel
theorem g_ok139 : ∀ e ∈ gk139, g_okI 139 e = true := List.forall_mem_append.mpr ⟨g_ok139_0, g_ok139_1⟩
theorem g_ok140_0 : ∀ e ∈ gk140_0, g_okI 140 e = true := by decide +kernel
theorem g_ok140 : ∀ e ∈ gk140, g_okI 140 e = true := g_ok140_0
theorem g_ok141_0 : ∀ e ∈ gk141_0, g_okI 141 e = true := by decide +kernel
theorem g_ok141_1 : ∀ e ∈ gk141_1, g_okI 141 e = true := by decide +kernel
theorem g_ok141_2 : ∀ e ∈ gk141_2, g_okI 141 e = true := by decide +kernel
theorem g_ok141 : ∀ e ∈ gk141, g_okI 141 e = true := List.forall_mem_append.mpr ⟨List.forall_mem_append.mpr ⟨g_ok141_0, g_ok141_1⟩, g_ok141_2⟩
theorem g_ok142_0 : ∀ e ∈ gk142_0, g_okI 142 e = true := by decide +kernel
theorem g_ok142 : ∀ e ∈ gk142, g_okI 142 e = true := g_ok142_0
theorem g_ok143_0 : ∀ e ∈ gk143_0, g_okI 143 e = true := by decide +kernel
theorem g_ok143 : ∀ e ∈ gk143, g_okI 143 e = true := g_ok143_0
theorem g_ok144_0 : ∀ e ∈ gk144_0, g_okI 144 e = true := by decide +kernel
theorem g_ok144 : ∀ e ∈ gk144, g_okI 144 e = true := g_ok144_0
theorem g_ok145_0 : ∀ e ∈ gk145_0, g_okI 145 e = true := by decide +kernel
theorem g_ok145 : ∀ e ∈ gk145, g_okI 145 e = true := g_ok145_0
theorem g_ok146_0 : ∀ e ∈ gk146_0, g_okI 146 e = true := by decide +kernel
theorem g_ok146_1 : ∀ e ∈ gk146_1, g_okI 146 e = true := by decide +kernel
theorem g_ok146 : ∀ e ∈ gk146, g_okI 146 e = true := List.forall_mem_append.mpr ⟨g_ok146_0, g_ok146_1⟩
theorem g_ok147_0 : ∀ e ∈ gk147_0, g_okI 147 e = true := by decide +kernel
theorem g_ok147 : ∀ e ∈ gk147, g_okI 147 e = true := g_ok147_0
theorem g_ok148_0 : ∀ e ∈ gk148_0, g_okI 148 e = true := by decide +kernel
theorem g_ok148_1 : ∀ e ∈ gk148_1, g_okI 148 e = true := by decide +kernel
theorem g_ok148 : ∀ e ∈ gk148, g_okI 148 e = true := List.forall_mem_append.mpr ⟨g_ok148_0, g_ok148_1⟩
theorem g_ok149_0 : ∀ e ∈ gk149_0, g_okI 149 e = true := by decide +kernel
theorem g_ok149_1 : ∀ e ∈ gk149_1, g_okI 149 e = true := by decide +kernel
theorem g_ok149_2 : ∀ e ∈ gk149_2, g_okI 149 e = true := by decide +kernel
theorem g_ok149_3 : ∀ e ∈ gk149_3, g_okI 149 e = true := by decide +kernel
theorem g_ok149_4 : ∀ e ∈ gk149_4, g_okI 149 e = true := by decide +kernel
theorem g_ok149_5 : ∀ e ∈ gk149_5, g_okI 149 e = true := by decide +kernel
theorem g_ok149_6 : ∀ e ∈ gk149_6, g_okI 149 e = true := by decide +kernel
theorem g_ok149_7 : ∀ e ∈ gk149_7, g_okI 149 e = true := by decide +kernel
theorem g_ok149_8 : ∀ e ∈ gk149_8, g_okI 149 e = true := by decide +kernel
theorem g_ok149_9 : ∀ e ∈ gk149_9, g_okI 149 e = true := by decide +kernel
theorem g_ok149_10 : ∀ e ∈ gk149_10, g_okI 149 e = true := by decide +kernel
theorem g_ok149_11 : ∀ e ∈ gk149_11, g_okI 149 e = true := by decide +kernel
theorem g_ok149 : ∀ e ∈ gk149, g_okI 149 e = true := List.forall_mem_append.mpr ⟨List.forall_mem_append.mpr ⟨List.forall_mem_append.mpr ⟨List.forall_mem_append.mpr ⟨List.forall_mem_append.mpr ⟨List.forall_mem_append.mpr ⟨List.forall_mem_append.mpr ⟨List.forall_mem_append.mpr ⟨List.forall_mem_append.mpr ⟨List.forall_mem_append.mpr ⟨List.forall_mem_append.mpr ⟨g_ok149_0, g_ok149_1⟩, g_ok149_2⟩, g_ok149_3⟩, g_ok149_4⟩, g_ok149_5⟩, g_ok149_6⟩, g_ok149_7⟩, g_ok149_8⟩, g_ok149_9⟩, g_ok149_10⟩, g_ok149_11⟩
theorem g_ok : ∀ (m : Nat), ∀ e ∈ g_code m, g_okI m e = true := by
  intro m
  match m with
  | 0 => exact g_ok0
  | 1 => exact g_ok1
  | 2 => exact g_ok2
  | 3 => exact g_ok3
  | 4 => exact g_ok4
  | 5 => exact g_ok5
  | 6 => exact g_ok6
  | 7 => exact g_ok7
  | 8 => exact g_ok8
  | 9 => exact g_ok9
  | 10 => exact g_ok10
  | 11 => exact g_ok11
  | 12 => exact g_ok12
  | 13 => exact g_ok13
  | 14 => exact g_ok14
  | 15 => exact g_ok15
  | 16 => exact g_ok16
  | 17 => exact g_ok17
  | 18 => exact g_ok18
  | 19 => exact g_ok19
  | 20 => exact g_ok20
  | 21 => exact g_ok21
  | 22 => exact g_ok22
  | 23 => exact g_ok23
  | 24 => exact g_ok24
  | 25 => exact g_ok25
  | 26 => exact g_ok26
  | 27 => exact g_ok27
  | 28 => exact g_ok28
  | 29 => exact g_ok29
  | 30 => exact g_ok30
  | 31 => exact g_ok31
  | 32 => exact g_ok32
  | 33 => exact g_ok33
  | 34 => exact g_ok34
  | 35 => exact g_ok35
  | 36 => exact g_ok36
  | 37 => exact g_ok37
  | 38 => exact g_ok38
  | 39 => exact g_ok39
  | 40 => exact g_ok40
  | 41 => exact g_ok41
  | 42 => exact g_ok42
  | 43 => exact g_ok43
  | 44 => exact g_ok44
  | 45 => exact g_ok45
  | 46 => exact g_ok46
  | 47 => exact g_ok47
  | 48 => exact g_ok48
  | 49 => exact g_ok49
  | 50 => exact g_ok50
  | 51 => exact g_ok51
  | 52 => exact g_ok52
  | 53 => exact g_ok53
  | 54 => exact g_ok54
  | 55 => exact g_ok55
  | 56 => exact g_ok56
  | 57 => exact g_ok57
  | 58 => exact g_ok58
  | 59 => exact g_ok59
  | 60 => exact g_ok60
  | 61 => exact g_ok61
  | 62 => exact g_ok62
  | 63 => exact g_ok63
  | 64 => exact g_ok64
  | 65 => exact g_ok65
  | 66 => exact g_ok66
  | 67 => exact g_ok67
  | 68 => exact g_ok68
  | 69 => exact g_ok69
  | 70 => exact g_ok70
  | 71 => exact g_ok71
  | 72 => exact g_ok72
  | 73 => exact g_ok73
  | 74 => exact g_ok74
  | 75 => exact g_ok75
  | 76 => exact g_ok76
  | 77 => exact g_ok77
  | 78 => exact g_ok78
  | 79 => exact g_ok79
  | 80 => exact g_ok80
  | 81 => exact g_ok81
  | 82 => exact g_ok82
  | 83 => exact g_ok83
  | 84 => exact g_ok84
  | 85 => exact g_ok85
  | 86 => exact g_ok86
  | 87 => exact g_ok87
  | 88 => exact g_ok88
  | 89 => exact g_ok89
  | 90 => exact g_ok90
  | 91 => exact g_ok91
  | 92 => exact g_ok92
  | 93 => exact g_ok93
  | 94 => exact g_ok94
  | 95 => exact g_ok95
  | 96 => exact g_ok96
  | 97 => exact g_ok97
  | 98 => exact g_ok98
  | 99 => exact g_ok99
  | 100 => exact g_ok100
  | 101 => exact g_ok101
  | 102 => exact g_ok102
  | 103 => exact g_ok103
  | 104 => exact g_ok104
  | 105 => exact g_ok105
  | 106 => exact g_ok106
  | 107 => exact g_ok107
  | 108 => exact g_ok108
  | 109 => exact g_ok109
  | 110 => exact g_ok110
  | 111 => exact g_ok111
  | 112 => exact g_ok112
  | 113 => exact g_ok113
  | 114 => exact g_ok114
  | 115 => exact g_ok115
  | 116 => exact g_ok116
  | 117 => exact g_ok117
  | 118 => exact g_ok118
  | 119 => exact g_ok119
  | 120 => exact g_ok120
  | 121 => exact g_ok121
  | 122 => exact g_ok122
  | 123 => exact g_ok123
  | 124 => exact g_ok124
  | 125 => exact g_ok125
  | 126 => exact g_ok126
  | 127 => exact g_ok127
  | 128 => exact g_ok128
  | 129 => exact g_ok129
  | 130 => exact g_ok130
  | 131 => exact g_ok131
  | 132 => exact g_ok132
  | 133 => exact g_ok133
  | 134 => exact g_ok134
  | 135 => exact g_ok135
  | 136 => exact g_ok136
  | 137 => exact g_ok137
  | 138 => exact g_ok138
  | 139 => exact g_ok139
  | 140 => exact g_ok140
  | 141 => exact g_ok141
  | 142 => exact g_ok142
  | 143 => exact g_ok143
  | 144 => exact g_ok144
  | 145 => exact g_ok145
  | 146 => exact g_ok146
  | 147 => exact g_ok147
  | 148 => exact g_ok148
  | 149 => exact g_ok149
  | m + 150 => exact fun e h => absurd h List.not_mem_nil
theorem g_look_mem {i : gI} {pc : Nat} : ∀ (l : List (Nat × gI)), g_look l pc = some i → (pc, i) ∈ l
  | [], h => by cases h
  | (q, j) :: l, h => by
    unfold g_look at h
    split at h
    · next e => cases h; subst e; exact List.mem_cons_self
    · exact List.mem_cons_of_mem _ (g_look_mem l h)
theorem g_okA {m pc : Nat} {i : gI} (h : g_at m pc = some i) : g_okI m (pc, i) = true := g_ok m _ (g_look_mem _ h)
