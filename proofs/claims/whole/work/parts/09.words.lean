def mks_0 : List Nat := [1, 2, 3, 4, 5, 6, 7, 8, 9, 10, 11, 12, 13, 14, 15, 16]
def mks_1 : List Nat := [17, 18, 19, 20, 21, 22, 23, 24, 25, 26, 27, 28, 29, 30, 31, 32]
def mks_2 : List Nat := [33, 34, 35, 36, 37, 38, 39, 40, 41, 42, 43, 44, 45, 46, 47, 48]
def mks_3 : List Nat := [49, 50, 51, 52, 53, 54, 55, 56, 57, 58, 59, 60, 61, 62, 63, 64]
def mks_4 : List Nat := [65, 66, 67, 68, 69, 70, 71, 72, 73, 74, 75, 76, 77, 78, 79, 80]
def mks_5 : List Nat := [81, 82, 83, 84, 85, 86, 87, 88, 89, 90, 91, 92, 93, 94, 95, 96]
def mks_6 : List Nat := [97, 98, 99, 100, 101, 102, 103, 104, 105, 106, 107, 108, 109, 110, 111, 112]
def mks_7 : List Nat := [113, 114, 115, 116, 117, 118, 119, 120, 121, 122, 123, 124, 125, 126, 127, 128]
def mks_8 : List Nat := [129, 130, 131, 132, 133, 134, 135, 136, 137, 138, 139, 140, 141, 142, 143, 144]
def mks_9 : List Nat := [145, 146, 147, 148, 149, 150, 151, 152, 153, 154, 155, 156, 157, 158, 159, 160]
def mks_10 : List Nat := [161, 162, 163, 164, 165, 166, 167, 168, 169, 170, 171, 172, 173, 174, 175, 176]
def mks_11 : List Nat := [177, 178, 179, 180, 181, 182, 183, 184, 185, 186, 187, 188, 189, 190, 191, 192]
def mks_12 : List Nat := [193, 194, 195, 196, 197, 198, 199, 200, 201, 202, 203, 204, 205, 206, 207, 208]
def mks_13 : List Nat := [209, 210, 211, 212, 213, 214, 215, 216, 217, 218, 219, 220, 221, 222, 223, 224]
def mks_14 : List Nat := [225, 226, 227, 228, 229, 230, 231, 232, 233, 234, 235, 236, 237, 238, 239, 240]
def mks_15 : List Nat := [241, 242, 243, 244, 245, 246, 247, 248, 249, 250, 251, 252, 253, 254, 255, 256]
def mks_16 : List Nat := [257, 258, 259, 260, 261, 262, 263, 264, 265, 266, 267, 268, 269, 270, 271, 272]
def mks_17 : List Nat := [273, 274, 275, 276, 277, 278, 279, 280, 281, 282, 283, 284, 285, 286, 287, 288]
def mks_18 : List Nat := [289, 290, 291, 292, 293, 294, 295, 296, 297, 298, 299, 300, 301, 302, 303, 304]
def mks_19 : List Nat := [305, 306, 307, 308, 309, 310, 311, 312, 313, 314, 315, 316, 317, 318, 319, 320]
def mks_20 : List Nat := [321, 322, 323, 324, 325, 326, 327]
def mks : List Nat := mks_0 ++ (mks_1 ++ (mks_2 ++ (mks_3 ++ (mks_4 ++ (mks_5 ++ (mks_6 ++ (mks_7 ++ (mks_8 ++ (mks_9 ++ (mks_10 ++ (mks_11 ++ (mks_12 ++ (mks_13 ++ (mks_14 ++ (mks_15 ++ (mks_16 ++ (mks_17 ++ (mks_18 ++ (mks_19 ++ (mks_20))))))))))))))))))))
def cdW (k : Nat) : Cond := Cond.code (mY k) (mB k) (mX k) (mR k)
theorem tq_1 : ∀ w ∈ tables_1_1, w ∈ lw_tbl := fun w h => List.mem_append_right _ (List.mem_append_left _ h)
theorem tq_2 : ∀ w ∈ tables_1_2, w ∈ lw_tbl := fun w h => List.mem_append_right _ (List.mem_append_right _ (List.mem_append_left _ h))
theorem tq_3 : ∀ w ∈ tables_1_3, w ∈ lw_tbl := fun w h => List.mem_append_right _ (List.mem_append_right _ (List.mem_append_right _ (List.mem_append_left _ h)))
theorem tq_4 : ∀ w ∈ tables_1_4, w ∈ lw_tbl := fun w h => List.mem_append_right _ (List.mem_append_right _ (List.mem_append_right _ (List.mem_append_right _ (List.mem_append_left _ h))))
theorem tq_5 : ∀ w ∈ tables_1_5, w ∈ lw_tbl := fun w h => List.mem_append_right _ (List.mem_append_right _ (List.mem_append_right _ (List.mem_append_right _ (List.mem_append_right _ (List.mem_append_left _ h)))))
theorem tq_6 : ∀ w ∈ tables_1_6, w ∈ lw_tbl := fun w h => List.mem_append_right _ (List.mem_append_right _ (List.mem_append_right _ (List.mem_append_right _ (List.mem_append_right _ (List.mem_append_right _ (List.mem_append_left _ h))))))
theorem tq_7 : ∀ w ∈ tables_1_7, w ∈ lw_tbl := fun w h => List.mem_append_right _ (List.mem_append_right _ (List.mem_append_right _ (List.mem_append_right _ (List.mem_append_right _ (List.mem_append_right _ (List.mem_append_right _ (List.mem_append_left _ h)))))))
theorem tq_8 : ∀ w ∈ tables_1_8, w ∈ lw_tbl := fun w h => List.mem_append_right _ (List.mem_append_right _ (List.mem_append_right _ (List.mem_append_right _ (List.mem_append_right _ (List.mem_append_right _ (List.mem_append_right _ (List.mem_append_right _ (List.mem_append_left _ h))))))))
theorem tq_9 : ∀ w ∈ tables_1_9, w ∈ lw_tbl := fun w h => List.mem_append_right _ (List.mem_append_right _ (List.mem_append_right _ (List.mem_append_right _ (List.mem_append_right _ (List.mem_append_right _ (List.mem_append_right _ (List.mem_append_right _ (List.mem_append_right _ (h)))))))))
set_option maxRecDepth 20000 in
theorem mkw_1 : cdW 1 ∈ lw_tbl := tq_1 _ (List.mem_of_getElem? (i := 22) rfl)
set_option maxRecDepth 20000 in
theorem mkw_2 : cdW 2 ∈ lw_tbl := tq_1 _ (List.mem_of_getElem? (i := 30) rfl)
set_option maxRecDepth 20000 in
theorem mkw_3 : cdW 3 ∈ lw_tbl := tq_1 _ (List.mem_of_getElem? (i := 36) rfl)
set_option maxRecDepth 20000 in
theorem mkw_4 : cdW 4 ∈ lw_tbl := tq_1 _ (List.mem_of_getElem? (i := 40) rfl)
set_option maxRecDepth 20000 in
theorem mkw_5 : cdW 5 ∈ lw_tbl := tq_1 _ (List.mem_of_getElem? (i := 57) rfl)
set_option maxRecDepth 20000 in
theorem mkw_6 : cdW 6 ∈ lw_tbl := tq_1 _ (List.mem_of_getElem? (i := 171) rfl)
set_option maxRecDepth 20000 in
theorem mkw_7 : cdW 7 ∈ lw_tbl := tq_1 _ (List.mem_of_getElem? (i := 205) rfl)
set_option maxRecDepth 20000 in
theorem mkw_8 : cdW 8 ∈ lw_tbl := tq_1 _ (List.mem_of_getElem? (i := 232) rfl)
set_option maxRecDepth 20000 in
theorem mkw_9 : cdW 9 ∈ lw_tbl := tq_2 _ (List.mem_of_getElem? (i := 25) rfl)
set_option maxRecDepth 20000 in
theorem mkw_10 : cdW 10 ∈ lw_tbl := tq_2 _ (List.mem_of_getElem? (i := 52) rfl)
set_option maxRecDepth 20000 in
theorem mkw_11 : cdW 11 ∈ lw_tbl := tq_2 _ (List.mem_of_getElem? (i := 69) rfl)
set_option maxRecDepth 20000 in
theorem mkw_12 : cdW 12 ∈ lw_tbl := tq_2 _ (List.mem_of_getElem? (i := 99) rfl)
set_option maxRecDepth 20000 in
theorem mkw_13 : cdW 13 ∈ lw_tbl := tq_2 _ (List.mem_of_getElem? (i := 113) rfl)
set_option maxRecDepth 20000 in
theorem mkw_14 : cdW 14 ∈ lw_tbl := tq_2 _ (List.mem_of_getElem? (i := 117) rfl)
set_option maxRecDepth 20000 in
theorem mkw_15 : cdW 15 ∈ lw_tbl := tq_2 _ (List.mem_of_getElem? (i := 121) rfl)
set_option maxRecDepth 20000 in
theorem mkw_16 : cdW 16 ∈ lw_tbl := tq_2 _ (List.mem_of_getElem? (i := 125) rfl)
set_option maxRecDepth 20000 in
theorem mkw_17 : cdW 17 ∈ lw_tbl := tq_2 _ (List.mem_of_getElem? (i := 129) rfl)
set_option maxRecDepth 20000 in
theorem mkw_18 : cdW 18 ∈ lw_tbl := tq_2 _ (List.mem_of_getElem? (i := 133) rfl)
set_option maxRecDepth 20000 in
theorem mkw_19 : cdW 19 ∈ lw_tbl := tq_2 _ (List.mem_of_getElem? (i := 137) rfl)
set_option maxRecDepth 20000 in
theorem mkw_20 : cdW 20 ∈ lw_tbl := tq_2 _ (List.mem_of_getElem? (i := 141) rfl)
set_option maxRecDepth 20000 in
theorem mkw_21 : cdW 21 ∈ lw_tbl := tq_2 _ (List.mem_of_getElem? (i := 145) rfl)
set_option maxRecDepth 20000 in
theorem mkw_22 : cdW 22 ∈ lw_tbl := tq_2 _ (List.mem_of_getElem? (i := 148) rfl)
set_option maxRecDepth 20000 in
theorem mkw_23 : cdW 23 ∈ lw_tbl := tq_2 _ (List.mem_of_getElem? (i := 151) rfl)
set_option maxRecDepth 20000 in
theorem mkw_24 : cdW 24 ∈ lw_tbl := tq_2 _ (List.mem_of_getElem? (i := 155) rfl)
set_option maxRecDepth 20000 in
theorem mkw_25 : cdW 25 ∈ lw_tbl := tq_2 _ (List.mem_of_getElem? (i := 159) rfl)
set_option maxRecDepth 20000 in
theorem mkw_26 : cdW 26 ∈ lw_tbl := tq_2 _ (List.mem_of_getElem? (i := 164) rfl)
set_option maxRecDepth 20000 in
theorem mkw_27 : cdW 27 ∈ lw_tbl := tq_2 _ (List.mem_of_getElem? (i := 168) rfl)
set_option maxRecDepth 20000 in
theorem mkw_28 : cdW 28 ∈ lw_tbl := tq_2 _ (List.mem_of_getElem? (i := 172) rfl)
set_option maxRecDepth 20000 in
theorem mkw_29 : cdW 29 ∈ lw_tbl := tq_2 _ (List.mem_of_getElem? (i := 175) rfl)
set_option maxRecDepth 20000 in
theorem mkw_30 : cdW 30 ∈ lw_tbl := tq_2 _ (List.mem_of_getElem? (i := 179) rfl)
set_option maxRecDepth 20000 in
theorem mkw_31 : cdW 31 ∈ lw_tbl := tq_2 _ (List.mem_of_getElem? (i := 183) rfl)
set_option maxRecDepth 20000 in
theorem mkw_32 : cdW 32 ∈ lw_tbl := tq_2 _ (List.mem_of_getElem? (i := 187) rfl)
set_option maxRecDepth 20000 in
theorem mkw_33 : cdW 33 ∈ lw_tbl := tq_2 _ (List.mem_of_getElem? (i := 191) rfl)
set_option maxRecDepth 20000 in
theorem mkw_34 : cdW 34 ∈ lw_tbl := tq_2 _ (List.mem_of_getElem? (i := 226) rfl)
set_option maxRecDepth 20000 in
theorem mkw_35 : cdW 35 ∈ lw_tbl := tq_2 _ (List.mem_of_getElem? (i := 230) rfl)
set_option maxRecDepth 20000 in
theorem mkw_36 : cdW 36 ∈ lw_tbl := tq_2 _ (List.mem_of_getElem? (i := 234) rfl)
set_option maxRecDepth 20000 in
theorem mkw_37 : cdW 37 ∈ lw_tbl := tq_2 _ (List.mem_of_getElem? (i := 238) rfl)
set_option maxRecDepth 20000 in
theorem mkw_38 : cdW 38 ∈ lw_tbl := tq_3 _ (List.mem_of_getElem? (i := 2) rfl)
set_option maxRecDepth 20000 in
theorem mkw_39 : cdW 39 ∈ lw_tbl := tq_3 _ (List.mem_of_getElem? (i := 6) rfl)
set_option maxRecDepth 20000 in
theorem mkw_40 : cdW 40 ∈ lw_tbl := tq_3 _ (List.mem_of_getElem? (i := 10) rfl)
set_option maxRecDepth 20000 in
theorem mkw_41 : cdW 41 ∈ lw_tbl := tq_3 _ (List.mem_of_getElem? (i := 13) rfl)
set_option maxRecDepth 20000 in
theorem mkw_42 : cdW 42 ∈ lw_tbl := tq_3 _ (List.mem_of_getElem? (i := 17) rfl)
set_option maxRecDepth 20000 in
theorem mkw_43 : cdW 43 ∈ lw_tbl := tq_3 _ (List.mem_of_getElem? (i := 22) rfl)
set_option maxRecDepth 20000 in
theorem mkw_44 : cdW 44 ∈ lw_tbl := tq_3 _ (List.mem_of_getElem? (i := 26) rfl)
set_option maxRecDepth 20000 in
theorem mkw_45 : cdW 45 ∈ lw_tbl := tq_3 _ (List.mem_of_getElem? (i := 30) rfl)
set_option maxRecDepth 20000 in
theorem mkw_46 : cdW 46 ∈ lw_tbl := tq_3 _ (List.mem_of_getElem? (i := 33) rfl)
set_option maxRecDepth 20000 in
theorem mkw_47 : cdW 47 ∈ lw_tbl := tq_3 _ (List.mem_of_getElem? (i := 36) rfl)
set_option maxRecDepth 20000 in
theorem mkw_48 : cdW 48 ∈ lw_tbl := tq_3 _ (List.mem_of_getElem? (i := 40) rfl)
set_option maxRecDepth 20000 in
theorem mkw_49 : cdW 49 ∈ lw_tbl := tq_3 _ (List.mem_of_getElem? (i := 43) rfl)
set_option maxRecDepth 20000 in
theorem mkw_50 : cdW 50 ∈ lw_tbl := tq_3 _ (List.mem_of_getElem? (i := 47) rfl)
set_option maxRecDepth 20000 in
theorem mkw_51 : cdW 51 ∈ lw_tbl := tq_3 _ (List.mem_of_getElem? (i := 51) rfl)
set_option maxRecDepth 20000 in
theorem mkw_52 : cdW 52 ∈ lw_tbl := tq_3 _ (List.mem_of_getElem? (i := 54) rfl)
set_option maxRecDepth 20000 in
theorem mkw_53 : cdW 53 ∈ lw_tbl := tq_3 _ (List.mem_of_getElem? (i := 59) rfl)
set_option maxRecDepth 20000 in
theorem mkw_54 : cdW 54 ∈ lw_tbl := tq_3 _ (List.mem_of_getElem? (i := 63) rfl)
set_option maxRecDepth 20000 in
theorem mkw_55 : cdW 55 ∈ lw_tbl := tq_3 _ (List.mem_of_getElem? (i := 67) rfl)
set_option maxRecDepth 20000 in
theorem mkw_56 : cdW 56 ∈ lw_tbl := tq_3 _ (List.mem_of_getElem? (i := 71) rfl)
set_option maxRecDepth 20000 in
theorem mkw_57 : cdW 57 ∈ lw_tbl := tq_3 _ (List.mem_of_getElem? (i := 75) rfl)
set_option maxRecDepth 20000 in
theorem mkw_58 : cdW 58 ∈ lw_tbl := tq_3 _ (List.mem_of_getElem? (i := 80) rfl)
set_option maxRecDepth 20000 in
theorem mkw_59 : cdW 59 ∈ lw_tbl := tq_3 _ (List.mem_of_getElem? (i := 84) rfl)
set_option maxRecDepth 20000 in
theorem mkw_60 : cdW 60 ∈ lw_tbl := tq_3 _ (List.mem_of_getElem? (i := 90) rfl)
set_option maxRecDepth 20000 in
theorem mkw_61 : cdW 61 ∈ lw_tbl := tq_3 _ (List.mem_of_getElem? (i := 94) rfl)
set_option maxRecDepth 20000 in
theorem mkw_62 : cdW 62 ∈ lw_tbl := tq_3 _ (List.mem_of_getElem? (i := 98) rfl)
set_option maxRecDepth 20000 in
theorem mkw_63 : cdW 63 ∈ lw_tbl := tq_3 _ (List.mem_of_getElem? (i := 103) rfl)
set_option maxRecDepth 20000 in
theorem mkw_64 : cdW 64 ∈ lw_tbl := tq_3 _ (List.mem_of_getElem? (i := 108) rfl)
set_option maxRecDepth 20000 in
theorem mkw_65 : cdW 65 ∈ lw_tbl := tq_3 _ (List.mem_of_getElem? (i := 114) rfl)
set_option maxRecDepth 20000 in
theorem mkw_66 : cdW 66 ∈ lw_tbl := tq_3 _ (List.mem_of_getElem? (i := 119) rfl)
set_option maxRecDepth 20000 in
theorem mkw_67 : cdW 67 ∈ lw_tbl := tq_3 _ (List.mem_of_getElem? (i := 124) rfl)
set_option maxRecDepth 20000 in
theorem mkw_68 : cdW 68 ∈ lw_tbl := tq_3 _ (List.mem_of_getElem? (i := 128) rfl)
set_option maxRecDepth 20000 in
theorem mkw_69 : cdW 69 ∈ lw_tbl := tq_3 _ (List.mem_of_getElem? (i := 133) rfl)
set_option maxRecDepth 20000 in
theorem mkw_70 : cdW 70 ∈ lw_tbl := tq_3 _ (List.mem_of_getElem? (i := 137) rfl)
set_option maxRecDepth 20000 in
theorem mkw_71 : cdW 71 ∈ lw_tbl := tq_3 _ (List.mem_of_getElem? (i := 142) rfl)
set_option maxRecDepth 20000 in
theorem mkw_72 : cdW 72 ∈ lw_tbl := tq_3 _ (List.mem_of_getElem? (i := 150) rfl)
set_option maxRecDepth 20000 in
theorem mkw_73 : cdW 73 ∈ lw_tbl := tq_3 _ (List.mem_of_getElem? (i := 154) rfl)
set_option maxRecDepth 20000 in
theorem mkw_74 : cdW 74 ∈ lw_tbl := tq_3 _ (List.mem_of_getElem? (i := 157) rfl)
set_option maxRecDepth 20000 in
theorem mkw_75 : cdW 75 ∈ lw_tbl := tq_3 _ (List.mem_of_getElem? (i := 161) rfl)
set_option maxRecDepth 20000 in
theorem mkw_76 : cdW 76 ∈ lw_tbl := tq_3 _ (List.mem_of_getElem? (i := 165) rfl)
set_option maxRecDepth 20000 in
theorem mkw_77 : cdW 77 ∈ lw_tbl := tq_3 _ (List.mem_of_getElem? (i := 169) rfl)
set_option maxRecDepth 20000 in
theorem mkw_78 : cdW 78 ∈ lw_tbl := tq_3 _ (List.mem_of_getElem? (i := 174) rfl)
set_option maxRecDepth 20000 in
theorem mkw_79 : cdW 79 ∈ lw_tbl := tq_3 _ (List.mem_of_getElem? (i := 178) rfl)
set_option maxRecDepth 20000 in
theorem mkw_80 : cdW 80 ∈ lw_tbl := tq_3 _ (List.mem_of_getElem? (i := 182) rfl)
set_option maxRecDepth 20000 in
theorem mkw_81 : cdW 81 ∈ lw_tbl := tq_3 _ (List.mem_of_getElem? (i := 186) rfl)
set_option maxRecDepth 20000 in
theorem mkw_82 : cdW 82 ∈ lw_tbl := tq_3 _ (List.mem_of_getElem? (i := 190) rfl)
set_option maxRecDepth 20000 in
theorem mkw_83 : cdW 83 ∈ lw_tbl := tq_3 _ (List.mem_of_getElem? (i := 195) rfl)
set_option maxRecDepth 20000 in
theorem mkw_84 : cdW 84 ∈ lw_tbl := tq_3 _ (List.mem_of_getElem? (i := 199) rfl)
set_option maxRecDepth 20000 in
theorem mkw_85 : cdW 85 ∈ lw_tbl := tq_3 _ (List.mem_of_getElem? (i := 203) rfl)
set_option maxRecDepth 20000 in
theorem mkw_86 : cdW 86 ∈ lw_tbl := tq_3 _ (List.mem_of_getElem? (i := 207) rfl)
set_option maxRecDepth 20000 in
theorem mkw_87 : cdW 87 ∈ lw_tbl := tq_3 _ (List.mem_of_getElem? (i := 211) rfl)
set_option maxRecDepth 20000 in
theorem mkw_88 : cdW 88 ∈ lw_tbl := tq_3 _ (List.mem_of_getElem? (i := 215) rfl)
set_option maxRecDepth 20000 in
theorem mkw_89 : cdW 89 ∈ lw_tbl := tq_3 _ (List.mem_of_getElem? (i := 219) rfl)
set_option maxRecDepth 20000 in
theorem mkw_90 : cdW 90 ∈ lw_tbl := tq_3 _ (List.mem_of_getElem? (i := 223) rfl)
set_option maxRecDepth 20000 in
theorem mkw_91 : cdW 91 ∈ lw_tbl := tq_3 _ (List.mem_of_getElem? (i := 227) rfl)
set_option maxRecDepth 20000 in
theorem mkw_92 : cdW 92 ∈ lw_tbl := tq_3 _ (List.mem_of_getElem? (i := 233) rfl)
set_option maxRecDepth 20000 in
theorem mkw_93 : cdW 93 ∈ lw_tbl := tq_3 _ (List.mem_of_getElem? (i := 239) rfl)
set_option maxRecDepth 20000 in
theorem mkw_94 : cdW 94 ∈ lw_tbl := tq_4 _ (List.mem_of_getElem? (i := 6) rfl)
set_option maxRecDepth 20000 in
theorem mkw_95 : cdW 95 ∈ lw_tbl := tq_4 _ (List.mem_of_getElem? (i := 10) rfl)
set_option maxRecDepth 20000 in
theorem mkw_96 : cdW 96 ∈ lw_tbl := tq_4 _ (List.mem_of_getElem? (i := 14) rfl)
set_option maxRecDepth 20000 in
theorem mkw_97 : cdW 97 ∈ lw_tbl := tq_4 _ (List.mem_of_getElem? (i := 18) rfl)
set_option maxRecDepth 20000 in
theorem mkw_98 : cdW 98 ∈ lw_tbl := tq_4 _ (List.mem_of_getElem? (i := 24) rfl)
set_option maxRecDepth 20000 in
theorem mkw_99 : cdW 99 ∈ lw_tbl := tq_4 _ (List.mem_of_getElem? (i := 28) rfl)
set_option maxRecDepth 20000 in
theorem mkw_100 : cdW 100 ∈ lw_tbl := tq_4 _ (List.mem_of_getElem? (i := 32) rfl)
set_option maxRecDepth 20000 in
theorem mkw_101 : cdW 101 ∈ lw_tbl := tq_4 _ (List.mem_of_getElem? (i := 36) rfl)
set_option maxRecDepth 20000 in
theorem mkw_102 : cdW 102 ∈ lw_tbl := tq_4 _ (List.mem_of_getElem? (i := 41) rfl)
set_option maxRecDepth 20000 in
theorem mkw_103 : cdW 103 ∈ lw_tbl := tq_4 _ (List.mem_of_getElem? (i := 45) rfl)
set_option maxRecDepth 20000 in
theorem mkw_104 : cdW 104 ∈ lw_tbl := tq_4 _ (List.mem_of_getElem? (i := 48) rfl)
set_option maxRecDepth 20000 in
theorem mkw_105 : cdW 105 ∈ lw_tbl := tq_4 _ (List.mem_of_getElem? (i := 52) rfl)
set_option maxRecDepth 20000 in
theorem mkw_106 : cdW 106 ∈ lw_tbl := tq_4 _ (List.mem_of_getElem? (i := 56) rfl)
set_option maxRecDepth 20000 in
theorem mkw_107 : cdW 107 ∈ lw_tbl := tq_4 _ (List.mem_of_getElem? (i := 61) rfl)
set_option maxRecDepth 20000 in
theorem mkw_108 : cdW 108 ∈ lw_tbl := tq_4 _ (List.mem_of_getElem? (i := 65) rfl)
set_option maxRecDepth 20000 in
theorem mkw_109 : cdW 109 ∈ lw_tbl := tq_4 _ (List.mem_of_getElem? (i := 69) rfl)
set_option maxRecDepth 20000 in
theorem mkw_110 : cdW 110 ∈ lw_tbl := tq_4 _ (List.mem_of_getElem? (i := 73) rfl)
set_option maxRecDepth 20000 in
theorem mkw_111 : cdW 111 ∈ lw_tbl := tq_4 _ (List.mem_of_getElem? (i := 77) rfl)
set_option maxRecDepth 20000 in
theorem mkw_112 : cdW 112 ∈ lw_tbl := tq_4 _ (List.mem_of_getElem? (i := 81) rfl)
set_option maxRecDepth 20000 in
theorem mkw_113 : cdW 113 ∈ lw_tbl := tq_4 _ (List.mem_of_getElem? (i := 85) rfl)
set_option maxRecDepth 20000 in
theorem mkw_114 : cdW 114 ∈ lw_tbl := tq_4 _ (List.mem_of_getElem? (i := 89) rfl)
set_option maxRecDepth 20000 in
theorem mkw_115 : cdW 115 ∈ lw_tbl := tq_4 _ (List.mem_of_getElem? (i := 93) rfl)
set_option maxRecDepth 20000 in
theorem mkw_116 : cdW 116 ∈ lw_tbl := tq_4 _ (List.mem_of_getElem? (i := 96) rfl)
set_option maxRecDepth 20000 in
theorem mkw_117 : cdW 117 ∈ lw_tbl := tq_4 _ (List.mem_of_getElem? (i := 100) rfl)
set_option maxRecDepth 20000 in
theorem mkw_118 : cdW 118 ∈ lw_tbl := tq_4 _ (List.mem_of_getElem? (i := 104) rfl)
set_option maxRecDepth 20000 in
theorem mkw_119 : cdW 119 ∈ lw_tbl := tq_4 _ (List.mem_of_getElem? (i := 108) rfl)
set_option maxRecDepth 20000 in
theorem mkw_120 : cdW 120 ∈ lw_tbl := tq_4 _ (List.mem_of_getElem? (i := 112) rfl)
set_option maxRecDepth 20000 in
theorem mkw_121 : cdW 121 ∈ lw_tbl := tq_4 _ (List.mem_of_getElem? (i := 116) rfl)
set_option maxRecDepth 20000 in
theorem mkw_122 : cdW 122 ∈ lw_tbl := tq_4 _ (List.mem_of_getElem? (i := 120) rfl)
set_option maxRecDepth 20000 in
theorem mkw_123 : cdW 123 ∈ lw_tbl := tq_4 _ (List.mem_of_getElem? (i := 124) rfl)
set_option maxRecDepth 20000 in
theorem mkw_124 : cdW 124 ∈ lw_tbl := tq_4 _ (List.mem_of_getElem? (i := 128) rfl)
set_option maxRecDepth 20000 in
theorem mkw_125 : cdW 125 ∈ lw_tbl := tq_4 _ (List.mem_of_getElem? (i := 134) rfl)
set_option maxRecDepth 20000 in
theorem mkw_126 : cdW 126 ∈ lw_tbl := tq_4 _ (List.mem_of_getElem? (i := 138) rfl)
set_option maxRecDepth 20000 in
theorem mkw_127 : cdW 127 ∈ lw_tbl := tq_4 _ (List.mem_of_getElem? (i := 142) rfl)
set_option maxRecDepth 20000 in
theorem mkw_128 : cdW 128 ∈ lw_tbl := tq_4 _ (List.mem_of_getElem? (i := 146) rfl)
set_option maxRecDepth 20000 in
theorem mkw_129 : cdW 129 ∈ lw_tbl := tq_4 _ (List.mem_of_getElem? (i := 150) rfl)
set_option maxRecDepth 20000 in
theorem mkw_130 : cdW 130 ∈ lw_tbl := tq_4 _ (List.mem_of_getElem? (i := 154) rfl)
set_option maxRecDepth 20000 in
theorem mkw_131 : cdW 131 ∈ lw_tbl := tq_4 _ (List.mem_of_getElem? (i := 158) rfl)
set_option maxRecDepth 20000 in
theorem mkw_132 : cdW 132 ∈ lw_tbl := tq_4 _ (List.mem_of_getElem? (i := 163) rfl)
set_option maxRecDepth 20000 in
theorem mkw_133 : cdW 133 ∈ lw_tbl := tq_4 _ (List.mem_of_getElem? (i := 167) rfl)
set_option maxRecDepth 20000 in
theorem mkw_134 : cdW 134 ∈ lw_tbl := tq_4 _ (List.mem_of_getElem? (i := 171) rfl)
set_option maxRecDepth 20000 in
theorem mkw_135 : cdW 135 ∈ lw_tbl := tq_4 _ (List.mem_of_getElem? (i := 174) rfl)
set_option maxRecDepth 20000 in
theorem mkw_136 : cdW 136 ∈ lw_tbl := tq_4 _ (List.mem_of_getElem? (i := 180) rfl)
set_option maxRecDepth 20000 in
theorem mkw_137 : cdW 137 ∈ lw_tbl := tq_4 _ (List.mem_of_getElem? (i := 184) rfl)
set_option maxRecDepth 20000 in
theorem mkw_138 : cdW 138 ∈ lw_tbl := tq_4 _ (List.mem_of_getElem? (i := 188) rfl)
set_option maxRecDepth 20000 in
theorem mkw_139 : cdW 139 ∈ lw_tbl := tq_4 _ (List.mem_of_getElem? (i := 192) rfl)
set_option maxRecDepth 20000 in
theorem mkw_140 : cdW 140 ∈ lw_tbl := tq_4 _ (List.mem_of_getElem? (i := 196) rfl)
set_option maxRecDepth 20000 in
theorem mkw_141 : cdW 141 ∈ lw_tbl := tq_4 _ (List.mem_of_getElem? (i := 200) rfl)
set_option maxRecDepth 20000 in
theorem mkw_142 : cdW 142 ∈ lw_tbl := tq_4 _ (List.mem_of_getElem? (i := 204) rfl)
set_option maxRecDepth 20000 in
theorem mkw_143 : cdW 143 ∈ lw_tbl := tq_4 _ (List.mem_of_getElem? (i := 208) rfl)
set_option maxRecDepth 20000 in
theorem mkw_144 : cdW 144 ∈ lw_tbl := tq_4 _ (List.mem_of_getElem? (i := 211) rfl)
set_option maxRecDepth 20000 in
theorem mkw_145 : cdW 145 ∈ lw_tbl := tq_4 _ (List.mem_of_getElem? (i := 215) rfl)
set_option maxRecDepth 20000 in
theorem mkw_146 : cdW 146 ∈ lw_tbl := tq_4 _ (List.mem_of_getElem? (i := 219) rfl)
set_option maxRecDepth 20000 in
theorem mkw_147 : cdW 147 ∈ lw_tbl := tq_4 _ (List.mem_of_getElem? (i := 223) rfl)
set_option maxRecDepth 20000 in
theorem mkw_148 : cdW 148 ∈ lw_tbl := tq_4 _ (List.mem_of_getElem? (i := 226) rfl)
set_option maxRecDepth 20000 in
theorem mkw_149 : cdW 149 ∈ lw_tbl := tq_4 _ (List.mem_of_getElem? (i := 232) rfl)
set_option maxRecDepth 20000 in
theorem mkw_150 : cdW 150 ∈ lw_tbl := tq_4 _ (List.mem_of_getElem? (i := 236) rfl)
set_option maxRecDepth 20000 in
theorem mkw_151 : cdW 151 ∈ lw_tbl := tq_5 _ (List.mem_of_getElem? (i := 0) rfl)
set_option maxRecDepth 20000 in
theorem mkw_152 : cdW 152 ∈ lw_tbl := tq_5 _ (List.mem_of_getElem? (i := 3) rfl)
set_option maxRecDepth 20000 in
theorem mkw_153 : cdW 153 ∈ lw_tbl := tq_5 _ (List.mem_of_getElem? (i := 6) rfl)
set_option maxRecDepth 20000 in
theorem mkw_154 : cdW 154 ∈ lw_tbl := tq_5 _ (List.mem_of_getElem? (i := 11) rfl)
set_option maxRecDepth 20000 in
theorem mkw_155 : cdW 155 ∈ lw_tbl := tq_5 _ (List.mem_of_getElem? (i := 15) rfl)
set_option maxRecDepth 20000 in
theorem mkw_156 : cdW 156 ∈ lw_tbl := tq_5 _ (List.mem_of_getElem? (i := 19) rfl)
set_option maxRecDepth 20000 in
theorem mkw_157 : cdW 157 ∈ lw_tbl := tq_5 _ (List.mem_of_getElem? (i := 23) rfl)
set_option maxRecDepth 20000 in
theorem mkw_158 : cdW 158 ∈ lw_tbl := tq_5 _ (List.mem_of_getElem? (i := 27) rfl)
set_option maxRecDepth 20000 in
theorem mkw_159 : cdW 159 ∈ lw_tbl := tq_5 _ (List.mem_of_getElem? (i := 34) rfl)
set_option maxRecDepth 20000 in
theorem mkw_160 : cdW 160 ∈ lw_tbl := tq_5 _ (List.mem_of_getElem? (i := 38) rfl)
set_option maxRecDepth 20000 in
theorem mkw_161 : cdW 161 ∈ lw_tbl := tq_5 _ (List.mem_of_getElem? (i := 44) rfl)
set_option maxRecDepth 20000 in
theorem mkw_162 : cdW 162 ∈ lw_tbl := tq_5 _ (List.mem_of_getElem? (i := 48) rfl)
set_option maxRecDepth 20000 in
theorem mkw_163 : cdW 163 ∈ lw_tbl := tq_5 _ (List.mem_of_getElem? (i := 53) rfl)
set_option maxRecDepth 20000 in
theorem mkw_164 : cdW 164 ∈ lw_tbl := tq_5 _ (List.mem_of_getElem? (i := 57) rfl)
set_option maxRecDepth 20000 in
theorem mkw_165 : cdW 165 ∈ lw_tbl := tq_5 _ (List.mem_of_getElem? (i := 61) rfl)
set_option maxRecDepth 20000 in
theorem mkw_166 : cdW 166 ∈ lw_tbl := tq_5 _ (List.mem_of_getElem? (i := 65) rfl)
set_option maxRecDepth 20000 in
theorem mkw_167 : cdW 167 ∈ lw_tbl := tq_5 _ (List.mem_of_getElem? (i := 70) rfl)
set_option maxRecDepth 20000 in
theorem mkw_168 : cdW 168 ∈ lw_tbl := tq_5 _ (List.mem_of_getElem? (i := 101) rfl)
set_option maxRecDepth 20000 in
theorem mkw_169 : cdW 169 ∈ lw_tbl := tq_5 _ (List.mem_of_getElem? (i := 106) rfl)
set_option maxRecDepth 20000 in
theorem mkw_170 : cdW 170 ∈ lw_tbl := tq_5 _ (List.mem_of_getElem? (i := 111) rfl)
set_option maxRecDepth 20000 in
theorem mkw_171 : cdW 171 ∈ lw_tbl := tq_5 _ (List.mem_of_getElem? (i := 115) rfl)
set_option maxRecDepth 20000 in
theorem mkw_172 : cdW 172 ∈ lw_tbl := tq_5 _ (List.mem_of_getElem? (i := 121) rfl)
set_option maxRecDepth 20000 in
theorem mkw_173 : cdW 173 ∈ lw_tbl := tq_5 _ (List.mem_of_getElem? (i := 125) rfl)
set_option maxRecDepth 20000 in
theorem mkw_174 : cdW 174 ∈ lw_tbl := tq_5 _ (List.mem_of_getElem? (i := 129) rfl)
set_option maxRecDepth 20000 in
theorem mkw_175 : cdW 175 ∈ lw_tbl := tq_5 _ (List.mem_of_getElem? (i := 135) rfl)
set_option maxRecDepth 20000 in
theorem mkw_176 : cdW 176 ∈ lw_tbl := tq_5 _ (List.mem_of_getElem? (i := 139) rfl)
set_option maxRecDepth 20000 in
theorem mkw_177 : cdW 177 ∈ lw_tbl := tq_5 _ (List.mem_of_getElem? (i := 143) rfl)
set_option maxRecDepth 20000 in
theorem mkw_178 : cdW 178 ∈ lw_tbl := tq_5 _ (List.mem_of_getElem? (i := 147) rfl)
set_option maxRecDepth 20000 in
theorem mkw_179 : cdW 179 ∈ lw_tbl := tq_5 _ (List.mem_of_getElem? (i := 151) rfl)
set_option maxRecDepth 20000 in
theorem mkw_180 : cdW 180 ∈ lw_tbl := tq_5 _ (List.mem_of_getElem? (i := 155) rfl)
set_option maxRecDepth 20000 in
theorem mkw_181 : cdW 181 ∈ lw_tbl := tq_5 _ (List.mem_of_getElem? (i := 159) rfl)
set_option maxRecDepth 20000 in
theorem mkw_182 : cdW 182 ∈ lw_tbl := tq_5 _ (List.mem_of_getElem? (i := 163) rfl)
set_option maxRecDepth 20000 in
theorem mkw_183 : cdW 183 ∈ lw_tbl := tq_5 _ (List.mem_of_getElem? (i := 167) rfl)
set_option maxRecDepth 20000 in
theorem mkw_184 : cdW 184 ∈ lw_tbl := tq_5 _ (List.mem_of_getElem? (i := 171) rfl)
set_option maxRecDepth 20000 in
theorem mkw_185 : cdW 185 ∈ lw_tbl := tq_5 _ (List.mem_of_getElem? (i := 175) rfl)
set_option maxRecDepth 20000 in
theorem mkw_186 : cdW 186 ∈ lw_tbl := tq_5 _ (List.mem_of_getElem? (i := 179) rfl)
set_option maxRecDepth 20000 in
theorem mkw_187 : cdW 187 ∈ lw_tbl := tq_5 _ (List.mem_of_getElem? (i := 183) rfl)
set_option maxRecDepth 20000 in
theorem mkw_188 : cdW 188 ∈ lw_tbl := tq_5 _ (List.mem_of_getElem? (i := 187) rfl)
set_option maxRecDepth 20000 in
theorem mkw_189 : cdW 189 ∈ lw_tbl := tq_5 _ (List.mem_of_getElem? (i := 192) rfl)
set_option maxRecDepth 20000 in
theorem mkw_190 : cdW 190 ∈ lw_tbl := tq_5 _ (List.mem_of_getElem? (i := 196) rfl)
set_option maxRecDepth 20000 in
theorem mkw_191 : cdW 191 ∈ lw_tbl := tq_5 _ (List.mem_of_getElem? (i := 200) rfl)
set_option maxRecDepth 20000 in
theorem mkw_192 : cdW 192 ∈ lw_tbl := tq_5 _ (List.mem_of_getElem? (i := 204) rfl)
set_option maxRecDepth 20000 in
theorem mkw_193 : cdW 193 ∈ lw_tbl := tq_5 _ (List.mem_of_getElem? (i := 209) rfl)
set_option maxRecDepth 20000 in
theorem mkw_194 : cdW 194 ∈ lw_tbl := tq_5 _ (List.mem_of_getElem? (i := 213) rfl)
set_option maxRecDepth 20000 in
theorem mkw_195 : cdW 195 ∈ lw_tbl := tq_5 _ (List.mem_of_getElem? (i := 217) rfl)
set_option maxRecDepth 20000 in
theorem mkw_196 : cdW 196 ∈ lw_tbl := tq_5 _ (List.mem_of_getElem? (i := 221) rfl)
set_option maxRecDepth 20000 in
theorem mkw_197 : cdW 197 ∈ lw_tbl := tq_5 _ (List.mem_of_getElem? (i := 226) rfl)
set_option maxRecDepth 20000 in
theorem mkw_198 : cdW 198 ∈ lw_tbl := tq_5 _ (List.mem_of_getElem? (i := 230) rfl)
set_option maxRecDepth 20000 in
theorem mkw_199 : cdW 199 ∈ lw_tbl := tq_5 _ (List.mem_of_getElem? (i := 237) rfl)
set_option maxRecDepth 20000 in
theorem mkw_200 : cdW 200 ∈ lw_tbl := tq_6 _ (List.mem_of_getElem? (i := 1) rfl)
set_option maxRecDepth 20000 in
theorem mkw_201 : cdW 201 ∈ lw_tbl := tq_6 _ (List.mem_of_getElem? (i := 5) rfl)
set_option maxRecDepth 20000 in
theorem mkw_202 : cdW 202 ∈ lw_tbl := tq_6 _ (List.mem_of_getElem? (i := 9) rfl)
set_option maxRecDepth 20000 in
theorem mkw_203 : cdW 203 ∈ lw_tbl := tq_6 _ (List.mem_of_getElem? (i := 13) rfl)
set_option maxRecDepth 20000 in
theorem mkw_204 : cdW 204 ∈ lw_tbl := tq_6 _ (List.mem_of_getElem? (i := 20) rfl)
set_option maxRecDepth 20000 in
theorem mkw_205 : cdW 205 ∈ lw_tbl := tq_6 _ (List.mem_of_getElem? (i := 25) rfl)
set_option maxRecDepth 20000 in
theorem mkw_206 : cdW 206 ∈ lw_tbl := tq_7 _ (List.mem_of_getElem? (i := 55) rfl)
set_option maxRecDepth 20000 in
theorem mkw_207 : cdW 207 ∈ lw_tbl := tq_7 _ (List.mem_of_getElem? (i := 59) rfl)
set_option maxRecDepth 20000 in
theorem mkw_208 : cdW 208 ∈ lw_tbl := tq_7 _ (List.mem_of_getElem? (i := 63) rfl)
set_option maxRecDepth 20000 in
theorem mkw_209 : cdW 209 ∈ lw_tbl := tq_7 _ (List.mem_of_getElem? (i := 67) rfl)
set_option maxRecDepth 20000 in
theorem mkw_210 : cdW 210 ∈ lw_tbl := tq_7 _ (List.mem_of_getElem? (i := 71) rfl)
set_option maxRecDepth 20000 in
theorem mkw_211 : cdW 211 ∈ lw_tbl := tq_7 _ (List.mem_of_getElem? (i := 75) rfl)
set_option maxRecDepth 20000 in
theorem mkw_212 : cdW 212 ∈ lw_tbl := tq_7 _ (List.mem_of_getElem? (i := 79) rfl)
set_option maxRecDepth 20000 in
theorem mkw_213 : cdW 213 ∈ lw_tbl := tq_7 _ (List.mem_of_getElem? (i := 82) rfl)
set_option maxRecDepth 20000 in
theorem mkw_214 : cdW 214 ∈ lw_tbl := tq_7 _ (List.mem_of_getElem? (i := 85) rfl)
set_option maxRecDepth 20000 in
theorem mkw_215 : cdW 215 ∈ lw_tbl := tq_7 _ (List.mem_of_getElem? (i := 88) rfl)
set_option maxRecDepth 20000 in
theorem mkw_216 : cdW 216 ∈ lw_tbl := tq_7 _ (List.mem_of_getElem? (i := 92) rfl)
set_option maxRecDepth 20000 in
theorem mkw_217 : cdW 217 ∈ lw_tbl := tq_7 _ (List.mem_of_getElem? (i := 97) rfl)
set_option maxRecDepth 20000 in
theorem mkw_218 : cdW 218 ∈ lw_tbl := tq_7 _ (List.mem_of_getElem? (i := 101) rfl)
set_option maxRecDepth 20000 in
theorem mkw_219 : cdW 219 ∈ lw_tbl := tq_7 _ (List.mem_of_getElem? (i := 105) rfl)
set_option maxRecDepth 20000 in
theorem mkw_220 : cdW 220 ∈ lw_tbl := tq_7 _ (List.mem_of_getElem? (i := 109) rfl)
set_option maxRecDepth 20000 in
theorem mkw_221 : cdW 221 ∈ lw_tbl := tq_7 _ (List.mem_of_getElem? (i := 113) rfl)
set_option maxRecDepth 20000 in
theorem mkw_222 : cdW 222 ∈ lw_tbl := tq_7 _ (List.mem_of_getElem? (i := 136) rfl)
set_option maxRecDepth 20000 in
theorem mkw_223 : cdW 223 ∈ lw_tbl := tq_7 _ (List.mem_of_getElem? (i := 140) rfl)
set_option maxRecDepth 20000 in
theorem mkw_224 : cdW 224 ∈ lw_tbl := tq_7 _ (List.mem_of_getElem? (i := 144) rfl)
set_option maxRecDepth 20000 in
theorem mkw_225 : cdW 225 ∈ lw_tbl := tq_7 _ (List.mem_of_getElem? (i := 148) rfl)
set_option maxRecDepth 20000 in
theorem mkw_226 : cdW 226 ∈ lw_tbl := tq_7 _ (List.mem_of_getElem? (i := 152) rfl)
set_option maxRecDepth 20000 in
theorem mkw_227 : cdW 227 ∈ lw_tbl := tq_7 _ (List.mem_of_getElem? (i := 156) rfl)
set_option maxRecDepth 20000 in
theorem mkw_228 : cdW 228 ∈ lw_tbl := tq_7 _ (List.mem_of_getElem? (i := 160) rfl)
set_option maxRecDepth 20000 in
theorem mkw_229 : cdW 229 ∈ lw_tbl := tq_7 _ (List.mem_of_getElem? (i := 164) rfl)
set_option maxRecDepth 20000 in
theorem mkw_230 : cdW 230 ∈ lw_tbl := tq_7 _ (List.mem_of_getElem? (i := 168) rfl)
set_option maxRecDepth 20000 in
theorem mkw_231 : cdW 231 ∈ lw_tbl := tq_7 _ (List.mem_of_getElem? (i := 172) rfl)
set_option maxRecDepth 20000 in
theorem mkw_232 : cdW 232 ∈ lw_tbl := tq_7 _ (List.mem_of_getElem? (i := 176) rfl)
set_option maxRecDepth 20000 in
theorem mkw_233 : cdW 233 ∈ lw_tbl := tq_7 _ (List.mem_of_getElem? (i := 180) rfl)
set_option maxRecDepth 20000 in
theorem mkw_234 : cdW 234 ∈ lw_tbl := tq_7 _ (List.mem_of_getElem? (i := 184) rfl)
set_option maxRecDepth 20000 in
theorem mkw_235 : cdW 235 ∈ lw_tbl := tq_7 _ (List.mem_of_getElem? (i := 187) rfl)
set_option maxRecDepth 20000 in
theorem mkw_236 : cdW 236 ∈ lw_tbl := tq_7 _ (List.mem_of_getElem? (i := 191) rfl)
set_option maxRecDepth 20000 in
theorem mkw_237 : cdW 237 ∈ lw_tbl := tq_7 _ (List.mem_of_getElem? (i := 195) rfl)
set_option maxRecDepth 20000 in
theorem mkw_238 : cdW 238 ∈ lw_tbl := tq_7 _ (List.mem_of_getElem? (i := 199) rfl)
set_option maxRecDepth 20000 in
theorem mkw_239 : cdW 239 ∈ lw_tbl := tq_7 _ (List.mem_of_getElem? (i := 203) rfl)
set_option maxRecDepth 20000 in
theorem mkw_240 : cdW 240 ∈ lw_tbl := tq_7 _ (List.mem_of_getElem? (i := 207) rfl)
set_option maxRecDepth 20000 in
theorem mkw_241 : cdW 241 ∈ lw_tbl := tq_7 _ (List.mem_of_getElem? (i := 211) rfl)
set_option maxRecDepth 20000 in
theorem mkw_242 : cdW 242 ∈ lw_tbl := tq_7 _ (List.mem_of_getElem? (i := 215) rfl)
set_option maxRecDepth 20000 in
theorem mkw_243 : cdW 243 ∈ lw_tbl := tq_7 _ (List.mem_of_getElem? (i := 219) rfl)
set_option maxRecDepth 20000 in
theorem mkw_244 : cdW 244 ∈ lw_tbl := tq_7 _ (List.mem_of_getElem? (i := 223) rfl)
set_option maxRecDepth 20000 in
theorem mkw_245 : cdW 245 ∈ lw_tbl := tq_7 _ (List.mem_of_getElem? (i := 227) rfl)
set_option maxRecDepth 20000 in
theorem mkw_246 : cdW 246 ∈ lw_tbl := tq_7 _ (List.mem_of_getElem? (i := 231) rfl)
set_option maxRecDepth 20000 in
theorem mkw_247 : cdW 247 ∈ lw_tbl := tq_7 _ (List.mem_of_getElem? (i := 235) rfl)
set_option maxRecDepth 20000 in
theorem mkw_248 : cdW 248 ∈ lw_tbl := tq_7 _ (List.mem_of_getElem? (i := 239) rfl)
set_option maxRecDepth 20000 in
theorem mkw_249 : cdW 249 ∈ lw_tbl := tq_8 _ (List.mem_of_getElem? (i := 2) rfl)
set_option maxRecDepth 20000 in
theorem mkw_250 : cdW 250 ∈ lw_tbl := tq_8 _ (List.mem_of_getElem? (i := 5) rfl)
set_option maxRecDepth 20000 in
theorem mkw_251 : cdW 251 ∈ lw_tbl := tq_8 _ (List.mem_of_getElem? (i := 9) rfl)
set_option maxRecDepth 20000 in
theorem mkw_252 : cdW 252 ∈ lw_tbl := tq_8 _ (List.mem_of_getElem? (i := 13) rfl)
set_option maxRecDepth 20000 in
theorem mkw_253 : cdW 253 ∈ lw_tbl := tq_8 _ (List.mem_of_getElem? (i := 17) rfl)
set_option maxRecDepth 20000 in
theorem mkw_254 : cdW 254 ∈ lw_tbl := tq_8 _ (List.mem_of_getElem? (i := 21) rfl)
set_option maxRecDepth 20000 in
theorem mkw_255 : cdW 255 ∈ lw_tbl := tq_8 _ (List.mem_of_getElem? (i := 25) rfl)
set_option maxRecDepth 20000 in
theorem mkw_256 : cdW 256 ∈ lw_tbl := tq_8 _ (List.mem_of_getElem? (i := 29) rfl)
set_option maxRecDepth 20000 in
theorem mkw_257 : cdW 257 ∈ lw_tbl := tq_8 _ (List.mem_of_getElem? (i := 33) rfl)
set_option maxRecDepth 20000 in
theorem mkw_258 : cdW 258 ∈ lw_tbl := tq_8 _ (List.mem_of_getElem? (i := 36) rfl)
set_option maxRecDepth 20000 in
theorem mkw_259 : cdW 259 ∈ lw_tbl := tq_8 _ (List.mem_of_getElem? (i := 40) rfl)
set_option maxRecDepth 20000 in
theorem mkw_260 : cdW 260 ∈ lw_tbl := tq_8 _ (List.mem_of_getElem? (i := 44) rfl)
set_option maxRecDepth 20000 in
theorem mkw_261 : cdW 261 ∈ lw_tbl := tq_8 _ (List.mem_of_getElem? (i := 48) rfl)
set_option maxRecDepth 20000 in
theorem mkw_262 : cdW 262 ∈ lw_tbl := tq_8 _ (List.mem_of_getElem? (i := 52) rfl)
set_option maxRecDepth 20000 in
theorem mkw_263 : cdW 263 ∈ lw_tbl := tq_8 _ (List.mem_of_getElem? (i := 56) rfl)
set_option maxRecDepth 20000 in
theorem mkw_264 : cdW 264 ∈ lw_tbl := tq_8 _ (List.mem_of_getElem? (i := 60) rfl)
set_option maxRecDepth 20000 in
theorem mkw_265 : cdW 265 ∈ lw_tbl := tq_8 _ (List.mem_of_getElem? (i := 64) rfl)
set_option maxRecDepth 20000 in
theorem mkw_266 : cdW 266 ∈ lw_tbl := tq_8 _ (List.mem_of_getElem? (i := 68) rfl)
set_option maxRecDepth 20000 in
theorem mkw_267 : cdW 267 ∈ lw_tbl := tq_8 _ (List.mem_of_getElem? (i := 72) rfl)
set_option maxRecDepth 20000 in
theorem mkw_268 : cdW 268 ∈ lw_tbl := tq_8 _ (List.mem_of_getElem? (i := 76) rfl)
set_option maxRecDepth 20000 in
theorem mkw_269 : cdW 269 ∈ lw_tbl := tq_8 _ (List.mem_of_getElem? (i := 80) rfl)
set_option maxRecDepth 20000 in
theorem mkw_270 : cdW 270 ∈ lw_tbl := tq_8 _ (List.mem_of_getElem? (i := 84) rfl)
set_option maxRecDepth 20000 in
theorem mkw_271 : cdW 271 ∈ lw_tbl := tq_8 _ (List.mem_of_getElem? (i := 87) rfl)
set_option maxRecDepth 20000 in
theorem mkw_272 : cdW 272 ∈ lw_tbl := tq_8 _ (List.mem_of_getElem? (i := 91) rfl)
set_option maxRecDepth 20000 in
theorem mkw_273 : cdW 273 ∈ lw_tbl := tq_8 _ (List.mem_of_getElem? (i := 95) rfl)
set_option maxRecDepth 20000 in
theorem mkw_274 : cdW 274 ∈ lw_tbl := tq_8 _ (List.mem_of_getElem? (i := 99) rfl)
set_option maxRecDepth 20000 in
theorem mkw_275 : cdW 275 ∈ lw_tbl := tq_8 _ (List.mem_of_getElem? (i := 103) rfl)
set_option maxRecDepth 20000 in
theorem mkw_276 : cdW 276 ∈ lw_tbl := tq_8 _ (List.mem_of_getElem? (i := 107) rfl)
set_option maxRecDepth 20000 in
theorem mkw_277 : cdW 277 ∈ lw_tbl := tq_8 _ (List.mem_of_getElem? (i := 111) rfl)
set_option maxRecDepth 20000 in
theorem mkw_278 : cdW 278 ∈ lw_tbl := tq_8 _ (List.mem_of_getElem? (i := 115) rfl)
set_option maxRecDepth 20000 in
theorem mkw_279 : cdW 279 ∈ lw_tbl := tq_8 _ (List.mem_of_getElem? (i := 119) rfl)
set_option maxRecDepth 20000 in
theorem mkw_280 : cdW 280 ∈ lw_tbl := tq_8 _ (List.mem_of_getElem? (i := 123) rfl)
set_option maxRecDepth 20000 in
theorem mkw_281 : cdW 281 ∈ lw_tbl := tq_8 _ (List.mem_of_getElem? (i := 127) rfl)
set_option maxRecDepth 20000 in
theorem mkw_282 : cdW 282 ∈ lw_tbl := tq_8 _ (List.mem_of_getElem? (i := 130) rfl)
set_option maxRecDepth 20000 in
theorem mkw_283 : cdW 283 ∈ lw_tbl := tq_8 _ (List.mem_of_getElem? (i := 134) rfl)
set_option maxRecDepth 20000 in
theorem mkw_284 : cdW 284 ∈ lw_tbl := tq_8 _ (List.mem_of_getElem? (i := 138) rfl)
set_option maxRecDepth 20000 in
theorem mkw_285 : cdW 285 ∈ lw_tbl := tq_8 _ (List.mem_of_getElem? (i := 142) rfl)
set_option maxRecDepth 20000 in
theorem mkw_286 : cdW 286 ∈ lw_tbl := tq_8 _ (List.mem_of_getElem? (i := 146) rfl)
set_option maxRecDepth 20000 in
theorem mkw_287 : cdW 287 ∈ lw_tbl := tq_8 _ (List.mem_of_getElem? (i := 150) rfl)
set_option maxRecDepth 20000 in
theorem mkw_288 : cdW 288 ∈ lw_tbl := tq_8 _ (List.mem_of_getElem? (i := 154) rfl)
set_option maxRecDepth 20000 in
theorem mkw_289 : cdW 289 ∈ lw_tbl := tq_8 _ (List.mem_of_getElem? (i := 157) rfl)
set_option maxRecDepth 20000 in
theorem mkw_290 : cdW 290 ∈ lw_tbl := tq_8 _ (List.mem_of_getElem? (i := 161) rfl)
set_option maxRecDepth 20000 in
theorem mkw_291 : cdW 291 ∈ lw_tbl := tq_8 _ (List.mem_of_getElem? (i := 165) rfl)
set_option maxRecDepth 20000 in
theorem mkw_292 : cdW 292 ∈ lw_tbl := tq_8 _ (List.mem_of_getElem? (i := 169) rfl)
set_option maxRecDepth 20000 in
theorem mkw_293 : cdW 293 ∈ lw_tbl := tq_8 _ (List.mem_of_getElem? (i := 173) rfl)
set_option maxRecDepth 20000 in
theorem mkw_294 : cdW 294 ∈ lw_tbl := tq_8 _ (List.mem_of_getElem? (i := 177) rfl)
set_option maxRecDepth 20000 in
theorem mkw_295 : cdW 295 ∈ lw_tbl := tq_8 _ (List.mem_of_getElem? (i := 181) rfl)
set_option maxRecDepth 20000 in
theorem mkw_296 : cdW 296 ∈ lw_tbl := tq_8 _ (List.mem_of_getElem? (i := 185) rfl)
set_option maxRecDepth 20000 in
theorem mkw_297 : cdW 297 ∈ lw_tbl := tq_8 _ (List.mem_of_getElem? (i := 189) rfl)
set_option maxRecDepth 20000 in
theorem mkw_298 : cdW 298 ∈ lw_tbl := tq_8 _ (List.mem_of_getElem? (i := 193) rfl)
set_option maxRecDepth 20000 in
theorem mkw_299 : cdW 299 ∈ lw_tbl := tq_8 _ (List.mem_of_getElem? (i := 197) rfl)
set_option maxRecDepth 20000 in
theorem mkw_300 : cdW 300 ∈ lw_tbl := tq_8 _ (List.mem_of_getElem? (i := 201) rfl)
set_option maxRecDepth 20000 in
theorem mkw_301 : cdW 301 ∈ lw_tbl := tq_8 _ (List.mem_of_getElem? (i := 205) rfl)
set_option maxRecDepth 20000 in
theorem mkw_302 : cdW 302 ∈ lw_tbl := tq_8 _ (List.mem_of_getElem? (i := 210) rfl)
set_option maxRecDepth 20000 in
theorem mkw_303 : cdW 303 ∈ lw_tbl := tq_8 _ (List.mem_of_getElem? (i := 214) rfl)
set_option maxRecDepth 20000 in
theorem mkw_304 : cdW 304 ∈ lw_tbl := tq_8 _ (List.mem_of_getElem? (i := 218) rfl)
set_option maxRecDepth 20000 in
theorem mkw_305 : cdW 305 ∈ lw_tbl := tq_8 _ (List.mem_of_getElem? (i := 222) rfl)
set_option maxRecDepth 20000 in
theorem mkw_306 : cdW 306 ∈ lw_tbl := tq_8 _ (List.mem_of_getElem? (i := 226) rfl)
set_option maxRecDepth 20000 in
theorem mkw_307 : cdW 307 ∈ lw_tbl := tq_8 _ (List.mem_of_getElem? (i := 230) rfl)
set_option maxRecDepth 20000 in
theorem mkw_308 : cdW 308 ∈ lw_tbl := tq_8 _ (List.mem_of_getElem? (i := 234) rfl)
set_option maxRecDepth 20000 in
theorem mkw_309 : cdW 309 ∈ lw_tbl := tq_8 _ (List.mem_of_getElem? (i := 238) rfl)
set_option maxRecDepth 20000 in
theorem mkw_310 : cdW 310 ∈ lw_tbl := tq_9 _ (List.mem_of_getElem? (i := 2) rfl)
set_option maxRecDepth 20000 in
theorem mkw_311 : cdW 311 ∈ lw_tbl := tq_9 _ (List.mem_of_getElem? (i := 6) rfl)
set_option maxRecDepth 20000 in
theorem mkw_312 : cdW 312 ∈ lw_tbl := tq_9 _ (List.mem_of_getElem? (i := 9) rfl)
set_option maxRecDepth 20000 in
theorem mkw_313 : cdW 313 ∈ lw_tbl := tq_9 _ (List.mem_of_getElem? (i := 13) rfl)
set_option maxRecDepth 20000 in
theorem mkw_314 : cdW 314 ∈ lw_tbl := tq_9 _ (List.mem_of_getElem? (i := 16) rfl)
set_option maxRecDepth 20000 in
theorem mkw_315 : cdW 315 ∈ lw_tbl := tq_9 _ (List.mem_of_getElem? (i := 20) rfl)
set_option maxRecDepth 20000 in
theorem mkw_316 : cdW 316 ∈ lw_tbl := tq_9 _ (List.mem_of_getElem? (i := 24) rfl)
set_option maxRecDepth 20000 in
theorem mkw_317 : cdW 317 ∈ lw_tbl := tq_9 _ (List.mem_of_getElem? (i := 28) rfl)
set_option maxRecDepth 20000 in
theorem mkw_318 : cdW 318 ∈ lw_tbl := tq_9 _ (List.mem_of_getElem? (i := 32) rfl)
set_option maxRecDepth 20000 in
theorem mkw_319 : cdW 319 ∈ lw_tbl := tq_9 _ (List.mem_of_getElem? (i := 36) rfl)
set_option maxRecDepth 20000 in
theorem mkw_320 : cdW 320 ∈ lw_tbl := tq_9 _ (List.mem_of_getElem? (i := 40) rfl)
set_option maxRecDepth 20000 in
theorem mkw_321 : cdW 321 ∈ lw_tbl := tq_9 _ (List.mem_of_getElem? (i := 45) rfl)
set_option maxRecDepth 20000 in
theorem mkw_322 : cdW 322 ∈ lw_tbl := tq_9 _ (List.mem_of_getElem? (i := 49) rfl)
set_option maxRecDepth 20000 in
theorem mkw_323 : cdW 323 ∈ lw_tbl := tq_9 _ (List.mem_of_getElem? (i := 53) rfl)
set_option maxRecDepth 20000 in
theorem mkw_324 : cdW 324 ∈ lw_tbl := tq_9 _ (List.mem_of_getElem? (i := 57) rfl)
set_option maxRecDepth 20000 in
theorem mkw_325 : cdW 325 ∈ lw_tbl := tq_9 _ (List.mem_of_getElem? (i := 60) rfl)
set_option maxRecDepth 20000 in
theorem mkw_326 : cdW 326 ∈ lw_tbl := tq_9 _ (List.mem_of_getElem? (i := 64) rfl)
set_option maxRecDepth 20000 in
theorem mkw_327 : cdW 327 ∈ lw_tbl := tq_9 _ (List.mem_of_getElem? (i := 68) rfl)
theorem mkc_0 : ∀ k ∈ mks_0, cdW k ∈ lw_tbl := List.forall_mem_cons.mpr ⟨mkw_1, List.forall_mem_cons.mpr ⟨mkw_2, List.forall_mem_cons.mpr ⟨mkw_3, List.forall_mem_cons.mpr ⟨mkw_4, List.forall_mem_cons.mpr ⟨mkw_5, List.forall_mem_cons.mpr ⟨mkw_6, List.forall_mem_cons.mpr ⟨mkw_7, List.forall_mem_cons.mpr ⟨mkw_8, List.forall_mem_cons.mpr ⟨mkw_9, List.forall_mem_cons.mpr ⟨mkw_10, List.forall_mem_cons.mpr ⟨mkw_11, List.forall_mem_cons.mpr ⟨mkw_12, List.forall_mem_cons.mpr ⟨mkw_13, List.forall_mem_cons.mpr ⟨mkw_14, List.forall_mem_cons.mpr ⟨mkw_15, List.forall_mem_cons.mpr ⟨mkw_16, fun _ h => absurd h List.not_mem_nil⟩⟩⟩⟩⟩⟩⟩⟩⟩⟩⟩⟩⟩⟩⟩⟩
theorem mkc_1 : ∀ k ∈ mks_1, cdW k ∈ lw_tbl := List.forall_mem_cons.mpr ⟨mkw_17, List.forall_mem_cons.mpr ⟨mkw_18, List.forall_mem_cons.mpr ⟨mkw_19, List.forall_mem_cons.mpr ⟨mkw_20, List.forall_mem_cons.mpr ⟨mkw_21, List.forall_mem_cons.mpr ⟨mkw_22, List.forall_mem_cons.mpr ⟨mkw_23, List.forall_mem_cons.mpr ⟨mkw_24, List.forall_mem_cons.mpr ⟨mkw_25, List.forall_mem_cons.mpr ⟨mkw_26, List.forall_mem_cons.mpr ⟨mkw_27, List.forall_mem_cons.mpr ⟨mkw_28, List.forall_mem_cons.mpr ⟨mkw_29, List.forall_mem_cons.mpr ⟨mkw_30, List.forall_mem_cons.mpr ⟨mkw_31, List.forall_mem_cons.mpr ⟨mkw_32, fun _ h => absurd h List.not_mem_nil⟩⟩⟩⟩⟩⟩⟩⟩⟩⟩⟩⟩⟩⟩⟩⟩
theorem mkc_2 : ∀ k ∈ mks_2, cdW k ∈ lw_tbl := List.forall_mem_cons.mpr ⟨mkw_33, List.forall_mem_cons.mpr ⟨mkw_34, List.forall_mem_cons.mpr ⟨mkw_35, List.forall_mem_cons.mpr ⟨mkw_36, List.forall_mem_cons.mpr ⟨mkw_37, List.forall_mem_cons.mpr ⟨mkw_38, List.forall_mem_cons.mpr ⟨mkw_39, List.forall_mem_cons.mpr ⟨mkw_40, List.forall_mem_cons.mpr ⟨mkw_41, List.forall_mem_cons.mpr ⟨mkw_42, List.forall_mem_cons.mpr ⟨mkw_43, List.forall_mem_cons.mpr ⟨mkw_44, List.forall_mem_cons.mpr ⟨mkw_45, List.forall_mem_cons.mpr ⟨mkw_46, List.forall_mem_cons.mpr ⟨mkw_47, List.forall_mem_cons.mpr ⟨mkw_48, fun _ h => absurd h List.not_mem_nil⟩⟩⟩⟩⟩⟩⟩⟩⟩⟩⟩⟩⟩⟩⟩⟩
theorem mkc_3 : ∀ k ∈ mks_3, cdW k ∈ lw_tbl := List.forall_mem_cons.mpr ⟨mkw_49, List.forall_mem_cons.mpr ⟨mkw_50, List.forall_mem_cons.mpr ⟨mkw_51, List.forall_mem_cons.mpr ⟨mkw_52, List.forall_mem_cons.mpr ⟨mkw_53, List.forall_mem_cons.mpr ⟨mkw_54, List.forall_mem_cons.mpr ⟨mkw_55, List.forall_mem_cons.mpr ⟨mkw_56, List.forall_mem_cons.mpr ⟨mkw_57, List.forall_mem_cons.mpr ⟨mkw_58, List.forall_mem_cons.mpr ⟨mkw_59, List.forall_mem_cons.mpr ⟨mkw_60, List.forall_mem_cons.mpr ⟨mkw_61, List.forall_mem_cons.mpr ⟨mkw_62, List.forall_mem_cons.mpr ⟨mkw_63, List.forall_mem_cons.mpr ⟨mkw_64, fun _ h => absurd h List.not_mem_nil⟩⟩⟩⟩⟩⟩⟩⟩⟩⟩⟩⟩⟩⟩⟩⟩
theorem mkc_4 : ∀ k ∈ mks_4, cdW k ∈ lw_tbl := List.forall_mem_cons.mpr ⟨mkw_65, List.forall_mem_cons.mpr ⟨mkw_66, List.forall_mem_cons.mpr ⟨mkw_67, List.forall_mem_cons.mpr ⟨mkw_68, List.forall_mem_cons.mpr ⟨mkw_69, List.forall_mem_cons.mpr ⟨mkw_70, List.forall_mem_cons.mpr ⟨mkw_71, List.forall_mem_cons.mpr ⟨mkw_72, List.forall_mem_cons.mpr ⟨mkw_73, List.forall_mem_cons.mpr ⟨mkw_74, List.forall_mem_cons.mpr ⟨mkw_75, List.forall_mem_cons.mpr ⟨mkw_76, List.forall_mem_cons.mpr ⟨mkw_77, List.forall_mem_cons.mpr ⟨mkw_78, List.forall_mem_cons.mpr ⟨mkw_79, List.forall_mem_cons.mpr ⟨mkw_80, fun _ h => absurd h List.not_mem_nil⟩⟩⟩⟩⟩⟩⟩⟩⟩⟩⟩⟩⟩⟩⟩⟩
theorem mkc_5 : ∀ k ∈ mks_5, cdW k ∈ lw_tbl := List.forall_mem_cons.mpr ⟨mkw_81, List.forall_mem_cons.mpr ⟨mkw_82, List.forall_mem_cons.mpr ⟨mkw_83, List.forall_mem_cons.mpr ⟨mkw_84, List.forall_mem_cons.mpr ⟨mkw_85, List.forall_mem_cons.mpr ⟨mkw_86, List.forall_mem_cons.mpr ⟨mkw_87, List.forall_mem_cons.mpr ⟨mkw_88, List.forall_mem_cons.mpr ⟨mkw_89, List.forall_mem_cons.mpr ⟨mkw_90, List.forall_mem_cons.mpr ⟨mkw_91, List.forall_mem_cons.mpr ⟨mkw_92, List.forall_mem_cons.mpr ⟨mkw_93, List.forall_mem_cons.mpr ⟨mkw_94, List.forall_mem_cons.mpr ⟨mkw_95, List.forall_mem_cons.mpr ⟨mkw_96, fun _ h => absurd h List.not_mem_nil⟩⟩⟩⟩⟩⟩⟩⟩⟩⟩⟩⟩⟩⟩⟩⟩
theorem mkc_6 : ∀ k ∈ mks_6, cdW k ∈ lw_tbl := List.forall_mem_cons.mpr ⟨mkw_97, List.forall_mem_cons.mpr ⟨mkw_98, List.forall_mem_cons.mpr ⟨mkw_99, List.forall_mem_cons.mpr ⟨mkw_100, List.forall_mem_cons.mpr ⟨mkw_101, List.forall_mem_cons.mpr ⟨mkw_102, List.forall_mem_cons.mpr ⟨mkw_103, List.forall_mem_cons.mpr ⟨mkw_104, List.forall_mem_cons.mpr ⟨mkw_105, List.forall_mem_cons.mpr ⟨mkw_106, List.forall_mem_cons.mpr ⟨mkw_107, List.forall_mem_cons.mpr ⟨mkw_108, List.forall_mem_cons.mpr ⟨mkw_109, List.forall_mem_cons.mpr ⟨mkw_110, List.forall_mem_cons.mpr ⟨mkw_111, List.forall_mem_cons.mpr ⟨mkw_112, fun _ h => absurd h List.not_mem_nil⟩⟩⟩⟩⟩⟩⟩⟩⟩⟩⟩⟩⟩⟩⟩⟩
theorem mkc_7 : ∀ k ∈ mks_7, cdW k ∈ lw_tbl := List.forall_mem_cons.mpr ⟨mkw_113, List.forall_mem_cons.mpr ⟨mkw_114, List.forall_mem_cons.mpr ⟨mkw_115, List.forall_mem_cons.mpr ⟨mkw_116, List.forall_mem_cons.mpr ⟨mkw_117, List.forall_mem_cons.mpr ⟨mkw_118, List.forall_mem_cons.mpr ⟨mkw_119, List.forall_mem_cons.mpr ⟨mkw_120, List.forall_mem_cons.mpr ⟨mkw_121, List.forall_mem_cons.mpr ⟨mkw_122, List.forall_mem_cons.mpr ⟨mkw_123, List.forall_mem_cons.mpr ⟨mkw_124, List.forall_mem_cons.mpr ⟨mkw_125, List.forall_mem_cons.mpr ⟨mkw_126, List.forall_mem_cons.mpr ⟨mkw_127, List.forall_mem_cons.mpr ⟨mkw_128, fun _ h => absurd h List.not_mem_nil⟩⟩⟩⟩⟩⟩⟩⟩⟩⟩⟩⟩⟩⟩⟩⟩
theorem mkc_8 : ∀ k ∈ mks_8, cdW k ∈ lw_tbl := List.forall_mem_cons.mpr ⟨mkw_129, List.forall_mem_cons.mpr ⟨mkw_130, List.forall_mem_cons.mpr ⟨mkw_131, List.forall_mem_cons.mpr ⟨mkw_132, List.forall_mem_cons.mpr ⟨mkw_133, List.forall_mem_cons.mpr ⟨mkw_134, List.forall_mem_cons.mpr ⟨mkw_135, List.forall_mem_cons.mpr ⟨mkw_136, List.forall_mem_cons.mpr ⟨mkw_137, List.forall_mem_cons.mpr ⟨mkw_138, List.forall_mem_cons.mpr ⟨mkw_139, List.forall_mem_cons.mpr ⟨mkw_140, List.forall_mem_cons.mpr ⟨mkw_141, List.forall_mem_cons.mpr ⟨mkw_142, List.forall_mem_cons.mpr ⟨mkw_143, List.forall_mem_cons.mpr ⟨mkw_144, fun _ h => absurd h List.not_mem_nil⟩⟩⟩⟩⟩⟩⟩⟩⟩⟩⟩⟩⟩⟩⟩⟩
theorem mkc_9 : ∀ k ∈ mks_9, cdW k ∈ lw_tbl := List.forall_mem_cons.mpr ⟨mkw_145, List.forall_mem_cons.mpr ⟨mkw_146, List.forall_mem_cons.mpr ⟨mkw_147, List.forall_mem_cons.mpr ⟨mkw_148, List.forall_mem_cons.mpr ⟨mkw_149, List.forall_mem_cons.mpr ⟨mkw_150, List.forall_mem_cons.mpr ⟨mkw_151, List.forall_mem_cons.mpr ⟨mkw_152, List.forall_mem_cons.mpr ⟨mkw_153, List.forall_mem_cons.mpr ⟨mkw_154, List.forall_mem_cons.mpr ⟨mkw_155, List.forall_mem_cons.mpr ⟨mkw_156, List.forall_mem_cons.mpr ⟨mkw_157, List.forall_mem_cons.mpr ⟨mkw_158, List.forall_mem_cons.mpr ⟨mkw_159, List.forall_mem_cons.mpr ⟨mkw_160, fun _ h => absurd h List.not_mem_nil⟩⟩⟩⟩⟩⟩⟩⟩⟩⟩⟩⟩⟩⟩⟩⟩
theorem mkc_10 : ∀ k ∈ mks_10, cdW k ∈ lw_tbl := List.forall_mem_cons.mpr ⟨mkw_161, List.forall_mem_cons.mpr ⟨mkw_162, List.forall_mem_cons.mpr ⟨mkw_163, List.forall_mem_cons.mpr ⟨mkw_164, List.forall_mem_cons.mpr ⟨mkw_165, List.forall_mem_cons.mpr ⟨mkw_166, List.forall_mem_cons.mpr ⟨mkw_167, List.forall_mem_cons.mpr ⟨mkw_168, List.forall_mem_cons.mpr ⟨mkw_169, List.forall_mem_cons.mpr ⟨mkw_170, List.forall_mem_cons.mpr ⟨mkw_171, List.forall_mem_cons.mpr ⟨mkw_172, List.forall_mem_cons.mpr ⟨mkw_173, List.forall_mem_cons.mpr ⟨mkw_174, List.forall_mem_cons.mpr ⟨mkw_175, List.forall_mem_cons.mpr ⟨mkw_176, fun _ h => absurd h List.not_mem_nil⟩⟩⟩⟩⟩⟩⟩⟩⟩⟩⟩⟩⟩⟩⟩⟩
theorem mkc_11 : ∀ k ∈ mks_11, cdW k ∈ lw_tbl := List.forall_mem_cons.mpr ⟨mkw_177, List.forall_mem_cons.mpr ⟨mkw_178, List.forall_mem_cons.mpr ⟨mkw_179, List.forall_mem_cons.mpr ⟨mkw_180, List.forall_mem_cons.mpr ⟨mkw_181, List.forall_mem_cons.mpr ⟨mkw_182, List.forall_mem_cons.mpr ⟨mkw_183, List.forall_mem_cons.mpr ⟨mkw_184, List.forall_mem_cons.mpr ⟨mkw_185, List.forall_mem_cons.mpr ⟨mkw_186, List.forall_mem_cons.mpr ⟨mkw_187, List.forall_mem_cons.mpr ⟨mkw_188, List.forall_mem_cons.mpr ⟨mkw_189, List.forall_mem_cons.mpr ⟨mkw_190, List.forall_mem_cons.mpr ⟨mkw_191, List.forall_mem_cons.mpr ⟨mkw_192, fun _ h => absurd h List.not_mem_nil⟩⟩⟩⟩⟩⟩⟩⟩⟩⟩⟩⟩⟩⟩⟩⟩
theorem mkc_12 : ∀ k ∈ mks_12, cdW k ∈ lw_tbl := List.forall_mem_cons.mpr ⟨mkw_193, List.forall_mem_cons.mpr ⟨mkw_194, List.forall_mem_cons.mpr ⟨mkw_195, List.forall_mem_cons.mpr ⟨mkw_196, List.forall_mem_cons.mpr ⟨mkw_197, List.forall_mem_cons.mpr ⟨mkw_198, List.forall_mem_cons.mpr ⟨mkw_199, List.forall_mem_cons.mpr ⟨mkw_200, List.forall_mem_cons.mpr ⟨mkw_201, List.forall_mem_cons.mpr ⟨mkw_202, List.forall_mem_cons.mpr ⟨mkw_203, List.forall_mem_cons.mpr ⟨mkw_204, List.forall_mem_cons.mpr ⟨mkw_205, List.forall_mem_cons.mpr ⟨mkw_206, List.forall_mem_cons.mpr ⟨mkw_207, List.forall_mem_cons.mpr ⟨mkw_208, fun _ h => absurd h List.not_mem_nil⟩⟩⟩⟩⟩⟩⟩⟩⟩⟩⟩⟩⟩⟩⟩⟩
theorem mkc_13 : ∀ k ∈ mks_13, cdW k ∈ lw_tbl := List.forall_mem_cons.mpr ⟨mkw_209, List.forall_mem_cons.mpr ⟨mkw_210, List.forall_mem_cons.mpr ⟨mkw_211, List.forall_mem_cons.mpr ⟨mkw_212, List.forall_mem_cons.mpr ⟨mkw_213, List.forall_mem_cons.mpr ⟨mkw_214, List.forall_mem_cons.mpr ⟨mkw_215, List.forall_mem_cons.mpr ⟨mkw_216, List.forall_mem_cons.mpr ⟨mkw_217, List.forall_mem_cons.mpr ⟨mkw_218, List.forall_mem_cons.mpr ⟨mkw_219, List.forall_mem_cons.mpr ⟨mkw_220, List.forall_mem_cons.mpr ⟨mkw_221, List.forall_mem_cons.mpr ⟨mkw_222, List.forall_mem_cons.mpr ⟨mkw_223, List.forall_mem_cons.mpr ⟨mkw_224, fun _ h => absurd h List.not_mem_nil⟩⟩⟩⟩⟩⟩⟩⟩⟩⟩⟩⟩⟩⟩⟩⟩
theorem mkc_14 : ∀ k ∈ mks_14, cdW k ∈ lw_tbl := List.forall_mem_cons.mpr ⟨mkw_225, List.forall_mem_cons.mpr ⟨mkw_226, List.forall_mem_cons.mpr ⟨mkw_227, List.forall_mem_cons.mpr ⟨mkw_228, List.forall_mem_cons.mpr ⟨mkw_229, List.forall_mem_cons.mpr ⟨mkw_230, List.forall_mem_cons.mpr ⟨mkw_231, List.forall_mem_cons.mpr ⟨mkw_232, List.forall_mem_cons.mpr ⟨mkw_233, List.forall_mem_cons.mpr ⟨mkw_234, List.forall_mem_cons.mpr ⟨mkw_235, List.forall_mem_cons.mpr ⟨mkw_236, List.forall_mem_cons.mpr ⟨mkw_237, List.forall_mem_cons.mpr ⟨mkw_238, List.forall_mem_cons.mpr ⟨mkw_239, List.forall_mem_cons.mpr ⟨mkw_240, fun _ h => absurd h List.not_mem_nil⟩⟩⟩⟩⟩⟩⟩⟩⟩⟩⟩⟩⟩⟩⟩⟩
theorem mkc_15 : ∀ k ∈ mks_15, cdW k ∈ lw_tbl := List.forall_mem_cons.mpr ⟨mkw_241, List.forall_mem_cons.mpr ⟨mkw_242, List.forall_mem_cons.mpr ⟨mkw_243, List.forall_mem_cons.mpr ⟨mkw_244, List.forall_mem_cons.mpr ⟨mkw_245, List.forall_mem_cons.mpr ⟨mkw_246, List.forall_mem_cons.mpr ⟨mkw_247, List.forall_mem_cons.mpr ⟨mkw_248, List.forall_mem_cons.mpr ⟨mkw_249, List.forall_mem_cons.mpr ⟨mkw_250, List.forall_mem_cons.mpr ⟨mkw_251, List.forall_mem_cons.mpr ⟨mkw_252, List.forall_mem_cons.mpr ⟨mkw_253, List.forall_mem_cons.mpr ⟨mkw_254, List.forall_mem_cons.mpr ⟨mkw_255, List.forall_mem_cons.mpr ⟨mkw_256, fun _ h => absurd h List.not_mem_nil⟩⟩⟩⟩⟩⟩⟩⟩⟩⟩⟩⟩⟩⟩⟩⟩
theorem mkc_16 : ∀ k ∈ mks_16, cdW k ∈ lw_tbl := List.forall_mem_cons.mpr ⟨mkw_257, List.forall_mem_cons.mpr ⟨mkw_258, List.forall_mem_cons.mpr ⟨mkw_259, List.forall_mem_cons.mpr ⟨mkw_260, List.forall_mem_cons.mpr ⟨mkw_261, List.forall_mem_cons.mpr ⟨mkw_262, List.forall_mem_cons.mpr ⟨mkw_263, List.forall_mem_cons.mpr ⟨mkw_264, List.forall_mem_cons.mpr ⟨mkw_265, List.forall_mem_cons.mpr ⟨mkw_266, List.forall_mem_cons.mpr ⟨mkw_267, List.forall_mem_cons.mpr ⟨mkw_268, List.forall_mem_cons.mpr ⟨mkw_269, List.forall_mem_cons.mpr ⟨mkw_270, List.forall_mem_cons.mpr ⟨mkw_271, List.forall_mem_cons.mpr ⟨mkw_272, fun _ h => absurd h List.not_mem_nil⟩⟩⟩⟩⟩⟩⟩⟩⟩⟩⟩⟩⟩⟩⟩⟩
theorem mkc_17 : ∀ k ∈ mks_17, cdW k ∈ lw_tbl := List.forall_mem_cons.mpr ⟨mkw_273, List.forall_mem_cons.mpr ⟨mkw_274, List.forall_mem_cons.mpr ⟨mkw_275, List.forall_mem_cons.mpr ⟨mkw_276, List.forall_mem_cons.mpr ⟨mkw_277, List.forall_mem_cons.mpr ⟨mkw_278, List.forall_mem_cons.mpr ⟨mkw_279, List.forall_mem_cons.mpr ⟨mkw_280, List.forall_mem_cons.mpr ⟨mkw_281, List.forall_mem_cons.mpr ⟨mkw_282, List.forall_mem_cons.mpr ⟨mkw_283, List.forall_mem_cons.mpr ⟨mkw_284, List.forall_mem_cons.mpr ⟨mkw_285, List.forall_mem_cons.mpr ⟨mkw_286, List.forall_mem_cons.mpr ⟨mkw_287, List.forall_mem_cons.mpr ⟨mkw_288, fun _ h => absurd h List.not_mem_nil⟩⟩⟩⟩⟩⟩⟩⟩⟩⟩⟩⟩⟩⟩⟩⟩
theorem mkc_18 : ∀ k ∈ mks_18, cdW k ∈ lw_tbl := List.forall_mem_cons.mpr ⟨mkw_289, List.forall_mem_cons.mpr ⟨mkw_290, List.forall_mem_cons.mpr ⟨mkw_291, List.forall_mem_cons.mpr ⟨mkw_292, List.forall_mem_cons.mpr ⟨mkw_293, List.forall_mem_cons.mpr ⟨mkw_294, List.forall_mem_cons.mpr ⟨mkw_295, List.forall_mem_cons.mpr ⟨mkw_296, List.forall_mem_cons.mpr ⟨mkw_297, List.forall_mem_cons.mpr ⟨mkw_298, List.forall_mem_cons.mpr ⟨mkw_299, List.forall_mem_cons.mpr ⟨mkw_300, List.forall_mem_cons.mpr ⟨mkw_301, List.forall_mem_cons.mpr ⟨mkw_302, List.forall_mem_cons.mpr ⟨mkw_303, List.forall_mem_cons.mpr ⟨mkw_304, fun _ h => absurd h List.not_mem_nil⟩⟩⟩⟩⟩⟩⟩⟩⟩⟩⟩⟩⟩⟩⟩⟩
theorem mkc_19 : ∀ k ∈ mks_19, cdW k ∈ lw_tbl := List.forall_mem_cons.mpr ⟨mkw_305, List.forall_mem_cons.mpr ⟨mkw_306, List.forall_mem_cons.mpr ⟨mkw_307, List.forall_mem_cons.mpr ⟨mkw_308, List.forall_mem_cons.mpr ⟨mkw_309, List.forall_mem_cons.mpr ⟨mkw_310, List.forall_mem_cons.mpr ⟨mkw_311, List.forall_mem_cons.mpr ⟨mkw_312, List.forall_mem_cons.mpr ⟨mkw_313, List.forall_mem_cons.mpr ⟨mkw_314, List.forall_mem_cons.mpr ⟨mkw_315, List.forall_mem_cons.mpr ⟨mkw_316, List.forall_mem_cons.mpr ⟨mkw_317, List.forall_mem_cons.mpr ⟨mkw_318, List.forall_mem_cons.mpr ⟨mkw_319, List.forall_mem_cons.mpr ⟨mkw_320, fun _ h => absurd h List.not_mem_nil⟩⟩⟩⟩⟩⟩⟩⟩⟩⟩⟩⟩⟩⟩⟩⟩
theorem mkc_20 : ∀ k ∈ mks_20, cdW k ∈ lw_tbl := List.forall_mem_cons.mpr ⟨mkw_321, List.forall_mem_cons.mpr ⟨mkw_322, List.forall_mem_cons.mpr ⟨mkw_323, List.forall_mem_cons.mpr ⟨mkw_324, List.forall_mem_cons.mpr ⟨mkw_325, List.forall_mem_cons.mpr ⟨mkw_326, List.forall_mem_cons.mpr ⟨mkw_327, fun _ h => absurd h List.not_mem_nil⟩⟩⟩⟩⟩⟩⟩
theorem mk_w : ∀ k ∈ mks, cdW k ∈ lw_tbl := by
  intro k hk
  rcases List.mem_append.mp hk with hk | hk
  · exact mkc_0 k hk
  rcases List.mem_append.mp hk with hk | hk
  · exact mkc_1 k hk
  rcases List.mem_append.mp hk with hk | hk
  · exact mkc_2 k hk
  rcases List.mem_append.mp hk with hk | hk
  · exact mkc_3 k hk
  rcases List.mem_append.mp hk with hk | hk
  · exact mkc_4 k hk
  rcases List.mem_append.mp hk with hk | hk
  · exact mkc_5 k hk
  rcases List.mem_append.mp hk with hk | hk
  · exact mkc_6 k hk
  rcases List.mem_append.mp hk with hk | hk
  · exact mkc_7 k hk
  rcases List.mem_append.mp hk with hk | hk
  · exact mkc_8 k hk
  rcases List.mem_append.mp hk with hk | hk
  · exact mkc_9 k hk
  rcases List.mem_append.mp hk with hk | hk
  · exact mkc_10 k hk
  rcases List.mem_append.mp hk with hk | hk
  · exact mkc_11 k hk
  rcases List.mem_append.mp hk with hk | hk
  · exact mkc_12 k hk
  rcases List.mem_append.mp hk with hk | hk
  · exact mkc_13 k hk
  rcases List.mem_append.mp hk with hk | hk
  · exact mkc_14 k hk
  rcases List.mem_append.mp hk with hk | hk
  · exact mkc_15 k hk
  rcases List.mem_append.mp hk with hk | hk
  · exact mkc_16 k hk
  rcases List.mem_append.mp hk with hk | hk
  · exact mkc_17 k hk
  rcases List.mem_append.mp hk with hk | hk
  · exact mkc_18 k hk
  rcases List.mem_append.mp hk with hk | hk
  · exact mkc_19 k hk
  exact mkc_20 k hk
theorem mk_p : ∀ k ∈ mks, plainFor (mY k) = true ∧ (mY k).cls ≠ "java/lang/invoke/MethodHandle" ∧ (mY k).cls ≠ "java/lang/invoke/VarHandle" ∧ (parseMethodDescriptor (mY k).desc).map (fun d => d.parameters.length + (if (mrc k).isSome then 1 else 0)) = some (mnl.getD k 99) ∧ mX k ≤ 12 ∧ (mY k).cls = cN (mC k) := by decide +kernel
theorem mk_m : ∀ r ∈ cV, mrc r.2.2 = some (mC r.2.2) ∧ mC r.2.2 < 13 ∧ r.2.2 ∈ mks := by decide +kernel
theorem mk_s : ∀ r ∈ cS, mrc r.2.2 = none ∧ r.2.2 ∈ mks := by decide +kernel
theorem mk_i : ∀ r ∈ cI, (mrc r.2.2).isSome = true ∧ (mY r.2.2).name = "<init>" ∧ mR r.2.2 = none ∧ r.2.2 ∈ mks := by decide +kernel
theorem mk_n : ∀ r ∈ cM, (mrc r.2.2).isSome = true ∧ (mY r.2.2).name = "<init>" ∧ mR r.2.2 = none ∧ r.2.2 ∈ mks := by decide +kernel
theorem cl_w : ∀ r ∈ clT, Cond.classLink (cN r.1) r.2.1 (cN r.2.2) ∈ lw_tbl :=
  memM [158, 179, 152, 293, 327, 354, 387, 414, 431, 461, 1152, 144, 1342] (by decide +kernel)
theorem cl_i : ∀ r ∈ clT, Cond.instantiable (cN r.2.2) (flen.getD r.2.2 0) ∈ lw_tbl :=
  memM [159, 180, 153, 294, 328, 355, 388, 415, 432, 462, 1153, 145, 1343] (by decide +kernel)
theorem cl_n : ∀ r ∈ clT, Cond.initialized (cN r.2.2) ∈ lw_tbl :=
  memM [129, 131, 128, 132, 133, 134, 135, 136, 137, 138, 143, 127, 140] (by decide +kernel)
theorem k1_w : ∀ r ∈ k1T, Cond.constant (cN r.1) r.2.1 (Int32.ofNat r.2.2) ∈ lw_tbl :=
  memM [1274, 2087, 1021, 1022, 1023] (by decide +kernel)
theorem k2_w : ∀ r ∈ k2T, Cond.constantLong (cN r.1) r.2.1 (Int64.ofNat r.2.2) ∈ lw_tbl :=
  memM [661, 710, 721, 841, 846, 847, 848, 715, 716, 726, 735, 776, 744, 749, 750, 751, 752, 835, 834, 797, 1126, 1659, 1680, 1681, 1682, 1683, 1684, 1685, 1686, 1687, 1688, 1689, 1690, 1691, 1692, 1693, 1694, 1695, 1696, 1697, 1698, 2012] (by decide +kernel)
theorem oI_w : ∀ r ∈ oIT, Cond.methodLink (cN r.1) r.2 objectInit ∈ lw_tbl :=
  memM [359, 184, 436, 466, 163, 157, 332, 1157, 392, 298, 419, 149, 1347] (by decide +kernel)
theorem oI_w2 : Cond.instanceMethod objectInit ∈ lw_tbl ∧ Cond.code objectInit ⟨#[0xb1]⟩ 1 none ∈ lw_tbl := ⟨List.mem_of_getElem? (i := 150) (by decide +kernel), List.mem_of_getElem? (i := 151) (by decide +kernel)⟩
theorem aC_w : ∀ r ∈ aCT, Cond.methodLink (cN r.1) r.2 arraycopyName ∈ lw_tbl :=
  memM [975] (by decide +kernel)
theorem aC_w2 : Cond.native arraycopyName ∈ lw_tbl ∧ Cond.static arraycopyName ∈ lw_tbl ∧ Cond.initialized "java/lang/System" ∈ lw_tbl := ⟨List.mem_of_getElem? (i := 977) (by decide +kernel), List.mem_of_getElem? (i := 976) (by decide +kernel), List.mem_of_getElem? (i := 141) (by decide +kernel)⟩
theorem gS_w : ∀ r ∈ gST, Cond.fieldLink (cN r.1) r.2 "GraftedLaws$Reader" "RESERVED" "[J" ∈ lw_tbl :=
  memM [691] (by decide +kernel)
theorem uw_0 : ∀ w ∈ u_ws RX0 TX0 8, w ∈ lw_tbl := memP [370, 372, 374, 376, 378, 380, 382, 384] (by decide +kernel)
theorem uw_1 : ∀ w ∈ u_ws RX1 TX1 6, w ∈ lw_tbl := memP [193, 195, 197, 199, 201, 203] (by decide +kernel)
theorem uw_2 : ∀ w ∈ u_ws RX2 TX2 7, w ∈ lw_tbl := memP [446, 448, 450, 452, 454, 456, 458] (by decide +kernel)
theorem uw_3 : ∀ w ∈ u_ws RX3 TX3 2, w ∈ lw_tbl := memP [471, 473] (by decide +kernel)
theorem uw_4 : ∀ w ∈ u_ws RX4 TX4 2, w ∈ lw_tbl := memP [173, 175] (by decide +kernel)
theorem uw_5 : ∀ w ∈ u_ws RX5 TX5 18, w ∈ lw_tbl := memP [256, 258, 260, 262, 264, 266, 268, 270, 272, 274, 276, 278, 280, 282, 284, 286, 288, 290] (by decide +kernel)
theorem uw_6 : ∀ w ∈ u_ws RX6 TX6 6, w ∈ lw_tbl := memP [341, 343, 345, 347, 349, 351] (by decide +kernel)
theorem uw_7 : ∀ w ∈ u_ws RX7 TX7 7, w ∈ lw_tbl := memP [1169, 1171, 1173, 1175, 1177, 1179, 1181] (by decide +kernel)
theorem uw_8 : ∀ w ∈ u_ws RX8 TX8 6, w ∈ lw_tbl := memP [401, 403, 405, 407, 409, 411] (by decide +kernel)
theorem uw_9 : ∀ w ∈ u_ws RX9 TX9 7, w ∈ lw_tbl := memP [311, 313, 315, 317, 319, 321, 323] (by decide +kernel)
theorem uw_10 : ∀ w ∈ u_ws RX10 TX10 3, w ∈ lw_tbl := memP [424, 426, 428] (by decide +kernel)
theorem uw_11 : ∀ w ∈ u_ws RX11 TX11 10, w ∈ lw_tbl := memP [568, 570, 572, 574, 576, 578, 580, 582, 584, 586] (by decide +kernel)
theorem uw_12 : ∀ w ∈ u_ws RX12 TX12 88, w ∈ lw_tbl := memP [1440, 1442, 1444, 1446, 1448, 1450, 1452, 1454, 1456, 1458, 1460, 1462, 1464, 1466, 1468, 1470, 1472, 1474, 1476, 1478, 1480, 1482, 1484, 1486, 1488, 1490, 1492, 1494, 1496, 1498, 1500, 1502, 1504, 1506, 1508, 1510, 1512, 1514, 1516, 1518, 1520, 1522, 1524, 1526, 1528, 1530, 1532, 1534, 1536, 1538, 1540, 1542, 1544, 1546, 1548, 1550, 1552, 1554, 1556, 1558, 1560, 1562, 1564, 1566, 1568, 1570, 1572, 1574, 1576, 1578, 1580, 1582, 1584, 1586, 1588, 1590, 1592, 1594, 1596, 1598, 1600, 1602, 1604, 1606, 1608, 1610, 1612, 1614] (by decide +kernel)
theorem ar_int : Cond.arrayClass .int ∈ lw_tbl := List.mem_of_getElem? (i := 206) (by decide +kernel)
theorem ar_long : Cond.arrayClass .long ∈ lw_tbl := List.mem_of_getElem? (i := 178) (by decide +kernel)
theorem ar_short : Cond.arrayClass .short ∈ lw_tbl := List.mem_of_getElem? (i := 207) (by decide +kernel)
theorem ar_byte : Cond.arrayClass .byte ∈ lw_tbl := List.mem_of_getElem? (i := 326) (by decide +kernel)
theorem ar_boolean : Cond.arrayClass .boolean ∈ lw_tbl := List.mem_of_getElem? (i := 1617) (by decide +kernel)
theorem in_0 : Cond.instantiable RX0 8 ∈ lw_tbl := List.mem_of_getElem? (i := 355) (by decide +kernel)
theorem in_1 : Cond.instantiable RX1 6 ∈ lw_tbl := List.mem_of_getElem? (i := 180) (by decide +kernel)
theorem in_2 : Cond.instantiable RX2 7 ∈ lw_tbl := List.mem_of_getElem? (i := 432) (by decide +kernel)
theorem in_3 : Cond.instantiable RX3 2 ∈ lw_tbl := List.mem_of_getElem? (i := 462) (by decide +kernel)
theorem in_4 : Cond.instantiable RX4 2 ∈ lw_tbl := List.mem_of_getElem? (i := 159) (by decide +kernel)
theorem in_5 : Cond.instantiable RX5 18 ∈ lw_tbl := List.mem_of_getElem? (i := 153) (by decide +kernel)
theorem in_6 : Cond.instantiable RX6 6 ∈ lw_tbl := List.mem_of_getElem? (i := 328) (by decide +kernel)
theorem in_7 : Cond.instantiable RX7 7 ∈ lw_tbl := List.mem_of_getElem? (i := 1153) (by decide +kernel)
theorem in_8 : Cond.instantiable RX8 6 ∈ lw_tbl := List.mem_of_getElem? (i := 388) (by decide +kernel)
theorem in_9 : Cond.instantiable RX9 7 ∈ lw_tbl := List.mem_of_getElem? (i := 294) (by decide +kernel)
theorem in_10 : Cond.instantiable RX10 3 ∈ lw_tbl := List.mem_of_getElem? (i := 415) (by decide +kernel)
theorem in_11 : Cond.instantiable RX11 10 ∈ lw_tbl := List.mem_of_getElem? (i := 145) (by decide +kernel)
theorem in_12 : Cond.instantiable RX12 88 ∈ lw_tbl := List.mem_of_getElem? (i := 1343) (by decide +kernel)
theorem sw_l : Cond.laysStatic "GraftedLaws$Reader" "RESERVED" "[J" ∈ lw_tbl ∧ Cond.initialized "GraftedLaws$Reader" ∈ lw_tbl := ⟨List.mem_of_getElem? (i := 692) (by decide +kernel), List.mem_of_getElem? (i := 133) (by decide +kernel)⟩
def TB : List Cond := lw_tbl.filter goodWord
theorem tb {w : Cond} (h : w ∈ lw_tbl) (hg : goodWord w = true) : w ∈ TB := List.mem_filter.mpr ⟨h, hg⟩
