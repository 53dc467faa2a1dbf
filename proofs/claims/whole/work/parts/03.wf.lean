/-! What the tables say of the program's rows: written by wip/whole/gen2.py, decided by the kernel. -/
def ec_yn (μ : Nat) : MethodName := ec_nth ⟨"", "", ""⟩ ec_yt μ
def ec_bc (μ : Nat) : ByteArray := ec_nth ByteArray.empty ec_bt μ
def ec_re (μ : Nat) : Option FieldType := ec_nth none ec_rt μ
def ec_T (c : Nat) : u_T := (ec_nth ("", fun _ => ("", "", "", false), 0) ec_cl c).2.1
def ec_N (c : Nat) : Nat := (ec_nth ("", fun _ => ("", "", "", false), 0) ec_cl c).2.2
def ec_hh (μ : Nat) : List (Nat × Nat × Nat × Nat) := (ec_nth [] ec_ht μ).map (fun q => (q.1, q.2.1, q.2.2.1, q.2.2.2.2))
/-- the good words of the tables: the ones that every method of this program is called with -/
def ec_gd : List Cond := lw_tbl.filter goodWord
def ec_nk : Cond → Bool
  | .fieldLinkNest .. => true
  | .methodLinkNest .. => true
  | .castable .. => true
  | _ => false
def ec_nw : List Cond := lw_tbl.filter ec_nk
theorem ec_gd_of {ws : List Cond} (ps : List Nat) (h : ws = ps.filterMap (fun i => lw_tbl[i]?)) (hg : ws.all goodWord = true) : ∀ w ∈ ws, w ∈ ec_gd := by
  intro w hw
  have h1 := List.all_eq_true.mp hg w hw
  rw [h] at hw
  obtain ⟨i, -, hi⟩ := List.mem_filterMap.mp hw
  exact List.mem_filter.mpr ⟨List.mem_of_getElem? hi, h1⟩
theorem ec_nw_of {ws : List Cond} (ps : List Nat) (h : ws = ps.filterMap (fun i => lw_tbl[i]?)) (hg : ws.all ec_nk = true) : ∀ w ∈ ws, w ∈ ec_nw := by
  intro w hw
  have h1 := List.all_eq_true.mp hg w hw
  rw [h] at hw
  obtain ⟨i, -, hi⟩ := List.mem_filterMap.mp hw
  exact List.mem_filter.mpr ⟨List.mem_of_getElem? hi, h1⟩
def ec_fl : List (Nat × Nat × Nat × Nat) := [(0, 9, 0, 0), (0, 15, 0, 1), (0, 19, 0, 2), (0, 22, 0, 5), (0, 43, 0, 4), (0, 52, 0, 3), (1, 9, 1, 0), (1, 20, 1, 1), (1, 24, 1, 2), (1, 27, 1, 3), (1, 30, 1, 4), (1, 33, 1, 5), (1, 37, 1, 6), (1, 47, 1, 7), (1, 50, 1, 8), (1, 53, 1, 9), (1, 56, 1, 10), (1, 60, 1, 11), (2, 11, 2, 0), (2, 18, 2, 1), (2, 30, 2, 2), (3, 9, 3, 0), (3, 15, 3, 1), (3, 92, 3, 2), (4, 9, 4, 0), (4, 15, 4, 1), (4, 24, 4, 2), (4, 28, 4, 3), (5, 12, 5, 0), (5, 106, 5, 1), (5, 109, 5, 2), (6, 12, 6, 0), (6, 16, 6, 1), (6, 22, 6, 2), (6, 29, 6, 3), (6, 36, 6, 4), (6, 43, 6, 5), (7, 7, 7, 0), (7, 13, 7, 1), (7, 16, 7, 2), (7, 19, 7, 3), (7, 22, 7, 5), (7, 25, 7, 8), (7, 29, 7, 9), (7, 32, 7, 10), (7, 35, 7, 11), (7, 38, 7, 12), (7, 41, 7, 13), (7, 48, 7, 7), (7, 52, 7, 4), (7, 115, 7, 14), (7, 193, 7, 6), (7, 206, 7, 15), (7, 209, 7, 16), (7, 225, 7, 17), (7, 236, 7, 18)]
def ec_flw (x : Nat × Nat × Nat × Nat) : Cond := .fieldLink (ec_own x.1) x.2.1 (ec_own x.2.2.1) (ec_T x.2.2.1 x.2.2.2).2.1 (ec_T x.2.2.1 x.2.2.2).2.2.1
set_option maxRecDepth 100000 in
theorem ec_fl_ok : ∀ x ∈ ec_fl, ec_flw x ∈ ec_gd := fun x h => ec_gd_of (ws := ec_fl.map ec_flw) [256, 257, 259, 264, 262, 260, 134, 135, 138, 142, 146, 149, 151, 155, 158, 161, 165, 168, 204, 205, 206, 221, 222, 223, 116, 117, 118, 119, 240, 241, 242, 297, 298, 299, 300, 301, 302, 972, 973, 974, 975, 977, 980, 981, 982, 983, 984, 985, 979, 976, 986, 978, 987, 988, 989, 990] (by decide +kernel) (by decide +kernel) _ (List.mem_map_of_mem h)
def ec_fn : List (Nat × Nat × Nat × Nat) := [(1, 44, 4, 3), (3, 22, 1, 2), (3, 28, 4, 3), (3, 46, 1, 10), (3, 50, 1, 7), (3, 65, 1, 3), (5, 18, 1, 8), (5, 24, 1, 7), (5, 35, 1, 9), (5, 38, 1, 10), (5, 46, 1, 1), (5, 73, 1, 3), (5, 76, 4, 3), (5, 88, 1, 11), (5, 115, 1, 4), (5, 128, 1, 2), (6, 59, 1, 11), (6, 88, 1, 1), (6, 115, 1, 2), (6, 121, 1, 3), (6, 128, 1, 4), (6, 135, 1, 7), (6, 138, 1, 8), (6, 141, 1, 9), (6, 144, 1, 10), (6, 178, 1, 5), (6, 181, 1, 6), (6, 184, 4, 3), (6, 196, 0, 1), (6, 238, 0, 4), (6, 241, 0, 3), (6, 244, 2, 2)]
def ec_fnw (x : Nat × Nat × Nat × Nat) : Cond := .fieldLinkNest (ec_own x.1) x.2.1 (ec_own x.2.2.1) (ec_T x.2.2.1 x.2.2.2).2.1 (ec_T x.2.2.1 x.2.2.2).2.2.1 "EchoDungeon"
set_option maxRecDepth 100000 in
theorem ec_fn_ok : ∀ x ∈ ec_fn, ec_fnw x ∈ ec_nw := fun x h => ec_nw_of (ws := ec_fn.map ec_fnw) [121, 139, 120, 163, 154, 144, 157, 153, 160, 164, 136, 143, 122, 169, 148, 141, 167, 137, 140, 145, 147, 156, 159, 162, 166, 150, 152, 123, 258, 263, 261, 207] (by decide +kernel) (by decide +kernel) _ (List.mem_map_of_mem h)
def ec_ml : List (Nat × Nat × Nat × Nat) := [(0, 25, 2, 0), (0, 28, 4, 0), (0, 32, 7, 0), (0, 36, 8, 0), (0, 40, 6, 0), (0, 46, 5, 0), (0, 49, 10, 1), (0, 55, 9, 1), (1, 17, 45, 2), (1, 40, 13, 0), (1, 70, 17, 0), (1, 86, 55, 0), (1, 93, 15, 0), (1, 96, 48, 0), (1, 99, 18, 0), (1, 103, 49, 0), (1, 106, 20, 0), (1, 109, 50, 0), (2, 17, 11, 2), (2, 22, 31, 0), (2, 26, 14, 0), (3, 19, 41, 0), (3, 34, 48, 0), (3, 38, 51, 0), (3, 42, 42, 0), (3, 53, 43, 0), (3, 57, 33, 0), (3, 61, 36, 0), (3, 68, 18, 0), (3, 75, 40, 1), (3, 78, 19, 0), (3, 88, 44, 0), (4, 31, 49, 0), (4, 35, 48, 0), (4, 45, 51, 0), (5, 11, 32, 2), (5, 27, 19, 0), (5, 31, 58, 1), (5, 42, 20, 0), (5, 50, 48, 0), (5, 55, 61, 0), (5, 59, 60, 0), (5, 63, 64, 0), (5, 67, 65, 1), (5, 70, 66, 0), (5, 79, 67, 0), (5, 82, 68, 1), (5, 85, 69, 1), (5, 91, 22, 0), (5, 98, 62, 0), (5, 102, 63, 1), (5, 112, 21, 0), (5, 118, 53, 0), (5, 122, 50, 0), (5, 125, 23, 0), (5, 131, 49, 0), (5, 134, 34, 0), (5, 138, 35, 0), (5, 141, 39, 0), (5, 145, 26, 0), (5, 148, 37, 0), (5, 152, 24, 0), (5, 156, 51, 0), (5, 159, 25, 0), (5, 162, 38, 0), (5, 165, 27, 0), (5, 169, 52, 0), (6, 11, 11, 2), (6, 21, 28, 2), (6, 28, 32, 2), (6, 35, 56, 2), (6, 42, 0, 2), (6, 47, 12, 0), (6, 51, 111, 1), (6, 55, 29, 0), (6, 63, 107, 0), (6, 66, 112, 1), (6, 70, 108, 0), (6, 73, 15, 0), (6, 83, 16, 0), (6, 92, 110, 1), (6, 96, 47, 0), (6, 102, 49, 0), (6, 105, 109, 1), (6, 109, 48, 0), (6, 112, 21, 0), (6, 118, 52, 0), (6, 124, 27, 0), (6, 131, 53, 0), (6, 148, 33, 0), (6, 151, 105, 0), (6, 154, 57, 0), (6, 160, 59, 0), (6, 164, 103, 0), (6, 167, 104, 0), (6, 170, 34, 0), (6, 174, 39, 0), (6, 187, 113, 1), (6, 190, 114, 1), (6, 193, 106, 0), (6, 199, 35, 0), (6, 203, 36, 0), (6, 206, 37, 0), (6, 209, 51, 0), (6, 211, 38, 0), (6, 215, 14, 0), (6, 225, 1, 0), (6, 228, 3, 0), (6, 231, 2, 0), (6, 234, 4, 0), (6, 247, 30, 0), (6, 252, 102, 1), (6, 256, 87, 0), (6, 259, 99, 0), (6, 263, 101, 1), (6, 267, 100, 0), (6, 270, 85, 0), (6, 273, 91, 0), (6, 278, 54, 0), (6, 281, 200, 1), (6, 300, 46, 0), (7, 44, 123, 0), (7, 55, 127, 0), (7, 59, 128, 1), (7, 63, 129, 0), (7, 66, 130, 0), (7, 70, 131, 0), (7, 73, 126, 1), (7, 76, 134, 0), (7, 79, 135, 0), (7, 82, 138, 0), (7, 85, 125, 0), (7, 89, 140, 0), (7, 93, 118, 1), (7, 97, 119, 0), (7, 100, 122, 0), (7, 103, 124, 0), (7, 106, 144, 0), (7, 109, 132, 0), (7, 112, 150, 0), (7, 118, 154, 0), (7, 121, 133, 0), (7, 124, 156, 0), (7, 127, 155, 0), (7, 130, 139, 0), (7, 134, 137, 0), (7, 137, 141, 0), (7, 140, 142, 0), (7, 143, 158, 0), (7, 146, 159, 0), (7, 149, 160, 0), (7, 152, 161, 0), (7, 155, 157, 0), (7, 158, 162, 0), (7, 162, 153, 0), (7, 165, 163, 0), (7, 168, 120, 0), (7, 171, 167, 0), (7, 174, 169, 0), (7, 177, 171, 0), (7, 180, 173, 0), (7, 183, 174, 0), (7, 186, 176, 0), (7, 189, 136, 0), (7, 196, 178, 0), (7, 199, 183, 0), (7, 202, 121, 1), (7, 212, 189, 0), (7, 216, 192, 0), (7, 219, 191, 0), (7, 222, 190, 1), (7, 228, 193, 0), (7, 231, 194, 0), (7, 240, 197, 0), (7, 245, 198, 0), (8, 7, 71, 0), (8, 15, 72, 0), (8, 23, 73, 0), (8, 27, 74, 0), (8, 30, 75, 0), (8, 34, 76, 0), (8, 38, 77, 0), (8, 41, 78, 0), (8, 44, 79, 0), (8, 48, 80, 0), (8, 51, 81, 0), (8, 54, 82, 0), (8, 57, 83, 0), (8, 60, 84, 0), (8, 63, 85, 0), (8, 66, 86, 0), (8, 69, 87, 0), (8, 72, 88, 0), (8, 75, 89, 0), (8, 78, 90, 0), (8, 81, 91, 0), (8, 84, 92, 0), (8, 87, 93, 0), (8, 90, 94, 0), (8, 93, 97, 0), (8, 97, 70, 2), (8, 100, 116, 2), (8, 101, 201, 1), (8, 106, 143, 0), (8, 107, 117, 0), (8, 110, 202, 1), (8, 113, 145, 0), (8, 114, 203, 1), (8, 117, 146, 0), (8, 118, 204, 1), (8, 120, 147, 0), (8, 121, 205, 1), (8, 124, 148, 0), (8, 125, 206, 1), (8, 128, 149, 0), (8, 129, 207, 1), (8, 131, 151, 0), (8, 132, 208, 1), (8, 134, 152, 0), (8, 135, 209, 1), (8, 138, 164, 0), (8, 139, 210, 1), (8, 141, 165, 0), (8, 142, 211, 1), (8, 144, 166, 0), (8, 145, 212, 1), (8, 147, 168, 0), (8, 148, 213, 1), (8, 150, 170, 0), (8, 151, 214, 1), (8, 153, 172, 0), (8, 154, 215, 1), (8, 156, 175, 0), (8, 157, 216, 1), (8, 159, 177, 0), (8, 160, 217, 1), (8, 162, 179, 0), (8, 163, 218, 1), (8, 165, 180, 0), (8, 166, 219, 1), (8, 168, 181, 0), (8, 169, 220, 1), (8, 171, 182, 0), (8, 172, 221, 1), (8, 174, 184, 0), (8, 175, 222, 1), (8, 177, 185, 0), (8, 178, 223, 1), (8, 180, 186, 0), (8, 181, 224, 1), (8, 183, 187, 0), (8, 184, 95, 0), (8, 187, 188, 0), (8, 188, 96, 0), (8, 191, 195, 0), (8, 192, 225, 1), (8, 195, 196, 0), (8, 196, 98, 0), (8, 200, 199, 0)]
def ec_mlw (x : Nat × Nat × Nat × Nat) : Cond := .methodLink (ec_own x.1) x.2.1 (ec_yn x.2.2.1)
set_option maxRecDepth 100000 in
theorem ec_ml_ok : ∀ x ∈ ec_ml, ec_mlw x ∈ ec_gd := fun x h => ec_gd_of (ws := ec_ml.map ec_mlw) [328, 332, 336, 340, 344, 348, 352, 355, 109, 283, 293, 376, 397, 401, 393, 430, 429, 434, 203, 362, 366, 488, 493, 494, 495, 499, 484, 507, 511, 521, 526, 503, 439, 438, 462, 239, 389, 405, 408, 412, 417, 421, 454, 472, 476, 535, 562, 565, 425, 443, 451, 447, 458, 466, 467, 475, 480, 513, 517, 527, 531, 539, 543, 544, 548, 552, 556, 103, 197, 217, 234, 252, 279, 581, 358, 747, 667, 752, 674, 774, 787, 795, 799, 702, 693, 807, 815, 823, 683, 657, 658, 385, 413, 670, 675, 721, 722, 651, 652, 653, 727, 662, 910, 728, 729, 929, 946, 324, 383, 384, 958, 573, 577, 663, 690, 694, 698, 723, 679, 684, 790, 968, 1061, 1065, 1112, 1116, 1108, 1120, 1104, 1100, 1175, 1191, 1195, 1038, 1041, 1045, 1053, 1057, 1076, 1092, 1139, 1143, 1147, 1159, 1171, 1179, 1187, 1199, 1155, 1163, 1167, 1183, 1135, 1151, 1127, 1131, 1207, 1219, 1227, 1235, 1243, 1247, 1255, 1267, 1263, 1287, 1295, 1326, 1322, 1330, 1334, 1318, 1314, 1346, 1351, 734, 743, 782, 803, 811, 819, 827, 834, 841, 849, 856, 863, 870, 877, 884, 888, 895, 899, 906, 914, 921, 925, 933, 941, 953, 95, 964, 730, 1034, 1030, 738, 1049, 779, 1068, 800, 1072, 808, 1080, 816, 1084, 824, 1088, 831, 1096, 838, 1123, 846, 1203, 853, 1211, 860, 1215, 867, 1223, 874, 1231, 881, 1239, 885, 1251, 892, 1259, 896, 1271, 903, 1275, 911, 1279, 918, 1283, 922, 1291, 930, 1298, 938, 1302, 316, 1306, 320, 1310, 950, 1337, 568, 1341] (by decide +kernel) (by decide +kernel) _ (List.mem_map_of_mem h)
def ec_mn : List (Nat × Nat × Nat × Nat) := [(1, 63, 113, 3), (1, 67, 114, 3), (1, 90, 115, 3), (3, 72, 115, 3), (3, 82, 113, 3), (3, 85, 114, 3), (4, 38, 113, 3), (4, 42, 114, 3), (5, 95, 115, 3)]
def ec_mnw (x : Nat × Nat × Nat × Nat) : Cond := .methodLinkNest (ec_own x.1) x.2.1 (ec_yn x.2.2.1) "EchoDungeon"
set_option maxRecDepth 100000 in
theorem ec_mn_ok : ∀ x ∈ ec_mn, ec_mnw x ∈ ec_nw := fun x h => ec_nw_of (ws := ec_mn.map ec_mnw) [287, 290, 778, 512, 524, 525, 560, 561, 440] (by decide +kernel) (by decide +kernel) _ (List.mem_map_of_mem h)
def ec_bl : List (Nat × Nat × Nat) := [(0, 3, 0), (1, 3, 0), (1, 74, 2), (1, 80, 3), (1, 112, 1), (2, 3, 0), (2, 33, 2), (3, 3, 0), (4, 3, 0), (4, 18, 1), (4, 48, 2), (4, 51, 3), (5, 3, 0), (6, 3, 0), (6, 218, 2), (7, 1, 0)]
def ec_bn : List MethodName := [Lib.objectInit, Lib.Math.max.name, Lib.Math.min.name, arraycopyName]
def ec_blw (x : Nat × Nat × Nat) : Cond := .methodLink (ec_own x.1) x.2.1 (ec_nth ⟨"", "", ""⟩ ec_bn x.2.2)
set_option maxRecDepth 100000 in
theorem ec_bl_ok : ∀ x ∈ ec_bl, ec_blw x ∈ ec_gd := fun x h => ec_gd_of (ws := ec_bl.map ec_blw) [255, 106, 370, 373, 471, 200, 382, 220, 112, 113, 380, 381, 237, 98, 937, 967] (by decide +kernel) (by decide +kernel) _ (List.mem_map_of_mem h)
def ec_bw : List Cond := [.instanceMethod Lib.objectInit, .code Lib.objectInit ⟨#[0xb1]⟩ 1 none, .static Lib.Math.max.name, .initialized "java/lang/Math", .code Lib.Math.max.name Lib.Math.max.code 2 (some .int), .static Lib.Math.min.name, .code Lib.Math.min.name Lib.Math.min.code 2 (some .int), .native arraycopyName, .static arraycopyName, .initialized "java/lang/System"]
set_option maxRecDepth 100000 in
theorem ec_bw_ok : ∀ w ∈ ec_bw, w ∈ ec_gd := ec_gd_of [99, 100, 114, 79, 115, 371, 372, 375, 374, 89] (by decide +kernel) (by decide +kernel)
def ec_cll : List (Nat × Nat × Nat) := [(1, 15, 4), (2, 9, 1), (5, 9, 3), (6, 9, 1), (6, 19, 2), (6, 26, 3), (6, 33, 5), (6, 40, 0), (8, 8, 6), (8, 98, 7)]
def ec_clw (x : Nat × Nat × Nat) : Cond := .classLink (ec_own x.1) x.2.1 (ec_own x.2.2)
set_option maxRecDepth 100000 in
theorem ec_cl_ok : ∀ x ∈ ec_cll, ec_clw x ∈ ec_gd := fun x h => ec_gd_of (ws := ec_cll.map ec_clw) [107, 201, 238, 101, 195, 215, 232, 250, 93, 962] (by decide +kernel) (by decide +kernel) _ (List.mem_map_of_mem h)
def ec_kl : List (Nat × Nat × Int32) := [(3, 64, 1000000), (9, 265, 1431655765), (9, 266, 858993459), (9, 267, 252645135)]
def ec_klw (x : Nat × Nat × Int32) : Cond := .constant (ec_own x.1) x.2.1 x.2.2
set_option maxRecDepth 100000 in
theorem ec_kl_ok : ∀ x ∈ ec_kl, ec_klw x ∈ ec_gd := fun x h => ec_gd_of (ws := ec_kl.map ec_klw) [492, 687, 688, 689] (by decide +kernel) (by decide +kernel) _ (List.mem_map_of_mem h)
def ec_kk : List (Nat × Nat × Int32) := [(6, 250, 43332), (6, 276, 31), (7, 234, 31), (7, 243, 43332)]
def ec_kkw (x : Nat × Nat × Int32) : Cond := .constantLong (ec_own x.1) x.2.1 x.2.2.toInt64
set_option maxRecDepth 100000 in
theorem ec_kk_ok : ∀ x ∈ ec_kk, ec_kkw x ∈ ec_gd := fun x h => ec_gd_of (ws := ec_kk.map ec_kkw) [572, 576, 1350, 1345] (by decide +kernel) (by decide +kernel) _ (List.mem_map_of_mem h)
def ec_cw (c : Nat) : List Cond := [.initialized (ec_own c), .instantiable (ec_own c) (ec_N c)] ++ u_ws (ec_own c) (ec_T c) (ec_N c)
set_option maxRecDepth 100000 in
theorem ec_cw_0 : ∀ w ∈ ec_cw 0, w ∈ ec_gd := ec_gd_of [83, 251, 265, 267, 269, 271, 273, 275] (by decide +kernel) (by decide +kernel)
set_option maxRecDepth 100000 in
theorem ec_cw_1 : ∀ w ∈ ec_cw 1, w ∈ ec_gd := ec_gd_of [77, 102, 170, 172, 174, 176, 178, 180, 182, 184, 186, 188, 190, 192] (by decide +kernel) (by decide +kernel)
set_option maxRecDepth 100000 in
theorem ec_cw_2 : ∀ w ∈ ec_cw 2, w ∈ ec_gd := ec_gd_of [80, 196, 208, 210, 212] (by decide +kernel) (by decide +kernel)
set_option maxRecDepth 100000 in
theorem ec_cw_3 : ∀ w ∈ ec_cw 3, w ∈ ec_gd := ec_gd_of [81, 216, 224, 226, 228] (by decide +kernel) (by decide +kernel)
set_option maxRecDepth 100000 in
theorem ec_cw_4 : ∀ w ∈ ec_cw 4, w ∈ ec_gd := ec_gd_of [78, 108, 124, 126, 128, 130] (by decide +kernel) (by decide +kernel)
set_option maxRecDepth 100000 in
theorem ec_cw_5 : ∀ w ∈ ec_cw 5, w ∈ ec_gd := ec_gd_of [82, 233, 243, 245, 247] (by decide +kernel) (by decide +kernel)
set_option maxRecDepth 100000 in
theorem ec_cw_6 : ∀ w ∈ ec_cw 6, w ∈ ec_gd := ec_gd_of [76, 94, 303, 305, 307, 309, 311, 313] (by decide +kernel) (by decide +kernel)
set_option maxRecDepth 100000 in
theorem ec_cw_7 : ∀ w ∈ ec_cw 7, w ∈ ec_gd := ec_gd_of [84, 963, 991, 993, 995, 997, 999, 1001, 1003, 1005, 1007, 1009, 1011, 1013, 1015, 1017, 1019, 1021, 1023, 1025, 1027] (by decide +kernel) (by decide +kernel)
theorem ec_cw_ok : ∀ c, c < 8 → ∀ w ∈ ec_cw c, w ∈ ec_gd := by
  intro c hc
  match c, hc with
  | 0, _ => exact ec_cw_0
  | 1, _ => exact ec_cw_1
  | 2, _ => exact ec_cw_2
  | 3, _ => exact ec_cw_3
  | 4, _ => exact ec_cw_4
  | 5, _ => exact ec_cw_5
  | 6, _ => exact ec_cw_6
  | 7, _ => exact ec_cw_7
  | n + 8, h => exact absurd h (by omega)
/-- a method's code word -/
def ec_cd (μ : Nat) : Cond := match ec_hh μ with
  | [] => .code (ec_yn μ) (ec_bc μ) (ec_mr μ).2.1 (ec_re μ)
  | q :: l => .codeWith (ec_yn μ) (ec_bc μ) (ec_mr μ).2.1 (ec_re μ) (q :: l)
/-- how a method may be called: 0 by the receiver, 1 static, 2 a constructor -/
def ec_kd : List Nat := [2, 0, 0, 0, 0, 0, 0, 0, 0, 1, 1, 2, 0, 0, 0, 0, 0, 0, 0, 0, 0, 0, 0, 0, 0, 0, 0, 0, 2, 0, 0, 0, 2, 0, 0, 0, 0, 0, 0, 0, 1, 0, 0, 0, 0, 2, 0, 0, 0, 0, 0, 0, 0, 0, 0, 0, 2, 0, 1, 0, 0, 0, 0, 1, 0, 1, 0, 0, 1, 1, 2, 0, 0, 0, 0, 0, 0, 0, 0, 0, 0, 0, 0, 0, 0, 0, 0, 0, 0, 0, 0, 0, 0, 0, 0, 0, 0, 0, 0, 0, 0, 1, 1, 0, 0, 0, 0, 0, 0, 1, 1, 1, 1, 1, 1, 1, 2, 0, 1, 0, 0, 1, 0, 0, 0, 0, 1, 0, 1, 0, 0, 0, 0, 0, 0, 0, 0, 0, 0, 0, 0, 0, 0, 0, 0, 0, 0, 0, 0, 0, 0, 0, 0, 0, 0, 0, 0, 0, 0, 0, 0, 0, 0, 0, 0, 0, 0, 0, 0, 0, 0, 0, 0, 0, 0, 0, 0, 0, 0, 0, 0, 0, 0, 0, 0, 0, 0, 0, 0, 0, 1, 0, 0, 0, 0, 0, 0, 0, 0, 0, 1, 1, 1, 1, 1, 1, 1, 1, 1, 1, 1, 1, 1, 1, 1, 1, 1, 1, 1, 1, 1, 1, 1, 1, 1, 1, 1]
def ec_mw (μ : Nat) : List Cond := ec_cd μ :: .initialized (ec_yn μ).cls :: (match ec_nth 9 ec_kd μ with
  | 0 => [.instanceMethod (ec_yn μ), .selects (ec_yn μ).cls (ec_yn μ) (ec_yn μ)]
  | 1 => [.static (ec_yn μ)]
  | _ => [.instanceMethod (ec_yn μ)])
def ec_mp : List (List Nat) := [[254, 83, 253], [949, 83, 947, 948], [331, 83, 329, 330], [327, 83, 325, 326], [335, 83, 333, 334], [351, 83, 350, 5], [347, 83, 346, 4], [339, 83, 338, 2], [343, 83, 342, 3], [357, 83, 356], [354, 83, 353], [105, 77, 104], [282, 77, 280, 281], [286, 77, 285, 0], [369, 77, 367, 368], [400, 77, 398, 399], [777, 77, 775, 776], [296, 77, 295, 1], [396, 77, 394, 395], [392, 77, 390, 391], [411, 77, 409, 410], [450, 77, 448, 449], [428, 77, 426, 427], [470, 77, 468, 469], [542, 77, 540, 541], [547, 77, 545, 546], [530, 77, 528, 529], [555, 77, 553, 554], [199, 80, 198], [361, 80, 359, 360], [961, 80, 959, 960], [365, 80, 364, 6], [219, 81, 218], [487, 81, 485, 486], [483, 81, 481, 482], [516, 81, 514, 515], [510, 81, 508, 509], [534, 81, 532, 533], [551, 81, 549, 550], [520, 81, 518, 519], [523, 81, 522], [491, 81, 490, 12], [498, 81, 497, 13], [502, 81, 501, 14], [506, 81, 505, 15], [111, 78, 110], [793, 78, 791, 792], [798, 78, 796, 797], [404, 78, 402, 403], [433, 78, 431, 432], [437, 78, 435, 436], [465, 78, 463, 464], [559, 78, 557, 558], [461, 78, 459, 460], [682, 78, 680, 681], [379, 78, 377, 378], [236, 82, 235], [388, 82, 386, 387], [407, 82, 406], [416, 82, 414, 415], [424, 82, 423, 8], [420, 82, 419, 7], [446, 82, 445, 9], [453, 82, 452], [457, 82, 456, 10], [474, 82, 473], [479, 82, 478, 11], [538, 82, 537, 16], [564, 82, 563], [567, 82, 566], [97, 76, 96], [737, 76, 735, 736], [746, 76, 744, 745], [785, 76, 783, 784], [806, 76, 804, 805], [814, 76, 812, 813], [822, 76, 820, 821], [830, 76, 828, 829], [837, 76, 835, 836], [844, 76, 842, 843], [852, 76, 850, 851], [859, 76, 857, 858], [866, 76, 864, 865], [873, 76, 871, 872], [880, 76, 878, 879], [701, 76, 699, 700], [891, 76, 889, 890], [580, 76, 578, 579], [902, 76, 900, 901], [909, 76, 907, 908], [917, 76, 915, 916], [726, 76, 724, 725], [928, 76, 926, 927], [936, 76, 934, 935], [944, 76, 942, 943], [319, 76, 317, 318], [323, 76, 321, 322], [956, 76, 954, 955], [571, 76, 569, 570], [666, 76, 665, 20], [697, 76, 696, 23], [692, 76, 691], [575, 76, 574], [673, 76, 672, 21], [678, 76, 677, 22], [661, 76, 660, 19], [656, 76, 655, 18], [750, 76, 749, 24], [755, 76, 754, 25], [704, 76, 703], [789, 76, 788], [583, 76, 582], [669, 76, 668], [289, 76, 288], [292, 76, 291], [442, 76, 441], [966, 84, 965], [1033, 84, 1031, 1032], [1040, 84, 1039], [1044, 84, 1043, 27], [1210, 84, 1209, 58], [1297, 84, 1296], [1048, 84, 1047, 28], [971, 84, 970, 26], [1056, 84, 1055, 29], [1194, 84, 1193, 55], [1122, 84, 1121], [1064, 84, 1063, 31], [1067, 84, 1066], [1115, 84, 1114, 37], [1119, 84, 1118, 38], [1111, 84, 1110, 36], [1079, 84, 1078, 32], [1146, 84, 1145, 43], [1107, 84, 1106, 35], [1103, 84, 1102, 34], [1270, 84, 1269, 66], [1182, 84, 1181, 52], [1178, 84, 1177, 51], [1174, 84, 1173, 50], [1198, 84, 1197, 56], [1190, 84, 1189, 54], [1202, 84, 1201, 57], [1037, 84, 1035, 1036], [1060, 84, 1059, 30], [1052, 84, 1050, 1051], [1071, 84, 1069, 1070], [1075, 84, 1073, 1074], [1083, 84, 1081, 1082], [1087, 84, 1085, 1086], [1095, 84, 1094, 33], [1091, 84, 1089, 1090], [1099, 84, 1097, 1098], [1130, 84, 1129, 39], [1142, 84, 1141, 42], [1162, 84, 1161, 47], [1150, 84, 1149, 44], [1138, 84, 1137, 41], [1158, 84, 1157, 46], [1166, 84, 1165, 48], [1170, 84, 1169, 49], [1186, 84, 1185, 53], [1154, 84, 1153, 45], [1134, 84, 1133, 40], [1126, 84, 1124, 1125], [1206, 84, 1204, 1205], [1214, 84, 1212, 1213], [1222, 84, 1221, 59], [1218, 84, 1216, 1217], [1230, 84, 1229, 60], [1226, 84, 1224, 1225], [1238, 84, 1237, 61], [1234, 84, 1232, 1233], [1246, 84, 1245, 62], [1250, 84, 1249, 63], [1242, 84, 1240, 1241], [1258, 84, 1257, 64], [1254, 84, 1252, 1253], [1266, 84, 1265, 65], [1262, 84, 1260, 1261], [1274, 84, 1272, 1273], [1278, 84, 1276, 1277], [1282, 84, 1280, 1281], [1290, 84, 1289, 67], [1286, 84, 1284, 1285], [1294, 84, 1292, 1293], [1301, 84, 1299, 1300], [1305, 84, 1303, 1304], [1309, 84, 1307, 1308], [1329, 84, 1328, 71], [1336, 84, 1335], [1333, 84, 1332, 72], [1325, 84, 1324, 70], [1321, 84, 1320, 69], [1317, 84, 1316, 68], [1313, 84, 1311, 1312], [1340, 84, 1338, 1339], [1349, 84, 1348, 73], [1354, 84, 1353, 74], [1344, 84, 1342, 1343], [686, 92, 685], [732, 75, 731], [740, 75, 739], [781, 75, 780], [802, 75, 801], [810, 75, 809], [818, 75, 817], [826, 75, 825], [833, 75, 832], [840, 75, 839], [848, 75, 847], [855, 75, 854], [862, 75, 861], [869, 75, 868], [876, 75, 875], [883, 75, 882], [887, 75, 886], [894, 75, 893], [898, 75, 897], [905, 75, 904], [913, 75, 912], [920, 75, 919], [924, 75, 923], [932, 75, 931], [940, 75, 939], [952, 75, 951], []]
def ec_mok (μ : Nat) : Bool := decide (ec_mw μ = (ec_nth [] ec_mp μ).filterMap (fun i => lw_tbl[i]?)) && ((ec_mw μ).all goodWord && (plainName (ec_yn μ).cls && (decide ((ec_yn μ).cls ≠ "java/lang/invoke/MethodHandle") && (decide ((ec_yn μ).cls ≠ "java/lang/invoke/VarHandle") && (decide ((ec_yn μ).cls = ec_own (ec_mr μ).1) && (decide ((parseMethodDescriptor (ec_yn μ).desc).map (fun d => d.parameters.length) = some (match ec_nth 9 ec_kd μ with | 1 => (ec_mr μ).2.2.1 | _ => (ec_mr μ).2.2.1 - 1)) && (match ec_nth 9 ec_kd μ with | 1 => true | _ => Nat.ble 1 (ec_mr μ).2.2.1))))))) && ((match ec_nth 9 ec_kd μ with | 2 => decide ((ec_yn μ).name = "<init>") && (decide (ec_re μ = none) && decide (ec_hh μ = [])) | _ => true) && (match (ec_mr μ).2.2.2.1, ec_re μ with | 0, none => true | 1, some .int => true | 2, some .boolean => true | 3, some .long => true | 4, some (.object _) => true | _, _ => false))
/-- the methods that are called (the law's own entry and what nobody calls are not among them) -/
def ec_cal_l : List Nat := [0, 1, 2, 3, 4, 5, 6, 7, 8, 9, 10, 11, 12, 13, 14, 15, 16, 17, 18, 19, 20, 21, 22, 23, 24, 25, 26, 27, 28, 29, 30, 31, 32, 33, 34, 35, 36, 37, 38, 39, 40, 41, 42, 43, 44, 45, 46, 47, 48, 49, 50, 51, 52, 53, 54, 55, 56, 57, 58, 59, 60, 61, 62, 63, 64, 65, 66, 67, 68, 69, 70, 71, 72, 73, 74, 75, 76, 77, 78, 79, 80, 81, 82, 83, 84, 85, 86, 87, 88, 89, 90, 91, 92, 93, 94, 95, 96, 97, 98, 99, 100, 101, 102, 103, 104, 105, 106, 107, 108, 109, 110, 111, 112, 113, 114, 115, 116, 117, 118, 119, 120, 121, 122, 123, 124, 125, 126, 127, 128, 129, 130, 131, 132, 133, 134, 135, 136, 137, 138, 139, 140, 141, 142, 143, 144, 145, 146, 147, 148, 149, 150, 151, 152, 153, 154, 155, 156, 157, 158, 159, 160, 161, 162, 163, 164, 165, 166, 167, 168, 169, 170, 171, 172, 173, 174, 175, 176, 177, 178, 179, 180, 181, 182, 183, 184, 185, 186, 187, 188, 189, 190, 191, 192, 193, 194, 195, 196, 197, 198, 199, 200, 201, 202, 203, 204, 205, 206, 207, 208, 209, 210, 211, 212, 213, 214, 215, 216, 217, 218, 219, 220, 221, 222, 223, 224, 225]
set_option maxRecDepth 100000 in
theorem ec_mok_0 : ([0, 1, 2, 3, 4, 5, 6, 7] : List Nat).all ec_mok = true := by decide +kernel
set_option maxRecDepth 100000 in
theorem ec_mok_1 : ([8, 9, 10, 11, 12, 13, 14, 15] : List Nat).all ec_mok = true := by decide +kernel
set_option maxRecDepth 100000 in
theorem ec_mok_2 : ([16, 17, 18, 19, 20, 21, 22, 23] : List Nat).all ec_mok = true := by decide +kernel
set_option maxRecDepth 100000 in
theorem ec_mok_3 : ([24, 25, 26, 27, 28, 29, 30, 31] : List Nat).all ec_mok = true := by decide +kernel
set_option maxRecDepth 100000 in
theorem ec_mok_4 : ([32, 33, 34, 35, 36, 37, 38, 39] : List Nat).all ec_mok = true := by decide +kernel
set_option maxRecDepth 100000 in
theorem ec_mok_5 : ([40, 41, 42, 43, 44, 45, 46, 47] : List Nat).all ec_mok = true := by decide +kernel
set_option maxRecDepth 100000 in
theorem ec_mok_6 : ([48, 49, 50, 51, 52, 53, 54, 55] : List Nat).all ec_mok = true := by decide +kernel
set_option maxRecDepth 100000 in
theorem ec_mok_7 : ([56, 57, 58, 59, 60, 61, 62, 63] : List Nat).all ec_mok = true := by decide +kernel
set_option maxRecDepth 100000 in
theorem ec_mok_8 : ([64, 65, 66, 67, 68, 69, 70, 71] : List Nat).all ec_mok = true := by decide +kernel
set_option maxRecDepth 100000 in
theorem ec_mok_9 : ([72, 73, 74, 75, 76, 77, 78, 79] : List Nat).all ec_mok = true := by decide +kernel
set_option maxRecDepth 100000 in
theorem ec_mok_10 : ([80, 81, 82, 83, 84, 85, 86, 87] : List Nat).all ec_mok = true := by decide +kernel
set_option maxRecDepth 100000 in
theorem ec_mok_11 : ([88, 89, 90, 91, 92, 93, 94, 95] : List Nat).all ec_mok = true := by decide +kernel
set_option maxRecDepth 100000 in
theorem ec_mok_12 : ([96, 97, 98, 99, 100, 101, 102, 103] : List Nat).all ec_mok = true := by decide +kernel
set_option maxRecDepth 100000 in
theorem ec_mok_13 : ([104, 105, 106, 107, 108, 109, 110, 111] : List Nat).all ec_mok = true := by decide +kernel
set_option maxRecDepth 100000 in
theorem ec_mok_14 : ([112, 113, 114, 115, 116, 117, 118, 119] : List Nat).all ec_mok = true := by decide +kernel
set_option maxRecDepth 100000 in
theorem ec_mok_15 : ([120, 121, 122, 123, 124, 125, 126, 127] : List Nat).all ec_mok = true := by decide +kernel
set_option maxRecDepth 100000 in
theorem ec_mok_16 : ([128, 129, 130, 131, 132, 133, 134, 135] : List Nat).all ec_mok = true := by decide +kernel
set_option maxRecDepth 100000 in
theorem ec_mok_17 : ([136, 137, 138, 139, 140, 141, 142, 143] : List Nat).all ec_mok = true := by decide +kernel
set_option maxRecDepth 100000 in
theorem ec_mok_18 : ([144, 145, 146, 147, 148, 149, 150, 151] : List Nat).all ec_mok = true := by decide +kernel
set_option maxRecDepth 100000 in
theorem ec_mok_19 : ([152, 153, 154, 155, 156, 157, 158, 159] : List Nat).all ec_mok = true := by decide +kernel
set_option maxRecDepth 100000 in
theorem ec_mok_20 : ([160, 161, 162, 163, 164, 165, 166, 167] : List Nat).all ec_mok = true := by decide +kernel
set_option maxRecDepth 100000 in
theorem ec_mok_21 : ([168, 169, 170, 171, 172, 173, 174, 175] : List Nat).all ec_mok = true := by decide +kernel
set_option maxRecDepth 100000 in
theorem ec_mok_22 : ([176, 177, 178, 179, 180, 181, 182, 183] : List Nat).all ec_mok = true := by decide +kernel
set_option maxRecDepth 100000 in
theorem ec_mok_23 : ([184, 185, 186, 187, 188, 189, 190, 191] : List Nat).all ec_mok = true := by decide +kernel
set_option maxRecDepth 100000 in
theorem ec_mok_24 : ([192, 193, 194, 195, 196, 197, 198, 199] : List Nat).all ec_mok = true := by decide +kernel
set_option maxRecDepth 100000 in
theorem ec_mok_25 : ([200, 201, 202, 203, 204, 205, 206, 207] : List Nat).all ec_mok = true := by decide +kernel
set_option maxRecDepth 100000 in
theorem ec_mok_26 : ([208, 209, 210, 211, 212, 213, 214, 215] : List Nat).all ec_mok = true := by decide +kernel
set_option maxRecDepth 100000 in
theorem ec_mok_27 : ([216, 217, 218, 219, 220, 221, 222, 223] : List Nat).all ec_mok = true := by decide +kernel
set_option maxRecDepth 100000 in
theorem ec_mok_28 : ([224, 225] : List Nat).all ec_mok = true := by decide +kernel
theorem ec_mok_ok : ∀ μ ∈ ec_cal_l, ec_mok μ = true := by
  intro μ h
  have h : μ ∈ ([0, 1, 2, 3, 4, 5, 6, 7] : List Nat) ++ ([8, 9, 10, 11, 12, 13, 14, 15] : List Nat) ++ ([16, 17, 18, 19, 20, 21, 22, 23] : List Nat) ++ ([24, 25, 26, 27, 28, 29, 30, 31] : List Nat) ++ ([32, 33, 34, 35, 36, 37, 38, 39] : List Nat) ++ ([40, 41, 42, 43, 44, 45, 46, 47] : List Nat) ++ ([48, 49, 50, 51, 52, 53, 54, 55] : List Nat) ++ ([56, 57, 58, 59, 60, 61, 62, 63] : List Nat) ++ ([64, 65, 66, 67, 68, 69, 70, 71] : List Nat) ++ ([72, 73, 74, 75, 76, 77, 78, 79] : List Nat) ++ ([80, 81, 82, 83, 84, 85, 86, 87] : List Nat) ++ ([88, 89, 90, 91, 92, 93, 94, 95] : List Nat) ++ ([96, 97, 98, 99, 100, 101, 102, 103] : List Nat) ++ ([104, 105, 106, 107, 108, 109, 110, 111] : List Nat) ++ ([112, 113, 114, 115, 116, 117, 118, 119] : List Nat) ++ ([120, 121, 122, 123, 124, 125, 126, 127] : List Nat) ++ ([128, 129, 130, 131, 132, 133, 134, 135] : List Nat) ++ ([136, 137, 138, 139, 140, 141, 142, 143] : List Nat) ++ ([144, 145, 146, 147, 148, 149, 150, 151] : List Nat) ++ ([152, 153, 154, 155, 156, 157, 158, 159] : List Nat) ++ ([160, 161, 162, 163, 164, 165, 166, 167] : List Nat) ++ ([168, 169, 170, 171, 172, 173, 174, 175] : List Nat) ++ ([176, 177, 178, 179, 180, 181, 182, 183] : List Nat) ++ ([184, 185, 186, 187, 188, 189, 190, 191] : List Nat) ++ ([192, 193, 194, 195, 196, 197, 198, 199] : List Nat) ++ ([200, 201, 202, 203, 204, 205, 206, 207] : List Nat) ++ ([208, 209, 210, 211, 212, 213, 214, 215] : List Nat) ++ ([216, 217, 218, 219, 220, 221, 222, 223] : List Nat) ++ ([224, 225] : List Nat) := h
  simp only [List.mem_append] at h
  first
    | (rcases h with ((((((((((((((((((((((((((((h | h) | h) | h) | h) | h) | h) | h) | h) | h) | h) | h) | h) | h) | h) | h) | h) | h) | h) | h) | h) | h) | h) | h) | h) | h) | h) | h) | h)
       · exact List.all_eq_true.mp ec_mok_0 μ h
       · exact List.all_eq_true.mp ec_mok_1 μ h
       · exact List.all_eq_true.mp ec_mok_2 μ h
       · exact List.all_eq_true.mp ec_mok_3 μ h
       · exact List.all_eq_true.mp ec_mok_4 μ h
       · exact List.all_eq_true.mp ec_mok_5 μ h
       · exact List.all_eq_true.mp ec_mok_6 μ h
       · exact List.all_eq_true.mp ec_mok_7 μ h
       · exact List.all_eq_true.mp ec_mok_8 μ h
       · exact List.all_eq_true.mp ec_mok_9 μ h
       · exact List.all_eq_true.mp ec_mok_10 μ h
       · exact List.all_eq_true.mp ec_mok_11 μ h
       · exact List.all_eq_true.mp ec_mok_12 μ h
       · exact List.all_eq_true.mp ec_mok_13 μ h
       · exact List.all_eq_true.mp ec_mok_14 μ h
       · exact List.all_eq_true.mp ec_mok_15 μ h
       · exact List.all_eq_true.mp ec_mok_16 μ h
       · exact List.all_eq_true.mp ec_mok_17 μ h
       · exact List.all_eq_true.mp ec_mok_18 μ h
       · exact List.all_eq_true.mp ec_mok_19 μ h
       · exact List.all_eq_true.mp ec_mok_20 μ h
       · exact List.all_eq_true.mp ec_mok_21 μ h
       · exact List.all_eq_true.mp ec_mok_22 μ h
       · exact List.all_eq_true.mp ec_mok_23 μ h
       · exact List.all_eq_true.mp ec_mok_24 μ h
       · exact List.all_eq_true.mp ec_mok_25 μ h
       · exact List.all_eq_true.mp ec_mok_26 μ h
       · exact List.all_eq_true.mp ec_mok_27 μ h
       · exact List.all_eq_true.mp ec_mok_28 μ h)
