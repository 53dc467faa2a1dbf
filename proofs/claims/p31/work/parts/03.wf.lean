/-! What the tables say of the program's rows: written by wip/p31/gen2.py, decided by the kernel. -/
def ec_yn (μ : Nat) : MethodName := ec_nth ⟨"", "", ""⟩ ec_yt μ
def ec_bc (μ : Nat) : ByteArray := ec_nth ByteArray.empty ec_bt μ
def ec_re (μ : Nat) : Option FieldType := ec_nth none ec_rt μ
def ec_T (c : Nat) : u_T := (ec_nth ("", fun _ => ("", "", "", false), 0) ec_cl c).2.1
def ec_N (c : Nat) : Nat := (ec_nth ("", fun _ => ("", "", "", false), 0) ec_cl c).2.2
def ec_hh (μ : Nat) : List (Nat × Nat × Nat × Nat) := (ec_nth [] ec_ht μ).map (fun q => (q.1, q.2.1, q.2.2.1, q.2.2.2.2))
/-- the good words of the tables: the ones that every method of this program is called with -/
def ec_gd : List Cond := lw_tbl.filter goodWord
def ec_nk : Cond → Bool
  | .fieldLinkNest .. => true
  | .methodLinkNest .. => true
  | .castable .. => true
  | _ => false
def ec_nw : List Cond := lw_tbl.filter ec_nk
theorem ec_gd_of {ws : List Cond} (ps : List Nat) (h : ws = ps.filterMap (fun i => lw_tbl[i]?)) (hg : ws.all goodWord = true) : ∀ w ∈ ws, w ∈ ec_gd := by
  intro w hw
  have h1 := List.all_eq_true.mp hg w hw
  rw [h] at hw
  obtain ⟨i, -, hi⟩ := List.mem_filterMap.mp hw
  exact List.mem_filter.mpr ⟨List.mem_of_getElem? hi, h1⟩
theorem ec_nw_of {ws : List Cond} (ps : List Nat) (h : ws = ps.filterMap (fun i => lw_tbl[i]?)) (hg : ws.all ec_nk = true) : ∀ w ∈ ws, w ∈ ec_nw := by
  intro w hw
  have h1 := List.all_eq_true.mp hg w hw
  rw [h] at hw
  obtain ⟨i, -, hi⟩ := List.mem_filterMap.mp hw
  exact List.mem_filter.mpr ⟨List.mem_of_getElem? hi, h1⟩
def ec_fl : List (Nat × Nat × Nat × Nat) := [(0, 9, 0, 0), (1, 9, 1, 0), (1, 20, 1, 1), (1, 24, 1, 2), (1, 27, 1, 3), (1, 30, 1, 4), (1, 33, 1, 5), (1, 37, 1, 6), (1, 47, 1, 7), (1, 50, 1, 8), (1, 53, 1, 9), (1, 56, 1, 10), (1, 60, 1, 11), (2, 11, 2, 0), (2, 18, 2, 1), (2, 30, 2, 2), (3, 9, 3, 0), (3, 15, 3, 1), (3, 92, 3, 2), (4, 9, 4, 0), (4, 15, 4, 1), (4, 24, 4, 2), (4, 28, 4, 3), (5, 12, 5, 0), (5, 106, 5, 1), (5, 109, 5, 2), (6, 12, 6, 0), (6, 16, 6, 1), (6, 22, 6, 2), (6, 29, 6, 3), (6, 36, 6, 4), (6, 43, 6, 5)]
def ec_flw (x : Nat × Nat × Nat × Nat) : Cond := .fieldLink (ec_own x.1) x.2.1 (ec_own x.2.2.1) (ec_T x.2.2.1 x.2.2.2).2.1 (ec_T x.2.2.1 x.2.2.2).2.2.1
set_option maxRecDepth 100000 in
theorem ec_fl_ok : ∀ x ∈ ec_fl, ec_flw x ∈ ec_gd := fun x h => ec_gd_of (ws := ec_fl.map ec_flw) [199, 78, 79, 82, 86, 90, 93, 95, 99, 102, 105, 109, 112, 148, 149, 150, 164, 165, 166, 60, 61, 62, 63, 183, 184, 185, 233, 234, 235, 236, 237, 238] (by decide +kernel) (by decide +kernel) _ (List.mem_map_of_mem h)
def ec_fn : List (Nat × Nat × Nat × Nat) := [(1, 44, 4, 3), (3, 22, 1, 2), (3, 28, 4, 3), (3, 46, 1, 10), (3, 50, 1, 7), (3, 65, 1, 3), (5, 18, 1, 8), (5, 24, 1, 7), (5, 35, 1, 9), (5, 38, 1, 10), (5, 46, 1, 1), (5, 73, 1, 3), (5, 76, 4, 3), (5, 88, 1, 11), (5, 115, 1, 4), (5, 128, 1, 2), (6, 59, 1, 11), (6, 88, 1, 1), (6, 115, 1, 2), (6, 121, 1, 3), (6, 128, 1, 4), (6, 135, 1, 7), (6, 138, 1, 8), (6, 141, 1, 9), (6, 144, 1, 10), (6, 178, 1, 5), (6, 181, 1, 6), (6, 184, 4, 3), (6, 196, 0, 1)]
def ec_fnw (x : Nat × Nat × Nat × Nat) : Cond := .fieldLinkNest (ec_own x.1) x.2.1 (ec_own x.2.2.1) (ec_T x.2.2.1 x.2.2.2).2.1 (ec_T x.2.2.1 x.2.2.2).2.2.1 "EchoDungeon"
set_option maxRecDepth 100000 in
theorem ec_fn_ok : ∀ x ∈ ec_fn, ec_fnw x ∈ ec_nw := fun x h => ec_nw_of (ws := ec_fn.map ec_fnw) [65, 83, 64, 107, 98, 88, 101, 97, 104, 108, 80, 87, 66, 113, 92, 85, 111, 81, 84, 89, 91, 100, 103, 106, 110, 94, 96, 67, 200] (by decide +kernel) (by decide +kernel) _ (List.mem_map_of_mem h)
def ec_ml : List (Nat × Nat × Nat × Nat) := [(1, 17, 45, 2), (1, 40, 13, 0), (1, 70, 17, 0), (1, 86, 55, 0), (1, 93, 15, 0), (1, 96, 48, 0), (1, 99, 18, 0), (1, 103, 49, 0), (1, 106, 20, 0), (1, 109, 50, 0), (2, 17, 11, 2), (2, 22, 31, 0), (2, 26, 14, 0), (3, 19, 41, 0), (3, 34, 48, 0), (3, 38, 51, 0), (3, 42, 42, 0), (3, 53, 43, 0), (3, 57, 33, 0), (3, 61, 36, 0), (3, 68, 18, 0), (3, 75, 40, 1), (3, 78, 19, 0), (3, 88, 44, 0), (4, 31, 49, 0), (4, 35, 48, 0), (4, 45, 51, 0), (5, 11, 32, 2), (5, 27, 19, 0), (5, 31, 58, 1), (5, 42, 20, 0), (5, 50, 48, 0), (5, 55, 61, 0), (5, 59, 60, 0), (5, 63, 64, 0), (5, 67, 65, 1), (5, 70, 66, 0), (5, 79, 67, 0), (5, 82, 68, 1), (5, 85, 69, 1), (5, 91, 22, 0), (5, 98, 62, 0), (5, 102, 63, 1), (5, 112, 21, 0), (5, 118, 53, 0), (5, 122, 50, 0), (5, 125, 23, 0), (5, 131, 49, 0), (5, 134, 34, 0), (5, 138, 35, 0), (5, 141, 39, 0), (5, 145, 26, 0), (5, 148, 37, 0), (5, 152, 24, 0), (5, 156, 51, 0), (5, 159, 25, 0), (5, 162, 38, 0), (5, 165, 27, 0), (5, 169, 52, 0), (6, 11, 11, 2), (6, 21, 28, 2), (6, 28, 32, 2), (6, 35, 56, 2), (6, 42, 0, 2), (6, 47, 12, 0), (6, 51, 111, 1), (6, 55, 29, 0), (6, 63, 107, 0), (6, 66, 112, 1), (6, 70, 108, 0), (6, 73, 15, 0), (6, 83, 16, 0), (6, 92, 110, 1), (6, 96, 47, 0), (6, 102, 49, 0), (6, 105, 109, 1), (6, 109, 48, 0), (6, 112, 21, 0), (6, 118, 52, 0), (6, 124, 27, 0), (6, 131, 53, 0), (6, 148, 33, 0), (6, 151, 105, 0), (6, 154, 57, 0), (6, 160, 59, 0), (6, 164, 103, 0), (6, 167, 104, 0), (6, 170, 34, 0), (6, 174, 39, 0), (6, 187, 113, 1), (6, 190, 114, 1), (6, 193, 106, 0), (6, 203, 36, 0), (6, 278, 54, 0), (6, 281, 200, 1), (6, 300, 46, 0), (8, 9, 118, 1), (8, 15, 119, 1), (8, 19, 120, 1), (8, 23, 121, 1), (8, 27, 127, 1), (8, 31, 126, 1), (8, 34, 122, 1), (8, 38, 123, 1), (8, 42, 124, 1), (8, 46, 117, 1), (8, 50, 130, 1), (8, 54, 131, 1), (8, 58, 132, 1), (8, 62, 133, 1), (8, 65, 134, 1), (8, 69, 135, 1), (8, 73, 136, 1), (8, 76, 137, 1), (8, 79, 125, 1), (8, 83, 138, 1), (8, 87, 128, 1), (8, 91, 71, 0), (8, 98, 72, 0), (8, 106, 73, 0), (8, 110, 74, 0), (8, 113, 75, 0), (8, 117, 76, 0), (8, 121, 77, 0), (8, 124, 78, 0), (8, 127, 79, 0), (8, 131, 81, 0), (8, 134, 82, 0), (8, 137, 83, 0), (8, 140, 84, 0), (8, 143, 85, 0), (8, 146, 86, 0), (8, 149, 87, 0), (8, 152, 145, 1), (8, 155, 139, 1), (8, 158, 140, 1), (8, 161, 141, 1), (8, 164, 142, 1), (8, 167, 143, 1), (8, 170, 144, 1), (8, 173, 70, 2), (8, 174, 146, 1), (8, 178, 116, 1), (8, 181, 129, 1)]
def ec_mlw (x : Nat × Nat × Nat × Nat) : Cond := .methodLink (ec_own x.1) x.2.1 (ec_yn x.2.2.1)
set_option maxRecDepth 100000 in
theorem ec_ml_ok : ∀ x ∈ ec_ml, ec_mlw x ∈ ec_gd := fun x h => ec_gd_of (ws := ec_ml.map ec_mlw) [53, 219, 229, 360, 574, 483, 599, 482, 625, 626, 147, 346, 350, 547, 552, 553, 554, 558, 662, 566, 570, 671, 676, 562, 458, 526, 522, 182, 595, 600, 603, 607, 613, 617, 639, 650, 654, 685, 704, 707, 621, 631, 636, 635, 643, 644, 645, 653, 658, 663, 667, 677, 681, 689, 693, 694, 698, 702, 703, 47, 141, 160, 177, 195, 215, 272, 342, 382, 402, 405, 410, 431, 446, 454, 462, 470, 474, 478, 494, 507, 518, 543, 576, 591, 609, 729, 740, 791, 792, 761, 762, 763, 580, 744, 748, 449, 370, 367, 533, 530, 713, 484, 527, 716, 719, 256, 264, 373, 438, 463, 487, 500, 511, 536, 581, 584, 710, 268, 378, 441, 466, 490, 503, 514, 539, 587, 725, 736, 773, 780, 787, 796, 757, 754, 722, 733, 770, 777, 784, 793, 39, 767, 252, 260] (by decide +kernel) (by decide +kernel) _ (List.mem_map_of_mem h)
def ec_mn : List (Nat × Nat × Nat × Nat) := [(1, 63, 113, 3), (1, 67, 114, 3), (1, 90, 115, 3), (3, 72, 115, 3), (3, 82, 113, 3), (3, 85, 114, 3), (4, 38, 113, 3), (4, 42, 114, 3), (5, 95, 115, 3)]
def ec_mnw (x : Nat × Nat × Nat × Nat) : Cond := .methodLinkNest (ec_own x.1) x.2.1 (ec_yn x.2.2.1) "EchoDungeon"
set_option maxRecDepth 100000 in
theorem ec_mn_ok : ∀ x ∈ ec_mn, ec_mnw x ∈ ec_nw := fun x h => ec_nw_of (ws := ec_mn.map ec_mnw) [223, 226, 435, 575, 674, 675, 498, 499, 630] (by decide +kernel) (by decide +kernel) _ (List.mem_map_of_mem h)
def ec_bl : List (Nat × Nat × Nat) := [(0, 3, 0), (1, 3, 0), (1, 74, 2), (1, 80, 3), (1, 112, 1), (2, 3, 0), (2, 33, 2), (3, 3, 0), (4, 3, 0), (4, 18, 1), (4, 48, 2), (4, 51, 3), (5, 3, 0), (6, 3, 0)]
def ec_bn : List MethodName := [Lib.objectInit, Lib.Math.max.name, Lib.Math.min.name, arraycopyName]
def ec_blw (x : Nat × Nat × Nat) : Cond := .methodLink (ec_own x.1) x.2.1 (ec_nth ⟨"", "", ""⟩ ec_bn x.2.2)
set_option maxRecDepth 100000 in
theorem ec_bl_ok : ∀ x ∈ ec_bl, ec_blw x ∈ ec_gd := fun x h => ec_gd_of (ws := ec_bl.map ec_blw) [198, 50, 354, 357, 649, 144, 366, 163, 56, 57, 364, 365, 180, 42] (by decide +kernel) (by decide +kernel) _ (List.mem_map_of_mem h)
def ec_bw : List Cond := [.instanceMethod Lib.objectInit, .code Lib.objectInit ⟨#[0xb1]⟩ 1 none, .static Lib.Math.max.name, .initialized "java/lang/Math", .code Lib.Math.max.name Lib.Math.max.code 2 (some .int), .static Lib.Math.min.name, .code Lib.Math.min.name Lib.Math.min.code 2 (some .int), .native arraycopyName, .static arraycopyName, .initialized "java/lang/System"]
set_option maxRecDepth 100000 in
theorem ec_bw_ok : ∀ w ∈ ec_bw, w ∈ ec_gd := ec_gd_of [43, 44, 58, 24, 59, 355, 356, 359, 358, 35] (by decide +kernel) (by decide +kernel)
def ec_cll : List (Nat × Nat × Nat) := [(1, 15, 4), (2, 9, 1), (5, 9, 3), (6, 9, 1), (6, 19, 2), (6, 26, 3), (6, 33, 5), (6, 40, 0), (8, 92, 6)]
def ec_clw (x : Nat × Nat × Nat) : Cond := .classLink (ec_own x.1) x.2.1 (ec_own x.2.2)
set_option maxRecDepth 100000 in
theorem ec_cl_ok : ∀ x ∈ ec_cll, ec_clw x ∈ ec_gd := fun x h => ec_gd_of (ws := ec_cll.map ec_clw) [51, 145, 181, 45, 139, 158, 175, 193, 37] (by decide +kernel) (by decide +kernel) _ (List.mem_map_of_mem h)
def ec_kl : List (Nat × Nat × Int32) := [(3, 64, 1000000), (8, 7, 40503), (8, 8, 2147483647), (8, 45, 10000000), (9, 265, 1431655765), (9, 266, 858993459), (9, 267, 252645135)]
def ec_klw (x : Nat × Nat × Int32) : Cond := .constant (ec_own x.1) x.2.1 x.2.2
set_option maxRecDepth 100000 in
theorem ec_kl_ok : ∀ x ∈ ec_kl, ec_klw x ∈ ec_gd := fun x h => ec_gd_of (ws := ec_kl.map ec_klw) [551, 255, 259, 263, 751, 752, 753] (by decide +kernel) (by decide +kernel) _ (List.mem_map_of_mem h)
def ec_kk : List (Nat × Nat × Int32) := []
def ec_kkw (x : Nat × Nat × Int32) : Cond := .constantLong (ec_own x.1) x.2.1 x.2.2.toInt64
set_option maxRecDepth 100000 in
theorem ec_kk_ok : ∀ x ∈ ec_kk, ec_kkw x ∈ ec_gd := fun x h => ec_gd_of (ws := ec_kk.map ec_kkw) [] (by decide +kernel) (by decide +kernel) _ (List.mem_map_of_mem h)
def ec_cw (c : Nat) : List Cond := [.initialized (ec_own c), .instantiable (ec_own c) (ec_N c)] ++ u_ws (ec_own c) (ec_T c) (ec_N c)
set_option maxRecDepth 100000 in
theorem ec_cw_0 : ∀ w ∈ ec_cw 0, w ∈ ec_gd := ec_gd_of [28, 194, 201, 203, 205, 207, 209, 211] (by decide +kernel) (by decide +kernel)
set_option maxRecDepth 100000 in
theorem ec_cw_1 : ∀ w ∈ ec_cw 1, w ∈ ec_gd := ec_gd_of [22, 46, 114, 116, 118, 120, 122, 124, 126, 128, 130, 132, 134, 136] (by decide +kernel) (by decide +kernel)
set_option maxRecDepth 100000 in
theorem ec_cw_2 : ∀ w ∈ ec_cw 2, w ∈ ec_gd := ec_gd_of [25, 140, 151, 153, 155] (by decide +kernel) (by decide +kernel)
set_option maxRecDepth 100000 in
theorem ec_cw_3 : ∀ w ∈ ec_cw 3, w ∈ ec_gd := ec_gd_of [26, 159, 167, 169, 171] (by decide +kernel) (by decide +kernel)
set_option maxRecDepth 100000 in
theorem ec_cw_4 : ∀ w ∈ ec_cw 4, w ∈ ec_gd := ec_gd_of [23, 52, 68, 70, 72, 74] (by decide +kernel) (by decide +kernel)
set_option maxRecDepth 100000 in
theorem ec_cw_5 : ∀ w ∈ ec_cw 5, w ∈ ec_gd := ec_gd_of [27, 176, 186, 188, 190] (by decide +kernel) (by decide +kernel)
set_option maxRecDepth 100000 in
theorem ec_cw_6 : ∀ w ∈ ec_cw 6, w ∈ ec_gd := ec_gd_of [21, 38, 239, 241, 243, 245, 247, 249] (by decide +kernel) (by decide +kernel)
theorem ec_cw_ok : ∀ c, c < 7 → ∀ w ∈ ec_cw c, w ∈ ec_gd := by
  intro c hc
  match c, hc with
  | 0, _ => exact ec_cw_0
  | 1, _ => exact ec_cw_1
  | 2, _ => exact ec_cw_2
  | 3, _ => exact ec_cw_3
  | 4, _ => exact ec_cw_4
  | 5, _ => exact ec_cw_5
  | 6, _ => exact ec_cw_6
  | n + 7, h => exact absurd h (by omega)
/-- a method's code word -/
def ec_cd (μ : Nat) : Cond := match ec_hh μ with
  | [] => .code (ec_yn μ) (ec_bc μ) (ec_mr μ).2.1 (ec_re μ)
  | q :: l => .codeWith (ec_yn μ) (ec_bc μ) (ec_mr μ).2.1 (ec_re μ) (q :: l)
/-- how a method may be called: 0 by the receiver, 1 static, 2 a constructor -/
def ec_kd : List Nat := [2, 1, 1, 1, 1, 1, 1, 1, 1, 1, 1, 2, 0, 0, 0, 0, 0, 0, 0, 0, 0, 0, 0, 0, 0, 0, 0, 0, 2, 0, 1, 0, 2, 0, 0, 0, 0, 0, 0, 0, 1, 0, 0, 0, 0, 2, 0, 0, 0, 0, 0, 0, 0, 0, 0, 0, 2, 0, 1, 0, 0, 0, 0, 1, 0, 1, 0, 0, 1, 1, 2, 0, 0, 0, 0, 0, 0, 0, 0, 0, 1, 0, 0, 0, 0, 0, 0, 0, 1, 1, 1, 1, 1, 1, 1, 1, 1, 1, 1, 1, 1, 1, 1, 0, 0, 0, 0, 0, 0, 1, 1, 1, 1, 1, 1, 1, 1, 1, 1, 1, 1, 1, 1, 1, 1, 1, 1, 1, 1, 1, 1, 1, 1, 1, 1, 1, 1, 1, 1, 1, 1, 1, 1, 1, 1, 1, 1, 1, 1, 1, 1, 1, 1, 1, 1, 1, 1, 1, 1, 1, 1, 1, 1, 1, 1, 1, 1, 1, 1, 1, 1, 1, 1, 1, 1, 1, 1, 1, 1, 1, 1, 1, 1, 1, 1, 1, 1, 1, 1, 1, 1, 1, 1, 1, 1, 1, 1, 1, 1, 1, 1, 1, 1, 1, 1, 1, 1, 1, 1, 1, 1, 1, 1, 1, 1, 1, 1, 1, 1, 1, 1, 1, 1, 1, 1, 1, 1]
def ec_mw (μ : Nat) : List Cond := ec_cd μ :: .initialized (ec_yn μ).cls :: (match ec_nth 9 ec_kd μ with
  | 0 => [.instanceMethod (ec_yn μ), .selects (ec_yn μ).cls (ec_yn μ) (ec_yn μ)]
  | 1 => [.static (ec_yn μ)]
  | _ => [.instanceMethod (ec_yn μ)])
def ec_mp : List (List Nat) := [[197, 28, 196], [], [], [], [], [], [], [], [], [], [], [49, 22, 48], [218, 22, 216, 217], [222, 22, 221, 0], [353, 22, 351, 352], [413, 22, 411, 412], [434, 22, 432, 433], [232, 22, 231, 1], [573, 22, 571, 572], [598, 22, 596, 597], [606, 22, 604, 605], [481, 22, 479, 480], [624, 22, 622, 623], [648, 22, 646, 647], [692, 22, 690, 691], [697, 22, 695, 696], [680, 22, 678, 679], [510, 22, 508, 509], [143, 25, 142], [345, 25, 343, 344], [], [349, 25, 348, 3], [162, 26, 161], [546, 26, 544, 545], [661, 26, 659, 660], [666, 26, 664, 665], [569, 26, 567, 568], [684, 26, 682, 683], [701, 26, 699, 700], [670, 26, 668, 669], [673, 26, 672], [550, 26, 549, 6], [557, 26, 556, 7], [561, 26, 560, 8], [565, 26, 564, 9], [55, 23, 54], [452, 23, 450, 451], [457, 23, 455, 456], [477, 23, 475, 476], [461, 23, 459, 460], [629, 23, 627, 628], [525, 23, 523, 524], [497, 23, 495, 496], [521, 23, 519, 520], [747, 23, 745, 746], [363, 23, 361, 362], [179, 27, 178], [594, 27, 592, 593], [602, 27, 601], [612, 27, 610, 611], [620, 27, 619, 12], [616, 27, 615, 11], [634, 27, 633, 13], [638, 27, 637], [642, 27, 641, 14], [652, 27, 651], [657, 27, 656, 15], [688, 27, 687, 16], [706, 27, 705], [709, 27, 708], [41, 21, 40], [271, 21, 269, 270], [381, 21, 379, 380], [444, 21, 442, 443], [469, 21, 467, 468], [493, 21, 491, 492], [506, 21, 504, 505], [517, 21, 515, 516], [542, 21, 540, 541], [590, 21, 588, 589], [], [728, 21, 726, 727], [739, 21, 737, 738], [776, 21, 774, 775], [783, 21, 781, 782], [790, 21, 788, 789], [799, 21, 797, 798], [760, 21, 758, 759], [], [], [], [], [], [], [], [], [], [], [], [], [], [], [], [732, 21, 731, 17], [743, 21, 742, 18], [579, 21, 578, 10], [766, 21, 765, 19], [385, 21, 384, 4], [408, 21, 407, 5], [472, 21, 471], [448, 21, 447], [274, 21, 273], [404, 21, 403], [225, 21, 224], [228, 21, 227], [437, 21, 436], [254, 20, 253], [258, 20, 257], [372, 20, 371], [369, 20, 368], [535, 20, 534], [532, 20, 531], [529, 20, 528], [718, 20, 717], [721, 20, 720], [583, 20, 582], [486, 20, 485], [715, 20, 714], [712, 20, 711], [262, 20, 261], [266, 20, 265], [375, 20, 374], [440, 20, 439], [465, 20, 464], [489, 20, 488], [502, 20, 501], [513, 20, 512], [538, 20, 537], [586, 20, 585], [724, 20, 723], [735, 20, 734], [772, 20, 771], [779, 20, 778], [786, 20, 785], [795, 20, 794], [756, 20, 755], [769, 20, 768], [], [], [], [], [], [], [], [], [], [], [], [], [], [], [], [], [], [], [], [], [], [], [], [], [], [], [], [], [], [], [], [], [], [], [], [], [], [], [], [], [], [], [], [], [], [], [], [], [], [], [], [], [], [750, 34, 749], [], [], [], [], [], [], [], [], [], [], [], [], [], [], [], [], [], [], [], [], [], [], [], [], [], []]
def ec_beqL : List UInt8 → List UInt8 → Bool
  | [], [] => true
  | a :: l, b :: m => Nat.beq a.toNat b.toNat && ec_beqL l m
  | _, _ => false
theorem ec_beqL_eq : ∀ {l m : List UInt8}, ec_beqL l m = true → l = m
  | [], [], _ => rfl
  | a :: l, b :: m, h => by
    obtain ⟨h1, h2⟩ := (Bool.and_eq_true _ _).mp h
    rw [ec_beqL_eq h2, UInt8.toNat_inj.mp (Nat.eq_of_beq_eq_true h1)]
  | [], _ :: _, h => by cases h
  | _ :: _, [], h => by cases h
def ec_weq (w w' : Cond) : Bool := match w with
  | .code a b c d => (match w' with
    | .code a' b' c' d' => decide (a = a') && (ec_beqL b.data.toList b'.data.toList && (decide (c = c') && decide (d = d')))
    | _ => false)
  | .codeWith a b c d e => (match w' with
    | .codeWith a' b' c' d' e' => decide (a = a') && (ec_beqL b.data.toList b'.data.toList && (decide (c = c') && (decide (d = d') && decide (e = e'))))
    | _ => false)
  | _ => decide (w = w')
theorem ec_beq_b {b b' : ByteArray} (h : ec_beqL b.data.toList b'.data.toList = true) : b = b' := by
  have h1 := ec_beqL_eq h
  cases b with
  | mk x => cases b' with
    | mk y =>
      cases x with
      | mk x => cases y with
        | mk y =>
          have h1 : x = y := h1
          rw [h1]
theorem ec_weq_eq {w w' : Cond} (h : ec_weq w w' = true) : w = w' := by
  unfold ec_weq at h
  split at h
  · split at h
    · obtain ⟨h1, h2⟩ := (Bool.and_eq_true _ _).mp h
      obtain ⟨h3, h4⟩ := (Bool.and_eq_true _ _).mp h2
      obtain ⟨h5, h6⟩ := (Bool.and_eq_true _ _).mp h4
      rw [of_decide_eq_true h1, ec_beq_b h3, of_decide_eq_true h5, of_decide_eq_true h6]
    · cases h
  · split at h
    · obtain ⟨h1, h2⟩ := (Bool.and_eq_true _ _).mp h
      obtain ⟨h3, h4⟩ := (Bool.and_eq_true _ _).mp h2
      obtain ⟨h5, h6⟩ := (Bool.and_eq_true _ _).mp h4
      obtain ⟨h7, h8⟩ := (Bool.and_eq_true _ _).mp h6
      rw [of_decide_eq_true h1, ec_beq_b h3, of_decide_eq_true h5, of_decide_eq_true h7, of_decide_eq_true h8]
    · cases h
  · exact of_decide_eq_true h
def ec_weqs : List Cond → List Cond → Bool
  | [], [] => true
  | a :: l, b :: m => ec_weq a b && ec_weqs l m
  | _, _ => false
theorem ec_weqs_eq : ∀ {l m : List Cond}, ec_weqs l m = true → l = m
  | [], [], _ => rfl
  | a :: l, b :: m, h => by
    obtain ⟨h1, h2⟩ := (Bool.and_eq_true _ _).mp h
    rw [ec_weqs_eq h2, ec_weq_eq h1]
  | [], _ :: _, h => by cases h
  | _ :: _, [], h => by cases h
def ec_mok (μ : Nat) : Bool := ec_weqs (ec_mw μ) ((ec_nth [] ec_mp μ).filterMap (fun i => lw_tbl[i]?)) && ((ec_mw μ).all goodWord && (plainName (ec_yn μ).cls && (decide ((ec_yn μ).cls ≠ "java/lang/invoke/MethodHandle") && (decide ((ec_yn μ).cls ≠ "java/lang/invoke/VarHandle") && (decide ((ec_yn μ).cls = ec_own (ec_mr μ).1) && (decide ((parseMethodDescriptor (ec_yn μ).desc).map (fun d => d.parameters.length) = some (match ec_nth 9 ec_kd μ with | 1 => (ec_mr μ).2.2.1 | _ => (ec_mr μ).2.2.1 - 1)) && (match ec_nth 9 ec_kd μ with | 1 => true | _ => Nat.ble 1 (ec_mr μ).2.2.1))))))) && ((match ec_nth 9 ec_kd μ with | 2 => decide ((ec_yn μ).name = "<init>") && (decide (ec_re μ = none) && decide (ec_hh μ = [])) | _ => true) && (match (ec_mr μ).2.2.2.1, ec_re μ with | 0, none => true | 1, some .int => true | 2, some .boolean => true | 3, some .long => true | 4, some (.object _) => true | _, _ => false))
/-- the methods that are called (the law's own entry and what nobody calls are not among them) -/
def ec_cal_l : List Nat := [0, 11, 12, 13, 14, 15, 16, 17, 18, 19, 20, 21, 22, 23, 24, 25, 26, 27, 28, 29, 31, 32, 33, 34, 35, 36, 37, 38, 39, 40, 41, 42, 43, 44, 45, 46, 47, 48, 49, 50, 51, 52, 53, 54, 55, 56, 57, 58, 59, 60, 61, 62, 63, 64, 65, 66, 67, 68, 69, 70, 71, 72, 73, 74, 75, 76, 77, 78, 79, 81, 82, 83, 84, 85, 86, 87, 103, 104, 105, 106, 107, 108, 109, 110, 111, 112, 113, 114, 115, 116, 117, 118, 119, 120, 121, 122, 123, 124, 125, 126, 127, 128, 129, 130, 131, 132, 133, 134, 135, 136, 137, 138, 139, 140, 141, 142, 143, 144, 145, 146, 200]
set_option maxRecDepth 100000 in
theorem ec_mok_0 : ([0, 11, 12, 13, 14, 15, 16, 17] : List Nat).all ec_mok = true := by decide +kernel
set_option maxRecDepth 100000 in
theorem ec_mok_1 : ([18, 19, 20, 21, 22, 23, 24, 25] : List Nat).all ec_mok = true := by decide +kernel
set_option maxRecDepth 100000 in
theorem ec_mok_2 : ([26, 27, 28, 29, 31, 32, 33, 34] : List Nat).all ec_mok = true := by decide +kernel
set_option maxRecDepth 100000 in
theorem ec_mok_3 : ([35, 36, 37, 38, 39, 40, 41, 42] : List Nat).all ec_mok = true := by decide +kernel
set_option maxRecDepth 100000 in
theorem ec_mok_4 : ([43, 44, 45, 46, 47, 48, 49, 50] : List Nat).all ec_mok = true := by decide +kernel
set_option maxRecDepth 100000 in
theorem ec_mok_5 : ([51, 52, 53, 54, 55, 56, 57, 58] : List Nat).all ec_mok = true := by decide +kernel
set_option maxRecDepth 100000 in
theorem ec_mok_6 : ([59, 60, 61, 62, 63, 64, 65, 66] : List Nat).all ec_mok = true := by decide +kernel
set_option maxRecDepth 100000 in
theorem ec_mok_7 : ([67, 68, 69, 70, 71, 72, 73, 74] : List Nat).all ec_mok = true := by decide +kernel
set_option maxRecDepth 100000 in
theorem ec_mok_8 : ([75, 76, 77, 78, 79, 81, 82, 83] : List Nat).all ec_mok = true := by decide +kernel
set_option maxRecDepth 100000 in
theorem ec_mok_9 : ([84, 85, 86, 87, 103, 104, 105, 106] : List Nat).all ec_mok = true := by decide +kernel
set_option maxRecDepth 100000 in
theorem ec_mok_10 : ([107, 108, 109, 110, 111, 112, 113, 114] : List Nat).all ec_mok = true := by decide +kernel
set_option maxRecDepth 100000 in
theorem ec_mok_11 : ([115, 116, 117, 118, 119, 120, 121, 122] : List Nat).all ec_mok = true := by decide +kernel
set_option maxRecDepth 100000 in
theorem ec_mok_12 : ([123, 124, 125, 126, 127, 128, 129, 130] : List Nat).all ec_mok = true := by decide +kernel
set_option maxRecDepth 100000 in
theorem ec_mok_13 : ([131, 132, 133, 134, 135, 136, 137, 138] : List Nat).all ec_mok = true := by decide +kernel
set_option maxRecDepth 100000 in
theorem ec_mok_14 : ([139, 140, 141, 142, 143, 144, 145, 146] : List Nat).all ec_mok = true := by decide +kernel
set_option maxRecDepth 100000 in
theorem ec_mok_15 : ([200] : List Nat).all ec_mok = true := by decide +kernel
theorem ec_mok_ok : ∀ μ ∈ ec_cal_l, ec_mok μ = true := by
  intro μ h
  have h : μ ∈ ([0, 11, 12, 13, 14, 15, 16, 17] : List Nat) ++ ([18, 19, 20, 21, 22, 23, 24, 25] : List Nat) ++ ([26, 27, 28, 29, 31, 32, 33, 34] : List Nat) ++ ([35, 36, 37, 38, 39, 40, 41, 42] : List Nat) ++ ([43, 44, 45, 46, 47, 48, 49, 50] : List Nat) ++ ([51, 52, 53, 54, 55, 56, 57, 58] : List Nat) ++ ([59, 60, 61, 62, 63, 64, 65, 66] : List Nat) ++ ([67, 68, 69, 70, 71, 72, 73, 74] : List Nat) ++ ([75, 76, 77, 78, 79, 81, 82, 83] : List Nat) ++ ([84, 85, 86, 87, 103, 104, 105, 106] : List Nat) ++ ([107, 108, 109, 110, 111, 112, 113, 114] : List Nat) ++ ([115, 116, 117, 118, 119, 120, 121, 122] : List Nat) ++ ([123, 124, 125, 126, 127, 128, 129, 130] : List Nat) ++ ([131, 132, 133, 134, 135, 136, 137, 138] : List Nat) ++ ([139, 140, 141, 142, 143, 144, 145, 146] : List Nat) ++ ([200] : List Nat) := h
  simp only [List.mem_append] at h
  first
    | (rcases h with (((((((((((((((h | h) | h) | h) | h) | h) | h) | h) | h) | h) | h) | h) | h) | h) | h) | h)
       · exact List.all_eq_true.mp ec_mok_0 μ h
       · exact List.all_eq_true.mp ec_mok_1 μ h
       · exact List.all_eq_true.mp ec_mok_2 μ h
       · exact List.all_eq_true.mp ec_mok_3 μ h
       · exact List.all_eq_true.mp ec_mok_4 μ h
       · exact List.all_eq_true.mp ec_mok_5 μ h
       · exact List.all_eq_true.mp ec_mok_6 μ h
       · exact List.all_eq_true.mp ec_mok_7 μ h
       · exact List.all_eq_true.mp ec_mok_8 μ h
       · exact List.all_eq_true.mp ec_mok_9 μ h
       · exact List.all_eq_true.mp ec_mok_10 μ h
       · exact List.all_eq_true.mp ec_mok_11 μ h
       · exact List.all_eq_true.mp ec_mok_12 μ h
       · exact List.all_eq_true.mp ec_mok_13 μ h
       · exact List.all_eq_true.mp ec_mok_14 μ h
       · exact List.all_eq_true.mp ec_mok_15 μ h)
