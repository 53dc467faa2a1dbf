theorem ec_has4_mem {l : List (Nat × Nat × Nat × Nat)} {a b c d : Nat} (h : ec_has4 l a b c d = true) : (a, b, c, d) ∈ l := by
  obtain ⟨⟨q1, q2, q3, q4⟩, hq, h1⟩ := List.any_eq_true.mp h
  simp only [Bool.and_eq_true] at h1
  obtain ⟨h1, h2, h3, h4⟩ := h1
  cases Nat.eq_of_beq_eq_true h1
  cases Nat.eq_of_beq_eq_true h2
  cases Nat.eq_of_beq_eq_true h3
  cases Nat.eq_of_beq_eq_true h4
  exact hq
theorem ec_has3_mem {l : List (Nat × Nat × Nat)} {a b c : Nat} (h : ec_has3 l a b c = true) : (a, b, c) ∈ l := by
  obtain ⟨⟨q1, q2, q3⟩, hq, h1⟩ := List.any_eq_true.mp h
  simp only [Bool.and_eq_true] at h1
  obtain ⟨h1, h2, h3⟩ := h1
  cases Nat.eq_of_beq_eq_true h1
  cases Nat.eq_of_beq_eq_true h2
  cases Nat.eq_of_beq_eq_true h3
  exact hq
theorem ec_hasK_mem {l : List (Nat × Nat × Int32)} {a b : Nat} {v : Int32} (h : ec_hasK l a b v = true) : (a, b, v) ∈ l := by
  obtain ⟨⟨q1, q2, q3⟩, hq, h1⟩ := List.any_eq_true.mp h
  simp only [Bool.and_eq_true, decide_eq_true_eq] at h1
  obtain ⟨h1, h2, h3⟩ := h1
  cases Nat.eq_of_beq_eq_true h1
  cases Nat.eq_of_beq_eq_true h2
  cases h3
  exact hq
theorem ec_nth_all {l : List (List (Nat × ec_MI))} {f : Nat × ec_MI → Bool} : ∀ (i : Nat), l.all (fun b => b.all f) = true → (ec_nth [] l i).all f = true := by
  induction l with
  | nil => intro i _; rfl
  | cons a l ih =>
    intro i h
    simp only [List.all_cons, Bool.and_eq_true] at h
    cases i with
    | zero => exact h.1
    | succ i => exact ih i h.2
theorem ec_all_app {p : Nat → Bool} {a b : List Nat} (h1 : a.all p = true) (h2 : b.all p = true) : (a ++ b).all p = true := by rw [List.all_append, h1, h2]; rfl
set_option maxRecDepth 100000 in
theorem ec_okM_all : (((((((([0, 1, 2, 3] : List Nat) ++ ([4] : List Nat)) ++ (([5, 6, 7, 8, 9, 10] : List Nat) ++ ([11, 12] : List Nat))) ++ ((([13] : List Nat) ++ ([14, 15, 16, 17] : List Nat)) ++ (([18, 19, 20, 21, 22] : List Nat) ++ (([23, 24, 25, 26, 27, 28, 29] : List Nat) ++ ([30, 31, 32, 33, 34, 35] : List Nat))))) ++ (((([36, 37, 38, 39] : List Nat) ++ ([40, 41, 42, 43] : List Nat)) ++ (([44, 45, 46, 47, 48] : List Nat) ++ ([49, 50, 51, 52, 53, 54, 55] : List Nat))) ++ ((([56, 57, 58] : List Nat) ++ ([59, 60, 61] : List Nat)) ++ (([62, 63, 64] : List Nat) ++ (([65, 66] : List Nat) ++ ([67, 68] : List Nat)))))) ++ ((((([69, 70, 71] : List Nat) ++ ([72, 73] : List Nat)) ++ (([74, 75] : List Nat) ++ ([76, 77] : List Nat))) ++ ((([78, 79, 80, 81] : List Nat) ++ ([82, 83, 84, 85, 86] : List Nat)) ++ (([87, 88] : List Nat) ++ (([89, 90, 91] : List Nat) ++ ([92, 93, 94, 95] : List Nat))))) ++ (((([96, 97] : List Nat) ++ ([98] : List Nat)) ++ (([99, 100, 101] : List Nat) ++ (([102, 103, 104, 105, 106, 107, 108, 109] : List Nat) ++ ([110, 111, 112, 113, 114, 115, 116, 117, 118, 119, 120] : List Nat)))) ++ ((([121, 122, 123] : List Nat) ++ ([124, 125, 126, 127] : List Nat)) ++ (([128, 129, 130, 131, 132] : List Nat) ++ (([133] : List Nat) ++ ([134] : List Nat))))))) ++ (((((([135, 136] : List Nat) ++ ([137, 138] : List Nat)) ++ (([139, 140] : List Nat) ++ ([141, 142] : List Nat))) ++ ((([143, 144, 145] : List Nat) ++ ([146] : List Nat)) ++ (([147] : List Nat) ++ (([148] : List Nat) ++ ([149] : List Nat))))) ++ (((([150, 151] : List Nat) ++ ([152] : List Nat)) ++ (([153, 154] : List Nat) ++ ([155, 156] : List Nat))) ++ ((([157] : List Nat) ++ ([158] : List Nat)) ++ (([159] : List Nat) ++ (([160] : List Nat) ++ ([161] : List Nat)))))) ++ ((((([162] : List Nat) ++ ([163, 164, 165, 166] : List Nat)) ++ (([167, 168] : List Nat) ++ ([169, 170, 171, 172, 173] : List Nat))) ++ ((([174, 175] : List Nat) ++ ([176, 177, 178] : List Nat)) ++ (([179, 180, 181] : List Nat) ++ (([182, 183, 184] : List Nat) ++ ([185] : List Nat))))) ++ (((([186, 187, 188] : List Nat) ++ ([189, 190, 191, 192] : List Nat)) ++ (([193, 194] : List Nat) ++ (([195, 196, 197] : List Nat) ++ ([198] : List Nat)))) ++ ((([199] : List Nat) ++ ([200, 201, 202, 203, 204] : List Nat)) ++ (([205, 206, 207, 208, 209, 210] : List Nat) ++ (([211, 212, 213, 214, 215, 216, 217] : List Nat) ++ ([218, 219, 220, 221, 222, 223, 224, 225] : List Nat))))))))).all ec_okM = true := (ec_all_app (ec_all_app (ec_all_app (ec_all_app (ec_all_app (ec_all_app ec_ok_0 ec_ok_1) (ec_all_app ec_ok_2 ec_ok_3)) (ec_all_app (ec_all_app ec_ok_4 ec_ok_5) (ec_all_app ec_ok_6 (ec_all_app ec_ok_7 ec_ok_8)))) (ec_all_app (ec_all_app (ec_all_app ec_ok_9 ec_ok_10) (ec_all_app ec_ok_11 ec_ok_12)) (ec_all_app (ec_all_app ec_ok_13 ec_ok_14) (ec_all_app ec_ok_15 (ec_all_app ec_ok_16 ec_ok_17))))) (ec_all_app (ec_all_app (ec_all_app (ec_all_app ec_ok_18 ec_ok_19) (ec_all_app ec_ok_20 ec_ok_21)) (ec_all_app (ec_all_app ec_ok_22 ec_ok_23) (ec_all_app ec_ok_24 (ec_all_app ec_ok_25 ec_ok_26)))) (ec_all_app (ec_all_app (ec_all_app ec_ok_27 ec_ok_28) (ec_all_app ec_ok_29 (ec_all_app ec_ok_30 ec_ok_31))) (ec_all_app (ec_all_app ec_ok_32 ec_ok_33) (ec_all_app ec_ok_34 (ec_all_app ec_ok_35 ec_ok_36)))))) (ec_all_app (ec_all_app (ec_all_app (ec_all_app (ec_all_app ec_ok_37 ec_ok_38) (ec_all_app ec_ok_39 ec_ok_40)) (ec_all_app (ec_all_app ec_ok_41 ec_ok_42) (ec_all_app ec_ok_43 (ec_all_app ec_ok_44 ec_ok_45)))) (ec_all_app (ec_all_app (ec_all_app ec_ok_46 ec_ok_47) (ec_all_app ec_ok_48 ec_ok_49)) (ec_all_app (ec_all_app ec_ok_50 ec_ok_51) (ec_all_app ec_ok_52 (ec_all_app ec_ok_53 ec_ok_54))))) (ec_all_app (ec_all_app (ec_all_app (ec_all_app ec_ok_55 ec_ok_56) (ec_all_app ec_ok_57 ec_ok_58)) (ec_all_app (ec_all_app ec_ok_59 ec_ok_60) (ec_all_app ec_ok_61 (ec_all_app ec_ok_62 ec_ok_63)))) (ec_all_app (ec_all_app (ec_all_app ec_ok_64 ec_ok_65) (ec_all_app ec_ok_66 (ec_all_app ec_ok_67 ec_ok_68))) (ec_all_app (ec_all_app ec_ok_69 ec_ok_70) (ec_all_app ec_ok_71 (ec_all_app ec_ok_72 ec_ok_73)))))))
set_option maxRecDepth 100000 in
theorem ec_okB_all : ((((([0, 1, 2, 3, 4, 5, 6, 7, 8, 9, 10, 11] : List Nat) ++ ([12, 13, 14, 15, 16, 17, 18, 19, 20, 21, 22, 23] : List Nat)) ++ (([24, 25, 26, 27, 28, 29, 30, 31, 32, 33, 34, 35] : List Nat) ++ (([36, 37, 38, 39, 40, 41, 42, 43, 44, 45, 46, 47] : List Nat) ++ ([48, 49, 50, 51, 52, 53, 54, 55, 56, 57, 58, 59] : List Nat)))) ++ ((([60, 61, 62, 63, 64, 65, 66, 67, 68, 69, 70, 71] : List Nat) ++ (([72, 73, 74, 75, 76, 77, 78, 79, 80, 81, 82, 83] : List Nat) ++ ([84, 85, 86, 87, 88, 89, 90, 91, 92, 93, 94, 95] : List Nat))) ++ (([96, 97, 98, 99, 100, 101, 102, 103, 104, 105, 106, 107] : List Nat) ++ (([108, 109, 110, 111, 112, 113, 114, 115, 116, 117, 118, 119] : List Nat) ++ ([120, 121, 122, 123, 124, 125, 126] : List Nat)))))).all (ec_okB 226) = true := (ec_all_app (ec_all_app (ec_all_app ec_okl_0 ec_okl_1) (ec_all_app ec_okl_2 (ec_all_app ec_okl_3 ec_okl_4))) (ec_all_app (ec_all_app ec_okl_5 (ec_all_app ec_okl_6 ec_okl_7)) (ec_all_app ec_okl_8 (ec_all_app ec_okl_9 ec_okl_10))))
-- every row that is looked up is good
set_option maxRecDepth 100000 in
theorem ec_ok_row {μ : Nat} (h : μ ∈ ec_cal_l ∨ μ = 226) {i : Nat} : (ec_nth [] (ec_nth [] ec_kt μ) i).all (ec_okI μ) = true := by
  rcases h with h | rfl
  · exact ec_nth_all i (List.all_eq_true.mp ec_okM_all μ h)
  · by_cases hi : i < 127
    · have h2 : List.range 127 = (((([0, 1, 2, 3, 4, 5, 6, 7, 8, 9, 10, 11] : List Nat) ++ ([12, 13, 14, 15, 16, 17, 18, 19, 20, 21, 22, 23] : List Nat)) ++ (([24, 25, 26, 27, 28, 29, 30, 31, 32, 33, 34, 35] : List Nat) ++ (([36, 37, 38, 39, 40, 41, 42, 43, 44, 45, 46, 47] : List Nat) ++ ([48, 49, 50, 51, 52, 53, 54, 55, 56, 57, 58, 59] : List Nat)))) ++ ((([60, 61, 62, 63, 64, 65, 66, 67, 68, 69, 70, 71] : List Nat) ++ (([72, 73, 74, 75, 76, 77, 78, 79, 80, 81, 82, 83] : List Nat) ++ ([84, 85, 86, 87, 88, 89, 90, 91, 92, 93, 94, 95] : List Nat))) ++ (([96, 97, 98, 99, 100, 101, 102, 103, 104, 105, 106, 107] : List Nat) ++ (([108, 109, 110, 111, 112, 113, 114, 115, 116, 117, 118, 119] : List Nat) ++ ([120, 121, 122, 123, 124, 125, 126] : List Nat))))) := by decide +kernel
      exact List.all_eq_true.mp ec_okB_all i (h2 ▸ List.mem_range.mpr hi)
    · have hz : ∀ (l : List (List (Nat × ec_MI))) (j : Nat), l.length ≤ j → ec_nth [] l j = [] := by
        intro l
        induction l with
        | nil => intro j _; rfl
        | cons a l ih =>
          intro j hj
          cases j with
          | zero => simp at hj
          | succ j => exact ih j (by simpa using hj)
      have h3 : (ec_nth [] ec_kt 226).length = 127 := by decide +kernel
      rw [hz _ _ (by rw [h3]; omega)]
      rfl
