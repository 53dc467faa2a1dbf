theorem ec_has4_mem {l : List (Nat × Nat × Nat × Nat)} {a b c d : Nat} (h : ec_has4 l a b c d = true) : (a, b, c, d) ∈ l := by
  obtain ⟨⟨q1, q2, q3, q4⟩, hq, h1⟩ := List.any_eq_true.mp h
  simp only [Bool.and_eq_true] at h1
  obtain ⟨h1, h2, h3, h4⟩ := h1
  cases Nat.eq_of_beq_eq_true h1
  cases Nat.eq_of_beq_eq_true h2
  cases Nat.eq_of_beq_eq_true h3
  cases Nat.eq_of_beq_eq_true h4
  exact hq
theorem ec_has3_mem {l : List (Nat × Nat × Nat)} {a b c : Nat} (h : ec_has3 l a b c = true) : (a, b, c) ∈ l := by
  obtain ⟨⟨q1, q2, q3⟩, hq, h1⟩ := List.any_eq_true.mp h
  simp only [Bool.and_eq_true] at h1
  obtain ⟨h1, h2, h3⟩ := h1
  cases Nat.eq_of_beq_eq_true h1
  cases Nat.eq_of_beq_eq_true h2
  cases Nat.eq_of_beq_eq_true h3
  exact hq
theorem ec_hasK_mem {l : List (Nat × Nat × Int32)} {a b : Nat} {v : Int32} (h : ec_hasK l a b v = true) : (a, b, v) ∈ l := by
  obtain ⟨⟨q1, q2, q3⟩, hq, h1⟩ := List.any_eq_true.mp h
  simp only [Bool.and_eq_true, decide_eq_true_eq] at h1
  obtain ⟨h1, h2, h3⟩ := h1
  cases Nat.eq_of_beq_eq_true h1
  cases Nat.eq_of_beq_eq_true h2
  cases h3
  exact hq
theorem ec_nth_all {l : List (List (Nat × ec_MI))} {f : Nat × ec_MI → Bool} : ∀ (i : Nat), l.all (fun b => b.all f) = true → (ec_nth [] l i).all f = true := by
  induction l with
  | nil => intro i _; rfl
  | cons a l ih =>
    intro i h
    simp only [List.all_cons, Bool.and_eq_true] at h
    cases i with
    | zero => exact h.1
    | succ i => exact ih i h.2
theorem ec_all_app {p : Nat → Bool} {a b : List Nat} (h1 : a.all p = true) (h2 : b.all p = true) : (a ++ b).all p = true := by rw [List.all_append, h1, h2]; rfl
set_option maxRecDepth 100000 in
theorem ec_okM_all0 : ((((((([0, 11, 12] : List Nat) ++ ([13] : List Nat)) ++ (([14, 15, 16, 17] : List Nat) ++ ([18, 19, 20, 21, 22] : List Nat))) ++ ((([23, 24, 25, 26, 27, 28, 29] : List Nat) ++ ([31, 32, 33, 34, 35, 36, 37] : List Nat)) ++ (([38, 39, 40] : List Nat) ++ (([41, 42, 43] : List Nat) ++ ([44, 45, 46, 47, 48] : List Nat))))) ++ (((([49, 50, 51, 52, 53, 54, 55] : List Nat) ++ ([56, 57, 58] : List Nat)) ++ (([59, 60, 61] : List Nat) ++ ([62, 63, 64] : List Nat))) ++ ((([65, 66] : List Nat) ++ ([67, 68] : List Nat)) ++ (([69, 70, 71] : List Nat) ++ (([72, 73] : List Nat) ++ ([74, 75] : List Nat)))))) ++ ((((([76, 77] : List Nat) ++ ([78, 79, 81, 82] : List Nat)) ++ (([83, 84, 85, 86] : List Nat) ++ ([87, 103, 104] : List Nat))) ++ ((([105, 106, 107, 108, 109, 110, 111, 112, 113, 114, 115] : List Nat) ++ ([116, 117, 118, 119] : List Nat)) ++ (([120] : List Nat) ++ (([121] : List Nat) ++ ([122] : List Nat))))) ++ (((([123] : List Nat) ++ ([124] : List Nat)) ++ (([125] : List Nat) ++ ([126, 127, 130, 131, 132, 133, 134] : List Nat))) ++ ((([135, 136, 137, 138, 139, 140, 141, 142, 143, 144] : List Nat) ++ ([145, 200] : List Nat)) ++ (([128] : List Nat) ++ (([129] : List Nat) ++ ([146] : List Nat)))))))).all ec_okM = true := (ec_all_app (ec_all_app (ec_all_app (ec_all_app (ec_all_app ec_ok_0 ec_ok_1) (ec_all_app ec_ok_2 ec_ok_3)) (ec_all_app (ec_all_app ec_ok_4 ec_ok_5) (ec_all_app ec_ok_6 (ec_all_app ec_ok_7 ec_ok_8)))) (ec_all_app (ec_all_app (ec_all_app ec_ok_9 ec_ok_10) (ec_all_app ec_ok_11 ec_ok_12)) (ec_all_app (ec_all_app ec_ok_13 ec_ok_14) (ec_all_app ec_ok_15 (ec_all_app ec_ok_16 ec_ok_17))))) (ec_all_app (ec_all_app (ec_all_app (ec_all_app ec_ok_18 ec_ok_19) (ec_all_app ec_ok_20 ec_ok_21)) (ec_all_app (ec_all_app ec_ok_22 ec_ok_23) (ec_all_app ec_ok_24 (ec_all_app ec_ok_25 ec_ok_26)))) (ec_all_app (ec_all_app (ec_all_app ec_ok_27 ec_ok_28) (ec_all_app ec_ok_29 ec_ok_30)) (ec_all_app (ec_all_app ec_ok_31 ec_ok_32) (ec_all_app ec_okG_128 (ec_all_app ec_okG_129 ec_okG_146))))))
set_option maxRecDepth 100000 in
theorem ec_cal_all : ec_cal_l.all (fun k => ec_mem [0, 11, 12, 13, 14, 15, 16, 17, 18, 19, 20, 21, 22, 23, 24, 25, 26, 27, 28, 29, 31, 32, 33, 34, 35, 36, 37, 38, 39, 40, 41, 42, 43, 44, 45, 46, 47, 48, 49, 50, 51, 52, 53, 54, 55, 56, 57, 58, 59, 60, 61, 62, 63, 64, 65, 66, 67, 68, 69, 70, 71, 72, 73, 74, 75, 76, 77, 78, 79, 81, 82, 83, 84, 85, 86, 87, 103, 104, 105, 106, 107, 108, 109, 110, 111, 112, 113, 114, 115, 116, 117, 118, 119, 120, 121, 122, 123, 124, 125, 126, 127, 130, 131, 132, 133, 134, 135, 136, 137, 138, 139, 140, 141, 142, 143, 144, 145, 200, 128, 129, 146] k) = true := by decide +kernel
theorem ec_mem_in : ∀ {l : List Nat} {n : Nat}, ec_mem l n = true → n ∈ l
  | [], _, h => by cases h
  | a :: l, n, h => by
    rcases (Bool.or_eq_true _ _).mp h with h | h
    · cases Nat.eq_of_beq_eq_true h; exact List.mem_cons_self
    · exact List.mem_cons_of_mem _ (ec_mem_in h)
set_option maxRecDepth 100000 in
theorem ec_okM_flat : [0, 11, 12, 13, 14, 15, 16, 17, 18, 19, 20, 21, 22, 23, 24, 25, 26, 27, 28, 29, 31, 32, 33, 34, 35, 36, 37, 38, 39, 40, 41, 42, 43, 44, 45, 46, 47, 48, 49, 50, 51, 52, 53, 54, 55, 56, 57, 58, 59, 60, 61, 62, 63, 64, 65, 66, 67, 68, 69, 70, 71, 72, 73, 74, 75, 76, 77, 78, 79, 81, 82, 83, 84, 85, 86, 87, 103, 104, 105, 106, 107, 108, 109, 110, 111, 112, 113, 114, 115, 116, 117, 118, 119, 120, 121, 122, 123, 124, 125, 126, 127, 130, 131, 132, 133, 134, 135, 136, 137, 138, 139, 140, 141, 142, 143, 144, 145, 200, 128, 129, 146] = ((((((([0, 11, 12] : List Nat) ++ ([13] : List Nat)) ++ (([14, 15, 16, 17] : List Nat) ++ ([18, 19, 20, 21, 22] : List Nat))) ++ ((([23, 24, 25, 26, 27, 28, 29] : List Nat) ++ ([31, 32, 33, 34, 35, 36, 37] : List Nat)) ++ (([38, 39, 40] : List Nat) ++ (([41, 42, 43] : List Nat) ++ ([44, 45, 46, 47, 48] : List Nat))))) ++ (((([49, 50, 51, 52, 53, 54, 55] : List Nat) ++ ([56, 57, 58] : List Nat)) ++ (([59, 60, 61] : List Nat) ++ ([62, 63, 64] : List Nat))) ++ ((([65, 66] : List Nat) ++ ([67, 68] : List Nat)) ++ (([69, 70, 71] : List Nat) ++ (([72, 73] : List Nat) ++ ([74, 75] : List Nat)))))) ++ ((((([76, 77] : List Nat) ++ ([78, 79, 81, 82] : List Nat)) ++ (([83, 84, 85, 86] : List Nat) ++ ([87, 103, 104] : List Nat))) ++ ((([105, 106, 107, 108, 109, 110, 111, 112, 113, 114, 115] : List Nat) ++ ([116, 117, 118, 119] : List Nat)) ++ (([120] : List Nat) ++ (([121] : List Nat) ++ ([122] : List Nat))))) ++ (((([123] : List Nat) ++ ([124] : List Nat)) ++ (([125] : List Nat) ++ ([126, 127, 130, 131, 132, 133, 134] : List Nat))) ++ ((([135, 136, 137, 138, 139, 140, 141, 142, 143, 144] : List Nat) ++ ([145, 200] : List Nat)) ++ (([128] : List Nat) ++ (([129] : List Nat) ++ ([146] : List Nat)))))))) := by decide +kernel
theorem ec_okM_all : ∀ μ ∈ ec_cal_l, ec_okM μ = true := by
  intro μ h
  have h1 := ec_mem_in (List.all_eq_true.mp ec_cal_all μ h)
  rw [ec_okM_flat] at h1
  exact List.all_eq_true.mp ec_okM_all0 μ h1
set_option maxRecDepth 100000 in
theorem ec_okB_all : ((([0, 1, 2, 3, 4, 5, 6, 7, 8, 9, 10, 11] : List Nat) ++ ([12, 13, 14, 15, 16, 17, 18, 19, 20, 21] : List Nat))).all (ec_okB 226) = true := (ec_all_app ec_okl_0 ec_okl_1)
-- every row that is looked up is good
set_option maxRecDepth 100000 in
theorem ec_ok_row {μ : Nat} (h : μ ∈ ec_cal_l ∨ μ = 226) {i : Nat} : (ec_nth [] (ec_nth [] ec_kt μ) i).all (ec_okI μ) = true := by
  rcases h with h | rfl
  · exact ec_nth_all i (ec_okM_all μ h)
  · by_cases hi : i < 22
    · have h2 : List.range 22 = (([0, 1, 2, 3, 4, 5, 6, 7, 8, 9, 10, 11] : List Nat) ++ ([12, 13, 14, 15, 16, 17, 18, 19, 20, 21] : List Nat)) := by decide +kernel
      exact List.all_eq_true.mp ec_okB_all i (h2 ▸ List.mem_range.mpr hi)
    · have hz : ∀ (l : List (List (Nat × ec_MI))) (j : Nat), l.length ≤ j → ec_nth [] l j = [] := by
        intro l
        induction l with
        | nil => intro j _; rfl
        | cons a l ih =>
          intro j hj
          cases j with
          | zero => simp at hj
          | succ j => exact ih j (by simpa using hj)
      have h3 : (ec_nth [] ec_kt 226).length = 22 := by decide +kernel
      rw [hz _ _ (by rw [h3]; omega)]
      rfl
