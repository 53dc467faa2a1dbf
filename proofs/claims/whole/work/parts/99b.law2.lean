/-! The law's calls agree. -/
theorem ed_wd (x : Int32) : ∃ a : Int, ec_rg a ∧ x = ec_i a := ⟨x.toInt, ⟨Int32.le_toInt x, Int32.toInt_lt x⟩, (ec_zI x).symm⟩
section EDW
variable {h : ec_Hp} {σ : ec_Sg} {n : Int} {p : Int → ec_Sg} {L : Int} {T : Int → Int} {N : Nat} {xs : Nat → Int32} {i : Int} {w5 w6 : Value}
theorem ec_n0 (W : ed_Lw h σ n p L T) (hs : h.2.2.2.2.2 = (N, xs)) (hi : 0 ≤ i ∧ i + 6 ≤ (N : Int)) (hN : N ≤ 3072) : ed_Nx 168 h i w5 w6 := by
  obtain ⟨a1, r1, e1⟩ := ed_wd (xs (ec_i (i + 1)).toNatClampNeg)
  obtain ⟨a2, r2, e2⟩ := ed_wd (xs (ec_i (i + 2)).toNatClampNeg)
  have wr := ec_w201 (h := h) (a1 := a1) (a2 := a2) W.1.1.1.1
  refine ec_l0 W hs hi hN e1 e2 ?_
  have A := ec_c71s W.1 r1 r2
  by_cases q : (1 ≤ a1 ∧ a1 ≤ 8) ∧ 1 ≤ a2 ∧ a2 ≤ 6
  · exact ed_op_ok W wr.1 (A.1 q) (fun h2 M => ec_c143 M q.1 q.2)
  · exact ed_op_er (k := 1) W (by omega) (wr.2 (A.2 q)) (fun h2 M => ec_c143x M r1 r2 q)
theorem ec_n1 (W : ed_Lw h σ n p L T) (hs : h.2.2.2.2.2 = (N, xs)) (hi : 0 ≤ i ∧ i + 6 ≤ (N : Int)) (hN : N ≤ 3072) : ed_Nx 236 h i w5 w6 := by
  obtain ⟨a1, r1, e1⟩ := ed_wd (xs (ec_i (i + 1)).toNatClampNeg)
  obtain ⟨a2, r2, e2⟩ := ed_wd (xs (ec_i (i + 2)).toNatClampNeg)
  obtain ⟨a3, r3, e3⟩ := ed_wd (xs (ec_i (i + 3)).toNatClampNeg)
  obtain ⟨b4, r4, e4⟩ := ed_wd (xs (ec_i (i + 4)).toNatClampNeg)
  obtain ⟨a4, hb⟩ : ∃ a : Int, a = if b4 = 0 then 0 else 1 := ⟨_, rfl⟩
  have hv : 0 ≤ a4 ∧ a4 ≤ 1 := by rw [hb]; split <;> omega
  have wr := ec_w202 (h := h) (a1 := a1) (a2 := a2) (a3 := a3) (a4 := a4) W.1.1.1.1
  refine ec_l1 W hs hi hN e1 e2 e3 e4 r4 hb ?_
  have A := ec_c72s W.1 r1 r2 r3 hv
  have B := fun h2 (M : ed_ML h2 σ n p L T) => ec_c145 M r1 r2 r3 hv
  have kr : 0 ≤ ed_kWl σ a1 a2 a3 ∧ ed_kWl σ a1 a2 a3 ≤ 3 := by
    unfold ed_kWl
    repeat' split
    all_goals omega
  by_cases q : ed_kWl σ a1 a2 a3 = 0
  · exact ed_op_ok W wr.1 (A.1 q) (fun h2 M => (B h2 M).1 q)
  · have A := A.2 q
    have B := fun h2 M => (B h2 M).2 q
    rcases (show ed_kWl σ a1 a2 a3 = 1 ∨ ed_kWl σ a1 a2 a3 = 2 ∨ ed_kWl σ a1 a2 a3 = 3 by omega) with e | e | e
    · simp only [e] at A B
      exact ed_op_er (k := 1) W (by omega) (wr.2.1 A) B
    · simp only [e] at A B
      exact ed_op_er (k := 2) W (by omega) (wr.2.2.1 A) B
    · simp only [e] at A B
      exact ed_op_er (k := 3) W (by omega) (wr.2.2.2 A) B
theorem ec_n2 (W : ed_Lw h σ n p L T) (hs : h.2.2.2.2.2 = (N, xs)) (hi : 0 ≤ i ∧ i + 6 ≤ (N : Int)) (hN : N ≤ 3072) : ed_Nx 344 h i w5 w6 := by
  obtain ⟨a1, r1, e1⟩ := ed_wd (xs (ec_i (i + 1)).toNatClampNeg)
  obtain ⟨a2, r2, e2⟩ := ed_wd (xs (ec_i (i + 2)).toNatClampNeg)
  obtain ⟨a3, r3, e3⟩ := ed_wd (xs (ec_i (i + 3)).toNatClampNeg)
  obtain ⟨a4, r4, e4⟩ := ed_wd (xs (ec_i (i + 4)).toNatClampNeg)
  obtain ⟨a5, r5, e5⟩ := ed_wd (xs (ec_i (i + 5)).toNatClampNeg)
  have wr := ec_w203 (h := h) (a1 := a1) (a2 := a2) (a3 := a3) (a4 := a4) (a5 := a5) W.1.1.1.1
  refine ec_l2 W hs hi hN e1 e2 e3 e4 e5 ?_
  have A := ec_c73s W.1 r1 r2 r3 r4 r5
  have B := fun h2 (M : ed_ML h2 σ n p L T) => ec_c146 M r1 r2 r3 r4 r5
  have kr : 0 ≤ ed_kAd σ a1 a2 a3 a4 a5 ∧ ed_kAd σ a1 a2 a3 a4 a5 ≤ 3 := by
    unfold ed_kAd
    repeat' split
    all_goals omega
  by_cases q : ed_kAd σ a1 a2 a3 a4 a5 = 0
  · exact ed_op_ok W wr.1 (A.1 q) (fun h2 M => (B h2 M).1 q)
  · have A := A.2 q
    have B := fun h2 M => (B h2 M).2 q
    rcases (show ed_kAd σ a1 a2 a3 a4 a5 = 1 ∨ ed_kAd σ a1 a2 a3 a4 a5 = 2 ∨ ed_kAd σ a1 a2 a3 a4 a5 = 3 by omega) with e | e | e
    · simp only [e] at A B
      exact ed_op_er (k := 1) W (by omega) (wr.2.1 A) B
    · simp only [e] at A B
      exact ed_op_er (k := 2) W (by omega) (wr.2.2.1 A) B
    · simp only [e] at A B
      exact ed_op_er (k := 3) W (by omega) (wr.2.2.2 A) B
theorem ec_n3 (W : ed_Lw h σ n p L T) (hs : h.2.2.2.2.2 = (N, xs)) (hi : 0 ≤ i ∧ i + 6 ≤ (N : Int)) (hN : N ≤ 3072) : ed_Nx 448 h i w5 w6 := by
  obtain ⟨a1, r1, e1⟩ := ed_wd (xs (ec_i (i + 1)).toNatClampNeg)
  obtain ⟨a2, r2, e2⟩ := ed_wd (xs (ec_i (i + 2)).toNatClampNeg)
  have wr := ec_w204 (h := h) (a1 := a1) (a2 := a2) W.1.1.1.1
  refine ec_l3 W hs hi hN e1 e2 ?_
  have A := ec_c74s W.1 r1 r2
  have B := fun h2 (M : ed_ML h2 σ n p L T) => ec_c147 M r1 r2
  have kr : 0 ≤ ed_kSd σ a1 a2 ∧ ed_kSd σ a1 a2 ≤ 2 := by
    unfold ed_kSd
    repeat' split
    all_goals omega
  by_cases q : ed_kSd σ a1 a2 = 0
  · exact ed_op_ok W wr.1 (A.1 q) (fun h2 M => (B h2 M).1 q)
  · have A := A.2 q
    have B := fun h2 M => (B h2 M).2 q
    rcases (show ed_kSd σ a1 a2 = 1 ∨ ed_kSd σ a1 a2 = 2 by omega) with e | e
    · simp only [e] at A B
      exact ed_op_er (k := 1) W (by omega) (wr.2.1 A) B
    · simp only [e] at A B
      exact ed_op_er (k := 2) W (by omega) (wr.2.2 A) B
theorem ec_n4 (W : ed_Lw h σ n p L T) (hs : h.2.2.2.2.2 = (N, xs)) (hi : 0 ≤ i ∧ i + 6 ≤ (N : Int)) (hN : N ≤ 3072) : ed_Nx 516 h i w5 w6 := by
  obtain ⟨a1, r1, e1⟩ := ed_wd (xs (ec_i (i + 1)).toNatClampNeg)
  obtain ⟨a2, r2, e2⟩ := ed_wd (xs (ec_i (i + 2)).toNatClampNeg)
  obtain ⟨a3, r3, e3⟩ := ed_wd (xs (ec_i (i + 3)).toNatClampNeg)
  have wr := ec_w205 (h := h) (a1 := a1) (a2 := a2) (a3 := a3) W.1.1.1.1
  refine ec_l4 W hs hi hN e1 e2 e3 ?_
  have A := ec_c75s W.1 r1 r2 r3
  have B := fun h2 (M : ed_ML h2 σ n p L T) => ec_c148 M r1 r2 r3
  have kr : 0 ≤ ed_kAt σ a1 a2 a3 ∧ ed_kAt σ a1 a2 a3 ≤ 3 := by
    unfold ed_kAt
    repeat' split
    all_goals omega
  by_cases q : ed_kAt σ a1 a2 a3 = 0
  · exact ed_op_ok W wr.1 (A.1 q) (fun h2 M => (B h2 M).1 q)
  · have A := A.2 q
    have B := fun h2 M => (B h2 M).2 q
    rcases (show ed_kAt σ a1 a2 a3 = 1 ∨ ed_kAt σ a1 a2 a3 = 2 ∨ ed_kAt σ a1 a2 a3 = 3 by omega) with e | e | e
    · simp only [e] at A B
      exact ed_op_er (k := 1) W (by omega) (wr.2.1 A) B
    · simp only [e] at A B
      exact ed_op_er (k := 2) W (by omega) (wr.2.2.1 A) B
    · simp only [e] at A B
      exact ed_op_er (k := 3) W (by omega) (wr.2.2.2 A) B
theorem ec_n5 (W : ed_Lw h σ n p L T) (hs : h.2.2.2.2.2 = (N, xs)) (hi : 0 ≤ i ∧ i + 6 ≤ (N : Int)) (hN : N ≤ 3072) : ed_Nx 596 h i w5 w6 := by
  obtain ⟨a1, r1, e1⟩ := ed_wd (xs (ec_i (i + 1)).toNatClampNeg)
  obtain ⟨a2, r2, e2⟩ := ed_wd (xs (ec_i (i + 2)).toNatClampNeg)
  obtain ⟨a3, r3, e3⟩ := ed_wd (xs (ec_i (i + 3)).toNatClampNeg)
  obtain ⟨a4, r4, e4⟩ := ed_wd (xs (ec_i (i + 4)).toNatClampNeg)
  have wr := ec_w206 (h := h) (a1 := a1) (a2 := a2) (a3 := a3) (a4 := a4) W.1.1.1.1
  refine ec_l5 W hs hi hN e1 e2 e3 e4 ?_
  have A := ec_c76s W.1 r1 r2 r3 r4
  have B := fun h2 (M : ed_ML h2 σ n p L T) => ec_c149 M r1 r2 r3 r4
  have kr : 0 ≤ ed_kAm σ a1 a2 a3 a4 ∧ ed_kAm σ a1 a2 a3 a4 ≤ 3 := by
    unfold ed_kAm
    repeat' split
    all_goals omega
  by_cases q : ed_kAm σ a1 a2 a3 a4 = 0
  · exact ed_op_ok W wr.1 (A.1 q) (fun h2 M => (B h2 M).1 q)
  · have A := A.2 q
    have B := fun h2 M => (B h2 M).2 q
    rcases (show ed_kAm σ a1 a2 a3 a4 = 1 ∨ ed_kAm σ a1 a2 a3 a4 = 2 ∨ ed_kAm σ a1 a2 a3 a4 = 3 by omega) with e | e | e
    · simp only [e] at A B
      exact ed_op_er (k := 1) W (by omega) (wr.2.1 A) B
    · simp only [e] at A B
      exact ed_op_er (k := 2) W (by omega) (wr.2.2.1 A) B
    · simp only [e] at A B
      exact ed_op_er (k := 3) W (by omega) (wr.2.2.2 A) B
theorem ec_n6 (W : ed_Lw h σ n p L T) (hs : h.2.2.2.2.2 = (N, xs)) (hi : 0 ≤ i ∧ i + 6 ≤ (N : Int)) (hN : N ≤ 3072) : ed_Nx 688 h i w5 w6 := by
  obtain ⟨a1, r1, e1⟩ := ed_wd (xs (ec_i (i + 1)).toNatClampNeg)
  obtain ⟨a2, r2, e2⟩ := ed_wd (xs (ec_i (i + 2)).toNatClampNeg)
  have wr := ec_w207 (h := h) (a1 := a1) (a2 := a2) W.1.1.1.1
  refine ec_l6 W hs hi hN e1 e2 ?_
  have A := ec_c77s W.1 r1 r2
  have B := fun h2 (M : ed_ML h2 σ n p L T) => ec_c151 M r1 r2
  have kr : 0 ≤ ed_kSt σ a1 a2 ∧ ed_kSt σ a1 a2 ≤ 2 := by
    unfold ed_kSt
    repeat' split
    all_goals omega
  by_cases q : ed_kSt σ a1 a2 = 0
  · exact ed_op_ok W wr.1 (A.1 q) (fun h2 M => (B h2 M).1 q)
  · have A := A.2 q
    have B := fun h2 M => (B h2 M).2 q
    rcases (show ed_kSt σ a1 a2 = 1 ∨ ed_kSt σ a1 a2 = 2 by omega) with e | e
    · simp only [e] at A B
      exact ed_op_er (k := 1) W (by omega) (wr.2.1 A) B
    · simp only [e] at A B
      exact ed_op_er (k := 2) W (by omega) (wr.2.2 A) B
theorem ec_n7 (W : ed_Lw h σ n p L T) (hs : h.2.2.2.2.2 = (N, xs)) (hi : 0 ≤ i ∧ i + 6 ≤ (N : Int)) (hN : N ≤ 3072) : ed_Nx 756 h i w5 w6 := by
  obtain ⟨a1, r1, e1⟩ := ed_wd (xs (ec_i (i + 1)).toNatClampNeg)
  obtain ⟨a2, r2, e2⟩ := ed_wd (xs (ec_i (i + 2)).toNatClampNeg)
  obtain ⟨a3, r3, e3⟩ := ed_wd (xs (ec_i (i + 3)).toNatClampNeg)
  obtain ⟨a4, r4, e4⟩ := ed_wd (xs (ec_i (i + 4)).toNatClampNeg)
  have wr := ec_w208 (h := h) (a1 := a1) (a2 := a2) (a3 := a3) (a4 := a4) W.1.1.1.1
  refine ec_l7 W hs hi hN e1 e2 e3 e4 ?_
  have A := ec_c78s W.1 r1 r2 r3 r4
  have B := fun h2 (M : ed_ML h2 σ n p L T) => ec_c152 M r1 r2 r3 r4
  have kr : 0 ≤ ed_kPl σ a1 a2 a3 a4 ∧ ed_kPl σ a1 a2 a3 a4 ≤ 2 := by
    unfold ed_kPl
    repeat' split
    all_goals omega
  by_cases q : ed_kPl σ a1 a2 a3 a4 = 0
  · exact ed_op_ok W wr.1 (A.1 q) (fun h2 M => (B h2 M).1 q)
  · have A := A.2 q
    have B := fun h2 M => (B h2 M).2 q
    rcases (show ed_kPl σ a1 a2 a3 a4 = 1 ∨ ed_kPl σ a1 a2 a3 a4 = 2 by omega) with e | e
    · simp only [e] at A B
      exact ed_op_er (k := 1) W (by omega) (wr.2.1 A) B
    · simp only [e] at A B
      exact ed_op_er (k := 2) W (by omega) (wr.2.2 A) B
theorem ec_n8 (W : ed_Lw h σ n p L T) (hs : h.2.2.2.2.2 = (N, xs)) (hi : 0 ≤ i ∧ i + 6 ≤ (N : Int)) (hN : N ≤ 3072) : ed_Nx 848 h i w5 w6 := by
  obtain ⟨a1, r1, e1⟩ := ed_wd (xs (ec_i (i + 1)).toNatClampNeg)
  have wr := ec_w209 (h := h) (a1 := a1) W.1.1.1.1
  refine ec_l8 W hs hi hN e1 ?_
  have A := ec_c79s W.1 r1
  have B := fun h2 (M : ed_ML h2 σ n p L T) => ec_c164 M r1
  have kr : 0 ≤ ed_kAc σ a1 ∧ ed_kAc σ a1 ≤ 2 := by
    unfold ed_kAc
    repeat' split
    all_goals omega
  by_cases q : ed_kAc σ a1 = 0
  · exact ed_op_ok W wr.1 (A.1 q) (fun h2 M => (B h2 M).1 q)
  · have A := A.2 q
    have B := fun h2 M => (B h2 M).2 q
    rcases (show ed_kAc σ a1 = 1 ∨ ed_kAc σ a1 = 2 by omega) with e | e
    · simp only [e] at A B
      exact ed_op_er (k := 1) W (by omega) (wr.2.1 A) B
    · simp only [e] at A B
      exact ed_op_er (k := 2) W (by omega) (wr.2.2 A) B
theorem ec_n9 (W : ed_Lw h σ n p L T) (hs : h.2.2.2.2.2 = (N, xs)) (hi : 0 ≤ i ∧ i + 6 ≤ (N : Int)) (hN : N ≤ 3072) : ed_Nx 904 h i w5 w6 := by
  obtain ⟨a1, r1, e1⟩ := ed_wd (xs (ec_i (i + 1)).toNatClampNeg)
  have wr := ec_w210 (h := h) (a1 := a1) W.1.1.1.1
  refine ec_l9 W hs hi hN e1 ?_
  have A := ec_c80s W.1 r1
  have B := fun h2 (M : ed_ML h2 σ n p L T) => ec_c165 M r1
  have kr : 0 ≤ ed_kRs a1 ∧ ed_kRs a1 ≤ 1 := by
    unfold ed_kRs
    repeat' split
    all_goals omega
  by_cases q : ed_kRs a1 = 0
  · exact ed_op_ok W wr.1 (A.1 q) (fun h2 M => (B h2 M).1 q)
  · have A := A.2 q
    have B := fun h2 M => (B h2 M).2 q
    have e : ed_kRs a1 = 1 := by omega
    simp only [e] at A B
    exact ed_op_er (k := 1) W (by omega) (wr.2 A) B
theorem ec_n10 (W : ed_Lw h σ n p L T) (hs : h.2.2.2.2.2 = (N, xs)) (hi : 0 ≤ i ∧ i + 6 ≤ (N : Int)) (hN : N ≤ 3072) : ed_Nx 960 h i w5 w6 := by
  obtain ⟨a1, r1, e1⟩ := ed_wd (xs (ec_i (i + 1)).toNatClampNeg)
  obtain ⟨a2, r2, e2⟩ := ed_wd (xs (ec_i (i + 2)).toNatClampNeg)
  obtain ⟨a3, r3, e3⟩ := ed_wd (xs (ec_i (i + 3)).toNatClampNeg)
  have wr := ec_w211 (h := h) (a1 := a1) (a2 := a2) (a3 := a3) W.1.1.1.1
  refine ec_l10 W hs hi hN e1 e2 e3 ?_
  have A := ec_c81s W.1 r1 r2 r3
  have B := fun h2 (M : ed_ML h2 σ n p L T) => ec_c166 M r1 r2 r3
  have kr : 0 ≤ ed_kBo σ a1 a2 a3 ∧ ed_kBo σ a1 a2 a3 ≤ 2 := by
    unfold ed_kBo
    repeat' split
    all_goals omega
  by_cases q : ed_kBo σ a1 a2 a3 = 0
  · exact ed_op_ok W wr.1 (A.1 q) (fun h2 M => (B h2 M).1 q)
  · have A := A.2 q
    have B := fun h2 M => (B h2 M).2 q
    rcases (show ed_kBo σ a1 a2 a3 = 1 ∨ ed_kBo σ a1 a2 a3 = 2 by omega) with e | e
    · simp only [e] at A B
      exact ed_op_er (k := 1) W (by omega) (wr.2.1 A) B
    · simp only [e] at A B
      exact ed_op_er (k := 2) W (by omega) (wr.2.2 A) B
theorem ec_n11 (W : ed_Lw h σ n p L T) (hs : h.2.2.2.2.2 = (N, xs)) (hi : 0 ≤ i ∧ i + 6 ≤ (N : Int)) (hN : N ≤ 3072) : ed_Nx 1040 h i w5 w6 := by
  obtain ⟨a1, r1, e1⟩ := ed_wd (xs (ec_i (i + 1)).toNatClampNeg)
  obtain ⟨a2, r2, e2⟩ := ed_wd (xs (ec_i (i + 2)).toNatClampNeg)
  obtain ⟨a3, r3, e3⟩ := ed_wd (xs (ec_i (i + 3)).toNatClampNeg)
  have wr := ec_w212 (h := h) (a1 := a1) (a2 := a2) (a3 := a3) W.1.1.1.1
  refine ec_l11 W hs hi hN e1 e2 e3 ?_
  have A := ec_c82s W.1 r1 r2 r3
  have B := fun h2 (M : ed_ML h2 σ n p L T) => ec_c168 M r1 r2 r3
  have kr : 0 ≤ ed_kCe σ a1 a2 a3 ∧ ed_kCe σ a1 a2 a3 ≤ 2 := by
    unfold ed_kCe
    repeat' split
    all_goals omega
  by_cases q : ed_kCe σ a1 a2 a3 = 0
  · exact ed_op_ok W wr.1 (A.1 q) (fun h2 M => (B h2 M).1 q)
  · have A := A.2 q
    have B := fun h2 M => (B h2 M).2 q
    rcases (show ed_kCe σ a1 a2 a3 = 1 ∨ ed_kCe σ a1 a2 a3 = 2 by omega) with e | e
    · simp only [e] at A B
      exact ed_op_er (k := 1) W (by omega) (wr.2.1 A) B
    · simp only [e] at A B
      exact ed_op_er (k := 2) W (by omega) (wr.2.2 A) B
theorem ec_n12 (W : ed_Lw h σ n p L T) (hs : h.2.2.2.2.2 = (N, xs)) (hi : 0 ≤ i ∧ i + 6 ≤ (N : Int)) (hN : N ≤ 3072) : ed_Nx 1120 h i w5 w6 := by
  obtain ⟨a1, r1, e1⟩ := ed_wd (xs (ec_i (i + 1)).toNatClampNeg)
  obtain ⟨a2, r2, e2⟩ := ed_wd (xs (ec_i (i + 2)).toNatClampNeg)
  have wr := ec_w213 (h := h) (a1 := a1) (a2 := a2) W.1.1.1.1
  refine ec_l12 W hs hi hN e1 e2 ?_
  have A := ec_c83s W.1 r1 r2
  have B := fun h2 (M : ed_ML h2 σ n p L T) => ec_c170 M r1 r2
  have kr : 0 ≤ ed_kVa (σ 2) a1 a2 5 ∧ ed_kVa (σ 2) a1 a2 5 ≤ 2 := by
    unfold ed_kVa
    repeat' split
    all_goals omega
  by_cases q : ed_kVa (σ 2) a1 a2 5 = 0
  · exact ed_op_ok W wr.1 (A.1 q) (fun h2 M => (B h2 M).1 q)
  · have A := A.2 q
    have B := fun h2 M => (B h2 M).2 q
    rcases (show ed_kVa (σ 2) a1 a2 5 = 1 ∨ ed_kVa (σ 2) a1 a2 5 = 2 by omega) with e | e
    · simp only [e] at A B
      exact ed_op_er (k := 1) W (by omega) (wr.2.1 A) B
    · simp only [e] at A B
      exact ed_op_er (k := 2) W (by omega) (wr.2.2 A) B
theorem ec_n13 (W : ed_Lw h σ n p L T) (hs : h.2.2.2.2.2 = (N, xs)) (hi : 0 ≤ i ∧ i + 6 ≤ (N : Int)) (hN : N ≤ 3072) : ed_Nx 1188 h i w5 w6 := by
  obtain ⟨a1, r1, e1⟩ := ed_wd (xs (ec_i (i + 1)).toNatClampNeg)
  obtain ⟨a2, r2, e2⟩ := ed_wd (xs (ec_i (i + 2)).toNatClampNeg)
  have wr := ec_w214 (h := h) (a1 := a1) (a2 := a2) W.1.1.1.1
  refine ec_l13 W hs hi hN e1 e2 ?_
  have A := ec_c84s W.1 r1 r2
  have B := fun h2 (M : ed_ML h2 σ n p L T) => ec_c172 M r1 r2
  have kr : 0 ≤ ed_kVa (σ 3) a1 a2 3 ∧ ed_kVa (σ 3) a1 a2 3 ≤ 2 := by
    unfold ed_kVa
    repeat' split
    all_goals omega
  by_cases q : ed_kVa (σ 3) a1 a2 3 = 0
  · exact ed_op_ok W wr.1 (A.1 q) (fun h2 M => (B h2 M).1 q)
  · have A := A.2 q
    have B := fun h2 M => (B h2 M).2 q
    rcases (show ed_kVa (σ 3) a1 a2 3 = 1 ∨ ed_kVa (σ 3) a1 a2 3 = 2 by omega) with e | e
    · simp only [e] at A B
      exact ed_op_er (k := 1) W (by omega) (wr.2.1 A) B
    · simp only [e] at A B
      exact ed_op_er (k := 2) W (by omega) (wr.2.2 A) B
theorem ec_n14 (W : ed_Lw h σ n p L T) (hs : h.2.2.2.2.2 = (N, xs)) (hi : 0 ≤ i ∧ i + 6 ≤ (N : Int)) (hN : N ≤ 3072) : ed_Nx 1256 h i w5 w6 := by
  obtain ⟨a1, r1, e1⟩ := ed_wd (xs (ec_i (i + 1)).toNatClampNeg)
  obtain ⟨a2, r2, e2⟩ := ed_wd (xs (ec_i (i + 2)).toNatClampNeg)
  have wr := ec_w215 (h := h) (a1 := a1) (a2 := a2) W.1.1.1.1
  refine ec_l14 W hs hi hN e1 e2 ?_
  have A := ec_c85s W.1 r1 r2
  have B := fun h2 (M : ed_ML h2 σ n p L T) => ec_c175 M r1 r2
  have kr : 0 ≤ ed_kVa (σ 4) a1 a2 7 ∧ ed_kVa (σ 4) a1 a2 7 ≤ 2 := by
    unfold ed_kVa
    repeat' split
    all_goals omega
  by_cases q : ed_kVa (σ 4) a1 a2 7 = 0
  · exact ed_op_ok W wr.1 (A.1 q) (fun h2 M => (B h2 M).1 q)
  · have A := A.2 q
    have B := fun h2 M => (B h2 M).2 q
    rcases (show ed_kVa (σ 4) a1 a2 7 = 1 ∨ ed_kVa (σ 4) a1 a2 7 = 2 by omega) with e | e
    · simp only [e] at A B
      exact ed_op_er (k := 1) W (by omega) (wr.2.1 A) B
    · simp only [e] at A B
      exact ed_op_er (k := 2) W (by omega) (wr.2.2 A) B
theorem ec_n15 (W : ed_Lw h σ n p L T) (hs : h.2.2.2.2.2 = (N, xs)) (hi : 0 ≤ i ∧ i + 6 ≤ (N : Int)) (hN : N ≤ 3072) : ed_Nx 1324 h i w5 w6 := by
  obtain ⟨a1, r1, e1⟩ := ed_wd (xs (ec_i (i + 1)).toNatClampNeg)
  obtain ⟨a2, r2, e2⟩ := ed_wd (xs (ec_i (i + 2)).toNatClampNeg)
  have wr := ec_w216 (h := h) (a1 := a1) (a2 := a2) W.1.1.1.1
  refine ec_l15 W hs hi hN e1 e2 ?_
  have A := ec_c86s W.1 r1 r2
  have B := fun h2 (M : ed_ML h2 σ n p L T) => ec_c177 M r1 r2
  have kr : 0 ≤ ed_kVa (σ 5) a1 a2 3 ∧ ed_kVa (σ 5) a1 a2 3 ≤ 2 := by
    unfold ed_kVa
    repeat' split
    all_goals omega
  by_cases q : ed_kVa (σ 5) a1 a2 3 = 0
  · exact ed_op_ok W wr.1 (A.1 q) (fun h2 M => (B h2 M).1 q)
  · have A := A.2 q
    have B := fun h2 M => (B h2 M).2 q
    rcases (show ed_kVa (σ 5) a1 a2 3 = 1 ∨ ed_kVa (σ 5) a1 a2 3 = 2 by omega) with e | e
    · simp only [e] at A B
      exact ed_op_er (k := 1) W (by omega) (wr.2.1 A) B
    · simp only [e] at A B
      exact ed_op_er (k := 2) W (by omega) (wr.2.2 A) B
theorem ec_n16 (W : ed_Lw h σ n p L T) (hs : h.2.2.2.2.2 = (N, xs)) (hi : 0 ≤ i ∧ i + 6 ≤ (N : Int)) (hN : N ≤ 3072) : ed_Nx 1392 h i w5 w6 := by
  obtain ⟨a1, r1, e1⟩ := ed_wd (xs (ec_i (i + 1)).toNatClampNeg)
  have wr := ec_w217 (h := h) (a1 := a1) W.1.1.1.1
  refine ec_l16 W hs hi hN e1 ?_
  have A := ec_c87s W.1 r1
  have B := fun h2 (M : ed_ML h2 σ n p L T) => ec_c179 M r1
  have kr : 0 ≤ ed_kWh a1 ∧ ed_kWh a1 ≤ 1 := by
    unfold ed_kWh
    repeat' split
    all_goals omega
  by_cases q : ed_kWh a1 = 0
  · exact ed_op_ok W wr.1 (A.1 q) (fun h2 M => (B h2 M).1 q)
  · have A := A.2 q
    have B := fun h2 M => (B h2 M).2 q
    have e : ed_kWh a1 = 1 := by omega
    simp only [e] at A B
    exact ed_op_er (k := 1) W (by omega) (wr.2 A) B
theorem ec_n17 (W : ed_Lw h σ n p L T) (hs : h.2.2.2.2.2 = (N, xs)) (hi : 0 ≤ i ∧ i + 6 ≤ (N : Int)) (hN : N ≤ 3072) : ed_Nx 1448 h i w5 w6 := by
  obtain ⟨a1, r1, e1⟩ := ed_wd (xs (ec_i (i + 1)).toNatClampNeg)
  obtain ⟨a2, r2, e2⟩ := ed_wd (xs (ec_i (i + 2)).toNatClampNeg)
  obtain ⟨a3, r3, e3⟩ := ed_wd (xs (ec_i (i + 3)).toNatClampNeg)
  obtain ⟨a4, r4, e4⟩ := ed_wd (xs (ec_i (i + 4)).toNatClampNeg)
  have wr := ec_w218 (h := h) (a1 := a1) (a2 := a2) (a3 := a3) (a4 := a4) W.1.1.1.1
  refine ec_l17 W hs hi hN e1 e2 e3 e4 ?_
  have A := ec_c88s W.1 r1 r2 r3 r4
  have B := fun h2 (M : ed_ML h2 σ n p L T) => ec_c180 M r1 r2 r3 r4
  have kr : 0 ≤ ed_kSc σ a1 a2 a3 a4 ∧ ed_kSc σ a1 a2 a3 a4 ≤ 1 := by
    unfold ed_kSc
    repeat' split
    all_goals omega
  by_cases q : ed_kSc σ a1 a2 a3 a4 = 0
  · exact ed_op_ok W wr.1 (A.1 q) (fun h2 M => (B h2 M).1 q)
  · have A := A.2 q
    have B := fun h2 M => (B h2 M).2 q
    have e : ed_kSc σ a1 a2 a3 a4 = 1 := by omega
    simp only [e] at A B
    exact ed_op_er (k := 1) W (by omega) (wr.2 A) B
theorem ec_n18 (W : ed_Lw h σ n p L T) (hs : h.2.2.2.2.2 = (N, xs)) (hi : 0 ≤ i ∧ i + 6 ≤ (N : Int)) (hN : N ≤ 3072) : ed_Nx 1540 h i w5 w6 := by
  obtain ⟨a1, r1, e1⟩ := ed_wd (xs (ec_i (i + 1)).toNatClampNeg)
  obtain ⟨a2, r2, e2⟩ := ed_wd (xs (ec_i (i + 2)).toNatClampNeg)
  obtain ⟨a3, r3, e3⟩ := ed_wd (xs (ec_i (i + 3)).toNatClampNeg)
  have wr := ec_w219 (h := h) (a1 := a1) (a2 := a2) (a3 := a3) W.1.1.1.1
  refine ec_l18 W hs hi hN e1 e2 e3 ?_
  have A := ec_c89s W.1 r1 r2 r3
  have B := fun h2 (M : ed_ML h2 σ n p L T) => ec_c181 M r1 r2 r3
  have kr : 0 ≤ ed_kHe σ a1 a2 a3 ∧ ed_kHe σ a1 a2 a3 ≤ 2 := by
    unfold ed_kHe
    repeat' split
    all_goals omega
  by_cases q : ed_kHe σ a1 a2 a3 = 0
  · exact ed_op_ok W wr.1 (A.1 q) (fun h2 M => (B h2 M).1 q)
  · have A := A.2 q
    have B := fun h2 M => (B h2 M).2 q
    rcases (show ed_kHe σ a1 a2 a3 = 1 ∨ ed_kHe σ a1 a2 a3 = 2 by omega) with e | e
    · simp only [e] at A B
      exact ed_op_er (k := 1) W (by omega) (wr.2.1 A) B
    · simp only [e] at A B
      exact ed_op_er (k := 2) W (by omega) (wr.2.2 A) B
theorem ec_n19 (W : ed_Lw h σ n p L T) (hs : h.2.2.2.2.2 = (N, xs)) (hi : 0 ≤ i ∧ i + 6 ≤ (N : Int)) (hN : N ≤ 3072) : ed_Nx 1620 h i w5 w6 := by
  obtain ⟨a1, r1, e1⟩ := ed_wd (xs (ec_i (i + 1)).toNatClampNeg)
  obtain ⟨a2, r2, e2⟩ := ed_wd (xs (ec_i (i + 2)).toNatClampNeg)
  obtain ⟨a3, r3, e3⟩ := ed_wd (xs (ec_i (i + 3)).toNatClampNeg)
  have wr := ec_w220 (h := h) (a1 := a1) (a2 := a2) (a3 := a3) W.1.1.1.1
  refine ec_l19 W hs hi hN e1 e2 e3 ?_
  have A := ec_c90s W.1 r1 r2 r3
  have B := fun h2 (M : ed_ML h2 σ n p L T) => ec_c182 M r1 r2 r3
  have kr : 0 ≤ ed_kWy σ a1 a2 a3 ∧ ed_kWy σ a1 a2 a3 ≤ 1 := by
    unfold ed_kWy
    repeat' split
    all_goals omega
  by_cases q : ed_kWy σ a1 a2 a3 = 0
  · exact ed_op_ok W wr.1 (A.1 q) (fun h2 M => (B h2 M).1 q)
  · have A := A.2 q
    have B := fun h2 M => (B h2 M).2 q
    have e : ed_kWy σ a1 a2 a3 = 1 := by omega
    simp only [e] at A B
    exact ed_op_er (k := 1) W (by omega) (wr.2 A) B
theorem ec_n20 (W : ed_Lw h σ n p L T) (hs : h.2.2.2.2.2 = (N, xs)) (hi : 0 ≤ i ∧ i + 6 ≤ (N : Int)) (hN : N ≤ 3072) : ed_Nx 1700 h i w5 w6 := by
  obtain ⟨a1, r1, e1⟩ := ed_wd (xs (ec_i (i + 1)).toNatClampNeg)
  have wr := ec_w221 (h := h) (a1 := a1) W.1.1.1.1
  refine ec_l20 W hs hi hN e1 ?_
  have A := ec_c91s W.1 r1
  have B := fun h2 (M : ed_ML h2 σ n p L T) => ec_c184 M r1
  have kr : 0 ≤ ed_kNx σ a1 ∧ ed_kNx σ a1 ≤ 1 := by
    unfold ed_kNx
    repeat' split
    all_goals omega
  by_cases q : ed_kNx σ a1 = 0
  · exact ed_op_ok W wr.1 (A.1 q) (fun h2 M => (B h2 M).1 q)
  · have A := A.2 q
    have B := fun h2 M => (B h2 M).2 q
    have e : ed_kNx σ a1 = 1 := by omega
    simp only [e] at A B
    exact ed_op_er (k := 1) W (by omega) (wr.2 A) B
theorem ec_n21 (W : ed_Lw h σ n p L T) (hs : h.2.2.2.2.2 = (N, xs)) (hi : 0 ≤ i ∧ i + 6 ≤ (N : Int)) (hN : N ≤ 3072) : ed_Nx 1756 h i w5 w6 := by
  obtain ⟨a1, r1, e1⟩ := ed_wd (xs (ec_i (i + 1)).toNatClampNeg)
  have wr := ec_w222 (h := h) (a1 := a1) W.1.1.1.1
  refine ec_l21 W hs hi hN e1 ?_
  have A := ec_c92s W.1 r1
  have B := fun h2 (M : ed_ML h2 σ n p L T) => ec_c185 M r1
  have kr : 0 ≤ ed_kRs a1 ∧ ed_kRs a1 ≤ 1 := by
    unfold ed_kRs
    repeat' split
    all_goals omega
  by_cases q : ed_kRs a1 = 0
  · exact ed_op_ok W wr.1 (A.1 q) (fun h2 M => (B h2 M).1 q)
  · have A := A.2 q
    have B := fun h2 M => (B h2 M).2 q
    have e : ed_kRs a1 = 1 := by omega
    simp only [e] at A B
    exact ed_op_er (k := 1) W (by omega) (wr.2 A) B
theorem ec_n22 (W : ed_Lw h σ n p L T) (hs : h.2.2.2.2.2 = (N, xs)) (hi : 0 ≤ i ∧ i + 6 ≤ (N : Int)) (hN : N ≤ 3072) : ed_Nx 1812 h i w5 w6 := by
  obtain ⟨a1, r1, e1⟩ := ed_wd (xs (ec_i (i + 1)).toNatClampNeg)
  obtain ⟨a2, r2, e2⟩ := ed_wd (xs (ec_i (i + 2)).toNatClampNeg)
  have wr := ec_w223 (h := h) (a1 := a1) (a2 := a2) W.1.1.1.1
  refine ec_l22 W hs hi hN e1 e2 ?_
  have A := ec_c93s W.1 r1 r2
  have B := fun h2 (M : ed_ML h2 σ n p L T) => ec_c186 M r1 r2
  have kr : 0 ≤ ed_kQu σ a1 a2 ∧ ed_kQu σ a1 a2 ≤ 1 := by
    unfold ed_kQu
    repeat' split
    all_goals omega
  by_cases q : ed_kQu σ a1 a2 = 0
  · exact ed_op_ok W wr.1 (A.1 q) (fun h2 M => (B h2 M).1 q)
  · have A := A.2 q
    have B := fun h2 M => (B h2 M).2 q
    have e : ed_kQu σ a1 a2 = 1 := by omega
    simp only [e] at A B
    exact ed_op_er (k := 1) W (by omega) (wr.2 A) B
theorem ec_n23 (W : ed_Lw h σ n p L T) (hs : h.2.2.2.2.2 = (N, xs)) (hi : 0 ≤ i ∧ i + 6 ≤ (N : Int)) (hN : N ≤ 3072) : ed_Nx 1880 h i w5 w6 := by
  obtain ⟨a1, r1, e1⟩ := ed_wd (xs (ec_i (i + 1)).toNatClampNeg)
  have wr := ec_w224 (h := h) (a1 := a1) W.1.1.1.1
  refine ec_l23 W hs hi hN e1 ?_
  have A := ec_c94s W.1 r1
  have B := fun h2 (M : ed_ML h2 σ n p L T) => ec_c187 M r1
  have kr : 0 ≤ ed_kTy L a1 ∧ ed_kTy L a1 ≤ 2 := by
    unfold ed_kTy
    repeat' split
    all_goals omega
  by_cases q : ed_kTy L a1 = 0
  · exact ed_op_ok W wr.1 (A.1 q) (fun h2 M => (B h2 M).1 q)
  · have A := A.2 q
    have B := fun h2 M => (B h2 M).2 q
    rcases (show ed_kTy L a1 = 1 ∨ ed_kTy L a1 = 2 by omega) with e | e
    · simp only [e] at A B
      exact ed_op_er (k := 1) W (by omega) (wr.2.1 A) B
    · simp only [e] at A B
      exact ed_op_er (k := 2) W (by omega) (wr.2.2 A) B
theorem ec_n26 (W : ed_Lw h σ n p L T) (hs : h.2.2.2.2.2 = (N, xs)) (hi : 0 ≤ i ∧ i + 6 ≤ (N : Int)) (hN : N ≤ 3072) : ed_Nx 1962 h i w5 w6 := by
  have wr := ec_w225 (h := h) W.1.1.1.1
  refine ec_l26 W hs hi hN  ?_
  have A := ec_c97s W.1
  by_cases q : n = 0
  · exact ed_op_er (k := 1) W (by omega) (wr.2 (A.2 q)) (fun h2 M => (ec_c196 M).2 q)
  · exact ed_op_ok W wr.1 (A.1 q) (fun h2 M => (ec_c196 M).1 q)
theorem ed_drc {c m : Nat} {ca ma : List Value} {v : Int} {σ' : ec_Sg} {n' : Int} {p' : Int → ec_Sg} {L' : Int} {T' : Int → Int} (W : ed_Lw h σ n p L T) (cn : ed_Cn c ca h v σ' n' p' L' T') (mn : ∀ h2, ed_ML h2 σ n p L T → ed_An m ma h2 0 v σ' n' p' L' T') : ∃ h1 h3, ec_om c 0 ca [] h = some (.inl (some (.int (ec_i v))), h1) ∧ ec_om m 0 ma [] h1 = some (.inl (some (.int (ec_i v))), h3) ∧ ed_Lw h3 σ' n' p' L' T' ∧ ec_isK h1 72 7 = true ∧ ed_c2 h h3 := by
  obtain ⟨h1, c1, c2, c3⟩ := cn
  have M2 : ed_ML h1 σ n p L T := W.2.1.eqv c3.1.1 (fun q j a b => c3.2 q j (by omega))
  obtain ⟨h3, m1, m2, m3, m4⟩ := mn _ M2
  have t3 : h3.2.2.2 = h.2.2.2 := by rw [m4.1.2, c3.1.2]
  exact ⟨h1, h3, c1, m1, ⟨c2.eqv m4.1.1 (fun q j a => m4.2 q j (by omega)), m3, (W.2.2.eqv c3.1.1).eqv m4.1.1⟩, M2.1.1.1, by rw [t3], by rw [t3]; omega, by rw [t3]; omega⟩
theorem ec_n24 (W : ed_Lw h σ n p L T) (hs : h.2.2.2.2.2 = (N, xs)) (hi : 0 ≤ i ∧ i + 6 ≤ (N : Int)) (hN : N ≤ 3072) : ed_Nx 1936 h i w5 w6 := by
  obtain ⟨h1, h3, g1, g2, W3, k1, cc⟩ := ed_drc W (ec_c95s W.1) (fun h2 M => ec_c188 M)
  refine ⟨h3, w5, w6, _, _, _, _, _, ?_, W3, cc⟩
  have hD := And.intro W.1.1.1.1 k1
  simp (disch := first | (simp only [ec_w_kI, ec_w_kL, ec_w_kA, ec_w_shpI, ec_w_shpL, ec_w_shpA, ec_isR_r, ec_01z, ec_01o, ec_01q, hD]; done) | omega | (simp only [ec_w_shpI, ec_w_shpL, ec_w_shpA, hD]; refine ec_zinO ?_; omega) | (refine ec_nzO ?_; omega)) only [ec_s226_1936, ec_s226_1937, ec_s226_1940, ec_s226_1941, ec_s226_1944, ec_s226_1947, ec_s226_1948, ec_zn0, ec_zn1, ec_zn2, ec_zn3, ec_zn4, ec_zn5, ec_zn6, ec_zn7, ec_zn8, ec_zn9, ec_zn10, ec_zn12, ec_zn13, ec_zn14, ec_zn15, ec_zn16, ec_zn20, ec_zn30, ec_zn48, ec_zn99, ec_zn120, ec_zn127, ec_zn11, ec_zn31, ec_zn46, ec_zn57, ec_zn59, ec_zn63, ec_zn101, ec_zn107, ec_zn108, ec_zn110, ec_zn111, ec_zn115, ec_zn116, ec_zn119, ec_zn167, ec_zn185, ec_zn192, ec_zn215, ec_zn233, ec_zn699, ec_zn932, ec_zn999, ec_znF, ec_zneg, ec_zadd, ec_zsub, ec_zmul, ec_zdivO, ec_em, ec_zltO, ec_zeqO, ec_zeq0, ec_qt, ec_qf, if_pos, if_neg, Int.add_zero, ec_aft_v, ec_aft_n, ec_rwE, ec_rwN, ec_rwP, ec_rwK, ec_rwS, ec_w_shpI, ec_w_shpL, ec_w_shpA, hD, g1, g2]
theorem ec_n25 (W : ed_Lw h σ n p L T) (hs : h.2.2.2.2.2 = (N, xs)) (hi : 0 ≤ i ∧ i + 6 ≤ (N : Int)) (hN : N ≤ 3072) : ed_Nx 1949 h i w5 w6 := by
  by_cases q : ed_flt L T = -1
  · obtain ⟨h1, h3, g1, g2, W3, k1, cc⟩ := ed_drc W (ec_c96s W.1 q) (fun h2 M => ec_c195 M q)
    refine ⟨h3, w5, w6, _, _, _, _, _, ?_, W3, cc⟩
    have hD := And.intro W.1.1.1.1 k1
    simp (disch := first | (simp only [ec_w_kI, ec_w_kL, ec_w_kA, ec_w_shpI, ec_w_shpL, ec_w_shpA, ec_isR_r, ec_01z, ec_01o, ec_01q, hD]; done) | omega | (simp only [ec_w_shpI, ec_w_shpL, ec_w_shpA, hD]; refine ec_zinO ?_; omega) | (refine ec_nzO ?_; omega)) only [ec_s226_1949, ec_s226_1950, ec_s226_1953, ec_s226_1954, ec_s226_1957, ec_s226_1960, ec_s226_1961, ec_zn0, ec_zn1, ec_zn2, ec_zn3, ec_zn4, ec_zn5, ec_zn6, ec_zn7, ec_zn8, ec_zn9, ec_zn10, ec_zn12, ec_zn13, ec_zn14, ec_zn15, ec_zn16, ec_zn20, ec_zn30, ec_zn48, ec_zn99, ec_zn120, ec_zn127, ec_zn11, ec_zn31, ec_zn46, ec_zn57, ec_zn59, ec_zn63, ec_zn101, ec_zn107, ec_zn108, ec_zn110, ec_zn111, ec_zn115, ec_zn116, ec_zn119, ec_zn167, ec_zn185, ec_zn192, ec_zn215, ec_zn233, ec_zn699, ec_zn932, ec_zn999, ec_znF, ec_zneg, ec_zadd, ec_zsub, ec_zmul, ec_zdivO, ec_em, ec_zltO, ec_zeqO, ec_zeq0, ec_qt, ec_qf, if_pos, if_neg, Int.add_zero, ec_aft_v, ec_aft_n, ec_rwE, ec_rwN, ec_rwP, ec_rwK, ec_rwS, ec_w_shpI, ec_w_shpL, ec_w_shpA, hD, g1, g2]
  · obtain ⟨h1, h3, g1, g2, W3, k1, cc⟩ := ed_drc W (ec_c96x W.1 q) (fun h2 M => ec_c195x M q)
    refine ⟨h3, w5, w6, _, _, _, _, _, ?_, W3, cc⟩
    have hD := And.intro W.1.1.1.1 k1
    simp (disch := first | (simp only [ec_w_kI, ec_w_kL, ec_w_kA, ec_w_shpI, ec_w_shpL, ec_w_shpA, ec_isR_r, ec_01z, ec_01o, ec_01q, hD]; done) | omega | (simp only [ec_w_shpI, ec_w_shpL, ec_w_shpA, hD]; refine ec_zinO ?_; omega) | (refine ec_nzO ?_; omega)) only [ec_s226_1949, ec_s226_1950, ec_s226_1953, ec_s226_1954, ec_s226_1957, ec_s226_1960, ec_s226_1961, ec_zn0, ec_zn1, ec_zn2, ec_zn3, ec_zn4, ec_zn5, ec_zn6, ec_zn7, ec_zn8, ec_zn9, ec_zn10, ec_zn12, ec_zn13, ec_zn14, ec_zn15, ec_zn16, ec_zn20, ec_zn30, ec_zn48, ec_zn99, ec_zn120, ec_zn127, ec_zn11, ec_zn31, ec_zn46, ec_zn57, ec_zn59, ec_zn63, ec_zn101, ec_zn107, ec_zn108, ec_zn110, ec_zn111, ec_zn115, ec_zn116, ec_zn119, ec_zn167, ec_zn185, ec_zn192, ec_zn215, ec_zn233, ec_zn699, ec_zn932, ec_zn999, ec_znF, ec_zneg, ec_zadd, ec_zsub, ec_zmul, ec_zdivO, ec_em, ec_zltO, ec_zeqO, ec_zeq0, ec_qt, ec_qf, if_pos, if_neg, Int.add_zero, ec_aft_v, ec_aft_n, ec_rwE, ec_rwN, ec_rwP, ec_rwK, ec_rwS, ec_w_shpI, ec_w_shpL, ec_w_shpA, hD, g1, g2]
theorem ec_n27 (W : ed_Lw h σ n p L T) (hs : h.2.2.2.2.2 = (N, xs)) (hi : 0 ≤ i ∧ i + 6 ≤ (N : Int)) (hN : N ≤ 3072) : ed_Nx 2006 h i w5 w6 := by
  obtain ⟨h1, c1, c2, c3⟩ := ec_c98s W.1
  have M2 : ed_ML h1 σ n p L T := W.2.1.eqv c3.1.1 (fun q j a b => c3.2 q j (by omega))
  obtain ⟨h3, x, m1, m2, m3, m4⟩ := ec_c199 M2
  have t3 : h3.2.2.2 = h.2.2.2 := by rw [m4.1.2, c3.1.2]
  refine ⟨ec_setL h3 72 18 x, w5, w6, σ, n, p, L, T, ?_, ⟨c2.eqv m4.1.1 (fun q j a => m4.2 q j (by omega)), ed_MLl m3, (W.2.2.eqv c3.1.1).eqv (h' := ec_setL h3 72 18 x) m4.1.1⟩, ?_⟩
  · have hD := And.intro W.1.1.1.1 M2.1.1.1
    simp (disch := first | (simp only [ec_w_kI, ec_w_kL, ec_w_kA, ec_w_shpI, ec_w_shpL, ec_w_shpA, ec_isR_r, ec_01z, ec_01o, ec_01q, hD]; done) | omega | (simp only [ec_w_shpI, ec_w_shpL, ec_w_shpA, hD]; refine ec_zinO ?_; omega) | (refine ec_nzO ?_; omega)) only [ec_s226_2006, ec_s226_2007, ec_s226_2010, ec_s226_2011, ec_s226_2014, ec_s226_2015, ec_s226_2018, ec_s226_2019, ec_zn0, ec_zn1, ec_zn2, ec_zn3, ec_zn4, ec_zn5, ec_zn6, ec_zn7, ec_zn8, ec_zn9, ec_zn10, ec_zn12, ec_zn13, ec_zn14, ec_zn15, ec_zn16, ec_zn20, ec_zn30, ec_zn48, ec_zn99, ec_zn120, ec_zn127, ec_zn11, ec_zn31, ec_zn46, ec_zn57, ec_zn59, ec_zn63, ec_zn101, ec_zn107, ec_zn108, ec_zn110, ec_zn111, ec_zn115, ec_zn116, ec_zn119, ec_zn167, ec_zn185, ec_zn192, ec_zn215, ec_zn233, ec_zn699, ec_zn932, ec_zn999, ec_znF, ec_zneg, ec_zadd, ec_zsub, ec_zmul, ec_zdivO, ec_em, ec_zltO, ec_zeqO, ec_zeq0, ec_qt, ec_qf, if_pos, if_neg, Int.add_zero, ec_aft_v, ec_aft_n, ec_rwE, ec_rwN, ec_rwP, ec_rwK, ec_rwS, ec_w_shpI, ec_w_shpL, ec_w_shpA, hD, c1, m1, ed_lgc]
  · exact ⟨by show h3.2.2.2.2.2 = _; rw [t3], by show h3.2.2.2.1 ≤ _; rw [t3]; omega, by show h3.2.2.2.2.1 ≤ _; rw [t3]; omega⟩
theorem ec_226d (W : ed_Lw h σ n p L T) (hs : h.2.2.2.2.2 = (N, xs)) (hi : 0 ≤ i ∧ i + 6 ≤ (N : Int)) (hN : N ≤ 3072) (y : Int32) : ∃ (h' : ec_Hp) (w5' w6' : Value) (σ' : ec_Sg) (n' : Int) (p' : Int → ec_Sg) (L' : Int) (T' : Int → Int), ec_om 226 40 [.float 0, .ref 0, .ref 72, .ref 84, .int (ec_i i), w5, w6] [.int y] h = ec_om 226 2020 [.float 0, .ref 0, .ref 72, .ref 84, .int (ec_i i), w5', w6'] [] h' ∧ ed_Lw h' σ' n' p' L' T' ∧ ed_c2 h h' := by
  rw [ec_s226_40]
  by_cases q0 : y = 0
  · rw [if_pos q0]
    exact ec_n0 W hs hi hN
  rw [if_neg q0]
  by_cases q1 : y = 1
  · rw [if_pos q1]
    exact ec_n1 W hs hi hN
  rw [if_neg q1]
  by_cases q2 : y = 2
  · rw [if_pos q2]
    exact ec_n2 W hs hi hN
  rw [if_neg q2]
  by_cases q3 : y = 3
  · rw [if_pos q3]
    exact ec_n3 W hs hi hN
  rw [if_neg q3]
  by_cases q4 : y = 4
  · rw [if_pos q4]
    exact ec_n4 W hs hi hN
  rw [if_neg q4]
  by_cases q5 : y = 5
  · rw [if_pos q5]
    exact ec_n5 W hs hi hN
  rw [if_neg q5]
  by_cases q6 : y = 6
  · rw [if_pos q6]
    exact ec_n6 W hs hi hN
  rw [if_neg q6]
  by_cases q7 : y = 7
  · rw [if_pos q7]
    exact ec_n7 W hs hi hN
  rw [if_neg q7]
  by_cases q8 : y = 8
  · rw [if_pos q8]
    exact ec_n8 W hs hi hN
  rw [if_neg q8]
  by_cases q9 : y = 9
  · rw [if_pos q9]
    exact ec_n9 W hs hi hN
  rw [if_neg q9]
  by_cases q10 : y = 10
  · rw [if_pos q10]
    exact ec_n10 W hs hi hN
  rw [if_neg q10]
  by_cases q11 : y = 11
  · rw [if_pos q11]
    exact ec_n11 W hs hi hN
  rw [if_neg q11]
  by_cases q12 : y = 12
  · rw [if_pos q12]
    exact ec_n12 W hs hi hN
  rw [if_neg q12]
  by_cases q13 : y = 13
  · rw [if_pos q13]
    exact ec_n13 W hs hi hN
  rw [if_neg q13]
  by_cases q14 : y = 14
  · rw [if_pos q14]
    exact ec_n14 W hs hi hN
  rw [if_neg q14]
  by_cases q15 : y = 15
  · rw [if_pos q15]
    exact ec_n15 W hs hi hN
  rw [if_neg q15]
  by_cases q16 : y = 16
  · rw [if_pos q16]
    exact ec_n16 W hs hi hN
  rw [if_neg q16]
  by_cases q17 : y = 17
  · rw [if_pos q17]
    exact ec_n17 W hs hi hN
  rw [if_neg q17]
  by_cases q18 : y = 18
  · rw [if_pos q18]
    exact ec_n18 W hs hi hN
  rw [if_neg q18]
  by_cases q19 : y = 19
  · rw [if_pos q19]
    exact ec_n19 W hs hi hN
  rw [if_neg q19]
  by_cases q20 : y = 20
  · rw [if_pos q20]
    exact ec_n20 W hs hi hN
  rw [if_neg q20]
  by_cases q21 : y = 21
  · rw [if_pos q21]
    exact ec_n21 W hs hi hN
  rw [if_neg q21]
  by_cases q22 : y = 22
  · rw [if_pos q22]
    exact ec_n22 W hs hi hN
  rw [if_neg q22]
  by_cases q23 : y = 23
  · rw [if_pos q23]
    exact ec_n23 W hs hi hN
  rw [if_neg q23]
  by_cases q24 : y = 24
  · rw [if_pos q24]
    exact ec_n24 W hs hi hN
  rw [if_neg q24]
  by_cases q25 : y = 25
  · rw [if_pos q25]
    exact ec_n25 W hs hi hN
  rw [if_neg q25]
  by_cases q26 : y = 26
  · rw [if_pos q26]
    exact ec_n26 W hs hi hN
  rw [if_neg q26]
  by_cases q27 : y = 27
  · rw [if_pos q27]
    exact ec_n27 W hs hi hN
  rw [if_neg q27]
  exact ⟨h, w5, w6, σ, n, p, L, T, rfl, W, rfl, by omega, by omega⟩
end EDW
