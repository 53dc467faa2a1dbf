/-! Texts of actions; the reference's reading. -/
def ed_ch (L : Int) (T : Int → Int) (i : Int) : Int := if i < L then T i else -1
abbrev ed_dgt (L : Int) (T : Int → Int) (i : Int) : Prop := 48 ≤ ed_ch L T i ∧ ed_ch L T i ≤ 57
def ed_dof (c : Int) : Int := if c = 110 then 0 else if c = 101 then 1 else if c = 115 then 2 else if c = 119 then 3 else -1
def ed_nl (L : Int) (T : Int → Int) (i : Int) : Int := if ed_dgt L T i then (if ed_dgt L T (i + 1) then 2 else 1) else 0
def ed_nt (L : Int) (T : Int → Int) (i : Int) : Int := if ed_nl L T i = 0 then 1 else if ed_nl L T i = 1 then ed_ch L T i - 48 else 10 * (ed_ch L T i - 48) + ed_ch L T (i + 1) - 48
/-- where a number is at fault, or -1 -/
def ed_nf (L : Int) (T : Int → Int) (i : Int) : Int := if ed_nl L T i = 2 ∧ ed_dgt L T (i + 2) then i + 2 else if ed_nl L T i ≠ 0 ∧ ¬ (1 ≤ ed_nt L T i ∧ ed_nt L T i ≤ 20) then i else -1
def ed_mr (c : Int) : Int := if c = 111 then 4 else if c = 99 then 8 else 0
/-- the action at a place, or -1 -/
def ed_ac (L : Int) (T : Int → Int) (j : Int) : Int :=
  if ed_mr (ed_ch L T j) = 0 then (if ed_dof (ed_ch L T j) ≠ -1 then ed_dof (ed_ch L T j) else if ed_ch L T j = 46 then 12 else if ed_ch L T j = 108 then 13 else if ed_ch L T j = 120 then 14 else if ed_ch L T j = 116 then 15 else -1)
  else if ed_dof (ed_ch L T (j + 1)) = -1 then -1 else ed_mr (ed_ch L T j) + ed_dof (ed_ch L T (j + 1))
def ed_sk (L : Int) (T : Int → Int) (j : Int) : Int := if ed_mr (ed_ch L T j) = 0 then j else j + 1
abbrev ed_ok (L : Int) (T : Int → Int) (i : Int) : Prop := ed_nf L T i = -1 ∧ ed_ac L T (i + ed_nl L T i) ≠ -1
/-- behind an order, or where it is at fault -/
def ed_po (L : Int) (T : Int → Int) (i : Int) : Int := if ed_nf L T i = -1 then (if ed_ac L T (i + ed_nl L T i) = -1 then ed_sk L T (i + ed_nl L T i) else ed_sk L T (i + ed_nl L T i) + 1) else ed_nf L T i
theorem ed_dof_rg {c : Int} : -1 ≤ ed_dof c ∧ ed_dof c ≤ 3 := by
  unfold ed_dof
  split
  · omega
  · split
    · omega
    · split
      · omega
      · split <;> omega
theorem ed_mr_rg {c : Int} : ed_mr c = 0 ∨ ed_mr c = 4 ∨ ed_mr c = 8 := by
  unfold ed_mr
  split
  · omega
  · split <;> omega
theorem ed_nl_rg {L : Int} {T : Int → Int} {i : Int} : 0 ≤ ed_nl L T i ∧ ed_nl L T i ≤ 2 := by
  unfold ed_nl
  split
  · split <;> omega
  · omega
theorem ed_ac_rg {L : Int} {T : Int → Int} {j : Int} : -1 ≤ ed_ac L T j ∧ ed_ac L T j < 16 := by
  have h1 := ed_dof_rg (c := ed_ch L T j)
  have h2 := ed_dof_rg (c := ed_ch L T (j + 1))
  have h3 := ed_mr_rg (c := ed_ch L T j)
  unfold ed_ac
  split
  · split
    · omega
    · split
      · omega
      · split
        · omega
        · split
          · omega
          · split <;> omega
  · split <;> omega
theorem ed_po_gt {L : Int} {T : Int → Int} {i : Int} (h : ed_ok L T i) : i < ed_po L T i := by
  have := ed_nl_rg (L := L) (T := T) (i := i)
  unfold ed_po ed_sk
  rw [if_pos h.1, if_neg h.2]
  split <;> omega
/-- a text's fault, or -1 -/
def ed_fa (L : Int) (T : Int → Int) : Nat → Int → Int
  | 0, _ => -1
  | n + 1, i => if i < L then (if ed_ok L T i then ed_fa L T n (ed_po L T i) else ed_po L T i) else -1
/-! contracts -/
theorem ed_ch_rg {h : ec_Hp} {L : Int} {T : Int → Int} (X : ed_TX h L T) {i : Int} (hi : 0 ≤ i) : -1 ≤ ed_ch L T i ∧ ed_ch L T i ≤ 127 := by
  unfold ed_ch
  split
  · have := (X.2.2 i (by omega)).2
    omega
  · omega
theorem ec_c189 {h : ec_Hp} (hD : ec_MD h) {L : Int} {T : Int → Int} (X : ed_TX h L T) {i : Int} (hs : h.2.1 72 15 = ec_i i) (hi : 0 ≤ i ∧ i ≤ 200) : ec_om 189 0 [.ref 72] [] h = some (.inl (some (.int (ec_i (ec_q (ed_dgt L T i))))), h) := by
  have X1 := X.1
  have X2 := X.2.1
  unfold ec_MD at hD
  unfold ed_dgt ed_ch
  by_cases q : i < L
  · have X3 := X.2.2 i (by omega)
    have X4 := X3.1
    have g5 := fun h => ec_c118 (h := h) (x := T i) (ec_rgs (by omega)) (ec_rgs (z := 48) (by omega)) (ec_rgs (z := 57) (by omega))
    rw [if_pos q]
    by_cases q2 : 48 ≤ T i ∧ T i ≤ 57
    · simp (disch := first | (simp only [ec_w_kI, ec_w_kL, ec_w_kA, ec_w_shpI, ec_w_shpL, ec_w_shpA, ec_isR_r, ec_01z, ec_01o, ec_01q, hD]; done) | omega | (simp only [ec_w_shpI, ec_w_shpL, ec_w_shpA, hD]; refine ec_zinO ?_; omega) | (refine ec_nzO ?_; omega)) only [ec_s189_0, ec_s189_1, ec_s189_4, ec_s189_5, ec_s189_8, ec_s189_11, ec_s189_12, ec_s189_15, ec_s189_16, ec_s189_19, ec_s189_20, ec_s189_22, ec_s189_24, ec_s189_27, ec_s189_30, ec_s189_31, ec_s189_34, ec_s189_35, ec_zn0, ec_zn1, ec_zn2, ec_zn3, ec_zn4, ec_zn5, ec_zn6, ec_zn7, ec_zn8, ec_zn9, ec_zn10, ec_zn12, ec_zn13, ec_zn14, ec_zn15, ec_zn16, ec_zn20, ec_zn30, ec_zn48, ec_zn99, ec_zn120, ec_zn127, ec_zn11, ec_zn31, ec_zn46, ec_zn57, ec_zn59, ec_zn63, ec_zn101, ec_zn107, ec_zn108, ec_zn110, ec_zn111, ec_zn115, ec_zn116, ec_zn119, ec_zn167, ec_zn185, ec_zn192, ec_zn215, ec_zn233, ec_zn699, ec_zn932, ec_zn999, ec_znF, ec_zneg, ec_zadd, ec_zsub, ec_zmul, ec_zdivO, ec_em, ec_zltO, ec_zeqO, ec_zeq0, ec_qt, ec_qf, if_pos, if_neg, Int.add_zero, ec_aft_v, ec_aft_n, ec_rwE, ec_rwN, ec_rwP, ec_rwK, ec_rwS, ec_w_shpI, ec_w_shpL, ec_w_shpA, hD, hs, X1, X4, g5]
    · simp (disch := first | (simp only [ec_w_kI, ec_w_kL, ec_w_kA, ec_w_shpI, ec_w_shpL, ec_w_shpA, ec_isR_r, ec_01z, ec_01o, ec_01q, hD]; done) | omega | (simp only [ec_w_shpI, ec_w_shpL, ec_w_shpA, hD]; refine ec_zinO ?_; omega) | (refine ec_nzO ?_; omega)) only [ec_s189_0, ec_s189_1, ec_s189_4, ec_s189_5, ec_s189_8, ec_s189_11, ec_s189_12, ec_s189_15, ec_s189_16, ec_s189_19, ec_s189_20, ec_s189_22, ec_s189_24, ec_s189_27, ec_s189_30, ec_s189_31, ec_s189_34, ec_s189_35, ec_zn0, ec_zn1, ec_zn2, ec_zn3, ec_zn4, ec_zn5, ec_zn6, ec_zn7, ec_zn8, ec_zn9, ec_zn10, ec_zn12, ec_zn13, ec_zn14, ec_zn15, ec_zn16, ec_zn20, ec_zn30, ec_zn48, ec_zn99, ec_zn120, ec_zn127, ec_zn11, ec_zn31, ec_zn46, ec_zn57, ec_zn59, ec_zn63, ec_zn101, ec_zn107, ec_zn108, ec_zn110, ec_zn111, ec_zn115, ec_zn116, ec_zn119, ec_zn167, ec_zn185, ec_zn192, ec_zn215, ec_zn233, ec_zn699, ec_zn932, ec_zn999, ec_znF, ec_zneg, ec_zadd, ec_zsub, ec_zmul, ec_zdivO, ec_em, ec_zltO, ec_zeqO, ec_zeq0, ec_qt, ec_qf, if_pos, if_neg, Int.add_zero, ec_aft_v, ec_aft_n, ec_rwE, ec_rwN, ec_rwP, ec_rwK, ec_rwS, ec_w_shpI, ec_w_shpL, ec_w_shpA, hD, hs, X1, X4, g5]
  · rw [if_neg q]
    simp (disch := first | (simp only [ec_w_kI, ec_w_kL, ec_w_kA, ec_w_shpI, ec_w_shpL, ec_w_shpA, ec_isR_r, ec_01z, ec_01o, ec_01q, hD]; done) | omega | (simp only [ec_w_shpI, ec_w_shpL, ec_w_shpA, hD]; refine ec_zinO ?_; omega) | (refine ec_nzO ?_; omega)) only [ec_s189_0, ec_s189_1, ec_s189_4, ec_s189_5, ec_s189_8, ec_s189_11, ec_s189_12, ec_s189_15, ec_s189_16, ec_s189_19, ec_s189_20, ec_s189_22, ec_s189_24, ec_s189_27, ec_s189_30, ec_s189_31, ec_s189_34, ec_s189_35, ec_zn0, ec_zn1, ec_zn2, ec_zn3, ec_zn4, ec_zn5, ec_zn6, ec_zn7, ec_zn8, ec_zn9, ec_zn10, ec_zn12, ec_zn13, ec_zn14, ec_zn15, ec_zn16, ec_zn20, ec_zn30, ec_zn48, ec_zn99, ec_zn120, ec_zn127, ec_zn11, ec_zn31, ec_zn46, ec_zn57, ec_zn59, ec_zn63, ec_zn101, ec_zn107, ec_zn108, ec_zn110, ec_zn111, ec_zn115, ec_zn116, ec_zn119, ec_zn167, ec_zn185, ec_zn192, ec_zn215, ec_zn233, ec_zn699, ec_zn932, ec_zn999, ec_znF, ec_zneg, ec_zadd, ec_zsub, ec_zmul, ec_zdivO, ec_em, ec_zltO, ec_zeqO, ec_zeq0, ec_qt, ec_qf, if_pos, if_neg, Int.add_zero, ec_aft_v, ec_aft_n, ec_rwE, ec_rwN, ec_rwP, ec_rwK, ec_rwS, ec_w_shpI, ec_w_shpL, ec_w_shpA, hD, hs, X1]
theorem ec_c190 {h : ec_Hp} {c : Int} (hc : -1 ≤ c ∧ c ≤ 127) : ec_om 190 0 [.int (ec_i c)] [] h = some (.inl (some (.int (ec_i (ed_dof c)))), h) := by
  unfold ed_dof
  by_cases q1 : c = 110
  · rw [if_pos q1]; simp (disch := first | (simp only [ec_01z, ec_01o, ec_01q]; done) | omega | (refine ec_nzO ?_; omega)) only [ec_s190_0, ec_s190_1, ec_s190_3, ec_s190_6, ec_s190_7, ec_s190_10, ec_s190_11, ec_s190_13, ec_s190_16, ec_s190_17, ec_s190_20, ec_s190_21, ec_s190_23, ec_s190_26, ec_s190_27, ec_s190_30, ec_s190_31, ec_s190_33, ec_s190_36, ec_s190_37, ec_s190_40, ec_s190_41, ec_zn0, ec_zn1, ec_zn2, ec_zn3, ec_zn4, ec_zn5, ec_zn6, ec_zn7, ec_zn8, ec_zn9, ec_zn10, ec_zn12, ec_zn13, ec_zn14, ec_zn15, ec_zn16, ec_zn20, ec_zn30, ec_zn48, ec_zn99, ec_zn120, ec_zn127, ec_zn11, ec_zn31, ec_zn46, ec_zn57, ec_zn59, ec_zn63, ec_zn101, ec_zn107, ec_zn108, ec_zn110, ec_zn111, ec_zn115, ec_zn116, ec_zn119, ec_zn167, ec_zn185, ec_zn192, ec_zn215, ec_zn233, ec_zn699, ec_zn932, ec_zn999, ec_znF, ec_zneg, ec_zadd, ec_zsub, ec_zmul, ec_zdivO, ec_em, ec_zltO, ec_zeqO, ec_zeq0, ec_qt, ec_qf, if_pos, if_neg, Int.add_zero, ec_aft_v, ec_aft_n, ec_rwE, ec_rwN, ec_rwP, ec_rwK, ec_rwS, ec_w_shpI, ec_w_shpL, ec_w_shpA]
  · rw [if_neg q1]
    by_cases q2 : c = 101
    · rw [if_pos q2]; simp (disch := first | (simp only [ec_01z, ec_01o, ec_01q]; done) | omega | (refine ec_nzO ?_; omega)) only [ec_s190_0, ec_s190_1, ec_s190_3, ec_s190_6, ec_s190_7, ec_s190_10, ec_s190_11, ec_s190_13, ec_s190_16, ec_s190_17, ec_s190_20, ec_s190_21, ec_s190_23, ec_s190_26, ec_s190_27, ec_s190_30, ec_s190_31, ec_s190_33, ec_s190_36, ec_s190_37, ec_s190_40, ec_s190_41, ec_zn0, ec_zn1, ec_zn2, ec_zn3, ec_zn4, ec_zn5, ec_zn6, ec_zn7, ec_zn8, ec_zn9, ec_zn10, ec_zn12, ec_zn13, ec_zn14, ec_zn15, ec_zn16, ec_zn20, ec_zn30, ec_zn48, ec_zn99, ec_zn120, ec_zn127, ec_zn11, ec_zn31, ec_zn46, ec_zn57, ec_zn59, ec_zn63, ec_zn101, ec_zn107, ec_zn108, ec_zn110, ec_zn111, ec_zn115, ec_zn116, ec_zn119, ec_zn167, ec_zn185, ec_zn192, ec_zn215, ec_zn233, ec_zn699, ec_zn932, ec_zn999, ec_znF, ec_zneg, ec_zadd, ec_zsub, ec_zmul, ec_zdivO, ec_em, ec_zltO, ec_zeqO, ec_zeq0, ec_qt, ec_qf, if_pos, if_neg, Int.add_zero, ec_aft_v, ec_aft_n, ec_rwE, ec_rwN, ec_rwP, ec_rwK, ec_rwS, ec_w_shpI, ec_w_shpL, ec_w_shpA]
    · rw [if_neg q2]
      by_cases q3 : c = 115
      · rw [if_pos q3]; simp (disch := first | (simp only [ec_01z, ec_01o, ec_01q]; done) | omega | (refine ec_nzO ?_; omega)) only [ec_s190_0, ec_s190_1, ec_s190_3, ec_s190_6, ec_s190_7, ec_s190_10, ec_s190_11, ec_s190_13, ec_s190_16, ec_s190_17, ec_s190_20, ec_s190_21, ec_s190_23, ec_s190_26, ec_s190_27, ec_s190_30, ec_s190_31, ec_s190_33, ec_s190_36, ec_s190_37, ec_s190_40, ec_s190_41, ec_zn0, ec_zn1, ec_zn2, ec_zn3, ec_zn4, ec_zn5, ec_zn6, ec_zn7, ec_zn8, ec_zn9, ec_zn10, ec_zn12, ec_zn13, ec_zn14, ec_zn15, ec_zn16, ec_zn20, ec_zn30, ec_zn48, ec_zn99, ec_zn120, ec_zn127, ec_zn11, ec_zn31, ec_zn46, ec_zn57, ec_zn59, ec_zn63, ec_zn101, ec_zn107, ec_zn108, ec_zn110, ec_zn111, ec_zn115, ec_zn116, ec_zn119, ec_zn167, ec_zn185, ec_zn192, ec_zn215, ec_zn233, ec_zn699, ec_zn932, ec_zn999, ec_znF, ec_zneg, ec_zadd, ec_zsub, ec_zmul, ec_zdivO, ec_em, ec_zltO, ec_zeqO, ec_zeq0, ec_qt, ec_qf, if_pos, if_neg, Int.add_zero, ec_aft_v, ec_aft_n, ec_rwE, ec_rwN, ec_rwP, ec_rwK, ec_rwS, ec_w_shpI, ec_w_shpL, ec_w_shpA]
      · rw [if_neg q3]
        by_cases q4 : c = 119
        · rw [if_pos q4]; simp (disch := first | (simp only [ec_01z, ec_01o, ec_01q]; done) | omega | (refine ec_nzO ?_; omega)) only [ec_s190_0, ec_s190_1, ec_s190_3, ec_s190_6, ec_s190_7, ec_s190_10, ec_s190_11, ec_s190_13, ec_s190_16, ec_s190_17, ec_s190_20, ec_s190_21, ec_s190_23, ec_s190_26, ec_s190_27, ec_s190_30, ec_s190_31, ec_s190_33, ec_s190_36, ec_s190_37, ec_s190_40, ec_s190_41, ec_zn0, ec_zn1, ec_zn2, ec_zn3, ec_zn4, ec_zn5, ec_zn6, ec_zn7, ec_zn8, ec_zn9, ec_zn10, ec_zn12, ec_zn13, ec_zn14, ec_zn15, ec_zn16, ec_zn20, ec_zn30, ec_zn48, ec_zn99, ec_zn120, ec_zn127, ec_zn11, ec_zn31, ec_zn46, ec_zn57, ec_zn59, ec_zn63, ec_zn101, ec_zn107, ec_zn108, ec_zn110, ec_zn111, ec_zn115, ec_zn116, ec_zn119, ec_zn167, ec_zn185, ec_zn192, ec_zn215, ec_zn233, ec_zn699, ec_zn932, ec_zn999, ec_znF, ec_zneg, ec_zadd, ec_zsub, ec_zmul, ec_zdivO, ec_em, ec_zltO, ec_zeqO, ec_zeq0, ec_qt, ec_qf, if_pos, if_neg, Int.add_zero, ec_aft_v, ec_aft_n, ec_rwE, ec_rwN, ec_rwP, ec_rwK, ec_rwS, ec_w_shpI, ec_w_shpL, ec_w_shpA]
        · rw [if_neg q4]; simp (disch := first | (simp only [ec_01z, ec_01o, ec_01q]; done) | omega | (refine ec_nzO ?_; omega)) only [ec_s190_0, ec_s190_1, ec_s190_3, ec_s190_6, ec_s190_7, ec_s190_10, ec_s190_11, ec_s190_13, ec_s190_16, ec_s190_17, ec_s190_20, ec_s190_21, ec_s190_23, ec_s190_26, ec_s190_27, ec_s190_30, ec_s190_31, ec_s190_33, ec_s190_36, ec_s190_37, ec_s190_40, ec_s190_41, ec_zn0, ec_zn1, ec_zn2, ec_zn3, ec_zn4, ec_zn5, ec_zn6, ec_zn7, ec_zn8, ec_zn9, ec_zn10, ec_zn12, ec_zn13, ec_zn14, ec_zn15, ec_zn16, ec_zn20, ec_zn30, ec_zn48, ec_zn99, ec_zn120, ec_zn127, ec_zn11, ec_zn31, ec_zn46, ec_zn57, ec_zn59, ec_zn63, ec_zn101, ec_zn107, ec_zn108, ec_zn110, ec_zn111, ec_zn115, ec_zn116, ec_zn119, ec_zn167, ec_zn185, ec_zn192, ec_zn215, ec_zn233, ec_zn699, ec_zn932, ec_zn999, ec_znF, ec_zneg, ec_zadd, ec_zsub, ec_zmul, ec_zdivO, ec_em, ec_zltO, ec_zeqO, ec_zeq0, ec_qt, ec_qf, if_pos, if_neg, Int.add_zero, ec_aft_v, ec_aft_n, ec_rwE, ec_rwN, ec_rwP, ec_rwK, ec_rwS, ec_w_shpI, ec_w_shpL, ec_w_shpA]
theorem ec_c191 {h : ec_Hp} (hD : ec_MD h) {L : Int} {T : Int → Int} (X : ed_TX h L T) {i : Int} (hs : h.2.1 72 15 = ec_i i) (hi : 0 ≤ i ∧ i ≤ 200) : ec_om 191 0 [.ref 72] [] h = some (.inl (some (.int (ec_i (ed_ch L T i)))), h) := by
  have X1 := X.1
  have X2 := X.2.1
  unfold ec_MD at hD
  unfold ed_ch
  by_cases q : i < L
  · have X4 := (X.2.2 i (by omega)).1
    rw [if_pos q]
    simp (disch := first | (simp only [ec_w_kI, ec_w_kL, ec_w_kA, ec_w_shpI, ec_w_shpL, ec_w_shpA, ec_isR_r, ec_01z, ec_01o, ec_01q, hD]; done) | omega | (simp only [ec_w_shpI, ec_w_shpL, ec_w_shpA, hD]; refine ec_zinO ?_; omega) | (refine ec_nzO ?_; omega)) only [ec_s191_0, ec_s191_1, ec_s191_4, ec_s191_5, ec_s191_8, ec_s191_11, ec_s191_12, ec_s191_15, ec_s191_16, ec_s191_19, ec_s191_20, ec_s191_23, ec_s191_24, ec_zn0, ec_zn1, ec_zn2, ec_zn3, ec_zn4, ec_zn5, ec_zn6, ec_zn7, ec_zn8, ec_zn9, ec_zn10, ec_zn12, ec_zn13, ec_zn14, ec_zn15, ec_zn16, ec_zn20, ec_zn30, ec_zn48, ec_zn99, ec_zn120, ec_zn127, ec_zn11, ec_zn31, ec_zn46, ec_zn57, ec_zn59, ec_zn63, ec_zn101, ec_zn107, ec_zn108, ec_zn110, ec_zn111, ec_zn115, ec_zn116, ec_zn119, ec_zn167, ec_zn185, ec_zn192, ec_zn215, ec_zn233, ec_zn699, ec_zn932, ec_zn999, ec_znF, ec_zneg, ec_zadd, ec_zsub, ec_zmul, ec_zdivO, ec_em, ec_zltO, ec_zeqO, ec_zeq0, ec_qt, ec_qf, if_pos, if_neg, Int.add_zero, ec_aft_v, ec_aft_n, ec_rwE, ec_rwN, ec_rwP, ec_rwK, ec_rwS, ec_w_shpI, ec_w_shpL, ec_w_shpA, hD, hs, X1, X4]
  · rw [if_neg q]
    simp (disch := first | (simp only [ec_w_kI, ec_w_kL, ec_w_kA, ec_w_shpI, ec_w_shpL, ec_w_shpA, ec_isR_r, ec_01z, ec_01o, ec_01q, hD]; done) | omega | (simp only [ec_w_shpI, ec_w_shpL, ec_w_shpA, hD]; refine ec_zinO ?_; omega) | (refine ec_nzO ?_; omega)) only [ec_s191_0, ec_s191_1, ec_s191_4, ec_s191_5, ec_s191_8, ec_s191_11, ec_s191_12, ec_s191_15, ec_s191_16, ec_s191_19, ec_s191_20, ec_s191_23, ec_s191_24, ec_zn0, ec_zn1, ec_zn2, ec_zn3, ec_zn4, ec_zn5, ec_zn6, ec_zn7, ec_zn8, ec_zn9, ec_zn10, ec_zn12, ec_zn13, ec_zn14, ec_zn15, ec_zn16, ec_zn20, ec_zn30, ec_zn48, ec_zn99, ec_zn120, ec_zn127, ec_zn11, ec_zn31, ec_zn46, ec_zn57, ec_zn59, ec_zn63, ec_zn101, ec_zn107, ec_zn108, ec_zn110, ec_zn111, ec_zn115, ec_zn116, ec_zn119, ec_zn167, ec_zn185, ec_zn192, ec_zn215, ec_zn233, ec_zn699, ec_zn932, ec_zn999, ec_znF, ec_zneg, ec_zadd, ec_zsub, ec_zmul, ec_zdivO, ec_em, ec_zltO, ec_zeqO, ec_zeq0, ec_qt, ec_qf, if_pos, if_neg, Int.add_zero, ec_aft_v, ec_aft_n, ec_rwE, ec_rwN, ec_rwP, ec_rwK, ec_rwS, ec_w_shpI, ec_w_shpL, ec_w_shpA, hD, hs, X1]
abbrev ed_Rd : Nat → Nat → Prop := fun q j => q = 72 ∧ (j = 15 ∨ j = 16 ∨ j = 17)
theorem ed_TX.Rd {h h' : ec_Hp} {L : Int} {T : Int → Int} (X : ed_TX h L T) (a : ec_fg ed_Rd h h') : ed_TX h' L T := X.fg a (by decide) (fun _ y => absurd y.1 (by decide))
set_option maxHeartbeats 2000000 in
theorem ec_c192 {h : ec_Hp} (hD : ec_MD h) {L : Int} {T : Int → Int} (X : ed_TX h L T) {i : Int} (hs : h.2.1 72 15 = ec_i i) (hi : 0 ≤ i ∧ i < L) : ∃ h', ec_om 192 0 [.ref 72, .double 0, .double 0] [] h = some (.inl (some (.int (ec_i (ec_q (ed_nf L T i = -1))))), h') ∧ ec_fg ed_Rd h h' ∧
    h'.2.1 72 15 = ec_i (if ed_nf L T i = -1 then i + ed_nl L T i else ed_nf L T i) ∧ (ed_nf L T i = -1 → h'.2.1 72 16 = ec_i (ed_nt L T i)) := by
  have X1 := X.1
  have X2 := X.2.1
  have X4 := (X.2.2 i hi).1
  have e0 : ed_ch L T i = T i := if_pos hi.2
  have F1 : ∀ x, ec_fg ed_Rd h (ec_setI h 72 16 x) := fun x => ec_fg.refl.I ⟨rfl, Or.inr (Or.inl rfl)⟩
  -- the digits, at the places that the number goes through
  have d0 := ec_c189 (h := ec_setI h 72 16 (ec_i 0)) (hD.of rfl) (X.Rd (F1 _)) (i := i) (by rw [ec_rwK (by decide), hs]) (by omega)
  have F2 : ∀ x y, ec_fg ed_Rd h (ec_setI (ec_setI (ec_setI h 72 16 (ec_i 0)) 72 16 x) 72 15 y) := fun x y => ((F1 _).I ⟨rfl, Or.inr (Or.inl rfl)⟩).I ⟨rfl, Or.inl rfl⟩
  have d1 := fun x => ec_c189 (h := ec_setI (ec_setI (ec_setI h 72 16 (ec_i 0)) 72 16 x) 72 15 (ec_i (i + 1))) (hD.of rfl) (X.Rd (F2 _ _)) (i := i + 1) (by rw [ec_rwS]) (by omega)
  have F3 : ∀ x y z u, ec_fg ed_Rd h (ec_setI (ec_setI (ec_setI (ec_setI (ec_setI h 72 16 (ec_i 0)) 72 16 x) 72 15 y) 72 16 z) 72 15 u) := fun x y z u => ((F2 x y).I ⟨rfl, Or.inr (Or.inl rfl)⟩).I ⟨rfl, Or.inl rfl⟩
  have d2 := fun x y => ec_c189 (h := ec_setI (ec_setI (ec_setI (ec_setI (ec_setI h 72 16 (ec_i 0)) 72 16 x) 72 15 (ec_i (i + 1))) 72 16 y) 72 15 (ec_i (i + 1 + 1))) (hD.of rfl) (X.Rd (F3 _ _ _ _)) (i := i + 1 + 1) (by rw [ec_rwS]) (by omega)
  have b1 := ed_ch_rg X (i := i + 1) (by omega)
  have b0 := ed_ch_rg X (i := i) (by omega)
  unfold ec_MD at hD
  generalize e : ec_om 192 0 [.ref 72, .double 0, .double 0] [] h = r
  rw [ec_s192_0, ec_s192_1 (by simp only [hD])] at e
  unfold ed_nf ed_nt
  by_cases q0 : ed_dgt L T i
  · have q0' := q0
    unfold ed_dgt at q0'
    rw [e0] at q0'
    rw [ec_qt q0] at d0
    by_cases q1 : ed_dgt L T (i + 1)
    · have n2 : ed_nl L T i = 2 := by
        unfold ed_nl
        rw [if_pos q0, if_pos q1]
      have q1' := q1
      unfold ed_dgt at q1'
      have hl : i + 1 < L := by
        apply Classical.byContradiction
        intro hn
        have e1 : ed_ch L T (i + 1) = -1 := if_neg hn
        omega
      have e1 : ed_ch L T (i + 1) = T (i + 1) := if_pos hl
      rw [e1] at q1'
      have X5 := (X.2.2 (i + 1) (by omega)).1
      rw [n2, if_neg (show ¬ (2 : Int) = 0 by decide), if_neg (show ¬ (2 : Int) = 1 by decide), e0, e1]
      simp only [ec_qt q1] at d1
      have sp : i + 1 + 1 = i + 2 := by omega
      by_cases q2 : ed_dgt L T (i + 2)
      · rw [if_pos (show (2 : Int) = 2 ∧ ed_dgt L T (i + 2) from ⟨rfl, q2⟩)]
        rw [sp] at d2
        simp only [ec_qt q2] at d2
        simp (disch := first | (simp only [ec_w_kI, ec_w_kL, ec_w_kA, ec_w_shpI, ec_w_shpL, ec_w_shpA, ec_isR_r, ec_01z, ec_01o, ec_01q, hD]; done) | omega | (simp only [ec_w_shpI, ec_w_shpL, ec_w_shpA, hD]; refine ec_zinO ?_; omega) | (refine ec_nzO ?_; omega)) only [ec_s192_0, ec_s192_1, ec_s192_4, ec_s192_5, ec_s192_6, ec_s192_7, ec_s192_11, ec_s192_14, ec_s192_15, ec_s192_16, ec_s192_17, ec_s192_20, ec_s192_21, ec_s192_24, ec_s192_27, ec_s192_28, ec_s192_30, ec_s192_31, ec_s192_34, ec_s192_35, ec_s192_36, ec_s192_39, ec_s192_40, ec_s192_43, ec_s192_44, ec_s192_45, ec_s192_47, ec_s192_48, ec_s192_51, ec_s192_52, ec_s192_53, ec_s192_56, ec_s192_57, ec_s192_58, ec_s192_61, ec_s192_64, ec_s192_65, ec_s192_68, ec_s192_71, ec_s192_72, ec_s192_73, ec_s192_74, ec_s192_77, ec_s192_78, ec_s192_81, ec_s192_82, ec_s192_83, ec_s192_86, ec_s192_87, ec_s192_88, ec_s192_89, ec_s192_92, ec_s192_93, ec_s192_95, ec_s192_98, ec_s192_99, ec_s192_100, ec_s192_101, ec_s192_104, ec_s192_105, ec_s192_108, ec_s192_111, ec_s192_112, ec_s192_115, ec_s192_116, ec_s192_10, ec_zn0, ec_zn1, ec_zn2, ec_zn3, ec_zn4, ec_zn5, ec_zn6, ec_zn7, ec_zn8, ec_zn9, ec_zn10, ec_zn12, ec_zn13, ec_zn14, ec_zn15, ec_zn16, ec_zn20, ec_zn30, ec_zn48, ec_zn99, ec_zn120, ec_zn127, ec_zn11, ec_zn31, ec_zn46, ec_zn57, ec_zn59, ec_zn63, ec_zn101, ec_zn107, ec_zn108, ec_zn110, ec_zn111, ec_zn115, ec_zn116, ec_zn119, ec_zn167, ec_zn185, ec_zn192, ec_zn215, ec_zn233, ec_zn699, ec_zn932, ec_zn999, ec_znF, ec_zneg, ec_zadd, ec_zsub, ec_zmul, ec_zdivO, ec_em, ec_zltO, ec_zeqO, ec_zeq0, ec_qt, ec_qf, if_pos, if_neg, Int.add_zero, ec_aft_v, ec_aft_n, ec_rwE, ec_rwN, ec_rwP, ec_rwK, ec_rwS, ec_w_shpI, ec_w_shpL, ec_w_shpA, hD, hs, X1, X4, X5, d0, d1, d2, sp] at e
        subst e
        rw [ec_qf (show ¬ i + 2 = -1 by omega)]
        refine ⟨_, rfl, F3 _ _ _ _, ?_, fun y => absurd y (by omega)⟩
        rw [if_neg (by omega), ec_rwS]
      · rw [if_neg (fun z : (2 : Int) = 2 ∧ ed_dgt L T (i + 2) => q2 z.2)]
        rw [sp] at d2
        simp only [ec_qf q2] at d2
        have g5 := fun h => ec_c118 (h := h) (x := 10 * (T i - 48) + T (i + 1) - 48) (ec_rgs (by omega)) ec_rn1 ec_rn20
        have en : 10 * (10 * 0 + T i - 48) + T (i + 1) - 48 = 10 * (T i - 48) + T (i + 1) - 48 := by omega
        by_cases q3 : 1 ≤ 10 * (T i - 48) + T (i + 1) - 48 ∧ 10 * (T i - 48) + T (i + 1) - 48 ≤ 20
        · rw [if_neg (fun z : (2 : Int) ≠ 0 ∧ ¬ (1 ≤ 10 * (T i - 48) + T (i + 1) - 48 ∧ 10 * (T i - 48) + T (i + 1) - 48 ≤ 20) => z.2 q3)]
          simp (disch := first | (simp only [ec_w_kI, ec_w_kL, ec_w_kA, ec_w_shpI, ec_w_shpL, ec_w_shpA, ec_isR_r, ec_01z, ec_01o, ec_01q, hD]; done) | omega | (simp only [ec_w_shpI, ec_w_shpL, ec_w_shpA, hD]; refine ec_zinO ?_; omega) | (refine ec_nzO ?_; omega)) only [ec_s192_0, ec_s192_1, ec_s192_4, ec_s192_5, ec_s192_6, ec_s192_7, ec_s192_11, ec_s192_14, ec_s192_15, ec_s192_16, ec_s192_17, ec_s192_20, ec_s192_21, ec_s192_24, ec_s192_27, ec_s192_28, ec_s192_30, ec_s192_31, ec_s192_34, ec_s192_35, ec_s192_36, ec_s192_39, ec_s192_40, ec_s192_43, ec_s192_44, ec_s192_45, ec_s192_47, ec_s192_48, ec_s192_51, ec_s192_52, ec_s192_53, ec_s192_56, ec_s192_57, ec_s192_58, ec_s192_61, ec_s192_64, ec_s192_65, ec_s192_68, ec_s192_71, ec_s192_72, ec_s192_73, ec_s192_74, ec_s192_77, ec_s192_78, ec_s192_81, ec_s192_82, ec_s192_83, ec_s192_86, ec_s192_87, ec_s192_88, ec_s192_89, ec_s192_92, ec_s192_93, ec_s192_95, ec_s192_98, ec_s192_99, ec_s192_100, ec_s192_101, ec_s192_104, ec_s192_105, ec_s192_108, ec_s192_111, ec_s192_112, ec_s192_115, ec_s192_116, ec_s192_10, ec_zn0, ec_zn1, ec_zn2, ec_zn3, ec_zn4, ec_zn5, ec_zn6, ec_zn7, ec_zn8, ec_zn9, ec_zn10, ec_zn12, ec_zn13, ec_zn14, ec_zn15, ec_zn16, ec_zn20, ec_zn30, ec_zn48, ec_zn99, ec_zn120, ec_zn127, ec_zn11, ec_zn31, ec_zn46, ec_zn57, ec_zn59, ec_zn63, ec_zn101, ec_zn107, ec_zn108, ec_zn110, ec_zn111, ec_zn115, ec_zn116, ec_zn119, ec_zn167, ec_zn185, ec_zn192, ec_zn215, ec_zn233, ec_zn699, ec_zn932, ec_zn999, ec_znF, ec_zneg, ec_zadd, ec_zsub, ec_zmul, ec_zdivO, ec_em, ec_zltO, ec_zeqO, ec_zeq0, ec_qt, ec_qf, if_pos, if_neg, Int.add_zero, ec_aft_v, ec_aft_n, ec_rwE, ec_rwN, ec_rwP, ec_rwK, ec_rwS, ec_w_shpI, ec_w_shpL, ec_w_shpA, hD, hs, X1, X4, X5, d0, d1, d2, g5, en, sp] at e
          subst e
          rw [ec_qt rfl]
          refine ⟨_, rfl, (F3 _ _ _ _).I ⟨rfl, Or.inl rfl⟩, ?_, fun _ => ?_⟩
          · rw [if_pos rfl, ec_rwS]
          · rw [ec_rwK (by decide), ec_rwK (by decide), ec_rwS]
        · rw [if_pos (show (2 : Int) ≠ 0 ∧ ¬ (1 ≤ 10 * (T i - 48) + T (i + 1) - 48 ∧ 10 * (T i - 48) + T (i + 1) - 48 ≤ 20) from ⟨by decide, q3⟩)]
          simp (disch := first | (simp only [ec_w_kI, ec_w_kL, ec_w_kA, ec_w_shpI, ec_w_shpL, ec_w_shpA, ec_isR_r, ec_01z, ec_01o, ec_01q, hD]; done) | omega | (simp only [ec_w_shpI, ec_w_shpL, ec_w_shpA, hD]; refine ec_zinO ?_; omega) | (refine ec_nzO ?_; omega)) only [ec_s192_0, ec_s192_1, ec_s192_4, ec_s192_5, ec_s192_6, ec_s192_7, ec_s192_11, ec_s192_14, ec_s192_15, ec_s192_16, ec_s192_17, ec_s192_20, ec_s192_21, ec_s192_24, ec_s192_27, ec_s192_28, ec_s192_30, ec_s192_31, ec_s192_34, ec_s192_35, ec_s192_36, ec_s192_39, ec_s192_40, ec_s192_43, ec_s192_44, ec_s192_45, ec_s192_47, ec_s192_48, ec_s192_51, ec_s192_52, ec_s192_53, ec_s192_56, ec_s192_57, ec_s192_58, ec_s192_61, ec_s192_64, ec_s192_65, ec_s192_68, ec_s192_71, ec_s192_72, ec_s192_73, ec_s192_74, ec_s192_77, ec_s192_78, ec_s192_81, ec_s192_82, ec_s192_83, ec_s192_86, ec_s192_87, ec_s192_88, ec_s192_89, ec_s192_92, ec_s192_93, ec_s192_95, ec_s192_98, ec_s192_99, ec_s192_100, ec_s192_101, ec_s192_104, ec_s192_105, ec_s192_108, ec_s192_111, ec_s192_112, ec_s192_115, ec_s192_116, ec_s192_10, ec_zn0, ec_zn1, ec_zn2, ec_zn3, ec_zn4, ec_zn5, ec_zn6, ec_zn7, ec_zn8, ec_zn9, ec_zn10, ec_zn12, ec_zn13, ec_zn14, ec_zn15, ec_zn16, ec_zn20, ec_zn30, ec_zn48, ec_zn99, ec_zn120, ec_zn127, ec_zn11, ec_zn31, ec_zn46, ec_zn57, ec_zn59, ec_zn63, ec_zn101, ec_zn107, ec_zn108, ec_zn110, ec_zn111, ec_zn115, ec_zn116, ec_zn119, ec_zn167, ec_zn185, ec_zn192, ec_zn215, ec_zn233, ec_zn699, ec_zn932, ec_zn999, ec_znF, ec_zneg, ec_zadd, ec_zsub, ec_zmul, ec_zdivO, ec_em, ec_zltO, ec_zeqO, ec_zeq0, ec_qt, ec_qf, if_pos, if_neg, Int.add_zero, ec_aft_v, ec_aft_n, ec_rwE, ec_rwN, ec_rwP, ec_rwK, ec_rwS, ec_w_shpI, ec_w_shpL, ec_w_shpA, hD, hs, X1, X4, X5, d0, d1, d2, g5, en, sp] at e
          subst e
          rw [ec_qf (show ¬ i = -1 by omega)]
          refine ⟨_, rfl, (F3 _ _ _ _).I ⟨rfl, Or.inl rfl⟩, ?_, fun y => absurd y (by omega)⟩
          rw [if_neg (by omega), ec_rwS]
    · have n1 : ed_nl L T i = 1 := by
        unfold ed_nl
        rw [if_pos q0, if_neg q1]
      rw [n1, if_neg (show ¬ (1 : Int) = 0 by decide), if_pos rfl, e0]
      simp only [ec_qf q1] at d1
      rw [if_neg (fun z : (1 : Int) = 2 ∧ ed_dgt L T (i + 2) => absurd z.1 (by decide))]
      have g5 := fun h => ec_c118 (h := h) (x := T i - 48) (ec_rgs (by omega)) ec_rn1 ec_rn20
      have en : 10 * 0 + T i - 48 = T i - 48 := by omega
      by_cases q3 : 1 ≤ T i - 48 ∧ T i - 48 ≤ 20
      · rw [if_neg (fun z : (1 : Int) ≠ 0 ∧ ¬ (1 ≤ T i - 48 ∧ T i - 48 ≤ 20) => z.2 q3)]
        simp (disch := first | (simp only [ec_w_kI, ec_w_kL, ec_w_kA, ec_w_shpI, ec_w_shpL, ec_w_shpA, ec_isR_r, ec_01z, ec_01o, ec_01q, hD]; done) | omega | (simp only [ec_w_shpI, ec_w_shpL, ec_w_shpA, hD]; refine ec_zinO ?_; omega) | (refine ec_nzO ?_; omega)) only [ec_s192_0, ec_s192_1, ec_s192_4, ec_s192_5, ec_s192_6, ec_s192_7, ec_s192_11, ec_s192_14, ec_s192_15, ec_s192_16, ec_s192_17, ec_s192_20, ec_s192_21, ec_s192_24, ec_s192_27, ec_s192_28, ec_s192_30, ec_s192_31, ec_s192_34, ec_s192_35, ec_s192_36, ec_s192_39, ec_s192_40, ec_s192_43, ec_s192_44, ec_s192_45, ec_s192_47, ec_s192_48, ec_s192_51, ec_s192_52, ec_s192_53, ec_s192_56, ec_s192_57, ec_s192_58, ec_s192_61, ec_s192_64, ec_s192_65, ec_s192_68, ec_s192_71, ec_s192_72, ec_s192_73, ec_s192_74, ec_s192_77, ec_s192_78, ec_s192_81, ec_s192_82, ec_s192_83, ec_s192_86, ec_s192_87, ec_s192_88, ec_s192_89, ec_s192_92, ec_s192_93, ec_s192_95, ec_s192_98, ec_s192_99, ec_s192_100, ec_s192_101, ec_s192_104, ec_s192_105, ec_s192_108, ec_s192_111, ec_s192_112, ec_s192_115, ec_s192_116, ec_s192_10, ec_zn0, ec_zn1, ec_zn2, ec_zn3, ec_zn4, ec_zn5, ec_zn6, ec_zn7, ec_zn8, ec_zn9, ec_zn10, ec_zn12, ec_zn13, ec_zn14, ec_zn15, ec_zn16, ec_zn20, ec_zn30, ec_zn48, ec_zn99, ec_zn120, ec_zn127, ec_zn11, ec_zn31, ec_zn46, ec_zn57, ec_zn59, ec_zn63, ec_zn101, ec_zn107, ec_zn108, ec_zn110, ec_zn111, ec_zn115, ec_zn116, ec_zn119, ec_zn167, ec_zn185, ec_zn192, ec_zn215, ec_zn233, ec_zn699, ec_zn932, ec_zn999, ec_znF, ec_zneg, ec_zadd, ec_zsub, ec_zmul, ec_zdivO, ec_em, ec_zltO, ec_zeqO, ec_zeq0, ec_qt, ec_qf, if_pos, if_neg, Int.add_zero, ec_aft_v, ec_aft_n, ec_rwE, ec_rwN, ec_rwP, ec_rwK, ec_rwS, ec_w_shpI, ec_w_shpL, ec_w_shpA, hD, hs, X1, X4, d0, d1, g5, en] at e
        subst e
        rw [ec_qt rfl]
        refine ⟨_, rfl, (F2 _ _).I ⟨rfl, Or.inl rfl⟩, ?_, fun _ => ?_⟩
        · rw [if_pos rfl, ec_rwS]
        · rw [ec_rwK (by decide), ec_rwK (by decide), ec_rwS]
      · rw [if_pos (show (1 : Int) ≠ 0 ∧ ¬ (1 ≤ T i - 48 ∧ T i - 48 ≤ 20) from ⟨by decide, q3⟩)]
        simp (disch := first | (simp only [ec_w_kI, ec_w_kL, ec_w_kA, ec_w_shpI, ec_w_shpL, ec_w_shpA, ec_isR_r, ec_01z, ec_01o, ec_01q, hD]; done) | omega | (simp only [ec_w_shpI, ec_w_shpL, ec_w_shpA, hD]; refine ec_zinO ?_; omega) | (refine ec_nzO ?_; omega)) only [ec_s192_0, ec_s192_1, ec_s192_4, ec_s192_5, ec_s192_6, ec_s192_7, ec_s192_11, ec_s192_14, ec_s192_15, ec_s192_16, ec_s192_17, ec_s192_20, ec_s192_21, ec_s192_24, ec_s192_27, ec_s192_28, ec_s192_30, ec_s192_31, ec_s192_34, ec_s192_35, ec_s192_36, ec_s192_39, ec_s192_40, ec_s192_43, ec_s192_44, ec_s192_45, ec_s192_47, ec_s192_48, ec_s192_51, ec_s192_52, ec_s192_53, ec_s192_56, ec_s192_57, ec_s192_58, ec_s192_61, ec_s192_64, ec_s192_65, ec_s192_68, ec_s192_71, ec_s192_72, ec_s192_73, ec_s192_74, ec_s192_77, ec_s192_78, ec_s192_81, ec_s192_82, ec_s192_83, ec_s192_86, ec_s192_87, ec_s192_88, ec_s192_89, ec_s192_92, ec_s192_93, ec_s192_95, ec_s192_98, ec_s192_99, ec_s192_100, ec_s192_101, ec_s192_104, ec_s192_105, ec_s192_108, ec_s192_111, ec_s192_112, ec_s192_115, ec_s192_116, ec_s192_10, ec_zn0, ec_zn1, ec_zn2, ec_zn3, ec_zn4, ec_zn5, ec_zn6, ec_zn7, ec_zn8, ec_zn9, ec_zn10, ec_zn12, ec_zn13, ec_zn14, ec_zn15, ec_zn16, ec_zn20, ec_zn30, ec_zn48, ec_zn99, ec_zn120, ec_zn127, ec_zn11, ec_zn31, ec_zn46, ec_zn57, ec_zn59, ec_zn63, ec_zn101, ec_zn107, ec_zn108, ec_zn110, ec_zn111, ec_zn115, ec_zn116, ec_zn119, ec_zn167, ec_zn185, ec_zn192, ec_zn215, ec_zn233, ec_zn699, ec_zn932, ec_zn999, ec_znF, ec_zneg, ec_zadd, ec_zsub, ec_zmul, ec_zdivO, ec_em, ec_zltO, ec_zeqO, ec_zeq0, ec_qt, ec_qf, if_pos, if_neg, Int.add_zero, ec_aft_v, ec_aft_n, ec_rwE, ec_rwN, ec_rwP, ec_rwK, ec_rwS, ec_w_shpI, ec_w_shpL, ec_w_shpA, hD, hs, X1, X4, d0, d1, g5, en] at e
        subst e
        rw [ec_qf (show ¬ i = -1 by omega)]
        refine ⟨_, rfl, (F2 _ _).I ⟨rfl, Or.inl rfl⟩, ?_, fun y => absurd y (by omega)⟩
        rw [if_neg (by omega), ec_rwS]
  · have n0 : ed_nl L T i = 0 := by
      unfold ed_nl
      rw [if_neg q0]
    rw [n0, if_pos rfl, if_neg (fun z : (0 : Int) = 2 ∧ ed_dgt L T (i + 2) => absurd z.1 (by decide)), if_neg (fun z : (0 : Int) ≠ 0 ∧ ¬ (1 ≤ (1 : Int) ∧ (1 : Int) ≤ 20) => z.1 rfl)]
    rw [ec_qf q0] at d0
    simp (disch := first | (simp only [ec_w_kI, ec_w_kL, ec_w_kA, ec_w_shpI, ec_w_shpL, ec_w_shpA, ec_isR_r, ec_01z, ec_01o, ec_01q, hD]; done) | omega | (simp only [ec_w_shpI, ec_w_shpL, ec_w_shpA, hD]; refine ec_zinO ?_; omega) | (refine ec_nzO ?_; omega)) only [ec_s192_0, ec_s192_1, ec_s192_4, ec_s192_5, ec_s192_6, ec_s192_7, ec_s192_11, ec_s192_14, ec_s192_15, ec_s192_16, ec_s192_17, ec_s192_20, ec_s192_21, ec_s192_24, ec_s192_27, ec_s192_28, ec_s192_30, ec_s192_31, ec_s192_34, ec_s192_35, ec_s192_36, ec_s192_39, ec_s192_40, ec_s192_43, ec_s192_44, ec_s192_45, ec_s192_47, ec_s192_48, ec_s192_51, ec_s192_52, ec_s192_53, ec_s192_56, ec_s192_57, ec_s192_58, ec_s192_61, ec_s192_64, ec_s192_65, ec_s192_68, ec_s192_71, ec_s192_72, ec_s192_73, ec_s192_74, ec_s192_77, ec_s192_78, ec_s192_81, ec_s192_82, ec_s192_83, ec_s192_86, ec_s192_87, ec_s192_88, ec_s192_89, ec_s192_92, ec_s192_93, ec_s192_95, ec_s192_98, ec_s192_99, ec_s192_100, ec_s192_101, ec_s192_104, ec_s192_105, ec_s192_108, ec_s192_111, ec_s192_112, ec_s192_115, ec_s192_116, ec_s192_10, ec_zn0, ec_zn1, ec_zn2, ec_zn3, ec_zn4, ec_zn5, ec_zn6, ec_zn7, ec_zn8, ec_zn9, ec_zn10, ec_zn12, ec_zn13, ec_zn14, ec_zn15, ec_zn16, ec_zn20, ec_zn30, ec_zn48, ec_zn99, ec_zn120, ec_zn127, ec_zn11, ec_zn31, ec_zn46, ec_zn57, ec_zn59, ec_zn63, ec_zn101, ec_zn107, ec_zn108, ec_zn110, ec_zn111, ec_zn115, ec_zn116, ec_zn119, ec_zn167, ec_zn185, ec_zn192, ec_zn215, ec_zn233, ec_zn699, ec_zn932, ec_zn999, ec_znF, ec_zneg, ec_zadd, ec_zsub, ec_zmul, ec_zdivO, ec_em, ec_zltO, ec_zeqO, ec_zeq0, ec_qt, ec_qf, if_pos, if_neg, Int.add_zero, ec_aft_v, ec_aft_n, ec_rwE, ec_rwN, ec_rwP, ec_rwK, ec_rwS, ec_w_shpI, ec_w_shpL, ec_w_shpA, hD, hs, X1, X4, d0] at e
    subst e
    rw [ec_qt rfl]
    refine ⟨_, rfl, (F1 _).I ⟨rfl, Or.inr (Or.inl rfl)⟩, ?_, fun _ => ?_⟩
    · rw [if_pos rfl, ec_rwK (by decide), ec_rwK (by decide), hs, Int.add_zero]
    · rw [ec_rwS]
