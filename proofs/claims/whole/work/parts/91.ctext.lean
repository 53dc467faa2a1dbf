/-! The class's text: reading. -/
abbrev ed_Rc : Nat → Nat → Prop := fun q j => q = 70 ∧ 2 ≤ j
theorem ed_TC.Rc {h h' : ec_Hp} {L : Int} {T : Int → Int} (X : ed_TC h L T) (a : ec_fg ed_Rc h h') : ed_TC h' L T := X.fg a (by decide) (fun _ y => absurd y.1 (by decide))
theorem ed_chc_rg {h : ec_Hp} {L : Int} {T : Int → Int} (X : ed_TC h L T) {i : Int} (hi : 0 ≤ i) : -1 ≤ ed_ch L T i ∧ ed_ch L T i ≤ 127 := by
  unfold ed_ch
  split
  · have := (X.2.2 i (by omega)).2
    omega
  · omega
theorem ec_c8s {h : ec_Hp} (K : ed_CD h) {L : Int} {T : Int → Int} (X : ed_TC h L T) {i : Int} (hi : 0 ≤ i ∧ i ≤ 200) : ec_om 8 0 [.ref 70, .int (ec_i i)] [] h = some (.inl (some (.int (ec_i (ed_ch L T i)))), h) := by
  have X1 := X.1
  have X2 := X.2.1
  have hD := K
  unfold ed_CD at hD
  unfold ed_ch
  by_cases q : i < L
  · have X4 := (X.2.2 i (by omega)).1
    rw [if_pos q]
    simp (disch := first | (simp only [ec_w_kI, ec_w_kL, ec_w_kA, ec_w_shpI, ec_w_shpL, ec_w_shpA, ec_isR_r, ec_01z, ec_01o, ec_01q, hD]; done) | omega | (simp only [ec_w_shpI, ec_w_shpL, ec_w_shpA, hD]; refine ec_zinO ?_; omega) | (refine ec_nzO ?_; omega)) only [ec_s8_0, ec_s8_1, ec_s8_4, ec_s8_5, ec_s8_6, ec_s8_9, ec_s8_12, ec_s8_13, ec_s8_15, ec_s8_18, ec_s8_19, ec_s8_22, ec_s8_23, ec_s8_24, ec_s8_27, ec_s8_28, ec_zn0, ec_zn1, ec_zn2, ec_zn3, ec_zn4, ec_zn5, ec_zn6, ec_zn7, ec_zn8, ec_zn9, ec_zn10, ec_zn12, ec_zn13, ec_zn14, ec_zn15, ec_zn16, ec_zn20, ec_zn30, ec_zn48, ec_zn99, ec_zn120, ec_zn127, ec_zn11, ec_zn31, ec_zn46, ec_zn57, ec_zn59, ec_zn63, ec_zn101, ec_zn107, ec_zn108, ec_zn110, ec_zn111, ec_zn115, ec_zn116, ec_zn119, ec_zn167, ec_zn185, ec_zn192, ec_zn215, ec_zn233, ec_zn699, ec_zn932, ec_zn999, ec_znF, ec_zneg, ec_zadd, ec_zsub, ec_zmul, ec_zdivO, ec_em, ec_zltO, ec_zeqO, ec_zeq0, ec_qt, ec_qf, if_pos, if_neg, Int.add_zero, ec_aft_v, ec_aft_n, ec_rwE, ec_rwN, ec_rwP, ec_rwK, ec_rwS, ec_w_shpI, ec_w_shpL, ec_w_shpA, hD, X1, X4]
  · rw [if_neg q]
    simp (disch := first | (simp only [ec_w_kI, ec_w_kL, ec_w_kA, ec_w_shpI, ec_w_shpL, ec_w_shpA, ec_isR_r, ec_01z, ec_01o, ec_01q, hD]; done) | omega | (simp only [ec_w_shpI, ec_w_shpL, ec_w_shpA, hD]; refine ec_zinO ?_; omega) | (refine ec_nzO ?_; omega)) only [ec_s8_0, ec_s8_1, ec_s8_4, ec_s8_5, ec_s8_6, ec_s8_9, ec_s8_12, ec_s8_13, ec_s8_15, ec_s8_18, ec_s8_19, ec_s8_22, ec_s8_23, ec_s8_24, ec_s8_27, ec_s8_28, ec_zn0, ec_zn1, ec_zn2, ec_zn3, ec_zn4, ec_zn5, ec_zn6, ec_zn7, ec_zn8, ec_zn9, ec_zn10, ec_zn12, ec_zn13, ec_zn14, ec_zn15, ec_zn16, ec_zn20, ec_zn30, ec_zn48, ec_zn99, ec_zn120, ec_zn127, ec_zn11, ec_zn31, ec_zn46, ec_zn57, ec_zn59, ec_zn63, ec_zn101, ec_zn107, ec_zn108, ec_zn110, ec_zn111, ec_zn115, ec_zn116, ec_zn119, ec_zn167, ec_zn185, ec_zn192, ec_zn215, ec_zn233, ec_zn699, ec_zn932, ec_zn999, ec_znF, ec_zneg, ec_zadd, ec_zsub, ec_zmul, ec_zdivO, ec_em, ec_zltO, ec_zeqO, ec_zeq0, ec_qt, ec_qf, if_pos, if_neg, Int.add_zero, ec_aft_v, ec_aft_n, ec_rwE, ec_rwN, ec_rwP, ec_rwK, ec_rwS, ec_w_shpI, ec_w_shpL, ec_w_shpA, hD, X1]
theorem ec_c7s {h : ec_Hp} (K : ed_CD h) {L : Int} {T : Int → Int} (X : ed_TC h L T) {i : Int} (hi : 0 ≤ i ∧ i ≤ 200) : ec_om 7 0 [.ref 70, .int (ec_i i), .double 0] [] h = some (.inl (some (.int (ec_i (ec_q (ed_dgt L T i))))), h) := by
  have g := ec_c8s K X hi
  have r := ed_chc_rg X hi.1
  have hD := K
  unfold ed_CD at hD
  unfold ed_dgt
  generalize ed_ch L T i = c at g r ⊢
  by_cases q1 : c < 48
  · rw [ec_qf (by omega)]
    simp (disch := first | (simp only [ec_w_kI, ec_w_kL, ec_w_kA, ec_w_shpI, ec_w_shpL, ec_w_shpA, ec_isR_r, ec_01z, ec_01o, ec_01q, hD]; done) | omega | (simp only [ec_w_shpI, ec_w_shpL, ec_w_shpA, hD]; refine ec_zinO ?_; omega) | (refine ec_nzO ?_; omega)) only [ec_s7_0, ec_s7_1, ec_s7_2, ec_s7_5, ec_s7_6, ec_s7_7, ec_s7_9, ec_s7_12, ec_s7_13, ec_s7_15, ec_s7_18, ec_s7_19, ec_s7_22, ec_s7_23, ec_zn0, ec_zn1, ec_zn2, ec_zn3, ec_zn4, ec_zn5, ec_zn6, ec_zn7, ec_zn8, ec_zn9, ec_zn10, ec_zn12, ec_zn13, ec_zn14, ec_zn15, ec_zn16, ec_zn20, ec_zn30, ec_zn48, ec_zn99, ec_zn120, ec_zn127, ec_zn11, ec_zn31, ec_zn46, ec_zn57, ec_zn59, ec_zn63, ec_zn101, ec_zn107, ec_zn108, ec_zn110, ec_zn111, ec_zn115, ec_zn116, ec_zn119, ec_zn167, ec_zn185, ec_zn192, ec_zn215, ec_zn233, ec_zn699, ec_zn932, ec_zn999, ec_znF, ec_zneg, ec_zadd, ec_zsub, ec_zmul, ec_zdivO, ec_em, ec_zltO, ec_zeqO, ec_zeq0, ec_qt, ec_qf, if_pos, if_neg, Int.add_zero, ec_aft_v, ec_aft_n, ec_rwE, ec_rwN, ec_rwP, ec_rwK, ec_rwS, ec_w_shpI, ec_w_shpL, ec_w_shpA, hD, g]
  · by_cases q2 : 57 < c
    · rw [ec_qf (by omega)]
      simp (disch := first | (simp only [ec_w_kI, ec_w_kL, ec_w_kA, ec_w_shpI, ec_w_shpL, ec_w_shpA, ec_isR_r, ec_01z, ec_01o, ec_01q, hD]; done) | omega | (simp only [ec_w_shpI, ec_w_shpL, ec_w_shpA, hD]; refine ec_zinO ?_; omega) | (refine ec_nzO ?_; omega)) only [ec_s7_0, ec_s7_1, ec_s7_2, ec_s7_5, ec_s7_6, ec_s7_7, ec_s7_9, ec_s7_12, ec_s7_13, ec_s7_15, ec_s7_18, ec_s7_19, ec_s7_22, ec_s7_23, ec_zn0, ec_zn1, ec_zn2, ec_zn3, ec_zn4, ec_zn5, ec_zn6, ec_zn7, ec_zn8, ec_zn9, ec_zn10, ec_zn12, ec_zn13, ec_zn14, ec_zn15, ec_zn16, ec_zn20, ec_zn30, ec_zn48, ec_zn99, ec_zn120, ec_zn127, ec_zn11, ec_zn31, ec_zn46, ec_zn57, ec_zn59, ec_zn63, ec_zn101, ec_zn107, ec_zn108, ec_zn110, ec_zn111, ec_zn115, ec_zn116, ec_zn119, ec_zn167, ec_zn185, ec_zn192, ec_zn215, ec_zn233, ec_zn699, ec_zn932, ec_zn999, ec_znF, ec_zneg, ec_zadd, ec_zsub, ec_zmul, ec_zdivO, ec_em, ec_zltO, ec_zeqO, ec_zeq0, ec_qt, ec_qf, if_pos, if_neg, Int.add_zero, ec_aft_v, ec_aft_n, ec_rwE, ec_rwN, ec_rwP, ec_rwK, ec_rwS, ec_w_shpI, ec_w_shpL, ec_w_shpA, hD, g]
    · rw [ec_qt (by omega)]
      simp (disch := first | (simp only [ec_w_kI, ec_w_kL, ec_w_kA, ec_w_shpI, ec_w_shpL, ec_w_shpA, ec_isR_r, ec_01z, ec_01o, ec_01q, hD]; done) | omega | (simp only [ec_w_shpI, ec_w_shpL, ec_w_shpA, hD]; refine ec_zinO ?_; omega) | (refine ec_nzO ?_; omega)) only [ec_s7_0, ec_s7_1, ec_s7_2, ec_s7_5, ec_s7_6, ec_s7_7, ec_s7_9, ec_s7_12, ec_s7_13, ec_s7_15, ec_s7_18, ec_s7_19, ec_s7_22, ec_s7_23, ec_zn0, ec_zn1, ec_zn2, ec_zn3, ec_zn4, ec_zn5, ec_zn6, ec_zn7, ec_zn8, ec_zn9, ec_zn10, ec_zn12, ec_zn13, ec_zn14, ec_zn15, ec_zn16, ec_zn20, ec_zn30, ec_zn48, ec_zn99, ec_zn120, ec_zn127, ec_zn11, ec_zn31, ec_zn46, ec_zn57, ec_zn59, ec_zn63, ec_zn101, ec_zn107, ec_zn108, ec_zn110, ec_zn111, ec_zn115, ec_zn116, ec_zn119, ec_zn167, ec_zn185, ec_zn192, ec_zn215, ec_zn233, ec_zn699, ec_zn932, ec_zn999, ec_znF, ec_zneg, ec_zadd, ec_zsub, ec_zmul, ec_zdivO, ec_em, ec_zltO, ec_zeqO, ec_zeq0, ec_qt, ec_qf, if_pos, if_neg, Int.add_zero, ec_aft_v, ec_aft_n, ec_rwE, ec_rwN, ec_rwP, ec_rwK, ec_rwS, ec_w_shpI, ec_w_shpL, ec_w_shpA, hD, g]
theorem ec_c10s {h : ec_Hp} {c : Int} (hc : -1 ≤ c ∧ c ≤ 127) : ec_om 10 0 [.int (ec_i c)] [] h = some (.inl (some (.int (ec_i (ed_dof c)))), h) := by
  unfold ed_dof
  have k1 : (110 : Int32) = ec_i 110 := rfl
  have k2 : (101 : Int32) = ec_i 101 := rfl
  have k3 : (115 : Int32) = ec_i 115 := rfl
  have k4 : (119 : Int32) = ec_i 119 := rfl
  by_cases q1 : c = 110
  · rw [if_pos q1]; simp (disch := first | (simp only [ec_01z, ec_01o, ec_01q]; done) | omega | (refine ec_nzO ?_; omega)) only [ec_s10_0, ec_s10_1, ec_s10_44, ec_s10_45, ec_s10_46, ec_s10_47, ec_s10_48, ec_s10_49, ec_s10_50, ec_s10_51, ec_s10_52, ec_s10_53, ec_zn0, ec_zn1, ec_zn2, ec_zn3, ec_zn4, ec_zn5, ec_zn6, ec_zn7, ec_zn8, ec_zn9, ec_zn10, ec_zn12, ec_zn13, ec_zn14, ec_zn15, ec_zn16, ec_zn20, ec_zn30, ec_zn48, ec_zn99, ec_zn120, ec_zn127, ec_zn11, ec_zn31, ec_zn46, ec_zn57, ec_zn59, ec_zn63, ec_zn101, ec_zn107, ec_zn108, ec_zn110, ec_zn111, ec_zn115, ec_zn116, ec_zn119, ec_zn167, ec_zn185, ec_zn192, ec_zn215, ec_zn233, ec_zn699, ec_zn932, ec_zn999, ec_znF, ec_zneg, ec_zadd, ec_zsub, ec_zmul, ec_zdivO, ec_em, ec_zltO, ec_zeqO, ec_zeq0, ec_qt, ec_qf, if_pos, if_neg, Int.add_zero, ec_aft_v, ec_aft_n, ec_rwE, ec_rwN, ec_rwP, ec_rwK, ec_rwS, ec_w_shpI, ec_w_shpL, ec_w_shpA, k1, k2, k3, k4]
  · rw [if_neg q1]
    by_cases q2 : c = 101
    · rw [if_pos q2]; simp (disch := first | (simp only [ec_01z, ec_01o, ec_01q]; done) | omega | (refine ec_nzO ?_; omega)) only [ec_s10_0, ec_s10_1, ec_s10_44, ec_s10_45, ec_s10_46, ec_s10_47, ec_s10_48, ec_s10_49, ec_s10_50, ec_s10_51, ec_s10_52, ec_s10_53, ec_zn0, ec_zn1, ec_zn2, ec_zn3, ec_zn4, ec_zn5, ec_zn6, ec_zn7, ec_zn8, ec_zn9, ec_zn10, ec_zn12, ec_zn13, ec_zn14, ec_zn15, ec_zn16, ec_zn20, ec_zn30, ec_zn48, ec_zn99, ec_zn120, ec_zn127, ec_zn11, ec_zn31, ec_zn46, ec_zn57, ec_zn59, ec_zn63, ec_zn101, ec_zn107, ec_zn108, ec_zn110, ec_zn111, ec_zn115, ec_zn116, ec_zn119, ec_zn167, ec_zn185, ec_zn192, ec_zn215, ec_zn233, ec_zn699, ec_zn932, ec_zn999, ec_znF, ec_zneg, ec_zadd, ec_zsub, ec_zmul, ec_zdivO, ec_em, ec_zltO, ec_zeqO, ec_zeq0, ec_qt, ec_qf, if_pos, if_neg, Int.add_zero, ec_aft_v, ec_aft_n, ec_rwE, ec_rwN, ec_rwP, ec_rwK, ec_rwS, ec_w_shpI, ec_w_shpL, ec_w_shpA, k1, k2, k3, k4]
    · rw [if_neg q2]
      by_cases q3 : c = 115
      · rw [if_pos q3]; simp (disch := first | (simp only [ec_01z, ec_01o, ec_01q]; done) | omega | (refine ec_nzO ?_; omega)) only [ec_s10_0, ec_s10_1, ec_s10_44, ec_s10_45, ec_s10_46, ec_s10_47, ec_s10_48, ec_s10_49, ec_s10_50, ec_s10_51, ec_s10_52, ec_s10_53, ec_zn0, ec_zn1, ec_zn2, ec_zn3, ec_zn4, ec_zn5, ec_zn6, ec_zn7, ec_zn8, ec_zn9, ec_zn10, ec_zn12, ec_zn13, ec_zn14, ec_zn15, ec_zn16, ec_zn20, ec_zn30, ec_zn48, ec_zn99, ec_zn120, ec_zn127, ec_zn11, ec_zn31, ec_zn46, ec_zn57, ec_zn59, ec_zn63, ec_zn101, ec_zn107, ec_zn108, ec_zn110, ec_zn111, ec_zn115, ec_zn116, ec_zn119, ec_zn167, ec_zn185, ec_zn192, ec_zn215, ec_zn233, ec_zn699, ec_zn932, ec_zn999, ec_znF, ec_zneg, ec_zadd, ec_zsub, ec_zmul, ec_zdivO, ec_em, ec_zltO, ec_zeqO, ec_zeq0, ec_qt, ec_qf, if_pos, if_neg, Int.add_zero, ec_aft_v, ec_aft_n, ec_rwE, ec_rwN, ec_rwP, ec_rwK, ec_rwS, ec_w_shpI, ec_w_shpL, ec_w_shpA, k1, k2, k3, k4]
      · rw [if_neg q3]
        by_cases q4 : c = 119
        · rw [if_pos q4]; simp (disch := first | (simp only [ec_01z, ec_01o, ec_01q]; done) | omega | (refine ec_nzO ?_; omega)) only [ec_s10_0, ec_s10_1, ec_s10_44, ec_s10_45, ec_s10_46, ec_s10_47, ec_s10_48, ec_s10_49, ec_s10_50, ec_s10_51, ec_s10_52, ec_s10_53, ec_zn0, ec_zn1, ec_zn2, ec_zn3, ec_zn4, ec_zn5, ec_zn6, ec_zn7, ec_zn8, ec_zn9, ec_zn10, ec_zn12, ec_zn13, ec_zn14, ec_zn15, ec_zn16, ec_zn20, ec_zn30, ec_zn48, ec_zn99, ec_zn120, ec_zn127, ec_zn11, ec_zn31, ec_zn46, ec_zn57, ec_zn59, ec_zn63, ec_zn101, ec_zn107, ec_zn108, ec_zn110, ec_zn111, ec_zn115, ec_zn116, ec_zn119, ec_zn167, ec_zn185, ec_zn192, ec_zn215, ec_zn233, ec_zn699, ec_zn932, ec_zn999, ec_znF, ec_zneg, ec_zadd, ec_zsub, ec_zmul, ec_zdivO, ec_em, ec_zltO, ec_zeqO, ec_zeq0, ec_qt, ec_qf, if_pos, if_neg, Int.add_zero, ec_aft_v, ec_aft_n, ec_rwE, ec_rwN, ec_rwP, ec_rwK, ec_rwS, ec_w_shpI, ec_w_shpL, ec_w_shpA, k1, k2, k3, k4]
        · rw [if_neg q4]; simp (disch := first | (simp only [ec_01z, ec_01o, ec_01q]; done) | omega | (refine ec_nzO ?_; omega)) only [ec_s10_0, ec_s10_1, ec_s10_44, ec_s10_45, ec_s10_46, ec_s10_47, ec_s10_48, ec_s10_49, ec_s10_50, ec_s10_51, ec_s10_52, ec_s10_53, ec_zn0, ec_zn1, ec_zn2, ec_zn3, ec_zn4, ec_zn5, ec_zn6, ec_zn7, ec_zn8, ec_zn9, ec_zn10, ec_zn12, ec_zn13, ec_zn14, ec_zn15, ec_zn16, ec_zn20, ec_zn30, ec_zn48, ec_zn99, ec_zn120, ec_zn127, ec_zn11, ec_zn31, ec_zn46, ec_zn57, ec_zn59, ec_zn63, ec_zn101, ec_zn107, ec_zn108, ec_zn110, ec_zn111, ec_zn115, ec_zn116, ec_zn119, ec_zn167, ec_zn185, ec_zn192, ec_zn215, ec_zn233, ec_zn699, ec_zn932, ec_zn999, ec_znF, ec_zneg, ec_zadd, ec_zsub, ec_zmul, ec_zdivO, ec_em, ec_zltO, ec_zeqO, ec_zeq0, ec_qt, ec_qf, if_pos, if_neg, Int.add_zero, ec_aft_v, ec_aft_n, ec_rwE, ec_rwN, ec_rwP, ec_rwK, ec_rwS, ec_w_shpI, ec_w_shpL, ec_w_shpA, k1, k2, k3, k4]
def ed_sng (c : Int) : Int := if ed_dof c ≠ -1 then ed_dof c else if c = 46 then 12 else if c = 108 then 13 else if c = 120 then 14 else if c = 116 then 15 else -1
theorem ec_c9s {h : ec_Hp} {c : Int} (hc : -1 ≤ c ∧ c ≤ 127) : ec_om 9 0 [.int (ec_i c)] [] h = some (.inl (some (.int (ec_i (ed_sng c)))), h) := by
  have g := fun h => ec_c10s (h := h) hc
  have k1 : (46 : Int32) = ec_i 46 := rfl
  have k2 : (108 : Int32) = ec_i 108 := rfl
  have k3 : (116 : Int32) = ec_i 116 := rfl
  have k4 : (120 : Int32) = ec_i 120 := rfl
  by_cases q1 : c = 46
  · rw [show ed_sng c = 12 by rw [q1]; decide]
    simp (disch := first | (simp only [ec_01z, ec_01o, ec_01q]; done) | omega | (refine ec_nzO ?_; omega)) only [ec_s9_0, ec_s9_1, ec_s9_44, ec_s9_46, ec_s9_47, ec_s9_49, ec_s9_50, ec_s9_52, ec_s9_53, ec_s9_55, ec_s9_56, ec_s9_57, ec_s9_60, ec_zn0, ec_zn1, ec_zn2, ec_zn3, ec_zn4, ec_zn5, ec_zn6, ec_zn7, ec_zn8, ec_zn9, ec_zn10, ec_zn12, ec_zn13, ec_zn14, ec_zn15, ec_zn16, ec_zn20, ec_zn30, ec_zn48, ec_zn99, ec_zn120, ec_zn127, ec_zn11, ec_zn31, ec_zn46, ec_zn57, ec_zn59, ec_zn63, ec_zn101, ec_zn107, ec_zn108, ec_zn110, ec_zn111, ec_zn115, ec_zn116, ec_zn119, ec_zn167, ec_zn185, ec_zn192, ec_zn215, ec_zn233, ec_zn699, ec_zn932, ec_zn999, ec_znF, ec_zneg, ec_zadd, ec_zsub, ec_zmul, ec_zdivO, ec_em, ec_zltO, ec_zeqO, ec_zeq0, ec_qt, ec_qf, if_pos, if_neg, Int.add_zero, ec_aft_v, ec_aft_n, ec_rwE, ec_rwN, ec_rwP, ec_rwK, ec_rwS, ec_w_shpI, ec_w_shpL, ec_w_shpA, k1, k2, k3, k4]
  · by_cases q2 : c = 108
    · rw [show ed_sng c = 13 by rw [q2]; decide]
      simp (disch := first | (simp only [ec_01z, ec_01o, ec_01q]; done) | omega | (refine ec_nzO ?_; omega)) only [ec_s9_0, ec_s9_1, ec_s9_44, ec_s9_46, ec_s9_47, ec_s9_49, ec_s9_50, ec_s9_52, ec_s9_53, ec_s9_55, ec_s9_56, ec_s9_57, ec_s9_60, ec_zn0, ec_zn1, ec_zn2, ec_zn3, ec_zn4, ec_zn5, ec_zn6, ec_zn7, ec_zn8, ec_zn9, ec_zn10, ec_zn12, ec_zn13, ec_zn14, ec_zn15, ec_zn16, ec_zn20, ec_zn30, ec_zn48, ec_zn99, ec_zn120, ec_zn127, ec_zn11, ec_zn31, ec_zn46, ec_zn57, ec_zn59, ec_zn63, ec_zn101, ec_zn107, ec_zn108, ec_zn110, ec_zn111, ec_zn115, ec_zn116, ec_zn119, ec_zn167, ec_zn185, ec_zn192, ec_zn215, ec_zn233, ec_zn699, ec_zn932, ec_zn999, ec_znF, ec_zneg, ec_zadd, ec_zsub, ec_zmul, ec_zdivO, ec_em, ec_zltO, ec_zeqO, ec_zeq0, ec_qt, ec_qf, if_pos, if_neg, Int.add_zero, ec_aft_v, ec_aft_n, ec_rwE, ec_rwN, ec_rwP, ec_rwK, ec_rwS, ec_w_shpI, ec_w_shpL, ec_w_shpA, k1, k2, k3, k4]
    · by_cases q3 : c = 116
      · rw [show ed_sng c = 15 by rw [q3]; decide]
        simp (disch := first | (simp only [ec_01z, ec_01o, ec_01q]; done) | omega | (refine ec_nzO ?_; omega)) only [ec_s9_0, ec_s9_1, ec_s9_44, ec_s9_46, ec_s9_47, ec_s9_49, ec_s9_50, ec_s9_52, ec_s9_53, ec_s9_55, ec_s9_56, ec_s9_57, ec_s9_60, ec_zn0, ec_zn1, ec_zn2, ec_zn3, ec_zn4, ec_zn5, ec_zn6, ec_zn7, ec_zn8, ec_zn9, ec_zn10, ec_zn12, ec_zn13, ec_zn14, ec_zn15, ec_zn16, ec_zn20, ec_zn30, ec_zn48, ec_zn99, ec_zn120, ec_zn127, ec_zn11, ec_zn31, ec_zn46, ec_zn57, ec_zn59, ec_zn63, ec_zn101, ec_zn107, ec_zn108, ec_zn110, ec_zn111, ec_zn115, ec_zn116, ec_zn119, ec_zn167, ec_zn185, ec_zn192, ec_zn215, ec_zn233, ec_zn699, ec_zn932, ec_zn999, ec_znF, ec_zneg, ec_zadd, ec_zsub, ec_zmul, ec_zdivO, ec_em, ec_zltO, ec_zeqO, ec_zeq0, ec_qt, ec_qf, if_pos, if_neg, Int.add_zero, ec_aft_v, ec_aft_n, ec_rwE, ec_rwN, ec_rwP, ec_rwK, ec_rwS, ec_w_shpI, ec_w_shpL, ec_w_shpA, k1, k2, k3, k4]
      · by_cases q4 : c = 120
        · rw [show ed_sng c = 14 by rw [q4]; decide]
          simp (disch := first | (simp only [ec_01z, ec_01o, ec_01q]; done) | omega | (refine ec_nzO ?_; omega)) only [ec_s9_0, ec_s9_1, ec_s9_44, ec_s9_46, ec_s9_47, ec_s9_49, ec_s9_50, ec_s9_52, ec_s9_53, ec_s9_55, ec_s9_56, ec_s9_57, ec_s9_60, ec_zn0, ec_zn1, ec_zn2, ec_zn3, ec_zn4, ec_zn5, ec_zn6, ec_zn7, ec_zn8, ec_zn9, ec_zn10, ec_zn12, ec_zn13, ec_zn14, ec_zn15, ec_zn16, ec_zn20, ec_zn30, ec_zn48, ec_zn99, ec_zn120, ec_zn127, ec_zn11, ec_zn31, ec_zn46, ec_zn57, ec_zn59, ec_zn63, ec_zn101, ec_zn107, ec_zn108, ec_zn110, ec_zn111, ec_zn115, ec_zn116, ec_zn119, ec_zn167, ec_zn185, ec_zn192, ec_zn215, ec_zn233, ec_zn699, ec_zn932, ec_zn999, ec_znF, ec_zneg, ec_zadd, ec_zsub, ec_zmul, ec_zdivO, ec_em, ec_zltO, ec_zeqO, ec_zeq0, ec_qt, ec_qf, if_pos, if_neg, Int.add_zero, ec_aft_v, ec_aft_n, ec_rwE, ec_rwN, ec_rwP, ec_rwK, ec_rwS, ec_w_shpI, ec_w_shpL, ec_w_shpA, k1, k2, k3, k4]
        · have e : ed_sng c = ed_dof c := by
            unfold ed_sng
            rw [if_neg q1, if_neg q2, if_neg q4, if_neg q3]
            split <;> omega
          rw [e]
          simp (disch := first | (simp only [ec_01z, ec_01o, ec_01q]; done) | omega | (refine ec_nzO ?_; omega)) only [ec_s9_0, ec_s9_1, ec_s9_44, ec_s9_46, ec_s9_47, ec_s9_49, ec_s9_50, ec_s9_52, ec_s9_53, ec_s9_55, ec_s9_56, ec_s9_57, ec_s9_60, ec_zn0, ec_zn1, ec_zn2, ec_zn3, ec_zn4, ec_zn5, ec_zn6, ec_zn7, ec_zn8, ec_zn9, ec_zn10, ec_zn12, ec_zn13, ec_zn14, ec_zn15, ec_zn16, ec_zn20, ec_zn30, ec_zn48, ec_zn99, ec_zn120, ec_zn127, ec_zn11, ec_zn31, ec_zn46, ec_zn57, ec_zn59, ec_zn63, ec_zn101, ec_zn107, ec_zn108, ec_zn110, ec_zn111, ec_zn115, ec_zn116, ec_zn119, ec_zn167, ec_zn185, ec_zn192, ec_zn215, ec_zn233, ec_zn699, ec_zn932, ec_zn999, ec_znF, ec_zneg, ec_zadd, ec_zsub, ec_zmul, ec_zdivO, ec_em, ec_zltO, ec_zeqO, ec_zeq0, ec_qt, ec_qf, if_pos, if_neg, Int.add_zero, ec_aft_v, ec_aft_n, ec_rwE, ec_rwN, ec_rwP, ec_rwK, ec_rwS, ec_w_shpI, ec_w_shpL, ec_w_shpA, k1, k2, k3, k4, g]
theorem ec_c6s {h : ec_Hp} (K : ed_CD h) {v : Int} : ec_om 6 0 [.ref 70, .int (ec_i v)] [] h = some (.inl (some (.int (ec_i 0))), ec_setI h 70 5 (ec_i v)) := by
  have hD := K
  unfold ed_CD at hD
  simp (disch := first | (simp only [ec_w_kI, ec_w_kL, ec_w_kA, ec_w_shpI, ec_w_shpL, ec_w_shpA, ec_isR_r, ec_01z, ec_01o, ec_01q, hD]; done) | omega | (simp only [ec_w_shpI, ec_w_shpL, ec_w_shpA, hD]; refine ec_zinO ?_; omega) | (refine ec_nzO ?_; omega)) only [ec_s6_0, ec_s6_1, ec_s6_2, ec_s6_5, ec_s6_6, ec_zn0, ec_zn1, ec_zn2, ec_zn3, ec_zn4, ec_zn5, ec_zn6, ec_zn7, ec_zn8, ec_zn9, ec_zn10, ec_zn12, ec_zn13, ec_zn14, ec_zn15, ec_zn16, ec_zn20, ec_zn30, ec_zn48, ec_zn99, ec_zn120, ec_zn127, ec_zn11, ec_zn31, ec_zn46, ec_zn57, ec_zn59, ec_zn63, ec_zn101, ec_zn107, ec_zn108, ec_zn110, ec_zn111, ec_zn115, ec_zn116, ec_zn119, ec_zn167, ec_zn185, ec_zn192, ec_zn215, ec_zn233, ec_zn699, ec_zn932, ec_zn999, ec_znF, ec_zneg, ec_zadd, ec_zsub, ec_zmul, ec_zdivO, ec_em, ec_zltO, ec_zeqO, ec_zeq0, ec_qt, ec_qf, if_pos, if_neg, Int.add_zero, ec_aft_v, ec_aft_n, ec_rwE, ec_rwN, ec_rwP, ec_rwK, ec_rwS, ec_w_shpI, ec_w_shpL, ec_w_shpA, hD]
set_option maxHeartbeats 2000000 in
theorem ec_c5s {h : ec_Hp} (K : ed_CD h) {L : Int} {T : Int → Int} (X : ed_TC h L T) {j : Int} (hj : 0 ≤ j ∧ j ≤ 122) : ∃ h', ec_om 5 0 [.ref 70, .int (ec_i j), .double 0, .double 0, .double 0] [] h = some (.inl (some (.int (ec_i (ec_q (ed_ac L T j ≠ -1))))), h') ∧ ec_fg ed_Rc h h' ∧ h'.2.1 70 4 = h.2.1 70 4 ∧
    (ed_ac L T j ≠ -1 → h'.2.1 70 2 = ec_i (ed_sk L T j + 1) ∧ h'.2.1 70 3 = ec_i (ed_ac L T j) ∧ h'.2.1 70 5 = h.2.1 70 5) ∧ (ed_ac L T j = -1 → h'.2.1 70 5 = ec_i (ed_sk L T j)) := by
  have g1 := ec_c8s K X (i := j) (by omega)
  have g2 := ec_c8s K X (i := j + 1) (by omega)
  have r1 := ed_chc_rg X (i := j) (by omega)
  have r2 := ed_chc_rg X (i := j + 1) (by omega)
  have g10 := fun h => ec_c10s (h := h) r2
  have g9 := fun h => ec_c9s (h := h) r1
  have g6 := ec_c6s (K) (v := j + 1)
  have g6b := fun x => ec_c6s (h := ec_setI h 70 3 x) (K.of rfl) (v := j)
  have mc := ed_mr_c (c := ed_ch L T j)
  have dr := ed_dof_rg (c := ed_ch L T (j + 1))
  have ar := ed_ac_rg (L := L) (T := T) (j := j)
  have hD := K
  unfold ed_CD at hD
  have k1 : (111 : Int32) = ec_i 111 := rfl
  have k2 : (99 : Int32) = ec_i 99 := rfl
  generalize e : ec_om 5 0 [.ref 70, .int (ec_i j), .double 0, .double 0, .double 0] [] h = r
  rcases mc with ⟨m, c4⟩ | ⟨m, c4⟩ | ⟨m, c4, c5⟩
  · have ea : ed_ac L T j = if ed_dof (ed_ch L T (j + 1)) = -1 then -1 else 4 + ed_dof (ed_ch L T (j + 1)) := by
      unfold ed_ac
      rw [m, if_neg (by decide)]
    have es : ed_sk L T j = j + 1 := by
      unfold ed_sk
      rw [m, if_neg (by decide)]
    rw [c4] at g1
    rw [ea, es]
    generalize ed_dof (ed_ch L T (j + 1)) = d at g10 dr ⊢
    generalize ed_ch L T (j + 1) = c2 at g2 g10
    by_cases qd : d = -1
    · subst qd
      rw [if_pos rfl, ec_qf (fun y => y rfl)]
      simp (disch := first | (simp only [ec_w_kI, ec_w_kL, ec_w_kA, ec_w_shpI, ec_w_shpL, ec_w_shpA, ec_isR_r, ec_01z, ec_01o, ec_01q, hD]; done) | omega | (simp only [ec_w_shpI, ec_w_shpL, ec_w_shpA, hD]; refine ec_zinO ?_; omega) | (refine ec_nzO ?_; omega)) only [ec_s5_0, ec_s5_1, ec_s5_2, ec_s5_5, ec_s5_6, ec_s5_7, ec_s5_8, ec_s5_9, ec_s5_11, ec_s5_14, ec_s5_15, ec_s5_17, ec_s5_20, ec_s5_21, ec_s5_22, ec_s5_23, ec_s5_24, ec_s5_27, ec_s5_30, ec_s5_32, ec_s5_34, ec_s5_35, ec_s5_38, ec_s5_39, ec_s5_40, ec_s5_41, ec_s5_42, ec_s5_45, ec_s5_46, ec_s5_47, ec_s5_48, ec_s5_50, ec_s5_53, ec_s5_54, ec_s5_57, ec_s5_59, ec_s5_61, ec_s5_62, ec_s5_65, ec_s5_66, ec_s5_67, ec_s5_70, ec_s5_71, ec_s5_72, ec_s5_75, ec_s5_78, ec_s5_79, ec_s5_82, ec_s5_83, ec_s5_86, ec_s5_87, ec_s5_88, ec_s5_91, ec_s5_92, ec_s5_93, ec_s5_94, ec_s5_95, ec_s5_96, ec_s5_99, ec_s5_100, ec_zn0, ec_zn1, ec_zn2, ec_zn3, ec_zn4, ec_zn5, ec_zn6, ec_zn7, ec_zn8, ec_zn9, ec_zn10, ec_zn12, ec_zn13, ec_zn14, ec_zn15, ec_zn16, ec_zn20, ec_zn30, ec_zn48, ec_zn99, ec_zn120, ec_zn127, ec_zn11, ec_zn31, ec_zn46, ec_zn57, ec_zn59, ec_zn63, ec_zn101, ec_zn107, ec_zn108, ec_zn110, ec_zn111, ec_zn115, ec_zn116, ec_zn119, ec_zn167, ec_zn185, ec_zn192, ec_zn215, ec_zn233, ec_zn699, ec_zn932, ec_zn999, ec_znF, ec_zneg, ec_zadd, ec_zsub, ec_zmul, ec_zdivO, ec_em, ec_zltO, ec_zeqO, ec_zeq0, ec_qt, ec_qf, if_pos, if_neg, Int.add_zero, ec_aft_v, ec_aft_n, ec_rwE, ec_rwN, ec_rwP, ec_rwK, ec_rwS, ec_w_shpI, ec_w_shpL, ec_w_shpA, hD, g1, g2, g10, g6, k1, k2] at e
      subst e
      exact ⟨_, rfl, ec_fg.refl.I ⟨rfl, by decide⟩, by rw [ec_rwK (by decide)], fun y => absurd rfl y, fun _ => by rw [ec_rwS]⟩
    · rw [if_neg qd, ec_qt (by omega)]
      simp (disch := first | (simp only [ec_w_kI, ec_w_kL, ec_w_kA, ec_w_shpI, ec_w_shpL, ec_w_shpA, ec_isR_r, ec_01z, ec_01o, ec_01q, hD]; done) | omega | (simp only [ec_w_shpI, ec_w_shpL, ec_w_shpA, hD]; refine ec_zinO ?_; omega) | (refine ec_nzO ?_; omega)) only [ec_s5_0, ec_s5_1, ec_s5_2, ec_s5_5, ec_s5_6, ec_s5_7, ec_s5_8, ec_s5_9, ec_s5_11, ec_s5_14, ec_s5_15, ec_s5_17, ec_s5_20, ec_s5_21, ec_s5_22, ec_s5_23, ec_s5_24, ec_s5_27, ec_s5_30, ec_s5_32, ec_s5_34, ec_s5_35, ec_s5_38, ec_s5_39, ec_s5_40, ec_s5_41, ec_s5_42, ec_s5_45, ec_s5_46, ec_s5_47, ec_s5_48, ec_s5_50, ec_s5_53, ec_s5_54, ec_s5_57, ec_s5_59, ec_s5_61, ec_s5_62, ec_s5_65, ec_s5_66, ec_s5_67, ec_s5_70, ec_s5_71, ec_s5_72, ec_s5_75, ec_s5_78, ec_s5_79, ec_s5_82, ec_s5_83, ec_s5_86, ec_s5_87, ec_s5_88, ec_s5_91, ec_s5_92, ec_s5_93, ec_s5_94, ec_s5_95, ec_s5_96, ec_s5_99, ec_s5_100, ec_zn0, ec_zn1, ec_zn2, ec_zn3, ec_zn4, ec_zn5, ec_zn6, ec_zn7, ec_zn8, ec_zn9, ec_zn10, ec_zn12, ec_zn13, ec_zn14, ec_zn15, ec_zn16, ec_zn20, ec_zn30, ec_zn48, ec_zn99, ec_zn120, ec_zn127, ec_zn11, ec_zn31, ec_zn46, ec_zn57, ec_zn59, ec_zn63, ec_zn101, ec_zn107, ec_zn108, ec_zn110, ec_zn111, ec_zn115, ec_zn116, ec_zn119, ec_zn167, ec_zn185, ec_zn192, ec_zn215, ec_zn233, ec_zn699, ec_zn932, ec_zn999, ec_znF, ec_zneg, ec_zadd, ec_zsub, ec_zmul, ec_zdivO, ec_em, ec_zltO, ec_zeqO, ec_zeq0, ec_qt, ec_qf, if_pos, if_neg, Int.add_zero, ec_aft_v, ec_aft_n, ec_rwE, ec_rwN, ec_rwP, ec_rwK, ec_rwS, ec_w_shpI, ec_w_shpL, ec_w_shpA, hD, g1, g2, g10, k1, k2] at e
      subst e
      refine ⟨_, rfl, (ec_fg.refl.I ⟨rfl, by decide⟩).I ⟨rfl, by decide⟩, by rw [ec_rwK (by decide), ec_rwK (by decide)], fun _ => ⟨?_, by rw [ec_rwK (by decide), ec_rwS], by rw [ec_rwK (by decide), ec_rwK (by decide)]⟩, fun y => absurd y (by omega)⟩
      rw [ec_rwS]
      congr 1
      omega
  · have ea : ed_ac L T j = if ed_dof (ed_ch L T (j + 1)) = -1 then -1 else 8 + ed_dof (ed_ch L T (j + 1)) := by
      unfold ed_ac
      rw [m, if_neg (by decide)]
    have es : ed_sk L T j = j + 1 := by
      unfold ed_sk
      rw [m, if_neg (by decide)]
    rw [c4] at g1
    rw [ea, es]
    generalize ed_dof (ed_ch L T (j + 1)) = d at g10 dr ⊢
    generalize ed_ch L T (j + 1) = c2 at g2 g10
    by_cases qd : d = -1
    · subst qd
      rw [if_pos rfl, ec_qf (fun y => y rfl)]
      simp (disch := first | (simp only [ec_w_kI, ec_w_kL, ec_w_kA, ec_w_shpI, ec_w_shpL, ec_w_shpA, ec_isR_r, ec_01z, ec_01o, ec_01q, hD]; done) | omega | (simp only [ec_w_shpI, ec_w_shpL, ec_w_shpA, hD]; refine ec_zinO ?_; omega) | (refine ec_nzO ?_; omega)) only [ec_s5_0, ec_s5_1, ec_s5_2, ec_s5_5, ec_s5_6, ec_s5_7, ec_s5_8, ec_s5_9, ec_s5_11, ec_s5_14, ec_s5_15, ec_s5_17, ec_s5_20, ec_s5_21, ec_s5_22, ec_s5_23, ec_s5_24, ec_s5_27, ec_s5_30, ec_s5_32, ec_s5_34, ec_s5_35, ec_s5_38, ec_s5_39, ec_s5_40, ec_s5_41, ec_s5_42, ec_s5_45, ec_s5_46, ec_s5_47, ec_s5_48, ec_s5_50, ec_s5_53, ec_s5_54, ec_s5_57, ec_s5_59, ec_s5_61, ec_s5_62, ec_s5_65, ec_s5_66, ec_s5_67, ec_s5_70, ec_s5_71, ec_s5_72, ec_s5_75, ec_s5_78, ec_s5_79, ec_s5_82, ec_s5_83, ec_s5_86, ec_s5_87, ec_s5_88, ec_s5_91, ec_s5_92, ec_s5_93, ec_s5_94, ec_s5_95, ec_s5_96, ec_s5_99, ec_s5_100, ec_zn0, ec_zn1, ec_zn2, ec_zn3, ec_zn4, ec_zn5, ec_zn6, ec_zn7, ec_zn8, ec_zn9, ec_zn10, ec_zn12, ec_zn13, ec_zn14, ec_zn15, ec_zn16, ec_zn20, ec_zn30, ec_zn48, ec_zn99, ec_zn120, ec_zn127, ec_zn11, ec_zn31, ec_zn46, ec_zn57, ec_zn59, ec_zn63, ec_zn101, ec_zn107, ec_zn108, ec_zn110, ec_zn111, ec_zn115, ec_zn116, ec_zn119, ec_zn167, ec_zn185, ec_zn192, ec_zn215, ec_zn233, ec_zn699, ec_zn932, ec_zn999, ec_znF, ec_zneg, ec_zadd, ec_zsub, ec_zmul, ec_zdivO, ec_em, ec_zltO, ec_zeqO, ec_zeq0, ec_qt, ec_qf, if_pos, if_neg, Int.add_zero, ec_aft_v, ec_aft_n, ec_rwE, ec_rwN, ec_rwP, ec_rwK, ec_rwS, ec_w_shpI, ec_w_shpL, ec_w_shpA, hD, g1, g2, g10, g6, k1, k2] at e
      subst e
      exact ⟨_, rfl, ec_fg.refl.I ⟨rfl, by decide⟩, by rw [ec_rwK (by decide)], fun y => absurd rfl y, fun _ => by rw [ec_rwS]⟩
    · rw [if_neg qd, ec_qt (by omega)]
      simp (disch := first | (simp only [ec_w_kI, ec_w_kL, ec_w_kA, ec_w_shpI, ec_w_shpL, ec_w_shpA, ec_isR_r, ec_01z, ec_01o, ec_01q, hD]; done) | omega | (simp only [ec_w_shpI, ec_w_shpL, ec_w_shpA, hD]; refine ec_zinO ?_; omega) | (refine ec_nzO ?_; omega)) only [ec_s5_0, ec_s5_1, ec_s5_2, ec_s5_5, ec_s5_6, ec_s5_7, ec_s5_8, ec_s5_9, ec_s5_11, ec_s5_14, ec_s5_15, ec_s5_17, ec_s5_20, ec_s5_21, ec_s5_22, ec_s5_23, ec_s5_24, ec_s5_27, ec_s5_30, ec_s5_32, ec_s5_34, ec_s5_35, ec_s5_38, ec_s5_39, ec_s5_40, ec_s5_41, ec_s5_42, ec_s5_45, ec_s5_46, ec_s5_47, ec_s5_48, ec_s5_50, ec_s5_53, ec_s5_54, ec_s5_57, ec_s5_59, ec_s5_61, ec_s5_62, ec_s5_65, ec_s5_66, ec_s5_67, ec_s5_70, ec_s5_71, ec_s5_72, ec_s5_75, ec_s5_78, ec_s5_79, ec_s5_82, ec_s5_83, ec_s5_86, ec_s5_87, ec_s5_88, ec_s5_91, ec_s5_92, ec_s5_93, ec_s5_94, ec_s5_95, ec_s5_96, ec_s5_99, ec_s5_100, ec_zn0, ec_zn1, ec_zn2, ec_zn3, ec_zn4, ec_zn5, ec_zn6, ec_zn7, ec_zn8, ec_zn9, ec_zn10, ec_zn12, ec_zn13, ec_zn14, ec_zn15, ec_zn16, ec_zn20, ec_zn30, ec_zn48, ec_zn99, ec_zn120, ec_zn127, ec_zn11, ec_zn31, ec_zn46, ec_zn57, ec_zn59, ec_zn63, ec_zn101, ec_zn107, ec_zn108, ec_zn110, ec_zn111, ec_zn115, ec_zn116, ec_zn119, ec_zn167, ec_zn185, ec_zn192, ec_zn215, ec_zn233, ec_zn699, ec_zn932, ec_zn999, ec_znF, ec_zneg, ec_zadd, ec_zsub, ec_zmul, ec_zdivO, ec_em, ec_zltO, ec_zeqO, ec_zeq0, ec_qt, ec_qf, if_pos, if_neg, Int.add_zero, ec_aft_v, ec_aft_n, ec_rwE, ec_rwN, ec_rwP, ec_rwK, ec_rwS, ec_w_shpI, ec_w_shpL, ec_w_shpA, hD, g1, g2, g10, k1, k2] at e
      subst e
      refine ⟨_, rfl, (ec_fg.refl.I ⟨rfl, by decide⟩).I ⟨rfl, by decide⟩, by rw [ec_rwK (by decide), ec_rwK (by decide)], fun _ => ⟨?_, by rw [ec_rwK (by decide), ec_rwS], by rw [ec_rwK (by decide), ec_rwK (by decide)]⟩, fun y => absurd y (by omega)⟩
      rw [ec_rwS]
      congr 1
      omega
  · have ea : ed_ac L T j = ed_sng (ed_ch L T j) := by
      unfold ed_ac ed_sng
      rw [if_pos m]
    have es : ed_sk L T j = j := by
      unfold ed_sk
      rw [if_pos m]
    rw [ea] at ar ⊢
    rw [es]
    generalize ed_sng (ed_ch L T j) = s at g9 ar ⊢
    generalize ed_ch L T j = c at g1 g9 c4 c5 r1
    by_cases qs : s = -1
    · subst qs
      rw [ec_qf (fun y => y rfl)]
      simp (disch := first | (simp only [ec_w_kI, ec_w_kL, ec_w_kA, ec_w_shpI, ec_w_shpL, ec_w_shpA, ec_isR_r, ec_01z, ec_01o, ec_01q, hD]; done) | omega | (simp only [ec_w_shpI, ec_w_shpL, ec_w_shpA, hD]; refine ec_zinO ?_; omega) | (refine ec_nzO ?_; omega)) only [ec_s5_0, ec_s5_1, ec_s5_2, ec_s5_5, ec_s5_6, ec_s5_7, ec_s5_8, ec_s5_9, ec_s5_11, ec_s5_14, ec_s5_15, ec_s5_17, ec_s5_20, ec_s5_21, ec_s5_22, ec_s5_23, ec_s5_24, ec_s5_27, ec_s5_30, ec_s5_32, ec_s5_34, ec_s5_35, ec_s5_38, ec_s5_39, ec_s5_40, ec_s5_41, ec_s5_42, ec_s5_45, ec_s5_46, ec_s5_47, ec_s5_48, ec_s5_50, ec_s5_53, ec_s5_54, ec_s5_57, ec_s5_59, ec_s5_61, ec_s5_62, ec_s5_65, ec_s5_66, ec_s5_67, ec_s5_70, ec_s5_71, ec_s5_72, ec_s5_75, ec_s5_78, ec_s5_79, ec_s5_82, ec_s5_83, ec_s5_86, ec_s5_87, ec_s5_88, ec_s5_91, ec_s5_92, ec_s5_93, ec_s5_94, ec_s5_95, ec_s5_96, ec_s5_99, ec_s5_100, ec_zn0, ec_zn1, ec_zn2, ec_zn3, ec_zn4, ec_zn5, ec_zn6, ec_zn7, ec_zn8, ec_zn9, ec_zn10, ec_zn12, ec_zn13, ec_zn14, ec_zn15, ec_zn16, ec_zn20, ec_zn30, ec_zn48, ec_zn99, ec_zn120, ec_zn127, ec_zn11, ec_zn31, ec_zn46, ec_zn57, ec_zn59, ec_zn63, ec_zn101, ec_zn107, ec_zn108, ec_zn110, ec_zn111, ec_zn115, ec_zn116, ec_zn119, ec_zn167, ec_zn185, ec_zn192, ec_zn215, ec_zn233, ec_zn699, ec_zn932, ec_zn999, ec_znF, ec_zneg, ec_zadd, ec_zsub, ec_zmul, ec_zdivO, ec_em, ec_zltO, ec_zeqO, ec_zeq0, ec_qt, ec_qf, if_pos, if_neg, Int.add_zero, ec_aft_v, ec_aft_n, ec_rwE, ec_rwN, ec_rwP, ec_rwK, ec_rwS, ec_w_shpI, ec_w_shpL, ec_w_shpA, hD, g1, g9, g6b, k1, k2] at e
      subst e
      exact ⟨_, rfl, (ec_fg.refl.I ⟨rfl, by decide⟩).I ⟨rfl, by decide⟩, by rw [ec_rwK (by decide), ec_rwK (by decide)], fun y => absurd rfl y, fun _ => by rw [ec_rwS]⟩
    · rw [ec_qt qs]
      simp (disch := first | (simp only [ec_w_kI, ec_w_kL, ec_w_kA, ec_w_shpI, ec_w_shpL, ec_w_shpA, ec_isR_r, ec_01z, ec_01o, ec_01q, hD]; done) | omega | (simp only [ec_w_shpI, ec_w_shpL, ec_w_shpA, hD]; refine ec_zinO ?_; omega) | (refine ec_nzO ?_; omega)) only [ec_s5_0, ec_s5_1, ec_s5_2, ec_s5_5, ec_s5_6, ec_s5_7, ec_s5_8, ec_s5_9, ec_s5_11, ec_s5_14, ec_s5_15, ec_s5_17, ec_s5_20, ec_s5_21, ec_s5_22, ec_s5_23, ec_s5_24, ec_s5_27, ec_s5_30, ec_s5_32, ec_s5_34, ec_s5_35, ec_s5_38, ec_s5_39, ec_s5_40, ec_s5_41, ec_s5_42, ec_s5_45, ec_s5_46, ec_s5_47, ec_s5_48, ec_s5_50, ec_s5_53, ec_s5_54, ec_s5_57, ec_s5_59, ec_s5_61, ec_s5_62, ec_s5_65, ec_s5_66, ec_s5_67, ec_s5_70, ec_s5_71, ec_s5_72, ec_s5_75, ec_s5_78, ec_s5_79, ec_s5_82, ec_s5_83, ec_s5_86, ec_s5_87, ec_s5_88, ec_s5_91, ec_s5_92, ec_s5_93, ec_s5_94, ec_s5_95, ec_s5_96, ec_s5_99, ec_s5_100, ec_zn0, ec_zn1, ec_zn2, ec_zn3, ec_zn4, ec_zn5, ec_zn6, ec_zn7, ec_zn8, ec_zn9, ec_zn10, ec_zn12, ec_zn13, ec_zn14, ec_zn15, ec_zn16, ec_zn20, ec_zn30, ec_zn48, ec_zn99, ec_zn120, ec_zn127, ec_zn11, ec_zn31, ec_zn46, ec_zn57, ec_zn59, ec_zn63, ec_zn101, ec_zn107, ec_zn108, ec_zn110, ec_zn111, ec_zn115, ec_zn116, ec_zn119, ec_zn167, ec_zn185, ec_zn192, ec_zn215, ec_zn233, ec_zn699, ec_zn932, ec_zn999, ec_znF, ec_zneg, ec_zadd, ec_zsub, ec_zmul, ec_zdivO, ec_em, ec_zltO, ec_zeqO, ec_zeq0, ec_qt, ec_qf, if_pos, if_neg, Int.add_zero, ec_aft_v, ec_aft_n, ec_rwE, ec_rwN, ec_rwP, ec_rwK, ec_rwS, ec_w_shpI, ec_w_shpL, ec_w_shpA, hD, g1, g9, k1, k2] at e
      subst e
      exact ⟨_, rfl, (ec_fg.refl.I ⟨rfl, by decide⟩).I ⟨rfl, by decide⟩, by rw [ec_rwK (by decide), ec_rwK (by decide)], fun _ => ⟨by rw [ec_rwS], by rw [ec_rwK (by decide), ec_rwS], by rw [ec_rwK (by decide), ec_rwK (by decide)]⟩, fun y => absurd y qs⟩
