/-! The reference reads and runs texts; undo. -/
theorem ed_ac_eq {L : Int} {T : Int → Int} {j : Int} : ed_ac L T j = if ed_dof (ed_ch L T (ed_sk L T j)) ≠ -1 then ed_mr (ed_ch L T j) + ed_dof (ed_ch L T (ed_sk L T j)) else if 0 < ed_mr (ed_ch L T j) then -1 else if ed_ch L T j = 46 then 12 else if ed_ch L T j = 108 then 13 else if ed_ch L T j = 120 then 14 else if ed_ch L T j = 116 then 15 else -1 := by
  have m := ed_mr_rg (c := ed_ch L T j)
  unfold ed_ac ed_sk
  by_cases q : ed_mr (ed_ch L T j) = 0
  · rw [if_pos q, if_pos q, q, if_neg (show ¬ (0 : Int) < 0 by decide), Int.zero_add]
  · rw [if_neg q, if_neg q, if_pos (show 0 < ed_mr (ed_ch L T j) by omega)]
    by_cases q2 : ed_dof (ed_ch L T (j + 1)) = -1
    · rw [if_pos q2, if_neg (fun y => y q2)]
    · rw [if_neg q2, if_pos q2]
theorem ed_mr_c {c : Int} : ed_mr c = 4 ∧ c = 111 ∨ ed_mr c = 8 ∧ c = 99 ∨ ed_mr c = 0 ∧ c ≠ 111 ∧ c ≠ 99 := by
  unfold ed_mr
  by_cases q1 : c = 111
  · rw [if_pos q1]; exact Or.inl ⟨rfl, q1⟩
  · rw [if_neg q1]
    by_cases q2 : c = 99
    · rw [if_pos q2]; exact Or.inr (Or.inl ⟨rfl, q2⟩)
    · rw [if_neg q2]; exact Or.inr (Or.inr ⟨rfl, q1, q2⟩)
set_option maxHeartbeats 2000000 in
theorem ec_c193b {h : ec_Hp} (hD : ec_MD h) {L : Int} {T : Int → Int} (X : ed_TX h L T) {j : Int} (hs : h.2.1 72 15 = ec_i j) (hj : 0 ≤ j ∧ j ≤ 122) : ∃ h', ec_om 193 9 [.ref 72, .double 0, .double 0, .double 0] [] h = some (.inl (some (.int (ec_i (ec_q (ed_ac L T j ≠ -1))))), h') ∧ ec_fg ed_Rd h h' ∧
    h'.2.1 72 15 = ec_i (if ed_ac L T j = -1 then ed_sk L T j else ed_sk L T j + 1) ∧ h'.2.1 72 16 = h.2.1 72 16 ∧ h'.2.1 72 17 = ec_i (ed_ac L T j) := by
  have g1 := ec_c191 hD X hs (by omega)
  have cr := ed_ch_rg X (i := j) (by omega)
  have mc := ed_mr_c (c := ed_ch L T j)
  have sk : ed_sk L T j = if ed_mr (ed_ch L T j) = 0 then j else j + 1 := rfl
  have ar := ed_ac_rg (L := L) (T := T) (j := j)
  rw [ed_ac_eq] at ar ⊢
  have skr : 0 ≤ ed_sk L T j ∧ ed_sk L T j ≤ 123 := by rw [sk]; split <;> omega
  generalize ed_sk L T j = s at sk skr ar ⊢
  have g2 := ec_c191 (h := ec_setI h 72 15 (ec_i s)) (hD.of rfl) (X.Rd (ec_fg.refl.I ⟨rfl, Or.inl rfl⟩)) (i := s) (by rw [ec_rwS]) (by omega)
  have cr2 := ed_ch_rg X (i := s) (by omega)
  have g3 := fun h => ec_c190 (h := h) cr2
  have dr := ed_dof_rg (c := ed_ch L T s)
  have F : ∀ x y z, ec_fg ed_Rd h (ec_setI (ec_setI (ec_setI h 72 15 x) 72 17 y) 72 15 z) := fun x y z => ((ec_fg.refl.I ⟨rfl, Or.inl rfl⟩).I ⟨rfl, Or.inr (Or.inr rfl)⟩).I ⟨rfl, Or.inl rfl⟩
  have R16 : ∀ x y z, (ec_setI (ec_setI (ec_setI h 72 15 x) 72 17 y) 72 15 z).2.1 72 16 = h.2.1 72 16 := fun x y z => by rw [ec_rwK (by decide), ec_rwK (by decide), ec_rwK (by decide)]
  have R17 : ∀ x y z, (ec_setI (ec_setI (ec_setI h 72 15 x) 72 17 y) 72 15 z).2.1 72 17 = y := fun x y z => by rw [ec_rwK (by decide), ec_rwS]
  generalize ed_dof (ed_ch L T s) = d at g3 dr ar ⊢
  generalize ed_ch L T s = c2 at g2 g3
  generalize ed_mr (ed_ch L T j) = m at mc sk ar ⊢
  generalize ed_ch L T j = c at g1 cr mc ar ⊢
  unfold ec_MD at hD
  generalize e : ec_om 193 9 [.ref 72, .double 0, .double 0, .double 0] [] h = r
  by_cases qd : d = -1
  · subst qd
    rw [if_neg (fun y => y rfl)] at ar ⊢
    rcases mc with ⟨rfl, c4⟩ | ⟨rfl, c4⟩ | ⟨rfl, c4, c5⟩
    · rw [if_pos (show (0 : Int) < 4 by decide), ec_qf (fun y => y rfl), if_pos rfl]
      rw [if_neg (by decide)] at sk
      subst sk
      simp (disch := first | (simp only [ec_w_kI, ec_w_kL, ec_w_kA, ec_w_shpI, ec_w_shpL, ec_w_shpA, ec_isR_r, ec_01z, ec_01o, ec_01q, hD]; done) | omega | (simp only [ec_w_shpI, ec_w_shpL, ec_w_shpA, hD]; refine ec_zinO ?_; omega) | (refine ec_nzO ?_; omega)) only [ec_s193_0, ec_s193_1, ec_s193_4, ec_s193_7, ec_s193_8, ec_s193_9, ec_s193_10, ec_s193_13, ec_s193_14, ec_s193_15, ec_s193_17, ec_s193_20, ec_s193_21, ec_s193_24, ec_s193_25, ec_s193_27, ec_s193_30, ec_s193_32, ec_s193_35, ec_s193_36, ec_s193_37, ec_s193_38, ec_s193_39, ec_s193_42, ec_s193_43, ec_s193_46, ec_s193_47, ec_s193_50, ec_s193_51, ec_s193_52, ec_s193_55, ec_s193_56, ec_s193_59, ec_s193_62, ec_s193_63, ec_s193_64, ec_s193_65, ec_s193_66, ec_s193_69, ec_s193_70, ec_s193_71, ec_s193_72, ec_s193_75, ec_s193_76, ec_s193_79, ec_s193_80, ec_s193_83, ec_s193_84, ec_s193_86, ec_s193_89, ec_s193_91, ec_s193_94, ec_s193_95, ec_s193_97, ec_s193_100, ec_s193_102, ec_s193_105, ec_s193_106, ec_s193_108, ec_s193_111, ec_s193_113, ec_s193_116, ec_s193_117, ec_s193_119, ec_s193_122, ec_s193_124, ec_s193_127, ec_s193_128, ec_s193_131, ec_s193_132, ec_s193_133, ec_s193_136, ec_s193_137, ec_s193_140, ec_s193_141, ec_s193_144, ec_s193_145, ec_s193_148, ec_s193_149, ec_s193_150, ec_s193_153, ec_s193_154, ec_s193_157, ec_s193_158, ec_s193_161, ec_s193_162, ec_s193_165, ec_s193_166, ec_zn0, ec_zn1, ec_zn2, ec_zn3, ec_zn4, ec_zn5, ec_zn6, ec_zn7, ec_zn8, ec_zn9, ec_zn10, ec_zn12, ec_zn13, ec_zn14, ec_zn15, ec_zn16, ec_zn20, ec_zn30, ec_zn48, ec_zn99, ec_zn120, ec_zn127, ec_zn11, ec_zn31, ec_zn46, ec_zn57, ec_zn59, ec_zn63, ec_zn101, ec_zn107, ec_zn108, ec_zn110, ec_zn111, ec_zn115, ec_zn116, ec_zn119, ec_zn167, ec_zn185, ec_zn192, ec_zn215, ec_zn233, ec_zn699, ec_zn932, ec_zn999, ec_znF, ec_zneg, ec_zadd, ec_zsub, ec_zmul, ec_zdivO, ec_em, ec_zltO, ec_zeqO, ec_zeq0, ec_qt, ec_qf, if_pos, if_neg, Int.add_zero, ec_aft_v, ec_aft_n, ec_rwE, ec_rwN, ec_rwP, ec_rwK, ec_rwS, ec_w_shpI, ec_w_shpL, ec_w_shpA, hD, hs, g1, g2, g3] at e
      subst e
      exact ⟨_, rfl, F _ _ _, by rw [ec_rwS], R16 _ _ _, R17 _ _ _⟩
    · rw [if_pos (show (0 : Int) < 8 by decide), ec_qf (fun y => y rfl), if_pos rfl]
      rw [if_neg (by decide)] at sk
      subst sk
      simp (disch := first | (simp only [ec_w_kI, ec_w_kL, ec_w_kA, ec_w_shpI, ec_w_shpL, ec_w_shpA, ec_isR_r, ec_01z, ec_01o, ec_01q, hD]; done) | omega | (simp only [ec_w_shpI, ec_w_shpL, ec_w_shpA, hD]; refine ec_zinO ?_; omega) | (refine ec_nzO ?_; omega)) only [ec_s193_0, ec_s193_1, ec_s193_4, ec_s193_7, ec_s193_8, ec_s193_9, ec_s193_10, ec_s193_13, ec_s193_14, ec_s193_15, ec_s193_17, ec_s193_20, ec_s193_21, ec_s193_24, ec_s193_25, ec_s193_27, ec_s193_30, ec_s193_32, ec_s193_35, ec_s193_36, ec_s193_37, ec_s193_38, ec_s193_39, ec_s193_42, ec_s193_43, ec_s193_46, ec_s193_47, ec_s193_50, ec_s193_51, ec_s193_52, ec_s193_55, ec_s193_56, ec_s193_59, ec_s193_62, ec_s193_63, ec_s193_64, ec_s193_65, ec_s193_66, ec_s193_69, ec_s193_70, ec_s193_71, ec_s193_72, ec_s193_75, ec_s193_76, ec_s193_79, ec_s193_80, ec_s193_83, ec_s193_84, ec_s193_86, ec_s193_89, ec_s193_91, ec_s193_94, ec_s193_95, ec_s193_97, ec_s193_100, ec_s193_102, ec_s193_105, ec_s193_106, ec_s193_108, ec_s193_111, ec_s193_113, ec_s193_116, ec_s193_117, ec_s193_119, ec_s193_122, ec_s193_124, ec_s193_127, ec_s193_128, ec_s193_131, ec_s193_132, ec_s193_133, ec_s193_136, ec_s193_137, ec_s193_140, ec_s193_141, ec_s193_144, ec_s193_145, ec_s193_148, ec_s193_149, ec_s193_150, ec_s193_153, ec_s193_154, ec_s193_157, ec_s193_158, ec_s193_161, ec_s193_162, ec_s193_165, ec_s193_166, ec_zn0, ec_zn1, ec_zn2, ec_zn3, ec_zn4, ec_zn5, ec_zn6, ec_zn7, ec_zn8, ec_zn9, ec_zn10, ec_zn12, ec_zn13, ec_zn14, ec_zn15, ec_zn16, ec_zn20, ec_zn30, ec_zn48, ec_zn99, ec_zn120, ec_zn127, ec_zn11, ec_zn31, ec_zn46, ec_zn57, ec_zn59, ec_zn63, ec_zn101, ec_zn107, ec_zn108, ec_zn110, ec_zn111, ec_zn115, ec_zn116, ec_zn119, ec_zn167, ec_zn185, ec_zn192, ec_zn215, ec_zn233, ec_zn699, ec_zn932, ec_zn999, ec_znF, ec_zneg, ec_zadd, ec_zsub, ec_zmul, ec_zdivO, ec_em, ec_zltO, ec_zeqO, ec_zeq0, ec_qt, ec_qf, if_pos, if_neg, Int.add_zero, ec_aft_v, ec_aft_n, ec_rwE, ec_rwN, ec_rwP, ec_rwK, ec_rwS, ec_w_shpI, ec_w_shpL, ec_w_shpA, hD, hs, g1, g2, g3] at e
      subst e
      exact ⟨_, rfl, F _ _ _, by rw [ec_rwS], R16 _ _ _, R17 _ _ _⟩
    · rw [if_neg (show ¬ (0 : Int) < 0 by decide)] at ar ⊢
      rw [if_pos rfl] at sk
      subst sk
      by_cases q1 : c = 46
      · rw [if_pos q1, ec_qt (by decide), if_neg (by decide)]
        simp (disch := first | (simp only [ec_w_kI, ec_w_kL, ec_w_kA, ec_w_shpI, ec_w_shpL, ec_w_shpA, ec_isR_r, ec_01z, ec_01o, ec_01q, hD]; done) | omega | (simp only [ec_w_shpI, ec_w_shpL, ec_w_shpA, hD]; refine ec_zinO ?_; omega) | (refine ec_nzO ?_; omega)) only [ec_s193_0, ec_s193_1, ec_s193_4, ec_s193_7, ec_s193_8, ec_s193_9, ec_s193_10, ec_s193_13, ec_s193_14, ec_s193_15, ec_s193_17, ec_s193_20, ec_s193_21, ec_s193_24, ec_s193_25, ec_s193_27, ec_s193_30, ec_s193_32, ec_s193_35, ec_s193_36, ec_s193_37, ec_s193_38, ec_s193_39, ec_s193_42, ec_s193_43, ec_s193_46, ec_s193_47, ec_s193_50, ec_s193_51, ec_s193_52, ec_s193_55, ec_s193_56, ec_s193_59, ec_s193_62, ec_s193_63, ec_s193_64, ec_s193_65, ec_s193_66, ec_s193_69, ec_s193_70, ec_s193_71, ec_s193_72, ec_s193_75, ec_s193_76, ec_s193_79, ec_s193_80, ec_s193_83, ec_s193_84, ec_s193_86, ec_s193_89, ec_s193_91, ec_s193_94, ec_s193_95, ec_s193_97, ec_s193_100, ec_s193_102, ec_s193_105, ec_s193_106, ec_s193_108, ec_s193_111, ec_s193_113, ec_s193_116, ec_s193_117, ec_s193_119, ec_s193_122, ec_s193_124, ec_s193_127, ec_s193_128, ec_s193_131, ec_s193_132, ec_s193_133, ec_s193_136, ec_s193_137, ec_s193_140, ec_s193_141, ec_s193_144, ec_s193_145, ec_s193_148, ec_s193_149, ec_s193_150, ec_s193_153, ec_s193_154, ec_s193_157, ec_s193_158, ec_s193_161, ec_s193_162, ec_s193_165, ec_s193_166, ec_zn0, ec_zn1, ec_zn2, ec_zn3, ec_zn4, ec_zn5, ec_zn6, ec_zn7, ec_zn8, ec_zn9, ec_zn10, ec_zn12, ec_zn13, ec_zn14, ec_zn15, ec_zn16, ec_zn20, ec_zn30, ec_zn48, ec_zn99, ec_zn120, ec_zn127, ec_zn11, ec_zn31, ec_zn46, ec_zn57, ec_zn59, ec_zn63, ec_zn101, ec_zn107, ec_zn108, ec_zn110, ec_zn111, ec_zn115, ec_zn116, ec_zn119, ec_zn167, ec_zn185, ec_zn192, ec_zn215, ec_zn233, ec_zn699, ec_zn932, ec_zn999, ec_znF, ec_zneg, ec_zadd, ec_zsub, ec_zmul, ec_zdivO, ec_em, ec_zltO, ec_zeqO, ec_zeq0, ec_qt, ec_qf, if_pos, if_neg, Int.add_zero, ec_aft_v, ec_aft_n, ec_rwE, ec_rwN, ec_rwP, ec_rwK, ec_rwS, ec_w_shpI, ec_w_shpL, ec_w_shpA, hD, hs, g1, g2, g3] at e
        subst e
        exact ⟨_, rfl, F _ _ _, by rw [ec_rwS], R16 _ _ _, R17 _ _ _⟩
      · rw [if_neg q1]
        by_cases q2 : c = 108
        · rw [if_pos q2, ec_qt (by decide), if_neg (by decide)]
          simp (disch := first | (simp only [ec_w_kI, ec_w_kL, ec_w_kA, ec_w_shpI, ec_w_shpL, ec_w_shpA, ec_isR_r, ec_01z, ec_01o, ec_01q, hD]; done) | omega | (simp only [ec_w_shpI, ec_w_shpL, ec_w_shpA, hD]; refine ec_zinO ?_; omega) | (refine ec_nzO ?_; omega)) only [ec_s193_0, ec_s193_1, ec_s193_4, ec_s193_7, ec_s193_8, ec_s193_9, ec_s193_10, ec_s193_13, ec_s193_14, ec_s193_15, ec_s193_17, ec_s193_20, ec_s193_21, ec_s193_24, ec_s193_25, ec_s193_27, ec_s193_30, ec_s193_32, ec_s193_35, ec_s193_36, ec_s193_37, ec_s193_38, ec_s193_39, ec_s193_42, ec_s193_43, ec_s193_46, ec_s193_47, ec_s193_50, ec_s193_51, ec_s193_52, ec_s193_55, ec_s193_56, ec_s193_59, ec_s193_62, ec_s193_63, ec_s193_64, ec_s193_65, ec_s193_66, ec_s193_69, ec_s193_70, ec_s193_71, ec_s193_72, ec_s193_75, ec_s193_76, ec_s193_79, ec_s193_80, ec_s193_83, ec_s193_84, ec_s193_86, ec_s193_89, ec_s193_91, ec_s193_94, ec_s193_95, ec_s193_97, ec_s193_100, ec_s193_102, ec_s193_105, ec_s193_106, ec_s193_108, ec_s193_111, ec_s193_113, ec_s193_116, ec_s193_117, ec_s193_119, ec_s193_122, ec_s193_124, ec_s193_127, ec_s193_128, ec_s193_131, ec_s193_132, ec_s193_133, ec_s193_136, ec_s193_137, ec_s193_140, ec_s193_141, ec_s193_144, ec_s193_145, ec_s193_148, ec_s193_149, ec_s193_150, ec_s193_153, ec_s193_154, ec_s193_157, ec_s193_158, ec_s193_161, ec_s193_162, ec_s193_165, ec_s193_166, ec_zn0, ec_zn1, ec_zn2, ec_zn3, ec_zn4, ec_zn5, ec_zn6, ec_zn7, ec_zn8, ec_zn9, ec_zn10, ec_zn12, ec_zn13, ec_zn14, ec_zn15, ec_zn16, ec_zn20, ec_zn30, ec_zn48, ec_zn99, ec_zn120, ec_zn127, ec_zn11, ec_zn31, ec_zn46, ec_zn57, ec_zn59, ec_zn63, ec_zn101, ec_zn107, ec_zn108, ec_zn110, ec_zn111, ec_zn115, ec_zn116, ec_zn119, ec_zn167, ec_zn185, ec_zn192, ec_zn215, ec_zn233, ec_zn699, ec_zn932, ec_zn999, ec_znF, ec_zneg, ec_zadd, ec_zsub, ec_zmul, ec_zdivO, ec_em, ec_zltO, ec_zeqO, ec_zeq0, ec_qt, ec_qf, if_pos, if_neg, Int.add_zero, ec_aft_v, ec_aft_n, ec_rwE, ec_rwN, ec_rwP, ec_rwK, ec_rwS, ec_w_shpI, ec_w_shpL, ec_w_shpA, hD, hs, g1, g2, g3] at e
          subst e
          exact ⟨_, rfl, F _ _ _, by rw [ec_rwS], R16 _ _ _, R17 _ _ _⟩
        · rw [if_neg q2]
          by_cases q3 : c = 120
          · rw [if_pos q3, ec_qt (by decide), if_neg (by decide)]
            simp (disch := first | (simp only [ec_w_kI, ec_w_kL, ec_w_kA, ec_w_shpI, ec_w_shpL, ec_w_shpA, ec_isR_r, ec_01z, ec_01o, ec_01q, hD]; done) | omega | (simp only [ec_w_shpI, ec_w_shpL, ec_w_shpA, hD]; refine ec_zinO ?_; omega) | (refine ec_nzO ?_; omega)) only [ec_s193_0, ec_s193_1, ec_s193_4, ec_s193_7, ec_s193_8, ec_s193_9, ec_s193_10, ec_s193_13, ec_s193_14, ec_s193_15, ec_s193_17, ec_s193_20, ec_s193_21, ec_s193_24, ec_s193_25, ec_s193_27, ec_s193_30, ec_s193_32, ec_s193_35, ec_s193_36, ec_s193_37, ec_s193_38, ec_s193_39, ec_s193_42, ec_s193_43, ec_s193_46, ec_s193_47, ec_s193_50, ec_s193_51, ec_s193_52, ec_s193_55, ec_s193_56, ec_s193_59, ec_s193_62, ec_s193_63, ec_s193_64, ec_s193_65, ec_s193_66, ec_s193_69, ec_s193_70, ec_s193_71, ec_s193_72, ec_s193_75, ec_s193_76, ec_s193_79, ec_s193_80, ec_s193_83, ec_s193_84, ec_s193_86, ec_s193_89, ec_s193_91, ec_s193_94, ec_s193_95, ec_s193_97, ec_s193_100, ec_s193_102, ec_s193_105, ec_s193_106, ec_s193_108, ec_s193_111, ec_s193_113, ec_s193_116, ec_s193_117, ec_s193_119, ec_s193_122, ec_s193_124, ec_s193_127, ec_s193_128, ec_s193_131, ec_s193_132, ec_s193_133, ec_s193_136, ec_s193_137, ec_s193_140, ec_s193_141, ec_s193_144, ec_s193_145, ec_s193_148, ec_s193_149, ec_s193_150, ec_s193_153, ec_s193_154, ec_s193_157, ec_s193_158, ec_s193_161, ec_s193_162, ec_s193_165, ec_s193_166, ec_zn0, ec_zn1, ec_zn2, ec_zn3, ec_zn4, ec_zn5, ec_zn6, ec_zn7, ec_zn8, ec_zn9, ec_zn10, ec_zn12, ec_zn13, ec_zn14, ec_zn15, ec_zn16, ec_zn20, ec_zn30, ec_zn48, ec_zn99, ec_zn120, ec_zn127, ec_zn11, ec_zn31, ec_zn46, ec_zn57, ec_zn59, ec_zn63, ec_zn101, ec_zn107, ec_zn108, ec_zn110, ec_zn111, ec_zn115, ec_zn116, ec_zn119, ec_zn167, ec_zn185, ec_zn192, ec_zn215, ec_zn233, ec_zn699, ec_zn932, ec_zn999, ec_znF, ec_zneg, ec_zadd, ec_zsub, ec_zmul, ec_zdivO, ec_em, ec_zltO, ec_zeqO, ec_zeq0, ec_qt, ec_qf, if_pos, if_neg, Int.add_zero, ec_aft_v, ec_aft_n, ec_rwE, ec_rwN, ec_rwP, ec_rwK, ec_rwS, ec_w_shpI, ec_w_shpL, ec_w_shpA, hD, hs, g1, g2, g3] at e
            subst e
            exact ⟨_, rfl, F _ _ _, by rw [ec_rwS], R16 _ _ _, R17 _ _ _⟩
          · rw [if_neg q3]
            by_cases q4 : c = 116
            · rw [if_pos q4, ec_qt (by decide), if_neg (by decide)]
              simp (disch := first | (simp only [ec_w_kI, ec_w_kL, ec_w_kA, ec_w_shpI, ec_w_shpL, ec_w_shpA, ec_isR_r, ec_01z, ec_01o, ec_01q, hD]; done) | omega | (simp only [ec_w_shpI, ec_w_shpL, ec_w_shpA, hD]; refine ec_zinO ?_; omega) | (refine ec_nzO ?_; omega)) only [ec_s193_0, ec_s193_1, ec_s193_4, ec_s193_7, ec_s193_8, ec_s193_9, ec_s193_10, ec_s193_13, ec_s193_14, ec_s193_15, ec_s193_17, ec_s193_20, ec_s193_21, ec_s193_24, ec_s193_25, ec_s193_27, ec_s193_30, ec_s193_32, ec_s193_35, ec_s193_36, ec_s193_37, ec_s193_38, ec_s193_39, ec_s193_42, ec_s193_43, ec_s193_46, ec_s193_47, ec_s193_50, ec_s193_51, ec_s193_52, ec_s193_55, ec_s193_56, ec_s193_59, ec_s193_62, ec_s193_63, ec_s193_64, ec_s193_65, ec_s193_66, ec_s193_69, ec_s193_70, ec_s193_71, ec_s193_72, ec_s193_75, ec_s193_76, ec_s193_79, ec_s193_80, ec_s193_83, ec_s193_84, ec_s193_86, ec_s193_89, ec_s193_91, ec_s193_94, ec_s193_95, ec_s193_97, ec_s193_100, ec_s193_102, ec_s193_105, ec_s193_106, ec_s193_108, ec_s193_111, ec_s193_113, ec_s193_116, ec_s193_117, ec_s193_119, ec_s193_122, ec_s193_124, ec_s193_127, ec_s193_128, ec_s193_131, ec_s193_132, ec_s193_133, ec_s193_136, ec_s193_137, ec_s193_140, ec_s193_141, ec_s193_144, ec_s193_145, ec_s193_148, ec_s193_149, ec_s193_150, ec_s193_153, ec_s193_154, ec_s193_157, ec_s193_158, ec_s193_161, ec_s193_162, ec_s193_165, ec_s193_166, ec_zn0, ec_zn1, ec_zn2, ec_zn3, ec_zn4, ec_zn5, ec_zn6, ec_zn7, ec_zn8, ec_zn9, ec_zn10, ec_zn12, ec_zn13, ec_zn14, ec_zn15, ec_zn16, ec_zn20, ec_zn30, ec_zn48, ec_zn99, ec_zn120, ec_zn127, ec_zn11, ec_zn31, ec_zn46, ec_zn57, ec_zn59, ec_zn63, ec_zn101, ec_zn107, ec_zn108, ec_zn110, ec_zn111, ec_zn115, ec_zn116, ec_zn119, ec_zn167, ec_zn185, ec_zn192, ec_zn215, ec_zn233, ec_zn699, ec_zn932, ec_zn999, ec_znF, ec_zneg, ec_zadd, ec_zsub, ec_zmul, ec_zdivO, ec_em, ec_zltO, ec_zeqO, ec_zeq0, ec_qt, ec_qf, if_pos, if_neg, Int.add_zero, ec_aft_v, ec_aft_n, ec_rwE, ec_rwN, ec_rwP, ec_rwK, ec_rwS, ec_w_shpI, ec_w_shpL, ec_w_shpA, hD, hs, g1, g2, g3] at e
              subst e
              exact ⟨_, rfl, F _ _ _, by rw [ec_rwS], R16 _ _ _, R17 _ _ _⟩
            · rw [if_neg q4, ec_qf (fun y => y rfl), if_pos rfl]
              simp (disch := first | (simp only [ec_w_kI, ec_w_kL, ec_w_kA, ec_w_shpI, ec_w_shpL, ec_w_shpA, ec_isR_r, ec_01z, ec_01o, ec_01q, hD]; done) | omega | (simp only [ec_w_shpI, ec_w_shpL, ec_w_shpA, hD]; refine ec_zinO ?_; omega) | (refine ec_nzO ?_; omega)) only [ec_s193_0, ec_s193_1, ec_s193_4, ec_s193_7, ec_s193_8, ec_s193_9, ec_s193_10, ec_s193_13, ec_s193_14, ec_s193_15, ec_s193_17, ec_s193_20, ec_s193_21, ec_s193_24, ec_s193_25, ec_s193_27, ec_s193_30, ec_s193_32, ec_s193_35, ec_s193_36, ec_s193_37, ec_s193_38, ec_s193_39, ec_s193_42, ec_s193_43, ec_s193_46, ec_s193_47, ec_s193_50, ec_s193_51, ec_s193_52, ec_s193_55, ec_s193_56, ec_s193_59, ec_s193_62, ec_s193_63, ec_s193_64, ec_s193_65, ec_s193_66, ec_s193_69, ec_s193_70, ec_s193_71, ec_s193_72, ec_s193_75, ec_s193_76, ec_s193_79, ec_s193_80, ec_s193_83, ec_s193_84, ec_s193_86, ec_s193_89, ec_s193_91, ec_s193_94, ec_s193_95, ec_s193_97, ec_s193_100, ec_s193_102, ec_s193_105, ec_s193_106, ec_s193_108, ec_s193_111, ec_s193_113, ec_s193_116, ec_s193_117, ec_s193_119, ec_s193_122, ec_s193_124, ec_s193_127, ec_s193_128, ec_s193_131, ec_s193_132, ec_s193_133, ec_s193_136, ec_s193_137, ec_s193_140, ec_s193_141, ec_s193_144, ec_s193_145, ec_s193_148, ec_s193_149, ec_s193_150, ec_s193_153, ec_s193_154, ec_s193_157, ec_s193_158, ec_s193_161, ec_s193_162, ec_s193_165, ec_s193_166, ec_zn0, ec_zn1, ec_zn2, ec_zn3, ec_zn4, ec_zn5, ec_zn6, ec_zn7, ec_zn8, ec_zn9, ec_zn10, ec_zn12, ec_zn13, ec_zn14, ec_zn15, ec_zn16, ec_zn20, ec_zn30, ec_zn48, ec_zn99, ec_zn120, ec_zn127, ec_zn11, ec_zn31, ec_zn46, ec_zn57, ec_zn59, ec_zn63, ec_zn101, ec_zn107, ec_zn108, ec_zn110, ec_zn111, ec_zn115, ec_zn116, ec_zn119, ec_zn167, ec_zn185, ec_zn192, ec_zn215, ec_zn233, ec_zn699, ec_zn932, ec_zn999, ec_znF, ec_zneg, ec_zadd, ec_zsub, ec_zmul, ec_zdivO, ec_em, ec_zltO, ec_zeqO, ec_zeq0, ec_qt, ec_qf, if_pos, if_neg, Int.add_zero, ec_aft_v, ec_aft_n, ec_rwE, ec_rwN, ec_rwP, ec_rwK, ec_rwS, ec_w_shpI, ec_w_shpL, ec_w_shpA, hD, hs, g1, g2, g3] at e
              subst e
              exact ⟨_, rfl, F _ _ _, by rw [ec_rwS], R16 _ _ _, R17 _ _ _⟩
  · rw [if_pos qd] at ar ⊢
    rcases mc with ⟨rfl, c4⟩ | ⟨rfl, c4⟩ | ⟨rfl, c4, c5⟩
    · rw [ec_qt (by omega), if_neg (by omega)]
      rw [if_neg (by decide)] at sk
      subst sk
      simp (disch := first | (simp only [ec_w_kI, ec_w_kL, ec_w_kA, ec_w_shpI, ec_w_shpL, ec_w_shpA, ec_isR_r, ec_01z, ec_01o, ec_01q, hD]; done) | omega | (simp only [ec_w_shpI, ec_w_shpL, ec_w_shpA, hD]; refine ec_zinO ?_; omega) | (refine ec_nzO ?_; omega)) only [ec_s193_0, ec_s193_1, ec_s193_4, ec_s193_7, ec_s193_8, ec_s193_9, ec_s193_10, ec_s193_13, ec_s193_14, ec_s193_15, ec_s193_17, ec_s193_20, ec_s193_21, ec_s193_24, ec_s193_25, ec_s193_27, ec_s193_30, ec_s193_32, ec_s193_35, ec_s193_36, ec_s193_37, ec_s193_38, ec_s193_39, ec_s193_42, ec_s193_43, ec_s193_46, ec_s193_47, ec_s193_50, ec_s193_51, ec_s193_52, ec_s193_55, ec_s193_56, ec_s193_59, ec_s193_62, ec_s193_63, ec_s193_64, ec_s193_65, ec_s193_66, ec_s193_69, ec_s193_70, ec_s193_71, ec_s193_72, ec_s193_75, ec_s193_76, ec_s193_79, ec_s193_80, ec_s193_83, ec_s193_84, ec_s193_86, ec_s193_89, ec_s193_91, ec_s193_94, ec_s193_95, ec_s193_97, ec_s193_100, ec_s193_102, ec_s193_105, ec_s193_106, ec_s193_108, ec_s193_111, ec_s193_113, ec_s193_116, ec_s193_117, ec_s193_119, ec_s193_122, ec_s193_124, ec_s193_127, ec_s193_128, ec_s193_131, ec_s193_132, ec_s193_133, ec_s193_136, ec_s193_137, ec_s193_140, ec_s193_141, ec_s193_144, ec_s193_145, ec_s193_148, ec_s193_149, ec_s193_150, ec_s193_153, ec_s193_154, ec_s193_157, ec_s193_158, ec_s193_161, ec_s193_162, ec_s193_165, ec_s193_166, ec_zn0, ec_zn1, ec_zn2, ec_zn3, ec_zn4, ec_zn5, ec_zn6, ec_zn7, ec_zn8, ec_zn9, ec_zn10, ec_zn12, ec_zn13, ec_zn14, ec_zn15, ec_zn16, ec_zn20, ec_zn30, ec_zn48, ec_zn99, ec_zn120, ec_zn127, ec_zn11, ec_zn31, ec_zn46, ec_zn57, ec_zn59, ec_zn63, ec_zn101, ec_zn107, ec_zn108, ec_zn110, ec_zn111, ec_zn115, ec_zn116, ec_zn119, ec_zn167, ec_zn185, ec_zn192, ec_zn215, ec_zn233, ec_zn699, ec_zn932, ec_zn999, ec_znF, ec_zneg, ec_zadd, ec_zsub, ec_zmul, ec_zdivO, ec_em, ec_zltO, ec_zeqO, ec_zeq0, ec_qt, ec_qf, if_pos, if_neg, Int.add_zero, ec_aft_v, ec_aft_n, ec_rwE, ec_rwN, ec_rwP, ec_rwK, ec_rwS, ec_w_shpI, ec_w_shpL, ec_w_shpA, hD, hs, g1, g2, g3] at e
      subst e
      exact ⟨_, rfl, F _ _ _, by rw [ec_rwS], R16 _ _ _, R17 _ _ _⟩
    · rw [ec_qt (by omega), if_neg (by omega)]
      rw [if_neg (by decide)] at sk
      subst sk
      simp (disch := first | (simp only [ec_w_kI, ec_w_kL, ec_w_kA, ec_w_shpI, ec_w_shpL, ec_w_shpA, ec_isR_r, ec_01z, ec_01o, ec_01q, hD]; done) | omega | (simp only [ec_w_shpI, ec_w_shpL, ec_w_shpA, hD]; refine ec_zinO ?_; omega) | (refine ec_nzO ?_; omega)) only [ec_s193_0, ec_s193_1, ec_s193_4, ec_s193_7, ec_s193_8, ec_s193_9, ec_s193_10, ec_s193_13, ec_s193_14, ec_s193_15, ec_s193_17, ec_s193_20, ec_s193_21, ec_s193_24, ec_s193_25, ec_s193_27, ec_s193_30, ec_s193_32, ec_s193_35, ec_s193_36, ec_s193_37, ec_s193_38, ec_s193_39, ec_s193_42, ec_s193_43, ec_s193_46, ec_s193_47, ec_s193_50, ec_s193_51, ec_s193_52, ec_s193_55, ec_s193_56, ec_s193_59, ec_s193_62, ec_s193_63, ec_s193_64, ec_s193_65, ec_s193_66, ec_s193_69, ec_s193_70, ec_s193_71, ec_s193_72, ec_s193_75, ec_s193_76, ec_s193_79, ec_s193_80, ec_s193_83, ec_s193_84, ec_s193_86, ec_s193_89, ec_s193_91, ec_s193_94, ec_s193_95, ec_s193_97, ec_s193_100, ec_s193_102, ec_s193_105, ec_s193_106, ec_s193_108, ec_s193_111, ec_s193_113, ec_s193_116, ec_s193_117, ec_s193_119, ec_s193_122, ec_s193_124, ec_s193_127, ec_s193_128, ec_s193_131, ec_s193_132, ec_s193_133, ec_s193_136, ec_s193_137, ec_s193_140, ec_s193_141, ec_s193_144, ec_s193_145, ec_s193_148, ec_s193_149, ec_s193_150, ec_s193_153, ec_s193_154, ec_s193_157, ec_s193_158, ec_s193_161, ec_s193_162, ec_s193_165, ec_s193_166, ec_zn0, ec_zn1, ec_zn2, ec_zn3, ec_zn4, ec_zn5, ec_zn6, ec_zn7, ec_zn8, ec_zn9, ec_zn10, ec_zn12, ec_zn13, ec_zn14, ec_zn15, ec_zn16, ec_zn20, ec_zn30, ec_zn48, ec_zn99, ec_zn120, ec_zn127, ec_zn11, ec_zn31, ec_zn46, ec_zn57, ec_zn59, ec_zn63, ec_zn101, ec_zn107, ec_zn108, ec_zn110, ec_zn111, ec_zn115, ec_zn116, ec_zn119, ec_zn167, ec_zn185, ec_zn192, ec_zn215, ec_zn233, ec_zn699, ec_zn932, ec_zn999, ec_znF, ec_zneg, ec_zadd, ec_zsub, ec_zmul, ec_zdivO, ec_em, ec_zltO, ec_zeqO, ec_zeq0, ec_qt, ec_qf, if_pos, if_neg, Int.add_zero, ec_aft_v, ec_aft_n, ec_rwE, ec_rwN, ec_rwP, ec_rwK, ec_rwS, ec_w_shpI, ec_w_shpL, ec_w_shpA, hD, hs, g1, g2, g3] at e
      subst e
      exact ⟨_, rfl, F _ _ _, by rw [ec_rwS], R16 _ _ _, R17 _ _ _⟩
    · rw [ec_qt (by omega), if_neg (by omega)]
      rw [if_pos rfl] at sk
      subst sk
      simp (disch := first | (simp only [ec_w_kI, ec_w_kL, ec_w_kA, ec_w_shpI, ec_w_shpL, ec_w_shpA, ec_isR_r, ec_01z, ec_01o, ec_01q, hD]; done) | omega | (simp only [ec_w_shpI, ec_w_shpL, ec_w_shpA, hD]; refine ec_zinO ?_; omega) | (refine ec_nzO ?_; omega)) only [ec_s193_0, ec_s193_1, ec_s193_4, ec_s193_7, ec_s193_8, ec_s193_9, ec_s193_10, ec_s193_13, ec_s193_14, ec_s193_15, ec_s193_17, ec_s193_20, ec_s193_21, ec_s193_24, ec_s193_25, ec_s193_27, ec_s193_30, ec_s193_32, ec_s193_35, ec_s193_36, ec_s193_37, ec_s193_38, ec_s193_39, ec_s193_42, ec_s193_43, ec_s193_46, ec_s193_47, ec_s193_50, ec_s193_51, ec_s193_52, ec_s193_55, ec_s193_56, ec_s193_59, ec_s193_62, ec_s193_63, ec_s193_64, ec_s193_65, ec_s193_66, ec_s193_69, ec_s193_70, ec_s193_71, ec_s193_72, ec_s193_75, ec_s193_76, ec_s193_79, ec_s193_80, ec_s193_83, ec_s193_84, ec_s193_86, ec_s193_89, ec_s193_91, ec_s193_94, ec_s193_95, ec_s193_97, ec_s193_100, ec_s193_102, ec_s193_105, ec_s193_106, ec_s193_108, ec_s193_111, ec_s193_113, ec_s193_116, ec_s193_117, ec_s193_119, ec_s193_122, ec_s193_124, ec_s193_127, ec_s193_128, ec_s193_131, ec_s193_132, ec_s193_133, ec_s193_136, ec_s193_137, ec_s193_140, ec_s193_141, ec_s193_144, ec_s193_145, ec_s193_148, ec_s193_149, ec_s193_150, ec_s193_153, ec_s193_154, ec_s193_157, ec_s193_158, ec_s193_161, ec_s193_162, ec_s193_165, ec_s193_166, ec_zn0, ec_zn1, ec_zn2, ec_zn3, ec_zn4, ec_zn5, ec_zn6, ec_zn7, ec_zn8, ec_zn9, ec_zn10, ec_zn12, ec_zn13, ec_zn14, ec_zn15, ec_zn16, ec_zn20, ec_zn30, ec_zn48, ec_zn99, ec_zn120, ec_zn127, ec_zn11, ec_zn31, ec_zn46, ec_zn57, ec_zn59, ec_zn63, ec_zn101, ec_zn107, ec_zn108, ec_zn110, ec_zn111, ec_zn115, ec_zn116, ec_zn119, ec_zn167, ec_zn185, ec_zn192, ec_zn215, ec_zn233, ec_zn699, ec_zn932, ec_zn999, ec_znF, ec_zneg, ec_zadd, ec_zsub, ec_zmul, ec_zdivO, ec_em, ec_zltO, ec_zeqO, ec_zeq0, ec_qt, ec_qf, if_pos, if_neg, Int.add_zero, ec_aft_v, ec_aft_n, ec_rwE, ec_rwN, ec_rwP, ec_rwK, ec_rwS, ec_w_shpI, ec_w_shpL, ec_w_shpA, hD, hs, g1, g2, g3] at e
      subst e
      exact ⟨_, rfl, F _ _ _, by rw [ec_rwS], R16 _ _ _, R17 _ _ _⟩
theorem ec_c193 {h : ec_Hp} (hD : ec_MD h) {L : Int} {T : Int → Int} (X : ed_TX h L T) {i : Int} (hs : h.2.1 72 15 = ec_i i) (hi : 0 ≤ i ∧ i < L) : ∃ h', ec_om 193 0 [.ref 72, .double 0, .double 0, .double 0] [] h = some (.inl (some (.int (ec_i (ec_q (ed_ok L T i))))), h') ∧ ec_fg ed_Rd h h' ∧
    h'.2.1 72 15 = ec_i (ed_po L T i) ∧ (ed_ok L T i → h'.2.1 72 16 = ec_i (ed_nt L T i) ∧ h'.2.1 72 17 = ec_i (ed_ac L T (i + ed_nl L T i))) := by
  obtain ⟨h1, a1, a2, a3, a4⟩ := ec_c192 hD X hs hi
  have hD1 := hD.of a2.1.1
  have X1 := X.Rd a2
  have X2 := X.2.1
  have nr := ed_nl_rg (L := L) (T := T) (i := i)
  unfold ed_po
  by_cases q0 : ed_nf L T i = -1
  · rw [ec_qt q0] at a1
    rw [if_pos q0] at a3 ⊢
    obtain ⟨h2, b1, b2, b3, b4, b5⟩ := ec_c193b hD1 X1 a3 (by omega)
    refine ⟨h2, ?_, a2.trans b2, b3, fun _ => ⟨b4.trans (a4 q0), b5⟩⟩
    rw [ec_q_c (show ed_ok L T i ↔ ed_ac L T (i + ed_nl L T i) ≠ -1 from ⟨fun y => y.2, fun y => ⟨q0, y⟩⟩)]
    unfold ec_MD at hD
    simp (disch := first | (simp only [ec_w_kI, ec_w_kL, ec_w_kA, ec_w_shpI, ec_w_shpL, ec_w_shpA, ec_isR_r, ec_01z, ec_01o, ec_01q, hD]; done) | omega | (simp only [ec_w_shpI, ec_w_shpL, ec_w_shpA, hD]; refine ec_zinO ?_; omega) | (refine ec_nzO ?_; omega)) only [ec_s193_0, ec_s193_1, ec_s193_4, ec_zn0, ec_zn1, ec_zn2, ec_zn3, ec_zn4, ec_zn5, ec_zn6, ec_zn7, ec_zn8, ec_zn9, ec_zn10, ec_zn12, ec_zn13, ec_zn14, ec_zn15, ec_zn16, ec_zn20, ec_zn30, ec_zn48, ec_zn99, ec_zn120, ec_zn127, ec_zn11, ec_zn31, ec_zn46, ec_zn57, ec_zn59, ec_zn63, ec_zn101, ec_zn107, ec_zn108, ec_zn110, ec_zn111, ec_zn115, ec_zn116, ec_zn119, ec_zn167, ec_zn185, ec_zn192, ec_zn215, ec_zn233, ec_zn699, ec_zn932, ec_zn999, ec_znF, ec_zneg, ec_zadd, ec_zsub, ec_zmul, ec_zdivO, ec_em, ec_zltO, ec_zeqO, ec_zeq0, ec_qt, ec_qf, if_pos, if_neg, Int.add_zero, ec_aft_v, ec_aft_n, ec_rwE, ec_rwN, ec_rwP, ec_rwK, ec_rwS, ec_w_shpI, ec_w_shpL, ec_w_shpA, hD, a1, b1]
  · rw [ec_qf q0] at a1
    rw [if_neg q0] at a3 ⊢
    refine ⟨h1, ?_, a2, a3, fun y => absurd y.1 q0⟩
    rw [ec_qf (fun y : ed_ok L T i => q0 y.1)]
    unfold ec_MD at hD
    simp (disch := first | (simp only [ec_w_kI, ec_w_kL, ec_w_kA, ec_w_shpI, ec_w_shpL, ec_w_shpA, ec_isR_r, ec_01z, ec_01o, ec_01q, hD]; done) | omega | (simp only [ec_w_shpI, ec_w_shpL, ec_w_shpA, hD]; refine ec_zinO ?_; omega) | (refine ec_nzO ?_; omega)) only [ec_s193_0, ec_s193_1, ec_s193_4, ec_s193_7, ec_s193_8, ec_s193_9, ec_s193_10, ec_s193_13, ec_s193_14, ec_s193_15, ec_s193_17, ec_s193_20, ec_s193_21, ec_s193_24, ec_s193_25, ec_s193_27, ec_s193_30, ec_s193_32, ec_s193_35, ec_s193_36, ec_s193_37, ec_s193_38, ec_s193_39, ec_s193_42, ec_s193_43, ec_s193_46, ec_s193_47, ec_s193_50, ec_s193_51, ec_s193_52, ec_s193_55, ec_s193_56, ec_s193_59, ec_s193_62, ec_s193_63, ec_s193_64, ec_s193_65, ec_s193_66, ec_s193_69, ec_s193_70, ec_s193_71, ec_s193_72, ec_s193_75, ec_s193_76, ec_s193_79, ec_s193_80, ec_s193_83, ec_s193_84, ec_s193_86, ec_s193_89, ec_s193_91, ec_s193_94, ec_s193_95, ec_s193_97, ec_s193_100, ec_s193_102, ec_s193_105, ec_s193_106, ec_s193_108, ec_s193_111, ec_s193_113, ec_s193_116, ec_s193_117, ec_s193_119, ec_s193_122, ec_s193_124, ec_s193_127, ec_s193_128, ec_s193_131, ec_s193_132, ec_s193_133, ec_s193_136, ec_s193_137, ec_s193_140, ec_s193_141, ec_s193_144, ec_s193_145, ec_s193_148, ec_s193_149, ec_s193_150, ec_s193_153, ec_s193_154, ec_s193_157, ec_s193_158, ec_s193_161, ec_s193_162, ec_s193_165, ec_s193_166, ec_zn0, ec_zn1, ec_zn2, ec_zn3, ec_zn4, ec_zn5, ec_zn6, ec_zn7, ec_zn8, ec_zn9, ec_zn10, ec_zn12, ec_zn13, ec_zn14, ec_zn15, ec_zn16, ec_zn20, ec_zn30, ec_zn48, ec_zn99, ec_zn120, ec_zn127, ec_zn11, ec_zn31, ec_zn46, ec_zn57, ec_zn59, ec_zn63, ec_zn101, ec_zn107, ec_zn108, ec_zn110, ec_zn111, ec_zn115, ec_zn116, ec_zn119, ec_zn167, ec_zn185, ec_zn192, ec_zn215, ec_zn233, ec_zn699, ec_zn932, ec_zn999, ec_znF, ec_zneg, ec_zadd, ec_zsub, ec_zmul, ec_zdivO, ec_em, ec_zltO, ec_zeqO, ec_zeq0, ec_qt, ec_qf, if_pos, if_neg, Int.add_zero, ec_aft_v, ec_aft_n, ec_rwE, ec_rwN, ec_rwP, ec_rwK, ec_rwS, ec_w_shpI, ec_w_shpL, ec_w_shpA, hD, a1]
/-- the fault of a text -/
theorem ec_c194L {L : Int} {T : Int → Int} : ∀ (n : Nat) (i : Int) (h : ec_Hp), ec_MD h → ed_TX h L T → h.2.1 72 15 = ec_i i → 0 ≤ i ∧ i ≤ 200 → L ≤ i + n →
    ∃ h', ec_om 194 5 [.ref 72] [] h = some (.inl (some (.int (ec_i (ed_fa L T n i)))), h') ∧ ec_fg ed_Rd h h' := by
  intro n
  induction n with
  | zero =>
    intro i h hD X hs hi hn
    have X1 := X.1
    have X2 := X.2.1
    refine ⟨h, ?_, ec_fg.refl⟩
    unfold ec_MD at hD
    rw [ec_s194_5]
    simp (disch := first | (simp only [ec_w_kI, ec_w_kL, ec_w_kA, ec_w_shpI, ec_w_shpL, ec_w_shpA, ec_isR_r, ec_01z, ec_01o, ec_01q, hD]; done) | omega | (simp only [ec_w_shpI, ec_w_shpL, ec_w_shpA, hD]; refine ec_zinO ?_; omega) | (refine ec_nzO ?_; omega)) only [ec_s194_0, ec_s194_1, ec_s194_2, ec_s194_6, ec_s194_9, ec_s194_10, ec_s194_13, ec_s194_16, ec_s194_17, ec_s194_20, ec_s194_23, ec_s194_24, ec_s194_27, ec_s194_28, ec_s194_29, ec_zn0, ec_zn1, ec_zn2, ec_zn3, ec_zn4, ec_zn5, ec_zn6, ec_zn7, ec_zn8, ec_zn9, ec_zn10, ec_zn12, ec_zn13, ec_zn14, ec_zn15, ec_zn16, ec_zn20, ec_zn30, ec_zn48, ec_zn99, ec_zn120, ec_zn127, ec_zn11, ec_zn31, ec_zn46, ec_zn57, ec_zn59, ec_zn63, ec_zn101, ec_zn107, ec_zn108, ec_zn110, ec_zn111, ec_zn115, ec_zn116, ec_zn119, ec_zn167, ec_zn185, ec_zn192, ec_zn215, ec_zn233, ec_zn699, ec_zn932, ec_zn999, ec_znF, ec_zneg, ec_zadd, ec_zsub, ec_zmul, ec_zdivO, ec_em, ec_zltO, ec_zeqO, ec_zeq0, ec_qt, ec_qf, if_pos, if_neg, Int.add_zero, ec_aft_v, ec_aft_n, ec_rwE, ec_rwN, ec_rwP, ec_rwK, ec_rwS, ec_w_shpI, ec_w_shpL, ec_w_shpA, hD, hs, X1]
    rfl
  | succ n ih =>
    intro i h hD X hs hi hn
    have X1 := X.1
    have X2 := X.2.1
    rw [show ed_fa L T (n + 1) i = if i < L then (if ed_ok L T i then ed_fa L T n (ed_po L T i) else ed_po L T i) else -1 from rfl]
    by_cases q : i < L
    · rw [if_pos q]
      obtain ⟨h1, a1, a2, a3, a4⟩ := ec_c193 hD X hs ⟨hi.1, q⟩
      have hD1 := hD.of a2.1.1
      by_cases q2 : ed_ok L T i
      · rw [if_pos q2]
        rw [ec_qt q2] at a1
        have gt := ed_po_gt q2
        have up : ed_po L T i ≤ i + 4 := by
          have nr := ed_nl_rg (L := L) (T := T) (i := i)
          unfold ed_po ed_sk
          rw [if_pos q2.1, if_neg q2.2]
          split <;> omega
        obtain ⟨h2, b1, b2⟩ := ih (ed_po L T i) h1 hD1 (X.Rd a2) a3 (by omega) (by omega)
        refine ⟨h2, ?_, a2.trans b2⟩
        unfold ec_MD at hD hD1
        have hD := And.intro hD hD1
        rw [ec_s194_5]
        simp (disch := first | (simp only [ec_w_kI, ec_w_kL, ec_w_kA, ec_w_shpI, ec_w_shpL, ec_w_shpA, ec_isR_r, ec_01z, ec_01o, ec_01q, hD]; done) | omega | (simp only [ec_w_shpI, ec_w_shpL, ec_w_shpA, hD]; refine ec_zinO ?_; omega) | (refine ec_nzO ?_; omega)) only [ec_s194_0, ec_s194_1, ec_s194_2, ec_s194_6, ec_s194_9, ec_s194_10, ec_s194_13, ec_s194_16, ec_s194_17, ec_s194_20, ec_s194_23, ec_s194_24, ec_s194_27, ec_s194_28, ec_s194_29, ec_zn0, ec_zn1, ec_zn2, ec_zn3, ec_zn4, ec_zn5, ec_zn6, ec_zn7, ec_zn8, ec_zn9, ec_zn10, ec_zn12, ec_zn13, ec_zn14, ec_zn15, ec_zn16, ec_zn20, ec_zn30, ec_zn48, ec_zn99, ec_zn120, ec_zn127, ec_zn11, ec_zn31, ec_zn46, ec_zn57, ec_zn59, ec_zn63, ec_zn101, ec_zn107, ec_zn108, ec_zn110, ec_zn111, ec_zn115, ec_zn116, ec_zn119, ec_zn167, ec_zn185, ec_zn192, ec_zn215, ec_zn233, ec_zn699, ec_zn932, ec_zn999, ec_znF, ec_zneg, ec_zadd, ec_zsub, ec_zmul, ec_zdivO, ec_em, ec_zltO, ec_zeqO, ec_zeq0, ec_qt, ec_qf, if_pos, if_neg, Int.add_zero, ec_aft_v, ec_aft_n, ec_rwE, ec_rwN, ec_rwP, ec_rwK, ec_rwS, ec_w_shpI, ec_w_shpL, ec_w_shpA, hD, hs, X1, a1, b1]
      · rw [if_neg q2]
        rw [ec_qf q2] at a1
        refine ⟨h1, ?_, a2⟩
        unfold ec_MD at hD hD1
        have hD := And.intro hD hD1
        rw [ec_s194_5]
        simp (disch := first | (simp only [ec_w_kI, ec_w_kL, ec_w_kA, ec_w_shpI, ec_w_shpL, ec_w_shpA, ec_isR_r, ec_01z, ec_01o, ec_01q, hD]; done) | omega | (simp only [ec_w_shpI, ec_w_shpL, ec_w_shpA, hD]; refine ec_zinO ?_; omega) | (refine ec_nzO ?_; omega)) only [ec_s194_0, ec_s194_1, ec_s194_2, ec_s194_6, ec_s194_9, ec_s194_10, ec_s194_13, ec_s194_16, ec_s194_17, ec_s194_20, ec_s194_23, ec_s194_24, ec_s194_27, ec_s194_28, ec_s194_29, ec_zn0, ec_zn1, ec_zn2, ec_zn3, ec_zn4, ec_zn5, ec_zn6, ec_zn7, ec_zn8, ec_zn9, ec_zn10, ec_zn12, ec_zn13, ec_zn14, ec_zn15, ec_zn16, ec_zn20, ec_zn30, ec_zn48, ec_zn99, ec_zn120, ec_zn127, ec_zn11, ec_zn31, ec_zn46, ec_zn57, ec_zn59, ec_zn63, ec_zn101, ec_zn107, ec_zn108, ec_zn110, ec_zn111, ec_zn115, ec_zn116, ec_zn119, ec_zn167, ec_zn185, ec_zn192, ec_zn215, ec_zn233, ec_zn699, ec_zn932, ec_zn999, ec_znF, ec_zneg, ec_zadd, ec_zsub, ec_zmul, ec_zdivO, ec_em, ec_zltO, ec_zeqO, ec_zeq0, ec_qt, ec_qf, if_pos, if_neg, Int.add_zero, ec_aft_v, ec_aft_n, ec_rwE, ec_rwN, ec_rwP, ec_rwK, ec_rwS, ec_w_shpI, ec_w_shpL, ec_w_shpA, hD, hs, X1, a1, a3]
    · rw [if_neg q]
      refine ⟨h, ?_, ec_fg.refl⟩
      unfold ec_MD at hD
      rw [ec_s194_5]
      simp (disch := first | (simp only [ec_w_kI, ec_w_kL, ec_w_kA, ec_w_shpI, ec_w_shpL, ec_w_shpA, ec_isR_r, ec_01z, ec_01o, ec_01q, hD]; done) | omega | (simp only [ec_w_shpI, ec_w_shpL, ec_w_shpA, hD]; refine ec_zinO ?_; omega) | (refine ec_nzO ?_; omega)) only [ec_s194_0, ec_s194_1, ec_s194_2, ec_s194_6, ec_s194_9, ec_s194_10, ec_s194_13, ec_s194_16, ec_s194_17, ec_s194_20, ec_s194_23, ec_s194_24, ec_s194_27, ec_s194_28, ec_s194_29, ec_zn0, ec_zn1, ec_zn2, ec_zn3, ec_zn4, ec_zn5, ec_zn6, ec_zn7, ec_zn8, ec_zn9, ec_zn10, ec_zn12, ec_zn13, ec_zn14, ec_zn15, ec_zn16, ec_zn20, ec_zn30, ec_zn48, ec_zn99, ec_zn120, ec_zn127, ec_zn11, ec_zn31, ec_zn46, ec_zn57, ec_zn59, ec_zn63, ec_zn101, ec_zn107, ec_zn108, ec_zn110, ec_zn111, ec_zn115, ec_zn116, ec_zn119, ec_zn167, ec_zn185, ec_zn192, ec_zn215, ec_zn233, ec_zn699, ec_zn932, ec_zn999, ec_znF, ec_zneg, ec_zadd, ec_zsub, ec_zmul, ec_zdivO, ec_em, ec_zltO, ec_zeqO, ec_zeq0, ec_qt, ec_qf, if_pos, if_neg, Int.add_zero, ec_aft_v, ec_aft_n, ec_rwE, ec_rwN, ec_rwP, ec_rwK, ec_rwS, ec_w_shpI, ec_w_shpL, ec_w_shpA, hD, hs, X1]
/-- a text's fault: none is -1 -/
def ed_flt (L : Int) (T : Int → Int) : Int := ed_fa L T 120 0
theorem ec_c194 {h : ec_Hp} (hD : ec_MD h) {L : Int} {T : Int → Int} (X : ed_TX h L T) : ∃ h', ec_om 194 0 [.ref 72] [] h = some (.inl (some (.int (ec_i (ed_flt L T)))), h') ∧ ec_fg ed_Rd h h' := by
  have F : ec_fg ed_Rd h (ec_setI h 72 15 (ec_i 0)) := ec_fg.refl.I ⟨rfl, Or.inl rfl⟩
  obtain ⟨h1, a1, a2⟩ := ec_c194L 120 0 (ec_setI h 72 15 (ec_i 0)) (hD.of rfl) (X.Rd F) (by rw [ec_rwS]) (by omega) (by have := X.2.1; omega)
  refine ⟨h1, ?_, F.trans a2⟩
  unfold ec_MD at hD
  unfold ed_flt
  simp (disch := first | (simp only [ec_w_kI, ec_w_kL, ec_w_kA, ec_w_shpI, ec_w_shpL, ec_w_shpA, ec_isR_r, ec_01z, ec_01o, ec_01q, hD]; done) | omega | (simp only [ec_w_shpI, ec_w_shpL, ec_w_shpA, hD]; refine ec_zinO ?_; omega) | (refine ec_nzO ?_; omega)) only [ec_s194_0, ec_s194_1, ec_s194_2, ec_s194_6, ec_s194_9, ec_s194_10, ec_s194_13, ec_s194_16, ec_s194_17, ec_s194_20, ec_s194_23, ec_s194_24, ec_s194_27, ec_s194_28, ec_s194_29, ec_zn0, ec_zn1, ec_zn2, ec_zn3, ec_zn4, ec_zn5, ec_zn6, ec_zn7, ec_zn8, ec_zn9, ec_zn10, ec_zn12, ec_zn13, ec_zn14, ec_zn15, ec_zn16, ec_zn20, ec_zn30, ec_zn48, ec_zn99, ec_zn120, ec_zn127, ec_zn11, ec_zn31, ec_zn46, ec_zn57, ec_zn59, ec_zn63, ec_zn101, ec_zn107, ec_zn108, ec_zn110, ec_zn111, ec_zn115, ec_zn116, ec_zn119, ec_zn167, ec_zn185, ec_zn192, ec_zn215, ec_zn233, ec_zn699, ec_zn932, ec_zn999, ec_znF, ec_zneg, ec_zadd, ec_zsub, ec_zmul, ec_zdivO, ec_em, ec_zltO, ec_zeqO, ec_zeq0, ec_qt, ec_qf, if_pos, if_neg, Int.add_zero, ec_aft_v, ec_aft_n, ec_rwE, ec_rwN, ec_rwP, ec_rwK, ec_rwS, ec_w_shpI, ec_w_shpL, ec_w_shpA, hD, a1]
