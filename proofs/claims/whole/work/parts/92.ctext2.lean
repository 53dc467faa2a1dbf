/-! The class's text: orders, faults; types, clears, undoes. -/
set_option maxHeartbeats 2000000 in
theorem ec_c4s {h : ec_Hp} (K : ed_CD h) {L : Int} {T : Int → Int} (X : ed_TC h L T) {i : Int} (hs : h.2.1 70 2 = ec_i i) (hi : 0 ≤ i ∧ i < L) : ∃ h', ec_om 4 0 [.ref 70, .double 0, .double 0, .double 0] [] h = some (.inl (some (.int (ec_i (ec_q (ed_ok L T i))))), h') ∧ ec_fg ed_Rc h h' ∧
    (ed_ok L T i → h'.2.1 70 2 = ec_i (ed_po L T i) ∧ h'.2.1 70 3 = ec_i (ed_ac L T (i + ed_nl L T i)) ∧ h'.2.1 70 4 = ec_i (ed_nt L T i) ∧ h'.2.1 70 5 = h.2.1 70 5) ∧ (¬ ed_ok L T i → h'.2.1 70 5 = ec_i (ed_po L T i)) := by
  have X1 := X.1
  have X2 := X.2.1
  have g0 := ec_c7s K X (i := i) (by omega)
  have g1 := ec_c7s K X (i := i + 1) (by omega)
  have g2 := ec_c7s K X (i := i + 2) (by omega)
  have c0 := ec_c8s K X (i := i) (by omega)
  have c1 := ec_c8s K X (i := i + 1) (by omega)
  have r0 := ed_chc_rg X (i := i) (by omega)
  have r1 := ed_chc_rg X (i := i + 1) (by omega)
  have nr := ed_nl_rg (L := L) (T := T) (i := i)
  have sp : i + 1 + 1 = i + 2 := by omega
  have s0 := ec_c6s K (v := i)
  have s2 := ec_c6s K (v := i + 2)
  have hD := K
  unfold ed_CD at hD
  -- the action behind a number
  have act : ∀ t : Int, ed_nf L T i = -1 → ed_nt L T i = t → (∀ (h2 : ec_Hp) (v : Int), v = 0 ∨ v = 1 → ec_om 5 0 [.ref 70, .int (ec_i (i + ed_nl L T i)), .double 0, .double 0, .double 0] [] (ec_setI h 70 4 (ec_i t)) = some (.inl (some (.int (ec_i v))), h2) → ec_om 4 0 [.ref 70, .double 0, .double 0, .double 0] [] h = some (.inl (some (.int (ec_i v))), h2)) → ∃ h', ec_om 4 0 [.ref 70, .double 0, .double 0, .double 0] [] h = some (.inl (some (.int (ec_i (ec_q (ed_ok L T i))))), h') ∧ ec_fg ed_Rc h h' ∧
    (ed_ok L T i → h'.2.1 70 2 = ec_i (ed_po L T i) ∧ h'.2.1 70 3 = ec_i (ed_ac L T (i + ed_nl L T i)) ∧ h'.2.1 70 4 = ec_i (ed_nt L T i) ∧ h'.2.1 70 5 = h.2.1 70 5) ∧ (¬ ed_ok L T i → h'.2.1 70 5 = ec_i (ed_po L T i)) := by
    intro t q0 qt st
    have F : ec_fg ed_Rc h (ec_setI h 70 4 (ec_i t)) := ec_fg.refl.I ⟨rfl, by decide⟩
    obtain ⟨h2, a1, a2, a3, a4, a5⟩ := ec_c5s (h := ec_setI h 70 4 (ec_i t)) (K.of rfl) (X.Rc F) (j := i + ed_nl L T i) (by omega)
    refine ⟨h2, ?_, F.trans a2, fun ok => ?_, fun nok => ?_⟩
    · rw [st h2 _ (by have := ec_q_rg (p := ed_ac L T (i + ed_nl L T i) ≠ -1); omega) a1, ec_q_c (show ed_ok L T i ↔ ed_ac L T (i + ed_nl L T i) ≠ -1 from ⟨fun y => y.2, fun y => ⟨q0, y⟩⟩)]
    · obtain ⟨b1, b2, b3⟩ := a4 ok.2
      refine ⟨?_, b2, ?_, b3.trans (ec_rwK (by decide))⟩
      · unfold ed_po
        rw [if_pos q0, if_neg ok.2]
        exact b1
      · rw [a3, ec_rwS, qt]
    · have n2 : ed_ac L T (i + ed_nl L T i) = -1 := Classical.byContradiction (fun y => nok ⟨q0, y⟩)
      unfold ed_po
      rw [if_pos q0, if_pos n2]
      exact a5 n2
  by_cases q0 : ed_dgt L T i
  · have q0' := q0
    unfold ed_dgt at q0'
    rw [ec_qt q0] at g0
    by_cases q1 : ed_dgt L T (i + 1)
    · have q1' := q1
      unfold ed_dgt at q1'
      rw [ec_qt q1] at g1
      have n2 : ed_nl L T i = 2 := by
        unfold ed_nl
        rw [if_pos q0, if_pos q1]
      have nt : ed_nt L T i = 10 * (ed_ch L T i - 48) + ed_ch L T (i + 1) - 48 := by
        unfold ed_nt
        rw [n2, if_neg (by decide), if_neg (by decide)]
      have en : (0 * 10 + ed_ch L T i - 48) * 10 + ed_ch L T (i + 1) - 48 = 10 * (ed_ch L T i - 48) + ed_ch L T (i + 1) - 48 := by omega
      by_cases q2 : ed_dgt L T (i + 2)
      · have nf : ed_nf L T i = i + 2 := by
          unfold ed_nf
          rw [if_pos ⟨n2, q2⟩]
        have nok : ¬ ed_ok L T i := fun y => by have := y.1; omega
        rw [ec_qt q2] at g2
        rw [ec_qf nok]
        refine ⟨ec_setI h 70 5 (ec_i (i + 2)), ?_, ec_fg.refl.I ⟨rfl, by decide⟩, fun y => absurd y nok, fun _ => ?_⟩
        · simp (disch := first | (simp only [ec_w_kI, ec_w_kL, ec_w_kA, ec_w_shpI, ec_w_shpL, ec_w_shpA, ec_isR_r, ec_01z, ec_01o, ec_01q, hD]; done) | omega | (simp only [ec_w_shpI, ec_w_shpL, ec_w_shpA, hD]; refine ec_zinO ?_; omega) | (refine ec_nzO ?_; omega)) only [ec_s4_0, ec_s4_1, ec_s4_4, ec_s4_5, ec_s4_8, ec_s4_11, ec_s4_12, ec_s4_13, ec_s4_14, ec_s4_15, ec_s4_16, ec_s4_19, ec_s4_20, ec_s4_21, ec_s4_22, ec_s4_25, ec_s4_26, ec_s4_27, ec_s4_30, ec_s4_31, ec_s4_32, ec_s4_35, ec_s4_38, ec_s4_39, ec_s4_41, ec_s4_42, ec_s4_43, ec_s4_44, ec_s4_47, ec_s4_48, ec_s4_50, ec_s4_51, ec_s4_52, ec_s4_55, ec_s4_58, ec_s4_59, ec_s4_60, ec_s4_63, ec_s4_66, ec_s4_67, ec_s4_68, ec_s4_71, ec_s4_72, ec_s4_73, ec_s4_74, ec_s4_77, ec_s4_80, ec_s4_81, ec_s4_84, ec_s4_85, ec_s4_86, ec_s4_87, ec_s4_90, ec_s4_91, ec_s4_92, ec_s4_95, ec_s4_96, ec_s4_98, ec_s4_101, ec_s4_102, ec_s4_103, ec_s4_106, ec_s4_109, ec_s4_110, ec_s4_111, ec_s4_112, ec_s4_115, ec_s4_116, ec_s4_119, ec_s4_120, ec_s4_123, ec_s4_124, ec_s4_125, ec_s4_128, ec_zn0, ec_zn1, ec_zn2, ec_zn3, ec_zn4, ec_zn5, ec_zn6, ec_zn7, ec_zn8, ec_zn9, ec_zn10, ec_zn12, ec_zn13, ec_zn14, ec_zn15, ec_zn16, ec_zn20, ec_zn30, ec_zn48, ec_zn99, ec_zn120, ec_zn127, ec_zn11, ec_zn31, ec_zn46, ec_zn57, ec_zn59, ec_zn63, ec_zn101, ec_zn107, ec_zn108, ec_zn110, ec_zn111, ec_zn115, ec_zn116, ec_zn119, ec_zn167, ec_zn185, ec_zn192, ec_zn215, ec_zn233, ec_zn699, ec_zn932, ec_zn999, ec_znF, ec_zneg, ec_zadd, ec_zsub, ec_zmul, ec_zdivO, ec_em, ec_zltO, ec_zeqO, ec_zeq0, ec_qt, ec_qf, if_pos, if_neg, Int.add_zero, ec_aft_v, ec_aft_n, ec_rwE, ec_rwN, ec_rwP, ec_rwK, ec_rwS, ec_w_shpI, ec_w_shpL, ec_w_shpA, hD, hs, X1, g0, g1, g2, c0, c1, sp, s2]
        · rw [ec_rwS]
          unfold ed_po
          rw [if_neg (by omega), nf]
      · rw [ec_qf q2] at g2
        by_cases q3 : 1 ≤ 10 * (ed_ch L T i - 48) + ed_ch L T (i + 1) - 48 ∧ 10 * (ed_ch L T i - 48) + ed_ch L T (i + 1) - 48 ≤ 20
        · refine act (10 * (ed_ch L T i - 48) + ed_ch L T (i + 1) - 48) ?_ nt ?_
          · unfold ed_nf
            rw [if_neg (fun z => q2 z.2), if_neg (fun z => z.2 (by rw [nt]; exact q3))]
          · intro h2 v hv st
            rw [n2] at st
            rcases hv with rfl | rfl
            · simp (disch := first | (simp only [ec_w_kI, ec_w_kL, ec_w_kA, ec_w_shpI, ec_w_shpL, ec_w_shpA, ec_isR_r, ec_01z, ec_01o, ec_01q, hD]; done) | omega | (simp only [ec_w_shpI, ec_w_shpL, ec_w_shpA, hD]; refine ec_zinO ?_; omega) | (refine ec_nzO ?_; omega)) only [ec_s4_0, ec_s4_1, ec_s4_4, ec_s4_5, ec_s4_8, ec_s4_11, ec_s4_12, ec_s4_13, ec_s4_14, ec_s4_15, ec_s4_16, ec_s4_19, ec_s4_20, ec_s4_21, ec_s4_22, ec_s4_25, ec_s4_26, ec_s4_27, ec_s4_30, ec_s4_31, ec_s4_32, ec_s4_35, ec_s4_38, ec_s4_39, ec_s4_41, ec_s4_42, ec_s4_43, ec_s4_44, ec_s4_47, ec_s4_48, ec_s4_50, ec_s4_51, ec_s4_52, ec_s4_55, ec_s4_58, ec_s4_59, ec_s4_60, ec_s4_63, ec_s4_66, ec_s4_67, ec_s4_68, ec_s4_71, ec_s4_72, ec_s4_73, ec_s4_74, ec_s4_77, ec_s4_80, ec_s4_81, ec_s4_84, ec_s4_85, ec_s4_86, ec_s4_87, ec_s4_90, ec_s4_91, ec_s4_92, ec_s4_95, ec_s4_96, ec_s4_98, ec_s4_101, ec_s4_102, ec_s4_103, ec_s4_106, ec_s4_109, ec_s4_110, ec_s4_111, ec_s4_112, ec_s4_115, ec_s4_116, ec_s4_119, ec_s4_120, ec_s4_123, ec_s4_124, ec_s4_125, ec_s4_128, ec_zn0, ec_zn1, ec_zn2, ec_zn3, ec_zn4, ec_zn5, ec_zn6, ec_zn7, ec_zn8, ec_zn9, ec_zn10, ec_zn12, ec_zn13, ec_zn14, ec_zn15, ec_zn16, ec_zn20, ec_zn30, ec_zn48, ec_zn99, ec_zn120, ec_zn127, ec_zn11, ec_zn31, ec_zn46, ec_zn57, ec_zn59, ec_zn63, ec_zn101, ec_zn107, ec_zn108, ec_zn110, ec_zn111, ec_zn115, ec_zn116, ec_zn119, ec_zn167, ec_zn185, ec_zn192, ec_zn215, ec_zn233, ec_zn699, ec_zn932, ec_zn999, ec_znF, ec_zneg, ec_zadd, ec_zsub, ec_zmul, ec_zdivO, ec_em, ec_zltO, ec_zeqO, ec_zeq0, ec_qt, ec_qf, if_pos, if_neg, Int.add_zero, ec_aft_v, ec_aft_n, ec_rwE, ec_rwN, ec_rwP, ec_rwK, ec_rwS, ec_w_shpI, ec_w_shpL, ec_w_shpA, hD, hs, X1, g0, g1, g2, c0, c1, sp, en, st]
            · simp (disch := first | (simp only [ec_w_kI, ec_w_kL, ec_w_kA, ec_w_shpI, ec_w_shpL, ec_w_shpA, ec_isR_r, ec_01z, ec_01o, ec_01q, hD]; done) | omega | (simp only [ec_w_shpI, ec_w_shpL, ec_w_shpA, hD]; refine ec_zinO ?_; omega) | (refine ec_nzO ?_; omega)) only [ec_s4_0, ec_s4_1, ec_s4_4, ec_s4_5, ec_s4_8, ec_s4_11, ec_s4_12, ec_s4_13, ec_s4_14, ec_s4_15, ec_s4_16, ec_s4_19, ec_s4_20, ec_s4_21, ec_s4_22, ec_s4_25, ec_s4_26, ec_s4_27, ec_s4_30, ec_s4_31, ec_s4_32, ec_s4_35, ec_s4_38, ec_s4_39, ec_s4_41, ec_s4_42, ec_s4_43, ec_s4_44, ec_s4_47, ec_s4_48, ec_s4_50, ec_s4_51, ec_s4_52, ec_s4_55, ec_s4_58, ec_s4_59, ec_s4_60, ec_s4_63, ec_s4_66, ec_s4_67, ec_s4_68, ec_s4_71, ec_s4_72, ec_s4_73, ec_s4_74, ec_s4_77, ec_s4_80, ec_s4_81, ec_s4_84, ec_s4_85, ec_s4_86, ec_s4_87, ec_s4_90, ec_s4_91, ec_s4_92, ec_s4_95, ec_s4_96, ec_s4_98, ec_s4_101, ec_s4_102, ec_s4_103, ec_s4_106, ec_s4_109, ec_s4_110, ec_s4_111, ec_s4_112, ec_s4_115, ec_s4_116, ec_s4_119, ec_s4_120, ec_s4_123, ec_s4_124, ec_s4_125, ec_s4_128, ec_zn0, ec_zn1, ec_zn2, ec_zn3, ec_zn4, ec_zn5, ec_zn6, ec_zn7, ec_zn8, ec_zn9, ec_zn10, ec_zn12, ec_zn13, ec_zn14, ec_zn15, ec_zn16, ec_zn20, ec_zn30, ec_zn48, ec_zn99, ec_zn120, ec_zn127, ec_zn11, ec_zn31, ec_zn46, ec_zn57, ec_zn59, ec_zn63, ec_zn101, ec_zn107, ec_zn108, ec_zn110, ec_zn111, ec_zn115, ec_zn116, ec_zn119, ec_zn167, ec_zn185, ec_zn192, ec_zn215, ec_zn233, ec_zn699, ec_zn932, ec_zn999, ec_znF, ec_zneg, ec_zadd, ec_zsub, ec_zmul, ec_zdivO, ec_em, ec_zltO, ec_zeqO, ec_zeq0, ec_qt, ec_qf, if_pos, if_neg, Int.add_zero, ec_aft_v, ec_aft_n, ec_rwE, ec_rwN, ec_rwP, ec_rwK, ec_rwS, ec_w_shpI, ec_w_shpL, ec_w_shpA, hD, hs, X1, g0, g1, g2, c0, c1, sp, en, st]
        · have nf : ed_nf L T i = i := by
            unfold ed_nf
            rw [if_neg (fun z => q2 z.2), if_pos ⟨by omega, fun z => q3 (by rw [← nt]; exact z)⟩]
          have nok : ¬ ed_ok L T i := fun y => by have := y.1; omega
          rw [ec_qf nok]
          refine ⟨ec_setI h 70 5 (ec_i i), ?_, ec_fg.refl.I ⟨rfl, by decide⟩, fun y => absurd y nok, fun _ => ?_⟩
          · by_cases q4 : 10 * (ed_ch L T i - 48) + ed_ch L T (i + 1) - 48 < 1
            · simp (disch := first | (simp only [ec_w_kI, ec_w_kL, ec_w_kA, ec_w_shpI, ec_w_shpL, ec_w_shpA, ec_isR_r, ec_01z, ec_01o, ec_01q, hD]; done) | omega | (simp only [ec_w_shpI, ec_w_shpL, ec_w_shpA, hD]; refine ec_zinO ?_; omega) | (refine ec_nzO ?_; omega)) only [ec_s4_0, ec_s4_1, ec_s4_4, ec_s4_5, ec_s4_8, ec_s4_11, ec_s4_12, ec_s4_13, ec_s4_14, ec_s4_15, ec_s4_16, ec_s4_19, ec_s4_20, ec_s4_21, ec_s4_22, ec_s4_25, ec_s4_26, ec_s4_27, ec_s4_30, ec_s4_31, ec_s4_32, ec_s4_35, ec_s4_38, ec_s4_39, ec_s4_41, ec_s4_42, ec_s4_43, ec_s4_44, ec_s4_47, ec_s4_48, ec_s4_50, ec_s4_51, ec_s4_52, ec_s4_55, ec_s4_58, ec_s4_59, ec_s4_60, ec_s4_63, ec_s4_66, ec_s4_67, ec_s4_68, ec_s4_71, ec_s4_72, ec_s4_73, ec_s4_74, ec_s4_77, ec_s4_80, ec_s4_81, ec_s4_84, ec_s4_85, ec_s4_86, ec_s4_87, ec_s4_90, ec_s4_91, ec_s4_92, ec_s4_95, ec_s4_96, ec_s4_98, ec_s4_101, ec_s4_102, ec_s4_103, ec_s4_106, ec_s4_109, ec_s4_110, ec_s4_111, ec_s4_112, ec_s4_115, ec_s4_116, ec_s4_119, ec_s4_120, ec_s4_123, ec_s4_124, ec_s4_125, ec_s4_128, ec_zn0, ec_zn1, ec_zn2, ec_zn3, ec_zn4, ec_zn5, ec_zn6, ec_zn7, ec_zn8, ec_zn9, ec_zn10, ec_zn12, ec_zn13, ec_zn14, ec_zn15, ec_zn16, ec_zn20, ec_zn30, ec_zn48, ec_zn99, ec_zn120, ec_zn127, ec_zn11, ec_zn31, ec_zn46, ec_zn57, ec_zn59, ec_zn63, ec_zn101, ec_zn107, ec_zn108, ec_zn110, ec_zn111, ec_zn115, ec_zn116, ec_zn119, ec_zn167, ec_zn185, ec_zn192, ec_zn215, ec_zn233, ec_zn699, ec_zn932, ec_zn999, ec_znF, ec_zneg, ec_zadd, ec_zsub, ec_zmul, ec_zdivO, ec_em, ec_zltO, ec_zeqO, ec_zeq0, ec_qt, ec_qf, if_pos, if_neg, Int.add_zero, ec_aft_v, ec_aft_n, ec_rwE, ec_rwN, ec_rwP, ec_rwK, ec_rwS, ec_w_shpI, ec_w_shpL, ec_w_shpA, hD, hs, X1, g0, g1, g2, c0, c1, sp, en, s0]
            · simp (disch := first | (simp only [ec_w_kI, ec_w_kL, ec_w_kA, ec_w_shpI, ec_w_shpL, ec_w_shpA, ec_isR_r, ec_01z, ec_01o, ec_01q, hD]; done) | omega | (simp only [ec_w_shpI, ec_w_shpL, ec_w_shpA, hD]; refine ec_zinO ?_; omega) | (refine ec_nzO ?_; omega)) only [ec_s4_0, ec_s4_1, ec_s4_4, ec_s4_5, ec_s4_8, ec_s4_11, ec_s4_12, ec_s4_13, ec_s4_14, ec_s4_15, ec_s4_16, ec_s4_19, ec_s4_20, ec_s4_21, ec_s4_22, ec_s4_25, ec_s4_26, ec_s4_27, ec_s4_30, ec_s4_31, ec_s4_32, ec_s4_35, ec_s4_38, ec_s4_39, ec_s4_41, ec_s4_42, ec_s4_43, ec_s4_44, ec_s4_47, ec_s4_48, ec_s4_50, ec_s4_51, ec_s4_52, ec_s4_55, ec_s4_58, ec_s4_59, ec_s4_60, ec_s4_63, ec_s4_66, ec_s4_67, ec_s4_68, ec_s4_71, ec_s4_72, ec_s4_73, ec_s4_74, ec_s4_77, ec_s4_80, ec_s4_81, ec_s4_84, ec_s4_85, ec_s4_86, ec_s4_87, ec_s4_90, ec_s4_91, ec_s4_92, ec_s4_95, ec_s4_96, ec_s4_98, ec_s4_101, ec_s4_102, ec_s4_103, ec_s4_106, ec_s4_109, ec_s4_110, ec_s4_111, ec_s4_112, ec_s4_115, ec_s4_116, ec_s4_119, ec_s4_120, ec_s4_123, ec_s4_124, ec_s4_125, ec_s4_128, ec_zn0, ec_zn1, ec_zn2, ec_zn3, ec_zn4, ec_zn5, ec_zn6, ec_zn7, ec_zn8, ec_zn9, ec_zn10, ec_zn12, ec_zn13, ec_zn14, ec_zn15, ec_zn16, ec_zn20, ec_zn30, ec_zn48, ec_zn99, ec_zn120, ec_zn127, ec_zn11, ec_zn31, ec_zn46, ec_zn57, ec_zn59, ec_zn63, ec_zn101, ec_zn107, ec_zn108, ec_zn110, ec_zn111, ec_zn115, ec_zn116, ec_zn119, ec_zn167, ec_zn185, ec_zn192, ec_zn215, ec_zn233, ec_zn699, ec_zn932, ec_zn999, ec_znF, ec_zneg, ec_zadd, ec_zsub, ec_zmul, ec_zdivO, ec_em, ec_zltO, ec_zeqO, ec_zeq0, ec_qt, ec_qf, if_pos, if_neg, Int.add_zero, ec_aft_v, ec_aft_n, ec_rwE, ec_rwN, ec_rwP, ec_rwK, ec_rwS, ec_w_shpI, ec_w_shpL, ec_w_shpA, hD, hs, X1, g0, g1, g2, c0, c1, sp, en, s0]
          · rw [ec_rwS]
            unfold ed_po
            rw [if_neg (by omega), nf]
    · rw [ec_qf q1] at g1
      have n1 : ed_nl L T i = 1 := by
        unfold ed_nl
        rw [if_pos q0, if_neg q1]
      have nt : ed_nt L T i = ed_ch L T i - 48 := by
        unfold ed_nt
        rw [n1, if_neg (by decide), if_pos rfl]
      have en : 0 * 10 + ed_ch L T i - 48 = ed_ch L T i - 48 := by omega
      by_cases q3 : 1 ≤ ed_ch L T i - 48 ∧ ed_ch L T i - 48 ≤ 20
      · refine act (ed_ch L T i - 48) ?_ nt ?_
        · unfold ed_nf
          rw [if_neg (fun z => by have := z.1; omega), if_neg (fun z => z.2 (by rw [nt]; exact q3))]
        · intro h2 v hv st
          rw [n1] at st
          rcases hv with rfl | rfl
          · simp (disch := first | (simp only [ec_w_kI, ec_w_kL, ec_w_kA, ec_w_shpI, ec_w_shpL, ec_w_shpA, ec_isR_r, ec_01z, ec_01o, ec_01q, hD]; done) | omega | (simp only [ec_w_shpI, ec_w_shpL, ec_w_shpA, hD]; refine ec_zinO ?_; omega) | (refine ec_nzO ?_; omega)) only [ec_s4_0, ec_s4_1, ec_s4_4, ec_s4_5, ec_s4_8, ec_s4_11, ec_s4_12, ec_s4_13, ec_s4_14, ec_s4_15, ec_s4_16, ec_s4_19, ec_s4_20, ec_s4_21, ec_s4_22, ec_s4_25, ec_s4_26, ec_s4_27, ec_s4_30, ec_s4_31, ec_s4_32, ec_s4_35, ec_s4_38, ec_s4_39, ec_s4_41, ec_s4_42, ec_s4_43, ec_s4_44, ec_s4_47, ec_s4_48, ec_s4_50, ec_s4_51, ec_s4_52, ec_s4_55, ec_s4_58, ec_s4_59, ec_s4_60, ec_s4_63, ec_s4_66, ec_s4_67, ec_s4_68, ec_s4_71, ec_s4_72, ec_s4_73, ec_s4_74, ec_s4_77, ec_s4_80, ec_s4_81, ec_s4_84, ec_s4_85, ec_s4_86, ec_s4_87, ec_s4_90, ec_s4_91, ec_s4_92, ec_s4_95, ec_s4_96, ec_s4_98, ec_s4_101, ec_s4_102, ec_s4_103, ec_s4_106, ec_s4_109, ec_s4_110, ec_s4_111, ec_s4_112, ec_s4_115, ec_s4_116, ec_s4_119, ec_s4_120, ec_s4_123, ec_s4_124, ec_s4_125, ec_s4_128, ec_zn0, ec_zn1, ec_zn2, ec_zn3, ec_zn4, ec_zn5, ec_zn6, ec_zn7, ec_zn8, ec_zn9, ec_zn10, ec_zn12, ec_zn13, ec_zn14, ec_zn15, ec_zn16, ec_zn20, ec_zn30, ec_zn48, ec_zn99, ec_zn120, ec_zn127, ec_zn11, ec_zn31, ec_zn46, ec_zn57, ec_zn59, ec_zn63, ec_zn101, ec_zn107, ec_zn108, ec_zn110, ec_zn111, ec_zn115, ec_zn116, ec_zn119, ec_zn167, ec_zn185, ec_zn192, ec_zn215, ec_zn233, ec_zn699, ec_zn932, ec_zn999, ec_znF, ec_zneg, ec_zadd, ec_zsub, ec_zmul, ec_zdivO, ec_em, ec_zltO, ec_zeqO, ec_zeq0, ec_qt, ec_qf, if_pos, if_neg, Int.add_zero, ec_aft_v, ec_aft_n, ec_rwE, ec_rwN, ec_rwP, ec_rwK, ec_rwS, ec_w_shpI, ec_w_shpL, ec_w_shpA, hD, hs, X1, g0, g1, c0, sp, en, st]
          · simp (disch := first | (simp only [ec_w_kI, ec_w_kL, ec_w_kA, ec_w_shpI, ec_w_shpL, ec_w_shpA, ec_isR_r, ec_01z, ec_01o, ec_01q, hD]; done) | omega | (simp only [ec_w_shpI, ec_w_shpL, ec_w_shpA, hD]; refine ec_zinO ?_; omega) | (refine ec_nzO ?_; omega)) only [ec_s4_0, ec_s4_1, ec_s4_4, ec_s4_5, ec_s4_8, ec_s4_11, ec_s4_12, ec_s4_13, ec_s4_14, ec_s4_15, ec_s4_16, ec_s4_19, ec_s4_20, ec_s4_21, ec_s4_22, ec_s4_25, ec_s4_26, ec_s4_27, ec_s4_30, ec_s4_31, ec_s4_32, ec_s4_35, ec_s4_38, ec_s4_39, ec_s4_41, ec_s4_42, ec_s4_43, ec_s4_44, ec_s4_47, ec_s4_48, ec_s4_50, ec_s4_51, ec_s4_52, ec_s4_55, ec_s4_58, ec_s4_59, ec_s4_60, ec_s4_63, ec_s4_66, ec_s4_67, ec_s4_68, ec_s4_71, ec_s4_72, ec_s4_73, ec_s4_74, ec_s4_77, ec_s4_80, ec_s4_81, ec_s4_84, ec_s4_85, ec_s4_86, ec_s4_87, ec_s4_90, ec_s4_91, ec_s4_92, ec_s4_95, ec_s4_96, ec_s4_98, ec_s4_101, ec_s4_102, ec_s4_103, ec_s4_106, ec_s4_109, ec_s4_110, ec_s4_111, ec_s4_112, ec_s4_115, ec_s4_116, ec_s4_119, ec_s4_120, ec_s4_123, ec_s4_124, ec_s4_125, ec_s4_128, ec_zn0, ec_zn1, ec_zn2, ec_zn3, ec_zn4, ec_zn5, ec_zn6, ec_zn7, ec_zn8, ec_zn9, ec_zn10, ec_zn12, ec_zn13, ec_zn14, ec_zn15, ec_zn16, ec_zn20, ec_zn30, ec_zn48, ec_zn99, ec_zn120, ec_zn127, ec_zn11, ec_zn31, ec_zn46, ec_zn57, ec_zn59, ec_zn63, ec_zn101, ec_zn107, ec_zn108, ec_zn110, ec_zn111, ec_zn115, ec_zn116, ec_zn119, ec_zn167, ec_zn185, ec_zn192, ec_zn215, ec_zn233, ec_zn699, ec_zn932, ec_zn999, ec_znF, ec_zneg, ec_zadd, ec_zsub, ec_zmul, ec_zdivO, ec_em, ec_zltO, ec_zeqO, ec_zeq0, ec_qt, ec_qf, if_pos, if_neg, Int.add_zero, ec_aft_v, ec_aft_n, ec_rwE, ec_rwN, ec_rwP, ec_rwK, ec_rwS, ec_w_shpI, ec_w_shpL, ec_w_shpA, hD, hs, X1, g0, g1, c0, sp, en, st]
      · have nf : ed_nf L T i = i := by
          unfold ed_nf
          rw [if_neg (fun z => by have := z.1; omega), if_pos ⟨by omega, fun z => q3 (by rw [← nt]; exact z)⟩]
        have nok : ¬ ed_ok L T i := fun y => by have := y.1; omega
        rw [ec_qf nok]
        refine ⟨ec_setI h 70 5 (ec_i i), ?_, ec_fg.refl.I ⟨rfl, by decide⟩, fun y => absurd y nok, fun _ => ?_⟩
        · simp (disch := first | (simp only [ec_w_kI, ec_w_kL, ec_w_kA, ec_w_shpI, ec_w_shpL, ec_w_shpA, ec_isR_r, ec_01z, ec_01o, ec_01q, hD]; done) | omega | (simp only [ec_w_shpI, ec_w_shpL, ec_w_shpA, hD]; refine ec_zinO ?_; omega) | (refine ec_nzO ?_; omega)) only [ec_s4_0, ec_s4_1, ec_s4_4, ec_s4_5, ec_s4_8, ec_s4_11, ec_s4_12, ec_s4_13, ec_s4_14, ec_s4_15, ec_s4_16, ec_s4_19, ec_s4_20, ec_s4_21, ec_s4_22, ec_s4_25, ec_s4_26, ec_s4_27, ec_s4_30, ec_s4_31, ec_s4_32, ec_s4_35, ec_s4_38, ec_s4_39, ec_s4_41, ec_s4_42, ec_s4_43, ec_s4_44, ec_s4_47, ec_s4_48, ec_s4_50, ec_s4_51, ec_s4_52, ec_s4_55, ec_s4_58, ec_s4_59, ec_s4_60, ec_s4_63, ec_s4_66, ec_s4_67, ec_s4_68, ec_s4_71, ec_s4_72, ec_s4_73, ec_s4_74, ec_s4_77, ec_s4_80, ec_s4_81, ec_s4_84, ec_s4_85, ec_s4_86, ec_s4_87, ec_s4_90, ec_s4_91, ec_s4_92, ec_s4_95, ec_s4_96, ec_s4_98, ec_s4_101, ec_s4_102, ec_s4_103, ec_s4_106, ec_s4_109, ec_s4_110, ec_s4_111, ec_s4_112, ec_s4_115, ec_s4_116, ec_s4_119, ec_s4_120, ec_s4_123, ec_s4_124, ec_s4_125, ec_s4_128, ec_zn0, ec_zn1, ec_zn2, ec_zn3, ec_zn4, ec_zn5, ec_zn6, ec_zn7, ec_zn8, ec_zn9, ec_zn10, ec_zn12, ec_zn13, ec_zn14, ec_zn15, ec_zn16, ec_zn20, ec_zn30, ec_zn48, ec_zn99, ec_zn120, ec_zn127, ec_zn11, ec_zn31, ec_zn46, ec_zn57, ec_zn59, ec_zn63, ec_zn101, ec_zn107, ec_zn108, ec_zn110, ec_zn111, ec_zn115, ec_zn116, ec_zn119, ec_zn167, ec_zn185, ec_zn192, ec_zn215, ec_zn233, ec_zn699, ec_zn932, ec_zn999, ec_znF, ec_zneg, ec_zadd, ec_zsub, ec_zmul, ec_zdivO, ec_em, ec_zltO, ec_zeqO, ec_zeq0, ec_qt, ec_qf, if_pos, if_neg, Int.add_zero, ec_aft_v, ec_aft_n, ec_rwE, ec_rwN, ec_rwP, ec_rwK, ec_rwS, ec_w_shpI, ec_w_shpL, ec_w_shpA, hD, hs, X1, g0, g1, c0, sp, en, s0]
        · rw [ec_rwS]
          unfold ed_po
          rw [if_neg (by omega), nf]
  · rw [ec_qf q0] at g0
    have n0 : ed_nl L T i = 0 := by
      unfold ed_nl
      rw [if_neg q0]
    have nt : ed_nt L T i = 1 := by
      unfold ed_nt
      rw [n0, if_pos rfl]
    refine act 1 ?_ nt ?_
    · unfold ed_nf
      rw [if_neg (fun z => by have := z.1; omega), if_neg (fun z => z.1 n0)]
    · intro h2 v hv st
      rw [n0, Int.add_zero] at st
      rcases hv with rfl | rfl
      · simp (disch := first | (simp only [ec_w_kI, ec_w_kL, ec_w_kA, ec_w_shpI, ec_w_shpL, ec_w_shpA, ec_isR_r, ec_01z, ec_01o, ec_01q, hD]; done) | omega | (simp only [ec_w_shpI, ec_w_shpL, ec_w_shpA, hD]; refine ec_zinO ?_; omega) | (refine ec_nzO ?_; omega)) only [ec_s4_0, ec_s4_1, ec_s4_4, ec_s4_5, ec_s4_8, ec_s4_11, ec_s4_12, ec_s4_13, ec_s4_14, ec_s4_15, ec_s4_16, ec_s4_19, ec_s4_20, ec_s4_21, ec_s4_22, ec_s4_25, ec_s4_26, ec_s4_27, ec_s4_30, ec_s4_31, ec_s4_32, ec_s4_35, ec_s4_38, ec_s4_39, ec_s4_41, ec_s4_42, ec_s4_43, ec_s4_44, ec_s4_47, ec_s4_48, ec_s4_50, ec_s4_51, ec_s4_52, ec_s4_55, ec_s4_58, ec_s4_59, ec_s4_60, ec_s4_63, ec_s4_66, ec_s4_67, ec_s4_68, ec_s4_71, ec_s4_72, ec_s4_73, ec_s4_74, ec_s4_77, ec_s4_80, ec_s4_81, ec_s4_84, ec_s4_85, ec_s4_86, ec_s4_87, ec_s4_90, ec_s4_91, ec_s4_92, ec_s4_95, ec_s4_96, ec_s4_98, ec_s4_101, ec_s4_102, ec_s4_103, ec_s4_106, ec_s4_109, ec_s4_110, ec_s4_111, ec_s4_112, ec_s4_115, ec_s4_116, ec_s4_119, ec_s4_120, ec_s4_123, ec_s4_124, ec_s4_125, ec_s4_128, ec_zn0, ec_zn1, ec_zn2, ec_zn3, ec_zn4, ec_zn5, ec_zn6, ec_zn7, ec_zn8, ec_zn9, ec_zn10, ec_zn12, ec_zn13, ec_zn14, ec_zn15, ec_zn16, ec_zn20, ec_zn30, ec_zn48, ec_zn99, ec_zn120, ec_zn127, ec_zn11, ec_zn31, ec_zn46, ec_zn57, ec_zn59, ec_zn63, ec_zn101, ec_zn107, ec_zn108, ec_zn110, ec_zn111, ec_zn115, ec_zn116, ec_zn119, ec_zn167, ec_zn185, ec_zn192, ec_zn215, ec_zn233, ec_zn699, ec_zn932, ec_zn999, ec_znF, ec_zneg, ec_zadd, ec_zsub, ec_zmul, ec_zdivO, ec_em, ec_zltO, ec_zeqO, ec_zeq0, ec_qt, ec_qf, if_pos, if_neg, Int.add_zero, ec_aft_v, ec_aft_n, ec_rwE, ec_rwN, ec_rwP, ec_rwK, ec_rwS, ec_w_shpI, ec_w_shpL, ec_w_shpA, hD, hs, X1, g0, sp, st]
      · simp (disch := first | (simp only [ec_w_kI, ec_w_kL, ec_w_kA, ec_w_shpI, ec_w_shpL, ec_w_shpA, ec_isR_r, ec_01z, ec_01o, ec_01q, hD]; done) | omega | (simp only [ec_w_shpI, ec_w_shpL, ec_w_shpA, hD]; refine ec_zinO ?_; omega) | (refine ec_nzO ?_; omega)) only [ec_s4_0, ec_s4_1, ec_s4_4, ec_s4_5, ec_s4_8, ec_s4_11, ec_s4_12, ec_s4_13, ec_s4_14, ec_s4_15, ec_s4_16, ec_s4_19, ec_s4_20, ec_s4_21, ec_s4_22, ec_s4_25, ec_s4_26, ec_s4_27, ec_s4_30, ec_s4_31, ec_s4_32, ec_s4_35, ec_s4_38, ec_s4_39, ec_s4_41, ec_s4_42, ec_s4_43, ec_s4_44, ec_s4_47, ec_s4_48, ec_s4_50, ec_s4_51, ec_s4_52, ec_s4_55, ec_s4_58, ec_s4_59, ec_s4_60, ec_s4_63, ec_s4_66, ec_s4_67, ec_s4_68, ec_s4_71, ec_s4_72, ec_s4_73, ec_s4_74, ec_s4_77, ec_s4_80, ec_s4_81, ec_s4_84, ec_s4_85, ec_s4_86, ec_s4_87, ec_s4_90, ec_s4_91, ec_s4_92, ec_s4_95, ec_s4_96, ec_s4_98, ec_s4_101, ec_s4_102, ec_s4_103, ec_s4_106, ec_s4_109, ec_s4_110, ec_s4_111, ec_s4_112, ec_s4_115, ec_s4_116, ec_s4_119, ec_s4_120, ec_s4_123, ec_s4_124, ec_s4_125, ec_s4_128, ec_zn0, ec_zn1, ec_zn2, ec_zn3, ec_zn4, ec_zn5, ec_zn6, ec_zn7, ec_zn8, ec_zn9, ec_zn10, ec_zn12, ec_zn13, ec_zn14, ec_zn15, ec_zn16, ec_zn20, ec_zn30, ec_zn48, ec_zn99, ec_zn120, ec_zn127, ec_zn11, ec_zn31, ec_zn46, ec_zn57, ec_zn59, ec_zn63, ec_zn101, ec_zn107, ec_zn108, ec_zn110, ec_zn111, ec_zn115, ec_zn116, ec_zn119, ec_zn167, ec_zn185, ec_zn192, ec_zn215, ec_zn233, ec_zn699, ec_zn932, ec_zn999, ec_znF, ec_zneg, ec_zadd, ec_zsub, ec_zmul, ec_zdivO, ec_em, ec_zltO, ec_zeqO, ec_zeq0, ec_qt, ec_qf, if_pos, if_neg, Int.add_zero, ec_aft_v, ec_aft_n, ec_rwE, ec_rwN, ec_rwP, ec_rwK, ec_rwS, ec_w_shpI, ec_w_shpL, ec_w_shpA, hD, hs, X1, g0, sp, st]
theorem ec_c4e {h : ec_Hp} (K : ed_CD h) {L : Int} {T : Int → Int} (X : ed_TC h L T) {i : Int} (hs : h.2.1 70 2 = ec_i i) (hi : L ≤ i ∧ i ≤ 200) : ec_om 4 0 [.ref 70, .double 0, .double 0, .double 0] [] h = some (.inl (some (.int (ec_i 0))), h) := by
  have X1 := X.1
  have X2 := X.2.1
  have hD := K
  unfold ed_CD at hD
  simp (disch := first | (simp only [ec_w_kI, ec_w_kL, ec_w_kA, ec_w_shpI, ec_w_shpL, ec_w_shpA, ec_isR_r, ec_01z, ec_01o, ec_01q, hD]; done) | omega | (simp only [ec_w_shpI, ec_w_shpL, ec_w_shpA, hD]; refine ec_zinO ?_; omega) | (refine ec_nzO ?_; omega)) only [ec_s4_0, ec_s4_1, ec_s4_4, ec_s4_5, ec_s4_8, ec_s4_11, ec_s4_12, ec_s4_13, ec_s4_14, ec_s4_15, ec_s4_16, ec_s4_19, ec_s4_20, ec_s4_21, ec_s4_22, ec_s4_25, ec_s4_26, ec_s4_27, ec_s4_30, ec_s4_31, ec_s4_32, ec_s4_35, ec_s4_38, ec_s4_39, ec_s4_41, ec_s4_42, ec_s4_43, ec_s4_44, ec_s4_47, ec_s4_48, ec_s4_50, ec_s4_51, ec_s4_52, ec_s4_55, ec_s4_58, ec_s4_59, ec_s4_60, ec_s4_63, ec_s4_66, ec_s4_67, ec_s4_68, ec_s4_71, ec_s4_72, ec_s4_73, ec_s4_74, ec_s4_77, ec_s4_80, ec_s4_81, ec_s4_84, ec_s4_85, ec_s4_86, ec_s4_87, ec_s4_90, ec_s4_91, ec_s4_92, ec_s4_95, ec_s4_96, ec_s4_98, ec_s4_101, ec_s4_102, ec_s4_103, ec_s4_106, ec_s4_109, ec_s4_110, ec_s4_111, ec_s4_112, ec_s4_115, ec_s4_116, ec_s4_119, ec_s4_120, ec_s4_123, ec_s4_124, ec_s4_125, ec_s4_128, ec_zn0, ec_zn1, ec_zn2, ec_zn3, ec_zn4, ec_zn5, ec_zn6, ec_zn7, ec_zn8, ec_zn9, ec_zn10, ec_zn12, ec_zn13, ec_zn14, ec_zn15, ec_zn16, ec_zn20, ec_zn30, ec_zn48, ec_zn99, ec_zn120, ec_zn127, ec_zn11, ec_zn31, ec_zn46, ec_zn57, ec_zn59, ec_zn63, ec_zn101, ec_zn107, ec_zn108, ec_zn110, ec_zn111, ec_zn115, ec_zn116, ec_zn119, ec_zn167, ec_zn185, ec_zn192, ec_zn215, ec_zn233, ec_zn699, ec_zn932, ec_zn999, ec_znF, ec_zneg, ec_zadd, ec_zsub, ec_zmul, ec_zdivO, ec_em, ec_zltO, ec_zeqO, ec_zeq0, ec_qt, ec_qf, if_pos, if_neg, Int.add_zero, ec_aft_v, ec_aft_n, ec_rwE, ec_rwN, ec_rwP, ec_rwK, ec_rwS, ec_w_shpI, ec_w_shpL, ec_w_shpA, hD, hs, X1]
theorem ec_c2s {h : ec_Hp} (K : ed_CD h) : ∃ h', ec_om 2 0 [.ref 70] [] h = some (.inl none, h') ∧ h'.2.1 70 2 = ec_i 0 ∧ h'.2.1 70 5 = ec_i (-1) ∧ ec_fg ed_Rc h h' := by
  have hD := K
  unfold ed_CD at hD
  refine ⟨ec_setI (ec_setI h 70 2 (ec_i 0)) 70 5 (ec_i (-1)), ?_, by rw [ec_rwK (by decide), ec_rwS], by rw [ec_rwS], (ec_fg.refl.I ⟨rfl, by decide⟩).I ⟨rfl, by decide⟩⟩
  simp (disch := first | (simp only [ec_w_kI, ec_w_kL, ec_w_kA, ec_w_shpI, ec_w_shpL, ec_w_shpA, ec_isR_r, ec_01z, ec_01o, ec_01q, hD]; done) | omega | (simp only [ec_w_shpI, ec_w_shpL, ec_w_shpA, hD]; refine ec_zinO ?_; omega) | (refine ec_nzO ?_; omega)) only [ec_s2_0, ec_s2_1, ec_s2_2, ec_s2_5, ec_s2_6, ec_s2_7, ec_s2_10, ec_zn0, ec_zn1, ec_zn2, ec_zn3, ec_zn4, ec_zn5, ec_zn6, ec_zn7, ec_zn8, ec_zn9, ec_zn10, ec_zn12, ec_zn13, ec_zn14, ec_zn15, ec_zn16, ec_zn20, ec_zn30, ec_zn48, ec_zn99, ec_zn120, ec_zn127, ec_zn11, ec_zn31, ec_zn46, ec_zn57, ec_zn59, ec_zn63, ec_zn101, ec_zn107, ec_zn108, ec_zn110, ec_zn111, ec_zn115, ec_zn116, ec_zn119, ec_zn167, ec_zn185, ec_zn192, ec_zn215, ec_zn233, ec_zn699, ec_zn932, ec_zn999, ec_znF, ec_zneg, ec_zadd, ec_zsub, ec_zmul, ec_zdivO, ec_em, ec_zltO, ec_zeqO, ec_zeq0, ec_qt, ec_qf, if_pos, if_neg, Int.add_zero, ec_aft_v, ec_aft_n, ec_rwE, ec_rwN, ec_rwP, ec_rwK, ec_rwS, ec_w_shpI, ec_w_shpL, ec_w_shpA, hD]
theorem ec_c3L {L : Int} {T : Int → Int} : ∀ (n : Nat) (k i : Int) (h : ec_Hp), ed_CD h → ed_TC h L T → h.2.1 70 2 = ec_i i → h.2.1 70 5 = ec_i (-1) → 0 ≤ i ∧ i ≤ 200 → 0 ≤ k → k + n = 120 →
    ∃ h', ec_om 3 6 [.ref 70, .int (ec_i k)] [] h = some (.inl (some (.int (ec_i (ed_fa L T n i)))), h') ∧ ec_fg ed_Rc h h' := by
  intro n
  induction n with
  | zero =>
    intro k i h K X hs hf hi h0 hk
    refine ⟨h, ?_, ec_fg.refl⟩
    have hD := K
    unfold ed_CD at hD
    rw [ec_s3_6]
    simp (disch := first | (simp only [ec_w_kI, ec_w_kL, ec_w_kA, ec_w_shpI, ec_w_shpL, ec_w_shpA, ec_isR_r, ec_01z, ec_01o, ec_01q, hD]; done) | omega | (simp only [ec_w_shpI, ec_w_shpL, ec_w_shpA, hD]; refine ec_zinO ?_; omega) | (refine ec_nzO ?_; omega)) only [ec_s3_0, ec_s3_1, ec_s3_4, ec_s3_5, ec_s3_7, ec_s3_9, ec_s3_12, ec_s3_13, ec_s3_16, ec_s3_19, ec_s3_22, ec_s3_25, ec_s3_26, ec_s3_29, ec_zn0, ec_zn1, ec_zn2, ec_zn3, ec_zn4, ec_zn5, ec_zn6, ec_zn7, ec_zn8, ec_zn9, ec_zn10, ec_zn12, ec_zn13, ec_zn14, ec_zn15, ec_zn16, ec_zn20, ec_zn30, ec_zn48, ec_zn99, ec_zn120, ec_zn127, ec_zn11, ec_zn31, ec_zn46, ec_zn57, ec_zn59, ec_zn63, ec_zn101, ec_zn107, ec_zn108, ec_zn110, ec_zn111, ec_zn115, ec_zn116, ec_zn119, ec_zn167, ec_zn185, ec_zn192, ec_zn215, ec_zn233, ec_zn699, ec_zn932, ec_zn999, ec_znF, ec_zneg, ec_zadd, ec_zsub, ec_zmul, ec_zdivO, ec_em, ec_zltO, ec_zeqO, ec_zeq0, ec_qt, ec_qf, if_pos, if_neg, Int.add_zero, ec_aft_v, ec_aft_n, ec_rwE, ec_rwN, ec_rwP, ec_rwK, ec_rwS, ec_w_shpI, ec_w_shpL, ec_w_shpA, hD, hf]
    rfl
  | succ n ih =>
    intro k i h K X hs hf hi h0 hk
    rw [show ed_fa L T (n + 1) i = if i < L then (if ed_ok L T i then ed_fa L T n (ed_po L T i) else ed_po L T i) else -1 from rfl]
    have X2 := X.2.1
    by_cases q : i < L
    · rw [if_pos q]
      obtain ⟨h1, a1, a2, a3, a4⟩ := ec_c4s K X hs ⟨hi.1, q⟩
      have K1 := K.of a2.1.1
      by_cases q2 : ed_ok L T i
      · rw [if_pos q2]
        rw [ec_qt q2] at a1
        obtain ⟨b1, b2, b3, b4⟩ := a3 q2
        have p0 := ed_po_0 (L := L) (T := T) hi.1
        have p1 := ed_po_le (L := L) (T := T) hi.1
        obtain ⟨h2, d1, d2⟩ := ih (k + 1) (ed_po L T i) h1 K1 (X.Rc a2) b1 (b4.trans hf) (by omega) (by omega) (by omega)
        refine ⟨h2, ?_, a2.trans d2⟩
        unfold ed_CD at K K1
        have hD := And.intro K K1
        rw [ec_s3_6]
        simp (disch := first | (simp only [ec_w_kI, ec_w_kL, ec_w_kA, ec_w_shpI, ec_w_shpL, ec_w_shpA, ec_isR_r, ec_01z, ec_01o, ec_01q, hD]; done) | omega | (simp only [ec_w_shpI, ec_w_shpL, ec_w_shpA, hD]; refine ec_zinO ?_; omega) | (refine ec_nzO ?_; omega)) only [ec_s3_0, ec_s3_1, ec_s3_4, ec_s3_5, ec_s3_7, ec_s3_9, ec_s3_12, ec_s3_13, ec_s3_16, ec_s3_19, ec_s3_22, ec_s3_25, ec_s3_26, ec_s3_29, ec_zn0, ec_zn1, ec_zn2, ec_zn3, ec_zn4, ec_zn5, ec_zn6, ec_zn7, ec_zn8, ec_zn9, ec_zn10, ec_zn12, ec_zn13, ec_zn14, ec_zn15, ec_zn16, ec_zn20, ec_zn30, ec_zn48, ec_zn99, ec_zn120, ec_zn127, ec_zn11, ec_zn31, ec_zn46, ec_zn57, ec_zn59, ec_zn63, ec_zn101, ec_zn107, ec_zn108, ec_zn110, ec_zn111, ec_zn115, ec_zn116, ec_zn119, ec_zn167, ec_zn185, ec_zn192, ec_zn215, ec_zn233, ec_zn699, ec_zn932, ec_zn999, ec_znF, ec_zneg, ec_zadd, ec_zsub, ec_zmul, ec_zdivO, ec_em, ec_zltO, ec_zeqO, ec_zeq0, ec_qt, ec_qf, if_pos, if_neg, Int.add_zero, ec_aft_v, ec_aft_n, ec_rwE, ec_rwN, ec_rwP, ec_rwK, ec_rwS, ec_w_shpI, ec_w_shpL, ec_w_shpA, hD, a1, d1]
      · rw [if_neg q2]
        rw [ec_qf q2] at a1
        have a4 := a4 q2
        refine ⟨h1, ?_, a2⟩
        unfold ed_CD at K K1
        have hD := And.intro K K1
        rw [ec_s3_6]
        simp (disch := first | (simp only [ec_w_kI, ec_w_kL, ec_w_kA, ec_w_shpI, ec_w_shpL, ec_w_shpA, ec_isR_r, ec_01z, ec_01o, ec_01q, hD]; done) | omega | (simp only [ec_w_shpI, ec_w_shpL, ec_w_shpA, hD]; refine ec_zinO ?_; omega) | (refine ec_nzO ?_; omega)) only [ec_s3_0, ec_s3_1, ec_s3_4, ec_s3_5, ec_s3_7, ec_s3_9, ec_s3_12, ec_s3_13, ec_s3_16, ec_s3_19, ec_s3_22, ec_s3_25, ec_s3_26, ec_s3_29, ec_zn0, ec_zn1, ec_zn2, ec_zn3, ec_zn4, ec_zn5, ec_zn6, ec_zn7, ec_zn8, ec_zn9, ec_zn10, ec_zn12, ec_zn13, ec_zn14, ec_zn15, ec_zn16, ec_zn20, ec_zn30, ec_zn48, ec_zn99, ec_zn120, ec_zn127, ec_zn11, ec_zn31, ec_zn46, ec_zn57, ec_zn59, ec_zn63, ec_zn101, ec_zn107, ec_zn108, ec_zn110, ec_zn111, ec_zn115, ec_zn116, ec_zn119, ec_zn167, ec_zn185, ec_zn192, ec_zn215, ec_zn233, ec_zn699, ec_zn932, ec_zn999, ec_znF, ec_zneg, ec_zadd, ec_zsub, ec_zmul, ec_zdivO, ec_em, ec_zltO, ec_zeqO, ec_zeq0, ec_qt, ec_qf, if_pos, if_neg, Int.add_zero, ec_aft_v, ec_aft_n, ec_rwE, ec_rwN, ec_rwP, ec_rwK, ec_rwS, ec_w_shpI, ec_w_shpL, ec_w_shpA, hD, a1, a4]
    · rw [if_neg q]
      have e := ec_c4e K X hs ⟨by omega, hi.2⟩
      refine ⟨h, ?_, ec_fg.refl⟩
      have hD := K
      unfold ed_CD at hD
      rw [ec_s3_6]
      simp (disch := first | (simp only [ec_w_kI, ec_w_kL, ec_w_kA, ec_w_shpI, ec_w_shpL, ec_w_shpA, ec_isR_r, ec_01z, ec_01o, ec_01q, hD]; done) | omega | (simp only [ec_w_shpI, ec_w_shpL, ec_w_shpA, hD]; refine ec_zinO ?_; omega) | (refine ec_nzO ?_; omega)) only [ec_s3_0, ec_s3_1, ec_s3_4, ec_s3_5, ec_s3_7, ec_s3_9, ec_s3_12, ec_s3_13, ec_s3_16, ec_s3_19, ec_s3_22, ec_s3_25, ec_s3_26, ec_s3_29, ec_zn0, ec_zn1, ec_zn2, ec_zn3, ec_zn4, ec_zn5, ec_zn6, ec_zn7, ec_zn8, ec_zn9, ec_zn10, ec_zn12, ec_zn13, ec_zn14, ec_zn15, ec_zn16, ec_zn20, ec_zn30, ec_zn48, ec_zn99, ec_zn120, ec_zn127, ec_zn11, ec_zn31, ec_zn46, ec_zn57, ec_zn59, ec_zn63, ec_zn101, ec_zn107, ec_zn108, ec_zn110, ec_zn111, ec_zn115, ec_zn116, ec_zn119, ec_zn167, ec_zn185, ec_zn192, ec_zn215, ec_zn233, ec_zn699, ec_zn932, ec_zn999, ec_znF, ec_zneg, ec_zadd, ec_zsub, ec_zmul, ec_zdivO, ec_em, ec_zltO, ec_zeqO, ec_zeq0, ec_qt, ec_qf, if_pos, if_neg, Int.add_zero, ec_aft_v, ec_aft_n, ec_rwE, ec_rwN, ec_rwP, ec_rwK, ec_rwS, ec_w_shpI, ec_w_shpL, ec_w_shpA, hD, e, hf]
theorem ec_c3s {h : ec_Hp} (K : ed_CD h) {L : Int} {T : Int → Int} (X : ed_TC h L T) : ∃ h', ec_om 3 0 [.ref 70, .double 0] [] h = some (.inl (some (.int (ec_i (ed_flt L T)))), h') ∧ ec_fg ed_Rc h h' := by
  obtain ⟨h1, a1, a2, a3, a4⟩ := ec_c2s K
  have K1 := K.of a4.1.1
  obtain ⟨h2, b1, b2⟩ := ec_c3L 120 0 0 h1 K1 (X.Rc a4) a2 a3 (by omega) (by omega) (by omega)
  refine ⟨h2, ?_, a4.trans b2⟩
  unfold ed_CD at K K1
  have hD := And.intro K K1
  unfold ed_flt
  simp (disch := first | (simp only [ec_w_kI, ec_w_kL, ec_w_kA, ec_w_shpI, ec_w_shpL, ec_w_shpA, ec_isR_r, ec_01z, ec_01o, ec_01q, hD]; done) | omega | (simp only [ec_w_shpI, ec_w_shpL, ec_w_shpA, hD]; refine ec_zinO ?_; omega) | (refine ec_nzO ?_; omega)) only [ec_s3_0, ec_s3_1, ec_s3_4, ec_s3_5, ec_s3_7, ec_s3_9, ec_s3_12, ec_s3_13, ec_s3_16, ec_s3_19, ec_s3_22, ec_s3_25, ec_s3_26, ec_s3_29, ec_zn0, ec_zn1, ec_zn2, ec_zn3, ec_zn4, ec_zn5, ec_zn6, ec_zn7, ec_zn8, ec_zn9, ec_zn10, ec_zn12, ec_zn13, ec_zn14, ec_zn15, ec_zn16, ec_zn20, ec_zn30, ec_zn48, ec_zn99, ec_zn120, ec_zn127, ec_zn11, ec_zn31, ec_zn46, ec_zn57, ec_zn59, ec_zn63, ec_zn101, ec_zn107, ec_zn108, ec_zn110, ec_zn111, ec_zn115, ec_zn116, ec_zn119, ec_zn167, ec_zn185, ec_zn192, ec_zn215, ec_zn233, ec_zn699, ec_zn932, ec_zn999, ec_znF, ec_zneg, ec_zadd, ec_zsub, ec_zmul, ec_zdivO, ec_em, ec_zltO, ec_zeqO, ec_zeq0, ec_qt, ec_qf, if_pos, if_neg, Int.add_zero, ec_aft_v, ec_aft_n, ec_rwE, ec_rwN, ec_rwP, ec_rwK, ec_rwS, ec_w_shpI, ec_w_shpL, ec_w_shpA, hD, a1, b1]
section EDP
variable {h : ec_Hp} {σ : ec_Sg} {n : Int} {p : Int → ec_Sg} {L : Int} {T : Int → Int}
/-- the text changes -/
theorem ed_CL.y {h h' : ec_Hp} {L' : Int} {T' : Int → Int} (C : ed_CL h σ n p L T) (a : ec_fg (fun q _ => 70 ≤ q ∧ q ≤ 71) h h') (X : ed_TC h' L' T') : ed_CL h' σ n p L' T' := by
  obtain ⟨c1, ⟨c2, c2b, c2c⟩, c3, c4, c5, c6, -⟩ := C
  exact ⟨c1.of a.1.1, ⟨c2.fg a (fun q j x y z => by omega), c2b.fg a (fun q j x y z => by omega), c2c⟩, c3.fg a (fun q j x y z => by omega), c4.fg a (fun q j x y z => by omega), c5.fg a (fun q j x y z => by omega), ⟨c6.1.fg a, c6.2.fg a (fun q j x y z => by omega)⟩, X⟩
theorem ed_i8 : ∀ v : Int, 0 ≤ v ∧ v ≤ 127 → (ec_i v).toInt8.toInt32 = ec_i v := fun v hv => by
  have h : ∀ k : Fin 128, (ec_i (k.val : Int)).toInt8.toInt32 = ec_i (k.val : Int) := by decide +kernel
  have e := h ⟨v.toNat, by omega⟩
  rw [show ((v.toNat : Nat) : Int) = v by omega] at e
  exact e
set_option maxHeartbeats 1000000 in
theorem ec_c94s (C : ed_CL h σ n p L T) {v : Int} (rv : ec_rg v) :
    (ed_kTy L v = 0 → ed_Cn 94 [.ref 0, .int (ec_i v)] h (L + 1) σ n p (L + 1) (ec_su T L v)) ∧
    (ed_kTy L v ≠ 0 → ed_Cx 94 [.ref 0, .int (ec_i v)] h (ed_x2 (ed_kTy L v))) := by
  have g5 := fun h => ec_c111s (h := h) rv ec_rn0 ec_rn127
  have X := C.2.2.2.2.2.2
  have X1 := X.1
  have X2 := X.2.1
  have x0 : ec_nth [] ec_ht 94 = [] := rfl
  have hD := And.intro C.b x0
  unfold ed_kTy
  by_cases q1 : 0 ≤ v ∧ v ≤ 127
  · rw [if_pos q1]
    by_cases q2 : L = 120
    · rw [if_pos q2]
      refine ⟨fun e => absurd e (by decide), fun _ => ?_⟩
      show ec_om 94 0 _ [] h = some (.inr 1, ec_thw h)
      simp (disch := first | (simp only [ec_w_kI, ec_w_kL, ec_w_kA, ec_w_shpI, ec_w_shpL, ec_w_shpA, ec_isR_r, ec_01z, ec_01o, ec_01q, hD]; done) | omega | (simp only [ec_w_shpI, ec_w_shpL, ec_w_shpA, hD]; refine ec_zinO ?_; omega) | (refine ec_nzO ?_; omega)) only [ec_s94_0, ec_s94_1, ec_s94_2, ec_s94_4, ec_s94_7, ec_s94_8, ec_s94_11, ec_s94_14, ec_s94_16, ec_s94_19, ec_s94_29, ec_s94_30, ec_s94_33, ec_s94_34, ec_s94_37, ec_s94_38, ec_s94_41, ec_s94_44, ec_zn0, ec_zn1, ec_zn2, ec_zn3, ec_zn4, ec_zn5, ec_zn6, ec_zn7, ec_zn8, ec_zn9, ec_zn10, ec_zn12, ec_zn13, ec_zn14, ec_zn15, ec_zn16, ec_zn20, ec_zn30, ec_zn48, ec_zn99, ec_zn120, ec_zn127, ec_zn11, ec_zn31, ec_zn46, ec_zn57, ec_zn59, ec_zn63, ec_zn101, ec_zn107, ec_zn108, ec_zn110, ec_zn111, ec_zn115, ec_zn116, ec_zn119, ec_zn167, ec_zn185, ec_zn192, ec_zn215, ec_zn233, ec_zn699, ec_zn932, ec_zn999, ec_znF, ec_zneg, ec_zadd, ec_zsub, ec_zmul, ec_zdivO, ec_em, ec_zltO, ec_zeqO, ec_zeq0, ec_qt, ec_qf, if_pos, if_neg, Int.add_zero, ec_aft_v, ec_aft_n, ec_rwE, ec_rwN, ec_rwP, ec_rwK, ec_rwS, ec_w_shpI, ec_w_shpL, ec_w_shpA, hD, g5, X1, ec_aft_x]
    · rw [if_neg q2]
      refine ⟨fun _ => ?_, fun e => absurd rfl e⟩
      have i8 := ed_i8 v q1
      have cl : (ec_i L).toNatClampNeg = L.toNat := ec_zcl (by omega) (by omega)
      have F : ec_fg (fun q _ => 70 ≤ q ∧ q ≤ 71) h (ec_setI (ec_setI h 71 (ec_i L).toNatClampNeg (ec_i v)) 70 1 (ec_i (L + 1))) := (ec_fg.refl.I (by decide)).I (by decide)
      have X' : ed_TC (ec_setI (ec_setI h 71 (ec_i L).toNatClampNeg (ec_i v)) 70 1 (ec_i (L + 1))) (L + 1) (ec_su T L v) := by
        refine ⟨by rw [ec_rwS], by omega, fun i hi => ?_⟩
        have ci : (ec_i i).toNatClampNeg = i.toNat := ec_zcl (by omega) (by omega)
        by_cases q : i = L
        · subst q
          rw [ec_suE rfl, ed_rN (fun y => absurd y.1 (by decide))]
          exact ⟨ed_rE ⟨rfl, rfl⟩, q1⟩
        · rw [ec_suN q, ed_rN (fun y => absurd y.1 (by decide)), ed_rN (fun y => by have := y.2; rw [ci, cl] at this; omega)]
          exact X.2.2 i (by omega)
      refine ⟨_, ?_, C.y F X', F.mono (fun q j e => by omega)⟩
      have g1 : ec_om 1 0 [.ref 70, .int (ec_i v)] [] h = some (.inl none, ec_setI (ec_setI h 71 (ec_i L).toNatClampNeg (ec_i v)) 70 1 (ec_i (L + 1))) := by
        simp (disch := first | (simp only [ec_w_kI, ec_w_kL, ec_w_kA, ec_w_shpI, ec_w_shpL, ec_w_shpA, ec_isR_r, ec_01z, ec_01o, ec_01q, hD]; done) | omega | (simp only [ec_w_shpI, ec_w_shpL, ec_w_shpA, hD]; refine ec_zinO ?_; omega) | (refine ec_nzO ?_; omega)) only [ec_s1_0, ec_s1_1, ec_s1_4, ec_s1_7, ec_s1_8, ec_s1_11, ec_s1_13, ec_s1_16, ec_s1_17, ec_s1_20, ec_s1_21, ec_s1_24, ec_s1_25, ec_s1_26, ec_s1_27, ec_s1_28, ec_s1_29, ec_s1_32, ec_s1_33, ec_s1_34, ec_s1_37, ec_zn0, ec_zn1, ec_zn2, ec_zn3, ec_zn4, ec_zn5, ec_zn6, ec_zn7, ec_zn8, ec_zn9, ec_zn10, ec_zn12, ec_zn13, ec_zn14, ec_zn15, ec_zn16, ec_zn20, ec_zn30, ec_zn48, ec_zn99, ec_zn120, ec_zn127, ec_zn11, ec_zn31, ec_zn46, ec_zn57, ec_zn59, ec_zn63, ec_zn101, ec_zn107, ec_zn108, ec_zn110, ec_zn111, ec_zn115, ec_zn116, ec_zn119, ec_zn167, ec_zn185, ec_zn192, ec_zn215, ec_zn233, ec_zn699, ec_zn932, ec_zn999, ec_znF, ec_zneg, ec_zadd, ec_zsub, ec_zmul, ec_zdivO, ec_em, ec_zltO, ec_zeqO, ec_zeq0, ec_qt, ec_qf, if_pos, if_neg, Int.add_zero, ec_aft_v, ec_aft_n, ec_rwE, ec_rwN, ec_rwP, ec_rwK, ec_rwS, ec_w_shpI, ec_w_shpL, ec_w_shpA, hD, X1, i8]
      have r1 := X'.1
      have hD := And.intro hD (C.y F X').b
      simp (disch := first | (simp only [ec_w_kI, ec_w_kL, ec_w_kA, ec_w_shpI, ec_w_shpL, ec_w_shpA, ec_isR_r, ec_01z, ec_01o, ec_01q, hD]; done) | omega | (simp only [ec_w_shpI, ec_w_shpL, ec_w_shpA, hD]; refine ec_zinO ?_; omega) | (refine ec_nzO ?_; omega)) only [ec_s94_0, ec_s94_1, ec_s94_2, ec_s94_4, ec_s94_7, ec_s94_8, ec_s94_11, ec_s94_14, ec_s94_16, ec_s94_19, ec_s94_29, ec_s94_30, ec_s94_33, ec_s94_34, ec_s94_37, ec_s94_38, ec_s94_41, ec_s94_44, ec_zn0, ec_zn1, ec_zn2, ec_zn3, ec_zn4, ec_zn5, ec_zn6, ec_zn7, ec_zn8, ec_zn9, ec_zn10, ec_zn12, ec_zn13, ec_zn14, ec_zn15, ec_zn16, ec_zn20, ec_zn30, ec_zn48, ec_zn99, ec_zn120, ec_zn127, ec_zn11, ec_zn31, ec_zn46, ec_zn57, ec_zn59, ec_zn63, ec_zn101, ec_zn107, ec_zn108, ec_zn110, ec_zn111, ec_zn115, ec_zn116, ec_zn119, ec_zn167, ec_zn185, ec_zn192, ec_zn215, ec_zn233, ec_zn699, ec_zn932, ec_zn999, ec_znF, ec_zneg, ec_zadd, ec_zsub, ec_zmul, ec_zdivO, ec_em, ec_zltO, ec_zeqO, ec_zeq0, ec_qt, ec_qf, if_pos, if_neg, Int.add_zero, ec_aft_v, ec_aft_n, ec_rwE, ec_rwN, ec_rwP, ec_rwK, ec_rwS, ec_w_shpI, ec_w_shpL, ec_w_shpA, hD, g5, X1, g1, r1]
  · rw [if_neg q1]
    refine ⟨fun e => absurd e (by decide), fun _ => ?_⟩
    show ec_om 94 0 _ [] h = some (.inr 0, ec_thw h)
    simp (disch := first | (simp only [ec_w_kI, ec_w_kL, ec_w_kA, ec_w_shpI, ec_w_shpL, ec_w_shpA, ec_isR_r, ec_01z, ec_01o, ec_01q, hD]; done) | omega | (simp only [ec_w_shpI, ec_w_shpL, ec_w_shpA, hD]; refine ec_zinO ?_; omega) | (refine ec_nzO ?_; omega)) only [ec_s94_0, ec_s94_1, ec_s94_2, ec_s94_4, ec_s94_7, ec_s94_8, ec_s94_11, ec_s94_14, ec_s94_16, ec_s94_19, ec_s94_29, ec_s94_30, ec_s94_33, ec_s94_34, ec_s94_37, ec_s94_38, ec_s94_41, ec_s94_44, ec_zn0, ec_zn1, ec_zn2, ec_zn3, ec_zn4, ec_zn5, ec_zn6, ec_zn7, ec_zn8, ec_zn9, ec_zn10, ec_zn12, ec_zn13, ec_zn14, ec_zn15, ec_zn16, ec_zn20, ec_zn30, ec_zn48, ec_zn99, ec_zn120, ec_zn127, ec_zn11, ec_zn31, ec_zn46, ec_zn57, ec_zn59, ec_zn63, ec_zn101, ec_zn107, ec_zn108, ec_zn110, ec_zn111, ec_zn115, ec_zn116, ec_zn119, ec_zn167, ec_zn185, ec_zn192, ec_zn215, ec_zn233, ec_zn699, ec_zn932, ec_zn999, ec_znF, ec_zneg, ec_zadd, ec_zsub, ec_zmul, ec_zdivO, ec_em, ec_zltO, ec_zeqO, ec_zeq0, ec_qt, ec_qf, if_pos, if_neg, Int.add_zero, ec_aft_v, ec_aft_n, ec_rwE, ec_rwN, ec_rwP, ec_rwK, ec_rwS, ec_w_shpI, ec_w_shpL, ec_w_shpA, hD, g5, ec_aft_x]
theorem ec_c95s (C : ed_CL h σ n p L T) : ed_Cn 95 [.ref 0, .double 0] h L σ n p 0 T := by
  have X := C.2.2.2.2.2.2
  have X1 := X.1
  have hD := C.b
  have F : ec_fg (fun q _ => 70 ≤ q ∧ q ≤ 71) h (ec_setI h 70 1 (ec_i 0)) := ec_fg.refl.I (by decide)
  have X' : ed_TC (ec_setI h 70 1 (ec_i 0)) 0 T := ⟨by rw [ec_rwS], by omega, fun i hi => absurd hi (by omega)⟩
  refine ⟨_, ?_, C.y F X', F.mono (fun q j e => by omega)⟩
  simp (disch := first | (simp only [ec_w_kI, ec_w_kL, ec_w_kA, ec_w_shpI, ec_w_shpL, ec_w_shpA, ec_isR_r, ec_01z, ec_01o, ec_01q, hD]; done) | omega | (simp only [ec_w_shpI, ec_w_shpL, ec_w_shpA, hD]; refine ec_zinO ?_; omega) | (refine ec_nzO ?_; omega)) only [ec_s95_0, ec_s95_1, ec_s95_4, ec_s95_7, ec_s95_8, ec_s95_9, ec_s95_12, ec_s95_13, ec_s95_16, ec_s95_17, ec_zn0, ec_zn1, ec_zn2, ec_zn3, ec_zn4, ec_zn5, ec_zn6, ec_zn7, ec_zn8, ec_zn9, ec_zn10, ec_zn12, ec_zn13, ec_zn14, ec_zn15, ec_zn16, ec_zn20, ec_zn30, ec_zn48, ec_zn99, ec_zn120, ec_zn127, ec_zn11, ec_zn31, ec_zn46, ec_zn57, ec_zn59, ec_zn63, ec_zn101, ec_zn107, ec_zn108, ec_zn110, ec_zn111, ec_zn115, ec_zn116, ec_zn119, ec_zn167, ec_zn185, ec_zn192, ec_zn215, ec_zn233, ec_zn699, ec_zn932, ec_zn999, ec_znF, ec_zneg, ec_zadd, ec_zsub, ec_zmul, ec_zdivO, ec_em, ec_zltO, ec_zeqO, ec_zeq0, ec_qt, ec_qf, if_pos, if_neg, Int.add_zero, ec_aft_v, ec_aft_n, ec_rwE, ec_rwN, ec_rwP, ec_rwK, ec_rwS, ec_w_shpI, ec_w_shpL, ec_w_shpA, hD, X1]
theorem ec_c97s (C : ed_CL h σ n p L T) : (n ≠ 0 → ed_Cn 97 [.ref 0] h (n - 1) (p (n - 1)) (n - 1) p L T) ∧ (n = 0 → ed_Cx 97 [.ref 0] h 1) := by
  have x0 : ec_nth [] ec_ht 97 = [] := rfl
  have b0 := And.intro C.b x0
  obtain ⟨c1, ⟨c2, c2b, c2c⟩, c3, c4, c5, c6, c7⟩ := id C
  obtain ⟨-, -, nx, a1, a2, a3, a4, a5⟩ := id c4
  refine ⟨fun q => ?_, fun q => ?_⟩
  · obtain ⟨h1, b1, b2, b3, b4, b5⟩ := ec_c30s c4 q c2
    have w := (a5 (n - 1) (by omega)).1
    have C1 : ed_CL h1 (p (n - 1)) (n - 1) p L T := ⟨c1.of b5.1.1, ⟨b4, b3, w⟩, c3.fg b5 (fun q j x y z => by omega), b2, c5.fg b5 (fun q j x y z => by omega), ⟨c6.1.fg b5, c6.2.fg b5 (fun q j x y z => by omega)⟩, c7.fg b5 (fun z => by omega) (fun j z => by omega)⟩
    refine ⟨h1, ?_, C1, b5.mono (fun q j e => by omega)⟩
    obtain ⟨-, -, nx', -, -, -, r, -⟩ := b2
    have hD := And.intro b0 C1.b
    simp (disch := first | (simp only [ec_w_kI, ec_w_kL, ec_w_kA, ec_w_shpI, ec_w_shpL, ec_w_shpA, ec_isR_r, ec_01z, ec_01o, ec_01q, hD]; done) | omega | (simp only [ec_w_shpI, ec_w_shpL, ec_w_shpA, hD]; refine ec_zinO ?_; omega) | (refine ec_nzO ?_; omega)) only [ec_s97_0, ec_s97_1, ec_s97_4, ec_s97_7, ec_s97_10, ec_s97_20, ec_s97_21, ec_s97_24, ec_s97_25, ec_s97_28, ec_s97_31, ec_s97_32, ec_s97_35, ec_s97_38, ec_zn0, ec_zn1, ec_zn2, ec_zn3, ec_zn4, ec_zn5, ec_zn6, ec_zn7, ec_zn8, ec_zn9, ec_zn10, ec_zn12, ec_zn13, ec_zn14, ec_zn15, ec_zn16, ec_zn20, ec_zn30, ec_zn48, ec_zn99, ec_zn120, ec_zn127, ec_zn11, ec_zn31, ec_zn46, ec_zn57, ec_zn59, ec_zn63, ec_zn101, ec_zn107, ec_zn108, ec_zn110, ec_zn111, ec_zn115, ec_zn116, ec_zn119, ec_zn167, ec_zn185, ec_zn192, ec_zn215, ec_zn233, ec_zn699, ec_zn932, ec_zn999, ec_znF, ec_zneg, ec_zadd, ec_zsub, ec_zmul, ec_zdivO, ec_em, ec_zltO, ec_zeqO, ec_zeq0, ec_qt, ec_qf, if_pos, if_neg, Int.add_zero, ec_aft_v, ec_aft_n, ec_rwE, ec_rwN, ec_rwP, ec_rwK, ec_rwS, ec_w_shpI, ec_w_shpL, ec_w_shpA, hD, a4, b1, r]
  · subst q
    have hD := b0
    unfold ed_Cx
    simp (disch := first | (simp only [ec_w_kI, ec_w_kL, ec_w_kA, ec_w_shpI, ec_w_shpL, ec_w_shpA, ec_isR_r, ec_01z, ec_01o, ec_01q, hD]; done) | omega | (simp only [ec_w_shpI, ec_w_shpL, ec_w_shpA, hD]; refine ec_zinO ?_; omega) | (refine ec_nzO ?_; omega)) only [ec_s97_0, ec_s97_1, ec_s97_4, ec_s97_7, ec_s97_10, ec_s97_20, ec_s97_21, ec_s97_24, ec_s97_25, ec_s97_28, ec_s97_31, ec_s97_32, ec_s97_35, ec_s97_38, ec_zn0, ec_zn1, ec_zn2, ec_zn3, ec_zn4, ec_zn5, ec_zn6, ec_zn7, ec_zn8, ec_zn9, ec_zn10, ec_zn12, ec_zn13, ec_zn14, ec_zn15, ec_zn16, ec_zn20, ec_zn30, ec_zn48, ec_zn99, ec_zn120, ec_zn127, ec_zn11, ec_zn31, ec_zn46, ec_zn57, ec_zn59, ec_zn63, ec_zn101, ec_zn107, ec_zn108, ec_zn110, ec_zn111, ec_zn115, ec_zn116, ec_zn119, ec_zn167, ec_zn185, ec_zn192, ec_zn215, ec_zn233, ec_zn699, ec_zn932, ec_zn999, ec_znF, ec_zneg, ec_zadd, ec_zsub, ec_zmul, ec_zdivO, ec_em, ec_zltO, ec_zeqO, ec_zeq0, ec_qt, ec_qf, if_pos, if_neg, Int.add_zero, ec_aft_v, ec_aft_n, ec_rwE, ec_rwN, ec_rwP, ec_rwK, ec_rwS, ec_w_shpI, ec_w_shpL, ec_w_shpA, hD, a4, ec_aft_x]
end EDP
