/-! Contracts of the reference: monsters act; a turn. -/
abbrev ed_Ha : Nat → Nat → Prop := fun q _ => q = 73 ∨ q = 81
theorem ed_nSa : ¬ ed_81 73 0 := by decide
set_option maxHeartbeats 1000000 in
theorem ec_c161 {h : ec_Hp} {σ : ec_Sg} (hD : ec_MD h) (hs : ec_Ms h σ) (hW : ec_WF σ) {m : Int} (hm : 0 ≤ m ∧ m < σ 4) (hg : σ (185 + 5 * m + 3) ≠ -1) : ∃ h', ec_om 161 0 [.ref 72, .int (ec_i m), .double 0, .double 0, .double 0] [] h = some (.inl none, h') ∧ ec_Ms h' (ed_act1 σ m) ∧ ec_fg ed_Ha h h' := by
  have M := ed_mon hW hm
  have Mc := M.1.1
  have G : ec_ing σ (σ (185 + 5 * m + 3)) := M.2.2.2.resolve_left hg
  have Gc := G.1
  have w := hW.1
  have ds := ed_dir_s (σ := σ) (κ := σ (185 + 5 * m + 2)) (g := σ (185 + 5 * m + 3)) (z := σ (185 + 5 * m))
  have hs0 := hs
  have hD0 := hD
  unfold ed_act1
  rw [if_neg hg]
  by_cases q0 : σ (185 + 5 * m) = σ (185 + 5 * m + 3)
  · have d0 := ed_dir_0 hW (κ := σ (185 + 5 * m + 2)) G
    rw [q0, if_pos d0]
    refine ⟨ec_setI h 73 (ec_i (185 + 5 * m + 3)).toNatClampNeg (ec_i (-1)), ?_, hs0.w (by omega), ec_fg.refl.I (Or.inl rfl)⟩
    unfold ec_MD at hD
    unfold ec_Ms at hs
    simp (disch := first | (simp only [ec_w_kI, ec_w_kL, ec_w_kA, ec_w_shpI, ec_w_shpL, ec_w_shpA, ec_isR_r, ec_01z, ec_01o, ec_01q, hD]; done) | omega | (simp only [ec_w_shpI, ec_w_shpL, ec_w_shpA, hD]; refine ec_zinO ?_; omega) | (refine ec_nzO ?_; omega)) only [ec_s161_0, ec_s161_3, ec_s161_4, ec_s161_5, ec_s161_6, ec_s161_7, ec_s161_8, ec_s161_9, ec_s161_12, ec_s161_13, ec_s161_14, ec_s161_15, ec_s161_18, ec_s161_19, ec_s161_20, ec_s161_21, ec_s161_22, ec_s161_25, ec_s161_26, ec_s161_29, ec_s161_30, ec_s161_31, ec_s161_32, ec_s161_33, ec_s161_34, ec_s161_35, ec_s161_36, ec_s161_37, ec_s161_40, ec_s161_41, ec_s161_42, ec_s161_43, ec_s161_44, ec_s161_45, ec_s161_48, ec_s161_49, ec_s161_50, ec_s161_51, ec_s161_52, ec_s161_55, ec_s161_56, ec_s161_59, ec_s161_60, ec_s161_63, ec_s161_64, ec_s161_65, ec_s161_66, ec_s161_69, ec_s161_72, ec_s161_73, ec_s161_74, ec_s161_77, ec_s161_78, ec_s161_79, ec_s161_80, ec_s161_83, ec_s161_84, ec_s161_85, ec_s161_86, ec_s161_87, ec_s161_90, ec_s161_93, ec_s161_94, ec_s161_95, ec_s161_96, ec_s161_97, ec_s161_100, ec_s161_101, ec_s161_104, ec_s161_105, ec_s161_106, ec_s161_107, ec_s161_108, ec_s161_109, ec_s161_110, ec_s161_111, ec_s161_112, ec_s161_115, ec_s161_116, ec_s161_117, ec_s161_118, ec_s161_121, ec_s161_123, ec_s161_124, ec_s161_125, ec_s161_128, ec_s161_129, ec_s161_130, ec_s161_131, ec_s161_134, ec_s161_137, ec_s161_138, ec_s161_141, ec_s161_142, ec_s161_143, ec_s161_146, ec_s161_147, ec_s161_148, ec_s161_149, ec_s161_152, ec_s161_153, ec_s161_154, ec_s161_156, ec_s161_157, ec_s161_158, ec_s161_159, ec_s161_162, ec_s161_165, ec_s161_166, ec_s161_168, ec_s161_169, ec_s161_170, ec_s161_171, ec_s161_174, ec_zn0, ec_zn1, ec_zn2, ec_zn3, ec_zn4, ec_zn5, ec_zn6, ec_zn7, ec_zn8, ec_zn9, ec_zn10, ec_zn12, ec_zn13, ec_zn14, ec_zn15, ec_zn16, ec_zn20, ec_zn30, ec_zn48, ec_zn99, ec_zn120, ec_zn127, ec_zn11, ec_zn31, ec_zn46, ec_zn57, ec_zn59, ec_zn63, ec_zn101, ec_zn107, ec_zn108, ec_zn110, ec_zn111, ec_zn115, ec_zn116, ec_zn119, ec_zn167, ec_zn185, ec_zn192, ec_zn215, ec_zn233, ec_zn699, ec_zn932, ec_zn999, ec_znF, ec_zneg, ec_zadd, ec_zsub, ec_zmul, ec_zdivO, ec_em, ec_zltO, ec_zeqO, ec_zeq0, ec_qt, ec_qf, if_pos, if_neg, Int.add_zero, ec_aft_v, ec_aft_n, ec_rwE, ec_rwN, ec_rwP, ec_rwK, ec_rwS, ec_w_shpI, ec_w_shpL, ec_w_shpA, hD, hs]
  · obtain ⟨h1, a1, a2, a3⟩ := ec_c141 hD hs hW (κ := σ (185 + 5 * m + 2)) M.2.2.1 G
    have hs1 := hs.fg a3 (fun _ => (by decide : ¬ (73 : Nat) = 81))
    have hD1 := hD.of a3.1.1
    have f1 : ec_fg ed_Ha h h1 := a3.mono (fun q j e => Or.inr e)
    have lb := ed_lb_bd hW (m := σ (185 + 5 * m + 2)) G.1 (k := (σ (185 + 5 * m)).toNat) (by omega)
    have ac : h1.2.1 81 (ec_i (σ (185 + 5 * m))).toNatClampNeg = ec_i (if ed_lb σ (σ (185 + 5 * m + 2)) (σ (185 + 5 * m + 3)) (σ (185 + 5 * m)).toNat = 1000000 then 999 else ed_lb σ (σ (185 + 5 * m + 2)) (σ (185 + 5 * m + 3)) (σ (185 + 5 * m)).toNat) := a2 _ Mc
    have c142 := fun q => ec_c142 hD1 hs1 hW M.2.2.1 G M.1 a2 q
    have c129 := fun d q => ec_c129 hD1 hs1 hW Mc (d := d) q
    have c131 := fun d q => ec_c131 hD1 hs1 hW M.1 (d := d) q
    have hb := fun d q => hW.ba M.1 (d := d) q
    have ct : ec_ct (ed_lb σ (σ (185 + 5 * m + 2)) (σ (185 + 5 * m + 3))) (σ (185 + 5 * m)) = if ed_lb σ (σ (185 + 5 * m + 2)) (σ (185 + 5 * m + 3)) (σ (185 + 5 * m)).toNat = 1000000 then -1 else ed_lb σ (σ (185 + 5 * m + 2)) (σ (185 + 5 * m + 3)) (σ (185 + 5 * m)).toNat := by
      unfold ec_ct
      split
      · rw [if_neg (by omega)]
      · rw [if_pos (by omega)]
    by_cases q1 : ed_lb σ (σ (185 + 5 * m + 2)) (σ (185 + 5 * m + 3)) (σ (185 + 5 * m)).toNat = 1000000
    · have dm : ed_dir σ (σ (185 + 5 * m + 2)) (σ (185 + 5 * m + 3)) (σ (185 + 5 * m)) = -1 := by
        unfold ed_dir ec_fdir
        rw [ct, if_pos q1, if_pos rfl]
      rw [if_pos dm]
      rw [if_pos q1] at ac
      refine ⟨ec_setI h1 73 (ec_i (185 + 5 * m + 3)).toNatClampNeg (ec_i (-1)), ?_, hs1.w (by omega), f1.I (Or.inl rfl)⟩
      unfold ec_MD at hD hD1
      have hD := And.intro hD hD1
      unfold ec_Ms at hs hs1
      simp (disch := first | (simp only [ec_w_kI, ec_w_kL, ec_w_kA, ec_w_shpI, ec_w_shpL, ec_w_shpA, ec_isR_r, ec_01z, ec_01o, ec_01q, hD]; done) | omega | (simp only [ec_w_shpI, ec_w_shpL, ec_w_shpA, hD]; refine ec_zinO ?_; omega) | (refine ec_nzO ?_; omega)) only [ec_s161_0, ec_s161_3, ec_s161_4, ec_s161_5, ec_s161_6, ec_s161_7, ec_s161_8, ec_s161_9, ec_s161_12, ec_s161_13, ec_s161_14, ec_s161_15, ec_s161_18, ec_s161_19, ec_s161_20, ec_s161_21, ec_s161_22, ec_s161_25, ec_s161_26, ec_s161_29, ec_s161_30, ec_s161_31, ec_s161_32, ec_s161_33, ec_s161_34, ec_s161_35, ec_s161_36, ec_s161_37, ec_s161_40, ec_s161_41, ec_s161_42, ec_s161_43, ec_s161_44, ec_s161_45, ec_s161_48, ec_s161_49, ec_s161_50, ec_s161_51, ec_s161_52, ec_s161_55, ec_s161_56, ec_s161_59, ec_s161_60, ec_s161_63, ec_s161_64, ec_s161_65, ec_s161_66, ec_s161_69, ec_s161_72, ec_s161_73, ec_s161_74, ec_s161_77, ec_s161_78, ec_s161_79, ec_s161_80, ec_s161_83, ec_s161_84, ec_s161_85, ec_s161_86, ec_s161_87, ec_s161_90, ec_s161_93, ec_s161_94, ec_s161_95, ec_s161_96, ec_s161_97, ec_s161_100, ec_s161_101, ec_s161_104, ec_s161_105, ec_s161_106, ec_s161_107, ec_s161_108, ec_s161_109, ec_s161_110, ec_s161_111, ec_s161_112, ec_s161_115, ec_s161_116, ec_s161_117, ec_s161_118, ec_s161_121, ec_s161_123, ec_s161_124, ec_s161_125, ec_s161_128, ec_s161_129, ec_s161_130, ec_s161_131, ec_s161_134, ec_s161_137, ec_s161_138, ec_s161_141, ec_s161_142, ec_s161_143, ec_s161_146, ec_s161_147, ec_s161_148, ec_s161_149, ec_s161_152, ec_s161_153, ec_s161_154, ec_s161_156, ec_s161_157, ec_s161_158, ec_s161_159, ec_s161_162, ec_s161_165, ec_s161_166, ec_s161_168, ec_s161_169, ec_s161_170, ec_s161_171, ec_s161_174, ec_zn0, ec_zn1, ec_zn2, ec_zn3, ec_zn4, ec_zn5, ec_zn6, ec_zn7, ec_zn8, ec_zn9, ec_zn10, ec_zn12, ec_zn13, ec_zn14, ec_zn15, ec_zn16, ec_zn20, ec_zn30, ec_zn48, ec_zn99, ec_zn120, ec_zn127, ec_zn11, ec_zn31, ec_zn46, ec_zn57, ec_zn59, ec_zn63, ec_zn101, ec_zn107, ec_zn108, ec_zn110, ec_zn111, ec_zn115, ec_zn116, ec_zn119, ec_zn167, ec_zn185, ec_zn192, ec_zn215, ec_zn233, ec_zn699, ec_zn932, ec_zn999, ec_znF, ec_zneg, ec_zadd, ec_zsub, ec_zmul, ec_zdivO, ec_em, ec_zltO, ec_zeqO, ec_zeq0, ec_qt, ec_qf, if_pos, if_neg, Int.add_zero, ec_aft_v, ec_aft_n, ec_rwE, ec_rwN, ec_rwP, ec_rwK, ec_rwS, ec_w_shpI, ec_w_shpL, ec_w_shpA, hD, hs, hs1, a1, ac]
    · have c142 := c142 q1
      rw [if_neg q1] at ac
      change ec_om 142 0 [.ref 72, .int (ec_i (σ (185 + 5 * m))), .int (ec_i (σ (185 + 5 * m + 2))), .double 0, .double 0] [] h1 = some (.inl (some (.int (ec_i (ed_dir σ (σ (185 + 5 * m + 2)) (σ (185 + 5 * m + 3)) (σ (185 + 5 * m)))))), h1) at c142
      have dw : ed_dir σ (σ (185 + 5 * m + 2)) (σ (185 + 5 * m + 3)) (σ (185 + 5 * m)) ≠ -1 → ¬ ec_cq σ (σ (185 + 5 * m)) (ed_dir σ (σ (185 + 5 * m + 2)) (σ (185 + 5 * m + 3)) (σ (185 + 5 * m))) → 1 < ec_ba σ (σ (185 + 5 * m)) (ed_dir σ (σ (185 + 5 * m + 2)) (σ (185 + 5 * m + 3)) (σ (185 + 5 * m))) := by
        intro h1 h3
        rcases ds with s | ⟨s1, s2⟩
        · exact absurd s h1
        · rw [ed_P_wby M.2.2.1 M.1] at s2
          unfold ed_wby at s2
          rw [if_neg h3] at s2
          apply Classical.byContradiction
          intro q
          rw [if_neg (fun y => q y.1)] at s2
          exact s2 rfl
      generalize ed_dir σ (σ (185 + 5 * m + 2)) (σ (185 + 5 * m + 3)) (σ (185 + 5 * m)) = d at c142 ds dw ⊢
      by_cases q2 : d = -1
      · subst q2
        rw [if_pos rfl]
        refine ⟨ec_setI h1 73 (ec_i (185 + 5 * m + 3)).toNatClampNeg (ec_i (-1)), ?_, hs1.w (by omega), f1.I (Or.inl rfl)⟩
        unfold ec_MD at hD hD1
        have hD := And.intro hD hD1
        unfold ec_Ms at hs hs1
        simp (disch := first | (simp only [ec_w_kI, ec_w_kL, ec_w_kA, ec_w_shpI, ec_w_shpL, ec_w_shpA, ec_isR_r, ec_01z, ec_01o, ec_01q, hD]; done) | omega | (simp only [ec_w_shpI, ec_w_shpL, ec_w_shpA, hD]; refine ec_zinO ?_; omega) | (refine ec_nzO ?_; omega)) only [ec_s161_0, ec_s161_3, ec_s161_4, ec_s161_5, ec_s161_6, ec_s161_7, ec_s161_8, ec_s161_9, ec_s161_12, ec_s161_13, ec_s161_14, ec_s161_15, ec_s161_18, ec_s161_19, ec_s161_20, ec_s161_21, ec_s161_22, ec_s161_25, ec_s161_26, ec_s161_29, ec_s161_30, ec_s161_31, ec_s161_32, ec_s161_33, ec_s161_34, ec_s161_35, ec_s161_36, ec_s161_37, ec_s161_40, ec_s161_41, ec_s161_42, ec_s161_43, ec_s161_44, ec_s161_45, ec_s161_48, ec_s161_49, ec_s161_50, ec_s161_51, ec_s161_52, ec_s161_55, ec_s161_56, ec_s161_59, ec_s161_60, ec_s161_63, ec_s161_64, ec_s161_65, ec_s161_66, ec_s161_69, ec_s161_72, ec_s161_73, ec_s161_74, ec_s161_77, ec_s161_78, ec_s161_79, ec_s161_80, ec_s161_83, ec_s161_84, ec_s161_85, ec_s161_86, ec_s161_87, ec_s161_90, ec_s161_93, ec_s161_94, ec_s161_95, ec_s161_96, ec_s161_97, ec_s161_100, ec_s161_101, ec_s161_104, ec_s161_105, ec_s161_106, ec_s161_107, ec_s161_108, ec_s161_109, ec_s161_110, ec_s161_111, ec_s161_112, ec_s161_115, ec_s161_116, ec_s161_117, ec_s161_118, ec_s161_121, ec_s161_123, ec_s161_124, ec_s161_125, ec_s161_128, ec_s161_129, ec_s161_130, ec_s161_131, ec_s161_134, ec_s161_137, ec_s161_138, ec_s161_141, ec_s161_142, ec_s161_143, ec_s161_146, ec_s161_147, ec_s161_148, ec_s161_149, ec_s161_152, ec_s161_153, ec_s161_154, ec_s161_156, ec_s161_157, ec_s161_158, ec_s161_159, ec_s161_162, ec_s161_165, ec_s161_166, ec_s161_168, ec_s161_169, ec_s161_170, ec_s161_171, ec_s161_174, ec_zn0, ec_zn1, ec_zn2, ec_zn3, ec_zn4, ec_zn5, ec_zn6, ec_zn7, ec_zn8, ec_zn9, ec_zn10, ec_zn12, ec_zn13, ec_zn14, ec_zn15, ec_zn16, ec_zn20, ec_zn30, ec_zn48, ec_zn99, ec_zn120, ec_zn127, ec_zn11, ec_zn31, ec_zn46, ec_zn57, ec_zn59, ec_zn63, ec_zn101, ec_zn107, ec_zn108, ec_zn110, ec_zn111, ec_zn115, ec_zn116, ec_zn119, ec_zn167, ec_zn185, ec_zn192, ec_zn215, ec_zn233, ec_zn699, ec_zn932, ec_zn999, ec_znF, ec_zneg, ec_zadd, ec_zsub, ec_zmul, ec_zdivO, ec_em, ec_zltO, ec_zeqO, ec_zeq0, ec_qt, ec_qf, if_pos, if_neg, Int.add_zero, ec_aft_v, ec_aft_n, ec_rwE, ec_rwN, ec_rwP, ec_rwK, ec_rwS, ec_w_shpI, ec_w_shpL, ec_w_shpA, hD, hs, hs1, a1, ac, c142]
      · rw [if_neg q2]
        have d4 := (ds.resolve_left q2).1
        have c129 := c129 d d4
        have c131 := c131 d d4
        have hb := hb d d4
        have g0 := fun h => ec_c126 (h := h) (z := σ (185 + 5 * m)) d4
        by_cases q3 : ec_cq σ (σ (185 + 5 * m)) d
        · rw [if_pos q3]
          rw [ec_qt q3] at c131
          have nb := ec_nb_in hW M.1 d4 (ed_cq_hb q3)
          have wf := ed_WF_mcell hW hm nb
          obtain ⟨h2, b1, b2, b3⟩ := ec_c133 (hD1.of (h' := ec_setI h1 73 (ec_i (185 + 5 * m)).toNatClampNeg (ec_i (ec_nb (σ (185 + 5 * m)) d))) rfl) (hs1.w (z := 185 + 5 * m) (v := ec_nb (σ (185 + 5 * m)) d) (by omega)) wf (b := ec_ba σ (σ (185 + 5 * m)) d) (v := 1 + m) (by omega)
          refine ⟨h2, ?_, b2, (f1.I (Or.inl rfl)).trans (b3.mono (fun q j e => Or.inl e))⟩
          unfold ec_MD at hD hD1
          have hD := And.intro hD hD1
          unfold ec_Ms at hs hs1
          simp (disch := first | (simp only [ec_w_kI, ec_w_kL, ec_w_kA, ec_w_shpI, ec_w_shpL, ec_w_shpA, ec_isR_r, ec_01z, ec_01o, ec_01q, hD]; done) | omega | (simp only [ec_w_shpI, ec_w_shpL, ec_w_shpA, hD]; refine ec_zinO ?_; omega) | (refine ec_nzO ?_; omega)) only [ec_s161_0, ec_s161_3, ec_s161_4, ec_s161_5, ec_s161_6, ec_s161_7, ec_s161_8, ec_s161_9, ec_s161_12, ec_s161_13, ec_s161_14, ec_s161_15, ec_s161_18, ec_s161_19, ec_s161_20, ec_s161_21, ec_s161_22, ec_s161_25, ec_s161_26, ec_s161_29, ec_s161_30, ec_s161_31, ec_s161_32, ec_s161_33, ec_s161_34, ec_s161_35, ec_s161_36, ec_s161_37, ec_s161_40, ec_s161_41, ec_s161_42, ec_s161_43, ec_s161_44, ec_s161_45, ec_s161_48, ec_s161_49, ec_s161_50, ec_s161_51, ec_s161_52, ec_s161_55, ec_s161_56, ec_s161_59, ec_s161_60, ec_s161_63, ec_s161_64, ec_s161_65, ec_s161_66, ec_s161_69, ec_s161_72, ec_s161_73, ec_s161_74, ec_s161_77, ec_s161_78, ec_s161_79, ec_s161_80, ec_s161_83, ec_s161_84, ec_s161_85, ec_s161_86, ec_s161_87, ec_s161_90, ec_s161_93, ec_s161_94, ec_s161_95, ec_s161_96, ec_s161_97, ec_s161_100, ec_s161_101, ec_s161_104, ec_s161_105, ec_s161_106, ec_s161_107, ec_s161_108, ec_s161_109, ec_s161_110, ec_s161_111, ec_s161_112, ec_s161_115, ec_s161_116, ec_s161_117, ec_s161_118, ec_s161_121, ec_s161_123, ec_s161_124, ec_s161_125, ec_s161_128, ec_s161_129, ec_s161_130, ec_s161_131, ec_s161_134, ec_s161_137, ec_s161_138, ec_s161_141, ec_s161_142, ec_s161_143, ec_s161_146, ec_s161_147, ec_s161_148, ec_s161_149, ec_s161_152, ec_s161_153, ec_s161_154, ec_s161_156, ec_s161_157, ec_s161_158, ec_s161_159, ec_s161_162, ec_s161_165, ec_s161_166, ec_s161_168, ec_s161_169, ec_s161_170, ec_s161_171, ec_s161_174, ec_zn0, ec_zn1, ec_zn2, ec_zn3, ec_zn4, ec_zn5, ec_zn6, ec_zn7, ec_zn8, ec_zn9, ec_zn10, ec_zn12, ec_zn13, ec_zn14, ec_zn15, ec_zn16, ec_zn20, ec_zn30, ec_zn48, ec_zn99, ec_zn120, ec_zn127, ec_zn11, ec_zn31, ec_zn46, ec_zn57, ec_zn59, ec_zn63, ec_zn101, ec_zn107, ec_zn108, ec_zn110, ec_zn111, ec_zn115, ec_zn116, ec_zn119, ec_zn167, ec_zn185, ec_zn192, ec_zn215, ec_zn233, ec_zn699, ec_zn932, ec_zn999, ec_znF, ec_zneg, ec_zadd, ec_zsub, ec_zmul, ec_zdivO, ec_em, ec_zltO, ec_zeqO, ec_zeq0, ec_qt, ec_qf, if_pos, if_neg, Int.add_zero, ec_aft_v, ec_aft_n, ec_rwE, ec_rwN, ec_rwP, ec_rwK, ec_rwS, ec_w_shpI, ec_w_shpL, ec_w_shpA, hD, hs, hs1, a1, ac, c142, c129, c131, g0, b1]
        · rw [if_neg q3]
          rw [ec_qf q3] at c131
          have dw := dw q2 q3
          obtain ⟨h2, b1, b2, b3⟩ := ec_c132 hD1 hs1 hW (n := ec_ba σ (σ (185 + 5 * m)) d - 2) (v := 1) (by omega) (by omega)
          refine ⟨h2, ?_, b2, f1.trans (b3.mono (fun q j e => Or.inl e))⟩
          unfold ec_MD at hD hD1
          have hD := And.intro hD hD1
          unfold ec_Ms at hs hs1
          simp (disch := first | (simp only [ec_w_kI, ec_w_kL, ec_w_kA, ec_w_shpI, ec_w_shpL, ec_w_shpA, ec_isR_r, ec_01z, ec_01o, ec_01q, hD]; done) | omega | (simp only [ec_w_shpI, ec_w_shpL, ec_w_shpA, hD]; refine ec_zinO ?_; omega) | (refine ec_nzO ?_; omega)) only [ec_s161_0, ec_s161_3, ec_s161_4, ec_s161_5, ec_s161_6, ec_s161_7, ec_s161_8, ec_s161_9, ec_s161_12, ec_s161_13, ec_s161_14, ec_s161_15, ec_s161_18, ec_s161_19, ec_s161_20, ec_s161_21, ec_s161_22, ec_s161_25, ec_s161_26, ec_s161_29, ec_s161_30, ec_s161_31, ec_s161_32, ec_s161_33, ec_s161_34, ec_s161_35, ec_s161_36, ec_s161_37, ec_s161_40, ec_s161_41, ec_s161_42, ec_s161_43, ec_s161_44, ec_s161_45, ec_s161_48, ec_s161_49, ec_s161_50, ec_s161_51, ec_s161_52, ec_s161_55, ec_s161_56, ec_s161_59, ec_s161_60, ec_s161_63, ec_s161_64, ec_s161_65, ec_s161_66, ec_s161_69, ec_s161_72, ec_s161_73, ec_s161_74, ec_s161_77, ec_s161_78, ec_s161_79, ec_s161_80, ec_s161_83, ec_s161_84, ec_s161_85, ec_s161_86, ec_s161_87, ec_s161_90, ec_s161_93, ec_s161_94, ec_s161_95, ec_s161_96, ec_s161_97, ec_s161_100, ec_s161_101, ec_s161_104, ec_s161_105, ec_s161_106, ec_s161_107, ec_s161_108, ec_s161_109, ec_s161_110, ec_s161_111, ec_s161_112, ec_s161_115, ec_s161_116, ec_s161_117, ec_s161_118, ec_s161_121, ec_s161_123, ec_s161_124, ec_s161_125, ec_s161_128, ec_s161_129, ec_s161_130, ec_s161_131, ec_s161_134, ec_s161_137, ec_s161_138, ec_s161_141, ec_s161_142, ec_s161_143, ec_s161_146, ec_s161_147, ec_s161_148, ec_s161_149, ec_s161_152, ec_s161_153, ec_s161_154, ec_s161_156, ec_s161_157, ec_s161_158, ec_s161_159, ec_s161_162, ec_s161_165, ec_s161_166, ec_s161_168, ec_s161_169, ec_s161_170, ec_s161_171, ec_s161_174, ec_zn0, ec_zn1, ec_zn2, ec_zn3, ec_zn4, ec_zn5, ec_zn6, ec_zn7, ec_zn8, ec_zn9, ec_zn10, ec_zn12, ec_zn13, ec_zn14, ec_zn15, ec_zn16, ec_zn20, ec_zn30, ec_zn48, ec_zn99, ec_zn120, ec_zn127, ec_zn11, ec_zn31, ec_zn46, ec_zn57, ec_zn59, ec_zn63, ec_zn101, ec_zn107, ec_zn108, ec_zn110, ec_zn111, ec_zn115, ec_zn116, ec_zn119, ec_zn167, ec_zn185, ec_zn192, ec_zn215, ec_zn233, ec_zn699, ec_zn932, ec_zn999, ec_znF, ec_zneg, ec_zadd, ec_zsub, ec_zmul, ec_zdivO, ec_em, ec_zltO, ec_zeqO, ec_zeq0, ec_qt, ec_qf, if_pos, if_neg, Int.add_zero, ec_aft_v, ec_aft_n, ec_rwE, ec_rwN, ec_rwP, ec_rwK, ec_rwS, ec_w_shpI, ec_w_shpL, ec_w_shpA, hD, hs, hs1, a1, ac, c142, c129, c131, b1]
/-! a turn behind an action -/
theorem ec_c162a {b : Int} : ∀ (n : Nat) (m : Int) (σ : ec_Sg) (h : ec_Hp), ec_MD h → ec_Ms h σ → ec_WF σ → 0 ≤ m → m + n = σ 4 →
    ∃ h', ec_om 162 18 [.ref 72, .int (ec_i b), .int (ec_i m), .double 0] [] h = ec_om 162 57 [.ref 72, .int (ec_i b), .int (ec_i (σ 4)), .double 0] [] h' ∧ ec_Ms h' (ed_fold ed_act1 n m σ) ∧ ec_fg ed_Ha h h' := by
  intro n
  induction n with
  | zero =>
    intro m σ h hD hs hW h0 hm
    have hm : m = σ 4 := by omega
    refine ⟨h, ?_, hs, ec_fg.refl⟩
    have w := hW.1
    unfold ec_MD at hD
    unfold ec_Ms at hs
    rw [ec_s162_18]
    simp (disch := first | (simp only [ec_w_kI, ec_w_kL, ec_w_kA, ec_w_shpI, ec_w_shpL, ec_w_shpA, ec_isR_r, ec_01z, ec_01o, ec_01q, hD]; done) | omega | (simp only [ec_w_shpI, ec_w_shpL, ec_w_shpA, hD]; refine ec_zinO ?_; omega) | (refine ec_nzO ?_; omega)) only [ec_s162_0, ec_s162_1, ec_s162_4, ec_s162_5, ec_s162_8, ec_s162_9, ec_s162_12, ec_s162_13, ec_s162_16, ec_s162_17, ec_s162_19, ec_s162_20, ec_s162_23, ec_s162_24, ec_s162_25, ec_s162_28, ec_s162_29, ec_s162_32, ec_s162_35, ec_s162_36, ec_s162_37, ec_s162_38, ec_s162_39, ec_s162_40, ec_s162_41, ec_s162_42, ec_s162_43, ec_s162_46, ec_s162_47, ec_s162_48, ec_s162_51, ec_s162_54, ec_s162_58, ec_s162_60, ec_s162_61, ec_s162_64, ec_s162_65, ec_s162_66, ec_s162_69, ec_s162_70, ec_s162_73, ec_s162_76, ec_s162_77, ec_s162_78, ec_s162_79, ec_s162_80, ec_s162_81, ec_s162_82, ec_s162_85, ec_s162_87, ec_s162_88, ec_s162_91, ec_s162_92, ec_s162_95, ec_s162_98, ec_s162_99, ec_s162_100, ec_s162_101, ec_s162_102, ec_s162_103, ec_s162_104, ec_s162_105, ec_s162_106, ec_s162_107, ec_s162_108, ec_s162_109, ec_s162_110, ec_s162_113, ec_s162_116, ec_s162_119, ec_s162_120, ec_s162_122, ec_s162_123, ec_s162_126, ec_s162_127, ec_s162_128, ec_s162_131, ec_s162_133, ec_s162_135, ec_s162_136, ec_s162_137, ec_s162_138, ec_s162_139, ec_s162_140, ec_s162_143, ec_s162_144, ec_s162_145, ec_s162_146, ec_s162_147, ec_s162_148, ec_s162_151, ec_s162_152, ec_s162_155, ec_s162_156, ec_s162_157, ec_s162_158, ec_s162_159, ec_s162_162, ec_s162_163, ec_s162_166, ec_s162_167, ec_s162_168, ec_s162_169, ec_s162_170, ec_s162_171, ec_s162_172, ec_s162_173, ec_s162_174, ec_s162_175, ec_s162_178, ec_s162_179, ec_s162_180, ec_s162_181, ec_s162_182, ec_s162_185, ec_s162_186, ec_s162_187, ec_s162_188, ec_s162_189, ec_s162_192, ec_s162_193, ec_s162_196, ec_s162_197, ec_s162_198, ec_s162_201, ec_s162_204, ec_s162_205, ec_s162_208, ec_s162_210, ec_s162_211, ec_s162_212, ec_s162_213, ec_s162_214, ec_s162_215, ec_zn0, ec_zn1, ec_zn2, ec_zn3, ec_zn4, ec_zn5, ec_zn6, ec_zn7, ec_zn8, ec_zn9, ec_zn10, ec_zn12, ec_zn13, ec_zn14, ec_zn15, ec_zn16, ec_zn20, ec_zn30, ec_zn48, ec_zn99, ec_zn120, ec_zn127, ec_zn11, ec_zn31, ec_zn46, ec_zn57, ec_zn59, ec_zn63, ec_zn101, ec_zn107, ec_zn108, ec_zn110, ec_zn111, ec_zn115, ec_zn116, ec_zn119, ec_zn167, ec_zn185, ec_zn192, ec_zn215, ec_zn233, ec_zn699, ec_zn932, ec_zn999, ec_znF, ec_zneg, ec_zadd, ec_zsub, ec_zmul, ec_zdivO, ec_em, ec_zltO, ec_zeqO, ec_zeq0, ec_qt, ec_qf, if_pos, if_neg, Int.add_zero, ec_aft_v, ec_aft_n, ec_rwE, ec_rwN, ec_rwP, ec_rwK, ec_rwS, ec_w_shpI, ec_w_shpL, ec_w_shpA, hD, hs]
    rw [hm]
  | succ n ih =>
    intro m σ h hD hs hW h0 hm
    have w := hW.1
    have M := ed_mon hW (m := m) (by omega)
    have Mg : -1 ≤ σ (185 + 5 * m + 3) ∧ σ (185 + 5 * m + 3) < 48 := by
      rcases M.2.2.2 with q | q
      · omega
      · have := q.1; omega
    rw [show ed_fold ed_act1 (n + 1) m σ = ed_fold ed_act1 n (m + 1) (ed_act1 σ m) from rfl]
    have c4 := ed_act1_c hW (m := m) (c := 4) (by omega) (by omega)
    have wf := ed_WF_act1 hW (m := m) (by omega)
    by_cases q : σ (185 + 5 * m + 3) = -1
    · have e0 : ed_act1 σ m = σ := if_pos q
      rw [e0]
      obtain ⟨h2, b1, b2, b3⟩ := ih (m + 1) σ h hD hs hW (by omega) (by omega)
      refine ⟨h2, ?_, b2, b3⟩
      unfold ec_MD at hD
      unfold ec_Ms at hs
      rw [ec_s162_18]
      simp (disch := first | (simp only [ec_w_kI, ec_w_kL, ec_w_kA, ec_w_shpI, ec_w_shpL, ec_w_shpA, ec_isR_r, ec_01z, ec_01o, ec_01q, hD]; done) | omega | (simp only [ec_w_shpI, ec_w_shpL, ec_w_shpA, hD]; refine ec_zinO ?_; omega) | (refine ec_nzO ?_; omega)) only [ec_s162_0, ec_s162_1, ec_s162_4, ec_s162_5, ec_s162_8, ec_s162_9, ec_s162_12, ec_s162_13, ec_s162_16, ec_s162_17, ec_s162_19, ec_s162_20, ec_s162_23, ec_s162_24, ec_s162_25, ec_s162_28, ec_s162_29, ec_s162_32, ec_s162_35, ec_s162_36, ec_s162_37, ec_s162_38, ec_s162_39, ec_s162_40, ec_s162_41, ec_s162_42, ec_s162_43, ec_s162_46, ec_s162_47, ec_s162_48, ec_s162_51, ec_s162_54, ec_s162_58, ec_s162_60, ec_s162_61, ec_s162_64, ec_s162_65, ec_s162_66, ec_s162_69, ec_s162_70, ec_s162_73, ec_s162_76, ec_s162_77, ec_s162_78, ec_s162_79, ec_s162_80, ec_s162_81, ec_s162_82, ec_s162_85, ec_s162_87, ec_s162_88, ec_s162_91, ec_s162_92, ec_s162_95, ec_s162_98, ec_s162_99, ec_s162_100, ec_s162_101, ec_s162_102, ec_s162_103, ec_s162_104, ec_s162_105, ec_s162_106, ec_s162_107, ec_s162_108, ec_s162_109, ec_s162_110, ec_s162_113, ec_s162_116, ec_s162_119, ec_s162_120, ec_s162_122, ec_s162_123, ec_s162_126, ec_s162_127, ec_s162_128, ec_s162_131, ec_s162_133, ec_s162_135, ec_s162_136, ec_s162_137, ec_s162_138, ec_s162_139, ec_s162_140, ec_s162_143, ec_s162_144, ec_s162_145, ec_s162_146, ec_s162_147, ec_s162_148, ec_s162_151, ec_s162_152, ec_s162_155, ec_s162_156, ec_s162_157, ec_s162_158, ec_s162_159, ec_s162_162, ec_s162_163, ec_s162_166, ec_s162_167, ec_s162_168, ec_s162_169, ec_s162_170, ec_s162_171, ec_s162_172, ec_s162_173, ec_s162_174, ec_s162_175, ec_s162_178, ec_s162_179, ec_s162_180, ec_s162_181, ec_s162_182, ec_s162_185, ec_s162_186, ec_s162_187, ec_s162_188, ec_s162_189, ec_s162_192, ec_s162_193, ec_s162_196, ec_s162_197, ec_s162_198, ec_s162_201, ec_s162_204, ec_s162_205, ec_s162_208, ec_s162_210, ec_s162_211, ec_s162_212, ec_s162_213, ec_s162_214, ec_s162_215, ec_zn0, ec_zn1, ec_zn2, ec_zn3, ec_zn4, ec_zn5, ec_zn6, ec_zn7, ec_zn8, ec_zn9, ec_zn10, ec_zn12, ec_zn13, ec_zn14, ec_zn15, ec_zn16, ec_zn20, ec_zn30, ec_zn48, ec_zn99, ec_zn120, ec_zn127, ec_zn11, ec_zn31, ec_zn46, ec_zn57, ec_zn59, ec_zn63, ec_zn101, ec_zn107, ec_zn108, ec_zn110, ec_zn111, ec_zn115, ec_zn116, ec_zn119, ec_zn167, ec_zn185, ec_zn192, ec_zn215, ec_zn233, ec_zn699, ec_zn932, ec_zn999, ec_znF, ec_zneg, ec_zadd, ec_zsub, ec_zmul, ec_zdivO, ec_em, ec_zltO, ec_zeqO, ec_zeq0, ec_qt, ec_qf, if_pos, if_neg, Int.add_zero, ec_aft_v, ec_aft_n, ec_rwE, ec_rwN, ec_rwP, ec_rwK, ec_rwS, ec_w_shpI, ec_w_shpL, ec_w_shpA, hD, hs, b1]
    · obtain ⟨h1, a1, a2, a3⟩ := ec_c161 hD hs hW (m := m) (by omega) q
      obtain ⟨h2, b1, b2, b3⟩ := ih (m + 1) _ h1 (hD.of a3.1.1) a2 wf (by omega) (by omega)
      rw [c4] at b1
      refine ⟨h2, ?_, b2, a3.trans b3⟩
      unfold ec_MD at hD
      unfold ec_Ms at hs
      rw [ec_s162_18]
      simp (disch := first | (simp only [ec_w_kI, ec_w_kL, ec_w_kA, ec_w_shpI, ec_w_shpL, ec_w_shpA, ec_isR_r, ec_01z, ec_01o, ec_01q, hD]; done) | omega | (simp only [ec_w_shpI, ec_w_shpL, ec_w_shpA, hD]; refine ec_zinO ?_; omega) | (refine ec_nzO ?_; omega)) only [ec_s162_0, ec_s162_1, ec_s162_4, ec_s162_5, ec_s162_8, ec_s162_9, ec_s162_12, ec_s162_13, ec_s162_16, ec_s162_17, ec_s162_19, ec_s162_20, ec_s162_23, ec_s162_24, ec_s162_25, ec_s162_28, ec_s162_29, ec_s162_32, ec_s162_35, ec_s162_36, ec_s162_37, ec_s162_38, ec_s162_39, ec_s162_40, ec_s162_41, ec_s162_42, ec_s162_43, ec_s162_46, ec_s162_47, ec_s162_48, ec_s162_51, ec_s162_54, ec_s162_58, ec_s162_60, ec_s162_61, ec_s162_64, ec_s162_65, ec_s162_66, ec_s162_69, ec_s162_70, ec_s162_73, ec_s162_76, ec_s162_77, ec_s162_78, ec_s162_79, ec_s162_80, ec_s162_81, ec_s162_82, ec_s162_85, ec_s162_87, ec_s162_88, ec_s162_91, ec_s162_92, ec_s162_95, ec_s162_98, ec_s162_99, ec_s162_100, ec_s162_101, ec_s162_102, ec_s162_103, ec_s162_104, ec_s162_105, ec_s162_106, ec_s162_107, ec_s162_108, ec_s162_109, ec_s162_110, ec_s162_113, ec_s162_116, ec_s162_119, ec_s162_120, ec_s162_122, ec_s162_123, ec_s162_126, ec_s162_127, ec_s162_128, ec_s162_131, ec_s162_133, ec_s162_135, ec_s162_136, ec_s162_137, ec_s162_138, ec_s162_139, ec_s162_140, ec_s162_143, ec_s162_144, ec_s162_145, ec_s162_146, ec_s162_147, ec_s162_148, ec_s162_151, ec_s162_152, ec_s162_155, ec_s162_156, ec_s162_157, ec_s162_158, ec_s162_159, ec_s162_162, ec_s162_163, ec_s162_166, ec_s162_167, ec_s162_168, ec_s162_169, ec_s162_170, ec_s162_171, ec_s162_172, ec_s162_173, ec_s162_174, ec_s162_175, ec_s162_178, ec_s162_179, ec_s162_180, ec_s162_181, ec_s162_182, ec_s162_185, ec_s162_186, ec_s162_187, ec_s162_188, ec_s162_189, ec_s162_192, ec_s162_193, ec_s162_196, ec_s162_197, ec_s162_198, ec_s162_201, ec_s162_204, ec_s162_205, ec_s162_208, ec_s162_210, ec_s162_211, ec_s162_212, ec_s162_213, ec_s162_214, ec_s162_215, ec_zn0, ec_zn1, ec_zn2, ec_zn3, ec_zn4, ec_zn5, ec_zn6, ec_zn7, ec_zn8, ec_zn9, ec_zn10, ec_zn12, ec_zn13, ec_zn14, ec_zn15, ec_zn16, ec_zn20, ec_zn30, ec_zn48, ec_zn99, ec_zn120, ec_zn127, ec_zn11, ec_zn31, ec_zn46, ec_zn57, ec_zn59, ec_zn63, ec_zn101, ec_zn107, ec_zn108, ec_zn110, ec_zn111, ec_zn115, ec_zn116, ec_zn119, ec_zn167, ec_zn185, ec_zn192, ec_zn215, ec_zn233, ec_zn699, ec_zn932, ec_zn999, ec_znF, ec_zneg, ec_zadd, ec_zsub, ec_zmul, ec_zdivO, ec_em, ec_zltO, ec_zeqO, ec_zeq0, ec_qt, ec_qf, if_pos, if_neg, Int.add_zero, ec_aft_v, ec_aft_n, ec_rwE, ec_rwN, ec_rwP, ec_rwK, ec_rwS, ec_w_shpI, ec_w_shpL, ec_w_shpA, hD, hs, a1, b1]
theorem ec_c162h {b : Int} : ∀ (n : Nat) (m : Int) (σ : ec_Sg) (h : ec_Hp), ec_MD h → ec_Ms h σ → ec_WF σ → 0 ≤ m → m + n = σ 4 →
    ∃ h', ec_om 162 59 [.ref 72, .int (ec_i b), .int (ec_i m), .double 0] [] h = ec_om 162 119 [.ref 72, .int (ec_i b), .int (ec_i (σ 4)), .double 0] [] h' ∧ ec_Ms h' (ed_fold ed_hrt1 n m σ) ∧ ec_fg ed_73 h h' := by
  intro n
  induction n with
  | zero =>
    intro m σ h hD hs hW h0 hm
    have hm : m = σ 4 := by omega
    refine ⟨h, ?_, hs, ec_fg.refl⟩
    have w := hW.1
    unfold ec_MD at hD
    unfold ec_Ms at hs
    rw [ec_s162_59]
    simp (disch := first | (simp only [ec_w_kI, ec_w_kL, ec_w_kA, ec_w_shpI, ec_w_shpL, ec_w_shpA, ec_isR_r, ec_01z, ec_01o, ec_01q, hD]; done) | omega | (simp only [ec_w_shpI, ec_w_shpL, ec_w_shpA, hD]; refine ec_zinO ?_; omega) | (refine ec_nzO ?_; omega)) only [ec_s162_0, ec_s162_1, ec_s162_4, ec_s162_5, ec_s162_8, ec_s162_9, ec_s162_12, ec_s162_13, ec_s162_16, ec_s162_17, ec_s162_19, ec_s162_20, ec_s162_23, ec_s162_24, ec_s162_25, ec_s162_28, ec_s162_29, ec_s162_32, ec_s162_35, ec_s162_36, ec_s162_37, ec_s162_38, ec_s162_39, ec_s162_40, ec_s162_41, ec_s162_42, ec_s162_43, ec_s162_46, ec_s162_47, ec_s162_48, ec_s162_51, ec_s162_54, ec_s162_57, ec_s162_58, ec_s162_60, ec_s162_61, ec_s162_64, ec_s162_65, ec_s162_66, ec_s162_69, ec_s162_70, ec_s162_73, ec_s162_76, ec_s162_77, ec_s162_78, ec_s162_79, ec_s162_80, ec_s162_81, ec_s162_82, ec_s162_85, ec_s162_87, ec_s162_88, ec_s162_91, ec_s162_92, ec_s162_95, ec_s162_98, ec_s162_99, ec_s162_100, ec_s162_101, ec_s162_102, ec_s162_103, ec_s162_104, ec_s162_105, ec_s162_106, ec_s162_107, ec_s162_108, ec_s162_109, ec_s162_110, ec_s162_113, ec_s162_116, ec_s162_120, ec_s162_122, ec_s162_123, ec_s162_126, ec_s162_127, ec_s162_128, ec_s162_131, ec_s162_133, ec_s162_135, ec_s162_136, ec_s162_137, ec_s162_138, ec_s162_139, ec_s162_140, ec_s162_143, ec_s162_144, ec_s162_145, ec_s162_146, ec_s162_147, ec_s162_148, ec_s162_151, ec_s162_152, ec_s162_155, ec_s162_156, ec_s162_157, ec_s162_158, ec_s162_159, ec_s162_162, ec_s162_163, ec_s162_166, ec_s162_167, ec_s162_168, ec_s162_169, ec_s162_170, ec_s162_171, ec_s162_172, ec_s162_173, ec_s162_174, ec_s162_175, ec_s162_178, ec_s162_179, ec_s162_180, ec_s162_181, ec_s162_182, ec_s162_185, ec_s162_186, ec_s162_187, ec_s162_188, ec_s162_189, ec_s162_192, ec_s162_193, ec_s162_196, ec_s162_197, ec_s162_198, ec_s162_201, ec_s162_204, ec_s162_205, ec_s162_208, ec_s162_210, ec_s162_211, ec_s162_212, ec_s162_213, ec_s162_214, ec_s162_215, ec_zn0, ec_zn1, ec_zn2, ec_zn3, ec_zn4, ec_zn5, ec_zn6, ec_zn7, ec_zn8, ec_zn9, ec_zn10, ec_zn12, ec_zn13, ec_zn14, ec_zn15, ec_zn16, ec_zn20, ec_zn30, ec_zn48, ec_zn99, ec_zn120, ec_zn127, ec_zn11, ec_zn31, ec_zn46, ec_zn57, ec_zn59, ec_zn63, ec_zn101, ec_zn107, ec_zn108, ec_zn110, ec_zn111, ec_zn115, ec_zn116, ec_zn119, ec_zn167, ec_zn185, ec_zn192, ec_zn215, ec_zn233, ec_zn699, ec_zn932, ec_zn999, ec_znF, ec_zneg, ec_zadd, ec_zsub, ec_zmul, ec_zdivO, ec_em, ec_zltO, ec_zeqO, ec_zeq0, ec_qt, ec_qf, if_pos, if_neg, Int.add_zero, ec_aft_v, ec_aft_n, ec_rwE, ec_rwN, ec_rwP, ec_rwK, ec_rwS, ec_w_shpI, ec_w_shpL, ec_w_shpA, hD, hs]
    rw [hm]
  | succ n ih =>
    intro m σ h hD hs hW h0 hm
    have w := hW.1
    have H := hW.2.1.1.1
    have M := ed_mon hW (m := m) (by omega)
    have Mc := M.1.1
    have wf := ed_WF_hrt1 hW (m := m) (by omega)
    rw [show ed_fold ed_hrt1 (n + 1) m σ = ed_fold ed_hrt1 n (m + 1) (ed_hrt1 σ m) from rfl]
    unfold ed_hrt1 at wf ⊢
    by_cases q : σ (185 + 5 * m) = σ 6
    · rw [if_pos q] at wf ⊢
      have w1 : ec_WF (ec_su σ (185 + 5 * m + 4) (σ (185 + 5 * m + 4) + 1)) := by
        refine ed_WF_mo hW (m := m) (by omega) (fun j hj => by simp (disch := omega) only [ec_suN]) (fun _ => ?_)
        simp (disch := omega) only [ec_suN, ec_suE]
        exact M
      have f1 : ec_fg ed_73 h (ec_setI h 73 (ec_i (185 + 5 * m + 4)).toNatClampNeg (ec_i (σ (185 + 5 * m + 4) + 1))) := ec_fg.refl.I (by rfl)
      obtain ⟨h1, a1, a2, a3⟩ := ec_c155 (hD.of f1.1.1) (hs.w (z := 185 + 5 * m + 4) (v := σ (185 + 5 * m + 4) + 1) (by omega)) w1
      obtain ⟨h2, b1, b2, b3⟩ := ih (m + 1) _ h1 (hD.of (f1.trans a3).1.1) a2 wf (by omega) (by rw [ed_hit_c (by omega), ec_suN (by omega)]; omega)
      rw [ed_hit_c (by omega), ec_suN (by omega)] at b1
      refine ⟨h2, ?_, b2, (f1.trans a3).trans b3⟩
      unfold ec_MD at hD
      unfold ec_Ms at hs
      rw [ec_s162_59]
      simp (disch := first | (simp only [ec_w_kI, ec_w_kL, ec_w_kA, ec_w_shpI, ec_w_shpL, ec_w_shpA, ec_isR_r, ec_01z, ec_01o, ec_01q, hD]; done) | omega | (simp only [ec_w_shpI, ec_w_shpL, ec_w_shpA, hD]; refine ec_zinO ?_; omega) | (refine ec_nzO ?_; omega)) only [ec_s162_0, ec_s162_1, ec_s162_4, ec_s162_5, ec_s162_8, ec_s162_9, ec_s162_12, ec_s162_13, ec_s162_16, ec_s162_17, ec_s162_19, ec_s162_20, ec_s162_23, ec_s162_24, ec_s162_25, ec_s162_28, ec_s162_29, ec_s162_32, ec_s162_35, ec_s162_36, ec_s162_37, ec_s162_38, ec_s162_39, ec_s162_40, ec_s162_41, ec_s162_42, ec_s162_43, ec_s162_46, ec_s162_47, ec_s162_48, ec_s162_51, ec_s162_54, ec_s162_57, ec_s162_58, ec_s162_60, ec_s162_61, ec_s162_64, ec_s162_65, ec_s162_66, ec_s162_69, ec_s162_70, ec_s162_73, ec_s162_76, ec_s162_77, ec_s162_78, ec_s162_79, ec_s162_80, ec_s162_81, ec_s162_82, ec_s162_85, ec_s162_87, ec_s162_88, ec_s162_91, ec_s162_92, ec_s162_95, ec_s162_98, ec_s162_99, ec_s162_100, ec_s162_101, ec_s162_102, ec_s162_103, ec_s162_104, ec_s162_105, ec_s162_106, ec_s162_107, ec_s162_108, ec_s162_109, ec_s162_110, ec_s162_113, ec_s162_116, ec_s162_120, ec_s162_122, ec_s162_123, ec_s162_126, ec_s162_127, ec_s162_128, ec_s162_131, ec_s162_133, ec_s162_135, ec_s162_136, ec_s162_137, ec_s162_138, ec_s162_139, ec_s162_140, ec_s162_143, ec_s162_144, ec_s162_145, ec_s162_146, ec_s162_147, ec_s162_148, ec_s162_151, ec_s162_152, ec_s162_155, ec_s162_156, ec_s162_157, ec_s162_158, ec_s162_159, ec_s162_162, ec_s162_163, ec_s162_166, ec_s162_167, ec_s162_168, ec_s162_169, ec_s162_170, ec_s162_171, ec_s162_172, ec_s162_173, ec_s162_174, ec_s162_175, ec_s162_178, ec_s162_179, ec_s162_180, ec_s162_181, ec_s162_182, ec_s162_185, ec_s162_186, ec_s162_187, ec_s162_188, ec_s162_189, ec_s162_192, ec_s162_193, ec_s162_196, ec_s162_197, ec_s162_198, ec_s162_201, ec_s162_204, ec_s162_205, ec_s162_208, ec_s162_210, ec_s162_211, ec_s162_212, ec_s162_213, ec_s162_214, ec_s162_215, ec_zn0, ec_zn1, ec_zn2, ec_zn3, ec_zn4, ec_zn5, ec_zn6, ec_zn7, ec_zn8, ec_zn9, ec_zn10, ec_zn12, ec_zn13, ec_zn14, ec_zn15, ec_zn16, ec_zn20, ec_zn30, ec_zn48, ec_zn99, ec_zn120, ec_zn127, ec_zn11, ec_zn31, ec_zn46, ec_zn57, ec_zn59, ec_zn63, ec_zn101, ec_zn107, ec_zn108, ec_zn110, ec_zn111, ec_zn115, ec_zn116, ec_zn119, ec_zn167, ec_zn185, ec_zn192, ec_zn215, ec_zn233, ec_zn699, ec_zn932, ec_zn999, ec_znF, ec_zneg, ec_zadd, ec_zsub, ec_zmul, ec_zdivO, ec_em, ec_zltO, ec_zeqO, ec_zeq0, ec_qt, ec_qf, if_pos, if_neg, Int.add_zero, ec_aft_v, ec_aft_n, ec_rwE, ec_rwN, ec_rwP, ec_rwK, ec_rwS, ec_w_shpI, ec_w_shpL, ec_w_shpA, hD, hs, a1, b1]
    · rw [if_neg q] at wf ⊢
      obtain ⟨h2, b1, b2, b3⟩ := ih (m + 1) σ h hD hs hW (by omega) (by omega)
      refine ⟨h2, ?_, b2, b3⟩
      unfold ec_MD at hD
      unfold ec_Ms at hs
      rw [ec_s162_59]
      simp (disch := first | (simp only [ec_w_kI, ec_w_kL, ec_w_kA, ec_w_shpI, ec_w_shpL, ec_w_shpA, ec_isR_r, ec_01z, ec_01o, ec_01q, hD]; done) | omega | (simp only [ec_w_shpI, ec_w_shpL, ec_w_shpA, hD]; refine ec_zinO ?_; omega) | (refine ec_nzO ?_; omega)) only [ec_s162_0, ec_s162_1, ec_s162_4, ec_s162_5, ec_s162_8, ec_s162_9, ec_s162_12, ec_s162_13, ec_s162_16, ec_s162_17, ec_s162_19, ec_s162_20, ec_s162_23, ec_s162_24, ec_s162_25, ec_s162_28, ec_s162_29, ec_s162_32, ec_s162_35, ec_s162_36, ec_s162_37, ec_s162_38, ec_s162_39, ec_s162_40, ec_s162_41, ec_s162_42, ec_s162_43, ec_s162_46, ec_s162_47, ec_s162_48, ec_s162_51, ec_s162_54, ec_s162_57, ec_s162_58, ec_s162_60, ec_s162_61, ec_s162_64, ec_s162_65, ec_s162_66, ec_s162_69, ec_s162_70, ec_s162_73, ec_s162_76, ec_s162_77, ec_s162_78, ec_s162_79, ec_s162_80, ec_s162_81, ec_s162_82, ec_s162_85, ec_s162_87, ec_s162_88, ec_s162_91, ec_s162_92, ec_s162_95, ec_s162_98, ec_s162_99, ec_s162_100, ec_s162_101, ec_s162_102, ec_s162_103, ec_s162_104, ec_s162_105, ec_s162_106, ec_s162_107, ec_s162_108, ec_s162_109, ec_s162_110, ec_s162_113, ec_s162_116, ec_s162_120, ec_s162_122, ec_s162_123, ec_s162_126, ec_s162_127, ec_s162_128, ec_s162_131, ec_s162_133, ec_s162_135, ec_s162_136, ec_s162_137, ec_s162_138, ec_s162_139, ec_s162_140, ec_s162_143, ec_s162_144, ec_s162_145, ec_s162_146, ec_s162_147, ec_s162_148, ec_s162_151, ec_s162_152, ec_s162_155, ec_s162_156, ec_s162_157, ec_s162_158, ec_s162_159, ec_s162_162, ec_s162_163, ec_s162_166, ec_s162_167, ec_s162_168, ec_s162_169, ec_s162_170, ec_s162_171, ec_s162_172, ec_s162_173, ec_s162_174, ec_s162_175, ec_s162_178, ec_s162_179, ec_s162_180, ec_s162_181, ec_s162_182, ec_s162_185, ec_s162_186, ec_s162_187, ec_s162_188, ec_s162_189, ec_s162_192, ec_s162_193, ec_s162_196, ec_s162_197, ec_s162_198, ec_s162_201, ec_s162_204, ec_s162_205, ec_s162_208, ec_s162_210, ec_s162_211, ec_s162_212, ec_s162_213, ec_s162_214, ec_s162_215, ec_zn0, ec_zn1, ec_zn2, ec_zn3, ec_zn4, ec_zn5, ec_zn6, ec_zn7, ec_zn8, ec_zn9, ec_zn10, ec_zn12, ec_zn13, ec_zn14, ec_zn15, ec_zn16, ec_zn20, ec_zn30, ec_zn48, ec_zn99, ec_zn120, ec_zn127, ec_zn11, ec_zn31, ec_zn46, ec_zn57, ec_zn59, ec_zn63, ec_zn101, ec_zn107, ec_zn108, ec_zn110, ec_zn111, ec_zn115, ec_zn116, ec_zn119, ec_zn167, ec_zn185, ec_zn192, ec_zn215, ec_zn233, ec_zn699, ec_zn932, ec_zn999, ec_znF, ec_zneg, ec_zadd, ec_zsub, ec_zmul, ec_zdivO, ec_em, ec_zltO, ec_zeqO, ec_zeq0, ec_qt, ec_qf, if_pos, if_neg, Int.add_zero, ec_aft_v, ec_aft_n, ec_rwE, ec_rwN, ec_rwP, ec_rwK, ec_rwS, ec_w_shpI, ec_w_shpL, ec_w_shpA, hD, hs, b1]
theorem ec_c162d {b : Int} : ∀ (n : Nat) (k : Int) (σ : ec_Sg) (h : ec_Hp) (w3 : Value), ec_MD h → ec_Ms h σ → ec_WF σ → 0 ≤ k → k + n = σ 2 →
    ∃ (h' : ec_Hp) (w3' : Value), ec_om 162 121 [.ref 72, .int (ec_i b), .int (ec_i k), w3] [] h = ec_om 162 204 [.ref 72, .int (ec_i b), .int (ec_i (σ 2)), w3'] [] h' ∧ ec_Ms h' (ed_fold ed_drs1 n k σ) ∧ ec_fg ed_73 h h' := by
  intro n
  induction n with
  | zero =>
    intro k σ h w3 hD hs hW h0 hk
    have hk : k = σ 2 := by omega
    refine ⟨h, w3, ?_, hs, ec_fg.refl⟩
    have w := hW.1
    unfold ec_MD at hD
    unfold ec_Ms at hs
    rw [ec_s162_121]
    simp (disch := first | (simp only [ec_w_kI, ec_w_kL, ec_w_kA, ec_w_shpI, ec_w_shpL, ec_w_shpA, ec_isR_r, ec_01z, ec_01o, ec_01q, hD]; done) | omega | (simp only [ec_w_shpI, ec_w_shpL, ec_w_shpA, hD]; refine ec_zinO ?_; omega) | (refine ec_nzO ?_; omega)) only [ec_s162_0, ec_s162_1, ec_s162_4, ec_s162_5, ec_s162_8, ec_s162_9, ec_s162_12, ec_s162_13, ec_s162_16, ec_s162_17, ec_s162_19, ec_s162_20, ec_s162_23, ec_s162_24, ec_s162_25, ec_s162_28, ec_s162_29, ec_s162_32, ec_s162_35, ec_s162_36, ec_s162_37, ec_s162_38, ec_s162_39, ec_s162_40, ec_s162_41, ec_s162_42, ec_s162_43, ec_s162_46, ec_s162_47, ec_s162_48, ec_s162_51, ec_s162_54, ec_s162_57, ec_s162_58, ec_s162_60, ec_s162_61, ec_s162_64, ec_s162_65, ec_s162_66, ec_s162_69, ec_s162_70, ec_s162_73, ec_s162_76, ec_s162_77, ec_s162_78, ec_s162_79, ec_s162_80, ec_s162_81, ec_s162_82, ec_s162_85, ec_s162_87, ec_s162_88, ec_s162_91, ec_s162_92, ec_s162_95, ec_s162_98, ec_s162_99, ec_s162_100, ec_s162_101, ec_s162_102, ec_s162_103, ec_s162_104, ec_s162_105, ec_s162_106, ec_s162_107, ec_s162_108, ec_s162_109, ec_s162_110, ec_s162_113, ec_s162_116, ec_s162_119, ec_s162_120, ec_s162_122, ec_s162_123, ec_s162_126, ec_s162_127, ec_s162_128, ec_s162_131, ec_s162_133, ec_s162_135, ec_s162_136, ec_s162_137, ec_s162_138, ec_s162_139, ec_s162_140, ec_s162_143, ec_s162_144, ec_s162_145, ec_s162_146, ec_s162_147, ec_s162_148, ec_s162_151, ec_s162_152, ec_s162_155, ec_s162_156, ec_s162_157, ec_s162_158, ec_s162_159, ec_s162_162, ec_s162_163, ec_s162_166, ec_s162_167, ec_s162_168, ec_s162_169, ec_s162_170, ec_s162_171, ec_s162_172, ec_s162_173, ec_s162_174, ec_s162_175, ec_s162_178, ec_s162_179, ec_s162_180, ec_s162_181, ec_s162_182, ec_s162_185, ec_s162_186, ec_s162_187, ec_s162_188, ec_s162_189, ec_s162_192, ec_s162_193, ec_s162_196, ec_s162_197, ec_s162_198, ec_s162_201, ec_s162_205, ec_s162_208, ec_s162_210, ec_s162_211, ec_s162_212, ec_s162_213, ec_s162_214, ec_s162_215, ec_zn0, ec_zn1, ec_zn2, ec_zn3, ec_zn4, ec_zn5, ec_zn6, ec_zn7, ec_zn8, ec_zn9, ec_zn10, ec_zn12, ec_zn13, ec_zn14, ec_zn15, ec_zn16, ec_zn20, ec_zn30, ec_zn48, ec_zn99, ec_zn120, ec_zn127, ec_zn11, ec_zn31, ec_zn46, ec_zn57, ec_zn59, ec_zn63, ec_zn101, ec_zn107, ec_zn108, ec_zn110, ec_zn111, ec_zn115, ec_zn116, ec_zn119, ec_zn167, ec_zn185, ec_zn192, ec_zn215, ec_zn233, ec_zn699, ec_zn932, ec_zn999, ec_znF, ec_zneg, ec_zadd, ec_zsub, ec_zmul, ec_zdivO, ec_em, ec_zltO, ec_zeqO, ec_zeq0, ec_qt, ec_qf, if_pos, if_neg, Int.add_zero, ec_aft_v, ec_aft_n, ec_rwE, ec_rwN, ec_rwP, ec_rwK, ec_rwS, ec_w_shpI, ec_w_shpL, ec_w_shpA, hD, hs]
    rw [hk]
  | succ n ih =>
    intro k σ h w3 hD hs hW h0 hk
    have w := hW.1
    have d := ed_door hW (n := k) (by omega)
    have wf := ed_WF_drs1 hW (k := k) (by omega)
    rw [show ed_fold ed_drs1 (n + 1) k σ = ed_fold ed_drs1 n (k + 1) (ed_drs1 σ k) from rfl]
    unfold ed_drs1 at wf ⊢
    by_cases q : σ (107 + 6 * k) = 1 ∧ 0 < σ (107 + 6 * k + 1)
    · rw [if_pos q] at wf ⊢
      have hs0 := hs
      have hs1 := (hs.w (z := 107 + 6 * k + 5) (v := σ (107 + 6 * k + 5) - 1) (by omega)).w (z := 107 + 6 * k) (v := if σ (107 + 6 * k + 5) - 1 = 0 then 0 else 1) (by omega)
      obtain ⟨h2, w3', b1, b2, b3⟩ := ih (k + 1) _ (ec_setI (ec_setI h 73 (ec_i (107 + 6 * k + 5)).toNatClampNeg (ec_i (σ (107 + 6 * k + 5) - 1))) 73 (ec_i (107 + 6 * k)).toNatClampNeg (ec_i (if σ (107 + 6 * k + 5) - 1 = 0 then 0 else 1))) (.int (ec_i (107 + 6 * k))) (hD.of rfl) hs1 wf (by omega) (by rw [ec_suN (by omega), ec_suN (by omega)]; omega)
      rw [ec_suN (by omega), ec_suN (by omega)] at b1
      refine ⟨h2, w3', ?_, b2, ((ec_fg.refl.I (by rfl)).I (by rfl)).trans b3⟩
      unfold ec_MD at hD
      unfold ec_Ms at hs
      rw [ec_s162_121]
      by_cases q2 : σ (107 + 6 * k + 5) - 1 = 0
      · rw [if_pos q2] at b1
        simp (disch := first | (simp only [ec_w_kI, ec_w_kL, ec_w_kA, ec_w_shpI, ec_w_shpL, ec_w_shpA, ec_isR_r, ec_01z, ec_01o, ec_01q, hD]; done) | omega | (simp only [ec_w_shpI, ec_w_shpL, ec_w_shpA, hD]; refine ec_zinO ?_; omega) | (refine ec_nzO ?_; omega)) only [ec_s162_0, ec_s162_1, ec_s162_4, ec_s162_5, ec_s162_8, ec_s162_9, ec_s162_12, ec_s162_13, ec_s162_16, ec_s162_17, ec_s162_19, ec_s162_20, ec_s162_23, ec_s162_24, ec_s162_25, ec_s162_28, ec_s162_29, ec_s162_32, ec_s162_35, ec_s162_36, ec_s162_37, ec_s162_38, ec_s162_39, ec_s162_40, ec_s162_41, ec_s162_42, ec_s162_43, ec_s162_46, ec_s162_47, ec_s162_48, ec_s162_51, ec_s162_54, ec_s162_57, ec_s162_58, ec_s162_60, ec_s162_61, ec_s162_64, ec_s162_65, ec_s162_66, ec_s162_69, ec_s162_70, ec_s162_73, ec_s162_76, ec_s162_77, ec_s162_78, ec_s162_79, ec_s162_80, ec_s162_81, ec_s162_82, ec_s162_85, ec_s162_87, ec_s162_88, ec_s162_91, ec_s162_92, ec_s162_95, ec_s162_98, ec_s162_99, ec_s162_100, ec_s162_101, ec_s162_102, ec_s162_103, ec_s162_104, ec_s162_105, ec_s162_106, ec_s162_107, ec_s162_108, ec_s162_109, ec_s162_110, ec_s162_113, ec_s162_116, ec_s162_119, ec_s162_120, ec_s162_122, ec_s162_123, ec_s162_126, ec_s162_127, ec_s162_128, ec_s162_131, ec_s162_133, ec_s162_135, ec_s162_136, ec_s162_137, ec_s162_138, ec_s162_139, ec_s162_140, ec_s162_143, ec_s162_144, ec_s162_145, ec_s162_146, ec_s162_147, ec_s162_148, ec_s162_151, ec_s162_152, ec_s162_155, ec_s162_156, ec_s162_157, ec_s162_158, ec_s162_159, ec_s162_162, ec_s162_163, ec_s162_166, ec_s162_167, ec_s162_168, ec_s162_169, ec_s162_170, ec_s162_171, ec_s162_172, ec_s162_173, ec_s162_174, ec_s162_175, ec_s162_178, ec_s162_179, ec_s162_180, ec_s162_181, ec_s162_182, ec_s162_185, ec_s162_186, ec_s162_187, ec_s162_188, ec_s162_189, ec_s162_192, ec_s162_193, ec_s162_196, ec_s162_197, ec_s162_198, ec_s162_201, ec_s162_205, ec_s162_208, ec_s162_210, ec_s162_211, ec_s162_212, ec_s162_213, ec_s162_214, ec_s162_215, ec_zn0, ec_zn1, ec_zn2, ec_zn3, ec_zn4, ec_zn5, ec_zn6, ec_zn7, ec_zn8, ec_zn9, ec_zn10, ec_zn12, ec_zn13, ec_zn14, ec_zn15, ec_zn16, ec_zn20, ec_zn30, ec_zn48, ec_zn99, ec_zn120, ec_zn127, ec_zn11, ec_zn31, ec_zn46, ec_zn57, ec_zn59, ec_zn63, ec_zn101, ec_zn107, ec_zn108, ec_zn110, ec_zn111, ec_zn115, ec_zn116, ec_zn119, ec_zn167, ec_zn185, ec_zn192, ec_zn215, ec_zn233, ec_zn699, ec_zn932, ec_zn999, ec_znF, ec_zneg, ec_zadd, ec_zsub, ec_zmul, ec_zdivO, ec_em, ec_zltO, ec_zeqO, ec_zeq0, ec_qt, ec_qf, if_pos, if_neg, Int.add_zero, ec_aft_v, ec_aft_n, ec_rwE, ec_rwN, ec_rwP, ec_rwK, ec_rwS, ec_w_shpI, ec_w_shpL, ec_w_shpA, hD, hs, b1]
      · rw [if_neg q2] at b1
        simp (disch := first | (simp only [ec_w_kI, ec_w_kL, ec_w_kA, ec_w_shpI, ec_w_shpL, ec_w_shpA, ec_isR_r, ec_01z, ec_01o, ec_01q, hD]; done) | omega | (simp only [ec_w_shpI, ec_w_shpL, ec_w_shpA, hD]; refine ec_zinO ?_; omega) | (refine ec_nzO ?_; omega)) only [ec_s162_0, ec_s162_1, ec_s162_4, ec_s162_5, ec_s162_8, ec_s162_9, ec_s162_12, ec_s162_13, ec_s162_16, ec_s162_17, ec_s162_19, ec_s162_20, ec_s162_23, ec_s162_24, ec_s162_25, ec_s162_28, ec_s162_29, ec_s162_32, ec_s162_35, ec_s162_36, ec_s162_37, ec_s162_38, ec_s162_39, ec_s162_40, ec_s162_41, ec_s162_42, ec_s162_43, ec_s162_46, ec_s162_47, ec_s162_48, ec_s162_51, ec_s162_54, ec_s162_57, ec_s162_58, ec_s162_60, ec_s162_61, ec_s162_64, ec_s162_65, ec_s162_66, ec_s162_69, ec_s162_70, ec_s162_73, ec_s162_76, ec_s162_77, ec_s162_78, ec_s162_79, ec_s162_80, ec_s162_81, ec_s162_82, ec_s162_85, ec_s162_87, ec_s162_88, ec_s162_91, ec_s162_92, ec_s162_95, ec_s162_98, ec_s162_99, ec_s162_100, ec_s162_101, ec_s162_102, ec_s162_103, ec_s162_104, ec_s162_105, ec_s162_106, ec_s162_107, ec_s162_108, ec_s162_109, ec_s162_110, ec_s162_113, ec_s162_116, ec_s162_119, ec_s162_120, ec_s162_122, ec_s162_123, ec_s162_126, ec_s162_127, ec_s162_128, ec_s162_131, ec_s162_133, ec_s162_135, ec_s162_136, ec_s162_137, ec_s162_138, ec_s162_139, ec_s162_140, ec_s162_143, ec_s162_144, ec_s162_145, ec_s162_146, ec_s162_147, ec_s162_148, ec_s162_151, ec_s162_152, ec_s162_155, ec_s162_156, ec_s162_157, ec_s162_158, ec_s162_159, ec_s162_162, ec_s162_163, ec_s162_166, ec_s162_167, ec_s162_168, ec_s162_169, ec_s162_170, ec_s162_171, ec_s162_172, ec_s162_173, ec_s162_174, ec_s162_175, ec_s162_178, ec_s162_179, ec_s162_180, ec_s162_181, ec_s162_182, ec_s162_185, ec_s162_186, ec_s162_187, ec_s162_188, ec_s162_189, ec_s162_192, ec_s162_193, ec_s162_196, ec_s162_197, ec_s162_198, ec_s162_201, ec_s162_205, ec_s162_208, ec_s162_210, ec_s162_211, ec_s162_212, ec_s162_213, ec_s162_214, ec_s162_215, ec_zn0, ec_zn1, ec_zn2, ec_zn3, ec_zn4, ec_zn5, ec_zn6, ec_zn7, ec_zn8, ec_zn9, ec_zn10, ec_zn12, ec_zn13, ec_zn14, ec_zn15, ec_zn16, ec_zn20, ec_zn30, ec_zn48, ec_zn99, ec_zn120, ec_zn127, ec_zn11, ec_zn31, ec_zn46, ec_zn57, ec_zn59, ec_zn63, ec_zn101, ec_zn107, ec_zn108, ec_zn110, ec_zn111, ec_zn115, ec_zn116, ec_zn119, ec_zn167, ec_zn185, ec_zn192, ec_zn215, ec_zn233, ec_zn699, ec_zn932, ec_zn999, ec_znF, ec_zneg, ec_zadd, ec_zsub, ec_zmul, ec_zdivO, ec_em, ec_zltO, ec_zeqO, ec_zeq0, ec_qt, ec_qf, if_pos, if_neg, Int.add_zero, ec_aft_v, ec_aft_n, ec_rwE, ec_rwN, ec_rwP, ec_rwK, ec_rwS, ec_w_shpI, ec_w_shpL, ec_w_shpA, hD, hs, b1]
    · rw [if_neg q] at wf ⊢
      obtain ⟨h2, w3', b1, b2, b3⟩ := ih (k + 1) σ h (.int (ec_i (107 + 6 * k))) hD hs hW (by omega) (by omega)
      refine ⟨h2, w3', ?_, b2, b3⟩
      unfold ec_MD at hD
      unfold ec_Ms at hs
      rw [ec_s162_121]
      by_cases q2 : σ (107 + 6 * k) = 1
      · simp (disch := first | (simp only [ec_w_kI, ec_w_kL, ec_w_kA, ec_w_shpI, ec_w_shpL, ec_w_shpA, ec_isR_r, ec_01z, ec_01o, ec_01q, hD]; done) | omega | (simp only [ec_w_shpI, ec_w_shpL, ec_w_shpA, hD]; refine ec_zinO ?_; omega) | (refine ec_nzO ?_; omega)) only [ec_s162_0, ec_s162_1, ec_s162_4, ec_s162_5, ec_s162_8, ec_s162_9, ec_s162_12, ec_s162_13, ec_s162_16, ec_s162_17, ec_s162_19, ec_s162_20, ec_s162_23, ec_s162_24, ec_s162_25, ec_s162_28, ec_s162_29, ec_s162_32, ec_s162_35, ec_s162_36, ec_s162_37, ec_s162_38, ec_s162_39, ec_s162_40, ec_s162_41, ec_s162_42, ec_s162_43, ec_s162_46, ec_s162_47, ec_s162_48, ec_s162_51, ec_s162_54, ec_s162_57, ec_s162_58, ec_s162_60, ec_s162_61, ec_s162_64, ec_s162_65, ec_s162_66, ec_s162_69, ec_s162_70, ec_s162_73, ec_s162_76, ec_s162_77, ec_s162_78, ec_s162_79, ec_s162_80, ec_s162_81, ec_s162_82, ec_s162_85, ec_s162_87, ec_s162_88, ec_s162_91, ec_s162_92, ec_s162_95, ec_s162_98, ec_s162_99, ec_s162_100, ec_s162_101, ec_s162_102, ec_s162_103, ec_s162_104, ec_s162_105, ec_s162_106, ec_s162_107, ec_s162_108, ec_s162_109, ec_s162_110, ec_s162_113, ec_s162_116, ec_s162_119, ec_s162_120, ec_s162_122, ec_s162_123, ec_s162_126, ec_s162_127, ec_s162_128, ec_s162_131, ec_s162_133, ec_s162_135, ec_s162_136, ec_s162_137, ec_s162_138, ec_s162_139, ec_s162_140, ec_s162_143, ec_s162_144, ec_s162_145, ec_s162_146, ec_s162_147, ec_s162_148, ec_s162_151, ec_s162_152, ec_s162_155, ec_s162_156, ec_s162_157, ec_s162_158, ec_s162_159, ec_s162_162, ec_s162_163, ec_s162_166, ec_s162_167, ec_s162_168, ec_s162_169, ec_s162_170, ec_s162_171, ec_s162_172, ec_s162_173, ec_s162_174, ec_s162_175, ec_s162_178, ec_s162_179, ec_s162_180, ec_s162_181, ec_s162_182, ec_s162_185, ec_s162_186, ec_s162_187, ec_s162_188, ec_s162_189, ec_s162_192, ec_s162_193, ec_s162_196, ec_s162_197, ec_s162_198, ec_s162_201, ec_s162_205, ec_s162_208, ec_s162_210, ec_s162_211, ec_s162_212, ec_s162_213, ec_s162_214, ec_s162_215, ec_zn0, ec_zn1, ec_zn2, ec_zn3, ec_zn4, ec_zn5, ec_zn6, ec_zn7, ec_zn8, ec_zn9, ec_zn10, ec_zn12, ec_zn13, ec_zn14, ec_zn15, ec_zn16, ec_zn20, ec_zn30, ec_zn48, ec_zn99, ec_zn120, ec_zn127, ec_zn11, ec_zn31, ec_zn46, ec_zn57, ec_zn59, ec_zn63, ec_zn101, ec_zn107, ec_zn108, ec_zn110, ec_zn111, ec_zn115, ec_zn116, ec_zn119, ec_zn167, ec_zn185, ec_zn192, ec_zn215, ec_zn233, ec_zn699, ec_zn932, ec_zn999, ec_znF, ec_zneg, ec_zadd, ec_zsub, ec_zmul, ec_zdivO, ec_em, ec_zltO, ec_zeqO, ec_zeq0, ec_qt, ec_qf, if_pos, if_neg, Int.add_zero, ec_aft_v, ec_aft_n, ec_rwE, ec_rwN, ec_rwP, ec_rwK, ec_rwS, ec_w_shpI, ec_w_shpL, ec_w_shpA, hD, hs, b1]
      · simp (disch := first | (simp only [ec_w_kI, ec_w_kL, ec_w_kA, ec_w_shpI, ec_w_shpL, ec_w_shpA, ec_isR_r, ec_01z, ec_01o, ec_01q, hD]; done) | omega | (simp only [ec_w_shpI, ec_w_shpL, ec_w_shpA, hD]; refine ec_zinO ?_; omega) | (refine ec_nzO ?_; omega)) only [ec_s162_0, ec_s162_1, ec_s162_4, ec_s162_5, ec_s162_8, ec_s162_9, ec_s162_12, ec_s162_13, ec_s162_16, ec_s162_17, ec_s162_19, ec_s162_20, ec_s162_23, ec_s162_24, ec_s162_25, ec_s162_28, ec_s162_29, ec_s162_32, ec_s162_35, ec_s162_36, ec_s162_37, ec_s162_38, ec_s162_39, ec_s162_40, ec_s162_41, ec_s162_42, ec_s162_43, ec_s162_46, ec_s162_47, ec_s162_48, ec_s162_51, ec_s162_54, ec_s162_57, ec_s162_58, ec_s162_60, ec_s162_61, ec_s162_64, ec_s162_65, ec_s162_66, ec_s162_69, ec_s162_70, ec_s162_73, ec_s162_76, ec_s162_77, ec_s162_78, ec_s162_79, ec_s162_80, ec_s162_81, ec_s162_82, ec_s162_85, ec_s162_87, ec_s162_88, ec_s162_91, ec_s162_92, ec_s162_95, ec_s162_98, ec_s162_99, ec_s162_100, ec_s162_101, ec_s162_102, ec_s162_103, ec_s162_104, ec_s162_105, ec_s162_106, ec_s162_107, ec_s162_108, ec_s162_109, ec_s162_110, ec_s162_113, ec_s162_116, ec_s162_119, ec_s162_120, ec_s162_122, ec_s162_123, ec_s162_126, ec_s162_127, ec_s162_128, ec_s162_131, ec_s162_133, ec_s162_135, ec_s162_136, ec_s162_137, ec_s162_138, ec_s162_139, ec_s162_140, ec_s162_143, ec_s162_144, ec_s162_145, ec_s162_146, ec_s162_147, ec_s162_148, ec_s162_151, ec_s162_152, ec_s162_155, ec_s162_156, ec_s162_157, ec_s162_158, ec_s162_159, ec_s162_162, ec_s162_163, ec_s162_166, ec_s162_167, ec_s162_168, ec_s162_169, ec_s162_170, ec_s162_171, ec_s162_172, ec_s162_173, ec_s162_174, ec_s162_175, ec_s162_178, ec_s162_179, ec_s162_180, ec_s162_181, ec_s162_182, ec_s162_185, ec_s162_186, ec_s162_187, ec_s162_188, ec_s162_189, ec_s162_192, ec_s162_193, ec_s162_196, ec_s162_197, ec_s162_198, ec_s162_201, ec_s162_205, ec_s162_208, ec_s162_210, ec_s162_211, ec_s162_212, ec_s162_213, ec_s162_214, ec_s162_215, ec_zn0, ec_zn1, ec_zn2, ec_zn3, ec_zn4, ec_zn5, ec_zn6, ec_zn7, ec_zn8, ec_zn9, ec_zn10, ec_zn12, ec_zn13, ec_zn14, ec_zn15, ec_zn16, ec_zn20, ec_zn30, ec_zn48, ec_zn99, ec_zn120, ec_zn127, ec_zn11, ec_zn31, ec_zn46, ec_zn57, ec_zn59, ec_zn63, ec_zn101, ec_zn107, ec_zn108, ec_zn110, ec_zn111, ec_zn115, ec_zn116, ec_zn119, ec_zn167, ec_zn185, ec_zn192, ec_zn215, ec_zn233, ec_zn699, ec_zn932, ec_zn999, ec_znF, ec_zneg, ec_zadd, ec_zsub, ec_zmul, ec_zdivO, ec_em, ec_zltO, ec_zeqO, ec_zeq0, ec_qt, ec_qf, if_pos, if_neg, Int.add_zero, ec_aft_v, ec_aft_n, ec_rwE, ec_rwN, ec_rwP, ec_rwK, ec_rwS, ec_w_shpI, ec_w_shpL, ec_w_shpA, hD, hs, b1]
abbrev ed_Gg : Nat → Nat → Prop := fun q j => q = 73 ∨ (78 ≤ q ∧ q ≤ 83) ∨ (q = 72 ∧ j = 14)
/-- the end of a turn: torches, goals, moves, hurts, springs -/
theorem ec_c162e {h : ec_Hp} {σ : ec_Sg} (hD : ec_MD h) (hs : ec_Ms h σ) (hW : ec_WF σ) {n p l b : Int} {f g : Int → Int} (hS : ed_SO h n f g) (hK : ed_SK σ n f g p l) : ∃ h', ec_om 162 8 [.ref 72, .int (ec_i b), .double 0, .double 0] [] h = some (.inl none, h') ∧ ec_Ms h' (ed_end p l σ) ∧ ec_fg ed_Gg h h' := by
  obtain ⟨h1, a1, a2, a3⟩ := ec_c159 hD hs hW
  have w1 := ed_WF_brn hW
  have hK1 : ed_SK (ed_brn σ) n f g p l := ⟨(ed_ing_c (ed_brn_c hW (by omega) (by omega) (by omega)) (ed_brn_c hW (by omega) (by omega) (by omega))).mpr hK.1, hK.2⟩
  obtain ⟨h2, b1, b2, b3⟩ := ec_c160 (hD.of a3.1.1) a2 w1 (hS.S73 a3) hK1
  have w2 := (ed_her_s w1 (l := l) hK1.1).1
  have f2 := (a3.mono (T := ed_Gg) (fun q j e => Or.inl e)).trans (b3.mono (fun q j e => by
    rcases e with e | e | e | e
    · exact Or.inl e
    · exact Or.inr (Or.inl (by omega))
    · exact Or.inr (Or.inl (by omega))
    · exact Or.inr (Or.inl (by omega))))
  unfold ed_end
  generalize ed_her p l (ed_brn σ) = τ at b2 w2 ⊢
  have w3 := ed_WF_acts w2
  obtain ⟨h3, c1, c2, c3⟩ := ec_c162a (b := b) (τ 4).toNat 0 τ h2 (hD.of f2.1.1) b2 w2 (by omega) (by have := w2.1; omega)
  have f3 := f2.trans (c3.mono (fun q j e => Or.elim e Or.inl (fun e => Or.inr (Or.inl (by omega)))))
  have e3 : ed_acts τ = ed_fold ed_act1 (τ 4).toNat 0 τ := rfl
  rw [← e3] at c2
  generalize ed_acts τ = υ at c2 w3 ⊢
  have w4 := ed_WF_hrt w3
  obtain ⟨h4, d1, d2, d3⟩ := ec_c162h (b := b) (υ 4).toNat 0 υ h3 (hD.of f3.1.1) c2 w3 (by omega) (by have := w3.1; omega)
  have f4 := f3.trans (d3.mono (fun q j e => Or.inl e))
  have e4 : ed_hrt υ = ed_fold ed_hrt1 (υ 4).toNat 0 υ := rfl
  rw [← e4] at d2
  generalize ed_hrt υ = φ at d2 w4 ⊢
  have w5 := ed_WF_drs w4
  obtain ⟨h5, w3', i1, i2, i3⟩ := ec_c162d (b := b) (φ 2).toNat 0 φ h4 (.double 0) (hD.of f4.1.1) d2 w4 (by omega) (by have := w4.1; omega)
  have f5 := f4.trans (i3.mono (fun q j e => Or.inl e))
  have e5 : ed_drs φ = ed_fold ed_drs1 (φ 2).toNat 0 φ := rfl
  rw [← e5] at i2
  generalize ed_drs φ = ψ at i2 w5 ⊢
  have hD5 := hD.of f5.1.1
  have hD2 := hD.of f2.1.1
  have hDa := hD.of a3.1.1
  refine ⟨ec_setI h5 73 (ec_i 10).toNatClampNeg (ec_i (ψ 10 + 1)), ?_, i2.w (by omega), f5.I (Or.inl rfl)⟩
  unfold ec_MD at hD hD5 hDa
  have hD := And.intro hD (And.intro hD5 hDa)
  unfold ec_Ms at i2
  simp (disch := first | (simp only [ec_w_kI, ec_w_kL, ec_w_kA, ec_w_shpI, ec_w_shpL, ec_w_shpA, ec_isR_r, ec_01z, ec_01o, ec_01q, hD]; done) | omega | (simp only [ec_w_shpI, ec_w_shpL, ec_w_shpA, hD]; refine ec_zinO ?_; omega) | (refine ec_nzO ?_; omega)) only [ec_s162_0, ec_s162_1, ec_s162_4, ec_s162_5, ec_s162_8, ec_s162_9, ec_s162_12, ec_s162_13, ec_s162_16, ec_s162_17, ec_s162_19, ec_s162_20, ec_s162_23, ec_s162_24, ec_s162_25, ec_s162_28, ec_s162_29, ec_s162_32, ec_s162_35, ec_s162_36, ec_s162_37, ec_s162_38, ec_s162_39, ec_s162_40, ec_s162_41, ec_s162_42, ec_s162_43, ec_s162_46, ec_s162_47, ec_s162_48, ec_s162_51, ec_s162_54, ec_s162_58, ec_s162_60, ec_s162_61, ec_s162_64, ec_s162_65, ec_s162_66, ec_s162_69, ec_s162_70, ec_s162_73, ec_s162_76, ec_s162_77, ec_s162_78, ec_s162_79, ec_s162_80, ec_s162_81, ec_s162_82, ec_s162_85, ec_s162_87, ec_s162_88, ec_s162_91, ec_s162_92, ec_s162_95, ec_s162_98, ec_s162_99, ec_s162_100, ec_s162_101, ec_s162_102, ec_s162_103, ec_s162_104, ec_s162_105, ec_s162_106, ec_s162_107, ec_s162_108, ec_s162_109, ec_s162_110, ec_s162_113, ec_s162_116, ec_s162_120, ec_s162_122, ec_s162_123, ec_s162_126, ec_s162_127, ec_s162_128, ec_s162_131, ec_s162_133, ec_s162_135, ec_s162_136, ec_s162_137, ec_s162_138, ec_s162_139, ec_s162_140, ec_s162_143, ec_s162_144, ec_s162_145, ec_s162_146, ec_s162_147, ec_s162_148, ec_s162_151, ec_s162_152, ec_s162_155, ec_s162_156, ec_s162_157, ec_s162_158, ec_s162_159, ec_s162_162, ec_s162_163, ec_s162_166, ec_s162_167, ec_s162_168, ec_s162_169, ec_s162_170, ec_s162_171, ec_s162_172, ec_s162_173, ec_s162_174, ec_s162_175, ec_s162_178, ec_s162_179, ec_s162_180, ec_s162_181, ec_s162_182, ec_s162_185, ec_s162_186, ec_s162_187, ec_s162_188, ec_s162_189, ec_s162_192, ec_s162_193, ec_s162_196, ec_s162_197, ec_s162_198, ec_s162_201, ec_s162_205, ec_s162_208, ec_s162_210, ec_s162_211, ec_s162_212, ec_s162_213, ec_s162_214, ec_s162_215, ec_zn0, ec_zn1, ec_zn2, ec_zn3, ec_zn4, ec_zn5, ec_zn6, ec_zn7, ec_zn8, ec_zn9, ec_zn10, ec_zn12, ec_zn13, ec_zn14, ec_zn15, ec_zn16, ec_zn20, ec_zn30, ec_zn48, ec_zn99, ec_zn120, ec_zn127, ec_zn11, ec_zn31, ec_zn46, ec_zn57, ec_zn59, ec_zn63, ec_zn101, ec_zn107, ec_zn108, ec_zn110, ec_zn111, ec_zn115, ec_zn116, ec_zn119, ec_zn167, ec_zn185, ec_zn192, ec_zn215, ec_zn233, ec_zn699, ec_zn932, ec_zn999, ec_znF, ec_zneg, ec_zadd, ec_zsub, ec_zmul, ec_zdivO, ec_em, ec_zltO, ec_zeqO, ec_zeq0, ec_qt, ec_qf, if_pos, if_neg, Int.add_zero, ec_aft_v, ec_aft_n, ec_rwE, ec_rwN, ec_rwP, ec_rwK, ec_rwS, ec_w_shpI, ec_w_shpL, ec_w_shpA, hD, a1, b1]
  rw [c1, ec_s162_57, ec_s162_58, ec_zn0, d1, ec_s162_119, ec_s162_120, ec_zn0, i1]
  simp (disch := first | (simp only [ec_w_kI, ec_w_kL, ec_w_kA, ec_w_shpI, ec_w_shpL, ec_w_shpA, ec_isR_r, ec_01z, ec_01o, ec_01q, hD]; done) | omega | (simp only [ec_w_shpI, ec_w_shpL, ec_w_shpA, hD]; refine ec_zinO ?_; omega) | (refine ec_nzO ?_; omega)) only [ec_s162_0, ec_s162_1, ec_s162_4, ec_s162_5, ec_s162_8, ec_s162_9, ec_s162_12, ec_s162_13, ec_s162_16, ec_s162_17, ec_s162_19, ec_s162_20, ec_s162_23, ec_s162_24, ec_s162_25, ec_s162_28, ec_s162_29, ec_s162_32, ec_s162_35, ec_s162_36, ec_s162_37, ec_s162_38, ec_s162_39, ec_s162_40, ec_s162_41, ec_s162_42, ec_s162_43, ec_s162_46, ec_s162_47, ec_s162_48, ec_s162_51, ec_s162_54, ec_s162_58, ec_s162_60, ec_s162_61, ec_s162_64, ec_s162_65, ec_s162_66, ec_s162_69, ec_s162_70, ec_s162_73, ec_s162_76, ec_s162_77, ec_s162_78, ec_s162_79, ec_s162_80, ec_s162_81, ec_s162_82, ec_s162_85, ec_s162_87, ec_s162_88, ec_s162_91, ec_s162_92, ec_s162_95, ec_s162_98, ec_s162_99, ec_s162_100, ec_s162_101, ec_s162_102, ec_s162_103, ec_s162_104, ec_s162_105, ec_s162_106, ec_s162_107, ec_s162_108, ec_s162_109, ec_s162_110, ec_s162_113, ec_s162_116, ec_s162_120, ec_s162_122, ec_s162_123, ec_s162_126, ec_s162_127, ec_s162_128, ec_s162_131, ec_s162_133, ec_s162_135, ec_s162_136, ec_s162_137, ec_s162_138, ec_s162_139, ec_s162_140, ec_s162_143, ec_s162_144, ec_s162_145, ec_s162_146, ec_s162_147, ec_s162_148, ec_s162_151, ec_s162_152, ec_s162_155, ec_s162_156, ec_s162_157, ec_s162_158, ec_s162_159, ec_s162_162, ec_s162_163, ec_s162_166, ec_s162_167, ec_s162_168, ec_s162_169, ec_s162_170, ec_s162_171, ec_s162_172, ec_s162_173, ec_s162_174, ec_s162_175, ec_s162_178, ec_s162_179, ec_s162_180, ec_s162_181, ec_s162_182, ec_s162_185, ec_s162_186, ec_s162_187, ec_s162_188, ec_s162_189, ec_s162_192, ec_s162_193, ec_s162_196, ec_s162_197, ec_s162_198, ec_s162_201, ec_s162_204, ec_s162_205, ec_s162_208, ec_s162_210, ec_s162_211, ec_s162_212, ec_s162_213, ec_s162_214, ec_s162_215, ec_zn0, ec_zn1, ec_zn2, ec_zn3, ec_zn4, ec_zn5, ec_zn6, ec_zn7, ec_zn8, ec_zn9, ec_zn10, ec_zn12, ec_zn13, ec_zn14, ec_zn15, ec_zn16, ec_zn20, ec_zn30, ec_zn48, ec_zn99, ec_zn120, ec_zn127, ec_zn11, ec_zn31, ec_zn46, ec_zn57, ec_zn59, ec_zn63, ec_zn101, ec_zn107, ec_zn108, ec_zn110, ec_zn111, ec_zn115, ec_zn116, ec_zn119, ec_zn167, ec_zn185, ec_zn192, ec_zn215, ec_zn233, ec_zn699, ec_zn932, ec_zn999, ec_znF, ec_zneg, ec_zadd, ec_zsub, ec_zmul, ec_zdivO, ec_em, ec_zltO, ec_zeqO, ec_zeq0, ec_qt, ec_qf, if_pos, if_neg, Int.add_zero, ec_aft_v, ec_aft_n, ec_rwE, ec_rwN, ec_rwP, ec_rwK, ec_rwS, ec_w_shpI, ec_w_shpL, ec_w_shpA, hD, i2]
theorem ed_GSg : ∀ q j, ed_GS q j → ed_Gg q j := fun q j e => by
  rcases e with e | e | e | e
  · exact Or.inl e
  · exact Or.inr (Or.inl (by omega))
  · exact Or.inr (Or.inl (by omega))
  · exact Or.inr (Or.inr e)
theorem ec_c163 {h : ec_Hp} {σ : ec_Sg} (hD : ec_MD h) (hs : ec_Ms h σ) (hW : ec_WF σ) {a : Int} (ha : 0 ≤ a ∧ a < 16) (hr : ed_rsn σ a = 0) : ∃ h', ec_om 163 0 [.ref 72, .int (ec_i a)] [] h = some (.inl none, h') ∧ ec_Ms h' (ed_turn σ a) ∧ ec_fg ed_Gg h h' := by
  obtain ⟨h1, a1, a2, a3, a4⟩ := ec_c157 hD hs hW ha hr
  have wd := ed_WF_does hW ha hr
  have sp := ed_sp_in hW ha hr
  have H := hW.2.1
  have b0 := hW.ba H.1 (d := a % 4) (by omega)
  have w := hW.1
  have sp' : ec_ing (ed_does σ a) (ed_sp σ a) := (ed_ing_c (ed_does_c hr (by omega) (by omega) (by omega)) (ed_does_c hr (by omega) (by omega) (by omega))).mpr sp
  have hD1 := hD.of a4.1.1
  have f1 := a4.mono ed_GSg
  unfold ed_turn
  by_cases q : a < 4
  · have sn : ed_sn a = 1 := if_pos (Or.inl (by omega))
    have sl : ed_sl σ a = 3 := if_pos q
    rw [sn] at a3
    rw [if_pos q]
    obtain ⟨h2, b1, b2, b3, b4, b5⟩ := ec_c158 hD1 a2 wd a3 (by omega)
    have hD2 := hD1.of b3.1.1
    have ws := ed_WF_spr wd
    have e6 : ed_does σ a 6 = ed_sp σ a := by
      unfold ed_does ed_sp
      rw [if_pos q, if_pos q, ed_4_pass (by omega), ec_suE rfl]
    by_cases q2 : ed_sprq (ed_does σ a)
    · rw [if_pos q2]
      have hK : ed_SK (ed_spr (ed_does σ a)) 2 (ec_su (fun _ => ed_sp σ a) 1 (ed_does σ a 6)) (ec_su (fun _ => ed_sl σ a) 1 9) (ed_does σ a 6) 9 := by
        refine ⟨(ed_ing_c (ed_spr_c (by omega) (by omega) wd) (ed_spr_c (by omega) (by omega) wd)).mpr wd.2.1.1, Or.inr (Or.inr ⟨rfl, ?_, ?_, ?_, ?_⟩)⟩
        · rw [ec_suN (by decide)]; exact e6.symm
        · rw [ec_suE rfl]
        · rw [ec_suE rfl]
        · rw [ec_suN (by decide)]
          show 0 ≤ ed_sl σ a ∧ ed_sl σ a ≤ 9 ∧ (9 : Int) ≤ 9
          omega
      obtain ⟨h3, c1, c2, c3⟩ := ec_c162e hD2 b2 ws (b := 1) (b4 q2) hK
      refine ⟨h3, ?_, c2, (f1.trans (b3.mono ed_GSg)).trans c3⟩
      unfold ec_MD at hD hD1 hD2
      have hD := And.intro hD (And.intro hD1 hD2)
      simp (disch := first | (simp only [ec_w_kI, ec_w_kL, ec_w_kA, ec_w_shpI, ec_w_shpL, ec_w_shpA, ec_isR_r, ec_01z, ec_01o, ec_01q, hD]; done) | omega | (simp only [ec_w_shpI, ec_w_shpL, ec_w_shpA, hD]; refine ec_zinO ?_; omega) | (refine ec_nzO ?_; omega)) only [ec_s163_0, ec_s163_1, ec_s163_2, ec_s163_5, ec_s163_6, ec_s163_7, ec_s163_8, ec_s163_11, ec_s163_12, ec_s163_15, ec_s163_16, ec_s163_19, ec_zn0, ec_zn1, ec_zn2, ec_zn3, ec_zn4, ec_zn5, ec_zn6, ec_zn7, ec_zn8, ec_zn9, ec_zn10, ec_zn12, ec_zn13, ec_zn14, ec_zn15, ec_zn16, ec_zn20, ec_zn30, ec_zn48, ec_zn99, ec_zn120, ec_zn127, ec_zn11, ec_zn31, ec_zn46, ec_zn57, ec_zn59, ec_zn63, ec_zn101, ec_zn107, ec_zn108, ec_zn110, ec_zn111, ec_zn115, ec_zn116, ec_zn119, ec_zn167, ec_zn185, ec_zn192, ec_zn215, ec_zn233, ec_zn699, ec_zn932, ec_zn999, ec_znF, ec_zneg, ec_zadd, ec_zsub, ec_zmul, ec_zdivO, ec_em, ec_zltO, ec_zeqO, ec_zeq0, ec_qt, ec_qf, if_pos, if_neg, Int.add_zero, ec_aft_v, ec_aft_n, ec_rwE, ec_rwN, ec_rwP, ec_rwK, ec_rwS, ec_w_shpI, ec_w_shpL, ec_w_shpA, hD, a1]
      rw [ec_s162_0]
      simp (disch := first | (simp only [ec_w_kI, ec_w_kL, ec_w_kA, ec_w_shpI, ec_w_shpL, ec_w_shpA, ec_isR_r, ec_01z, ec_01o, ec_01q, hD]; done) | omega | (simp only [ec_w_shpI, ec_w_shpL, ec_w_shpA, hD]; refine ec_zinO ?_; omega) | (refine ec_nzO ?_; omega)) only [ec_s162_1, ec_s162_4, ec_s162_5, ec_s163_19, ec_zn0, ec_zn1, ec_zn2, ec_zn3, ec_zn4, ec_zn5, ec_zn6, ec_zn7, ec_zn8, ec_zn9, ec_zn10, ec_zn12, ec_zn13, ec_zn14, ec_zn15, ec_zn16, ec_zn20, ec_zn30, ec_zn48, ec_zn99, ec_zn120, ec_zn127, ec_zn11, ec_zn31, ec_zn46, ec_zn57, ec_zn59, ec_zn63, ec_zn101, ec_zn107, ec_zn108, ec_zn110, ec_zn111, ec_zn115, ec_zn116, ec_zn119, ec_zn167, ec_zn185, ec_zn192, ec_zn215, ec_zn233, ec_zn699, ec_zn932, ec_zn999, ec_znF, ec_zneg, ec_zadd, ec_zsub, ec_zmul, ec_zdivO, ec_em, ec_zltO, ec_zeqO, ec_zeq0, ec_qt, ec_qf, if_pos, if_neg, Int.add_zero, ec_aft_v, ec_aft_n, ec_rwE, ec_rwN, ec_rwP, ec_rwK, ec_rwS, ec_w_shpI, ec_w_shpL, ec_w_shpA, hD, b1, c1]
    · rw [if_neg q2]
      have es : ed_spr (ed_does σ a) = ed_does σ a := if_neg q2
      rw [es] at b2
      have hK : ed_SK (ed_does σ a) 1 (fun _ => ed_sp σ a) (fun _ => ed_sl σ a) (ed_sp σ a) (ed_sl σ a) := ⟨sp', Or.inr (Or.inl ⟨rfl, rfl, rfl, by omega⟩)⟩
      obtain ⟨h3, c1, c2, c3⟩ := ec_c162e hD2 b2 wd (b := 1) (b5 q2) hK
      refine ⟨h3, ?_, c2, (f1.trans (b3.mono ed_GSg)).trans c3⟩
      unfold ec_MD at hD hD1 hD2
      have hD := And.intro hD (And.intro hD1 hD2)
      simp (disch := first | (simp only [ec_w_kI, ec_w_kL, ec_w_kA, ec_w_shpI, ec_w_shpL, ec_w_shpA, ec_isR_r, ec_01z, ec_01o, ec_01q, hD]; done) | omega | (simp only [ec_w_shpI, ec_w_shpL, ec_w_shpA, hD]; refine ec_zinO ?_; omega) | (refine ec_nzO ?_; omega)) only [ec_s163_0, ec_s163_1, ec_s163_2, ec_s163_5, ec_s163_6, ec_s163_7, ec_s163_8, ec_s163_11, ec_s163_12, ec_s163_15, ec_s163_16, ec_s163_19, ec_zn0, ec_zn1, ec_zn2, ec_zn3, ec_zn4, ec_zn5, ec_zn6, ec_zn7, ec_zn8, ec_zn9, ec_zn10, ec_zn12, ec_zn13, ec_zn14, ec_zn15, ec_zn16, ec_zn20, ec_zn30, ec_zn48, ec_zn99, ec_zn120, ec_zn127, ec_zn11, ec_zn31, ec_zn46, ec_zn57, ec_zn59, ec_zn63, ec_zn101, ec_zn107, ec_zn108, ec_zn110, ec_zn111, ec_zn115, ec_zn116, ec_zn119, ec_zn167, ec_zn185, ec_zn192, ec_zn215, ec_zn233, ec_zn699, ec_zn932, ec_zn999, ec_znF, ec_zneg, ec_zadd, ec_zsub, ec_zmul, ec_zdivO, ec_em, ec_zltO, ec_zeqO, ec_zeq0, ec_qt, ec_qf, if_pos, if_neg, Int.add_zero, ec_aft_v, ec_aft_n, ec_rwE, ec_rwN, ec_rwP, ec_rwK, ec_rwS, ec_w_shpI, ec_w_shpL, ec_w_shpA, hD, a1]
      rw [ec_s162_0]
      simp (disch := first | (simp only [ec_w_kI, ec_w_kL, ec_w_kA, ec_w_shpI, ec_w_shpL, ec_w_shpA, ec_isR_r, ec_01z, ec_01o, ec_01q, hD]; done) | omega | (simp only [ec_w_shpI, ec_w_shpL, ec_w_shpA, hD]; refine ec_zinO ?_; omega) | (refine ec_nzO ?_; omega)) only [ec_s162_1, ec_s162_4, ec_s162_5, ec_s163_19, ec_zn0, ec_zn1, ec_zn2, ec_zn3, ec_zn4, ec_zn5, ec_zn6, ec_zn7, ec_zn8, ec_zn9, ec_zn10, ec_zn12, ec_zn13, ec_zn14, ec_zn15, ec_zn16, ec_zn20, ec_zn30, ec_zn48, ec_zn99, ec_zn120, ec_zn127, ec_zn11, ec_zn31, ec_zn46, ec_zn57, ec_zn59, ec_zn63, ec_zn101, ec_zn107, ec_zn108, ec_zn110, ec_zn111, ec_zn115, ec_zn116, ec_zn119, ec_zn167, ec_zn185, ec_zn192, ec_zn215, ec_zn233, ec_zn699, ec_zn932, ec_zn999, ec_znF, ec_zneg, ec_zadd, ec_zsub, ec_zmul, ec_zdivO, ec_em, ec_zltO, ec_zeqO, ec_zeq0, ec_qt, ec_qf, if_pos, if_neg, Int.add_zero, ec_aft_v, ec_aft_n, ec_rwE, ec_rwN, ec_rwP, ec_rwK, ec_rwS, ec_w_shpI, ec_w_shpL, ec_w_shpA, hD, b1, c1]
  · rw [if_neg q]
    have hK : ed_SK (ed_does σ a) (ed_sn a) (fun _ => ed_sp σ a) (fun _ => ed_sl σ a) (ed_sp σ a) (ed_sl σ a) := by
      refine ⟨sp', ?_⟩
      by_cases q2 : a < 12 ∨ a = 15
      · have sn : ed_sn a = 1 := if_pos q2
        refine Or.inr (Or.inl ⟨sn, rfl, rfl, ?_⟩)
        unfold ed_sl
        rw [if_neg q]
        by_cases q3 : a < 12
        · rw [if_pos q3]
          have := (ed_rsn_0 hr).2.2.1 (by omega)
          exact (ed_door hW (n := ec_ba σ (σ 6) (a % 4) - 2) (by omega)).2.2.1
        · rw [if_neg q3, if_pos (by omega)]
          omega
      · have sn : ed_sn a = 0 := if_neg q2
        refine Or.inl ⟨sn, ?_⟩
        unfold ed_sl
        rw [if_neg q, if_neg (by omega), if_neg (by omega)]
    obtain ⟨h3, c1, c2, c3⟩ := ec_c162e hD1 a2 wd (b := 0) a3 hK
    refine ⟨h3, ?_, c2, f1.trans c3⟩
    unfold ec_MD at hD hD1
    have hD := And.intro hD hD1
    simp (disch := first | (simp only [ec_w_kI, ec_w_kL, ec_w_kA, ec_w_shpI, ec_w_shpL, ec_w_shpA, ec_isR_r, ec_01z, ec_01o, ec_01q, hD]; done) | omega | (simp only [ec_w_shpI, ec_w_shpL, ec_w_shpA, hD]; refine ec_zinO ?_; omega) | (refine ec_nzO ?_; omega)) only [ec_s163_0, ec_s163_1, ec_s163_2, ec_s163_5, ec_s163_6, ec_s163_7, ec_s163_8, ec_s163_11, ec_s163_12, ec_s163_15, ec_s163_16, ec_s163_19, ec_zn0, ec_zn1, ec_zn2, ec_zn3, ec_zn4, ec_zn5, ec_zn6, ec_zn7, ec_zn8, ec_zn9, ec_zn10, ec_zn12, ec_zn13, ec_zn14, ec_zn15, ec_zn16, ec_zn20, ec_zn30, ec_zn48, ec_zn99, ec_zn120, ec_zn127, ec_zn11, ec_zn31, ec_zn46, ec_zn57, ec_zn59, ec_zn63, ec_zn101, ec_zn107, ec_zn108, ec_zn110, ec_zn111, ec_zn115, ec_zn116, ec_zn119, ec_zn167, ec_zn185, ec_zn192, ec_zn215, ec_zn233, ec_zn699, ec_zn932, ec_zn999, ec_znF, ec_zneg, ec_zadd, ec_zsub, ec_zmul, ec_zdivO, ec_em, ec_zltO, ec_zeqO, ec_zeq0, ec_qt, ec_qf, if_pos, if_neg, Int.add_zero, ec_aft_v, ec_aft_n, ec_rwE, ec_rwN, ec_rwP, ec_rwK, ec_rwS, ec_w_shpI, ec_w_shpL, ec_w_shpA, hD, a1]
    rw [ec_s162_0]
    simp (disch := first | (simp only [ec_w_kI, ec_w_kL, ec_w_kA, ec_w_shpI, ec_w_shpL, ec_w_shpA, ec_isR_r, ec_01z, ec_01o, ec_01q, hD]; done) | omega | (simp only [ec_w_shpI, ec_w_shpL, ec_w_shpA, hD]; refine ec_zinO ?_; omega) | (refine ec_nzO ?_; omega)) only [ec_s162_1, ec_s163_19, ec_zn0, ec_zn1, ec_zn2, ec_zn3, ec_zn4, ec_zn5, ec_zn6, ec_zn7, ec_zn8, ec_zn9, ec_zn10, ec_zn12, ec_zn13, ec_zn14, ec_zn15, ec_zn16, ec_zn20, ec_zn30, ec_zn48, ec_zn99, ec_zn120, ec_zn127, ec_zn11, ec_zn31, ec_zn46, ec_zn57, ec_zn59, ec_zn63, ec_zn101, ec_zn107, ec_zn108, ec_zn110, ec_zn111, ec_zn115, ec_zn116, ec_zn119, ec_zn167, ec_zn185, ec_zn192, ec_zn215, ec_zn233, ec_zn699, ec_zn932, ec_zn999, ec_znF, ec_zneg, ec_zadd, ec_zsub, ec_zmul, ec_zdivO, ec_em, ec_zltO, ec_zeqO, ec_zeq0, ec_qt, ec_qf, if_pos, if_neg, Int.add_zero, ec_aft_v, ec_aft_n, ec_rwE, ec_rwN, ec_rwP, ec_rwK, ec_rwS, ec_w_shpI, ec_w_shpL, ec_w_shpA, hD, c1]
