/-! The class's face: torches, monsters, traps. -/
section EDK
variable {h : ec_Hp} {σ : ec_Sg} {n : Int} {p : Int → ec_Sg} {L : Int} {T : Int → Int}
set_option maxHeartbeats 2000000 in
theorem ec_c75s (C : ed_CL h σ n p L T) {x y f : Int} (rx : ec_rg x) (ry : ec_rg y) (rf : ec_rg f) :
    (ed_kAt σ x y f = 0 → ed_Cn 75 [.ref 0, .int (ec_i x), .int (ec_i y), .int (ec_i f), .double 0] h (σ 3) (ed_ato σ (8 * y + x) f) (ed_pn n) (ed_pp n p σ) L T) ∧
    (ed_kAt σ x y f ≠ 0 → ed_Cx 75 [.ref 0, .int (ec_i x), .int (ec_i y), .int (ec_i f), .double 0] h (ed_x3 (ed_kAt σ x y f))) := by
  have g1 := ec_c107s C rx ry
  have g12 := fun h => ec_c112s (h := h) (x := x) (y := y)
  have g5 := fun h => ec_c111s (h := h) rf ec_rn0 ec_rn99
  have x0 : ec_nth [] ec_ht 75 = [] := rfl
  have b0 := And.intro C.b x0
  have w := C.2.1.2.2
  have w1 := w.1
  have wc := w.ct
  have D0 := C.2.1.1
  have R0 := C.2.1.2.1
  have g7 := ec_c110s (M := 6) D0.2.2.2.1 R0.2.1.2.1 (by omega) (by decide)
  unfold ed_kAt
  by_cases q1 : ed_qc σ x y
  · have zi := ed_qc_in w q1
    have z2 := zi.1
    rw [if_pos q1] at g1
    rw [if_pos q1]
    by_cases q2 : 0 ≤ f ∧ f ≤ 99
    · rw [if_pos q2]
      by_cases q4 : σ 3 = 6
      · rw [if_pos q4]
        refine ⟨fun e => absurd e (by decide), fun _ => ?_⟩
        have hD := b0
        rw [if_pos (by omega)] at g7
        show ec_om 75 0 _ [] h = some (.inr 1, ec_thw h)
        simp (disch := first | (simp only [ec_w_kI, ec_w_kL, ec_w_kA, ec_w_shpI, ec_w_shpL, ec_w_shpA, ec_isR_r, ec_01z, ec_01o, ec_01q, hD]; done) | omega | (simp only [ec_w_shpI, ec_w_shpL, ec_w_shpA, hD]; refine ec_zinO ?_; omega) | (refine ec_nzO ?_; omega)) only [ec_s75_0, ec_s75_1, ec_s75_2, ec_s75_3, ec_s75_6, ec_s75_7, ec_s75_8, ec_s75_10, ec_s75_13, ec_s75_14, ec_s75_17, ec_s75_20, ec_s75_23, ec_s75_24, ec_s75_27, ec_s75_28, ec_s75_31, ec_s75_34, ec_s75_35, ec_s75_38, ec_s75_41, ec_s75_44, ec_s75_46, ec_s75_47, ec_s75_50, ec_s75_53, ec_s75_55, ec_s75_56, ec_s75_57, ec_s75_60, ec_s75_63, ec_s75_64, ec_s75_67, ec_s75_70, ec_s75_72, ec_s75_73, ec_s75_74, ec_s75_77, ec_s75_78, ec_s75_81, ec_s75_84, ec_s75_86, ec_s75_87, ec_s75_88, ec_s75_91, ec_s75_92, ec_s75_95, ec_s75_96, ec_s75_99, ec_s75_101, ec_zn0, ec_zn1, ec_zn2, ec_zn3, ec_zn4, ec_zn5, ec_zn6, ec_zn7, ec_zn8, ec_zn9, ec_zn10, ec_zn12, ec_zn13, ec_zn14, ec_zn15, ec_zn16, ec_zn20, ec_zn30, ec_zn48, ec_zn99, ec_zn120, ec_zn127, ec_zn11, ec_zn31, ec_zn46, ec_zn57, ec_zn59, ec_zn63, ec_zn101, ec_zn107, ec_zn108, ec_zn110, ec_zn111, ec_zn115, ec_zn116, ec_zn119, ec_zn167, ec_zn185, ec_zn192, ec_zn215, ec_zn233, ec_zn699, ec_zn932, ec_zn999, ec_znF, ec_zneg, ec_zadd, ec_zsub, ec_zmul, ec_zdivO, ec_em, ec_zltO, ec_zeqO, ec_zeq0, ec_qt, ec_qf, if_pos, if_neg, Int.add_zero, ec_aft_v, ec_aft_n, ec_rwE, ec_rwN, ec_rwP, ec_rwK, ec_rwS, ec_w_shpI, ec_w_shpL, ec_w_shpA, hD, g1, g5, g7, ec_aft_x]
      · rw [if_neg q4]
        rw [if_neg (by omega)] at g7
        refine ⟨fun _ => ?_, fun e => absurd rfl e⟩
        obtain ⟨h1, a1, a2, a3⟩ := C.saved
        have D1 := a2.2.1.1
        have R1 := a2.2.1.2.1
        have u1 := a2.u
        obtain ⟨h2, b1, b2, b3, b4⟩ := ec_c47s (by decide) (c := σ 3) (by omega) D1.2.2.2.1 R1.2.1.2.1
        have D2 := D1.f2 b4 (fun j hj => by omega)
        obtain ⟨h3, c1, c2, c2b, c3, c4⟩ := ec_c52s (a := σ 3) (z := 8 * y + x) D2.2.2.2.1 (by omega) (by omega) (by decide) z2
        obtain ⟨h4, d1, d2, d3, d4⟩ := ec_c49s (a := σ 3) (b := 2) (v := f) c3 (by omega) (by omega) (by decide)
        obtain ⟨h5, e1, e2, e3, e4⟩ := ec_c49s (a := σ 3) (b := 3) (v := if 0 < f then 1 else 0) d3 (by omega) (by omega) (by decide)
        have F : ec_fg (fun q j => q = 1 + 4 ∧ j = 3 ∨ q = 1 + 5 ∧ σ 3 * 4 ≤ (j : Int) ∧ (j : Int) < σ 3 * 4 + 4) h1 h5 := (b4.mono (fun q j y => by omega)).trans ((c4.mono (fun q j y => by omega)).trans ((d4.mono (fun q j y => by omega)).trans (e4.mono (fun q j y => by omega))))
        have R5 := R1.nt wc (by omega) F
          ((e4.2 _ _ (by omega)).trans ((d4.2 _ _ (by omega)).trans ((c4.2 _ _ (by omega)).trans b2)))
          (fun k hk => (e4.2 _ _ (by omega)).trans ((d4.2 _ _ (by omega)).trans (c2 k (by omega))))
          (fun k hk => (e4.2 _ _ (by omega)).trans ((d4.2 _ _ (by omega)).trans (c2b k (by omega))))
          (fun k hk => (e4.2 _ _ (by omega)).trans (d2 k (by omega)))
          (fun k hk => e2 k (by omega))
        have D5 := D1.f2 F (fun j hj => by omega)
        refine ⟨h5, ?_, a2.fin a3 (F.mono (fun q j y => by omega)) D5 R5 (ed_WF_ato w (by omega) zi q2)⟩
        have r := R1.2.1.2.1
        have u2 := u1.of b4.1.1
        have u3 := u2.of c4.1.1
        have u4 := u3.of d4.1.1
        unfold ed_BU at u1 u2 u3 u4
        have hD := And.intro b0 (And.intro u1 (And.intro u2 (And.intro u3 u4)))
        by_cases q5 : 0 < f
        · rw [if_pos q5] at e1
          simp (disch := first | (simp only [ec_w_kI, ec_w_kL, ec_w_kA, ec_w_shpI, ec_w_shpL, ec_w_shpA, ec_isR_r, ec_01z, ec_01o, ec_01q, hD]; done) | omega | (simp only [ec_w_shpI, ec_w_shpL, ec_w_shpA, hD]; refine ec_zinO ?_; omega) | (refine ec_nzO ?_; omega)) only [ec_s75_0, ec_s75_1, ec_s75_2, ec_s75_3, ec_s75_6, ec_s75_7, ec_s75_8, ec_s75_10, ec_s75_13, ec_s75_14, ec_s75_17, ec_s75_20, ec_s75_23, ec_s75_24, ec_s75_27, ec_s75_28, ec_s75_31, ec_s75_34, ec_s75_35, ec_s75_38, ec_s75_41, ec_s75_44, ec_s75_46, ec_s75_47, ec_s75_50, ec_s75_53, ec_s75_55, ec_s75_56, ec_s75_57, ec_s75_60, ec_s75_63, ec_s75_64, ec_s75_67, ec_s75_70, ec_s75_72, ec_s75_73, ec_s75_74, ec_s75_77, ec_s75_78, ec_s75_81, ec_s75_84, ec_s75_86, ec_s75_87, ec_s75_88, ec_s75_91, ec_s75_92, ec_s75_95, ec_s75_96, ec_s75_99, ec_s75_101, ec_zn0, ec_zn1, ec_zn2, ec_zn3, ec_zn4, ec_zn5, ec_zn6, ec_zn7, ec_zn8, ec_zn9, ec_zn10, ec_zn12, ec_zn13, ec_zn14, ec_zn15, ec_zn16, ec_zn20, ec_zn30, ec_zn48, ec_zn99, ec_zn120, ec_zn127, ec_zn11, ec_zn31, ec_zn46, ec_zn57, ec_zn59, ec_zn63, ec_zn101, ec_zn107, ec_zn108, ec_zn110, ec_zn111, ec_zn115, ec_zn116, ec_zn119, ec_zn167, ec_zn185, ec_zn192, ec_zn215, ec_zn233, ec_zn699, ec_zn932, ec_zn999, ec_znF, ec_zneg, ec_zadd, ec_zsub, ec_zmul, ec_zdivO, ec_em, ec_zltO, ec_zeqO, ec_zeq0, ec_qt, ec_qf, if_pos, if_neg, Int.add_zero, ec_aft_v, ec_aft_n, ec_rwE, ec_rwN, ec_rwP, ec_rwK, ec_rwS, ec_w_shpI, ec_w_shpL, ec_w_shpA, hD, g1, g5, g7, g12, a1, b1, c1, d1, e1]
        · rw [if_neg q5] at e1
          simp (disch := first | (simp only [ec_w_kI, ec_w_kL, ec_w_kA, ec_w_shpI, ec_w_shpL, ec_w_shpA, ec_isR_r, ec_01z, ec_01o, ec_01q, hD]; done) | omega | (simp only [ec_w_shpI, ec_w_shpL, ec_w_shpA, hD]; refine ec_zinO ?_; omega) | (refine ec_nzO ?_; omega)) only [ec_s75_0, ec_s75_1, ec_s75_2, ec_s75_3, ec_s75_6, ec_s75_7, ec_s75_8, ec_s75_10, ec_s75_13, ec_s75_14, ec_s75_17, ec_s75_20, ec_s75_23, ec_s75_24, ec_s75_27, ec_s75_28, ec_s75_31, ec_s75_34, ec_s75_35, ec_s75_38, ec_s75_41, ec_s75_44, ec_s75_46, ec_s75_47, ec_s75_50, ec_s75_53, ec_s75_55, ec_s75_56, ec_s75_57, ec_s75_60, ec_s75_63, ec_s75_64, ec_s75_67, ec_s75_70, ec_s75_72, ec_s75_73, ec_s75_74, ec_s75_77, ec_s75_78, ec_s75_81, ec_s75_84, ec_s75_86, ec_s75_87, ec_s75_88, ec_s75_91, ec_s75_92, ec_s75_95, ec_s75_96, ec_s75_99, ec_s75_101, ec_zn0, ec_zn1, ec_zn2, ec_zn3, ec_zn4, ec_zn5, ec_zn6, ec_zn7, ec_zn8, ec_zn9, ec_zn10, ec_zn12, ec_zn13, ec_zn14, ec_zn15, ec_zn16, ec_zn20, ec_zn30, ec_zn48, ec_zn99, ec_zn120, ec_zn127, ec_zn11, ec_zn31, ec_zn46, ec_zn57, ec_zn59, ec_zn63, ec_zn101, ec_zn107, ec_zn108, ec_zn110, ec_zn111, ec_zn115, ec_zn116, ec_zn119, ec_zn167, ec_zn185, ec_zn192, ec_zn215, ec_zn233, ec_zn699, ec_zn932, ec_zn999, ec_znF, ec_zneg, ec_zadd, ec_zsub, ec_zmul, ec_zdivO, ec_em, ec_zltO, ec_zeqO, ec_zeq0, ec_qt, ec_qf, if_pos, if_neg, Int.add_zero, ec_aft_v, ec_aft_n, ec_rwE, ec_rwN, ec_rwP, ec_rwK, ec_rwS, ec_w_shpI, ec_w_shpL, ec_w_shpA, hD, g1, g5, g7, g12, a1, b1, c1, d1, e1]
    · rw [if_neg q2]
      refine ⟨fun e => absurd e (by decide), fun _ => ?_⟩
      have hD := b0
      show ec_om 75 0 _ [] h = some (.inr 0, ec_thw h)
      simp (disch := first | (simp only [ec_w_kI, ec_w_kL, ec_w_kA, ec_w_shpI, ec_w_shpL, ec_w_shpA, ec_isR_r, ec_01z, ec_01o, ec_01q, hD]; done) | omega | (simp only [ec_w_shpI, ec_w_shpL, ec_w_shpA, hD]; refine ec_zinO ?_; omega) | (refine ec_nzO ?_; omega)) only [ec_s75_0, ec_s75_1, ec_s75_2, ec_s75_3, ec_s75_6, ec_s75_7, ec_s75_8, ec_s75_10, ec_s75_13, ec_s75_14, ec_s75_17, ec_s75_20, ec_s75_23, ec_s75_24, ec_s75_27, ec_s75_28, ec_s75_31, ec_s75_34, ec_s75_35, ec_s75_38, ec_s75_41, ec_s75_44, ec_s75_46, ec_s75_47, ec_s75_50, ec_s75_53, ec_s75_55, ec_s75_56, ec_s75_57, ec_s75_60, ec_s75_63, ec_s75_64, ec_s75_67, ec_s75_70, ec_s75_72, ec_s75_73, ec_s75_74, ec_s75_77, ec_s75_78, ec_s75_81, ec_s75_84, ec_s75_86, ec_s75_87, ec_s75_88, ec_s75_91, ec_s75_92, ec_s75_95, ec_s75_96, ec_s75_99, ec_s75_101, ec_zn0, ec_zn1, ec_zn2, ec_zn3, ec_zn4, ec_zn5, ec_zn6, ec_zn7, ec_zn8, ec_zn9, ec_zn10, ec_zn12, ec_zn13, ec_zn14, ec_zn15, ec_zn16, ec_zn20, ec_zn30, ec_zn48, ec_zn99, ec_zn120, ec_zn127, ec_zn11, ec_zn31, ec_zn46, ec_zn57, ec_zn59, ec_zn63, ec_zn101, ec_zn107, ec_zn108, ec_zn110, ec_zn111, ec_zn115, ec_zn116, ec_zn119, ec_zn167, ec_zn185, ec_zn192, ec_zn215, ec_zn233, ec_zn699, ec_zn932, ec_zn999, ec_znF, ec_zneg, ec_zadd, ec_zsub, ec_zmul, ec_zdivO, ec_em, ec_zltO, ec_zeqO, ec_zeq0, ec_qt, ec_qf, if_pos, if_neg, Int.add_zero, ec_aft_v, ec_aft_n, ec_rwE, ec_rwN, ec_rwP, ec_rwK, ec_rwS, ec_w_shpI, ec_w_shpL, ec_w_shpA, hD, g1, g5, ec_aft_x]
  · rw [if_neg q1] at g1
    rw [if_neg q1]
    refine ⟨fun e => absurd e (by decide), fun _ => ?_⟩
    have hD := b0
    show ec_om 75 0 _ [] h = some (.inr 2, ec_thw h)
    simp (disch := first | (simp only [ec_w_kI, ec_w_kL, ec_w_kA, ec_w_shpI, ec_w_shpL, ec_w_shpA, ec_isR_r, ec_01z, ec_01o, ec_01q, hD]; done) | omega | (simp only [ec_w_shpI, ec_w_shpL, ec_w_shpA, hD]; refine ec_zinO ?_; omega) | (refine ec_nzO ?_; omega)) only [ec_s75_0, ec_s75_1, ec_s75_2, ec_s75_3, ec_s75_6, ec_s75_7, ec_s75_8, ec_s75_10, ec_s75_13, ec_s75_14, ec_s75_17, ec_s75_20, ec_s75_23, ec_s75_24, ec_s75_27, ec_s75_28, ec_s75_31, ec_s75_34, ec_s75_35, ec_s75_38, ec_s75_41, ec_s75_44, ec_s75_46, ec_s75_47, ec_s75_50, ec_s75_53, ec_s75_55, ec_s75_56, ec_s75_57, ec_s75_60, ec_s75_63, ec_s75_64, ec_s75_67, ec_s75_70, ec_s75_72, ec_s75_73, ec_s75_74, ec_s75_77, ec_s75_78, ec_s75_81, ec_s75_84, ec_s75_86, ec_s75_87, ec_s75_88, ec_s75_91, ec_s75_92, ec_s75_95, ec_s75_96, ec_s75_99, ec_s75_101, ec_zn0, ec_zn1, ec_zn2, ec_zn3, ec_zn4, ec_zn5, ec_zn6, ec_zn7, ec_zn8, ec_zn9, ec_zn10, ec_zn12, ec_zn13, ec_zn14, ec_zn15, ec_zn16, ec_zn20, ec_zn30, ec_zn48, ec_zn99, ec_zn120, ec_zn127, ec_zn11, ec_zn31, ec_zn46, ec_zn57, ec_zn59, ec_zn63, ec_zn101, ec_zn107, ec_zn108, ec_zn110, ec_zn111, ec_zn115, ec_zn116, ec_zn119, ec_zn167, ec_zn185, ec_zn192, ec_zn215, ec_zn233, ec_zn699, ec_zn932, ec_zn999, ec_znF, ec_zneg, ec_zadd, ec_zsub, ec_zmul, ec_zdivO, ec_em, ec_zltO, ec_zeqO, ec_zeq0, ec_qt, ec_qf, if_pos, if_neg, Int.add_zero, ec_aft_v, ec_aft_n, ec_rwE, ec_rwN, ec_rwP, ec_rwK, ec_rwS, ec_w_shpI, ec_w_shpL, ec_w_shpA, hD, g1, ec_aft_x]
set_option maxHeartbeats 2000000 in
theorem ec_c76s (C : ed_CL h σ n p L T) {x y a b : Int} (rx : ec_rg x) (ry : ec_rg y) (ra : ec_rg a) (rb : ec_rg b) :
    (ed_kAm σ x y a b = 0 → ed_Cn 76 [.ref 0, .int (ec_i x), .int (ec_i y), .int (ec_i a), .int (ec_i b), .double 0] h (σ 4) (ed_amo σ (8 * y + x) a b) (ed_pn n) (ed_pp n p σ) L T) ∧
    (ed_kAm σ x y a b ≠ 0 → ed_Cx 76 [.ref 0, .int (ec_i x), .int (ec_i y), .int (ec_i a), .int (ec_i b), .double 0] h (ed_x3 (ed_kAm σ x y a b))) := by
  have g1 := ec_c107s C rx ry
  have g12 := fun h => ec_c112s (h := h) (x := x) (y := y)
  have g5 := fun h => ec_c111s (h := h) ra ec_rn1 ec_rn9
  have g6 := fun h => ec_c111s (h := h) rb ec_rn0 ec_rn1
  have x0 : ec_nth [] ec_ht 76 = [] := rfl
  have b0 := And.intro C.b x0
  have w := C.2.1.2.2
  have w1 := w.1
  have wc := w.ct
  have D0 := C.2.1.1
  have R0 := C.2.1.2.1
  have g7 := ec_c110s (M := 6) D0.2.2.2.2.1 R0.2.1.2.2.1 (by omega) (by decide)
  unfold ed_kAm
  by_cases q1 : ed_qc σ x y
  · have zi := ed_qc_in w q1
    have z2 := zi.1
    rw [if_pos q1] at g1
    rw [if_pos q1]
    by_cases qa : 1 ≤ a ∧ a ≤ 9
    · by_cases qb : 0 ≤ b ∧ b ≤ 1
      · rw [if_pos (show (1 ≤ a ∧ a ≤ 9) ∧ 0 ≤ b ∧ b ≤ 1 from ⟨qa, qb⟩)]
        by_cases q4 : σ 4 = 6
        · rw [if_pos q4]
          refine ⟨fun e => absurd e (by decide), fun _ => ?_⟩
          have hD := b0
          rw [if_pos (by omega)] at g7
          show ec_om 76 0 _ [] h = some (.inr 1, ec_thw h)
          simp (disch := first | (simp only [ec_w_kI, ec_w_kL, ec_w_kA, ec_w_shpI, ec_w_shpL, ec_w_shpA, ec_isR_r, ec_01z, ec_01o, ec_01q, hD]; done) | omega | (simp only [ec_w_shpI, ec_w_shpL, ec_w_shpA, hD]; refine ec_zinO ?_; omega) | (refine ec_nzO ?_; omega)) only [ec_s76_0, ec_s76_1, ec_s76_2, ec_s76_3, ec_s76_6, ec_s76_7, ec_s76_8, ec_s76_10, ec_s76_13, ec_s76_15, ec_s76_16, ec_s76_17, ec_s76_20, ec_s76_21, ec_s76_24, ec_s76_27, ec_s76_30, ec_s76_31, ec_s76_34, ec_s76_35, ec_s76_38, ec_s76_41, ec_s76_42, ec_s76_45, ec_s76_48, ec_s76_51, ec_s76_53, ec_s76_54, ec_s76_57, ec_s76_60, ec_s76_62, ec_s76_63, ec_s76_64, ec_s76_67, ec_s76_70, ec_s76_71, ec_s76_74, ec_s76_77, ec_s76_79, ec_s76_80, ec_s76_81, ec_s76_84, ec_s76_85, ec_s76_88, ec_s76_91, ec_s76_93, ec_s76_94, ec_s76_96, ec_s76_99, ec_s76_100, ec_s76_103, ec_s76_105, ec_s76_108, ec_s76_110, ec_zn0, ec_zn1, ec_zn2, ec_zn3, ec_zn4, ec_zn5, ec_zn6, ec_zn7, ec_zn8, ec_zn9, ec_zn10, ec_zn12, ec_zn13, ec_zn14, ec_zn15, ec_zn16, ec_zn20, ec_zn30, ec_zn48, ec_zn99, ec_zn120, ec_zn127, ec_zn11, ec_zn31, ec_zn46, ec_zn57, ec_zn59, ec_zn63, ec_zn101, ec_zn107, ec_zn108, ec_zn110, ec_zn111, ec_zn115, ec_zn116, ec_zn119, ec_zn167, ec_zn185, ec_zn192, ec_zn215, ec_zn233, ec_zn699, ec_zn932, ec_zn999, ec_znF, ec_zneg, ec_zadd, ec_zsub, ec_zmul, ec_zdivO, ec_em, ec_zltO, ec_zeqO, ec_zeq0, ec_qt, ec_qf, if_pos, if_neg, Int.add_zero, ec_aft_v, ec_aft_n, ec_rwE, ec_rwN, ec_rwP, ec_rwK, ec_rwS, ec_w_shpI, ec_w_shpL, ec_w_shpA, hD, g1, g5, g6, g7, ec_aft_x]
        · rw [if_neg q4]
          rw [if_neg (by omega)] at g7
          refine ⟨fun _ => ?_, fun e => absurd rfl e⟩
          obtain ⟨h1, a1, a2, a3⟩ := C.saved
          have D1 := a2.2.1.1
          have R1 := a2.2.1.2.1
          have u1 := a2.u
          obtain ⟨h2, b1, b2, b3, b4⟩ := ec_c47s (by decide) (c := σ 4) (by omega) D1.2.2.2.2.1 R1.2.1.2.2.1
          have D2 := D1.f2 b4 (fun j hj => by omega)
          obtain ⟨h3, c1, c2, c2b, c3, c4⟩ := ec_c52s (a := σ 4) (z := 8 * y + x) D2.2.2.2.2.1 (by omega) (by omega) (by decide) z2
          obtain ⟨h4, d1, d2, d3, d4⟩ := ec_c49s (a := σ 4) (b := 2) (v := a) c3 (by omega) (by omega) (by decide)
          obtain ⟨h5, e1, e2, e3, e4⟩ := ec_c49s (a := σ 4) (b := 3) (v := b) d3 (by omega) (by omega) (by decide)
          have D5 := D2.f2 c4 (fun j hj => by omega) |>.f2 d4 (fun j hj => by omega) |>.f2 e4 (fun j hj => by omega)
          obtain ⟨h6, f1, f2, f3, f4⟩ := ec_c27h D5 (a := σ 4) (by omega)
          have F : ec_fg (fun q j => q = 1 + 6 ∧ j = 3 ∨ q = 1 + 7 ∧ σ 4 * 8 ≤ (j : Int) ∧ (j : Int) < σ 4 * 8 + 8) h1 h6 := (b4.mono (fun q j y => by omega)).trans ((c4.mono (fun q j y => by omega)).trans ((d4.mono (fun q j y => by omega)).trans ((e4.mono (fun q j y => by omega)).trans (f4.mono (fun q j y => by omega)))))
          have R6 := R1.nm wc (by omega) F
            ((f4.2 _ _ (by omega)).trans ((e4.2 _ _ (by omega)).trans ((d4.2 _ _ (by omega)).trans ((c4.2 _ _ (by omega)).trans b2))))
            (fun k hk => (f4.2 _ _ (by omega)).trans ((e4.2 _ _ (by omega)).trans ((d4.2 _ _ (by omega)).trans (c2 k (by omega)))))
            (fun k hk => (f4.2 _ _ (by omega)).trans ((e4.2 _ _ (by omega)).trans ((d4.2 _ _ (by omega)).trans (c2b k (by omega)))))
            (fun k hk => (f4.2 _ _ (by omega)).trans ((e4.2 _ _ (by omega)).trans (d2 k (by omega))))
            (fun k hk => (f4.2 _ _ (by omega)).trans (e2 k (by omega)))
            (fun k hk => f2 k (by omega))
            (fun k hk => f3 k (by omega))
            (fun k hk => (f4.2 _ _ (by omega)).trans ((e4.2 _ _ (by omega)).trans ((d4.2 _ _ (by omega)).trans ((c4.2 _ _ (by omega)).trans (b3 k (by omega))))))
          have D6 := D1.f2 F (fun j hj => by omega)
          refine ⟨h6, ?_, a2.fin a3 (F.mono (fun q j y => by omega)) D6 R6 (ed_WF_amo w (by omega) zi qa qb)⟩
          have r := R1.2.1.2.2.1
          have u2 := u1.of b4.1.1
          have u3 := u2.of c4.1.1
          have u4 := u3.of d4.1.1
          have u5 := u4.of e4.1.1
          unfold ed_BU at u1 u2 u3 u4 u5
          have hD := And.intro b0 (And.intro u1 (And.intro u2 (And.intro u3 (And.intro u4 u5))))
          simp (disch := first | (simp only [ec_w_kI, ec_w_kL, ec_w_kA, ec_w_shpI, ec_w_shpL, ec_w_shpA, ec_isR_r, ec_01z, ec_01o, ec_01q, hD]; done) | omega | (simp only [ec_w_shpI, ec_w_shpL, ec_w_shpA, hD]; refine ec_zinO ?_; omega) | (refine ec_nzO ?_; omega)) only [ec_s76_0, ec_s76_1, ec_s76_2, ec_s76_3, ec_s76_6, ec_s76_7, ec_s76_8, ec_s76_10, ec_s76_13, ec_s76_15, ec_s76_16, ec_s76_17, ec_s76_20, ec_s76_21, ec_s76_24, ec_s76_27, ec_s76_30, ec_s76_31, ec_s76_34, ec_s76_35, ec_s76_38, ec_s76_41, ec_s76_42, ec_s76_45, ec_s76_48, ec_s76_51, ec_s76_53, ec_s76_54, ec_s76_57, ec_s76_60, ec_s76_62, ec_s76_63, ec_s76_64, ec_s76_67, ec_s76_70, ec_s76_71, ec_s76_74, ec_s76_77, ec_s76_79, ec_s76_80, ec_s76_81, ec_s76_84, ec_s76_85, ec_s76_88, ec_s76_91, ec_s76_93, ec_s76_94, ec_s76_96, ec_s76_99, ec_s76_100, ec_s76_103, ec_s76_105, ec_s76_108, ec_s76_110, ec_zn0, ec_zn1, ec_zn2, ec_zn3, ec_zn4, ec_zn5, ec_zn6, ec_zn7, ec_zn8, ec_zn9, ec_zn10, ec_zn12, ec_zn13, ec_zn14, ec_zn15, ec_zn16, ec_zn20, ec_zn30, ec_zn48, ec_zn99, ec_zn120, ec_zn127, ec_zn11, ec_zn31, ec_zn46, ec_zn57, ec_zn59, ec_zn63, ec_zn101, ec_zn107, ec_zn108, ec_zn110, ec_zn111, ec_zn115, ec_zn116, ec_zn119, ec_zn167, ec_zn185, ec_zn192, ec_zn215, ec_zn233, ec_zn699, ec_zn932, ec_zn999, ec_znF, ec_zneg, ec_zadd, ec_zsub, ec_zmul, ec_zdivO, ec_em, ec_zltO, ec_zeqO, ec_zeq0, ec_qt, ec_qf, if_pos, if_neg, Int.add_zero, ec_aft_v, ec_aft_n, ec_rwE, ec_rwN, ec_rwP, ec_rwK, ec_rwS, ec_w_shpI, ec_w_shpL, ec_w_shpA, hD, g1, g5, g6, g7, g12, a1, b1, c1, d1, e1, f1]
      · rw [if_neg (fun z : (1 ≤ a ∧ a ≤ 9) ∧ 0 ≤ b ∧ b ≤ 1 => qb z.2)]
        refine ⟨fun e => absurd e (by decide), fun _ => ?_⟩
        have hD := b0
        show ec_om 76 0 _ [] h = some (.inr 0, ec_thw h)
        simp (disch := first | (simp only [ec_w_kI, ec_w_kL, ec_w_kA, ec_w_shpI, ec_w_shpL, ec_w_shpA, ec_isR_r, ec_01z, ec_01o, ec_01q, hD]; done) | omega | (simp only [ec_w_shpI, ec_w_shpL, ec_w_shpA, hD]; refine ec_zinO ?_; omega) | (refine ec_nzO ?_; omega)) only [ec_s76_0, ec_s76_1, ec_s76_2, ec_s76_3, ec_s76_6, ec_s76_7, ec_s76_8, ec_s76_10, ec_s76_13, ec_s76_15, ec_s76_16, ec_s76_17, ec_s76_20, ec_s76_21, ec_s76_24, ec_s76_27, ec_s76_30, ec_s76_31, ec_s76_34, ec_s76_35, ec_s76_38, ec_s76_41, ec_s76_42, ec_s76_45, ec_s76_48, ec_s76_51, ec_s76_53, ec_s76_54, ec_s76_57, ec_s76_60, ec_s76_62, ec_s76_63, ec_s76_64, ec_s76_67, ec_s76_70, ec_s76_71, ec_s76_74, ec_s76_77, ec_s76_79, ec_s76_80, ec_s76_81, ec_s76_84, ec_s76_85, ec_s76_88, ec_s76_91, ec_s76_93, ec_s76_94, ec_s76_96, ec_s76_99, ec_s76_100, ec_s76_103, ec_s76_105, ec_s76_108, ec_s76_110, ec_zn0, ec_zn1, ec_zn2, ec_zn3, ec_zn4, ec_zn5, ec_zn6, ec_zn7, ec_zn8, ec_zn9, ec_zn10, ec_zn12, ec_zn13, ec_zn14, ec_zn15, ec_zn16, ec_zn20, ec_zn30, ec_zn48, ec_zn99, ec_zn120, ec_zn127, ec_zn11, ec_zn31, ec_zn46, ec_zn57, ec_zn59, ec_zn63, ec_zn101, ec_zn107, ec_zn108, ec_zn110, ec_zn111, ec_zn115, ec_zn116, ec_zn119, ec_zn167, ec_zn185, ec_zn192, ec_zn215, ec_zn233, ec_zn699, ec_zn932, ec_zn999, ec_znF, ec_zneg, ec_zadd, ec_zsub, ec_zmul, ec_zdivO, ec_em, ec_zltO, ec_zeqO, ec_zeq0, ec_qt, ec_qf, if_pos, if_neg, Int.add_zero, ec_aft_v, ec_aft_n, ec_rwE, ec_rwN, ec_rwP, ec_rwK, ec_rwS, ec_w_shpI, ec_w_shpL, ec_w_shpA, hD, g1, g5, g6, ec_aft_x]
    · rw [if_neg (fun z : (1 ≤ a ∧ a ≤ 9) ∧ 0 ≤ b ∧ b ≤ 1 => qa z.1)]
      refine ⟨fun e => absurd e (by decide), fun _ => ?_⟩
      have hD := b0
      show ec_om 76 0 _ [] h = some (.inr 0, ec_thw h)
      simp (disch := first | (simp only [ec_w_kI, ec_w_kL, ec_w_kA, ec_w_shpI, ec_w_shpL, ec_w_shpA, ec_isR_r, ec_01z, ec_01o, ec_01q, hD]; done) | omega | (simp only [ec_w_shpI, ec_w_shpL, ec_w_shpA, hD]; refine ec_zinO ?_; omega) | (refine ec_nzO ?_; omega)) only [ec_s76_0, ec_s76_1, ec_s76_2, ec_s76_3, ec_s76_6, ec_s76_7, ec_s76_8, ec_s76_10, ec_s76_13, ec_s76_15, ec_s76_16, ec_s76_17, ec_s76_20, ec_s76_21, ec_s76_24, ec_s76_27, ec_s76_30, ec_s76_31, ec_s76_34, ec_s76_35, ec_s76_38, ec_s76_41, ec_s76_42, ec_s76_45, ec_s76_48, ec_s76_51, ec_s76_53, ec_s76_54, ec_s76_57, ec_s76_60, ec_s76_62, ec_s76_63, ec_s76_64, ec_s76_67, ec_s76_70, ec_s76_71, ec_s76_74, ec_s76_77, ec_s76_79, ec_s76_80, ec_s76_81, ec_s76_84, ec_s76_85, ec_s76_88, ec_s76_91, ec_s76_93, ec_s76_94, ec_s76_96, ec_s76_99, ec_s76_100, ec_s76_103, ec_s76_105, ec_s76_108, ec_s76_110, ec_zn0, ec_zn1, ec_zn2, ec_zn3, ec_zn4, ec_zn5, ec_zn6, ec_zn7, ec_zn8, ec_zn9, ec_zn10, ec_zn12, ec_zn13, ec_zn14, ec_zn15, ec_zn16, ec_zn20, ec_zn30, ec_zn48, ec_zn99, ec_zn120, ec_zn127, ec_zn11, ec_zn31, ec_zn46, ec_zn57, ec_zn59, ec_zn63, ec_zn101, ec_zn107, ec_zn108, ec_zn110, ec_zn111, ec_zn115, ec_zn116, ec_zn119, ec_zn167, ec_zn185, ec_zn192, ec_zn215, ec_zn233, ec_zn699, ec_zn932, ec_zn999, ec_znF, ec_zneg, ec_zadd, ec_zsub, ec_zmul, ec_zdivO, ec_em, ec_zltO, ec_zeqO, ec_zeq0, ec_qt, ec_qf, if_pos, if_neg, Int.add_zero, ec_aft_v, ec_aft_n, ec_rwE, ec_rwN, ec_rwP, ec_rwK, ec_rwS, ec_w_shpI, ec_w_shpL, ec_w_shpA, hD, g1, g5, ec_aft_x]
  · rw [if_neg q1] at g1
    rw [if_neg q1]
    refine ⟨fun e => absurd e (by decide), fun _ => ?_⟩
    have hD := b0
    show ec_om 76 0 _ [] h = some (.inr 2, ec_thw h)
    simp (disch := first | (simp only [ec_w_kI, ec_w_kL, ec_w_kA, ec_w_shpI, ec_w_shpL, ec_w_shpA, ec_isR_r, ec_01z, ec_01o, ec_01q, hD]; done) | omega | (simp only [ec_w_shpI, ec_w_shpL, ec_w_shpA, hD]; refine ec_zinO ?_; omega) | (refine ec_nzO ?_; omega)) only [ec_s76_0, ec_s76_1, ec_s76_2, ec_s76_3, ec_s76_6, ec_s76_7, ec_s76_8, ec_s76_10, ec_s76_13, ec_s76_15, ec_s76_16, ec_s76_17, ec_s76_20, ec_s76_21, ec_s76_24, ec_s76_27, ec_s76_30, ec_s76_31, ec_s76_34, ec_s76_35, ec_s76_38, ec_s76_41, ec_s76_42, ec_s76_45, ec_s76_48, ec_s76_51, ec_s76_53, ec_s76_54, ec_s76_57, ec_s76_60, ec_s76_62, ec_s76_63, ec_s76_64, ec_s76_67, ec_s76_70, ec_s76_71, ec_s76_74, ec_s76_77, ec_s76_79, ec_s76_80, ec_s76_81, ec_s76_84, ec_s76_85, ec_s76_88, ec_s76_91, ec_s76_93, ec_s76_94, ec_s76_96, ec_s76_99, ec_s76_100, ec_s76_103, ec_s76_105, ec_s76_108, ec_s76_110, ec_zn0, ec_zn1, ec_zn2, ec_zn3, ec_zn4, ec_zn5, ec_zn6, ec_zn7, ec_zn8, ec_zn9, ec_zn10, ec_zn12, ec_zn13, ec_zn14, ec_zn15, ec_zn16, ec_zn20, ec_zn30, ec_zn48, ec_zn99, ec_zn120, ec_zn127, ec_zn11, ec_zn31, ec_zn46, ec_zn57, ec_zn59, ec_zn63, ec_zn101, ec_zn107, ec_zn108, ec_zn110, ec_zn111, ec_zn115, ec_zn116, ec_zn119, ec_zn167, ec_zn185, ec_zn192, ec_zn215, ec_zn233, ec_zn699, ec_zn932, ec_zn999, ec_znF, ec_zneg, ec_zadd, ec_zsub, ec_zmul, ec_zdivO, ec_em, ec_zltO, ec_zeqO, ec_zeq0, ec_qt, ec_qf, if_pos, if_neg, Int.add_zero, ec_aft_v, ec_aft_n, ec_rwE, ec_rwN, ec_rwP, ec_rwK, ec_rwS, ec_w_shpI, ec_w_shpL, ec_w_shpA, hD, g1, ec_aft_x]
def ed_xt (k : Int) : Nat := if k = 1 then 2 else 1
set_option maxHeartbeats 2000000 in
theorem ec_c77s (C : ed_CL h σ n p L T) {x y : Int} (rx : ec_rg x) (ry : ec_rg y) :
    (ed_kSt σ x y = 0 → ed_Cn 77 [.ref 0, .int (ec_i x), .int (ec_i y), .double 0, .double 0] h (if ed_tr σ (8 * y + x) = -1 then σ 5 else ed_tr σ (8 * y + x)) (ed_str σ (8 * y + x)) (ed_pn n) (ed_pp n p σ) L T) ∧
    (ed_kSt σ x y ≠ 0 → ed_Cx 77 [.ref 0, .int (ec_i x), .int (ec_i y), .double 0, .double 0] h (ed_xt (ed_kSt σ x y))) := by
  have g1 := ec_c107s C rx ry
  have g12 := fun h => ec_c112s (h := h) (x := x) (y := y)
  have x0 : ec_nth [] ec_ht 77 = [] := rfl
  have b0 := And.intro C.b x0
  have w := C.2.1.2.2
  have w1 := w.1
  have wc := w.ct
  have D0 := C.2.1.1
  have R0 := C.2.1.2.1
  have g7 := ec_c110s (M := 6) D0.2.2.2.2.2 R0.2.1.2.2.2 (by omega) (by decide)
  unfold ed_kSt
  by_cases q1 : ed_qc σ x y
  · have zi := ed_qc_in w q1
    have z2 := zi.1
    have g2 := ec_c53s D0 R0 w (x := 8 * y + x) (ec_rgs (by omega))
    have tr := ed_tr_rg w (x := 8 * y + x)
    have wf := ed_WF_str w (z := 8 * y + x)
    have nw := ed_str_e (z := 8 * y + x) wc
    rw [if_pos q1] at g1
    rw [if_pos q1]
    by_cases q3 : ed_tr σ (8 * y + x) = -1
    · have nw := nw q3
      rw [q3] at g2
      by_cases q4 : σ 5 = 6
      · rw [if_pos ⟨q3, q4⟩]
        refine ⟨fun e => absurd e (by decide), fun _ => ?_⟩
        have hD := b0
        rw [if_pos (by omega)] at g7
        show ec_om 77 0 _ [] h = some (.inr 1, ec_thw h)
        simp (disch := first | (simp only [ec_w_kI, ec_w_kL, ec_w_kA, ec_w_shpI, ec_w_shpL, ec_w_shpA, ec_isR_r, ec_01z, ec_01o, ec_01q, hD]; done) | omega | (simp only [ec_w_shpI, ec_w_shpL, ec_w_shpA, hD]; refine ec_zinO ?_; omega) | (refine ec_nzO ?_; omega)) only [ec_s77_0, ec_s77_1, ec_s77_2, ec_s77_3, ec_s77_6, ec_s77_7, ec_s77_8, ec_s77_11, ec_s77_12, ec_s77_13, ec_s77_16, ec_s77_19, ec_s77_20, ec_s77_23, ec_s77_25, ec_s77_27, ec_s77_28, ec_s77_31, ec_s77_32, ec_s77_35, ec_s77_38, ec_s77_41, ec_s77_42, ec_s77_45, ec_s77_46, ec_s77_49, ec_s77_52, ec_s77_54, ec_s77_55, ec_s77_58, ec_s77_59, ec_s77_62, ec_s77_65, ec_s77_68, ec_s77_70, ec_s77_71, ec_s77_74, ec_s77_77, ec_s77_79, ec_s77_80, ec_s77_83, ec_s77_84, ec_s77_87, ec_s77_90, ec_s77_92, ec_s77_93, ec_s77_94, ec_s77_97, ec_s77_99, ec_zn0, ec_zn1, ec_zn2, ec_zn3, ec_zn4, ec_zn5, ec_zn6, ec_zn7, ec_zn8, ec_zn9, ec_zn10, ec_zn12, ec_zn13, ec_zn14, ec_zn15, ec_zn16, ec_zn20, ec_zn30, ec_zn48, ec_zn99, ec_zn120, ec_zn127, ec_zn11, ec_zn31, ec_zn46, ec_zn57, ec_zn59, ec_zn63, ec_zn101, ec_zn107, ec_zn108, ec_zn110, ec_zn111, ec_zn115, ec_zn116, ec_zn119, ec_zn167, ec_zn185, ec_zn192, ec_zn215, ec_zn233, ec_zn699, ec_zn932, ec_zn999, ec_znF, ec_zneg, ec_zadd, ec_zsub, ec_zmul, ec_zdivO, ec_em, ec_zltO, ec_zeqO, ec_zeq0, ec_qt, ec_qf, if_pos, if_neg, Int.add_zero, ec_aft_v, ec_aft_n, ec_rwE, ec_rwN, ec_rwP, ec_rwK, ec_rwS, ec_w_shpI, ec_w_shpL, ec_w_shpA, hD, g1, g2, g7, g12, ec_aft_x]
      · rw [if_neg (fun z => q4 z.2), if_pos q3]
        rw [if_neg (by omega)] at g7
        refine ⟨fun _ => ?_, fun e => absurd rfl e⟩
        have wf := wf (fun _ => by omega) zi
        rw [← nw] at wf ⊢
        obtain ⟨h1, a1, a2, a3⟩ := C.saved
        have D1 := a2.2.1.1
        have R1 := a2.2.1.2.1
        have u1 := a2.u
        obtain ⟨h2, b1, b2, b3, b4⟩ := ec_c47s (by decide) (c := σ 5) (by omega) D1.2.2.2.2.2 R1.2.1.2.2.2
        have D2 := D1.f2 b4 (fun j hj => by omega)
        obtain ⟨h3, c1, c2, c2b, c3, c4⟩ := ec_c52s (a := σ 5) (z := 8 * y + x) D2.2.2.2.2.2 (by omega) (by omega) (by decide) z2
        obtain ⟨h4, d1, d2, d3, d4⟩ := ec_c49s (a := σ 5) (b := 2) (v := 2) c3 (by omega) (by omega) (by decide)
        have F : ec_fg (fun q j => q = 1 + 8 ∧ j = 3 ∨ q = 1 + 9 ∧ σ 5 * 4 ≤ (j : Int) ∧ (j : Int) < σ 5 * 4 + 4) h1 h4 := (b4.mono (fun q j y => by omega)).trans ((c4.mono (fun q j y => by omega)).trans (d4.mono (fun q j y => by omega)))
        have R4 := R1.np wc (by omega) F
          ((d4.2 _ _ (by omega)).trans ((c4.2 _ _ (by omega)).trans b2))
          (fun k hk => (d4.2 _ _ (by omega)).trans (c2 k (by omega)))
          (fun k hk => (d4.2 _ _ (by omega)).trans (c2b k (by omega)))
          (fun k hk => d2 k (by omega))
          (fun k hk => (d4.2 _ _ (by omega)).trans ((c4.2 _ _ (by omega)).trans (b3 k (by omega))))
        have D4 := D1.f2 F (fun j hj => by omega)
        refine ⟨h4, ?_, a2.fin a3 (F.mono (fun q j y => by omega)) D4 R4 wf⟩
        have r := R1.2.1.2.2.2
        have u2 := u1.of b4.1.1
        have u3 := u2.of c4.1.1
        unfold ed_BU at u1 u2 u3
        have hD := And.intro b0 (And.intro u1 (And.intro u2 u3))
        simp (disch := first | (simp only [ec_w_kI, ec_w_kL, ec_w_kA, ec_w_shpI, ec_w_shpL, ec_w_shpA, ec_isR_r, ec_01z, ec_01o, ec_01q, hD]; done) | omega | (simp only [ec_w_shpI, ec_w_shpL, ec_w_shpA, hD]; refine ec_zinO ?_; omega) | (refine ec_nzO ?_; omega)) only [ec_s77_0, ec_s77_1, ec_s77_2, ec_s77_3, ec_s77_6, ec_s77_7, ec_s77_8, ec_s77_11, ec_s77_12, ec_s77_13, ec_s77_16, ec_s77_19, ec_s77_20, ec_s77_23, ec_s77_25, ec_s77_27, ec_s77_28, ec_s77_31, ec_s77_32, ec_s77_35, ec_s77_38, ec_s77_41, ec_s77_42, ec_s77_45, ec_s77_46, ec_s77_49, ec_s77_52, ec_s77_54, ec_s77_55, ec_s77_58, ec_s77_59, ec_s77_62, ec_s77_65, ec_s77_68, ec_s77_70, ec_s77_71, ec_s77_74, ec_s77_77, ec_s77_79, ec_s77_80, ec_s77_83, ec_s77_84, ec_s77_87, ec_s77_90, ec_s77_92, ec_s77_93, ec_s77_94, ec_s77_97, ec_s77_99, ec_zn0, ec_zn1, ec_zn2, ec_zn3, ec_zn4, ec_zn5, ec_zn6, ec_zn7, ec_zn8, ec_zn9, ec_zn10, ec_zn12, ec_zn13, ec_zn14, ec_zn15, ec_zn16, ec_zn20, ec_zn30, ec_zn48, ec_zn99, ec_zn120, ec_zn127, ec_zn11, ec_zn31, ec_zn46, ec_zn57, ec_zn59, ec_zn63, ec_zn101, ec_zn107, ec_zn108, ec_zn110, ec_zn111, ec_zn115, ec_zn116, ec_zn119, ec_zn167, ec_zn185, ec_zn192, ec_zn215, ec_zn233, ec_zn699, ec_zn932, ec_zn999, ec_znF, ec_zneg, ec_zadd, ec_zsub, ec_zmul, ec_zdivO, ec_em, ec_zltO, ec_zeqO, ec_zeq0, ec_qt, ec_qf, if_pos, if_neg, Int.add_zero, ec_aft_v, ec_aft_n, ec_rwE, ec_rwN, ec_rwP, ec_rwK, ec_rwS, ec_w_shpI, ec_w_shpL, ec_w_shpA, hD, g1, g2, g7, g12, a1, b1, c1, d1]
    · rw [if_neg (fun z => q3 z.1), if_neg q3]
      have tr := tr.resolve_left (fun y => q3 y.1)
      refine ⟨fun _ => ?_, fun e => absurd rfl e⟩
      have wf := wf (fun y => absurd y q3) zi
      unfold ed_str at wf ⊢
      rw [if_neg q3] at wf ⊢
      generalize ed_tr σ (8 * y + x) = t at g2 tr q3 wf ⊢
      obtain ⟨h1, a1, a2, a3⟩ := C.saved
      have D1 := a2.2.1.1
      have R1 := a2.2.1.2.1
      have d1 := ec_c49 (a := t) (b := 2) (v := ec_i 2) D1.2.2.2.2.2 (by omega) (by omega) (by decide)
      refine ⟨_, ?_, a2.fin a3 (h2 := ec_setI h1 (1 + 9) (t * (4 : Nat) + 2).toNat (ec_i 2)) (ec_fg.refl.I (by decide)) (D1.V (by omega)) (R1.trap wc (by omega) (by omega) (by omega)) wf⟩
      have hD := And.intro b0 a2.b
      simp (disch := first | (simp only [ec_w_kI, ec_w_kL, ec_w_kA, ec_w_shpI, ec_w_shpL, ec_w_shpA, ec_isR_r, ec_01z, ec_01o, ec_01q, hD]; done) | omega | (simp only [ec_w_shpI, ec_w_shpL, ec_w_shpA, hD]; refine ec_zinO ?_; omega) | (refine ec_nzO ?_; omega)) only [ec_s77_0, ec_s77_1, ec_s77_2, ec_s77_3, ec_s77_6, ec_s77_7, ec_s77_8, ec_s77_11, ec_s77_12, ec_s77_13, ec_s77_16, ec_s77_19, ec_s77_20, ec_s77_23, ec_s77_25, ec_s77_27, ec_s77_28, ec_s77_31, ec_s77_32, ec_s77_35, ec_s77_38, ec_s77_41, ec_s77_42, ec_s77_45, ec_s77_46, ec_s77_49, ec_s77_52, ec_s77_54, ec_s77_55, ec_s77_58, ec_s77_59, ec_s77_62, ec_s77_65, ec_s77_68, ec_s77_70, ec_s77_71, ec_s77_74, ec_s77_77, ec_s77_79, ec_s77_80, ec_s77_83, ec_s77_84, ec_s77_87, ec_s77_90, ec_s77_92, ec_s77_93, ec_s77_94, ec_s77_97, ec_s77_99, ec_zn0, ec_zn1, ec_zn2, ec_zn3, ec_zn4, ec_zn5, ec_zn6, ec_zn7, ec_zn8, ec_zn9, ec_zn10, ec_zn12, ec_zn13, ec_zn14, ec_zn15, ec_zn16, ec_zn20, ec_zn30, ec_zn48, ec_zn99, ec_zn120, ec_zn127, ec_zn11, ec_zn31, ec_zn46, ec_zn57, ec_zn59, ec_zn63, ec_zn101, ec_zn107, ec_zn108, ec_zn110, ec_zn111, ec_zn115, ec_zn116, ec_zn119, ec_zn167, ec_zn185, ec_zn192, ec_zn215, ec_zn233, ec_zn699, ec_zn932, ec_zn999, ec_znF, ec_zneg, ec_zadd, ec_zsub, ec_zmul, ec_zdivO, ec_em, ec_zltO, ec_zeqO, ec_zeq0, ec_qt, ec_qf, if_pos, if_neg, Int.add_zero, ec_aft_v, ec_aft_n, ec_rwE, ec_rwN, ec_rwP, ec_rwK, ec_rwS, ec_w_shpI, ec_w_shpL, ec_w_shpA, hD, g1, g2, g12, a1, d1]
  · rw [if_neg q1] at g1
    rw [if_neg q1]
    refine ⟨fun e => absurd e (by decide), fun _ => ?_⟩
    have hD := b0
    show ec_om 77 0 _ [] h = some (.inr 2, ec_thw h)
    simp (disch := first | (simp only [ec_w_kI, ec_w_kL, ec_w_kA, ec_w_shpI, ec_w_shpL, ec_w_shpA, ec_isR_r, ec_01z, ec_01o, ec_01q, hD]; done) | omega | (simp only [ec_w_shpI, ec_w_shpL, ec_w_shpA, hD]; refine ec_zinO ?_; omega) | (refine ec_nzO ?_; omega)) only [ec_s77_0, ec_s77_1, ec_s77_2, ec_s77_3, ec_s77_6, ec_s77_7, ec_s77_8, ec_s77_11, ec_s77_12, ec_s77_13, ec_s77_16, ec_s77_19, ec_s77_20, ec_s77_23, ec_s77_25, ec_s77_27, ec_s77_28, ec_s77_31, ec_s77_32, ec_s77_35, ec_s77_38, ec_s77_41, ec_s77_42, ec_s77_45, ec_s77_46, ec_s77_49, ec_s77_52, ec_s77_54, ec_s77_55, ec_s77_58, ec_s77_59, ec_s77_62, ec_s77_65, ec_s77_68, ec_s77_70, ec_s77_71, ec_s77_74, ec_s77_77, ec_s77_79, ec_s77_80, ec_s77_83, ec_s77_84, ec_s77_87, ec_s77_90, ec_s77_92, ec_s77_93, ec_s77_94, ec_s77_97, ec_s77_99, ec_zn0, ec_zn1, ec_zn2, ec_zn3, ec_zn4, ec_zn5, ec_zn6, ec_zn7, ec_zn8, ec_zn9, ec_zn10, ec_zn12, ec_zn13, ec_zn14, ec_zn15, ec_zn16, ec_zn20, ec_zn30, ec_zn48, ec_zn99, ec_zn120, ec_zn127, ec_zn11, ec_zn31, ec_zn46, ec_zn57, ec_zn59, ec_zn63, ec_zn101, ec_zn107, ec_zn108, ec_zn110, ec_zn111, ec_zn115, ec_zn116, ec_zn119, ec_zn167, ec_zn185, ec_zn192, ec_zn215, ec_zn233, ec_zn699, ec_zn932, ec_zn999, ec_znF, ec_zneg, ec_zadd, ec_zsub, ec_zmul, ec_zdivO, ec_em, ec_zltO, ec_zeqO, ec_zeq0, ec_qt, ec_qf, if_pos, if_neg, Int.add_zero, ec_aft_v, ec_aft_n, ec_rwE, ec_rwN, ec_rwP, ec_rwK, ec_rwS, ec_w_shpI, ec_w_shpL, ec_w_shpA, hD, g1, ec_aft_x]
end EDK
