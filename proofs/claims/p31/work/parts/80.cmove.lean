/-! The class's turn over the row: a monster moves; a whole turn. -/
set_option maxHeartbeats 1000000 in
theorem ec_c67s {h : ec_Hp} {T B : Nat} (hTB : ed_ap2 T B) {σ : ec_Sg} (hD : ec_DN h B) (R : ec_RC h B σ) (w : ec_WF σ) (hT : ed_TN h T) (hS : ed_SL h (T + 1)) {m : Int} (hm : 0 ≤ m ∧ m < σ 4) :
    ∃ h', ec_om 67 0 [.ref T, .ref B, .int (ec_i m), .double 0, .double 0, .double 0] [] h = some (.inl none, h') ∧ ec_RC h' B (ed_act1 σ m) ∧ ec_DN h' B ∧ ed_TN h' T ∧ ed_SL h' (T + 1) ∧ ec_fg (ed_PF T B) h h' := by
  have w1 := w.1
  have M := ed_mon w hm
  have Mc := M.1.1
  have mv := R.mv hm
  have b := hD.b
  have ap : ed_ap (T + 1) B := by omega
  have ds := ed_dir_s (σ := σ) (κ := σ (185 + 5 * m + 2)) (g := σ (185 + 5 * m + 3)) (z := σ (185 + 5 * m))
  have g24 := ec_c24 hD (a := m) (by omega)
  rw [mv.2.2.1] at g24
  unfold ed_act1
  by_cases q0 : σ (185 + 5 * m + 3) = -1
  · rw [if_pos q0]
    have e : ed_gc (σ (185 + 5 * m + 3)) = -1 := if_pos q0
    rw [e, if_pos rfl] at g24
    refine ⟨h, ?_, R, hD, hT, hS, ec_fg.refl⟩
    unfold ed_TN at hT
    have hD := And.intro b hT
    simp (disch := first | (simp only [ec_w_kI, ec_w_kL, ec_w_kA, ec_w_shpI, ec_w_shpL, ec_w_shpA, ec_isR_r, ec_01z, ec_01o, ec_01q, hD]; done) | omega | (simp only [ec_w_shpI, ec_w_shpL, ec_w_shpA, hD]; refine ec_zinO ?_; omega) | (refine ec_nzO ?_; omega)) only [ec_s67_0, ec_s67_1, ec_s67_2, ec_s67_5, ec_s67_8, ec_s67_9, ec_s67_10, ec_s67_13, ec_s67_14, ec_s67_17, ec_s67_18, ec_s67_19, ec_s67_22, ec_s67_23, ec_s67_24, ec_s67_27, ec_s67_29, ec_s67_30, ec_s67_33, ec_s67_34, ec_s67_35, ec_s67_36, ec_s67_39, ec_s67_41, ec_s67_44, ec_s67_45, ec_s67_48, ec_s67_49, ec_s67_50, ec_s67_52, ec_s67_55, ec_s67_57, ec_s67_59, ec_s67_60, ec_s67_63, ec_s67_64, ec_s67_65, ec_s67_68, ec_s67_71, ec_s67_72, ec_s67_73, ec_s67_75, ec_s67_78, ec_s67_81, ec_s67_82, ec_s67_83, ec_s67_85, ec_s67_86, ec_s67_87, ec_s67_88, ec_s67_91, ec_s67_92, ec_s67_95, ec_s67_96, ec_s67_97, ec_s67_99, ec_s67_102, ec_s67_105, ec_s67_108, ec_s67_109, ec_s67_110, ec_s67_111, ec_s67_113, ec_s67_116, ec_s67_117, ec_s67_120, ec_zn0, ec_zn1, ec_zn2, ec_zn3, ec_zn4, ec_zn5, ec_zn6, ec_zn7, ec_zn8, ec_zn9, ec_zn10, ec_zn12, ec_zn13, ec_zn14, ec_zn15, ec_zn16, ec_zn20, ec_zn30, ec_zn48, ec_zn99, ec_zn120, ec_zn127, ec_zn11, ec_zn31, ec_zn46, ec_zn57, ec_zn59, ec_zn63, ec_zn101, ec_zn107, ec_zn108, ec_zn110, ec_zn111, ec_zn115, ec_zn116, ec_zn119, ec_zn167, ec_zn185, ec_zn192, ec_zn215, ec_zn233, ec_zn699, ec_zn932, ec_zn999, ec_znF, ec_zneg, ec_zadd, ec_zsub, ec_zmul, ec_zdivO, ec_em, ec_zltO, ec_zeqO, ec_zeq0, ec_qt, ec_qf, if_pos, if_neg, Int.add_zero, ec_aft_v, ec_aft_n, ec_rwE, ec_rwN, ec_rwP, ec_rwK, ec_rwS, ec_w_shpI, ec_w_shpL, ec_w_shpA, hD, g24]
  · rw [if_neg q0]
    have G : ec_ing σ (σ (185 + 5 * m + 3)) := M.2.2.2.resolve_left q0
    have Gc := G.1
    have e4 : ed_gc (σ (185 + 5 * m + 3)) = σ (185 + 5 * m + 3) % 8 := if_neg q0
    have e5 : ed_gr (σ (185 + 5 * m + 3)) = σ (185 + 5 * m + 3) / 8 := if_neg q0
    have ne : ¬ ec_i (σ (185 + 5 * m + 3) % 8) = ec_i (-1) := by
      rw [ec_zeqO (by omega)]
      omega
    rw [e4, if_neg ne] at g24
    have g25 := ec_c25 hD (a := m) (by omega)
    rw [mv.2.2.1, mv.2.2.2.1, e4, e5, ec_zmul, ec_zadd, show σ (185 + 5 * m + 3) / 8 * 8 + σ (185 + 5 * m + 3) % 8 = σ (185 + 5 * m + 3) by omega] at g25
    have g51 := ec_c51 hD.2.2.2.2.1 (a := m) (by omega) (by omega) (by omega)
    rw [R.mpl hm] at g51
    have g48 := ec_c48 hD.2.2.2.2.1 (a := m) (b := 3) (by omega) (by omega) (by omega)
    rw [show h.2.1 (B + 7) (m * ((8 : Nat) : Int) + 3).toNat = ec_mv h B m 3 from rfl, mv.2.1] at g48
    obtain ⟨h1, nw, t, a1, a2, a3, a4⟩ := ec_c35s ap hD R w hS (m := σ (185 + 5 * m + 2)) (g := σ (185 + 5 * m + 3)) (by omega) Gc
    have R1 := R.fr a2 ap
    have D1 := a2.DN ap hD
    have f1 : ec_fg (ed_PF T B) h h1 := a2.g.mono (fun q j e => Or.inr (by omega))
    have hT1 := hT.fg f1
    have S1 : ed_SL h1 (T + 1) := ⟨a3, _, nw, t, a4⟩
    have g38 := ec_c38s D1 R1 w (m := σ (185 + 5 * m + 2)) (by omega) Mc a3 a4
    have b1 := D1.b
    have dw : ed_dir σ (σ (185 + 5 * m + 2)) (σ (185 + 5 * m + 3)) (σ (185 + 5 * m)) ≠ -1 → ¬ ec_cq σ (σ (185 + 5 * m)) (ed_dir σ (σ (185 + 5 * m + 2)) (σ (185 + 5 * m + 3)) (σ (185 + 5 * m))) → 1 < ec_ba σ (σ (185 + 5 * m)) (ed_dir σ (σ (185 + 5 * m + 2)) (σ (185 + 5 * m + 3)) (σ (185 + 5 * m))) := by
      intro h1 h3
      rcases ds with s | ⟨s1, s2⟩
      · exact absurd s h1
      · rw [ed_P_wby M.2.2.1 M.1] at s2
        unfold ed_wby at s2
        rw [if_neg h3] at s2
        apply Classical.byContradiction
        intro q
        rw [if_neg (fun y => q y.1)] at s2
        exact s2 rfl
    generalize ed_dir σ (σ (185 + 5 * m + 2)) (σ (185 + 5 * m + 3)) (σ (185 + 5 * m)) = d at g38 ds dw ⊢
    unfold ed_TN at hT
    have hT1' := hT1
    unfold ed_TN at hT1'
    by_cases q2 : d = -1
    · subst q2
      rw [if_pos rfl]
      obtain ⟨h2, c1, c2, c3, c4⟩ := ec_c27s D1 R1 w.ct (m := m) (by omega)
      have f2 := f1.trans (c4.mono (T := ed_PF T B) (fun q j e => Or.inl (by omega)))
      refine ⟨h2, ?_, c2, c3, hT1.fg c4, S1.fg c4 (fun q j h1 h2 y => by omega), f2⟩
      have hD := And.intro b (And.intro hT (And.intro b1 hT1'))
      simp (disch := first | (simp only [ec_w_kI, ec_w_kL, ec_w_kA, ec_w_shpI, ec_w_shpL, ec_w_shpA, ec_isR_r, ec_01z, ec_01o, ec_01q, hD]; done) | omega | (simp only [ec_w_shpI, ec_w_shpL, ec_w_shpA, hD]; refine ec_zinO ?_; omega) | (refine ec_nzO ?_; omega)) only [ec_s67_0, ec_s67_1, ec_s67_2, ec_s67_5, ec_s67_8, ec_s67_9, ec_s67_10, ec_s67_13, ec_s67_14, ec_s67_17, ec_s67_18, ec_s67_19, ec_s67_22, ec_s67_23, ec_s67_24, ec_s67_27, ec_s67_29, ec_s67_30, ec_s67_33, ec_s67_34, ec_s67_35, ec_s67_36, ec_s67_39, ec_s67_41, ec_s67_44, ec_s67_45, ec_s67_48, ec_s67_49, ec_s67_50, ec_s67_52, ec_s67_55, ec_s67_57, ec_s67_59, ec_s67_60, ec_s67_63, ec_s67_64, ec_s67_65, ec_s67_68, ec_s67_71, ec_s67_72, ec_s67_73, ec_s67_75, ec_s67_78, ec_s67_81, ec_s67_82, ec_s67_83, ec_s67_85, ec_s67_86, ec_s67_87, ec_s67_88, ec_s67_91, ec_s67_92, ec_s67_95, ec_s67_96, ec_s67_97, ec_s67_99, ec_s67_102, ec_s67_105, ec_s67_108, ec_s67_109, ec_s67_110, ec_s67_111, ec_s67_113, ec_s67_116, ec_s67_117, ec_s67_120, ec_zn0, ec_zn1, ec_zn2, ec_zn3, ec_zn4, ec_zn5, ec_zn6, ec_zn7, ec_zn8, ec_zn9, ec_zn10, ec_zn12, ec_zn13, ec_zn14, ec_zn15, ec_zn16, ec_zn20, ec_zn30, ec_zn48, ec_zn99, ec_zn120, ec_zn127, ec_zn11, ec_zn31, ec_zn46, ec_zn57, ec_zn59, ec_zn63, ec_zn101, ec_zn107, ec_zn108, ec_zn110, ec_zn111, ec_zn115, ec_zn116, ec_zn119, ec_zn167, ec_zn185, ec_zn192, ec_zn215, ec_zn233, ec_zn699, ec_zn932, ec_zn999, ec_znF, ec_zneg, ec_zadd, ec_zsub, ec_zmul, ec_zdivO, ec_em, ec_zltO, ec_zeqO, ec_zeq0, ec_qt, ec_qf, if_pos, if_neg, Int.add_zero, ec_aft_v, ec_aft_n, ec_rwE, ec_rwN, ec_rwP, ec_rwK, ec_rwS, ec_w_shpI, ec_w_shpL, ec_w_shpA, hD, g24, g25, g51, g48, a1, g38, c1]
    · rw [if_neg q2]
      have d4 := (ds.resolve_left q2).1
      have g19 := ec_c19s D1 R1 w M.1 d4
      have hb := w.ba M.1 d4
      have g0 := fun h => ec_c115 (h := h) (z := σ (185 + 5 * m)) d4
      by_cases q3 : ec_cq σ (σ (185 + 5 * m)) d
      · rw [if_pos q3]
        rw [ec_qt q3] at g19
        have nb := ec_nb_in w M.1 d4 (ed_cq_hb q3)
        have n1 := nb.1
        obtain ⟨h2, c1, c2, c3, c4⟩ := ec_c22s D1 R1 w M.1 (d := d) (v := 1 + m) d4
        have wp := ed_WF_pass w (b := ec_ba σ (σ (185 + 5 * m)) d) (v := 1 + m) hb.2
        have g52 := ec_c52 c3.2.2.2.2.1 (a := m) (z := ec_nb (σ (185 + 5 * m)) d) (by omega) (by omega) (by omega) (by omega)
        have R3 := c2.mcell wp.ct (m := m) (v := ec_nb (σ (185 + 5 * m)) d) (k := (m * ((8 : Nat) : Int) + 0).toNat) (l := (m * ((8 : Nat) : Int) + 1).toNat) (by omega) (by omega) (by omega)
        have comm : ec_su (ed_pass σ (ec_ba σ (σ (185 + 5 * m)) d) (1 + m)) (185 + 5 * m) (ec_nb (σ (185 + 5 * m)) d) = ed_pass (ec_su σ (185 + 5 * m) (ec_nb (σ (185 + 5 * m)) d)) (ec_ba σ (σ (185 + 5 * m)) d) (1 + m) := by
          unfold ed_pass
          split
          · simp (disch := omega) only [ec_suN]
            rw [ed_su_co (a := 107 + 6 * (ec_ba σ (σ (185 + 5 * m)) d - 2) + 4) (b := 185 + 5 * m) (by omega), ed_su_co (a := 107 + 6 * (ec_ba σ (σ (185 + 5 * m)) d - 2) + 3) (b := 185 + 5 * m) (by omega)]
          · rfl
        rw [comm] at R3
        have D3 : ec_DN (ec_setI (ec_setI h2 (B + 7) (m * ((8 : Nat) : Int) + 0).toNat (ec_i (ec_nb (σ (185 + 5 * m)) d % 8))) (B + 7) (m * ((8 : Nat) : Int) + 1).toNat (ec_i (ec_nb (σ (185 + 5 * m)) d / 8))) B := (c3.V (by omega)).V (by omega)
        have F3 : ec_fg (fun q _ => q = B + 3 ∨ q = B + 7) h1 (ec_setI (ec_setI h2 (B + 7) (m * ((8 : Nat) : Int) + 0).toNat (ec_i (ec_nb (σ (185 + 5 * m)) d % 8))) (B + 7) (m * ((8 : Nat) : Int) + 1).toNat (ec_i (ec_nb (σ (185 + 5 * m)) d / 8))) := ((c4.mono (T := fun q _ => q = B + 3 ∨ q = B + 7) (fun q j e => Or.inl e)).I (by exact Or.inr rfl)).I (by exact Or.inr rfl)
        refine ⟨_, ?_, R3, D3, hT1.fg F3, S1.fg F3 (fun q j h1 h2 y => by omega), f1.trans (F3.mono (fun q j e => Or.inl (by omega)))⟩
        have b2 := c3.b
        have hD := And.intro b (And.intro hT (And.intro b1 (And.intro hT1' b2)))
        simp (disch := first | (simp only [ec_w_kI, ec_w_kL, ec_w_kA, ec_w_shpI, ec_w_shpL, ec_w_shpA, ec_isR_r, ec_01z, ec_01o, ec_01q, hD]; done) | omega | (simp only [ec_w_shpI, ec_w_shpL, ec_w_shpA, hD]; refine ec_zinO ?_; omega) | (refine ec_nzO ?_; omega)) only [ec_s67_0, ec_s67_1, ec_s67_2, ec_s67_5, ec_s67_8, ec_s67_9, ec_s67_10, ec_s67_13, ec_s67_14, ec_s67_17, ec_s67_18, ec_s67_19, ec_s67_22, ec_s67_23, ec_s67_24, ec_s67_27, ec_s67_29, ec_s67_30, ec_s67_33, ec_s67_34, ec_s67_35, ec_s67_36, ec_s67_39, ec_s67_41, ec_s67_44, ec_s67_45, ec_s67_48, ec_s67_49, ec_s67_50, ec_s67_52, ec_s67_55, ec_s67_57, ec_s67_59, ec_s67_60, ec_s67_63, ec_s67_64, ec_s67_65, ec_s67_68, ec_s67_71, ec_s67_72, ec_s67_73, ec_s67_75, ec_s67_78, ec_s67_81, ec_s67_82, ec_s67_83, ec_s67_85, ec_s67_86, ec_s67_87, ec_s67_88, ec_s67_91, ec_s67_92, ec_s67_95, ec_s67_96, ec_s67_97, ec_s67_99, ec_s67_102, ec_s67_105, ec_s67_108, ec_s67_109, ec_s67_110, ec_s67_111, ec_s67_113, ec_s67_116, ec_s67_117, ec_s67_120, ec_zn0, ec_zn1, ec_zn2, ec_zn3, ec_zn4, ec_zn5, ec_zn6, ec_zn7, ec_zn8, ec_zn9, ec_zn10, ec_zn12, ec_zn13, ec_zn14, ec_zn15, ec_zn16, ec_zn20, ec_zn30, ec_zn48, ec_zn99, ec_zn120, ec_zn127, ec_zn11, ec_zn31, ec_zn46, ec_zn57, ec_zn59, ec_zn63, ec_zn101, ec_zn107, ec_zn108, ec_zn110, ec_zn111, ec_zn115, ec_zn116, ec_zn119, ec_zn167, ec_zn185, ec_zn192, ec_zn215, ec_zn233, ec_zn699, ec_zn932, ec_zn999, ec_znF, ec_zneg, ec_zadd, ec_zsub, ec_zmul, ec_zdivO, ec_em, ec_zltO, ec_zeqO, ec_zeq0, ec_qt, ec_qf, if_pos, if_neg, Int.add_zero, ec_aft_v, ec_aft_n, ec_rwE, ec_rwN, ec_rwP, ec_rwK, ec_rwS, ec_w_shpI, ec_w_shpL, ec_w_shpA, hD, g24, g25, g51, g48, a1, g38, g19, g0, c1, g52]
      · rw [if_neg q3]
        rw [ec_qf q3] at g19
        have dw := dw q2 q3
        have g20 := ec_c20s D1 R1 w M.1 d4
        rw [if_pos dw] at g20
        have g21 := ec_c21 (v := ec_i 1) D1 (a := ec_ba σ (σ (185 + 5 * m)) d - 2) (by omega)
        have R3 := R1.td w (n := ec_ba σ (σ (185 + 5 * m)) d - 2) (v := 1) (by omega) (by omega)
        have D3 : ec_DN (ec_td h1 B (ec_ba σ (σ (185 + 5 * m)) d - 2) (ec_i 1)) B := D1.td
        have F3 : ec_fg (fun q _ => q = B + 3) h1 (ec_td h1 B (ec_ba σ (σ (185 + 5 * m)) d - 2) (ec_i 1)) := (ec_fg.refl.I (by rfl)).I (by rfl)
        generalize ec_td h1 B (ec_ba σ (σ (185 + 5 * m)) d - 2) (ec_i 1) = h3 at g21 R3 D3 F3
        refine ⟨h3, ?_, R3, D3, hT1.fg F3, S1.fg F3 (fun q j h1 h2 y => by omega), f1.trans (F3.mono (fun q j e => Or.inl (by omega)))⟩
        have hD := And.intro b (And.intro hT (And.intro b1 hT1'))
        simp (disch := first | (simp only [ec_w_kI, ec_w_kL, ec_w_kA, ec_w_shpI, ec_w_shpL, ec_w_shpA, ec_isR_r, ec_01z, ec_01o, ec_01q, hD]; done) | omega | (simp only [ec_w_shpI, ec_w_shpL, ec_w_shpA, hD]; refine ec_zinO ?_; omega) | (refine ec_nzO ?_; omega)) only [ec_s67_0, ec_s67_1, ec_s67_2, ec_s67_5, ec_s67_8, ec_s67_9, ec_s67_10, ec_s67_13, ec_s67_14, ec_s67_17, ec_s67_18, ec_s67_19, ec_s67_22, ec_s67_23, ec_s67_24, ec_s67_27, ec_s67_29, ec_s67_30, ec_s67_33, ec_s67_34, ec_s67_35, ec_s67_36, ec_s67_39, ec_s67_41, ec_s67_44, ec_s67_45, ec_s67_48, ec_s67_49, ec_s67_50, ec_s67_52, ec_s67_55, ec_s67_57, ec_s67_59, ec_s67_60, ec_s67_63, ec_s67_64, ec_s67_65, ec_s67_68, ec_s67_71, ec_s67_72, ec_s67_73, ec_s67_75, ec_s67_78, ec_s67_81, ec_s67_82, ec_s67_83, ec_s67_85, ec_s67_86, ec_s67_87, ec_s67_88, ec_s67_91, ec_s67_92, ec_s67_95, ec_s67_96, ec_s67_97, ec_s67_99, ec_s67_102, ec_s67_105, ec_s67_108, ec_s67_109, ec_s67_110, ec_s67_111, ec_s67_113, ec_s67_116, ec_s67_117, ec_s67_120, ec_zn0, ec_zn1, ec_zn2, ec_zn3, ec_zn4, ec_zn5, ec_zn6, ec_zn7, ec_zn8, ec_zn9, ec_zn10, ec_zn12, ec_zn13, ec_zn14, ec_zn15, ec_zn16, ec_zn20, ec_zn30, ec_zn48, ec_zn99, ec_zn120, ec_zn127, ec_zn11, ec_zn31, ec_zn46, ec_zn57, ec_zn59, ec_zn63, ec_zn101, ec_zn107, ec_zn108, ec_zn110, ec_zn111, ec_zn115, ec_zn116, ec_zn119, ec_zn167, ec_zn185, ec_zn192, ec_zn215, ec_zn233, ec_zn699, ec_zn932, ec_zn999, ec_znF, ec_zneg, ec_zadd, ec_zsub, ec_zmul, ec_zdivO, ec_em, ec_zltO, ec_zeqO, ec_zeq0, ec_qt, ec_qf, if_pos, if_neg, Int.add_zero, ec_aft_v, ec_aft_n, ec_rwE, ec_rwN, ec_rwP, ec_rwK, ec_rwS, ec_w_shpI, ec_w_shpL, ec_w_shpA, hD, g24, g25, g51, g48, a1, g38, g19, g20, g21]
theorem ec_c59L {T B : Nat} (hTB : ed_ap2 T B) {a : Int32} : ∀ (r : Nat) (m : Int) (σ : ec_Sg) (h : ec_Hp), ec_DN h B → ec_RC h B σ → ec_WF σ → ed_TN h T → ed_SL h (T + 1) → 0 ≤ m → m + r = σ 4 →
    ∃ h', ec_om 59 36 [.ref T, .ref B, .int a, .int (ec_i m)] [] h = ec_om 59 59 [.ref T, .ref B, .int a, .int (ec_i (σ 4))] [] h' ∧ ec_RC h' B (ed_fold ed_act1 r m σ) ∧ ec_DN h' B ∧ ed_TN h' T ∧ ed_SL h' (T + 1) ∧ ec_fg (ed_PF T B) h h' := by
  intro r
  induction r with
  | zero =>
    intro m σ h hD R w hT hS h0 hm
    have hm : m = σ 4 := by omega
    refine ⟨h, ?_, R, hD, hT, hS, ec_fg.refl⟩
    have w1 := w.1
    have r4 := R.2.1.2.2.1
    have b := hD.b
    unfold ed_TN at hT
    have hD := And.intro b hT
    rw [ec_s59_36]
    simp (disch := first | (simp only [ec_w_kI, ec_w_kL, ec_w_kA, ec_w_shpI, ec_w_shpL, ec_w_shpA, ec_isR_r, ec_01z, ec_01o, ec_01q, hD]; done) | omega | (simp only [ec_w_shpI, ec_w_shpL, ec_w_shpA, hD]; refine ec_zinO ?_; omega) | (refine ec_nzO ?_; omega)) only [ec_s59_0, ec_s59_1, ec_s59_2, ec_s59_5, ec_s59_6, ec_s59_9, ec_s59_10, ec_s59_11, ec_s59_12, ec_s59_15, ec_s59_16, ec_s59_17, ec_s59_20, ec_s59_21, ec_s59_22, ec_s59_25, ec_s59_26, ec_s59_29, ec_s59_30, ec_s59_31, ec_s59_34, ec_s59_35, ec_s59_37, ec_s59_38, ec_s59_41, ec_s59_44, ec_s59_47, ec_s59_48, ec_s59_49, ec_s59_50, ec_s59_53, ec_s59_56, ec_s59_60, ec_s59_63, ec_s59_64, ec_s59_67, ec_s59_68, ec_s59_69, ec_s59_72, ec_s59_73, ec_s59_74, ec_s59_77, ec_zn0, ec_zn1, ec_zn2, ec_zn3, ec_zn4, ec_zn5, ec_zn6, ec_zn7, ec_zn8, ec_zn9, ec_zn10, ec_zn12, ec_zn13, ec_zn14, ec_zn15, ec_zn16, ec_zn20, ec_zn30, ec_zn48, ec_zn99, ec_zn120, ec_zn127, ec_zn11, ec_zn31, ec_zn46, ec_zn57, ec_zn59, ec_zn63, ec_zn101, ec_zn107, ec_zn108, ec_zn110, ec_zn111, ec_zn115, ec_zn116, ec_zn119, ec_zn167, ec_zn185, ec_zn192, ec_zn215, ec_zn233, ec_zn699, ec_zn932, ec_zn999, ec_znF, ec_zneg, ec_zadd, ec_zsub, ec_zmul, ec_zdivO, ec_em, ec_zltO, ec_zeqO, ec_zeq0, ec_qt, ec_qf, if_pos, if_neg, Int.add_zero, ec_aft_v, ec_aft_n, ec_rwE, ec_rwN, ec_rwP, ec_rwK, ec_rwS, ec_w_shpI, ec_w_shpL, ec_w_shpA, hD, r4]
    rw [hm]
  | succ r ih =>
    intro m σ h hD R w hT hS h0 hm
    have w1 := w.1
    have r4 := R.2.1.2.2.1
    have b := hD.b
    have c4 := ed_act1_c w (m := m) (c := 4) (by omega) (by omega)
    obtain ⟨h1, a1, a2, a3, a4, a5, a6⟩ := ec_c67s hTB hD R w hT hS (m := m) (by omega)
    obtain ⟨h2, b1, b2, b3, b4, b5, b6⟩ := ih (m + 1) _ h1 a3 a2 (ed_WF_act1 w (by omega)) a4 a5 (by omega) (by omega)
    rw [c4] at b1
    refine ⟨h2, ?_, b2, b3, b4, b5, a6.trans b6⟩
    unfold ed_TN at hT
    have hD := And.intro b hT
    rw [ec_s59_36]
    simp (disch := first | (simp only [ec_w_kI, ec_w_kL, ec_w_kA, ec_w_shpI, ec_w_shpL, ec_w_shpA, ec_isR_r, ec_01z, ec_01o, ec_01q, hD]; done) | omega | (simp only [ec_w_shpI, ec_w_shpL, ec_w_shpA, hD]; refine ec_zinO ?_; omega) | (refine ec_nzO ?_; omega)) only [ec_s59_0, ec_s59_1, ec_s59_2, ec_s59_5, ec_s59_6, ec_s59_9, ec_s59_10, ec_s59_11, ec_s59_12, ec_s59_15, ec_s59_16, ec_s59_17, ec_s59_20, ec_s59_21, ec_s59_22, ec_s59_25, ec_s59_26, ec_s59_29, ec_s59_30, ec_s59_31, ec_s59_34, ec_s59_35, ec_s59_37, ec_s59_38, ec_s59_41, ec_s59_44, ec_s59_47, ec_s59_48, ec_s59_49, ec_s59_50, ec_s59_53, ec_s59_56, ec_s59_60, ec_s59_63, ec_s59_64, ec_s59_67, ec_s59_68, ec_s59_69, ec_s59_72, ec_s59_73, ec_s59_74, ec_s59_77, ec_zn0, ec_zn1, ec_zn2, ec_zn3, ec_zn4, ec_zn5, ec_zn6, ec_zn7, ec_zn8, ec_zn9, ec_zn10, ec_zn12, ec_zn13, ec_zn14, ec_zn15, ec_zn16, ec_zn20, ec_zn30, ec_zn48, ec_zn99, ec_zn120, ec_zn127, ec_zn11, ec_zn31, ec_zn46, ec_zn57, ec_zn59, ec_zn63, ec_zn101, ec_zn107, ec_zn108, ec_zn110, ec_zn111, ec_zn115, ec_zn116, ec_zn119, ec_zn167, ec_zn185, ec_zn192, ec_zn215, ec_zn233, ec_zn699, ec_zn932, ec_zn999, ec_znF, ec_zneg, ec_zadd, ec_zsub, ec_zmul, ec_zdivO, ec_em, ec_zltO, ec_zeqO, ec_zeq0, ec_qt, ec_qf, if_pos, if_neg, Int.add_zero, ec_aft_v, ec_aft_n, ec_rwE, ec_rwN, ec_rwP, ec_rwK, ec_rwS, ec_w_shpI, ec_w_shpL, ec_w_shpA, hD, r4, a1, b1]
/-- a turn's end -/
theorem ec_c59e {h : ec_Hp} {T B : Nat} (hTB : ed_ap2 T B) {σ : ec_Sg} (hD : ec_DN h B) (R : ec_RC h B σ) (w : ec_WF σ) (hT : ed_TN h T) (hS : ed_SL h (T + 1)) {P l : Int} (hP : ec_ing σ P) (hl : 0 ≤ l ∧ l ≤ 9) (s1 : h.2.1 T 1 = ec_i P) (s2 : h.2.1 T 2 = ec_i l) {a : Int32} :
    ∃ h', ec_om 59 25 [.ref T, .ref B, .int a, .double 0] [] h = some (.inl none, h') ∧ ec_RC h' B (ed_end P l σ) ∧ ec_DN h' B ∧ ed_TN h' T ∧ ed_SL h' (T + 1) ∧ ec_fg (ed_PF T B) h h' := by
  obtain ⟨h1, a1, a2, a3, a4⟩ := ec_c65s hD R w
  have wb := ed_WF_brn w
  have hPb : ec_ing (ed_brn σ) P := (ed_ing_c (ed_brn_c w (by omega) (by omega) (by omega)) (ed_brn_c w (by omega) (by omega) (by omega))).mpr hP
  have f1 : ec_fg (ed_PF T B) h h1 := a4.mono (fun q j e => Or.inl (by omega))
  obtain ⟨h2, b1, b2, b3, b4, b5, b6⟩ := ec_c66s hTB a3 a2 wb (hT.fg a4) (hS.fg a4 (fun q j h1 h2 y => by omega)) hPb hl ((a4.2 _ _ (by omega)).trans s1) ((a4.2 _ _ (by omega)).trans s2)
  have wh := (ed_her_s wb (l := l) hPb).1
  have f2 := f1.trans b6
  unfold ed_end
  generalize ed_her P l (ed_brn σ) = τ at b2 wh ⊢
  have wa := ed_WF_acts wh
  obtain ⟨h3, c1, c2, c3, c4, c5, c6⟩ := ec_c59L hTB (a := a) (τ 4).toNat 0 τ h2 b3 b2 wh b4 b5 (by omega) (by have := wh.1; omega)
  have f3 := f2.trans c6
  have e3 : ed_acts τ = ed_fold ed_act1 (τ 4).toNat 0 τ := rfl
  rw [← e3] at c2
  generalize ed_acts τ = υ at c2 wa ⊢
  obtain ⟨h4, d1, d2, d3, d4⟩ := ec_c68s c3 c2 wa
  have wr := ed_WF_hrt wa
  have f4 := f3.trans (d4.mono (T := ed_PF T B) (fun q j e => Or.inl (by omega)))
  generalize ed_hrt υ = φ at d2 wr ⊢
  obtain ⟨h5, i1, i2, i3, i4⟩ := ec_c69s d3 d2 wr
  have f5 := f4.trans (i4.mono (T := ed_PF T B) (fun q j e => Or.inl (by omega)))
  generalize ed_drs φ = ψ at i2 ⊢
  have r11 := i2.1.2.2.2.2.2.2
  have f6 : ec_fg (ed_PF T B) h (ec_setI h5 B 11 (ec_i (ψ 10 + 1))) := f5.I (Or.inl (by omega))
  have S5 := (c5.fg d4 (fun q j h1 h2 y => by omega)).fg i4 (fun q j h1 h2 y => by omega)
  have F6 : ec_fg (fun q _ => q = B) h5 (ec_setI h5 B 11 (ec_i (ψ 10 + 1))) := ec_fg.refl.I (by rfl)
  refine ⟨_, ?_, i2.turns, i3.O, hT.fg f6, S5.fg F6 (fun q j h1 h2 y => by omega), f6⟩
  have ba := hD.b
  have bb := a3.b
  have bc := b3.b
  have bd := c3.b
  have be := d3.b
  have bf := i3.b
  have hT1 := hT.fg f1
  have hT2 := hT.fg f2
  have hT3 := hT.fg f3
  unfold ed_TN at hT hT1 hT2 hT3
  have hD := And.intro ba (And.intro bb (And.intro bc (And.intro bd (And.intro be (And.intro bf (And.intro hT (And.intro hT1 (And.intro hT2 hT3))))))))
  simp (disch := first | (simp only [ec_w_kI, ec_w_kL, ec_w_kA, ec_w_shpI, ec_w_shpL, ec_w_shpA, ec_isR_r, ec_01z, ec_01o, ec_01q, hD]; done) | omega | (simp only [ec_w_shpI, ec_w_shpL, ec_w_shpA, hD]; refine ec_zinO ?_; omega) | (refine ec_nzO ?_; omega)) only [ec_s59_0, ec_s59_1, ec_s59_2, ec_s59_5, ec_s59_6, ec_s59_9, ec_s59_10, ec_s59_11, ec_s59_12, ec_s59_15, ec_s59_16, ec_s59_17, ec_s59_20, ec_s59_21, ec_s59_22, ec_s59_25, ec_s59_26, ec_s59_29, ec_s59_30, ec_s59_31, ec_s59_34, ec_s59_35, ec_s59_37, ec_s59_38, ec_s59_41, ec_s59_44, ec_s59_47, ec_s59_48, ec_s59_49, ec_s59_50, ec_s59_53, ec_s59_56, ec_s59_60, ec_s59_63, ec_s59_64, ec_s59_67, ec_s59_68, ec_s59_69, ec_s59_72, ec_s59_73, ec_s59_74, ec_s59_77, ec_zn0, ec_zn1, ec_zn2, ec_zn3, ec_zn4, ec_zn5, ec_zn6, ec_zn7, ec_zn8, ec_zn9, ec_zn10, ec_zn12, ec_zn13, ec_zn14, ec_zn15, ec_zn16, ec_zn20, ec_zn30, ec_zn48, ec_zn99, ec_zn120, ec_zn127, ec_zn11, ec_zn31, ec_zn46, ec_zn57, ec_zn59, ec_zn63, ec_zn101, ec_zn107, ec_zn108, ec_zn110, ec_zn111, ec_zn115, ec_zn116, ec_zn119, ec_zn167, ec_zn185, ec_zn192, ec_zn215, ec_zn233, ec_zn699, ec_zn932, ec_zn999, ec_znF, ec_zneg, ec_zadd, ec_zsub, ec_zmul, ec_zdivO, ec_em, ec_zltO, ec_zeqO, ec_zeq0, ec_qt, ec_qf, if_pos, if_neg, Int.add_zero, ec_aft_v, ec_aft_n, ec_rwE, ec_rwN, ec_rwP, ec_rwK, ec_rwS, ec_w_shpI, ec_w_shpL, ec_w_shpA, hD, a1, b1]
  rw [c1, ec_s59_59]
  simp (disch := first | (simp only [ec_w_kI, ec_w_kL, ec_w_kA, ec_w_shpI, ec_w_shpL, ec_w_shpA, ec_isR_r, ec_01z, ec_01o, ec_01q, hD]; done) | omega | (simp only [ec_w_shpI, ec_w_shpL, ec_w_shpA, hD]; refine ec_zinO ?_; omega) | (refine ec_nzO ?_; omega)) only [ec_s59_0, ec_s59_1, ec_s59_2, ec_s59_5, ec_s59_6, ec_s59_9, ec_s59_10, ec_s59_11, ec_s59_12, ec_s59_15, ec_s59_16, ec_s59_17, ec_s59_20, ec_s59_21, ec_s59_22, ec_s59_25, ec_s59_26, ec_s59_29, ec_s59_30, ec_s59_31, ec_s59_34, ec_s59_35, ec_s59_37, ec_s59_38, ec_s59_41, ec_s59_44, ec_s59_47, ec_s59_48, ec_s59_49, ec_s59_50, ec_s59_53, ec_s59_56, ec_s59_60, ec_s59_63, ec_s59_64, ec_s59_67, ec_s59_68, ec_s59_69, ec_s59_72, ec_s59_73, ec_s59_74, ec_s59_77, ec_zn0, ec_zn1, ec_zn2, ec_zn3, ec_zn4, ec_zn5, ec_zn6, ec_zn7, ec_zn8, ec_zn9, ec_zn10, ec_zn12, ec_zn13, ec_zn14, ec_zn15, ec_zn16, ec_zn20, ec_zn30, ec_zn48, ec_zn99, ec_zn120, ec_zn127, ec_zn11, ec_zn31, ec_zn46, ec_zn57, ec_zn59, ec_zn63, ec_zn101, ec_zn107, ec_zn108, ec_zn110, ec_zn111, ec_zn115, ec_zn116, ec_zn119, ec_zn167, ec_zn185, ec_zn192, ec_zn215, ec_zn233, ec_zn699, ec_zn932, ec_zn999, ec_znF, ec_zneg, ec_zadd, ec_zsub, ec_zmul, ec_zdivO, ec_em, ec_zltO, ec_zeqO, ec_zeq0, ec_qt, ec_qf, if_pos, if_neg, Int.add_zero, ec_aft_v, ec_aft_n, ec_rwE, ec_rwN, ec_rwP, ec_rwK, ec_rwS, ec_w_shpI, ec_w_shpL, ec_w_shpA, hD, d1, i1, r11]
theorem ed_sl_rg {σ : ec_Sg} (w : ec_WF σ) {a : Int} (ha : 0 ≤ a ∧ a < 16) (hr : ed_rsn σ a = 0) : 0 ≤ ed_sl σ a ∧ ed_sl σ a ≤ 9 := by
  have w2 := w.2.1
  have b := w.ba w2.1 (d := a % 4) (by omega)
  unfold ed_sl
  split
  · omega
  · split
    · have := (ed_rsn_0 hr).2.2.1 (by omega)
      exact (ed_door w (n := ec_ba σ (σ 6) (a % 4) - 2) (by omega)).2.2.1
    · split <;> omega
/-- the class's turn is the row's turn -/
theorem ec_c59s {h : ec_Hp} {T B : Nat} (hTB : ed_ap2 T B) {σ : ec_Sg} (hD : ec_DN h B) (R : ec_RC h B σ) (w : ec_WF σ) (hT : ed_TN h T) (hS : ed_SL h (T + 1)) {a : Int} (ha : 0 ≤ a ∧ a < 16) (hr : ed_rsn σ a = 0) :
    ∃ h', ec_om 59 0 [.ref T, .ref B, .int (ec_i a), .double 0] [] h = some (.inl none, h') ∧ ec_RC h' B (ed_turn σ a) ∧ ec_DN h' B ∧ ed_TN h' T ∧ ed_SL h' (T + 1) ∧ ec_fg (ed_PF T B) h h' := by
  have TB : T < B ∨ B + 9 < T := by omega
  have r7 := R.1.2.2.1
  obtain ⟨h1, a1, a2, a3, a4⟩ := ec_c61s (x := σ 6) (y := 0) hT.1
  have R1 : ec_RC h1 B σ := R.fg a4 (fun q j h1 h2 y => by omega)
  have D1 : ec_DN h1 B := hD.fg a4 (fun q j h1 h2 y => by omega)
  have f1 : ec_fg (ed_PF T B) h h1 := a4.mono (fun q j e => Or.inr (by omega))
  have hT1 := hT.fg a4
  have S1 := hS.fg a4 (fun q j h1 h2 y => by omega)
  obtain ⟨h2, b1, b2, b3, b4, b5, b6⟩ := ec_c60s hT1.1 TB D1 R1 w ha hr a2 a3
  have f2 := f1.trans (b6.mono ed_TF_P)
  have hT2 := hT1.fg b6
  have S2 := S1.fg b6 (fun q j h1 h2 y => by omega)
  have wd := ed_WF_does w ha hr
  have sp := ed_sp_in w ha hr
  have sl := ed_sl_rg w ha hr
  have sp' : ec_ing (ed_does σ a) (ed_sp σ a) := (ed_ing_c (ed_does_c hr (by omega) (by omega) (by omega)) (ed_does_c hr (by omega) (by omega) (by omega))).mpr sp
  have b := hD.b
  have bb := D1.b
  have bc := b3.b
  unfold ed_turn
  by_cases q : a < 4
  · rw [if_pos q]
    obtain ⟨h3, c1, c2, c3, c4, c5, c6⟩ := ec_c64s hT2.1 TB b3 b2 wd
    have f3 := f2.trans (c4.mono ed_TF_P)
    have hT3 := hT2.fg c4
    have S3 := S2.fg c4 (fun q j h1 h2 y => by omega)
    have ws := ed_WF_spr wd
    have bd := c3.b
    by_cases q2 : ed_sprq (ed_does σ a)
    · rw [if_pos q2]
      obtain ⟨k1, k2⟩ := c5 q2
      have hP : ec_ing (ed_spr (ed_does σ a)) (ed_does σ a 6) := (ed_ing_c (ed_spr_c (by omega) (by omega) wd) (ed_spr_c (by omega) (by omega) wd)).mpr wd.2.1.1
      obtain ⟨h4, d1, d2, d3, d4, d5, d6⟩ := ec_c59e hTB c3 c2 ws hT3 S3 hP (by omega) k1 k2 (a := ec_i a)
      refine ⟨h4, ?_, d2, d3, d4, d5, f3.trans d6⟩
      unfold ed_TN at hT hT1 hT2 hT3
      have hD := And.intro b (And.intro bb (And.intro bc (And.intro bd (And.intro hT (And.intro hT1 (And.intro hT2 hT3))))))
      simp (disch := first | (simp only [ec_w_kI, ec_w_kL, ec_w_kA, ec_w_shpI, ec_w_shpL, ec_w_shpA, ec_isR_r, ec_01z, ec_01o, ec_01q, hD]; done) | omega | (simp only [ec_w_shpI, ec_w_shpL, ec_w_shpA, hD]; refine ec_zinO ?_; omega) | (refine ec_nzO ?_; omega)) only [ec_s59_0, ec_s59_1, ec_s59_2, ec_s59_5, ec_s59_6, ec_s59_9, ec_s59_10, ec_s59_11, ec_s59_12, ec_s59_15, ec_s59_16, ec_s59_17, ec_s59_20, ec_s59_21, ec_s59_22, ec_s59_26, ec_s59_29, ec_s59_30, ec_s59_31, ec_s59_34, ec_s59_35, ec_s59_36, ec_s59_37, ec_s59_38, ec_s59_41, ec_s59_44, ec_s59_47, ec_s59_48, ec_s59_49, ec_s59_50, ec_s59_53, ec_s59_56, ec_s59_59, ec_s59_60, ec_s59_63, ec_s59_64, ec_s59_67, ec_s59_68, ec_s59_69, ec_s59_72, ec_s59_73, ec_s59_74, ec_s59_77, ec_zn0, ec_zn1, ec_zn2, ec_zn3, ec_zn4, ec_zn5, ec_zn6, ec_zn7, ec_zn8, ec_zn9, ec_zn10, ec_zn12, ec_zn13, ec_zn14, ec_zn15, ec_zn16, ec_zn20, ec_zn30, ec_zn48, ec_zn99, ec_zn120, ec_zn127, ec_zn11, ec_zn31, ec_zn46, ec_zn57, ec_zn59, ec_zn63, ec_zn101, ec_zn107, ec_zn108, ec_zn110, ec_zn111, ec_zn115, ec_zn116, ec_zn119, ec_zn167, ec_zn185, ec_zn192, ec_zn215, ec_zn233, ec_zn699, ec_zn932, ec_zn999, ec_znF, ec_zneg, ec_zadd, ec_zsub, ec_zmul, ec_zdivO, ec_em, ec_zltO, ec_zeqO, ec_zeq0, ec_qt, ec_qf, if_pos, if_neg, Int.add_zero, ec_aft_v, ec_aft_n, ec_rwE, ec_rwN, ec_rwP, ec_rwK, ec_rwS, ec_w_shpI, ec_w_shpL, ec_w_shpA, hD, r7, a1, b1, c1, d1]
    · rw [if_neg q2]
      obtain ⟨k1, k2⟩ := c6 q2
      have es : ed_spr (ed_does σ a) = ed_does σ a := if_neg q2
      rw [es] at c2
      obtain ⟨h4, d1, d2, d3, d4, d5, d6⟩ := ec_c59e hTB c3 c2 wd hT3 S3 sp' sl (k1.trans b4) (k2.trans b5) (a := ec_i a)
      refine ⟨h4, ?_, d2, d3, d4, d5, f3.trans d6⟩
      unfold ed_TN at hT hT1 hT2 hT3
      have hD := And.intro b (And.intro bb (And.intro bc (And.intro bd (And.intro hT (And.intro hT1 (And.intro hT2 hT3))))))
      simp (disch := first | (simp only [ec_w_kI, ec_w_kL, ec_w_kA, ec_w_shpI, ec_w_shpL, ec_w_shpA, ec_isR_r, ec_01z, ec_01o, ec_01q, hD]; done) | omega | (simp only [ec_w_shpI, ec_w_shpL, ec_w_shpA, hD]; refine ec_zinO ?_; omega) | (refine ec_nzO ?_; omega)) only [ec_s59_0, ec_s59_1, ec_s59_2, ec_s59_5, ec_s59_6, ec_s59_9, ec_s59_10, ec_s59_11, ec_s59_12, ec_s59_15, ec_s59_16, ec_s59_17, ec_s59_20, ec_s59_21, ec_s59_22, ec_s59_26, ec_s59_29, ec_s59_30, ec_s59_31, ec_s59_34, ec_s59_35, ec_s59_36, ec_s59_37, ec_s59_38, ec_s59_41, ec_s59_44, ec_s59_47, ec_s59_48, ec_s59_49, ec_s59_50, ec_s59_53, ec_s59_56, ec_s59_59, ec_s59_60, ec_s59_63, ec_s59_64, ec_s59_67, ec_s59_68, ec_s59_69, ec_s59_72, ec_s59_73, ec_s59_74, ec_s59_77, ec_zn0, ec_zn1, ec_zn2, ec_zn3, ec_zn4, ec_zn5, ec_zn6, ec_zn7, ec_zn8, ec_zn9, ec_zn10, ec_zn12, ec_zn13, ec_zn14, ec_zn15, ec_zn16, ec_zn20, ec_zn30, ec_zn48, ec_zn99, ec_zn120, ec_zn127, ec_zn11, ec_zn31, ec_zn46, ec_zn57, ec_zn59, ec_zn63, ec_zn101, ec_zn107, ec_zn108, ec_zn110, ec_zn111, ec_zn115, ec_zn116, ec_zn119, ec_zn167, ec_zn185, ec_zn192, ec_zn215, ec_zn233, ec_zn699, ec_zn932, ec_zn999, ec_znF, ec_zneg, ec_zadd, ec_zsub, ec_zmul, ec_zdivO, ec_em, ec_zltO, ec_zeqO, ec_zeq0, ec_qt, ec_qf, if_pos, if_neg, Int.add_zero, ec_aft_v, ec_aft_n, ec_rwE, ec_rwN, ec_rwP, ec_rwK, ec_rwS, ec_w_shpI, ec_w_shpL, ec_w_shpA, hD, r7, a1, b1, c1, d1]
  · rw [if_neg q]
    obtain ⟨h4, d1, d2, d3, d4, d5, d6⟩ := ec_c59e hTB b3 b2 wd hT2 S2 sp' sl b4 b5 (a := ec_i a)
    refine ⟨h4, ?_, d2, d3, d4, d5, f2.trans d6⟩
    unfold ed_TN at hT hT1 hT2
    have hD := And.intro b (And.intro bb (And.intro bc (And.intro hT (And.intro hT1 hT2))))
    simp (disch := first | (simp only [ec_w_kI, ec_w_kL, ec_w_kA, ec_w_shpI, ec_w_shpL, ec_w_shpA, ec_isR_r, ec_01z, ec_01o, ec_01q, hD]; done) | omega | (simp only [ec_w_shpI, ec_w_shpL, ec_w_shpA, hD]; refine ec_zinO ?_; omega) | (refine ec_nzO ?_; omega)) only [ec_s59_0, ec_s59_1, ec_s59_2, ec_s59_5, ec_s59_6, ec_s59_9, ec_s59_10, ec_s59_11, ec_s59_12, ec_s59_15, ec_s59_16, ec_s59_17, ec_s59_20, ec_s59_21, ec_s59_22, ec_s59_26, ec_s59_29, ec_s59_30, ec_s59_31, ec_s59_34, ec_s59_35, ec_s59_36, ec_s59_37, ec_s59_38, ec_s59_41, ec_s59_44, ec_s59_47, ec_s59_48, ec_s59_49, ec_s59_50, ec_s59_53, ec_s59_56, ec_s59_59, ec_s59_60, ec_s59_63, ec_s59_64, ec_s59_67, ec_s59_68, ec_s59_69, ec_s59_72, ec_s59_73, ec_s59_74, ec_s59_77, ec_zn0, ec_zn1, ec_zn2, ec_zn3, ec_zn4, ec_zn5, ec_zn6, ec_zn7, ec_zn8, ec_zn9, ec_zn10, ec_zn12, ec_zn13, ec_zn14, ec_zn15, ec_zn16, ec_zn20, ec_zn30, ec_zn48, ec_zn99, ec_zn120, ec_zn127, ec_zn11, ec_zn31, ec_zn46, ec_zn57, ec_zn59, ec_zn63, ec_zn101, ec_zn107, ec_zn108, ec_zn110, ec_zn111, ec_zn115, ec_zn116, ec_zn119, ec_zn167, ec_zn185, ec_zn192, ec_zn215, ec_zn233, ec_zn699, ec_zn932, ec_zn999, ec_znF, ec_zneg, ec_zadd, ec_zsub, ec_zmul, ec_zdivO, ec_em, ec_zltO, ec_zeqO, ec_zeq0, ec_qt, ec_qf, if_pos, if_neg, Int.add_zero, ec_aft_v, ec_aft_n, ec_rwE, ec_rwN, ec_rwP, ec_rwK, ec_rwS, ec_w_shpI, ec_w_shpL, ec_w_shpA, hD, r7, a1, b1, d1]
