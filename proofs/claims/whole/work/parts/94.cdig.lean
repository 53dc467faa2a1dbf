/-! The class's face: the digest. -/
theorem ec_c102s {x : Int64} {v : Int} {h : ec_Hp} : ec_om 102 0 [.long x, .double 0, .int (ec_i v)] [] h = some (.inl (some (.long (ed_mx x v))), h) := by
  simp only [ec_s102_0, ec_s102_3, ec_s102_4, ec_s102_5, ec_s102_6, ec_s102_7, ec_s102_8]
  rfl
theorem ed_mxs_add {f : Int → Int} : ∀ (a b : Nat) (i : Int) (x : Int64), ed_mxs f (a + b) i x = ed_mxs f b (i + a) (ed_mxs f a i x)
  | 0, b, i, x => by
    rw [Nat.zero_add, show i + ((0 : Nat) : Int) = i by omega]
    rfl
  | a + 1, b, i, x => by
    rw [show a + 1 + b = (a + b) + 1 by omega]
    show ed_mxs f (a + b) (i + 1) (ed_mx x (f i)) = ed_mxs f b (i + ((a + 1 : Nat) : Int)) (ed_mxs f a (i + 1) (ed_mx x (f i)))
    rw [ed_mxs_add a b (i + 1) (ed_mx x (f i)), show i + 1 + (a : Int) = i + ((a + 1 : Nat) : Int) by omega]
section EDR
variable {h : ec_Hp} {σ : ec_Sg} {n : Int} {p : Int → ec_Sg} {L : Int} {T : Int → Int}
theorem ec_c103s (C : ed_CL h σ n p L T) {z d : Int} (zi : ec_ing σ z) (hd : 0 ≤ d ∧ d < 4) : ec_om 103 0 [.ref 0, .int (ec_i z), .int (ec_i d), .double 0] [] h = some (.inl (some (.int (ec_i (ec_ba σ z d)))), h) := by
  have w := C.2.1.2.2
  have w1 := w.1
  have g3 := ec_c15s C.2.1.1 C.2.1.2.1 (z := z) (d := d) zi.1 hd
  have bb := ed_bd_hb w zi (d := d) hd
  have br := ed_bd_rg w (z := z) (d := d) hd
  have hD := C.b
  unfold ec_ba
  by_cases q3 : ec_hb σ z d
  · rw [if_pos q3]
    have e := bb.2 q3
    rw [← e.1]
    generalize ed_bd σ z d = b at g3 e br
    simp (disch := first | (simp only [ec_w_kI, ec_w_kL, ec_w_kA, ec_w_shpI, ec_w_shpL, ec_w_shpA, ec_isR_r, ec_01z, ec_01o, ec_01q, hD]; done) | omega | (simp only [ec_w_shpI, ec_w_shpL, ec_w_shpA, hD]; refine ec_zinO ?_; omega) | (refine ec_nzO ?_; omega)) only [ec_s103_0, ec_s103_1, ec_s103_4, ec_s103_5, ec_s103_6, ec_s103_9, ec_s103_10, ec_s103_11, ec_s103_12, ec_s103_15, ec_s103_16, ec_s103_19, ec_s103_20, ec_zn0, ec_zn1, ec_zn2, ec_zn3, ec_zn4, ec_zn5, ec_zn6, ec_zn7, ec_zn8, ec_zn9, ec_zn10, ec_zn12, ec_zn13, ec_zn14, ec_zn15, ec_zn16, ec_zn20, ec_zn30, ec_zn48, ec_zn99, ec_zn120, ec_zn127, ec_zn11, ec_zn31, ec_zn46, ec_zn57, ec_zn59, ec_zn63, ec_zn101, ec_zn107, ec_zn108, ec_zn110, ec_zn111, ec_zn115, ec_zn116, ec_zn119, ec_zn167, ec_zn185, ec_zn192, ec_zn215, ec_zn233, ec_zn699, ec_zn932, ec_zn999, ec_znF, ec_zneg, ec_zadd, ec_zsub, ec_zmul, ec_zdivO, ec_em, ec_zltO, ec_zeqO, ec_zeq0, ec_qt, ec_qf, if_pos, if_neg, Int.add_zero, ec_aft_v, ec_aft_n, ec_rwE, ec_rwN, ec_rwP, ec_rwK, ec_rwS, ec_w_shpI, ec_w_shpL, ec_w_shpA, hD, g3]
  · rw [if_neg q3]
    rw [bb.1.mpr q3] at g3
    simp (disch := first | (simp only [ec_w_kI, ec_w_kL, ec_w_kA, ec_w_shpI, ec_w_shpL, ec_w_shpA, ec_isR_r, ec_01z, ec_01o, ec_01q, hD]; done) | omega | (simp only [ec_w_shpI, ec_w_shpL, ec_w_shpA, hD]; refine ec_zinO ?_; omega) | (refine ec_nzO ?_; omega)) only [ec_s103_0, ec_s103_1, ec_s103_4, ec_s103_5, ec_s103_6, ec_s103_9, ec_s103_10, ec_s103_11, ec_s103_12, ec_s103_15, ec_s103_16, ec_s103_19, ec_s103_20, ec_zn0, ec_zn1, ec_zn2, ec_zn3, ec_zn4, ec_zn5, ec_zn6, ec_zn7, ec_zn8, ec_zn9, ec_zn10, ec_zn12, ec_zn13, ec_zn14, ec_zn15, ec_zn16, ec_zn20, ec_zn30, ec_zn48, ec_zn99, ec_zn120, ec_zn127, ec_zn11, ec_zn31, ec_zn46, ec_zn57, ec_zn59, ec_zn63, ec_zn101, ec_zn107, ec_zn108, ec_zn110, ec_zn111, ec_zn115, ec_zn116, ec_zn119, ec_zn167, ec_zn185, ec_zn192, ec_zn215, ec_zn233, ec_zn699, ec_zn932, ec_zn999, ec_znF, ec_zneg, ec_zadd, ec_zsub, ec_zmul, ec_zdivO, ec_em, ec_zltO, ec_zeqO, ec_zeq0, ec_qt, ec_qf, if_pos, if_neg, Int.add_zero, ec_aft_v, ec_aft_n, ec_rwE, ec_rwN, ec_rwP, ec_rwK, ec_rwS, ec_w_shpI, ec_w_shpL, ec_w_shpA, hD, g3]
section
variable {c : Nat → Int} {nw : Nat → Bool} {t : Int} {v1 : Value}
theorem ec_c99c (C : ed_CL h σ n p L T) (hS : ec_SN h 63) (hs : ec_SS h 63 c nw t) (hl : ∀ z : Int, 0 ≤ z ∧ z < 48 → (ec_ct c z = -1 ↔ ¬ ed_lit σ z)) {z : Int} (hz : ec_ing σ z) {y x : Int} : ∀ (r : Nat) (k : Int) (d : Int64), 0 ≤ k → k + r = 4 →
    ec_om 99 79 [.ref 0, v1, .double 0, .long d, .double 0, .int (ec_i y), .int (ec_i x), .int (ec_i z), .int (ec_i k)] [] h = ec_om 99 104 [.ref 0, v1, .double 0, .long (ed_mxs (ed_cel σ z) r k d), .double 0, .int (ec_i y), .int (ec_i x), .int (ec_i z), .int (ec_i 4)] [] h := by
  intro r
  induction r with
  | zero =>
    intro k d h0 hk
    have hk : k = 4 := by omega
    rw [ec_s99_79, hk]
    simp (disch := first | (simp only [ec_01z, ec_01o, ec_01q]; done) | omega | (refine ec_nzO ?_; omega)) only [ec_s99_0, ec_s99_1, ec_s99_2, ec_s99_3, ec_s99_6, ec_s99_7, ec_s99_10, ec_s99_13, ec_s99_14, ec_s99_18, ec_s99_19, ec_s99_22, ec_s99_25, ec_s99_28, ec_s99_29, ec_s99_33, ec_s99_34, ec_s99_37, ec_s99_40, ec_s99_43, ec_s99_45, ec_s99_47, ec_s99_50, ec_s99_52, ec_s99_53, ec_s99_54, ec_s99_56, ec_s99_57, ec_s99_60, ec_s99_63, ec_s99_64, ec_s99_65, ec_s99_66, ec_s99_68, ec_s99_69, ec_s99_72, ec_s99_75, ec_s99_76, ec_s99_77, ec_s99_81, ec_s99_82, ec_s99_85, ec_s99_86, ec_s99_87, ec_s99_89, ec_s99_91, ec_s99_94, ec_s99_97, ec_s99_98, ec_s99_101, ec_s99_107, ec_s99_113, ec_s99_116, ec_s99_117, ec_zn0, ec_zn1, ec_zn2, ec_zn3, ec_zn4, ec_zn5, ec_zn6, ec_zn7, ec_zn8, ec_zn9, ec_zn10, ec_zn12, ec_zn13, ec_zn14, ec_zn15, ec_zn16, ec_zn20, ec_zn30, ec_zn48, ec_zn99, ec_zn120, ec_zn127, ec_zn11, ec_zn31, ec_zn46, ec_zn57, ec_zn59, ec_zn63, ec_zn101, ec_zn107, ec_zn108, ec_zn110, ec_zn111, ec_zn115, ec_zn116, ec_zn119, ec_zn167, ec_zn185, ec_zn192, ec_zn215, ec_zn233, ec_zn699, ec_zn932, ec_zn999, ec_znF, ec_zneg, ec_zadd, ec_zsub, ec_zmul, ec_zdivO, ec_em, ec_zltO, ec_zeqO, ec_zeq0, ec_qt, ec_qf, if_pos, if_neg, Int.add_zero, ec_aft_v, ec_aft_n, ec_rwE, ec_rwN, ec_rwP, ec_rwK, ec_rwS, ec_w_shpI, ec_w_shpL, ec_w_shpA]
    rfl
  | succ r ih =>
    intro k d h0 hk
    have g := ec_c104s C hS hs hz (hl z hz.1) (u := k) (by omega)
    have e := ih (k + 1) (ed_mx d (ed_cel σ z k)) (by omega) (by omega)
    have hD := C.b
    rw [ec_s99_79]
    simp (disch := first | (simp only [ec_w_kI, ec_w_kL, ec_w_kA, ec_w_shpI, ec_w_shpL, ec_w_shpA, ec_isR_r, ec_01z, ec_01o, ec_01q, hD]; done) | omega | (simp only [ec_w_shpI, ec_w_shpL, ec_w_shpA, hD]; refine ec_zinO ?_; omega) | (refine ec_nzO ?_; omega)) only [ec_s99_0, ec_s99_1, ec_s99_2, ec_s99_3, ec_s99_6, ec_s99_7, ec_s99_10, ec_s99_13, ec_s99_14, ec_s99_18, ec_s99_19, ec_s99_22, ec_s99_25, ec_s99_28, ec_s99_29, ec_s99_33, ec_s99_34, ec_s99_37, ec_s99_40, ec_s99_43, ec_s99_45, ec_s99_47, ec_s99_50, ec_s99_52, ec_s99_53, ec_s99_54, ec_s99_56, ec_s99_57, ec_s99_60, ec_s99_63, ec_s99_64, ec_s99_65, ec_s99_66, ec_s99_68, ec_s99_69, ec_s99_72, ec_s99_75, ec_s99_76, ec_s99_77, ec_s99_81, ec_s99_82, ec_s99_85, ec_s99_86, ec_s99_87, ec_s99_89, ec_s99_91, ec_s99_94, ec_s99_97, ec_s99_98, ec_s99_101, ec_s99_107, ec_s99_113, ec_s99_116, ec_s99_117, ec_zn0, ec_zn1, ec_zn2, ec_zn3, ec_zn4, ec_zn5, ec_zn6, ec_zn7, ec_zn8, ec_zn9, ec_zn10, ec_zn12, ec_zn13, ec_zn14, ec_zn15, ec_zn16, ec_zn20, ec_zn30, ec_zn48, ec_zn99, ec_zn120, ec_zn127, ec_zn11, ec_zn31, ec_zn46, ec_zn57, ec_zn59, ec_zn63, ec_zn101, ec_zn107, ec_zn108, ec_zn110, ec_zn111, ec_zn115, ec_zn116, ec_zn119, ec_zn167, ec_zn185, ec_zn192, ec_zn215, ec_zn233, ec_zn699, ec_zn932, ec_zn999, ec_znF, ec_zneg, ec_zadd, ec_zsub, ec_zmul, ec_zdivO, ec_em, ec_zltO, ec_zeqO, ec_zeq0, ec_qt, ec_qf, if_pos, if_neg, Int.add_zero, ec_aft_v, ec_aft_n, ec_rwE, ec_rwN, ec_rwP, ec_rwK, ec_rwS, ec_w_shpI, ec_w_shpL, ec_w_shpA, hD, g, ec_c102s, e]
    rfl
theorem ec_c99x (C : ed_CL h σ n p L T) (hS : ec_SN h 63) (hs : ec_SS h 63 c nw t) (hl : ∀ z : Int, 0 ≤ z ∧ z < 48 → (ec_ct c z = -1 ↔ ¬ ed_lit σ z)) {y : Int} (hy : 0 ≤ y ∧ y < σ 1) : ∀ (r : Nat) (x : Int) (d : Int64) (w7 w8 : Value), 0 ≤ x → x + r = σ 0 →
    ∃ w7' w8', ec_om 99 31 [.ref 0, v1, .double 0, .long d, .double 0, .int (ec_i y), .int (ec_i x), w7, w8] [] h = ec_om 99 110 [.ref 0, v1, .double 0, .long (ed_mxx σ y r x d), .double 0, .int (ec_i y), .int (ec_i (σ 0)), w7', w8'] [] h := by
  have w := C.2.1.2.2.1
  have r5 := C.2.1.2.1.1.1
  have hD := C.b
  intro r
  induction r with
  | zero =>
    intro x d w7 w8 h0 hk
    have hk : x = σ 0 := by omega
    refine ⟨w7, w8, ?_⟩
    rw [ec_s99_31]
    simp (disch := first | (simp only [ec_w_kI, ec_w_kL, ec_w_kA, ec_w_shpI, ec_w_shpL, ec_w_shpA, ec_isR_r, ec_01z, ec_01o, ec_01q, hD]; done) | omega | (simp only [ec_w_shpI, ec_w_shpL, ec_w_shpA, hD]; refine ec_zinO ?_; omega) | (refine ec_nzO ?_; omega)) only [ec_s99_0, ec_s99_1, ec_s99_2, ec_s99_3, ec_s99_6, ec_s99_7, ec_s99_10, ec_s99_13, ec_s99_14, ec_s99_18, ec_s99_19, ec_s99_22, ec_s99_25, ec_s99_28, ec_s99_29, ec_s99_33, ec_s99_34, ec_s99_37, ec_s99_40, ec_s99_43, ec_s99_45, ec_s99_47, ec_s99_50, ec_s99_52, ec_s99_53, ec_s99_54, ec_s99_56, ec_s99_57, ec_s99_60, ec_s99_63, ec_s99_64, ec_s99_65, ec_s99_66, ec_s99_68, ec_s99_69, ec_s99_72, ec_s99_75, ec_s99_76, ec_s99_77, ec_s99_81, ec_s99_82, ec_s99_85, ec_s99_86, ec_s99_87, ec_s99_89, ec_s99_91, ec_s99_94, ec_s99_97, ec_s99_98, ec_s99_101, ec_s99_107, ec_s99_113, ec_s99_116, ec_s99_117, ec_zn0, ec_zn1, ec_zn2, ec_zn3, ec_zn4, ec_zn5, ec_zn6, ec_zn7, ec_zn8, ec_zn9, ec_zn10, ec_zn12, ec_zn13, ec_zn14, ec_zn15, ec_zn16, ec_zn20, ec_zn30, ec_zn48, ec_zn99, ec_zn120, ec_zn127, ec_zn11, ec_zn31, ec_zn46, ec_zn57, ec_zn59, ec_zn63, ec_zn101, ec_zn107, ec_zn108, ec_zn110, ec_zn111, ec_zn115, ec_zn116, ec_zn119, ec_zn167, ec_zn185, ec_zn192, ec_zn215, ec_zn233, ec_zn699, ec_zn932, ec_zn999, ec_znF, ec_zneg, ec_zadd, ec_zsub, ec_zmul, ec_zdivO, ec_em, ec_zltO, ec_zeqO, ec_zeq0, ec_qt, ec_qf, if_pos, if_neg, Int.add_zero, ec_aft_v, ec_aft_n, ec_rwE, ec_rwN, ec_rwP, ec_rwK, ec_rwS, ec_w_shpI, ec_w_shpL, ec_w_shpA, hD, r5]
    rw [hk]
    rfl
  | succ r ih =>
    intro x d w7 w8 h0 hk
    have hc : ed_qc σ x y := ⟨by omega, hy⟩
    have zi := ed_qc_in C.2.1.2.2 hc
    obtain ⟨w7', w8', e1⟩ := ih (x + 1) (ed_mxs (ed_cel σ (8 * y + x)) 4 0 (ed_mx (ed_mx d (ec_ba σ (8 * y + x) 1)) (ec_ba σ (8 * y + x) 2))) (.int (ec_i (8 * y + x))) (.int (ec_i 4)) (by omega) (by omega)
    refine ⟨w7', w8', ?_⟩
    have e2 := ec_c99c (v1 := v1) (y := y) (x := x) C hS hs hl zi 4 0 (ed_mx (ed_mx d (ec_ba σ (8 * y + x) 1)) (ec_ba σ (8 * y + x) 2)) (by omega) (by omega)
    have g1 := ec_c103s C zi (d := 1) (by omega)
    have g2 := ec_c103s C zi (d := 2) (by omega)
    rw [ec_s99_31]
    simp (disch := first | (simp only [ec_w_kI, ec_w_kL, ec_w_kA, ec_w_shpI, ec_w_shpL, ec_w_shpA, ec_isR_r, ec_01z, ec_01o, ec_01q, hD]; done) | omega | (simp only [ec_w_shpI, ec_w_shpL, ec_w_shpA, hD]; refine ec_zinO ?_; omega) | (refine ec_nzO ?_; omega)) only [ec_s99_0, ec_s99_1, ec_s99_2, ec_s99_3, ec_s99_6, ec_s99_7, ec_s99_10, ec_s99_13, ec_s99_14, ec_s99_18, ec_s99_19, ec_s99_22, ec_s99_25, ec_s99_28, ec_s99_29, ec_s99_33, ec_s99_34, ec_s99_37, ec_s99_40, ec_s99_43, ec_s99_45, ec_s99_47, ec_s99_50, ec_s99_52, ec_s99_53, ec_s99_54, ec_s99_56, ec_s99_57, ec_s99_60, ec_s99_63, ec_s99_64, ec_s99_65, ec_s99_66, ec_s99_68, ec_s99_69, ec_s99_72, ec_s99_75, ec_s99_76, ec_s99_77, ec_s99_81, ec_s99_82, ec_s99_85, ec_s99_86, ec_s99_87, ec_s99_89, ec_s99_91, ec_s99_94, ec_s99_97, ec_s99_98, ec_s99_101, ec_s99_107, ec_s99_113, ec_s99_116, ec_s99_117, ec_zn0, ec_zn1, ec_zn2, ec_zn3, ec_zn4, ec_zn5, ec_zn6, ec_zn7, ec_zn8, ec_zn9, ec_zn10, ec_zn12, ec_zn13, ec_zn14, ec_zn15, ec_zn16, ec_zn20, ec_zn30, ec_zn48, ec_zn99, ec_zn120, ec_zn127, ec_zn11, ec_zn31, ec_zn46, ec_zn57, ec_zn59, ec_zn63, ec_zn101, ec_zn107, ec_zn108, ec_zn110, ec_zn111, ec_zn115, ec_zn116, ec_zn119, ec_zn167, ec_zn185, ec_zn192, ec_zn215, ec_zn233, ec_zn699, ec_zn932, ec_zn999, ec_znF, ec_zneg, ec_zadd, ec_zsub, ec_zmul, ec_zdivO, ec_em, ec_zltO, ec_zeqO, ec_zeq0, ec_qt, ec_qf, if_pos, if_neg, Int.add_zero, ec_aft_v, ec_aft_n, ec_rwE, ec_rwN, ec_rwP, ec_rwK, ec_rwS, ec_w_shpI, ec_w_shpL, ec_w_shpA, hD, r5, ec_c112s, ec_c102s, g1, g2]
    rw [e2, ec_s99_104]
    simp (disch := first | (simp only [ec_w_kI, ec_w_kL, ec_w_kA, ec_w_shpI, ec_w_shpL, ec_w_shpA, ec_isR_r, ec_01z, ec_01o, ec_01q, hD]; done) | omega | (simp only [ec_w_shpI, ec_w_shpL, ec_w_shpA, hD]; refine ec_zinO ?_; omega) | (refine ec_nzO ?_; omega)) only [ec_s99_0, ec_s99_1, ec_s99_2, ec_s99_3, ec_s99_6, ec_s99_7, ec_s99_10, ec_s99_13, ec_s99_14, ec_s99_18, ec_s99_19, ec_s99_22, ec_s99_25, ec_s99_28, ec_s99_29, ec_s99_33, ec_s99_34, ec_s99_37, ec_s99_40, ec_s99_43, ec_s99_45, ec_s99_47, ec_s99_50, ec_s99_52, ec_s99_53, ec_s99_54, ec_s99_56, ec_s99_57, ec_s99_60, ec_s99_63, ec_s99_64, ec_s99_65, ec_s99_66, ec_s99_68, ec_s99_69, ec_s99_72, ec_s99_75, ec_s99_76, ec_s99_77, ec_s99_81, ec_s99_82, ec_s99_85, ec_s99_86, ec_s99_87, ec_s99_89, ec_s99_91, ec_s99_94, ec_s99_97, ec_s99_98, ec_s99_101, ec_s99_107, ec_s99_113, ec_s99_116, ec_s99_117, ec_zn0, ec_zn1, ec_zn2, ec_zn3, ec_zn4, ec_zn5, ec_zn6, ec_zn7, ec_zn8, ec_zn9, ec_zn10, ec_zn12, ec_zn13, ec_zn14, ec_zn15, ec_zn16, ec_zn20, ec_zn30, ec_zn48, ec_zn99, ec_zn120, ec_zn127, ec_zn11, ec_zn31, ec_zn46, ec_zn57, ec_zn59, ec_zn63, ec_zn101, ec_zn107, ec_zn108, ec_zn110, ec_zn111, ec_zn115, ec_zn116, ec_zn119, ec_zn167, ec_zn185, ec_zn192, ec_zn215, ec_zn233, ec_zn699, ec_zn932, ec_zn999, ec_znF, ec_zneg, ec_zadd, ec_zsub, ec_zmul, ec_zdivO, ec_em, ec_zltO, ec_zeqO, ec_zeq0, ec_qt, ec_qf, if_pos, if_neg, Int.add_zero, ec_aft_v, ec_aft_n, ec_rwE, ec_rwN, ec_rwP, ec_rwK, ec_rwS, ec_w_shpI, ec_w_shpL, ec_w_shpA, hD, e1]
    rfl
theorem ec_c99y (C : ed_CL h σ n p L T) (hS : ec_SN h 63) (hs : ec_SS h 63 c nw t) (hl : ∀ z : Int, 0 ≤ z ∧ z < 48 → (ec_ct c z = -1 ↔ ¬ ed_lit σ z)) : ∀ (r : Nat) (y : Int) (d : Int64) (w6 w7 w8 : Value), 0 ≤ y → y + r = σ 1 →
    ec_om 99 16 [.ref 0, v1, .double 0, .long d, .double 0, .int (ec_i y), w6, w7, w8] [] h = some (.inl (some (.long (ed_mxy σ r y d))), h) := by
  have w := C.2.1.2.2.1
  have r6 := C.2.1.2.1.1.2.1
  have hD := C.b
  intro r
  induction r with
  | zero =>
    intro y d w6 w7 w8 h0 hk
    have hk : y = σ 1 := by omega
    rw [ec_s99_16]
    simp (disch := first | (simp only [ec_w_kI, ec_w_kL, ec_w_kA, ec_w_shpI, ec_w_shpL, ec_w_shpA, ec_isR_r, ec_01z, ec_01o, ec_01q, hD]; done) | omega | (simp only [ec_w_shpI, ec_w_shpL, ec_w_shpA, hD]; refine ec_zinO ?_; omega) | (refine ec_nzO ?_; omega)) only [ec_s99_0, ec_s99_1, ec_s99_2, ec_s99_3, ec_s99_6, ec_s99_7, ec_s99_10, ec_s99_13, ec_s99_14, ec_s99_18, ec_s99_19, ec_s99_22, ec_s99_25, ec_s99_28, ec_s99_29, ec_s99_33, ec_s99_34, ec_s99_37, ec_s99_40, ec_s99_43, ec_s99_45, ec_s99_47, ec_s99_50, ec_s99_52, ec_s99_53, ec_s99_54, ec_s99_56, ec_s99_57, ec_s99_60, ec_s99_63, ec_s99_64, ec_s99_65, ec_s99_66, ec_s99_68, ec_s99_69, ec_s99_72, ec_s99_75, ec_s99_76, ec_s99_77, ec_s99_81, ec_s99_82, ec_s99_85, ec_s99_86, ec_s99_87, ec_s99_89, ec_s99_91, ec_s99_94, ec_s99_97, ec_s99_98, ec_s99_101, ec_s99_107, ec_s99_113, ec_s99_116, ec_s99_117, ec_zn0, ec_zn1, ec_zn2, ec_zn3, ec_zn4, ec_zn5, ec_zn6, ec_zn7, ec_zn8, ec_zn9, ec_zn10, ec_zn12, ec_zn13, ec_zn14, ec_zn15, ec_zn16, ec_zn20, ec_zn30, ec_zn48, ec_zn99, ec_zn120, ec_zn127, ec_zn11, ec_zn31, ec_zn46, ec_zn57, ec_zn59, ec_zn63, ec_zn101, ec_zn107, ec_zn108, ec_zn110, ec_zn111, ec_zn115, ec_zn116, ec_zn119, ec_zn167, ec_zn185, ec_zn192, ec_zn215, ec_zn233, ec_zn699, ec_zn932, ec_zn999, ec_znF, ec_zneg, ec_zadd, ec_zsub, ec_zmul, ec_zdivO, ec_em, ec_zltO, ec_zeqO, ec_zeq0, ec_qt, ec_qf, if_pos, if_neg, Int.add_zero, ec_aft_v, ec_aft_n, ec_rwE, ec_rwN, ec_rwP, ec_rwK, ec_rwS, ec_w_shpI, ec_w_shpL, ec_w_shpA, hD, r6]
    rfl
  | succ r ih =>
    intro y d w6 w7 w8 h0 hk
    obtain ⟨w7', w8', e2⟩ := ec_c99x (v1 := v1) C hS hs hl (y := y) (by omega) (σ 0).toNat 0 d w7 w8 (by omega) (by omega)
    have e1 := ih (y + 1) (ed_mxx σ y (σ 0).toNat 0 d) (.int (ec_i (σ 0))) w7' w8' (by omega) (by omega)
    rw [ec_s99_16]
    simp (disch := first | (simp only [ec_w_kI, ec_w_kL, ec_w_kA, ec_w_shpI, ec_w_shpL, ec_w_shpA, ec_isR_r, ec_01z, ec_01o, ec_01q, hD]; done) | omega | (simp only [ec_w_shpI, ec_w_shpL, ec_w_shpA, hD]; refine ec_zinO ?_; omega) | (refine ec_nzO ?_; omega)) only [ec_s99_0, ec_s99_1, ec_s99_2, ec_s99_3, ec_s99_6, ec_s99_7, ec_s99_10, ec_s99_13, ec_s99_14, ec_s99_18, ec_s99_19, ec_s99_22, ec_s99_25, ec_s99_28, ec_s99_29, ec_s99_33, ec_s99_34, ec_s99_37, ec_s99_40, ec_s99_43, ec_s99_45, ec_s99_47, ec_s99_50, ec_s99_52, ec_s99_53, ec_s99_54, ec_s99_56, ec_s99_57, ec_s99_60, ec_s99_63, ec_s99_64, ec_s99_65, ec_s99_66, ec_s99_68, ec_s99_69, ec_s99_72, ec_s99_75, ec_s99_76, ec_s99_77, ec_s99_81, ec_s99_82, ec_s99_85, ec_s99_86, ec_s99_87, ec_s99_89, ec_s99_91, ec_s99_94, ec_s99_97, ec_s99_98, ec_s99_101, ec_s99_107, ec_s99_113, ec_s99_116, ec_s99_117, ec_zn0, ec_zn1, ec_zn2, ec_zn3, ec_zn4, ec_zn5, ec_zn6, ec_zn7, ec_zn8, ec_zn9, ec_zn10, ec_zn12, ec_zn13, ec_zn14, ec_zn15, ec_zn16, ec_zn20, ec_zn30, ec_zn48, ec_zn99, ec_zn120, ec_zn127, ec_zn11, ec_zn31, ec_zn46, ec_zn57, ec_zn59, ec_zn63, ec_zn101, ec_zn107, ec_zn108, ec_zn110, ec_zn111, ec_zn115, ec_zn116, ec_zn119, ec_zn167, ec_zn185, ec_zn192, ec_zn215, ec_zn233, ec_zn699, ec_zn932, ec_zn999, ec_znF, ec_zneg, ec_zadd, ec_zsub, ec_zmul, ec_zdivO, ec_em, ec_zltO, ec_zeqO, ec_zeq0, ec_qt, ec_qf, if_pos, if_neg, Int.add_zero, ec_aft_v, ec_aft_n, ec_rwE, ec_rwN, ec_rwP, ec_rwK, ec_rwS, ec_w_shpI, ec_w_shpL, ec_w_shpA, hD, r6, e2]
    rw [ec_s99_110]
    simp (disch := first | (simp only [ec_w_kI, ec_w_kL, ec_w_kA, ec_w_shpI, ec_w_shpL, ec_w_shpA, ec_isR_r, ec_01z, ec_01o, ec_01q, hD]; done) | omega | (simp only [ec_w_shpI, ec_w_shpL, ec_w_shpA, hD]; refine ec_zinO ?_; omega) | (refine ec_nzO ?_; omega)) only [ec_s99_0, ec_s99_1, ec_s99_2, ec_s99_3, ec_s99_6, ec_s99_7, ec_s99_10, ec_s99_13, ec_s99_14, ec_s99_18, ec_s99_19, ec_s99_22, ec_s99_25, ec_s99_28, ec_s99_29, ec_s99_33, ec_s99_34, ec_s99_37, ec_s99_40, ec_s99_43, ec_s99_45, ec_s99_47, ec_s99_50, ec_s99_52, ec_s99_53, ec_s99_54, ec_s99_56, ec_s99_57, ec_s99_60, ec_s99_63, ec_s99_64, ec_s99_65, ec_s99_66, ec_s99_68, ec_s99_69, ec_s99_72, ec_s99_75, ec_s99_76, ec_s99_77, ec_s99_81, ec_s99_82, ec_s99_85, ec_s99_86, ec_s99_87, ec_s99_89, ec_s99_91, ec_s99_94, ec_s99_97, ec_s99_98, ec_s99_101, ec_s99_107, ec_s99_113, ec_s99_116, ec_s99_117, ec_zn0, ec_zn1, ec_zn2, ec_zn3, ec_zn4, ec_zn5, ec_zn6, ec_zn7, ec_zn8, ec_zn9, ec_zn10, ec_zn12, ec_zn13, ec_zn14, ec_zn15, ec_zn16, ec_zn20, ec_zn30, ec_zn48, ec_zn99, ec_zn120, ec_zn127, ec_zn11, ec_zn31, ec_zn46, ec_zn57, ec_zn59, ec_zn63, ec_zn101, ec_zn107, ec_zn108, ec_zn110, ec_zn111, ec_zn115, ec_zn116, ec_zn119, ec_zn167, ec_zn185, ec_zn192, ec_zn215, ec_zn233, ec_zn699, ec_zn932, ec_zn999, ec_znF, ec_zneg, ec_zadd, ec_zsub, ec_zmul, ec_zdivO, ec_em, ec_zltO, ec_zeqO, ec_zeq0, ec_qt, ec_qf, if_pos, if_neg, Int.add_zero, ec_aft_v, ec_aft_n, ec_rwE, ec_rwN, ec_rwP, ec_rwK, ec_rwS, ec_w_shpI, ec_w_shpL, ec_w_shpA, hD, e1]
    rfl
end
theorem ec_c99s (C : ed_CL h σ n p L T) {d : Int64} : ∃ h', ec_om 99 0 [.ref 0, .long d, .double 0, .double 0, .double 0, .double 0, .double 0, .double 0, .double 0] [] h = some (.inl (some (.long (ed_mxy σ (σ 1).toNat 0 d))), h') ∧ ed_CL h' σ n p L T ∧ ec_fg ed_Fc h h' := by
  obtain ⟨h3, c, nw, t, c1, c2, c3, c4, c5, c6⟩ := C.shine
  have w := C.2.1.2.2.1
  refine ⟨h3, ?_, c5, c6.mono (fun q j e => by omega)⟩
  have e := ec_c99y (v1 := .long d) c5 c2 c3 c4 (σ 1).toNat 0 d (.double 0) (.double 0) (.double 0) (by omega) (by omega)
  have hD := And.intro C.b c5.b
  simp (disch := first | (simp only [ec_w_kI, ec_w_kL, ec_w_kA, ec_w_shpI, ec_w_shpL, ec_w_shpA, ec_isR_r, ec_01z, ec_01o, ec_01q, hD]; done) | omega | (simp only [ec_w_shpI, ec_w_shpL, ec_w_shpA, hD]; refine ec_zinO ?_; omega) | (refine ec_nzO ?_; omega)) only [ec_s99_0, ec_s99_1, ec_s99_2, ec_s99_3, ec_s99_6, ec_s99_7, ec_s99_10, ec_s99_13, ec_s99_14, ec_s99_18, ec_s99_19, ec_s99_22, ec_s99_25, ec_s99_28, ec_s99_29, ec_s99_33, ec_s99_34, ec_s99_37, ec_s99_40, ec_s99_43, ec_s99_45, ec_s99_47, ec_s99_50, ec_s99_52, ec_s99_53, ec_s99_54, ec_s99_56, ec_s99_57, ec_s99_60, ec_s99_63, ec_s99_64, ec_s99_65, ec_s99_66, ec_s99_68, ec_s99_69, ec_s99_72, ec_s99_75, ec_s99_76, ec_s99_77, ec_s99_81, ec_s99_82, ec_s99_85, ec_s99_86, ec_s99_87, ec_s99_89, ec_s99_91, ec_s99_94, ec_s99_97, ec_s99_98, ec_s99_101, ec_s99_107, ec_s99_113, ec_s99_116, ec_s99_117, ec_zn0, ec_zn1, ec_zn2, ec_zn3, ec_zn4, ec_zn5, ec_zn6, ec_zn7, ec_zn8, ec_zn9, ec_zn10, ec_zn12, ec_zn13, ec_zn14, ec_zn15, ec_zn16, ec_zn20, ec_zn30, ec_zn48, ec_zn99, ec_zn120, ec_zn127, ec_zn11, ec_zn31, ec_zn46, ec_zn57, ec_zn59, ec_zn63, ec_zn101, ec_zn107, ec_zn108, ec_zn110, ec_zn111, ec_zn115, ec_zn116, ec_zn119, ec_zn167, ec_zn185, ec_zn192, ec_zn215, ec_zn233, ec_zn699, ec_zn932, ec_zn999, ec_znF, ec_zneg, ec_zadd, ec_zsub, ec_zmul, ec_zdivO, ec_em, ec_zltO, ec_zeqO, ec_zeq0, ec_qt, ec_qf, if_pos, if_neg, Int.add_zero, ec_aft_v, ec_aft_n, ec_rwE, ec_rwN, ec_rwP, ec_rwK, ec_rwS, ec_w_shpI, ec_w_shpL, ec_w_shpA, hD, c1, e]
end EDR
theorem ec_c101c {h : ec_Hp} {t q M w : Nat} {a c : Int} {F : Int → Int} {x0 : Value} (hT : ec_TB h t q M w) (hM : M ≤ 10 ∧ w ≤ 8) (hc : c ≤ M) (ha : 0 ≤ a ∧ a < c) (hF : ∀ b : Int, 0 ≤ b ∧ b < w → h.2.1 q (a * (w : Int) + b).toNat = ec_i (F (w * a + b))) : ∀ (r : Nat) (b : Int) (d : Int64), 0 ≤ b → b + r = w →
    ec_om 101 18 [x0, .double 0, .ref t, .int (ec_i (w : Int)), .long d, .double 0, .int (ec_i a), .int (ec_i b)] [] h = ec_om 101 45 [x0, .double 0, .ref t, .int (ec_i (w : Int)), .long (ed_mxs F r (w * a + b) d), .double 0, .int (ec_i a), .int (ec_i (w : Int))] [] h := by
  intro r
  induction r with
  | zero =>
    intro b d h0 hk
    have hk : b = w := by omega
    rw [ec_s101_18, hk]
    simp (disch := first | (simp only [ec_01z, ec_01o, ec_01q]; done) | omega | (refine ec_nzO ?_; omega)) only [ec_s101_0, ec_s101_1, ec_s101_3, ec_s101_4, ec_s101_8, ec_s101_9, ec_s101_12, ec_s101_15, ec_s101_16, ec_s101_20, ec_s101_21, ec_s101_24, ec_s101_26, ec_s101_27, ec_s101_29, ec_s101_31, ec_s101_34, ec_s101_37, ec_s101_39, ec_s101_42, ec_s101_48, ec_s101_51, ec_s101_53, ec_zn0, ec_zn1, ec_zn2, ec_zn3, ec_zn4, ec_zn5, ec_zn6, ec_zn7, ec_zn8, ec_zn9, ec_zn10, ec_zn12, ec_zn13, ec_zn14, ec_zn15, ec_zn16, ec_zn20, ec_zn30, ec_zn48, ec_zn99, ec_zn120, ec_zn127, ec_zn11, ec_zn31, ec_zn46, ec_zn57, ec_zn59, ec_zn63, ec_zn101, ec_zn107, ec_zn108, ec_zn110, ec_zn111, ec_zn115, ec_zn116, ec_zn119, ec_zn167, ec_zn185, ec_zn192, ec_zn215, ec_zn233, ec_zn699, ec_zn932, ec_zn999, ec_znF, ec_zneg, ec_zadd, ec_zsub, ec_zmul, ec_zdivO, ec_em, ec_zltO, ec_zeqO, ec_zeq0, ec_qt, ec_qf, if_pos, if_neg, Int.add_zero, ec_aft_v, ec_aft_n, ec_rwE, ec_rwN, ec_rwP, ec_rwK, ec_rwS, ec_w_shpI, ec_w_shpL, ec_w_shpA]
    rfl
  | succ r ih =>
    intro b d h0 hk
    have g := ec_c48 hT (a := a) (b := b) (by omega) (by omega) hM
    rw [hF b (by omega)] at g
    have e := ih (b + 1) (ed_mx d (F (w * a + b))) (by omega) (by omega)
    rw [show (w : Int) * a + (b + 1) = w * a + b + 1 by omega] at e
    have hD := hT.1.1
    rw [ec_s101_18]
    simp (disch := first | (simp only [ec_w_kI, ec_w_kL, ec_w_kA, ec_w_shpI, ec_w_shpL, ec_w_shpA, ec_isR_r, ec_01z, ec_01o, ec_01q, hD]; done) | omega | (simp only [ec_w_shpI, ec_w_shpL, ec_w_shpA, hD]; refine ec_zinO ?_; omega) | (refine ec_nzO ?_; omega)) only [ec_s101_0, ec_s101_1, ec_s101_3, ec_s101_4, ec_s101_8, ec_s101_9, ec_s101_12, ec_s101_15, ec_s101_16, ec_s101_20, ec_s101_21, ec_s101_24, ec_s101_26, ec_s101_27, ec_s101_29, ec_s101_31, ec_s101_34, ec_s101_37, ec_s101_39, ec_s101_42, ec_s101_48, ec_s101_51, ec_s101_53, ec_zn0, ec_zn1, ec_zn2, ec_zn3, ec_zn4, ec_zn5, ec_zn6, ec_zn7, ec_zn8, ec_zn9, ec_zn10, ec_zn12, ec_zn13, ec_zn14, ec_zn15, ec_zn16, ec_zn20, ec_zn30, ec_zn48, ec_zn99, ec_zn120, ec_zn127, ec_zn11, ec_zn31, ec_zn46, ec_zn57, ec_zn59, ec_zn63, ec_zn101, ec_zn107, ec_zn108, ec_zn110, ec_zn111, ec_zn115, ec_zn116, ec_zn119, ec_zn167, ec_zn185, ec_zn192, ec_zn215, ec_zn233, ec_zn699, ec_zn932, ec_zn999, ec_znF, ec_zneg, ec_zadd, ec_zsub, ec_zmul, ec_zdivO, ec_em, ec_zltO, ec_zeqO, ec_zeq0, ec_qt, ec_qf, if_pos, if_neg, Int.add_zero, ec_aft_v, ec_aft_n, ec_rwE, ec_rwN, ec_rwP, ec_rwK, ec_rwS, ec_w_shpI, ec_w_shpL, ec_w_shpA, hD, g, ec_c102s, e]
    rfl
theorem ec_c101L {h : ec_Hp} {t q M w : Nat} {c : Int} {F : Int → Int} {x0 : Value} (hT : ec_TB h t q M w) (hM : M ≤ 10 ∧ w ≤ 8) (hc : c ≤ M) (hcn : h.2.1 t 3 = ec_i c) (hF : ∀ a b : Int, 0 ≤ a ∧ a < c → 0 ≤ b ∧ b < w → h.2.1 q (a * (w : Int) + b).toNat = ec_i (F (w * a + b))) : ∀ (r : Nat) (a : Int) (d : Int64) (w7 : Value), 0 ≤ a → a + r = c →
    ec_om 101 6 [x0, .double 0, .ref t, .int (ec_i (w : Int)), .long d, .double 0, .int (ec_i a), w7] [] h = some (.inl (some (.long (ed_mxs F (w * r) (w * a) d))), h) := by
  intro r
  induction r with
  | zero =>
    intro a d w7 h0 hk
    have hk : a = c := by omega
    have hD := hT.1.1
    rw [ec_s101_6]
    simp (disch := first | (simp only [ec_w_kI, ec_w_kL, ec_w_kA, ec_w_shpI, ec_w_shpL, ec_w_shpA, ec_isR_r, ec_01z, ec_01o, ec_01q, hD]; done) | omega | (simp only [ec_w_shpI, ec_w_shpL, ec_w_shpA, hD]; refine ec_zinO ?_; omega) | (refine ec_nzO ?_; omega)) only [ec_s101_0, ec_s101_1, ec_s101_3, ec_s101_4, ec_s101_8, ec_s101_9, ec_s101_12, ec_s101_15, ec_s101_16, ec_s101_20, ec_s101_21, ec_s101_24, ec_s101_26, ec_s101_27, ec_s101_29, ec_s101_31, ec_s101_34, ec_s101_37, ec_s101_39, ec_s101_42, ec_s101_48, ec_s101_51, ec_s101_53, ec_zn0, ec_zn1, ec_zn2, ec_zn3, ec_zn4, ec_zn5, ec_zn6, ec_zn7, ec_zn8, ec_zn9, ec_zn10, ec_zn12, ec_zn13, ec_zn14, ec_zn15, ec_zn16, ec_zn20, ec_zn30, ec_zn48, ec_zn99, ec_zn120, ec_zn127, ec_zn11, ec_zn31, ec_zn46, ec_zn57, ec_zn59, ec_zn63, ec_zn101, ec_zn107, ec_zn108, ec_zn110, ec_zn111, ec_zn115, ec_zn116, ec_zn119, ec_zn167, ec_zn185, ec_zn192, ec_zn215, ec_zn233, ec_zn699, ec_zn932, ec_zn999, ec_znF, ec_zneg, ec_zadd, ec_zsub, ec_zmul, ec_zdivO, ec_em, ec_zltO, ec_zeqO, ec_zeq0, ec_qt, ec_qf, if_pos, if_neg, Int.add_zero, ec_aft_v, ec_aft_n, ec_rwE, ec_rwN, ec_rwP, ec_rwK, ec_rwS, ec_w_shpI, ec_w_shpL, ec_w_shpA, hD, hcn]
    rfl
  | succ r ih =>
    intro a d w7 h0 hk
    have e2 := ec_c101c (x0 := x0) hT hM hc (a := a) (by omega) (fun b hb => hF a b (by omega) hb) w 0 d (by omega) (by omega)
    have e1 := ih (a + 1) (ed_mxs F w (w * a + 0) d) (.int (ec_i (w : Int))) (by omega) (by omega)
    rw [show w * (r + 1) = w + w * r by rw [Nat.mul_succ]; omega, ed_mxs_add]
    rw [Int.add_zero] at e1 e2
    rw [show (w : Int) * (a + 1) = w * a + w by rw [Int.mul_add, Int.mul_one]] at e1
    have hD := hT.1.1
    rw [ec_s101_6]
    simp (disch := first | (simp only [ec_w_kI, ec_w_kL, ec_w_kA, ec_w_shpI, ec_w_shpL, ec_w_shpA, ec_isR_r, ec_01z, ec_01o, ec_01q, hD]; done) | omega | (simp only [ec_w_shpI, ec_w_shpL, ec_w_shpA, hD]; refine ec_zinO ?_; omega) | (refine ec_nzO ?_; omega)) only [ec_s101_0, ec_s101_1, ec_s101_3, ec_s101_4, ec_s101_8, ec_s101_9, ec_s101_12, ec_s101_15, ec_s101_16, ec_s101_20, ec_s101_21, ec_s101_24, ec_s101_26, ec_s101_27, ec_s101_29, ec_s101_31, ec_s101_34, ec_s101_37, ec_s101_39, ec_s101_42, ec_s101_48, ec_s101_51, ec_s101_53, ec_zn0, ec_zn1, ec_zn2, ec_zn3, ec_zn4, ec_zn5, ec_zn6, ec_zn7, ec_zn8, ec_zn9, ec_zn10, ec_zn12, ec_zn13, ec_zn14, ec_zn15, ec_zn16, ec_zn20, ec_zn30, ec_zn48, ec_zn99, ec_zn120, ec_zn127, ec_zn11, ec_zn31, ec_zn46, ec_zn57, ec_zn59, ec_zn63, ec_zn101, ec_zn107, ec_zn108, ec_zn110, ec_zn111, ec_zn115, ec_zn116, ec_zn119, ec_zn167, ec_zn185, ec_zn192, ec_zn215, ec_zn233, ec_zn699, ec_zn932, ec_zn999, ec_znF, ec_zneg, ec_zadd, ec_zsub, ec_zmul, ec_zdivO, ec_em, ec_zltO, ec_zeqO, ec_zeq0, ec_qt, ec_qf, if_pos, if_neg, Int.add_zero, ec_aft_v, ec_aft_n, ec_rwE, ec_rwN, ec_rwP, ec_rwK, ec_rwS, ec_w_shpI, ec_w_shpL, ec_w_shpA, hD, hcn, e2]
    rw [ec_s101_45]
    simp (disch := first | (simp only [ec_w_kI, ec_w_kL, ec_w_kA, ec_w_shpI, ec_w_shpL, ec_w_shpA, ec_isR_r, ec_01z, ec_01o, ec_01q, hD]; done) | omega | (simp only [ec_w_shpI, ec_w_shpL, ec_w_shpA, hD]; refine ec_zinO ?_; omega) | (refine ec_nzO ?_; omega)) only [ec_s101_0, ec_s101_1, ec_s101_3, ec_s101_4, ec_s101_8, ec_s101_9, ec_s101_12, ec_s101_15, ec_s101_16, ec_s101_20, ec_s101_21, ec_s101_24, ec_s101_26, ec_s101_27, ec_s101_29, ec_s101_31, ec_s101_34, ec_s101_37, ec_s101_39, ec_s101_42, ec_s101_48, ec_s101_51, ec_s101_53, ec_zn0, ec_zn1, ec_zn2, ec_zn3, ec_zn4, ec_zn5, ec_zn6, ec_zn7, ec_zn8, ec_zn9, ec_zn10, ec_zn12, ec_zn13, ec_zn14, ec_zn15, ec_zn16, ec_zn20, ec_zn30, ec_zn48, ec_zn99, ec_zn120, ec_zn127, ec_zn11, ec_zn31, ec_zn46, ec_zn57, ec_zn59, ec_zn63, ec_zn101, ec_zn107, ec_zn108, ec_zn110, ec_zn111, ec_zn115, ec_zn116, ec_zn119, ec_zn167, ec_zn185, ec_zn192, ec_zn215, ec_zn233, ec_zn699, ec_zn932, ec_zn999, ec_znF, ec_zneg, ec_zadd, ec_zsub, ec_zmul, ec_zdivO, ec_em, ec_zltO, ec_zeqO, ec_zeq0, ec_qt, ec_qf, if_pos, if_neg, Int.add_zero, ec_aft_v, ec_aft_n, ec_rwE, ec_rwN, ec_rwP, ec_rwK, ec_rwS, ec_w_shpI, ec_w_shpL, ec_w_shpA, hD, e1]
theorem ec_c101s {h : ec_Hp} {t q M w : Nat} {c : Int} {F : Int → Int} {x : Int64} (hT : ec_TB h t q M w) (hM : M ≤ 10 ∧ w ≤ 8) (hc : 0 ≤ c ∧ c ≤ M) (hcn : h.2.1 t 3 = ec_i c) (hF : ∀ a b : Int, 0 ≤ a ∧ a < c → 0 ≤ b ∧ b < w → h.2.1 q (a * (w : Int) + b).toNat = ec_i (F (w * a + b))) :
    ec_om 101 0 [.long x, .double 0, .ref t, .int (ec_i (w : Int)), .double 0, .double 0, .double 0, .double 0] [] h = some (.inl (some (.long (ed_mxs F (w * c.toNat) 0 x))), h) := by
  have e := ec_c101L (x0 := .long x) hT hM hc.2 hcn hF c.toNat 0 x (.double 0) (by omega) (by omega)
  rw [Int.mul_zero] at e
  simp (disch := first | (simp only [ec_01z, ec_01o, ec_01q]; done) | omega | (refine ec_nzO ?_; omega)) only [ec_s101_0, ec_s101_1, ec_s101_3, ec_s101_4, ec_s101_8, ec_s101_9, ec_s101_12, ec_s101_15, ec_s101_16, ec_s101_20, ec_s101_21, ec_s101_24, ec_s101_26, ec_s101_27, ec_s101_29, ec_s101_31, ec_s101_34, ec_s101_37, ec_s101_39, ec_s101_42, ec_s101_48, ec_s101_51, ec_s101_53, ec_zn0, ec_zn1, ec_zn2, ec_zn3, ec_zn4, ec_zn5, ec_zn6, ec_zn7, ec_zn8, ec_zn9, ec_zn10, ec_zn12, ec_zn13, ec_zn14, ec_zn15, ec_zn16, ec_zn20, ec_zn30, ec_zn48, ec_zn99, ec_zn120, ec_zn127, ec_zn11, ec_zn31, ec_zn46, ec_zn57, ec_zn59, ec_zn63, ec_zn101, ec_zn107, ec_zn108, ec_zn110, ec_zn111, ec_zn115, ec_zn116, ec_zn119, ec_zn167, ec_zn185, ec_zn192, ec_zn215, ec_zn233, ec_zn699, ec_zn932, ec_zn999, ec_znF, ec_zneg, ec_zadd, ec_zsub, ec_zmul, ec_zdivO, ec_em, ec_zltO, ec_zeqO, ec_zeq0, ec_qt, ec_qf, if_pos, if_neg, Int.add_zero, ec_aft_v, ec_aft_n, ec_rwE, ec_rwN, ec_rwP, ec_rwK, ec_rwS, ec_w_shpI, ec_w_shpL, ec_w_shpA, e]
section EDS
variable {σ : ec_Sg} {n : Int} {p : Int → ec_Sg} {L : Int} {T : Int → Int} {v1 : Value}
theorem ec_c100c {m : Int} (hm : 0 ≤ m ∧ m < σ 4) : ∀ (r : Nat) (k : Int) (d : Int64) (h : ec_Hp), ed_CL h σ n p L T → 0 ≤ k → k + r = 8 →
    ∃ h', ec_om 100 23 [.ref 0, v1, .double 0, .long d, .double 0, .int (ec_i m), .int (ec_i k)] [] h = ec_om 100 49 [.ref 0, v1, .double 0, .long (ed_mxs (ed_mov σ m) r k d), .double 0, .int (ec_i m), .int (ec_i 8)] [] h' ∧ ed_CL h' σ n p L T ∧ ec_fg ed_Fc h h' := by
  intro r
  induction r with
  | zero =>
    intro k d h C h0 hk
    have hk : k = 8 := by omega
    refine ⟨h, ?_, C, ec_fg.refl⟩
    rw [ec_s100_23, hk]
    simp (disch := first | (simp only [ec_01z, ec_01o, ec_01q]; done) | omega | (refine ec_nzO ?_; omega)) only [ec_s100_0, ec_s100_1, ec_s100_2, ec_s100_3, ec_s100_7, ec_s100_8, ec_s100_11, ec_s100_14, ec_s100_17, ec_s100_20, ec_s100_21, ec_s100_25, ec_s100_27, ec_s100_30, ec_s100_31, ec_s100_32, ec_s100_34, ec_s100_36, ec_s100_39, ec_s100_42, ec_s100_43, ec_s100_46, ec_s100_50, ec_s100_51, ec_s100_53, ec_s100_56, ec_s100_59, ec_s100_60, ec_s100_63, ec_s100_66, ec_s100_67, ec_zn0, ec_zn1, ec_zn2, ec_zn3, ec_zn4, ec_zn5, ec_zn6, ec_zn7, ec_zn8, ec_zn9, ec_zn10, ec_zn12, ec_zn13, ec_zn14, ec_zn15, ec_zn16, ec_zn20, ec_zn30, ec_zn48, ec_zn99, ec_zn120, ec_zn127, ec_zn11, ec_zn31, ec_zn46, ec_zn57, ec_zn59, ec_zn63, ec_zn101, ec_zn107, ec_zn108, ec_zn110, ec_zn111, ec_zn115, ec_zn116, ec_zn119, ec_zn167, ec_zn185, ec_zn192, ec_zn215, ec_zn233, ec_zn699, ec_zn932, ec_zn999, ec_znF, ec_zneg, ec_zadd, ec_zsub, ec_zmul, ec_zdivO, ec_em, ec_zltO, ec_zeqO, ec_zeq0, ec_qt, ec_qf, if_pos, if_neg, Int.add_zero, ec_aft_v, ec_aft_n, ec_rwE, ec_rwN, ec_rwP, ec_rwK, ec_rwS, ec_w_shpI, ec_w_shpL, ec_w_shpA]
    rfl
  | succ r ih =>
    intro k d h C h0 hk
    have w1 := C.2.1.2.2.1
    have kv : ed_kVa (σ 4) m k 7 = 0 := by
      unfold ed_kVa
      rw [if_pos hm, if_pos (by omega)]
    obtain ⟨h1, a1, a2, a3⟩ := (ec_c85s C (d := m) (u := k) (ec_rgs (by omega)) (ec_rgs (by omega))).1 kv
    obtain ⟨h2, b1, b2, b3⟩ := ih (k + 1) (ed_mx d (ed_mov σ m k)) h1 a2 (by omega) (by omega)
    refine ⟨h2, ?_, b2, a3.trans b3⟩
    have hD := And.intro C.b a2.b
    rw [ec_s100_23]
    simp (disch := first | (simp only [ec_w_kI, ec_w_kL, ec_w_kA, ec_w_shpI, ec_w_shpL, ec_w_shpA, ec_isR_r, ec_01z, ec_01o, ec_01q, hD]; done) | omega | (simp only [ec_w_shpI, ec_w_shpL, ec_w_shpA, hD]; refine ec_zinO ?_; omega) | (refine ec_nzO ?_; omega)) only [ec_s100_0, ec_s100_1, ec_s100_2, ec_s100_3, ec_s100_7, ec_s100_8, ec_s100_11, ec_s100_14, ec_s100_17, ec_s100_20, ec_s100_21, ec_s100_25, ec_s100_27, ec_s100_30, ec_s100_31, ec_s100_32, ec_s100_34, ec_s100_36, ec_s100_39, ec_s100_42, ec_s100_43, ec_s100_46, ec_s100_50, ec_s100_51, ec_s100_53, ec_s100_56, ec_s100_59, ec_s100_60, ec_s100_63, ec_s100_66, ec_s100_67, ec_zn0, ec_zn1, ec_zn2, ec_zn3, ec_zn4, ec_zn5, ec_zn6, ec_zn7, ec_zn8, ec_zn9, ec_zn10, ec_zn12, ec_zn13, ec_zn14, ec_zn15, ec_zn16, ec_zn20, ec_zn30, ec_zn48, ec_zn99, ec_zn120, ec_zn127, ec_zn11, ec_zn31, ec_zn46, ec_zn57, ec_zn59, ec_zn63, ec_zn101, ec_zn107, ec_zn108, ec_zn110, ec_zn111, ec_zn115, ec_zn116, ec_zn119, ec_zn167, ec_zn185, ec_zn192, ec_zn215, ec_zn233, ec_zn699, ec_zn932, ec_zn999, ec_znF, ec_zneg, ec_zadd, ec_zsub, ec_zmul, ec_zdivO, ec_em, ec_zltO, ec_zeqO, ec_zeq0, ec_qt, ec_qf, if_pos, if_neg, Int.add_zero, ec_aft_v, ec_aft_n, ec_rwE, ec_rwN, ec_rwP, ec_rwK, ec_rwS, ec_w_shpI, ec_w_shpL, ec_w_shpA, hD, a1, ec_c102s, b1]
    rfl
theorem ec_c100L : ∀ (r : Nat) (m : Int) (d : Int64) (h : ec_Hp) (w6 : Value), ed_CL h σ n p L T → 0 ≤ m → m + r = σ 4 →
    ∃ h', ec_om 100 5 [.ref 0, v1, .double 0, .long d, .double 0, .int (ec_i m), w6] [] h = some (.inl (some (.long (ed_mxm σ r m d))), h') ∧ ed_CL h' σ n p L T ∧ ec_fg ed_Fc h h' := by
  intro r
  induction r with
  | zero =>
    intro m d h w6 C h0 hk
    have hk : m = σ 4 := by omega
    have w1 := C.2.1.2.2.1
    have rc := C.2.1.2.1.2.1.2.2.1
    refine ⟨h, ?_, C, ec_fg.refl⟩
    have hD := C.b
    rw [ec_s100_5]
    simp (disch := first | (simp only [ec_w_kI, ec_w_kL, ec_w_kA, ec_w_shpI, ec_w_shpL, ec_w_shpA, ec_isR_r, ec_01z, ec_01o, ec_01q, hD]; done) | omega | (simp only [ec_w_shpI, ec_w_shpL, ec_w_shpA, hD]; refine ec_zinO ?_; omega) | (refine ec_nzO ?_; omega)) only [ec_s100_0, ec_s100_1, ec_s100_2, ec_s100_3, ec_s100_7, ec_s100_8, ec_s100_11, ec_s100_14, ec_s100_17, ec_s100_20, ec_s100_21, ec_s100_25, ec_s100_27, ec_s100_30, ec_s100_31, ec_s100_32, ec_s100_34, ec_s100_36, ec_s100_39, ec_s100_42, ec_s100_43, ec_s100_46, ec_s100_50, ec_s100_51, ec_s100_53, ec_s100_56, ec_s100_59, ec_s100_60, ec_s100_63, ec_s100_66, ec_s100_67, ec_zn0, ec_zn1, ec_zn2, ec_zn3, ec_zn4, ec_zn5, ec_zn6, ec_zn7, ec_zn8, ec_zn9, ec_zn10, ec_zn12, ec_zn13, ec_zn14, ec_zn15, ec_zn16, ec_zn20, ec_zn30, ec_zn48, ec_zn99, ec_zn120, ec_zn127, ec_zn11, ec_zn31, ec_zn46, ec_zn57, ec_zn59, ec_zn63, ec_zn101, ec_zn107, ec_zn108, ec_zn110, ec_zn111, ec_zn115, ec_zn116, ec_zn119, ec_zn167, ec_zn185, ec_zn192, ec_zn215, ec_zn233, ec_zn699, ec_zn932, ec_zn999, ec_znF, ec_zneg, ec_zadd, ec_zsub, ec_zmul, ec_zdivO, ec_em, ec_zltO, ec_zeqO, ec_zeq0, ec_qt, ec_qf, if_pos, if_neg, Int.add_zero, ec_aft_v, ec_aft_n, ec_rwE, ec_rwN, ec_rwP, ec_rwK, ec_rwS, ec_w_shpI, ec_w_shpL, ec_w_shpA, hD, rc]
    rfl
  | succ r ih =>
    intro m d h w6 C h0 hk
    have w1 := C.2.1.2.2.1
    have rc := C.2.1.2.1.2.1.2.2.1
    obtain ⟨h1, a1, a2, a3⟩ := ec_c100c (v1 := v1) (m := m) (by omega) 8 0 d h C (by omega) (by omega)
    have kn : ed_kNx σ m = 0 := if_pos (by omega)
    obtain ⟨h2, b1, b2, b3⟩ := (ec_c91s a2 (m := m) (ec_rgs (by omega))).1 kn
    obtain ⟨h3, c1, c2, c3⟩ := ih (m + 1) (ed_mx (ed_mxs (ed_mov σ m) 8 0 d) (ed_nxs σ m)) h2 (.int (ec_i 8)) b2 (by omega) (by omega)
    refine ⟨h3, ?_, c2, a3.trans (b3.trans c3)⟩
    have hD := And.intro C.b (And.intro a2.b b2.b)
    rw [ec_s100_5]
    simp (disch := first | (simp only [ec_w_kI, ec_w_kL, ec_w_kA, ec_w_shpI, ec_w_shpL, ec_w_shpA, ec_isR_r, ec_01z, ec_01o, ec_01q, hD]; done) | omega | (simp only [ec_w_shpI, ec_w_shpL, ec_w_shpA, hD]; refine ec_zinO ?_; omega) | (refine ec_nzO ?_; omega)) only [ec_s100_0, ec_s100_1, ec_s100_2, ec_s100_3, ec_s100_7, ec_s100_8, ec_s100_11, ec_s100_14, ec_s100_17, ec_s100_20, ec_s100_21, ec_s100_25, ec_s100_27, ec_s100_30, ec_s100_31, ec_s100_32, ec_s100_34, ec_s100_36, ec_s100_39, ec_s100_42, ec_s100_43, ec_s100_46, ec_s100_50, ec_s100_51, ec_s100_53, ec_s100_56, ec_s100_59, ec_s100_60, ec_s100_63, ec_s100_66, ec_s100_67, ec_zn0, ec_zn1, ec_zn2, ec_zn3, ec_zn4, ec_zn5, ec_zn6, ec_zn7, ec_zn8, ec_zn9, ec_zn10, ec_zn12, ec_zn13, ec_zn14, ec_zn15, ec_zn16, ec_zn20, ec_zn30, ec_zn48, ec_zn99, ec_zn120, ec_zn127, ec_zn11, ec_zn31, ec_zn46, ec_zn57, ec_zn59, ec_zn63, ec_zn101, ec_zn107, ec_zn108, ec_zn110, ec_zn111, ec_zn115, ec_zn116, ec_zn119, ec_zn167, ec_zn185, ec_zn192, ec_zn215, ec_zn233, ec_zn699, ec_zn932, ec_zn999, ec_znF, ec_zneg, ec_zadd, ec_zsub, ec_zmul, ec_zdivO, ec_em, ec_zltO, ec_zeqO, ec_zeq0, ec_qt, ec_qf, if_pos, if_neg, Int.add_zero, ec_aft_v, ec_aft_n, ec_rwE, ec_rwN, ec_rwP, ec_rwK, ec_rwS, ec_w_shpI, ec_w_shpL, ec_w_shpA, hD, rc, a1]
    rw [ec_s100_49]
    simp (disch := first | (simp only [ec_w_kI, ec_w_kL, ec_w_kA, ec_w_shpI, ec_w_shpL, ec_w_shpA, ec_isR_r, ec_01z, ec_01o, ec_01q, hD]; done) | omega | (simp only [ec_w_shpI, ec_w_shpL, ec_w_shpA, hD]; refine ec_zinO ?_; omega) | (refine ec_nzO ?_; omega)) only [ec_s100_0, ec_s100_1, ec_s100_2, ec_s100_3, ec_s100_7, ec_s100_8, ec_s100_11, ec_s100_14, ec_s100_17, ec_s100_20, ec_s100_21, ec_s100_25, ec_s100_27, ec_s100_30, ec_s100_31, ec_s100_32, ec_s100_34, ec_s100_36, ec_s100_39, ec_s100_42, ec_s100_43, ec_s100_46, ec_s100_50, ec_s100_51, ec_s100_53, ec_s100_56, ec_s100_59, ec_s100_60, ec_s100_63, ec_s100_66, ec_s100_67, ec_zn0, ec_zn1, ec_zn2, ec_zn3, ec_zn4, ec_zn5, ec_zn6, ec_zn7, ec_zn8, ec_zn9, ec_zn10, ec_zn12, ec_zn13, ec_zn14, ec_zn15, ec_zn16, ec_zn20, ec_zn30, ec_zn48, ec_zn99, ec_zn120, ec_zn127, ec_zn11, ec_zn31, ec_zn46, ec_zn57, ec_zn59, ec_zn63, ec_zn101, ec_zn107, ec_zn108, ec_zn110, ec_zn111, ec_zn115, ec_zn116, ec_zn119, ec_zn167, ec_zn185, ec_zn192, ec_zn215, ec_zn233, ec_zn699, ec_zn932, ec_zn999, ec_znF, ec_zneg, ec_zadd, ec_zsub, ec_zmul, ec_zdivO, ec_em, ec_zltO, ec_zeqO, ec_zeq0, ec_qt, ec_qf, if_pos, if_neg, Int.add_zero, ec_aft_v, ec_aft_n, ec_rwE, ec_rwN, ec_rwP, ec_rwK, ec_rwS, ec_w_shpI, ec_w_shpL, ec_w_shpA, hD, b1, ec_c102s, c1]
    rfl
theorem ec_c100s {h : ec_Hp} (C : ed_CL h σ n p L T) {d : Int64} : ∃ h', ec_om 100 0 [.ref 0, .long d, .double 0, .double 0, .double 0, .double 0, .double 0] [] h = some (.inl (some (.long (ed_mxm σ (σ 4).toNat 0 d))), h') ∧ ed_CL h' σ n p L T ∧ ec_fg ed_Fc h h' := by
  have w1 := C.2.1.2.2.1
  obtain ⟨h1, a1, a2, a3⟩ := ec_c100L (v1 := .long d) (σ 4).toNat 0 d h (.double 0) C (by omega) (by omega)
  refine ⟨h1, ?_, a2, a3⟩
  simp (disch := first | (simp only [ec_01z, ec_01o, ec_01q]; done) | omega | (refine ec_nzO ?_; omega)) only [ec_s100_0, ec_s100_1, ec_s100_2, ec_s100_3, ec_s100_7, ec_s100_8, ec_s100_11, ec_s100_14, ec_s100_17, ec_s100_20, ec_s100_21, ec_s100_25, ec_s100_27, ec_s100_30, ec_s100_31, ec_s100_32, ec_s100_34, ec_s100_36, ec_s100_39, ec_s100_42, ec_s100_43, ec_s100_46, ec_s100_50, ec_s100_51, ec_s100_53, ec_s100_56, ec_s100_59, ec_s100_60, ec_s100_63, ec_s100_66, ec_s100_67, ec_zn0, ec_zn1, ec_zn2, ec_zn3, ec_zn4, ec_zn5, ec_zn6, ec_zn7, ec_zn8, ec_zn9, ec_zn10, ec_zn12, ec_zn13, ec_zn14, ec_zn15, ec_zn16, ec_zn20, ec_zn30, ec_zn48, ec_zn99, ec_zn120, ec_zn127, ec_zn11, ec_zn31, ec_zn46, ec_zn57, ec_zn59, ec_zn63, ec_zn101, ec_zn107, ec_zn108, ec_zn110, ec_zn111, ec_zn115, ec_zn116, ec_zn119, ec_zn167, ec_zn185, ec_zn192, ec_zn215, ec_zn233, ec_zn699, ec_zn932, ec_zn999, ec_znF, ec_zneg, ec_zadd, ec_zsub, ec_zmul, ec_zdivO, ec_em, ec_zltO, ec_zeqO, ec_zeq0, ec_qt, ec_qf, if_pos, if_neg, Int.add_zero, ec_aft_v, ec_aft_n, ec_rwE, ec_rwN, ec_rwP, ec_rwK, ec_rwS, ec_w_shpI, ec_w_shpL, ec_w_shpA, a1]
theorem ec_c98w : ∀ (r : Nat) (k : Int) (d : Int64) (h : ec_Hp), ed_CL h σ n p L T → 0 ≤ k → k + r = 14 →
    ∃ h', ec_om 98 16 [.ref 0, .long d, .double 0, .int (ec_i k)] [] h = ec_om 98 38 [.ref 0, .long (ed_mxs (ed_whv σ L) r k d), .double 0, .int (ec_i 14)] [] h' ∧ ed_CL h' σ n p L T ∧ ec_fg ed_Fc h h' := by
  intro r
  induction r with
  | zero =>
    intro k d h C h0 hk
    have hk : k = 14 := by omega
    refine ⟨h, ?_, C, ec_fg.refl⟩
    rw [ec_s98_16, hk]
    simp (disch := first | (simp only [ec_01z, ec_01o, ec_01q]; done) | omega | (refine ec_nzO ?_; omega)) only [ec_s98_0, ec_s98_3, ec_s98_4, ec_s98_7, ec_s98_10, ec_s98_13, ec_s98_14, ec_s98_15, ec_s98_17, ec_s98_19, ec_s98_22, ec_s98_23, ec_s98_24, ec_s98_25, ec_s98_28, ec_s98_31, ec_s98_32, ec_s98_35, ec_s98_39, ec_s98_40, ec_s98_43, ec_s98_44, ec_s98_45, ec_s98_46, ec_s98_49, ec_s98_52, ec_s98_54, ec_s98_57, ec_s98_58, ec_s98_59, ec_s98_60, ec_s98_63, ec_s98_66, ec_s98_67, ec_s98_70, ec_s98_71, ec_s98_72, ec_s98_73, ec_s98_76, ec_s98_77, ec_s98_78, ec_s98_79, ec_s98_82, ec_s98_85, ec_s98_86, ec_s98_89, ec_s98_90, ec_s98_91, ec_s98_93, ec_s98_95, ec_s98_98, ec_s98_99, ec_s98_100, ec_s98_103, ec_s98_104, ec_s98_107, ec_s98_108, ec_s98_111, ec_s98_114, ec_s98_115, ec_s98_118, ec_s98_121, ec_s98_122, ec_zn0, ec_zn1, ec_zn2, ec_zn3, ec_zn4, ec_zn5, ec_zn6, ec_zn7, ec_zn8, ec_zn9, ec_zn10, ec_zn12, ec_zn13, ec_zn14, ec_zn15, ec_zn16, ec_zn20, ec_zn30, ec_zn48, ec_zn99, ec_zn120, ec_zn127, ec_zn11, ec_zn31, ec_zn46, ec_zn57, ec_zn59, ec_zn63, ec_zn101, ec_zn107, ec_zn108, ec_zn110, ec_zn111, ec_zn115, ec_zn116, ec_zn119, ec_zn167, ec_zn185, ec_zn192, ec_zn215, ec_zn233, ec_zn699, ec_zn932, ec_zn999, ec_znF, ec_zneg, ec_zadd, ec_zsub, ec_zmul, ec_zdivO, ec_em, ec_zltO, ec_zeqO, ec_zeq0, ec_qt, ec_qf, if_pos, if_neg, Int.add_zero, ec_aft_v, ec_aft_n, ec_rwE, ec_rwN, ec_rwP, ec_rwK, ec_rwS, ec_w_shpI, ec_w_shpL, ec_w_shpA]
    rfl
  | succ r ih =>
    intro k d h C h0 hk
    obtain ⟨h1, a1, a2, a3⟩ := (ec_c87s C (u := k) (ec_rgs (by omega))).1 (if_pos (by omega))
    obtain ⟨h2, b1, b2, b3⟩ := ih (k + 1) (ed_mx d (ed_whv σ L k)) h1 a2 (by omega) (by omega)
    refine ⟨h2, ?_, b2, a3.trans b3⟩
    have hD := C.b
    rw [ec_s98_16]
    simp (disch := first | (simp only [ec_w_kI, ec_w_kL, ec_w_kA, ec_w_shpI, ec_w_shpL, ec_w_shpA, ec_isR_r, ec_01z, ec_01o, ec_01q, hD]; done) | omega | (simp only [ec_w_shpI, ec_w_shpL, ec_w_shpA, hD]; refine ec_zinO ?_; omega) | (refine ec_nzO ?_; omega)) only [ec_s98_0, ec_s98_3, ec_s98_4, ec_s98_7, ec_s98_10, ec_s98_13, ec_s98_14, ec_s98_15, ec_s98_17, ec_s98_19, ec_s98_22, ec_s98_23, ec_s98_24, ec_s98_25, ec_s98_28, ec_s98_31, ec_s98_32, ec_s98_35, ec_s98_39, ec_s98_40, ec_s98_43, ec_s98_44, ec_s98_45, ec_s98_46, ec_s98_49, ec_s98_52, ec_s98_54, ec_s98_57, ec_s98_58, ec_s98_59, ec_s98_60, ec_s98_63, ec_s98_66, ec_s98_67, ec_s98_70, ec_s98_71, ec_s98_72, ec_s98_73, ec_s98_76, ec_s98_77, ec_s98_78, ec_s98_79, ec_s98_82, ec_s98_85, ec_s98_86, ec_s98_89, ec_s98_90, ec_s98_91, ec_s98_93, ec_s98_95, ec_s98_98, ec_s98_99, ec_s98_100, ec_s98_103, ec_s98_104, ec_s98_107, ec_s98_108, ec_s98_111, ec_s98_114, ec_s98_115, ec_s98_118, ec_s98_121, ec_s98_122, ec_zn0, ec_zn1, ec_zn2, ec_zn3, ec_zn4, ec_zn5, ec_zn6, ec_zn7, ec_zn8, ec_zn9, ec_zn10, ec_zn12, ec_zn13, ec_zn14, ec_zn15, ec_zn16, ec_zn20, ec_zn30, ec_zn48, ec_zn99, ec_zn120, ec_zn127, ec_zn11, ec_zn31, ec_zn46, ec_zn57, ec_zn59, ec_zn63, ec_zn101, ec_zn107, ec_zn108, ec_zn110, ec_zn111, ec_zn115, ec_zn116, ec_zn119, ec_zn167, ec_zn185, ec_zn192, ec_zn215, ec_zn233, ec_zn699, ec_zn932, ec_zn999, ec_znF, ec_zneg, ec_zadd, ec_zsub, ec_zmul, ec_zdivO, ec_em, ec_zltO, ec_zeqO, ec_zeq0, ec_qt, ec_qf, if_pos, if_neg, Int.add_zero, ec_aft_v, ec_aft_n, ec_rwE, ec_rwN, ec_rwP, ec_rwK, ec_rwS, ec_w_shpI, ec_w_shpL, ec_w_shpA, hD, a1, ec_c102s, b1]
    rfl
theorem ec_c98r {h : ec_Hp} (C : ed_CL h σ n p L T) : ∀ (r : Nat) (k : Int) (d : Int64), 0 ≤ k → k + r = 16 →
    ec_om 98 92 [.ref 0, .long d, .double 0, .int (ec_i k)] [] h = some (.inl (some (.long (ed_mxs (ed_rsn σ) r k d))), h) := by
  have hD := C.b
  intro r
  induction r with
  | zero =>
    intro k d h0 hk
    have hk : k = 16 := by omega
    rw [ec_s98_92, hk]
    simp (disch := first | (simp only [ec_01z, ec_01o, ec_01q]; done) | omega | (refine ec_nzO ?_; omega)) only [ec_s98_0, ec_s98_3, ec_s98_4, ec_s98_7, ec_s98_10, ec_s98_13, ec_s98_14, ec_s98_15, ec_s98_17, ec_s98_19, ec_s98_22, ec_s98_23, ec_s98_24, ec_s98_25, ec_s98_28, ec_s98_31, ec_s98_32, ec_s98_35, ec_s98_39, ec_s98_40, ec_s98_43, ec_s98_44, ec_s98_45, ec_s98_46, ec_s98_49, ec_s98_52, ec_s98_54, ec_s98_57, ec_s98_58, ec_s98_59, ec_s98_60, ec_s98_63, ec_s98_66, ec_s98_67, ec_s98_70, ec_s98_71, ec_s98_72, ec_s98_73, ec_s98_76, ec_s98_77, ec_s98_78, ec_s98_79, ec_s98_82, ec_s98_85, ec_s98_86, ec_s98_89, ec_s98_90, ec_s98_91, ec_s98_93, ec_s98_95, ec_s98_98, ec_s98_99, ec_s98_100, ec_s98_103, ec_s98_104, ec_s98_107, ec_s98_108, ec_s98_111, ec_s98_114, ec_s98_115, ec_s98_118, ec_s98_121, ec_s98_122, ec_zn0, ec_zn1, ec_zn2, ec_zn3, ec_zn4, ec_zn5, ec_zn6, ec_zn7, ec_zn8, ec_zn9, ec_zn10, ec_zn12, ec_zn13, ec_zn14, ec_zn15, ec_zn16, ec_zn20, ec_zn30, ec_zn48, ec_zn99, ec_zn120, ec_zn127, ec_zn11, ec_zn31, ec_zn46, ec_zn57, ec_zn59, ec_zn63, ec_zn101, ec_zn107, ec_zn108, ec_zn110, ec_zn111, ec_zn115, ec_zn116, ec_zn119, ec_zn167, ec_zn185, ec_zn192, ec_zn215, ec_zn233, ec_zn699, ec_zn932, ec_zn999, ec_znF, ec_zneg, ec_zadd, ec_zsub, ec_zmul, ec_zdivO, ec_em, ec_zltO, ec_zeqO, ec_zeq0, ec_qt, ec_qf, if_pos, if_neg, Int.add_zero, ec_aft_v, ec_aft_n, ec_rwE, ec_rwN, ec_rwP, ec_rwK, ec_rwS, ec_w_shpI, ec_w_shpL, ec_w_shpA]
    rfl
  | succ r ih =>
    intro k d h0 hk
    have g := ec_c57s (T := 66) C.2.2.2.2.2.1.1.1 C.2.1.1 C.2.1.2.1 C.2.1.2.2 (a := k) (by omega)
    have e := ih (k + 1) (ed_mx d (ed_rsn σ k)) (by omega) (by omega)
    rw [ec_s98_92]
    simp (disch := first | (simp only [ec_w_kI, ec_w_kL, ec_w_kA, ec_w_shpI, ec_w_shpL, ec_w_shpA, ec_isR_r, ec_01z, ec_01o, ec_01q, hD]; done) | omega | (simp only [ec_w_shpI, ec_w_shpL, ec_w_shpA, hD]; refine ec_zinO ?_; omega) | (refine ec_nzO ?_; omega)) only [ec_s98_0, ec_s98_3, ec_s98_4, ec_s98_7, ec_s98_10, ec_s98_13, ec_s98_14, ec_s98_15, ec_s98_17, ec_s98_19, ec_s98_22, ec_s98_23, ec_s98_24, ec_s98_25, ec_s98_28, ec_s98_31, ec_s98_32, ec_s98_35, ec_s98_39, ec_s98_40, ec_s98_43, ec_s98_44, ec_s98_45, ec_s98_46, ec_s98_49, ec_s98_52, ec_s98_54, ec_s98_57, ec_s98_58, ec_s98_59, ec_s98_60, ec_s98_63, ec_s98_66, ec_s98_67, ec_s98_70, ec_s98_71, ec_s98_72, ec_s98_73, ec_s98_76, ec_s98_77, ec_s98_78, ec_s98_79, ec_s98_82, ec_s98_85, ec_s98_86, ec_s98_89, ec_s98_90, ec_s98_91, ec_s98_93, ec_s98_95, ec_s98_98, ec_s98_99, ec_s98_100, ec_s98_103, ec_s98_104, ec_s98_107, ec_s98_108, ec_s98_111, ec_s98_114, ec_s98_115, ec_s98_118, ec_s98_121, ec_s98_122, ec_zn0, ec_zn1, ec_zn2, ec_zn3, ec_zn4, ec_zn5, ec_zn6, ec_zn7, ec_zn8, ec_zn9, ec_zn10, ec_zn12, ec_zn13, ec_zn14, ec_zn15, ec_zn16, ec_zn20, ec_zn30, ec_zn48, ec_zn99, ec_zn120, ec_zn127, ec_zn11, ec_zn31, ec_zn46, ec_zn57, ec_zn59, ec_zn63, ec_zn101, ec_zn107, ec_zn108, ec_zn110, ec_zn111, ec_zn115, ec_zn116, ec_zn119, ec_zn167, ec_zn185, ec_zn192, ec_zn215, ec_zn233, ec_zn699, ec_zn932, ec_zn999, ec_znF, ec_zneg, ec_zadd, ec_zsub, ec_zmul, ec_zdivO, ec_em, ec_zltO, ec_zeqO, ec_zeq0, ec_qt, ec_qf, if_pos, if_neg, Int.add_zero, ec_aft_v, ec_aft_n, ec_rwE, ec_rwN, ec_rwP, ec_rwK, ec_rwS, ec_w_shpI, ec_w_shpL, ec_w_shpA, hD, g, ec_c102s, e]
    rfl
theorem ec_c98s {h : ec_Hp} (C : ed_CL h σ n p L T) : ∃ h', ec_om 98 0 [.ref 0, .double 0, .double 0, .double 0] [] h = some (.inl (some (.long (ed_dig σ n L))), h') ∧ ed_CL h' σ n p L T ∧ ec_fg ed_Fc h h' := by
  have w1 := C.2.1.2.2.1
  obtain ⟨-, -, nx, n1, n2, n3, n4, -⟩ := id C.2.2.2.1
  obtain ⟨h1, a1, a2, a3⟩ := ec_c98w 14 0 (ed_mx (Int32.toInt64 43332) n) h C (by omega) (by omega)
  unfold ed_dig
  generalize ed_mxs (ed_whv σ L) 14 0 (ed_mx (Int32.toInt64 43332) n) = X1 at a1 ⊢
  obtain ⟨h2, b1, b2, b3⟩ := ec_c99s a2 (d := X1)
  generalize ed_mxy σ (σ 1).toNat 0 X1 = X2 at b1 ⊢
  have R := b2.2.1.2.1
  have D := b2.2.1.1
  have c1 := ec_c101s (x := X2) (F := fun k => σ (107 + k)) D.2.2.1 (by decide) (by omega) R.2.1.1 (fun a b ha hb => by
    rw [R.dv (n := a) (j := b) ha (by omega) (by omega)]
    show ec_i (σ (107 + 6 * a + b)) = ec_i (σ (107 + (((6 : Nat) : Int) * a + b)))
    rw [show 107 + 6 * a + b = 107 + (((6 : Nat) : Int) * a + b) by omega])
  rw [show 6 * (σ 2).toNat = (6 * σ 2).toNat by omega] at c1
  generalize ed_mxs (fun k => σ (107 + k)) (6 * σ 2).toNat 0 X2 = X3 at c1 ⊢
  have c2 := ec_c101s (x := X3) (F := fun k => ed_tov σ (167 + 3 * (k / 4)) (k % 4)) D.2.2.2.1 (by decide) (by omega) R.2.1.2.1 (fun a b ha hb => by
    rw [R.tov (d := a) (u := b) ha (by omega)]
    show _ = ec_i (ed_tov σ (167 + 3 * ((((4 : Nat) : Int) * a + b) / 4)) ((((4 : Nat) : Int) * a + b) % 4))
    rw [show (((4 : Nat) : Int) * a + b) / 4 = a by omega, show (((4 : Nat) : Int) * a + b) % 4 = b by omega])
  rw [show 4 * (σ 3).toNat = (4 * σ 3).toNat by omega] at c2
  generalize ed_mxs (fun k => ed_tov σ (167 + 3 * (k / 4)) (k % 4)) (4 * σ 3).toNat 0 X3 = X4 at c2 ⊢
  obtain ⟨h3, d1, d2, d3⟩ := ec_c100s b2 (d := X4)
  generalize ed_mxm σ (σ 4).toNat 0 X4 = X5 at d1 ⊢
  have R3 := d2.2.1.2.1
  have D3 := d2.2.1.1
  have c3 := ec_c101s (x := X5) (F := fun k => ed_tov σ (215 + 3 * (k / 4)) (k % 4)) D3.2.2.2.2.2 (by decide) (by omega) R3.2.1.2.2.2 (fun a b ha hb => by
    rw [R3.pov (d := a) (u := b) ha (by omega)]
    show _ = ec_i (ed_tov σ (215 + 3 * ((((4 : Nat) : Int) * a + b) / 4)) ((((4 : Nat) : Int) * a + b) % 4))
    rw [show (((4 : Nat) : Int) * a + b) / 4 = a by omega, show (((4 : Nat) : Int) * a + b) % 4 = b by omega])
  rw [show 4 * (σ 5).toNat = (4 * σ 5).toNat by omega] at c3
  generalize ed_mxs (fun k => ed_tov σ (215 + 3 * (k / 4)) (k % 4)) (4 * σ 5).toNat 0 X5 = X6 at c3 ⊢
  have e1 := ec_c98r d2 16 0 X6 (by omega) (by omega)
  refine ⟨h3, ?_, d2, a3.trans (b3.trans d3)⟩
  have k6 : ec_i ((6 : Nat) : Int) = ec_i 6 := rfl
  have k4 : ec_i ((4 : Nat) : Int) = ec_i 4 := rfl
  rw [k6] at c1
  rw [k4] at c2 c3
  have hD := And.intro C.b (And.intro a2.b (And.intro b2.b d2.b))
  simp (disch := first | (simp only [ec_w_kI, ec_w_kL, ec_w_kA, ec_w_shpI, ec_w_shpL, ec_w_shpA, ec_isR_r, ec_01z, ec_01o, ec_01q, hD]; done) | omega | (simp only [ec_w_shpI, ec_w_shpL, ec_w_shpA, hD]; refine ec_zinO ?_; omega) | (refine ec_nzO ?_; omega)) only [ec_s98_0, ec_s98_3, ec_s98_4, ec_s98_7, ec_s98_10, ec_s98_13, ec_s98_14, ec_s98_15, ec_s98_17, ec_s98_19, ec_s98_22, ec_s98_23, ec_s98_24, ec_s98_25, ec_s98_28, ec_s98_31, ec_s98_32, ec_s98_35, ec_s98_39, ec_s98_40, ec_s98_43, ec_s98_44, ec_s98_45, ec_s98_46, ec_s98_49, ec_s98_52, ec_s98_54, ec_s98_57, ec_s98_58, ec_s98_59, ec_s98_60, ec_s98_63, ec_s98_66, ec_s98_67, ec_s98_70, ec_s98_71, ec_s98_72, ec_s98_73, ec_s98_76, ec_s98_77, ec_s98_78, ec_s98_79, ec_s98_82, ec_s98_85, ec_s98_86, ec_s98_89, ec_s98_90, ec_s98_91, ec_s98_93, ec_s98_95, ec_s98_98, ec_s98_99, ec_s98_100, ec_s98_103, ec_s98_104, ec_s98_107, ec_s98_108, ec_s98_111, ec_s98_114, ec_s98_115, ec_s98_118, ec_s98_121, ec_s98_122, ec_zn0, ec_zn1, ec_zn2, ec_zn3, ec_zn4, ec_zn5, ec_zn6, ec_zn7, ec_zn8, ec_zn9, ec_zn10, ec_zn12, ec_zn13, ec_zn14, ec_zn15, ec_zn16, ec_zn20, ec_zn30, ec_zn48, ec_zn99, ec_zn120, ec_zn127, ec_zn11, ec_zn31, ec_zn46, ec_zn57, ec_zn59, ec_zn63, ec_zn101, ec_zn107, ec_zn108, ec_zn110, ec_zn111, ec_zn115, ec_zn116, ec_zn119, ec_zn167, ec_zn185, ec_zn192, ec_zn215, ec_zn233, ec_zn699, ec_zn932, ec_zn999, ec_znF, ec_zneg, ec_zadd, ec_zsub, ec_zmul, ec_zdivO, ec_em, ec_zltO, ec_zeqO, ec_zeq0, ec_qt, ec_qf, if_pos, if_neg, Int.add_zero, ec_aft_v, ec_aft_n, ec_rwE, ec_rwN, ec_rwP, ec_rwK, ec_rwS, ec_w_shpI, ec_w_shpL, ec_w_shpA, hD, n4, ec_c102s, a1]
  rw [ec_s98_38]
  simp (disch := first | (simp only [ec_w_kI, ec_w_kL, ec_w_kA, ec_w_shpI, ec_w_shpL, ec_w_shpA, ec_isR_r, ec_01z, ec_01o, ec_01q, hD]; done) | omega | (simp only [ec_w_shpI, ec_w_shpL, ec_w_shpA, hD]; refine ec_zinO ?_; omega) | (refine ec_nzO ?_; omega)) only [ec_s98_0, ec_s98_3, ec_s98_4, ec_s98_7, ec_s98_10, ec_s98_13, ec_s98_14, ec_s98_15, ec_s98_17, ec_s98_19, ec_s98_22, ec_s98_23, ec_s98_24, ec_s98_25, ec_s98_28, ec_s98_31, ec_s98_32, ec_s98_35, ec_s98_39, ec_s98_40, ec_s98_43, ec_s98_44, ec_s98_45, ec_s98_46, ec_s98_49, ec_s98_52, ec_s98_54, ec_s98_57, ec_s98_58, ec_s98_59, ec_s98_60, ec_s98_63, ec_s98_66, ec_s98_67, ec_s98_70, ec_s98_71, ec_s98_72, ec_s98_73, ec_s98_76, ec_s98_77, ec_s98_78, ec_s98_79, ec_s98_82, ec_s98_85, ec_s98_86, ec_s98_89, ec_s98_90, ec_s98_91, ec_s98_93, ec_s98_95, ec_s98_98, ec_s98_99, ec_s98_100, ec_s98_103, ec_s98_104, ec_s98_107, ec_s98_108, ec_s98_111, ec_s98_114, ec_s98_115, ec_s98_118, ec_s98_121, ec_s98_122, ec_zn0, ec_zn1, ec_zn2, ec_zn3, ec_zn4, ec_zn5, ec_zn6, ec_zn7, ec_zn8, ec_zn9, ec_zn10, ec_zn12, ec_zn13, ec_zn14, ec_zn15, ec_zn16, ec_zn20, ec_zn30, ec_zn48, ec_zn99, ec_zn120, ec_zn127, ec_zn11, ec_zn31, ec_zn46, ec_zn57, ec_zn59, ec_zn63, ec_zn101, ec_zn107, ec_zn108, ec_zn110, ec_zn111, ec_zn115, ec_zn116, ec_zn119, ec_zn167, ec_zn185, ec_zn192, ec_zn215, ec_zn233, ec_zn699, ec_zn932, ec_zn999, ec_znF, ec_zneg, ec_zadd, ec_zsub, ec_zmul, ec_zdivO, ec_em, ec_zltO, ec_zeqO, ec_zeq0, ec_qt, ec_qf, if_pos, if_neg, Int.add_zero, ec_aft_v, ec_aft_n, ec_rwE, ec_rwN, ec_rwP, ec_rwK, ec_rwS, ec_w_shpI, ec_w_shpL, ec_w_shpA, hD, b1, c1, c2, d1, c3, e1]
end EDS
