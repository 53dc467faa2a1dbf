/-! The reference's digest. -/
def ed_mx (x : Int64) (v : Int) : Int64 := (ec_i 31).toInt64 * x + (ec_i v).toInt64
def ed_mxs (f : Int → Int) : Nat → Int → Int64 → Int64
  | 0, _, x => x
  | n + 1, i, x => ed_mxs f n (i + 1) (ed_mx x (f i))
theorem ed_mxs_1 {f : Int → Int} : ∀ (n : Nat) (i : Int) (x : Int64), ed_mxs f (n + 1) i x = ed_mx (ed_mxs f n i x) (f (i + n))
  | 0, i, x => by
    show ed_mx x (f i) = ed_mx x (f (i + ((0 : Nat) : Int)))
    rw [show i + ((0 : Nat) : Int) = i by omega]
  | n + 1, i, x => by
    have := ed_mxs_1 (f := f) n (i + 1) (ed_mx x (f i))
    rw [show i + 1 + (n : Int) = i + ((n + 1 : Nat) : Int) by omega] at this
    exact this
noncomputable def ed_mxx (σ : ec_Sg) (y : Int) : Nat → Int → Int64 → Int64
  | 0, _, h => h
  | n + 1, x, h => ed_mxx σ y n (x + 1) (ed_mxs (ed_cel σ (8 * y + x)) 4 0 (ed_mx (ed_mx h (ec_ba σ (8 * y + x) 1)) (ec_ba σ (8 * y + x) 2)))
noncomputable def ed_mxy (σ : ec_Sg) : Nat → Int → Int64 → Int64
  | 0, _, h => h
  | n + 1, y, h => ed_mxy σ n (y + 1) (ed_mxx σ y (σ 0).toNat 0 h)
noncomputable def ed_mxm (σ : ec_Sg) : Nat → Int → Int64 → Int64
  | 0, _, h => h
  | n + 1, m, h => ed_mxm σ n (m + 1) (ed_mx (ed_mxs (ed_mov σ m) 8 0 h) (ed_nxs σ m))
/-- the hash of a state -/
noncomputable def ed_dig (σ : ec_Sg) (n L : Int) : Int64 :=
  ed_mxs (ed_rsn σ) 16 0 (ed_mxs (fun k => ed_tov σ (215 + 3 * (k / 4)) (k % 4)) (4 * σ 5).toNat 0 (ed_mxm σ (σ 4).toNat 0 (ed_mxs (fun k => ed_tov σ (167 + 3 * (k / 4)) (k % 4)) (4 * σ 3).toNat 0 (ed_mxs (fun k => σ (107 + k)) (6 * σ 2).toNat 0 (ed_mxy σ (σ 1).toNat 0 (ed_mxs (ed_whv σ L) 14 0 (ed_mx (Int32.toInt64 43332) n)))))))
theorem ed_LL {h : ec_Hp} {p k : Nat} {x y : Int64} : ec_setL (ec_setL h p k x) p k y = ec_setL h p k y := by
  unfold ec_setL ec_upL
  refine Prod.ext rfl (Prod.ext rfl (Prod.ext ?_ rfl))
  funext q j
  show (if q = p ∧ j = k then y else if q = p ∧ j = k then x else h.2.2.1 q j) = if q = p ∧ j = k then y else h.2.2.1 q j
  split <;> rfl
theorem ed_rl {h : ec_Hp} {p k : Nat} {x : Int64} : (ec_setL h p k x).2.2.1 p k = x := if_pos ⟨rfl, rfl⟩
abbrev ed_L (h : ec_Hp) (x : Int64) : ec_Hp := ec_setL h 72 18 x
theorem ed_bas {S : Nat → Nat → Prop} {h h2 : ec_Hp} {x : Int64} (a : ec_fg S (ec_setL h 72 18 x) h2) : ∃ h', h2 = ec_setL h' 72 18 x ∧ ec_fg S h h' := by
  refine ⟨(h2.1, h2.2.1, h.2.2), ?_, ⟨a.1.1, rfl⟩, a.2⟩
  have e := a.1.2
  show h2 = (h2.1, h2.2.1, (ec_setL h 72 18 x).2.2)
  rw [← e]
theorem ec_c197 {h : ec_Hp} (hD : ec_MD h) {x : Int64} {v : Int} : ec_om 197 0 [.ref 72, .int (ec_i v)] [] (ec_setL h 72 18 x) = some (.inl none, ec_setL h 72 18 (ed_mx x v)) := by
  have r : (ec_setL h 72 18 x).2.2.1 72 18 = x := ed_rl
  unfold ec_MD at hD
  unfold ed_mx
  simp (disch := first | (simp only [ec_w_kI, ec_w_kL, ec_w_kA, ec_w_shpI, ec_w_shpL, ec_w_shpA, ec_isR_r, ec_01z, ec_01o, ec_01q, hD]; done) | omega | (simp only [ec_w_shpI, ec_w_shpL, ec_w_shpA, hD]; refine ec_zinO ?_; omega) | (refine ec_nzO ?_; omega)) only [ec_s197_0, ec_s197_1, ec_s197_4, ec_s197_5, ec_s197_8, ec_s197_9, ec_s197_10, ec_s197_11, ec_s197_12, ec_s197_15, ec_zn0, ec_zn1, ec_zn2, ec_zn3, ec_zn4, ec_zn5, ec_zn6, ec_zn7, ec_zn8, ec_zn9, ec_zn10, ec_zn12, ec_zn13, ec_zn14, ec_zn15, ec_zn16, ec_zn20, ec_zn30, ec_zn48, ec_zn99, ec_zn120, ec_zn127, ec_zn11, ec_zn31, ec_zn46, ec_zn57, ec_zn59, ec_zn63, ec_zn101, ec_zn107, ec_zn108, ec_zn110, ec_zn111, ec_zn115, ec_zn116, ec_zn119, ec_zn167, ec_zn185, ec_zn192, ec_zn215, ec_zn233, ec_zn699, ec_zn932, ec_zn999, ec_znF, ec_zneg, ec_zadd, ec_zsub, ec_zmul, ec_zdivO, ec_em, ec_zltO, ec_zeqO, ec_zeq0, ec_qt, ec_qf, if_pos, if_neg, Int.add_zero, ec_aft_v, ec_aft_n, ec_rwE, ec_rwN, ec_rwP, ec_rwK, ec_rwS, ec_w_shpI, ec_w_shpL, ec_w_shpA, hD, r, ed_LL]
theorem ed_MLl {h : ec_Hp} {σ : ec_Sg} {n : Int} {p : Int → ec_Sg} {L : Int} {T : Int → Int} (M : ed_ML h σ n p L T) {x : Int64} : ed_ML (ec_setL h 72 18 x) σ n p L T := ⟨M.1.of rfl, M.2.1, M.2.2.1, M.2.2.2.1, M.2.2.2.2⟩
section EDG
variable {h : ec_Hp} {σ : ec_Sg} {n : Int} {p : Int → ec_Sg} {L : Int} {T : Int → Int}
theorem ec_c199w : ∀ (r : Nat) (k : Int) (x : Int64) (h : ec_Hp), ed_ML h σ n p L T → 0 ≤ k → k + r = 14 → ∃ h', ec_om 199 22 [.ref 72, .int (ec_i k), .double 0] [] (ec_setL h 72 18 x) = ec_om 199 43 [.ref 72, .int (ec_i 14), .double 0] [] (ec_setL h' 72 18 (ed_mxs (ed_whv σ L) r k x)) ∧ ec_fg ed_78 h h' := by
  intro r
  induction r with
  | zero =>
    intro k x h M h0 hk
    have hk : k = 14 := by omega
    subst hk
    refine ⟨h, ?_, ec_fg.refl⟩
    rw [ec_s199_22]
    simp (disch := first | (simp only [ec_01z, ec_01o, ec_01q]; done) | omega | (refine ec_nzO ?_; omega)) only [ec_s199_0, ec_s199_1, ec_s199_2, ec_s199_5, ec_s199_6, ec_s199_9, ec_s199_12, ec_s199_13, ec_s199_14, ec_s199_17, ec_s199_20, ec_s199_21, ec_s199_23, ec_s199_25, ec_s199_28, ec_s199_29, ec_s199_30, ec_s199_31, ec_s199_34, ec_s199_37, ec_s199_40, ec_s199_44, ec_s199_47, ec_s199_48, ec_s199_51, ec_s199_52, ec_s199_53, ec_s199_54, ec_s199_56, ec_s199_57, ec_s199_60, ec_s199_61, ec_s199_62, ec_s199_63, ec_s199_66, ec_s199_67, ec_s199_68, ec_s199_71, ec_s199_73, ec_s199_74, ec_s199_75, ec_s199_76, ec_s199_79, ec_s199_82, ec_s199_85, ec_s199_86, ec_s199_87, ec_s199_88, ec_s199_89, ec_s199_90, ec_s199_93, ec_s199_94, ec_s199_95, ec_s199_96, ec_s199_99, ec_s199_100, ec_s199_101, ec_s199_102, ec_s199_103, ec_s199_104, ec_s199_105, ec_s199_106, ec_s199_107, ec_s199_110, ec_s199_113, ec_s199_116, ec_s199_119, ec_s199_120, ec_s199_121, ec_s199_122, ec_s199_123, ec_s199_126, ec_s199_127, ec_s199_128, ec_s199_131, ec_s199_132, ec_s199_133, ec_s199_134, ec_s199_136, ec_s199_139, ec_s199_140, ec_s199_141, ec_s199_142, ec_s199_143, ec_s199_146, ec_s199_149, ec_s199_152, ec_s199_155, ec_s199_156, ec_s199_157, ec_s199_158, ec_s199_161, ec_s199_164, ec_s199_167, ec_s199_170, ec_s199_171, ec_s199_172, ec_s199_173, ec_s199_174, ec_s199_175, ec_s199_178, ec_s199_179, ec_s199_180, ec_s199_181, ec_s199_184, ec_s199_185, ec_s199_186, ec_s199_187, ec_s199_188, ec_s199_189, ec_s199_190, ec_s199_191, ec_s199_192, ec_s199_195, ec_s199_198, ec_s199_201, ec_s199_204, ec_s199_205, ec_s199_206, ec_s199_207, ec_s199_209, ec_s199_212, ec_s199_213, ec_s199_214, ec_s199_215, ec_s199_218, ec_s199_221, ec_s199_224, ec_s199_227, ec_s199_228, ec_s199_231, ec_zn0, ec_zn1, ec_zn2, ec_zn3, ec_zn4, ec_zn5, ec_zn6, ec_zn7, ec_zn8, ec_zn9, ec_zn10, ec_zn12, ec_zn13, ec_zn14, ec_zn15, ec_zn16, ec_zn20, ec_zn30, ec_zn48, ec_zn99, ec_zn120, ec_zn127, ec_zn11, ec_zn31, ec_zn46, ec_zn57, ec_zn59, ec_zn63, ec_zn101, ec_zn107, ec_zn108, ec_zn110, ec_zn111, ec_zn115, ec_zn116, ec_zn119, ec_zn167, ec_zn185, ec_zn192, ec_zn215, ec_zn233, ec_zn699, ec_zn932, ec_zn999, ec_znF, ec_zneg, ec_zadd, ec_zsub, ec_zmul, ec_zdivO, ec_em, ec_zltO, ec_zeqO, ec_zeq0, ec_qt, ec_qf, if_pos, if_neg, Int.add_zero, ec_aft_v, ec_aft_n, ec_rwE, ec_rwN, ec_rwP, ec_rwK, ec_rwS, ec_w_shpI, ec_w_shpL, ec_w_shpA]
    rfl
  | succ r ih =>
    intro k x h M h0 hk
    obtain ⟨h1, a1, a2⟩ := ec_c178 (ed_MLl M (x := x)) (u := k) (by omega)
    obtain ⟨h2, rfl, a3⟩ := ed_bas a2
    have M2 := M.l a3
    obtain ⟨h3, b1, b2⟩ := ih (k + 1) (ed_mx x (ed_whv σ L k)) h2 M2 (by omega) (by omega)
    refine ⟨h3, ?_, a3.trans b2⟩
    have g1 := fun v => ec_c197 M2.1 (x := x) (v := v)
    have hD := M.1
    have hD2 := M2.1
    unfold ec_MD at hD hD2
    have hD := And.intro hD hD2
    rw [ec_s199_22]
    simp (disch := first | (simp only [ec_w_kI, ec_w_kL, ec_w_kA, ec_w_shpI, ec_w_shpL, ec_w_shpA, ec_isR_r, ec_01z, ec_01o, ec_01q, hD]; done) | omega | (simp only [ec_w_shpI, ec_w_shpL, ec_w_shpA, hD]; refine ec_zinO ?_; omega) | (refine ec_nzO ?_; omega)) only [ec_s199_0, ec_s199_1, ec_s199_2, ec_s199_5, ec_s199_6, ec_s199_9, ec_s199_12, ec_s199_13, ec_s199_14, ec_s199_17, ec_s199_20, ec_s199_21, ec_s199_23, ec_s199_25, ec_s199_28, ec_s199_29, ec_s199_30, ec_s199_31, ec_s199_34, ec_s199_37, ec_s199_40, ec_s199_44, ec_s199_47, ec_s199_48, ec_s199_51, ec_s199_52, ec_s199_53, ec_s199_54, ec_s199_56, ec_s199_57, ec_s199_60, ec_s199_61, ec_s199_62, ec_s199_63, ec_s199_66, ec_s199_67, ec_s199_68, ec_s199_71, ec_s199_73, ec_s199_74, ec_s199_75, ec_s199_76, ec_s199_79, ec_s199_82, ec_s199_85, ec_s199_86, ec_s199_87, ec_s199_88, ec_s199_89, ec_s199_90, ec_s199_93, ec_s199_94, ec_s199_95, ec_s199_96, ec_s199_99, ec_s199_100, ec_s199_101, ec_s199_102, ec_s199_103, ec_s199_104, ec_s199_105, ec_s199_106, ec_s199_107, ec_s199_110, ec_s199_113, ec_s199_116, ec_s199_119, ec_s199_120, ec_s199_121, ec_s199_122, ec_s199_123, ec_s199_126, ec_s199_127, ec_s199_128, ec_s199_131, ec_s199_132, ec_s199_133, ec_s199_134, ec_s199_136, ec_s199_139, ec_s199_140, ec_s199_141, ec_s199_142, ec_s199_143, ec_s199_146, ec_s199_149, ec_s199_152, ec_s199_155, ec_s199_156, ec_s199_157, ec_s199_158, ec_s199_161, ec_s199_164, ec_s199_167, ec_s199_170, ec_s199_171, ec_s199_172, ec_s199_173, ec_s199_174, ec_s199_175, ec_s199_178, ec_s199_179, ec_s199_180, ec_s199_181, ec_s199_184, ec_s199_185, ec_s199_186, ec_s199_187, ec_s199_188, ec_s199_189, ec_s199_190, ec_s199_191, ec_s199_192, ec_s199_195, ec_s199_198, ec_s199_201, ec_s199_204, ec_s199_205, ec_s199_206, ec_s199_207, ec_s199_209, ec_s199_212, ec_s199_213, ec_s199_214, ec_s199_215, ec_s199_218, ec_s199_221, ec_s199_224, ec_s199_227, ec_s199_228, ec_s199_231, ec_zn0, ec_zn1, ec_zn2, ec_zn3, ec_zn4, ec_zn5, ec_zn6, ec_zn7, ec_zn8, ec_zn9, ec_zn10, ec_zn12, ec_zn13, ec_zn14, ec_zn15, ec_zn16, ec_zn20, ec_zn30, ec_zn48, ec_zn99, ec_zn120, ec_zn127, ec_zn11, ec_zn31, ec_zn46, ec_zn57, ec_zn59, ec_zn63, ec_zn101, ec_zn107, ec_zn108, ec_zn110, ec_zn111, ec_zn115, ec_zn116, ec_zn119, ec_zn167, ec_zn185, ec_zn192, ec_zn215, ec_zn233, ec_zn699, ec_zn932, ec_zn999, ec_znF, ec_zneg, ec_zadd, ec_zsub, ec_zmul, ec_zdivO, ec_em, ec_zltO, ec_zeqO, ec_zeq0, ec_qt, ec_qf, if_pos, if_neg, Int.add_zero, ec_aft_v, ec_aft_n, ec_rwE, ec_rwN, ec_rwP, ec_rwK, ec_rwS, ec_w_shpI, ec_w_shpL, ec_w_shpA, hD, a1, g1, b1]
    rfl
theorem ec_c198c (M : ed_ML h σ n p L T) (hL : ed_Ar h 78 48 (fun z => ed_q (ed_lit σ z))) {y x : Int} (hc : ed_qc σ x y) : ∀ (r : Nat) (k : Int) (d : Int64), 0 ≤ k → k + r = 4 → ec_om 198 56 [.ref 72, .int (ec_i y), .int (ec_i x), .int (ec_i k)] [] (ec_setL h 72 18 d) = ec_om 198 82 [.ref 72, .int (ec_i y), .int (ec_i x), .int (ec_i 4)] [] (ec_setL h 72 18 (ed_mxs (ed_cel σ (8 * y + x)) r k d)) := by
  intro r
  induction r with
  | zero =>
    intro k d h0 hk
    have hk : k = 4 := by omega
    subst hk
    rw [ec_s198_56]
    simp (disch := first | (simp only [ec_01z, ec_01o, ec_01q]; done) | omega | (refine ec_nzO ?_; omega)) only [ec_s198_0, ec_s198_1, ec_s198_3, ec_s198_4, ec_s198_7, ec_s198_8, ec_s198_9, ec_s198_12, ec_s198_13, ec_s198_15, ec_s198_16, ec_s198_19, ec_s198_20, ec_s198_21, ec_s198_24, ec_s198_25, ec_s198_26, ec_s198_28, ec_s198_29, ec_s198_30, ec_s198_31, ec_s198_32, ec_s198_33, ec_s198_36, ec_s198_39, ec_s198_40, ec_s198_41, ec_s198_43, ec_s198_44, ec_s198_45, ec_s198_46, ec_s198_47, ec_s198_48, ec_s198_51, ec_s198_54, ec_s198_55, ec_s198_57, ec_s198_58, ec_s198_61, ec_s198_62, ec_s198_63, ec_s198_65, ec_s198_66, ec_s198_67, ec_s198_68, ec_s198_69, ec_s198_70, ec_s198_73, ec_s198_76, ec_s198_79, ec_s198_85, ec_s198_88, ec_s198_91, ec_s198_94, ec_zn0, ec_zn1, ec_zn2, ec_zn3, ec_zn4, ec_zn5, ec_zn6, ec_zn7, ec_zn8, ec_zn9, ec_zn10, ec_zn12, ec_zn13, ec_zn14, ec_zn15, ec_zn16, ec_zn20, ec_zn30, ec_zn48, ec_zn99, ec_zn120, ec_zn127, ec_zn11, ec_zn31, ec_zn46, ec_zn57, ec_zn59, ec_zn63, ec_zn101, ec_zn107, ec_zn108, ec_zn110, ec_zn111, ec_zn115, ec_zn116, ec_zn119, ec_zn167, ec_zn185, ec_zn192, ec_zn215, ec_zn233, ec_zn699, ec_zn932, ec_zn999, ec_znF, ec_zneg, ec_zadd, ec_zsub, ec_zmul, ec_zdivO, ec_em, ec_zltO, ec_zeqO, ec_zeq0, ec_qt, ec_qf, if_pos, if_neg, Int.add_zero, ec_aft_v, ec_aft_n, ec_rwE, ec_rwN, ec_rwP, ec_rwK, ec_rwS, ec_w_shpI, ec_w_shpL, ec_w_shpA]
    rfl
  | succ r ih =>
    intro k d h0 hk
    have zi := ed_qc_in M.2.2.1 hc
    have g2 := ec_c167 (h := ec_setL h 72 18 d) (M.1.of rfl) M.2.1 M.2.2.1 zi (w := k) (by omega) hL
    have g1 := fun v => ec_c197 M.1 (x := d) (v := v)
    have e1 := ih (k + 1) (ed_mx d (ed_cel σ (8 * y + x) k)) (by omega) (by omega)
    have hD := M.1
    unfold ec_MD at hD
    rw [ec_s198_56]
    simp (disch := first | (simp only [ec_w_kI, ec_w_kL, ec_w_kA, ec_w_shpI, ec_w_shpL, ec_w_shpA, ec_isR_r, ec_01z, ec_01o, ec_01q, hD]; done) | omega | (simp only [ec_w_shpI, ec_w_shpL, ec_w_shpA, hD]; refine ec_zinO ?_; omega) | (refine ec_nzO ?_; omega)) only [ec_s198_0, ec_s198_1, ec_s198_3, ec_s198_4, ec_s198_7, ec_s198_8, ec_s198_9, ec_s198_12, ec_s198_13, ec_s198_15, ec_s198_16, ec_s198_19, ec_s198_20, ec_s198_21, ec_s198_24, ec_s198_25, ec_s198_26, ec_s198_28, ec_s198_29, ec_s198_30, ec_s198_31, ec_s198_32, ec_s198_33, ec_s198_36, ec_s198_39, ec_s198_40, ec_s198_41, ec_s198_43, ec_s198_44, ec_s198_45, ec_s198_46, ec_s198_47, ec_s198_48, ec_s198_51, ec_s198_54, ec_s198_55, ec_s198_57, ec_s198_58, ec_s198_61, ec_s198_62, ec_s198_63, ec_s198_65, ec_s198_66, ec_s198_67, ec_s198_68, ec_s198_69, ec_s198_70, ec_s198_73, ec_s198_76, ec_s198_79, ec_s198_85, ec_s198_88, ec_s198_91, ec_s198_94, ec_zn0, ec_zn1, ec_zn2, ec_zn3, ec_zn4, ec_zn5, ec_zn6, ec_zn7, ec_zn8, ec_zn9, ec_zn10, ec_zn12, ec_zn13, ec_zn14, ec_zn15, ec_zn16, ec_zn20, ec_zn30, ec_zn48, ec_zn99, ec_zn120, ec_zn127, ec_zn11, ec_zn31, ec_zn46, ec_zn57, ec_zn59, ec_zn63, ec_zn101, ec_zn107, ec_zn108, ec_zn110, ec_zn111, ec_zn115, ec_zn116, ec_zn119, ec_zn167, ec_zn185, ec_zn192, ec_zn215, ec_zn233, ec_zn699, ec_zn932, ec_zn999, ec_znF, ec_zneg, ec_zadd, ec_zsub, ec_zmul, ec_zdivO, ec_em, ec_zltO, ec_zeqO, ec_zeq0, ec_qt, ec_qf, if_pos, if_neg, Int.add_zero, ec_aft_v, ec_aft_n, ec_rwE, ec_rwN, ec_rwP, ec_rwK, ec_rwS, ec_w_shpI, ec_w_shpL, ec_w_shpA, hD, g1, g2, e1]
    rfl
theorem ec_c198x (M : ed_ML h σ n p L T) (hL : ed_Ar h 78 48 (fun z => ed_q (ed_lit σ z))) {y : Int} (hy : 0 ≤ y ∧ y < σ 1) : ∀ (r : Nat) (x : Int) (d : Int64) (w3 : Value), 0 ≤ x → x + r = σ 0 → ∃ w3', ec_om 198 14 [.ref 72, .int (ec_i y), .int (ec_i x), w3] [] (ec_setL h 72 18 d) = ec_om 198 88 [.ref 72, .int (ec_i y), .int (ec_i (σ 0)), w3'] [] (ec_setL h 72 18 (ed_mxx σ y r x d)) := by
  intro r
  induction r with
  | zero =>
    intro x d w3 h0 hk
    have hk : x = σ 0 := by omega
    have w := M.2.2.1.1
    refine ⟨w3, ?_⟩
    have hD := M.1
    have hs := M.2.1
    unfold ec_MD at hD
    unfold ec_Ms at hs
    rw [ec_s198_14]
    simp (disch := first | (simp only [ec_w_kI, ec_w_kL, ec_w_kA, ec_w_shpI, ec_w_shpL, ec_w_shpA, ec_isR_r, ec_01z, ec_01o, ec_01q, hD]; done) | omega | (simp only [ec_w_shpI, ec_w_shpL, ec_w_shpA, hD]; refine ec_zinO ?_; omega) | (refine ec_nzO ?_; omega)) only [ec_s198_0, ec_s198_1, ec_s198_3, ec_s198_4, ec_s198_7, ec_s198_8, ec_s198_9, ec_s198_12, ec_s198_13, ec_s198_15, ec_s198_16, ec_s198_19, ec_s198_20, ec_s198_21, ec_s198_24, ec_s198_25, ec_s198_26, ec_s198_28, ec_s198_29, ec_s198_30, ec_s198_31, ec_s198_32, ec_s198_33, ec_s198_36, ec_s198_39, ec_s198_40, ec_s198_41, ec_s198_43, ec_s198_44, ec_s198_45, ec_s198_46, ec_s198_47, ec_s198_48, ec_s198_51, ec_s198_54, ec_s198_55, ec_s198_57, ec_s198_58, ec_s198_61, ec_s198_62, ec_s198_63, ec_s198_65, ec_s198_66, ec_s198_67, ec_s198_68, ec_s198_69, ec_s198_70, ec_s198_73, ec_s198_76, ec_s198_79, ec_s198_82, ec_s198_85, ec_s198_91, ec_s198_94, ec_zn0, ec_zn1, ec_zn2, ec_zn3, ec_zn4, ec_zn5, ec_zn6, ec_zn7, ec_zn8, ec_zn9, ec_zn10, ec_zn12, ec_zn13, ec_zn14, ec_zn15, ec_zn16, ec_zn20, ec_zn30, ec_zn48, ec_zn99, ec_zn120, ec_zn127, ec_zn11, ec_zn31, ec_zn46, ec_zn57, ec_zn59, ec_zn63, ec_zn101, ec_zn107, ec_zn108, ec_zn110, ec_zn111, ec_zn115, ec_zn116, ec_zn119, ec_zn167, ec_zn185, ec_zn192, ec_zn215, ec_zn233, ec_zn699, ec_zn932, ec_zn999, ec_znF, ec_zneg, ec_zadd, ec_zsub, ec_zmul, ec_zdivO, ec_em, ec_zltO, ec_zeqO, ec_zeq0, ec_qt, ec_qf, if_pos, if_neg, Int.add_zero, ec_aft_v, ec_aft_n, ec_rwE, ec_rwN, ec_rwP, ec_rwK, ec_rwS, ec_w_shpI, ec_w_shpL, ec_w_shpA, hD, hs, ec_w_iL]
    rw [hk]
    rfl
  | succ r ih =>
    intro x d w3 h0 hk
    have w := M.2.2.1.1
    have hc : ed_qc σ x y := ⟨by omega, hy⟩
    have zi := (ed_qc_in M.2.2.1 hc).1
    obtain ⟨w3', e1⟩ := ih (x + 1) (ed_mxs (ed_cel σ (8 * y + x)) 4 0 (ed_mx (ed_mx d (ec_ba σ (8 * y + x) 1)) (ec_ba σ (8 * y + x) 2))) (.int (ec_i 4)) (by omega) (by omega)
    refine ⟨w3', ?_⟩
    have e2 := ec_c198c M hL hc 4 0 (ed_mx (ed_mx d (ec_ba σ (8 * y + x) 1)) (ec_ba σ (8 * y + x) 2)) (by omega) (by omega)
    have g1 := fun d v => ec_c197 M.1 (x := d) (v := v)
    have g3 := fun d => ec_c129 (h := ec_setL h 72 18 d) (M.1.of rfl) M.2.1 M.2.2.1 (z := 8 * y + x) (d := 1) zi (by omega)
    have g4 := fun d => ec_c129 (h := ec_setL h 72 18 d) (M.1.of rfl) M.2.1 M.2.2.1 (z := 8 * y + x) (d := 2) zi (by omega)
    have hD := M.1
    have hs := M.2.1
    unfold ec_MD at hD
    unfold ec_Ms at hs
    rw [ec_s198_14]
    simp (disch := first | (simp only [ec_w_kI, ec_w_kL, ec_w_kA, ec_w_shpI, ec_w_shpL, ec_w_shpA, ec_isR_r, ec_01z, ec_01o, ec_01q, hD]; done) | omega | (simp only [ec_w_shpI, ec_w_shpL, ec_w_shpA, hD]; refine ec_zinO ?_; omega) | (refine ec_nzO ?_; omega)) only [ec_s198_0, ec_s198_1, ec_s198_3, ec_s198_4, ec_s198_7, ec_s198_8, ec_s198_9, ec_s198_12, ec_s198_13, ec_s198_15, ec_s198_16, ec_s198_19, ec_s198_20, ec_s198_21, ec_s198_24, ec_s198_25, ec_s198_26, ec_s198_28, ec_s198_29, ec_s198_30, ec_s198_31, ec_s198_32, ec_s198_33, ec_s198_36, ec_s198_39, ec_s198_40, ec_s198_41, ec_s198_43, ec_s198_44, ec_s198_45, ec_s198_46, ec_s198_47, ec_s198_48, ec_s198_51, ec_s198_54, ec_s198_55, ec_s198_57, ec_s198_58, ec_s198_61, ec_s198_62, ec_s198_63, ec_s198_65, ec_s198_66, ec_s198_67, ec_s198_68, ec_s198_69, ec_s198_70, ec_s198_73, ec_s198_76, ec_s198_79, ec_s198_85, ec_s198_91, ec_s198_94, ec_zn0, ec_zn1, ec_zn2, ec_zn3, ec_zn4, ec_zn5, ec_zn6, ec_zn7, ec_zn8, ec_zn9, ec_zn10, ec_zn12, ec_zn13, ec_zn14, ec_zn15, ec_zn16, ec_zn20, ec_zn30, ec_zn48, ec_zn99, ec_zn120, ec_zn127, ec_zn11, ec_zn31, ec_zn46, ec_zn57, ec_zn59, ec_zn63, ec_zn101, ec_zn107, ec_zn108, ec_zn110, ec_zn111, ec_zn115, ec_zn116, ec_zn119, ec_zn167, ec_zn185, ec_zn192, ec_zn215, ec_zn233, ec_zn699, ec_zn932, ec_zn999, ec_znF, ec_zneg, ec_zadd, ec_zsub, ec_zmul, ec_zdivO, ec_em, ec_zltO, ec_zeqO, ec_zeq0, ec_qt, ec_qf, if_pos, if_neg, Int.add_zero, ec_aft_v, ec_aft_n, ec_rwE, ec_rwN, ec_rwP, ec_rwK, ec_rwS, ec_w_shpI, ec_w_shpL, ec_w_shpA, hD, hs, ec_w_iL, g1, g3, g4]
    rw [e2, ec_s198_82]
    simp (disch := first | (simp only [ec_w_kI, ec_w_kL, ec_w_kA, ec_w_shpI, ec_w_shpL, ec_w_shpA, ec_isR_r, ec_01z, ec_01o, ec_01q, hD]; done) | omega | (simp only [ec_w_shpI, ec_w_shpL, ec_w_shpA, hD]; refine ec_zinO ?_; omega) | (refine ec_nzO ?_; omega)) only [ec_s198_0, ec_s198_1, ec_s198_3, ec_s198_4, ec_s198_7, ec_s198_8, ec_s198_9, ec_s198_12, ec_s198_13, ec_s198_15, ec_s198_16, ec_s198_19, ec_s198_20, ec_s198_21, ec_s198_24, ec_s198_25, ec_s198_26, ec_s198_28, ec_s198_29, ec_s198_30, ec_s198_31, ec_s198_32, ec_s198_33, ec_s198_36, ec_s198_39, ec_s198_40, ec_s198_41, ec_s198_43, ec_s198_44, ec_s198_45, ec_s198_46, ec_s198_47, ec_s198_48, ec_s198_51, ec_s198_54, ec_s198_55, ec_s198_57, ec_s198_58, ec_s198_61, ec_s198_62, ec_s198_63, ec_s198_65, ec_s198_66, ec_s198_67, ec_s198_68, ec_s198_69, ec_s198_70, ec_s198_73, ec_s198_76, ec_s198_79, ec_s198_85, ec_s198_91, ec_s198_94, ec_zn0, ec_zn1, ec_zn2, ec_zn3, ec_zn4, ec_zn5, ec_zn6, ec_zn7, ec_zn8, ec_zn9, ec_zn10, ec_zn12, ec_zn13, ec_zn14, ec_zn15, ec_zn16, ec_zn20, ec_zn30, ec_zn48, ec_zn99, ec_zn120, ec_zn127, ec_zn11, ec_zn31, ec_zn46, ec_zn57, ec_zn59, ec_zn63, ec_zn101, ec_zn107, ec_zn108, ec_zn110, ec_zn111, ec_zn115, ec_zn116, ec_zn119, ec_zn167, ec_zn185, ec_zn192, ec_zn215, ec_zn233, ec_zn699, ec_zn932, ec_zn999, ec_znF, ec_zneg, ec_zadd, ec_zsub, ec_zmul, ec_zdivO, ec_em, ec_zltO, ec_zeqO, ec_zeq0, ec_qt, ec_qf, if_pos, if_neg, Int.add_zero, ec_aft_v, ec_aft_n, ec_rwE, ec_rwN, ec_rwP, ec_rwK, ec_rwS, ec_w_shpI, ec_w_shpL, ec_w_shpA, hD, e1]
    rfl
theorem ec_c198y (M : ed_ML h σ n p L T) (hL : ed_Ar h 78 48 (fun z => ed_q (ed_lit σ z))) : ∀ (r : Nat) (y : Int) (d : Int64) (w2 w3 : Value), 0 ≤ y → y + r = σ 1 → ec_om 198 2 [.ref 72, .int (ec_i y), w2, w3] [] (ec_setL h 72 18 d) = some (.inl none, ec_setL h 72 18 (ed_mxy σ r y d)) := by
  intro r
  induction r with
  | zero =>
    intro y d w2 w3 h0 hk
    have hk : y = σ 1 := by omega
    have w := M.2.2.1.1
    have hD := M.1
    have hs := M.2.1
    unfold ec_MD at hD
    unfold ec_Ms at hs
    rw [ec_s198_2]
    simp (disch := first | (simp only [ec_w_kI, ec_w_kL, ec_w_kA, ec_w_shpI, ec_w_shpL, ec_w_shpA, ec_isR_r, ec_01z, ec_01o, ec_01q, hD]; done) | omega | (simp only [ec_w_shpI, ec_w_shpL, ec_w_shpA, hD]; refine ec_zinO ?_; omega) | (refine ec_nzO ?_; omega)) only [ec_s198_0, ec_s198_1, ec_s198_3, ec_s198_4, ec_s198_7, ec_s198_8, ec_s198_9, ec_s198_12, ec_s198_13, ec_s198_15, ec_s198_16, ec_s198_19, ec_s198_20, ec_s198_21, ec_s198_24, ec_s198_25, ec_s198_26, ec_s198_28, ec_s198_29, ec_s198_30, ec_s198_31, ec_s198_32, ec_s198_33, ec_s198_36, ec_s198_39, ec_s198_40, ec_s198_41, ec_s198_43, ec_s198_44, ec_s198_45, ec_s198_46, ec_s198_47, ec_s198_48, ec_s198_51, ec_s198_54, ec_s198_55, ec_s198_57, ec_s198_58, ec_s198_61, ec_s198_62, ec_s198_63, ec_s198_65, ec_s198_66, ec_s198_67, ec_s198_68, ec_s198_69, ec_s198_70, ec_s198_73, ec_s198_76, ec_s198_79, ec_s198_82, ec_s198_85, ec_s198_88, ec_s198_91, ec_s198_94, ec_zn0, ec_zn1, ec_zn2, ec_zn3, ec_zn4, ec_zn5, ec_zn6, ec_zn7, ec_zn8, ec_zn9, ec_zn10, ec_zn12, ec_zn13, ec_zn14, ec_zn15, ec_zn16, ec_zn20, ec_zn30, ec_zn48, ec_zn99, ec_zn120, ec_zn127, ec_zn11, ec_zn31, ec_zn46, ec_zn57, ec_zn59, ec_zn63, ec_zn101, ec_zn107, ec_zn108, ec_zn110, ec_zn111, ec_zn115, ec_zn116, ec_zn119, ec_zn167, ec_zn185, ec_zn192, ec_zn215, ec_zn233, ec_zn699, ec_zn932, ec_zn999, ec_znF, ec_zneg, ec_zadd, ec_zsub, ec_zmul, ec_zdivO, ec_em, ec_zltO, ec_zeqO, ec_zeq0, ec_qt, ec_qf, if_pos, if_neg, Int.add_zero, ec_aft_v, ec_aft_n, ec_rwE, ec_rwN, ec_rwP, ec_rwK, ec_rwS, ec_w_shpI, ec_w_shpL, ec_w_shpA, hD, hs, ec_w_iL]
    rfl
  | succ r ih =>
    intro y d w2 w3 h0 hk
    have w := M.2.2.1.1
    obtain ⟨w3', e2⟩ := ec_c198x M hL (y := y) (by omega) (σ 0).toNat 0 d w3 (by omega) (by omega)
    have e1 := ih (y + 1) (ed_mxx σ y (σ 0).toNat 0 d) (.int (ec_i (σ 0))) w3' (by omega) (by omega)
    have hD := M.1
    have hs := M.2.1
    unfold ec_MD at hD
    unfold ec_Ms at hs
    rw [ec_s198_2]
    simp (disch := first | (simp only [ec_w_kI, ec_w_kL, ec_w_kA, ec_w_shpI, ec_w_shpL, ec_w_shpA, ec_isR_r, ec_01z, ec_01o, ec_01q, hD]; done) | omega | (simp only [ec_w_shpI, ec_w_shpL, ec_w_shpA, hD]; refine ec_zinO ?_; omega) | (refine ec_nzO ?_; omega)) only [ec_s198_0, ec_s198_1, ec_s198_3, ec_s198_4, ec_s198_7, ec_s198_8, ec_s198_9, ec_s198_12, ec_s198_13, ec_s198_15, ec_s198_16, ec_s198_19, ec_s198_20, ec_s198_21, ec_s198_24, ec_s198_25, ec_s198_26, ec_s198_28, ec_s198_29, ec_s198_30, ec_s198_31, ec_s198_32, ec_s198_33, ec_s198_36, ec_s198_39, ec_s198_40, ec_s198_41, ec_s198_43, ec_s198_44, ec_s198_45, ec_s198_46, ec_s198_47, ec_s198_48, ec_s198_51, ec_s198_54, ec_s198_55, ec_s198_57, ec_s198_58, ec_s198_61, ec_s198_62, ec_s198_63, ec_s198_65, ec_s198_66, ec_s198_67, ec_s198_68, ec_s198_69, ec_s198_70, ec_s198_73, ec_s198_76, ec_s198_79, ec_s198_82, ec_s198_85, ec_s198_91, ec_s198_94, ec_zn0, ec_zn1, ec_zn2, ec_zn3, ec_zn4, ec_zn5, ec_zn6, ec_zn7, ec_zn8, ec_zn9, ec_zn10, ec_zn12, ec_zn13, ec_zn14, ec_zn15, ec_zn16, ec_zn20, ec_zn30, ec_zn48, ec_zn99, ec_zn120, ec_zn127, ec_zn11, ec_zn31, ec_zn46, ec_zn57, ec_zn59, ec_zn63, ec_zn101, ec_zn107, ec_zn108, ec_zn110, ec_zn111, ec_zn115, ec_zn116, ec_zn119, ec_zn167, ec_zn185, ec_zn192, ec_zn215, ec_zn233, ec_zn699, ec_zn932, ec_zn999, ec_znF, ec_zneg, ec_zadd, ec_zsub, ec_zmul, ec_zdivO, ec_em, ec_zltO, ec_zeqO, ec_zeq0, ec_qt, ec_qf, if_pos, if_neg, Int.add_zero, ec_aft_v, ec_aft_n, ec_rwE, ec_rwN, ec_rwP, ec_rwK, ec_rwS, ec_w_shpI, ec_w_shpL, ec_w_shpA, hD, hs, ec_w_iL, e2]
    rw [ec_s198_88]
    simp (disch := first | (simp only [ec_w_kI, ec_w_kL, ec_w_kA, ec_w_shpI, ec_w_shpL, ec_w_shpA, ec_isR_r, ec_01z, ec_01o, ec_01q, hD]; done) | omega | (simp only [ec_w_shpI, ec_w_shpL, ec_w_shpA, hD]; refine ec_zinO ?_; omega) | (refine ec_nzO ?_; omega)) only [ec_s198_0, ec_s198_1, ec_s198_3, ec_s198_4, ec_s198_7, ec_s198_8, ec_s198_9, ec_s198_12, ec_s198_13, ec_s198_15, ec_s198_16, ec_s198_19, ec_s198_20, ec_s198_21, ec_s198_24, ec_s198_25, ec_s198_26, ec_s198_28, ec_s198_29, ec_s198_30, ec_s198_31, ec_s198_32, ec_s198_33, ec_s198_36, ec_s198_39, ec_s198_40, ec_s198_41, ec_s198_43, ec_s198_44, ec_s198_45, ec_s198_46, ec_s198_47, ec_s198_48, ec_s198_51, ec_s198_54, ec_s198_55, ec_s198_57, ec_s198_58, ec_s198_61, ec_s198_62, ec_s198_63, ec_s198_65, ec_s198_66, ec_s198_67, ec_s198_68, ec_s198_69, ec_s198_70, ec_s198_73, ec_s198_76, ec_s198_79, ec_s198_82, ec_s198_85, ec_s198_91, ec_s198_94, ec_zn0, ec_zn1, ec_zn2, ec_zn3, ec_zn4, ec_zn5, ec_zn6, ec_zn7, ec_zn8, ec_zn9, ec_zn10, ec_zn12, ec_zn13, ec_zn14, ec_zn15, ec_zn16, ec_zn20, ec_zn30, ec_zn48, ec_zn99, ec_zn120, ec_zn127, ec_zn11, ec_zn31, ec_zn46, ec_zn57, ec_zn59, ec_zn63, ec_zn101, ec_zn107, ec_zn108, ec_zn110, ec_zn111, ec_zn115, ec_zn116, ec_zn119, ec_zn167, ec_zn185, ec_zn192, ec_zn215, ec_zn233, ec_zn699, ec_zn932, ec_zn999, ec_znF, ec_zneg, ec_zadd, ec_zsub, ec_zmul, ec_zdivO, ec_em, ec_zltO, ec_zeqO, ec_zeq0, ec_qt, ec_qf, if_pos, if_neg, Int.add_zero, ec_aft_v, ec_aft_n, ec_rwE, ec_rwN, ec_rwP, ec_rwK, ec_rwS, ec_w_shpI, ec_w_shpL, ec_w_shpA, hD, e1]
    rfl
theorem ec_c198 (M : ed_ML h σ n p L T) (hL : ed_Ar h 78 48 (fun z => ed_q (ed_lit σ z))) {d : Int64} : ec_om 198 0 [.ref 72, .double 0, .double 0, .double 0] [] (ec_setL h 72 18 d) = some (.inl none, ec_setL h 72 18 (ed_mxy σ (σ 1).toNat 0 d)) := by
  have w := M.2.2.1.1
  rw [ec_s198_0, ec_s198_1, ec_zn0]
  exact ec_c198y M hL (σ 1).toNat 0 d _ _ (by omega) (by omega)
theorem ec_c199d (M : ed_ML h σ n p L T) : ∀ (r : Nat) (k : Int) (x : Int64), 0 ≤ k → k + r = 6 * σ 2 → ec_om 199 53 [.ref 72, .int (ec_i k), .double 0] [] (ec_setL h 72 18 x) = ec_om 199 85 [.ref 72, .int (ec_i (6 * σ 2)), .double 0] [] (ec_setL h 72 18 (ed_mxs (fun k => σ (107 + k)) r k x)) := by
  intro r
  induction r with
  | zero =>
    intro k x h0 hk
    have hk : k = 6 * σ 2 := by omega
    have w := M.2.2.1.1
    have hD := M.1
    have hs := M.2.1
    unfold ec_MD at hD
    unfold ec_Ms at hs
    rw [ec_s199_53]
    simp (disch := first | (simp only [ec_w_kI, ec_w_kL, ec_w_kA, ec_w_shpI, ec_w_shpL, ec_w_shpA, ec_isR_r, ec_01z, ec_01o, ec_01q, hD]; done) | omega | (simp only [ec_w_shpI, ec_w_shpL, ec_w_shpA, hD]; refine ec_zinO ?_; omega) | (refine ec_nzO ?_; omega)) only [ec_s199_0, ec_s199_1, ec_s199_2, ec_s199_5, ec_s199_6, ec_s199_9, ec_s199_12, ec_s199_13, ec_s199_14, ec_s199_17, ec_s199_20, ec_s199_21, ec_s199_23, ec_s199_25, ec_s199_28, ec_s199_29, ec_s199_30, ec_s199_31, ec_s199_34, ec_s199_37, ec_s199_40, ec_s199_43, ec_s199_44, ec_s199_47, ec_s199_48, ec_s199_51, ec_s199_52, ec_s199_54, ec_s199_56, ec_s199_57, ec_s199_60, ec_s199_61, ec_s199_62, ec_s199_63, ec_s199_66, ec_s199_67, ec_s199_68, ec_s199_71, ec_s199_73, ec_s199_74, ec_s199_75, ec_s199_76, ec_s199_79, ec_s199_82, ec_s199_86, ec_s199_87, ec_s199_88, ec_s199_89, ec_s199_90, ec_s199_93, ec_s199_94, ec_s199_95, ec_s199_96, ec_s199_99, ec_s199_100, ec_s199_101, ec_s199_102, ec_s199_103, ec_s199_104, ec_s199_105, ec_s199_106, ec_s199_107, ec_s199_110, ec_s199_113, ec_s199_116, ec_s199_119, ec_s199_120, ec_s199_121, ec_s199_122, ec_s199_123, ec_s199_126, ec_s199_127, ec_s199_128, ec_s199_131, ec_s199_132, ec_s199_133, ec_s199_134, ec_s199_136, ec_s199_139, ec_s199_140, ec_s199_141, ec_s199_142, ec_s199_143, ec_s199_146, ec_s199_149, ec_s199_152, ec_s199_155, ec_s199_156, ec_s199_157, ec_s199_158, ec_s199_161, ec_s199_164, ec_s199_167, ec_s199_170, ec_s199_171, ec_s199_172, ec_s199_173, ec_s199_174, ec_s199_175, ec_s199_178, ec_s199_179, ec_s199_180, ec_s199_181, ec_s199_184, ec_s199_185, ec_s199_186, ec_s199_187, ec_s199_188, ec_s199_189, ec_s199_190, ec_s199_191, ec_s199_192, ec_s199_195, ec_s199_198, ec_s199_201, ec_s199_204, ec_s199_205, ec_s199_206, ec_s199_207, ec_s199_209, ec_s199_212, ec_s199_213, ec_s199_214, ec_s199_215, ec_s199_218, ec_s199_221, ec_s199_224, ec_s199_227, ec_s199_228, ec_s199_231, ec_zn0, ec_zn1, ec_zn2, ec_zn3, ec_zn4, ec_zn5, ec_zn6, ec_zn7, ec_zn8, ec_zn9, ec_zn10, ec_zn12, ec_zn13, ec_zn14, ec_zn15, ec_zn16, ec_zn20, ec_zn30, ec_zn48, ec_zn99, ec_zn120, ec_zn127, ec_zn11, ec_zn31, ec_zn46, ec_zn57, ec_zn59, ec_zn63, ec_zn101, ec_zn107, ec_zn108, ec_zn110, ec_zn111, ec_zn115, ec_zn116, ec_zn119, ec_zn167, ec_zn185, ec_zn192, ec_zn215, ec_zn233, ec_zn699, ec_zn932, ec_zn999, ec_znF, ec_zneg, ec_zadd, ec_zsub, ec_zmul, ec_zdivO, ec_em, ec_zltO, ec_zeqO, ec_zeq0, ec_qt, ec_qf, if_pos, if_neg, Int.add_zero, ec_aft_v, ec_aft_n, ec_rwE, ec_rwN, ec_rwP, ec_rwK, ec_rwS, ec_w_shpI, ec_w_shpL, ec_w_shpA, hD, hs, ec_w_iL]
    rw [hk]
    rfl
  | succ r ih =>
    intro k x h0 hk
    have w := M.2.2.1.1
    have e1 := ih (k + 1) (ed_mx x (σ (107 + k))) (by omega) (by omega)
    have g1 := fun v => ec_c197 M.1 (x := x) (v := v)
    have hD := M.1
    have hs := M.2.1
    unfold ec_MD at hD
    unfold ec_Ms at hs
    rw [ec_s199_53]
    simp (disch := first | (simp only [ec_w_kI, ec_w_kL, ec_w_kA, ec_w_shpI, ec_w_shpL, ec_w_shpA, ec_isR_r, ec_01z, ec_01o, ec_01q, hD]; done) | omega | (simp only [ec_w_shpI, ec_w_shpL, ec_w_shpA, hD]; refine ec_zinO ?_; omega) | (refine ec_nzO ?_; omega)) only [ec_s199_0, ec_s199_1, ec_s199_2, ec_s199_5, ec_s199_6, ec_s199_9, ec_s199_12, ec_s199_13, ec_s199_14, ec_s199_17, ec_s199_20, ec_s199_21, ec_s199_23, ec_s199_25, ec_s199_28, ec_s199_29, ec_s199_30, ec_s199_31, ec_s199_34, ec_s199_37, ec_s199_40, ec_s199_43, ec_s199_44, ec_s199_47, ec_s199_48, ec_s199_51, ec_s199_52, ec_s199_54, ec_s199_56, ec_s199_57, ec_s199_60, ec_s199_61, ec_s199_62, ec_s199_63, ec_s199_66, ec_s199_67, ec_s199_68, ec_s199_71, ec_s199_73, ec_s199_74, ec_s199_75, ec_s199_76, ec_s199_79, ec_s199_82, ec_s199_86, ec_s199_87, ec_s199_88, ec_s199_89, ec_s199_90, ec_s199_93, ec_s199_94, ec_s199_95, ec_s199_96, ec_s199_99, ec_s199_100, ec_s199_101, ec_s199_102, ec_s199_103, ec_s199_104, ec_s199_105, ec_s199_106, ec_s199_107, ec_s199_110, ec_s199_113, ec_s199_116, ec_s199_119, ec_s199_120, ec_s199_121, ec_s199_122, ec_s199_123, ec_s199_126, ec_s199_127, ec_s199_128, ec_s199_131, ec_s199_132, ec_s199_133, ec_s199_134, ec_s199_136, ec_s199_139, ec_s199_140, ec_s199_141, ec_s199_142, ec_s199_143, ec_s199_146, ec_s199_149, ec_s199_152, ec_s199_155, ec_s199_156, ec_s199_157, ec_s199_158, ec_s199_161, ec_s199_164, ec_s199_167, ec_s199_170, ec_s199_171, ec_s199_172, ec_s199_173, ec_s199_174, ec_s199_175, ec_s199_178, ec_s199_179, ec_s199_180, ec_s199_181, ec_s199_184, ec_s199_185, ec_s199_186, ec_s199_187, ec_s199_188, ec_s199_189, ec_s199_190, ec_s199_191, ec_s199_192, ec_s199_195, ec_s199_198, ec_s199_201, ec_s199_204, ec_s199_205, ec_s199_206, ec_s199_207, ec_s199_209, ec_s199_212, ec_s199_213, ec_s199_214, ec_s199_215, ec_s199_218, ec_s199_221, ec_s199_224, ec_s199_227, ec_s199_228, ec_s199_231, ec_zn0, ec_zn1, ec_zn2, ec_zn3, ec_zn4, ec_zn5, ec_zn6, ec_zn7, ec_zn8, ec_zn9, ec_zn10, ec_zn12, ec_zn13, ec_zn14, ec_zn15, ec_zn16, ec_zn20, ec_zn30, ec_zn48, ec_zn99, ec_zn120, ec_zn127, ec_zn11, ec_zn31, ec_zn46, ec_zn57, ec_zn59, ec_zn63, ec_zn101, ec_zn107, ec_zn108, ec_zn110, ec_zn111, ec_zn115, ec_zn116, ec_zn119, ec_zn167, ec_zn185, ec_zn192, ec_zn215, ec_zn233, ec_zn699, ec_zn932, ec_zn999, ec_znF, ec_zneg, ec_zadd, ec_zsub, ec_zmul, ec_zdivO, ec_em, ec_zltO, ec_zeqO, ec_zeq0, ec_qt, ec_qf, if_pos, if_neg, Int.add_zero, ec_aft_v, ec_aft_n, ec_rwE, ec_rwN, ec_rwP, ec_rwK, ec_rwS, ec_w_shpI, ec_w_shpL, ec_w_shpA, hD, hs, ec_w_iL, g1, e1]
    rfl
theorem ec_c199t (M : ed_ML h σ n p L T) : ∀ (r : Nat) (k : Int) (x : Int64), 0 ≤ k → k + r = 4 * σ 3 → ec_om 199 87 [.ref 72, .int (ec_i k), .double 0] [] (ec_setL h 72 18 x) = ec_om 199 119 [.ref 72, .int (ec_i (4 * σ 3)), .double 0] [] (ec_setL h 72 18 (ed_mxs (fun k => ed_tov σ (167 + 3 * (k / 4)) (k % 4)) r k x)) := by
  intro r
  induction r with
  | zero =>
    intro k x h0 hk
    have hk : k = 4 * σ 3 := by omega
    have w := M.2.2.1.1
    have hD := M.1
    have hs := M.2.1
    unfold ec_MD at hD
    unfold ec_Ms at hs
    rw [ec_s199_87]
    simp (disch := first | (simp only [ec_w_kI, ec_w_kL, ec_w_kA, ec_w_shpI, ec_w_shpL, ec_w_shpA, ec_isR_r, ec_01z, ec_01o, ec_01q, hD]; done) | omega | (simp only [ec_w_shpI, ec_w_shpL, ec_w_shpA, hD]; refine ec_zinO ?_; omega) | (refine ec_nzO ?_; omega)) only [ec_s199_0, ec_s199_1, ec_s199_2, ec_s199_5, ec_s199_6, ec_s199_9, ec_s199_12, ec_s199_13, ec_s199_14, ec_s199_17, ec_s199_20, ec_s199_21, ec_s199_23, ec_s199_25, ec_s199_28, ec_s199_29, ec_s199_30, ec_s199_31, ec_s199_34, ec_s199_37, ec_s199_40, ec_s199_43, ec_s199_44, ec_s199_47, ec_s199_48, ec_s199_51, ec_s199_52, ec_s199_53, ec_s199_54, ec_s199_56, ec_s199_57, ec_s199_60, ec_s199_61, ec_s199_62, ec_s199_63, ec_s199_66, ec_s199_67, ec_s199_68, ec_s199_71, ec_s199_73, ec_s199_74, ec_s199_75, ec_s199_76, ec_s199_79, ec_s199_82, ec_s199_85, ec_s199_86, ec_s199_88, ec_s199_89, ec_s199_90, ec_s199_93, ec_s199_94, ec_s199_95, ec_s199_96, ec_s199_99, ec_s199_100, ec_s199_101, ec_s199_102, ec_s199_103, ec_s199_104, ec_s199_105, ec_s199_106, ec_s199_107, ec_s199_110, ec_s199_113, ec_s199_116, ec_s199_120, ec_s199_121, ec_s199_122, ec_s199_123, ec_s199_126, ec_s199_127, ec_s199_128, ec_s199_131, ec_s199_132, ec_s199_133, ec_s199_134, ec_s199_136, ec_s199_139, ec_s199_140, ec_s199_141, ec_s199_142, ec_s199_143, ec_s199_146, ec_s199_149, ec_s199_152, ec_s199_155, ec_s199_156, ec_s199_157, ec_s199_158, ec_s199_161, ec_s199_164, ec_s199_167, ec_s199_170, ec_s199_171, ec_s199_172, ec_s199_173, ec_s199_174, ec_s199_175, ec_s199_178, ec_s199_179, ec_s199_180, ec_s199_181, ec_s199_184, ec_s199_185, ec_s199_186, ec_s199_187, ec_s199_188, ec_s199_189, ec_s199_190, ec_s199_191, ec_s199_192, ec_s199_195, ec_s199_198, ec_s199_201, ec_s199_204, ec_s199_205, ec_s199_206, ec_s199_207, ec_s199_209, ec_s199_212, ec_s199_213, ec_s199_214, ec_s199_215, ec_s199_218, ec_s199_221, ec_s199_224, ec_s199_227, ec_s199_228, ec_s199_231, ec_zn0, ec_zn1, ec_zn2, ec_zn3, ec_zn4, ec_zn5, ec_zn6, ec_zn7, ec_zn8, ec_zn9, ec_zn10, ec_zn12, ec_zn13, ec_zn14, ec_zn15, ec_zn16, ec_zn20, ec_zn30, ec_zn48, ec_zn99, ec_zn120, ec_zn127, ec_zn11, ec_zn31, ec_zn46, ec_zn57, ec_zn59, ec_zn63, ec_zn101, ec_zn107, ec_zn108, ec_zn110, ec_zn111, ec_zn115, ec_zn116, ec_zn119, ec_zn167, ec_zn185, ec_zn192, ec_zn215, ec_zn233, ec_zn699, ec_zn932, ec_zn999, ec_znF, ec_zneg, ec_zadd, ec_zsub, ec_zmul, ec_zdivO, ec_em, ec_zltO, ec_zeqO, ec_zeq0, ec_qt, ec_qf, if_pos, if_neg, Int.add_zero, ec_aft_v, ec_aft_n, ec_rwE, ec_rwN, ec_rwP, ec_rwK, ec_rwS, ec_w_shpI, ec_w_shpL, ec_w_shpA, hD, hs, ec_w_iL]
    rw [hk]
    rfl
  | succ r ih =>
    intro k x h0 hk
    have w := M.2.2.1.1
    have e1 := ih (k + 1) (ed_mx x (ed_tov σ (167 + 3 * (k / 4)) (k % 4))) (by omega) (by omega)
    have g1 := fun v => ec_c197 M.1 (x := x) (v := v)
    have g2 := ec_c171 (h := ec_setL h 72 18 x) (M.1.of rfl) M.2.1 M.2.2.1 (t := k / 4) (u := k % 4) (by omega) (by omega)
    have hD := M.1
    have hs := M.2.1
    unfold ec_MD at hD
    unfold ec_Ms at hs
    rw [ec_s199_87]
    simp (disch := first | (simp only [ec_w_kI, ec_w_kL, ec_w_kA, ec_w_shpI, ec_w_shpL, ec_w_shpA, ec_isR_r, ec_01z, ec_01o, ec_01q, hD]; done) | omega | (simp only [ec_w_shpI, ec_w_shpL, ec_w_shpA, hD]; refine ec_zinO ?_; omega) | (refine ec_nzO ?_; omega)) only [ec_s199_0, ec_s199_1, ec_s199_2, ec_s199_5, ec_s199_6, ec_s199_9, ec_s199_12, ec_s199_13, ec_s199_14, ec_s199_17, ec_s199_20, ec_s199_21, ec_s199_23, ec_s199_25, ec_s199_28, ec_s199_29, ec_s199_30, ec_s199_31, ec_s199_34, ec_s199_37, ec_s199_40, ec_s199_43, ec_s199_44, ec_s199_47, ec_s199_48, ec_s199_51, ec_s199_52, ec_s199_53, ec_s199_54, ec_s199_56, ec_s199_57, ec_s199_60, ec_s199_61, ec_s199_62, ec_s199_63, ec_s199_66, ec_s199_67, ec_s199_68, ec_s199_71, ec_s199_73, ec_s199_74, ec_s199_75, ec_s199_76, ec_s199_79, ec_s199_82, ec_s199_85, ec_s199_86, ec_s199_88, ec_s199_89, ec_s199_90, ec_s199_93, ec_s199_94, ec_s199_95, ec_s199_96, ec_s199_99, ec_s199_100, ec_s199_101, ec_s199_102, ec_s199_103, ec_s199_104, ec_s199_105, ec_s199_106, ec_s199_107, ec_s199_110, ec_s199_113, ec_s199_116, ec_s199_120, ec_s199_121, ec_s199_122, ec_s199_123, ec_s199_126, ec_s199_127, ec_s199_128, ec_s199_131, ec_s199_132, ec_s199_133, ec_s199_134, ec_s199_136, ec_s199_139, ec_s199_140, ec_s199_141, ec_s199_142, ec_s199_143, ec_s199_146, ec_s199_149, ec_s199_152, ec_s199_155, ec_s199_156, ec_s199_157, ec_s199_158, ec_s199_161, ec_s199_164, ec_s199_167, ec_s199_170, ec_s199_171, ec_s199_172, ec_s199_173, ec_s199_174, ec_s199_175, ec_s199_178, ec_s199_179, ec_s199_180, ec_s199_181, ec_s199_184, ec_s199_185, ec_s199_186, ec_s199_187, ec_s199_188, ec_s199_189, ec_s199_190, ec_s199_191, ec_s199_192, ec_s199_195, ec_s199_198, ec_s199_201, ec_s199_204, ec_s199_205, ec_s199_206, ec_s199_207, ec_s199_209, ec_s199_212, ec_s199_213, ec_s199_214, ec_s199_215, ec_s199_218, ec_s199_221, ec_s199_224, ec_s199_227, ec_s199_228, ec_s199_231, ec_zn0, ec_zn1, ec_zn2, ec_zn3, ec_zn4, ec_zn5, ec_zn6, ec_zn7, ec_zn8, ec_zn9, ec_zn10, ec_zn12, ec_zn13, ec_zn14, ec_zn15, ec_zn16, ec_zn20, ec_zn30, ec_zn48, ec_zn99, ec_zn120, ec_zn127, ec_zn11, ec_zn31, ec_zn46, ec_zn57, ec_zn59, ec_zn63, ec_zn101, ec_zn107, ec_zn108, ec_zn110, ec_zn111, ec_zn115, ec_zn116, ec_zn119, ec_zn167, ec_zn185, ec_zn192, ec_zn215, ec_zn233, ec_zn699, ec_zn932, ec_zn999, ec_znF, ec_zneg, ec_zadd, ec_zsub, ec_zmul, ec_zdivO, ec_em, ec_zltO, ec_zeqO, ec_zeq0, ec_qt, ec_qf, if_pos, if_neg, Int.add_zero, ec_aft_v, ec_aft_n, ec_rwE, ec_rwN, ec_rwP, ec_rwK, ec_rwS, ec_w_shpI, ec_w_shpL, ec_w_shpA, hD, hs, ec_w_iL, g1, g2, e1]
    rfl
theorem ec_c199p (M : ed_ML h σ n p L T) {w2 : Value} : ∀ (r : Nat) (k : Int) (x : Int64), 0 ≤ k → k + r = 4 * σ 5 → ec_om 199 172 [.ref 72, .int (ec_i k), w2] [] (ec_setL h 72 18 x) = ec_om 199 204 [.ref 72, .int (ec_i (4 * σ 5)), w2] [] (ec_setL h 72 18 (ed_mxs (fun k => ed_tov σ (215 + 3 * (k / 4)) (k % 4)) r k x)) := by
  intro r
  induction r with
  | zero =>
    intro k x h0 hk
    have hk : k = 4 * σ 5 := by omega
    have w := M.2.2.1.1
    have hD := M.1
    have hs := M.2.1
    unfold ec_MD at hD
    unfold ec_Ms at hs
    rw [ec_s199_172]
    simp (disch := first | (simp only [ec_w_kI, ec_w_kL, ec_w_kA, ec_w_shpI, ec_w_shpL, ec_w_shpA, ec_isR_r, ec_01z, ec_01o, ec_01q, hD]; done) | omega | (simp only [ec_w_shpI, ec_w_shpL, ec_w_shpA, hD]; refine ec_zinO ?_; omega) | (refine ec_nzO ?_; omega)) only [ec_s199_0, ec_s199_1, ec_s199_2, ec_s199_5, ec_s199_6, ec_s199_9, ec_s199_12, ec_s199_13, ec_s199_14, ec_s199_17, ec_s199_20, ec_s199_21, ec_s199_23, ec_s199_25, ec_s199_28, ec_s199_29, ec_s199_30, ec_s199_31, ec_s199_34, ec_s199_37, ec_s199_40, ec_s199_43, ec_s199_44, ec_s199_47, ec_s199_48, ec_s199_51, ec_s199_52, ec_s199_53, ec_s199_54, ec_s199_56, ec_s199_57, ec_s199_60, ec_s199_61, ec_s199_62, ec_s199_63, ec_s199_66, ec_s199_67, ec_s199_68, ec_s199_71, ec_s199_73, ec_s199_74, ec_s199_75, ec_s199_76, ec_s199_79, ec_s199_82, ec_s199_85, ec_s199_86, ec_s199_87, ec_s199_88, ec_s199_89, ec_s199_90, ec_s199_93, ec_s199_94, ec_s199_95, ec_s199_96, ec_s199_99, ec_s199_100, ec_s199_101, ec_s199_102, ec_s199_103, ec_s199_104, ec_s199_105, ec_s199_106, ec_s199_107, ec_s199_110, ec_s199_113, ec_s199_116, ec_s199_119, ec_s199_120, ec_s199_121, ec_s199_122, ec_s199_123, ec_s199_126, ec_s199_127, ec_s199_128, ec_s199_131, ec_s199_132, ec_s199_133, ec_s199_134, ec_s199_136, ec_s199_139, ec_s199_140, ec_s199_141, ec_s199_142, ec_s199_143, ec_s199_146, ec_s199_149, ec_s199_152, ec_s199_155, ec_s199_156, ec_s199_157, ec_s199_158, ec_s199_161, ec_s199_164, ec_s199_167, ec_s199_170, ec_s199_171, ec_s199_173, ec_s199_174, ec_s199_175, ec_s199_178, ec_s199_179, ec_s199_180, ec_s199_181, ec_s199_184, ec_s199_185, ec_s199_186, ec_s199_187, ec_s199_188, ec_s199_189, ec_s199_190, ec_s199_191, ec_s199_192, ec_s199_195, ec_s199_198, ec_s199_201, ec_s199_205, ec_s199_206, ec_s199_207, ec_s199_209, ec_s199_212, ec_s199_213, ec_s199_214, ec_s199_215, ec_s199_218, ec_s199_221, ec_s199_224, ec_s199_227, ec_s199_228, ec_s199_231, ec_zn0, ec_zn1, ec_zn2, ec_zn3, ec_zn4, ec_zn5, ec_zn6, ec_zn7, ec_zn8, ec_zn9, ec_zn10, ec_zn12, ec_zn13, ec_zn14, ec_zn15, ec_zn16, ec_zn20, ec_zn30, ec_zn48, ec_zn99, ec_zn120, ec_zn127, ec_zn11, ec_zn31, ec_zn46, ec_zn57, ec_zn59, ec_zn63, ec_zn101, ec_zn107, ec_zn108, ec_zn110, ec_zn111, ec_zn115, ec_zn116, ec_zn119, ec_zn167, ec_zn185, ec_zn192, ec_zn215, ec_zn233, ec_zn699, ec_zn932, ec_zn999, ec_znF, ec_zneg, ec_zadd, ec_zsub, ec_zmul, ec_zdivO, ec_em, ec_zltO, ec_zeqO, ec_zeq0, ec_qt, ec_qf, if_pos, if_neg, Int.add_zero, ec_aft_v, ec_aft_n, ec_rwE, ec_rwN, ec_rwP, ec_rwK, ec_rwS, ec_w_shpI, ec_w_shpL, ec_w_shpA, hD, hs, ec_w_iL]
    rw [hk]
    rfl
  | succ r ih =>
    intro k x h0 hk
    have w := M.2.2.1.1
    have e1 := ih (k + 1) (ed_mx x (ed_tov σ (215 + 3 * (k / 4)) (k % 4))) (by omega) (by omega)
    have g1 := fun v => ec_c197 M.1 (x := x) (v := v)
    have g2 := ec_c176 (h := ec_setL h 72 18 x) (M.1.of rfl) M.2.1 M.2.2.1 (t := k / 4) (u := k % 4) (by omega) (by omega)
    have hD := M.1
    have hs := M.2.1
    unfold ec_MD at hD
    unfold ec_Ms at hs
    rw [ec_s199_172]
    simp (disch := first | (simp only [ec_w_kI, ec_w_kL, ec_w_kA, ec_w_shpI, ec_w_shpL, ec_w_shpA, ec_isR_r, ec_01z, ec_01o, ec_01q, hD]; done) | omega | (simp only [ec_w_shpI, ec_w_shpL, ec_w_shpA, hD]; refine ec_zinO ?_; omega) | (refine ec_nzO ?_; omega)) only [ec_s199_0, ec_s199_1, ec_s199_2, ec_s199_5, ec_s199_6, ec_s199_9, ec_s199_12, ec_s199_13, ec_s199_14, ec_s199_17, ec_s199_20, ec_s199_21, ec_s199_23, ec_s199_25, ec_s199_28, ec_s199_29, ec_s199_30, ec_s199_31, ec_s199_34, ec_s199_37, ec_s199_40, ec_s199_43, ec_s199_44, ec_s199_47, ec_s199_48, ec_s199_51, ec_s199_52, ec_s199_53, ec_s199_54, ec_s199_56, ec_s199_57, ec_s199_60, ec_s199_61, ec_s199_62, ec_s199_63, ec_s199_66, ec_s199_67, ec_s199_68, ec_s199_71, ec_s199_73, ec_s199_74, ec_s199_75, ec_s199_76, ec_s199_79, ec_s199_82, ec_s199_85, ec_s199_86, ec_s199_87, ec_s199_88, ec_s199_89, ec_s199_90, ec_s199_93, ec_s199_94, ec_s199_95, ec_s199_96, ec_s199_99, ec_s199_100, ec_s199_101, ec_s199_102, ec_s199_103, ec_s199_104, ec_s199_105, ec_s199_106, ec_s199_107, ec_s199_110, ec_s199_113, ec_s199_116, ec_s199_119, ec_s199_120, ec_s199_121, ec_s199_122, ec_s199_123, ec_s199_126, ec_s199_127, ec_s199_128, ec_s199_131, ec_s199_132, ec_s199_133, ec_s199_134, ec_s199_136, ec_s199_139, ec_s199_140, ec_s199_141, ec_s199_142, ec_s199_143, ec_s199_146, ec_s199_149, ec_s199_152, ec_s199_155, ec_s199_156, ec_s199_157, ec_s199_158, ec_s199_161, ec_s199_164, ec_s199_167, ec_s199_170, ec_s199_171, ec_s199_173, ec_s199_174, ec_s199_175, ec_s199_178, ec_s199_179, ec_s199_180, ec_s199_181, ec_s199_184, ec_s199_185, ec_s199_186, ec_s199_187, ec_s199_188, ec_s199_189, ec_s199_190, ec_s199_191, ec_s199_192, ec_s199_195, ec_s199_198, ec_s199_201, ec_s199_205, ec_s199_206, ec_s199_207, ec_s199_209, ec_s199_212, ec_s199_213, ec_s199_214, ec_s199_215, ec_s199_218, ec_s199_221, ec_s199_224, ec_s199_227, ec_s199_228, ec_s199_231, ec_zn0, ec_zn1, ec_zn2, ec_zn3, ec_zn4, ec_zn5, ec_zn6, ec_zn7, ec_zn8, ec_zn9, ec_zn10, ec_zn12, ec_zn13, ec_zn14, ec_zn15, ec_zn16, ec_zn20, ec_zn30, ec_zn48, ec_zn99, ec_zn120, ec_zn127, ec_zn11, ec_zn31, ec_zn46, ec_zn57, ec_zn59, ec_zn63, ec_zn101, ec_zn107, ec_zn108, ec_zn110, ec_zn111, ec_zn115, ec_zn116, ec_zn119, ec_zn167, ec_zn185, ec_zn192, ec_zn215, ec_zn233, ec_zn699, ec_zn932, ec_zn999, ec_znF, ec_zneg, ec_zadd, ec_zsub, ec_zmul, ec_zdivO, ec_em, ec_zltO, ec_zeqO, ec_zeq0, ec_qt, ec_qf, if_pos, if_neg, Int.add_zero, ec_aft_v, ec_aft_n, ec_rwE, ec_rwN, ec_rwP, ec_rwK, ec_rwS, ec_w_shpI, ec_w_shpL, ec_w_shpA, hD, hs, ec_w_iL, g1, g2, e1]
    rfl
theorem ec_c199r (M : ed_ML h σ n p L T) {w2 : Value} : ∀ (r : Nat) (k : Int) (x : Int64), 0 ≤ k → k + r = 16 → ec_om 199 206 [.ref 72, .int (ec_i k), w2] [] (ec_setL h 72 18 x) = some (.inl (some (.long (ed_mxs (ed_rsn σ) r k x))), ec_setL h 72 18 (ed_mxs (ed_rsn σ) r k x)) := by
  intro r
  induction r with
  | zero =>
    intro k x h0 hk
    have hk : k = 16 := by omega
    subst hk
    have hD := M.1
    have rl : (ec_setL h 72 18 x).2.2.1 72 18 = x := ed_rl
    unfold ec_MD at hD
    rw [ec_s199_206]
    simp (disch := first | (simp only [ec_w_kI, ec_w_kL, ec_w_kA, ec_w_shpI, ec_w_shpL, ec_w_shpA, ec_isR_r, ec_01z, ec_01o, ec_01q, hD]; done) | omega | (simp only [ec_w_shpI, ec_w_shpL, ec_w_shpA, hD]; refine ec_zinO ?_; omega) | (refine ec_nzO ?_; omega)) only [ec_s199_0, ec_s199_1, ec_s199_2, ec_s199_5, ec_s199_6, ec_s199_9, ec_s199_12, ec_s199_13, ec_s199_14, ec_s199_17, ec_s199_20, ec_s199_21, ec_s199_23, ec_s199_25, ec_s199_28, ec_s199_29, ec_s199_30, ec_s199_31, ec_s199_34, ec_s199_37, ec_s199_40, ec_s199_43, ec_s199_44, ec_s199_47, ec_s199_48, ec_s199_51, ec_s199_52, ec_s199_53, ec_s199_54, ec_s199_56, ec_s199_57, ec_s199_60, ec_s199_61, ec_s199_62, ec_s199_63, ec_s199_66, ec_s199_67, ec_s199_68, ec_s199_71, ec_s199_73, ec_s199_74, ec_s199_75, ec_s199_76, ec_s199_79, ec_s199_82, ec_s199_85, ec_s199_86, ec_s199_87, ec_s199_88, ec_s199_89, ec_s199_90, ec_s199_93, ec_s199_94, ec_s199_95, ec_s199_96, ec_s199_99, ec_s199_100, ec_s199_101, ec_s199_102, ec_s199_103, ec_s199_104, ec_s199_105, ec_s199_106, ec_s199_107, ec_s199_110, ec_s199_113, ec_s199_116, ec_s199_119, ec_s199_120, ec_s199_121, ec_s199_122, ec_s199_123, ec_s199_126, ec_s199_127, ec_s199_128, ec_s199_131, ec_s199_132, ec_s199_133, ec_s199_134, ec_s199_136, ec_s199_139, ec_s199_140, ec_s199_141, ec_s199_142, ec_s199_143, ec_s199_146, ec_s199_149, ec_s199_152, ec_s199_155, ec_s199_156, ec_s199_157, ec_s199_158, ec_s199_161, ec_s199_164, ec_s199_167, ec_s199_170, ec_s199_171, ec_s199_172, ec_s199_173, ec_s199_174, ec_s199_175, ec_s199_178, ec_s199_179, ec_s199_180, ec_s199_181, ec_s199_184, ec_s199_185, ec_s199_186, ec_s199_187, ec_s199_188, ec_s199_189, ec_s199_190, ec_s199_191, ec_s199_192, ec_s199_195, ec_s199_198, ec_s199_201, ec_s199_204, ec_s199_205, ec_s199_207, ec_s199_209, ec_s199_212, ec_s199_213, ec_s199_214, ec_s199_215, ec_s199_218, ec_s199_221, ec_s199_224, ec_s199_227, ec_s199_228, ec_s199_231, ec_zn0, ec_zn1, ec_zn2, ec_zn3, ec_zn4, ec_zn5, ec_zn6, ec_zn7, ec_zn8, ec_zn9, ec_zn10, ec_zn12, ec_zn13, ec_zn14, ec_zn15, ec_zn16, ec_zn20, ec_zn30, ec_zn48, ec_zn99, ec_zn120, ec_zn127, ec_zn11, ec_zn31, ec_zn46, ec_zn57, ec_zn59, ec_zn63, ec_zn101, ec_zn107, ec_zn108, ec_zn110, ec_zn111, ec_zn115, ec_zn116, ec_zn119, ec_zn167, ec_zn185, ec_zn192, ec_zn215, ec_zn233, ec_zn699, ec_zn932, ec_zn999, ec_znF, ec_zneg, ec_zadd, ec_zsub, ec_zmul, ec_zdivO, ec_em, ec_zltO, ec_zeqO, ec_zeq0, ec_qt, ec_qf, if_pos, if_neg, Int.add_zero, ec_aft_v, ec_aft_n, ec_rwE, ec_rwN, ec_rwP, ec_rwK, ec_rwS, ec_w_shpI, ec_w_shpL, ec_w_shpA, hD, rl]
    rfl
  | succ r ih =>
    intro k x h0 hk
    have e1 := ih (k + 1) (ed_mx x (ed_rsn σ k)) (by omega) (by omega)
    have g1 := fun v => ec_c197 M.1 (x := x) (v := v)
    have g2 := ec_c153 (h := ec_setL h 72 18 x) (M.1.of rfl) M.2.1 M.2.2.1 (a := k) (by omega)
    have hD := M.1
    unfold ec_MD at hD
    rw [ec_s199_206]
    simp (disch := first | (simp only [ec_w_kI, ec_w_kL, ec_w_kA, ec_w_shpI, ec_w_shpL, ec_w_shpA, ec_isR_r, ec_01z, ec_01o, ec_01q, hD]; done) | omega | (simp only [ec_w_shpI, ec_w_shpL, ec_w_shpA, hD]; refine ec_zinO ?_; omega) | (refine ec_nzO ?_; omega)) only [ec_s199_0, ec_s199_1, ec_s199_2, ec_s199_5, ec_s199_6, ec_s199_9, ec_s199_12, ec_s199_13, ec_s199_14, ec_s199_17, ec_s199_20, ec_s199_21, ec_s199_23, ec_s199_25, ec_s199_28, ec_s199_29, ec_s199_30, ec_s199_31, ec_s199_34, ec_s199_37, ec_s199_40, ec_s199_43, ec_s199_44, ec_s199_47, ec_s199_48, ec_s199_51, ec_s199_52, ec_s199_53, ec_s199_54, ec_s199_56, ec_s199_57, ec_s199_60, ec_s199_61, ec_s199_62, ec_s199_63, ec_s199_66, ec_s199_67, ec_s199_68, ec_s199_71, ec_s199_73, ec_s199_74, ec_s199_75, ec_s199_76, ec_s199_79, ec_s199_82, ec_s199_85, ec_s199_86, ec_s199_87, ec_s199_88, ec_s199_89, ec_s199_90, ec_s199_93, ec_s199_94, ec_s199_95, ec_s199_96, ec_s199_99, ec_s199_100, ec_s199_101, ec_s199_102, ec_s199_103, ec_s199_104, ec_s199_105, ec_s199_106, ec_s199_107, ec_s199_110, ec_s199_113, ec_s199_116, ec_s199_119, ec_s199_120, ec_s199_121, ec_s199_122, ec_s199_123, ec_s199_126, ec_s199_127, ec_s199_128, ec_s199_131, ec_s199_132, ec_s199_133, ec_s199_134, ec_s199_136, ec_s199_139, ec_s199_140, ec_s199_141, ec_s199_142, ec_s199_143, ec_s199_146, ec_s199_149, ec_s199_152, ec_s199_155, ec_s199_156, ec_s199_157, ec_s199_158, ec_s199_161, ec_s199_164, ec_s199_167, ec_s199_170, ec_s199_171, ec_s199_172, ec_s199_173, ec_s199_174, ec_s199_175, ec_s199_178, ec_s199_179, ec_s199_180, ec_s199_181, ec_s199_184, ec_s199_185, ec_s199_186, ec_s199_187, ec_s199_188, ec_s199_189, ec_s199_190, ec_s199_191, ec_s199_192, ec_s199_195, ec_s199_198, ec_s199_201, ec_s199_204, ec_s199_205, ec_s199_207, ec_s199_209, ec_s199_212, ec_s199_213, ec_s199_214, ec_s199_215, ec_s199_218, ec_s199_221, ec_s199_224, ec_s199_227, ec_s199_228, ec_s199_231, ec_zn0, ec_zn1, ec_zn2, ec_zn3, ec_zn4, ec_zn5, ec_zn6, ec_zn7, ec_zn8, ec_zn9, ec_zn10, ec_zn12, ec_zn13, ec_zn14, ec_zn15, ec_zn16, ec_zn20, ec_zn30, ec_zn48, ec_zn99, ec_zn120, ec_zn127, ec_zn11, ec_zn31, ec_zn46, ec_zn57, ec_zn59, ec_zn63, ec_zn101, ec_zn107, ec_zn108, ec_zn110, ec_zn111, ec_zn115, ec_zn116, ec_zn119, ec_zn167, ec_zn185, ec_zn192, ec_zn215, ec_zn233, ec_zn699, ec_zn932, ec_zn999, ec_znF, ec_zneg, ec_zadd, ec_zsub, ec_zmul, ec_zdivO, ec_em, ec_zltO, ec_zeqO, ec_zeq0, ec_qt, ec_qf, if_pos, if_neg, Int.add_zero, ec_aft_v, ec_aft_n, ec_rwE, ec_rwN, ec_rwP, ec_rwK, ec_rwS, ec_w_shpI, ec_w_shpL, ec_w_shpA, hD, g1, g2, e1]
    rfl
theorem ec_c199n (M : ed_ML h σ n p L T) (hL : ed_Ar h 78 48 (fun z => ed_q (ed_lit σ z))) {m : Int} (hm : 0 ≤ m ∧ m < σ 4) : ∀ (r : Nat) (k : Int) (x : Int64), 0 ≤ k → k + r = 8 → ec_om 199 133 [.ref 72, .int (ec_i m), .int (ec_i k)] [] (ec_setL h 72 18 x) = ec_om 199 155 [.ref 72, .int (ec_i m), .int (ec_i 8)] [] (ec_setL h 72 18 (ed_mxs (ed_mov σ m) r k x)) := by
  intro r
  induction r with
  | zero =>
    intro k x h0 hk
    have hk : k = 8 := by omega
    subst hk
    rw [ec_s199_133]
    simp (disch := first | (simp only [ec_01z, ec_01o, ec_01q]; done) | omega | (refine ec_nzO ?_; omega)) only [ec_s199_0, ec_s199_1, ec_s199_2, ec_s199_5, ec_s199_6, ec_s199_9, ec_s199_12, ec_s199_13, ec_s199_14, ec_s199_17, ec_s199_20, ec_s199_21, ec_s199_23, ec_s199_25, ec_s199_28, ec_s199_29, ec_s199_30, ec_s199_31, ec_s199_34, ec_s199_37, ec_s199_40, ec_s199_43, ec_s199_44, ec_s199_47, ec_s199_48, ec_s199_51, ec_s199_52, ec_s199_53, ec_s199_54, ec_s199_56, ec_s199_57, ec_s199_60, ec_s199_61, ec_s199_62, ec_s199_63, ec_s199_66, ec_s199_67, ec_s199_68, ec_s199_71, ec_s199_73, ec_s199_74, ec_s199_75, ec_s199_76, ec_s199_79, ec_s199_82, ec_s199_85, ec_s199_86, ec_s199_87, ec_s199_88, ec_s199_89, ec_s199_90, ec_s199_93, ec_s199_94, ec_s199_95, ec_s199_96, ec_s199_99, ec_s199_100, ec_s199_101, ec_s199_102, ec_s199_103, ec_s199_104, ec_s199_105, ec_s199_106, ec_s199_107, ec_s199_110, ec_s199_113, ec_s199_116, ec_s199_119, ec_s199_120, ec_s199_121, ec_s199_122, ec_s199_123, ec_s199_126, ec_s199_127, ec_s199_128, ec_s199_131, ec_s199_132, ec_s199_134, ec_s199_136, ec_s199_139, ec_s199_140, ec_s199_141, ec_s199_142, ec_s199_143, ec_s199_146, ec_s199_149, ec_s199_152, ec_s199_156, ec_s199_157, ec_s199_158, ec_s199_161, ec_s199_164, ec_s199_167, ec_s199_170, ec_s199_171, ec_s199_172, ec_s199_173, ec_s199_174, ec_s199_175, ec_s199_178, ec_s199_179, ec_s199_180, ec_s199_181, ec_s199_184, ec_s199_185, ec_s199_186, ec_s199_187, ec_s199_188, ec_s199_189, ec_s199_190, ec_s199_191, ec_s199_192, ec_s199_195, ec_s199_198, ec_s199_201, ec_s199_204, ec_s199_205, ec_s199_206, ec_s199_207, ec_s199_209, ec_s199_212, ec_s199_213, ec_s199_214, ec_s199_215, ec_s199_218, ec_s199_221, ec_s199_224, ec_s199_227, ec_s199_228, ec_s199_231, ec_zn0, ec_zn1, ec_zn2, ec_zn3, ec_zn4, ec_zn5, ec_zn6, ec_zn7, ec_zn8, ec_zn9, ec_zn10, ec_zn12, ec_zn13, ec_zn14, ec_zn15, ec_zn16, ec_zn20, ec_zn30, ec_zn48, ec_zn99, ec_zn120, ec_zn127, ec_zn11, ec_zn31, ec_zn46, ec_zn57, ec_zn59, ec_zn63, ec_zn101, ec_zn107, ec_zn108, ec_zn110, ec_zn111, ec_zn115, ec_zn116, ec_zn119, ec_zn167, ec_zn185, ec_zn192, ec_zn215, ec_zn233, ec_zn699, ec_zn932, ec_zn999, ec_znF, ec_zneg, ec_zadd, ec_zsub, ec_zmul, ec_zdivO, ec_em, ec_zltO, ec_zeqO, ec_zeq0, ec_qt, ec_qf, if_pos, if_neg, Int.add_zero, ec_aft_v, ec_aft_n, ec_rwE, ec_rwN, ec_rwP, ec_rwK, ec_rwS, ec_w_shpI, ec_w_shpL, ec_w_shpA]
    rfl
  | succ r ih =>
    intro k x h0 hk
    have e1 := ih (k + 1) (ed_mx x (ed_mov σ m k)) (by omega) (by omega)
    have g1 := fun v => ec_c197 M.1 (x := x) (v := v)
    have g2 := ec_c174 (h := ec_setL h 72 18 x) (M.1.of rfl) M.2.1 M.2.2.1 hm (u := k) (by omega) hL
    have hD := M.1
    unfold ec_MD at hD
    rw [ec_s199_133]
    simp (disch := first | (simp only [ec_w_kI, ec_w_kL, ec_w_kA, ec_w_shpI, ec_w_shpL, ec_w_shpA, ec_isR_r, ec_01z, ec_01o, ec_01q, hD]; done) | omega | (simp only [ec_w_shpI, ec_w_shpL, ec_w_shpA, hD]; refine ec_zinO ?_; omega) | (refine ec_nzO ?_; omega)) only [ec_s199_0, ec_s199_1, ec_s199_2, ec_s199_5, ec_s199_6, ec_s199_9, ec_s199_12, ec_s199_13, ec_s199_14, ec_s199_17, ec_s199_20, ec_s199_21, ec_s199_23, ec_s199_25, ec_s199_28, ec_s199_29, ec_s199_30, ec_s199_31, ec_s199_34, ec_s199_37, ec_s199_40, ec_s199_43, ec_s199_44, ec_s199_47, ec_s199_48, ec_s199_51, ec_s199_52, ec_s199_53, ec_s199_54, ec_s199_56, ec_s199_57, ec_s199_60, ec_s199_61, ec_s199_62, ec_s199_63, ec_s199_66, ec_s199_67, ec_s199_68, ec_s199_71, ec_s199_73, ec_s199_74, ec_s199_75, ec_s199_76, ec_s199_79, ec_s199_82, ec_s199_85, ec_s199_86, ec_s199_87, ec_s199_88, ec_s199_89, ec_s199_90, ec_s199_93, ec_s199_94, ec_s199_95, ec_s199_96, ec_s199_99, ec_s199_100, ec_s199_101, ec_s199_102, ec_s199_103, ec_s199_104, ec_s199_105, ec_s199_106, ec_s199_107, ec_s199_110, ec_s199_113, ec_s199_116, ec_s199_119, ec_s199_120, ec_s199_121, ec_s199_122, ec_s199_123, ec_s199_126, ec_s199_127, ec_s199_128, ec_s199_131, ec_s199_132, ec_s199_134, ec_s199_136, ec_s199_139, ec_s199_140, ec_s199_141, ec_s199_142, ec_s199_143, ec_s199_146, ec_s199_149, ec_s199_152, ec_s199_156, ec_s199_157, ec_s199_158, ec_s199_161, ec_s199_164, ec_s199_167, ec_s199_170, ec_s199_171, ec_s199_172, ec_s199_173, ec_s199_174, ec_s199_175, ec_s199_178, ec_s199_179, ec_s199_180, ec_s199_181, ec_s199_184, ec_s199_185, ec_s199_186, ec_s199_187, ec_s199_188, ec_s199_189, ec_s199_190, ec_s199_191, ec_s199_192, ec_s199_195, ec_s199_198, ec_s199_201, ec_s199_204, ec_s199_205, ec_s199_206, ec_s199_207, ec_s199_209, ec_s199_212, ec_s199_213, ec_s199_214, ec_s199_215, ec_s199_218, ec_s199_221, ec_s199_224, ec_s199_227, ec_s199_228, ec_s199_231, ec_zn0, ec_zn1, ec_zn2, ec_zn3, ec_zn4, ec_zn5, ec_zn6, ec_zn7, ec_zn8, ec_zn9, ec_zn10, ec_zn12, ec_zn13, ec_zn14, ec_zn15, ec_zn16, ec_zn20, ec_zn30, ec_zn48, ec_zn99, ec_zn120, ec_zn127, ec_zn11, ec_zn31, ec_zn46, ec_zn57, ec_zn59, ec_zn63, ec_zn101, ec_zn107, ec_zn108, ec_zn110, ec_zn111, ec_zn115, ec_zn116, ec_zn119, ec_zn167, ec_zn185, ec_zn192, ec_zn215, ec_zn233, ec_zn699, ec_zn932, ec_zn999, ec_znF, ec_zneg, ec_zadd, ec_zsub, ec_zmul, ec_zdivO, ec_em, ec_zltO, ec_zeqO, ec_zeq0, ec_qt, ec_qf, if_pos, if_neg, Int.add_zero, ec_aft_v, ec_aft_n, ec_rwE, ec_rwN, ec_rwP, ec_rwK, ec_rwS, ec_w_shpI, ec_w_shpL, ec_w_shpA, hD, g1, g2, e1]
    rfl
theorem ec_c199m : ∀ (r : Nat) (m : Int) (x : Int64) (h : ec_Hp) (w2 : Value), ed_ML h σ n p L T → ed_Ar h 78 48 (fun z => ed_q (ed_lit σ z)) → 0 ≤ m → m + r = σ 4 → ∃ h' w2', ec_om 199 121 [.ref 72, .int (ec_i m), w2] [] (ec_setL h 72 18 x) = ec_om 199 170 [.ref 72, .int (ec_i (σ 4)), w2'] [] (ec_setL h' 72 18 (ed_mxm σ r m x)) ∧ ec_fg ed_81 h h' := by
  intro r
  induction r with
  | zero =>
    intro m x h w2 M hL h0 hk
    have hk : m = σ 4 := by omega
    have w := M.2.2.1.1
    refine ⟨h, w2, ?_, ec_fg.refl⟩
    have hD := M.1
    have hs := M.2.1
    unfold ec_MD at hD
    unfold ec_Ms at hs
    rw [ec_s199_121]
    simp (disch := first | (simp only [ec_w_kI, ec_w_kL, ec_w_kA, ec_w_shpI, ec_w_shpL, ec_w_shpA, ec_isR_r, ec_01z, ec_01o, ec_01q, hD]; done) | omega | (simp only [ec_w_shpI, ec_w_shpL, ec_w_shpA, hD]; refine ec_zinO ?_; omega) | (refine ec_nzO ?_; omega)) only [ec_s199_0, ec_s199_1, ec_s199_2, ec_s199_5, ec_s199_6, ec_s199_9, ec_s199_12, ec_s199_13, ec_s199_14, ec_s199_17, ec_s199_20, ec_s199_21, ec_s199_23, ec_s199_25, ec_s199_28, ec_s199_29, ec_s199_30, ec_s199_31, ec_s199_34, ec_s199_37, ec_s199_40, ec_s199_43, ec_s199_44, ec_s199_47, ec_s199_48, ec_s199_51, ec_s199_52, ec_s199_53, ec_s199_54, ec_s199_56, ec_s199_57, ec_s199_60, ec_s199_61, ec_s199_62, ec_s199_63, ec_s199_66, ec_s199_67, ec_s199_68, ec_s199_71, ec_s199_73, ec_s199_74, ec_s199_75, ec_s199_76, ec_s199_79, ec_s199_82, ec_s199_85, ec_s199_86, ec_s199_87, ec_s199_88, ec_s199_89, ec_s199_90, ec_s199_93, ec_s199_94, ec_s199_95, ec_s199_96, ec_s199_99, ec_s199_100, ec_s199_101, ec_s199_102, ec_s199_103, ec_s199_104, ec_s199_105, ec_s199_106, ec_s199_107, ec_s199_110, ec_s199_113, ec_s199_116, ec_s199_119, ec_s199_120, ec_s199_122, ec_s199_123, ec_s199_126, ec_s199_127, ec_s199_128, ec_s199_131, ec_s199_132, ec_s199_134, ec_s199_136, ec_s199_139, ec_s199_140, ec_s199_141, ec_s199_142, ec_s199_143, ec_s199_146, ec_s199_149, ec_s199_152, ec_s199_155, ec_s199_156, ec_s199_157, ec_s199_158, ec_s199_161, ec_s199_164, ec_s199_167, ec_s199_171, ec_s199_172, ec_s199_173, ec_s199_174, ec_s199_175, ec_s199_178, ec_s199_179, ec_s199_180, ec_s199_181, ec_s199_184, ec_s199_185, ec_s199_186, ec_s199_187, ec_s199_188, ec_s199_189, ec_s199_190, ec_s199_191, ec_s199_192, ec_s199_195, ec_s199_198, ec_s199_201, ec_s199_204, ec_s199_205, ec_s199_206, ec_s199_207, ec_s199_209, ec_s199_212, ec_s199_213, ec_s199_214, ec_s199_215, ec_s199_218, ec_s199_221, ec_s199_224, ec_s199_227, ec_s199_228, ec_s199_231, ec_zn0, ec_zn1, ec_zn2, ec_zn3, ec_zn4, ec_zn5, ec_zn6, ec_zn7, ec_zn8, ec_zn9, ec_zn10, ec_zn12, ec_zn13, ec_zn14, ec_zn15, ec_zn16, ec_zn20, ec_zn30, ec_zn48, ec_zn99, ec_zn120, ec_zn127, ec_zn11, ec_zn31, ec_zn46, ec_zn57, ec_zn59, ec_zn63, ec_zn101, ec_zn107, ec_zn108, ec_zn110, ec_zn111, ec_zn115, ec_zn116, ec_zn119, ec_zn167, ec_zn185, ec_zn192, ec_zn215, ec_zn233, ec_zn699, ec_zn932, ec_zn999, ec_znF, ec_zneg, ec_zadd, ec_zsub, ec_zmul, ec_zdivO, ec_em, ec_zltO, ec_zeqO, ec_zeq0, ec_qt, ec_qf, if_pos, if_neg, Int.add_zero, ec_aft_v, ec_aft_n, ec_rwE, ec_rwN, ec_rwP, ec_rwK, ec_rwS, ec_w_shpI, ec_w_shpL, ec_w_shpA, hD, hs, ec_w_iL]
    rw [hk]
    rfl
  | succ r ih =>
    intro m x h w2 M hL h0 hk
    have w := M.2.2.1.1
    have e2 := ec_c199n M hL (m := m) (by omega) 8 0 x (by omega) (by omega)
    obtain ⟨h1, a1, a2⟩ := ec_c183 (h := ec_setL h 72 18 (ed_mxs (ed_mov σ m) 8 0 x)) (M.1.of rfl) M.2.1 M.2.2.1 (m := m) (by omega)
    obtain ⟨h2, rfl, a3⟩ := ed_bas a2
    have M2 := M.y a3
    obtain ⟨h3, w2', b1, b2⟩ := ih (m + 1) (ed_mx (ed_mxs (ed_mov σ m) 8 0 x) (ed_nxs σ m)) h2 (.int (ec_i 8)) M2 (hL.fg a3 (fun _ => (by decide : ¬ (78 : Nat) = 81))) (by omega) (by omega)
    refine ⟨h3, w2', ?_, a3.trans b2⟩
    have g1 := fun v => ec_c197 M2.1 (x := ed_mxs (ed_mov σ m) 8 0 x) (v := v)
    have hD := M.1
    have hs := M.2.1
    have hD2 := M2.1
    unfold ec_MD at hD hD2
    have hD := And.intro hD hD2
    unfold ec_Ms at hs
    rw [ec_s199_121]
    simp (disch := first | (simp only [ec_w_kI, ec_w_kL, ec_w_kA, ec_w_shpI, ec_w_shpL, ec_w_shpA, ec_isR_r, ec_01z, ec_01o, ec_01q, hD]; done) | omega | (simp only [ec_w_shpI, ec_w_shpL, ec_w_shpA, hD]; refine ec_zinO ?_; omega) | (refine ec_nzO ?_; omega)) only [ec_s199_0, ec_s199_1, ec_s199_2, ec_s199_5, ec_s199_6, ec_s199_9, ec_s199_12, ec_s199_13, ec_s199_14, ec_s199_17, ec_s199_20, ec_s199_21, ec_s199_23, ec_s199_25, ec_s199_28, ec_s199_29, ec_s199_30, ec_s199_31, ec_s199_34, ec_s199_37, ec_s199_40, ec_s199_43, ec_s199_44, ec_s199_47, ec_s199_48, ec_s199_51, ec_s199_52, ec_s199_53, ec_s199_54, ec_s199_56, ec_s199_57, ec_s199_60, ec_s199_61, ec_s199_62, ec_s199_63, ec_s199_66, ec_s199_67, ec_s199_68, ec_s199_71, ec_s199_73, ec_s199_74, ec_s199_75, ec_s199_76, ec_s199_79, ec_s199_82, ec_s199_85, ec_s199_86, ec_s199_87, ec_s199_88, ec_s199_89, ec_s199_90, ec_s199_93, ec_s199_94, ec_s199_95, ec_s199_96, ec_s199_99, ec_s199_100, ec_s199_101, ec_s199_102, ec_s199_103, ec_s199_104, ec_s199_105, ec_s199_106, ec_s199_107, ec_s199_110, ec_s199_113, ec_s199_116, ec_s199_119, ec_s199_120, ec_s199_122, ec_s199_123, ec_s199_126, ec_s199_127, ec_s199_128, ec_s199_131, ec_s199_132, ec_s199_134, ec_s199_136, ec_s199_139, ec_s199_140, ec_s199_141, ec_s199_142, ec_s199_143, ec_s199_146, ec_s199_149, ec_s199_152, ec_s199_156, ec_s199_157, ec_s199_158, ec_s199_161, ec_s199_164, ec_s199_167, ec_s199_171, ec_s199_172, ec_s199_173, ec_s199_174, ec_s199_175, ec_s199_178, ec_s199_179, ec_s199_180, ec_s199_181, ec_s199_184, ec_s199_185, ec_s199_186, ec_s199_187, ec_s199_188, ec_s199_189, ec_s199_190, ec_s199_191, ec_s199_192, ec_s199_195, ec_s199_198, ec_s199_201, ec_s199_204, ec_s199_205, ec_s199_206, ec_s199_207, ec_s199_209, ec_s199_212, ec_s199_213, ec_s199_214, ec_s199_215, ec_s199_218, ec_s199_221, ec_s199_224, ec_s199_227, ec_s199_228, ec_s199_231, ec_zn0, ec_zn1, ec_zn2, ec_zn3, ec_zn4, ec_zn5, ec_zn6, ec_zn7, ec_zn8, ec_zn9, ec_zn10, ec_zn12, ec_zn13, ec_zn14, ec_zn15, ec_zn16, ec_zn20, ec_zn30, ec_zn48, ec_zn99, ec_zn120, ec_zn127, ec_zn11, ec_zn31, ec_zn46, ec_zn57, ec_zn59, ec_zn63, ec_zn101, ec_zn107, ec_zn108, ec_zn110, ec_zn111, ec_zn115, ec_zn116, ec_zn119, ec_zn167, ec_zn185, ec_zn192, ec_zn215, ec_zn233, ec_zn699, ec_zn932, ec_zn999, ec_znF, ec_zneg, ec_zadd, ec_zsub, ec_zmul, ec_zdivO, ec_em, ec_zltO, ec_zeqO, ec_zeq0, ec_qt, ec_qf, if_pos, if_neg, Int.add_zero, ec_aft_v, ec_aft_n, ec_rwE, ec_rwN, ec_rwP, ec_rwK, ec_rwS, ec_w_shpI, ec_w_shpL, ec_w_shpA, hD, hs, ec_w_iL, e2]
    rw [ec_s199_155]
    simp (disch := first | (simp only [ec_w_kI, ec_w_kL, ec_w_kA, ec_w_shpI, ec_w_shpL, ec_w_shpA, ec_isR_r, ec_01z, ec_01o, ec_01q, hD]; done) | omega | (simp only [ec_w_shpI, ec_w_shpL, ec_w_shpA, hD]; refine ec_zinO ?_; omega) | (refine ec_nzO ?_; omega)) only [ec_s199_0, ec_s199_1, ec_s199_2, ec_s199_5, ec_s199_6, ec_s199_9, ec_s199_12, ec_s199_13, ec_s199_14, ec_s199_17, ec_s199_20, ec_s199_21, ec_s199_23, ec_s199_25, ec_s199_28, ec_s199_29, ec_s199_30, ec_s199_31, ec_s199_34, ec_s199_37, ec_s199_40, ec_s199_43, ec_s199_44, ec_s199_47, ec_s199_48, ec_s199_51, ec_s199_52, ec_s199_53, ec_s199_54, ec_s199_56, ec_s199_57, ec_s199_60, ec_s199_61, ec_s199_62, ec_s199_63, ec_s199_66, ec_s199_67, ec_s199_68, ec_s199_71, ec_s199_73, ec_s199_74, ec_s199_75, ec_s199_76, ec_s199_79, ec_s199_82, ec_s199_85, ec_s199_86, ec_s199_87, ec_s199_88, ec_s199_89, ec_s199_90, ec_s199_93, ec_s199_94, ec_s199_95, ec_s199_96, ec_s199_99, ec_s199_100, ec_s199_101, ec_s199_102, ec_s199_103, ec_s199_104, ec_s199_105, ec_s199_106, ec_s199_107, ec_s199_110, ec_s199_113, ec_s199_116, ec_s199_119, ec_s199_120, ec_s199_122, ec_s199_123, ec_s199_126, ec_s199_127, ec_s199_128, ec_s199_131, ec_s199_132, ec_s199_134, ec_s199_136, ec_s199_139, ec_s199_140, ec_s199_141, ec_s199_142, ec_s199_143, ec_s199_146, ec_s199_149, ec_s199_152, ec_s199_156, ec_s199_157, ec_s199_158, ec_s199_161, ec_s199_164, ec_s199_167, ec_s199_171, ec_s199_172, ec_s199_173, ec_s199_174, ec_s199_175, ec_s199_178, ec_s199_179, ec_s199_180, ec_s199_181, ec_s199_184, ec_s199_185, ec_s199_186, ec_s199_187, ec_s199_188, ec_s199_189, ec_s199_190, ec_s199_191, ec_s199_192, ec_s199_195, ec_s199_198, ec_s199_201, ec_s199_204, ec_s199_205, ec_s199_206, ec_s199_207, ec_s199_209, ec_s199_212, ec_s199_213, ec_s199_214, ec_s199_215, ec_s199_218, ec_s199_221, ec_s199_224, ec_s199_227, ec_s199_228, ec_s199_231, ec_zn0, ec_zn1, ec_zn2, ec_zn3, ec_zn4, ec_zn5, ec_zn6, ec_zn7, ec_zn8, ec_zn9, ec_zn10, ec_zn12, ec_zn13, ec_zn14, ec_zn15, ec_zn16, ec_zn20, ec_zn30, ec_zn48, ec_zn99, ec_zn120, ec_zn127, ec_zn11, ec_zn31, ec_zn46, ec_zn57, ec_zn59, ec_zn63, ec_zn101, ec_zn107, ec_zn108, ec_zn110, ec_zn111, ec_zn115, ec_zn116, ec_zn119, ec_zn167, ec_zn185, ec_zn192, ec_zn215, ec_zn233, ec_zn699, ec_zn932, ec_zn999, ec_znF, ec_zneg, ec_zadd, ec_zsub, ec_zmul, ec_zdivO, ec_em, ec_zltO, ec_zeqO, ec_zeq0, ec_qt, ec_qf, if_pos, if_neg, Int.add_zero, ec_aft_v, ec_aft_n, ec_rwE, ec_rwN, ec_rwP, ec_rwK, ec_rwS, ec_w_shpI, ec_w_shpL, ec_w_shpA, hD, a1, g1, b1]
    rfl
end EDG
