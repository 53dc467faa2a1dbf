/-! The law's loops and its entry. -/
abbrev ed_7 : Nat → Prop := fun x => x ≤ 78
section EDZ
variable {N : Nat} {xs : Nat → Int32} {T : Int → Int}
theorem ec_l1 (hN : N ≤ 260) : ∀ (m : Nat) (k : Int) (h : ec_Hp) (σ : ec_Sg) (n : Int) (p : Int → ec_Sg), ed_ST h σ n p T → h.2.2.2.2.2 = (N, xs) → 0 ≤ k → k + m = 14 →
    ∃ (h' : ec_Hp) (σ' : ec_Sg) (n' : Int) (p' : Int → ec_Sg), ec_om 226 88 [.float 0, .ref 0, .ref 72, .ref 73, .ref 74, .ref 75, .ref 76, .ref 77, .ref 78, .int (ec_i 1), .int (ec_i k), .double 0] [] h = ec_om 226 191 [.float 0, .ref 0, .ref 72, .ref 73, .ref 74, .ref 75, .ref 76, .ref 77, .ref 78, .int (ec_i 1), .int (ec_i 14), .double 0] [] h' ∧ ed_ST h' σ' n' p' T ∧ ed_gz ed_7 (12 * m) h h' := by
  intro m
  induction m with
  | zero =>
    intro k h σ n p S hs h0 hk
    have hk : k = 14 := by omega
    subst hk
    refine ⟨h, σ, n, p, ?_, S, ed_gz.refl⟩
    rw [ec_s226_88]
    simp (disch := first | (simp only [ec_01z, ec_01o, ec_01q]; done) | omega | (refine ec_nzO ?_; omega)) only [ec_s226_90, ec_s226_92, ec_s226_95, ec_s226_97, ec_s226_100, ec_s226_101, ec_s226_102, ec_s226_103, ec_s226_105, ec_s226_107, ec_s226_109, ec_s226_111, ec_s226_113, ec_s226_114, ec_s226_115, ec_s226_117, ec_s226_118, ec_s226_121, ec_s226_123, ec_s226_124, ec_s226_127, ec_s226_128, ec_s226_131, ec_s226_132, ec_s226_134, ec_s226_135, ec_s226_138, ec_s226_139, ec_s226_142, ec_s226_144, ec_s226_146, ec_s226_149, ec_s226_150, ec_s226_153, ec_s226_155, ec_s226_157, ec_s226_160, ec_s226_162, ec_s226_165, ec_s226_167, ec_s226_169, ec_s226_172, ec_s226_174, ec_s226_177, ec_s226_179, ec_s226_180, ec_s226_183, ec_s226_185, ec_s226_188, ec_zn0, ec_zn1, ec_zn2, ec_zn3, ec_zn4, ec_zn5, ec_zn6, ec_zn7, ec_zn8, ec_zn9, ec_zn10, ec_zn12, ec_zn13, ec_zn14, ec_zn15, ec_zn16, ec_zn20, ec_zn30, ec_zn48, ec_zn99, ec_zn120, ec_zn127, ec_zn11, ec_zn31, ec_zn46, ec_zn57, ec_zn59, ec_zn63, ec_zn101, ec_zn107, ec_zn108, ec_zn110, ec_zn111, ec_zn115, ec_zn116, ec_zn119, ec_zn167, ec_zn185, ec_zn192, ec_zn215, ec_zn233, ec_zn699, ec_zn932, ec_zn999, ec_znF, ec_zneg, ec_zadd, ec_zsub, ec_zmul, ec_zdivO, ec_em, ec_zltO, ec_zeqO, ec_zeq0, ec_qt, ec_qf, if_pos, if_neg, Int.add_zero, ec_aft_v, ec_aft_n, ec_rwE, ec_rwN, ec_rwP, ec_rwK, ec_rwS, ec_w_shpI, ec_w_shpL, ec_w_shpA, ec_zn22, ec_zn24, ec_zn40, ec_zn45, ec_zn47, ec_zn96, ec_zn100, ec_zn384, ec_zn480, ec_zn960, ec_zn2001, ec_zn2002, ec_zn2003, ec_zn7919, ec_zn40503, ec_zn10000000, ec_zn2147483647]
  | succ m ih =>
    intro k h σ n p S hs h0 hk
    obtain ⟨x, ex⟩ := ec_p116 hs hN (k := 1 + k) (by omega)
    obtain ⟨u, hu, eu⟩ := ed_msk x
    obtain ⟨c, hc⟩ : ∃ c : Int, c = if k < 4 then 2 else if k < 8 then 5 else if k < 10 then 9 else if k < 12 then 10 else 12 := ⟨_, rfl⟩
    obtain ⟨h1, τ, n1, p1, a1, S1, G1⟩ := ec_p129 S (ec_i (u / 960 * 960 + c))
    have hs1 : h1.2.2.2.2.2 = (N, xs) := G1.2.2.1.trans hs
    obtain ⟨h2, σ2, n2, p2, b1, S2, G2⟩ := ih (k + 1) h1 τ n1 p1 S1 hs1 (by omega) (by omega)
    refine ⟨h2, σ2, n2, p2, ?_, S2, ((G1.trans (S := ed_7) G2 (fun _ _ y => y) (fun _ _ y => y)).up (by omega))⟩
    rw [ec_s226_88]
    by_cases k4 : k < 4
    · rw [if_pos k4] at hc
      subst hc
      simp (disch := first | (simp only [ec_01z, ec_01o, ec_01q]; done) | omega | (refine ec_nzO ?_; omega)) only [ec_s226_90, ec_s226_92, ec_s226_95, ec_s226_97, ec_s226_100, ec_s226_101, ec_s226_102, ec_s226_103, ec_s226_105, ec_s226_107, ec_s226_109, ec_s226_111, ec_s226_113, ec_s226_114, ec_s226_115, ec_s226_117, ec_s226_118, ec_s226_121, ec_s226_123, ec_s226_124, ec_s226_127, ec_s226_128, ec_s226_131, ec_s226_132, ec_s226_134, ec_s226_135, ec_s226_138, ec_s226_139, ec_s226_142, ec_s226_144, ec_s226_146, ec_s226_149, ec_s226_150, ec_s226_153, ec_s226_155, ec_s226_157, ec_s226_160, ec_s226_162, ec_s226_165, ec_s226_167, ec_s226_169, ec_s226_172, ec_s226_174, ec_s226_177, ec_s226_179, ec_s226_180, ec_s226_183, ec_s226_185, ec_s226_188, ec_zn0, ec_zn1, ec_zn2, ec_zn3, ec_zn4, ec_zn5, ec_zn6, ec_zn7, ec_zn8, ec_zn9, ec_zn10, ec_zn12, ec_zn13, ec_zn14, ec_zn15, ec_zn16, ec_zn20, ec_zn30, ec_zn48, ec_zn99, ec_zn120, ec_zn127, ec_zn11, ec_zn31, ec_zn46, ec_zn57, ec_zn59, ec_zn63, ec_zn101, ec_zn107, ec_zn108, ec_zn110, ec_zn111, ec_zn115, ec_zn116, ec_zn119, ec_zn167, ec_zn185, ec_zn192, ec_zn215, ec_zn233, ec_zn699, ec_zn932, ec_zn999, ec_znF, ec_zneg, ec_zadd, ec_zsub, ec_zmul, ec_zdivO, ec_em, ec_zltO, ec_zeqO, ec_zeq0, ec_qt, ec_qf, if_pos, if_neg, Int.add_zero, ec_aft_v, ec_aft_n, ec_rwE, ec_rwN, ec_rwP, ec_rwK, ec_rwS, ec_w_shpI, ec_w_shpL, ec_w_shpA, ec_zn22, ec_zn24, ec_zn40, ec_zn45, ec_zn47, ec_zn96, ec_zn100, ec_zn384, ec_zn480, ec_zn960, ec_zn2001, ec_zn2002, ec_zn2003, ec_zn7919, ec_zn40503, ec_zn10000000, ec_zn2147483647, ex, eu, a1, b1]
    · rw [if_neg k4] at hc
      by_cases k8 : k < 8
      · rw [if_pos k8] at hc
        subst hc
        simp (disch := first | (simp only [ec_01z, ec_01o, ec_01q]; done) | omega | (refine ec_nzO ?_; omega)) only [ec_s226_90, ec_s226_92, ec_s226_95, ec_s226_97, ec_s226_100, ec_s226_101, ec_s226_102, ec_s226_103, ec_s226_105, ec_s226_107, ec_s226_109, ec_s226_111, ec_s226_113, ec_s226_114, ec_s226_115, ec_s226_117, ec_s226_118, ec_s226_121, ec_s226_123, ec_s226_124, ec_s226_127, ec_s226_128, ec_s226_131, ec_s226_132, ec_s226_134, ec_s226_135, ec_s226_138, ec_s226_139, ec_s226_142, ec_s226_144, ec_s226_146, ec_s226_149, ec_s226_150, ec_s226_153, ec_s226_155, ec_s226_157, ec_s226_160, ec_s226_162, ec_s226_165, ec_s226_167, ec_s226_169, ec_s226_172, ec_s226_174, ec_s226_177, ec_s226_179, ec_s226_180, ec_s226_183, ec_s226_185, ec_s226_188, ec_zn0, ec_zn1, ec_zn2, ec_zn3, ec_zn4, ec_zn5, ec_zn6, ec_zn7, ec_zn8, ec_zn9, ec_zn10, ec_zn12, ec_zn13, ec_zn14, ec_zn15, ec_zn16, ec_zn20, ec_zn30, ec_zn48, ec_zn99, ec_zn120, ec_zn127, ec_zn11, ec_zn31, ec_zn46, ec_zn57, ec_zn59, ec_zn63, ec_zn101, ec_zn107, ec_zn108, ec_zn110, ec_zn111, ec_zn115, ec_zn116, ec_zn119, ec_zn167, ec_zn185, ec_zn192, ec_zn215, ec_zn233, ec_zn699, ec_zn932, ec_zn999, ec_znF, ec_zneg, ec_zadd, ec_zsub, ec_zmul, ec_zdivO, ec_em, ec_zltO, ec_zeqO, ec_zeq0, ec_qt, ec_qf, if_pos, if_neg, Int.add_zero, ec_aft_v, ec_aft_n, ec_rwE, ec_rwN, ec_rwP, ec_rwK, ec_rwS, ec_w_shpI, ec_w_shpL, ec_w_shpA, ec_zn22, ec_zn24, ec_zn40, ec_zn45, ec_zn47, ec_zn96, ec_zn100, ec_zn384, ec_zn480, ec_zn960, ec_zn2001, ec_zn2002, ec_zn2003, ec_zn7919, ec_zn40503, ec_zn10000000, ec_zn2147483647, ex, eu, a1, b1]
      · rw [if_neg k8] at hc
        by_cases k10 : k < 10
        · rw [if_pos k10] at hc
          subst hc
          simp (disch := first | (simp only [ec_01z, ec_01o, ec_01q]; done) | omega | (refine ec_nzO ?_; omega)) only [ec_s226_90, ec_s226_92, ec_s226_95, ec_s226_97, ec_s226_100, ec_s226_101, ec_s226_102, ec_s226_103, ec_s226_105, ec_s226_107, ec_s226_109, ec_s226_111, ec_s226_113, ec_s226_114, ec_s226_115, ec_s226_117, ec_s226_118, ec_s226_121, ec_s226_123, ec_s226_124, ec_s226_127, ec_s226_128, ec_s226_131, ec_s226_132, ec_s226_134, ec_s226_135, ec_s226_138, ec_s226_139, ec_s226_142, ec_s226_144, ec_s226_146, ec_s226_149, ec_s226_150, ec_s226_153, ec_s226_155, ec_s226_157, ec_s226_160, ec_s226_162, ec_s226_165, ec_s226_167, ec_s226_169, ec_s226_172, ec_s226_174, ec_s226_177, ec_s226_179, ec_s226_180, ec_s226_183, ec_s226_185, ec_s226_188, ec_zn0, ec_zn1, ec_zn2, ec_zn3, ec_zn4, ec_zn5, ec_zn6, ec_zn7, ec_zn8, ec_zn9, ec_zn10, ec_zn12, ec_zn13, ec_zn14, ec_zn15, ec_zn16, ec_zn20, ec_zn30, ec_zn48, ec_zn99, ec_zn120, ec_zn127, ec_zn11, ec_zn31, ec_zn46, ec_zn57, ec_zn59, ec_zn63, ec_zn101, ec_zn107, ec_zn108, ec_zn110, ec_zn111, ec_zn115, ec_zn116, ec_zn119, ec_zn167, ec_zn185, ec_zn192, ec_zn215, ec_zn233, ec_zn699, ec_zn932, ec_zn999, ec_znF, ec_zneg, ec_zadd, ec_zsub, ec_zmul, ec_zdivO, ec_em, ec_zltO, ec_zeqO, ec_zeq0, ec_qt, ec_qf, if_pos, if_neg, Int.add_zero, ec_aft_v, ec_aft_n, ec_rwE, ec_rwN, ec_rwP, ec_rwK, ec_rwS, ec_w_shpI, ec_w_shpL, ec_w_shpA, ec_zn22, ec_zn24, ec_zn40, ec_zn45, ec_zn47, ec_zn96, ec_zn100, ec_zn384, ec_zn480, ec_zn960, ec_zn2001, ec_zn2002, ec_zn2003, ec_zn7919, ec_zn40503, ec_zn10000000, ec_zn2147483647, ex, eu, a1, b1]
        · rw [if_neg k10] at hc
          by_cases k12 : k < 12
          · rw [if_pos k12] at hc
            subst hc
            simp (disch := first | (simp only [ec_01z, ec_01o, ec_01q]; done) | omega | (refine ec_nzO ?_; omega)) only [ec_s226_90, ec_s226_92, ec_s226_95, ec_s226_97, ec_s226_100, ec_s226_101, ec_s226_102, ec_s226_103, ec_s226_105, ec_s226_107, ec_s226_109, ec_s226_111, ec_s226_113, ec_s226_114, ec_s226_115, ec_s226_117, ec_s226_118, ec_s226_121, ec_s226_123, ec_s226_124, ec_s226_127, ec_s226_128, ec_s226_131, ec_s226_132, ec_s226_134, ec_s226_135, ec_s226_138, ec_s226_139, ec_s226_142, ec_s226_144, ec_s226_146, ec_s226_149, ec_s226_150, ec_s226_153, ec_s226_155, ec_s226_157, ec_s226_160, ec_s226_162, ec_s226_165, ec_s226_167, ec_s226_169, ec_s226_172, ec_s226_174, ec_s226_177, ec_s226_179, ec_s226_180, ec_s226_183, ec_s226_185, ec_s226_188, ec_zn0, ec_zn1, ec_zn2, ec_zn3, ec_zn4, ec_zn5, ec_zn6, ec_zn7, ec_zn8, ec_zn9, ec_zn10, ec_zn12, ec_zn13, ec_zn14, ec_zn15, ec_zn16, ec_zn20, ec_zn30, ec_zn48, ec_zn99, ec_zn120, ec_zn127, ec_zn11, ec_zn31, ec_zn46, ec_zn57, ec_zn59, ec_zn63, ec_zn101, ec_zn107, ec_zn108, ec_zn110, ec_zn111, ec_zn115, ec_zn116, ec_zn119, ec_zn167, ec_zn185, ec_zn192, ec_zn215, ec_zn233, ec_zn699, ec_zn932, ec_zn999, ec_znF, ec_zneg, ec_zadd, ec_zsub, ec_zmul, ec_zdivO, ec_em, ec_zltO, ec_zeqO, ec_zeq0, ec_qt, ec_qf, if_pos, if_neg, Int.add_zero, ec_aft_v, ec_aft_n, ec_rwE, ec_rwN, ec_rwP, ec_rwK, ec_rwS, ec_w_shpI, ec_w_shpL, ec_w_shpA, ec_zn22, ec_zn24, ec_zn40, ec_zn45, ec_zn47, ec_zn96, ec_zn100, ec_zn384, ec_zn480, ec_zn960, ec_zn2001, ec_zn2002, ec_zn2003, ec_zn7919, ec_zn40503, ec_zn10000000, ec_zn2147483647, ex, eu, a1, b1]
          · rw [if_neg k12] at hc
            subst hc
            simp (disch := first | (simp only [ec_01z, ec_01o, ec_01q]; done) | omega | (refine ec_nzO ?_; omega)) only [ec_s226_90, ec_s226_92, ec_s226_95, ec_s226_97, ec_s226_100, ec_s226_101, ec_s226_102, ec_s226_103, ec_s226_105, ec_s226_107, ec_s226_109, ec_s226_111, ec_s226_113, ec_s226_114, ec_s226_115, ec_s226_117, ec_s226_118, ec_s226_121, ec_s226_123, ec_s226_124, ec_s226_127, ec_s226_128, ec_s226_131, ec_s226_132, ec_s226_134, ec_s226_135, ec_s226_138, ec_s226_139, ec_s226_142, ec_s226_144, ec_s226_146, ec_s226_149, ec_s226_150, ec_s226_153, ec_s226_155, ec_s226_157, ec_s226_160, ec_s226_162, ec_s226_165, ec_s226_167, ec_s226_169, ec_s226_172, ec_s226_174, ec_s226_177, ec_s226_179, ec_s226_180, ec_s226_183, ec_s226_185, ec_s226_188, ec_zn0, ec_zn1, ec_zn2, ec_zn3, ec_zn4, ec_zn5, ec_zn6, ec_zn7, ec_zn8, ec_zn9, ec_zn10, ec_zn12, ec_zn13, ec_zn14, ec_zn15, ec_zn16, ec_zn20, ec_zn30, ec_zn48, ec_zn99, ec_zn120, ec_zn127, ec_zn11, ec_zn31, ec_zn46, ec_zn57, ec_zn59, ec_zn63, ec_zn101, ec_zn107, ec_zn108, ec_zn110, ec_zn111, ec_zn115, ec_zn116, ec_zn119, ec_zn167, ec_zn185, ec_zn192, ec_zn215, ec_zn233, ec_zn699, ec_zn932, ec_zn999, ec_znF, ec_zneg, ec_zadd, ec_zsub, ec_zmul, ec_zdivO, ec_em, ec_zltO, ec_zeqO, ec_zeq0, ec_qt, ec_qf, if_pos, if_neg, Int.add_zero, ec_aft_v, ec_aft_n, ec_rwE, ec_rwN, ec_rwP, ec_rwK, ec_rwS, ec_w_shpI, ec_w_shpL, ec_w_shpA, ec_zn22, ec_zn24, ec_zn40, ec_zn45, ec_zn47, ec_zn96, ec_zn100, ec_zn384, ec_zn480, ec_zn960, ec_zn2001, ec_zn2002, ec_zn2003, ec_zn7919, ec_zn40503, ec_zn10000000, ec_zn2147483647, ex, eu, a1, b1]
theorem ec_l2 (hN : N ≤ 260) {t : Int} (ht : 0 ≤ t ∧ t ≤ 100) : ∀ (m : Nat) (k : Int) (h : ec_Hp) (σ : ec_Sg) (n : Int) (p : Int → ec_Sg), ed_ST h σ n p T → h.2.2.2.2.2 = (N, xs) → 0 ≤ k → k + m = t →
    ∃ (h' : ec_Hp) (σ' : ec_Sg) (n' : Int) (p' : Int → ec_Sg), ec_om 226 209 [.float 0, .ref 0, .ref 72, .ref 73, .ref 74, .ref 75, .ref 76, .ref 77, .ref 78, .int (ec_i 1), .int (ec_i t), .int (ec_i k)] [] h = ec_om 226 288 [.float 0, .ref 0, .ref 72, .ref 73, .ref 74, .ref 75, .ref 76, .ref 77, .ref 78, .int (ec_i 1), .int (ec_i t), .int (ec_i t)] [] h' ∧ ed_ST h' σ' n' p' T ∧ ed_gz ed_7 (20 * m) h h' := by
  intro m
  induction m with
  | zero =>
    intro k h σ n p S hs h0 hk
    have hk : k = t := by omega
    subst hk
    refine ⟨h, σ, n, p, ?_, S, ed_gz.refl⟩
    rw [ec_s226_209]
    simp (disch := first | (simp only [ec_01z, ec_01o, ec_01q]; done) | omega | (refine ec_nzO ?_; omega)) only [ec_s226_211, ec_s226_213, ec_s226_216, ec_s226_218, ec_s226_221, ec_s226_222, ec_s226_223, ec_s226_224, ec_s226_226, ec_s226_228, ec_s226_230, ec_s226_232, ec_s226_234, ec_s226_235, ec_s226_237, ec_s226_239, ec_s226_240, ec_s226_243, ec_s226_246, ec_s226_248, ec_s226_249, ec_s226_250, ec_s226_253, ec_s226_256, ec_s226_257, ec_s226_258, ec_s226_259, ec_s226_261, ec_s226_263, ec_s226_265, ec_s226_267, ec_s226_269, ec_s226_272, ec_s226_275, ec_s226_276, ec_s226_279, ec_s226_280, ec_s226_282, ec_s226_285, ec_zn0, ec_zn1, ec_zn2, ec_zn3, ec_zn4, ec_zn5, ec_zn6, ec_zn7, ec_zn8, ec_zn9, ec_zn10, ec_zn12, ec_zn13, ec_zn14, ec_zn15, ec_zn16, ec_zn20, ec_zn30, ec_zn48, ec_zn99, ec_zn120, ec_zn127, ec_zn11, ec_zn31, ec_zn46, ec_zn57, ec_zn59, ec_zn63, ec_zn101, ec_zn107, ec_zn108, ec_zn110, ec_zn111, ec_zn115, ec_zn116, ec_zn119, ec_zn167, ec_zn185, ec_zn192, ec_zn215, ec_zn233, ec_zn699, ec_zn932, ec_zn999, ec_znF, ec_zneg, ec_zadd, ec_zsub, ec_zmul, ec_zdivO, ec_em, ec_zltO, ec_zeqO, ec_zeq0, ec_qt, ec_qf, if_pos, if_neg, Int.add_zero, ec_aft_v, ec_aft_n, ec_rwE, ec_rwN, ec_rwP, ec_rwK, ec_rwS, ec_w_shpI, ec_w_shpL, ec_w_shpA, ec_zn22, ec_zn24, ec_zn40, ec_zn45, ec_zn47, ec_zn96, ec_zn100, ec_zn384, ec_zn480, ec_zn960, ec_zn2001, ec_zn2002, ec_zn2003, ec_zn7919, ec_zn40503, ec_zn10000000, ec_zn2147483647]
  | succ m ih =>
    intro k h σ n p S hs h0 hk
    obtain ⟨x, ex⟩ := ec_p116 hs hN (k := 15 + k) (by omega)
    obtain ⟨h1, τ, n1, p1, a1, S1, G1⟩ := ec_p129 S (x ^^^ ec_i (7919 * k))
    obtain ⟨h2, c1, S2, G2⟩ := ec_p146 S1
    have G2' : ed_gz ed_7 8 h1 h2 := G2.mono (fun q _ y => by have y : q ≤ 71 := y; show q ≤ 78; omega)
    have G12 := G1.trans (S := ed_7) G2' (fun _ _ y => y) (fun _ _ y => y)
    have hs2 : h2.2.2.2.2.2 = (N, xs) := G12.2.2.1.trans hs
    obtain ⟨h3, σ3, n3, p3, b1, S3, G3⟩ := ih (k + 1) h2 τ n1 p1 S2 hs2 (by omega) (by omega)
    refine ⟨h3, σ3, n3, p3, ?_, S3, ((G12.trans (S := ed_7) G3 (fun _ _ y => y) (fun _ _ y => y)).up (by omega))⟩
    rw [ec_s226_209]
    simp (disch := first | (simp only [ec_01z, ec_01o, ec_01q]; done) | omega | (refine ec_nzO ?_; omega)) only [ec_s226_211, ec_s226_213, ec_s226_216, ec_s226_218, ec_s226_221, ec_s226_222, ec_s226_223, ec_s226_224, ec_s226_226, ec_s226_228, ec_s226_230, ec_s226_232, ec_s226_234, ec_s226_235, ec_s226_237, ec_s226_239, ec_s226_240, ec_s226_243, ec_s226_246, ec_s226_248, ec_s226_249, ec_s226_250, ec_s226_253, ec_s226_256, ec_s226_257, ec_s226_258, ec_s226_259, ec_s226_261, ec_s226_263, ec_s226_265, ec_s226_267, ec_s226_269, ec_s226_272, ec_s226_275, ec_s226_276, ec_s226_279, ec_s226_280, ec_s226_282, ec_s226_285, ec_zn0, ec_zn1, ec_zn2, ec_zn3, ec_zn4, ec_zn5, ec_zn6, ec_zn7, ec_zn8, ec_zn9, ec_zn10, ec_zn12, ec_zn13, ec_zn14, ec_zn15, ec_zn16, ec_zn20, ec_zn30, ec_zn48, ec_zn99, ec_zn120, ec_zn127, ec_zn11, ec_zn31, ec_zn46, ec_zn57, ec_zn59, ec_zn63, ec_zn101, ec_zn107, ec_zn108, ec_zn110, ec_zn111, ec_zn115, ec_zn116, ec_zn119, ec_zn167, ec_zn185, ec_zn192, ec_zn215, ec_zn233, ec_zn699, ec_zn932, ec_zn999, ec_znF, ec_zneg, ec_zadd, ec_zsub, ec_zmul, ec_zdivO, ec_em, ec_zltO, ec_zeqO, ec_zeq0, ec_qt, ec_qf, if_pos, if_neg, Int.add_zero, ec_aft_v, ec_aft_n, ec_rwE, ec_rwN, ec_rwP, ec_rwK, ec_rwS, ec_w_shpI, ec_w_shpL, ec_w_shpA, ec_zn22, ec_zn24, ec_zn40, ec_zn45, ec_zn47, ec_zn96, ec_zn100, ec_zn384, ec_zn480, ec_zn960, ec_zn2001, ec_zn2002, ec_zn2003, ec_zn7919, ec_zn40503, ec_zn10000000, ec_zn2147483647, ex, a1, c1, b1]
theorem ec_l3 {h : ec_Hp} {σ : ec_Sg} {n : Int} {p : Int → ec_Sg} (S : ed_ST h σ n p T) {t k : Int} : ∃ h', ec_om 226 288 [.float 0, .ref 0, .ref 72, .ref 73, .ref 74, .ref 75, .ref 76, .ref 77, .ref 78, .int (ec_i 1), .int (ec_i t), .int (ec_i k)] [] h = some (.inl (some (.int (ec_i 1))), h') ∧ ed_gz ed_7 3 h h' := by
  have w := S.W.1
  obtain ⟨h1, a1, S1, G1⟩ := ec_x145 S
  obtain ⟨h2, a2, S2, G2⟩ := (ec_x140 S1 (x := 0) (y := 0) (d := 4) (by unfold ec_rg; omega) (by unfold ec_rg; omega) (by unfold ec_rg; omega)).2 (by unfold ed_kCe; rw [if_pos (by unfold ed_qc; omega), if_neg (by omega)])
  obtain ⟨h3, a3, S3, G3⟩ := (ec_x139 S2 (x := 0) (y := 0) (d := 4) (by unfold ec_rg; omega) (by unfold ec_rg; omega) (by unfold ec_rg; omega)).2 (by unfold ed_kBo; rw [if_pos (by unfold ed_qc; omega), if_neg (by omega)])
  refine ⟨h3, ?_, ((G1.trans (S := ed_7) G2 (fun _ _ y => y.elim) (fun _ _ y => y.elim)).trans (S := ed_7) G3 (fun _ _ y => y) (fun _ _ y => y.elim))⟩
  simp (disch := first | (simp only [ec_01z, ec_01o, ec_01q]; done) | omega | (refine ec_nzO ?_; omega)) only [ec_s226_288, ec_s226_290, ec_s226_293, ec_s226_294, ec_s226_296, ec_s226_299, ec_s226_302, ec_s226_305, ec_s226_306, ec_s226_307, ec_s226_308, ec_s226_309, ec_s226_312, ec_s226_315, ec_s226_318, ec_s226_319, ec_s226_320, ec_s226_321, ec_s226_322, ec_s226_325, ec_s226_328, ec_s226_331, ec_s226_332, ec_s226_335, ec_s226_336, ec_zn0, ec_zn1, ec_zn2, ec_zn3, ec_zn4, ec_zn5, ec_zn6, ec_zn7, ec_zn8, ec_zn9, ec_zn10, ec_zn12, ec_zn13, ec_zn14, ec_zn15, ec_zn16, ec_zn20, ec_zn30, ec_zn48, ec_zn99, ec_zn120, ec_zn127, ec_zn11, ec_zn31, ec_zn46, ec_zn57, ec_zn59, ec_zn63, ec_zn101, ec_zn107, ec_zn108, ec_zn110, ec_zn111, ec_zn115, ec_zn116, ec_zn119, ec_zn167, ec_zn185, ec_zn192, ec_zn215, ec_zn233, ec_zn699, ec_zn932, ec_zn999, ec_znF, ec_zneg, ec_zadd, ec_zsub, ec_zmul, ec_zdivO, ec_em, ec_zltO, ec_zeqO, ec_zeq0, ec_qt, ec_qf, if_pos, if_neg, Int.add_zero, ec_aft_v, ec_aft_n, ec_rwE, ec_rwN, ec_rwP, ec_rwK, ec_rwS, ec_w_shpI, ec_w_shpL, ec_w_shpA, ec_zn22, ec_zn24, ec_zn40, ec_zn45, ec_zn47, ec_zn96, ec_zn100, ec_zn384, ec_zn480, ec_zn960, ec_zn2001, ec_zn2002, ec_zn2003, ec_zn7919, ec_zn40503, ec_zn10000000, ec_zn2147483647, a1, a2, a3, reduceIte]
set_option maxHeartbeats 2000000 in
theorem ec_l0 (hN : N ≤ 260) : ∃ (h : ec_Hp), ec_om 226 0 [.float 0, .double 0, .double 0, .double 0, .double 0, .double 0, .double 0, .double 0, .double 0, .double 0, .double 0, .double 0] [] (ec_h0 N xs) = ec_om 226 67 [.float 0, .ref 0, .ref 72, .ref 73, .ref 74, .ref 75, .ref 76, .ref 77, .ref 78, .double 0, .double 0, .double 0] [] h ∧ ed_ST h (ed_new 5 4) 0 (fun _ => ed_new 5 4) (fun _ => 0) ∧ h.2.2.2.2.2 = (N, xs) ∧ h.2.2.2.1 ≤ 100 ∧ h.2.2.2.2.1 ≤ 500000 := by
  have l0 : (ec_h0 N xs).1.length = 0 := rfl
  obtain ⟨a1, ea, la, sa, za, ga⟩ := ed_nw (ec_h0 N xs) 6 6 (by omega)
  rw [l0] at la sa za ga
  obtain ⟨a2, ra, Ca, lb, gb⟩ := ec_c70s la sa
  obtain ⟨b1, eb1, lb1, sb1, zb1, gb1⟩ := ed_nw a2 16 11 (by omega)
  rw [lb] at lb1 sb1 zb1 gb1
  obtain ⟨b2, eb2, lb2, sb2, zb2, gb2⟩ := ed_nw b1 16 48 (by omega)
  rw [lb1] at lb2 sb2 zb2 gb2
  obtain ⟨b3, eb3, lb3, sb3, zb3, gb3⟩ := ed_nw b2 16 48 (by omega)
  rw [lb2] at lb3 sb3 zb3 gb3
  obtain ⟨b4, eb4, lb4, sb4, zb4, gb4⟩ := ed_nw b3 16 24 (by omega)
  rw [lb3] at lb4 sb4 zb4 gb4
  obtain ⟨b5, eb5, lb5, sb5, zb5, gb5⟩ := ed_nw b4 16 9 (by omega)
  rw [lb4] at lb5 sb5 zb5 gb5
  obtain ⟨b6, eb6, lb6, sb6, zb6, gb6⟩ := ed_nw b5 16 15 (by omega)
  rw [lb5] at lb6 sb6 zb6 gb6
  obtain ⟨b7, eb7, lb7, sb7, zb7, gb7⟩ := ed_nw b6 16 9 (by omega)
  rw [lb6] at lb7 sb7 zb7 gb7
  have g67 : ed_gw 78 b6 b7 := gb7
  have g57 : ed_gw 77 b5 b7 := gb6.trans gb7 (by omega)
  have g47 : ed_gw 76 b4 b7 := gb5.trans g57 (by omega)
  have g37 : ed_gw 75 b3 b7 := gb4.trans g47 (by omega)
  have g27 : ed_gw 74 b2 b7 := gb3.trans g37 (by omega)
  have g17 : ed_gw 73 b1 b7 := gb2.trans g27 (by omega)
  have g07 : ed_gw 72 a2 b7 := gb1.trans g17 (by omega)
  have gg : ed_gw 0 (ec_h0 N xs) b7 := ga.trans (gb.trans g07 (by omega)) (by omega)
  have v1 := g17.at_ (q := 72) (by omega)
  have v2 := g27.at_ (q := 73) (by omega)
  have v3 := g37.at_ (q := 74) (by omega)
  have v4 := g47.at_ (q := 75) (by omega)
  have v5 := g57.at_ (q := 76) (by omega)
  have v6 := g67.at_ (q := 77) (by omega)
  have kk : ∀ (q m : Nat), ec_shp b7 q = (16, m, fun _ => .null) → ec_isK b7 q 16 = true ∧ (ec_shp b7 q).2.1 = m := fun q m e => ⟨ec_k_of e, by rw [e]⟩
  have D : ed_LD b7 := ⟨kk 72 11 (v1.1.trans sb1), kk 73 48 (v2.1.trans sb2), kk 74 48 (v3.1.trans sb3), kk 75 24 (v4.1.trans sb4), kk 76 9 (v5.1.trans sb5), kk 77 15 (v6.1.trans sb6), kk 78 9 sb7⟩
  have A : ed_LA b7 (fun _ => 0) := ⟨fun z _ => (v1.2 _).trans (zb1 _), fun z _ => (v2.2 _).trans (zb2 _), fun z _ => (v3.2 _).trans (zb3 _), fun z _ => (v4.2 _).trans (zb4 _), fun z _ => (v5.2 _).trans (zb5 _), fun z _ => (v6.2 _).trans (zb6 _), fun z _ => zb7 _⟩
  have A4 : ed_LA _ (ed_new 5 4) := (((A.w72 (z := 0) (v := 5) (by omega)).w72 (z := 1) (v := 4) (by omega)).w72 (z := 7) (v := 5) (by omega)).w72 (z := 8) (v := 20) (by omega)
  generalize eh : ec_setI (ec_setI (ec_setI (ec_setI b7 72 (ec_i 0).toNatClampNeg (ec_i 5)) 72 (ec_i 1).toNatClampNeg (ec_i 4)) 72 (ec_i 7).toNatClampNeg (ec_i 5)) 72 (ec_i 8).toNatClampNeg (ec_i 20) = h at A4
  have f : ec_fg ed_my b7 h := by rw [← eh]; exact (((ec_fg.refl.I (by exact ⟨by decide, by decide⟩)).I (by exact ⟨by decide, by decide⟩)).I (by exact ⟨by decide, by decide⟩)).I (by exact ⟨by decide, by decide⟩)
  have G : ed_gz ed_mz 0 b7 h := ed_gz.fg (S := ed_mz) f (fun _ _ y => y)
  have C7 : ed_CL b7 (ed_new 5 4) 0 (fun _ => ed_new 5 4) 0 (fun _ => 0) := (Ca _ _).gz (fun q hq => (g07.at_ (q := q) (by omega)).1) (fun q j hq => (g07.at_ (q := q) (by omega)).2 j)
  have B : ed_L4 (ed_new 5 4) := by
    unfold ed_L4
    rw [ed_new_v, ed_new_v, ed_new_v, ed_new_v]
    decide
  obtain ⟨-, hs, x, y, t1, t2, t3, t4⟩ := gg
  have z0 : (ec_h0 N xs).2.2.2.1 = 0 := rfl
  have z1 : (ec_h0 N xs).2.2.2.2.1 = 0 := rfl
  have f2 : h.2.2 = b7.2.2 := f.1.2
  refine ⟨h, ?_, ⟨C7.mz D.len G, D.of f.1.1, A4, B⟩, ?_, ?_, ?_⟩
  · have d11 : (decide ((0 : Int32) ≤ (11 : Int32)) && Nat.ble (11 : Int32).toNatClampNeg 5000) = true := by decide
    have d48 : (decide ((0 : Int32) ≤ (48 : Int32)) && Nat.ble (48 : Int32).toNatClampNeg 5000) = true := by decide
    have d24 : (decide ((0 : Int32) ≤ (24 : Int32)) && Nat.ble (24 : Int32).toNatClampNeg 5000) = true := by decide
    have d9 : (decide ((0 : Int32) ≤ (9 : Int32)) && Nat.ble (9 : Int32).toNatClampNeg 5000) = true := by decide
    have d15 : (decide ((0 : Int32) ≤ (15 : Int32)) && Nat.ble (15 : Int32).toNatClampNeg 5000) = true := by decide
    have k11 : (11 : Int32).toNatClampNeg = 11 := by decide
    have k48 : (48 : Int32).toNatClampNeg = 48 := by decide
    have k24 : (24 : Int32).toNatClampNeg = 24 := by decide
    have k9 : (9 : Int32).toNatClampNeg = 9 := by decide
    have k15 : (15 : Int32).toNatClampNeg = 15 := by decide
    have st : ec_om 226 0 [.float 0, .double 0, .double 0, .double 0, .double 0, .double 0, .double 0, .double 0, .double 0, .double 0, .double 0, .double 0] [] (ec_h0 N xs) = ec_om 226 8 [.float 0, .ref 0, .double 0, .double 0, .double 0, .double 0, .double 0, .double 0, .double 0, .double 0, .double 0, .double 0] [] a2 := by
      have hD := ec_k_of sa
      simp (disch := first | (simp only [ec_w_kI, ec_w_kL, ec_w_kA, ec_w_shpI, ec_w_shpL, ec_w_shpA, ec_isR_r, ec_01z, ec_01o, ec_01q, hD]; done) | omega | (simp only [ec_w_shpI, ec_w_shpL, ec_w_shpA, hD]; refine ec_zinO ?_; omega) | (refine ec_nzO ?_; omega)) only [ec_s226_0, ec_s226_3, ec_s226_4, ec_s226_7, ec_zn0, ec_zn1, ec_zn2, ec_zn3, ec_zn4, ec_zn5, ec_zn6, ec_zn7, ec_zn8, ec_zn9, ec_zn10, ec_zn12, ec_zn13, ec_zn14, ec_zn15, ec_zn16, ec_zn20, ec_zn30, ec_zn48, ec_zn99, ec_zn120, ec_zn127, ec_zn11, ec_zn31, ec_zn46, ec_zn57, ec_zn59, ec_zn63, ec_zn101, ec_zn107, ec_zn108, ec_zn110, ec_zn111, ec_zn115, ec_zn116, ec_zn119, ec_zn167, ec_zn185, ec_zn192, ec_zn215, ec_zn233, ec_zn699, ec_zn932, ec_zn999, ec_znF, ec_zneg, ec_zadd, ec_zsub, ec_zmul, ec_zdivO, ec_em, ec_zltO, ec_zeqO, ec_zeq0, ec_qt, ec_qf, if_pos, if_neg, Int.add_zero, ec_aft_v, ec_aft_n, ec_rwE, ec_rwN, ec_rwP, ec_rwK, ec_rwS, ec_w_shpI, ec_w_shpL, ec_w_shpA, ec_zn22, ec_zn24, ec_zn40, ec_zn45, ec_zn47, ec_zn96, ec_zn100, ec_zn384, ec_zn480, ec_zn960, ec_zn2001, ec_zn2002, ec_zn2003, ec_zn7919, ec_zn40503, ec_zn10000000, ec_zn2147483647, hD, l0, ea, ra]
    rw [st, ec_s226_8, ec_s226_10 d11, k11, eb1, lb, ec_s226_12, ec_s226_13, ec_s226_15 d48, k48, eb2, lb1, ec_s226_17, ec_s226_18, ec_s226_20 d48, k48, eb3, lb2, ec_s226_22, ec_s226_24, ec_s226_26 d24, k24, eb4, lb3, ec_s226_28, ec_s226_30, ec_s226_32 d9, k9, eb5, lb4, ec_s226_34, ec_s226_36, ec_s226_38 d15, k15, eb6, lb5, ec_s226_40, ec_s226_42, ec_s226_44 d9, k9, eb7, lb6, ec_s226_46, ← eh]
    have hD := D
    unfold ed_LD at hD
    simp (disch := first | (simp only [ec_w_kI, ec_w_kL, ec_w_kA, ec_w_shpI, ec_w_shpL, ec_w_shpA, ec_isR_r, ec_01z, ec_01o, ec_01q, hD]; done) | omega | (simp only [ec_w_shpI, ec_w_shpL, ec_w_shpA, hD]; refine ec_zinO ?_; omega) | (refine ec_nzO ?_; omega)) only [ec_s226_48, ec_s226_49, ec_s226_50, ec_s226_51, ec_s226_52, ec_s226_53, ec_s226_54, ec_s226_55, ec_s226_56, ec_s226_57, ec_s226_59, ec_s226_60, ec_s226_61, ec_s226_62, ec_s226_64, ec_s226_66, ec_zn0, ec_zn1, ec_zn2, ec_zn3, ec_zn4, ec_zn5, ec_zn6, ec_zn7, ec_zn8, ec_zn9, ec_zn10, ec_zn12, ec_zn13, ec_zn14, ec_zn15, ec_zn16, ec_zn20, ec_zn30, ec_zn48, ec_zn99, ec_zn120, ec_zn127, ec_zn11, ec_zn31, ec_zn46, ec_zn57, ec_zn59, ec_zn63, ec_zn101, ec_zn107, ec_zn108, ec_zn110, ec_zn111, ec_zn115, ec_zn116, ec_zn119, ec_zn167, ec_zn185, ec_zn192, ec_zn215, ec_zn233, ec_zn699, ec_zn932, ec_zn999, ec_znF, ec_zneg, ec_zadd, ec_zsub, ec_zmul, ec_zdivO, ec_em, ec_zltO, ec_zeqO, ec_zeq0, ec_qt, ec_qf, if_pos, if_neg, Int.add_zero, ec_aft_v, ec_aft_n, ec_rwE, ec_rwN, ec_rwP, ec_rwK, ec_rwS, ec_w_shpI, ec_w_shpL, ec_w_shpA, ec_zn22, ec_zn24, ec_zn40, ec_zn45, ec_zn47, ec_zn96, ec_zn100, ec_zn384, ec_zn480, ec_zn960, ec_zn2001, ec_zn2002, ec_zn2003, ec_zn7919, ec_zn40503, ec_zn10000000, ec_zn2147483647, hD]
  · rw [f2]
    exact hs
  · rw [f2]
    have : h.1.length = b7.1.length := by rw [f.1.1]
    omega
  · rw [f2]
    omega
theorem ec_pure : ec_Pure := by
  intro L xs hL
  obtain ⟨h1, e1, S1, s1, c1, d1⟩ := ec_l0 (xs := xs) hL
  obtain ⟨h2, e2, S2, G2⟩ := ec_p146 S1
  have s2 : h2.2.2.2.2.2 = (L, xs) := G2.2.2.1.trans s1
  obtain ⟨h3, σ3, n3, p3, e3, S3, G3⟩ := ec_l1 hL 14 0 h2 _ _ _ S2 s2 (by omega) (by omega)
  have s3 : h3.2.2.2.2.2 = (L, xs) := G3.2.2.1.trans s2
  obtain ⟨x, ex⟩ := ec_p116 s3 hL (k := 0) (by omega)
  obtain ⟨r, hr, er⟩ := ec_p117 (h := h3) x (m := 45) (by omega)
  obtain ⟨h4, σ4, n4, p4, e4, S4, G4⟩ := ec_l2 hL (t := 8 + r) (by omega) (8 + r).toNat 0 h3 _ _ _ S3 s3 (by omega) (by omega)
  obtain ⟨h5, e5, G5⟩ := ec_l3 S4 (t := 8 + r) (k := 8 + r)
  have f : ec_om 226 0 (ec_iniL 226 [.float 0]) [] (ec_h0 L xs) = some (.inl (some (.int 1)), h5) := by
    have f0 : ec_om 226 0 [.float 0, .double 0, .double 0, .double 0, .double 0, .double 0, .double 0, .double 0, .double 0, .double 0, .double 0, .double 0] [] (ec_h0 L xs) = some (.inl (some (.int (ec_i 1))), h5) := by
      rw [e1]
      simp (disch := first | (simp only [ec_01z, ec_01o, ec_01q]; done) | omega | (refine ec_nzO ?_; omega)) only [ec_s226_67, ec_s226_68, ec_s226_69, ec_s226_70, ec_s226_72, ec_s226_74, ec_s226_76, ec_s226_78, ec_s226_80, ec_s226_83, ec_s226_85, ec_s226_86, ec_zn0, ec_zn1, ec_zn2, ec_zn3, ec_zn4, ec_zn5, ec_zn6, ec_zn7, ec_zn8, ec_zn9, ec_zn10, ec_zn12, ec_zn13, ec_zn14, ec_zn15, ec_zn16, ec_zn20, ec_zn30, ec_zn48, ec_zn99, ec_zn120, ec_zn127, ec_zn11, ec_zn31, ec_zn46, ec_zn57, ec_zn59, ec_zn63, ec_zn101, ec_zn107, ec_zn108, ec_zn110, ec_zn111, ec_zn115, ec_zn116, ec_zn119, ec_zn167, ec_zn185, ec_zn192, ec_zn215, ec_zn233, ec_zn699, ec_zn932, ec_zn999, ec_znF, ec_zneg, ec_zadd, ec_zsub, ec_zmul, ec_zdivO, ec_em, ec_zltO, ec_zeqO, ec_zeq0, ec_qt, ec_qf, if_pos, if_neg, Int.add_zero, ec_aft_v, ec_aft_n, ec_rwE, ec_rwN, ec_rwP, ec_rwK, ec_rwS, ec_w_shpI, ec_w_shpL, ec_w_shpA, ec_zn22, ec_zn24, ec_zn40, ec_zn45, ec_zn47, ec_zn96, ec_zn100, ec_zn384, ec_zn480, ec_zn960, ec_zn2001, ec_zn2002, ec_zn2003, ec_zn7919, ec_zn40503, ec_zn10000000, ec_zn2147483647, e2, e3]
      simp (disch := first | (simp only [ec_01z, ec_01o, ec_01q]; done) | omega | (refine ec_nzO ?_; omega)) only [ec_s226_191, ec_s226_193, ec_s226_194, ec_s226_195, ec_s226_198, ec_s226_200, ec_s226_203, ec_s226_204, ec_s226_206, ec_s226_207, ec_zn0, ec_zn1, ec_zn2, ec_zn3, ec_zn4, ec_zn5, ec_zn6, ec_zn7, ec_zn8, ec_zn9, ec_zn10, ec_zn12, ec_zn13, ec_zn14, ec_zn15, ec_zn16, ec_zn20, ec_zn30, ec_zn48, ec_zn99, ec_zn120, ec_zn127, ec_zn11, ec_zn31, ec_zn46, ec_zn57, ec_zn59, ec_zn63, ec_zn101, ec_zn107, ec_zn108, ec_zn110, ec_zn111, ec_zn115, ec_zn116, ec_zn119, ec_zn167, ec_zn185, ec_zn192, ec_zn215, ec_zn233, ec_zn699, ec_zn932, ec_zn999, ec_znF, ec_zneg, ec_zadd, ec_zsub, ec_zmul, ec_zdivO, ec_em, ec_zltO, ec_zeqO, ec_zeq0, ec_qt, ec_qf, if_pos, if_neg, Int.add_zero, ec_aft_v, ec_aft_n, ec_rwE, ec_rwN, ec_rwP, ec_rwK, ec_rwS, ec_w_shpI, ec_w_shpL, ec_w_shpA, ec_zn22, ec_zn24, ec_zn40, ec_zn45, ec_zn47, ec_zn96, ec_zn100, ec_zn384, ec_zn480, ec_zn960, ec_zn2001, ec_zn2002, ec_zn2003, ec_zn7919, ec_zn40503, ec_zn10000000, ec_zn2147483647, ex, er, e4, e5]
    exact f0
  obtain ⟨n, hn⟩ := ec_om_iff.mp f
  have q2 := G2.2.2.2
  have q3 := G3.2.2.2
  have q4 := G4.2.2.2
  have q5 := G5.2.2.2
  exact ⟨n, h5, hn, by omega, by omega⟩
end EDZ
