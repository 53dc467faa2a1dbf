/-! Contracts of the reference: monsters hear and see. -/
abbrev ed_Hh : Nat → Nat → Prop := fun q _ => q = 73 ∨ q = 78 ∨ q = 79 ∨ q = 80
abbrev ed_Hs : Nat → Nat → Prop := fun q _ => q = 73 ∨ q = 80
theorem ed_SO.Hs {h h' : ec_Hp} {n : Int} {f g : Int → Int} (b : ed_SO h n f g) (a : ec_fg ed_Hs h h') : ed_SO h' n f g := b.fg a (by decide) (fun _ => (by decide : ¬ ((82 : Nat) = 73 ∨ (82 : Nat) = 80))) (fun _ => (by decide : ¬ ((83 : Nat) = 73 ∨ (83 : Nat) = 80)))
theorem ed_su_su {σ : ec_Sg} {k a b : Int} : ec_su (ec_su σ k a) k b = ec_su σ k b := by
  funext j
  unfold ec_su
  split <;> rfl
theorem ed_su_id {σ : ec_Sg} {k : Int} : ec_su σ k (σ k) = σ := by
  funext j
  unfold ec_su
  split
  · rename_i e; rw [e]
  · rfl
theorem ed_lit_Ar {h : ec_Hp} {σ σ' : ec_Sg} (a : ed_ag σ σ') (w : ec_WF σ) (b : ed_Ar h 78 48 (fun z => ed_q (ed_lit σ z))) : ed_Ar h 78 48 (fun z => ed_q (ed_lit σ' z)) := fun z hz => by
  rw [b z hz]
  show ec_i (ed_q _) = ec_i (ed_q _)
  rw [ed_q_c (a.lit w)]
/-- one sound -/
abbrev ed_hq (σ : ec_Sg) (m p l mo : Int) : Prop := σ (185 + 5 * m + 1) ≤ l - ed_lb σ 2 p (σ (185 + 5 * m)).toNat ∧ mo ≤ l - ed_lb σ 2 p (σ (185 + 5 * m)).toNat
set_option maxHeartbeats 1000000 in
theorem ec_c160s {h : ec_Hp} {σ : ec_Sg} (hD : ec_MD h) (hs : ec_Ms h σ) (hW : ec_WF σ) {n m k mo : Int} {f g : Int → Int} {w5 w6 : Value} (hS : ed_SO h n f g) (hm : 0 ≤ m ∧ m < σ 4) (hk : 0 ≤ k ∧ k < n) (hp : ec_ing σ (f k)) (hl : 0 ≤ g k ∧ g k ≤ 9) (hmo : 0 ≤ mo ∧ mo ≤ 9) :
    ∃ h' w5' w6', ec_om 160 29 [.ref 72, .int (ec_i m), .int (ec_i (185 + 5 * m)), .int (ec_i mo), .int (ec_i k), w5, w6] [] h = ec_om 160 29 [.ref 72, .int (ec_i m), .int (ec_i (185 + 5 * m)), .int (ec_i (if ed_hq σ m (f k) (g k) mo then g k - ed_lb σ 2 (f k) (σ (185 + 5 * m)).toNat else mo)), .int (ec_i (k + 1)), w5', w6'] [] h' ∧
      ec_Ms h' (ec_su σ (185 + 5 * m + 3) (if ed_hq σ m (f k) (g k) mo then f k else σ (185 + 5 * m + 3))) ∧ ec_fg ed_Hs h h' := by
  have M := ed_mon hW hm
  have Mc := M.1.1
  obtain ⟨s1, s2, s3⟩ := hS
  obtain ⟨s4, s5⟩ := s3 k hk
  obtain ⟨h1, a1, a2, a3⟩ := ec_c139 hD hs hW hp
  have lb := ed_lb_bd hW (m := 2) hp.1 (k := (σ (185 + 5 * m)).toNat) (by omega)
  have lf := ed_snd_fin hW hp M.1
  have ac : h1.2.1 80 (ec_i (σ (185 + 5 * m))).toNatClampNeg = ec_i (ed_lb σ 2 (f k) (σ (185 + 5 * m)).toNat) := by
    rw [a2 _ Mc]
    unfold ed_cap
    rw [if_neg (by omega)]
  have hs1 := hs.fg a3 (fun _ => (by decide : ¬ (73 : Nat) = 80))
  have hD1 := hD.of a3.1.1
  have t4 : h1.2.1 82 (ec_i k).toNatClampNeg = ec_i (f k) := (a3.2 _ _ (by decide : ¬ (82 : Nat) = 80)).trans s4
  have t5 : h1.2.1 83 (ec_i k).toNatClampNeg = ec_i (g k) := (a3.2 _ _ (by decide : ¬ (83 : Nat) = 80)).trans s5
  have w := hW.1
  have fr : ∀ x, ec_fg ed_Hs h (ec_setI h1 73 (ec_i (185 + 5 * m + 3)).toNatClampNeg x) := fun x => (a3.mono (fun q j e => Or.inr e)).I (Or.inl rfl)
  have hs0 := hs1
  unfold ec_MD at hD hD1
  have hD := And.intro hD hD1
  unfold ec_Ms at hs hs1
  have nrg : n ≤ 2 := s2.2
  rw [ec_s160_29]
  generalize e : ec_om 160 31 [.ref 72, .int (ec_i m), .int (ec_i (185 + 5 * m)), .int (ec_i mo), .int (ec_i k), w5, w6] [.int (ec_i k)] h = r
  by_cases q1 : σ (185 + 5 * m + 1) ≤ g k - ed_lb σ 2 (f k) (σ (185 + 5 * m)).toNat
  · by_cases q2 : mo ≤ g k - ed_lb σ 2 (f k) (σ (185 + 5 * m)).toNat
    · rw [if_pos ⟨q1, q2⟩, if_pos ⟨q1, q2⟩]
      simp (disch := first | (simp only [ec_w_kI, ec_w_kL, ec_w_kA, ec_w_shpI, ec_w_shpL, ec_w_shpA, ec_isR_r, ec_01z, ec_01o, ec_01q, hD]; done) | omega | (simp only [ec_w_shpI, ec_w_shpL, ec_w_shpA, hD]; refine ec_zinO ?_; omega) | (refine ec_nzO ?_; omega)) only [ec_s160_0, ec_s160_1, ec_s160_4, ec_s160_5, ec_s160_7, ec_s160_8, ec_s160_11, ec_s160_12, ec_s160_13, ec_s160_16, ec_s160_19, ec_s160_20, ec_s160_21, ec_s160_22, ec_s160_23, ec_s160_24, ec_s160_25, ec_s160_26, ec_s160_27, ec_s160_31, ec_s160_32, ec_s160_35, ec_s160_38, ec_s160_39, ec_s160_40, ec_s160_43, ec_s160_45, ec_s160_46, ec_s160_49, ec_s160_50, ec_s160_53, ec_s160_55, ec_s160_56, ec_s160_57, ec_s160_60, ec_s160_61, ec_s160_64, ec_s160_65, ec_s160_66, ec_s160_67, ec_s160_68, ec_s160_70, ec_s160_72, ec_s160_73, ec_s160_76, ec_s160_77, ec_s160_78, ec_s160_79, ec_s160_80, ec_s160_83, ec_s160_85, ec_s160_86, ec_s160_89, ec_s160_90, ec_s160_93, ec_s160_94, ec_s160_96, ec_s160_97, ec_s160_100, ec_s160_101, ec_s160_102, ec_s160_103, ec_s160_105, ec_s160_108, ec_s160_109, ec_s160_112, ec_s160_114, ec_s160_115, ec_s160_118, ec_s160_119, ec_s160_122, ec_s160_123, ec_s160_124, ec_s160_125, ec_s160_126, ec_s160_127, ec_s160_129, ec_s160_132, ec_s160_134, ec_s160_137, ec_s160_138, ec_s160_139, ec_s160_142, ec_s160_145, ec_s160_146, ec_s160_149, ec_s160_150, ec_s160_151, ec_s160_152, ec_s160_153, ec_s160_154, ec_s160_157, ec_s160_160, ec_s160_161, ec_s160_164, ec_s160_166, ec_s160_167, ec_s160_170, ec_s160_171, ec_s160_174, ec_s160_175, ec_s160_176, ec_s160_177, ec_s160_178, ec_s160_179, ec_s160_182, ec_s160_185, ec_zn0, ec_zn1, ec_zn2, ec_zn3, ec_zn4, ec_zn5, ec_zn6, ec_zn7, ec_zn8, ec_zn9, ec_zn10, ec_zn12, ec_zn13, ec_zn14, ec_zn15, ec_zn16, ec_zn20, ec_zn30, ec_zn48, ec_zn99, ec_zn120, ec_zn127, ec_zn11, ec_zn31, ec_zn46, ec_zn57, ec_zn59, ec_zn63, ec_zn101, ec_zn107, ec_zn108, ec_zn110, ec_zn111, ec_zn115, ec_zn116, ec_zn119, ec_zn167, ec_zn185, ec_zn192, ec_zn215, ec_zn233, ec_zn699, ec_zn932, ec_zn999, ec_znF, ec_zneg, ec_zadd, ec_zsub, ec_zmul, ec_zdivO, ec_em, ec_zltO, ec_zeqO, ec_zeq0, ec_qt, ec_qf, if_pos, if_neg, Int.add_zero, ec_aft_v, ec_aft_n, ec_rwE, ec_rwN, ec_rwP, ec_rwK, ec_rwS, ec_w_shpI, ec_w_shpL, ec_w_shpA, hD, hs, hs1, s1, s4, s5, t4, t5, a1, ac] at e
      exact ⟨_, _, _, e.symm, hs0.w (by omega), fr _⟩
    · rw [if_neg (fun y => q2 y.2), if_neg (fun y => q2 y.2)]
      simp (disch := first | (simp only [ec_w_kI, ec_w_kL, ec_w_kA, ec_w_shpI, ec_w_shpL, ec_w_shpA, ec_isR_r, ec_01z, ec_01o, ec_01q, hD]; done) | omega | (simp only [ec_w_shpI, ec_w_shpL, ec_w_shpA, hD]; refine ec_zinO ?_; omega) | (refine ec_nzO ?_; omega)) only [ec_s160_0, ec_s160_1, ec_s160_4, ec_s160_5, ec_s160_7, ec_s160_8, ec_s160_11, ec_s160_12, ec_s160_13, ec_s160_16, ec_s160_19, ec_s160_20, ec_s160_21, ec_s160_22, ec_s160_23, ec_s160_24, ec_s160_25, ec_s160_26, ec_s160_27, ec_s160_31, ec_s160_32, ec_s160_35, ec_s160_38, ec_s160_39, ec_s160_40, ec_s160_43, ec_s160_45, ec_s160_46, ec_s160_49, ec_s160_50, ec_s160_53, ec_s160_55, ec_s160_56, ec_s160_57, ec_s160_60, ec_s160_61, ec_s160_64, ec_s160_65, ec_s160_66, ec_s160_67, ec_s160_68, ec_s160_70, ec_s160_72, ec_s160_73, ec_s160_76, ec_s160_77, ec_s160_78, ec_s160_79, ec_s160_80, ec_s160_83, ec_s160_85, ec_s160_86, ec_s160_89, ec_s160_90, ec_s160_93, ec_s160_94, ec_s160_96, ec_s160_97, ec_s160_100, ec_s160_101, ec_s160_102, ec_s160_103, ec_s160_105, ec_s160_108, ec_s160_109, ec_s160_112, ec_s160_114, ec_s160_115, ec_s160_118, ec_s160_119, ec_s160_122, ec_s160_123, ec_s160_124, ec_s160_125, ec_s160_126, ec_s160_127, ec_s160_129, ec_s160_132, ec_s160_134, ec_s160_137, ec_s160_138, ec_s160_139, ec_s160_142, ec_s160_145, ec_s160_146, ec_s160_149, ec_s160_150, ec_s160_151, ec_s160_152, ec_s160_153, ec_s160_154, ec_s160_157, ec_s160_160, ec_s160_161, ec_s160_164, ec_s160_166, ec_s160_167, ec_s160_170, ec_s160_171, ec_s160_174, ec_s160_175, ec_s160_176, ec_s160_177, ec_s160_178, ec_s160_179, ec_s160_182, ec_s160_185, ec_zn0, ec_zn1, ec_zn2, ec_zn3, ec_zn4, ec_zn5, ec_zn6, ec_zn7, ec_zn8, ec_zn9, ec_zn10, ec_zn12, ec_zn13, ec_zn14, ec_zn15, ec_zn16, ec_zn20, ec_zn30, ec_zn48, ec_zn99, ec_zn120, ec_zn127, ec_zn11, ec_zn31, ec_zn46, ec_zn57, ec_zn59, ec_zn63, ec_zn101, ec_zn107, ec_zn108, ec_zn110, ec_zn111, ec_zn115, ec_zn116, ec_zn119, ec_zn167, ec_zn185, ec_zn192, ec_zn215, ec_zn233, ec_zn699, ec_zn932, ec_zn999, ec_znF, ec_zneg, ec_zadd, ec_zsub, ec_zmul, ec_zdivO, ec_em, ec_zltO, ec_zeqO, ec_zeq0, ec_qt, ec_qf, if_pos, if_neg, Int.add_zero, ec_aft_v, ec_aft_n, ec_rwE, ec_rwN, ec_rwP, ec_rwK, ec_rwS, ec_w_shpI, ec_w_shpL, ec_w_shpA, hD, hs, hs1, s1, s4, s5, t4, t5, a1, ac] at e
      exact ⟨_, _, _, e.symm, hs0.w (by omega), fr _⟩
  · rw [if_neg (fun y => q1 y.1), if_neg (fun y => q1 y.1)]
    simp (disch := first | (simp only [ec_w_kI, ec_w_kL, ec_w_kA, ec_w_shpI, ec_w_shpL, ec_w_shpA, ec_isR_r, ec_01z, ec_01o, ec_01q, hD]; done) | omega | (simp only [ec_w_shpI, ec_w_shpL, ec_w_shpA, hD]; refine ec_zinO ?_; omega) | (refine ec_nzO ?_; omega)) only [ec_s160_0, ec_s160_1, ec_s160_4, ec_s160_5, ec_s160_7, ec_s160_8, ec_s160_11, ec_s160_12, ec_s160_13, ec_s160_16, ec_s160_19, ec_s160_20, ec_s160_21, ec_s160_22, ec_s160_23, ec_s160_24, ec_s160_25, ec_s160_26, ec_s160_27, ec_s160_31, ec_s160_32, ec_s160_35, ec_s160_38, ec_s160_39, ec_s160_40, ec_s160_43, ec_s160_45, ec_s160_46, ec_s160_49, ec_s160_50, ec_s160_53, ec_s160_55, ec_s160_56, ec_s160_57, ec_s160_60, ec_s160_61, ec_s160_64, ec_s160_65, ec_s160_66, ec_s160_67, ec_s160_68, ec_s160_70, ec_s160_72, ec_s160_73, ec_s160_76, ec_s160_77, ec_s160_78, ec_s160_79, ec_s160_80, ec_s160_83, ec_s160_85, ec_s160_86, ec_s160_89, ec_s160_90, ec_s160_93, ec_s160_94, ec_s160_96, ec_s160_97, ec_s160_100, ec_s160_101, ec_s160_102, ec_s160_103, ec_s160_105, ec_s160_108, ec_s160_109, ec_s160_112, ec_s160_114, ec_s160_115, ec_s160_118, ec_s160_119, ec_s160_122, ec_s160_123, ec_s160_124, ec_s160_125, ec_s160_126, ec_s160_127, ec_s160_129, ec_s160_132, ec_s160_134, ec_s160_137, ec_s160_138, ec_s160_139, ec_s160_142, ec_s160_145, ec_s160_146, ec_s160_149, ec_s160_150, ec_s160_151, ec_s160_152, ec_s160_153, ec_s160_154, ec_s160_157, ec_s160_160, ec_s160_161, ec_s160_164, ec_s160_166, ec_s160_167, ec_s160_170, ec_s160_171, ec_s160_174, ec_s160_175, ec_s160_176, ec_s160_177, ec_s160_178, ec_s160_179, ec_s160_182, ec_s160_185, ec_zn0, ec_zn1, ec_zn2, ec_zn3, ec_zn4, ec_zn5, ec_zn6, ec_zn7, ec_zn8, ec_zn9, ec_zn10, ec_zn12, ec_zn13, ec_zn14, ec_zn15, ec_zn16, ec_zn20, ec_zn30, ec_zn48, ec_zn99, ec_zn120, ec_zn127, ec_zn11, ec_zn31, ec_zn46, ec_zn57, ec_zn59, ec_zn63, ec_zn101, ec_zn107, ec_zn108, ec_zn110, ec_zn111, ec_zn115, ec_zn116, ec_zn119, ec_zn167, ec_zn185, ec_zn192, ec_zn215, ec_zn233, ec_zn699, ec_zn932, ec_zn999, ec_znF, ec_zneg, ec_zadd, ec_zsub, ec_zmul, ec_zdivO, ec_em, ec_zltO, ec_zeqO, ec_zeq0, ec_qt, ec_qf, if_pos, if_neg, Int.add_zero, ec_aft_v, ec_aft_n, ec_rwE, ec_rwN, ec_rwP, ec_rwK, ec_rwS, ec_w_shpI, ec_w_shpL, ec_w_shpA, hD, hs, hs1, s1, s4, s5, t4, t5, a1, ac] at e
    exact ⟨_, _, _, e.symm, hs0.w (by omega), fr _⟩
/-- one monster, behind its sounds -/
theorem ec_c160e {h : ec_Hp} {σ : ec_Sg} (hD : ec_MD h) (hs : ec_Ms h σ) (hW : ec_WF σ) {n m mo : Int} {f g : Int → Int} {w5 w6 : Value} (hS : ed_SO h n f g) (hm : 0 ≤ m ∧ m < σ 4) (hL : ed_Ar h 78 48 (fun z => ed_q (ed_lit σ z))) :
    ∃ h', ec_om 160 29 [.ref 72, .int (ec_i m), .int (ec_i (185 + 5 * m)), .int (ec_i mo), .int (ec_i n), w5, w6] [] h = ec_om 160 6 [.ref 72, .int (ec_i (m + 1)), .int (ec_i (185 + 5 * m)), .int (ec_i mo), .int (ec_i n), w5, w6] [] h' ∧
      ec_Ms h' (ec_su σ (185 + 5 * m + 3) (@ite Int (ed_see σ m) (Classical.propDecidable _) (σ 6) (σ (185 + 5 * m + 3)))) ∧ ec_fg ed_Hs h h' := by
  have g1 := ec_c137 hD hs hW hm hL
  have w := hW.1
  have M := ed_mon hW hm
  obtain ⟨s1, s2, s3⟩ := hS
  have hs0 := hs
  have fr : ∀ x, ec_fg ed_Hs h (ec_setI h 73 (ec_i (185 + 5 * m + 3)).toNatClampNeg x) := fun x => ec_fg.refl.I (Or.inl rfl)
  unfold ec_MD at hD
  unfold ec_Ms at hs
  rw [ec_s160_29]
  generalize e : ec_om 160 31 [.ref 72, .int (ec_i m), .int (ec_i (185 + 5 * m)), .int (ec_i mo), .int (ec_i n), w5, w6] [.int (ec_i n)] h = r
  by_cases q : ed_see σ m
  · rw [if_pos q]
    rw [ed_qt q] at g1
    simp (disch := first | (simp only [ec_w_kI, ec_w_kL, ec_w_kA, ec_w_shpI, ec_w_shpL, ec_w_shpA, ec_isR_r, ec_01z, ec_01o, ec_01q, hD]; done) | omega | (simp only [ec_w_shpI, ec_w_shpL, ec_w_shpA, hD]; refine ec_zinO ?_; omega) | (refine ec_nzO ?_; omega)) only [ec_s160_0, ec_s160_1, ec_s160_4, ec_s160_5, ec_s160_7, ec_s160_8, ec_s160_11, ec_s160_12, ec_s160_13, ec_s160_16, ec_s160_19, ec_s160_20, ec_s160_21, ec_s160_22, ec_s160_23, ec_s160_24, ec_s160_25, ec_s160_26, ec_s160_27, ec_s160_31, ec_s160_32, ec_s160_35, ec_s160_38, ec_s160_39, ec_s160_40, ec_s160_43, ec_s160_45, ec_s160_46, ec_s160_49, ec_s160_50, ec_s160_53, ec_s160_55, ec_s160_56, ec_s160_57, ec_s160_60, ec_s160_61, ec_s160_64, ec_s160_65, ec_s160_66, ec_s160_67, ec_s160_68, ec_s160_70, ec_s160_72, ec_s160_73, ec_s160_76, ec_s160_77, ec_s160_78, ec_s160_79, ec_s160_80, ec_s160_83, ec_s160_85, ec_s160_86, ec_s160_89, ec_s160_90, ec_s160_93, ec_s160_94, ec_s160_96, ec_s160_97, ec_s160_100, ec_s160_101, ec_s160_102, ec_s160_103, ec_s160_105, ec_s160_108, ec_s160_109, ec_s160_112, ec_s160_114, ec_s160_115, ec_s160_118, ec_s160_119, ec_s160_122, ec_s160_123, ec_s160_124, ec_s160_125, ec_s160_126, ec_s160_127, ec_s160_129, ec_s160_132, ec_s160_134, ec_s160_137, ec_s160_138, ec_s160_139, ec_s160_142, ec_s160_145, ec_s160_146, ec_s160_149, ec_s160_150, ec_s160_151, ec_s160_152, ec_s160_153, ec_s160_154, ec_s160_157, ec_s160_160, ec_s160_161, ec_s160_164, ec_s160_166, ec_s160_167, ec_s160_170, ec_s160_171, ec_s160_174, ec_s160_175, ec_s160_176, ec_s160_177, ec_s160_178, ec_s160_179, ec_s160_182, ec_s160_185, ec_zn0, ec_zn1, ec_zn2, ec_zn3, ec_zn4, ec_zn5, ec_zn6, ec_zn7, ec_zn8, ec_zn9, ec_zn10, ec_zn12, ec_zn13, ec_zn14, ec_zn15, ec_zn16, ec_zn20, ec_zn30, ec_zn48, ec_zn99, ec_zn120, ec_zn127, ec_zn11, ec_zn31, ec_zn46, ec_zn57, ec_zn59, ec_zn63, ec_zn101, ec_zn107, ec_zn108, ec_zn110, ec_zn111, ec_zn115, ec_zn116, ec_zn119, ec_zn167, ec_zn185, ec_zn192, ec_zn215, ec_zn233, ec_zn699, ec_zn932, ec_zn999, ec_znF, ec_zneg, ec_zadd, ec_zsub, ec_zmul, ec_zdivO, ec_em, ec_zltO, ec_zeqO, ec_zeq0, ec_qt, ec_qf, if_pos, if_neg, Int.add_zero, ec_aft_v, ec_aft_n, ec_rwE, ec_rwN, ec_rwP, ec_rwK, ec_rwS, ec_w_shpI, ec_w_shpL, ec_w_shpA, hD, hs, s1, g1] at e
    exact ⟨_, e.symm, hs0.w (by omega), fr _⟩
  · rw [if_neg q]
    rw [ed_qf q] at g1
    simp (disch := first | (simp only [ec_w_kI, ec_w_kL, ec_w_kA, ec_w_shpI, ec_w_shpL, ec_w_shpA, ec_isR_r, ec_01z, ec_01o, ec_01q, hD]; done) | omega | (simp only [ec_w_shpI, ec_w_shpL, ec_w_shpA, hD]; refine ec_zinO ?_; omega) | (refine ec_nzO ?_; omega)) only [ec_s160_0, ec_s160_1, ec_s160_4, ec_s160_5, ec_s160_7, ec_s160_8, ec_s160_11, ec_s160_12, ec_s160_13, ec_s160_16, ec_s160_19, ec_s160_20, ec_s160_21, ec_s160_22, ec_s160_23, ec_s160_24, ec_s160_25, ec_s160_26, ec_s160_27, ec_s160_31, ec_s160_32, ec_s160_35, ec_s160_38, ec_s160_39, ec_s160_40, ec_s160_43, ec_s160_45, ec_s160_46, ec_s160_49, ec_s160_50, ec_s160_53, ec_s160_55, ec_s160_56, ec_s160_57, ec_s160_60, ec_s160_61, ec_s160_64, ec_s160_65, ec_s160_66, ec_s160_67, ec_s160_68, ec_s160_70, ec_s160_72, ec_s160_73, ec_s160_76, ec_s160_77, ec_s160_78, ec_s160_79, ec_s160_80, ec_s160_83, ec_s160_85, ec_s160_86, ec_s160_89, ec_s160_90, ec_s160_93, ec_s160_94, ec_s160_96, ec_s160_97, ec_s160_100, ec_s160_101, ec_s160_102, ec_s160_103, ec_s160_105, ec_s160_108, ec_s160_109, ec_s160_112, ec_s160_114, ec_s160_115, ec_s160_118, ec_s160_119, ec_s160_122, ec_s160_123, ec_s160_124, ec_s160_125, ec_s160_126, ec_s160_127, ec_s160_129, ec_s160_132, ec_s160_134, ec_s160_137, ec_s160_138, ec_s160_139, ec_s160_142, ec_s160_145, ec_s160_146, ec_s160_149, ec_s160_150, ec_s160_151, ec_s160_152, ec_s160_153, ec_s160_154, ec_s160_157, ec_s160_160, ec_s160_161, ec_s160_164, ec_s160_166, ec_s160_167, ec_s160_170, ec_s160_171, ec_s160_174, ec_s160_175, ec_s160_176, ec_s160_177, ec_s160_178, ec_s160_179, ec_s160_182, ec_s160_185, ec_zn0, ec_zn1, ec_zn2, ec_zn3, ec_zn4, ec_zn5, ec_zn6, ec_zn7, ec_zn8, ec_zn9, ec_zn10, ec_zn12, ec_zn13, ec_zn14, ec_zn15, ec_zn16, ec_zn20, ec_zn30, ec_zn48, ec_zn99, ec_zn120, ec_zn127, ec_zn11, ec_zn31, ec_zn46, ec_zn57, ec_zn59, ec_zn63, ec_zn101, ec_zn107, ec_zn108, ec_zn110, ec_zn111, ec_zn115, ec_zn116, ec_zn119, ec_zn167, ec_zn185, ec_zn192, ec_zn215, ec_zn233, ec_zn699, ec_zn932, ec_zn999, ec_znF, ec_zneg, ec_zadd, ec_zsub, ec_zmul, ec_zdivO, ec_em, ec_zltO, ec_zeqO, ec_zeq0, ec_qt, ec_qf, if_pos, if_neg, Int.add_zero, ec_aft_v, ec_aft_n, ec_rwE, ec_rwN, ec_rwP, ec_rwK, ec_rwS, ec_w_shpI, ec_w_shpL, ec_w_shpA, hD, hs, s1, g1] at e
    exact ⟨_, e.symm, hs0.w (by omega), fr _⟩
/-- the sounds that a turn has -/
def ed_SK (σ : ec_Sg) (n : Int) (f g : Int → Int) (p l : Int) : Prop := ec_ing σ p ∧ (n = 0 ∧ l = 0 ∨ n = 1 ∧ f 0 = p ∧ g 0 = l ∧ (0 ≤ l ∧ l ≤ 9) ∨ n = 2 ∧ f 0 = p ∧ f 1 = p ∧ g 1 = l ∧ (0 ≤ g 0 ∧ g 0 ≤ l ∧ l ≤ 9))
theorem ec_c160m {h : ec_Hp} {σ : ec_Sg} (hD : ec_MD h) (hs : ec_Ms h σ) (hW : ec_WF σ) {n m p l : Int} {f g : Int → Int} {w2 w3 w4 w5 w6 : Value} (hS : ed_SO h n f g) (hm : 0 ≤ m ∧ m < σ 4) (hL : ed_Ar h 78 48 (fun z => ed_q (ed_lit σ z))) (hK : ed_SK σ n f g p l) :
    ∃ h' w2' w3' w4' w5' w6', ec_om 160 6 [.ref 72, .int (ec_i m), w2, w3, w4, w5, w6] [] h = ec_om 160 6 [.ref 72, .int (ec_i (m + 1)), w2', w3', w4', w5', w6'] [] h' ∧
      ec_Ms h' (ec_su σ (185 + 5 * m + 3) (ed_gl σ p l m)) ∧ ec_fg ed_Hs h h' := by
  have w := hW.1
  have M := ed_mon hW hm
  have lbn := fun p (hp : ec_ing σ p) => (ed_lb_bd hW (m := 2) (g := p) hp.1 (k := (σ (185 + 5 * m)).toNat) (by have := M.1.1; omega)).1
  have start : ec_om 160 6 [.ref 72, .int (ec_i m), w2, w3, w4, w5, w6] [] h = ec_om 160 29 [.ref 72, .int (ec_i m), .int (ec_i (185 + 5 * m)), .int (ec_i 0), .int (ec_i 0), w5, w6] [] h := by
    unfold ec_MD at hD
    unfold ec_Ms at hs
    rw [ec_s160_6]
    simp (disch := first | (simp only [ec_w_kI, ec_w_kL, ec_w_kA, ec_w_shpI, ec_w_shpL, ec_w_shpA, ec_isR_r, ec_01z, ec_01o, ec_01q, hD]; done) | omega | (simp only [ec_w_shpI, ec_w_shpL, ec_w_shpA, hD]; refine ec_zinO ?_; omega) | (refine ec_nzO ?_; omega)) only [ec_s160_0, ec_s160_1, ec_s160_4, ec_s160_5, ec_s160_7, ec_s160_8, ec_s160_11, ec_s160_12, ec_s160_13, ec_s160_16, ec_s160_19, ec_s160_20, ec_s160_21, ec_s160_22, ec_s160_23, ec_s160_24, ec_s160_25, ec_s160_26, ec_s160_27, ec_s160_31, ec_s160_32, ec_s160_35, ec_s160_38, ec_s160_39, ec_s160_40, ec_s160_43, ec_s160_45, ec_s160_46, ec_s160_49, ec_s160_50, ec_s160_53, ec_s160_55, ec_s160_56, ec_s160_57, ec_s160_60, ec_s160_61, ec_s160_64, ec_s160_65, ec_s160_66, ec_s160_67, ec_s160_68, ec_s160_70, ec_s160_72, ec_s160_73, ec_s160_76, ec_s160_77, ec_s160_78, ec_s160_79, ec_s160_80, ec_s160_83, ec_s160_85, ec_s160_86, ec_s160_89, ec_s160_90, ec_s160_93, ec_s160_94, ec_s160_96, ec_s160_97, ec_s160_100, ec_s160_101, ec_s160_102, ec_s160_103, ec_s160_105, ec_s160_108, ec_s160_109, ec_s160_112, ec_s160_114, ec_s160_115, ec_s160_118, ec_s160_119, ec_s160_122, ec_s160_123, ec_s160_124, ec_s160_125, ec_s160_126, ec_s160_127, ec_s160_129, ec_s160_132, ec_s160_134, ec_s160_137, ec_s160_138, ec_s160_139, ec_s160_142, ec_s160_145, ec_s160_146, ec_s160_149, ec_s160_150, ec_s160_151, ec_s160_152, ec_s160_153, ec_s160_154, ec_s160_157, ec_s160_160, ec_s160_161, ec_s160_164, ec_s160_166, ec_s160_167, ec_s160_170, ec_s160_171, ec_s160_174, ec_s160_175, ec_s160_176, ec_s160_177, ec_s160_178, ec_s160_179, ec_s160_182, ec_s160_185, ec_zn0, ec_zn1, ec_zn2, ec_zn3, ec_zn4, ec_zn5, ec_zn6, ec_zn7, ec_zn8, ec_zn9, ec_zn10, ec_zn12, ec_zn13, ec_zn14, ec_zn15, ec_zn16, ec_zn20, ec_zn30, ec_zn48, ec_zn99, ec_zn120, ec_zn127, ec_zn11, ec_zn31, ec_zn46, ec_zn57, ec_zn59, ec_zn63, ec_zn101, ec_zn107, ec_zn108, ec_zn110, ec_zn111, ec_zn115, ec_zn116, ec_zn119, ec_zn167, ec_zn185, ec_zn192, ec_zn215, ec_zn233, ec_zn699, ec_zn932, ec_zn999, ec_znF, ec_zneg, ec_zadd, ec_zsub, ec_zmul, ec_zdivO, ec_em, ec_zltO, ec_zeqO, ec_zeq0, ec_qt, ec_qf, if_pos, if_neg, Int.add_zero, ec_aft_v, ec_aft_n, ec_rwE, ec_rwN, ec_rwP, ec_rwK, ec_rwS, ec_w_shpI, ec_w_shpL, ec_w_shpA, hD, hs]
  rw [start]
  obtain ⟨kp, kc⟩ := hK
  have gl : ∀ τ : ec_Sg, ed_ag σ τ → (∀ j, j ≠ 185 + 5 * m + 3 → τ j = σ j) → (@ite Int (ed_see τ m) (Classical.propDecidable _) (τ 6) (τ (185 + 5 * m + 3))) = @ite Int (ed_see σ m) (Classical.propDecidable _) (σ 6) (τ (185 + 5 * m + 3)) := by
    intro τ ha hj
    have e := ha.see hW (hj (185 + 5 * m) (by omega))
    by_cases q : ed_see σ m
    · rw [if_pos q, if_pos (e.mpr q), hj 6 (by omega)]
    · rw [if_neg q, if_neg (fun y => q (e.mp y))]
  have fin : ∀ (v : Int), v = (if σ (185 + 5 * m + 1) ≤ l - ed_lb σ 2 p (σ (185 + 5 * m)).toNat then p else σ (185 + 5 * m + 3)) → ec_su (ec_su σ (185 + 5 * m + 3) v) (185 + 5 * m + 3) (@ite Int (ed_see (ec_su σ (185 + 5 * m + 3) v) m) (Classical.propDecidable _) (ec_su σ (185 + 5 * m + 3) v 6) (ec_su σ (185 + 5 * m + 3) v (185 + 5 * m + 3))) = ec_su σ (185 + 5 * m + 3) (ed_gl σ p l m) := by
    intro v hv
    rw [ed_su_su, gl _ (ed_ag.refl.su (by omega)) (fun j hj => ec_suN hj), ec_suE rfl, hv]
    rfl
  have goalWF : ∀ v, v = p ∨ v = σ (185 + 5 * m + 3) → ec_WF (ec_su σ (185 + 5 * m + 3) v) := by
    intro v hv
    refine ed_WF_goal hW hm ?_
    rcases hv with rfl | rfl
    · exact Or.inr kp
    · exact M.2.2.2
  rcases kc with ⟨rfl, rfl⟩ | ⟨rfl, f0, g0, kl⟩ | ⟨rfl, f0, f1, g1, kl⟩
  · obtain ⟨h', e1, e2, e3⟩ := ec_c160e (mo := 0) (w5 := w5) (w6 := w6) hD hs hW hS hm hL
    refine ⟨h', _, _, _, _, _, e1, ?_, e3⟩
    have := fin (σ (185 + 5 * m + 3)) (by rw [if_neg (by have := lbn p kp; omega)])
    rw [ed_su_id] at this
    rw [this] at e2
    exact e2
  · obtain ⟨h1, w5a, w6a, a1, a2, a3⟩ := ec_c160s (mo := 0) (w5 := w5) (w6 := w6) hD hs hW hS hm (k := 0) (by omega) (by rw [f0]; exact kp) (by rw [g0]; exact kl) (by omega)
    have ag := ed_ag.refl (σ := σ) |>.su (k := 185 + 5 * m + 3) (v := (if ed_hq σ m (f 0) (g 0) 0 then f 0 else σ (185 + 5 * m + 3))) (by omega)
    have wf := goalWF (if ed_hq σ m (f 0) (g 0) 0 then f 0 else σ (185 + 5 * m + 3)) (by rw [f0]; split; exact Or.inl rfl; exact Or.inr rfl)
    have hL1 : ed_Ar h1 78 48 (fun z => ed_q (ed_lit σ z)) := hL.fg a3 (fun _ => (by decide : ¬ ((78 : Nat) = 73 ∨ (78 : Nat) = 80)))
    obtain ⟨h2, b1, b2, b3⟩ := ec_c160e (mo := if ed_hq σ m (f 0) (g 0) 0 then g 0 - ed_lb σ 2 (f 0) (σ (185 + 5 * m)).toNat else 0) (w5 := w5a) (w6 := w6a) (hD.of a3.1.1) a2 wf (hS.Hs a3) (by rw [ec_suN (by omega)]; exact hm) (ed_lit_Ar ag hW hL1)
    refine ⟨h2, _, _, _, _, _, a1.trans b1, ?_, a3.trans b3⟩
    rw [fin] at b2
    · exact b2
    · have := lbn p kp
      rw [f0, g0]
      by_cases q : σ (185 + 5 * m + 1) ≤ l - ed_lb σ 2 p (σ (185 + 5 * m)).toNat
      · rw [if_pos q, if_pos (by unfold ed_hq; omega)]
      · rw [if_neg q, if_neg (by unfold ed_hq; omega)]
  · obtain ⟨h1, w5a, w6a, a1, a2, a3⟩ := ec_c160s (mo := 0) (w5 := w5) (w6 := w6) hD hs hW hS hm (k := 0) (by omega) (by rw [f0]; exact kp) (by omega) (by omega)
    have wf := goalWF (if ed_hq σ m (f 0) (g 0) 0 then f 0 else σ (185 + 5 * m + 3)) (by rw [f0]; split; exact Or.inl rfl; exact Or.inr rfl)
    have hL1 : ed_Ar h1 78 48 (fun z => ed_q (ed_lit σ z)) := hL.fg a3 (fun _ => (by decide : ¬ ((78 : Nat) = 73 ∨ (78 : Nat) = 80)))
    generalize hv0 : (if ed_hq σ m (f 0) (g 0) 0 then f 0 else σ (185 + 5 * m + 3)) = v0 at a2 wf
    generalize hm0 : (if ed_hq σ m (f 0) (g 0) 0 then g 0 - ed_lb σ 2 (f 0) (σ (185 + 5 * m)).toNat else 0) = m0 at a1
    have ag1 : ed_ag σ (ec_su σ (185 + 5 * m + 3) v0) := ed_ag.refl.su (by omega)
    have lb0 := lbn p kp
    have m0r : 0 ≤ m0 ∧ m0 ≤ 9 := by
      rw [← hm0, f0]
      split
      · rename_i q
        unfold ed_hq at q
        omega
      · omega
    obtain ⟨h2, w5b, w6b, b1, b2, b3⟩ := ec_c160s (mo := m0) (w5 := w5a) (w6 := w6a) (hD.of a3.1.1) a2 wf (hS.Hs a3) (by rw [ec_suN (by omega)]; exact hm) (k := 1) (by omega) (by rw [f1, ag1.ing]; exact kp) (by omega) m0r
    have hv1 : (if ed_hq (ec_su σ (185 + 5 * m + 3) v0) m (f 1) (g 1) m0 then f 1 else ec_su σ (185 + 5 * m + 3) v0 (185 + 5 * m + 3)) = if σ (185 + 5 * m + 1) ≤ l - ed_lb σ 2 p (σ (185 + 5 * m)).toNat then p else σ (185 + 5 * m + 3) := by
      have hc : ed_hq (ec_su σ (185 + 5 * m + 3) v0) m (f 1) (g 1) m0 ↔ σ (185 + 5 * m + 1) ≤ l - ed_lb σ 2 p (σ (185 + 5 * m)).toNat ∧ m0 ≤ l - ed_lb σ 2 p (σ (185 + 5 * m)).toNat := by
        unfold ed_hq
        rw [ag1.lb hW, ec_suN (show (185 : Int) + 5 * m ≠ 185 + 5 * m + 3 by omega), ec_suN (show (185 : Int) + 5 * m + 1 ≠ 185 + 5 * m + 3 by omega), f1, g1]
      rw [ec_suE rfl]
      by_cases q : σ (185 + 5 * m + 1) ≤ l - ed_lb σ 2 p (σ (185 + 5 * m)).toNat
      · rw [if_pos q, if_pos (hc.mpr ?_), f1]
        refine ⟨q, ?_⟩
        rw [← hm0, f0]
        split <;> omega
      · rw [if_neg q, if_neg (fun y => q (hc.mp y).1), ← hv0, if_neg]
        rw [f0]
        unfold ed_hq
        omega
    rw [hv1, ed_su_su] at b2
    have wf2 := goalWF (if σ (185 + 5 * m + 1) ≤ l - ed_lb σ 2 p (σ (185 + 5 * m)).toNat then p else σ (185 + 5 * m + 3)) (by split; exact Or.inl rfl; exact Or.inr rfl)
    have hL2 : ed_Ar h2 78 48 (fun z => ed_q (ed_lit σ z)) := hL1.fg b3 (fun _ => (by decide : ¬ ((78 : Nat) = 73 ∨ (78 : Nat) = 80)))
    have ag2 : ed_ag σ (ec_su σ (185 + 5 * m + 3) (if σ (185 + 5 * m + 1) ≤ l - ed_lb σ 2 p (σ (185 + 5 * m)).toNat then p else σ (185 + 5 * m + 3))) := ed_ag.refl.su (by omega)
    obtain ⟨h3, c1, c2, c3⟩ := ec_c160e (mo := if ed_hq (ec_su σ (185 + 5 * m + 3) v0) m (f 1) (g 1) m0 then g 1 - ed_lb (ec_su σ (185 + 5 * m + 3) v0) 2 (f 1) (ec_su σ (185 + 5 * m + 3) v0 (185 + 5 * m)).toNat else m0) (w5 := w5b) (w6 := w6b) ((hD.of a3.1.1).of b3.1.1) b2 wf2 ((hS.Hs a3).Hs b3) (by rw [ec_suN (by omega)]; exact hm) (ed_lit_Ar ag2 hW hL2)
    have e01 : (0 : Int) + 1 = 1 := rfl
    have e11 : (1 : Int) + 1 = 2 := rfl
    rw [e01] at a1
    rw [e11] at b1
    refine ⟨h3, _, _, _, _, _, (a1.trans b1).trans c1, ?_, (a3.trans b3).trans c3⟩
    rw [fin _ rfl] at c2
    exact c2
theorem ed_SK.ag {σ τ : ec_Sg} {n p l : Int} {f g : Int → Int} (h : ed_SK σ n f g p l) (e : ∀ c : Int, c < 185 → τ c = σ c) : ed_SK τ n f g p l := ⟨(ed_ing_c (e 0 (by omega)) (e 1 (by omega))).mpr h.1, h.2⟩
theorem ec_c160L {n p l : Int} {f g : Int → Int} : ∀ (r : Nat) (m : Int) (σ : ec_Sg) (h : ec_Hp) (w2 w3 w4 w5 w6 : Value), ec_MD h → ec_Ms h σ → ec_WF σ → ed_SO h n f g → ed_Ar h 78 48 (fun z => ed_q (ed_lit σ z)) → ed_SK σ n f g p l → 0 ≤ m → m + r = σ 4 →
    ∃ h', ec_om 160 6 [.ref 72, .int (ec_i m), w2, w3, w4, w5, w6] [] h = some (.inl none, h') ∧ ec_Ms h' (ed_fold (fun σ m => ec_su σ (185 + 5 * m + 3) (ed_gl σ p l m)) r m σ) ∧ ec_fg ed_Hs h h' := by
  intro r
  induction r with
  | zero =>
    intro m σ h w2 w3 w4 w5 w6 hD hs hW hS hL hK h0 hm
    refine ⟨h, ?_, hs, ec_fg.refl⟩
    have w := hW.1
    unfold ec_MD at hD
    unfold ec_Ms at hs
    rw [ec_s160_6]
    simp (disch := first | (simp only [ec_w_kI, ec_w_kL, ec_w_kA, ec_w_shpI, ec_w_shpL, ec_w_shpA, ec_isR_r, ec_01z, ec_01o, ec_01q, hD]; done) | omega | (simp only [ec_w_shpI, ec_w_shpL, ec_w_shpA, hD]; refine ec_zinO ?_; omega) | (refine ec_nzO ?_; omega)) only [ec_s160_0, ec_s160_1, ec_s160_4, ec_s160_5, ec_s160_7, ec_s160_8, ec_s160_11, ec_s160_12, ec_s160_13, ec_s160_16, ec_s160_19, ec_s160_20, ec_s160_21, ec_s160_22, ec_s160_23, ec_s160_24, ec_s160_25, ec_s160_26, ec_s160_27, ec_s160_31, ec_s160_32, ec_s160_35, ec_s160_38, ec_s160_39, ec_s160_40, ec_s160_43, ec_s160_45, ec_s160_46, ec_s160_49, ec_s160_50, ec_s160_53, ec_s160_55, ec_s160_56, ec_s160_57, ec_s160_60, ec_s160_61, ec_s160_64, ec_s160_65, ec_s160_66, ec_s160_67, ec_s160_68, ec_s160_70, ec_s160_72, ec_s160_73, ec_s160_76, ec_s160_77, ec_s160_78, ec_s160_79, ec_s160_80, ec_s160_83, ec_s160_85, ec_s160_86, ec_s160_89, ec_s160_90, ec_s160_93, ec_s160_94, ec_s160_96, ec_s160_97, ec_s160_100, ec_s160_101, ec_s160_102, ec_s160_103, ec_s160_105, ec_s160_108, ec_s160_109, ec_s160_112, ec_s160_114, ec_s160_115, ec_s160_118, ec_s160_119, ec_s160_122, ec_s160_123, ec_s160_124, ec_s160_125, ec_s160_126, ec_s160_127, ec_s160_129, ec_s160_132, ec_s160_134, ec_s160_137, ec_s160_138, ec_s160_139, ec_s160_142, ec_s160_145, ec_s160_146, ec_s160_149, ec_s160_150, ec_s160_151, ec_s160_152, ec_s160_153, ec_s160_154, ec_s160_157, ec_s160_160, ec_s160_161, ec_s160_164, ec_s160_166, ec_s160_167, ec_s160_170, ec_s160_171, ec_s160_174, ec_s160_175, ec_s160_176, ec_s160_177, ec_s160_178, ec_s160_179, ec_s160_182, ec_s160_185, ec_zn0, ec_zn1, ec_zn2, ec_zn3, ec_zn4, ec_zn5, ec_zn6, ec_zn7, ec_zn8, ec_zn9, ec_zn10, ec_zn12, ec_zn13, ec_zn14, ec_zn15, ec_zn16, ec_zn20, ec_zn30, ec_zn48, ec_zn99, ec_zn120, ec_zn127, ec_zn11, ec_zn31, ec_zn46, ec_zn57, ec_zn59, ec_zn63, ec_zn101, ec_zn107, ec_zn108, ec_zn110, ec_zn111, ec_zn115, ec_zn116, ec_zn119, ec_zn167, ec_zn185, ec_zn192, ec_zn215, ec_zn233, ec_zn699, ec_zn932, ec_zn999, ec_znF, ec_zneg, ec_zadd, ec_zsub, ec_zmul, ec_zdivO, ec_em, ec_zltO, ec_zeqO, ec_zeq0, ec_qt, ec_qf, if_pos, if_neg, Int.add_zero, ec_aft_v, ec_aft_n, ec_rwE, ec_rwN, ec_rwP, ec_rwK, ec_rwS, ec_w_shpI, ec_w_shpL, ec_w_shpA, hD, hs]
  | succ r ih =>
    intro m σ h w2 w3 w4 w5 w6 hD hs hW hS hL hK h0 hm
    have w := hW.1
    obtain ⟨h1, u2, u3, u4, u5, u6, a1, a2, a3⟩ := ec_c160m (w2 := w2) (w3 := w3) (w4 := w4) (w5 := w5) (w6 := w6) hD hs hW hS (m := m) (by omega) hL hK
    have ag : ed_ag σ (ec_su σ (185 + 5 * m + 3) (ed_gl σ p l m)) := ed_ag.refl.su (by omega)
    have wf := ed_WF_goal hW (m := m) (by omega) (ed_gl_in hW (l := l) (m := m) (by omega) hK.1)
    obtain ⟨h2, b1, b2, b3⟩ := ih (m + 1) _ h1 u2 u3 u4 u5 u6 (hD.of a3.1.1) a2 wf (hS.Hs a3) (ed_lit_Ar ag hW (hL.fg a3 (fun _ => (by decide : ¬ ((78 : Nat) = 73 ∨ (78 : Nat) = 80))))) (hK.ag (fun c hc => ag c hc)) (by omega) (by rw [ec_suN (by omega)]; omega)
    exact ⟨h2, a1.trans b1, b2, a3.trans b3⟩
theorem ec_c160 {h : ec_Hp} {σ : ec_Sg} (hD : ec_MD h) (hs : ec_Ms h σ) (hW : ec_WF σ) {n p l : Int} {f g : Int → Int} (hS : ed_SO h n f g) (hK : ed_SK σ n f g p l) : ∃ h', ec_om 160 0 [.ref 72, .double 0, .double 0, .double 0, .double 0, .double 0, .double 0] [] h = some (.inl none, h') ∧ ec_Ms h' (ed_her p l σ) ∧ ec_fg ed_Hh h h' := by
  obtain ⟨h1, a1, a2, a3⟩ := ec_c135 hD hs hW
  have f1 : ec_fg ed_Hh h h1 := a3.mono (fun q j e => Or.elim e (fun e => Or.inr (Or.inl e)) (fun e => Or.inr (Or.inr (Or.inl e))))
  obtain ⟨h2, b1, b2, b3⟩ := ec_c160L (σ 4).toNat 0 σ h1 (.double 0) (.double 0) (.double 0) (.double 0) (.double 0) (hD.of a3.1.1) (hs.fg a3 (fun _ => (by decide : ¬ ((73 : Nat) = 78 ∨ (73 : Nat) = 79)))) hW (hS.fg a3 (by decide) (fun _ => (by decide : ¬ ((82 : Nat) = 78 ∨ (82 : Nat) = 79))) (fun _ => (by decide : ¬ ((83 : Nat) = 78 ∨ (83 : Nat) = 79)))) a2 hK (by omega) (by have := hW.1; omega)
  refine ⟨h2, ?_, b2, f1.trans (b3.mono (fun q j e => Or.elim e Or.inl (fun e => Or.inr (Or.inr (Or.inr e)))))⟩
  unfold ec_MD at hD
  simp (disch := first | (simp only [ec_w_kI, ec_w_kL, ec_w_kA, ec_w_shpI, ec_w_shpL, ec_w_shpA, ec_isR_r, ec_01z, ec_01o, ec_01q, hD]; done) | omega | (simp only [ec_w_shpI, ec_w_shpL, ec_w_shpA, hD]; refine ec_zinO ?_; omega) | (refine ec_nzO ?_; omega)) only [ec_s160_0, ec_s160_1, ec_s160_4, ec_s160_5, ec_s160_7, ec_s160_8, ec_s160_11, ec_s160_12, ec_s160_13, ec_s160_16, ec_s160_19, ec_s160_20, ec_s160_21, ec_s160_22, ec_s160_23, ec_s160_24, ec_s160_25, ec_s160_26, ec_s160_27, ec_s160_31, ec_s160_32, ec_s160_35, ec_s160_38, ec_s160_39, ec_s160_40, ec_s160_43, ec_s160_45, ec_s160_46, ec_s160_49, ec_s160_50, ec_s160_53, ec_s160_55, ec_s160_56, ec_s160_57, ec_s160_60, ec_s160_61, ec_s160_64, ec_s160_65, ec_s160_66, ec_s160_67, ec_s160_68, ec_s160_70, ec_s160_72, ec_s160_73, ec_s160_76, ec_s160_77, ec_s160_78, ec_s160_79, ec_s160_80, ec_s160_83, ec_s160_85, ec_s160_86, ec_s160_89, ec_s160_90, ec_s160_93, ec_s160_94, ec_s160_96, ec_s160_97, ec_s160_100, ec_s160_101, ec_s160_102, ec_s160_103, ec_s160_105, ec_s160_108, ec_s160_109, ec_s160_112, ec_s160_114, ec_s160_115, ec_s160_118, ec_s160_119, ec_s160_122, ec_s160_123, ec_s160_124, ec_s160_125, ec_s160_126, ec_s160_127, ec_s160_129, ec_s160_132, ec_s160_134, ec_s160_137, ec_s160_138, ec_s160_139, ec_s160_142, ec_s160_145, ec_s160_146, ec_s160_149, ec_s160_150, ec_s160_151, ec_s160_152, ec_s160_153, ec_s160_154, ec_s160_157, ec_s160_160, ec_s160_161, ec_s160_164, ec_s160_166, ec_s160_167, ec_s160_170, ec_s160_171, ec_s160_174, ec_s160_175, ec_s160_176, ec_s160_177, ec_s160_178, ec_s160_179, ec_s160_182, ec_s160_185, ec_zn0, ec_zn1, ec_zn2, ec_zn3, ec_zn4, ec_zn5, ec_zn6, ec_zn7, ec_zn8, ec_zn9, ec_zn10, ec_zn12, ec_zn13, ec_zn14, ec_zn15, ec_zn16, ec_zn20, ec_zn30, ec_zn48, ec_zn99, ec_zn120, ec_zn127, ec_zn11, ec_zn31, ec_zn46, ec_zn57, ec_zn59, ec_zn63, ec_zn101, ec_zn107, ec_zn108, ec_zn110, ec_zn111, ec_zn115, ec_zn116, ec_zn119, ec_zn167, ec_zn185, ec_zn192, ec_zn215, ec_zn233, ec_zn699, ec_zn932, ec_zn999, ec_znF, ec_zneg, ec_zadd, ec_zsub, ec_zmul, ec_zdivO, ec_em, ec_zltO, ec_zeqO, ec_zeq0, ec_qt, ec_qf, if_pos, if_neg, Int.add_zero, ec_aft_v, ec_aft_n, ec_rwE, ec_rwN, ec_rwP, ec_rwK, ec_rwS, ec_w_shpI, ec_w_shpL, ec_w_shpA, hD, a1, b1]
