/-! Contracts of the reference: making the dungeon, actions, borders. -/
def ed_kAc (σ : ec_Sg) (a : Int) : Int := if 0 ≤ a ∧ a ≤ 15 then (if ed_rsn σ a = 0 then 0 else 2) else 1
def ed_kRs (a : Int) : Int := if 0 ≤ a ∧ a ≤ 15 then 0 else 1
def ed_kBo (σ : ec_Sg) (x y d : Int) : Int := if ed_qc σ x y then (if 0 ≤ d ∧ d ≤ 3 then 0 else 2) else 1
theorem ed_rsn_rg {σ : ec_Sg} {a : Int} : 0 ≤ ed_rsn σ a ∧ ed_rsn σ a ≤ 6 := by
  unfold ed_rsn
  split
  · omega
  · split
    · split <;> omega
    · split
      · split
        · omega
        · split
          · omega
          · split <;> omega
      · split
        · split <;> omega
        · split <;> omega
abbrev ed_nL : Nat → Nat → Prop := ed_78
theorem ed_78F : ∀ q j, ed_78 q j → ed_Fm q j := fun q j e => by
  rcases e with e | e
  · exact ⟨by omega, by omega⟩
  · exact ⟨by omega, by omega⟩
theorem ed_GgF : ∀ q j, ed_Gg q j → ed_Fm q j := fun q j e => by
  rcases e with e | e | e
  · exact ⟨by omega, by omega⟩
  · exact ⟨by omega, by omega⟩
  · exact ⟨by omega, by omega⟩
theorem ed_Ggn {q : Nat} (hq : q ≠ 73 ∧ q < 78) (h2 : q ≠ 72) : ∀ j, ¬ ed_Gg q j := fun j y => by
  rcases y with y | y | y
  · exact hq.1 y
  · omega
  · exact h2 y.1
theorem ed_Gg72 {j : Nat} (hj : j ≠ 14) : ¬ ed_Gg 72 j := fun y => by
  rcases y with y | y | y
  · exact absurd y (by decide)
  · omega
  · exact hj y.2
/-- what lies aside is not touched -/
theorem ed_ML.x {S : Nat → Nat → Prop} {h h' : ec_Hp} {σ : ec_Sg} {n : Int} {p : Int → ec_Sg} {L : Int} {T : Int → Int} (M : ed_ML h σ n p L T) (a : ec_fg S h h') (h1 : ¬ S 72 4) (h2 : ¬ S 72 6) (h3 : ∀ j, ¬ S 73 j) (h4 : ∀ j, ¬ S 74 j) (h5 : ∀ j, ¬ S 77 j) : ed_ML h' σ n p L T :=
  ⟨M.1.of a.1.1, M.2.1.fg a h3, M.2.2.1, M.2.2.2.1.fg a h1 h4, M.2.2.2.2.fg a h2 h5⟩
/-- the row changes by a turn -/
theorem ed_ML.g {h h' : ec_Hp} {σ τ : ec_Sg} {n : Int} {p : Int → ec_Sg} {L : Int} {T : Int → Int} (M : ed_ML h σ n p L T) (a : ec_fg ed_Gg h h') (s : ec_Ms h' τ) (w : ec_WF τ) : ed_ML h' τ n p L T := ⟨M.1.of a.1.1, s, w, M.2.2.2.1.fg a (ed_Gg72 (by decide)) (ed_Ggn (by decide) (by decide)), M.2.2.2.2.fg a (ed_Gg72 (by decide)) (ed_Ggn (by decide) (by decide))⟩
/-- an answer that is told -/
theorem ed_An.t {h h1 : ec_Hp} {σ : ec_Sg} {n : Int} {p : Int → ec_Sg} {L : Int} {T : Int → Int} {v : Int} {μ : Nat} {as : List Value} (M : ed_ML h1 σ n p L T) (f : ec_fg ed_Fm h h1) (e : ec_om μ 0 as [] h = some (.inl (some (.int (ec_i v))), ec_setI h1 72 7 (ec_i 0))) : ed_An μ as h 0 v σ n p L T := by
  obtain ⟨a, b, c⟩ := M.err 0
  exact ⟨_, e, b, a, f.trans c⟩
theorem ed_te {h : ec_Hp} (hD : ec_MD h) {x : Int} : ec_om 120 0 [.ref 72, .int (ec_i x)] [] h = some (.inl (some (.int (ec_i x))), ec_setI h 72 7 (ec_i 0)) := ec_c120 hD
section EDC
variable {h : ec_Hp} {σ : ec_Sg} {n : Int} {p : Int → ec_Sg} {L : Int} {T : Int → Int}
set_option maxHeartbeats 1000000 in
theorem ec_c149 (M : ed_ML h σ n p L T) {x y a b : Int} (rx : ec_rg x) (ry : ec_rg y) (ra : ec_rg a) (rb : ec_rg b) :
    (ed_kAm σ x y a b = 0 → ed_An 149 [.ref 72, .int (ec_i x), .int (ec_i y), .int (ec_i a), .int (ec_i b), .double 0] h 0 (σ 4) (ed_amo σ (8 * y + x) a b) (ed_pn n) (ed_pp n p σ) L T) ∧
    (ed_kAm σ x y a b ≠ 0 → ed_An 149 [.ref 72, .int (ec_i x), .int (ec_i y), .int (ec_i a), .int (ec_i b), .double 0] h (ed_kAm σ x y a b) 0 σ n p L T) := by
  have g1 := ec_c124 M.1 M.2.1 M.2.2.1 rx ry
  have g3 := fun c => ed_er M.1 (x := c)
  have g5 := fun h => ec_c118 (h := h) ra ec_rn1 ec_rn9
  have g6 := fun h => ec_c118 (h := h) rb ec_rn0 ec_rn1
  have hD := M.1
  have hs := M.2.1
  have w := M.2.2.1.1
  unfold ec_MD at hD
  unfold ec_Ms at hs
  unfold ed_kAm
  by_cases q1 : ed_qc σ x y
  · have zi := ed_qc_in M.2.2.1 q1
    rw [ec_qt q1] at g1
    rw [if_pos q1]
    by_cases qa : 1 ≤ a ∧ a ≤ 9
    · by_cases qb : 0 ≤ b ∧ b ≤ 1
      · rw [if_pos (show (1 ≤ a ∧ a ≤ 9) ∧ 0 ≤ b ∧ b ≤ 1 from ⟨qa, qb⟩)]
        by_cases q3 : σ 4 = 6
        · rw [if_pos q3]
          refine ⟨fun e => absurd e (by decide), fun _ => ed_An.er M ?_⟩
          simp (disch := first | (simp only [ec_w_kI, ec_w_kL, ec_w_kA, ec_w_shpI, ec_w_shpL, ec_w_shpA, ec_isR_r, ec_01z, ec_01o, ec_01q, hD]; done) | omega | (simp only [ec_w_shpI, ec_w_shpL, ec_w_shpA, hD]; refine ec_zinO ?_; omega) | (refine ec_nzO ?_; omega)) only [ec_s149_0, ec_s149_1, ec_s149_2, ec_s149_3, ec_s149_6, ec_s149_9, ec_s149_10, ec_s149_11, ec_s149_14, ec_s149_15, ec_s149_16, ec_s149_17, ec_s149_19, ec_s149_22, ec_s149_25, ec_s149_27, ec_s149_28, ec_s149_29, ec_s149_32, ec_s149_35, ec_s149_36, ec_s149_37, ec_s149_40, ec_s149_41, ec_s149_42, ec_s149_45, ec_s149_46, ec_s149_47, ec_s149_49, ec_s149_52, ec_s149_53, ec_s149_54, ec_s149_57, ec_s149_58, ec_s149_59, ec_s149_62, ec_s149_65, ec_s149_66, ec_s149_67, ec_s149_70, ec_s149_71, ec_s149_72, ec_s149_73, ec_s149_74, ec_s149_76, ec_s149_77, ec_s149_80, ec_s149_82, ec_s149_84, ec_s149_85, ec_s149_86, ec_s149_87, ec_s149_88, ec_s149_89, ec_s149_90, ec_s149_93, ec_s149_95, ec_s149_96, ec_s149_97, ec_s149_98, ec_s149_99, ec_s149_100, ec_s149_103, ec_s149_105, ec_s149_106, ec_s149_107, ec_s149_109, ec_s149_110, ec_s149_111, ec_s149_114, ec_s149_116, ec_s149_117, ec_s149_118, ec_s149_119, ec_s149_120, ec_s149_121, ec_s149_124, ec_s149_126, ec_s149_127, ec_s149_128, ec_s149_129, ec_s149_130, ec_s149_131, ec_s149_134, ec_s149_135, ec_s149_136, ec_s149_137, ec_s149_138, ec_s149_139, ec_s149_140, ec_s149_141, ec_s149_144, ec_s149_145, ec_s149_146, ec_s149_147, ec_s149_148, ec_zn0, ec_zn1, ec_zn2, ec_zn3, ec_zn4, ec_zn5, ec_zn6, ec_zn7, ec_zn8, ec_zn9, ec_zn10, ec_zn12, ec_zn13, ec_zn14, ec_zn15, ec_zn16, ec_zn20, ec_zn30, ec_zn48, ec_zn99, ec_zn120, ec_zn127, ec_zn11, ec_zn31, ec_zn46, ec_zn57, ec_zn59, ec_zn63, ec_zn101, ec_zn107, ec_zn108, ec_zn110, ec_zn111, ec_zn115, ec_zn116, ec_zn119, ec_zn167, ec_zn185, ec_zn192, ec_zn215, ec_zn233, ec_zn699, ec_zn932, ec_zn999, ec_znF, ec_zneg, ec_zadd, ec_zsub, ec_zmul, ec_zdivO, ec_em, ec_zltO, ec_zeqO, ec_zeq0, ec_qt, ec_qf, if_pos, if_neg, Int.add_zero, ec_aft_v, ec_aft_n, ec_rwE, ec_rwN, ec_rwP, ec_rwK, ec_rwS, ec_w_shpI, ec_w_shpL, ec_w_shpA, hD, hs, g1, g3, g5, g6]
        · rw [if_neg q3]
          refine ⟨fun _ => ?_, fun e => absurd rfl e⟩
          obtain ⟨h1, a1, a2, a3, a4⟩ := ed_saved M
          have r := a2.2.1
          have wf := ed_WF_amo M.2.2.1 (z := 8 * y + x) (a := a) (b := b) (by omega) zi qa qb
          have hD1 := a2.1
          unfold ec_MD at hD1
          have hD := And.intro hD hD1
          have r0 := r
          unfold ec_Ms at r
          unfold ed_An
          generalize e : ec_om 149 0 _ [] h = rr
          have fin : σ 4 + 1 - 1 = σ 4 := by omega
          unfold ed_amo at wf ⊢
          simp (disch := first | (simp only [ec_w_kI, ec_w_kL, ec_w_kA, ec_w_shpI, ec_w_shpL, ec_w_shpA, ec_isR_r, ec_01z, ec_01o, ec_01q, hD]; done) | omega | (simp only [ec_w_shpI, ec_w_shpL, ec_w_shpA, hD]; refine ec_zinO ?_; omega) | (refine ec_nzO ?_; omega)) only [ec_s149_0, ec_s149_1, ec_s149_2, ec_s149_3, ec_s149_6, ec_s149_9, ec_s149_10, ec_s149_11, ec_s149_14, ec_s149_15, ec_s149_16, ec_s149_17, ec_s149_19, ec_s149_22, ec_s149_25, ec_s149_27, ec_s149_28, ec_s149_29, ec_s149_32, ec_s149_35, ec_s149_36, ec_s149_37, ec_s149_40, ec_s149_41, ec_s149_42, ec_s149_45, ec_s149_46, ec_s149_47, ec_s149_49, ec_s149_52, ec_s149_53, ec_s149_54, ec_s149_57, ec_s149_58, ec_s149_59, ec_s149_62, ec_s149_65, ec_s149_66, ec_s149_67, ec_s149_70, ec_s149_71, ec_s149_72, ec_s149_73, ec_s149_74, ec_s149_76, ec_s149_77, ec_s149_80, ec_s149_82, ec_s149_84, ec_s149_85, ec_s149_86, ec_s149_87, ec_s149_88, ec_s149_89, ec_s149_90, ec_s149_93, ec_s149_95, ec_s149_96, ec_s149_97, ec_s149_98, ec_s149_99, ec_s149_100, ec_s149_103, ec_s149_105, ec_s149_106, ec_s149_107, ec_s149_109, ec_s149_110, ec_s149_111, ec_s149_114, ec_s149_116, ec_s149_117, ec_s149_118, ec_s149_119, ec_s149_120, ec_s149_121, ec_s149_124, ec_s149_126, ec_s149_127, ec_s149_128, ec_s149_129, ec_s149_130, ec_s149_131, ec_s149_134, ec_s149_135, ec_s149_136, ec_s149_137, ec_s149_138, ec_s149_139, ec_s149_140, ec_s149_141, ec_s149_144, ec_s149_145, ec_s149_146, ec_s149_147, ec_s149_148, ec_zn0, ec_zn1, ec_zn2, ec_zn3, ec_zn4, ec_zn5, ec_zn6, ec_zn7, ec_zn8, ec_zn9, ec_zn10, ec_zn12, ec_zn13, ec_zn14, ec_zn15, ec_zn16, ec_zn20, ec_zn30, ec_zn48, ec_zn99, ec_zn120, ec_zn127, ec_zn11, ec_zn31, ec_zn46, ec_zn57, ec_zn59, ec_zn63, ec_zn101, ec_zn107, ec_zn108, ec_zn110, ec_zn111, ec_zn115, ec_zn116, ec_zn119, ec_zn167, ec_zn185, ec_zn192, ec_zn215, ec_zn233, ec_zn699, ec_zn932, ec_zn999, ec_znF, ec_zneg, ec_zadd, ec_zsub, ec_zmul, ec_zdivO, ec_em, ec_zltO, ec_zeqO, ec_zeq0, ec_qt, ec_qf, if_pos, if_neg, Int.add_zero, ec_aft_v, ec_aft_n, ec_rwE, ec_rwN, ec_rwP, ec_rwK, ec_rwS, ec_w_shpI, ec_w_shpL, ec_w_shpA, hD, hs, r, g1, g3, g5, g6, a1, fin] at e
          subst e
          exact ⟨_, rfl, a2.fin a3 a4 (by repeat (first | exact r0 | refine ec_Ms.w ?_ (by omega))) (by repeat (first | exact ec_fg.refl | refine ec_fg.I ?_ (by rfl))) wf⟩
      · rw [if_neg (fun z : (1 ≤ a ∧ a ≤ 9) ∧ 0 ≤ b ∧ b ≤ 1 => qb z.2)]
        refine ⟨fun e => absurd e (by decide), fun _ => ed_An.er M ?_⟩
        simp (disch := first | (simp only [ec_w_kI, ec_w_kL, ec_w_kA, ec_w_shpI, ec_w_shpL, ec_w_shpA, ec_isR_r, ec_01z, ec_01o, ec_01q, hD]; done) | omega | (simp only [ec_w_shpI, ec_w_shpL, ec_w_shpA, hD]; refine ec_zinO ?_; omega) | (refine ec_nzO ?_; omega)) only [ec_s149_0, ec_s149_1, ec_s149_2, ec_s149_3, ec_s149_6, ec_s149_9, ec_s149_10, ec_s149_11, ec_s149_14, ec_s149_15, ec_s149_16, ec_s149_17, ec_s149_19, ec_s149_22, ec_s149_25, ec_s149_27, ec_s149_28, ec_s149_29, ec_s149_32, ec_s149_35, ec_s149_36, ec_s149_37, ec_s149_40, ec_s149_41, ec_s149_42, ec_s149_45, ec_s149_46, ec_s149_47, ec_s149_49, ec_s149_52, ec_s149_53, ec_s149_54, ec_s149_57, ec_s149_58, ec_s149_59, ec_s149_62, ec_s149_65, ec_s149_66, ec_s149_67, ec_s149_70, ec_s149_71, ec_s149_72, ec_s149_73, ec_s149_74, ec_s149_76, ec_s149_77, ec_s149_80, ec_s149_82, ec_s149_84, ec_s149_85, ec_s149_86, ec_s149_87, ec_s149_88, ec_s149_89, ec_s149_90, ec_s149_93, ec_s149_95, ec_s149_96, ec_s149_97, ec_s149_98, ec_s149_99, ec_s149_100, ec_s149_103, ec_s149_105, ec_s149_106, ec_s149_107, ec_s149_109, ec_s149_110, ec_s149_111, ec_s149_114, ec_s149_116, ec_s149_117, ec_s149_118, ec_s149_119, ec_s149_120, ec_s149_121, ec_s149_124, ec_s149_126, ec_s149_127, ec_s149_128, ec_s149_129, ec_s149_130, ec_s149_131, ec_s149_134, ec_s149_135, ec_s149_136, ec_s149_137, ec_s149_138, ec_s149_139, ec_s149_140, ec_s149_141, ec_s149_144, ec_s149_145, ec_s149_146, ec_s149_147, ec_s149_148, ec_zn0, ec_zn1, ec_zn2, ec_zn3, ec_zn4, ec_zn5, ec_zn6, ec_zn7, ec_zn8, ec_zn9, ec_zn10, ec_zn12, ec_zn13, ec_zn14, ec_zn15, ec_zn16, ec_zn20, ec_zn30, ec_zn48, ec_zn99, ec_zn120, ec_zn127, ec_zn11, ec_zn31, ec_zn46, ec_zn57, ec_zn59, ec_zn63, ec_zn101, ec_zn107, ec_zn108, ec_zn110, ec_zn111, ec_zn115, ec_zn116, ec_zn119, ec_zn167, ec_zn185, ec_zn192, ec_zn215, ec_zn233, ec_zn699, ec_zn932, ec_zn999, ec_znF, ec_zneg, ec_zadd, ec_zsub, ec_zmul, ec_zdivO, ec_em, ec_zltO, ec_zeqO, ec_zeq0, ec_qt, ec_qf, if_pos, if_neg, Int.add_zero, ec_aft_v, ec_aft_n, ec_rwE, ec_rwN, ec_rwP, ec_rwK, ec_rwS, ec_w_shpI, ec_w_shpL, ec_w_shpA, hD, hs, g1, g3, g5, g6]
    · rw [if_neg (fun z : (1 ≤ a ∧ a ≤ 9) ∧ 0 ≤ b ∧ b ≤ 1 => qa z.1)]
      refine ⟨fun e => absurd e (by decide), fun _ => ed_An.er M ?_⟩
      simp (disch := first | (simp only [ec_w_kI, ec_w_kL, ec_w_kA, ec_w_shpI, ec_w_shpL, ec_w_shpA, ec_isR_r, ec_01z, ec_01o, ec_01q, hD]; done) | omega | (simp only [ec_w_shpI, ec_w_shpL, ec_w_shpA, hD]; refine ec_zinO ?_; omega) | (refine ec_nzO ?_; omega)) only [ec_s149_0, ec_s149_1, ec_s149_2, ec_s149_3, ec_s149_6, ec_s149_9, ec_s149_10, ec_s149_11, ec_s149_14, ec_s149_15, ec_s149_16, ec_s149_17, ec_s149_19, ec_s149_22, ec_s149_25, ec_s149_27, ec_s149_28, ec_s149_29, ec_s149_32, ec_s149_35, ec_s149_36, ec_s149_37, ec_s149_40, ec_s149_41, ec_s149_42, ec_s149_45, ec_s149_46, ec_s149_47, ec_s149_49, ec_s149_52, ec_s149_53, ec_s149_54, ec_s149_57, ec_s149_58, ec_s149_59, ec_s149_62, ec_s149_65, ec_s149_66, ec_s149_67, ec_s149_70, ec_s149_71, ec_s149_72, ec_s149_73, ec_s149_74, ec_s149_76, ec_s149_77, ec_s149_80, ec_s149_82, ec_s149_84, ec_s149_85, ec_s149_86, ec_s149_87, ec_s149_88, ec_s149_89, ec_s149_90, ec_s149_93, ec_s149_95, ec_s149_96, ec_s149_97, ec_s149_98, ec_s149_99, ec_s149_100, ec_s149_103, ec_s149_105, ec_s149_106, ec_s149_107, ec_s149_109, ec_s149_110, ec_s149_111, ec_s149_114, ec_s149_116, ec_s149_117, ec_s149_118, ec_s149_119, ec_s149_120, ec_s149_121, ec_s149_124, ec_s149_126, ec_s149_127, ec_s149_128, ec_s149_129, ec_s149_130, ec_s149_131, ec_s149_134, ec_s149_135, ec_s149_136, ec_s149_137, ec_s149_138, ec_s149_139, ec_s149_140, ec_s149_141, ec_s149_144, ec_s149_145, ec_s149_146, ec_s149_147, ec_s149_148, ec_zn0, ec_zn1, ec_zn2, ec_zn3, ec_zn4, ec_zn5, ec_zn6, ec_zn7, ec_zn8, ec_zn9, ec_zn10, ec_zn12, ec_zn13, ec_zn14, ec_zn15, ec_zn16, ec_zn20, ec_zn30, ec_zn48, ec_zn99, ec_zn120, ec_zn127, ec_zn11, ec_zn31, ec_zn46, ec_zn57, ec_zn59, ec_zn63, ec_zn101, ec_zn107, ec_zn108, ec_zn110, ec_zn111, ec_zn115, ec_zn116, ec_zn119, ec_zn167, ec_zn185, ec_zn192, ec_zn215, ec_zn233, ec_zn699, ec_zn932, ec_zn999, ec_znF, ec_zneg, ec_zadd, ec_zsub, ec_zmul, ec_zdivO, ec_em, ec_zltO, ec_zeqO, ec_zeq0, ec_qt, ec_qf, if_pos, if_neg, Int.add_zero, ec_aft_v, ec_aft_n, ec_rwE, ec_rwN, ec_rwP, ec_rwK, ec_rwS, ec_w_shpI, ec_w_shpL, ec_w_shpA, hD, hs, g1, g3, g5]
  · rw [ec_qf q1] at g1
    rw [if_neg q1]
    refine ⟨fun e => absurd e (by decide), fun _ => ed_An.er M ?_⟩
    simp (disch := first | (simp only [ec_w_kI, ec_w_kL, ec_w_kA, ec_w_shpI, ec_w_shpL, ec_w_shpA, ec_isR_r, ec_01z, ec_01o, ec_01q, hD]; done) | omega | (simp only [ec_w_shpI, ec_w_shpL, ec_w_shpA, hD]; refine ec_zinO ?_; omega) | (refine ec_nzO ?_; omega)) only [ec_s149_0, ec_s149_1, ec_s149_2, ec_s149_3, ec_s149_6, ec_s149_9, ec_s149_10, ec_s149_11, ec_s149_14, ec_s149_15, ec_s149_16, ec_s149_17, ec_s149_19, ec_s149_22, ec_s149_25, ec_s149_27, ec_s149_28, ec_s149_29, ec_s149_32, ec_s149_35, ec_s149_36, ec_s149_37, ec_s149_40, ec_s149_41, ec_s149_42, ec_s149_45, ec_s149_46, ec_s149_47, ec_s149_49, ec_s149_52, ec_s149_53, ec_s149_54, ec_s149_57, ec_s149_58, ec_s149_59, ec_s149_62, ec_s149_65, ec_s149_66, ec_s149_67, ec_s149_70, ec_s149_71, ec_s149_72, ec_s149_73, ec_s149_74, ec_s149_76, ec_s149_77, ec_s149_80, ec_s149_82, ec_s149_84, ec_s149_85, ec_s149_86, ec_s149_87, ec_s149_88, ec_s149_89, ec_s149_90, ec_s149_93, ec_s149_95, ec_s149_96, ec_s149_97, ec_s149_98, ec_s149_99, ec_s149_100, ec_s149_103, ec_s149_105, ec_s149_106, ec_s149_107, ec_s149_109, ec_s149_110, ec_s149_111, ec_s149_114, ec_s149_116, ec_s149_117, ec_s149_118, ec_s149_119, ec_s149_120, ec_s149_121, ec_s149_124, ec_s149_126, ec_s149_127, ec_s149_128, ec_s149_129, ec_s149_130, ec_s149_131, ec_s149_134, ec_s149_135, ec_s149_136, ec_s149_137, ec_s149_138, ec_s149_139, ec_s149_140, ec_s149_141, ec_s149_144, ec_s149_145, ec_s149_146, ec_s149_147, ec_s149_148, ec_zn0, ec_zn1, ec_zn2, ec_zn3, ec_zn4, ec_zn5, ec_zn6, ec_zn7, ec_zn8, ec_zn9, ec_zn10, ec_zn12, ec_zn13, ec_zn14, ec_zn15, ec_zn16, ec_zn20, ec_zn30, ec_zn48, ec_zn99, ec_zn120, ec_zn127, ec_zn11, ec_zn31, ec_zn46, ec_zn57, ec_zn59, ec_zn63, ec_zn101, ec_zn107, ec_zn108, ec_zn110, ec_zn111, ec_zn115, ec_zn116, ec_zn119, ec_zn167, ec_zn185, ec_zn192, ec_zn215, ec_zn233, ec_zn699, ec_zn932, ec_zn999, ec_znF, ec_zneg, ec_zadd, ec_zsub, ec_zmul, ec_zdivO, ec_em, ec_zltO, ec_zeqO, ec_zeq0, ec_qt, ec_qf, if_pos, if_neg, Int.add_zero, ec_aft_v, ec_aft_n, ec_rwE, ec_rwN, ec_rwP, ec_rwK, ec_rwS, ec_w_shpI, ec_w_shpL, ec_w_shpA, hD, hs, g1, g3]
set_option maxHeartbeats 1000000 in
theorem ec_c151 (M : ed_ML h σ n p L T) {x y : Int} (rx : ec_rg x) (ry : ec_rg y) :
    (ed_kSt σ x y = 0 → ed_An 151 [.ref 72, .int (ec_i x), .int (ec_i y), .double 0] h 0 (if ed_tr σ (8 * y + x) = -1 then σ 5 else ed_tr σ (8 * y + x)) (ed_str σ (8 * y + x)) (ed_pn n) (ed_pp n p σ) L T) ∧
    (ed_kSt σ x y ≠ 0 → ed_An 151 [.ref 72, .int (ec_i x), .int (ec_i y), .double 0] h (ed_kSt σ x y) 0 σ n p L T) := by
  have g1 := ec_c124 M.1 M.2.1 M.2.2.1 rx ry
  have g3 := fun c => ed_er M.1 (x := c)
  have hD := M.1
  have hs := M.2.1
  have w := M.2.2.1.1
  unfold ec_MD at hD
  unfold ec_Ms at hs
  unfold ed_kSt
  by_cases q1 : ed_qc σ x y
  · have zi := ed_qc_in M.2.2.1 q1
    have z2 := zi.1
    have g2 := ec_c150 M.1 M.2.1 M.2.2.1 (x := 8 * y + x) (ec_rgs (by omega))
    have tr := ed_tr_rg M.2.2.1 (x := 8 * y + x)
    rw [ec_qt q1] at g1
    rw [if_pos q1]
    by_cases q2 : ed_tr σ (8 * y + x) = -1 ∧ σ 5 = 6
    · rw [if_pos q2]
      refine ⟨fun e => absurd e (by decide), fun _ => ed_An.er M ?_⟩
      simp (disch := first | (simp only [ec_w_kI, ec_w_kL, ec_w_kA, ec_w_shpI, ec_w_shpL, ec_w_shpA, ec_isR_r, ec_01z, ec_01o, ec_01q, hD]; done) | omega | (simp only [ec_w_shpI, ec_w_shpL, ec_w_shpA, hD]; refine ec_zinO ?_; omega) | (refine ec_nzO ?_; omega)) only [ec_s151_0, ec_s151_1, ec_s151_2, ec_s151_3, ec_s151_6, ec_s151_9, ec_s151_10, ec_s151_11, ec_s151_14, ec_s151_15, ec_s151_16, ec_s151_18, ec_s151_19, ec_s151_20, ec_s151_21, ec_s151_22, ec_s151_25, ec_s151_26, ec_s151_27, ec_s151_28, ec_s151_31, ec_s151_32, ec_s151_35, ec_s151_36, ec_s151_37, ec_s151_39, ec_s151_42, ec_s151_43, ec_s151_44, ec_s151_47, ec_s151_48, ec_s151_49, ec_s151_52, ec_s151_53, ec_s151_54, ec_s151_57, ec_s151_58, ec_s151_61, ec_s151_62, ec_s151_63, ec_s151_64, ec_s151_65, ec_s151_68, ec_s151_71, ec_s151_72, ec_s151_73, ec_s151_74, ec_s151_75, ec_s151_77, ec_s151_78, ec_s151_79, ec_s151_80, ec_s151_81, ec_s151_82, ec_s151_83, ec_s151_86, ec_s151_89, ec_s151_90, ec_s151_91, ec_s151_92, ec_s151_93, ec_s151_94, ec_s151_95, ec_s151_96, ec_s151_97, ec_s151_98, ec_s151_101, ec_s151_102, ec_s151_103, ec_s151_104, ec_s151_105, ec_s151_106, ec_s151_107, ec_s151_108, ec_s151_111, ec_s151_114, ec_s151_115, ec_s151_116, ec_s151_117, ec_s151_118, ec_s151_119, ec_s151_120, ec_s151_121, ec_s151_122, ec_s151_123, ec_zn0, ec_zn1, ec_zn2, ec_zn3, ec_zn4, ec_zn5, ec_zn6, ec_zn7, ec_zn8, ec_zn9, ec_zn10, ec_zn12, ec_zn13, ec_zn14, ec_zn15, ec_zn16, ec_zn20, ec_zn30, ec_zn48, ec_zn99, ec_zn120, ec_zn127, ec_zn11, ec_zn31, ec_zn46, ec_zn57, ec_zn59, ec_zn63, ec_zn101, ec_zn107, ec_zn108, ec_zn110, ec_zn111, ec_zn115, ec_zn116, ec_zn119, ec_zn167, ec_zn185, ec_zn192, ec_zn215, ec_zn233, ec_zn699, ec_zn932, ec_zn999, ec_znF, ec_zneg, ec_zadd, ec_zsub, ec_zmul, ec_zdivO, ec_em, ec_zltO, ec_zeqO, ec_zeq0, ec_qt, ec_qf, if_pos, if_neg, Int.add_zero, ec_aft_v, ec_aft_n, ec_rwE, ec_rwN, ec_rwP, ec_rwK, ec_rwS, ec_w_shpI, ec_w_shpL, ec_w_shpA, hD, hs, g1, g2, g3]
    · rw [if_neg q2]
      refine ⟨fun _ => ?_, fun e => absurd rfl e⟩
      obtain ⟨h1, a1, a2, a3, a4⟩ := ed_saved M
      have r := a2.2.1
      have wf := ed_WF_str M.2.2.1 (z := 8 * y + x) (fun y => by omega) zi
      have hD1 := a2.1
      unfold ec_MD at hD1
      have hD := And.intro hD hD1
      have r0 := r
      unfold ec_Ms at r
      unfold ed_An
      generalize e : ec_om 151 0 _ [] h = rr
      unfold ed_str at wf ⊢
      by_cases q3 : ed_tr σ (8 * y + x) = -1
      · rw [if_pos q3] at wf ⊢
        rw [if_pos q3]
        rw [q3] at g2
        simp (disch := first | (simp only [ec_w_kI, ec_w_kL, ec_w_kA, ec_w_shpI, ec_w_shpL, ec_w_shpA, ec_isR_r, ec_01z, ec_01o, ec_01q, hD]; done) | omega | (simp only [ec_w_shpI, ec_w_shpL, ec_w_shpA, hD]; refine ec_zinO ?_; omega) | (refine ec_nzO ?_; omega)) only [ec_s151_0, ec_s151_1, ec_s151_2, ec_s151_3, ec_s151_6, ec_s151_9, ec_s151_10, ec_s151_11, ec_s151_14, ec_s151_15, ec_s151_16, ec_s151_18, ec_s151_19, ec_s151_20, ec_s151_21, ec_s151_22, ec_s151_25, ec_s151_26, ec_s151_27, ec_s151_28, ec_s151_31, ec_s151_32, ec_s151_35, ec_s151_36, ec_s151_37, ec_s151_39, ec_s151_42, ec_s151_43, ec_s151_44, ec_s151_47, ec_s151_48, ec_s151_49, ec_s151_52, ec_s151_53, ec_s151_54, ec_s151_57, ec_s151_58, ec_s151_61, ec_s151_62, ec_s151_63, ec_s151_64, ec_s151_65, ec_s151_68, ec_s151_71, ec_s151_72, ec_s151_73, ec_s151_74, ec_s151_75, ec_s151_77, ec_s151_78, ec_s151_79, ec_s151_80, ec_s151_81, ec_s151_82, ec_s151_83, ec_s151_86, ec_s151_89, ec_s151_90, ec_s151_91, ec_s151_92, ec_s151_93, ec_s151_94, ec_s151_95, ec_s151_96, ec_s151_97, ec_s151_98, ec_s151_101, ec_s151_102, ec_s151_103, ec_s151_104, ec_s151_105, ec_s151_106, ec_s151_107, ec_s151_108, ec_s151_111, ec_s151_114, ec_s151_115, ec_s151_116, ec_s151_117, ec_s151_118, ec_s151_119, ec_s151_120, ec_s151_121, ec_s151_122, ec_s151_123, ec_zn0, ec_zn1, ec_zn2, ec_zn3, ec_zn4, ec_zn5, ec_zn6, ec_zn7, ec_zn8, ec_zn9, ec_zn10, ec_zn12, ec_zn13, ec_zn14, ec_zn15, ec_zn16, ec_zn20, ec_zn30, ec_zn48, ec_zn99, ec_zn120, ec_zn127, ec_zn11, ec_zn31, ec_zn46, ec_zn57, ec_zn59, ec_zn63, ec_zn101, ec_zn107, ec_zn108, ec_zn110, ec_zn111, ec_zn115, ec_zn116, ec_zn119, ec_zn167, ec_zn185, ec_zn192, ec_zn215, ec_zn233, ec_zn699, ec_zn932, ec_zn999, ec_znF, ec_zneg, ec_zadd, ec_zsub, ec_zmul, ec_zdivO, ec_em, ec_zltO, ec_zeqO, ec_zeq0, ec_qt, ec_qf, if_pos, if_neg, Int.add_zero, ec_aft_v, ec_aft_n, ec_rwE, ec_rwN, ec_rwP, ec_rwK, ec_rwS, ec_w_shpI, ec_w_shpL, ec_w_shpA, hD, hs, r, g1, g2, g3, a1] at e
        subst e
        exact ⟨_, rfl, a2.fin a3 a4 (by repeat (first | exact r0 | refine ec_Ms.w ?_ (by omega))) (by repeat (first | exact ec_fg.refl | refine ec_fg.I ?_ (by rfl))) wf⟩
      · rw [if_neg q3] at wf ⊢
        rw [if_neg q3]
        generalize ed_tr σ (8 * y + x) = k at g2 tr q2 q3 wf ⊢
        have tr := tr.resolve_left (fun y => q3 y.1)
        simp (disch := first | (simp only [ec_w_kI, ec_w_kL, ec_w_kA, ec_w_shpI, ec_w_shpL, ec_w_shpA, ec_isR_r, ec_01z, ec_01o, ec_01q, hD]; done) | omega | (simp only [ec_w_shpI, ec_w_shpL, ec_w_shpA, hD]; refine ec_zinO ?_; omega) | (refine ec_nzO ?_; omega)) only [ec_s151_0, ec_s151_1, ec_s151_2, ec_s151_3, ec_s151_6, ec_s151_9, ec_s151_10, ec_s151_11, ec_s151_14, ec_s151_15, ec_s151_16, ec_s151_18, ec_s151_19, ec_s151_20, ec_s151_21, ec_s151_22, ec_s151_25, ec_s151_26, ec_s151_27, ec_s151_28, ec_s151_31, ec_s151_32, ec_s151_35, ec_s151_36, ec_s151_37, ec_s151_39, ec_s151_42, ec_s151_43, ec_s151_44, ec_s151_47, ec_s151_48, ec_s151_49, ec_s151_52, ec_s151_53, ec_s151_54, ec_s151_57, ec_s151_58, ec_s151_61, ec_s151_62, ec_s151_63, ec_s151_64, ec_s151_65, ec_s151_68, ec_s151_71, ec_s151_72, ec_s151_73, ec_s151_74, ec_s151_75, ec_s151_77, ec_s151_78, ec_s151_79, ec_s151_80, ec_s151_81, ec_s151_82, ec_s151_83, ec_s151_86, ec_s151_89, ec_s151_90, ec_s151_91, ec_s151_92, ec_s151_93, ec_s151_94, ec_s151_95, ec_s151_96, ec_s151_97, ec_s151_98, ec_s151_101, ec_s151_102, ec_s151_103, ec_s151_104, ec_s151_105, ec_s151_106, ec_s151_107, ec_s151_108, ec_s151_111, ec_s151_114, ec_s151_115, ec_s151_116, ec_s151_117, ec_s151_118, ec_s151_119, ec_s151_120, ec_s151_121, ec_s151_122, ec_s151_123, ec_zn0, ec_zn1, ec_zn2, ec_zn3, ec_zn4, ec_zn5, ec_zn6, ec_zn7, ec_zn8, ec_zn9, ec_zn10, ec_zn12, ec_zn13, ec_zn14, ec_zn15, ec_zn16, ec_zn20, ec_zn30, ec_zn48, ec_zn99, ec_zn120, ec_zn127, ec_zn11, ec_zn31, ec_zn46, ec_zn57, ec_zn59, ec_zn63, ec_zn101, ec_zn107, ec_zn108, ec_zn110, ec_zn111, ec_zn115, ec_zn116, ec_zn119, ec_zn167, ec_zn185, ec_zn192, ec_zn215, ec_zn233, ec_zn699, ec_zn932, ec_zn999, ec_znF, ec_zneg, ec_zadd, ec_zsub, ec_zmul, ec_zdivO, ec_em, ec_zltO, ec_zeqO, ec_zeq0, ec_qt, ec_qf, if_pos, if_neg, Int.add_zero, ec_aft_v, ec_aft_n, ec_rwE, ec_rwN, ec_rwP, ec_rwK, ec_rwS, ec_w_shpI, ec_w_shpL, ec_w_shpA, hD, hs, r, g1, g2, g3, a1] at e
        subst e
        exact ⟨_, rfl, a2.fin a3 a4 (by repeat (first | exact r0 | refine ec_Ms.w ?_ (by omega))) (by repeat (first | exact ec_fg.refl | refine ec_fg.I ?_ (by rfl))) wf⟩
  · rw [ec_qf q1] at g1
    rw [if_neg q1]
    refine ⟨fun e => absurd e (by decide), fun _ => ed_An.er M ?_⟩
    simp (disch := first | (simp only [ec_w_kI, ec_w_kL, ec_w_kA, ec_w_shpI, ec_w_shpL, ec_w_shpA, ec_isR_r, ec_01z, ec_01o, ec_01q, hD]; done) | omega | (simp only [ec_w_shpI, ec_w_shpL, ec_w_shpA, hD]; refine ec_zinO ?_; omega) | (refine ec_nzO ?_; omega)) only [ec_s151_0, ec_s151_1, ec_s151_2, ec_s151_3, ec_s151_6, ec_s151_9, ec_s151_10, ec_s151_11, ec_s151_14, ec_s151_15, ec_s151_16, ec_s151_18, ec_s151_19, ec_s151_20, ec_s151_21, ec_s151_22, ec_s151_25, ec_s151_26, ec_s151_27, ec_s151_28, ec_s151_31, ec_s151_32, ec_s151_35, ec_s151_36, ec_s151_37, ec_s151_39, ec_s151_42, ec_s151_43, ec_s151_44, ec_s151_47, ec_s151_48, ec_s151_49, ec_s151_52, ec_s151_53, ec_s151_54, ec_s151_57, ec_s151_58, ec_s151_61, ec_s151_62, ec_s151_63, ec_s151_64, ec_s151_65, ec_s151_68, ec_s151_71, ec_s151_72, ec_s151_73, ec_s151_74, ec_s151_75, ec_s151_77, ec_s151_78, ec_s151_79, ec_s151_80, ec_s151_81, ec_s151_82, ec_s151_83, ec_s151_86, ec_s151_89, ec_s151_90, ec_s151_91, ec_s151_92, ec_s151_93, ec_s151_94, ec_s151_95, ec_s151_96, ec_s151_97, ec_s151_98, ec_s151_101, ec_s151_102, ec_s151_103, ec_s151_104, ec_s151_105, ec_s151_106, ec_s151_107, ec_s151_108, ec_s151_111, ec_s151_114, ec_s151_115, ec_s151_116, ec_s151_117, ec_s151_118, ec_s151_119, ec_s151_120, ec_s151_121, ec_s151_122, ec_s151_123, ec_zn0, ec_zn1, ec_zn2, ec_zn3, ec_zn4, ec_zn5, ec_zn6, ec_zn7, ec_zn8, ec_zn9, ec_zn10, ec_zn12, ec_zn13, ec_zn14, ec_zn15, ec_zn16, ec_zn20, ec_zn30, ec_zn48, ec_zn99, ec_zn120, ec_zn127, ec_zn11, ec_zn31, ec_zn46, ec_zn57, ec_zn59, ec_zn63, ec_zn101, ec_zn107, ec_zn108, ec_zn110, ec_zn111, ec_zn115, ec_zn116, ec_zn119, ec_zn167, ec_zn185, ec_zn192, ec_zn215, ec_zn233, ec_zn699, ec_zn932, ec_zn999, ec_znF, ec_zneg, ec_zadd, ec_zsub, ec_zmul, ec_zdivO, ec_em, ec_zltO, ec_zeqO, ec_zeq0, ec_qt, ec_qf, if_pos, if_neg, Int.add_zero, ec_aft_v, ec_aft_n, ec_rwE, ec_rwN, ec_rwP, ec_rwK, ec_rwS, ec_w_shpI, ec_w_shpL, ec_w_shpA, hD, hs, g1, g3]
theorem ed_lit_q {h : ec_Hp} {σ : ec_Sg} (hL : ed_Ar h 78 48 (fun z => ed_q (ed_lit σ z))) {z : Int} (hz : 0 ≤ z ∧ z < 48) : h.2.1 78 (ec_i z).toNatClampNeg = ec_i (ed_q (ed_lit σ z)) := hL z hz
set_option maxHeartbeats 1000000 in
theorem ec_c152 (M : ed_ML h σ n p L T) {x y a b : Int} (rx : ec_rg x) (ry : ec_rg y) (ra : ec_rg a) (rb : ec_rg b) :
    (ed_kPl σ x y a b = 0 → ed_An 152 [.ref 72, .int (ec_i x), .int (ec_i y), .int (ec_i a), .int (ec_i b)] h 0 (ed_q (ed_lit (ed_plc σ (8 * y + x) a b) (8 * y + x))) (ed_plc σ (8 * y + x) a b) (ed_pn n) (ed_pp n p σ) L T) ∧
    (ed_kPl σ x y a b ≠ 0 → ed_An 152 [.ref 72, .int (ec_i x), .int (ec_i y), .int (ec_i a), .int (ec_i b)] h (ed_kPl σ x y a b) 0 σ n p L T) := by
  have g1 := ec_c124 M.1 M.2.1 M.2.2.1 rx ry
  have g3 := fun c => ed_er M.1 (x := c)
  have g5 := fun h => ec_c118 (h := h) ra ec_rn0 ec_rn9
  have g6 := fun h => ec_c118 (h := h) rb ec_rn0 ec_rn99
  have hD := M.1
  have hs := M.2.1
  have w := M.2.2.1.1
  have w9 := M.2.2.1.2.1.2.2.2.1
  unfold ec_MD at hD
  unfold ec_Ms at hs
  unfold ed_kPl
  by_cases q1 : ed_qc σ x y
  · have zi := ed_qc_in M.2.2.1 q1
    have z2 := zi.1
    rw [ec_qt q1] at g1
    rw [if_pos q1]
    by_cases qa : 0 ≤ a ∧ a ≤ 9
    · by_cases qb : 0 ≤ b ∧ b ≤ 99
      · rw [if_pos (show (0 ≤ a ∧ a ≤ 9) ∧ 0 ≤ b ∧ b ≤ 99 from ⟨qa, qb⟩)]
        refine ⟨fun _ => ?_, fun e => absurd rfl e⟩
        obtain ⟨h1, a1, a2, a3, a4⟩ := ed_saved M
        have r := a2.2.1
        have wf := ed_WF_plc M.2.2.1 (z := 8 * y + x) (a := a) (b := b) zi qa qb
        have hD1 := a2.1
        generalize hh : ec_setI (ec_setI (ec_setI (ec_setI h1 73 (ec_i 6).toNatClampNeg (ec_i (8 * y + x))) 73 (ec_i 7).toNatClampNeg (ec_i a)) 73 (ec_i 8).toNatClampNeg (ec_i b)) 73 (ec_i 9).toNatClampNeg (ec_i (if b = 0 then 0 else σ 9)) = h2
        have f2 : ec_fg ed_73 h1 h2 := by rw [← hh]; exact (((ec_fg.refl.I (by rfl)).I (by rfl)).I (by rfl)).I (by rfl)
        have s2 : ec_Ms h2 (ed_plc σ (8 * y + x) a b) := by rw [← hh]; exact (((r.w (by omega)).w (by omega)).w (by omega)).w (by omega)
        have e6 : ed_plc σ (8 * y + x) a b 6 = 8 * y + x := by
          unfold ed_plc
          simp (disch := omega) only [ec_suN, ec_suE]
        obtain ⟨h3, b1, b2, b3⟩ := ec_c135 (hD1.of f2.1.1) s2 wf
        have lq := ed_lit_q b2 z2
        have M2 := a2.s f2 s2 wf
        have s3 : h3.2.1 73 (ec_i 6).toNatClampNeg = ec_i (8 * y + x) := by
          rw [b3.2 73 _ (by decide), s2 6 (by omega), e6]
        have M3 := M2.x b3 (by decide) (by decide) (fun _ => (by decide : ¬ ((73 : Nat) = 78 ∨ (73 : Nat) = 79))) (fun _ => (by decide : ¬ ((74 : Nat) = 78 ∨ (74 : Nat) = 79))) (fun _ => (by decide : ¬ ((77 : Nat) = 78 ∨ (77 : Nat) = 79)))
        refine ⟨h3, ?_, ((b3.2 72 7 (by decide)).trans (f2.2 72 7 (by decide))).trans a3, M3, (a4.trans (f2.mono ed_73F)).trans (b3.mono ed_78F)⟩
        have hD2 := hD1.of f2.1.1
        have hD3 := hD2.of b3.1.1
        unfold ec_MD at hD1 hD2 hD3
        have hD := And.intro hD (And.intro hD1 (And.intro hD2 hD3))
        unfold ec_Ms at r
        have lr := ed_q_rg (p := ed_lit (ed_plc σ (8 * y + x) a b) (8 * y + x))
        by_cases q4 : b = 0
        · rw [if_pos q4] at hh
          by_cases q5 : ed_lit (ed_plc σ (8 * y + x) a b) (8 * y + x)
          · rw [ed_qt q5] at lq ⊢
            simp (disch := first | (simp only [ec_w_kI, ec_w_kL, ec_w_kA, ec_w_shpI, ec_w_shpL, ec_w_shpA, ec_isR_r, ec_01z, ec_01o, ec_01q, hD]; done) | omega | (simp only [ec_w_shpI, ec_w_shpL, ec_w_shpA, hD]; refine ec_zinO ?_; omega) | (refine ec_nzO ?_; omega)) only [ec_s152_0, ec_s152_1, ec_s152_2, ec_s152_3, ec_s152_6, ec_s152_9, ec_s152_10, ec_s152_11, ec_s152_14, ec_s152_15, ec_s152_16, ec_s152_17, ec_s152_19, ec_s152_22, ec_s152_25, ec_s152_27, ec_s152_28, ec_s152_30, ec_s152_33, ec_s152_36, ec_s152_37, ec_s152_38, ec_s152_41, ec_s152_42, ec_s152_43, ec_s152_46, ec_s152_47, ec_s152_50, ec_s152_52, ec_s152_54, ec_s152_55, ec_s152_56, ec_s152_57, ec_s152_58, ec_s152_59, ec_s152_60, ec_s152_63, ec_s152_65, ec_s152_66, ec_s152_67, ec_s152_68, ec_s152_71, ec_s152_73, ec_s152_75, ec_s152_76, ec_s152_77, ec_s152_80, ec_s152_82, ec_s152_84, ec_s152_87, ec_s152_88, ec_s152_91, ec_s152_92, ec_s152_95, ec_s152_97, ec_s152_98, ec_s152_99, ec_s152_100, ec_s152_103, ec_s152_104, ec_s152_107, ec_s152_108, ec_s152_111, ec_s152_113, ec_s152_114, ec_s152_115, ec_s152_118, ec_s152_119, ec_s152_122, ec_s152_123, ec_zn0, ec_zn1, ec_zn2, ec_zn3, ec_zn4, ec_zn5, ec_zn6, ec_zn7, ec_zn8, ec_zn9, ec_zn10, ec_zn12, ec_zn13, ec_zn14, ec_zn15, ec_zn16, ec_zn20, ec_zn30, ec_zn48, ec_zn99, ec_zn120, ec_zn127, ec_zn11, ec_zn31, ec_zn46, ec_zn57, ec_zn59, ec_zn63, ec_zn101, ec_zn107, ec_zn108, ec_zn110, ec_zn111, ec_zn115, ec_zn116, ec_zn119, ec_zn167, ec_zn185, ec_zn192, ec_zn215, ec_zn233, ec_zn699, ec_zn932, ec_zn999, ec_znF, ec_zneg, ec_zadd, ec_zsub, ec_zmul, ec_zdivO, ec_em, ec_zltO, ec_zeqO, ec_zeq0, ec_qt, ec_qf, if_pos, if_neg, Int.add_zero, ec_aft_v, ec_aft_n, ec_rwE, ec_rwN, ec_rwP, ec_rwK, ec_rwS, ec_w_shpI, ec_w_shpL, ec_w_shpA, hD, hs, r, g1, g3, g5, g6, a1, hh, b1, s3, lq]
          · rw [ed_qf q5] at lq ⊢
            simp (disch := first | (simp only [ec_w_kI, ec_w_kL, ec_w_kA, ec_w_shpI, ec_w_shpL, ec_w_shpA, ec_isR_r, ec_01z, ec_01o, ec_01q, hD]; done) | omega | (simp only [ec_w_shpI, ec_w_shpL, ec_w_shpA, hD]; refine ec_zinO ?_; omega) | (refine ec_nzO ?_; omega)) only [ec_s152_0, ec_s152_1, ec_s152_2, ec_s152_3, ec_s152_6, ec_s152_9, ec_s152_10, ec_s152_11, ec_s152_14, ec_s152_15, ec_s152_16, ec_s152_17, ec_s152_19, ec_s152_22, ec_s152_25, ec_s152_27, ec_s152_28, ec_s152_30, ec_s152_33, ec_s152_36, ec_s152_37, ec_s152_38, ec_s152_41, ec_s152_42, ec_s152_43, ec_s152_46, ec_s152_47, ec_s152_50, ec_s152_52, ec_s152_54, ec_s152_55, ec_s152_56, ec_s152_57, ec_s152_58, ec_s152_59, ec_s152_60, ec_s152_63, ec_s152_65, ec_s152_66, ec_s152_67, ec_s152_68, ec_s152_71, ec_s152_73, ec_s152_75, ec_s152_76, ec_s152_77, ec_s152_80, ec_s152_82, ec_s152_84, ec_s152_87, ec_s152_88, ec_s152_91, ec_s152_92, ec_s152_95, ec_s152_97, ec_s152_98, ec_s152_99, ec_s152_100, ec_s152_103, ec_s152_104, ec_s152_107, ec_s152_108, ec_s152_111, ec_s152_113, ec_s152_114, ec_s152_115, ec_s152_118, ec_s152_119, ec_s152_122, ec_s152_123, ec_zn0, ec_zn1, ec_zn2, ec_zn3, ec_zn4, ec_zn5, ec_zn6, ec_zn7, ec_zn8, ec_zn9, ec_zn10, ec_zn12, ec_zn13, ec_zn14, ec_zn15, ec_zn16, ec_zn20, ec_zn30, ec_zn48, ec_zn99, ec_zn120, ec_zn127, ec_zn11, ec_zn31, ec_zn46, ec_zn57, ec_zn59, ec_zn63, ec_zn101, ec_zn107, ec_zn108, ec_zn110, ec_zn111, ec_zn115, ec_zn116, ec_zn119, ec_zn167, ec_zn185, ec_zn192, ec_zn215, ec_zn233, ec_zn699, ec_zn932, ec_zn999, ec_znF, ec_zneg, ec_zadd, ec_zsub, ec_zmul, ec_zdivO, ec_em, ec_zltO, ec_zeqO, ec_zeq0, ec_qt, ec_qf, if_pos, if_neg, Int.add_zero, ec_aft_v, ec_aft_n, ec_rwE, ec_rwN, ec_rwP, ec_rwK, ec_rwS, ec_w_shpI, ec_w_shpL, ec_w_shpA, hD, hs, r, g1, g3, g5, g6, a1, hh, b1, s3, lq]
        · rw [if_neg q4] at hh
          by_cases q5 : ed_lit (ed_plc σ (8 * y + x) a b) (8 * y + x)
          · rw [ed_qt q5] at lq ⊢
            simp (disch := first | (simp only [ec_w_kI, ec_w_kL, ec_w_kA, ec_w_shpI, ec_w_shpL, ec_w_shpA, ec_isR_r, ec_01z, ec_01o, ec_01q, hD]; done) | omega | (simp only [ec_w_shpI, ec_w_shpL, ec_w_shpA, hD]; refine ec_zinO ?_; omega) | (refine ec_nzO ?_; omega)) only [ec_s152_0, ec_s152_1, ec_s152_2, ec_s152_3, ec_s152_6, ec_s152_9, ec_s152_10, ec_s152_11, ec_s152_14, ec_s152_15, ec_s152_16, ec_s152_17, ec_s152_19, ec_s152_22, ec_s152_25, ec_s152_27, ec_s152_28, ec_s152_30, ec_s152_33, ec_s152_36, ec_s152_37, ec_s152_38, ec_s152_41, ec_s152_42, ec_s152_43, ec_s152_46, ec_s152_47, ec_s152_50, ec_s152_52, ec_s152_54, ec_s152_55, ec_s152_56, ec_s152_57, ec_s152_58, ec_s152_59, ec_s152_60, ec_s152_63, ec_s152_65, ec_s152_66, ec_s152_67, ec_s152_68, ec_s152_71, ec_s152_73, ec_s152_75, ec_s152_76, ec_s152_77, ec_s152_80, ec_s152_82, ec_s152_84, ec_s152_87, ec_s152_88, ec_s152_91, ec_s152_92, ec_s152_95, ec_s152_97, ec_s152_98, ec_s152_99, ec_s152_100, ec_s152_103, ec_s152_104, ec_s152_107, ec_s152_108, ec_s152_111, ec_s152_113, ec_s152_114, ec_s152_115, ec_s152_118, ec_s152_119, ec_s152_122, ec_s152_123, ec_zn0, ec_zn1, ec_zn2, ec_zn3, ec_zn4, ec_zn5, ec_zn6, ec_zn7, ec_zn8, ec_zn9, ec_zn10, ec_zn12, ec_zn13, ec_zn14, ec_zn15, ec_zn16, ec_zn20, ec_zn30, ec_zn48, ec_zn99, ec_zn120, ec_zn127, ec_zn11, ec_zn31, ec_zn46, ec_zn57, ec_zn59, ec_zn63, ec_zn101, ec_zn107, ec_zn108, ec_zn110, ec_zn111, ec_zn115, ec_zn116, ec_zn119, ec_zn167, ec_zn185, ec_zn192, ec_zn215, ec_zn233, ec_zn699, ec_zn932, ec_zn999, ec_znF, ec_zneg, ec_zadd, ec_zsub, ec_zmul, ec_zdivO, ec_em, ec_zltO, ec_zeqO, ec_zeq0, ec_qt, ec_qf, if_pos, if_neg, Int.add_zero, ec_aft_v, ec_aft_n, ec_rwE, ec_rwN, ec_rwP, ec_rwK, ec_rwS, ec_w_shpI, ec_w_shpL, ec_w_shpA, hD, hs, r, g1, g3, g5, g6, a1, hh, b1, s3, lq]
          · rw [ed_qf q5] at lq ⊢
            simp (disch := first | (simp only [ec_w_kI, ec_w_kL, ec_w_kA, ec_w_shpI, ec_w_shpL, ec_w_shpA, ec_isR_r, ec_01z, ec_01o, ec_01q, hD]; done) | omega | (simp only [ec_w_shpI, ec_w_shpL, ec_w_shpA, hD]; refine ec_zinO ?_; omega) | (refine ec_nzO ?_; omega)) only [ec_s152_0, ec_s152_1, ec_s152_2, ec_s152_3, ec_s152_6, ec_s152_9, ec_s152_10, ec_s152_11, ec_s152_14, ec_s152_15, ec_s152_16, ec_s152_17, ec_s152_19, ec_s152_22, ec_s152_25, ec_s152_27, ec_s152_28, ec_s152_30, ec_s152_33, ec_s152_36, ec_s152_37, ec_s152_38, ec_s152_41, ec_s152_42, ec_s152_43, ec_s152_46, ec_s152_47, ec_s152_50, ec_s152_52, ec_s152_54, ec_s152_55, ec_s152_56, ec_s152_57, ec_s152_58, ec_s152_59, ec_s152_60, ec_s152_63, ec_s152_65, ec_s152_66, ec_s152_67, ec_s152_68, ec_s152_71, ec_s152_73, ec_s152_75, ec_s152_76, ec_s152_77, ec_s152_80, ec_s152_82, ec_s152_84, ec_s152_87, ec_s152_88, ec_s152_91, ec_s152_92, ec_s152_95, ec_s152_97, ec_s152_98, ec_s152_99, ec_s152_100, ec_s152_103, ec_s152_104, ec_s152_107, ec_s152_108, ec_s152_111, ec_s152_113, ec_s152_114, ec_s152_115, ec_s152_118, ec_s152_119, ec_s152_122, ec_s152_123, ec_zn0, ec_zn1, ec_zn2, ec_zn3, ec_zn4, ec_zn5, ec_zn6, ec_zn7, ec_zn8, ec_zn9, ec_zn10, ec_zn12, ec_zn13, ec_zn14, ec_zn15, ec_zn16, ec_zn20, ec_zn30, ec_zn48, ec_zn99, ec_zn120, ec_zn127, ec_zn11, ec_zn31, ec_zn46, ec_zn57, ec_zn59, ec_zn63, ec_zn101, ec_zn107, ec_zn108, ec_zn110, ec_zn111, ec_zn115, ec_zn116, ec_zn119, ec_zn167, ec_zn185, ec_zn192, ec_zn215, ec_zn233, ec_zn699, ec_zn932, ec_zn999, ec_znF, ec_zneg, ec_zadd, ec_zsub, ec_zmul, ec_zdivO, ec_em, ec_zltO, ec_zeqO, ec_zeq0, ec_qt, ec_qf, if_pos, if_neg, Int.add_zero, ec_aft_v, ec_aft_n, ec_rwE, ec_rwN, ec_rwP, ec_rwK, ec_rwS, ec_w_shpI, ec_w_shpL, ec_w_shpA, hD, hs, r, g1, g3, g5, g6, a1, hh, b1, s3, lq]
      · rw [if_neg (fun z : (0 ≤ a ∧ a ≤ 9) ∧ 0 ≤ b ∧ b ≤ 99 => qb z.2)]
        refine ⟨fun e => absurd e (by decide), fun _ => ed_An.er M ?_⟩
        simp (disch := first | (simp only [ec_w_kI, ec_w_kL, ec_w_kA, ec_w_shpI, ec_w_shpL, ec_w_shpA, ec_isR_r, ec_01z, ec_01o, ec_01q, hD]; done) | omega | (simp only [ec_w_shpI, ec_w_shpL, ec_w_shpA, hD]; refine ec_zinO ?_; omega) | (refine ec_nzO ?_; omega)) only [ec_s152_0, ec_s152_1, ec_s152_2, ec_s152_3, ec_s152_6, ec_s152_9, ec_s152_10, ec_s152_11, ec_s152_14, ec_s152_15, ec_s152_16, ec_s152_17, ec_s152_19, ec_s152_22, ec_s152_25, ec_s152_27, ec_s152_28, ec_s152_30, ec_s152_33, ec_s152_36, ec_s152_37, ec_s152_38, ec_s152_41, ec_s152_42, ec_s152_43, ec_s152_46, ec_s152_47, ec_s152_50, ec_s152_52, ec_s152_54, ec_s152_55, ec_s152_56, ec_s152_57, ec_s152_58, ec_s152_59, ec_s152_60, ec_s152_63, ec_s152_65, ec_s152_66, ec_s152_67, ec_s152_68, ec_s152_71, ec_s152_73, ec_s152_75, ec_s152_76, ec_s152_77, ec_s152_80, ec_s152_82, ec_s152_84, ec_s152_87, ec_s152_88, ec_s152_91, ec_s152_92, ec_s152_95, ec_s152_97, ec_s152_98, ec_s152_99, ec_s152_100, ec_s152_103, ec_s152_104, ec_s152_107, ec_s152_108, ec_s152_111, ec_s152_113, ec_s152_114, ec_s152_115, ec_s152_118, ec_s152_119, ec_s152_122, ec_s152_123, ec_zn0, ec_zn1, ec_zn2, ec_zn3, ec_zn4, ec_zn5, ec_zn6, ec_zn7, ec_zn8, ec_zn9, ec_zn10, ec_zn12, ec_zn13, ec_zn14, ec_zn15, ec_zn16, ec_zn20, ec_zn30, ec_zn48, ec_zn99, ec_zn120, ec_zn127, ec_zn11, ec_zn31, ec_zn46, ec_zn57, ec_zn59, ec_zn63, ec_zn101, ec_zn107, ec_zn108, ec_zn110, ec_zn111, ec_zn115, ec_zn116, ec_zn119, ec_zn167, ec_zn185, ec_zn192, ec_zn215, ec_zn233, ec_zn699, ec_zn932, ec_zn999, ec_znF, ec_zneg, ec_zadd, ec_zsub, ec_zmul, ec_zdivO, ec_em, ec_zltO, ec_zeqO, ec_zeq0, ec_qt, ec_qf, if_pos, if_neg, Int.add_zero, ec_aft_v, ec_aft_n, ec_rwE, ec_rwN, ec_rwP, ec_rwK, ec_rwS, ec_w_shpI, ec_w_shpL, ec_w_shpA, hD, hs, g1, g3, g5, g6]
    · rw [if_neg (fun z : (0 ≤ a ∧ a ≤ 9) ∧ 0 ≤ b ∧ b ≤ 99 => qa z.1)]
      refine ⟨fun e => absurd e (by decide), fun _ => ed_An.er M ?_⟩
      simp (disch := first | (simp only [ec_w_kI, ec_w_kL, ec_w_kA, ec_w_shpI, ec_w_shpL, ec_w_shpA, ec_isR_r, ec_01z, ec_01o, ec_01q, hD]; done) | omega | (simp only [ec_w_shpI, ec_w_shpL, ec_w_shpA, hD]; refine ec_zinO ?_; omega) | (refine ec_nzO ?_; omega)) only [ec_s152_0, ec_s152_1, ec_s152_2, ec_s152_3, ec_s152_6, ec_s152_9, ec_s152_10, ec_s152_11, ec_s152_14, ec_s152_15, ec_s152_16, ec_s152_17, ec_s152_19, ec_s152_22, ec_s152_25, ec_s152_27, ec_s152_28, ec_s152_30, ec_s152_33, ec_s152_36, ec_s152_37, ec_s152_38, ec_s152_41, ec_s152_42, ec_s152_43, ec_s152_46, ec_s152_47, ec_s152_50, ec_s152_52, ec_s152_54, ec_s152_55, ec_s152_56, ec_s152_57, ec_s152_58, ec_s152_59, ec_s152_60, ec_s152_63, ec_s152_65, ec_s152_66, ec_s152_67, ec_s152_68, ec_s152_71, ec_s152_73, ec_s152_75, ec_s152_76, ec_s152_77, ec_s152_80, ec_s152_82, ec_s152_84, ec_s152_87, ec_s152_88, ec_s152_91, ec_s152_92, ec_s152_95, ec_s152_97, ec_s152_98, ec_s152_99, ec_s152_100, ec_s152_103, ec_s152_104, ec_s152_107, ec_s152_108, ec_s152_111, ec_s152_113, ec_s152_114, ec_s152_115, ec_s152_118, ec_s152_119, ec_s152_122, ec_s152_123, ec_zn0, ec_zn1, ec_zn2, ec_zn3, ec_zn4, ec_zn5, ec_zn6, ec_zn7, ec_zn8, ec_zn9, ec_zn10, ec_zn12, ec_zn13, ec_zn14, ec_zn15, ec_zn16, ec_zn20, ec_zn30, ec_zn48, ec_zn99, ec_zn120, ec_zn127, ec_zn11, ec_zn31, ec_zn46, ec_zn57, ec_zn59, ec_zn63, ec_zn101, ec_zn107, ec_zn108, ec_zn110, ec_zn111, ec_zn115, ec_zn116, ec_zn119, ec_zn167, ec_zn185, ec_zn192, ec_zn215, ec_zn233, ec_zn699, ec_zn932, ec_zn999, ec_znF, ec_zneg, ec_zadd, ec_zsub, ec_zmul, ec_zdivO, ec_em, ec_zltO, ec_zeqO, ec_zeq0, ec_qt, ec_qf, if_pos, if_neg, Int.add_zero, ec_aft_v, ec_aft_n, ec_rwE, ec_rwN, ec_rwP, ec_rwK, ec_rwS, ec_w_shpI, ec_w_shpL, ec_w_shpA, hD, hs, g1, g3, g5]
  · rw [ec_qf q1] at g1
    rw [if_neg q1]
    refine ⟨fun e => absurd e (by decide), fun _ => ed_An.er M ?_⟩
    simp (disch := first | (simp only [ec_w_kI, ec_w_kL, ec_w_kA, ec_w_shpI, ec_w_shpL, ec_w_shpA, ec_isR_r, ec_01z, ec_01o, ec_01q, hD]; done) | omega | (simp only [ec_w_shpI, ec_w_shpL, ec_w_shpA, hD]; refine ec_zinO ?_; omega) | (refine ec_nzO ?_; omega)) only [ec_s152_0, ec_s152_1, ec_s152_2, ec_s152_3, ec_s152_6, ec_s152_9, ec_s152_10, ec_s152_11, ec_s152_14, ec_s152_15, ec_s152_16, ec_s152_17, ec_s152_19, ec_s152_22, ec_s152_25, ec_s152_27, ec_s152_28, ec_s152_30, ec_s152_33, ec_s152_36, ec_s152_37, ec_s152_38, ec_s152_41, ec_s152_42, ec_s152_43, ec_s152_46, ec_s152_47, ec_s152_50, ec_s152_52, ec_s152_54, ec_s152_55, ec_s152_56, ec_s152_57, ec_s152_58, ec_s152_59, ec_s152_60, ec_s152_63, ec_s152_65, ec_s152_66, ec_s152_67, ec_s152_68, ec_s152_71, ec_s152_73, ec_s152_75, ec_s152_76, ec_s152_77, ec_s152_80, ec_s152_82, ec_s152_84, ec_s152_87, ec_s152_88, ec_s152_91, ec_s152_92, ec_s152_95, ec_s152_97, ec_s152_98, ec_s152_99, ec_s152_100, ec_s152_103, ec_s152_104, ec_s152_107, ec_s152_108, ec_s152_111, ec_s152_113, ec_s152_114, ec_s152_115, ec_s152_118, ec_s152_119, ec_s152_122, ec_s152_123, ec_zn0, ec_zn1, ec_zn2, ec_zn3, ec_zn4, ec_zn5, ec_zn6, ec_zn7, ec_zn8, ec_zn9, ec_zn10, ec_zn12, ec_zn13, ec_zn14, ec_zn15, ec_zn16, ec_zn20, ec_zn30, ec_zn48, ec_zn99, ec_zn120, ec_zn127, ec_zn11, ec_zn31, ec_zn46, ec_zn57, ec_zn59, ec_zn63, ec_zn101, ec_zn107, ec_zn108, ec_zn110, ec_zn111, ec_zn115, ec_zn116, ec_zn119, ec_zn167, ec_zn185, ec_zn192, ec_zn215, ec_zn233, ec_zn699, ec_zn932, ec_zn999, ec_znF, ec_zneg, ec_zadd, ec_zsub, ec_zmul, ec_zdivO, ec_em, ec_zltO, ec_zeqO, ec_zeq0, ec_qt, ec_qf, if_pos, if_neg, Int.add_zero, ec_aft_v, ec_aft_n, ec_rwE, ec_rwN, ec_rwP, ec_rwK, ec_rwS, ec_w_shpI, ec_w_shpL, ec_w_shpA, hD, hs, g1, g3]
theorem ec_c164 (M : ed_ML h σ n p L T) {a : Int} (ra : ec_rg a) :
    (ed_kAc σ a = 0 → ed_An 164 [.ref 72, .int (ec_i a)] h 0 (ed_turn σ a 7) (ed_turn σ a) (ed_pn n) (ed_pp n p σ) L T) ∧
    (ed_kAc σ a ≠ 0 → ed_An 164 [.ref 72, .int (ec_i a)] h (ed_kAc σ a) 0 σ n p L T) := by
  have g3 := fun c => ed_er M.1 (x := c)
  have g5 := fun h => ec_c118 (h := h) ra ec_rn0 ec_rn15
  have hD := M.1
  have hs := M.2.1
  have w := M.2.2.1.1
  have rr := ed_rsn_rg (σ := σ) (a := a)
  unfold ec_MD at hD
  unfold ec_Ms at hs
  unfold ed_kAc
  by_cases q1 : 0 ≤ a ∧ a ≤ 15
  · rw [if_pos q1]
    have g2 := ec_c153 M.1 M.2.1 M.2.2.1 (a := a) (by omega)
    by_cases q2 : ed_rsn σ a = 0
    · rw [if_pos q2]
      refine ⟨fun _ => ?_, fun e => absurd rfl e⟩
      obtain ⟨h1, a1, a2, a3, a4⟩ := ed_saved M
      obtain ⟨h2, b1, b2, b3⟩ := ec_c163 a2.1 a2.2.1 M.2.2.1 (a := a) (by omega) q2
      refine ⟨h2, ?_, (b3.2 72 7 (ed_Gg72 (by decide))).trans a3, a2.g b3 b2 (ed_WF_turn M.2.2.1 (by omega) q2), a4.trans (b3.mono ed_GgF)⟩
      have hD1 := a2.1
      have hD2 := a2.1.of b3.1.1
      unfold ec_MD at hD1 hD2
      have hD := And.intro hD (And.intro hD1 hD2)
      unfold ec_Ms at b2
      simp (disch := first | (simp only [ec_w_kI, ec_w_kL, ec_w_kA, ec_w_shpI, ec_w_shpL, ec_w_shpA, ec_isR_r, ec_01z, ec_01o, ec_01q, hD]; done) | omega | (simp only [ec_w_shpI, ec_w_shpL, ec_w_shpA, hD]; refine ec_zinO ?_; omega) | (refine ec_nzO ?_; omega)) only [ec_s164_0, ec_s164_1, ec_s164_2, ec_s164_4, ec_s164_7, ec_s164_10, ec_s164_11, ec_s164_12, ec_s164_15, ec_s164_16, ec_s164_17, ec_s164_18, ec_s164_21, ec_s164_24, ec_s164_25, ec_s164_26, ec_s164_29, ec_s164_30, ec_s164_31, ec_s164_34, ec_s164_35, ec_s164_36, ec_s164_39, ec_s164_40, ec_s164_43, ec_s164_45, ec_s164_46, ec_zn0, ec_zn1, ec_zn2, ec_zn3, ec_zn4, ec_zn5, ec_zn6, ec_zn7, ec_zn8, ec_zn9, ec_zn10, ec_zn12, ec_zn13, ec_zn14, ec_zn15, ec_zn16, ec_zn20, ec_zn30, ec_zn48, ec_zn99, ec_zn120, ec_zn127, ec_zn11, ec_zn31, ec_zn46, ec_zn57, ec_zn59, ec_zn63, ec_zn101, ec_zn107, ec_zn108, ec_zn110, ec_zn111, ec_zn115, ec_zn116, ec_zn119, ec_zn167, ec_zn185, ec_zn192, ec_zn215, ec_zn233, ec_zn699, ec_zn932, ec_zn999, ec_znF, ec_zneg, ec_zadd, ec_zsub, ec_zmul, ec_zdivO, ec_em, ec_zltO, ec_zeqO, ec_zeq0, ec_qt, ec_qf, if_pos, if_neg, Int.add_zero, ec_aft_v, ec_aft_n, ec_rwE, ec_rwN, ec_rwP, ec_rwK, ec_rwS, ec_w_shpI, ec_w_shpL, ec_w_shpA, hD, g2, g5, a1, b1, b2, q2]
    · rw [if_neg q2]
      refine ⟨fun e => absurd e (by decide), fun _ => ed_An.er M ?_⟩
      simp (disch := first | (simp only [ec_w_kI, ec_w_kL, ec_w_kA, ec_w_shpI, ec_w_shpL, ec_w_shpA, ec_isR_r, ec_01z, ec_01o, ec_01q, hD]; done) | omega | (simp only [ec_w_shpI, ec_w_shpL, ec_w_shpA, hD]; refine ec_zinO ?_; omega) | (refine ec_nzO ?_; omega)) only [ec_s164_0, ec_s164_1, ec_s164_2, ec_s164_4, ec_s164_7, ec_s164_10, ec_s164_11, ec_s164_12, ec_s164_15, ec_s164_16, ec_s164_17, ec_s164_18, ec_s164_21, ec_s164_24, ec_s164_25, ec_s164_26, ec_s164_29, ec_s164_30, ec_s164_31, ec_s164_34, ec_s164_35, ec_s164_36, ec_s164_39, ec_s164_40, ec_s164_43, ec_s164_45, ec_s164_46, ec_zn0, ec_zn1, ec_zn2, ec_zn3, ec_zn4, ec_zn5, ec_zn6, ec_zn7, ec_zn8, ec_zn9, ec_zn10, ec_zn12, ec_zn13, ec_zn14, ec_zn15, ec_zn16, ec_zn20, ec_zn30, ec_zn48, ec_zn99, ec_zn120, ec_zn127, ec_zn11, ec_zn31, ec_zn46, ec_zn57, ec_zn59, ec_zn63, ec_zn101, ec_zn107, ec_zn108, ec_zn110, ec_zn111, ec_zn115, ec_zn116, ec_zn119, ec_zn167, ec_zn185, ec_zn192, ec_zn215, ec_zn233, ec_zn699, ec_zn932, ec_zn999, ec_znF, ec_zneg, ec_zadd, ec_zsub, ec_zmul, ec_zdivO, ec_em, ec_zltO, ec_zeqO, ec_zeq0, ec_qt, ec_qf, if_pos, if_neg, Int.add_zero, ec_aft_v, ec_aft_n, ec_rwE, ec_rwN, ec_rwP, ec_rwK, ec_rwS, ec_w_shpI, ec_w_shpL, ec_w_shpA, hD, g2, g3, g5]
  · rw [if_neg q1]
    refine ⟨fun e => absurd e (by decide), fun _ => ed_An.er M ?_⟩
    simp (disch := first | (simp only [ec_w_kI, ec_w_kL, ec_w_kA, ec_w_shpI, ec_w_shpL, ec_w_shpA, ec_isR_r, ec_01z, ec_01o, ec_01q, hD]; done) | omega | (simp only [ec_w_shpI, ec_w_shpL, ec_w_shpA, hD]; refine ec_zinO ?_; omega) | (refine ec_nzO ?_; omega)) only [ec_s164_0, ec_s164_1, ec_s164_2, ec_s164_4, ec_s164_7, ec_s164_10, ec_s164_11, ec_s164_12, ec_s164_15, ec_s164_16, ec_s164_17, ec_s164_18, ec_s164_21, ec_s164_24, ec_s164_25, ec_s164_26, ec_s164_29, ec_s164_30, ec_s164_31, ec_s164_34, ec_s164_35, ec_s164_36, ec_s164_39, ec_s164_40, ec_s164_43, ec_s164_45, ec_s164_46, ec_zn0, ec_zn1, ec_zn2, ec_zn3, ec_zn4, ec_zn5, ec_zn6, ec_zn7, ec_zn8, ec_zn9, ec_zn10, ec_zn12, ec_zn13, ec_zn14, ec_zn15, ec_zn16, ec_zn20, ec_zn30, ec_zn48, ec_zn99, ec_zn120, ec_zn127, ec_zn11, ec_zn31, ec_zn46, ec_zn57, ec_zn59, ec_zn63, ec_zn101, ec_zn107, ec_zn108, ec_zn110, ec_zn111, ec_zn115, ec_zn116, ec_zn119, ec_zn167, ec_zn185, ec_zn192, ec_zn215, ec_zn233, ec_zn699, ec_zn932, ec_zn999, ec_znF, ec_zneg, ec_zadd, ec_zsub, ec_zmul, ec_zdivO, ec_em, ec_zltO, ec_zeqO, ec_zeq0, ec_qt, ec_qf, if_pos, if_neg, Int.add_zero, ec_aft_v, ec_aft_n, ec_rwE, ec_rwN, ec_rwP, ec_rwK, ec_rwS, ec_w_shpI, ec_w_shpL, ec_w_shpA, hD, g3, g5]
theorem ec_c165 (M : ed_ML h σ n p L T) {a : Int} (ra : ec_rg a) :
    (ed_kRs a = 0 → ed_An 165 [.ref 72, .int (ec_i a)] h 0 (ed_rsn σ a) σ n p L T) ∧
    (ed_kRs a ≠ 0 → ed_An 165 [.ref 72, .int (ec_i a)] h (ed_kRs a) 0 σ n p L T) := by
  have g3 := fun c => ed_er M.1 (x := c)
  have g4 := fun c => ed_te M.1 (x := c)
  have g5 := fun h => ec_c118 (h := h) ra ec_rn0 ec_rn15
  have hD := M.1
  unfold ec_MD at hD
  unfold ed_kRs
  by_cases q1 : 0 ≤ a ∧ a ≤ 15
  · rw [if_pos q1]
    have g2 := ec_c153 M.1 M.2.1 M.2.2.1 (a := a) (by omega)
    refine ⟨fun _ => ed_An.t M ec_fg.refl ?_, fun e => absurd rfl e⟩
    simp (disch := first | (simp only [ec_w_kI, ec_w_kL, ec_w_kA, ec_w_shpI, ec_w_shpL, ec_w_shpA, ec_isR_r, ec_01z, ec_01o, ec_01q, hD]; done) | omega | (simp only [ec_w_shpI, ec_w_shpL, ec_w_shpA, hD]; refine ec_zinO ?_; omega) | (refine ec_nzO ?_; omega)) only [ec_s165_0, ec_s165_1, ec_s165_2, ec_s165_4, ec_s165_7, ec_s165_10, ec_s165_11, ec_s165_12, ec_s165_13, ec_s165_16, ec_s165_19, ec_s165_22, ec_s165_23, ec_s165_24, ec_s165_27, ec_zn0, ec_zn1, ec_zn2, ec_zn3, ec_zn4, ec_zn5, ec_zn6, ec_zn7, ec_zn8, ec_zn9, ec_zn10, ec_zn12, ec_zn13, ec_zn14, ec_zn15, ec_zn16, ec_zn20, ec_zn30, ec_zn48, ec_zn99, ec_zn120, ec_zn127, ec_zn11, ec_zn31, ec_zn46, ec_zn57, ec_zn59, ec_zn63, ec_zn101, ec_zn107, ec_zn108, ec_zn110, ec_zn111, ec_zn115, ec_zn116, ec_zn119, ec_zn167, ec_zn185, ec_zn192, ec_zn215, ec_zn233, ec_zn699, ec_zn932, ec_zn999, ec_znF, ec_zneg, ec_zadd, ec_zsub, ec_zmul, ec_zdivO, ec_em, ec_zltO, ec_zeqO, ec_zeq0, ec_qt, ec_qf, if_pos, if_neg, Int.add_zero, ec_aft_v, ec_aft_n, ec_rwE, ec_rwN, ec_rwP, ec_rwK, ec_rwS, ec_w_shpI, ec_w_shpL, ec_w_shpA, hD, g2, g4, g5]
  · rw [if_neg q1]
    refine ⟨fun e => absurd e (by decide), fun _ => ed_An.er M ?_⟩
    simp (disch := first | (simp only [ec_w_kI, ec_w_kL, ec_w_kA, ec_w_shpI, ec_w_shpL, ec_w_shpA, ec_isR_r, ec_01z, ec_01o, ec_01q, hD]; done) | omega | (simp only [ec_w_shpI, ec_w_shpL, ec_w_shpA, hD]; refine ec_zinO ?_; omega) | (refine ec_nzO ?_; omega)) only [ec_s165_0, ec_s165_1, ec_s165_2, ec_s165_4, ec_s165_7, ec_s165_10, ec_s165_11, ec_s165_12, ec_s165_13, ec_s165_16, ec_s165_19, ec_s165_22, ec_s165_23, ec_s165_24, ec_s165_27, ec_zn0, ec_zn1, ec_zn2, ec_zn3, ec_zn4, ec_zn5, ec_zn6, ec_zn7, ec_zn8, ec_zn9, ec_zn10, ec_zn12, ec_zn13, ec_zn14, ec_zn15, ec_zn16, ec_zn20, ec_zn30, ec_zn48, ec_zn99, ec_zn120, ec_zn127, ec_zn11, ec_zn31, ec_zn46, ec_zn57, ec_zn59, ec_zn63, ec_zn101, ec_zn107, ec_zn108, ec_zn110, ec_zn111, ec_zn115, ec_zn116, ec_zn119, ec_zn167, ec_zn185, ec_zn192, ec_zn215, ec_zn233, ec_zn699, ec_zn932, ec_zn999, ec_znF, ec_zneg, ec_zadd, ec_zsub, ec_zmul, ec_zdivO, ec_em, ec_zltO, ec_zeqO, ec_zeq0, ec_qt, ec_qf, if_pos, if_neg, Int.add_zero, ec_aft_v, ec_aft_n, ec_rwE, ec_rwN, ec_rwP, ec_rwK, ec_rwS, ec_w_shpI, ec_w_shpL, ec_w_shpA, hD, g3, g5]
theorem ec_c166 (M : ed_ML h σ n p L T) {x y d : Int} (rx : ec_rg x) (ry : ec_rg y) (rd : ec_rg d) :
    (ed_kBo σ x y d = 0 → ed_An 166 [.ref 72, .int (ec_i x), .int (ec_i y), .int (ec_i d)] h 0 (ec_ba σ (8 * y + x) d) σ n p L T) ∧
    (ed_kBo σ x y d ≠ 0 → ed_An 166 [.ref 72, .int (ec_i x), .int (ec_i y), .int (ec_i d)] h (ed_kBo σ x y d) 0 σ n p L T) := by
  have g1 := ec_c124 M.1 M.2.1 M.2.2.1 rx ry
  have g3 := fun c => ed_er M.1 (x := c)
  have g4 := fun c => ed_te M.1 (x := c)
  have g5 := fun h => ec_c118 (h := h) rd ec_rn0 ec_rn3
  have hD := M.1
  have w := M.2.2.1.1
  unfold ec_MD at hD
  unfold ed_kBo
  by_cases q1 : ed_qc σ x y
  · have zi := ed_qc_in M.2.2.1 q1
    have z2 := zi.1
    rw [ec_qt q1] at g1
    rw [if_pos q1]
    by_cases q2 : 0 ≤ d ∧ d ≤ 3
    · rw [if_pos q2]
      have g2 := ec_c129 M.1 M.2.1 M.2.2.1 (z := 8 * y + x) (d := d) z2 (by omega)
      refine ⟨fun _ => ed_An.t M ec_fg.refl ?_, fun e => absurd rfl e⟩
      simp (disch := first | (simp only [ec_w_kI, ec_w_kL, ec_w_kA, ec_w_shpI, ec_w_shpL, ec_w_shpA, ec_isR_r, ec_01z, ec_01o, ec_01q, hD]; done) | omega | (simp only [ec_w_shpI, ec_w_shpL, ec_w_shpA, hD]; refine ec_zinO ?_; omega) | (refine ec_nzO ?_; omega)) only [ec_s166_0, ec_s166_1, ec_s166_2, ec_s166_3, ec_s166_6, ec_s166_9, ec_s166_10, ec_s166_11, ec_s166_14, ec_s166_15, ec_s166_16, ec_s166_17, ec_s166_18, ec_s166_21, ec_s166_24, ec_s166_25, ec_s166_26, ec_s166_28, ec_s166_29, ec_s166_30, ec_s166_31, ec_s166_32, ec_s166_33, ec_s166_36, ec_s166_39, ec_s166_42, ec_s166_43, ec_s166_44, ec_s166_47, ec_zn0, ec_zn1, ec_zn2, ec_zn3, ec_zn4, ec_zn5, ec_zn6, ec_zn7, ec_zn8, ec_zn9, ec_zn10, ec_zn12, ec_zn13, ec_zn14, ec_zn15, ec_zn16, ec_zn20, ec_zn30, ec_zn48, ec_zn99, ec_zn120, ec_zn127, ec_zn11, ec_zn31, ec_zn46, ec_zn57, ec_zn59, ec_zn63, ec_zn101, ec_zn107, ec_zn108, ec_zn110, ec_zn111, ec_zn115, ec_zn116, ec_zn119, ec_zn167, ec_zn185, ec_zn192, ec_zn215, ec_zn233, ec_zn699, ec_zn932, ec_zn999, ec_znF, ec_zneg, ec_zadd, ec_zsub, ec_zmul, ec_zdivO, ec_em, ec_zltO, ec_zeqO, ec_zeq0, ec_qt, ec_qf, if_pos, if_neg, Int.add_zero, ec_aft_v, ec_aft_n, ec_rwE, ec_rwN, ec_rwP, ec_rwK, ec_rwS, ec_w_shpI, ec_w_shpL, ec_w_shpA, hD, g1, g2, g4, g5]
    · rw [if_neg q2]
      refine ⟨fun e => absurd e (by decide), fun _ => ed_An.er M ?_⟩
      simp (disch := first | (simp only [ec_w_kI, ec_w_kL, ec_w_kA, ec_w_shpI, ec_w_shpL, ec_w_shpA, ec_isR_r, ec_01z, ec_01o, ec_01q, hD]; done) | omega | (simp only [ec_w_shpI, ec_w_shpL, ec_w_shpA, hD]; refine ec_zinO ?_; omega) | (refine ec_nzO ?_; omega)) only [ec_s166_0, ec_s166_1, ec_s166_2, ec_s166_3, ec_s166_6, ec_s166_9, ec_s166_10, ec_s166_11, ec_s166_14, ec_s166_15, ec_s166_16, ec_s166_17, ec_s166_18, ec_s166_21, ec_s166_24, ec_s166_25, ec_s166_26, ec_s166_28, ec_s166_29, ec_s166_30, ec_s166_31, ec_s166_32, ec_s166_33, ec_s166_36, ec_s166_39, ec_s166_42, ec_s166_43, ec_s166_44, ec_s166_47, ec_zn0, ec_zn1, ec_zn2, ec_zn3, ec_zn4, ec_zn5, ec_zn6, ec_zn7, ec_zn8, ec_zn9, ec_zn10, ec_zn12, ec_zn13, ec_zn14, ec_zn15, ec_zn16, ec_zn20, ec_zn30, ec_zn48, ec_zn99, ec_zn120, ec_zn127, ec_zn11, ec_zn31, ec_zn46, ec_zn57, ec_zn59, ec_zn63, ec_zn101, ec_zn107, ec_zn108, ec_zn110, ec_zn111, ec_zn115, ec_zn116, ec_zn119, ec_zn167, ec_zn185, ec_zn192, ec_zn215, ec_zn233, ec_zn699, ec_zn932, ec_zn999, ec_znF, ec_zneg, ec_zadd, ec_zsub, ec_zmul, ec_zdivO, ec_em, ec_zltO, ec_zeqO, ec_zeq0, ec_qt, ec_qf, if_pos, if_neg, Int.add_zero, ec_aft_v, ec_aft_n, ec_rwE, ec_rwN, ec_rwP, ec_rwK, ec_rwS, ec_w_shpI, ec_w_shpL, ec_w_shpA, hD, g1, g3, g5]
  · rw [ec_qf q1] at g1
    rw [if_neg q1]
    refine ⟨fun e => absurd e (by decide), fun _ => ed_An.er M ?_⟩
    simp (disch := first | (simp only [ec_w_kI, ec_w_kL, ec_w_kA, ec_w_shpI, ec_w_shpL, ec_w_shpA, ec_isR_r, ec_01z, ec_01o, ec_01q, hD]; done) | omega | (simp only [ec_w_shpI, ec_w_shpL, ec_w_shpA, hD]; refine ec_zinO ?_; omega) | (refine ec_nzO ?_; omega)) only [ec_s166_0, ec_s166_1, ec_s166_2, ec_s166_3, ec_s166_6, ec_s166_9, ec_s166_10, ec_s166_11, ec_s166_14, ec_s166_15, ec_s166_16, ec_s166_17, ec_s166_18, ec_s166_21, ec_s166_24, ec_s166_25, ec_s166_26, ec_s166_28, ec_s166_29, ec_s166_30, ec_s166_31, ec_s166_32, ec_s166_33, ec_s166_36, ec_s166_39, ec_s166_42, ec_s166_43, ec_s166_44, ec_s166_47, ec_zn0, ec_zn1, ec_zn2, ec_zn3, ec_zn4, ec_zn5, ec_zn6, ec_zn7, ec_zn8, ec_zn9, ec_zn10, ec_zn12, ec_zn13, ec_zn14, ec_zn15, ec_zn16, ec_zn20, ec_zn30, ec_zn48, ec_zn99, ec_zn120, ec_zn127, ec_zn11, ec_zn31, ec_zn46, ec_zn57, ec_zn59, ec_zn63, ec_zn101, ec_zn107, ec_zn108, ec_zn110, ec_zn111, ec_zn115, ec_zn116, ec_zn119, ec_zn167, ec_zn185, ec_zn192, ec_zn215, ec_zn233, ec_zn699, ec_zn932, ec_zn999, ec_znF, ec_zneg, ec_zadd, ec_zsub, ec_zmul, ec_zdivO, ec_em, ec_zltO, ec_zeqO, ec_zeq0, ec_qt, ec_qf, if_pos, if_neg, Int.add_zero, ec_aft_v, ec_aft_n, ec_rwE, ec_rwN, ec_rwP, ec_rwK, ec_rwS, ec_w_shpI, ec_w_shpL, ec_w_shpA, hD, g1, g3]
end EDC
