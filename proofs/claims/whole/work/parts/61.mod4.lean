/-! Contracts of the reference: torches burn; an action. -/
theorem ec_c159L : ∀ (n : Nat) (k : Int) (σ : ec_Sg) (h : ec_Hp) (w2 : Value), ec_MD h → ec_Ms h σ → ec_WF σ → 0 ≤ k → k + n = σ 3 →
    ∃ (h' : ec_Hp) (w2' : Value), ec_om 159 2 [.ref 72, .int (ec_i k), w2] [] h = ec_om 159 76 [.ref 72, .int (ec_i (σ 3)), w2'] [] h' ∧ ec_Ms h' (ed_fold ed_brn1 n k σ) ∧ ec_fg ed_73 h h' := by
  intro n
  induction n with
  | zero =>
    intro k σ h w2 hD hs hW h0 hk
    have hk : k = σ 3 := by omega
    refine ⟨h, w2, ?_, hs, ec_fg.refl⟩
    have w := hW.1
    unfold ec_MD at hD
    unfold ec_Ms at hs
    rw [ec_s159_2]
    simp (disch := first | (simp only [ec_w_kI, ec_w_kL, ec_w_kA, ec_w_shpI, ec_w_shpL, ec_w_shpA, ec_isR_r, ec_01z, ec_01o, ec_01q, hD]; done) | omega | (simp only [ec_w_shpI, ec_w_shpL, ec_w_shpA, hD]; refine ec_zinO ?_; omega) | (refine ec_nzO ?_; omega)) only [ec_s159_0, ec_s159_1, ec_s159_3, ec_s159_4, ec_s159_7, ec_s159_8, ec_s159_9, ec_s159_12, ec_s159_15, ec_s159_16, ec_s159_17, ec_s159_18, ec_s159_19, ec_s159_20, ec_s159_21, ec_s159_24, ec_s159_25, ec_s159_26, ec_s159_27, ec_s159_28, ec_s159_29, ec_s159_30, ec_s159_33, ec_s159_34, ec_s159_35, ec_s159_36, ec_s159_37, ec_s159_38, ec_s159_39, ec_s159_40, ec_s159_43, ec_s159_44, ec_s159_45, ec_s159_46, ec_s159_47, ec_s159_50, ec_s159_51, ec_s159_52, ec_s159_53, ec_s159_54, ec_s159_57, ec_s159_58, ec_s159_61, ec_s159_62, ec_s159_65, ec_s159_66, ec_s159_67, ec_s159_68, ec_s159_69, ec_s159_70, ec_s159_73, ec_s159_77, ec_s159_80, ec_s159_82, ec_s159_83, ec_s159_84, ec_s159_85, ec_s159_88, ec_s159_90, ec_s159_91, ec_s159_92, ec_s159_93, ec_s159_94, ec_s159_97, ec_s159_99, ec_s159_100, ec_s159_103, ec_s159_105, ec_s159_106, ec_s159_109, ec_s159_110, ec_s159_113, ec_s159_114, ec_s159_117, ec_s159_119, ec_s159_120, ec_s159_121, ec_zn0, ec_zn1, ec_zn2, ec_zn3, ec_zn4, ec_zn5, ec_zn6, ec_zn7, ec_zn8, ec_zn9, ec_zn10, ec_zn12, ec_zn13, ec_zn14, ec_zn15, ec_zn16, ec_zn20, ec_zn30, ec_zn48, ec_zn99, ec_zn120, ec_zn127, ec_zn11, ec_zn31, ec_zn46, ec_zn57, ec_zn59, ec_zn63, ec_zn101, ec_zn107, ec_zn108, ec_zn110, ec_zn111, ec_zn115, ec_zn116, ec_zn119, ec_zn167, ec_zn185, ec_zn192, ec_zn215, ec_zn233, ec_zn699, ec_zn932, ec_zn999, ec_znF, ec_zneg, ec_zadd, ec_zsub, ec_zmul, ec_zdivO, ec_em, ec_zltO, ec_zeqO, ec_zeq0, ec_qt, ec_qf, if_pos, if_neg, Int.add_zero, ec_aft_v, ec_aft_n, ec_rwE, ec_rwN, ec_rwP, ec_rwK, ec_rwS, ec_w_shpI, ec_w_shpL, ec_w_shpA, hD, hs]
    rw [hk]
  | succ n ih =>
    intro k σ h w2 hD hs hW h0 hk
    have w := hW.1
    have t := ed_torch hW (t := k) (by omega)
    have wn := ed_WF_brn1 hW (t := k) (by omega)
    have c3 := ed_brn1_c (σ := σ) (t := k) (c := 3) (by omega) (by omega)
    rw [show ed_fold ed_brn1 (n + 1) k σ = ed_fold ed_brn1 n (k + 1) (ed_brn1 σ k) from rfl]
    obtain ⟨h', w2', e1, e2, e3⟩ := ih (k + 1) (ed_brn1 σ k) (ec_setI (ec_setI h 73 (ec_i (167 + 3 * k + 1)).toNatClampNeg (ec_i (σ (167 + 3 * k + 1) - σ (167 + 3 * k + 2)))) 73 (ec_i (167 + 3 * k + 2)).toNatClampNeg (ec_i (if σ (167 + 3 * k + 1) - σ (167 + 3 * k + 2) = 0 then 0 else σ (167 + 3 * k + 2)))) (.int (ec_i (167 + 3 * k))) (hD.of rfl) ((hs.w (by omega)).w (by omega)) wn (by omega) (by omega)
    rw [c3] at e1
    refine ⟨h', w2', ?_, e2, ((ec_fg.refl.I (by rfl)).I (by rfl)).trans e3⟩
    unfold ec_MD at hD
    unfold ec_Ms at hs
    rw [ec_s159_2]
    by_cases q : σ (167 + 3 * k + 1) - σ (167 + 3 * k + 2) = 0
    · rw [if_pos q] at e1
      simp (disch := first | (simp only [ec_w_kI, ec_w_kL, ec_w_kA, ec_w_shpI, ec_w_shpL, ec_w_shpA, ec_isR_r, ec_01z, ec_01o, ec_01q, hD]; done) | omega | (simp only [ec_w_shpI, ec_w_shpL, ec_w_shpA, hD]; refine ec_zinO ?_; omega) | (refine ec_nzO ?_; omega)) only [ec_s159_0, ec_s159_1, ec_s159_3, ec_s159_4, ec_s159_7, ec_s159_8, ec_s159_9, ec_s159_12, ec_s159_15, ec_s159_16, ec_s159_17, ec_s159_18, ec_s159_19, ec_s159_20, ec_s159_21, ec_s159_24, ec_s159_25, ec_s159_26, ec_s159_27, ec_s159_28, ec_s159_29, ec_s159_30, ec_s159_33, ec_s159_34, ec_s159_35, ec_s159_36, ec_s159_37, ec_s159_38, ec_s159_39, ec_s159_40, ec_s159_43, ec_s159_44, ec_s159_45, ec_s159_46, ec_s159_47, ec_s159_50, ec_s159_51, ec_s159_52, ec_s159_53, ec_s159_54, ec_s159_57, ec_s159_58, ec_s159_61, ec_s159_62, ec_s159_65, ec_s159_66, ec_s159_67, ec_s159_68, ec_s159_69, ec_s159_70, ec_s159_73, ec_s159_77, ec_s159_80, ec_s159_82, ec_s159_83, ec_s159_84, ec_s159_85, ec_s159_88, ec_s159_90, ec_s159_91, ec_s159_92, ec_s159_93, ec_s159_94, ec_s159_97, ec_s159_99, ec_s159_100, ec_s159_103, ec_s159_105, ec_s159_106, ec_s159_109, ec_s159_110, ec_s159_113, ec_s159_114, ec_s159_117, ec_s159_119, ec_s159_120, ec_s159_121, ec_zn0, ec_zn1, ec_zn2, ec_zn3, ec_zn4, ec_zn5, ec_zn6, ec_zn7, ec_zn8, ec_zn9, ec_zn10, ec_zn12, ec_zn13, ec_zn14, ec_zn15, ec_zn16, ec_zn20, ec_zn30, ec_zn48, ec_zn99, ec_zn120, ec_zn127, ec_zn11, ec_zn31, ec_zn46, ec_zn57, ec_zn59, ec_zn63, ec_zn101, ec_zn107, ec_zn108, ec_zn110, ec_zn111, ec_zn115, ec_zn116, ec_zn119, ec_zn167, ec_zn185, ec_zn192, ec_zn215, ec_zn233, ec_zn699, ec_zn932, ec_zn999, ec_znF, ec_zneg, ec_zadd, ec_zsub, ec_zmul, ec_zdivO, ec_em, ec_zltO, ec_zeqO, ec_zeq0, ec_qt, ec_qf, if_pos, if_neg, Int.add_zero, ec_aft_v, ec_aft_n, ec_rwE, ec_rwN, ec_rwP, ec_rwK, ec_rwS, ec_w_shpI, ec_w_shpL, ec_w_shpA, hD, hs, e1]
    · rw [if_neg q] at e1
      simp (disch := first | (simp only [ec_w_kI, ec_w_kL, ec_w_kA, ec_w_shpI, ec_w_shpL, ec_w_shpA, ec_isR_r, ec_01z, ec_01o, ec_01q, hD]; done) | omega | (simp only [ec_w_shpI, ec_w_shpL, ec_w_shpA, hD]; refine ec_zinO ?_; omega) | (refine ec_nzO ?_; omega)) only [ec_s159_0, ec_s159_1, ec_s159_3, ec_s159_4, ec_s159_7, ec_s159_8, ec_s159_9, ec_s159_12, ec_s159_15, ec_s159_16, ec_s159_17, ec_s159_18, ec_s159_19, ec_s159_20, ec_s159_21, ec_s159_24, ec_s159_25, ec_s159_26, ec_s159_27, ec_s159_28, ec_s159_29, ec_s159_30, ec_s159_33, ec_s159_34, ec_s159_35, ec_s159_36, ec_s159_37, ec_s159_38, ec_s159_39, ec_s159_40, ec_s159_43, ec_s159_44, ec_s159_45, ec_s159_46, ec_s159_47, ec_s159_50, ec_s159_51, ec_s159_52, ec_s159_53, ec_s159_54, ec_s159_57, ec_s159_58, ec_s159_61, ec_s159_62, ec_s159_65, ec_s159_66, ec_s159_67, ec_s159_68, ec_s159_69, ec_s159_70, ec_s159_73, ec_s159_77, ec_s159_80, ec_s159_82, ec_s159_83, ec_s159_84, ec_s159_85, ec_s159_88, ec_s159_90, ec_s159_91, ec_s159_92, ec_s159_93, ec_s159_94, ec_s159_97, ec_s159_99, ec_s159_100, ec_s159_103, ec_s159_105, ec_s159_106, ec_s159_109, ec_s159_110, ec_s159_113, ec_s159_114, ec_s159_117, ec_s159_119, ec_s159_120, ec_s159_121, ec_zn0, ec_zn1, ec_zn2, ec_zn3, ec_zn4, ec_zn5, ec_zn6, ec_zn7, ec_zn8, ec_zn9, ec_zn10, ec_zn12, ec_zn13, ec_zn14, ec_zn15, ec_zn16, ec_zn20, ec_zn30, ec_zn48, ec_zn99, ec_zn120, ec_zn127, ec_zn11, ec_zn31, ec_zn46, ec_zn57, ec_zn59, ec_zn63, ec_zn101, ec_zn107, ec_zn108, ec_zn110, ec_zn111, ec_zn115, ec_zn116, ec_zn119, ec_zn167, ec_zn185, ec_zn192, ec_zn215, ec_zn233, ec_zn699, ec_zn932, ec_zn999, ec_znF, ec_zneg, ec_zadd, ec_zsub, ec_zmul, ec_zdivO, ec_em, ec_zltO, ec_zeqO, ec_zeq0, ec_qt, ec_qf, if_pos, if_neg, Int.add_zero, ec_aft_v, ec_aft_n, ec_rwE, ec_rwN, ec_rwP, ec_rwK, ec_rwS, ec_w_shpI, ec_w_shpL, ec_w_shpA, hD, hs, e1]
theorem ec_c159 {h : ec_Hp} {σ : ec_Sg} (hD : ec_MD h) (hs : ec_Ms h σ) (hW : ec_WF σ) : ∃ h', ec_om 159 0 [.ref 72, .double 0, .double 0] [] h = some (.inl none, h') ∧ ec_Ms h' (ed_brn σ) ∧ ec_fg ed_73 h h' := by
  have w1 := hW.1
  obtain ⟨h1, w2, a1, a2, a3⟩ := ec_c159L (σ 3).toNat 0 σ h (.double 0) hD hs hW (by omega) (by omega)
  have wf := (ed_fold_WF (c := 3) hW (by omega) (fun j τ w hj => ⟨ed_WF_brn1 w hj, ed_brn1_c hj.1 (by omega)⟩)).1
  have hD1 := hD.of a3.1.1
  unfold ed_brn ed_lmp
  generalize ed_fold ed_brn1 (σ 3).toNat 0 σ = τ at a2 wf ⊢
  have t := wf.2.1
  have hs1 := a2
  rw [ec_s159_0, ec_s159_1, ec_zn0, a1]
  generalize e : ec_om 159 76 [.ref 72, .int (ec_i (σ 3)), w2] [] h1 = r
  have hD := hD1
  unfold ec_MD at hD
  unfold ec_Ms at a2
  by_cases q : τ 8 - τ 9 = 0
  · simp (disch := first | (simp only [ec_w_kI, ec_w_kL, ec_w_kA, ec_w_shpI, ec_w_shpL, ec_w_shpA, ec_isR_r, ec_01z, ec_01o, ec_01q, hD]; done) | omega | (simp only [ec_w_shpI, ec_w_shpL, ec_w_shpA, hD]; refine ec_zinO ?_; omega) | (refine ec_nzO ?_; omega)) only [ec_s159_0, ec_s159_1, ec_s159_3, ec_s159_4, ec_s159_7, ec_s159_8, ec_s159_9, ec_s159_12, ec_s159_15, ec_s159_16, ec_s159_17, ec_s159_18, ec_s159_19, ec_s159_20, ec_s159_21, ec_s159_24, ec_s159_25, ec_s159_26, ec_s159_27, ec_s159_28, ec_s159_29, ec_s159_30, ec_s159_33, ec_s159_34, ec_s159_35, ec_s159_36, ec_s159_37, ec_s159_38, ec_s159_39, ec_s159_40, ec_s159_43, ec_s159_44, ec_s159_45, ec_s159_46, ec_s159_47, ec_s159_50, ec_s159_51, ec_s159_52, ec_s159_53, ec_s159_54, ec_s159_57, ec_s159_58, ec_s159_61, ec_s159_62, ec_s159_65, ec_s159_66, ec_s159_67, ec_s159_68, ec_s159_69, ec_s159_70, ec_s159_73, ec_s159_76, ec_s159_77, ec_s159_80, ec_s159_82, ec_s159_83, ec_s159_84, ec_s159_85, ec_s159_88, ec_s159_90, ec_s159_91, ec_s159_92, ec_s159_93, ec_s159_94, ec_s159_97, ec_s159_99, ec_s159_100, ec_s159_103, ec_s159_105, ec_s159_106, ec_s159_109, ec_s159_110, ec_s159_113, ec_s159_114, ec_s159_117, ec_s159_119, ec_s159_120, ec_s159_121, ec_zn0, ec_zn1, ec_zn2, ec_zn3, ec_zn4, ec_zn5, ec_zn6, ec_zn7, ec_zn8, ec_zn9, ec_zn10, ec_zn12, ec_zn13, ec_zn14, ec_zn15, ec_zn16, ec_zn20, ec_zn30, ec_zn48, ec_zn99, ec_zn120, ec_zn127, ec_zn11, ec_zn31, ec_zn46, ec_zn57, ec_zn59, ec_zn63, ec_zn101, ec_zn107, ec_zn108, ec_zn110, ec_zn111, ec_zn115, ec_zn116, ec_zn119, ec_zn167, ec_zn185, ec_zn192, ec_zn215, ec_zn233, ec_zn699, ec_zn932, ec_zn999, ec_znF, ec_zneg, ec_zadd, ec_zsub, ec_zmul, ec_zdivO, ec_em, ec_zltO, ec_zeqO, ec_zeq0, ec_qt, ec_qf, if_pos, if_neg, Int.add_zero, ec_aft_v, ec_aft_n, ec_rwE, ec_rwN, ec_rwP, ec_rwK, ec_rwS, ec_w_shpI, ec_w_shpL, ec_w_shpA, hD, a2] at e
    subst e
    rw [if_pos q]
    exact ⟨_, rfl, (hs1.w (by omega)).w (by omega), (a3.I (by rfl)).I (by rfl)⟩
  · simp (disch := first | (simp only [ec_w_kI, ec_w_kL, ec_w_kA, ec_w_shpI, ec_w_shpL, ec_w_shpA, ec_isR_r, ec_01z, ec_01o, ec_01q, hD]; done) | omega | (simp only [ec_w_shpI, ec_w_shpL, ec_w_shpA, hD]; refine ec_zinO ?_; omega) | (refine ec_nzO ?_; omega)) only [ec_s159_0, ec_s159_1, ec_s159_3, ec_s159_4, ec_s159_7, ec_s159_8, ec_s159_9, ec_s159_12, ec_s159_15, ec_s159_16, ec_s159_17, ec_s159_18, ec_s159_19, ec_s159_20, ec_s159_21, ec_s159_24, ec_s159_25, ec_s159_26, ec_s159_27, ec_s159_28, ec_s159_29, ec_s159_30, ec_s159_33, ec_s159_34, ec_s159_35, ec_s159_36, ec_s159_37, ec_s159_38, ec_s159_39, ec_s159_40, ec_s159_43, ec_s159_44, ec_s159_45, ec_s159_46, ec_s159_47, ec_s159_50, ec_s159_51, ec_s159_52, ec_s159_53, ec_s159_54, ec_s159_57, ec_s159_58, ec_s159_61, ec_s159_62, ec_s159_65, ec_s159_66, ec_s159_67, ec_s159_68, ec_s159_69, ec_s159_70, ec_s159_73, ec_s159_76, ec_s159_77, ec_s159_80, ec_s159_82, ec_s159_83, ec_s159_84, ec_s159_85, ec_s159_88, ec_s159_90, ec_s159_91, ec_s159_92, ec_s159_93, ec_s159_94, ec_s159_97, ec_s159_99, ec_s159_100, ec_s159_103, ec_s159_105, ec_s159_106, ec_s159_109, ec_s159_110, ec_s159_113, ec_s159_114, ec_s159_117, ec_s159_119, ec_s159_120, ec_s159_121, ec_zn0, ec_zn1, ec_zn2, ec_zn3, ec_zn4, ec_zn5, ec_zn6, ec_zn7, ec_zn8, ec_zn9, ec_zn10, ec_zn12, ec_zn13, ec_zn14, ec_zn15, ec_zn16, ec_zn20, ec_zn30, ec_zn48, ec_zn99, ec_zn120, ec_zn127, ec_zn11, ec_zn31, ec_zn46, ec_zn57, ec_zn59, ec_zn63, ec_zn101, ec_zn107, ec_zn108, ec_zn110, ec_zn111, ec_zn115, ec_zn116, ec_zn119, ec_zn167, ec_zn185, ec_zn192, ec_zn215, ec_zn233, ec_zn699, ec_zn932, ec_zn999, ec_znF, ec_zneg, ec_zadd, ec_zsub, ec_zmul, ec_zdivO, ec_em, ec_zltO, ec_zeqO, ec_zeq0, ec_qt, ec_qf, if_pos, if_neg, Int.add_zero, ec_aft_v, ec_aft_n, ec_rwE, ec_rwN, ec_rwP, ec_rwK, ec_rwS, ec_w_shpI, ec_w_shpL, ec_w_shpA, hD, a2] at e
    subst e
    rw [if_neg q]
    exact ⟨_, rfl, (hs1.w (by omega)).w (by omega), (a3.I (by rfl)).I (by rfl)⟩
/-! an action -/
theorem ed_SO.c {h : ec_Hp} {n : Int} {f g f' g' : Int → Int} (b : ed_SO h n f g) (e : ∀ k : Int, 0 ≤ k ∧ k < n → f k = f' k ∧ g k = g' k) : ed_SO h n f' g' := ⟨b.1, b.2.1, fun k hk => by
  rw [← (e k hk).1, ← (e k hk).2]
  exact b.2.2 k hk⟩
def ed_sn (a : Int) : Int := if a < 12 ∨ a = 15 then 1 else 0
theorem ed_GS73 : ∀ j, ed_GS 73 j := fun _ => Or.inl rfl
theorem ed_SO.S73 {h h' : ec_Hp} {n : Int} {f g : Int → Int} (b : ed_SO h n f g) (a : ec_fg ed_73 h h') : ed_SO h' n f g := b.fg a (by decide) (fun _ => (by decide : ¬ (82 : Nat) = 73)) (fun _ => (by decide : ¬ (83 : Nat) = 73))
set_option maxHeartbeats 1000000 in
theorem ec_c157 {h : ec_Hp} {σ : ec_Sg} (hD : ec_MD h) (hs : ec_Ms h σ) (hW : ec_WF σ) {a : Int} (ha : 0 ≤ a ∧ a < 16) (hr : ed_rsn σ a = 0) : ∃ h', ec_om 157 0 [.ref 72, .int (ec_i a), .double 0] [] h = some (.inl none, h') ∧ ec_Ms h' (ed_does σ a) ∧ ed_SO h' (ed_sn a) (fun _ => ed_sp σ a) (fun _ => ed_sl σ a) ∧ ec_fg ed_GS h h' := by
  obtain ⟨r1, r2, r3, r4⟩ := ed_rsn_0 hr
  have H := hW.2.1
  have hh := H.1.1
  have hb := hW.ba H.1 (d := a % 4) (by omega)
  have hs0 := hs
  have hD0 := hD
  have w := hW.1
  have f0 : ec_fg ed_GS h (ec_setI h 72 14 (ec_i 0)) := ec_fg.refl.I (Or.inr (Or.inr (Or.inr ⟨rfl, rfl⟩)))
  have s0 : ec_Ms (ec_setI h 72 14 (ec_i 0)) σ := hs.o (by decide)
  have g1 := ec_c129 (hD0.of f0.1.1) s0 hW H.1.1 (d := a % 4) (by omega)
  have o0 : ed_SO (ec_setI h 72 14 (ec_i 0)) 0 (fun _ => 0) (fun _ => 0) := ⟨ec_rwS, by omega, fun k hk => absurd hk (by omega)⟩
  unfold ed_does ed_sn ed_sp ed_sl
  by_cases q1 : a < 4
  · have r2 := r2 q1
    rw [if_pos q1, if_pos (show a < 12 ∨ a = 15 by omega), if_pos q1, if_pos q1]
    have nb := ec_nb_in hW H.1 ⟨ha.1, q1⟩ (ed_cq_hb r2)
    have g0 := fun h => ec_c126 (h := h) (z := σ 6) (d := a) (by omega)
    have w1 := ed_WF_hero hW nb
    have m4 : a % 4 = a := by omega
    have s1 : ec_Ms (ec_setI (ec_setI h 72 14 (ec_i 0)) 73 (ec_i 6).toNatClampNeg (ec_i (ec_nb (σ 6) a))) (ec_su σ 6 (ec_nb (σ 6) a)) := s0.w (by omega)
    have f1 : ec_fg ed_73 (ec_setI h 72 14 (ec_i 0)) (ec_setI (ec_setI h 72 14 (ec_i 0)) 73 (ec_i 6).toNatClampNeg (ec_i (ec_nb (σ 6) a))) := ec_fg.refl.I (by rfl)
    have o1 := o0.S73 f1
    obtain ⟨h2, a1, a2, a3⟩ := ec_c154 (hD0.of f1.1.1) (c := ec_nb (σ 6) a) (l := 3) o1 (by omega)
    have s2 := s1.fg a3 ed_S73
    have hD2 := (hD0.of f1.1.1).of a3.1.1
    obtain ⟨h3, b1, b2, b3⟩ := ec_c133 hD2 s2 w1 (b := ec_ba σ (σ 6) (a % 4)) (v := 0) (by omega)
    refine ⟨h3, ?_, b2, (a2.S73 b3).c (fun k hk => ?_), ((f0.trans (f1.mono (fun q j e => Or.inl e))).trans (a3.mono (fun q j e => Or.inr e))).trans (b3.mono (fun q j e => Or.inl e))⟩
    · unfold ec_MD at hD hD2
      have hD := And.intro hD hD2
      unfold ec_Ms at hs
      rw [m4] at g1 b1 hb
      simp (disch := first | (simp only [ec_w_kI, ec_w_kL, ec_w_kA, ec_w_shpI, ec_w_shpL, ec_w_shpA, ec_isR_r, ec_01z, ec_01o, ec_01q, hD]; done) | omega | (simp only [ec_w_shpI, ec_w_shpL, ec_w_shpA, hD]; refine ec_zinO ?_; omega) | (refine ec_nzO ?_; omega)) only [ec_s157_0, ec_s157_1, ec_s157_2, ec_s157_5, ec_s157_6, ec_s157_7, ec_s157_10, ec_s157_12, ec_s157_13, ec_s157_14, ec_s157_15, ec_s157_16, ec_s157_19, ec_s157_20, ec_s157_21, ec_s157_22, ec_s157_25, ec_s157_26, ec_s157_29, ec_s157_31, ec_s157_32, ec_s157_35, ec_s157_37, ec_s157_38, ec_s157_39, ec_s157_42, ec_s157_43, ec_s157_44, ec_s157_45, ec_s157_48, ec_s157_50, ec_s157_51, ec_s157_52, ec_s157_55, ec_s157_56, ec_s157_57, ec_s157_58, ec_s157_61, ec_s157_64, ec_s157_65, ec_s157_67, ec_s157_70, ec_s157_71, ec_s157_72, ec_s157_73, ec_s157_74, ec_s157_75, ec_s157_77, ec_s157_80, ec_s157_81, ec_s157_84, ec_s157_85, ec_s157_88, ec_s157_89, ec_s157_90, ec_s157_93, ec_s157_95, ec_s157_96, ec_s157_97, ec_s157_100, ec_s157_102, ec_s157_104, ec_s157_105, ec_s157_106, ec_s157_107, ec_s157_108, ec_s157_109, ec_s157_110, ec_s157_111, ec_s157_112, ec_s157_115, ec_s157_118, ec_s157_119, ec_s157_121, ec_s157_124, ec_s157_125, ec_s157_128, ec_s157_130, ec_s157_131, ec_s157_132, ec_s157_135, ec_s157_136, ec_s157_138, ec_s157_141, ec_s157_142, ec_s157_145, ec_s157_147, ec_s157_148, ec_s157_149, ec_s157_152, ec_s157_153, ec_s157_155, ec_s157_158, ec_s157_159, ec_s157_162, ec_zn0, ec_zn1, ec_zn2, ec_zn3, ec_zn4, ec_zn5, ec_zn6, ec_zn7, ec_zn8, ec_zn9, ec_zn10, ec_zn12, ec_zn13, ec_zn14, ec_zn15, ec_zn16, ec_zn20, ec_zn30, ec_zn48, ec_zn99, ec_zn120, ec_zn127, ec_zn11, ec_zn31, ec_zn46, ec_zn57, ec_zn59, ec_zn63, ec_zn101, ec_zn107, ec_zn108, ec_zn110, ec_zn111, ec_zn115, ec_zn116, ec_zn119, ec_zn167, ec_zn185, ec_zn192, ec_zn215, ec_zn233, ec_zn699, ec_zn932, ec_zn999, ec_znF, ec_zneg, ec_zadd, ec_zsub, ec_zmul, ec_zdivO, ec_em, ec_zltO, ec_zeqO, ec_zeq0, ec_qt, ec_qf, if_pos, if_neg, Int.add_zero, ec_aft_v, ec_aft_n, ec_rwE, ec_rwN, ec_rwP, ec_rwK, ec_rwS, ec_w_shpI, ec_w_shpL, ec_w_shpA, hD, hs, m4, g0, g1, a1, b1]
    · have : k = 0 := by omega
      subst this
      rw [ec_suE rfl, ec_suE rfl]
      exact ⟨rfl, rfl⟩
  · rw [if_neg q1, if_neg q1, if_neg q1]
    by_cases q2 : a < 12
    · have r3 := r3 (by omega)
      rw [if_pos q2, if_pos (show a < 12 ∨ a = 15 by omega), if_pos q2, if_neg (show ¬ a = 15 by omega)]
      have dr := ed_door hW (n := ec_ba σ (σ 6) (a % 4) - 2) (by omega)
      obtain ⟨h1, a1, a2, a3⟩ := ec_c132 (hD0.of f0.1.1) s0 hW (n := ec_ba σ (σ 6) (a % 4) - 2) (v := if a < 8 then 1 else 0) (by omega) (by split <;> omega)
      have wp := ed_WF_puts hW (n := ec_ba σ (σ 6) (a % 4) - 2) (v := if a < 8 then 1 else 0) (by omega) (by split <;> omega)
      have hD1 := (hD0.of f0.1.1).of a3.1.1
      have e6 : h1.2.1 73 (ec_i 6).toNatClampNeg = ec_i (σ 6) := by
        rw [a2 6 (by omega), ed_4_puts (by omega) (by omega)]
      have ec : h1.2.1 73 (ec_i (107 + 6 * (ec_ba σ (σ 6) (a % 4) - 2) + 2)).toNatClampNeg = ec_i (σ (107 + 6 * (ec_ba σ (σ 6) (a % 4) - 2) + 2)) := by
        rw [a2 _ (by omega)]
        unfold ed_puts
        simp (disch := omega) only [ec_suN]
      obtain ⟨h2, b1, b2, b3⟩ := ec_c154 hD1 (c := σ 6) (l := σ (107 + 6 * (ec_ba σ (σ 6) (a % 4) - 2) + 2)) (o0.S73 a3) (by omega)
      refine ⟨h2, ?_, a2.fg b3 ed_S73, b2.c (fun k hk => ?_), (f0.trans (a3.mono (fun q j e => Or.inl e))).trans (b3.mono (fun q j e => Or.inr e))⟩
      · unfold ec_MD at hD hD1
        have hD := And.intro hD hD1
        unfold ec_Ms at hs
        generalize ec_ba σ (σ 6) (a % 4) = b at g1 hb r3 dr a1 ec b1
        by_cases q3 : a < 8
        · rw [if_pos q3] at a1
          simp (disch := first | (simp only [ec_w_kI, ec_w_kL, ec_w_kA, ec_w_shpI, ec_w_shpL, ec_w_shpA, ec_isR_r, ec_01z, ec_01o, ec_01q, hD]; done) | omega | (simp only [ec_w_shpI, ec_w_shpL, ec_w_shpA, hD]; refine ec_zinO ?_; omega) | (refine ec_nzO ?_; omega)) only [ec_s157_0, ec_s157_1, ec_s157_2, ec_s157_5, ec_s157_6, ec_s157_7, ec_s157_10, ec_s157_12, ec_s157_13, ec_s157_14, ec_s157_15, ec_s157_16, ec_s157_19, ec_s157_20, ec_s157_21, ec_s157_22, ec_s157_25, ec_s157_26, ec_s157_29, ec_s157_31, ec_s157_32, ec_s157_35, ec_s157_37, ec_s157_38, ec_s157_39, ec_s157_42, ec_s157_43, ec_s157_44, ec_s157_45, ec_s157_48, ec_s157_50, ec_s157_51, ec_s157_52, ec_s157_55, ec_s157_56, ec_s157_57, ec_s157_58, ec_s157_61, ec_s157_64, ec_s157_65, ec_s157_67, ec_s157_70, ec_s157_71, ec_s157_72, ec_s157_73, ec_s157_74, ec_s157_75, ec_s157_77, ec_s157_80, ec_s157_81, ec_s157_84, ec_s157_85, ec_s157_88, ec_s157_89, ec_s157_90, ec_s157_93, ec_s157_95, ec_s157_96, ec_s157_97, ec_s157_100, ec_s157_102, ec_s157_104, ec_s157_105, ec_s157_106, ec_s157_107, ec_s157_108, ec_s157_109, ec_s157_110, ec_s157_111, ec_s157_112, ec_s157_115, ec_s157_118, ec_s157_119, ec_s157_121, ec_s157_124, ec_s157_125, ec_s157_128, ec_s157_130, ec_s157_131, ec_s157_132, ec_s157_135, ec_s157_136, ec_s157_138, ec_s157_141, ec_s157_142, ec_s157_145, ec_s157_147, ec_s157_148, ec_s157_149, ec_s157_152, ec_s157_153, ec_s157_155, ec_s157_158, ec_s157_159, ec_s157_162, ec_zn0, ec_zn1, ec_zn2, ec_zn3, ec_zn4, ec_zn5, ec_zn6, ec_zn7, ec_zn8, ec_zn9, ec_zn10, ec_zn12, ec_zn13, ec_zn14, ec_zn15, ec_zn16, ec_zn20, ec_zn30, ec_zn48, ec_zn99, ec_zn120, ec_zn127, ec_zn11, ec_zn31, ec_zn46, ec_zn57, ec_zn59, ec_zn63, ec_zn101, ec_zn107, ec_zn108, ec_zn110, ec_zn111, ec_zn115, ec_zn116, ec_zn119, ec_zn167, ec_zn185, ec_zn192, ec_zn215, ec_zn233, ec_zn699, ec_zn932, ec_zn999, ec_znF, ec_zneg, ec_zadd, ec_zsub, ec_zmul, ec_zdivO, ec_em, ec_zltO, ec_zeqO, ec_zeq0, ec_qt, ec_qf, if_pos, if_neg, Int.add_zero, ec_aft_v, ec_aft_n, ec_rwE, ec_rwN, ec_rwP, ec_rwK, ec_rwS, ec_w_shpI, ec_w_shpL, ec_w_shpA, hD, hs, g1, a1, e6, ec, b1]
        · rw [if_neg q3] at a1
          simp (disch := first | (simp only [ec_w_kI, ec_w_kL, ec_w_kA, ec_w_shpI, ec_w_shpL, ec_w_shpA, ec_isR_r, ec_01z, ec_01o, ec_01q, hD]; done) | omega | (simp only [ec_w_shpI, ec_w_shpL, ec_w_shpA, hD]; refine ec_zinO ?_; omega) | (refine ec_nzO ?_; omega)) only [ec_s157_0, ec_s157_1, ec_s157_2, ec_s157_5, ec_s157_6, ec_s157_7, ec_s157_10, ec_s157_12, ec_s157_13, ec_s157_14, ec_s157_15, ec_s157_16, ec_s157_19, ec_s157_20, ec_s157_21, ec_s157_22, ec_s157_25, ec_s157_26, ec_s157_29, ec_s157_31, ec_s157_32, ec_s157_35, ec_s157_37, ec_s157_38, ec_s157_39, ec_s157_42, ec_s157_43, ec_s157_44, ec_s157_45, ec_s157_48, ec_s157_50, ec_s157_51, ec_s157_52, ec_s157_55, ec_s157_56, ec_s157_57, ec_s157_58, ec_s157_61, ec_s157_64, ec_s157_65, ec_s157_67, ec_s157_70, ec_s157_71, ec_s157_72, ec_s157_73, ec_s157_74, ec_s157_75, ec_s157_77, ec_s157_80, ec_s157_81, ec_s157_84, ec_s157_85, ec_s157_88, ec_s157_89, ec_s157_90, ec_s157_93, ec_s157_95, ec_s157_96, ec_s157_97, ec_s157_100, ec_s157_102, ec_s157_104, ec_s157_105, ec_s157_106, ec_s157_107, ec_s157_108, ec_s157_109, ec_s157_110, ec_s157_111, ec_s157_112, ec_s157_115, ec_s157_118, ec_s157_119, ec_s157_121, ec_s157_124, ec_s157_125, ec_s157_128, ec_s157_130, ec_s157_131, ec_s157_132, ec_s157_135, ec_s157_136, ec_s157_138, ec_s157_141, ec_s157_142, ec_s157_145, ec_s157_147, ec_s157_148, ec_s157_149, ec_s157_152, ec_s157_153, ec_s157_155, ec_s157_158, ec_s157_159, ec_s157_162, ec_zn0, ec_zn1, ec_zn2, ec_zn3, ec_zn4, ec_zn5, ec_zn6, ec_zn7, ec_zn8, ec_zn9, ec_zn10, ec_zn12, ec_zn13, ec_zn14, ec_zn15, ec_zn16, ec_zn20, ec_zn30, ec_zn48, ec_zn99, ec_zn120, ec_zn127, ec_zn11, ec_zn31, ec_zn46, ec_zn57, ec_zn59, ec_zn63, ec_zn101, ec_zn107, ec_zn108, ec_zn110, ec_zn111, ec_zn115, ec_zn116, ec_zn119, ec_zn167, ec_zn185, ec_zn192, ec_zn215, ec_zn233, ec_zn699, ec_zn932, ec_zn999, ec_znF, ec_zneg, ec_zadd, ec_zsub, ec_zmul, ec_zdivO, ec_em, ec_zltO, ec_zeqO, ec_zeq0, ec_qt, ec_qf, if_pos, if_neg, Int.add_zero, ec_aft_v, ec_aft_n, ec_rwE, ec_rwN, ec_rwP, ec_rwK, ec_rwS, ec_w_shpI, ec_w_shpL, ec_w_shpA, hD, hs, g1, a1, e6, ec, b1]
      · have : k = 0 := by omega
        subst this
        rw [ec_suE rfl, ec_suE rfl]
        exact ⟨rfl, rfl⟩
    · rw [if_neg q2, if_neg q2]
      by_cases q3 : a = 13
      · subst q3
        rw [if_pos rfl, if_neg (by decide), if_neg (by decide), if_neg (by decide)]
        refine ⟨ec_setI (ec_setI h 72 14 (ec_i 0)) 73 (ec_i 9).toNatClampNeg (ec_i 1), ?_, s0.w (by omega), (o0.S73 (ec_fg.refl.I (by rfl))).c (fun k hk => absurd hk (by omega)), f0.trans ((ec_fg.refl.I (S := ed_73) (by rfl)).mono (fun q j e => Or.inl e))⟩
        unfold ec_MD at hD
        unfold ec_Ms at hs
        simp (disch := first | (simp only [ec_w_kI, ec_w_kL, ec_w_kA, ec_w_shpI, ec_w_shpL, ec_w_shpA, ec_isR_r, ec_01z, ec_01o, ec_01q, hD]; done) | omega | (simp only [ec_w_shpI, ec_w_shpL, ec_w_shpA, hD]; refine ec_zinO ?_; omega) | (refine ec_nzO ?_; omega)) only [ec_s157_0, ec_s157_1, ec_s157_2, ec_s157_5, ec_s157_6, ec_s157_7, ec_s157_10, ec_s157_12, ec_s157_13, ec_s157_14, ec_s157_15, ec_s157_16, ec_s157_19, ec_s157_20, ec_s157_21, ec_s157_22, ec_s157_25, ec_s157_26, ec_s157_29, ec_s157_31, ec_s157_32, ec_s157_35, ec_s157_37, ec_s157_38, ec_s157_39, ec_s157_42, ec_s157_43, ec_s157_44, ec_s157_45, ec_s157_48, ec_s157_50, ec_s157_51, ec_s157_52, ec_s157_55, ec_s157_56, ec_s157_57, ec_s157_58, ec_s157_61, ec_s157_64, ec_s157_65, ec_s157_67, ec_s157_70, ec_s157_71, ec_s157_72, ec_s157_73, ec_s157_74, ec_s157_75, ec_s157_77, ec_s157_80, ec_s157_81, ec_s157_84, ec_s157_85, ec_s157_88, ec_s157_89, ec_s157_90, ec_s157_93, ec_s157_95, ec_s157_96, ec_s157_97, ec_s157_100, ec_s157_102, ec_s157_104, ec_s157_105, ec_s157_106, ec_s157_107, ec_s157_108, ec_s157_109, ec_s157_110, ec_s157_111, ec_s157_112, ec_s157_115, ec_s157_118, ec_s157_119, ec_s157_121, ec_s157_124, ec_s157_125, ec_s157_128, ec_s157_130, ec_s157_131, ec_s157_132, ec_s157_135, ec_s157_136, ec_s157_138, ec_s157_141, ec_s157_142, ec_s157_145, ec_s157_147, ec_s157_148, ec_s157_149, ec_s157_152, ec_s157_153, ec_s157_155, ec_s157_158, ec_s157_159, ec_s157_162, ec_zn0, ec_zn1, ec_zn2, ec_zn3, ec_zn4, ec_zn5, ec_zn6, ec_zn7, ec_zn8, ec_zn9, ec_zn10, ec_zn12, ec_zn13, ec_zn14, ec_zn15, ec_zn16, ec_zn20, ec_zn30, ec_zn48, ec_zn99, ec_zn120, ec_zn127, ec_zn11, ec_zn31, ec_zn46, ec_zn57, ec_zn59, ec_zn63, ec_zn101, ec_zn107, ec_zn108, ec_zn110, ec_zn111, ec_zn115, ec_zn116, ec_zn119, ec_zn167, ec_zn185, ec_zn192, ec_zn215, ec_zn233, ec_zn699, ec_zn932, ec_zn999, ec_znF, ec_zneg, ec_zadd, ec_zsub, ec_zmul, ec_zdivO, ec_em, ec_zltO, ec_zeqO, ec_zeq0, ec_qt, ec_qf, if_pos, if_neg, Int.add_zero, ec_aft_v, ec_aft_n, ec_rwE, ec_rwN, ec_rwP, ec_rwK, ec_rwS, ec_w_shpI, ec_w_shpL, ec_w_shpA, hD, hs, g1]
      · rw [if_neg q3]
        by_cases q4 : a = 14
        · subst q4
          rw [if_pos rfl, if_neg (by decide), if_neg (by decide), if_neg (by decide)]
          refine ⟨ec_setI (ec_setI h 72 14 (ec_i 0)) 73 (ec_i 9).toNatClampNeg (ec_i 0), ?_, s0.w (by omega), (o0.S73 (ec_fg.refl.I (by rfl))).c (fun k hk => absurd hk (by omega)), f0.trans ((ec_fg.refl.I (S := ed_73) (by rfl)).mono (fun q j e => Or.inl e))⟩
          unfold ec_MD at hD
          unfold ec_Ms at hs
          have g1 : ec_om 129 0 [.ref 72, .int (ec_i (σ 6)), .int (ec_i 2)] [] (ec_setI h 72 14 (ec_i 0)) = _ := g1
          simp (disch := first | (simp only [ec_w_kI, ec_w_kL, ec_w_kA, ec_w_shpI, ec_w_shpL, ec_w_shpA, ec_isR_r, ec_01z, ec_01o, ec_01q, hD]; done) | omega | (simp only [ec_w_shpI, ec_w_shpL, ec_w_shpA, hD]; refine ec_zinO ?_; omega) | (refine ec_nzO ?_; omega)) only [ec_s157_0, ec_s157_1, ec_s157_2, ec_s157_5, ec_s157_6, ec_s157_7, ec_s157_10, ec_s157_12, ec_s157_13, ec_s157_14, ec_s157_15, ec_s157_16, ec_s157_19, ec_s157_20, ec_s157_21, ec_s157_22, ec_s157_25, ec_s157_26, ec_s157_29, ec_s157_31, ec_s157_32, ec_s157_35, ec_s157_37, ec_s157_38, ec_s157_39, ec_s157_42, ec_s157_43, ec_s157_44, ec_s157_45, ec_s157_48, ec_s157_50, ec_s157_51, ec_s157_52, ec_s157_55, ec_s157_56, ec_s157_57, ec_s157_58, ec_s157_61, ec_s157_64, ec_s157_65, ec_s157_67, ec_s157_70, ec_s157_71, ec_s157_72, ec_s157_73, ec_s157_74, ec_s157_75, ec_s157_77, ec_s157_80, ec_s157_81, ec_s157_84, ec_s157_85, ec_s157_88, ec_s157_89, ec_s157_90, ec_s157_93, ec_s157_95, ec_s157_96, ec_s157_97, ec_s157_100, ec_s157_102, ec_s157_104, ec_s157_105, ec_s157_106, ec_s157_107, ec_s157_108, ec_s157_109, ec_s157_110, ec_s157_111, ec_s157_112, ec_s157_115, ec_s157_118, ec_s157_119, ec_s157_121, ec_s157_124, ec_s157_125, ec_s157_128, ec_s157_130, ec_s157_131, ec_s157_132, ec_s157_135, ec_s157_136, ec_s157_138, ec_s157_141, ec_s157_142, ec_s157_145, ec_s157_147, ec_s157_148, ec_s157_149, ec_s157_152, ec_s157_153, ec_s157_155, ec_s157_158, ec_s157_159, ec_s157_162, ec_zn0, ec_zn1, ec_zn2, ec_zn3, ec_zn4, ec_zn5, ec_zn6, ec_zn7, ec_zn8, ec_zn9, ec_zn10, ec_zn12, ec_zn13, ec_zn14, ec_zn15, ec_zn16, ec_zn20, ec_zn30, ec_zn48, ec_zn99, ec_zn120, ec_zn127, ec_zn11, ec_zn31, ec_zn46, ec_zn57, ec_zn59, ec_zn63, ec_zn101, ec_zn107, ec_zn108, ec_zn110, ec_zn111, ec_zn115, ec_zn116, ec_zn119, ec_zn167, ec_zn185, ec_zn192, ec_zn215, ec_zn233, ec_zn699, ec_zn932, ec_zn999, ec_znF, ec_zneg, ec_zadd, ec_zsub, ec_zmul, ec_zdivO, ec_em, ec_zltO, ec_zeqO, ec_zeq0, ec_qt, ec_qf, if_pos, if_neg, Int.add_zero, ec_aft_v, ec_aft_n, ec_rwE, ec_rwN, ec_rwP, ec_rwK, ec_rwS, ec_w_shpI, ec_w_shpL, ec_w_shpA, hD, hs, g1, Int.reduceMod]
        · rw [if_neg q4]
          by_cases q5 : a = 15
          · subst q5
            rw [if_pos (Or.inr rfl), if_pos rfl, if_pos rfl]
            obtain ⟨h2, b1, b2, b3⟩ := ec_c156 (hD0.of f0.1.1) s0 hW o0 (by omega)
            refine ⟨h2, ?_, s0.fg b3 ed_S73, b2.c (fun k hk => ?_), f0.trans (b3.mono (fun q j e => Or.inr e))⟩
            · unfold ec_MD at hD
              unfold ec_Ms at hs
              have g1 : ec_om 129 0 [.ref 72, .int (ec_i (σ 6)), .int (ec_i 3)] [] (ec_setI h 72 14 (ec_i 0)) = _ := g1
              simp (disch := first | (simp only [ec_w_kI, ec_w_kL, ec_w_kA, ec_w_shpI, ec_w_shpL, ec_w_shpA, ec_isR_r, ec_01z, ec_01o, ec_01q, hD]; done) | omega | (simp only [ec_w_shpI, ec_w_shpL, ec_w_shpA, hD]; refine ec_zinO ?_; omega) | (refine ec_nzO ?_; omega)) only [ec_s157_0, ec_s157_1, ec_s157_2, ec_s157_5, ec_s157_6, ec_s157_7, ec_s157_10, ec_s157_12, ec_s157_13, ec_s157_14, ec_s157_15, ec_s157_16, ec_s157_19, ec_s157_20, ec_s157_21, ec_s157_22, ec_s157_25, ec_s157_26, ec_s157_29, ec_s157_31, ec_s157_32, ec_s157_35, ec_s157_37, ec_s157_38, ec_s157_39, ec_s157_42, ec_s157_43, ec_s157_44, ec_s157_45, ec_s157_48, ec_s157_50, ec_s157_51, ec_s157_52, ec_s157_55, ec_s157_56, ec_s157_57, ec_s157_58, ec_s157_61, ec_s157_64, ec_s157_65, ec_s157_67, ec_s157_70, ec_s157_71, ec_s157_72, ec_s157_73, ec_s157_74, ec_s157_75, ec_s157_77, ec_s157_80, ec_s157_81, ec_s157_84, ec_s157_85, ec_s157_88, ec_s157_89, ec_s157_90, ec_s157_93, ec_s157_95, ec_s157_96, ec_s157_97, ec_s157_100, ec_s157_102, ec_s157_104, ec_s157_105, ec_s157_106, ec_s157_107, ec_s157_108, ec_s157_109, ec_s157_110, ec_s157_111, ec_s157_112, ec_s157_115, ec_s157_118, ec_s157_119, ec_s157_121, ec_s157_124, ec_s157_125, ec_s157_128, ec_s157_130, ec_s157_131, ec_s157_132, ec_s157_135, ec_s157_136, ec_s157_138, ec_s157_141, ec_s157_142, ec_s157_145, ec_s157_147, ec_s157_148, ec_s157_149, ec_s157_152, ec_s157_153, ec_s157_155, ec_s157_158, ec_s157_159, ec_s157_162, ec_zn0, ec_zn1, ec_zn2, ec_zn3, ec_zn4, ec_zn5, ec_zn6, ec_zn7, ec_zn8, ec_zn9, ec_zn10, ec_zn12, ec_zn13, ec_zn14, ec_zn15, ec_zn16, ec_zn20, ec_zn30, ec_zn48, ec_zn99, ec_zn120, ec_zn127, ec_zn11, ec_zn31, ec_zn46, ec_zn57, ec_zn59, ec_zn63, ec_zn101, ec_zn107, ec_zn108, ec_zn110, ec_zn111, ec_zn115, ec_zn116, ec_zn119, ec_zn167, ec_zn185, ec_zn192, ec_zn215, ec_zn233, ec_zn699, ec_zn932, ec_zn999, ec_znF, ec_zneg, ec_zadd, ec_zsub, ec_zmul, ec_zdivO, ec_em, ec_zltO, ec_zeqO, ec_zeq0, ec_qt, ec_qf, if_pos, if_neg, Int.add_zero, ec_aft_v, ec_aft_n, ec_rwE, ec_rwN, ec_rwP, ec_rwK, ec_rwS, ec_w_shpI, ec_w_shpL, ec_w_shpA, hD, hs, g1, b1, Int.reduceMod]
            · have : k = 0 := by omega
              subst this
              rw [ec_suE rfl, ec_suE rfl]
              exact ⟨rfl, rfl⟩
          · rw [if_neg (show ¬ (a < 12 ∨ a = 15) by omega), if_neg q5, if_neg q5]
            refine ⟨ec_setI h 72 14 (ec_i 0), ?_, s0, o0.c (fun k hk => absurd hk (by omega)), f0⟩
            unfold ec_MD at hD
            unfold ec_Ms at hs
            simp (disch := first | (simp only [ec_w_kI, ec_w_kL, ec_w_kA, ec_w_shpI, ec_w_shpL, ec_w_shpA, ec_isR_r, ec_01z, ec_01o, ec_01q, hD]; done) | omega | (simp only [ec_w_shpI, ec_w_shpL, ec_w_shpA, hD]; refine ec_zinO ?_; omega) | (refine ec_nzO ?_; omega)) only [ec_s157_0, ec_s157_1, ec_s157_2, ec_s157_5, ec_s157_6, ec_s157_7, ec_s157_10, ec_s157_12, ec_s157_13, ec_s157_14, ec_s157_15, ec_s157_16, ec_s157_19, ec_s157_20, ec_s157_21, ec_s157_22, ec_s157_25, ec_s157_26, ec_s157_29, ec_s157_31, ec_s157_32, ec_s157_35, ec_s157_37, ec_s157_38, ec_s157_39, ec_s157_42, ec_s157_43, ec_s157_44, ec_s157_45, ec_s157_48, ec_s157_50, ec_s157_51, ec_s157_52, ec_s157_55, ec_s157_56, ec_s157_57, ec_s157_58, ec_s157_61, ec_s157_64, ec_s157_65, ec_s157_67, ec_s157_70, ec_s157_71, ec_s157_72, ec_s157_73, ec_s157_74, ec_s157_75, ec_s157_77, ec_s157_80, ec_s157_81, ec_s157_84, ec_s157_85, ec_s157_88, ec_s157_89, ec_s157_90, ec_s157_93, ec_s157_95, ec_s157_96, ec_s157_97, ec_s157_100, ec_s157_102, ec_s157_104, ec_s157_105, ec_s157_106, ec_s157_107, ec_s157_108, ec_s157_109, ec_s157_110, ec_s157_111, ec_s157_112, ec_s157_115, ec_s157_118, ec_s157_119, ec_s157_121, ec_s157_124, ec_s157_125, ec_s157_128, ec_s157_130, ec_s157_131, ec_s157_132, ec_s157_135, ec_s157_136, ec_s157_138, ec_s157_141, ec_s157_142, ec_s157_145, ec_s157_147, ec_s157_148, ec_s157_149, ec_s157_152, ec_s157_153, ec_s157_155, ec_s157_158, ec_s157_159, ec_s157_162, ec_zn0, ec_zn1, ec_zn2, ec_zn3, ec_zn4, ec_zn5, ec_zn6, ec_zn7, ec_zn8, ec_zn9, ec_zn10, ec_zn12, ec_zn13, ec_zn14, ec_zn15, ec_zn16, ec_zn20, ec_zn30, ec_zn48, ec_zn99, ec_zn120, ec_zn127, ec_zn11, ec_zn31, ec_zn46, ec_zn57, ec_zn59, ec_zn63, ec_zn101, ec_zn107, ec_zn108, ec_zn110, ec_zn111, ec_zn115, ec_zn116, ec_zn119, ec_zn167, ec_zn185, ec_zn192, ec_zn215, ec_zn233, ec_zn699, ec_zn932, ec_zn999, ec_znF, ec_zneg, ec_zadd, ec_zsub, ec_zmul, ec_zdivO, ec_em, ec_zltO, ec_zeqO, ec_zeq0, ec_qt, ec_qf, if_pos, if_neg, Int.add_zero, ec_aft_v, ec_aft_n, ec_rwE, ec_rwN, ec_rwP, ec_rwK, ec_rwS, ec_w_shpI, ec_w_shpL, ec_w_shpA, hD, hs, g1]
