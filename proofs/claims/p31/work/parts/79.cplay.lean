/-! The class's turn over the row: goals, moves, a whole turn. -/
abbrev ed_PF (T B : Nat) : Nat → Nat → Prop := fun q _ => (B ≤ q ∧ q ≤ B + 9) ∨ (T ≤ q ∧ q ≤ T + 3)
theorem ed_TF_P {T B : Nat} : ∀ q j, ed_TF T B q j → ed_PF T B q j := fun q j e => by
  rcases e with e | e
  · exact Or.inl e
  · exact Or.inr (by omega)
theorem ec_SS.fg {S : Nat → Nat → Prop} {h h' : ec_Hp} {p : Nat} {c : Nat → Int} {nw : Nat → Bool} {t : Int} (a : ec_fg S h h') (hS : ∀ q j, p ≤ q → q ≤ p + 2 → ¬ S q j) (b : ec_SS h p c nw t) : ec_SS h' p c nw t :=
  ⟨b.1, (a.2 _ _ (hS _ _ (by omega) (by omega))).trans b.2.1, fun k hk => ⟨(b.2.2 k hk).1, (a.2 _ _ (hS _ _ (by omega) (by omega))).trans (b.2.2 k hk).2.1, (a.2 _ _ (hS _ _ (by omega) (by omega))).trans (b.2.2 k hk).2.2⟩⟩
theorem ec_SN.of {h h' : ec_Hp} {p : Nat} (e : h'.1 = h.1) (b : ec_SN h p) : ec_SN h' p := by
  have e : ∀ q, ec_shp h' q = ec_shp h q := fun q => by show ec_nth _ h'.1 q = ec_nth _ h.1 q; rw [e]
  unfold ec_SN ec_isK at b ⊢
  simp only [e]
  exact b
theorem ed_SL.fg {S : Nat → Nat → Prop} {h h' : ec_Hp} {p : Nat} (a : ec_fg S h h') (hS : ∀ q j, p ≤ q → q ≤ p + 2 → ¬ S q j) (b : ed_SL h p) : ed_SL h' p := by
  obtain ⟨b1, c, nw, t, b2⟩ := b
  exact ⟨b1.of a.1.1, c, nw, t, b2.fg a hS⟩
theorem ec_fr.g {p : Nat} {h h' : ec_Hp} (a : ec_fr p h h') : ec_fg (fun q _ => p ≤ q ∧ q ≤ p + 2) h h' := ⟨⟨a.1, a.2.1⟩, fun q j y => a.2.2 q j (by omega) (by omega) (by omega)⟩
theorem ed_gc_in {v : Int} (h : v ≠ -1) : ed_gc v = v % 8 ∧ ed_gr v = v / 8 := ⟨if_neg h, if_neg h⟩
theorem ec_c26s {h : ec_Hp} {B : Nat} {σ : ec_Sg} (hD : ec_DN h B) (R : ec_RC h B σ) (w : ec_WF σ) {m z : Int} (hm : 0 ≤ m ∧ m < σ 4) (hz : 0 ≤ z ∧ z < 48) : ∃ h', ec_om 26 0 [.ref B, .int (ec_i m), .int (ec_i z)] [] h = some (.inl none, h') ∧ ec_RC h' B (ec_su σ (185 + 5 * m + 3) z) ∧ ec_DN h' B ∧ ec_fg (fun q _ => q = B + 7) h h' := by
  have w1 := w.1
  have e := ec_c26 hD (a := m) (z := z) (by omega) (by omega)
  have R1 := R.goal w.ct (m := m) (v := z) (k := (m * ((8 : Nat) : Int) + 4).toNat) (l := (m * ((8 : Nat) : Int) + 5).toNat) (by omega) (by omega) (by omega)
  rw [(ed_gc_in (v := z) (by omega)).1, (ed_gc_in (v := z) (by omega)).2] at R1
  exact ⟨_, e, R1, (hD.V (by omega)).V (by omega), (ec_fg.refl.I (by rfl)).I (by rfl)⟩
theorem ec_c27s {h : ec_Hp} {B : Nat} {σ : ec_Sg} (hD : ec_DN h B) (R : ec_RC h B σ) (w1 : ed_ct σ) {m : Int} (hm : 0 ≤ m ∧ m < 6) : ∃ h', ec_om 27 0 [.ref B, .int (ec_i m)] [] h = some (.inl none, h') ∧ ec_RC h' B (ec_su σ (185 + 5 * m + 3) (-1)) ∧ ec_DN h' B ∧ ec_fg (fun q _ => q = B + 7) h h' := by
  have e := ec_c27 hD (a := m) hm
  have R1 := R.goal w1 (m := m) (v := -1) (k := (m * ((8 : Nat) : Int) + 4).toNat) (l := (m * ((8 : Nat) : Int) + 5).toNat) hm (by omega) (by omega)
  exact ⟨_, e, R1, (hD.V (by omega)).V (by omega), (ec_fg.refl.I (by rfl)).I (by rfl)⟩
/-- the turn's cells -/
def ed_TN (h : ec_Hp) (T : Nat) : Prop := ec_isK h T 5 = true ∧ (ec_shp h T).2.2 0 = .ref (T + 1) ∧ ec_isK h (T + 1) 3 = true
theorem ed_TN.fg {S : Nat → Nat → Prop} {h h' : ec_Hp} {T : Nat} (a : ec_fg S h h') (b : ed_TN h T) : ed_TN h' T := by
  have e : ∀ q, ec_shp h' q = ec_shp h q := fun q => by show ec_nth _ h'.1 q = ec_nth _ h.1 q; rw [a.1.1]
  unfold ed_TN ec_isK at b ⊢
  simp only [e]
  exact b
abbrev ed_ap2 (T B : Nat) : Prop := B + 9 < T ∨ T + 3 < B
theorem ec_c66L {T B : Nat} (hTB : ed_ap2 T B) {σ : ec_Sg} (w : ec_WF σ) {P l : Int} (hP : ec_ing σ P) (hl : 0 ≤ l ∧ l ≤ 9) : ∀ (r : Nat) (m : Int) (τ : ec_Sg) (h : ec_Hp), ec_DN h B → ec_RC h B τ → ec_WF τ → ed_ag σ τ → ed_TN h T → ec_SN h (T + 1) → (∃ nw t, ec_SS h (T + 1) (ed_lb σ 2 P) nw t) → h.2.1 T 1 = ec_i P → h.2.1 T 2 = ec_i l → 0 ≤ m → m + r = σ 4 →
    ∃ h', ec_om 66 24 [.ref T, .ref B, .int (ec_i (ed_q (ed_lit σ (σ 6)))), .int (ec_i m)] [] h = some (.inl none, h') ∧ ec_RC h' B (ed_fold (fun σ m => ec_su σ (185 + 5 * m + 3) (ed_gl σ P l m)) r m τ) ∧ ec_DN h' B ∧ ec_fg (fun q _ => q = B + 7) h h' := by
  intro r
  induction r with
  | zero =>
    intro m τ h hD R wt ag hT hS hs s1 s2 h0 hm
    refine ⟨h, ?_, R, hD, ec_fg.refl⟩
    have w1 := wt.1
    have w0 := w.1
    have e4 := ag 4 (by omega)
    have r4 := R.2.1.2.2.1
    have b := hD.b
    unfold ed_TN at hT
    have hD := And.intro b hT
    rw [ec_s66_24]
    simp (disch := first | (simp only [ec_w_kI, ec_w_kL, ec_w_kA, ec_w_shpI, ec_w_shpL, ec_w_shpA, ec_isR_r, ec_01z, ec_01o, ec_01q, hD]; done) | omega | (simp only [ec_w_shpI, ec_w_shpL, ec_w_shpA, hD]; refine ec_zinO ?_; omega) | (refine ec_nzO ?_; omega)) only [ec_s66_0, ec_s66_1, ec_s66_4, ec_s66_5, ec_s66_8, ec_s66_9, ec_s66_10, ec_s66_13, ec_s66_14, ec_s66_15, ec_s66_18, ec_s66_19, ec_s66_22, ec_s66_23, ec_s66_25, ec_s66_26, ec_s66_29, ec_s66_32, ec_s66_35, ec_s66_36, ec_s66_39, ec_s66_40, ec_s66_43, ec_s66_44, ec_s66_45, ec_s66_48, ec_s66_51, ec_s66_52, ec_s66_53, ec_s66_54, ec_s66_57, ec_s66_60, ec_s66_63, ec_s66_64, ec_s66_67, ec_s66_68, ec_s66_71, ec_s66_72, ec_s66_73, ec_s66_76, ec_s66_79, ec_s66_80, ec_s66_81, ec_s66_82, ec_s66_85, ec_s66_88, ec_s66_91, ec_s66_94, ec_zn0, ec_zn1, ec_zn2, ec_zn3, ec_zn4, ec_zn5, ec_zn6, ec_zn7, ec_zn8, ec_zn9, ec_zn10, ec_zn12, ec_zn13, ec_zn14, ec_zn15, ec_zn16, ec_zn20, ec_zn30, ec_zn48, ec_zn99, ec_zn120, ec_zn127, ec_zn11, ec_zn31, ec_zn46, ec_zn57, ec_zn59, ec_zn63, ec_zn101, ec_zn107, ec_zn108, ec_zn110, ec_zn111, ec_zn115, ec_zn116, ec_zn119, ec_zn167, ec_zn185, ec_zn192, ec_zn215, ec_zn233, ec_zn699, ec_zn932, ec_zn999, ec_znF, ec_zneg, ec_zadd, ec_zsub, ec_zmul, ec_zdivO, ec_em, ec_zltO, ec_zeqO, ec_zeq0, ec_qt, ec_qf, if_pos, if_neg, Int.add_zero, ec_aft_v, ec_aft_n, ec_rwE, ec_rwN, ec_rwP, ec_rwK, ec_rwS, ec_w_shpI, ec_w_shpL, ec_w_shpA, hD, r4]
  | succ r ih =>
    intro m τ h hD R wt ag hT hS hs s1 s2 h0 hm
    have w1 := wt.1
    have w0 := w.1
    have e4 := ag 4 (by omega)
    have r4 := R.2.1.2.2.1
    have r7 := R.1.2.2.1
    have b := hD.b
    have hmt : 0 ≤ m ∧ m < τ 4 := by omega
    have M := ed_mon wt hmt
    have Mc := M.1.1
    obtain ⟨nw, t, hs⟩ := hs
    have hPt : ec_ing τ P := ag.ing.mpr hP
    have ht : ec_SS h (T + 1) (ed_lb τ 2 P) nw t := by rw [ag.lb w]; exact hs
    have g1 := ec_c39s (p := T + 1) hD R wt hmt
    have g2 := ec_c37s hD R wt hmt hPt hS ht
    have lbr := ed_lb_bd wt (m := 2) hPt.1 (k := (τ (185 + 5 * m)).toNat) (by omega)
    have lf := ed_snd_fin wt hPt M.1
    have hh := wt.2.1.1.1
    have go : ∀ (v : Int), v = ed_gl τ P l m → 0 ≤ v ∧ v < 48 → ∃ h1, ec_om 26 0 [.ref B, .int (ec_i m), .int (ec_i v)] [] h = some (.inl none, h1) ∧ ∃ h', ec_om 66 24 [.ref T, .ref B, .int (ec_i (ed_q (ed_lit σ (σ 6)))), .int (ec_i (m + 1))] [] h1 = some (.inl none, h') ∧ ec_RC h' B (ed_fold (fun σ m => ec_su σ (185 + 5 * m + 3) (ed_gl σ P l m)) r (m + 1) (ec_su τ (185 + 5 * m + 3) (ed_gl τ P l m))) ∧ ec_DN h' B ∧ ec_fg (fun q _ => q = B + 7) h h' := by
      intro v hv hvr
      obtain ⟨h1, a1, a2, a3, a4⟩ := ec_c26s hD R wt hmt hvr
      rw [hv] at a2
      have wf := ed_WF_goal wt hmt (ed_gl_in wt (l := l) hmt hPt)
      obtain ⟨h2, b1, b2, b3, b4⟩ := ih (m + 1) _ h1 a3 a2 wf (ag.su (by omega)) (hT.fg a4) (hS.of a4.1.1) ⟨nw, t, hs.fg a4 (fun q j h1 h2 y => by omega)⟩ ((a4.2 _ _ (by omega)).trans s1) ((a4.2 _ _ (by omega)).trans s2) (by omega) (by omega)
      exact ⟨h1, a1, h2, b1, b2, b3, a4.trans b4⟩
    rw [show ed_fold (fun σ m => ec_su σ (185 + 5 * m + 3) (ed_gl σ P l m)) (r + 1) m τ = ed_fold (fun σ m => ec_su σ (185 + 5 * m + 3) (ed_gl σ P l m)) r (m + 1) (ec_su τ (185 + 5 * m + 3) (ed_gl τ P l m)) from rfl]
    have lq : ed_lit τ (τ 6) ↔ ed_lit σ (σ 6) := by rw [ag 6 (by omega)]; exact ag.lit w
    have heard : ¬ ed_see τ m → (∃ h', ec_om 66 63 [.ref T, .ref B, .int (ec_i (ed_q (ed_lit σ (σ 6)))), .int (ec_i m)] [] h = some (.inl none, h') ∧ ec_RC h' B (ed_fold (fun σ m => ec_su σ (185 + 5 * m + 3) (ed_gl σ P l m)) r (m + 1) (ec_su τ (185 + 5 * m + 3) (ed_gl τ P l m))) ∧ ec_DN h' B ∧ ec_fg (fun q _ => q = B + 7) h h') := by
      intro ns
      have glv : ed_gl τ P l m = if τ (185 + 5 * m + 1) ≤ l - ed_lb τ 2 P (τ (185 + 5 * m)).toNat then P else τ (185 + 5 * m + 3) := by
        unfold ed_gl
        rw [if_neg ns]
      by_cases q : τ (185 + 5 * m + 1) ≤ l - ed_lb τ 2 P (τ (185 + 5 * m)).toNat
      · obtain ⟨h1, a1, h2, b1, b2, b3, b4⟩ := go P (by rw [glv, if_pos q]) hP.1
        refine ⟨h2, ?_, b2, b3, b4⟩
        unfold ed_TN at hT
        have hD := And.intro b hT
        simp (disch := first | (simp only [ec_w_kI, ec_w_kL, ec_w_kA, ec_w_shpI, ec_w_shpL, ec_w_shpA, ec_isR_r, ec_01z, ec_01o, ec_01q, hD]; done) | omega | (simp only [ec_w_shpI, ec_w_shpL, ec_w_shpA, hD]; refine ec_zinO ?_; omega) | (refine ec_nzO ?_; omega)) only [ec_s66_0, ec_s66_1, ec_s66_4, ec_s66_5, ec_s66_8, ec_s66_9, ec_s66_10, ec_s66_13, ec_s66_14, ec_s66_15, ec_s66_18, ec_s66_19, ec_s66_22, ec_s66_23, ec_s66_25, ec_s66_26, ec_s66_29, ec_s66_32, ec_s66_35, ec_s66_36, ec_s66_39, ec_s66_40, ec_s66_43, ec_s66_44, ec_s66_45, ec_s66_48, ec_s66_51, ec_s66_52, ec_s66_53, ec_s66_54, ec_s66_57, ec_s66_60, ec_s66_63, ec_s66_64, ec_s66_67, ec_s66_68, ec_s66_71, ec_s66_72, ec_s66_73, ec_s66_76, ec_s66_79, ec_s66_80, ec_s66_81, ec_s66_82, ec_s66_85, ec_s66_88, ec_s66_91, ec_s66_94, ec_zn0, ec_zn1, ec_zn2, ec_zn3, ec_zn4, ec_zn5, ec_zn6, ec_zn7, ec_zn8, ec_zn9, ec_zn10, ec_zn12, ec_zn13, ec_zn14, ec_zn15, ec_zn16, ec_zn20, ec_zn30, ec_zn48, ec_zn99, ec_zn120, ec_zn127, ec_zn11, ec_zn31, ec_zn46, ec_zn57, ec_zn59, ec_zn63, ec_zn101, ec_zn107, ec_zn108, ec_zn110, ec_zn111, ec_zn115, ec_zn116, ec_zn119, ec_zn167, ec_zn185, ec_zn192, ec_zn215, ec_zn233, ec_zn699, ec_zn932, ec_zn999, ec_znF, ec_zneg, ec_zadd, ec_zsub, ec_zmul, ec_zdivO, ec_em, ec_zltO, ec_zeqO, ec_zeq0, ec_qt, ec_qf, if_pos, if_neg, Int.add_zero, ec_aft_v, ec_aft_n, ec_rwE, ec_rwN, ec_rwP, ec_rwK, ec_rwS, ec_w_shpI, ec_w_shpL, ec_w_shpA, hD, s1, s2, g2, a1, b1]
      · have e : ed_gl τ P l m = τ (185 + 5 * m + 3) := by rw [glv, if_neg q]
        rw [e, ed_su_id]
        obtain ⟨h2, b1, b2, b3, b4⟩ := ih (m + 1) τ h hD R wt ag hT hS ⟨nw, t, hs⟩ s1 s2 (by omega) (by omega)
        refine ⟨h2, ?_, b2, b3, b4⟩
        unfold ed_TN at hT
        have hD := And.intro b hT
        simp (disch := first | (simp only [ec_w_kI, ec_w_kL, ec_w_kA, ec_w_shpI, ec_w_shpL, ec_w_shpA, ec_isR_r, ec_01z, ec_01o, ec_01q, hD]; done) | omega | (simp only [ec_w_shpI, ec_w_shpL, ec_w_shpA, hD]; refine ec_zinO ?_; omega) | (refine ec_nzO ?_; omega)) only [ec_s66_0, ec_s66_1, ec_s66_4, ec_s66_5, ec_s66_8, ec_s66_9, ec_s66_10, ec_s66_13, ec_s66_14, ec_s66_15, ec_s66_18, ec_s66_19, ec_s66_22, ec_s66_23, ec_s66_25, ec_s66_26, ec_s66_29, ec_s66_32, ec_s66_35, ec_s66_36, ec_s66_39, ec_s66_40, ec_s66_43, ec_s66_44, ec_s66_45, ec_s66_48, ec_s66_51, ec_s66_52, ec_s66_53, ec_s66_54, ec_s66_57, ec_s66_60, ec_s66_63, ec_s66_64, ec_s66_67, ec_s66_68, ec_s66_71, ec_s66_72, ec_s66_73, ec_s66_76, ec_s66_79, ec_s66_80, ec_s66_81, ec_s66_82, ec_s66_85, ec_s66_88, ec_s66_91, ec_s66_94, ec_zn0, ec_zn1, ec_zn2, ec_zn3, ec_zn4, ec_zn5, ec_zn6, ec_zn7, ec_zn8, ec_zn9, ec_zn10, ec_zn12, ec_zn13, ec_zn14, ec_zn15, ec_zn16, ec_zn20, ec_zn30, ec_zn48, ec_zn99, ec_zn120, ec_zn127, ec_zn11, ec_zn31, ec_zn46, ec_zn57, ec_zn59, ec_zn63, ec_zn101, ec_zn107, ec_zn108, ec_zn110, ec_zn111, ec_zn115, ec_zn116, ec_zn119, ec_zn167, ec_zn185, ec_zn192, ec_zn215, ec_zn233, ec_zn699, ec_zn932, ec_zn999, ec_znF, ec_zneg, ec_zadd, ec_zsub, ec_zmul, ec_zdivO, ec_em, ec_zltO, ec_zeqO, ec_zeq0, ec_qt, ec_qf, if_pos, if_neg, Int.add_zero, ec_aft_v, ec_aft_n, ec_rwE, ec_rwN, ec_rwP, ec_rwK, ec_rwS, ec_w_shpI, ec_w_shpL, ec_w_shpA, hD, s1, s2, g2, b1]
    by_cases ql : ed_lit σ (σ 6)
    · by_cases qc : ec_cln (ed_P τ 0) (τ 6) (ec_sd (τ (185 + 5 * m)) (τ 6)) 9 (τ (185 + 5 * m)) = true
      · have sq : ed_see τ m := ⟨lq.mpr ql, qc⟩
        obtain ⟨h1, a1, h2, b1, b2, b3, b4⟩ := go (τ 6) (by unfold ed_gl; rw [if_pos sq]) hh
        refine ⟨h2, ?_, b2, b3, b4⟩
        rw [ec_qt qc] at g1
        rw [ed_qt ql] at b1 ⊢
        unfold ed_TN at hT
        have hD := And.intro b hT
        rw [ec_s66_24]
        simp (disch := first | (simp only [ec_w_kI, ec_w_kL, ec_w_kA, ec_w_shpI, ec_w_shpL, ec_w_shpA, ec_isR_r, ec_01z, ec_01o, ec_01q, hD]; done) | omega | (simp only [ec_w_shpI, ec_w_shpL, ec_w_shpA, hD]; refine ec_zinO ?_; omega) | (refine ec_nzO ?_; omega)) only [ec_s66_0, ec_s66_1, ec_s66_4, ec_s66_5, ec_s66_8, ec_s66_9, ec_s66_10, ec_s66_13, ec_s66_14, ec_s66_15, ec_s66_18, ec_s66_19, ec_s66_22, ec_s66_23, ec_s66_25, ec_s66_26, ec_s66_29, ec_s66_32, ec_s66_35, ec_s66_36, ec_s66_39, ec_s66_40, ec_s66_43, ec_s66_44, ec_s66_45, ec_s66_48, ec_s66_51, ec_s66_52, ec_s66_53, ec_s66_54, ec_s66_57, ec_s66_60, ec_s66_63, ec_s66_64, ec_s66_67, ec_s66_68, ec_s66_71, ec_s66_72, ec_s66_73, ec_s66_76, ec_s66_79, ec_s66_80, ec_s66_81, ec_s66_82, ec_s66_85, ec_s66_88, ec_s66_91, ec_s66_94, ec_zn0, ec_zn1, ec_zn2, ec_zn3, ec_zn4, ec_zn5, ec_zn6, ec_zn7, ec_zn8, ec_zn9, ec_zn10, ec_zn12, ec_zn13, ec_zn14, ec_zn15, ec_zn16, ec_zn20, ec_zn30, ec_zn48, ec_zn99, ec_zn120, ec_zn127, ec_zn11, ec_zn31, ec_zn46, ec_zn57, ec_zn59, ec_zn63, ec_zn101, ec_zn107, ec_zn108, ec_zn110, ec_zn111, ec_zn115, ec_zn116, ec_zn119, ec_zn167, ec_zn185, ec_zn192, ec_zn215, ec_zn233, ec_zn699, ec_zn932, ec_zn999, ec_znF, ec_zneg, ec_zadd, ec_zsub, ec_zmul, ec_zdivO, ec_em, ec_zltO, ec_zeqO, ec_zeq0, ec_qt, ec_qf, if_pos, if_neg, Int.add_zero, ec_aft_v, ec_aft_n, ec_rwE, ec_rwN, ec_rwP, ec_rwK, ec_rwS, ec_w_shpI, ec_w_shpL, ec_w_shpA, hD, r4, r7, g1, a1, b1]
      · obtain ⟨h2, b1, b2⟩ := heard (fun y => qc y.2)
        refine ⟨h2, ?_, b2⟩
        rw [ec_qf qc] at g1
        rw [ed_qt ql] at b1 ⊢
        unfold ed_TN at hT
        have hD := And.intro b hT
        rw [ec_s66_24]
        simp (disch := first | (simp only [ec_w_kI, ec_w_kL, ec_w_kA, ec_w_shpI, ec_w_shpL, ec_w_shpA, ec_isR_r, ec_01z, ec_01o, ec_01q, hD]; done) | omega | (simp only [ec_w_shpI, ec_w_shpL, ec_w_shpA, hD]; refine ec_zinO ?_; omega) | (refine ec_nzO ?_; omega)) only [ec_s66_0, ec_s66_1, ec_s66_4, ec_s66_5, ec_s66_8, ec_s66_9, ec_s66_10, ec_s66_13, ec_s66_14, ec_s66_15, ec_s66_18, ec_s66_19, ec_s66_22, ec_s66_23, ec_s66_25, ec_s66_26, ec_s66_29, ec_s66_32, ec_s66_35, ec_s66_36, ec_s66_39, ec_s66_40, ec_s66_43, ec_s66_44, ec_s66_45, ec_s66_48, ec_s66_51, ec_s66_52, ec_s66_53, ec_s66_54, ec_s66_57, ec_s66_60, ec_s66_64, ec_s66_67, ec_s66_68, ec_s66_71, ec_s66_72, ec_s66_73, ec_s66_76, ec_s66_79, ec_s66_80, ec_s66_81, ec_s66_82, ec_s66_85, ec_s66_88, ec_s66_91, ec_s66_94, ec_zn0, ec_zn1, ec_zn2, ec_zn3, ec_zn4, ec_zn5, ec_zn6, ec_zn7, ec_zn8, ec_zn9, ec_zn10, ec_zn12, ec_zn13, ec_zn14, ec_zn15, ec_zn16, ec_zn20, ec_zn30, ec_zn48, ec_zn99, ec_zn120, ec_zn127, ec_zn11, ec_zn31, ec_zn46, ec_zn57, ec_zn59, ec_zn63, ec_zn101, ec_zn107, ec_zn108, ec_zn110, ec_zn111, ec_zn115, ec_zn116, ec_zn119, ec_zn167, ec_zn185, ec_zn192, ec_zn215, ec_zn233, ec_zn699, ec_zn932, ec_zn999, ec_znF, ec_zneg, ec_zadd, ec_zsub, ec_zmul, ec_zdivO, ec_em, ec_zltO, ec_zeqO, ec_zeq0, ec_qt, ec_qf, if_pos, if_neg, Int.add_zero, ec_aft_v, ec_aft_n, ec_rwE, ec_rwN, ec_rwP, ec_rwK, ec_rwS, ec_w_shpI, ec_w_shpL, ec_w_shpA, hD, r4, r7, g1, b1]
    · obtain ⟨h2, b1, b2⟩ := heard (fun y => ql (lq.mp y.1))
      refine ⟨h2, ?_, b2⟩
      rw [ed_qf ql] at b1 ⊢
      unfold ed_TN at hT
      have hD := And.intro b hT
      rw [ec_s66_24]
      simp (disch := first | (simp only [ec_w_kI, ec_w_kL, ec_w_kA, ec_w_shpI, ec_w_shpL, ec_w_shpA, ec_isR_r, ec_01z, ec_01o, ec_01q, hD]; done) | omega | (simp only [ec_w_shpI, ec_w_shpL, ec_w_shpA, hD]; refine ec_zinO ?_; omega) | (refine ec_nzO ?_; omega)) only [ec_s66_0, ec_s66_1, ec_s66_4, ec_s66_5, ec_s66_8, ec_s66_9, ec_s66_10, ec_s66_13, ec_s66_14, ec_s66_15, ec_s66_18, ec_s66_19, ec_s66_22, ec_s66_23, ec_s66_25, ec_s66_26, ec_s66_29, ec_s66_32, ec_s66_35, ec_s66_36, ec_s66_39, ec_s66_40, ec_s66_43, ec_s66_44, ec_s66_45, ec_s66_48, ec_s66_51, ec_s66_52, ec_s66_53, ec_s66_54, ec_s66_57, ec_s66_60, ec_s66_64, ec_s66_67, ec_s66_68, ec_s66_71, ec_s66_72, ec_s66_73, ec_s66_76, ec_s66_79, ec_s66_80, ec_s66_81, ec_s66_82, ec_s66_85, ec_s66_88, ec_s66_91, ec_s66_94, ec_zn0, ec_zn1, ec_zn2, ec_zn3, ec_zn4, ec_zn5, ec_zn6, ec_zn7, ec_zn8, ec_zn9, ec_zn10, ec_zn12, ec_zn13, ec_zn14, ec_zn15, ec_zn16, ec_zn20, ec_zn30, ec_zn48, ec_zn99, ec_zn120, ec_zn127, ec_zn11, ec_zn31, ec_zn46, ec_zn57, ec_zn59, ec_zn63, ec_zn101, ec_zn107, ec_zn108, ec_zn110, ec_zn111, ec_zn115, ec_zn116, ec_zn119, ec_zn167, ec_zn185, ec_zn192, ec_zn215, ec_zn233, ec_zn699, ec_zn932, ec_zn999, ec_znF, ec_zneg, ec_zadd, ec_zsub, ec_zmul, ec_zdivO, ec_em, ec_zltO, ec_zeqO, ec_zeq0, ec_qt, ec_qf, if_pos, if_neg, Int.add_zero, ec_aft_v, ec_aft_n, ec_rwE, ec_rwN, ec_rwP, ec_rwK, ec_rwS, ec_w_shpI, ec_w_shpL, ec_w_shpA, hD, r4, r7, b1]
theorem ec_c66s {h : ec_Hp} {T B : Nat} (hTB : ed_ap2 T B) {σ : ec_Sg} (hD : ec_DN h B) (R : ec_RC h B σ) (w : ec_WF σ) (hT : ed_TN h T) (hS : ed_SL h (T + 1)) {P l : Int} (hP : ec_ing σ P) (hl : 0 ≤ l ∧ l ≤ 9) (s1 : h.2.1 T 1 = ec_i P) (s2 : h.2.1 T 2 = ec_i l) :
    ∃ h', ec_om 66 0 [.ref T, .ref B, .double 0, .double 0] [] h = some (.inl none, h') ∧ ec_RC h' B (ed_her P l σ) ∧ ec_DN h' B ∧ ed_TN h' T ∧ ed_SL h' (T + 1) ∧ ec_fg (ed_PF T B) h h' := by
  have ap : ed_ap (T + 1) B := by omega
  obtain ⟨h1, a1, a2, a3⟩ := ec_c34s ap hD R w hS
  have R1 := R.fr a2 ap
  have D1 := a2.DN ap hD
  have f1 : ec_fg (ed_PF T B) h h1 := a2.g.mono (fun q j e => Or.inr (by omega))
  obtain ⟨h2, nw, t, b1, b2, b3, b4⟩ := ec_c35s ap D1 R1 w a3 (m := 2) (g := P) (by omega) hP.1
  have R2 := R1.fr b2 ap
  have D2 := b2.DN ap D1
  have f2 : ec_fg (ed_PF T B) h h2 := f1.trans (b2.g.mono (fun q j e => Or.inr (by omega)))
  have t1 : h1.2.1 T 1 = ec_i P := (a2.2.2 _ _ (by omega) (by omega) (by omega)).trans s1
  have s12 : h2.2.1 T 1 = ec_i P := (b2.2.2 _ _ (by omega) (by omega) (by omega)).trans t1
  have s22 : h2.2.1 T 2 = ec_i l := ((b2.2.2 _ _ (by omega) (by omega) (by omega)).trans (a2.2.2 _ _ (by omega) (by omega) (by omega))).trans s2
  obtain ⟨h3, c1, c2, c3, c4⟩ := ec_c66L hTB w hP hl (σ 4).toNat 0 σ h2 D2 R2 w ed_ag.refl (hT.fg f2) b3 ⟨nw, t, b4⟩ s12 s22 (by omega) (by have := w.1; omega)
  have f3 : ec_fg (ed_PF T B) h h3 := f2.trans (c4.mono (fun q j e => Or.inl (by omega)))
  refine ⟨h3, ?_, c2, c3, hT.fg f3, ⟨b3.of c4.1.1, _, nw, t, b4.fg c4 (fun q j h1 h2 y => by omega)⟩, f3⟩
  have ba := D1.b
  have b := hD.b
  have hT1 := hT.fg f1
  unfold ed_TN at hT hT1
  have hD := And.intro b (And.intro hT (And.intro ba hT1))
  simp (disch := first | (simp only [ec_w_kI, ec_w_kL, ec_w_kA, ec_w_shpI, ec_w_shpL, ec_w_shpA, ec_isR_r, ec_01z, ec_01o, ec_01q, hD]; done) | omega | (simp only [ec_w_shpI, ec_w_shpL, ec_w_shpA, hD]; refine ec_zinO ?_; omega) | (refine ec_nzO ?_; omega)) only [ec_s66_0, ec_s66_1, ec_s66_4, ec_s66_5, ec_s66_8, ec_s66_9, ec_s66_10, ec_s66_13, ec_s66_14, ec_s66_15, ec_s66_18, ec_s66_19, ec_s66_22, ec_s66_23, ec_s66_25, ec_s66_26, ec_s66_29, ec_s66_32, ec_s66_35, ec_s66_36, ec_s66_39, ec_s66_40, ec_s66_43, ec_s66_44, ec_s66_45, ec_s66_48, ec_s66_51, ec_s66_52, ec_s66_53, ec_s66_54, ec_s66_57, ec_s66_60, ec_s66_63, ec_s66_64, ec_s66_67, ec_s66_68, ec_s66_71, ec_s66_72, ec_s66_73, ec_s66_76, ec_s66_79, ec_s66_80, ec_s66_81, ec_s66_82, ec_s66_85, ec_s66_88, ec_s66_91, ec_s66_94, ec_zn0, ec_zn1, ec_zn2, ec_zn3, ec_zn4, ec_zn5, ec_zn6, ec_zn7, ec_zn8, ec_zn9, ec_zn10, ec_zn12, ec_zn13, ec_zn14, ec_zn15, ec_zn16, ec_zn20, ec_zn30, ec_zn48, ec_zn99, ec_zn120, ec_zn127, ec_zn11, ec_zn31, ec_zn46, ec_zn57, ec_zn59, ec_zn63, ec_zn101, ec_zn107, ec_zn108, ec_zn110, ec_zn111, ec_zn115, ec_zn116, ec_zn119, ec_zn167, ec_zn185, ec_zn192, ec_zn215, ec_zn233, ec_zn699, ec_zn932, ec_zn999, ec_znF, ec_zneg, ec_zadd, ec_zsub, ec_zmul, ec_zdivO, ec_em, ec_zltO, ec_zeqO, ec_zeq0, ec_qt, ec_qf, if_pos, if_neg, Int.add_zero, ec_aft_v, ec_aft_n, ec_rwE, ec_rwN, ec_rwP, ec_rwK, ec_rwS, ec_w_shpI, ec_w_shpL, ec_w_shpA, hD, a1, t1, b1, c1]
