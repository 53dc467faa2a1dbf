/-! Contracts of the reference: making the dungeon. -/
def ed_TX (h : ec_Hp) (L : Int) (T : Int → Int) : Prop := h.2.1 72 6 = ec_i L ∧ (0 ≤ L ∧ L ≤ 120) ∧ ∀ i : Int, 0 ≤ i ∧ i < L → h.2.1 77 (ec_i i).toNatClampNeg = ec_i (T i) ∧ (0 ≤ T i ∧ T i ≤ 127)
theorem ed_TX.fg {S : Nat → Nat → Prop} {h h' : ec_Hp} {L : Int} {T : Int → Int} (a : ec_fg S h h') (b : ed_TX h L T) (h1 : ¬ S 72 6) (h2 : ∀ j, ¬ S 77 j) : ed_TX h' L T :=
  ⟨(a.2 _ _ h1).trans b.1, b.2.1, fun i hi => ⟨(a.2 _ _ (h2 _)).trans (b.2.2 i hi).1, (b.2.2 i hi).2⟩⟩
/-- the reference's whole state -/
def ed_ML (h : ec_Hp) (σ : ec_Sg) (n : Int) (p : Int → ec_Sg) (L : Int) (T : Int → Int) : Prop := ec_MD h ∧ ec_Ms h σ ∧ ec_WF σ ∧ ed_PA h n p ∧ ed_TX h L T
abbrev ed_Fm : Nat → Nat → Prop := fun q _ => 72 ≤ q ∧ q ≤ 83
theorem ed_SvF : ∀ q j, ed_Sv q j → ed_Fm q j := fun q j e => by
  rcases e with e | e
  · exact ⟨by omega, by omega⟩
  · exact ⟨by omega, by omega⟩
theorem ed_73F : ∀ q j, ed_73 q j → ed_Fm q j := fun q j (e : q = 73) => ⟨by omega, by omega⟩
theorem ed_Sv73 : ∀ j, ¬ ed_Sv 73 j := fun _ y => by
  rcases y with y | y
  · exact absurd y (by decide)
  · exact absurd y.1 (by decide)
theorem ed_Sv77 : ∀ j, ¬ ed_Sv 77 j := fun _ y => by
  rcases y with y | y
  · exact absurd y (by decide)
  · exact absurd y.1 (by decide)
/-- a save, and what it leaves -/
theorem ed_saved {h : ec_Hp} {σ : ec_Sg} {n : Int} {p : Int → ec_Sg} {L : Int} {T : Int → Int} (M : ed_ML h σ n p L T) : ∃ h', ec_om 122 0 [.ref 72, .double 0] [] h = some (.inl none, h') ∧ ed_ML h' σ (ed_pn n) (ed_pp n p σ) L T ∧ h'.2.1 72 7 = ec_i 0 ∧ ec_fg ed_Fm h h' := by
  obtain ⟨h', a1, a2, a3, a4⟩ := ec_c122 M.1 M.2.1 M.2.2.1 M.2.2.2.1
  exact ⟨h', a1, ⟨M.1.of a4.1.1, M.2.1.fg a4 ed_Sv73, M.2.2.1, a2, M.2.2.2.2.fg a4 (by decide) ed_Sv77⟩, a3, a4.mono ed_SvF⟩
/-- the row changes behind a save -/
theorem ed_ML.s {h h' : ec_Hp} {σ τ : ec_Sg} {n : Int} {p : Int → ec_Sg} {L : Int} {T : Int → Int} (M : ed_ML h σ n p L T) (a : ec_fg ed_73 h h') (s : ec_Ms h' τ) (w : ec_WF τ) : ed_ML h' τ n p L T := ⟨M.1.of a.1.1, s, w, M.2.2.2.1.fg a (by decide) (fun _ => (by decide : ¬ (74 : Nat) = 73)), M.2.2.2.2.fg a (by decide) (fun _ => (by decide : ¬ (77 : Nat) = 73))⟩
def ed_err (h : ec_Hp) (c : Int) : ec_Hp := ec_setI h 72 7 (ec_i c)
/-- a refused call changes nothing -/
theorem ed_ML.err {h : ec_Hp} {σ : ec_Sg} {n : Int} {p : Int → ec_Sg} {L : Int} {T : Int → Int} (M : ed_ML h σ n p L T) (c : Int) : ed_ML (ed_err h c) σ n p L T ∧ (ed_err h c).2.1 72 7 = ec_i c ∧ ec_fg ed_Fm h (ed_err h c) := by
  have f : ec_fg (fun q j => q = 72 ∧ j = 7) h (ed_err h c) := ec_fg.refl.I ⟨rfl, rfl⟩
  exact ⟨⟨M.1.of rfl, M.2.1.fg f (fun _ y => absurd y.1 (by decide)), M.2.2.1, M.2.2.2.1.fg f (by decide) (fun _ y => absurd y.1 (by decide)), M.2.2.2.2.fg f (by decide) (fun _ y => absurd y.1 (by decide))⟩, ec_rwS, f.mono (fun q j e => ⟨by omega, by omega⟩)⟩
theorem ed_er {h : ec_Hp} (hD : ec_MD h) {x : Int} : ec_om 119 0 [.ref 72, .int (ec_i x)] [] h = some (.inl (some (.int (ec_i 0))), ed_err h x) := ec_c119 hD
/-- what an answer of the reference is -/
def ed_An (μ : Nat) (as : List Value) (h : ec_Hp) (c v : Int) (σ : ec_Sg) (n : Int) (p : Int → ec_Sg) (L : Int) (T : Int → Int) : Prop :=
  ∃ h', ec_om μ 0 as [] h = some (.inl (some (.int (ec_i v))), h') ∧ h'.2.1 72 7 = ec_i c ∧ ed_ML h' σ n p L T ∧ ec_fg ed_Fm h h'
section EDA
variable {h : ec_Hp} {σ : ec_Sg} {n : Int} {p : Int → ec_Sg} {L : Int} {T : Int → Int}
theorem ed_An.er (M : ed_ML h σ n p L T) {μ : Nat} {as : List Value} {c : Int} (e : ec_om μ 0 as [] h = some (.inl (some (.int (ec_i 0))), ed_err h c)) : ed_An μ as h c 0 σ n p L T := ⟨_, e, (M.err c).2.1, (M.err c).1, (M.err c).2.2⟩
theorem ec_c143x (M : ed_ML h σ n p L T) {a b : Int} (ra : ec_rg a) (rb : ec_rg b) (q : ¬ ((1 ≤ a ∧ a ≤ 8) ∧ 1 ≤ b ∧ b ≤ 6)) : ed_An 143 [.ref 72, .int (ec_i a), .int (ec_i b), .double 0] h 1 0 σ n p L T := by
  refine ed_An.er M ?_
  have g1 := fun h => ec_c118 (h := h) ra ec_rn1 ec_rn8
  have g2 := fun h => ec_c118 (h := h) rb ec_rn1 ec_rn6
  have g3 := ed_er M.1 (x := 1)
  have hD := M.1
  unfold ec_MD at hD
  by_cases q1 : 1 ≤ a ∧ a ≤ 8
  · simp (disch := first | (simp only [ec_w_kI, ec_w_kL, ec_w_kA, ec_w_shpI, ec_w_shpL, ec_w_shpA, ec_isR_r, ec_01z, ec_01o, ec_01q, hD]; done) | omega | (simp only [ec_w_shpI, ec_w_shpL, ec_w_shpA, hD]; refine ec_zinO ?_; omega) | (refine ec_nzO ?_; omega)) only [ec_s143_0, ec_s143_1, ec_s143_2, ec_s143_4, ec_s143_7, ec_s143_10, ec_s143_11, ec_s143_12, ec_s143_14, ec_s143_17, ec_s143_20, ec_s143_21, ec_s143_22, ec_s143_25, ec_s143_26, ec_s143_27, ec_s143_30, ec_s143_31, ec_s143_34, ec_s143_36, ec_s143_37, ec_s143_38, ec_s143_39, ec_s143_40, ec_s143_41, ec_s143_44, ec_s143_45, ec_zn0, ec_zn1, ec_zn2, ec_zn3, ec_zn4, ec_zn5, ec_zn6, ec_zn7, ec_zn8, ec_zn9, ec_zn10, ec_zn12, ec_zn13, ec_zn14, ec_zn15, ec_zn16, ec_zn20, ec_zn30, ec_zn48, ec_zn99, ec_zn120, ec_zn127, ec_zn11, ec_zn31, ec_zn46, ec_zn57, ec_zn59, ec_zn63, ec_zn101, ec_zn107, ec_zn108, ec_zn110, ec_zn111, ec_zn115, ec_zn116, ec_zn119, ec_zn167, ec_zn185, ec_zn192, ec_zn215, ec_zn233, ec_zn699, ec_zn932, ec_zn999, ec_znF, ec_zneg, ec_zadd, ec_zsub, ec_zmul, ec_zdivO, ec_em, ec_zltO, ec_zeqO, ec_zeq0, ec_qt, ec_qf, if_pos, if_neg, Int.add_zero, ec_aft_v, ec_aft_n, ec_rwE, ec_rwN, ec_rwP, ec_rwK, ec_rwS, ec_w_shpI, ec_w_shpL, ec_w_shpA, hD, g1, g2, g3]
  · simp (disch := first | (simp only [ec_w_kI, ec_w_kL, ec_w_kA, ec_w_shpI, ec_w_shpL, ec_w_shpA, ec_isR_r, ec_01z, ec_01o, ec_01q, hD]; done) | omega | (simp only [ec_w_shpI, ec_w_shpL, ec_w_shpA, hD]; refine ec_zinO ?_; omega) | (refine ec_nzO ?_; omega)) only [ec_s143_0, ec_s143_1, ec_s143_2, ec_s143_4, ec_s143_7, ec_s143_10, ec_s143_11, ec_s143_12, ec_s143_14, ec_s143_17, ec_s143_20, ec_s143_21, ec_s143_22, ec_s143_25, ec_s143_26, ec_s143_27, ec_s143_30, ec_s143_31, ec_s143_34, ec_s143_36, ec_s143_37, ec_s143_38, ec_s143_39, ec_s143_40, ec_s143_41, ec_s143_44, ec_s143_45, ec_zn0, ec_zn1, ec_zn2, ec_zn3, ec_zn4, ec_zn5, ec_zn6, ec_zn7, ec_zn8, ec_zn9, ec_zn10, ec_zn12, ec_zn13, ec_zn14, ec_zn15, ec_zn16, ec_zn20, ec_zn30, ec_zn48, ec_zn99, ec_zn120, ec_zn127, ec_zn11, ec_zn31, ec_zn46, ec_zn57, ec_zn59, ec_zn63, ec_zn101, ec_zn107, ec_zn108, ec_zn110, ec_zn111, ec_zn115, ec_zn116, ec_zn119, ec_zn167, ec_zn185, ec_zn192, ec_zn215, ec_zn233, ec_zn699, ec_zn932, ec_zn999, ec_znF, ec_zneg, ec_zadd, ec_zsub, ec_zmul, ec_zdivO, ec_em, ec_zltO, ec_zeqO, ec_zeq0, ec_qt, ec_qf, if_pos, if_neg, Int.add_zero, ec_aft_v, ec_aft_n, ec_rwE, ec_rwN, ec_rwP, ec_rwK, ec_rwS, ec_w_shpI, ec_w_shpL, ec_w_shpA, hD, g1, g3]
theorem ec_c143 (M : ed_ML h σ n p L T) {a b : Int} (ra : 1 ≤ a ∧ a ≤ 8) (rb : 1 ≤ b ∧ b ≤ 6) : ed_An 143 [.ref 72, .int (ec_i a), .int (ec_i b), .double 0] h 0 (σ 10) (ed_new a b) (ed_pn n) (ed_pp n p σ) L T := by
  obtain ⟨h1, a1, a2, a3, a4⟩ := ed_saved M
  obtain ⟨h2, b1, b2, b3⟩ := ec_c123 a2.1 (c := a) (r := b)
  refine ⟨h2, ?_, (b3.2 72 7 (by decide)).trans a3, a2.s b3 b2 (ed_WF_new ra rb), a4.trans (b3.mono ed_73F)⟩
  have g1 := fun h => ec_c118 (h := h) (x := a) (ec_rgs (by omega)) ec_rn1 ec_rn8
  have g2 := fun h => ec_c118 (h := h) (x := b) (ec_rgs (by omega)) ec_rn1 ec_rn6
  have r := a2.2.1
  have hD := And.intro M.1 a2.1
  unfold ec_MD at hD
  unfold ec_Ms at r
  simp (disch := first | (simp only [ec_w_kI, ec_w_kL, ec_w_kA, ec_w_shpI, ec_w_shpL, ec_w_shpA, ec_isR_r, ec_01z, ec_01o, ec_01q, hD]; done) | omega | (simp only [ec_w_shpI, ec_w_shpL, ec_w_shpA, hD]; refine ec_zinO ?_; omega) | (refine ec_nzO ?_; omega)) only [ec_s143_0, ec_s143_1, ec_s143_2, ec_s143_4, ec_s143_7, ec_s143_10, ec_s143_11, ec_s143_12, ec_s143_14, ec_s143_17, ec_s143_20, ec_s143_21, ec_s143_22, ec_s143_25, ec_s143_26, ec_s143_27, ec_s143_30, ec_s143_31, ec_s143_34, ec_s143_36, ec_s143_37, ec_s143_38, ec_s143_39, ec_s143_40, ec_s143_41, ec_s143_44, ec_s143_45, ec_zn0, ec_zn1, ec_zn2, ec_zn3, ec_zn4, ec_zn5, ec_zn6, ec_zn7, ec_zn8, ec_zn9, ec_zn10, ec_zn12, ec_zn13, ec_zn14, ec_zn15, ec_zn16, ec_zn20, ec_zn30, ec_zn48, ec_zn99, ec_zn120, ec_zn127, ec_zn11, ec_zn31, ec_zn46, ec_zn57, ec_zn59, ec_zn63, ec_zn101, ec_zn107, ec_zn108, ec_zn110, ec_zn111, ec_zn115, ec_zn116, ec_zn119, ec_zn167, ec_zn185, ec_zn192, ec_zn215, ec_zn233, ec_zn699, ec_zn932, ec_zn999, ec_znF, ec_zneg, ec_zadd, ec_zsub, ec_zmul, ec_zdivO, ec_em, ec_zltO, ec_zeqO, ec_zeq0, ec_qt, ec_qf, if_pos, if_neg, Int.add_zero, ec_aft_v, ec_aft_n, ec_rwE, ec_rwN, ec_rwP, ec_rwK, ec_rwS, ec_w_shpI, ec_w_shpL, ec_w_shpA, hD, r, g1, g2, a1, b1]
/-- whether there is a border -/
theorem ec_c144 (M : ed_ML h σ n p L T) {x y s : Int} (hx : 0 ≤ x ∧ x < σ 0) (hy : 0 ≤ y ∧ y < σ 1) (rs : ec_rg s) : ec_om 144 0 [.ref 72, .int (ec_i x), .int (ec_i y), .int (ec_i s)] [] h = some (.inl (some (.int (ec_i (ec_q ((1 ≤ s ∧ s ≤ 2) ∧ ec_hb σ (8 * y + x) s))))), h) := by
  have w := M.2.2.1.1
  have g1 := fun h => ec_c118 (h := h) rs ec_rn1 ec_rn2
  have g2 := fun q => ec_c127 M.1 M.2.1 M.2.2.1 (z := 8 * y + x) (d := s) (by omega) q
  have hD := M.1
  unfold ec_MD at hD
  by_cases q1 : 1 ≤ s ∧ s ≤ 2
  · have g2 := g2 (by omega)
    by_cases q2 : ec_hb σ (8 * y + x) s
    · rw [ec_qt q2] at g2
      rw [ec_qt (show (1 ≤ s ∧ s ≤ 2) ∧ ec_hb σ (8 * y + x) s from ⟨q1, q2⟩)]
      simp (disch := first | (simp only [ec_w_kI, ec_w_kL, ec_w_kA, ec_w_shpI, ec_w_shpL, ec_w_shpA, ec_isR_r, ec_01z, ec_01o, ec_01q, hD]; done) | omega | (simp only [ec_w_shpI, ec_w_shpL, ec_w_shpA, hD]; refine ec_zinO ?_; omega) | (refine ec_nzO ?_; omega)) only [ec_s144_0, ec_s144_1, ec_s144_2, ec_s144_3, ec_s144_6, ec_s144_9, ec_s144_10, ec_s144_12, ec_s144_13, ec_s144_14, ec_s144_15, ec_s144_16, ec_s144_17, ec_s144_20, ec_s144_23, ec_s144_24, ec_s144_27, ec_s144_28, ec_zn0, ec_zn1, ec_zn2, ec_zn3, ec_zn4, ec_zn5, ec_zn6, ec_zn7, ec_zn8, ec_zn9, ec_zn10, ec_zn12, ec_zn13, ec_zn14, ec_zn15, ec_zn16, ec_zn20, ec_zn30, ec_zn48, ec_zn99, ec_zn120, ec_zn127, ec_zn11, ec_zn31, ec_zn46, ec_zn57, ec_zn59, ec_zn63, ec_zn101, ec_zn107, ec_zn108, ec_zn110, ec_zn111, ec_zn115, ec_zn116, ec_zn119, ec_zn167, ec_zn185, ec_zn192, ec_zn215, ec_zn233, ec_zn699, ec_zn932, ec_zn999, ec_znF, ec_zneg, ec_zadd, ec_zsub, ec_zmul, ec_zdivO, ec_em, ec_zltO, ec_zeqO, ec_zeq0, ec_qt, ec_qf, if_pos, if_neg, Int.add_zero, ec_aft_v, ec_aft_n, ec_rwE, ec_rwN, ec_rwP, ec_rwK, ec_rwS, ec_w_shpI, ec_w_shpL, ec_w_shpA, hD, g1, g2]
    · rw [ec_qf q2] at g2
      rw [ec_qf (show ¬ ((1 ≤ s ∧ s ≤ 2) ∧ ec_hb σ (8 * y + x) s) from fun y => q2 y.2)]
      simp (disch := first | (simp only [ec_w_kI, ec_w_kL, ec_w_kA, ec_w_shpI, ec_w_shpL, ec_w_shpA, ec_isR_r, ec_01z, ec_01o, ec_01q, hD]; done) | omega | (simp only [ec_w_shpI, ec_w_shpL, ec_w_shpA, hD]; refine ec_zinO ?_; omega) | (refine ec_nzO ?_; omega)) only [ec_s144_0, ec_s144_1, ec_s144_2, ec_s144_3, ec_s144_6, ec_s144_9, ec_s144_10, ec_s144_12, ec_s144_13, ec_s144_14, ec_s144_15, ec_s144_16, ec_s144_17, ec_s144_20, ec_s144_23, ec_s144_24, ec_s144_27, ec_s144_28, ec_zn0, ec_zn1, ec_zn2, ec_zn3, ec_zn4, ec_zn5, ec_zn6, ec_zn7, ec_zn8, ec_zn9, ec_zn10, ec_zn12, ec_zn13, ec_zn14, ec_zn15, ec_zn16, ec_zn20, ec_zn30, ec_zn48, ec_zn99, ec_zn120, ec_zn127, ec_zn11, ec_zn31, ec_zn46, ec_zn57, ec_zn59, ec_zn63, ec_zn101, ec_zn107, ec_zn108, ec_zn110, ec_zn111, ec_zn115, ec_zn116, ec_zn119, ec_zn167, ec_zn185, ec_zn192, ec_zn215, ec_zn233, ec_zn699, ec_zn932, ec_zn999, ec_znF, ec_zneg, ec_zadd, ec_zsub, ec_zmul, ec_zdivO, ec_em, ec_zltO, ec_zeqO, ec_zeq0, ec_qt, ec_qf, if_pos, if_neg, Int.add_zero, ec_aft_v, ec_aft_n, ec_rwE, ec_rwN, ec_rwP, ec_rwK, ec_rwS, ec_w_shpI, ec_w_shpL, ec_w_shpA, hD, g1, g2]
  · rw [ec_qf (show ¬ ((1 ≤ s ∧ s ≤ 2) ∧ ec_hb σ (8 * y + x) s) from fun y => q1 y.1)]
    simp (disch := first | (simp only [ec_w_kI, ec_w_kL, ec_w_kA, ec_w_shpI, ec_w_shpL, ec_w_shpA, ec_isR_r, ec_01z, ec_01o, ec_01q, hD]; done) | omega | (simp only [ec_w_shpI, ec_w_shpL, ec_w_shpA, hD]; refine ec_zinO ?_; omega) | (refine ec_nzO ?_; omega)) only [ec_s144_0, ec_s144_1, ec_s144_2, ec_s144_3, ec_s144_6, ec_s144_9, ec_s144_10, ec_s144_12, ec_s144_13, ec_s144_14, ec_s144_15, ec_s144_16, ec_s144_17, ec_s144_20, ec_s144_23, ec_s144_24, ec_s144_27, ec_s144_28, ec_zn0, ec_zn1, ec_zn2, ec_zn3, ec_zn4, ec_zn5, ec_zn6, ec_zn7, ec_zn8, ec_zn9, ec_zn10, ec_zn12, ec_zn13, ec_zn14, ec_zn15, ec_zn16, ec_zn20, ec_zn30, ec_zn48, ec_zn99, ec_zn120, ec_zn127, ec_zn11, ec_zn31, ec_zn46, ec_zn57, ec_zn59, ec_zn63, ec_zn101, ec_zn107, ec_zn108, ec_zn110, ec_zn111, ec_zn115, ec_zn116, ec_zn119, ec_zn167, ec_zn185, ec_zn192, ec_zn215, ec_zn233, ec_zn699, ec_zn932, ec_zn999, ec_znF, ec_zneg, ec_zadd, ec_zsub, ec_zmul, ec_zdivO, ec_em, ec_zltO, ec_zeqO, ec_zeq0, ec_qt, ec_qf, if_pos, if_neg, Int.add_zero, ec_aft_v, ec_aft_n, ec_rwE, ec_rwN, ec_rwP, ec_rwK, ec_rwS, ec_w_shpI, ec_w_shpL, ec_w_shpA, hD, g1]
end EDA
