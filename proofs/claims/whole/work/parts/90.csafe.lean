/-! The class's face: how often an action is safe; undo. -/
theorem ed_acts_c {σ : ec_Sg} (w : ec_WF σ) {c : Int} (hc : c < 107) : ed_acts σ c = σ c :=
  (ed_fold_ind (I := fun _ τ => ec_WF τ ∧ τ 4 = σ 4 ∧ τ c = σ c) (σ 4).toNat 0 σ ⟨w, rfl, rfl⟩ (fun j τ hj ⟨a, b, d⟩ => ⟨ed_WF_act1 a (by omega), (ed_act1_c a (by omega) (by omega)).trans b, (ed_act1_c a (by omega) hc).trans d⟩)).2.2
theorem ed_hit_7 {σ : ec_Sg} (h0 : 0 ≤ σ 7) : ed_hit σ 7 ≤ σ 7 := by
  unfold ed_hit
  rw [ec_suE rfl]
  split <;> omega
theorem ed_hrt_c {σ : ec_Sg} (w : ec_WF σ) : ed_hrt σ 10 = σ 10 ∧ ed_hrt σ 7 ≤ σ 7 :=
  (ed_fold_ind (I := fun _ τ => ec_WF τ ∧ τ 4 = σ 4 ∧ τ 10 = σ 10 ∧ τ 7 ≤ σ 7) (σ 4).toNat 0 σ ⟨w, rfl, rfl, Int.le_refl _⟩ (fun j τ hj ⟨a, b, d, e⟩ => by
    refine ⟨ed_WF_hrt1 a (by omega), ?_⟩
    unfold ed_hrt1
    by_cases q : τ (185 + 5 * j) = τ 6
    · rw [if_pos q, ed_hit_c (by omega), ed_hit_c (by omega), ec_suN (by omega), ec_suN (by omega)]
      have e7 : ec_su τ (185 + 5 * j + 4) (τ (185 + 5 * j + 4) + 1) 7 = τ 7 := ec_suN (by omega)
      have h7 := ed_hit_7 (σ := ec_su τ (185 + 5 * j + 4) (τ (185 + 5 * j + 4) + 1)) (by have := a.2.1.2.1; omega)
      exact ⟨b, d, by omega⟩
    · rw [if_neg q]
      exact ⟨b, d, e⟩)).2.2
theorem ed_drs_c {σ : ec_Sg} {c : Int} (hc : c < 107) : ed_drs σ c = σ c :=
  ed_fold_ind (I := fun _ τ => τ c = σ c) (σ 2).toNat 0 σ rfl (fun j τ hj a => by
    show ed_drs1 τ j c = σ c
    unfold ed_drs1
    split
    · rw [ec_suN (by omega), ec_suN (by omega)]
      exact a
    · exact a)
theorem ed_end_c {σ : ec_Sg} (w : ec_WF σ) {p l : Int} (hp : ec_ing σ p) : ed_end p l σ 10 = σ 10 + 1 ∧ ed_end p l σ 7 ≤ σ 7 := by
  have wb := ed_WF_brn w
  have hp' : ec_ing (ed_brn σ) p := (ed_ing_c (ed_brn_c w (by omega) (by omega) (by omega)) (ed_brn_c w (by omega) (by omega) (by omega))).mpr hp
  have hr := ed_her_s wb (p := p) (l := l) hp'
  have wa := ed_WF_acts hr.1
  have ht := ed_hrt_c wa
  unfold ed_end
  rw [ec_suE rfl, ec_suN (by omega), ed_drs_c (by omega), ed_drs_c (by omega)]
  rw [ed_acts_c hr.1 (by omega), ed_acts_c hr.1 (by omega), hr.2 _ (by omega), hr.2 _ (by omega), ed_brn_c w (by omega) (by omega) (by omega), ed_brn_c w (by omega) (by omega) (by omega)] at ht
  exact ⟨by omega, ht.2⟩
theorem ed_turn_c {σ : ec_Sg} (w : ec_WF σ) {a : Int} (ha : 0 ≤ a ∧ a < 16) (h : ed_rsn σ a = 0) : ed_turn σ a 10 = σ 10 + 1 ∧ ed_turn σ a 7 ≤ σ 7 := by
  have d := ed_WF_does w ha h
  have s := ed_sp_in w ha h
  have s' : ec_ing (ed_does σ a) (ed_sp σ a) := (ed_ing_c (ed_does_c h (by omega) (by omega) (by omega)) (ed_does_c h (by omega) (by omega) (by omega))).mpr s
  have d7 : ed_does σ a 7 = σ 7 := ed_does_c h (by omega) (by omega) (by omega)
  have d10 : ed_does σ a 10 = σ 10 := ed_does_c h (by omega) (by omega) (by omega)
  have dd := ed_end_c d (l := ed_sl σ a) s'
  unfold ed_turn
  split
  · split
    · rename_i q
      have e := ed_end_c (ed_WF_spr d) (p := ed_does σ a 6) (l := 9) ((ed_ing_c (ed_spr_c (by omega) (by omega) d) (ed_spr_c (by omega) (by omega) d)).mpr d.2.1.1)
      have e10 : ed_spr (ed_does σ a) 10 = ed_does σ a 10 := ed_spr_c (by omega) (by omega) d
      have e7 : ed_spr (ed_does σ a) 7 ≤ ed_does σ a 7 := by
        unfold ed_spr
        rw [if_pos q]
        rcases ed_tr_rg d (x := ed_does σ a 6) with y | y
        · exact absurd y.1 q.1
        · have f : ed_spr1 (ed_does σ a) (ed_tr (ed_does σ a) (ed_does σ a 6)) 7 = ed_does σ a 7 := by
            unfold ed_spr1
            rw [ec_suN (by omega), ec_suN (by omega)]
          have g := ed_hit_7 (σ := ed_spr1 (ed_does σ a) (ed_tr (ed_does σ a) (ed_does σ a 6))) (by have := d.2.1.2.1; omega)
          omega
      omega
    · omega
  · omega
theorem ed_sfl_s {a life : Int} {τ : ec_Sg} (h : τ 7 ≠ life) : ∀ (k : Nat) (m : Int), ed_sfl a life k τ m = m
  | 0, _ => rfl
  | k + 1, m => if_neg (fun z => h z.1)
section EDO
variable {σ : ec_Sg} {n : Int} {p : Int → ec_Sg} {L : Int} {T : Int → Int}
abbrev ed_Ft : Nat → Nat → Prop := fun q _ => 11 ≤ q ∧ q ≤ 20 ∨ 66 ≤ q ∧ q ≤ 69
/-- the trial is scratch -/
theorem ed_CL.t {h h' : ec_Hp} (C : ed_CL h σ n p L T) (f2 : ec_fg ed_Ft h h') (b3 : ec_DN h' 11) (b4 : ed_TN h' 66) (b5 : ed_SL h' 67) : ed_CL h' σ n p L T := by
  obtain ⟨c1, ⟨c2, c2b, c2c⟩, c3, c4, c5, c6, c7⟩ := C
  exact ⟨c1.of f2.1.1, ⟨c2.fg f2 (fun q j x y z => by omega), c2b.fg f2 (fun q j x y z => by omega), c2c⟩, b3, c4.fg f2 (fun q j x y z => by omega), c5.fg f2 (fun q j x y z => by omega), ⟨b4, b5⟩, c7.fg f2 (fun z => by omega) (fun j z => by omega)⟩
theorem ec_c92L {a : Int} (ha : 0 ≤ a ∧ a < 16) : ∀ (k : Nat) (m : Int) (τ : ec_Sg) (h : ec_Hp), ed_CL h σ n p L T → ec_RC h 11 τ → ec_WF τ → τ 7 = σ 7 → 0 ≤ m → m + k = 30 →
    ∃ h', ec_om 92 20 [.ref 0, .int (ec_i a), .int (ec_i m)] [] h = some (.inl (some (.int (ec_i (ed_sfl a (σ 7) k τ m)))), h') ∧ ed_CL h' σ n p L T ∧ ec_fg ed_Ft h h' := by
  intro k
  induction k with
  | zero =>
    intro m τ h C R w e7 h0 hm
    refine ⟨h, ?_, C, ec_fg.refl⟩
    have hD := C.b
    have hm : m = 30 := by omega
    rw [ec_s92_20, hm]
    simp (disch := first | (simp only [ec_w_kI, ec_w_kL, ec_w_kA, ec_w_shpI, ec_w_shpL, ec_w_shpA, ec_isR_r, ec_01z, ec_01o, ec_01q, hD]; done) | omega | (simp only [ec_w_shpI, ec_w_shpL, ec_w_shpA, hD]; refine ec_zinO ?_; omega) | (refine ec_nzO ?_; omega)) only [ec_s92_0, ec_s92_1, ec_s92_2, ec_s92_4, ec_s92_7, ec_s92_8, ec_s92_11, ec_s92_12, ec_s92_15, ec_s92_18, ec_s92_19, ec_s92_21, ec_s92_23, ec_s92_26, ec_s92_27, ec_s92_30, ec_s92_31, ec_s92_34, ec_s92_35, ec_s92_38, ec_s92_41, ec_s92_42, ec_s92_43, ec_s92_44, ec_s92_47, ec_s92_48, ec_s92_51, ec_s92_52, ec_s92_55, ec_s92_56, ec_s92_59, ec_s92_62, ec_s92_63, ec_s92_66, ec_s92_69, ec_s92_72, ec_s92_73, ec_s92_74, ec_s92_77, ec_s92_80, ec_s92_82, ec_zn0, ec_zn1, ec_zn2, ec_zn3, ec_zn4, ec_zn5, ec_zn6, ec_zn7, ec_zn8, ec_zn9, ec_zn10, ec_zn12, ec_zn13, ec_zn14, ec_zn15, ec_zn16, ec_zn20, ec_zn30, ec_zn48, ec_zn99, ec_zn120, ec_zn127, ec_zn11, ec_zn31, ec_zn46, ec_zn57, ec_zn59, ec_zn63, ec_zn101, ec_zn107, ec_zn108, ec_zn110, ec_zn111, ec_zn115, ec_zn116, ec_zn119, ec_zn167, ec_zn185, ec_zn192, ec_zn215, ec_zn233, ec_zn699, ec_zn932, ec_zn999, ec_znF, ec_zneg, ec_zadd, ec_zsub, ec_zmul, ec_zdivO, ec_em, ec_zltO, ec_zeqO, ec_zeq0, ec_qt, ec_qf, if_pos, if_neg, Int.add_zero, ec_aft_v, ec_aft_n, ec_rwE, ec_rwN, ec_rwP, ec_rwK, ec_rwS, ec_w_shpI, ec_w_shpL, ec_w_shpA, hD]
    rfl
  | succ k ih =>
    intro m τ h C R w e7 h0 hm
    have g57 := ec_c57s (T := 66) C.2.2.2.2.2.1.1.1 C.2.2.1 R w (a := a) ha
    have rr := ed_rsn_rg (σ := τ) (a := a)
    have hD := C.b
    rw [show ed_sfl a (σ 7) (k + 1) τ m = if τ 7 = σ 7 ∧ ed_rsn τ a = 0 then ed_sfl a (σ 7) k (ed_turn τ a) (m + ec_q (ed_turn τ a 7 = σ 7)) else m from rfl]
    by_cases q2 : ed_rsn τ a = 0
    · rw [if_pos ⟨e7, q2⟩]
      rw [q2] at g57
      obtain ⟨h1, b1, b2, b3, b4, b5, b6⟩ := ec_c59s (T := 66) (B := 11) (by omega) C.2.2.1 R w C.2.2.2.2.2.1.1 C.2.2.2.2.2.1.2 (a := a) ha q2
      have f1 : ec_fg ed_Ft h h1 := b6.mono (fun q j e => by omega)
      have C1 := C.t f1 b3 b4 b5
      have wt := ed_WF_turn w ha q2
      have tc := (ed_turn_c w ha q2).2
      have w7 := wt.2.1.2.1
      have w7' := C.2.1.2.2.2.1.2.1
      have l1 := b2.1.2.2.2.1
      have l2 := C1.2.1.2.1.1.2.2.2.1
      have hD := And.intro hD C1.b
      by_cases q3 : ed_turn τ a 7 = σ 7
      · rw [ec_qt q3]
        obtain ⟨h2, d1, d2, d3⟩ := ih (m + 1) _ h1 C1 b2 wt q3 (by omega) (by omega)
        refine ⟨h2, ?_, d2, f1.trans d3⟩
        rw [ec_s92_20]
        simp (disch := first | (simp only [ec_w_kI, ec_w_kL, ec_w_kA, ec_w_shpI, ec_w_shpL, ec_w_shpA, ec_isR_r, ec_01z, ec_01o, ec_01q, hD]; done) | omega | (simp only [ec_w_shpI, ec_w_shpL, ec_w_shpA, hD]; refine ec_zinO ?_; omega) | (refine ec_nzO ?_; omega)) only [ec_s92_0, ec_s92_1, ec_s92_2, ec_s92_4, ec_s92_7, ec_s92_8, ec_s92_11, ec_s92_12, ec_s92_15, ec_s92_18, ec_s92_19, ec_s92_21, ec_s92_23, ec_s92_26, ec_s92_27, ec_s92_30, ec_s92_31, ec_s92_34, ec_s92_35, ec_s92_38, ec_s92_41, ec_s92_42, ec_s92_43, ec_s92_44, ec_s92_47, ec_s92_48, ec_s92_51, ec_s92_52, ec_s92_55, ec_s92_56, ec_s92_59, ec_s92_62, ec_s92_63, ec_s92_66, ec_s92_69, ec_s92_72, ec_s92_73, ec_s92_74, ec_s92_77, ec_s92_80, ec_s92_82, ec_zn0, ec_zn1, ec_zn2, ec_zn3, ec_zn4, ec_zn5, ec_zn6, ec_zn7, ec_zn8, ec_zn9, ec_zn10, ec_zn12, ec_zn13, ec_zn14, ec_zn15, ec_zn16, ec_zn20, ec_zn30, ec_zn48, ec_zn99, ec_zn120, ec_zn127, ec_zn11, ec_zn31, ec_zn46, ec_zn57, ec_zn59, ec_zn63, ec_zn101, ec_zn107, ec_zn108, ec_zn110, ec_zn111, ec_zn115, ec_zn116, ec_zn119, ec_zn167, ec_zn185, ec_zn192, ec_zn215, ec_zn233, ec_zn699, ec_zn932, ec_zn999, ec_znF, ec_zneg, ec_zadd, ec_zsub, ec_zmul, ec_zdivO, ec_em, ec_zltO, ec_zeqO, ec_zeq0, ec_qt, ec_qf, if_pos, if_neg, Int.add_zero, ec_aft_v, ec_aft_n, ec_rwE, ec_rwN, ec_rwP, ec_rwK, ec_rwS, ec_w_shpI, ec_w_shpL, ec_w_shpA, hD, g57, b1, l1, l2, d1]
      · rw [ec_qf q3, Int.add_zero, ed_sfl_s q3]
        refine ⟨h1, ?_, C1, f1⟩
        rw [ec_s92_20]
        simp (disch := first | (simp only [ec_w_kI, ec_w_kL, ec_w_kA, ec_w_shpI, ec_w_shpL, ec_w_shpA, ec_isR_r, ec_01z, ec_01o, ec_01q, hD]; done) | omega | (simp only [ec_w_shpI, ec_w_shpL, ec_w_shpA, hD]; refine ec_zinO ?_; omega) | (refine ec_nzO ?_; omega)) only [ec_s92_0, ec_s92_1, ec_s92_2, ec_s92_4, ec_s92_7, ec_s92_8, ec_s92_11, ec_s92_12, ec_s92_15, ec_s92_18, ec_s92_19, ec_s92_21, ec_s92_23, ec_s92_26, ec_s92_27, ec_s92_30, ec_s92_31, ec_s92_34, ec_s92_35, ec_s92_38, ec_s92_41, ec_s92_42, ec_s92_43, ec_s92_44, ec_s92_47, ec_s92_48, ec_s92_51, ec_s92_52, ec_s92_55, ec_s92_56, ec_s92_59, ec_s92_62, ec_s92_63, ec_s92_66, ec_s92_69, ec_s92_72, ec_s92_73, ec_s92_74, ec_s92_77, ec_s92_80, ec_s92_82, ec_zn0, ec_zn1, ec_zn2, ec_zn3, ec_zn4, ec_zn5, ec_zn6, ec_zn7, ec_zn8, ec_zn9, ec_zn10, ec_zn12, ec_zn13, ec_zn14, ec_zn15, ec_zn16, ec_zn20, ec_zn30, ec_zn48, ec_zn99, ec_zn120, ec_zn127, ec_zn11, ec_zn31, ec_zn46, ec_zn57, ec_zn59, ec_zn63, ec_zn101, ec_zn107, ec_zn108, ec_zn110, ec_zn111, ec_zn115, ec_zn116, ec_zn119, ec_zn167, ec_zn185, ec_zn192, ec_zn215, ec_zn233, ec_zn699, ec_zn932, ec_zn999, ec_znF, ec_zneg, ec_zadd, ec_zsub, ec_zmul, ec_zdivO, ec_em, ec_zltO, ec_zeqO, ec_zeq0, ec_qt, ec_qf, if_pos, if_neg, Int.add_zero, ec_aft_v, ec_aft_n, ec_rwE, ec_rwN, ec_rwP, ec_rwK, ec_rwS, ec_w_shpI, ec_w_shpL, ec_w_shpA, hD, g57, b1, l1, l2]
    · rw [if_neg (fun z => q2 z.2)]
      refine ⟨h, ?_, C, ec_fg.refl⟩
      rw [ec_s92_20]
      simp (disch := first | (simp only [ec_w_kI, ec_w_kL, ec_w_kA, ec_w_shpI, ec_w_shpL, ec_w_shpA, ec_isR_r, ec_01z, ec_01o, ec_01q, hD]; done) | omega | (simp only [ec_w_shpI, ec_w_shpL, ec_w_shpA, hD]; refine ec_zinO ?_; omega) | (refine ec_nzO ?_; omega)) only [ec_s92_0, ec_s92_1, ec_s92_2, ec_s92_4, ec_s92_7, ec_s92_8, ec_s92_11, ec_s92_12, ec_s92_15, ec_s92_18, ec_s92_19, ec_s92_21, ec_s92_23, ec_s92_26, ec_s92_27, ec_s92_30, ec_s92_31, ec_s92_34, ec_s92_35, ec_s92_38, ec_s92_41, ec_s92_42, ec_s92_43, ec_s92_44, ec_s92_47, ec_s92_48, ec_s92_51, ec_s92_52, ec_s92_55, ec_s92_56, ec_s92_59, ec_s92_62, ec_s92_63, ec_s92_66, ec_s92_69, ec_s92_72, ec_s92_73, ec_s92_74, ec_s92_77, ec_s92_80, ec_s92_82, ec_zn0, ec_zn1, ec_zn2, ec_zn3, ec_zn4, ec_zn5, ec_zn6, ec_zn7, ec_zn8, ec_zn9, ec_zn10, ec_zn12, ec_zn13, ec_zn14, ec_zn15, ec_zn16, ec_zn20, ec_zn30, ec_zn48, ec_zn99, ec_zn120, ec_zn127, ec_zn11, ec_zn31, ec_zn46, ec_zn57, ec_zn59, ec_zn63, ec_zn101, ec_zn107, ec_zn108, ec_zn110, ec_zn111, ec_zn115, ec_zn116, ec_zn119, ec_zn167, ec_zn185, ec_zn192, ec_zn215, ec_zn233, ec_zn699, ec_zn932, ec_zn999, ec_znF, ec_zneg, ec_zadd, ec_zsub, ec_zmul, ec_zdivO, ec_em, ec_zltO, ec_zeqO, ec_zeq0, ec_qt, ec_qf, if_pos, if_neg, Int.add_zero, ec_aft_v, ec_aft_n, ec_rwE, ec_rwN, ec_rwP, ec_rwK, ec_rwS, ec_w_shpI, ec_w_shpL, ec_w_shpA, hD, g57]
variable {h : ec_Hp}
theorem ec_c92s (C : ed_CL h σ n p L T) {a : Int} (ra : ec_rg a) :
    (ed_kRs a = 0 → ed_Cn 92 [.ref 0, .int (ec_i a), .double 0] h (ed_saf σ a) σ n p L T) ∧
    (ed_kRs a ≠ 0 → ed_Cx 92 [.ref 0, .int (ec_i a), .double 0] h (ed_x2 (ed_kRs a))) := by
  have g5 := fun h => ec_c111s (h := h) ra ec_rn0 ec_rn15
  have x0 : ec_nth [] ec_ht 92 = [] := rfl
  have hD := And.intro C.b x0
  unfold ed_kRs
  by_cases q1 : 0 ≤ a ∧ a ≤ 15
  · rw [if_pos q1]
    refine ⟨fun _ => ?_, fun e => absurd rfl e⟩
    obtain ⟨h1, a1, a2, a3, a4⟩ := ec_c14s (A := 11) (B := 1) (by omega) C.2.2.1 C.2.1.1 C.2.1.2.1 C.2.1.2.2
    have f1 : ec_fg ed_Ft h h1 := a4.mono (fun q j e => by omega)
    have C1 := C.t f1 a3 (C.2.2.2.2.2.1.1.fg a4) (C.2.2.2.2.2.1.2.fg a4 (fun q j x y z => by omega))
    obtain ⟨h2, b1, b2, b3⟩ := ec_c92L (a := a) (by omega) 30 0 σ h1 C1 a2 C.2.1.2.2 rfl (by omega) (by omega)
    refine ⟨h2, ?_, b2, (f1.trans b3).mono (fun q j e => by omega)⟩
    have hD := And.intro hD C1.b
    rw [show ed_sfl a (σ 7) 30 σ 0 = ed_saf σ a from rfl] at b1
    simp (disch := first | (simp only [ec_w_kI, ec_w_kL, ec_w_kA, ec_w_shpI, ec_w_shpL, ec_w_shpA, ec_isR_r, ec_01z, ec_01o, ec_01q, hD]; done) | omega | (simp only [ec_w_shpI, ec_w_shpL, ec_w_shpA, hD]; refine ec_zinO ?_; omega) | (refine ec_nzO ?_; omega)) only [ec_s92_0, ec_s92_1, ec_s92_2, ec_s92_4, ec_s92_7, ec_s92_8, ec_s92_11, ec_s92_12, ec_s92_15, ec_s92_18, ec_s92_19, ec_s92_21, ec_s92_23, ec_s92_26, ec_s92_27, ec_s92_30, ec_s92_31, ec_s92_34, ec_s92_35, ec_s92_38, ec_s92_41, ec_s92_42, ec_s92_43, ec_s92_44, ec_s92_47, ec_s92_48, ec_s92_51, ec_s92_52, ec_s92_55, ec_s92_56, ec_s92_59, ec_s92_62, ec_s92_63, ec_s92_66, ec_s92_69, ec_s92_72, ec_s92_73, ec_s92_74, ec_s92_77, ec_s92_80, ec_s92_82, ec_zn0, ec_zn1, ec_zn2, ec_zn3, ec_zn4, ec_zn5, ec_zn6, ec_zn7, ec_zn8, ec_zn9, ec_zn10, ec_zn12, ec_zn13, ec_zn14, ec_zn15, ec_zn16, ec_zn20, ec_zn30, ec_zn48, ec_zn99, ec_zn120, ec_zn127, ec_zn11, ec_zn31, ec_zn46, ec_zn57, ec_zn59, ec_zn63, ec_zn101, ec_zn107, ec_zn108, ec_zn110, ec_zn111, ec_zn115, ec_zn116, ec_zn119, ec_zn167, ec_zn185, ec_zn192, ec_zn215, ec_zn233, ec_zn699, ec_zn932, ec_zn999, ec_znF, ec_zneg, ec_zadd, ec_zsub, ec_zmul, ec_zdivO, ec_em, ec_zltO, ec_zeqO, ec_zeq0, ec_qt, ec_qf, if_pos, if_neg, Int.add_zero, ec_aft_v, ec_aft_n, ec_rwE, ec_rwN, ec_rwP, ec_rwK, ec_rwS, ec_w_shpI, ec_w_shpL, ec_w_shpA, hD, g5, a1, b1]
  · rw [if_neg q1]
    refine ⟨fun e => absurd e (by decide), fun _ => ?_⟩
    show ec_om 92 0 _ [] h = some (.inr 0, ec_thw h)
    simp (disch := first | (simp only [ec_w_kI, ec_w_kL, ec_w_kA, ec_w_shpI, ec_w_shpL, ec_w_shpA, ec_isR_r, ec_01z, ec_01o, ec_01q, hD]; done) | omega | (simp only [ec_w_shpI, ec_w_shpL, ec_w_shpA, hD]; refine ec_zinO ?_; omega) | (refine ec_nzO ?_; omega)) only [ec_s92_0, ec_s92_1, ec_s92_2, ec_s92_4, ec_s92_7, ec_s92_8, ec_s92_11, ec_s92_12, ec_s92_15, ec_s92_18, ec_s92_19, ec_s92_21, ec_s92_23, ec_s92_26, ec_s92_27, ec_s92_30, ec_s92_31, ec_s92_34, ec_s92_35, ec_s92_38, ec_s92_41, ec_s92_42, ec_s92_43, ec_s92_44, ec_s92_47, ec_s92_48, ec_s92_51, ec_s92_52, ec_s92_55, ec_s92_56, ec_s92_59, ec_s92_62, ec_s92_63, ec_s92_66, ec_s92_69, ec_s92_72, ec_s92_73, ec_s92_74, ec_s92_77, ec_s92_80, ec_s92_82, ec_zn0, ec_zn1, ec_zn2, ec_zn3, ec_zn4, ec_zn5, ec_zn6, ec_zn7, ec_zn8, ec_zn9, ec_zn10, ec_zn12, ec_zn13, ec_zn14, ec_zn15, ec_zn16, ec_zn20, ec_zn30, ec_zn48, ec_zn99, ec_zn120, ec_zn127, ec_zn11, ec_zn31, ec_zn46, ec_zn57, ec_zn59, ec_zn63, ec_zn101, ec_zn107, ec_zn108, ec_zn110, ec_zn111, ec_zn115, ec_zn116, ec_zn119, ec_zn167, ec_zn185, ec_zn192, ec_zn215, ec_zn233, ec_zn699, ec_zn932, ec_zn999, ec_znF, ec_zneg, ec_zadd, ec_zsub, ec_zmul, ec_zdivO, ec_em, ec_zltO, ec_zeqO, ec_zeq0, ec_qt, ec_qf, if_pos, if_neg, Int.add_zero, ec_aft_v, ec_aft_n, ec_rwE, ec_rwN, ec_rwP, ec_rwK, ec_rwS, ec_w_shpI, ec_w_shpL, ec_w_shpA, hD, g5, ec_aft_x]
end EDO
