/-! The class's face: what if. -/
theorem ed_snd_ct {σ : ec_Sg} (w : ec_WF σ) {g z : Int} (hg : ec_ing σ g) (hz : ec_ing σ z) : ec_ct (ed_lb σ 2 g) z = ed_lb σ 2 g z.toNat := by
  have f := ed_snd_fin w hg hz
  have zz := hz.1
  unfold ec_ct
  rw [if_pos ⟨zz, by omega⟩]
section EDN
variable {h : ec_Hp} {σ : ec_Sg} {n : Int} {p : Int → ec_Sg} {L : Int} {T : Int → Int}
/-- a measure by the class's senses -/
theorem ed_CL.meas (C : ed_CL h σ n p L T) {m g : Int} (hm : 0 ≤ m ∧ m ≤ 2) (hg : 0 ≤ g ∧ g < 48) : ∃ (h' : ec_Hp) (nw : Nat → Bool) (t : Int), ec_om 35 0 [.ref 63, .ref 1, .int (ec_i g), .int (ec_i m)] [] h = some (.inl none, h') ∧ ec_SN h' 63 ∧ ec_SS h' 63 (ed_lb σ m g) nw t ∧ ed_CL h' σ n p L T ∧ ec_fg ed_Fc h h' := by
  obtain ⟨h1, nw, t, a1, a2, a3, a4⟩ := ec_c35s (p := 63) (B := 1) (by omega) C.2.1.1 C.2.1.2.1 C.2.1.2.2 C.2.2.2.2.1 hm hg
  exact ⟨h1, nw, t, a1, a3, a4, C.e a2.g ⟨a3, _, nw, t, a4⟩, a2.g.mono (fun q j e => by omega)⟩
theorem ec_c88s (C : ed_CL h σ n p L T) {x y u v : Int} (rx : ec_rg x) (ry : ec_rg y) (ru : ec_rg u) (rv : ec_rg v) :
    (ed_kSc σ x y u v = 0 → ed_Cn 88 [.ref 0, .int (ec_i x), .int (ec_i y), .int (ec_i u), .int (ec_i v)] h (ed_lb σ 2 (8 * y + x) (8 * v + u).toNat) σ n p L T) ∧
    (ed_kSc σ x y u v ≠ 0 → ed_Cx 88 [.ref 0, .int (ec_i x), .int (ec_i y), .int (ec_i u), .int (ec_i v)] h 2) := by
  have g1 := ec_c107s C rx ry
  have g2 := ec_c107s C ru rv
  have g12 := fun h x y => ec_c112s (h := h) (x := x) (y := y)
  have x0 : ec_nth [] ec_ht 88 = [] := rfl
  have hD := And.intro C.b x0
  have w := C.2.1.2.2
  unfold ed_kSc
  by_cases q1 : ed_qc σ x y
  · have zi := ed_qc_in w q1
    rw [if_pos q1] at g1
    by_cases q2 : ed_qc σ u v
    · have zj := ed_qc_in w q2
      rw [if_pos q2] at g2
      rw [if_pos (show ed_qc σ x y ∧ ed_qc σ u v from ⟨q1, q2⟩)]
      refine ⟨fun _ => ?_, fun e => absurd rfl e⟩
      obtain ⟨h1, nw, t, a1, a2, a3, a4, a5⟩ := C.meas (m := 2) (g := 8 * y + x) (by omega) zi.1
      refine ⟨h1, ?_, a4, a5⟩
      have c36 := ec_c36 (z := 8 * v + u) a2 a3 (ec_rgs (by have := zj.1; omega))
      rw [ed_snd_ct w zi zj] at c36
      have hD := And.intro hD a4.b
      simp (disch := first | (simp only [ec_w_kI, ec_w_kL, ec_w_kA, ec_w_shpI, ec_w_shpL, ec_w_shpA, ec_isR_r, ec_01z, ec_01o, ec_01q, hD]; done) | omega | (simp only [ec_w_shpI, ec_w_shpL, ec_w_shpA, hD]; refine ec_zinO ?_; omega) | (refine ec_nzO ?_; omega)) only [ec_s88_0, ec_s88_1, ec_s88_2, ec_s88_3, ec_s88_6, ec_s88_7, ec_s88_8, ec_s88_10, ec_s88_13, ec_s88_14, ec_s88_17, ec_s88_18, ec_s88_21, ec_s88_22, ec_s88_23, ec_s88_26, ec_s88_27, ec_s88_30, ec_s88_31, ec_s88_34, ec_s88_35, ec_s88_37, ec_s88_40, ec_s88_43, ec_zn0, ec_zn1, ec_zn2, ec_zn3, ec_zn4, ec_zn5, ec_zn6, ec_zn7, ec_zn8, ec_zn9, ec_zn10, ec_zn12, ec_zn13, ec_zn14, ec_zn15, ec_zn16, ec_zn20, ec_zn30, ec_zn48, ec_zn99, ec_zn120, ec_zn127, ec_zn11, ec_zn31, ec_zn46, ec_zn57, ec_zn59, ec_zn63, ec_zn101, ec_zn107, ec_zn108, ec_zn110, ec_zn111, ec_zn115, ec_zn116, ec_zn119, ec_zn167, ec_zn185, ec_zn192, ec_zn215, ec_zn233, ec_zn699, ec_zn932, ec_zn999, ec_znF, ec_zneg, ec_zadd, ec_zsub, ec_zmul, ec_zdivO, ec_em, ec_zltO, ec_zeqO, ec_zeq0, ec_qt, ec_qf, if_pos, if_neg, Int.add_zero, ec_aft_v, ec_aft_n, ec_rwE, ec_rwN, ec_rwP, ec_rwK, ec_rwS, ec_w_shpI, ec_w_shpL, ec_w_shpA, hD, g1, g2, g12, a1, c36]
    · rw [if_neg q2] at g2
      rw [if_neg (fun z : ed_qc σ x y ∧ ed_qc σ u v => q2 z.2)]
      refine ⟨fun e => absurd e (by decide), fun _ => ?_⟩
      unfold ed_Cx
      simp (disch := first | (simp only [ec_w_kI, ec_w_kL, ec_w_kA, ec_w_shpI, ec_w_shpL, ec_w_shpA, ec_isR_r, ec_01z, ec_01o, ec_01q, hD]; done) | omega | (simp only [ec_w_shpI, ec_w_shpL, ec_w_shpA, hD]; refine ec_zinO ?_; omega) | (refine ec_nzO ?_; omega)) only [ec_s88_0, ec_s88_1, ec_s88_2, ec_s88_3, ec_s88_6, ec_s88_7, ec_s88_8, ec_s88_10, ec_s88_13, ec_s88_14, ec_s88_17, ec_s88_18, ec_s88_21, ec_s88_22, ec_s88_23, ec_s88_26, ec_s88_27, ec_s88_30, ec_s88_31, ec_s88_34, ec_s88_35, ec_s88_37, ec_s88_40, ec_s88_43, ec_zn0, ec_zn1, ec_zn2, ec_zn3, ec_zn4, ec_zn5, ec_zn6, ec_zn7, ec_zn8, ec_zn9, ec_zn10, ec_zn12, ec_zn13, ec_zn14, ec_zn15, ec_zn16, ec_zn20, ec_zn30, ec_zn48, ec_zn99, ec_zn120, ec_zn127, ec_zn11, ec_zn31, ec_zn46, ec_zn57, ec_zn59, ec_zn63, ec_zn101, ec_zn107, ec_zn108, ec_zn110, ec_zn111, ec_zn115, ec_zn116, ec_zn119, ec_zn167, ec_zn185, ec_zn192, ec_zn215, ec_zn233, ec_zn699, ec_zn932, ec_zn999, ec_znF, ec_zneg, ec_zadd, ec_zsub, ec_zmul, ec_zdivO, ec_em, ec_zltO, ec_zeqO, ec_zeq0, ec_qt, ec_qf, if_pos, if_neg, Int.add_zero, ec_aft_v, ec_aft_n, ec_rwE, ec_rwN, ec_rwP, ec_rwK, ec_rwS, ec_w_shpI, ec_w_shpL, ec_w_shpA, hD, g1, g2, ec_aft_x]
  · rw [if_neg q1] at g1
    rw [if_neg (fun z : ed_qc σ x y ∧ ed_qc σ u v => q1 z.1)]
    refine ⟨fun e => absurd e (by decide), fun _ => ?_⟩
    unfold ed_Cx
    simp (disch := first | (simp only [ec_w_kI, ec_w_kL, ec_w_kA, ec_w_shpI, ec_w_shpL, ec_w_shpA, ec_isR_r, ec_01z, ec_01o, ec_01q, hD]; done) | omega | (simp only [ec_w_shpI, ec_w_shpL, ec_w_shpA, hD]; refine ec_zinO ?_; omega) | (refine ec_nzO ?_; omega)) only [ec_s88_0, ec_s88_1, ec_s88_2, ec_s88_3, ec_s88_6, ec_s88_7, ec_s88_8, ec_s88_10, ec_s88_13, ec_s88_14, ec_s88_17, ec_s88_18, ec_s88_21, ec_s88_22, ec_s88_23, ec_s88_26, ec_s88_27, ec_s88_30, ec_s88_31, ec_s88_34, ec_s88_35, ec_s88_37, ec_s88_40, ec_s88_43, ec_zn0, ec_zn1, ec_zn2, ec_zn3, ec_zn4, ec_zn5, ec_zn6, ec_zn7, ec_zn8, ec_zn9, ec_zn10, ec_zn12, ec_zn13, ec_zn14, ec_zn15, ec_zn16, ec_zn20, ec_zn30, ec_zn48, ec_zn99, ec_zn120, ec_zn127, ec_zn11, ec_zn31, ec_zn46, ec_zn57, ec_zn59, ec_zn63, ec_zn101, ec_zn107, ec_zn108, ec_zn110, ec_zn111, ec_zn115, ec_zn116, ec_zn119, ec_zn167, ec_zn185, ec_zn192, ec_zn215, ec_zn233, ec_zn699, ec_zn932, ec_zn999, ec_znF, ec_zneg, ec_zadd, ec_zsub, ec_zmul, ec_zdivO, ec_em, ec_zltO, ec_zeqO, ec_zeq0, ec_qt, ec_qf, if_pos, if_neg, Int.add_zero, ec_aft_v, ec_aft_n, ec_rwE, ec_rwN, ec_rwP, ec_rwK, ec_rwS, ec_w_shpI, ec_w_shpL, ec_w_shpA, hD, g1, ec_aft_x]
theorem ec_c89L (C : ed_CL h σ n p L T) {g l : Int} {nw : Nat → Bool} {t : Int} {v1 v2 : Value} (hg : ec_ing σ g) (hl : 0 ≤ l ∧ l ≤ 99) (hS : ec_SN h 63) (hs : ec_SS h 63 (ed_lb σ 2 g) nw t) : ∀ (n : Nat) (k : Int) (x : Int32), 0 ≤ k → k + n = σ 4 →
    ec_om 89 36 [.ref 0, v1, v2, .int (ec_i l), .int x, .int (ec_i k)] [] h = some (.inl (some (.int (ed_hrs σ g l n k x))), h) := by
  have w := C.2.1.2.2
  have w1 := w.1
  have r := C.2.1.2.1.2.1.2.2.1
  have hD := C.b
  intro n
  induction n with
  | zero =>
    intro k x h0 hk
    have hk : k = σ 4 := by omega
    rw [ec_s89_36]
    simp (disch := first | (simp only [ec_w_kI, ec_w_kL, ec_w_kA, ec_w_shpI, ec_w_shpL, ec_w_shpA, ec_isR_r, ec_01z, ec_01o, ec_01q, hD]; done) | omega | (simp only [ec_w_shpI, ec_w_shpL, ec_w_shpA, hD]; refine ec_zinO ?_; omega) | (refine ec_nzO ?_; omega)) only [ec_s89_0, ec_s89_1, ec_s89_2, ec_s89_3, ec_s89_6, ec_s89_7, ec_s89_8, ec_s89_10, ec_s89_13, ec_s89_14, ec_s89_17, ec_s89_18, ec_s89_21, ec_s89_22, ec_s89_23, ec_s89_26, ec_s89_27, ec_s89_30, ec_s89_31, ec_s89_33, ec_s89_34, ec_s89_38, ec_s89_39, ec_s89_42, ec_s89_45, ec_s89_48, ec_s89_51, ec_s89_52, ec_s89_53, ec_s89_56, ec_s89_57, ec_s89_60, ec_s89_62, ec_s89_65, ec_s89_68, ec_s89_70, ec_s89_71, ec_s89_73, ec_s89_74, ec_s89_75, ec_s89_77, ec_s89_80, ec_s89_83, ec_s89_85, ec_zn0, ec_zn1, ec_zn2, ec_zn3, ec_zn4, ec_zn5, ec_zn6, ec_zn7, ec_zn8, ec_zn9, ec_zn10, ec_zn12, ec_zn13, ec_zn14, ec_zn15, ec_zn16, ec_zn20, ec_zn30, ec_zn48, ec_zn99, ec_zn120, ec_zn127, ec_zn11, ec_zn31, ec_zn46, ec_zn57, ec_zn59, ec_zn63, ec_zn101, ec_zn107, ec_zn108, ec_zn110, ec_zn111, ec_zn115, ec_zn116, ec_zn119, ec_zn167, ec_zn185, ec_zn192, ec_zn215, ec_zn233, ec_zn699, ec_zn932, ec_zn999, ec_znF, ec_zneg, ec_zadd, ec_zsub, ec_zmul, ec_zdivO, ec_em, ec_zltO, ec_zeqO, ec_zeq0, ec_qt, ec_qf, if_pos, if_neg, Int.add_zero, ec_aft_v, ec_aft_n, ec_rwE, ec_rwN, ec_rwP, ec_rwK, ec_rwS, ec_w_shpI, ec_w_shpL, ec_w_shpA, hD, r]
    rfl
  | succ n ih =>
    intro k x h0 hk
    have D := ed_mon w (m := k) (by omega)
    have f := ed_snd_fin w hg D.1
    have lb := ed_lb_bd w (m := 2) hg.1 (k := (σ (185 + 5 * k)).toNat) (by have := D.1.1; omega)
    have g37 := ec_c37s C.2.1.1 C.2.1.2.1 w (m := k) (by omega) hg hS hs
    rw [show ed_hrs σ g l (n + 1) k x = ed_hrs σ g l n (k + 1) (if σ (185 + 5 * k + 1) ≤ l - ed_lb σ 2 g (σ (185 + 5 * k)).toNat then x ||| ed_bit k else x) from rfl]
    have e1 := ih (k + 1) (if σ (185 + 5 * k + 1) ≤ l - ed_lb σ 2 g (σ (185 + 5 * k)).toNat then x ||| ed_bit k else x) (by omega) (by omega)
    rw [ec_s89_36]
    by_cases q : σ (185 + 5 * k + 1) ≤ l - ed_lb σ 2 g (σ (185 + 5 * k)).toNat
    · rw [if_pos q] at e1 ⊢
      unfold ed_bit at e1 ⊢
      simp (disch := first | (simp only [ec_w_kI, ec_w_kL, ec_w_kA, ec_w_shpI, ec_w_shpL, ec_w_shpA, ec_isR_r, ec_01z, ec_01o, ec_01q, hD]; done) | omega | (simp only [ec_w_shpI, ec_w_shpL, ec_w_shpA, hD]; refine ec_zinO ?_; omega) | (refine ec_nzO ?_; omega)) only [ec_s89_0, ec_s89_1, ec_s89_2, ec_s89_3, ec_s89_6, ec_s89_7, ec_s89_8, ec_s89_10, ec_s89_13, ec_s89_14, ec_s89_17, ec_s89_18, ec_s89_21, ec_s89_22, ec_s89_23, ec_s89_26, ec_s89_27, ec_s89_30, ec_s89_31, ec_s89_33, ec_s89_34, ec_s89_38, ec_s89_39, ec_s89_42, ec_s89_45, ec_s89_48, ec_s89_51, ec_s89_52, ec_s89_53, ec_s89_56, ec_s89_57, ec_s89_60, ec_s89_62, ec_s89_65, ec_s89_68, ec_s89_70, ec_s89_71, ec_s89_73, ec_s89_74, ec_s89_75, ec_s89_77, ec_s89_80, ec_s89_83, ec_s89_85, ec_zn0, ec_zn1, ec_zn2, ec_zn3, ec_zn4, ec_zn5, ec_zn6, ec_zn7, ec_zn8, ec_zn9, ec_zn10, ec_zn12, ec_zn13, ec_zn14, ec_zn15, ec_zn16, ec_zn20, ec_zn30, ec_zn48, ec_zn99, ec_zn120, ec_zn127, ec_zn11, ec_zn31, ec_zn46, ec_zn57, ec_zn59, ec_zn63, ec_zn101, ec_zn107, ec_zn108, ec_zn110, ec_zn111, ec_zn115, ec_zn116, ec_zn119, ec_zn167, ec_zn185, ec_zn192, ec_zn215, ec_zn233, ec_zn699, ec_zn932, ec_zn999, ec_znF, ec_zneg, ec_zadd, ec_zsub, ec_zmul, ec_zdivO, ec_em, ec_zltO, ec_zeqO, ec_zeq0, ec_qt, ec_qf, if_pos, if_neg, Int.add_zero, ec_aft_v, ec_aft_n, ec_rwE, ec_rwN, ec_rwP, ec_rwK, ec_rwS, ec_w_shpI, ec_w_shpL, ec_w_shpA, hD, r, g37, e1]
    · rw [if_neg q] at e1 ⊢
      simp (disch := first | (simp only [ec_w_kI, ec_w_kL, ec_w_kA, ec_w_shpI, ec_w_shpL, ec_w_shpA, ec_isR_r, ec_01z, ec_01o, ec_01q, hD]; done) | omega | (simp only [ec_w_shpI, ec_w_shpL, ec_w_shpA, hD]; refine ec_zinO ?_; omega) | (refine ec_nzO ?_; omega)) only [ec_s89_0, ec_s89_1, ec_s89_2, ec_s89_3, ec_s89_6, ec_s89_7, ec_s89_8, ec_s89_10, ec_s89_13, ec_s89_14, ec_s89_17, ec_s89_18, ec_s89_21, ec_s89_22, ec_s89_23, ec_s89_26, ec_s89_27, ec_s89_30, ec_s89_31, ec_s89_33, ec_s89_34, ec_s89_38, ec_s89_39, ec_s89_42, ec_s89_45, ec_s89_48, ec_s89_51, ec_s89_52, ec_s89_53, ec_s89_56, ec_s89_57, ec_s89_60, ec_s89_62, ec_s89_65, ec_s89_68, ec_s89_70, ec_s89_71, ec_s89_73, ec_s89_74, ec_s89_75, ec_s89_77, ec_s89_80, ec_s89_83, ec_s89_85, ec_zn0, ec_zn1, ec_zn2, ec_zn3, ec_zn4, ec_zn5, ec_zn6, ec_zn7, ec_zn8, ec_zn9, ec_zn10, ec_zn12, ec_zn13, ec_zn14, ec_zn15, ec_zn16, ec_zn20, ec_zn30, ec_zn48, ec_zn99, ec_zn120, ec_zn127, ec_zn11, ec_zn31, ec_zn46, ec_zn57, ec_zn59, ec_zn63, ec_zn101, ec_zn107, ec_zn108, ec_zn110, ec_zn111, ec_zn115, ec_zn116, ec_zn119, ec_zn167, ec_zn185, ec_zn192, ec_zn215, ec_zn233, ec_zn699, ec_zn932, ec_zn999, ec_znF, ec_zneg, ec_zadd, ec_zsub, ec_zmul, ec_zdivO, ec_em, ec_zltO, ec_zeqO, ec_zeq0, ec_qt, ec_qf, if_pos, if_neg, Int.add_zero, ec_aft_v, ec_aft_n, ec_rwE, ec_rwN, ec_rwP, ec_rwK, ec_rwS, ec_w_shpI, ec_w_shpL, ec_w_shpA, hD, r, g37, e1]
theorem ec_c89s (C : ed_CL h σ n p L T) {x y l : Int} (rx : ec_rg x) (ry : ec_rg y) (rl : ec_rg l) :
    (ed_kHe σ x y l = 0 → ed_Cn 89 [.ref 0, .int (ec_i x), .int (ec_i y), .int (ec_i l), .double 0, .double 0] h (ed_hrs σ (8 * y + x) l (σ 4).toNat 0 (ec_i 0)).toInt σ n p L T) ∧
    (ed_kHe σ x y l ≠ 0 → ed_Cx 89 [.ref 0, .int (ec_i x), .int (ec_i y), .int (ec_i l), .double 0, .double 0] h (ed_x3 (ed_kHe σ x y l))) := by
  have g1 := ec_c107s C rx ry
  have g12 := fun h => ec_c112s (h := h) (x := x) (y := y)
  have g5 := fun h => ec_c111s (h := h) rl ec_rn0 ec_rn99
  have x0 : ec_nth [] ec_ht 89 = [] := rfl
  have hD := And.intro C.b x0
  have w := C.2.1.2.2
  have w1 := w.1
  unfold ed_kHe
  by_cases q1 : ed_qc σ x y
  · have zi := ed_qc_in w q1
    rw [if_pos q1] at g1
    rw [if_pos q1]
    by_cases q2 : 0 ≤ l ∧ l ≤ 99
    · rw [if_pos q2]
      refine ⟨fun _ => ?_, fun e => absurd rfl e⟩
      obtain ⟨h1, nw, t, a1, a2, a3, a4, a5⟩ := C.meas (m := 2) (g := 8 * y + x) (by omega) zi.1
      refine ⟨h1, ?_, a4, a5⟩
      have e1 := ec_c89L (v1 := .int (ec_i x)) (v2 := .int (ec_i y)) a4 zi q2 a2 a3 (σ 4).toNat 0 (ec_i 0) (by omega) (by omega)
      have hD := And.intro hD a4.b
      rw [ec_zI]
      simp (disch := first | (simp only [ec_w_kI, ec_w_kL, ec_w_kA, ec_w_shpI, ec_w_shpL, ec_w_shpA, ec_isR_r, ec_01z, ec_01o, ec_01q, hD]; done) | omega | (simp only [ec_w_shpI, ec_w_shpL, ec_w_shpA, hD]; refine ec_zinO ?_; omega) | (refine ec_nzO ?_; omega)) only [ec_s89_0, ec_s89_1, ec_s89_2, ec_s89_3, ec_s89_6, ec_s89_7, ec_s89_8, ec_s89_10, ec_s89_13, ec_s89_14, ec_s89_17, ec_s89_18, ec_s89_21, ec_s89_22, ec_s89_23, ec_s89_26, ec_s89_27, ec_s89_30, ec_s89_31, ec_s89_33, ec_s89_34, ec_s89_38, ec_s89_39, ec_s89_42, ec_s89_45, ec_s89_48, ec_s89_51, ec_s89_52, ec_s89_53, ec_s89_56, ec_s89_57, ec_s89_60, ec_s89_62, ec_s89_65, ec_s89_68, ec_s89_70, ec_s89_71, ec_s89_73, ec_s89_74, ec_s89_75, ec_s89_77, ec_s89_80, ec_s89_83, ec_s89_85, ec_zn0, ec_zn1, ec_zn2, ec_zn3, ec_zn4, ec_zn5, ec_zn6, ec_zn7, ec_zn8, ec_zn9, ec_zn10, ec_zn12, ec_zn13, ec_zn14, ec_zn15, ec_zn16, ec_zn20, ec_zn30, ec_zn48, ec_zn99, ec_zn120, ec_zn127, ec_zn11, ec_zn31, ec_zn46, ec_zn57, ec_zn59, ec_zn63, ec_zn101, ec_zn107, ec_zn108, ec_zn110, ec_zn111, ec_zn115, ec_zn116, ec_zn119, ec_zn167, ec_zn185, ec_zn192, ec_zn215, ec_zn233, ec_zn699, ec_zn932, ec_zn999, ec_znF, ec_zneg, ec_zadd, ec_zsub, ec_zmul, ec_zdivO, ec_em, ec_zltO, ec_zeqO, ec_zeq0, ec_qt, ec_qf, if_pos, if_neg, Int.add_zero, ec_aft_v, ec_aft_n, ec_rwE, ec_rwN, ec_rwP, ec_rwK, ec_rwS, ec_w_shpI, ec_w_shpL, ec_w_shpA, hD, g1, g5, g12, a1, e1]
    · rw [if_neg q2]
      refine ⟨fun e => absurd e (by decide), fun _ => ?_⟩
      show ec_om 89 0 _ [] h = some (.inr 0, ec_thw h)
      simp (disch := first | (simp only [ec_w_kI, ec_w_kL, ec_w_kA, ec_w_shpI, ec_w_shpL, ec_w_shpA, ec_isR_r, ec_01z, ec_01o, ec_01q, hD]; done) | omega | (simp only [ec_w_shpI, ec_w_shpL, ec_w_shpA, hD]; refine ec_zinO ?_; omega) | (refine ec_nzO ?_; omega)) only [ec_s89_0, ec_s89_1, ec_s89_2, ec_s89_3, ec_s89_6, ec_s89_7, ec_s89_8, ec_s89_10, ec_s89_13, ec_s89_14, ec_s89_17, ec_s89_18, ec_s89_21, ec_s89_22, ec_s89_23, ec_s89_26, ec_s89_27, ec_s89_30, ec_s89_31, ec_s89_33, ec_s89_34, ec_s89_38, ec_s89_39, ec_s89_42, ec_s89_45, ec_s89_48, ec_s89_51, ec_s89_52, ec_s89_53, ec_s89_56, ec_s89_57, ec_s89_60, ec_s89_62, ec_s89_65, ec_s89_68, ec_s89_70, ec_s89_71, ec_s89_73, ec_s89_74, ec_s89_75, ec_s89_77, ec_s89_80, ec_s89_83, ec_s89_85, ec_zn0, ec_zn1, ec_zn2, ec_zn3, ec_zn4, ec_zn5, ec_zn6, ec_zn7, ec_zn8, ec_zn9, ec_zn10, ec_zn12, ec_zn13, ec_zn14, ec_zn15, ec_zn16, ec_zn20, ec_zn30, ec_zn48, ec_zn99, ec_zn120, ec_zn127, ec_zn11, ec_zn31, ec_zn46, ec_zn57, ec_zn59, ec_zn63, ec_zn101, ec_zn107, ec_zn108, ec_zn110, ec_zn111, ec_zn115, ec_zn116, ec_zn119, ec_zn167, ec_zn185, ec_zn192, ec_zn215, ec_zn233, ec_zn699, ec_zn932, ec_zn999, ec_znF, ec_zneg, ec_zadd, ec_zsub, ec_zmul, ec_zdivO, ec_em, ec_zltO, ec_zeqO, ec_zeq0, ec_qt, ec_qf, if_pos, if_neg, Int.add_zero, ec_aft_v, ec_aft_n, ec_rwE, ec_rwN, ec_rwP, ec_rwK, ec_rwS, ec_w_shpI, ec_w_shpL, ec_w_shpA, hD, g1, g5, ec_aft_x]
  · rw [if_neg q1] at g1
    rw [if_neg q1]
    refine ⟨fun e => absurd e (by decide), fun _ => ?_⟩
    show ec_om 89 0 _ [] h = some (.inr 2, ec_thw h)
    simp (disch := first | (simp only [ec_w_kI, ec_w_kL, ec_w_kA, ec_w_shpI, ec_w_shpL, ec_w_shpA, ec_isR_r, ec_01z, ec_01o, ec_01q, hD]; done) | omega | (simp only [ec_w_shpI, ec_w_shpL, ec_w_shpA, hD]; refine ec_zinO ?_; omega) | (refine ec_nzO ?_; omega)) only [ec_s89_0, ec_s89_1, ec_s89_2, ec_s89_3, ec_s89_6, ec_s89_7, ec_s89_8, ec_s89_10, ec_s89_13, ec_s89_14, ec_s89_17, ec_s89_18, ec_s89_21, ec_s89_22, ec_s89_23, ec_s89_26, ec_s89_27, ec_s89_30, ec_s89_31, ec_s89_33, ec_s89_34, ec_s89_38, ec_s89_39, ec_s89_42, ec_s89_45, ec_s89_48, ec_s89_51, ec_s89_52, ec_s89_53, ec_s89_56, ec_s89_57, ec_s89_60, ec_s89_62, ec_s89_65, ec_s89_68, ec_s89_70, ec_s89_71, ec_s89_73, ec_s89_74, ec_s89_75, ec_s89_77, ec_s89_80, ec_s89_83, ec_s89_85, ec_zn0, ec_zn1, ec_zn2, ec_zn3, ec_zn4, ec_zn5, ec_zn6, ec_zn7, ec_zn8, ec_zn9, ec_zn10, ec_zn12, ec_zn13, ec_zn14, ec_zn15, ec_zn16, ec_zn20, ec_zn30, ec_zn48, ec_zn99, ec_zn120, ec_zn127, ec_zn11, ec_zn31, ec_zn46, ec_zn57, ec_zn59, ec_zn63, ec_zn101, ec_zn107, ec_zn108, ec_zn110, ec_zn111, ec_zn115, ec_zn116, ec_zn119, ec_zn167, ec_zn185, ec_zn192, ec_zn215, ec_zn233, ec_zn699, ec_zn932, ec_zn999, ec_znF, ec_zneg, ec_zadd, ec_zsub, ec_zmul, ec_zdivO, ec_em, ec_zltO, ec_zeqO, ec_zeq0, ec_qt, ec_qf, if_pos, if_neg, Int.add_zero, ec_aft_v, ec_aft_n, ec_rwE, ec_rwN, ec_rwP, ec_rwK, ec_rwS, ec_w_shpI, ec_w_shpL, ec_w_shpA, hD, g1, ec_aft_x]
theorem ec_c90s (C : ed_CL h σ n p L T) {m x y : Int} (rm : ec_rg m) (rx : ec_rg x) (ry : ec_rg y) :
    (ed_kWy σ m x y = 0 → ed_Cn 90 [.ref 0, .int (ec_i m), .int (ec_i x), .int (ec_i y)] h (ec_ct (ed_lb σ (σ (185 + 5 * m + 2)) (8 * y + x)) (σ (185 + 5 * m))) σ n p L T) ∧
    (ed_kWy σ m x y ≠ 0 → ed_Cx 90 [.ref 0, .int (ec_i m), .int (ec_i x), .int (ec_i y)] h 2) := by
  have w := C.2.1.2.2
  have w1 := w.1
  have R := C.2.1.2.1
  have D := C.2.1.1
  have g1 := ec_c109s (h := h) (t := 7) (v := m) C.b.1.2.2.2.2.2.2.2.2.2.1 R.2.1.2.2.1 (by omega) rm
  have g2 := ec_c107s C rx ry
  have g12 := fun h x y => ec_c112s (h := h) (x := x) (y := y)
  have x0 : ec_nth [] ec_ht 90 = [] := rfl
  have hD := And.intro C.b x0
  unfold ed_kWy
  by_cases q1 : 0 ≤ m ∧ m < σ 4
  · rw [if_pos q1] at g1
    by_cases q2 : ed_qc σ x y
    · have zi := ed_qc_in w q2
      have MM := ed_mon w q1
      have Mc := MM.1.1
      rw [if_pos q2] at g2
      rw [if_pos (show (0 ≤ m ∧ m < σ 4) ∧ ed_qc σ x y from ⟨q1, q2⟩)]
      refine ⟨fun _ => ?_, fun e => absurd rfl e⟩
      have g48 := ec_c48 D.2.2.2.2.1 (a := m) (b := 3) (by omega) (by omega) (by omega)
      rw [show h.2.1 (1 + 7) (m * ((8 : Nat) : Int) + 3).toNat = ec_mv h 1 m 3 from rfl, (R.mv q1).2.1] at g48
      obtain ⟨h1, nw, t, a1, a2, a3, a4, a5⟩ := C.meas (m := σ (185 + 5 * m + 2)) (g := 8 * y + x) (by omega) zi.1
      refine ⟨h1, ?_, a4, a5⟩
      have c36 := ec_c36 (z := σ (185 + 5 * m)) a2 a3 (ec_rgs (by omega))
      have g51 := ec_c51 a4.2.1.1.2.2.2.2.1 (a := m) (by omega) (by omega) (by omega)
      rw [a4.2.1.2.1.mpl q1] at g51
      have hD := And.intro hD a4.b
      simp (disch := first | (simp only [ec_w_kI, ec_w_kL, ec_w_kA, ec_w_shpI, ec_w_shpL, ec_w_shpA, ec_isR_r, ec_01z, ec_01o, ec_01q, hD]; done) | omega | (simp only [ec_w_shpI, ec_w_shpL, ec_w_shpA, hD]; refine ec_zinO ?_; omega) | (refine ec_nzO ?_; omega)) only [ec_s90_0, ec_s90_1, ec_s90_4, ec_s90_7, ec_s90_8, ec_s90_11, ec_s90_12, ec_s90_13, ec_s90_14, ec_s90_17, ec_s90_18, ec_s90_21, ec_s90_22, ec_s90_25, ec_s90_26, ec_s90_27, ec_s90_30, ec_s90_31, ec_s90_34, ec_s90_37, ec_s90_38, ec_s90_39, ec_s90_42, ec_s90_45, ec_s90_46, ec_s90_49, ec_s90_50, ec_s90_53, ec_s90_56, ec_s90_57, ec_s90_60, ec_s90_63, ec_zn0, ec_zn1, ec_zn2, ec_zn3, ec_zn4, ec_zn5, ec_zn6, ec_zn7, ec_zn8, ec_zn9, ec_zn10, ec_zn12, ec_zn13, ec_zn14, ec_zn15, ec_zn16, ec_zn20, ec_zn30, ec_zn48, ec_zn99, ec_zn120, ec_zn127, ec_zn11, ec_zn31, ec_zn46, ec_zn57, ec_zn59, ec_zn63, ec_zn101, ec_zn107, ec_zn108, ec_zn110, ec_zn111, ec_zn115, ec_zn116, ec_zn119, ec_zn167, ec_zn185, ec_zn192, ec_zn215, ec_zn233, ec_zn699, ec_zn932, ec_zn999, ec_znF, ec_zneg, ec_zadd, ec_zsub, ec_zmul, ec_zdivO, ec_em, ec_zltO, ec_zeqO, ec_zeq0, ec_qt, ec_qf, if_pos, if_neg, Int.add_zero, ec_aft_v, ec_aft_n, ec_rwE, ec_rwN, ec_rwP, ec_rwK, ec_rwS, ec_w_shpI, ec_w_shpL, ec_w_shpA, hD, g1, g2, g12, g48, a1, g51, c36]
    · rw [if_neg q2] at g2
      rw [if_neg (fun z : (0 ≤ m ∧ m < σ 4) ∧ ed_qc σ x y => q2 z.2)]
      refine ⟨fun e => absurd e (by decide), fun _ => ?_⟩
      unfold ed_Cx
      simp (disch := first | (simp only [ec_w_kI, ec_w_kL, ec_w_kA, ec_w_shpI, ec_w_shpL, ec_w_shpA, ec_isR_r, ec_01z, ec_01o, ec_01q, hD]; done) | omega | (simp only [ec_w_shpI, ec_w_shpL, ec_w_shpA, hD]; refine ec_zinO ?_; omega) | (refine ec_nzO ?_; omega)) only [ec_s90_0, ec_s90_1, ec_s90_4, ec_s90_7, ec_s90_8, ec_s90_11, ec_s90_12, ec_s90_13, ec_s90_14, ec_s90_17, ec_s90_18, ec_s90_21, ec_s90_22, ec_s90_25, ec_s90_26, ec_s90_27, ec_s90_30, ec_s90_31, ec_s90_34, ec_s90_37, ec_s90_38, ec_s90_39, ec_s90_42, ec_s90_45, ec_s90_46, ec_s90_49, ec_s90_50, ec_s90_53, ec_s90_56, ec_s90_57, ec_s90_60, ec_s90_63, ec_zn0, ec_zn1, ec_zn2, ec_zn3, ec_zn4, ec_zn5, ec_zn6, ec_zn7, ec_zn8, ec_zn9, ec_zn10, ec_zn12, ec_zn13, ec_zn14, ec_zn15, ec_zn16, ec_zn20, ec_zn30, ec_zn48, ec_zn99, ec_zn120, ec_zn127, ec_zn11, ec_zn31, ec_zn46, ec_zn57, ec_zn59, ec_zn63, ec_zn101, ec_zn107, ec_zn108, ec_zn110, ec_zn111, ec_zn115, ec_zn116, ec_zn119, ec_zn167, ec_zn185, ec_zn192, ec_zn215, ec_zn233, ec_zn699, ec_zn932, ec_zn999, ec_znF, ec_zneg, ec_zadd, ec_zsub, ec_zmul, ec_zdivO, ec_em, ec_zltO, ec_zeqO, ec_zeq0, ec_qt, ec_qf, if_pos, if_neg, Int.add_zero, ec_aft_v, ec_aft_n, ec_rwE, ec_rwN, ec_rwP, ec_rwK, ec_rwS, ec_w_shpI, ec_w_shpL, ec_w_shpA, hD, g1, g2, ec_aft_x]
  · rw [if_neg q1] at g1
    rw [if_neg (fun z : (0 ≤ m ∧ m < σ 4) ∧ ed_qc σ x y => q1 z.1)]
    refine ⟨fun e => absurd e (by decide), fun _ => ?_⟩
    unfold ed_Cx
    simp (disch := first | (simp only [ec_w_kI, ec_w_kL, ec_w_kA, ec_w_shpI, ec_w_shpL, ec_w_shpA, ec_isR_r, ec_01z, ec_01o, ec_01q, hD]; done) | omega | (simp only [ec_w_shpI, ec_w_shpL, ec_w_shpA, hD]; refine ec_zinO ?_; omega) | (refine ec_nzO ?_; omega)) only [ec_s90_0, ec_s90_1, ec_s90_4, ec_s90_7, ec_s90_8, ec_s90_11, ec_s90_12, ec_s90_13, ec_s90_14, ec_s90_17, ec_s90_18, ec_s90_21, ec_s90_22, ec_s90_25, ec_s90_26, ec_s90_27, ec_s90_30, ec_s90_31, ec_s90_34, ec_s90_37, ec_s90_38, ec_s90_39, ec_s90_42, ec_s90_45, ec_s90_46, ec_s90_49, ec_s90_50, ec_s90_53, ec_s90_56, ec_s90_57, ec_s90_60, ec_s90_63, ec_zn0, ec_zn1, ec_zn2, ec_zn3, ec_zn4, ec_zn5, ec_zn6, ec_zn7, ec_zn8, ec_zn9, ec_zn10, ec_zn12, ec_zn13, ec_zn14, ec_zn15, ec_zn16, ec_zn20, ec_zn30, ec_zn48, ec_zn99, ec_zn120, ec_zn127, ec_zn11, ec_zn31, ec_zn46, ec_zn57, ec_zn59, ec_zn63, ec_zn101, ec_zn107, ec_zn108, ec_zn110, ec_zn111, ec_zn115, ec_zn116, ec_zn119, ec_zn167, ec_zn185, ec_zn192, ec_zn215, ec_zn233, ec_zn699, ec_zn932, ec_zn999, ec_znF, ec_zneg, ec_zadd, ec_zsub, ec_zmul, ec_zdivO, ec_em, ec_zltO, ec_zeqO, ec_zeq0, ec_qt, ec_qf, if_pos, if_neg, Int.add_zero, ec_aft_v, ec_aft_n, ec_rwE, ec_rwN, ec_rwP, ec_rwK, ec_rwS, ec_w_shpI, ec_w_shpL, ec_w_shpA, hD, g1, ec_aft_x]
theorem ec_c91s (C : ed_CL h σ n p L T) {m : Int} (rm : ec_rg m) :
    (ed_kNx σ m = 0 → ed_Cn 91 [.ref 0, .int (ec_i m), .double 0] h (ed_nxs σ m) σ n p L T) ∧
    (ed_kNx σ m ≠ 0 → ed_Cx 91 [.ref 0, .int (ec_i m), .double 0] h 2) := by
  have w := C.2.1.2.2
  have w1 := w.1
  have hh := w.2.1.1.1
  have R := C.2.1.2.1
  have D := C.2.1.1
  have r6 := R.1.2.2.1
  have g1 := ec_c109s (h := h) (t := 7) (v := m) C.b.1.2.2.2.2.2.2.2.2.2.1 R.2.1.2.2.1 (by omega) rm
  have x0 : ec_nth [] ec_ht 91 = [] := rfl
  have hD := And.intro C.b x0
  unfold ed_kNx
  by_cases q1 : 0 ≤ m ∧ m < σ 4
  · rw [if_pos q1] at g1
    rw [if_pos q1]
    have MM := ed_mon w q1
    have Mc := MM.1.1
    refine ⟨fun _ => ?_, fun e => absurd rfl e⟩
    have g48 := ec_c48 D.2.2.2.2.1 (a := m) (b := 3) (by omega) (by omega) (by omega)
    rw [show h.2.1 (1 + 7) (m * ((8 : Nat) : Int) + 3).toNat = ec_mv h 1 m 3 from rfl, (R.mv q1).2.1] at g48
    obtain ⟨h1, nw, t, a1, a2, a3, a4, a5⟩ := C.meas (m := σ (185 + 5 * m + 2)) (g := σ 6) (by omega) hh
    refine ⟨h1, ?_, a4, a5⟩
    have g51 := ec_c51 a4.2.1.1.2.2.2.2.1 (a := m) (by omega) (by omega) (by omega)
    rw [a4.2.1.2.1.mpl q1] at g51
    have g38 := ec_c38s a4.2.1.1 a4.2.1.2.1 w (m := σ (185 + 5 * m + 2)) (by omega) Mc a2 a3
    rw [show ed_dir σ (σ (185 + 5 * m + 2)) (σ 6) (σ (185 + 5 * m)) = ed_nxs σ m from rfl] at g38
    have hD := And.intro hD a4.b
    simp (disch := first | (simp only [ec_w_kI, ec_w_kL, ec_w_kA, ec_w_shpI, ec_w_shpL, ec_w_shpA, ec_isR_r, ec_01z, ec_01o, ec_01q, hD]; done) | omega | (simp only [ec_w_shpI, ec_w_shpL, ec_w_shpA, hD]; refine ec_zinO ?_; omega) | (refine ec_nzO ?_; omega)) only [ec_s91_0, ec_s91_1, ec_s91_4, ec_s91_7, ec_s91_8, ec_s91_11, ec_s91_12, ec_s91_15, ec_s91_18, ec_s91_19, ec_s91_20, ec_s91_23, ec_s91_24, ec_s91_25, ec_s91_28, ec_s91_29, ec_s91_32, ec_s91_33, ec_s91_36, ec_s91_39, ec_s91_40, ec_s91_43, ec_s91_44, ec_s91_47, ec_s91_48, ec_s91_51, ec_s91_52, ec_s91_55, ec_s91_58, ec_s91_59, ec_s91_62, ec_s91_63, ec_s91_66, ec_zn0, ec_zn1, ec_zn2, ec_zn3, ec_zn4, ec_zn5, ec_zn6, ec_zn7, ec_zn8, ec_zn9, ec_zn10, ec_zn12, ec_zn13, ec_zn14, ec_zn15, ec_zn16, ec_zn20, ec_zn30, ec_zn48, ec_zn99, ec_zn120, ec_zn127, ec_zn11, ec_zn31, ec_zn46, ec_zn57, ec_zn59, ec_zn63, ec_zn101, ec_zn107, ec_zn108, ec_zn110, ec_zn111, ec_zn115, ec_zn116, ec_zn119, ec_zn167, ec_zn185, ec_zn192, ec_zn215, ec_zn233, ec_zn699, ec_zn932, ec_zn999, ec_znF, ec_zneg, ec_zadd, ec_zsub, ec_zmul, ec_zdivO, ec_em, ec_zltO, ec_zeqO, ec_zeq0, ec_qt, ec_qf, if_pos, if_neg, Int.add_zero, ec_aft_v, ec_aft_n, ec_rwE, ec_rwN, ec_rwP, ec_rwK, ec_rwS, ec_w_shpI, ec_w_shpL, ec_w_shpA, hD, g1, g48, r6, a1, g51, g38]
  · rw [if_neg q1] at g1
    rw [if_neg q1]
    refine ⟨fun e => absurd e (by decide), fun _ => ?_⟩
    unfold ed_Cx
    simp (disch := first | (simp only [ec_w_kI, ec_w_kL, ec_w_kA, ec_w_shpI, ec_w_shpL, ec_w_shpA, ec_isR_r, ec_01z, ec_01o, ec_01q, hD]; done) | omega | (simp only [ec_w_shpI, ec_w_shpL, ec_w_shpA, hD]; refine ec_zinO ?_; omega) | (refine ec_nzO ?_; omega)) only [ec_s91_0, ec_s91_1, ec_s91_4, ec_s91_7, ec_s91_8, ec_s91_11, ec_s91_12, ec_s91_15, ec_s91_18, ec_s91_19, ec_s91_20, ec_s91_23, ec_s91_24, ec_s91_25, ec_s91_28, ec_s91_29, ec_s91_32, ec_s91_33, ec_s91_36, ec_s91_39, ec_s91_40, ec_s91_43, ec_s91_44, ec_s91_47, ec_s91_48, ec_s91_51, ec_s91_52, ec_s91_55, ec_s91_58, ec_s91_59, ec_s91_62, ec_s91_63, ec_s91_66, ec_zn0, ec_zn1, ec_zn2, ec_zn3, ec_zn4, ec_zn5, ec_zn6, ec_zn7, ec_zn8, ec_zn9, ec_zn10, ec_zn12, ec_zn13, ec_zn14, ec_zn15, ec_zn16, ec_zn20, ec_zn30, ec_zn48, ec_zn99, ec_zn120, ec_zn127, ec_zn11, ec_zn31, ec_zn46, ec_zn57, ec_zn59, ec_zn63, ec_zn101, ec_zn107, ec_zn108, ec_zn110, ec_zn111, ec_zn115, ec_zn116, ec_zn119, ec_zn167, ec_zn185, ec_zn192, ec_zn215, ec_zn233, ec_zn699, ec_zn932, ec_zn999, ec_znF, ec_zneg, ec_zadd, ec_zsub, ec_zmul, ec_zdivO, ec_em, ec_zltO, ec_zeqO, ec_zeq0, ec_qt, ec_qf, if_pos, if_neg, Int.add_zero, ec_aft_v, ec_aft_n, ec_rwE, ec_rwN, ec_rwP, ec_rwK, ec_rwS, ec_w_shpI, ec_w_shpL, ec_w_shpA, hD, g1, ec_aft_x]
theorem ec_c93L (C : ed_CL h σ n p L T) {g : Int} {nw : Nat → Bool} {t : Int} {v1 : Value} {v2 : Int32} (hg : ec_ing σ g) (hS : ec_SN h 63) (hs : ec_SS h 63 (ed_lb σ 2 g) nw t) : ∀ (n : Nat) (k x : Int), 0 ≤ k → k + n = σ 4 → 0 ≤ x ∧ x ≤ 99 →
    ec_om 93 29 [.ref 0, v1, .int v2, .int (ec_i x), .int (ec_i k)] [] h = some (.inl (some (.int (ec_i (ed_qui σ g n k x)))), h) := by
  have w := C.2.1.2.2
  have w1 := w.1
  have r := C.2.1.2.1.2.1.2.2.1
  have hD := C.b
  intro n
  induction n with
  | zero =>
    intro k x h0 hk hx
    have hk : k = σ 4 := by omega
    rw [ec_s93_29]
    simp (disch := first | (simp only [ec_w_kI, ec_w_kL, ec_w_kA, ec_w_shpI, ec_w_shpL, ec_w_shpA, ec_isR_r, ec_01z, ec_01o, ec_01q, hD]; done) | omega | (simp only [ec_w_shpI, ec_w_shpL, ec_w_shpA, hD]; refine ec_zinO ?_; omega) | (refine ec_nzO ?_; omega)) only [ec_s93_0, ec_s93_1, ec_s93_2, ec_s93_3, ec_s93_6, ec_s93_7, ec_s93_10, ec_s93_11, ec_s93_14, ec_s93_15, ec_s93_16, ec_s93_19, ec_s93_20, ec_s93_23, ec_s93_25, ec_s93_26, ec_s93_27, ec_s93_31, ec_s93_32, ec_s93_35, ec_s93_38, ec_s93_41, ec_s93_44, ec_s93_45, ec_s93_46, ec_s93_49, ec_s93_50, ec_s93_53, ec_s93_55, ec_s93_58, ec_s93_59, ec_s93_60, ec_s93_63, ec_s93_64, ec_s93_67, ec_s93_70, ec_s93_71, ec_zn0, ec_zn1, ec_zn2, ec_zn3, ec_zn4, ec_zn5, ec_zn6, ec_zn7, ec_zn8, ec_zn9, ec_zn10, ec_zn12, ec_zn13, ec_zn14, ec_zn15, ec_zn16, ec_zn20, ec_zn30, ec_zn48, ec_zn99, ec_zn120, ec_zn127, ec_zn11, ec_zn31, ec_zn46, ec_zn57, ec_zn59, ec_zn63, ec_zn101, ec_zn107, ec_zn108, ec_zn110, ec_zn111, ec_zn115, ec_zn116, ec_zn119, ec_zn167, ec_zn185, ec_zn192, ec_zn215, ec_zn233, ec_zn699, ec_zn932, ec_zn999, ec_znF, ec_zneg, ec_zadd, ec_zsub, ec_zmul, ec_zdivO, ec_em, ec_zltO, ec_zeqO, ec_zeq0, ec_qt, ec_qf, if_pos, if_neg, Int.add_zero, ec_aft_v, ec_aft_n, ec_rwE, ec_rwN, ec_rwP, ec_rwK, ec_rwS, ec_w_shpI, ec_w_shpL, ec_w_shpA, hD, r]
    rfl
  | succ n ih =>
    intro k x h0 hk hx
    have D := ed_mon w (m := k) (by omega)
    have f := ed_snd_fin w hg D.1
    have lb := ed_lb_bd w (m := 2) hg.1 (k := (σ (185 + 5 * k)).toNat) (by have := D.1.1; omega)
    have g37 := ec_c37s C.2.1.1 C.2.1.2.1 w (m := k) (by omega) hg hS hs
    rw [show ed_qui σ g (n + 1) k x = ed_qui σ g n (k + 1) (if ed_lb σ 2 g (σ (185 + 5 * k)).toNat + σ (185 + 5 * k + 1) - 1 < x then ed_lb σ 2 g (σ (185 + 5 * k)).toNat + σ (185 + 5 * k + 1) - 1 else x) from rfl]
    have e1 := ih (k + 1) (if ed_lb σ 2 g (σ (185 + 5 * k)).toNat + σ (185 + 5 * k + 1) - 1 < x then ed_lb σ 2 g (σ (185 + 5 * k)).toNat + σ (185 + 5 * k + 1) - 1 else x) (by omega) (by omega) (by split <;> omega)
    rw [ec_s93_29]
    by_cases q : ed_lb σ 2 g (σ (185 + 5 * k)).toNat + σ (185 + 5 * k + 1) - 1 < x
    · rw [if_pos q] at e1 ⊢
      simp (disch := first | (simp only [ec_w_kI, ec_w_kL, ec_w_kA, ec_w_shpI, ec_w_shpL, ec_w_shpA, ec_isR_r, ec_01z, ec_01o, ec_01q, hD]; done) | omega | (simp only [ec_w_shpI, ec_w_shpL, ec_w_shpA, hD]; refine ec_zinO ?_; omega) | (refine ec_nzO ?_; omega)) only [ec_s93_0, ec_s93_1, ec_s93_2, ec_s93_3, ec_s93_6, ec_s93_7, ec_s93_10, ec_s93_11, ec_s93_14, ec_s93_15, ec_s93_16, ec_s93_19, ec_s93_20, ec_s93_23, ec_s93_25, ec_s93_26, ec_s93_27, ec_s93_31, ec_s93_32, ec_s93_35, ec_s93_38, ec_s93_41, ec_s93_44, ec_s93_45, ec_s93_46, ec_s93_49, ec_s93_50, ec_s93_53, ec_s93_55, ec_s93_58, ec_s93_59, ec_s93_60, ec_s93_63, ec_s93_64, ec_s93_67, ec_s93_70, ec_s93_71, ec_zn0, ec_zn1, ec_zn2, ec_zn3, ec_zn4, ec_zn5, ec_zn6, ec_zn7, ec_zn8, ec_zn9, ec_zn10, ec_zn12, ec_zn13, ec_zn14, ec_zn15, ec_zn16, ec_zn20, ec_zn30, ec_zn48, ec_zn99, ec_zn120, ec_zn127, ec_zn11, ec_zn31, ec_zn46, ec_zn57, ec_zn59, ec_zn63, ec_zn101, ec_zn107, ec_zn108, ec_zn110, ec_zn111, ec_zn115, ec_zn116, ec_zn119, ec_zn167, ec_zn185, ec_zn192, ec_zn215, ec_zn233, ec_zn699, ec_zn932, ec_zn999, ec_znF, ec_zneg, ec_zadd, ec_zsub, ec_zmul, ec_zdivO, ec_em, ec_zltO, ec_zeqO, ec_zeq0, ec_qt, ec_qf, if_pos, if_neg, Int.add_zero, ec_aft_v, ec_aft_n, ec_rwE, ec_rwN, ec_rwP, ec_rwK, ec_rwS, ec_w_shpI, ec_w_shpL, ec_w_shpA, hD, r, g37, e1]
    · rw [if_neg q] at e1 ⊢
      simp (disch := first | (simp only [ec_w_kI, ec_w_kL, ec_w_kA, ec_w_shpI, ec_w_shpL, ec_w_shpA, ec_isR_r, ec_01z, ec_01o, ec_01q, hD]; done) | omega | (simp only [ec_w_shpI, ec_w_shpL, ec_w_shpA, hD]; refine ec_zinO ?_; omega) | (refine ec_nzO ?_; omega)) only [ec_s93_0, ec_s93_1, ec_s93_2, ec_s93_3, ec_s93_6, ec_s93_7, ec_s93_10, ec_s93_11, ec_s93_14, ec_s93_15, ec_s93_16, ec_s93_19, ec_s93_20, ec_s93_23, ec_s93_25, ec_s93_26, ec_s93_27, ec_s93_31, ec_s93_32, ec_s93_35, ec_s93_38, ec_s93_41, ec_s93_44, ec_s93_45, ec_s93_46, ec_s93_49, ec_s93_50, ec_s93_53, ec_s93_55, ec_s93_58, ec_s93_59, ec_s93_60, ec_s93_63, ec_s93_64, ec_s93_67, ec_s93_70, ec_s93_71, ec_zn0, ec_zn1, ec_zn2, ec_zn3, ec_zn4, ec_zn5, ec_zn6, ec_zn7, ec_zn8, ec_zn9, ec_zn10, ec_zn12, ec_zn13, ec_zn14, ec_zn15, ec_zn16, ec_zn20, ec_zn30, ec_zn48, ec_zn99, ec_zn120, ec_zn127, ec_zn11, ec_zn31, ec_zn46, ec_zn57, ec_zn59, ec_zn63, ec_zn101, ec_zn107, ec_zn108, ec_zn110, ec_zn111, ec_zn115, ec_zn116, ec_zn119, ec_zn167, ec_zn185, ec_zn192, ec_zn215, ec_zn233, ec_zn699, ec_zn932, ec_zn999, ec_znF, ec_zneg, ec_zadd, ec_zsub, ec_zmul, ec_zdivO, ec_em, ec_zltO, ec_zeqO, ec_zeq0, ec_qt, ec_qf, if_pos, if_neg, Int.add_zero, ec_aft_v, ec_aft_n, ec_rwE, ec_rwN, ec_rwP, ec_rwK, ec_rwS, ec_w_shpI, ec_w_shpL, ec_w_shpA, hD, r, g37, e1]
theorem ec_c93s (C : ed_CL h σ n p L T) {x y : Int} (rx : ec_rg x) (ry : ec_rg y) :
    (ed_kQu σ x y = 0 → ed_Cn 93 [.ref 0, .int (ec_i x), .int (ec_i y), .double 0, .double 0] h (ed_qui σ (8 * y + x) (σ 4).toNat 0 99) σ n p L T) ∧
    (ed_kQu σ x y ≠ 0 → ed_Cx 93 [.ref 0, .int (ec_i x), .int (ec_i y), .double 0, .double 0] h 2) := by
  have g1 := ec_c107s C rx ry
  have g12 := fun h => ec_c112s (h := h) (x := x) (y := y)
  have x0 : ec_nth [] ec_ht 93 = [] := rfl
  have hD := And.intro C.b x0
  have w := C.2.1.2.2
  have w1 := w.1
  unfold ed_kQu
  by_cases q1 : ed_qc σ x y
  · have zi := ed_qc_in w q1
    rw [if_pos q1] at g1
    rw [if_pos q1]
    refine ⟨fun _ => ?_, fun e => absurd rfl e⟩
    obtain ⟨h1, nw, t, a1, a2, a3, a4, a5⟩ := C.meas (m := 2) (g := 8 * y + x) (by omega) zi.1
    refine ⟨h1, ?_, a4, a5⟩
    have e1 := ec_c93L (v1 := .int (ec_i x)) (v2 := ec_i y) a4 zi a2 a3 (σ 4).toNat 0 99 (by omega) (by omega) (by omega)
    have hD := And.intro hD a4.b
    simp (disch := first | (simp only [ec_w_kI, ec_w_kL, ec_w_kA, ec_w_shpI, ec_w_shpL, ec_w_shpA, ec_isR_r, ec_01z, ec_01o, ec_01q, hD]; done) | omega | (simp only [ec_w_shpI, ec_w_shpL, ec_w_shpA, hD]; refine ec_zinO ?_; omega) | (refine ec_nzO ?_; omega)) only [ec_s93_0, ec_s93_1, ec_s93_2, ec_s93_3, ec_s93_6, ec_s93_7, ec_s93_10, ec_s93_11, ec_s93_14, ec_s93_15, ec_s93_16, ec_s93_19, ec_s93_20, ec_s93_23, ec_s93_25, ec_s93_26, ec_s93_27, ec_s93_31, ec_s93_32, ec_s93_35, ec_s93_38, ec_s93_41, ec_s93_44, ec_s93_45, ec_s93_46, ec_s93_49, ec_s93_50, ec_s93_53, ec_s93_55, ec_s93_58, ec_s93_59, ec_s93_60, ec_s93_63, ec_s93_64, ec_s93_67, ec_s93_70, ec_s93_71, ec_zn0, ec_zn1, ec_zn2, ec_zn3, ec_zn4, ec_zn5, ec_zn6, ec_zn7, ec_zn8, ec_zn9, ec_zn10, ec_zn12, ec_zn13, ec_zn14, ec_zn15, ec_zn16, ec_zn20, ec_zn30, ec_zn48, ec_zn99, ec_zn120, ec_zn127, ec_zn11, ec_zn31, ec_zn46, ec_zn57, ec_zn59, ec_zn63, ec_zn101, ec_zn107, ec_zn108, ec_zn110, ec_zn111, ec_zn115, ec_zn116, ec_zn119, ec_zn167, ec_zn185, ec_zn192, ec_zn215, ec_zn233, ec_zn699, ec_zn932, ec_zn999, ec_znF, ec_zneg, ec_zadd, ec_zsub, ec_zmul, ec_zdivO, ec_em, ec_zltO, ec_zeqO, ec_zeq0, ec_qt, ec_qf, if_pos, if_neg, Int.add_zero, ec_aft_v, ec_aft_n, ec_rwE, ec_rwN, ec_rwP, ec_rwK, ec_rwS, ec_w_shpI, ec_w_shpL, ec_w_shpA, hD, g1, g12, a1, e1]
  · rw [if_neg q1] at g1
    rw [if_neg q1]
    refine ⟨fun e => absurd e (by decide), fun _ => ?_⟩
    unfold ed_Cx
    simp (disch := first | (simp only [ec_w_kI, ec_w_kL, ec_w_kA, ec_w_shpI, ec_w_shpL, ec_w_shpA, ec_isR_r, ec_01z, ec_01o, ec_01q, hD]; done) | omega | (simp only [ec_w_shpI, ec_w_shpL, ec_w_shpA, hD]; refine ec_zinO ?_; omega) | (refine ec_nzO ?_; omega)) only [ec_s93_0, ec_s93_1, ec_s93_2, ec_s93_3, ec_s93_6, ec_s93_7, ec_s93_10, ec_s93_11, ec_s93_14, ec_s93_15, ec_s93_16, ec_s93_19, ec_s93_20, ec_s93_23, ec_s93_25, ec_s93_26, ec_s93_27, ec_s93_31, ec_s93_32, ec_s93_35, ec_s93_38, ec_s93_41, ec_s93_44, ec_s93_45, ec_s93_46, ec_s93_49, ec_s93_50, ec_s93_53, ec_s93_55, ec_s93_58, ec_s93_59, ec_s93_60, ec_s93_63, ec_s93_64, ec_s93_67, ec_s93_70, ec_s93_71, ec_zn0, ec_zn1, ec_zn2, ec_zn3, ec_zn4, ec_zn5, ec_zn6, ec_zn7, ec_zn8, ec_zn9, ec_zn10, ec_zn12, ec_zn13, ec_zn14, ec_zn15, ec_zn16, ec_zn20, ec_zn30, ec_zn48, ec_zn99, ec_zn120, ec_zn127, ec_zn11, ec_zn31, ec_zn46, ec_zn57, ec_zn59, ec_zn63, ec_zn101, ec_zn107, ec_zn108, ec_zn110, ec_zn111, ec_zn115, ec_zn116, ec_zn119, ec_zn167, ec_zn185, ec_zn192, ec_zn215, ec_zn233, ec_zn699, ec_zn932, ec_zn999, ec_znF, ec_zneg, ec_zadd, ec_zsub, ec_zmul, ec_zdivO, ec_em, ec_zltO, ec_zeqO, ec_zeq0, ec_qt, ec_qf, if_pos, if_neg, Int.add_zero, ec_aft_v, ec_aft_n, ec_rwE, ec_rwN, ec_rwP, ec_rwK, ec_rwS, ec_w_shpI, ec_w_shpL, ec_w_shpA, hD, g1, ec_aft_x]
end EDN
