/-! The class's face: new things, on. -/
theorem ed_adr_e {σ : ec_Sg} {k a b : Int} (w1 : ed_ct σ) (hk : 11 ≤ k ∧ k < 107) : ec_su (ec_su (ec_su (ec_su (ec_su (ec_su (ec_su (ec_su σ (107 + 6 * σ 2) 0) (107 + 6 * σ 2 + 1) a) (107 + 6 * σ 2 + 2) b) (107 + 6 * σ 2 + 3) (-1)) (107 + 6 * σ 2 + 4) 0) (107 + 6 * σ 2 + 5) 0) 2 (σ 2 + 1)) k (2 + σ 2) = ed_adr σ k a b := by
  unfold ed_ct at w1
  funext j
  unfold ed_adr
  by_cases q : j = k
  · simp (disch := omega) only [ec_suE, ec_suN]
  · rw [ec_suN q]
    rcases (show j = 2 ∨ j = 107 + 6 * σ 2 ∨ j = 107 + 6 * σ 2 + 1 ∨ j = 107 + 6 * σ 2 + 2 ∨ j = 107 + 6 * σ 2 + 3 ∨ j = 107 + 6 * σ 2 + 4 ∨ j = 107 + 6 * σ 2 + 5 ∨ (j ≠ 2 ∧ (j < 107 + 6 * σ 2 ∨ 107 + 6 * σ 2 + 5 < j)) by omega) with q1 | q1 | q1 | q1 | q1 | q1 | q1 | q1 <;> simp (disch := omega) only [ec_suE, ec_suN]
theorem ed_nd_w {σ : ec_Sg} {k a b : Int} (w1 : ed_ct σ) (wf : ec_WF (ed_adr σ k a b)) (hk : 11 ≤ k ∧ k < 107) (hv : 0 ≤ σ k ∧ σ k < 2 + σ 2) : ec_WF (ec_su (ec_su (ec_su (ec_su (ec_su (ec_su (ec_su σ (107 + 6 * σ 2) 0) (107 + 6 * σ 2 + 1) a) (107 + 6 * σ 2 + 2) b) (107 + 6 * σ 2 + 3) (-1)) (107 + 6 * σ 2 + 4) 0) (107 + 6 * σ 2 + 5) 0) 2 (σ 2 + 1)) := by
  have e2 : ed_adr σ k a b 2 = σ 2 + 1 := by
    unfold ed_adr
    exact ec_suE rfl
  have wn := ed_WF_bd wf (v := σ k) hk (by omega)
  rw [← ed_adr_e w1 hk] at wn
  have e : ∀ ρ : ec_Sg, ρ k = σ k → ec_su (ec_su ρ k (2 + σ 2)) k (σ k) = ρ := fun ρ h => by
    funext j
    by_cases q : j = k
    · rw [q, ec_suE rfl, h]
    · rw [ec_suN q, ec_suN q]
  unfold ed_ct at w1
  rw [e _ (by simp (disch := omega) only [ec_suN])] at wn
  exact wn
theorem ed_str_e {σ : ec_Sg} {z : Int} (w1 : ed_ct σ) (q : ed_tr σ z = -1) : (ec_su (ec_su (ec_su (ec_su σ (215 + 3 * σ 5) z) (215 + 3 * σ 5 + 1) 2) (215 + 3 * σ 5 + 2) 0) 5 (σ 5 + 1)) = ed_str σ z := by
  unfold ed_ct at w1
  funext j
  unfold ed_str
  rw [if_pos q]
  rcases (show j = 5 ∨ j = 215 + 3 * σ 5 ∨ j = 215 + 3 * σ 5 + 1 ∨ j = 215 + 3 * σ 5 + 2 ∨ (j ≠ 5 ∧ (j < 215 + 3 * σ 5 ∨ 215 + 3 * σ 5 + 2 < j)) by omega) with q1 | q1 | q1 | q1 | q1 <;> simp (disch := omega) only [ec_suE, ec_suN]
theorem ec_c27h {h : ec_Hp} {B : Nat} {a : Int} (hD : ec_DN h B) (ha : 0 ≤ a ∧ a < 6) : ∃ h', ec_om 27 0 [.ref B, .int (ec_i a)] [] h = some (.inl none, h') ∧ (∀ k : Nat, (k : Int) = a * 8 + 4 → h'.2.1 (B + 7) k = ec_i (-1)) ∧ (∀ k : Nat, (k : Int) = a * 8 + 5 → h'.2.1 (B + 7) k = ec_i (-1)) ∧ ec_fg (fun x j => x = B + 7 ∧ ((j : Int) = a * 8 + 4 ∨ (j : Int) = a * 8 + 5)) h h' := by
  refine ⟨_, ec_c27 hD ha, fun k hk => ?_, fun k hk => ed_rE ⟨rfl, by omega⟩, (ec_fg.refl.I (by exact ⟨rfl, Or.inl (by omega)⟩)).I (by exact ⟨rfl, Or.inr (by omega)⟩)⟩
  unfold ec_sg
  rw [ed_rN (fun y => by have := y.2; omega)]
  exact ed_rE ⟨rfl, by omega⟩
section EDJ
variable {h : ec_Hp} {σ : ec_Sg} {n : Int} {p : Int → ec_Sg} {L : Int} {T : Int → Int}
set_option maxHeartbeats 2000000 in
theorem ec_c73s (C : ed_CL h σ n p L T) {x y s a b : Int} (rx : ec_rg x) (ry : ec_rg y) (rs : ec_rg s) (ra : ec_rg a) (rb : ec_rg b) :
    (ed_kAd σ x y s a b = 0 → ed_Cn 73 [.ref 0, .int (ec_i x), .int (ec_i y), .int (ec_i s), .int (ec_i a), .int (ec_i b), .double 0, .double 0] h (σ 2) (ed_adr σ (ec_bp (8 * y + x) s) a b) (ed_pn n) (ed_pp n p σ) L T) ∧
    (ed_kAd σ x y s a b ≠ 0 → ed_Cx 73 [.ref 0, .int (ec_i x), .int (ec_i y), .int (ec_i s), .int (ec_i a), .int (ec_i b), .double 0, .double 0] h (ed_x3 (ed_kAd σ x y s a b))) := by
  have g1 := ec_c107s C rx ry
  have g12 := fun h => ec_c112s (h := h) (x := x) (y := y)
  have g5 := fun h => ec_c111s (h := h) ra ec_rn0 ec_rn9
  have g6 := fun h => ec_c111s (h := h) rb ec_rn0 ec_rn9
  have x0 : ec_nth [] ec_ht 73 = [] := rfl
  have b0 := And.intro C.b x0
  have w := C.2.1.2.2
  have w1 := w.1
  have wc := w.ct
  have D0 := C.2.1.1
  have R0 := C.2.1.2.1
  have g7 := ec_c110s (M := 10) D0.2.2.1 R0.2.1.1 (by omega) (by decide)
  unfold ed_kAd
  by_cases q1 : ed_qc σ x y
  · have zi := ed_qc_in w q1
    have g2 := ec_c108s C q1 rs
    rw [if_pos q1] at g1
    rw [if_pos q1]
    by_cases q2 : ed_qb σ x y s
    · rw [if_pos q2] at g2
      by_cases qa : 0 ≤ a ∧ a ≤ 9
      · by_cases qb : 0 ≤ b ∧ b ≤ 9
        · rw [if_pos (show ed_qb σ x y s ∧ (0 ≤ a ∧ a ≤ 9) ∧ 0 ≤ b ∧ b ≤ 9 from ⟨q2, qa, qb⟩)]
          have hd : 0 ≤ s ∧ s < 4 := by have := q2.1; omega
          have br := ed_bp_rg zi.1 q2.2
          have bv := w.2.2.1 _ _ zi hd q2.2
          have g3 := ec_c15s D0 R0 (z := 8 * y + x) (d := s) zi.1 hd
          rw [((ed_bd_hb w zi hd).2 q2.2).1] at g3
          by_cases q3 : 1 < σ (ec_bp (8 * y + x) s)
          · rw [if_pos (Or.inl q3)]
            refine ⟨fun e => absurd e (by decide), fun _ => ?_⟩
            have hD := b0
            show ec_om 73 0 _ [] h = some (.inr 1, ec_thw h)
            simp (disch := first | (simp only [ec_w_kI, ec_w_kL, ec_w_kA, ec_w_shpI, ec_w_shpL, ec_w_shpA, ec_isR_r, ec_01z, ec_01o, ec_01q, hD]; done) | omega | (simp only [ec_w_shpI, ec_w_shpL, ec_w_shpA, hD]; refine ec_zinO ?_; omega) | (refine ec_nzO ?_; omega)) only [ec_s73_0, ec_s73_1, ec_s73_2, ec_s73_3, ec_s73_6, ec_s73_7, ec_s73_8, ec_s73_11, ec_s73_13, ec_s73_14, ec_s73_16, ec_s73_17, ec_s73_20, ec_s73_22, ec_s73_23, ec_s73_25, ec_s73_28, ec_s73_30, ec_s73_31, ec_s73_33, ec_s73_36, ec_s73_37, ec_s73_40, ec_s73_42, ec_s73_43, ec_s73_46, ec_s73_47, ec_s73_50, ec_s73_60, ec_s73_61, ec_s73_64, ec_s73_67, ec_s73_70, ec_s73_71, ec_s73_74, ec_s73_75, ec_s73_78, ec_s73_81, ec_s73_82, ec_s73_85, ec_s73_88, ec_s73_91, ec_s73_93, ec_s73_94, ec_s73_97, ec_s73_100, ec_s73_102, ec_s73_103, ec_s73_104, ec_s73_107, ec_s73_108, ec_s73_111, ec_s73_114, ec_s73_116, ec_s73_117, ec_s73_119, ec_s73_122, ec_s73_123, ec_s73_126, ec_s73_129, ec_s73_131, ec_s73_132, ec_s73_134, ec_s73_137, ec_s73_138, ec_s73_141, ec_s73_144, ec_s73_146, ec_s73_147, ec_s73_148, ec_s73_151, ec_s73_152, ec_s73_155, ec_s73_157, ec_s73_158, ec_s73_159, ec_s73_161, ec_s73_162, ec_s73_165, ec_s73_167, ec_zn0, ec_zn1, ec_zn2, ec_zn3, ec_zn4, ec_zn5, ec_zn6, ec_zn7, ec_zn8, ec_zn9, ec_zn10, ec_zn12, ec_zn13, ec_zn14, ec_zn15, ec_zn16, ec_zn20, ec_zn30, ec_zn48, ec_zn99, ec_zn120, ec_zn127, ec_zn11, ec_zn31, ec_zn46, ec_zn57, ec_zn59, ec_zn63, ec_zn101, ec_zn107, ec_zn108, ec_zn110, ec_zn111, ec_zn115, ec_zn116, ec_zn119, ec_zn167, ec_zn185, ec_zn192, ec_zn215, ec_zn233, ec_zn699, ec_zn932, ec_zn999, ec_znF, ec_zneg, ec_zadd, ec_zsub, ec_zmul, ec_zdivO, ec_em, ec_zltO, ec_zeqO, ec_zeq0, ec_qt, ec_qf, if_pos, if_neg, Int.add_zero, ec_aft_v, ec_aft_n, ec_rwE, ec_rwN, ec_rwP, ec_rwK, ec_rwS, ec_w_shpI, ec_w_shpL, ec_w_shpA, hD, g1, g2, g3, g5, g6, g12, ec_aft_x]
          · by_cases q4 : σ 2 = 10
            · rw [if_pos (Or.inr q4)]
              refine ⟨fun e => absurd e (by decide), fun _ => ?_⟩
              have hD := b0
              rw [if_pos (by omega)] at g7
              show ec_om 73 0 _ [] h = some (.inr 1, ec_thw h)
              simp (disch := first | (simp only [ec_w_kI, ec_w_kL, ec_w_kA, ec_w_shpI, ec_w_shpL, ec_w_shpA, ec_isR_r, ec_01z, ec_01o, ec_01q, hD]; done) | omega | (simp only [ec_w_shpI, ec_w_shpL, ec_w_shpA, hD]; refine ec_zinO ?_; omega) | (refine ec_nzO ?_; omega)) only [ec_s73_0, ec_s73_1, ec_s73_2, ec_s73_3, ec_s73_6, ec_s73_7, ec_s73_8, ec_s73_11, ec_s73_13, ec_s73_14, ec_s73_16, ec_s73_17, ec_s73_20, ec_s73_22, ec_s73_23, ec_s73_25, ec_s73_28, ec_s73_30, ec_s73_31, ec_s73_33, ec_s73_36, ec_s73_37, ec_s73_40, ec_s73_42, ec_s73_43, ec_s73_46, ec_s73_47, ec_s73_50, ec_s73_60, ec_s73_61, ec_s73_64, ec_s73_67, ec_s73_70, ec_s73_71, ec_s73_74, ec_s73_75, ec_s73_78, ec_s73_81, ec_s73_82, ec_s73_85, ec_s73_88, ec_s73_91, ec_s73_93, ec_s73_94, ec_s73_97, ec_s73_100, ec_s73_102, ec_s73_103, ec_s73_104, ec_s73_107, ec_s73_108, ec_s73_111, ec_s73_114, ec_s73_116, ec_s73_117, ec_s73_119, ec_s73_122, ec_s73_123, ec_s73_126, ec_s73_129, ec_s73_131, ec_s73_132, ec_s73_134, ec_s73_137, ec_s73_138, ec_s73_141, ec_s73_144, ec_s73_146, ec_s73_147, ec_s73_148, ec_s73_151, ec_s73_152, ec_s73_155, ec_s73_157, ec_s73_158, ec_s73_159, ec_s73_161, ec_s73_162, ec_s73_165, ec_s73_167, ec_zn0, ec_zn1, ec_zn2, ec_zn3, ec_zn4, ec_zn5, ec_zn6, ec_zn7, ec_zn8, ec_zn9, ec_zn10, ec_zn12, ec_zn13, ec_zn14, ec_zn15, ec_zn16, ec_zn20, ec_zn30, ec_zn48, ec_zn99, ec_zn120, ec_zn127, ec_zn11, ec_zn31, ec_zn46, ec_zn57, ec_zn59, ec_zn63, ec_zn101, ec_zn107, ec_zn108, ec_zn110, ec_zn111, ec_zn115, ec_zn116, ec_zn119, ec_zn167, ec_zn185, ec_zn192, ec_zn215, ec_zn233, ec_zn699, ec_zn932, ec_zn999, ec_znF, ec_zneg, ec_zadd, ec_zsub, ec_zmul, ec_zdivO, ec_em, ec_zltO, ec_zeqO, ec_zeq0, ec_qt, ec_qf, if_pos, if_neg, Int.add_zero, ec_aft_v, ec_aft_n, ec_rwE, ec_rwN, ec_rwP, ec_rwK, ec_rwS, ec_w_shpI, ec_w_shpL, ec_w_shpA, hD, g1, g2, g3, g5, g6, g7, g12, ec_aft_x]
            · rw [if_neg (by omega)]
              rw [if_neg (by omega)] at g7
              refine ⟨fun _ => ?_, fun e => absurd rfl e⟩
              obtain ⟨h1, a1, a2, a3⟩ := C.saved
              have D1 := a2.2.1.1
              have R1 := a2.2.1.2.1
              have u1 := a2.u
              obtain ⟨h2, b1, b2, b3, b4⟩ := ec_c47s (by decide) (c := σ 2) (by omega) D1.2.2.1 R1.2.1.1
              have D2 := D1.f2 b4 (fun j hj => by omega)
              obtain ⟨h3, c1, c2, c3, c4⟩ := ec_c49s (a := σ 2) (b := 0) (v := 0) D2.2.2.1 (by omega) (by omega) (by decide)
              obtain ⟨h4, d1, d2, d3, d4⟩ := ec_c49s (a := σ 2) (b := 1) (v := a) c3 (by omega) (by omega) (by decide)
              obtain ⟨h5, e1, e2, e3, e4⟩ := ec_c49s (a := σ 2) (b := 2) (v := b) d3 (by omega) (by omega) (by decide)
              obtain ⟨h6, f1, f2, f3, f4⟩ := ec_c49s (a := σ 2) (b := 3) (v := -1) e3 (by omega) (by omega) (by decide)
              have t6 : ∀ k : Nat, (k : Int) ≠ σ 2 * 6 + 1 → (k : Int) ≠ σ 2 * 6 + 2 → (k : Int) ≠ σ 2 * 6 + 3 → h6.2.1 4 k = h3.2.1 4 k := fun k k1 k2 k3 => (f4.2 _ _ (fun y => k3 y.2)).trans ((e4.2 _ _ (fun y => k2 y.2)).trans (d4.2 _ _ (fun y => k1 y.2)))
              have F : ec_fg (fun q j => q = 1 + 2 ∧ j = 3 ∨ q = 1 + 3 ∧ σ 2 * 6 ≤ (j : Int) ∧ (j : Int) < σ 2 * 6 + 6) h1 h6 := (b4.mono (fun q j y => by omega)).trans ((c4.mono (fun q j y => by omega)).trans ((d4.mono (fun q j y => by omega)).trans ((e4.mono (fun q j y => by omega)).trans (f4.mono (fun q j y => by omega)))))
              have R6 := R1.nd wc (by omega) F
                ((f4.2 _ _ (by omega)).trans ((e4.2 _ _ (by omega)).trans ((d4.2 _ _ (by omega)).trans ((c4.2 _ _ (by omega)).trans b2))))
                (fun k hk => (t6 k (by omega) (by omega) (by omega)).trans (c2 k (by omega)))
                (fun k hk => (f4.2 _ _ (by omega)).trans ((e4.2 _ _ (by omega)).trans (d2 k (by omega))))
                (fun k hk => (f4.2 _ _ (by omega)).trans (e2 k (by omega)))
                (fun k hk => f2 k (by omega))
                (fun k hk => (t6 k (by omega) (by omega) (by omega)).trans ((c4.2 _ _ (by omega)).trans (b3 k (by omega))))
                (fun k hk => (t6 k (by omega) (by omega) (by omega)).trans ((c4.2 _ _ (by omega)).trans (b3 k (by omega))))
              have wf := ed_WF_adr w (k := ec_bp (8 * y + x) s) (a := a) (b := b) (by omega) br qa qb
              have D6 := D1.f2 F (fun j hj => by omega)
              have wn := ed_nd_w wc wf br (by omega)
              have i6 : ec_ing (ec_su (ec_su (ec_su (ec_su (ec_su (ec_su (ec_su σ (107 + 6 * σ 2) 0) (107 + 6 * σ 2 + 1) a) (107 + 6 * σ 2 + 2) b) (107 + 6 * σ 2 + 3) (-1)) (107 + 6 * σ 2 + 4) 0) (107 + 6 * σ 2 + 5) 0) 2 (σ 2 + 1)) (8 * y + x) ∧ ec_hb (ec_su (ec_su (ec_su (ec_su (ec_su (ec_su (ec_su σ (107 + 6 * σ 2) 0) (107 + 6 * σ 2 + 1) a) (107 + 6 * σ 2 + 2) b) (107 + 6 * σ 2 + 3) (-1)) (107 + 6 * σ 2 + 4) 0) (107 + 6 * σ 2 + 5) 0) 2 (σ 2 + 1)) (8 * y + x) s := by
                unfold ec_ing ec_hb
                simp (disch := omega) only [ec_suN]
                exact ⟨zi, q2.2⟩
              obtain ⟨h7, k1, k2, k3, k4⟩ := ec_c16s D6 R6 wn (v := 2 + σ 2) i6.1 hd i6.2
              rw [ed_adr_e wc br] at k2
              refine ⟨h7, ?_, a2.fin a3 ((F.mono (fun q j y => by omega)).trans (k4.mono (fun q j y => by omega))) k3 k2 wf⟩
              have r := R1.2.1.1
              have u2 := u1.of b4.1.1
              have u3 := u2.of c4.1.1
              have u4 := u3.of d4.1.1
              have u5 := u4.of e4.1.1
              have u6 := u5.of f4.1.1
              unfold ed_BU at u1 u2 u3 u4 u5 u6
              have hD := And.intro b0 (And.intro u1 (And.intro u2 (And.intro u3 (And.intro u4 (And.intro u5 u6)))))
              simp (disch := first | (simp only [ec_w_kI, ec_w_kL, ec_w_kA, ec_w_shpI, ec_w_shpL, ec_w_shpA, ec_isR_r, ec_01z, ec_01o, ec_01q, hD]; done) | omega | (simp only [ec_w_shpI, ec_w_shpL, ec_w_shpA, hD]; refine ec_zinO ?_; omega) | (refine ec_nzO ?_; omega)) only [ec_s73_0, ec_s73_1, ec_s73_2, ec_s73_3, ec_s73_6, ec_s73_7, ec_s73_8, ec_s73_11, ec_s73_13, ec_s73_14, ec_s73_16, ec_s73_17, ec_s73_20, ec_s73_22, ec_s73_23, ec_s73_25, ec_s73_28, ec_s73_30, ec_s73_31, ec_s73_33, ec_s73_36, ec_s73_37, ec_s73_40, ec_s73_42, ec_s73_43, ec_s73_46, ec_s73_47, ec_s73_50, ec_s73_60, ec_s73_61, ec_s73_64, ec_s73_67, ec_s73_70, ec_s73_71, ec_s73_74, ec_s73_75, ec_s73_78, ec_s73_81, ec_s73_82, ec_s73_85, ec_s73_88, ec_s73_91, ec_s73_93, ec_s73_94, ec_s73_97, ec_s73_100, ec_s73_102, ec_s73_103, ec_s73_104, ec_s73_107, ec_s73_108, ec_s73_111, ec_s73_114, ec_s73_116, ec_s73_117, ec_s73_119, ec_s73_122, ec_s73_123, ec_s73_126, ec_s73_129, ec_s73_131, ec_s73_132, ec_s73_134, ec_s73_137, ec_s73_138, ec_s73_141, ec_s73_144, ec_s73_146, ec_s73_147, ec_s73_148, ec_s73_151, ec_s73_152, ec_s73_155, ec_s73_157, ec_s73_158, ec_s73_159, ec_s73_161, ec_s73_162, ec_s73_165, ec_s73_167, ec_zn0, ec_zn1, ec_zn2, ec_zn3, ec_zn4, ec_zn5, ec_zn6, ec_zn7, ec_zn8, ec_zn9, ec_zn10, ec_zn12, ec_zn13, ec_zn14, ec_zn15, ec_zn16, ec_zn20, ec_zn30, ec_zn48, ec_zn99, ec_zn120, ec_zn127, ec_zn11, ec_zn31, ec_zn46, ec_zn57, ec_zn59, ec_zn63, ec_zn101, ec_zn107, ec_zn108, ec_zn110, ec_zn111, ec_zn115, ec_zn116, ec_zn119, ec_zn167, ec_zn185, ec_zn192, ec_zn215, ec_zn233, ec_zn699, ec_zn932, ec_zn999, ec_znF, ec_zneg, ec_zadd, ec_zsub, ec_zmul, ec_zdivO, ec_em, ec_zltO, ec_zeqO, ec_zeq0, ec_qt, ec_qf, if_pos, if_neg, Int.add_zero, ec_aft_v, ec_aft_n, ec_rwE, ec_rwN, ec_rwP, ec_rwK, ec_rwS, ec_w_shpI, ec_w_shpL, ec_w_shpA, hD, g1, g2, g3, g5, g6, g7, g12, a1, b1, c1, d1, e1, f1, k1]
        · rw [if_neg (fun z : ed_qb σ x y s ∧ (0 ≤ a ∧ a ≤ 9) ∧ 0 ≤ b ∧ b ≤ 9 => qb z.2.2)]
          refine ⟨fun e => absurd e (by decide), fun _ => ?_⟩
          have hD := b0
          show ec_om 73 0 _ [] h = some (.inr 0, ec_thw h)
          simp (disch := first | (simp only [ec_w_kI, ec_w_kL, ec_w_kA, ec_w_shpI, ec_w_shpL, ec_w_shpA, ec_isR_r, ec_01z, ec_01o, ec_01q, hD]; done) | omega | (simp only [ec_w_shpI, ec_w_shpL, ec_w_shpA, hD]; refine ec_zinO ?_; omega) | (refine ec_nzO ?_; omega)) only [ec_s73_0, ec_s73_1, ec_s73_2, ec_s73_3, ec_s73_6, ec_s73_7, ec_s73_8, ec_s73_11, ec_s73_13, ec_s73_14, ec_s73_16, ec_s73_17, ec_s73_20, ec_s73_22, ec_s73_23, ec_s73_25, ec_s73_28, ec_s73_30, ec_s73_31, ec_s73_33, ec_s73_36, ec_s73_37, ec_s73_40, ec_s73_42, ec_s73_43, ec_s73_46, ec_s73_47, ec_s73_50, ec_s73_60, ec_s73_61, ec_s73_64, ec_s73_67, ec_s73_70, ec_s73_71, ec_s73_74, ec_s73_75, ec_s73_78, ec_s73_81, ec_s73_82, ec_s73_85, ec_s73_88, ec_s73_91, ec_s73_93, ec_s73_94, ec_s73_97, ec_s73_100, ec_s73_102, ec_s73_103, ec_s73_104, ec_s73_107, ec_s73_108, ec_s73_111, ec_s73_114, ec_s73_116, ec_s73_117, ec_s73_119, ec_s73_122, ec_s73_123, ec_s73_126, ec_s73_129, ec_s73_131, ec_s73_132, ec_s73_134, ec_s73_137, ec_s73_138, ec_s73_141, ec_s73_144, ec_s73_146, ec_s73_147, ec_s73_148, ec_s73_151, ec_s73_152, ec_s73_155, ec_s73_157, ec_s73_158, ec_s73_159, ec_s73_161, ec_s73_162, ec_s73_165, ec_s73_167, ec_zn0, ec_zn1, ec_zn2, ec_zn3, ec_zn4, ec_zn5, ec_zn6, ec_zn7, ec_zn8, ec_zn9, ec_zn10, ec_zn12, ec_zn13, ec_zn14, ec_zn15, ec_zn16, ec_zn20, ec_zn30, ec_zn48, ec_zn99, ec_zn120, ec_zn127, ec_zn11, ec_zn31, ec_zn46, ec_zn57, ec_zn59, ec_zn63, ec_zn101, ec_zn107, ec_zn108, ec_zn110, ec_zn111, ec_zn115, ec_zn116, ec_zn119, ec_zn167, ec_zn185, ec_zn192, ec_zn215, ec_zn233, ec_zn699, ec_zn932, ec_zn999, ec_znF, ec_zneg, ec_zadd, ec_zsub, ec_zmul, ec_zdivO, ec_em, ec_zltO, ec_zeqO, ec_zeq0, ec_qt, ec_qf, if_pos, if_neg, Int.add_zero, ec_aft_v, ec_aft_n, ec_rwE, ec_rwN, ec_rwP, ec_rwK, ec_rwS, ec_w_shpI, ec_w_shpL, ec_w_shpA, hD, g1, g2, g5, g6, g12, ec_aft_x]
      · rw [if_neg (fun z : ed_qb σ x y s ∧ (0 ≤ a ∧ a ≤ 9) ∧ 0 ≤ b ∧ b ≤ 9 => qa z.2.1)]
        refine ⟨fun e => absurd e (by decide), fun _ => ?_⟩
        have hD := b0
        show ec_om 73 0 _ [] h = some (.inr 0, ec_thw h)
        simp (disch := first | (simp only [ec_w_kI, ec_w_kL, ec_w_kA, ec_w_shpI, ec_w_shpL, ec_w_shpA, ec_isR_r, ec_01z, ec_01o, ec_01q, hD]; done) | omega | (simp only [ec_w_shpI, ec_w_shpL, ec_w_shpA, hD]; refine ec_zinO ?_; omega) | (refine ec_nzO ?_; omega)) only [ec_s73_0, ec_s73_1, ec_s73_2, ec_s73_3, ec_s73_6, ec_s73_7, ec_s73_8, ec_s73_11, ec_s73_13, ec_s73_14, ec_s73_16, ec_s73_17, ec_s73_20, ec_s73_22, ec_s73_23, ec_s73_25, ec_s73_28, ec_s73_30, ec_s73_31, ec_s73_33, ec_s73_36, ec_s73_37, ec_s73_40, ec_s73_42, ec_s73_43, ec_s73_46, ec_s73_47, ec_s73_50, ec_s73_60, ec_s73_61, ec_s73_64, ec_s73_67, ec_s73_70, ec_s73_71, ec_s73_74, ec_s73_75, ec_s73_78, ec_s73_81, ec_s73_82, ec_s73_85, ec_s73_88, ec_s73_91, ec_s73_93, ec_s73_94, ec_s73_97, ec_s73_100, ec_s73_102, ec_s73_103, ec_s73_104, ec_s73_107, ec_s73_108, ec_s73_111, ec_s73_114, ec_s73_116, ec_s73_117, ec_s73_119, ec_s73_122, ec_s73_123, ec_s73_126, ec_s73_129, ec_s73_131, ec_s73_132, ec_s73_134, ec_s73_137, ec_s73_138, ec_s73_141, ec_s73_144, ec_s73_146, ec_s73_147, ec_s73_148, ec_s73_151, ec_s73_152, ec_s73_155, ec_s73_157, ec_s73_158, ec_s73_159, ec_s73_161, ec_s73_162, ec_s73_165, ec_s73_167, ec_zn0, ec_zn1, ec_zn2, ec_zn3, ec_zn4, ec_zn5, ec_zn6, ec_zn7, ec_zn8, ec_zn9, ec_zn10, ec_zn12, ec_zn13, ec_zn14, ec_zn15, ec_zn16, ec_zn20, ec_zn30, ec_zn48, ec_zn99, ec_zn120, ec_zn127, ec_zn11, ec_zn31, ec_zn46, ec_zn57, ec_zn59, ec_zn63, ec_zn101, ec_zn107, ec_zn108, ec_zn110, ec_zn111, ec_zn115, ec_zn116, ec_zn119, ec_zn167, ec_zn185, ec_zn192, ec_zn215, ec_zn233, ec_zn699, ec_zn932, ec_zn999, ec_znF, ec_zneg, ec_zadd, ec_zsub, ec_zmul, ec_zdivO, ec_em, ec_zltO, ec_zeqO, ec_zeq0, ec_qt, ec_qf, if_pos, if_neg, Int.add_zero, ec_aft_v, ec_aft_n, ec_rwE, ec_rwN, ec_rwP, ec_rwK, ec_rwS, ec_w_shpI, ec_w_shpL, ec_w_shpA, hD, g1, g2, g5, g12, ec_aft_x]
    · rw [if_neg q2] at g2
      rw [if_neg (fun z : ed_qb σ x y s ∧ (0 ≤ a ∧ a ≤ 9) ∧ 0 ≤ b ∧ b ≤ 9 => q2 z.1)]
      refine ⟨fun e => absurd e (by decide), fun _ => ?_⟩
      have hD := b0
      show ec_om 73 0 _ [] h = some (.inr 0, ec_thw h)
      simp (disch := first | (simp only [ec_w_kI, ec_w_kL, ec_w_kA, ec_w_shpI, ec_w_shpL, ec_w_shpA, ec_isR_r, ec_01z, ec_01o, ec_01q, hD]; done) | omega | (simp only [ec_w_shpI, ec_w_shpL, ec_w_shpA, hD]; refine ec_zinO ?_; omega) | (refine ec_nzO ?_; omega)) only [ec_s73_0, ec_s73_1, ec_s73_2, ec_s73_3, ec_s73_6, ec_s73_7, ec_s73_8, ec_s73_11, ec_s73_13, ec_s73_14, ec_s73_16, ec_s73_17, ec_s73_20, ec_s73_22, ec_s73_23, ec_s73_25, ec_s73_28, ec_s73_30, ec_s73_31, ec_s73_33, ec_s73_36, ec_s73_37, ec_s73_40, ec_s73_42, ec_s73_43, ec_s73_46, ec_s73_47, ec_s73_50, ec_s73_60, ec_s73_61, ec_s73_64, ec_s73_67, ec_s73_70, ec_s73_71, ec_s73_74, ec_s73_75, ec_s73_78, ec_s73_81, ec_s73_82, ec_s73_85, ec_s73_88, ec_s73_91, ec_s73_93, ec_s73_94, ec_s73_97, ec_s73_100, ec_s73_102, ec_s73_103, ec_s73_104, ec_s73_107, ec_s73_108, ec_s73_111, ec_s73_114, ec_s73_116, ec_s73_117, ec_s73_119, ec_s73_122, ec_s73_123, ec_s73_126, ec_s73_129, ec_s73_131, ec_s73_132, ec_s73_134, ec_s73_137, ec_s73_138, ec_s73_141, ec_s73_144, ec_s73_146, ec_s73_147, ec_s73_148, ec_s73_151, ec_s73_152, ec_s73_155, ec_s73_157, ec_s73_158, ec_s73_159, ec_s73_161, ec_s73_162, ec_s73_165, ec_s73_167, ec_zn0, ec_zn1, ec_zn2, ec_zn3, ec_zn4, ec_zn5, ec_zn6, ec_zn7, ec_zn8, ec_zn9, ec_zn10, ec_zn12, ec_zn13, ec_zn14, ec_zn15, ec_zn16, ec_zn20, ec_zn30, ec_zn48, ec_zn99, ec_zn120, ec_zn127, ec_zn11, ec_zn31, ec_zn46, ec_zn57, ec_zn59, ec_zn63, ec_zn101, ec_zn107, ec_zn108, ec_zn110, ec_zn111, ec_zn115, ec_zn116, ec_zn119, ec_zn167, ec_zn185, ec_zn192, ec_zn215, ec_zn233, ec_zn699, ec_zn932, ec_zn999, ec_znF, ec_zneg, ec_zadd, ec_zsub, ec_zmul, ec_zdivO, ec_em, ec_zltO, ec_zeqO, ec_zeq0, ec_qt, ec_qf, if_pos, if_neg, Int.add_zero, ec_aft_v, ec_aft_n, ec_rwE, ec_rwN, ec_rwP, ec_rwK, ec_rwS, ec_w_shpI, ec_w_shpL, ec_w_shpA, hD, g1, g2, g12, ec_aft_x]
  · rw [if_neg q1] at g1
    rw [if_neg q1]
    refine ⟨fun e => absurd e (by decide), fun _ => ?_⟩
    have hD := b0
    show ec_om 73 0 _ [] h = some (.inr 2, ec_thw h)
    simp (disch := first | (simp only [ec_w_kI, ec_w_kL, ec_w_kA, ec_w_shpI, ec_w_shpL, ec_w_shpA, ec_isR_r, ec_01z, ec_01o, ec_01q, hD]; done) | omega | (simp only [ec_w_shpI, ec_w_shpL, ec_w_shpA, hD]; refine ec_zinO ?_; omega) | (refine ec_nzO ?_; omega)) only [ec_s73_0, ec_s73_1, ec_s73_2, ec_s73_3, ec_s73_6, ec_s73_7, ec_s73_8, ec_s73_11, ec_s73_13, ec_s73_14, ec_s73_16, ec_s73_17, ec_s73_20, ec_s73_22, ec_s73_23, ec_s73_25, ec_s73_28, ec_s73_30, ec_s73_31, ec_s73_33, ec_s73_36, ec_s73_37, ec_s73_40, ec_s73_42, ec_s73_43, ec_s73_46, ec_s73_47, ec_s73_50, ec_s73_60, ec_s73_61, ec_s73_64, ec_s73_67, ec_s73_70, ec_s73_71, ec_s73_74, ec_s73_75, ec_s73_78, ec_s73_81, ec_s73_82, ec_s73_85, ec_s73_88, ec_s73_91, ec_s73_93, ec_s73_94, ec_s73_97, ec_s73_100, ec_s73_102, ec_s73_103, ec_s73_104, ec_s73_107, ec_s73_108, ec_s73_111, ec_s73_114, ec_s73_116, ec_s73_117, ec_s73_119, ec_s73_122, ec_s73_123, ec_s73_126, ec_s73_129, ec_s73_131, ec_s73_132, ec_s73_134, ec_s73_137, ec_s73_138, ec_s73_141, ec_s73_144, ec_s73_146, ec_s73_147, ec_s73_148, ec_s73_151, ec_s73_152, ec_s73_155, ec_s73_157, ec_s73_158, ec_s73_159, ec_s73_161, ec_s73_162, ec_s73_165, ec_s73_167, ec_zn0, ec_zn1, ec_zn2, ec_zn3, ec_zn4, ec_zn5, ec_zn6, ec_zn7, ec_zn8, ec_zn9, ec_zn10, ec_zn12, ec_zn13, ec_zn14, ec_zn15, ec_zn16, ec_zn20, ec_zn30, ec_zn48, ec_zn99, ec_zn120, ec_zn127, ec_zn11, ec_zn31, ec_zn46, ec_zn57, ec_zn59, ec_zn63, ec_zn101, ec_zn107, ec_zn108, ec_zn110, ec_zn111, ec_zn115, ec_zn116, ec_zn119, ec_zn167, ec_zn185, ec_zn192, ec_zn215, ec_zn233, ec_zn699, ec_zn932, ec_zn999, ec_znF, ec_zneg, ec_zadd, ec_zsub, ec_zmul, ec_zdivO, ec_em, ec_zltO, ec_zeqO, ec_zeq0, ec_qt, ec_qf, if_pos, if_neg, Int.add_zero, ec_aft_v, ec_aft_n, ec_rwE, ec_rwN, ec_rwP, ec_rwK, ec_rwS, ec_w_shpI, ec_w_shpL, ec_w_shpA, hD, g1, ec_aft_x]
end EDJ
