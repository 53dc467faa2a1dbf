/-! The law's calls that change, on: traps, the hero, an action. -/
theorem ed_su_cm {σ : ec_Sg} {k k' v v' : Int} (h : k ≠ k') : ec_su (ec_su σ k v) k' v' = ec_su (ec_su σ k' v') k v := by
  funext j
  by_cases e : j = k
  · rw [ec_suN (by omega), ec_suE e, ec_suE e]
  · by_cases e' : j = k'
    · rw [ec_suE e', ec_suN e, ec_suE e']
    · rw [ec_suN e', ec_suN e, ec_suN e, ec_suN e']
theorem ed_end_c {τ : ec_Sg} (w : ec_WF τ) {p l : Int} (hp : ec_ing τ p) {c : Int} (hc : 2 ≤ c ∧ c ≤ 5) : ed_end p l τ c = τ c := by
  have W1 := ed_WF_brn w
  have b0 := ed_brn_c w (c := 0) (by omega) (by omega) (by omega)
  have b1 := ed_brn_c w (c := 1) (by omega) (by omega) (by omega)
  have bc := ed_brn_c w (c := c) (by omega) (by omega) (by omega)
  obtain ⟨W2, h2⟩ := ed_her_s W1 (l := l) ((ed_ing_c b0 b1).mpr hp)
  have hc2 := h2 c (by omega)
  have A : ec_WF (ed_acts (ed_her p l (ed_brn τ))) ∧ ed_acts (ed_her p l (ed_brn τ)) c = ed_her p l (ed_brn τ) c := by
    have k := ed_fold_ind (f := ed_act1) (I := fun _ ρ => ec_WF ρ ∧ ρ c = ed_her p l (ed_brn τ) c ∧ ρ 4 = ed_her p l (ed_brn τ) 4) ((ed_her p l (ed_brn τ)) 4).toNat 0 (ed_her p l (ed_brn τ)) ⟨W2, rfl, rfl⟩ (fun j ρ hj hI => by
      have jj : 0 ≤ j ∧ j < ρ 4 := by have := hI.2.2; omega
      exact ⟨ed_WF_act1 hI.1 jj, (ed_act1_c hI.1 jj (by omega)).trans hI.2.1, (ed_act1_c hI.1 jj (by omega)).trans hI.2.2⟩)
    exact ⟨k.1, k.2.1⟩
  have B : ed_hrt (ed_acts (ed_her p l (ed_brn τ))) c = ed_acts (ed_her p l (ed_brn τ)) c := ed_fold_ind (f := ed_hrt1) (I := fun _ ρ => ρ c = ed_acts (ed_her p l (ed_brn τ)) c) ((ed_acts (ed_her p l (ed_brn τ))) 4).toNat 0 (ed_acts (ed_her p l (ed_brn τ))) rfl (fun j ρ hj hI => by
    refine Eq.trans ?_ hI
    unfold ed_hrt1
    split
    · rw [ed_hit_c (by omega), ec_suN (by omega)]
    · rfl)
  have D : ed_drs (ed_hrt (ed_acts (ed_her p l (ed_brn τ)))) c = ed_hrt (ed_acts (ed_her p l (ed_brn τ))) c := ed_fold_ind (f := ed_drs1) (I := fun _ ρ => ρ c = ed_hrt (ed_acts (ed_her p l (ed_brn τ))) c) ((ed_hrt (ed_acts (ed_her p l (ed_brn τ)))) 2).toNat 0 (ed_hrt (ed_acts (ed_her p l (ed_brn τ)))) rfl (fun j ρ hj hI => by
    refine Eq.trans ?_ hI
    unfold ed_drs1
    split
    · simp (disch := omega) only [ec_suN]
    · rfl)
  unfold ed_end
  rw [ec_suN (by omega), D, B, A.2, hc2, bc]
theorem ed_turn_4 {σ : ec_Sg} (w : ec_WF σ) {a : Int} (ha : 0 ≤ a ∧ a < 16) (h : ed_rsn σ a = 0) (b : ed_L4 σ) : ed_L4 (ed_turn σ a) := by
  have d := ed_WF_does w ha h
  have s := ed_sp_in w ha h
  have dc : ∀ c : Int, 0 ≤ c ∧ c ≤ 5 → ed_does σ a c = σ c := fun c hc => ed_does_c h (by omega) (by omega) (by omega)
  have s' : ec_ing (ed_does σ a) (ed_sp σ a) := (ed_ing_c (dc 0 (by omega)) (dc 1 (by omega))).mpr s
  have k : ∀ c : Int, 2 ≤ c ∧ c ≤ 5 → ed_turn σ a c = σ c := fun c hc => by
    unfold ed_turn
    split
    · split
      · have e := ed_spr_c (σ := ed_does σ a) (c := c) (by omega) (by omega) d
        rw [ed_end_c (ed_WF_spr d) ((ed_ing_c (ed_spr_c (by omega) (by omega) d) (ed_spr_c (by omega) (by omega) d)).mpr d.2.1.1) hc, e, dc c (by omega)]
      · rw [ed_end_c d s' hc, dc c (by omega)]
    · rw [ed_end_c d s' hc, dc c (by omega)]
  exact b.of (k 2 (by omega)) (k 3 (by omega)) (k 4 (by omega)) (k 5 (by omega))
section EDR
variable {h : ec_Hp} {σ : ec_Sg} {n : Int} {p : Int → ec_Sg} {T : Int → Int} {z : Int32} {v wy x y t s : Int}
theorem ec_p129l (S : ed_ST h σ n p T) (hz : 0 ≤ t ∧ t < 48) : ∀ (m : Nat) (k : Int), 0 ≤ k → k + m = σ 5 → (∀ j : Int, 0 ≤ j ∧ j < k → σ (215 + 3 * j) ≠ t) →
    ec_om 129 900 [.ref 0, .ref 72, .ref 73, .ref 74, .ref 75, .ref 76, .ref 77, .ref 78, .int z, .int (ec_i v), .int (ec_i wy), .int (ec_i x), .int (ec_i y), .int (ec_i t), .int (ec_i s), .int (ec_i k), .double 0] [] h = ec_om 129 926 [.ref 0, .ref 72, .ref 73, .ref 74, .ref 75, .ref 76, .ref 77, .ref 78, .int z, .int (ec_i v), .int (ec_i wy), .int (ec_i x), .int (ec_i y), .int (ec_i t), .int (ec_i s), .int (ec_i (if ed_tr σ t = -1 then σ 5 else ed_tr σ t)), .double 0] [] h := by
  have W := S.W
  have w := W.1
  have hB := S.2.2.2
  have hD := S.2.1
  have hA := S.2.2.1
  unfold ed_L4 at hB
  unfold ed_LD at hD
  unfold ed_LA at hA
  have tr := ed_tr_rg W (x := t)
  intro m
  induction m with
  | zero =>
    intro k h0 hk hn
    have hk : k = σ 5 := by omega
    subst hk
    have e : ed_tr σ t = -1 := by
      rcases tr with u | u
      · exact u.1
      · exact absurd u.2.2 (hn _ ⟨u.1, u.2.1⟩)
    rw [if_pos e, ec_s129_900]
    simp (disch := first | (simp only [ec_w_kI, ec_w_kL, ec_w_kA, ec_w_shpI, ec_w_shpL, ec_w_shpA, ec_isR_r, ec_01z, ec_01o, ec_01q, hD]; done) | omega | (simp only [ec_w_shpI, ec_w_shpL, ec_w_shpA, hD]; refine ec_zinO ?_; omega) | (refine ec_nzO ?_; omega)) only [ec_s129_902, ec_s129_903, ec_s129_904, ec_s129_905, ec_s129_908, ec_s129_910, ec_s129_911, ec_s129_913, ec_s129_914, ec_s129_915, ec_s129_917, ec_s129_920, ec_s129_923, ec_zn0, ec_zn1, ec_zn2, ec_zn3, ec_zn4, ec_zn5, ec_zn6, ec_zn7, ec_zn8, ec_zn9, ec_zn10, ec_zn12, ec_zn13, ec_zn14, ec_zn15, ec_zn16, ec_zn20, ec_zn30, ec_zn48, ec_zn99, ec_zn120, ec_zn127, ec_zn11, ec_zn31, ec_zn46, ec_zn57, ec_zn59, ec_zn63, ec_zn101, ec_zn107, ec_zn108, ec_zn110, ec_zn111, ec_zn115, ec_zn116, ec_zn119, ec_zn167, ec_zn185, ec_zn192, ec_zn215, ec_zn233, ec_zn699, ec_zn932, ec_zn999, ec_znF, ec_zneg, ec_zadd, ec_zsub, ec_zmul, ec_zdivO, ec_em, ec_zltO, ec_zeqO, ec_zeq0, ec_qt, ec_qf, if_pos, if_neg, Int.add_zero, ec_aft_v, ec_aft_n, ec_rwE, ec_rwN, ec_rwP, ec_rwK, ec_rwS, ec_w_shpI, ec_w_shpL, ec_w_shpA, ec_zn22, ec_zn24, ec_zn40, ec_zn45, ec_zn47, ec_zn96, ec_zn100, ec_zn384, ec_zn480, ec_zn960, ec_zn2001, ec_zn2002, ec_zn2003, ec_zn7919, ec_zn40503, ec_zn10000000, ec_zn2147483647, hD, hA]
  | succ m ih =>
    intro k h0 hk hn
    have kk : 0 ≤ k ∧ k < σ 5 := by omega
    have M := (ed_trap W kk).1.1
    have un := ed_tr_un W (x := t) kk
    by_cases q : σ (215 + 3 * k) = t
    · have e := un.mp q
      rw [if_neg (by omega), ← e, ec_s129_900]
      simp (disch := first | (simp only [ec_w_kI, ec_w_kL, ec_w_kA, ec_w_shpI, ec_w_shpL, ec_w_shpA, ec_isR_r, ec_01z, ec_01o, ec_01q, hD]; done) | omega | (simp only [ec_w_shpI, ec_w_shpL, ec_w_shpA, hD]; refine ec_zinO ?_; omega) | (refine ec_nzO ?_; omega)) only [ec_s129_902, ec_s129_903, ec_s129_904, ec_s129_905, ec_s129_908, ec_s129_910, ec_s129_911, ec_s129_913, ec_s129_914, ec_s129_915, ec_s129_917, ec_s129_920, ec_s129_923, ec_zn0, ec_zn1, ec_zn2, ec_zn3, ec_zn4, ec_zn5, ec_zn6, ec_zn7, ec_zn8, ec_zn9, ec_zn10, ec_zn12, ec_zn13, ec_zn14, ec_zn15, ec_zn16, ec_zn20, ec_zn30, ec_zn48, ec_zn99, ec_zn120, ec_zn127, ec_zn11, ec_zn31, ec_zn46, ec_zn57, ec_zn59, ec_zn63, ec_zn101, ec_zn107, ec_zn108, ec_zn110, ec_zn111, ec_zn115, ec_zn116, ec_zn119, ec_zn167, ec_zn185, ec_zn192, ec_zn215, ec_zn233, ec_zn699, ec_zn932, ec_zn999, ec_znF, ec_zneg, ec_zadd, ec_zsub, ec_zmul, ec_zdivO, ec_em, ec_zltO, ec_zeqO, ec_zeq0, ec_qt, ec_qf, if_pos, if_neg, Int.add_zero, ec_aft_v, ec_aft_n, ec_rwE, ec_rwN, ec_rwP, ec_rwK, ec_rwS, ec_w_shpI, ec_w_shpL, ec_w_shpA, ec_zn22, ec_zn24, ec_zn40, ec_zn45, ec_zn47, ec_zn96, ec_zn100, ec_zn384, ec_zn480, ec_zn960, ec_zn2001, ec_zn2002, ec_zn2003, ec_zn7919, ec_zn40503, ec_zn10000000, ec_zn2147483647, hD, hA, q]
    · have e1 := ih (k + 1) (by omega) (by omega) (fun j hj => by
        by_cases ej : j = k
        · rw [ej]; exact q
        · exact hn j (by omega))
      rw [ec_s129_900]
      simp (disch := first | (simp only [ec_w_kI, ec_w_kL, ec_w_kA, ec_w_shpI, ec_w_shpL, ec_w_shpA, ec_isR_r, ec_01z, ec_01o, ec_01q, hD]; done) | omega | (simp only [ec_w_shpI, ec_w_shpL, ec_w_shpA, hD]; refine ec_zinO ?_; omega) | (refine ec_nzO ?_; omega)) only [ec_s129_902, ec_s129_903, ec_s129_904, ec_s129_905, ec_s129_908, ec_s129_910, ec_s129_911, ec_s129_913, ec_s129_914, ec_s129_915, ec_s129_917, ec_s129_920, ec_s129_923, ec_zn0, ec_zn1, ec_zn2, ec_zn3, ec_zn4, ec_zn5, ec_zn6, ec_zn7, ec_zn8, ec_zn9, ec_zn10, ec_zn12, ec_zn13, ec_zn14, ec_zn15, ec_zn16, ec_zn20, ec_zn30, ec_zn48, ec_zn99, ec_zn120, ec_zn127, ec_zn11, ec_zn31, ec_zn46, ec_zn57, ec_zn59, ec_zn63, ec_zn101, ec_zn107, ec_zn108, ec_zn110, ec_zn111, ec_zn115, ec_zn116, ec_zn119, ec_zn167, ec_zn185, ec_zn192, ec_zn215, ec_zn233, ec_zn699, ec_zn932, ec_zn999, ec_znF, ec_zneg, ec_zadd, ec_zsub, ec_zmul, ec_zdivO, ec_em, ec_zltO, ec_zeqO, ec_zeq0, ec_qt, ec_qf, if_pos, if_neg, Int.add_zero, ec_aft_v, ec_aft_n, ec_rwE, ec_rwN, ec_rwP, ec_rwK, ec_rwS, ec_w_shpI, ec_w_shpL, ec_w_shpA, ec_zn22, ec_zn24, ec_zn40, ec_zn45, ec_zn47, ec_zn96, ec_zn100, ec_zn384, ec_zn480, ec_zn960, ec_zn2001, ec_zn2002, ec_zn2003, ec_zn7919, ec_zn40503, ec_zn10000000, ec_zn2147483647, hD, hA, e1]
theorem ec_p129f (S : ed_ST h σ n p T) (hv : 0 ≤ v ∧ v < 10000000) (hw : wy = 12) (hq : ed_qc σ x y) (ht : t = 8 * y + x) : ed_Ok h T (ec_om 129 60 [.ref 0, .ref 72, .ref 73, .ref 74, .ref 75, .ref 76, .ref 77, .ref 78, .int z, .int (ec_i v), .int (ec_i wy), .int (ec_i x), .int (ec_i y), .int (ec_i t), .int (ec_i s), .double 0, .double 0] [] h) := by
  have W := S.W
  have w := W.1
  have hB := S.2.2.2
  have hD := S.2.1
  have hA := S.2.2.1
  have D0 := hD
  have A0 := hA
  have hB0 := hB
  have rx : ec_rg x := by unfold ed_qc at hq; unfold ec_rg; omega
  have ry : ec_rg y := by unfold ed_qc at hq; unfold ec_rg; omega
  have zz : 0 ≤ t ∧ t < 48 := by unfold ed_qc at hq; omega
  subst hw
  have s0 : ec_om 129 60 [.ref 0, .ref 72, .ref 73, .ref 74, .ref 75, .ref 76, .ref 77, .ref 78, .int z, .int (ec_i v), .int (ec_i 12), .int (ec_i x), .int (ec_i y), .int (ec_i t), .int (ec_i s), .double 0, .double 0] [] h = ec_om 129 900 [.ref 0, .ref 72, .ref 73, .ref 74, .ref 75, .ref 76, .ref 77, .ref 78, .int z, .int (ec_i v), .int (ec_i 12), .int (ec_i x), .int (ec_i y), .int (ec_i t), .int (ec_i s), .int (ec_i 0), .double 0] [] h := by
    simp (disch := first | (simp only [ec_01z, ec_01o, ec_01q]; done) | omega | (refine ec_nzO ?_; omega)) only [ec_s129_60, ec_s129_62, ec_s129_65, ec_s129_67, ec_s129_68, ec_s129_69, ec_s129_205, ec_s129_207, ec_s129_209, ec_s129_540, ec_s129_542, ec_s129_544, ec_s129_627, ec_s129_629, ec_s129_631, ec_s129_750, ec_s129_752, ec_s129_754, ec_s129_890, ec_s129_892, ec_s129_894, ec_s129_897, ec_s129_898, ec_zn0, ec_zn1, ec_zn2, ec_zn3, ec_zn4, ec_zn5, ec_zn6, ec_zn7, ec_zn8, ec_zn9, ec_zn10, ec_zn12, ec_zn13, ec_zn14, ec_zn15, ec_zn16, ec_zn20, ec_zn30, ec_zn48, ec_zn99, ec_zn120, ec_zn127, ec_zn11, ec_zn31, ec_zn46, ec_zn57, ec_zn59, ec_zn63, ec_zn101, ec_zn107, ec_zn108, ec_zn110, ec_zn111, ec_zn115, ec_zn116, ec_zn119, ec_zn167, ec_zn185, ec_zn192, ec_zn215, ec_zn233, ec_zn699, ec_zn932, ec_zn999, ec_znF, ec_zneg, ec_zadd, ec_zsub, ec_zmul, ec_zdivO, ec_em, ec_zltO, ec_zeqO, ec_zeq0, ec_qt, ec_qf, if_pos, if_neg, Int.add_zero, ec_aft_v, ec_aft_n, ec_rwE, ec_rwN, ec_rwP, ec_rwK, ec_rwS, ec_w_shpI, ec_w_shpL, ec_w_shpA, ec_zn22, ec_zn24, ec_zn40, ec_zn45, ec_zn47, ec_zn96, ec_zn100, ec_zn384, ec_zn480, ec_zn960, ec_zn2001, ec_zn2002, ec_zn2003, ec_zn7919, ec_zn40503, ec_zn10000000, ec_zn2147483647]
  have l := ec_p129l (z := z) (v := v) (wy := 12) (x := x) (y := y) (s := s) S zz (σ 5).toNat 0 (by omega) (by omega) (fun j hj => absurd hj (by omega))
  rw [s0, l]
  clear s0 l
  have tr := ed_tr_rg W (x := t)
  unfold ed_L4 at hB
  unfold ed_LD at hD
  unfold ed_LA at hA
  by_cases q : ed_tr σ t = -1
  · rw [if_pos q]
    by_cases h5 : σ 5 = 3
    · have k1 : ed_kSt σ x (σ 1) = 1 := by unfold ed_kSt; rw [if_neg (by unfold ed_qc; omega)]
      have c1 := (ec_c77s S.1 (x := x) (y := σ 1) rx (by unfold ec_rg; omega)).2 (by rw [k1]; decide)
      rw [k1] at c1
      have r1 := (ec_q136 S.k).2.1 c1
      have G1 : ed_gz (fun _ => False) 1 h (ec_thw h) := ed_gz.thw
      refine ⟨_, σ, n, p, ?_, S.gr G1 (fun _ _ u => u), (G1.mono (T := fun x => x ≤ 78) (fun _ _ u => u.elim)).up (by omega)⟩
      simp (disch := first | (simp only [ec_w_kI, ec_w_kL, ec_w_kA, ec_w_shpI, ec_w_shpL, ec_w_shpA, ec_isR_r, ec_01z, ec_01o, ec_01q, hD]; done) | omega | (simp only [ec_w_shpI, ec_w_shpL, ec_w_shpA, hD]; refine ec_zinO ?_; omega) | (refine ec_nzO ?_; omega)) only [ec_s129_926, ec_s129_928, ec_s129_929, ec_s129_932, ec_s129_933, ec_s129_935, ec_s129_936, ec_s129_937, ec_s129_938, ec_s129_941, ec_s129_944, ec_s129_947, ec_s129_948, ec_s129_951, ec_s129_952, ec_zn0, ec_zn1, ec_zn2, ec_zn3, ec_zn4, ec_zn5, ec_zn6, ec_zn7, ec_zn8, ec_zn9, ec_zn10, ec_zn12, ec_zn13, ec_zn14, ec_zn15, ec_zn16, ec_zn20, ec_zn30, ec_zn48, ec_zn99, ec_zn120, ec_zn127, ec_zn11, ec_zn31, ec_zn46, ec_zn57, ec_zn59, ec_zn63, ec_zn101, ec_zn107, ec_zn108, ec_zn110, ec_zn111, ec_zn115, ec_zn116, ec_zn119, ec_zn167, ec_zn185, ec_zn192, ec_zn215, ec_zn233, ec_zn699, ec_zn932, ec_zn999, ec_znF, ec_zneg, ec_zadd, ec_zsub, ec_zmul, ec_zdivO, ec_em, ec_zltO, ec_zeqO, ec_zeq0, ec_qt, ec_qf, if_pos, if_neg, Int.add_zero, ec_aft_v, ec_aft_n, ec_rwE, ec_rwN, ec_rwP, ec_rwK, ec_rwS, ec_w_shpI, ec_w_shpL, ec_w_shpA, ec_zn22, ec_zn24, ec_zn40, ec_zn45, ec_zn47, ec_zn96, ec_zn100, ec_zn384, ec_zn480, ec_zn960, ec_zn2001, ec_zn2002, ec_zn2003, ec_zn7919, ec_zn40503, ec_zn10000000, ec_zn2147483647, hD, hA, h5, r1, reduceIte]
    · have e1 : 215 + 3 * σ 5 + 1 = 215 + (3 * σ 5 + 1) := by omega
      have e2 : 215 + 3 * σ 5 + 2 = 215 + (3 * σ 5 + 2) := by omega
      have L := (((A0.w78 (z := 3 * σ 5 + 2) (v := 0) (by omega)).w78 (z := 3 * σ 5) (v := t) (by omega)).w78 (z := 3 * σ 5 + 1) (v := 2) (by omega)).w72 (z := 5) (v := σ 5 + 1) (by omega)
      have ea : ed_str σ t = ec_su (ec_su (ec_su (ec_su σ (215 + (3 * σ 5 + 2)) 0) (215 + 3 * σ 5) t) (215 + (3 * σ 5 + 1)) 2) 5 (σ 5 + 1) := by
        unfold ed_str
        rw [if_pos q, e1, e2, ed_su_cm (σ := σ) (k := 215 + (3 * σ 5 + 2)) (by omega), ed_su_cm (k := 215 + (3 * σ 5 + 1)) (k' := 5) (by omega)]
      rw [← ea] at L
      have B1 : ed_L4 (ed_str σ t) := by
        rw [ea]
        unfold ed_L4
        simp (disch := omega) only [ec_suN, ec_suE]
        omega
      have t3 : ed_str σ t 5 = σ 5 + 1 := by rw [ea, ec_suE rfl]
      have k1 : ed_kSt σ x y = 0 := by unfold ed_kSt; rw [if_pos hq, if_neg (by omega)]
      generalize eh : ec_setI (ec_setI (ec_setI (ec_setI h 78 (ec_i (3 * σ 5 + 2)).toNatClampNeg (ec_i 0)) 78 (ec_i (3 * σ 5)).toNatClampNeg (ec_i t)) 78 (ec_i (3 * σ 5 + 1)).toNatClampNeg (ec_i 2)) 72 (ec_i 5).toNatClampNeg (ec_i (σ 5 + 1)) = h1 at L
      have f1 : ec_fg ed_my h h1 := by rw [← eh]; exact (((ec_fg.refl.I (by exact ⟨by decide, by decide⟩)).I (by exact ⟨by decide, by decide⟩)).I (by exact ⟨by decide, by decide⟩)).I (by exact ⟨by decide, by decide⟩)
      have G1 : ed_gz ed_mz 0 h h1 := ed_gz.fg (S := ed_mz) f1 (fun _ _ u => u)
      have D1 := D0.gr G1
      have C1 := S.1.mz D0.len G1
      obtain ⟨h2', c1, c2, c3⟩ := (ec_c77s C1 rx ry).1 k1
      have r1 := (ec_q136 C1.1.1.1).1 _ _ c1
      rw [← ht] at c2 r1
      rw [if_pos q] at r1
      refine ed_Ok.mk ?_ G1 (by omega) D1 L B1 c2 c3
      have s1 : ec_om 129 926 [.ref 0, .ref 72, .ref 73, .ref 74, .ref 75, .ref 76, .ref 77, .ref 78, .int z, .int (ec_i v), .int (ec_i 12), .int (ec_i x), .int (ec_i y), .int (ec_i t), .int (ec_i s), .int (ec_i (σ 5)), .double 0] [] h = ec_om 129 1021 [.ref 0, .ref 72, .ref 73, .ref 74, .ref 75, .ref 76, .ref 77, .ref 78, .int z, .int (ec_i v), .int (ec_i 12), .int (ec_i x), .int (ec_i y), .int (ec_i t), .int (ec_i s), .int (ec_i (σ 5)), .double 0] [] h1 := by
        rw [← eh]
        simp (disch := first | (simp only [ec_w_kI, ec_w_kL, ec_w_kA, ec_w_shpI, ec_w_shpL, ec_w_shpA, ec_isR_r, ec_01z, ec_01o, ec_01q, hD]; done) | omega | (simp only [ec_w_shpI, ec_w_shpL, ec_w_shpA, hD]; refine ec_zinO ?_; omega) | (refine ec_nzO ?_; omega)) only [ec_s129_926, ec_s129_928, ec_s129_929, ec_s129_953, ec_s129_955, ec_s129_956, ec_s129_958, ec_s129_959, ec_s129_960, ec_s129_961, ec_s129_963, ec_s129_964, ec_s129_965, ec_s129_966, ec_s129_969, ec_s129_970, ec_s129_973, ec_s129_975, ec_s129_976, ec_s129_978, ec_s129_979, ec_s129_980, ec_s129_981, ec_s129_982, ec_s129_983, ec_s129_985, ec_s129_986, ec_s129_988, ec_s129_989, ec_s129_991, ec_s129_992, ec_s129_994, ec_s129_995, ec_s129_997, ec_s129_998, ec_s129_999, ec_s129_1000, ec_s129_1001, ec_s129_1002, ec_s129_1003, ec_s129_1004, ec_s129_1005, ec_s129_1006, ec_s129_1008, ec_s129_1009, ec_s129_1010, ec_s129_1011, ec_s129_1014, ec_s129_1015, ec_s129_1018, ec_s129_1019, ec_s129_1020, ec_zn0, ec_zn1, ec_zn2, ec_zn3, ec_zn4, ec_zn5, ec_zn6, ec_zn7, ec_zn8, ec_zn9, ec_zn10, ec_zn12, ec_zn13, ec_zn14, ec_zn15, ec_zn16, ec_zn20, ec_zn30, ec_zn48, ec_zn99, ec_zn120, ec_zn127, ec_zn11, ec_zn31, ec_zn46, ec_zn57, ec_zn59, ec_zn63, ec_zn101, ec_zn107, ec_zn108, ec_zn110, ec_zn111, ec_zn115, ec_zn116, ec_zn119, ec_zn167, ec_zn185, ec_zn192, ec_zn215, ec_zn233, ec_zn699, ec_zn932, ec_zn999, ec_znF, ec_zneg, ec_zadd, ec_zsub, ec_zmul, ec_zdivO, ec_em, ec_zltO, ec_zeqO, ec_zeq0, ec_qt, ec_qf, if_pos, if_neg, Int.add_zero, ec_aft_v, ec_aft_n, ec_rwE, ec_rwN, ec_rwP, ec_rwK, ec_rwS, ec_w_shpI, ec_w_shpL, ec_w_shpA, ec_zn22, ec_zn24, ec_zn40, ec_zn45, ec_zn47, ec_zn96, ec_zn100, ec_zn384, ec_zn480, ec_zn960, ec_zn2001, ec_zn2002, ec_zn2003, ec_zn7919, ec_zn40503, ec_zn10000000, ec_zn2147483647, hD, hA]
      rw [s1]
      simp (disch := first | (simp only [ec_01z, ec_01o, ec_01q]; done) | omega | (refine ec_nzO ?_; omega)) only [ec_s129_1021, ec_s129_1022, ec_s129_1024, ec_s129_1026, ec_s129_1029, ec_s129_1031, ec_s129_1034, ec_s129_1035, ec_s129_1038, ec_s129_1039, ec_zn0, ec_zn1, ec_zn2, ec_zn3, ec_zn4, ec_zn5, ec_zn6, ec_zn7, ec_zn8, ec_zn9, ec_zn10, ec_zn12, ec_zn13, ec_zn14, ec_zn15, ec_zn16, ec_zn20, ec_zn30, ec_zn48, ec_zn99, ec_zn120, ec_zn127, ec_zn11, ec_zn31, ec_zn46, ec_zn57, ec_zn59, ec_zn63, ec_zn101, ec_zn107, ec_zn108, ec_zn110, ec_zn111, ec_zn115, ec_zn116, ec_zn119, ec_zn167, ec_zn185, ec_zn192, ec_zn215, ec_zn233, ec_zn699, ec_zn932, ec_zn999, ec_znF, ec_zneg, ec_zadd, ec_zsub, ec_zmul, ec_zdivO, ec_em, ec_zltO, ec_zeqO, ec_zeq0, ec_qt, ec_qf, if_pos, if_neg, Int.add_zero, ec_aft_v, ec_aft_n, ec_rwE, ec_rwN, ec_rwP, ec_rwK, ec_rwS, ec_w_shpI, ec_w_shpL, ec_w_shpA, ec_zn22, ec_zn24, ec_zn40, ec_zn45, ec_zn47, ec_zn96, ec_zn100, ec_zn384, ec_zn480, ec_zn960, ec_zn2001, ec_zn2002, ec_zn2003, ec_zn7919, ec_zn40503, ec_zn10000000, ec_zn2147483647, r1, reduceIte]
  · have tr := tr.resolve_left (fun u => q u.1)
    rw [if_neg q]
    have ts : ed_str σ t = ec_su σ (215 + 3 * ed_tr σ t + 1) 2 := if_neg q
    have k1 : ed_kSt σ x y = 0 := by unfold ed_kSt; rw [if_pos hq, if_neg (by rw [← ht]; exact fun u => q u.1)]
    have rv : (if ed_tr σ t = -1 then σ 5 else ed_tr σ t) = ed_tr σ t := if_neg q
    generalize ek : ed_tr σ t = k at tr ts rv
    have e1 : 215 + 3 * k + 1 = 215 + (3 * k + 1) := by omega
    rw [e1] at ts
    have L := (((A0.w78 (z := 3 * k + 2) (v := σ (215 + (3 * k + 2))) (by omega)).w78 (z := 3 * k) (v := t) (by omega)).w78 (z := 3 * k + 1) (v := 2) (by omega)).w72 (z := 5) (v := σ 5) (by omega)
    rw [ed_su_at (σ := σ) rfl, ed_su_at (σ := σ) tr.2.2, ed_su_at (σ := ec_su σ (215 + (3 * k + 1)) 2) (ec_suN (by omega)), ← ts] at L
    have B1 : ed_L4 (ed_str σ t) := by
      rw [ts]
      exact hB0.of (ec_suN (by omega)) (ec_suN (by omega)) (ec_suN (by omega)) (ec_suN (by omega))
    generalize eh : ec_setI (ec_setI (ec_setI (ec_setI h 78 (ec_i (3 * k + 2)).toNatClampNeg (ec_i (σ (215 + (3 * k + 2))))) 78 (ec_i (3 * k)).toNatClampNeg (ec_i t)) 78 (ec_i (3 * k + 1)).toNatClampNeg (ec_i 2)) 72 (ec_i 5).toNatClampNeg (ec_i (σ 5)) = h1 at L
    have f1 : ec_fg ed_my h h1 := by rw [← eh]; exact (((ec_fg.refl.I (by exact ⟨by decide, by decide⟩)).I (by exact ⟨by decide, by decide⟩)).I (by exact ⟨by decide, by decide⟩)).I (by exact ⟨by decide, by decide⟩)
    have G1 : ed_gz ed_mz 0 h h1 := ed_gz.fg (S := ed_mz) f1 (fun _ _ u => u)
    have D1 := D0.gr G1
    have C1 := S.1.mz D0.len G1
    obtain ⟨h2', c1, c2, c3⟩ := (ec_c77s C1 rx ry).1 k1
    have r1 := (ec_q136 C1.1.1.1).1 _ _ c1
    rw [← ht] at c2 r1
    rw [ek, rv] at r1
    refine ed_Ok.mk ?_ G1 (by omega) D1 L B1 c2 c3
    have s1 : ec_om 129 926 [.ref 0, .ref 72, .ref 73, .ref 74, .ref 75, .ref 76, .ref 77, .ref 78, .int z, .int (ec_i v), .int (ec_i 12), .int (ec_i x), .int (ec_i y), .int (ec_i t), .int (ec_i s), .int (ec_i k), .double 0] [] h = ec_om 129 1021 [.ref 0, .ref 72, .ref 73, .ref 74, .ref 75, .ref 76, .ref 77, .ref 78, .int z, .int (ec_i v), .int (ec_i 12), .int (ec_i x), .int (ec_i y), .int (ec_i t), .int (ec_i s), .int (ec_i k), .double 0] [] h1 := by
      rw [← eh]
      simp (disch := first | (simp only [ec_w_kI, ec_w_kL, ec_w_kA, ec_w_shpI, ec_w_shpL, ec_w_shpA, ec_isR_r, ec_01z, ec_01o, ec_01q, hD]; done) | omega | (simp only [ec_w_shpI, ec_w_shpL, ec_w_shpA, hD]; refine ec_zinO ?_; omega) | (refine ec_nzO ?_; omega)) only [ec_s129_926, ec_s129_928, ec_s129_929, ec_s129_953, ec_s129_955, ec_s129_956, ec_s129_958, ec_s129_959, ec_s129_960, ec_s129_961, ec_s129_963, ec_s129_964, ec_s129_965, ec_s129_966, ec_s129_969, ec_s129_970, ec_s129_973, ec_s129_975, ec_s129_976, ec_s129_978, ec_s129_979, ec_s129_980, ec_s129_981, ec_s129_982, ec_s129_983, ec_s129_985, ec_s129_986, ec_s129_988, ec_s129_989, ec_s129_991, ec_s129_992, ec_s129_994, ec_s129_995, ec_s129_997, ec_s129_998, ec_s129_999, ec_s129_1000, ec_s129_1001, ec_s129_1002, ec_s129_1003, ec_s129_1004, ec_s129_1005, ec_s129_1006, ec_s129_1008, ec_s129_1009, ec_s129_1010, ec_s129_1011, ec_s129_1014, ec_s129_1015, ec_s129_1018, ec_s129_1019, ec_s129_1020, ec_zn0, ec_zn1, ec_zn2, ec_zn3, ec_zn4, ec_zn5, ec_zn6, ec_zn7, ec_zn8, ec_zn9, ec_zn10, ec_zn12, ec_zn13, ec_zn14, ec_zn15, ec_zn16, ec_zn20, ec_zn30, ec_zn48, ec_zn99, ec_zn120, ec_zn127, ec_zn11, ec_zn31, ec_zn46, ec_zn57, ec_zn59, ec_zn63, ec_zn101, ec_zn107, ec_zn108, ec_zn110, ec_zn111, ec_zn115, ec_zn116, ec_zn119, ec_zn167, ec_zn185, ec_zn192, ec_zn215, ec_zn233, ec_zn699, ec_zn932, ec_zn999, ec_znF, ec_zneg, ec_zadd, ec_zsub, ec_zmul, ec_zdivO, ec_em, ec_zltO, ec_zeqO, ec_zeq0, ec_qt, ec_qf, if_pos, if_neg, Int.add_zero, ec_aft_v, ec_aft_n, ec_rwE, ec_rwN, ec_rwP, ec_rwK, ec_rwS, ec_w_shpI, ec_w_shpL, ec_w_shpA, ec_zn22, ec_zn24, ec_zn40, ec_zn45, ec_zn47, ec_zn96, ec_zn100, ec_zn384, ec_zn480, ec_zn960, ec_zn2001, ec_zn2002, ec_zn2003, ec_zn7919, ec_zn40503, ec_zn10000000, ec_zn2147483647, hD, hA]
    rw [s1]
    simp (disch := first | (simp only [ec_01z, ec_01o, ec_01q]; done) | omega | (refine ec_nzO ?_; omega)) only [ec_s129_1021, ec_s129_1022, ec_s129_1024, ec_s129_1026, ec_s129_1029, ec_s129_1031, ec_s129_1034, ec_s129_1035, ec_s129_1038, ec_s129_1039, ec_zn0, ec_zn1, ec_zn2, ec_zn3, ec_zn4, ec_zn5, ec_zn6, ec_zn7, ec_zn8, ec_zn9, ec_zn10, ec_zn12, ec_zn13, ec_zn14, ec_zn15, ec_zn16, ec_zn20, ec_zn30, ec_zn48, ec_zn99, ec_zn120, ec_zn127, ec_zn11, ec_zn31, ec_zn46, ec_zn57, ec_zn59, ec_zn63, ec_zn101, ec_zn107, ec_zn108, ec_zn110, ec_zn111, ec_zn115, ec_zn116, ec_zn119, ec_zn167, ec_zn185, ec_zn192, ec_zn215, ec_zn233, ec_zn699, ec_zn932, ec_zn999, ec_znF, ec_zneg, ec_zadd, ec_zsub, ec_zmul, ec_zdivO, ec_em, ec_zltO, ec_zeqO, ec_zeq0, ec_qt, ec_qf, if_pos, if_neg, Int.add_zero, ec_aft_v, ec_aft_n, ec_rwE, ec_rwN, ec_rwP, ec_rwK, ec_rwS, ec_w_shpI, ec_w_shpL, ec_w_shpA, ec_zn22, ec_zn24, ec_zn40, ec_zn45, ec_zn47, ec_zn96, ec_zn100, ec_zn384, ec_zn480, ec_zn960, ec_zn2001, ec_zn2002, ec_zn2003, ec_zn7919, ec_zn40503, ec_zn10000000, ec_zn2147483647, r1, reduceIte]
set_option maxHeartbeats 1000000 in
theorem ec_p129g (S : ed_ST h σ n p T) (hv : 0 ≤ v ∧ v < 10000000) (hw : wy = 13) (hq : ed_qc σ x y) (ht : t = 8 * y + x) : ed_Ok h T (ec_om 129 60 [.ref 0, .ref 72, .ref 73, .ref 74, .ref 75, .ref 76, .ref 77, .ref 78, .int z, .int (ec_i v), .int (ec_i wy), .int (ec_i x), .int (ec_i y), .int (ec_i t), .int (ec_i s), .double 0, .double 0] [] h) := by
  have W := S.W
  have w := W.1
  have w2 := W.2.1
  have hB := S.2.2.2
  have hD := S.2.1
  have hA := S.2.2.1
  have D0 := hD
  have A0 := hA
  have hB0 := hB
  have rx : ec_rg x := by unfold ed_qc at hq; unfold ec_rg; omega
  have ry : ec_rg y := by unfold ed_qc at hq; unfold ec_rg; omega
  have hz : ec_ing σ t := by rw [ht]; exact ed_qc_in W hq
  have zz := hz.1
  subst hw
  unfold ed_LD at hD
  unfold ed_LA at hA
  have ha : 0 ≤ v / 96 % 10 ∧ v / 96 % 10 ≤ 9 := by omega
  have hb : 0 ≤ v / 960 % 30 ∧ v / 960 % 30 ≤ 29 := by omega
  have L : ed_LA _ (ed_plc σ t (v / 96 % 10) (v / 960 % 30)) := (((A0.w72 (z := 6) (v := t) (by omega)).w72 (z := 7) (v := v / 96 % 10) (by omega)).w72 (z := 8) (v := v / 960 % 30) (by omega)).w72 (z := 9) (v := if v / 960 % 30 = 0 then 0 else σ 9) (by omega)
  have W1 := ed_WF_plc W hz (a := v / 96 % 10) (b := v / 960 % 30) (by omega) (by omega)
  have pc : ∀ c : Int, c < 6 → ed_plc σ t (v / 96 % 10) (v / 960 % 30) c = σ c := fun c hc => by unfold ed_plc; simp (disch := omega) only [ec_suN]
  have B1 : ed_L4 (ed_plc σ t (v / 96 % 10) (v / 960 % 30)) := hB0.of (pc _ (by omega)) (pc _ (by omega)) (pc _ (by omega)) (pc _ (by omega))
  have t7 : ed_plc σ t (v / 96 % 10) (v / 960 % 30) 7 = v / 96 % 10 := by unfold ed_plc; simp (disch := omega) only [ec_suN, ec_suE]
  have t8 : ed_plc σ t (v / 96 % 10) (v / 960 % 30) 8 = v / 960 % 30 := by unfold ed_plc; simp (disch := omega) only [ec_suN, ec_suE]
  generalize eh : ec_setI (ec_setI (ec_setI (ec_setI h 72 (ec_i 6).toNatClampNeg (ec_i t)) 72 (ec_i 7).toNatClampNeg (ec_i (v / 96 % 10))) 72 (ec_i 8).toNatClampNeg (ec_i (v / 960 % 30))) 72 (ec_i 9).toNatClampNeg (ec_i (if v / 960 % 30 = 0 then 0 else σ 9)) = h1 at L
  have f1 : ec_fg ed_my h h1 := by rw [← eh]; exact (((ec_fg.refl.I (by exact ⟨by decide, by decide⟩)).I (by exact ⟨by decide, by decide⟩)).I (by exact ⟨by decide, by decide⟩)).I (by exact ⟨by decide, by decide⟩)
  have G1 : ed_gz ed_mz 0 h h1 := ed_gz.fg (S := ed_mz) f1 (fun _ _ u => u)
  have D1 := D0.gr G1
  have ln1 := D1.len
  have s1 : ec_om 129 60 [.ref 0, .ref 72, .ref 73, .ref 74, .ref 75, .ref 76, .ref 77, .ref 78, .int z, .int (ec_i v), .int (ec_i 13), .int (ec_i x), .int (ec_i y), .int (ec_i t), .int (ec_i s), .double 0, .double 0] [] h = ec_om 129 1097 [.ref 0, .ref 72, .ref 73, .ref 74, .ref 75, .ref 76, .ref 77, .ref 78, .int z, .int (ec_i v), .int (ec_i 13), .int (ec_i x), .int (ec_i y), .int (ec_i t), .int (ec_i s), .double 0, .double 0] [] h1 := by
    rw [← eh]
    by_cases q : v / 960 % 30 = 0
    · rw [if_pos q]
      simp (disch := first | (simp only [ec_w_kI, ec_w_kL, ec_w_kA, ec_w_shpI, ec_w_shpL, ec_w_shpA, ec_isR_r, ec_01z, ec_01o, ec_01q, hD]; done) | omega | (simp only [ec_w_shpI, ec_w_shpL, ec_w_shpA, hD]; refine ec_zinO ?_; omega) | (refine ec_nzO ?_; omega)) only [ec_s129_60, ec_s129_62, ec_s129_65, ec_s129_67, ec_s129_68, ec_s129_69, ec_s129_205, ec_s129_207, ec_s129_209, ec_s129_540, ec_s129_542, ec_s129_544, ec_s129_627, ec_s129_629, ec_s129_631, ec_s129_750, ec_s129_752, ec_s129_754, ec_s129_890, ec_s129_892, ec_s129_894, ec_s129_1040, ec_s129_1042, ec_s129_1044, ec_s129_1047, ec_s129_1048, ec_s129_1050, ec_s129_1052, ec_s129_1053, ec_s129_1054, ec_s129_1056, ec_s129_1058, ec_s129_1060, ec_s129_1061, ec_s129_1063, ec_s129_1064, ec_s129_1065, ec_s129_1066, ec_s129_1068, ec_s129_1070, ec_s129_1073, ec_s129_1074, ec_s129_1076, ec_s129_1077, ec_s129_1078, ec_s129_1079, ec_s129_1081, ec_s129_1082, ec_s129_1084, ec_s129_1085, ec_s129_1088, ec_s129_1089, ec_s129_1092, ec_s129_1093, ec_s129_1095, ec_s129_1096, ec_zn0, ec_zn1, ec_zn2, ec_zn3, ec_zn4, ec_zn5, ec_zn6, ec_zn7, ec_zn8, ec_zn9, ec_zn10, ec_zn12, ec_zn13, ec_zn14, ec_zn15, ec_zn16, ec_zn20, ec_zn30, ec_zn48, ec_zn99, ec_zn120, ec_zn127, ec_zn11, ec_zn31, ec_zn46, ec_zn57, ec_zn59, ec_zn63, ec_zn101, ec_zn107, ec_zn108, ec_zn110, ec_zn111, ec_zn115, ec_zn116, ec_zn119, ec_zn167, ec_zn185, ec_zn192, ec_zn215, ec_zn233, ec_zn699, ec_zn932, ec_zn999, ec_znF, ec_zneg, ec_zadd, ec_zsub, ec_zmul, ec_zdivO, ec_em, ec_zltO, ec_zeqO, ec_zeq0, ec_qt, ec_qf, if_pos, if_neg, Int.add_zero, ec_aft_v, ec_aft_n, ec_rwE, ec_rwN, ec_rwP, ec_rwK, ec_rwS, ec_w_shpI, ec_w_shpL, ec_w_shpA, ec_zn22, ec_zn24, ec_zn40, ec_zn45, ec_zn47, ec_zn96, ec_zn100, ec_zn384, ec_zn480, ec_zn960, ec_zn2001, ec_zn2002, ec_zn2003, ec_zn7919, ec_zn40503, ec_zn10000000, ec_zn2147483647, hD, hA, q]
    · rw [if_neg q]
      simp (disch := first | (simp only [ec_w_kI, ec_w_kL, ec_w_kA, ec_w_shpI, ec_w_shpL, ec_w_shpA, ec_isR_r, ec_01z, ec_01o, ec_01q, hD]; done) | omega | (simp only [ec_w_shpI, ec_w_shpL, ec_w_shpA, hD]; refine ec_zinO ?_; omega) | (refine ec_nzO ?_; omega)) only [ec_s129_60, ec_s129_62, ec_s129_65, ec_s129_67, ec_s129_68, ec_s129_69, ec_s129_205, ec_s129_207, ec_s129_209, ec_s129_540, ec_s129_542, ec_s129_544, ec_s129_627, ec_s129_629, ec_s129_631, ec_s129_750, ec_s129_752, ec_s129_754, ec_s129_890, ec_s129_892, ec_s129_894, ec_s129_1040, ec_s129_1042, ec_s129_1044, ec_s129_1047, ec_s129_1048, ec_s129_1050, ec_s129_1052, ec_s129_1053, ec_s129_1054, ec_s129_1056, ec_s129_1058, ec_s129_1060, ec_s129_1061, ec_s129_1063, ec_s129_1064, ec_s129_1065, ec_s129_1066, ec_s129_1068, ec_s129_1070, ec_s129_1073, ec_s129_1074, ec_s129_1076, ec_s129_1077, ec_s129_1078, ec_s129_1079, ec_s129_1081, ec_s129_1082, ec_s129_1084, ec_s129_1085, ec_s129_1088, ec_s129_1089, ec_s129_1092, ec_s129_1093, ec_s129_1095, ec_s129_1096, ec_zn0, ec_zn1, ec_zn2, ec_zn3, ec_zn4, ec_zn5, ec_zn6, ec_zn7, ec_zn8, ec_zn9, ec_zn10, ec_zn12, ec_zn13, ec_zn14, ec_zn15, ec_zn16, ec_zn20, ec_zn30, ec_zn48, ec_zn99, ec_zn120, ec_zn127, ec_zn11, ec_zn31, ec_zn46, ec_zn57, ec_zn59, ec_zn63, ec_zn101, ec_zn107, ec_zn108, ec_zn110, ec_zn111, ec_zn115, ec_zn116, ec_zn119, ec_zn167, ec_zn185, ec_zn192, ec_zn215, ec_zn233, ec_zn699, ec_zn932, ec_zn999, ec_znF, ec_zneg, ec_zadd, ec_zsub, ec_zmul, ec_zdivO, ec_em, ec_zltO, ec_zeqO, ec_zeq0, ec_qt, ec_qf, if_pos, if_neg, Int.add_zero, ec_aft_v, ec_aft_n, ec_rwE, ec_rwN, ec_rwP, ec_rwK, ec_rwS, ec_w_shpI, ec_w_shpL, ec_w_shpA, ec_zn22, ec_zn24, ec_zn40, ec_zn45, ec_zn47, ec_zn96, ec_zn100, ec_zn384, ec_zn480, ec_zn960, ec_zn2001, ec_zn2002, ec_zn2003, ec_zn7919, ec_zn40503, ec_zn10000000, ec_zn2147483647, hD, hA]
  have g2 : ed_gz (fun _ => False) 1 h1 (ec_mk h1 16 48) := ed_gz.mk (by omega)
  have D2 := D1.gr g2
  have L2 := L.gr ln1 g2 (fun q _ u => u)
  have Q2 := ed_Q1.mk (h := h1) ln1
  have c1' : (decide ((0 : Int32) ≤ (48 : Int32)) && Nat.ble (48 : Int32).toNatClampNeg 5000) = true := by decide
  have c2' : (48 : Int32).toNatClampNeg = 48 := by decide
  generalize e2 : ec_mk h1 16 48 = h2 at g2 D2 L2 Q2
  generalize eq : h1.1.length = q at Q2
  obtain ⟨h3, l1, l2, l3⟩ := ec_p122 D2 L2 W1 B1 Q2
  have D3 := D2.gr l3
  have L3 := L2.gr D2.len l3 (fun q hq u => by have := Q2.2; omega)
  have Q3 := Q2.gr l3
  have G3 : ed_gz ed_mz 2 h h3 := (G1.trans (S := ed_mz) (g2.trans (S := ed_mz) l3 (fun _ _ u => u.elim) (fun x hx u => by have u : x = q := u; omega)) (fun _ _ u => u) (fun _ _ u => u))
  have C1 := S.1.mz D0.len G3
  have k1 : ed_kPl σ x y (v / 96 % 10) (v / 960 % 30) = 0 := by unfold ed_kPl; rw [if_pos hq, if_pos (by omega)]
  obtain ⟨h4, c1, c2, c3⟩ := (ec_c78s C1 rx ry (a := v / 96 % 10) (b := v / 960 % 30) (by unfold ec_rg; omega) (by unfold ec_rg; omega)).1 k1
  have r1 := (ec_q137 C1.1.1.1).1 _ _ c1
  rw [← ht] at c2 r1
  refine ed_Ok.mk ?_ G3 (by omega) D3 L3 B1 c2 c3
  have lk : h4.2.1 q (ec_i t).toNatClampNeg = ec_i (ed_q (ed_lit (ed_plc σ t (v / 96 % 10) (v / 960 % 30)) t)) := (l2.fg c3 (fun j u => by have u : q ≤ 71 := u; have := Q2.2; omega)) t zz
  rw [s1, ec_s129_1097, ec_s129_1099 c1', c2', e2, eq, ec_s129_1101]
  have hD3 := D3
  have hA3 := L3
  have hD4 := D3.of c3.1.1
  have Q4 := Q3.of c3.1.1
  unfold ed_LD at hD3 hD4
  unfold ed_LA at hA3
  have hD := And.intro Q4.1 (And.intro hD3 hD4)
  simp (disch := first | (simp only [ec_w_kI, ec_w_kL, ec_w_kA, ec_w_shpI, ec_w_shpL, ec_w_shpA, ec_isR_r, ec_01z, ec_01o, ec_01q, hD]; done) | omega | (simp only [ec_w_shpI, ec_w_shpL, ec_w_shpA, hD]; refine ec_zinO ?_; omega) | (refine ec_nzO ?_; omega)) only [ec_s129_1103, ec_s129_1104, ec_s129_1105, ec_s129_1106, ec_s129_1108, ec_s129_1110, ec_s129_1112, ec_s129_1115, ec_s129_1116, ec_s129_1118, ec_s129_1120, ec_s129_1121, ec_s129_1123, ec_s129_1124, ec_s129_1125, ec_s129_1127, ec_s129_1128, ec_s129_1131, ec_s129_1133, ec_s129_1135, ec_s129_1136, ec_s129_1139, ec_s129_1140, ec_s129_1143, ec_s129_1144, ec_zn0, ec_zn1, ec_zn2, ec_zn3, ec_zn4, ec_zn5, ec_zn6, ec_zn7, ec_zn8, ec_zn9, ec_zn10, ec_zn12, ec_zn13, ec_zn14, ec_zn15, ec_zn16, ec_zn20, ec_zn30, ec_zn48, ec_zn99, ec_zn120, ec_zn127, ec_zn11, ec_zn31, ec_zn46, ec_zn57, ec_zn59, ec_zn63, ec_zn101, ec_zn107, ec_zn108, ec_zn110, ec_zn111, ec_zn115, ec_zn116, ec_zn119, ec_zn167, ec_zn185, ec_zn192, ec_zn215, ec_zn233, ec_zn699, ec_zn932, ec_zn999, ec_znF, ec_zneg, ec_zadd, ec_zsub, ec_zmul, ec_zdivO, ec_em, ec_zltO, ec_zeqO, ec_zeq0, ec_qt, ec_qf, if_pos, if_neg, Int.add_zero, ec_aft_v, ec_aft_n, ec_rwE, ec_rwN, ec_rwP, ec_rwK, ec_rwS, ec_w_shpI, ec_w_shpL, ec_w_shpA, ec_zn22, ec_zn24, ec_zn40, ec_zn45, ec_zn47, ec_zn96, ec_zn100, ec_zn384, ec_zn480, ec_zn960, ec_zn2001, ec_zn2002, ec_zn2003, ec_zn7919, ec_zn40503, ec_zn10000000, ec_zn2147483647, hD, hA3, l1, t7, t8, r1, lk, reduceIte]
theorem ec_p129h (S : ed_ST h σ n p T) (hv : 0 ≤ v ∧ v < 10000000) (hw : 14 ≤ wy ∧ wy < 30) : ed_Ok h T (ec_om 129 60 [.ref 0, .ref 72, .ref 73, .ref 74, .ref 75, .ref 76, .ref 77, .ref 78, .int z, .int (ec_i v), .int (ec_i wy), .int (ec_i x), .int (ec_i y), .int (ec_i t), .int (ec_i s), .double 0, .double 0] [] h) := by
  have W := S.W
  have hD := S.2.1
  have hA := S.2.2.1
  have hB := S.2.2.2
  obtain ⟨a, ha, s1⟩ : ∃ a : Int, (0 ≤ a ∧ a < 16) ∧ ec_om 129 60 [.ref 0, .ref 72, .ref 73, .ref 74, .ref 75, .ref 76, .ref 77, .ref 78, .int z, .int (ec_i v), .int (ec_i wy), .int (ec_i x), .int (ec_i y), .int (ec_i t), .int (ec_i s), .double 0, .double 0] [] h = ec_om 129 1166 [.ref 0, .ref 72, .ref 73, .ref 74, .ref 75, .ref 76, .ref 77, .ref 78, .int z, .int (ec_i v), .int (ec_i wy), .int (ec_i x), .int (ec_i y), .int (ec_i t), .int (ec_i s), .int (ec_i a), .double 0] [] h := by
    by_cases q : wy < 22
    · refine ⟨v % 4, by omega, ?_⟩
      simp (disch := first | (simp only [ec_01z, ec_01o, ec_01q]; done) | omega | (refine ec_nzO ?_; omega)) only [ec_s129_60, ec_s129_62, ec_s129_65, ec_s129_67, ec_s129_68, ec_s129_69, ec_s129_205, ec_s129_207, ec_s129_209, ec_s129_540, ec_s129_542, ec_s129_544, ec_s129_627, ec_s129_629, ec_s129_631, ec_s129_750, ec_s129_752, ec_s129_754, ec_s129_890, ec_s129_892, ec_s129_894, ec_s129_1040, ec_s129_1042, ec_s129_1044, ec_s129_1145, ec_s129_1147, ec_s129_1149, ec_s129_1152, ec_s129_1154, ec_s129_1155, ec_s129_1156, ec_s129_1159, ec_s129_1161, ec_s129_1163, ec_s129_1164, ec_zn0, ec_zn1, ec_zn2, ec_zn3, ec_zn4, ec_zn5, ec_zn6, ec_zn7, ec_zn8, ec_zn9, ec_zn10, ec_zn12, ec_zn13, ec_zn14, ec_zn15, ec_zn16, ec_zn20, ec_zn30, ec_zn48, ec_zn99, ec_zn120, ec_zn127, ec_zn11, ec_zn31, ec_zn46, ec_zn57, ec_zn59, ec_zn63, ec_zn101, ec_zn107, ec_zn108, ec_zn110, ec_zn111, ec_zn115, ec_zn116, ec_zn119, ec_zn167, ec_zn185, ec_zn192, ec_zn215, ec_zn233, ec_zn699, ec_zn932, ec_zn999, ec_znF, ec_zneg, ec_zadd, ec_zsub, ec_zmul, ec_zdivO, ec_em, ec_zltO, ec_zeqO, ec_zeq0, ec_qt, ec_qf, if_pos, if_neg, Int.add_zero, ec_aft_v, ec_aft_n, ec_rwE, ec_rwN, ec_rwP, ec_rwK, ec_rwS, ec_w_shpI, ec_w_shpL, ec_w_shpA, ec_zn22, ec_zn24, ec_zn40, ec_zn45, ec_zn47, ec_zn96, ec_zn100, ec_zn384, ec_zn480, ec_zn960, ec_zn2001, ec_zn2002, ec_zn2003, ec_zn7919, ec_zn40503, ec_zn10000000, ec_zn2147483647]
    · refine ⟨v % 16, by omega, ?_⟩
      simp (disch := first | (simp only [ec_01z, ec_01o, ec_01q]; done) | omega | (refine ec_nzO ?_; omega)) only [ec_s129_60, ec_s129_62, ec_s129_65, ec_s129_67, ec_s129_68, ec_s129_69, ec_s129_205, ec_s129_207, ec_s129_209, ec_s129_540, ec_s129_542, ec_s129_544, ec_s129_627, ec_s129_629, ec_s129_631, ec_s129_750, ec_s129_752, ec_s129_754, ec_s129_890, ec_s129_892, ec_s129_894, ec_s129_1040, ec_s129_1042, ec_s129_1044, ec_s129_1145, ec_s129_1147, ec_s129_1149, ec_s129_1152, ec_s129_1154, ec_s129_1155, ec_s129_1156, ec_s129_1159, ec_s129_1161, ec_s129_1163, ec_s129_1164, ec_zn0, ec_zn1, ec_zn2, ec_zn3, ec_zn4, ec_zn5, ec_zn6, ec_zn7, ec_zn8, ec_zn9, ec_zn10, ec_zn12, ec_zn13, ec_zn14, ec_zn15, ec_zn16, ec_zn20, ec_zn30, ec_zn48, ec_zn99, ec_zn120, ec_zn127, ec_zn11, ec_zn31, ec_zn46, ec_zn57, ec_zn59, ec_zn63, ec_zn101, ec_zn107, ec_zn108, ec_zn110, ec_zn111, ec_zn115, ec_zn116, ec_zn119, ec_zn167, ec_zn185, ec_zn192, ec_zn215, ec_zn233, ec_zn699, ec_zn932, ec_zn999, ec_znF, ec_zneg, ec_zadd, ec_zsub, ec_zmul, ec_zdivO, ec_em, ec_zltO, ec_zeqO, ec_zeq0, ec_qt, ec_qf, if_pos, if_neg, Int.add_zero, ec_aft_v, ec_aft_n, ec_rwE, ec_rwN, ec_rwP, ec_rwK, ec_rwS, ec_w_shpI, ec_w_shpL, ec_w_shpA, ec_zn22, ec_zn24, ec_zn40, ec_zn45, ec_zn47, ec_zn96, ec_zn100, ec_zn384, ec_zn480, ec_zn960, ec_zn2001, ec_zn2002, ec_zn2003, ec_zn7919, ec_zn40503, ec_zn10000000, ec_zn2147483647]
  rw [s1]
  clear s1
  have g := ec_p125 hD hA W hB ha
  have rr := ed_rsn_rg (σ := σ) (a := a)
  have ra : ec_rg a := by unfold ec_rg; omega
  by_cases q : ed_rsn σ a = 0
  · obtain ⟨h1, b1, b2, b3⟩ := ec_p128 hD hA W hB ha q
    have D1 := hD.gr b3
    have C1 := S.1.mz hD.len b3
    have k1 : ed_kAc σ a = 0 := by unfold ed_kAc; rw [if_pos (by omega), if_pos q]
    obtain ⟨h2, c1, c2, c3⟩ := (ec_c79s C1 ra).1 k1
    have r1 := (ec_q138 C1.1.1.1).1 _ _ c1
    have B1 := ed_turn_4 W ha q hB
    have S2 := ed_ST.c D1 b2 B1 c2 c3
    refine ed_Ok.mk ?_ b3 (by omega) D1 b2 B1 c2 c3
    rw [q] at g
    have hD2 := S2.2.1
    have hA2 := S2.2.2.1
    unfold ed_LD at hD2
    unfold ed_LA at hA2
    have hD := hD2
    simp (disch := first | (simp only [ec_w_kI, ec_w_kL, ec_w_kA, ec_w_shpI, ec_w_shpL, ec_w_shpA, ec_isR_r, ec_01z, ec_01o, ec_01q, hD]; done) | omega | (simp only [ec_w_shpI, ec_w_shpL, ec_w_shpA, hD]; refine ec_zinO ?_; omega) | (refine ec_nzO ?_; omega)) only [ec_s129_1166, ec_s129_1167, ec_s129_1168, ec_s129_1169, ec_s129_1171, ec_s129_1173, ec_s129_1176, ec_s129_1179, ec_s129_1180, ec_s129_1182, ec_s129_1185, ec_s129_1188, ec_s129_1191, ec_s129_1192, ec_s129_1195, ec_s129_1196, ec_s129_1197, ec_s129_1198, ec_s129_1199, ec_s129_1200, ec_s129_1202, ec_s129_1204, ec_s129_1206, ec_s129_1208, ec_s129_1210, ec_s129_1213, ec_s129_1214, ec_s129_1216, ec_s129_1219, ec_s129_1220, ec_s129_1222, ec_s129_1223, ec_s129_1226, ec_s129_1227, ec_s129_1230, ec_s129_1231, ec_zn0, ec_zn1, ec_zn2, ec_zn3, ec_zn4, ec_zn5, ec_zn6, ec_zn7, ec_zn8, ec_zn9, ec_zn10, ec_zn12, ec_zn13, ec_zn14, ec_zn15, ec_zn16, ec_zn20, ec_zn30, ec_zn48, ec_zn99, ec_zn120, ec_zn127, ec_zn11, ec_zn31, ec_zn46, ec_zn57, ec_zn59, ec_zn63, ec_zn101, ec_zn107, ec_zn108, ec_zn110, ec_zn111, ec_zn115, ec_zn116, ec_zn119, ec_zn167, ec_zn185, ec_zn192, ec_zn215, ec_zn233, ec_zn699, ec_zn932, ec_zn999, ec_znF, ec_zneg, ec_zadd, ec_zsub, ec_zmul, ec_zdivO, ec_em, ec_zltO, ec_zeqO, ec_zeq0, ec_qt, ec_qf, if_pos, if_neg, Int.add_zero, ec_aft_v, ec_aft_n, ec_rwE, ec_rwN, ec_rwP, ec_rwK, ec_rwS, ec_w_shpI, ec_w_shpL, ec_w_shpA, ec_zn22, ec_zn24, ec_zn40, ec_zn45, ec_zn47, ec_zn96, ec_zn100, ec_zn384, ec_zn480, ec_zn960, ec_zn2001, ec_zn2002, ec_zn2003, ec_zn7919, ec_zn40503, ec_zn10000000, ec_zn2147483647, hD, hA2, g, b1, r1, reduceIte]
  · have k1 : ed_kAc σ a = 2 := by unfold ed_kAc; rw [if_pos (by omega), if_neg q]
    have c1 := (ec_c79s S.1 ra).2 (by rw [k1]; decide)
    rw [k1] at c1
    have r1 := (ec_q138 S.k).2.2 c1
    have G1 : ed_gz (fun _ => False) 1 h (ec_thw h) := ed_gz.thw
    refine ⟨_, σ, n, p, ?_, S.gr G1 (fun _ _ u => u), (G1.mono (T := fun x => x ≤ 78) (fun _ _ u => u.elim)).up (by omega)⟩
    generalize ed_rsn σ a = r at g rr q
    simp (disch := first | (simp only [ec_01z, ec_01o, ec_01q]; done) | omega | (refine ec_nzO ?_; omega)) only [ec_s129_1166, ec_s129_1167, ec_s129_1168, ec_s129_1169, ec_s129_1171, ec_s129_1173, ec_s129_1176, ec_s129_1179, ec_s129_1180, ec_s129_1182, ec_s129_1185, ec_s129_1188, ec_s129_1191, ec_s129_1192, ec_s129_1195, ec_s129_1196, ec_zn0, ec_zn1, ec_zn2, ec_zn3, ec_zn4, ec_zn5, ec_zn6, ec_zn7, ec_zn8, ec_zn9, ec_zn10, ec_zn12, ec_zn13, ec_zn14, ec_zn15, ec_zn16, ec_zn20, ec_zn30, ec_zn48, ec_zn99, ec_zn120, ec_zn127, ec_zn11, ec_zn31, ec_zn46, ec_zn57, ec_zn59, ec_zn63, ec_zn101, ec_zn107, ec_zn108, ec_zn110, ec_zn111, ec_zn115, ec_zn116, ec_zn119, ec_zn167, ec_zn185, ec_zn192, ec_zn215, ec_zn233, ec_zn699, ec_zn932, ec_zn999, ec_znF, ec_zneg, ec_zadd, ec_zsub, ec_zmul, ec_zdivO, ec_em, ec_zltO, ec_zeqO, ec_zeq0, ec_qt, ec_qf, if_pos, if_neg, Int.add_zero, ec_aft_v, ec_aft_n, ec_rwE, ec_rwN, ec_rwP, ec_rwK, ec_rwS, ec_w_shpI, ec_w_shpL, ec_w_shpA, ec_zn22, ec_zn24, ec_zn40, ec_zn45, ec_zn47, ec_zn96, ec_zn100, ec_zn384, ec_zn480, ec_zn960, ec_zn2001, ec_zn2002, ec_zn2003, ec_zn7919, ec_zn40503, ec_zn10000000, ec_zn2147483647, g, r1, reduceIte]
end EDR
