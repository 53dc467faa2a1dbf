/-! Making objects: the reference; the law's entry. -/
set_option maxHeartbeats 1000000 in
theorem ec_c116s {h : ec_Hp} (hl : h.1.length = 73) (hk : ec_isK h 72 7 = true) (hz : ∀ j, h.2.1 72 j = 0) : ∃ h', ec_om 116 0 [.ref 72] [] h = some (.inl none, h') ∧ (∀ (p : Int → ec_Sg) (T : Int → Int), ed_ML h' (ed_new 5 4) 0 p 0 T) ∧ h'.1.length = 84 ∧ ed_gw 72 h h' := by
  have q233 := ed_dq (a := 233) (by omega)
  have q932 := ed_dq (a := 932) (by omega)
  have q120 := ed_dq (a := 120) (by omega)
  have q48 := ed_dq (a := 48) (by omega)
  have q2 := ed_dq (a := 2) (by omega)
  obtain ⟨a1, a2, ea1, ea2, ⟨Ka1, Ka2⟩, la, sa, za, Aa, Sa, Ia, Ga⟩ := ed_ar (k := 0) (ak := 16) (z := (ec_i 233).toNatClampNeg) hl (show 72 < 73 by omega) hk (show (233 : Nat) ≤ 5000 by omega)
  obtain ⟨b1, b2, eb1, eb2, ⟨Kb1, Kb2⟩, lb, sb, zb, Ab, Sb, Ib, Gb⟩ := ed_ar (k := 1) (ak := 16) (z := (ec_i 932).toNatClampNeg) la (show 72 < 74 by omega) Ka2 (show (932 : Nat) ≤ 5000 by omega)
  obtain ⟨c1, c2, ec1, ec2, ⟨Kc1, Kc2⟩, lc, sc, zc, Ac, Sc, Ic, Gc⟩ := ed_ar (k := 2) (ak := 16) (z := (ec_i 233).toNatClampNeg) lb (show 72 < 75 by omega) Kb2 (show (233 : Nat) ≤ 5000 by omega)
  obtain ⟨d1, d2, ed1, ed2, ⟨Kd1, Kd2⟩, ld, sd, zd, Ad, Sd, Id, Gd⟩ := ed_ar (k := 3) (ak := 16) (z := (ec_i 233).toNatClampNeg) lc (show 72 < 76 by omega) Kc2 (show (233 : Nat) ≤ 5000 by omega)
  obtain ⟨e1, e2, ee1, ee2, ⟨Ke1, Ke2⟩, le, se, ze, Ae, Se, Ie, Ge⟩ := ed_ar (k := 5) (ak := 16) (z := (ec_i 120).toNatClampNeg) ld (show 72 < 77 by omega) Kd2 (show (120 : Nat) ≤ 5000 by omega)
  obtain ⟨f1, f2, ef1, ef2, ⟨Kf1, Kf2⟩, lf, sf, zf, Af, Sf, If, Gf⟩ := ed_ar (k := 8) (ak := 17) (z := (ec_i 48).toNatClampNeg) le (show 72 < 78 by omega) Ke2 (show (48 : Nat) ≤ 5000 by omega)
  obtain ⟨g1, g2, eg1, eg2, ⟨Kg1, Kg2⟩, lg, sg, zg, Ag, Sg, Ig, Gg⟩ := ed_ar (k := 9) (ak := 16) (z := (ec_i 48).toNatClampNeg) lf (show 72 < 79 by omega) Kf2 (show (48 : Nat) ≤ 5000 by omega)
  obtain ⟨i1, i2, ei1, ei2, ⟨Ki1, Ki2⟩, li, si, zi, Ai, Si, Ii, Gi⟩ := ed_ar (k := 10) (ak := 16) (z := (ec_i 48).toNatClampNeg) lg (show 72 < 80 by omega) Kg2 (show (48 : Nat) ≤ 5000 by omega)
  obtain ⟨j1, j2, ej1, ej2, ⟨Kj1, Kj2⟩, lj, sj, zj, Aj, Sj, Ij, Gj⟩ := ed_ar (k := 11) (ak := 16) (z := (ec_i 48).toNatClampNeg) li (show 72 < 81 by omega) Ki2 (show (48 : Nat) ≤ 5000 by omega)
  obtain ⟨k1, k2, ek1, ek2, ⟨Kk1, Kk2⟩, lk, sk, zk, Ak, Sk, Ik, Gk⟩ := ed_ar (k := 12) (ak := 16) (z := (ec_i 2).toNatClampNeg) lj (show 72 < 82 by omega) Kj2 (show (2 : Nat) ≤ 5000 by omega)
  obtain ⟨m1, m2, em1, em2, ⟨Km1, Km2⟩, lm, sm, zm, Am, Sm, Im, Gm⟩ := ed_ar (k := 13) (ak := 16) (z := (ec_i 2).toNatClampNeg) lk (show 72 < 83 by omega) Kk2 (show (2 : Nat) ≤ 5000 by omega)
  have Ek : ∀ q, q < 83 → q ≠ 72 → ed_at q k2 m2 := Am
  have Ej : ∀ q, q < 82 → q ≠ 72 → ed_at q j2 m2 := fun q u v => (Ak q u v).trans (Ek q (by omega) v)
  have Ei : ∀ q, q < 81 → q ≠ 72 → ed_at q i2 m2 := fun q u v => (Aj q u v).trans (Ej q (by omega) v)
  have Eg : ∀ q, q < 80 → q ≠ 72 → ed_at q g2 m2 := fun q u v => (Ai q u v).trans (Ei q (by omega) v)
  have Ef : ∀ q, q < 79 → q ≠ 72 → ed_at q f2 m2 := fun q u v => (Ag q u v).trans (Eg q (by omega) v)
  have Ee : ∀ q, q < 78 → q ≠ 72 → ed_at q e2 m2 := fun q u v => (Af q u v).trans (Ef q (by omega) v)
  have Ed : ∀ q, q < 77 → q ≠ 72 → ed_at q d2 m2 := fun q u v => (Ae q u v).trans (Ee q (by omega) v)
  have Ec : ∀ q, q < 76 → q ≠ 72 → ed_at q c2 m2 := fun q u v => (Ad q u v).trans (Ed q (by omega) v)
  have Eb : ∀ q, q < 75 → q ≠ 72 → ed_at q b2 m2 := fun q u v => (Ac q u v).trans (Ec q (by omega) v)
  have Ea : ∀ q, q < 74 → q ≠ 72 → ed_at q a2 m2 := fun q u v => (Ab q u v).trans (Eb q (by omega) v)
  have S : ec_shp m2 72 = (ec_upR (ec_upR (ec_upR (ec_upR (ec_upR (ec_upR (ec_upR (ec_upR (ec_upR (ec_upR (ec_upR (ec_shp h 72) 0 (.ref 73)) 1 (.ref 74)) 2 (.ref 75)) 3 (.ref 76)) 5 (.ref 77)) 8 (.ref 78)) 9 (.ref 79)) 10 (.ref 80)) 11 (.ref 81)) 12 (.ref 82)) 13 (.ref 83)) := by
    rw [Sm, Sk, Sj, Si, Sg, Sf, Se, Sd, Sc, Sb, Sa]
  have I : ∀ j, m2.2.1 72 j = 0 := fun j => by rw [Im, Ik, Ij, Ii, Ig, If, Ie, Id, Ic, Ib, Ia, hz]
  have Qa : ec_isK m2 73 16 = true ∧ (ec_shp m2 73).2.1 = 233 := by
    unfold ec_isK
    rw [((Ea 73 (by omega) (by omega)).1.trans sa)]
    exact ⟨rfl, rfl⟩
  have Qb : ec_isK m2 74 16 = true ∧ (ec_shp m2 74).2.1 = 932 := by
    unfold ec_isK
    rw [((Eb 74 (by omega) (by omega)).1.trans sb)]
    exact ⟨rfl, rfl⟩
  have Qc : ec_isK m2 75 16 = true ∧ (ec_shp m2 75).2.1 = 233 := by
    unfold ec_isK
    rw [((Ec 75 (by omega) (by omega)).1.trans sc)]
    exact ⟨rfl, rfl⟩
  have Qd : ec_isK m2 76 16 = true ∧ (ec_shp m2 76).2.1 = 233 := by
    unfold ec_isK
    rw [((Ed 76 (by omega) (by omega)).1.trans sd)]
    exact ⟨rfl, rfl⟩
  have Qe : ec_isK m2 77 16 = true ∧ (ec_shp m2 77).2.1 = 120 := by
    unfold ec_isK
    rw [((Ee 77 (by omega) (by omega)).1.trans se)]
    exact ⟨rfl, rfl⟩
  have Qf : ec_isK m2 78 17 = true ∧ (ec_shp m2 78).2.1 = 48 := by
    unfold ec_isK
    rw [((Ef 78 (by omega) (by omega)).1.trans sf)]
    exact ⟨rfl, rfl⟩
  have Qg : ec_isK m2 79 16 = true ∧ (ec_shp m2 79).2.1 = 48 := by
    unfold ec_isK
    rw [((Eg 79 (by omega) (by omega)).1.trans sg)]
    exact ⟨rfl, rfl⟩
  have Qi : ec_isK m2 80 16 = true ∧ (ec_shp m2 80).2.1 = 48 := by
    unfold ec_isK
    rw [((Ei 80 (by omega) (by omega)).1.trans si)]
    exact ⟨rfl, rfl⟩
  have Qj : ec_isK m2 81 16 = true ∧ (ec_shp m2 81).2.1 = 48 := by
    unfold ec_isK
    rw [((Ej 81 (by omega) (by omega)).1.trans sj)]
    exact ⟨rfl, rfl⟩
  have Qk : ec_isK m2 82 16 = true ∧ (ec_shp m2 82).2.1 = 2 := by
    unfold ec_isK
    rw [((Ek 82 (by omega) (by omega)).1.trans sk)]
    exact ⟨rfl, rfl⟩
  have Qm : ec_isK m2 83 16 = true ∧ (ec_shp m2 83).2.1 = 2 := by
    unfold ec_isK
    rw [sm]
    exact ⟨rfl, rfl⟩
  have M : ec_MD m2 := by
    refine ⟨⟨Km2, ?_⟩, Qa, Qb, Qc, Qd, Qe, Qf, Qg, Qi, Qj, Qk, Qm⟩
    rw [S]
    exact ⟨rfl, rfl, rfl, rfl, rfl, rfl, rfl, rfl, rfl, rfl, rfl⟩
  obtain ⟨h', b1, b2, b3⟩ := ec_c123 M (c := 5) (r := 4)
  have gg : ed_gw 72 h m2 := Ga.trans (Gb.trans (Gc.trans (Gd.trans (Ge.trans (Gf.trans (Gg.trans (Gi.trans (Gj.trans (Gk.trans (Gm) (by omega)) (by omega)) (by omega)) (by omega)) (by omega)) (by omega)) (by omega)) (by omega)) (by omega)) (by omega)
  have g0 : ed_gw 72 m2 h' := ⟨fun q hq => ⟨by show ec_nth _ h'.1 q = ec_nth _ m2.1 q; rw [b3.1.1], fun j => b3.2 q j (fun y => by omega)⟩, by rw [b3.1.2], 0, 0, by rw [b3.1.2]; rfl, by rw [b3.1.1]; rfl, by rw [b3.1.2]; rfl, by omega⟩
  refine ⟨h', ?_, fun p T => ⟨M.of b3.1.1, b2, ed_WF_new (by omega) (by omega), ⟨(b3.2 _ _ (by decide)).trans (I 4), by omega, fun i hi => absurd hi (by omega)⟩, (b3.2 _ _ (by decide)).trans (I 6), by omega, fun i hi => absurd hi (by omega)⟩, by rw [b3.1.1]; exact lm, gg.trans g0 (by omega)⟩
  have hD := And.intro hk (And.intro (And.intro q233 (And.intro q932 (And.intro q120 (And.intro q48 q2)))) (And.intro (And.intro Ka1 (And.intro Kb1 (And.intro Kc1 (And.intro Kd1 (And.intro Ke1 (And.intro Kf1 (And.intro Kg1 (And.intro Ki1 (And.intro Kj1 (And.intro Kk1 (Km1))))))))))) (And.intro Ka2 (And.intro Kb2 (And.intro Kc2 (And.intro Kd2 (And.intro Ke2 (And.intro Kf2 (And.intro Kg2 (And.intro Ki2 (And.intro Kj2 (And.intro Kk2 (Km2)))))))))))))
  simp (disch := first | (simp only [ec_w_kI, ec_w_kL, ec_w_kA, ec_w_shpI, ec_w_shpL, ec_w_shpA, ec_isR_r, ec_01z, ec_01o, ec_01q, hD]; done) | omega | (simp only [ec_w_shpI, ec_w_shpL, ec_w_shpA, hD]; refine ec_zinO ?_; omega) | (refine ec_nzO ?_; omega)) only [ec_s116_0, ec_s116_1, ec_s116_4, ec_s116_5, ec_s116_8, ec_s116_10, ec_s116_13, ec_s116_14, ec_s116_17, ec_s116_19, ec_s116_22, ec_s116_23, ec_s116_26, ec_s116_28, ec_s116_31, ec_s116_32, ec_s116_35, ec_s116_37, ec_s116_40, ec_s116_41, ec_s116_43, ec_s116_45, ec_s116_48, ec_s116_49, ec_s116_51, ec_s116_53, ec_s116_56, ec_s116_57, ec_s116_59, ec_s116_61, ec_s116_64, ec_s116_65, ec_s116_67, ec_s116_69, ec_s116_72, ec_s116_73, ec_s116_75, ec_s116_77, ec_s116_80, ec_s116_81, ec_s116_82, ec_s116_84, ec_s116_87, ec_s116_88, ec_s116_89, ec_s116_91, ec_s116_94, ec_s116_95, ec_s116_96, ec_s116_97, ec_s116_100, ec_zn0, ec_zn1, ec_zn2, ec_zn3, ec_zn4, ec_zn5, ec_zn6, ec_zn7, ec_zn8, ec_zn9, ec_zn10, ec_zn12, ec_zn13, ec_zn14, ec_zn15, ec_zn16, ec_zn20, ec_zn30, ec_zn48, ec_zn99, ec_zn120, ec_zn127, ec_zn11, ec_zn31, ec_zn46, ec_zn57, ec_zn59, ec_zn63, ec_zn101, ec_zn107, ec_zn108, ec_zn110, ec_zn111, ec_zn115, ec_zn116, ec_zn119, ec_zn167, ec_zn185, ec_zn192, ec_zn215, ec_zn233, ec_zn699, ec_zn932, ec_zn999, ec_znF, ec_zneg, ec_zadd, ec_zsub, ec_zmul, ec_zdivO, ec_em, ec_zltO, ec_zeqO, ec_zeq0, ec_qt, ec_qf, if_pos, if_neg, Int.add_zero, ec_aft_v, ec_aft_n, ec_rwE, ec_rwN, ec_rwP, ec_rwK, ec_rwS, ec_w_shpI, ec_w_shpL, ec_w_shpA, hD, hl, ea1, ea2, la, eb1, eb2, lb, ec1, ec2, lc, ed1, ed2, ld, ee1, ee2, le, ef1, ef2, lf, eg1, eg2, lg, ei1, ei2, li, ej1, ej2, lj, ek1, ek2, lk, em1, em2, lm, b1]
