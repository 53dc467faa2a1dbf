/-! The law's loop, and its run from the first row. -/
theorem ed_CL.at_ {h h' : ec_Hp} {σ : ec_Sg} {p : Int → ec_Sg} {T : Int → Int} (C : ed_CL h σ 0 p 0 T) (a : ∀ q, q ≤ 71 → ed_at q h h') : ed_CL h' σ 0 p 0 T := by
  have s : ∀ q, q ≤ 71 → ec_shp h' q = ec_shp h q := fun q hq => (a q hq).1
  have e : ∀ q j, q ≤ 71 → h'.2.1 q j = h.2.1 q j := fun q j hq => (a q hq).2 j
  obtain ⟨c1, ⟨c2, c3, c4⟩, c5, ⟨c6, ⟨c7, c8, c9, c10⟩, nx, n1, n2, n3, n4, n5⟩, c11, ⟨c12, c13⟩, c14⟩ := C
  have CD : ed_CD h' := by
    unfold ed_CD ec_isK at c1 ⊢
    rw [s 0 (by omega), s 70 (by omega), s 71 (by omega)]
    exact c1
  have RC : ec_RC h' 1 σ := by
    unfold ec_RC at c3 ⊢
    simp (disch := omega) only [e]
    exact c3
  have HS : ed_HS h' := by
    unfold ed_HS ec_isK at c6 ⊢
    rw [s 21 (by omega), s 22 (by omega)]
    exact c6
  have TN : ed_TN h' 66 := by
    unfold ed_TN ec_isK at c12 ⊢
    rw [s 66 (by omega), s (66 + 1) (by omega)]
    exact c12
  exact ⟨CD, ⟨c2.at_ (fun q x y => a q (by omega)), RC, c4⟩, c5.at_ (fun q x y => a q (by omega)), ⟨HS, ⟨c7.at_ (fun q x y => a q (by omega)), c8.at_ (fun q x y => a q (by omega)), c9.at_ (fun q x y => a q (by omega)), c10.at_ (fun q x y => a q (by omega))⟩, nx, n1, n2, (e 21 1 (by omega)).trans n3, (e 21 2 (by omega)).trans n4, fun i hi => absurd hi (by omega)⟩, c11.at_ (fun q x y => a q (by omega)), ⟨TN, c13.at_ (fun q x y => a q (by omega))⟩, (e 70 1 (by omega)).trans c14.1, c14.2.1, fun i hi => absurd hi (by omega)⟩
theorem ed_ML.at_ {h h' : ec_Hp} {σ : ec_Sg} {p : Int → ec_Sg} {T : Int → Int} (M : ed_ML h σ 0 p 0 T) (a : ∀ q, q ≤ 83 → ed_at q h h') : ed_ML h' σ 0 p 0 T := by
  have s : ∀ q, q ≤ 83 → ec_shp h' q = ec_shp h q := fun q hq => (a q hq).1
  have e : ∀ q j, q ≤ 83 → h'.2.1 q j = h.2.1 q j := fun q j hq => (a q hq).2 j
  obtain ⟨m1, m2, m3, m4, m5⟩ := M
  have MD : ec_MD h' := by
    unfold ec_MD ec_isK at m1 ⊢
    rw [s 72 (by omega), s 73 (by omega), s 74 (by omega), s 75 (by omega), s 76 (by omega), s 77 (by omega), s 78 (by omega), s 79 (by omega), s 80 (by omega), s 81 (by omega), s 82 (by omega), s 83 (by omega)]
    exact m1
  exact ⟨MD, fun z hz => (e 73 _ (by omega)).trans (m2 z hz), m3, ⟨(e 72 4 (by omega)).trans m4.1, m4.2.1, fun i hi => absurd hi (by omega)⟩, (e 72 6 (by omega)).trans m5.1, m5.2.1, fun i hi => absurd hi (by omega)⟩
section EDZ
variable {N : Nat} {xs : Nat → Int32}
set_option maxHeartbeats 1000000 in
theorem ec_226L (hN : N ≤ 3072) : ∀ (r : Nat) (i : Int) (h : ec_Hp) (σ : ec_Sg) (n : Int) (p : Int → ec_Sg) (L : Int) (T : Int → Int) (w5 w6 : Value), ed_Lw h σ n p L T → h.2.2.2.2.2 = (N, xs) → 0 ≤ i → i ≤ 4000 → (N : Int) < i + 6 * r + 6 →
    ∃ h', ec_om 226 23 [.float 0, .ref 0, .ref 72, .ref 84, .int (ec_i i), w5, w6] [] h = some (.inl (some (.int 1)), h') ∧ h'.2.2.2.1 ≤ h.2.2.2.1 + r ∧ h'.2.2.2.2.1 ≤ h.2.2.2.2.1 + 6 * r := by
  intro r
  induction r with
  | zero =>
    intro i h σ n p L T w5 w6 W hs i0 i1 hr
    have q : (N : Int) - 6 < i := by omega
    have hD := And.intro W.1.1.1.1 hs
    refine ⟨h, ?_, by omega, by omega⟩
    simp (disch := first | (simp only [ec_w_kI, ec_w_kL, ec_w_kA, ec_w_shpI, ec_w_shpL, ec_w_shpA, ec_isR_r, ec_01z, ec_01o, ec_01q, hD]; done) | omega | (simp only [ec_w_shpI, ec_w_shpL, ec_w_shpA, hD]; refine ec_zinO ?_; omega) | (refine ec_nzO ?_; omega)) only [ec_s226_23, ec_s226_25, ec_s226_26, ec_s226_27, ec_s226_29, ec_s226_30, ec_s226_2026, ec_s226_2027, ec_zn0, ec_zn1, ec_zn2, ec_zn3, ec_zn4, ec_zn5, ec_zn6, ec_zn7, ec_zn8, ec_zn9, ec_zn10, ec_zn12, ec_zn13, ec_zn14, ec_zn15, ec_zn16, ec_zn20, ec_zn30, ec_zn48, ec_zn99, ec_zn120, ec_zn127, ec_zn11, ec_zn31, ec_zn46, ec_zn57, ec_zn59, ec_zn63, ec_zn101, ec_zn107, ec_zn108, ec_zn110, ec_zn111, ec_zn115, ec_zn116, ec_zn119, ec_zn167, ec_zn185, ec_zn192, ec_zn215, ec_zn233, ec_zn699, ec_zn932, ec_zn999, ec_znF, ec_zneg, ec_zadd, ec_zsub, ec_zmul, ec_zdivO, ec_em, ec_zltO, ec_zeqO, ec_zeq0, ec_qt, ec_qf, if_pos, if_neg, Int.add_zero, ec_aft_v, ec_aft_n, ec_rwE, ec_rwN, ec_rwP, ec_rwK, ec_rwS, ec_w_shpI, ec_w_shpL, ec_w_shpA, hs, ec_zof]
  | succ r ih =>
    intro i h σ n p L T w5 w6 W hs i0 i1 hr
    have hD := And.intro W.1.1.1.1 hs
    by_cases q : (N : Int) - 6 < i
    · refine ⟨h, ?_, by omega, by omega⟩
      simp (disch := first | (simp only [ec_w_kI, ec_w_kL, ec_w_kA, ec_w_shpI, ec_w_shpL, ec_w_shpA, ec_isR_r, ec_01z, ec_01o, ec_01q, hD]; done) | omega | (simp only [ec_w_shpI, ec_w_shpL, ec_w_shpA, hD]; refine ec_zinO ?_; omega) | (refine ec_nzO ?_; omega)) only [ec_s226_23, ec_s226_25, ec_s226_26, ec_s226_27, ec_s226_29, ec_s226_30, ec_s226_2026, ec_s226_2027, ec_zn0, ec_zn1, ec_zn2, ec_zn3, ec_zn4, ec_zn5, ec_zn6, ec_zn7, ec_zn8, ec_zn9, ec_zn10, ec_zn12, ec_zn13, ec_zn14, ec_zn15, ec_zn16, ec_zn20, ec_zn30, ec_zn48, ec_zn99, ec_zn120, ec_zn127, ec_zn11, ec_zn31, ec_zn46, ec_zn57, ec_zn59, ec_zn63, ec_zn101, ec_zn107, ec_zn108, ec_zn110, ec_zn111, ec_zn115, ec_zn116, ec_zn119, ec_zn167, ec_zn185, ec_zn192, ec_zn215, ec_zn233, ec_zn699, ec_zn932, ec_zn999, ec_znF, ec_zneg, ec_zadd, ec_zsub, ec_zmul, ec_zdivO, ec_em, ec_zltO, ec_zeqO, ec_zeq0, ec_qt, ec_qf, if_pos, if_neg, Int.add_zero, ec_aft_v, ec_aft_n, ec_rwE, ec_rwN, ec_rwP, ec_rwK, ec_rwS, ec_w_shpI, ec_w_shpL, ec_w_shpA, hs, ec_zof]
    · have st : ec_om 226 23 [.float 0, .ref 0, .ref 72, .ref 84, .int (ec_i i), w5, w6] [] h = ec_om 226 40 [.float 0, .ref 0, .ref 72, .ref 84, .int (ec_i i), w5, w6] [.int (xs (ec_i i).toNatClampNeg &&& 31)] h := by
        simp (disch := first | (simp only [ec_w_kI, ec_w_kL, ec_w_kA, ec_w_shpI, ec_w_shpL, ec_w_shpA, ec_isR_r, ec_01z, ec_01o, ec_01q, hD]; done) | omega | (simp only [ec_w_shpI, ec_w_shpL, ec_w_shpA, hD]; refine ec_zinO ?_; omega) | (refine ec_nzO ?_; omega)) only [ec_s226_23, ec_s226_25, ec_s226_26, ec_s226_27, ec_s226_29, ec_s226_30, ec_s226_33, ec_s226_34, ec_s226_36, ec_s226_37, ec_s226_39, ec_zn0, ec_zn1, ec_zn2, ec_zn3, ec_zn4, ec_zn5, ec_zn6, ec_zn7, ec_zn8, ec_zn9, ec_zn10, ec_zn12, ec_zn13, ec_zn14, ec_zn15, ec_zn16, ec_zn20, ec_zn30, ec_zn48, ec_zn99, ec_zn120, ec_zn127, ec_zn11, ec_zn31, ec_zn46, ec_zn57, ec_zn59, ec_zn63, ec_zn101, ec_zn107, ec_zn108, ec_zn110, ec_zn111, ec_zn115, ec_zn116, ec_zn119, ec_zn167, ec_zn185, ec_zn192, ec_zn215, ec_zn233, ec_zn699, ec_zn932, ec_zn999, ec_znF, ec_zneg, ec_zadd, ec_zsub, ec_zmul, ec_zdivO, ec_em, ec_zltO, ec_zeqO, ec_zeq0, ec_qt, ec_qf, if_pos, if_neg, Int.add_zero, ec_aft_v, ec_aft_n, ec_rwE, ec_rwN, ec_rwP, ec_rwK, ec_rwS, ec_w_shpI, ec_w_shpL, ec_w_shpA, hs, ec_zof]
      obtain ⟨h1, w5', w6', σ', n', p', L', T', e, W', g1, g2, g3⟩ := ec_226d (w5 := w5) (w6 := w6) W hs (show 0 ≤ i ∧ i + 6 ≤ (N : Int) by omega) hN (xs (ec_i i).toNatClampNeg &&& 31)
      have st2 : ec_om 226 2020 [.float 0, .ref 0, .ref 72, .ref 84, .int (ec_i i), w5', w6'] [] h1 = ec_om 226 23 [.float 0, .ref 0, .ref 72, .ref 84, .int (ec_i (i + 6)), w5', w6'] [] h1 := by
        rw [ec_s226_2020, ec_s226_2023, ec_zn6, ec_zadd]
      obtain ⟨h', a1, a2, a3⟩ := ih (i + 6) h1 σ' n' p' L' T' w5' w6' W' (g1.trans hs) (by omega) (by omega) (by omega)
      exact ⟨h', st.trans (e.trans (st2.trans a1)), by omega, by omega⟩
set_option maxHeartbeats 1000000 in
theorem ec_pure : ec_Pure := by
  intro L xs hL
  have l0 : (ec_h0 L xs).1.length = 0 := rfl
  have q1 := ed_dq (a := 1) (by omega)
  obtain ⟨a1, ea, la, sa, za, ga⟩ := ed_nw (ec_h0 L xs) 6 6 (by omega)
  rw [l0] at la sa za ga
  obtain ⟨a2, ra, Ca, lb, gb⟩ := ec_c70s la sa
  obtain ⟨b1, eb, lb1, sb, zb, gb1⟩ := ed_nw a2 7 19 (by omega)
  rw [lb] at lb1 sb zb gb1
  obtain ⟨b2, rb, Mb, lb2, gb2⟩ := ec_c116s lb1 (ec_k_of sb) zb
  obtain ⟨c1, ec1, lc1, sc, zc, gc1⟩ := ed_nw b2 19 (ec_i 1).toNatClampNeg (show (1 : Nat) ≤ 5000 by omega)
  rw [lb2] at lc1 sc zc gc1
  have W : ed_Lw c1 (ed_new 5 4) 0 (fun _ => ed_new 5 4) 0 (fun _ => 0) := ⟨(Ca _ _).at_ (fun q hq => ((gb1.at_ (show q < 72 by omega)).trans (gb2.at_ (by omega))).trans (gc1.at_ (by omega))), (Mb _ _).at_ (fun q hq => gc1.at_ (by omega)), ec_k_of sc, by rw [sc]; rfl⟩
  have gg : ed_gw 0 (ec_h0 L xs) c1 := ga.trans (gb.trans (gb1.trans (gb2.trans gc1 (by omega)) (by omega)) (by omega)) (by omega)
  obtain ⟨-, hs, a, b, t1, t2, t3, t4⟩ := gg
  have st : ec_om 226 0 [.float 0, .double 0, .double 0, .double 0, .double 0, .double 0, .double 0] [] (ec_h0 L xs) = ec_om 226 23 [.float 0, .ref 0, .ref 72, .ref 84, .int (ec_i 0), .double 0, .double 0] [] c1 := by
    have hD := And.intro (ec_k_of sa) (And.intro (ec_k_of sb) q1)
    simp (disch := first | (simp only [ec_w_kI, ec_w_kL, ec_w_kA, ec_w_shpI, ec_w_shpL, ec_w_shpA, ec_isR_r, ec_01z, ec_01o, ec_01q, hD]; done) | omega | (simp only [ec_w_shpI, ec_w_shpL, ec_w_shpA, hD]; refine ec_zinO ?_; omega) | (refine ec_nzO ?_; omega)) only [ec_s226_0, ec_s226_3, ec_s226_4, ec_s226_7, ec_s226_8, ec_s226_11, ec_s226_12, ec_s226_15, ec_s226_16, ec_s226_17, ec_s226_19, ec_s226_20, ec_s226_21, ec_zn0, ec_zn1, ec_zn2, ec_zn3, ec_zn4, ec_zn5, ec_zn6, ec_zn7, ec_zn8, ec_zn9, ec_zn10, ec_zn12, ec_zn13, ec_zn14, ec_zn15, ec_zn16, ec_zn20, ec_zn30, ec_zn48, ec_zn99, ec_zn120, ec_zn127, ec_zn11, ec_zn31, ec_zn46, ec_zn57, ec_zn59, ec_zn63, ec_zn101, ec_zn107, ec_zn108, ec_zn110, ec_zn111, ec_zn115, ec_zn116, ec_zn119, ec_zn167, ec_zn185, ec_zn192, ec_zn215, ec_zn233, ec_zn699, ec_zn932, ec_zn999, ec_znF, ec_zneg, ec_zadd, ec_zsub, ec_zmul, ec_zdivO, ec_em, ec_zltO, ec_zeqO, ec_zeq0, ec_qt, ec_qf, if_pos, if_neg, Int.add_zero, ec_aft_v, ec_aft_n, ec_rwE, ec_rwN, ec_rwP, ec_rwK, ec_rwS, ec_w_shpI, ec_w_shpL, ec_w_shpA, hD, l0, ea, ra, lb, eb, rb, lb2, ec1]
  obtain ⟨h', e, e2, e3⟩ := ec_226L hL 512 0 c1 _ _ _ _ _ (.double 0) (.double 0) W hs (by omega) (by omega) (by omega)
  have f : ec_om 226 0 (ec_iniL 226 [.float 0]) [] (ec_h0 L xs) = some (.inl (some (.int 1)), h') := st.trans e
  obtain ⟨n, hn⟩ := ec_om_iff.mp f
  have z1 : (ec_h0 L xs).2.2.2.1 = 0 := rfl
  have z2 : (ec_h0 L xs).2.2.2.2.1 = 0 := rfl
  exact ⟨n, h', hn, by omega, by omega⟩
end EDZ
