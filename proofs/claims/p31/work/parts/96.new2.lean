/-! Making objects: the class. -/
theorem ec_DN.at_ {h h' : ec_Hp} {B : Nat} (D : ec_DN h B) (a : ∀ q, B ≤ q → q ≤ B + 9 → ed_at q h h') : ec_DN h' B := by
  obtain ⟨⟨d1, d2⟩, ⟨d3, d4⟩, d5, d6, d7, d8⟩ := D
  refine ⟨⟨ec_isK.at_ d1 (a _ (by omega) (by omega)), ?_⟩, ⟨ec_isK.at_ d3 (a _ (by omega) (by omega)), ?_⟩, d5.at_ (a _ (by omega) (by omega)) (a _ (by omega) (by omega)), d6.at_ (a _ (by omega) (by omega)) (a _ (by omega) (by omega)), d7.at_ (a _ (by omega) (by omega)) (a _ (by omega) (by omega)), d8.at_ (a _ (by omega) (by omega)) (a _ (by omega) (by omega))⟩
  · rw [(a B (by omega) (by omega)).1]
    exact d2
  · rw [(a (B + 1) (by omega) (by omega)).1]
    exact d4
theorem ed_SL.at_ {h h' : ec_Hp} {p : Nat} (S : ed_SL h p) (a : ∀ q, p ≤ q → q ≤ p + 2 → ed_at q h h') : ed_SL h' p := by
  obtain ⟨⟨⟨k1, k2⟩, ⟨k4, k5⟩, k6, k7⟩, c, nw, t, s1, s2, s3⟩ := S
  have a0 := a p (by omega) (by omega)
  have a1 := a (p + 1) (by omega) (by omega)
  have a2 := a (p + 2) (by omega) (by omega)
  exact ⟨⟨⟨ec_isK.at_ k1 a0, by rw [a0.1]; exact k2⟩, ⟨ec_isK.at_ k4 a1, by rw [a1.1]; exact k5⟩, ec_isK.at_ k6 a2, by rw [a2.1]; exact k7⟩, c, nw, t, s1, (a0.2 _).trans s2, fun k hk => ⟨(s3 k hk).1, (a1.2 _).trans (s3 k hk).2.1, (a2.2 _).trans (s3 k hk).2.2⟩⟩
/-- an array of an object is made -/
theorem ed_ar {h : ec_Hp} {p k kd ak z n : Nat} (hn : h.1.length = n) (hp : p < n) (hk : ec_isK h p kd = true) (hz : z ≤ 5000) :
    ∃ h1 h2, ec_mk h ak z = h1 ∧ ec_setR h1 p k (.ref n) = h2 ∧ (ec_isK h1 p kd = true ∧ ec_isK h2 p kd = true) ∧ h2.1.length = n + 1 ∧ ec_shp h2 n = (ak, z, fun _ => .null) ∧ (∀ j, h2.2.1 n j = 0) ∧ (∀ q, q < n → q ≠ p → ed_at q h h2) ∧ ec_shp h2 p = ec_upR (ec_shp h p) k (.ref n) ∧ (∀ j, h2.2.1 p j = h.2.1 p j) ∧ ed_gw p h h2 := by
  obtain ⟨h1, e1, l1, s1, z1, g1⟩ := ed_nw h ak z hz
  rw [hn] at l1 s1 z1 g1
  obtain ⟨h2, e2, l2, s2, a2, i2, g2⟩ := ed_sr h1 p k (.ref n) (by omega)
  have A1 := g1.at_ hp
  have K1 := ec_isK.at_ hk A1
  have An := a2 n (by omega)
  refine ⟨h1, h2, e1, e2, ⟨K1, ?_⟩, by omega, An.1.trans s1, fun j => (An.2 j).trans (z1 j), fun q hq hqp => (g1.at_ hq).trans (a2 q hqp), by rw [s2, A1.1], fun j => (i2 j).trans (A1.2 j), (g1.mono (by omega)).trans g2 (Nat.le_refl _)⟩
  unfold ec_isK at K1 ⊢
  rw [s2]
  exact K1
theorem ec_c0s {h : ec_Hp} {p : Nat} (hl : h.1.length = p + 1) (hk : ec_isK h p 0 = true) (hz : ∀ j, h.2.1 p j = 0) : ∃ h', ec_om 0 0 [.ref p] [] h = some (.inl none, h') ∧ (ec_isK h' p 0 = true ∧ (ec_shp h' p).2.2 0 = .ref (p + 1)) ∧ (ec_isK h' (p + 1) 18 = true ∧ (ec_shp h' (p + 1)).2.1 = 120) ∧ (∀ j, h'.2.1 p j = 0) ∧ h'.1.length = p + 2 ∧ ed_gw p h h' := by
  have dq := ed_dq (a := 120) (by omega)
  obtain ⟨h1, h2, e1, e2, ⟨K1, K2⟩, l2, s2, z2, a2, S, i2, g2⟩ := ed_ar (k := 0) (ak := 18) (z := (ec_i 120).toNatClampNeg) hl (by omega) hk (show (120 : Nat) ≤ 5000 by omega)
  refine ⟨h2, ?_, ⟨K2, ?_⟩, ⟨?_, ?_⟩, fun j => (i2 j).trans (hz j), by omega, g2⟩
  · have hD := And.intro hk (And.intro dq (And.intro K1 K2))
    simp (disch := first | (simp only [ec_w_kI, ec_w_kL, ec_w_kA, ec_w_shpI, ec_w_shpL, ec_w_shpA, ec_isR_r, ec_01z, ec_01o, ec_01q, hD]; done) | omega | (simp only [ec_w_shpI, ec_w_shpL, ec_w_shpA, hD]; refine ec_zinO ?_; omega) | (refine ec_nzO ?_; omega)) only [ec_s0_0, ec_s0_1, ec_s0_4, ec_s0_5, ec_s0_7, ec_s0_9, ec_s0_12, ec_zn0, ec_zn1, ec_zn2, ec_zn3, ec_zn4, ec_zn5, ec_zn6, ec_zn7, ec_zn8, ec_zn9, ec_zn10, ec_zn12, ec_zn13, ec_zn14, ec_zn15, ec_zn16, ec_zn20, ec_zn30, ec_zn48, ec_zn99, ec_zn120, ec_zn127, ec_zn11, ec_zn31, ec_zn46, ec_zn57, ec_zn59, ec_zn63, ec_zn101, ec_zn107, ec_zn108, ec_zn110, ec_zn111, ec_zn115, ec_zn116, ec_zn119, ec_zn167, ec_zn185, ec_zn192, ec_zn215, ec_zn233, ec_zn699, ec_zn932, ec_zn999, ec_znF, ec_zneg, ec_zadd, ec_zsub, ec_zmul, ec_zdivO, ec_em, ec_zltO, ec_zeqO, ec_zeq0, ec_qt, ec_qf, if_pos, if_neg, Int.add_zero, ec_aft_v, ec_aft_n, ec_rwE, ec_rwN, ec_rwP, ec_rwK, ec_rwS, ec_w_shpI, ec_w_shpL, ec_w_shpA, hD, hl, e1, e2]
  · rw [S]
    rfl
  · show Nat.beq (ec_shp h2 (p + 1)).1 18 = true
    rw [s2]
    rfl
  · rw [s2]
    rfl
/-- an object with its constructor's cells, put into a field -/
theorem ed_pt {h hc : ec_Hp} {p k n len kd : Nat} (hn : h.1.length = n) (hp : p < n) (hk : ec_isK h p kd = true) (g : ed_gw n h hc) (hl : hc.1.length = len) (nl : n < len) : ∃ h2, ec_setR hc p k (.ref n) = h2 ∧ (ec_isK hc p kd = true ∧ ec_isK h2 p kd = true) ∧ h2.1.length = len ∧ (∀ q, q < n → q ≠ p → ed_at q h h2) ∧ (∀ q, q ≠ p → ed_at q hc h2) ∧ ec_shp h2 p = ec_upR (ec_shp h p) k (.ref n) ∧ (∀ j, h2.2.1 p j = h.2.1 p j) ∧ ed_gw p h h2 := by
  obtain ⟨h2, e2, l2, s2, a2, i2, g2⟩ := ed_sr hc p k (.ref n) (by omega)
  have A1 := g.at_ hp
  have K1 := ec_isK.at_ hk A1
  refine ⟨h2, e2, ⟨K1, ?_⟩, by omega, fun q hq hqp => (g.at_ hq).trans (a2 q hqp), a2, by rw [s2, A1.1], fun j => (i2 j).trans (A1.2 j), (g.mono (by omega)).trans g2 (Nat.le_refl _)⟩
  unfold ec_isK at K1 ⊢
  rw [s2]
  exact K1
theorem ec_c56s {h : ec_Hp} {p : Nat} (hl : h.1.length = p + 1) (hk : ec_isK h p 5 = true) : ∃ h', ec_om 56 0 [.ref p] [] h = some (.inl none, h') ∧ ed_TN h' p ∧ ed_SL h' (p + 1) ∧ h'.1.length = p + 4 ∧ ed_gw p h h' := by
  obtain ⟨h1, e1, l1, s1, z1, g1⟩ := ed_nw h 3 3 (by omega)
  rw [hl] at l1 s1 z1 g1
  obtain ⟨h2, b1, b2, b3, b4⟩ := ec_c32s l1 (ec_k_of s1) z1
  obtain ⟨h3, e3, ⟨K2, K3⟩, l3, a3, c3, S, i3, g3⟩ := ed_pt (k := 0) hl (show p < p + 1 by omega) hk (g1.trans b4 (Nat.le_refl _)) b3 (by omega)
  have SL := b2.at_ (fun q x y => c3 q (by omega))
  refine ⟨h3, ?_, ⟨K3, ?_, SL.1.1.1⟩, SL, by omega, g3⟩
  · have K1 := ec_isK.at_ hk (g1.at_ (by omega))
    have hD := And.intro hk (And.intro K1 (And.intro (ec_k_of s1) (And.intro K2 K3)))
    simp (disch := first | (simp only [ec_w_kI, ec_w_kL, ec_w_kA, ec_w_shpI, ec_w_shpL, ec_w_shpA, ec_isR_r, ec_01z, ec_01o, ec_01q, hD]; done) | omega | (simp only [ec_w_shpI, ec_w_shpL, ec_w_shpA, hD]; refine ec_zinO ?_; omega) | (refine ec_nzO ?_; omega)) only [ec_s56_0, ec_s56_1, ec_s56_4, ec_s56_5, ec_s56_8, ec_s56_9, ec_s56_12, ec_s56_15, ec_zn0, ec_zn1, ec_zn2, ec_zn3, ec_zn4, ec_zn5, ec_zn6, ec_zn7, ec_zn8, ec_zn9, ec_zn10, ec_zn12, ec_zn13, ec_zn14, ec_zn15, ec_zn16, ec_zn20, ec_zn30, ec_zn48, ec_zn99, ec_zn120, ec_zn127, ec_zn11, ec_zn31, ec_zn46, ec_zn57, ec_zn59, ec_zn63, ec_zn101, ec_zn107, ec_zn108, ec_zn110, ec_zn111, ec_zn115, ec_zn116, ec_zn119, ec_zn167, ec_zn185, ec_zn192, ec_zn215, ec_zn233, ec_zn699, ec_zn932, ec_zn999, ec_znF, ec_zneg, ec_zadd, ec_zsub, ec_zmul, ec_zdivO, ec_em, ec_zltO, ec_zeqO, ec_zeq0, ec_qt, ec_qf, if_pos, if_neg, Int.add_zero, ec_aft_v, ec_aft_n, ec_rwE, ec_rwN, ec_rwP, ec_rwK, ec_rwS, ec_w_shpI, ec_w_shpL, ec_w_shpA, hD, hl, e1, b1, e3]
  · rw [S]
    rfl
theorem ec_c28L : ∀ (r : Nat) (i : Int) (h : ec_Hp), 0 ≤ i → i + r = 4 → h.1.length = (23 + 10 * i).toNat → (ec_isK h 21 2 = true ∧ (ec_shp h 21).2.2 0 = .ref 22) → (ec_isK h 22 20 = true ∧ (ec_shp h 22).2.1 = 4) →
    (∀ k : Nat, (k : Int) < i → (ec_shp h 22).2.2 k = .ref (23 + 10 * k) ∧ ec_DN h (23 + 10 * k)) →
    ∃ h', ec_om 28 14 [.ref 21, .int (ec_i i)] [] h = some (.inl none, h') ∧ h'.1.length = 63 ∧ (ec_isK h' 21 2 = true ∧ (ec_shp h' 21).2.2 0 = .ref 22) ∧ (ec_isK h' 22 20 = true ∧ (ec_shp h' 22).2.1 = 4) ∧ (∀ k : Nat, (k : Int) < 4 → (ec_shp h' 22).2.2 k = .ref (23 + 10 * k) ∧ ec_DN h' (23 + 10 * k)) ∧ ed_gw 22 h h' := by
  intro r
  induction r with
  | zero =>
    intro i h h0 hi hl k1 k2 hd
    have hi : i = 4 := by omega
    subst hi
    refine ⟨h, ?_, hl, k1, k2, hd, ed_gw.refl⟩
    rw [ec_s28_14]
    simp (disch := first | (simp only [ec_01z, ec_01o, ec_01q]; done) | omega | (refine ec_nzO ?_; omega)) only [ec_s28_0, ec_s28_1, ec_s28_4, ec_s28_5, ec_s28_6, ec_s28_9, ec_s28_12, ec_s28_13, ec_s28_15, ec_s28_16, ec_s28_19, ec_s28_20, ec_s28_23, ec_s28_24, ec_s28_27, ec_s28_28, ec_s28_31, ec_s28_32, ec_s28_35, ec_s28_38, ec_zn0, ec_zn1, ec_zn2, ec_zn3, ec_zn4, ec_zn5, ec_zn6, ec_zn7, ec_zn8, ec_zn9, ec_zn10, ec_zn12, ec_zn13, ec_zn14, ec_zn15, ec_zn16, ec_zn20, ec_zn30, ec_zn48, ec_zn99, ec_zn120, ec_zn127, ec_zn11, ec_zn31, ec_zn46, ec_zn57, ec_zn59, ec_zn63, ec_zn101, ec_zn107, ec_zn108, ec_zn110, ec_zn111, ec_zn115, ec_zn116, ec_zn119, ec_zn167, ec_zn185, ec_zn192, ec_zn215, ec_zn233, ec_zn699, ec_zn932, ec_zn999, ec_znF, ec_zneg, ec_zadd, ec_zsub, ec_zmul, ec_zdivO, ec_em, ec_zltO, ec_zeqO, ec_zeq0, ec_qt, ec_qf, if_pos, if_neg, Int.add_zero, ec_aft_v, ec_aft_n, ec_rwE, ec_rwN, ec_rwP, ec_rwK, ec_rwS, ec_w_shpI, ec_w_shpL, ec_w_shpA]
  | succ r ih =>
    intro i h h0 hi hl k1 k2 hd
    obtain ⟨h1, e1, l1, s1, z1, g1⟩ := ed_nw h 1 12 (by omega)
    have nn : h.1.length = 23 + 10 * i.toNat := by omega
    rw [nn] at l1 s1 z1 g1
    obtain ⟨h2, b1, b2, b3, b4⟩ := ec_c11s l1 (ec_k_of s1)
    have ci : (ec_i i).toNatClampNeg = i.toNat := ec_zcl h0 (by omega)
    obtain ⟨h3, e3, ⟨K2, K3⟩, l3, a3, c3, S, i3, g3⟩ := ed_pt (k := (ec_i i).toNatClampNeg) nn (show 22 < 23 + 10 * i.toNat by omega) k2.1 (g1.trans b4 (Nat.le_refl _)) b3 (by omega)
    have sz : (ec_shp h3 22).2.1 = 4 := by rw [S]; exact k2.2
    have A21 := a3 21 (by omega) (by omega)
    have k21 : ec_isK h3 21 2 = true ∧ (ec_shp h3 21).2.2 0 = .ref 22 := ⟨ec_isK.at_ k1.1 A21, by rw [A21.1]; exact k1.2⟩
    obtain ⟨h4, d1, d2, d3, d4, d5, d6⟩ := ih (i + 1) h3 (by omega) (by omega) (by omega) k21 ⟨K3, sz⟩ (fun k hk => by
      rw [S, ci]
      show (if k = i.toNat then Value.ref (23 + 10 * i.toNat) else (ec_shp h 22).2.2 k) = _ ∧ _
      by_cases q : k = i.toNat
      · rw [if_pos q, q]
        exact ⟨rfl, b2.at_ (fun q x y => c3 q (by omega))⟩
      · rw [if_neg q]
        have := hd k (by omega)
        exact ⟨this.1, this.2.at_ (fun q x y => a3 q (by omega) (by omega))⟩)
    refine ⟨h4, ?_, d2, d3, d4, d5, g3.trans d6 (Nat.le_refl _)⟩
    have A1 := g1.at_ (q := 21) (by omega)
    have B1 := g1.at_ (q := 22) (by omega)
    have B2 := (g1.trans b4 (Nat.le_refl _)).at_ (q := 22) (by omega)
    have sz2 : (ec_shp h2 22).2.1 = 4 := by rw [B2.1]; exact k2.2
    have hD := And.intro k1 (And.intro k2 (And.intro (ec_k_of s1) (And.intro b2.1.1 (And.intro K2 (And.intro sz2 K3)))))
    rw [ec_s28_14]
    simp (disch := first | (simp only [ec_w_kI, ec_w_kL, ec_w_kA, ec_w_shpI, ec_w_shpL, ec_w_shpA, ec_isR_r, ec_01z, ec_01o, ec_01q, hD]; done) | omega | (simp only [ec_w_shpI, ec_w_shpL, ec_w_shpA, hD]; refine ec_zinO ?_; omega) | (refine ec_nzO ?_; omega)) only [ec_s28_0, ec_s28_1, ec_s28_4, ec_s28_5, ec_s28_6, ec_s28_9, ec_s28_12, ec_s28_13, ec_s28_15, ec_s28_16, ec_s28_19, ec_s28_20, ec_s28_23, ec_s28_24, ec_s28_27, ec_s28_28, ec_s28_31, ec_s28_32, ec_s28_35, ec_s28_38, ec_zn0, ec_zn1, ec_zn2, ec_zn3, ec_zn4, ec_zn5, ec_zn6, ec_zn7, ec_zn8, ec_zn9, ec_zn10, ec_zn12, ec_zn13, ec_zn14, ec_zn15, ec_zn16, ec_zn20, ec_zn30, ec_zn48, ec_zn99, ec_zn120, ec_zn127, ec_zn11, ec_zn31, ec_zn46, ec_zn57, ec_zn59, ec_zn63, ec_zn101, ec_zn107, ec_zn108, ec_zn110, ec_zn111, ec_zn115, ec_zn116, ec_zn119, ec_zn167, ec_zn185, ec_zn192, ec_zn215, ec_zn233, ec_zn699, ec_zn932, ec_zn999, ec_znF, ec_zneg, ec_zadd, ec_zsub, ec_zmul, ec_zdivO, ec_em, ec_zltO, ec_zeqO, ec_zeq0, ec_qt, ec_qf, if_pos, if_neg, Int.add_zero, ec_aft_v, ec_aft_n, ec_rwE, ec_rwN, ec_rwP, ec_rwK, ec_rwS, ec_w_shpI, ec_w_shpL, ec_w_shpA, hD, nn, e1, b1, e3, d1]
theorem ec_c28s {h : ec_Hp} (hl : h.1.length = 22) (hk : ec_isK h 21 2 = true) (hz : ∀ j, h.2.1 21 j = 0) : ∃ h', ec_om 28 0 [.ref 21, .double 0] [] h = some (.inl none, h') ∧ ed_HS h' ∧ (ec_DN h' 23 ∧ ec_DN h' 33 ∧ ec_DN h' 43 ∧ ec_DN h' 53) ∧ (∀ j, h'.2.1 21 j = 0) ∧ h'.1.length = 63 ∧ ed_gw 21 h h' := by
  have dq := ed_dq (a := 4) (by omega)
  obtain ⟨h1, h2, e1, e2, ⟨K1, K2⟩, l2, s2, z2, a2, S, i2, g2⟩ := ed_ar (k := 0) (ak := 20) (z := (ec_i 4).toNatClampNeg) hl (show 21 < 22 by omega) hk (show (4 : Nat) ≤ 5000 by omega)
  obtain ⟨h3, b1, b2, b3, b4, b5, b6⟩ := ec_c28L 4 0 h2 (by omega) (by omega) (by omega) ⟨K2, by rw [S]; rfl⟩ ⟨by show Nat.beq (ec_shp h2 22).1 20 = true; rw [s2]; rfl, by rw [s2]; rfl⟩ (fun k hk => absurd hk (by omega))
  have d0 := b5 0 (by omega)
  have d1 := b5 1 (by omega)
  have d2 := b5 2 (by omega)
  have d3 := b5 3 (by omega)
  refine ⟨h3, ?_, ⟨b3, b4, d0.1, d1.1, d2.1, d3.1⟩, ⟨d0.2, d1.2, d2.2, d3.2⟩, fun j => ((b6.1 21 (by omega)).2 j).trans ((i2 j).trans (hz j)), b2, g2.trans (b6.mono (by omega)) (Nat.le_refl _)⟩
  have hD := And.intro hk (And.intro dq (And.intro K1 K2))
  simp (disch := first | (simp only [ec_w_kI, ec_w_kL, ec_w_kA, ec_w_shpI, ec_w_shpL, ec_w_shpA, ec_isR_r, ec_01z, ec_01o, ec_01q, hD]; done) | omega | (simp only [ec_w_shpI, ec_w_shpL, ec_w_shpA, hD]; refine ec_zinO ?_; omega) | (refine ec_nzO ?_; omega)) only [ec_s28_0, ec_s28_1, ec_s28_4, ec_s28_5, ec_s28_6, ec_s28_9, ec_s28_12, ec_s28_13, ec_s28_15, ec_s28_16, ec_s28_19, ec_s28_20, ec_s28_23, ec_s28_24, ec_s28_27, ec_s28_28, ec_s28_31, ec_s28_32, ec_s28_35, ec_s28_38, ec_zn0, ec_zn1, ec_zn2, ec_zn3, ec_zn4, ec_zn5, ec_zn6, ec_zn7, ec_zn8, ec_zn9, ec_zn10, ec_zn12, ec_zn13, ec_zn14, ec_zn15, ec_zn16, ec_zn20, ec_zn30, ec_zn48, ec_zn99, ec_zn120, ec_zn127, ec_zn11, ec_zn31, ec_zn46, ec_zn57, ec_zn59, ec_zn63, ec_zn101, ec_zn107, ec_zn108, ec_zn110, ec_zn111, ec_zn115, ec_zn116, ec_zn119, ec_zn167, ec_zn185, ec_zn192, ec_zn215, ec_zn233, ec_zn699, ec_zn932, ec_zn999, ec_znF, ec_zneg, ec_zadd, ec_zsub, ec_zmul, ec_zdivO, ec_em, ec_zltO, ec_zeqO, ec_zeq0, ec_qt, ec_qf, if_pos, if_neg, Int.add_zero, ec_aft_v, ec_aft_n, ec_rwE, ec_rwN, ec_rwP, ec_rwK, ec_rwS, ec_w_shpI, ec_w_shpL, ec_w_shpA, hD, hl, e1, e2, b1]
set_option maxHeartbeats 1000000 in
theorem ec_c70s {h : ec_Hp} (hl : h.1.length = 1) (hs : ec_shp h 0 = (6, 6, fun _ => .null)) : ∃ h', ec_om 70 0 [.ref 0] [] h = some (.inl none, h') ∧ (∀ (p : Int → ec_Sg) (T : Int → Int), ed_CL h' (ed_new 5 4) 0 p 0 T) ∧ h'.1.length = 72 ∧ ed_gw 0 h h' := by
  have k0 := ec_k_of hs
  obtain ⟨a1, ea1, la1, sa1, za1, ga1⟩ := ed_nw h 1 12 (by omega)
  rw [hl] at la1 sa1 za1 ga1
  obtain ⟨a2, ra, Da, La, Ga⟩ := ec_c11s la1 (ec_k_of sa1)
  obtain ⟨a3, ea3, ⟨Ka2, Ka3⟩, la3, aa3, ca3, Sa, ia3, ga3⟩ := ed_pt (k := 0) hl (show 0 < 1 by omega) k0 (ga1.trans Ga (by omega)) La (by omega)
  obtain ⟨b1, eb1, lb1, sb1, zb1, gb1⟩ := ed_nw a3 1 12 (by omega)
  rw [la3] at lb1 sb1 zb1 gb1
  obtain ⟨b2, rb, Db, Lb, Gb⟩ := ec_c11s lb1 (ec_k_of sb1)
  obtain ⟨b3, eb3, ⟨Kb2, Kb3⟩, lb3, ab3, cb3, Sb, ib3, gb3⟩ := ed_pt (k := 1) la3 (show 0 < 11 by omega) Ka3 (gb1.trans Gb (by omega)) Lb (by omega)
  obtain ⟨c1, ec1, lc1, sc1, zc1, gc1⟩ := ed_nw b3 2 3 (by omega)
  rw [lb3] at lc1 sc1 zc1 gc1
  obtain ⟨c2, rc, Hc, Dc, Zc, Lc, Gc⟩ := ec_c28s lc1 (ec_k_of sc1) zc1
  obtain ⟨c3, ec3, ⟨Kc2, Kc3⟩, lc3, ac3, cc3, Sc, ic3, gc3⟩ := ed_pt (k := 2) lb3 (show 0 < 21 by omega) Kb3 (gc1.trans Gc (by omega)) Lc (by omega)
  obtain ⟨d1, ed1, ld1, sd1, zd1, gd1⟩ := ed_nw c3 3 3 (by omega)
  rw [lc3] at ld1 sd1 zd1 gd1
  obtain ⟨d2, rd, Dd, Ld, Gd⟩ := ec_c32s ld1 (ec_k_of sd1) zd1
  obtain ⟨d3, ed3, ⟨Kd2, Kd3⟩, ld3, ad3, cd3, Sd, id3, gd3⟩ := ed_pt (k := 3) lc3 (show 0 < 63 by omega) Kc3 (gd1.trans Gd (by omega)) Ld (by omega)
  obtain ⟨e1, ee1, le1, se1, ze1, ge1⟩ := ed_nw d3 5 3 (by omega)
  rw [ld3] at le1 se1 ze1 ge1
  obtain ⟨e2, re, Ne, De, Le, Ge⟩ := ec_c56s le1 (ec_k_of se1)
  obtain ⟨e3, ee3, ⟨Ke2, Ke3⟩, le3, ae3, ce3, Se, ie3, ge3⟩ := ed_pt (k := 4) ld3 (show 0 < 66 by omega) Kd3 (ge1.trans Ge (by omega)) Le (by omega)
  obtain ⟨f1, ef1, lf1, sf1, zf1, gf1⟩ := ed_nw e3 0 6 (by omega)
  rw [le3] at lf1 sf1 zf1 gf1
  obtain ⟨f2, rf, Mf, Nf, Zf, Lf, Gf⟩ := ec_c0s lf1 (ec_k_of sf1) zf1
  obtain ⟨f3, ef3, ⟨Kf2, Kf3⟩, lf3, af3, cf3, Sf, if3, gf3⟩ := ed_pt (k := 5) le3 (show 0 < 70 by omega) Ke3 (gf1.trans Gf (by omega)) Lf (by omega)
  have Ef : ∀ q, q ≠ 0 → ed_at q f2 f3 := cf3
  have Ee : ∀ q, q < 70 → q ≠ 0 → ed_at q e3 f3 := af3
  have Ed : ∀ q, q < 66 → q ≠ 0 → ed_at q d3 f3 := fun q a b => (ae3 q a b).trans (Ee q (by omega) b)
  have Ec : ∀ q, q < 63 → q ≠ 0 → ed_at q c3 f3 := fun q a b => (ad3 q a b).trans (Ed q (by omega) b)
  have Eb : ∀ q, q < 21 → q ≠ 0 → ed_at q b3 f3 := fun q a b => (ac3 q a b).trans (Ec q (by omega) b)
  have Ea : ∀ q, q < 11 → q ≠ 0 → ed_at q a3 f3 := fun q a b => (ab3 q a b).trans (Eb q (by omega) b)
  have S : ec_shp f3 0 = ec_upR (ec_upR (ec_upR (ec_upR (ec_upR (ec_upR (ec_shp h 0) 0 (.ref 1)) 1 (.ref 11)) 2 (.ref 21)) 3 (.ref 63)) 4 (.ref 66)) 5 (.ref 70) := by
    rw [Sf, Se, Sd, Sc, Sb, Sa]
  have N1 : ec_DN f3 1 := Da.at_ (fun q x y => (ca3 q (by omega)).trans (Ea q (by omega) (by omega)))
  have N11 : ec_DN f3 11 := Db.at_ (fun q x y => (cb3 q (by omega)).trans (Eb q (by omega) (by omega)))
  have Tc : ∀ q, q < 63 → q ≠ 0 → ed_at q c2 f3 := fun q x y => (cc3 q y).trans (Ec q x y)
  have Td : ∀ q, q < 66 → q ≠ 0 → ed_at q d2 f3 := fun q x y => (cd3 q y).trans (Ed q x y)
  have Te : ∀ q, q < 70 → q ≠ 0 → ed_at q e2 f3 := fun q x y => (ce3 q y).trans (Ee q x y)
  have HS : ed_HS f3 := by
    obtain ⟨⟨x1, x2⟩, ⟨x3, x4⟩, x5⟩ := Hc
    have A := Tc 21 (by omega) (by omega)
    have B := Tc 22 (by omega) (by omega)
    exact ⟨⟨ec_isK.at_ x1 A, by rw [A.1]; exact x2⟩, ⟨ec_isK.at_ x3 B, by rw [B.1]; exact x4⟩, by rw [B.1]; exact x5⟩
  have SL1 := Dd.at_ (h' := f3) (fun q x y => Td q (by omega) (by omega))
  have SL2 := De.at_ (h' := f3) (fun q x y => Te q (by omega) (by omega))
  have TN : ed_TN f3 66 := ⟨ec_isK.at_ Ne.1 (Te 66 (by omega) (by omega)), by rw [(Te 66 (by omega) (by omega)).1]; exact Ne.2.1, SL2.1.1.1⟩
  have CD : ed_CD f3 := by
    have A := Ef 70 (by omega)
    have B := Ef 71 (by omega)
    refine ⟨⟨Kf3, ?_⟩, ⟨ec_isK.at_ Mf.1 A, by rw [A.1]; exact Mf.2⟩, ec_isK.at_ Nf.1 B, by rw [B.1]; exact Nf.2⟩
    rw [S]
    exact ⟨rfl, rfl, rfl, rfl, rfl, rfl⟩
  have z21 : ∀ j, f3.2.1 21 j = 0 := fun j => ((Tc 21 (by omega) (by omega)).2 j).trans (Zc j)
  have z70 : ∀ j, f3.2.1 70 j = 0 := fun j => ((Ef 70 (by omega)).2 j).trans (Zf j)
  have dn : ∀ B, 23 ≤ B → B + 9 ≤ 62 → ec_DN c2 B → ec_DN f3 B := fun B x y D => D.at_ (fun q x y => Tc q (by omega) (by omega))
  obtain ⟨h', b1, b2, b3', b4⟩ := ec_c12s N1 (c := 5) (r := 4) (by omega) (by omega)
  have wf := ed_WF_new (c := 5) (r := 4) (by omega) (by omega)
  have gg : ed_gw 0 h f3 := ga3.trans (gb3.trans (gc3.trans (gd3.trans (ge3.trans gf3 (by omega)) (by omega)) (by omega)) (by omega)) (by omega)
  have g0 : ed_gw 0 f3 h' := ⟨fun q hq => absurd hq (by omega), by rw [b4.1.2], 0, 0, by rw [b4.1.2]; rfl, by rw [b4.1.1]; rfl, by rw [b4.1.2]; rfl, by omega⟩
  refine ⟨h', ?_, fun p T => ⟨CD.of b4.1.1, ⟨b3', b2, wf⟩, N11.fg b4 (fun q j x y z => by omega), ed_HR.fg b4 (fun q j x y z => by omega) ⟨HS, ⟨dn 23 (by omega) (by omega) Dc.1, dn 33 (by omega) (by omega) Dc.2.1, dn 43 (by omega) (by omega) Dc.2.2.1, dn 53 (by omega) (by omega) Dc.2.2.2⟩, 0, by omega, by omega, z21 1, z21 2, fun i hi => absurd hi (by omega)⟩, SL1.fg b4 (fun q j x y z => by omega), ⟨TN.fg b4, SL2.fg b4 (fun q j x y z => by omega)⟩, (b4.2 _ _ (by omega)).trans (z70 1), by omega, fun i hi => absurd hi (by omega)⟩, by rw [b4.1.1]; exact lf3, gg.trans g0 (by omega)⟩
  have hD := And.intro k0 (And.intro (And.intro (ec_k_of sa1) (And.intro (ec_k_of sb1) (And.intro (ec_k_of sc1) (And.intro (ec_k_of sd1) (And.intro (ec_k_of se1) (ec_k_of sf1)))))) (And.intro (And.intro Ka2 (And.intro Kb2 (And.intro Kc2 (And.intro Kd2 (And.intro Ke2 Kf2))))) (And.intro (And.intro Ka3 (And.intro Kb3 (And.intro Kc3 (And.intro Kd3 (And.intro Ke3 Kf3))))) (And.intro CD.1.2.1 N1.1.1))))
  simp (disch := first | (simp only [ec_w_kI, ec_w_kL, ec_w_kA, ec_w_shpI, ec_w_shpL, ec_w_shpA, ec_isR_r, ec_01z, ec_01o, ec_01q, hD]; done) | omega | (simp only [ec_w_shpI, ec_w_shpL, ec_w_shpA, hD]; refine ec_zinO ?_; omega) | (refine ec_nzO ?_; omega)) only [ec_s70_0, ec_s70_1, ec_s70_4, ec_s70_5, ec_s70_8, ec_s70_9, ec_s70_12, ec_s70_15, ec_s70_16, ec_s70_19, ec_s70_20, ec_s70_23, ec_s70_26, ec_s70_27, ec_s70_30, ec_s70_31, ec_s70_34, ec_s70_37, ec_s70_38, ec_s70_41, ec_s70_42, ec_s70_45, ec_s70_48, ec_s70_49, ec_s70_52, ec_s70_53, ec_s70_56, ec_s70_59, ec_s70_60, ec_s70_63, ec_s70_64, ec_s70_67, ec_s70_70, ec_s70_71, ec_s70_74, ec_s70_75, ec_s70_76, ec_s70_79, ec_zn0, ec_zn1, ec_zn2, ec_zn3, ec_zn4, ec_zn5, ec_zn6, ec_zn7, ec_zn8, ec_zn9, ec_zn10, ec_zn12, ec_zn13, ec_zn14, ec_zn15, ec_zn16, ec_zn20, ec_zn30, ec_zn48, ec_zn99, ec_zn120, ec_zn127, ec_zn11, ec_zn31, ec_zn46, ec_zn57, ec_zn59, ec_zn63, ec_zn101, ec_zn107, ec_zn108, ec_zn110, ec_zn111, ec_zn115, ec_zn116, ec_zn119, ec_zn167, ec_zn185, ec_zn192, ec_zn215, ec_zn233, ec_zn699, ec_zn932, ec_zn999, ec_znF, ec_zneg, ec_zadd, ec_zsub, ec_zmul, ec_zdivO, ec_em, ec_zltO, ec_zeqO, ec_zeq0, ec_qt, ec_qf, if_pos, if_neg, Int.add_zero, ec_aft_v, ec_aft_n, ec_rwE, ec_rwN, ec_rwP, ec_rwK, ec_rwS, ec_w_shpI, ec_w_shpL, ec_w_shpA, hD, hl, ea1, ra, ea3, la3, eb1, rb, eb3, lb3, ec1, rc, ec3, lc3, ed1, rd, ed3, ld3, ee1, re, ee3, le3, ef1, rf, ef3, b1]
