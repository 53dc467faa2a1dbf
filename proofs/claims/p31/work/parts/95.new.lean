/-! Making objects. -/
def ed_gw (m : Nat) (h h' : ec_Hp) : Prop := (∀ q, q < m → ec_shp h' q = ec_shp h q ∧ ∀ j, h'.2.1 q j = h.2.1 q j) ∧ h'.2.2.2.2.2 = h.2.2.2.2.2 ∧ ∃ a b : Nat, h'.2.2.2.1 = h.2.2.2.1 + a ∧ h'.1.length = h.1.length + a ∧ h'.2.2.2.2.1 = h.2.2.2.2.1 + b ∧ b ≤ 5000 * a
theorem ed_gw.refl {m : Nat} {h : ec_Hp} : ed_gw m h h := ⟨fun _ _ => ⟨rfl, fun _ => rfl⟩, rfl, 0, 0, rfl, rfl, rfl, by omega⟩
theorem ed_gw.trans {m k : Nat} {h h1 h2 : ec_Hp} (a : ed_gw m h h1) (b : ed_gw k h1 h2) (mk : m ≤ k) : ed_gw m h h2 := by
  obtain ⟨a1, a2, x, y, a3, a4, a5, a6⟩ := a
  obtain ⟨b1, b2, x', y', b3, b4, b5, b6⟩ := b
  exact ⟨fun q hq => ⟨(b1 q (by omega)).1.trans (a1 q hq).1, fun j => ((b1 q (by omega)).2 j).trans ((a1 q hq).2 j)⟩, b2.trans a2, x + x', y + y', by omega, by omega, by omega, by omega⟩
theorem ed_gw.mono {m k : Nat} {h h1 : ec_Hp} (a : ed_gw m h h1) (mk : k ≤ m) : ed_gw k h h1 := ⟨fun q hq => a.1 q (by omega), a.2⟩
/-- one object is as it was -/
def ed_at (q : Nat) (h h' : ec_Hp) : Prop := ec_shp h' q = ec_shp h q ∧ ∀ j, h'.2.1 q j = h.2.1 q j
theorem ed_at.trans {q : Nat} {h h1 h2 : ec_Hp} (a : ed_at q h h1) (b : ed_at q h1 h2) : ed_at q h h2 := ⟨b.1.trans a.1, fun j => (b.2 j).trans (a.2 j)⟩
theorem ed_gw.at_ {m q : Nat} {h h1 : ec_Hp} (a : ed_gw m h h1) (hq : q < m) : ed_at q h h1 := a.1 q hq
theorem ed_nw (h : ec_Hp) (kd n : Nat) (hn : n ≤ 5000) : ∃ h1, ec_mk h kd n = h1 ∧ h1.1.length = h.1.length + 1 ∧ ec_shp h1 h.1.length = (kd, n, fun _ => .null) ∧ (∀ j, h1.2.1 h.1.length j = 0) ∧ ed_gw h.1.length h h1 := by
  refine ⟨ec_mk h kd n, rfl, ?_, ?_, fun j => ?_, fun q hq => ⟨?_, fun j => ?_⟩, rfl, 1, n, rfl, ?_, rfl, by omega⟩
  · show (h.1 ++ [(kd, n, fun _ => Value.null)]).length = _
    rw [List.length_append]
    rfl
  · show ec_nth _ (h.1 ++ [(kd, n, fun _ => Value.null)]) h.1.length = _
    rw [ec_nth_app, if_pos rfl]
  · show (if h.1.length = h.1.length then (0 : Int32) else h.2.1 _ j) = 0
    rw [if_pos rfl]
  · show ec_nth _ (h.1 ++ [(kd, n, fun _ => Value.null)]) q = ec_nth _ h.1 q
    rw [ec_nth_app, if_neg (by omega)]
  · show (if q = h.1.length then (0 : Int32) else h.2.1 q j) = h.2.1 q j
    rw [if_neg (by omega)]
  · show (h.1 ++ [(kd, n, fun _ => Value.null)]).length = _
    rw [List.length_append]
    rfl
theorem ed_sr (h : ec_Hp) (p k : Nat) (v : Value) (hp : p < h.1.length) : ∃ h1, ec_setR h p k v = h1 ∧ h1.1.length = h.1.length ∧ ec_shp h1 p = ec_upR (ec_shp h p) k v ∧ (∀ q, q ≠ p → ed_at q h h1) ∧ (∀ j, h1.2.1 p j = h.2.1 p j) ∧ ed_gw p h h1 := by
  have L : (ec_setR h p k v).1.length = h.1.length := by
    show (h.1.set p _).length = _
    rw [List.length_set]
  have S : ∀ q, q ≠ p → ed_at q h (ec_setR h p k v) := fun q hq => by
    refine ⟨?_, fun j => rfl⟩
    show ec_nth _ (h.1.set p _) q = ec_nth _ h.1 q
    rw [ec_nth_set hp, if_neg hq]
  refine ⟨ec_setR h p k v, rfl, L, ?_, S, fun j => rfl, fun q hq => S q (by omega), rfl, 0, 0, rfl, L, rfl, by omega⟩
  show ec_nth _ (h.1.set p _) p = _
  rw [ec_nth_set hp, if_pos rfl]
theorem ed_dq {a : Int} (h : 0 ≤ a ∧ a ≤ 5000) : (decide (0 ≤ ec_i a) && Nat.ble (ec_i a).toNatClampNeg 5000) = true := by
  have h1 : decide ((0 : Int32) ≤ ec_i a) = true := decide_eq_true (by rw [Int32.le_iff_toInt_le, ec_zT ⟨by omega, by omega⟩]; show (0 : Int) ≤ a; omega)
  have h2 : Nat.ble (ec_i a).toNatClampNeg 5000 = true := by
    rw [ec_zcl h.1 (by omega)]
    exact Nat.ble_eq_true_of_le (by omega)
  rw [h1, h2]
  rfl
theorem ec_isK.sh {h h' : ec_Hp} {q kd : Nat} (k : ec_isK h q kd = true) (a : ec_shp h' q = ec_shp h q) : ec_isK h' q kd = true := by
  unfold ec_isK at k ⊢
  rw [a]
  exact k
theorem ec_isK.at_ {h h' : ec_Hp} {q kd : Nat} (k : ec_isK h q kd = true) (a : ed_at q h h') : ec_isK h' q kd = true := by
  unfold ec_isK at k ⊢
  rw [a.1]
  exact k
theorem ec_TB.at_ {h h' : ec_Hp} {t q M w : Nat} (T : ec_TB h t q M w) (a : ed_at t h h') (b : ed_at q h h') : ec_TB h' t q M w := by
  obtain ⟨⟨k1, k2⟩, ⟨k3, k4⟩, k5, k6⟩ := T
  exact ⟨⟨ec_isK.at_ k1 a, ec_isK.at_ k2 b⟩, ⟨by rw [a.1]; exact k3, by rw [b.1]; exact k4⟩, (a.2 _).trans k5, (a.2 _).trans k6⟩
theorem ec_w_fI {h : ec_Hp} {p k : Nat} {x : Int32} : (ec_setI h p k x).1 = h.1 := rfl
theorem ec_c45s {h : ec_Hp} {t M w : Nat} (hl : h.1.length = t + 1) (hs : ec_shp h t = (4, 4, fun _ => .null)) (hz : ∀ j, h.2.1 t j = 0) (hm : 0 < (M : Int) * w ∧ (M : Int) * w ≤ 80) :
    ∃ h', ec_om 45 0 [.ref t, .int (ec_i M), .int (ec_i w)] [] h = some (.inl none, h') ∧ ec_TB h' t (t + 1) M w ∧ h'.2.1 t 3 = ec_i 0 ∧ h'.1.length = t + 2 ∧ ed_gw t h h' := by
  have k0 := ec_k_of hs
  have g0 : ed_gw t h (ec_setI (ec_setI h t 0 (ec_i M)) t 1 (ec_i w)) := ⟨fun q hq => ⟨rfl, fun j => by rw [ed_rN (fun y => by omega), ed_rN (fun y => by omega)]⟩, rfl, 0, 0, rfl, rfl, rfl, by omega⟩
  have cl : (ec_i ((M : Int) * w)).toNatClampNeg = M * w := by
    rw [ec_zcl (by omega) (by omega), ← Int.natCast_mul]
    rfl
  have mw : M * w ≤ 80 := by
    have := hm.2
    rw [← Int.natCast_mul] at this
    omega
  obtain ⟨h3, e3, l3, s3, z3, g3⟩ := ed_nw (ec_setI (ec_setI h t 0 (ec_i M)) t 1 (ec_i w)) 16 (ec_i ((M : Int) * w)).toNatClampNeg (by rw [cl]; omega)
  have l0 : (ec_setI (ec_setI h t 0 (ec_i M)) t 1 (ec_i w)).1.length = t + 1 := hl
  rw [l0] at l3 s3 z3 g3
  rw [cl] at s3
  have at3 := g3.at_ (q := t) (by omega)
  have sh3 : ec_shp h3 t = ec_shp h t := at3.1
  have kt : ec_isK h3 t 4 = true := ec_isK.sh k0 sh3
  obtain ⟨h4, e4, l4, s4, a4, i4, g4⟩ := ed_sr h3 t 2 (.ref (t + 1)) (by omega)
  have at4 := a4 (t + 1) (by omega)
  have dq := ed_dq (a := (M : Int) * w) (by omega)
  refine ⟨h4, ?_, ⟨⟨?_, ?_⟩, ⟨?_, ?_⟩, ?_, ?_⟩, ?_, by omega, g0.trans ((g3.mono (by omega)).trans g4 (Nat.le_refl _)) (Nat.le_refl _)⟩
  · have hD := And.intro k0 (And.intro kt dq)
    simp (disch := first | (simp only [ec_w_kI, ec_w_kL, ec_w_kA, ec_w_shpI, ec_w_shpL, ec_w_shpA, ec_isR_r, ec_01z, ec_01o, ec_01q, hD]; done) | omega | (simp only [ec_w_shpI, ec_w_shpL, ec_w_shpA, hD]; refine ec_zinO ?_; omega) | (refine ec_nzO ?_; omega)) only [ec_s45_0, ec_s45_1, ec_s45_4, ec_s45_5, ec_s45_6, ec_s45_9, ec_s45_10, ec_s45_11, ec_s45_14, ec_s45_15, ec_s45_16, ec_s45_17, ec_s45_18, ec_s45_19, ec_s45_22, ec_s45_24, ec_s45_27, ec_zn0, ec_zn1, ec_zn2, ec_zn3, ec_zn4, ec_zn5, ec_zn6, ec_zn7, ec_zn8, ec_zn9, ec_zn10, ec_zn12, ec_zn13, ec_zn14, ec_zn15, ec_zn16, ec_zn20, ec_zn30, ec_zn48, ec_zn99, ec_zn120, ec_zn127, ec_zn11, ec_zn31, ec_zn46, ec_zn57, ec_zn59, ec_zn63, ec_zn101, ec_zn107, ec_zn108, ec_zn110, ec_zn111, ec_zn115, ec_zn116, ec_zn119, ec_zn167, ec_zn185, ec_zn192, ec_zn215, ec_zn233, ec_zn699, ec_zn932, ec_zn999, ec_znF, ec_zneg, ec_zadd, ec_zsub, ec_zmul, ec_zdivO, ec_em, ec_zltO, ec_zeqO, ec_zeq0, ec_qt, ec_qf, if_pos, if_neg, Int.add_zero, ec_aft_v, ec_aft_n, ec_rwE, ec_rwN, ec_rwP, ec_rwK, ec_rwS, ec_w_shpI, ec_w_shpL, ec_w_shpA, hD, ec_w_fI, hl, e3, e4]
  · show Nat.beq (ec_shp h4 t).1 4 = true
    rw [s4, sh3, hs]
    rfl
  · show Nat.beq (ec_shp h4 (t + 1)).1 16 = true
    rw [at4.1, s3]
    rfl
  · rw [s4]
    rfl
  · rw [at4.1, s3]
  · rw [i4, at3.2, ed_rN (fun y => absurd y.2 (by decide)), ed_rE ⟨rfl, rfl⟩]
  · rw [i4, at3.2, ed_rE ⟨rfl, rfl⟩]
  · rw [i4, at3.2, ed_rN (fun y => absurd y.2 (by decide)), ed_rN (fun y => absurd y.2 (by decide)), hz]
    rfl
/-- a table of a dungeon is made -/
theorem ed_tb {h : ec_Hp} {p k M w n : Nat} (hn : h.1.length = n) (hp : p < n) (hk : ec_isK h p 1 = true) (hm : 0 < (M : Int) * w ∧ (M : Int) * w ≤ 80) :
    ∃ h1 h2 h3, ec_mk h 4 4 = h1 ∧ ec_om 45 0 [.ref n, .int (ec_i M), .int (ec_i w)] [] h1 = some (.inl none, h2) ∧ ec_setR h2 p k (.ref n) = h3 ∧ (ec_isK h1 n 4 = true ∧ ec_isK h2 p 1 = true) ∧ h3.1.length = n + 2 ∧ ec_TB h3 n (n + 1) M w ∧ (∀ q, q < n → q ≠ p → ed_at q h h3) ∧ ec_shp h3 p = ec_upR (ec_shp h p) k (.ref n) ∧ ed_gw p h h3 := by
  obtain ⟨h1, e1, l1, s1, z1, g1⟩ := ed_nw h 4 4 (by omega)
  rw [hn] at l1 s1 z1 g1
  obtain ⟨h2, b1, b2, b3, b4, b5⟩ := ec_c45s l1 s1 z1 hm
  obtain ⟨h3, e3, l3, s3, a3, i3, g3⟩ := ed_sr h2 p k (.ref n) (by omega)
  have A1 := g1.at_ hp
  have A2 := b5.at_ hp
  refine ⟨h1, h2, h3, e1, b1, e3, ⟨ec_k_of s1, ec_isK.at_ (ec_isK.at_ hk A1) A2⟩, by omega, b2.at_ (a3 _ (by omega)) (a3 _ (by omega)), fun q hq hqp => ((g1.at_ hq).trans (b5.at_ hq)).trans (a3 q hqp), ?_, (g1.mono (by omega)).trans ((b5.mono (by omega)).trans g3 (Nat.le_refl _)) (Nat.le_refl _)⟩
  rw [s3, A2.1, A1.1]
theorem ec_c11s {h : ec_Hp} {p : Nat} (hl : h.1.length = p + 1) (hk : ec_isK h p 1 = true) : ∃ h', ec_om 11 0 [.ref p] [] h = some (.inl none, h') ∧ ec_DN h' p ∧ h'.1.length = p + 10 ∧ ed_gw p h h' := by
  have n192 : (ec_i 192).toNatClampNeg = 192 := rfl
  have dq := ed_dq (a := 192) (by omega)
  obtain ⟨h1, e1, l1, s1, z1, g1⟩ := ed_nw h 16 (ec_i 192).toNatClampNeg (by rw [n192]; omega)
  rw [hl] at l1 s1 z1 g1
  obtain ⟨h2, e2, l2, s2, a2, i2, g2⟩ := ed_sr h1 p 0 (.ref (p + 1)) (by omega)
  have A1 := g1.at_ (q := p) (by omega)
  have K1 := ec_isK.at_ hk A1
  have up : ∀ {a b : ec_Hp} {k : Nat} {v : Value}, ec_isK a p 1 = true → ec_shp b p = ec_upR (ec_shp a p) k v → ec_isK b p 1 = true := fun {a b k v} ka e => by
    unfold ec_isK at ka ⊢
    rw [e]
    exact ka
  have K2 := up K1 s2
  obtain ⟨ha1, ha2, ha3, x1, x2, x3, x4, x5, x6, x7, x8, x9⟩ := ed_tb (k := 1) (M := 10) (w := 6) (n := p + 2) (by omega) (by omega) K2 (by omega)
  have K3 := up K2 x8
  obtain ⟨hb1, hb2, hb3, y1, y2, y3, y4, y5, y6, y7, y8, y9⟩ := ed_tb (k := 2) (M := 6) (w := 4) (n := p + 4) (by omega) (by omega) K3 (by omega)
  have K4 := up K3 y8
  obtain ⟨hc1, hc2, hc3, z1, z2, z3, z4, z5, z6, z7, z8, z9⟩ := ed_tb (k := 3) (M := 6) (w := 8) (n := p + 6) (by omega) (by omega) K4 (by omega)
  have K5 := up K4 z8
  obtain ⟨hd1, hd2, hd3, w1, w2, w3, w4, w5, w6, w7, w8, w9⟩ := ed_tb (k := 4) (M := 6) (w := 4) (n := p + 8) (by omega) (by omega) K5 (by omega)
  have K6 := up K5 w8
  have S : ec_shp hd3 p = ec_upR (ec_upR (ec_upR (ec_upR (ec_upR (ec_shp h p) 0 (.ref (p + 1))) 1 (.ref (p + 2))) 2 (.ref (p + 4))) 3 (.ref (p + 6))) 4 (.ref (p + 8)) := by
    rw [w8, z8, y8, x8, s2, A1.1]
  have T : ∀ q, q < p + 8 → q ≠ p → ed_at q hc3 hd3 := w7
  have B : ∀ q, q < p + 6 → q ≠ p → ed_at q hb3 hd3 := fun q a b => (z7 q a b).trans (w7 q (by omega) b)
  have A : ∀ q, q < p + 4 → q ≠ p → ed_at q ha3 hd3 := fun q a b => (y7 q a b).trans (B q (by omega) b)
  have Z : ed_at (p + 1) h1 hd3 := (a2 _ (by omega)).trans ((x7 _ (by omega) (by omega)).trans (A _ (by omega) (by omega)))
  refine ⟨hd3, ?_, ⟨⟨K6, ?_⟩, ⟨?_, ?_⟩, x6.at_ (A _ (by omega) (by omega)) (A _ (by omega) (by omega)), y6.at_ (B _ (by omega) (by omega)) (B _ (by omega) (by omega)), z6.at_ (T _ (by omega) (by omega)) (T _ (by omega) (by omega)), w6⟩, by omega, (g1.mono (by omega)).trans (g2.trans (x9.trans (y9.trans (z9.trans w9 (Nat.le_refl _)) (Nat.le_refl _)) (Nat.le_refl _)) (Nat.le_refl _)) (Nat.le_refl _)⟩
  · have hD := And.intro hk (And.intro dq (And.intro K1 (And.intro K2 (And.intro K3 (And.intro K4 (And.intro K5 (And.intro x4 (And.intro y4 (And.intro z4 w4)))))))))
    have c10 : ec_i ((10 : Nat) : Int) = ec_i 10 := rfl
    have c6 : ec_i ((6 : Nat) : Int) = ec_i 6 := rfl
    have c4 : ec_i ((4 : Nat) : Int) = ec_i 4 := rfl
    have c8 : ec_i ((8 : Nat) : Int) = ec_i 8 := rfl
    rw [c10, c6] at x2
    rw [c6, c4] at y2 w2
    rw [c6, c8] at z2
    have k1 : (192 : Int32) = ec_i 192 := rfl
    have L2 : h2.1.length = p + 2 := by omega
    have La : ha3.1.length = p + 4 := by omega
    have Lb : hb3.1.length = p + 6 := by omega
    have Lc : hc3.1.length = p + 8 := by omega
    simp (disch := first | (simp only [ec_w_kI, ec_w_kL, ec_w_kA, ec_w_shpI, ec_w_shpL, ec_w_shpA, ec_isR_r, ec_01z, ec_01o, ec_01q, hD]; done) | omega | (simp only [ec_w_shpI, ec_w_shpL, ec_w_shpA, hD]; refine ec_zinO ?_; omega) | (refine ec_nzO ?_; omega)) only [ec_s11_0, ec_s11_1, ec_s11_4, ec_s11_5, ec_s11_8, ec_s11_10, ec_s11_13, ec_s11_14, ec_s11_17, ec_s11_18, ec_s11_20, ec_s11_22, ec_s11_25, ec_s11_28, ec_s11_29, ec_s11_32, ec_s11_33, ec_s11_35, ec_s11_36, ec_s11_39, ec_s11_42, ec_s11_43, ec_s11_46, ec_s11_47, ec_s11_49, ec_s11_51, ec_s11_54, ec_s11_57, ec_s11_58, ec_s11_61, ec_s11_62, ec_s11_64, ec_s11_65, ec_s11_68, ec_s11_71, ec_zn0, ec_zn1, ec_zn2, ec_zn3, ec_zn4, ec_zn5, ec_zn6, ec_zn7, ec_zn8, ec_zn9, ec_zn10, ec_zn12, ec_zn13, ec_zn14, ec_zn15, ec_zn16, ec_zn20, ec_zn30, ec_zn48, ec_zn99, ec_zn120, ec_zn127, ec_zn11, ec_zn31, ec_zn46, ec_zn57, ec_zn59, ec_zn63, ec_zn101, ec_zn107, ec_zn108, ec_zn110, ec_zn111, ec_zn115, ec_zn116, ec_zn119, ec_zn167, ec_zn185, ec_zn192, ec_zn215, ec_zn233, ec_zn699, ec_zn932, ec_zn999, ec_znF, ec_zneg, ec_zadd, ec_zsub, ec_zmul, ec_zdivO, ec_em, ec_zltO, ec_zeqO, ec_zeq0, ec_qt, ec_qf, if_pos, if_neg, Int.add_zero, ec_aft_v, ec_aft_n, ec_rwE, ec_rwN, ec_rwP, ec_rwK, ec_rwS, ec_w_shpI, ec_w_shpL, ec_w_shpA, hD, k1, hl, e1, e2, L2, x1, x2, x3, La, y1, y2, y3, Lb, z1, z2, z3, Lc, w1, w2, w3]
  · rw [S]
    exact ⟨rfl, rfl, rfl, rfl, rfl⟩
  · show Nat.beq (ec_shp hd3 (p + 1)).1 16 = true
    rw [Z.1, s1]
    rfl
  · rw [Z.1, s1]
    rfl
/-- labels are made -/
theorem ec_c32s {h : ec_Hp} {p : Nat} (hl : h.1.length = p + 1) (hk : ec_isK h p 3 = true) (hz : ∀ j, h.2.1 p j = 0) : ∃ h', ec_om 32 0 [.ref p] [] h = some (.inl none, h') ∧ ed_SL h' p ∧ h'.1.length = p + 3 ∧ ed_gw p h h' := by
  have n48 : (ec_i 48).toNatClampNeg = 48 := rfl
  have dq := ed_dq (a := 48) (by omega)
  obtain ⟨h1, e1, l1, s1, z1, g1⟩ := ed_nw h 16 (ec_i 48).toNatClampNeg (by rw [n48]; omega)
  rw [hl] at l1 s1 z1 g1
  obtain ⟨h2, e2, l2, s2, a2, i2, g2⟩ := ed_sr h1 p 0 (.ref (p + 1)) (by omega)
  have L2 : h2.1.length = p + 2 := by omega
  obtain ⟨h3, e3, l3, s3, z3, g3⟩ := ed_nw h2 17 (ec_i 48).toNatClampNeg (by rw [n48]; omega)
  rw [L2] at l3 s3 z3 g3
  obtain ⟨h4, e4, l4, s4, a4, i4, g4⟩ := ed_sr h3 p 1 (.ref (p + 2)) (by omega)
  have A1 := g1.at_ (q := p) (by omega)
  have A3 := g3.at_ (q := p) (by omega)
  have K1 := ec_isK.at_ hk A1
  have K2 : ec_isK h2 p 3 = true := by
    unfold ec_isK at K1 ⊢
    rw [s2]
    exact K1
  have K3 := ec_isK.at_ K2 A3
  have K4 : ec_isK h4 p 3 = true := by
    unfold ec_isK at K3 ⊢
    rw [s4]
    exact K3
  have S : ec_shp h4 p = ec_upR (ec_upR (ec_shp h p) 0 (.ref (p + 1))) 1 (.ref (p + 2)) := by
    rw [s4, A3.1, s2, A1.1]
  have Z1 : ed_at (p + 1) h1 h4 := (a2 _ (by omega)).trans ((g3.at_ (by omega)).trans (a4 _ (by omega)))
  have Z2 := a4 (p + 2) (by omega)
  refine ⟨h4, ?_, ⟨⟨⟨K4, ?_⟩, ⟨?_, ?_⟩, ?_, ?_⟩, fun _ => 0, fun _ => false, 0, by omega, ?_, fun k hk => ⟨(by decide : (0 : Int) ≤ 0 ∧ (0 : Int) ≤ 1000000), ?_, ?_⟩⟩, by omega, (g1.mono (by omega)).trans (g2.trans ((g3.mono (by omega)).trans g4 (Nat.le_refl _)) (Nat.le_refl _)) (Nat.le_refl _)⟩
  · have hD := And.intro hk (And.intro dq (And.intro K1 (And.intro K2 K3)))
    simp (disch := first | (simp only [ec_w_kI, ec_w_kL, ec_w_kA, ec_w_shpI, ec_w_shpL, ec_w_shpA, ec_isR_r, ec_01z, ec_01o, ec_01q, hD]; done) | omega | (simp only [ec_w_shpI, ec_w_shpL, ec_w_shpA, hD]; refine ec_zinO ?_; omega) | (refine ec_nzO ?_; omega)) only [ec_s32_0, ec_s32_1, ec_s32_4, ec_s32_5, ec_s32_7, ec_s32_9, ec_s32_12, ec_s32_13, ec_s32_15, ec_s32_17, ec_s32_20, ec_zn0, ec_zn1, ec_zn2, ec_zn3, ec_zn4, ec_zn5, ec_zn6, ec_zn7, ec_zn8, ec_zn9, ec_zn10, ec_zn12, ec_zn13, ec_zn14, ec_zn15, ec_zn16, ec_zn20, ec_zn30, ec_zn48, ec_zn99, ec_zn120, ec_zn127, ec_zn11, ec_zn31, ec_zn46, ec_zn57, ec_zn59, ec_zn63, ec_zn101, ec_zn107, ec_zn108, ec_zn110, ec_zn111, ec_zn115, ec_zn116, ec_zn119, ec_zn167, ec_zn185, ec_zn192, ec_zn215, ec_zn233, ec_zn699, ec_zn932, ec_zn999, ec_znF, ec_zneg, ec_zadd, ec_zsub, ec_zmul, ec_zdivO, ec_em, ec_zltO, ec_zeqO, ec_zeq0, ec_qt, ec_qf, if_pos, if_neg, Int.add_zero, ec_aft_v, ec_aft_n, ec_rwE, ec_rwN, ec_rwP, ec_rwK, ec_rwS, ec_w_shpI, ec_w_shpL, ec_w_shpA, hD, hl, e1, e2, L2, e3, e4]
  · rw [S]
    exact ⟨rfl, rfl⟩
  · show Nat.beq (ec_shp h4 (p + 1)).1 16 = true
    rw [Z1.1, s1]
    rfl
  · rw [Z1.1, s1]
    rfl
  · show Nat.beq (ec_shp h4 (p + 2)).1 17 = true
    rw [Z2.1, s3]
    rfl
  · rw [Z2.1, s3]
    rfl
  · rw [i4, A3.2, i2, A1.2, hz]
    rfl
  · rw [Z1.2, z1]
    rfl
  · rw [Z2.2, z3]
    rfl
