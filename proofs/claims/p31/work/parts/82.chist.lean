/-! The class's copies and its undo stack. -/
theorem ec_fg.A {S : Nat → Nat → Prop} {h h' : ec_Hp} {q : Nat} {g : Nat → Int32} (a : ec_fg S h h') (s : ∀ j, S q j) : ec_fg S h (ec_setA h' q g) := by
  refine ⟨a.1, fun r j y => ?_⟩
  rw [ec_w_iA, if_neg]
  · exact a.2 r j y
  · rintro rfl
    exact y (s j)
theorem ed_cpy {f g : Nat → Int32} {n j : Nat} (h : j < n) : va_cpy f g 0 0 n j = f j := by
  unfold va_cpy
  rw [if_pos ⟨Nat.zero_le _, by omega⟩]
  congr 1
  omega
theorem ec_DN.f2 {S : Nat → Nat → Prop} {h h' : ec_Hp} {B : Nat} (a : ec_fg S h h') (hS : ∀ j, j < 2 → ¬ S (B + 2) j ∧ ¬ S (B + 4) j ∧ ¬ S (B + 6) j ∧ ¬ S (B + 8) j) (b : ec_DN h B) : ec_DN h' B := by
  have e : ∀ q, ec_shp h' q = ec_shp h q := fun q => by show ec_nth _ h'.1 q = ec_nth _ h.1 q; rw [a.1.1]
  have i0 := hS 0 (by omega)
  have i1 := hS 1 (by omega)
  unfold ec_DN ec_TB ec_isK at b ⊢
  simp only [e, a.2 _ _ i0.1, a.2 _ _ i1.1, a.2 _ _ i0.2.1, a.2 _ _ i1.2.1, a.2 _ _ i0.2.2.1, a.2 _ _ i1.2.2.1, a.2 _ _ i0.2.2.2, a.2 _ _ i1.2.2.2]
  exact b
theorem ec_c55s {h : ec_Hp} {t q u r M w : Nat} (hT : ec_TB h t q M w) (hU : ec_TB h u r M w) (hM : M * w < 5000) (ne : r ≠ q ∧ t ≠ q ∧ r ≠ t ∧ u ≠ q ∧ u ≠ t) : ∃ h', ec_om 55 0 [.ref t, .ref u] [] h = some (.inl none, h') ∧ h'.2.1 t 3 = h.2.1 u 3 ∧ (∀ k : Nat, k < M * w → h'.2.1 q k = h.2.1 r k) ∧ ec_fg (fun x j => x = t ∧ j = 3 ∨ x = q) h h' := by
  obtain ⟨⟨k1, k2⟩, ⟨k3, k4⟩, k5, k6⟩ := hT
  obtain ⟨⟨l1, l2⟩, ⟨l3, l4⟩, l5, l6⟩ := hU
  have g2 := ec_len16 k2
  have g3 := ec_len16 l2
  have n0 : ec_i 0 = (0 : Int32) := rfl
  have cl : (ec_i ((M * w : Nat) : Int)).toNatClampNeg = M * w := by rw [ec_zcl (by omega) (by omega)]; omega
  have c0 : (ec_i (0 : Int)).toNatClampNeg = 0 := rfl
  have lt : (ec_i ((M * w : Nat) : Int) < ec_i ((M * w : Nat) : Int)) = False := eq_false (by rw [ec_zltO (by omega)]; omega)
  have d0 : decide ((0 : Int32) ≤ ec_i 0) = true := by decide
  have dn : decide ((0 : Int32) ≤ ec_i ((M * w : Nat) : Int)) = true := decide_eq_true (by rw [Int32.le_iff_toInt_le, ec_zT ⟨by omega, by omega⟩]; show (0 : Int) ≤ _; omega)
  have ck : ((ec_isK (ec_setI h t 3 (h.2.1 u 3)) r 16 && ec_isK (ec_setI h t 3 (h.2.1 u 3)) q 16) && ((decide (0 ≤ ec_i 0) && (decide (0 ≤ ec_i 0) && decide (0 ≤ ec_i ((M * w : Nat) : Int)))) && (Nat.ble ((ec_i 0).toNatClampNeg + (ec_i ((M * w : Nat) : Int)).toNatClampNeg) (ec_shp (ec_setI h t 3 (h.2.1 u 3)) r).2.1 && Nat.ble ((ec_i 0).toNatClampNeg + (ec_i ((M * w : Nat) : Int)).toNatClampNeg) (ec_shp (ec_setI h t 3 (h.2.1 u 3)) q).2.1))) = true := by
    have e1 : ec_isK (ec_setI h t 3 (h.2.1 u 3)) r 16 = true := l2
    have e2 : ec_isK (ec_setI h t 3 (h.2.1 u 3)) q 16 = true := k2
    have e3 : (ec_shp (ec_setI h t 3 (h.2.1 u 3)) r).2.1 = M * w := l4
    have e4 : (ec_shp (ec_setI h t 3 (h.2.1 u 3)) q).2.1 = M * w := k4
    rw [e1, e2, e3, e4, d0, dn, cl, c0]
    have : Nat.ble (0 + M * w) (M * w) = true := by rw [Nat.zero_add]; exact Nat.ble_eq.mpr (Nat.le_refl _)
    rw [this]
    rfl
  have st := ec_s55_31 (x0 := .ref t) (x1 := .ref u) ck
  refine ⟨ec_setA (ec_setI h t 3 (h.2.1 u 3)) q (va_cpy ((ec_setI h t 3 (h.2.1 u 3)).2.1 r) ((ec_setI h t 3 (h.2.1 u 3)).2.1 q) 0 0 (M * w)), ?_, ?_, fun k hk => ?_, (ec_fg.refl.I (by exact Or.inl ⟨rfl, rfl⟩)).A (fun j => by exact Or.inr rfl)⟩
  · rw [cl, c0] at st
    have of : Int32.ofNat (M * w) = ec_i ((M * w : Nat) : Int) := rfl
    simp only [ec_s55_0, ec_s55_1, ec_s55_2, ec_s55_5, ec_s55_8, ec_s55_9, ec_s55_12, ec_s55_13, ec_s55_14, ec_s55_17, ec_s55_18, ec_s55_19, ec_s55_22, ec_s55_23, ec_s55_24, ec_s55_27, ec_s55_28, ec_s55_34, k1, k2, k3, k4, l1, l2, l3, l4, g2, g3, ec_w_kI, ec_w_shpI, ec_isR_r, ec_zn0, of, lt, reduceIte, st]
  · rw [ec_w_iA, if_neg ne.2.1, ec_rwS]
  · rw [ec_w_iA, if_pos rfl, ed_cpy hk, ec_rwP (fun e => ne.2.2.1 e.symm)]
/-- a dungeon is copied -/
theorem ec_c14s {h : ec_Hp} {A B : Nat} (hAB : A + 9 < B ∨ B + 9 < A) (hA : ec_DN h A) (hB : ec_DN h B) {σ : ec_Sg} (R : ec_RC h B σ) (w : ec_WF σ) : ∃ h', ec_om 14 0 [.ref A, .ref B] [] h = some (.inl none, h') ∧ ec_RC h' A σ ∧ ec_DN h' A ∧ ec_fg (fun q _ => A ≤ q ∧ q ≤ A + 9) h h' := by
  have w1 := w.1
  have bA := hA.b
  have bB := hB.b
  -- the borders
  have g2 := ec_len16 hA.2.1.1
  have g3 := ec_len16 hB.2.1.1
  have ck : ((ec_isK h (B + 1) 16 && ec_isK h (A + 1) 16) && ((decide ((0 : Int32) ≤ ec_i 0) && (decide ((0 : Int32) ≤ ec_i 0) && decide ((0 : Int32) ≤ ec_i 192))) && (Nat.ble ((ec_i 0).toNatClampNeg + (ec_i 192).toNatClampNeg) (ec_shp h (B + 1)).2.1 && Nat.ble ((ec_i 0).toNatClampNeg + (ec_i 192).toNatClampNeg) (ec_shp h (A + 1)).2.1))) = true := by
    rw [hA.2.1.1, hB.2.1.1, hA.2.1.2, hB.2.1.2]
    decide
  have st := ec_s14_23 (x0 := .ref A) (x1 := .ref B) ck
  have cl : (ec_i (192 : Int)).toNatClampNeg = 192 := by rw [ec_zcl (by omega) (by omega)]; rfl
  have c0 : (ec_i (0 : Int)).toNatClampNeg = 0 := rfl
  rw [cl, c0] at st
  have f1 : ec_fg (fun q _ => q = A + 1) h (ec_setA h (A + 1) (va_cpy (h.2.1 (B + 1)) (h.2.1 (A + 1)) 0 0 192)) := ec_fg.refl.A (fun j => by rfl)
  have v1 : ∀ k : Nat, k < 192 → (ec_setA h (A + 1) (va_cpy (h.2.1 (B + 1)) (h.2.1 (A + 1)) 0 0 192)).2.1 (A + 1) k = h.2.1 (B + 1) k := fun k hk => by rw [ec_w_iA, if_pos rfl, ed_cpy hk]
  have lt : (ec_i 192 < ec_i 192) = False := eq_false (by decide)
  have of : Int32.ofNat 192 = ec_i 192 := rfl
  have start : ec_om 14 0 [.ref A, .ref B] [] h = ec_om 14 26 [.ref A, .ref B] [] (ec_setA h (A + 1) (va_cpy (h.2.1 (B + 1)) (h.2.1 (A + 1)) 0 0 192)) := by
    simp only [ec_s14_0, ec_s14_1, ec_s14_4, ec_s14_5, ec_s14_6, ec_s14_9, ec_s14_10, ec_s14_11, ec_s14_14, ec_s14_15, ec_s14_16, ec_s14_19, ec_s14_20, ec_s14_27, ec_s14_30, ec_s14_31, ec_s14_34, ec_s14_37, ec_s14_38, ec_s14_41, ec_s14_42, ec_s14_45, ec_s14_48, ec_s14_49, ec_s14_52, ec_s14_53, ec_s14_56, ec_s14_59, ec_s14_60, ec_s14_63, ec_s14_64, ec_s14_67, ec_s14_70, ec_s14_71, ec_s14_72, ec_s14_75, ec_s14_78, ec_s14_79, ec_s14_80, ec_s14_83, ec_s14_86, ec_s14_87, ec_s14_88, ec_s14_91, ec_s14_94, ec_s14_95, ec_s14_96, ec_s14_99, ec_s14_102, ec_s14_103, ec_s14_104, ec_s14_107, ec_s14_110, ec_s14_111, ec_s14_112, ec_s14_115, ec_s14_118, ec_s14_119, ec_s14_120, ec_s14_123, ec_s14_126, bA, bB, hA.2.1.2, hB.2.1.2, g2, g3, ec_isR_r, ec_zn0, of, lt, reduceIte, st]
  rw [start]
  clear start st
  generalize ec_setA h (A + 1) (va_cpy (h.2.1 (B + 1)) (h.2.1 (A + 1)) 0 0 192) = h1 at f1 v1
  have A1 := hA.f2 f1 (fun j hj => by omega)
  have B1 := hB.f2 f1 (fun j hj => by omega)
  obtain ⟨h2, a1, a2, a3, a4⟩ := ec_c55s A1.2.2.1 B1.2.2.1 (by decide) (by omega)
  have A2 := A1.f2 a4 (fun j hj => by omega)
  have B2 := B1.f2 a4 (fun j hj => by omega)
  obtain ⟨h3, b1, b2, b3, b4⟩ := ec_c55s A2.2.2.2.1 B2.2.2.2.1 (by decide) (by omega)
  have A3 := A2.f2 b4 (fun j hj => by omega)
  have B3 := B2.f2 b4 (fun j hj => by omega)
  obtain ⟨h4, c1, c2, c3, c4⟩ := ec_c55s A3.2.2.2.2.1 B3.2.2.2.2.1 (by decide) (by omega)
  have A4 := A3.f2 c4 (fun j hj => by omega)
  have B4 := B3.f2 c4 (fun j hj => by omega)
  obtain ⟨h5, d1, d2, d3, d4⟩ := ec_c55s A4.2.2.2.2.2 B4.2.2.2.2.2 (by decide) (by omega)
  have A5 := A4.f2 d4 (fun j hj => by omega)
  have B5 := B4.f2 d4 (fun j hj => by omega)
  have F2 : ec_fg (fun q _ => A ≤ q ∧ q ≤ A + 9) h1 h2 := a4.mono (fun q j e => by omega)
  have F3 : ec_fg (fun q _ => A ≤ q ∧ q ≤ A + 9) h2 h3 := b4.mono (fun q j e => by omega)
  have F4 : ec_fg (fun q _ => A ≤ q ∧ q ≤ A + 9) h3 h4 := c4.mono (fun q j e => by omega)
  have F5 : ec_fg (fun q _ => A ≤ q ∧ q ≤ A + 9) h4 h5 := d4.mono (fun q j e => by omega)
  have F05 : ec_fg (fun q _ => A ≤ q ∧ q ≤ A + 9) h h5 := ((((f1.mono (fun q j e => by omega)).trans F2).trans F3).trans F4).trans F5
  have rB : ∀ q j, B ≤ q → q ≤ B + 9 → h5.2.1 q j = h.2.1 q j := fun q j h1 h2 => F05.2 q j (by omega)
  -- what the copied cells hold
  have w0 : ∀ k : Nat, k < 192 → h5.2.1 (A + 1) k = h.2.1 (B + 1) k := fun k hk => by
    rw [d4.2 _ _ (by omega), c4.2 _ _ (by omega), b4.2 _ _ (by omega), a4.2 _ _ (by omega), v1 k hk]
  have w2 : h5.2.1 (A + 2) 3 = h.2.1 (B + 2) 3 := by
    rw [d4.2 _ _ (by omega), c4.2 _ _ (by omega), b4.2 _ _ (by omega), a2, f1.2 _ _ (by omega)]
  have w3 : ∀ k : Nat, k < 60 → h5.2.1 (A + 3) k = h.2.1 (B + 3) k := fun k hk => by
    rw [d4.2 _ _ (by omega), c4.2 _ _ (by omega), b4.2 _ _ (by omega), a3 k hk, f1.2 _ _ (by omega)]
  have w4 : h5.2.1 (A + 4) 3 = h.2.1 (B + 4) 3 := by
    rw [d4.2 _ _ (by omega), c4.2 _ _ (by omega), b2, a4.2 _ _ (by omega), f1.2 _ _ (by omega)]
  have w5 : ∀ k : Nat, k < 24 → h5.2.1 (A + 5) k = h.2.1 (B + 5) k := fun k hk => by
    rw [d4.2 _ _ (by omega), c4.2 _ _ (by omega), b3 k hk, a4.2 _ _ (by omega), f1.2 _ _ (by omega)]
  have w6 : h5.2.1 (A + 6) 3 = h.2.1 (B + 6) 3 := by
    rw [d4.2 _ _ (by omega), c2, b4.2 _ _ (by omega), a4.2 _ _ (by omega), f1.2 _ _ (by omega)]
  have w7 : ∀ k : Nat, k < 48 → h5.2.1 (A + 7) k = h.2.1 (B + 7) k := fun k hk => by
    rw [d4.2 _ _ (by omega), c3 k hk, b4.2 _ _ (by omega), a4.2 _ _ (by omega), f1.2 _ _ (by omega)]
  have w8 : h5.2.1 (A + 8) 3 = h.2.1 (B + 8) 3 := by
    rw [d2, c4.2 _ _ (by omega), b4.2 _ _ (by omega), a4.2 _ _ (by omega), f1.2 _ _ (by omega)]
  have w9 : ∀ k : Nat, k < 24 → h5.2.1 (A + 9) k = h.2.1 (B + 9) k := fun k hk => by
    rw [d3 k hk, c4.2 _ _ (by omega), b4.2 _ _ (by omega), a4.2 _ _ (by omega), f1.2 _ _ (by omega)]
  obtain ⟨r1, r2, r3, r4, r5, r6, r7⟩ := R
  have q1 : h5.2.1 B 5 = ec_i (σ 0) ∧ h5.2.1 B 6 = ec_i (σ 1) ∧ h5.2.1 B 7 = ec_i (σ 6) ∧ h5.2.1 B 8 = ec_i (σ 7) ∧ h5.2.1 B 9 = ec_i (σ 8) ∧ h5.2.1 B 10 = ec_i (σ 9) ∧ h5.2.1 B 11 = ec_i (σ 10) := by
    simp (disch := omega) only [rB]
    exact r1
  have o1 : ec_01 (ec_i (σ 9)) = true := by
    have l := w.2.1.2.2.2.1
    rcases (show σ 9 = 0 ∨ σ 9 = 1 by omega) with q | q
    · rw [q]; exact ec_01z
    · rw [q]; exact ec_01o
  refine ⟨ec_setI (ec_setI (ec_setI (ec_setI (ec_setI (ec_setI (ec_setI h5 A 5 (ec_i (σ 0))) A 6 (ec_i (σ 1))) A 7 (ec_i (σ 6))) A 8 (ec_i (σ 7))) A 9 (ec_i (σ 8))) A 10 (ec_i (σ 9))) A 11 (ec_i (σ 10)), ?_, ⟨?_, ?_, ?_, ?_, ?_, ?_, ?_⟩, ?_, ?_⟩
  · have x0 := A1.b
    have x1 := B1.b
    have x2 := A2.b
    have x3 := B2.b
    have x4 := A3.b
    have x5 := B3.b
    have x6 := A4.b
    have x7 := B4.b
    have x8 := A5.b
    have x9 := B5.b
    have hD := And.intro x0 (And.intro x1 (And.intro x2 (And.intro x3 (And.intro x4 (And.intro x5 (And.intro x6 (And.intro x7 (And.intro x8 (And.intro x9 o1)))))))))
    rw [ec_s14_26]
    simp (disch := first | (simp only [ec_w_kI, ec_w_kL, ec_w_kA, ec_w_shpI, ec_w_shpL, ec_w_shpA, ec_isR_r, ec_01z, ec_01o, ec_01q, hD]; done) | omega | (simp only [ec_w_shpI, ec_w_shpL, ec_w_shpA, hD]; refine ec_zinO ?_; omega) | (refine ec_nzO ?_; omega)) only [ec_s14_0, ec_s14_1, ec_s14_4, ec_s14_5, ec_s14_6, ec_s14_9, ec_s14_10, ec_s14_11, ec_s14_14, ec_s14_15, ec_s14_16, ec_s14_19, ec_s14_20, ec_s14_27, ec_s14_30, ec_s14_31, ec_s14_34, ec_s14_37, ec_s14_38, ec_s14_41, ec_s14_42, ec_s14_45, ec_s14_48, ec_s14_49, ec_s14_52, ec_s14_53, ec_s14_56, ec_s14_59, ec_s14_60, ec_s14_63, ec_s14_64, ec_s14_67, ec_s14_70, ec_s14_71, ec_s14_72, ec_s14_75, ec_s14_78, ec_s14_79, ec_s14_80, ec_s14_83, ec_s14_86, ec_s14_87, ec_s14_88, ec_s14_91, ec_s14_94, ec_s14_95, ec_s14_96, ec_s14_99, ec_s14_102, ec_s14_103, ec_s14_104, ec_s14_107, ec_s14_110, ec_s14_111, ec_s14_112, ec_s14_115, ec_s14_118, ec_s14_119, ec_s14_120, ec_s14_123, ec_s14_126, ec_zn0, ec_zn1, ec_zn2, ec_zn3, ec_zn4, ec_zn5, ec_zn6, ec_zn7, ec_zn8, ec_zn9, ec_zn10, ec_zn12, ec_zn13, ec_zn14, ec_zn15, ec_zn16, ec_zn20, ec_zn30, ec_zn48, ec_zn99, ec_zn120, ec_zn127, ec_zn11, ec_zn31, ec_zn46, ec_zn57, ec_zn59, ec_zn63, ec_zn101, ec_zn107, ec_zn108, ec_zn110, ec_zn111, ec_zn115, ec_zn116, ec_zn119, ec_zn167, ec_zn185, ec_zn192, ec_zn215, ec_zn233, ec_zn699, ec_zn932, ec_zn999, ec_znF, ec_zneg, ec_zadd, ec_zsub, ec_zmul, ec_zdivO, ec_em, ec_zltO, ec_zeqO, ec_zeq0, ec_qt, ec_qf, if_pos, if_neg, Int.add_zero, ec_aft_v, ec_aft_n, ec_rwE, ec_rwN, ec_rwP, ec_rwK, ec_rwS, ec_w_shpI, ec_w_shpL, ec_w_shpA, hD, a1, b1, c1, d1, q1]
  · simp (disch := omega) only [ed_rN, ed_rE]
    exact ⟨trivial, trivial, trivial, trivial, trivial, trivial, trivial⟩
  · simp (disch := omega) only [ed_rN, w2, w4, w6, w8]
    exact r2
  · intro z d k hz hd hk
    simp (disch := omega) only [ed_rN, w0]
    exact r3 z d k hz hd hk
  · intro n j k hn hj hk
    simp (disch := omega) only [ed_rN, w3]
    exact r4 n j k hn hj hk
  · intro t k ht
    refine ⟨fun hk => ?_, fun hk => ?_, fun hk => ?_, fun hk => ?_⟩ <;> simp (disch := omega) only [ed_rN, w5]
    · exact (r5 t k ht).1 hk
    · exact (r5 t k ht).2.1 hk
    · exact (r5 t k ht).2.2.1 hk
    · exact (r5 t k ht).2.2.2 hk
  · intro t k ht
    refine ⟨fun hk => ?_, fun hk => ?_, fun hk => ?_, fun hk => ?_, fun hk => ?_, fun hk => ?_, fun hk => ?_⟩ <;> simp (disch := omega) only [ed_rN, w7]
    · exact (r6 t k ht).1 hk
    · exact (r6 t k ht).2.1 hk
    · exact (r6 t k ht).2.2.1 hk
    · exact (r6 t k ht).2.2.2.1 hk
    · exact (r6 t k ht).2.2.2.2.1 hk
    · exact (r6 t k ht).2.2.2.2.2.1 hk
    · exact (r6 t k ht).2.2.2.2.2.2 hk
  · intro t k ht
    refine ⟨fun hk => ?_, fun hk => ?_, fun hk => ?_, fun hk => ?_⟩ <;> simp (disch := omega) only [ed_rN, w9]
    · exact (r7 t k ht).1 hk
    · exact (r7 t k ht).2.1 hk
    · exact (r7 t k ht).2.2.1 hk
    · exact (r7 t k ht).2.2.2 hk
  · exact A5.O.O.O.O.O.O.O
  · exact F05.trans (((((((ec_fg.refl.I (by omega)).I (by omega)).I (by omega)).I (by omega)).I (by omega)).I (by omega)).I (by omega))
/-! the undo stack: a ring of four -/
def ed_HS (h : ec_Hp) : Prop := (ec_isK h 21 2 = true ∧ (ec_shp h 21).2.2 0 = .ref 22) ∧ (ec_isK h 22 20 = true ∧ (ec_shp h 22).2.1 = 4) ∧ ((ec_shp h 22).2.2 0 = .ref 23 ∧ (ec_shp h 22).2.2 1 = .ref 33 ∧ (ec_shp h 22).2.2 2 = .ref 43 ∧ (ec_shp h 22).2.2 3 = .ref 53)
theorem ed_HS.of {h h' : ec_Hp} (e : h'.1 = h.1) (b : ed_HS h) : ed_HS h' := by
  have e : ∀ q, ec_shp h' q = ec_shp h q := fun q => by show ec_nth _ h'.1 q = ec_nth _ h.1 q; rw [e]
  unfold ed_HS ec_isK at b ⊢
  simp only [e]
  exact b
/-- where a saved state lies -/
def ed_rp (i : Int) : Nat := (23 + 10 * (i % 4)).toNat
theorem ed_rp_c {i : Int} : ed_rp i = 23 ∨ ed_rp i = 33 ∨ ed_rp i = 43 ∨ ed_rp i = 53 := by
  unfold ed_rp
  omega
/-- next nx, n states, the i-th (oldest first) at nx - n + i -/
def ed_HR (h : ec_Hp) (n : Int) (p : Int → ec_Sg) : Prop := ed_HS h ∧ (ec_DN h 23 ∧ ec_DN h 33 ∧ ec_DN h 43 ∧ ec_DN h 53) ∧ ∃ nx : Int, (0 ≤ nx ∧ nx < 4) ∧ (0 ≤ n ∧ n ≤ 4) ∧ h.2.1 21 1 = ec_i nx ∧ h.2.1 21 2 = ec_i n ∧ ∀ i : Int, 0 ≤ i ∧ i < n → ec_WF (p i) ∧ ec_RC h (ed_rp (nx - n + i)) (p i)
theorem ed_HR.dn {h : ec_Hp} {n : Int} {p : Int → ec_Sg} (H : ed_HR h n p) (i : Int) : ec_DN h (ed_rp i) := by
  rcases ed_rp_c (i := i) with e | e | e | e
  · rw [e]; exact H.2.1.1
  · rw [e]; exact H.2.1.2.1
  · rw [e]; exact H.2.1.2.2.1
  · rw [e]; exact H.2.1.2.2.2
theorem ed_HR.fg {S : Nat → Nat → Prop} {h h' : ec_Hp} {n : Int} {p : Int → ec_Sg} (a : ec_fg S h h') (hS : ∀ q j, 21 ≤ q → q ≤ 62 → ¬ S q j) (H : ed_HR h n p) : ed_HR h' n p := by
  obtain ⟨h1, h2, nx, a1, a2, a3, a4, a5⟩ := H
  refine ⟨h1.of a.1.1, ⟨h2.1.fg a (fun q j x y => hS q j (by omega) (by omega)), h2.2.1.fg a (fun q j x y => hS q j (by omega) (by omega)), h2.2.2.1.fg a (fun q j x y => hS q j (by omega) (by omega)), h2.2.2.2.fg a (fun q j x y => hS q j (by omega) (by omega))⟩, nx, a1, a2, (a.2 _ _ (hS _ _ (by omega) (by omega))).trans a3, (a.2 _ _ (hS _ _ (by omega) (by omega))).trans a4, fun i hi => ⟨(a5 i hi).1, (a5 i hi).2.fg a (fun q j x y => hS q j ?_ ?_)⟩⟩
  · rcases ed_rp_c (i := nx - n + i) with e | e | e | e <;> omega
  · rcases ed_rp_c (i := nx - n + i) with e | e | e | e <;> omega
theorem ec_c31s {h : ec_Hp} (H : ed_HS h) {i : Int} (hi : 0 ≤ i ∧ i < 4) : ec_om 31 0 [.ref 21, .int (ec_i i)] [] h = some (.inl (some (.ref (ed_rp i))), h) := by
  unfold ed_HS at H
  have hD := H
  have v : (ec_shp h 22).2.2 (ec_i i).toNatClampNeg = .ref (ed_rp i) := by
    rw [ec_zcl hi.1 (by omega)]
    rcases (show i = 0 ∨ i = 1 ∨ i = 2 ∨ i = 3 by omega) with rfl | rfl | rfl | rfl
    · exact H.2.2.1
    · exact H.2.2.2.1
    · exact H.2.2.2.2.1
    · exact H.2.2.2.2.2
  have hD := And.intro H v
  simp (disch := first | (simp only [ec_w_kI, ec_w_kL, ec_w_kA, ec_w_shpI, ec_w_shpL, ec_w_shpA, ec_isR_r, ec_01z, ec_01o, ec_01q, hD]; done) | omega | (simp only [ec_w_shpI, ec_w_shpL, ec_w_shpA, hD]; refine ec_zinO ?_; omega) | (refine ec_nzO ?_; omega)) only [ec_s31_0, ec_s31_1, ec_s31_4, ec_s31_5, ec_s31_6, ec_s31_9, ec_s31_10, ec_s31_13, ec_s31_14, ec_s31_15, ec_s31_18, ec_s31_19, ec_s31_19n, ec_zn0, ec_zn1, ec_zn2, ec_zn3, ec_zn4, ec_zn5, ec_zn6, ec_zn7, ec_zn8, ec_zn9, ec_zn10, ec_zn12, ec_zn13, ec_zn14, ec_zn15, ec_zn16, ec_zn20, ec_zn30, ec_zn48, ec_zn99, ec_zn120, ec_zn127, ec_zn11, ec_zn31, ec_zn46, ec_zn57, ec_zn59, ec_zn63, ec_zn101, ec_zn107, ec_zn108, ec_zn110, ec_zn111, ec_zn115, ec_zn116, ec_zn119, ec_zn167, ec_zn185, ec_zn192, ec_zn215, ec_zn233, ec_zn699, ec_zn932, ec_zn999, ec_znF, ec_zneg, ec_zadd, ec_zsub, ec_zmul, ec_zdivO, ec_em, ec_zltO, ec_zeqO, ec_zeq0, ec_qt, ec_qf, if_pos, if_neg, Int.add_zero, ec_aft_v, ec_aft_n, ec_rwE, ec_rwN, ec_rwP, ec_rwK, ec_rwS, ec_w_shpI, ec_w_shpL, ec_w_shpA, hD]
abbrev ed_Hf : Nat → Nat → Prop := fun q _ => 21 ≤ q ∧ q ≤ 62
theorem ec_c29s {h : ec_Hp} {n : Int} {p : Int → ec_Sg} (H : ed_HR h n p) {σ : ec_Sg} (hD : ec_DN h 1) (R : ec_RC h 1 σ) (w : ec_WF σ) : ∃ h', ec_om 29 0 [.ref 21, .ref 1, .double 0] [] h = some (.inl none, h') ∧ ed_HR h' (ed_pn n) (ed_pp n p σ) ∧ ec_fg ed_Hf h h' := by
  have H0 := H
  obtain ⟨hs, hd, nx, a1, a2, a3, a4, a5⟩ := H
  have rp := ed_rp_c (i := nx)
  obtain ⟨h1, b1, b2, b3, b4⟩ := ec_c14s (A := ed_rp nx) (B := 1) (by omega) (H0.dn nx) hD R w
  have e1 : h1.2.1 21 1 = ec_i nx := (b4.2 _ _ (by omega)).trans a3
  have e2 : h1.2.1 21 2 = ec_i n := (b4.2 _ _ (by omega)).trans a4
  have f1 : ec_fg ed_Hf h h1 := b4.mono (fun q j e => by omega)
  have g31 := ec_c31s hs a1
  have mi : (if 4 < n + 1 then ec_i 4 else ec_i (n + 1)) = ec_i (ed_pn n) := by
    unfold ed_pn
    by_cases q : n = 4
    · rw [if_pos q, if_pos (by omega)]
    · rw [if_neg q, if_neg (by omega)]
  have f2 : ec_fg ed_Hf h (ec_setI (ec_setI h1 21 1 (ec_i ((nx + 1) % 4))) 21 2 (ec_i (ed_pn n))) := (f1.I (by omega)).I (by omega)
  have f3 : ec_fg (fun q _ => q = 21) h1 (ec_setI (ec_setI h1 21 1 (ec_i ((nx + 1) % 4))) 21 2 (ec_i (ed_pn n))) := (ec_fg.refl.I (by rfl)).I (by rfl)
  have dn : ∀ i : Int, ec_DN h1 (ed_rp i) := by
    intro i
    by_cases q : ed_rp i = ed_rp nx
    · rw [q]; exact b3
    · exact (H0.dn i).fg b4 (fun q j x y => by have := ed_rp_c (i := i); omega)
  have dn2 : ∀ i : Int, ec_DN (ec_setI (ec_setI h1 21 1 (ec_i ((nx + 1) % 4))) 21 2 (ec_i (ed_pn n))) (ed_rp i) := fun i => (dn i).fg f3 (fun q j x y => by have := ed_rp_c (i := i); omega)
  refine ⟨ec_setI (ec_setI h1 21 1 (ec_i ((nx + 1) % 4))) 21 2 (ec_i (ed_pn n)), ?_, ⟨hs.of f2.1.1, ⟨dn2 0, dn2 1, dn2 2, dn2 3⟩, (nx + 1) % 4, by omega, ?_, by rw [ec_rwK (by decide), ec_rwS], by rw [ec_rwS], fun i hi => ?_⟩, f2⟩
  · have hs1 := hs.of b4.1.1
    unfold ed_HS at hs hs1
    have kk := (H0.dn nx).1.1
    have hD := And.intro hs (And.intro hs1 kk)
    simp (disch := first | (simp only [ec_w_kI, ec_w_kL, ec_w_kA, ec_w_shpI, ec_w_shpL, ec_w_shpA, ec_isR_r, ec_01z, ec_01o, ec_01q, hD]; done) | omega | (simp only [ec_w_shpI, ec_w_shpL, ec_w_shpA, hD]; refine ec_zinO ?_; omega) | (refine ec_nzO ?_; omega)) only [ec_s29_0, ec_s29_1, ec_s29_2, ec_s29_5, ec_s29_8, ec_s29_9, ec_s29_10, ec_s29_10n, ec_s29_13, ec_s29_14, ec_s29_15, ec_s29_18, ec_s29_19, ec_s29_20, ec_s29_23, ec_s29_24, ec_s29_25, ec_s29_26, ec_s29_27, ec_s29_30, ec_s29_31, ec_s29_32, ec_s29_35, ec_s29_36, ec_s29_37, ec_s29_38, ec_s29_41, ec_s29_44, ec_zn0, ec_zn1, ec_zn2, ec_zn3, ec_zn4, ec_zn5, ec_zn6, ec_zn7, ec_zn8, ec_zn9, ec_zn10, ec_zn12, ec_zn13, ec_zn14, ec_zn15, ec_zn16, ec_zn20, ec_zn30, ec_zn48, ec_zn99, ec_zn120, ec_zn127, ec_zn11, ec_zn31, ec_zn46, ec_zn57, ec_zn59, ec_zn63, ec_zn101, ec_zn107, ec_zn108, ec_zn110, ec_zn111, ec_zn115, ec_zn116, ec_zn119, ec_zn167, ec_zn185, ec_zn192, ec_zn215, ec_zn233, ec_zn699, ec_zn932, ec_zn999, ec_znF, ec_zneg, ec_zadd, ec_zsub, ec_zmul, ec_zdivO, ec_em, ec_zltO, ec_zeqO, ec_zeq0, ec_qt, ec_qf, if_pos, if_neg, Int.add_zero, ec_aft_v, ec_aft_n, ec_rwE, ec_rwN, ec_rwP, ec_rwK, ec_rwS, ec_w_shpI, ec_w_shpL, ec_w_shpA, hD, a3, g31, b1, e1, e2, mi]
  · unfold ed_pn
    split <;> omega
  · have tr : ∀ (j : Int) (τ : ec_Sg), ed_rp j ≠ ed_rp nx → ec_RC h (ed_rp j) τ → ec_RC (ec_setI (ec_setI h1 21 1 (ec_i ((nx + 1) % 4))) 21 2 (ec_i (ed_pn n))) (ed_rp j) τ := fun j τ q R => (R.fg b4 (fun q j' x y => by have := ed_rp_c (i := j); omega)).fg f3 (fun q j' x y => by have := ed_rp_c (i := j); omega)
    have new : ec_RC (ec_setI (ec_setI h1 21 1 (ec_i ((nx + 1) % 4))) 21 2 (ec_i (ed_pn n))) (ed_rp nx) σ := b2.fg f3 (fun q j' x y => by omega)
    by_cases q : n = 4
    · subst q
      rw [show ed_pn 4 = 4 from rfl] at hi ⊢
      rw [ed_pp_4]
      by_cases q2 : i = 3
      · subst q2
        rw [if_pos rfl, show ed_rp ((nx + 1) % 4 - 4 + 3) = ed_rp nx by unfold ed_rp; omega]
        exact ⟨w, new⟩
      · rw [if_neg q2, show ed_rp ((nx + 1) % 4 - 4 + i) = ed_rp (nx - 4 + (i + 1)) by unfold ed_rp; omega]
        have := a5 (i + 1) (by omega)
        exact ⟨this.1, tr _ _ (by unfold ed_rp; omega) this.2⟩
    · have en : ed_pn n = n + 1 := if_neg q
      rw [en] at hi ⊢
      rw [ed_pp_n q]
      rw [en] at new tr
      by_cases q2 : i = n
      · subst q2
        rw [if_pos rfl, show ed_rp ((nx + 1) % 4 - (i + 1) + i) = ed_rp nx by unfold ed_rp; omega]
        exact ⟨w, new⟩
      · rw [if_neg q2, show ed_rp ((nx + 1) % 4 - (n + 1) + i) = ed_rp (nx - n + i) by unfold ed_rp; omega]
        have := a5 i (by omega)
        exact ⟨this.1, tr _ _ (by unfold ed_rp; omega) this.2⟩
