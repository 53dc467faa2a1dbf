/-! Contracts: tables, columns and rows. -/
theorem ec_ix {a b : Int} {M w : Nat} (ha : 0 ≤ a ∧ a < M) (hb : 0 ≤ b ∧ b < w) (hM : M ≤ 10 ∧ w ≤ 8) : 0 ≤ a * w + b ∧ a * w + b < ((M * w : Nat) : Int) ∧ ((M * w : Nat) : Int) ≤ 80 := by
  have e0 : 0 ≤ a * w := Int.mul_nonneg ha.1 (Int.natCast_nonneg w)
  have e1 : (a + 1) * w ≤ M * w := Int.mul_le_mul_of_nonneg_right (by omega) (Int.natCast_nonneg w)
  rw [Int.add_mul] at e1
  have e2 := Nat.mul_le_mul hM.1 hM.2
  rw [Int.natCast_mul]
  refine ⟨by omega, by omega, ?_⟩
  rw [← Int.natCast_mul]
  omega
theorem ec_TB.ne {h : ec_Hp} {t q M w : Nat} (hT : ec_TB h t q M w) : q ≠ t := by
  rintro rfl
  have h1 := (ec_isK_spec hT.1.1 (by decide)).2
  have h2 := (ec_isK_spec hT.1.2 (by decide)).2
  omega
theorem ec_TB.I {h : ec_Hp} {t q M w p k : Nat} {x : Int32} (hT : ec_TB h t q M w) (hp : p = t → k ≠ 0 ∧ k ≠ 1) : ec_TB (ec_setI h p k x) t q M w := by
  obtain ⟨k1, k2, k3, k4⟩ := hT
  refine ⟨k1, k2, ?_, ?_⟩
  · show (if t = p ∧ 0 = k then x else h.2.1 t 0) = _
    rw [if_neg (fun z => (hp z.1.symm).1 z.2.symm)]
    exact k3
  · show (if t = p ∧ 1 = k then x else h.2.1 t 1) = _
    rw [if_neg (fun z => (hp z.1.symm).2 z.2.symm)]
    exact k4
theorem ec_TB.V {h : ec_Hp} {t q M w k : Nat} {x : Int32} (hT : ec_TB h t q M w) : ec_TB (ec_setI h q k x) t q M w := hT.I (fun z => absurd z hT.ne)
set_option maxHeartbeats 1000000 in
theorem ec_c49 {h : ec_Hp} {t q M w : Nat} {a b : Int} {v : Int32} (hT : ec_TB h t q M w) (ha : 0 ≤ a ∧ a < M) (hb : 0 ≤ b ∧ b < w) (hM : M ≤ 10 ∧ w ≤ 8) :
    ec_om 49 0 [.ref t, .int (ec_i a), .int (ec_i b), .int v, .double 0] [] h = some (.inl none, ec_setI h q (a * w + b).toNat v) := by
  obtain ⟨c0, c2, e2⟩ := ec_ix ha hb hM
  obtain ⟨⟨k1, k2⟩, ⟨k3, k4⟩, k5, k6⟩ := hT
  have c1 : ¬ a * w + b < 0 := by omega
  have g1 : ec_inB (ec_i (a * w + b)) (M * w) = true := ec_zin (by omega) c2 (by omega)
  have g2 : (Nat.ble 16 (ec_shp h q).1 && Nat.ble (ec_shp h q).1 20) = true := by
    rw [(ec_isK_spec k2 (by decide)).2]
    rfl
  have r1 : ec_rg (a * w + b) := ⟨by omega, by omega⟩
  have r2 : ec_rg 0 := ⟨by omega, by omega⟩
  have r3 : ec_rg ((M * w : Nat) : Int) := ⟨by omega, by omega⟩
  simp only [ec_s49_0, ec_s49_1, ec_s49_2, ec_s49_5, ec_s49_6, ec_s49_7, ec_s49_8, ec_s49_10, ec_s49_12, ec_s49_15, ec_s49_17, ec_s49_18, ec_s49_21, ec_s49_22, ec_s49_25, ec_s49_26, ec_s49_29, ec_s49_31, ec_s49_32, ec_s49_33, k1, k2, k3, k4, k5, k6, ec_zmul, ec_zadd, ec_zn0, ec_zof, ec_zlt r1 r2, ec_zlt r1 r3, c1, c2, g1, g2, ec_isR_r, ec_zcl (show 0 ≤ a * w + b by omega) (by omega), if_true, if_false, ite_true, ite_false, reduceIte]
theorem ec_zn8 : (8 : Int32) = ec_i 8 := rfl
theorem ec_znm : (-1 : Int32) = ec_i (-1) := rfl
/-- columns and rows of a cell -/
theorem ec_c113 {h : ec_Hp} {z : Int} (hz : 0 ≤ z ∧ z < 2147483648) : ec_om 113 0 [.int (ec_i z)] [] h = some (.inl (some (.int (ec_i (z % 8)))), h) := by
  have e : ec_i z / ec_i 8 = ec_i (z / 8) := by
    rw [← Int.tdiv_eq_ediv_of_nonneg hz.1]
    exact (Int32.ofInt_tdiv (by show (-2147483648 : Int) ≤ z; omega) (by show z ≤ 2147483647; omega) (by decide) (by decide)).symm
  have e2 : ec_i z - ec_i (z / 8) * ec_i 8 = ec_i (z % 8) := by
    rw [ec_zmul, ec_zsub]
    congr 1
    omega
  have g : (!decide (ec_i 8 = 0)) = true := by decide
  simp only [ec_s113_0, ec_s113_1, ec_s113_3, ec_s113_4, ec_zn8, g, e, e2]
theorem ec_c114 {h : ec_Hp} {z : Int} (hz : 0 ≤ z ∧ z < 2147483648) : ec_om 114 0 [.int (ec_i z)] [] h = some (.inl (some (.int (ec_i (z / 8)))), h) := by
  have e : ec_i z / ec_i 8 = ec_i (z / 8) := by
    rw [← Int.tdiv_eq_ediv_of_nonneg hz.1]
    exact (Int32.ofInt_tdiv (by show (-2147483648 : Int) ≤ z; omega) (by show z ≤ 2147483647; omega) (by decide) (by decide)).symm
  have g : (!decide (ec_i 8 = 0)) = true := by decide
  simp only [ec_s114_0, ec_s114_1, ec_s114_3, ec_s114_4, ec_zn8, g, e]
/-- a thing's cell -/
def ec_pl (h : ec_Hp) (q w : Nat) (a : Int) : Int32 := h.2.1 q (a * w + 1).toNat * ec_i 8 + h.2.1 q (a * w + 0).toNat
theorem ec_c51 {h : ec_Hp} {t q M w : Nat} {a : Int} (hT : ec_TB h t q M w) (ha : 0 ≤ a ∧ a < M) (hw : 2 ≤ w) (hM : M ≤ 10 ∧ w ≤ 8) :
    ec_om 51 0 [.ref t, .int (ec_i a)] [] h = some (.inl (some (.int (ec_pl h q w a))), h) := by
  have g0 := ec_c48 hT ha (b := 0) (by omega) hM
  have g1 := ec_c48 hT ha (b := 1) (by omega) hM
  have k1 := hT.1.1
  simp only [ec_s51_0, ec_s51_1, ec_s51_2, ec_s51_3, ec_s51_6, ec_s51_8, ec_s51_9, ec_s51_10, ec_s51_11, ec_s51_12, ec_s51_15, ec_s51_16, k1, ec_zn0, ec_zn1, ec_zn8, g0, g1, ec_aft_v, ec_pl]
theorem ec_c50 {h : ec_Hp} {t q M w : Nat} {a b : Int} {v : Int32} (hT : ec_TB h t q M w) (ha : 0 ≤ a ∧ a < M) (hb : 0 ≤ b ∧ b < w) (hM : M ≤ 10 ∧ w ≤ 8) :
    ec_om 50 0 [.ref t, .int (ec_i a), .int (ec_i b), .int v] [] h = some (.inl none, ec_setI h q (a * w + b).toNat (h.2.1 q (a * w + b).toNat + v)) := by
  have g0 := ec_c48 hT ha hb hM
  have g1 := ec_c49 (v := h.2.1 q (a * w + b).toNat + v) hT ha hb hM
  have k1 := hT.1.1
  simp only [ec_s50_0, ec_s50_1, ec_s50_2, ec_s50_3, ec_s50_4, ec_s50_5, ec_s50_6, ec_s50_9, ec_s50_10, ec_s50_11, ec_s50_14, k1, g0, g1, ec_aft_v, ec_aft_n]
theorem ec_c52 {h : ec_Hp} {t q M w : Nat} {a z : Int} (hT : ec_TB h t q M w) (ha : 0 ≤ a ∧ a < M) (hw : 2 ≤ w) (hM : M ≤ 10 ∧ w ≤ 8) (hz : 0 ≤ z ∧ z < 2147483648) :
    ec_om 52 0 [.ref t, .int (ec_i a), .int (ec_i z)] [] h = some (.inl none, ec_setI (ec_setI h q (a * w + 0).toNat (ec_i (z % 8))) q (a * w + 1).toNat (ec_i (z / 8))) := by
  have g0 := ec_c49 (v := ec_i (z % 8)) hT ha (b := 0) (by omega) hM
  have g1 := ec_c49 (v := ec_i (z / 8)) (hT.V (k := (a * w + 0).toNat) (x := ec_i (z % 8))) ha (b := 1) (by omega) hM
  have k1 := hT.1.1
  have c1 := fun h => ec_c113 (h := h) hz
  have c2 := fun h => ec_c114 (h := h) hz
  simp only [ec_s52_0, ec_s52_1, ec_s52_2, ec_s52_3, ec_s52_4, ec_s52_7, ec_s52_10, ec_s52_11, ec_s52_12, ec_s52_13, ec_s52_14, ec_s52_17, ec_s52_20, k1, ec_w_kI, ec_zn0, ec_zn1, c1, c2, g0, g1, ec_aft_v, ec_aft_n]
/-- the first thing in a cell -/
def ec_fi (f : Int → Int32) (x : Int32) : Nat → Int → Int
  | 0, _ => -1
  | n + 1, i => if f i = x then i else ec_fi f x n (i + 1)
theorem ec_c53L {h : ec_Hp} {t q M w : Nat} {x : Int32} {c : Int} (hT : ec_TB h t q M w) (hw : 2 ≤ w) (hM : M ≤ 10 ∧ w ≤ 8) (hc : c ≤ M) (hcn : h.2.1 t 3 = ec_i c) : ∀ (n : Nat) (i : Int), 0 ≤ i → i + n = c →
    ec_om 53 2 [.ref t, .int x, .int (ec_i i)] [] h = some (.inl (some (.int (ec_i (ec_fi (ec_pl h q w) x n i)))), h) := by
  intro n
  have k1 := hT.1.1
  induction n with
  | zero =>
    intro i h0 hi
    have r1 : ec_rg i := ⟨by omega, by omega⟩
    have r2 : ec_rg c := ⟨by omega, by omega⟩
    have c1 : ¬ i < c := by omega
    simp only [ec_s53_0, ec_s53_1, ec_s53_2, ec_s53_3, ec_s53_4, ec_s53_7, ec_s53_10, ec_s53_11, ec_s53_12, ec_s53_15, ec_s53_16, ec_s53_19, ec_s53_20, ec_s53_21, ec_s53_24, ec_s53_27, ec_s53_28, k1, hcn, ec_zlt r1 r2, c1, reduceIte, ec_fi, ec_znm]
  | succ n ih =>
    intro i h0 hi
    have r1 : ec_rg i := ⟨by omega, by omega⟩
    have r2 : ec_rg c := ⟨by omega, by omega⟩
    have c1 : i < c := by omega
    have g := ec_c51 hT (a := i) ⟨h0, by omega⟩ hw hM
    have ih := ih (i + 1) (by omega) (by omega)
    rw [ec_s53_2]
    simp only [ec_s53_0, ec_s53_1, ec_s53_3, ec_s53_4, ec_s53_7, ec_s53_10, ec_s53_11, ec_s53_12, ec_s53_15, ec_s53_16, ec_s53_19, ec_s53_20, ec_s53_21, ec_s53_24, ec_s53_27, ec_s53_28, k1, hcn, ec_zlt r1 r2, c1, reduceIte, g, ec_aft_v, ec_zn1, ec_zadd, ih, ec_fi]
    by_cases hx : ec_pl h q w i = x
    · rw [if_pos hx, if_pos hx]
    · rw [if_neg hx, if_neg hx]
theorem ec_c53 {h : ec_Hp} {t q M w : Nat} {x : Int32} {c : Nat} (hT : ec_TB h t q M w) (hw : 2 ≤ w) (hM : M ≤ 10 ∧ w ≤ 8) (hc : c ≤ M) (hcn : h.2.1 t 3 = ec_i c) :
    ec_om 53 0 [.ref t, .int x, .double 0] [] h = some (.inl (some (.int (ec_i (ec_fi (ec_pl h q w) x c 0)))), h) := by
  have g := ec_c53L (x := x) hT hw hM (by omega) hcn c 0 (by omega) (by omega)
  rw [ec_s53_0, ec_s53_1, ec_zn0]
  exact g
