/-! Contracts: who passed a door, both sides of a border, life, goals. -/
def ec_ps (h : ec_Hp) (B : Nat) (n : Int) (who : Int32) : ec_Hp := ec_setI (ec_setI h (B + 3) (n * (6 : Nat) + 3).toNat who) (B + 3) (n * (6 : Nat) + 4).toNat (h.2.1 (B + 3) (n * (6 : Nat) + 4).toNat + ec_i 1)
theorem ec_c22 {h : ec_Hp} {B : Nat} {z d : Int} {who : Int32} (hD : ec_DN h B) (hz : 0 ≤ z ∧ z < 48) (hd : 0 ≤ d ∧ d < 4) (hb : ec_bk (ec_bdr h B z d)) :
    ec_om 22 0 [.ref B, .int (ec_i z), .int (ec_i d), .int who, .double 0] [] h = some (.inl none, if ec_dn (ec_bdr h B z d) = -1 then h else ec_ps h B (ec_dn (ec_bdr h B z d)) who) := by
  have c20 := ec_c20 hD hz hd hb
  have k1 := hD.1.1
  have k2 := hD.1.2.2.1
  have hT := hD.2.2.1
  have k3 := hT.1.1
  have hq := ec_dn_bk hb
  generalize ec_dn (ec_bdr h B z d) = n at c20 hq ⊢
  rcases hq with ⟨rfl, -⟩ | ⟨e1, e2, -⟩
  · simp only [ec_s22_0, ec_s22_1, ec_s22_2, ec_s22_3, ec_s22_6, ec_s22_8, ec_s22_10, ec_s22_11, ec_s22_14, ec_s22_15, ec_s22_18, ec_s22_20, ec_s22_21, ec_s22_22, ec_s22_25, ec_s22_26, ec_s22_29, ec_s22_31, ec_s22_32, ec_s22_33, ec_s22_36, ec_zn0, ec_zn1, ec_zn2, ec_zn3, ec_zn4, ec_zn5, ec_zn6, ec_zn7, ec_zn8, ec_zn9, ec_zn10, ec_zn12, ec_zn13, ec_zn14, ec_zn15, ec_zn16, ec_zn20, ec_zn30, ec_zn48, ec_zn99, ec_zn120, ec_zn127, ec_zneg, ec_rn0, ec_rn1, ec_rn2, ec_rn3, ec_rn4, ec_rn5, ec_rn6, ec_rn7, ec_rn8, ec_rn9, ec_rn10, ec_rn12, ec_rn13, ec_rn14, ec_rn15, ec_rn16, ec_rn20, ec_rn30, ec_rn48, ec_rn99, ec_rn120, ec_rn127, ec_rnm, ec_zeq, ec_zlt, k1, c20, ec_aft_v, reduceIte]
  · have r1 : ec_rg n := ec_rgs (by omega)
    have a1 : (n = -1) = False := eq_false (by omega)
    have g0 := ec_c49 (v := who) hT (a := n) (b := 3) (by omega) (by omega) (by omega)
    have g1 := ec_c50 (v := ec_i 1) (hT.V (k := (n * (6 : Nat) + 3).toNat) (x := who)) (a := n) (b := 4) (by omega) (by omega) (by omega)
    have e3 : (ec_setI h (B + 3) (n * (6 : Nat) + 3).toNat who).2.1 (B + 3) (n * (6 : Nat) + 4).toNat = h.2.1 (B + 3) (n * (6 : Nat) + 4).toNat := by
      rw [ec_w_iI, if_neg (by omega)]
    rw [e3] at g1
    simp only [ec_s22_0, ec_s22_1, ec_s22_2, ec_s22_3, ec_s22_6, ec_s22_8, ec_s22_10, ec_s22_11, ec_s22_14, ec_s22_15, ec_s22_18, ec_s22_20, ec_s22_21, ec_s22_22, ec_s22_25, ec_s22_26, ec_s22_29, ec_s22_31, ec_s22_32, ec_s22_33, ec_s22_36, ec_zn0, ec_zn1, ec_zn2, ec_zn3, ec_zn4, ec_zn5, ec_zn6, ec_zn7, ec_zn8, ec_zn9, ec_zn10, ec_zn12, ec_zn13, ec_zn14, ec_zn15, ec_zn16, ec_zn20, ec_zn30, ec_zn48, ec_zn99, ec_zn120, ec_zn127, ec_zneg, ec_rn0, ec_rn1, ec_rn2, ec_rn3, ec_rn4, ec_rn5, ec_rn6, ec_rn7, ec_rn8, ec_rn9, ec_rn10, ec_rn12, ec_rn13, ec_rn14, ec_rn15, ec_rn16, ec_rn20, ec_rn30, ec_rn48, ec_rn99, ec_rn120, ec_rn127, ec_rnm, ec_zeq, ec_zlt, k1, k2, k3, ec_w_kI, ec_w_shpI, ec_isR_r, c20, g0, g1, ec_aft_v, ec_aft_n, reduceIte, r1, a1, ec_ps]
/-- the direction behind -/
theorem ec_bk4 {d : Int} (hd : 0 ≤ d ∧ d < 4) : ec_i (d + 2) - ec_i (d + 2) / ec_i 4 * ec_i 4 = ec_i ((d + 2) % 4) := by
  rcases (show d = 0 ∨ d = 1 ∨ d = 2 ∨ d = 3 by omega) with rfl | rfl | rfl | rfl <;> decide
theorem ec_c16 {h : ec_Hp} {B : Nat} {z d : Int} {v : Int32} (hD : ec_DN h B) (hz : 0 ≤ z ∧ z < 48) (hd : 0 ≤ d ∧ d < 4) (hn : 0 ≤ ec_nb z d ∧ ec_nb z d < 48) :
    ec_om 16 0 [.ref B, .int (ec_i z), .int (ec_i d), .int v] [] h = some (.inl none, ec_setI (ec_setI h (B + 1) (z * 4 + d).toNat v) (B + 1) (ec_nb z d * 4 + (d + 2) % 4).toNat v) := by
  have k1 := hD.1.1
  have g0 := ec_c17 (v := v) hD hz hd
  have g1 := ec_c17 (v := v) (hD.V (p := B + 1) (k := (z * 4 + d).toNat) (x := v) (by omega)) hn (d := (d + 2) % 4) (by omega)
  have g2 := fun h => ec_c115 (h := h) (z := z) hd
  simp only [ec_s16_0, ec_s16_1, ec_s16_2, ec_s16_3, ec_s16_4, ec_s16_7, ec_s16_8, ec_s16_9, ec_s16_10, ec_s16_13, ec_s16_14, ec_s16_15, ec_s16_16, ec_s16_17, ec_s16_18, ec_s16_19, ec_s16_22, ec_zn0, ec_zn1, ec_zn2, ec_zn3, ec_zn4, ec_zn5, ec_zn6, ec_zn7, ec_zn8, ec_zn9, ec_zn10, ec_zn12, ec_zn13, ec_zn14, ec_zn15, ec_zn16, ec_zn20, ec_zn30, ec_zn48, ec_zn99, ec_zn120, ec_zn127, ec_zneg, ec_rn0, ec_rn1, ec_rn2, ec_rn3, ec_rn4, ec_rn5, ec_rn6, ec_rn7, ec_rn8, ec_rn9, ec_rn10, ec_rn12, ec_rn13, ec_rn14, ec_rn15, ec_rn16, ec_rn20, ec_rn30, ec_rn48, ec_rn99, ec_rn120, ec_rn127, ec_rnm, ec_zeq, ec_zlt, k1, ec_w_kI, g0, g1, g2, Int.reduceEq, decide_false, Bool.not_false, ec_aft_v, ec_aft_n, ec_zadd, ec_bk4 hd]
theorem ec_c23 {h : ec_Hp} {B : Nat} (hD : ec_DN h B) : ec_om 23 0 [.ref B] [] h = some (.inl none, ec_setI h B 8 (if ec_i 0 < h.2.1 B 8 - ec_i 1 then h.2.1 B 8 - ec_i 1 else ec_i 0)) := by
  have k1 := hD.1.1
  simp only [ec_s23_0, ec_s23_1, ec_s23_2, ec_s23_3, ec_s23_6, ec_s23_7, ec_s23_8, ec_s23_11, ec_s23_14, ec_zn0, ec_zn1, ec_zn2, ec_zn3, ec_zn4, ec_zn5, ec_zn6, ec_zn7, ec_zn8, ec_zn9, ec_zn10, ec_zn12, ec_zn13, ec_zn14, ec_zn15, ec_zn16, ec_zn20, ec_zn30, ec_zn48, ec_zn99, ec_zn120, ec_zn127, ec_zneg, ec_rn0, ec_rn1, ec_rn2, ec_rn3, ec_rn4, ec_rn5, ec_rn6, ec_rn7, ec_rn8, ec_rn9, ec_rn10, ec_rn12, ec_rn13, ec_rn14, ec_rn15, ec_rn16, ec_rn20, ec_rn30, ec_rn48, ec_rn99, ec_rn120, ec_rn127, ec_rnm, ec_zeq, ec_zlt, k1]
/-- a value of a monster -/
def ec_mv (h : ec_Hp) (B : Nat) (a : Int) (j : Int) : Int32 := h.2.1 (B + 7) (a * (8 : Nat) + j).toNat
theorem ec_c24 {h : ec_Hp} {B : Nat} {a : Int} (hD : ec_DN h B) (ha : 0 ≤ a ∧ a < 6) : ec_om 24 0 [.ref B, .int (ec_i a)] [] h = some (.inl (some (.int (if ec_mv h B a 4 = ec_i (-1) then ec_i 0 else ec_i 1))), h) := by
  have hT := hD.2.2.2.2.1
  have k1 := hD.1.1
  have k2 := hD.1.2.2.2.2.1
  have k3 := hT.1.1
  have g0 := ec_c48 hT (a := a) (b := 4) (by omega) (by omega) (by omega)
  rw [show h.2.1 (B + 7) (a * (8 : Nat) + 4).toNat = ec_mv h B a 4 from rfl] at g0
  by_cases e : ec_mv h B a 4 = ec_i (-1) <;> simp only [ec_s24_0, ec_s24_1, ec_s24_4, ec_s24_5, ec_s24_6, ec_s24_9, ec_s24_10, ec_s24_13, ec_s24_14, ec_s24_17, ec_s24_18, ec_zn0, ec_zn1, ec_zn2, ec_zn3, ec_zn4, ec_zn5, ec_zn6, ec_zn7, ec_zn8, ec_zn9, ec_zn10, ec_zn12, ec_zn13, ec_zn14, ec_zn15, ec_zn16, ec_zn20, ec_zn30, ec_zn48, ec_zn99, ec_zn120, ec_zn127, ec_zneg, ec_rn0, ec_rn1, ec_rn2, ec_rn3, ec_rn4, ec_rn5, ec_rn6, ec_rn7, ec_rn8, ec_rn9, ec_rn10, ec_rn12, ec_rn13, ec_rn14, ec_rn15, ec_rn16, ec_rn20, ec_rn30, ec_rn48, ec_rn99, ec_rn120, ec_rn127, ec_rnm, ec_zeq, ec_zlt, k1, k2, k3, ec_isR_r, g0, ec_aft_v, e, reduceIte, ec_01z, ec_01o]
theorem ec_c25 {h : ec_Hp} {B : Nat} {a : Int} (hD : ec_DN h B) (ha : 0 ≤ a ∧ a < 6) : ec_om 25 0 [.ref B, .int (ec_i a)] [] h = some (.inl (some (.int (ec_mv h B a 5 * ec_i 8 + ec_mv h B a 4))), h) := by
  have hT := hD.2.2.2.2.1
  have k1 := hD.1.1
  have k2 := hD.1.2.2.2.2.1
  have k3 := hT.1.1
  have g0 := ec_c48 hT (a := a) (b := 4) (by omega) (by omega) (by omega)
  have g1 := ec_c48 hT (a := a) (b := 5) (by omega) (by omega) (by omega)
  rw [show h.2.1 (B + 7) (a * (8 : Nat) + 4).toNat = ec_mv h B a 4 from rfl] at g0
  rw [show h.2.1 (B + 7) (a * (8 : Nat) + 5).toNat = ec_mv h B a 5 from rfl] at g1
  simp only [ec_s25_0, ec_s25_1, ec_s25_4, ec_s25_5, ec_s25_6, ec_s25_9, ec_s25_11, ec_s25_12, ec_s25_13, ec_s25_16, ec_s25_17, ec_s25_18, ec_s25_21, ec_s25_22, ec_zn0, ec_zn1, ec_zn2, ec_zn3, ec_zn4, ec_zn5, ec_zn6, ec_zn7, ec_zn8, ec_zn9, ec_zn10, ec_zn12, ec_zn13, ec_zn14, ec_zn15, ec_zn16, ec_zn20, ec_zn30, ec_zn48, ec_zn99, ec_zn120, ec_zn127, ec_zneg, ec_rn0, ec_rn1, ec_rn2, ec_rn3, ec_rn4, ec_rn5, ec_rn6, ec_rn7, ec_rn8, ec_rn9, ec_rn10, ec_rn12, ec_rn13, ec_rn14, ec_rn15, ec_rn16, ec_rn20, ec_rn30, ec_rn48, ec_rn99, ec_rn120, ec_rn127, ec_rnm, ec_zeq, ec_zlt, k1, k2, k3, ec_isR_r, g0, g1, ec_aft_v]
def ec_sg (h : ec_Hp) (B : Nat) (a : Int) (x y : Int32) : ec_Hp := ec_setI (ec_setI h (B + 7) (a * (8 : Nat) + 4).toNat x) (B + 7) (a * (8 : Nat) + 5).toNat y
theorem ec_c26 {h : ec_Hp} {B : Nat} {a z : Int} (hD : ec_DN h B) (ha : 0 ≤ a ∧ a < 6) (hz : 0 ≤ z ∧ z < 2147483648) : ec_om 26 0 [.ref B, .int (ec_i a), .int (ec_i z)] [] h = some (.inl none, ec_sg h B a (ec_i (z % 8)) (ec_i (z / 8))) := by
  have hT := hD.2.2.2.2.1
  have k1 := hD.1.1
  have k2 := hD.1.2.2.2.2.1
  have k3 := hT.1.1
  have g0 := ec_c49 (v := ec_i (z % 8)) hT (a := a) (b := 4) (by omega) (by omega) (by omega)
  have g1 := ec_c49 (v := ec_i (z / 8)) (hT.V (k := (a * (8 : Nat) + 4).toNat) (x := ec_i (z % 8))) (a := a) (b := 5) (by omega) (by omega) (by omega)
  have c1 := fun h => ec_c113 (h := h) hz
  have c2 := fun h => ec_c114 (h := h) hz
  simp only [ec_s26_0, ec_s26_1, ec_s26_4, ec_s26_5, ec_s26_6, ec_s26_7, ec_s26_10, ec_s26_13, ec_s26_14, ec_s26_17, ec_s26_18, ec_s26_19, ec_s26_20, ec_s26_23, ec_s26_26, ec_zn0, ec_zn1, ec_zn2, ec_zn3, ec_zn4, ec_zn5, ec_zn6, ec_zn7, ec_zn8, ec_zn9, ec_zn10, ec_zn12, ec_zn13, ec_zn14, ec_zn15, ec_zn16, ec_zn20, ec_zn30, ec_zn48, ec_zn99, ec_zn120, ec_zn127, ec_zneg, ec_rn0, ec_rn1, ec_rn2, ec_rn3, ec_rn4, ec_rn5, ec_rn6, ec_rn7, ec_rn8, ec_rn9, ec_rn10, ec_rn12, ec_rn13, ec_rn14, ec_rn15, ec_rn16, ec_rn20, ec_rn30, ec_rn48, ec_rn99, ec_rn120, ec_rn127, ec_rnm, ec_zeq, ec_zlt, k1, k2, k3, ec_w_kI, ec_w_shpI, ec_isR_r, g0, g1, c1, c2, ec_aft_v, ec_aft_n, ec_sg]
theorem ec_c27 {h : ec_Hp} {B : Nat} {a : Int} (hD : ec_DN h B) (ha : 0 ≤ a ∧ a < 6) : ec_om 27 0 [.ref B, .int (ec_i a)] [] h = some (.inl none, ec_sg h B a (ec_i (-1)) (ec_i (-1))) := by
  have hT := hD.2.2.2.2.1
  have k1 := hD.1.1
  have k2 := hD.1.2.2.2.2.1
  have k3 := hT.1.1
  have g0 := ec_c49 (v := ec_i (-1)) hT (a := a) (b := 4) (by omega) (by omega) (by omega)
  have g1 := ec_c49 (v := ec_i (-1)) (hT.V (k := (a * (8 : Nat) + 4).toNat) (x := ec_i (-1))) (a := a) (b := 5) (by omega) (by omega) (by omega)
  simp only [ec_s27_0, ec_s27_1, ec_s27_4, ec_s27_5, ec_s27_6, ec_s27_7, ec_s27_10, ec_s27_11, ec_s27_14, ec_s27_15, ec_s27_16, ec_s27_17, ec_s27_20, ec_zn0, ec_zn1, ec_zn2, ec_zn3, ec_zn4, ec_zn5, ec_zn6, ec_zn7, ec_zn8, ec_zn9, ec_zn10, ec_zn12, ec_zn13, ec_zn14, ec_zn15, ec_zn16, ec_zn20, ec_zn30, ec_zn48, ec_zn99, ec_zn120, ec_zn127, ec_zneg, ec_rn0, ec_rn1, ec_rn2, ec_rn3, ec_rn4, ec_rn5, ec_rn6, ec_rn7, ec_rn8, ec_rn9, ec_rn10, ec_rn12, ec_rn13, ec_rn14, ec_rn15, ec_rn16, ec_rn20, ec_rn30, ec_rn48, ec_rn99, ec_rn120, ec_rn127, ec_rnm, ec_zeq, ec_zlt, k1, k2, k3, ec_w_kI, ec_w_shpI, ec_isR_r, g0, g1, ec_aft_n, ec_sg]
