/-! Contracts: a stone's flight, a door that is swung, a trap. -/
def ec_stn (P : Int → Int → Int) : Nat → Int → Int
  | 0, z => z
  | n + 1, z => if P z 1 = 0 then z else ec_stn P n (ec_nb z 1)
theorem ec_c63L {h : ec_Hp} {B : Nat} {P : Int → Int → Int} (hD : ec_DN h B) (hP : ec_PB h B (ec_i 0) P) (hE : ec_ED P) : ∀ (n : Nat) (i z : Int), 0 ≤ z ∧ z < 48 → 0 ≤ i → i + n = 3 →
    ec_om 63 7 [.ref B, .int (ec_i z), .int (ec_i i)] [] h = some (.inl (some (.int (ec_i (ec_stn P n z)))), h) := by
  intro n
  have k1 := hD.1.1
  induction n with
  | zero =>
    intro i z hz h0 hi
    have hi : i = 3 := by omega
    subst hi
    simp only [ec_s63_0, ec_s63_1, ec_s63_4, ec_s63_5, ec_s63_6, ec_s63_7, ec_s63_8, ec_s63_9, ec_s63_12, ec_s63_13, ec_s63_14, ec_s63_15, ec_s63_18, ec_s63_21, ec_s63_22, ec_s63_23, ec_s63_26, ec_s63_27, ec_s63_30, ec_s63_33, ec_s63_34, ec_zn0, ec_zn1, ec_zn2, ec_zn3, ec_zn4, ec_zn5, ec_zn6, ec_zn7, ec_zn8, ec_zn9, ec_zn10, ec_zn12, ec_zn13, ec_zn14, ec_zn15, ec_zn16, ec_zn20, ec_zn30, ec_zn48, ec_zn99, ec_zn120, ec_zn127, ec_zneg, ec_rn0, ec_rn1, ec_rn2, ec_rn3, ec_rn4, ec_rn5, ec_rn6, ec_rn7, ec_rn8, ec_rn9, ec_rn10, ec_rn12, ec_rn13, ec_rn14, ec_rn15, ec_rn16, ec_rn20, ec_rn30, ec_rn48, ec_rn99, ec_rn120, ec_rn127, ec_rnm, ec_zeq, ec_zlt, Int.lt_irrefl, reduceIte, ec_stn]
  | succ n ih =>
    intro i z hz h0 hi
    have r1 : ec_rg i := ec_rgs (by omega)
    have a1 : i < 3 := by omega
    have c19 := ec_c19P hD hP hz (d := 1) (by omega)
    have hEz := hE z 1 hz (by omega)
    rw [show ec_stn P (n + 1) z = if P z 1 = 0 then z else ec_stn P n (ec_nb z 1) from rfl]
    rw [ec_s63_7]
    by_cases h2 : P z 1 = 0
    · rw [if_pos h2] at c19 ⊢
      simp only [ec_s63_0, ec_s63_1, ec_s63_4, ec_s63_5, ec_s63_6, ec_s63_8, ec_s63_9, ec_s63_12, ec_s63_13, ec_s63_14, ec_s63_15, ec_s63_18, ec_s63_21, ec_s63_22, ec_s63_23, ec_s63_26, ec_s63_27, ec_s63_30, ec_s63_33, ec_s63_34, ec_zn0, ec_zn1, ec_zn2, ec_zn3, ec_zn4, ec_zn5, ec_zn6, ec_zn7, ec_zn8, ec_zn9, ec_zn10, ec_zn12, ec_zn13, ec_zn14, ec_zn15, ec_zn16, ec_zn20, ec_zn30, ec_zn48, ec_zn99, ec_zn120, ec_zn127, ec_zneg, ec_rn0, ec_rn1, ec_rn2, ec_rn3, ec_rn4, ec_rn5, ec_rn6, ec_rn7, ec_rn8, ec_rn9, ec_rn10, ec_rn12, ec_rn13, ec_rn14, ec_rn15, ec_rn16, ec_rn20, ec_rn30, ec_rn48, ec_rn99, ec_rn120, ec_rn127, ec_rnm, ec_zeq, ec_zlt, r1, a1, reduceIte, k1, c19, ec_aft_v]
    · rw [if_neg h2] at c19 ⊢
      have g2 := fun h => ec_c115 (h := h) (z := z) (d := 1) (by omega)
      have e1 := ih (i + 1) (ec_nb z 1) (hEz h2) (by omega) (by omega)
      simp only [ec_s63_0, ec_s63_1, ec_s63_4, ec_s63_5, ec_s63_6, ec_s63_8, ec_s63_9, ec_s63_12, ec_s63_13, ec_s63_14, ec_s63_15, ec_s63_18, ec_s63_21, ec_s63_22, ec_s63_23, ec_s63_26, ec_s63_27, ec_s63_30, ec_s63_33, ec_s63_34, ec_zn0, ec_zn1, ec_zn2, ec_zn3, ec_zn4, ec_zn5, ec_zn6, ec_zn7, ec_zn8, ec_zn9, ec_zn10, ec_zn12, ec_zn13, ec_zn14, ec_zn15, ec_zn16, ec_zn20, ec_zn30, ec_zn48, ec_zn99, ec_zn120, ec_zn127, ec_zneg, ec_rn0, ec_rn1, ec_rn2, ec_rn3, ec_rn4, ec_rn5, ec_rn6, ec_rn7, ec_rn8, ec_rn9, ec_rn10, ec_rn12, ec_rn13, ec_rn14, ec_rn15, ec_rn16, ec_rn20, ec_rn30, ec_rn48, ec_rn99, ec_rn120, ec_rn127, ec_rnm, ec_zeq, ec_zlt, r1, a1, reduceIte, k1, c19, ec_aft_v, g2, ec_zadd, Int.reduceEq, e1]
theorem ec_c63 {h : ec_Hp} {B : Nat} {P : Int → Int → Int} {z : Int} (hD : ec_DN h B) (hP : ec_PB h B (ec_i 0) P) (hE : ec_ED P) (hz : 0 ≤ z ∧ z < 48) (hh : h.2.1 B 7 = ec_i z) :
    ec_om 63 0 [.ref B, .double 0, .double 0] [] h = some (.inl (some (.int (ec_i (ec_stn P 3 z)))), h) := by
  have k1 := hD.1.1
  have e1 := ec_c63L hD hP hE 3 0 z hz (by omega) (by omega)
  simp only [ec_s63_0, ec_s63_1, ec_s63_4, ec_s63_5, ec_s63_6, ec_s63_8, ec_s63_9, ec_s63_12, ec_s63_13, ec_s63_14, ec_s63_15, ec_s63_18, ec_s63_21, ec_s63_22, ec_s63_23, ec_s63_26, ec_s63_27, ec_s63_30, ec_s63_33, ec_s63_34, ec_zn0, ec_zn1, ec_zn2, ec_zn3, ec_zn4, ec_zn5, ec_zn6, ec_zn7, ec_zn8, ec_zn9, ec_zn10, ec_zn12, ec_zn13, ec_zn14, ec_zn15, ec_zn16, ec_zn20, ec_zn30, ec_zn48, ec_zn99, ec_zn120, ec_zn127, ec_zneg, ec_rn0, ec_rn1, ec_rn2, ec_rn3, ec_rn4, ec_rn5, ec_rn6, ec_rn7, ec_rn8, ec_rn9, ec_rn10, ec_rn12, ec_rn13, ec_rn14, ec_rn15, ec_rn16, ec_rn20, ec_rn30, ec_rn48, ec_rn99, ec_rn120, ec_rn127, ec_rnm, ec_zeq, ec_zlt, k1, hh, e1]
set_option maxHeartbeats 2000000 in
theorem ec_c62 {h : ec_Hp} {T B : Nat} {z d n : Int} {v : Int32} (hTk : ec_isK h T 5 = true) (hD : ec_DN h B) (hz : 0 ≤ z ∧ z < 48) (hd : 0 ≤ d ∧ d < 4) (hb : ec_bk (ec_bdr h B z d)) (hh : h.2.1 B 7 = ec_i z) (hn : ec_dn (ec_bdr h B z d) = n) (hn0 : 0 ≤ n) :
    ec_om 62 0 [.ref T, .ref B, .int (ec_i d), .int v, .double 0] [] h = some (.inl none, ec_setI (ec_setI (ec_td h B n v) T 1 (ec_i z)) T 2 (h.2.1 (B + 3) (n * (6 : Nat) + 2).toNat)) := by
  have c20 := ec_c20 hD hz hd hb
  have hq := ec_dn_bk hb
  rw [hn] at c20 hq
  have hn9 : n < 10 := by rcases hq with q | q <;> omega
  have k1 := hD.1.1
  have k2 := hD.1.2.2.1
  have hT := hD.2.2.1
  have k3 := hT.1.1
  have g0 := ec_c21 (v := v) hD (a := n) ⟨hn0, hn9⟩
  have hD1 : ec_DN (ec_td h B n v) B := (hD.V (by omega)).V (by omega)
  have g1 := ec_c48 hD1.2.2.1 (a := n) (b := 2) (by omega) (by omega) (by omega)
  have e1 : (ec_td h B n v).2.1 (B + 3) (n * (6 : Nat) + 2).toNat = h.2.1 (B + 3) (n * (6 : Nat) + 2).toNat := by
    unfold ec_td
    rw [ec_w_iI, if_neg (by omega), ec_w_iI, if_neg (by omega)]
  rw [e1] at g1
  have e2 : (ec_td h B n v).2.1 B 7 = ec_i z := by
    unfold ec_td
    rw [ec_w_iI, if_neg (by omega), ec_w_iI, if_neg (by omega), hh]
  have j1 : ec_isK (ec_td h B n v) T 5 = true := hTk
  have j2 : ec_isK (ec_td h B n v) B 1 = true := k1
  have j3 : (ec_shp (ec_td h B n v) B).2.2 1 = .ref (B + 2) := k2
  have j4 : ec_isK (ec_td h B n v) (B + 2) 4 = true := k3
  have g2 := ec_c61 (x := ec_i z) (y := h.2.1 (B + 3) (n * (6 : Nat) + 2).toNat) j1
  simp only [ec_s62_0, ec_s62_1, ec_s62_2, ec_s62_5, ec_s62_6, ec_s62_9, ec_s62_11, ec_s62_12, ec_s62_14, ec_s62_15, ec_s62_18, ec_s62_19, ec_s62_20, ec_s62_23, ec_s62_24, ec_s62_27, ec_s62_29, ec_s62_30, ec_s62_33, ec_s62_36, ec_zn0, ec_zn1, ec_zn2, ec_zn3, ec_zn4, ec_zn5, ec_zn6, ec_zn7, ec_zn8, ec_zn9, ec_zn10, ec_zn12, ec_zn13, ec_zn14, ec_zn15, ec_zn16, ec_zn20, ec_zn30, ec_zn48, ec_zn99, ec_zn120, ec_zn127, ec_zneg, ec_rn0, ec_rn1, ec_rn2, ec_rn3, ec_rn4, ec_rn5, ec_rn6, ec_rn7, ec_rn8, ec_rn9, ec_rn10, ec_rn12, ec_rn13, ec_rn14, ec_rn15, ec_rn16, ec_rn20, ec_rn30, ec_rn48, ec_rn99, ec_rn120, ec_rn127, ec_rnm, ec_zeq, ec_zlt, hTk, k1, hh, c20, g0, g1, g2, e2, j1, j2, j3, j4, ec_isR_r, ec_aft_v, ec_aft_n]
