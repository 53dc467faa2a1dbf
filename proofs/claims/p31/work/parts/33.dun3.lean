/-! Contracts: passing, turning, goals. -/
theorem ec_DN.V {h : ec_Hp} {B p k : Nat} {x : Int32} (hD : ec_DN h B) (hp : p = B + 1 ∨ p = B + 3 ∨ p = B + 5 ∨ p = B + 7 ∨ p = B + 9) : ec_DN (ec_setI h p k x) B := hD.I (fun z => absurd z (by omega))
theorem ec_DN.O {h : ec_Hp} {B k : Nat} {x : Int32} (hD : ec_DN h B) : ec_DN (ec_setI h B k x) B := hD.I (fun z => absurd z (by omega))
theorem ec_01z : ec_01 (ec_i 0) = true := by decide
theorem ec_01o : ec_01 (ec_i 1) = true := by decide
/-- whether feet come over a border -/
def ec_cp (h : ec_Hp) (B : Nat) (z d : Int) : Bool := !decide (ec_pr (ec_bdr h B z d) (ec_ds h B (ec_bdr h B z d)) (ec_i 0) = ec_i 0)
theorem ec_c19 {h : ec_Hp} {B : Nat} {z d : Int} (hD : ec_DN h B) (hz : 0 ≤ z ∧ z < 48) (hd : 0 ≤ d ∧ d < 4) (hb : ec_bk (ec_bdr h B z d)) : ec_om 19 0 [.ref B, .int (ec_i z), .int (ec_i d)] [] h = some (.inl (some (.int (if ec_cp h B z d then ec_i 1 else ec_i 0))), h) := by
  have g := ec_c18 (m := ec_i 0) hD hz hd hb
  have k1 := hD.1.1
  by_cases hp : ec_pr (ec_bdr h B z d) (ec_ds h B (ec_bdr h B z d)) (ec_i 0) = ec_i 0
  · have e : ec_cp h B z d = false := by simp [ec_cp, hp]
    simp only [ec_s19_0, ec_s19_1, ec_s19_2, ec_s19_3, ec_s19_4, ec_s19_7, ec_s19_10, ec_s19_11, ec_s19_14, ec_s19_15, ec_zn0, ec_zn1, ec_zn2, ec_zn3, ec_zn4, ec_zn5, ec_zn6, ec_zn7, ec_zn8, ec_zn9, ec_zn10, ec_zn12, ec_zn13, ec_zn14, ec_zn15, ec_zn16, ec_zn20, ec_zn30, ec_zn48, ec_zn99, ec_zn120, ec_zn127, ec_zneg, ec_rn0, ec_rn1, ec_rn2, ec_rn3, ec_rn4, ec_rn5, ec_rn6, ec_rn7, ec_rn8, ec_rn9, ec_rn10, ec_rn12, ec_rn13, ec_rn14, ec_rn15, ec_rn16, ec_rn20, ec_rn30, ec_rn48, ec_rn99, ec_rn120, ec_rn127, ec_rnm, ec_zeq, ec_zlt, k1, g, ec_aft_v, hp, e, reduceIte, ec_01z, Bool.false_eq_true]
  · have e : ec_cp h B z d = true := by simp [ec_cp, hp]
    simp only [ec_s19_0, ec_s19_1, ec_s19_2, ec_s19_3, ec_s19_4, ec_s19_7, ec_s19_10, ec_s19_11, ec_s19_14, ec_s19_15, ec_zn0, ec_zn1, ec_zn2, ec_zn3, ec_zn4, ec_zn5, ec_zn6, ec_zn7, ec_zn8, ec_zn9, ec_zn10, ec_zn12, ec_zn13, ec_zn14, ec_zn15, ec_zn16, ec_zn20, ec_zn30, ec_zn48, ec_zn99, ec_zn120, ec_zn127, ec_zneg, ec_rn0, ec_rn1, ec_rn2, ec_rn3, ec_rn4, ec_rn5, ec_rn6, ec_rn7, ec_rn8, ec_rn9, ec_rn10, ec_rn12, ec_rn13, ec_rn14, ec_rn15, ec_rn16, ec_rn20, ec_rn30, ec_rn48, ec_rn99, ec_rn120, ec_rn127, ec_rnm, ec_zeq, ec_zlt, k1, g, ec_aft_v, hp, e, reduceIte, ec_01o]
/-- a border's door -/
def ec_dn (x : Int32) : Int := if x.toInt < 2 then -1 else x.toInt - 2
theorem ec_dn_bk {x : Int32} (h : ec_bk x) : (ec_dn x = -1 ∧ x.toInt < 2) ∨ (0 ≤ ec_dn x ∧ ec_dn x < 10 ∧ x = ec_i (ec_dn x + 2)) := by
  unfold ec_dn
  rcases h with rfl | rfl | rfl | ⟨n, hn, rfl⟩
  · exact Or.inl ⟨by rw [ec_zT ec_rnm]; rfl, by rw [ec_zT ec_rnm]; decide⟩
  · exact Or.inl ⟨by rw [ec_zT ec_rn0]; rfl, by rw [ec_zT ec_rn0]; decide⟩
  · exact Or.inl ⟨by rw [ec_zT ec_rn1]; rfl, by rw [ec_zT ec_rn1]; decide⟩
  · refine Or.inr ?_
    rw [ec_zT (ec_rgs (by omega)), if_neg (by omega)]
    have e : n + 2 - 2 = n := by omega
    rw [e]
    exact ⟨hn.1, hn.2, rfl⟩
theorem ec_zlt2 {x : Int32} {b : Int} (hb : ec_rg b) : (x < ec_i b) = (x.toInt < b) := by
  rw [Int32.lt_iff_toInt_lt, ec_zT hb]
theorem ec_c20 {h : ec_Hp} {B : Nat} {z d : Int} (hD : ec_DN h B) (hz : 0 ≤ z ∧ z < 48) (hd : 0 ≤ d ∧ d < 4) (hb : ec_bk (ec_bdr h B z d)) : ec_om 20 0 [.ref B, .int (ec_i z), .int (ec_i d), .double 0] [] h = some (.inl (some (.int (ec_i (ec_dn (ec_bdr h B z d))))), h) := by
  have c15 := ec_c15 hD hz hd
  have e0 : h.2.1 (B + 1) (z * 4 + d).toNat = ec_bdr h B z d := rfl
  rw [e0] at c15
  have k1 := hD.1.1
  generalize ec_bdr h B z d = bd at hb c15 ⊢
  rcases ec_dn_bk hb with ⟨e1, e2⟩ | ⟨e1, e2, e3⟩
  · simp only [ec_s20_0, ec_s20_1, ec_s20_2, ec_s20_3, ec_s20_6, ec_s20_7, ec_s20_8, ec_s20_9, ec_s20_12, ec_s20_13, ec_s20_14, ec_s20_15, ec_s20_18, ec_s20_19, ec_zn0, ec_zn1, ec_zn2, ec_zn3, ec_zn4, ec_zn5, ec_zn6, ec_zn7, ec_zn8, ec_zn9, ec_zn10, ec_zn12, ec_zn13, ec_zn14, ec_zn15, ec_zn16, ec_zn20, ec_zn30, ec_zn48, ec_zn99, ec_zn120, ec_zn127, ec_zneg, ec_rn0, ec_rn1, ec_rn2, ec_rn3, ec_rn4, ec_rn5, ec_rn6, ec_rn7, ec_rn8, ec_rn9, ec_rn10, ec_rn12, ec_rn13, ec_rn14, ec_rn15, ec_rn16, ec_rn20, ec_rn30, ec_rn48, ec_rn99, ec_rn120, ec_rn127, ec_rnm, ec_zeq, ec_zlt, k1, c15, ec_aft_v, ec_zlt2, e1, e2, reduceIte]
  · have e4 : ¬ bd.toInt < 2 := by
      rw [e3, ec_zT (ec_rgs (by omega))]
      omega
    have e5 : bd - ec_i 2 = ec_i (ec_dn bd) := by
      rw [show bd - ec_i 2 = ec_i (ec_dn bd + 2) - ec_i 2 by rw [← e3], ec_zsub]
      congr 1
      omega
    simp only [ec_s20_0, ec_s20_1, ec_s20_2, ec_s20_3, ec_s20_6, ec_s20_7, ec_s20_8, ec_s20_9, ec_s20_12, ec_s20_13, ec_s20_14, ec_s20_15, ec_s20_18, ec_s20_19, ec_zn0, ec_zn1, ec_zn2, ec_zn3, ec_zn4, ec_zn5, ec_zn6, ec_zn7, ec_zn8, ec_zn9, ec_zn10, ec_zn12, ec_zn13, ec_zn14, ec_zn15, ec_zn16, ec_zn20, ec_zn30, ec_zn48, ec_zn99, ec_zn120, ec_zn127, ec_zneg, ec_rn0, ec_rn1, ec_rn2, ec_rn3, ec_rn4, ec_rn5, ec_rn6, ec_rn7, ec_rn8, ec_rn9, ec_rn10, ec_rn12, ec_rn13, ec_rn14, ec_rn15, ec_rn16, ec_rn20, ec_rn30, ec_rn48, ec_rn99, ec_rn120, ec_rn127, ec_rnm, ec_zeq, ec_zlt, k1, c15, ec_aft_v, ec_zlt2, e4, e5, reduceIte]
/-- a door is turned -/
def ec_td (h : ec_Hp) (B : Nat) (a : Int) (v : Int32) : ec_Hp := ec_setI (ec_setI h (B + 3) (a * (6 : Nat) + 0).toNat v) (B + 3) (a * (6 : Nat) + 5).toNat (if v = ec_i 1 then h.2.1 (B + 3) (a * (6 : Nat) + 1).toNat else ec_i 0)
theorem ec_c21 {h : ec_Hp} {B : Nat} {a : Int} {v : Int32} (hD : ec_DN h B) (ha : 0 ≤ a ∧ a < 10) : ec_om 21 0 [.ref B, .int (ec_i a), .int v] [] h = some (.inl none, ec_td h B a v) := by
  have hT := hD.2.2.1
  have g0 := ec_c49 (v := v) hT (a := a) (b := 0) (by omega) (by omega) (by omega)
  have hT1 := hT.V (k := (a * (6 : Nat) + 0).toNat) (x := v)
  have g1 := ec_c48 hT1 (a := a) (b := 1) (by omega) (by omega) (by omega)
  have e1 : (ec_setI h (B + 3) (a * (6 : Nat) + 0).toNat v).2.1 (B + 3) (a * (6 : Nat) + 1).toNat = h.2.1 (B + 3) (a * (6 : Nat) + 1).toNat := by
    rw [ec_w_iI, if_neg (by omega)]
  rw [e1] at g1
  have g2 := fun y => ec_c49 (v := y) hT1 (a := a) (b := 5) (by omega) (by omega) (by omega)
  have k1 := hD.1.1
  have k2 := hD.1.2.2.1
  have k3 := hT.1.1
  by_cases hv : v = ec_i 1
  · simp only [ec_s21_0, ec_s21_1, ec_s21_4, ec_s21_5, ec_s21_6, ec_s21_7, ec_s21_10, ec_s21_11, ec_s21_14, ec_s21_15, ec_s21_16, ec_s21_17, ec_s21_18, ec_s21_21, ec_s21_22, ec_s21_25, ec_s21_26, ec_s21_27, ec_s21_30, ec_s21_33, ec_s21_34, ec_s21_37, ec_zn0, ec_zn1, ec_zn2, ec_zn3, ec_zn4, ec_zn5, ec_zn6, ec_zn7, ec_zn8, ec_zn9, ec_zn10, ec_zn12, ec_zn13, ec_zn14, ec_zn15, ec_zn16, ec_zn20, ec_zn30, ec_zn48, ec_zn99, ec_zn120, ec_zn127, ec_zneg, ec_rn0, ec_rn1, ec_rn2, ec_rn3, ec_rn4, ec_rn5, ec_rn6, ec_rn7, ec_rn8, ec_rn9, ec_rn10, ec_rn12, ec_rn13, ec_rn14, ec_rn15, ec_rn16, ec_rn20, ec_rn30, ec_rn48, ec_rn99, ec_rn120, ec_rn127, ec_rnm, ec_zeq, ec_zlt, k1, k2, k3, ec_w_kI, ec_w_shpI, ec_isR_r, g0, g1, g2, ec_aft_v, ec_aft_n, hv, reduceIte, ec_td]
    subst hv
    simp only [ec_s21_0, ec_s21_1, ec_s21_4, ec_s21_5, ec_s21_6, ec_s21_7, ec_s21_10, ec_s21_11, ec_s21_14, ec_s21_15, ec_s21_16, ec_s21_17, ec_s21_18, ec_s21_21, ec_s21_22, ec_s21_25, ec_s21_26, ec_s21_27, ec_s21_30, ec_s21_33, ec_s21_34, ec_s21_37, ec_zn0, ec_zn1, ec_zn2, ec_zn3, ec_zn4, ec_zn5, ec_zn6, ec_zn7, ec_zn8, ec_zn9, ec_zn10, ec_zn12, ec_zn13, ec_zn14, ec_zn15, ec_zn16, ec_zn20, ec_zn30, ec_zn48, ec_zn99, ec_zn120, ec_zn127, ec_zneg, ec_rn0, ec_rn1, ec_rn2, ec_rn3, ec_rn4, ec_rn5, ec_rn6, ec_rn7, ec_rn8, ec_rn9, ec_rn10, ec_rn12, ec_rn13, ec_rn14, ec_rn15, ec_rn16, ec_rn20, ec_rn30, ec_rn48, ec_rn99, ec_rn120, ec_rn127, ec_rnm, ec_zeq, ec_zlt, k1, k2, k3, ec_w_kI, ec_w_shpI, ec_isR_r, g0, g1, g2, ec_aft_v, ec_aft_n, reduceIte, ec_td]
  · simp only [ec_s21_0, ec_s21_1, ec_s21_4, ec_s21_5, ec_s21_6, ec_s21_7, ec_s21_10, ec_s21_11, ec_s21_14, ec_s21_15, ec_s21_16, ec_s21_17, ec_s21_18, ec_s21_21, ec_s21_22, ec_s21_25, ec_s21_26, ec_s21_27, ec_s21_30, ec_s21_33, ec_s21_34, ec_s21_37, ec_zn0, ec_zn1, ec_zn2, ec_zn3, ec_zn4, ec_zn5, ec_zn6, ec_zn7, ec_zn8, ec_zn9, ec_zn10, ec_zn12, ec_zn13, ec_zn14, ec_zn15, ec_zn16, ec_zn20, ec_zn30, ec_zn48, ec_zn99, ec_zn120, ec_zn127, ec_zneg, ec_rn0, ec_rn1, ec_rn2, ec_rn3, ec_rn4, ec_rn5, ec_rn6, ec_rn7, ec_rn8, ec_rn9, ec_rn10, ec_rn12, ec_rn13, ec_rn14, ec_rn15, ec_rn16, ec_rn20, ec_rn30, ec_rn48, ec_rn99, ec_rn120, ec_rn127, ec_rnm, ec_zeq, ec_zlt, k1, k2, k3, ec_w_kI, ec_w_shpI, ec_isR_r, g0, g1, g2, ec_aft_v, ec_aft_n, hv, reduceIte, ec_td]
