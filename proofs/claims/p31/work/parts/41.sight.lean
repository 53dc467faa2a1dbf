/-! Contracts: a clear line, how loud a sound must be, the hero's light. -/
/-- no border with a price lies at the edge -/
def ec_ED (P : Int → Int → Int) : Prop := ∀ z d : Int, 0 ≤ z ∧ z < 48 → 0 ≤ d ∧ d < 4 → ¬ P z d = 0 → 0 ≤ ec_nb z d ∧ ec_nb z d < 48
theorem ec_c19P {h : ec_Hp} {B : Nat} {P : Int → Int → Int} {z d : Int} (hD : ec_DN h B) (hP : ec_PB h B (ec_i 0) P) (hz : 0 ≤ z ∧ z < 48) (hd : 0 ≤ d ∧ d < 4) : ec_om 19 0 [.ref B, .int (ec_i z), .int (ec_i d)] [] h = some (.inl (some (.int (if P z d = 0 then ec_i 0 else ec_i 1))), h) := by
  obtain ⟨b1, b2, b3⟩ := hP z d hz hd
  rw [ec_c19 hD hz hd b1]
  have e : (ec_i (P z d) = ec_i 0) = (P z d = 0) := ec_zeq (ec_rgs (by omega)) ec_rn0
  by_cases hp : P z d = 0
  · rw [if_pos hp]
    have e2 : ec_cp h B z d = false := by
      unfold ec_cp
      rw [b2, hp]
      rfl
    rw [e2]
    rfl
  · rw [if_neg hp]
    have e2 : ec_cp h B z d = true := by
      unfold ec_cp
      rw [b2, decide_eq_false (fun q => hp (e ▸ q))]
      rfl
    rw [e2]
    rfl
def ec_cln (P : Int → Int → Int) (g d : Int) : Nat → Int → Bool
  | 0, _ => false
  | n + 1, z => if z = g then true else if d = -1 ∨ P z d = 0 then false else ec_cln P g d n (ec_nb z d)
set_option maxHeartbeats 2000000 in
theorem ec_c39L {h : ec_Hp} {p B : Nat} {P : Int → Int → Int} {g d : Int} {mo : Int32} (hg : 0 ≤ g ∧ g < 48) (hh : h.2.1 B 7 = ec_i g) (hd : d = -1 ∨ 0 ≤ d ∧ d < 4) (hD : ec_DN h B) (hP : ec_PB h B (ec_i 0) P) (hE : ec_ED P) : ∀ (n : Nat) (i z : Int), 0 ≤ z ∧ z < 48 → 0 ≤ i → i + n = 9 →
    ec_om 39 22 [.ref p, .ref B, .int mo, .int (ec_i z), .int (ec_i d), .int (ec_i i)] [] h = some (.inl (some (.int (if ec_cln P g d n z = true then ec_i 1 else ec_i 0))), h) := by
  intro n
  have k1 := hD.1.1
  have rd : ec_rg d := ec_rgs (by omega)
  have rg : ec_rg g := ec_rgs (by omega)
  induction n with
  | zero =>
    intro i z hz h0 hi
    have r1 : ec_rg i := ec_rgs (by omega)
    have a1 : (8 : Int) < i := by omega
    simp only [ec_s39_0, ec_s39_1, ec_s39_4, ec_s39_5, ec_s39_8, ec_s39_9, ec_s39_10, ec_s39_11, ec_s39_14, ec_s39_17, ec_s39_19, ec_s39_20, ec_s39_22, ec_s39_24, ec_s39_26, ec_s39_29, ec_s39_30, ec_s39_31, ec_s39_34, ec_s39_37, ec_s39_38, ec_s39_39, ec_s39_41, ec_s39_42, ec_s39_45, ec_s39_46, ec_s39_47, ec_s39_49, ec_s39_52, ec_s39_55, ec_s39_56, ec_s39_57, ec_s39_58, ec_s39_60, ec_s39_63, ec_s39_64, ec_s39_67, ec_s39_70, ec_s39_71, ec_zn0, ec_zn1, ec_zn2, ec_zn3, ec_zn4, ec_zn5, ec_zn6, ec_zn7, ec_zn8, ec_zn9, ec_zn10, ec_zn12, ec_zn13, ec_zn14, ec_zn15, ec_zn16, ec_zn20, ec_zn30, ec_zn48, ec_zn99, ec_zn120, ec_zn127, ec_zneg, ec_rn0, ec_rn1, ec_rn2, ec_rn3, ec_rn4, ec_rn5, ec_rn6, ec_rn7, ec_rn8, ec_rn9, ec_rn10, ec_rn12, ec_rn13, ec_rn14, ec_rn15, ec_rn16, ec_rn20, ec_rn30, ec_rn48, ec_rn99, ec_rn120, ec_rn127, ec_rnm, ec_zeq, ec_zlt, r1, a1, reduceIte, ec_cln, ec_01z, Bool.false_eq_true]
  | succ n ih =>
    intro i z hz h0 hi
    have r1 : ec_rg i := ec_rgs (by omega)
    have rz : ec_rg z := ec_rgs (by omega)
    have a1 : ((8 : Int) < i) = False := eq_false (by omega)
    rw [show ec_cln P g d (n + 1) z = if z = g then true else if d = -1 ∨ P z d = 0 then false else ec_cln P g d n (ec_nb z d) from rfl]
    rw [ec_s39_22]
    by_cases h1 : z = g
    · rw [if_pos h1, if_pos rfl]
      subst h1
      simp only [ec_s39_0, ec_s39_1, ec_s39_4, ec_s39_5, ec_s39_8, ec_s39_9, ec_s39_10, ec_s39_11, ec_s39_14, ec_s39_17, ec_s39_19, ec_s39_20, ec_s39_24, ec_s39_26, ec_s39_29, ec_s39_30, ec_s39_31, ec_s39_34, ec_s39_37, ec_s39_38, ec_s39_39, ec_s39_41, ec_s39_42, ec_s39_45, ec_s39_46, ec_s39_47, ec_s39_49, ec_s39_52, ec_s39_55, ec_s39_56, ec_s39_57, ec_s39_58, ec_s39_60, ec_s39_63, ec_s39_64, ec_s39_67, ec_s39_70, ec_s39_71, ec_zn0, ec_zn1, ec_zn2, ec_zn3, ec_zn4, ec_zn5, ec_zn6, ec_zn7, ec_zn8, ec_zn9, ec_zn10, ec_zn12, ec_zn13, ec_zn14, ec_zn15, ec_zn16, ec_zn20, ec_zn30, ec_zn48, ec_zn99, ec_zn120, ec_zn127, ec_zneg, ec_rn0, ec_rn1, ec_rn2, ec_rn3, ec_rn4, ec_rn5, ec_rn6, ec_rn7, ec_rn8, ec_rn9, ec_rn10, ec_rn12, ec_rn13, ec_rn14, ec_rn15, ec_rn16, ec_rn20, ec_rn30, ec_rn48, ec_rn99, ec_rn120, ec_rn127, ec_rnm, ec_zeq, ec_zlt, r1, a1, reduceIte, k1, hh, ec_01o]
    · rw [if_neg h1]
      rcases hd with rfl | hd
      · rw [if_pos (Or.inl rfl), if_neg (by decide)]
        simp only [ec_s39_0, ec_s39_1, ec_s39_4, ec_s39_5, ec_s39_8, ec_s39_9, ec_s39_10, ec_s39_11, ec_s39_14, ec_s39_17, ec_s39_19, ec_s39_20, ec_s39_24, ec_s39_26, ec_s39_29, ec_s39_30, ec_s39_31, ec_s39_34, ec_s39_37, ec_s39_38, ec_s39_39, ec_s39_41, ec_s39_42, ec_s39_45, ec_s39_46, ec_s39_47, ec_s39_49, ec_s39_52, ec_s39_55, ec_s39_56, ec_s39_57, ec_s39_58, ec_s39_60, ec_s39_63, ec_s39_64, ec_s39_67, ec_s39_70, ec_s39_71, ec_zn0, ec_zn1, ec_zn2, ec_zn3, ec_zn4, ec_zn5, ec_zn6, ec_zn7, ec_zn8, ec_zn9, ec_zn10, ec_zn12, ec_zn13, ec_zn14, ec_zn15, ec_zn16, ec_zn20, ec_zn30, ec_zn48, ec_zn99, ec_zn120, ec_zn127, ec_zneg, ec_rn0, ec_rn1, ec_rn2, ec_rn3, ec_rn4, ec_rn5, ec_rn6, ec_rn7, ec_rn8, ec_rn9, ec_rn10, ec_rn12, ec_rn13, ec_rn14, ec_rn15, ec_rn16, ec_rn20, ec_rn30, ec_rn48, ec_rn99, ec_rn120, ec_rn127, ec_rnm, ec_zeq, ec_zlt, r1, a1, reduceIte, k1, hh, rz, rg, h1, ec_01z]
      · have hdn : ¬ d = -1 := by omega
        have c19 := ec_c19P hD hP hz hd
        have hEz := hE z d hz hd
        by_cases h2 : P z d = 0
        · rw [if_pos (Or.inr h2), if_neg (by decide)]
          rw [if_pos h2] at c19
          simp only [ec_s39_0, ec_s39_1, ec_s39_4, ec_s39_5, ec_s39_8, ec_s39_9, ec_s39_10, ec_s39_11, ec_s39_14, ec_s39_17, ec_s39_19, ec_s39_20, ec_s39_24, ec_s39_26, ec_s39_29, ec_s39_30, ec_s39_31, ec_s39_34, ec_s39_37, ec_s39_38, ec_s39_39, ec_s39_41, ec_s39_42, ec_s39_45, ec_s39_46, ec_s39_47, ec_s39_49, ec_s39_52, ec_s39_55, ec_s39_56, ec_s39_57, ec_s39_58, ec_s39_60, ec_s39_63, ec_s39_64, ec_s39_67, ec_s39_70, ec_s39_71, ec_zn0, ec_zn1, ec_zn2, ec_zn3, ec_zn4, ec_zn5, ec_zn6, ec_zn7, ec_zn8, ec_zn9, ec_zn10, ec_zn12, ec_zn13, ec_zn14, ec_zn15, ec_zn16, ec_zn20, ec_zn30, ec_zn48, ec_zn99, ec_zn120, ec_zn127, ec_zneg, ec_rn0, ec_rn1, ec_rn2, ec_rn3, ec_rn4, ec_rn5, ec_rn6, ec_rn7, ec_rn8, ec_rn9, ec_rn10, ec_rn12, ec_rn13, ec_rn14, ec_rn15, ec_rn16, ec_rn20, ec_rn30, ec_rn48, ec_rn99, ec_rn120, ec_rn127, ec_rnm, ec_zeq, ec_zlt, r1, a1, reduceIte, k1, hh, rz, rg, rd, h1, hdn, c19, ec_aft_v, ec_01z]
        · rw [if_neg (show ¬ (d = -1 ∨ P z d = 0) from fun q => Or.elim q hdn h2)]
          rw [if_neg h2] at c19
          have g2 := fun h => ec_c115 (h := h) (z := z) hd
          have e1 := ih (i + 1) (ec_nb z d) (hEz h2) (by omega) (by omega)
          simp only [ec_s39_0, ec_s39_1, ec_s39_4, ec_s39_5, ec_s39_8, ec_s39_9, ec_s39_10, ec_s39_11, ec_s39_14, ec_s39_17, ec_s39_19, ec_s39_20, ec_s39_24, ec_s39_26, ec_s39_29, ec_s39_30, ec_s39_31, ec_s39_34, ec_s39_37, ec_s39_38, ec_s39_39, ec_s39_41, ec_s39_42, ec_s39_45, ec_s39_46, ec_s39_47, ec_s39_49, ec_s39_52, ec_s39_55, ec_s39_56, ec_s39_57, ec_s39_58, ec_s39_60, ec_s39_63, ec_s39_64, ec_s39_67, ec_s39_70, ec_s39_71, ec_zn0, ec_zn1, ec_zn2, ec_zn3, ec_zn4, ec_zn5, ec_zn6, ec_zn7, ec_zn8, ec_zn9, ec_zn10, ec_zn12, ec_zn13, ec_zn14, ec_zn15, ec_zn16, ec_zn20, ec_zn30, ec_zn48, ec_zn99, ec_zn120, ec_zn127, ec_zneg, ec_rn0, ec_rn1, ec_rn2, ec_rn3, ec_rn4, ec_rn5, ec_rn6, ec_rn7, ec_rn8, ec_rn9, ec_rn10, ec_rn12, ec_rn13, ec_rn14, ec_rn15, ec_rn16, ec_rn20, ec_rn30, ec_rn48, ec_rn99, ec_rn120, ec_rn127, ec_rnm, ec_zeq, ec_zlt, r1, a1, reduceIte, k1, hh, rz, rg, rd, h1, hdn, c19, g2, ec_aft_v, ec_zadd, Int.reduceEq, e1]
/-- a monster's cell -/
theorem ec_c39 {h : ec_Hp} {p B : Nat} {P : Int → Int → Int} {g a z : Int} (hg : 0 ≤ g ∧ g < 48) (hh : h.2.1 B 7 = ec_i g) (hD : ec_DN h B) (hP : ec_PB h B (ec_i 0) P) (hE : ec_ED P) (ha : 0 ≤ a ∧ a < 6) (hz : 0 ≤ z ∧ z < 48) (hpl : ec_pl h (B + 7) 8 a = ec_i z) :
    ec_om 39 0 [.ref p, .ref B, .int (ec_i a), .double 0, .double 0, .double 0] [] h = some (.inl (some (.int (if ec_cln P g (ec_sd z g) 9 z = true then ec_i 1 else ec_i 0))), h) := by
  have hT := hD.2.2.2.2.1
  have k1 := hD.1.1
  have k2 := hD.1.2.2.2.2.1
  have k3 := hT.1.1
  have g0 := ec_c51 hT (a := a) (by omega) (by omega) (by omega)
  rw [hpl] at g0
  have g1 := fun h => ec_c40 (h := h) hz hg
  have hsd : ec_sd z g = -1 ∨ 0 ≤ ec_sd z g ∧ ec_sd z g < 4 := by
    unfold ec_sd
    split <;> split <;> first | omega | (split <;> omega)
  have e1 := ec_c39L (p := p) (mo := ec_i a) hg hh hsd hD hP hE 9 0 z hz (by omega) (by omega)
  simp only [ec_s39_0, ec_s39_1, ec_s39_4, ec_s39_5, ec_s39_8, ec_s39_9, ec_s39_10, ec_s39_11, ec_s39_14, ec_s39_17, ec_s39_19, ec_s39_20, ec_s39_24, ec_s39_26, ec_s39_29, ec_s39_30, ec_s39_31, ec_s39_34, ec_s39_37, ec_s39_38, ec_s39_39, ec_s39_41, ec_s39_42, ec_s39_45, ec_s39_46, ec_s39_47, ec_s39_49, ec_s39_52, ec_s39_55, ec_s39_56, ec_s39_57, ec_s39_58, ec_s39_60, ec_s39_63, ec_s39_64, ec_s39_67, ec_s39_70, ec_s39_71, ec_zn0, ec_zn1, ec_zn2, ec_zn3, ec_zn4, ec_zn5, ec_zn6, ec_zn7, ec_zn8, ec_zn9, ec_zn10, ec_zn12, ec_zn13, ec_zn14, ec_zn15, ec_zn16, ec_zn20, ec_zn30, ec_zn48, ec_zn99, ec_zn120, ec_zn127, ec_zneg, ec_rn0, ec_rn1, ec_rn2, ec_rn3, ec_rn4, ec_rn5, ec_rn6, ec_rn7, ec_rn8, ec_rn9, ec_rn10, ec_rn12, ec_rn13, ec_rn14, ec_rn15, ec_rn16, ec_rn20, ec_rn30, ec_rn48, ec_rn99, ec_rn120, ec_rn127, ec_rnm, ec_zeq, ec_zlt, k1, k2, k3, ec_isR_r, g0, g1, hh, ec_aft_v, e1]
theorem ec_c37 {h : ec_Hp} {p B : Nat} {a z t : Int} {c : Nat → Int} {nw : Nat → Bool} (hD : ec_DN h B) (hS : ec_SN h p) (hs : ec_SS h p c nw t) (ha : 0 ≤ a ∧ a < 6) (hz : 0 ≤ z ∧ z < 48) (hpl : ec_pl h (B + 7) 8 a = ec_i z) :
    ec_om 37 0 [.ref p, .ref B, .int (ec_i a)] [] h = some (.inl (some (.int (ec_i (ec_ct c z) + ec_mv h B a 2))), h) := by
  have hT := hD.2.2.2.2.1
  have k0 := hS.1.1
  have k1 := hD.1.1
  have k2 := hD.1.2.2.2.2.1
  have k3 := hT.1.1
  have g0 := ec_c51 hT (a := a) (by omega) (by omega) (by omega)
  rw [hpl] at g0
  have g1 := ec_c36 (z := z) hS hs (ec_rgs (by omega))
  have g2 := ec_c48 hT (a := a) (b := 2) (by omega) (by omega) (by omega)
  rw [show h.2.1 (B + 7) (a * (8 : Nat) + 2).toNat = ec_mv h B a 2 from rfl] at g2
  simp only [ec_s37_0, ec_s37_1, ec_s37_2, ec_s37_5, ec_s37_6, ec_s37_9, ec_s37_12, ec_s37_13, ec_s37_16, ec_s37_17, ec_s37_18, ec_s37_21, ec_s37_22, ec_zn0, ec_zn1, ec_zn2, ec_zn3, ec_zn4, ec_zn5, ec_zn6, ec_zn7, ec_zn8, ec_zn9, ec_zn10, ec_zn12, ec_zn13, ec_zn14, ec_zn15, ec_zn16, ec_zn20, ec_zn30, ec_zn48, ec_zn99, ec_zn120, ec_zn127, ec_zneg, ec_rn0, ec_rn1, ec_rn2, ec_rn3, ec_rn4, ec_rn5, ec_rn6, ec_rn7, ec_rn8, ec_rn9, ec_rn10, ec_rn12, ec_rn13, ec_rn14, ec_rn15, ec_rn16, ec_rn20, ec_rn30, ec_rn48, ec_rn99, ec_rn120, ec_rn127, ec_rnm, ec_zeq, ec_zlt, k0, k1, k2, k3, ec_isR_r, g0, g1, g2, ec_aft_v]
