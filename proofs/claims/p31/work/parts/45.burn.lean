/-! Contracts: torches burn, springs work. -/
def ec_burn1 (B : Nat) (a : Int) (h : ec_Hp) : ec_Hp := ec_setI (ec_rais h (B + 5) 4 a 2 (ec_i (-1))) (B + 5) (a * (4 : Nat) + 3).toNat (if ec_i 0 < (ec_rais h (B + 5) 4 a 2 (ec_i (-1))).2.1 (B + 5) (a * (4 : Nat) + 2).toNat then ec_i 1 else ec_i 0)
def ec_burn (B : Nat) : Nat → Int → ec_Hp → ec_Hp
  | 0, _, h => h
  | n + 1, a, h => ec_burn B n (a + 1) (if h.2.1 (B + 5) (a * (4 : Nat) + 3).toNat = ec_i 1 then ec_burn1 B a h else h)
set_option maxHeartbeats 2000000 in
theorem ec_c65L {B : Nat} {N : Int} (hN : 0 ≤ N ∧ N ≤ 6) : ∀ (n : Nat) (a : Int) (h : ec_Hp), ec_DN h B → h.2.1 (B + 4) 3 = ec_i N → 0 ≤ a → a + n = N →
    ec_om 65 35 [.ref B, .int (ec_i a)] [] h = some (.inl none, ec_burn B n a h) := by
  intro n
  induction n with
  | zero =>
    intro a h hD hn h0 ha
    have ha : a = N := by omega
    subst ha
    have r1 : ec_rg a := ec_rgs (by omega)
    have k1 := hD.1.1
    have k2 := hD.1.2.2.2.1
    have k3 := hD.2.2.2.1.1.1
    simp only [ec_s65_0, ec_s65_1, ec_s65_4, ec_s65_7, ec_s65_8, ec_s65_9, ec_s65_12, ec_s65_13, ec_s65_14, ec_s65_17, ec_s65_18, ec_s65_19, ec_s65_22, ec_s65_25, ec_s65_26, ec_s65_29, ec_s65_30, ec_s65_33, ec_s65_34, ec_s65_35, ec_s65_36, ec_s65_37, ec_s65_40, ec_s65_43, ec_s65_46, ec_s65_47, ec_s65_50, ec_s65_51, ec_s65_52, ec_s65_55, ec_s65_56, ec_s65_59, ec_s65_60, ec_s65_63, ec_s65_64, ec_s65_65, ec_s65_66, ec_s65_69, ec_s65_70, ec_s65_73, ec_s65_74, ec_s65_75, ec_s65_76, ec_s65_79, ec_s65_80, ec_s65_81, ec_s65_84, ec_s65_87, ec_s65_88, ec_s65_91, ec_s65_92, ec_s65_95, ec_s65_98, ec_s65_101, ec_zn0, ec_zn1, ec_zn2, ec_zn3, ec_zn4, ec_zn5, ec_zn6, ec_zn7, ec_zn8, ec_zn9, ec_zn10, ec_zn12, ec_zn13, ec_zn14, ec_zn15, ec_zn16, ec_zn20, ec_zn30, ec_zn48, ec_zn99, ec_zn120, ec_zn127, ec_zneg, ec_rn0, ec_rn1, ec_rn2, ec_rn3, ec_rn4, ec_rn5, ec_rn6, ec_rn7, ec_rn8, ec_rn9, ec_rn10, ec_rn12, ec_rn13, ec_rn14, ec_rn15, ec_rn16, ec_rn20, ec_rn30, ec_rn48, ec_rn99, ec_rn120, ec_rn127, ec_rnm, ec_zeq, ec_zlt, k1, k2, k3, ec_isR_r, hn, r1, Int.lt_irrefl, reduceIte, ec_burn]
  | succ n ih =>
    intro a h hD hn h0 ha
    have hT := hD.2.2.2.1
    have r1 : ec_rg a := ec_rgs (by omega)
    have r2 : ec_rg N := ec_rgs (by omega)
    have a1 : a < N := by omega
    have k1 := hD.1.1
    have k2 := hD.1.2.2.2.1
    have k3 := hT.1.1
    have g0 := ec_c48 hT (a := a) (b := 3) (by omega) (by omega) (by omega)
    rw [show ec_burn B (n + 1) a h = ec_burn B n (a + 1) (if h.2.1 (B + 5) (a * (4 : Nat) + 3).toNat = ec_i 1 then ec_burn1 B a h else h) from rfl]
    rw [ec_s65_35]
    by_cases hp : h.2.1 (B + 5) (a * (4 : Nat) + 3).toNat = ec_i 1
    · rw [if_pos hp]
      rw [hp] at g0
      have g1 := ec_c50 (v := ec_i (-1)) hT (a := a) (b := 2) (by omega) (by omega) (by omega)
      rw [show ec_setI h (B + 5) (a * (4 : Nat) + 2).toNat (h.2.1 (B + 5) (a * (4 : Nat) + 2).toNat + ec_i (-1)) = ec_rais h (B + 5) 4 a 2 (ec_i (-1)) from rfl] at g1
      have hD1 : ec_DN (ec_rais h (B + 5) 4 a 2 (ec_i (-1))) B := hD.V (by omega)
      have e0 : (ec_burn1 B a h).2.1 (B + 4) 3 = ec_i N := by
        unfold ec_burn1 ec_rais
        rw [ec_w_iI, if_neg (by omega), ec_w_iI, if_neg (by omega), hn]
      have hD2 : ec_DN (ec_burn1 B a h) B := hD1.V (by omega)
      have e1 := ih (a + 1) (ec_burn1 B a h) hD2 e0 (by omega) (by omega)
      unfold ec_burn1 at e1 ⊢
      generalize ec_rais h (B + 5) 4 a 2 (ec_i (-1)) = h1 at g1 hD1 e1 ⊢
      have hT1 := hD1.2.2.2.1
      have j1 := hD1.1.1
      have j2 := hD1.1.2.2.2.1
      have j3 := hT1.1.1
      have g2 := ec_c48 hT1 (a := a) (b := 2) (by omega) (by omega) (by omega)
      have g3 := fun v => ec_c49 (v := v) hT1 (a := a) (b := 3) (by omega) (by omega) (by omega)
      generalize h1.2.1 (B + 5) (a * (4 : Nat) + 2).toNat = y at g2 e1 ⊢
      by_cases hy : ec_i 0 < y
      · rw [if_pos hy] at e1 ⊢
        simp only [ec_s65_0, ec_s65_1, ec_s65_4, ec_s65_7, ec_s65_8, ec_s65_9, ec_s65_12, ec_s65_13, ec_s65_14, ec_s65_17, ec_s65_18, ec_s65_19, ec_s65_22, ec_s65_25, ec_s65_26, ec_s65_29, ec_s65_30, ec_s65_33, ec_s65_34, ec_s65_36, ec_s65_37, ec_s65_40, ec_s65_43, ec_s65_46, ec_s65_47, ec_s65_50, ec_s65_51, ec_s65_52, ec_s65_55, ec_s65_56, ec_s65_59, ec_s65_60, ec_s65_63, ec_s65_64, ec_s65_65, ec_s65_66, ec_s65_69, ec_s65_70, ec_s65_73, ec_s65_74, ec_s65_75, ec_s65_76, ec_s65_79, ec_s65_80, ec_s65_81, ec_s65_84, ec_s65_87, ec_s65_88, ec_s65_91, ec_s65_92, ec_s65_95, ec_s65_98, ec_s65_101, ec_zn0, ec_zn1, ec_zn2, ec_zn3, ec_zn4, ec_zn5, ec_zn6, ec_zn7, ec_zn8, ec_zn9, ec_zn10, ec_zn12, ec_zn13, ec_zn14, ec_zn15, ec_zn16, ec_zn20, ec_zn30, ec_zn48, ec_zn99, ec_zn120, ec_zn127, ec_zneg, ec_rn0, ec_rn1, ec_rn2, ec_rn3, ec_rn4, ec_rn5, ec_rn6, ec_rn7, ec_rn8, ec_rn9, ec_rn10, ec_rn12, ec_rn13, ec_rn14, ec_rn15, ec_rn16, ec_rn20, ec_rn30, ec_rn48, ec_rn99, ec_rn120, ec_rn127, ec_rnm, ec_zeq, ec_zlt, k1, k2, k3, j1, j2, j3, ec_isR_r, hn, r1, r2, a1, reduceIte, g0, g1, g2, g3, hy, ec_aft_v, ec_aft_n, ec_zadd, e1]
      · rw [if_neg hy] at e1 ⊢
        simp only [ec_s65_0, ec_s65_1, ec_s65_4, ec_s65_7, ec_s65_8, ec_s65_9, ec_s65_12, ec_s65_13, ec_s65_14, ec_s65_17, ec_s65_18, ec_s65_19, ec_s65_22, ec_s65_25, ec_s65_26, ec_s65_29, ec_s65_30, ec_s65_33, ec_s65_34, ec_s65_36, ec_s65_37, ec_s65_40, ec_s65_43, ec_s65_46, ec_s65_47, ec_s65_50, ec_s65_51, ec_s65_52, ec_s65_55, ec_s65_56, ec_s65_59, ec_s65_60, ec_s65_63, ec_s65_64, ec_s65_65, ec_s65_66, ec_s65_69, ec_s65_70, ec_s65_73, ec_s65_74, ec_s65_75, ec_s65_76, ec_s65_79, ec_s65_80, ec_s65_81, ec_s65_84, ec_s65_87, ec_s65_88, ec_s65_91, ec_s65_92, ec_s65_95, ec_s65_98, ec_s65_101, ec_zn0, ec_zn1, ec_zn2, ec_zn3, ec_zn4, ec_zn5, ec_zn6, ec_zn7, ec_zn8, ec_zn9, ec_zn10, ec_zn12, ec_zn13, ec_zn14, ec_zn15, ec_zn16, ec_zn20, ec_zn30, ec_zn48, ec_zn99, ec_zn120, ec_zn127, ec_zneg, ec_rn0, ec_rn1, ec_rn2, ec_rn3, ec_rn4, ec_rn5, ec_rn6, ec_rn7, ec_rn8, ec_rn9, ec_rn10, ec_rn12, ec_rn13, ec_rn14, ec_rn15, ec_rn16, ec_rn20, ec_rn30, ec_rn48, ec_rn99, ec_rn120, ec_rn127, ec_rnm, ec_zeq, ec_zlt, k1, k2, k3, j1, j2, j3, ec_isR_r, hn, r1, r2, a1, reduceIte, g0, g1, g2, g3, hy, ec_aft_v, ec_aft_n, ec_zadd, e1]
    · rw [if_neg hp]
      have e1 := ih (a + 1) h hD hn (by omega) (by omega)
      generalize h.2.1 (B + 5) (a * (4 : Nat) + 3).toNat = y at g0 hp
      simp only [ec_s65_0, ec_s65_1, ec_s65_4, ec_s65_7, ec_s65_8, ec_s65_9, ec_s65_12, ec_s65_13, ec_s65_14, ec_s65_17, ec_s65_18, ec_s65_19, ec_s65_22, ec_s65_25, ec_s65_26, ec_s65_29, ec_s65_30, ec_s65_33, ec_s65_34, ec_s65_36, ec_s65_37, ec_s65_40, ec_s65_43, ec_s65_46, ec_s65_47, ec_s65_50, ec_s65_51, ec_s65_52, ec_s65_55, ec_s65_56, ec_s65_59, ec_s65_60, ec_s65_63, ec_s65_64, ec_s65_65, ec_s65_66, ec_s65_69, ec_s65_70, ec_s65_73, ec_s65_74, ec_s65_75, ec_s65_76, ec_s65_79, ec_s65_80, ec_s65_81, ec_s65_84, ec_s65_87, ec_s65_88, ec_s65_91, ec_s65_92, ec_s65_95, ec_s65_98, ec_s65_101, ec_zn0, ec_zn1, ec_zn2, ec_zn3, ec_zn4, ec_zn5, ec_zn6, ec_zn7, ec_zn8, ec_zn9, ec_zn10, ec_zn12, ec_zn13, ec_zn14, ec_zn15, ec_zn16, ec_zn20, ec_zn30, ec_zn48, ec_zn99, ec_zn120, ec_zn127, ec_zneg, ec_rn0, ec_rn1, ec_rn2, ec_rn3, ec_rn4, ec_rn5, ec_rn6, ec_rn7, ec_rn8, ec_rn9, ec_rn10, ec_rn12, ec_rn13, ec_rn14, ec_rn15, ec_rn16, ec_rn20, ec_rn30, ec_rn48, ec_rn99, ec_rn120, ec_rn127, ec_rnm, ec_zeq, ec_zlt, k1, k2, k3, ec_isR_r, hn, r1, r2, a1, reduceIte, g0, hp, ec_aft_v, ec_zadd, e1]
def ec_lamp (h : ec_Hp) (B : Nat) : ec_Hp := if h.2.1 B 10 = ec_i 0 then h else ec_setI (ec_setI h B 9 (h.2.1 B 9 - ec_i 1)) B 10 (if ec_i 0 < h.2.1 B 9 - ec_i 1 then ec_i 1 else ec_i 0)
theorem ec_c65 {h : ec_Hp} {B : Nat} {N : Int} (hN : 0 ≤ N ∧ N ≤ 6) (hD : ec_DN h B) (hn : h.2.1 (B + 4) 3 = ec_i N) : ec_om 65 0 [.ref B, .double 0] [] h = some (.inl none, ec_burn B N.toNat 0 (ec_lamp h B)) := by
  have k1 := hD.1.1
  have hD1 : ec_DN (ec_lamp h B) B := by
    unfold ec_lamp
    split
    · exact hD
    · exact hD.O.O
  have hn1 : (ec_lamp h B).2.1 (B + 4) 3 = ec_i N := by
    unfold ec_lamp
    split
    · exact hn
    · rw [ec_w_iI, if_neg (by omega), ec_w_iI, if_neg (by omega), hn]
  have e := ec_c65L hN N.toNat 0 (ec_lamp h B) hD1 hn1 (by omega) (by omega)
  have e9 : (ec_setI h B 9 (h.2.1 B 9 - ec_i 1)).2.1 B 9 = h.2.1 B 9 - ec_i 1 := by rw [ec_w_iI, if_pos ⟨rfl, rfl⟩]
  unfold ec_lamp at e ⊢
  by_cases h1 : h.2.1 B 10 = ec_i 0
  · rw [if_pos h1] at e ⊢
    simp only [ec_s65_0, ec_s65_1, ec_s65_4, ec_s65_7, ec_s65_8, ec_s65_9, ec_s65_12, ec_s65_13, ec_s65_14, ec_s65_17, ec_s65_18, ec_s65_19, ec_s65_22, ec_s65_25, ec_s65_26, ec_s65_29, ec_s65_30, ec_s65_33, ec_s65_34, ec_s65_36, ec_s65_37, ec_s65_40, ec_s65_43, ec_s65_46, ec_s65_47, ec_s65_50, ec_s65_51, ec_s65_52, ec_s65_55, ec_s65_56, ec_s65_59, ec_s65_60, ec_s65_63, ec_s65_64, ec_s65_65, ec_s65_66, ec_s65_69, ec_s65_70, ec_s65_73, ec_s65_74, ec_s65_75, ec_s65_76, ec_s65_79, ec_s65_80, ec_s65_81, ec_s65_84, ec_s65_87, ec_s65_88, ec_s65_91, ec_s65_92, ec_s65_95, ec_s65_98, ec_s65_101, ec_zn0, ec_zn1, ec_zn2, ec_zn3, ec_zn4, ec_zn5, ec_zn6, ec_zn7, ec_zn8, ec_zn9, ec_zn10, ec_zn12, ec_zn13, ec_zn14, ec_zn15, ec_zn16, ec_zn20, ec_zn30, ec_zn48, ec_zn99, ec_zn120, ec_zn127, ec_zneg, ec_rn0, ec_rn1, ec_rn2, ec_rn3, ec_rn4, ec_rn5, ec_rn6, ec_rn7, ec_rn8, ec_rn9, ec_rn10, ec_rn12, ec_rn13, ec_rn14, ec_rn15, ec_rn16, ec_rn20, ec_rn30, ec_rn48, ec_rn99, ec_rn120, ec_rn127, ec_rnm, ec_zeq, ec_zlt, k1, h1, reduceIte, e]
  · rw [if_neg h1] at e ⊢
    by_cases h2 : ec_i 0 < h.2.1 B 9 - ec_i 1
    · rw [if_pos h2] at e ⊢
      simp only [ec_s65_0, ec_s65_1, ec_s65_4, ec_s65_7, ec_s65_8, ec_s65_9, ec_s65_12, ec_s65_13, ec_s65_14, ec_s65_17, ec_s65_18, ec_s65_19, ec_s65_22, ec_s65_25, ec_s65_26, ec_s65_29, ec_s65_30, ec_s65_33, ec_s65_34, ec_s65_36, ec_s65_37, ec_s65_40, ec_s65_43, ec_s65_46, ec_s65_47, ec_s65_50, ec_s65_51, ec_s65_52, ec_s65_55, ec_s65_56, ec_s65_59, ec_s65_60, ec_s65_63, ec_s65_64, ec_s65_65, ec_s65_66, ec_s65_69, ec_s65_70, ec_s65_73, ec_s65_74, ec_s65_75, ec_s65_76, ec_s65_79, ec_s65_80, ec_s65_81, ec_s65_84, ec_s65_87, ec_s65_88, ec_s65_91, ec_s65_92, ec_s65_95, ec_s65_98, ec_s65_101, ec_zn0, ec_zn1, ec_zn2, ec_zn3, ec_zn4, ec_zn5, ec_zn6, ec_zn7, ec_zn8, ec_zn9, ec_zn10, ec_zn12, ec_zn13, ec_zn14, ec_zn15, ec_zn16, ec_zn20, ec_zn30, ec_zn48, ec_zn99, ec_zn120, ec_zn127, ec_zneg, ec_rn0, ec_rn1, ec_rn2, ec_rn3, ec_rn4, ec_rn5, ec_rn6, ec_rn7, ec_rn8, ec_rn9, ec_rn10, ec_rn12, ec_rn13, ec_rn14, ec_rn15, ec_rn16, ec_rn20, ec_rn30, ec_rn48, ec_rn99, ec_rn120, ec_rn127, ec_rnm, ec_zeq, ec_zlt, k1, h1, h2, reduceIte, ec_w_kI, e9, ec_01o, e]
    · rw [if_neg h2] at e ⊢
      simp only [ec_s65_0, ec_s65_1, ec_s65_4, ec_s65_7, ec_s65_8, ec_s65_9, ec_s65_12, ec_s65_13, ec_s65_14, ec_s65_17, ec_s65_18, ec_s65_19, ec_s65_22, ec_s65_25, ec_s65_26, ec_s65_29, ec_s65_30, ec_s65_33, ec_s65_34, ec_s65_36, ec_s65_37, ec_s65_40, ec_s65_43, ec_s65_46, ec_s65_47, ec_s65_50, ec_s65_51, ec_s65_52, ec_s65_55, ec_s65_56, ec_s65_59, ec_s65_60, ec_s65_63, ec_s65_64, ec_s65_65, ec_s65_66, ec_s65_69, ec_s65_70, ec_s65_73, ec_s65_74, ec_s65_75, ec_s65_76, ec_s65_79, ec_s65_80, ec_s65_81, ec_s65_84, ec_s65_87, ec_s65_88, ec_s65_91, ec_s65_92, ec_s65_95, ec_s65_98, ec_s65_101, ec_zn0, ec_zn1, ec_zn2, ec_zn3, ec_zn4, ec_zn5, ec_zn6, ec_zn7, ec_zn8, ec_zn9, ec_zn10, ec_zn12, ec_zn13, ec_zn14, ec_zn15, ec_zn16, ec_zn20, ec_zn30, ec_zn48, ec_zn99, ec_zn120, ec_zn127, ec_zneg, ec_rn0, ec_rn1, ec_rn2, ec_rn3, ec_rn4, ec_rn5, ec_rn6, ec_rn7, ec_rn8, ec_rn9, ec_rn10, ec_rn12, ec_rn13, ec_rn14, ec_rn15, ec_rn16, ec_rn20, ec_rn30, ec_rn48, ec_rn99, ec_rn120, ec_rn127, ec_rnm, ec_zeq, ec_zlt, k1, h1, h2, reduceIte, ec_w_kI, e9, ec_01z, e]
