/-! Contracts: springs work. -/
def ec_work1 (B : Nat) (a : Int) (h : ec_Hp) : ec_Hp := if ec_i 0 < (ec_rais h (B + 3) 6 a 5 (ec_i (-1))).2.1 (B + 3) (a * (6 : Nat) + 5).toNat then ec_rais h (B + 3) 6 a 5 (ec_i (-1)) else ec_td (ec_rais h (B + 3) 6 a 5 (ec_i (-1))) B a (ec_i 0)
def ec_work (B : Nat) : Nat → Int → ec_Hp → ec_Hp
  | 0, _, h => h
  | n + 1, a, h => ec_work B n (a + 1) (if h.2.1 (B + 3) (a * (6 : Nat) + 0).toNat = ec_i 1 ∧ ec_i 0 < h.2.1 (B + 3) (a * (6 : Nat) + 1).toNat then ec_work1 B a h else h)
set_option maxHeartbeats 4000000 in
theorem ec_c69L {B : Nat} {N : Int} (hN : 0 ≤ N ∧ N ≤ 10) : ∀ (n : Nat) (a : Int) (h : ec_Hp) (w : Value), (w = .double 0 ∨ ∃ y, w = .int y) → ec_DN h B → h.2.1 (B + 2) 3 = ec_i N → 0 ≤ a → a + n = N →
    ec_om 69 2 [.ref B, .int (ec_i a), w] [] h = some (.inl none, ec_work B n a h) := by
  intro n
  induction n with
  | zero =>
    intro a h w hw hD hn h0 ha
    have ha : a = N := by omega
    subst ha
    have r1 : ec_rg a := ec_rgs (by omega)
    have k1 := hD.1.1
    have k2 := hD.1.2.2.1
    have k3 := hD.2.2.1.1.1
    rw [ec_s69_2]
    simp only [ec_s69_0, ec_s69_1, ec_s69_3, ec_s69_4, ec_s69_7, ec_s69_10, ec_s69_13, ec_s69_14, ec_s69_17, ec_s69_18, ec_s69_19, ec_s69_22, ec_s69_23, ec_s69_26, ec_s69_27, ec_s69_30, ec_s69_31, ec_s69_32, ec_s69_33, ec_s69_36, ec_s69_37, ec_s69_40, ec_s69_41, ec_s69_42, ec_s69_45, ec_s69_48, ec_s69_49, ec_s69_52, ec_s69_53, ec_s69_54, ec_s69_55, ec_s69_58, ec_s69_59, ec_s69_62, ec_s69_63, ec_s69_64, ec_s69_67, ec_s69_70, ec_s69_71, ec_s69_72, ec_s69_73, ec_s69_76, ec_s69_79, ec_s69_82, ec_zn0, ec_zn1, ec_zn2, ec_zn3, ec_zn4, ec_zn5, ec_zn6, ec_zn7, ec_zn8, ec_zn9, ec_zn10, ec_zn12, ec_zn13, ec_zn14, ec_zn15, ec_zn16, ec_zn20, ec_zn30, ec_zn48, ec_zn99, ec_zn120, ec_zn127, ec_zneg, ec_rn0, ec_rn1, ec_rn2, ec_rn3, ec_rn4, ec_rn5, ec_rn6, ec_rn7, ec_rn8, ec_rn9, ec_rn10, ec_rn12, ec_rn13, ec_rn14, ec_rn15, ec_rn16, ec_rn20, ec_rn30, ec_rn48, ec_rn99, ec_rn120, ec_rn127, ec_rnm, ec_zeq, ec_zlt, k1, k2, k3, ec_isR_r, hn, r1, Int.lt_irrefl, reduceIte, ec_work]
  | succ n ih =>
    intro a h w hw hD hn h0 ha
    have hT := hD.2.2.1
    have r1 : ec_rg a := ec_rgs (by omega)
    have r2 : ec_rg N := ec_rgs (by omega)
    have a1 : a < N := by omega
    have k1 := hD.1.1
    have k2 := hD.1.2.2.1
    have k3 := hT.1.1
    have g0 := ec_c48 hT (a := a) (b := 0) (by omega) (by omega) (by omega)
    have g1 := ec_c48 hT (a := a) (b := 1) (by omega) (by omega) (by omega)
    rw [show ec_work B (n + 1) a h = ec_work B n (a + 1) (if h.2.1 (B + 3) (a * (6 : Nat) + 0).toNat = ec_i 1 ∧ ec_i 0 < h.2.1 (B + 3) (a * (6 : Nat) + 1).toNat then ec_work1 B a h else h) from rfl]
    rw [ec_s69_2]
    by_cases hp : h.2.1 (B + 3) (a * (6 : Nat) + 0).toNat = ec_i 1
    · rw [hp] at g0 ⊢
      by_cases hq : ec_i 0 < h.2.1 (B + 3) (a * (6 : Nat) + 1).toNat
      · rw [if_pos ⟨rfl, hq⟩]
        generalize h.2.1 (B + 3) (a * (6 : Nat) + 1).toNat = sp at g1 hq
        have g2 := ec_c50 (v := ec_i (-1)) hT (a := a) (b := 5) (by omega) (by omega) (by omega)
        rw [show ec_setI h (B + 3) (a * (6 : Nat) + 5).toNat (h.2.1 (B + 3) (a * (6 : Nat) + 5).toNat + ec_i (-1)) = ec_rais h (B + 3) 6 a 5 (ec_i (-1)) from rfl] at g2
        have hD1 : ec_DN (ec_rais h (B + 3) 6 a 5 (ec_i (-1))) B := hD.V (by omega)
        have e0 : (ec_rais h (B + 3) 6 a 5 (ec_i (-1))).2.1 (B + 2) 3 = ec_i N := by
          unfold ec_rais
          rw [ec_w_iI, if_neg (by omega), hn]
        unfold ec_work1
        generalize ec_rais h (B + 3) 6 a 5 (ec_i (-1)) = h1 at g2 hD1 e0 ⊢
        have hT1 := hD1.2.2.1
        have j1 := hD1.1.1
        have j2 := hD1.1.2.2.1
        have j3 := hT1.1.1
        have g3 := ec_c48 hT1 (a := a) (b := 5) (by omega) (by omega) (by omega)
        by_cases hy : ec_i 0 < h1.2.1 (B + 3) (a * (6 : Nat) + 5).toNat
        · rw [if_pos hy]
          have e1 := ih (a + 1) h1 (.int (ec_i 1)) (Or.inr ⟨_, rfl⟩) hD1 e0 (by omega) (by omega)
          generalize h1.2.1 (B + 3) (a * (6 : Nat) + 5).toNat = y at g3 hy
          simp only [ec_s69_0, ec_s69_1, ec_s69_3, ec_s69_4, ec_s69_7, ec_s69_10, ec_s69_13, ec_s69_14, ec_s69_17, ec_s69_18, ec_s69_19, ec_s69_22, ec_s69_23, ec_s69_26, ec_s69_27, ec_s69_30, ec_s69_31, ec_s69_32, ec_s69_33, ec_s69_36, ec_s69_37, ec_s69_40, ec_s69_41, ec_s69_42, ec_s69_45, ec_s69_48, ec_s69_49, ec_s69_52, ec_s69_53, ec_s69_54, ec_s69_55, ec_s69_58, ec_s69_59, ec_s69_62, ec_s69_63, ec_s69_64, ec_s69_67, ec_s69_70, ec_s69_71, ec_s69_72, ec_s69_73, ec_s69_76, ec_s69_79, ec_s69_82, ec_zn0, ec_zn1, ec_zn2, ec_zn3, ec_zn4, ec_zn5, ec_zn6, ec_zn7, ec_zn8, ec_zn9, ec_zn10, ec_zn12, ec_zn13, ec_zn14, ec_zn15, ec_zn16, ec_zn20, ec_zn30, ec_zn48, ec_zn99, ec_zn120, ec_zn127, ec_zneg, ec_rn0, ec_rn1, ec_rn2, ec_rn3, ec_rn4, ec_rn5, ec_rn6, ec_rn7, ec_rn8, ec_rn9, ec_rn10, ec_rn12, ec_rn13, ec_rn14, ec_rn15, ec_rn16, ec_rn20, ec_rn30, ec_rn48, ec_rn99, ec_rn120, ec_rn127, ec_rnm, ec_zeq, ec_zlt, k1, k2, k3, j1, j2, j3, ec_isR_r, hn, r1, r2, a1, reduceIte, g0, g1, hq, g2, g3, hy, ec_aft_v, ec_aft_n, ec_zadd, Int.reduceEq, e1]
        · rw [if_neg hy]
          have g4 := ec_c21 (v := ec_i 0) hD1 (a := a) (by omega)
          have hD2 : ec_DN (ec_td h1 B a (ec_i 0)) B := (hD1.V (by omega)).V (by omega)
          have e2 : (ec_td h1 B a (ec_i 0)).2.1 (B + 2) 3 = ec_i N := by
            unfold ec_td
            rw [ec_w_iI, if_neg (by omega), ec_w_iI, if_neg (by omega), e0]
          have e1 := ih (a + 1) (ec_td h1 B a (ec_i 0)) (.int (ec_i 1)) (Or.inr ⟨_, rfl⟩) hD2 e2 (by omega) (by omega)
          generalize h1.2.1 (B + 3) (a * (6 : Nat) + 5).toNat = y at g3 hy
          simp only [ec_s69_0, ec_s69_1, ec_s69_3, ec_s69_4, ec_s69_7, ec_s69_10, ec_s69_13, ec_s69_14, ec_s69_17, ec_s69_18, ec_s69_19, ec_s69_22, ec_s69_23, ec_s69_26, ec_s69_27, ec_s69_30, ec_s69_31, ec_s69_32, ec_s69_33, ec_s69_36, ec_s69_37, ec_s69_40, ec_s69_41, ec_s69_42, ec_s69_45, ec_s69_48, ec_s69_49, ec_s69_52, ec_s69_53, ec_s69_54, ec_s69_55, ec_s69_58, ec_s69_59, ec_s69_62, ec_s69_63, ec_s69_64, ec_s69_67, ec_s69_70, ec_s69_71, ec_s69_72, ec_s69_73, ec_s69_76, ec_s69_79, ec_s69_82, ec_zn0, ec_zn1, ec_zn2, ec_zn3, ec_zn4, ec_zn5, ec_zn6, ec_zn7, ec_zn8, ec_zn9, ec_zn10, ec_zn12, ec_zn13, ec_zn14, ec_zn15, ec_zn16, ec_zn20, ec_zn30, ec_zn48, ec_zn99, ec_zn120, ec_zn127, ec_zneg, ec_rn0, ec_rn1, ec_rn2, ec_rn3, ec_rn4, ec_rn5, ec_rn6, ec_rn7, ec_rn8, ec_rn9, ec_rn10, ec_rn12, ec_rn13, ec_rn14, ec_rn15, ec_rn16, ec_rn20, ec_rn30, ec_rn48, ec_rn99, ec_rn120, ec_rn127, ec_rnm, ec_zeq, ec_zlt, k1, k2, k3, j1, j2, j3, ec_isR_r, hn, r1, r2, a1, reduceIte, g0, g1, hq, g2, g3, hy, g4, ec_aft_v, ec_aft_n, ec_zadd, Int.reduceEq, e1]
      · rw [if_neg (fun q => hq q.2)]
        have e1 := ih (a + 1) h (.int (ec_i 1)) (Or.inr ⟨_, rfl⟩) hD hn (by omega) (by omega)
        generalize h.2.1 (B + 3) (a * (6 : Nat) + 1).toNat = sp at g1 hq
        simp only [ec_s69_0, ec_s69_1, ec_s69_3, ec_s69_4, ec_s69_7, ec_s69_10, ec_s69_13, ec_s69_14, ec_s69_17, ec_s69_18, ec_s69_19, ec_s69_22, ec_s69_23, ec_s69_26, ec_s69_27, ec_s69_30, ec_s69_31, ec_s69_32, ec_s69_33, ec_s69_36, ec_s69_37, ec_s69_40, ec_s69_41, ec_s69_42, ec_s69_45, ec_s69_48, ec_s69_49, ec_s69_52, ec_s69_53, ec_s69_54, ec_s69_55, ec_s69_58, ec_s69_59, ec_s69_62, ec_s69_63, ec_s69_64, ec_s69_67, ec_s69_70, ec_s69_71, ec_s69_72, ec_s69_73, ec_s69_76, ec_s69_79, ec_s69_82, ec_zn0, ec_zn1, ec_zn2, ec_zn3, ec_zn4, ec_zn5, ec_zn6, ec_zn7, ec_zn8, ec_zn9, ec_zn10, ec_zn12, ec_zn13, ec_zn14, ec_zn15, ec_zn16, ec_zn20, ec_zn30, ec_zn48, ec_zn99, ec_zn120, ec_zn127, ec_zneg, ec_rn0, ec_rn1, ec_rn2, ec_rn3, ec_rn4, ec_rn5, ec_rn6, ec_rn7, ec_rn8, ec_rn9, ec_rn10, ec_rn12, ec_rn13, ec_rn14, ec_rn15, ec_rn16, ec_rn20, ec_rn30, ec_rn48, ec_rn99, ec_rn120, ec_rn127, ec_rnm, ec_zeq, ec_zlt, k1, k2, k3, ec_isR_r, hn, r1, r2, a1, reduceIte, g0, g1, hq, ec_aft_v, ec_zadd, Int.reduceEq, e1]
    · rw [if_neg (fun q => hp q.1)]
      have e1 := ih (a + 1) h (.int (ec_i 0)) (Or.inr ⟨_, rfl⟩) hD hn (by omega) (by omega)
      generalize h.2.1 (B + 3) (a * (6 : Nat) + 0).toNat = y at g0 hp
      simp only [ec_s69_0, ec_s69_1, ec_s69_3, ec_s69_4, ec_s69_7, ec_s69_10, ec_s69_13, ec_s69_14, ec_s69_17, ec_s69_18, ec_s69_19, ec_s69_22, ec_s69_23, ec_s69_26, ec_s69_27, ec_s69_30, ec_s69_31, ec_s69_32, ec_s69_33, ec_s69_36, ec_s69_37, ec_s69_40, ec_s69_41, ec_s69_42, ec_s69_45, ec_s69_48, ec_s69_49, ec_s69_52, ec_s69_53, ec_s69_54, ec_s69_55, ec_s69_58, ec_s69_59, ec_s69_62, ec_s69_63, ec_s69_64, ec_s69_67, ec_s69_70, ec_s69_71, ec_s69_72, ec_s69_73, ec_s69_76, ec_s69_79, ec_s69_82, ec_zn0, ec_zn1, ec_zn2, ec_zn3, ec_zn4, ec_zn5, ec_zn6, ec_zn7, ec_zn8, ec_zn9, ec_zn10, ec_zn12, ec_zn13, ec_zn14, ec_zn15, ec_zn16, ec_zn20, ec_zn30, ec_zn48, ec_zn99, ec_zn120, ec_zn127, ec_zneg, ec_rn0, ec_rn1, ec_rn2, ec_rn3, ec_rn4, ec_rn5, ec_rn6, ec_rn7, ec_rn8, ec_rn9, ec_rn10, ec_rn12, ec_rn13, ec_rn14, ec_rn15, ec_rn16, ec_rn20, ec_rn30, ec_rn48, ec_rn99, ec_rn120, ec_rn127, ec_rnm, ec_zeq, ec_zlt, k1, k2, k3, ec_isR_r, hn, r1, r2, a1, reduceIte, g0, hp, ec_aft_v, ec_zadd, e1]
theorem ec_c69 {h : ec_Hp} {B : Nat} {N : Int} (hN : 0 ≤ N ∧ N ≤ 10) (hD : ec_DN h B) (hn : h.2.1 (B + 2) 3 = ec_i N) : ec_om 69 0 [.ref B, .double 0, .double 0] [] h = some (.inl none, ec_work B N.toNat 0 h) := by
  have e := ec_c69L hN N.toNat 0 h (.double 0) (Or.inl rfl) hD hn (by omega) (by omega)
  rw [ec_s69_0, ec_s69_1, ec_zn0]
  exact e
