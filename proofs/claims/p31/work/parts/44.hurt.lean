/-! Contracts: the monsters hurt the hero; a trap springs. Heaps as functions of heaps. -/
def ec_lose (h : ec_Hp) (B : Nat) : ec_Hp := ec_setI h B 8 (if ec_i 0 < h.2.1 B 8 - ec_i 1 then h.2.1 B 8 - ec_i 1 else ec_i 0)
def ec_rais (h : ec_Hp) (q w : Nat) (a b : Int) (v : Int32) : ec_Hp := ec_setI h q (a * w + b).toNat (h.2.1 q (a * w + b).toNat + v)
def ec_hurt (B : Nat) : Nat → Int → ec_Hp → ec_Hp
  | 0, _, h => h
  | n + 1, a, h => ec_hurt B n (a + 1) (if ec_pl h (B + 7) 8 a = h.2.1 B 7 then ec_lose (ec_rais h (B + 7) 8 a 7 (ec_i 1)) B else h)
theorem ec_c68L {B : Nat} {N : Int} (hN : 0 ≤ N ∧ N ≤ 6) : ∀ (n : Nat) (a : Int) (h : ec_Hp), ec_DN h B → h.2.1 (B + 6) 3 = ec_i N → 0 ≤ a → a + n = N →
    ec_om 68 2 [.ref B, .int (ec_i a)] [] h = some (.inl none, ec_hurt B n a h) := by
  intro n
  induction n with
  | zero =>
    intro a h hD hn h0 ha
    have ha : a = N := by omega
    subst ha
    have r1 : ec_rg a := ec_rgs (by omega)
    have k1 := hD.1.1
    have k2 := hD.1.2.2.2.2.1
    have k3 := hD.2.2.2.2.1.1.1
    simp only [ec_s68_0, ec_s68_1, ec_s68_2, ec_s68_3, ec_s68_4, ec_s68_7, ec_s68_10, ec_s68_13, ec_s68_14, ec_s68_17, ec_s68_18, ec_s68_21, ec_s68_22, ec_s68_25, ec_s68_28, ec_s68_29, ec_s68_32, ec_s68_33, ec_s68_35, ec_s68_36, ec_s68_39, ec_s68_40, ec_s68_43, ec_s68_46, ec_s68_49, ec_zn0, ec_zn1, ec_zn2, ec_zn3, ec_zn4, ec_zn5, ec_zn6, ec_zn7, ec_zn8, ec_zn9, ec_zn10, ec_zn12, ec_zn13, ec_zn14, ec_zn15, ec_zn16, ec_zn20, ec_zn30, ec_zn48, ec_zn99, ec_zn120, ec_zn127, ec_zneg, ec_rn0, ec_rn1, ec_rn2, ec_rn3, ec_rn4, ec_rn5, ec_rn6, ec_rn7, ec_rn8, ec_rn9, ec_rn10, ec_rn12, ec_rn13, ec_rn14, ec_rn15, ec_rn16, ec_rn20, ec_rn30, ec_rn48, ec_rn99, ec_rn120, ec_rn127, ec_rnm, ec_zeq, ec_zlt, k1, k2, k3, ec_isR_r, hn, r1, Int.lt_irrefl, reduceIte, ec_hurt]
  | succ n ih =>
    intro a h hD hn h0 ha
    have hT := hD.2.2.2.2.1
    have r1 : ec_rg a := ec_rgs (by omega)
    have r2 : ec_rg N := ec_rgs (by omega)
    have a1 : a < N := by omega
    have k1 := hD.1.1
    have k2 := hD.1.2.2.2.2.1
    have k3 := hT.1.1
    have g0 := ec_c51 hT (a := a) (by omega) (by omega) (by omega)
    rw [show ec_hurt B (n + 1) a h = ec_hurt B n (a + 1) (if ec_pl h (B + 7) 8 a = h.2.1 B 7 then ec_lose (ec_rais h (B + 7) 8 a 7 (ec_i 1)) B else h) from rfl]
    rw [ec_s68_2]
    by_cases hp : ec_pl h (B + 7) 8 a = h.2.1 B 7
    · rw [if_pos hp]
      have g1 := ec_c50 (v := ec_i 1) hT (a := a) (b := 7) (by omega) (by omega) (by omega)
      rw [show ec_setI h (B + 7) (a * (8 : Nat) + 7).toNat (h.2.1 (B + 7) (a * (8 : Nat) + 7).toNat + ec_i 1) = ec_rais h (B + 7) 8 a 7 (ec_i 1) from rfl] at g1
      have hD1 : ec_DN (ec_rais h (B + 7) 8 a 7 (ec_i 1)) B := hD.V (by omega)
      have g2 := ec_c23 hD1
      rw [show ec_setI (ec_rais h (B + 7) 8 a 7 (ec_i 1)) B 8 _ = ec_lose (ec_rais h (B + 7) 8 a 7 (ec_i 1)) B from rfl] at g2
      have j1 := hD1.1.1
      have e1 := ih (a + 1) (ec_lose (ec_rais h (B + 7) 8 a 7 (ec_i 1)) B) hD1.O (by unfold ec_lose ec_rais; rw [ec_w_iI, if_neg (by omega), ec_w_iI, if_neg (by omega), hn]) (by omega) (by omega)
      simp only [ec_s68_0, ec_s68_1, ec_s68_3, ec_s68_4, ec_s68_7, ec_s68_10, ec_s68_13, ec_s68_14, ec_s68_17, ec_s68_18, ec_s68_21, ec_s68_22, ec_s68_25, ec_s68_28, ec_s68_29, ec_s68_32, ec_s68_33, ec_s68_35, ec_s68_36, ec_s68_39, ec_s68_40, ec_s68_43, ec_s68_46, ec_s68_49, ec_zn0, ec_zn1, ec_zn2, ec_zn3, ec_zn4, ec_zn5, ec_zn6, ec_zn7, ec_zn8, ec_zn9, ec_zn10, ec_zn12, ec_zn13, ec_zn14, ec_zn15, ec_zn16, ec_zn20, ec_zn30, ec_zn48, ec_zn99, ec_zn120, ec_zn127, ec_zneg, ec_rn0, ec_rn1, ec_rn2, ec_rn3, ec_rn4, ec_rn5, ec_rn6, ec_rn7, ec_rn8, ec_rn9, ec_rn10, ec_rn12, ec_rn13, ec_rn14, ec_rn15, ec_rn16, ec_rn20, ec_rn30, ec_rn48, ec_rn99, ec_rn120, ec_rn127, ec_rnm, ec_zeq, ec_zlt, k1, k2, k3, ec_isR_r, hn, r1, r2, a1, reduceIte, g0, g1, g2, j1, hp, ec_aft_v, ec_aft_n, ec_zadd, e1]
    · rw [if_neg hp]
      have e1 := ih (a + 1) h hD hn (by omega) (by omega)
      simp only [ec_s68_0, ec_s68_1, ec_s68_3, ec_s68_4, ec_s68_7, ec_s68_10, ec_s68_13, ec_s68_14, ec_s68_17, ec_s68_18, ec_s68_21, ec_s68_22, ec_s68_25, ec_s68_28, ec_s68_29, ec_s68_32, ec_s68_33, ec_s68_35, ec_s68_36, ec_s68_39, ec_s68_40, ec_s68_43, ec_s68_46, ec_s68_49, ec_zn0, ec_zn1, ec_zn2, ec_zn3, ec_zn4, ec_zn5, ec_zn6, ec_zn7, ec_zn8, ec_zn9, ec_zn10, ec_zn12, ec_zn13, ec_zn14, ec_zn15, ec_zn16, ec_zn20, ec_zn30, ec_zn48, ec_zn99, ec_zn120, ec_zn127, ec_zneg, ec_rn0, ec_rn1, ec_rn2, ec_rn3, ec_rn4, ec_rn5, ec_rn6, ec_rn7, ec_rn8, ec_rn9, ec_rn10, ec_rn12, ec_rn13, ec_rn14, ec_rn15, ec_rn16, ec_rn20, ec_rn30, ec_rn48, ec_rn99, ec_rn120, ec_rn127, ec_rnm, ec_zeq, ec_zlt, k1, k2, k3, ec_isR_r, hn, r1, r2, a1, reduceIte, g0, hp, ec_aft_v, ec_zadd, e1]
theorem ec_c68 {h : ec_Hp} {B : Nat} {N : Int} (hN : 0 ≤ N ∧ N ≤ 6) (hD : ec_DN h B) (hn : h.2.1 (B + 6) 3 = ec_i N) : ec_om 68 0 [.ref B, .double 0] [] h = some (.inl none, ec_hurt B N.toNat 0 h) := by
  have e := ec_c68L hN N.toNat 0 h hD hn (by omega) (by omega)
  rw [ec_s68_0, ec_s68_1, ec_zn0]
  exact e
