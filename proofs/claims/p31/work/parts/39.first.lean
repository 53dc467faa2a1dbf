/-! Contracts: the first direction of a way; how loud; the straight direction. -/
def ec_fd (P : Int → Int → Int) (c : Nat → Int) (z k : Int) : Nat → Int → Int
  | 0, _ => -1
  | n + 1, d => if ¬ P z d = 0 ∧ ¬ ec_ct c (ec_nb z d) = -1 ∧ P z d + ec_ct c (ec_nb z d) = k then d else ec_fd P c z k n (d + 1)
set_option maxHeartbeats 2000000 in
theorem ec_c38L {h : ec_Hp} {p B : Nat} {m : Int32} {P : Int → Int → Int} {z k t : Int} {c : Nat → Int} {nw : Nat → Bool} (hz : 0 ≤ z ∧ z < 48) (hk : ec_rg k) (hD : ec_DN h B) (hP : ec_PB h B m P) (hS : ec_SN h p) (hs : ec_SS h p c nw t) : ∀ (n : Nat) (d : Int) (w6 w7 : Value), 0 ≤ d → d + n = 4 →
    ec_om 38 18 [.ref p, .ref B, .int (ec_i z), .int m, .int (ec_i k), .int (ec_i d), w6, w7] [] h = some (.inl (some (.int (ec_i (ec_fd P c z k n d)))), h) := by
  intro n
  induction n with
  | zero =>
    intro d w6 w7 h0 hd
    have hd : d = 4 := by omega
    subst hd
    simp only [ec_s38_0, ec_s38_1, ec_s38_2, ec_s38_5, ec_s38_7, ec_s38_9, ec_s38_10, ec_s38_13, ec_s38_14, ec_s38_15, ec_s38_16, ec_s38_18, ec_s38_20, ec_s38_21, ec_s38_24, ec_s38_25, ec_s38_26, ec_s38_28, ec_s38_29, ec_s38_32, ec_s38_34, ec_s38_35, ec_s38_36, ec_s38_38, ec_s38_41, ec_s38_44, ec_s38_46, ec_s38_48, ec_s38_51, ec_s38_53, ec_s38_54, ec_s38_57, ec_s38_59, ec_s38_61, ec_s38_62, ec_s38_64, ec_s38_67, ec_s38_69, ec_s38_70, ec_s38_73, ec_s38_76, ec_s38_77, ec_zn0, ec_zn1, ec_zn2, ec_zn3, ec_zn4, ec_zn5, ec_zn6, ec_zn7, ec_zn8, ec_zn9, ec_zn10, ec_zn12, ec_zn13, ec_zn14, ec_zn15, ec_zn16, ec_zn20, ec_zn30, ec_zn48, ec_zn99, ec_zn120, ec_zn127, ec_zneg, ec_rn0, ec_rn1, ec_rn2, ec_rn3, ec_rn4, ec_rn5, ec_rn6, ec_rn7, ec_rn8, ec_rn9, ec_rn10, ec_rn12, ec_rn13, ec_rn14, ec_rn15, ec_rn16, ec_rn20, ec_rn30, ec_rn48, ec_rn99, ec_rn120, ec_rn127, ec_rnm, ec_zeq, ec_zlt, Int.lt_irrefl, reduceIte, ec_fd]
  | succ n ih =>
    intro d w6 w7 h0 hd
    have r1 : ec_rg d := ec_rgs (by omega)
    have a1 : d < 4 := by omega
    obtain ⟨b1, b2, b3⟩ := hP z d hz ⟨h0, a1⟩
    have c18 := ec_c18 (m := m) hD hz ⟨h0, a1⟩ b1
    rw [b2] at c18
    have c36 := ec_c36 (z := ec_nb z d) hS hs (ec_nb_rg hz)
    have hct := ec_ct_rg (c := c) (z := ec_nb z d) (fun k hk => (hs.2.2 k hk).1.1)
    have g2 := fun h => ec_c115 (h := h) (z := z) (d := d) ⟨h0, a1⟩
    have e1 := fun w6 w7 => ih (d + 1) w6 w7 (by omega) (by omega)
    rw [show ec_fd P c z k (n + 1) d = if ¬ P z d = 0 ∧ ¬ ec_ct c (ec_nb z d) = -1 ∧ P z d + ec_ct c (ec_nb z d) = k then d else ec_fd P c z k n (d + 1) from rfl]
    generalize P z d = y at b3 c18 ⊢
    generalize ec_ct c (ec_nb z d) = x at hct c36 ⊢
    have k1 := hD.1.1
    have k2 := hS.1.1
    have r2 : ec_rg y := ec_rgs (by omega)
    have r3 : ec_rg x := ⟨by omega, by omega⟩
    have r4 : ec_rg (y + x) := ⟨by omega, by omega⟩
    rw [ec_s38_18]
    by_cases h1 : y = 0
    · rw [if_neg (fun q => q.1 h1)]
      subst h1
      simp only [ec_s38_0, ec_s38_1, ec_s38_2, ec_s38_5, ec_s38_7, ec_s38_9, ec_s38_10, ec_s38_13, ec_s38_14, ec_s38_15, ec_s38_16, ec_s38_20, ec_s38_21, ec_s38_24, ec_s38_25, ec_s38_26, ec_s38_28, ec_s38_29, ec_s38_32, ec_s38_34, ec_s38_35, ec_s38_36, ec_s38_38, ec_s38_41, ec_s38_44, ec_s38_46, ec_s38_48, ec_s38_51, ec_s38_53, ec_s38_54, ec_s38_57, ec_s38_59, ec_s38_61, ec_s38_62, ec_s38_64, ec_s38_67, ec_s38_69, ec_s38_70, ec_s38_73, ec_s38_76, ec_s38_77, ec_zn0, ec_zn1, ec_zn2, ec_zn3, ec_zn4, ec_zn5, ec_zn6, ec_zn7, ec_zn8, ec_zn9, ec_zn10, ec_zn12, ec_zn13, ec_zn14, ec_zn15, ec_zn16, ec_zn20, ec_zn30, ec_zn48, ec_zn99, ec_zn120, ec_zn127, ec_zneg, ec_rn0, ec_rn1, ec_rn2, ec_rn3, ec_rn4, ec_rn5, ec_rn6, ec_rn7, ec_rn8, ec_rn9, ec_rn10, ec_rn12, ec_rn13, ec_rn14, ec_rn15, ec_rn16, ec_rn20, ec_rn30, ec_rn48, ec_rn99, ec_rn120, ec_rn127, ec_rnm, ec_zeq, ec_zlt, r1, a1, reduceIte, k1, k2, c18, g2, c36, ec_aft_v, ec_zadd, e1]
    · by_cases h2 : x = -1
      · rw [if_neg (fun q => q.2.1 h2)]
        subst h2
        simp only [ec_s38_0, ec_s38_1, ec_s38_2, ec_s38_5, ec_s38_7, ec_s38_9, ec_s38_10, ec_s38_13, ec_s38_14, ec_s38_15, ec_s38_16, ec_s38_20, ec_s38_21, ec_s38_24, ec_s38_25, ec_s38_26, ec_s38_28, ec_s38_29, ec_s38_32, ec_s38_34, ec_s38_35, ec_s38_36, ec_s38_38, ec_s38_41, ec_s38_44, ec_s38_46, ec_s38_48, ec_s38_51, ec_s38_53, ec_s38_54, ec_s38_57, ec_s38_59, ec_s38_61, ec_s38_62, ec_s38_64, ec_s38_67, ec_s38_69, ec_s38_70, ec_s38_73, ec_s38_76, ec_s38_77, ec_zn0, ec_zn1, ec_zn2, ec_zn3, ec_zn4, ec_zn5, ec_zn6, ec_zn7, ec_zn8, ec_zn9, ec_zn10, ec_zn12, ec_zn13, ec_zn14, ec_zn15, ec_zn16, ec_zn20, ec_zn30, ec_zn48, ec_zn99, ec_zn120, ec_zn127, ec_zneg, ec_rn0, ec_rn1, ec_rn2, ec_rn3, ec_rn4, ec_rn5, ec_rn6, ec_rn7, ec_rn8, ec_rn9, ec_rn10, ec_rn12, ec_rn13, ec_rn14, ec_rn15, ec_rn16, ec_rn20, ec_rn30, ec_rn48, ec_rn99, ec_rn120, ec_rn127, ec_rnm, ec_zeq, ec_zlt, r1, a1, reduceIte, k1, k2, c18, g2, c36, ec_aft_v, ec_zadd, e1, r2, h1]
      · by_cases h3 : y + x = k
        · rw [if_pos ⟨h1, h2, h3⟩]
          simp only [ec_s38_0, ec_s38_1, ec_s38_2, ec_s38_5, ec_s38_7, ec_s38_9, ec_s38_10, ec_s38_13, ec_s38_14, ec_s38_15, ec_s38_16, ec_s38_20, ec_s38_21, ec_s38_24, ec_s38_25, ec_s38_26, ec_s38_28, ec_s38_29, ec_s38_32, ec_s38_34, ec_s38_35, ec_s38_36, ec_s38_38, ec_s38_41, ec_s38_44, ec_s38_46, ec_s38_48, ec_s38_51, ec_s38_53, ec_s38_54, ec_s38_57, ec_s38_59, ec_s38_61, ec_s38_62, ec_s38_64, ec_s38_67, ec_s38_69, ec_s38_70, ec_s38_73, ec_s38_76, ec_s38_77, ec_zn0, ec_zn1, ec_zn2, ec_zn3, ec_zn4, ec_zn5, ec_zn6, ec_zn7, ec_zn8, ec_zn9, ec_zn10, ec_zn12, ec_zn13, ec_zn14, ec_zn15, ec_zn16, ec_zn20, ec_zn30, ec_zn48, ec_zn99, ec_zn120, ec_zn127, ec_zneg, ec_rn0, ec_rn1, ec_rn2, ec_rn3, ec_rn4, ec_rn5, ec_rn6, ec_rn7, ec_rn8, ec_rn9, ec_rn10, ec_rn12, ec_rn13, ec_rn14, ec_rn15, ec_rn16, ec_rn20, ec_rn30, ec_rn48, ec_rn99, ec_rn120, ec_rn127, ec_rnm, ec_zeq, ec_zlt, r1, a1, reduceIte, k1, k2, c18, g2, c36, ec_aft_v, ec_zadd, e1, r2, r3, r4, hk, h1, h2, h3]
        · rw [if_neg (fun q => h3 q.2.2)]
          simp only [ec_s38_0, ec_s38_1, ec_s38_2, ec_s38_5, ec_s38_7, ec_s38_9, ec_s38_10, ec_s38_13, ec_s38_14, ec_s38_15, ec_s38_16, ec_s38_20, ec_s38_21, ec_s38_24, ec_s38_25, ec_s38_26, ec_s38_28, ec_s38_29, ec_s38_32, ec_s38_34, ec_s38_35, ec_s38_36, ec_s38_38, ec_s38_41, ec_s38_44, ec_s38_46, ec_s38_48, ec_s38_51, ec_s38_53, ec_s38_54, ec_s38_57, ec_s38_59, ec_s38_61, ec_s38_62, ec_s38_64, ec_s38_67, ec_s38_69, ec_s38_70, ec_s38_73, ec_s38_76, ec_s38_77, ec_zn0, ec_zn1, ec_zn2, ec_zn3, ec_zn4, ec_zn5, ec_zn6, ec_zn7, ec_zn8, ec_zn9, ec_zn10, ec_zn12, ec_zn13, ec_zn14, ec_zn15, ec_zn16, ec_zn20, ec_zn30, ec_zn48, ec_zn99, ec_zn120, ec_zn127, ec_zneg, ec_rn0, ec_rn1, ec_rn2, ec_rn3, ec_rn4, ec_rn5, ec_rn6, ec_rn7, ec_rn8, ec_rn9, ec_rn10, ec_rn12, ec_rn13, ec_rn14, ec_rn15, ec_rn16, ec_rn20, ec_rn30, ec_rn48, ec_rn99, ec_rn120, ec_rn127, ec_rnm, ec_zeq, ec_zlt, r1, a1, reduceIte, k1, k2, c18, g2, c36, ec_aft_v, ec_zadd, e1, r2, r3, r4, hk, h1, h2, h3]
/-- the first direction of a way -/
def ec_fdir (P : Int → Int → Int) (c : Nat → Int) (z : Int) : Int := if ec_ct c z = -1 then -1 else ec_fd P c z (ec_ct c z) 4 0
theorem ec_c38 {h : ec_Hp} {p B : Nat} {m : Int32} {P : Int → Int → Int} {z t : Int} {c : Nat → Int} {nw : Nat → Bool} (hz : 0 ≤ z ∧ z < 48) (hD : ec_DN h B) (hP : ec_PB h B m P) (hS : ec_SN h p) (hs : ec_SS h p c nw t) :
    ec_om 38 0 [.ref p, .ref B, .int (ec_i z), .int m, .double 0, .double 0, .double 0, .double 0] [] h = some (.inl (some (.int (ec_i (ec_fdir P c z)))), h) := by
  have c36 := ec_c36 (z := z) hS hs (ec_rgs (by omega))
  have hct := ec_ct_rg (c := c) (z := z) (fun k hk => (hs.2.2 k hk).1.1)
  have k2 := hS.1.1
  unfold ec_fdir
  generalize ec_ct c z = x at hct c36 ⊢
  have r3 : ec_rg x := ⟨by omega, by omega⟩
  have g := ec_c38L (k := x) hz r3 hD hP hS hs 4 0 (.double 0) (.double 0) (by omega) (by omega)
  by_cases h2 : x = -1
  · rw [if_pos h2]
    subst h2
    simp only [ec_s38_0, ec_s38_1, ec_s38_2, ec_s38_5, ec_s38_7, ec_s38_9, ec_s38_10, ec_s38_13, ec_s38_14, ec_s38_15, ec_s38_16, ec_s38_20, ec_s38_21, ec_s38_24, ec_s38_25, ec_s38_26, ec_s38_28, ec_s38_29, ec_s38_32, ec_s38_34, ec_s38_35, ec_s38_36, ec_s38_38, ec_s38_41, ec_s38_44, ec_s38_46, ec_s38_48, ec_s38_51, ec_s38_53, ec_s38_54, ec_s38_57, ec_s38_59, ec_s38_61, ec_s38_62, ec_s38_64, ec_s38_67, ec_s38_69, ec_s38_70, ec_s38_73, ec_s38_76, ec_s38_77, ec_zn0, ec_zn1, ec_zn2, ec_zn3, ec_zn4, ec_zn5, ec_zn6, ec_zn7, ec_zn8, ec_zn9, ec_zn10, ec_zn12, ec_zn13, ec_zn14, ec_zn15, ec_zn16, ec_zn20, ec_zn30, ec_zn48, ec_zn99, ec_zn120, ec_zn127, ec_zneg, ec_rn0, ec_rn1, ec_rn2, ec_rn3, ec_rn4, ec_rn5, ec_rn6, ec_rn7, ec_rn8, ec_rn9, ec_rn10, ec_rn12, ec_rn13, ec_rn14, ec_rn15, ec_rn16, ec_rn20, ec_rn30, ec_rn48, ec_rn99, ec_rn120, ec_rn127, ec_rnm, ec_zeq, ec_zlt, reduceIte, k2, c36, ec_aft_v]
  · rw [if_neg h2]
    simp only [ec_s38_0, ec_s38_1, ec_s38_2, ec_s38_5, ec_s38_7, ec_s38_9, ec_s38_10, ec_s38_13, ec_s38_14, ec_s38_15, ec_s38_16, ec_s38_20, ec_s38_21, ec_s38_24, ec_s38_25, ec_s38_26, ec_s38_28, ec_s38_29, ec_s38_32, ec_s38_34, ec_s38_35, ec_s38_36, ec_s38_38, ec_s38_41, ec_s38_44, ec_s38_46, ec_s38_48, ec_s38_51, ec_s38_53, ec_s38_54, ec_s38_57, ec_s38_59, ec_s38_61, ec_s38_62, ec_s38_64, ec_s38_67, ec_s38_69, ec_s38_70, ec_s38_73, ec_s38_76, ec_s38_77, ec_zn0, ec_zn1, ec_zn2, ec_zn3, ec_zn4, ec_zn5, ec_zn6, ec_zn7, ec_zn8, ec_zn9, ec_zn10, ec_zn12, ec_zn13, ec_zn14, ec_zn15, ec_zn16, ec_zn20, ec_zn30, ec_zn48, ec_zn99, ec_zn120, ec_zn127, ec_zneg, ec_rn0, ec_rn1, ec_rn2, ec_rn3, ec_rn4, ec_rn5, ec_rn6, ec_rn7, ec_rn8, ec_rn9, ec_rn10, ec_rn12, ec_rn13, ec_rn14, ec_rn15, ec_rn16, ec_rn20, ec_rn30, ec_rn48, ec_rn99, ec_rn120, ec_rn127, ec_rnm, ec_zeq, ec_zlt, reduceIte, k2, c36, ec_aft_v, r3, h2, g]
def ec_sd (a b : Int) : Int := if a % 8 = b % 8 then (if b < a then 0 else 2) else if a / 8 = b / 8 then (if b < a then 3 else 1) else -1
theorem ec_c40 {h : ec_Hp} {a b : Int} (ha : 0 ≤ a ∧ a < 48) (hb : 0 ≤ b ∧ b < 48) : ec_om 40 0 [.int (ec_i a), .int (ec_i b)] [] h = some (.inl (some (.int (ec_i (ec_sd a b)))), h) := by
  have c1 := fun h => ec_c113 (h := h) (z := a) (by omega)
  have c2 := fun h => ec_c113 (h := h) (z := b) (by omega)
  have c3 := fun h => ec_c114 (h := h) (z := a) (by omega)
  have c4 := fun h => ec_c114 (h := h) (z := b) (by omega)
  have r1 : ec_rg a := ec_rgs (by omega)
  have r2 : ec_rg b := ec_rgs (by omega)
  have r3 : ec_rg (a % 8) := ec_rgs (by omega)
  have r4 : ec_rg (b % 8) := ec_rgs (by omega)
  have r5 : ec_rg (a / 8) := ec_rgs (by omega)
  have r6 : ec_rg (b / 8) := ec_rgs (by omega)
  unfold ec_sd
  by_cases h1 : a % 8 = b % 8
  · by_cases h2 : b < a <;> simp only [ec_s40_0, ec_s40_1, ec_s40_4, ec_s40_5, ec_s40_8, ec_s40_11, ec_s40_12, ec_s40_13, ec_s40_16, ec_s40_17, ec_s40_20, ec_s40_21, ec_s40_22, ec_s40_23, ec_s40_26, ec_s40_27, ec_s40_30, ec_s40_33, ec_s40_34, ec_s40_35, ec_s40_38, ec_s40_39, ec_s40_42, ec_s40_43, ec_s40_44, ec_s40_45, ec_zn0, ec_zn1, ec_zn2, ec_zn3, ec_zn4, ec_zn5, ec_zn6, ec_zn7, ec_zn8, ec_zn9, ec_zn10, ec_zn12, ec_zn13, ec_zn14, ec_zn15, ec_zn16, ec_zn20, ec_zn30, ec_zn48, ec_zn99, ec_zn120, ec_zn127, ec_zneg, ec_rn0, ec_rn1, ec_rn2, ec_rn3, ec_rn4, ec_rn5, ec_rn6, ec_rn7, ec_rn8, ec_rn9, ec_rn10, ec_rn12, ec_rn13, ec_rn14, ec_rn15, ec_rn16, ec_rn20, ec_rn30, ec_rn48, ec_rn99, ec_rn120, ec_rn127, ec_rnm, ec_zeq, ec_zlt, c1, c2, c3, c4, ec_aft_v, r1, r2, r3, r4, r5, r6, h1, h2, reduceIte]
  · by_cases h3 : a / 8 = b / 8
    · by_cases h2 : b < a <;> simp only [ec_s40_0, ec_s40_1, ec_s40_4, ec_s40_5, ec_s40_8, ec_s40_11, ec_s40_12, ec_s40_13, ec_s40_16, ec_s40_17, ec_s40_20, ec_s40_21, ec_s40_22, ec_s40_23, ec_s40_26, ec_s40_27, ec_s40_30, ec_s40_33, ec_s40_34, ec_s40_35, ec_s40_38, ec_s40_39, ec_s40_42, ec_s40_43, ec_s40_44, ec_s40_45, ec_zn0, ec_zn1, ec_zn2, ec_zn3, ec_zn4, ec_zn5, ec_zn6, ec_zn7, ec_zn8, ec_zn9, ec_zn10, ec_zn12, ec_zn13, ec_zn14, ec_zn15, ec_zn16, ec_zn20, ec_zn30, ec_zn48, ec_zn99, ec_zn120, ec_zn127, ec_zneg, ec_rn0, ec_rn1, ec_rn2, ec_rn3, ec_rn4, ec_rn5, ec_rn6, ec_rn7, ec_rn8, ec_rn9, ec_rn10, ec_rn12, ec_rn13, ec_rn14, ec_rn15, ec_rn16, ec_rn20, ec_rn30, ec_rn48, ec_rn99, ec_rn120, ec_rn127, ec_rnm, ec_zeq, ec_zlt, c1, c2, c3, c4, ec_aft_v, r1, r2, r3, r4, r5, r6, h1, h2, h3, reduceIte]
    · simp only [ec_s40_0, ec_s40_1, ec_s40_4, ec_s40_5, ec_s40_8, ec_s40_11, ec_s40_12, ec_s40_13, ec_s40_16, ec_s40_17, ec_s40_20, ec_s40_21, ec_s40_22, ec_s40_23, ec_s40_26, ec_s40_27, ec_s40_30, ec_s40_33, ec_s40_34, ec_s40_35, ec_s40_38, ec_s40_39, ec_s40_42, ec_s40_43, ec_s40_44, ec_s40_45, ec_zn0, ec_zn1, ec_zn2, ec_zn3, ec_zn4, ec_zn5, ec_zn6, ec_zn7, ec_zn8, ec_zn9, ec_zn10, ec_zn12, ec_zn13, ec_zn14, ec_zn15, ec_zn16, ec_zn20, ec_zn30, ec_zn48, ec_zn99, ec_zn120, ec_zn127, ec_zneg, ec_rn0, ec_rn1, ec_rn2, ec_rn3, ec_rn4, ec_rn5, ec_rn6, ec_rn7, ec_rn8, ec_rn9, ec_rn10, ec_rn12, ec_rn13, ec_rn14, ec_rn15, ec_rn16, ec_rn20, ec_rn30, ec_rn48, ec_rn99, ec_rn120, ec_rn127, ec_rnm, ec_zeq, ec_zlt, c1, c2, c3, c4, ec_aft_v, r1, r2, r3, r4, r5, r6, h1, h3, reduceIte]
