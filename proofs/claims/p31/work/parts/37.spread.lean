/-! Contracts: costs are spread. P: the prices. -/
def ec_PB (h : ec_Hp) (B : Nat) (m : Int32) (P : Int → Int → Int) : Prop := ∀ z d : Int, 0 ≤ z ∧ z < 48 → 0 ≤ d ∧ d < 4 → ec_bk (ec_bdr h B z d) ∧ ec_pr (ec_bdr h B z d) (ec_ds h B (ec_bdr h B z d)) m = ec_i (P z d) ∧ (0 ≤ P z d ∧ P z d ≤ 7)
theorem ec_fr.PB {p B : Nat} {h h' : ec_Hp} {m : Int32} {P : Int → Int → Int} (a : ec_fr p h h') (hp : B + 9 < p ∨ p + 2 < B) (b : ec_PB h B m P) : ec_PB h' B m P := by
  intro z d hz hd
  have e1 : ec_bdr h' B z d = ec_bdr h B z d := a.2.2 _ _ (by omega) (by omega) (by omega)
  have e2 : ∀ x, ec_ds h' B x = ec_ds h B x := fun x => a.2.2 _ _ (by omega) (by omega) (by omega)
  rw [e1, e2]
  exact b z d hz hd
/-- the cells beside one are told -/
def ec_rx (P : Int → Int → Int) (z k lim : Int) : Nat → Int → (Nat → Int) → (Nat → Bool) → (Nat → Int) × (Nat → Bool)
  | 0, _, c, nw => (c, nw)
  | n + 1, d, c, nw => if ¬ P z d = 0 ∧ k + P z d ≤ lim then ec_rx P z k lim n (d + 1) (ec_uc c (ec_nb z d) (k + P z d)) (ec_un c nw (ec_nb z d) (k + P z d)) else ec_rx P z k lim n (d + 1) c nw
theorem ec_nb_rg {z d : Int} (hz : 0 ≤ z ∧ z < 48) : ec_rg (ec_nb z d) := by
  unfold ec_nb
  refine ec_rgs ?_
  split
  · omega
  · split
    · omega
    · split <;> omega
set_option maxHeartbeats 2000000 in
theorem ec_c43L {p B : Nat} (hpB : B + 9 < p ∨ p + 2 < B) {m : Int32} {P : Int → Int → Int} {z k lim t : Int} {tk : Int32} (hz : 0 ≤ z ∧ z < 48) (hk : -1 ≤ k ∧ k < 1000000) (hl : 0 ≤ lim ∧ lim ≤ 1000000) : ∀ (n : Nat) (d : Int) (c : Nat → Int) (nw : Nat → Bool) (h : ec_Hp) (w : Value),
    ec_DN h B → ec_PB h B m P → ec_SN h p → ec_SS h p c nw t → 0 ≤ d → d + n = 4 →
    ∃ (h' : ec_Hp) (w' : Value), ec_om 43 35 [.ref p, .ref B, .int m, .int (ec_i lim), .int tk, .int (ec_i z), .int (ec_i k), .int (ec_i d), w] [] h = ec_om 43 88 [.ref p, .ref B, .int m, .int (ec_i lim), .int tk, .int (ec_i z), .int (ec_i k), .int (ec_i 4), w'] [] h' ∧
      ec_fr p h h' ∧ ec_SS h' p (ec_rx P z k lim n d c nw).1 (ec_rx P z k lim n d c nw).2 t := by
  intro n
  induction n with
  | zero =>
    intro d c nw h w hD hP hS hs h0 hd
    have hd : d = 4 := by omega
    subst hd
    refine ⟨h, w, ?_, ec_fr.refl, hs⟩
    simp only [ec_s43_0, ec_s43_1, ec_s43_3, ec_s43_5, ec_s43_8, ec_s43_11, ec_s43_12, ec_s43_15, ec_s43_17, ec_s43_19, ec_s43_20, ec_s43_23, ec_s43_24, ec_s43_25, ec_s43_27, ec_s43_30, ec_s43_32, ec_s43_33, ec_s43_35, ec_s43_37, ec_s43_38, ec_s43_41, ec_s43_42, ec_s43_44, ec_s43_46, ec_s43_47, ec_s43_50, ec_s43_52, ec_s43_54, ec_s43_57, ec_s43_59, ec_s43_61, ec_s43_62, ec_s43_63, ec_s43_66, ec_s43_67, ec_s43_69, ec_s43_71, ec_s43_74, ec_s43_76, ec_s43_78, ec_s43_79, ec_s43_82, ec_s43_85, ec_s43_91, ec_s43_94, ec_zn0, ec_zn1, ec_zn2, ec_zn3, ec_zn4, ec_zn5, ec_zn6, ec_zn7, ec_zn8, ec_zn9, ec_zn10, ec_zn12, ec_zn13, ec_zn14, ec_zn15, ec_zn16, ec_zn20, ec_zn30, ec_zn48, ec_zn99, ec_zn120, ec_zn127, ec_zneg, ec_rn0, ec_rn1, ec_rn2, ec_rn3, ec_rn4, ec_rn5, ec_rn6, ec_rn7, ec_rn8, ec_rn9, ec_rn10, ec_rn12, ec_rn13, ec_rn14, ec_rn15, ec_rn16, ec_rn20, ec_rn30, ec_rn48, ec_rn99, ec_rn120, ec_rn127, ec_rnm, ec_zeq, ec_zlt, Int.lt_irrefl, reduceIte]
  | succ n ih =>
    intro d c nw h w hD hP hS hs h0 hd
    have r1 : ec_rg d := ec_rgs (by omega)
    have a1 : d < 4 := by omega
    obtain ⟨b1, b2, b3⟩ := hP z d hz ⟨h0, a1⟩
    have c18 := ec_c18 (m := m) hD hz ⟨h0, a1⟩ b1
    rw [b2] at c18
    have hx : ec_rx P z k lim (n + 1) d c nw = if ¬ P z d = 0 ∧ k + P z d ≤ lim then ec_rx P z k lim n (d + 1) (ec_uc c (ec_nb z d) (k + P z d)) (ec_un c nw (ec_nb z d) (k + P z d)) else ec_rx P z k lim n (d + 1) c nw := rfl
    rw [hx]
    generalize P z d = y at b3 c18 ⊢
    have k1 := hD.1.1
    have k2 := hS.1.1
    have r2 : ec_rg y := ec_rgs (by omega)
    have r3 : ec_rg (k + y) := ⟨by omega, by omega⟩
    have r4 : ec_rg lim := ⟨by omega, by omega⟩
    by_cases h1 : y = 0
    · rw [if_neg (fun q => q.1 h1)]
      subst h1
      obtain ⟨h', w', e1, e2, e3⟩ := ih (d + 1) c nw h (.int (ec_i 0)) hD hP hS hs (by omega) (by omega)
      refine ⟨h', w', ?_, e2, e3⟩
      rw [ec_s43_35]
      simp only [ec_s43_0, ec_s43_1, ec_s43_3, ec_s43_5, ec_s43_8, ec_s43_11, ec_s43_12, ec_s43_15, ec_s43_17, ec_s43_19, ec_s43_20, ec_s43_23, ec_s43_24, ec_s43_25, ec_s43_27, ec_s43_30, ec_s43_32, ec_s43_33, ec_s43_37, ec_s43_38, ec_s43_41, ec_s43_42, ec_s43_44, ec_s43_46, ec_s43_47, ec_s43_50, ec_s43_52, ec_s43_54, ec_s43_57, ec_s43_59, ec_s43_61, ec_s43_62, ec_s43_63, ec_s43_66, ec_s43_67, ec_s43_69, ec_s43_71, ec_s43_74, ec_s43_76, ec_s43_78, ec_s43_79, ec_s43_82, ec_s43_85, ec_s43_91, ec_s43_94, ec_zn0, ec_zn1, ec_zn2, ec_zn3, ec_zn4, ec_zn5, ec_zn6, ec_zn7, ec_zn8, ec_zn9, ec_zn10, ec_zn12, ec_zn13, ec_zn14, ec_zn15, ec_zn16, ec_zn20, ec_zn30, ec_zn48, ec_zn99, ec_zn120, ec_zn127, ec_zneg, ec_rn0, ec_rn1, ec_rn2, ec_rn3, ec_rn4, ec_rn5, ec_rn6, ec_rn7, ec_rn8, ec_rn9, ec_rn10, ec_rn12, ec_rn13, ec_rn14, ec_rn15, ec_rn16, ec_rn20, ec_rn30, ec_rn48, ec_rn99, ec_rn120, ec_rn127, ec_rnm, ec_zeq, ec_zlt, r1, a1, reduceIte, k1, k2, c18, ec_aft_v, ec_zadd, e1]
    · by_cases h2 : k + y ≤ lim
      · rw [if_pos ⟨h1, h2⟩]
        obtain ⟨h1', o1, o2, o3⟩ := ec_c42 (z := ec_nb z d) (k := k + y) hS hs (ec_nb_rg hz) ⟨by omega, by omega⟩
        obtain ⟨h', w', e1, e2, e3⟩ := ih (d + 1) _ _ h1' (.int (ec_i y)) (o2.DN hpB hD) (o2.PB hpB hP) (o2.SN hS) o3 (by omega) (by omega)
        have g2 := fun h => ec_c115 (h := h) (z := z) (d := d) ⟨h0, a1⟩
        have a2 : (lim < k + y) = False := eq_false (by omega)
        refine ⟨h', w', ?_, o2.trans e2, e3⟩
        rw [ec_s43_35]
        simp only [ec_s43_0, ec_s43_1, ec_s43_3, ec_s43_5, ec_s43_8, ec_s43_11, ec_s43_12, ec_s43_15, ec_s43_17, ec_s43_19, ec_s43_20, ec_s43_23, ec_s43_24, ec_s43_25, ec_s43_27, ec_s43_30, ec_s43_32, ec_s43_33, ec_s43_37, ec_s43_38, ec_s43_41, ec_s43_42, ec_s43_44, ec_s43_46, ec_s43_47, ec_s43_50, ec_s43_52, ec_s43_54, ec_s43_57, ec_s43_59, ec_s43_61, ec_s43_62, ec_s43_63, ec_s43_66, ec_s43_67, ec_s43_69, ec_s43_71, ec_s43_74, ec_s43_76, ec_s43_78, ec_s43_79, ec_s43_82, ec_s43_85, ec_s43_91, ec_s43_94, ec_zn0, ec_zn1, ec_zn2, ec_zn3, ec_zn4, ec_zn5, ec_zn6, ec_zn7, ec_zn8, ec_zn9, ec_zn10, ec_zn12, ec_zn13, ec_zn14, ec_zn15, ec_zn16, ec_zn20, ec_zn30, ec_zn48, ec_zn99, ec_zn120, ec_zn127, ec_zneg, ec_rn0, ec_rn1, ec_rn2, ec_rn3, ec_rn4, ec_rn5, ec_rn6, ec_rn7, ec_rn8, ec_rn9, ec_rn10, ec_rn12, ec_rn13, ec_rn14, ec_rn15, ec_rn16, ec_rn20, ec_rn30, ec_rn48, ec_rn99, ec_rn120, ec_rn127, ec_rnm, ec_zeq, ec_zlt, r1, a1, reduceIte, k1, k2, c18, ec_aft_v, ec_aft_n, ec_zadd, r2, h1, r3, r4, a2, g2, o1, e1]
      · rw [if_neg (fun q => h2 q.2)]
        obtain ⟨h', w', e1, e2, e3⟩ := ih (d + 1) c nw h (.int (ec_i y)) hD hP hS hs (by omega) (by omega)
        have a2 : (lim < k + y) = True := eq_true (by omega)
        refine ⟨h', w', ?_, e2, e3⟩
        rw [ec_s43_35]
        simp only [ec_s43_0, ec_s43_1, ec_s43_3, ec_s43_5, ec_s43_8, ec_s43_11, ec_s43_12, ec_s43_15, ec_s43_17, ec_s43_19, ec_s43_20, ec_s43_23, ec_s43_24, ec_s43_25, ec_s43_27, ec_s43_30, ec_s43_32, ec_s43_33, ec_s43_37, ec_s43_38, ec_s43_41, ec_s43_42, ec_s43_44, ec_s43_46, ec_s43_47, ec_s43_50, ec_s43_52, ec_s43_54, ec_s43_57, ec_s43_59, ec_s43_61, ec_s43_62, ec_s43_63, ec_s43_66, ec_s43_67, ec_s43_69, ec_s43_71, ec_s43_74, ec_s43_76, ec_s43_78, ec_s43_79, ec_s43_82, ec_s43_85, ec_s43_91, ec_s43_94, ec_zn0, ec_zn1, ec_zn2, ec_zn3, ec_zn4, ec_zn5, ec_zn6, ec_zn7, ec_zn8, ec_zn9, ec_zn10, ec_zn12, ec_zn13, ec_zn14, ec_zn15, ec_zn16, ec_zn20, ec_zn30, ec_zn48, ec_zn99, ec_zn120, ec_zn127, ec_zneg, ec_rn0, ec_rn1, ec_rn2, ec_rn3, ec_rn4, ec_rn5, ec_rn6, ec_rn7, ec_rn8, ec_rn9, ec_rn10, ec_rn12, ec_rn13, ec_rn14, ec_rn15, ec_rn16, ec_rn20, ec_rn30, ec_rn48, ec_rn99, ec_rn120, ec_rn127, ec_rnm, ec_zeq, ec_zlt, r1, a1, reduceIte, k1, k2, c18, ec_aft_v, ec_zadd, r2, h1, r3, r4, a2, e1]
