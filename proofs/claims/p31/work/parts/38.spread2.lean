/-! Contracts: spread and measure. -/
def ec_sp (P : Int → Int → Int) (lim : Int) : Nat → (Nat → Int) → (Nat → Bool) → Int → (Nat → Int) × (Nat → Bool) × Int
  | 0, c, nw, t => (c, nw, t)
  | n + 1, c, nw, t => if (ec_tk nw 48 t).1 = -1 then (c, nw, (ec_tk nw 48 t).2) else ec_sp P lim n (ec_rx P (ec_tk nw 48 t).1 (ec_ct c (ec_tk nw 48 t).1) lim 4 0 c (ec_ncl nw (ec_tk nw 48 t).1)).1 (ec_rx P (ec_tk nw 48 t).1 (ec_ct c (ec_tk nw 48 t).1) lim 4 0 c (ec_ncl nw (ec_tk nw 48 t).1)).2 (ec_tk nw 48 t).2
theorem ec_tk_rg {nw : Nat → Bool} : ∀ (n : Nat) (t : Int), (ec_tk nw n t).1 = -1 ∨ 0 ≤ (ec_tk nw n t).1 ∧ (ec_tk nw n t).1 < 48
  | 0, _ => Or.inl rfl
  | n + 1, t => by
    show (if nw ((t + 1) % 48).toNat then ((t + 1) % 48, (t + 1) % 48) else ec_tk nw n ((t + 1) % 48)).1 = -1 ∨ _
    rw [show ec_tk nw (n + 1) t = if nw ((t + 1) % 48).toNat then ((t + 1) % 48, (t + 1) % 48) else ec_tk nw n ((t + 1) % 48) from rfl]
    split
    · exact Or.inr ⟨by show 0 ≤ (t + 1) % 48; omega, by show (t + 1) % 48 < 48; omega⟩
    · exact ec_tk_rg n _
theorem ec_ct_rg {c : Nat → Int} {z : Int} (h : ∀ k : Nat, k < 48 → 0 ≤ c k) : -1 ≤ ec_ct c z ∧ ec_ct c z < 1000000 := by
  unfold ec_ct
  split
  · rename_i q
    have := h z.toNat (by omega)
    omega
  · omega
theorem ec_zn2304 : (2304 : Int32) = ec_i 2304 := rfl
theorem ec_rn2304 : ec_rg 2304 := ⟨by decide, by decide⟩
set_option maxHeartbeats 2000000 in
theorem ec_c43O {p B : Nat} (hpB : B + 9 < p ∨ p + 2 < B) {m : Int32} {P : Int → Int → Int} {lim : Int} (hl : 0 ≤ lim ∧ lim ≤ 1000000) : ∀ (n : Nat) (i : Int) (c : Nat → Int) (nw : Nat → Bool) (t : Int) (h : ec_Hp) (w5 w6 w7 w8 : Value),
    ec_DN h B → ec_PB h B m P → ec_SN h p → ec_SS h p c nw t → 0 ≤ i → i + n = 2304 →
    ∃ h' : ec_Hp, ec_om 43 3 [.ref p, .ref B, .int m, .int (ec_i lim), .int (ec_i i), w5, w6, w7, w8] [] h = some (.inl none, h') ∧ ec_fr p h h' ∧ ec_SS h' p (ec_sp P lim n c nw t).1 (ec_sp P lim n c nw t).2.1 (ec_sp P lim n c nw t).2.2 := by
  intro n
  induction n with
  | zero =>
    intro i c nw t h w5 w6 w7 w8 hD hP hS hs h0 hi
    have hi : i = 2304 := by omega
    subst hi
    refine ⟨h, ?_, ec_fr.refl, hs⟩
    rw [ec_s43_3]
    simp only [ec_s43_0, ec_s43_1, ec_s43_5, ec_s43_8, ec_s43_11, ec_s43_12, ec_s43_15, ec_s43_17, ec_s43_19, ec_s43_20, ec_s43_23, ec_s43_24, ec_s43_25, ec_s43_27, ec_s43_30, ec_s43_32, ec_s43_33, ec_s43_37, ec_s43_38, ec_s43_41, ec_s43_42, ec_s43_44, ec_s43_46, ec_s43_47, ec_s43_50, ec_s43_52, ec_s43_54, ec_s43_57, ec_s43_59, ec_s43_61, ec_s43_62, ec_s43_63, ec_s43_66, ec_s43_67, ec_s43_69, ec_s43_71, ec_s43_74, ec_s43_76, ec_s43_78, ec_s43_79, ec_s43_82, ec_s43_85, ec_s43_88, ec_s43_91, ec_s43_94, ec_zn0, ec_zn1, ec_zn2, ec_zn3, ec_zn4, ec_zn5, ec_zn6, ec_zn7, ec_zn8, ec_zn9, ec_zn10, ec_zn12, ec_zn13, ec_zn14, ec_zn15, ec_zn16, ec_zn20, ec_zn30, ec_zn48, ec_zn99, ec_zn120, ec_zn127, ec_zneg, ec_rn0, ec_rn1, ec_rn2, ec_rn3, ec_rn4, ec_rn5, ec_rn6, ec_rn7, ec_rn8, ec_rn9, ec_rn10, ec_rn12, ec_rn13, ec_rn14, ec_rn15, ec_rn16, ec_rn20, ec_rn30, ec_rn48, ec_rn99, ec_rn120, ec_rn127, ec_rnm, ec_zeq, ec_zlt, ec_zn2304, ec_rn2304, Int.lt_irrefl, reduceIte]
  | succ n ih =>
    intro i c nw t h w5 w6 w7 w8 hD hP hS hs h0 hi
    have r1 : ec_rg i := ec_rgs (by omega)
    have a1 : i < 2304 := by omega
    have k2 := hS.1.1
    obtain ⟨h1, t1, t2, t3⟩ := ec_c44 hS hs
    have tr := ec_tk_rg (nw := nw) 48 t
    have hx : ec_sp P lim (n + 1) c nw t = if (ec_tk nw 48 t).1 = -1 then (c, nw, (ec_tk nw 48 t).2) else ec_sp P lim n (ec_rx P (ec_tk nw 48 t).1 (ec_ct c (ec_tk nw 48 t).1) lim 4 0 c (ec_ncl nw (ec_tk nw 48 t).1)).1 (ec_rx P (ec_tk nw 48 t).1 (ec_ct c (ec_tk nw 48 t).1) lim 4 0 c (ec_ncl nw (ec_tk nw 48 t).1)).2 (ec_tk nw 48 t).2 := rfl
    rw [hx]
    generalize (ec_tk nw 48 t).2 = u at t3 ⊢
    generalize (ec_tk nw 48 t).1 = z at t1 t3 tr ⊢
    rcases tr with rfl | hz
    · rw [if_pos rfl]
      rw [ec_ncl_m] at t3
      refine ⟨h1, ?_, t2, t3⟩
      rw [ec_s43_3]
      simp only [ec_s43_0, ec_s43_1, ec_s43_5, ec_s43_8, ec_s43_11, ec_s43_12, ec_s43_15, ec_s43_17, ec_s43_19, ec_s43_20, ec_s43_23, ec_s43_24, ec_s43_25, ec_s43_27, ec_s43_30, ec_s43_32, ec_s43_33, ec_s43_37, ec_s43_38, ec_s43_41, ec_s43_42, ec_s43_44, ec_s43_46, ec_s43_47, ec_s43_50, ec_s43_52, ec_s43_54, ec_s43_57, ec_s43_59, ec_s43_61, ec_s43_62, ec_s43_63, ec_s43_66, ec_s43_67, ec_s43_69, ec_s43_71, ec_s43_74, ec_s43_76, ec_s43_78, ec_s43_79, ec_s43_82, ec_s43_85, ec_s43_88, ec_s43_91, ec_s43_94, ec_zn0, ec_zn1, ec_zn2, ec_zn3, ec_zn4, ec_zn5, ec_zn6, ec_zn7, ec_zn8, ec_zn9, ec_zn10, ec_zn12, ec_zn13, ec_zn14, ec_zn15, ec_zn16, ec_zn20, ec_zn30, ec_zn48, ec_zn99, ec_zn120, ec_zn127, ec_zneg, ec_rn0, ec_rn1, ec_rn2, ec_rn3, ec_rn4, ec_rn5, ec_rn6, ec_rn7, ec_rn8, ec_rn9, ec_rn10, ec_rn12, ec_rn13, ec_rn14, ec_rn15, ec_rn16, ec_rn20, ec_rn30, ec_rn48, ec_rn99, ec_rn120, ec_rn127, ec_rnm, ec_zeq, ec_zlt, ec_zn2304, ec_rn2304, r1, a1, reduceIte, k2, t1, ec_aft_v]
    · have hne : ¬ z = -1 := by omega
      rw [if_neg hne]
      have rz : ec_rg z := ec_rgs (by omega)
      have hS1 := t2.SN hS
      have k3 := hS1.1.1
      have c36 := ec_c36 (z := z) hS1 t3 rz
      have hk := ec_ct_rg (c := c) (z := z) (fun k hk => (hs.2.2 k hk).1.1)
      obtain ⟨h2, w', e1, e2, e3⟩ := ec_c43L hpB (t := u) (tk := ec_i i) hz hk hl 4 0 c (ec_ncl nw z) h1 w8 (t2.DN hpB hD) (t2.PB hpB hP) hS1 t3 (by omega) (by omega)
      obtain ⟨h3, f1, f2, f3⟩ := ih (i + 1) _ _ u h2 (.int (ec_i z)) (.int (ec_i (ec_ct c z))) (.int (ec_i 4)) w' (e2.DN hpB (t2.DN hpB hD)) (e2.PB hpB (t2.PB hpB hP)) (e2.SN hS1) e3 (by omega) (by omega)
      refine ⟨h3, ?_, (t2.trans e2).trans f2, f3⟩
      rw [ec_s43_3]
      simp only [ec_s43_0, ec_s43_1, ec_s43_5, ec_s43_8, ec_s43_11, ec_s43_12, ec_s43_15, ec_s43_17, ec_s43_19, ec_s43_20, ec_s43_23, ec_s43_24, ec_s43_25, ec_s43_27, ec_s43_30, ec_s43_32, ec_s43_33, ec_s43_37, ec_s43_38, ec_s43_41, ec_s43_42, ec_s43_44, ec_s43_46, ec_s43_47, ec_s43_50, ec_s43_52, ec_s43_54, ec_s43_57, ec_s43_59, ec_s43_61, ec_s43_62, ec_s43_63, ec_s43_66, ec_s43_67, ec_s43_69, ec_s43_71, ec_s43_74, ec_s43_76, ec_s43_78, ec_s43_79, ec_s43_82, ec_s43_85, ec_s43_88, ec_s43_91, ec_s43_94, ec_zn0, ec_zn1, ec_zn2, ec_zn3, ec_zn4, ec_zn5, ec_zn6, ec_zn7, ec_zn8, ec_zn9, ec_zn10, ec_zn12, ec_zn13, ec_zn14, ec_zn15, ec_zn16, ec_zn20, ec_zn30, ec_zn48, ec_zn99, ec_zn120, ec_zn127, ec_zneg, ec_rn0, ec_rn1, ec_rn2, ec_rn3, ec_rn4, ec_rn5, ec_rn6, ec_rn7, ec_rn8, ec_rn9, ec_rn10, ec_rn12, ec_rn13, ec_rn14, ec_rn15, ec_rn16, ec_rn20, ec_rn30, ec_rn48, ec_rn99, ec_rn120, ec_rn127, ec_rnm, ec_zeq, ec_zlt, ec_zn2304, ec_rn2304, r1, a1, reduceIte, k2, k3, t1, ec_aft_v, rz, hne, c36, e1, ec_zadd, f1]
theorem ec_c43 {h : ec_Hp} {p B : Nat} (hpB : B + 9 < p ∨ p + 2 < B) {m : Int32} {P : Int → Int → Int} {lim t : Int} {c : Nat → Int} {nw : Nat → Bool} (hl : 0 ≤ lim ∧ lim ≤ 1000000) (hD : ec_DN h B) (hP : ec_PB h B m P) (hS : ec_SN h p) (hs : ec_SS h p c nw t) :
    ∃ h' : ec_Hp, ec_om 43 0 [.ref p, .ref B, .int m, .int (ec_i lim), .double 0, .double 0, .double 0, .double 0, .double 0] [] h = some (.inl none, h') ∧ ec_fr p h h' ∧ ec_SS h' p (ec_sp P lim 2304 c nw t).1 (ec_sp P lim 2304 c nw t).2.1 (ec_sp P lim 2304 c nw t).2.2 := by
  obtain ⟨h', e1, e2⟩ := ec_c43O hpB hl 2304 0 c nw t h (.double 0) (.double 0) (.double 0) (.double 0) hD hP hS hs (by omega) (by omega)
  refine ⟨h', ?_, e2⟩
  rw [ec_s43_0, ec_s43_1, ec_zn0]
  exact e1
/-- the costs from a cell -/
theorem ec_c35 {h : ec_Hp} {p B : Nat} (hpB : B + 9 < p ∨ p + 2 < B) {m : Int32} {P : Int → Int → Int} {z t : Int} {c : Nat → Int} {nw : Nat → Bool} (hz : ec_rg z) (hD : ec_DN h B) (hP : ec_PB h B m P) (hS : ec_SN h p) (hs : ec_SS h p c nw t) :
    ∃ h' : ec_Hp, ec_om 35 0 [.ref p, .ref B, .int (ec_i z), .int m] [] h = some (.inl none, h') ∧ ec_fr p h h' ∧
      ec_SS h' p (ec_sp P 1000000 2304 (ec_uc (fun _ => 1000000) z 0) (ec_un (fun _ => 1000000) (fun _ => false) z 0) t).1 (ec_sp P 1000000 2304 (ec_uc (fun _ => 1000000) z 0) (ec_un (fun _ => 1000000) (fun _ => false) z 0) t).2.1 (ec_sp P 1000000 2304 (ec_uc (fun _ => 1000000) z 0) (ec_un (fun _ => 1000000) (fun _ => false) z 0) t).2.2 := by
  obtain ⟨h1, a1, a2, a3⟩ := ec_c41 hS ⟨hs.1, hs.2.1⟩
  obtain ⟨h2, b1, b2, b3⟩ := ec_c42 (z := z) (k := 0) (a2.SN hS) a3 hz (by omega)
  obtain ⟨h3, d1, d2, d3⟩ := ec_c43 hpB (lim := 1000000) (by omega) (b2.DN hpB (a2.DN hpB hD)) (b2.PB hpB (a2.PB hpB hP)) (b2.SN (a2.SN hS)) b3
  refine ⟨h3, ?_, (a2.trans b2).trans d2, d3⟩
  have k1 := hS.1.1
  have k2 := (a2.SN hS).1.1
  have k3 := (b2.SN (a2.SN hS)).1.1
  simp only [ec_s35_0, ec_s35_1, ec_s35_4, ec_s35_5, ec_s35_6, ec_s35_7, ec_s35_10, ec_s35_11, ec_s35_12, ec_s35_13, ec_s35_15, ec_s35_18, ec_zn0, ec_zn1, ec_zn2, ec_zn3, ec_zn4, ec_zn5, ec_zn6, ec_zn7, ec_zn8, ec_zn9, ec_zn10, ec_zn12, ec_zn13, ec_zn14, ec_zn15, ec_zn16, ec_zn20, ec_zn30, ec_zn48, ec_zn99, ec_zn120, ec_zn127, ec_zneg, ec_rn0, ec_rn1, ec_rn2, ec_rn3, ec_rn4, ec_rn5, ec_rn6, ec_rn7, ec_rn8, ec_rn9, ec_rn10, ec_rn12, ec_rn13, ec_rn14, ec_rn15, ec_rn16, ec_rn20, ec_rn30, ec_rn48, ec_rn99, ec_rn120, ec_rn127, ec_rnm, ec_zeq, ec_zlt, ec_znF, k1, k2, k3, a1, b1, d1, ec_aft_n]
