/-! Contracts: whether the hero stands in light. -/
theorem ec_c34 {h : ec_Hp} {p B : Nat} (hpB : B + 9 < p ∨ p + 2 < B) {P : Int → Int → Int} {N t z : Int} {f : Int → Bool} {g : Int → Int} {lit : Bool} {c : Nat → Int} {nw : Nat → Bool} (hz : 0 ≤ z ∧ z < 48) (hh : h.2.1 B 7 = ec_i z) (hl : h.2.1 B 10 = if lit = true then ec_i 1 else ec_i 0) (hD : ec_DN h B) (hT : ec_TS h B N f g) (hP : ec_PB h B (ec_i 0) P) (hS : ec_SN h p) (hs : ec_SS h p c nw t) :
    ∃ h' : ec_Hp, ec_om 34 0 [.ref p, .ref B] [] h = some (.inl (some (.int (if ec_ct (ec_sp P 3 2304 (ec_L0 N f g lit z).1 (ec_L0 N f g lit z).2 t).1 z = -1 then ec_i 0 else ec_i 1))), h') ∧ ec_fr p h h' ∧
      ec_SS h' p (ec_sp P 3 2304 (ec_L0 N f g lit z).1 (ec_L0 N f g lit z).2 t).1 (ec_sp P 3 2304 (ec_L0 N f g lit z).1 (ec_L0 N f g lit z).2 t).2.1 (ec_sp P 3 2304 (ec_L0 N f g lit z).1 (ec_L0 N f g lit z).2 t).2.2 := by
  obtain ⟨h1, a1, a2, a3⟩ := ec_c33 hpB hz hh hl hD hT hP hS hs
  refine ⟨h1, ?_, a2, a3⟩
  have k0 := hS.1.1
  have k1 := (a2.DN hpB hD).1.1
  have k2 := (a2.SN hS).1.1
  have e7 : h1.2.1 B 7 = ec_i z := (a2.2.2 B 7 (by omega) (by omega) (by omega)).trans hh
  have c36 := ec_c36 (z := z) (a2.SN hS) a3 (ec_rgs (by omega))
  have hct := ec_ct_rg (z := z) (fun k hk => (a3.2.2 k hk).1.1)
  generalize ec_ct (ec_sp P 3 2304 (ec_L0 N f g lit z).1 (ec_L0 N f g lit z).2 t).1 z = x at c36 hct ⊢
  have r3 : ec_rg x := ⟨by omega, by omega⟩
  by_cases hx : x = -1
  · rw [if_pos hx]
    subst hx
    simp only [ec_s34_0, ec_s34_1, ec_s34_2, ec_s34_5, ec_s34_6, ec_s34_7, ec_s34_10, ec_s34_13, ec_s34_14, ec_s34_17, ec_s34_18, ec_s34_21, ec_s34_22, ec_zn0, ec_zn1, ec_zn2, ec_zn3, ec_zn4, ec_zn5, ec_zn6, ec_zn7, ec_zn8, ec_zn9, ec_zn10, ec_zn12, ec_zn13, ec_zn14, ec_zn15, ec_zn16, ec_zn20, ec_zn30, ec_zn48, ec_zn99, ec_zn120, ec_zn127, ec_zneg, ec_rn0, ec_rn1, ec_rn2, ec_rn3, ec_rn4, ec_rn5, ec_rn6, ec_rn7, ec_rn8, ec_rn9, ec_rn10, ec_rn12, ec_rn13, ec_rn14, ec_rn15, ec_rn16, ec_rn20, ec_rn30, ec_rn48, ec_rn99, ec_rn120, ec_rn127, ec_rnm, ec_zeq, ec_zlt, k0, k1, k2, a1, e7, c36, ec_aft_v, ec_aft_n, reduceIte, ec_01z]
  · rw [if_neg hx]
    simp only [ec_s34_0, ec_s34_1, ec_s34_2, ec_s34_5, ec_s34_6, ec_s34_7, ec_s34_10, ec_s34_13, ec_s34_14, ec_s34_17, ec_s34_18, ec_s34_21, ec_s34_22, ec_zn0, ec_zn1, ec_zn2, ec_zn3, ec_zn4, ec_zn5, ec_zn6, ec_zn7, ec_zn8, ec_zn9, ec_zn10, ec_zn12, ec_zn13, ec_zn14, ec_zn15, ec_zn16, ec_zn20, ec_zn30, ec_zn48, ec_zn99, ec_zn120, ec_zn127, ec_zneg, ec_rn0, ec_rn1, ec_rn2, ec_rn3, ec_rn4, ec_rn5, ec_rn6, ec_rn7, ec_rn8, ec_rn9, ec_rn10, ec_rn12, ec_rn13, ec_rn14, ec_rn15, ec_rn16, ec_rn20, ec_rn30, ec_rn48, ec_rn99, ec_rn120, ec_rn127, ec_rnm, ec_zeq, ec_zlt, k0, k1, k2, a1, e7, c36, ec_aft_v, ec_aft_n, reduceIte, r3, hx, ec_01o]
