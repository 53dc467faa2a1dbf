/-! Contracts: the senses' labels. p the object, p+1 the costs, p+2 the news. -/
def ec_SN (h : ec_Hp) (p : Nat) : Prop := (ec_isK h p 3 = true ∧ ((ec_shp h p).2.2 0 = .ref (p + 1) ∧ (ec_shp h p).2.2 1 = .ref (p + 2))) ∧ ((ec_isK h (p + 1) 16 = true ∧ (ec_shp h (p + 1)).2.1 = 48) ∧ (ec_isK h (p + 2) 17 = true ∧ (ec_shp h (p + 2)).2.1 = 48))
/-- only the senses' cells have changed -/
def ec_fr (p : Nat) (h h' : ec_Hp) : Prop := h'.1 = h.1 ∧ h'.2.2 = h.2.2 ∧ ∀ q j, q ≠ p → q ≠ p + 1 → q ≠ p + 2 → h'.2.1 q j = h.2.1 q j
theorem ec_fr.refl {p : Nat} {h : ec_Hp} : ec_fr p h h := ⟨rfl, rfl, fun _ _ _ _ _ => rfl⟩
theorem ec_fr.trans {p : Nat} {h h1 h2 : ec_Hp} (a : ec_fr p h h1) (b : ec_fr p h1 h2) : ec_fr p h h2 := ⟨b.1.trans a.1, b.2.1.trans a.2.1, fun q j x y z => (b.2.2 q j x y z).trans (a.2.2 q j x y z)⟩
theorem ec_fr.I {p q k : Nat} {h : ec_Hp} {x : Int32} (hq : q = p ∨ q = p + 1 ∨ q = p + 2) : ec_fr p h (ec_setI h q k x) := by
  refine ⟨rfl, rfl, fun r j h1 h2 h3 => ?_⟩
  rw [ec_w_iI, if_neg]
  rintro ⟨rfl, -⟩
  omega
theorem ec_fr.SN {p r : Nat} {h h' : ec_Hp} (a : ec_fr p h h') (b : ec_SN h r) : ec_SN h' r := by
  have e : ∀ q, ec_shp h' q = ec_shp h q := fun q => by show ec_nth _ h'.1 q = ec_nth _ h.1 q; rw [a.1]
  unfold ec_SN ec_isK at b ⊢
  simp only [e]
  exact b
theorem ec_fr.TB {p t q M w : Nat} {h h' : ec_Hp} (a : ec_fr p h h') (hp : t ≠ p ∧ t ≠ p + 1 ∧ t ≠ p + 2) (b : ec_TB h t q M w) : ec_TB h' t q M w := by
  have e : ∀ q, ec_shp h' q = ec_shp h q := fun q => by show ec_nth _ h'.1 q = ec_nth _ h.1 q; rw [a.1]
  unfold ec_TB ec_isK at b ⊢
  simp only [e, a.2.2 t 0 hp.1 hp.2.1 hp.2.2, a.2.2 t 1 hp.1 hp.2.1 hp.2.2]
  exact b
theorem ec_fr.DN {p B : Nat} {h h' : ec_Hp} (a : ec_fr p h h') (hp : B + 9 < p ∨ p + 2 < B) (b : ec_DN h B) : ec_DN h' B := by
  have e : ∀ q, ec_shp h' q = ec_shp h q := fun q => by show ec_nth _ h'.1 q = ec_nth _ h.1 q; rw [a.1]
  obtain ⟨h1, h2, h3, h4, h5, h6⟩ := b
  refine ⟨?_, ?_, a.TB (by omega) h3, a.TB (by omega) h4, a.TB (by omega) h5, a.TB (by omega) h6⟩
  · unfold ec_isK at h1 ⊢
    simp only [e]
    exact h1
  · unfold ec_isK at h2 ⊢
    simp only [e]
    exact h2
theorem ec_zc48 {i : Int} (h : 0 ≤ i ∧ i < 48) : (ec_i i).toNatClampNeg = i.toNat := ec_zcl h.1 (by omega)
theorem ec_zi48 {i : Int} (h : 0 ≤ i ∧ i < 48) : ec_inB (ec_i i) 48 = true := ec_zin h.1 (by omega) (by omega)
theorem ec_znF : (1000000 : Int32) = ec_i 1000000 := rfl
theorem ec_rnF : ec_rg 1000000 := ⟨by decide, by decide⟩
set_option maxHeartbeats 1000000 in
theorem ec_c41L {p : Nat} : ∀ (n : Nat) (i : Int) (h : ec_Hp), ec_SN h p → 0 ≤ i → i + n = 48 → ∃ h', ec_om 41 2 [.ref p, .int (ec_i i)] [] h = some (.inl none, h') ∧ ec_fr p h h' ∧ h'.2.1 p 2 = h.2.1 p 2 ∧
    ∀ k : Nat, k < 48 → (i ≤ k → h'.2.1 (p + 1) k = ec_i 1000000 ∧ h'.2.1 (p + 2) k = ec_i 0) ∧ (k < i → h'.2.1 (p + 1) k = h.2.1 (p + 1) k ∧ h'.2.1 (p + 2) k = h.2.1 (p + 2) k) := by
  intro n
  induction n with
  | zero =>
    intro i h hS h0 hi
    have hi : i = 48 := by omega
    subst hi
    refine ⟨h, ?_, ec_fr.refl, rfl, fun k hk => ⟨fun z => absurd z (by omega), fun _ => ⟨rfl, rfl⟩⟩⟩
    simp only [ec_s41_0, ec_s41_1, ec_s41_2, ec_s41_3, ec_s41_5, ec_s41_8, ec_s41_9, ec_s41_12, ec_s41_13, ec_s41_15, ec_s41_16, ec_s41_17, ec_s41_20, ec_s41_21, ec_s41_22, ec_s41_23, ec_s41_26, ec_s41_29, ec_zn0, ec_zn1, ec_zn2, ec_zn3, ec_zn4, ec_zn5, ec_zn6, ec_zn7, ec_zn8, ec_zn9, ec_zn10, ec_zn12, ec_zn13, ec_zn14, ec_zn15, ec_zn16, ec_zn20, ec_zn30, ec_zn48, ec_zn99, ec_zn120, ec_zn127, ec_zneg, ec_rn0, ec_rn1, ec_rn2, ec_rn3, ec_rn4, ec_rn5, ec_rn6, ec_rn7, ec_rn8, ec_rn9, ec_rn10, ec_rn12, ec_rn13, ec_rn14, ec_rn15, ec_rn16, ec_rn20, ec_rn30, ec_rn48, ec_rn99, ec_rn120, ec_rn127, ec_rnm, ec_zeq, ec_zlt, Int.lt_irrefl, reduceIte]
  | succ n ih =>
    intro i h hS h0 hi
    have r1 : ec_rg i := ec_rgs (by omega)
    have a1 : i < 48 := by omega
    obtain ⟨h', e1, e2, e3, e4⟩ := ih (i + 1) (ec_setI (ec_setI h (p + 1) i.toNat (ec_i 1000000)) (p + 2) i.toNat (ec_i 0)) hS (by omega) (by omega)
    refine ⟨h', ?_, ((ec_fr.I (by omega)).trans (ec_fr.I (by omega))).trans e2, ?_, ?_⟩
    · obtain ⟨⟨k1, k2, k3⟩, ⟨k4, k5⟩, k6, k7⟩ := hS
      rw [ec_s41_2]
      simp only [ec_s41_0, ec_s41_1, ec_s41_3, ec_s41_5, ec_s41_8, ec_s41_9, ec_s41_12, ec_s41_13, ec_s41_15, ec_s41_16, ec_s41_17, ec_s41_20, ec_s41_21, ec_s41_22, ec_s41_23, ec_s41_26, ec_s41_29, ec_zn0, ec_zn1, ec_zn2, ec_zn3, ec_zn4, ec_zn5, ec_zn6, ec_zn7, ec_zn8, ec_zn9, ec_zn10, ec_zn12, ec_zn13, ec_zn14, ec_zn15, ec_zn16, ec_zn20, ec_zn30, ec_zn48, ec_zn99, ec_zn120, ec_zn127, ec_zneg, ec_rn0, ec_rn1, ec_rn2, ec_rn3, ec_rn4, ec_rn5, ec_rn6, ec_rn7, ec_rn8, ec_rn9, ec_rn10, ec_rn12, ec_rn13, ec_rn14, ec_rn15, ec_rn16, ec_rn20, ec_rn30, ec_rn48, ec_rn99, ec_rn120, ec_rn127, ec_rnm, ec_zeq, ec_zlt, ec_znF, r1, a1, reduceIte, k1, k2, k3, k4, k5, k6, k7, ec_w_kI, ec_w_shpI, ec_isR_r, ec_zi48 ⟨h0, a1⟩, ec_zc48 ⟨h0, a1⟩, ec_01z, ec_zadd, e1]
    · rw [e3, ec_w_iI, if_neg (by omega), ec_w_iI, if_neg (by omega)]
    · intro k hk
      obtain ⟨f1, f2⟩ := e4 k hk
      refine ⟨fun z => ?_, fun z => ?_⟩
      · by_cases hik : i + 1 ≤ k
        · exact f1 hik
        · have hki : k = i.toNat := by omega
          obtain ⟨f3, f4⟩ := f2 (by omega)
          rw [f3, f4, ec_w_iI, if_neg (by omega), ec_w_iI, if_pos ⟨rfl, hki⟩, ec_w_iI, if_pos ⟨rfl, hki⟩]
          exact ⟨rfl, rfl⟩
      · obtain ⟨f3, f4⟩ := f2 (by omega)
        rw [f3, f4, ec_w_iI, if_neg (by omega), ec_w_iI, if_neg (by omega), ec_w_iI, if_neg (by omega), ec_w_iI, if_neg (by omega)]
        exact ⟨rfl, rfl⟩
/-- the labels: costs, news, the last taken -/
def ec_SS (h : ec_Hp) (p : Nat) (c : Nat → Int) (nw : Nat → Bool) (t : Int) : Prop := (0 ≤ t ∧ t < 48) ∧ h.2.1 p 2 = ec_i t ∧ ∀ k : Nat, k < 48 → (0 ≤ c k ∧ c k ≤ 1000000) ∧ h.2.1 (p + 1) k = ec_i (c k) ∧ h.2.1 (p + 2) k = if nw k then ec_i 1 else ec_i 0
theorem ec_c41 {h : ec_Hp} {p : Nat} {t : Int} (hS : ec_SN h p) (ht : (0 ≤ t ∧ t < 48) ∧ h.2.1 p 2 = ec_i t) : ∃ h', ec_om 41 0 [.ref p, .double 0] [] h = some (.inl none, h') ∧ ec_fr p h h' ∧ ec_SS h' p (fun _ => 1000000) (fun _ => false) t := by
  obtain ⟨h', e1, e2, e3, e4⟩ := ec_c41L 48 0 h hS (by omega) (by omega)
  refine ⟨h', ?_, e2, ht.1, e3.trans ht.2, fun k hk => ⟨⟨by show (0 : Int) ≤ 1000000; decide, by show (1000000 : Int) ≤ 1000000; decide⟩, ((e4 k hk).1 (by omega)).1, ((e4 k hk).1 (by omega)).2⟩⟩
  rw [ec_s41_0, ec_s41_1, ec_zn0]
  exact e1
/-- the cost that is told of a cell -/
def ec_ct (c : Nat → Int) (z : Int) : Int := if (0 ≤ z ∧ z < 48) ∧ c z.toNat < 1000000 then c z.toNat else -1
set_option maxHeartbeats 1000000 in
theorem ec_c36 {h : ec_Hp} {p : Nat} {c : Nat → Int} {nw : Nat → Bool} {t z : Int} (hS : ec_SN h p) (hs : ec_SS h p c nw t) (hz : ec_rg z) : ec_om 36 0 [.ref p, .int (ec_i z)] [] h = some (.inl (some (.int (ec_i (ec_ct c z)))), h) := by
  obtain ⟨⟨k1, k2, k3⟩, ⟨k4, k5⟩, k6, k7⟩ := hS
  unfold ec_ct
  by_cases h0 : z < 0
  · rw [if_neg (by omega)]
    simp only [ec_s36_0, ec_s36_1, ec_s36_4, ec_s36_5, ec_s36_7, ec_s36_10, ec_s36_11, ec_s36_14, ec_s36_15, ec_s36_16, ec_s36_18, ec_s36_21, ec_s36_22, ec_s36_25, ec_s36_26, ec_s36_27, ec_s36_30, ec_s36_31, ec_zn0, ec_zn1, ec_zn2, ec_zn3, ec_zn4, ec_zn5, ec_zn6, ec_zn7, ec_zn8, ec_zn9, ec_zn10, ec_zn12, ec_zn13, ec_zn14, ec_zn15, ec_zn16, ec_zn20, ec_zn30, ec_zn48, ec_zn99, ec_zn120, ec_zn127, ec_zneg, ec_rn0, ec_rn1, ec_rn2, ec_rn3, ec_rn4, ec_rn5, ec_rn6, ec_rn7, ec_rn8, ec_rn9, ec_rn10, ec_rn12, ec_rn13, ec_rn14, ec_rn15, ec_rn16, ec_rn20, ec_rn30, ec_rn48, ec_rn99, ec_rn120, ec_rn127, ec_rnm, ec_zeq, ec_zlt, hz, h0, reduceIte]
  · by_cases h1 : z < 48
    · have hz2 : 0 ≤ z ∧ z < 48 := ⟨by omega, h1⟩
      obtain ⟨⟨f0, f1⟩, f2, f3⟩ := hs.2.2 z.toNat (by omega)
      have r2 : ec_rg (c z.toNat) := ⟨by omega, by omega⟩
      by_cases h2 : c z.toNat < 1000000
      · rw [if_pos ⟨hz2, h2⟩]
        simp only [ec_s36_0, ec_s36_1, ec_s36_4, ec_s36_5, ec_s36_7, ec_s36_10, ec_s36_11, ec_s36_14, ec_s36_15, ec_s36_16, ec_s36_18, ec_s36_21, ec_s36_22, ec_s36_25, ec_s36_26, ec_s36_27, ec_s36_30, ec_s36_31, ec_zn0, ec_zn1, ec_zn2, ec_zn3, ec_zn4, ec_zn5, ec_zn6, ec_zn7, ec_zn8, ec_zn9, ec_zn10, ec_zn12, ec_zn13, ec_zn14, ec_zn15, ec_zn16, ec_zn20, ec_zn30, ec_zn48, ec_zn99, ec_zn120, ec_zn127, ec_zneg, ec_rn0, ec_rn1, ec_rn2, ec_rn3, ec_rn4, ec_rn5, ec_rn6, ec_rn7, ec_rn8, ec_rn9, ec_rn10, ec_rn12, ec_rn13, ec_rn14, ec_rn15, ec_rn16, ec_rn20, ec_rn30, ec_rn48, ec_rn99, ec_rn120, ec_rn127, ec_rnm, ec_zeq, ec_zlt, hz, h0, h1, reduceIte, k1, k2, k4, k5, ec_isR_r, ec_zi48 hz2, ec_zc48 hz2, f2, ec_znF, ec_rnF, r2, h2]
      · rw [if_neg (fun q => h2 q.2)]
        simp only [ec_s36_0, ec_s36_1, ec_s36_4, ec_s36_5, ec_s36_7, ec_s36_10, ec_s36_11, ec_s36_14, ec_s36_15, ec_s36_16, ec_s36_18, ec_s36_21, ec_s36_22, ec_s36_25, ec_s36_26, ec_s36_27, ec_s36_30, ec_s36_31, ec_zn0, ec_zn1, ec_zn2, ec_zn3, ec_zn4, ec_zn5, ec_zn6, ec_zn7, ec_zn8, ec_zn9, ec_zn10, ec_zn12, ec_zn13, ec_zn14, ec_zn15, ec_zn16, ec_zn20, ec_zn30, ec_zn48, ec_zn99, ec_zn120, ec_zn127, ec_zneg, ec_rn0, ec_rn1, ec_rn2, ec_rn3, ec_rn4, ec_rn5, ec_rn6, ec_rn7, ec_rn8, ec_rn9, ec_rn10, ec_rn12, ec_rn13, ec_rn14, ec_rn15, ec_rn16, ec_rn20, ec_rn30, ec_rn48, ec_rn99, ec_rn120, ec_rn127, ec_rnm, ec_zeq, ec_zlt, hz, h0, h1, reduceIte, k1, k2, k4, k5, ec_isR_r, ec_zi48 hz2, ec_zc48 hz2, f2, ec_znF, ec_rnF, r2, h2]
    · rw [if_neg (by omega)]
      simp only [ec_s36_0, ec_s36_1, ec_s36_4, ec_s36_5, ec_s36_7, ec_s36_10, ec_s36_11, ec_s36_14, ec_s36_15, ec_s36_16, ec_s36_18, ec_s36_21, ec_s36_22, ec_s36_25, ec_s36_26, ec_s36_27, ec_s36_30, ec_s36_31, ec_zn0, ec_zn1, ec_zn2, ec_zn3, ec_zn4, ec_zn5, ec_zn6, ec_zn7, ec_zn8, ec_zn9, ec_zn10, ec_zn12, ec_zn13, ec_zn14, ec_zn15, ec_zn16, ec_zn20, ec_zn30, ec_zn48, ec_zn99, ec_zn120, ec_zn127, ec_zneg, ec_rn0, ec_rn1, ec_rn2, ec_rn3, ec_rn4, ec_rn5, ec_rn6, ec_rn7, ec_rn8, ec_rn9, ec_rn10, ec_rn12, ec_rn13, ec_rn14, ec_rn15, ec_rn16, ec_rn20, ec_rn30, ec_rn48, ec_rn99, ec_rn120, ec_rn127, ec_rnm, ec_zeq, ec_zlt, hz, h0, h1, reduceIte]
/-- a cost that is offered -/
def ec_uc (c : Nat → Int) (z : Int) (k : Int) : Nat → Int := if (0 ≤ z ∧ z < 48) ∧ k < c z.toNat then fun j => if j = z.toNat then k else c j else c
def ec_un (c : Nat → Int) (nw : Nat → Bool) (z : Int) (k : Int) : Nat → Bool := if (0 ≤ z ∧ z < 48) ∧ k < c z.toNat then fun j => if j = z.toNat then true else nw j else nw
set_option maxHeartbeats 1000000 in
theorem ec_c42 {h : ec_Hp} {p : Nat} {c : Nat → Int} {nw : Nat → Bool} {t z k : Int} (hS : ec_SN h p) (hs : ec_SS h p c nw t) (hz : ec_rg z) (hk : 0 ≤ k ∧ k ≤ 1000000) : ∃ h', ec_om 42 0 [.ref p, .int (ec_i z), .int (ec_i k)] [] h = some (.inl none, h') ∧ ec_fr p h h' ∧ ec_SS h' p (ec_uc c z k) (ec_un c nw z k) t := by
  obtain ⟨⟨k1, k2, k3⟩, ⟨k4, k5⟩, k6, k7⟩ := hS
  unfold ec_uc ec_un
  by_cases h0 : z < 0
  · rw [if_neg (by omega), if_neg (by omega)]
    exact ⟨h, by simp only [ec_s42_0, ec_s42_1, ec_s42_4, ec_s42_5, ec_s42_7, ec_s42_10, ec_s42_11, ec_s42_12, ec_s42_15, ec_s42_16, ec_s42_17, ec_s42_20, ec_s42_21, ec_s42_24, ec_s42_25, ec_s42_26, ec_s42_27, ec_s42_28, ec_s42_31, ec_s42_32, ec_s42_33, ec_s42_34, ec_zn0, ec_zn1, ec_zn2, ec_zn3, ec_zn4, ec_zn5, ec_zn6, ec_zn7, ec_zn8, ec_zn9, ec_zn10, ec_zn12, ec_zn13, ec_zn14, ec_zn15, ec_zn16, ec_zn20, ec_zn30, ec_zn48, ec_zn99, ec_zn120, ec_zn127, ec_zneg, ec_rn0, ec_rn1, ec_rn2, ec_rn3, ec_rn4, ec_rn5, ec_rn6, ec_rn7, ec_rn8, ec_rn9, ec_rn10, ec_rn12, ec_rn13, ec_rn14, ec_rn15, ec_rn16, ec_rn20, ec_rn30, ec_rn48, ec_rn99, ec_rn120, ec_rn127, ec_rnm, ec_zeq, ec_zlt, hz, h0, reduceIte], ec_fr.refl, hs⟩
  · by_cases h1 : z < 48
    · have hz2 : 0 ≤ z ∧ z < 48 := ⟨by omega, h1⟩
      obtain ⟨⟨f0, f1⟩, f2, f3⟩ := hs.2.2 z.toNat (by omega)
      have r2 : ec_rg (c z.toNat) := ⟨by omega, by omega⟩
      have r3 : ec_rg k := ⟨by omega, by omega⟩
      by_cases h2 : k < c z.toNat
      · rw [if_pos ⟨hz2, h2⟩, if_pos ⟨hz2, h2⟩]
        refine ⟨ec_setI (ec_setI h (p + 1) z.toNat (ec_i k)) (p + 2) z.toNat (ec_i 1), ?_, (ec_fr.I (by omega)).trans (ec_fr.I (by omega)), hs.1, ?_, fun j hj => ?_⟩
        · simp only [ec_s42_0, ec_s42_1, ec_s42_4, ec_s42_5, ec_s42_7, ec_s42_10, ec_s42_11, ec_s42_12, ec_s42_15, ec_s42_16, ec_s42_17, ec_s42_20, ec_s42_21, ec_s42_24, ec_s42_25, ec_s42_26, ec_s42_27, ec_s42_28, ec_s42_31, ec_s42_32, ec_s42_33, ec_s42_34, ec_zn0, ec_zn1, ec_zn2, ec_zn3, ec_zn4, ec_zn5, ec_zn6, ec_zn7, ec_zn8, ec_zn9, ec_zn10, ec_zn12, ec_zn13, ec_zn14, ec_zn15, ec_zn16, ec_zn20, ec_zn30, ec_zn48, ec_zn99, ec_zn120, ec_zn127, ec_zneg, ec_rn0, ec_rn1, ec_rn2, ec_rn3, ec_rn4, ec_rn5, ec_rn6, ec_rn7, ec_rn8, ec_rn9, ec_rn10, ec_rn12, ec_rn13, ec_rn14, ec_rn15, ec_rn16, ec_rn20, ec_rn30, ec_rn48, ec_rn99, ec_rn120, ec_rn127, ec_rnm, ec_zeq, ec_zlt, hz, h0, h1, reduceIte, k1, k2, k3, k4, k5, k6, k7, ec_w_kI, ec_w_shpI, ec_isR_r, ec_zi48 hz2, ec_zc48 hz2, f2, r2, r3, h2, ec_01o]
        · rw [ec_w_iI, if_neg (by omega), ec_w_iI, if_neg (by omega)]
          exact hs.2.1
        · obtain ⟨g1, g2, g3⟩ := hs.2.2 j hj
          rw [ec_w_iI, if_neg (by omega), ec_w_iI, ec_w_iI]
          by_cases hj2 : j = z.toNat
          · subst hj2
            simp only [and_self, if_true]
            exact ⟨hk, trivial⟩
          · rw [if_neg (fun q => hj2 q.2), if_neg (fun q => hj2 q.2), ec_w_iI, if_neg (by omega)]
            simp only [if_neg hj2]
            exact ⟨g1, g2, g3⟩
      · rw [if_neg (fun q => h2 q.2), if_neg (fun q => h2 q.2)]
        exact ⟨h, by simp only [ec_s42_0, ec_s42_1, ec_s42_4, ec_s42_5, ec_s42_7, ec_s42_10, ec_s42_11, ec_s42_12, ec_s42_15, ec_s42_16, ec_s42_17, ec_s42_20, ec_s42_21, ec_s42_24, ec_s42_25, ec_s42_26, ec_s42_27, ec_s42_28, ec_s42_31, ec_s42_32, ec_s42_33, ec_s42_34, ec_zn0, ec_zn1, ec_zn2, ec_zn3, ec_zn4, ec_zn5, ec_zn6, ec_zn7, ec_zn8, ec_zn9, ec_zn10, ec_zn12, ec_zn13, ec_zn14, ec_zn15, ec_zn16, ec_zn20, ec_zn30, ec_zn48, ec_zn99, ec_zn120, ec_zn127, ec_zneg, ec_rn0, ec_rn1, ec_rn2, ec_rn3, ec_rn4, ec_rn5, ec_rn6, ec_rn7, ec_rn8, ec_rn9, ec_rn10, ec_rn12, ec_rn13, ec_rn14, ec_rn15, ec_rn16, ec_rn20, ec_rn30, ec_rn48, ec_rn99, ec_rn120, ec_rn127, ec_rnm, ec_zeq, ec_zlt, hz, h0, h1, reduceIte, k1, k2, k4, k5, ec_isR_r, ec_zi48 hz2, ec_zc48 hz2, f2, r2, r3, h2], ec_fr.refl, hs⟩
    · rw [if_neg (by omega), if_neg (by omega)]
      exact ⟨h, by simp only [ec_s42_0, ec_s42_1, ec_s42_4, ec_s42_5, ec_s42_7, ec_s42_10, ec_s42_11, ec_s42_12, ec_s42_15, ec_s42_16, ec_s42_17, ec_s42_20, ec_s42_21, ec_s42_24, ec_s42_25, ec_s42_26, ec_s42_27, ec_s42_28, ec_s42_31, ec_s42_32, ec_s42_33, ec_s42_34, ec_zn0, ec_zn1, ec_zn2, ec_zn3, ec_zn4, ec_zn5, ec_zn6, ec_zn7, ec_zn8, ec_zn9, ec_zn10, ec_zn12, ec_zn13, ec_zn14, ec_zn15, ec_zn16, ec_zn20, ec_zn30, ec_zn48, ec_zn99, ec_zn120, ec_zn127, ec_zneg, ec_rn0, ec_rn1, ec_rn2, ec_rn3, ec_rn4, ec_rn5, ec_rn6, ec_rn7, ec_rn8, ec_rn9, ec_rn10, ec_rn12, ec_rn13, ec_rn14, ec_rn15, ec_rn16, ec_rn20, ec_rn30, ec_rn48, ec_rn99, ec_rn120, ec_rn127, ec_rnm, ec_zeq, ec_zlt, hz, h0, h1, reduceIte], ec_fr.refl, hs⟩
