/-! Contracts: the light. -/
/-- what the light needs of the torches: how many, which burn, where -/
def ec_TS (h : ec_Hp) (B : Nat) (n : Int) (f : Int → Bool) (g : Int → Int) : Prop := (0 ≤ n ∧ n ≤ 6) ∧ h.2.1 (B + 4) 3 = ec_i n ∧ ∀ a : Int, 0 ≤ a ∧ a < n → (h.2.1 (B + 5) (a * (4 : Nat) + 3).toNat = ec_i 1 ↔ f a = true) ∧ ec_pl h (B + 5) 4 a = ec_i (g a) ∧ (0 ≤ g a ∧ g a < 48)
theorem ec_fr.TS {p B : Nat} {h h' : ec_Hp} {n : Int} {f : Int → Bool} {g : Int → Int} (a : ec_fr p h h') (hp : B + 9 < p ∨ p + 2 < B) (b : ec_TS h B n f g) : ec_TS h' B n f g := by
  have e1 : ∀ j, h'.2.1 (B + 4) j = h.2.1 (B + 4) j := fun j => a.2.2 _ _ (by omega) (by omega) (by omega)
  have e2 : ∀ j, h'.2.1 (B + 5) j = h.2.1 (B + 5) j := fun j => a.2.2 _ _ (by omega) (by omega) (by omega)
  unfold ec_TS ec_pl at b ⊢
  simp only [e1, e2]
  exact b
def ec_shl (f : Int → Bool) (g : Int → Int) : Nat → Int → (Nat → Int) → (Nat → Bool) → (Nat → Int) × (Nat → Bool)
  | 0, _, c, nw => (c, nw)
  | n + 1, a, c, nw => if f a = true then ec_shl f g n (a + 1) (ec_uc c (g a) 0) (ec_un c nw (g a) 0) else ec_shl f g n (a + 1) c nw
set_option maxHeartbeats 2000000 in
theorem ec_c33L {p B : Nat} (hpB : B + 9 < p ∨ p + 2 < B) {N t : Int} {f : Int → Bool} {g : Int → Int} : ∀ (n : Nat) (a : Int) (c : Nat → Int) (nw : Nat → Bool) (h : ec_Hp), ec_DN h B → ec_TS h B N f g → ec_SN h p → ec_SS h p c nw t → 0 ≤ a → a + n = N →
    ∃ h' : ec_Hp, ec_om 33 6 [.ref p, .ref B, .int (ec_i a)] [] h = ec_om 33 49 [.ref p, .ref B, .int (ec_i N)] [] h' ∧ ec_fr p h h' ∧ ec_SS h' p (ec_shl f g n a c nw).1 (ec_shl f g n a c nw).2 t := by
  intro n
  induction n with
  | zero =>
    intro a c nw h hD hT hS hs h0 ha
    have ha : a = N := by omega
    subst ha
    have r1 : ec_rg a := ec_rgs (by have := hT.1; omega)
    have k1 := hD.1.1
    have k2 := hD.1.2.2.2.1
    have k3 := hD.2.2.2.1.1.1
    refine ⟨h, ?_, ec_fr.refl, hs⟩
    simp only [ec_s33_0, ec_s33_1, ec_s33_4, ec_s33_5, ec_s33_6, ec_s33_7, ec_s33_8, ec_s33_11, ec_s33_14, ec_s33_17, ec_s33_18, ec_s33_21, ec_s33_22, ec_s33_23, ec_s33_26, ec_s33_27, ec_s33_30, ec_s33_31, ec_s33_32, ec_s33_35, ec_s33_36, ec_s33_39, ec_s33_40, ec_s33_43, ec_s33_46, ec_s33_50, ec_s33_53, ec_s33_56, ec_s33_57, ec_s33_58, ec_s33_61, ec_s33_62, ec_s33_65, ec_s33_66, ec_s33_67, ec_s33_68, ec_s33_69, ec_s33_72, ec_zn0, ec_zn1, ec_zn2, ec_zn3, ec_zn4, ec_zn5, ec_zn6, ec_zn7, ec_zn8, ec_zn9, ec_zn10, ec_zn12, ec_zn13, ec_zn14, ec_zn15, ec_zn16, ec_zn20, ec_zn30, ec_zn48, ec_zn99, ec_zn120, ec_zn127, ec_zneg, ec_rn0, ec_rn1, ec_rn2, ec_rn3, ec_rn4, ec_rn5, ec_rn6, ec_rn7, ec_rn8, ec_rn9, ec_rn10, ec_rn12, ec_rn13, ec_rn14, ec_rn15, ec_rn16, ec_rn20, ec_rn30, ec_rn48, ec_rn99, ec_rn120, ec_rn127, ec_rnm, ec_zeq, ec_zlt, k1, k2, k3, ec_isR_r, hT.2.1, r1, Int.lt_irrefl, reduceIte]
  | succ n ih =>
    intro a c nw h hD hT hS hs h0 ha
    have hN := hT.1
    have hn := hT.2.1
    obtain ⟨t1, t2, t3⟩ := hT.2.2 a (by omega)
    have hTb := hD.2.2.2.1
    have r1 : ec_rg a := ec_rgs (by omega)
    have r2 : ec_rg N := ec_rgs (by omega)
    have a1 : a < N := by omega
    have k1 := hD.1.1
    have k2 := hD.1.2.2.2.1
    have k3 := hTb.1.1
    have k4 := hS.1.1
    have g0 := ec_c48 hTb (a := a) (b := 3) (by omega) (by omega) (by omega)
    have g1 := ec_c51 hTb (a := a) (by omega) (by omega) (by omega)
    rw [t2] at g1
    rw [show ec_shl f g (n + 1) a c nw = if f a = true then ec_shl f g n (a + 1) (ec_uc c (g a) 0) (ec_un c nw (g a) 0) else ec_shl f g n (a + 1) c nw from rfl]
    rw [ec_s33_6]
    by_cases hf : f a = true
    · rw [if_pos hf]
      rw [t1.mpr hf] at g0
      obtain ⟨h1, o1, o2, o3⟩ := ec_c42 (z := g a) (k := 0) hS hs (ec_rgs (by omega)) (by omega)
      obtain ⟨h', e1, e2, e3⟩ := ih (a + 1) _ _ h1 (o2.DN hpB hD) (o2.TS hpB hT) (o2.SN hS) o3 (by omega) (by omega)
      refine ⟨h', ?_, o2.trans e2, e3⟩
      simp only [ec_s33_0, ec_s33_1, ec_s33_4, ec_s33_5, ec_s33_7, ec_s33_8, ec_s33_11, ec_s33_14, ec_s33_17, ec_s33_18, ec_s33_21, ec_s33_22, ec_s33_23, ec_s33_26, ec_s33_27, ec_s33_30, ec_s33_31, ec_s33_32, ec_s33_35, ec_s33_36, ec_s33_39, ec_s33_40, ec_s33_43, ec_s33_46, ec_s33_50, ec_s33_53, ec_s33_56, ec_s33_57, ec_s33_58, ec_s33_61, ec_s33_62, ec_s33_65, ec_s33_66, ec_s33_67, ec_s33_68, ec_s33_69, ec_s33_72, ec_zn0, ec_zn1, ec_zn2, ec_zn3, ec_zn4, ec_zn5, ec_zn6, ec_zn7, ec_zn8, ec_zn9, ec_zn10, ec_zn12, ec_zn13, ec_zn14, ec_zn15, ec_zn16, ec_zn20, ec_zn30, ec_zn48, ec_zn99, ec_zn120, ec_zn127, ec_zneg, ec_rn0, ec_rn1, ec_rn2, ec_rn3, ec_rn4, ec_rn5, ec_rn6, ec_rn7, ec_rn8, ec_rn9, ec_rn10, ec_rn12, ec_rn13, ec_rn14, ec_rn15, ec_rn16, ec_rn20, ec_rn30, ec_rn48, ec_rn99, ec_rn120, ec_rn127, ec_rnm, ec_zeq, ec_zlt, k1, k2, k3, k4, ec_isR_r, hn, r1, r2, a1, reduceIte, g0, g1, o1, ec_aft_v, ec_aft_n, ec_zadd, e1]
    · rw [if_neg hf]
      have hne : ¬ h.2.1 (B + 5) (a * (4 : Nat) + 3).toNat = ec_i 1 := fun q => hf (t1.mp q)
      obtain ⟨h', e1, e2, e3⟩ := ih (a + 1) _ _ h hD hT hS hs (by omega) (by omega)
      refine ⟨h', ?_, e2, e3⟩
      generalize h.2.1 (B + 5) (a * (4 : Nat) + 3).toNat = y at g0 hne
      simp only [ec_s33_0, ec_s33_1, ec_s33_4, ec_s33_5, ec_s33_7, ec_s33_8, ec_s33_11, ec_s33_14, ec_s33_17, ec_s33_18, ec_s33_21, ec_s33_22, ec_s33_23, ec_s33_26, ec_s33_27, ec_s33_30, ec_s33_31, ec_s33_32, ec_s33_35, ec_s33_36, ec_s33_39, ec_s33_40, ec_s33_43, ec_s33_46, ec_s33_50, ec_s33_53, ec_s33_56, ec_s33_57, ec_s33_58, ec_s33_61, ec_s33_62, ec_s33_65, ec_s33_66, ec_s33_67, ec_s33_68, ec_s33_69, ec_s33_72, ec_zn0, ec_zn1, ec_zn2, ec_zn3, ec_zn4, ec_zn5, ec_zn6, ec_zn7, ec_zn8, ec_zn9, ec_zn10, ec_zn12, ec_zn13, ec_zn14, ec_zn15, ec_zn16, ec_zn20, ec_zn30, ec_zn48, ec_zn99, ec_zn120, ec_zn127, ec_zneg, ec_rn0, ec_rn1, ec_rn2, ec_rn3, ec_rn4, ec_rn5, ec_rn6, ec_rn7, ec_rn8, ec_rn9, ec_rn10, ec_rn12, ec_rn13, ec_rn14, ec_rn15, ec_rn16, ec_rn20, ec_rn30, ec_rn48, ec_rn99, ec_rn120, ec_rn127, ec_rnm, ec_zeq, ec_zlt, k1, k2, k3, k4, ec_isR_r, hn, r1, r2, a1, reduceIte, g0, hne, ec_aft_v, ec_zadd, e1]
/-- the labels of the light -/
def ec_L0 (N : Int) (f : Int → Bool) (g : Int → Int) (lit : Bool) (z : Int) : (Nat → Int) × (Nat → Bool) :=
  if lit = true then (ec_uc (ec_shl f g N.toNat 0 (fun _ => 1000000) (fun _ => false)).1 z 1, ec_un (ec_shl f g N.toNat 0 (fun _ => 1000000) (fun _ => false)).1 (ec_shl f g N.toNat 0 (fun _ => 1000000) (fun _ => false)).2 z 1) else ec_shl f g N.toNat 0 (fun _ => 1000000) (fun _ => false)
set_option maxHeartbeats 2000000 in
theorem ec_c33 {h : ec_Hp} {p B : Nat} (hpB : B + 9 < p ∨ p + 2 < B) {P : Int → Int → Int} {N t z : Int} {f : Int → Bool} {g : Int → Int} {lit : Bool} {c : Nat → Int} {nw : Nat → Bool} (hz : 0 ≤ z ∧ z < 48) (hh : h.2.1 B 7 = ec_i z) (hl : h.2.1 B 10 = if lit = true then ec_i 1 else ec_i 0) (hD : ec_DN h B) (hT : ec_TS h B N f g) (hP : ec_PB h B (ec_i 0) P) (hS : ec_SN h p) (hs : ec_SS h p c nw t) :
    ∃ h' : ec_Hp, ec_om 33 0 [.ref p, .ref B, .double 0] [] h = some (.inl none, h') ∧ ec_fr p h h' ∧
      ec_SS h' p (ec_sp P 3 2304 (ec_L0 N f g lit z).1 (ec_L0 N f g lit z).2 t).1 (ec_sp P 3 2304 (ec_L0 N f g lit z).1 (ec_L0 N f g lit z).2 t).2.1 (ec_sp P 3 2304 (ec_L0 N f g lit z).1 (ec_L0 N f g lit z).2 t).2.2 := by
  have hN := hT.1
  obtain ⟨h1, a1, a2, a3⟩ := ec_c41 hS ⟨hs.1, hs.2.1⟩
  obtain ⟨h2, b1, b2, b3⟩ := ec_c33L hpB N.toNat 0 _ _ h1 (a2.DN hpB hD) (a2.TS hpB hT) (a2.SN hS) a3 (by omega) (by omega)
  have q := a2.trans b2
  have k0 := hS.1.1
  have k1 := (q.DN hpB hD).1.1
  have k2 := (q.SN hS).1.1
  have e7 : h2.2.1 B 7 = ec_i z := (q.2.2 B 7 (by omega) (by omega) (by omega)).trans hh
  have e10 : h2.2.1 B 10 = if lit = true then ec_i 1 else ec_i 0 := (q.2.2 B 10 (by omega) (by omega) (by omega)).trans hl
  unfold ec_L0
  rw [ec_s33_0]
  cases lit with
  | true =>
    rw [if_pos rfl] at e10
    rw [if_pos rfl]
    obtain ⟨h3, d1, d2, d3⟩ := ec_c42 (z := z) (k := 1) (q.SN hS) b3 (ec_rgs (by omega)) (by omega)
    have q2 := q.trans d2
    obtain ⟨h4, f1, f2, f3⟩ := ec_c43 hpB (lim := 3) (by omega) (q2.DN hpB hD) (q2.PB hpB hP) (q2.SN hS) d3
    have k3 := (q2.SN hS).1.1
    refine ⟨h4, ?_, q2.trans f2, f3⟩
    simp only [ec_s33_0, ec_s33_1, ec_s33_4, ec_s33_5, ec_s33_7, ec_s33_8, ec_s33_11, ec_s33_14, ec_s33_17, ec_s33_18, ec_s33_21, ec_s33_22, ec_s33_23, ec_s33_26, ec_s33_27, ec_s33_30, ec_s33_31, ec_s33_32, ec_s33_35, ec_s33_36, ec_s33_39, ec_s33_40, ec_s33_43, ec_s33_46, ec_s33_49, ec_s33_50, ec_s33_53, ec_s33_56, ec_s33_57, ec_s33_58, ec_s33_61, ec_s33_62, ec_s33_65, ec_s33_66, ec_s33_67, ec_s33_68, ec_s33_69, ec_s33_72, ec_zn0, ec_zn1, ec_zn2, ec_zn3, ec_zn4, ec_zn5, ec_zn6, ec_zn7, ec_zn8, ec_zn9, ec_zn10, ec_zn12, ec_zn13, ec_zn14, ec_zn15, ec_zn16, ec_zn20, ec_zn30, ec_zn48, ec_zn99, ec_zn120, ec_zn127, ec_zneg, ec_rn0, ec_rn1, ec_rn2, ec_rn3, ec_rn4, ec_rn5, ec_rn6, ec_rn7, ec_rn8, ec_rn9, ec_rn10, ec_rn12, ec_rn13, ec_rn14, ec_rn15, ec_rn16, ec_rn20, ec_rn30, ec_rn48, ec_rn99, ec_rn120, ec_rn127, ec_rnm, ec_zeq, ec_zlt, k0, k1, k2, k3, a1, b1, d1, f1, e7, e10, ec_aft_n, Int.reduceEq, reduceIte]
  | false =>
    rw [if_neg (by decide)] at e10
    rw [if_neg (by decide)]
    obtain ⟨h4, f1, f2, f3⟩ := ec_c43 hpB (lim := 3) (by omega) (q.DN hpB hD) (q.PB hpB hP) (q.SN hS) b3
    refine ⟨h4, ?_, q.trans f2, f3⟩
    simp only [ec_s33_0, ec_s33_1, ec_s33_4, ec_s33_5, ec_s33_7, ec_s33_8, ec_s33_11, ec_s33_14, ec_s33_17, ec_s33_18, ec_s33_21, ec_s33_22, ec_s33_23, ec_s33_26, ec_s33_27, ec_s33_30, ec_s33_31, ec_s33_32, ec_s33_35, ec_s33_36, ec_s33_39, ec_s33_40, ec_s33_43, ec_s33_46, ec_s33_49, ec_s33_50, ec_s33_53, ec_s33_56, ec_s33_57, ec_s33_58, ec_s33_61, ec_s33_62, ec_s33_65, ec_s33_66, ec_s33_67, ec_s33_68, ec_s33_69, ec_s33_72, ec_zn0, ec_zn1, ec_zn2, ec_zn3, ec_zn4, ec_zn5, ec_zn6, ec_zn7, ec_zn8, ec_zn9, ec_zn10, ec_zn12, ec_zn13, ec_zn14, ec_zn15, ec_zn16, ec_zn20, ec_zn30, ec_zn48, ec_zn99, ec_zn120, ec_zn127, ec_zneg, ec_rn0, ec_rn1, ec_rn2, ec_rn3, ec_rn4, ec_rn5, ec_rn6, ec_rn7, ec_rn8, ec_rn9, ec_rn10, ec_rn12, ec_rn13, ec_rn14, ec_rn15, ec_rn16, ec_rn20, ec_rn30, ec_rn48, ec_rn99, ec_rn120, ec_rn127, ec_rnm, ec_zeq, ec_zlt, k0, k1, k2, a1, b1, f1, e7, e10, ec_aft_n, reduceIte]
