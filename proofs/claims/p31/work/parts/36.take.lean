/-! Contracts: the news are taken in turn. -/
theorem ec_zdiv {a b : Int} (ha : 0 ≤ a ∧ a < 2147483648) (hb : 0 < b ∧ b < 2147483648) : ec_i a / ec_i b = ec_i (a / b) := by
  rw [← Int.tdiv_eq_ediv_of_nonneg ha.1]
  exact (Int32.ofInt_tdiv (by show (-2147483648 : Int) ≤ a; omega) (by show a ≤ 2147483647; omega) (by show (-2147483648 : Int) ≤ b; omega) (by show b ≤ 2147483647; omega)).symm
theorem ec_zmod {a b : Int} (ha : 0 ≤ a ∧ a < 2147483648) (hb : 0 < b ∧ b < 2147483648) : ec_i a - ec_i a / ec_i b * ec_i b = ec_i (a % b) := by
  rw [ec_zdiv ha hb, ec_zmul, ec_zsub]
  congr 1
  have := Int.emod_add_mul_ediv a b
  rw [Int.mul_comm] at this
  omega
def ec_tk (nw : Nat → Bool) : Nat → Int → Int × Int
  | 0, t => (-1, t)
  | n + 1, t => if nw ((t + 1) % 48).toNat then ((t + 1) % 48, (t + 1) % 48) else ec_tk nw n ((t + 1) % 48)
def ec_ncl (nw : Nat → Bool) (r : Int) : Nat → Bool := fun j => if (j : Int) = r then false else nw j
theorem ec_SS.t {h : ec_Hp} {p : Nat} {c : Nat → Int} {nw : Nat → Bool} {t t1 : Int} (hs : ec_SS h p c nw t) (h1 : 0 ≤ t1 ∧ t1 < 48) : ec_SS (ec_setI h p 2 (ec_i t1)) p c nw t1 := by
  refine ⟨h1, by rw [ec_w_iI, if_pos ⟨rfl, rfl⟩], fun k hk => ?_⟩
  rw [ec_w_iI, if_neg (by omega), ec_w_iI, if_neg (by omega)]
  exact hs.2.2 k hk
theorem ec_ncl_m {nw : Nat → Bool} : ec_ncl nw (-1) = nw := by
  funext j
  unfold ec_ncl
  rw [if_neg (by omega)]
set_option maxHeartbeats 1000000 in
theorem ec_c44L {p : Nat} {c : Nat → Int} {nw : Nat → Bool} : ∀ (n : Nat) (i t : Int) (h : ec_Hp), ec_SN h p → ec_SS h p c nw t → 0 ≤ i → i + n = 48 →
    ∃ h', ec_om 44 2 [.ref p, .int (ec_i i)] [] h = some (.inl (some (.int (ec_i (ec_tk nw n t).1))), h') ∧ ec_fr p h h' ∧ ec_SS h' p c (ec_ncl nw (ec_tk nw n t).1) (ec_tk nw n t).2 := by
  intro n
  induction n with
  | zero =>
    intro i t h hS hs h0 hi
    have hi : i = 48 := by omega
    subst hi
    refine ⟨h, ?_, ec_fr.refl, ?_⟩
    · simp only [ec_s44_0, ec_s44_1, ec_s44_2, ec_s44_3, ec_s44_5, ec_s44_8, ec_s44_9, ec_s44_10, ec_s44_13, ec_s44_14, ec_s44_15, ec_s44_17, ec_s44_18, ec_s44_21, ec_s44_22, ec_s44_25, ec_s44_28, ec_s44_29, ec_s44_32, ec_s44_33, ec_s44_36, ec_s44_37, ec_s44_40, ec_s44_41, ec_s44_44, ec_s44_45, ec_s44_48, ec_s44_49, ec_s44_50, ec_s44_51, ec_s44_54, ec_s44_55, ec_s44_58, ec_s44_61, ec_s44_62, ec_zn0, ec_zn1, ec_zn2, ec_zn3, ec_zn4, ec_zn5, ec_zn6, ec_zn7, ec_zn8, ec_zn9, ec_zn10, ec_zn12, ec_zn13, ec_zn14, ec_zn15, ec_zn16, ec_zn20, ec_zn30, ec_zn48, ec_zn99, ec_zn120, ec_zn127, ec_zneg, ec_rn0, ec_rn1, ec_rn2, ec_rn3, ec_rn4, ec_rn5, ec_rn6, ec_rn7, ec_rn8, ec_rn9, ec_rn10, ec_rn12, ec_rn13, ec_rn14, ec_rn15, ec_rn16, ec_rn20, ec_rn30, ec_rn48, ec_rn99, ec_rn120, ec_rn127, ec_rnm, ec_zeq, ec_zlt, Int.lt_irrefl, reduceIte, ec_tk]
    · show ec_SS h p c (ec_ncl nw (-1)) t
      rw [ec_ncl_m]
      exact hs
  | succ n ih =>
    intro i t h hS hs h0 hi
    have r1 : ec_rg i := ec_rgs (by omega)
    have a1 : i < 48 := by omega
    have t0 := hs.1
    have t2 := hs.2.1
    have m := ec_zmod (a := t + 1) (b := 48) (by omega) (by omega)
    have ht1 : 0 ≤ (t + 1) % 48 ∧ (t + 1) % 48 < 48 := by omega
    have hs1 := hs.t ht1
    have hx : ec_tk nw (n + 1) t = if nw ((t + 1) % 48).toNat then ((t + 1) % 48, (t + 1) % 48) else ec_tk nw n ((t + 1) % 48) := rfl
    rw [hx]
    generalize (t + 1) % 48 = t1 at m ht1 hs1 ⊢
    have r2 : ec_rg t1 := ec_rgs (by omega)
    have a2 : (t1 < 0) = False := eq_false (by omega)
    obtain ⟨-, f2, f3⟩ := hs1.2.2 t1.toNat (by omega)
    have f4 := hs1.2.1
    obtain ⟨⟨k1, k2, k3⟩, ⟨k4, k5⟩, k6, k7⟩ := id hS
    rw [ec_s44_2]
    cases hn : nw t1.toNat with
    | true =>
      rw [if_pos rfl]
      rw [hn, if_pos rfl] at f3
      have f5 : (ec_setI (ec_setI h p 2 (ec_i t1)) (p + 2) t1.toNat (ec_i 0)).2.1 p 2 = ec_i t1 := by rw [ec_w_iI, if_neg (by omega), f4]
      refine ⟨ec_setI (ec_setI h p 2 (ec_i t1)) (p + 2) t1.toNat (ec_i 0), ?_, (ec_fr.I (by omega)).trans (ec_fr.I (by omega)), ?_⟩
      · simp only [ec_s44_0, ec_s44_1, ec_s44_3, ec_s44_5, ec_s44_8, ec_s44_9, ec_s44_10, ec_s44_13, ec_s44_14, ec_s44_15, ec_s44_17, ec_s44_18, ec_s44_21, ec_s44_22, ec_s44_25, ec_s44_28, ec_s44_29, ec_s44_32, ec_s44_33, ec_s44_36, ec_s44_37, ec_s44_40, ec_s44_41, ec_s44_44, ec_s44_45, ec_s44_48, ec_s44_49, ec_s44_50, ec_s44_51, ec_s44_54, ec_s44_55, ec_s44_58, ec_s44_61, ec_s44_62, ec_zn0, ec_zn1, ec_zn2, ec_zn3, ec_zn4, ec_zn5, ec_zn6, ec_zn7, ec_zn8, ec_zn9, ec_zn10, ec_zn12, ec_zn13, ec_zn14, ec_zn15, ec_zn16, ec_zn20, ec_zn30, ec_zn48, ec_zn99, ec_zn120, ec_zn127, ec_zneg, ec_rn0, ec_rn1, ec_rn2, ec_rn3, ec_rn4, ec_rn5, ec_rn6, ec_rn7, ec_rn8, ec_rn9, ec_rn10, ec_rn12, ec_rn13, ec_rn14, ec_rn15, ec_rn16, ec_rn20, ec_rn30, ec_rn48, ec_rn99, ec_rn120, ec_rn127, ec_rnm, ec_zeq, ec_zlt, r1, a1, reduceIte, k1, k2, k3, k4, k5, k6, k7, ec_w_kI, ec_w_shpI, ec_isR_r, t2, ec_zadd, m, f4, r2, a2, ec_zi48 ht1, ec_zc48 ht1, f3, f5, Int.reduceEq, decide_false, Bool.not_false, ec_01z]
      · refine ⟨ht1, f5, fun j hj => ?_⟩
        obtain ⟨g1, g2, g3⟩ := hs1.2.2 j hj
        rw [ec_w_iI, if_neg (by omega), ec_w_iI (q := p + 2)]
        refine ⟨g1, g2, ?_⟩
        unfold ec_ncl
        by_cases hj2 : j = t1.toNat
        · rw [if_pos ⟨rfl, hj2⟩, if_pos (show (j : Int) = t1 by omega), if_neg (by decide)]
        · rw [if_neg (fun q => hj2 q.2), if_neg (show ¬ (j : Int) = t1 by omega)]
          exact g3
    | false =>
      rw [if_neg (by decide)]
      rw [hn, if_neg (by decide)] at f3
      obtain ⟨h', e1, e2, e3⟩ := ih (i + 1) t1 (ec_setI h p 2 (ec_i t1)) hS hs1 (by omega) (by omega)
      refine ⟨h', ?_, (ec_fr.I (by omega)).trans e2, e3⟩
      simp only [ec_s44_0, ec_s44_1, ec_s44_3, ec_s44_5, ec_s44_8, ec_s44_9, ec_s44_10, ec_s44_13, ec_s44_14, ec_s44_15, ec_s44_17, ec_s44_18, ec_s44_21, ec_s44_22, ec_s44_25, ec_s44_28, ec_s44_29, ec_s44_32, ec_s44_33, ec_s44_36, ec_s44_37, ec_s44_40, ec_s44_41, ec_s44_44, ec_s44_45, ec_s44_48, ec_s44_49, ec_s44_50, ec_s44_51, ec_s44_54, ec_s44_55, ec_s44_58, ec_s44_61, ec_s44_62, ec_zn0, ec_zn1, ec_zn2, ec_zn3, ec_zn4, ec_zn5, ec_zn6, ec_zn7, ec_zn8, ec_zn9, ec_zn10, ec_zn12, ec_zn13, ec_zn14, ec_zn15, ec_zn16, ec_zn20, ec_zn30, ec_zn48, ec_zn99, ec_zn120, ec_zn127, ec_zneg, ec_rn0, ec_rn1, ec_rn2, ec_rn3, ec_rn4, ec_rn5, ec_rn6, ec_rn7, ec_rn8, ec_rn9, ec_rn10, ec_rn12, ec_rn13, ec_rn14, ec_rn15, ec_rn16, ec_rn20, ec_rn30, ec_rn48, ec_rn99, ec_rn120, ec_rn127, ec_rnm, ec_zeq, ec_zlt, r1, a1, reduceIte, k1, k2, k3, k4, k5, k6, k7, ec_w_kI, ec_w_shpI, ec_isR_r, t2, ec_zadd, m, f4, r2, a2, ec_zi48 ht1, ec_zc48 ht1, f3, Int.reduceEq, decide_false, Bool.not_false, ec_01z, e1]
theorem ec_c44 {h : ec_Hp} {p : Nat} {c : Nat → Int} {nw : Nat → Bool} {t : Int} (hS : ec_SN h p) (hs : ec_SS h p c nw t) : ∃ h', ec_om 44 0 [.ref p, .double 0] [] h = some (.inl (some (.int (ec_i (ec_tk nw 48 t).1))), h') ∧ ec_fr p h h' ∧ ec_SS h' p c (ec_ncl nw (ec_tk nw 48 t).1) (ec_tk nw 48 t).2 := by
  obtain ⟨h', e1, e2⟩ := ec_c44L 48 0 t h hS hs (by omega) (by omega)
  refine ⟨h', ?_, e2⟩
  rw [ec_s44_0, ec_s44_1, ec_zn0]
  exact e1
