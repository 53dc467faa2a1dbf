/-! Numbers: 32-bit ints as integers in range. -/
abbrev ec_i (a : Int) : Int32 := Int32.ofInt a
def ec_rg (a : Int) : Prop := -2147483648 ≤ a ∧ a < 2147483648
theorem ec_zI (x : Int32) : ec_i x.toInt = x := Int32.ofInt_toInt x
theorem ec_zT {a : Int} (h : ec_rg a) : (ec_i a).toInt = a := Int32.toInt_ofInt_of_le h.1 h.2
theorem ec_zadd {a b : Int} : ec_i a + ec_i b = ec_i (a + b) := (Int32.ofInt_add a b).symm
theorem ec_zsub {a b : Int} : ec_i a - ec_i b = ec_i (a - b) := (Int32.ofInt_sub a b).symm
theorem ec_zmul {a b : Int} : ec_i a * ec_i b = ec_i (a * b) := (Int32.ofInt_mul a b).symm
theorem ec_zlt {a b : Int} (ha : ec_rg a) (hb : ec_rg b) : (ec_i a < ec_i b) = (a < b) := by
  rw [Int32.lt_iff_toInt_lt, ec_zT ha, ec_zT hb]
theorem ec_zeq {a b : Int} (ha : ec_rg a) (hb : ec_rg b) : (ec_i a = ec_i b) = (a = b) := by
  rw [← Int32.toInt_inj, ec_zT ha, ec_zT hb]
theorem ec_zcl {a : Int} (h0 : 0 ≤ a) (h1 : a < 2147483648) : (ec_i a).toNatClampNeg = a.toNat := Int32.toNatClampNeg_ofInt_of_le (by omega) h1
theorem ec_zin {a : Int} {n : Nat} (h0 : 0 ≤ a) (h1 : a < n) (h2 : a < 2147483648) : ec_inB (ec_i a) n = true := by
  unfold ec_inB
  rw [ec_zcl h0 h2, Bool.and_eq_true]
  refine ⟨decide_eq_true ?_, ?_⟩
  · rw [Int32.le_iff_toInt_le, ec_zT ⟨by omega, h2⟩]
    exact h0
  · rw [Nat.blt_eq]
    omega
theorem ec_zof {n : Nat} : Int32.ofNat n = ec_i (n : Int) := rfl
theorem ec_zn0 : (0 : Int32) = ec_i 0 := rfl
theorem ec_zn1 : (1 : Int32) = ec_i 1 := rfl
/-! Tables: t the object, q its values, M things of w values. -/
def ec_TB (h : ec_Hp) (t q : Nat) (M w : Nat) : Prop := (ec_isK h t 4 = true ∧ ec_isK h q 16 = true) ∧ ((ec_shp h t).2.2 2 = .ref q ∧ (ec_shp h q).2.1 = M * w) ∧ h.2.1 t 0 = ec_i M ∧ h.2.1 t 1 = ec_i w
set_option maxHeartbeats 1000000 in
theorem ec_c48 {h : ec_Hp} {t q M w : Nat} {a b : Int} (hT : ec_TB h t q M w) (ha : 0 ≤ a ∧ a < M) (hb : 0 ≤ b ∧ b < w) (hM : M ≤ 10 ∧ w ≤ 8) :
    ec_om 48 0 [.ref t, .int (ec_i a), .int (ec_i b), .double 0] [] h = some (.inl (some (.int (h.2.1 q (a * w + b).toNat))), h) := by
  obtain ⟨⟨k1, k2⟩, ⟨k3, k4⟩, k5, k6⟩ := hT
  have e0 : 0 ≤ a * w := Int.mul_nonneg ha.1 (Int.natCast_nonneg w)
  have e1 : a * w + b < M * w := by
    have : (a + 1) * w ≤ M * w := Int.mul_le_mul_of_nonneg_right (by omega) (Int.natCast_nonneg w)
    rw [Int.add_mul] at this
    omega
  have e2 : (M * w : Int) ≤ 80 := by
    have := Nat.mul_le_mul hM.1 hM.2
    omega
  have c1 : ¬ a * w + b < 0 := by omega
  have c2 : a * w + b < ((M * w : Nat) : Int) := by
    rw [Int.natCast_mul]
    exact e1
  have g1 : ec_inB (ec_i (a * w + b)) (M * w) = true := ec_zin (by omega) c2 (by omega)
  have g2 : (Nat.ble 16 (ec_shp h q).1 && Nat.ble (ec_shp h q).1 20) = true := by
    rw [(ec_isK_spec k2 (by decide)).2]
    rfl
  have r1 : ec_rg (a * w + b) := ⟨by omega, by omega⟩
  have r2 : ec_rg 0 := ⟨by omega, by omega⟩
  have r3 : ec_rg ((M * w : Nat) : Int) := ⟨by omega, by omega⟩
  simp only [ec_s48_0, ec_s48_1, ec_s48_2, ec_s48_5, ec_s48_6, ec_s48_7, ec_s48_8, ec_s48_9, ec_s48_10, ec_s48_13, ec_s48_14, ec_s48_15, ec_s48_18, ec_s48_19, ec_s48_22, ec_s48_23, ec_s48_26, ec_s48_27, ec_s48_28, ec_s48_31, ec_s48_32, k1, k2, k3, k4, k5, k6, ec_zmul, ec_zadd, ec_zn0, ec_zof, ec_zlt r1 r2, ec_zlt r1 r3, c1, c2, g1, g2, ec_isR_r, ec_zcl (show 0 ≤ a * w + b by omega) (by omega), if_true, if_false, ite_true, ite_false, reduceIte]
