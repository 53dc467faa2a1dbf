/-! Numerals; a dungeon's cells: B the object, B+1 the borders, B+2 .. B+9 the tables and their values. -/
theorem ec_zn2 : (2 : Int32) = ec_i 2 := rfl
theorem ec_zn3 : (3 : Int32) = ec_i 3 := rfl
theorem ec_zn4 : (4 : Int32) = ec_i 4 := rfl
theorem ec_zn5 : (5 : Int32) = ec_i 5 := rfl
theorem ec_zn6 : (6 : Int32) = ec_i 6 := rfl
theorem ec_zn7 : (7 : Int32) = ec_i 7 := rfl
theorem ec_zn9 : (9 : Int32) = ec_i 9 := rfl
theorem ec_zn10 : (10 : Int32) = ec_i 10 := rfl
theorem ec_zn12 : (12 : Int32) = ec_i 12 := rfl
theorem ec_zn13 : (13 : Int32) = ec_i 13 := rfl
theorem ec_zn14 : (14 : Int32) = ec_i 14 := rfl
theorem ec_zn15 : (15 : Int32) = ec_i 15 := rfl
theorem ec_zn16 : (16 : Int32) = ec_i 16 := rfl
theorem ec_zn20 : (20 : Int32) = ec_i 20 := rfl
theorem ec_zn30 : (30 : Int32) = ec_i 30 := rfl
theorem ec_zn48 : (48 : Int32) = ec_i 48 := rfl
theorem ec_zn99 : (99 : Int32) = ec_i 99 := rfl
theorem ec_zn120 : (120 : Int32) = ec_i 120 := rfl
theorem ec_zn127 : (127 : Int32) = ec_i 127 := rfl
theorem ec_rn0 : ec_rg 0 := ⟨by decide, by decide⟩
theorem ec_rn1 : ec_rg 1 := ⟨by decide, by decide⟩
theorem ec_rn8 : ec_rg 8 := ⟨by decide, by decide⟩
theorem ec_rn2 : ec_rg 2 := ⟨by decide, by decide⟩
theorem ec_rn3 : ec_rg 3 := ⟨by decide, by decide⟩
theorem ec_rn4 : ec_rg 4 := ⟨by decide, by decide⟩
theorem ec_rn5 : ec_rg 5 := ⟨by decide, by decide⟩
theorem ec_rn6 : ec_rg 6 := ⟨by decide, by decide⟩
theorem ec_rn7 : ec_rg 7 := ⟨by decide, by decide⟩
theorem ec_rn9 : ec_rg 9 := ⟨by decide, by decide⟩
theorem ec_rn10 : ec_rg 10 := ⟨by decide, by decide⟩
theorem ec_rn12 : ec_rg 12 := ⟨by decide, by decide⟩
theorem ec_rn13 : ec_rg 13 := ⟨by decide, by decide⟩
theorem ec_rn14 : ec_rg 14 := ⟨by decide, by decide⟩
theorem ec_rn15 : ec_rg 15 := ⟨by decide, by decide⟩
theorem ec_rn16 : ec_rg 16 := ⟨by decide, by decide⟩
theorem ec_rn20 : ec_rg 20 := ⟨by decide, by decide⟩
theorem ec_rn30 : ec_rg 30 := ⟨by decide, by decide⟩
theorem ec_rn48 : ec_rg 48 := ⟨by decide, by decide⟩
theorem ec_rn99 : ec_rg 99 := ⟨by decide, by decide⟩
theorem ec_rn120 : ec_rg 120 := ⟨by decide, by decide⟩
theorem ec_rn127 : ec_rg 127 := ⟨by decide, by decide⟩
theorem ec_rnm : ec_rg (-1) := ⟨by decide, by decide⟩
theorem ec_zneg {a : Int} : -(ec_i a) = ec_i (-a) := (Int32.ofInt_neg a).symm
def ec_DN (h : ec_Hp) (B : Nat) : Prop := (ec_isK h B 1 = true ∧ ((ec_shp h B).2.2 0 = .ref (B + 1) ∧ (ec_shp h B).2.2 1 = .ref (B + 2) ∧ (ec_shp h B).2.2 2 = .ref (B + 4) ∧ (ec_shp h B).2.2 3 = .ref (B + 6) ∧ (ec_shp h B).2.2 4 = .ref (B + 8))) ∧ (ec_isK h (B + 1) 16 = true ∧ (ec_shp h (B + 1)).2.1 = 192) ∧
  (ec_TB h (B + 2) (B + 3) 10 6 ∧ ec_TB h (B + 4) (B + 5) 6 4 ∧ ec_TB h (B + 6) (B + 7) 6 8 ∧ ec_TB h (B + 8) (B + 9) 6 4)
theorem ec_DN.I {h : ec_Hp} {B p k : Nat} {x : Int32} (hD : ec_DN h B) (hp : p = B + 2 ∨ p = B + 4 ∨ p = B + 6 ∨ p = B + 8 → k ≠ 0 ∧ k ≠ 1) : ec_DN (ec_setI h p k x) B := by
  obtain ⟨h1, h2, h3, h4, h5, h6⟩ := hD
  exact ⟨h1, h2, h3.I (fun z => hp (Or.inl z)), h4.I (fun z => hp (Or.inr (Or.inl z))), h5.I (fun z => hp (Or.inr (Or.inr (Or.inl z)))), h6.I (fun z => hp (Or.inr (Or.inr (Or.inr z))))⟩
theorem ec_len16 {h : ec_Hp} {q : Nat} (k2 : ec_isK h q 16 = true) : (Nat.ble 16 (ec_shp h q).1 && Nat.ble (ec_shp h q).1 20) = true := by
  rw [(ec_isK_spec k2 (by decide)).2]
  rfl
theorem ec_rgs {z : Int} (h : -100000 ≤ z ∧ z < 100000) : ec_rg z := ⟨by omega, by omega⟩
set_option maxHeartbeats 1000000 in
theorem ec_c15 {h : ec_Hp} {B : Nat} {z d : Int} (hD : ec_DN h B) (hz : 0 ≤ z ∧ z < 48) (hd : 0 ≤ d ∧ d < 4) : ec_om 15 0 [.ref B, .int (ec_i z), .int (ec_i d), .double 0] [] h = some (.inl (some (.int (h.2.1 (B + 1) (z * 4 + d).toNat))), h) := by
  obtain ⟨⟨h1, h2, h3, h4, h5, h6⟩, ⟨h7, h8⟩, -⟩ := hD
  have g2 := ec_len16 h7
  have r1 : ec_rg (z * 4 + d) := ec_rgs (by omega)
  have r3 : ec_rg ((192 : Nat) : Int) := ec_rgs (by omega)
  have c1 : ¬ z * 4 + d < 0 := by omega
  have c2 : z * 4 + d < ((192 : Nat) : Int) := by omega
  have g1 : ec_inB (ec_i (z * 4 + d)) 192 = true := ec_zin (by omega) (by omega) (by omega)
  simp only [ec_s15_0, ec_s15_1, ec_s15_2, ec_s15_3, ec_s15_4, ec_s15_5, ec_s15_6, ec_s15_7, ec_s15_10, ec_s15_11, ec_s15_12, ec_s15_15, ec_s15_16, ec_s15_19, ec_s15_20, ec_s15_23, ec_s15_24, ec_s15_25, ec_s15_28, ec_s15_29, ec_zn0, ec_zn1, ec_zn2, ec_zn3, ec_zn4, ec_zn5, ec_zn6, ec_zn7, ec_zn8, ec_zn9, ec_zn10, ec_zn12, ec_zn13, ec_zn14, ec_zn15, ec_zn16, ec_zn20, ec_zn30, ec_zn48, ec_zn99, ec_zn120, ec_zn127, ec_zneg, ec_rn0, ec_rn1, ec_rn2, ec_rn3, ec_rn4, ec_rn5, ec_rn6, ec_rn7, ec_rn8, ec_rn9, ec_rn10, ec_rn12, ec_rn13, ec_rn14, ec_rn15, ec_rn16, ec_rn20, ec_rn30, ec_rn48, ec_rn99, ec_rn120, ec_rn127, ec_rnm, ec_zeq, ec_zlt, h1, h2, h7, h8, g2, ec_isR_r, ec_zmul, ec_zadd, ec_zof, r1, r3, c1, c2, g1, reduceIte, ec_zcl (show 0 ≤ z * 4 + d by omega) (by omega)]
set_option maxHeartbeats 1000000 in
theorem ec_c17 {h : ec_Hp} {B : Nat} {z d : Int} {v : Int32} (hD : ec_DN h B) (hz : 0 ≤ z ∧ z < 48) (hd : 0 ≤ d ∧ d < 4) : ec_om 17 0 [.ref B, .int (ec_i z), .int (ec_i d), .int v, .double 0] [] h = some (.inl none, ec_setI h (B + 1) (z * 4 + d).toNat v) := by
  obtain ⟨⟨h1, h2, h3, h4, h5, h6⟩, ⟨h7, h8⟩, -⟩ := hD
  have g2 := ec_len16 h7
  have r1 : ec_rg (z * 4 + d) := ec_rgs (by omega)
  have r3 : ec_rg ((192 : Nat) : Int) := ec_rgs (by omega)
  have c1 : ¬ z * 4 + d < 0 := by omega
  have c2 : z * 4 + d < ((192 : Nat) : Int) := by omega
  have g1 : ec_inB (ec_i (z * 4 + d)) 192 = true := ec_zin (by omega) (by omega) (by omega)
  simp only [ec_s17_0, ec_s17_1, ec_s17_2, ec_s17_3, ec_s17_4, ec_s17_5, ec_s17_7, ec_s17_9, ec_s17_12, ec_s17_14, ec_s17_15, ec_s17_18, ec_s17_19, ec_s17_22, ec_s17_23, ec_s17_26, ec_s17_28, ec_s17_29, ec_s17_30, ec_zn0, ec_zn1, ec_zn2, ec_zn3, ec_zn4, ec_zn5, ec_zn6, ec_zn7, ec_zn8, ec_zn9, ec_zn10, ec_zn12, ec_zn13, ec_zn14, ec_zn15, ec_zn16, ec_zn20, ec_zn30, ec_zn48, ec_zn99, ec_zn120, ec_zn127, ec_zneg, ec_rn0, ec_rn1, ec_rn2, ec_rn3, ec_rn4, ec_rn5, ec_rn6, ec_rn7, ec_rn8, ec_rn9, ec_rn10, ec_rn12, ec_rn13, ec_rn14, ec_rn15, ec_rn16, ec_rn20, ec_rn30, ec_rn48, ec_rn99, ec_rn120, ec_rn127, ec_rnm, ec_zeq, ec_zlt, h1, h2, h7, h8, g2, ec_isR_r, ec_zmul, ec_zadd, ec_zof, r1, r3, c1, c2, g1, reduceIte, ec_zcl (show 0 ≤ z * 4 + d by omega) (by omega)]
/-- the cell beside -/
def ec_nb (z d : Int) : Int := if d = 0 then z - 8 else if d = 1 then z + 1 else if d = 2 then z + 8 else z - 1
theorem ec_c115 {h : ec_Hp} {z d : Int} (hd : 0 ≤ d ∧ d < 4) : ec_om 115 0 [.int (ec_i z), .int (ec_i d)] [] h = some (.inl (some (.int (ec_i (ec_nb z d)))), h) := by
  have r1 : ec_rg d := ec_rgs (by omega)
  unfold ec_nb
  rcases (show d = 0 ∨ d = 1 ∨ d = 2 ∨ d = 3 by omega) with rfl | rfl | rfl | rfl <;> simp only [ec_s115_0, ec_s115_1, ec_s115_28, ec_s115_29, ec_s115_31, ec_s115_32, ec_s115_33, ec_s115_34, ec_s115_35, ec_s115_36, ec_s115_37, ec_s115_38, ec_s115_40, ec_s115_41, ec_s115_42, ec_s115_43, ec_s115_44, ec_s115_45, ec_zn0, ec_zn1, ec_zn2, ec_zn3, ec_zn4, ec_zn5, ec_zn6, ec_zn7, ec_zn8, ec_zn9, ec_zn10, ec_zn12, ec_zn13, ec_zn14, ec_zn15, ec_zn16, ec_zn20, ec_zn30, ec_zn48, ec_zn99, ec_zn120, ec_zn127, ec_zneg, ec_rn0, ec_rn1, ec_rn2, ec_rn3, ec_rn4, ec_rn5, ec_rn6, ec_rn7, ec_rn8, ec_rn9, ec_rn10, ec_rn12, ec_rn13, ec_rn14, ec_rn15, ec_rn16, ec_rn20, ec_rn30, ec_rn48, ec_rn99, ec_rn120, ec_rn127, ec_rnm, ec_zeq, ec_zlt, ec_zadd, ec_zsub, reduceIte] <;> rfl
