/-! The abstract state: the reference's row of numbers, as integers; numerals and reading for 'simp' with 'omega'. -/
theorem ec_zn11 : (11 : Int32) = ec_i 11 := rfl
theorem ec_zn31 : (31 : Int32) = ec_i 31 := rfl
theorem ec_zn46 : (46 : Int32) = ec_i 46 := rfl
theorem ec_zn57 : (57 : Int32) = ec_i 57 := rfl
theorem ec_zn59 : (59 : Int32) = ec_i 59 := rfl
theorem ec_zn63 : (63 : Int32) = ec_i 63 := rfl
theorem ec_zn101 : (101 : Int32) = ec_i 101 := rfl
theorem ec_zn107 : (107 : Int32) = ec_i 107 := rfl
theorem ec_zn108 : (108 : Int32) = ec_i 108 := rfl
theorem ec_zn110 : (110 : Int32) = ec_i 110 := rfl
theorem ec_zn111 : (111 : Int32) = ec_i 111 := rfl
theorem ec_zn115 : (115 : Int32) = ec_i 115 := rfl
theorem ec_zn116 : (116 : Int32) = ec_i 116 := rfl
theorem ec_zn119 : (119 : Int32) = ec_i 119 := rfl
theorem ec_zn167 : (167 : Int32) = ec_i 167 := rfl
theorem ec_zn185 : (185 : Int32) = ec_i 185 := rfl
theorem ec_zn192 : (192 : Int32) = ec_i 192 := rfl
theorem ec_zn215 : (215 : Int32) = ec_i 215 := rfl
theorem ec_zn233 : (233 : Int32) = ec_i 233 := rfl
theorem ec_zn699 : (699 : Int32) = ec_i 699 := rfl
theorem ec_zn932 : (932 : Int32) = ec_i 932 := rfl
theorem ec_zn999 : (999 : Int32) = ec_i 999 := rfl
theorem ec_zltO {a b : Int} (h : (-2147483648 ≤ a ∧ a < 2147483648) ∧ -2147483648 ≤ b ∧ b < 2147483648) : (ec_i a < ec_i b) = (a < b) := ec_zlt h.1 h.2
theorem ec_zeqO {a b : Int} (h : (-2147483648 ≤ a ∧ a < 2147483648) ∧ -2147483648 ≤ b ∧ b < 2147483648) : (ec_i a = ec_i b) = (a = b) := ec_zeq h.1 h.2
theorem ec_zinO {a : Int} {n : Nat} (h : (0 ≤ a ∧ a < n) ∧ a < 2147483648) : ec_inB (ec_i a) n = true := ec_zin h.1.1 h.1.2 h.2
theorem ec_zdivO {a b : Int} (h : (0 ≤ a ∧ a < 2147483648) ∧ 0 < b ∧ b < 2147483648) : ec_i a / ec_i b = ec_i (a / b) := ec_zdiv h.1 h.2
theorem ec_nzO {a : Int} (h : (-2147483648 ≤ a ∧ a < 2147483648) ∧ a ≠ 0) : (!decide (ec_i a = 0)) = true := by
  rw [ec_zn0, decide_eq_false]
  · rfl
  · rw [ec_zeq h.1 ec_rn0]
    exact h.2
theorem ec_em {a b : Int} : a - a / b * b = a % b := by rw [Int.emod_def, Int.mul_comm]
/-- a truth as a number -/
def ec_q (p : Prop) [d : Decidable p] : Int := if p then 1 else 0
theorem ec_qt {p : Prop} [d : Decidable p] (h : p) : ec_q p = 1 := if_pos h
theorem ec_qf {p : Prop} [d : Decidable p] (h : ¬ p) : ec_q p = 0 := if_neg h
theorem ec_q_rg {p : Prop} [d : Decidable p] : 0 ≤ ec_q p ∧ ec_q p ≤ 1 := by
  unfold ec_q
  split <;> decide
theorem ec_01q {p : Prop} [d : Decidable p] : ec_01 (ec_i (ec_q p)) = true := by
  unfold ec_q
  split <;> decide
theorem ec_zeq0 {p : Prop} [d : Decidable p] : (ec_i (ec_q p) = ec_i 0) = ¬ p := by
  unfold ec_q
  by_cases hp : p
  · rw [if_pos hp, ec_zeq ec_rn1 ec_rn0]
    exact propext ⟨fun q => absurd q (by decide), fun q => absurd hp q⟩
  · rw [if_neg hp]
    exact propext ⟨fun _ => hp, fun _ => rfl⟩
theorem ec_q_if {p : Prop} [d : Decidable p] : (if p then ec_i 1 else ec_i 0) = ec_i (ec_q p) := by
  unfold ec_q
  split <;> rfl
theorem ec_q_c {p r : Prop} [d : Decidable p] [d2 : Decidable r] (h : p ↔ r) : ec_q p = ec_q r := by
  by_cases hp : p
  · rw [ec_qt hp, ec_qt (h.mp hp)]
  · rw [ec_qf hp, ec_qf (fun z => hp (h.mpr z))]
/-! reading what was written -/
theorem ec_rwE {h : ec_Hp} {p : Nat} {z w : Int} {x : Int32} (e : z = w) : (ec_setI h p (ec_i z).toNatClampNeg x).2.1 p (ec_i w).toNatClampNeg = x := by
  subst e
  rw [ec_w_iI, if_pos ⟨rfl, rfl⟩]
theorem ec_rwN {h : ec_Hp} {p : Nat} {z w : Int} {x : Int32} (e : (0 ≤ z ∧ z < 2147483648) ∧ (0 ≤ w ∧ w < 2147483648) ∧ z ≠ w) : (ec_setI h p (ec_i z).toNatClampNeg x).2.1 p (ec_i w).toNatClampNeg = h.2.1 p (ec_i w).toNatClampNeg := by
  rw [ec_w_iI, if_neg]
  rw [ec_zcl e.1.1 e.1.2, ec_zcl e.2.1.1 e.2.1.2]
  omega
theorem ec_rwP {h : ec_Hp} {p q k j : Nat} {x : Int32} (e : p ≠ q) : (ec_setI h p k x).2.1 q j = h.2.1 q j := by
  rw [ec_w_iI, if_neg (fun z => e z.1.symm)]
theorem ec_rwK {h : ec_Hp} {p k j : Nat} {x : Int32} (e : k ≠ j) : (ec_setI h p k x).2.1 p j = h.2.1 p j := by
  rw [ec_w_iI, if_neg (fun z => e z.2.symm)]
theorem ec_rwS {h : ec_Hp} {p k : Nat} {x : Int32} : (ec_setI h p k x).2.1 p k = x := by
  rw [ec_w_iI, if_pos ⟨rfl, rfl⟩]
/-! frames -/
def ec_fg (S : Nat → Nat → Prop) (h h' : ec_Hp) : Prop := (h'.1 = h.1 ∧ h'.2.2 = h.2.2) ∧ ∀ q j, ¬ S q j → h'.2.1 q j = h.2.1 q j
theorem ec_fg.refl {S : Nat → Nat → Prop} {h : ec_Hp} : ec_fg S h h := ⟨⟨rfl, rfl⟩, fun _ _ _ => rfl⟩
theorem ec_fg.trans {S : Nat → Nat → Prop} {h h1 h2 : ec_Hp} (a : ec_fg S h h1) (b : ec_fg S h1 h2) : ec_fg S h h2 := ⟨⟨b.1.1.trans a.1.1, b.1.2.trans a.1.2⟩, fun q j x => (b.2 q j x).trans (a.2 q j x)⟩
theorem ec_fg.mono {S T : Nat → Nat → Prop} {h h' : ec_Hp} (a : ec_fg S h h') (st : ∀ q j, S q j → T q j) : ec_fg T h h' := ⟨a.1, fun q j x => a.2 q j (fun y => x (st q j y))⟩
theorem ec_fg.I {S : Nat → Nat → Prop} {h h' : ec_Hp} {q k : Nat} {x : Int32} (a : ec_fg S h h') (s : S q k) : ec_fg S h (ec_setI h' q k x) := by
  refine ⟨a.1, fun r j y => ?_⟩
  rw [ec_w_iI, if_neg]
  · exact a.2 r j y
  · rintro ⟨rfl, rfl⟩
    exact y s
/-! the row -/
abbrev ec_Sg : Type := Int → Int
def ec_su (σ : ec_Sg) (k v : Int) : ec_Sg := fun j => if j = k then v else σ j
theorem ec_suE {σ : ec_Sg} {k v j : Int} (e : j = k) : ec_su σ k v j = v := if_pos e
theorem ec_suN {σ : ec_Sg} {k v j : Int} (e : j ≠ k) : ec_su σ k v j = σ j := if_neg e
/-- a cell of the dungeon -/
abbrev ec_ing (σ : ec_Sg) (z : Int) : Prop := (0 ≤ z ∧ z < 48) ∧ z % 8 < σ 0 ∧ z / 8 < σ 1
abbrev ec_hb (σ : ec_Sg) (z d : Int) : Prop := d = 0 ∧ 8 ≤ z ∨ d = 1 ∧ z % 8 + 1 < σ 0 ∨ d = 2 ∧ z / 8 + 1 < σ 1 ∨ d = 3 ∧ 0 < z % 8
def ec_bp (z d : Int) : Int := if d = 0 then 51 + z else if d = 1 then 11 + z else if d = 2 then 59 + z else 10 + z
def ec_ba (σ : ec_Sg) (z d : Int) : Int := if ec_hb σ z d then σ (ec_bp z d) else 1
def ec_so (σ : ec_Sg) (b : Int) : Int := σ (107 + 6 * (b - 2))
abbrev ec_cq (σ : ec_Sg) (z d : Int) : Prop := ec_ba σ z d = 0 ∨ 1 < ec_ba σ z d ∧ ec_so σ (ec_ba σ z d) = 1
def ec_WF (σ : ec_Sg) : Prop :=
  ((1 ≤ σ 0 ∧ σ 0 ≤ 8) ∧ (1 ≤ σ 1 ∧ σ 1 ≤ 6) ∧ (0 ≤ σ 2 ∧ σ 2 ≤ 10) ∧ (0 ≤ σ 3 ∧ σ 3 ≤ 6) ∧ (0 ≤ σ 4 ∧ σ 4 ≤ 6) ∧ 0 ≤ σ 5 ∧ σ 5 ≤ 6) ∧
  (ec_ing σ (σ 6) ∧ (0 ≤ σ 7 ∧ σ 7 ≤ 9) ∧ (0 ≤ σ 8 ∧ σ 8 ≤ 99) ∧ (0 ≤ σ 9 ∧ σ 9 ≤ 1) ∧ (σ 9 = 1 → 1 ≤ σ 8)) ∧
  (∀ z d : Int, ec_ing σ z → 0 ≤ d ∧ d < 4 → ec_hb σ z d → 0 ≤ σ (ec_bp z d) ∧ σ (ec_bp z d) < 2 + σ 2) ∧
  (∀ n : Int, 0 ≤ n ∧ n < σ 2 → (0 ≤ σ (107 + 6 * n) ∧ σ (107 + 6 * n) ≤ 2) ∧ (0 ≤ σ (108 + 6 * n) ∧ σ (108 + 6 * n) ≤ 9) ∧ (0 ≤ σ (109 + 6 * n) ∧ σ (109 + 6 * n) ≤ 9) ∧ (0 ≤ σ (112 + 6 * n) ∧ σ (112 + 6 * n) ≤ 9) ∧ (σ (107 + 6 * n) = 1 → 1 ≤ σ (108 + 6 * n) → 1 ≤ σ (112 + 6 * n))) ∧
  (∀ t : Int, 0 ≤ t ∧ t < σ 3 → ec_ing σ (σ (167 + 3 * t)) ∧ (0 ≤ σ (168 + 3 * t) ∧ σ (168 + 3 * t) ≤ 99) ∧ (0 ≤ σ (169 + 3 * t) ∧ σ (169 + 3 * t) ≤ 1) ∧ (σ (169 + 3 * t) = 1 → 1 ≤ σ (168 + 3 * t))) ∧
  (∀ m : Int, 0 ≤ m ∧ m < σ 4 → ec_ing σ (σ (185 + 5 * m)) ∧ (1 ≤ σ (186 + 5 * m) ∧ σ (186 + 5 * m) ≤ 9) ∧ (0 ≤ σ (187 + 5 * m) ∧ σ (187 + 5 * m) ≤ 1) ∧ (σ (188 + 5 * m) = -1 ∨ ec_ing σ (σ (188 + 5 * m)))) ∧
  (∀ k : Int, 0 ≤ k ∧ k < σ 5 → ec_ing σ (σ (215 + 3 * k)) ∧ (0 ≤ σ (216 + 3 * k) ∧ σ (216 + 3 * k) ≤ 2)) ∧
  (∀ k j : Int, 0 ≤ k ∧ k < σ 5 → 0 ≤ j ∧ j < σ 5 → σ (215 + 3 * k) = σ (215 + 3 * j) → k = j)
theorem ec_WF.door {σ : ec_Sg} (w : ec_WF σ) {n : Int} (h : 0 ≤ n ∧ n < σ 2) : (0 ≤ σ (107 + 6 * n) ∧ σ (107 + 6 * n) ≤ 2) ∧ (0 ≤ σ (108 + 6 * n) ∧ σ (108 + 6 * n) ≤ 9) ∧ (0 ≤ σ (109 + 6 * n) ∧ σ (109 + 6 * n) ≤ 9) ∧ (0 ≤ σ (112 + 6 * n) ∧ σ (112 + 6 * n) ≤ 9) ∧ (σ (107 + 6 * n) = 1 → 1 ≤ σ (108 + 6 * n) → 1 ≤ σ (112 + 6 * n)) := w.2.2.2.1 n h
theorem ec_WF.torch {σ : ec_Sg} (w : ec_WF σ) {t : Int} (h : 0 ≤ t ∧ t < σ 3) : ec_ing σ (σ (167 + 3 * t)) ∧ (0 ≤ σ (168 + 3 * t) ∧ σ (168 + 3 * t) ≤ 99) ∧ (0 ≤ σ (169 + 3 * t) ∧ σ (169 + 3 * t) ≤ 1) ∧ (σ (169 + 3 * t) = 1 → 1 ≤ σ (168 + 3 * t)) := w.2.2.2.2.1 t h
theorem ec_WF.mon {σ : ec_Sg} (w : ec_WF σ) {m : Int} (h : 0 ≤ m ∧ m < σ 4) : ec_ing σ (σ (185 + 5 * m)) ∧ (1 ≤ σ (186 + 5 * m) ∧ σ (186 + 5 * m) ≤ 9) ∧ (0 ≤ σ (187 + 5 * m) ∧ σ (187 + 5 * m) ≤ 1) ∧ (σ (188 + 5 * m) = -1 ∨ ec_ing σ (σ (188 + 5 * m))) := w.2.2.2.2.2.1 m h
theorem ec_WF.trap {σ : ec_Sg} (w : ec_WF σ) {k : Int} (h : 0 ≤ k ∧ k < σ 5) : ec_ing σ (σ (215 + 3 * k)) ∧ (0 ≤ σ (216 + 3 * k) ∧ σ (216 + 3 * k) ≤ 2) := w.2.2.2.2.2.2.1 k h
theorem ec_bp_rg {z d : Int} (hz : 0 ≤ z ∧ z < 48) : 10 ≤ ec_bp z d ∧ ec_bp z d < 107 := by
  unfold ec_bp
  split
  · omega
  · split
    · omega
    · split <;> omega
theorem ec_WF.ba {σ : ec_Sg} (w : ec_WF σ) {z d : Int} (hz : ec_ing σ z) (hd : 0 ≤ d ∧ d < 4) : 0 ≤ ec_ba σ z d ∧ ec_ba σ z d < 2 + σ 2 := by
  have := w.1
  unfold ec_ba
  by_cases hb : ec_hb σ z d
  · rw [if_pos hb]
    exact w.2.2.1 z d hz hd hb
  · rw [if_neg hb]
    omega
theorem ec_WF.so {σ : ec_Sg} (w : ec_WF σ) {b : Int} (hb : 2 ≤ b ∧ b < 2 + σ 2) : 0 ≤ ec_so σ b ∧ ec_so σ b ≤ 2 := by
  have := w.door (n := b - 2) (by omega)
  exact this.1
theorem ec_nb_in {σ : ec_Sg} (w : ec_WF σ) {z d : Int} (hz : ec_ing σ z) (hd : 0 ≤ d ∧ d < 4) (hb : ec_hb σ z d) : ec_ing σ (ec_nb z d) := by
  have w := w.1
  unfold ec_nb
  rcases (show d = 0 ∨ d = 1 ∨ d = 2 ∨ d = 3 by omega) with rfl | rfl | rfl | rfl
  · rw [if_pos rfl]; unfold ec_ing at hz ⊢; omega
  · rw [if_neg (by decide), if_pos rfl]; unfold ec_ing at hz ⊢; omega
  · rw [if_neg (by decide), if_neg (by decide), if_pos rfl]; unfold ec_ing at hz ⊢; omega
  · rw [if_neg (by decide), if_neg (by decide), if_neg (by decide)]; unfold ec_ing at hz ⊢; omega
/-! the reference's cells -/
def ec_MD (h : ec_Hp) : Prop :=
  (ec_isK h 72 7 = true ∧ (ec_shp h 72).2.2 0 = .ref 73 ∧ (ec_shp h 72).2.2 1 = .ref 74 ∧ (ec_shp h 72).2.2 2 = .ref 75 ∧ (ec_shp h 72).2.2 3 = .ref 76 ∧ (ec_shp h 72).2.2 5 = .ref 77 ∧ (ec_shp h 72).2.2 8 = .ref 78 ∧ (ec_shp h 72).2.2 9 = .ref 79 ∧ (ec_shp h 72).2.2 10 = .ref 80 ∧ (ec_shp h 72).2.2 11 = .ref 81 ∧ (ec_shp h 72).2.2 12 = .ref 82 ∧ (ec_shp h 72).2.2 13 = .ref 83) ∧
  (ec_isK h 73 16 = true ∧ (ec_shp h 73).2.1 = 233) ∧ (ec_isK h 74 16 = true ∧ (ec_shp h 74).2.1 = 932) ∧ (ec_isK h 75 16 = true ∧ (ec_shp h 75).2.1 = 233) ∧ (ec_isK h 76 16 = true ∧ (ec_shp h 76).2.1 = 233) ∧ (ec_isK h 77 16 = true ∧ (ec_shp h 77).2.1 = 120) ∧
  (ec_isK h 78 17 = true ∧ (ec_shp h 78).2.1 = 48) ∧ (ec_isK h 79 16 = true ∧ (ec_shp h 79).2.1 = 48) ∧ (ec_isK h 80 16 = true ∧ (ec_shp h 80).2.1 = 48) ∧ (ec_isK h 81 16 = true ∧ (ec_shp h 81).2.1 = 48) ∧ (ec_isK h 82 16 = true ∧ (ec_shp h 82).2.1 = 2) ∧ (ec_isK h 83 16 = true ∧ (ec_shp h 83).2.1 = 2)
theorem ec_MD.of {h h' : ec_Hp} (e : h'.1 = h.1) (b : ec_MD h) : ec_MD h' := by
  have e : ∀ q, ec_shp h' q = ec_shp h q := fun q => by show ec_nth _ h'.1 q = ec_nth _ h.1 q; rw [e]
  unfold ec_MD ec_isK at b ⊢
  simp only [e]
  exact b
/-- the row stands in the reference's array -/
def ec_Ms (h : ec_Hp) (σ : ec_Sg) : Prop := ∀ z : Int, 0 ≤ z ∧ z < 233 → h.2.1 73 (ec_i z).toNatClampNeg = ec_i (σ z)
theorem ec_Ms.fg {S : Nat → Nat → Prop} {h h' : ec_Hp} {σ : ec_Sg} (a : ec_fg S h h') (b : ec_Ms h σ) (hS : ∀ j, ¬ S 73 j) : ec_Ms h' σ := fun w hw => (a.2 73 _ (hS _)).trans (b w hw)
