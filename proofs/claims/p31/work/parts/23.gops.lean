/-! The steps of the small machine as equations, one lemma a kind of row. -/
section ECG
variable {μ pc nx a b c : Nat} {v : Int32} {ls st : List Value} {h : ec_Hp}
theorem ec_gi {K : List (List (Nat × ec_MI))} {q : ec_MI} (h1 : ec_nth [] ec_kt μ = K) (h2 : ec_fnd (ec_nth [] K (pc / 16)) pc = some q) : ec_ins μ pc = some q := by
  unfold ec_ins
  rw [h1]
  exact h2
theorem ec_g {op : Nat} (hi : ec_ins μ pc = some (nx, op, a, b, c, v)) : ec_om μ pc ls st h = ec_act ec_om (ec_om μ) μ pc (ec_step μ nx ls st h a b c v op) := by
  rw [ec_om_eq]
  unfold ec_nxt
  rw [hi]
theorem ec_gbr {R : ec_Rt} {G : Nat → List Value → List Value → ec_Hp → Option (ec_Out × ec_Hp)} {p : Prop} [d : Decidable p] {t f : Nat} : ec_act R G μ pc (ec_br (decide p) t f ls st h) = if p then G t ls st h else G f ls st h := by
  by_cases hp : p
  · rw [if_pos hp, decide_eq_true hp]
    rfl
  · rw [if_neg hp, decide_eq_false hp]
    rfl
theorem ec_gbrn {R : ec_Rt} {G : Nat → List Value → List Value → ec_Hp → Option (ec_Out × ec_Hp)} {p : Prop} [d : Decidable p] {t f : Nat} : ec_act R G μ pc (ec_br (!decide p) t f ls st h) = if p then G f ls st h else G t ls st h := by
  by_cases hp : p
  · rw [if_pos hp, decide_eq_true hp]
    rfl
  · rw [if_neg hp, decide_eq_false hp]
    rfl
theorem ec_gchk {R : ec_Rt} {G : Nat → List Value → List Value → ec_Hp → Option (ec_Out × ec_Hp)} {q : Bool} {t : Nat} (hq : q = true) : ec_act R G μ pc (ec_chk q t ls st h) = G t ls st h := by
  rw [hq]
  rfl
theorem ec_le_not (x y : Int32) : decide (y ≤ x) = !decide (x < y) := by
  by_cases hp : x < y
  · rw [decide_eq_true hp, decide_eq_false (Int32.not_le.mpr hp)]
    rfl
  · rw [decide_eq_false hp, decide_eq_true (Int32.not_lt.mp hp)]
    rfl
theorem ec_g19 {k : Nat} {x y : Int32} (hi : ec_ins μ pc = some (nx, 19, k, b, c, v)) : ec_om μ pc ls (.int y :: .int x :: st) h = match (generalizing := false) k with
    | 0 => if x = y then ec_om μ b ls st h else ec_om μ nx ls st h
    | 1 => if x = y then ec_om μ nx ls st h else ec_om μ b ls st h
    | 2 => if x < y then ec_om μ b ls st h else ec_om μ nx ls st h
    | 3 => if x < y then ec_om μ nx ls st h else ec_om μ b ls st h
    | 4 => if y < x then ec_om μ b ls st h else ec_om μ nx ls st h
    | _ => if y < x then ec_om μ nx ls st h else ec_om μ b ls st h := by
  rw [ec_g hi]
  show ec_act ec_om (ec_om μ) μ pc (ec_br (ec_cmp k x y) b nx ls st h) = _
  match k with
  | 0 => exact ec_gbr
  | 1 => exact ec_gbrn
  | 2 => exact ec_gbr
  | 3 =>
    show ec_act ec_om (ec_om μ) μ pc (ec_br (decide (y ≤ x)) b nx ls st h) = _
    rw [ec_le_not]
    exact ec_gbrn
  | 4 => exact ec_gbr
  | k + 5 =>
    show ec_act ec_om (ec_om μ) μ pc (ec_br (decide (x ≤ y)) b nx ls st h) = _
    rw [ec_le_not]
    exact ec_gbrn
theorem ec_g20 {k : Nat} {x : Int32} (hi : ec_ins μ pc = some (nx, 20, k, b, c, v)) : ec_om μ pc ls (.int x :: st) h = match (generalizing := false) k with
    | 0 => if x = 0 then ec_om μ b ls st h else ec_om μ nx ls st h
    | 1 => if x = 0 then ec_om μ nx ls st h else ec_om μ b ls st h
    | 2 => if x < 0 then ec_om μ b ls st h else ec_om μ nx ls st h
    | 3 => if x < 0 then ec_om μ nx ls st h else ec_om μ b ls st h
    | 4 => if 0 < x then ec_om μ b ls st h else ec_om μ nx ls st h
    | _ => if 0 < x then ec_om μ nx ls st h else ec_om μ b ls st h := by
  rw [ec_g hi]
  show ec_act ec_om (ec_om μ) μ pc (ec_br (ec_cmp0 k x) b nx ls st h) = _
  match k with
  | 0 => exact ec_gbr
  | 1 => exact ec_gbrn
  | 2 => exact ec_gbr
  | 3 =>
    show ec_act ec_om (ec_om μ) μ pc (ec_br (decide (0 ≤ x)) b nx ls st h) = _
    rw [ec_le_not]
    exact ec_gbrn
  | 4 => exact ec_gbr
  | k + 5 =>
    show ec_act ec_om (ec_om μ) μ pc (ec_br (decide (x ≤ 0)) b nx ls st h) = _
    rw [ec_le_not]
    exact ec_gbrn
theorem ec_g19_0 {x y : Int32} (hi : ec_ins μ pc = some (nx, 19, 0, b, c, v)) : ec_om μ pc ls (.int y :: .int x :: st) h = if x = y then ec_om μ b ls st h else ec_om μ nx ls st h := ec_g19 hi
theorem ec_g19_1 {x y : Int32} (hi : ec_ins μ pc = some (nx, 19, 1, b, c, v)) : ec_om μ pc ls (.int y :: .int x :: st) h = if x = y then ec_om μ nx ls st h else ec_om μ b ls st h := ec_g19 hi
theorem ec_g19_2 {x y : Int32} (hi : ec_ins μ pc = some (nx, 19, 2, b, c, v)) : ec_om μ pc ls (.int y :: .int x :: st) h = if x < y then ec_om μ b ls st h else ec_om μ nx ls st h := ec_g19 hi
theorem ec_g19_3 {x y : Int32} (hi : ec_ins μ pc = some (nx, 19, 3, b, c, v)) : ec_om μ pc ls (.int y :: .int x :: st) h = if x < y then ec_om μ nx ls st h else ec_om μ b ls st h := ec_g19 hi
theorem ec_g19_4 {x y : Int32} (hi : ec_ins μ pc = some (nx, 19, 4, b, c, v)) : ec_om μ pc ls (.int y :: .int x :: st) h = if y < x then ec_om μ b ls st h else ec_om μ nx ls st h := ec_g19 hi
theorem ec_g19_5 {x y : Int32} (hi : ec_ins μ pc = some (nx, 19, 5, b, c, v)) : ec_om μ pc ls (.int y :: .int x :: st) h = if y < x then ec_om μ nx ls st h else ec_om μ b ls st h := ec_g19 hi
theorem ec_g20_0 {x : Int32} (hi : ec_ins μ pc = some (nx, 20, 0, b, c, v)) : ec_om μ pc ls (.int x :: st) h = if x = 0 then ec_om μ b ls st h else ec_om μ nx ls st h := ec_g20 hi
theorem ec_g20_1 {x : Int32} (hi : ec_ins μ pc = some (nx, 20, 1, b, c, v)) : ec_om μ pc ls (.int x :: st) h = if x = 0 then ec_om μ nx ls st h else ec_om μ b ls st h := ec_g20 hi
theorem ec_g20_2 {x : Int32} (hi : ec_ins μ pc = some (nx, 20, 2, b, c, v)) : ec_om μ pc ls (.int x :: st) h = if x < 0 then ec_om μ b ls st h else ec_om μ nx ls st h := ec_g20 hi
theorem ec_g20_3 {x : Int32} (hi : ec_ins μ pc = some (nx, 20, 3, b, c, v)) : ec_om μ pc ls (.int x :: st) h = if x < 0 then ec_om μ nx ls st h else ec_om μ b ls st h := ec_g20 hi
theorem ec_g20_4 {x : Int32} (hi : ec_ins μ pc = some (nx, 20, 4, b, c, v)) : ec_om μ pc ls (.int x :: st) h = if 0 < x then ec_om μ b ls st h else ec_om μ nx ls st h := ec_g20 hi
theorem ec_g20_5 {x : Int32} (hi : ec_ins μ pc = some (nx, 20, 5, b, c, v)) : ec_om μ pc ls (.int x :: st) h = if 0 < x then ec_om μ nx ls st h else ec_om μ b ls st h := ec_g20 hi
theorem ec_gsel {p : Prop} [d : Decidable p] {t : Nat} {gl : List (Bool × Nat)} {f : Nat → Option (ec_Out × ec_Hp)} : ec_sel ((decide p, t) :: gl) f = if p then f t else ec_sel gl f := by
  by_cases hp : p
  · rw [if_pos hp]
    show cond (decide p) _ _ = _
    rw [decide_eq_true hp]
    rfl
  · rw [if_neg hp]
    show cond (decide p) _ _ = _
    rw [decide_eq_false hp]
    rfl
theorem ec_gself {t : Nat} {f : Nat → Option (ec_Out × ec_Hp)} : ec_sel [(true, t)] f = f t := rfl
theorem ec_g39 {x : Int32} (hi : ec_ins μ pc = some (nx, 39, a, b, c, v)) : ec_om μ pc ls (.int x :: st) h = ec_sel (ec_swl x (ec_nth ([], 0) ec_sw a).1 (ec_nth ([], 0) ec_sw a).2) (fun t => ec_om μ t ls st h) := by
  rw [ec_g hi]
  rfl
theorem ec_aft_v {R : ec_Rt} {w : Value} : ec_aft R μ pc nx ls st (some (.inl (some w), h)) = R μ nx ls (w :: st) h := rfl
theorem ec_aft_n {R : ec_Rt} : ec_aft R μ pc nx ls st (some (.inl none, h)) = R μ nx ls st h := rfl
theorem ec_aft_x {R : ec_Rt} {e : Nat} (h0 : ec_nth [] ec_ht μ = []) : ec_aft R μ pc nx ls st (some (.inr e, h)) = some (.inr e, h) := by
  unfold ec_aft
  rw [h0]
  rfl
/-- a checked call -/
theorem ec_gcall {ν : Nat} {as rest : List Value} {R : ec_Rt} {G : Nat → List Value → List Value → ec_Hp → Option (ec_Out × ec_Hp)} {q : Bool} (hq : q = true) : ec_act R G μ pc (.inr (.inr (q, nx, ν, as, ls, rest, h))) = ec_aft R μ pc nx ls rest (R ν 0 (ec_iniL ν as) [] h) := by
  rw [hq]
  rfl
theorem ec_gend {R : ec_Rt} {G : Nat → List Value → List Value → ec_Hp → Option (ec_Out × ec_Hp)} {q : Bool} {o : ec_Out} (hq : q = true) : ec_act R G μ pc (.inl (q, o, h)) = some (o, h) := by
  rw [hq]
  rfl
theorem ec_and2 {x y : Bool} (h1 : x = true) (h2 : y = true) : (x && y) = true := by rw [h1, h2]; rfl
def ec_isR : Value → Bool
  | .ref _ => true
  | _ => false
theorem ec_isR_r {p : Nat} : ec_isR (.ref p) = true := rfl
theorem ec_g43 {p : Nat} (hk : ec_isK h p a = true) (hv : ec_isR ((ec_shp h p).2.2 b) = true) : ec_act ec_om (ec_om μ) μ pc (ec_step μ nx ls (.ref p :: st) h a b c v 43) = ec_om μ nx ls ((ec_shp h p).2.2 b :: st) h := by
  show ec_act ec_om (ec_om μ) μ pc (match (ec_shp h p).2.2 b with
      | .ref q => ec_chk (ec_isK h p a) nx ls (.ref q :: st) h
      | .null => ec_chk (ec_isK h p a) nx ls (.null :: st) h
      | _ => ec_fail h) = _
  generalize (ec_shp h p).2.2 b = w at hv ⊢
  cases w with
  | ref q => exact ec_gchk hk
  | _ => cases hv
theorem ec_g15 {p : Nat} {i : Int32} (hk : (ec_isK h p 20 && ec_inB i (ec_shp h p).2.1) = true) (hv : ec_isR ((ec_shp h p).2.2 i.toNatClampNeg) = true) : ec_act ec_om (ec_om μ) μ pc (ec_step μ nx ls (.int i :: .ref p :: st) h a b c v 15) = ec_om μ nx ls ((ec_shp h p).2.2 i.toNatClampNeg :: st) h := by
  show ec_act ec_om (ec_om μ) μ pc (match (ec_shp h p).2.2 i.toNatClampNeg with
      | .ref q => ec_chk (ec_isK h p 20 && ec_inB i (ec_shp h p).2.1) nx ls (.ref q :: st) h
      | .null => ec_chk (ec_isK h p 20 && ec_inB i (ec_shp h p).2.1) nx ls (.null :: st) h
      | _ => ec_fail h) = _
  generalize (ec_shp h p).2.2 i.toNatClampNeg = w at hv ⊢
  cases w with
  | ref q => exact ec_gchk hk
  | _ => cases hv
end ECG
/-! what writing leaves -/
section ECW
variable {h : ec_Hp} {p q k j kd : Nat} {x : Int32} {y : Int64}
theorem ec_w_shpI : ec_shp (ec_setI h p k x) q = ec_shp h q := rfl
theorem ec_w_shpL : ec_shp (ec_setL h p k y) q = ec_shp h q := rfl
theorem ec_w_shpA {g : Nat → Int32} : ec_shp (ec_setA h p g) q = ec_shp h q := rfl
theorem ec_w_shpT : ec_shp (ec_thw h) q = ec_shp h q := rfl
theorem ec_w_kI : ec_isK (ec_setI h p k x) q kd = ec_isK h q kd := rfl
theorem ec_w_kL : ec_isK (ec_setL h p k y) q kd = ec_isK h q kd := rfl
theorem ec_w_kA {g : Nat → Int32} : ec_isK (ec_setA h p g) q kd = ec_isK h q kd := rfl
theorem ec_w_kT : ec_isK (ec_thw h) q kd = ec_isK h q kd := rfl
theorem ec_w_iI : (ec_setI h p k x).2.1 q j = if q = p ∧ j = k then x else h.2.1 q j := rfl
theorem ec_w_iL : (ec_setL h p k y).2.1 q j = h.2.1 q j := rfl
theorem ec_w_iA {g : Nat → Int32} : (ec_setA h p g).2.1 q j = if q = p then g j else h.2.1 q j := rfl
theorem ec_w_iT : (ec_thw h).2.1 q j = h.2.1 q j := rfl
theorem ec_k_of {h : ec_Hp} {p kd n : Nat} {g : Nat → Value} (e : ec_shp h p = (kd, n, g)) : ec_isK h p kd = true := by
  unfold ec_isK
  rw [e]
  exact Nat.beq_refl kd
end ECW
