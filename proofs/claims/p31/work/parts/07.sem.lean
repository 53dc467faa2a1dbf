/-! A small machine over the program as data: its one step, its runs, the unfolding of a run, blocks. -/
abbrev ec_Cel : Type := Nat × Nat × (Nat → Value)
/-- shape, ints, longs, cells made, slots made, the script's length, the script -/
abbrev ec_Hp : Type := List ec_Cel × (Nat → Nat → Int32) × (Nat → Nat → Int64) × Nat × Nat × Nat × (Nat → Int32)
abbrev ec_Out : Type := Option Value ⊕ Nat
abbrev ec_Act : Type := (Bool × ec_Out × ec_Hp) ⊕ ((List (Bool × Nat) × List Value × List Value × ec_Hp) ⊕ (Bool × Nat × Nat × List Value × List Value × List Value × ec_Hp))
abbrev ec_shp (h : ec_Hp) (p : Nat) : ec_Cel := ec_nth (1000, 0, fun _ => .null) h.1 p
def ec_upI (f : Nat → Nat → Int32) (p k : Nat) (x : Int32) : Nat → Nat → Int32 := fun q j => if q = p ∧ j = k then x else f q j
def ec_upL (f : Nat → Nat → Int64) (p k : Nat) (x : Int64) : Nat → Nat → Int64 := fun q j => if q = p ∧ j = k then x else f q j
def ec_upA (f : Nat → Nat → Int32) (p : Nat) (g : Nat → Int32) : Nat → Nat → Int32 := fun q j => if q = p then g j else f q j
def ec_clL (f : Nat → Nat → Int64) (p : Nat) : Nat → Nat → Int64 := fun q j => if q = p then 0 else f q j
def ec_setI (h : ec_Hp) (p k : Nat) (x : Int32) : ec_Hp := (h.1, ec_upI h.2.1 p k x, h.2.2)
def ec_setL (h : ec_Hp) (p k : Nat) (x : Int64) : ec_Hp := (h.1, h.2.1, ec_upL h.2.2.1 p k x, h.2.2.2)
def ec_setA (h : ec_Hp) (p : Nat) (g : Nat → Int32) : ec_Hp := (h.1, ec_upA h.2.1 p g, h.2.2)
def ec_upR (c : ec_Cel) (k : Nat) (v : Value) : ec_Cel := (c.1, c.2.1, fun j => if j = k then v else c.2.2 j)
def ec_setR (h : ec_Hp) (p k : Nat) (v : Value) : ec_Hp := (h.1.set p (ec_upR (ec_shp h p) k v), h.2)
def ec_mk (h : ec_Hp) (kd n : Nat) : ec_Hp := (h.1 ++ [(kd, n, fun _ => .null)], ec_upA h.2.1 h.1.length (fun _ => 0), ec_clL h.2.2.1 h.1.length, h.2.2.2.1 + 1, h.2.2.2.2.1 + n, h.2.2.2.2.2)
def ec_thw (h : ec_Hp) : ec_Hp := (h.1, h.2.1, h.2.2.1, h.2.2.2.1 + 1, h.2.2.2.2.1 + 6, h.2.2.2.2.2)
abbrev ec_setV : List Value → Nat → Value → List Value
  | [], _, _ => []
  | _ :: l, 0, v => v :: l
  | a :: l, n + 1, v => a :: ec_setV l n v
/-- a long that begins at the place ahead is gone -/
abbrev ec_cut (ls : List Value) : Nat → List Value
  | 0 => ls
  | j + 1 => match ec_nth (.double 0) ls j with
    | .long _ => ec_setV ls j (.double 0)
    | _ => ls
abbrev ec_put1 (ls : List Value) (i : Nat) (v : Value) : List Value := ec_setV (ec_cut ls i) i v
abbrev ec_put2 (ls : List Value) (i : Nat) (v : Value) : List Value := ec_setV (ec_setV (ec_cut ls i) i v) (i + 1) (.double 0)
def ec_cat : List Value → Nat
  | [] => 0
  | .long _ :: l => ec_cat l + 2
  | .double _ :: l => ec_cat l + 2
  | _ :: l => ec_cat l + 1
abbrev ec_lay : List Value → List Value
  | [] => []
  | .long x :: l => .long x :: .double 0 :: ec_lay l
  | v :: l => v :: ec_lay l
abbrev ec_pad : Nat → List Value → List Value
  | 0, _ => []
  | n + 1, [] => .double 0 :: ec_pad n []
  | n + 1, v :: l => v :: ec_pad n l
def ec_iniL (μ : Nat) (as : List Value) : List Value := ec_pad (ec_mr μ).2.1 (ec_lay as)
def ec_fnd : List (Nat × ec_MI) → Nat → Option ec_MI
  | [], _ => none
  | q :: l, pc => cond (Nat.beq q.1 pc) (some q.2) (ec_fnd l pc)
def ec_ins (μ pc : Nat) : Option ec_MI := ec_fnd (ec_nth [] (ec_nth [] ec_kt μ) (pc / 16)) pc
def ec_fail (h : ec_Hp) : ec_Act := .inl (false, .inl none, h)
def ec_go (pc : Nat) (ls st : List Value) (h : ec_Hp) : ec_Act := .inr (.inl ([(true, pc)], ls, st, h))
def ec_chk (b : Bool) (pc : Nat) (ls st : List Value) (h : ec_Hp) : ec_Act := .inr (.inl ([(b, pc)], ls, st, h))
def ec_br (b : Bool) (t f : Nat) (ls st : List Value) (h : ec_Hp) : ec_Act := .inr (.inl ([(b, t), (true, f)], ls, st, h))
def ec_inB (i : Int32) (n : Nat) : Bool := decide (0 ≤ i) && Nat.blt i.toNatClampNeg n
def ec_01 (x : Int32) : Bool := decide (x = 0) || decide (x = 1)
def ec_isK (h : ec_Hp) (p kd : Nat) : Bool := Nat.beq (ec_shp h p).1 kd
def ec_cmp : Nat → Int32 → Int32 → Bool
  | 0, x, y => decide (x = y)
  | 1, x, y => !decide (x = y)
  | 2, x, y => decide (x < y)
  | 3, x, y => decide (y ≤ x)
  | 4, x, y => decide (y < x)
  | _, x, y => decide (x ≤ y)
def ec_cmp0 : Nat → Int32 → Bool
  | 0, x => decide (x = 0)
  | 1, x => !decide (x = 0)
  | 2, x => decide (x < 0)
  | 3, x => decide (0 ≤ x)
  | 4, x => decide (0 < x)
  | _, x => decide (x ≤ 0)
abbrev ec_take : Nat → List Value → List Value → Option (List Value × List Value)
  | 0, as, st => some (as, st)
  | n + 1, as, v :: st => ec_take n (v :: as) st
  | _ + 1, _, [] => none
/-- what a caller must have left for its callee -/
def ec_rk (μ ν : Nat) : Bool := Nat.ble ((ec_mr ν).2.2.2.2.1 + 1) (ec_mr μ).2.2.2.2.1 && Nat.ble (19 + (ec_mr ν).2.1 + (ec_mr ν).2.2.2.2.2) (ec_mr μ).2.2.2.2.2
def ec_bin (nx : Nat) (ls st : List Value) (h : ec_Hp) (x y : Int32) : Nat → ec_Act
  | 0 => ec_go nx ls (.int (x + y) :: st) h
  | 1 => ec_go nx ls (.int (x - y) :: st) h
  | 2 => ec_go nx ls (.int (x * y) :: st) h
  | 3 => ec_go nx ls (.int (x &&& y) :: st) h
  | 4 => ec_go nx ls (.int (x ||| y) :: st) h
  | 5 => ec_go nx ls (.int (x <<< (y &&& 31)) :: st) h
  | 6 => ec_go nx ls (.int (x.toUInt32 >>> (y.toUInt32 &&& Int32.toUInt32 31)).toInt32 :: st) h
  | 7 => ec_chk (!decide (y = 0)) nx ls (.int (x / y) :: st) h
  | 8 => ec_chk (!decide (y = 0)) nx ls (.int (x - x / y * y) :: st) h
  | 9 => ec_go nx ls (.int (x ^^^ y) :: st) h
  | 10 => ec_go nx ls (.int (x >>> (y &&& 31)) :: st) h
  | _ => ec_fail h
def ec_putf (nx : Nat) (ls st : List Value) (h : ec_Hp) (p ci k : Nat) (v : Value) : Nat → ec_Act
  | 0 => match v with
    | .int x => ec_chk (ec_isK h p ci) nx ls st (ec_setI h p k x)
    | _ => ec_fail h
  | 1 => match v with
    | .int x => ec_chk (ec_isK h p ci && ec_01 x) nx ls st (ec_setI h p k x)
    | _ => ec_fail h
  | 2 => match v with
    | .long x => ec_chk (ec_isK h p ci) nx ls st (ec_setL h p k x)
    | _ => ec_fail h
  | 3 => match v with
    | .ref x => ec_chk (ec_isK h p ci) nx ls st (ec_setR h p k (.ref x))
    | _ => ec_fail h
  | _ => ec_fail h
def ec_ast (nx : Nat) (ls st : List Value) (h : ec_Hp) (p : Nat) (i x : Int32) : Nat → ec_Act
  | 0 => ec_chk (ec_isK h p 16 && ec_inB i (ec_shp h p).2.1) nx ls st (ec_setI h p i.toNatClampNeg x)
  | 1 => ec_chk (ec_isK h p 17 && (ec_inB i (ec_shp h p).2.1 && ec_01 x)) nx ls st (ec_setI h p i.toNatClampNeg x)
  | 2 => ec_chk (ec_isK h p 18 && ec_inB i (ec_shp h p).2.1) nx ls st (ec_setI h p i.toNatClampNeg x.toInt8.toInt32)
  | _ => ec_fail h
def ec_call (μ nx ν : Nat) (ls st : List Value) (h : ec_Hp) : Nat → ec_Act
  | 0 => match ec_take (ec_mr ν).2.2.1 [] st with
    | some (.ref p :: as, rest) => .inr (.inr (ec_isK h p (ec_mr ν).1 && (Nat.ble (ec_cat rest) 8 && (Nat.ble (ec_cat as + 1) (ec_mr ν).2.1 && ec_rk μ ν)), nx, ν, .ref p :: as, ls, rest, h))
    | _ => ec_fail h
  | 2 => match ec_take (ec_mr ν).2.2.1 [] st with
    | some (.ref p :: as, rest) => .inr (.inr (ec_isK h p (ec_mr ν).1 && (Nat.ble (ec_cat rest) 8 && (Nat.ble (ec_cat as + 1) (ec_mr ν).2.1 && ec_rk μ ν)), nx, ν, .ref p :: as, ls, rest, h))
    | _ => ec_fail h
  | _ => match ec_take (ec_mr ν).2.2.1 [] st with
    | some (as, rest) => .inr (.inr (Nat.ble (ec_cat rest) 8 && (Nat.ble (ec_cat as) (ec_mr ν).2.1 && ec_rk μ ν), nx, ν, as, ls, rest, h))
    | _ => ec_fail h
def ec_bui (μ nx : Nat) (ls st : List Value) (h : ec_Hp) : Nat → ec_Act
  | 0 => match st with
    | .ref _ :: st => ec_chk (Nat.ble (ec_cat st) 8 && (Nat.ble 1 (ec_mr μ).2.2.2.2.1 && Nat.ble 21 (ec_mr μ).2.2.2.2.2)) nx ls st h
    | _ => ec_fail h
  | 1 => match st with
    | .int y :: .int x :: st => ec_chk (Nat.ble (ec_cat st) 8 && (Nat.ble 1 (ec_mr μ).2.2.2.2.1 && Nat.ble 21 (ec_mr μ).2.2.2.2.2)) nx ls (.int (if x < y then y else x) :: st) h
    | _ => ec_fail h
  | 2 => match st with
    | .int y :: .int x :: st => ec_chk (Nat.ble (ec_cat st) 8 && (Nat.ble 1 (ec_mr μ).2.2.2.2.1 && Nat.ble 21 (ec_mr μ).2.2.2.2.2)) nx ls (.int (if y < x then y else x) :: st) h
    | _ => ec_fail h
  | 3 => match st with
    | .int n :: .int dp :: .ref b :: .int sp :: .ref a :: st =>
      ec_chk ((Nat.ble (ec_cat st) 8 && (Nat.ble 1 (ec_mr μ).2.2.2.2.1 && Nat.ble 40 (ec_mr μ).2.2.2.2.2)) && ((ec_isK h a 16 && ec_isK h b 16) && ((decide (0 ≤ sp) && (decide (0 ≤ dp) && decide (0 ≤ n))) && (Nat.ble (sp.toNatClampNeg + n.toNatClampNeg) (ec_shp h a).2.1 && Nat.ble (dp.toNatClampNeg + n.toNatClampNeg) (ec_shp h b).2.1))))
        nx ls st (ec_setA h b (va_cpy (h.2.1 a) (h.2.1 b) sp.toNatClampNeg dp.toNatClampNeg n.toNatClampNeg))
    | _ => ec_fail h
  | _ => ec_fail h
def ec_swl (x : Int32) : List (Int32 × Nat) → Nat → List (Bool × Nat)
  | [], d => [(true, d)]
  | q :: l, d => (decide (x = q.1), q.2) :: ec_swl x l d
def ec_step (μ nx : Nat) (ls st : List Value) (h : ec_Hp) (a b c : Nat) (v : Int32) : Nat → ec_Act
  | 0 => ec_go nx ls (.int v :: st) h
  | 1 => match ec_nth (.double 0) ls a with
    | .int x => ec_go nx ls (.int x :: st) h
    | _ => ec_fail h
  | 2 => match ec_nth (.double 0) ls a with
    | .ref x => ec_go nx ls (.ref x :: st) h
    | .float x => ec_go nx ls (.float x :: st) h
    | .null => ec_go nx ls (.null :: st) h
    | _ => ec_fail h
  | 3 => match st with
    | .int x :: st => ec_go nx (ec_put1 ls a (.int x)) st h
    | _ => ec_fail h
  | 4 => match st with
    | .ref x :: st => ec_go nx (ec_put1 ls a (.ref x)) st h
    | .null :: st => ec_go nx (ec_put1 ls a .null) st h
    | .retAddr x :: st => ec_go nx (ec_put1 ls a (.retAddr x)) st h
    | _ => ec_fail h
  | 5 => match ec_nth (.double 0) ls a with
    | .long x => ec_go nx ls (.long x :: st) h
    | _ => ec_fail h
  | 6 => match st with
    | .long x :: st => ec_go nx (ec_put2 ls a (.long x)) st h
    | _ => ec_fail h
  | 7 => match ec_nth (.double 0) ls a with
    | .int x => ec_go nx (ec_put1 ls a (.int (x + v))) st h
    | _ => ec_fail h
  | 8 => match st with
    | .int y :: .int x :: st => ec_bin nx ls st h x y a
    | _ => ec_fail h
  | 9 => match st with
    | .ref p :: st => ec_chk (ec_isK h p a) nx ls (.int (h.2.1 p b) :: st) h
    | _ => ec_fail h
  | 10 => match st with
    | w :: .ref p :: st => ec_putf nx ls st h p a b w (ec_fk a b)
    | _ => ec_fail h
  | 11 => match st with
    | .int i :: .ref p :: st => ec_chk (ec_isK h p (16 + a) && ec_inB i (ec_shp h p).2.1) nx ls (.int (h.2.1 p i.toNatClampNeg) :: st) h
    | .int i :: .float _ :: st => ec_chk (Nat.beq a 0 && ec_inB i h.2.2.2.2.2.1) nx ls (.int (h.2.2.2.2.2.2 i.toNatClampNeg) :: st) h
    | _ => ec_fail h
  | 12 => match st with
    | .int x :: .int i :: .ref p :: st => ec_ast nx ls st h p i x a
    | _ => ec_fail h
  | 13 => match st with
    | .int i :: .ref p :: st => ec_chk (ec_isK h p 19 && ec_inB i (ec_shp h p).2.1) nx ls (.long (h.2.2.1 p i.toNatClampNeg) :: st) h
    | _ => ec_fail h
  | 14 => match st with
    | .long x :: .int i :: .ref p :: st => ec_chk (ec_isK h p 19 && ec_inB i (ec_shp h p).2.1) nx ls st (ec_setL h p i.toNatClampNeg x)
    | _ => ec_fail h
  | 15 => match st with
    | .int i :: .ref p :: st => match (ec_shp h p).2.2 i.toNatClampNeg with
      | .ref q => ec_chk (ec_isK h p 20 && ec_inB i (ec_shp h p).2.1) nx ls (.ref q :: st) h
      | .null => ec_chk (ec_isK h p 20 && ec_inB i (ec_shp h p).2.1) nx ls (.null :: st) h
      | _ => ec_fail h
    | _ => ec_fail h
  | 16 => match st with
    | .ref x :: .int i :: .ref p :: st => ec_chk (ec_isK h p 20 && (ec_isK h x 1 && ec_inB i (ec_shp h p).2.1)) nx ls st (ec_setR h p i.toNatClampNeg (.ref x))
    | _ => ec_fail h
  | 17 => match st with
    | .ref p :: st => ec_chk (Nat.ble 16 (ec_shp h p).1 && Nat.ble (ec_shp h p).1 20) nx ls (.int (Int32.ofNat (ec_shp h p).2.1) :: st) h
    | .float _ :: st => ec_go nx ls (.int (Int32.ofNat h.2.2.2.2.2.1) :: st) h
    | _ => ec_fail h
  | 18 => ec_go a ls st h
  | 19 => match st with
    | .int y :: .int x :: st => ec_br (ec_cmp a x y) b nx ls st h
    | _ => ec_fail h
  | 20 => match st with
    | .int x :: st => ec_br (ec_cmp0 a x) b nx ls st h
    | _ => ec_fail h
  | 21 => match st with
    | .ref _ :: st => ec_go nx ls st h
    | .null :: st => ec_go a ls st h
    | _ => ec_fail h
  | 22 => match st with
    | .ref x :: st => ec_go nx ls (.ref x :: .ref x :: st) h
    | .int x :: st => ec_go nx ls (.int x :: .int x :: st) h
    | _ => ec_fail h
  | 23 => match st with
    | .int y :: .ref x :: st => ec_go nx ls (.int y :: .ref x :: .int y :: .ref x :: st) h
    | _ => ec_fail h
  | 24 => match st with
    | .int x :: st => ec_go nx ls (.long x.toInt64 :: st) h
    | _ => ec_fail h
  | 25 => match st with
    | .int x :: st => ec_go nx ls (.int x.toInt8.toInt32 :: st) h
    | _ => ec_fail h
  | 26 => match st with
    | .long y :: .long x :: st => ec_go nx ls (.long (x + y) :: st) h
    | _ => ec_fail h
  | 27 => match st with
    | .long y :: .long x :: st => ec_go nx ls (.long (x * y) :: st) h
    | _ => ec_fail h
  | 28 => match st with
    | .long y :: .long x :: st => ec_go nx ls (.int (lg_cmp x y) :: st) h
    | _ => ec_fail h
  | 29 => match st with
    | [.int x] => .inl (Nat.beq (ec_mr μ).2.2.2.1 1 || (Nat.beq (ec_mr μ).2.2.2.1 2 && ec_01 x), .inl (some (.int x)), h)
    | _ => ec_fail h
  | 30 => match st with
    | [] => .inl (Nat.beq (ec_mr μ).2.2.2.1 0, .inl none, h)
    | _ => ec_fail h
  | 31 => match st with
    | [.long x] => .inl (Nat.beq (ec_mr μ).2.2.2.1 3, .inl (some (.long x)), h)
    | _ => ec_fail h
  | 32 => match st with
    | [.ref x] => .inl (Nat.beq (ec_mr μ).2.2.2.1 4, .inl (some (.ref x)), h)
    | [.null] => .inl (Nat.beq (ec_mr μ).2.2.2.1 4, .inl (some .null), h)
    | _ => ec_fail h
  | 33 => ec_call μ nx a ls st h c
  | 34 => ec_bui μ nx ls st h a
  | 35 => .inr (.inl ([(true, nx)], ls, .ref h.1.length :: st, ec_mk h a (ec_nth [] ec_ft a).length))
  | 36 => .inl (Nat.ble (ec_cat st) 2 && (Nat.ble 6 (ec_mr μ).2.2.2.2.1 && Nat.ble 90 (ec_mr μ).2.2.2.2.2), .inr a, ec_thw h)
  | 37 => match st with
    | .int n :: st => ec_chk (decide (0 ≤ n) && Nat.ble n.toNatClampNeg 5000) nx ls (.ref h.1.length :: st) (ec_mk h (16 + a) n.toNatClampNeg)
    | _ => ec_fail h
  | 38 => match st with
    | .int n :: st => ec_chk (decide (0 ≤ n) && Nat.ble n.toNatClampNeg 5000) nx ls (.ref h.1.length :: st) (ec_mk h 20 n.toNatClampNeg)
    | _ => ec_fail h
  | 39 => match st with
    | .int x :: st => .inr (.inl (ec_swl x (ec_nth ([], 0) ec_sw a).1 (ec_nth ([], 0) ec_sw a).2, ls, st, h))
    | _ => ec_fail h
  | 40 => ec_go nx ls (.long v.toInt64 :: st) h
  | 41 => ec_go nx ls (.null :: st) h
  | 42 => match st with
    | .ref p :: st => ec_chk (ec_isK h p a) nx ls (.long (h.2.2.1 p b) :: st) h
    | _ => ec_fail h
  | 43 => match st with
    | .ref p :: st => match (ec_shp h p).2.2 b with
      | .ref q => ec_chk (ec_isK h p a) nx ls (.ref q :: st) h
      | .null => ec_chk (ec_isK h p a) nx ls (.null :: st) h
      | _ => ec_fail h
    | _ => ec_fail h
  | _ => ec_fail h
def ec_nxt (μ pc : Nat) (ls st : List Value) (h : ec_Hp) : ec_Act := match ec_ins μ pc with
  | none => ec_fail h
  | some (nx, op, a, b, c, v) => ec_step μ nx ls st h a b c v op
def ec_hnd : List (Nat × Nat × Nat × Nat × Nat) → Nat → Nat → Option Nat
  | [], _, _ => none
  | q :: l, pc, e => cond (Nat.ble q.1 pc && (Nat.blt pc q.2.1 && Nat.beq q.2.2.2.1 e)) (some q.2.2.1) (ec_hnd l pc e)
abbrev ec_Rt : Type := Nat → Nat → List Value → List Value → ec_Hp → Option (ec_Out × ec_Hp)
def ec_aft (R : ec_Rt) (μ pc nx : Nat) (ls rest : List Value) : Option (ec_Out × ec_Hp) → Option (ec_Out × ec_Hp)
  | some (.inl v, h) => R μ nx ls (v.toList ++ rest) h
  | some (.inr e, h) => match ec_hnd (ec_nth [] ec_ht μ) pc e with
    | some t => R μ t ls [.retAddr 0] h
    | none => some (.inr e, h)
  | none => none
def ec_sel : List (Bool × Nat) → (Nat → Option (ec_Out × ec_Hp)) → Option (ec_Out × ec_Hp)
  | [], _ => none
  | q :: l, k => cond q.1 (k q.2) (ec_sel l k)
def ec_act (R : ec_Rt) (G : Nat → List Value → List Value → ec_Hp → Option (ec_Out × ec_Hp)) (μ pc : Nat) : ec_Act → Option (ec_Out × ec_Hp)
  | .inl (b, o, h) => cond b (some (o, h)) none
  | .inr (.inl (gl, ls, st, h)) => ec_sel gl (fun t => G t ls st h)
  | .inr (.inr (b, nx, ν, as, ls, rest, h)) => cond b (ec_aft R μ pc nx ls rest (R ν 0 (ec_iniL ν as) [] h)) none
def ec_run : Nat → ec_Rt
  | 0 => fun _ _ _ _ _ => none
  | n + 1 => fun μ pc ls st h => ec_act (ec_run n) (ec_run n μ) μ pc (ec_nxt μ pc ls st h)
theorem ec_run_s (n μ pc : Nat) (ls st : List Value) (h : ec_Hp) : ec_run (n + 1) μ pc ls st h = ec_act (ec_run n) (ec_run n μ) μ pc (ec_nxt μ pc ls st h) := by rw [ec_run]
def ec_le (R S : ec_Rt) : Prop := ∀ μ pc ls st h o, R μ pc ls st h = some o → S μ pc ls st h = some o
theorem ec_sel_mono {gl : List (Bool × Nat)} {k k' : Nat → Option (ec_Out × ec_Hp)} {o : ec_Out × ec_Hp} (hk : ∀ t, k t = some o → k' t = some o) (h : ec_sel gl k = some o) : ec_sel gl k' = some o := by
  induction gl with
  | nil => cases h
  | cons q l ih =>
    obtain ⟨b, t⟩ := q
    cases b with
    | true => exact hk t h
    | false => exact ih h
theorem ec_aft_mono {R S : ec_Rt} (hR : ec_le R S) {μ pc nx : Nat} {ls rest : List Value} {r r' : Option (ec_Out × ec_Hp)} {o : ec_Out × ec_Hp} (hr : ∀ x, r = some x → r' = some x) (h : ec_aft R μ pc nx ls rest r = some o) : ec_aft S μ pc nx ls rest r' = some o := by
  cases r with
  | none => cases h
  | some x =>
    rw [hr x rfl]
    obtain ⟨w, g⟩ := x
    cases w with
    | inl v => exact hR _ _ _ _ _ _ h
    | inr e =>
      simp only [ec_aft] at h ⊢
      cases hh : ec_hnd (ec_nth [] ec_ht μ) pc e with
      | none => rw [hh] at h; exact h
      | some t => rw [hh] at h; exact hR _ _ _ _ _ _ h
theorem ec_act_mono {R S : ec_Rt} (hR : ec_le R S) {μ pc : Nat} {a : ec_Act} {o : ec_Out × ec_Hp} (h : ec_act R (R μ) μ pc a = some o) : ec_act S (S μ) μ pc a = some o := by
  rcases a with ⟨b, w, g⟩ | ⟨gl, ls, st, g⟩ | ⟨b, nx, ν, as, ls, rest, g⟩
  · exact h
  · exact ec_sel_mono (fun t ht => hR _ _ _ _ _ _ ht) h
  · cases b with
    | false => cases h
    | true => exact ec_aft_mono hR (fun x hx => hR _ _ _ _ _ _ hx) h
theorem ec_run_succ : ∀ n, ec_le (ec_run n) (ec_run (n + 1)) := by
  intro n
  induction n with
  | zero => intro μ pc ls st h o ho; cases ho
  | succ n ih =>
    intro μ pc ls st h o ho
    rw [ec_run_s] at ho ⊢
    exact ec_act_mono ih ho
theorem ec_run_le {n m : Nat} (h : n ≤ m) : ec_le (ec_run n) (ec_run m) := by
  induction h with
  | refl => intro μ pc ls st h o ho; exact ho
  | step _ ih => intro μ pc ls st h o ho; exact ec_run_succ _ _ _ _ _ _ _ (ih _ _ _ _ _ _ ho)
noncomputable def ec_om : ec_Rt := fun μ pc ls st h => @dite _ (∃ o, ∃ n, ec_run n μ pc ls st h = some o) (Classical.propDecidable _) (fun q => some q.choose) (fun _ => none)
theorem ec_om_iff {μ pc : Nat} {ls st : List Value} {h : ec_Hp} {o : ec_Out × ec_Hp} : ec_om μ pc ls st h = some o ↔ ∃ n, ec_run n μ pc ls st h = some o := by
  unfold ec_om
  constructor
  · intro hq
    by_cases q : ∃ o, ∃ n, ec_run n μ pc ls st h = some o
    · rw [dif_pos q] at hq
      obtain ⟨n, hn⟩ := q.choose_spec
      exact ⟨n, by rw [hn]; exact hq⟩
    · rw [dif_neg q] at hq; cases hq
  · rintro ⟨n, hn⟩
    have q : ∃ o, ∃ n, ec_run n μ pc ls st h = some o := ⟨o, n, hn⟩
    rw [dif_pos q]
    obtain ⟨m, hm⟩ := q.choose_spec
    have h1 := ec_run_le (Nat.le_max_left n m) _ _ _ _ _ _ hn
    have h2 := ec_run_le (Nat.le_max_right n m) _ _ _ _ _ _ hm
    rw [h1] at h2
    exact h2.symm
theorem ec_le_om (n : Nat) : ec_le (ec_run n) ec_om := fun _ _ _ _ _ _ h => ec_om_iff.mpr ⟨n, h⟩
theorem ec_sel_fin {gl : List (Bool × Nat)} {μ : Nat} {ls st : List Value} {h : ec_Hp} {o : ec_Out × ec_Hp} (hs : ec_sel gl (fun t => ec_om μ t ls st h) = some o) : ∃ n, ec_sel gl (fun t => ec_run n μ t ls st h) = some o := by
  induction gl with
  | nil => cases hs
  | cons q l ih =>
    obtain ⟨b, t⟩ := q
    cases b with
    | true => exact ec_om_iff.mp hs
    | false => exact ih hs
theorem ec_act_fin {μ pc : Nat} {a : ec_Act} {o : ec_Out × ec_Hp} (h : ec_act ec_om (ec_om μ) μ pc a = some o) : ∃ n, ec_act (ec_run n) (ec_run n μ) μ pc a = some o := by
  rcases a with ⟨b, w, g⟩ | ⟨gl, ls, st, g⟩ | ⟨b, nx, ν, as, ls, rest, g⟩
  · exact ⟨0, h⟩
  · exact ec_sel_fin h
  · cases b with
    | false => cases h
    | true =>
      replace h : ec_aft ec_om μ pc nx ls rest (ec_om ν 0 (ec_iniL ν as) [] g) = some o := h
      cases hc : ec_om ν 0 (ec_iniL ν as) [] g with
      | none => rw [hc] at h; cases h
      | some x =>
        rw [hc] at h
        obtain ⟨n, hn⟩ := ec_om_iff.mp hc
        obtain ⟨w, g'⟩ := x
        have fin : ∀ m, ec_aft (ec_run m) μ pc nx ls rest (some (w, g')) = some o → ∃ n, ec_act (ec_run n) (ec_run n μ) μ pc (.inr (.inr (true, nx, ν, as, ls, rest, g))) = some o := by
          intro m hm
          refine ⟨max n m, ?_⟩
          show ec_aft (ec_run (max n m)) μ pc nx ls rest (ec_run (max n m) ν 0 (ec_iniL ν as) [] g) = some o
          rw [ec_run_le (Nat.le_max_left n m) _ _ _ _ _ _ hn]
          exact ec_aft_mono (ec_run_le (Nat.le_max_right n m)) (fun _ q => q) hm
        cases w with
        | inl v =>
          obtain ⟨m, hm⟩ := ec_om_iff.mp h
          exact fin m hm
        | inr e =>
          simp only [ec_aft] at h
          cases hh : ec_hnd (ec_nth [] ec_ht μ) pc e with
          | none =>
            rw [hh] at h
            exact fin 0 (by simp only [ec_aft, hh]; exact h)
          | some t =>
            rw [hh] at h
            obtain ⟨m, hm⟩ := ec_om_iff.mp h
            exact fin m (by simp only [ec_aft, hh]; exact hm)
/-- a run is its first step and the rest -/
theorem ec_om_eq (μ pc : Nat) (ls st : List Value) (h : ec_Hp) : ec_om μ pc ls st h = ec_act ec_om (ec_om μ) μ pc (ec_nxt μ pc ls st h) := by
  cases hq : ec_act ec_om (ec_om μ) μ pc (ec_nxt μ pc ls st h) with
  | some o =>
    obtain ⟨n, hn⟩ := ec_act_fin hq
    exact ec_om_iff.mpr ⟨n + 1, by rw [ec_run_s]; exact hn⟩
  | none =>
    cases hp : ec_om μ pc ls st h with
    | none => rfl
    | some o =>
      obtain ⟨n, hn⟩ := ec_om_iff.mp hp
      cases n with
      | zero => cases hn
      | succ n =>
        rw [ec_run_s] at hn
        have := ec_act_mono (ec_le_om n) hn
        rw [hq] at this
        cases this
/-- up to k steps of one method, up to its calls, its ends, and the places of 'stop' -/
noncomputable def ec_blk (stop : Nat → Bool) (μ : Nat) : Nat → Nat → List Value → List Value → ec_Hp → Option (ec_Out × ec_Hp)
  | 0 => ec_om μ
  | k + 1 => fun pc ls st h => ec_act ec_om (fun t ls st h => cond (stop t) (ec_om μ t ls st h) (ec_blk stop μ k t ls st h)) μ pc (ec_nxt μ pc ls st h)
theorem ec_blk_eq (stop : Nat → Bool) (μ : Nat) : ∀ (k pc : Nat) (ls st : List Value) (h : ec_Hp), ec_om μ pc ls st h = ec_blk stop μ k pc ls st h := by
  intro k
  induction k with
  | zero => intro pc ls st h; rfl
  | succ k ih =>
    intro pc ls st h
    rw [ec_om_eq]
    show _ = ec_act ec_om (fun t ls st h => cond (stop t) (ec_om μ t ls st h) (ec_blk stop μ k t ls st h)) μ pc (ec_nxt μ pc ls st h)
    congr 1
    funext t ls st h
    cases stop t with
    | true => rfl
    | false => exact ih t ls st h
/-- a method's answer -/
noncomputable def ec_cal (ν : Nat) (as : List Value) (h : ec_Hp) : Option (ec_Out × ec_Hp) := ec_om ν 0 (ec_iniL ν as) [] h
