/-! Contracts of the reference: copies, saved states, a new dungeon. -/
def ed_PA (h : ec_Hp) (n : Int) (p : Int → ec_Sg) : Prop := h.2.1 72 4 = ec_i n ∧ (0 ≤ n ∧ n ≤ 4) ∧ ∀ i : Int, 0 ≤ i ∧ i < n → ec_WF (p i) ∧ ∀ z : Int, 0 ≤ z ∧ z < 233 → h.2.1 74 (ec_i (233 * i + z)).toNatClampNeg = ec_i (p i z)
theorem ed_PA.fg {S : Nat → Nat → Prop} {h h' : ec_Hp} {n : Int} {p : Int → ec_Sg} (a : ec_fg S h h') (b : ed_PA h n p) (h1 : ¬ S 72 4) (h2 : ∀ j, ¬ S 74 j) : ed_PA h' n p :=
  ⟨(a.2 _ _ h1).trans b.1, b.2.1, fun i hi => ⟨(b.2.2 i hi).1, fun z hz => (a.2 _ _ (h2 _)).trans ((b.2.2 i hi).2 z hz)⟩⟩
def ed_pn (n : Int) : Int := if n = 4 then 4 else n + 1
def ed_pp (n : Int) (p : Int → ec_Sg) (σ : ec_Sg) : Int → ec_Sg := if n = 4 then fun i => if i = 3 then σ else p (i + 1) else fun i => if i = n then σ else p i
theorem ed_pp_4 {p : Int → ec_Sg} {σ : ec_Sg} {i : Int} : ed_pp 4 p σ i = if i = 3 then σ else p (i + 1) := by
  unfold ed_pp
  rw [if_pos rfl]
theorem ed_pp_n {n : Int} (h : ¬ n = 4) {p : Int → ec_Sg} {σ : ec_Sg} {i : Int} : ed_pp n p σ i = if i = n then σ else p i := by
  unfold ed_pp
  rw [if_neg h]
/-! a new dungeon -/
def ed_new (c r : Int) : ec_Sg := ec_su (ec_su (ec_su (ec_su (fun _ => 0) 0 c) 1 r) 7 5) 8 20
theorem ed_WF_new {c r : Int} (hc : 1 ≤ c ∧ c ≤ 8) (hr : 1 ≤ r ∧ r ≤ 6) : ec_WF (ed_new c r) := by
  have e : ∀ j : Int, j ≠ 0 → j ≠ 1 → j ≠ 7 → j ≠ 8 → ed_new c r j = 0 := fun j h0 h1 h7 h8 => by
    unfold ed_new
    rw [ec_suN h8, ec_suN h7, ec_suN h1, ec_suN h0]
  have e0 : ed_new c r 0 = c := rfl
  have e1 : ed_new c r 1 = r := rfl
  have e7 : ed_new c r 7 = 5 := rfl
  have e8 : ed_new c r 8 = 20 := rfl
  have e2 := e 2 (by decide) (by decide) (by decide) (by decide)
  have e3 := e 3 (by decide) (by decide) (by decide) (by decide)
  have e4 := e 4 (by decide) (by decide) (by decide) (by decide)
  have e5 := e 5 (by decide) (by decide) (by decide) (by decide)
  have e6 := e 6 (by decide) (by decide) (by decide) (by decide)
  have e9 := e 9 (by decide) (by decide) (by decide) (by decide)
  refine ⟨by omega, ⟨?_, by omega⟩, fun z d hz hd hb => ?_, fun n hn => absurd hn (by omega), fun n hn => absurd hn (by omega), fun n hn => absurd hn (by omega), fun n hn => absurd hn (by omega), fun n j hn hj => absurd hn (by omega)⟩
  · unfold ec_ing
    omega
  · have b := ec_bp_rg (d := d) hz.1
    rw [e _ (by omega) (by omega) (by omega) (by omega)]
    omega
