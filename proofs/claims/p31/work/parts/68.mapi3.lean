/-! Contracts of the reference: making the dungeon, actions, borders. -/
abbrev ed_Gg : Nat → Nat → Prop := fun q j => q = 73 ∨ (78 ≤ q ∧ q ≤ 83) ∨ (q = 72 ∧ j = 14)
def ed_kAc (σ : ec_Sg) (a : Int) : Int := if 0 ≤ a ∧ a ≤ 15 then (if ed_rsn σ a = 0 then 0 else 2) else 1
def ed_kBo (σ : ec_Sg) (x y d : Int) : Int := if ed_qc σ x y then (if 0 ≤ d ∧ d ≤ 3 then 0 else 2) else 1
theorem ed_rsn_rg {σ : ec_Sg} {a : Int} : 0 ≤ ed_rsn σ a ∧ ed_rsn σ a ≤ 6 := by
  unfold ed_rsn
  split
  · omega
  · split
    · split <;> omega
    · split
      · split
        · omega
        · split
          · omega
          · split <;> omega
      · split
        · split <;> omega
        · split <;> omega
theorem ed_Ggn {q : Nat} (hq : q ≠ 73 ∧ q < 78) (h2 : q ≠ 72) : ∀ j, ¬ ed_Gg q j := fun j y => by
  rcases y with y | y | y
  · exact hq.1 y
  · omega
  · exact h2 y.1
theorem ed_Gg72 {j : Nat} (hj : j ≠ 14) : ¬ ed_Gg 72 j := fun y => by
  rcases y with y | y | y
  · exact absurd y (by decide)
  · omega
  · exact hj y.2
/-- what lies aside is not touched -/
theorem ed_ML.x {S : Nat → Nat → Prop} {h h' : ec_Hp} {σ : ec_Sg} {n : Int} {p : Int → ec_Sg} {L : Int} {T : Int → Int} (M : ed_ML h σ n p L T) (a : ec_fg S h h') (h1 : ¬ S 72 4) (h2 : ¬ S 72 6) (h3 : ∀ j, ¬ S 73 j) (h4 : ∀ j, ¬ S 74 j) (h5 : ∀ j, ¬ S 77 j) : ed_ML h' σ n p L T :=
  ⟨M.1.of a.1.1, M.2.1.fg a h3, M.2.2.1, M.2.2.2.1.fg a h1 h4, M.2.2.2.2.fg a h2 h5⟩
/-- the row changes by a turn -/
theorem ed_ML.g {h h' : ec_Hp} {σ τ : ec_Sg} {n : Int} {p : Int → ec_Sg} {L : Int} {T : Int → Int} (M : ed_ML h σ n p L T) (a : ec_fg ed_Gg h h') (s : ec_Ms h' τ) (w : ec_WF τ) : ed_ML h' τ n p L T := ⟨M.1.of a.1.1, s, w, M.2.2.2.1.fg a (ed_Gg72 (by decide)) (ed_Ggn (by decide) (by decide)), M.2.2.2.2.fg a (ed_Gg72 (by decide)) (ed_Ggn (by decide) (by decide))⟩
/-- an answer that is told -/
theorem ed_An.t {h h1 : ec_Hp} {σ : ec_Sg} {n : Int} {p : Int → ec_Sg} {L : Int} {T : Int → Int} {v : Int} {μ : Nat} {as : List Value} (M : ed_ML h1 σ n p L T) (f : ec_fg ed_Fm h h1) (e : ec_om μ 0 as [] h = some (.inl (some (.int (ec_i v))), ec_setI h1 72 7 (ec_i 0))) : ed_An μ as h 0 v σ n p L T := by
  obtain ⟨a, b, c⟩ := M.err 0
  exact ⟨_, e, b, a, f.trans c⟩
section EDC
variable {h : ec_Hp} {σ : ec_Sg} {n : Int} {p : Int → ec_Sg} {L : Int} {T : Int → Int}
end EDC
