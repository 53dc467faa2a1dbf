/-! Contracts of the reference: making the dungeon. -/
def ed_TX (h : ec_Hp) (L : Int) (T : Int → Int) : Prop := h.2.1 72 6 = ec_i L ∧ (0 ≤ L ∧ L ≤ 120) ∧ ∀ i : Int, 0 ≤ i ∧ i < L → h.2.1 77 (ec_i i).toNatClampNeg = ec_i (T i) ∧ (0 ≤ T i ∧ T i ≤ 127)
theorem ed_TX.fg {S : Nat → Nat → Prop} {h h' : ec_Hp} {L : Int} {T : Int → Int} (a : ec_fg S h h') (b : ed_TX h L T) (h1 : ¬ S 72 6) (h2 : ∀ j, ¬ S 77 j) : ed_TX h' L T :=
  ⟨(a.2 _ _ h1).trans b.1, b.2.1, fun i hi => ⟨(a.2 _ _ (h2 _)).trans (b.2.2 i hi).1, (b.2.2 i hi).2⟩⟩
/-- the reference's whole state -/
def ed_ML (h : ec_Hp) (σ : ec_Sg) (n : Int) (p : Int → ec_Sg) (L : Int) (T : Int → Int) : Prop := ec_MD h ∧ ec_Ms h σ ∧ ec_WF σ ∧ ed_PA h n p ∧ ed_TX h L T
abbrev ed_Fm : Nat → Nat → Prop := fun q _ => 72 ≤ q ∧ q ≤ 83
theorem ed_73F : ∀ q j, ed_73 q j → ed_Fm q j := fun q j (e : q = 73) => ⟨by omega, by omega⟩
/-- the row changes behind a save -/
theorem ed_ML.s {h h' : ec_Hp} {σ τ : ec_Sg} {n : Int} {p : Int → ec_Sg} {L : Int} {T : Int → Int} (M : ed_ML h σ n p L T) (a : ec_fg ed_73 h h') (s : ec_Ms h' τ) (w : ec_WF τ) : ed_ML h' τ n p L T := ⟨M.1.of a.1.1, s, w, M.2.2.2.1.fg a (by decide) (fun _ => (by decide : ¬ (74 : Nat) = 73)), M.2.2.2.2.fg a (by decide) (fun _ => (by decide : ¬ (77 : Nat) = 73))⟩
def ed_err (h : ec_Hp) (c : Int) : ec_Hp := ec_setI h 72 7 (ec_i c)
/-- a refused call changes nothing -/
theorem ed_ML.err {h : ec_Hp} {σ : ec_Sg} {n : Int} {p : Int → ec_Sg} {L : Int} {T : Int → Int} (M : ed_ML h σ n p L T) (c : Int) : ed_ML (ed_err h c) σ n p L T ∧ (ed_err h c).2.1 72 7 = ec_i c ∧ ec_fg ed_Fm h (ed_err h c) := by
  have f : ec_fg (fun q j => q = 72 ∧ j = 7) h (ed_err h c) := ec_fg.refl.I ⟨rfl, rfl⟩
  exact ⟨⟨M.1.of rfl, M.2.1.fg f (fun _ y => absurd y.1 (by decide)), M.2.2.1, M.2.2.2.1.fg f (by decide) (fun _ y => absurd y.1 (by decide)), M.2.2.2.2.fg f (by decide) (fun _ y => absurd y.1 (by decide))⟩, ec_rwS, f.mono (fun q j e => ⟨by omega, by omega⟩)⟩
/-- what an answer of the reference is -/
def ed_An (μ : Nat) (as : List Value) (h : ec_Hp) (c v : Int) (σ : ec_Sg) (n : Int) (p : Int → ec_Sg) (L : Int) (T : Int → Int) : Prop :=
  ∃ h', ec_om μ 0 as [] h = some (.inl (some (.int (ec_i v))), h') ∧ h'.2.1 72 7 = ec_i c ∧ ed_ML h' σ n p L T ∧ ec_fg ed_Fm h h'
section EDA
variable {h : ec_Hp} {σ : ec_Sg} {n : Int} {p : Int → ec_Sg} {L : Int} {T : Int → Int}
end EDA
