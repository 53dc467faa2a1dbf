/-! sounds of a turn -/
def ed_SO (h : ec_Hp) (n : Int) (f g : Int → Int) : Prop := h.2.1 72 14 = ec_i n ∧ (0 ≤ n ∧ n ≤ 2) ∧ ∀ k : Int, 0 ≤ k ∧ k < n → h.2.1 82 (ec_i k).toNatClampNeg = ec_i (f k) ∧ h.2.1 83 (ec_i k).toNatClampNeg = ec_i (g k)
theorem ed_SO.fg {S : Nat → Nat → Prop} {h h' : ec_Hp} {n : Int} {f g : Int → Int} (a : ec_fg S h h') (b : ed_SO h n f g) (h1 : ¬ S 72 14) (h2 : ∀ j, ¬ S 82 j) (h3 : ∀ j, ¬ S 83 j) : ed_SO h' n f g :=
  ⟨(a.2 _ _ h1).trans b.1, b.2.1, fun k hk => ⟨(a.2 _ _ (h2 _)).trans (b.2.2 k hk).1, (a.2 _ _ (h3 _)).trans (b.2.2 k hk).2⟩⟩
