/-! an action -/
theorem ed_SO.c {h : ec_Hp} {n : Int} {f g f' g' : Int → Int} (b : ed_SO h n f g) (e : ∀ k : Int, 0 ≤ k ∧ k < n → f k = f' k ∧ g k = g' k) : ed_SO h n f' g' := ⟨b.1, b.2.1, fun k hk => by
  rw [← (e k hk).1, ← (e k hk).2]
  exact b.2.2 k hk⟩
