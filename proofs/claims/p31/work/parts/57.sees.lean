/-! Contracts of the reference: what a monster sees. -/
def ed_al (d z g : Int) (n : Nat) : Prop := d = 0 ∧ z = g + 8 * n ∨ d = 1 ∧ z + n = g ∨ d = 2 ∧ z + 8 * n = g ∨ d = 3 ∧ z = g + n
theorem ed_P0 {σ : ec_Sg} {z d : Int} (hz : ec_ing σ z) : ed_P σ 0 z d = 0 ↔ ¬ ec_cq σ z d := by
  rw [ed_P_wby (by omega) hz]
  unfold ed_wby
  by_cases h : ec_cq σ z d
  · rw [if_pos h]
    exact ⟨fun q => absurd q (by decide), fun q => absurd h q⟩
  · rw [if_neg h, if_neg (by omega)]
    exact ⟨fun _ => h, fun _ => rfl⟩
noncomputable def ed_see (σ : ec_Sg) (m : Int) : Prop := ed_lit σ (σ 6) ∧ ec_cln (ed_P σ 0) (σ 6) (ec_sd (σ (185 + 5 * m)) (σ 6)) 9 (σ (185 + 5 * m)) = true
