/-! Contracts of the reference: light. -/
noncomputable def ed_q (p : Prop) : Int := @ec_q p (Classical.propDecidable p)
theorem ed_qt {p : Prop} (h : p) : ed_q p = 1 := @ec_qt p (Classical.propDecidable p) h
theorem ed_qf {p : Prop} (h : ¬ p) : ed_q p = 0 := @ec_qf p (Classical.propDecidable p) h
theorem ed_q_eq {p : Prop} [d : Decidable p] : ed_q p = ec_q p := @ec_q_c p p (Classical.propDecidable p) d Iff.rfl
theorem ed_q_c {p r : Prop} (h : p ↔ r) : ed_q p = ed_q r := @ec_q_c p r (Classical.propDecidable p) (Classical.propDecidable r) h
theorem ed_q_rg {p : Prop} : 0 ≤ ed_q p ∧ ed_q p ≤ 1 := @ec_q_rg p (Classical.propDecidable p)
def ed_rch (σ : ec_Sg) (g : Int) : Nat → Int → Prop
  | 0, z => z = g
  | n + 1, z => ed_rch σ g n z ∨ ∃ u d : Int, (0 ≤ d ∧ d < 4) ∧ ed_rch σ g n u ∧ ec_cq σ u d ∧ ec_nb u d = z
theorem ed_cq_hb {σ : ec_Sg} {z d : Int} (h : ec_cq σ z d) : ec_hb σ z d := by
  apply Classical.byContradiction
  intro hb
  have e : ec_ba σ z d = 1 := if_neg hb
  unfold ec_cq at h
  rw [e] at h
  omega
theorem ed_rch_in {σ : ec_Sg} (w : ec_WF σ) {g : Int} (hg : ec_ing σ g) : ∀ (n : Nat) (z : Int), ed_rch σ g n z → ec_ing σ z
  | 0, z, h => by
    have e : z = g := h
    rw [e]; exact hg
  | n + 1, z, h => by
    rcases h with h | ⟨u, d, hd, h1, h2, h3⟩
    · exact ed_rch_in w hg n z h
    · rw [← h3]
      exact ec_nb_in w (ed_rch_in w hg n u h1) hd (ed_cq_hb h2)
theorem ed_rch_mono {σ : ec_Sg} {g z : Int} {n : Nat} (h : ed_rch σ g n z) : ∀ k, ed_rch σ g (n + k) z
  | 0 => h
  | k + 1 => Or.inl (ed_rch_mono h k)
/-! all lights -/
def ed_lit (σ : ec_Sg) (z : Int) : Prop := (∃ t : Int, (0 ≤ t ∧ t < σ 3) ∧ σ (167 + 3 * t + 2) = 1 ∧ ed_rch σ (σ (167 + 3 * t)) 3 z) ∨ σ 9 = 1 ∧ ed_rch σ (σ 6) 2 z
/-- how many cells are lit -/
noncomputable def ed_lits (σ : ec_Sg) : Int := ed_sm (fun z => ed_q (ed_lit σ z))
