/-! Contracts of the reference: making the dungeon, on. -/
abbrev ed_qc (σ : ec_Sg) (x y : Int) : Prop := (0 ≤ x ∧ x < σ 0) ∧ 0 ≤ y ∧ y < σ 1
abbrev ed_qb (σ : ec_Sg) (x y s : Int) : Prop := (1 ≤ s ∧ s ≤ 2) ∧ ec_hb σ (8 * y + x) s
def ed_kWl (σ : ec_Sg) (x y s : Int) : Int := if ed_qc σ x y then (if ed_qb σ x y s then (if 1 < σ (ec_bp (8 * y + x) s) then 3 else 0) else 2) else 1
def ed_kAd (σ : ec_Sg) (x y s a b : Int) : Int := if ed_qc σ x y then (if ed_qb σ x y s ∧ (0 ≤ a ∧ a ≤ 9) ∧ 0 ≤ b ∧ b ≤ 9 then (if 1 < σ (ec_bp (8 * y + x) s) ∨ σ 2 = 10 then 3 else 0) else 2) else 1
def ed_kSd (σ : ec_Sg) (d v : Int) : Int := if 0 ≤ d ∧ d < σ 2 then (if 0 ≤ v ∧ v ≤ 2 then 0 else 2) else 1
def ed_kAt (σ : ec_Sg) (x y f : Int) : Int := if ed_qc σ x y then (if 0 ≤ f ∧ f ≤ 99 then (if σ 3 = 6 then 3 else 0) else 2) else 1
def ed_kAm (σ : ec_Sg) (x y a b : Int) : Int := if ed_qc σ x y then (if (1 ≤ a ∧ a ≤ 9) ∧ 0 ≤ b ∧ b ≤ 1 then (if σ 4 = 6 then 3 else 0) else 2) else 1
def ed_kSt (σ : ec_Sg) (x y : Int) : Int := if ed_qc σ x y then (if ed_tr σ (8 * y + x) = -1 ∧ σ 5 = 6 then 2 else 0) else 1
def ed_kPl (σ : ec_Sg) (x y a b : Int) : Int := if ed_qc σ x y then (if (0 ≤ a ∧ a ≤ 9) ∧ 0 ≤ b ∧ b ≤ 99 then 0 else 2) else 1
theorem ed_qc_in {σ : ec_Sg} (w : ec_WF σ) {x y : Int} (h : ed_qc σ x y) : ec_ing σ (8 * y + x) := by
  have := w.1
  unfold ed_qc at h
  unfold ec_ing
  omega
theorem ed_ML.fin {h h1 h2 : ec_Hp} {σ τ : ec_Sg} {n : Int} {p : Int → ec_Sg} {L : Int} {T : Int → Int} (M : ed_ML h1 σ n p L T) (t : h1.2.1 72 7 = ec_i 0) (f0 : ec_fg ed_Fm h h1) (s : ec_Ms h2 τ) (f : ec_fg ed_73 h1 h2) (w : ec_WF τ) : h2.2.1 72 7 = ec_i 0 ∧ ed_ML h2 τ n p L T ∧ ec_fg ed_Fm h h2 := ⟨(f.2 72 7 (by decide)).trans t, M.s f s w, f0.trans (f.mono ed_73F)⟩
section EDB
variable {h : ec_Hp} {σ : ec_Sg} {n : Int} {p : Int → ec_Sg} {L : Int} {T : Int → Int}
end EDB
