/-! Contracts of the reference: costs of sounds. -/
def ed_cap (D : Nat → Int) (z : Int) : Int := if D z.toNat = 1000000 then 999 else D z.toNat
def ed_sm (c : Int → Int) : Int := ec_sm (fun k => c (k : Int)) 48
abbrev ed_80 : Nat → Nat → Prop := fun q _ => q = 80
/-- what holds of the labels all the time -/
def ed_CI (σ : ec_Sg) (g : Int) (c : Int → Int) : Prop := ∀ z : Int, 0 ≤ z ∧ z < 48 → (ed_cap (ed_lb σ 2 g) z ≤ c z ∧ c z ≤ 999) ∧ (c z < 999 → ec_ing σ z) ∧ (z = g → c z ≤ 0)
/-- relaxed labels are the costs -/
theorem ed_CI.fin {σ : ec_Sg} (w : ec_WF σ) {g : Int} {c : Int → Int} (hg : ec_ing σ g) (a : ed_CI σ g c) (hr : ∀ z d : Int, 0 ≤ z ∧ z < 48 → 0 ≤ d ∧ d < 4 → c z < 999 → ec_hb σ z d → ¬ c z + ed_snd σ z d < c (ec_nb z d)) : ∀ z : Int, 0 ≤ z ∧ z < 48 → c z = ed_cap (ed_lb σ 2 g) z := by
  intro z hz
  have hb := ed_lb_bd w (m := 2) hg.1 (k := z.toNat) (by omega)
  have h := (ed_lb_LD w (m := 2) hg.1).le (c := fun k => c (k : Int)) ed_P_PP (fun k hk => ?_) (fun u d hu hd p0 _ => ?_) (ed_lb σ 2 g z.toNat).toNat z.toNat (by omega) (by omega)
  · have h : c ((z.toNat : Nat) : Int) ≤ ed_lb σ 2 g z.toNat := h
    rw [show ((z.toNat : Nat) : Int) = z by omega] at h
    have a1 := (a z hz).1
    unfold ed_cap at a1 ⊢
    split
    · rename_i e; rw [if_pos e] at a1; omega
    · rename_i e; rw [if_neg e] at a1; omega
  · show c (k : Int) ≤ _
    rw [ed_c0 hg.1]
    have a1 := a (k : Int) (by omega)
    split
    · rename_i e; exact a1.2.2 (by omega)
    · omega
  · show c (((ec_nb u d).toNat : Nat) : Int) ≤ c ((u.toNat : Nat) : Int) + ed_P σ 2 u d
    have pi := ed_P_in p0
    have ni := (ec_nb_in w pi.1 hd pi.2).1
    rw [show ((u.toNat : Nat) : Int) = u by omega, show (((ec_nb u d).toNat : Nat) : Int) = ec_nb u d by omega]
    have e : ed_P σ 2 u d = ed_snd σ u d := by
      unfold ed_P
      rw [if_pos pi, if_pos rfl]
    have r := ed_snd_rg (σ := σ) (z := u) (d := d)
    by_cases q : c u < 999
    · have := hr u d hu hd q pi.2
      omega
    · have := (a _ ni).1
      omega
