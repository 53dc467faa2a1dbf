def ed_WI (σ : ec_Sg) (κ g : Int) (c : Int → Int) : Prop := ∀ z : Int, 0 ≤ z ∧ z < 48 → (ed_cap (ed_lb σ κ g) z ≤ c z ∧ c z ≤ 999) ∧ (c z < 999 → ec_ing σ z) ∧ (z = g → c z ≤ 0)
theorem ed_wby_hb {σ : ec_Sg} {κ z d : Int} (h : 0 < ed_wby σ κ z d) : ec_hb σ z d := by
  apply Classical.byContradiction
  intro hb
  have e : ec_ba σ z d = 1 := if_neg hb
  unfold ed_wby ec_cq at h
  rw [e, if_neg (by omega), if_neg (by omega)] at h
  omega
theorem ed_P_wby {σ : ec_Sg} {κ z d : Int} (hκ : 0 ≤ κ ∧ κ ≤ 1) (hz : ec_ing σ z) : ed_P σ κ z d = ed_wby σ κ z d := by
  have r := ed_wby_rg (σ := σ) (k := κ) (z := z) (d := d)
  unfold ed_P
  by_cases hb : ec_hb σ z d
  · rw [if_pos (show ec_ing σ z ∧ ec_hb σ z d from ⟨hz, hb⟩), if_neg (by omega)]
  · rw [if_neg (fun q => hb q.2)]
    by_cases q : 0 < ed_wby σ κ z d
    · exact absurd (ed_wby_hb q) hb
    · omega
theorem ed_WI.fin {σ : ec_Sg} (w : ec_WF σ) {κ g : Int} {c : Int → Int} (hκ : 0 ≤ κ ∧ κ ≤ 1) (hg : ec_ing σ g) (a : ed_WI σ κ g c) (hr : ∀ z d : Int, ec_ing σ z → 0 ≤ d ∧ d < 4 → 0 < ed_wby σ κ z d → ¬ c (ec_nb z d) + ed_wby σ κ z d < c z) : ∀ z : Int, 0 ≤ z ∧ z < 48 → c z = ed_cap (ed_lb σ κ g) z := by
  intro z hz
  have hb := ed_lb_bd w (m := κ) hg.1 (k := z.toNat) (by omega)
  have h := (ed_lb_LD w (m := κ) hg.1).le (c := fun k => c (k : Int)) ed_P_PP (fun k hk => ?_) (fun u d hu hd p0 _ => ?_) (ed_lb σ κ g z.toNat).toNat z.toNat (by omega) (by omega)
  · have h : c ((z.toNat : Nat) : Int) ≤ ed_lb σ κ g z.toNat := h
    rw [show ((z.toNat : Nat) : Int) = z by omega] at h
    have a1 := (a z hz).1
    unfold ed_cap at a1 ⊢
    split
    · rename_i e; rw [if_pos e] at a1; omega
    · rename_i e; rw [if_neg e] at a1; omega
  · show c (k : Int) ≤ _
    rw [ed_c0 hg.1]
    have a1 := a (k : Int) (by omega)
    split
    · rename_i e; exact a1.2.2 (by omega)
    · omega
  · show c (((ec_nb u d).toNat : Nat) : Int) ≤ c ((u.toNat : Nat) : Int) + ed_P σ κ u d
    have pi := ed_P_in p0
    obtain ⟨ni, o1, o2, o3⟩ := ed_opp w pi.1 hd pi.2
    have n1 := ni.1
    rw [show ((u.toNat : Nat) : Int) = u by omega, show (((ec_nb u d).toNat : Nat) : Int) = ec_nb u d by omega]
    have e : ed_wby σ κ (ec_nb u d) ((d + 2) % 4) = ed_P σ κ u d := by
      rw [← ed_P_wby hκ ni, ed_P_opp w pi.1 hd pi.2]
    have pp := ed_P_PP (σ := σ) (m := κ) u d hu hd
    have := hr (ec_nb u d) ((d + 2) % 4) ni (by omega) (by omega)
    rw [o3, e] at this
    omega
