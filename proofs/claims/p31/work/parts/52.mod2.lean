/-- only the row's array changes -/
abbrev ed_73 : Nat → Nat → Prop := fun q _ => q = 73
def ed_puts (σ : ec_Sg) (n v : Int) : ec_Sg := ec_su (ec_su σ (107 + 6 * n) v) (107 + 6 * n + 5) (if v = 1 then σ (107 + 6 * n + 1) else 0)
def ed_pass (σ : ec_Sg) (b v : Int) : ec_Sg := if 1 < b then ec_su (ec_su σ (107 + 6 * (b - 2) + 3) v) (107 + 6 * (b - 2) + 4) (σ (107 + 6 * (b - 2) + 4) + 1) else σ
def ed_snd (σ : ec_Sg) (z d : Int) : Int := if ec_ba σ z d = 1 then 7 else if ec_ba σ z d = 0 ∨ ec_so σ (ec_ba σ z d) = 1 then 1 else 4
def ed_wby (σ : ec_Sg) (k z d : Int) : Int := if ec_cq σ z d then 1 else if 1 < ec_ba σ z d ∧ k = 1 ∧ ec_so σ (ec_ba σ z d) = 0 then 2 else 0
