/-! Contracts of the reference: values. -/
def ed_bit (k : Int) : Int32 := ec_i 1 <<< (ec_i k &&& ec_i 31)
def ed_stf (f : Int → Int) (c : Int) : Nat → Int → Int32 → Int32
  | 0, _, x => x
  | n + 1, k, x => ed_stf f c n (k + 1) (if f k = c then x ||| ed_bit k else x)
def ed_ctf (f : Int → Int) (c : Int) : Nat → Int → Int → Int
  | 0, _, x => x
  | n + 1, k, x => ed_ctf f c n (k + 1) (if f k = c then x + 1 else x)
noncomputable def ed_cel (σ : ec_Sg) (c w : Int) : Int :=
  if w = 0 then ed_q (ed_lit σ c) else if w = 1 then (ed_stf (fun k => σ (185 + 5 * k)) c (σ 4).toNat 0 (ec_i 0)).toInt else if w = 2 then ed_tr σ c else ed_ctf (fun k => σ (167 + 3 * k)) c (σ 3).toNat 0 0
def ed_kCe (σ : ec_Sg) (x y w : Int) : Int := if ed_qc σ x y then (if 0 ≤ w ∧ w ≤ 3 then 0 else 2) else 1
def ed_kVa (c d w m : Int) : Int := if 0 ≤ d ∧ d < c then (if 0 ≤ w ∧ w ≤ m then 0 else 2) else 1
def ed_kWh (w : Int) : Int := if 0 ≤ w ∧ w ≤ 13 then 0 else 1
def ed_tov (σ : ec_Sg) (at_ w : Int) : Int := if w = 0 then σ at_ % 8 else if w = 1 then σ at_ / 8 else σ (at_ + w - 1)
noncomputable def ed_mov (σ : ec_Sg) (m w : Int) : Int := if w = 0 then σ (185 + 5 * m) % 8 else if w = 1 then σ (185 + 5 * m) / 8 else if w < 4 then σ (185 + 5 * m + w - 1) else if w = 4 then (if σ (185 + 5 * m + 3) = -1 then -1 else σ (185 + 5 * m + 3) % 8) else if w = 5 then (if σ (185 + 5 * m + 3) = -1 then -1 else σ (185 + 5 * m + 3) / 8) else if w = 6 then ed_q (ed_see σ m) else σ (185 + 5 * m + 4)
noncomputable def ed_whv (σ : ec_Sg) (L w : Int) : Int := if w < 6 then σ w else if w = 6 then σ 6 % 8 else if w = 7 then σ 6 / 8 else if w < 12 then σ (w - 1) else if w = 12 then ed_lits σ else L
section EDD
variable {h : ec_Hp} {σ : ec_Sg} {n : Int} {p : Int → ec_Sg} {L : Int} {T : Int → Int}
end EDD
