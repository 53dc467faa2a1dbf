/-! Throw sites and handlers: what the words say. -/
def ec_xn : List String := ["java/lang/RuntimeException", "java/lang/Exception"]
def ec_xw (ic : Nat) (E : String) : List Cond := vx_atS "EchoDungeon" ic E ec_xn
def ec_xok (ic : Nat) (E : String) : Bool := (ec_xw ic E).all (fun w => ((goodWord w || ec_dk w) && decide (w ∈ lw_tbl) || decide (w = .castable E E)) && vx_ot w)
/-- which constructors the throw sites call -/
def ec_xc : List (Nat × Nat) := [(0, ec_nth 0 (ec_th.filterMap (fun q => if q.1 = 0 then some q.2.2.2.1 else none)) 0), (1, ec_nth 0 (ec_th.filterMap (fun q => if q.1 = 1 then some q.2.2.2.1 else none)) 0), (2, ec_nth 0 (ec_th.filterMap (fun q => if q.1 = 2 then some q.2.2.2.1 else none)) 0)]
set_option maxRecDepth 100000 in
theorem ec_xc_ok0 : ec_xok (ec_nth (0, 0) ec_xc 0).2 (ec_nth "" ec_exc 0) = true := by decide +kernel
set_option maxRecDepth 100000 in
theorem ec_xc_ok1 : ec_xok (ec_nth (0, 0) ec_xc 1).2 (ec_nth "" ec_exc 1) = true := by decide +kernel
set_option maxRecDepth 100000 in
theorem ec_xc_ok2 : ec_xok (ec_nth (0, 0) ec_xc 2).2 (ec_nth "" ec_exc 2) = true := by decide +kernel
set_option maxRecDepth 100000 in
theorem ec_th_ok : ∀ q ∈ ec_th, q.1 < 3 ∧ q.2.2.2.1 = (ec_nth (0, 0) ec_xc q.1).2 ∧ (Cond.classLink "EchoDungeon" q.2.1 (ec_nth "" ec_exc q.1) ∈ lw_tbl ∧ Cond.initialized (ec_nth "" ec_exc q.1) ∈ lw_tbl) := by decide +kernel
theorem ec_xc_ok {e : Nat} (h : e < 3) : ec_xok (ec_nth (0, 0) ec_xc e).2 (ec_nth "" ec_exc e) = true := by
  match e, h with
  | 0, _ => exact ec_xc_ok0
  | 1, _ => exact ec_xc_ok1
  | 2, _ => exact ec_xc_ok2
  | n + 3, h => exact absurd h (by omega)
theorem ec_fit {e : Nat} (h : e < 3) : Bundle.fit (ec_nth "" ec_exc e) = true := by
  match e, h with
  | 0, _ => decide +kernel
  | 1, _ => decide +kernel
  | 2, _ => decide +kernel
  | n + 3, h => exact absurd h (by omega)
theorem ec_cas {e : Nat} (h : e < 3) : Cond.castable (ec_nth "" ec_exc e) (ec_nth "" ec_exc e) ∈ ec_nw := by
  match e, h with
  | 0, _ => exact List.mem_filter.mpr ⟨by decide +kernel, rfl⟩
  | 1, _ => exact List.mem_filter.mpr ⟨by decide +kernel, rfl⟩
  | 2, _ => exact List.mem_filter.mpr ⟨by decide +kernel, rfl⟩
  | n + 3, h => exact absurd h (by omega)
set_option maxRecDepth 100000 in
theorem ec_ht_ok : ∀ l ∈ ec_ht, ∀ q ∈ l, ec_hw 8 q ∈ lw_tbl ∧ q.2.2.2.2 ≠ 0 ∧ q.2.2.2.1 < 3 := by decide +kernel
set_option maxRecDepth 100000 in
theorem ec_ht_cls : ∀ μ, μ < 227 → ec_nth [] ec_ht μ ≠ [] → (ec_mr μ).1 = 8 := by decide +kernel
