theorem ed_su_id {σ : ec_Sg} {k : Int} : ec_su σ k (σ k) = σ := by
  funext j
  unfold ec_su
  split
  · rename_i e; rw [e]
  · rfl
