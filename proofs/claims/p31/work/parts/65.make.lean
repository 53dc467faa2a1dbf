/-! Making the dungeon, over the row. -/
def ed_adr (σ : ec_Sg) (k a b : Int) : ec_Sg := ec_su (ec_su (ec_su (ec_su (ec_su (ec_su (ec_su (ec_su σ k (2 + σ 2)) (107 + 6 * σ 2) 0) (107 + 6 * σ 2 + 1) a) (107 + 6 * σ 2 + 2) b) (107 + 6 * σ 2 + 3) (-1)) (107 + 6 * σ 2 + 4) 0) (107 + 6 * σ 2 + 5) 0) 2 (σ 2 + 1)
def ed_ato (σ : ec_Sg) (z f : Int) : ec_Sg := ec_su (ec_su (ec_su (ec_su σ (167 + 3 * σ 3) z) (167 + 3 * σ 3 + 1) f) (167 + 3 * σ 3 + 2) (if 0 < f then 1 else 0)) 3 (σ 3 + 1)
def ed_amo (σ : ec_Sg) (z a b : Int) : ec_Sg := ec_su (ec_su (ec_su (ec_su (ec_su (ec_su σ (185 + 5 * σ 4) z) (185 + 5 * σ 4 + 1) a) (185 + 5 * σ 4 + 2) b) (185 + 5 * σ 4 + 3) (-1)) (185 + 5 * σ 4 + 4) 0) 4 (σ 4 + 1)
def ed_str (σ : ec_Sg) (z : Int) : ec_Sg := if ed_tr σ z = -1 then ec_su (ec_su (ec_su (ec_su σ (215 + 3 * σ 5) z) (215 + 3 * σ 5 + 2) 0) 5 (σ 5 + 1)) (215 + 3 * σ 5 + 1) 2 else ec_su σ (215 + 3 * ed_tr σ z + 1) 2
def ed_plc (σ : ec_Sg) (z a b : Int) : ec_Sg := ec_su (ec_su (ec_su (ec_su σ 6 z) 7 a) 8 b) 9 (if b = 0 then 0 else σ 9)
theorem ed_WF_bd {σ : ec_Sg} (w : ec_WF σ) {k v : Int} (hk : 11 ≤ k ∧ k < 107) (hv : 0 ≤ v ∧ v < 2 + σ 2) : ec_WF (ec_su σ k v) := by
  have h : ∀ j : Int, j ≠ k → ec_su σ k v j = σ j := fun j hj => ec_suN hj
  obtain ⟨w1, w2, w3, w4, w5, w6, w7, w8⟩ := id w
  unfold ec_ing at w2 w5 w6 w7
  refine ⟨?_, ?_, ?_, ?_, ?_, ?_, ?_, ?_⟩
  · simp (disch := omega) only [h]; exact w1
  · unfold ec_ing; simp (disch := omega) only [h]; exact w2
  · intro z d hz hd hb
    have r := ec_bp_rg (d := d) hz.1
    unfold ec_ing at hz
    unfold ec_hb at hb
    simp (disch := omega) only [h] at hz hb
    have q := w3 z d hz hd hb
    by_cases e : ec_bp z d = k
    · rw [ec_suE e, h 2 (by omega)]; exact hv
    · rw [h _ e, h 2 (by omega)]; exact q
  · intro n hn; simp (disch := omega) only [h] at hn; simp (disch := omega) only [h]; exact w4 n hn
  · intro n hn; unfold ec_ing; simp (disch := omega) only [h] at hn; simp (disch := omega) only [h]; exact w5 n hn
  · intro n hn; unfold ec_ing; simp (disch := omega) only [h] at hn; simp (disch := omega) only [h]; exact w6 n hn
  · intro n hn; unfold ec_ing; simp (disch := omega) only [h] at hn; simp (disch := omega) only [h]; exact w7 n hn
  · intro n j hn hj; simp (disch := omega) only [h] at hn hj; simp (disch := omega) only [h]; exact w8 n j hn hj
theorem ed_WF_adr {σ : ec_Sg} (w : ec_WF σ) {k a b : Int} (h2 : σ 2 < 10) (hk : 11 ≤ k ∧ k < 107) (ha : 0 ≤ a ∧ a ≤ 9) (hb : 0 ≤ b ∧ b ≤ 9) : ec_WF (ed_adr σ k a b) := by
  have w1' := w.1
  have h : ∀ j : Int, j ≠ k → j ≠ 2 → ¬ (107 + 6 * σ 2 ≤ j ∧ j ≤ 107 + 6 * σ 2 + 5) → ed_adr σ k a b j = σ j := fun j h1 h2 h3 => by
    unfold ed_adr
    simp (disch := omega) only [ec_suN]
  have e2 : ed_adr σ k a b 2 = σ 2 + 1 := ec_suE rfl
  have ek : ed_adr σ k a b k = 2 + σ 2 := by
    unfold ed_adr
    simp (disch := omega) only [ec_suN, ec_suE]
  obtain ⟨w1, w2, w3, w4, w5, w6, w7, w8⟩ := id w
  unfold ec_ing at w2 w5 w6 w7
  refine ⟨?_, ?_, ?_, ?_, ?_, ?_, ?_, ?_⟩
  · simp (disch := omega) only [h]
    rw [e2]
    omega
  · unfold ec_ing; simp (disch := omega) only [h]; exact w2
  · intro z d hz hd hb
    have r := ec_bp_rg (d := d) hz.1
    have r2 := ed_bp_rg hz.1 hb
    unfold ec_ing at hz
    unfold ec_hb at hb
    rw [h 0 (by omega) (by omega) (by omega), h 1 (by omega) (by omega) (by omega)] at hz hb
    have q := w3 z d hz hd hb
    rw [e2]
    by_cases e : ec_bp z d = k
    · rw [e, ek]; omega
    · rw [h _ e (by omega) (by omega)]; omega
  · intro n hn
    rw [e2] at hn
    by_cases e : n = σ 2
    · subst e
      unfold ed_adr
      rw [show 108 + 6 * σ 2 = 107 + 6 * σ 2 + 1 by omega, show 109 + 6 * σ 2 = 107 + 6 * σ 2 + 2 by omega, show 112 + 6 * σ 2 = 107 + 6 * σ 2 + 5 by omega]
      simp (disch := omega) only [ec_suN, ec_suE]
      omega
    · have q := w4 n (by omega)
      simp (disch := omega) only [h]
      exact q
  · intro n hn; unfold ec_ing; simp (disch := omega) only [h] at hn; simp (disch := omega) only [h]; exact w5 n hn
  · intro n hn; unfold ec_ing; simp (disch := omega) only [h] at hn; simp (disch := omega) only [h]; exact w6 n hn
  · intro n hn; unfold ec_ing; simp (disch := omega) only [h] at hn; simp (disch := omega) only [h]; exact w7 n hn
  · intro n j hn hj; simp (disch := omega) only [h] at hn hj; simp (disch := omega) only [h]; exact w8 n j hn hj
theorem ed_WF_ato {σ : ec_Sg} (w : ec_WF σ) {z f : Int} (h3 : σ 3 < 6) (hz : ec_ing σ z) (hf : 0 ≤ f ∧ f ≤ 99) : ec_WF (ed_ato σ z f) := by
  have w1' := w.1
  have h : ∀ j : Int, j ≠ 3 → ¬ (167 + 3 * σ 3 ≤ j ∧ j ≤ 167 + 3 * σ 3 + 2) → ed_ato σ z f j = σ j := fun j h1 h2 => by
    unfold ed_ato
    simp (disch := omega) only [ec_suN]
  have e3 : ed_ato σ z f 3 = σ 3 + 1 := ec_suE rfl
  obtain ⟨w1, w2, w3, w4, w5, w6, w7, w8⟩ := id w
  unfold ec_ing at w2 w5 w6 w7
  refine ⟨?_, ?_, ?_, ?_, ?_, ?_, ?_, ?_⟩
  · simp (disch := omega) only [h]
    rw [e3]
    omega
  · unfold ec_ing; simp (disch := omega) only [h]; exact w2
  · exact ed_WF_bp w (fun j hj => by simp (disch := omega) only [h])
  · intro n hn; simp (disch := omega) only [h] at hn; simp (disch := omega) only [h]; exact w4 n hn
  · intro n hn
    rw [e3] at hn
    by_cases e : n = σ 3
    · subst e
      unfold ec_ing at hz ⊢
      unfold ed_ato
      rw [show 168 + 3 * σ 3 = 167 + 3 * σ 3 + 1 by omega, show 169 + 3 * σ 3 = 167 + 3 * σ 3 + 2 by omega]
      simp (disch := omega) only [ec_suN, ec_suE]
      refine ⟨hz, hf, ?_⟩
      split <;> omega
    · have q := w5 n (by omega)
      unfold ec_ing
      simp (disch := omega) only [h]
      exact q
  · intro n hn; unfold ec_ing; simp (disch := omega) only [h] at hn; simp (disch := omega) only [h]; exact w6 n hn
  · intro n hn; unfold ec_ing; simp (disch := omega) only [h] at hn; simp (disch := omega) only [h]; exact w7 n hn
  · intro n j hn hj; simp (disch := omega) only [h] at hn hj; simp (disch := omega) only [h]; exact w8 n j hn hj
theorem ed_WF_amo {σ : ec_Sg} (w : ec_WF σ) {z a b : Int} (h4 : σ 4 < 6) (hz : ec_ing σ z) (ha : 1 ≤ a ∧ a ≤ 9) (hb : 0 ≤ b ∧ b ≤ 1) : ec_WF (ed_amo σ z a b) := by
  have w1' := w.1
  have h : ∀ j : Int, j ≠ 4 → ¬ (185 + 5 * σ 4 ≤ j ∧ j ≤ 185 + 5 * σ 4 + 4) → ed_amo σ z a b j = σ j := fun j h1 h2 => by
    unfold ed_amo
    simp (disch := omega) only [ec_suN]
  have e4 : ed_amo σ z a b 4 = σ 4 + 1 := ec_suE rfl
  obtain ⟨w1, w2, w3, w4, w5, w6, w7, w8⟩ := id w
  unfold ec_ing at w2 w5 w6 w7
  refine ⟨?_, ?_, ?_, ?_, ?_, ?_, ?_, ?_⟩
  · simp (disch := omega) only [h]
    rw [e4]
    omega
  · unfold ec_ing; simp (disch := omega) only [h]; exact w2
  · exact ed_WF_bp w (fun j hj => by simp (disch := omega) only [h])
  · intro n hn; simp (disch := omega) only [h] at hn; simp (disch := omega) only [h]; exact w4 n hn
  · intro n hn; unfold ec_ing; simp (disch := omega) only [h] at hn; simp (disch := omega) only [h]; exact w5 n hn
  · intro n hn
    rw [e4] at hn
    by_cases e : n = σ 4
    · subst e
      unfold ec_ing at hz ⊢
      unfold ed_amo
      rw [show 186 + 5 * σ 4 = 185 + 5 * σ 4 + 1 by omega, show 187 + 5 * σ 4 = 185 + 5 * σ 4 + 2 by omega, show 188 + 5 * σ 4 = 185 + 5 * σ 4 + 3 by omega]
      simp (disch := omega) only [ec_suN, ec_suE]
      exact ⟨hz, ha, hb, Or.inl trivial⟩
    · have q := w6 n (by omega)
      unfold ec_ing
      simp (disch := omega) only [h]
      exact q
  · intro n hn; unfold ec_ing; simp (disch := omega) only [h] at hn; simp (disch := omega) only [h]; exact w7 n hn
  · intro n j hn hj; simp (disch := omega) only [h] at hn hj; simp (disch := omega) only [h]; exact w8 n j hn hj
theorem ed_WF_str {σ : ec_Sg} (w : ec_WF σ) {z : Int} (h5 : ed_tr σ z = -1 → σ 5 < 6) (hz : ec_ing σ z) : ec_WF (ed_str σ z) := by
  have w1' := w.1
  have tr := ed_tr_rg w (x := z)
  by_cases q : ed_tr σ z = -1
  · have h5 := h5 q
    have tn := (tr.resolve_right (fun y => by omega)).2
    have e : ed_str σ z = ec_su (ec_su (ec_su (ec_su σ (215 + 3 * σ 5) z) (215 + 3 * σ 5 + 2) 0) 5 (σ 5 + 1)) (215 + 3 * σ 5 + 1) 2 := if_pos q
    rw [e]
    clear e
    generalize e : ec_su (ec_su (ec_su (ec_su σ (215 + 3 * σ 5) z) (215 + 3 * σ 5 + 2) 0) 5 (σ 5 + 1)) (215 + 3 * σ 5 + 1) 2 = σ'
    have h : ∀ j : Int, j ≠ 5 → ¬ (215 + 3 * σ 5 ≤ j ∧ j ≤ 215 + 3 * σ 5 + 2) → σ' j = σ j := fun j h1 h2 => by
      rw [← e]
      simp (disch := omega) only [ec_suN]
    have e5 : σ' 5 = σ 5 + 1 := by
      rw [← e]
      simp (disch := omega) only [ec_suN, ec_suE]
    have ec : σ' (215 + 3 * σ 5) = z := by
      rw [← e]
      simp (disch := omega) only [ec_suN, ec_suE]
    have et : σ' (215 + 3 * σ 5 + 1) = 2 := by
      rw [← e]
      simp (disch := omega) only [ec_suE]
    obtain ⟨w1, w2, w3, w4, w5, w6, w7, w8⟩ := id w
    unfold ec_ing at w2 w5 w6 w7
    refine ⟨?_, ?_, ?_, ?_, ?_, ?_, ?_, ?_⟩
    · simp (disch := omega) only [h]
      rw [e5]
      omega
    · unfold ec_ing; simp (disch := omega) only [h]; exact w2
    · exact ed_WF_bp w (fun j hj => by simp (disch := omega) only [h])
    · intro n hn; simp (disch := omega) only [h] at hn; simp (disch := omega) only [h]; exact w4 n hn
    · intro n hn; unfold ec_ing; simp (disch := omega) only [h] at hn; simp (disch := omega) only [h]; exact w5 n hn
    · intro n hn; unfold ec_ing; simp (disch := omega) only [h] at hn; simp (disch := omega) only [h]; exact w6 n hn
    · intro n hn
      rw [e5] at hn
      by_cases e : n = σ 5
      · subst e
        rw [show 216 + 3 * σ 5 = 215 + 3 * σ 5 + 1 by omega, ec, et]
        unfold ec_ing at hz ⊢
        rw [h 0 (by omega) (by omega), h 1 (by omega) (by omega)]
        exact ⟨hz, by omega⟩
      · have q := w7 n (by omega)
        unfold ec_ing
        simp (disch := omega) only [h]
        exact q
    · intro n j hn hj hnj
      rw [e5] at hn hj
      by_cases e1 : n = σ 5
      · by_cases e2 : j = σ 5
        · omega
        · subst e1
          rw [ec, h (215 + 3 * j) (by omega) (by omega)] at hnj
          exact absurd hnj.symm (tn j (by omega))
      · by_cases e2 : j = σ 5
        · subst e2
          rw [ec, h (215 + 3 * n) (by omega) (by omega)] at hnj
          exact absurd hnj (tn n (by omega))
        · rw [h (215 + 3 * n) (by omega) (by omega), h (215 + 3 * j) (by omega) (by omega)] at hnj
          exact w8 n j (by omega) (by omega) hnj
  · have e : ed_str σ z = ec_su σ (215 + 3 * ed_tr σ z + 1) 2 := if_neg q
    rw [e]
    have tr := tr.resolve_left (fun y => q y.1)
    refine ed_WF_tp w (m := ed_tr σ z) (by omega) (fun j hj => by simp (disch := omega) only [ec_suN]) (fun _ => ?_)
    rw [ec_suE rfl]
    omega
theorem ed_WF_plc {σ : ec_Sg} (w : ec_WF σ) {z a b : Int} (hz : ec_ing σ z) (ha : 0 ≤ a ∧ a ≤ 9) (hb : 0 ≤ b ∧ b ≤ 99) : ec_WF (ed_plc σ z a b) := by
  have w2 := w.2.1
  unfold ed_plc
  refine ed_WF_hd w (fun j hj => by simp (disch := omega) only [ec_suN]) ?_
  simp (disch := omega) only [ec_suN, ec_suE]
  refine ⟨hz, ha, hb, ?_⟩
  split <;> omega
