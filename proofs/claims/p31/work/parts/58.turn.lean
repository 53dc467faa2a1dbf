/-! A turn, over the row; what keeps the row well-formed. -/
theorem ed_mon {σ : ec_Sg} (w : ec_WF σ) {m : Int} (h : 0 ≤ m ∧ m < σ 4) : ec_ing σ (σ (185 + 5 * m)) ∧ (1 ≤ σ (185 + 5 * m + 1) ∧ σ (185 + 5 * m + 1) ≤ 9) ∧ (0 ≤ σ (185 + 5 * m + 2) ∧ σ (185 + 5 * m + 2) ≤ 1) ∧ (σ (185 + 5 * m + 3) = -1 ∨ ec_ing σ (σ (185 + 5 * m + 3))) := by
  have q := w.mon h
  rw [show 186 + 5 * m = 185 + 5 * m + 1 by omega, show 187 + 5 * m = 185 + 5 * m + 2 by omega, show 188 + 5 * m = 185 + 5 * m + 3 by omega] at q
  exact q
theorem ed_door {σ : ec_Sg} (w : ec_WF σ) {n : Int} (h : 0 ≤ n ∧ n < σ 2) : (0 ≤ σ (107 + 6 * n) ∧ σ (107 + 6 * n) ≤ 2) ∧ (0 ≤ σ (107 + 6 * n + 1) ∧ σ (107 + 6 * n + 1) ≤ 9) ∧ (0 ≤ σ (107 + 6 * n + 2) ∧ σ (107 + 6 * n + 2) ≤ 9) ∧ (0 ≤ σ (107 + 6 * n + 5) ∧ σ (107 + 6 * n + 5) ≤ 9) ∧ (σ (107 + 6 * n) = 1 → 1 ≤ σ (107 + 6 * n + 1) → 1 ≤ σ (107 + 6 * n + 5)) := by
  have q := w.door h
  rw [show 108 + 6 * n = 107 + 6 * n + 1 by omega, show 109 + 6 * n = 107 + 6 * n + 2 by omega, show 112 + 6 * n = 107 + 6 * n + 5 by omega] at q
  exact q
theorem ed_torch {σ : ec_Sg} (w : ec_WF σ) {t : Int} (h : 0 ≤ t ∧ t < σ 3) : ec_ing σ (σ (167 + 3 * t)) ∧ (0 ≤ σ (167 + 3 * t + 1) ∧ σ (167 + 3 * t + 1) ≤ 99) ∧ (0 ≤ σ (167 + 3 * t + 2) ∧ σ (167 + 3 * t + 2) ≤ 1) ∧ (σ (167 + 3 * t + 2) = 1 → 1 ≤ σ (167 + 3 * t + 1)) := by
  have q := w.torch h
  rw [show 168 + 3 * t = 167 + 3 * t + 1 by omega, show 169 + 3 * t = 167 + 3 * t + 2 by omega] at q
  exact q
theorem ed_trap {σ : ec_Sg} (w : ec_WF σ) {k : Int} (h : 0 ≤ k ∧ k < σ 5) : ec_ing σ (σ (215 + 3 * k)) ∧ (0 ≤ σ (215 + 3 * k + 1) ∧ σ (215 + 3 * k + 1) ≤ 2) := by
  have q := w.trap h
  rw [show 216 + 3 * k = 215 + 3 * k + 1 by omega] at q
  exact q
def ed_fs (f : Int → Int) (x : Int) : Nat → Int → Int
  | 0, _ => -1
  | n + 1, i => if f i = x then i else ed_fs f x n (i + 1)
theorem ed_fs_s {f : Int → Int} {x : Int} : ∀ (n : Nat) (i : Int), (ed_fs f x n i = -1 ∧ ∀ j : Int, i ≤ j ∧ j < i + n → f j ≠ x) ∨ (i ≤ ed_fs f x n i ∧ ed_fs f x n i < i + n ∧ f (ed_fs f x n i) = x)
  | 0, i => Or.inl ⟨rfl, fun j hj => absurd hj (by omega)⟩
  | n + 1, i => by
    rw [show ed_fs f x (n + 1) i = if f i = x then i else ed_fs f x n (i + 1) from rfl]
    by_cases q : f i = x
    · rw [if_pos q]
      exact Or.inr ⟨by omega, by omega, q⟩
    · rw [if_neg q]
      rcases ed_fs_s (f := f) (x := x) n (i + 1) with ⟨a, b⟩ | ⟨a, b, c⟩
      · refine Or.inl ⟨a, fun j hj => ?_⟩
        by_cases e : j = i
        · rw [e]; exact q
        · exact b j (by omega)
      · exact Or.inr ⟨by omega, by omega, c⟩
/-- the trap of a cell -/
def ed_tr (σ : ec_Sg) (x : Int) : Int := ed_fs (fun k => σ (215 + 3 * k)) x (σ 5).toNat 0
def ed_rsn (σ : ec_Sg) (a : Int) : Int :=
  if σ 7 = 0 then 1 else if a < 4 then (if ec_cq σ (σ 6) a then 0 else 2)
  else if a < 12 then (if ¬ 1 < ec_ba σ (σ 6) (a % 4) then 3 else if ec_so σ (ec_ba σ (σ 6) (a % 4)) = 2 then 4 else if ec_so σ (ec_ba σ (σ 6) (a % 4)) = (if a < 8 then 1 else 0) then 5 else 0)
  else if a = 13 then (if σ 8 = 0 ∨ σ 9 = 1 then 6 else 0) else if a = 14 ∧ σ 9 = 0 then 6 else 0
/-- where a stone falls -/
def ed_stn (σ : ec_Sg) : Nat → Int → Int
  | 0, z => z
  | n + 1, z => if ec_cq σ z 1 then ed_stn σ n (ec_nb z 1) else z
def ed_does (σ : ec_Sg) (a : Int) : ec_Sg :=
  if a < 4 then ed_pass (ec_su σ 6 (ec_nb (σ 6) a)) (ec_ba σ (σ 6) (a % 4)) 0
  else if a < 12 then ed_puts σ (ec_ba σ (σ 6) (a % 4) - 2) (if a < 8 then 1 else 0)
  else if a = 13 then ec_su σ 9 1 else if a = 14 then ec_su σ 9 0 else σ
/-- the sound of an action: its loudness, its place (0 and the hero's cell without one) -/
def ed_sl (σ : ec_Sg) (a : Int) : Int := if a < 4 then 3 else if a < 12 then σ (107 + 6 * (ec_ba σ (σ 6) (a % 4) - 2) + 2) else if a = 15 then 7 else 0
def ed_sp (σ : ec_Sg) (a : Int) : Int := if a < 4 then ec_nb (σ 6) a else if a = 15 then ed_stn σ 3 (σ 6) else σ 6
def ed_hit (σ : ec_Sg) : ec_Sg := ec_su σ 7 (if 0 < σ 7 then σ 7 - 1 else 0)
abbrev ed_sprq (σ : ec_Sg) : Prop := ed_tr σ (σ 6) ≠ -1 ∧ 0 < σ (215 + 3 * ed_tr σ (σ 6) + 1)
def ed_spr1 (σ : ec_Sg) (k : Int) : ec_Sg := ec_su (ec_su σ (215 + 3 * k + 1) (σ (215 + 3 * k + 1) - 1)) (215 + 3 * k + 2) (σ (215 + 3 * k + 2) + 1)
def ed_spr (σ : ec_Sg) : ec_Sg := if ed_sprq σ then ed_hit (ed_spr1 σ (ed_tr σ (σ 6))) else σ
def ed_fold (f : ec_Sg → Int → ec_Sg) : Nat → Int → ec_Sg → ec_Sg
  | 0, _, σ => σ
  | n + 1, i, σ => ed_fold f n (i + 1) (f σ i)
def ed_brn1 (σ : ec_Sg) (t : Int) : ec_Sg := ec_su (ec_su σ (167 + 3 * t + 1) (σ (167 + 3 * t + 1) - σ (167 + 3 * t + 2))) (167 + 3 * t + 2) (if σ (167 + 3 * t + 1) - σ (167 + 3 * t + 2) = 0 then 0 else σ (167 + 3 * t + 2))
def ed_lmp (σ : ec_Sg) : ec_Sg := ec_su (ec_su σ 8 (σ 8 - σ 9)) 9 (if σ 8 - σ 9 = 0 then 0 else σ 9)
def ed_brn (σ : ec_Sg) : ec_Sg := ed_lmp (ed_fold ed_brn1 (σ 3).toNat 0 σ)
noncomputable def ed_gl (σ : ec_Sg) (p l m : Int) : Int := @ite Int (ed_see σ m) (Classical.propDecidable _) (σ 6) (if σ (185 + 5 * m + 1) ≤ l - ed_lb σ 2 p (σ (185 + 5 * m)).toNat then p else σ (185 + 5 * m + 3))
noncomputable def ed_her (p l : Int) (σ : ec_Sg) : ec_Sg := ed_fold (fun σ m => ec_su σ (185 + 5 * m + 3) (ed_gl σ p l m)) (σ 4).toNat 0 σ
noncomputable def ed_dir (σ : ec_Sg) (κ g z : Int) : Int := ec_fdir (ed_P σ κ) (ed_lb σ κ g) z
noncomputable def ed_act1 (σ : ec_Sg) (m : Int) : ec_Sg :=
  if σ (185 + 5 * m + 3) = -1 then σ
  else if ed_dir σ (σ (185 + 5 * m + 2)) (σ (185 + 5 * m + 3)) (σ (185 + 5 * m)) = -1 then ec_su σ (185 + 5 * m + 3) (-1)
  else if ec_cq σ (σ (185 + 5 * m)) (ed_dir σ (σ (185 + 5 * m + 2)) (σ (185 + 5 * m + 3)) (σ (185 + 5 * m))) then ed_pass (ec_su σ (185 + 5 * m) (ec_nb (σ (185 + 5 * m)) (ed_dir σ (σ (185 + 5 * m + 2)) (σ (185 + 5 * m + 3)) (σ (185 + 5 * m))))) (ec_ba σ (σ (185 + 5 * m)) (ed_dir σ (σ (185 + 5 * m + 2)) (σ (185 + 5 * m + 3)) (σ (185 + 5 * m)))) (1 + m)
  else ed_puts σ (ec_ba σ (σ (185 + 5 * m)) (ed_dir σ (σ (185 + 5 * m + 2)) (σ (185 + 5 * m + 3)) (σ (185 + 5 * m))) - 2) 1
noncomputable def ed_acts (σ : ec_Sg) : ec_Sg := ed_fold ed_act1 (σ 4).toNat 0 σ
def ed_hrt1 (σ : ec_Sg) (m : Int) : ec_Sg := if σ (185 + 5 * m) = σ 6 then ed_hit (ec_su σ (185 + 5 * m + 4) (σ (185 + 5 * m + 4) + 1)) else σ
def ed_hrt (σ : ec_Sg) : ec_Sg := ed_fold ed_hrt1 (σ 4).toNat 0 σ
def ed_drs1 (σ : ec_Sg) (k : Int) : ec_Sg := if σ (107 + 6 * k) = 1 ∧ 0 < σ (107 + 6 * k + 1) then ec_su (ec_su σ (107 + 6 * k + 5) (σ (107 + 6 * k + 5) - 1)) (107 + 6 * k) (if σ (107 + 6 * k + 5) - 1 = 0 then 0 else 1) else σ
def ed_drs (σ : ec_Sg) : ec_Sg := ed_fold ed_drs1 (σ 2).toNat 0 σ
noncomputable def ed_end (p l : Int) (σ : ec_Sg) : ec_Sg := ec_su (ed_drs (ed_hrt (ed_acts (ed_her p l (ed_brn σ))))) 10 ((ed_drs (ed_hrt (ed_acts (ed_her p l (ed_brn σ))))) 10 + 1)
/-- a turn -/
noncomputable def ed_turn (σ : ec_Sg) (a : Int) : ec_Sg :=
  if a < 4 then (if ed_sprq (ed_does σ a) then ed_end (ed_does σ a 6) 9 (ed_spr (ed_does σ a)) else ed_end (ed_sp σ a) (ed_sl σ a) (ed_does σ a))
  else ed_end (ed_sp σ a) (ed_sl σ a) (ed_does σ a)
/-! well-formedness is kept -/
theorem ed_bp_rg {σ : ec_Sg} {z d : Int} (hz : 0 ≤ z ∧ z < 48) (hb : ec_hb σ z d) : 11 ≤ ec_bp z d ∧ ec_bp z d < 107 := by
  unfold ec_hb at hb
  unfold ec_bp
  split
  · omega
  · split
    · omega
    · split <;> omega
theorem ed_WF_bp {σ σ' : ec_Sg} (w : ec_WF σ) (h : ∀ j : Int, 0 ≤ j ∧ j < 3 ∨ 11 ≤ j ∧ j < 107 → σ' j = σ j) : ∀ z d : Int, ec_ing σ' z → 0 ≤ d ∧ d < 4 → ec_hb σ' z d → 0 ≤ σ' (ec_bp z d) ∧ σ' (ec_bp z d) < 2 + σ' 2 := by
  intro z d hz hd hb
  have r := ed_bp_rg hz.1 hb
  unfold ec_ing at hz
  unfold ec_hb at hb
  rw [h 0 (by omega), h 1 (by omega)] at hz hb
  rw [h (ec_bp z d) (by omega), h 2 (by omega)]
  exact w.2.2.1 z d hz hd hb
theorem ed_WF_hd {σ σ' : ec_Sg} (w : ec_WF σ) (h : ∀ j : Int, ¬ (6 ≤ j ∧ j ≤ 10) → σ' j = σ j) (hv : ec_ing σ (σ' 6) ∧ (0 ≤ σ' 7 ∧ σ' 7 ≤ 9) ∧ (0 ≤ σ' 8 ∧ σ' 8 ≤ 99) ∧ (0 ≤ σ' 9 ∧ σ' 9 ≤ 1) ∧ (σ' 9 = 1 → 1 ≤ σ' 8)) : ec_WF σ' := by
  obtain ⟨w1, w2, w3, w4, w5, w6, w7, w8⟩ := id w
  unfold ec_ing at w2 w5 w6 w7
  refine ⟨?_, ?_, ?_, ?_, ?_, ?_, ?_, ?_⟩
  · simp (disch := omega) only [h]; exact w1
  · unfold ec_ing at hv ⊢; simp (disch := omega) only [h]; exact hv
  · exact ed_WF_bp w (fun j hj => by simp (disch := omega) only [h])
  · intro n hn; simp (disch := omega) only [h] at hn; simp (disch := omega) only [h]; exact w4 n hn
  · intro n hn; unfold ec_ing; simp (disch := omega) only [h] at hn; simp (disch := omega) only [h]; exact w5 n hn
  · intro n hn; unfold ec_ing; simp (disch := omega) only [h] at hn; simp (disch := omega) only [h]; exact w6 n hn
  · intro n hn; unfold ec_ing; simp (disch := omega) only [h] at hn; simp (disch := omega) only [h]; exact w7 n hn
  · intro n j hn hj; simp (disch := omega) only [h] at hn hj; simp (disch := omega) only [h]; exact w8 n j hn hj
theorem ed_WF_dr {σ σ' : ec_Sg} (w : ec_WF σ) {m : Int} (hm : 0 ≤ m ∧ m < 10) (h : ∀ j : Int, ¬ (107 + 6 * m ≤ j ∧ j ≤ 107 + 6 * m + 5) → σ' j = σ j) (hv : m < σ 2 → (0 ≤ σ' (107 + 6 * m) ∧ σ' (107 + 6 * m) ≤ 2) ∧ (0 ≤ σ' (107 + 6 * m + 1) ∧ σ' (107 + 6 * m + 1) ≤ 9) ∧ (0 ≤ σ' (107 + 6 * m + 2) ∧ σ' (107 + 6 * m + 2) ≤ 9) ∧ (0 ≤ σ' (107 + 6 * m + 5) ∧ σ' (107 + 6 * m + 5) ≤ 9) ∧ (σ' (107 + 6 * m) = 1 → 1 ≤ σ' (107 + 6 * m + 1) → 1 ≤ σ' (107 + 6 * m + 5))) : ec_WF σ' := by
  obtain ⟨w1, w2, w3, w4, w5, w6, w7, w8⟩ := id w
  unfold ec_ing at w2 w5 w6 w7
  refine ⟨?_, ?_, ?_, ?_, ?_, ?_, ?_, ?_⟩
  · simp (disch := omega) only [h]; exact w1
  · unfold ec_ing; simp (disch := omega) only [h]; exact w2
  · exact ed_WF_bp w (fun j hj => by simp (disch := omega) only [h])
  · intro n hn; simp (disch := omega) only [h] at hn
    by_cases e : n = m
    · subst e
      have q := hv hn.2
      rw [show 107 + 6 * n + 1 = 108 + 6 * n by omega, show 107 + 6 * n + 2 = 109 + 6 * n by omega, show 107 + 6 * n + 5 = 112 + 6 * n by omega] at q
      exact q
    · simp (disch := omega) only [h]; exact w4 n hn
  · intro n hn; unfold ec_ing; simp (disch := omega) only [h] at hn; simp (disch := omega) only [h]; exact w5 n hn
  · intro n hn; unfold ec_ing; simp (disch := omega) only [h] at hn; simp (disch := omega) only [h]; exact w6 n hn
  · intro n hn; unfold ec_ing; simp (disch := omega) only [h] at hn; simp (disch := omega) only [h]; exact w7 n hn
  · intro n j hn hj; simp (disch := omega) only [h] at hn hj; simp (disch := omega) only [h]; exact w8 n j hn hj
theorem ed_WF_to {σ σ' : ec_Sg} (w : ec_WF σ) {m : Int} (hm : 0 ≤ m ∧ m < 6) (h : ∀ j : Int, ¬ (167 + 3 * m ≤ j ∧ j ≤ 167 + 3 * m + 2) → σ' j = σ j) (hv : m < σ 3 → ec_ing σ (σ' (167 + 3 * m)) ∧ (0 ≤ σ' (167 + 3 * m + 1) ∧ σ' (167 + 3 * m + 1) ≤ 99) ∧ (0 ≤ σ' (167 + 3 * m + 2) ∧ σ' (167 + 3 * m + 2) ≤ 1) ∧ (σ' (167 + 3 * m + 2) = 1 → 1 ≤ σ' (167 + 3 * m + 1))) : ec_WF σ' := by
  obtain ⟨w1, w2, w3, w4, w5, w6, w7, w8⟩ := id w
  unfold ec_ing at w2 w5 w6 w7
  refine ⟨?_, ?_, ?_, ?_, ?_, ?_, ?_, ?_⟩
  · simp (disch := omega) only [h]; exact w1
  · unfold ec_ing; simp (disch := omega) only [h]; exact w2
  · exact ed_WF_bp w (fun j hj => by simp (disch := omega) only [h])
  · intro n hn; simp (disch := omega) only [h] at hn; simp (disch := omega) only [h]; exact w4 n hn
  · intro n hn; simp (disch := omega) only [h] at hn
    by_cases e : n = m
    · subst e
      have q := hv hn.2
      rw [show 167 + 3 * n + 1 = 168 + 3 * n by omega, show 167 + 3 * n + 2 = 169 + 3 * n by omega] at q
      unfold ec_ing at q ⊢
      rw [h 0 (by omega), h 1 (by omega)]
      exact q
    · unfold ec_ing; simp (disch := omega) only [h]; exact w5 n hn
  · intro n hn; unfold ec_ing; simp (disch := omega) only [h] at hn; simp (disch := omega) only [h]; exact w6 n hn
  · intro n hn; unfold ec_ing; simp (disch := omega) only [h] at hn; simp (disch := omega) only [h]; exact w7 n hn
  · intro n j hn hj; simp (disch := omega) only [h] at hn hj; simp (disch := omega) only [h]; exact w8 n j hn hj
theorem ed_WF_mo {σ σ' : ec_Sg} (w : ec_WF σ) {m : Int} (hm : 0 ≤ m ∧ m < 6) (h : ∀ j : Int, ¬ (185 + 5 * m ≤ j ∧ j ≤ 185 + 5 * m + 4) → σ' j = σ j) (hv : m < σ 4 → ec_ing σ (σ' (185 + 5 * m)) ∧ (1 ≤ σ' (185 + 5 * m + 1) ∧ σ' (185 + 5 * m + 1) ≤ 9) ∧ (0 ≤ σ' (185 + 5 * m + 2) ∧ σ' (185 + 5 * m + 2) ≤ 1) ∧ (σ' (185 + 5 * m + 3) = -1 ∨ ec_ing σ (σ' (185 + 5 * m + 3)))) : ec_WF σ' := by
  obtain ⟨w1, w2, w3, w4, w5, w6, w7, w8⟩ := id w
  unfold ec_ing at w2 w5 w6 w7
  refine ⟨?_, ?_, ?_, ?_, ?_, ?_, ?_, ?_⟩
  · simp (disch := omega) only [h]; exact w1
  · unfold ec_ing; simp (disch := omega) only [h]; exact w2
  · exact ed_WF_bp w (fun j hj => by simp (disch := omega) only [h])
  · intro n hn; simp (disch := omega) only [h] at hn; simp (disch := omega) only [h]; exact w4 n hn
  · intro n hn; unfold ec_ing; simp (disch := omega) only [h] at hn; simp (disch := omega) only [h]; exact w5 n hn
  · intro n hn; simp (disch := omega) only [h] at hn
    by_cases e : n = m
    · subst e
      have q := hv hn.2
      rw [show 185 + 5 * n + 1 = 186 + 5 * n by omega, show 185 + 5 * n + 2 = 187 + 5 * n by omega, show 185 + 5 * n + 3 = 188 + 5 * n by omega] at q
      unfold ec_ing at q ⊢
      rw [h 0 (by omega), h 1 (by omega)]
      exact q
    · unfold ec_ing; simp (disch := omega) only [h]; exact w6 n hn
  · intro n hn; unfold ec_ing; simp (disch := omega) only [h] at hn; simp (disch := omega) only [h]; exact w7 n hn
  · intro n j hn hj; simp (disch := omega) only [h] at hn hj; simp (disch := omega) only [h]; exact w8 n j hn hj
theorem ed_WF_tp {σ σ' : ec_Sg} (w : ec_WF σ) {m : Int} (hm : 0 ≤ m ∧ m < 6) (h : ∀ j : Int, ¬ (215 + 3 * m + 1 ≤ j ∧ j ≤ 215 + 3 * m + 2) → σ' j = σ j) (hv : m < σ 5 → 0 ≤ σ' (215 + 3 * m + 1) ∧ σ' (215 + 3 * m + 1) ≤ 2) : ec_WF σ' := by
  obtain ⟨w1, w2, w3, w4, w5, w6, w7, w8⟩ := id w
  unfold ec_ing at w2 w5 w6 w7
  refine ⟨?_, ?_, ?_, ?_, ?_, ?_, ?_, ?_⟩
  · simp (disch := omega) only [h]; exact w1
  · unfold ec_ing; simp (disch := omega) only [h]; exact w2
  · exact ed_WF_bp w (fun j hj => by simp (disch := omega) only [h])
  · intro n hn; simp (disch := omega) only [h] at hn; simp (disch := omega) only [h]; exact w4 n hn
  · intro n hn; unfold ec_ing; simp (disch := omega) only [h] at hn; simp (disch := omega) only [h]; exact w5 n hn
  · intro n hn; unfold ec_ing; simp (disch := omega) only [h] at hn; simp (disch := omega) only [h]; exact w6 n hn
  · intro n hn; unfold ec_ing; simp (disch := omega) only [h] at hn
    by_cases e : n = m
    · subst e
      have q := hv hn.2
      have := w7 n hn
      rw [show 215 + 3 * n + 1 = 216 + 3 * n by omega] at q
      simp (disch := omega) only [h]
      exact ⟨this.1, q⟩
    · simp (disch := omega) only [h]; exact w7 n hn
  · intro n j hn hj; simp (disch := omega) only [h] at hn hj; simp (disch := omega) only [h]; exact w8 n j hn hj
/-! the steps of a turn keep it -/
theorem ed_ing_c {σ σ' : ec_Sg} {z : Int} (h0 : σ' 0 = σ 0) (h1 : σ' 1 = σ 1) : ec_ing σ' z ↔ ec_ing σ z := by
  unfold ec_ing
  rw [h0, h1]
theorem ed_WF_puts {σ : ec_Sg} (w : ec_WF σ) {n v : Int} (hn : 0 ≤ n ∧ n < σ 2) (hv : 0 ≤ v ∧ v ≤ 2) : ec_WF (ed_puts σ n v) := by
  have w1 := w.1
  have d := ed_door w hn
  unfold ed_puts
  refine ed_WF_dr w (m := n) (by omega) (fun j hj => by simp (disch := omega) only [ec_suN]) (fun _ => ?_)
  simp (disch := omega) only [ec_suN, ec_suE]
  split <;> omega
theorem ed_WF_pass {σ : ec_Sg} (w : ec_WF σ) {b v : Int} (hb : b < 2 + σ 2) : ec_WF (ed_pass σ b v) := by
  have w1 := w.1
  unfold ed_pass
  split
  · have d := ed_door w (n := b - 2) (by omega)
    refine ed_WF_dr w (m := b - 2) (by omega) (fun j hj => by simp (disch := omega) only [ec_suN]) (fun _ => ?_)
    simp (disch := omega) only [ec_suN, ec_suE]
    exact d
  · exact w
theorem ed_WF_hit {σ : ec_Sg} (w : ec_WF σ) : ec_WF (ed_hit σ) := by
  have w2 := w.2.1
  unfold ed_hit
  refine ed_WF_hd w (fun j hj => by simp (disch := omega) only [ec_suN]) ?_
  simp (disch := omega) only [ec_suN, ec_suE]
  refine ⟨w2.1, ?_, w2.2.2⟩
  split <;> omega
theorem ed_WF_hero {σ : ec_Sg} (w : ec_WF σ) {z : Int} (hz : ec_ing σ z) : ec_WF (ec_su σ 6 z) := by
  refine ed_WF_hd w (fun j hj => by simp (disch := omega) only [ec_suN]) ?_
  simp (disch := omega) only [ec_suN, ec_suE]
  exact ⟨hz, w.2.1.2⟩
theorem ed_WF_turns {σ : ec_Sg} (w : ec_WF σ) {v : Int} : ec_WF (ec_su σ 10 v) := by
  refine ed_WF_hd w (fun j hj => by simp (disch := omega) only [ec_suN]) ?_
  simp (disch := omega) only [ec_suN, ec_suE]
  exact w.2.1
theorem ed_tr_rg {σ : ec_Sg} (w : ec_WF σ) {x : Int} : (ed_tr σ x = -1 ∧ ∀ j : Int, 0 ≤ j ∧ j < σ 5 → σ (215 + 3 * j) ≠ x) ∨ (0 ≤ ed_tr σ x ∧ ed_tr σ x < σ 5 ∧ σ (215 + 3 * ed_tr σ x) = x) := by
  have w1 := w.1
  unfold ed_tr
  rcases ed_fs_s (f := fun k => σ (215 + 3 * k)) (x := x) (σ 5).toNat 0 with ⟨a, b⟩ | ⟨a, b, c⟩
  · exact Or.inl ⟨a, fun j hj => b j (by omega)⟩
  · exact Or.inr ⟨a, by omega, c⟩
theorem ed_WF_spr {σ : ec_Sg} (w : ec_WF σ) : ec_WF (ed_spr σ) := by
  unfold ed_spr
  split
  · rename_i h
    have w1 := w.1
    rcases ed_tr_rg w (x := σ 6) with q | q
    · exact absurd q.1 h.1
    · have t := ed_trap w (k := ed_tr σ (σ 6)) (by omega)
      refine ed_WF_hit (ed_WF_tp w (m := ed_tr σ (σ 6)) (by omega) (fun j hj => by unfold ed_spr1; simp (disch := omega) only [ec_suN]) (fun _ => ?_))
      have h2 := h.2
      unfold ed_spr1
      simp (disch := omega) only [ec_suN, ec_suE]
      omega
  · exact w
theorem ed_WF_brn1 {σ : ec_Sg} (w : ec_WF σ) {t : Int} (ht : 0 ≤ t ∧ t < σ 3) : ec_WF (ed_brn1 σ t) := by
  have w1 := w.1
  have d := ed_torch w ht
  unfold ed_brn1
  refine ed_WF_to w (m := t) (by omega) (fun j hj => by simp (disch := omega) only [ec_suN]) (fun _ => ?_)
  simp (disch := omega) only [ec_suN, ec_suE]
  refine ⟨d.1, ?_⟩
  split <;> omega
theorem ed_WF_lmp {σ : ec_Sg} (w : ec_WF σ) : ec_WF (ed_lmp σ) := by
  have d := w.2.1
  unfold ed_lmp
  refine ed_WF_hd w (fun j hj => by simp (disch := omega) only [ec_suN]) ?_
  simp (disch := omega) only [ec_suN, ec_suE]
  refine ⟨d.1, ?_⟩
  split <;> omega
theorem ed_WF_goal {σ : ec_Sg} (w : ec_WF σ) {m v : Int} (hm : 0 ≤ m ∧ m < σ 4) (hv : v = -1 ∨ ec_ing σ v) : ec_WF (ec_su σ (185 + 5 * m + 3) v) := by
  have w1 := w.1
  have d := ed_mon w hm
  refine ed_WF_mo w (m := m) (by omega) (fun j hj => by simp (disch := omega) only [ec_suN]) (fun _ => ?_)
  simp (disch := omega) only [ec_suN, ec_suE]
  exact ⟨d.1, d.2.1, d.2.2.1, hv⟩
theorem ed_WF_mcell {σ : ec_Sg} (w : ec_WF σ) {m v : Int} (hm : 0 ≤ m ∧ m < σ 4) (hv : ec_ing σ v) : ec_WF (ec_su σ (185 + 5 * m) v) := by
  have w1 := w.1
  have d := ed_mon w hm
  refine ed_WF_mo w (m := m) (by omega) (fun j hj => by simp (disch := omega) only [ec_suN]) (fun _ => ?_)
  simp (disch := omega) only [ec_suN, ec_suE]
  exact ⟨hv, d.2⟩
theorem ed_WF_hrt1 {σ : ec_Sg} (w : ec_WF σ) {m : Int} (hm : 0 ≤ m ∧ m < σ 4) : ec_WF (ed_hrt1 σ m) := by
  have w1 := w.1
  have d := ed_mon w hm
  unfold ed_hrt1
  split
  · refine ed_WF_hit (ed_WF_mo w (m := m) (by omega) (fun j hj => by simp (disch := omega) only [ec_suN]) (fun _ => ?_))
    simp (disch := omega) only [ec_suN, ec_suE]
    exact d
  · exact w
theorem ed_WF_drs1 {σ : ec_Sg} (w : ec_WF σ) {k : Int} (hk : 0 ≤ k ∧ k < σ 2) : ec_WF (ed_drs1 σ k) := by
  have w1 := w.1
  have d := ed_door w hk
  unfold ed_drs1
  split
  · rename_i q
    refine ed_WF_dr w (m := k) (by omega) (fun j hj => by simp (disch := omega) only [ec_suN]) (fun _ => ?_)
    simp (disch := omega) only [ec_suN, ec_suE]
    split <;> omega
  · exact w
