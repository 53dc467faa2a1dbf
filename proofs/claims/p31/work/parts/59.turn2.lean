/-! A turn, over the row: folds, agreement, well-formedness of the whole turn. -/
theorem ed_fold_ind {f : ec_Sg → Int → ec_Sg} {I : Int → ec_Sg → Prop} : ∀ (n : Nat) (i : Int) (σ : ec_Sg), I i σ → (∀ (j : Int) (τ : ec_Sg), i ≤ j ∧ j < i + n → I j τ → I (j + 1) (f τ j)) → I (i + n) (ed_fold f n i σ)
  | 0, i, σ, h, _ => by
    rw [show i + ((0 : Nat) : Int) = i by omega]
    exact h
  | n + 1, i, σ, h, hs => by
    have := ed_fold_ind (I := I) n (i + 1) (f σ i) (hs i σ (by omega) h) (fun j τ hj hI => hs j τ (by omega) hI)
    rw [show i + ((n + 1 : Nat) : Int) = i + 1 + n by omega]
    exact this
/-- a fold over the things of one kind -/
theorem ed_fold_WF {f : ec_Sg → Int → ec_Sg} {c : Int} {σ : ec_Sg} (w : ec_WF σ) (h0 : 0 ≤ σ c) (hs : ∀ (j : Int) (τ : ec_Sg), ec_WF τ → 0 ≤ j ∧ j < τ c → ec_WF (f τ j) ∧ f τ j c = τ c) : ec_WF (ed_fold f (σ c).toNat 0 σ) ∧ ed_fold f (σ c).toNat 0 σ c = σ c :=
  ed_fold_ind (I := fun _ τ => ec_WF τ ∧ τ c = σ c) (σ c).toNat 0 σ ⟨w, rfl⟩ (fun j τ hj hI => by
    have q := hs j τ hI.1 (by have := hI.2; omega)
    exact ⟨q.1, q.2.trans hI.2⟩)
/-! agreement -/
def ed_ag (σ σ' : ec_Sg) : Prop := ∀ j : Int, j < 185 → σ' j = σ j
theorem ed_ag.ba {σ σ' : ec_Sg} (h : ed_ag σ σ') {z d : Int} (hz : 0 ≤ z ∧ z < 48) : ec_ba σ' z d = ec_ba σ z d := by
  have r := ec_bp_rg (d := d) hz
  unfold ec_ba ec_hb
  rw [h 0 (by omega), h 1 (by omega), h (ec_bp z d) (by omega)]
theorem ed_ag.so {σ σ' : ec_Sg} (h : ed_ag σ σ') {b : Int} (hb : b < 12) : ec_so σ' b = ec_so σ b := h _ (by omega)
theorem ed_ag.ing {σ σ' : ec_Sg} (h : ed_ag σ σ') {z : Int} : ec_ing σ' z ↔ ec_ing σ z := ed_ing_c (h 0 (by omega)) (h 1 (by omega))
theorem ed_ag.cq {σ σ' : ec_Sg} (h : ed_ag σ σ') (w : ec_WF σ) {z d : Int} (hz : ec_ing σ z) (hd : 0 ≤ d ∧ d < 4) : ec_cq σ' z d ↔ ec_cq σ z d := by
  have b := w.ba hz hd
  have w1 := w.1
  unfold ec_cq
  rw [h.ba hz.1, h.so (by omega)]
theorem ed_ag.rch {σ σ' : ec_Sg} (h : ed_ag σ σ') (w : ec_WF σ) {g : Int} (hg : ec_ing σ g) : ∀ (n : Nat) (z : Int), ed_rch σ' g n z ↔ ed_rch σ g n z
  | 0, z => Iff.rfl
  | n + 1, z => by
    have ih := ed_ag.rch h w hg n
    show (ed_rch σ' g n z ∨ ∃ u d : Int, (0 ≤ d ∧ d < 4) ∧ ed_rch σ' g n u ∧ ec_cq σ' u d ∧ ec_nb u d = z) ↔ (ed_rch σ g n z ∨ ∃ u d : Int, (0 ≤ d ∧ d < 4) ∧ ed_rch σ g n u ∧ ec_cq σ u d ∧ ec_nb u d = z)
    rw [ih z]
    refine ⟨fun q => Or.elim q Or.inl ?_, fun q => Or.elim q Or.inl ?_⟩
    · rintro ⟨u, d, hd, h1, h2, h3⟩
      have h1 := (ih u).mp h1
      exact Or.inr ⟨u, d, hd, h1, (h.cq w (ed_rch_in w hg n u h1) hd).mp h2, h3⟩
    · rintro ⟨u, d, hd, h1, h2, h3⟩
      exact Or.inr ⟨u, d, hd, (ih u).mpr h1, (h.cq w (ed_rch_in w hg n u h1) hd).mpr h2, h3⟩
theorem ed_ag.lit {σ σ' : ec_Sg} (h : ed_ag σ σ') (w : ec_WF σ) {z : Int} : ed_lit σ' z ↔ ed_lit σ z := by
  have w1 := w.1
  unfold ed_lit
  rw [h 3 (by omega), h 9 (by omega), h 6 (by omega), h.rch w w.2.1.1 2 z]
  refine ⟨fun q => Or.elim q ?_ Or.inr, fun q => Or.elim q ?_ Or.inr⟩
  · rintro ⟨t, ht, h1, h2⟩
    rw [h (167 + 3 * t + 2) (by omega)] at h1
    rw [h (167 + 3 * t) (by omega), h.rch w (ed_torch w ht).1] at h2
    exact Or.inl ⟨t, ht, h1, h2⟩
  · rintro ⟨t, ht, h1, h2⟩
    rw [← h (167 + 3 * t + 2) (by omega)] at h1
    rw [← h.rch w (ed_torch w ht).1, ← h (167 + 3 * t) (by omega)] at h2
    exact Or.inl ⟨t, ht, h1, h2⟩
theorem ed_ag.P {σ σ' : ec_Sg} (h : ed_ag σ σ') (w : ec_WF σ) {m : Int} : ed_P σ' m = ed_P σ m := by
  funext z d
  unfold ed_P
  have hb : ec_hb σ' z d ↔ ec_hb σ z d := by
    unfold ec_hb
    rw [h 0 (by omega), h 1 (by omega)]
  by_cases q : ec_ing σ z ∧ ec_hb σ z d
  · rw [if_pos q, if_pos (show ec_ing σ' z ∧ ec_hb σ' z d from ⟨h.ing.mpr q.1, hb.mpr q.2⟩)]
    have hd : 0 ≤ d ∧ d < 4 := by
      have := q.2
      unfold ec_hb at this
      omega
    have w1 := w.1
    have b := w.ba q.1 hd
    unfold ed_snd ed_wby ec_cq
    rw [h.ba q.1.1, h.so (by omega)]
  · rw [if_neg q, if_neg (fun (y : ec_ing σ' z ∧ ec_hb σ' z d) => q ⟨h.ing.mp y.1, hb.mp y.2⟩)]
theorem ed_ag.lb {σ σ' : ec_Sg} (h : ed_ag σ σ') (w : ec_WF σ) {m g : Int} : ed_lb σ' m g = ed_lb σ m g := by
  unfold ed_lb
  rw [h.P w]
theorem ed_ag.refl {σ : ec_Sg} : ed_ag σ σ := fun _ _ => rfl
theorem ed_ag.su {σ σ' : ec_Sg} (h : ed_ag σ σ') {k v : Int} (hk : 185 ≤ k) : ed_ag σ (ec_su σ' k v) := fun j hj => by
  rw [ec_suN (by omega)]
  exact h j hj
/-! the first border of a way is one that can be used -/
theorem ed_fd_s {P : Int → Int → Int} {c : Nat → Int} {z k : Int} : ∀ (n : Nat) (d : Int), 0 ≤ d → d + n = 4 → ec_fd P c z k n d = -1 ∨ ((0 ≤ ec_fd P c z k n d ∧ ec_fd P c z k n d < 4) ∧ ¬ P z (ec_fd P c z k n d) = 0 ∧ ¬ ec_ct c (ec_nb z (ec_fd P c z k n d)) = -1 ∧ P z (ec_fd P c z k n d) + ec_ct c (ec_nb z (ec_fd P c z k n d)) = k)
  | 0, _, _, _ => Or.inl rfl
  | n + 1, d, h0, hd => by
    rw [show ec_fd P c z k (n + 1) d = if ¬ P z d = 0 ∧ ¬ ec_ct c (ec_nb z d) = -1 ∧ P z d + ec_ct c (ec_nb z d) = k then d else ec_fd P c z k n (d + 1) from rfl]
    by_cases q : ¬ P z d = 0 ∧ ¬ ec_ct c (ec_nb z d) = -1 ∧ P z d + ec_ct c (ec_nb z d) = k
    · rw [if_pos q]
      exact Or.inr ⟨by omega, q⟩
    · rw [if_neg q]
      exact ed_fd_s n (d + 1) (by omega) (by omega)
theorem ed_dir_s {σ : ec_Sg} {κ g z : Int} : ed_dir σ κ g z = -1 ∨ ((0 ≤ ed_dir σ κ g z ∧ ed_dir σ κ g z < 4) ∧ ¬ ed_P σ κ z (ed_dir σ κ g z) = 0) := by
  unfold ed_dir ec_fdir
  split
  · exact Or.inl rfl
  · rcases ed_fd_s (P := ed_P σ κ) (c := ed_lb σ κ g) (z := z) (k := ec_ct (ed_lb σ κ g) z) 4 0 (by omega) (by omega) with q | q
    · exact Or.inl q
    · exact Or.inr ⟨q.1, q.2.1⟩
theorem ed_WF_act1 {σ : ec_Sg} (w : ec_WF σ) {m : Int} (hm : 0 ≤ m ∧ m < σ 4) : ec_WF (ed_act1 σ m) := by
  have M := ed_mon w hm
  have s := ed_dir_s (σ := σ) (κ := σ (185 + 5 * m + 2)) (g := σ (185 + 5 * m + 3)) (z := σ (185 + 5 * m))
  unfold ed_act1
  split
  · exact w
  · split
    · exact ed_WF_goal w hm (Or.inl rfl)
    · rename_i h1 h2
      rcases s with s | ⟨s1, s2⟩
      · exact absurd s h2
      · have w1 := w.1
        have b := w.ba M.1 s1
        split
        · rename_i h3
          refine ed_WF_pass (ed_WF_mcell w hm (ec_nb_in w M.1 s1 (ed_cq_hb h3))) ?_
          rw [ec_suN (by omega)]
          exact b.2
        · rename_i h3
          rw [ed_P_wby M.2.2.1 M.1] at s2
          unfold ed_wby at s2
          rw [if_neg h3] at s2
          by_cases q : 1 < ec_ba σ (σ (185 + 5 * m)) (ed_dir σ (σ (185 + 5 * m + 2)) (σ (185 + 5 * m + 3)) (σ (185 + 5 * m)))
          · exact ed_WF_puts w (by omega) (by omega)
          · rw [if_neg (fun y => q y.1)] at s2
            exact absurd rfl s2
theorem ed_4_pass {σ : ec_Sg} {b v c : Int} (hc : c < 107) : ed_pass σ b v c = σ c := by
  unfold ed_pass
  split
  · simp (disch := omega) only [ec_suN]
  · rfl
theorem ed_4_puts {σ : ec_Sg} {n v c : Int} (hn : 0 ≤ n) (hc : c < 107) : ed_puts σ n v c = σ c := by
  unfold ed_puts
  simp (disch := omega) only [ec_suN]
theorem ed_act1_c {σ : ec_Sg} (w : ec_WF σ) {m c : Int} (hm : 0 ≤ m ∧ m < σ 4) (hc : c < 107) : ed_act1 σ m c = σ c := by
  have M := ed_mon w hm
  have s := ed_dir_s (σ := σ) (κ := σ (185 + 5 * m + 2)) (g := σ (185 + 5 * m + 3)) (z := σ (185 + 5 * m))
  unfold ed_act1
  split
  · rfl
  · split
    · rw [ec_suN (by omega)]
    · rename_i h1 h2
      rcases s with s | ⟨s1, s2⟩
      · exact absurd s h2
      · split
        · rw [ed_4_pass hc, ec_suN (by omega)]
        · rename_i h3
          rw [ed_P_wby M.2.2.1 M.1] at s2
          unfold ed_wby at s2
          rw [if_neg h3] at s2
          by_cases q : 1 < ec_ba σ (σ (185 + 5 * m)) (ed_dir σ (σ (185 + 5 * m + 2)) (σ (185 + 5 * m + 3)) (σ (185 + 5 * m)))
          · rw [ed_4_puts (by omega) hc]
          · rw [if_neg (fun y => q y.1)] at s2
            exact absurd rfl s2
theorem ed_WF_acts {σ : ec_Sg} (w : ec_WF σ) : ec_WF (ed_acts σ) := (ed_fold_WF (c := 4) w (by have := w.1; omega) (fun _ _ w hj => ⟨ed_WF_act1 w hj, ed_act1_c w hj (by omega)⟩)).1
theorem ed_hit_c {σ : ec_Sg} {c : Int} (hc : c ≠ 7) : ed_hit σ c = σ c := by
  unfold ed_hit
  rw [ec_suN hc]
theorem ed_WF_hrt {σ : ec_Sg} (w : ec_WF σ) : ec_WF (ed_hrt σ) := (ed_fold_WF (c := 4) w (by have := w.1; omega) (fun j τ w hj => ⟨ed_WF_hrt1 w hj, by
  unfold ed_hrt1
  split
  · rw [ed_hit_c (by omega), ec_suN (by omega)]
  · rfl⟩)).1
theorem ed_WF_drs {σ : ec_Sg} (w : ec_WF σ) : ec_WF (ed_drs σ) := (ed_fold_WF (c := 2) w (by have := w.1; omega) (fun j τ w hj => ⟨ed_WF_drs1 w hj, by
  unfold ed_drs1
  split
  · simp (disch := omega) only [ec_suN]
  · rfl⟩)).1
theorem ed_brn1_c {σ : ec_Sg} {t c : Int} (ht : 0 ≤ t) (hc : c < 168) : ed_brn1 σ t c = σ c := by
  unfold ed_brn1
  simp (disch := omega) only [ec_suN]
theorem ed_WF_brn {σ : ec_Sg} (w : ec_WF σ) : ec_WF (ed_brn σ) := ed_WF_lmp (ed_fold_WF (c := 3) w (by have := w.1; omega) (fun j τ w hj => ⟨ed_WF_brn1 w hj, ed_brn1_c hj.1 (by omega)⟩)).1
theorem ed_gl_in {σ : ec_Sg} (w : ec_WF σ) {p l m : Int} (hm : 0 ≤ m ∧ m < σ 4) (hp : ec_ing σ p) : ed_gl σ p l m = -1 ∨ ec_ing σ (ed_gl σ p l m) := by
  have M := ed_mon w hm
  unfold ed_gl
  by_cases h : ed_see σ m
  · rw [if_pos h]; exact Or.inr w.2.1.1
  · rw [if_neg h]
    split
    · exact Or.inr hp
    · exact M.2.2.2
theorem ed_her_s {σ : ec_Sg} (w : ec_WF σ) {p l : Int} (hp : ec_ing σ p) : ec_WF (ed_her p l σ) ∧ ∀ c : Int, c < 185 → ed_her p l σ c = σ c :=
  ed_fold_ind (I := fun _ τ => ec_WF τ ∧ ∀ c : Int, c < 185 → τ c = σ c) (σ 4).toNat 0 σ ⟨w, fun _ _ => rfl⟩ (fun j τ hj hI => by
    obtain ⟨i1, i2⟩ := hI
    have e0 := i2 0 (by omega)
    have e1 := i2 1 (by omega)
    have e4 := i2 4 (by omega)
    refine ⟨ed_WF_goal i1 (by omega) (ed_gl_in i1 (by omega) ((ed_ing_c e0 e1).mpr hp)), fun c hc => ?_⟩
    rw [ec_suN (by omega)]
    exact i2 c hc)
theorem ed_brn_c {σ : ec_Sg} (w : ec_WF σ) {c : Int} (hc : c < 168) (h8 : c ≠ 8) (h9 : c ≠ 9) : ed_brn σ c = σ c := by
  unfold ed_brn ed_lmp
  rw [ec_suN h9, ec_suN h8]
  exact ed_fold_ind (I := fun _ τ => τ c = σ c) (σ 3).toNat 0 σ rfl (fun j τ hj hI => (ed_brn1_c (by omega) hc).trans hI)
theorem ed_WF_end {σ : ec_Sg} (w : ec_WF σ) {p l : Int} (hp : ec_ing σ p) : ec_WF (ed_end p l σ) := by
  unfold ed_end
  refine ed_WF_turns (ed_WF_drs (ed_WF_hrt (ed_WF_acts (ed_her_s (ed_WF_brn w) ?_).1)))
  exact (ed_ing_c (ed_brn_c w (by omega) (by omega) (by omega)) (ed_brn_c w (by omega) (by omega) (by omega))).mpr hp
/-! what an action does -/
theorem ed_rsn_0 {σ : ec_Sg} {a : Int} (h : ed_rsn σ a = 0) : σ 7 ≠ 0 ∧ (a < 4 → ec_cq σ (σ 6) a) ∧ (4 ≤ a ∧ a < 12 → 1 < ec_ba σ (σ 6) (a % 4)) ∧ (a = 13 → σ 8 ≠ 0) := by
  unfold ed_rsn at h
  split at h
  · omega
  · rename_i h7
    refine ⟨h7, fun q => ?_, fun q => ?_, fun q => ?_⟩
    · rw [if_pos q] at h
      split at h
      · assumption
      · omega
    · rw [if_neg (by omega), if_pos q.2] at h
      split at h
      · omega
      · rename_i y
        exact Classical.byContradiction (fun z => y z)
    · rw [if_neg (by omega), if_neg (by omega), if_pos q] at h
      split at h
      · omega
      · rename_i y
        exact fun z => y (Or.inl z)
theorem ed_does_c {σ : ec_Sg} {a c : Int} (h : ed_rsn σ a = 0) (hc : c < 107) (h6 : c ≠ 6) (h9 : c ≠ 9) : ed_does σ a c = σ c := by
  obtain ⟨r1, r2, r3, r4⟩ := ed_rsn_0 h
  unfold ed_does
  split
  · rw [ed_4_pass hc, ec_suN h6]
  · split
    · have := r3 (by omega)
      rw [ed_4_puts (by omega) hc]
    · split
      · rw [ec_suN h9]
      · split
        · rw [ec_suN h9]
        · rfl
theorem ed_WF_does {σ : ec_Sg} (w : ec_WF σ) {a : Int} (ha : 0 ≤ a ∧ a < 16) (h : ed_rsn σ a = 0) : ec_WF (ed_does σ a) := by
  obtain ⟨r1, r2, r3, r4⟩ := ed_rsn_0 h
  have w2 := w.2.1
  have b := w.ba w2.1 (d := a % 4) (by omega)
  unfold ed_does
  split
  · rename_i q
    have r2 := r2 q
    refine ed_WF_pass (ed_WF_hero w (ec_nb_in w w2.1 (by omega) (ed_cq_hb r2))) ?_
    rw [ec_suN (by omega)]
    exact b.2
  · split
    · have := r3 (by omega)
      refine ed_WF_puts w (by omega) ?_
      split <;> omega
    · split
      · rename_i q
        have := r4 q
        refine ed_WF_hd w (fun j hj => by simp (disch := omega) only [ec_suN]) ?_
        simp (disch := omega) only [ec_suN, ec_suE]
        exact ⟨w2.1, w2.2.1, w2.2.2.1, by omega, by omega⟩
      · split
        · refine ed_WF_hd w (fun j hj => by simp (disch := omega) only [ec_suN]) ?_
          simp (disch := omega) only [ec_suN, ec_suE]
          exact ⟨w2.1, w2.2.1, w2.2.2.1, by omega, by omega⟩
        · exact w
theorem ed_stn_in {σ : ec_Sg} (w : ec_WF σ) : ∀ (n : Nat) (z : Int), ec_ing σ z → ec_ing σ (ed_stn σ n z)
  | 0, _, h => h
  | n + 1, z, h => by
    rw [show ed_stn σ (n + 1) z = if ec_cq σ z 1 then ed_stn σ n (ec_nb z 1) else z from rfl]
    split
    · rename_i q
      exact ed_stn_in w n _ (ec_nb_in w h (by omega) (ed_cq_hb q))
    · exact h
theorem ed_sp_in {σ : ec_Sg} (w : ec_WF σ) {a : Int} (ha : 0 ≤ a ∧ a < 16) (h : ed_rsn σ a = 0) : ec_ing σ (ed_sp σ a) := by
  obtain ⟨r1, r2, r3, r4⟩ := ed_rsn_0 h
  have w2 := w.2.1
  unfold ed_sp
  split
  · rename_i q
    exact ec_nb_in w w2.1 (by omega) (ed_cq_hb (r2 q))
  · split
    · exact ed_stn_in w 3 _ w2.1
    · exact w2.1
theorem ed_spr_c {σ : ec_Sg} {c : Int} (hc : c < 107) (h7 : c ≠ 7) (w : ec_WF σ) : ed_spr σ c = σ c := by
  unfold ed_spr
  split
  · rename_i q
    rcases ed_tr_rg w (x := σ 6) with y | y
    · exact absurd y.1 q.1
    · rw [ed_hit_c h7]
      unfold ed_spr1
      rw [ec_suN (by omega), ec_suN (by omega)]
  · rfl
theorem ed_WF_turn {σ : ec_Sg} (w : ec_WF σ) {a : Int} (ha : 0 ≤ a ∧ a < 16) (h : ed_rsn σ a = 0) : ec_WF (ed_turn σ a) := by
  have d := ed_WF_does w ha h
  have s := ed_sp_in w ha h
  have s' : ec_ing (ed_does σ a) (ed_sp σ a) := (ed_ing_c (ed_does_c h (by omega) (by omega) (by omega)) (ed_does_c h (by omega) (by omega) (by omega))).mpr s
  unfold ed_turn
  split
  · split
    · refine ed_WF_end (ed_WF_spr d) ?_
      exact (ed_ing_c (ed_spr_c (by omega) (by omega) d) (ed_spr_c (by omega) (by omega) d)).mpr d.2.1.1
    · exact ed_WF_end d s'
  · exact ed_WF_end d s'
