/-! Prices over the row; arrays of the reference; all cells hear all sounds. -/
def ed_P (σ : ec_Sg) (m z d : Int) : Int := if ec_ing σ z ∧ ec_hb σ z d then (if m = 2 then ed_snd σ z d else ed_wby σ m z d) else 0
theorem ed_snd_rg {σ : ec_Sg} {z d : Int} : 1 ≤ ed_snd σ z d ∧ ed_snd σ z d ≤ 7 := by
  unfold ed_snd
  split
  · decide
  · split <;> decide
theorem ed_wby_rg {σ : ec_Sg} {k z d : Int} : 0 ≤ ed_wby σ k z d ∧ ed_wby σ k z d ≤ 2 := by
  unfold ed_wby
  split
  · decide
  · split <;> decide
theorem ed_P_PP {σ : ec_Sg} {m : Int} : ec_PP (ed_P σ m) := by
  intro z d _ _
  have h1 := ed_snd_rg (σ := σ) (z := z) (d := d)
  have h2 := ed_wby_rg (σ := σ) (k := m) (z := z) (d := d)
  unfold ed_P
  split
  · split <;> omega
  · omega
theorem ed_P_in {σ : ec_Sg} {m z d : Int} (h : ¬ ed_P σ m z d = 0) : ec_ing σ z ∧ ec_hb σ z d := by
  unfold ed_P at h
  split at h
  · assumption
  · exact absurd rfl h
theorem ed_P_ED {σ : ec_Sg} (w : ec_WF σ) {m : Int} : ec_ED (ed_P σ m) := by
  intro z d _ hd h0
  have h := ed_P_in h0
  exact (ec_nb_in w h.1 hd h.2).1
/-- a border's other side -/
theorem ed_opp {σ : ec_Sg} (w : ec_WF σ) {z d : Int} (hz : ec_ing σ z) (hd : 0 ≤ d ∧ d < 4) (hb : ec_hb σ z d) : ec_ing σ (ec_nb z d) ∧ ec_hb σ (ec_nb z d) ((d + 2) % 4) ∧ ec_bp (ec_nb z d) ((d + 2) % 4) = ec_bp z d ∧ ec_nb (ec_nb z d) ((d + 2) % 4) = z := by
  refine ⟨ec_nb_in w hz hd hb, ?_⟩
  have w := w.1
  unfold ec_ing at hz
  unfold ec_hb at hb ⊢
  unfold ec_bp
  rcases (show d = 0 ∨ d = 1 ∨ d = 2 ∨ d = 3 by omega) with rfl | rfl | rfl | rfl
  · have e : ec_nb z 0 = z - 8 := rfl
    have e2 : ∀ x, ec_nb x 2 = x + 8 := fun _ => rfl
    rw [show ((0 : Int) + 2) % 4 = 2 from rfl, e, e2]
    refine ⟨by omega, ?_, by omega⟩
    rw [if_neg (by decide), if_neg (by decide), if_pos rfl, if_pos rfl]
    omega
  · have e : ec_nb z 1 = z + 1 := rfl
    have e2 : ∀ x, ec_nb x 3 = x - 1 := fun _ => rfl
    rw [show ((1 : Int) + 2) % 4 = 3 from rfl, e, e2]
    refine ⟨by omega, ?_, by omega⟩
    rw [if_neg (by decide), if_neg (by decide), if_neg (by decide), if_neg (by decide), if_pos rfl]
    omega
  · have e : ec_nb z 2 = z + 8 := rfl
    have e2 : ∀ x, ec_nb x 0 = x - 8 := fun _ => rfl
    rw [show ((2 : Int) + 2) % 4 = 0 from rfl, e, e2]
    refine ⟨by omega, ?_, by omega⟩
    rw [if_pos rfl, if_neg (by decide), if_neg (by decide), if_pos rfl]
    omega
  · have e : ec_nb z 3 = z - 1 := rfl
    have e2 : ∀ x, ec_nb x 1 = x + 1 := fun _ => rfl
    rw [show ((3 : Int) + 2) % 4 = 1 from rfl, e, e2]
    refine ⟨by omega, ?_, by omega⟩
    rw [if_neg (by decide), if_pos rfl, if_neg (by decide), if_neg (by decide), if_neg (by decide)]
    omega
theorem ed_ba_opp {σ : ec_Sg} (w : ec_WF σ) {z d : Int} (hz : ec_ing σ z) (hd : 0 ≤ d ∧ d < 4) (hb : ec_hb σ z d) : ec_ba σ (ec_nb z d) ((d + 2) % 4) = ec_ba σ z d := by
  obtain ⟨a1, a2, a3, a4⟩ := ed_opp w hz hd hb
  unfold ec_ba
  rw [if_pos a2, if_pos hb, a3]
theorem ed_P_opp {σ : ec_Sg} (w : ec_WF σ) {m z d : Int} (hz : ec_ing σ z) (hd : 0 ≤ d ∧ d < 4) (hb : ec_hb σ z d) : ed_P σ m (ec_nb z d) ((d + 2) % 4) = ed_P σ m z d := by
  obtain ⟨a1, a2, a3, a4⟩ := ed_opp w hz hd hb
  have e := ed_ba_opp w hz hd hb
  unfold ed_P ed_snd ed_wby ec_cq
  rw [if_pos (show ec_ing σ (ec_nb z d) ∧ ec_hb σ (ec_nb z d) ((d + 2) % 4) from ⟨a1, a2⟩), if_pos (show ec_ing σ z ∧ ec_hb σ z d from ⟨hz, hb⟩), e]
/-- labels of the row -/
noncomputable def ed_lb (σ : ec_Sg) (m g : Int) : Nat → Int := ec_dsc (ed_P σ m) 1000000 (ec_uc (fun _ => 1000000) g 0)
theorem ed_c0 {g : Int} (hg : 0 ≤ g ∧ g < 48) (k : Nat) : ec_uc (fun _ => 1000000) g 0 k = if k = g.toNat then 0 else 1000000 := by
  rw [ec_uc_v hg]
  by_cases e : k = g.toNat
  · rw [if_pos ⟨e, by decide⟩, if_pos e]
  · rw [if_neg (fun q => e q.1), if_neg e]
theorem ed_lb_LD {σ : ec_Sg} (w : ec_WF σ) {m g : Int} (hg : 0 ≤ g ∧ g < 48) : ec_LD (ed_P σ m) 1000000 (ec_uc (fun _ => 1000000) g 0) (ed_lb σ m g) := by
  refine ec_dsc_spec ed_P_PP (ed_P_ED w) (fun k _ => ?_)
  rw [ed_c0 hg]
  split <;> decide
theorem ed_lb_bd {σ : ec_Sg} (w : ec_WF σ) {m g : Int} (hg : 0 ≤ g ∧ g < 48) {k : Nat} (hk : k < 48) : 0 ≤ ed_lb σ m g k ∧ (ed_lb σ m g k = 1000000 ∨ ed_lb σ m g k ≤ 337) := by
  refine ⟨((ed_lb_LD w hg).1 k hk).1, (ed_lb_LD w hg).bd ed_P_PP (Int.le_refl _) (fun k _ => ?_) k hk⟩
  rw [ed_c0 hg]
  split
  · exact Or.inr (by decide)
  · exact Or.inl rfl
/-- the labels of the class's measuring -/
theorem ed_lb_sp {σ : ec_Sg} (w : ec_WF σ) {m g t : Int} (hg : 0 ≤ g ∧ g < 48) (ht : 0 ≤ t ∧ t < 48) : ∀ k : Nat, k < 48 → (ec_sp (ed_P σ m) 1000000 2304 (ec_uc (fun _ => 1000000) g 0) (ec_un (fun _ => 1000000) (fun _ => false) g 0) t).1 k = ed_lb σ m g k := by
  refine ec_sp_all (ed_P_ED w) ed_P_PP (Int.le_refl _) (ed_lb_LD w hg) ht (fun k _ => ?_) (fun k _ => ?_)
  · rw [ed_c0 hg]
    split <;> decide
  · rw [ed_c0 hg, ec_un_v hg]
    by_cases e : k = g.toNat
    · rw [if_pos ⟨e, by decide⟩, if_pos e]
      exact ⟨fun _ => by decide, fun _ => rfl⟩
    · rw [if_neg (fun q => e q.1), if_neg e]
      exact ⟨fun q => absurd q (by decide), fun q => absurd q (by decide)⟩
theorem ed_lb_0 {σ : ec_Sg} (w : ec_WF σ) {m g : Int} (hg : 0 ≤ g ∧ g < 48) : ed_lb σ m g g.toNat = 0 := by
  have h := (ed_lb_LD w (m := m) hg).1 g.toNat (by omega)
  rw [ed_c0 hg, if_pos rfl] at h
  omega
theorem ed_snd_nb {σ : ec_Sg} (w : ec_WF σ) {g z d : Int} (hg : 0 ≤ g ∧ g < 48) (hz : ec_ing σ z) (hd : 0 ≤ d ∧ d < 4) (hb : ec_hb σ z d) (h : ed_lb σ 2 g z.toNat ≤ 337) : ed_lb σ 2 g (ec_nb z d).toNat ≤ 337 := by
  have e : ed_P σ 2 z d = ed_snd σ z d := by
    unfold ed_P
    rw [if_pos ⟨hz, hb⟩, if_pos rfl]
  have r := ed_snd_rg (σ := σ) (z := z) (d := d)
  have q := (ed_lb_LD w (m := 2) hg).2.1 z d hz.1 hd (by omega) (by omega)
  have n := (ec_nb_in w hz hd hb).1
  have b := (ed_lb_bd w (m := 2) hg (k := (ec_nb z d).toNat) (by omega)).2
  omega
/-- a sound comes everywhere -/
theorem ed_snd_fin {σ : ec_Sg} (w : ec_WF σ) {g z : Int} (hg : ec_ing σ g) (hz : ec_ing σ z) : ed_lb σ 2 g z.toNat ≤ 337 := by
  have w1 := w.1
  have down : ∀ (n : Nat) (u : Int), ec_ing σ u → u % 8 + u / 8 ≤ n → ed_lb σ 2 g u.toNat ≤ 337 → ed_lb σ 2 g 0 ≤ 337 := by
    intro n
    induction n with
    | zero =>
      intro u hu hn h
      have : u.toNat = 0 := by omega
      rw [this] at h
      exact h
    | succ n ih =>
      intro u hu hn h
      by_cases q : 0 < u % 8
      · have h1 := ed_snd_nb w hg.1 hu (d := 3) (by omega) (by unfold ec_hb; omega) h
        have h2 := ec_nb_in w hu (d := 3) (by omega) (by unfold ec_hb; omega)
        rw [show ec_nb u 3 = u - 1 from rfl] at h1 h2
        exact ih (u - 1) h2 (by omega) h1
      · by_cases q2 : 8 ≤ u
        · have h1 := ed_snd_nb w hg.1 hu (d := 0) (by omega) (by unfold ec_hb; omega) h
          have h2 := ec_nb_in w hu (d := 0) (by omega) (by unfold ec_hb; omega)
          rw [show ec_nb u 0 = u - 8 from rfl] at h1 h2
          exact ih (u - 8) h2 (by omega) h1
        · have : u.toNat = 0 := by omega
          rw [this] at h
          exact h
  have h0 : ed_lb σ 2 g 0 ≤ 337 := down (g % 8 + g / 8).toNat g hg (by omega) (by rw [ed_lb_0 w hg.1]; decide)
  have up : ∀ (n : Nat) (u : Int), ec_ing σ u → u % 8 + u / 8 ≤ n → ed_lb σ 2 g u.toNat ≤ 337 := by
    intro n
    induction n with
    | zero =>
      intro u hu hn
      have : u.toNat = 0 := by omega
      rw [this]
      exact h0
    | succ n ih =>
      intro u hu hn
      by_cases q : 0 < u % 8
      · have hv : ec_ing σ (u - 1) := by unfold ec_ing at hu ⊢; omega
        have h1 := ed_snd_nb w hg.1 hv (d := 1) (by omega) (by unfold ec_hb; unfold ec_ing at hu; omega) (ih (u - 1) hv (by omega))
        rw [show ec_nb (u - 1) 1 = u - 1 + 1 from rfl, show u - 1 + 1 = u by omega] at h1
        exact h1
      · by_cases q2 : 8 ≤ u
        · have hv : ec_ing σ (u - 8) := by unfold ec_ing at hu ⊢; omega
          have h1 := ed_snd_nb w hg.1 hv (d := 2) (by omega) (by unfold ec_hb; unfold ec_ing at hu; omega) (ih (u - 8) hv (by omega))
          rw [show ec_nb (u - 8) 2 = u - 8 + 8 from rfl, show u - 8 + 8 = u by omega] at h1
          exact h1
        · have : u.toNat = 0 := by omega
          rw [this]
          exact h0
  exact up (z % 8 + z / 8).toNat z hz (by omega)
/-! arrays -/
def ed_Ar (h : ec_Hp) (q n : Nat) (c : Int → Int) : Prop := ∀ z : Int, 0 ≤ z ∧ z < n → h.2.1 q (ec_i z).toNatClampNeg = ec_i (c z)
theorem ed_Ar.fg {S : Nat → Nat → Prop} {h h' : ec_Hp} {q n : Nat} {c : Int → Int} (a : ec_fg S h h') (b : ed_Ar h q n c) (hS : ∀ j, ¬ S q j) : ed_Ar h' q n c := fun w hw => (a.2 q _ (hS _)).trans (b w hw)
