/-! Labels: what cheapest ways are, and that there is one such labelling. -/
def ec_PP (P : Int → Int → Int) : Prop := ∀ z d : Int, 0 ≤ z ∧ z < 48 → 0 ≤ d ∧ d < 4 → 0 ≤ P z d ∧ P z d ≤ 7
def ec_LD (P : Int → Int → Int) (lim : Int) (c0 D : Nat → Int) : Prop :=
  (∀ k : Nat, k < 48 → 0 ≤ D k ∧ D k ≤ c0 k) ∧
  (∀ z d : Int, 0 ≤ z ∧ z < 48 → 0 ≤ d ∧ d < 4 → ¬ P z d = 0 → D z.toNat + P z d ≤ lim → D (ec_nb z d).toNat ≤ D z.toNat + P z d) ∧
  (∀ k : Nat, k < 48 → D k = c0 k ∨ ∃ z d : Int, (0 ≤ z ∧ z < 48) ∧ (0 ≤ d ∧ d < 4) ∧ ¬ P z d = 0 ∧ ec_nb z d = k ∧ D k = D z.toNat + P z d ∧ D k ≤ lim)
theorem ec_nb_ne {z d : Int} : ec_nb z d ≠ z := by
  unfold ec_nb
  split
  · omega
  · split
    · omega
    · split <;> omega
/-- whoever is relaxed and lies not above the start lies not above the cheapest -/
theorem ec_LD.le {P : Int → Int → Int} {lim : Int} {c0 c D : Nat → Int} (hP : ec_PP P) (b : ec_LD P lim c0 D) (h0 : ∀ k : Nat, k < 48 → c k ≤ c0 k) (h1 : ∀ z d : Int, 0 ≤ z ∧ z < 48 → 0 ≤ d ∧ d < 4 → ¬ P z d = 0 → c z.toNat + P z d ≤ lim → c (ec_nb z d).toNat ≤ c z.toNat + P z d) : ∀ (n : Nat) (k : Nat), k < 48 → D k ≤ n → c k ≤ D k := by
  intro n
  induction n with
  | zero =>
    intro k hk hn
    rcases b.2.2 k hk with e | ⟨z, d, hz, hd, p0, e1, e2, e3⟩
    · rw [e]; exact h0 k hk
    · have := hP z d hz hd
      have := (b.1 z.toNat (by omega)).1
      omega
  | succ n ih =>
    intro k hk hn
    rcases b.2.2 k hk with e | ⟨z, d, hz, hd, p0, e1, e2, e3⟩
    · rw [e]; exact h0 k hk
    · have hp := hP z d hz hd
      have q := ih z.toNat (by omega) (by omega)
      have r := h1 z d hz hd p0 (by omega)
      rw [e1] at r
      have e4 : ((k : Int)).toNat = k := by omega
      rw [e4] at r
      omega
/-! sums, counts -/
def ec_sm (c : Nat → Int) : Nat → Int
  | 0 => 0
  | n + 1 => ec_sm c n + c n
theorem ec_sm_le {c c' : Nat → Int} : ∀ n : Nat, (∀ k, k < n → c' k ≤ c k) → ec_sm c' n ≤ ec_sm c n
  | 0, _ => Int.le_refl _
  | n + 1, h => by
    have h1 := ec_sm_le n (fun k hk => h k (by omega))
    have h2 := h n (by omega)
    show ec_sm c' n + c' n ≤ ec_sm c n + c n
    omega
theorem ec_sm_lt {c c' : Nat → Int} : ∀ n : Nat, (∀ k, k < n → c' k ≤ c k) → (∃ k, k < n ∧ c' k < c k) → ec_sm c' n < ec_sm c n
  | 0, _, ⟨k, hk, _⟩ => absurd hk (by omega)
  | n + 1, h, ⟨k, hk, hl⟩ => by
    show ec_sm c' n + c' n < ec_sm c n + c n
    have h2 := h n (by omega)
    by_cases e : k = n
    · subst e
      have h1 := ec_sm_le k (fun j hj => h j (by omega))
      omega
    · have h1 := ec_sm_lt n (fun j hj => h j (by omega)) ⟨k, by omega, hl⟩
      omega
theorem ec_sm_nn {c : Nat → Int} : ∀ n : Nat, (∀ k, k < n → 0 ≤ c k) → 0 ≤ ec_sm c n
  | 0, _ => Int.le_refl _
  | n + 1, h => by
    have h1 := ec_sm_nn n (fun k hk => h k (by omega))
    have h2 := h n (by omega)
    show 0 ≤ ec_sm c n + c n
    omega
noncomputable def ec_cou (p : Nat → Prop) : Nat → Nat
  | 0 => 0
  | n + 1 => ec_cou p n + @ite Nat (p n) (Classical.propDecidable _) 1 0
theorem ec_cou_le {p : Nat → Prop} : ∀ n : Nat, ec_cou p n ≤ n
  | 0 => Nat.le_refl _
  | n + 1 => by
    have h := ec_cou_le (p := p) n
    show ec_cou p n + @ite Nat (p n) (Classical.propDecidable _) 1 0 ≤ n + 1
    split <;> omega
theorem ec_cou_mono {p r : Nat → Prop} : ∀ n : Nat, (∀ k, k < n → p k → r k) → ec_cou p n ≤ ec_cou r n
  | 0, _ => Nat.le_refl _
  | n + 1, h => by
    have h1 := ec_cou_mono n (fun k hk => h k (by omega))
    show ec_cou p n + @ite Nat (p n) (Classical.propDecidable _) 1 0 ≤ ec_cou r n + @ite Nat (r n) (Classical.propDecidable _) 1 0
    by_cases hp : p n
    · rw [if_pos hp, if_pos (h n (by omega) hp)]; omega
    · rw [if_neg hp]; omega
theorem ec_cou_lt {p r : Nat → Prop} : ∀ n : Nat, (∀ k, k < n → p k → r k) → (∃ k, k < n ∧ r k ∧ ¬ p k) → ec_cou p n < ec_cou r n
  | 0, _, ⟨k, hk, _⟩ => absurd hk (by omega)
  | n + 1, h, ⟨k, hk, hr, hp⟩ => by
    show ec_cou p n + @ite Nat (p n) (Classical.propDecidable _) 1 0 < ec_cou r n + @ite Nat (r n) (Classical.propDecidable _) 1 0
    by_cases e : k = n
    · subst e
      have h1 := ec_cou_mono k (fun j hj => h j (by omega))
      rw [if_neg hp, if_pos hr]; omega
    · have h1 := ec_cou_lt n (fun j hj => h j (by omega)) ⟨k, by omega, hr, hp⟩
      by_cases hp : p n
      · rw [if_pos hp, if_pos (h n (by omega) hp)]; omega
      · rw [if_neg hp]; omega
theorem ec_cou_all {p : Nat → Prop} : ∀ n : Nat, n ≤ ec_cou p n → ∀ k, k < n → p k
  | 0, _, k, hk => absurd hk (by omega)
  | n + 1, h, k, hk => by
    replace h : n + 1 ≤ ec_cou p n + @ite Nat (p n) (Classical.propDecidable _) 1 0 := h
    have h1 := ec_cou_le (p := p) n
    by_cases hp : p n
    · by_cases e : k = n
      · rw [e]; exact hp
      · exact ec_cou_all n (by rw [if_pos hp] at h; omega) k (by omega)
    · rw [if_neg hp] at h; omega
/-! there is one -/
theorem ec_LD_ex {P : Int → Int → Int} {lim : Int} {c0 : Nat → Int} (hP : ec_PP P) : ∀ (N : Nat) (c : Nat → Int), ec_sm c 48 ≤ N → (∀ k : Nat, k < 48 → 0 ≤ c k ∧ c k ≤ c0 k) →
    (∀ k : Nat, k < 48 → c k = c0 k ∨ ∃ z d : Int, (0 ≤ z ∧ z < 48) ∧ (0 ≤ d ∧ d < 4) ∧ ¬ P z d = 0 ∧ ec_nb z d = k ∧ c z.toNat + P z d ≤ c k ∧ c k ≤ lim) → ec_ED P → ∃ D, ec_LD P lim c0 D := by
  intro N
  induction N with
  | zero =>
    intro c hs h0 h1 hE
    by_cases hr : ∀ z d : Int, 0 ≤ z ∧ z < 48 → 0 ≤ d ∧ d < 4 → ¬ P z d = 0 → c z.toNat + P z d ≤ lim → c (ec_nb z d).toNat ≤ c z.toNat + P z d
    · refine ⟨c, h0, hr, fun k hk => ?_⟩
      rcases h1 k hk with e | ⟨z, d, hz, hd, p0, e1, e2, e3⟩
      · exact Or.inl e
      · have r := hr z d hz hd p0 (by omega)
        rw [e1, show ((k : Int)).toNat = k by omega] at r
        exact Or.inr ⟨z, d, hz, hd, p0, e1, by omega, e3⟩
    · exfalso
      apply hr
      intro z d hz hd p0 hl
      have hp := hP z d hz hd
      have hn := hE z d hz hd p0
      have a1 := (h0 z.toNat (by omega)).1
      have hz0 : c (ec_nb z d).toNat ≤ 0 := by
        have := ec_sm_lt (c := c) (c' := fun _ => 0) 48 (fun k hk => (h0 k hk).1)
        have e0 : ec_sm (fun _ => 0) 48 = 0 := by decide
        rw [e0] at this
        by_cases q : c (ec_nb z d).toNat ≤ 0
        · exact q
        · have := this ⟨(ec_nb z d).toNat, by omega, by show (0 : Int) < c (ec_nb z d).toNat; omega⟩
          omega
      omega
  | succ N ih =>
    intro c hs h0 h1 hE
    by_cases hr : ∀ z d : Int, 0 ≤ z ∧ z < 48 → 0 ≤ d ∧ d < 4 → ¬ P z d = 0 → c z.toNat + P z d ≤ lim → c (ec_nb z d).toNat ≤ c z.toNat + P z d
    · refine ⟨c, h0, hr, fun k hk => ?_⟩
      rcases h1 k hk with e | ⟨z, d, hz, hd, p0, e1, e2, e3⟩
      · exact Or.inl e
      · have r := hr z d hz hd p0 (by omega)
        rw [e1, show ((k : Int)).toNat = k by omega] at r
        exact Or.inr ⟨z, d, hz, hd, p0, e1, by omega, e3⟩
    · apply Classical.byContradiction
      intro hno
      apply hr
      intro z d hz hd p0 hl
      apply Classical.byContradiction
      intro hgt
      have hp := hP z d hz hd
      have hn := hE z d hz hd p0
      have a1 := (h0 z.toNat (by omega)).1
      have hne : (ec_nb z d).toNat ≠ z.toNat := by
        have := ec_nb_ne (z := z) (d := d)
        omega
      apply hno
      refine ih (fun j => if j = (ec_nb z d).toNat then c z.toNat + P z d else c j) ?_ ?_ ?_ hE
      · have := ec_sm_lt (c := c) (c' := fun j => if j = (ec_nb z d).toNat then c z.toNat + P z d else c j) 48 (fun k hk => by
          show (if k = (ec_nb z d).toNat then c z.toNat + P z d else c k) ≤ c k
          split
          · rename_i e; rw [e]; omega
          · exact Int.le_refl _) ⟨(ec_nb z d).toNat, by omega, by
          show (if (ec_nb z d).toNat = (ec_nb z d).toNat then c z.toNat + P z d else c (ec_nb z d).toNat) < c (ec_nb z d).toNat
          rw [if_pos rfl]; omega⟩
        omega
      · intro k hk
        show 0 ≤ (if k = (ec_nb z d).toNat then c z.toNat + P z d else c k) ∧ (if k = (ec_nb z d).toNat then c z.toNat + P z d else c k) ≤ c0 k
        have := h0 k hk
        split
        · rename_i e; rw [e] at this ⊢; omega
        · exact this
      · have hle : ∀ j, (if j = (ec_nb z d).toNat then c z.toNat + P z d else c j) ≤ c j := by
          intro j
          split
          · rename_i e; rw [e]; omega
          · exact Int.le_refl _
        intro k hk
        show (if k = (ec_nb z d).toNat then c z.toNat + P z d else c k) = c0 k ∨ ∃ z' d' : Int, (0 ≤ z' ∧ z' < 48) ∧ (0 ≤ d' ∧ d' < 4) ∧ ¬ P z' d' = 0 ∧ ec_nb z' d' = k ∧ (if z'.toNat = (ec_nb z d).toNat then c z.toNat + P z d else c z'.toNat) + P z' d' ≤ (if k = (ec_nb z d).toNat then c z.toNat + P z d else c k) ∧ (if k = (ec_nb z d).toNat then c z.toNat + P z d else c k) ≤ lim
        by_cases e : k = (ec_nb z d).toNat
        · rw [if_pos e]
          refine Or.inr ⟨z, d, hz, hd, p0, by omega, ?_, hl⟩
          have := hle z.toNat
          omega
        · rw [if_neg e]
          rcases h1 k hk with e' | ⟨z', d', hz', hd', p0', e1, e2, e3⟩
          · exact Or.inl e'
          · refine Or.inr ⟨z', d', hz', hd', p0', e1, ?_, e3⟩
            have := hle z'.toNat
            omega
/-- the costs of cheapest ways -/
noncomputable def ec_dsc (P : Int → Int → Int) (lim : Int) (c0 : Nat → Int) : Nat → Int := Classical.epsilon (ec_LD P lim c0)
theorem ec_dsc_spec {P : Int → Int → Int} {lim : Int} {c0 : Nat → Int} (hP : ec_PP P) (hE : ec_ED P) (h0 : ∀ k : Nat, k < 48 → 0 ≤ c0 k) : ec_LD P lim c0 (ec_dsc P lim c0) :=
  Classical.epsilon_spec (ec_LD_ex hP (ec_sm c0 48).toNat c0 (by have := ec_sm_nn (c := c0) 48 h0; omega) (fun k hk => ⟨h0 k hk, Int.le_refl _⟩) (fun k hk => Or.inl rfl) hE)
/-! how many borders a cheapest way has -/
def ec_H (P : Int → Int → Int) (lim : Int) (c0 D : Nat → Int) : Nat → Nat → Prop
  | 0, k => D k = c0 k
  | r + 1, k => ec_H P lim c0 D r k ∨ ∃ z d : Int, (0 ≤ z ∧ z < 48) ∧ (0 ≤ d ∧ d < 4) ∧ ec_H P lim c0 D r z.toNat ∧ ¬ P z d = 0 ∧ ec_nb z d = k ∧ D k = D z.toNat + P z d ∧ D k ≤ lim
theorem ec_H_0 {P : Int → Int → Int} {lim : Int} {c0 D : Nat → Int} {k : Nat} (e : D k = c0 k) : ∀ r, ec_H P lim c0 D r k
  | 0 => e
  | r + 1 => Or.inl (ec_H_0 e r)
theorem ec_H_min {P : Int → Int → Int} {lim : Int} {c0 D : Nat → Int} {r : Nat} : ∀ (n : Nat) (k : Nat), k < 48 → D k ≤ n → (∀ j : Nat, j < 48 → 0 ≤ D j) → ¬ ec_H P lim c0 D r k → ∃ k : Nat, k < 48 ∧ ¬ ec_H P lim c0 D r k ∧ ∀ j : Nat, j < 48 → D j < D k → ec_H P lim c0 D r j := by
  intro n
  induction n with
  | zero =>
    intro k hk hn h0 hh
    exact ⟨k, hk, hh, fun j hj hl => absurd (h0 j hj) (by omega)⟩
  | succ n ih =>
    intro k hk hn h0 hh
    by_cases q : ∀ j : Nat, j < 48 → D j < D k → ec_H P lim c0 D r j
    · exact ⟨k, hk, hh, q⟩
    · apply Classical.byContradiction
      intro hno
      apply q
      intro j hj hl
      apply Classical.byContradiction
      intro hj2
      exact hno (ih j hj (by omega) h0 hj2)
theorem ec_H_all {P : Int → Int → Int} {lim : Int} {c0 D : Nat → Int} (hP : ec_PP P) (b : ec_LD P lim c0 D) : ∀ r : Nat, (∀ k : Nat, k < 48 → ec_H P lim c0 D r k) ∨ r ≤ ec_cou (ec_H P lim c0 D r) 48 := by
  intro r
  induction r with
  | zero => exact Or.inr (Nat.zero_le _)
  | succ r ih =>
    rcases ih with ih | ih
    · exact Or.inl (fun k hk => Or.inl (ih k hk))
    · by_cases q : ∀ k : Nat, k < 48 → ec_H P lim c0 D r k
      · exact Or.inl (fun k hk => Or.inl (q k hk))
      · refine Or.inr ?_
        have h0 : ∀ j : Nat, j < 48 → 0 ≤ D j := fun j hj => (b.1 j hj).1
        have q2 : ∃ k : Nat, k < 48 ∧ ¬ ec_H P lim c0 D r k := by
          apply Classical.byContradiction
          intro hno
          exact q (fun k hk => Classical.byContradiction (fun hh => hno ⟨k, hk, hh⟩))
        obtain ⟨k1, hk1, hh1⟩ := q2
        obtain ⟨k, hk, hh, hm⟩ := ec_H_min (D k1).toNat k1 hk1 (by have := h0 k1 hk1; omega) h0 hh1
        have := ec_cou_lt (p := ec_H P lim c0 D r) (r := ec_H P lim c0 D (r + 1)) 48 (fun j _ hj => Or.inl hj) ⟨k, hk, ?_, hh⟩
        · omega
        · rcases b.2.2 k hk with e | ⟨z, d, hz, hd, p0, e1, e2, e3⟩
          · exact absurd (ec_H_0 e r) hh
          · have hp := hP z d hz hd
            exact Or.inr ⟨z, d, hz, hd, hm z.toNat (by omega) (by omega), p0, e1, e2, e3⟩
theorem ec_H_48 {P : Int → Int → Int} {lim : Int} {c0 D : Nat → Int} (hP : ec_PP P) (b : ec_LD P lim c0 D) : ∀ k : Nat, k < 48 → ec_H P lim c0 D 48 k := by
  rcases ec_H_all hP b 48 with q | q
  · exact q
  · exact ec_cou_all 48 q
theorem ec_H_mono {P : Int → Int → Int} {lim : Int} {c0 D : Nat → Int} {k r : Nat} (h : ec_H P lim c0 D r k) : ∀ n, ec_H P lim c0 D (r + n) k
  | 0 => h
  | n + 1 => Or.inl (ec_H_mono h n)
/-- no cheapest way is dear -/
theorem ec_H_bd {P : Int → Int → Int} {lim : Int} {c0 D : Nat → Int} (hP : ec_PP P) (hl : lim ≤ 1000000) (hc : ∀ k : Nat, k < 48 → c0 k = 1000000 ∨ c0 k ≤ 1) : ∀ (r k : Nat), k < 48 → ec_H P lim c0 D r k → D k = 1000000 ∨ D k ≤ 1 + 7 * r := by
  intro r
  induction r with
  | zero =>
    intro k hk h
    have e : D k = c0 k := h
    have := hc k hk
    omega
  | succ r ih =>
    intro k hk h
    rcases h with h | ⟨z, d, hz, hd, hh, p0, e1, e2, e3⟩
    · have := ih k hk h
      omega
    · have hp := hP z d hz hd
      have := ih z.toNat (by omega) hh
      omega
theorem ec_LD.bd {P : Int → Int → Int} {lim : Int} {c0 D : Nat → Int} (hP : ec_PP P) (b : ec_LD P lim c0 D) (hl : lim ≤ 1000000) (hc : ∀ k : Nat, k < 48 → c0 k = 1000000 ∨ c0 k ≤ 1) : ∀ k : Nat, k < 48 → D k = 1000000 ∨ D k ≤ 337 := by
  intro k hk
  have := ec_H_bd hP hl hc 48 k hk (ec_H_48 hP b k hk)
  omega
