/-! The class's labels: taken in turn, 2304 takes make all of them right. -/
def ec_LI (P : Int → Int → Int) (lim : Int) (c0 D c : Nat → Int) (nw : Nat → Bool) : Prop :=
  (∀ k : Nat, k < 48 → (D k ≤ c k ∧ c k ≤ c0 k) ∧ c0 k ≤ 1000000) ∧ (∀ k : Nat, k < 48 → nw k = true → c k < 1000000) ∧
  (∀ z d : Int, 0 ≤ z ∧ z < 48 → 0 ≤ d ∧ d < 4 → nw z.toNat = false → ¬ P z d = 0 → c z.toNat + P z d ≤ lim → c (ec_nb z d).toNat ≤ c z.toNat + P z d)
theorem ec_uc_v {c : Nat → Int} {z k : Int} {j : Nat} (hz : 0 ≤ z ∧ z < 48) : ec_uc c z k j = if (j = z.toNat ∧ k < c j) then k else c j := by
  unfold ec_uc
  by_cases h : k < c z.toNat
  · rw [if_pos ⟨hz, h⟩]
    show (if j = z.toNat then k else c j) = _
    by_cases e : j = z.toNat
    · subst e; rw [if_pos rfl, if_pos ⟨rfl, h⟩]
    · rw [if_neg e, if_neg (fun q => e q.1)]
  · rw [if_neg (fun q => h q.2)]
    by_cases e : j = z.toNat
    · subst e; rw [if_neg (fun q => h q.2)]
    · rw [if_neg (fun q => e q.1)]
theorem ec_un_v {c : Nat → Int} {nw : Nat → Bool} {z k : Int} {j : Nat} (hz : 0 ≤ z ∧ z < 48) : ec_un c nw z k j = if (j = z.toNat ∧ k < c j) then true else nw j := by
  unfold ec_un
  by_cases h : k < c z.toNat
  · rw [if_pos ⟨hz, h⟩]
    show (if j = z.toNat then true else nw j) = _
    by_cases e : j = z.toNat
    · subst e; rw [if_pos rfl, if_pos ⟨rfl, h⟩]
    · rw [if_neg e, if_neg (fun q => e q.1)]
  · rw [if_neg (fun q => h q.2)]
    by_cases e : j = z.toNat
    · subst e; rw [if_neg (fun q => h q.2)]
    · rw [if_neg (fun q => e q.1)]
theorem ec_rx_s {P : Int → Int → Int} {lim z k : Int} (hz : 0 ≤ z ∧ z < 48) (hE : ec_ED P) : ∀ (n : Nat) (d : Int) (c : Nat → Int) (nw : Nat → Bool), 0 ≤ d → d + n = 4 →
    (∀ j : Nat, (ec_rx P z k lim n d c nw).1 j ≤ c j) ∧
    (∀ j : Nat, (ec_rx P z k lim n d c nw).1 j = c j ∧ (ec_rx P z k lim n d c nw).2 j = nw j ∨ (ec_rx P z k lim n d c nw).2 j = true ∧ (ec_rx P z k lim n d c nw).1 j < c j ∧ ∃ e : Int, (0 ≤ e ∧ e < 4) ∧ ¬ P z e = 0 ∧ k + P z e ≤ lim ∧ ec_nb z e = j ∧ (ec_rx P z k lim n d c nw).1 j = k + P z e) ∧
    (∀ e : Int, d ≤ e ∧ e < 4 → ¬ P z e = 0 → k + P z e ≤ lim → (ec_rx P z k lim n d c nw).1 (ec_nb z e).toNat ≤ k + P z e) := by
  intro n
  induction n with
  | zero =>
    intro d c nw h0 hd
    exact ⟨fun _ => Int.le_refl _, fun _ => Or.inl ⟨rfl, rfl⟩, fun e he => absurd he (by omega)⟩
  | succ n ih =>
    intro d c nw h0 hd
    have hx : ec_rx P z k lim (n + 1) d c nw = if ¬ P z d = 0 ∧ k + P z d ≤ lim then ec_rx P z k lim n (d + 1) (ec_uc c (ec_nb z d) (k + P z d)) (ec_un c nw (ec_nb z d) (k + P z d)) else ec_rx P z k lim n (d + 1) c nw := rfl
    rw [hx]
    by_cases hc : ¬ P z d = 0 ∧ k + P z d ≤ lim
    · rw [if_pos hc]
      have hn := hE z d hz ⟨h0, by omega⟩ hc.1
      obtain ⟨a1, a2, a3⟩ := ih (d + 1) (ec_uc c (ec_nb z d) (k + P z d)) (ec_un c nw (ec_nb z d) (k + P z d)) (by omega) (by omega)
      generalize ec_rx P z k lim n (d + 1) (ec_uc c (ec_nb z d) (k + P z d)) (ec_un c nw (ec_nb z d) (k + P z d)) = r at a1 a2 a3 ⊢
      have hu : ∀ j : Nat, ec_uc c (ec_nb z d) (k + P z d) j ≤ c j := by
        intro j
        rw [ec_uc_v hn]
        split <;> omega
      refine ⟨fun j => Int.le_trans (a1 j) (hu j), fun j => ?_, fun e he p0 hl => ?_⟩
      · rcases a2 j with ⟨b1, b2⟩ | ⟨b1, b2, b3⟩
        · rw [ec_uc_v hn] at b1
          rw [ec_un_v hn] at b2
          by_cases q : j = (ec_nb z d).toNat ∧ k + P z d < c j
          · rw [if_pos q] at b1 b2
            exact Or.inr ⟨b2, by omega, d, ⟨h0, by omega⟩, hc.1, hc.2, by omega, b1⟩
          · rw [if_neg q] at b1 b2
            exact Or.inl ⟨b1, b2⟩
        · have := hu j
          exact Or.inr ⟨b1, by omega, b3⟩
      · by_cases q : e = d
        · subst q
          have h1 := a1 (ec_nb z e).toNat
          rw [ec_uc_v hn] at h1
          split at h1
          · exact h1
          · rename_i q
            have : ¬ k + P z e < c (ec_nb z e).toNat := fun y => q ⟨rfl, y⟩
            omega
        · exact a3 e (by omega) p0 hl
    · rw [if_neg hc]
      obtain ⟨a1, a2, a3⟩ := ih (d + 1) c nw (by omega) (by omega)
      refine ⟨a1, a2, fun e he p0 hl => ?_⟩
      by_cases q : e = d
      · subst q; exact absurd ⟨p0, hl⟩ hc
      · exact a3 e (by omega) p0 hl
/-- a take keeps what holds of labels -/
theorem ec_LI.rx {P : Int → Int → Int} {lim : Int} {c0 D c : Nat → Int} {nw : Nat → Bool} (hE : ec_ED P) (hl : lim ≤ 1000000) (hP : ec_PP P) (b : ec_LD P lim c0 D) (a : ec_LI P lim c0 D c nw) {z : Int} (hz : 0 ≤ z ∧ z < 48) :
    ec_LI P lim c0 D (ec_rx P z (c z.toNat) lim 4 0 c (ec_ncl nw z)).1 (ec_rx P z (c z.toNat) lim 4 0 c (ec_ncl nw z)).2 := by
  obtain ⟨r1, r2, r3⟩ := ec_rx_s (k := c z.toNat) (lim := lim) hz hE 4 0 c (ec_ncl nw z) (by omega) (by omega)
  generalize ec_rx P z (c z.toNat) lim 4 0 c (ec_ncl nw z) = r at r1 r2 r3 ⊢
  obtain ⟨a1, a2, a3⟩ := a
  have az := a1 z.toNat (by omega)
  refine ⟨fun k hk => ⟨⟨?_, Int.le_trans (r1 k) (a1 k hk).1.2⟩, (a1 k hk).2⟩, fun k hk hn => ?_, fun u d hu hd hn p0 hL => ?_⟩
  · rcases r2 k with ⟨e1, -⟩ | ⟨-, -, e, he, p0, e1, e2, e3⟩
    · rw [e1]; exact (a1 k hk).1.1
    · have q := b.2.1 z e hz he p0 (by omega)
      rw [e2, show ((k : Int)).toNat = k by omega] at q
      omega
  · rcases r2 k with ⟨e1, e2⟩ | ⟨-, e2, -⟩
    · rw [e1]
      rw [hn] at e2
      refine a2 k hk ?_
      unfold ec_ncl at e2
      split at e2
      · cases e2
      · exact e2.symm
    · have := a1 k hk
      omega
  · rcases r2 u.toNat with ⟨e1, e2⟩ | ⟨e2, -⟩
    · rw [e1] at hL ⊢
      by_cases q : u = z
      · subst q
        exact r3 d hd p0 hL
      · have hnu : nw u.toNat = false := by
          rw [hn] at e2
          unfold ec_ncl at e2
          rw [if_neg (by omega)] at e2
          exact e2.symm
        exact Int.le_trans (r1 _) (a3 u d hu hd hnu p0 hL)
    · rw [hn] at e2; cases e2
/-- how far the sweep has come: p looks -/
def ec_PG (P : Int → Int → Int) (lim : Int) (c0 D : Nat → Int) (p : Nat) (c : Nat → Int) (nw : Nat → Bool) (t : Int) : Prop :=
  ec_LI P lim c0 D c nw ∧ (∀ k : Nat, k < 48 → ec_H P lim c0 D (p / 48) k → c k = D k) ∧
  ∃ t0 : Int, (0 ≤ t0 ∧ t0 < 48) ∧ t = (t0 + (p % 48 : Nat)) % 48 ∧ ∀ z : Int, 0 ≤ z ∧ z < 48 → (∃ i : Nat, 1 ≤ i ∧ i ≤ p % 48 ∧ z = (t0 + i) % 48) → ec_H P lim c0 D (p / 48) z.toNat → ∀ d : Int, 0 ≤ d ∧ d < 4 → ¬ P z d = 0 → D z.toNat + P z d ≤ lim → c (ec_nb z d).toNat ≤ D z.toNat + P z d
/-- a look, once its cell has told its neighbours -/
theorem ec_PG.look {P : Int → Int → Int} {lim : Int} {c0 D c c1 : Nat → Int} {nw nw1 : Nat → Bool} {t : Int} {p : Nat} (hE : ec_ED P) (b : ec_LD P lim c0 D) (a : ec_PG P lim c0 D p c nw t) (h1 : ec_LI P lim c0 D c1 nw1) (hle : ∀ k : Nat, k < 48 → c1 k ≤ c k)
    (hz : ∀ d : Int, 0 ≤ d ∧ d < 4 → ¬ P ((t + 1) % 48) d = 0 → c ((t + 1) % 48).toNat + P ((t + 1) % 48) d ≤ lim → c1 (ec_nb ((t + 1) % 48) d).toNat ≤ c ((t + 1) % 48).toNat + P ((t + 1) % 48) d) : ec_PG P lim c0 D (p + 1) c1 nw1 ((t + 1) % 48) := by
  obtain ⟨a1, a2, t0, ht0, ht, a3⟩ := a
  have hA : ∀ k : Nat, k < 48 → ec_H P lim c0 D (p / 48) k → c1 k = D k := by
    intro k hk hh
    have e1 := a2 k hk hh
    have e2 := hle k hk
    have e3 := (h1.1 k hk).1.1
    omega
  have hB : ∀ z : Int, 0 ≤ z ∧ z < 48 → (∃ i : Nat, 1 ≤ i ∧ i ≤ p % 48 + 1 ∧ z = (t0 + i) % 48) → ec_H P lim c0 D (p / 48) z.toNat → ∀ d : Int, 0 ≤ d ∧ d < 4 → ¬ P z d = 0 → D z.toNat + P z d ≤ lim → c1 (ec_nb z d).toNat ≤ D z.toNat + P z d := by
    rintro z hz2 ⟨i, i1, i2, i3⟩ hh d hd p0 hl
    by_cases q : i ≤ p % 48
    · have e1 := a3 z hz2 ⟨i, i1, q, i3⟩ hh d hd p0 hl
      have e2 := hE z d hz2 hd p0
      exact Int.le_trans (hle _ (by omega)) e1
    · have e1 : z = (t + 1) % 48 := by omega
      have e2 := a2 z.toNat (by omega) hh
      rw [← e1] at hz
      have e3 := hz d hd p0 (by omega)
      omega
  by_cases q : p % 48 = 47
  · have e1 : (p + 1) / 48 = p / 48 + 1 := by omega
    have e2 : (p + 1) % 48 = 0 := by omega
    refine ⟨h1, ?_, (t + 1) % 48, by omega, ?_, ?_⟩
    · rw [e1]
      intro k hk hh
      rcases hh with hh | ⟨z, d, hz2, hd, hh, p0, f1, f2, f3⟩
      · exact hA k hk hh
      · have f4 := hB z hz2 ⟨((z - t0 - 1) % 48).toNat + 1, by omega, by omega, by omega⟩ hh d hd p0 (by omega)
        rw [f1, show ((k : Int)).toNat = k by omega] at f4
        have f5 := (h1.1 k hk).1.1
        omega
    · rw [e2]; omega
    · rw [e2]
      rintro z _ ⟨i, i1, i2, _⟩
      omega
  · have e1 : (p + 1) / 48 = p / 48 := by omega
    have e2 : (p + 1) % 48 = p % 48 + 1 := by omega
    refine ⟨h1, ?_, t0, ht0, ?_, ?_⟩
    · rw [e1]; exact hA
    · rw [e2]; omega
    · rw [e1, e2]; exact hB
/-- the fruitless looks of a take, and its place -/
theorem ec_PG.tk {P : Int → Int → Int} {lim : Int} {c0 D c : Nat → Int} {nw : Nat → Bool} (hE : ec_ED P) (b : ec_LD P lim c0 D) : ∀ (n : Nat) (p : Nat) (t : Int), 0 ≤ t ∧ t < 48 → ec_PG P lim c0 D p c nw t →
    ((ec_tk nw n t).1 = -1 ∧ ∀ i : Nat, 1 ≤ i → i ≤ n → nw ((t + i) % 48).toNat = false) ∨ ∃ (p' : Nat) (u : Int), p ≤ p' ∧ (0 ≤ u ∧ u < 48) ∧ ec_PG P lim c0 D p' c nw u ∧ (ec_tk nw n t).1 = (u + 1) % 48 ∧ (ec_tk nw n t).2 = (u + 1) % 48 ∧ nw ((u + 1) % 48).toNat = true := by
  intro n
  induction n with
  | zero =>
    intro p t ht a
    exact Or.inl ⟨rfl, fun i h1 h2 => absurd h1 (by omega)⟩
  | succ n ih =>
    intro p t ht a
    rw [show ec_tk nw (n + 1) t = if nw ((t + 1) % 48).toNat then ((t + 1) % 48, (t + 1) % 48) else ec_tk nw n ((t + 1) % 48) from rfl]
    cases hn : nw ((t + 1) % 48).toNat with
    | true =>
      rw [if_pos rfl]
      exact Or.inr ⟨p, t, Nat.le_refl _, ht, a, rfl, rfl, hn⟩
    | false =>
      rw [if_neg (by decide)]
      have a' := a.look hE b a.1 (fun _ _ => Int.le_refl _) (fun d hd p0 hl => a.1.2.2 ((t + 1) % 48) d (by omega) hd hn p0 hl)
      rcases ih (p + 1) ((t + 1) % 48) (by omega) a' with ⟨q1, q2⟩ | ⟨p', u, q1, q2⟩
      · refine Or.inl ⟨q1, fun i h1 h2 => ?_⟩
        by_cases e : i = 1
        · subst e; exact hn
        · have := q2 (i - 1) (by omega) (by omega)
          rw [show ((t + 1) % 48 + ((i - 1 : Nat) : Int)) % 48 = (t + (i : Int)) % 48 by omega] at this
          exact this
      · exact Or.inr ⟨p', u, by omega, q2⟩
theorem ec_PG.sp {P : Int → Int → Int} {lim : Int} {c0 D : Nat → Int} (hE : ec_ED P) (hP : ec_PP P) (hl : lim ≤ 1000000) (b : ec_LD P lim c0 D) : ∀ (n : Nat) (p : Nat) (c : Nat → Int) (nw : Nat → Bool) (t : Int), 0 ≤ t ∧ t < 48 → ec_PG P lim c0 D p c nw t →
    (∃ (p' : Nat) (t' : Int), p + n ≤ p' ∧ ec_PG P lim c0 D p' (ec_sp P lim n c nw t).1 (ec_sp P lim n c nw t).2.1 t') ∨ (ec_LI P lim c0 D (ec_sp P lim n c nw t).1 (ec_sp P lim n c nw t).2.1 ∧ ∀ k : Nat, k < 48 → (ec_sp P lim n c nw t).2.1 k = false) := by
  intro n
  induction n with
  | zero =>
    intro p c nw t ht a
    exact Or.inl ⟨p, t, Nat.le_refl _, a⟩
  | succ n ih =>
    intro p c nw t ht a
    rw [show ec_sp P lim (n + 1) c nw t = if (ec_tk nw 48 t).1 = -1 then (c, nw, (ec_tk nw 48 t).2) else ec_sp P lim n (ec_rx P (ec_tk nw 48 t).1 (ec_ct c (ec_tk nw 48 t).1) lim 4 0 c (ec_ncl nw (ec_tk nw 48 t).1)).1 (ec_rx P (ec_tk nw 48 t).1 (ec_ct c (ec_tk nw 48 t).1) lim 4 0 c (ec_ncl nw (ec_tk nw 48 t).1)).2 (ec_tk nw 48 t).2 from rfl]
    rcases a.tk hE b 48 p t ht with ⟨q1, q2⟩ | ⟨p', u, q1, q2, q3, q4, q5, q6⟩
    · rw [if_pos q1]
      refine Or.inr ⟨a.1, fun k hk => ?_⟩
      have := q2 (((k : Int) - t - 1) % 48 + 1).toNat (by omega) (by omega)
      rw [show ((t + (((((k : Int) - t - 1) % 48 + 1).toNat : Nat) : Int)) % 48).toNat = k by omega] at this
      exact this
    · rw [q4, q5, if_neg (by omega)]
      have hz : 0 ≤ (u + 1) % 48 ∧ (u + 1) % 48 < 48 := by omega
      have hlt := q3.1.2.1 ((u + 1) % 48).toNat (by omega) q6
      have hct : ec_ct c ((u + 1) % 48) = c ((u + 1) % 48).toNat := by
        unfold ec_ct
        rw [if_pos ⟨hz, hlt⟩]
      rw [hct]
      have hLI := q3.1.rx hE hl hP b hz
      obtain ⟨r1, r2, r3⟩ := ec_rx_s (k := c ((u + 1) % 48).toNat) (lim := lim) hz hE 4 0 c (ec_ncl nw ((u + 1) % 48)) (by omega) (by omega)
      have a' := q3.look hE b hLI (fun k _ => r1 k) (fun d hd p0 hL => r3 d hd p0 hL)
      rcases ih (p' + 1) _ _ ((u + 1) % 48) hz a' with ⟨p2, t2, s1, s2⟩ | s
      · exact Or.inl ⟨p2, t2, by omega, s2⟩
      · exact Or.inr s
/-- after 2304 takes the labels are the costs of cheapest ways -/
theorem ec_sp_all {P : Int → Int → Int} {lim : Int} {c0 D : Nat → Int} {nw : Nat → Bool} {t : Int} (hE : ec_ED P) (hP : ec_PP P) (hl : lim ≤ 1000000) (b : ec_LD P lim c0 D) (ht : 0 ≤ t ∧ t < 48) (h0 : ∀ k : Nat, k < 48 → c0 k ≤ 1000000) (h1 : ∀ k : Nat, k < 48 → (nw k = true ↔ c0 k < 1000000)) :
    ∀ k : Nat, k < 48 → (ec_sp P lim 2304 c0 nw t).1 k = D k := by
  have a0 : ec_LI P lim c0 D c0 nw := by
    refine ⟨fun k hk => ⟨⟨(b.1 k hk).2, Int.le_refl _⟩, h0 k hk⟩, fun k hk hn => (h1 k hk).mp hn, fun z d hz hd hn p0 hL => ?_⟩
    have hp := hP z d hz hd
    have : ¬ c0 z.toNat < 1000000 := fun q => by rw [(h1 z.toNat (by omega)).mpr q] at hn; cases hn
    omega
  have a : ec_PG P lim c0 D 0 c0 nw t := by
    refine ⟨a0, fun k hk hh => ?_, t, ht, by omega, ?_⟩
    · have e : D k = c0 k := hh
      exact e.symm
    · rintro z _ ⟨i, i1, i2, _⟩
      omega
  rcases ec_PG.sp hE hP hl b 2304 0 c0 nw t ht a with ⟨p', t', q1, q2⟩ | ⟨q1, q2⟩
  · intro k hk
    have e := ec_H_mono (ec_H_48 hP b k hk) (p' / 48 - 48)
    rw [show 48 + (p' / 48 - 48) = p' / 48 by omega] at e
    exact q2.2.1 k hk e
  · intro k hk
    have e1 := (q1.1 k hk).1.1
    have e2 := b.le hP (fun k hk => (q1.1 k hk).1.2) (fun z d hz hd p0 hL => q1.2.2 z d hz hd (q2 z.toNat (by omega)) p0 hL) (D k).toNat k hk (by have := (b.1 k hk).1; omega)
    omega
