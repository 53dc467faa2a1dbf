/-! The class's light is the row's light. -/
theorem ed_shl_s {f : Int → Bool} {g : Int → Int} : ∀ (n : Nat) (a : Int) (c : Nat → Int) (nw : Nat → Bool), (∀ j : Int, a ≤ j ∧ j < a + n → 0 ≤ g j ∧ g j < 48) → (∀ k : Nat, k < 48 → 0 ≤ c k ∧ c k ≤ 1000000) → (∀ k : Nat, k < 48 → (nw k = true ↔ c k < 1000000)) →
    (∀ k : Nat, k < 48 → 0 ≤ (ec_shl f g n a c nw).1 k ∧ (ec_shl f g n a c nw).1 k ≤ 1000000) ∧ (∀ k : Nat, k < 48 → ((ec_shl f g n a c nw).2 k = true ↔ (ec_shl f g n a c nw).1 k < 1000000)) ∧
    (∀ k : Nat, k < 48 → (ec_shl f g n a c nw).1 k = c k ∨ (ec_shl f g n a c nw).1 k = 0 ∧ ∃ j : Int, (a ≤ j ∧ j < a + n) ∧ f j = true ∧ (g j).toNat = k) ∧
    (∀ j : Int, a ≤ j ∧ j < a + n → f j = true → (ec_shl f g n a c nw).1 (g j).toNat ≤ 0) ∧ ∀ k : Nat, (ec_shl f g n a c nw).1 k ≤ c k
  | 0, a, c, nw, _, hc, hn => ⟨hc, hn, fun k _ => Or.inl rfl, fun j hj => absurd hj (by omega), fun _ => Int.le_refl _⟩
  | n + 1, a, c, nw, hg, hc, hn => by
    rw [show ec_shl f g (n + 1) a c nw = if f a = true then ec_shl f g n (a + 1) (ec_uc c (g a) 0) (ec_un c nw (g a) 0) else ec_shl f g n (a + 1) c nw from rfl]
    have ga := hg a (by omega)
    by_cases hf : f a = true
    · rw [if_pos hf]
      have hc1 : ∀ k : Nat, k < 48 → 0 ≤ ec_uc c (g a) 0 k ∧ ec_uc c (g a) 0 k ≤ 1000000 := fun k hk => by
        have := hc k hk
        rw [ec_uc_v ga]
        split <;> omega
      have hn1 : ∀ k : Nat, k < 48 → (ec_un c nw (g a) 0 k = true ↔ ec_uc c (g a) 0 k < 1000000) := fun k hk => by
        rw [ec_uc_v ga, ec_un_v ga]
        by_cases q : k = (g a).toNat ∧ 0 < c k
        · rw [if_pos q, if_pos q]
          exact ⟨fun _ => by decide, fun _ => rfl⟩
        · rw [if_neg q, if_neg q]
          exact hn k hk
      obtain ⟨a1, a2, a3, a4, a5⟩ := ed_shl_s n (a + 1) (ec_uc c (g a) 0) (ec_un c nw (g a) 0) (fun j hj => hg j (by omega)) hc1 hn1
      generalize ec_shl f g n (a + 1) (ec_uc c (g a) 0) (ec_un c nw (g a) 0) = r at a1 a2 a3 a4 a5 ⊢
      refine ⟨a1, a2, fun k hk => ?_, fun j hj hfj => ?_, fun k => ?_⟩
      · rcases a3 k hk with e | ⟨e, j, hj, hfj, hgj⟩
        · rw [ec_uc_v ga] at e
          by_cases q : k = (g a).toNat ∧ 0 < c k
          · rw [if_pos q] at e
            exact Or.inr ⟨e, a, by omega, hf, q.1.symm⟩
          · rw [if_neg q] at e
            exact Or.inl e
        · exact Or.inr ⟨e, j, by omega, hfj, hgj⟩
      · by_cases e : j = a
        · rw [e]
          have := a5 (g a).toNat
          rw [ec_uc_v ga] at this
          split at this <;> omega
        · exact a4 j (by omega) hfj
      · have := a5 k
        rw [ec_uc_v ga] at this
        split at this <;> omega
    · rw [if_neg hf]
      obtain ⟨a1, a2, a3, a4, a5⟩ := ed_shl_s n (a + 1) c nw (fun j hj => hg j (by omega)) hc hn
      refine ⟨a1, a2, fun k hk => ?_, fun j hj hfj => ?_, a5⟩
      · rcases a3 k hk with e | ⟨e, j, hj, hfj, hgj⟩
        · exact Or.inl e
        · exact Or.inr ⟨e, j, by omega, hfj, hgj⟩
      · by_cases e : j = a
        · rw [e] at hfj; exact absurd hfj hf
        · exact a4 j (by omega) hfj
/-- the labels that the light begins with -/
theorem ed_L0_s {N : Int} {f : Int → Bool} {g : Int → Int} {lit : Bool} {z : Int} (hz : 0 ≤ z ∧ z < 48) (hN : 0 ≤ N) (hg : ∀ j : Int, 0 ≤ j ∧ j < N → 0 ≤ g j ∧ g j < 48) :
    (∀ k : Nat, k < 48 → 0 ≤ (ec_L0 N f g lit z).1 k ∧ (ec_L0 N f g lit z).1 k ≤ 1000000) ∧ (∀ k : Nat, k < 48 → ((ec_L0 N f g lit z).2 k = true ↔ (ec_L0 N f g lit z).1 k < 1000000)) ∧
    (∀ k : Nat, k < 48 → (ec_L0 N f g lit z).1 k = 1000000 ∨ ((ec_L0 N f g lit z).1 k = 0 ∧ ∃ j : Int, (0 ≤ j ∧ j < N) ∧ f j = true ∧ (g j).toNat = k) ∨ ((ec_L0 N f g lit z).1 k = 1 ∧ lit = true ∧ k = z.toNat)) ∧
    (∀ j : Int, 0 ≤ j ∧ j < N → f j = true → (ec_L0 N f g lit z).1 (g j).toNat ≤ 0) ∧ (lit = true → (ec_L0 N f g lit z).1 z.toNat ≤ 1) := by
  obtain ⟨a1, a2, a3, a4, a5⟩ := ed_shl_s (f := f) (g := g) N.toNat 0 (fun _ => 1000000) (fun _ => false) (fun j hj => hg j (by omega)) (fun k _ => by show (0 : Int) ≤ 1000000 ∧ (1000000 : Int) ≤ 1000000; omega) (fun k _ => ⟨fun q => absurd q (by decide), fun q => absurd q (by show ¬ (1000000 : Int) < 1000000; omega)⟩)
  unfold ec_L0
  generalize ec_shl f g N.toNat 0 (fun _ => 1000000) (fun _ => false) = r at a1 a2 a3 a4 a5 ⊢
  cases lit with
  | false =>
    rw [if_neg (by decide)]
    refine ⟨a1, a2, fun k hk => ?_, fun j hj => a4 j (by omega), fun q => absurd q (by decide)⟩
    rcases a3 k hk with e | ⟨e, j, hj, q⟩
    · exact Or.inl e
    · exact Or.inr (Or.inl ⟨e, j, by omega, q⟩)
  | true =>
    rw [if_pos rfl]
    refine ⟨fun k hk => ?_, fun k hk => ?_, fun k hk => ?_, fun j hj hf => ?_, fun _ => ?_⟩
    · have := a1 k hk
      show 0 ≤ ec_uc r.1 z 1 k ∧ ec_uc r.1 z 1 k ≤ 1000000
      rw [ec_uc_v hz]
      split <;> omega
    · show ec_un r.1 r.2 z 1 k = true ↔ ec_uc r.1 z 1 k < 1000000
      rw [ec_uc_v hz, ec_un_v hz]
      by_cases q : k = z.toNat ∧ 1 < r.1 k
      · rw [if_pos q, if_pos q]
        exact ⟨fun _ => by decide, fun _ => rfl⟩
      · rw [if_neg q, if_neg q]
        exact a2 k hk
    · show ec_uc r.1 z 1 k = 1000000 ∨ (ec_uc r.1 z 1 k = 0 ∧ ∃ j : Int, (0 ≤ j ∧ j < N) ∧ f j = true ∧ (g j).toNat = k) ∨ (ec_uc r.1 z 1 k = 1 ∧ true = true ∧ k = z.toNat)
      rw [ec_uc_v hz]
      by_cases q : k = z.toNat ∧ 1 < r.1 k
      · rw [if_pos q]
        exact Or.inr (Or.inr ⟨rfl, rfl, q.1⟩)
      · rw [if_neg q]
        rcases a3 k hk with e | ⟨e, j, hj, q⟩
        · exact Or.inl e
        · exact Or.inr (Or.inl ⟨e, j, by omega, q⟩)
    · have := a4 j (by omega) hf
      show ec_uc r.1 z 1 (g j).toNat ≤ 0
      rw [ec_uc_v hz]
      split <;> omega
    · show ec_uc r.1 z 1 z.toNat ≤ 1
      rw [ec_uc_v hz]
      split <;> omega
theorem ed_P0_1 {σ : ec_Sg} {z d : Int} (h : ¬ ed_P σ 0 z d = 0) : ec_ing σ z ∧ ec_cq σ z d ∧ ed_P σ 0 z d = 1 := by
  have i := ed_P_in h
  rw [ed_P_wby (by omega) i.1] at h ⊢
  unfold ed_wby at h ⊢
  by_cases q : ec_cq σ z d
  · rw [if_pos q]
    exact ⟨i.1, q, rfl⟩
  · rw [if_neg q, if_neg (by omega)] at h
    exact absurd rfl h
theorem ed_P0_c {σ : ec_Sg} {z d : Int} (hz : ec_ing σ z) (q : ec_cq σ z d) : ed_P σ 0 z d = 1 := by
  rw [ed_P_wby (by omega) hz]
  unfold ed_wby
  rw [if_pos q]
/-- what is lit has a cost, and only that -/
theorem ed_lux {σ : ec_Sg} (w : ec_WF σ) {c0 D : Nat → Int} (b : ec_LD (ed_P σ 0) 3 c0 D)
    (h3 : ∀ k : Nat, k < 48 → c0 k = 1000000 ∨ (c0 k = 0 ∧ ∃ j : Int, (0 ≤ j ∧ j < σ 3) ∧ σ (167 + 3 * j + 2) = 1 ∧ (σ (167 + 3 * j)).toNat = k) ∨ (c0 k = 1 ∧ σ 9 = 1 ∧ k = (σ 6).toNat))
    (h4 : ∀ j : Int, 0 ≤ j ∧ j < σ 3 → σ (167 + 3 * j + 2) = 1 → c0 (σ (167 + 3 * j)).toNat ≤ 0) (h5 : σ 9 = 1 → c0 (σ 6).toNat ≤ 1) {z : Int} (hz : 0 ≤ z ∧ z < 48) : D z.toNat < 1000000 ↔ ed_lit σ z := by
  have H := w.2.1.1
  constructor
  · intro hD
    have key : ∀ (n : Nat) (u : Int), 0 ≤ u ∧ u < 48 → D u.toNat ≤ n → D u.toNat < 1000000 → D u.toNat ≤ 3 ∧ ((∃ t : Int, (0 ≤ t ∧ t < σ 3) ∧ σ (167 + 3 * t + 2) = 1 ∧ ed_rch σ (σ (167 + 3 * t)) (D u.toNat).toNat u) ∨ (σ 9 = 1 ∧ 1 ≤ D u.toNat ∧ ed_rch σ (σ 6) (D u.toNat - 1).toNat u)) := by
      intro n
      induction n with
      | zero =>
        intro u hu hn hl
        have nn := (b.1 u.toNat (by omega)).1
        have e0 : D u.toNat = 0 := by omega
        rcases b.2.2 u.toNat (by omega) with e | ⟨v, d, hv, hd, p0, -, e2, -⟩
        · rcases h3 u.toNat (by omega) with q | ⟨q, j, hj, hf, hg⟩ | ⟨q, hq, hk⟩
          · omega
          · refine ⟨by omega, Or.inl ⟨j, hj, hf, ?_⟩⟩
            rw [e0]
            show u = σ (167 + 3 * j)
            have := (ed_torch w hj).1.1
            omega
          · omega
        · have pp := ed_P_PP (σ := σ) (m := 0) v d hv hd
          have := (b.1 v.toNat (by omega)).1
          omega
      | succ n ih =>
        intro u hu hn hl
        have nn := (b.1 u.toNat (by omega)).1
        rcases b.2.2 u.toNat (by omega) with e | ⟨v, d, hv, hd, p0, e1, e2, e3⟩
        · rcases h3 u.toNat (by omega) with q | ⟨q, j, hj, hf, hg⟩ | ⟨q, hq, hk⟩
          · omega
          · refine ⟨by omega, Or.inl ⟨j, hj, hf, ?_⟩⟩
            rw [e, q]
            show u = σ (167 + 3 * j)
            have := (ed_torch w hj).1.1
            omega
          · refine ⟨by omega, Or.inr ⟨hq, by omega, ?_⟩⟩
            rw [e, q]
            show u = σ 6
            have := H.1
            omega
        · obtain ⟨vi, vq, v1⟩ := ed_P0_1 p0
          have vn := (b.1 v.toNat (by omega)).1
          have e4 : ec_nb v d = u := by omega
          obtain ⟨g1, g2⟩ := ih v hv (by omega) (by omega)
          refine ⟨e3, ?_⟩
          rcases g2 with ⟨t, ht, hf, hr⟩ | ⟨hq, h1, hr⟩
          · refine Or.inl ⟨t, ht, hf, ?_⟩
            rw [show (D u.toNat).toNat = (D v.toNat).toNat + 1 by omega]
            exact Or.inr ⟨v, d, hd, hr, vq, e4⟩
          · refine Or.inr ⟨hq, by omega, ?_⟩
            rw [show (D u.toNat - 1).toNat = (D v.toNat - 1).toNat + 1 by omega]
            exact Or.inr ⟨v, d, hd, hr, vq, e4⟩
    obtain ⟨g1, g2⟩ := key (D z.toNat).toNat z hz (by have := (b.1 z.toNat (by omega)).1; omega) hD
    have nn := (b.1 z.toNat (by omega)).1
    rcases g2 with ⟨t, ht, hf, hr⟩ | ⟨hq, h1, hr⟩
    · refine Or.inl ⟨t, ht, hf, ?_⟩
      have := ed_rch_mono hr (3 - (D z.toNat).toNat)
      rw [show (D z.toNat).toNat + (3 - (D z.toNat).toNat) = 3 by omega] at this
      exact this
    · refine Or.inr ⟨hq, ?_⟩
      have := ed_rch_mono hr (2 - (D z.toNat - 1).toNat)
      rw [show (D z.toNat - 1).toNat + (2 - (D z.toNat - 1).toNat) = 2 by omega] at this
      exact this
  · intro hl
    have key : ∀ (s : Int) (o : Int), ec_ing σ s → 0 ≤ o → c0 s.toNat ≤ o → ∀ (n : Nat) (u : Int), o + n ≤ 3 → ed_rch σ s n u → D u.toNat ≤ o + n := by
      intro s o hs ho hc n
      induction n with
      | zero =>
        intro u _ hr
        have e : u = s := hr
        rw [e]
        have := (b.1 s.toNat (by have := hs.1; omega)).2
        omega
      | succ n ih =>
        intro u hn hr
        rcases hr with hr | ⟨v, d, hd, hr, vq, e⟩
        · have := ih u (by omega) hr
          omega
        · have g := ih v (by omega) hr
          have vi := ed_rch_in w hs n v hr
          have v1 := ed_P0_c vi vq
          have := b.2.1 v d vi.1 hd (by omega) (by omega)
          rw [e] at this
          omega
    rcases hl with ⟨t, ht, hf, hr⟩ | ⟨hq, hr⟩
    · have := key _ 0 (ed_torch w ht).1 (by omega) (h4 t ht hf) 3 z (by omega) hr
      omega
    · have := key _ 1 H (by omega) (h5 hq) 2 z (by omega) hr
      omega
theorem ec_RC.TS {h : ec_Hp} {B : Nat} {σ : ec_Sg} (R : ec_RC h B σ) (w : ec_WF σ) : ec_TS h B (σ 3) (fun a => decide (σ (167 + 3 * a + 2) = 1)) (fun a => σ (167 + 3 * a)) := by
  have w1 := w.1
  refine ⟨by omega, R.2.1.2.1, fun a ha => ?_⟩
  have D := ed_torch w ha
  have q0 := (R.2.2.2.2.1 a (a * ((4 : Nat) : Int) + 0).toNat ha).1 (by omega)
  have q1 := (R.2.2.2.2.1 a (a * ((4 : Nat) : Int) + 1).toNat ha).2.1 (by omega)
  have q3 := (R.2.2.2.2.1 a (a * ((4 : Nat) : Int) + 3).toNat ha).2.2.2 (by omega)
  refine ⟨?_, ?_, D.1.1⟩
  · rw [q3, ec_zeqO (by omega), decide_eq_true_iff]
  · unfold ec_pl
    rw [q0, q1, ec_zmul, ec_zadd]
    congr 1
    show σ (167 + 3 * a) / 8 * 8 + σ (167 + 3 * a) % 8 = σ (167 + 3 * a)
    omega
/-! the senses, over the row -/
/-- the senses hold labels -/
def ed_SL (h : ec_Hp) (p : Nat) : Prop := ec_SN h p ∧ ∃ c nw t, ec_SS h p c nw t
theorem ec_SS.c {h : ec_Hp} {p : Nat} {c c' : Nat → Int} {nw : Nat → Bool} {t : Int} (a : ec_SS h p c nw t) (e : ∀ k : Nat, k < 48 → c k = c' k) : ec_SS h p c' nw t := ⟨a.1, a.2.1, fun k hk => by
  rw [← e k hk]
  exact a.2.2 k hk⟩
/-- a block and the senses lie apart -/
abbrev ed_ap (p B : Nat) : Prop := B + 9 < p ∨ p + 2 < B
theorem ec_c33s {h : ec_Hp} {p B : Nat} {σ : ec_Sg} (hp : ed_ap p B) (hD : ec_DN h B) (R : ec_RC h B σ) (w : ec_WF σ) (S : ed_SL h p) : ∃ (h' : ec_Hp) (c : Nat → Int) (nw : Nat → Bool) (t : Int), ec_om 33 0 [.ref p, .ref B, .double 0] [] h = some (.inl none, h') ∧ ec_fr p h h' ∧ ec_SN h' p ∧ ec_SS h' p c nw t ∧ ∀ z : Int, 0 ≤ z ∧ z < 48 → (ec_ct c z = -1 ↔ ¬ ed_lit σ z) := by
  obtain ⟨hS, c, nw, t, hs⟩ := S
  have H := w.2.1
  have hh := H.1.1
  have w1 := w.1
  have hl : h.2.1 B 10 = if decide (σ 9 = 1) = true then ec_i 1 else ec_i 0 := by
    rw [R.1.2.2.2.2.2.1]
    by_cases q : σ 9 = 1
    · rw [q]; rfl
    · rw [show σ 9 = 0 by omega]; rfl
  obtain ⟨h1, a1, a2, a3⟩ := ec_c33 hp (z := σ 6) hh R.1.2.2.1 hl hD (R.TS w) (R.PB w (by omega)) hS hs
  refine ⟨h1, _, _, _, a1, a2, a2.SN hS, a3, fun z hz => ?_⟩
  obtain ⟨b1, b2, b3, b4, b5⟩ := ed_L0_s (f := fun a => decide (σ (167 + 3 * a + 2) = 1)) (g := fun a => σ (167 + 3 * a)) (lit := decide (σ 9 = 1)) hh (N := σ 3) (by omega) (fun j hj => (ed_torch w hj).1.1)
  have LD := ec_dsc_spec (P := ed_P σ 0) (lim := 3) ed_P_PP (ed_P_ED w) (fun k hk => (b1 k hk).1)
  have e := ec_sp_all (t := t) (ed_P_ED w) ed_P_PP (by omega) LD hs.1 (fun k hk => (b1 k hk).2) b2
  have lx := ed_lux w LD (fun k hk => by
    rcases b3 k hk with q | ⟨q, j, hj, hf, hg⟩ | ⟨q, hq, hk⟩
    · exact Or.inl q
    · exact Or.inr (Or.inl ⟨q, j, hj, of_decide_eq_true hf, hg⟩)
    · exact Or.inr (Or.inr ⟨q, of_decide_eq_true hq, hk⟩)) (fun j hj hf => b4 j hj (decide_eq_true hf)) (fun hq => b5 (decide_eq_true hq)) hz
  rw [← lx, ← e z.toNat (by omega)]
  have n0 := (LD.1 z.toNat (by omega)).1
  rw [← e z.toNat (by omega)] at n0
  unfold ec_ct
  split
  · rename_i q
    exact ⟨fun y => absurd y (by omega), fun y => absurd q.2 y⟩
  · rename_i q
    exact ⟨fun _ y => q ⟨hz, y⟩, fun _ => rfl⟩
theorem ec_c34s {h : ec_Hp} {p B : Nat} {σ : ec_Sg} (hp : ed_ap p B) (hD : ec_DN h B) (R : ec_RC h B σ) (w : ec_WF σ) (S : ed_SL h p) : ∃ (h' : ec_Hp), ec_om 34 0 [.ref p, .ref B] [] h = some (.inl (some (.int (ec_i (ed_q (ed_lit σ (σ 6)))))), h') ∧ ec_fr p h h' ∧ ed_SL h' p := by
  obtain ⟨h1, c, nw, t, a1, a2, a3, a4, a5⟩ := ec_c33s hp hD R w S
  refine ⟨h1, ?_, a2, a3, c, nw, t, a4⟩
  have hh := w.2.1.1.1
  have k0 := S.1.1.1
  have k1 := (a2.DN hp hD).1.1
  have k2 := a3.1.1
  have e7 : h1.2.1 B 7 = ec_i (σ 6) := (R.fr a2 hp).1.2.2.1
  have c36 := ec_c36 (z := σ 6) a3 a4 (ec_rgs (by omega))
  have lx := a5 (σ 6) hh
  have hct := ec_ct_rg (z := σ 6) (fun k hk => (a4.2.2 k hk).1.1)
  have hD := And.intro k0 (And.intro k1 k2)
  by_cases q : ed_lit σ (σ 6)
  · have n1 : ec_ct c (σ 6) ≠ -1 := fun y => (lx.mp y) q
    rw [ed_qt q]
    simp (disch := first | (simp only [ec_w_kI, ec_w_kL, ec_w_kA, ec_w_shpI, ec_w_shpL, ec_w_shpA, ec_isR_r, ec_01z, ec_01o, ec_01q, hD]; done) | omega | (simp only [ec_w_shpI, ec_w_shpL, ec_w_shpA, hD]; refine ec_zinO ?_; omega) | (refine ec_nzO ?_; omega)) only [ec_s34_0, ec_s34_1, ec_s34_2, ec_s34_5, ec_s34_6, ec_s34_7, ec_s34_10, ec_s34_13, ec_s34_14, ec_s34_17, ec_s34_18, ec_s34_21, ec_s34_22, ec_zn0, ec_zn1, ec_zn2, ec_zn3, ec_zn4, ec_zn5, ec_zn6, ec_zn7, ec_zn8, ec_zn9, ec_zn10, ec_zn12, ec_zn13, ec_zn14, ec_zn15, ec_zn16, ec_zn20, ec_zn30, ec_zn48, ec_zn99, ec_zn120, ec_zn127, ec_zn11, ec_zn31, ec_zn46, ec_zn57, ec_zn59, ec_zn63, ec_zn101, ec_zn107, ec_zn108, ec_zn110, ec_zn111, ec_zn115, ec_zn116, ec_zn119, ec_zn167, ec_zn185, ec_zn192, ec_zn215, ec_zn233, ec_zn699, ec_zn932, ec_zn999, ec_znF, ec_zneg, ec_zadd, ec_zsub, ec_zmul, ec_zdivO, ec_em, ec_zltO, ec_zeqO, ec_zeq0, ec_qt, ec_qf, if_pos, if_neg, Int.add_zero, ec_aft_v, ec_aft_n, ec_rwE, ec_rwN, ec_rwP, ec_rwK, ec_rwS, ec_w_shpI, ec_w_shpL, ec_w_shpA, hD, a1, c36, e7]
  · rw [lx.mpr q] at c36
    rw [ed_qf q]
    simp (disch := first | (simp only [ec_w_kI, ec_w_kL, ec_w_kA, ec_w_shpI, ec_w_shpL, ec_w_shpA, ec_isR_r, ec_01z, ec_01o, ec_01q, hD]; done) | omega | (simp only [ec_w_shpI, ec_w_shpL, ec_w_shpA, hD]; refine ec_zinO ?_; omega) | (refine ec_nzO ?_; omega)) only [ec_s34_0, ec_s34_1, ec_s34_2, ec_s34_5, ec_s34_6, ec_s34_7, ec_s34_10, ec_s34_13, ec_s34_14, ec_s34_17, ec_s34_18, ec_s34_21, ec_s34_22, ec_zn0, ec_zn1, ec_zn2, ec_zn3, ec_zn4, ec_zn5, ec_zn6, ec_zn7, ec_zn8, ec_zn9, ec_zn10, ec_zn12, ec_zn13, ec_zn14, ec_zn15, ec_zn16, ec_zn20, ec_zn30, ec_zn48, ec_zn99, ec_zn120, ec_zn127, ec_zn11, ec_zn31, ec_zn46, ec_zn57, ec_zn59, ec_zn63, ec_zn101, ec_zn107, ec_zn108, ec_zn110, ec_zn111, ec_zn115, ec_zn116, ec_zn119, ec_zn167, ec_zn185, ec_zn192, ec_zn215, ec_zn233, ec_zn699, ec_zn932, ec_zn999, ec_znF, ec_zneg, ec_zadd, ec_zsub, ec_zmul, ec_zdivO, ec_em, ec_zltO, ec_zeqO, ec_zeq0, ec_qt, ec_qf, if_pos, if_neg, Int.add_zero, ec_aft_v, ec_aft_n, ec_rwE, ec_rwN, ec_rwP, ec_rwK, ec_rwS, ec_w_shpI, ec_w_shpL, ec_w_shpA, hD, a1, c36, e7]
theorem ec_c35s {h : ec_Hp} {p B : Nat} {σ : ec_Sg} (hp : ed_ap p B) (hD : ec_DN h B) (R : ec_RC h B σ) (w : ec_WF σ) (S : ed_SL h p) {m g : Int} (hm : 0 ≤ m ∧ m ≤ 2) (hg : 0 ≤ g ∧ g < 48) : ∃ (h' : ec_Hp) (nw : Nat → Bool) (t : Int), ec_om 35 0 [.ref p, .ref B, .int (ec_i g), .int (ec_i m)] [] h = some (.inl none, h') ∧ ec_fr p h h' ∧ ec_SN h' p ∧ ec_SS h' p (ed_lb σ m g) nw t := by
  obtain ⟨hS, c, nw, t, hs⟩ := S
  obtain ⟨h1, a1, a2, a3⟩ := ec_c35 hp (z := g) (ec_rgs (by omega)) hD (R.PB w hm) hS hs
  exact ⟨h1, _, _, a1, a2, a2.SN hS, a3.c (ed_lb_sp w hg hs.1)⟩
theorem ec_c38s {h : ec_Hp} {p B : Nat} {σ : ec_Sg} (hD : ec_DN h B) (R : ec_RC h B σ) (w : ec_WF σ) {m g z t : Int} {nw : Nat → Bool} (hm : 0 ≤ m ∧ m ≤ 2) (hz : 0 ≤ z ∧ z < 48) (hS : ec_SN h p) (hs : ec_SS h p (ed_lb σ m g) nw t) : ec_om 38 0 [.ref p, .ref B, .int (ec_i z), .int (ec_i m), .double 0, .double 0, .double 0, .double 0] [] h = some (.inl (some (.int (ec_i (ed_dir σ m g z)))), h) := ec_c38 hz hD (R.PB w hm) hS hs
theorem ec_RC.mpl {h : ec_Hp} {B : Nat} {σ : ec_Sg} (R : ec_RC h B σ) {m : Int} (hm : 0 ≤ m ∧ m < σ 4) : ec_pl h (B + 7) 8 m = ec_i (σ (185 + 5 * m)) := by
  have q0 := (R.2.2.2.2.2.1 m (m * ((8 : Nat) : Int) + 0).toNat hm).1 (by omega)
  have q1 := (R.2.2.2.2.2.1 m (m * ((8 : Nat) : Int) + 1).toNat hm).2.1 (by omega)
  unfold ec_pl
  rw [q0, q1, ec_zmul, ec_zadd]
  congr 1
  omega
theorem ec_RC.mv {h : ec_Hp} {B : Nat} {σ : ec_Sg} (R : ec_RC h B σ) {m : Int} (hm : 0 ≤ m ∧ m < σ 4) : ec_mv h B m 2 = ec_i (σ (185 + 5 * m + 1)) ∧ ec_mv h B m 3 = ec_i (σ (185 + 5 * m + 2)) ∧ ec_mv h B m 4 = ec_i (ed_gc (σ (185 + 5 * m + 3))) ∧ ec_mv h B m 5 = ec_i (ed_gr (σ (185 + 5 * m + 3))) ∧ ec_mv h B m 7 = ec_i (σ (185 + 5 * m + 4)) := by
  have q := fun k => R.2.2.2.2.2.1 m k hm
  exact ⟨(q _).2.2.1 (by omega), (q _).2.2.2.1 (by omega), (q _).2.2.2.2.1 (by omega), (q _).2.2.2.2.2.1 (by omega), (q _).2.2.2.2.2.2 (by omega)⟩
theorem ec_c37s {h : ec_Hp} {p B : Nat} {σ : ec_Sg} (hD : ec_DN h B) (R : ec_RC h B σ) (w : ec_WF σ) {m : Int} (hm : 0 ≤ m ∧ m < σ 4) {g t : Int} {nw : Nat → Bool} (hg : ec_ing σ g) (hS : ec_SN h p) (hs : ec_SS h p (ed_lb σ 2 g) nw t) : ec_om 37 0 [.ref p, .ref B, .int (ec_i m)] [] h = some (.inl (some (.int (ec_i (ed_lb σ 2 g (σ (185 + 5 * m)).toNat + σ (185 + 5 * m + 1))))), h) := by
  have w1 := w.1
  have D := ed_mon w hm
  have Dc := D.1.1
  have f := ed_snd_fin w hg D.1
  have e := ec_c37 hD hS hs (a := m) (by omega) Dc (R.mpl hm)
  rw [(R.mv hm).1, ec_zadd] at e
  have ct : ec_ct (ed_lb σ 2 g) (σ (185 + 5 * m)) = ed_lb σ 2 g (σ (185 + 5 * m)).toNat := by
    unfold ec_ct
    rw [if_pos ⟨Dc, by omega⟩]
  rw [ct] at e
  exact e
theorem ec_c39s {h : ec_Hp} {p B : Nat} {σ : ec_Sg} (hD : ec_DN h B) (R : ec_RC h B σ) (w : ec_WF σ) {m : Int} (hm : 0 ≤ m ∧ m < σ 4) : ec_om 39 0 [.ref p, .ref B, .int (ec_i m), .double 0, .double 0, .double 0] [] h = some (.inl (some (.int (ec_i (ec_q (ec_cln (ed_P σ 0) (σ 6) (ec_sd (σ (185 + 5 * m)) (σ 6)) 9 (σ (185 + 5 * m)) = true))))), h) := by
  have w1 := w.1
  have D := ed_mon w hm
  have e := ec_c39 (p := p) (a := m) w.2.1.1.1 R.1.2.2.1 hD (R.PB w (m := 0) (by omega)) (ed_P_ED w) (by omega) D.1.1 (R.mpl hm)
  rw [ec_q_if] at e
  exact e
