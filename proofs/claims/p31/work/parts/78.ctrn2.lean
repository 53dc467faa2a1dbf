/-! The class's turn over the row: traps, actions. -/
theorem ec_DN.b {h : ec_Hp} {B : Nat} (hD : ec_DN h B) : ec_isK h B 1 = true ∧ (ec_shp h B).2.2 0 = .ref (B + 1) ∧ (ec_shp h B).2.2 1 = .ref (B + 2) ∧ (ec_shp h B).2.2 2 = .ref (B + 4) ∧ (ec_shp h B).2.2 3 = .ref (B + 6) ∧ (ec_shp h B).2.2 4 = .ref (B + 8) ∧ ec_isK h (B + 1) 16 = true ∧ (ec_shp h (B + 1)).2.1 = 192 ∧ ec_isK h (B + 2) 4 = true ∧ ec_isK h (B + 4) 4 = true ∧ ec_isK h (B + 6) 4 = true ∧ ec_isK h (B + 8) 4 = true ∧ ec_isK h (B + 3) 16 = true ∧ ec_isK h (B + 5) 16 = true ∧ ec_isK h (B + 7) 16 = true ∧ ec_isK h (B + 9) 16 = true :=
  ⟨hD.1.1, hD.1.2.1, hD.1.2.2.1, hD.1.2.2.2.1, hD.1.2.2.2.2.1, hD.1.2.2.2.2.2, hD.2.1.1, hD.2.1.2, hD.2.2.1.1.1, hD.2.2.2.1.1.1, hD.2.2.2.2.1.1.1, hD.2.2.2.2.2.1.1, hD.2.2.1.1.2, hD.2.2.2.1.1.2, hD.2.2.2.2.1.1.2, hD.2.2.2.2.2.1.2⟩
theorem ec_fi_s {f : Int → Int32} {g : Int → Int} {x : Int} {N : Int} (hx : ec_rg x) (hg : ∀ i : Int, 0 ≤ i ∧ i < N → f i = ec_i (g i) ∧ ec_rg (g i)) : ∀ (n : Nat) (i : Int), 0 ≤ i → i + n ≤ N → ec_fi f (ec_i x) n i = ed_fs g x n i
  | 0, _, _, _ => rfl
  | n + 1, i, h0, hn => by
    obtain ⟨a, b⟩ := hg i (by omega)
    rw [show ec_fi f (ec_i x) (n + 1) i = if f i = ec_i x then i else ec_fi f (ec_i x) n (i + 1) from rfl, show ed_fs g x (n + 1) i = if g i = x then i else ed_fs g x n (i + 1) from rfl, a, ec_fi_s hx hg n (i + 1) (by omega) (by omega)]
    have e : (ec_i (g i) = ec_i x) = (g i = x) := ec_zeq b hx
    by_cases q : g i = x
    · rw [if_pos q, if_pos (e ▸ q)]
    · rw [if_neg q, if_neg (fun y => q (e ▸ y))]
theorem ec_RC.tpl {h : ec_Hp} {B : Nat} {σ : ec_Sg} (R : ec_RC h B σ) {k : Int} (hk : 0 ≤ k ∧ k < σ 5) : ec_pl h (B + 9) 4 k = ec_i (σ (215 + 3 * k)) := by
  have q0 := (R.2.2.2.2.2.2 k (k * ((4 : Nat) : Int) + 0).toNat hk).1 (by omega)
  have q1 := (R.2.2.2.2.2.2 k (k * ((4 : Nat) : Int) + 1).toNat hk).2.1 (by omega)
  unfold ec_pl
  rw [q0, q1, ec_zmul, ec_zadd]
  congr 1
  omega
theorem ec_RC.opl {h : ec_Hp} {B : Nat} {σ : ec_Sg} (R : ec_RC h B σ) {k : Int} (hk : 0 ≤ k ∧ k < σ 3) : ec_pl h (B + 5) 4 k = ec_i (σ (167 + 3 * k)) := by
  have q0 := (R.2.2.2.2.1 k (k * ((4 : Nat) : Int) + 0).toNat hk).1 (by omega)
  have q1 := (R.2.2.2.2.1 k (k * ((4 : Nat) : Int) + 1).toNat hk).2.1 (by omega)
  unfold ec_pl
  rw [q0, q1, ec_zmul, ec_zadd]
  congr 1
  omega
/-- the trap of a cell -/
theorem ec_c53s {h : ec_Hp} {B : Nat} {σ : ec_Sg} (hD : ec_DN h B) (R : ec_RC h B σ) (w : ec_WF σ) {x : Int} (hx : ec_rg x) : ec_om 53 0 [.ref (B + 8), .int (ec_i x), .double 0] [] h = some (.inl (some (.int (ec_i (ed_tr σ x)))), h) := by
  have w1 := w.1
  have hT := hD.2.2.2.2.2
  have hn : h.2.1 (B + 8) 3 = ec_i ((σ 5).toNat : Nat) := by
    rw [R.2.1.2.2.2]
    congr 1
    omega
  have e := ec_c53 (c := (σ 5).toNat) (x := ec_i x) hT (by omega) (by omega) (by omega) hn
  rw [ec_fi_s (N := σ 5) (g := fun k => σ (215 + 3 * k)) hx (fun i hi => ⟨R.tpl hi, by have := (ed_trap w hi).1.1; exact ec_rgs (by omega)⟩) (σ 5).toNat 0 (by omega) (by omega)] at e
  exact e
theorem ec_c23s {h : ec_Hp} {B : Nat} {σ : ec_Sg} (hD : ec_DN h B) (R : ec_RC h B σ) (w : ec_WF σ) : ∃ h', ec_om 23 0 [.ref B] [] h = some (.inl none, h') ∧ ec_RC h' B (ed_hit σ) ∧ ec_DN h' B ∧ ec_fg (fun q _ => q = B) h h' :=
  ⟨ec_lose h B, ec_c23 hD, R.lose w, hD.O, ec_fg.refl.I (by rfl)⟩
theorem ec_c50p {h : ec_Hp} {B : Nat} {σ : ec_Sg} (hD : ec_DN h B) (R : ec_RC h B σ) (w1 : ed_ct σ) {k j v : Int} (hk : 0 ≤ k ∧ k < σ 5) (hj : 1 ≤ j ∧ j ≤ 2) : ∃ h', ec_om 50 0 [.ref (B + 8), .int (ec_i k), .int (ec_i (j + 1)), .int (ec_i v)] [] h = some (.inl none, h') ∧ ec_RC h' B (ec_su σ (215 + 3 * k + j) (σ (215 + 3 * k + j) + v)) ∧ ec_DN h' B ∧ ec_fg (fun q _ => q = B + 9) h h' := by
  have w2 := w1
  unfold ed_ct at w2
  have hT := hD.2.2.2.2.2
  have e := ec_c50 (v := ec_i v) hT (a := k) (b := j + 1) (by omega) (by omega) (by omega)
  have rv : h.2.1 (B + 9) (k * ((4 : Nat) : Int) + (j + 1)).toNat = ec_i (σ (215 + 3 * k + j)) := by
    rcases (show j = 1 ∨ j = 2 by omega) with rfl | rfl
    · exact (R.2.2.2.2.2.2 k _ hk).2.2.1 (by omega)
    · exact (R.2.2.2.2.2.2 k _ hk).2.2.2 (by omega)
  rw [rv, ec_zadd] at e
  exact ⟨_, e, R.trap w1 (by omega) hj (by omega), hD.V (by omega), ec_fg.refl.I (by rfl)⟩
theorem ec_c61s {h : ec_Hp} {T : Nat} {x y : Int} (hT : ec_isK h T 5 = true) : ∃ h', ec_om 61 0 [.ref T, .int (ec_i x), .int (ec_i y)] [] h = some (.inl none, h') ∧ h'.2.1 T 1 = ec_i x ∧ h'.2.1 T 2 = ec_i y ∧ ec_fg (fun q j => q = T ∧ (j = 1 ∨ j = 2)) h h' :=
  ⟨_, ec_c61 hT, by rw [ec_rwK (by decide), ec_rwS], by rw [ec_rwS], (ec_fg.refl.I ⟨rfl, Or.inl rfl⟩).I ⟨rfl, Or.inr rfl⟩⟩
theorem ec_isK.fg {S : Nat → Nat → Prop} {h h' : ec_Hp} {q k : Nat} (a : ec_fg S h h') (b : ec_isK h q k = true) : ec_isK h' q k = true := by
  have e : ec_shp h' q = ec_shp h q := by show ec_nth _ h'.1 q = ec_nth _ h.1 q; rw [a.1.1]
  unfold ec_isK at b ⊢
  rw [e]
  exact b
theorem ec_DN.fg {S : Nat → Nat → Prop} {h h' : ec_Hp} {B : Nat} (a : ec_fg S h h') (hS : ∀ q j, B ≤ q → q ≤ B + 9 → ¬ S q j) (b : ec_DN h B) : ec_DN h' B := by
  have e : ∀ q, ec_shp h' q = ec_shp h q := fun q => by show ec_nth _ h'.1 q = ec_nth _ h.1 q; rw [a.1.1]
  have i : ∀ q j, B ≤ q → q ≤ B + 9 → h'.2.1 q j = h.2.1 q j := fun q j h1 h2 => a.2 q j (hS q j h1 h2)
  unfold ec_DN ec_TB ec_isK at b ⊢
  simp only [e, i (B + 2) 0 (by omega) (by omega), i (B + 2) 1 (by omega) (by omega), i (B + 4) 0 (by omega) (by omega), i (B + 4) 1 (by omega) (by omega), i (B + 6) 0 (by omega) (by omega), i (B + 6) 1 (by omega) (by omega), i (B + 8) 0 (by omega) (by omega), i (B + 8) 1 (by omega) (by omega)]
  exact b
/-- the frame of a turn: the block and the sound -/
abbrev ed_TF (T B : Nat) : Nat → Nat → Prop := fun q j => (B ≤ q ∧ q ≤ B + 9) ∨ (q = T ∧ (j = 1 ∨ j = 2))
theorem ec_c64s {h : ec_Hp} {T B : Nat} {σ : ec_Sg} (hT : ec_isK h T 5 = true) (hTB : T < B ∨ B + 9 < T) (hD : ec_DN h B) (R : ec_RC h B σ) (w : ec_WF σ) : ∃ h', ec_om 64 0 [.ref T, .ref B, .double 0] [] h = some (.inl none, h') ∧ ec_RC h' B (ed_spr σ) ∧ ec_DN h' B ∧ ec_fg (ed_TF T B) h h' ∧ (ed_sprq σ → h'.2.1 T 1 = ec_i (σ 6) ∧ h'.2.1 T 2 = ec_i 9) ∧ (¬ ed_sprq σ → h'.2.1 T 1 = h.2.1 T 1 ∧ h'.2.1 T 2 = h.2.1 T 2) := by
  have w1 := w.1
  have hh := w.2.1.1.1
  have g0 := ec_c53s hD R w (x := σ 6) (ec_rgs (by omega))
  have r := ed_tr_rg w (x := σ 6)
  have b := hD.b
  have r6 := R.1.2.2.1
  unfold ed_spr
  by_cases q1 : ed_tr σ (σ 6) = -1
  · have nq : ¬ ed_sprq σ := fun y => y.1 q1
    rw [if_neg nq]
    rw [q1] at g0
    refine ⟨h, ?_, R, hD, ec_fg.refl, fun y => absurd y nq, fun _ => ⟨rfl, rfl⟩⟩
    have hD := And.intro b hT
    simp (disch := first | (simp only [ec_w_kI, ec_w_kL, ec_w_kA, ec_w_shpI, ec_w_shpL, ec_w_shpA, ec_isR_r, ec_01z, ec_01o, ec_01q, hD]; done) | omega | (simp only [ec_w_shpI, ec_w_shpL, ec_w_shpA, hD]; refine ec_zinO ?_; omega) | (refine ec_nzO ?_; omega)) only [ec_s64_0, ec_s64_1, ec_s64_4, ec_s64_5, ec_s64_8, ec_s64_11, ec_s64_12, ec_s64_13, ec_s64_14, ec_s64_17, ec_s64_18, ec_s64_21, ec_s64_22, ec_s64_23, ec_s64_26, ec_s64_29, ec_s64_30, ec_s64_33, ec_s64_34, ec_s64_35, ec_s64_36, ec_s64_39, ec_s64_40, ec_s64_43, ec_s64_44, ec_s64_45, ec_s64_46, ec_s64_49, ec_s64_50, ec_s64_53, ec_s64_54, ec_s64_55, ec_s64_58, ec_s64_60, ec_s64_63, ec_zn0, ec_zn1, ec_zn2, ec_zn3, ec_zn4, ec_zn5, ec_zn6, ec_zn7, ec_zn8, ec_zn9, ec_zn10, ec_zn12, ec_zn13, ec_zn14, ec_zn15, ec_zn16, ec_zn20, ec_zn30, ec_zn48, ec_zn99, ec_zn120, ec_zn127, ec_zn11, ec_zn31, ec_zn46, ec_zn57, ec_zn59, ec_zn63, ec_zn101, ec_zn107, ec_zn108, ec_zn110, ec_zn111, ec_zn115, ec_zn116, ec_zn119, ec_zn167, ec_zn185, ec_zn192, ec_zn215, ec_zn233, ec_zn699, ec_zn932, ec_zn999, ec_znF, ec_zneg, ec_zadd, ec_zsub, ec_zmul, ec_zdivO, ec_em, ec_zltO, ec_zeqO, ec_zeq0, ec_qt, ec_qf, if_pos, if_neg, Int.add_zero, ec_aft_v, ec_aft_n, ec_rwE, ec_rwN, ec_rwP, ec_rwK, ec_rwS, ec_w_shpI, ec_w_shpL, ec_w_shpA, hD, r6, g0]
  · have r := r.resolve_left (fun y => q1 y.1)
    have D := ed_trap w (k := ed_tr σ (σ 6)) (by omega)
    have g1 := ec_c48 hD.2.2.2.2.2 (a := ed_tr σ (σ 6)) (b := 2) (by omega) (by omega) (by omega)
    have v2 : h.2.1 (B + 9) (ed_tr σ (σ 6) * ((4 : Nat) : Int) + 2).toNat = ec_i (σ (215 + 3 * ed_tr σ (σ 6) + 1)) := (R.2.2.2.2.2.2 _ _ (by omega)).2.2.1 (by omega)
    rw [v2] at g1
    by_cases q2 : 0 < σ (215 + 3 * ed_tr σ (σ 6) + 1)
    · have yq : ed_sprq σ := ⟨q1, q2⟩
      rw [if_pos yq]
      have wsp : ec_WF (ed_spr1 σ (ed_tr σ (σ 6))) := by
        refine ed_WF_tp w (m := ed_tr σ (σ 6)) (by omega) (fun j hj => by unfold ed_spr1; simp (disch := omega) only [ec_suN]) (fun _ => ?_)
        unfold ed_spr1
        simp (disch := omega) only [ec_suN, ec_suE]
        omega
      have e6 : ed_hit (ed_spr1 σ (ed_tr σ (σ 6))) 6 = σ 6 := by
        rw [ed_hit_c (by omega)]
        unfold ed_spr1
        rw [ec_suN (by omega), ec_suN (by omega)]
      unfold ed_spr1 at wsp e6 ⊢
      generalize ed_tr σ (σ 6) = k at g0 g1 r q1 q2 D wsp e6 ⊢
      obtain ⟨h1, a1, a2, a3, a4⟩ := ec_c50p hD R w.ct (k := k) (j := 1) (v := -1) (by omega) (by omega)
      have s1 : σ (215 + 3 * k + 1) + -1 = σ (215 + 3 * k + 1) - 1 := by omega
      rw [s1] at a2
      obtain ⟨h2, b1, b2, b3, b4⟩ := ec_c50p a3 a2 (by unfold ed_ct; simp (disch := omega) only [ec_suN]; exact w.ct) (k := k) (j := 2) (v := 1) (by rw [ec_suN (by omega)]; omega) (by omega)
      rw [ec_suN (show 215 + 3 * k + 2 ≠ 215 + 3 * k + 1 by omega)] at b2
      obtain ⟨h3, c1, c2, c3, c4⟩ := ec_c23s b3 b2 wsp
      have hT3 := ec_isK.fg c4 (ec_isK.fg b4 (ec_isK.fg a4 hT))
      obtain ⟨h4, d1, d2, d3, d4⟩ := ec_c61s (x := σ 6) (y := 9) hT3
      have r63 : h3.2.1 B 7 = ec_i (σ 6) := by rw [c2.1.2.2.1, e6]
      have F3 : ec_fg (ed_TF T B) h h3 := ((a4.mono (fun q j e => Or.inl (by omega))).trans (b4.mono (fun q j e => Or.inl (by omega)))).trans (c4.mono (fun q j e => Or.inl (by omega)))
      refine ⟨h4, ?_, c2.fg d4 (fun q j h1 h2 y => by omega), c3.fg d4 (fun q j h1 h2 y => by omega), F3.trans (d4.mono (fun q j e => Or.inr e)), fun _ => ⟨d2, d3⟩, fun y => absurd yq y⟩
      have ba := a3.b
      have bb := b3.b
      have bc := c3.b
      have hT1 := ec_isK.fg a4 hT
      have hT2 := ec_isK.fg b4 hT1
      have hD := And.intro b (And.intro ba (And.intro bb (And.intro bc (And.intro hT (And.intro hT1 (And.intro hT2 hT3))))))
      have a1 : ec_om 50 0 [.ref (B + 8), .int (ec_i k), .int (ec_i 2), .int (ec_i (-1))] [] h = some (.inl none, h1) := a1
      have b1 : ec_om 50 0 [.ref (B + 8), .int (ec_i k), .int (ec_i 3), .int (ec_i 1)] [] h1 = some (.inl none, h2) := b1
      simp (disch := first | (simp only [ec_w_kI, ec_w_kL, ec_w_kA, ec_w_shpI, ec_w_shpL, ec_w_shpA, ec_isR_r, ec_01z, ec_01o, ec_01q, hD]; done) | omega | (simp only [ec_w_shpI, ec_w_shpL, ec_w_shpA, hD]; refine ec_zinO ?_; omega) | (refine ec_nzO ?_; omega)) only [ec_s64_0, ec_s64_1, ec_s64_4, ec_s64_5, ec_s64_8, ec_s64_11, ec_s64_12, ec_s64_13, ec_s64_14, ec_s64_17, ec_s64_18, ec_s64_21, ec_s64_22, ec_s64_23, ec_s64_26, ec_s64_29, ec_s64_30, ec_s64_33, ec_s64_34, ec_s64_35, ec_s64_36, ec_s64_39, ec_s64_40, ec_s64_43, ec_s64_44, ec_s64_45, ec_s64_46, ec_s64_49, ec_s64_50, ec_s64_53, ec_s64_54, ec_s64_55, ec_s64_58, ec_s64_60, ec_s64_63, ec_zn0, ec_zn1, ec_zn2, ec_zn3, ec_zn4, ec_zn5, ec_zn6, ec_zn7, ec_zn8, ec_zn9, ec_zn10, ec_zn12, ec_zn13, ec_zn14, ec_zn15, ec_zn16, ec_zn20, ec_zn30, ec_zn48, ec_zn99, ec_zn120, ec_zn127, ec_zn11, ec_zn31, ec_zn46, ec_zn57, ec_zn59, ec_zn63, ec_zn101, ec_zn107, ec_zn108, ec_zn110, ec_zn111, ec_zn115, ec_zn116, ec_zn119, ec_zn167, ec_zn185, ec_zn192, ec_zn215, ec_zn233, ec_zn699, ec_zn932, ec_zn999, ec_znF, ec_zneg, ec_zadd, ec_zsub, ec_zmul, ec_zdivO, ec_em, ec_zltO, ec_zeqO, ec_zeq0, ec_qt, ec_qf, if_pos, if_neg, Int.add_zero, ec_aft_v, ec_aft_n, ec_rwE, ec_rwN, ec_rwP, ec_rwK, ec_rwS, ec_w_shpI, ec_w_shpL, ec_w_shpA, hD, r6, r63, g0, g1, a1, b1, c1, d1]
    · have nq : ¬ ed_sprq σ := fun y => q2 y.2
      rw [if_neg nq]
      refine ⟨h, ?_, R, hD, ec_fg.refl, fun y => absurd y nq, fun _ => ⟨rfl, rfl⟩⟩
      generalize ed_tr σ (σ 6) = k at g0 g1 r q1 q2 D
      have hD := And.intro b hT
      simp (disch := first | (simp only [ec_w_kI, ec_w_kL, ec_w_kA, ec_w_shpI, ec_w_shpL, ec_w_shpA, ec_isR_r, ec_01z, ec_01o, ec_01q, hD]; done) | omega | (simp only [ec_w_shpI, ec_w_shpL, ec_w_shpA, hD]; refine ec_zinO ?_; omega) | (refine ec_nzO ?_; omega)) only [ec_s64_0, ec_s64_1, ec_s64_4, ec_s64_5, ec_s64_8, ec_s64_11, ec_s64_12, ec_s64_13, ec_s64_14, ec_s64_17, ec_s64_18, ec_s64_21, ec_s64_22, ec_s64_23, ec_s64_26, ec_s64_29, ec_s64_30, ec_s64_33, ec_s64_34, ec_s64_35, ec_s64_36, ec_s64_39, ec_s64_40, ec_s64_43, ec_s64_44, ec_s64_45, ec_s64_46, ec_s64_49, ec_s64_50, ec_s64_53, ec_s64_54, ec_s64_55, ec_s64_58, ec_s64_60, ec_s64_63, ec_zn0, ec_zn1, ec_zn2, ec_zn3, ec_zn4, ec_zn5, ec_zn6, ec_zn7, ec_zn8, ec_zn9, ec_zn10, ec_zn12, ec_zn13, ec_zn14, ec_zn15, ec_zn16, ec_zn20, ec_zn30, ec_zn48, ec_zn99, ec_zn120, ec_zn127, ec_zn11, ec_zn31, ec_zn46, ec_zn57, ec_zn59, ec_zn63, ec_zn101, ec_zn107, ec_zn108, ec_zn110, ec_zn111, ec_zn115, ec_zn116, ec_zn119, ec_zn167, ec_zn185, ec_zn192, ec_zn215, ec_zn233, ec_zn699, ec_zn932, ec_zn999, ec_znF, ec_zneg, ec_zadd, ec_zsub, ec_zmul, ec_zdivO, ec_em, ec_zltO, ec_zeqO, ec_zeq0, ec_qt, ec_qf, if_pos, if_neg, Int.add_zero, ec_aft_v, ec_aft_n, ec_rwE, ec_rwN, ec_rwP, ec_rwK, ec_rwS, ec_w_shpI, ec_w_shpL, ec_w_shpA, hD, r6, g0, g1]
theorem ec_c63s {h : ec_Hp} {B : Nat} {σ : ec_Sg} (hD : ec_DN h B) (R : ec_RC h B σ) (w : ec_WF σ) : ec_om 63 0 [.ref B, .double 0, .double 0] [] h = some (.inl (some (.int (ec_i (ed_stn σ 3 (σ 6))))), h) := by
  have e := ec_c63 hD (R.PB w (m := 0) (by omega)) (ed_P_ED w) w.2.1.1.1 R.1.2.2.1
  have key : ∀ (n : Nat) (z : Int), ec_ing σ z → ec_stn (ed_P σ 0) n z = ed_stn σ n z := by
    intro n
    induction n with
    | zero => intro z _; rfl
    | succ n ih =>
      intro z hz
      rw [show ec_stn (ed_P σ 0) (n + 1) z = if ed_P σ 0 z 1 = 0 then z else ec_stn (ed_P σ 0) n (ec_nb z 1) from rfl, show ed_stn σ (n + 1) z = if ec_cq σ z 1 then ed_stn σ n (ec_nb z 1) else z from rfl]
      have p := ed_P0 (d := 1) hz
      by_cases q : ec_cq σ z 1
      · rw [if_neg (fun y => p.mp y q), if_pos q]
        exact ih _ (ec_nb_in w hz (by omega) (ed_cq_hb q))
      · rw [if_pos (p.mpr q), if_neg q]
  rw [key 3 (σ 6) w.2.1.1] at e
  exact e
theorem ec_c62s {h : ec_Hp} {T B : Nat} {σ : ec_Sg} (hT : ec_isK h T 5 = true) (hTB : T < B ∨ B + 9 < T) (hD : ec_DN h B) (R : ec_RC h B σ) (w : ec_WF σ) {d v : Int} (hd : 0 ≤ d ∧ d < 4) (hv : 0 ≤ v ∧ v ≤ 2) (hb : 1 < ec_ba σ (σ 6) d) : ∃ h', ec_om 62 0 [.ref T, .ref B, .int (ec_i d), .int (ec_i v), .double 0] [] h = some (.inl none, h') ∧ ec_RC h' B (ed_puts σ (ec_ba σ (σ 6) d - 2) v) ∧ ec_DN h' B ∧ h'.2.1 T 1 = ec_i (σ 6) ∧ h'.2.1 T 2 = ec_i (σ (107 + 6 * (ec_ba σ (σ 6) d - 2) + 2)) ∧ ec_fg (ed_TF T B) h h' := by
  have w1 := w.1
  have H := w.2.1.1
  have ba := w.ba H hd
  have dn := ed_dn w H hd
  rw [if_pos hb] at dn
  have e := ec_c62 (v := ec_i v) (n := ec_ba σ (σ 6) d - 2) hT hD H.1 hd (by rw [R.bdr H.1 hd]; exact ed_bd_bk w hd) R.1.2.2.1 (by rw [R.bdr H.1 hd]; exact dn) (by omega)
  have v2 := R.dv (n := ec_ba σ (σ 6) d - 2) (j := 2) (k := ((ec_ba σ (σ 6) d - 2) * ((6 : Nat) : Int) + 2).toNat) (by omega) (by omega) (by omega)
  rw [v2] at e
  have R1 := R.td w (n := ec_ba σ (σ 6) d - 2) (v := v) (by omega) hv
  have D1 : ec_DN (ec_td h B (ec_ba σ (σ 6) d - 2) (ec_i v)) B := hD.td
  have F1 : ec_fg (ed_TF T B) h (ec_td h B (ec_ba σ (σ 6) d - 2) (ec_i v)) := (ec_fg.refl.I (Or.inl (by omega))).I (Or.inl (by omega))
  generalize ec_td h B (ec_ba σ (σ 6) d - 2) (ec_i v) = h1 at e R1 D1 F1
  have F2 : ec_fg (fun q j => q = T ∧ (j = 1 ∨ j = 2)) h1 (ec_setI (ec_setI h1 T 1 (ec_i (σ 6))) T 2 (ec_i (σ (107 + 6 * (ec_ba σ (σ 6) d - 2) + 2)))) := (ec_fg.refl.I ⟨rfl, Or.inl rfl⟩).I ⟨rfl, Or.inr rfl⟩
  exact ⟨_, e, R1.fg F2 (fun q j h1 h2 y => by omega), D1.fg F2 (fun q j h1 h2 y => by omega), by rw [ec_rwK (by decide), ec_rwS], by rw [ec_rwS], F1.trans (F2.mono (fun q j e => Or.inr e))⟩
set_option maxHeartbeats 1000000 in
theorem ec_c60s {h : ec_Hp} {T B : Nat} {σ : ec_Sg} (hT : ec_isK h T 5 = true) (hTB : T < B ∨ B + 9 < T) (hD : ec_DN h B) (R : ec_RC h B σ) (w : ec_WF σ) {a : Int} (ha : 0 ≤ a ∧ a < 16) (hr : ed_rsn σ a = 0) (s1 : h.2.1 T 1 = ec_i (σ 6)) (s2 : h.2.1 T 2 = ec_i 0) : ∃ h', ec_om 60 0 [.ref T, .ref B, .int (ec_i a), .double 0] [] h = some (.inl none, h') ∧ ec_RC h' B (ed_does σ a) ∧ ec_DN h' B ∧ h'.2.1 T 1 = ec_i (ed_sp σ a) ∧ h'.2.1 T 2 = ec_i (ed_sl σ a) ∧ ec_fg (ed_TF T B) h h' := by
  obtain ⟨q1, q2, q3, q4⟩ := ed_rsn_0 hr
  have w1 := w.1
  have H := w.2.1.1
  have hh := H.1
  have r7 := R.1.2.2.1
  have b := hD.b
  unfold ed_does ed_sp ed_sl
  by_cases c1 : a < 4
  · have m4 : a % 4 = a := by omega
    rw [if_pos c1, if_pos c1, if_pos c1, m4]
    have q2 := q2 c1
    have nb := ec_nb_in w H ⟨ha.1, c1⟩ (ed_cq_hb q2)
    have n1 := nb.1
    obtain ⟨h1, a1, a2, a3, a4⟩ := ec_c22s hD R w H (d := a) (v := 0) ⟨ha.1, c1⟩
    have e6 : ed_pass σ (ec_ba σ (σ 6) a) 0 6 = σ 6 := ed_4_pass (by omega)
    have r71 : h1.2.1 B 7 = ec_i (σ 6) := by rw [a2.1.2.2.1, e6]
    have g0 := fun h => ec_c115 (h := h) (z := σ 6) (d := a) ⟨ha.1, c1⟩
    have R2 : ec_RC (ec_setI h1 B 7 (ec_i (ec_nb (σ 6) a))) B (ec_su (ed_pass σ (ec_ba σ (σ 6) a) 0) 6 (ec_nb (σ 6) a)) := a2.hero
    have D2 : ec_DN (ec_setI h1 B 7 (ec_i (ec_nb (σ 6) a))) B := a3.O
    have comm : ec_su (ed_pass σ (ec_ba σ (σ 6) a) 0) 6 (ec_nb (σ 6) a) = ed_pass (ec_su σ 6 (ec_nb (σ 6) a)) (ec_ba σ (σ 6) a) 0 := by
      unfold ed_pass
      split
      · simp (disch := omega) only [ec_suN]
        rw [ed_su_co (a := 107 + 6 * (ec_ba σ (σ 6) a - 2) + 4) (b := 6) (by omega), ed_su_co (a := 107 + 6 * (ec_ba σ (σ 6) a - 2) + 3) (b := 6) (by omega)]
      · rfl
    rw [comm] at R2
    have F2 : ec_fg (ed_TF T B) h (ec_setI h1 B 7 (ec_i (ec_nb (σ 6) a))) := (a4.mono (fun q j e => Or.inl (by omega))).I (Or.inl (by omega))
    have hT1 := ec_isK.fg a4 hT
    have hT2 : ec_isK (ec_setI h1 B 7 (ec_i (ec_nb (σ 6) a))) T 5 = true := hT1
    obtain ⟨h3, d1, d2, d3, d4⟩ := ec_c61s (x := ec_nb (σ 6) a) (y := 3) hT2
    refine ⟨h3, ?_, R2.fg d4 (fun q j h1 h2 y => by omega), D2.fg d4 (fun q j h1 h2 y => by omega), d2, d3, F2.trans (d4.mono (fun q j e => Or.inr e))⟩
    have ba := a3.b
    have hD := And.intro b (And.intro ba (And.intro hT hT1))
    simp (disch := first | (simp only [ec_w_kI, ec_w_kL, ec_w_kA, ec_w_shpI, ec_w_shpL, ec_w_shpA, ec_isR_r, ec_01z, ec_01o, ec_01q, hD]; done) | omega | (simp only [ec_w_shpI, ec_w_shpL, ec_w_shpA, hD]; refine ec_zinO ?_; omega) | (refine ec_nzO ?_; omega)) only [ec_s60_0, ec_s60_1, ec_s60_2, ec_s60_3, ec_s60_4, ec_s60_5, ec_s60_6, ec_s60_9, ec_s60_10, ec_s60_11, ec_s60_14, ec_s60_15, ec_s60_16, ec_s60_19, ec_s60_20, ec_s60_21, ec_s60_24, ec_s60_25, ec_s60_28, ec_s60_31, ec_s60_32, ec_s60_33, ec_s60_36, ec_s60_37, ec_s60_40, ec_s60_43, ec_s60_44, ec_s60_46, ec_s60_49, ec_s60_50, ec_s60_51, ec_s60_52, ec_s60_53, ec_s60_56, ec_s60_59, ec_s60_60, ec_s60_62, ec_s60_65, ec_s60_66, ec_s60_67, ec_s60_68, ec_s60_69, ec_s60_72, ec_s60_75, ec_s60_76, ec_s60_78, ec_s60_81, ec_s60_82, ec_s60_83, ec_s60_86, ec_s60_89, ec_s60_90, ec_s60_92, ec_s60_95, ec_s60_96, ec_s60_97, ec_s60_100, ec_s60_103, ec_s60_104, ec_s60_106, ec_s60_109, ec_s60_110, ec_s60_111, ec_s60_114, ec_s60_116, ec_s60_119, ec_zn0, ec_zn1, ec_zn2, ec_zn3, ec_zn4, ec_zn5, ec_zn6, ec_zn7, ec_zn8, ec_zn9, ec_zn10, ec_zn12, ec_zn13, ec_zn14, ec_zn15, ec_zn16, ec_zn20, ec_zn30, ec_zn48, ec_zn99, ec_zn120, ec_zn127, ec_zn11, ec_zn31, ec_zn46, ec_zn57, ec_zn59, ec_zn63, ec_zn101, ec_zn107, ec_zn108, ec_zn110, ec_zn111, ec_zn115, ec_zn116, ec_zn119, ec_zn167, ec_zn185, ec_zn192, ec_zn215, ec_zn233, ec_zn699, ec_zn932, ec_zn999, ec_znF, ec_zneg, ec_zadd, ec_zsub, ec_zmul, ec_zdivO, ec_em, ec_zltO, ec_zeqO, ec_zeq0, ec_qt, ec_qf, if_pos, if_neg, Int.add_zero, ec_aft_v, ec_aft_n, ec_rwE, ec_rwN, ec_rwP, ec_rwK, ec_rwS, ec_w_shpI, ec_w_shpL, ec_w_shpA, hD, r7, r71, m4, g0, a1, d1]
  · rw [if_neg c1, if_neg c1, if_neg c1]
    by_cases c2 : a < 12
    · have q3 := q3 (by omega)
      rw [if_pos c2, if_pos c2, if_neg (show ¬ a = 15 by omega)]
      obtain ⟨h1, a1, a2, a3, a4, a5, a6⟩ := ec_c62s hT hTB hD R w (d := a % 4) (v := if a < 8 then 1 else 0) (by omega) (by split <;> omega) q3
      refine ⟨h1, ?_, a2, a3, a4, a5, a6⟩
      have hD := And.intro b hT
      by_cases c3 : a < 8
      · rw [if_pos c3] at a1
        simp (disch := first | (simp only [ec_w_kI, ec_w_kL, ec_w_kA, ec_w_shpI, ec_w_shpL, ec_w_shpA, ec_isR_r, ec_01z, ec_01o, ec_01q, hD]; done) | omega | (simp only [ec_w_shpI, ec_w_shpL, ec_w_shpA, hD]; refine ec_zinO ?_; omega) | (refine ec_nzO ?_; omega)) only [ec_s60_0, ec_s60_1, ec_s60_2, ec_s60_3, ec_s60_4, ec_s60_5, ec_s60_6, ec_s60_9, ec_s60_10, ec_s60_11, ec_s60_14, ec_s60_15, ec_s60_16, ec_s60_19, ec_s60_20, ec_s60_21, ec_s60_24, ec_s60_25, ec_s60_28, ec_s60_31, ec_s60_32, ec_s60_33, ec_s60_36, ec_s60_37, ec_s60_40, ec_s60_43, ec_s60_44, ec_s60_46, ec_s60_49, ec_s60_50, ec_s60_51, ec_s60_52, ec_s60_53, ec_s60_56, ec_s60_59, ec_s60_60, ec_s60_62, ec_s60_65, ec_s60_66, ec_s60_67, ec_s60_68, ec_s60_69, ec_s60_72, ec_s60_75, ec_s60_76, ec_s60_78, ec_s60_81, ec_s60_82, ec_s60_83, ec_s60_86, ec_s60_89, ec_s60_90, ec_s60_92, ec_s60_95, ec_s60_96, ec_s60_97, ec_s60_100, ec_s60_103, ec_s60_104, ec_s60_106, ec_s60_109, ec_s60_110, ec_s60_111, ec_s60_114, ec_s60_116, ec_s60_119, ec_zn0, ec_zn1, ec_zn2, ec_zn3, ec_zn4, ec_zn5, ec_zn6, ec_zn7, ec_zn8, ec_zn9, ec_zn10, ec_zn12, ec_zn13, ec_zn14, ec_zn15, ec_zn16, ec_zn20, ec_zn30, ec_zn48, ec_zn99, ec_zn120, ec_zn127, ec_zn11, ec_zn31, ec_zn46, ec_zn57, ec_zn59, ec_zn63, ec_zn101, ec_zn107, ec_zn108, ec_zn110, ec_zn111, ec_zn115, ec_zn116, ec_zn119, ec_zn167, ec_zn185, ec_zn192, ec_zn215, ec_zn233, ec_zn699, ec_zn932, ec_zn999, ec_znF, ec_zneg, ec_zadd, ec_zsub, ec_zmul, ec_zdivO, ec_em, ec_zltO, ec_zeqO, ec_zeq0, ec_qt, ec_qf, if_pos, if_neg, Int.add_zero, ec_aft_v, ec_aft_n, ec_rwE, ec_rwN, ec_rwP, ec_rwK, ec_rwS, ec_w_shpI, ec_w_shpL, ec_w_shpA, hD, a1]
      · rw [if_neg c3] at a1
        simp (disch := first | (simp only [ec_w_kI, ec_w_kL, ec_w_kA, ec_w_shpI, ec_w_shpL, ec_w_shpA, ec_isR_r, ec_01z, ec_01o, ec_01q, hD]; done) | omega | (simp only [ec_w_shpI, ec_w_shpL, ec_w_shpA, hD]; refine ec_zinO ?_; omega) | (refine ec_nzO ?_; omega)) only [ec_s60_0, ec_s60_1, ec_s60_2, ec_s60_3, ec_s60_4, ec_s60_5, ec_s60_6, ec_s60_9, ec_s60_10, ec_s60_11, ec_s60_14, ec_s60_15, ec_s60_16, ec_s60_19, ec_s60_20, ec_s60_21, ec_s60_24, ec_s60_25, ec_s60_28, ec_s60_31, ec_s60_32, ec_s60_33, ec_s60_36, ec_s60_37, ec_s60_40, ec_s60_43, ec_s60_44, ec_s60_46, ec_s60_49, ec_s60_50, ec_s60_51, ec_s60_52, ec_s60_53, ec_s60_56, ec_s60_59, ec_s60_60, ec_s60_62, ec_s60_65, ec_s60_66, ec_s60_67, ec_s60_68, ec_s60_69, ec_s60_72, ec_s60_75, ec_s60_76, ec_s60_78, ec_s60_81, ec_s60_82, ec_s60_83, ec_s60_86, ec_s60_89, ec_s60_90, ec_s60_92, ec_s60_95, ec_s60_96, ec_s60_97, ec_s60_100, ec_s60_103, ec_s60_104, ec_s60_106, ec_s60_109, ec_s60_110, ec_s60_111, ec_s60_114, ec_s60_116, ec_s60_119, ec_zn0, ec_zn1, ec_zn2, ec_zn3, ec_zn4, ec_zn5, ec_zn6, ec_zn7, ec_zn8, ec_zn9, ec_zn10, ec_zn12, ec_zn13, ec_zn14, ec_zn15, ec_zn16, ec_zn20, ec_zn30, ec_zn48, ec_zn99, ec_zn120, ec_zn127, ec_zn11, ec_zn31, ec_zn46, ec_zn57, ec_zn59, ec_zn63, ec_zn101, ec_zn107, ec_zn108, ec_zn110, ec_zn111, ec_zn115, ec_zn116, ec_zn119, ec_zn167, ec_zn185, ec_zn192, ec_zn215, ec_zn233, ec_zn699, ec_zn932, ec_zn999, ec_znF, ec_zneg, ec_zadd, ec_zsub, ec_zmul, ec_zdivO, ec_em, ec_zltO, ec_zeqO, ec_zeq0, ec_qt, ec_qf, if_pos, if_neg, Int.add_zero, ec_aft_v, ec_aft_n, ec_rwE, ec_rwN, ec_rwP, ec_rwK, ec_rwS, ec_w_shpI, ec_w_shpL, ec_w_shpA, hD, a1]
    · rw [if_neg c2, if_neg c2]
      by_cases c3 : a = 13
      · rw [if_pos c3, if_neg (by omega), if_neg (by omega)]
        refine ⟨ec_setI h B 10 (ec_i 1), ?_, R.lit, hD.O, by rw [ec_rwP (by omega), s1], by rw [ec_rwP (by omega), s2], ec_fg.refl.I (Or.inl (by omega))⟩
        have hD := And.intro b hT
        simp (disch := first | (simp only [ec_w_kI, ec_w_kL, ec_w_kA, ec_w_shpI, ec_w_shpL, ec_w_shpA, ec_isR_r, ec_01z, ec_01o, ec_01q, hD]; done) | omega | (simp only [ec_w_shpI, ec_w_shpL, ec_w_shpA, hD]; refine ec_zinO ?_; omega) | (refine ec_nzO ?_; omega)) only [ec_s60_0, ec_s60_1, ec_s60_2, ec_s60_3, ec_s60_4, ec_s60_5, ec_s60_6, ec_s60_9, ec_s60_10, ec_s60_11, ec_s60_14, ec_s60_15, ec_s60_16, ec_s60_19, ec_s60_20, ec_s60_21, ec_s60_24, ec_s60_25, ec_s60_28, ec_s60_31, ec_s60_32, ec_s60_33, ec_s60_36, ec_s60_37, ec_s60_40, ec_s60_43, ec_s60_44, ec_s60_46, ec_s60_49, ec_s60_50, ec_s60_51, ec_s60_52, ec_s60_53, ec_s60_56, ec_s60_59, ec_s60_60, ec_s60_62, ec_s60_65, ec_s60_66, ec_s60_67, ec_s60_68, ec_s60_69, ec_s60_72, ec_s60_75, ec_s60_76, ec_s60_78, ec_s60_81, ec_s60_82, ec_s60_83, ec_s60_86, ec_s60_89, ec_s60_90, ec_s60_92, ec_s60_95, ec_s60_96, ec_s60_97, ec_s60_100, ec_s60_103, ec_s60_104, ec_s60_106, ec_s60_109, ec_s60_110, ec_s60_111, ec_s60_114, ec_s60_116, ec_s60_119, ec_zn0, ec_zn1, ec_zn2, ec_zn3, ec_zn4, ec_zn5, ec_zn6, ec_zn7, ec_zn8, ec_zn9, ec_zn10, ec_zn12, ec_zn13, ec_zn14, ec_zn15, ec_zn16, ec_zn20, ec_zn30, ec_zn48, ec_zn99, ec_zn120, ec_zn127, ec_zn11, ec_zn31, ec_zn46, ec_zn57, ec_zn59, ec_zn63, ec_zn101, ec_zn107, ec_zn108, ec_zn110, ec_zn111, ec_zn115, ec_zn116, ec_zn119, ec_zn167, ec_zn185, ec_zn192, ec_zn215, ec_zn233, ec_zn699, ec_zn932, ec_zn999, ec_znF, ec_zneg, ec_zadd, ec_zsub, ec_zmul, ec_zdivO, ec_em, ec_zltO, ec_zeqO, ec_zeq0, ec_qt, ec_qf, if_pos, if_neg, Int.add_zero, ec_aft_v, ec_aft_n, ec_rwE, ec_rwN, ec_rwP, ec_rwK, ec_rwS, ec_w_shpI, ec_w_shpL, ec_w_shpA, hD]
      · rw [if_neg c3]
        by_cases c4 : a = 14
        · rw [if_pos c4, if_neg (by omega), if_neg (by omega)]
          refine ⟨ec_setI h B 10 (ec_i 0), ?_, R.lit, hD.O, by rw [ec_rwP (by omega), s1], by rw [ec_rwP (by omega), s2], ec_fg.refl.I (Or.inl (by omega))⟩
          have hD := And.intro b hT
          simp (disch := first | (simp only [ec_w_kI, ec_w_kL, ec_w_kA, ec_w_shpI, ec_w_shpL, ec_w_shpA, ec_isR_r, ec_01z, ec_01o, ec_01q, hD]; done) | omega | (simp only [ec_w_shpI, ec_w_shpL, ec_w_shpA, hD]; refine ec_zinO ?_; omega) | (refine ec_nzO ?_; omega)) only [ec_s60_0, ec_s60_1, ec_s60_2, ec_s60_3, ec_s60_4, ec_s60_5, ec_s60_6, ec_s60_9, ec_s60_10, ec_s60_11, ec_s60_14, ec_s60_15, ec_s60_16, ec_s60_19, ec_s60_20, ec_s60_21, ec_s60_24, ec_s60_25, ec_s60_28, ec_s60_31, ec_s60_32, ec_s60_33, ec_s60_36, ec_s60_37, ec_s60_40, ec_s60_43, ec_s60_44, ec_s60_46, ec_s60_49, ec_s60_50, ec_s60_51, ec_s60_52, ec_s60_53, ec_s60_56, ec_s60_59, ec_s60_60, ec_s60_62, ec_s60_65, ec_s60_66, ec_s60_67, ec_s60_68, ec_s60_69, ec_s60_72, ec_s60_75, ec_s60_76, ec_s60_78, ec_s60_81, ec_s60_82, ec_s60_83, ec_s60_86, ec_s60_89, ec_s60_90, ec_s60_92, ec_s60_95, ec_s60_96, ec_s60_97, ec_s60_100, ec_s60_103, ec_s60_104, ec_s60_106, ec_s60_109, ec_s60_110, ec_s60_111, ec_s60_114, ec_s60_116, ec_s60_119, ec_zn0, ec_zn1, ec_zn2, ec_zn3, ec_zn4, ec_zn5, ec_zn6, ec_zn7, ec_zn8, ec_zn9, ec_zn10, ec_zn12, ec_zn13, ec_zn14, ec_zn15, ec_zn16, ec_zn20, ec_zn30, ec_zn48, ec_zn99, ec_zn120, ec_zn127, ec_zn11, ec_zn31, ec_zn46, ec_zn57, ec_zn59, ec_zn63, ec_zn101, ec_zn107, ec_zn108, ec_zn110, ec_zn111, ec_zn115, ec_zn116, ec_zn119, ec_zn167, ec_zn185, ec_zn192, ec_zn215, ec_zn233, ec_zn699, ec_zn932, ec_zn999, ec_znF, ec_zneg, ec_zadd, ec_zsub, ec_zmul, ec_zdivO, ec_em, ec_zltO, ec_zeqO, ec_zeq0, ec_qt, ec_qf, if_pos, if_neg, Int.add_zero, ec_aft_v, ec_aft_n, ec_rwE, ec_rwN, ec_rwP, ec_rwK, ec_rwS, ec_w_shpI, ec_w_shpL, ec_w_shpA, hD]
        · rw [if_neg c4]
          by_cases c5 : a = 15
          · rw [if_pos c5, if_pos c5]
            have g0 := ec_c63s hD R w
            obtain ⟨h3, d1, d2, d3, d4⟩ := ec_c61s (x := ed_stn σ 3 (σ 6)) (y := 7) hT
            refine ⟨h3, ?_, R.fg d4 (fun q j h1 h2 y => by omega), hD.fg d4 (fun q j h1 h2 y => by omega), d2, d3, d4.mono (fun q j e => Or.inr e)⟩
            have hD := And.intro b hT
            simp (disch := first | (simp only [ec_w_kI, ec_w_kL, ec_w_kA, ec_w_shpI, ec_w_shpL, ec_w_shpA, ec_isR_r, ec_01z, ec_01o, ec_01q, hD]; done) | omega | (simp only [ec_w_shpI, ec_w_shpL, ec_w_shpA, hD]; refine ec_zinO ?_; omega) | (refine ec_nzO ?_; omega)) only [ec_s60_0, ec_s60_1, ec_s60_2, ec_s60_3, ec_s60_4, ec_s60_5, ec_s60_6, ec_s60_9, ec_s60_10, ec_s60_11, ec_s60_14, ec_s60_15, ec_s60_16, ec_s60_19, ec_s60_20, ec_s60_21, ec_s60_24, ec_s60_25, ec_s60_28, ec_s60_31, ec_s60_32, ec_s60_33, ec_s60_36, ec_s60_37, ec_s60_40, ec_s60_43, ec_s60_44, ec_s60_46, ec_s60_49, ec_s60_50, ec_s60_51, ec_s60_52, ec_s60_53, ec_s60_56, ec_s60_59, ec_s60_60, ec_s60_62, ec_s60_65, ec_s60_66, ec_s60_67, ec_s60_68, ec_s60_69, ec_s60_72, ec_s60_75, ec_s60_76, ec_s60_78, ec_s60_81, ec_s60_82, ec_s60_83, ec_s60_86, ec_s60_89, ec_s60_90, ec_s60_92, ec_s60_95, ec_s60_96, ec_s60_97, ec_s60_100, ec_s60_103, ec_s60_104, ec_s60_106, ec_s60_109, ec_s60_110, ec_s60_111, ec_s60_114, ec_s60_116, ec_s60_119, ec_zn0, ec_zn1, ec_zn2, ec_zn3, ec_zn4, ec_zn5, ec_zn6, ec_zn7, ec_zn8, ec_zn9, ec_zn10, ec_zn12, ec_zn13, ec_zn14, ec_zn15, ec_zn16, ec_zn20, ec_zn30, ec_zn48, ec_zn99, ec_zn120, ec_zn127, ec_zn11, ec_zn31, ec_zn46, ec_zn57, ec_zn59, ec_zn63, ec_zn101, ec_zn107, ec_zn108, ec_zn110, ec_zn111, ec_zn115, ec_zn116, ec_zn119, ec_zn167, ec_zn185, ec_zn192, ec_zn215, ec_zn233, ec_zn699, ec_zn932, ec_zn999, ec_znF, ec_zneg, ec_zadd, ec_zsub, ec_zmul, ec_zdivO, ec_em, ec_zltO, ec_zeqO, ec_zeq0, ec_qt, ec_qf, if_pos, if_neg, Int.add_zero, ec_aft_v, ec_aft_n, ec_rwE, ec_rwN, ec_rwP, ec_rwK, ec_rwS, ec_w_shpI, ec_w_shpL, ec_w_shpA, hD, g0, d1]
          · rw [if_neg c5, if_neg c5]
            refine ⟨h, ?_, R, hD, s1, s2, ec_fg.refl⟩
            have hD := And.intro b hT
            simp (disch := first | (simp only [ec_w_kI, ec_w_kL, ec_w_kA, ec_w_shpI, ec_w_shpL, ec_w_shpA, ec_isR_r, ec_01z, ec_01o, ec_01q, hD]; done) | omega | (simp only [ec_w_shpI, ec_w_shpL, ec_w_shpA, hD]; refine ec_zinO ?_; omega) | (refine ec_nzO ?_; omega)) only [ec_s60_0, ec_s60_1, ec_s60_2, ec_s60_3, ec_s60_4, ec_s60_5, ec_s60_6, ec_s60_9, ec_s60_10, ec_s60_11, ec_s60_14, ec_s60_15, ec_s60_16, ec_s60_19, ec_s60_20, ec_s60_21, ec_s60_24, ec_s60_25, ec_s60_28, ec_s60_31, ec_s60_32, ec_s60_33, ec_s60_36, ec_s60_37, ec_s60_40, ec_s60_43, ec_s60_44, ec_s60_46, ec_s60_49, ec_s60_50, ec_s60_51, ec_s60_52, ec_s60_53, ec_s60_56, ec_s60_59, ec_s60_60, ec_s60_62, ec_s60_65, ec_s60_66, ec_s60_67, ec_s60_68, ec_s60_69, ec_s60_72, ec_s60_75, ec_s60_76, ec_s60_78, ec_s60_81, ec_s60_82, ec_s60_83, ec_s60_86, ec_s60_89, ec_s60_90, ec_s60_92, ec_s60_95, ec_s60_96, ec_s60_97, ec_s60_100, ec_s60_103, ec_s60_104, ec_s60_106, ec_s60_109, ec_s60_110, ec_s60_111, ec_s60_114, ec_s60_116, ec_s60_119, ec_zn0, ec_zn1, ec_zn2, ec_zn3, ec_zn4, ec_zn5, ec_zn6, ec_zn7, ec_zn8, ec_zn9, ec_zn10, ec_zn12, ec_zn13, ec_zn14, ec_zn15, ec_zn16, ec_zn20, ec_zn30, ec_zn48, ec_zn99, ec_zn120, ec_zn127, ec_zn11, ec_zn31, ec_zn46, ec_zn57, ec_zn59, ec_zn63, ec_zn101, ec_zn107, ec_zn108, ec_zn110, ec_zn111, ec_zn115, ec_zn116, ec_zn119, ec_zn167, ec_zn185, ec_zn192, ec_zn215, ec_zn233, ec_zn699, ec_zn932, ec_zn999, ec_znF, ec_zneg, ec_zadd, ec_zsub, ec_zmul, ec_zdivO, ec_em, ec_zltO, ec_zeqO, ec_zeq0, ec_qt, ec_qf, if_pos, if_neg, Int.add_zero, ec_aft_v, ec_aft_n, ec_rwE, ec_rwN, ec_rwP, ec_rwK, ec_rwS, ec_w_shpI, ec_w_shpL, ec_w_shpA, hD]
