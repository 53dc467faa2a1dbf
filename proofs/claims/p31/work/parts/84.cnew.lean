/-! The class's face: new things. -/
def ed_x3 (k : Int) : Nat := if k = 1 then 2 else if k = 2 then 0 else 1
def ed_x2 (k : Int) : Nat := if k = 1 then 0 else 1
theorem ed_CL.fin {h h1 h2 : ec_Hp} {σ τ : ec_Sg} {n : Int} {p : Int → ec_Sg} {L : Int} {T : Int → Int} (C : ed_CL h1 σ n p L T) (f0 : ec_fg ed_Hf h h1) (f : ec_fg (fun q _ => 1 ≤ q ∧ q ≤ 10) h1 h2) (D : ec_DN h2 1) (R : ec_RC h2 1 τ) (w : ec_WF τ) : ed_CL h2 τ n p L T ∧ ec_fg ed_Fc h h2 :=
  ⟨C.s f D R w, (f0.mono (fun q j e => by omega)).trans (f.mono (fun q j e => by omega))⟩
/-- the kinds of the class's objects -/
def ed_BU (h : ec_Hp) : Prop := (((ec_isK h 0 6 = true ∧ (ec_shp h 0).2.2 0 = .ref 1 ∧ (ec_shp h 0).2.2 1 = .ref 11 ∧ (ec_shp h 0).2.2 2 = .ref 21 ∧ (ec_shp h 0).2.2 3 = .ref 63 ∧ (ec_shp h 0).2.2 4 = .ref 66 ∧ (ec_shp h 0).2.2 5 = .ref 70) ∧ (ec_isK h 70 0 = true ∧ (ec_shp h 70).2.2 0 = .ref 71) ∧ (ec_isK h 71 18 = true ∧ (ec_shp h 71).2.1 = 120)) ∧
    (ec_isK h 1 1 = true ∧ (ec_shp h 1).2.2 0 = .ref 2 ∧ (ec_shp h 1).2.2 1 = .ref 3 ∧ (ec_shp h 1).2.2 2 = .ref 5 ∧ (ec_shp h 1).2.2 3 = .ref 7 ∧ (ec_shp h 1).2.2 4 = .ref 9 ∧ ec_isK h 3 4 = true ∧ ec_isK h 5 4 = true ∧ ec_isK h 7 4 = true ∧ ec_isK h 9 4 = true)) ∧ (ec_isK h 21 2 = true ∧ ec_isK h 63 3 = true ∧ ec_isK h 66 5 = true ∧ ec_isK h 11 1 = true)
theorem ed_BU.of {h h' : ec_Hp} (b : ed_BU h) (e : h'.1 = h.1) : ed_BU h' := by
  have e : ∀ q, ec_shp h' q = ec_shp h q := fun q => by show ec_nth _ h'.1 q = ec_nth _ h.1 q; rw [e]
  unfold ed_BU ec_isK at b ⊢
  simp only [e]
  exact b
theorem ed_CL.u {h : ec_Hp} {σ : ec_Sg} {n : Int} {p : Int → ec_Sg} {L : Int} {T : Int → Int} (C : ed_CL h σ n p L T) : ed_BU h := C.b
/-- one value of a table is set -/
theorem ec_c49s {h : ec_Hp} {t q M w : Nat} {a b v : Int} (hT : ec_TB h t q M w) (ha : 0 ≤ a ∧ a < M) (hb : 0 ≤ b ∧ b < w) (hM : M ≤ 10 ∧ w ≤ 8) : ∃ h', ec_om 49 0 [.ref t, .int (ec_i a), .int (ec_i b), .int (ec_i v), .double 0] [] h = some (.inl none, h') ∧ (∀ k : Nat, (k : Int) = a * w + b → h'.2.1 q k = ec_i v) ∧ ec_TB h' t q M w ∧ ec_fg (fun x j => x = q ∧ (j : Int) = a * w + b) h h' := by
  have ix := ec_ix ha hb hM
  refine ⟨_, ec_c49 hT ha hb hM, fun k hk => ed_rE ⟨rfl, by omega⟩, hT.V, ec_fg.refl.I (by exact ⟨rfl, by omega⟩)⟩
theorem ec_c52s {h : ec_Hp} {t q M w : Nat} {a z : Int} (hT : ec_TB h t q M w) (ha : 0 ≤ a ∧ a < M) (hw : 2 ≤ w) (hM : M ≤ 10 ∧ w ≤ 8) (hz : 0 ≤ z ∧ z < 48) : ∃ h', ec_om 52 0 [.ref t, .int (ec_i a), .int (ec_i z)] [] h = some (.inl none, h') ∧ (∀ k : Nat, (k : Int) = a * w → h'.2.1 q k = ec_i (z % 8)) ∧ (∀ k : Nat, (k : Int) = a * w + 1 → h'.2.1 q k = ec_i (z / 8)) ∧ ec_TB h' t q M w ∧ ec_fg (fun x j => x = q ∧ ((j : Int) = a * w ∨ (j : Int) = a * w + 1)) h h' := by
  have ix := ec_ix ha (b := 0) (by omega) hM
  have iy := ec_ix ha (b := 1) (by omega) hM
  refine ⟨_, ec_c52 hT ha hw hM (by omega), fun k hk => ?_, fun k hk => ed_rE ⟨rfl, by omega⟩, hT.V.V, (ec_fg.refl.I (by exact ⟨rfl, Or.inl (by omega)⟩)).I (by exact ⟨rfl, Or.inr (by omega)⟩)⟩
  rw [ed_rN (fun y => by have := y.2; omega)]
  exact ed_rE ⟨rfl, by omega⟩
theorem ec_RC.nd {h h' : ec_Hp} {B : Nat} {σ : ec_Sg} (R : ec_RC h B σ) (w1 : ed_ct σ) (c0 : σ 2 < 10) {d0 d1 d2 d3 d4 d5 : Int} (a : ec_fg (fun q j => q = B + 2 ∧ j = 3 ∨ q = B + 3 ∧ σ 2 * 6 ≤ (j : Int) ∧ (j : Int) < σ 2 * 6 + 6) h h') (b : h'.2.1 (B + 2) 3 = ec_i (σ 2 + 1)) (v0 : ∀ k : Nat, (k : Int) = σ 2 * 6 → h'.2.1 (B + 3) k = ec_i d0) (v1 : ∀ k : Nat, (k : Int) = σ 2 * 6 + 1 → h'.2.1 (B + 3) k = ec_i d1) (v2 : ∀ k : Nat, (k : Int) = σ 2 * 6 + 2 → h'.2.1 (B + 3) k = ec_i d2) (v3 : ∀ k : Nat, (k : Int) = σ 2 * 6 + 3 → h'.2.1 (B + 3) k = ec_i d3) (v4 : ∀ k : Nat, (k : Int) = σ 2 * 6 + 4 → h'.2.1 (B + 3) k = ec_i d4) (v5 : ∀ k : Nat, (k : Int) = σ 2 * 6 + 5 → h'.2.1 (B + 3) k = ec_i d5) : ec_RC h' B (ec_su (ec_su (ec_su (ec_su (ec_su (ec_su (ec_su σ (107 + 6 * σ 2) d0) (107 + 6 * σ 2 + 1) d1) (107 + 6 * σ 2 + 2) d2) (107 + 6 * σ 2 + 3) d3) (107 + 6 * σ 2 + 4) d4) (107 + 6 * σ 2 + 5) d5) 2 (σ 2 + 1)) := by
  have e : ∀ q j : Nat, ¬ (q = B + 2 ∧ j = 3 ∨ q = B + 3 ∧ σ 2 * 6 ≤ (j : Int) ∧ (j : Int) < σ 2 * 6 + 6) → h'.2.1 q j = h.2.1 q j := a.2
  obtain ⟨r1, r2, r3, r4, r5, r6, r7⟩ := R
  unfold ed_ct at w1
  refine ⟨?_, ?_, ?_, ?_, ?_, ?_, ?_⟩
  · simp (disch := omega) only [e, ec_suN]; exact r1
  · simp (disch := omega) only [b, e, ec_suN, ec_suE]; exact ⟨trivial, r2.2⟩
  · intro z' d k' hz hd hk'
    rw [ed_bd_su hz (by omega), ed_bd_su hz (by omega), ed_bd_su hz (by omega), ed_bd_su hz (by omega), ed_bd_su hz (by omega), ed_bd_su hz (by omega), ed_bd_su hz (by omega)]
    rw [e _ _ (by omega)]
    exact r3 z' d k' hz hd hk'
  · intro n' j' k' hn' hj' hk'
    simp (disch := omega) only [ec_suE] at hn'
    by_cases q : n' = σ 2
    · rcases (show j' = 0 ∨ j' = 1 ∨ j' = 2 ∨ j' = 3 ∨ j' = 4 ∨ j' = 5 by omega) with q2 | q2 | q2 | q2 | q2 | q2
      · simp (disch := omega) only [ec_suE, ec_suN]; exact v0 k' (by omega)
      · simp (disch := omega) only [ec_suE, ec_suN]; exact v1 k' (by omega)
      · simp (disch := omega) only [ec_suE, ec_suN]; exact v2 k' (by omega)
      · simp (disch := omega) only [ec_suE, ec_suN]; exact v3 k' (by omega)
      · simp (disch := omega) only [ec_suE, ec_suN]; exact v4 k' (by omega)
      · simp (disch := omega) only [ec_suE, ec_suN]; exact v5 k' (by omega)
    · simp (disch := omega) only [e, ec_suN]; exact r4 n' j' k' (by omega) hj' hk'
  · intro t' k' ht'; simp (disch := omega) only [ec_suN] at ht'; refine ⟨fun hk' => ?_, fun hk' => ?_, fun hk' => ?_, fun hk' => ?_⟩ <;> simp (disch := omega) only [e, ec_suN]; exact (r5 t' k' ht').1 hk'; exact (r5 t' k' ht').2.1 hk'; exact (r5 t' k' ht').2.2.1 hk'; exact (r5 t' k' ht').2.2.2 hk'
  · intro t' k' ht'; simp (disch := omega) only [ec_suN] at ht'; refine ⟨fun hk' => ?_, fun hk' => ?_, fun hk' => ?_, fun hk' => ?_, fun hk' => ?_, fun hk' => ?_, fun hk' => ?_⟩ <;> simp (disch := omega) only [e, ec_suN]; exact (r6 t' k' ht').1 hk'; exact (r6 t' k' ht').2.1 hk'; exact (r6 t' k' ht').2.2.1 hk'; exact (r6 t' k' ht').2.2.2.1 hk'; exact (r6 t' k' ht').2.2.2.2.1 hk'; exact (r6 t' k' ht').2.2.2.2.2.1 hk'; exact (r6 t' k' ht').2.2.2.2.2.2 hk'
  · intro t' k' ht'; simp (disch := omega) only [ec_suN] at ht'; refine ⟨fun hk' => ?_, fun hk' => ?_, fun hk' => ?_, fun hk' => ?_⟩ <;> simp (disch := omega) only [e, ec_suN]; exact (r7 t' k' ht').1 hk'; exact (r7 t' k' ht').2.1 hk'; exact (r7 t' k' ht').2.2.1 hk'; exact (r7 t' k' ht').2.2.2 hk'
theorem ec_RC.nt {h h' : ec_Hp} {B : Nat} {σ : ec_Sg} (R : ec_RC h B σ) (w1 : ed_ct σ) (c0 : σ 3 < 6) {z f l : Int} (a : ec_fg (fun q j => q = B + 4 ∧ j = 3 ∨ q = B + 5 ∧ σ 3 * 4 ≤ (j : Int) ∧ (j : Int) < σ 3 * 4 + 4) h h') (b : h'.2.1 (B + 4) 3 = ec_i (σ 3 + 1)) (v0 : ∀ k : Nat, (k : Int) = σ 3 * 4 → h'.2.1 (B + 5) k = ec_i (z % 8)) (v1 : ∀ k : Nat, (k : Int) = σ 3 * 4 + 1 → h'.2.1 (B + 5) k = ec_i (z / 8)) (v2 : ∀ k : Nat, (k : Int) = σ 3 * 4 + 2 → h'.2.1 (B + 5) k = ec_i f) (v3 : ∀ k : Nat, (k : Int) = σ 3 * 4 + 3 → h'.2.1 (B + 5) k = ec_i l) : ec_RC h' B (ec_su (ec_su (ec_su (ec_su σ (167 + 3 * σ 3) z) (167 + 3 * σ 3 + 1) f) (167 + 3 * σ 3 + 2) l) 3 (σ 3 + 1)) := by
  have e : ∀ q j : Nat, ¬ (q = B + 4 ∧ j = 3 ∨ q = B + 5 ∧ σ 3 * 4 ≤ (j : Int) ∧ (j : Int) < σ 3 * 4 + 4) → h'.2.1 q j = h.2.1 q j := a.2
  obtain ⟨r1, r2, r3, r4, r5, r6, r7⟩ := R
  unfold ed_ct at w1
  refine ⟨?_, ?_, ?_, ?_, ?_, ?_, ?_⟩
  · simp (disch := omega) only [e, ec_suN]; exact r1
  · simp (disch := omega) only [b, e, ec_suN, ec_suE]; exact ⟨r2.1, trivial, r2.2.2⟩
  · intro z' d k' hz hd hk'
    rw [ed_bd_su hz (by omega), ed_bd_su hz (by omega), ed_bd_su hz (by omega), ed_bd_su hz (by omega)]
    rw [e _ _ (by omega)]
    exact r3 z' d k' hz hd hk'
  · intro n' j' k' hn' hj' hk'; simp (disch := omega) only [ec_suN] at hn'; simp (disch := omega) only [e, ec_suN]; exact r4 n' j' k' hn' hj' hk'
  · intro t' k' ht'
    simp (disch := omega) only [ec_suE] at ht'
    by_cases q : t' = σ 3
    · refine ⟨fun hk' => ?_, fun hk' => ?_, fun hk' => ?_, fun hk' => ?_⟩
      · simp (disch := omega) only [ec_suE, ec_suN]; exact v0 k' (by omega)
      · simp (disch := omega) only [ec_suE, ec_suN]; exact v1 k' (by omega)
      · simp (disch := omega) only [ec_suE, ec_suN]; exact v2 k' (by omega)
      · simp (disch := omega) only [ec_suE, ec_suN]; exact v3 k' (by omega)
    · refine ⟨fun hk' => ?_, fun hk' => ?_, fun hk' => ?_, fun hk' => ?_⟩
      · simp (disch := omega) only [e, ec_suN]; exact (r5 t' k' (by omega)).1 hk'
      · simp (disch := omega) only [e, ec_suN]; exact (r5 t' k' (by omega)).2.1 hk'
      · simp (disch := omega) only [e, ec_suN]; exact (r5 t' k' (by omega)).2.2.1 hk'
      · simp (disch := omega) only [e, ec_suN]; exact (r5 t' k' (by omega)).2.2.2 hk'
  · intro t' k' ht'; simp (disch := omega) only [ec_suN] at ht'; refine ⟨fun hk' => ?_, fun hk' => ?_, fun hk' => ?_, fun hk' => ?_, fun hk' => ?_, fun hk' => ?_, fun hk' => ?_⟩ <;> simp (disch := omega) only [e, ec_suN]; exact (r6 t' k' ht').1 hk'; exact (r6 t' k' ht').2.1 hk'; exact (r6 t' k' ht').2.2.1 hk'; exact (r6 t' k' ht').2.2.2.1 hk'; exact (r6 t' k' ht').2.2.2.2.1 hk'; exact (r6 t' k' ht').2.2.2.2.2.1 hk'; exact (r6 t' k' ht').2.2.2.2.2.2 hk'
  · intro t' k' ht'; simp (disch := omega) only [ec_suN] at ht'; refine ⟨fun hk' => ?_, fun hk' => ?_, fun hk' => ?_, fun hk' => ?_⟩ <;> simp (disch := omega) only [e, ec_suN]; exact (r7 t' k' ht').1 hk'; exact (r7 t' k' ht').2.1 hk'; exact (r7 t' k' ht').2.2.1 hk'; exact (r7 t' k' ht').2.2.2 hk'
theorem ec_RC.nm {h h' : ec_Hp} {B : Nat} {σ : ec_Sg} (R : ec_RC h B σ) (w1 : ed_ct σ) (c0 : σ 4 < 6) {z f l u : Int} (a : ec_fg (fun q j => q = B + 6 ∧ j = 3 ∨ q = B + 7 ∧ σ 4 * 8 ≤ (j : Int) ∧ (j : Int) < σ 4 * 8 + 8) h h') (b : h'.2.1 (B + 6) 3 = ec_i (σ 4 + 1)) (v0 : ∀ k : Nat, (k : Int) = σ 4 * 8 → h'.2.1 (B + 7) k = ec_i (z % 8)) (v1 : ∀ k : Nat, (k : Int) = σ 4 * 8 + 1 → h'.2.1 (B + 7) k = ec_i (z / 8)) (v2 : ∀ k : Nat, (k : Int) = σ 4 * 8 + 2 → h'.2.1 (B + 7) k = ec_i f) (v3 : ∀ k : Nat, (k : Int) = σ 4 * 8 + 3 → h'.2.1 (B + 7) k = ec_i l) (v4 : ∀ k : Nat, (k : Int) = σ 4 * 8 + 4 → h'.2.1 (B + 7) k = ec_i (-1)) (v5 : ∀ k : Nat, (k : Int) = σ 4 * 8 + 5 → h'.2.1 (B + 7) k = ec_i (-1)) (v7 : ∀ k : Nat, (k : Int) = σ 4 * 8 + 7 → h'.2.1 (B + 7) k = ec_i u) : ec_RC h' B (ec_su (ec_su (ec_su (ec_su (ec_su (ec_su σ (185 + 5 * σ 4) z) (185 + 5 * σ 4 + 1) f) (185 + 5 * σ 4 + 2) l) (185 + 5 * σ 4 + 3) (-1)) (185 + 5 * σ 4 + 4) u) 4 (σ 4 + 1)) := by
  have e : ∀ q j : Nat, ¬ (q = B + 6 ∧ j = 3 ∨ q = B + 7 ∧ σ 4 * 8 ≤ (j : Int) ∧ (j : Int) < σ 4 * 8 + 8) → h'.2.1 q j = h.2.1 q j := a.2
  obtain ⟨r1, r2, r3, r4, r5, r6, r7⟩ := R
  unfold ed_ct at w1
  refine ⟨?_, ?_, ?_, ?_, ?_, ?_, ?_⟩
  · simp (disch := omega) only [e, ec_suN]; exact r1
  · simp (disch := omega) only [b, e, ec_suN, ec_suE]; exact ⟨r2.1, r2.2.1, trivial, r2.2.2.2⟩
  · intro z' d k' hz hd hk'
    rw [ed_bd_su hz (by omega), ed_bd_su hz (by omega), ed_bd_su hz (by omega), ed_bd_su hz (by omega), ed_bd_su hz (by omega), ed_bd_su hz (by omega)]
    rw [e _ _ (by omega)]
    exact r3 z' d k' hz hd hk'
  · intro n' j' k' hn' hj' hk'; simp (disch := omega) only [ec_suN] at hn'; simp (disch := omega) only [e, ec_suN]; exact r4 n' j' k' hn' hj' hk'
  · intro t' k' ht'; simp (disch := omega) only [ec_suN] at ht'; refine ⟨fun hk' => ?_, fun hk' => ?_, fun hk' => ?_, fun hk' => ?_⟩ <;> simp (disch := omega) only [e, ec_suN]; exact (r5 t' k' ht').1 hk'; exact (r5 t' k' ht').2.1 hk'; exact (r5 t' k' ht').2.2.1 hk'; exact (r5 t' k' ht').2.2.2 hk'
  · intro t' k' ht'
    simp (disch := omega) only [ec_suE] at ht'
    by_cases q : t' = σ 4
    · refine ⟨fun hk' => ?_, fun hk' => ?_, fun hk' => ?_, fun hk' => ?_, fun hk' => ?_, fun hk' => ?_, fun hk' => ?_⟩
      · simp (disch := omega) only [ec_suE, ec_suN]; exact v0 k' (by omega)
      · simp (disch := omega) only [ec_suE, ec_suN]; exact v1 k' (by omega)
      · simp (disch := omega) only [ec_suE, ec_suN]; exact v2 k' (by omega)
      · simp (disch := omega) only [ec_suE, ec_suN]; exact v3 k' (by omega)
      · simp (disch := omega) only [ec_suE, ec_suN]; exact v4 k' (by omega)
      · simp (disch := omega) only [ec_suE, ec_suN]; exact v5 k' (by omega)
      · simp (disch := omega) only [ec_suE, ec_suN]; exact v7 k' (by omega)
    · refine ⟨fun hk' => ?_, fun hk' => ?_, fun hk' => ?_, fun hk' => ?_, fun hk' => ?_, fun hk' => ?_, fun hk' => ?_⟩
      · simp (disch := omega) only [e, ec_suN]; exact (r6 t' k' (by omega)).1 hk'
      · simp (disch := omega) only [e, ec_suN]; exact (r6 t' k' (by omega)).2.1 hk'
      · simp (disch := omega) only [e, ec_suN]; exact (r6 t' k' (by omega)).2.2.1 hk'
      · simp (disch := omega) only [e, ec_suN]; exact (r6 t' k' (by omega)).2.2.2.1 hk'
      · simp (disch := omega) only [e, ec_suN]; exact (r6 t' k' (by omega)).2.2.2.2.1 hk'
      · simp (disch := omega) only [e, ec_suN]; exact (r6 t' k' (by omega)).2.2.2.2.2.1 hk'
      · simp (disch := omega) only [e, ec_suN]; exact (r6 t' k' (by omega)).2.2.2.2.2.2 hk'
  · intro t' k' ht'; simp (disch := omega) only [ec_suN] at ht'; refine ⟨fun hk' => ?_, fun hk' => ?_, fun hk' => ?_, fun hk' => ?_⟩ <;> simp (disch := omega) only [e, ec_suN]; exact (r7 t' k' ht').1 hk'; exact (r7 t' k' ht').2.1 hk'; exact (r7 t' k' ht').2.2.1 hk'; exact (r7 t' k' ht').2.2.2 hk'
theorem ec_RC.np {h h' : ec_Hp} {B : Nat} {σ : ec_Sg} (R : ec_RC h B σ) (w1 : ed_ct σ) (c0 : σ 5 < 6) {z f l : Int} (a : ec_fg (fun q j => q = B + 8 ∧ j = 3 ∨ q = B + 9 ∧ σ 5 * 4 ≤ (j : Int) ∧ (j : Int) < σ 5 * 4 + 4) h h') (b : h'.2.1 (B + 8) 3 = ec_i (σ 5 + 1)) (v0 : ∀ k : Nat, (k : Int) = σ 5 * 4 → h'.2.1 (B + 9) k = ec_i (z % 8)) (v1 : ∀ k : Nat, (k : Int) = σ 5 * 4 + 1 → h'.2.1 (B + 9) k = ec_i (z / 8)) (v2 : ∀ k : Nat, (k : Int) = σ 5 * 4 + 2 → h'.2.1 (B + 9) k = ec_i f) (v3 : ∀ k : Nat, (k : Int) = σ 5 * 4 + 3 → h'.2.1 (B + 9) k = ec_i l) : ec_RC h' B (ec_su (ec_su (ec_su (ec_su σ (215 + 3 * σ 5) z) (215 + 3 * σ 5 + 1) f) (215 + 3 * σ 5 + 2) l) 5 (σ 5 + 1)) := by
  have e : ∀ q j : Nat, ¬ (q = B + 8 ∧ j = 3 ∨ q = B + 9 ∧ σ 5 * 4 ≤ (j : Int) ∧ (j : Int) < σ 5 * 4 + 4) → h'.2.1 q j = h.2.1 q j := a.2
  obtain ⟨r1, r2, r3, r4, r5, r6, r7⟩ := R
  unfold ed_ct at w1
  refine ⟨?_, ?_, ?_, ?_, ?_, ?_, ?_⟩
  · simp (disch := omega) only [e, ec_suN]; exact r1
  · simp (disch := omega) only [b, e, ec_suN, ec_suE]; exact ⟨r2.1, r2.2.1, r2.2.2.1, trivial⟩
  · intro z' d k' hz hd hk'
    rw [ed_bd_su hz (by omega), ed_bd_su hz (by omega), ed_bd_su hz (by omega), ed_bd_su hz (by omega)]
    rw [e _ _ (by omega)]
    exact r3 z' d k' hz hd hk'
  · intro n' j' k' hn' hj' hk'; simp (disch := omega) only [ec_suN] at hn'; simp (disch := omega) only [e, ec_suN]; exact r4 n' j' k' hn' hj' hk'
  · intro t' k' ht'; simp (disch := omega) only [ec_suN] at ht'; refine ⟨fun hk' => ?_, fun hk' => ?_, fun hk' => ?_, fun hk' => ?_⟩ <;> simp (disch := omega) only [e, ec_suN]; exact (r5 t' k' ht').1 hk'; exact (r5 t' k' ht').2.1 hk'; exact (r5 t' k' ht').2.2.1 hk'; exact (r5 t' k' ht').2.2.2 hk'
  · intro t' k' ht'; simp (disch := omega) only [ec_suN] at ht'; refine ⟨fun hk' => ?_, fun hk' => ?_, fun hk' => ?_, fun hk' => ?_, fun hk' => ?_, fun hk' => ?_, fun hk' => ?_⟩ <;> simp (disch := omega) only [e, ec_suN]; exact (r6 t' k' ht').1 hk'; exact (r6 t' k' ht').2.1 hk'; exact (r6 t' k' ht').2.2.1 hk'; exact (r6 t' k' ht').2.2.2.1 hk'; exact (r6 t' k' ht').2.2.2.2.1 hk'; exact (r6 t' k' ht').2.2.2.2.2.1 hk'; exact (r6 t' k' ht').2.2.2.2.2.2 hk'
  · intro t' k' ht'
    simp (disch := omega) only [ec_suE] at ht'
    by_cases q : t' = σ 5
    · refine ⟨fun hk' => ?_, fun hk' => ?_, fun hk' => ?_, fun hk' => ?_⟩
      · simp (disch := omega) only [ec_suE, ec_suN]; exact v0 k' (by omega)
      · simp (disch := omega) only [ec_suE, ec_suN]; exact v1 k' (by omega)
      · simp (disch := omega) only [ec_suE, ec_suN]; exact v2 k' (by omega)
      · simp (disch := omega) only [ec_suE, ec_suN]; exact v3 k' (by omega)
    · refine ⟨fun hk' => ?_, fun hk' => ?_, fun hk' => ?_, fun hk' => ?_⟩
      · simp (disch := omega) only [e, ec_suN]; exact (r7 t' k' (by omega)).1 hk'
      · simp (disch := omega) only [e, ec_suN]; exact (r7 t' k' (by omega)).2.1 hk'
      · simp (disch := omega) only [e, ec_suN]; exact (r7 t' k' (by omega)).2.2.1 hk'
      · simp (disch := omega) only [e, ec_suN]; exact (r7 t' k' (by omega)).2.2.2 hk'
/-- a border is set -/
theorem ed_bp_eq {σ : ec_Sg} (w : ec_WF σ) {z d z' d' : Int} (hz : ec_ing σ z) (hd : 0 ≤ d ∧ d < 4) (hb : ec_hb σ z d) (hz' : ec_ing σ z') (hd' : 0 ≤ d' ∧ d' < 4) (hb' : ec_hb σ z' d') (e : ec_bp z' d' = ec_bp z d) : (z' = z ∧ d' = d) ∨ (z' = ec_nb z d ∧ d' = (d + 2) % 4) := by
  have w := w.1
  unfold ec_ing at hz hz'
  unfold ec_hb at hb hb'
  unfold ec_bp at e
  unfold ec_nb
  rcases (show d = 0 ∨ d = 1 ∨ d = 2 ∨ d = 3 by omega) with rfl | rfl | rfl | rfl <;> rcases (show d' = 0 ∨ d' = 1 ∨ d' = 2 ∨ d' = 3 by omega) with rfl | rfl | rfl | rfl <;> simp (disch := decide) only [if_pos, if_neg, and_true] at e ⊢ <;> omega
theorem ec_RC.bord {h : ec_Hp} {B : Nat} {σ : ec_Sg} (R : ec_RC h B σ) (w : ec_WF σ) {z d v : Int} (hz : ec_ing σ z) (hd : 0 ≤ d ∧ d < 4) (hb : ec_hb σ z d) : ec_RC (ec_setI (ec_setI h (B + 1) (z * 4 + d).toNat (ec_i v)) (B + 1) (ec_nb z d * 4 + (d + 2) % 4).toNat (ec_i v)) B (ec_su σ (ec_bp z d) v) := by
  have w1 := w.1
  have br := ed_bp_rg hz.1 hb
  have op := ed_opp w hz hd hb
  have o1 := op.1.1
  have z1 := hz.1
  have dm : 0 ≤ (d + 2) % 4 ∧ (d + 2) % 4 < 4 := by omega
  obtain ⟨r1, r2, r3, r4, r5, r6, r7⟩ := R
  have tbd : ∀ z' d' : Int, ed_bd (ec_su σ (ec_bp z d) v) z' d' = if ec_ing σ z' ∧ ec_hb σ z' d' then ec_su σ (ec_bp z d) v (ec_bp z' d') else -1 := fun z' d' => by
    unfold ed_bd ec_ing ec_hb
    rw [ec_suN (by omega), ec_suN (by omega)]
  refine ⟨?_, ?_, ?_, ?_, ?_, ?_, ?_⟩
  · simp (disch := omega) only [ed_rN, ec_suN]; exact r1
  · simp (disch := omega) only [ed_rN, ec_suN]; exact r2
  · intro z' d' k' hz' hd' hk'
    rw [tbd]
    by_cases q1 : z' = z ∧ d' = d
    · rw [q1.1, q1.2, if_pos ⟨hz, hb⟩, ec_suE rfl]
      have hk : k' = (z * 4 + d).toNat := by omega
      by_cases q2 : k' = (ec_nb z d * 4 + (d + 2) % 4).toNat
      · exact ed_rE ⟨rfl, q2⟩
      · rw [ed_rN (fun y => q2 y.2)]
        exact ed_rE ⟨rfl, hk⟩
    · by_cases q2 : z' = ec_nb z d ∧ d' = (d + 2) % 4
      · rw [q2.1, q2.2, if_pos ⟨op.1, op.2.1⟩, ec_suE op.2.2.1]
        exact ed_rE ⟨rfl, by omega⟩
      · rw [ed_rN (fun y => by have := y.2; omega), ed_rN (fun y => by have := y.2; omega), r3 z' d' k' hz' hd' hk']
        unfold ed_bd
        by_cases q3 : ec_ing σ z' ∧ ec_hb σ z' d'
        · rw [if_pos q3, if_pos q3, ec_suN]
          intro e
          rcases ed_bp_eq w hz hd hb q3.1 hd' q3.2 e with y | y
          · exact q1 y
          · exact q2 y
        · rw [if_neg q3, if_neg q3]
  · intro n' j' k' hn' hj' hk'; simp (disch := omega) only [ec_suN] at hn'; simp (disch := omega) only [ed_rN, ec_suN]; exact r4 n' j' k' hn' hj' hk'
  · intro t' k' ht'; simp (disch := omega) only [ec_suN] at ht'; refine ⟨fun hk' => ?_, fun hk' => ?_, fun hk' => ?_, fun hk' => ?_⟩ <;> simp (disch := omega) only [ed_rN, ec_suN]; exact (r5 t' k' ht').1 hk'; exact (r5 t' k' ht').2.1 hk'; exact (r5 t' k' ht').2.2.1 hk'; exact (r5 t' k' ht').2.2.2 hk'
  · intro t' k' ht'; simp (disch := omega) only [ec_suN] at ht'; refine ⟨fun hk' => ?_, fun hk' => ?_, fun hk' => ?_, fun hk' => ?_, fun hk' => ?_, fun hk' => ?_, fun hk' => ?_⟩ <;> simp (disch := omega) only [ed_rN, ec_suN]; exact (r6 t' k' ht').1 hk'; exact (r6 t' k' ht').2.1 hk'; exact (r6 t' k' ht').2.2.1 hk'; exact (r6 t' k' ht').2.2.2.1 hk'; exact (r6 t' k' ht').2.2.2.2.1 hk'; exact (r6 t' k' ht').2.2.2.2.2.1 hk'; exact (r6 t' k' ht').2.2.2.2.2.2 hk'
  · intro t' k' ht'; simp (disch := omega) only [ec_suN] at ht'; refine ⟨fun hk' => ?_, fun hk' => ?_, fun hk' => ?_, fun hk' => ?_⟩ <;> simp (disch := omega) only [ed_rN, ec_suN]; exact (r7 t' k' ht').1 hk'; exact (r7 t' k' ht').2.1 hk'; exact (r7 t' k' ht').2.2.1 hk'; exact (r7 t' k' ht').2.2.2 hk'
theorem ec_c16s {h : ec_Hp} {B : Nat} {σ : ec_Sg} (hD : ec_DN h B) (R : ec_RC h B σ) (w : ec_WF σ) {z d v : Int} (hz : ec_ing σ z) (hd : 0 ≤ d ∧ d < 4) (hb : ec_hb σ z d) : ∃ h', ec_om 16 0 [.ref B, .int (ec_i z), .int (ec_i d), .int (ec_i v)] [] h = some (.inl none, h') ∧ ec_RC h' B (ec_su σ (ec_bp z d) v) ∧ ec_DN h' B ∧ ec_fg (fun q _ => q = B + 1) h h' := by
  have op := ed_opp w hz hd hb
  exact ⟨_, ec_c16 hD hz.1 hd op.1.1, R.bord w hz hd hb, (hD.V (by omega)).V (by omega), (ec_fg.refl.I (by rfl)).I (by rfl)⟩
section EDI
variable {h : ec_Hp} {σ : ec_Sg} {n : Int} {p : Int → ec_Sg} {L : Int} {T : Int → Int}
theorem ec_c71s (C : ed_CL h σ n p L T) {a b : Int} (ra : ec_rg a) (rb : ec_rg b) :
    ((1 ≤ a ∧ a ≤ 8) ∧ 1 ≤ b ∧ b ≤ 6 → ed_Cn 71 [.ref 0, .int (ec_i a), .int (ec_i b), .double 0] h (σ 10) (ed_new a b) (ed_pn n) (ed_pp n p σ) L T) ∧
    (¬ ((1 ≤ a ∧ a ≤ 8) ∧ 1 ≤ b ∧ b ≤ 6) → ed_Cx 71 [.ref 0, .int (ec_i a), .int (ec_i b), .double 0] h 0) := by
  have g1 := fun h => ec_c111s (h := h) ra ec_rn1 ec_rn8
  have g2 := fun h => ec_c111s (h := h) rb ec_rn1 ec_rn6
  have x0 : ec_nth [] ec_ht 71 = [] := rfl
  have b0 := C.b
  refine ⟨fun q => ?_, fun q => ?_⟩
  · obtain ⟨h1, a1, a2, a3⟩ := C.saved
    obtain ⟨h2, b1, b2, b3, b4⟩ := ec_c12s a2.2.1.1 q.1 q.2
    refine ⟨h2, ?_, a2.fin a3 (b4.mono (fun q j e => by omega)) b3 b2 (ed_WF_new q.1 q.2)⟩
    have r := a2.2.1.2.1.1
    have hD := And.intro b0 a2.b
    simp (disch := first | (simp only [ec_w_kI, ec_w_kL, ec_w_kA, ec_w_shpI, ec_w_shpL, ec_w_shpA, ec_isR_r, ec_01z, ec_01o, ec_01q, hD]; done) | omega | (simp only [ec_w_shpI, ec_w_shpL, ec_w_shpA, hD]; refine ec_zinO ?_; omega) | (refine ec_nzO ?_; omega)) only [ec_s71_0, ec_s71_1, ec_s71_2, ec_s71_4, ec_s71_7, ec_s71_8, ec_s71_9, ec_s71_11, ec_s71_14, ec_s71_15, ec_s71_18, ec_s71_19, ec_s71_22, ec_s71_25, ec_s71_26, ec_s71_29, ec_s71_32, ec_s71_33, ec_s71_34, ec_s71_37, ec_s71_38, ec_s71_39, ec_s71_42, ec_s71_43, ec_zn0, ec_zn1, ec_zn2, ec_zn3, ec_zn4, ec_zn5, ec_zn6, ec_zn7, ec_zn8, ec_zn9, ec_zn10, ec_zn12, ec_zn13, ec_zn14, ec_zn15, ec_zn16, ec_zn20, ec_zn30, ec_zn48, ec_zn99, ec_zn120, ec_zn127, ec_zn11, ec_zn31, ec_zn46, ec_zn57, ec_zn59, ec_zn63, ec_zn101, ec_zn107, ec_zn108, ec_zn110, ec_zn111, ec_zn115, ec_zn116, ec_zn119, ec_zn167, ec_zn185, ec_zn192, ec_zn215, ec_zn233, ec_zn699, ec_zn932, ec_zn999, ec_znF, ec_zneg, ec_zadd, ec_zsub, ec_zmul, ec_zdivO, ec_em, ec_zltO, ec_zeqO, ec_zeq0, ec_qt, ec_qf, if_pos, if_neg, Int.add_zero, ec_aft_v, ec_aft_n, ec_rwE, ec_rwN, ec_rwP, ec_rwK, ec_rwS, ec_w_shpI, ec_w_shpL, ec_w_shpA, hD, r, g1, g2, a1, b1]
  · have hD := And.intro b0 x0
    unfold ed_Cx
    by_cases q1 : 1 ≤ a ∧ a ≤ 8
    · simp (disch := first | (simp only [ec_w_kI, ec_w_kL, ec_w_kA, ec_w_shpI, ec_w_shpL, ec_w_shpA, ec_isR_r, ec_01z, ec_01o, ec_01q, hD]; done) | omega | (simp only [ec_w_shpI, ec_w_shpL, ec_w_shpA, hD]; refine ec_zinO ?_; omega) | (refine ec_nzO ?_; omega)) only [ec_s71_0, ec_s71_1, ec_s71_2, ec_s71_4, ec_s71_7, ec_s71_8, ec_s71_9, ec_s71_11, ec_s71_14, ec_s71_15, ec_s71_18, ec_s71_19, ec_s71_22, ec_s71_25, ec_s71_26, ec_s71_29, ec_s71_32, ec_s71_33, ec_s71_34, ec_s71_37, ec_s71_38, ec_s71_39, ec_s71_42, ec_s71_43, ec_zn0, ec_zn1, ec_zn2, ec_zn3, ec_zn4, ec_zn5, ec_zn6, ec_zn7, ec_zn8, ec_zn9, ec_zn10, ec_zn12, ec_zn13, ec_zn14, ec_zn15, ec_zn16, ec_zn20, ec_zn30, ec_zn48, ec_zn99, ec_zn120, ec_zn127, ec_zn11, ec_zn31, ec_zn46, ec_zn57, ec_zn59, ec_zn63, ec_zn101, ec_zn107, ec_zn108, ec_zn110, ec_zn111, ec_zn115, ec_zn116, ec_zn119, ec_zn167, ec_zn185, ec_zn192, ec_zn215, ec_zn233, ec_zn699, ec_zn932, ec_zn999, ec_znF, ec_zneg, ec_zadd, ec_zsub, ec_zmul, ec_zdivO, ec_em, ec_zltO, ec_zeqO, ec_zeq0, ec_qt, ec_qf, if_pos, if_neg, Int.add_zero, ec_aft_v, ec_aft_n, ec_rwE, ec_rwN, ec_rwP, ec_rwK, ec_rwS, ec_w_shpI, ec_w_shpL, ec_w_shpA, hD, g1, g2, ec_aft_x]
    · simp (disch := first | (simp only [ec_w_kI, ec_w_kL, ec_w_kA, ec_w_shpI, ec_w_shpL, ec_w_shpA, ec_isR_r, ec_01z, ec_01o, ec_01q, hD]; done) | omega | (simp only [ec_w_shpI, ec_w_shpL, ec_w_shpA, hD]; refine ec_zinO ?_; omega) | (refine ec_nzO ?_; omega)) only [ec_s71_0, ec_s71_1, ec_s71_2, ec_s71_4, ec_s71_7, ec_s71_8, ec_s71_9, ec_s71_11, ec_s71_14, ec_s71_15, ec_s71_18, ec_s71_19, ec_s71_22, ec_s71_25, ec_s71_26, ec_s71_29, ec_s71_32, ec_s71_33, ec_s71_34, ec_s71_37, ec_s71_38, ec_s71_39, ec_s71_42, ec_s71_43, ec_zn0, ec_zn1, ec_zn2, ec_zn3, ec_zn4, ec_zn5, ec_zn6, ec_zn7, ec_zn8, ec_zn9, ec_zn10, ec_zn12, ec_zn13, ec_zn14, ec_zn15, ec_zn16, ec_zn20, ec_zn30, ec_zn48, ec_zn99, ec_zn120, ec_zn127, ec_zn11, ec_zn31, ec_zn46, ec_zn57, ec_zn59, ec_zn63, ec_zn101, ec_zn107, ec_zn108, ec_zn110, ec_zn111, ec_zn115, ec_zn116, ec_zn119, ec_zn167, ec_zn185, ec_zn192, ec_zn215, ec_zn233, ec_zn699, ec_zn932, ec_zn999, ec_znF, ec_zneg, ec_zadd, ec_zsub, ec_zmul, ec_zdivO, ec_em, ec_zltO, ec_zeqO, ec_zeq0, ec_qt, ec_qf, if_pos, if_neg, Int.add_zero, ec_aft_v, ec_aft_n, ec_rwE, ec_rwN, ec_rwP, ec_rwK, ec_rwS, ec_w_shpI, ec_w_shpL, ec_w_shpA, hD, g1, ec_aft_x]
set_option maxHeartbeats 1000000 in
theorem ec_c72s (C : ed_CL h σ n p L T) {x y s v : Int} (rx : ec_rg x) (ry : ec_rg y) (rs : ec_rg s) (hv : 0 ≤ v ∧ v ≤ 1) :
    (ed_kWl σ x y s = 0 → ed_Cn 72 [.ref 0, .int (ec_i x), .int (ec_i y), .int (ec_i s), .int (ec_i v), .double 0, .double 0] h (σ (ec_bp (8 * y + x) s)) (ec_su σ (ec_bp (8 * y + x) s) v) (ed_pn n) (ed_pp n p σ) L T) ∧
    (ed_kWl σ x y s ≠ 0 → ed_Cx 72 [.ref 0, .int (ec_i x), .int (ec_i y), .int (ec_i s), .int (ec_i v), .double 0, .double 0] h (ed_x3 (ed_kWl σ x y s))) := by
  have g1 := ec_c107s C rx ry
  have g12 := fun h => ec_c112s (h := h) (x := x) (y := y)
  have x0 : ec_nth [] ec_ht 72 = [] := rfl
  have b0 := And.intro C.b x0
  have w := C.2.1.2.2
  have w1 := w.1
  unfold ed_kWl
  by_cases q1 : ed_qc σ x y
  · have zi := ed_qc_in w q1
    have g2 := ec_c108s C q1 rs
    rw [if_pos q1] at g1
    rw [if_pos q1]
    by_cases q2 : ed_qb σ x y s
    · rw [if_pos q2] at g2
      rw [if_pos q2]
      have hd : 0 ≤ s ∧ s < 4 := by have := q2.1; omega
      have br := ed_bp_rg zi.1 q2.2
      have bv := w.2.2.1 _ _ zi hd q2.2
      have g3 := ec_c15s C.2.1.1 C.2.1.2.1 (z := 8 * y + x) (d := s) zi.1 hd
      rw [((ed_bd_hb w zi hd).2 q2.2).1] at g3
      by_cases q3 : 1 < σ (ec_bp (8 * y + x) s)
      · rw [if_pos q3]
        refine ⟨fun e => absurd e (by decide), fun _ => ?_⟩
        have hD := b0
        show ec_om 72 0 _ [] h = some (.inr 1, ec_thw h)
        simp (disch := first | (simp only [ec_w_kI, ec_w_kL, ec_w_kA, ec_w_shpI, ec_w_shpL, ec_w_shpA, ec_isR_r, ec_01z, ec_01o, ec_01q, hD]; done) | omega | (simp only [ec_w_shpI, ec_w_shpL, ec_w_shpA, hD]; refine ec_zinO ?_; omega) | (refine ec_nzO ?_; omega)) only [ec_s72_0, ec_s72_1, ec_s72_2, ec_s72_3, ec_s72_6, ec_s72_7, ec_s72_8, ec_s72_11, ec_s72_13, ec_s72_14, ec_s72_16, ec_s72_17, ec_s72_20, ec_s72_21, ec_s72_24, ec_s72_26, ec_s72_27, ec_s72_30, ec_s72_32, ec_s72_34, ec_s72_35, ec_s72_38, ec_s72_48, ec_s72_49, ec_s72_52, ec_s72_53, ec_s72_56, ec_s72_59, ec_s72_60, ec_s72_63, ec_s72_65, ec_s72_66, ec_s72_68, ec_s72_71, ec_s72_72, ec_s72_75, ec_s72_76, ec_s72_79, ec_s72_81, ec_zn0, ec_zn1, ec_zn2, ec_zn3, ec_zn4, ec_zn5, ec_zn6, ec_zn7, ec_zn8, ec_zn9, ec_zn10, ec_zn12, ec_zn13, ec_zn14, ec_zn15, ec_zn16, ec_zn20, ec_zn30, ec_zn48, ec_zn99, ec_zn120, ec_zn127, ec_zn11, ec_zn31, ec_zn46, ec_zn57, ec_zn59, ec_zn63, ec_zn101, ec_zn107, ec_zn108, ec_zn110, ec_zn111, ec_zn115, ec_zn116, ec_zn119, ec_zn167, ec_zn185, ec_zn192, ec_zn215, ec_zn233, ec_zn699, ec_zn932, ec_zn999, ec_znF, ec_zneg, ec_zadd, ec_zsub, ec_zmul, ec_zdivO, ec_em, ec_zltO, ec_zeqO, ec_zeq0, ec_qt, ec_qf, if_pos, if_neg, Int.add_zero, ec_aft_v, ec_aft_n, ec_rwE, ec_rwN, ec_rwP, ec_rwK, ec_rwS, ec_w_shpI, ec_w_shpL, ec_w_shpA, hD, g1, g2, g3, g12, ec_aft_x]
      · rw [if_neg q3]
        refine ⟨fun _ => ?_, fun e => absurd rfl e⟩
        obtain ⟨h1, a1, a2, a3⟩ := C.saved
        obtain ⟨h2, b1, b2, b3, b4⟩ := ec_c16s a2.2.1.1 a2.2.1.2.1 w (z := 8 * y + x) (d := s) (v := v) zi hd q2.2
        refine ⟨h2, ?_, a2.fin a3 (b4.mono (fun q j e => by omega)) b3 b2 (ed_WF_bd w (by omega) (by omega))⟩
        have hD := And.intro b0 a2.b
        rcases (show v = 0 ∨ v = 1 by omega) with rfl | rfl
        · simp (disch := first | (simp only [ec_w_kI, ec_w_kL, ec_w_kA, ec_w_shpI, ec_w_shpL, ec_w_shpA, ec_isR_r, ec_01z, ec_01o, ec_01q, hD]; done) | omega | (simp only [ec_w_shpI, ec_w_shpL, ec_w_shpA, hD]; refine ec_zinO ?_; omega) | (refine ec_nzO ?_; omega)) only [ec_s72_0, ec_s72_1, ec_s72_2, ec_s72_3, ec_s72_6, ec_s72_7, ec_s72_8, ec_s72_11, ec_s72_13, ec_s72_14, ec_s72_16, ec_s72_17, ec_s72_20, ec_s72_21, ec_s72_24, ec_s72_26, ec_s72_27, ec_s72_30, ec_s72_32, ec_s72_34, ec_s72_35, ec_s72_38, ec_s72_48, ec_s72_49, ec_s72_52, ec_s72_53, ec_s72_56, ec_s72_59, ec_s72_60, ec_s72_63, ec_s72_65, ec_s72_66, ec_s72_68, ec_s72_71, ec_s72_72, ec_s72_75, ec_s72_76, ec_s72_79, ec_s72_81, ec_zn0, ec_zn1, ec_zn2, ec_zn3, ec_zn4, ec_zn5, ec_zn6, ec_zn7, ec_zn8, ec_zn9, ec_zn10, ec_zn12, ec_zn13, ec_zn14, ec_zn15, ec_zn16, ec_zn20, ec_zn30, ec_zn48, ec_zn99, ec_zn120, ec_zn127, ec_zn11, ec_zn31, ec_zn46, ec_zn57, ec_zn59, ec_zn63, ec_zn101, ec_zn107, ec_zn108, ec_zn110, ec_zn111, ec_zn115, ec_zn116, ec_zn119, ec_zn167, ec_zn185, ec_zn192, ec_zn215, ec_zn233, ec_zn699, ec_zn932, ec_zn999, ec_znF, ec_zneg, ec_zadd, ec_zsub, ec_zmul, ec_zdivO, ec_em, ec_zltO, ec_zeqO, ec_zeq0, ec_qt, ec_qf, if_pos, if_neg, Int.add_zero, ec_aft_v, ec_aft_n, ec_rwE, ec_rwN, ec_rwP, ec_rwK, ec_rwS, ec_w_shpI, ec_w_shpL, ec_w_shpA, hD, g1, g2, g3, g12, a1, b1]
        · simp (disch := first | (simp only [ec_w_kI, ec_w_kL, ec_w_kA, ec_w_shpI, ec_w_shpL, ec_w_shpA, ec_isR_r, ec_01z, ec_01o, ec_01q, hD]; done) | omega | (simp only [ec_w_shpI, ec_w_shpL, ec_w_shpA, hD]; refine ec_zinO ?_; omega) | (refine ec_nzO ?_; omega)) only [ec_s72_0, ec_s72_1, ec_s72_2, ec_s72_3, ec_s72_6, ec_s72_7, ec_s72_8, ec_s72_11, ec_s72_13, ec_s72_14, ec_s72_16, ec_s72_17, ec_s72_20, ec_s72_21, ec_s72_24, ec_s72_26, ec_s72_27, ec_s72_30, ec_s72_32, ec_s72_34, ec_s72_35, ec_s72_38, ec_s72_48, ec_s72_49, ec_s72_52, ec_s72_53, ec_s72_56, ec_s72_59, ec_s72_60, ec_s72_63, ec_s72_65, ec_s72_66, ec_s72_68, ec_s72_71, ec_s72_72, ec_s72_75, ec_s72_76, ec_s72_79, ec_s72_81, ec_zn0, ec_zn1, ec_zn2, ec_zn3, ec_zn4, ec_zn5, ec_zn6, ec_zn7, ec_zn8, ec_zn9, ec_zn10, ec_zn12, ec_zn13, ec_zn14, ec_zn15, ec_zn16, ec_zn20, ec_zn30, ec_zn48, ec_zn99, ec_zn120, ec_zn127, ec_zn11, ec_zn31, ec_zn46, ec_zn57, ec_zn59, ec_zn63, ec_zn101, ec_zn107, ec_zn108, ec_zn110, ec_zn111, ec_zn115, ec_zn116, ec_zn119, ec_zn167, ec_zn185, ec_zn192, ec_zn215, ec_zn233, ec_zn699, ec_zn932, ec_zn999, ec_znF, ec_zneg, ec_zadd, ec_zsub, ec_zmul, ec_zdivO, ec_em, ec_zltO, ec_zeqO, ec_zeq0, ec_qt, ec_qf, if_pos, if_neg, Int.add_zero, ec_aft_v, ec_aft_n, ec_rwE, ec_rwN, ec_rwP, ec_rwK, ec_rwS, ec_w_shpI, ec_w_shpL, ec_w_shpA, hD, g1, g2, g3, g12, a1, b1]
    · rw [if_neg q2] at g2
      rw [if_neg q2]
      refine ⟨fun e => absurd e (by decide), fun _ => ?_⟩
      have hD := b0
      show ec_om 72 0 _ [] h = some (.inr 0, ec_thw h)
      simp (disch := first | (simp only [ec_w_kI, ec_w_kL, ec_w_kA, ec_w_shpI, ec_w_shpL, ec_w_shpA, ec_isR_r, ec_01z, ec_01o, ec_01q, hD]; done) | omega | (simp only [ec_w_shpI, ec_w_shpL, ec_w_shpA, hD]; refine ec_zinO ?_; omega) | (refine ec_nzO ?_; omega)) only [ec_s72_0, ec_s72_1, ec_s72_2, ec_s72_3, ec_s72_6, ec_s72_7, ec_s72_8, ec_s72_11, ec_s72_13, ec_s72_14, ec_s72_16, ec_s72_17, ec_s72_20, ec_s72_21, ec_s72_24, ec_s72_26, ec_s72_27, ec_s72_30, ec_s72_32, ec_s72_34, ec_s72_35, ec_s72_38, ec_s72_48, ec_s72_49, ec_s72_52, ec_s72_53, ec_s72_56, ec_s72_59, ec_s72_60, ec_s72_63, ec_s72_65, ec_s72_66, ec_s72_68, ec_s72_71, ec_s72_72, ec_s72_75, ec_s72_76, ec_s72_79, ec_s72_81, ec_zn0, ec_zn1, ec_zn2, ec_zn3, ec_zn4, ec_zn5, ec_zn6, ec_zn7, ec_zn8, ec_zn9, ec_zn10, ec_zn12, ec_zn13, ec_zn14, ec_zn15, ec_zn16, ec_zn20, ec_zn30, ec_zn48, ec_zn99, ec_zn120, ec_zn127, ec_zn11, ec_zn31, ec_zn46, ec_zn57, ec_zn59, ec_zn63, ec_zn101, ec_zn107, ec_zn108, ec_zn110, ec_zn111, ec_zn115, ec_zn116, ec_zn119, ec_zn167, ec_zn185, ec_zn192, ec_zn215, ec_zn233, ec_zn699, ec_zn932, ec_zn999, ec_znF, ec_zneg, ec_zadd, ec_zsub, ec_zmul, ec_zdivO, ec_em, ec_zltO, ec_zeqO, ec_zeq0, ec_qt, ec_qf, if_pos, if_neg, Int.add_zero, ec_aft_v, ec_aft_n, ec_rwE, ec_rwN, ec_rwP, ec_rwK, ec_rwS, ec_w_shpI, ec_w_shpL, ec_w_shpA, hD, g1, g2, g12, ec_aft_x]
  · rw [if_neg q1] at g1
    rw [if_neg q1]
    refine ⟨fun e => absurd e (by decide), fun _ => ?_⟩
    have hD := b0
    show ec_om 72 0 _ [] h = some (.inr 2, ec_thw h)
    simp (disch := first | (simp only [ec_w_kI, ec_w_kL, ec_w_kA, ec_w_shpI, ec_w_shpL, ec_w_shpA, ec_isR_r, ec_01z, ec_01o, ec_01q, hD]; done) | omega | (simp only [ec_w_shpI, ec_w_shpL, ec_w_shpA, hD]; refine ec_zinO ?_; omega) | (refine ec_nzO ?_; omega)) only [ec_s72_0, ec_s72_1, ec_s72_2, ec_s72_3, ec_s72_6, ec_s72_7, ec_s72_8, ec_s72_11, ec_s72_13, ec_s72_14, ec_s72_16, ec_s72_17, ec_s72_20, ec_s72_21, ec_s72_24, ec_s72_26, ec_s72_27, ec_s72_30, ec_s72_32, ec_s72_34, ec_s72_35, ec_s72_38, ec_s72_48, ec_s72_49, ec_s72_52, ec_s72_53, ec_s72_56, ec_s72_59, ec_s72_60, ec_s72_63, ec_s72_65, ec_s72_66, ec_s72_68, ec_s72_71, ec_s72_72, ec_s72_75, ec_s72_76, ec_s72_79, ec_s72_81, ec_zn0, ec_zn1, ec_zn2, ec_zn3, ec_zn4, ec_zn5, ec_zn6, ec_zn7, ec_zn8, ec_zn9, ec_zn10, ec_zn12, ec_zn13, ec_zn14, ec_zn15, ec_zn16, ec_zn20, ec_zn30, ec_zn48, ec_zn99, ec_zn120, ec_zn127, ec_zn11, ec_zn31, ec_zn46, ec_zn57, ec_zn59, ec_zn63, ec_zn101, ec_zn107, ec_zn108, ec_zn110, ec_zn111, ec_zn115, ec_zn116, ec_zn119, ec_zn167, ec_zn185, ec_zn192, ec_zn215, ec_zn233, ec_zn699, ec_zn932, ec_zn999, ec_znF, ec_zneg, ec_zadd, ec_zsub, ec_zmul, ec_zdivO, ec_em, ec_zltO, ec_zeqO, ec_zeq0, ec_qt, ec_qf, if_pos, if_neg, Int.add_zero, ec_aft_v, ec_aft_n, ec_rwE, ec_rwN, ec_rwP, ec_rwK, ec_rwS, ec_w_shpI, ec_w_shpL, ec_w_shpA, hD, g1, ec_aft_x]
theorem ec_c74s (C : ed_CL h σ n p L T) {d v : Int} (rd : ec_rg d) (rv : ec_rg v) :
    (ed_kSd σ d v = 0 → ed_Cn 74 [.ref 0, .int (ec_i d), .int (ec_i v), .double 0] h (σ (107 + 6 * d)) (ed_puts σ d v) (ed_pn n) (ed_pp n p σ) L T) ∧
    (ed_kSd σ d v ≠ 0 → ed_Cx 74 [.ref 0, .int (ec_i d), .int (ec_i v), .double 0] h (ed_x3 (ed_kSd σ d v))) := by
  have w := C.2.1.2.2
  have w1 := w.1
  have tb := C.2.1.1.b
  have g1 := ec_c109s (h := h) (t := 3) (v := d) C.b.1.2.2.2.2.2.2.2.1 C.2.1.2.1.2.1.1 (by omega) rd
  have g2 := fun h => ec_c111s (h := h) rv ec_rn0 ec_rn2
  have x0 : ec_nth [] ec_ht 74 = [] := rfl
  have b0 := And.intro C.b x0
  unfold ed_kSd
  by_cases q1 : 0 ≤ d ∧ d < σ 2
  · rw [if_pos q1] at g1
    rw [if_pos q1]
    by_cases q2 : 0 ≤ v ∧ v ≤ 2
    · rw [if_pos q2]
      refine ⟨fun _ => ?_, fun e => absurd rfl e⟩
      obtain ⟨h1, a1, a2, a3⟩ := C.saved
      have D1 := a2.2.1.1
      have R1 := a2.2.1.2.1
      have e3 := ec_c48 (a := d) (b := 0) D1.2.2.1 (by omega) (by omega) (by omega)
      rw [R1.dv (n := d) (j := 0) (by omega) (by omega) (by omega), Int.add_zero] at e3
      have e4 := ec_c21 (v := ec_i v) D1 (a := d) (by omega)
      have R2 := R1.td w q1 q2
      refine ⟨ec_td h1 1 d (ec_i v), ?_, a2.fin a3 ((ec_fg.refl.I (by decide)).I (by decide)) D1.td R2 (ed_WF_puts w q1 q2)⟩
      have hD := And.intro b0 a2.b
      simp (disch := first | (simp only [ec_w_kI, ec_w_kL, ec_w_kA, ec_w_shpI, ec_w_shpL, ec_w_shpA, ec_isR_r, ec_01z, ec_01o, ec_01q, hD]; done) | omega | (simp only [ec_w_shpI, ec_w_shpL, ec_w_shpA, hD]; refine ec_zinO ?_; omega) | (refine ec_nzO ?_; omega)) only [ec_s74_0, ec_s74_1, ec_s74_4, ec_s74_7, ec_s74_8, ec_s74_11, ec_s74_12, ec_s74_13, ec_s74_14, ec_s74_17, ec_s74_18, ec_s74_21, ec_s74_22, ec_s74_25, ec_s74_28, ec_s74_29, ec_s74_32, ec_s74_35, ec_s74_36, ec_s74_37, ec_s74_40, ec_s74_41, ec_s74_42, ec_s74_45, ec_s74_46, ec_s74_47, ec_s74_50, ec_s74_51, ec_zn0, ec_zn1, ec_zn2, ec_zn3, ec_zn4, ec_zn5, ec_zn6, ec_zn7, ec_zn8, ec_zn9, ec_zn10, ec_zn12, ec_zn13, ec_zn14, ec_zn15, ec_zn16, ec_zn20, ec_zn30, ec_zn48, ec_zn99, ec_zn120, ec_zn127, ec_zn11, ec_zn31, ec_zn46, ec_zn57, ec_zn59, ec_zn63, ec_zn101, ec_zn107, ec_zn108, ec_zn110, ec_zn111, ec_zn115, ec_zn116, ec_zn119, ec_zn167, ec_zn185, ec_zn192, ec_zn215, ec_zn233, ec_zn699, ec_zn932, ec_zn999, ec_znF, ec_zneg, ec_zadd, ec_zsub, ec_zmul, ec_zdivO, ec_em, ec_zltO, ec_zeqO, ec_zeq0, ec_qt, ec_qf, if_pos, if_neg, Int.add_zero, ec_aft_v, ec_aft_n, ec_rwE, ec_rwN, ec_rwP, ec_rwK, ec_rwS, ec_w_shpI, ec_w_shpL, ec_w_shpA, hD, g1, g2, a1, e3, e4]
    · rw [if_neg q2]
      refine ⟨fun e => absurd e (by decide), fun _ => ?_⟩
      have hD := b0
      show ec_om 74 0 _ [] h = some (.inr 0, ec_thw h)
      simp (disch := first | (simp only [ec_w_kI, ec_w_kL, ec_w_kA, ec_w_shpI, ec_w_shpL, ec_w_shpA, ec_isR_r, ec_01z, ec_01o, ec_01q, hD]; done) | omega | (simp only [ec_w_shpI, ec_w_shpL, ec_w_shpA, hD]; refine ec_zinO ?_; omega) | (refine ec_nzO ?_; omega)) only [ec_s74_0, ec_s74_1, ec_s74_4, ec_s74_7, ec_s74_8, ec_s74_11, ec_s74_12, ec_s74_13, ec_s74_14, ec_s74_17, ec_s74_18, ec_s74_21, ec_s74_22, ec_s74_25, ec_s74_28, ec_s74_29, ec_s74_32, ec_s74_35, ec_s74_36, ec_s74_37, ec_s74_40, ec_s74_41, ec_s74_42, ec_s74_45, ec_s74_46, ec_s74_47, ec_s74_50, ec_s74_51, ec_zn0, ec_zn1, ec_zn2, ec_zn3, ec_zn4, ec_zn5, ec_zn6, ec_zn7, ec_zn8, ec_zn9, ec_zn10, ec_zn12, ec_zn13, ec_zn14, ec_zn15, ec_zn16, ec_zn20, ec_zn30, ec_zn48, ec_zn99, ec_zn120, ec_zn127, ec_zn11, ec_zn31, ec_zn46, ec_zn57, ec_zn59, ec_zn63, ec_zn101, ec_zn107, ec_zn108, ec_zn110, ec_zn111, ec_zn115, ec_zn116, ec_zn119, ec_zn167, ec_zn185, ec_zn192, ec_zn215, ec_zn233, ec_zn699, ec_zn932, ec_zn999, ec_znF, ec_zneg, ec_zadd, ec_zsub, ec_zmul, ec_zdivO, ec_em, ec_zltO, ec_zeqO, ec_zeq0, ec_qt, ec_qf, if_pos, if_neg, Int.add_zero, ec_aft_v, ec_aft_n, ec_rwE, ec_rwN, ec_rwP, ec_rwK, ec_rwS, ec_w_shpI, ec_w_shpL, ec_w_shpA, hD, g1, g2, ec_aft_x]
  · rw [if_neg q1] at g1
    rw [if_neg q1]
    refine ⟨fun e => absurd e (by decide), fun _ => ?_⟩
    have hD := b0
    show ec_om 74 0 _ [] h = some (.inr 2, ec_thw h)
    simp (disch := first | (simp only [ec_w_kI, ec_w_kL, ec_w_kA, ec_w_shpI, ec_w_shpL, ec_w_shpA, ec_isR_r, ec_01z, ec_01o, ec_01q, hD]; done) | omega | (simp only [ec_w_shpI, ec_w_shpL, ec_w_shpA, hD]; refine ec_zinO ?_; omega) | (refine ec_nzO ?_; omega)) only [ec_s74_0, ec_s74_1, ec_s74_4, ec_s74_7, ec_s74_8, ec_s74_11, ec_s74_12, ec_s74_13, ec_s74_14, ec_s74_17, ec_s74_18, ec_s74_21, ec_s74_22, ec_s74_25, ec_s74_28, ec_s74_29, ec_s74_32, ec_s74_35, ec_s74_36, ec_s74_37, ec_s74_40, ec_s74_41, ec_s74_42, ec_s74_45, ec_s74_46, ec_s74_47, ec_s74_50, ec_s74_51, ec_zn0, ec_zn1, ec_zn2, ec_zn3, ec_zn4, ec_zn5, ec_zn6, ec_zn7, ec_zn8, ec_zn9, ec_zn10, ec_zn12, ec_zn13, ec_zn14, ec_zn15, ec_zn16, ec_zn20, ec_zn30, ec_zn48, ec_zn99, ec_zn120, ec_zn127, ec_zn11, ec_zn31, ec_zn46, ec_zn57, ec_zn59, ec_zn63, ec_zn101, ec_zn107, ec_zn108, ec_zn110, ec_zn111, ec_zn115, ec_zn116, ec_zn119, ec_zn167, ec_zn185, ec_zn192, ec_zn215, ec_zn233, ec_zn699, ec_zn932, ec_zn999, ec_znF, ec_zneg, ec_zadd, ec_zsub, ec_zmul, ec_zdivO, ec_em, ec_zltO, ec_zeqO, ec_zeq0, ec_qt, ec_qf, if_pos, if_neg, Int.add_zero, ec_aft_v, ec_aft_n, ec_rwE, ec_rwN, ec_rwP, ec_rwK, ec_rwS, ec_w_shpI, ec_w_shpL, ec_w_shpA, hD, g1, ec_aft_x]
end EDI
