/-! The class's dungeon holds a row. -/
def ed_bd (σ : ec_Sg) (z d : Int) : Int := if ec_ing σ z ∧ ec_hb σ z d then σ (ec_bp z d) else -1
def ed_gc (g : Int) : Int := if g = -1 then -1 else g % 8
def ed_gr (g : Int) : Int := if g = -1 then -1 else g / 8
def ec_RC (h : ec_Hp) (B : Nat) (σ : ec_Sg) : Prop :=
  (h.2.1 B 5 = ec_i (σ 0) ∧ h.2.1 B 6 = ec_i (σ 1) ∧ h.2.1 B 7 = ec_i (σ 6) ∧ h.2.1 B 8 = ec_i (σ 7) ∧ h.2.1 B 9 = ec_i (σ 8) ∧ h.2.1 B 10 = ec_i (σ 9) ∧ h.2.1 B 11 = ec_i (σ 10)) ∧
  (h.2.1 (B + 2) 3 = ec_i (σ 2) ∧ h.2.1 (B + 4) 3 = ec_i (σ 3) ∧ h.2.1 (B + 6) 3 = ec_i (σ 4) ∧ h.2.1 (B + 8) 3 = ec_i (σ 5)) ∧
  (∀ (z d : Int) (k : Nat), 0 ≤ z ∧ z < 48 → 0 ≤ d ∧ d < 4 → (k : Int) = z * 4 + d → h.2.1 (B + 1) k = ec_i (ed_bd σ z d)) ∧
  (∀ (n j : Int) (k : Nat), 0 ≤ n ∧ n < σ 2 → 0 ≤ j ∧ j < 6 → (k : Int) = n * 6 + j → h.2.1 (B + 3) k = ec_i (σ (107 + 6 * n + j))) ∧
  (∀ (t : Int) (k : Nat), 0 ≤ t ∧ t < σ 3 → ((k : Int) = t * 4 → h.2.1 (B + 5) k = ec_i (σ (167 + 3 * t) % 8)) ∧ ((k : Int) = t * 4 + 1 → h.2.1 (B + 5) k = ec_i (σ (167 + 3 * t) / 8)) ∧ ((k : Int) = t * 4 + 2 → h.2.1 (B + 5) k = ec_i (σ (167 + 3 * t + 1))) ∧ ((k : Int) = t * 4 + 3 → h.2.1 (B + 5) k = ec_i (σ (167 + 3 * t + 2)))) ∧
  (∀ (m : Int) (k : Nat), 0 ≤ m ∧ m < σ 4 → ((k : Int) = m * 8 → h.2.1 (B + 7) k = ec_i (σ (185 + 5 * m) % 8)) ∧ ((k : Int) = m * 8 + 1 → h.2.1 (B + 7) k = ec_i (σ (185 + 5 * m) / 8)) ∧ ((k : Int) = m * 8 + 2 → h.2.1 (B + 7) k = ec_i (σ (185 + 5 * m + 1))) ∧ ((k : Int) = m * 8 + 3 → h.2.1 (B + 7) k = ec_i (σ (185 + 5 * m + 2))) ∧ ((k : Int) = m * 8 + 4 → h.2.1 (B + 7) k = ec_i (ed_gc (σ (185 + 5 * m + 3)))) ∧ ((k : Int) = m * 8 + 5 → h.2.1 (B + 7) k = ec_i (ed_gr (σ (185 + 5 * m + 3)))) ∧ ((k : Int) = m * 8 + 7 → h.2.1 (B + 7) k = ec_i (σ (185 + 5 * m + 4)))) ∧
  (∀ (t : Int) (k : Nat), 0 ≤ t ∧ t < σ 5 → ((k : Int) = t * 4 → h.2.1 (B + 9) k = ec_i (σ (215 + 3 * t) % 8)) ∧ ((k : Int) = t * 4 + 1 → h.2.1 (B + 9) k = ec_i (σ (215 + 3 * t) / 8)) ∧ ((k : Int) = t * 4 + 2 → h.2.1 (B + 9) k = ec_i (σ (215 + 3 * t + 1))) ∧ ((k : Int) = t * 4 + 3 → h.2.1 (B + 9) k = ec_i (σ (215 + 3 * t + 2))))
theorem ed_rN {h : ec_Hp} {p q k j : Nat} {x : Int32} (e : ¬ (q = p ∧ j = k)) : (ec_setI h p k x).2.1 q j = h.2.1 q j := by rw [ec_w_iI, if_neg e]
theorem ed_rE {h : ec_Hp} {p q k j : Nat} {x : Int32} (e : q = p ∧ j = k) : (ec_setI h p k x).2.1 q j = x := by rw [ec_w_iI, if_pos e]
theorem ed_bd_su {σ : ec_Sg} {k v z d : Int} (hz : 0 ≤ z ∧ z < 48) (hk : ¬ (k = 0 ∨ k = 1) ∧ ¬ (11 ≤ k ∧ k < 107)) : ed_bd (ec_su σ k v) z d = ed_bd σ z d := by
  unfold ed_bd
  have e0 : ec_su σ k v 0 = σ 0 := ec_suN (by omega)
  have e1 : ec_su σ k v 1 = σ 1 := ec_suN (by omega)
  by_cases q : ec_ing σ z ∧ ec_hb σ z d
  · have r := ed_bp_rg hz q.2
    have q' : ec_ing (ec_su σ k v) z ∧ ec_hb (ec_su σ k v) z d := by
      unfold ec_ing ec_hb at q ⊢
      rw [e0, e1]
      exact q
    rw [if_pos q, if_pos q', ec_suN (by omega)]
  · have q' : ¬ (ec_ing (ec_su σ k v) z ∧ ec_hb (ec_su σ k v) z d) := by
      unfold ec_ing ec_hb at q ⊢
      rw [e0, e1]
      exact q
    rw [if_neg q, if_neg q']
/-- the block is the same -/
theorem ec_RC.eq {h h' : ec_Hp} {B : Nat} {σ : ec_Sg} (R : ec_RC h B σ) (e : ∀ q j, B ≤ q → q ≤ B + 9 → h'.2.1 q j = h.2.1 q j) : ec_RC h' B σ := by
  unfold ec_RC at R ⊢
  simp (disch := omega) only [e]
  exact R
theorem ec_RC.fg {S : Nat → Nat → Prop} {h h' : ec_Hp} {B : Nat} {σ : ec_Sg} (R : ec_RC h B σ) (a : ec_fg S h h') (hS : ∀ q j, B ≤ q → q ≤ B + 9 → ¬ S q j) : ec_RC h' B σ := R.eq (fun q j h1 h2 => a.2 q j (hS q j h1 h2))
theorem ec_RC.fr {p B : Nat} {h h' : ec_Hp} {σ : ec_Sg} (R : ec_RC h B σ) (a : ec_fr p h h') (hp : B + 9 < p ∨ p + 2 < B) : ec_RC h' B σ := R.eq (fun q j h1 h2 => a.2.2 q j (by omega) (by omega) (by omega))
/-- the counts lie in their bounds -/
def ed_ct (σ : ec_Sg) : Prop := (0 ≤ σ 2 ∧ σ 2 ≤ 10) ∧ (0 ≤ σ 3 ∧ σ 3 ≤ 6) ∧ (0 ≤ σ 4 ∧ σ 4 ≤ 6) ∧ 0 ≤ σ 5 ∧ σ 5 ≤ 6
theorem ec_WF.ct {σ : ec_Sg} (w : ec_WF σ) : ed_ct σ := ⟨w.1.2.2.1, w.1.2.2.2.1, w.1.2.2.2.2.1, w.1.2.2.2.2.2⟩
/-! single writes -/
theorem ec_RC.hero {h : ec_Hp} {B : Nat} {σ : ec_Sg} (R : ec_RC h B σ) {v : Int} : ec_RC (ec_setI h B 7 (ec_i v)) B (ec_su σ 6 v) := by
  obtain ⟨r1, r2, r3, r4, r5, r6, r7⟩ := R
  refine ⟨?_, ?_, ?_, ?_, ?_, ?_, ?_⟩
  · simp (disch := omega) only [ed_rN, ed_rE, ec_suN, ec_suE]
    exact ⟨r1.1, r1.2.1, trivial, r1.2.2.2⟩
  · simp (disch := omega) only [ed_rN, ec_suN]; exact r2
  · intro z d k' hz hd hk'; rw [ed_bd_su hz (by omega)]; simp (disch := omega) only [ed_rN]; exact r3 z d k' hz hd hk'
  · intro n' j' k' hn' hj' hk'; simp (disch := omega) only [ec_suN] at hn'; simp (disch := omega) only [ed_rN, ec_suN]; exact r4 n' j' k' hn' hj' hk'
  · intro t' k' ht'; simp (disch := omega) only [ec_suN] at ht'; refine ⟨fun hk' => ?_, fun hk' => ?_, fun hk' => ?_, fun hk' => ?_⟩ <;> simp (disch := omega) only [ed_rN, ec_suN]; exact (r5 t' k' ht').1 hk'; exact (r5 t' k' ht').2.1 hk'; exact (r5 t' k' ht').2.2.1 hk'; exact (r5 t' k' ht').2.2.2 hk'
  · intro t' k' ht'; simp (disch := omega) only [ec_suN] at ht'; refine ⟨fun hk' => ?_, fun hk' => ?_, fun hk' => ?_, fun hk' => ?_, fun hk' => ?_, fun hk' => ?_, fun hk' => ?_⟩ <;> simp (disch := omega) only [ed_rN, ec_suN]; exact (r6 t' k' ht').1 hk'; exact (r6 t' k' ht').2.1 hk'; exact (r6 t' k' ht').2.2.1 hk'; exact (r6 t' k' ht').2.2.2.1 hk'; exact (r6 t' k' ht').2.2.2.2.1 hk'; exact (r6 t' k' ht').2.2.2.2.2.1 hk'; exact (r6 t' k' ht').2.2.2.2.2.2 hk'
  · intro t' k' ht'; simp (disch := omega) only [ec_suN] at ht'; refine ⟨fun hk' => ?_, fun hk' => ?_, fun hk' => ?_, fun hk' => ?_⟩ <;> simp (disch := omega) only [ed_rN, ec_suN]; exact (r7 t' k' ht').1 hk'; exact (r7 t' k' ht').2.1 hk'; exact (r7 t' k' ht').2.2.1 hk'; exact (r7 t' k' ht').2.2.2 hk'
theorem ec_RC.life {h : ec_Hp} {B : Nat} {σ : ec_Sg} (R : ec_RC h B σ) {v : Int} : ec_RC (ec_setI h B 8 (ec_i v)) B (ec_su σ 7 v) := by
  obtain ⟨r1, r2, r3, r4, r5, r6, r7⟩ := R
  refine ⟨?_, ?_, ?_, ?_, ?_, ?_, ?_⟩
  · simp (disch := omega) only [ed_rN, ed_rE, ec_suN, ec_suE]
    exact ⟨r1.1, r1.2.1, r1.2.2.1, trivial, r1.2.2.2.2⟩
  · simp (disch := omega) only [ed_rN, ec_suN]; exact r2
  · intro z d k' hz hd hk'; rw [ed_bd_su hz (by omega)]; simp (disch := omega) only [ed_rN]; exact r3 z d k' hz hd hk'
  · intro n' j' k' hn' hj' hk'; simp (disch := omega) only [ec_suN] at hn'; simp (disch := omega) only [ed_rN, ec_suN]; exact r4 n' j' k' hn' hj' hk'
  · intro t' k' ht'; simp (disch := omega) only [ec_suN] at ht'; refine ⟨fun hk' => ?_, fun hk' => ?_, fun hk' => ?_, fun hk' => ?_⟩ <;> simp (disch := omega) only [ed_rN, ec_suN]; exact (r5 t' k' ht').1 hk'; exact (r5 t' k' ht').2.1 hk'; exact (r5 t' k' ht').2.2.1 hk'; exact (r5 t' k' ht').2.2.2 hk'
  · intro t' k' ht'; simp (disch := omega) only [ec_suN] at ht'; refine ⟨fun hk' => ?_, fun hk' => ?_, fun hk' => ?_, fun hk' => ?_, fun hk' => ?_, fun hk' => ?_, fun hk' => ?_⟩ <;> simp (disch := omega) only [ed_rN, ec_suN]; exact (r6 t' k' ht').1 hk'; exact (r6 t' k' ht').2.1 hk'; exact (r6 t' k' ht').2.2.1 hk'; exact (r6 t' k' ht').2.2.2.1 hk'; exact (r6 t' k' ht').2.2.2.2.1 hk'; exact (r6 t' k' ht').2.2.2.2.2.1 hk'; exact (r6 t' k' ht').2.2.2.2.2.2 hk'
  · intro t' k' ht'; simp (disch := omega) only [ec_suN] at ht'; refine ⟨fun hk' => ?_, fun hk' => ?_, fun hk' => ?_, fun hk' => ?_⟩ <;> simp (disch := omega) only [ed_rN, ec_suN]; exact (r7 t' k' ht').1 hk'; exact (r7 t' k' ht').2.1 hk'; exact (r7 t' k' ht').2.2.1 hk'; exact (r7 t' k' ht').2.2.2 hk'
theorem ec_RC.fuel {h : ec_Hp} {B : Nat} {σ : ec_Sg} (R : ec_RC h B σ) {v : Int} : ec_RC (ec_setI h B 9 (ec_i v)) B (ec_su σ 8 v) := by
  obtain ⟨r1, r2, r3, r4, r5, r6, r7⟩ := R
  refine ⟨?_, ?_, ?_, ?_, ?_, ?_, ?_⟩
  · simp (disch := omega) only [ed_rN, ed_rE, ec_suN, ec_suE]
    exact ⟨r1.1, r1.2.1, r1.2.2.1, r1.2.2.2.1, trivial, r1.2.2.2.2.2⟩
  · simp (disch := omega) only [ed_rN, ec_suN]; exact r2
  · intro z d k' hz hd hk'; rw [ed_bd_su hz (by omega)]; simp (disch := omega) only [ed_rN]; exact r3 z d k' hz hd hk'
  · intro n' j' k' hn' hj' hk'; simp (disch := omega) only [ec_suN] at hn'; simp (disch := omega) only [ed_rN, ec_suN]; exact r4 n' j' k' hn' hj' hk'
  · intro t' k' ht'; simp (disch := omega) only [ec_suN] at ht'; refine ⟨fun hk' => ?_, fun hk' => ?_, fun hk' => ?_, fun hk' => ?_⟩ <;> simp (disch := omega) only [ed_rN, ec_suN]; exact (r5 t' k' ht').1 hk'; exact (r5 t' k' ht').2.1 hk'; exact (r5 t' k' ht').2.2.1 hk'; exact (r5 t' k' ht').2.2.2 hk'
  · intro t' k' ht'; simp (disch := omega) only [ec_suN] at ht'; refine ⟨fun hk' => ?_, fun hk' => ?_, fun hk' => ?_, fun hk' => ?_, fun hk' => ?_, fun hk' => ?_, fun hk' => ?_⟩ <;> simp (disch := omega) only [ed_rN, ec_suN]; exact (r6 t' k' ht').1 hk'; exact (r6 t' k' ht').2.1 hk'; exact (r6 t' k' ht').2.2.1 hk'; exact (r6 t' k' ht').2.2.2.1 hk'; exact (r6 t' k' ht').2.2.2.2.1 hk'; exact (r6 t' k' ht').2.2.2.2.2.1 hk'; exact (r6 t' k' ht').2.2.2.2.2.2 hk'
  · intro t' k' ht'; simp (disch := omega) only [ec_suN] at ht'; refine ⟨fun hk' => ?_, fun hk' => ?_, fun hk' => ?_, fun hk' => ?_⟩ <;> simp (disch := omega) only [ed_rN, ec_suN]; exact (r7 t' k' ht').1 hk'; exact (r7 t' k' ht').2.1 hk'; exact (r7 t' k' ht').2.2.1 hk'; exact (r7 t' k' ht').2.2.2 hk'
theorem ec_RC.lit {h : ec_Hp} {B : Nat} {σ : ec_Sg} (R : ec_RC h B σ) {v : Int} : ec_RC (ec_setI h B 10 (ec_i v)) B (ec_su σ 9 v) := by
  obtain ⟨r1, r2, r3, r4, r5, r6, r7⟩ := R
  refine ⟨?_, ?_, ?_, ?_, ?_, ?_, ?_⟩
  · simp (disch := omega) only [ed_rN, ed_rE, ec_suN, ec_suE]
    exact ⟨r1.1, r1.2.1, r1.2.2.1, r1.2.2.2.1, r1.2.2.2.2.1, trivial, r1.2.2.2.2.2.2⟩
  · simp (disch := omega) only [ed_rN, ec_suN]; exact r2
  · intro z d k' hz hd hk'; rw [ed_bd_su hz (by omega)]; simp (disch := omega) only [ed_rN]; exact r3 z d k' hz hd hk'
  · intro n' j' k' hn' hj' hk'; simp (disch := omega) only [ec_suN] at hn'; simp (disch := omega) only [ed_rN, ec_suN]; exact r4 n' j' k' hn' hj' hk'
  · intro t' k' ht'; simp (disch := omega) only [ec_suN] at ht'; refine ⟨fun hk' => ?_, fun hk' => ?_, fun hk' => ?_, fun hk' => ?_⟩ <;> simp (disch := omega) only [ed_rN, ec_suN]; exact (r5 t' k' ht').1 hk'; exact (r5 t' k' ht').2.1 hk'; exact (r5 t' k' ht').2.2.1 hk'; exact (r5 t' k' ht').2.2.2 hk'
  · intro t' k' ht'; simp (disch := omega) only [ec_suN] at ht'; refine ⟨fun hk' => ?_, fun hk' => ?_, fun hk' => ?_, fun hk' => ?_, fun hk' => ?_, fun hk' => ?_, fun hk' => ?_⟩ <;> simp (disch := omega) only [ed_rN, ec_suN]; exact (r6 t' k' ht').1 hk'; exact (r6 t' k' ht').2.1 hk'; exact (r6 t' k' ht').2.2.1 hk'; exact (r6 t' k' ht').2.2.2.1 hk'; exact (r6 t' k' ht').2.2.2.2.1 hk'; exact (r6 t' k' ht').2.2.2.2.2.1 hk'; exact (r6 t' k' ht').2.2.2.2.2.2 hk'
  · intro t' k' ht'; simp (disch := omega) only [ec_suN] at ht'; refine ⟨fun hk' => ?_, fun hk' => ?_, fun hk' => ?_, fun hk' => ?_⟩ <;> simp (disch := omega) only [ed_rN, ec_suN]; exact (r7 t' k' ht').1 hk'; exact (r7 t' k' ht').2.1 hk'; exact (r7 t' k' ht').2.2.1 hk'; exact (r7 t' k' ht').2.2.2 hk'
theorem ec_RC.turns {h : ec_Hp} {B : Nat} {σ : ec_Sg} (R : ec_RC h B σ) {v : Int} : ec_RC (ec_setI h B 11 (ec_i v)) B (ec_su σ 10 v) := by
  obtain ⟨r1, r2, r3, r4, r5, r6, r7⟩ := R
  refine ⟨?_, ?_, ?_, ?_, ?_, ?_, ?_⟩
  · simp (disch := omega) only [ed_rN, ed_rE, ec_suN, ec_suE]
    exact ⟨r1.1, r1.2.1, r1.2.2.1, r1.2.2.2.1, r1.2.2.2.2.1, r1.2.2.2.2.2.1, trivial⟩
  · simp (disch := omega) only [ed_rN, ec_suN]; exact r2
  · intro z d k' hz hd hk'; rw [ed_bd_su hz (by omega)]; simp (disch := omega) only [ed_rN]; exact r3 z d k' hz hd hk'
  · intro n' j' k' hn' hj' hk'; simp (disch := omega) only [ec_suN] at hn'; simp (disch := omega) only [ed_rN, ec_suN]; exact r4 n' j' k' hn' hj' hk'
  · intro t' k' ht'; simp (disch := omega) only [ec_suN] at ht'; refine ⟨fun hk' => ?_, fun hk' => ?_, fun hk' => ?_, fun hk' => ?_⟩ <;> simp (disch := omega) only [ed_rN, ec_suN]; exact (r5 t' k' ht').1 hk'; exact (r5 t' k' ht').2.1 hk'; exact (r5 t' k' ht').2.2.1 hk'; exact (r5 t' k' ht').2.2.2 hk'
  · intro t' k' ht'; simp (disch := omega) only [ec_suN] at ht'; refine ⟨fun hk' => ?_, fun hk' => ?_, fun hk' => ?_, fun hk' => ?_, fun hk' => ?_, fun hk' => ?_, fun hk' => ?_⟩ <;> simp (disch := omega) only [ed_rN, ec_suN]; exact (r6 t' k' ht').1 hk'; exact (r6 t' k' ht').2.1 hk'; exact (r6 t' k' ht').2.2.1 hk'; exact (r6 t' k' ht').2.2.2.1 hk'; exact (r6 t' k' ht').2.2.2.2.1 hk'; exact (r6 t' k' ht').2.2.2.2.2.1 hk'; exact (r6 t' k' ht').2.2.2.2.2.2 hk'
  · intro t' k' ht'; simp (disch := omega) only [ec_suN] at ht'; refine ⟨fun hk' => ?_, fun hk' => ?_, fun hk' => ?_, fun hk' => ?_⟩ <;> simp (disch := omega) only [ed_rN, ec_suN]; exact (r7 t' k' ht').1 hk'; exact (r7 t' k' ht').2.1 hk'; exact (r7 t' k' ht').2.2.1 hk'; exact (r7 t' k' ht').2.2.2 hk'
theorem ec_RC.door {h : ec_Hp} {B : Nat} {σ : ec_Sg} (R : ec_RC h B σ) {n j v : Int} {k : Nat} (hn : 0 ≤ n ∧ n < 10) (hj : 0 ≤ j ∧ j < 6) (hk : (k : Int) = n * 6 + j) : ec_RC (ec_setI h (B + 3) k (ec_i v)) B (ec_su σ (107 + 6 * n + j) v) := by
  obtain ⟨r1, r2, r3, r4, r5, r6, r7⟩ := R
  refine ⟨?_, ?_, ?_, ?_, ?_, ?_, ?_⟩
  · simp (disch := omega) only [ed_rN, ec_suN]; exact r1
  · simp (disch := omega) only [ed_rN, ec_suN]; exact r2
  · intro z d k' hz hd hk'; rw [ed_bd_su hz (by omega)]; simp (disch := omega) only [ed_rN]; exact r3 z d k' hz hd hk'
  · intro n' j' k' hn' hj' hk'
    simp (disch := omega) only [ec_suN] at hn'
    by_cases e : n' = n ∧ j' = j
    · simp (disch := omega) only [ed_rE, ec_suE]
    · simp (disch := omega) only [ed_rN, ec_suN]
      exact r4 n' j' k' hn' hj' hk'
  · intro t' k' ht'; simp (disch := omega) only [ec_suN] at ht'; refine ⟨fun hk' => ?_, fun hk' => ?_, fun hk' => ?_, fun hk' => ?_⟩ <;> simp (disch := omega) only [ed_rN, ec_suN]; exact (r5 t' k' ht').1 hk'; exact (r5 t' k' ht').2.1 hk'; exact (r5 t' k' ht').2.2.1 hk'; exact (r5 t' k' ht').2.2.2 hk'
  · intro t' k' ht'; simp (disch := omega) only [ec_suN] at ht'; refine ⟨fun hk' => ?_, fun hk' => ?_, fun hk' => ?_, fun hk' => ?_, fun hk' => ?_, fun hk' => ?_, fun hk' => ?_⟩ <;> simp (disch := omega) only [ed_rN, ec_suN]; exact (r6 t' k' ht').1 hk'; exact (r6 t' k' ht').2.1 hk'; exact (r6 t' k' ht').2.2.1 hk'; exact (r6 t' k' ht').2.2.2.1 hk'; exact (r6 t' k' ht').2.2.2.2.1 hk'; exact (r6 t' k' ht').2.2.2.2.2.1 hk'; exact (r6 t' k' ht').2.2.2.2.2.2 hk'
  · intro t' k' ht'; simp (disch := omega) only [ec_suN] at ht'; refine ⟨fun hk' => ?_, fun hk' => ?_, fun hk' => ?_, fun hk' => ?_⟩ <;> simp (disch := omega) only [ed_rN, ec_suN]; exact (r7 t' k' ht').1 hk'; exact (r7 t' k' ht').2.1 hk'; exact (r7 t' k' ht').2.2.1 hk'; exact (r7 t' k' ht').2.2.2 hk'
theorem ec_RC.torch {h : ec_Hp} {B : Nat} {σ : ec_Sg} (R : ec_RC h B σ) (w1 : ed_ct σ) {t j v : Int} {k : Nat} (ht : 0 ≤ t ∧ t < 6) (hj : 1 ≤ j ∧ j ≤ 2) (hk : (k : Int) = t * 4 + j + 1) : ec_RC (ec_setI h (B + 5) k (ec_i v)) B (ec_su σ (167 + 3 * t + j) v) := by
  obtain ⟨r1, r2, r3, r4, r5, r6, r7⟩ := R
  unfold ed_ct at w1
  refine ⟨?_, ?_, ?_, ?_, ?_, ?_, ?_⟩
  · simp (disch := omega) only [ed_rN, ec_suN]; exact r1
  · simp (disch := omega) only [ed_rN, ec_suN]; exact r2
  · intro z d k' hz hd hk'; rw [ed_bd_su hz (by omega)]; simp (disch := omega) only [ed_rN]; exact r3 z d k' hz hd hk'
  · intro n' j' k' hn' hj' hk'; simp (disch := omega) only [ec_suN] at hn'; simp (disch := omega) only [ed_rN, ec_suN]; exact r4 n' j' k' hn' hj' hk'
  · intro t' k' ht'
    simp (disch := omega) only [ec_suN] at ht'
    refine ⟨fun hk' => ?_, fun hk' => ?_, fun hk' => ?_, fun hk' => ?_⟩
    · simp (disch := omega) only [ed_rN, ec_suN]; exact (r5 t' k' ht').1 hk'
    · simp (disch := omega) only [ed_rN, ec_suN]; exact (r5 t' k' ht').2.1 hk'
    · by_cases e : t' = t ∧ j = 1
      · simp (disch := omega) only [ed_rE, ec_suE]
      · simp (disch := omega) only [ed_rN, ec_suN]; exact (r5 t' k' ht').2.2.1 hk'
    · by_cases e : t' = t ∧ j = 2
      · simp (disch := omega) only [ed_rE, ec_suE]
      · simp (disch := omega) only [ed_rN, ec_suN]; exact (r5 t' k' ht').2.2.2 hk'
  · intro t' k' ht'; simp (disch := omega) only [ec_suN] at ht'; refine ⟨fun hk' => ?_, fun hk' => ?_, fun hk' => ?_, fun hk' => ?_, fun hk' => ?_, fun hk' => ?_, fun hk' => ?_⟩ <;> simp (disch := omega) only [ed_rN, ec_suN]; exact (r6 t' k' ht').1 hk'; exact (r6 t' k' ht').2.1 hk'; exact (r6 t' k' ht').2.2.1 hk'; exact (r6 t' k' ht').2.2.2.1 hk'; exact (r6 t' k' ht').2.2.2.2.1 hk'; exact (r6 t' k' ht').2.2.2.2.2.1 hk'; exact (r6 t' k' ht').2.2.2.2.2.2 hk'
  · intro t' k' ht'; simp (disch := omega) only [ec_suN] at ht'; refine ⟨fun hk' => ?_, fun hk' => ?_, fun hk' => ?_, fun hk' => ?_⟩ <;> simp (disch := omega) only [ed_rN, ec_suN]; exact (r7 t' k' ht').1 hk'; exact (r7 t' k' ht').2.1 hk'; exact (r7 t' k' ht').2.2.1 hk'; exact (r7 t' k' ht').2.2.2 hk'
theorem ec_RC.trap {h : ec_Hp} {B : Nat} {σ : ec_Sg} (R : ec_RC h B σ) (w1 : ed_ct σ) {t j v : Int} {k : Nat} (ht : 0 ≤ t ∧ t < 6) (hj : 1 ≤ j ∧ j ≤ 2) (hk : (k : Int) = t * 4 + j + 1) : ec_RC (ec_setI h (B + 9) k (ec_i v)) B (ec_su σ (215 + 3 * t + j) v) := by
  obtain ⟨r1, r2, r3, r4, r5, r6, r7⟩ := R
  unfold ed_ct at w1
  refine ⟨?_, ?_, ?_, ?_, ?_, ?_, ?_⟩
  · simp (disch := omega) only [ed_rN, ec_suN]; exact r1
  · simp (disch := omega) only [ed_rN, ec_suN]; exact r2
  · intro z d k' hz hd hk'; rw [ed_bd_su hz (by omega)]; simp (disch := omega) only [ed_rN]; exact r3 z d k' hz hd hk'
  · intro n' j' k' hn' hj' hk'; simp (disch := omega) only [ec_suN] at hn'; simp (disch := omega) only [ed_rN, ec_suN]; exact r4 n' j' k' hn' hj' hk'
  · intro t' k' ht'; simp (disch := omega) only [ec_suN] at ht'; refine ⟨fun hk' => ?_, fun hk' => ?_, fun hk' => ?_, fun hk' => ?_⟩ <;> simp (disch := omega) only [ed_rN, ec_suN]; exact (r5 t' k' ht').1 hk'; exact (r5 t' k' ht').2.1 hk'; exact (r5 t' k' ht').2.2.1 hk'; exact (r5 t' k' ht').2.2.2 hk'
  · intro t' k' ht'; simp (disch := omega) only [ec_suN] at ht'; refine ⟨fun hk' => ?_, fun hk' => ?_, fun hk' => ?_, fun hk' => ?_, fun hk' => ?_, fun hk' => ?_, fun hk' => ?_⟩ <;> simp (disch := omega) only [ed_rN, ec_suN]; exact (r6 t' k' ht').1 hk'; exact (r6 t' k' ht').2.1 hk'; exact (r6 t' k' ht').2.2.1 hk'; exact (r6 t' k' ht').2.2.2.1 hk'; exact (r6 t' k' ht').2.2.2.2.1 hk'; exact (r6 t' k' ht').2.2.2.2.2.1 hk'; exact (r6 t' k' ht').2.2.2.2.2.2 hk'
  · intro t' k' ht'
    simp (disch := omega) only [ec_suN] at ht'
    refine ⟨fun hk' => ?_, fun hk' => ?_, fun hk' => ?_, fun hk' => ?_⟩
    · simp (disch := omega) only [ed_rN, ec_suN]; exact (r7 t' k' ht').1 hk'
    · simp (disch := omega) only [ed_rN, ec_suN]; exact (r7 t' k' ht').2.1 hk'
    · by_cases e : t' = t ∧ j = 1
      · simp (disch := omega) only [ed_rE, ec_suE]
      · simp (disch := omega) only [ed_rN, ec_suN]; exact (r7 t' k' ht').2.2.1 hk'
    · by_cases e : t' = t ∧ j = 2
      · simp (disch := omega) only [ed_rE, ec_suE]
      · simp (disch := omega) only [ed_rN, ec_suN]; exact (r7 t' k' ht').2.2.2 hk'
theorem ec_RC.hurt {h : ec_Hp} {B : Nat} {σ : ec_Sg} (R : ec_RC h B σ) (w1 : ed_ct σ) {m v : Int} {k : Nat} (hm : 0 ≤ m ∧ m < 6) (hk : (k : Int) = m * 8 + 7) : ec_RC (ec_setI h (B + 7) k (ec_i v)) B (ec_su σ (185 + 5 * m + 4) v) := by
  obtain ⟨r1, r2, r3, r4, r5, r6, r7⟩ := R
  unfold ed_ct at w1
  refine ⟨?_, ?_, ?_, ?_, ?_, ?_, ?_⟩
  · simp (disch := omega) only [ed_rN, ec_suN]; exact r1
  · simp (disch := omega) only [ed_rN, ec_suN]; exact r2
  · intro z d k' hz hd hk'; rw [ed_bd_su hz (by omega)]; simp (disch := omega) only [ed_rN]; exact r3 z d k' hz hd hk'
  · intro n' j' k' hn' hj' hk'; simp (disch := omega) only [ec_suN] at hn'; simp (disch := omega) only [ed_rN, ec_suN]; exact r4 n' j' k' hn' hj' hk'
  · intro t' k' ht'; simp (disch := omega) only [ec_suN] at ht'; refine ⟨fun hk' => ?_, fun hk' => ?_, fun hk' => ?_, fun hk' => ?_⟩ <;> simp (disch := omega) only [ed_rN, ec_suN]; exact (r5 t' k' ht').1 hk'; exact (r5 t' k' ht').2.1 hk'; exact (r5 t' k' ht').2.2.1 hk'; exact (r5 t' k' ht').2.2.2 hk'
  · intro t' k' ht'
    simp (disch := omega) only [ec_suN] at ht'
    obtain ⟨q0, q1, q2, q3, q4, q5, q7⟩ := r6 t' k' ht'
    refine ⟨fun hk' => ?_, fun hk' => ?_, fun hk' => ?_, fun hk' => ?_, fun hk' => ?_, fun hk' => ?_, fun hk' => ?_⟩
    · simp (disch := omega) only [ed_rN, ec_suN]; exact q0 hk'
    · simp (disch := omega) only [ed_rN, ec_suN]; exact q1 hk'
    · simp (disch := omega) only [ed_rN, ec_suN]; exact q2 hk'
    · simp (disch := omega) only [ed_rN, ec_suN]; exact q3 hk'
    · simp (disch := omega) only [ed_rN, ec_suN]; exact q4 hk'
    · simp (disch := omega) only [ed_rN, ec_suN]; exact q5 hk'
    · by_cases e : t' = m
      · simp (disch := omega) only [ed_rE, ec_suE]
      · simp (disch := omega) only [ed_rN, ec_suN]; exact q7 hk'
  · intro t' k' ht'; simp (disch := omega) only [ec_suN] at ht'; refine ⟨fun hk' => ?_, fun hk' => ?_, fun hk' => ?_, fun hk' => ?_⟩ <;> simp (disch := omega) only [ed_rN, ec_suN]; exact (r7 t' k' ht').1 hk'; exact (r7 t' k' ht').2.1 hk'; exact (r7 t' k' ht').2.2.1 hk'; exact (r7 t' k' ht').2.2.2 hk'
theorem ec_RC.goal {h : ec_Hp} {B : Nat} {σ : ec_Sg} (R : ec_RC h B σ) (w1 : ed_ct σ) {m v : Int} {k l : Nat} (hm : 0 ≤ m ∧ m < 6) (hk : (k : Int) = m * 8 + 4) (hl : (l : Int) = m * 8 + 5) : ec_RC (ec_setI (ec_setI h (B + 7) k (ec_i (ed_gc v))) (B + 7) l (ec_i (ed_gr v))) B (ec_su σ (185 + 5 * m + 3) v) := by
  obtain ⟨r1, r2, r3, r4, r5, r6, r7⟩ := R
  unfold ed_ct at w1
  refine ⟨?_, ?_, ?_, ?_, ?_, ?_, ?_⟩
  · simp (disch := omega) only [ed_rN, ec_suN]; exact r1
  · simp (disch := omega) only [ed_rN, ec_suN]; exact r2
  · intro z d k' hz hd hk'; rw [ed_bd_su hz (by omega)]; simp (disch := omega) only [ed_rN]; exact r3 z d k' hz hd hk'
  · intro n' j' k' hn' hj' hk'; simp (disch := omega) only [ec_suN] at hn'; simp (disch := omega) only [ed_rN, ec_suN]; exact r4 n' j' k' hn' hj' hk'
  · intro t' k' ht'; simp (disch := omega) only [ec_suN] at ht'; refine ⟨fun hk' => ?_, fun hk' => ?_, fun hk' => ?_, fun hk' => ?_⟩ <;> simp (disch := omega) only [ed_rN, ec_suN]; exact (r5 t' k' ht').1 hk'; exact (r5 t' k' ht').2.1 hk'; exact (r5 t' k' ht').2.2.1 hk'; exact (r5 t' k' ht').2.2.2 hk'
  · intro t' k' ht'
    simp (disch := omega) only [ec_suN] at ht'
    obtain ⟨q0, q1, q2, q3, q4, q5, q7⟩ := r6 t' k' ht'
    refine ⟨fun hk' => ?_, fun hk' => ?_, fun hk' => ?_, fun hk' => ?_, fun hk' => ?_, fun hk' => ?_, fun hk' => ?_⟩
    · simp (disch := omega) only [ed_rN, ec_suN]; exact q0 hk'
    · simp (disch := omega) only [ed_rN, ec_suN]; exact q1 hk'
    · simp (disch := omega) only [ed_rN, ec_suN]; exact q2 hk'
    · simp (disch := omega) only [ed_rN, ec_suN]; exact q3 hk'
    · by_cases e : t' = m
      · simp (disch := omega) only [ed_rN, ed_rE, ec_suE]
      · simp (disch := omega) only [ed_rN, ec_suN]; exact q4 hk'
    · by_cases e : t' = m
      · simp (disch := omega) only [ed_rE, ec_suE]
      · simp (disch := omega) only [ed_rN, ec_suN]; exact q5 hk'
    · simp (disch := omega) only [ed_rN, ec_suN]; exact q7 hk'
  · intro t' k' ht'; simp (disch := omega) only [ec_suN] at ht'; refine ⟨fun hk' => ?_, fun hk' => ?_, fun hk' => ?_, fun hk' => ?_⟩ <;> simp (disch := omega) only [ed_rN, ec_suN]; exact (r7 t' k' ht').1 hk'; exact (r7 t' k' ht').2.1 hk'; exact (r7 t' k' ht').2.2.1 hk'; exact (r7 t' k' ht').2.2.2 hk'
theorem ec_RC.mcell {h : ec_Hp} {B : Nat} {σ : ec_Sg} (R : ec_RC h B σ) (w1 : ed_ct σ) {m v : Int} {k l : Nat} (hm : 0 ≤ m ∧ m < 6) (hk : (k : Int) = m * 8) (hl : (l : Int) = m * 8 + 1) : ec_RC (ec_setI (ec_setI h (B + 7) k (ec_i (v % 8))) (B + 7) l (ec_i (v / 8))) B (ec_su σ (185 + 5 * m) v) := by
  obtain ⟨r1, r2, r3, r4, r5, r6, r7⟩ := R
  unfold ed_ct at w1
  refine ⟨?_, ?_, ?_, ?_, ?_, ?_, ?_⟩
  · simp (disch := omega) only [ed_rN, ec_suN]; exact r1
  · simp (disch := omega) only [ed_rN, ec_suN]; exact r2
  · intro z d k' hz hd hk'; rw [ed_bd_su hz (by omega)]; simp (disch := omega) only [ed_rN]; exact r3 z d k' hz hd hk'
  · intro n' j' k' hn' hj' hk'; simp (disch := omega) only [ec_suN] at hn'; simp (disch := omega) only [ed_rN, ec_suN]; exact r4 n' j' k' hn' hj' hk'
  · intro t' k' ht'; simp (disch := omega) only [ec_suN] at ht'; refine ⟨fun hk' => ?_, fun hk' => ?_, fun hk' => ?_, fun hk' => ?_⟩ <;> simp (disch := omega) only [ed_rN, ec_suN]; exact (r5 t' k' ht').1 hk'; exact (r5 t' k' ht').2.1 hk'; exact (r5 t' k' ht').2.2.1 hk'; exact (r5 t' k' ht').2.2.2 hk'
  · intro t' k' ht'
    simp (disch := omega) only [ec_suN] at ht'
    obtain ⟨q0, q1, q2, q3, q4, q5, q7⟩ := r6 t' k' ht'
    refine ⟨fun hk' => ?_, fun hk' => ?_, fun hk' => ?_, fun hk' => ?_, fun hk' => ?_, fun hk' => ?_, fun hk' => ?_⟩
    · by_cases e : t' = m
      · simp (disch := omega) only [ed_rN, ed_rE, ec_suE]
      · simp (disch := omega) only [ed_rN, ec_suN]; exact q0 hk'
    · by_cases e : t' = m
      · simp (disch := omega) only [ed_rE, ec_suE]
      · simp (disch := omega) only [ed_rN, ec_suN]; exact q1 hk'
    · simp (disch := omega) only [ed_rN, ec_suN]; exact q2 hk'
    · simp (disch := omega) only [ed_rN, ec_suN]; exact q3 hk'
    · simp (disch := omega) only [ed_rN, ec_suN]; exact q4 hk'
    · simp (disch := omega) only [ed_rN, ec_suN]; exact q5 hk'
    · simp (disch := omega) only [ed_rN, ec_suN]; exact q7 hk'
  · intro t' k' ht'; simp (disch := omega) only [ec_suN] at ht'; refine ⟨fun hk' => ?_, fun hk' => ?_, fun hk' => ?_, fun hk' => ?_⟩ <;> simp (disch := omega) only [ed_rN, ec_suN]; exact (r7 t' k' ht').1 hk'; exact (r7 t' k' ht').2.1 hk'; exact (r7 t' k' ht').2.2.1 hk'; exact (r7 t' k' ht').2.2.2 hk'
/-! prices -/
theorem ec_RC.bdr {h : ec_Hp} {B : Nat} {σ : ec_Sg} (R : ec_RC h B σ) {z d : Int} (hz : 0 ≤ z ∧ z < 48) (hd : 0 ≤ d ∧ d < 4) : ec_bdr h B z d = ec_i (ed_bd σ z d) := R.2.2.1 z d _ hz hd (by omega)
theorem ed_bd_rg {σ : ec_Sg} (w : ec_WF σ) {z d : Int} (hd : 0 ≤ d ∧ d < 4) : ed_bd σ z d = -1 ∨ 0 ≤ ed_bd σ z d ∧ ed_bd σ z d < 2 + σ 2 := by
  unfold ed_bd
  by_cases q : ec_ing σ z ∧ ec_hb σ z d
  · rw [if_pos q]
    exact Or.inr (w.2.2.1 z d q.1 hd q.2)
  · rw [if_neg q]
    exact Or.inl rfl
theorem ed_bd_bk {σ : ec_Sg} (w : ec_WF σ) {z d : Int} (hd : 0 ≤ d ∧ d < 4) : ec_bk (ec_i (ed_bd σ z d)) := by
  have w1 := w.1
  have r := ed_bd_rg w (z := z) hd
  unfold ec_bk
  rcases (show ed_bd σ z d = -1 ∨ ed_bd σ z d = 0 ∨ ed_bd σ z d = 1 ∨ 2 ≤ ed_bd σ z d by omega) with q | q | q | q
  · rw [q]; exact Or.inl rfl
  · rw [q]; exact Or.inr (Or.inl rfl)
  · rw [q]; exact Or.inr (Or.inr (Or.inl rfl))
  · refine Or.inr (Or.inr (Or.inr ⟨ed_bd σ z d - 2, by omega, ?_⟩))
    congr 1
    omega
theorem ec_RC.PB {h : ec_Hp} {B : Nat} {σ : ec_Sg} (R : ec_RC h B σ) (w : ec_WF σ) {m : Int} (hm : 0 ≤ m ∧ m ≤ 2) : ec_PB h B (ec_i m) (ed_P σ m) := by
  intro z d hz hd
  rw [R.bdr hz hd]
  refine ⟨ed_bd_bk w hd, ?_, ed_P_PP z d hz hd⟩
  have w1 := w.1
  have r := ed_bd_rg w (z := z) hd
  have db : ∀ b : Int, 2 ≤ b ∧ b < 2 + σ 2 → ec_ds h B (ec_i b) = ec_i (ec_so σ b) := by
    intro b hb
    unfold ec_ds ec_so
    rw [ec_zT (ec_rgs (by omega))]
    have := R.2.2.2.1 (b - 2) 0 ((b - 2) * 6 + 0).toNat (by omega) (by omega) (by omega)
    rw [Int.add_zero (107 + 6 * (b - 2))] at this
    exact this
  unfold ec_pr ed_P
  by_cases q : ec_ing σ z ∧ ec_hb σ z d
  · have eb : ed_bd σ z d = σ (ec_bp z d) := if_pos q
    have ea : ec_ba σ z d = σ (ec_bp z d) := if_pos q.2
    have r := w.2.2.1 z d q.1 hd q.2
    rw [if_pos q, eb]
    unfold ed_snd ed_wby ec_cq
    rw [ea]
    generalize σ (ec_bp z d) = b at r db ⊢
    have e0 : (ec_i b = ec_i 0) = (b = 0) := ec_zeqO (by omega)
    have em : (ec_i b = ec_i (-1)) = (b = -1) := ec_zeqO (by omega)
    have e1 : (ec_i b = ec_i 1) = (b = 1) := ec_zeqO (by omega)
    have m2 : (ec_i m = ec_i 2) = (m = 2) := ec_zeqO (by omega)
    have m1 : (ec_i m = ec_i 1) = (m = 1) := ec_zeqO (by omega)
    by_cases q0 : b = 0
    · simp (disch := omega) only [e0, if_pos, if_neg]
      split <;> rfl
    · by_cases q1 : b = 1
      · simp (disch := omega) only [e0, em, e1, m2, if_pos, if_neg]
        split <;> rfl
      · have so := w.so (b := b) (by omega)
        have s1 : (ec_i (ec_so σ b) = ec_i 1) = (ec_so σ b = 1) := ec_zeqO (by omega)
        have s0 : (ec_i (ec_so σ b) = ec_i 0) = (ec_so σ b = 0) := ec_zeqO (by omega)
        rw [db b (by omega)]
        by_cases q2 : ec_so σ b = 1
        · simp (disch := omega) only [e0, em, e1, m2, s1, if_pos, if_neg]
          split <;> rfl
        · by_cases q3 : m = 2
          · simp (disch := omega) only [e0, em, e1, m2, s1, if_pos, if_neg]
          · by_cases q4 : m = 1
            · by_cases q5 : ec_so σ b = 0
              · simp (disch := omega) only [e0, em, e1, m1, m2, s0, s1, if_pos, if_neg]
              · simp (disch := omega) only [e0, em, e1, m1, m2, s0, s1, if_pos, if_neg]
            · simp (disch := omega) only [e0, em, e1, m1, m2, s1, if_pos, if_neg]
  · have eb : ed_bd σ z d = -1 := if_neg q
    rw [eb, if_neg q, if_neg (by decide), if_pos rfl]
