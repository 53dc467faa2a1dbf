/-! The class's turn over the row: doors, torches, hurts, springs. -/
theorem ed_su_v {σ : ec_Sg} {k v : Int} (e : σ k = v) : ec_su σ k v = σ := by rw [← e, ed_su_id]
theorem ed_su_co {σ : ec_Sg} {a b x y : Int} (h : a ≠ b) : ec_su (ec_su σ a x) b y = ec_su (ec_su σ b y) a x := by
  funext j
  unfold ec_su
  by_cases q : j = b
  · rw [if_pos q, if_neg (by omega), if_pos q]
  · rw [if_neg q]
    by_cases q2 : j = a
    · rw [if_pos q2, if_pos q2]
    · rw [if_neg q2, if_neg q2, if_neg q]
/-- a border's door -/
theorem ed_dn {σ : ec_Sg} (w : ec_WF σ) {z d : Int} (hz : ec_ing σ z) (hd : 0 ≤ d ∧ d < 4) : ec_dn (ec_i (ed_bd σ z d)) = if 1 < ec_ba σ z d then ec_ba σ z d - 2 else -1 := by
  have w1 := w.1
  have r := ed_bd_rg w (z := z) hd
  unfold ec_dn
  rw [ec_zT (ec_rgs (by omega))]
  unfold ed_bd ec_ba at *
  by_cases hb : ec_hb σ z d
  · rw [if_pos (show ec_ing σ z ∧ ec_hb σ z d from ⟨hz, hb⟩)] at *
    rw [if_pos hb]
    by_cases q : 1 < σ (ec_bp z d)
    · rw [if_neg (by omega), if_pos q]
    · rw [if_pos (by omega), if_neg q]
  · rw [if_neg (fun y : ec_ing σ z ∧ ec_hb σ z d => hb y.2), if_neg hb]
    rw [if_pos (by omega), if_neg (by omega)]
theorem ec_RC.dv {h : ec_Hp} {B : Nat} {σ : ec_Sg} (R : ec_RC h B σ) {n j : Int} {k : Nat} (hn : 0 ≤ n ∧ n < σ 2) (hj : 0 ≤ j ∧ j < 6) (hk : (k : Int) = n * 6 + j) : h.2.1 (B + 3) k = ec_i (σ (107 + 6 * n + j)) := R.2.2.2.1 n j k hn hj hk
theorem ec_RC.td {h : ec_Hp} {B : Nat} {σ : ec_Sg} (R : ec_RC h B σ) (w : ec_WF σ) {n v : Int} (hn : 0 ≤ n ∧ n < σ 2) (hv : 0 ≤ v ∧ v ≤ 2) : ec_RC (ec_td h B n (ec_i v)) B (ed_puts σ n v) := by
  have w1 := w.1
  have e1 : (ec_i v = ec_i 1) = (v = 1) := ec_zeqO (by omega)
  unfold ec_td ed_puts
  have a := R.door (n := n) (j := 0) (v := v) (k := (n * ((6 : Nat) : Int) + 0).toNat) (by omega) (by omega) (by omega)
  rw [Int.add_zero (107 + 6 * n)] at a
  have b := fun y => a.door (n := n) (j := 5) (v := y) (k := (n * ((6 : Nat) : Int) + 5).toNat) (by omega) (by omega) (by omega)
  by_cases q : v = 1
  · rw [if_pos (e1 ▸ q), if_pos q, R.dv hn (j := 1) (by omega) (by omega)]
    exact b _
  · rw [if_neg (fun y => q (e1 ▸ y)), if_neg q]
    exact b _
theorem ec_DN.td {h : ec_Hp} {B : Nat} {n : Int} {v : Int32} (hD : ec_DN h B) : ec_DN (ec_td h B n v) B := (hD.V (by omega)).V (by omega)
theorem ec_RC.ps {h : ec_Hp} {B : Nat} {σ : ec_Sg} (R : ec_RC h B σ) (w : ec_WF σ) {b v : Int} (hb : 1 < b ∧ b < 2 + σ 2) : ec_RC (ec_ps h B (b - 2) (ec_i v)) B (ed_pass σ b v) := by
  have w1 := w.1
  unfold ec_ps ed_pass
  rw [if_pos hb.1]
  have a := R.door (n := b - 2) (j := 3) (v := v) (k := ((b - 2) * ((6 : Nat) : Int) + 3).toNat) (by omega) (by omega) (by omega)
  have c := a.door (n := b - 2) (j := 4) (v := σ (107 + 6 * (b - 2) + 4) + 1) (k := ((b - 2) * ((6 : Nat) : Int) + 4).toNat) (by omega) (by omega) (by omega)
  rw [R.dv (n := b - 2) (j := 4) (by omega) (by omega) (by omega), ec_zadd]
  exact c
theorem ec_c22s {h : ec_Hp} {B : Nat} {σ : ec_Sg} (hD : ec_DN h B) (R : ec_RC h B σ) (w : ec_WF σ) {z d v : Int} (hz : ec_ing σ z) (hd : 0 ≤ d ∧ d < 4) : ∃ h', ec_om 22 0 [.ref B, .int (ec_i z), .int (ec_i d), .int (ec_i v), .double 0] [] h = some (.inl none, h') ∧ ec_RC h' B (ed_pass σ (ec_ba σ z d) v) ∧ ec_DN h' B ∧ ec_fg (fun q _ => q = B + 3) h h' := by
  have e := ec_c22 (who := ec_i v) hD hz.1 hd (by rw [R.bdr hz.1 hd]; exact ed_bd_bk w hd)
  have ba := w.ba hz hd
  rw [R.bdr hz.1 hd, ed_dn w hz hd] at e
  by_cases q : 1 < ec_ba σ z d
  · rw [if_pos q, if_neg (by omega)] at e
    exact ⟨_, e, R.ps w ⟨q, ba.2⟩, (hD.V (by omega)).V (by omega), (ec_fg.refl.I (by rfl)).I (by rfl)⟩
  · rw [if_neg q, if_pos rfl] at e
    refine ⟨_, e, ?_, hD, ec_fg.refl⟩
    unfold ed_pass
    rw [if_neg q]
    exact R
theorem ec_c20s {h : ec_Hp} {B : Nat} {σ : ec_Sg} (hD : ec_DN h B) (R : ec_RC h B σ) (w : ec_WF σ) {z d : Int} (hz : ec_ing σ z) (hd : 0 ≤ d ∧ d < 4) : ec_om 20 0 [.ref B, .int (ec_i z), .int (ec_i d), .double 0] [] h = some (.inl (some (.int (ec_i (if 1 < ec_ba σ z d then ec_ba σ z d - 2 else -1)))), h) := by
  have e := ec_c20 hD hz.1 hd (by rw [R.bdr hz.1 hd]; exact ed_bd_bk w hd)
  rw [R.bdr hz.1 hd, ed_dn w hz hd] at e
  exact e
theorem ec_c19s {h : ec_Hp} {B : Nat} {σ : ec_Sg} (hD : ec_DN h B) (R : ec_RC h B σ) (w : ec_WF σ) {z d : Int} (hz : ec_ing σ z) (hd : 0 ≤ d ∧ d < 4) : ec_om 19 0 [.ref B, .int (ec_i z), .int (ec_i d)] [] h = some (.inl (some (.int (ec_i (ec_q (ec_cq σ z d))))), h) := by
  have e := ec_c19P hD (R.PB w (m := 0) (by omega)) hz.1 hd
  have p := ed_P0 (d := d) hz
  by_cases q : ec_cq σ z d
  · rw [if_neg (fun y => p.mp y q)] at e
    rw [ec_qt q]
    exact e
  · rw [if_pos (p.mpr q)] at e
    rw [ec_qf q]
    exact e
theorem ec_c57s {h : ec_Hp} {T B : Nat} {σ : ec_Sg} (hT : ec_isK h T 5 = true) (hD : ec_DN h B) (R : ec_RC h B σ) (w : ec_WF σ) {a : Int} (ha : 0 ≤ a ∧ a < 16) : ec_om 57 0 [.ref T, .ref B, .int (ec_i a)] [] h = some (.inl (some (.int (ec_i (ed_rsn σ a)))), h) := by
  have H := w.2.1
  have w1 := w.1
  have e := ec_c57 hT hD (R.PB w (m := 0) (by omega)) H.1.1 ha R.1.2.2.1
  rw [e]
  congr 5
  have ba := w.ba H.1 (d := a % 4) (by omega)
  unfold ec_obs ed_rsn
  rw [R.bdr H.1.1 (d := a % 4) (by omega), ed_dn w H.1 (by omega), R.1.2.2.2.1, R.1.2.2.2.2.1, R.1.2.2.2.2.2.1]
  have l0 : (ec_i 0 < ec_i (σ 7)) = (0 < σ 7) := ec_zltO (by omega)
  have f0 : (ec_i 0 < ec_i (σ 8)) = (0 < σ 8) := ec_zltO (by omega)
  have t0 : (ec_i (σ 9) = ec_i 0) = (σ 9 = 0) := ec_zeqO (by omega)
  have dob : ∀ v : Int, 0 ≤ v ∧ v ≤ 1 → ec_dob (if 1 < ec_ba σ (σ 6) (a % 4) then ec_ba σ (σ 6) (a % 4) - 2 else -1) (ec_dst h B (if 1 < ec_ba σ (σ 6) (a % 4) then ec_ba σ (σ 6) (a % 4) - 2 else -1)) (ec_i v) = ec_i (if ¬ 1 < ec_ba σ (σ 6) (a % 4) then 3 else if ec_so σ (ec_ba σ (σ 6) (a % 4)) = 2 then 4 else if ec_so σ (ec_ba σ (σ 6) (a % 4)) = v then 5 else 0) := by
    intro v hv
    by_cases q : 1 < ec_ba σ (σ 6) (a % 4)
    · rw [if_pos q, if_neg (show ¬ ¬ 1 < ec_ba σ (σ 6) (a % 4) from fun y => y q)]
      have so := w.so (b := ec_ba σ (σ 6) (a % 4)) (by omega)
      have ds : ec_dst h B (ec_ba σ (σ 6) (a % 4) - 2) = ec_i (ec_so σ (ec_ba σ (σ 6) (a % 4))) := by
        unfold ec_dst ec_so
        rw [R.dv (n := ec_ba σ (σ 6) (a % 4) - 2) (j := 0) (by omega) (by omega) (by omega), Int.add_zero]
      rw [ds]
      unfold ec_dob
      have s2 : (ec_i (ec_so σ (ec_ba σ (σ 6) (a % 4))) = ec_i 2) = (ec_so σ (ec_ba σ (σ 6) (a % 4)) = 2) := ec_zeqO (by omega)
      have sv : (ec_i (ec_so σ (ec_ba σ (σ 6) (a % 4))) = ec_i v) = (ec_so σ (ec_ba σ (σ 6) (a % 4)) = v) := ec_zeqO (by omega)
      simp (disch := omega) only [s2, sv, if_neg]
      split
      · rfl
      · split <;> rfl
    · rw [if_neg q, if_pos (show ¬ 1 < ec_ba σ (σ 6) (a % 4) from q)]
      unfold ec_dob
      rw [if_pos rfl]
  by_cases q0 : σ 7 = 0
  · rw [if_pos q0]
    simp (disch := omega) only [l0, if_neg]
  · rw [if_neg q0]
    by_cases q1 : a < 4
    · have p := ed_P0 (d := a) H.1
      simp (disch := omega) only [l0, if_pos]
      by_cases q2 : ec_cq σ (σ 6) a
      · rw [if_neg (fun y => p.mp y q2), if_pos q2]
      · rw [if_pos (p.mpr q2), if_neg q2]
    · by_cases q2 : a < 8
      · simp (disch := omega) only [l0, if_pos, if_neg]
        have := dob 1 (by omega)
        exact this
      · by_cases q3 : a < 12
        · simp (disch := omega) only [l0, if_pos, if_neg]
          have := dob 0 (by omega)
          exact this
        · by_cases q4 : a = 13
          · by_cases q5 : σ 8 = 0
            · simp (disch := omega) only [l0, f0, t0, if_pos, if_neg]
            · by_cases q6 : σ 9 = 1
              · simp (disch := omega) only [l0, f0, t0, if_pos, if_neg]
              · simp (disch := omega) only [l0, f0, t0, if_pos, if_neg]
          · by_cases q5 : a = 14
            · by_cases q6 : σ 9 = 0
              · simp (disch := omega) only [l0, f0, t0, if_pos, if_neg]
              · simp (disch := omega) only [l0, f0, t0, if_pos, if_neg]
            · simp (disch := omega) only [l0, if_pos, if_neg]
/-! life -/
theorem ec_RC.lose {h : ec_Hp} {B : Nat} {σ : ec_Sg} (R : ec_RC h B σ) (w : ec_WF σ) : ec_RC (ec_lose h B) B (ed_hit σ) := by
  have l := w.2.1.2.1
  unfold ec_lose ed_hit
  rw [R.1.2.2.2.1, ec_zsub]
  have l0 : (ec_i 0 < ec_i (σ 7 - 1)) = (0 < σ 7 - 1) := ec_zltO (by omega)
  have e : (if ec_i 0 < ec_i (σ 7 - 1) then ec_i (σ 7 - 1) else ec_i 0) = ec_i (if 0 < σ 7 then σ 7 - 1 else 0) := by
    by_cases q : 0 < σ 7 - 1
    · simp (disch := omega) only [l0, if_pos]
    · simp (disch := omega) only [l0, if_neg]
      by_cases q2 : 0 < σ 7
      · rw [if_pos q2]
        congr 1
        omega
      · rw [if_neg q2]
  rw [e]
  exact R.life
theorem ec_hurt_s {B : Nat} : ∀ (n : Nat) (m : Int) (σ : ec_Sg) (h : ec_Hp), ec_RC h B σ → ec_WF σ → ec_DN h B → 0 ≤ m → m + n = σ 4 → ec_RC (ec_hurt B n m h) B (ed_fold ed_hrt1 n m σ) ∧ ec_DN (ec_hurt B n m h) B ∧ ec_fg (fun q _ => q = B ∨ q = B + 7) h (ec_hurt B n m h) := by
  intro n
  induction n with
  | zero => intro m σ h R w hD h0 hm; exact ⟨R, hD, ec_fg.refl⟩
  | succ n ih =>
    intro m σ h R w hD h0 hm
    have w1 := w.1
    have M := (ed_mon w (m := m) (by omega)).1.1
    have H := w.2.1.1.1
    rw [show ec_hurt B (n + 1) m h = ec_hurt B n (m + 1) (if ec_pl h (B + 7) 8 m = h.2.1 B 7 then ec_lose (ec_rais h (B + 7) 8 m 7 (ec_i 1)) B else h) from rfl, show ed_fold ed_hrt1 (n + 1) m σ = ed_fold ed_hrt1 n (m + 1) (ed_hrt1 σ m) from rfl]
    have wf := ed_WF_hrt1 w (m := m) (by omega)
    have pe : (ec_pl h (B + 7) 8 m = h.2.1 B 7) = (σ (185 + 5 * m) = σ 6) := by
      rw [R.mpl (by omega), R.1.2.2.1]
      exact ec_zeqO (by omega)
    unfold ed_hrt1 at wf ⊢
    by_cases q : σ (185 + 5 * m) = σ 6
    · rw [if_pos q] at wf ⊢
      rw [if_pos (pe ▸ q)]
      have v7 := (R.mv (m := m) (by omega)).2.2.2.2
      have R1 : ec_RC (ec_rais h (B + 7) 8 m 7 (ec_i 1)) B (ec_su σ (185 + 5 * m + 4) (σ (185 + 5 * m + 4) + 1)) := by
        unfold ec_rais
        have v7 : h.2.1 (B + 7) (m * ((8 : Nat) : Int) + 7).toNat = ec_i (σ (185 + 5 * m + 4)) := v7
        rw [v7, ec_zadd]
        exact R.hurt w.ct (by omega) (by omega)
      have w1' : ec_WF (ec_su σ (185 + 5 * m + 4) (σ (185 + 5 * m + 4) + 1)) := by
        have M := ed_mon w (m := m) (by omega)
        refine ed_WF_mo w (m := m) (by omega) (fun j hj => by simp (disch := omega) only [ec_suN]) (fun _ => ?_)
        simp (disch := omega) only [ec_suN, ec_suE]
        exact M
      have D1 : ec_DN (ec_rais h (B + 7) 8 m 7 (ec_i 1)) B := hD.V (by omega)
      have F1 : ec_fg (fun q _ => q = B ∨ q = B + 7) h (ec_rais h (B + 7) 8 m 7 (ec_i 1)) := ec_fg.refl.I (Or.inr rfl)
      have F2 : ec_fg (fun q _ => q = B ∨ q = B + 7) h (ec_lose (ec_rais h (B + 7) 8 m 7 (ec_i 1)) B) := F1.I (Or.inl rfl)
      obtain ⟨a1, a2, a3⟩ := ih (m + 1) _ _ (R1.lose w1') wf D1.O (by omega) (by rw [ed_hit_c (by omega), ec_suN (by omega)]; omega)
      exact ⟨a1, a2, F2.trans a3⟩
    · rw [if_neg q] at wf ⊢
      rw [if_neg (fun y => q (pe ▸ y))]
      exact ih (m + 1) σ h R w hD (by omega) (by omega)
/-! torches -/
theorem ed_brn1_0 {σ : ec_Sg} {t : Int} (h : σ (167 + 3 * t + 2) = 0) : ed_brn1 σ t = σ := by
  unfold ed_brn1
  rw [h, Int.sub_zero, ed_su_id]
  refine ed_su_v ?_
  rw [h]
  split <;> rfl
theorem ec_burn_s {B : Nat} : ∀ (n : Nat) (t : Int) (σ : ec_Sg) (h : ec_Hp), ec_RC h B σ → ec_WF σ → ec_DN h B → 0 ≤ t → t + n = σ 3 → ec_RC (ec_burn B n t h) B (ed_fold ed_brn1 n t σ) ∧ ec_DN (ec_burn B n t h) B ∧ ec_fg (fun q _ => q = B + 5) h (ec_burn B n t h) := by
  intro n
  induction n with
  | zero => intro t σ h R w hD h0 hm; exact ⟨R, hD, ec_fg.refl⟩
  | succ n ih =>
    intro t σ h R w hD h0 hm
    have w1 := w.1
    have D := ed_torch w (t := t) (by omega)
    rw [show ec_burn B (n + 1) t h = ec_burn B n (t + 1) (if h.2.1 (B + 5) (t * ((4 : Nat) : Int) + 3).toNat = ec_i 1 then ec_burn1 B t h else h) from rfl, show ed_fold ed_brn1 (n + 1) t σ = ed_fold ed_brn1 n (t + 1) (ed_brn1 σ t) from rfl]
    have wf := ed_WF_brn1 w (t := t) (by omega)
    have c3 := ed_brn1_c (σ := σ) (t := t) (c := 3) (by omega) (by omega)
    have v3 : h.2.1 (B + 5) (t * ((4 : Nat) : Int) + 3).toNat = ec_i (σ (167 + 3 * t + 2)) := (R.2.2.2.2.1 t _ (by omega)).2.2.2 (by omega)
    have v2 : h.2.1 (B + 5) (t * ((4 : Nat) : Int) + 2).toNat = ec_i (σ (167 + 3 * t + 1)) := (R.2.2.2.2.1 t _ (by omega)).2.2.1 (by omega)
    have pe : (h.2.1 (B + 5) (t * ((4 : Nat) : Int) + 3).toNat = ec_i 1) = (σ (167 + 3 * t + 2) = 1) := by
      rw [v3]
      exact ec_zeqO (by omega)
    by_cases q : σ (167 + 3 * t + 2) = 1
    · rw [if_pos (pe ▸ q)]
      have R1 : ec_RC (ec_burn1 B t h) B (ed_brn1 σ t) := by
        unfold ec_burn1 ed_brn1
        have ra : ec_rais h (B + 5) 4 t 2 (ec_i (-1)) = ec_setI h (B + 5) (t * ((4 : Nat) : Int) + 2).toNat (ec_i (σ (167 + 3 * t + 1) - σ (167 + 3 * t + 2))) := by
          unfold ec_rais
          rw [v2, ec_zadd, q]
          congr 2
        rw [ra, ec_rwS]
        have l0 : (ec_i 0 < ec_i (σ (167 + 3 * t + 1) - σ (167 + 3 * t + 2))) = (0 < σ (167 + 3 * t + 1) - σ (167 + 3 * t + 2)) := ec_zltO (by omega)
        have e : (if ec_i 0 < ec_i (σ (167 + 3 * t + 1) - σ (167 + 3 * t + 2)) then ec_i 1 else ec_i 0) = ec_i (if σ (167 + 3 * t + 1) - σ (167 + 3 * t + 2) = 0 then 0 else σ (167 + 3 * t + 2)) := by
          by_cases q2 : σ (167 + 3 * t + 1) - σ (167 + 3 * t + 2) = 0
          · rw [if_pos q2]
            simp (disch := omega) only [l0, if_neg]
          · rw [if_neg q2]
            simp (disch := omega) only [l0, if_pos]
            rw [q]
        rw [e]
        have R0 := R.torch w.ct (t := t) (j := 1) (v := σ (167 + 3 * t + 1) - σ (167 + 3 * t + 2)) (k := (t * ((4 : Nat) : Int) + 2).toNat) (by omega) (by omega) (by omega)
        exact R0.torch (by unfold ed_ct; simp (disch := omega) only [ec_suN]; exact w.ct) (by omega) (by omega) (by omega)
      obtain ⟨a1, a2, a3⟩ := ih (t + 1) _ _ R1 wf ((hD.V (by omega)).V (by omega)) (by omega) (by rw [c3]; omega)
      exact ⟨a1, a2, ((ec_fg.refl.I (by rfl)).I (by rfl)).trans a3⟩
    · rw [if_neg (fun y => q (pe ▸ y)), ed_brn1_0 (by omega)]
      exact ih (t + 1) σ h R w hD (by omega) (by omega)
theorem ed_brn1_l {σ : ec_Sg} {t : Int} (ht : 0 ≤ t) : ed_brn1 (ed_lmp σ) t = ed_lmp (ed_brn1 σ t) := by
  unfold ed_brn1 ed_lmp
  simp (disch := omega) only [ec_suN]
  rw [ed_su_co (a := 9) (b := 167 + 3 * t + 1) (by omega), ed_su_co (a := 8) (b := 167 + 3 * t + 1) (by omega), ed_su_co (a := 9) (b := 167 + 3 * t + 2) (by omega), ed_su_co (a := 8) (b := 167 + 3 * t + 2) (by omega)]
theorem ed_brn_l : ∀ (n : Nat) (t : Int) (σ : ec_Sg), 0 ≤ t → ed_fold ed_brn1 n t (ed_lmp σ) = ed_lmp (ed_fold ed_brn1 n t σ)
  | 0, _, _, _ => rfl
  | n + 1, t, σ, ht => by
    rw [show ed_fold ed_brn1 (n + 1) t (ed_lmp σ) = ed_fold ed_brn1 n (t + 1) (ed_brn1 (ed_lmp σ) t) from rfl, ed_brn1_l ht, ed_brn_l n (t + 1) _ (by omega)]
    rfl
theorem ec_RC.lamp {h : ec_Hp} {B : Nat} {σ : ec_Sg} (R : ec_RC h B σ) (w : ec_WF σ) : ec_RC (ec_lamp h B) B (ed_lmp σ) := by
  have l := w.2.1
  unfold ec_lamp ed_lmp
  rw [R.1.2.2.2.2.2.1, R.1.2.2.2.2.1, ec_zsub]
  have l0 : (ec_i 0 < ec_i (σ 8 - 1)) = (0 < σ 8 - 1) := ec_zltO (by omega)
  have t0 : (ec_i (σ 9) = ec_i 0) = (σ 9 = 0) := ec_zeqO (by omega)
  by_cases q : σ 9 = 0
  · rw [if_pos (t0 ▸ q), q, Int.sub_zero, ed_su_id, ed_su_v]
    · exact R
    · rw [q]; split <;> rfl
  · have q1 : σ 9 = 1 := by omega
    rw [if_neg (fun y => q (t0 ▸ y)), q1]
    by_cases q2 : σ 8 - 1 = 0
    · rw [if_pos q2]
      simp (disch := omega) only [l0, if_neg]
      exact R.fuel.lit
    · rw [if_neg q2]
      simp (disch := omega) only [l0, if_pos]
      exact R.fuel.lit
theorem ec_c65s {h : ec_Hp} {B : Nat} {σ : ec_Sg} (hD : ec_DN h B) (R : ec_RC h B σ) (w : ec_WF σ) : ∃ h', ec_om 65 0 [.ref B, .double 0] [] h = some (.inl none, h') ∧ ec_RC h' B (ed_brn σ) ∧ ec_DN h' B ∧ ec_fg (fun q _ => q = B ∨ q = B + 5) h h' := by
  have w1 := w.1
  have e := ec_c65 (N := σ 3) (by omega) hD R.2.1.2.1
  have wl := ed_WF_lmp w
  have l3 : ed_lmp σ 3 = σ 3 := by unfold ed_lmp; rw [ec_suN (by omega), ec_suN (by omega)]
  have D1 : ec_DN (ec_lamp h B) B := by
    unfold ec_lamp
    split
    · exact hD
    · exact hD.O.O
  have F1 : ec_fg (fun q _ => q = B ∨ q = B + 5) h (ec_lamp h B) := by
    unfold ec_lamp
    split
    · exact ec_fg.refl
    · exact (ec_fg.refl.I (Or.inl rfl)).I (Or.inl rfl)
  obtain ⟨a1, a2, a3⟩ := ec_burn_s (σ 3).toNat 0 (ed_lmp σ) (ec_lamp h B) (R.lamp w) wl D1 (by omega) (by rw [l3]; omega)
  rw [ed_brn_l _ _ _ (by omega)] at a1
  exact ⟨_, e, a1, a2, F1.trans (a3.mono (fun q j e => Or.inr e))⟩
theorem ec_c68s {h : ec_Hp} {B : Nat} {σ : ec_Sg} (hD : ec_DN h B) (R : ec_RC h B σ) (w : ec_WF σ) : ∃ h', ec_om 68 0 [.ref B, .double 0] [] h = some (.inl none, h') ∧ ec_RC h' B (ed_hrt σ) ∧ ec_DN h' B ∧ ec_fg (fun q _ => q = B ∨ q = B + 7) h h' := by
  have w1 := w.1
  have e := ec_c68 (N := σ 4) (by omega) hD R.2.1.2.2.1
  obtain ⟨a1, a2, a3⟩ := ec_hurt_s (σ 4).toNat 0 σ h R w hD (by omega) (by omega)
  exact ⟨_, e, a1, a2, a3⟩
/-! springs -/
theorem ec_work_s {B : Nat} : ∀ (n : Nat) (k : Int) (σ : ec_Sg) (h : ec_Hp), ec_RC h B σ → ec_WF σ → ec_DN h B → 0 ≤ k → k + n = σ 2 → ec_RC (ec_work B n k h) B (ed_fold ed_drs1 n k σ) ∧ ec_DN (ec_work B n k h) B ∧ ec_fg (fun q _ => q = B + 3) h (ec_work B n k h) := by
  intro n
  induction n with
  | zero => intro k σ h R w hD h0 hm; exact ⟨R, hD, ec_fg.refl⟩
  | succ n ih =>
    intro k σ h R w hD h0 hm
    have w1 := w.1
    have D := ed_door w (n := k) (by omega)
    rw [show ec_work B (n + 1) k h = ec_work B n (k + 1) (if h.2.1 (B + 3) (k * ((6 : Nat) : Int) + 0).toNat = ec_i 1 ∧ ec_i 0 < h.2.1 (B + 3) (k * ((6 : Nat) : Int) + 1).toNat then ec_work1 B k h else h) from rfl, show ed_fold ed_drs1 (n + 1) k σ = ed_fold ed_drs1 n (k + 1) (ed_drs1 σ k) from rfl]
    have wf := ed_WF_drs1 w (k := k) (by omega)
    have v0 := R.dv (n := k) (j := 0) (k := (k * ((6 : Nat) : Int) + 0).toNat) (by omega) (by omega) (by omega)
    have v1 := R.dv (n := k) (j := 1) (k := (k * ((6 : Nat) : Int) + 1).toNat) (by omega) (by omega) (by omega)
    have v5 := R.dv (n := k) (j := 5) (k := (k * ((6 : Nat) : Int) + 5).toNat) (by omega) (by omega) (by omega)
    rw [Int.add_zero (107 + 6 * k)] at v0
    have p0 : (ec_i (σ (107 + 6 * k)) = ec_i 1) = (σ (107 + 6 * k) = 1) := ec_zeqO (by omega)
    have p1 : (ec_i 0 < ec_i (σ (107 + 6 * k + 1))) = (0 < σ (107 + 6 * k + 1)) := ec_zltO (by omega)
    rw [v0, v1]
    by_cases q : σ (107 + 6 * k) = 1 ∧ 0 < σ (107 + 6 * k + 1)
    · rw [if_pos (show ec_i (σ (107 + 6 * k)) = ec_i 1 ∧ ec_i 0 < ec_i (σ (107 + 6 * k + 1)) from ⟨p0 ▸ q.1, p1 ▸ q.2⟩)]
      have ra : ec_rais h (B + 3) 6 k 5 (ec_i (-1)) = ec_setI h (B + 3) (k * ((6 : Nat) : Int) + 5).toNat (ec_i (σ (107 + 6 * k + 5) - 1)) := by
        unfold ec_rais
        rw [v5, ec_zadd]
        congr 2
      have R0 := R.door (n := k) (j := 5) (v := σ (107 + 6 * k + 5) - 1) (k := (k * ((6 : Nat) : Int) + 5).toNat) (by omega) (by omega) (by omega)
      have D0 : ec_DN (ec_setI h (B + 3) (k * ((6 : Nat) : Int) + 5).toNat (ec_i (σ (107 + 6 * k + 5) - 1))) B := hD.V (by omega)
      have F0 : ec_fg (fun q _ => q = B + 3) h (ec_setI h (B + 3) (k * ((6 : Nat) : Int) + 5).toNat (ec_i (σ (107 + 6 * k + 5) - 1))) := ec_fg.refl.I (by rfl)
      have l0 : (ec_i 0 < ec_i (σ (107 + 6 * k + 5) - 1)) = (0 < σ (107 + 6 * k + 5) - 1) := ec_zltO (by omega)
      have key : ec_RC (ec_work1 B k h) B (ed_drs1 σ k) ∧ ec_DN (ec_work1 B k h) B ∧ ec_fg (fun q _ => q = B + 3) h (ec_work1 B k h) := by
        unfold ec_work1 ed_drs1
        rw [ra, ec_rwS, if_pos q]
        by_cases q2 : σ (107 + 6 * k + 5) - 1 = 0
        · rw [if_pos q2]
          simp (disch := omega) only [l0, if_neg]
          have R1 := R0.door (n := k) (j := 0) (v := 0) (k := (k * ((6 : Nat) : Int) + 0).toNat) (by omega) (by omega) (by omega)
          have R2 := R1.door (n := k) (j := 5) (v := 0) (k := (k * ((6 : Nat) : Int) + 5).toNat) (by omega) (by omega) (by omega)
          rw [Int.add_zero (107 + 6 * k)] at R2
          rw [ed_su_v (σ := ec_su (ec_su σ (107 + 6 * k + 5) (σ (107 + 6 * k + 5) - 1)) (107 + 6 * k) 0) (k := 107 + 6 * k + 5) (v := 0) (by rw [ec_suN (by omega), ec_suE rfl]; exact q2)] at R2
          refine ⟨?_, D0.td, (F0.I (by rfl)).I (by rfl)⟩
          unfold ec_td
          rw [if_neg (by decide)]
          exact R2
        · rw [if_neg q2]
          simp (disch := omega) only [l0, if_pos]
          rw [ed_su_v (σ := ec_su σ (107 + 6 * k + 5) (σ (107 + 6 * k + 5) - 1)) (k := 107 + 6 * k) (v := 1) (by rw [ec_suN (by omega)]; exact q.1)]
          exact ⟨R0, D0, F0⟩
      obtain ⟨k1, k2, k3⟩ := key
      obtain ⟨a1, a2, a3⟩ := ih (k + 1) _ _ k1 wf k2 (by omega) (by
        unfold ed_drs1
        rw [if_pos q, ec_suN (by omega), ec_suN (by omega)]
        omega)
      exact ⟨a1, a2, k3.trans a3⟩
    · rw [if_neg (fun y : ec_i (σ (107 + 6 * k)) = ec_i 1 ∧ ec_i 0 < ec_i (σ (107 + 6 * k + 1)) => q ⟨p0 ▸ y.1, p1 ▸ y.2⟩)]
      have e0 : ed_drs1 σ k = σ := if_neg q
      rw [e0]
      exact ih (k + 1) σ h R w hD (by omega) (by omega)
theorem ec_c69s {h : ec_Hp} {B : Nat} {σ : ec_Sg} (hD : ec_DN h B) (R : ec_RC h B σ) (w : ec_WF σ) : ∃ h', ec_om 69 0 [.ref B, .double 0, .double 0] [] h = some (.inl none, h') ∧ ec_RC h' B (ed_drs σ) ∧ ec_DN h' B ∧ ec_fg (fun q _ => q = B + 3) h h' := by
  have w1 := w.1
  have e := ec_c69 (N := σ 2) (by omega) hD R.2.1.1
  obtain ⟨a1, a2, a3⟩ := ec_work_s (σ 2).toNat 0 σ h R w hD (by omega) (by omega)
  exact ⟨_, e, a1, a2, a3⟩
