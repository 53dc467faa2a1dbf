/-! Contracts of the reference: light. -/
noncomputable def ed_q (p : Prop) : Int := @ec_q p (Classical.propDecidable p)
theorem ed_qt {p : Prop} (h : p) : ed_q p = 1 := @ec_qt p (Classical.propDecidable p) h
theorem ed_qf {p : Prop} (h : ¬ p) : ed_q p = 0 := @ec_qf p (Classical.propDecidable p) h
theorem ed_q_eq {p : Prop} [d : Decidable p] : ed_q p = ec_q p := @ec_q_c p p (Classical.propDecidable p) d Iff.rfl
theorem ed_q_c {p r : Prop} (h : p ↔ r) : ed_q p = ed_q r := @ec_q_c p r (Classical.propDecidable p) (Classical.propDecidable r) h
theorem ed_q_rg {p : Prop} : 0 ≤ ed_q p ∧ ed_q p ≤ 1 := @ec_q_rg p (Classical.propDecidable p)
def ed_rch (σ : ec_Sg) (g : Int) : Nat → Int → Prop
  | 0, z => z = g
  | n + 1, z => ed_rch σ g n z ∨ ∃ u d : Int, (0 ≤ d ∧ d < 4) ∧ ed_rch σ g n u ∧ ec_cq σ u d ∧ ec_nb u d = z
theorem ed_cq_hb {σ : ec_Sg} {z d : Int} (h : ec_cq σ z d) : ec_hb σ z d := by
  apply Classical.byContradiction
  intro hb
  have e : ec_ba σ z d = 1 := if_neg hb
  unfold ec_cq at h
  rw [e] at h
  omega
theorem ed_rch_in {σ : ec_Sg} (w : ec_WF σ) {g : Int} (hg : ec_ing σ g) : ∀ (n : Nat) (z : Int), ed_rch σ g n z → ec_ing σ z
  | 0, z, h => by
    have e : z = g := h
    rw [e]; exact hg
  | n + 1, z, h => by
    rcases h with h | ⟨u, d, hd, h1, h2, h3⟩
    · exact ed_rch_in w hg n z h
    · rw [← h3]
      exact ec_nb_in w (ed_rch_in w hg n u h1) hd (ed_cq_hb h2)
theorem ed_rch_mono {σ : ec_Sg} {g z : Int} {n : Nat} (h : ed_rch σ g n z) : ∀ k, ed_rch σ g (n + k) z
  | 0 => h
  | k + 1 => Or.inl (ed_rch_mono h k)
/-- what holds in round r -/
def ed_BI (σ : ec_Sg) (g : Int) (r : Nat) (s : Int → Int) : Prop := ∀ z : Int, 0 ≤ z ∧ z < 48 → (s z = 999 ∨ 0 ≤ s z ∧ s z ≤ r + 1) ∧ (∀ j : Nat, j ≤ r → (s z ≤ j ↔ ed_rch σ g j z)) ∧ (s z ≤ r + 1 → ed_rch σ g (r + 1) z)
def ed_BP (σ : ec_Sg) (r : Nat) (s : Int → Int) (k d : Int) : Prop := ∀ u e : Int, 0 ≤ u ∧ u < 48 → 0 ≤ e ∧ e < 4 → (u < k ∨ u = k ∧ e < d) → s u = r → ec_cq σ u e → s (ec_nb u e) ≠ 999
theorem ed_BI.next {σ : ec_Sg} (w : ec_WF σ) {g : Int} (hg : ec_ing σ g) {r : Nat} (hr : r < 900) {s : Int → Int} (a : ed_BI σ g r s) (b : ed_BP σ r s 48 0) : ed_BI σ g (r + 1) s := by
  intro z hz
  obtain ⟨a1, a2, a3⟩ := a z hz
  refine ⟨by omega, fun j hj => ?_, fun h => Or.inl (a3 (by omega))⟩
  by_cases q : j ≤ r
  · exact a2 j q
  · have ej : j = r + 1 := by omega
    subst ej
    refine ⟨fun h => a3 (by omega), fun h => ?_⟩
    rcases h with h | ⟨u, d, hd, h1, h2, h3⟩
    · have := (a2 r (Nat.le_refl _)).mpr h
      omega
    · have ui := ed_rch_in w hg r u h1
      obtain ⟨b1, b2, b3⟩ := a u ui.1
      have b4 := (b2 r (Nat.le_refl _)).mpr h1
      by_cases q2 : s u = r
      · have := b u d ui.1 hd (Or.inl (by have := ui.1; omega)) q2 h2
        rw [h3] at this
        omega
      · have b5 : 0 ≤ s u ∧ s u < r := by omega
        have b6 := (b2 (s u).toNat (by omega)).mp (by omega)
        have b7 : ed_rch σ g ((s u).toNat + 1) z := Or.inr ⟨u, d, hd, b6, h2, h3⟩
        have := (a2 ((s u).toNat + 1) (by omega)).mpr b7
        omega
abbrev ed_79 : Nat → Nat → Prop := fun q _ => q = 79
abbrev ed_78 : Nat → Nat → Prop := fun q _ => q = 78 ∨ q = 79
theorem ec_c134a {g : Int} (hg : 0 ≤ g ∧ g < 48) {m : Int} : ∀ (n : Nat) (k : Int) (h : ec_Hp), ec_MD h → 0 ≤ k → k + n = 48 → (∀ z : Int, 0 ≤ z ∧ z < k → h.2.1 79 (ec_i z).toNatClampNeg = ec_i (if z = g then 0 else 999)) →
    ∃ h', ec_om 134 2 [.ref 72, .int (ec_i g), .int (ec_i m), .int (ec_i k), .double 0, .double 0] [] h = ec_om 134 32 [.ref 72, .int (ec_i g), .int (ec_i m), .int (ec_i 48), .double 0, .double 0] [] h' ∧ ed_Ar h' 79 48 (fun z => if z = g then 0 else 999) ∧ ec_fg ed_79 h h' := by
  intro n
  induction n with
  | zero =>
    intro k h hD h0 hk hA
    have hk : k = 48 := by omega
    subst hk
    refine ⟨h, ?_, fun z hz => hA z (by omega), ec_fg.refl⟩
    rw [ec_s134_2]
    simp (disch := first | (simp only [ec_01z, ec_01o, ec_01q]; done) | omega | (refine ec_nzO ?_; omega)) only [ec_s134_0, ec_s134_1, ec_s134_3, ec_s134_5, ec_s134_8, ec_s134_9, ec_s134_12, ec_s134_13, ec_s134_14, ec_s134_15, ec_s134_18, ec_s134_19, ec_s134_22, ec_s134_25, ec_s134_26, ec_s134_29, ec_s134_33, ec_s134_34, ec_s134_35, ec_s134_36, ec_s134_39, ec_s134_40, ec_s134_42, ec_s134_44, ec_s134_46, ec_s134_49, ec_s134_50, ec_s134_52, ec_s134_54, ec_s134_55, ec_s134_58, ec_s134_59, ec_s134_62, ec_s134_64, ec_s134_65, ec_s134_66, ec_s134_69, ec_s134_70, ec_s134_72, ec_s134_74, ec_s134_77, ec_s134_80, ec_s134_81, ec_s134_84, ec_s134_86, ec_s134_88, ec_s134_91, ec_s134_92, ec_s134_95, ec_s134_98, ec_s134_99, ec_s134_102, ec_s134_104, ec_s134_106, ec_s134_109, ec_s134_110, ec_s134_111, ec_s134_112, ec_s134_113, ec_s134_116, ec_s134_119, ec_s134_122, ec_s134_125, ec_s134_128, ec_s134_131, ec_s134_132, ec_s134_133, ec_s134_134, ec_s134_136, ec_s134_139, ec_s134_140, ec_s134_143, ec_s134_144, ec_s134_145, ec_s134_148, ec_s134_149, ec_s134_150, ec_s134_153, ec_s134_154, ec_s134_157, ec_s134_158, ec_s134_159, ec_s134_162, ec_s134_165, ec_s134_166, ec_s134_169, ec_s134_170, ec_s134_171, ec_s134_174, ec_s134_177, ec_zn0, ec_zn1, ec_zn2, ec_zn3, ec_zn4, ec_zn5, ec_zn6, ec_zn7, ec_zn8, ec_zn9, ec_zn10, ec_zn12, ec_zn13, ec_zn14, ec_zn15, ec_zn16, ec_zn20, ec_zn30, ec_zn48, ec_zn99, ec_zn120, ec_zn127, ec_zn11, ec_zn31, ec_zn46, ec_zn57, ec_zn59, ec_zn63, ec_zn101, ec_zn107, ec_zn108, ec_zn110, ec_zn111, ec_zn115, ec_zn116, ec_zn119, ec_zn167, ec_zn185, ec_zn192, ec_zn215, ec_zn233, ec_zn699, ec_zn932, ec_zn999, ec_znF, ec_zneg, ec_zadd, ec_zsub, ec_zmul, ec_zdivO, ec_em, ec_zltO, ec_zeqO, ec_zeq0, ec_qt, ec_qf, if_pos, if_neg, Int.add_zero, ec_aft_v, ec_aft_n, ec_rwE, ec_rwN, ec_rwP, ec_rwK, ec_rwS, ec_w_shpI, ec_w_shpL, ec_w_shpA]
  | succ n ih =>
    intro k h hD h0 hk hA
    have hD0 := hD
    unfold ec_MD at hD
    obtain ⟨h', e1, e2, e3⟩ := ih (k + 1) (ec_setI h 79 (ec_i k).toNatClampNeg (ec_i (if k = g then 0 else 999))) (hD0.of rfl) (by omega) (by omega) (fun z hz => by
      by_cases e : z = k
      · subst e; rw [ec_rwE rfl]
      · rw [ec_rwN ⟨by omega, by omega, by omega⟩]; exact hA z (by omega))
    refine ⟨h', ?_, e2, (ec_fg.refl.I (by rfl)).trans e3⟩
    rw [ec_s134_2]
    by_cases e : k = g
    · rw [if_pos e] at e1
      simp (disch := first | (simp only [ec_w_kI, ec_w_kL, ec_w_kA, ec_w_shpI, ec_w_shpL, ec_w_shpA, ec_isR_r, ec_01z, ec_01o, ec_01q, hD]; done) | omega | (simp only [ec_w_shpI, ec_w_shpL, ec_w_shpA, hD]; refine ec_zinO ?_; omega) | (refine ec_nzO ?_; omega)) only [ec_s134_0, ec_s134_1, ec_s134_3, ec_s134_5, ec_s134_8, ec_s134_9, ec_s134_12, ec_s134_13, ec_s134_14, ec_s134_15, ec_s134_18, ec_s134_19, ec_s134_22, ec_s134_25, ec_s134_26, ec_s134_29, ec_s134_33, ec_s134_34, ec_s134_35, ec_s134_36, ec_s134_39, ec_s134_40, ec_s134_42, ec_s134_44, ec_s134_46, ec_s134_49, ec_s134_50, ec_s134_52, ec_s134_54, ec_s134_55, ec_s134_58, ec_s134_59, ec_s134_62, ec_s134_64, ec_s134_65, ec_s134_66, ec_s134_69, ec_s134_70, ec_s134_72, ec_s134_74, ec_s134_77, ec_s134_80, ec_s134_81, ec_s134_84, ec_s134_86, ec_s134_88, ec_s134_91, ec_s134_92, ec_s134_95, ec_s134_98, ec_s134_99, ec_s134_102, ec_s134_104, ec_s134_106, ec_s134_109, ec_s134_110, ec_s134_111, ec_s134_112, ec_s134_113, ec_s134_116, ec_s134_119, ec_s134_122, ec_s134_125, ec_s134_128, ec_s134_131, ec_s134_132, ec_s134_133, ec_s134_134, ec_s134_136, ec_s134_139, ec_s134_140, ec_s134_143, ec_s134_144, ec_s134_145, ec_s134_148, ec_s134_149, ec_s134_150, ec_s134_153, ec_s134_154, ec_s134_157, ec_s134_158, ec_s134_159, ec_s134_162, ec_s134_165, ec_s134_166, ec_s134_169, ec_s134_170, ec_s134_171, ec_s134_174, ec_s134_177, ec_zn0, ec_zn1, ec_zn2, ec_zn3, ec_zn4, ec_zn5, ec_zn6, ec_zn7, ec_zn8, ec_zn9, ec_zn10, ec_zn12, ec_zn13, ec_zn14, ec_zn15, ec_zn16, ec_zn20, ec_zn30, ec_zn48, ec_zn99, ec_zn120, ec_zn127, ec_zn11, ec_zn31, ec_zn46, ec_zn57, ec_zn59, ec_zn63, ec_zn101, ec_zn107, ec_zn108, ec_zn110, ec_zn111, ec_zn115, ec_zn116, ec_zn119, ec_zn167, ec_zn185, ec_zn192, ec_zn215, ec_zn233, ec_zn699, ec_zn932, ec_zn999, ec_znF, ec_zneg, ec_zadd, ec_zsub, ec_zmul, ec_zdivO, ec_em, ec_zltO, ec_zeqO, ec_zeq0, ec_qt, ec_qf, if_pos, if_neg, Int.add_zero, ec_aft_v, ec_aft_n, ec_rwE, ec_rwN, ec_rwP, ec_rwK, ec_rwS, ec_w_shpI, ec_w_shpL, ec_w_shpA, hD, e1]
    · rw [if_neg e] at e1
      simp (disch := first | (simp only [ec_w_kI, ec_w_kL, ec_w_kA, ec_w_shpI, ec_w_shpL, ec_w_shpA, ec_isR_r, ec_01z, ec_01o, ec_01q, hD]; done) | omega | (simp only [ec_w_shpI, ec_w_shpL, ec_w_shpA, hD]; refine ec_zinO ?_; omega) | (refine ec_nzO ?_; omega)) only [ec_s134_0, ec_s134_1, ec_s134_3, ec_s134_5, ec_s134_8, ec_s134_9, ec_s134_12, ec_s134_13, ec_s134_14, ec_s134_15, ec_s134_18, ec_s134_19, ec_s134_22, ec_s134_25, ec_s134_26, ec_s134_29, ec_s134_33, ec_s134_34, ec_s134_35, ec_s134_36, ec_s134_39, ec_s134_40, ec_s134_42, ec_s134_44, ec_s134_46, ec_s134_49, ec_s134_50, ec_s134_52, ec_s134_54, ec_s134_55, ec_s134_58, ec_s134_59, ec_s134_62, ec_s134_64, ec_s134_65, ec_s134_66, ec_s134_69, ec_s134_70, ec_s134_72, ec_s134_74, ec_s134_77, ec_s134_80, ec_s134_81, ec_s134_84, ec_s134_86, ec_s134_88, ec_s134_91, ec_s134_92, ec_s134_95, ec_s134_98, ec_s134_99, ec_s134_102, ec_s134_104, ec_s134_106, ec_s134_109, ec_s134_110, ec_s134_111, ec_s134_112, ec_s134_113, ec_s134_116, ec_s134_119, ec_s134_122, ec_s134_125, ec_s134_128, ec_s134_131, ec_s134_132, ec_s134_133, ec_s134_134, ec_s134_136, ec_s134_139, ec_s134_140, ec_s134_143, ec_s134_144, ec_s134_145, ec_s134_148, ec_s134_149, ec_s134_150, ec_s134_153, ec_s134_154, ec_s134_157, ec_s134_158, ec_s134_159, ec_s134_162, ec_s134_165, ec_s134_166, ec_s134_169, ec_s134_170, ec_s134_171, ec_s134_174, ec_s134_177, ec_zn0, ec_zn1, ec_zn2, ec_zn3, ec_zn4, ec_zn5, ec_zn6, ec_zn7, ec_zn8, ec_zn9, ec_zn10, ec_zn12, ec_zn13, ec_zn14, ec_zn15, ec_zn16, ec_zn20, ec_zn30, ec_zn48, ec_zn99, ec_zn120, ec_zn127, ec_zn11, ec_zn31, ec_zn46, ec_zn57, ec_zn59, ec_zn63, ec_zn101, ec_zn107, ec_zn108, ec_zn110, ec_zn111, ec_zn115, ec_zn116, ec_zn119, ec_zn167, ec_zn185, ec_zn192, ec_zn215, ec_zn233, ec_zn699, ec_zn932, ec_zn999, ec_znF, ec_zneg, ec_zadd, ec_zsub, ec_zmul, ec_zdivO, ec_em, ec_zltO, ec_zeqO, ec_zeq0, ec_qt, ec_qf, if_pos, if_neg, Int.add_zero, ec_aft_v, ec_aft_n, ec_rwE, ec_rwN, ec_rwP, ec_rwK, ec_rwS, ec_w_shpI, ec_w_shpL, ec_w_shpA, hD, e1]
/-- one cell's borders -/
theorem ec_c134d {σ : ec_Sg} (hW : ec_WF σ) {g m : Int} (hg : ec_ing σ g) {r : Nat} (hr : r < 900) {k : Int} (hk : 0 ≤ k ∧ k < 48) : ∀ (n : Nat) (d : Int) (s : Int → Int) (h : ec_Hp), ec_MD h → ec_Ms h σ → ed_Ar h 79 48 s → ed_BI σ g r s → ed_BP σ r s k d → 0 ≤ d → d + n = 4 →
    ∃ (h' : ec_Hp) (s' : Int → Int) (w5' : Value), ec_om 134 52 [.ref 72, .int (ec_i g), .int (ec_i m), .int (ec_i r), .int (ec_i k), .int (ec_i d)] [] h = ec_om 134 119 [.ref 72, .int (ec_i g), .int (ec_i m), .int (ec_i r), .int (ec_i k), w5'] [] h' ∧ ed_Ar h' 79 48 s' ∧ ed_BI σ g r s' ∧ ed_BP σ r s' (k + 1) 0 ∧ ec_fg ed_79 h h' := by
  intro n
  induction n with
  | zero =>
    intro d s h hD hs hA hB hP h0 hd
    have hd : d = 4 := by omega
    subst hd
    refine ⟨h, s, .int (ec_i 4), ?_, hA, hB, fun u e hu he h1 => hP u e hu he (by omega), ec_fg.refl⟩
    rw [ec_s134_52]
    simp (disch := first | (simp only [ec_01z, ec_01o, ec_01q]; done) | omega | (refine ec_nzO ?_; omega)) only [ec_s134_0, ec_s134_1, ec_s134_2, ec_s134_3, ec_s134_5, ec_s134_8, ec_s134_9, ec_s134_12, ec_s134_13, ec_s134_14, ec_s134_15, ec_s134_18, ec_s134_19, ec_s134_22, ec_s134_25, ec_s134_26, ec_s134_29, ec_s134_32, ec_s134_33, ec_s134_34, ec_s134_35, ec_s134_36, ec_s134_39, ec_s134_40, ec_s134_42, ec_s134_44, ec_s134_46, ec_s134_49, ec_s134_50, ec_s134_54, ec_s134_55, ec_s134_58, ec_s134_59, ec_s134_62, ec_s134_64, ec_s134_65, ec_s134_66, ec_s134_69, ec_s134_70, ec_s134_72, ec_s134_74, ec_s134_77, ec_s134_80, ec_s134_81, ec_s134_84, ec_s134_86, ec_s134_88, ec_s134_91, ec_s134_92, ec_s134_95, ec_s134_98, ec_s134_99, ec_s134_102, ec_s134_104, ec_s134_106, ec_s134_109, ec_s134_110, ec_s134_111, ec_s134_112, ec_s134_113, ec_s134_116, ec_s134_122, ec_s134_125, ec_s134_128, ec_s134_131, ec_s134_132, ec_s134_133, ec_s134_134, ec_s134_136, ec_s134_139, ec_s134_140, ec_s134_143, ec_s134_144, ec_s134_145, ec_s134_148, ec_s134_149, ec_s134_150, ec_s134_153, ec_s134_154, ec_s134_157, ec_s134_158, ec_s134_159, ec_s134_162, ec_s134_165, ec_s134_166, ec_s134_169, ec_s134_170, ec_s134_171, ec_s134_174, ec_s134_177, ec_zn0, ec_zn1, ec_zn2, ec_zn3, ec_zn4, ec_zn5, ec_zn6, ec_zn7, ec_zn8, ec_zn9, ec_zn10, ec_zn12, ec_zn13, ec_zn14, ec_zn15, ec_zn16, ec_zn20, ec_zn30, ec_zn48, ec_zn99, ec_zn120, ec_zn127, ec_zn11, ec_zn31, ec_zn46, ec_zn57, ec_zn59, ec_zn63, ec_zn101, ec_zn107, ec_zn108, ec_zn110, ec_zn111, ec_zn115, ec_zn116, ec_zn119, ec_zn167, ec_zn185, ec_zn192, ec_zn215, ec_zn233, ec_zn699, ec_zn932, ec_zn999, ec_znF, ec_zneg, ec_zadd, ec_zsub, ec_zmul, ec_zdivO, ec_em, ec_zltO, ec_zeqO, ec_zeq0, ec_qt, ec_qf, if_pos, if_neg, Int.add_zero, ec_aft_v, ec_aft_n, ec_rwE, ec_rwN, ec_rwP, ec_rwK, ec_rwS, ec_w_shpI, ec_w_shpL, ec_w_shpA]
  | succ n ih =>
    intro d s h hD hs hA hB hP h0 hd
    have hd4 : 0 ≤ d ∧ d < 4 := by omega
    have hA0 := hA
    have hD0 := hD
    have hk1 := hB k hk
    unfold ec_MD at hD
    unfold ed_Ar at hA
    by_cases h1 : s k = r
    · have kr := (hk1.2.1 r (Nat.le_refl _)).mp (by omega)
      have ki := ed_rch_in hW hg r k kr
      have g1 := ec_c131 hD0 hs hW ki hd4
      have g0 := fun h => ec_c126 (h := h) (z := k) hd4
      by_cases h2 : ec_cq σ k d
      · have ni := ec_nb_in hW ki hd4 (ed_cq_hb h2)
        have n1 := ni.1
        have bn := hB (ec_nb k d) n1
        have nr : ed_rch σ g (r + 1) (ec_nb k d) := Or.inr ⟨k, d, hd4, kr, h2, rfl⟩
        have nk := ec_nb_ne (z := k) (d := d)
        rw [ec_qt h2] at g1
        by_cases h3 : s (ec_nb k d) = 999
        · have hB' : ed_BI σ g r (ec_su s (ec_nb k d) (r + 1)) := by
            intro z hz
            obtain ⟨c1, c2, c3⟩ := hB z hz
            by_cases e : z = ec_nb k d
            · rw [ec_suE e, e]
              refine ⟨Or.inr (by omega), fun j hj => ⟨fun q => absurd q (by omega), fun q => ?_⟩, fun _ => nr⟩
              have := (bn.2.1 j hj).mpr q
              omega
            · rw [ec_suN e]
              exact ⟨c1, c2, c3⟩
          have hP' : ed_BP σ r (ec_su s (ec_nb k d) (r + 1)) k (d + 1) := by
            intro u e hu he h4 h5 h6
            by_cases e1 : ec_nb u e = ec_nb k d
            · rw [ec_suE e1]; omega
            · rw [ec_suN e1]
              by_cases e2 : u = ec_nb k d
              · rw [ec_suE e2] at h5; omega
              · rw [ec_suN e2] at h5
                refine hP u e hu he ?_ h5 h6
                by_cases e3 : u = k ∧ e = d
                · rw [e3.1, e3.2] at e1; exact absurd rfl e1
                · omega
          obtain ⟨h', s', w5', e1, e2, e3, e4, e5⟩ := ih (d + 1) _ (ec_setI h 79 (ec_i (ec_nb k d)).toNatClampNeg (ec_i (r + 1))) (hD0.of rfl) (hs.o (by decide)) (hA0.w (by decide) n1) hB' hP' (by omega) (by omega)
          refine ⟨h', s', w5', ?_, e2, e3, e4, (ec_fg.refl.I (by rfl)).trans e5⟩
          rw [ec_s134_52]
          generalize ec_nb k d = nb at g0 h3 n1 e1
          simp (disch := first | (simp only [ec_w_kI, ec_w_kL, ec_w_kA, ec_w_shpI, ec_w_shpL, ec_w_shpA, ec_isR_r, ec_01z, ec_01o, ec_01q, hD]; done) | omega | (simp only [ec_w_shpI, ec_w_shpL, ec_w_shpA, hD]; refine ec_zinO ?_; omega) | (refine ec_nzO ?_; omega)) only [ec_s134_0, ec_s134_1, ec_s134_2, ec_s134_3, ec_s134_5, ec_s134_8, ec_s134_9, ec_s134_12, ec_s134_13, ec_s134_14, ec_s134_15, ec_s134_18, ec_s134_19, ec_s134_22, ec_s134_25, ec_s134_26, ec_s134_29, ec_s134_32, ec_s134_33, ec_s134_34, ec_s134_35, ec_s134_36, ec_s134_39, ec_s134_40, ec_s134_42, ec_s134_44, ec_s134_46, ec_s134_49, ec_s134_50, ec_s134_54, ec_s134_55, ec_s134_58, ec_s134_59, ec_s134_62, ec_s134_64, ec_s134_65, ec_s134_66, ec_s134_69, ec_s134_70, ec_s134_72, ec_s134_74, ec_s134_77, ec_s134_80, ec_s134_81, ec_s134_84, ec_s134_86, ec_s134_88, ec_s134_91, ec_s134_92, ec_s134_95, ec_s134_98, ec_s134_99, ec_s134_102, ec_s134_104, ec_s134_106, ec_s134_109, ec_s134_110, ec_s134_111, ec_s134_112, ec_s134_113, ec_s134_116, ec_s134_122, ec_s134_125, ec_s134_128, ec_s134_131, ec_s134_132, ec_s134_133, ec_s134_134, ec_s134_136, ec_s134_139, ec_s134_140, ec_s134_143, ec_s134_144, ec_s134_145, ec_s134_148, ec_s134_149, ec_s134_150, ec_s134_153, ec_s134_154, ec_s134_157, ec_s134_158, ec_s134_159, ec_s134_162, ec_s134_165, ec_s134_166, ec_s134_169, ec_s134_170, ec_s134_171, ec_s134_174, ec_s134_177, ec_zn0, ec_zn1, ec_zn2, ec_zn3, ec_zn4, ec_zn5, ec_zn6, ec_zn7, ec_zn8, ec_zn9, ec_zn10, ec_zn12, ec_zn13, ec_zn14, ec_zn15, ec_zn16, ec_zn20, ec_zn30, ec_zn48, ec_zn99, ec_zn120, ec_zn127, ec_zn11, ec_zn31, ec_zn46, ec_zn57, ec_zn59, ec_zn63, ec_zn101, ec_zn107, ec_zn108, ec_zn110, ec_zn111, ec_zn115, ec_zn116, ec_zn119, ec_zn167, ec_zn185, ec_zn192, ec_zn215, ec_zn233, ec_zn699, ec_zn932, ec_zn999, ec_znF, ec_zneg, ec_zadd, ec_zsub, ec_zmul, ec_zdivO, ec_em, ec_zltO, ec_zeqO, ec_zeq0, ec_qt, ec_qf, if_pos, if_neg, Int.add_zero, ec_aft_v, ec_aft_n, ec_rwE, ec_rwN, ec_rwP, ec_rwK, ec_rwS, ec_w_shpI, ec_w_shpL, ec_w_shpA, hD, hA, g0, g1, e1]
        · have hP' : ed_BP σ r s k (d + 1) := by
            intro u e hu he h4 h5 h6
            by_cases e3 : u = k ∧ e = d
            · rw [e3.1, e3.2]; exact h3
            · exact hP u e hu he (by omega) h5 h6
          obtain ⟨h', s', w5', e1, e2, e3, e4, e5⟩ := ih (d + 1) s h hD0 hs hA0 hB hP' (by omega) (by omega)
          refine ⟨h', s', w5', ?_, e2, e3, e4, e5⟩
          rw [ec_s134_52]
          generalize ec_nb k d = nb at g0 h3 n1 bn
          simp (disch := first | (simp only [ec_w_kI, ec_w_kL, ec_w_kA, ec_w_shpI, ec_w_shpL, ec_w_shpA, ec_isR_r, ec_01z, ec_01o, ec_01q, hD]; done) | omega | (simp only [ec_w_shpI, ec_w_shpL, ec_w_shpA, hD]; refine ec_zinO ?_; omega) | (refine ec_nzO ?_; omega)) only [ec_s134_0, ec_s134_1, ec_s134_2, ec_s134_3, ec_s134_5, ec_s134_8, ec_s134_9, ec_s134_12, ec_s134_13, ec_s134_14, ec_s134_15, ec_s134_18, ec_s134_19, ec_s134_22, ec_s134_25, ec_s134_26, ec_s134_29, ec_s134_32, ec_s134_33, ec_s134_34, ec_s134_35, ec_s134_36, ec_s134_39, ec_s134_40, ec_s134_42, ec_s134_44, ec_s134_46, ec_s134_49, ec_s134_50, ec_s134_54, ec_s134_55, ec_s134_58, ec_s134_59, ec_s134_62, ec_s134_64, ec_s134_65, ec_s134_66, ec_s134_69, ec_s134_70, ec_s134_72, ec_s134_74, ec_s134_77, ec_s134_80, ec_s134_81, ec_s134_84, ec_s134_86, ec_s134_88, ec_s134_91, ec_s134_92, ec_s134_95, ec_s134_98, ec_s134_99, ec_s134_102, ec_s134_104, ec_s134_106, ec_s134_109, ec_s134_110, ec_s134_111, ec_s134_112, ec_s134_113, ec_s134_116, ec_s134_122, ec_s134_125, ec_s134_128, ec_s134_131, ec_s134_132, ec_s134_133, ec_s134_134, ec_s134_136, ec_s134_139, ec_s134_140, ec_s134_143, ec_s134_144, ec_s134_145, ec_s134_148, ec_s134_149, ec_s134_150, ec_s134_153, ec_s134_154, ec_s134_157, ec_s134_158, ec_s134_159, ec_s134_162, ec_s134_165, ec_s134_166, ec_s134_169, ec_s134_170, ec_s134_171, ec_s134_174, ec_s134_177, ec_zn0, ec_zn1, ec_zn2, ec_zn3, ec_zn4, ec_zn5, ec_zn6, ec_zn7, ec_zn8, ec_zn9, ec_zn10, ec_zn12, ec_zn13, ec_zn14, ec_zn15, ec_zn16, ec_zn20, ec_zn30, ec_zn48, ec_zn99, ec_zn120, ec_zn127, ec_zn11, ec_zn31, ec_zn46, ec_zn57, ec_zn59, ec_zn63, ec_zn101, ec_zn107, ec_zn108, ec_zn110, ec_zn111, ec_zn115, ec_zn116, ec_zn119, ec_zn167, ec_zn185, ec_zn192, ec_zn215, ec_zn233, ec_zn699, ec_zn932, ec_zn999, ec_znF, ec_zneg, ec_zadd, ec_zsub, ec_zmul, ec_zdivO, ec_em, ec_zltO, ec_zeqO, ec_zeq0, ec_qt, ec_qf, if_pos, if_neg, Int.add_zero, ec_aft_v, ec_aft_n, ec_rwE, ec_rwN, ec_rwP, ec_rwK, ec_rwS, ec_w_shpI, ec_w_shpL, ec_w_shpA, hD, hA, g0, g1, e1]
      · rw [ec_qf h2] at g1
        have hP' : ed_BP σ r s k (d + 1) := by
          intro u e hu he h4 h5 h6
          by_cases e3 : u = k ∧ e = d
          · rw [e3.1, e3.2] at h6; exact absurd h6 h2
          · exact hP u e hu he (by omega) h5 h6
        obtain ⟨h', s', w5', e1, e2, e3, e4, e5⟩ := ih (d + 1) s h hD0 hs hA0 hB hP' (by omega) (by omega)
        refine ⟨h', s', w5', ?_, e2, e3, e4, e5⟩
        rw [ec_s134_52]
        simp (disch := first | (simp only [ec_w_kI, ec_w_kL, ec_w_kA, ec_w_shpI, ec_w_shpL, ec_w_shpA, ec_isR_r, ec_01z, ec_01o, ec_01q, hD]; done) | omega | (simp only [ec_w_shpI, ec_w_shpL, ec_w_shpA, hD]; refine ec_zinO ?_; omega) | (refine ec_nzO ?_; omega)) only [ec_s134_0, ec_s134_1, ec_s134_2, ec_s134_3, ec_s134_5, ec_s134_8, ec_s134_9, ec_s134_12, ec_s134_13, ec_s134_14, ec_s134_15, ec_s134_18, ec_s134_19, ec_s134_22, ec_s134_25, ec_s134_26, ec_s134_29, ec_s134_32, ec_s134_33, ec_s134_34, ec_s134_35, ec_s134_36, ec_s134_39, ec_s134_40, ec_s134_42, ec_s134_44, ec_s134_46, ec_s134_49, ec_s134_50, ec_s134_54, ec_s134_55, ec_s134_58, ec_s134_59, ec_s134_62, ec_s134_64, ec_s134_65, ec_s134_66, ec_s134_69, ec_s134_70, ec_s134_72, ec_s134_74, ec_s134_77, ec_s134_80, ec_s134_81, ec_s134_84, ec_s134_86, ec_s134_88, ec_s134_91, ec_s134_92, ec_s134_95, ec_s134_98, ec_s134_99, ec_s134_102, ec_s134_104, ec_s134_106, ec_s134_109, ec_s134_110, ec_s134_111, ec_s134_112, ec_s134_113, ec_s134_116, ec_s134_122, ec_s134_125, ec_s134_128, ec_s134_131, ec_s134_132, ec_s134_133, ec_s134_134, ec_s134_136, ec_s134_139, ec_s134_140, ec_s134_143, ec_s134_144, ec_s134_145, ec_s134_148, ec_s134_149, ec_s134_150, ec_s134_153, ec_s134_154, ec_s134_157, ec_s134_158, ec_s134_159, ec_s134_162, ec_s134_165, ec_s134_166, ec_s134_169, ec_s134_170, ec_s134_171, ec_s134_174, ec_s134_177, ec_zn0, ec_zn1, ec_zn2, ec_zn3, ec_zn4, ec_zn5, ec_zn6, ec_zn7, ec_zn8, ec_zn9, ec_zn10, ec_zn12, ec_zn13, ec_zn14, ec_zn15, ec_zn16, ec_zn20, ec_zn30, ec_zn48, ec_zn99, ec_zn120, ec_zn127, ec_zn11, ec_zn31, ec_zn46, ec_zn57, ec_zn59, ec_zn63, ec_zn101, ec_zn107, ec_zn108, ec_zn110, ec_zn111, ec_zn115, ec_zn116, ec_zn119, ec_zn167, ec_zn185, ec_zn192, ec_zn215, ec_zn233, ec_zn699, ec_zn932, ec_zn999, ec_znF, ec_zneg, ec_zadd, ec_zsub, ec_zmul, ec_zdivO, ec_em, ec_zltO, ec_zeqO, ec_zeq0, ec_qt, ec_qf, if_pos, if_neg, Int.add_zero, ec_aft_v, ec_aft_n, ec_rwE, ec_rwN, ec_rwP, ec_rwK, ec_rwS, ec_w_shpI, ec_w_shpL, ec_w_shpA, hD, hA, g0, g1, e1]
    · refine ⟨h, s, .int (ec_i d), ?_, hA0, hB, fun u e hu he h4 h5 h6 => ?_, ec_fg.refl⟩
      · rw [ec_s134_52]
        simp (disch := first | (simp only [ec_w_kI, ec_w_kL, ec_w_kA, ec_w_shpI, ec_w_shpL, ec_w_shpA, ec_isR_r, ec_01z, ec_01o, ec_01q, hD]; done) | omega | (simp only [ec_w_shpI, ec_w_shpL, ec_w_shpA, hD]; refine ec_zinO ?_; omega) | (refine ec_nzO ?_; omega)) only [ec_s134_0, ec_s134_1, ec_s134_2, ec_s134_3, ec_s134_5, ec_s134_8, ec_s134_9, ec_s134_12, ec_s134_13, ec_s134_14, ec_s134_15, ec_s134_18, ec_s134_19, ec_s134_22, ec_s134_25, ec_s134_26, ec_s134_29, ec_s134_32, ec_s134_33, ec_s134_34, ec_s134_35, ec_s134_36, ec_s134_39, ec_s134_40, ec_s134_42, ec_s134_44, ec_s134_46, ec_s134_49, ec_s134_50, ec_s134_54, ec_s134_55, ec_s134_58, ec_s134_59, ec_s134_62, ec_s134_64, ec_s134_65, ec_s134_66, ec_s134_69, ec_s134_70, ec_s134_72, ec_s134_74, ec_s134_77, ec_s134_80, ec_s134_81, ec_s134_84, ec_s134_86, ec_s134_88, ec_s134_91, ec_s134_92, ec_s134_95, ec_s134_98, ec_s134_99, ec_s134_102, ec_s134_104, ec_s134_106, ec_s134_109, ec_s134_110, ec_s134_111, ec_s134_112, ec_s134_113, ec_s134_116, ec_s134_122, ec_s134_125, ec_s134_128, ec_s134_131, ec_s134_132, ec_s134_133, ec_s134_134, ec_s134_136, ec_s134_139, ec_s134_140, ec_s134_143, ec_s134_144, ec_s134_145, ec_s134_148, ec_s134_149, ec_s134_150, ec_s134_153, ec_s134_154, ec_s134_157, ec_s134_158, ec_s134_159, ec_s134_162, ec_s134_165, ec_s134_166, ec_s134_169, ec_s134_170, ec_s134_171, ec_s134_174, ec_s134_177, ec_zn0, ec_zn1, ec_zn2, ec_zn3, ec_zn4, ec_zn5, ec_zn6, ec_zn7, ec_zn8, ec_zn9, ec_zn10, ec_zn12, ec_zn13, ec_zn14, ec_zn15, ec_zn16, ec_zn20, ec_zn30, ec_zn48, ec_zn99, ec_zn120, ec_zn127, ec_zn11, ec_zn31, ec_zn46, ec_zn57, ec_zn59, ec_zn63, ec_zn101, ec_zn107, ec_zn108, ec_zn110, ec_zn111, ec_zn115, ec_zn116, ec_zn119, ec_zn167, ec_zn185, ec_zn192, ec_zn215, ec_zn233, ec_zn699, ec_zn932, ec_zn999, ec_znF, ec_zneg, ec_zadd, ec_zsub, ec_zmul, ec_zdivO, ec_em, ec_zltO, ec_zeqO, ec_zeq0, ec_qt, ec_qf, if_pos, if_neg, Int.add_zero, ec_aft_v, ec_aft_n, ec_rwE, ec_rwN, ec_rwP, ec_rwK, ec_rwS, ec_w_shpI, ec_w_shpL, ec_w_shpA, hD, hA]
      · by_cases q : u = k
        · rw [q] at h5; exact absurd h5 h1
        · exact hP u e hu he (by omega) h5 h6
theorem ec_c134k {σ : ec_Sg} (hW : ec_WF σ) {g m : Int} (hg : ec_ing σ g) {r : Nat} (hr : r < 900) : ∀ (n : Nat) (k : Int) (s : Int → Int) (h : ec_Hp) (w5 : Value), ec_MD h → ec_Ms h σ → ed_Ar h 79 48 s → ed_BI σ g r s → ed_BP σ r s k 0 → 0 ≤ k → k + n = 48 →
    ∃ (h' : ec_Hp) (s' : Int → Int) (w5' : Value), ec_om 134 42 [.ref 72, .int (ec_i g), .int (ec_i m), .int (ec_i r), .int (ec_i k), w5] [] h = ec_om 134 34 [.ref 72, .int (ec_i g), .int (ec_i m), .int (ec_i (r + 1)), .int (ec_i 48), w5'] [] h' ∧ ed_Ar h' 79 48 s' ∧ ed_BI σ g (r + 1) s' ∧ ec_fg ed_79 h h' ∧ ∀ z : Int, 0 ≤ z ∧ z < 48 → s' z = 999 ∨ s' z ≤ r + 1 := by
  intro n
  induction n with
  | zero =>
    intro k s h w5 hD hs hA hB hP h0 hk
    have hk : k = 48 := by omega
    subst hk
    refine ⟨h, s, w5, ?_, hA, hB.next hW hg hr hP, ec_fg.refl, fun z hz => by have := (hB z hz).1; omega⟩
    rw [ec_s134_42]
    simp (disch := first | (simp only [ec_01z, ec_01o, ec_01q]; done) | omega | (refine ec_nzO ?_; omega)) only [ec_s134_0, ec_s134_1, ec_s134_2, ec_s134_3, ec_s134_5, ec_s134_8, ec_s134_9, ec_s134_12, ec_s134_13, ec_s134_14, ec_s134_15, ec_s134_18, ec_s134_19, ec_s134_22, ec_s134_25, ec_s134_26, ec_s134_29, ec_s134_32, ec_s134_33, ec_s134_35, ec_s134_36, ec_s134_39, ec_s134_40, ec_s134_44, ec_s134_46, ec_s134_49, ec_s134_50, ec_s134_54, ec_s134_55, ec_s134_58, ec_s134_59, ec_s134_62, ec_s134_64, ec_s134_65, ec_s134_66, ec_s134_69, ec_s134_70, ec_s134_72, ec_s134_74, ec_s134_77, ec_s134_80, ec_s134_81, ec_s134_84, ec_s134_86, ec_s134_88, ec_s134_91, ec_s134_92, ec_s134_95, ec_s134_98, ec_s134_99, ec_s134_102, ec_s134_104, ec_s134_106, ec_s134_109, ec_s134_110, ec_s134_111, ec_s134_112, ec_s134_113, ec_s134_116, ec_s134_119, ec_s134_122, ec_s134_125, ec_s134_128, ec_s134_131, ec_s134_132, ec_s134_133, ec_s134_134, ec_s134_136, ec_s134_139, ec_s134_140, ec_s134_143, ec_s134_144, ec_s134_145, ec_s134_148, ec_s134_149, ec_s134_150, ec_s134_153, ec_s134_154, ec_s134_157, ec_s134_158, ec_s134_159, ec_s134_162, ec_s134_165, ec_s134_166, ec_s134_169, ec_s134_170, ec_s134_171, ec_s134_174, ec_s134_177, ec_zn0, ec_zn1, ec_zn2, ec_zn3, ec_zn4, ec_zn5, ec_zn6, ec_zn7, ec_zn8, ec_zn9, ec_zn10, ec_zn12, ec_zn13, ec_zn14, ec_zn15, ec_zn16, ec_zn20, ec_zn30, ec_zn48, ec_zn99, ec_zn120, ec_zn127, ec_zn11, ec_zn31, ec_zn46, ec_zn57, ec_zn59, ec_zn63, ec_zn101, ec_zn107, ec_zn108, ec_zn110, ec_zn111, ec_zn115, ec_zn116, ec_zn119, ec_zn167, ec_zn185, ec_zn192, ec_zn215, ec_zn233, ec_zn699, ec_zn932, ec_zn999, ec_znF, ec_zneg, ec_zadd, ec_zsub, ec_zmul, ec_zdivO, ec_em, ec_zltO, ec_zeqO, ec_zeq0, ec_qt, ec_qf, if_pos, if_neg, Int.add_zero, ec_aft_v, ec_aft_n, ec_rwE, ec_rwN, ec_rwP, ec_rwK, ec_rwS, ec_w_shpI, ec_w_shpL, ec_w_shpA]
  | succ n ih =>
    intro k s h w5 hD hs hA hB hP h0 hk
    obtain ⟨h1, s1, w1, e1, e2, e3, e4, e5⟩ := ec_c134d hW (m := m) hg hr (k := k) (by omega) 4 0 s h hD hs hA hB hP (by omega) (by omega)
    obtain ⟨h2, s2, w2, f1, f2, f3, f4, f5⟩ := ih (k + 1) s1 h1 w1 (hD.of e5.1.1) (hs.fg e5 (fun _ => (by decide : ¬ (73 : Nat) = 79))) e2 e3 e4 (by omega) (by omega)
    refine ⟨h2, s2, w2, ?_, f2, f3, e5.trans f4, f5⟩
    rw [ec_s134_42]
    simp (disch := first | (simp only [ec_01z, ec_01o, ec_01q]; done) | omega | (refine ec_nzO ?_; omega)) only [ec_s134_0, ec_s134_1, ec_s134_2, ec_s134_3, ec_s134_5, ec_s134_8, ec_s134_9, ec_s134_12, ec_s134_13, ec_s134_14, ec_s134_15, ec_s134_18, ec_s134_19, ec_s134_22, ec_s134_25, ec_s134_26, ec_s134_29, ec_s134_32, ec_s134_33, ec_s134_35, ec_s134_36, ec_s134_39, ec_s134_40, ec_s134_44, ec_s134_46, ec_s134_49, ec_s134_50, ec_s134_54, ec_s134_55, ec_s134_58, ec_s134_59, ec_s134_62, ec_s134_64, ec_s134_65, ec_s134_66, ec_s134_69, ec_s134_70, ec_s134_72, ec_s134_74, ec_s134_77, ec_s134_80, ec_s134_81, ec_s134_84, ec_s134_86, ec_s134_88, ec_s134_91, ec_s134_92, ec_s134_95, ec_s134_98, ec_s134_99, ec_s134_102, ec_s134_104, ec_s134_106, ec_s134_109, ec_s134_110, ec_s134_111, ec_s134_112, ec_s134_113, ec_s134_116, ec_s134_122, ec_s134_125, ec_s134_128, ec_s134_131, ec_s134_132, ec_s134_133, ec_s134_134, ec_s134_136, ec_s134_139, ec_s134_140, ec_s134_143, ec_s134_144, ec_s134_145, ec_s134_148, ec_s134_149, ec_s134_150, ec_s134_153, ec_s134_154, ec_s134_157, ec_s134_158, ec_s134_159, ec_s134_162, ec_s134_165, ec_s134_166, ec_s134_169, ec_s134_170, ec_s134_171, ec_s134_174, ec_s134_177, ec_zn0, ec_zn1, ec_zn2, ec_zn3, ec_zn4, ec_zn5, ec_zn6, ec_zn7, ec_zn8, ec_zn9, ec_zn10, ec_zn12, ec_zn13, ec_zn14, ec_zn15, ec_zn16, ec_zn20, ec_zn30, ec_zn48, ec_zn99, ec_zn120, ec_zn127, ec_zn11, ec_zn31, ec_zn46, ec_zn57, ec_zn59, ec_zn63, ec_zn101, ec_zn107, ec_zn108, ec_zn110, ec_zn111, ec_zn115, ec_zn116, ec_zn119, ec_zn167, ec_zn185, ec_zn192, ec_zn215, ec_zn233, ec_zn699, ec_zn932, ec_zn999, ec_znF, ec_zneg, ec_zadd, ec_zsub, ec_zmul, ec_zdivO, ec_em, ec_zltO, ec_zeqO, ec_zeq0, ec_qt, ec_qf, if_pos, if_neg, Int.add_zero, ec_aft_v, ec_aft_n, ec_rwE, ec_rwN, ec_rwP, ec_rwK, ec_rwS, ec_w_shpI, ec_w_shpL, ec_w_shpA]
    rw [e1]
    simp (disch := first | (simp only [ec_01z, ec_01o, ec_01q]; done) | omega | (refine ec_nzO ?_; omega)) only [ec_s134_0, ec_s134_1, ec_s134_2, ec_s134_3, ec_s134_5, ec_s134_8, ec_s134_9, ec_s134_12, ec_s134_13, ec_s134_14, ec_s134_15, ec_s134_18, ec_s134_19, ec_s134_22, ec_s134_25, ec_s134_26, ec_s134_29, ec_s134_32, ec_s134_33, ec_s134_35, ec_s134_36, ec_s134_39, ec_s134_40, ec_s134_44, ec_s134_46, ec_s134_49, ec_s134_50, ec_s134_54, ec_s134_55, ec_s134_58, ec_s134_59, ec_s134_62, ec_s134_64, ec_s134_65, ec_s134_66, ec_s134_69, ec_s134_70, ec_s134_72, ec_s134_74, ec_s134_77, ec_s134_80, ec_s134_81, ec_s134_84, ec_s134_86, ec_s134_88, ec_s134_91, ec_s134_92, ec_s134_95, ec_s134_98, ec_s134_99, ec_s134_102, ec_s134_104, ec_s134_106, ec_s134_109, ec_s134_110, ec_s134_111, ec_s134_112, ec_s134_113, ec_s134_116, ec_s134_119, ec_s134_122, ec_s134_125, ec_s134_128, ec_s134_131, ec_s134_132, ec_s134_133, ec_s134_134, ec_s134_136, ec_s134_139, ec_s134_140, ec_s134_143, ec_s134_144, ec_s134_145, ec_s134_148, ec_s134_149, ec_s134_150, ec_s134_153, ec_s134_154, ec_s134_157, ec_s134_158, ec_s134_159, ec_s134_162, ec_s134_165, ec_s134_166, ec_s134_169, ec_s134_170, ec_s134_171, ec_s134_174, ec_s134_177, ec_zn0, ec_zn1, ec_zn2, ec_zn3, ec_zn4, ec_zn5, ec_zn6, ec_zn7, ec_zn8, ec_zn9, ec_zn10, ec_zn12, ec_zn13, ec_zn14, ec_zn15, ec_zn16, ec_zn20, ec_zn30, ec_zn48, ec_zn99, ec_zn120, ec_zn127, ec_zn11, ec_zn31, ec_zn46, ec_zn57, ec_zn59, ec_zn63, ec_zn101, ec_zn107, ec_zn108, ec_zn110, ec_zn111, ec_zn115, ec_zn116, ec_zn119, ec_zn167, ec_zn185, ec_zn192, ec_zn215, ec_zn233, ec_zn699, ec_zn932, ec_zn999, ec_znF, ec_zneg, ec_zadd, ec_zsub, ec_zmul, ec_zdivO, ec_em, ec_zltO, ec_zeqO, ec_zeq0, ec_qt, ec_qf, if_pos, if_neg, Int.add_zero, ec_aft_v, ec_aft_n, ec_rwE, ec_rwN, ec_rwP, ec_rwK, ec_rwS, ec_w_shpI, ec_w_shpL, ec_w_shpA, f1]
theorem ec_c134r {σ : ec_Sg} (hW : ec_WF σ) {g : Int} {m : Nat} (hg : ec_ing σ g) (hm : m < 900) : ∀ (n : Nat) (r : Nat) (s : Int → Int) (h : ec_Hp) (w4 w5 : Value), ec_MD h → ec_Ms h σ → ed_Ar h 79 48 s → ed_BI σ g r s → (∀ z : Int, 0 ≤ z ∧ z < 48 → s z = 999 ∨ s z ≤ r) → r + n = m →
    ∃ (h' : ec_Hp) (s' : Int → Int) (w4' w5' : Value), ec_om 134 34 [.ref 72, .int (ec_i g), .int (ec_i m), .int (ec_i r), w4, w5] [] h = ec_om 134 131 [.ref 72, .int (ec_i g), .int (ec_i m), .int (ec_i m), w4', w5'] [] h' ∧ ed_Ar h' 79 48 s' ∧ ed_BI σ g m s' ∧ ec_fg ed_79 h h' ∧ ∀ z : Int, 0 ≤ z ∧ z < 48 → s' z = 999 ∨ s' z ≤ m := by
  intro n
  induction n with
  | zero =>
    intro r s h w4 w5 hD hs hA hB hX hr
    have hr : r = m := by omega
    subst hr
    refine ⟨h, s, w4, w5, ?_, hA, hB, ec_fg.refl, hX⟩
    rw [ec_s134_34]
    simp (disch := first | (simp only [ec_01z, ec_01o, ec_01q]; done) | omega | (refine ec_nzO ?_; omega)) only [ec_s134_0, ec_s134_1, ec_s134_2, ec_s134_3, ec_s134_5, ec_s134_8, ec_s134_9, ec_s134_12, ec_s134_13, ec_s134_14, ec_s134_15, ec_s134_18, ec_s134_19, ec_s134_22, ec_s134_25, ec_s134_26, ec_s134_29, ec_s134_32, ec_s134_33, ec_s134_35, ec_s134_36, ec_s134_39, ec_s134_40, ec_s134_44, ec_s134_46, ec_s134_49, ec_s134_50, ec_s134_54, ec_s134_55, ec_s134_58, ec_s134_59, ec_s134_62, ec_s134_64, ec_s134_65, ec_s134_66, ec_s134_69, ec_s134_70, ec_s134_72, ec_s134_74, ec_s134_77, ec_s134_80, ec_s134_81, ec_s134_84, ec_s134_86, ec_s134_88, ec_s134_91, ec_s134_92, ec_s134_95, ec_s134_98, ec_s134_99, ec_s134_102, ec_s134_104, ec_s134_106, ec_s134_109, ec_s134_110, ec_s134_111, ec_s134_112, ec_s134_113, ec_s134_116, ec_s134_119, ec_s134_122, ec_s134_125, ec_s134_128, ec_s134_132, ec_s134_133, ec_s134_134, ec_s134_136, ec_s134_139, ec_s134_140, ec_s134_143, ec_s134_144, ec_s134_145, ec_s134_148, ec_s134_149, ec_s134_150, ec_s134_153, ec_s134_154, ec_s134_157, ec_s134_158, ec_s134_159, ec_s134_162, ec_s134_165, ec_s134_166, ec_s134_169, ec_s134_170, ec_s134_171, ec_s134_174, ec_s134_177, ec_zn0, ec_zn1, ec_zn2, ec_zn3, ec_zn4, ec_zn5, ec_zn6, ec_zn7, ec_zn8, ec_zn9, ec_zn10, ec_zn12, ec_zn13, ec_zn14, ec_zn15, ec_zn16, ec_zn20, ec_zn30, ec_zn48, ec_zn99, ec_zn120, ec_zn127, ec_zn11, ec_zn31, ec_zn46, ec_zn57, ec_zn59, ec_zn63, ec_zn101, ec_zn107, ec_zn108, ec_zn110, ec_zn111, ec_zn115, ec_zn116, ec_zn119, ec_zn167, ec_zn185, ec_zn192, ec_zn215, ec_zn233, ec_zn699, ec_zn932, ec_zn999, ec_znF, ec_zneg, ec_zadd, ec_zsub, ec_zmul, ec_zdivO, ec_em, ec_zltO, ec_zeqO, ec_zeq0, ec_qt, ec_qf, if_pos, if_neg, Int.add_zero, ec_aft_v, ec_aft_n, ec_rwE, ec_rwN, ec_rwP, ec_rwK, ec_rwS, ec_w_shpI, ec_w_shpL, ec_w_shpA]
  | succ n ih =>
    intro r s h w4 w5 hD hs hA hB hX hr
    obtain ⟨h1, s1, w1, e1, e2, e3, e4, e5⟩ := ec_c134k hW (m := m) hg (r := r) (by omega) 48 0 s h w5 hD hs hA hB (fun u e hu he q => absurd q (by omega)) (by omega) (by omega)
    obtain ⟨h2, s2, w2, w3, f1, f2, f3, f4, f5⟩ := ih (r + 1) s1 h1 (.int (ec_i 48)) w1 (hD.of e4.1.1) (hs.fg e4 (fun _ => (by decide : ¬ (73 : Nat) = 79))) e2 e3 (fun z hz => by have := e5 z hz; omega) (by omega)
    refine ⟨h2, s2, w2, w3, ?_, f2, f3, e4.trans f4, f5⟩
    rw [ec_s134_34]
    simp (disch := first | (simp only [ec_01z, ec_01o, ec_01q]; done) | omega | (refine ec_nzO ?_; omega)) only [ec_s134_0, ec_s134_1, ec_s134_2, ec_s134_3, ec_s134_5, ec_s134_8, ec_s134_9, ec_s134_12, ec_s134_13, ec_s134_14, ec_s134_15, ec_s134_18, ec_s134_19, ec_s134_22, ec_s134_25, ec_s134_26, ec_s134_29, ec_s134_32, ec_s134_33, ec_s134_35, ec_s134_36, ec_s134_39, ec_s134_40, ec_s134_44, ec_s134_46, ec_s134_49, ec_s134_50, ec_s134_54, ec_s134_55, ec_s134_58, ec_s134_59, ec_s134_62, ec_s134_64, ec_s134_65, ec_s134_66, ec_s134_69, ec_s134_70, ec_s134_72, ec_s134_74, ec_s134_77, ec_s134_80, ec_s134_81, ec_s134_84, ec_s134_86, ec_s134_88, ec_s134_91, ec_s134_92, ec_s134_95, ec_s134_98, ec_s134_99, ec_s134_102, ec_s134_104, ec_s134_106, ec_s134_109, ec_s134_110, ec_s134_111, ec_s134_112, ec_s134_113, ec_s134_116, ec_s134_119, ec_s134_122, ec_s134_125, ec_s134_128, ec_s134_132, ec_s134_133, ec_s134_134, ec_s134_136, ec_s134_139, ec_s134_140, ec_s134_143, ec_s134_144, ec_s134_145, ec_s134_148, ec_s134_149, ec_s134_150, ec_s134_153, ec_s134_154, ec_s134_157, ec_s134_158, ec_s134_159, ec_s134_162, ec_s134_165, ec_s134_166, ec_s134_169, ec_s134_170, ec_s134_171, ec_s134_174, ec_s134_177, ec_zn0, ec_zn1, ec_zn2, ec_zn3, ec_zn4, ec_zn5, ec_zn6, ec_zn7, ec_zn8, ec_zn9, ec_zn10, ec_zn12, ec_zn13, ec_zn14, ec_zn15, ec_zn16, ec_zn20, ec_zn30, ec_zn48, ec_zn99, ec_zn120, ec_zn127, ec_zn11, ec_zn31, ec_zn46, ec_zn57, ec_zn59, ec_zn63, ec_zn101, ec_zn107, ec_zn108, ec_zn110, ec_zn111, ec_zn115, ec_zn116, ec_zn119, ec_zn167, ec_zn185, ec_zn192, ec_zn215, ec_zn233, ec_zn699, ec_zn932, ec_zn999, ec_znF, ec_zneg, ec_zadd, ec_zsub, ec_zmul, ec_zdivO, ec_em, ec_zltO, ec_zeqO, ec_zeq0, ec_qt, ec_qf, if_pos, if_neg, Int.add_zero, ec_aft_v, ec_aft_n, ec_rwE, ec_rwN, ec_rwP, ec_rwK, ec_rwS, ec_w_shpI, ec_w_shpL, ec_w_shpA]
    rw [e1]
    rw [show ((r + 1 : Nat) : Int) = (r : Int) + 1 by omega] at f1
    rw [f1]
theorem ec_c134l {g m : Int} {p : Int → Prop} {s : Int → Int} (hS : ∀ z : Int, 0 ≤ z ∧ z < 48 → 0 ≤ s z ∧ s z ≤ 999) : ∀ (n : Nat) (k : Int) (h : ec_Hp) (w4 w5 : Value), ec_MD h → ed_Ar h 79 48 s → 0 ≤ k → k + n = 48 → (∀ z : Int, 0 ≤ z ∧ z < 48 → h.2.1 78 (ec_i z).toNatClampNeg = ec_i (ed_q (if z < k then p z ∨ s z < 999 else p z))) →
    ∃ h', ec_om 134 133 [.ref 72, .int (ec_i g), .int (ec_i m), .int (ec_i k), w4, w5] [] h = some (.inl none, h') ∧ ed_Ar h' 78 48 (fun z => ed_q (p z ∨ s z < 999)) ∧ ec_fg ed_78 h h' := by
  intro n
  induction n with
  | zero =>
    intro k h w4 w5 hD hA h0 hk hL
    have hk : k = 48 := by omega
    subst hk
    refine ⟨h, ?_, fun z hz => ?_, ec_fg.refl⟩
    · rw [ec_s134_133]
      simp (disch := first | (simp only [ec_01z, ec_01o, ec_01q]; done) | omega | (refine ec_nzO ?_; omega)) only [ec_s134_0, ec_s134_1, ec_s134_2, ec_s134_3, ec_s134_5, ec_s134_8, ec_s134_9, ec_s134_12, ec_s134_13, ec_s134_14, ec_s134_15, ec_s134_18, ec_s134_19, ec_s134_22, ec_s134_25, ec_s134_26, ec_s134_29, ec_s134_32, ec_s134_33, ec_s134_34, ec_s134_35, ec_s134_36, ec_s134_39, ec_s134_40, ec_s134_42, ec_s134_44, ec_s134_46, ec_s134_49, ec_s134_50, ec_s134_52, ec_s134_54, ec_s134_55, ec_s134_58, ec_s134_59, ec_s134_62, ec_s134_64, ec_s134_65, ec_s134_66, ec_s134_69, ec_s134_70, ec_s134_72, ec_s134_74, ec_s134_77, ec_s134_80, ec_s134_81, ec_s134_84, ec_s134_86, ec_s134_88, ec_s134_91, ec_s134_92, ec_s134_95, ec_s134_98, ec_s134_99, ec_s134_102, ec_s134_104, ec_s134_106, ec_s134_109, ec_s134_110, ec_s134_111, ec_s134_112, ec_s134_113, ec_s134_116, ec_s134_119, ec_s134_122, ec_s134_125, ec_s134_128, ec_s134_131, ec_s134_132, ec_s134_134, ec_s134_136, ec_s134_139, ec_s134_140, ec_s134_143, ec_s134_144, ec_s134_145, ec_s134_148, ec_s134_149, ec_s134_150, ec_s134_153, ec_s134_154, ec_s134_157, ec_s134_158, ec_s134_159, ec_s134_162, ec_s134_165, ec_s134_166, ec_s134_169, ec_s134_170, ec_s134_171, ec_s134_174, ec_s134_177, ec_zn0, ec_zn1, ec_zn2, ec_zn3, ec_zn4, ec_zn5, ec_zn6, ec_zn7, ec_zn8, ec_zn9, ec_zn10, ec_zn12, ec_zn13, ec_zn14, ec_zn15, ec_zn16, ec_zn20, ec_zn30, ec_zn48, ec_zn99, ec_zn120, ec_zn127, ec_zn11, ec_zn31, ec_zn46, ec_zn57, ec_zn59, ec_zn63, ec_zn101, ec_zn107, ec_zn108, ec_zn110, ec_zn111, ec_zn115, ec_zn116, ec_zn119, ec_zn167, ec_zn185, ec_zn192, ec_zn215, ec_zn233, ec_zn699, ec_zn932, ec_zn999, ec_znF, ec_zneg, ec_zadd, ec_zsub, ec_zmul, ec_zdivO, ec_em, ec_zltO, ec_zeqO, ec_zeq0, ec_qt, ec_qf, if_pos, if_neg, Int.add_zero, ec_aft_v, ec_aft_n, ec_rwE, ec_rwN, ec_rwP, ec_rwK, ec_rwS, ec_w_shpI, ec_w_shpL, ec_w_shpA]
    · have q := hL z hz
      rw [if_pos (show z < 48 by omega)] at q
      exact q
  | succ n ih =>
    intro k h w4 w5 hD hA h0 hk hL
    have hk4 : 0 ≤ k ∧ k < 48 := by omega
    have hD0 := hD
    have hA0 := hA
    have sk := hS k hk4
    have lk := hL k hk4
    rw [if_neg (by omega)] at lk
    unfold ec_MD at hD
    unfold ed_Ar at hA
    obtain ⟨h', e1, e2, e3⟩ := ih (k + 1) (ec_setI h 78 (ec_i k).toNatClampNeg (ec_i (ed_q (p k ∨ s k < 999)))) w4 w5 (hD0.of rfl) (hA0.o (by decide)) (by omega) (by omega) (fun z hz => by
      by_cases e : z = k
      · subst e
        rw [ec_rwE rfl, if_pos (by omega)]
      · rw [ec_rwN ⟨by omega, by omega, by omega⟩, hL z hz]
        by_cases q : z < k
        · rw [if_pos q, if_pos (by omega)]
        · rw [if_neg q, if_neg (by omega)])
    refine ⟨h', ?_, e2, (ec_fg.refl.I (Or.inl rfl)).trans e3⟩
    rw [ec_s134_133]
    by_cases hp : p k
    · rw [ed_qt hp] at lk
      rw [ed_qt (Or.inl hp)] at e1
      simp (disch := first | (simp only [ec_w_kI, ec_w_kL, ec_w_kA, ec_w_shpI, ec_w_shpL, ec_w_shpA, ec_isR_r, ec_01z, ec_01o, ec_01q, hD]; done) | omega | (simp only [ec_w_shpI, ec_w_shpL, ec_w_shpA, hD]; refine ec_zinO ?_; omega) | (refine ec_nzO ?_; omega)) only [ec_s134_0, ec_s134_1, ec_s134_2, ec_s134_3, ec_s134_5, ec_s134_8, ec_s134_9, ec_s134_12, ec_s134_13, ec_s134_14, ec_s134_15, ec_s134_18, ec_s134_19, ec_s134_22, ec_s134_25, ec_s134_26, ec_s134_29, ec_s134_32, ec_s134_33, ec_s134_34, ec_s134_35, ec_s134_36, ec_s134_39, ec_s134_40, ec_s134_42, ec_s134_44, ec_s134_46, ec_s134_49, ec_s134_50, ec_s134_52, ec_s134_54, ec_s134_55, ec_s134_58, ec_s134_59, ec_s134_62, ec_s134_64, ec_s134_65, ec_s134_66, ec_s134_69, ec_s134_70, ec_s134_72, ec_s134_74, ec_s134_77, ec_s134_80, ec_s134_81, ec_s134_84, ec_s134_86, ec_s134_88, ec_s134_91, ec_s134_92, ec_s134_95, ec_s134_98, ec_s134_99, ec_s134_102, ec_s134_104, ec_s134_106, ec_s134_109, ec_s134_110, ec_s134_111, ec_s134_112, ec_s134_113, ec_s134_116, ec_s134_119, ec_s134_122, ec_s134_125, ec_s134_128, ec_s134_131, ec_s134_132, ec_s134_134, ec_s134_136, ec_s134_139, ec_s134_140, ec_s134_143, ec_s134_144, ec_s134_145, ec_s134_148, ec_s134_149, ec_s134_150, ec_s134_153, ec_s134_154, ec_s134_157, ec_s134_158, ec_s134_159, ec_s134_162, ec_s134_165, ec_s134_166, ec_s134_169, ec_s134_170, ec_s134_171, ec_s134_174, ec_s134_177, ec_zn0, ec_zn1, ec_zn2, ec_zn3, ec_zn4, ec_zn5, ec_zn6, ec_zn7, ec_zn8, ec_zn9, ec_zn10, ec_zn12, ec_zn13, ec_zn14, ec_zn15, ec_zn16, ec_zn20, ec_zn30, ec_zn48, ec_zn99, ec_zn120, ec_zn127, ec_zn11, ec_zn31, ec_zn46, ec_zn57, ec_zn59, ec_zn63, ec_zn101, ec_zn107, ec_zn108, ec_zn110, ec_zn111, ec_zn115, ec_zn116, ec_zn119, ec_zn167, ec_zn185, ec_zn192, ec_zn215, ec_zn233, ec_zn699, ec_zn932, ec_zn999, ec_znF, ec_zneg, ec_zadd, ec_zsub, ec_zmul, ec_zdivO, ec_em, ec_zltO, ec_zeqO, ec_zeq0, ec_qt, ec_qf, if_pos, if_neg, Int.add_zero, ec_aft_v, ec_aft_n, ec_rwE, ec_rwN, ec_rwP, ec_rwK, ec_rwS, ec_w_shpI, ec_w_shpL, ec_w_shpA, hD, hA, lk, e1]
    · rw [ed_qf hp] at lk
      by_cases q : s k < 999
      · rw [ed_qt (Or.inr q)] at e1
        simp (disch := first | (simp only [ec_w_kI, ec_w_kL, ec_w_kA, ec_w_shpI, ec_w_shpL, ec_w_shpA, ec_isR_r, ec_01z, ec_01o, ec_01q, hD]; done) | omega | (simp only [ec_w_shpI, ec_w_shpL, ec_w_shpA, hD]; refine ec_zinO ?_; omega) | (refine ec_nzO ?_; omega)) only [ec_s134_0, ec_s134_1, ec_s134_2, ec_s134_3, ec_s134_5, ec_s134_8, ec_s134_9, ec_s134_12, ec_s134_13, ec_s134_14, ec_s134_15, ec_s134_18, ec_s134_19, ec_s134_22, ec_s134_25, ec_s134_26, ec_s134_29, ec_s134_32, ec_s134_33, ec_s134_34, ec_s134_35, ec_s134_36, ec_s134_39, ec_s134_40, ec_s134_42, ec_s134_44, ec_s134_46, ec_s134_49, ec_s134_50, ec_s134_52, ec_s134_54, ec_s134_55, ec_s134_58, ec_s134_59, ec_s134_62, ec_s134_64, ec_s134_65, ec_s134_66, ec_s134_69, ec_s134_70, ec_s134_72, ec_s134_74, ec_s134_77, ec_s134_80, ec_s134_81, ec_s134_84, ec_s134_86, ec_s134_88, ec_s134_91, ec_s134_92, ec_s134_95, ec_s134_98, ec_s134_99, ec_s134_102, ec_s134_104, ec_s134_106, ec_s134_109, ec_s134_110, ec_s134_111, ec_s134_112, ec_s134_113, ec_s134_116, ec_s134_119, ec_s134_122, ec_s134_125, ec_s134_128, ec_s134_131, ec_s134_132, ec_s134_134, ec_s134_136, ec_s134_139, ec_s134_140, ec_s134_143, ec_s134_144, ec_s134_145, ec_s134_148, ec_s134_149, ec_s134_150, ec_s134_153, ec_s134_154, ec_s134_157, ec_s134_158, ec_s134_159, ec_s134_162, ec_s134_165, ec_s134_166, ec_s134_169, ec_s134_170, ec_s134_171, ec_s134_174, ec_s134_177, ec_zn0, ec_zn1, ec_zn2, ec_zn3, ec_zn4, ec_zn5, ec_zn6, ec_zn7, ec_zn8, ec_zn9, ec_zn10, ec_zn12, ec_zn13, ec_zn14, ec_zn15, ec_zn16, ec_zn20, ec_zn30, ec_zn48, ec_zn99, ec_zn120, ec_zn127, ec_zn11, ec_zn31, ec_zn46, ec_zn57, ec_zn59, ec_zn63, ec_zn101, ec_zn107, ec_zn108, ec_zn110, ec_zn111, ec_zn115, ec_zn116, ec_zn119, ec_zn167, ec_zn185, ec_zn192, ec_zn215, ec_zn233, ec_zn699, ec_zn932, ec_zn999, ec_znF, ec_zneg, ec_zadd, ec_zsub, ec_zmul, ec_zdivO, ec_em, ec_zltO, ec_zeqO, ec_zeq0, ec_qt, ec_qf, if_pos, if_neg, Int.add_zero, ec_aft_v, ec_aft_n, ec_rwE, ec_rwN, ec_rwP, ec_rwK, ec_rwS, ec_w_shpI, ec_w_shpL, ec_w_shpA, hD, hA, lk, e1]
      · rw [ed_qf (fun y => Or.elim y hp q)] at e1
        simp (disch := first | (simp only [ec_w_kI, ec_w_kL, ec_w_kA, ec_w_shpI, ec_w_shpL, ec_w_shpA, ec_isR_r, ec_01z, ec_01o, ec_01q, hD]; done) | omega | (simp only [ec_w_shpI, ec_w_shpL, ec_w_shpA, hD]; refine ec_zinO ?_; omega) | (refine ec_nzO ?_; omega)) only [ec_s134_0, ec_s134_1, ec_s134_2, ec_s134_3, ec_s134_5, ec_s134_8, ec_s134_9, ec_s134_12, ec_s134_13, ec_s134_14, ec_s134_15, ec_s134_18, ec_s134_19, ec_s134_22, ec_s134_25, ec_s134_26, ec_s134_29, ec_s134_32, ec_s134_33, ec_s134_34, ec_s134_35, ec_s134_36, ec_s134_39, ec_s134_40, ec_s134_42, ec_s134_44, ec_s134_46, ec_s134_49, ec_s134_50, ec_s134_52, ec_s134_54, ec_s134_55, ec_s134_58, ec_s134_59, ec_s134_62, ec_s134_64, ec_s134_65, ec_s134_66, ec_s134_69, ec_s134_70, ec_s134_72, ec_s134_74, ec_s134_77, ec_s134_80, ec_s134_81, ec_s134_84, ec_s134_86, ec_s134_88, ec_s134_91, ec_s134_92, ec_s134_95, ec_s134_98, ec_s134_99, ec_s134_102, ec_s134_104, ec_s134_106, ec_s134_109, ec_s134_110, ec_s134_111, ec_s134_112, ec_s134_113, ec_s134_116, ec_s134_119, ec_s134_122, ec_s134_125, ec_s134_128, ec_s134_131, ec_s134_132, ec_s134_134, ec_s134_136, ec_s134_139, ec_s134_140, ec_s134_143, ec_s134_144, ec_s134_145, ec_s134_148, ec_s134_149, ec_s134_150, ec_s134_153, ec_s134_154, ec_s134_157, ec_s134_158, ec_s134_159, ec_s134_162, ec_s134_165, ec_s134_166, ec_s134_169, ec_s134_170, ec_s134_171, ec_s134_174, ec_s134_177, ec_zn0, ec_zn1, ec_zn2, ec_zn3, ec_zn4, ec_zn5, ec_zn6, ec_zn7, ec_zn8, ec_zn9, ec_zn10, ec_zn12, ec_zn13, ec_zn14, ec_zn15, ec_zn16, ec_zn20, ec_zn30, ec_zn48, ec_zn99, ec_zn120, ec_zn127, ec_zn11, ec_zn31, ec_zn46, ec_zn57, ec_zn59, ec_zn63, ec_zn101, ec_zn107, ec_zn108, ec_zn110, ec_zn111, ec_zn115, ec_zn116, ec_zn119, ec_zn167, ec_zn185, ec_zn192, ec_zn215, ec_zn233, ec_zn699, ec_zn932, ec_zn999, ec_znF, ec_zneg, ec_zadd, ec_zsub, ec_zmul, ec_zdivO, ec_em, ec_zltO, ec_zeqO, ec_zeq0, ec_qt, ec_qf, if_pos, if_neg, Int.add_zero, ec_aft_v, ec_aft_n, ec_rwE, ec_rwN, ec_rwP, ec_rwK, ec_rwS, ec_w_shpI, ec_w_shpL, ec_w_shpA, hD, hA, lk, e1]
theorem ec_c134 {h : ec_Hp} {σ : ec_Sg} (hD : ec_MD h) (hs : ec_Ms h σ) (hW : ec_WF σ) {g : Int} {m : Nat} (hg : ec_ing σ g) (hm : m ≤ 3) {p : Int → Prop} (hL : ed_Ar h 78 48 (fun z => ed_q (p z))) : ∃ h', ec_om 134 0 [.ref 72, .int (ec_i g), .int (ec_i m), .double 0, .double 0, .double 0] [] h = some (.inl none, h') ∧ ed_Ar h' 78 48 (fun z => ed_q (p z ∨ ed_rch σ g m z)) ∧ ec_fg ed_78 h h' := by
  obtain ⟨h1, a1, a2, a3⟩ := ec_c134a hg.1 (m := m) 48 0 h hD (by omega) (by omega) (fun z hz => absurd hz (by omega))
  have hB : ed_BI σ g 0 (fun z => if z = g then 0 else 999) := by
    intro z hz
    show ((if z = g then 0 else 999) = (999 : Int) ∨ 0 ≤ (if z = g then (0 : Int) else 999) ∧ (if z = g then (0 : Int) else 999) ≤ ((0 : Nat) : Int) + 1) ∧ (∀ j : Nat, j ≤ 0 → ((if z = g then (0 : Int) else 999) ≤ j ↔ ed_rch σ g j z)) ∧ ((if z = g then (0 : Int) else 999) ≤ ((0 : Nat) : Int) + 1 → ed_rch σ g (0 + 1) z)
    by_cases e : z = g
    · rw [if_pos e]
      refine ⟨Or.inr (by omega), fun j hj => ?_, fun _ => Or.inl e⟩
      have : j = 0 := by omega
      subst this
      exact ⟨fun _ => e, fun _ => by omega⟩
    · rw [if_neg e]
      refine ⟨Or.inl rfl, fun j hj => ?_, fun q => absurd q (by omega)⟩
      have : j = 0 := by omega
      subst this
      exact ⟨fun q => absurd q (by omega), fun q => absurd q e⟩
  obtain ⟨h2, s2, w4, w5, b1, b2, b3, b4, b5⟩ := ec_c134r hW (m := m) hg (by omega) m 0 _ h1 (.double 0) (.double 0) (hD.of a3.1.1) (hs.fg a3 (fun _ => (by decide : ¬ (73 : Nat) = 79))) a2 hB (fun z _ => by
    show (if z = g then (0 : Int) else 999) = 999 ∨ (if z = g then (0 : Int) else 999) ≤ ((0 : Nat) : Int)
    split <;> omega) (by omega)
  have f2 := a3.trans b4
  have hL2 := hL.fg f2 (fun _ => (by decide : ¬ (78 : Nat) = 79))
  obtain ⟨h3, c1, c2, c3⟩ := ec_c134l (g := g) (m := m) (p := p) (s := s2) (fun z hz => by have := (b3 z hz).1; omega) 48 0 h2 w4 w5 (hD.of f2.1.1) b2 (by omega) (by omega) (fun z hz => by rw [if_neg (by omega)]; exact hL2 z hz)
  refine ⟨h3, ?_, fun z hz => ?_, (f2.mono (fun q j e => Or.inr e)).trans c3⟩
  · rw [ec_s134_0, ec_s134_1, ec_zn0, a1, ec_s134_32, ec_s134_33, ec_zn0]
    have b1 : ec_om 134 34 [.ref 72, .int (ec_i g), .int (ec_i m), .int (ec_i 0), .double 0, .double 0] [] h1 = _ := b1
    rw [b1, ec_s134_131, ec_s134_132, ec_zn0, c1]
  · rw [c2 z hz]
    show ec_i (ed_q (p z ∨ s2 z < 999)) = _
    rw [ed_q_c]
    have b := b3 z hz
    have b6 := b.2.1 m (Nat.le_refl _)
    have b7 := b5 z hz
    refine ⟨fun q => Or.elim q Or.inl (fun q => Or.inr ?_), fun q => Or.elim q Or.inl (fun q => Or.inr ?_)⟩
    · exact b6.mp (by omega)
    · have := b6.mpr q
      omega
/-! all lights -/
def ed_lit (σ : ec_Sg) (z : Int) : Prop := (∃ t : Int, (0 ≤ t ∧ t < σ 3) ∧ σ (167 + 3 * t + 2) = 1 ∧ ed_rch σ (σ (167 + 3 * t)) 3 z) ∨ σ 9 = 1 ∧ ed_rch σ (σ 6) 2 z
theorem ec_c135a : ∀ (n : Nat) (k : Int) (h : ec_Hp), ec_MD h → 0 ≤ k → k + n = 48 → (∀ z : Int, 0 ≤ z ∧ z < k → h.2.1 78 (ec_i z).toNatClampNeg = ec_i 0) →
    ∃ h', ec_om 135 2 [.ref 72, .int (ec_i k)] [] h = ec_om 135 21 [.ref 72, .int (ec_i 48)] [] h' ∧ ed_Ar h' 78 48 (fun _ => ed_q False) ∧ ec_fg ed_78 h h' := by
  intro n
  induction n with
  | zero =>
    intro k h hD h0 hk hL
    have hk : k = 48 := by omega
    subst hk
    refine ⟨h, ?_, fun z hz => ?_, ec_fg.refl⟩
    · rw [ec_s135_2]
      simp (disch := first | (simp only [ec_01z, ec_01o, ec_01q]; done) | omega | (refine ec_nzO ?_; omega)) only [ec_s135_0, ec_s135_1, ec_s135_3, ec_s135_5, ec_s135_8, ec_s135_9, ec_s135_12, ec_s135_13, ec_s135_14, ec_s135_15, ec_s135_18, ec_s135_22, ec_s135_24, ec_s135_25, ec_s135_28, ec_s135_29, ec_s135_30, ec_s135_33, ec_s135_34, ec_s135_37, ec_s135_40, ec_s135_41, ec_s135_42, ec_s135_43, ec_s135_44, ec_s135_45, ec_s135_46, ec_s135_47, ec_s135_48, ec_s135_51, ec_s135_52, ec_s135_53, ec_s135_56, ec_s135_59, ec_s135_60, ec_s135_61, ec_s135_62, ec_s135_63, ec_s135_64, ec_s135_65, ec_s135_68, ec_s135_71, ec_s135_74, ec_s135_75, ec_s135_78, ec_s135_80, ec_s135_81, ec_s135_82, ec_s135_85, ec_s135_86, ec_s135_87, ec_s135_90, ec_s135_92, ec_s135_93, ec_s135_94, ec_s135_97, ec_zn0, ec_zn1, ec_zn2, ec_zn3, ec_zn4, ec_zn5, ec_zn6, ec_zn7, ec_zn8, ec_zn9, ec_zn10, ec_zn12, ec_zn13, ec_zn14, ec_zn15, ec_zn16, ec_zn20, ec_zn30, ec_zn48, ec_zn99, ec_zn120, ec_zn127, ec_zn11, ec_zn31, ec_zn46, ec_zn57, ec_zn59, ec_zn63, ec_zn101, ec_zn107, ec_zn108, ec_zn110, ec_zn111, ec_zn115, ec_zn116, ec_zn119, ec_zn167, ec_zn185, ec_zn192, ec_zn215, ec_zn233, ec_zn699, ec_zn932, ec_zn999, ec_znF, ec_zneg, ec_zadd, ec_zsub, ec_zmul, ec_zdivO, ec_em, ec_zltO, ec_zeqO, ec_zeq0, ec_qt, ec_qf, if_pos, if_neg, Int.add_zero, ec_aft_v, ec_aft_n, ec_rwE, ec_rwN, ec_rwP, ec_rwK, ec_rwS, ec_w_shpI, ec_w_shpL, ec_w_shpA]
    · rw [ed_qf id]
      exact hL z (by omega)
  | succ n ih =>
    intro k h hD h0 hk hL
    have hD0 := hD
    unfold ec_MD at hD
    obtain ⟨h', e1, e2, e3⟩ := ih (k + 1) (ec_setI h 78 (ec_i k).toNatClampNeg (ec_i 0)) (hD0.of rfl) (by omega) (by omega) (fun z hz => by
      by_cases e : z = k
      · subst e
        rw [ec_rwE rfl]
      · rw [ec_rwN ⟨by omega, by omega, by omega⟩, hL z (by omega)])
    refine ⟨h', ?_, e2, (ec_fg.refl.I (Or.inl rfl)).trans e3⟩
    rw [ec_s135_2]
    simp (disch := first | (simp only [ec_w_kI, ec_w_kL, ec_w_kA, ec_w_shpI, ec_w_shpL, ec_w_shpA, ec_isR_r, ec_01z, ec_01o, ec_01q, hD]; done) | omega | (simp only [ec_w_shpI, ec_w_shpL, ec_w_shpA, hD]; refine ec_zinO ?_; omega) | (refine ec_nzO ?_; omega)) only [ec_s135_0, ec_s135_1, ec_s135_3, ec_s135_5, ec_s135_8, ec_s135_9, ec_s135_12, ec_s135_13, ec_s135_14, ec_s135_15, ec_s135_18, ec_s135_22, ec_s135_24, ec_s135_25, ec_s135_28, ec_s135_29, ec_s135_30, ec_s135_33, ec_s135_34, ec_s135_37, ec_s135_40, ec_s135_41, ec_s135_42, ec_s135_43, ec_s135_44, ec_s135_45, ec_s135_46, ec_s135_47, ec_s135_48, ec_s135_51, ec_s135_52, ec_s135_53, ec_s135_56, ec_s135_59, ec_s135_60, ec_s135_61, ec_s135_62, ec_s135_63, ec_s135_64, ec_s135_65, ec_s135_68, ec_s135_71, ec_s135_74, ec_s135_75, ec_s135_78, ec_s135_80, ec_s135_81, ec_s135_82, ec_s135_85, ec_s135_86, ec_s135_87, ec_s135_90, ec_s135_92, ec_s135_93, ec_s135_94, ec_s135_97, ec_zn0, ec_zn1, ec_zn2, ec_zn3, ec_zn4, ec_zn5, ec_zn6, ec_zn7, ec_zn8, ec_zn9, ec_zn10, ec_zn12, ec_zn13, ec_zn14, ec_zn15, ec_zn16, ec_zn20, ec_zn30, ec_zn48, ec_zn99, ec_zn120, ec_zn127, ec_zn11, ec_zn31, ec_zn46, ec_zn57, ec_zn59, ec_zn63, ec_zn101, ec_zn107, ec_zn108, ec_zn110, ec_zn111, ec_zn115, ec_zn116, ec_zn119, ec_zn167, ec_zn185, ec_zn192, ec_zn215, ec_zn233, ec_zn699, ec_zn932, ec_zn999, ec_znF, ec_zneg, ec_zadd, ec_zsub, ec_zmul, ec_zdivO, ec_em, ec_zltO, ec_zeqO, ec_zeq0, ec_qt, ec_qf, if_pos, if_neg, Int.add_zero, ec_aft_v, ec_aft_n, ec_rwE, ec_rwN, ec_rwP, ec_rwK, ec_rwS, ec_w_shpI, ec_w_shpL, ec_w_shpA, hD, e1]
theorem ec_c135t {σ : ec_Sg} (hW : ec_WF σ) : ∀ (n : Nat) (k : Int) (h : ec_Hp) (p : Int → Prop), ec_MD h → ec_Ms h σ → ed_Ar h 78 48 (fun z => ed_q (p z)) → 0 ≤ k → k + n = σ 3 → (∀ z, p z ↔ ∃ t : Int, (0 ≤ t ∧ t < k) ∧ σ (167 + 3 * t + 2) = 1 ∧ ed_rch σ (σ (167 + 3 * t)) 3 z) →
    ∃ h', ec_om 135 23 [.ref 72, .int (ec_i k)] [] h = some (.inl none, h') ∧ ed_Ar h' 78 48 (fun z => ed_q (ed_lit σ z)) ∧ ec_fg ed_78 h h' := by
  intro n
  induction n with
  | zero =>
    intro k h p hD hs hL h0 hk hp
    have hk : k = σ 3 := by omega
    subst hk
    have hH := hW.2.1
    have hD0 := hD
    have hs0 := hs
    have w := hW.1
    unfold ec_MD at hD
    unfold ec_Ms at hs
    by_cases q : σ 9 = 1
    · obtain ⟨h', e1, e2, e3⟩ := ec_c134 hD0 hs0 hW (m := 2) hH.1 (by omega) hL
      refine ⟨h', ?_, fun z hz => ?_, e3⟩
      · rw [ec_s135_23]
        have e1 : ec_om 134 0 [.ref 72, .int (ec_i (σ 6)), .int (ec_i 2), .double 0, .double 0, .double 0] [] h = some (.inl none, h') := e1
        simp (disch := first | (simp only [ec_w_kI, ec_w_kL, ec_w_kA, ec_w_shpI, ec_w_shpL, ec_w_shpA, ec_isR_r, ec_01z, ec_01o, ec_01q, hD]; done) | omega | (simp only [ec_w_shpI, ec_w_shpL, ec_w_shpA, hD]; refine ec_zinO ?_; omega) | (refine ec_nzO ?_; omega)) only [ec_s135_0, ec_s135_1, ec_s135_3, ec_s135_5, ec_s135_8, ec_s135_9, ec_s135_12, ec_s135_13, ec_s135_14, ec_s135_15, ec_s135_18, ec_s135_22, ec_s135_24, ec_s135_25, ec_s135_28, ec_s135_29, ec_s135_30, ec_s135_33, ec_s135_34, ec_s135_37, ec_s135_40, ec_s135_41, ec_s135_42, ec_s135_43, ec_s135_44, ec_s135_45, ec_s135_46, ec_s135_47, ec_s135_48, ec_s135_51, ec_s135_52, ec_s135_53, ec_s135_56, ec_s135_59, ec_s135_60, ec_s135_61, ec_s135_62, ec_s135_63, ec_s135_64, ec_s135_65, ec_s135_68, ec_s135_71, ec_s135_74, ec_s135_75, ec_s135_78, ec_s135_80, ec_s135_81, ec_s135_82, ec_s135_85, ec_s135_86, ec_s135_87, ec_s135_90, ec_s135_92, ec_s135_93, ec_s135_94, ec_s135_97, ec_zn0, ec_zn1, ec_zn2, ec_zn3, ec_zn4, ec_zn5, ec_zn6, ec_zn7, ec_zn8, ec_zn9, ec_zn10, ec_zn12, ec_zn13, ec_zn14, ec_zn15, ec_zn16, ec_zn20, ec_zn30, ec_zn48, ec_zn99, ec_zn120, ec_zn127, ec_zn11, ec_zn31, ec_zn46, ec_zn57, ec_zn59, ec_zn63, ec_zn101, ec_zn107, ec_zn108, ec_zn110, ec_zn111, ec_zn115, ec_zn116, ec_zn119, ec_zn167, ec_zn185, ec_zn192, ec_zn215, ec_zn233, ec_zn699, ec_zn932, ec_zn999, ec_znF, ec_zneg, ec_zadd, ec_zsub, ec_zmul, ec_zdivO, ec_em, ec_zltO, ec_zeqO, ec_zeq0, ec_qt, ec_qf, if_pos, if_neg, Int.add_zero, ec_aft_v, ec_aft_n, ec_rwE, ec_rwN, ec_rwP, ec_rwK, ec_rwS, ec_w_shpI, ec_w_shpL, ec_w_shpA, hD, hs, e1]
      · rw [e2 z hz]
        show ec_i (ed_q _) = ec_i (ed_q _)
        rw [ed_q_c]
        unfold ed_lit
        rw [hp z]
        exact ⟨fun y => Or.elim y Or.inl (fun y => Or.inr ⟨q, y⟩), fun y => Or.elim y Or.inl (fun y => Or.inr y.2)⟩
    · refine ⟨h, ?_, fun z hz => ?_, ec_fg.refl⟩
      · rw [ec_s135_23]
        simp (disch := first | (simp only [ec_w_kI, ec_w_kL, ec_w_kA, ec_w_shpI, ec_w_shpL, ec_w_shpA, ec_isR_r, ec_01z, ec_01o, ec_01q, hD]; done) | omega | (simp only [ec_w_shpI, ec_w_shpL, ec_w_shpA, hD]; refine ec_zinO ?_; omega) | (refine ec_nzO ?_; omega)) only [ec_s135_0, ec_s135_1, ec_s135_3, ec_s135_5, ec_s135_8, ec_s135_9, ec_s135_12, ec_s135_13, ec_s135_14, ec_s135_15, ec_s135_18, ec_s135_22, ec_s135_24, ec_s135_25, ec_s135_28, ec_s135_29, ec_s135_30, ec_s135_33, ec_s135_34, ec_s135_37, ec_s135_40, ec_s135_41, ec_s135_42, ec_s135_43, ec_s135_44, ec_s135_45, ec_s135_46, ec_s135_47, ec_s135_48, ec_s135_51, ec_s135_52, ec_s135_53, ec_s135_56, ec_s135_59, ec_s135_60, ec_s135_61, ec_s135_62, ec_s135_63, ec_s135_64, ec_s135_65, ec_s135_68, ec_s135_71, ec_s135_74, ec_s135_75, ec_s135_78, ec_s135_80, ec_s135_81, ec_s135_82, ec_s135_85, ec_s135_86, ec_s135_87, ec_s135_90, ec_s135_92, ec_s135_93, ec_s135_94, ec_s135_97, ec_zn0, ec_zn1, ec_zn2, ec_zn3, ec_zn4, ec_zn5, ec_zn6, ec_zn7, ec_zn8, ec_zn9, ec_zn10, ec_zn12, ec_zn13, ec_zn14, ec_zn15, ec_zn16, ec_zn20, ec_zn30, ec_zn48, ec_zn99, ec_zn120, ec_zn127, ec_zn11, ec_zn31, ec_zn46, ec_zn57, ec_zn59, ec_zn63, ec_zn101, ec_zn107, ec_zn108, ec_zn110, ec_zn111, ec_zn115, ec_zn116, ec_zn119, ec_zn167, ec_zn185, ec_zn192, ec_zn215, ec_zn233, ec_zn699, ec_zn932, ec_zn999, ec_znF, ec_zneg, ec_zadd, ec_zsub, ec_zmul, ec_zdivO, ec_em, ec_zltO, ec_zeqO, ec_zeq0, ec_qt, ec_qf, if_pos, if_neg, Int.add_zero, ec_aft_v, ec_aft_n, ec_rwE, ec_rwN, ec_rwP, ec_rwK, ec_rwS, ec_w_shpI, ec_w_shpL, ec_w_shpA, hD, hs]
      · rw [hL z hz]
        show ec_i (ed_q _) = ec_i (ed_q _)
        rw [ed_q_c]
        unfold ed_lit
        rw [hp z]
        exact ⟨Or.inl, fun y => Or.elim y id (fun y => absurd y.1 q)⟩
  | succ n ih =>
    intro k h p hD hs hL h0 hk hp
    have ht := hW.torch (t := k) (by omega)
    have hD0 := hD
    have hs0 := hs
    have w := hW.1
    unfold ec_MD at hD
    unfold ec_Ms at hs
    have e2 : 169 + 3 * k = 167 + 3 * k + 2 := by omega
    rw [e2] at ht
    by_cases q : σ (167 + 3 * k + 2) = 1
    · obtain ⟨h1, a1, a2, a3⟩ := ec_c134 hD0 hs0 hW (m := 3) ht.1 (by omega) hL
      obtain ⟨h2, b1, b2, b3⟩ := ih (k + 1) h1 _ (hD0.of a3.1.1) (hs0.fg a3 (fun _ => (by decide : ¬ ((73 : Nat) = 78 ∨ (73 : Nat) = 79)))) a2 (by omega) (by omega) (fun z => by
        rw [hp z]
        constructor
        · rintro (⟨t, t1, t2, t3⟩ | y)
          · exact ⟨t, by omega, t2, t3⟩
          · exact ⟨k, by omega, q, y⟩
        · rintro ⟨t, t1, t2, t3⟩
          by_cases tk : t = k
          · subst tk; exact Or.inr t3
          · exact Or.inl ⟨t, by omega, t2, t3⟩)
      refine ⟨h2, ?_, b2, a3.trans b3⟩
      have a1 : ec_om 134 0 [.ref 72, .int (ec_i (σ (167 + 3 * k))), .int (ec_i 3), .double 0, .double 0, .double 0] [] h = some (.inl none, h1) := a1
      rw [ec_s135_23]
      simp (disch := first | (simp only [ec_w_kI, ec_w_kL, ec_w_kA, ec_w_shpI, ec_w_shpL, ec_w_shpA, ec_isR_r, ec_01z, ec_01o, ec_01q, hD]; done) | omega | (simp only [ec_w_shpI, ec_w_shpL, ec_w_shpA, hD]; refine ec_zinO ?_; omega) | (refine ec_nzO ?_; omega)) only [ec_s135_0, ec_s135_1, ec_s135_3, ec_s135_5, ec_s135_8, ec_s135_9, ec_s135_12, ec_s135_13, ec_s135_14, ec_s135_15, ec_s135_18, ec_s135_22, ec_s135_24, ec_s135_25, ec_s135_28, ec_s135_29, ec_s135_30, ec_s135_33, ec_s135_34, ec_s135_37, ec_s135_40, ec_s135_41, ec_s135_42, ec_s135_43, ec_s135_44, ec_s135_45, ec_s135_46, ec_s135_47, ec_s135_48, ec_s135_51, ec_s135_52, ec_s135_53, ec_s135_56, ec_s135_59, ec_s135_60, ec_s135_61, ec_s135_62, ec_s135_63, ec_s135_64, ec_s135_65, ec_s135_68, ec_s135_71, ec_s135_74, ec_s135_75, ec_s135_78, ec_s135_80, ec_s135_81, ec_s135_82, ec_s135_85, ec_s135_86, ec_s135_87, ec_s135_90, ec_s135_92, ec_s135_93, ec_s135_94, ec_s135_97, ec_zn0, ec_zn1, ec_zn2, ec_zn3, ec_zn4, ec_zn5, ec_zn6, ec_zn7, ec_zn8, ec_zn9, ec_zn10, ec_zn12, ec_zn13, ec_zn14, ec_zn15, ec_zn16, ec_zn20, ec_zn30, ec_zn48, ec_zn99, ec_zn120, ec_zn127, ec_zn11, ec_zn31, ec_zn46, ec_zn57, ec_zn59, ec_zn63, ec_zn101, ec_zn107, ec_zn108, ec_zn110, ec_zn111, ec_zn115, ec_zn116, ec_zn119, ec_zn167, ec_zn185, ec_zn192, ec_zn215, ec_zn233, ec_zn699, ec_zn932, ec_zn999, ec_znF, ec_zneg, ec_zadd, ec_zsub, ec_zmul, ec_zdivO, ec_em, ec_zltO, ec_zeqO, ec_zeq0, ec_qt, ec_qf, if_pos, if_neg, Int.add_zero, ec_aft_v, ec_aft_n, ec_rwE, ec_rwN, ec_rwP, ec_rwK, ec_rwS, ec_w_shpI, ec_w_shpL, ec_w_shpA, hD, hs, a1, b1]
    · obtain ⟨h2, b1, b2, b3⟩ := ih (k + 1) h _ hD0 hs0 hL (by omega) (by omega) (fun z => by
        rw [hp z]
        constructor
        · rintro ⟨t, t1, t2, t3⟩
          exact ⟨t, by omega, t2, t3⟩
        · rintro ⟨t, t1, t2, t3⟩
          by_cases tk : t = k
          · subst tk; exact absurd t2 q
          · exact ⟨t, by omega, t2, t3⟩)
      refine ⟨h2, ?_, b2, b3⟩
      rw [ec_s135_23]
      simp (disch := first | (simp only [ec_w_kI, ec_w_kL, ec_w_kA, ec_w_shpI, ec_w_shpL, ec_w_shpA, ec_isR_r, ec_01z, ec_01o, ec_01q, hD]; done) | omega | (simp only [ec_w_shpI, ec_w_shpL, ec_w_shpA, hD]; refine ec_zinO ?_; omega) | (refine ec_nzO ?_; omega)) only [ec_s135_0, ec_s135_1, ec_s135_3, ec_s135_5, ec_s135_8, ec_s135_9, ec_s135_12, ec_s135_13, ec_s135_14, ec_s135_15, ec_s135_18, ec_s135_22, ec_s135_24, ec_s135_25, ec_s135_28, ec_s135_29, ec_s135_30, ec_s135_33, ec_s135_34, ec_s135_37, ec_s135_40, ec_s135_41, ec_s135_42, ec_s135_43, ec_s135_44, ec_s135_45, ec_s135_46, ec_s135_47, ec_s135_48, ec_s135_51, ec_s135_52, ec_s135_53, ec_s135_56, ec_s135_59, ec_s135_60, ec_s135_61, ec_s135_62, ec_s135_63, ec_s135_64, ec_s135_65, ec_s135_68, ec_s135_71, ec_s135_74, ec_s135_75, ec_s135_78, ec_s135_80, ec_s135_81, ec_s135_82, ec_s135_85, ec_s135_86, ec_s135_87, ec_s135_90, ec_s135_92, ec_s135_93, ec_s135_94, ec_s135_97, ec_zn0, ec_zn1, ec_zn2, ec_zn3, ec_zn4, ec_zn5, ec_zn6, ec_zn7, ec_zn8, ec_zn9, ec_zn10, ec_zn12, ec_zn13, ec_zn14, ec_zn15, ec_zn16, ec_zn20, ec_zn30, ec_zn48, ec_zn99, ec_zn120, ec_zn127, ec_zn11, ec_zn31, ec_zn46, ec_zn57, ec_zn59, ec_zn63, ec_zn101, ec_zn107, ec_zn108, ec_zn110, ec_zn111, ec_zn115, ec_zn116, ec_zn119, ec_zn167, ec_zn185, ec_zn192, ec_zn215, ec_zn233, ec_zn699, ec_zn932, ec_zn999, ec_znF, ec_zneg, ec_zadd, ec_zsub, ec_zmul, ec_zdivO, ec_em, ec_zltO, ec_zeqO, ec_zeq0, ec_qt, ec_qf, if_pos, if_neg, Int.add_zero, ec_aft_v, ec_aft_n, ec_rwE, ec_rwN, ec_rwP, ec_rwK, ec_rwS, ec_w_shpI, ec_w_shpL, ec_w_shpA, hD, hs, b1]
theorem ec_c135 {h : ec_Hp} {σ : ec_Sg} (hD : ec_MD h) (hs : ec_Ms h σ) (hW : ec_WF σ) : ∃ h', ec_om 135 0 [.ref 72, .double 0] [] h = some (.inl none, h') ∧ ed_Ar h' 78 48 (fun z => ed_q (ed_lit σ z)) ∧ ec_fg ed_78 h h' := by
  obtain ⟨h1, a1, a2, a3⟩ := ec_c135a 48 0 h hD (by omega) (by omega) (fun z hz => absurd hz (by omega))
  obtain ⟨h2, b1, b2, b3⟩ := ec_c135t hW (σ 3).toNat 0 h1 _ (hD.of a3.1.1) (hs.fg a3 (fun _ => (by decide : ¬ ((73 : Nat) = 78 ∨ (73 : Nat) = 79)))) a2 (by omega) (by have := hW.1; omega) (fun z => ⟨fun q => q.elim, fun ⟨t, t1, _⟩ => absurd t1 (by omega)⟩)
  refine ⟨h2, ?_, b2, a3.trans b3⟩
  rw [ec_s135_0, ec_s135_1, ec_zn0, a1, ec_s135_21, ec_s135_22, ec_zn0, b1]
/-- how many cells are lit -/
noncomputable def ed_lits (σ : ec_Sg) : Int := ed_sm (fun z => ed_q (ed_lit σ z))
theorem ec_c136L {σ : ec_Sg} {h : ec_Hp} (hD : ec_MD h) (hL : ed_Ar h 78 48 (fun z => ed_q (ed_lit σ z))) : ∀ (n k : Nat), k + n = 48 → ec_om 136 8 [.ref 72, .int (ec_i (ec_sm (fun z => ed_q (ed_lit σ z)) k)), .int (ec_i k)] [] h = some (.inl (some (.int (ec_i (ed_lits σ)))), h) := by
  unfold ed_lits ed_sm
  intro n
  induction n with
  | zero =>
    intro k hk
    have hk : k = 48 := by omega
    subst hk
    rw [ec_s136_8]
    simp (disch := first | (simp only [ec_01z, ec_01o, ec_01q]; done) | omega | (refine ec_nzO ?_; omega)) only [ec_s136_0, ec_s136_1, ec_s136_4, ec_s136_5, ec_s136_6, ec_s136_7, ec_s136_9, ec_s136_11, ec_s136_14, ec_s136_15, ec_s136_16, ec_s136_19, ec_s136_20, ec_s136_21, ec_s136_24, ec_s136_25, ec_s136_28, ec_s136_29, ec_s136_30, ec_s136_31, ec_s136_34, ec_s136_37, ec_s136_38, ec_zn0, ec_zn1, ec_zn2, ec_zn3, ec_zn4, ec_zn5, ec_zn6, ec_zn7, ec_zn8, ec_zn9, ec_zn10, ec_zn12, ec_zn13, ec_zn14, ec_zn15, ec_zn16, ec_zn20, ec_zn30, ec_zn48, ec_zn99, ec_zn120, ec_zn127, ec_zn11, ec_zn31, ec_zn46, ec_zn57, ec_zn59, ec_zn63, ec_zn101, ec_zn107, ec_zn108, ec_zn110, ec_zn111, ec_zn115, ec_zn116, ec_zn119, ec_zn167, ec_zn185, ec_zn192, ec_zn215, ec_zn233, ec_zn699, ec_zn932, ec_zn999, ec_znF, ec_zneg, ec_zadd, ec_zsub, ec_zmul, ec_zdivO, ec_em, ec_zltO, ec_zeqO, ec_zeq0, ec_qt, ec_qf, if_pos, if_neg, Int.add_zero, ec_aft_v, ec_aft_n, ec_rwE, ec_rwN, ec_rwP, ec_rwK, ec_rwS, ec_w_shpI, ec_w_shpL, ec_w_shpA]
  | succ n ih =>
    intro k hk
    have e1 := ih (k + 1) (by omega)
    rw [show ((k + 1 : Nat) : Int) = (k : Int) + 1 by omega, show ec_sm (fun z => ed_q (ed_lit σ z)) (k + 1) = ec_sm (fun z => ed_q (ed_lit σ z)) k + ed_q (ed_lit σ k) from rfl] at e1
    have lk : h.2.1 78 (ec_i (k : Int)).toNatClampNeg = ec_i (ed_q (ed_lit σ k)) := hL k (by omega)
    unfold ec_MD at hD
    rw [ec_s136_8]
    generalize ec_sm (fun z => ed_q (ed_lit σ z)) k = x at e1 ⊢
    by_cases q : ed_lit σ k
    · rw [ed_qt q] at lk e1
      simp (disch := first | (simp only [ec_w_kI, ec_w_kL, ec_w_kA, ec_w_shpI, ec_w_shpL, ec_w_shpA, ec_isR_r, ec_01z, ec_01o, ec_01q, hD]; done) | omega | (simp only [ec_w_shpI, ec_w_shpL, ec_w_shpA, hD]; refine ec_zinO ?_; omega) | (refine ec_nzO ?_; omega)) only [ec_s136_0, ec_s136_1, ec_s136_4, ec_s136_5, ec_s136_6, ec_s136_7, ec_s136_9, ec_s136_11, ec_s136_14, ec_s136_15, ec_s136_16, ec_s136_19, ec_s136_20, ec_s136_21, ec_s136_24, ec_s136_25, ec_s136_28, ec_s136_29, ec_s136_30, ec_s136_31, ec_s136_34, ec_s136_37, ec_s136_38, ec_zn0, ec_zn1, ec_zn2, ec_zn3, ec_zn4, ec_zn5, ec_zn6, ec_zn7, ec_zn8, ec_zn9, ec_zn10, ec_zn12, ec_zn13, ec_zn14, ec_zn15, ec_zn16, ec_zn20, ec_zn30, ec_zn48, ec_zn99, ec_zn120, ec_zn127, ec_zn11, ec_zn31, ec_zn46, ec_zn57, ec_zn59, ec_zn63, ec_zn101, ec_zn107, ec_zn108, ec_zn110, ec_zn111, ec_zn115, ec_zn116, ec_zn119, ec_zn167, ec_zn185, ec_zn192, ec_zn215, ec_zn233, ec_zn699, ec_zn932, ec_zn999, ec_znF, ec_zneg, ec_zadd, ec_zsub, ec_zmul, ec_zdivO, ec_em, ec_zltO, ec_zeqO, ec_zeq0, ec_qt, ec_qf, if_pos, if_neg, Int.add_zero, ec_aft_v, ec_aft_n, ec_rwE, ec_rwN, ec_rwP, ec_rwK, ec_rwS, ec_w_shpI, ec_w_shpL, ec_w_shpA, hD, lk, e1]
    · rw [ed_qf q] at lk e1
      rw [Int.add_zero] at e1
      simp (disch := first | (simp only [ec_w_kI, ec_w_kL, ec_w_kA, ec_w_shpI, ec_w_shpL, ec_w_shpA, ec_isR_r, ec_01z, ec_01o, ec_01q, hD]; done) | omega | (simp only [ec_w_shpI, ec_w_shpL, ec_w_shpA, hD]; refine ec_zinO ?_; omega) | (refine ec_nzO ?_; omega)) only [ec_s136_0, ec_s136_1, ec_s136_4, ec_s136_5, ec_s136_6, ec_s136_7, ec_s136_9, ec_s136_11, ec_s136_14, ec_s136_15, ec_s136_16, ec_s136_19, ec_s136_20, ec_s136_21, ec_s136_24, ec_s136_25, ec_s136_28, ec_s136_29, ec_s136_30, ec_s136_31, ec_s136_34, ec_s136_37, ec_s136_38, ec_zn0, ec_zn1, ec_zn2, ec_zn3, ec_zn4, ec_zn5, ec_zn6, ec_zn7, ec_zn8, ec_zn9, ec_zn10, ec_zn12, ec_zn13, ec_zn14, ec_zn15, ec_zn16, ec_zn20, ec_zn30, ec_zn48, ec_zn99, ec_zn120, ec_zn127, ec_zn11, ec_zn31, ec_zn46, ec_zn57, ec_zn59, ec_zn63, ec_zn101, ec_zn107, ec_zn108, ec_zn110, ec_zn111, ec_zn115, ec_zn116, ec_zn119, ec_zn167, ec_zn185, ec_zn192, ec_zn215, ec_zn233, ec_zn699, ec_zn932, ec_zn999, ec_znF, ec_zneg, ec_zadd, ec_zsub, ec_zmul, ec_zdivO, ec_em, ec_zltO, ec_zeqO, ec_zeq0, ec_qt, ec_qf, if_pos, if_neg, Int.add_zero, ec_aft_v, ec_aft_n, ec_rwE, ec_rwN, ec_rwP, ec_rwK, ec_rwS, ec_w_shpI, ec_w_shpL, ec_w_shpA, hD, lk, e1]
theorem ec_c136 {h : ec_Hp} {σ : ec_Sg} (hD : ec_MD h) (hs : ec_Ms h σ) (hW : ec_WF σ) : ∃ h', ec_om 136 0 [.ref 72, .double 0, .double 0] [] h = some (.inl (some (.int (ec_i (ed_lits σ)))), h') ∧ ed_Ar h' 78 48 (fun z => ed_q (ed_lit σ z)) ∧ ec_fg ed_78 h h' := by
  obtain ⟨h1, a1, a2, a3⟩ := ec_c135 hD hs hW
  refine ⟨h1, ?_, a2, a3⟩
  have e := ec_c136L (hD.of a3.1.1) a2 48 0 (by omega)
  unfold ec_MD at hD
  have e : ec_om 136 8 [.ref 72, .int (ec_i 0), .int (ec_i 0)] [] h1 = _ := e
  simp (disch := first | (simp only [ec_w_kI, ec_w_kL, ec_w_kA, ec_w_shpI, ec_w_shpL, ec_w_shpA, ec_isR_r, ec_01z, ec_01o, ec_01q, hD]; done) | omega | (simp only [ec_w_shpI, ec_w_shpL, ec_w_shpA, hD]; refine ec_zinO ?_; omega) | (refine ec_nzO ?_; omega)) only [ec_s136_0, ec_s136_1, ec_s136_4, ec_s136_5, ec_s136_6, ec_s136_7, ec_s136_9, ec_s136_11, ec_s136_14, ec_s136_15, ec_s136_16, ec_s136_19, ec_s136_20, ec_s136_21, ec_s136_24, ec_s136_25, ec_s136_28, ec_s136_29, ec_s136_30, ec_s136_31, ec_s136_34, ec_s136_37, ec_s136_38, ec_zn0, ec_zn1, ec_zn2, ec_zn3, ec_zn4, ec_zn5, ec_zn6, ec_zn7, ec_zn8, ec_zn9, ec_zn10, ec_zn12, ec_zn13, ec_zn14, ec_zn15, ec_zn16, ec_zn20, ec_zn30, ec_zn48, ec_zn99, ec_zn120, ec_zn127, ec_zn11, ec_zn31, ec_zn46, ec_zn57, ec_zn59, ec_zn63, ec_zn101, ec_zn107, ec_zn108, ec_zn110, ec_zn111, ec_zn115, ec_zn116, ec_zn119, ec_zn167, ec_zn185, ec_zn192, ec_zn215, ec_zn233, ec_zn699, ec_zn932, ec_zn999, ec_znF, ec_zneg, ec_zadd, ec_zsub, ec_zmul, ec_zdivO, ec_em, ec_zltO, ec_zeqO, ec_zeq0, ec_qt, ec_qf, if_pos, if_neg, Int.add_zero, ec_aft_v, ec_aft_n, ec_rwE, ec_rwN, ec_rwP, ec_rwK, ec_rwS, ec_w_shpI, ec_w_shpL, ec_w_shpA, hD, a1, e]
