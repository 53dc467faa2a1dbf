/-! Contracts of the reference: costs of sounds. -/
def ed_cap (D : Nat → Int) (z : Int) : Int := if D z.toNat = 1000000 then 999 else D z.toNat
def ed_sm (c : Int → Int) : Int := ec_sm (fun k => c (k : Int)) 48
theorem ed_sm_su {c : Int → Int} {z v : Int} (hz : 0 ≤ z ∧ z < 48) (hv : v < c z) : ed_sm (ec_su c z v) < ed_sm c := by
  refine ec_sm_lt 48 (fun k _ => ?_) ⟨z.toNat, by omega, ?_⟩
  · show ec_su c z v (k : Int) ≤ c (k : Int)
    by_cases e : (k : Int) = z
    · rw [ec_suE e, e]; omega
    · rw [ec_suN e]; exact Int.le_refl _
  · show ec_su c z v ((z.toNat : Nat) : Int) < c ((z.toNat : Nat) : Int)
    rw [show ((z.toNat : Nat) : Int) = z by omega, ec_suE rfl]
    exact hv
abbrev ed_80 : Nat → Nat → Prop := fun q _ => q = 80
/-- what holds of the labels all the time -/
def ed_CI (σ : ec_Sg) (g : Int) (c : Int → Int) : Prop := ∀ z : Int, 0 ≤ z ∧ z < 48 → (ed_cap (ed_lb σ 2 g) z ≤ c z ∧ c z ≤ 999) ∧ (c z < 999 → ec_ing σ z) ∧ (z = g → c z ≤ 0)
theorem ed_CI.up {σ : ec_Sg} (w : ec_WF σ) {g : Int} {c : Int → Int} (hg : ec_ing σ g) (a : ed_CI σ g c) {z d : Int} (hz : 0 ≤ z ∧ z < 48) (hd : 0 ≤ d ∧ d < 4) (h1 : c z < 999) (hb : ec_hb σ z d) (h2 : c z + ed_snd σ z d < c (ec_nb z d)) : ed_CI σ g (ec_su c (ec_nb z d) (c z + ed_snd σ z d)) := by
  have az := a z hz
  have zi := az.2.1 h1
  have ni := ec_nb_in w zi hd hb
  have an := a (ec_nb z d) ni.1
  have e : ed_P σ 2 z d = ed_snd σ z d := by
    unfold ed_P
    rw [if_pos (show ec_ing σ z ∧ ec_hb σ z d from ⟨zi, hb⟩), if_pos rfl]
  have r := ed_snd_rg (σ := σ) (z := z) (d := d)
  have bz := ed_lb_bd w (m := 2) hg.1 (k := z.toNat) (by omega)
  have bn := ed_lb_bd w (m := 2) hg.1 (k := (ec_nb z d).toNat) (by omega)
  have q := (ed_lb_LD w (m := 2) hg.1).2.1 z d hz hd (by omega)
  intro u hu
  by_cases eu : u = ec_nb z d
  · rw [ec_suE eu, eu]
    refine ⟨⟨?_, by omega⟩, fun _ => ni, fun h => ?_⟩
    · have a1 := az.1.1
      unfold ed_cap at a1 ⊢
      rcases bz.2 with bz2 | bz2
      · rw [if_pos bz2] at a1; omega
      · rw [if_neg (by omega)] at a1
        have q := q (by omega)
        rw [if_neg (by omega)]
        omega
    · have := an.2.2 h
      have := az.1.1
      unfold ed_cap at this
      split at this <;> omega
  · rw [ec_suN eu]
    exact a u hu
/-- relaxed labels are the costs -/
theorem ed_CI.fin {σ : ec_Sg} (w : ec_WF σ) {g : Int} {c : Int → Int} (hg : ec_ing σ g) (a : ed_CI σ g c) (hr : ∀ z d : Int, 0 ≤ z ∧ z < 48 → 0 ≤ d ∧ d < 4 → c z < 999 → ec_hb σ z d → ¬ c z + ed_snd σ z d < c (ec_nb z d)) : ∀ z : Int, 0 ≤ z ∧ z < 48 → c z = ed_cap (ed_lb σ 2 g) z := by
  intro z hz
  have hb := ed_lb_bd w (m := 2) hg.1 (k := z.toNat) (by omega)
  have h := (ed_lb_LD w (m := 2) hg.1).le (c := fun k => c (k : Int)) ed_P_PP (fun k hk => ?_) (fun u d hu hd p0 _ => ?_) (ed_lb σ 2 g z.toNat).toNat z.toNat (by omega) (by omega)
  · have h : c ((z.toNat : Nat) : Int) ≤ ed_lb σ 2 g z.toNat := h
    rw [show ((z.toNat : Nat) : Int) = z by omega] at h
    have a1 := (a z hz).1
    unfold ed_cap at a1 ⊢
    split
    · rename_i e; rw [if_pos e] at a1; omega
    · rename_i e; rw [if_neg e] at a1; omega
  · show c (k : Int) ≤ _
    rw [ed_c0 hg.1]
    have a1 := a (k : Int) (by omega)
    split
    · rename_i e; exact a1.2.2 (by omega)
    · omega
  · show c (((ec_nb u d).toNat : Nat) : Int) ≤ c ((u.toNat : Nat) : Int) + ed_P σ 2 u d
    have pi := ed_P_in p0
    have ni := (ec_nb_in w pi.1 hd pi.2).1
    rw [show ((u.toNat : Nat) : Int) = u by omega, show (((ec_nb u d).toNat : Nat) : Int) = ec_nb u d by omega]
    have e : ed_P σ 2 u d = ed_snd σ u d := by
      unfold ed_P
      rw [if_pos pi, if_pos rfl]
    have r := ed_snd_rg (σ := σ) (z := u) (d := d)
    by_cases q : c u < 999
    · have := hr u d hu hd q pi.2
      omega
    · have := (a _ ni).1
      omega
theorem ec_c139a {σ : ec_Sg} {g : Int} (hg : 0 ≤ g ∧ g < 48) : ∀ (n : Nat) (k : Int) (h : ec_Hp), ec_MD h → 0 ≤ k → k + n = 48 → (∀ z : Int, 0 ≤ z ∧ z < k → h.2.1 80 (ec_i z).toNatClampNeg = ec_i (if z = g then 0 else 999)) →
    ∃ h', ec_om 139 2 [.ref 72, .int (ec_i g), .int (ec_i k), .double 0, .double 0, .double 0] [] h = ec_om 139 32 [.ref 72, .int (ec_i g), .int (ec_i 48), .double 0, .double 0, .double 0] [] h' ∧ ed_Ar h' 80 48 (fun z => if z = g then 0 else 999) ∧ ec_fg ed_80 h h' := by
  intro n
  induction n with
  | zero =>
    intro k h hD h0 hk hA
    have hk : k = 48 := by omega
    subst hk
    refine ⟨h, ?_, fun z hz => hA z (by omega), ec_fg.refl⟩
    rw [ec_s139_2]
    simp (disch := first | (simp only [ec_01z, ec_01o, ec_01q]; done) | omega | (refine ec_nzO ?_; omega)) only [ec_s139_0, ec_s139_1, ec_s139_3, ec_s139_5, ec_s139_8, ec_s139_9, ec_s139_12, ec_s139_13, ec_s139_14, ec_s139_15, ec_s139_18, ec_s139_19, ec_s139_22, ec_s139_25, ec_s139_26, ec_s139_29, ec_s139_33, ec_s139_34, ec_s139_35, ec_s139_38, ec_s139_39, ec_s139_40, ec_s139_41, ec_s139_42, ec_s139_43, ec_s139_46, ec_s139_49, ec_s139_50, ec_s139_51, ec_s139_52, ec_s139_54, ec_s139_55, ec_s139_56, ec_s139_57, ec_s139_59, ec_s139_60, ec_s139_63, ec_s139_65, ec_s139_66, ec_s139_69, ec_s139_72, ec_s139_73, ec_s139_75, ec_s139_77, ec_s139_80, ec_s139_83, ec_s139_84, ec_s139_87, ec_s139_89, ec_s139_90, ec_s139_91, ec_s139_93, ec_s139_95, ec_s139_98, ec_s139_99, ec_s139_100, ec_s139_103, ec_s139_105, ec_s139_107, ec_s139_110, ec_s139_111, ec_s139_114, ec_s139_115, ec_s139_118, ec_s139_120, ec_s139_122, ec_s139_125, ec_s139_126, ec_s139_129, ec_s139_131, ec_s139_132, ec_s139_133, ec_s139_135, ec_s139_137, ec_s139_140, ec_s139_141, ec_s139_142, ec_s139_143, ec_s139_144, ec_s139_147, ec_s139_150, ec_s139_153, ec_zn0, ec_zn1, ec_zn2, ec_zn3, ec_zn4, ec_zn5, ec_zn6, ec_zn7, ec_zn8, ec_zn9, ec_zn10, ec_zn12, ec_zn13, ec_zn14, ec_zn15, ec_zn16, ec_zn20, ec_zn30, ec_zn48, ec_zn99, ec_zn120, ec_zn127, ec_zn11, ec_zn31, ec_zn46, ec_zn57, ec_zn59, ec_zn63, ec_zn101, ec_zn107, ec_zn108, ec_zn110, ec_zn111, ec_zn115, ec_zn116, ec_zn119, ec_zn167, ec_zn185, ec_zn192, ec_zn215, ec_zn233, ec_zn699, ec_zn932, ec_zn999, ec_znF, ec_zneg, ec_zadd, ec_zsub, ec_zmul, ec_zdivO, ec_em, ec_zltO, ec_zeqO, ec_zeq0, ec_qt, ec_qf, if_pos, if_neg, Int.add_zero, ec_aft_v, ec_aft_n, ec_rwE, ec_rwN, ec_rwP, ec_rwK, ec_rwS, ec_w_shpI, ec_w_shpL, ec_w_shpA]
  | succ n ih =>
    intro k h hD h0 hk hA
    have hD0 := hD
    unfold ec_MD at hD
    obtain ⟨h', e1, e2, e3⟩ := ih (k + 1) (ec_setI h 80 (ec_i k).toNatClampNeg (ec_i (if k = g then 0 else 999))) (hD0.of rfl) (by omega) (by omega) (fun z hz => by
      by_cases e : z = k
      · subst e; rw [ec_rwE rfl]
      · rw [ec_rwN ⟨by omega, by omega, by omega⟩]; exact hA z (by omega))
    refine ⟨h', ?_, e2, (ec_fg.refl.I (by rfl)).trans e3⟩
    rw [ec_s139_2]
    by_cases e : k = g
    · rw [if_pos e] at e1
      simp (disch := first | (simp only [ec_w_kI, ec_w_kL, ec_w_kA, ec_w_shpI, ec_w_shpL, ec_w_shpA, ec_isR_r, ec_01z, ec_01o, ec_01q, hD]; done) | omega | (simp only [ec_w_shpI, ec_w_shpL, ec_w_shpA, hD]; refine ec_zinO ?_; omega) | (refine ec_nzO ?_; omega)) only [ec_s139_0, ec_s139_1, ec_s139_3, ec_s139_5, ec_s139_8, ec_s139_9, ec_s139_12, ec_s139_13, ec_s139_14, ec_s139_15, ec_s139_18, ec_s139_19, ec_s139_22, ec_s139_25, ec_s139_26, ec_s139_29, ec_s139_33, ec_s139_34, ec_s139_35, ec_s139_38, ec_s139_39, ec_s139_40, ec_s139_41, ec_s139_42, ec_s139_43, ec_s139_46, ec_s139_49, ec_s139_50, ec_s139_51, ec_s139_52, ec_s139_54, ec_s139_55, ec_s139_56, ec_s139_57, ec_s139_59, ec_s139_60, ec_s139_63, ec_s139_65, ec_s139_66, ec_s139_69, ec_s139_72, ec_s139_73, ec_s139_75, ec_s139_77, ec_s139_80, ec_s139_83, ec_s139_84, ec_s139_87, ec_s139_89, ec_s139_90, ec_s139_91, ec_s139_93, ec_s139_95, ec_s139_98, ec_s139_99, ec_s139_100, ec_s139_103, ec_s139_105, ec_s139_107, ec_s139_110, ec_s139_111, ec_s139_114, ec_s139_115, ec_s139_118, ec_s139_120, ec_s139_122, ec_s139_125, ec_s139_126, ec_s139_129, ec_s139_131, ec_s139_132, ec_s139_133, ec_s139_135, ec_s139_137, ec_s139_140, ec_s139_141, ec_s139_142, ec_s139_143, ec_s139_144, ec_s139_147, ec_s139_150, ec_s139_153, ec_zn0, ec_zn1, ec_zn2, ec_zn3, ec_zn4, ec_zn5, ec_zn6, ec_zn7, ec_zn8, ec_zn9, ec_zn10, ec_zn12, ec_zn13, ec_zn14, ec_zn15, ec_zn16, ec_zn20, ec_zn30, ec_zn48, ec_zn99, ec_zn120, ec_zn127, ec_zn11, ec_zn31, ec_zn46, ec_zn57, ec_zn59, ec_zn63, ec_zn101, ec_zn107, ec_zn108, ec_zn110, ec_zn111, ec_zn115, ec_zn116, ec_zn119, ec_zn167, ec_zn185, ec_zn192, ec_zn215, ec_zn233, ec_zn699, ec_zn932, ec_zn999, ec_znF, ec_zneg, ec_zadd, ec_zsub, ec_zmul, ec_zdivO, ec_em, ec_zltO, ec_zeqO, ec_zeq0, ec_qt, ec_qf, if_pos, if_neg, Int.add_zero, ec_aft_v, ec_aft_n, ec_rwE, ec_rwN, ec_rwP, ec_rwK, ec_rwS, ec_w_shpI, ec_w_shpL, ec_w_shpA, hD, e1]
    · rw [if_neg e] at e1
      simp (disch := first | (simp only [ec_w_kI, ec_w_kL, ec_w_kA, ec_w_shpI, ec_w_shpL, ec_w_shpA, ec_isR_r, ec_01z, ec_01o, ec_01q, hD]; done) | omega | (simp only [ec_w_shpI, ec_w_shpL, ec_w_shpA, hD]; refine ec_zinO ?_; omega) | (refine ec_nzO ?_; omega)) only [ec_s139_0, ec_s139_1, ec_s139_3, ec_s139_5, ec_s139_8, ec_s139_9, ec_s139_12, ec_s139_13, ec_s139_14, ec_s139_15, ec_s139_18, ec_s139_19, ec_s139_22, ec_s139_25, ec_s139_26, ec_s139_29, ec_s139_33, ec_s139_34, ec_s139_35, ec_s139_38, ec_s139_39, ec_s139_40, ec_s139_41, ec_s139_42, ec_s139_43, ec_s139_46, ec_s139_49, ec_s139_50, ec_s139_51, ec_s139_52, ec_s139_54, ec_s139_55, ec_s139_56, ec_s139_57, ec_s139_59, ec_s139_60, ec_s139_63, ec_s139_65, ec_s139_66, ec_s139_69, ec_s139_72, ec_s139_73, ec_s139_75, ec_s139_77, ec_s139_80, ec_s139_83, ec_s139_84, ec_s139_87, ec_s139_89, ec_s139_90, ec_s139_91, ec_s139_93, ec_s139_95, ec_s139_98, ec_s139_99, ec_s139_100, ec_s139_103, ec_s139_105, ec_s139_107, ec_s139_110, ec_s139_111, ec_s139_114, ec_s139_115, ec_s139_118, ec_s139_120, ec_s139_122, ec_s139_125, ec_s139_126, ec_s139_129, ec_s139_131, ec_s139_132, ec_s139_133, ec_s139_135, ec_s139_137, ec_s139_140, ec_s139_141, ec_s139_142, ec_s139_143, ec_s139_144, ec_s139_147, ec_s139_150, ec_s139_153, ec_zn0, ec_zn1, ec_zn2, ec_zn3, ec_zn4, ec_zn5, ec_zn6, ec_zn7, ec_zn8, ec_zn9, ec_zn10, ec_zn12, ec_zn13, ec_zn14, ec_zn15, ec_zn16, ec_zn20, ec_zn30, ec_zn48, ec_zn99, ec_zn120, ec_zn127, ec_zn11, ec_zn31, ec_zn46, ec_zn57, ec_zn59, ec_zn63, ec_zn101, ec_zn107, ec_zn108, ec_zn110, ec_zn111, ec_zn115, ec_zn116, ec_zn119, ec_zn167, ec_zn185, ec_zn192, ec_zn215, ec_zn233, ec_zn699, ec_zn932, ec_zn999, ec_znF, ec_zneg, ec_zadd, ec_zsub, ec_zmul, ec_zdivO, ec_em, ec_zltO, ec_zeqO, ec_zeq0, ec_qt, ec_qf, if_pos, if_neg, Int.add_zero, ec_aft_v, ec_aft_n, ec_rwE, ec_rwN, ec_rwP, ec_rwK, ec_rwS, ec_w_shpI, ec_w_shpL, ec_w_shpA, hD, e1]
def ed_rlx (σ : ec_Sg) (c : Int → Int) (j : Int) : Prop := c (j / 4) < 999 → ec_hb σ (j / 4) (j % 4) → ¬ c (j / 4) + ed_snd σ (j / 4) (j % 4) < c (ec_nb (j / 4) (j % 4))
set_option maxHeartbeats 1000000 in
theorem ec_c139b {σ : ec_Sg} (hW : ec_WF σ) {g : Int} (hg : ec_ing σ g) : ∀ (n : Nat) (k m : Int) (c : Int → Int) (h : ec_Hp) (w4 w5 : Value), ec_MD h → ec_Ms h σ → ed_Ar h 80 48 c → ed_CI σ g c → 0 ≤ k → k + n = 192 → 0 ≤ m ∧ m ≤ 1 →
    ∃ (h' : ec_Hp) (c' : Int → Int) (m' : Int) (w4' w5' : Value), ec_om 139 42 [.ref 72, .int (ec_i g), .int (ec_i m), .int (ec_i k), w4, w5] [] h = ec_om 139 34 [.ref 72, .int (ec_i g), .int (ec_i m'), .int (ec_i 192), w4', w5'] [] h' ∧ ed_Ar h' 80 48 c' ∧ ed_CI σ g c' ∧ ec_fg ed_80 h h' ∧
      (0 ≤ m' ∧ m' ≤ 1) ∧ (m' = 0 → m = 0 ∧ c' = c ∧ ∀ j : Int, k ≤ j ∧ j < 192 → ed_rlx σ c j) ∧ (m' = 1 → (m = 1 ∧ ed_sm c' ≤ ed_sm c) ∨ ed_sm c' < ed_sm c) := by
  intro n
  induction n with
  | zero =>
    intro k m c h w4 w5 hD hs hA hI h0 hk hm
    have hk : k = 192 := by omega
    subst hk
    refine ⟨h, c, m, w4, w5, ?_, hA, hI, ec_fg.refl, hm, fun e => ⟨e, rfl, fun j hj => absurd hj (by omega)⟩, fun e => Or.inl ⟨e, Int.le_refl _⟩⟩
    rw [ec_s139_42]
    simp (disch := first | (simp only [ec_01z, ec_01o, ec_01q]; done) | omega | (refine ec_nzO ?_; omega)) only [ec_s139_0, ec_s139_1, ec_s139_3, ec_s139_5, ec_s139_8, ec_s139_9, ec_s139_12, ec_s139_13, ec_s139_14, ec_s139_15, ec_s139_18, ec_s139_19, ec_s139_22, ec_s139_25, ec_s139_26, ec_s139_29, ec_s139_32, ec_s139_33, ec_s139_35, ec_s139_38, ec_s139_39, ec_s139_40, ec_s139_41, ec_s139_43, ec_s139_46, ec_s139_49, ec_s139_50, ec_s139_51, ec_s139_52, ec_s139_54, ec_s139_55, ec_s139_56, ec_s139_57, ec_s139_59, ec_s139_60, ec_s139_63, ec_s139_65, ec_s139_66, ec_s139_69, ec_s139_72, ec_s139_73, ec_s139_75, ec_s139_77, ec_s139_80, ec_s139_83, ec_s139_84, ec_s139_87, ec_s139_89, ec_s139_90, ec_s139_91, ec_s139_93, ec_s139_95, ec_s139_98, ec_s139_99, ec_s139_100, ec_s139_103, ec_s139_105, ec_s139_107, ec_s139_110, ec_s139_111, ec_s139_114, ec_s139_115, ec_s139_118, ec_s139_120, ec_s139_122, ec_s139_125, ec_s139_126, ec_s139_129, ec_s139_131, ec_s139_132, ec_s139_133, ec_s139_135, ec_s139_137, ec_s139_140, ec_s139_141, ec_s139_142, ec_s139_143, ec_s139_144, ec_s139_147, ec_s139_150, ec_s139_153, ec_zn0, ec_zn1, ec_zn2, ec_zn3, ec_zn4, ec_zn5, ec_zn6, ec_zn7, ec_zn8, ec_zn9, ec_zn10, ec_zn12, ec_zn13, ec_zn14, ec_zn15, ec_zn16, ec_zn20, ec_zn30, ec_zn48, ec_zn99, ec_zn120, ec_zn127, ec_zn11, ec_zn31, ec_zn46, ec_zn57, ec_zn59, ec_zn63, ec_zn101, ec_zn107, ec_zn108, ec_zn110, ec_zn111, ec_zn115, ec_zn116, ec_zn119, ec_zn167, ec_zn185, ec_zn192, ec_zn215, ec_zn233, ec_zn699, ec_zn932, ec_zn999, ec_znF, ec_zneg, ec_zadd, ec_zsub, ec_zmul, ec_zdivO, ec_em, ec_zltO, ec_zeqO, ec_zeq0, ec_qt, ec_qf, if_pos, if_neg, Int.add_zero, ec_aft_v, ec_aft_n, ec_rwE, ec_rwN, ec_rwP, ec_rwK, ec_rwS, ec_w_shpI, ec_w_shpL, ec_w_shpA]
  | succ n ih =>
    intro k m c h w4 w5 hD hs hA hI h0 hk hm
    have hz : 0 ≤ k / 4 ∧ k / 4 < 48 := by omega
    have hd : 0 ≤ k % 4 ∧ k % 4 < 4 := by omega
    have cz := hI (k / 4) hz
    have same : ed_rlx σ c k → ec_om 139 42 [.ref 72, .int (ec_i g), .int (ec_i m), .int (ec_i k), w4, w5] [] h = ec_om 139 42 [.ref 72, .int (ec_i g), .int (ec_i m), .int (ec_i (k + 1)), .int (ec_i (k / 4)), .int (ec_i (k % 4))] [] h → ∃ (h' : ec_Hp) (c' : Int → Int) (m' : Int) (w4' w5' : Value), ec_om 139 42 [.ref 72, .int (ec_i g), .int (ec_i m), .int (ec_i k), w4, w5] [] h = ec_om 139 34 [.ref 72, .int (ec_i g), .int (ec_i m'), .int (ec_i 192), w4', w5'] [] h' ∧ ed_Ar h' 80 48 c' ∧ ed_CI σ g c' ∧ ec_fg ed_80 h h' ∧
      (0 ≤ m' ∧ m' ≤ 1) ∧ (m' = 0 → m = 0 ∧ c' = c ∧ ∀ j : Int, k ≤ j ∧ j < 192 → ed_rlx σ c j) ∧ (m' = 1 → (m = 1 ∧ ed_sm c' ≤ ed_sm c) ∨ ed_sm c' < ed_sm c) := by
      intro hr he
      obtain ⟨h', c', m', w4', w5', e1, e2, e3, e4, e5, e6, e7⟩ := ih (k + 1) m c h (.int (ec_i (k / 4))) (.int (ec_i (k % 4))) hD hs hA hI (by omega) (by omega) hm
      refine ⟨h', c', m', w4', w5', he.trans e1, e2, e3, e4, e5, fun q => ?_, e7⟩
      obtain ⟨f1, f2, f3⟩ := e6 q
      refine ⟨f1, f2, fun j hj => ?_⟩
      by_cases ej : j = k
      · rw [ej]; exact hr
      · exact f3 j (by omega)
    have cn := fun b => hI (ec_nb (k / 4) (k % 4)) b
    have g0 := fun h => ec_c126 (h := h) (z := k / 4) hd
    have g1 := ec_c127 hD hs hW hz hd
    have hD0 := hD
    have hA0 := hA
    unfold ec_MD at hD
    unfold ed_Ar at hA
    have r := ed_snd_rg (σ := σ) (z := k / 4) (d := k % 4)
    have lo : 0 ≤ ed_cap (ed_lb σ 2 g) (k / 4) := by
      have := (ed_lb_bd hW (m := 2) hg.1 (k := (k / 4).toNat) (by omega)).1
      unfold ed_cap
      split <;> omega
    by_cases h1 : c (k / 4) < 999
    · by_cases hb : ec_hb σ (k / 4) (k % 4)
      · have zi := cz.2.1 h1
        have ni := ec_nb_in hW zi hd hb
        have g2 := ec_c138 hD0 hs hW zi hd
        have cn := cn ni.1
        have lo2 : 0 ≤ ed_cap (ed_lb σ 2 g) (ec_nb (k / 4) (k % 4)) := by
          have := (ed_lb_bd hW (m := 2) hg.1 (k := (ec_nb (k / 4) (k % 4)).toNat) (by omega)).1
          unfold ed_cap
          split <;> omega
        rw [ec_qt hb] at g1
        have n1 := ni.1
        by_cases h2 : c (k / 4) + ed_snd σ (k / 4) (k % 4) < c (ec_nb (k / 4) (k % 4))
        · obtain ⟨h', c', m', w4', w5', e1, e2, e3, e4, e5, e6, e7⟩ := ih (k + 1) 1 _ (ec_setI h 80 (ec_i (ec_nb (k / 4) (k % 4))).toNatClampNeg (ec_i (c (k / 4) + ed_snd σ (k / 4) (k % 4)))) (.int (ec_i (k / 4))) (.int (ec_i (k % 4))) (hD0.of rfl) (hs.o (by decide)) (hA0.w (by decide) n1) (hI.up hW hg hz hd h1 hb h2) (by omega) (by omega) (by omega)
          refine ⟨h', c', m', w4', w5', ?_, e2, e3, (ec_fg.refl.I (by rfl)).trans e4, e5, fun q => absurd (e6 q).1 (by decide), fun q => ?_⟩
          · rw [ec_s139_42]
            generalize ed_snd σ (k / 4) (k % 4) = s at g2 r h2 e1
            generalize ec_nb (k / 4) (k % 4) = nb at g0 ni cn n1 h2 e1 lo2
            simp (disch := first | (simp only [ec_w_kI, ec_w_kL, ec_w_kA, ec_w_shpI, ec_w_shpL, ec_w_shpA, ec_isR_r, ec_01z, ec_01o, ec_01q, hD]; done) | omega | (simp only [ec_w_shpI, ec_w_shpL, ec_w_shpA, hD]; refine ec_zinO ?_; omega) | (refine ec_nzO ?_; omega)) only [ec_s139_0, ec_s139_1, ec_s139_3, ec_s139_5, ec_s139_8, ec_s139_9, ec_s139_12, ec_s139_13, ec_s139_14, ec_s139_15, ec_s139_18, ec_s139_19, ec_s139_22, ec_s139_25, ec_s139_26, ec_s139_29, ec_s139_32, ec_s139_33, ec_s139_35, ec_s139_38, ec_s139_39, ec_s139_40, ec_s139_41, ec_s139_43, ec_s139_46, ec_s139_49, ec_s139_50, ec_s139_51, ec_s139_52, ec_s139_54, ec_s139_55, ec_s139_56, ec_s139_57, ec_s139_59, ec_s139_60, ec_s139_63, ec_s139_65, ec_s139_66, ec_s139_69, ec_s139_72, ec_s139_73, ec_s139_75, ec_s139_77, ec_s139_80, ec_s139_83, ec_s139_84, ec_s139_87, ec_s139_89, ec_s139_90, ec_s139_91, ec_s139_93, ec_s139_95, ec_s139_98, ec_s139_99, ec_s139_100, ec_s139_103, ec_s139_105, ec_s139_107, ec_s139_110, ec_s139_111, ec_s139_114, ec_s139_115, ec_s139_118, ec_s139_120, ec_s139_122, ec_s139_125, ec_s139_126, ec_s139_129, ec_s139_131, ec_s139_132, ec_s139_133, ec_s139_135, ec_s139_137, ec_s139_140, ec_s139_141, ec_s139_142, ec_s139_143, ec_s139_144, ec_s139_147, ec_s139_150, ec_s139_153, ec_zn0, ec_zn1, ec_zn2, ec_zn3, ec_zn4, ec_zn5, ec_zn6, ec_zn7, ec_zn8, ec_zn9, ec_zn10, ec_zn12, ec_zn13, ec_zn14, ec_zn15, ec_zn16, ec_zn20, ec_zn30, ec_zn48, ec_zn99, ec_zn120, ec_zn127, ec_zn11, ec_zn31, ec_zn46, ec_zn57, ec_zn59, ec_zn63, ec_zn101, ec_zn107, ec_zn108, ec_zn110, ec_zn111, ec_zn115, ec_zn116, ec_zn119, ec_zn167, ec_zn185, ec_zn192, ec_zn215, ec_zn233, ec_zn699, ec_zn932, ec_zn999, ec_znF, ec_zneg, ec_zadd, ec_zsub, ec_zmul, ec_zdivO, ec_em, ec_zltO, ec_zeqO, ec_zeq0, ec_qt, ec_qf, if_pos, if_neg, Int.add_zero, ec_aft_v, ec_aft_n, ec_rwE, ec_rwN, ec_rwP, ec_rwK, ec_rwS, ec_w_shpI, ec_w_shpL, ec_w_shpA, hD, hA, g0, g1, g2, e1]
          · have := ed_sm_su n1 h2
            have := e7 q
            right
            omega
        · refine same (fun _ _ => h2) ?_
          rw [ec_s139_42]
          generalize ed_snd σ (k / 4) (k % 4) = s at g2 r h2
          generalize ec_nb (k / 4) (k % 4) = nb at g0 ni cn n1 h2 lo2
          simp (disch := first | (simp only [ec_w_kI, ec_w_kL, ec_w_kA, ec_w_shpI, ec_w_shpL, ec_w_shpA, ec_isR_r, ec_01z, ec_01o, ec_01q, hD]; done) | omega | (simp only [ec_w_shpI, ec_w_shpL, ec_w_shpA, hD]; refine ec_zinO ?_; omega) | (refine ec_nzO ?_; omega)) only [ec_s139_0, ec_s139_1, ec_s139_3, ec_s139_5, ec_s139_8, ec_s139_9, ec_s139_12, ec_s139_13, ec_s139_14, ec_s139_15, ec_s139_18, ec_s139_19, ec_s139_22, ec_s139_25, ec_s139_26, ec_s139_29, ec_s139_32, ec_s139_33, ec_s139_35, ec_s139_38, ec_s139_39, ec_s139_40, ec_s139_41, ec_s139_43, ec_s139_46, ec_s139_49, ec_s139_50, ec_s139_51, ec_s139_52, ec_s139_54, ec_s139_55, ec_s139_56, ec_s139_57, ec_s139_59, ec_s139_60, ec_s139_63, ec_s139_65, ec_s139_66, ec_s139_69, ec_s139_72, ec_s139_73, ec_s139_75, ec_s139_77, ec_s139_80, ec_s139_83, ec_s139_84, ec_s139_87, ec_s139_89, ec_s139_90, ec_s139_91, ec_s139_93, ec_s139_95, ec_s139_98, ec_s139_99, ec_s139_100, ec_s139_103, ec_s139_105, ec_s139_107, ec_s139_110, ec_s139_111, ec_s139_114, ec_s139_115, ec_s139_118, ec_s139_120, ec_s139_122, ec_s139_125, ec_s139_126, ec_s139_129, ec_s139_131, ec_s139_132, ec_s139_133, ec_s139_135, ec_s139_137, ec_s139_140, ec_s139_141, ec_s139_142, ec_s139_143, ec_s139_144, ec_s139_147, ec_s139_150, ec_s139_153, ec_zn0, ec_zn1, ec_zn2, ec_zn3, ec_zn4, ec_zn5, ec_zn6, ec_zn7, ec_zn8, ec_zn9, ec_zn10, ec_zn12, ec_zn13, ec_zn14, ec_zn15, ec_zn16, ec_zn20, ec_zn30, ec_zn48, ec_zn99, ec_zn120, ec_zn127, ec_zn11, ec_zn31, ec_zn46, ec_zn57, ec_zn59, ec_zn63, ec_zn101, ec_zn107, ec_zn108, ec_zn110, ec_zn111, ec_zn115, ec_zn116, ec_zn119, ec_zn167, ec_zn185, ec_zn192, ec_zn215, ec_zn233, ec_zn699, ec_zn932, ec_zn999, ec_znF, ec_zneg, ec_zadd, ec_zsub, ec_zmul, ec_zdivO, ec_em, ec_zltO, ec_zeqO, ec_zeq0, ec_qt, ec_qf, if_pos, if_neg, Int.add_zero, ec_aft_v, ec_aft_n, ec_rwE, ec_rwN, ec_rwP, ec_rwK, ec_rwS, ec_w_shpI, ec_w_shpL, ec_w_shpA, hD, hA, g0, g1, g2]
      · refine same (fun _ q => absurd q hb) ?_
        rw [ec_qf hb] at g1
        rw [ec_s139_42]
        simp (disch := first | (simp only [ec_w_kI, ec_w_kL, ec_w_kA, ec_w_shpI, ec_w_shpL, ec_w_shpA, ec_isR_r, ec_01z, ec_01o, ec_01q, hD]; done) | omega | (simp only [ec_w_shpI, ec_w_shpL, ec_w_shpA, hD]; refine ec_zinO ?_; omega) | (refine ec_nzO ?_; omega)) only [ec_s139_0, ec_s139_1, ec_s139_3, ec_s139_5, ec_s139_8, ec_s139_9, ec_s139_12, ec_s139_13, ec_s139_14, ec_s139_15, ec_s139_18, ec_s139_19, ec_s139_22, ec_s139_25, ec_s139_26, ec_s139_29, ec_s139_32, ec_s139_33, ec_s139_35, ec_s139_38, ec_s139_39, ec_s139_40, ec_s139_41, ec_s139_43, ec_s139_46, ec_s139_49, ec_s139_50, ec_s139_51, ec_s139_52, ec_s139_54, ec_s139_55, ec_s139_56, ec_s139_57, ec_s139_59, ec_s139_60, ec_s139_63, ec_s139_65, ec_s139_66, ec_s139_69, ec_s139_72, ec_s139_73, ec_s139_75, ec_s139_77, ec_s139_80, ec_s139_83, ec_s139_84, ec_s139_87, ec_s139_89, ec_s139_90, ec_s139_91, ec_s139_93, ec_s139_95, ec_s139_98, ec_s139_99, ec_s139_100, ec_s139_103, ec_s139_105, ec_s139_107, ec_s139_110, ec_s139_111, ec_s139_114, ec_s139_115, ec_s139_118, ec_s139_120, ec_s139_122, ec_s139_125, ec_s139_126, ec_s139_129, ec_s139_131, ec_s139_132, ec_s139_133, ec_s139_135, ec_s139_137, ec_s139_140, ec_s139_141, ec_s139_142, ec_s139_143, ec_s139_144, ec_s139_147, ec_s139_150, ec_s139_153, ec_zn0, ec_zn1, ec_zn2, ec_zn3, ec_zn4, ec_zn5, ec_zn6, ec_zn7, ec_zn8, ec_zn9, ec_zn10, ec_zn12, ec_zn13, ec_zn14, ec_zn15, ec_zn16, ec_zn20, ec_zn30, ec_zn48, ec_zn99, ec_zn120, ec_zn127, ec_zn11, ec_zn31, ec_zn46, ec_zn57, ec_zn59, ec_zn63, ec_zn101, ec_zn107, ec_zn108, ec_zn110, ec_zn111, ec_zn115, ec_zn116, ec_zn119, ec_zn167, ec_zn185, ec_zn192, ec_zn215, ec_zn233, ec_zn699, ec_zn932, ec_zn999, ec_znF, ec_zneg, ec_zadd, ec_zsub, ec_zmul, ec_zdivO, ec_em, ec_zltO, ec_zeqO, ec_zeq0, ec_qt, ec_qf, if_pos, if_neg, Int.add_zero, ec_aft_v, ec_aft_n, ec_rwE, ec_rwN, ec_rwP, ec_rwK, ec_rwS, ec_w_shpI, ec_w_shpL, ec_w_shpA, hD, hA, g1]
    · refine same (fun q => absurd q h1) ?_
      rw [ec_s139_42]
      simp (disch := first | (simp only [ec_w_kI, ec_w_kL, ec_w_kA, ec_w_shpI, ec_w_shpL, ec_w_shpA, ec_isR_r, ec_01z, ec_01o, ec_01q, hD]; done) | omega | (simp only [ec_w_shpI, ec_w_shpL, ec_w_shpA, hD]; refine ec_zinO ?_; omega) | (refine ec_nzO ?_; omega)) only [ec_s139_0, ec_s139_1, ec_s139_3, ec_s139_5, ec_s139_8, ec_s139_9, ec_s139_12, ec_s139_13, ec_s139_14, ec_s139_15, ec_s139_18, ec_s139_19, ec_s139_22, ec_s139_25, ec_s139_26, ec_s139_29, ec_s139_32, ec_s139_33, ec_s139_35, ec_s139_38, ec_s139_39, ec_s139_40, ec_s139_41, ec_s139_43, ec_s139_46, ec_s139_49, ec_s139_50, ec_s139_51, ec_s139_52, ec_s139_54, ec_s139_55, ec_s139_56, ec_s139_57, ec_s139_59, ec_s139_60, ec_s139_63, ec_s139_65, ec_s139_66, ec_s139_69, ec_s139_72, ec_s139_73, ec_s139_75, ec_s139_77, ec_s139_80, ec_s139_83, ec_s139_84, ec_s139_87, ec_s139_89, ec_s139_90, ec_s139_91, ec_s139_93, ec_s139_95, ec_s139_98, ec_s139_99, ec_s139_100, ec_s139_103, ec_s139_105, ec_s139_107, ec_s139_110, ec_s139_111, ec_s139_114, ec_s139_115, ec_s139_118, ec_s139_120, ec_s139_122, ec_s139_125, ec_s139_126, ec_s139_129, ec_s139_131, ec_s139_132, ec_s139_133, ec_s139_135, ec_s139_137, ec_s139_140, ec_s139_141, ec_s139_142, ec_s139_143, ec_s139_144, ec_s139_147, ec_s139_150, ec_s139_153, ec_zn0, ec_zn1, ec_zn2, ec_zn3, ec_zn4, ec_zn5, ec_zn6, ec_zn7, ec_zn8, ec_zn9, ec_zn10, ec_zn12, ec_zn13, ec_zn14, ec_zn15, ec_zn16, ec_zn20, ec_zn30, ec_zn48, ec_zn99, ec_zn120, ec_zn127, ec_zn11, ec_zn31, ec_zn46, ec_zn57, ec_zn59, ec_zn63, ec_zn101, ec_zn107, ec_zn108, ec_zn110, ec_zn111, ec_zn115, ec_zn116, ec_zn119, ec_zn167, ec_zn185, ec_zn192, ec_zn215, ec_zn233, ec_zn699, ec_zn932, ec_zn999, ec_znF, ec_zneg, ec_zadd, ec_zsub, ec_zmul, ec_zdivO, ec_em, ec_zltO, ec_zeqO, ec_zeq0, ec_qt, ec_qf, if_pos, if_neg, Int.add_zero, ec_aft_v, ec_aft_n, ec_rwE, ec_rwN, ec_rwP, ec_rwK, ec_rwS, ec_w_shpI, ec_w_shpL, ec_w_shpA, hD, hA]
theorem ec_c139c {σ : ec_Sg} (hW : ec_WF σ) {g : Int} (hg : ec_ing σ g) : ∀ (N : Nat) (c : Int → Int) (h : ec_Hp) (w3 w4 w5 : Value), ec_MD h → ec_Ms h σ → ed_Ar h 80 48 c → ed_CI σ g c → ed_sm c ≤ N →
    ∃ (h' : ec_Hp), ec_om 139 34 [.ref 72, .int (ec_i g), .int (ec_i 1), w3, w4, w5] [] h = some (.inl none, h') ∧ ed_Ar h' 80 48 (ed_cap (ed_lb σ 2 g)) ∧ ec_fg ed_80 h h' := by
  intro N
  induction N with
  | zero =>
    intro c h w3 w4 w5 hD hs hA hI hN
    obtain ⟨h', c', m', w4', w5', e1, e2, e3, e4, e5, e6, e7⟩ := ec_c139b hW hg 192 0 0 c h w4 w5 hD hs hA hI (by omega) (by omega) (by omega)
    by_cases q : m' = 0
    · obtain ⟨-, f2, f3⟩ := e6 q
      subst q
      refine ⟨h', ?_, fun z hz => ?_, e4⟩
      · rw [ec_s139_34]
        simp (disch := first | (simp only [ec_01z, ec_01o, ec_01q]; done) | omega | (refine ec_nzO ?_; omega)) only [ec_s139_0, ec_s139_1, ec_s139_3, ec_s139_5, ec_s139_8, ec_s139_9, ec_s139_12, ec_s139_13, ec_s139_14, ec_s139_15, ec_s139_18, ec_s139_19, ec_s139_22, ec_s139_25, ec_s139_26, ec_s139_29, ec_s139_32, ec_s139_33, ec_s139_35, ec_s139_38, ec_s139_39, ec_s139_40, ec_s139_41, ec_s139_43, ec_s139_46, ec_s139_49, ec_s139_50, ec_s139_51, ec_s139_52, ec_s139_54, ec_s139_55, ec_s139_56, ec_s139_57, ec_s139_59, ec_s139_60, ec_s139_63, ec_s139_65, ec_s139_66, ec_s139_69, ec_s139_72, ec_s139_73, ec_s139_75, ec_s139_77, ec_s139_80, ec_s139_83, ec_s139_84, ec_s139_87, ec_s139_89, ec_s139_90, ec_s139_91, ec_s139_93, ec_s139_95, ec_s139_98, ec_s139_99, ec_s139_100, ec_s139_103, ec_s139_105, ec_s139_107, ec_s139_110, ec_s139_111, ec_s139_114, ec_s139_115, ec_s139_118, ec_s139_120, ec_s139_122, ec_s139_125, ec_s139_126, ec_s139_129, ec_s139_131, ec_s139_132, ec_s139_133, ec_s139_135, ec_s139_137, ec_s139_140, ec_s139_141, ec_s139_142, ec_s139_143, ec_s139_144, ec_s139_147, ec_s139_150, ec_s139_153, ec_zn0, ec_zn1, ec_zn2, ec_zn3, ec_zn4, ec_zn5, ec_zn6, ec_zn7, ec_zn8, ec_zn9, ec_zn10, ec_zn12, ec_zn13, ec_zn14, ec_zn15, ec_zn16, ec_zn20, ec_zn30, ec_zn48, ec_zn99, ec_zn120, ec_zn127, ec_zn11, ec_zn31, ec_zn46, ec_zn57, ec_zn59, ec_zn63, ec_zn101, ec_zn107, ec_zn108, ec_zn110, ec_zn111, ec_zn115, ec_zn116, ec_zn119, ec_zn167, ec_zn185, ec_zn192, ec_zn215, ec_zn233, ec_zn699, ec_zn932, ec_zn999, ec_znF, ec_zneg, ec_zadd, ec_zsub, ec_zmul, ec_zdivO, ec_em, ec_zltO, ec_zeqO, ec_zeq0, ec_qt, ec_qf, if_pos, if_neg, Int.add_zero, ec_aft_v, ec_aft_n, ec_rwE, ec_rwN, ec_rwP, ec_rwK, ec_rwS, ec_w_shpI, ec_w_shpL, ec_w_shpA]
        rw [e1, ec_s139_34]
        simp (disch := first | (simp only [ec_01z, ec_01o, ec_01q]; done) | omega | (refine ec_nzO ?_; omega)) only [ec_s139_0, ec_s139_1, ec_s139_3, ec_s139_5, ec_s139_8, ec_s139_9, ec_s139_12, ec_s139_13, ec_s139_14, ec_s139_15, ec_s139_18, ec_s139_19, ec_s139_22, ec_s139_25, ec_s139_26, ec_s139_29, ec_s139_32, ec_s139_33, ec_s139_35, ec_s139_38, ec_s139_39, ec_s139_40, ec_s139_41, ec_s139_43, ec_s139_46, ec_s139_49, ec_s139_50, ec_s139_51, ec_s139_52, ec_s139_54, ec_s139_55, ec_s139_56, ec_s139_57, ec_s139_59, ec_s139_60, ec_s139_63, ec_s139_65, ec_s139_66, ec_s139_69, ec_s139_72, ec_s139_73, ec_s139_75, ec_s139_77, ec_s139_80, ec_s139_83, ec_s139_84, ec_s139_87, ec_s139_89, ec_s139_90, ec_s139_91, ec_s139_93, ec_s139_95, ec_s139_98, ec_s139_99, ec_s139_100, ec_s139_103, ec_s139_105, ec_s139_107, ec_s139_110, ec_s139_111, ec_s139_114, ec_s139_115, ec_s139_118, ec_s139_120, ec_s139_122, ec_s139_125, ec_s139_126, ec_s139_129, ec_s139_131, ec_s139_132, ec_s139_133, ec_s139_135, ec_s139_137, ec_s139_140, ec_s139_141, ec_s139_142, ec_s139_143, ec_s139_144, ec_s139_147, ec_s139_150, ec_s139_153, ec_zn0, ec_zn1, ec_zn2, ec_zn3, ec_zn4, ec_zn5, ec_zn6, ec_zn7, ec_zn8, ec_zn9, ec_zn10, ec_zn12, ec_zn13, ec_zn14, ec_zn15, ec_zn16, ec_zn20, ec_zn30, ec_zn48, ec_zn99, ec_zn120, ec_zn127, ec_zn11, ec_zn31, ec_zn46, ec_zn57, ec_zn59, ec_zn63, ec_zn101, ec_zn107, ec_zn108, ec_zn110, ec_zn111, ec_zn115, ec_zn116, ec_zn119, ec_zn167, ec_zn185, ec_zn192, ec_zn215, ec_zn233, ec_zn699, ec_zn932, ec_zn999, ec_znF, ec_zneg, ec_zadd, ec_zsub, ec_zmul, ec_zdivO, ec_em, ec_zltO, ec_zeqO, ec_zeq0, ec_qt, ec_qf, if_pos, if_neg, Int.add_zero, ec_aft_v, ec_aft_n, ec_rwE, ec_rwN, ec_rwP, ec_rwK, ec_rwS, ec_w_shpI, ec_w_shpL, ec_w_shpA]
      · rw [e2 z hz, f2]
        congr 1
        refine hI.fin hW hg (fun u d hu hd h1 h2 => ?_) z hz
        have := f3 (4 * u + d) (by omega)
        unfold ed_rlx at this
        rw [show (4 * u + d) / 4 = u by omega, show (4 * u + d) % 4 = d by omega] at this
        exact this h1 h2
    · have := e7 (by omega)
      have : 0 ≤ ed_sm c' := ec_sm_nn 48 (fun k hk => by
        have := (e3 (k : Int) (by omega)).1.1
        have b := (ed_lb_bd hW (m := 2) hg.1 (k := ((k : Int)).toNat) (by omega)).1
        unfold ed_cap at this
        split at this <;> omega)
      omega
  | succ N ih =>
    intro c h w3 w4 w5 hD hs hA hI hN
    obtain ⟨h', c', m', w4', w5', e1, e2, e3, e4, e5, e6, e7⟩ := ec_c139b hW hg 192 0 0 c h w4 w5 hD hs hA hI (by omega) (by omega) (by omega)
    by_cases q : m' = 0
    · obtain ⟨-, f2, f3⟩ := e6 q
      subst q
      refine ⟨h', ?_, fun z hz => ?_, e4⟩
      · rw [ec_s139_34]
        simp (disch := first | (simp only [ec_01z, ec_01o, ec_01q]; done) | omega | (refine ec_nzO ?_; omega)) only [ec_s139_0, ec_s139_1, ec_s139_3, ec_s139_5, ec_s139_8, ec_s139_9, ec_s139_12, ec_s139_13, ec_s139_14, ec_s139_15, ec_s139_18, ec_s139_19, ec_s139_22, ec_s139_25, ec_s139_26, ec_s139_29, ec_s139_32, ec_s139_33, ec_s139_35, ec_s139_38, ec_s139_39, ec_s139_40, ec_s139_41, ec_s139_43, ec_s139_46, ec_s139_49, ec_s139_50, ec_s139_51, ec_s139_52, ec_s139_54, ec_s139_55, ec_s139_56, ec_s139_57, ec_s139_59, ec_s139_60, ec_s139_63, ec_s139_65, ec_s139_66, ec_s139_69, ec_s139_72, ec_s139_73, ec_s139_75, ec_s139_77, ec_s139_80, ec_s139_83, ec_s139_84, ec_s139_87, ec_s139_89, ec_s139_90, ec_s139_91, ec_s139_93, ec_s139_95, ec_s139_98, ec_s139_99, ec_s139_100, ec_s139_103, ec_s139_105, ec_s139_107, ec_s139_110, ec_s139_111, ec_s139_114, ec_s139_115, ec_s139_118, ec_s139_120, ec_s139_122, ec_s139_125, ec_s139_126, ec_s139_129, ec_s139_131, ec_s139_132, ec_s139_133, ec_s139_135, ec_s139_137, ec_s139_140, ec_s139_141, ec_s139_142, ec_s139_143, ec_s139_144, ec_s139_147, ec_s139_150, ec_s139_153, ec_zn0, ec_zn1, ec_zn2, ec_zn3, ec_zn4, ec_zn5, ec_zn6, ec_zn7, ec_zn8, ec_zn9, ec_zn10, ec_zn12, ec_zn13, ec_zn14, ec_zn15, ec_zn16, ec_zn20, ec_zn30, ec_zn48, ec_zn99, ec_zn120, ec_zn127, ec_zn11, ec_zn31, ec_zn46, ec_zn57, ec_zn59, ec_zn63, ec_zn101, ec_zn107, ec_zn108, ec_zn110, ec_zn111, ec_zn115, ec_zn116, ec_zn119, ec_zn167, ec_zn185, ec_zn192, ec_zn215, ec_zn233, ec_zn699, ec_zn932, ec_zn999, ec_znF, ec_zneg, ec_zadd, ec_zsub, ec_zmul, ec_zdivO, ec_em, ec_zltO, ec_zeqO, ec_zeq0, ec_qt, ec_qf, if_pos, if_neg, Int.add_zero, ec_aft_v, ec_aft_n, ec_rwE, ec_rwN, ec_rwP, ec_rwK, ec_rwS, ec_w_shpI, ec_w_shpL, ec_w_shpA]
        rw [e1, ec_s139_34]
        simp (disch := first | (simp only [ec_01z, ec_01o, ec_01q]; done) | omega | (refine ec_nzO ?_; omega)) only [ec_s139_0, ec_s139_1, ec_s139_3, ec_s139_5, ec_s139_8, ec_s139_9, ec_s139_12, ec_s139_13, ec_s139_14, ec_s139_15, ec_s139_18, ec_s139_19, ec_s139_22, ec_s139_25, ec_s139_26, ec_s139_29, ec_s139_32, ec_s139_33, ec_s139_35, ec_s139_38, ec_s139_39, ec_s139_40, ec_s139_41, ec_s139_43, ec_s139_46, ec_s139_49, ec_s139_50, ec_s139_51, ec_s139_52, ec_s139_54, ec_s139_55, ec_s139_56, ec_s139_57, ec_s139_59, ec_s139_60, ec_s139_63, ec_s139_65, ec_s139_66, ec_s139_69, ec_s139_72, ec_s139_73, ec_s139_75, ec_s139_77, ec_s139_80, ec_s139_83, ec_s139_84, ec_s139_87, ec_s139_89, ec_s139_90, ec_s139_91, ec_s139_93, ec_s139_95, ec_s139_98, ec_s139_99, ec_s139_100, ec_s139_103, ec_s139_105, ec_s139_107, ec_s139_110, ec_s139_111, ec_s139_114, ec_s139_115, ec_s139_118, ec_s139_120, ec_s139_122, ec_s139_125, ec_s139_126, ec_s139_129, ec_s139_131, ec_s139_132, ec_s139_133, ec_s139_135, ec_s139_137, ec_s139_140, ec_s139_141, ec_s139_142, ec_s139_143, ec_s139_144, ec_s139_147, ec_s139_150, ec_s139_153, ec_zn0, ec_zn1, ec_zn2, ec_zn3, ec_zn4, ec_zn5, ec_zn6, ec_zn7, ec_zn8, ec_zn9, ec_zn10, ec_zn12, ec_zn13, ec_zn14, ec_zn15, ec_zn16, ec_zn20, ec_zn30, ec_zn48, ec_zn99, ec_zn120, ec_zn127, ec_zn11, ec_zn31, ec_zn46, ec_zn57, ec_zn59, ec_zn63, ec_zn101, ec_zn107, ec_zn108, ec_zn110, ec_zn111, ec_zn115, ec_zn116, ec_zn119, ec_zn167, ec_zn185, ec_zn192, ec_zn215, ec_zn233, ec_zn699, ec_zn932, ec_zn999, ec_znF, ec_zneg, ec_zadd, ec_zsub, ec_zmul, ec_zdivO, ec_em, ec_zltO, ec_zeqO, ec_zeq0, ec_qt, ec_qf, if_pos, if_neg, Int.add_zero, ec_aft_v, ec_aft_n, ec_rwE, ec_rwN, ec_rwP, ec_rwK, ec_rwS, ec_w_shpI, ec_w_shpL, ec_w_shpA]
      · rw [e2 z hz, f2]
        congr 1
        refine hI.fin hW hg (fun u d hu hd h1 h2 => ?_) z hz
        have := f3 (4 * u + d) (by omega)
        unfold ed_rlx at this
        rw [show (4 * u + d) / 4 = u by omega, show (4 * u + d) % 4 = d by omega] at this
        exact this h1 h2
    · have q1 : m' = 1 := by omega
      subst q1
      have := e7 rfl
      obtain ⟨h2, f1, f2, f3⟩ := ih c' h' (.int (ec_i 192)) w4' w5' (hD.of e4.1.1) (hs.fg e4 (fun _ => (by decide : ¬ (73 : Nat) = 80))) e2 e3 (by omega)
      refine ⟨h2, ?_, f2, e4.trans f3⟩
      rw [ec_s139_34]
      simp (disch := first | (simp only [ec_01z, ec_01o, ec_01q]; done) | omega | (refine ec_nzO ?_; omega)) only [ec_s139_0, ec_s139_1, ec_s139_3, ec_s139_5, ec_s139_8, ec_s139_9, ec_s139_12, ec_s139_13, ec_s139_14, ec_s139_15, ec_s139_18, ec_s139_19, ec_s139_22, ec_s139_25, ec_s139_26, ec_s139_29, ec_s139_32, ec_s139_33, ec_s139_35, ec_s139_38, ec_s139_39, ec_s139_40, ec_s139_41, ec_s139_43, ec_s139_46, ec_s139_49, ec_s139_50, ec_s139_51, ec_s139_52, ec_s139_54, ec_s139_55, ec_s139_56, ec_s139_57, ec_s139_59, ec_s139_60, ec_s139_63, ec_s139_65, ec_s139_66, ec_s139_69, ec_s139_72, ec_s139_73, ec_s139_75, ec_s139_77, ec_s139_80, ec_s139_83, ec_s139_84, ec_s139_87, ec_s139_89, ec_s139_90, ec_s139_91, ec_s139_93, ec_s139_95, ec_s139_98, ec_s139_99, ec_s139_100, ec_s139_103, ec_s139_105, ec_s139_107, ec_s139_110, ec_s139_111, ec_s139_114, ec_s139_115, ec_s139_118, ec_s139_120, ec_s139_122, ec_s139_125, ec_s139_126, ec_s139_129, ec_s139_131, ec_s139_132, ec_s139_133, ec_s139_135, ec_s139_137, ec_s139_140, ec_s139_141, ec_s139_142, ec_s139_143, ec_s139_144, ec_s139_147, ec_s139_150, ec_s139_153, ec_zn0, ec_zn1, ec_zn2, ec_zn3, ec_zn4, ec_zn5, ec_zn6, ec_zn7, ec_zn8, ec_zn9, ec_zn10, ec_zn12, ec_zn13, ec_zn14, ec_zn15, ec_zn16, ec_zn20, ec_zn30, ec_zn48, ec_zn99, ec_zn120, ec_zn127, ec_zn11, ec_zn31, ec_zn46, ec_zn57, ec_zn59, ec_zn63, ec_zn101, ec_zn107, ec_zn108, ec_zn110, ec_zn111, ec_zn115, ec_zn116, ec_zn119, ec_zn167, ec_zn185, ec_zn192, ec_zn215, ec_zn233, ec_zn699, ec_zn932, ec_zn999, ec_znF, ec_zneg, ec_zadd, ec_zsub, ec_zmul, ec_zdivO, ec_em, ec_zltO, ec_zeqO, ec_zeq0, ec_qt, ec_qf, if_pos, if_neg, Int.add_zero, ec_aft_v, ec_aft_n, ec_rwE, ec_rwN, ec_rwP, ec_rwK, ec_rwS, ec_w_shpI, ec_w_shpL, ec_w_shpA]
      rw [e1, f1]
theorem ec_c139 {h : ec_Hp} {σ : ec_Sg} (hD : ec_MD h) (hs : ec_Ms h σ) (hW : ec_WF σ) {g : Int} (hg : ec_ing σ g) : ∃ h', ec_om 139 0 [.ref 72, .int (ec_i g), .double 0, .double 0, .double 0, .double 0] [] h = some (.inl none, h') ∧ ed_Ar h' 80 48 (ed_cap (ed_lb σ 2 g)) ∧ ec_fg ed_80 h h' := by
  obtain ⟨h1, e1, e2, e3⟩ := ec_c139a (σ := σ) hg.1 48 0 h hD (by omega) (by omega) (fun z hz => absurd hz (by omega))
  have hI : ed_CI σ g (fun z => if z = g then 0 else 999) := by
    intro z hz
    have b := ed_lb_bd hW (m := 2) hg.1 (k := z.toNat) (by omega)
    have b0 := ed_lb_0 hW (m := 2) hg.1
    show (ed_cap (ed_lb σ 2 g) z ≤ (if z = g then 0 else 999) ∧ (if z = g then 0 else 999) ≤ 999) ∧ ((if z = g then 0 else 999) < 999 → ec_ing σ z) ∧ (z = g → (if z = g then 0 else 999) ≤ 0)
    by_cases e : z = g
    · subst e
      rw [if_pos rfl]
      unfold ed_cap
      rw [if_neg (by omega)]
      exact ⟨by omega, fun _ => hg, fun _ => by omega⟩
    · rw [if_neg e]
      refine ⟨⟨?_, by omega⟩, fun q => absurd q (by omega), fun q => absurd q e⟩
      unfold ed_cap
      split <;> omega
  obtain ⟨h2, f1, f2, f3⟩ := ec_c139c hW hg (ed_sm (fun z => if z = g then 0 else 999)).toNat _ h1 (.double 0) (.double 0) (.double 0) (hD.of e3.1.1) (hs.fg e3 (fun _ => (by decide : ¬ (73 : Nat) = 80))) e2 hI (by omega)
  refine ⟨h2, ?_, f2, e3.trans f3⟩
  rw [ec_s139_0, ec_s139_1, ec_zn0, e1, ec_s139_32, ec_s139_33, ec_zn1, f1]
