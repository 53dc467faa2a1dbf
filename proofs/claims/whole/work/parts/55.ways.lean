/-! Contracts of the reference: costs of ways. -/
abbrev ed_81 : Nat → Nat → Prop := fun q _ => q = 81
def ed_WI (σ : ec_Sg) (κ g : Int) (c : Int → Int) : Prop := ∀ z : Int, 0 ≤ z ∧ z < 48 → (ed_cap (ed_lb σ κ g) z ≤ c z ∧ c z ≤ 999) ∧ (c z < 999 → ec_ing σ z) ∧ (z = g → c z ≤ 0)
theorem ed_wby_hb {σ : ec_Sg} {κ z d : Int} (h : 0 < ed_wby σ κ z d) : ec_hb σ z d := by
  apply Classical.byContradiction
  intro hb
  have e : ec_ba σ z d = 1 := if_neg hb
  unfold ed_wby ec_cq at h
  rw [e, if_neg (by omega), if_neg (by omega)] at h
  omega
theorem ed_P_wby {σ : ec_Sg} {κ z d : Int} (hκ : 0 ≤ κ ∧ κ ≤ 1) (hz : ec_ing σ z) : ed_P σ κ z d = ed_wby σ κ z d := by
  have r := ed_wby_rg (σ := σ) (k := κ) (z := z) (d := d)
  unfold ed_P
  by_cases hb : ec_hb σ z d
  · rw [if_pos (show ec_ing σ z ∧ ec_hb σ z d from ⟨hz, hb⟩), if_neg (by omega)]
  · rw [if_neg (fun q => hb q.2)]
    by_cases q : 0 < ed_wby σ κ z d
    · exact absurd (ed_wby_hb q) hb
    · omega
theorem ed_WI.up {σ : ec_Sg} (w : ec_WF σ) {κ g : Int} {c : Int → Int} (hκ : 0 ≤ κ ∧ κ ≤ 1) (hg : ec_ing σ g) (a : ed_WI σ κ g c) {z d : Int} (hz : ec_ing σ z) (hd : 0 ≤ d ∧ d < 4) (hb : 0 < ed_wby σ κ z d) (h2 : c (ec_nb z d) + ed_wby σ κ z d < c z) : ed_WI σ κ g (ec_su c z (c (ec_nb z d) + ed_wby σ κ z d)) := by
  have hbb := ed_wby_hb hb
  obtain ⟨ni, o1, o2, o3⟩ := ed_opp w hz hd hbb
  have az := a z hz.1
  have an := a (ec_nb z d) ni.1
  have e : ed_P σ κ (ec_nb z d) ((d + 2) % 4) = ed_wby σ κ z d := by
    rw [ed_P_opp w hz hd hbb, ed_P_wby hκ hz]
  have bz := ed_lb_bd w (m := κ) hg.1 (k := z.toNat) (by have := hz.1; omega)
  have bn := ed_lb_bd w (m := κ) hg.1 (k := (ec_nb z d).toNat) (by have := ni.1; omega)
  have q := (ed_lb_LD w (m := κ) hg.1).2.1 (ec_nb z d) ((d + 2) % 4) ni.1 (by omega) (by omega)
  rw [o3, e] at q
  intro u hu
  by_cases eu : u = z
  · rw [ec_suE eu, eu]
    refine ⟨⟨?_, by omega⟩, fun _ => hz, fun h => ?_⟩
    · have a1 := an.1.1
      unfold ed_cap at a1 ⊢
      rcases bn.2 with bz2 | bz2
      · rw [if_pos bz2] at a1; omega
      · rw [if_neg (by omega)] at a1
        have q := q (by omega)
        rw [if_neg (by omega)]
        omega
    · have := az.2.2 h
      have := an.1.1
      unfold ed_cap at this
      split at this <;> omega
  · rw [ec_suN eu]
    exact a u hu
theorem ed_WI.fin {σ : ec_Sg} (w : ec_WF σ) {κ g : Int} {c : Int → Int} (hκ : 0 ≤ κ ∧ κ ≤ 1) (hg : ec_ing σ g) (a : ed_WI σ κ g c) (hr : ∀ z d : Int, ec_ing σ z → 0 ≤ d ∧ d < 4 → 0 < ed_wby σ κ z d → ¬ c (ec_nb z d) + ed_wby σ κ z d < c z) : ∀ z : Int, 0 ≤ z ∧ z < 48 → c z = ed_cap (ed_lb σ κ g) z := by
  intro z hz
  have hb := ed_lb_bd w (m := κ) hg.1 (k := z.toNat) (by omega)
  have h := (ed_lb_LD w (m := κ) hg.1).le (c := fun k => c (k : Int)) ed_P_PP (fun k hk => ?_) (fun u d hu hd p0 _ => ?_) (ed_lb σ κ g z.toNat).toNat z.toNat (by omega) (by omega)
  · have h : c ((z.toNat : Nat) : Int) ≤ ed_lb σ κ g z.toNat := h
    rw [show ((z.toNat : Nat) : Int) = z by omega] at h
    have a1 := (a z hz).1
    unfold ed_cap at a1 ⊢
    split
    · rename_i e; rw [if_pos e] at a1; omega
    · rename_i e; rw [if_neg e] at a1; omega
  · show c (k : Int) ≤ _
    rw [ed_c0 hg.1]
    have a1 := a (k : Int) (by omega)
    split
    · rename_i e; exact a1.2.2 (by omega)
    · omega
  · show c (((ec_nb u d).toNat : Nat) : Int) ≤ c ((u.toNat : Nat) : Int) + ed_P σ κ u d
    have pi := ed_P_in p0
    obtain ⟨ni, o1, o2, o3⟩ := ed_opp w pi.1 hd pi.2
    have n1 := ni.1
    rw [show ((u.toNat : Nat) : Int) = u by omega, show (((ec_nb u d).toNat : Nat) : Int) = ec_nb u d by omega]
    have e : ed_wby σ κ (ec_nb u d) ((d + 2) % 4) = ed_P σ κ u d := by
      rw [← ed_P_wby hκ ni, ed_P_opp w pi.1 hd pi.2]
    have pp := ed_P_PP (σ := σ) (m := κ) u d hu hd
    have := hr (ec_nb u d) ((d + 2) % 4) ni (by omega) (by omega)
    rw [o3, e] at this
    omega
theorem ec_c141a {κ : Int} {g : Int} (hg : 0 ≤ g ∧ g < 48) : ∀ (n : Nat) (k : Int) (h : ec_Hp), ec_MD h → 0 ≤ k → k + n = 48 → (∀ z : Int, 0 ≤ z ∧ z < k → h.2.1 81 (ec_i z).toNatClampNeg = ec_i (if z = g then 0 else 999)) →
    ∃ h', ec_om 141 2 [.ref 72, .int (ec_i g), .int (ec_i κ), .int (ec_i k), .double 0, .double 0, .double 0, .double 0] [] h = ec_om 141 32 [.ref 72, .int (ec_i g), .int (ec_i κ), .int (ec_i 48), .double 0, .double 0, .double 0, .double 0] [] h' ∧ ed_Ar h' 81 48 (fun z => if z = g then 0 else 999) ∧ ec_fg ed_81 h h' := by
  intro n
  induction n with
  | zero =>
    intro k h hD h0 hk hA
    have hk : k = 48 := by omega
    subst hk
    refine ⟨h, ?_, fun z hz => hA z (by omega), ec_fg.refl⟩
    rw [ec_s141_2]
    simp (disch := first | (simp only [ec_01z, ec_01o, ec_01q]; done) | omega | (refine ec_nzO ?_; omega)) only [ec_s141_0, ec_s141_1, ec_s141_3, ec_s141_5, ec_s141_8, ec_s141_9, ec_s141_12, ec_s141_13, ec_s141_14, ec_s141_15, ec_s141_18, ec_s141_19, ec_s141_22, ec_s141_25, ec_s141_26, ec_s141_29, ec_s141_33, ec_s141_34, ec_s141_35, ec_s141_38, ec_s141_39, ec_s141_40, ec_s141_41, ec_s141_43, ec_s141_45, ec_s141_48, ec_s141_51, ec_s141_53, ec_s141_54, ec_s141_55, ec_s141_57, ec_s141_59, ec_s141_60, ec_s141_61, ec_s141_63, ec_s141_64, ec_s141_66, ec_s141_69, ec_s141_72, ec_s141_73, ec_s141_75, ec_s141_77, ec_s141_78, ec_s141_81, ec_s141_84, ec_s141_85, ec_s141_87, ec_s141_89, ec_s141_92, ec_s141_93, ec_s141_96, ec_s141_98, ec_s141_100, ec_s141_103, ec_s141_104, ec_s141_106, ec_s141_107, ec_s141_108, ec_s141_111, ec_s141_113, ec_s141_114, ec_s141_117, ec_s141_118, ec_s141_121, ec_s141_123, ec_s141_124, ec_s141_127, ec_s141_129, ec_s141_131, ec_s141_134, ec_s141_135, ec_s141_137, ec_s141_138, ec_s141_139, ec_s141_140, ec_s141_141, ec_s141_144, ec_s141_147, ec_s141_150, ec_zn0, ec_zn1, ec_zn2, ec_zn3, ec_zn4, ec_zn5, ec_zn6, ec_zn7, ec_zn8, ec_zn9, ec_zn10, ec_zn12, ec_zn13, ec_zn14, ec_zn15, ec_zn16, ec_zn20, ec_zn30, ec_zn48, ec_zn99, ec_zn120, ec_zn127, ec_zn11, ec_zn31, ec_zn46, ec_zn57, ec_zn59, ec_zn63, ec_zn101, ec_zn107, ec_zn108, ec_zn110, ec_zn111, ec_zn115, ec_zn116, ec_zn119, ec_zn167, ec_zn185, ec_zn192, ec_zn215, ec_zn233, ec_zn699, ec_zn932, ec_zn999, ec_znF, ec_zneg, ec_zadd, ec_zsub, ec_zmul, ec_zdivO, ec_em, ec_zltO, ec_zeqO, ec_zeq0, ec_qt, ec_qf, if_pos, if_neg, Int.add_zero, ec_aft_v, ec_aft_n, ec_rwE, ec_rwN, ec_rwP, ec_rwK, ec_rwS, ec_w_shpI, ec_w_shpL, ec_w_shpA]
  | succ n ih =>
    intro k h hD h0 hk hA
    have hD0 := hD
    unfold ec_MD at hD
    obtain ⟨h', e1, e2, e3⟩ := ih (k + 1) (ec_setI h 81 (ec_i k).toNatClampNeg (ec_i (if k = g then 0 else 999))) (hD0.of rfl) (by omega) (by omega) (fun z hz => by
      by_cases e : z = k
      · subst e; rw [ec_rwE rfl]
      · rw [ec_rwN ⟨by omega, by omega, by omega⟩]; exact hA z (by omega))
    refine ⟨h', ?_, e2, (ec_fg.refl.I (by rfl)).trans e3⟩
    rw [ec_s141_2]
    by_cases e : k = g
    · rw [if_pos e] at e1
      simp (disch := first | (simp only [ec_w_kI, ec_w_kL, ec_w_kA, ec_w_shpI, ec_w_shpL, ec_w_shpA, ec_isR_r, ec_01z, ec_01o, ec_01q, hD]; done) | omega | (simp only [ec_w_shpI, ec_w_shpL, ec_w_shpA, hD]; refine ec_zinO ?_; omega) | (refine ec_nzO ?_; omega)) only [ec_s141_0, ec_s141_1, ec_s141_3, ec_s141_5, ec_s141_8, ec_s141_9, ec_s141_12, ec_s141_13, ec_s141_14, ec_s141_15, ec_s141_18, ec_s141_19, ec_s141_22, ec_s141_25, ec_s141_26, ec_s141_29, ec_s141_33, ec_s141_34, ec_s141_35, ec_s141_38, ec_s141_39, ec_s141_40, ec_s141_41, ec_s141_43, ec_s141_45, ec_s141_48, ec_s141_51, ec_s141_53, ec_s141_54, ec_s141_55, ec_s141_57, ec_s141_59, ec_s141_60, ec_s141_61, ec_s141_63, ec_s141_64, ec_s141_66, ec_s141_69, ec_s141_72, ec_s141_73, ec_s141_75, ec_s141_77, ec_s141_78, ec_s141_81, ec_s141_84, ec_s141_85, ec_s141_87, ec_s141_89, ec_s141_92, ec_s141_93, ec_s141_96, ec_s141_98, ec_s141_100, ec_s141_103, ec_s141_104, ec_s141_106, ec_s141_107, ec_s141_108, ec_s141_111, ec_s141_113, ec_s141_114, ec_s141_117, ec_s141_118, ec_s141_121, ec_s141_123, ec_s141_124, ec_s141_127, ec_s141_129, ec_s141_131, ec_s141_134, ec_s141_135, ec_s141_137, ec_s141_138, ec_s141_139, ec_s141_140, ec_s141_141, ec_s141_144, ec_s141_147, ec_s141_150, ec_zn0, ec_zn1, ec_zn2, ec_zn3, ec_zn4, ec_zn5, ec_zn6, ec_zn7, ec_zn8, ec_zn9, ec_zn10, ec_zn12, ec_zn13, ec_zn14, ec_zn15, ec_zn16, ec_zn20, ec_zn30, ec_zn48, ec_zn99, ec_zn120, ec_zn127, ec_zn11, ec_zn31, ec_zn46, ec_zn57, ec_zn59, ec_zn63, ec_zn101, ec_zn107, ec_zn108, ec_zn110, ec_zn111, ec_zn115, ec_zn116, ec_zn119, ec_zn167, ec_zn185, ec_zn192, ec_zn215, ec_zn233, ec_zn699, ec_zn932, ec_zn999, ec_znF, ec_zneg, ec_zadd, ec_zsub, ec_zmul, ec_zdivO, ec_em, ec_zltO, ec_zeqO, ec_zeq0, ec_qt, ec_qf, if_pos, if_neg, Int.add_zero, ec_aft_v, ec_aft_n, ec_rwE, ec_rwN, ec_rwP, ec_rwK, ec_rwS, ec_w_shpI, ec_w_shpL, ec_w_shpA, hD, e1]
    · rw [if_neg e] at e1
      simp (disch := first | (simp only [ec_w_kI, ec_w_kL, ec_w_kA, ec_w_shpI, ec_w_shpL, ec_w_shpA, ec_isR_r, ec_01z, ec_01o, ec_01q, hD]; done) | omega | (simp only [ec_w_shpI, ec_w_shpL, ec_w_shpA, hD]; refine ec_zinO ?_; omega) | (refine ec_nzO ?_; omega)) only [ec_s141_0, ec_s141_1, ec_s141_3, ec_s141_5, ec_s141_8, ec_s141_9, ec_s141_12, ec_s141_13, ec_s141_14, ec_s141_15, ec_s141_18, ec_s141_19, ec_s141_22, ec_s141_25, ec_s141_26, ec_s141_29, ec_s141_33, ec_s141_34, ec_s141_35, ec_s141_38, ec_s141_39, ec_s141_40, ec_s141_41, ec_s141_43, ec_s141_45, ec_s141_48, ec_s141_51, ec_s141_53, ec_s141_54, ec_s141_55, ec_s141_57, ec_s141_59, ec_s141_60, ec_s141_61, ec_s141_63, ec_s141_64, ec_s141_66, ec_s141_69, ec_s141_72, ec_s141_73, ec_s141_75, ec_s141_77, ec_s141_78, ec_s141_81, ec_s141_84, ec_s141_85, ec_s141_87, ec_s141_89, ec_s141_92, ec_s141_93, ec_s141_96, ec_s141_98, ec_s141_100, ec_s141_103, ec_s141_104, ec_s141_106, ec_s141_107, ec_s141_108, ec_s141_111, ec_s141_113, ec_s141_114, ec_s141_117, ec_s141_118, ec_s141_121, ec_s141_123, ec_s141_124, ec_s141_127, ec_s141_129, ec_s141_131, ec_s141_134, ec_s141_135, ec_s141_137, ec_s141_138, ec_s141_139, ec_s141_140, ec_s141_141, ec_s141_144, ec_s141_147, ec_s141_150, ec_zn0, ec_zn1, ec_zn2, ec_zn3, ec_zn4, ec_zn5, ec_zn6, ec_zn7, ec_zn8, ec_zn9, ec_zn10, ec_zn12, ec_zn13, ec_zn14, ec_zn15, ec_zn16, ec_zn20, ec_zn30, ec_zn48, ec_zn99, ec_zn120, ec_zn127, ec_zn11, ec_zn31, ec_zn46, ec_zn57, ec_zn59, ec_zn63, ec_zn101, ec_zn107, ec_zn108, ec_zn110, ec_zn111, ec_zn115, ec_zn116, ec_zn119, ec_zn167, ec_zn185, ec_zn192, ec_zn215, ec_zn233, ec_zn699, ec_zn932, ec_zn999, ec_znF, ec_zneg, ec_zadd, ec_zsub, ec_zmul, ec_zdivO, ec_em, ec_zltO, ec_zeqO, ec_zeq0, ec_qt, ec_qf, if_pos, if_neg, Int.add_zero, ec_aft_v, ec_aft_n, ec_rwE, ec_rwN, ec_rwP, ec_rwK, ec_rwS, ec_w_shpI, ec_w_shpL, ec_w_shpA, hD, e1]
def ed_rlw (σ : ec_Sg) (κ : Int) (c : Int → Int) (j : Int) : Prop := ec_ing σ (j / 4) → 0 < ed_wby σ κ (j / 4) (j % 4) → ¬ c (ec_nb (j / 4) (j % 4)) + ed_wby σ κ (j / 4) (j % 4) < c (j / 4)
set_option maxHeartbeats 1000000 in
theorem ec_c141b {σ : ec_Sg} (hW : ec_WF σ) {κ g : Int} (hκ : 0 ≤ κ ∧ κ ≤ 1) (hg : ec_ing σ g) : ∀ (n : Nat) (k m : Int) (c : Int → Int) (h : ec_Hp) (w5 w6 w7 : Value), ec_MD h → ec_Ms h σ → ed_Ar h 81 48 c → ed_WI σ κ g c → 0 ≤ k → k + n = 192 → 0 ≤ m ∧ m ≤ 1 →
    ∃ (h' : ec_Hp) (c' : Int → Int) (m' : Int) (w5' w6' w7' : Value), ec_om 141 43 [.ref 72, .int (ec_i g), .int (ec_i κ), .int (ec_i m), .int (ec_i k), w5, w6, w7] [] h = ec_om 141 34 [.ref 72, .int (ec_i g), .int (ec_i κ), .int (ec_i m'), .int (ec_i 192), w5', w6', w7'] [] h' ∧ ed_Ar h' 81 48 c' ∧ ed_WI σ κ g c' ∧ ec_fg ed_81 h h' ∧
      (0 ≤ m' ∧ m' ≤ 1) ∧ (m' = 0 → m = 0 ∧ c' = c ∧ ∀ j : Int, k ≤ j ∧ j < 192 → ed_rlw σ κ c j) ∧ (m' = 1 → (m = 1 ∧ ed_sm c' ≤ ed_sm c) ∨ ed_sm c' < ed_sm c) := by
  intro n
  induction n with
  | zero =>
    intro k m c h w5 w6 w7 hD hs hA hI h0 hk hm
    have hk : k = 192 := by omega
    subst hk
    refine ⟨h, c, m, w5, w6, w7, ?_, hA, hI, ec_fg.refl, hm, fun e => ⟨e, rfl, fun j hj => absurd hj (by omega)⟩, fun e => Or.inl ⟨e, Int.le_refl _⟩⟩
    rw [ec_s141_43]
    simp (disch := first | (simp only [ec_01z, ec_01o, ec_01q]; done) | omega | (refine ec_nzO ?_; omega)) only [ec_s141_0, ec_s141_1, ec_s141_3, ec_s141_5, ec_s141_8, ec_s141_9, ec_s141_12, ec_s141_13, ec_s141_14, ec_s141_15, ec_s141_18, ec_s141_19, ec_s141_22, ec_s141_25, ec_s141_26, ec_s141_29, ec_s141_32, ec_s141_33, ec_s141_35, ec_s141_38, ec_s141_39, ec_s141_40, ec_s141_41, ec_s141_45, ec_s141_48, ec_s141_51, ec_s141_53, ec_s141_54, ec_s141_55, ec_s141_57, ec_s141_59, ec_s141_60, ec_s141_61, ec_s141_63, ec_s141_64, ec_s141_66, ec_s141_69, ec_s141_72, ec_s141_73, ec_s141_75, ec_s141_77, ec_s141_78, ec_s141_81, ec_s141_84, ec_s141_85, ec_s141_87, ec_s141_89, ec_s141_92, ec_s141_93, ec_s141_96, ec_s141_98, ec_s141_100, ec_s141_103, ec_s141_104, ec_s141_106, ec_s141_107, ec_s141_108, ec_s141_111, ec_s141_113, ec_s141_114, ec_s141_117, ec_s141_118, ec_s141_121, ec_s141_123, ec_s141_124, ec_s141_127, ec_s141_129, ec_s141_131, ec_s141_134, ec_s141_135, ec_s141_137, ec_s141_138, ec_s141_139, ec_s141_140, ec_s141_141, ec_s141_144, ec_s141_147, ec_s141_150, ec_zn0, ec_zn1, ec_zn2, ec_zn3, ec_zn4, ec_zn5, ec_zn6, ec_zn7, ec_zn8, ec_zn9, ec_zn10, ec_zn12, ec_zn13, ec_zn14, ec_zn15, ec_zn16, ec_zn20, ec_zn30, ec_zn48, ec_zn99, ec_zn120, ec_zn127, ec_zn11, ec_zn31, ec_zn46, ec_zn57, ec_zn59, ec_zn63, ec_zn101, ec_zn107, ec_zn108, ec_zn110, ec_zn111, ec_zn115, ec_zn116, ec_zn119, ec_zn167, ec_zn185, ec_zn192, ec_zn215, ec_zn233, ec_zn699, ec_zn932, ec_zn999, ec_znF, ec_zneg, ec_zadd, ec_zsub, ec_zmul, ec_zdivO, ec_em, ec_zltO, ec_zeqO, ec_zeq0, ec_qt, ec_qf, if_pos, if_neg, Int.add_zero, ec_aft_v, ec_aft_n, ec_rwE, ec_rwN, ec_rwP, ec_rwK, ec_rwS, ec_w_shpI, ec_w_shpL, ec_w_shpA]
  | succ n ih =>
    intro k m c h w5 w6 w7 hD hs hA hI h0 hk hm
    have hz : 0 ≤ k / 4 ∧ k / 4 < 48 := by omega
    have hd : 0 ≤ k % 4 ∧ k % 4 < 4 := by omega
    have cz := hI (k / 4) hz
    have same : ∀ u7 : Value, ed_rlw σ κ c k → ec_om 141 43 [.ref 72, .int (ec_i g), .int (ec_i κ), .int (ec_i m), .int (ec_i k), w5, w6, w7] [] h = ec_om 141 43 [.ref 72, .int (ec_i g), .int (ec_i κ), .int (ec_i m), .int (ec_i (k + 1)), .int (ec_i (k / 4)), .int (ec_i (k % 4)), u7] [] h → ∃ (h' : ec_Hp) (c' : Int → Int) (m' : Int) (w5' w6' w7' : Value), ec_om 141 43 [.ref 72, .int (ec_i g), .int (ec_i κ), .int (ec_i m), .int (ec_i k), w5, w6, w7] [] h = ec_om 141 34 [.ref 72, .int (ec_i g), .int (ec_i κ), .int (ec_i m'), .int (ec_i 192), w5', w6', w7'] [] h' ∧ ed_Ar h' 81 48 c' ∧ ed_WI σ κ g c' ∧ ec_fg ed_81 h h' ∧
      (0 ≤ m' ∧ m' ≤ 1) ∧ (m' = 0 → m = 0 ∧ c' = c ∧ ∀ j : Int, k ≤ j ∧ j < 192 → ed_rlw σ κ c j) ∧ (m' = 1 → (m = 1 ∧ ed_sm c' ≤ ed_sm c) ∨ ed_sm c' < ed_sm c) := by
      intro u7 hr he
      obtain ⟨h', c', m', w5', w6', w7', e1, e2, e3, e4, e5, e6, e7⟩ := ih (k + 1) m c h (.int (ec_i (k / 4))) (.int (ec_i (k % 4))) u7 hD hs hA hI (by omega) (by omega) hm
      refine ⟨h', c', m', w5', w6', w7', he.trans e1, e2, e3, e4, e5, fun q => ?_, e7⟩
      obtain ⟨f1, f2, f3⟩ := e6 q
      refine ⟨f1, f2, fun j hj => ?_⟩
      by_cases ej : j = k
      · rw [ej]; exact hr
      · exact f3 j (by omega)
    have g0 := fun h => ec_c126 (h := h) (z := k / 4) hd
    have g1 := ec_c125 hD hs hW hz
    have hD0 := hD
    have hA0 := hA
    unfold ec_MD at hD
    unfold ed_Ar at hA
    have r := ed_wby_rg (σ := σ) (k := κ) (z := k / 4) (d := k % 4)
    have lo : ∀ z : Int, 0 ≤ z ∧ z < 48 → 0 ≤ ed_cap (ed_lb σ κ g) z := by
      intro z hz
      have := (ed_lb_bd hW (m := κ) hg.1 (k := z.toNat) (by omega)).1
      unfold ed_cap
      split <;> omega
    have loz := lo (k / 4) hz
    by_cases h1 : k / 4 % 8 < σ 0 ∧ k / 4 / 8 < σ 1
    · have zi : ec_ing σ (k / 4) := ⟨hz, h1⟩
      have g2 := ec_c140 hD0 hs hW zi hd hκ
      rw [ec_qt h1] at g1
      by_cases hb : 0 < ed_wby σ κ (k / 4) (k % 4)
      · have ni := ec_nb_in hW zi hd (ed_wby_hb hb)
        have cn := hI (ec_nb (k / 4) (k % 4)) ni.1
        have lo2 := lo (ec_nb (k / 4) (k % 4)) ni.1
        have n1 := ni.1
        by_cases h2 : c (ec_nb (k / 4) (k % 4)) + ed_wby σ κ (k / 4) (k % 4) < c (k / 4)
        · obtain ⟨h', c', m', w5', w6', w7', e1, e2, e3, e4, e5, e6, e7⟩ := ih (k + 1) 1 _ (ec_setI h 81 (ec_i (k / 4)).toNatClampNeg (ec_i (c (ec_nb (k / 4) (k % 4)) + ed_wby σ κ (k / 4) (k % 4)))) (.int (ec_i (k / 4))) (.int (ec_i (k % 4))) (.int (ec_i (ed_wby σ κ (k / 4) (k % 4)))) (hD0.of rfl) (hs.o (by decide)) (hA0.w (by decide) hz) (hI.up hW hκ hg zi hd hb h2) (by omega) (by omega) (by omega)
          refine ⟨h', c', m', w5', w6', w7', ?_, e2, e3, (ec_fg.refl.I (by rfl)).trans e4, e5, fun q => absurd (e6 q).1 (by decide), fun q => ?_⟩
          · rw [ec_s141_43]
            generalize ed_wby σ κ (k / 4) (k % 4) = s at g2 r h2 e1 hb
            generalize ec_nb (k / 4) (k % 4) = nb at g0 ni cn n1 h2 e1 lo2
            simp (disch := first | (simp only [ec_w_kI, ec_w_kL, ec_w_kA, ec_w_shpI, ec_w_shpL, ec_w_shpA, ec_isR_r, ec_01z, ec_01o, ec_01q, hD]; done) | omega | (simp only [ec_w_shpI, ec_w_shpL, ec_w_shpA, hD]; refine ec_zinO ?_; omega) | (refine ec_nzO ?_; omega)) only [ec_s141_0, ec_s141_1, ec_s141_3, ec_s141_5, ec_s141_8, ec_s141_9, ec_s141_12, ec_s141_13, ec_s141_14, ec_s141_15, ec_s141_18, ec_s141_19, ec_s141_22, ec_s141_25, ec_s141_26, ec_s141_29, ec_s141_32, ec_s141_33, ec_s141_35, ec_s141_38, ec_s141_39, ec_s141_40, ec_s141_41, ec_s141_45, ec_s141_48, ec_s141_51, ec_s141_53, ec_s141_54, ec_s141_55, ec_s141_57, ec_s141_59, ec_s141_60, ec_s141_61, ec_s141_63, ec_s141_64, ec_s141_66, ec_s141_69, ec_s141_72, ec_s141_73, ec_s141_75, ec_s141_77, ec_s141_78, ec_s141_81, ec_s141_84, ec_s141_85, ec_s141_87, ec_s141_89, ec_s141_92, ec_s141_93, ec_s141_96, ec_s141_98, ec_s141_100, ec_s141_103, ec_s141_104, ec_s141_106, ec_s141_107, ec_s141_108, ec_s141_111, ec_s141_113, ec_s141_114, ec_s141_117, ec_s141_118, ec_s141_121, ec_s141_123, ec_s141_124, ec_s141_127, ec_s141_129, ec_s141_131, ec_s141_134, ec_s141_135, ec_s141_137, ec_s141_138, ec_s141_139, ec_s141_140, ec_s141_141, ec_s141_144, ec_s141_147, ec_s141_150, ec_zn0, ec_zn1, ec_zn2, ec_zn3, ec_zn4, ec_zn5, ec_zn6, ec_zn7, ec_zn8, ec_zn9, ec_zn10, ec_zn12, ec_zn13, ec_zn14, ec_zn15, ec_zn16, ec_zn20, ec_zn30, ec_zn48, ec_zn99, ec_zn120, ec_zn127, ec_zn11, ec_zn31, ec_zn46, ec_zn57, ec_zn59, ec_zn63, ec_zn101, ec_zn107, ec_zn108, ec_zn110, ec_zn111, ec_zn115, ec_zn116, ec_zn119, ec_zn167, ec_zn185, ec_zn192, ec_zn215, ec_zn233, ec_zn699, ec_zn932, ec_zn999, ec_znF, ec_zneg, ec_zadd, ec_zsub, ec_zmul, ec_zdivO, ec_em, ec_zltO, ec_zeqO, ec_zeq0, ec_qt, ec_qf, if_pos, if_neg, Int.add_zero, ec_aft_v, ec_aft_n, ec_rwE, ec_rwN, ec_rwP, ec_rwK, ec_rwS, ec_w_shpI, ec_w_shpL, ec_w_shpA, hD, hA, g0, g1, g2, e1]
          · have := ed_sm_su hz h2
            have := e7 q
            right
            omega
        · refine same (.int (ec_i (ed_wby σ κ (k / 4) (k % 4)))) (fun _ _ => h2) ?_
          rw [ec_s141_43]
          generalize ed_wby σ κ (k / 4) (k % 4) = s at g2 r h2 hb
          generalize ec_nb (k / 4) (k % 4) = nb at g0 ni cn n1 h2 lo2
          simp (disch := first | (simp only [ec_w_kI, ec_w_kL, ec_w_kA, ec_w_shpI, ec_w_shpL, ec_w_shpA, ec_isR_r, ec_01z, ec_01o, ec_01q, hD]; done) | omega | (simp only [ec_w_shpI, ec_w_shpL, ec_w_shpA, hD]; refine ec_zinO ?_; omega) | (refine ec_nzO ?_; omega)) only [ec_s141_0, ec_s141_1, ec_s141_3, ec_s141_5, ec_s141_8, ec_s141_9, ec_s141_12, ec_s141_13, ec_s141_14, ec_s141_15, ec_s141_18, ec_s141_19, ec_s141_22, ec_s141_25, ec_s141_26, ec_s141_29, ec_s141_32, ec_s141_33, ec_s141_35, ec_s141_38, ec_s141_39, ec_s141_40, ec_s141_41, ec_s141_45, ec_s141_48, ec_s141_51, ec_s141_53, ec_s141_54, ec_s141_55, ec_s141_57, ec_s141_59, ec_s141_60, ec_s141_61, ec_s141_63, ec_s141_64, ec_s141_66, ec_s141_69, ec_s141_72, ec_s141_73, ec_s141_75, ec_s141_77, ec_s141_78, ec_s141_81, ec_s141_84, ec_s141_85, ec_s141_87, ec_s141_89, ec_s141_92, ec_s141_93, ec_s141_96, ec_s141_98, ec_s141_100, ec_s141_103, ec_s141_104, ec_s141_106, ec_s141_107, ec_s141_108, ec_s141_111, ec_s141_113, ec_s141_114, ec_s141_117, ec_s141_118, ec_s141_121, ec_s141_123, ec_s141_124, ec_s141_127, ec_s141_129, ec_s141_131, ec_s141_134, ec_s141_135, ec_s141_137, ec_s141_138, ec_s141_139, ec_s141_140, ec_s141_141, ec_s141_144, ec_s141_147, ec_s141_150, ec_zn0, ec_zn1, ec_zn2, ec_zn3, ec_zn4, ec_zn5, ec_zn6, ec_zn7, ec_zn8, ec_zn9, ec_zn10, ec_zn12, ec_zn13, ec_zn14, ec_zn15, ec_zn16, ec_zn20, ec_zn30, ec_zn48, ec_zn99, ec_zn120, ec_zn127, ec_zn11, ec_zn31, ec_zn46, ec_zn57, ec_zn59, ec_zn63, ec_zn101, ec_zn107, ec_zn108, ec_zn110, ec_zn111, ec_zn115, ec_zn116, ec_zn119, ec_zn167, ec_zn185, ec_zn192, ec_zn215, ec_zn233, ec_zn699, ec_zn932, ec_zn999, ec_znF, ec_zneg, ec_zadd, ec_zsub, ec_zmul, ec_zdivO, ec_em, ec_zltO, ec_zeqO, ec_zeq0, ec_qt, ec_qf, if_pos, if_neg, Int.add_zero, ec_aft_v, ec_aft_n, ec_rwE, ec_rwN, ec_rwP, ec_rwK, ec_rwS, ec_w_shpI, ec_w_shpL, ec_w_shpA, hD, hA, g0, g1, g2]
      · refine same (.int (ec_i (ed_wby σ κ (k / 4) (k % 4)))) (fun _ q => absurd q hb) ?_
        rw [ec_s141_43]
        simp (disch := first | (simp only [ec_w_kI, ec_w_kL, ec_w_kA, ec_w_shpI, ec_w_shpL, ec_w_shpA, ec_isR_r, ec_01z, ec_01o, ec_01q, hD]; done) | omega | (simp only [ec_w_shpI, ec_w_shpL, ec_w_shpA, hD]; refine ec_zinO ?_; omega) | (refine ec_nzO ?_; omega)) only [ec_s141_0, ec_s141_1, ec_s141_3, ec_s141_5, ec_s141_8, ec_s141_9, ec_s141_12, ec_s141_13, ec_s141_14, ec_s141_15, ec_s141_18, ec_s141_19, ec_s141_22, ec_s141_25, ec_s141_26, ec_s141_29, ec_s141_32, ec_s141_33, ec_s141_35, ec_s141_38, ec_s141_39, ec_s141_40, ec_s141_41, ec_s141_45, ec_s141_48, ec_s141_51, ec_s141_53, ec_s141_54, ec_s141_55, ec_s141_57, ec_s141_59, ec_s141_60, ec_s141_61, ec_s141_63, ec_s141_64, ec_s141_66, ec_s141_69, ec_s141_72, ec_s141_73, ec_s141_75, ec_s141_77, ec_s141_78, ec_s141_81, ec_s141_84, ec_s141_85, ec_s141_87, ec_s141_89, ec_s141_92, ec_s141_93, ec_s141_96, ec_s141_98, ec_s141_100, ec_s141_103, ec_s141_104, ec_s141_106, ec_s141_107, ec_s141_108, ec_s141_111, ec_s141_113, ec_s141_114, ec_s141_117, ec_s141_118, ec_s141_121, ec_s141_123, ec_s141_124, ec_s141_127, ec_s141_129, ec_s141_131, ec_s141_134, ec_s141_135, ec_s141_137, ec_s141_138, ec_s141_139, ec_s141_140, ec_s141_141, ec_s141_144, ec_s141_147, ec_s141_150, ec_zn0, ec_zn1, ec_zn2, ec_zn3, ec_zn4, ec_zn5, ec_zn6, ec_zn7, ec_zn8, ec_zn9, ec_zn10, ec_zn12, ec_zn13, ec_zn14, ec_zn15, ec_zn16, ec_zn20, ec_zn30, ec_zn48, ec_zn99, ec_zn120, ec_zn127, ec_zn11, ec_zn31, ec_zn46, ec_zn57, ec_zn59, ec_zn63, ec_zn101, ec_zn107, ec_zn108, ec_zn110, ec_zn111, ec_zn115, ec_zn116, ec_zn119, ec_zn167, ec_zn185, ec_zn192, ec_zn215, ec_zn233, ec_zn699, ec_zn932, ec_zn999, ec_znF, ec_zneg, ec_zadd, ec_zsub, ec_zmul, ec_zdivO, ec_em, ec_zltO, ec_zeqO, ec_zeq0, ec_qt, ec_qf, if_pos, if_neg, Int.add_zero, ec_aft_v, ec_aft_n, ec_rwE, ec_rwN, ec_rwP, ec_rwK, ec_rwS, ec_w_shpI, ec_w_shpL, ec_w_shpA, hD, hA, g1, g2]
    · refine same (.int (ec_i 0)) (fun q => absurd q.2 h1) ?_
      rw [ec_qf h1] at g1
      rw [ec_s141_43]
      simp (disch := first | (simp only [ec_w_kI, ec_w_kL, ec_w_kA, ec_w_shpI, ec_w_shpL, ec_w_shpA, ec_isR_r, ec_01z, ec_01o, ec_01q, hD]; done) | omega | (simp only [ec_w_shpI, ec_w_shpL, ec_w_shpA, hD]; refine ec_zinO ?_; omega) | (refine ec_nzO ?_; omega)) only [ec_s141_0, ec_s141_1, ec_s141_3, ec_s141_5, ec_s141_8, ec_s141_9, ec_s141_12, ec_s141_13, ec_s141_14, ec_s141_15, ec_s141_18, ec_s141_19, ec_s141_22, ec_s141_25, ec_s141_26, ec_s141_29, ec_s141_32, ec_s141_33, ec_s141_35, ec_s141_38, ec_s141_39, ec_s141_40, ec_s141_41, ec_s141_45, ec_s141_48, ec_s141_51, ec_s141_53, ec_s141_54, ec_s141_55, ec_s141_57, ec_s141_59, ec_s141_60, ec_s141_61, ec_s141_63, ec_s141_64, ec_s141_66, ec_s141_69, ec_s141_72, ec_s141_73, ec_s141_75, ec_s141_77, ec_s141_78, ec_s141_81, ec_s141_84, ec_s141_85, ec_s141_87, ec_s141_89, ec_s141_92, ec_s141_93, ec_s141_96, ec_s141_98, ec_s141_100, ec_s141_103, ec_s141_104, ec_s141_106, ec_s141_107, ec_s141_108, ec_s141_111, ec_s141_113, ec_s141_114, ec_s141_117, ec_s141_118, ec_s141_121, ec_s141_123, ec_s141_124, ec_s141_127, ec_s141_129, ec_s141_131, ec_s141_134, ec_s141_135, ec_s141_137, ec_s141_138, ec_s141_139, ec_s141_140, ec_s141_141, ec_s141_144, ec_s141_147, ec_s141_150, ec_zn0, ec_zn1, ec_zn2, ec_zn3, ec_zn4, ec_zn5, ec_zn6, ec_zn7, ec_zn8, ec_zn9, ec_zn10, ec_zn12, ec_zn13, ec_zn14, ec_zn15, ec_zn16, ec_zn20, ec_zn30, ec_zn48, ec_zn99, ec_zn120, ec_zn127, ec_zn11, ec_zn31, ec_zn46, ec_zn57, ec_zn59, ec_zn63, ec_zn101, ec_zn107, ec_zn108, ec_zn110, ec_zn111, ec_zn115, ec_zn116, ec_zn119, ec_zn167, ec_zn185, ec_zn192, ec_zn215, ec_zn233, ec_zn699, ec_zn932, ec_zn999, ec_znF, ec_zneg, ec_zadd, ec_zsub, ec_zmul, ec_zdivO, ec_em, ec_zltO, ec_zeqO, ec_zeq0, ec_qt, ec_qf, if_pos, if_neg, Int.add_zero, ec_aft_v, ec_aft_n, ec_rwE, ec_rwN, ec_rwP, ec_rwK, ec_rwS, ec_w_shpI, ec_w_shpL, ec_w_shpA, hD, hA, g1]
theorem ec_c141c {σ : ec_Sg} (hW : ec_WF σ) {κ g : Int} (hκ : 0 ≤ κ ∧ κ ≤ 1) (hg : ec_ing σ g) : ∀ (N : Nat) (c : Int → Int) (h : ec_Hp) (w4 w5 w6 w7 : Value), ec_MD h → ec_Ms h σ → ed_Ar h 81 48 c → ed_WI σ κ g c → ed_sm c < N →
    ∃ (h' : ec_Hp), ec_om 141 34 [.ref 72, .int (ec_i g), .int (ec_i κ), .int (ec_i 1), w4, w5, w6, w7] [] h = some (.inl none, h') ∧ ed_Ar h' 81 48 (ed_cap (ed_lb σ κ g)) ∧ ec_fg ed_81 h h' := by
  intro N
  induction N with
  | zero =>
    intro c h w4 w5 w6 w7 hD hs hA hI hN
    have : 0 ≤ ed_sm c := ec_sm_nn 48 (fun k hk => by
      have := (hI (k : Int) (by omega)).1.1
      have b := (ed_lb_bd hW (m := κ) hg.1 (k := ((k : Int)).toNat) (by omega)).1
      unfold ed_cap at this
      split at this <;> omega)
    omega
  | succ N ih =>
    intro c h w4 w5 w6 w7 hD hs hA hI hN
    obtain ⟨h', c', m', w5', w6', w7', e1, e2, e3, e4, e5, e6, e7⟩ := ec_c141b hW hκ hg 192 0 0 c h w5 w6 w7 hD hs hA hI (by omega) (by omega) (by omega)
    by_cases q : m' = 0
    · obtain ⟨-, f2, f3⟩ := e6 q
      subst q
      refine ⟨h', ?_, fun z hz => ?_, e4⟩
      · rw [ec_s141_34]
        simp (disch := first | (simp only [ec_01z, ec_01o, ec_01q]; done) | omega | (refine ec_nzO ?_; omega)) only [ec_s141_0, ec_s141_1, ec_s141_3, ec_s141_5, ec_s141_8, ec_s141_9, ec_s141_12, ec_s141_13, ec_s141_14, ec_s141_15, ec_s141_18, ec_s141_19, ec_s141_22, ec_s141_25, ec_s141_26, ec_s141_29, ec_s141_32, ec_s141_33, ec_s141_35, ec_s141_38, ec_s141_39, ec_s141_40, ec_s141_41, ec_s141_45, ec_s141_48, ec_s141_51, ec_s141_53, ec_s141_54, ec_s141_55, ec_s141_57, ec_s141_59, ec_s141_60, ec_s141_61, ec_s141_63, ec_s141_64, ec_s141_66, ec_s141_69, ec_s141_72, ec_s141_73, ec_s141_75, ec_s141_77, ec_s141_78, ec_s141_81, ec_s141_84, ec_s141_85, ec_s141_87, ec_s141_89, ec_s141_92, ec_s141_93, ec_s141_96, ec_s141_98, ec_s141_100, ec_s141_103, ec_s141_104, ec_s141_106, ec_s141_107, ec_s141_108, ec_s141_111, ec_s141_113, ec_s141_114, ec_s141_117, ec_s141_118, ec_s141_121, ec_s141_123, ec_s141_124, ec_s141_127, ec_s141_129, ec_s141_131, ec_s141_134, ec_s141_135, ec_s141_137, ec_s141_138, ec_s141_139, ec_s141_140, ec_s141_141, ec_s141_144, ec_s141_147, ec_s141_150, ec_zn0, ec_zn1, ec_zn2, ec_zn3, ec_zn4, ec_zn5, ec_zn6, ec_zn7, ec_zn8, ec_zn9, ec_zn10, ec_zn12, ec_zn13, ec_zn14, ec_zn15, ec_zn16, ec_zn20, ec_zn30, ec_zn48, ec_zn99, ec_zn120, ec_zn127, ec_zn11, ec_zn31, ec_zn46, ec_zn57, ec_zn59, ec_zn63, ec_zn101, ec_zn107, ec_zn108, ec_zn110, ec_zn111, ec_zn115, ec_zn116, ec_zn119, ec_zn167, ec_zn185, ec_zn192, ec_zn215, ec_zn233, ec_zn699, ec_zn932, ec_zn999, ec_znF, ec_zneg, ec_zadd, ec_zsub, ec_zmul, ec_zdivO, ec_em, ec_zltO, ec_zeqO, ec_zeq0, ec_qt, ec_qf, if_pos, if_neg, Int.add_zero, ec_aft_v, ec_aft_n, ec_rwE, ec_rwN, ec_rwP, ec_rwK, ec_rwS, ec_w_shpI, ec_w_shpL, ec_w_shpA]
        rw [e1, ec_s141_34]
        simp (disch := first | (simp only [ec_01z, ec_01o, ec_01q]; done) | omega | (refine ec_nzO ?_; omega)) only [ec_s141_0, ec_s141_1, ec_s141_3, ec_s141_5, ec_s141_8, ec_s141_9, ec_s141_12, ec_s141_13, ec_s141_14, ec_s141_15, ec_s141_18, ec_s141_19, ec_s141_22, ec_s141_25, ec_s141_26, ec_s141_29, ec_s141_32, ec_s141_33, ec_s141_35, ec_s141_38, ec_s141_39, ec_s141_40, ec_s141_41, ec_s141_45, ec_s141_48, ec_s141_51, ec_s141_53, ec_s141_54, ec_s141_55, ec_s141_57, ec_s141_59, ec_s141_60, ec_s141_61, ec_s141_63, ec_s141_64, ec_s141_66, ec_s141_69, ec_s141_72, ec_s141_73, ec_s141_75, ec_s141_77, ec_s141_78, ec_s141_81, ec_s141_84, ec_s141_85, ec_s141_87, ec_s141_89, ec_s141_92, ec_s141_93, ec_s141_96, ec_s141_98, ec_s141_100, ec_s141_103, ec_s141_104, ec_s141_106, ec_s141_107, ec_s141_108, ec_s141_111, ec_s141_113, ec_s141_114, ec_s141_117, ec_s141_118, ec_s141_121, ec_s141_123, ec_s141_124, ec_s141_127, ec_s141_129, ec_s141_131, ec_s141_134, ec_s141_135, ec_s141_137, ec_s141_138, ec_s141_139, ec_s141_140, ec_s141_141, ec_s141_144, ec_s141_147, ec_s141_150, ec_zn0, ec_zn1, ec_zn2, ec_zn3, ec_zn4, ec_zn5, ec_zn6, ec_zn7, ec_zn8, ec_zn9, ec_zn10, ec_zn12, ec_zn13, ec_zn14, ec_zn15, ec_zn16, ec_zn20, ec_zn30, ec_zn48, ec_zn99, ec_zn120, ec_zn127, ec_zn11, ec_zn31, ec_zn46, ec_zn57, ec_zn59, ec_zn63, ec_zn101, ec_zn107, ec_zn108, ec_zn110, ec_zn111, ec_zn115, ec_zn116, ec_zn119, ec_zn167, ec_zn185, ec_zn192, ec_zn215, ec_zn233, ec_zn699, ec_zn932, ec_zn999, ec_znF, ec_zneg, ec_zadd, ec_zsub, ec_zmul, ec_zdivO, ec_em, ec_zltO, ec_zeqO, ec_zeq0, ec_qt, ec_qf, if_pos, if_neg, Int.add_zero, ec_aft_v, ec_aft_n, ec_rwE, ec_rwN, ec_rwP, ec_rwK, ec_rwS, ec_w_shpI, ec_w_shpL, ec_w_shpA]
      · rw [e2 z hz, f2]
        congr 1
        refine hI.fin hW hκ hg (fun u d hu hd h1 => ?_) z hz
        have hu1 := hu.1
        have := f3 (4 * u + d) (by omega)
        unfold ed_rlw at this
        rw [show (4 * u + d) / 4 = u by omega, show (4 * u + d) % 4 = d by omega] at this
        exact this hu h1
    · have q1 : m' = 1 := by omega
      subst q1
      have := e7 rfl
      obtain ⟨h2, f1, f2, f3⟩ := ih c' h' (.int (ec_i 192)) w5' w6' w7' (hD.of e4.1.1) (hs.fg e4 (fun _ => (by decide : ¬ (73 : Nat) = 81))) e2 e3 (by omega)
      refine ⟨h2, ?_, f2, e4.trans f3⟩
      rw [ec_s141_34]
      simp (disch := first | (simp only [ec_01z, ec_01o, ec_01q]; done) | omega | (refine ec_nzO ?_; omega)) only [ec_s141_0, ec_s141_1, ec_s141_3, ec_s141_5, ec_s141_8, ec_s141_9, ec_s141_12, ec_s141_13, ec_s141_14, ec_s141_15, ec_s141_18, ec_s141_19, ec_s141_22, ec_s141_25, ec_s141_26, ec_s141_29, ec_s141_32, ec_s141_33, ec_s141_35, ec_s141_38, ec_s141_39, ec_s141_40, ec_s141_41, ec_s141_45, ec_s141_48, ec_s141_51, ec_s141_53, ec_s141_54, ec_s141_55, ec_s141_57, ec_s141_59, ec_s141_60, ec_s141_61, ec_s141_63, ec_s141_64, ec_s141_66, ec_s141_69, ec_s141_72, ec_s141_73, ec_s141_75, ec_s141_77, ec_s141_78, ec_s141_81, ec_s141_84, ec_s141_85, ec_s141_87, ec_s141_89, ec_s141_92, ec_s141_93, ec_s141_96, ec_s141_98, ec_s141_100, ec_s141_103, ec_s141_104, ec_s141_106, ec_s141_107, ec_s141_108, ec_s141_111, ec_s141_113, ec_s141_114, ec_s141_117, ec_s141_118, ec_s141_121, ec_s141_123, ec_s141_124, ec_s141_127, ec_s141_129, ec_s141_131, ec_s141_134, ec_s141_135, ec_s141_137, ec_s141_138, ec_s141_139, ec_s141_140, ec_s141_141, ec_s141_144, ec_s141_147, ec_s141_150, ec_zn0, ec_zn1, ec_zn2, ec_zn3, ec_zn4, ec_zn5, ec_zn6, ec_zn7, ec_zn8, ec_zn9, ec_zn10, ec_zn12, ec_zn13, ec_zn14, ec_zn15, ec_zn16, ec_zn20, ec_zn30, ec_zn48, ec_zn99, ec_zn120, ec_zn127, ec_zn11, ec_zn31, ec_zn46, ec_zn57, ec_zn59, ec_zn63, ec_zn101, ec_zn107, ec_zn108, ec_zn110, ec_zn111, ec_zn115, ec_zn116, ec_zn119, ec_zn167, ec_zn185, ec_zn192, ec_zn215, ec_zn233, ec_zn699, ec_zn932, ec_zn999, ec_znF, ec_zneg, ec_zadd, ec_zsub, ec_zmul, ec_zdivO, ec_em, ec_zltO, ec_zeqO, ec_zeq0, ec_qt, ec_qf, if_pos, if_neg, Int.add_zero, ec_aft_v, ec_aft_n, ec_rwE, ec_rwN, ec_rwP, ec_rwK, ec_rwS, ec_w_shpI, ec_w_shpL, ec_w_shpA]
      rw [e1, f1]
theorem ec_c141 {h : ec_Hp} {σ : ec_Sg} (hD : ec_MD h) (hs : ec_Ms h σ) (hW : ec_WF σ) {κ g : Int} (hκ : 0 ≤ κ ∧ κ ≤ 1) (hg : ec_ing σ g) : ∃ h', ec_om 141 0 [.ref 72, .int (ec_i g), .int (ec_i κ), .double 0, .double 0, .double 0, .double 0, .double 0] [] h = some (.inl none, h') ∧ ed_Ar h' 81 48 (ed_cap (ed_lb σ κ g)) ∧ ec_fg ed_81 h h' := by
  obtain ⟨h1, e1, e2, e3⟩ := ec_c141a (κ := κ) hg.1 48 0 h hD (by omega) (by omega) (fun z hz => absurd hz (by omega))
  have hI : ed_WI σ κ g (fun z => if z = g then 0 else 999) := by
    intro z hz
    have b := ed_lb_bd hW (m := κ) hg.1 (k := z.toNat) (by omega)
    have b0 := ed_lb_0 hW (m := κ) hg.1
    show (ed_cap (ed_lb σ κ g) z ≤ (if z = g then 0 else 999) ∧ (if z = g then 0 else 999) ≤ 999) ∧ ((if z = g then 0 else 999) < 999 → ec_ing σ z) ∧ (z = g → (if z = g then 0 else 999) ≤ 0)
    by_cases e : z = g
    · subst e
      rw [if_pos rfl]
      unfold ed_cap
      rw [if_neg (by omega)]
      exact ⟨by omega, fun _ => hg, fun _ => by omega⟩
    · rw [if_neg e]
      refine ⟨⟨?_, by omega⟩, fun q => absurd q (by omega), fun q => absurd q e⟩
      unfold ed_cap
      split <;> omega
  obtain ⟨h2, f1, f2, f3⟩ := ec_c141c hW hκ hg ((ed_sm (fun z => if z = g then 0 else 999)).toNat + 1) _ h1 (.double 0) (.double 0) (.double 0) (.double 0) (hD.of e3.1.1) (hs.fg e3 (fun _ => (by decide : ¬ (73 : Nat) = 81))) e2 hI (by omega)
  refine ⟨h2, ?_, f2, e3.trans f3⟩
  rw [ec_s141_0, ec_s141_1, ec_zn0, e1, ec_s141_32, ec_s141_33, ec_zn1, f1]
/-- the first border of a way -/
theorem ec_c142L {h : ec_Hp} {σ : ec_Sg} (hD : ec_MD h) (hs : ec_Ms h σ) (hW : ec_WF σ) {κ g z : Int} (hκ : 0 ≤ κ ∧ κ ≤ 1) (hg : ec_ing σ g) (hz : ec_ing σ z) (hA : ed_Ar h 81 48 (ed_cap (ed_lb σ κ g))) (hf : ed_lb σ κ g z.toNat ≠ 1000000) : ∀ (n : Nat) (d : Int) (w4 : Value), 0 ≤ d → d + n = 4 →
    ec_om 142 2 [.ref 72, .int (ec_i z), .int (ec_i κ), .int (ec_i d), w4] [] h = some (.inl (some (.int (ec_i (ec_fd (ed_P σ κ) (ed_lb σ κ g) z (ed_lb σ κ g z.toNat) n d)))), h) := by
  intro n
  induction n with
  | zero =>
    intro d w4 h0 hd
    have hd : d = 4 := by omega
    subst hd
    rw [ec_s142_2]
    simp (disch := first | (simp only [ec_01z, ec_01o, ec_01q]; done) | omega | (refine ec_nzO ?_; omega)) only [ec_s142_0, ec_s142_1, ec_s142_3, ec_s142_4, ec_s142_7, ec_s142_8, ec_s142_9, ec_s142_10, ec_s142_11, ec_s142_14, ec_s142_16, ec_s142_18, ec_s142_21, ec_s142_22, ec_s142_25, ec_s142_26, ec_s142_27, ec_s142_30, ec_s142_31, ec_s142_33, ec_s142_34, ec_s142_35, ec_s142_38, ec_s142_39, ec_s142_40, ec_s142_43, ec_s142_44, ec_s142_45, ec_s142_48, ec_s142_51, ec_s142_52, ec_zn0, ec_zn1, ec_zn2, ec_zn3, ec_zn4, ec_zn5, ec_zn6, ec_zn7, ec_zn8, ec_zn9, ec_zn10, ec_zn12, ec_zn13, ec_zn14, ec_zn15, ec_zn16, ec_zn20, ec_zn30, ec_zn48, ec_zn99, ec_zn120, ec_zn127, ec_zn11, ec_zn31, ec_zn46, ec_zn57, ec_zn59, ec_zn63, ec_zn101, ec_zn107, ec_zn108, ec_zn110, ec_zn111, ec_zn115, ec_zn116, ec_zn119, ec_zn167, ec_zn185, ec_zn192, ec_zn215, ec_zn233, ec_zn699, ec_zn932, ec_zn999, ec_znF, ec_zneg, ec_zadd, ec_zsub, ec_zmul, ec_zdivO, ec_em, ec_zltO, ec_zeqO, ec_zeq0, ec_qt, ec_qf, if_pos, if_neg, Int.add_zero, ec_aft_v, ec_aft_n, ec_rwE, ec_rwN, ec_rwP, ec_rwK, ec_rwS, ec_w_shpI, ec_w_shpL, ec_w_shpA, ec_fd]
  | succ n ih =>
    intro d w4 h0 hd
    have hd4 : 0 ≤ d ∧ d < 4 := by omega
    rw [show ec_fd (ed_P σ κ) (ed_lb σ κ g) z (ed_lb σ κ g z.toNat) (n + 1) d = if ¬ ed_P σ κ z d = 0 ∧ ¬ ec_ct (ed_lb σ κ g) (ec_nb z d) = -1 ∧ ed_P σ κ z d + ec_ct (ed_lb σ κ g) (ec_nb z d) = ed_lb σ κ g z.toNat then d else ec_fd (ed_P σ κ) (ed_lb σ κ g) z (ed_lb σ κ g z.toNat) n (d + 1) from rfl]
    rw [ed_P_wby hκ hz]
    have g2 := ec_c140 hD hs hW hz hd4 hκ
    have g0 := fun h => ec_c126 (h := h) (z := z) hd4
    have e1 := fun w => ih (d + 1) w (by omega) (by omega)
    have r := ed_wby_rg (σ := σ) (k := κ) (z := z) (d := d)
    have bz := ed_lb_bd hW (m := κ) hg.1 (k := z.toNat) (by have := hz.1; omega)
    have az := hA z hz.1
    have ez : ed_cap (ed_lb σ κ g) z = ed_lb σ κ g z.toNat := if_neg hf
    rw [ez] at az
    have zz := hz.1
    unfold ec_MD at hD
    rw [ec_s142_2]
    by_cases hb : 0 < ed_wby σ κ z d
    · have ni := ec_nb_in hW hz hd4 (ed_wby_hb hb)
      have n1 := ni.1
      have bn := ed_lb_bd hW (m := κ) hg.1 (k := (ec_nb z d).toNat) (by omega)
      have an := hA _ n1
      have en : ed_cap (ed_lb σ κ g) (ec_nb z d) = if ed_lb σ κ g (ec_nb z d).toNat = 1000000 then 999 else ed_lb σ κ g (ec_nb z d).toNat := rfl
      have ct : ec_ct (ed_lb σ κ g) (ec_nb z d) = if ed_lb σ κ g (ec_nb z d).toNat = 1000000 then -1 else ed_lb σ κ g (ec_nb z d).toNat := by
        unfold ec_ct
        by_cases q : ed_lb σ κ g (ec_nb z d).toNat = 1000000
        · rw [if_pos q, if_neg (by omega)]
        · rw [if_neg q, if_pos ⟨n1, by omega⟩]
      rw [ct]
      rw [en] at an
      generalize ed_lb σ κ g (ec_nb z d).toNat = y at an bn ct ⊢
      generalize ed_lb σ κ g z.toNat = x at az bz hf e1 ⊢
      generalize ed_wby σ κ z d = s at g2 r hb ⊢
      generalize ec_nb z d = nb at g0 n1 an ⊢
      by_cases q : y = 1000000
      · rw [if_pos q] at an ⊢
        rw [if_neg (by omega)]
        simp (disch := first | (simp only [ec_w_kI, ec_w_kL, ec_w_kA, ec_w_shpI, ec_w_shpL, ec_w_shpA, ec_isR_r, ec_01z, ec_01o, ec_01q, hD]; done) | omega | (simp only [ec_w_shpI, ec_w_shpL, ec_w_shpA, hD]; refine ec_zinO ?_; omega) | (refine ec_nzO ?_; omega)) only [ec_s142_0, ec_s142_1, ec_s142_3, ec_s142_4, ec_s142_7, ec_s142_8, ec_s142_9, ec_s142_10, ec_s142_11, ec_s142_14, ec_s142_16, ec_s142_18, ec_s142_21, ec_s142_22, ec_s142_25, ec_s142_26, ec_s142_27, ec_s142_30, ec_s142_31, ec_s142_33, ec_s142_34, ec_s142_35, ec_s142_38, ec_s142_39, ec_s142_40, ec_s142_43, ec_s142_44, ec_s142_45, ec_s142_48, ec_s142_51, ec_s142_52, ec_zn0, ec_zn1, ec_zn2, ec_zn3, ec_zn4, ec_zn5, ec_zn6, ec_zn7, ec_zn8, ec_zn9, ec_zn10, ec_zn12, ec_zn13, ec_zn14, ec_zn15, ec_zn16, ec_zn20, ec_zn30, ec_zn48, ec_zn99, ec_zn120, ec_zn127, ec_zn11, ec_zn31, ec_zn46, ec_zn57, ec_zn59, ec_zn63, ec_zn101, ec_zn107, ec_zn108, ec_zn110, ec_zn111, ec_zn115, ec_zn116, ec_zn119, ec_zn167, ec_zn185, ec_zn192, ec_zn215, ec_zn233, ec_zn699, ec_zn932, ec_zn999, ec_znF, ec_zneg, ec_zadd, ec_zsub, ec_zmul, ec_zdivO, ec_em, ec_zltO, ec_zeqO, ec_zeq0, ec_qt, ec_qf, if_pos, if_neg, Int.add_zero, ec_aft_v, ec_aft_n, ec_rwE, ec_rwN, ec_rwP, ec_rwK, ec_rwS, ec_w_shpI, ec_w_shpL, ec_w_shpA, hD, g0, g2, az, an, e1]
      · rw [if_neg q] at an ⊢
        by_cases q2 : s + y = x
        · rw [if_pos ⟨by omega, by omega, q2⟩]
          simp (disch := first | (simp only [ec_w_kI, ec_w_kL, ec_w_kA, ec_w_shpI, ec_w_shpL, ec_w_shpA, ec_isR_r, ec_01z, ec_01o, ec_01q, hD]; done) | omega | (simp only [ec_w_shpI, ec_w_shpL, ec_w_shpA, hD]; refine ec_zinO ?_; omega) | (refine ec_nzO ?_; omega)) only [ec_s142_0, ec_s142_1, ec_s142_3, ec_s142_4, ec_s142_7, ec_s142_8, ec_s142_9, ec_s142_10, ec_s142_11, ec_s142_14, ec_s142_16, ec_s142_18, ec_s142_21, ec_s142_22, ec_s142_25, ec_s142_26, ec_s142_27, ec_s142_30, ec_s142_31, ec_s142_33, ec_s142_34, ec_s142_35, ec_s142_38, ec_s142_39, ec_s142_40, ec_s142_43, ec_s142_44, ec_s142_45, ec_s142_48, ec_s142_51, ec_s142_52, ec_zn0, ec_zn1, ec_zn2, ec_zn3, ec_zn4, ec_zn5, ec_zn6, ec_zn7, ec_zn8, ec_zn9, ec_zn10, ec_zn12, ec_zn13, ec_zn14, ec_zn15, ec_zn16, ec_zn20, ec_zn30, ec_zn48, ec_zn99, ec_zn120, ec_zn127, ec_zn11, ec_zn31, ec_zn46, ec_zn57, ec_zn59, ec_zn63, ec_zn101, ec_zn107, ec_zn108, ec_zn110, ec_zn111, ec_zn115, ec_zn116, ec_zn119, ec_zn167, ec_zn185, ec_zn192, ec_zn215, ec_zn233, ec_zn699, ec_zn932, ec_zn999, ec_znF, ec_zneg, ec_zadd, ec_zsub, ec_zmul, ec_zdivO, ec_em, ec_zltO, ec_zeqO, ec_zeq0, ec_qt, ec_qf, if_pos, if_neg, Int.add_zero, ec_aft_v, ec_aft_n, ec_rwE, ec_rwN, ec_rwP, ec_rwK, ec_rwS, ec_w_shpI, ec_w_shpL, ec_w_shpA, hD, g0, g2, az, an, e1]
        · rw [if_neg (fun z => q2 z.2.2)]
          simp (disch := first | (simp only [ec_w_kI, ec_w_kL, ec_w_kA, ec_w_shpI, ec_w_shpL, ec_w_shpA, ec_isR_r, ec_01z, ec_01o, ec_01q, hD]; done) | omega | (simp only [ec_w_shpI, ec_w_shpL, ec_w_shpA, hD]; refine ec_zinO ?_; omega) | (refine ec_nzO ?_; omega)) only [ec_s142_0, ec_s142_1, ec_s142_3, ec_s142_4, ec_s142_7, ec_s142_8, ec_s142_9, ec_s142_10, ec_s142_11, ec_s142_14, ec_s142_16, ec_s142_18, ec_s142_21, ec_s142_22, ec_s142_25, ec_s142_26, ec_s142_27, ec_s142_30, ec_s142_31, ec_s142_33, ec_s142_34, ec_s142_35, ec_s142_38, ec_s142_39, ec_s142_40, ec_s142_43, ec_s142_44, ec_s142_45, ec_s142_48, ec_s142_51, ec_s142_52, ec_zn0, ec_zn1, ec_zn2, ec_zn3, ec_zn4, ec_zn5, ec_zn6, ec_zn7, ec_zn8, ec_zn9, ec_zn10, ec_zn12, ec_zn13, ec_zn14, ec_zn15, ec_zn16, ec_zn20, ec_zn30, ec_zn48, ec_zn99, ec_zn120, ec_zn127, ec_zn11, ec_zn31, ec_zn46, ec_zn57, ec_zn59, ec_zn63, ec_zn101, ec_zn107, ec_zn108, ec_zn110, ec_zn111, ec_zn115, ec_zn116, ec_zn119, ec_zn167, ec_zn185, ec_zn192, ec_zn215, ec_zn233, ec_zn699, ec_zn932, ec_zn999, ec_znF, ec_zneg, ec_zadd, ec_zsub, ec_zmul, ec_zdivO, ec_em, ec_zltO, ec_zeqO, ec_zeq0, ec_qt, ec_qf, if_pos, if_neg, Int.add_zero, ec_aft_v, ec_aft_n, ec_rwE, ec_rwN, ec_rwP, ec_rwK, ec_rwS, ec_w_shpI, ec_w_shpL, ec_w_shpA, hD, g0, g2, az, an, e1]
    · rw [if_neg (by omega)]
      simp (disch := first | (simp only [ec_w_kI, ec_w_kL, ec_w_kA, ec_w_shpI, ec_w_shpL, ec_w_shpA, ec_isR_r, ec_01z, ec_01o, ec_01q, hD]; done) | omega | (simp only [ec_w_shpI, ec_w_shpL, ec_w_shpA, hD]; refine ec_zinO ?_; omega) | (refine ec_nzO ?_; omega)) only [ec_s142_0, ec_s142_1, ec_s142_3, ec_s142_4, ec_s142_7, ec_s142_8, ec_s142_9, ec_s142_10, ec_s142_11, ec_s142_14, ec_s142_16, ec_s142_18, ec_s142_21, ec_s142_22, ec_s142_25, ec_s142_26, ec_s142_27, ec_s142_30, ec_s142_31, ec_s142_33, ec_s142_34, ec_s142_35, ec_s142_38, ec_s142_39, ec_s142_40, ec_s142_43, ec_s142_44, ec_s142_45, ec_s142_48, ec_s142_51, ec_s142_52, ec_zn0, ec_zn1, ec_zn2, ec_zn3, ec_zn4, ec_zn5, ec_zn6, ec_zn7, ec_zn8, ec_zn9, ec_zn10, ec_zn12, ec_zn13, ec_zn14, ec_zn15, ec_zn16, ec_zn20, ec_zn30, ec_zn48, ec_zn99, ec_zn120, ec_zn127, ec_zn11, ec_zn31, ec_zn46, ec_zn57, ec_zn59, ec_zn63, ec_zn101, ec_zn107, ec_zn108, ec_zn110, ec_zn111, ec_zn115, ec_zn116, ec_zn119, ec_zn167, ec_zn185, ec_zn192, ec_zn215, ec_zn233, ec_zn699, ec_zn932, ec_zn999, ec_znF, ec_zneg, ec_zadd, ec_zsub, ec_zmul, ec_zdivO, ec_em, ec_zltO, ec_zeqO, ec_zeq0, ec_qt, ec_qf, if_pos, if_neg, Int.add_zero, ec_aft_v, ec_aft_n, ec_rwE, ec_rwN, ec_rwP, ec_rwK, ec_rwS, ec_w_shpI, ec_w_shpL, ec_w_shpA, hD, g2, e1]
theorem ec_c142 {h : ec_Hp} {σ : ec_Sg} (hD : ec_MD h) (hs : ec_Ms h σ) (hW : ec_WF σ) {κ g z : Int} (hκ : 0 ≤ κ ∧ κ ≤ 1) (hg : ec_ing σ g) (hz : ec_ing σ z) (hA : ed_Ar h 81 48 (ed_cap (ed_lb σ κ g))) (hf : ed_lb σ κ g z.toNat ≠ 1000000) :
    ec_om 142 0 [.ref 72, .int (ec_i z), .int (ec_i κ), .double 0, .double 0] [] h = some (.inl (some (.int (ec_i (ec_fdir (ed_P σ κ) (ed_lb σ κ g) z)))), h) := by
  have bz := ed_lb_bd hW (m := κ) hg.1 (k := z.toNat) (by have := hz.1; omega)
  have ct : ec_ct (ed_lb σ κ g) z = ed_lb σ κ g z.toNat := by
    unfold ec_ct
    rw [if_pos ⟨hz.1, by omega⟩]
  have e := ec_c142L hD hs hW hκ hg hz hA hf 4 0 (.double 0) (by omega) (by omega)
  unfold ec_fdir
  rw [ct, if_neg (by omega), ec_s142_0, ec_s142_1, ec_zn0, e]
