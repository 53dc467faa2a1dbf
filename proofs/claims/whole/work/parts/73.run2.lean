/-! The reference runs a text; types; undoes. -/
noncomputable def ed_rna (a : Int) : Nat → ec_Sg → Int → ec_Sg × Int × Bool
  | 0, σ, n => (σ, n, true)
  | k + 1, σ, n => if ed_rsn σ a = 0 then ed_rna a k (ed_turn σ a) (n + 1) else (σ, n, false)
noncomputable def ed_rnl (L : Int) (T : Int → Int) : Nat → Int → ec_Sg → Int → ec_Sg × Int
  | 0, _, σ, n => (σ, n)
  | f + 1, i, σ, n => if i < L then (if (ed_rna (ed_ac L T (i + ed_nl L T i)) (ed_nt L T i).toNat σ n).2.2 = true then ed_rnl L T f (ed_po L T i) (ed_rna (ed_ac L T (i + ed_nl L T i)) (ed_nt L T i).toNat σ n).1 (ed_rna (ed_ac L T (i + ed_nl L T i)) (ed_nt L T i).toNat σ n).2.1 else ((ed_rna (ed_ac L T (i + ed_nl L T i)) (ed_nt L T i).toNat σ n).1, (ed_rna (ed_ac L T (i + ed_nl L T i)) (ed_nt L T i).toNat σ n).2.1)) else (σ, n)
theorem ed_rna_WF {a : Int} (ha : 0 ≤ a ∧ a < 16) : ∀ (k : Nat) (σ : ec_Sg) (n : Int), ec_WF σ → ec_WF (ed_rna a k σ n).1
  | 0, _, _, w => w
  | k + 1, σ, n, w => by
    rw [show ed_rna a (k + 1) σ n = if ed_rsn σ a = 0 then ed_rna a k (ed_turn σ a) (n + 1) else (σ, n, false) from rfl]
    split
    · rename_i q
      exact ed_rna_WF ha k _ _ (ed_WF_turn w ha q)
    · exact w
theorem ed_po_0 {L : Int} {T : Int → Int} {i : Int} (hi : 0 ≤ i) : 0 ≤ ed_po L T i := by
  have nr := ed_nl_rg (L := L) (T := T) (i := i)
  unfold ed_po ed_sk
  split
  · split
    · split <;> omega
    · split <;> omega
  · unfold ed_nf
    split
    · omega
    · split
      · exact hi
      · rename_i h1 h2 h3
        exact absurd (show ed_nf L T i = -1 by unfold ed_nf; rw [if_neg h2, if_neg h3]) h1
theorem ed_po_le {L : Int} {T : Int → Int} {i : Int} (hi : 0 ≤ i) : ed_po L T i ≤ i + 4 := by
  have nr := ed_nl_rg (L := L) (T := T) (i := i)
  unfold ed_po ed_sk
  split
  · split
    · split <;> omega
    · split <;> omega
  · unfold ed_nf
    split
    · omega
    · split <;> omega
theorem ed_fa_rg {L : Int} {T : Int → Int} (hL : L ≤ 120) : ∀ (n : Nat) (i : Int), 0 ≤ i → -1 ≤ ed_fa L T n i ∧ ed_fa L T n i ≤ 130
  | 0, _, _ => ⟨by show (-1 : Int) ≤ -1; omega, by show (-1 : Int) ≤ 130; omega⟩
  | n + 1, i, hi => by
    rw [show ed_fa L T (n + 1) i = if i < L then (if ed_ok L T i then ed_fa L T n (ed_po L T i) else ed_po L T i) else -1 from rfl]
    have h1 := ed_po_0 (L := L) (T := T) hi
    have h2 := ed_po_le (L := L) (T := T) hi
    split
    · split
      · exact ed_fa_rg hL n _ h1
      · omega
    · omega
theorem ed_fa_ok {L : Int} {T : Int → Int} {n : Nat} {i : Int} (hi : 0 ≤ i) (h : ed_fa L T (n + 1) i = -1) (hl : i < L) : ed_ok L T i ∧ ed_fa L T n (ed_po L T i) = -1 := by
  rw [show ed_fa L T (n + 1) i = if i < L then (if ed_ok L T i then ed_fa L T n (ed_po L T i) else ed_po L T i) else -1 from rfl, if_pos hl] at h
  by_cases q : ed_ok L T i
  · rw [if_pos q] at h
    exact ⟨q, h⟩
  · rw [if_neg q] at h
    have := ed_po_0 (L := L) (T := T) hi
    omega
theorem ed_nt_rg {L : Int} {T : Int → Int} {i : Int} (hi : 0 ≤ i) (h : ed_nf L T i = -1) : 1 ≤ ed_nt L T i ∧ ed_nt L T i ≤ 20 := by
  unfold ed_nf at h
  by_cases c1 : ed_nl L T i = 2 ∧ ed_dgt L T (i + 2)
  · rw [if_pos c1] at h
    omega
  · rw [if_neg c1] at h
    by_cases c2 : ed_nl L T i ≠ 0 ∧ ¬ (1 ≤ ed_nt L T i ∧ ed_nt L T i ≤ 20)
    · rw [if_pos c2] at h
      omega
    · by_cases c3 : ed_nl L T i = 0
      · unfold ed_nt
        rw [if_pos c3]
        omega
      · exact Classical.byContradiction (fun q => c2 ⟨c3, q⟩)
abbrev ed_Rn : Nat → Nat → Prop := fun q j => ed_Gg q j ∨ ed_Rd q j
theorem ed_Rn_f : ∀ q j, ed_Rn q j → ed_Fm q j := fun q j e => by
  rcases e with e | e
  · exact ed_GgF q j e
  · exact ⟨by omega, by omega⟩
theorem ed_Rd72 {j : Nat} (hj : j ≠ 15 ∧ j ≠ 16 ∧ j ≠ 17) : ¬ ed_Rd 72 j := fun y => by omega
theorem ed_RnM {h h' : ec_Hp} {σ τ : ec_Sg} {n : Int} {p : Int → ec_Sg} {L : Int} {T : Int → Int} (M : ed_ML h σ n p L T) (a : ec_fg ed_Rd h h') : ed_ML h' σ n p L T := M.x a (by decide) (by decide) (fun _ y => absurd y.1 (by decide)) (fun _ y => absurd y.1 (by decide)) (fun _ y => absurd y.1 (by decide))
theorem ec_c195k {fl a t : Int} (ha : 0 ≤ a ∧ a < 16) (ht : 1 ≤ t ∧ t ≤ 20) : ∀ (r : Nat) (k n : Int) (σ : ec_Sg) (h : ec_Hp), ec_MD h → ec_Ms h σ → ec_WF σ → h.2.1 72 16 = ec_i t → h.2.1 72 17 = ec_i a → 0 ≤ k → k + r = t →
    ∃ (h' : ec_Hp) (k' : Int), ec_om 195 55 [.ref 72, .int (ec_i fl), .int (ec_i n), .int (ec_i 1), .int (ec_i k)] [] h = ec_om 195 106 [.ref 72, .int (ec_i fl), .int (ec_i (ed_rna a r σ n).2.1), .int (ec_i (if (ed_rna a r σ n).2.2 = true then 1 else 0)), .int (ec_i k')] [] h' ∧ ec_Ms h' (ed_rna a r σ n).1 ∧ ec_fg ed_Gg h h' := by
  intro r
  induction r with
  | zero =>
    intro k n σ h hD hs hW h16 h17 h0 hk
    refine ⟨h, k, ?_, hs, ec_fg.refl⟩
    rw [show (if (ed_rna a 0 σ n).2.2 = true then (1 : Int) else 0) = 1 from rfl, show (ed_rna a 0 σ n).2.1 = n from rfl]
    unfold ec_MD at hD
    rw [ec_s195_55]
    simp (disch := first | (simp only [ec_w_kI, ec_w_kL, ec_w_kA, ec_w_shpI, ec_w_shpL, ec_w_shpA, ec_isR_r, ec_01z, ec_01o, ec_01q, hD]; done) | omega | (simp only [ec_w_shpI, ec_w_shpL, ec_w_shpA, hD]; refine ec_zinO ?_; omega) | (refine ec_nzO ?_; omega)) only [ec_s195_0, ec_s195_1, ec_s195_4, ec_s195_5, ec_s195_6, ec_s195_7, ec_s195_10, ec_s195_11, ec_s195_13, ec_s195_14, ec_s195_15, ec_s195_18, ec_s195_19, ec_s195_20, ec_s195_23, ec_s195_24, ec_s195_25, ec_s195_28, ec_s195_29, ec_s195_30, ec_s195_31, ec_s195_33, ec_s195_36, ec_s195_37, ec_s195_40, ec_s195_41, ec_s195_44, ec_s195_47, ec_s195_48, ec_s195_51, ec_s195_52, ec_s195_53, ec_s195_57, ec_s195_58, ec_s195_61, ec_s195_64, ec_s195_65, ec_s195_68, ec_s195_69, ec_s195_70, ec_s195_73, ec_s195_76, ec_s195_79, ec_s195_80, ec_s195_83, ec_s195_84, ec_s195_85, ec_s195_86, ec_s195_89, ec_s195_90, ec_s195_91, ec_s195_94, ec_s195_97, ec_s195_100, ec_s195_103, ec_s195_109, ec_s195_110, ec_zn0, ec_zn1, ec_zn2, ec_zn3, ec_zn4, ec_zn5, ec_zn6, ec_zn7, ec_zn8, ec_zn9, ec_zn10, ec_zn12, ec_zn13, ec_zn14, ec_zn15, ec_zn16, ec_zn20, ec_zn30, ec_zn48, ec_zn99, ec_zn120, ec_zn127, ec_zn11, ec_zn31, ec_zn46, ec_zn57, ec_zn59, ec_zn63, ec_zn101, ec_zn107, ec_zn108, ec_zn110, ec_zn111, ec_zn115, ec_zn116, ec_zn119, ec_zn167, ec_zn185, ec_zn192, ec_zn215, ec_zn233, ec_zn699, ec_zn932, ec_zn999, ec_znF, ec_zneg, ec_zadd, ec_zsub, ec_zmul, ec_zdivO, ec_em, ec_zltO, ec_zeqO, ec_zeq0, ec_qt, ec_qf, if_pos, if_neg, Int.add_zero, ec_aft_v, ec_aft_n, ec_rwE, ec_rwN, ec_rwP, ec_rwK, ec_rwS, ec_w_shpI, ec_w_shpL, ec_w_shpA, hD, h16]
  | succ r ih =>
    intro k n σ h hD hs hW h16 h17 h0 hk
    rw [show ed_rna a (r + 1) σ n = if ed_rsn σ a = 0 then ed_rna a r (ed_turn σ a) (n + 1) else (σ, n, false) from rfl]
    have g1 := ec_c153 hD hs hW ha
    have rr := ed_rsn_rg (σ := σ) (a := a)
    by_cases q : ed_rsn σ a = 0
    · rw [if_pos q]
      obtain ⟨h1, a1, a2, a3⟩ := ec_c163 hD hs hW ha q
      have hD1 := hD.of a3.1.1
      have t16 : h1.2.1 72 16 = ec_i t := (a3.2 _ _ (ed_Gg72 (by decide))).trans h16
      have t17 : h1.2.1 72 17 = ec_i a := (a3.2 _ _ (ed_Gg72 (by decide))).trans h17
      obtain ⟨h2, k', b1, b2, b3⟩ := ih (k + 1) (n + 1) (ed_turn σ a) h1 hD1 a2 (ed_WF_turn hW ha q) t16 t17 (by omega) (by omega)
      refine ⟨h2, k', ?_, b2, a3.trans b3⟩
      rw [q] at g1
      unfold ec_MD at hD hD1
      have hD := And.intro hD hD1
      rw [ec_s195_55]
      simp (disch := first | (simp only [ec_w_kI, ec_w_kL, ec_w_kA, ec_w_shpI, ec_w_shpL, ec_w_shpA, ec_isR_r, ec_01z, ec_01o, ec_01q, hD]; done) | omega | (simp only [ec_w_shpI, ec_w_shpL, ec_w_shpA, hD]; refine ec_zinO ?_; omega) | (refine ec_nzO ?_; omega)) only [ec_s195_0, ec_s195_1, ec_s195_4, ec_s195_5, ec_s195_6, ec_s195_7, ec_s195_10, ec_s195_11, ec_s195_13, ec_s195_14, ec_s195_15, ec_s195_18, ec_s195_19, ec_s195_20, ec_s195_23, ec_s195_24, ec_s195_25, ec_s195_28, ec_s195_29, ec_s195_30, ec_s195_31, ec_s195_33, ec_s195_36, ec_s195_37, ec_s195_40, ec_s195_41, ec_s195_44, ec_s195_47, ec_s195_48, ec_s195_51, ec_s195_52, ec_s195_53, ec_s195_57, ec_s195_58, ec_s195_61, ec_s195_64, ec_s195_65, ec_s195_68, ec_s195_69, ec_s195_70, ec_s195_73, ec_s195_76, ec_s195_79, ec_s195_80, ec_s195_83, ec_s195_84, ec_s195_85, ec_s195_86, ec_s195_89, ec_s195_90, ec_s195_91, ec_s195_94, ec_s195_97, ec_s195_100, ec_s195_103, ec_s195_109, ec_s195_110, ec_zn0, ec_zn1, ec_zn2, ec_zn3, ec_zn4, ec_zn5, ec_zn6, ec_zn7, ec_zn8, ec_zn9, ec_zn10, ec_zn12, ec_zn13, ec_zn14, ec_zn15, ec_zn16, ec_zn20, ec_zn30, ec_zn48, ec_zn99, ec_zn120, ec_zn127, ec_zn11, ec_zn31, ec_zn46, ec_zn57, ec_zn59, ec_zn63, ec_zn101, ec_zn107, ec_zn108, ec_zn110, ec_zn111, ec_zn115, ec_zn116, ec_zn119, ec_zn167, ec_zn185, ec_zn192, ec_zn215, ec_zn233, ec_zn699, ec_zn932, ec_zn999, ec_znF, ec_zneg, ec_zadd, ec_zsub, ec_zmul, ec_zdivO, ec_em, ec_zltO, ec_zeqO, ec_zeq0, ec_qt, ec_qf, if_pos, if_neg, Int.add_zero, ec_aft_v, ec_aft_n, ec_rwE, ec_rwN, ec_rwP, ec_rwK, ec_rwS, ec_w_shpI, ec_w_shpL, ec_w_shpA, hD, h16, h17, g1, a1, b1]
    · rw [if_neg q]
      refine ⟨h, k + 1, ?_, hs, ec_fg.refl⟩
      rw [show (if (((σ, n, false) : ec_Sg × Int × Bool)).2.2 = true then (1 : Int) else 0) = 0 from rfl, show (((σ, n, false) : ec_Sg × Int × Bool)).2.1 = n from rfl]
      unfold ec_MD at hD
      rw [ec_s195_55]
      simp (disch := first | (simp only [ec_w_kI, ec_w_kL, ec_w_kA, ec_w_shpI, ec_w_shpL, ec_w_shpA, ec_isR_r, ec_01z, ec_01o, ec_01q, hD]; done) | omega | (simp only [ec_w_shpI, ec_w_shpL, ec_w_shpA, hD]; refine ec_zinO ?_; omega) | (refine ec_nzO ?_; omega)) only [ec_s195_0, ec_s195_1, ec_s195_4, ec_s195_5, ec_s195_6, ec_s195_7, ec_s195_10, ec_s195_11, ec_s195_13, ec_s195_14, ec_s195_15, ec_s195_18, ec_s195_19, ec_s195_20, ec_s195_23, ec_s195_24, ec_s195_25, ec_s195_28, ec_s195_29, ec_s195_30, ec_s195_31, ec_s195_33, ec_s195_36, ec_s195_37, ec_s195_40, ec_s195_41, ec_s195_44, ec_s195_47, ec_s195_48, ec_s195_51, ec_s195_52, ec_s195_53, ec_s195_57, ec_s195_58, ec_s195_61, ec_s195_64, ec_s195_65, ec_s195_68, ec_s195_69, ec_s195_70, ec_s195_73, ec_s195_76, ec_s195_79, ec_s195_80, ec_s195_83, ec_s195_84, ec_s195_85, ec_s195_86, ec_s195_89, ec_s195_90, ec_s195_91, ec_s195_94, ec_s195_97, ec_s195_100, ec_s195_103, ec_s195_109, ec_s195_110, ec_zn0, ec_zn1, ec_zn2, ec_zn3, ec_zn4, ec_zn5, ec_zn6, ec_zn7, ec_zn8, ec_zn9, ec_zn10, ec_zn12, ec_zn13, ec_zn14, ec_zn15, ec_zn16, ec_zn20, ec_zn30, ec_zn48, ec_zn99, ec_zn120, ec_zn127, ec_zn11, ec_zn31, ec_zn46, ec_zn57, ec_zn59, ec_zn63, ec_zn101, ec_zn107, ec_zn108, ec_zn110, ec_zn111, ec_zn115, ec_zn116, ec_zn119, ec_zn167, ec_zn185, ec_zn192, ec_zn215, ec_zn233, ec_zn699, ec_zn932, ec_zn999, ec_znF, ec_zneg, ec_zadd, ec_zsub, ec_zmul, ec_zdivO, ec_em, ec_zltO, ec_zeqO, ec_zeq0, ec_qt, ec_qf, if_pos, if_neg, Int.add_zero, ec_aft_v, ec_aft_n, ec_rwE, ec_rwN, ec_rwP, ec_rwK, ec_rwS, ec_w_shpI, ec_w_shpL, ec_w_shpA, hD, h16, h17, g1]
      rw [ec_s195_55]
      by_cases q2 : k + 1 < t
      · simp (disch := first | (simp only [ec_w_kI, ec_w_kL, ec_w_kA, ec_w_shpI, ec_w_shpL, ec_w_shpA, ec_isR_r, ec_01z, ec_01o, ec_01q, hD]; done) | omega | (simp only [ec_w_shpI, ec_w_shpL, ec_w_shpA, hD]; refine ec_zinO ?_; omega) | (refine ec_nzO ?_; omega)) only [ec_s195_0, ec_s195_1, ec_s195_4, ec_s195_5, ec_s195_6, ec_s195_7, ec_s195_10, ec_s195_11, ec_s195_13, ec_s195_14, ec_s195_15, ec_s195_18, ec_s195_19, ec_s195_20, ec_s195_23, ec_s195_24, ec_s195_25, ec_s195_28, ec_s195_29, ec_s195_30, ec_s195_31, ec_s195_33, ec_s195_36, ec_s195_37, ec_s195_40, ec_s195_41, ec_s195_44, ec_s195_47, ec_s195_48, ec_s195_51, ec_s195_52, ec_s195_53, ec_s195_57, ec_s195_58, ec_s195_61, ec_s195_64, ec_s195_65, ec_s195_68, ec_s195_69, ec_s195_70, ec_s195_73, ec_s195_76, ec_s195_79, ec_s195_80, ec_s195_83, ec_s195_84, ec_s195_85, ec_s195_86, ec_s195_89, ec_s195_90, ec_s195_91, ec_s195_94, ec_s195_97, ec_s195_100, ec_s195_103, ec_s195_109, ec_s195_110, ec_zn0, ec_zn1, ec_zn2, ec_zn3, ec_zn4, ec_zn5, ec_zn6, ec_zn7, ec_zn8, ec_zn9, ec_zn10, ec_zn12, ec_zn13, ec_zn14, ec_zn15, ec_zn16, ec_zn20, ec_zn30, ec_zn48, ec_zn99, ec_zn120, ec_zn127, ec_zn11, ec_zn31, ec_zn46, ec_zn57, ec_zn59, ec_zn63, ec_zn101, ec_zn107, ec_zn108, ec_zn110, ec_zn111, ec_zn115, ec_zn116, ec_zn119, ec_zn167, ec_zn185, ec_zn192, ec_zn215, ec_zn233, ec_zn699, ec_zn932, ec_zn999, ec_znF, ec_zneg, ec_zadd, ec_zsub, ec_zmul, ec_zdivO, ec_em, ec_zltO, ec_zeqO, ec_zeq0, ec_qt, ec_qf, if_pos, if_neg, Int.add_zero, ec_aft_v, ec_aft_n, ec_rwE, ec_rwN, ec_rwP, ec_rwK, ec_rwS, ec_w_shpI, ec_w_shpL, ec_w_shpA, hD, h16]
      · simp (disch := first | (simp only [ec_w_kI, ec_w_kL, ec_w_kA, ec_w_shpI, ec_w_shpL, ec_w_shpA, ec_isR_r, ec_01z, ec_01o, ec_01q, hD]; done) | omega | (simp only [ec_w_shpI, ec_w_shpL, ec_w_shpA, hD]; refine ec_zinO ?_; omega) | (refine ec_nzO ?_; omega)) only [ec_s195_0, ec_s195_1, ec_s195_4, ec_s195_5, ec_s195_6, ec_s195_7, ec_s195_10, ec_s195_11, ec_s195_13, ec_s195_14, ec_s195_15, ec_s195_18, ec_s195_19, ec_s195_20, ec_s195_23, ec_s195_24, ec_s195_25, ec_s195_28, ec_s195_29, ec_s195_30, ec_s195_31, ec_s195_33, ec_s195_36, ec_s195_37, ec_s195_40, ec_s195_41, ec_s195_44, ec_s195_47, ec_s195_48, ec_s195_51, ec_s195_52, ec_s195_53, ec_s195_57, ec_s195_58, ec_s195_61, ec_s195_64, ec_s195_65, ec_s195_68, ec_s195_69, ec_s195_70, ec_s195_73, ec_s195_76, ec_s195_79, ec_s195_80, ec_s195_83, ec_s195_84, ec_s195_85, ec_s195_86, ec_s195_89, ec_s195_90, ec_s195_91, ec_s195_94, ec_s195_97, ec_s195_100, ec_s195_103, ec_s195_109, ec_s195_110, ec_zn0, ec_zn1, ec_zn2, ec_zn3, ec_zn4, ec_zn5, ec_zn6, ec_zn7, ec_zn8, ec_zn9, ec_zn10, ec_zn12, ec_zn13, ec_zn14, ec_zn15, ec_zn16, ec_zn20, ec_zn30, ec_zn48, ec_zn99, ec_zn120, ec_zn127, ec_zn11, ec_zn31, ec_zn46, ec_zn57, ec_zn59, ec_zn63, ec_zn101, ec_zn107, ec_zn108, ec_zn110, ec_zn111, ec_zn115, ec_zn116, ec_zn119, ec_zn167, ec_zn185, ec_zn192, ec_zn215, ec_zn233, ec_zn699, ec_zn932, ec_zn999, ec_znF, ec_zneg, ec_zadd, ec_zsub, ec_zmul, ec_zdivO, ec_em, ec_zltO, ec_zeqO, ec_zeq0, ec_qt, ec_qf, if_pos, if_neg, Int.add_zero, ec_aft_v, ec_aft_n, ec_rwE, ec_rwN, ec_rwP, ec_rwK, ec_rwS, ec_w_shpI, ec_w_shpL, ec_w_shpA, hD, h16]
theorem ec_c195L {fl L : Int} {T : Int → Int} : ∀ (f : Nat) (i n : Int) (σ : ec_Sg) (h : ec_Hp) (w4 : Value), ec_MD h → ec_Ms h σ → ec_WF σ → ed_TX h L T → h.2.1 72 15 = ec_i i → 0 ≤ i ∧ i ≤ 200 → L ≤ i + f → ed_fa L T f i = -1 →
    ∃ (h' : ec_Hp), ec_om 195 32 [.ref 72, .int (ec_i fl), .int (ec_i n), .int (ec_i 1), w4] [] h = some (.inl (some (.int (ec_i (ed_rnl L T f i σ n).2))), h') ∧ ec_Ms h' (ed_rnl L T f i σ n).1 ∧ ec_WF (ed_rnl L T f i σ n).1 ∧ ec_fg ed_Rn h h' := by
  intro f
  induction f with
  | zero =>
    intro i n σ h w4 hD hs hW X h15 hi hf hF
    have X1 := X.1
    have X2 := X.2.1
    refine ⟨h, ?_, hs, hW, ec_fg.refl⟩
    unfold ec_MD at hD
    rw [ec_s195_32]
    simp (disch := first | (simp only [ec_w_kI, ec_w_kL, ec_w_kA, ec_w_shpI, ec_w_shpL, ec_w_shpA, ec_isR_r, ec_01z, ec_01o, ec_01q, hD]; done) | omega | (simp only [ec_w_shpI, ec_w_shpL, ec_w_shpA, hD]; refine ec_zinO ?_; omega) | (refine ec_nzO ?_; omega)) only [ec_s195_0, ec_s195_1, ec_s195_4, ec_s195_5, ec_s195_6, ec_s195_7, ec_s195_10, ec_s195_11, ec_s195_13, ec_s195_14, ec_s195_15, ec_s195_18, ec_s195_19, ec_s195_20, ec_s195_23, ec_s195_24, ec_s195_25, ec_s195_28, ec_s195_29, ec_s195_30, ec_s195_31, ec_s195_33, ec_s195_36, ec_s195_37, ec_s195_40, ec_s195_41, ec_s195_44, ec_s195_47, ec_s195_48, ec_s195_51, ec_s195_52, ec_s195_53, ec_s195_57, ec_s195_58, ec_s195_61, ec_s195_64, ec_s195_65, ec_s195_68, ec_s195_69, ec_s195_70, ec_s195_73, ec_s195_76, ec_s195_79, ec_s195_80, ec_s195_83, ec_s195_84, ec_s195_85, ec_s195_86, ec_s195_89, ec_s195_90, ec_s195_91, ec_s195_94, ec_s195_97, ec_s195_100, ec_s195_103, ec_s195_106, ec_s195_109, ec_s195_110, ec_zn0, ec_zn1, ec_zn2, ec_zn3, ec_zn4, ec_zn5, ec_zn6, ec_zn7, ec_zn8, ec_zn9, ec_zn10, ec_zn12, ec_zn13, ec_zn14, ec_zn15, ec_zn16, ec_zn20, ec_zn30, ec_zn48, ec_zn99, ec_zn120, ec_zn127, ec_zn11, ec_zn31, ec_zn46, ec_zn57, ec_zn59, ec_zn63, ec_zn101, ec_zn107, ec_zn108, ec_zn110, ec_zn111, ec_zn115, ec_zn116, ec_zn119, ec_zn167, ec_zn185, ec_zn192, ec_zn215, ec_zn233, ec_zn699, ec_zn932, ec_zn999, ec_znF, ec_zneg, ec_zadd, ec_zsub, ec_zmul, ec_zdivO, ec_em, ec_zltO, ec_zeqO, ec_zeq0, ec_qt, ec_qf, if_pos, if_neg, Int.add_zero, ec_aft_v, ec_aft_n, ec_rwE, ec_rwN, ec_rwP, ec_rwK, ec_rwS, ec_w_shpI, ec_w_shpL, ec_w_shpA, hD, h15, X1]
    rfl
  | succ f ih =>
    intro i n σ h w4 hD hs hW X h15 hi hf hF
    have X1 := X.1
    have X2 := X.2.1
    rw [show ed_rnl L T (f + 1) i σ n = if i < L then (if (ed_rna (ed_ac L T (i + ed_nl L T i)) (ed_nt L T i).toNat σ n).2.2 = true then ed_rnl L T f (ed_po L T i) (ed_rna (ed_ac L T (i + ed_nl L T i)) (ed_nt L T i).toNat σ n).1 (ed_rna (ed_ac L T (i + ed_nl L T i)) (ed_nt L T i).toNat σ n).2.1 else ((ed_rna (ed_ac L T (i + ed_nl L T i)) (ed_nt L T i).toNat σ n).1, (ed_rna (ed_ac L T (i + ed_nl L T i)) (ed_nt L T i).toNat σ n).2.1)) else (σ, n) from rfl]
    by_cases q : i < L
    · rw [if_pos q]
      obtain ⟨ok, hF2⟩ := ed_fa_ok hi.1 hF q
      obtain ⟨h1, a1, a2, a3, a4⟩ := ec_c193 hD X h15 ⟨hi.1, q⟩
      have hD1 := hD.of a2.1.1
      have a4 := a4 ok
      rw [ec_qt ok] at a1
      have ar := ed_ac_rg (L := L) (T := T) (j := i + ed_nl L T i)
      have a0 : 0 ≤ ed_ac L T (i + ed_nl L T i) ∧ ed_ac L T (i + ed_nl L T i) < 16 := by have := ok.2; omega
      have tr := ed_nt_rg hi.1 ok.1
      have gt := ed_po_gt ok
      have up : ed_po L T i ≤ i + 4 := by
        have nr := ed_nl_rg (L := L) (T := T) (i := i)
        unfold ed_po ed_sk
        rw [if_pos ok.1, if_neg ok.2]
        split <;> omega
      generalize ed_ac L T (i + ed_nl L T i) = A at a4 a0 ⊢
      generalize ed_nt L T i = t at a4 tr ⊢
      have s1 := hs.fg a2 (fun _ y => absurd y.1 (by decide))
      obtain ⟨h2, k', b1, b2, b3⟩ := ec_c195k (fl := fl) a0 tr t.toNat 0 n σ h1 hD1 s1 hW a4.1 a4.2 (by omega) (by omega)
      have wf := ed_rna_WF a0 t.toNat σ n hW
      have fr : ec_fg ed_Rn h h2 := (a2.mono (fun q j e => Or.inr e)).trans (b3.mono (fun q j e => Or.inl e))
      have X2' : ed_TX h2 L T := (X.Rd a2).fg b3 (ed_Gg72 (by decide)) (ed_Ggn (by decide) (by decide))
      have t15 : h2.2.1 72 15 = ec_i (ed_po L T i) := (b3.2 _ _ (ed_Gg72 (by decide))).trans a3
      have hD2 := hD1.of b3.1.1
      have start : ec_om 195 32 [.ref 72, .int (ec_i fl), .int (ec_i n), .int (ec_i 1), w4] [] h = ec_om 195 55 [.ref 72, .int (ec_i fl), .int (ec_i n), .int (ec_i 1), .int (ec_i 0)] [] h1 := by
        unfold ec_MD at hD
        rw [ec_s195_32]
        simp (disch := first | (simp only [ec_w_kI, ec_w_kL, ec_w_kA, ec_w_shpI, ec_w_shpL, ec_w_shpA, ec_isR_r, ec_01z, ec_01o, ec_01q, hD]; done) | omega | (simp only [ec_w_shpI, ec_w_shpL, ec_w_shpA, hD]; refine ec_zinO ?_; omega) | (refine ec_nzO ?_; omega)) only [ec_s195_0, ec_s195_1, ec_s195_4, ec_s195_5, ec_s195_6, ec_s195_7, ec_s195_10, ec_s195_11, ec_s195_13, ec_s195_14, ec_s195_15, ec_s195_18, ec_s195_19, ec_s195_20, ec_s195_23, ec_s195_24, ec_s195_25, ec_s195_28, ec_s195_29, ec_s195_30, ec_s195_31, ec_s195_33, ec_s195_36, ec_s195_37, ec_s195_40, ec_s195_41, ec_s195_44, ec_s195_47, ec_s195_48, ec_s195_51, ec_s195_52, ec_s195_53, ec_s195_57, ec_s195_58, ec_s195_61, ec_s195_64, ec_s195_65, ec_s195_68, ec_s195_69, ec_s195_70, ec_s195_73, ec_s195_76, ec_s195_79, ec_s195_80, ec_s195_83, ec_s195_84, ec_s195_85, ec_s195_86, ec_s195_89, ec_s195_90, ec_s195_91, ec_s195_94, ec_s195_97, ec_s195_100, ec_s195_103, ec_s195_106, ec_s195_109, ec_s195_110, ec_zn0, ec_zn1, ec_zn2, ec_zn3, ec_zn4, ec_zn5, ec_zn6, ec_zn7, ec_zn8, ec_zn9, ec_zn10, ec_zn12, ec_zn13, ec_zn14, ec_zn15, ec_zn16, ec_zn20, ec_zn30, ec_zn48, ec_zn99, ec_zn120, ec_zn127, ec_zn11, ec_zn31, ec_zn46, ec_zn57, ec_zn59, ec_zn63, ec_zn101, ec_zn107, ec_zn108, ec_zn110, ec_zn111, ec_zn115, ec_zn116, ec_zn119, ec_zn167, ec_zn185, ec_zn192, ec_zn215, ec_zn233, ec_zn699, ec_zn932, ec_zn999, ec_znF, ec_zneg, ec_zadd, ec_zsub, ec_zmul, ec_zdivO, ec_em, ec_zltO, ec_zeqO, ec_zeq0, ec_qt, ec_qf, if_pos, if_neg, Int.add_zero, ec_aft_v, ec_aft_n, ec_rwE, ec_rwN, ec_rwP, ec_rwK, ec_rwS, ec_w_shpI, ec_w_shpL, ec_w_shpA, hD, h15, X1, a1]
      rw [start, b1]
      generalize ed_rna A t.toNat σ n = R at b2 wf ⊢
      obtain ⟨τ, m, b⟩ := R
      cases b with
      | true =>
        rw [if_pos rfl]
        obtain ⟨h3, c1, c2, c3, c4⟩ := ih (ed_po L T i) m τ h2 (.int (ec_i k')) hD2 b2 wf X2' t15 (by omega) (by omega) hF2
        refine ⟨h3, ?_, c2, c3, fr.trans c4⟩
        rw [ec_s195_106]
        exact c1
      | false =>
        rw [if_neg (show ¬ (((τ, m, false) : ec_Sg × Int × Bool)).2.2 = true from fun y => Bool.noConfusion y)]
        refine ⟨h2, ?_, b2, wf, fr⟩
        rw [ec_s195_106, ec_s195_32]
        show ec_om 195 33 [.ref 72, .int (ec_i fl), .int (ec_i m), .int (ec_i 0), .int (ec_i k')] [.int (ec_i 0)] h2 = _
        simp (disch := first | (simp only [ec_01z, ec_01o, ec_01q]; done) | omega | (refine ec_nzO ?_; omega)) only [ec_s195_0, ec_s195_1, ec_s195_4, ec_s195_5, ec_s195_6, ec_s195_7, ec_s195_10, ec_s195_11, ec_s195_13, ec_s195_14, ec_s195_15, ec_s195_18, ec_s195_19, ec_s195_20, ec_s195_23, ec_s195_24, ec_s195_25, ec_s195_28, ec_s195_29, ec_s195_30, ec_s195_31, ec_s195_33, ec_s195_36, ec_s195_37, ec_s195_40, ec_s195_41, ec_s195_44, ec_s195_47, ec_s195_48, ec_s195_51, ec_s195_52, ec_s195_53, ec_s195_57, ec_s195_58, ec_s195_61, ec_s195_64, ec_s195_65, ec_s195_68, ec_s195_69, ec_s195_70, ec_s195_73, ec_s195_76, ec_s195_79, ec_s195_80, ec_s195_83, ec_s195_84, ec_s195_85, ec_s195_86, ec_s195_89, ec_s195_90, ec_s195_91, ec_s195_94, ec_s195_97, ec_s195_100, ec_s195_103, ec_s195_106, ec_s195_109, ec_s195_110, ec_zn0, ec_zn1, ec_zn2, ec_zn3, ec_zn4, ec_zn5, ec_zn6, ec_zn7, ec_zn8, ec_zn9, ec_zn10, ec_zn12, ec_zn13, ec_zn14, ec_zn15, ec_zn16, ec_zn20, ec_zn30, ec_zn48, ec_zn99, ec_zn120, ec_zn127, ec_zn11, ec_zn31, ec_zn46, ec_zn57, ec_zn59, ec_zn63, ec_zn101, ec_zn107, ec_zn108, ec_zn110, ec_zn111, ec_zn115, ec_zn116, ec_zn119, ec_zn167, ec_zn185, ec_zn192, ec_zn215, ec_zn233, ec_zn699, ec_zn932, ec_zn999, ec_znF, ec_zneg, ec_zadd, ec_zsub, ec_zmul, ec_zdivO, ec_em, ec_zltO, ec_zeqO, ec_zeq0, ec_qt, ec_qf, if_pos, if_neg, Int.add_zero, ec_aft_v, ec_aft_n, ec_rwE, ec_rwN, ec_rwP, ec_rwK, ec_rwS, ec_w_shpI, ec_w_shpL, ec_w_shpA]
        rfl
    · rw [if_neg q]
      refine ⟨h, ?_, hs, hW, ec_fg.refl⟩
      unfold ec_MD at hD
      rw [ec_s195_32]
      simp (disch := first | (simp only [ec_w_kI, ec_w_kL, ec_w_kA, ec_w_shpI, ec_w_shpL, ec_w_shpA, ec_isR_r, ec_01z, ec_01o, ec_01q, hD]; done) | omega | (simp only [ec_w_shpI, ec_w_shpL, ec_w_shpA, hD]; refine ec_zinO ?_; omega) | (refine ec_nzO ?_; omega)) only [ec_s195_0, ec_s195_1, ec_s195_4, ec_s195_5, ec_s195_6, ec_s195_7, ec_s195_10, ec_s195_11, ec_s195_13, ec_s195_14, ec_s195_15, ec_s195_18, ec_s195_19, ec_s195_20, ec_s195_23, ec_s195_24, ec_s195_25, ec_s195_28, ec_s195_29, ec_s195_30, ec_s195_31, ec_s195_33, ec_s195_36, ec_s195_37, ec_s195_40, ec_s195_41, ec_s195_44, ec_s195_47, ec_s195_48, ec_s195_51, ec_s195_52, ec_s195_53, ec_s195_57, ec_s195_58, ec_s195_61, ec_s195_64, ec_s195_65, ec_s195_68, ec_s195_69, ec_s195_70, ec_s195_73, ec_s195_76, ec_s195_79, ec_s195_80, ec_s195_83, ec_s195_84, ec_s195_85, ec_s195_86, ec_s195_89, ec_s195_90, ec_s195_91, ec_s195_94, ec_s195_97, ec_s195_100, ec_s195_103, ec_s195_106, ec_s195_109, ec_s195_110, ec_zn0, ec_zn1, ec_zn2, ec_zn3, ec_zn4, ec_zn5, ec_zn6, ec_zn7, ec_zn8, ec_zn9, ec_zn10, ec_zn12, ec_zn13, ec_zn14, ec_zn15, ec_zn16, ec_zn20, ec_zn30, ec_zn48, ec_zn99, ec_zn120, ec_zn127, ec_zn11, ec_zn31, ec_zn46, ec_zn57, ec_zn59, ec_zn63, ec_zn101, ec_zn107, ec_zn108, ec_zn110, ec_zn111, ec_zn115, ec_zn116, ec_zn119, ec_zn167, ec_zn185, ec_zn192, ec_zn215, ec_zn233, ec_zn699, ec_zn932, ec_zn999, ec_znF, ec_zneg, ec_zadd, ec_zsub, ec_zmul, ec_zdivO, ec_em, ec_zltO, ec_zeqO, ec_zeq0, ec_qt, ec_qf, if_pos, if_neg, Int.add_zero, ec_aft_v, ec_aft_n, ec_rwE, ec_rwN, ec_rwP, ec_rwK, ec_rwS, ec_w_shpI, ec_w_shpL, ec_w_shpA, hD, h15, X1]
section EDF
variable {h : ec_Hp} {σ : ec_Sg} {n : Int} {p : Int → ec_Sg} {L : Int} {T : Int → Int}
theorem ec_c195x (M : ed_ML h σ n p L T) (q : ed_flt L T ≠ -1) : ed_An 195 [.ref 72, .double 0, .double 0, .double 0, .double 0] h 0 (-10 - ed_flt L T) σ n p L T := by
  obtain ⟨h1, a1, a2⟩ := ec_c194 M.1 M.2.2.2.2
  have M1 := ed_RnM (τ := σ) M a2
  have g4 := fun c => ed_te M1.1 (x := c)
  refine ed_An.t M1 (a2.mono (fun q j e => ⟨by omega, by omega⟩)) ?_
  have fr : -1 ≤ ed_flt L T ∧ ed_flt L T ≤ 130 := ed_fa_rg (by have := M.2.2.2.2.2.1; omega) 120 0 (by omega)
  have hD := M.1
  have hD1 := M1.1
  unfold ec_MD at hD hD1
  have hD := And.intro hD hD1
  simp (disch := first | (simp only [ec_w_kI, ec_w_kL, ec_w_kA, ec_w_shpI, ec_w_shpL, ec_w_shpA, ec_isR_r, ec_01z, ec_01o, ec_01q, hD]; done) | omega | (simp only [ec_w_shpI, ec_w_shpL, ec_w_shpA, hD]; refine ec_zinO ?_; omega) | (refine ec_nzO ?_; omega)) only [ec_s195_0, ec_s195_1, ec_s195_4, ec_s195_5, ec_s195_6, ec_s195_7, ec_s195_10, ec_s195_11, ec_s195_13, ec_s195_14, ec_s195_15, ec_s195_18, ec_s195_19, ec_s195_20, ec_s195_23, ec_s195_24, ec_s195_25, ec_s195_28, ec_s195_29, ec_s195_30, ec_s195_31, ec_s195_33, ec_s195_36, ec_s195_37, ec_s195_40, ec_s195_41, ec_s195_44, ec_s195_47, ec_s195_48, ec_s195_51, ec_s195_52, ec_s195_53, ec_s195_57, ec_s195_58, ec_s195_61, ec_s195_64, ec_s195_65, ec_s195_68, ec_s195_69, ec_s195_70, ec_s195_73, ec_s195_76, ec_s195_79, ec_s195_80, ec_s195_83, ec_s195_84, ec_s195_85, ec_s195_86, ec_s195_89, ec_s195_90, ec_s195_91, ec_s195_94, ec_s195_97, ec_s195_100, ec_s195_103, ec_s195_106, ec_s195_109, ec_s195_110, ec_zn0, ec_zn1, ec_zn2, ec_zn3, ec_zn4, ec_zn5, ec_zn6, ec_zn7, ec_zn8, ec_zn9, ec_zn10, ec_zn12, ec_zn13, ec_zn14, ec_zn15, ec_zn16, ec_zn20, ec_zn30, ec_zn48, ec_zn99, ec_zn120, ec_zn127, ec_zn11, ec_zn31, ec_zn46, ec_zn57, ec_zn59, ec_zn63, ec_zn101, ec_zn107, ec_zn108, ec_zn110, ec_zn111, ec_zn115, ec_zn116, ec_zn119, ec_zn167, ec_zn185, ec_zn192, ec_zn215, ec_zn233, ec_zn699, ec_zn932, ec_zn999, ec_znF, ec_zneg, ec_zadd, ec_zsub, ec_zmul, ec_zdivO, ec_em, ec_zltO, ec_zeqO, ec_zeq0, ec_qt, ec_qf, if_pos, if_neg, Int.add_zero, ec_aft_v, ec_aft_n, ec_rwE, ec_rwN, ec_rwP, ec_rwK, ec_rwS, ec_w_shpI, ec_w_shpL, ec_w_shpA, hD, a1, g4]
theorem ec_c195 (M : ed_ML h σ n p L T) (q : ed_flt L T = -1) : ed_An 195 [.ref 72, .double 0, .double 0, .double 0, .double 0] h 0 (ed_rnl L T 120 0 σ 0).2 (ed_rnl L T 120 0 σ 0).1 (ed_pn n) (ed_pp n p σ) L T := by
  obtain ⟨h1, a1, a2⟩ := ec_c194 M.1 M.2.2.2.2
  have M1 := ed_RnM (τ := σ) M a2
  obtain ⟨h2, b1, b2, b3, b4⟩ := ed_saved M1
  have F : ec_fg ed_Rd h2 (ec_setI h2 72 15 (ec_i 0)) := ec_fg.refl.I ⟨rfl, Or.inl rfl⟩
  have M3 := ed_RnM (τ := σ) b2 F
  obtain ⟨h4, c1, c2, c3, c4⟩ := ec_c195L (fl := -1) (L := L) (T := T) 120 0 0 σ (ec_setI h2 72 15 (ec_i 0)) (.double 0) M3.1 M3.2.1 M3.2.2.1 M3.2.2.2.2 (by rw [ec_rwS]) (by omega) (by have := M.2.2.2.2.2.1; omega) q
  have c5 : ec_fg ed_Rn h2 h4 := (F.mono (fun q j e => Or.inr e)).trans c4
  have M4 : ed_ML h4 (ed_rnl L T 120 0 σ 0).1 (ed_pn n) (ed_pp n p σ) L T := ⟨M3.1.of c4.1.1, c2, c3, M3.2.2.2.1.fg c4 (fun y => Or.elim y (ed_Gg72 (by decide)) (ed_Rd72 (by decide))) (fun j y => Or.elim y (ed_Ggn (by decide) (by decide) j) (fun y => absurd y.1 (by decide))), M3.2.2.2.2.fg c4 (fun y => Or.elim y (ed_Gg72 (by decide)) (ed_Rd72 (by decide))) (fun j y => Or.elim y (ed_Ggn (by decide) (by decide) j) (fun y => absurd y.1 (by decide)))⟩
  refine ⟨h4, ?_, (c5.2 72 7 (fun y => Or.elim y (ed_Gg72 (by decide)) (ed_Rd72 (by decide)))).trans b3, M4, ((a2.mono (fun q j e => ⟨by omega, by omega⟩)).trans b4).trans (c5.mono ed_Rn_f)⟩
  have hD := M.1
  have hD1 := M1.1
  have hD2 := b2.1
  unfold ec_MD at hD hD1 hD2
  have hD := And.intro hD (And.intro hD1 hD2)
  rw [q] at a1
  simp (disch := first | (simp only [ec_w_kI, ec_w_kL, ec_w_kA, ec_w_shpI, ec_w_shpL, ec_w_shpA, ec_isR_r, ec_01z, ec_01o, ec_01q, hD]; done) | omega | (simp only [ec_w_shpI, ec_w_shpL, ec_w_shpA, hD]; refine ec_zinO ?_; omega) | (refine ec_nzO ?_; omega)) only [ec_s195_0, ec_s195_1, ec_s195_4, ec_s195_5, ec_s195_6, ec_s195_7, ec_s195_10, ec_s195_11, ec_s195_13, ec_s195_14, ec_s195_15, ec_s195_18, ec_s195_19, ec_s195_20, ec_s195_23, ec_s195_24, ec_s195_25, ec_s195_28, ec_s195_29, ec_s195_30, ec_s195_31, ec_s195_33, ec_s195_36, ec_s195_37, ec_s195_40, ec_s195_41, ec_s195_44, ec_s195_47, ec_s195_48, ec_s195_51, ec_s195_52, ec_s195_53, ec_s195_57, ec_s195_58, ec_s195_61, ec_s195_64, ec_s195_65, ec_s195_68, ec_s195_69, ec_s195_70, ec_s195_73, ec_s195_76, ec_s195_79, ec_s195_80, ec_s195_83, ec_s195_84, ec_s195_85, ec_s195_86, ec_s195_89, ec_s195_90, ec_s195_91, ec_s195_94, ec_s195_97, ec_s195_100, ec_s195_103, ec_s195_106, ec_s195_109, ec_s195_110, ec_zn0, ec_zn1, ec_zn2, ec_zn3, ec_zn4, ec_zn5, ec_zn6, ec_zn7, ec_zn8, ec_zn9, ec_zn10, ec_zn12, ec_zn13, ec_zn14, ec_zn15, ec_zn16, ec_zn20, ec_zn30, ec_zn48, ec_zn99, ec_zn120, ec_zn127, ec_zn11, ec_zn31, ec_zn46, ec_zn57, ec_zn59, ec_zn63, ec_zn101, ec_zn107, ec_zn108, ec_zn110, ec_zn111, ec_zn115, ec_zn116, ec_zn119, ec_zn167, ec_zn185, ec_zn192, ec_zn215, ec_zn233, ec_zn699, ec_zn932, ec_zn999, ec_znF, ec_zneg, ec_zadd, ec_zsub, ec_zmul, ec_zdivO, ec_em, ec_zltO, ec_zeqO, ec_zeq0, ec_qt, ec_qf, if_pos, if_neg, Int.add_zero, ec_aft_v, ec_aft_n, ec_rwE, ec_rwN, ec_rwP, ec_rwK, ec_rwS, ec_w_shpI, ec_w_shpL, ec_w_shpA, hD, a1, b1, c1]
/-! typing, undoing -/
def ed_kTy (L v : Int) : Int := if 0 ≤ v ∧ v ≤ 127 then (if L = 120 then 2 else 0) else 1
theorem ec_c187 (M : ed_ML h σ n p L T) {v : Int} (rv : ec_rg v) :
    (ed_kTy L v = 0 → ed_An 187 [.ref 72, .int (ec_i v)] h 0 (L + 1) σ n p (L + 1) (ec_su T L v)) ∧
    (ed_kTy L v ≠ 0 → ed_An 187 [.ref 72, .int (ec_i v)] h (ed_kTy L v) 0 σ n p L T) := by
  have g3 := fun c => ed_er M.1 (x := c)
  have g5 := fun h => ec_c118 (h := h) rv ec_rn0 ec_rn127
  have X := M.2.2.2.2
  have X1 := X.1
  have X2 := X.2.1
  have hD := M.1
  unfold ed_kTy
  by_cases q1 : 0 ≤ v ∧ v ≤ 127
  · rw [if_pos q1]
    by_cases q2 : L = 120
    · rw [if_pos q2]
      refine ⟨fun e => absurd e (by decide), fun _ => ed_An.er M ?_⟩
      unfold ec_MD at hD
      simp (disch := first | (simp only [ec_w_kI, ec_w_kL, ec_w_kA, ec_w_shpI, ec_w_shpL, ec_w_shpA, ec_isR_r, ec_01z, ec_01o, ec_01q, hD]; done) | omega | (simp only [ec_w_shpI, ec_w_shpL, ec_w_shpA, hD]; refine ec_zinO ?_; omega) | (refine ec_nzO ?_; omega)) only [ec_s187_0, ec_s187_1, ec_s187_2, ec_s187_4, ec_s187_7, ec_s187_10, ec_s187_11, ec_s187_12, ec_s187_15, ec_s187_16, ec_s187_17, ec_s187_20, ec_s187_22, ec_s187_25, ec_s187_26, ec_s187_27, ec_s187_30, ec_s187_31, ec_s187_32, ec_s187_35, ec_s187_36, ec_s187_39, ec_s187_40, ec_s187_41, ec_s187_42, ec_s187_43, ec_s187_46, ec_s187_47, ec_s187_48, ec_s187_51, ec_s187_52, ec_s187_53, ec_s187_56, ec_s187_59, ec_zn0, ec_zn1, ec_zn2, ec_zn3, ec_zn4, ec_zn5, ec_zn6, ec_zn7, ec_zn8, ec_zn9, ec_zn10, ec_zn12, ec_zn13, ec_zn14, ec_zn15, ec_zn16, ec_zn20, ec_zn30, ec_zn48, ec_zn99, ec_zn120, ec_zn127, ec_zn11, ec_zn31, ec_zn46, ec_zn57, ec_zn59, ec_zn63, ec_zn101, ec_zn107, ec_zn108, ec_zn110, ec_zn111, ec_zn115, ec_zn116, ec_zn119, ec_zn167, ec_zn185, ec_zn192, ec_zn215, ec_zn233, ec_zn699, ec_zn932, ec_zn999, ec_znF, ec_zneg, ec_zadd, ec_zsub, ec_zmul, ec_zdivO, ec_em, ec_zltO, ec_zeqO, ec_zeq0, ec_qt, ec_qf, if_pos, if_neg, Int.add_zero, ec_aft_v, ec_aft_n, ec_rwE, ec_rwN, ec_rwP, ec_rwK, ec_rwS, ec_w_shpI, ec_w_shpL, ec_w_shpA, hD, g3, g5, X1]
    · rw [if_neg q2]
      refine ⟨fun _ => ?_, fun e => absurd rfl e⟩
      have F : ec_fg (fun q j => q = 77 ∨ (q = 72 ∧ j = 6)) h (ec_setI (ec_setI h 77 (ec_i L).toNatClampNeg (ec_i v)) 72 6 (ec_i (L + 1))) := (ec_fg.refl.I (Or.inl rfl)).I (Or.inr ⟨rfl, rfl⟩)
      have M1 : ed_ML (ec_setI (ec_setI h 77 (ec_i L).toNatClampNeg (ec_i v)) 72 6 (ec_i (L + 1))) σ n p (L + 1) (ec_su T L v) := by
        refine ⟨hD.of rfl, M.2.1.fg F (fun j y => by omega), M.2.2.1, M.2.2.2.1.fg F (fun y => by omega) (fun j y => by omega), ?_, by omega, fun i hi => ?_⟩
        · rw [ec_rwS]
        · by_cases e : L = i
          · rw [ec_rwP (by decide), ec_rwE e, ec_suE e.symm]
            exact ⟨rfl, q1⟩
          · rw [ec_rwP (by decide), ec_rwN ⟨by omega, by omega, e⟩, ec_suN (fun y => e y.symm)]
            exact X.2.2 i (by omega)
      have g4 := fun c => ed_te M1.1 (x := c)
      refine ed_An.t M1 (F.mono (fun q j e => by rcases e with e | e <;> exact ⟨by omega, by omega⟩)) ?_
      unfold ec_MD at hD
      simp (disch := first | (simp only [ec_w_kI, ec_w_kL, ec_w_kA, ec_w_shpI, ec_w_shpL, ec_w_shpA, ec_isR_r, ec_01z, ec_01o, ec_01q, hD]; done) | omega | (simp only [ec_w_shpI, ec_w_shpL, ec_w_shpA, hD]; refine ec_zinO ?_; omega) | (refine ec_nzO ?_; omega)) only [ec_s187_0, ec_s187_1, ec_s187_2, ec_s187_4, ec_s187_7, ec_s187_10, ec_s187_11, ec_s187_12, ec_s187_15, ec_s187_16, ec_s187_17, ec_s187_20, ec_s187_22, ec_s187_25, ec_s187_26, ec_s187_27, ec_s187_30, ec_s187_31, ec_s187_32, ec_s187_35, ec_s187_36, ec_s187_39, ec_s187_40, ec_s187_41, ec_s187_42, ec_s187_43, ec_s187_46, ec_s187_47, ec_s187_48, ec_s187_51, ec_s187_52, ec_s187_53, ec_s187_56, ec_s187_59, ec_zn0, ec_zn1, ec_zn2, ec_zn3, ec_zn4, ec_zn5, ec_zn6, ec_zn7, ec_zn8, ec_zn9, ec_zn10, ec_zn12, ec_zn13, ec_zn14, ec_zn15, ec_zn16, ec_zn20, ec_zn30, ec_zn48, ec_zn99, ec_zn120, ec_zn127, ec_zn11, ec_zn31, ec_zn46, ec_zn57, ec_zn59, ec_zn63, ec_zn101, ec_zn107, ec_zn108, ec_zn110, ec_zn111, ec_zn115, ec_zn116, ec_zn119, ec_zn167, ec_zn185, ec_zn192, ec_zn215, ec_zn233, ec_zn699, ec_zn932, ec_zn999, ec_znF, ec_zneg, ec_zadd, ec_zsub, ec_zmul, ec_zdivO, ec_em, ec_zltO, ec_zeqO, ec_zeq0, ec_qt, ec_qf, if_pos, if_neg, Int.add_zero, ec_aft_v, ec_aft_n, ec_rwE, ec_rwN, ec_rwP, ec_rwK, ec_rwS, ec_w_shpI, ec_w_shpL, ec_w_shpA, hD, g4, g5, X1]
  · rw [if_neg q1]
    refine ⟨fun e => absurd e (by decide), fun _ => ed_An.er M ?_⟩
    unfold ec_MD at hD
    simp (disch := first | (simp only [ec_w_kI, ec_w_kL, ec_w_kA, ec_w_shpI, ec_w_shpL, ec_w_shpA, ec_isR_r, ec_01z, ec_01o, ec_01q, hD]; done) | omega | (simp only [ec_w_shpI, ec_w_shpL, ec_w_shpA, hD]; refine ec_zinO ?_; omega) | (refine ec_nzO ?_; omega)) only [ec_s187_0, ec_s187_1, ec_s187_2, ec_s187_4, ec_s187_7, ec_s187_10, ec_s187_11, ec_s187_12, ec_s187_15, ec_s187_16, ec_s187_17, ec_s187_20, ec_s187_22, ec_s187_25, ec_s187_26, ec_s187_27, ec_s187_30, ec_s187_31, ec_s187_32, ec_s187_35, ec_s187_36, ec_s187_39, ec_s187_40, ec_s187_41, ec_s187_42, ec_s187_43, ec_s187_46, ec_s187_47, ec_s187_48, ec_s187_51, ec_s187_52, ec_s187_53, ec_s187_56, ec_s187_59, ec_zn0, ec_zn1, ec_zn2, ec_zn3, ec_zn4, ec_zn5, ec_zn6, ec_zn7, ec_zn8, ec_zn9, ec_zn10, ec_zn12, ec_zn13, ec_zn14, ec_zn15, ec_zn16, ec_zn20, ec_zn30, ec_zn48, ec_zn99, ec_zn120, ec_zn127, ec_zn11, ec_zn31, ec_zn46, ec_zn57, ec_zn59, ec_zn63, ec_zn101, ec_zn107, ec_zn108, ec_zn110, ec_zn111, ec_zn115, ec_zn116, ec_zn119, ec_zn167, ec_zn185, ec_zn192, ec_zn215, ec_zn233, ec_zn699, ec_zn932, ec_zn999, ec_znF, ec_zneg, ec_zadd, ec_zsub, ec_zmul, ec_zdivO, ec_em, ec_zltO, ec_zeqO, ec_zeq0, ec_qt, ec_qf, if_pos, if_neg, Int.add_zero, ec_aft_v, ec_aft_n, ec_rwE, ec_rwN, ec_rwP, ec_rwK, ec_rwS, ec_w_shpI, ec_w_shpL, ec_w_shpA, hD, g3, g5]
theorem ec_c188 (M : ed_ML h σ n p L T) : ed_An 188 [.ref 72, .double 0] h 0 L σ n p 0 T := by
  have X := M.2.2.2.2
  have X1 := X.1
  have F : ec_fg (fun q j => q = 72 ∧ j = 6) h (ec_setI h 72 6 (ec_i 0)) := ec_fg.refl.I ⟨rfl, rfl⟩
  have M1 : ed_ML (ec_setI h 72 6 (ec_i 0)) σ n p 0 T := ⟨M.1.of rfl, M.2.1.fg F (fun j y => by omega), M.2.2.1, M.2.2.2.1.fg F (fun y => by omega) (fun j y => by omega), by rw [ec_rwS], by omega, fun i hi => absurd hi (by omega)⟩
  have g4 := fun c => ed_te M1.1 (x := c)
  refine ed_An.t M1 (F.mono (fun q j e => ⟨by omega, by omega⟩)) ?_
  have hD := M.1
  unfold ec_MD at hD
  simp (disch := first | (simp only [ec_w_kI, ec_w_kL, ec_w_kA, ec_w_shpI, ec_w_shpL, ec_w_shpA, ec_isR_r, ec_01z, ec_01o, ec_01q, hD]; done) | omega | (simp only [ec_w_shpI, ec_w_shpL, ec_w_shpA, hD]; refine ec_zinO ?_; omega) | (refine ec_nzO ?_; omega)) only [ec_s188_0, ec_s188_1, ec_s188_4, ec_s188_5, ec_s188_6, ec_s188_7, ec_s188_10, ec_s188_11, ec_s188_12, ec_s188_15, ec_zn0, ec_zn1, ec_zn2, ec_zn3, ec_zn4, ec_zn5, ec_zn6, ec_zn7, ec_zn8, ec_zn9, ec_zn10, ec_zn12, ec_zn13, ec_zn14, ec_zn15, ec_zn16, ec_zn20, ec_zn30, ec_zn48, ec_zn99, ec_zn120, ec_zn127, ec_zn11, ec_zn31, ec_zn46, ec_zn57, ec_zn59, ec_zn63, ec_zn101, ec_zn107, ec_zn108, ec_zn110, ec_zn111, ec_zn115, ec_zn116, ec_zn119, ec_zn167, ec_zn185, ec_zn192, ec_zn215, ec_zn233, ec_zn699, ec_zn932, ec_zn999, ec_znF, ec_zneg, ec_zadd, ec_zsub, ec_zmul, ec_zdivO, ec_em, ec_zltO, ec_zeqO, ec_zeq0, ec_qt, ec_qf, if_pos, if_neg, Int.add_zero, ec_aft_v, ec_aft_n, ec_rwE, ec_rwN, ec_rwP, ec_rwK, ec_rwS, ec_w_shpI, ec_w_shpL, ec_w_shpA, hD, g4, X1]
theorem ec_c196L {m : Int} (hm : 0 ≤ m ∧ m ≤ 3) {τ : ec_Sg} : ∀ (r : Nat) (k : Int) (h : ec_Hp), ec_MD h → h.2.1 72 4 = ec_i m → (∀ z : Int, 0 ≤ z ∧ z < 233 → h.2.1 74 (ec_i (233 * m + z)).toNatClampNeg = ec_i (τ z)) → 0 ≤ k → k + r = 233 → (∀ z : Int, 0 ≤ z ∧ z < k → h.2.1 73 (ec_i z).toNatClampNeg = ec_i (τ z)) →
    ∃ h', ec_om 196 25 [.ref 72, .int (ec_i k)] [] h = ec_om 196 59 [.ref 72, .int (ec_i 233)] [] h' ∧ ec_Ms h' τ ∧ ec_fg ed_73 h h' := by
  intro r
  induction r with
  | zero =>
    intro k h hD h4 hA h0 hk hL
    have hk : k = 233 := by omega
    subst hk
    refine ⟨h, ?_, fun z hz => hL z (by omega), ec_fg.refl⟩
    rw [ec_s196_25]
    simp (disch := first | (simp only [ec_01z, ec_01o, ec_01q]; done) | omega | (refine ec_nzO ?_; omega)) only [ec_s196_0, ec_s196_1, ec_s196_4, ec_s196_7, ec_s196_8, ec_s196_9, ec_s196_12, ec_s196_13, ec_s196_14, ec_s196_15, ec_s196_18, ec_s196_19, ec_s196_20, ec_s196_23, ec_s196_24, ec_s196_26, ec_s196_29, ec_s196_32, ec_s196_33, ec_s196_36, ec_s196_37, ec_s196_38, ec_s196_41, ec_s196_44, ec_s196_45, ec_s196_48, ec_s196_49, ec_s196_50, ec_s196_51, ec_s196_52, ec_s196_53, ec_s196_56, ec_s196_60, ec_s196_61, ec_s196_64, ec_s196_67, ec_zn0, ec_zn1, ec_zn2, ec_zn3, ec_zn4, ec_zn5, ec_zn6, ec_zn7, ec_zn8, ec_zn9, ec_zn10, ec_zn12, ec_zn13, ec_zn14, ec_zn15, ec_zn16, ec_zn20, ec_zn30, ec_zn48, ec_zn99, ec_zn120, ec_zn127, ec_zn11, ec_zn31, ec_zn46, ec_zn57, ec_zn59, ec_zn63, ec_zn101, ec_zn107, ec_zn108, ec_zn110, ec_zn111, ec_zn115, ec_zn116, ec_zn119, ec_zn167, ec_zn185, ec_zn192, ec_zn215, ec_zn233, ec_zn699, ec_zn932, ec_zn999, ec_znF, ec_zneg, ec_zadd, ec_zsub, ec_zmul, ec_zdivO, ec_em, ec_zltO, ec_zeqO, ec_zeq0, ec_qt, ec_qf, if_pos, if_neg, Int.add_zero, ec_aft_v, ec_aft_n, ec_rwE, ec_rwN, ec_rwP, ec_rwK, ec_rwS, ec_w_shpI, ec_w_shpL, ec_w_shpA]
  | succ r ih =>
    intro k h hD h4 hA h0 hk hL
    obtain ⟨h', e1, e2, e3⟩ := ih (k + 1) (ec_setI h 73 (ec_i k).toNatClampNeg (ec_i (τ k))) (hD.of rfl) (by rw [ec_rwP (by decide)]; exact h4) (fun z hz => by rw [ec_rwP (by decide)]; exact hA z hz) (by omega) (by omega) (fun z hz => by
      by_cases e : z = k
      · subst e
        rw [ec_rwE rfl]
      · rw [ec_rwN ⟨by omega, by omega, by omega⟩, hL z (by omega)])
    refine ⟨h', ?_, e2, (ec_fg.refl.I (by rfl)).trans e3⟩
    have hAk := hA k (by omega)
    unfold ec_MD at hD
    rw [ec_s196_25]
    simp (disch := first | (simp only [ec_w_kI, ec_w_kL, ec_w_kA, ec_w_shpI, ec_w_shpL, ec_w_shpA, ec_isR_r, ec_01z, ec_01o, ec_01q, hD]; done) | omega | (simp only [ec_w_shpI, ec_w_shpL, ec_w_shpA, hD]; refine ec_zinO ?_; omega) | (refine ec_nzO ?_; omega)) only [ec_s196_0, ec_s196_1, ec_s196_4, ec_s196_7, ec_s196_8, ec_s196_9, ec_s196_12, ec_s196_13, ec_s196_14, ec_s196_15, ec_s196_18, ec_s196_19, ec_s196_20, ec_s196_23, ec_s196_24, ec_s196_26, ec_s196_29, ec_s196_32, ec_s196_33, ec_s196_36, ec_s196_37, ec_s196_38, ec_s196_41, ec_s196_44, ec_s196_45, ec_s196_48, ec_s196_49, ec_s196_50, ec_s196_51, ec_s196_52, ec_s196_53, ec_s196_56, ec_s196_60, ec_s196_61, ec_s196_64, ec_s196_67, ec_zn0, ec_zn1, ec_zn2, ec_zn3, ec_zn4, ec_zn5, ec_zn6, ec_zn7, ec_zn8, ec_zn9, ec_zn10, ec_zn12, ec_zn13, ec_zn14, ec_zn15, ec_zn16, ec_zn20, ec_zn30, ec_zn48, ec_zn99, ec_zn120, ec_zn127, ec_zn11, ec_zn31, ec_zn46, ec_zn57, ec_zn59, ec_zn63, ec_zn101, ec_zn107, ec_zn108, ec_zn110, ec_zn111, ec_zn115, ec_zn116, ec_zn119, ec_zn167, ec_zn185, ec_zn192, ec_zn215, ec_zn233, ec_zn699, ec_zn932, ec_zn999, ec_znF, ec_zneg, ec_zadd, ec_zsub, ec_zmul, ec_zdivO, ec_em, ec_zltO, ec_zeqO, ec_zeq0, ec_qt, ec_qf, if_pos, if_neg, Int.add_zero, ec_aft_v, ec_aft_n, ec_rwE, ec_rwN, ec_rwP, ec_rwK, ec_rwS, ec_w_shpI, ec_w_shpL, ec_w_shpA, hD, h4, hAk, e1]
theorem ec_c196 (M : ed_ML h σ n p L T) :
    (n ≠ 0 → ed_An 196 [.ref 72, .double 0] h 0 (n - 1) (p (n - 1)) (n - 1) p L T) ∧
    (n = 0 → ed_An 196 [.ref 72, .double 0] h 1 0 σ n p L T) := by
  have P := M.2.2.2.1
  have P1 := P.1
  have P2 := P.2.1
  have hD := M.1
  refine ⟨fun q => ?_, fun q => ed_An.er M ?_⟩
  · have F : ec_fg (fun q j => q = 72 ∧ j = 4) h (ec_setI h 72 4 (ec_i (n - 1))) := ec_fg.refl.I ⟨rfl, rfl⟩
    obtain ⟨h1, a1, a2, a3⟩ := ec_c196L (m := n - 1) (by omega) (τ := p (n - 1)) 233 0 (ec_setI h 72 4 (ec_i (n - 1))) (hD.of rfl) (by rw [ec_rwS]) (fun z hz => by rw [ec_rwP (by decide)]; exact (P.2.2 (n - 1) (by omega)).2 z hz) (by omega) (by omega) (fun z hz => absurd hz (by omega))
    have hD1 := (hD.of (h' := ec_setI h 72 4 (ec_i (n - 1))) rfl).of a3.1.1
    have P0 : ed_PA (ec_setI h 72 4 (ec_i (n - 1))) (n - 1) p := ⟨by rw [ec_rwS], by omega, fun i hi => ⟨(P.2.2 i (by omega)).1, fun z hz => by rw [ec_rwP (by decide)]; exact (P.2.2 i (by omega)).2 z hz⟩⟩
    have M1 : ed_ML h1 (p (n - 1)) (n - 1) p L T := ⟨hD1, a2, (P.2.2 (n - 1) (by omega)).1, P0.fg a3 (by decide) (fun _ => (by decide : ¬ (74 : Nat) = 73)), (M.2.2.2.2.fg F (fun y => absurd y.2 (by decide)) (fun j y => absurd y.1 (by decide))).fg a3 (by decide) (fun _ => (by decide : ¬ (77 : Nat) = 73))⟩
    have g4 := fun c => ed_te M1.1 (x := c)
    refine ed_An.t M1 ((F.mono (fun q j e => ⟨by omega, by omega⟩)).trans (a3.mono ed_73F)) ?_
    have n1 : h1.2.1 72 4 = ec_i (n - 1) := by rw [a3.2 72 4 (by decide), ec_rwS]
    unfold ec_MD at hD hD1
    have hD := And.intro hD hD1
    simp (disch := first | (simp only [ec_w_kI, ec_w_kL, ec_w_kA, ec_w_shpI, ec_w_shpL, ec_w_shpA, ec_isR_r, ec_01z, ec_01o, ec_01q, hD]; done) | omega | (simp only [ec_w_shpI, ec_w_shpL, ec_w_shpA, hD]; refine ec_zinO ?_; omega) | (refine ec_nzO ?_; omega)) only [ec_s196_0, ec_s196_1, ec_s196_4, ec_s196_7, ec_s196_8, ec_s196_9, ec_s196_12, ec_s196_13, ec_s196_14, ec_s196_15, ec_s196_18, ec_s196_19, ec_s196_20, ec_s196_23, ec_s196_24, ec_s196_26, ec_s196_29, ec_s196_32, ec_s196_33, ec_s196_36, ec_s196_37, ec_s196_38, ec_s196_41, ec_s196_44, ec_s196_45, ec_s196_48, ec_s196_49, ec_s196_50, ec_s196_51, ec_s196_52, ec_s196_53, ec_s196_56, ec_s196_60, ec_s196_61, ec_s196_64, ec_s196_67, ec_zn0, ec_zn1, ec_zn2, ec_zn3, ec_zn4, ec_zn5, ec_zn6, ec_zn7, ec_zn8, ec_zn9, ec_zn10, ec_zn12, ec_zn13, ec_zn14, ec_zn15, ec_zn16, ec_zn20, ec_zn30, ec_zn48, ec_zn99, ec_zn120, ec_zn127, ec_zn11, ec_zn31, ec_zn46, ec_zn57, ec_zn59, ec_zn63, ec_zn101, ec_zn107, ec_zn108, ec_zn110, ec_zn111, ec_zn115, ec_zn116, ec_zn119, ec_zn167, ec_zn185, ec_zn192, ec_zn215, ec_zn233, ec_zn699, ec_zn932, ec_zn999, ec_znF, ec_zneg, ec_zadd, ec_zsub, ec_zmul, ec_zdivO, ec_em, ec_zltO, ec_zeqO, ec_zeq0, ec_qt, ec_qf, if_pos, if_neg, Int.add_zero, ec_aft_v, ec_aft_n, ec_rwE, ec_rwN, ec_rwP, ec_rwK, ec_rwS, ec_w_shpI, ec_w_shpL, ec_w_shpA, hD, P1, a1]
    rw [ec_s196_59]
    simp (disch := first | (simp only [ec_w_kI, ec_w_kL, ec_w_kA, ec_w_shpI, ec_w_shpL, ec_w_shpA, ec_isR_r, ec_01z, ec_01o, ec_01q, hD]; done) | omega | (simp only [ec_w_shpI, ec_w_shpL, ec_w_shpA, hD]; refine ec_zinO ?_; omega) | (refine ec_nzO ?_; omega)) only [ec_s196_0, ec_s196_1, ec_s196_4, ec_s196_7, ec_s196_8, ec_s196_9, ec_s196_12, ec_s196_13, ec_s196_14, ec_s196_15, ec_s196_18, ec_s196_19, ec_s196_20, ec_s196_23, ec_s196_24, ec_s196_26, ec_s196_29, ec_s196_32, ec_s196_33, ec_s196_36, ec_s196_37, ec_s196_38, ec_s196_41, ec_s196_44, ec_s196_45, ec_s196_48, ec_s196_49, ec_s196_50, ec_s196_51, ec_s196_52, ec_s196_53, ec_s196_56, ec_s196_60, ec_s196_61, ec_s196_64, ec_s196_67, ec_zn0, ec_zn1, ec_zn2, ec_zn3, ec_zn4, ec_zn5, ec_zn6, ec_zn7, ec_zn8, ec_zn9, ec_zn10, ec_zn12, ec_zn13, ec_zn14, ec_zn15, ec_zn16, ec_zn20, ec_zn30, ec_zn48, ec_zn99, ec_zn120, ec_zn127, ec_zn11, ec_zn31, ec_zn46, ec_zn57, ec_zn59, ec_zn63, ec_zn101, ec_zn107, ec_zn108, ec_zn110, ec_zn111, ec_zn115, ec_zn116, ec_zn119, ec_zn167, ec_zn185, ec_zn192, ec_zn215, ec_zn233, ec_zn699, ec_zn932, ec_zn999, ec_znF, ec_zneg, ec_zadd, ec_zsub, ec_zmul, ec_zdivO, ec_em, ec_zltO, ec_zeqO, ec_zeq0, ec_qt, ec_qf, if_pos, if_neg, Int.add_zero, ec_aft_v, ec_aft_n, ec_rwE, ec_rwN, ec_rwP, ec_rwK, ec_rwS, ec_w_shpI, ec_w_shpL, ec_w_shpA, hD, n1, g4]
  · have g3 := fun c => ed_er M.1 (x := c)
    unfold ec_MD at hD
    rw [q] at P1
    simp (disch := first | (simp only [ec_w_kI, ec_w_kL, ec_w_kA, ec_w_shpI, ec_w_shpL, ec_w_shpA, ec_isR_r, ec_01z, ec_01o, ec_01q, hD]; done) | omega | (simp only [ec_w_shpI, ec_w_shpL, ec_w_shpA, hD]; refine ec_zinO ?_; omega) | (refine ec_nzO ?_; omega)) only [ec_s196_0, ec_s196_1, ec_s196_4, ec_s196_7, ec_s196_8, ec_s196_9, ec_s196_12, ec_s196_13, ec_s196_14, ec_s196_15, ec_s196_18, ec_s196_19, ec_s196_20, ec_s196_23, ec_s196_24, ec_s196_26, ec_s196_29, ec_s196_32, ec_s196_33, ec_s196_36, ec_s196_37, ec_s196_38, ec_s196_41, ec_s196_44, ec_s196_45, ec_s196_48, ec_s196_49, ec_s196_50, ec_s196_51, ec_s196_52, ec_s196_53, ec_s196_56, ec_s196_59, ec_s196_60, ec_s196_61, ec_s196_64, ec_s196_67, ec_zn0, ec_zn1, ec_zn2, ec_zn3, ec_zn4, ec_zn5, ec_zn6, ec_zn7, ec_zn8, ec_zn9, ec_zn10, ec_zn12, ec_zn13, ec_zn14, ec_zn15, ec_zn16, ec_zn20, ec_zn30, ec_zn48, ec_zn99, ec_zn120, ec_zn127, ec_zn11, ec_zn31, ec_zn46, ec_zn57, ec_zn59, ec_zn63, ec_zn101, ec_zn107, ec_zn108, ec_zn110, ec_zn111, ec_zn115, ec_zn116, ec_zn119, ec_zn167, ec_zn185, ec_zn192, ec_zn215, ec_zn233, ec_zn699, ec_zn932, ec_zn999, ec_znF, ec_zneg, ec_zadd, ec_zsub, ec_zmul, ec_zdivO, ec_em, ec_zltO, ec_zeqO, ec_zeq0, ec_qt, ec_qf, if_pos, if_neg, Int.add_zero, ec_aft_v, ec_aft_n, ec_rwE, ec_rwN, ec_rwP, ec_rwK, ec_rwS, ec_w_shpI, ec_w_shpL, ec_w_shpA, hD, P1, g3]
end EDF
