/-! Contracts of the reference: copies, saved states, a new dungeon. -/
def ed_PA (h : ec_Hp) (n : Int) (p : Int → ec_Sg) : Prop := h.2.1 72 4 = ec_i n ∧ (0 ≤ n ∧ n ≤ 4) ∧ ∀ i : Int, 0 ≤ i ∧ i < n → ec_WF (p i) ∧ ∀ z : Int, 0 ≤ z ∧ z < 233 → h.2.1 74 (ec_i (233 * i + z)).toNatClampNeg = ec_i (p i z)
theorem ed_PA.fg {S : Nat → Nat → Prop} {h h' : ec_Hp} {n : Int} {p : Int → ec_Sg} (a : ec_fg S h h') (b : ed_PA h n p) (h1 : ¬ S 72 4) (h2 : ∀ j, ¬ S 74 j) : ed_PA h' n p :=
  ⟨(a.2 _ _ h1).trans b.1, b.2.1, fun i hi => ⟨(b.2.2 i hi).1, fun z hz => (a.2 _ _ (h2 _)).trans ((b.2.2 i hi).2 z hz)⟩⟩
def ed_pn (n : Int) : Int := if n = 4 then 4 else n + 1
def ed_pp (n : Int) (p : Int → ec_Sg) (σ : ec_Sg) : Int → ec_Sg := if n = 4 then fun i => if i = 3 then σ else p (i + 1) else fun i => if i = n then σ else p i
theorem ed_pp_4 {p : Int → ec_Sg} {σ : ec_Sg} {i : Int} : ed_pp 4 p σ i = if i = 3 then σ else p (i + 1) := by
  unfold ed_pp
  rw [if_pos rfl]
theorem ed_pp_n {n : Int} (h : ¬ n = 4) {p : Int → ec_Sg} {σ : ec_Sg} {i : Int} : ed_pp n p σ i = if i = n then σ else p i := by
  unfold ed_pp
  rw [if_neg h]
abbrev ed_74 : Nat → Nat → Prop := fun q _ => q = 74
abbrev ed_Sv : Nat → Nat → Prop := fun q j => q = 74 ∨ (q = 72 ∧ (j = 4 ∨ j = 7))
theorem ec_c122a {A : Int → Int32} : ∀ (n : Nat) (k : Int) (h : ec_Hp), ec_MD h → 0 ≤ k → k + n = 699 → (∀ j : Int, 0 ≤ j ∧ j < 932 → h.2.1 74 (ec_i j).toNatClampNeg = if j < k then A (j + 233) else A j) →
    ∃ h', ec_om 122 15 [.ref 72, .int (ec_i k)] [] h = ec_om 122 44 [.ref 72, .int (ec_i 699)] [] h' ∧ (∀ j : Int, 0 ≤ j ∧ j < 932 → h'.2.1 74 (ec_i j).toNatClampNeg = if j < 699 then A (j + 233) else A j) ∧ ec_fg ed_74 h h' := by
  intro n
  induction n with
  | zero =>
    intro k h hD h0 hk hA
    have hk : k = 699 := by omega
    subst hk
    refine ⟨h, ?_, hA, ec_fg.refl⟩
    rw [ec_s122_15]
    simp (disch := first | (simp only [ec_01z, ec_01o, ec_01q]; done) | omega | (refine ec_nzO ?_; omega)) only [ec_s122_0, ec_s122_1, ec_s122_2, ec_s122_5, ec_s122_6, ec_s122_9, ec_s122_10, ec_s122_13, ec_s122_14, ec_s122_16, ec_s122_19, ec_s122_22, ec_s122_23, ec_s122_26, ec_s122_27, ec_s122_28, ec_s122_31, ec_s122_32, ec_s122_35, ec_s122_36, ec_s122_37, ec_s122_38, ec_s122_41, ec_s122_45, ec_s122_46, ec_s122_49, ec_s122_50, ec_s122_51, ec_s122_54, ec_s122_55, ec_s122_57, ec_s122_60, ec_s122_63, ec_s122_64, ec_s122_67, ec_s122_70, ec_s122_71, ec_s122_74, ec_s122_75, ec_s122_76, ec_s122_77, ec_s122_78, ec_s122_81, ec_s122_82, ec_s122_83, ec_s122_84, ec_s122_87, ec_s122_90, ec_s122_91, ec_s122_92, ec_s122_95, ec_s122_96, ec_s122_97, ec_s122_100, ec_zn0, ec_zn1, ec_zn2, ec_zn3, ec_zn4, ec_zn5, ec_zn6, ec_zn7, ec_zn8, ec_zn9, ec_zn10, ec_zn12, ec_zn13, ec_zn14, ec_zn15, ec_zn16, ec_zn20, ec_zn30, ec_zn48, ec_zn99, ec_zn120, ec_zn127, ec_zn11, ec_zn31, ec_zn46, ec_zn57, ec_zn59, ec_zn63, ec_zn101, ec_zn107, ec_zn108, ec_zn110, ec_zn111, ec_zn115, ec_zn116, ec_zn119, ec_zn167, ec_zn185, ec_zn192, ec_zn215, ec_zn233, ec_zn699, ec_zn932, ec_zn999, ec_znF, ec_zneg, ec_zadd, ec_zsub, ec_zmul, ec_zdivO, ec_em, ec_zltO, ec_zeqO, ec_zeq0, ec_qt, ec_qf, if_pos, if_neg, Int.add_zero, ec_aft_v, ec_aft_n, ec_rwE, ec_rwN, ec_rwP, ec_rwK, ec_rwS, ec_w_shpI, ec_w_shpL, ec_w_shpA]
  | succ n ih =>
    intro k h hD h0 hk hA
    obtain ⟨h', e1, e2, e3⟩ := ih (k + 1) (ec_setI h 74 (ec_i k).toNatClampNeg (h.2.1 74 (ec_i (k + 233)).toNatClampNeg)) (hD.of rfl) (by omega) (by omega) (fun j hj => by
      by_cases q : j = k
      · subst q
        rw [ec_rwE rfl, if_pos (by omega), hA _ (by omega), if_neg (by omega)]
      · rw [ec_rwN ⟨by omega, by omega, by omega⟩, hA j hj]
        by_cases q2 : j < k
        · rw [if_pos q2, if_pos (by omega)]
        · rw [if_neg q2, if_neg (by omega)])
    refine ⟨h', ?_, e2, (ec_fg.refl.I (by rfl)).trans e3⟩
    unfold ec_MD at hD
    rw [ec_s122_15]
    simp (disch := first | (simp only [ec_w_kI, ec_w_kL, ec_w_kA, ec_w_shpI, ec_w_shpL, ec_w_shpA, ec_isR_r, ec_01z, ec_01o, ec_01q, hD]; done) | omega | (simp only [ec_w_shpI, ec_w_shpL, ec_w_shpA, hD]; refine ec_zinO ?_; omega) | (refine ec_nzO ?_; omega)) only [ec_s122_0, ec_s122_1, ec_s122_2, ec_s122_5, ec_s122_6, ec_s122_9, ec_s122_10, ec_s122_13, ec_s122_14, ec_s122_16, ec_s122_19, ec_s122_22, ec_s122_23, ec_s122_26, ec_s122_27, ec_s122_28, ec_s122_31, ec_s122_32, ec_s122_35, ec_s122_36, ec_s122_37, ec_s122_38, ec_s122_41, ec_s122_45, ec_s122_46, ec_s122_49, ec_s122_50, ec_s122_51, ec_s122_54, ec_s122_55, ec_s122_57, ec_s122_60, ec_s122_63, ec_s122_64, ec_s122_67, ec_s122_70, ec_s122_71, ec_s122_74, ec_s122_75, ec_s122_76, ec_s122_77, ec_s122_78, ec_s122_81, ec_s122_82, ec_s122_83, ec_s122_84, ec_s122_87, ec_s122_90, ec_s122_91, ec_s122_92, ec_s122_95, ec_s122_96, ec_s122_97, ec_s122_100, ec_zn0, ec_zn1, ec_zn2, ec_zn3, ec_zn4, ec_zn5, ec_zn6, ec_zn7, ec_zn8, ec_zn9, ec_zn10, ec_zn12, ec_zn13, ec_zn14, ec_zn15, ec_zn16, ec_zn20, ec_zn30, ec_zn48, ec_zn99, ec_zn120, ec_zn127, ec_zn11, ec_zn31, ec_zn46, ec_zn57, ec_zn59, ec_zn63, ec_zn101, ec_zn107, ec_zn108, ec_zn110, ec_zn111, ec_zn115, ec_zn116, ec_zn119, ec_zn167, ec_zn185, ec_zn192, ec_zn215, ec_zn233, ec_zn699, ec_zn932, ec_zn999, ec_znF, ec_zneg, ec_zadd, ec_zsub, ec_zmul, ec_zdivO, ec_em, ec_zltO, ec_zeqO, ec_zeq0, ec_qt, ec_qf, if_pos, if_neg, Int.add_zero, ec_aft_v, ec_aft_n, ec_rwE, ec_rwN, ec_rwP, ec_rwK, ec_rwS, ec_w_shpI, ec_w_shpL, ec_w_shpA, hD, e1]
theorem ec_c122b {σ : ec_Sg} {m : Int} (hm : 0 ≤ m ∧ m ≤ 3) {B : Int → Int32} : ∀ (n : Nat) (k : Int) (h : ec_Hp), ec_MD h → ec_Ms h σ → h.2.1 72 4 = ec_i m → 0 ≤ k → k + n = 233 → (∀ j : Int, 0 ≤ j ∧ j < 932 → h.2.1 74 (ec_i j).toNatClampNeg = if 233 * m ≤ j ∧ j < 233 * m + k then ec_i (σ (j - 233 * m)) else B j) →
    ∃ h', ec_om 122 56 [.ref 72, .int (ec_i k)] [] h = ec_om 122 90 [.ref 72, .int (ec_i 233)] [] h' ∧ (∀ j : Int, 0 ≤ j ∧ j < 932 → h'.2.1 74 (ec_i j).toNatClampNeg = if 233 * m ≤ j ∧ j < 233 * m + 233 then ec_i (σ (j - 233 * m)) else B j) ∧ ec_fg ed_74 h h' := by
  intro n
  induction n with
  | zero =>
    intro k h hD hs hn h0 hk hA
    have hk : k = 233 := by omega
    subst hk
    refine ⟨h, ?_, hA, ec_fg.refl⟩
    rw [ec_s122_56]
    simp (disch := first | (simp only [ec_01z, ec_01o, ec_01q]; done) | omega | (refine ec_nzO ?_; omega)) only [ec_s122_0, ec_s122_1, ec_s122_2, ec_s122_5, ec_s122_6, ec_s122_9, ec_s122_10, ec_s122_13, ec_s122_14, ec_s122_16, ec_s122_19, ec_s122_22, ec_s122_23, ec_s122_26, ec_s122_27, ec_s122_28, ec_s122_31, ec_s122_32, ec_s122_35, ec_s122_36, ec_s122_37, ec_s122_38, ec_s122_41, ec_s122_44, ec_s122_45, ec_s122_46, ec_s122_49, ec_s122_50, ec_s122_51, ec_s122_54, ec_s122_55, ec_s122_57, ec_s122_60, ec_s122_63, ec_s122_64, ec_s122_67, ec_s122_70, ec_s122_71, ec_s122_74, ec_s122_75, ec_s122_76, ec_s122_77, ec_s122_78, ec_s122_81, ec_s122_82, ec_s122_83, ec_s122_84, ec_s122_87, ec_s122_91, ec_s122_92, ec_s122_95, ec_s122_96, ec_s122_97, ec_s122_100, ec_zn0, ec_zn1, ec_zn2, ec_zn3, ec_zn4, ec_zn5, ec_zn6, ec_zn7, ec_zn8, ec_zn9, ec_zn10, ec_zn12, ec_zn13, ec_zn14, ec_zn15, ec_zn16, ec_zn20, ec_zn30, ec_zn48, ec_zn99, ec_zn120, ec_zn127, ec_zn11, ec_zn31, ec_zn46, ec_zn57, ec_zn59, ec_zn63, ec_zn101, ec_zn107, ec_zn108, ec_zn110, ec_zn111, ec_zn115, ec_zn116, ec_zn119, ec_zn167, ec_zn185, ec_zn192, ec_zn215, ec_zn233, ec_zn699, ec_zn932, ec_zn999, ec_znF, ec_zneg, ec_zadd, ec_zsub, ec_zmul, ec_zdivO, ec_em, ec_zltO, ec_zeqO, ec_zeq0, ec_qt, ec_qf, if_pos, if_neg, Int.add_zero, ec_aft_v, ec_aft_n, ec_rwE, ec_rwN, ec_rwP, ec_rwK, ec_rwS, ec_w_shpI, ec_w_shpL, ec_w_shpA]
  | succ n ih =>
    intro k h hD hs hn h0 hk hA
    obtain ⟨h', e1, e2, e3⟩ := ih (k + 1) (ec_setI h 74 (ec_i (233 * m + k)).toNatClampNeg (ec_i (σ k))) (hD.of rfl) (hs.o (by decide)) (by rw [ec_rwP (by decide)]; exact hn) (by omega) (by omega) (fun j hj => by
      by_cases q : 233 * m + k = j
      · rw [ec_rwE q, if_pos (by omega)]
        congr 2
        omega
      · rw [ec_rwN ⟨by omega, by omega, by omega⟩, hA j hj]
        by_cases q2 : 233 * m ≤ j ∧ j < 233 * m + k
        · rw [if_pos q2, if_pos (by omega)]
        · rw [if_neg q2, if_neg (by omega)])
    refine ⟨h', ?_, e2, (ec_fg.refl.I (by rfl)).trans e3⟩
    unfold ec_MD at hD
    unfold ec_Ms at hs
    rw [ec_s122_56]
    simp (disch := first | (simp only [ec_w_kI, ec_w_kL, ec_w_kA, ec_w_shpI, ec_w_shpL, ec_w_shpA, ec_isR_r, ec_01z, ec_01o, ec_01q, hD]; done) | omega | (simp only [ec_w_shpI, ec_w_shpL, ec_w_shpA, hD]; refine ec_zinO ?_; omega) | (refine ec_nzO ?_; omega)) only [ec_s122_0, ec_s122_1, ec_s122_2, ec_s122_5, ec_s122_6, ec_s122_9, ec_s122_10, ec_s122_13, ec_s122_14, ec_s122_16, ec_s122_19, ec_s122_22, ec_s122_23, ec_s122_26, ec_s122_27, ec_s122_28, ec_s122_31, ec_s122_32, ec_s122_35, ec_s122_36, ec_s122_37, ec_s122_38, ec_s122_41, ec_s122_44, ec_s122_45, ec_s122_46, ec_s122_49, ec_s122_50, ec_s122_51, ec_s122_54, ec_s122_55, ec_s122_57, ec_s122_60, ec_s122_63, ec_s122_64, ec_s122_67, ec_s122_70, ec_s122_71, ec_s122_74, ec_s122_75, ec_s122_76, ec_s122_77, ec_s122_78, ec_s122_81, ec_s122_82, ec_s122_83, ec_s122_84, ec_s122_87, ec_s122_91, ec_s122_92, ec_s122_95, ec_s122_96, ec_s122_97, ec_s122_100, ec_zn0, ec_zn1, ec_zn2, ec_zn3, ec_zn4, ec_zn5, ec_zn6, ec_zn7, ec_zn8, ec_zn9, ec_zn10, ec_zn12, ec_zn13, ec_zn14, ec_zn15, ec_zn16, ec_zn20, ec_zn30, ec_zn48, ec_zn99, ec_zn120, ec_zn127, ec_zn11, ec_zn31, ec_zn46, ec_zn57, ec_zn59, ec_zn63, ec_zn101, ec_zn107, ec_zn108, ec_zn110, ec_zn111, ec_zn115, ec_zn116, ec_zn119, ec_zn167, ec_zn185, ec_zn192, ec_zn215, ec_zn233, ec_zn699, ec_zn932, ec_zn999, ec_znF, ec_zneg, ec_zadd, ec_zsub, ec_zmul, ec_zdivO, ec_em, ec_zltO, ec_zeqO, ec_zeq0, ec_qt, ec_qf, if_pos, if_neg, Int.add_zero, ec_aft_v, ec_aft_n, ec_rwE, ec_rwN, ec_rwP, ec_rwK, ec_rwS, ec_w_shpI, ec_w_shpL, ec_w_shpA, hD, hs, hn, e1]
theorem ec_c122 {h : ec_Hp} {σ : ec_Sg} (hD : ec_MD h) (hs : ec_Ms h σ) (hW : ec_WF σ) {n : Int} {p : Int → ec_Sg} (hP : ed_PA h n p) : ∃ h', ec_om 122 0 [.ref 72, .double 0] [] h = some (.inl none, h') ∧ ed_PA h' (ed_pn n) (ed_pp n p σ) ∧ h'.2.1 72 7 = ec_i 0 ∧ ec_fg ed_Sv h h' := by
  obtain ⟨p1, p2, p3⟩ := hP
  have hD0 := hD
  unfold ed_pn
  have f0 : ec_fg ed_Sv h (ec_setI h 72 7 (ec_i 0)) := ec_fg.refl.I (Or.inr ⟨rfl, Or.inr rfl⟩)
  by_cases q : n = 4
  · subst q
    rw [if_pos rfl]
    obtain ⟨h1, a1, a2, a3⟩ := ec_c122a (A := fun j => h.2.1 74 (ec_i j).toNatClampNeg) 699 0 (ec_setI h 72 7 (ec_i 0)) (hD.of rfl) (by omega) (by omega) (fun j hj => by rw [if_neg (by omega), ec_rwP (by decide)])
    have f1 := f0.trans (a3.mono (fun q j e => Or.inl e))
    have hD1 := hD.of f1.1.1
    have n1 : h1.2.1 72 4 = ec_i 4 := by rw [a3.2 72 4 (by decide), ec_rwK (by decide), p1]
    have s1 : ec_Ms h1 σ := (hs.o (by decide)).fg a3 (fun _ => (by decide : ¬ (73 : Nat) = 74))
    obtain ⟨h2, b1, b2, b3⟩ := ec_c122b (m := 3) (by omega) (B := fun j => if j < 699 then h.2.1 74 (ec_i (j + 233)).toNatClampNeg else h.2.1 74 (ec_i j).toNatClampNeg) 233 0 (ec_setI h1 72 4 (ec_i 3)) (hD1.of rfl) (s1.o (by decide)) (by rw [ec_rwS]) (by omega) (by omega) (fun j hj => by rw [if_neg (by omega), ec_rwP (by decide), a2 j hj])
    have f2 := (f1.I (q := 72) (k := 4) (x := ec_i 3) (Or.inr ⟨rfl, Or.inl rfl⟩)).trans (b3.mono (T := ed_Sv) (fun q j e => Or.inl e))
    have hD2 := hD.of f2.1.1
    have n2 : h2.2.1 72 4 = ec_i 3 := by rw [b3.2 72 4 (by decide), ec_rwS]
    have t2 : h2.2.1 72 7 = ec_i 0 := by rw [b3.2 72 7 (by decide), ec_rwK (by decide), a3.2 72 7 (by decide), ec_rwS]
    refine ⟨ec_setI h2 72 4 (ec_i 4), ?_, ⟨ec_rwS, by omega, fun i hi => ?_⟩, by rw [ec_rwK (by decide), t2], f2.I (Or.inr ⟨rfl, Or.inl rfl⟩)⟩
    · unfold ec_MD at hD hD1 hD2
      have hD := And.intro hD (And.intro hD1 hD2)
      simp (disch := first | (simp only [ec_w_kI, ec_w_kL, ec_w_kA, ec_w_shpI, ec_w_shpL, ec_w_shpA, ec_isR_r, ec_01z, ec_01o, ec_01q, hD]; done) | omega | (simp only [ec_w_shpI, ec_w_shpL, ec_w_shpA, hD]; refine ec_zinO ?_; omega) | (refine ec_nzO ?_; omega)) only [ec_s122_0, ec_s122_1, ec_s122_2, ec_s122_5, ec_s122_6, ec_s122_9, ec_s122_10, ec_s122_13, ec_s122_14, ec_s122_16, ec_s122_19, ec_s122_22, ec_s122_23, ec_s122_26, ec_s122_27, ec_s122_28, ec_s122_31, ec_s122_32, ec_s122_35, ec_s122_36, ec_s122_37, ec_s122_38, ec_s122_41, ec_s122_45, ec_s122_46, ec_s122_49, ec_s122_50, ec_s122_51, ec_s122_54, ec_s122_55, ec_s122_57, ec_s122_60, ec_s122_63, ec_s122_64, ec_s122_67, ec_s122_70, ec_s122_71, ec_s122_74, ec_s122_75, ec_s122_76, ec_s122_77, ec_s122_78, ec_s122_81, ec_s122_82, ec_s122_83, ec_s122_84, ec_s122_87, ec_s122_91, ec_s122_92, ec_s122_95, ec_s122_96, ec_s122_97, ec_s122_100, ec_zn0, ec_zn1, ec_zn2, ec_zn3, ec_zn4, ec_zn5, ec_zn6, ec_zn7, ec_zn8, ec_zn9, ec_zn10, ec_zn12, ec_zn13, ec_zn14, ec_zn15, ec_zn16, ec_zn20, ec_zn30, ec_zn48, ec_zn99, ec_zn120, ec_zn127, ec_zn11, ec_zn31, ec_zn46, ec_zn57, ec_zn59, ec_zn63, ec_zn101, ec_zn107, ec_zn108, ec_zn110, ec_zn111, ec_zn115, ec_zn116, ec_zn119, ec_zn167, ec_zn185, ec_zn192, ec_zn215, ec_zn233, ec_zn699, ec_zn932, ec_zn999, ec_znF, ec_zneg, ec_zadd, ec_zsub, ec_zmul, ec_zdivO, ec_em, ec_zltO, ec_zeqO, ec_zeq0, ec_qt, ec_qf, if_pos, if_neg, Int.add_zero, ec_aft_v, ec_aft_n, ec_rwE, ec_rwN, ec_rwP, ec_rwK, ec_rwS, ec_w_shpI, ec_w_shpL, ec_w_shpA, hD, p1, a1]
      rw [ec_s122_44]
      simp (disch := first | (simp only [ec_w_kI, ec_w_kL, ec_w_kA, ec_w_shpI, ec_w_shpL, ec_w_shpA, ec_isR_r, ec_01z, ec_01o, ec_01q, hD]; done) | omega | (simp only [ec_w_shpI, ec_w_shpL, ec_w_shpA, hD]; refine ec_zinO ?_; omega) | (refine ec_nzO ?_; omega)) only [ec_s122_0, ec_s122_1, ec_s122_2, ec_s122_5, ec_s122_6, ec_s122_9, ec_s122_10, ec_s122_13, ec_s122_14, ec_s122_16, ec_s122_19, ec_s122_22, ec_s122_23, ec_s122_26, ec_s122_27, ec_s122_28, ec_s122_31, ec_s122_32, ec_s122_35, ec_s122_36, ec_s122_37, ec_s122_38, ec_s122_41, ec_s122_45, ec_s122_46, ec_s122_49, ec_s122_50, ec_s122_51, ec_s122_54, ec_s122_55, ec_s122_57, ec_s122_60, ec_s122_63, ec_s122_64, ec_s122_67, ec_s122_70, ec_s122_71, ec_s122_74, ec_s122_75, ec_s122_76, ec_s122_77, ec_s122_78, ec_s122_81, ec_s122_82, ec_s122_83, ec_s122_84, ec_s122_87, ec_s122_91, ec_s122_92, ec_s122_95, ec_s122_96, ec_s122_97, ec_s122_100, ec_zn0, ec_zn1, ec_zn2, ec_zn3, ec_zn4, ec_zn5, ec_zn6, ec_zn7, ec_zn8, ec_zn9, ec_zn10, ec_zn12, ec_zn13, ec_zn14, ec_zn15, ec_zn16, ec_zn20, ec_zn30, ec_zn48, ec_zn99, ec_zn120, ec_zn127, ec_zn11, ec_zn31, ec_zn46, ec_zn57, ec_zn59, ec_zn63, ec_zn101, ec_zn107, ec_zn108, ec_zn110, ec_zn111, ec_zn115, ec_zn116, ec_zn119, ec_zn167, ec_zn185, ec_zn192, ec_zn215, ec_zn233, ec_zn699, ec_zn932, ec_zn999, ec_znF, ec_zneg, ec_zadd, ec_zsub, ec_zmul, ec_zdivO, ec_em, ec_zltO, ec_zeqO, ec_zeq0, ec_qt, ec_qf, if_pos, if_neg, Int.add_zero, ec_aft_v, ec_aft_n, ec_rwE, ec_rwN, ec_rwP, ec_rwK, ec_rwS, ec_w_shpI, ec_w_shpL, ec_w_shpA, hD, n1, b1, show (4 : Int) - 1 = 3 from rfl]
      rw [ec_s122_90]
      simp (disch := first | (simp only [ec_w_kI, ec_w_kL, ec_w_kA, ec_w_shpI, ec_w_shpL, ec_w_shpA, ec_isR_r, ec_01z, ec_01o, ec_01q, hD]; done) | omega | (simp only [ec_w_shpI, ec_w_shpL, ec_w_shpA, hD]; refine ec_zinO ?_; omega) | (refine ec_nzO ?_; omega)) only [ec_s122_0, ec_s122_1, ec_s122_2, ec_s122_5, ec_s122_6, ec_s122_9, ec_s122_10, ec_s122_13, ec_s122_14, ec_s122_16, ec_s122_19, ec_s122_22, ec_s122_23, ec_s122_26, ec_s122_27, ec_s122_28, ec_s122_31, ec_s122_32, ec_s122_35, ec_s122_36, ec_s122_37, ec_s122_38, ec_s122_41, ec_s122_45, ec_s122_46, ec_s122_49, ec_s122_50, ec_s122_51, ec_s122_54, ec_s122_55, ec_s122_57, ec_s122_60, ec_s122_63, ec_s122_64, ec_s122_67, ec_s122_70, ec_s122_71, ec_s122_74, ec_s122_75, ec_s122_76, ec_s122_77, ec_s122_78, ec_s122_81, ec_s122_82, ec_s122_83, ec_s122_84, ec_s122_87, ec_s122_91, ec_s122_92, ec_s122_95, ec_s122_96, ec_s122_97, ec_s122_100, ec_zn0, ec_zn1, ec_zn2, ec_zn3, ec_zn4, ec_zn5, ec_zn6, ec_zn7, ec_zn8, ec_zn9, ec_zn10, ec_zn12, ec_zn13, ec_zn14, ec_zn15, ec_zn16, ec_zn20, ec_zn30, ec_zn48, ec_zn99, ec_zn120, ec_zn127, ec_zn11, ec_zn31, ec_zn46, ec_zn57, ec_zn59, ec_zn63, ec_zn101, ec_zn107, ec_zn108, ec_zn110, ec_zn111, ec_zn115, ec_zn116, ec_zn119, ec_zn167, ec_zn185, ec_zn192, ec_zn215, ec_zn233, ec_zn699, ec_zn932, ec_zn999, ec_znF, ec_zneg, ec_zadd, ec_zsub, ec_zmul, ec_zdivO, ec_em, ec_zltO, ec_zeqO, ec_zeq0, ec_qt, ec_qf, if_pos, if_neg, Int.add_zero, ec_aft_v, ec_aft_n, ec_rwE, ec_rwN, ec_rwP, ec_rwK, ec_rwS, ec_w_shpI, ec_w_shpL, ec_w_shpA, hD, n2, show (3 : Int) + 1 = 4 from rfl]
    · rw [ed_pp_4]
      by_cases q3 : i = 3
      · subst q3
        rw [if_pos rfl]
        refine ⟨hW, fun z hz => ?_⟩
        rw [ec_rwP (by decide), b2 _ (by omega), if_pos (by omega)]
        congr 2
        omega
      · rw [if_neg q3]
        refine ⟨(p3 (i + 1) (by omega)).1, fun z hz => ?_⟩
        rw [ec_rwP (by decide), b2 _ (by omega), if_neg (by omega), if_pos (by omega), show 233 * i + z + 233 = 233 * (i + 1) + z by omega]
        exact (p3 (i + 1) (by omega)).2 z hz
  · rw [if_neg q]
    obtain ⟨h2, b1, b2, b3⟩ := ec_c122b (m := n) (by omega) (B := fun j => h.2.1 74 (ec_i j).toNatClampNeg) 233 0 (ec_setI h 72 7 (ec_i 0)) (hD.of rfl) (hs.o (by decide)) (by rw [ec_rwK (by decide), p1]) (by omega) (by omega) (fun j hj => by rw [if_neg (by omega), ec_rwP (by decide)])
    have f2 := f0.trans (b3.mono (T := ed_Sv) (fun q j e => Or.inl e))
    have hD2 := hD.of f2.1.1
    have n2 : h2.2.1 72 4 = ec_i n := by rw [b3.2 72 4 (by decide), ec_rwK (by decide), p1]
    have t2 : h2.2.1 72 7 = ec_i 0 := by rw [b3.2 72 7 (by decide), ec_rwS]
    refine ⟨ec_setI h2 72 4 (ec_i (n + 1)), ?_, ⟨ec_rwS, by omega, fun i hi => ?_⟩, by rw [ec_rwK (by decide), t2], f2.I (Or.inr ⟨rfl, Or.inl rfl⟩)⟩
    · unfold ec_MD at hD hD2
      have hD := And.intro hD hD2
      simp (disch := first | (simp only [ec_w_kI, ec_w_kL, ec_w_kA, ec_w_shpI, ec_w_shpL, ec_w_shpA, ec_isR_r, ec_01z, ec_01o, ec_01q, hD]; done) | omega | (simp only [ec_w_shpI, ec_w_shpL, ec_w_shpA, hD]; refine ec_zinO ?_; omega) | (refine ec_nzO ?_; omega)) only [ec_s122_0, ec_s122_1, ec_s122_2, ec_s122_5, ec_s122_6, ec_s122_9, ec_s122_10, ec_s122_13, ec_s122_14, ec_s122_16, ec_s122_19, ec_s122_22, ec_s122_23, ec_s122_26, ec_s122_27, ec_s122_28, ec_s122_31, ec_s122_32, ec_s122_35, ec_s122_36, ec_s122_37, ec_s122_38, ec_s122_41, ec_s122_45, ec_s122_46, ec_s122_49, ec_s122_50, ec_s122_51, ec_s122_54, ec_s122_55, ec_s122_57, ec_s122_60, ec_s122_63, ec_s122_64, ec_s122_67, ec_s122_70, ec_s122_71, ec_s122_74, ec_s122_75, ec_s122_76, ec_s122_77, ec_s122_78, ec_s122_81, ec_s122_82, ec_s122_83, ec_s122_84, ec_s122_87, ec_s122_91, ec_s122_92, ec_s122_95, ec_s122_96, ec_s122_97, ec_s122_100, ec_zn0, ec_zn1, ec_zn2, ec_zn3, ec_zn4, ec_zn5, ec_zn6, ec_zn7, ec_zn8, ec_zn9, ec_zn10, ec_zn12, ec_zn13, ec_zn14, ec_zn15, ec_zn16, ec_zn20, ec_zn30, ec_zn48, ec_zn99, ec_zn120, ec_zn127, ec_zn11, ec_zn31, ec_zn46, ec_zn57, ec_zn59, ec_zn63, ec_zn101, ec_zn107, ec_zn108, ec_zn110, ec_zn111, ec_zn115, ec_zn116, ec_zn119, ec_zn167, ec_zn185, ec_zn192, ec_zn215, ec_zn233, ec_zn699, ec_zn932, ec_zn999, ec_znF, ec_zneg, ec_zadd, ec_zsub, ec_zmul, ec_zdivO, ec_em, ec_zltO, ec_zeqO, ec_zeq0, ec_qt, ec_qf, if_pos, if_neg, Int.add_zero, ec_aft_v, ec_aft_n, ec_rwE, ec_rwN, ec_rwP, ec_rwK, ec_rwS, ec_w_shpI, ec_w_shpL, ec_w_shpA, hD, p1, b1]
      rw [ec_s122_90]
      simp (disch := first | (simp only [ec_w_kI, ec_w_kL, ec_w_kA, ec_w_shpI, ec_w_shpL, ec_w_shpA, ec_isR_r, ec_01z, ec_01o, ec_01q, hD]; done) | omega | (simp only [ec_w_shpI, ec_w_shpL, ec_w_shpA, hD]; refine ec_zinO ?_; omega) | (refine ec_nzO ?_; omega)) only [ec_s122_0, ec_s122_1, ec_s122_2, ec_s122_5, ec_s122_6, ec_s122_9, ec_s122_10, ec_s122_13, ec_s122_14, ec_s122_16, ec_s122_19, ec_s122_22, ec_s122_23, ec_s122_26, ec_s122_27, ec_s122_28, ec_s122_31, ec_s122_32, ec_s122_35, ec_s122_36, ec_s122_37, ec_s122_38, ec_s122_41, ec_s122_45, ec_s122_46, ec_s122_49, ec_s122_50, ec_s122_51, ec_s122_54, ec_s122_55, ec_s122_57, ec_s122_60, ec_s122_63, ec_s122_64, ec_s122_67, ec_s122_70, ec_s122_71, ec_s122_74, ec_s122_75, ec_s122_76, ec_s122_77, ec_s122_78, ec_s122_81, ec_s122_82, ec_s122_83, ec_s122_84, ec_s122_87, ec_s122_91, ec_s122_92, ec_s122_95, ec_s122_96, ec_s122_97, ec_s122_100, ec_zn0, ec_zn1, ec_zn2, ec_zn3, ec_zn4, ec_zn5, ec_zn6, ec_zn7, ec_zn8, ec_zn9, ec_zn10, ec_zn12, ec_zn13, ec_zn14, ec_zn15, ec_zn16, ec_zn20, ec_zn30, ec_zn48, ec_zn99, ec_zn120, ec_zn127, ec_zn11, ec_zn31, ec_zn46, ec_zn57, ec_zn59, ec_zn63, ec_zn101, ec_zn107, ec_zn108, ec_zn110, ec_zn111, ec_zn115, ec_zn116, ec_zn119, ec_zn167, ec_zn185, ec_zn192, ec_zn215, ec_zn233, ec_zn699, ec_zn932, ec_zn999, ec_znF, ec_zneg, ec_zadd, ec_zsub, ec_zmul, ec_zdivO, ec_em, ec_zltO, ec_zeqO, ec_zeq0, ec_qt, ec_qf, if_pos, if_neg, Int.add_zero, ec_aft_v, ec_aft_n, ec_rwE, ec_rwN, ec_rwP, ec_rwK, ec_rwS, ec_w_shpI, ec_w_shpL, ec_w_shpA, hD, n2]
    · rw [ed_pp_n q]
      by_cases q3 : i = n
      · subst q3
        rw [if_pos rfl]
        refine ⟨hW, fun z hz => ?_⟩
        rw [ec_rwP (by decide), b2 _ (by omega), if_pos (by omega)]
        congr 2
        omega
      · rw [if_neg q3]
        refine ⟨(p3 i (by omega)).1, fun z hz => ?_⟩
        rw [ec_rwP (by decide), b2 _ (by omega), if_neg (by omega)]
        exact (p3 i (by omega)).2 z hz
/-! a new dungeon -/
def ed_new (c r : Int) : ec_Sg := ec_su (ec_su (ec_su (ec_su (fun _ => 0) 0 c) 1 r) 7 5) 8 20
theorem ed_WF_new {c r : Int} (hc : 1 ≤ c ∧ c ≤ 8) (hr : 1 ≤ r ∧ r ≤ 6) : ec_WF (ed_new c r) := by
  have e : ∀ j : Int, j ≠ 0 → j ≠ 1 → j ≠ 7 → j ≠ 8 → ed_new c r j = 0 := fun j h0 h1 h7 h8 => by
    unfold ed_new
    rw [ec_suN h8, ec_suN h7, ec_suN h1, ec_suN h0]
  have e0 : ed_new c r 0 = c := rfl
  have e1 : ed_new c r 1 = r := rfl
  have e7 : ed_new c r 7 = 5 := rfl
  have e8 : ed_new c r 8 = 20 := rfl
  have e2 := e 2 (by decide) (by decide) (by decide) (by decide)
  have e3 := e 3 (by decide) (by decide) (by decide) (by decide)
  have e4 := e 4 (by decide) (by decide) (by decide) (by decide)
  have e5 := e 5 (by decide) (by decide) (by decide) (by decide)
  have e6 := e 6 (by decide) (by decide) (by decide) (by decide)
  have e9 := e 9 (by decide) (by decide) (by decide) (by decide)
  refine ⟨by omega, ⟨?_, by omega⟩, fun z d hz hd hb => ?_, fun n hn => absurd hn (by omega), fun n hn => absurd hn (by omega), fun n hn => absurd hn (by omega), fun n hn => absurd hn (by omega), fun n j hn hj => absurd hn (by omega)⟩
  · unfold ec_ing
    omega
  · have b := ec_bp_rg (d := d) hz.1
    rw [e _ (by omega) (by omega) (by omega) (by omega)]
    omega
theorem ec_c123a {c r : Int} : ∀ (n : Nat) (k : Int) (h : ec_Hp), ec_MD h → 0 ≤ k → k + n = 233 → (∀ z : Int, 0 ≤ z ∧ z < k → h.2.1 73 (ec_i z).toNatClampNeg = ec_i 0) →
    ∃ h', ec_om 123 2 [.ref 72, .int (ec_i c), .int (ec_i r), .int (ec_i k)] [] h = ec_om 123 22 [.ref 72, .int (ec_i c), .int (ec_i r), .int (ec_i 233)] [] h' ∧ ec_Ms h' (fun _ => 0) ∧ ec_fg ed_73 h h' := by
  intro n
  induction n with
  | zero =>
    intro k h hD h0 hk hL
    have hk : k = 233 := by omega
    subst hk
    refine ⟨h, ?_, fun z hz => hL z (by omega), ec_fg.refl⟩
    rw [ec_s123_2]
    simp (disch := first | (simp only [ec_01z, ec_01o, ec_01q]; done) | omega | (refine ec_nzO ?_; omega)) only [ec_s123_0, ec_s123_1, ec_s123_3, ec_s123_6, ec_s123_9, ec_s123_10, ec_s123_13, ec_s123_14, ec_s123_15, ec_s123_16, ec_s123_19, ec_s123_23, ec_s123_26, ec_s123_27, ec_s123_28, ec_s123_29, ec_s123_30, ec_s123_33, ec_s123_34, ec_s123_35, ec_s123_36, ec_s123_37, ec_s123_40, ec_s123_42, ec_s123_43, ec_s123_44, ec_s123_45, ec_s123_48, ec_s123_50, ec_s123_52, ec_s123_53, ec_zn0, ec_zn1, ec_zn2, ec_zn3, ec_zn4, ec_zn5, ec_zn6, ec_zn7, ec_zn8, ec_zn9, ec_zn10, ec_zn12, ec_zn13, ec_zn14, ec_zn15, ec_zn16, ec_zn20, ec_zn30, ec_zn48, ec_zn99, ec_zn120, ec_zn127, ec_zn11, ec_zn31, ec_zn46, ec_zn57, ec_zn59, ec_zn63, ec_zn101, ec_zn107, ec_zn108, ec_zn110, ec_zn111, ec_zn115, ec_zn116, ec_zn119, ec_zn167, ec_zn185, ec_zn192, ec_zn215, ec_zn233, ec_zn699, ec_zn932, ec_zn999, ec_znF, ec_zneg, ec_zadd, ec_zsub, ec_zmul, ec_zdivO, ec_em, ec_zltO, ec_zeqO, ec_zeq0, ec_qt, ec_qf, if_pos, if_neg, Int.add_zero, ec_aft_v, ec_aft_n, ec_rwE, ec_rwN, ec_rwP, ec_rwK, ec_rwS, ec_w_shpI, ec_w_shpL, ec_w_shpA]
  | succ n ih =>
    intro k h hD h0 hk hL
    obtain ⟨h', e1, e2, e3⟩ := ih (k + 1) (ec_setI h 73 (ec_i k).toNatClampNeg (ec_i 0)) (hD.of rfl) (by omega) (by omega) (fun z hz => by
      by_cases e : z = k
      · subst e
        rw [ec_rwE rfl]
      · rw [ec_rwN ⟨by omega, by omega, by omega⟩, hL z (by omega)])
    refine ⟨h', ?_, e2, (ec_fg.refl.I (by rfl)).trans e3⟩
    unfold ec_MD at hD
    rw [ec_s123_2]
    simp (disch := first | (simp only [ec_w_kI, ec_w_kL, ec_w_kA, ec_w_shpI, ec_w_shpL, ec_w_shpA, ec_isR_r, ec_01z, ec_01o, ec_01q, hD]; done) | omega | (simp only [ec_w_shpI, ec_w_shpL, ec_w_shpA, hD]; refine ec_zinO ?_; omega) | (refine ec_nzO ?_; omega)) only [ec_s123_0, ec_s123_1, ec_s123_3, ec_s123_6, ec_s123_9, ec_s123_10, ec_s123_13, ec_s123_14, ec_s123_15, ec_s123_16, ec_s123_19, ec_s123_23, ec_s123_26, ec_s123_27, ec_s123_28, ec_s123_29, ec_s123_30, ec_s123_33, ec_s123_34, ec_s123_35, ec_s123_36, ec_s123_37, ec_s123_40, ec_s123_42, ec_s123_43, ec_s123_44, ec_s123_45, ec_s123_48, ec_s123_50, ec_s123_52, ec_s123_53, ec_zn0, ec_zn1, ec_zn2, ec_zn3, ec_zn4, ec_zn5, ec_zn6, ec_zn7, ec_zn8, ec_zn9, ec_zn10, ec_zn12, ec_zn13, ec_zn14, ec_zn15, ec_zn16, ec_zn20, ec_zn30, ec_zn48, ec_zn99, ec_zn120, ec_zn127, ec_zn11, ec_zn31, ec_zn46, ec_zn57, ec_zn59, ec_zn63, ec_zn101, ec_zn107, ec_zn108, ec_zn110, ec_zn111, ec_zn115, ec_zn116, ec_zn119, ec_zn167, ec_zn185, ec_zn192, ec_zn215, ec_zn233, ec_zn699, ec_zn932, ec_zn999, ec_znF, ec_zneg, ec_zadd, ec_zsub, ec_zmul, ec_zdivO, ec_em, ec_zltO, ec_zeqO, ec_zeq0, ec_qt, ec_qf, if_pos, if_neg, Int.add_zero, ec_aft_v, ec_aft_n, ec_rwE, ec_rwN, ec_rwP, ec_rwK, ec_rwS, ec_w_shpI, ec_w_shpL, ec_w_shpA, hD, e1]
theorem ec_c123 {h : ec_Hp} (hD : ec_MD h) {c r : Int} : ∃ h', ec_om 123 0 [.ref 72, .int (ec_i c), .int (ec_i r), .double 0] [] h = some (.inl none, h') ∧ ec_Ms h' (ed_new c r) ∧ ec_fg ed_73 h h' := by
  obtain ⟨h1, a1, a2, a3⟩ := ec_c123a (c := c) (r := r) 233 0 h hD (by omega) (by omega) (fun z hz => absurd hz (by omega))
  have hD1 := hD.of a3.1.1
  unfold ed_new
  generalize e : ec_om 123 0 [.ref 72, .int (ec_i c), .int (ec_i r), .double 0] [] h = x
  rw [ec_s123_0, ec_s123_1, ec_zn0, a1, ec_s123_22] at e
  unfold ec_MD at hD1
  have hD := hD1
  simp (disch := first | (simp only [ec_w_kI, ec_w_kL, ec_w_kA, ec_w_shpI, ec_w_shpL, ec_w_shpA, ec_isR_r, ec_01z, ec_01o, ec_01q, hD]; done) | omega | (simp only [ec_w_shpI, ec_w_shpL, ec_w_shpA, hD]; refine ec_zinO ?_; omega) | (refine ec_nzO ?_; omega)) only [ec_s123_0, ec_s123_1, ec_s123_3, ec_s123_6, ec_s123_9, ec_s123_10, ec_s123_13, ec_s123_14, ec_s123_15, ec_s123_16, ec_s123_19, ec_s123_23, ec_s123_26, ec_s123_27, ec_s123_28, ec_s123_29, ec_s123_30, ec_s123_33, ec_s123_34, ec_s123_35, ec_s123_36, ec_s123_37, ec_s123_40, ec_s123_42, ec_s123_43, ec_s123_44, ec_s123_45, ec_s123_48, ec_s123_50, ec_s123_52, ec_s123_53, ec_zn0, ec_zn1, ec_zn2, ec_zn3, ec_zn4, ec_zn5, ec_zn6, ec_zn7, ec_zn8, ec_zn9, ec_zn10, ec_zn12, ec_zn13, ec_zn14, ec_zn15, ec_zn16, ec_zn20, ec_zn30, ec_zn48, ec_zn99, ec_zn120, ec_zn127, ec_zn11, ec_zn31, ec_zn46, ec_zn57, ec_zn59, ec_zn63, ec_zn101, ec_zn107, ec_zn108, ec_zn110, ec_zn111, ec_zn115, ec_zn116, ec_zn119, ec_zn167, ec_zn185, ec_zn192, ec_zn215, ec_zn233, ec_zn699, ec_zn932, ec_zn999, ec_znF, ec_zneg, ec_zadd, ec_zsub, ec_zmul, ec_zdivO, ec_em, ec_zltO, ec_zeqO, ec_zeq0, ec_qt, ec_qf, if_pos, if_neg, Int.add_zero, ec_aft_v, ec_aft_n, ec_rwE, ec_rwN, ec_rwP, ec_rwK, ec_rwS, ec_w_shpI, ec_w_shpL, ec_w_shpA, hD] at e
  subst e
  exact ⟨_, rfl, (((a2.w (by omega)).w (by omega)).w (by omega)).w (by omega), (((a3.I (by rfl)).I (by rfl)).I (by rfl)).I (by rfl)⟩
/-- a row is copied: between two arrays of the reference -/
theorem ec_c121L {a b : Nat} (hab : a ≠ b) {τ : ec_Sg} : ∀ (n : Nat) (k : Int) (h : ec_Hp), (ec_isK h a 16 = true ∧ (ec_shp h a).2.1 = 233 ∧ ec_isK h b 16 = true ∧ (ec_shp h b).2.1 = 233) → ed_Ar h a 233 τ → 0 ≤ k → k + n = 233 → (∀ z : Int, 0 ≤ z ∧ z < k → h.2.1 b (ec_i z).toNatClampNeg = ec_i (τ z)) →
    ∃ h', ec_om 121 2 [.ref a, .ref b, .int (ec_i k)] [] h = some (.inl none, h') ∧ ed_Ar h' b 233 τ ∧ ec_fg (fun q _ => q = b) h h' := by
  intro n
  induction n with
  | zero =>
    intro k h hD hA h0 hk hL
    have hk : k = 233 := by omega
    subst hk
    refine ⟨h, ?_, fun z hz => hL z (by omega), ec_fg.refl⟩
    rw [ec_s121_2]
    simp (disch := first | (simp only [ec_01z, ec_01o, ec_01q]; done) | omega | (refine ec_nzO ?_; omega)) only [ec_s121_0, ec_s121_1, ec_s121_3, ec_s121_6, ec_s121_9, ec_s121_10, ec_s121_11, ec_s121_12, ec_s121_13, ec_s121_14, ec_s121_15, ec_s121_18, ec_s121_21, ec_zn0, ec_zn1, ec_zn2, ec_zn3, ec_zn4, ec_zn5, ec_zn6, ec_zn7, ec_zn8, ec_zn9, ec_zn10, ec_zn12, ec_zn13, ec_zn14, ec_zn15, ec_zn16, ec_zn20, ec_zn30, ec_zn48, ec_zn99, ec_zn120, ec_zn127, ec_zn11, ec_zn31, ec_zn46, ec_zn57, ec_zn59, ec_zn63, ec_zn101, ec_zn107, ec_zn108, ec_zn110, ec_zn111, ec_zn115, ec_zn116, ec_zn119, ec_zn167, ec_zn185, ec_zn192, ec_zn215, ec_zn233, ec_zn699, ec_zn932, ec_zn999, ec_znF, ec_zneg, ec_zadd, ec_zsub, ec_zmul, ec_zdivO, ec_em, ec_zltO, ec_zeqO, ec_zeq0, ec_qt, ec_qf, if_pos, if_neg, Int.add_zero, ec_aft_v, ec_aft_n, ec_rwE, ec_rwN, ec_rwP, ec_rwK, ec_rwS, ec_w_shpI, ec_w_shpL, ec_w_shpA]
  | succ n ih =>
    intro k h hD hA h0 hk hL
    have hA0 := hA
    obtain ⟨h', e1, e2, e3⟩ := ih (k + 1) (ec_setI h b (ec_i k).toNatClampNeg (ec_i (τ k))) hD (hA.o (fun e => hab e.symm)) (by omega) (by omega) (fun z hz => by
      by_cases e : z = k
      · subst e
        rw [ec_rwE rfl]
      · rw [ec_rwN ⟨by omega, by omega, by omega⟩, hL z (by omega)])
    refine ⟨h', ?_, e2, (ec_fg.refl.I (by rfl)).trans e3⟩
    unfold ed_Ar at hA
    rw [ec_s121_2]
    simp (disch := first | (simp only [ec_w_kI, ec_w_kL, ec_w_kA, ec_w_shpI, ec_w_shpL, ec_w_shpA, ec_isR_r, ec_01z, ec_01o, ec_01q, hD]; done) | omega | (simp only [ec_w_shpI, ec_w_shpL, ec_w_shpA, hD]; refine ec_zinO ?_; omega) | (refine ec_nzO ?_; omega)) only [ec_s121_0, ec_s121_1, ec_s121_3, ec_s121_6, ec_s121_9, ec_s121_10, ec_s121_11, ec_s121_12, ec_s121_13, ec_s121_14, ec_s121_15, ec_s121_18, ec_s121_21, ec_zn0, ec_zn1, ec_zn2, ec_zn3, ec_zn4, ec_zn5, ec_zn6, ec_zn7, ec_zn8, ec_zn9, ec_zn10, ec_zn12, ec_zn13, ec_zn14, ec_zn15, ec_zn16, ec_zn20, ec_zn30, ec_zn48, ec_zn99, ec_zn120, ec_zn127, ec_zn11, ec_zn31, ec_zn46, ec_zn57, ec_zn59, ec_zn63, ec_zn101, ec_zn107, ec_zn108, ec_zn110, ec_zn111, ec_zn115, ec_zn116, ec_zn119, ec_zn167, ec_zn185, ec_zn192, ec_zn215, ec_zn233, ec_zn699, ec_zn932, ec_zn999, ec_znF, ec_zneg, ec_zadd, ec_zsub, ec_zmul, ec_zdivO, ec_em, ec_zltO, ec_zeqO, ec_zeq0, ec_qt, ec_qf, if_pos, if_neg, Int.add_zero, ec_aft_v, ec_aft_n, ec_rwE, ec_rwN, ec_rwP, ec_rwK, ec_rwS, ec_w_shpI, ec_w_shpL, ec_w_shpA, hD, hA, e1]
theorem ec_c121 {h : ec_Hp} {a b : Nat} (hab : a ≠ b) {τ : ec_Sg} (hD : ec_isK h a 16 = true ∧ (ec_shp h a).2.1 = 233 ∧ ec_isK h b 16 = true ∧ (ec_shp h b).2.1 = 233) (hA : ed_Ar h a 233 τ) : ∃ h', ec_om 121 0 [.ref a, .ref b, .double 0] [] h = some (.inl none, h') ∧ ed_Ar h' b 233 τ ∧ ec_fg (fun q _ => q = b) h h' := by
  obtain ⟨h1, a1, a2⟩ := ec_c121L hab 233 0 h hD hA (by omega) (by omega) (fun z hz => absurd hz (by omega))
  exact ⟨h1, by rw [ec_s121_0, ec_s121_1, ec_zn0, a1], a2⟩
