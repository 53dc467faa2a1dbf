/-! A new dungeon; all calls that change. -/
def ed_z1 (σ : ec_Sg) (k : Int) : ec_Sg := fun j => if (11 ≤ j ∧ j < 11 + k) ∨ (59 ≤ j ∧ j < 59 + k) then 0 else σ j
theorem ed_z1_s {σ : ec_Sg} {k : Int} (hk : 0 ≤ k ∧ k < 48) : ed_z1 σ (k + 1) = ec_su (ec_su (ed_z1 σ k) (11 + k) 0) (59 + k) 0 := by
  funext j
  show (if (11 ≤ j ∧ j < 11 + (k + 1)) ∨ (59 ≤ j ∧ j < 59 + (k + 1)) then 0 else σ j) = if j = 59 + k then 0 else if j = 11 + k then 0 else if (11 ≤ j ∧ j < 11 + k) ∨ (59 ≤ j ∧ j < 59 + k) then 0 else σ j
  by_cases e1 : j = 59 + k
  · rw [if_pos e1, if_pos (by omega)]
  · rw [if_neg e1]
    by_cases e2 : j = 11 + k
    · rw [if_pos e2, if_pos (by omega)]
    · rw [if_neg e2]
      by_cases e3 : (11 ≤ j ∧ j < 11 + k) ∨ (59 ≤ j ∧ j < 59 + k)
      · rw [if_pos e3, if_pos (by omega)]
      · rw [if_neg e3, if_neg (by omega)]
theorem ed_z1_0 {σ : ec_Sg} : ed_z1 σ 0 = σ := by
  funext j
  exact if_neg (by omega)
def ed_z2 (ρ : ec_Sg) (a b k : Int) : ec_Sg := fun j => if 0 ≤ j ∧ j < k then ed_new a b j else ρ j
theorem ed_z2_s {ρ : ec_Sg} {a b k : Int} (hk : 0 ≤ k) : ed_z2 ρ a b (k + 1) = ec_su (ed_z2 ρ a b k) k (ed_new a b k) := by
  funext j
  show (if 0 ≤ j ∧ j < k + 1 then ed_new a b j else ρ j) = if j = k then ed_new a b k else if 0 ≤ j ∧ j < k then ed_new a b j else ρ j
  by_cases e1 : j = k
  · rw [if_pos e1, if_pos (by omega), e1]
  · rw [if_neg e1]
    by_cases e3 : 0 ≤ j ∧ j < k
    · rw [if_pos e3, if_pos (by omega)]
    · rw [if_neg e3, if_neg (by omega)]
theorem ed_z2_0 {ρ : ec_Sg} {a b : Int} : ed_z2 ρ a b 0 = ρ := by
  funext j
  exact if_neg (by omega)
theorem ed_new_v {a b k : Int} : ed_new a b k = if k = 0 then a else if k = 1 then b else if k = 7 then 5 else if k = 8 then 20 else 0 := by
  unfold ed_new
  by_cases e8 : k = 8
  · rw [ec_suE e8, if_neg (by omega), if_neg (by omega), if_neg (by omega), if_pos e8]
  · rw [ec_suN e8]
    by_cases e7 : k = 7
    · rw [ec_suE e7, if_neg (by omega), if_neg (by omega), if_pos e7]
    · rw [ec_suN e7]
      by_cases e1 : k = 1
      · rw [ec_suE e1, if_neg (by omega), if_pos e1]
      · rw [ec_suN e1]
        by_cases e0 : k = 0
        · rw [ec_suE e0, if_pos e0]
        · rw [ec_suN e0, if_neg e0, if_neg e1, if_neg e7, if_neg e8]
/-- rows that differ behind the borders, with nothing there -/
theorem ed_CL.cong {h : ec_Hp} {ρ τ : ec_Sg} {n : Int} {p : Int → ec_Sg} {L : Int} {T : Int → Int} (C : ed_CL h ρ n p L T) (e : ∀ j : Int, 0 ≤ j ∧ j < 107 → τ j = ρ j) (z : (ρ 2 = 0 ∧ ρ 3 = 0) ∧ ρ 4 = 0 ∧ ρ 5 = 0) : ed_CL h τ n p L T := by
  obtain ⟨c1, ⟨c2, ⟨r1, r2, r3, r4, r5, r6, r7⟩, w1, w2, w3, w4, w5, w6, w7, w8⟩, c3⟩ := C
  have e0 := e 0 (by omega)
  have e1 := e 1 (by omega)
  have e2 := e 2 (by omega)
  have e3 := e 3 (by omega)
  have e4 := e 4 (by omega)
  have e5 := e 5 (by omega)
  have e6 := e 6 (by omega)
  have e7 := e 7 (by omega)
  have e8 := e 8 (by omega)
  have e9 := e 9 (by omega)
  have e10 := e 10 (by omega)
  refine ⟨c1, ⟨c2, ⟨?_, ?_, ?_, ?_, ?_, ?_, ?_⟩, ?_, ?_, ?_, ?_, ?_, ?_, ?_, ?_⟩, c3⟩
  · rw [e0, e1, e6, e7, e8, e9, e10]; exact r1
  · rw [e2, e3, e4, e5]; exact r2
  · intro u d k hu hd hk
    rw [r3 u d k hu hd hk]
    congr 1
    unfold ed_bd
    by_cases y : ec_ing ρ u ∧ ec_hb ρ u d
    · have bp := ed_bp_rg hu y.2
      have y' : ec_ing τ u ∧ ec_hb τ u d := by
        unfold ec_ing ec_hb at y ⊢
        rw [e0, e1]
        exact y
      rw [if_pos y, if_pos y', e _ (by omega)]
    · have y' : ¬ (ec_ing τ u ∧ ec_hb τ u d) := by
        unfold ec_ing ec_hb at y ⊢
        rw [e0, e1]
        exact y
      rw [if_neg y, if_neg y']
  · intro a b k ha; omega
  · intro a k ha; omega
  · intro a k ha; omega
  · intro a k ha; omega
  · rw [e0, e1, e2, e3, e4, e5]; exact w1
  · unfold ec_ing at w2 ⊢; rw [e0, e1, e6, e7, e8, e9]; exact w2
  · intro u d hu hd hb
    have bp := ed_bp_rg hu.1 hb
    rw [e _ (by omega), e2]
    refine w3 u d ?_ hd ?_
    · unfold ec_ing at hu ⊢
      rw [e0, e1] at hu
      exact hu
    · unfold ec_hb at hb ⊢
      rw [e0, e1] at hb
      exact hb
  · intro a ha; omega
  · intro a ha; omega
  · intro a ha; omega
  · intro a ha; omega
  · intro a b ha; omega
section EDT
variable {h : ec_Hp} {σ : ec_Sg} {n : Int} {p : Int → ec_Sg} {T : Int → Int} {z : Int32} {v wy x y t s u : Int}
theorem ec_p129m : ∀ (m : Nat) (k : Int) (h : ec_Hp), ed_LD h → ed_LA h (ed_z1 σ k) → 0 ≤ k → k + m = 48 →
    ∃ h', ec_om 129 81 [.ref 0, .ref 72, .ref 73, .ref 74, .ref 75, .ref 76, .ref 77, .ref 78, .int z, .int (ec_i v), .int (ec_i wy), .int (ec_i x), .int (ec_i y), .int (ec_i t), .int (ec_i s), .int (ec_i u), .int (ec_i k)] [] h = ec_om 129 104 [.ref 0, .ref 72, .ref 73, .ref 74, .ref 75, .ref 76, .ref 77, .ref 78, .int z, .int (ec_i v), .int (ec_i wy), .int (ec_i x), .int (ec_i y), .int (ec_i t), .int (ec_i s), .int (ec_i u), .int (ec_i 48)] [] h' ∧ ed_LA h' (ed_z1 σ 48) ∧ ec_fg ed_my h h' := by
  intro m
  induction m with
  | zero =>
    intro k h hD hA h0 hk
    have hk : k = 48 := by omega
    subst hk
    refine ⟨h, ?_, hA, ec_fg.refl⟩
    rw [ec_s129_81]
    simp (disch := first | (simp only [ec_01z, ec_01o, ec_01q]; done) | omega | (refine ec_nzO ?_; omega)) only [ec_s129_83, ec_s129_85, ec_s129_88, ec_s129_89, ec_s129_91, ec_s129_92, ec_s129_93, ec_s129_94, ec_s129_96, ec_s129_97, ec_s129_98, ec_s129_101, ec_zn0, ec_zn1, ec_zn2, ec_zn3, ec_zn4, ec_zn5, ec_zn6, ec_zn7, ec_zn8, ec_zn9, ec_zn10, ec_zn12, ec_zn13, ec_zn14, ec_zn15, ec_zn16, ec_zn20, ec_zn30, ec_zn48, ec_zn99, ec_zn120, ec_zn127, ec_zn11, ec_zn31, ec_zn46, ec_zn57, ec_zn59, ec_zn63, ec_zn101, ec_zn107, ec_zn108, ec_zn110, ec_zn111, ec_zn115, ec_zn116, ec_zn119, ec_zn167, ec_zn185, ec_zn192, ec_zn215, ec_zn233, ec_zn699, ec_zn932, ec_zn999, ec_znF, ec_zneg, ec_zadd, ec_zsub, ec_zmul, ec_zdivO, ec_em, ec_zltO, ec_zeqO, ec_zeq0, ec_qt, ec_qf, if_pos, if_neg, Int.add_zero, ec_aft_v, ec_aft_n, ec_rwE, ec_rwN, ec_rwP, ec_rwK, ec_rwS, ec_w_shpI, ec_w_shpL, ec_w_shpA, ec_zn22, ec_zn24, ec_zn40, ec_zn45, ec_zn47, ec_zn96, ec_zn100, ec_zn384, ec_zn480, ec_zn960, ec_zn2001, ec_zn2002, ec_zn2003, ec_zn7919, ec_zn40503, ec_zn10000000, ec_zn2147483647]
  | succ m ih =>
    intro k h hD hA h0 hk
    have D0 := hD
    have L := (hA.w73 (z := k) (v := 0) (by omega)).w74 (z := k) (v := 0) (by omega)
    rw [← ed_z1_s (by omega)] at L
    obtain ⟨h', e1, e2, e3⟩ := ih (k + 1) _ (D0.of (by rfl)) L (by omega) (by omega)
    refine ⟨h', ?_, e2, ec_fg.trans ((ec_fg.refl.I (by exact ⟨by decide, by decide⟩)).I (by exact ⟨by decide, by decide⟩)) e3⟩
    unfold ed_LD at hD
    rw [ec_s129_81]
    simp (disch := first | (simp only [ec_w_kI, ec_w_kL, ec_w_kA, ec_w_shpI, ec_w_shpL, ec_w_shpA, ec_isR_r, ec_01z, ec_01o, ec_01q, hD]; done) | omega | (simp only [ec_w_shpI, ec_w_shpL, ec_w_shpA, hD]; refine ec_zinO ?_; omega) | (refine ec_nzO ?_; omega)) only [ec_s129_83, ec_s129_85, ec_s129_88, ec_s129_89, ec_s129_91, ec_s129_92, ec_s129_93, ec_s129_94, ec_s129_96, ec_s129_97, ec_s129_98, ec_s129_101, ec_zn0, ec_zn1, ec_zn2, ec_zn3, ec_zn4, ec_zn5, ec_zn6, ec_zn7, ec_zn8, ec_zn9, ec_zn10, ec_zn12, ec_zn13, ec_zn14, ec_zn15, ec_zn16, ec_zn20, ec_zn30, ec_zn48, ec_zn99, ec_zn120, ec_zn127, ec_zn11, ec_zn31, ec_zn46, ec_zn57, ec_zn59, ec_zn63, ec_zn101, ec_zn107, ec_zn108, ec_zn110, ec_zn111, ec_zn115, ec_zn116, ec_zn119, ec_zn167, ec_zn185, ec_zn192, ec_zn215, ec_zn233, ec_zn699, ec_zn932, ec_zn999, ec_znF, ec_zneg, ec_zadd, ec_zsub, ec_zmul, ec_zdivO, ec_em, ec_zltO, ec_zeqO, ec_zeq0, ec_qt, ec_qf, if_pos, if_neg, Int.add_zero, ec_aft_v, ec_aft_n, ec_rwE, ec_rwN, ec_rwP, ec_rwK, ec_rwS, ec_w_shpI, ec_w_shpL, ec_w_shpA, ec_zn22, ec_zn24, ec_zn40, ec_zn45, ec_zn47, ec_zn96, ec_zn100, ec_zn384, ec_zn480, ec_zn960, ec_zn2001, ec_zn2002, ec_zn2003, ec_zn7919, ec_zn40503, ec_zn10000000, ec_zn2147483647, hD, e1]
set_option maxHeartbeats 1000000 in
theorem ec_p129q {ρ : ec_Sg} (hv : 0 ≤ v ∧ v < 10000000) : ∀ (m : Nat) (k : Int) (h : ec_Hp), ed_LD h → ed_LA h (ed_z2 ρ (1 + v / 5 % 8) (1 + v / 40 % 6) k) → 0 ≤ k → k + m = 11 →
    ∃ h', ec_om 129 107 [.ref 0, .ref 72, .ref 73, .ref 74, .ref 75, .ref 76, .ref 77, .ref 78, .int z, .int (ec_i v), .int (ec_i wy), .int (ec_i x), .int (ec_i y), .int (ec_i t), .int (ec_i s), .int (ec_i u), .int (ec_i k)] [] h = ec_om 129 184 [.ref 0, .ref 72, .ref 73, .ref 74, .ref 75, .ref 76, .ref 77, .ref 78, .int z, .int (ec_i v), .int (ec_i wy), .int (ec_i x), .int (ec_i y), .int (ec_i t), .int (ec_i s), .int (ec_i u), .int (ec_i 11)] [] h' ∧ ed_LA h' (ed_z2 ρ (1 + v / 5 % 8) (1 + v / 40 % 6) 11) ∧ ec_fg ed_my h h' := by
  intro m
  induction m with
  | zero =>
    intro k h hD hA h0 hk
    have hk : k = 11 := by omega
    subst hk
    refine ⟨h, ?_, hA, ec_fg.refl⟩
    rw [ec_s129_107]
    simp (disch := first | (simp only [ec_01z, ec_01o, ec_01q]; done) | omega | (refine ec_nzO ?_; omega)) only [ec_s129_109, ec_s129_111, ec_s129_114, ec_s129_115, ec_s129_117, ec_s129_119, ec_s129_122, ec_s129_123, ec_s129_125, ec_s129_126, ec_s129_127, ec_s129_129, ec_s129_130, ec_s129_131, ec_s129_134, ec_s129_136, ec_s129_137, ec_s129_140, ec_s129_141, ec_s129_143, ec_s129_145, ec_s129_146, ec_s129_148, ec_s129_149, ec_s129_150, ec_s129_153, ec_s129_155, ec_s129_157, ec_s129_160, ec_s129_161, ec_s129_164, ec_s129_166, ec_s129_168, ec_s129_171, ec_s129_173, ec_s129_176, ec_s129_177, ec_s129_178, ec_s129_181, ec_zn0, ec_zn1, ec_zn2, ec_zn3, ec_zn4, ec_zn5, ec_zn6, ec_zn7, ec_zn8, ec_zn9, ec_zn10, ec_zn12, ec_zn13, ec_zn14, ec_zn15, ec_zn16, ec_zn20, ec_zn30, ec_zn48, ec_zn99, ec_zn120, ec_zn127, ec_zn11, ec_zn31, ec_zn46, ec_zn57, ec_zn59, ec_zn63, ec_zn101, ec_zn107, ec_zn108, ec_zn110, ec_zn111, ec_zn115, ec_zn116, ec_zn119, ec_zn167, ec_zn185, ec_zn192, ec_zn215, ec_zn233, ec_zn699, ec_zn932, ec_zn999, ec_znF, ec_zneg, ec_zadd, ec_zsub, ec_zmul, ec_zdivO, ec_em, ec_zltO, ec_zeqO, ec_zeq0, ec_qt, ec_qf, if_pos, if_neg, Int.add_zero, ec_aft_v, ec_aft_n, ec_rwE, ec_rwN, ec_rwP, ec_rwK, ec_rwS, ec_w_shpI, ec_w_shpL, ec_w_shpA, ec_zn22, ec_zn24, ec_zn40, ec_zn45, ec_zn47, ec_zn96, ec_zn100, ec_zn384, ec_zn480, ec_zn960, ec_zn2001, ec_zn2002, ec_zn2003, ec_zn7919, ec_zn40503, ec_zn10000000, ec_zn2147483647]
  | succ m ih =>
    intro k h hD hA h0 hk
    have D0 := hD
    have nv := ed_new_v (a := 1 + v / 5 % 8) (b := 1 + v / 40 % 6) (k := k)
    have L := hA.w72 (z := k) (v := ed_new (1 + v / 5 % 8) (1 + v / 40 % 6) k) (by omega)
    rw [← ed_z2_s h0] at L
    obtain ⟨h', e1, e2, e3⟩ := ih (k + 1) _ (D0.of (by rfl)) L (by omega) (by omega)
    refine ⟨h', ?_, e2, ec_fg.trans (ec_fg.refl.I (by exact ⟨by decide, by decide⟩)) e3⟩
    unfold ed_LD at hD
    rw [nv] at e1
    rw [ec_s129_107]
    by_cases k0 : k = 0
    · rw [if_pos k0] at e1
      simp (disch := first | (simp only [ec_w_kI, ec_w_kL, ec_w_kA, ec_w_shpI, ec_w_shpL, ec_w_shpA, ec_isR_r, ec_01z, ec_01o, ec_01q, hD]; done) | omega | (simp only [ec_w_shpI, ec_w_shpL, ec_w_shpA, hD]; refine ec_zinO ?_; omega) | (refine ec_nzO ?_; omega)) only [ec_s129_109, ec_s129_111, ec_s129_114, ec_s129_115, ec_s129_117, ec_s129_119, ec_s129_122, ec_s129_123, ec_s129_125, ec_s129_126, ec_s129_127, ec_s129_129, ec_s129_130, ec_s129_131, ec_s129_134, ec_s129_136, ec_s129_137, ec_s129_140, ec_s129_141, ec_s129_143, ec_s129_145, ec_s129_146, ec_s129_148, ec_s129_149, ec_s129_150, ec_s129_153, ec_s129_155, ec_s129_157, ec_s129_160, ec_s129_161, ec_s129_164, ec_s129_166, ec_s129_168, ec_s129_171, ec_s129_173, ec_s129_176, ec_s129_177, ec_s129_178, ec_s129_181, ec_zn0, ec_zn1, ec_zn2, ec_zn3, ec_zn4, ec_zn5, ec_zn6, ec_zn7, ec_zn8, ec_zn9, ec_zn10, ec_zn12, ec_zn13, ec_zn14, ec_zn15, ec_zn16, ec_zn20, ec_zn30, ec_zn48, ec_zn99, ec_zn120, ec_zn127, ec_zn11, ec_zn31, ec_zn46, ec_zn57, ec_zn59, ec_zn63, ec_zn101, ec_zn107, ec_zn108, ec_zn110, ec_zn111, ec_zn115, ec_zn116, ec_zn119, ec_zn167, ec_zn185, ec_zn192, ec_zn215, ec_zn233, ec_zn699, ec_zn932, ec_zn999, ec_znF, ec_zneg, ec_zadd, ec_zsub, ec_zmul, ec_zdivO, ec_em, ec_zltO, ec_zeqO, ec_zeq0, ec_qt, ec_qf, if_pos, if_neg, Int.add_zero, ec_aft_v, ec_aft_n, ec_rwE, ec_rwN, ec_rwP, ec_rwK, ec_rwS, ec_w_shpI, ec_w_shpL, ec_w_shpA, ec_zn22, ec_zn24, ec_zn40, ec_zn45, ec_zn47, ec_zn96, ec_zn100, ec_zn384, ec_zn480, ec_zn960, ec_zn2001, ec_zn2002, ec_zn2003, ec_zn7919, ec_zn40503, ec_zn10000000, ec_zn2147483647, hD, e1]
    · rw [if_neg k0] at e1
      by_cases k1 : k = 1
      · rw [if_pos k1] at e1
        simp (disch := first | (simp only [ec_w_kI, ec_w_kL, ec_w_kA, ec_w_shpI, ec_w_shpL, ec_w_shpA, ec_isR_r, ec_01z, ec_01o, ec_01q, hD]; done) | omega | (simp only [ec_w_shpI, ec_w_shpL, ec_w_shpA, hD]; refine ec_zinO ?_; omega) | (refine ec_nzO ?_; omega)) only [ec_s129_109, ec_s129_111, ec_s129_114, ec_s129_115, ec_s129_117, ec_s129_119, ec_s129_122, ec_s129_123, ec_s129_125, ec_s129_126, ec_s129_127, ec_s129_129, ec_s129_130, ec_s129_131, ec_s129_134, ec_s129_136, ec_s129_137, ec_s129_140, ec_s129_141, ec_s129_143, ec_s129_145, ec_s129_146, ec_s129_148, ec_s129_149, ec_s129_150, ec_s129_153, ec_s129_155, ec_s129_157, ec_s129_160, ec_s129_161, ec_s129_164, ec_s129_166, ec_s129_168, ec_s129_171, ec_s129_173, ec_s129_176, ec_s129_177, ec_s129_178, ec_s129_181, ec_zn0, ec_zn1, ec_zn2, ec_zn3, ec_zn4, ec_zn5, ec_zn6, ec_zn7, ec_zn8, ec_zn9, ec_zn10, ec_zn12, ec_zn13, ec_zn14, ec_zn15, ec_zn16, ec_zn20, ec_zn30, ec_zn48, ec_zn99, ec_zn120, ec_zn127, ec_zn11, ec_zn31, ec_zn46, ec_zn57, ec_zn59, ec_zn63, ec_zn101, ec_zn107, ec_zn108, ec_zn110, ec_zn111, ec_zn115, ec_zn116, ec_zn119, ec_zn167, ec_zn185, ec_zn192, ec_zn215, ec_zn233, ec_zn699, ec_zn932, ec_zn999, ec_znF, ec_zneg, ec_zadd, ec_zsub, ec_zmul, ec_zdivO, ec_em, ec_zltO, ec_zeqO, ec_zeq0, ec_qt, ec_qf, if_pos, if_neg, Int.add_zero, ec_aft_v, ec_aft_n, ec_rwE, ec_rwN, ec_rwP, ec_rwK, ec_rwS, ec_w_shpI, ec_w_shpL, ec_w_shpA, ec_zn22, ec_zn24, ec_zn40, ec_zn45, ec_zn47, ec_zn96, ec_zn100, ec_zn384, ec_zn480, ec_zn960, ec_zn2001, ec_zn2002, ec_zn2003, ec_zn7919, ec_zn40503, ec_zn10000000, ec_zn2147483647, hD, e1]
      · rw [if_neg k1] at e1
        by_cases k7 : k = 7
        · rw [if_pos k7] at e1
          simp (disch := first | (simp only [ec_w_kI, ec_w_kL, ec_w_kA, ec_w_shpI, ec_w_shpL, ec_w_shpA, ec_isR_r, ec_01z, ec_01o, ec_01q, hD]; done) | omega | (simp only [ec_w_shpI, ec_w_shpL, ec_w_shpA, hD]; refine ec_zinO ?_; omega) | (refine ec_nzO ?_; omega)) only [ec_s129_109, ec_s129_111, ec_s129_114, ec_s129_115, ec_s129_117, ec_s129_119, ec_s129_122, ec_s129_123, ec_s129_125, ec_s129_126, ec_s129_127, ec_s129_129, ec_s129_130, ec_s129_131, ec_s129_134, ec_s129_136, ec_s129_137, ec_s129_140, ec_s129_141, ec_s129_143, ec_s129_145, ec_s129_146, ec_s129_148, ec_s129_149, ec_s129_150, ec_s129_153, ec_s129_155, ec_s129_157, ec_s129_160, ec_s129_161, ec_s129_164, ec_s129_166, ec_s129_168, ec_s129_171, ec_s129_173, ec_s129_176, ec_s129_177, ec_s129_178, ec_s129_181, ec_zn0, ec_zn1, ec_zn2, ec_zn3, ec_zn4, ec_zn5, ec_zn6, ec_zn7, ec_zn8, ec_zn9, ec_zn10, ec_zn12, ec_zn13, ec_zn14, ec_zn15, ec_zn16, ec_zn20, ec_zn30, ec_zn48, ec_zn99, ec_zn120, ec_zn127, ec_zn11, ec_zn31, ec_zn46, ec_zn57, ec_zn59, ec_zn63, ec_zn101, ec_zn107, ec_zn108, ec_zn110, ec_zn111, ec_zn115, ec_zn116, ec_zn119, ec_zn167, ec_zn185, ec_zn192, ec_zn215, ec_zn233, ec_zn699, ec_zn932, ec_zn999, ec_znF, ec_zneg, ec_zadd, ec_zsub, ec_zmul, ec_zdivO, ec_em, ec_zltO, ec_zeqO, ec_zeq0, ec_qt, ec_qf, if_pos, if_neg, Int.add_zero, ec_aft_v, ec_aft_n, ec_rwE, ec_rwN, ec_rwP, ec_rwK, ec_rwS, ec_w_shpI, ec_w_shpL, ec_w_shpA, ec_zn22, ec_zn24, ec_zn40, ec_zn45, ec_zn47, ec_zn96, ec_zn100, ec_zn384, ec_zn480, ec_zn960, ec_zn2001, ec_zn2002, ec_zn2003, ec_zn7919, ec_zn40503, ec_zn10000000, ec_zn2147483647, hD, e1]
        · rw [if_neg k7] at e1
          by_cases k8 : k = 8
          · rw [if_pos k8] at e1
            simp (disch := first | (simp only [ec_w_kI, ec_w_kL, ec_w_kA, ec_w_shpI, ec_w_shpL, ec_w_shpA, ec_isR_r, ec_01z, ec_01o, ec_01q, hD]; done) | omega | (simp only [ec_w_shpI, ec_w_shpL, ec_w_shpA, hD]; refine ec_zinO ?_; omega) | (refine ec_nzO ?_; omega)) only [ec_s129_109, ec_s129_111, ec_s129_114, ec_s129_115, ec_s129_117, ec_s129_119, ec_s129_122, ec_s129_123, ec_s129_125, ec_s129_126, ec_s129_127, ec_s129_129, ec_s129_130, ec_s129_131, ec_s129_134, ec_s129_136, ec_s129_137, ec_s129_140, ec_s129_141, ec_s129_143, ec_s129_145, ec_s129_146, ec_s129_148, ec_s129_149, ec_s129_150, ec_s129_153, ec_s129_155, ec_s129_157, ec_s129_160, ec_s129_161, ec_s129_164, ec_s129_166, ec_s129_168, ec_s129_171, ec_s129_173, ec_s129_176, ec_s129_177, ec_s129_178, ec_s129_181, ec_zn0, ec_zn1, ec_zn2, ec_zn3, ec_zn4, ec_zn5, ec_zn6, ec_zn7, ec_zn8, ec_zn9, ec_zn10, ec_zn12, ec_zn13, ec_zn14, ec_zn15, ec_zn16, ec_zn20, ec_zn30, ec_zn48, ec_zn99, ec_zn120, ec_zn127, ec_zn11, ec_zn31, ec_zn46, ec_zn57, ec_zn59, ec_zn63, ec_zn101, ec_zn107, ec_zn108, ec_zn110, ec_zn111, ec_zn115, ec_zn116, ec_zn119, ec_zn167, ec_zn185, ec_zn192, ec_zn215, ec_zn233, ec_zn699, ec_zn932, ec_zn999, ec_znF, ec_zneg, ec_zadd, ec_zsub, ec_zmul, ec_zdivO, ec_em, ec_zltO, ec_zeqO, ec_zeq0, ec_qt, ec_qf, if_pos, if_neg, Int.add_zero, ec_aft_v, ec_aft_n, ec_rwE, ec_rwN, ec_rwP, ec_rwK, ec_rwS, ec_w_shpI, ec_w_shpL, ec_w_shpA, ec_zn22, ec_zn24, ec_zn40, ec_zn45, ec_zn47, ec_zn96, ec_zn100, ec_zn384, ec_zn480, ec_zn960, ec_zn2001, ec_zn2002, ec_zn2003, ec_zn7919, ec_zn40503, ec_zn10000000, ec_zn2147483647, hD, e1]
          · rw [if_neg k8] at e1
            simp (disch := first | (simp only [ec_w_kI, ec_w_kL, ec_w_kA, ec_w_shpI, ec_w_shpL, ec_w_shpA, ec_isR_r, ec_01z, ec_01o, ec_01q, hD]; done) | omega | (simp only [ec_w_shpI, ec_w_shpL, ec_w_shpA, hD]; refine ec_zinO ?_; omega) | (refine ec_nzO ?_; omega)) only [ec_s129_109, ec_s129_111, ec_s129_114, ec_s129_115, ec_s129_117, ec_s129_119, ec_s129_122, ec_s129_123, ec_s129_125, ec_s129_126, ec_s129_127, ec_s129_129, ec_s129_130, ec_s129_131, ec_s129_134, ec_s129_136, ec_s129_137, ec_s129_140, ec_s129_141, ec_s129_143, ec_s129_145, ec_s129_146, ec_s129_148, ec_s129_149, ec_s129_150, ec_s129_153, ec_s129_155, ec_s129_157, ec_s129_160, ec_s129_161, ec_s129_164, ec_s129_166, ec_s129_168, ec_s129_171, ec_s129_173, ec_s129_176, ec_s129_177, ec_s129_178, ec_s129_181, ec_zn0, ec_zn1, ec_zn2, ec_zn3, ec_zn4, ec_zn5, ec_zn6, ec_zn7, ec_zn8, ec_zn9, ec_zn10, ec_zn12, ec_zn13, ec_zn14, ec_zn15, ec_zn16, ec_zn20, ec_zn30, ec_zn48, ec_zn99, ec_zn120, ec_zn127, ec_zn11, ec_zn31, ec_zn46, ec_zn57, ec_zn59, ec_zn63, ec_zn101, ec_zn107, ec_zn108, ec_zn110, ec_zn111, ec_zn115, ec_zn116, ec_zn119, ec_zn167, ec_zn185, ec_zn192, ec_zn215, ec_zn233, ec_zn699, ec_zn932, ec_zn999, ec_znF, ec_zneg, ec_zadd, ec_zsub, ec_zmul, ec_zdivO, ec_em, ec_zltO, ec_zeqO, ec_zeq0, ec_qt, ec_qf, if_pos, if_neg, Int.add_zero, ec_aft_v, ec_aft_n, ec_rwE, ec_rwN, ec_rwP, ec_rwK, ec_rwS, ec_w_shpI, ec_w_shpL, ec_w_shpA, ec_zn22, ec_zn24, ec_zn40, ec_zn45, ec_zn47, ec_zn96, ec_zn100, ec_zn384, ec_zn480, ec_zn960, ec_zn2001, ec_zn2002, ec_zn2003, ec_zn7919, ec_zn40503, ec_zn10000000, ec_zn2147483647, hD, e1]
theorem ec_p129a (S : ed_ST h σ n p T) (hv : 0 ≤ v ∧ v < 10000000) (hw : wy = 0 ∧ v % 5 = 0) : ed_Ok h T (ec_om 129 60 [.ref 0, .ref 72, .ref 73, .ref 74, .ref 75, .ref 76, .ref 77, .ref 78, .int z, .int (ec_i v), .int (ec_i wy), .int (ec_i x), .int (ec_i y), .int (ec_i t), .int (ec_i s), .double 0, .double 0] [] h) := by
  have W := S.W
  have hD := S.2.1
  have hA := S.2.2.1
  have D0 := hD
  have A0 := hA
  have hw0 := hw.1
  have hw5 := hw.2
  subst hw0
  have s1 : ec_om 129 60 [.ref 0, .ref 72, .ref 73, .ref 74, .ref 75, .ref 76, .ref 77, .ref 78, .int z, .int (ec_i v), .int (ec_i 0), .int (ec_i x), .int (ec_i y), .int (ec_i t), .int (ec_i s), .double 0, .double 0] [] h = ec_om 129 81 [.ref 0, .ref 72, .ref 73, .ref 74, .ref 75, .ref 76, .ref 77, .ref 78, .int z, .int (ec_i v), .int (ec_i 0), .int (ec_i x), .int (ec_i y), .int (ec_i t), .int (ec_i s), .int (ec_i (σ 10)), .int (ec_i 0)] [] h := by
    unfold ed_LD at hD
    unfold ed_LA at hA
    simp (disch := first | (simp only [ec_w_kI, ec_w_kL, ec_w_kA, ec_w_shpI, ec_w_shpL, ec_w_shpA, ec_isR_r, ec_01z, ec_01o, ec_01q, hD]; done) | omega | (simp only [ec_w_shpI, ec_w_shpL, ec_w_shpA, hD]; refine ec_zinO ?_; omega) | (refine ec_nzO ?_; omega)) only [ec_s129_60, ec_s129_62, ec_s129_65, ec_s129_67, ec_s129_68, ec_s129_69, ec_s129_72, ec_s129_73, ec_s129_75, ec_s129_76, ec_s129_78, ec_s129_79, ec_zn0, ec_zn1, ec_zn2, ec_zn3, ec_zn4, ec_zn5, ec_zn6, ec_zn7, ec_zn8, ec_zn9, ec_zn10, ec_zn12, ec_zn13, ec_zn14, ec_zn15, ec_zn16, ec_zn20, ec_zn30, ec_zn48, ec_zn99, ec_zn120, ec_zn127, ec_zn11, ec_zn31, ec_zn46, ec_zn57, ec_zn59, ec_zn63, ec_zn101, ec_zn107, ec_zn108, ec_zn110, ec_zn111, ec_zn115, ec_zn116, ec_zn119, ec_zn167, ec_zn185, ec_zn192, ec_zn215, ec_zn233, ec_zn699, ec_zn932, ec_zn999, ec_znF, ec_zneg, ec_zadd, ec_zsub, ec_zmul, ec_zdivO, ec_em, ec_zltO, ec_zeqO, ec_zeq0, ec_qt, ec_qf, if_pos, if_neg, Int.add_zero, ec_aft_v, ec_aft_n, ec_rwE, ec_rwN, ec_rwP, ec_rwK, ec_rwS, ec_w_shpI, ec_w_shpL, ec_w_shpA, ec_zn22, ec_zn24, ec_zn40, ec_zn45, ec_zn47, ec_zn96, ec_zn100, ec_zn384, ec_zn480, ec_zn960, ec_zn2001, ec_zn2002, ec_zn2003, ec_zn7919, ec_zn40503, ec_zn10000000, ec_zn2147483647, hD, hA]
  have A1 : ed_LA h (ed_z1 σ 0) := by rw [ed_z1_0]; exact A0
  obtain ⟨h1, a1, a2, a3⟩ := ec_p129m (z := z) (v := v) (wy := 0) (x := x) (y := y) (t := t) (s := s) (u := σ 10) 48 0 h D0 A1 (by omega) (by omega)
  have D1 := D0.of a3.1.1
  have A2 : ed_LA h1 (ed_z2 (ed_z1 σ 48) (1 + v / 5 % 8) (1 + v / 40 % 6) 0) := by rw [ed_z2_0]; exact a2
  obtain ⟨h2, b1, b2, b3⟩ := ec_p129q (z := z) (wy := 0) (x := x) (y := y) (t := t) (s := s) (u := σ 10) hv 11 0 h1 D1 A2 (by omega) (by omega)
  have f : ec_fg ed_my h h2 := a3.trans b3
  have G : ed_gz ed_mz 0 h h2 := ed_gz.fg (S := ed_mz) f (fun _ _ u => u)
  have D2 := D0.gr G
  have C2 := S.1.mz D0.len G
  have ha : 1 ≤ 1 + v / 5 % 8 ∧ 1 + v / 5 % 8 ≤ 8 := by omega
  have hb : 1 ≤ 1 + v / 40 % 6 ∧ 1 + v / 40 % 6 ≤ 6 := by omega
  have te : ∀ j : Int, 0 ≤ j ∧ j < 107 → ed_z2 (ed_z1 σ 48) (1 + v / 5 % 8) (1 + v / 40 % 6) 11 j = ed_new (1 + v / 5 % 8) (1 + v / 40 % 6) j := fun j hj => by
    show (if 0 ≤ j ∧ j < 11 then ed_new (1 + v / 5 % 8) (1 + v / 40 % 6) j else ed_z1 σ 48 j) = _
    by_cases y : j < 11
    · rw [if_pos (by omega)]
    · rw [if_neg (by omega), ed_new_v, if_neg (by omega), if_neg (by omega), if_neg (by omega), if_neg (by omega)]
      exact if_pos (by omega)
  have n0 : ∀ k : Int, 2 ≤ k ∧ k ≤ 5 → ed_new (1 + v / 5 % 8) (1 + v / 40 % 6) k = 0 := fun k hk => by
    rw [ed_new_v, if_neg (by omega), if_neg (by omega), if_neg (by omega), if_neg (by omega)]
  obtain ⟨h3, c1, c2, c3⟩ := (ec_c71s C2 (a := 1 + v / 5 % 8) (b := 1 + v / 40 % 6) (by unfold ec_rg; omega) (by unfold ec_rg; omega)).1 ⟨ha, hb⟩
  have r1 := (ec_q130 C2.1.1.1).1 _ _ c1
  have c2' := c2.cong te ⟨⟨n0 2 (by omega), n0 3 (by omega)⟩, n0 4 (by omega), n0 5 (by omega)⟩
  have B : ed_L4 (ed_z2 (ed_z1 σ 48) (1 + v / 5 % 8) (1 + v / 40 % 6) 11) := by
    unfold ed_L4
    rw [te 2 (by omega), te 3 (by omega), te 4 (by omega), te 5 (by omega), n0 2 (by omega), n0 3 (by omega), n0 4 (by omega), n0 5 (by omega)]
    omega
  refine ed_Ok.mk ?_ G (by omega) D2 b2 B c2' c3
  have t0 : ed_z2 (ed_z1 σ 48) (1 + v / 5 % 8) (1 + v / 40 % 6) 11 0 = 1 + v / 5 % 8 := by rw [te 0 (by omega), ed_new_v, if_pos rfl]
  have t1 : ed_z2 (ed_z1 σ 48) (1 + v / 5 % 8) (1 + v / 40 % 6) 11 1 = 1 + v / 40 % 6 := by rw [te 1 (by omega), ed_new_v, if_neg (by omega), if_pos rfl]
  rw [s1, a1, ec_s129_104, ec_s129_105, ec_zn0, b1]
  have hD2 := D2
  have hA2 := b2
  unfold ed_LD at hD2
  unfold ed_LA at hA2
  have hD := hD2
  simp (disch := first | (simp only [ec_w_kI, ec_w_kL, ec_w_kA, ec_w_shpI, ec_w_shpL, ec_w_shpA, ec_isR_r, ec_01z, ec_01o, ec_01q, hD]; done) | omega | (simp only [ec_w_shpI, ec_w_shpL, ec_w_shpA, hD]; refine ec_zinO ?_; omega) | (refine ec_nzO ?_; omega)) only [ec_s129_184, ec_s129_185, ec_s129_186, ec_s129_187, ec_s129_188, ec_s129_189, ec_s129_190, ec_s129_191, ec_s129_194, ec_s129_196, ec_s129_199, ec_s129_200, ec_s129_203, ec_s129_204, ec_zn0, ec_zn1, ec_zn2, ec_zn3, ec_zn4, ec_zn5, ec_zn6, ec_zn7, ec_zn8, ec_zn9, ec_zn10, ec_zn12, ec_zn13, ec_zn14, ec_zn15, ec_zn16, ec_zn20, ec_zn30, ec_zn48, ec_zn99, ec_zn120, ec_zn127, ec_zn11, ec_zn31, ec_zn46, ec_zn57, ec_zn59, ec_zn63, ec_zn101, ec_zn107, ec_zn108, ec_zn110, ec_zn111, ec_zn115, ec_zn116, ec_zn119, ec_zn167, ec_zn185, ec_zn192, ec_zn215, ec_zn233, ec_zn699, ec_zn932, ec_zn999, ec_znF, ec_zneg, ec_zadd, ec_zsub, ec_zmul, ec_zdivO, ec_em, ec_zltO, ec_zeqO, ec_zeq0, ec_qt, ec_qf, if_pos, if_neg, Int.add_zero, ec_aft_v, ec_aft_n, ec_rwE, ec_rwN, ec_rwP, ec_rwK, ec_rwS, ec_w_shpI, ec_w_shpL, ec_w_shpA, ec_zn22, ec_zn24, ec_zn40, ec_zn45, ec_zn47, ec_zn96, ec_zn100, ec_zn384, ec_zn480, ec_zn960, ec_zn2001, ec_zn2002, ec_zn2003, ec_zn7919, ec_zn40503, ec_zn10000000, ec_zn2147483647, hD, hA2, t0, t1, r1, reduceIte]
/-- a call that changes -/
theorem ec_p129 (S : ed_ST h σ n p T) (z : Int32) : ed_Ok h T (ec_om 129 0 [.ref 0, .ref 72, .ref 73, .ref 74, .ref 75, .ref 76, .ref 77, .ref 78, .int z, .double 0, .double 0, .double 0, .double 0, .double 0, .double 0, .double 0, .double 0] [] h) := by
  have w := S.W.1
  obtain ⟨v, wy, hv, hw, e⟩ := ec_p129s S z
  rw [e]
  have hq : ed_qc σ (v % σ 0) (v / 8 % σ 1) := ⟨⟨Int.emod_nonneg _ (by omega), Int.emod_lt_of_pos _ (by omega)⟩, Int.emod_nonneg _ (by omega), Int.emod_lt_of_pos _ (by omega)⟩
  have hs : 1 + v / 48 % 2 = 1 ∨ 1 + v / 48 % 2 = 2 := by omega
  by_cases q0 : wy = 0 ∧ v % 5 = 0
  · exact ec_p129a S hv q0
  · by_cases q1 : wy < 8
    · exact ec_p129b S hv ⟨hw.1, q1⟩ q0 hq rfl hs
    · by_cases q2 : wy = 8
      · exact ec_p129c S hv q2
      · by_cases q3 : wy = 9
        · exact ec_p129d S hv q3 hq rfl
        · by_cases q4 : wy < 12
          · exact ec_p129e S hv ⟨by omega, q4⟩ hq rfl
          · by_cases q5 : wy = 12
            · exact ec_p129f S hv q5 hq rfl
            · by_cases q6 : wy = 13
              · exact ec_p129g S hv q6 hq rfl
              · exact ec_p129h S hv ⟨by omega, hw.2⟩
end EDT
