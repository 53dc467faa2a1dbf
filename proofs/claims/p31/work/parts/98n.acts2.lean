/-! The law's calls that change: doors, torches, monsters, traps, the hero, an action, a new dungeon. -/
section EDQ
variable {h : ec_Hp} {σ : ec_Sg} {n : Int} {p : Int → ec_Sg} {T : Int → Int} {z : Int32} {v wy x y t s : Int}
theorem ec_p129c (S : ed_ST h σ n p T) (hv : 0 ≤ v ∧ v < 10000000) (hw : wy = 8) : ed_Ok h T (ec_om 129 60 [.ref 0, .ref 72, .ref 73, .ref 74, .ref 75, .ref 76, .ref 77, .ref 78, .int z, .int (ec_i v), .int (ec_i wy), .int (ec_i x), .int (ec_i y), .int (ec_i t), .int (ec_i s), .double 0, .double 0] [] h) := by
  have W := S.W
  have w := W.1
  have hB := S.2.2.2
  have hD := S.2.1
  have hA := S.2.2.1
  have D0 := hD
  have A0 := hA
  have hB0 := hB
  subst hw
  unfold ed_L4 at hB
  unfold ed_LD at hD
  unfold ed_LA at hA
  by_cases h2 : σ 2 = 0
  · have k1 : ed_kSd σ 0 1 = 1 := by unfold ed_kSd; rw [if_neg (by omega)]
    have c1 := (ec_c74s S.1 (d := 0) (v := 1) (by unfold ec_rg; omega) (by unfold ec_rg; omega)).2 (by rw [k1]; decide)
    rw [k1] at c1
    have r1 := (ec_q133 S.k).2.1 c1
    have G1 : ed_gz (fun _ => False) 1 h (ec_thw h) := ed_gz.thw
    refine ⟨_, σ, n, p, ?_, S.gr G1 (fun _ _ u => u), (G1.mono (T := fun x => x ≤ 78) (fun _ _ u => u.elim)).up (by omega)⟩
    simp (disch := first | (simp only [ec_w_kI, ec_w_kL, ec_w_kA, ec_w_shpI, ec_w_shpL, ec_w_shpA, ec_isR_r, ec_01z, ec_01o, ec_01q, hD]; done) | omega | (simp only [ec_w_shpI, ec_w_shpL, ec_w_shpA, hD]; refine ec_zinO ?_; omega) | (refine ec_nzO ?_; omega)) only [ec_s129_60, ec_s129_62, ec_s129_65, ec_s129_67, ec_s129_68, ec_s129_69, ec_s129_205, ec_s129_207, ec_s129_209, ec_s129_540, ec_s129_542, ec_s129_544, ec_s129_547, ec_s129_548, ec_s129_549, ec_s129_550, ec_s129_553, ec_s129_554, ec_s129_555, ec_s129_556, ec_s129_559, ec_s129_562, ec_s129_565, ec_s129_566, ec_s129_569, ec_s129_570, ec_zn0, ec_zn1, ec_zn2, ec_zn3, ec_zn4, ec_zn5, ec_zn6, ec_zn7, ec_zn8, ec_zn9, ec_zn10, ec_zn12, ec_zn13, ec_zn14, ec_zn15, ec_zn16, ec_zn20, ec_zn30, ec_zn48, ec_zn99, ec_zn120, ec_zn127, ec_zn11, ec_zn31, ec_zn46, ec_zn57, ec_zn59, ec_zn63, ec_zn101, ec_zn107, ec_zn108, ec_zn110, ec_zn111, ec_zn115, ec_zn116, ec_zn119, ec_zn167, ec_zn185, ec_zn192, ec_zn215, ec_zn233, ec_zn699, ec_zn932, ec_zn999, ec_znF, ec_zneg, ec_zadd, ec_zsub, ec_zmul, ec_zdivO, ec_em, ec_zltO, ec_zeqO, ec_zeq0, ec_qt, ec_qf, if_pos, if_neg, Int.add_zero, ec_aft_v, ec_aft_n, ec_rwE, ec_rwN, ec_rwP, ec_rwK, ec_rwS, ec_w_shpI, ec_w_shpL, ec_w_shpA, ec_zn22, ec_zn24, ec_zn40, ec_zn45, ec_zn47, ec_zn96, ec_zn100, ec_zn384, ec_zn480, ec_zn960, ec_zn2001, ec_zn2002, ec_zn2003, ec_zn7919, ec_zn40503, ec_zn10000000, ec_zn2147483647, hD, hA, h2, r1, reduceIte]
  · have hk : 0 ≤ v % σ 2 ∧ v % σ 2 < σ 2 := ⟨Int.emod_nonneg _ (by omega), Int.emod_lt_of_pos _ (by omega)⟩
    have hs2 : 0 ≤ v / 4 % 3 ∧ v / 4 % 3 ≤ 2 := by omega
    obtain ⟨h1, b1, b2, b3⟩ := ec_p126 D0 A0 W hB0 hk hs2
    have f1 : ec_fg ed_my h h1 := b3.mono (fun q j u => by have u : q = 75 := u; show 72 ≤ q ∧ q ≤ 78; omega)
    have G1 : ed_gz ed_mz 0 h h1 := ed_gz.fg (S := ed_mz) f1 (fun _ _ u => u)
    have D1 := D0.gr G1
    have C1 := S.1.mz D0.len G1
    have k1 : ed_kSd σ (v % σ 2) (v / 4 % 3) = 0 := by unfold ed_kSd; rw [if_pos hk, if_pos hs2]
    obtain ⟨h2', c1, c2, c3⟩ := (ec_c74s C1 (d := v % σ 2) (v := v / 4 % 3) (by unfold ec_rg; omega) (by unfold ec_rg; omega)).1 k1
    have r1 := (ec_q133 C1.1.1.1).1 _ _ c1
    have p4 : ∀ c : Int, c < 107 → ed_puts σ (v % σ 2) (v / 4 % 3) c = σ c := fun c hc => ed_4_puts (by omega) hc
    have tv : ed_puts σ (v % σ 2) (v / 4 % 3) (107 + 6 * (v % σ 2)) = v / 4 % 3 := by unfold ed_puts; rw [ec_suN (by omega), ec_suE rfl]
    refine ed_Ok.mk ?_ G1 (by omega) D1 b2 (hB0.of (p4 _ (by omega)) (p4 _ (by omega)) (p4 _ (by omega)) (p4 _ (by omega))) c2 c3
    have hD1 := D1
    have hA1 := b2
    unfold ed_LD at hD1
    unfold ed_LA at hA1
    have hD := And.intro hD hD1
    have vm : v % σ 2 = v - v / σ 2 * σ 2 := ec_em.symm
    generalize hk' : v % σ 2 = k at hk b1 r1 tv
    simp (disch := first | (simp only [ec_w_kI, ec_w_kL, ec_w_kA, ec_w_shpI, ec_w_shpL, ec_w_shpA, ec_isR_r, ec_01z, ec_01o, ec_01q, hD]; done) | omega | (simp only [ec_w_shpI, ec_w_shpL, ec_w_shpA, hD]; refine ec_zinO ?_; omega) | (refine ec_nzO ?_; omega)) only [ec_s129_60, ec_s129_62, ec_s129_65, ec_s129_67, ec_s129_68, ec_s129_69, ec_s129_205, ec_s129_207, ec_s129_209, ec_s129_540, ec_s129_542, ec_s129_544, ec_s129_547, ec_s129_548, ec_s129_549, ec_s129_550, ec_s129_571, ec_s129_573, ec_s129_574, ec_s129_575, ec_s129_576, ec_s129_577, ec_s129_579, ec_s129_581, ec_s129_583, ec_s129_585, ec_s129_586, ec_s129_587, ec_s129_589, ec_s129_591, ec_s129_593, ec_s129_595, ec_s129_596, ec_s129_597, ec_s129_598, ec_s129_599, ec_s129_602, ec_s129_603, ec_s129_605, ec_s129_607, ec_s129_609, ec_s129_611, ec_s129_612, ec_s129_613, ec_s129_616, ec_s129_618, ec_s129_621, ec_s129_622, ec_s129_625, ec_s129_626, ec_zn0, ec_zn1, ec_zn2, ec_zn3, ec_zn4, ec_zn5, ec_zn6, ec_zn7, ec_zn8, ec_zn9, ec_zn10, ec_zn12, ec_zn13, ec_zn14, ec_zn15, ec_zn16, ec_zn20, ec_zn30, ec_zn48, ec_zn99, ec_zn120, ec_zn127, ec_zn11, ec_zn31, ec_zn46, ec_zn57, ec_zn59, ec_zn63, ec_zn101, ec_zn107, ec_zn108, ec_zn110, ec_zn111, ec_zn115, ec_zn116, ec_zn119, ec_zn167, ec_zn185, ec_zn192, ec_zn215, ec_zn233, ec_zn699, ec_zn932, ec_zn999, ec_znF, ec_zneg, ec_zadd, ec_zsub, ec_zmul, ec_zdivO, ec_em, ec_zltO, ec_zeqO, ec_zeq0, ec_qt, ec_qf, if_pos, if_neg, Int.add_zero, ec_aft_v, ec_aft_n, ec_rwE, ec_rwN, ec_rwP, ec_rwK, ec_rwS, ec_w_shpI, ec_w_shpL, ec_w_shpA, ec_zn22, ec_zn24, ec_zn40, ec_zn45, ec_zn47, ec_zn96, ec_zn100, ec_zn384, ec_zn480, ec_zn960, ec_zn2001, ec_zn2002, ec_zn2003, ec_zn7919, ec_zn40503, ec_zn10000000, ec_zn2147483647, hD, hA, hA1, hk', b1, tv, r1, reduceIte]
theorem ec_p129d (S : ed_ST h σ n p T) (hv : 0 ≤ v ∧ v < 10000000) (hw : wy = 9) (hq : ed_qc σ x y) (ht : t = 8 * y + x) : ed_Ok h T (ec_om 129 60 [.ref 0, .ref 72, .ref 73, .ref 74, .ref 75, .ref 76, .ref 77, .ref 78, .int z, .int (ec_i v), .int (ec_i wy), .int (ec_i x), .int (ec_i y), .int (ec_i t), .int (ec_i s), .double 0, .double 0] [] h) := by
  have W := S.W
  have w := W.1
  have hB := S.2.2.2
  have hD := S.2.1
  have hA := S.2.2.1
  have D0 := hD
  have A0 := hA
  have hB0 := hB
  have rx : ec_rg x := by unfold ed_qc at hq; unfold ec_rg; omega
  have ry : ec_rg y := by unfold ed_qc at hq; unfold ec_rg; omega
  subst hw
  unfold ed_L4 at hB
  unfold ed_LD at hD
  unfold ed_LA at hA
  by_cases h2 : σ 3 = 3
  · have k1 : ed_kAt σ x y 100 = 2 := by unfold ed_kAt; rw [if_pos hq, if_neg (by omega)]
    have c1 := (ec_c75s S.1 rx ry (f := 100) (by unfold ec_rg; omega)).2 (by rw [k1]; decide)
    rw [k1] at c1
    have r1 := (ec_q134 S.k).2.2.1 c1
    have G1 : ed_gz (fun _ => False) 1 h (ec_thw h) := ed_gz.thw
    refine ⟨_, σ, n, p, ?_, S.gr G1 (fun _ _ u => u), (G1.mono (T := fun x => x ≤ 78) (fun _ _ u => u.elim)).up (by omega)⟩
    simp (disch := first | (simp only [ec_w_kI, ec_w_kL, ec_w_kA, ec_w_shpI, ec_w_shpL, ec_w_shpA, ec_isR_r, ec_01z, ec_01o, ec_01q, hD]; done) | omega | (simp only [ec_w_shpI, ec_w_shpL, ec_w_shpA, hD]; refine ec_zinO ?_; omega) | (refine ec_nzO ?_; omega)) only [ec_s129_60, ec_s129_62, ec_s129_65, ec_s129_67, ec_s129_68, ec_s129_69, ec_s129_205, ec_s129_207, ec_s129_209, ec_s129_540, ec_s129_542, ec_s129_544, ec_s129_627, ec_s129_629, ec_s129_631, ec_s129_634, ec_s129_635, ec_s129_636, ec_s129_637, ec_s129_638, ec_s129_641, ec_s129_642, ec_s129_644, ec_s129_646, ec_s129_648, ec_s129_651, ec_s129_654, ec_s129_657, ec_s129_658, ec_s129_661, ec_s129_662, ec_zn0, ec_zn1, ec_zn2, ec_zn3, ec_zn4, ec_zn5, ec_zn6, ec_zn7, ec_zn8, ec_zn9, ec_zn10, ec_zn12, ec_zn13, ec_zn14, ec_zn15, ec_zn16, ec_zn20, ec_zn30, ec_zn48, ec_zn99, ec_zn120, ec_zn127, ec_zn11, ec_zn31, ec_zn46, ec_zn57, ec_zn59, ec_zn63, ec_zn101, ec_zn107, ec_zn108, ec_zn110, ec_zn111, ec_zn115, ec_zn116, ec_zn119, ec_zn167, ec_zn185, ec_zn192, ec_zn215, ec_zn233, ec_zn699, ec_zn932, ec_zn999, ec_znF, ec_zneg, ec_zadd, ec_zsub, ec_zmul, ec_zdivO, ec_em, ec_zltO, ec_zeqO, ec_zeq0, ec_qt, ec_qf, if_pos, if_neg, Int.add_zero, ec_aft_v, ec_aft_n, ec_rwE, ec_rwN, ec_rwP, ec_rwK, ec_rwS, ec_w_shpI, ec_w_shpL, ec_w_shpA, ec_zn22, ec_zn24, ec_zn40, ec_zn45, ec_zn47, ec_zn96, ec_zn100, ec_zn384, ec_zn480, ec_zn960, ec_zn2001, ec_zn2002, ec_zn2003, ec_zn7919, ec_zn40503, ec_zn10000000, ec_zn2147483647, hD, hA, h2, r1, reduceIte]
  · have hf : 0 ≤ v / 96 % 9 ∧ v / 96 % 9 ≤ 8 := by omega
    have e1 : 167 + 3 * σ 3 + 1 = 167 + (3 * σ 3 + 1) := by omega
    have e2 : 167 + 3 * σ 3 + 2 = 167 + (3 * σ 3 + 2) := by omega
    have L := (((A0.w76 (z := 3 * σ 3) (v := t) (by omega)).w76 (z := 3 * σ 3 + 1) (v := v / 96 % 9) (by omega)).w76 (z := 3 * σ 3 + 2) (v := if 0 < v / 96 % 9 then 1 else 0) (by omega)).w72 (z := 3) (v := σ 3 + 1) (by omega)
    have ea : ed_ato σ t (v / 96 % 9) = ec_su (ec_su (ec_su (ec_su σ (167 + 3 * σ 3) t) (167 + (3 * σ 3 + 1)) (v / 96 % 9)) (167 + (3 * σ 3 + 2)) (if 0 < v / 96 % 9 then 1 else 0)) 3 (σ 3 + 1) := by
      unfold ed_ato
      rw [e1, e2]
    rw [← ea] at L
    have B1 : ed_L4 (ed_ato σ t (v / 96 % 9)) := by
      unfold ed_L4 ed_ato
      simp (disch := omega) only [ec_suN, ec_suE]
      omega
    have t1 : ed_ato σ t (v / 96 % 9) (167 + (3 * σ 3 + 1)) = v / 96 % 9 := by unfold ed_ato; simp (disch := omega) only [ec_suN, ec_suE]
    have t3 : ed_ato σ t (v / 96 % 9) 3 = σ 3 + 1 := ec_suE rfl
    have k1 : ed_kAt σ x y (v / 96 % 9) = 0 := by unfold ed_kAt; rw [if_pos hq, if_pos (by omega), if_neg (by omega)]
    generalize eh : ec_setI (ec_setI (ec_setI (ec_setI h 76 (ec_i (3 * σ 3)).toNatClampNeg (ec_i t)) 76 (ec_i (3 * σ 3 + 1)).toNatClampNeg (ec_i (v / 96 % 9))) 76 (ec_i (3 * σ 3 + 2)).toNatClampNeg (ec_i (if 0 < v / 96 % 9 then 1 else 0))) 72 (ec_i 3).toNatClampNeg (ec_i (σ 3 + 1)) = h1 at L
    have f1 : ec_fg ed_my h h1 := by rw [← eh]; exact (((ec_fg.refl.I (by exact ⟨by decide, by decide⟩)).I (by exact ⟨by decide, by decide⟩)).I (by exact ⟨by decide, by decide⟩)).I (by exact ⟨by decide, by decide⟩)
    have G1 : ed_gz ed_mz 0 h h1 := ed_gz.fg (S := ed_mz) f1 (fun _ _ u => u)
    have D1 := D0.gr G1
    have C1 := S.1.mz D0.len G1
    obtain ⟨h2', c1, c2, c3⟩ := (ec_c75s C1 rx ry (f := v / 96 % 9) (by unfold ec_rg; omega)).1 k1
    have r1 := (ec_q134 C1.1.1.1).1 _ _ c1
    rw [← ht] at c2
    have S2 := ed_ST.c D1 L B1 c2 c3
    refine ed_Ok.mk ?_ G1 (by omega) D1 L B1 c2 c3
    have zz : 0 ≤ t ∧ t < 48 := by unfold ed_qc at hq; omega
    have s1 : ec_om 129 60 [.ref 0, .ref 72, .ref 73, .ref 74, .ref 75, .ref 76, .ref 77, .ref 78, .int z, .int (ec_i v), .int (ec_i 9), .int (ec_i x), .int (ec_i y), .int (ec_i t), .int (ec_i s), .double 0, .double 0] [] h = ec_om 129 721 [.ref 0, .ref 72, .ref 73, .ref 74, .ref 75, .ref 76, .ref 77, .ref 78, .int z, .int (ec_i v), .int (ec_i 9), .int (ec_i x), .int (ec_i y), .int (ec_i t), .int (ec_i s), .int (ec_i (3 * σ 3)), .double 0] [] h1 := by
      rw [← eh]
      by_cases q : 0 < v / 96 % 9
      · rw [if_pos q]
        simp (disch := first | (simp only [ec_w_kI, ec_w_kL, ec_w_kA, ec_w_shpI, ec_w_shpL, ec_w_shpA, ec_isR_r, ec_01z, ec_01o, ec_01q, hD]; done) | omega | (simp only [ec_w_shpI, ec_w_shpL, ec_w_shpA, hD]; refine ec_zinO ?_; omega) | (refine ec_nzO ?_; omega)) only [ec_s129_60, ec_s129_62, ec_s129_65, ec_s129_67, ec_s129_68, ec_s129_69, ec_s129_205, ec_s129_207, ec_s129_209, ec_s129_540, ec_s129_542, ec_s129_544, ec_s129_627, ec_s129_629, ec_s129_631, ec_s129_634, ec_s129_635, ec_s129_636, ec_s129_637, ec_s129_638, ec_s129_663, ec_s129_664, ec_s129_665, ec_s129_666, ec_s129_667, ec_s129_668, ec_s129_670, ec_s129_672, ec_s129_674, ec_s129_676, ec_s129_677, ec_s129_679, ec_s129_681, ec_s129_682, ec_s129_683, ec_s129_685, ec_s129_687, ec_s129_688, ec_s129_690, ec_s129_691, ec_s129_692, ec_s129_694, ec_s129_696, ec_s129_697, ec_s129_698, ec_s129_700, ec_s129_702, ec_s129_703, ec_s129_704, ec_s129_705, ec_s129_708, ec_s129_709, ec_s129_712, ec_s129_713, ec_s129_714, ec_s129_715, ec_s129_716, ec_s129_717, ec_s129_718, ec_s129_719, ec_s129_720, ec_zn0, ec_zn1, ec_zn2, ec_zn3, ec_zn4, ec_zn5, ec_zn6, ec_zn7, ec_zn8, ec_zn9, ec_zn10, ec_zn12, ec_zn13, ec_zn14, ec_zn15, ec_zn16, ec_zn20, ec_zn30, ec_zn48, ec_zn99, ec_zn120, ec_zn127, ec_zn11, ec_zn31, ec_zn46, ec_zn57, ec_zn59, ec_zn63, ec_zn101, ec_zn107, ec_zn108, ec_zn110, ec_zn111, ec_zn115, ec_zn116, ec_zn119, ec_zn167, ec_zn185, ec_zn192, ec_zn215, ec_zn233, ec_zn699, ec_zn932, ec_zn999, ec_znF, ec_zneg, ec_zadd, ec_zsub, ec_zmul, ec_zdivO, ec_em, ec_zltO, ec_zeqO, ec_zeq0, ec_qt, ec_qf, if_pos, if_neg, Int.add_zero, ec_aft_v, ec_aft_n, ec_rwE, ec_rwN, ec_rwP, ec_rwK, ec_rwS, ec_w_shpI, ec_w_shpL, ec_w_shpA, ec_zn22, ec_zn24, ec_zn40, ec_zn45, ec_zn47, ec_zn96, ec_zn100, ec_zn384, ec_zn480, ec_zn960, ec_zn2001, ec_zn2002, ec_zn2003, ec_zn7919, ec_zn40503, ec_zn10000000, ec_zn2147483647, hD, hA]
      · rw [if_neg q]
        simp (disch := first | (simp only [ec_w_kI, ec_w_kL, ec_w_kA, ec_w_shpI, ec_w_shpL, ec_w_shpA, ec_isR_r, ec_01z, ec_01o, ec_01q, hD]; done) | omega | (simp only [ec_w_shpI, ec_w_shpL, ec_w_shpA, hD]; refine ec_zinO ?_; omega) | (refine ec_nzO ?_; omega)) only [ec_s129_60, ec_s129_62, ec_s129_65, ec_s129_67, ec_s129_68, ec_s129_69, ec_s129_205, ec_s129_207, ec_s129_209, ec_s129_540, ec_s129_542, ec_s129_544, ec_s129_627, ec_s129_629, ec_s129_631, ec_s129_634, ec_s129_635, ec_s129_636, ec_s129_637, ec_s129_638, ec_s129_663, ec_s129_664, ec_s129_665, ec_s129_666, ec_s129_667, ec_s129_668, ec_s129_670, ec_s129_672, ec_s129_674, ec_s129_676, ec_s129_677, ec_s129_679, ec_s129_681, ec_s129_682, ec_s129_683, ec_s129_685, ec_s129_687, ec_s129_688, ec_s129_690, ec_s129_691, ec_s129_692, ec_s129_694, ec_s129_696, ec_s129_697, ec_s129_698, ec_s129_700, ec_s129_702, ec_s129_703, ec_s129_704, ec_s129_705, ec_s129_708, ec_s129_709, ec_s129_712, ec_s129_713, ec_s129_714, ec_s129_715, ec_s129_716, ec_s129_717, ec_s129_718, ec_s129_719, ec_s129_720, ec_zn0, ec_zn1, ec_zn2, ec_zn3, ec_zn4, ec_zn5, ec_zn6, ec_zn7, ec_zn8, ec_zn9, ec_zn10, ec_zn12, ec_zn13, ec_zn14, ec_zn15, ec_zn16, ec_zn20, ec_zn30, ec_zn48, ec_zn99, ec_zn120, ec_zn127, ec_zn11, ec_zn31, ec_zn46, ec_zn57, ec_zn59, ec_zn63, ec_zn101, ec_zn107, ec_zn108, ec_zn110, ec_zn111, ec_zn115, ec_zn116, ec_zn119, ec_zn167, ec_zn185, ec_zn192, ec_zn215, ec_zn233, ec_zn699, ec_zn932, ec_zn999, ec_znF, ec_zneg, ec_zadd, ec_zsub, ec_zmul, ec_zdivO, ec_em, ec_zltO, ec_zeqO, ec_zeq0, ec_qt, ec_qf, if_pos, if_neg, Int.add_zero, ec_aft_v, ec_aft_n, ec_rwE, ec_rwN, ec_rwP, ec_rwK, ec_rwS, ec_w_shpI, ec_w_shpL, ec_w_shpA, ec_zn22, ec_zn24, ec_zn40, ec_zn45, ec_zn47, ec_zn96, ec_zn100, ec_zn384, ec_zn480, ec_zn960, ec_zn2001, ec_zn2002, ec_zn2003, ec_zn7919, ec_zn40503, ec_zn10000000, ec_zn2147483647, hD, hA]
    have hD1 := D1
    have hA1 := L
    have hD2 := S2.2.1
    have hA2 := S2.2.2.1
    unfold ed_LD at hD1 hD2
    unfold ed_LA at hA1 hA2
    have hD := And.intro hD1 hD2
    have e6 : σ 3 + 1 - 1 = σ 3 := by omega
    rw [s1]
    simp (disch := first | (simp only [ec_w_kI, ec_w_kL, ec_w_kA, ec_w_shpI, ec_w_shpL, ec_w_shpA, ec_isR_r, ec_01z, ec_01o, ec_01q, hD]; done) | omega | (simp only [ec_w_shpI, ec_w_shpL, ec_w_shpA, hD]; refine ec_zinO ?_; omega) | (refine ec_nzO ?_; omega)) only [ec_s129_721, ec_s129_722, ec_s129_724, ec_s129_726, ec_s129_728, ec_s129_730, ec_s129_731, ec_s129_732, ec_s129_733, ec_s129_736, ec_s129_737, ec_s129_738, ec_s129_739, ec_s129_740, ec_s129_741, ec_s129_744, ec_s129_745, ec_s129_748, ec_s129_749, ec_zn0, ec_zn1, ec_zn2, ec_zn3, ec_zn4, ec_zn5, ec_zn6, ec_zn7, ec_zn8, ec_zn9, ec_zn10, ec_zn12, ec_zn13, ec_zn14, ec_zn15, ec_zn16, ec_zn20, ec_zn30, ec_zn48, ec_zn99, ec_zn120, ec_zn127, ec_zn11, ec_zn31, ec_zn46, ec_zn57, ec_zn59, ec_zn63, ec_zn101, ec_zn107, ec_zn108, ec_zn110, ec_zn111, ec_zn115, ec_zn116, ec_zn119, ec_zn167, ec_zn185, ec_zn192, ec_zn215, ec_zn233, ec_zn699, ec_zn932, ec_zn999, ec_znF, ec_zneg, ec_zadd, ec_zsub, ec_zmul, ec_zdivO, ec_em, ec_zltO, ec_zeqO, ec_zeq0, ec_qt, ec_qf, if_pos, if_neg, Int.add_zero, ec_aft_v, ec_aft_n, ec_rwE, ec_rwN, ec_rwP, ec_rwK, ec_rwS, ec_w_shpI, ec_w_shpL, ec_w_shpA, ec_zn22, ec_zn24, ec_zn40, ec_zn45, ec_zn47, ec_zn96, ec_zn100, ec_zn384, ec_zn480, ec_zn960, ec_zn2001, ec_zn2002, ec_zn2003, ec_zn7919, ec_zn40503, ec_zn10000000, ec_zn2147483647, hD, hA1, hA2, t1, t3, r1, e6, reduceIte]
theorem ec_p129e (S : ed_ST h σ n p T) (hv : 0 ≤ v ∧ v < 10000000) (hw : 10 ≤ wy ∧ wy < 12) (hq : ed_qc σ x y) (ht : t = 8 * y + x) : ed_Ok h T (ec_om 129 60 [.ref 0, .ref 72, .ref 73, .ref 74, .ref 75, .ref 76, .ref 77, .ref 78, .int z, .int (ec_i v), .int (ec_i wy), .int (ec_i x), .int (ec_i y), .int (ec_i t), .int (ec_i s), .double 0, .double 0] [] h) := by
  have W := S.W
  have w := W.1
  have hB := S.2.2.2
  have hD := S.2.1
  have hA := S.2.2.1
  have D0 := hD
  have A0 := hA
  have hB0 := hB
  have rx : ec_rg x := by unfold ed_qc at hq; unfold ec_rg; omega
  have ry : ec_rg y := by unfold ed_qc at hq; unfold ec_rg; omega
  unfold ed_L4 at hB
  unfold ed_LD at hD
  unfold ed_LA at hA
  by_cases h2 : σ 4 = 3
  · have k1 : ed_kAm σ x y 0 0 = 2 := by unfold ed_kAm; rw [if_pos hq, if_neg (by omega)]
    have c1 := (ec_c76s S.1 rx ry (a := 0) (b := 0) (by unfold ec_rg; omega) (by unfold ec_rg; omega)).2 (by rw [k1]; decide)
    rw [k1] at c1
    have r1 := (ec_q135 S.k).2.2.1 c1
    have G1 : ed_gz (fun _ => False) 1 h (ec_thw h) := ed_gz.thw
    refine ⟨_, σ, n, p, ?_, S.gr G1 (fun _ _ u => u), (G1.mono (T := fun x => x ≤ 78) (fun _ _ u => u.elim)).up (by omega)⟩
    simp (disch := first | (simp only [ec_w_kI, ec_w_kL, ec_w_kA, ec_w_shpI, ec_w_shpL, ec_w_shpA, ec_isR_r, ec_01z, ec_01o, ec_01q, hD]; done) | omega | (simp only [ec_w_shpI, ec_w_shpL, ec_w_shpA, hD]; refine ec_zinO ?_; omega) | (refine ec_nzO ?_; omega)) only [ec_s129_60, ec_s129_62, ec_s129_65, ec_s129_67, ec_s129_68, ec_s129_69, ec_s129_205, ec_s129_207, ec_s129_209, ec_s129_540, ec_s129_542, ec_s129_544, ec_s129_627, ec_s129_629, ec_s129_631, ec_s129_750, ec_s129_752, ec_s129_754, ec_s129_757, ec_s129_758, ec_s129_759, ec_s129_760, ec_s129_761, ec_s129_764, ec_s129_765, ec_s129_767, ec_s129_769, ec_s129_770, ec_s129_771, ec_s129_774, ec_s129_777, ec_s129_780, ec_s129_781, ec_s129_784, ec_s129_785, ec_zn0, ec_zn1, ec_zn2, ec_zn3, ec_zn4, ec_zn5, ec_zn6, ec_zn7, ec_zn8, ec_zn9, ec_zn10, ec_zn12, ec_zn13, ec_zn14, ec_zn15, ec_zn16, ec_zn20, ec_zn30, ec_zn48, ec_zn99, ec_zn120, ec_zn127, ec_zn11, ec_zn31, ec_zn46, ec_zn57, ec_zn59, ec_zn63, ec_zn101, ec_zn107, ec_zn108, ec_zn110, ec_zn111, ec_zn115, ec_zn116, ec_zn119, ec_zn167, ec_zn185, ec_zn192, ec_zn215, ec_zn233, ec_zn699, ec_zn932, ec_zn999, ec_znF, ec_zneg, ec_zadd, ec_zsub, ec_zmul, ec_zdivO, ec_em, ec_zltO, ec_zeqO, ec_zeq0, ec_qt, ec_qf, if_pos, if_neg, Int.add_zero, ec_aft_v, ec_aft_n, ec_rwE, ec_rwN, ec_rwP, ec_rwK, ec_rwS, ec_w_shpI, ec_w_shpL, ec_w_shpA, ec_zn22, ec_zn24, ec_zn40, ec_zn45, ec_zn47, ec_zn96, ec_zn100, ec_zn384, ec_zn480, ec_zn960, ec_zn2001, ec_zn2002, ec_zn2003, ec_zn7919, ec_zn40503, ec_zn10000000, ec_zn2147483647, hD, hA, h2, r1, reduceIte]
  · have hf : 0 ≤ v / 96 % 5 ∧ v / 96 % 5 ≤ 4 := by omega
    have hf2 : 0 ≤ v / 480 % 2 ∧ v / 480 % 2 ≤ 1 := by omega
    have e1 : 185 + 5 * σ 4 + 1 = 185 + (5 * σ 4 + 1) := by omega
    have e2 : 185 + 5 * σ 4 + 2 = 185 + (5 * σ 4 + 2) := by omega
    have e3 : 185 + 5 * σ 4 + 3 = 185 + (5 * σ 4 + 3) := by omega
    have e4 : 185 + 5 * σ 4 + 4 = 185 + (5 * σ 4 + 4) := by omega
    have L := (((((A0.w77 (z := 5 * σ 4) (v := t) (by omega)).w77 (z := 5 * σ 4 + 1) (v := 1 + v / 96 % 5) (by omega)).w77 (z := 5 * σ 4 + 2) (v := v / 480 % 2) (by omega)).w77 (z := 5 * σ 4 + 3) (v := -1) (by omega)).w77 (z := 5 * σ 4 + 4) (v := 0) (by omega)).w72 (z := 4) (v := σ 4 + 1) (by omega)
    have ea : ed_amo σ t (1 + v / 96 % 5) (v / 480 % 2) = ec_su (ec_su (ec_su (ec_su (ec_su (ec_su σ (185 + 5 * σ 4) t) (185 + (5 * σ 4 + 1)) (1 + v / 96 % 5)) (185 + (5 * σ 4 + 2)) (v / 480 % 2)) (185 + (5 * σ 4 + 3)) (-1)) (185 + (5 * σ 4 + 4)) 0) 4 (σ 4 + 1) := by
      unfold ed_amo
      rw [e1, e2, e3, e4]
    rw [← ea] at L
    have B1 : ed_L4 (ed_amo σ t (1 + v / 96 % 5) (v / 480 % 2)) := by
      unfold ed_L4 ed_amo
      simp (disch := omega) only [ec_suN, ec_suE]
      omega
    have t1 : ed_amo σ t (1 + v / 96 % 5) (v / 480 % 2) (185 + (5 * σ 4 + 1)) = 1 + v / 96 % 5 := by unfold ed_amo; simp (disch := omega) only [ec_suN, ec_suE]
    have t2 : ed_amo σ t (1 + v / 96 % 5) (v / 480 % 2) (185 + (5 * σ 4 + 2)) = v / 480 % 2 := by unfold ed_amo; simp (disch := omega) only [ec_suN, ec_suE]
    have t3 : ed_amo σ t (1 + v / 96 % 5) (v / 480 % 2) 4 = σ 4 + 1 := ec_suE rfl
    have k1 : ed_kAm σ x y (1 + v / 96 % 5) (v / 480 % 2) = 0 := by unfold ed_kAm; rw [if_pos hq, if_pos (by omega), if_neg (by omega)]
    generalize eh : ec_setI (ec_setI (ec_setI (ec_setI (ec_setI (ec_setI h 77 (ec_i (5 * σ 4)).toNatClampNeg (ec_i t)) 77 (ec_i (5 * σ 4 + 1)).toNatClampNeg (ec_i (1 + v / 96 % 5))) 77 (ec_i (5 * σ 4 + 2)).toNatClampNeg (ec_i (v / 480 % 2))) 77 (ec_i (5 * σ 4 + 3)).toNatClampNeg (ec_i (-1))) 77 (ec_i (5 * σ 4 + 4)).toNatClampNeg (ec_i 0)) 72 (ec_i 4).toNatClampNeg (ec_i (σ 4 + 1)) = h1 at L
    have f1 : ec_fg ed_my h h1 := by rw [← eh]; exact (((((ec_fg.refl.I (by exact ⟨by decide, by decide⟩)).I (by exact ⟨by decide, by decide⟩)).I (by exact ⟨by decide, by decide⟩)).I (by exact ⟨by decide, by decide⟩)).I (by exact ⟨by decide, by decide⟩)).I (by exact ⟨by decide, by decide⟩)
    have G1 : ed_gz ed_mz 0 h h1 := ed_gz.fg (S := ed_mz) f1 (fun _ _ u => u)
    have D1 := D0.gr G1
    have C1 := S.1.mz D0.len G1
    obtain ⟨h2', c1, c2, c3⟩ := (ec_c76s C1 rx ry (a := 1 + v / 96 % 5) (b := v / 480 % 2) (by unfold ec_rg; omega) (by unfold ec_rg; omega)).1 k1
    have r1 := (ec_q135 C1.1.1.1).1 _ _ c1
    rw [← ht] at c2
    have S2 := ed_ST.c D1 L B1 c2 c3
    refine ed_Ok.mk ?_ G1 (by omega) D1 L B1 c2 c3
    have zz : 0 ≤ t ∧ t < 48 := by unfold ed_qc at hq; omega
    have s1 : ec_om 129 60 [.ref 0, .ref 72, .ref 73, .ref 74, .ref 75, .ref 76, .ref 77, .ref 78, .int z, .int (ec_i v), .int (ec_i wy), .int (ec_i x), .int (ec_i y), .int (ec_i t), .int (ec_i s), .double 0, .double 0] [] h = ec_om 129 854 [.ref 0, .ref 72, .ref 73, .ref 74, .ref 75, .ref 76, .ref 77, .ref 78, .int z, .int (ec_i v), .int (ec_i wy), .int (ec_i x), .int (ec_i y), .int (ec_i t), .int (ec_i s), .int (ec_i (5 * σ 4)), .double 0] [] h1 := by
      rw [← eh]
      simp (disch := first | (simp only [ec_w_kI, ec_w_kL, ec_w_kA, ec_w_shpI, ec_w_shpL, ec_w_shpA, ec_isR_r, ec_01z, ec_01o, ec_01q, hD]; done) | omega | (simp only [ec_w_shpI, ec_w_shpL, ec_w_shpA, hD]; refine ec_zinO ?_; omega) | (refine ec_nzO ?_; omega)) only [ec_s129_60, ec_s129_62, ec_s129_65, ec_s129_67, ec_s129_68, ec_s129_69, ec_s129_205, ec_s129_207, ec_s129_209, ec_s129_540, ec_s129_542, ec_s129_544, ec_s129_627, ec_s129_629, ec_s129_631, ec_s129_750, ec_s129_752, ec_s129_754, ec_s129_757, ec_s129_758, ec_s129_759, ec_s129_760, ec_s129_761, ec_s129_786, ec_s129_787, ec_s129_788, ec_s129_789, ec_s129_790, ec_s129_791, ec_s129_793, ec_s129_795, ec_s129_797, ec_s129_799, ec_s129_800, ec_s129_802, ec_s129_804, ec_s129_805, ec_s129_806, ec_s129_807, ec_s129_809, ec_s129_811, ec_s129_812, ec_s129_813, ec_s129_814, ec_s129_815, ec_s129_816, ec_s129_818, ec_s129_820, ec_s129_821, ec_s129_822, ec_s129_824, ec_s129_827, ec_s129_828, ec_s129_829, ec_s129_830, ec_s129_831, ec_s129_833, ec_s129_835, ec_s129_836, ec_s129_837, ec_s129_838, ec_s129_839, ec_s129_841, ec_s129_843, ec_s129_844, ec_s129_845, ec_s129_846, ec_s129_847, ec_s129_848, ec_s129_849, ec_s129_850, ec_s129_851, ec_s129_852, ec_s129_853, ec_zn0, ec_zn1, ec_zn2, ec_zn3, ec_zn4, ec_zn5, ec_zn6, ec_zn7, ec_zn8, ec_zn9, ec_zn10, ec_zn12, ec_zn13, ec_zn14, ec_zn15, ec_zn16, ec_zn20, ec_zn30, ec_zn48, ec_zn99, ec_zn120, ec_zn127, ec_zn11, ec_zn31, ec_zn46, ec_zn57, ec_zn59, ec_zn63, ec_zn101, ec_zn107, ec_zn108, ec_zn110, ec_zn111, ec_zn115, ec_zn116, ec_zn119, ec_zn167, ec_zn185, ec_zn192, ec_zn215, ec_zn233, ec_zn699, ec_zn932, ec_zn999, ec_znF, ec_zneg, ec_zadd, ec_zsub, ec_zmul, ec_zdivO, ec_em, ec_zltO, ec_zeqO, ec_zeq0, ec_qt, ec_qf, if_pos, if_neg, Int.add_zero, ec_aft_v, ec_aft_n, ec_rwE, ec_rwN, ec_rwP, ec_rwK, ec_rwS, ec_w_shpI, ec_w_shpL, ec_w_shpA, ec_zn22, ec_zn24, ec_zn40, ec_zn45, ec_zn47, ec_zn96, ec_zn100, ec_zn384, ec_zn480, ec_zn960, ec_zn2001, ec_zn2002, ec_zn2003, ec_zn7919, ec_zn40503, ec_zn10000000, ec_zn2147483647, hD, hA]
    have hD1 := D1
    have hA1 := L
    have hD2 := S2.2.1
    have hA2 := S2.2.2.1
    unfold ed_LD at hD1 hD2
    unfold ed_LA at hA1 hA2
    have hD := And.intro hD1 hD2
    have e6 : σ 4 + 1 - 1 = σ 4 := by omega
    rw [s1]
    simp (disch := first | (simp only [ec_w_kI, ec_w_kL, ec_w_kA, ec_w_shpI, ec_w_shpL, ec_w_shpA, ec_isR_r, ec_01z, ec_01o, ec_01q, hD]; done) | omega | (simp only [ec_w_shpI, ec_w_shpL, ec_w_shpA, hD]; refine ec_zinO ?_; omega) | (refine ec_nzO ?_; omega)) only [ec_s129_854, ec_s129_855, ec_s129_857, ec_s129_859, ec_s129_861, ec_s129_863, ec_s129_864, ec_s129_865, ec_s129_866, ec_s129_868, ec_s129_870, ec_s129_871, ec_s129_872, ec_s129_873, ec_s129_876, ec_s129_877, ec_s129_878, ec_s129_879, ec_s129_880, ec_s129_881, ec_s129_884, ec_s129_885, ec_s129_888, ec_s129_889, ec_zn0, ec_zn1, ec_zn2, ec_zn3, ec_zn4, ec_zn5, ec_zn6, ec_zn7, ec_zn8, ec_zn9, ec_zn10, ec_zn12, ec_zn13, ec_zn14, ec_zn15, ec_zn16, ec_zn20, ec_zn30, ec_zn48, ec_zn99, ec_zn120, ec_zn127, ec_zn11, ec_zn31, ec_zn46, ec_zn57, ec_zn59, ec_zn63, ec_zn101, ec_zn107, ec_zn108, ec_zn110, ec_zn111, ec_zn115, ec_zn116, ec_zn119, ec_zn167, ec_zn185, ec_zn192, ec_zn215, ec_zn233, ec_zn699, ec_zn932, ec_zn999, ec_znF, ec_zneg, ec_zadd, ec_zsub, ec_zmul, ec_zdivO, ec_em, ec_zltO, ec_zeqO, ec_zeq0, ec_qt, ec_qf, if_pos, if_neg, Int.add_zero, ec_aft_v, ec_aft_n, ec_rwE, ec_rwN, ec_rwP, ec_rwK, ec_rwS, ec_w_shpI, ec_w_shpL, ec_w_shpA, ec_zn22, ec_zn24, ec_zn40, ec_zn45, ec_zn47, ec_zn96, ec_zn100, ec_zn384, ec_zn480, ec_zn960, ec_zn2001, ec_zn2002, ec_zn2003, ec_zn7919, ec_zn40503, ec_zn10000000, ec_zn2147483647, hD, hA1, hA2, t1, t2, t3, r1, e6, reduceIte]
end EDQ
