/-! The class's face: runs the text. -/
theorem ed_rna_10 {a : Int} (ha : 0 ≤ a ∧ a < 16) : ∀ (k : Nat) (σ : ec_Sg) (n : Int), ec_WF σ → (ed_rna a k σ n).1 10 - (ed_rna a k σ n).2.1 = σ 10 - n
  | 0, _, _, _ => rfl
  | k + 1, σ, n, w => by
    rw [show ed_rna a (k + 1) σ n = if ed_rsn σ a = 0 then ed_rna a k (ed_turn σ a) (n + 1) else (σ, n, false) from rfl]
    split
    · rename_i q
      have e := ed_rna_10 ha k (ed_turn σ a) (n + 1) (ed_WF_turn w ha q)
      have t := (ed_turn_c w ha q).1
      omega
    · rfl
abbrev ed_Fr : Nat → Nat → Prop := fun q _ => 1 ≤ q ∧ q ≤ 10 ∨ 66 ≤ q ∧ q ≤ 69
section EDQ
variable {n : Int} {p : Int → ec_Sg} {L : Int} {T : Int → Int}
theorem ec_c96k {fl t0 kk a t : Int} (ha : 0 ≤ a ∧ a < 16) (ht : 1 ≤ t ∧ t ≤ 20) : ∀ (r : Nat) (k m : Int) (τ : ec_Sg) (h : ec_Hp), ed_CL h τ n p L T → h.2.1 70 4 = ec_i t → h.2.1 70 3 = ec_i a → 0 ≤ k → k + r = t → τ 10 = t0 + m →
    ∃ h', ed_CL h' (ed_rna a r τ m).1 n p L T ∧ ec_fg ed_Fr h h' ∧ ec_om 96 65 [.ref 0, .int (ec_i fl), .int (ec_i t0), .int (ec_i kk), .int (ec_i k)] [] h = if (ed_rna a r τ m).2.2 = true then ec_om 96 132 [.ref 0, .int (ec_i fl), .int (ec_i t0), .int (ec_i kk), .int (ec_i t)] [] h' else some (.inl (some (.int (ec_i (ed_rna a r τ m).2.1))), h') := by
  intro r
  induction r with
  | zero =>
    intro k m τ h C h4 h3 h0 hk hm
    refine ⟨h, C, ec_fg.refl, ?_⟩
    rw [if_pos (show (ed_rna a 0 τ m).2.2 = true from rfl)]
    have hD := C.b
    have hk : k = t := by omega
    rw [ec_s96_65]
    simp (disch := first | (simp only [ec_w_kI, ec_w_kL, ec_w_kA, ec_w_shpI, ec_w_shpL, ec_w_shpA, ec_isR_r, ec_01z, ec_01o, ec_01q, hD]; done) | omega | (simp only [ec_w_shpI, ec_w_shpL, ec_w_shpA, hD]; refine ec_zinO ?_; omega) | (refine ec_nzO ?_; omega)) only [ec_s96_0, ec_s96_1, ec_s96_4, ec_s96_7, ec_s96_8, ec_s96_9, ec_s96_10, ec_s96_13, ec_s96_15, ec_s96_16, ec_s96_17, ec_s96_18, ec_s96_19, ec_s96_22, ec_s96_23, ec_s96_26, ec_s96_29, ec_s96_30, ec_s96_33, ec_s96_36, ec_s96_37, ec_s96_38, ec_s96_41, ec_s96_44, ec_s96_45, ec_s96_47, ec_s96_49, ec_s96_52, ec_s96_53, ec_s96_56, ec_s96_59, ec_s96_62, ec_s96_63, ec_s96_67, ec_s96_68, ec_s96_71, ec_s96_74, ec_s96_77, ec_s96_78, ec_s96_81, ec_s96_82, ec_s96_85, ec_s96_86, ec_s96_89, ec_s96_92, ec_s96_95, ec_s96_98, ec_s96_99, ec_s96_102, ec_s96_105, ec_s96_106, ec_s96_107, ec_s96_108, ec_s96_109, ec_s96_112, ec_s96_113, ec_s96_116, ec_s96_117, ec_s96_120, ec_s96_123, ec_s96_126, ec_s96_129, ec_s96_135, ec_s96_138, ec_s96_139, ec_s96_142, ec_s96_145, ec_s96_146, ec_s96_147, ec_zn0, ec_zn1, ec_zn2, ec_zn3, ec_zn4, ec_zn5, ec_zn6, ec_zn7, ec_zn8, ec_zn9, ec_zn10, ec_zn12, ec_zn13, ec_zn14, ec_zn15, ec_zn16, ec_zn20, ec_zn30, ec_zn48, ec_zn99, ec_zn120, ec_zn127, ec_zn11, ec_zn31, ec_zn46, ec_zn57, ec_zn59, ec_zn63, ec_zn101, ec_zn107, ec_zn108, ec_zn110, ec_zn111, ec_zn115, ec_zn116, ec_zn119, ec_zn167, ec_zn185, ec_zn192, ec_zn215, ec_zn233, ec_zn699, ec_zn932, ec_zn999, ec_znF, ec_zneg, ec_zadd, ec_zsub, ec_zmul, ec_zdivO, ec_em, ec_zltO, ec_zeqO, ec_zeq0, ec_qt, ec_qf, if_pos, if_neg, Int.add_zero, ec_aft_v, ec_aft_n, ec_rwE, ec_rwN, ec_rwP, ec_rwK, ec_rwS, ec_w_shpI, ec_w_shpL, ec_w_shpA, hD, h4]
    rw [hk]
  | succ r ih =>
    intro k m τ h C h4 h3 h0 hk hm
    rw [show ed_rna a (r + 1) τ m = if ed_rsn τ a = 0 then ed_rna a r (ed_turn τ a) (m + 1) else (τ, m, false) from rfl]
    have g57 := ec_c57s (T := 66) C.2.2.2.2.2.1.1.1 C.2.1.1 C.2.1.2.1 C.2.1.2.2 (a := a) ha
    have rr := ed_rsn_rg (σ := τ) (a := a)
    by_cases q : ed_rsn τ a = 0
    · rw [if_pos q]
      rw [q] at g57
      obtain ⟨c1, ⟨c2, c2b, c2c⟩, c3, c4, c5, ⟨c6, c6b⟩, c7⟩ := id C
      obtain ⟨h1, b1, b2, b3, b4, b5, b6⟩ := ec_c59s (T := 66) (B := 1) (by omega) c2 c2b c2c c6 c6b ha q
      have f2 : ec_fg ed_Fr h h1 := b6.mono (fun q j e => by omega)
      have C1 : ed_CL h1 (ed_turn τ a) n p L T := ⟨c1.of f2.1.1, ⟨b3, b2, ed_WF_turn c2c ha q⟩, c3.fg f2 (fun q j x y z => by omega), c4.fg f2 (fun q j x y z => by omega), c5.fg f2 (fun q j x y z => by omega), ⟨b4, b5⟩, c7.fg f2 (fun z => by omega) (fun j z => by omega)⟩
      have tc := (ed_turn_c c2c ha q).1
      obtain ⟨h2, d1, d2, d3⟩ := ih (k + 1) (m + 1) (ed_turn τ a) h1 C1 ((f2.2 _ _ (by omega)).trans h4) ((f2.2 _ _ (by omega)).trans h3) (by omega) (by omega) (by omega)
      refine ⟨h2, d1, f2.trans d2, ?_⟩
      rw [← d3]
      have hD := And.intro C.b C1.b
      rw [ec_s96_65]
      simp (disch := first | (simp only [ec_w_kI, ec_w_kL, ec_w_kA, ec_w_shpI, ec_w_shpL, ec_w_shpA, ec_isR_r, ec_01z, ec_01o, ec_01q, hD]; done) | omega | (simp only [ec_w_shpI, ec_w_shpL, ec_w_shpA, hD]; refine ec_zinO ?_; omega) | (refine ec_nzO ?_; omega)) only [ec_s96_0, ec_s96_1, ec_s96_4, ec_s96_7, ec_s96_8, ec_s96_9, ec_s96_10, ec_s96_13, ec_s96_15, ec_s96_16, ec_s96_17, ec_s96_18, ec_s96_19, ec_s96_22, ec_s96_23, ec_s96_26, ec_s96_29, ec_s96_30, ec_s96_33, ec_s96_36, ec_s96_37, ec_s96_38, ec_s96_41, ec_s96_44, ec_s96_45, ec_s96_47, ec_s96_49, ec_s96_52, ec_s96_53, ec_s96_56, ec_s96_59, ec_s96_62, ec_s96_63, ec_s96_67, ec_s96_68, ec_s96_71, ec_s96_74, ec_s96_77, ec_s96_78, ec_s96_81, ec_s96_82, ec_s96_85, ec_s96_86, ec_s96_89, ec_s96_92, ec_s96_95, ec_s96_98, ec_s96_99, ec_s96_102, ec_s96_105, ec_s96_106, ec_s96_107, ec_s96_108, ec_s96_109, ec_s96_112, ec_s96_113, ec_s96_116, ec_s96_117, ec_s96_120, ec_s96_123, ec_s96_126, ec_s96_129, ec_s96_135, ec_s96_138, ec_s96_139, ec_s96_142, ec_s96_145, ec_s96_146, ec_s96_147, ec_zn0, ec_zn1, ec_zn2, ec_zn3, ec_zn4, ec_zn5, ec_zn6, ec_zn7, ec_zn8, ec_zn9, ec_zn10, ec_zn12, ec_zn13, ec_zn14, ec_zn15, ec_zn16, ec_zn20, ec_zn30, ec_zn48, ec_zn99, ec_zn120, ec_zn127, ec_zn11, ec_zn31, ec_zn46, ec_zn57, ec_zn59, ec_zn63, ec_zn101, ec_zn107, ec_zn108, ec_zn110, ec_zn111, ec_zn115, ec_zn116, ec_zn119, ec_zn167, ec_zn185, ec_zn192, ec_zn215, ec_zn233, ec_zn699, ec_zn932, ec_zn999, ec_znF, ec_zneg, ec_zadd, ec_zsub, ec_zmul, ec_zdivO, ec_em, ec_zltO, ec_zeqO, ec_zeq0, ec_qt, ec_qf, if_pos, if_neg, Int.add_zero, ec_aft_v, ec_aft_n, ec_rwE, ec_rwN, ec_rwP, ec_rwK, ec_rwS, ec_w_shpI, ec_w_shpL, ec_w_shpA, hD, h4, h3, g57, b1]
    · rw [if_neg q]
      refine ⟨h, C, ec_fg.refl, ?_⟩
      rw [if_neg (show ¬ ((τ, m, false) : ec_Sg × Int × Bool).2.2 = true from fun y => by cases y)]
      have hD := C.b
      have r11 := C.2.1.2.1.1.2.2.2.2.2.2
      have em : t0 + m - t0 = m := by omega
      rw [hm] at r11
      rw [ec_s96_65]
      simp (disch := first | (simp only [ec_w_kI, ec_w_kL, ec_w_kA, ec_w_shpI, ec_w_shpL, ec_w_shpA, ec_isR_r, ec_01z, ec_01o, ec_01q, hD]; done) | omega | (simp only [ec_w_shpI, ec_w_shpL, ec_w_shpA, hD]; refine ec_zinO ?_; omega) | (refine ec_nzO ?_; omega)) only [ec_s96_0, ec_s96_1, ec_s96_4, ec_s96_7, ec_s96_8, ec_s96_9, ec_s96_10, ec_s96_13, ec_s96_15, ec_s96_16, ec_s96_17, ec_s96_18, ec_s96_19, ec_s96_22, ec_s96_23, ec_s96_26, ec_s96_29, ec_s96_30, ec_s96_33, ec_s96_36, ec_s96_37, ec_s96_38, ec_s96_41, ec_s96_44, ec_s96_45, ec_s96_47, ec_s96_49, ec_s96_52, ec_s96_53, ec_s96_56, ec_s96_59, ec_s96_62, ec_s96_63, ec_s96_67, ec_s96_68, ec_s96_71, ec_s96_74, ec_s96_77, ec_s96_78, ec_s96_81, ec_s96_82, ec_s96_85, ec_s96_86, ec_s96_89, ec_s96_92, ec_s96_95, ec_s96_98, ec_s96_99, ec_s96_102, ec_s96_105, ec_s96_106, ec_s96_107, ec_s96_108, ec_s96_109, ec_s96_112, ec_s96_113, ec_s96_116, ec_s96_117, ec_s96_120, ec_s96_123, ec_s96_126, ec_s96_129, ec_s96_135, ec_s96_138, ec_s96_139, ec_s96_142, ec_s96_145, ec_s96_146, ec_s96_147, ec_zn0, ec_zn1, ec_zn2, ec_zn3, ec_zn4, ec_zn5, ec_zn6, ec_zn7, ec_zn8, ec_zn9, ec_zn10, ec_zn12, ec_zn13, ec_zn14, ec_zn15, ec_zn16, ec_zn20, ec_zn30, ec_zn48, ec_zn99, ec_zn120, ec_zn127, ec_zn11, ec_zn31, ec_zn46, ec_zn57, ec_zn59, ec_zn63, ec_zn101, ec_zn107, ec_zn108, ec_zn110, ec_zn111, ec_zn115, ec_zn116, ec_zn119, ec_zn167, ec_zn185, ec_zn192, ec_zn215, ec_zn233, ec_zn699, ec_zn932, ec_zn999, ec_znF, ec_zneg, ec_zadd, ec_zsub, ec_zmul, ec_zdivO, ec_em, ec_zltO, ec_zeqO, ec_zeq0, ec_qt, ec_qf, if_pos, if_neg, Int.add_zero, ec_aft_v, ec_aft_n, ec_rwE, ec_rwN, ec_rwP, ec_rwK, ec_rwS, ec_w_shpI, ec_w_shpL, ec_w_shpA, hD, h4, h3, g57, r11, em]
theorem ec_c96L {fl t0 : Int} : ∀ (f : Nat) (i m kk : Int) (τ : ec_Sg) (h : ec_Hp) (w4 : Value), ed_CL h τ n p L T → h.2.1 70 2 = ec_i i → 0 ≤ i ∧ i ≤ 200 → ed_fa L T f i = -1 → 0 ≤ kk → kk + f = 120 → τ 10 = t0 + m →
    ∃ h', ec_om 96 46 [.ref 0, .int (ec_i fl), .int (ec_i t0), .int (ec_i kk), w4] [] h = some (.inl (some (.int (ec_i (ed_rnl L T f i τ m).2))), h') ∧ ed_CL h' (ed_rnl L T f i τ m).1 n p L T ∧ ec_fg ed_Fc h h' := by
  intro f
  induction f with
  | zero =>
    intro i m kk τ h w4 C hs hi hf h0 hk hm
    refine ⟨h, ?_, C, ec_fg.refl⟩
    rw [show (ed_rnl L T 0 i τ m).2 = m from rfl]
    have hD := C.b
    have r11 := C.2.1.2.1.1.2.2.2.2.2.2
    have em : t0 + m - t0 = m := by omega
    rw [hm] at r11
    rw [ec_s96_46]
    simp (disch := first | (simp only [ec_w_kI, ec_w_kL, ec_w_kA, ec_w_shpI, ec_w_shpL, ec_w_shpA, ec_isR_r, ec_01z, ec_01o, ec_01q, hD]; done) | omega | (simp only [ec_w_shpI, ec_w_shpL, ec_w_shpA, hD]; refine ec_zinO ?_; omega) | (refine ec_nzO ?_; omega)) only [ec_s96_0, ec_s96_1, ec_s96_4, ec_s96_7, ec_s96_8, ec_s96_9, ec_s96_10, ec_s96_13, ec_s96_15, ec_s96_16, ec_s96_17, ec_s96_18, ec_s96_19, ec_s96_22, ec_s96_23, ec_s96_26, ec_s96_29, ec_s96_30, ec_s96_33, ec_s96_36, ec_s96_37, ec_s96_38, ec_s96_41, ec_s96_44, ec_s96_45, ec_s96_47, ec_s96_49, ec_s96_52, ec_s96_53, ec_s96_56, ec_s96_59, ec_s96_62, ec_s96_63, ec_s96_67, ec_s96_68, ec_s96_71, ec_s96_74, ec_s96_77, ec_s96_78, ec_s96_81, ec_s96_82, ec_s96_85, ec_s96_86, ec_s96_89, ec_s96_92, ec_s96_95, ec_s96_98, ec_s96_99, ec_s96_102, ec_s96_105, ec_s96_106, ec_s96_107, ec_s96_108, ec_s96_109, ec_s96_112, ec_s96_113, ec_s96_116, ec_s96_117, ec_s96_120, ec_s96_123, ec_s96_126, ec_s96_129, ec_s96_135, ec_s96_138, ec_s96_139, ec_s96_142, ec_s96_145, ec_s96_146, ec_s96_147, ec_zn0, ec_zn1, ec_zn2, ec_zn3, ec_zn4, ec_zn5, ec_zn6, ec_zn7, ec_zn8, ec_zn9, ec_zn10, ec_zn12, ec_zn13, ec_zn14, ec_zn15, ec_zn16, ec_zn20, ec_zn30, ec_zn48, ec_zn99, ec_zn120, ec_zn127, ec_zn11, ec_zn31, ec_zn46, ec_zn57, ec_zn59, ec_zn63, ec_zn101, ec_zn107, ec_zn108, ec_zn110, ec_zn111, ec_zn115, ec_zn116, ec_zn119, ec_zn167, ec_zn185, ec_zn192, ec_zn215, ec_zn233, ec_zn699, ec_zn932, ec_zn999, ec_znF, ec_zneg, ec_zadd, ec_zsub, ec_zmul, ec_zdivO, ec_em, ec_zltO, ec_zeqO, ec_zeq0, ec_qt, ec_qf, if_pos, if_neg, Int.add_zero, ec_aft_v, ec_aft_n, ec_rwE, ec_rwN, ec_rwP, ec_rwK, ec_rwS, ec_w_shpI, ec_w_shpL, ec_w_shpA, hD, r11, em]
  | succ f ih =>
    intro i m kk τ h w4 C hs hi hf h0 hk hm
    have hD := C.b
    have K := C.1
    have X := C.2.2.2.2.2.2
    rw [show ed_rnl L T (f + 1) i τ m = if i < L then (if (ed_rna (ed_ac L T (i + ed_nl L T i)) (ed_nt L T i).toNat τ m).2.2 = true then ed_rnl L T f (ed_po L T i) (ed_rna (ed_ac L T (i + ed_nl L T i)) (ed_nt L T i).toNat τ m).1 (ed_rna (ed_ac L T (i + ed_nl L T i)) (ed_nt L T i).toNat τ m).2.1 else ((ed_rna (ed_ac L T (i + ed_nl L T i)) (ed_nt L T i).toNat τ m).1, (ed_rna (ed_ac L T (i + ed_nl L T i)) (ed_nt L T i).toNat τ m).2.1)) else (τ, m) from rfl]
    by_cases q : i < L
    · rw [if_pos q]
      obtain ⟨ok, hf'⟩ := ed_fa_ok hi.1 hf q
      obtain ⟨h1, a1, a2, a3, a4⟩ := ec_c4s K X hs ⟨hi.1, q⟩
      rw [ec_qt ok] at a1
      obtain ⟨b1, b2, b3, b4⟩ := a3 ok
      have C1 := C.y (a2.mono (fun q j e => by omega)) (X.Rc a2)
      have X2 := X.2.1
      have p0 := ed_po_0 (L := L) (T := T) hi.1
      have p1 := ed_po_le (L := L) (T := T) hi.1
      have nt := ed_nt_rg (T := T) hi.1 ok.1
      have ar := ed_ac_rg (L := L) (T := T) (j := i + ed_nl L T i)
      have nac := ok.2
      obtain ⟨h2, d1, d2, d3⟩ := ec_c96k (fl := fl) (t0 := t0) (kk := kk) (a := ed_ac L T (i + ed_nl L T i)) (by omega) nt (ed_nt L T i).toNat 0 m τ h1 C1 b3 b2 (by omega) (by omega) hm
      have e10 := ed_rna_10 (a := ed_ac L T (i + ed_nl L T i)) (by omega) (ed_nt L T i).toNat τ m C.2.1.2.2
      have f2 : ec_fg ed_Fc h h2 := (a2.mono (fun q j e => by omega)).trans (d2.mono (fun q j e => by omega))
      generalize ed_rna (ed_ac L T (i + ed_nl L T i)) (ed_nt L T i).toNat τ m = R at d1 d3 e10 ⊢
      by_cases q2 : R.2.2 = true
      · rw [if_pos q2] at d3 ⊢
        obtain ⟨h3, k1, k2, k3⟩ := ih (ed_po L T i) R.2.1 (kk + 1) R.1 h2 (.int (ec_i (ed_nt L T i))) d1 ((d2.2 _ _ (by omega)).trans b1) (by omega) hf' (by omega) (by omega) (by omega)
        refine ⟨h3, ?_, k2, f2.trans k3⟩
        have hD := And.intro hD C1.b
        rw [ec_s96_46]
        simp (disch := first | (simp only [ec_w_kI, ec_w_kL, ec_w_kA, ec_w_shpI, ec_w_shpL, ec_w_shpA, ec_isR_r, ec_01z, ec_01o, ec_01q, hD]; done) | omega | (simp only [ec_w_shpI, ec_w_shpL, ec_w_shpA, hD]; refine ec_zinO ?_; omega) | (refine ec_nzO ?_; omega)) only [ec_s96_0, ec_s96_1, ec_s96_4, ec_s96_7, ec_s96_8, ec_s96_9, ec_s96_10, ec_s96_13, ec_s96_15, ec_s96_16, ec_s96_17, ec_s96_18, ec_s96_19, ec_s96_22, ec_s96_23, ec_s96_26, ec_s96_29, ec_s96_30, ec_s96_33, ec_s96_36, ec_s96_37, ec_s96_38, ec_s96_41, ec_s96_44, ec_s96_45, ec_s96_47, ec_s96_49, ec_s96_52, ec_s96_53, ec_s96_56, ec_s96_59, ec_s96_62, ec_s96_63, ec_s96_67, ec_s96_68, ec_s96_71, ec_s96_74, ec_s96_77, ec_s96_78, ec_s96_81, ec_s96_82, ec_s96_85, ec_s96_86, ec_s96_89, ec_s96_92, ec_s96_95, ec_s96_98, ec_s96_99, ec_s96_102, ec_s96_105, ec_s96_106, ec_s96_107, ec_s96_108, ec_s96_109, ec_s96_112, ec_s96_113, ec_s96_116, ec_s96_117, ec_s96_120, ec_s96_123, ec_s96_126, ec_s96_129, ec_s96_135, ec_s96_138, ec_s96_139, ec_s96_142, ec_s96_145, ec_s96_146, ec_s96_147, ec_zn0, ec_zn1, ec_zn2, ec_zn3, ec_zn4, ec_zn5, ec_zn6, ec_zn7, ec_zn8, ec_zn9, ec_zn10, ec_zn12, ec_zn13, ec_zn14, ec_zn15, ec_zn16, ec_zn20, ec_zn30, ec_zn48, ec_zn99, ec_zn120, ec_zn127, ec_zn11, ec_zn31, ec_zn46, ec_zn57, ec_zn59, ec_zn63, ec_zn101, ec_zn107, ec_zn108, ec_zn110, ec_zn111, ec_zn115, ec_zn116, ec_zn119, ec_zn167, ec_zn185, ec_zn192, ec_zn215, ec_zn233, ec_zn699, ec_zn932, ec_zn999, ec_znF, ec_zneg, ec_zadd, ec_zsub, ec_zmul, ec_zdivO, ec_em, ec_zltO, ec_zeqO, ec_zeq0, ec_qt, ec_qf, if_pos, if_neg, Int.add_zero, ec_aft_v, ec_aft_n, ec_rwE, ec_rwN, ec_rwP, ec_rwK, ec_rwS, ec_w_shpI, ec_w_shpL, ec_w_shpA, hD, a1, d3]
        rw [ec_s96_132]
        simp (disch := first | (simp only [ec_w_kI, ec_w_kL, ec_w_kA, ec_w_shpI, ec_w_shpL, ec_w_shpA, ec_isR_r, ec_01z, ec_01o, ec_01q, hD]; done) | omega | (simp only [ec_w_shpI, ec_w_shpL, ec_w_shpA, hD]; refine ec_zinO ?_; omega) | (refine ec_nzO ?_; omega)) only [ec_s96_0, ec_s96_1, ec_s96_4, ec_s96_7, ec_s96_8, ec_s96_9, ec_s96_10, ec_s96_13, ec_s96_15, ec_s96_16, ec_s96_17, ec_s96_18, ec_s96_19, ec_s96_22, ec_s96_23, ec_s96_26, ec_s96_29, ec_s96_30, ec_s96_33, ec_s96_36, ec_s96_37, ec_s96_38, ec_s96_41, ec_s96_44, ec_s96_45, ec_s96_47, ec_s96_49, ec_s96_52, ec_s96_53, ec_s96_56, ec_s96_59, ec_s96_62, ec_s96_63, ec_s96_67, ec_s96_68, ec_s96_71, ec_s96_74, ec_s96_77, ec_s96_78, ec_s96_81, ec_s96_82, ec_s96_85, ec_s96_86, ec_s96_89, ec_s96_92, ec_s96_95, ec_s96_98, ec_s96_99, ec_s96_102, ec_s96_105, ec_s96_106, ec_s96_107, ec_s96_108, ec_s96_109, ec_s96_112, ec_s96_113, ec_s96_116, ec_s96_117, ec_s96_120, ec_s96_123, ec_s96_126, ec_s96_129, ec_s96_135, ec_s96_138, ec_s96_139, ec_s96_142, ec_s96_145, ec_s96_146, ec_s96_147, ec_zn0, ec_zn1, ec_zn2, ec_zn3, ec_zn4, ec_zn5, ec_zn6, ec_zn7, ec_zn8, ec_zn9, ec_zn10, ec_zn12, ec_zn13, ec_zn14, ec_zn15, ec_zn16, ec_zn20, ec_zn30, ec_zn48, ec_zn99, ec_zn120, ec_zn127, ec_zn11, ec_zn31, ec_zn46, ec_zn57, ec_zn59, ec_zn63, ec_zn101, ec_zn107, ec_zn108, ec_zn110, ec_zn111, ec_zn115, ec_zn116, ec_zn119, ec_zn167, ec_zn185, ec_zn192, ec_zn215, ec_zn233, ec_zn699, ec_zn932, ec_zn999, ec_znF, ec_zneg, ec_zadd, ec_zsub, ec_zmul, ec_zdivO, ec_em, ec_zltO, ec_zeqO, ec_zeq0, ec_qt, ec_qf, if_pos, if_neg, Int.add_zero, ec_aft_v, ec_aft_n, ec_rwE, ec_rwN, ec_rwP, ec_rwK, ec_rwS, ec_w_shpI, ec_w_shpL, ec_w_shpA, hD, k1]
      · rw [if_neg q2] at d3 ⊢
        refine ⟨h2, ?_, d1, f2⟩
        have hD := And.intro hD C1.b
        rw [ec_s96_46]
        simp (disch := first | (simp only [ec_w_kI, ec_w_kL, ec_w_kA, ec_w_shpI, ec_w_shpL, ec_w_shpA, ec_isR_r, ec_01z, ec_01o, ec_01q, hD]; done) | omega | (simp only [ec_w_shpI, ec_w_shpL, ec_w_shpA, hD]; refine ec_zinO ?_; omega) | (refine ec_nzO ?_; omega)) only [ec_s96_0, ec_s96_1, ec_s96_4, ec_s96_7, ec_s96_8, ec_s96_9, ec_s96_10, ec_s96_13, ec_s96_15, ec_s96_16, ec_s96_17, ec_s96_18, ec_s96_19, ec_s96_22, ec_s96_23, ec_s96_26, ec_s96_29, ec_s96_30, ec_s96_33, ec_s96_36, ec_s96_37, ec_s96_38, ec_s96_41, ec_s96_44, ec_s96_45, ec_s96_47, ec_s96_49, ec_s96_52, ec_s96_53, ec_s96_56, ec_s96_59, ec_s96_62, ec_s96_63, ec_s96_67, ec_s96_68, ec_s96_71, ec_s96_74, ec_s96_77, ec_s96_78, ec_s96_81, ec_s96_82, ec_s96_85, ec_s96_86, ec_s96_89, ec_s96_92, ec_s96_95, ec_s96_98, ec_s96_99, ec_s96_102, ec_s96_105, ec_s96_106, ec_s96_107, ec_s96_108, ec_s96_109, ec_s96_112, ec_s96_113, ec_s96_116, ec_s96_117, ec_s96_120, ec_s96_123, ec_s96_126, ec_s96_129, ec_s96_135, ec_s96_138, ec_s96_139, ec_s96_142, ec_s96_145, ec_s96_146, ec_s96_147, ec_zn0, ec_zn1, ec_zn2, ec_zn3, ec_zn4, ec_zn5, ec_zn6, ec_zn7, ec_zn8, ec_zn9, ec_zn10, ec_zn12, ec_zn13, ec_zn14, ec_zn15, ec_zn16, ec_zn20, ec_zn30, ec_zn48, ec_zn99, ec_zn120, ec_zn127, ec_zn11, ec_zn31, ec_zn46, ec_zn57, ec_zn59, ec_zn63, ec_zn101, ec_zn107, ec_zn108, ec_zn110, ec_zn111, ec_zn115, ec_zn116, ec_zn119, ec_zn167, ec_zn185, ec_zn192, ec_zn215, ec_zn233, ec_zn699, ec_zn932, ec_zn999, ec_znF, ec_zneg, ec_zadd, ec_zsub, ec_zmul, ec_zdivO, ec_em, ec_zltO, ec_zeqO, ec_zeq0, ec_qt, ec_qf, if_pos, if_neg, Int.add_zero, ec_aft_v, ec_aft_n, ec_rwE, ec_rwN, ec_rwP, ec_rwK, ec_rwS, ec_w_shpI, ec_w_shpL, ec_w_shpA, hD, a1, d3]
    · rw [if_neg q]
      have e := ec_c4e K X hs ⟨by omega, hi.2⟩
      refine ⟨h, ?_, C, ec_fg.refl⟩
      have r11 := C.2.1.2.1.1.2.2.2.2.2.2
      have em : t0 + m - t0 = m := by omega
      rw [hm] at r11
      rw [ec_s96_46]
      simp (disch := first | (simp only [ec_w_kI, ec_w_kL, ec_w_kA, ec_w_shpI, ec_w_shpL, ec_w_shpA, ec_isR_r, ec_01z, ec_01o, ec_01q, hD]; done) | omega | (simp only [ec_w_shpI, ec_w_shpL, ec_w_shpA, hD]; refine ec_zinO ?_; omega) | (refine ec_nzO ?_; omega)) only [ec_s96_0, ec_s96_1, ec_s96_4, ec_s96_7, ec_s96_8, ec_s96_9, ec_s96_10, ec_s96_13, ec_s96_15, ec_s96_16, ec_s96_17, ec_s96_18, ec_s96_19, ec_s96_22, ec_s96_23, ec_s96_26, ec_s96_29, ec_s96_30, ec_s96_33, ec_s96_36, ec_s96_37, ec_s96_38, ec_s96_41, ec_s96_44, ec_s96_45, ec_s96_47, ec_s96_49, ec_s96_52, ec_s96_53, ec_s96_56, ec_s96_59, ec_s96_62, ec_s96_63, ec_s96_67, ec_s96_68, ec_s96_71, ec_s96_74, ec_s96_77, ec_s96_78, ec_s96_81, ec_s96_82, ec_s96_85, ec_s96_86, ec_s96_89, ec_s96_92, ec_s96_95, ec_s96_98, ec_s96_99, ec_s96_102, ec_s96_105, ec_s96_106, ec_s96_107, ec_s96_108, ec_s96_109, ec_s96_112, ec_s96_113, ec_s96_116, ec_s96_117, ec_s96_120, ec_s96_123, ec_s96_126, ec_s96_129, ec_s96_135, ec_s96_138, ec_s96_139, ec_s96_142, ec_s96_145, ec_s96_146, ec_s96_147, ec_zn0, ec_zn1, ec_zn2, ec_zn3, ec_zn4, ec_zn5, ec_zn6, ec_zn7, ec_zn8, ec_zn9, ec_zn10, ec_zn12, ec_zn13, ec_zn14, ec_zn15, ec_zn16, ec_zn20, ec_zn30, ec_zn48, ec_zn99, ec_zn120, ec_zn127, ec_zn11, ec_zn31, ec_zn46, ec_zn57, ec_zn59, ec_zn63, ec_zn101, ec_zn107, ec_zn108, ec_zn110, ec_zn111, ec_zn115, ec_zn116, ec_zn119, ec_zn167, ec_zn185, ec_zn192, ec_zn215, ec_zn233, ec_zn699, ec_zn932, ec_zn999, ec_znF, ec_zneg, ec_zadd, ec_zsub, ec_zmul, ec_zdivO, ec_em, ec_zltO, ec_zeqO, ec_zeq0, ec_qt, ec_qf, if_pos, if_neg, Int.add_zero, ec_aft_v, ec_aft_n, ec_rwE, ec_rwN, ec_rwP, ec_rwK, ec_rwS, ec_w_shpI, ec_w_shpL, ec_w_shpA, hD, e, r11, em]
variable {h : ec_Hp} {σ : ec_Sg}
theorem ec_c96x (C : ed_CL h σ n p L T) (q : ed_flt L T ≠ -1) : ed_Cn 96 [.ref 0, .double 0, .double 0, .double 0, .double 0] h (-10 - ed_flt L T) σ n p L T := by
  obtain ⟨h1, a1, a2⟩ := ec_c3s C.1 C.2.2.2.2.2.2
  have C1 := C.y (a2.mono (fun q j e => by omega)) (C.2.2.2.2.2.2.Rc a2)
  refine ⟨h1, ?_, C1, a2.mono (fun q j e => by omega)⟩
  have fr := ed_fa_rg (T := T) C.2.2.2.2.2.2.2.1.2 120 0 (by omega)
  rw [show ed_fa L T 120 0 = ed_flt L T from rfl] at fr
  have hD := And.intro C.b C1.b
  simp (disch := first | (simp only [ec_w_kI, ec_w_kL, ec_w_kA, ec_w_shpI, ec_w_shpL, ec_w_shpA, ec_isR_r, ec_01z, ec_01o, ec_01q, hD]; done) | omega | (simp only [ec_w_shpI, ec_w_shpL, ec_w_shpA, hD]; refine ec_zinO ?_; omega) | (refine ec_nzO ?_; omega)) only [ec_s96_0, ec_s96_1, ec_s96_4, ec_s96_7, ec_s96_8, ec_s96_9, ec_s96_10, ec_s96_13, ec_s96_15, ec_s96_16, ec_s96_17, ec_s96_18, ec_s96_19, ec_s96_22, ec_s96_23, ec_s96_26, ec_s96_29, ec_s96_30, ec_s96_33, ec_s96_36, ec_s96_37, ec_s96_38, ec_s96_41, ec_s96_44, ec_s96_45, ec_s96_47, ec_s96_49, ec_s96_52, ec_s96_53, ec_s96_56, ec_s96_59, ec_s96_62, ec_s96_63, ec_s96_67, ec_s96_68, ec_s96_71, ec_s96_74, ec_s96_77, ec_s96_78, ec_s96_81, ec_s96_82, ec_s96_85, ec_s96_86, ec_s96_89, ec_s96_92, ec_s96_95, ec_s96_98, ec_s96_99, ec_s96_102, ec_s96_105, ec_s96_106, ec_s96_107, ec_s96_108, ec_s96_109, ec_s96_112, ec_s96_113, ec_s96_116, ec_s96_117, ec_s96_120, ec_s96_123, ec_s96_126, ec_s96_129, ec_s96_135, ec_s96_138, ec_s96_139, ec_s96_142, ec_s96_145, ec_s96_146, ec_s96_147, ec_zn0, ec_zn1, ec_zn2, ec_zn3, ec_zn4, ec_zn5, ec_zn6, ec_zn7, ec_zn8, ec_zn9, ec_zn10, ec_zn12, ec_zn13, ec_zn14, ec_zn15, ec_zn16, ec_zn20, ec_zn30, ec_zn48, ec_zn99, ec_zn120, ec_zn127, ec_zn11, ec_zn31, ec_zn46, ec_zn57, ec_zn59, ec_zn63, ec_zn101, ec_zn107, ec_zn108, ec_zn110, ec_zn111, ec_zn115, ec_zn116, ec_zn119, ec_zn167, ec_zn185, ec_zn192, ec_zn215, ec_zn233, ec_zn699, ec_zn932, ec_zn999, ec_znF, ec_zneg, ec_zadd, ec_zsub, ec_zmul, ec_zdivO, ec_em, ec_zltO, ec_zeqO, ec_zeq0, ec_qt, ec_qf, if_pos, if_neg, Int.add_zero, ec_aft_v, ec_aft_n, ec_rwE, ec_rwN, ec_rwP, ec_rwK, ec_rwS, ec_w_shpI, ec_w_shpL, ec_w_shpA, hD, a1]
theorem ec_c96s (C : ed_CL h σ n p L T) (q : ed_flt L T = -1) : ed_Cn 96 [.ref 0, .double 0, .double 0, .double 0, .double 0] h (ed_rnl L T 120 0 σ 0).2 (ed_rnl L T 120 0 σ 0).1 (ed_pn n) (ed_pp n p σ) L T := by
  obtain ⟨h1, a1, a2⟩ := ec_c3s C.1 C.2.2.2.2.2.2
  have C1 := C.y (a2.mono (fun q j e => by omega)) (C.2.2.2.2.2.2.Rc a2)
  obtain ⟨h2, b1, b2, b3⟩ := C1.saved
  obtain ⟨h3, c1, c2, c3, c4⟩ := ec_c2s b2.1
  have C3 := b2.y (c4.mono (fun q j e => by omega)) (b2.2.2.2.2.2.2.Rc c4)
  obtain ⟨h4, d1, d2, d3⟩ := ec_c96L (fl := -1) (t0 := σ 10) 120 0 0 0 σ h3 (.double 0) C3 c2 (by omega) q (by omega) (by omega) (by omega)
  refine ⟨h4, ?_, d2, (a2.mono (fun q j e => by omega)).trans ((b3.mono (fun q j e => by omega)).trans ((c4.mono (fun q j e => by omega)).trans d3))⟩
  have r11 := b2.2.1.2.1.1.2.2.2.2.2.2
  rw [q] at a1
  have hD := And.intro C.b (And.intro C1.b (And.intro b2.b C3.b))
  simp (disch := first | (simp only [ec_w_kI, ec_w_kL, ec_w_kA, ec_w_shpI, ec_w_shpL, ec_w_shpA, ec_isR_r, ec_01z, ec_01o, ec_01q, hD]; done) | omega | (simp only [ec_w_shpI, ec_w_shpL, ec_w_shpA, hD]; refine ec_zinO ?_; omega) | (refine ec_nzO ?_; omega)) only [ec_s96_0, ec_s96_1, ec_s96_4, ec_s96_7, ec_s96_8, ec_s96_9, ec_s96_10, ec_s96_13, ec_s96_15, ec_s96_16, ec_s96_17, ec_s96_18, ec_s96_19, ec_s96_22, ec_s96_23, ec_s96_26, ec_s96_29, ec_s96_30, ec_s96_33, ec_s96_36, ec_s96_37, ec_s96_38, ec_s96_41, ec_s96_44, ec_s96_45, ec_s96_47, ec_s96_49, ec_s96_52, ec_s96_53, ec_s96_56, ec_s96_59, ec_s96_62, ec_s96_63, ec_s96_67, ec_s96_68, ec_s96_71, ec_s96_74, ec_s96_77, ec_s96_78, ec_s96_81, ec_s96_82, ec_s96_85, ec_s96_86, ec_s96_89, ec_s96_92, ec_s96_95, ec_s96_98, ec_s96_99, ec_s96_102, ec_s96_105, ec_s96_106, ec_s96_107, ec_s96_108, ec_s96_109, ec_s96_112, ec_s96_113, ec_s96_116, ec_s96_117, ec_s96_120, ec_s96_123, ec_s96_126, ec_s96_129, ec_s96_135, ec_s96_138, ec_s96_139, ec_s96_142, ec_s96_145, ec_s96_146, ec_s96_147, ec_zn0, ec_zn1, ec_zn2, ec_zn3, ec_zn4, ec_zn5, ec_zn6, ec_zn7, ec_zn8, ec_zn9, ec_zn10, ec_zn12, ec_zn13, ec_zn14, ec_zn15, ec_zn16, ec_zn20, ec_zn30, ec_zn48, ec_zn99, ec_zn120, ec_zn127, ec_zn11, ec_zn31, ec_zn46, ec_zn57, ec_zn59, ec_zn63, ec_zn101, ec_zn107, ec_zn108, ec_zn110, ec_zn111, ec_zn115, ec_zn116, ec_zn119, ec_zn167, ec_zn185, ec_zn192, ec_zn215, ec_zn233, ec_zn699, ec_zn932, ec_zn999, ec_znF, ec_zneg, ec_zadd, ec_zsub, ec_zmul, ec_zdivO, ec_em, ec_zltO, ec_zeqO, ec_zeq0, ec_qt, ec_qf, if_pos, if_neg, Int.add_zero, ec_aft_v, ec_aft_n, ec_rwE, ec_rwN, ec_rwP, ec_rwK, ec_rwS, ec_w_shpI, ec_w_shpL, ec_w_shpA, hD, a1, b1, r11, c1, d1]
end EDQ
