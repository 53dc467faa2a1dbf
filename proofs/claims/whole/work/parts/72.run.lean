/-! The reference reads and runs texts; undo. -/
set_option maxHeartbeats 2000000 in
theorem ec_c193 {h : ec_Hp} (hD : ec_MD h) {L : Int} {T : Int → Int} (X : ed_TX h L T) {i : Int} (hs : h.2.1 72 15 = ec_i i) (hi : 0 ≤ i ∧ i < L) : ∃ h', ec_om 193 0 [.ref 72, .double 0, .double 0, .double 0] [] h = some (.inl (some (.int (ec_i (ec_q (ed_ok L T i))))), h') ∧ ec_fg ed_Rd h h' ∧
    h'.2.1 72 15 = ec_i (ed_po L T i) ∧ (ed_ok L T i → h'.2.1 72 16 = ec_i (ed_nt L T i) ∧ h'.2.1 72 17 = ec_i (ed_ac L T (i + ed_nl L T i))) := by
  obtain ⟨h1, a1, a2, a3, a4⟩ := ec_c192 hD X hs hi
  have hD1 := hD.of a2.1.1
  have X1 := X.Rd a2
  have X2 := X.2.1
  have nr := ed_nl_rg (L := L) (T := T) (i := i)
  unfold ed_po
  by_cases q0 : ed_nf L T i = -1
  · rw [ec_qt q0] at a1
    rw [if_pos q0] at a3 ⊢
    have a4 := a4 q0
    have okq : ed_ok L T i ↔ ed_ac L T (i + ed_nl L T i) ≠ -1 := ⟨fun y => y.2, fun y => ⟨q0, y⟩⟩
    rw [ec_q_c okq]
    have okr : (ed_ok L T i → ∀ A : Prop, A → A) := fun _ _ y => y
    generalize hj : i + ed_nl L T i = j at a3 okq ⊢
    have jr : 0 ≤ j ∧ j ≤ 122 := by omega
    have g1 := ec_c191 hD1 X1 a3 (by omega)
    have cr := ed_ch_rg X1 (i := j) (by omega)
    have dr := ed_dof_rg (c := ed_ch L T j)
    have F : ∀ x, ec_fg ed_Rd h (ec_setI h1 72 15 x) := fun x => a2.I ⟨rfl, Or.inl rfl⟩
    have nt : ∀ x y z, (ec_setI (ec_setI (ec_setI h1 72 15 x) 72 17 y) 72 15 z).2.1 72 16 = ec_i (ed_nt L T i) := fun x y z => by rw [ec_rwK (by decide), ec_rwK (by decide), ec_rwK (by decide), a4]
    unfold ec_MD at hD hD1
    have hD := And.intro hD hD1
    generalize e : ec_om 193 0 [.ref 72, .double 0, .double 0, .double 0] [] h = r
    unfold ed_sk ed_ac
    by_cases q1 : ed_ch L T j = 111 ∨ ed_ch L T j = 99
    · have hm : ed_mr (ed_ch L T j) ≠ 0 := by
        unfold ed_mr
        rcases q1 with q1 | q1
        · rw [if_pos q1]; decide
        · rw [if_neg (by omega), if_pos q1]; decide
      rw [if_neg hm, if_neg hm]
      have g2 := ec_c191 (h := ec_setI h1 72 15 (ec_i (j + 1))) ((hD1 : ec_MD h1).of rfl) (X.Rd (F _)) (i := j + 1) (by rw [ec_rwS]) (by omega)
      have cr2 := ed_ch_rg X1 (i := j + 1) (by omega)
      have g3 := fun h => ec_c190 (h := h) cr2
      have dr2 := ed_dof_rg (c := ed_ch L T (j + 1))
      have m4 : ed_mr (ed_ch L T j) = 4 ∧ ed_ch L T j = 111 ∨ ed_mr (ed_ch L T j) = 8 ∧ ed_ch L T j = 99 := by
        unfold ed_mr
        rcases q1 with q1 | q1
        · rw [if_pos q1]; exact Or.inl ⟨rfl, q1⟩
        · rw [if_neg (by omega), if_pos q1]; exact Or.inr ⟨rfl, q1⟩
      by_cases q2 : ed_dof (ed_ch L T (j + 1)) = -1
      · rw [if_pos q2, if_pos rfl, ec_qf (fun y => y rfl)]
        generalize ed_ch L T (j + 1) = c2 at g2 g3 cr2 dr2 q2
        rw [q2] at g3
        rcases m4 with ⟨m4, c4⟩ | ⟨m4, c4⟩
        · rw [c4] at g1
          simp (disch := first | (simp only [ec_w_kI, ec_w_kL, ec_w_kA, ec_w_shpI, ec_w_shpL, ec_w_shpA, ec_isR_r, ec_01z, ec_01o, ec_01q, hD]; done) | omega | (simp only [ec_w_shpI, ec_w_shpL, ec_w_shpA, hD]; refine ec_zinO ?_; omega) | (refine ec_nzO ?_; omega)) only [ec_s193_0, ec_s193_1, ec_s193_4, ec_s193_7, ec_s193_8, ec_s193_9, ec_s193_10, ec_s193_13, ec_s193_14, ec_s193_15, ec_s193_17, ec_s193_20, ec_s193_21, ec_s193_24, ec_s193_25, ec_s193_27, ec_s193_30, ec_s193_32, ec_s193_35, ec_s193_36, ec_s193_37, ec_s193_38, ec_s193_39, ec_s193_42, ec_s193_43, ec_s193_46, ec_s193_47, ec_s193_50, ec_s193_51, ec_s193_52, ec_s193_55, ec_s193_56, ec_s193_59, ec_s193_62, ec_s193_63, ec_s193_64, ec_s193_65, ec_s193_66, ec_s193_69, ec_s193_70, ec_s193_71, ec_s193_72, ec_s193_75, ec_s193_76, ec_s193_79, ec_s193_80, ec_s193_83, ec_s193_84, ec_s193_86, ec_s193_89, ec_s193_91, ec_s193_94, ec_s193_95, ec_s193_97, ec_s193_100, ec_s193_102, ec_s193_105, ec_s193_106, ec_s193_108, ec_s193_111, ec_s193_113, ec_s193_116, ec_s193_117, ec_s193_119, ec_s193_122, ec_s193_124, ec_s193_127, ec_s193_128, ec_s193_131, ec_s193_132, ec_s193_133, ec_s193_136, ec_s193_137, ec_s193_140, ec_s193_141, ec_s193_144, ec_s193_145, ec_s193_148, ec_s193_149, ec_s193_150, ec_s193_153, ec_s193_154, ec_s193_157, ec_s193_158, ec_s193_161, ec_s193_162, ec_s193_165, ec_s193_166, ec_zn0, ec_zn1, ec_zn2, ec_zn3, ec_zn4, ec_zn5, ec_zn6, ec_zn7, ec_zn8, ec_zn9, ec_zn10, ec_zn12, ec_zn13, ec_zn14, ec_zn15, ec_zn16, ec_zn20, ec_zn30, ec_zn48, ec_zn99, ec_zn120, ec_zn127, ec_zn11, ec_zn31, ec_zn46, ec_zn57, ec_zn59, ec_zn63, ec_zn101, ec_zn107, ec_zn108, ec_zn110, ec_zn111, ec_zn115, ec_zn116, ec_zn119, ec_zn167, ec_zn185, ec_zn192, ec_zn215, ec_zn233, ec_zn699, ec_zn932, ec_zn999, ec_znF, ec_zneg, ec_zadd, ec_zsub, ec_zmul, ec_zdivO, ec_em, ec_zltO, ec_zeqO, ec_zeq0, ec_qt, ec_qf, if_pos, if_neg, Int.add_zero, ec_aft_v, ec_aft_n, ec_rwE, ec_rwN, ec_rwP, ec_rwK, ec_rwS, ec_w_shpI, ec_w_shpL, ec_w_shpA, hD, a1, a3, g1, g2, g3] at e
          subst e
          exact ⟨_, rfl, ((F _).I ⟨rfl, Or.inr (Or.inr rfl)⟩).I ⟨rfl, Or.inl rfl⟩, by rw [ec_rwS], fun y => absurd (okq.mp y) (fun z => z (by unfold ed_ac; rw [if_neg hm]; sorry))⟩
        · sorry
      · sorry
    · sorry
  · sorry
