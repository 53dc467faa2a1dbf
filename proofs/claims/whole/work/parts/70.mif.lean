/-! Contracts of the reference: what if. -/
def ed_kSc (σ : ec_Sg) (x y u v : Int) : Int := if ed_qc σ x y ∧ ed_qc σ u v then 0 else 1
def ed_kHe (σ : ec_Sg) (x y l : Int) : Int := if ed_qc σ x y then (if 0 ≤ l ∧ l ≤ 99 then 0 else 2) else 1
def ed_kWy (σ : ec_Sg) (m x y : Int) : Int := if (0 ≤ m ∧ m < σ 4) ∧ ed_qc σ x y then 0 else 1
def ed_kNx (σ : ec_Sg) (m : Int) : Int := if 0 ≤ m ∧ m < σ 4 then 0 else 1
def ed_kQu (σ : ec_Sg) (x y : Int) : Int := if ed_qc σ x y then 0 else 1
noncomputable def ed_hrs (σ : ec_Sg) (g l : Int) : Nat → Int → Int32 → Int32
  | 0, _, x => x
  | n + 1, k, x => ed_hrs σ g l n (k + 1) (if σ (185 + 5 * k + 1) ≤ l - ed_lb σ 2 g (σ (185 + 5 * k)).toNat then x ||| ed_bit k else x)
noncomputable def ed_qui (σ : ec_Sg) (g : Int) : Nat → Int → Int → Int
  | 0, _, x => x
  | n + 1, k, x => ed_qui σ g n (k + 1) (if ed_lb σ 2 g (σ (185 + 5 * k)).toNat + σ (185 + 5 * k + 1) - 1 < x then ed_lb σ 2 g (σ (185 + 5 * k)).toNat + σ (185 + 5 * k + 1) - 1 else x)
theorem ed_80F : ∀ q j, ed_80 q j → ed_Fm q j := fun q j (e : q = 80) => ⟨by omega, by omega⟩
theorem ed_81F : ∀ q j, ed_81 q j → ed_Fm q j := fun q j (e : q = 81) => ⟨by omega, by omega⟩
theorem ed_ML.c {h h' : ec_Hp} {σ : ec_Sg} {n : Int} {p : Int → ec_Sg} {L : Int} {T : Int → Int} (M : ed_ML h σ n p L T) (a : ec_fg ed_80 h h') : ed_ML h' σ n p L T := M.x a (by decide) (by decide) (fun _ => (by decide : ¬ (73 : Nat) = 80)) (fun _ => (by decide : ¬ (74 : Nat) = 80)) (fun _ => (by decide : ¬ (77 : Nat) = 80))
theorem ed_ML.y {h h' : ec_Hp} {σ : ec_Sg} {n : Int} {p : Int → ec_Sg} {L : Int} {T : Int → Int} (M : ed_ML h σ n p L T) (a : ec_fg ed_81 h h') : ed_ML h' σ n p L T := M.x a (by decide) (by decide) (fun _ => (by decide : ¬ (73 : Nat) = 81)) (fun _ => (by decide : ¬ (74 : Nat) = 81)) (fun _ => (by decide : ¬ (77 : Nat) = 81))
/-- a cost of a sound -/
theorem ed_snd_c {h : ec_Hp} {σ : ec_Sg} (w : ec_WF σ) {g z : Int} (hg : ec_ing σ g) (hz : ec_ing σ z) (a : ed_Ar h 80 48 (ed_cap (ed_lb σ 2 g))) : h.2.1 80 (ec_i z).toNatClampNeg = ec_i (ed_lb σ 2 g z.toNat) ∧ 0 ≤ ed_lb σ 2 g z.toNat ∧ ed_lb σ 2 g z.toNat ≤ 337 := by
  have f := ed_snd_fin w hg hz
  have zz := hz.1
  refine ⟨?_, (ed_lb_bd w hg.1 (by omega)).1, f⟩
  rw [a z hz.1]
  unfold ed_cap
  rw [if_neg (by omega)]
section EDE
variable {h : ec_Hp} {σ : ec_Sg} {n : Int} {p : Int → ec_Sg} {L : Int} {T : Int → Int}
theorem ec_c180 (M : ed_ML h σ n p L T) {x y u v : Int} (rx : ec_rg x) (ry : ec_rg y) (ru : ec_rg u) (rv : ec_rg v) :
    (ed_kSc σ x y u v = 0 → ed_An 180 [.ref 72, .int (ec_i x), .int (ec_i y), .int (ec_i u), .int (ec_i v)] h 0 (ed_lb σ 2 (8 * y + x) (8 * v + u).toNat) σ n p L T) ∧
    (ed_kSc σ x y u v ≠ 0 → ed_An 180 [.ref 72, .int (ec_i x), .int (ec_i y), .int (ec_i u), .int (ec_i v)] h (ed_kSc σ x y u v) 0 σ n p L T) := by
  have g1 := ec_c124 M.1 M.2.1 M.2.2.1 rx ry
  have g2 := ec_c124 M.1 M.2.1 M.2.2.1 ru rv
  have g3 := fun c => ed_er M.1 (x := c)
  have hD := M.1
  have w := M.2.2.1.1
  unfold ec_MD at hD
  unfold ed_kSc
  by_cases q1 : ed_qc σ x y
  · have zi := ed_qc_in M.2.2.1 q1
    rw [ec_qt q1] at g1
    by_cases q2 : ed_qc σ u v
    · have zj := ed_qc_in M.2.2.1 q2
      rw [ec_qt q2] at g2
      rw [if_pos (show ed_qc σ x y ∧ ed_qc σ u v from ⟨q1, q2⟩)]
      refine ⟨fun _ => ?_, fun e => absurd rfl e⟩
      obtain ⟨h1, a1, a2, a3⟩ := ec_c139 M.1 M.2.1 M.2.2.1 zi
      have M1 := M.c a3
      have hD1 := M1.1
      have g4 := fun c => ed_te M1.1 (x := c)
      have rd := (ed_snd_c M.2.2.1 zi zj a2).1
      have z1 := zj.1
      refine ed_An.t M1 (a3.mono ed_80F) ?_
      unfold ec_MD at hD1
      have hD := And.intro hD hD1
      simp (disch := first | (simp only [ec_w_kI, ec_w_kL, ec_w_kA, ec_w_shpI, ec_w_shpL, ec_w_shpA, ec_isR_r, ec_01z, ec_01o, ec_01q, hD]; done) | omega | (simp only [ec_w_shpI, ec_w_shpL, ec_w_shpA, hD]; refine ec_zinO ?_; omega) | (refine ec_nzO ?_; omega)) only [ec_s180_0, ec_s180_1, ec_s180_2, ec_s180_3, ec_s180_6, ec_s180_9, ec_s180_10, ec_s180_11, ec_s180_13, ec_s180_16, ec_s180_19, ec_s180_20, ec_s180_21, ec_s180_24, ec_s180_25, ec_s180_26, ec_s180_28, ec_s180_29, ec_s180_30, ec_s180_31, ec_s180_32, ec_s180_35, ec_s180_36, ec_s180_37, ec_s180_40, ec_s180_42, ec_s180_44, ec_s180_45, ec_s180_46, ec_s180_47, ec_s180_48, ec_s180_51, ec_zn0, ec_zn1, ec_zn2, ec_zn3, ec_zn4, ec_zn5, ec_zn6, ec_zn7, ec_zn8, ec_zn9, ec_zn10, ec_zn12, ec_zn13, ec_zn14, ec_zn15, ec_zn16, ec_zn20, ec_zn30, ec_zn48, ec_zn99, ec_zn120, ec_zn127, ec_zn11, ec_zn31, ec_zn46, ec_zn57, ec_zn59, ec_zn63, ec_zn101, ec_zn107, ec_zn108, ec_zn110, ec_zn111, ec_zn115, ec_zn116, ec_zn119, ec_zn167, ec_zn185, ec_zn192, ec_zn215, ec_zn233, ec_zn699, ec_zn932, ec_zn999, ec_znF, ec_zneg, ec_zadd, ec_zsub, ec_zmul, ec_zdivO, ec_em, ec_zltO, ec_zeqO, ec_zeq0, ec_qt, ec_qf, if_pos, if_neg, Int.add_zero, ec_aft_v, ec_aft_n, ec_rwE, ec_rwN, ec_rwP, ec_rwK, ec_rwS, ec_w_shpI, ec_w_shpL, ec_w_shpA, hD, g1, g2, g4, a1, rd]
    · rw [ec_qf q2] at g2
      rw [if_neg (fun z : ed_qc σ x y ∧ ed_qc σ u v => q2 z.2)]
      refine ⟨fun e => absurd e (by decide), fun _ => ed_An.er M ?_⟩
      simp (disch := first | (simp only [ec_w_kI, ec_w_kL, ec_w_kA, ec_w_shpI, ec_w_shpL, ec_w_shpA, ec_isR_r, ec_01z, ec_01o, ec_01q, hD]; done) | omega | (simp only [ec_w_shpI, ec_w_shpL, ec_w_shpA, hD]; refine ec_zinO ?_; omega) | (refine ec_nzO ?_; omega)) only [ec_s180_0, ec_s180_1, ec_s180_2, ec_s180_3, ec_s180_6, ec_s180_9, ec_s180_10, ec_s180_11, ec_s180_13, ec_s180_16, ec_s180_19, ec_s180_20, ec_s180_21, ec_s180_24, ec_s180_25, ec_s180_26, ec_s180_28, ec_s180_29, ec_s180_30, ec_s180_31, ec_s180_32, ec_s180_35, ec_s180_36, ec_s180_37, ec_s180_40, ec_s180_42, ec_s180_44, ec_s180_45, ec_s180_46, ec_s180_47, ec_s180_48, ec_s180_51, ec_zn0, ec_zn1, ec_zn2, ec_zn3, ec_zn4, ec_zn5, ec_zn6, ec_zn7, ec_zn8, ec_zn9, ec_zn10, ec_zn12, ec_zn13, ec_zn14, ec_zn15, ec_zn16, ec_zn20, ec_zn30, ec_zn48, ec_zn99, ec_zn120, ec_zn127, ec_zn11, ec_zn31, ec_zn46, ec_zn57, ec_zn59, ec_zn63, ec_zn101, ec_zn107, ec_zn108, ec_zn110, ec_zn111, ec_zn115, ec_zn116, ec_zn119, ec_zn167, ec_zn185, ec_zn192, ec_zn215, ec_zn233, ec_zn699, ec_zn932, ec_zn999, ec_znF, ec_zneg, ec_zadd, ec_zsub, ec_zmul, ec_zdivO, ec_em, ec_zltO, ec_zeqO, ec_zeq0, ec_qt, ec_qf, if_pos, if_neg, Int.add_zero, ec_aft_v, ec_aft_n, ec_rwE, ec_rwN, ec_rwP, ec_rwK, ec_rwS, ec_w_shpI, ec_w_shpL, ec_w_shpA, hD, g1, g2, g3]
  · rw [ec_qf q1] at g1
    rw [if_neg (fun z : ed_qc σ x y ∧ ed_qc σ u v => q1 z.1)]
    refine ⟨fun e => absurd e (by decide), fun _ => ed_An.er M ?_⟩
    simp (disch := first | (simp only [ec_w_kI, ec_w_kL, ec_w_kA, ec_w_shpI, ec_w_shpL, ec_w_shpA, ec_isR_r, ec_01z, ec_01o, ec_01q, hD]; done) | omega | (simp only [ec_w_shpI, ec_w_shpL, ec_w_shpA, hD]; refine ec_zinO ?_; omega) | (refine ec_nzO ?_; omega)) only [ec_s180_0, ec_s180_1, ec_s180_2, ec_s180_3, ec_s180_6, ec_s180_9, ec_s180_10, ec_s180_11, ec_s180_13, ec_s180_16, ec_s180_19, ec_s180_20, ec_s180_21, ec_s180_24, ec_s180_25, ec_s180_26, ec_s180_28, ec_s180_29, ec_s180_30, ec_s180_31, ec_s180_32, ec_s180_35, ec_s180_36, ec_s180_37, ec_s180_40, ec_s180_42, ec_s180_44, ec_s180_45, ec_s180_46, ec_s180_47, ec_s180_48, ec_s180_51, ec_zn0, ec_zn1, ec_zn2, ec_zn3, ec_zn4, ec_zn5, ec_zn6, ec_zn7, ec_zn8, ec_zn9, ec_zn10, ec_zn12, ec_zn13, ec_zn14, ec_zn15, ec_zn16, ec_zn20, ec_zn30, ec_zn48, ec_zn99, ec_zn120, ec_zn127, ec_zn11, ec_zn31, ec_zn46, ec_zn57, ec_zn59, ec_zn63, ec_zn101, ec_zn107, ec_zn108, ec_zn110, ec_zn111, ec_zn115, ec_zn116, ec_zn119, ec_zn167, ec_zn185, ec_zn192, ec_zn215, ec_zn233, ec_zn699, ec_zn932, ec_zn999, ec_znF, ec_zneg, ec_zadd, ec_zsub, ec_zmul, ec_zdivO, ec_em, ec_zltO, ec_zeqO, ec_zeq0, ec_qt, ec_qf, if_pos, if_neg, Int.add_zero, ec_aft_v, ec_aft_n, ec_rwE, ec_rwN, ec_rwP, ec_rwK, ec_rwS, ec_w_shpI, ec_w_shpL, ec_w_shpA, hD, g1, g3]
theorem ec_c181L {h : ec_Hp} {σ : ec_Sg} (hD : ec_MD h) (hs : ec_Ms h σ) (hW : ec_WF σ) {g l : Int} {v1 v2 : Value} (hg : ec_ing σ g) (hl : 0 ≤ l ∧ l ≤ 99) (hA : ed_Ar h 80 48 (ed_cap (ed_lb σ 2 g))) : ∀ (n : Nat) (k : Int) (x : Int32), 0 ≤ k → k + n = σ 4 →
    ec_om 181 47 [.ref 72, v1, v2, .int (ec_i l), .int x, .int (ec_i k)] [] h = ec_om 181 115 [.ref 72, v1, v2, .int (ec_i l), .int (ed_hrs σ g l n k x), .int (ec_i (σ 4))] [] h := by
  intro n
  induction n with
  | zero =>
    intro k x h0 hk
    have hk : k = σ 4 := by omega
    have w := hW.1
    unfold ec_MD at hD
    unfold ec_Ms at hs
    rw [ec_s181_47]
    simp (disch := first | (simp only [ec_w_kI, ec_w_kL, ec_w_kA, ec_w_shpI, ec_w_shpL, ec_w_shpA, ec_isR_r, ec_01z, ec_01o, ec_01q, hD]; done) | omega | (simp only [ec_w_shpI, ec_w_shpL, ec_w_shpA, hD]; refine ec_zinO ?_; omega) | (refine ec_nzO ?_; omega)) only [ec_s181_0, ec_s181_1, ec_s181_2, ec_s181_3, ec_s181_6, ec_s181_9, ec_s181_10, ec_s181_11, ec_s181_14, ec_s181_15, ec_s181_16, ec_s181_17, ec_s181_19, ec_s181_22, ec_s181_25, ec_s181_26, ec_s181_27, ec_s181_30, ec_s181_31, ec_s181_32, ec_s181_34, ec_s181_35, ec_s181_36, ec_s181_37, ec_s181_38, ec_s181_41, ec_s181_42, ec_s181_44, ec_s181_45, ec_s181_49, ec_s181_50, ec_s181_53, ec_s181_54, ec_s181_55, ec_s181_58, ec_s181_60, ec_s181_61, ec_s181_62, ec_s181_65, ec_s181_66, ec_s181_69, ec_s181_72, ec_s181_73, ec_s181_75, ec_s181_76, ec_s181_77, ec_s181_78, ec_s181_79, ec_s181_80, ec_s181_81, ec_s181_84, ec_s181_87, ec_s181_88, ec_s181_90, ec_s181_91, ec_s181_92, ec_s181_93, ec_s181_94, ec_s181_95, ec_s181_98, ec_s181_99, ec_s181_101, ec_s181_102, ec_s181_105, ec_s181_106, ec_s181_107, ec_s181_109, ec_s181_112, ec_s181_116, ec_s181_118, ec_s181_121, ec_zn0, ec_zn1, ec_zn2, ec_zn3, ec_zn4, ec_zn5, ec_zn6, ec_zn7, ec_zn8, ec_zn9, ec_zn10, ec_zn12, ec_zn13, ec_zn14, ec_zn15, ec_zn16, ec_zn20, ec_zn30, ec_zn48, ec_zn99, ec_zn120, ec_zn127, ec_zn11, ec_zn31, ec_zn46, ec_zn57, ec_zn59, ec_zn63, ec_zn101, ec_zn107, ec_zn108, ec_zn110, ec_zn111, ec_zn115, ec_zn116, ec_zn119, ec_zn167, ec_zn185, ec_zn192, ec_zn215, ec_zn233, ec_zn699, ec_zn932, ec_zn999, ec_znF, ec_zneg, ec_zadd, ec_zsub, ec_zmul, ec_zdivO, ec_em, ec_zltO, ec_zeqO, ec_zeq0, ec_qt, ec_qf, if_pos, if_neg, Int.add_zero, ec_aft_v, ec_aft_n, ec_rwE, ec_rwN, ec_rwP, ec_rwK, ec_rwS, ec_w_shpI, ec_w_shpL, ec_w_shpA, hD, hs]
    rw [hk]
    rfl
  | succ n ih =>
    intro k x h0 hk
    have w := hW.1
    have D := ed_mon hW (m := k) (by omega)
    have Dc := D.1.1
    have rd := ed_snd_c hW hg D.1 hA
    have rd1 := rd.1
    rw [show ed_hrs σ g l (n + 1) k x = ed_hrs σ g l n (k + 1) (if σ (185 + 5 * k + 1) ≤ l - ed_lb σ 2 g (σ (185 + 5 * k)).toNat then x ||| ed_bit k else x) from rfl]
    have e1 := ih (k + 1) (if σ (185 + 5 * k + 1) ≤ l - ed_lb σ 2 g (σ (185 + 5 * k)).toNat then x ||| ed_bit k else x) (by omega) (by omega)
    unfold ec_MD at hD
    unfold ec_Ms at hs
    rw [ec_s181_47]
    by_cases q : σ (185 + 5 * k + 1) ≤ l - ed_lb σ 2 g (σ (185 + 5 * k)).toNat
    · rw [if_pos q] at e1 ⊢
      unfold ed_bit at e1 ⊢
      simp (disch := first | (simp only [ec_w_kI, ec_w_kL, ec_w_kA, ec_w_shpI, ec_w_shpL, ec_w_shpA, ec_isR_r, ec_01z, ec_01o, ec_01q, hD]; done) | omega | (simp only [ec_w_shpI, ec_w_shpL, ec_w_shpA, hD]; refine ec_zinO ?_; omega) | (refine ec_nzO ?_; omega)) only [ec_s181_0, ec_s181_1, ec_s181_2, ec_s181_3, ec_s181_6, ec_s181_9, ec_s181_10, ec_s181_11, ec_s181_14, ec_s181_15, ec_s181_16, ec_s181_17, ec_s181_19, ec_s181_22, ec_s181_25, ec_s181_26, ec_s181_27, ec_s181_30, ec_s181_31, ec_s181_32, ec_s181_34, ec_s181_35, ec_s181_36, ec_s181_37, ec_s181_38, ec_s181_41, ec_s181_42, ec_s181_44, ec_s181_45, ec_s181_49, ec_s181_50, ec_s181_53, ec_s181_54, ec_s181_55, ec_s181_58, ec_s181_60, ec_s181_61, ec_s181_62, ec_s181_65, ec_s181_66, ec_s181_69, ec_s181_72, ec_s181_73, ec_s181_75, ec_s181_76, ec_s181_77, ec_s181_78, ec_s181_79, ec_s181_80, ec_s181_81, ec_s181_84, ec_s181_87, ec_s181_88, ec_s181_90, ec_s181_91, ec_s181_92, ec_s181_93, ec_s181_94, ec_s181_95, ec_s181_98, ec_s181_99, ec_s181_101, ec_s181_102, ec_s181_105, ec_s181_106, ec_s181_107, ec_s181_109, ec_s181_112, ec_s181_116, ec_s181_118, ec_s181_121, ec_zn0, ec_zn1, ec_zn2, ec_zn3, ec_zn4, ec_zn5, ec_zn6, ec_zn7, ec_zn8, ec_zn9, ec_zn10, ec_zn12, ec_zn13, ec_zn14, ec_zn15, ec_zn16, ec_zn20, ec_zn30, ec_zn48, ec_zn99, ec_zn120, ec_zn127, ec_zn11, ec_zn31, ec_zn46, ec_zn57, ec_zn59, ec_zn63, ec_zn101, ec_zn107, ec_zn108, ec_zn110, ec_zn111, ec_zn115, ec_zn116, ec_zn119, ec_zn167, ec_zn185, ec_zn192, ec_zn215, ec_zn233, ec_zn699, ec_zn932, ec_zn999, ec_znF, ec_zneg, ec_zadd, ec_zsub, ec_zmul, ec_zdivO, ec_em, ec_zltO, ec_zeqO, ec_zeq0, ec_qt, ec_qf, if_pos, if_neg, Int.add_zero, ec_aft_v, ec_aft_n, ec_rwE, ec_rwN, ec_rwP, ec_rwK, ec_rwS, ec_w_shpI, ec_w_shpL, ec_w_shpA, hD, hs, rd1, e1]
    · rw [if_neg q] at e1 ⊢
      simp (disch := first | (simp only [ec_w_kI, ec_w_kL, ec_w_kA, ec_w_shpI, ec_w_shpL, ec_w_shpA, ec_isR_r, ec_01z, ec_01o, ec_01q, hD]; done) | omega | (simp only [ec_w_shpI, ec_w_shpL, ec_w_shpA, hD]; refine ec_zinO ?_; omega) | (refine ec_nzO ?_; omega)) only [ec_s181_0, ec_s181_1, ec_s181_2, ec_s181_3, ec_s181_6, ec_s181_9, ec_s181_10, ec_s181_11, ec_s181_14, ec_s181_15, ec_s181_16, ec_s181_17, ec_s181_19, ec_s181_22, ec_s181_25, ec_s181_26, ec_s181_27, ec_s181_30, ec_s181_31, ec_s181_32, ec_s181_34, ec_s181_35, ec_s181_36, ec_s181_37, ec_s181_38, ec_s181_41, ec_s181_42, ec_s181_44, ec_s181_45, ec_s181_49, ec_s181_50, ec_s181_53, ec_s181_54, ec_s181_55, ec_s181_58, ec_s181_60, ec_s181_61, ec_s181_62, ec_s181_65, ec_s181_66, ec_s181_69, ec_s181_72, ec_s181_73, ec_s181_75, ec_s181_76, ec_s181_77, ec_s181_78, ec_s181_79, ec_s181_80, ec_s181_81, ec_s181_84, ec_s181_87, ec_s181_88, ec_s181_90, ec_s181_91, ec_s181_92, ec_s181_93, ec_s181_94, ec_s181_95, ec_s181_98, ec_s181_99, ec_s181_101, ec_s181_102, ec_s181_105, ec_s181_106, ec_s181_107, ec_s181_109, ec_s181_112, ec_s181_116, ec_s181_118, ec_s181_121, ec_zn0, ec_zn1, ec_zn2, ec_zn3, ec_zn4, ec_zn5, ec_zn6, ec_zn7, ec_zn8, ec_zn9, ec_zn10, ec_zn12, ec_zn13, ec_zn14, ec_zn15, ec_zn16, ec_zn20, ec_zn30, ec_zn48, ec_zn99, ec_zn120, ec_zn127, ec_zn11, ec_zn31, ec_zn46, ec_zn57, ec_zn59, ec_zn63, ec_zn101, ec_zn107, ec_zn108, ec_zn110, ec_zn111, ec_zn115, ec_zn116, ec_zn119, ec_zn167, ec_zn185, ec_zn192, ec_zn215, ec_zn233, ec_zn699, ec_zn932, ec_zn999, ec_znF, ec_zneg, ec_zadd, ec_zsub, ec_zmul, ec_zdivO, ec_em, ec_zltO, ec_zeqO, ec_zeq0, ec_qt, ec_qf, if_pos, if_neg, Int.add_zero, ec_aft_v, ec_aft_n, ec_rwE, ec_rwN, ec_rwP, ec_rwK, ec_rwS, ec_w_shpI, ec_w_shpL, ec_w_shpA, hD, hs, rd1, ed_or0, e1]
theorem ec_c181 (M : ed_ML h σ n p L T) {x y l : Int} (rx : ec_rg x) (ry : ec_rg y) (rl : ec_rg l) :
    (ed_kHe σ x y l = 0 → ed_An 181 [.ref 72, .int (ec_i x), .int (ec_i y), .int (ec_i l), .double 0, .double 0] h 0 (ed_hrs σ (8 * y + x) l (σ 4).toNat 0 (ec_i 0)).toInt σ n p L T) ∧
    (ed_kHe σ x y l ≠ 0 → ed_An 181 [.ref 72, .int (ec_i x), .int (ec_i y), .int (ec_i l), .double 0, .double 0] h (ed_kHe σ x y l) 0 σ n p L T) := by
  have g1 := ec_c124 M.1 M.2.1 M.2.2.1 rx ry
  have g3 := fun c => ed_er M.1 (x := c)
  have g5 := fun h => ec_c118 (h := h) rl ec_rn0 ec_rn99
  have hD := M.1
  have w := M.2.2.1.1
  unfold ec_MD at hD
  unfold ed_kHe
  by_cases q1 : ed_qc σ x y
  · have zi := ed_qc_in M.2.2.1 q1
    rw [ec_qt q1] at g1
    rw [if_pos q1]
    by_cases q2 : 0 ≤ l ∧ l ≤ 99
    · rw [if_pos q2]
      refine ⟨fun _ => ?_, fun e => absurd rfl e⟩
      obtain ⟨h1, a1, a2, a3⟩ := ec_c139 M.1 M.2.1 M.2.2.1 zi
      have M1 := M.c a3
      have hD1 := M1.1
      have e1 := ec_c181L (v1 := .int (ec_i x)) (v2 := .int (ec_i y)) M1.1 M1.2.1 M1.2.2.1 zi q2 a2 (σ 4).toNat 0 (ec_i 0) (by omega) (by omega)
      have g4 := fun c => ed_te M1.1 (x := c)
      refine ed_An.t M1 (a3.mono ed_80F) ?_
      unfold ec_MD at hD1
      have hD := And.intro hD hD1
      have e9 : ec_om 120 0 [.ref 72, .int (ed_hrs σ (8 * y + x) l (σ 4).toNat 0 (ec_i 0))] [] h1 = some (.inl (some (.int (ed_hrs σ (8 * y + x) l (σ 4).toNat 0 (ec_i 0)))), ec_setI h1 72 7 (ec_i 0)) := by
        have := g4 (ed_hrs σ (8 * y + x) l (σ 4).toNat 0 (ec_i 0)).toInt
        rw [ec_zI] at this
        exact this
      simp (disch := first | (simp only [ec_w_kI, ec_w_kL, ec_w_kA, ec_w_shpI, ec_w_shpL, ec_w_shpA, ec_isR_r, ec_01z, ec_01o, ec_01q, hD]; done) | omega | (simp only [ec_w_shpI, ec_w_shpL, ec_w_shpA, hD]; refine ec_zinO ?_; omega) | (refine ec_nzO ?_; omega)) only [ec_s181_0, ec_s181_1, ec_s181_2, ec_s181_3, ec_s181_6, ec_s181_9, ec_s181_10, ec_s181_11, ec_s181_14, ec_s181_15, ec_s181_16, ec_s181_17, ec_s181_19, ec_s181_22, ec_s181_25, ec_s181_26, ec_s181_27, ec_s181_30, ec_s181_31, ec_s181_32, ec_s181_34, ec_s181_35, ec_s181_36, ec_s181_37, ec_s181_38, ec_s181_41, ec_s181_42, ec_s181_44, ec_s181_45, ec_s181_49, ec_s181_50, ec_s181_53, ec_s181_54, ec_s181_55, ec_s181_58, ec_s181_60, ec_s181_61, ec_s181_62, ec_s181_65, ec_s181_66, ec_s181_69, ec_s181_72, ec_s181_73, ec_s181_75, ec_s181_76, ec_s181_77, ec_s181_78, ec_s181_79, ec_s181_80, ec_s181_81, ec_s181_84, ec_s181_87, ec_s181_88, ec_s181_90, ec_s181_91, ec_s181_92, ec_s181_93, ec_s181_94, ec_s181_95, ec_s181_98, ec_s181_99, ec_s181_101, ec_s181_102, ec_s181_105, ec_s181_106, ec_s181_107, ec_s181_109, ec_s181_112, ec_s181_116, ec_s181_118, ec_s181_121, ec_zn0, ec_zn1, ec_zn2, ec_zn3, ec_zn4, ec_zn5, ec_zn6, ec_zn7, ec_zn8, ec_zn9, ec_zn10, ec_zn12, ec_zn13, ec_zn14, ec_zn15, ec_zn16, ec_zn20, ec_zn30, ec_zn48, ec_zn99, ec_zn120, ec_zn127, ec_zn11, ec_zn31, ec_zn46, ec_zn57, ec_zn59, ec_zn63, ec_zn101, ec_zn107, ec_zn108, ec_zn110, ec_zn111, ec_zn115, ec_zn116, ec_zn119, ec_zn167, ec_zn185, ec_zn192, ec_zn215, ec_zn233, ec_zn699, ec_zn932, ec_zn999, ec_znF, ec_zneg, ec_zadd, ec_zsub, ec_zmul, ec_zdivO, ec_em, ec_zltO, ec_zeqO, ec_zeq0, ec_qt, ec_qf, if_pos, if_neg, Int.add_zero, ec_aft_v, ec_aft_n, ec_rwE, ec_rwN, ec_rwP, ec_rwK, ec_rwS, ec_w_shpI, ec_w_shpL, ec_w_shpA, hD, g1, g5, a1, e1]
      rw [ec_s181_115]
      simp (disch := first | (simp only [ec_w_kI, ec_w_kL, ec_w_kA, ec_w_shpI, ec_w_shpL, ec_w_shpA, ec_isR_r, ec_01z, ec_01o, ec_01q, hD]; done) | omega | (simp only [ec_w_shpI, ec_w_shpL, ec_w_shpA, hD]; refine ec_zinO ?_; omega) | (refine ec_nzO ?_; omega)) only [ec_s181_0, ec_s181_1, ec_s181_2, ec_s181_3, ec_s181_6, ec_s181_9, ec_s181_10, ec_s181_11, ec_s181_14, ec_s181_15, ec_s181_16, ec_s181_17, ec_s181_19, ec_s181_22, ec_s181_25, ec_s181_26, ec_s181_27, ec_s181_30, ec_s181_31, ec_s181_32, ec_s181_34, ec_s181_35, ec_s181_36, ec_s181_37, ec_s181_38, ec_s181_41, ec_s181_42, ec_s181_44, ec_s181_45, ec_s181_49, ec_s181_50, ec_s181_53, ec_s181_54, ec_s181_55, ec_s181_58, ec_s181_60, ec_s181_61, ec_s181_62, ec_s181_65, ec_s181_66, ec_s181_69, ec_s181_72, ec_s181_73, ec_s181_75, ec_s181_76, ec_s181_77, ec_s181_78, ec_s181_79, ec_s181_80, ec_s181_81, ec_s181_84, ec_s181_87, ec_s181_88, ec_s181_90, ec_s181_91, ec_s181_92, ec_s181_93, ec_s181_94, ec_s181_95, ec_s181_98, ec_s181_99, ec_s181_101, ec_s181_102, ec_s181_105, ec_s181_106, ec_s181_107, ec_s181_109, ec_s181_112, ec_s181_116, ec_s181_118, ec_s181_121, ec_zn0, ec_zn1, ec_zn2, ec_zn3, ec_zn4, ec_zn5, ec_zn6, ec_zn7, ec_zn8, ec_zn9, ec_zn10, ec_zn12, ec_zn13, ec_zn14, ec_zn15, ec_zn16, ec_zn20, ec_zn30, ec_zn48, ec_zn99, ec_zn120, ec_zn127, ec_zn11, ec_zn31, ec_zn46, ec_zn57, ec_zn59, ec_zn63, ec_zn101, ec_zn107, ec_zn108, ec_zn110, ec_zn111, ec_zn115, ec_zn116, ec_zn119, ec_zn167, ec_zn185, ec_zn192, ec_zn215, ec_zn233, ec_zn699, ec_zn932, ec_zn999, ec_znF, ec_zneg, ec_zadd, ec_zsub, ec_zmul, ec_zdivO, ec_em, ec_zltO, ec_zeqO, ec_zeq0, ec_qt, ec_qf, if_pos, if_neg, Int.add_zero, ec_aft_v, ec_aft_n, ec_rwE, ec_rwN, ec_rwP, ec_rwK, ec_rwS, ec_w_shpI, ec_w_shpL, ec_w_shpA, hD, e9]
      rw [ec_zI]
    · rw [if_neg q2]
      refine ⟨fun e => absurd e (by decide), fun _ => ed_An.er M ?_⟩
      simp (disch := first | (simp only [ec_w_kI, ec_w_kL, ec_w_kA, ec_w_shpI, ec_w_shpL, ec_w_shpA, ec_isR_r, ec_01z, ec_01o, ec_01q, hD]; done) | omega | (simp only [ec_w_shpI, ec_w_shpL, ec_w_shpA, hD]; refine ec_zinO ?_; omega) | (refine ec_nzO ?_; omega)) only [ec_s181_0, ec_s181_1, ec_s181_2, ec_s181_3, ec_s181_6, ec_s181_9, ec_s181_10, ec_s181_11, ec_s181_14, ec_s181_15, ec_s181_16, ec_s181_17, ec_s181_19, ec_s181_22, ec_s181_25, ec_s181_26, ec_s181_27, ec_s181_30, ec_s181_31, ec_s181_32, ec_s181_34, ec_s181_35, ec_s181_36, ec_s181_37, ec_s181_38, ec_s181_41, ec_s181_42, ec_s181_44, ec_s181_45, ec_s181_49, ec_s181_50, ec_s181_53, ec_s181_54, ec_s181_55, ec_s181_58, ec_s181_60, ec_s181_61, ec_s181_62, ec_s181_65, ec_s181_66, ec_s181_69, ec_s181_72, ec_s181_73, ec_s181_75, ec_s181_76, ec_s181_77, ec_s181_78, ec_s181_79, ec_s181_80, ec_s181_81, ec_s181_84, ec_s181_87, ec_s181_88, ec_s181_90, ec_s181_91, ec_s181_92, ec_s181_93, ec_s181_94, ec_s181_95, ec_s181_98, ec_s181_99, ec_s181_101, ec_s181_102, ec_s181_105, ec_s181_106, ec_s181_107, ec_s181_109, ec_s181_112, ec_s181_115, ec_s181_116, ec_s181_118, ec_s181_121, ec_zn0, ec_zn1, ec_zn2, ec_zn3, ec_zn4, ec_zn5, ec_zn6, ec_zn7, ec_zn8, ec_zn9, ec_zn10, ec_zn12, ec_zn13, ec_zn14, ec_zn15, ec_zn16, ec_zn20, ec_zn30, ec_zn48, ec_zn99, ec_zn120, ec_zn127, ec_zn11, ec_zn31, ec_zn46, ec_zn57, ec_zn59, ec_zn63, ec_zn101, ec_zn107, ec_zn108, ec_zn110, ec_zn111, ec_zn115, ec_zn116, ec_zn119, ec_zn167, ec_zn185, ec_zn192, ec_zn215, ec_zn233, ec_zn699, ec_zn932, ec_zn999, ec_znF, ec_zneg, ec_zadd, ec_zsub, ec_zmul, ec_zdivO, ec_em, ec_zltO, ec_zeqO, ec_zeq0, ec_qt, ec_qf, if_pos, if_neg, Int.add_zero, ec_aft_v, ec_aft_n, ec_rwE, ec_rwN, ec_rwP, ec_rwK, ec_rwS, ec_w_shpI, ec_w_shpL, ec_w_shpA, hD, g1, g3, g5]
  · rw [ec_qf q1] at g1
    rw [if_neg q1]
    refine ⟨fun e => absurd e (by decide), fun _ => ed_An.er M ?_⟩
    simp (disch := first | (simp only [ec_w_kI, ec_w_kL, ec_w_kA, ec_w_shpI, ec_w_shpL, ec_w_shpA, ec_isR_r, ec_01z, ec_01o, ec_01q, hD]; done) | omega | (simp only [ec_w_shpI, ec_w_shpL, ec_w_shpA, hD]; refine ec_zinO ?_; omega) | (refine ec_nzO ?_; omega)) only [ec_s181_0, ec_s181_1, ec_s181_2, ec_s181_3, ec_s181_6, ec_s181_9, ec_s181_10, ec_s181_11, ec_s181_14, ec_s181_15, ec_s181_16, ec_s181_17, ec_s181_19, ec_s181_22, ec_s181_25, ec_s181_26, ec_s181_27, ec_s181_30, ec_s181_31, ec_s181_32, ec_s181_34, ec_s181_35, ec_s181_36, ec_s181_37, ec_s181_38, ec_s181_41, ec_s181_42, ec_s181_44, ec_s181_45, ec_s181_49, ec_s181_50, ec_s181_53, ec_s181_54, ec_s181_55, ec_s181_58, ec_s181_60, ec_s181_61, ec_s181_62, ec_s181_65, ec_s181_66, ec_s181_69, ec_s181_72, ec_s181_73, ec_s181_75, ec_s181_76, ec_s181_77, ec_s181_78, ec_s181_79, ec_s181_80, ec_s181_81, ec_s181_84, ec_s181_87, ec_s181_88, ec_s181_90, ec_s181_91, ec_s181_92, ec_s181_93, ec_s181_94, ec_s181_95, ec_s181_98, ec_s181_99, ec_s181_101, ec_s181_102, ec_s181_105, ec_s181_106, ec_s181_107, ec_s181_109, ec_s181_112, ec_s181_115, ec_s181_116, ec_s181_118, ec_s181_121, ec_zn0, ec_zn1, ec_zn2, ec_zn3, ec_zn4, ec_zn5, ec_zn6, ec_zn7, ec_zn8, ec_zn9, ec_zn10, ec_zn12, ec_zn13, ec_zn14, ec_zn15, ec_zn16, ec_zn20, ec_zn30, ec_zn48, ec_zn99, ec_zn120, ec_zn127, ec_zn11, ec_zn31, ec_zn46, ec_zn57, ec_zn59, ec_zn63, ec_zn101, ec_zn107, ec_zn108, ec_zn110, ec_zn111, ec_zn115, ec_zn116, ec_zn119, ec_zn167, ec_zn185, ec_zn192, ec_zn215, ec_zn233, ec_zn699, ec_zn932, ec_zn999, ec_znF, ec_zneg, ec_zadd, ec_zsub, ec_zmul, ec_zdivO, ec_em, ec_zltO, ec_zeqO, ec_zeq0, ec_qt, ec_qf, if_pos, if_neg, Int.add_zero, ec_aft_v, ec_aft_n, ec_rwE, ec_rwN, ec_rwP, ec_rwK, ec_rwS, ec_w_shpI, ec_w_shpL, ec_w_shpA, hD, g1, g3]
theorem ed_way_c {h : ec_Hp} {σ : ec_Sg} (w : ec_WF σ) {κ g z : Int} (hg : ec_ing σ g) (hz : ec_ing σ z) (a : ed_Ar h 81 48 (ed_cap (ed_lb σ κ g))) : h.2.1 81 (ec_i z).toNatClampNeg = ec_i (if ed_lb σ κ g z.toNat = 1000000 then 999 else ed_lb σ κ g z.toNat) ∧ (0 ≤ ed_lb σ κ g z.toNat ∧ (ed_lb σ κ g z.toNat = 1000000 ∨ ed_lb σ κ g z.toNat ≤ 337)) ∧ ec_ct (ed_lb σ κ g) z = if ed_lb σ κ g z.toNat = 1000000 then -1 else ed_lb σ κ g z.toNat := by
  have zz := hz.1
  have b := ed_lb_bd w (m := κ) hg.1 (k := z.toNat) (by omega)
  refine ⟨a z hz.1, b, ?_⟩
  unfold ec_ct
  split
  · rw [if_neg (by omega)]
  · rw [if_pos (by omega)]
theorem ec_c182 (M : ed_ML h σ n p L T) {m x y : Int} (rm : ec_rg m) (rx : ec_rg x) (ry : ec_rg y) :
    (ed_kWy σ m x y = 0 → ed_An 182 [.ref 72, .int (ec_i m), .int (ec_i x), .int (ec_i y), .double 0] h 0 (ec_ct (ed_lb σ (σ (185 + 5 * m + 2)) (8 * y + x)) (σ (185 + 5 * m))) σ n p L T) ∧
    (ed_kWy σ m x y ≠ 0 → ed_An 182 [.ref 72, .int (ec_i m), .int (ec_i x), .int (ec_i y), .double 0] h (ed_kWy σ m x y) 0 σ n p L T) := by
  have g1 := ec_c124 M.1 M.2.1 M.2.2.1 rx ry
  have g2 := ec_c173 M.1 M.2.1 M.2.2.1 rm
  have g3 := fun c => ed_er M.1 (x := c)
  have hD := M.1
  have hs := M.2.1
  have w := M.2.2.1.1
  unfold ec_MD at hD
  unfold ec_Ms at hs
  unfold ed_kWy
  by_cases q1 : 0 ≤ m ∧ m < σ 4
  · rw [ec_qt q1] at g2
    by_cases q2 : ed_qc σ x y
    · have zi := ed_qc_in M.2.2.1 q2
      rw [ec_qt q2] at g1
      have D := ed_mon M.2.2.1 q1
      have Dc := D.1.1
      rw [if_pos (show (0 ≤ m ∧ m < σ 4) ∧ ed_qc σ x y from ⟨q1, q2⟩)]
      refine ⟨fun _ => ?_, fun e => absurd rfl e⟩
      obtain ⟨h1, a1, a2, a3⟩ := ec_c141 M.1 M.2.1 M.2.2.1 (κ := σ (185 + 5 * m + 2)) D.2.2.1 zi
      have M1 := M.y a3
      have hD1 := M1.1
      have hs1 := M1.2.1
      have g4 := fun c => ed_te M1.1 (x := c)
      obtain ⟨r1, r2, r3⟩ := ed_way_c M.2.2.1 (κ := σ (185 + 5 * m + 2)) zi D.1 a2
      refine ed_An.t M1 (a3.mono ed_81F) ?_
      unfold ec_MD at hD1
      have hD := And.intro hD hD1
      unfold ec_Ms at hs1
      rw [r3]
      generalize ed_lb σ (σ (185 + 5 * m + 2)) (8 * y + x) (σ (185 + 5 * m)).toNat = X at r1 r2 ⊢
      by_cases q3 : X = 1000000
      · rw [if_pos q3] at r1 ⊢
        simp (disch := first | (simp only [ec_w_kI, ec_w_kL, ec_w_kA, ec_w_shpI, ec_w_shpL, ec_w_shpA, ec_isR_r, ec_01z, ec_01o, ec_01q, hD]; done) | omega | (simp only [ec_w_shpI, ec_w_shpL, ec_w_shpA, hD]; refine ec_zinO ?_; omega) | (refine ec_nzO ?_; omega)) only [ec_s182_0, ec_s182_1, ec_s182_2, ec_s182_5, ec_s182_8, ec_s182_9, ec_s182_10, ec_s182_11, ec_s182_14, ec_s182_17, ec_s182_18, ec_s182_19, ec_s182_22, ec_s182_23, ec_s182_26, ec_s182_27, ec_s182_28, ec_s182_29, ec_s182_30, ec_s182_32, ec_s182_33, ec_s182_35, ec_s182_36, ec_s182_37, ec_s182_38, ec_s182_39, ec_s182_40, ec_s182_43, ec_s182_45, ec_s182_46, ec_s182_47, ec_s182_48, ec_s182_51, ec_s182_52, ec_s182_53, ec_s182_56, ec_s182_57, ec_s182_60, ec_s182_62, ec_s182_63, ec_s182_64, ec_s182_67, ec_s182_70, ec_s182_71, ec_s182_74, ec_s182_75, ec_s182_78, ec_s182_79, ec_s182_82, ec_s182_84, ec_s182_85, ec_s182_86, ec_s182_89, ec_zn0, ec_zn1, ec_zn2, ec_zn3, ec_zn4, ec_zn5, ec_zn6, ec_zn7, ec_zn8, ec_zn9, ec_zn10, ec_zn12, ec_zn13, ec_zn14, ec_zn15, ec_zn16, ec_zn20, ec_zn30, ec_zn48, ec_zn99, ec_zn120, ec_zn127, ec_zn11, ec_zn31, ec_zn46, ec_zn57, ec_zn59, ec_zn63, ec_zn101, ec_zn107, ec_zn108, ec_zn110, ec_zn111, ec_zn115, ec_zn116, ec_zn119, ec_zn167, ec_zn185, ec_zn192, ec_zn215, ec_zn233, ec_zn699, ec_zn932, ec_zn999, ec_znF, ec_zneg, ec_zadd, ec_zsub, ec_zmul, ec_zdivO, ec_em, ec_zltO, ec_zeqO, ec_zeq0, ec_qt, ec_qf, if_pos, if_neg, Int.add_zero, ec_aft_v, ec_aft_n, ec_rwE, ec_rwN, ec_rwP, ec_rwK, ec_rwS, ec_w_shpI, ec_w_shpL, ec_w_shpA, hD, hs, hs1, g1, g2, g4, a1, r1]
      · rw [if_neg q3] at r1 ⊢
        simp (disch := first | (simp only [ec_w_kI, ec_w_kL, ec_w_kA, ec_w_shpI, ec_w_shpL, ec_w_shpA, ec_isR_r, ec_01z, ec_01o, ec_01q, hD]; done) | omega | (simp only [ec_w_shpI, ec_w_shpL, ec_w_shpA, hD]; refine ec_zinO ?_; omega) | (refine ec_nzO ?_; omega)) only [ec_s182_0, ec_s182_1, ec_s182_2, ec_s182_5, ec_s182_8, ec_s182_9, ec_s182_10, ec_s182_11, ec_s182_14, ec_s182_17, ec_s182_18, ec_s182_19, ec_s182_22, ec_s182_23, ec_s182_26, ec_s182_27, ec_s182_28, ec_s182_29, ec_s182_30, ec_s182_32, ec_s182_33, ec_s182_35, ec_s182_36, ec_s182_37, ec_s182_38, ec_s182_39, ec_s182_40, ec_s182_43, ec_s182_45, ec_s182_46, ec_s182_47, ec_s182_48, ec_s182_51, ec_s182_52, ec_s182_53, ec_s182_56, ec_s182_57, ec_s182_60, ec_s182_62, ec_s182_63, ec_s182_64, ec_s182_67, ec_s182_70, ec_s182_71, ec_s182_74, ec_s182_75, ec_s182_78, ec_s182_79, ec_s182_82, ec_s182_84, ec_s182_85, ec_s182_86, ec_s182_89, ec_zn0, ec_zn1, ec_zn2, ec_zn3, ec_zn4, ec_zn5, ec_zn6, ec_zn7, ec_zn8, ec_zn9, ec_zn10, ec_zn12, ec_zn13, ec_zn14, ec_zn15, ec_zn16, ec_zn20, ec_zn30, ec_zn48, ec_zn99, ec_zn120, ec_zn127, ec_zn11, ec_zn31, ec_zn46, ec_zn57, ec_zn59, ec_zn63, ec_zn101, ec_zn107, ec_zn108, ec_zn110, ec_zn111, ec_zn115, ec_zn116, ec_zn119, ec_zn167, ec_zn185, ec_zn192, ec_zn215, ec_zn233, ec_zn699, ec_zn932, ec_zn999, ec_znF, ec_zneg, ec_zadd, ec_zsub, ec_zmul, ec_zdivO, ec_em, ec_zltO, ec_zeqO, ec_zeq0, ec_qt, ec_qf, if_pos, if_neg, Int.add_zero, ec_aft_v, ec_aft_n, ec_rwE, ec_rwN, ec_rwP, ec_rwK, ec_rwS, ec_w_shpI, ec_w_shpL, ec_w_shpA, hD, hs, hs1, g1, g2, g4, a1, r1]
    · rw [ec_qf q2] at g1
      rw [if_neg (fun z : (0 ≤ m ∧ m < σ 4) ∧ ed_qc σ x y => q2 z.2)]
      refine ⟨fun e => absurd e (by decide), fun _ => ed_An.er M ?_⟩
      simp (disch := first | (simp only [ec_w_kI, ec_w_kL, ec_w_kA, ec_w_shpI, ec_w_shpL, ec_w_shpA, ec_isR_r, ec_01z, ec_01o, ec_01q, hD]; done) | omega | (simp only [ec_w_shpI, ec_w_shpL, ec_w_shpA, hD]; refine ec_zinO ?_; omega) | (refine ec_nzO ?_; omega)) only [ec_s182_0, ec_s182_1, ec_s182_2, ec_s182_5, ec_s182_8, ec_s182_9, ec_s182_10, ec_s182_11, ec_s182_14, ec_s182_17, ec_s182_18, ec_s182_19, ec_s182_22, ec_s182_23, ec_s182_26, ec_s182_27, ec_s182_28, ec_s182_29, ec_s182_30, ec_s182_32, ec_s182_33, ec_s182_35, ec_s182_36, ec_s182_37, ec_s182_38, ec_s182_39, ec_s182_40, ec_s182_43, ec_s182_45, ec_s182_46, ec_s182_47, ec_s182_48, ec_s182_51, ec_s182_52, ec_s182_53, ec_s182_56, ec_s182_57, ec_s182_60, ec_s182_62, ec_s182_63, ec_s182_64, ec_s182_67, ec_s182_70, ec_s182_71, ec_s182_74, ec_s182_75, ec_s182_78, ec_s182_79, ec_s182_82, ec_s182_84, ec_s182_85, ec_s182_86, ec_s182_89, ec_zn0, ec_zn1, ec_zn2, ec_zn3, ec_zn4, ec_zn5, ec_zn6, ec_zn7, ec_zn8, ec_zn9, ec_zn10, ec_zn12, ec_zn13, ec_zn14, ec_zn15, ec_zn16, ec_zn20, ec_zn30, ec_zn48, ec_zn99, ec_zn120, ec_zn127, ec_zn11, ec_zn31, ec_zn46, ec_zn57, ec_zn59, ec_zn63, ec_zn101, ec_zn107, ec_zn108, ec_zn110, ec_zn111, ec_zn115, ec_zn116, ec_zn119, ec_zn167, ec_zn185, ec_zn192, ec_zn215, ec_zn233, ec_zn699, ec_zn932, ec_zn999, ec_znF, ec_zneg, ec_zadd, ec_zsub, ec_zmul, ec_zdivO, ec_em, ec_zltO, ec_zeqO, ec_zeq0, ec_qt, ec_qf, if_pos, if_neg, Int.add_zero, ec_aft_v, ec_aft_n, ec_rwE, ec_rwN, ec_rwP, ec_rwK, ec_rwS, ec_w_shpI, ec_w_shpL, ec_w_shpA, hD, g1, g2, g3]
  · rw [ec_qf q1] at g2
    rw [if_neg (fun z : (0 ≤ m ∧ m < σ 4) ∧ ed_qc σ x y => q1 z.1)]
    refine ⟨fun e => absurd e (by decide), fun _ => ed_An.er M ?_⟩
    simp (disch := first | (simp only [ec_w_kI, ec_w_kL, ec_w_kA, ec_w_shpI, ec_w_shpL, ec_w_shpA, ec_isR_r, ec_01z, ec_01o, ec_01q, hD]; done) | omega | (simp only [ec_w_shpI, ec_w_shpL, ec_w_shpA, hD]; refine ec_zinO ?_; omega) | (refine ec_nzO ?_; omega)) only [ec_s182_0, ec_s182_1, ec_s182_2, ec_s182_5, ec_s182_8, ec_s182_9, ec_s182_10, ec_s182_11, ec_s182_14, ec_s182_17, ec_s182_18, ec_s182_19, ec_s182_22, ec_s182_23, ec_s182_26, ec_s182_27, ec_s182_28, ec_s182_29, ec_s182_30, ec_s182_32, ec_s182_33, ec_s182_35, ec_s182_36, ec_s182_37, ec_s182_38, ec_s182_39, ec_s182_40, ec_s182_43, ec_s182_45, ec_s182_46, ec_s182_47, ec_s182_48, ec_s182_51, ec_s182_52, ec_s182_53, ec_s182_56, ec_s182_57, ec_s182_60, ec_s182_62, ec_s182_63, ec_s182_64, ec_s182_67, ec_s182_70, ec_s182_71, ec_s182_74, ec_s182_75, ec_s182_78, ec_s182_79, ec_s182_82, ec_s182_84, ec_s182_85, ec_s182_86, ec_s182_89, ec_zn0, ec_zn1, ec_zn2, ec_zn3, ec_zn4, ec_zn5, ec_zn6, ec_zn7, ec_zn8, ec_zn9, ec_zn10, ec_zn12, ec_zn13, ec_zn14, ec_zn15, ec_zn16, ec_zn20, ec_zn30, ec_zn48, ec_zn99, ec_zn120, ec_zn127, ec_zn11, ec_zn31, ec_zn46, ec_zn57, ec_zn59, ec_zn63, ec_zn101, ec_zn107, ec_zn108, ec_zn110, ec_zn111, ec_zn115, ec_zn116, ec_zn119, ec_zn167, ec_zn185, ec_zn192, ec_zn215, ec_zn233, ec_zn699, ec_zn932, ec_zn999, ec_znF, ec_zneg, ec_zadd, ec_zsub, ec_zmul, ec_zdivO, ec_em, ec_zltO, ec_zeqO, ec_zeq0, ec_qt, ec_qf, if_pos, if_neg, Int.add_zero, ec_aft_v, ec_aft_n, ec_rwE, ec_rwN, ec_rwP, ec_rwK, ec_rwS, ec_w_shpI, ec_w_shpL, ec_w_shpA, hD, g2, g3]
/-- the first step to the hero -/
noncomputable def ed_nxs (σ : ec_Sg) (m : Int) : Int := ed_dir σ (σ (185 + 5 * m + 2)) (σ 6) (σ (185 + 5 * m))
theorem ec_c183 {h : ec_Hp} {σ : ec_Sg} (hD : ec_MD h) (hs : ec_Ms h σ) (hW : ec_WF σ) {m : Int} (hm : 0 ≤ m ∧ m < σ 4) : ∃ h', ec_om 183 0 [.ref 72, .int (ec_i m), .double 0] [] h = some (.inl (some (.int (ec_i (ed_nxs σ m)))), h') ∧ ec_fg ed_81 h h' := by
  have D := ed_mon hW hm
  have Dc := D.1.1
  have H := hW.2.1.1
  have hh := H.1
  obtain ⟨h1, a1, a2, a3⟩ := ec_c141 hD hs hW (κ := σ (185 + 5 * m + 2)) D.2.2.1 H
  obtain ⟨r1, r2, r3⟩ := ed_way_c hW (κ := σ (185 + 5 * m + 2)) H D.1 a2
  have hD1 := hD.of a3.1.1
  have hs1 := hs.fg a3 (fun _ => (by decide : ¬ (73 : Nat) = 81))
  have g2 := fun q => ec_c142 hD1 hs1 hW D.2.2.1 H D.1 a2 q
  refine ⟨h1, ?_, a3⟩
  have w := hW.1
  unfold ec_MD at hD hD1
  have hD := And.intro hD hD1
  unfold ec_Ms at hs hs1
  unfold ed_nxs
  by_cases q1 : σ (185 + 5 * m) = σ 6
  · rw [q1, ed_dir_0 hW H]
    simp (disch := first | (simp only [ec_w_kI, ec_w_kL, ec_w_kA, ec_w_shpI, ec_w_shpL, ec_w_shpA, ec_isR_r, ec_01z, ec_01o, ec_01q, hD]; done) | omega | (simp only [ec_w_shpI, ec_w_shpL, ec_w_shpA, hD]; refine ec_zinO ?_; omega) | (refine ec_nzO ?_; omega)) only [ec_s183_0, ec_s183_3, ec_s183_4, ec_s183_5, ec_s183_6, ec_s183_7, ec_s183_8, ec_s183_9, ec_s183_10, ec_s183_13, ec_s183_15, ec_s183_16, ec_s183_17, ec_s183_20, ec_s183_21, ec_s183_22, ec_s183_23, ec_s183_24, ec_s183_27, ec_s183_28, ec_s183_31, ec_s183_32, ec_s183_33, ec_s183_34, ec_s183_37, ec_s183_39, ec_s183_40, ec_s183_43, ec_s183_44, ec_s183_47, ec_s183_48, ec_s183_51, ec_s183_52, ec_s183_53, ec_s183_54, ec_s183_57, ec_s183_60, ec_s183_61, ec_s183_64, ec_s183_65, ec_s183_66, ec_s183_69, ec_s183_70, ec_s183_71, ec_s183_72, ec_s183_75, ec_s183_76, ec_s183_77, ec_s183_78, ec_s183_79, ec_s183_82, ec_zn0, ec_zn1, ec_zn2, ec_zn3, ec_zn4, ec_zn5, ec_zn6, ec_zn7, ec_zn8, ec_zn9, ec_zn10, ec_zn12, ec_zn13, ec_zn14, ec_zn15, ec_zn16, ec_zn20, ec_zn30, ec_zn48, ec_zn99, ec_zn120, ec_zn127, ec_zn11, ec_zn31, ec_zn46, ec_zn57, ec_zn59, ec_zn63, ec_zn101, ec_zn107, ec_zn108, ec_zn110, ec_zn111, ec_zn115, ec_zn116, ec_zn119, ec_zn167, ec_zn185, ec_zn192, ec_zn215, ec_zn233, ec_zn699, ec_zn932, ec_zn999, ec_znF, ec_zneg, ec_zadd, ec_zsub, ec_zmul, ec_zdivO, ec_em, ec_zltO, ec_zeqO, ec_zeq0, ec_qt, ec_qf, if_pos, if_neg, Int.add_zero, ec_aft_v, ec_aft_n, ec_rwE, ec_rwN, ec_rwP, ec_rwK, ec_rwS, ec_w_shpI, ec_w_shpL, ec_w_shpA, hD, hs, hs1, a1]
  · by_cases q2 : ed_lb σ (σ (185 + 5 * m + 2)) (σ 6) (σ (185 + 5 * m)).toNat = 1000000
    · rw [if_pos q2] at r1 r3
      have dm : ed_dir σ (σ (185 + 5 * m + 2)) (σ 6) (σ (185 + 5 * m)) = -1 := by
        unfold ed_dir ec_fdir
        rw [r3, if_pos rfl]
      rw [dm]
      simp (disch := first | (simp only [ec_w_kI, ec_w_kL, ec_w_kA, ec_w_shpI, ec_w_shpL, ec_w_shpA, ec_isR_r, ec_01z, ec_01o, ec_01q, hD]; done) | omega | (simp only [ec_w_shpI, ec_w_shpL, ec_w_shpA, hD]; refine ec_zinO ?_; omega) | (refine ec_nzO ?_; omega)) only [ec_s183_0, ec_s183_3, ec_s183_4, ec_s183_5, ec_s183_6, ec_s183_7, ec_s183_8, ec_s183_9, ec_s183_10, ec_s183_13, ec_s183_15, ec_s183_16, ec_s183_17, ec_s183_20, ec_s183_21, ec_s183_22, ec_s183_23, ec_s183_24, ec_s183_27, ec_s183_28, ec_s183_31, ec_s183_32, ec_s183_33, ec_s183_34, ec_s183_37, ec_s183_39, ec_s183_40, ec_s183_43, ec_s183_44, ec_s183_47, ec_s183_48, ec_s183_51, ec_s183_52, ec_s183_53, ec_s183_54, ec_s183_57, ec_s183_60, ec_s183_61, ec_s183_64, ec_s183_65, ec_s183_66, ec_s183_69, ec_s183_70, ec_s183_71, ec_s183_72, ec_s183_75, ec_s183_76, ec_s183_77, ec_s183_78, ec_s183_79, ec_s183_82, ec_zn0, ec_zn1, ec_zn2, ec_zn3, ec_zn4, ec_zn5, ec_zn6, ec_zn7, ec_zn8, ec_zn9, ec_zn10, ec_zn12, ec_zn13, ec_zn14, ec_zn15, ec_zn16, ec_zn20, ec_zn30, ec_zn48, ec_zn99, ec_zn120, ec_zn127, ec_zn11, ec_zn31, ec_zn46, ec_zn57, ec_zn59, ec_zn63, ec_zn101, ec_zn107, ec_zn108, ec_zn110, ec_zn111, ec_zn115, ec_zn116, ec_zn119, ec_zn167, ec_zn185, ec_zn192, ec_zn215, ec_zn233, ec_zn699, ec_zn932, ec_zn999, ec_znF, ec_zneg, ec_zadd, ec_zsub, ec_zmul, ec_zdivO, ec_em, ec_zltO, ec_zeqO, ec_zeq0, ec_qt, ec_qf, if_pos, if_neg, Int.add_zero, ec_aft_v, ec_aft_n, ec_rwE, ec_rwN, ec_rwP, ec_rwK, ec_rwS, ec_w_shpI, ec_w_shpL, ec_w_shpA, hD, hs, hs1, a1, r1]
    · rw [if_neg q2] at r1
      have g2 := g2 q2
      unfold ed_dir
      simp (disch := first | (simp only [ec_w_kI, ec_w_kL, ec_w_kA, ec_w_shpI, ec_w_shpL, ec_w_shpA, ec_isR_r, ec_01z, ec_01o, ec_01q, hD]; done) | omega | (simp only [ec_w_shpI, ec_w_shpL, ec_w_shpA, hD]; refine ec_zinO ?_; omega) | (refine ec_nzO ?_; omega)) only [ec_s183_0, ec_s183_3, ec_s183_4, ec_s183_5, ec_s183_6, ec_s183_7, ec_s183_8, ec_s183_9, ec_s183_10, ec_s183_13, ec_s183_15, ec_s183_16, ec_s183_17, ec_s183_20, ec_s183_21, ec_s183_22, ec_s183_23, ec_s183_24, ec_s183_27, ec_s183_28, ec_s183_31, ec_s183_32, ec_s183_33, ec_s183_34, ec_s183_37, ec_s183_39, ec_s183_40, ec_s183_43, ec_s183_44, ec_s183_47, ec_s183_48, ec_s183_51, ec_s183_52, ec_s183_53, ec_s183_54, ec_s183_57, ec_s183_60, ec_s183_61, ec_s183_64, ec_s183_65, ec_s183_66, ec_s183_69, ec_s183_70, ec_s183_71, ec_s183_72, ec_s183_75, ec_s183_76, ec_s183_77, ec_s183_78, ec_s183_79, ec_s183_82, ec_zn0, ec_zn1, ec_zn2, ec_zn3, ec_zn4, ec_zn5, ec_zn6, ec_zn7, ec_zn8, ec_zn9, ec_zn10, ec_zn12, ec_zn13, ec_zn14, ec_zn15, ec_zn16, ec_zn20, ec_zn30, ec_zn48, ec_zn99, ec_zn120, ec_zn127, ec_zn11, ec_zn31, ec_zn46, ec_zn57, ec_zn59, ec_zn63, ec_zn101, ec_zn107, ec_zn108, ec_zn110, ec_zn111, ec_zn115, ec_zn116, ec_zn119, ec_zn167, ec_zn185, ec_zn192, ec_zn215, ec_zn233, ec_zn699, ec_zn932, ec_zn999, ec_znF, ec_zneg, ec_zadd, ec_zsub, ec_zmul, ec_zdivO, ec_em, ec_zltO, ec_zeqO, ec_zeq0, ec_qt, ec_qf, if_pos, if_neg, Int.add_zero, ec_aft_v, ec_aft_n, ec_rwE, ec_rwN, ec_rwP, ec_rwK, ec_rwS, ec_w_shpI, ec_w_shpL, ec_w_shpA, hD, hs, hs1, a1, r1, g2]
theorem ec_c184 (M : ed_ML h σ n p L T) {m : Int} (rm : ec_rg m) :
    (ed_kNx σ m = 0 → ed_An 184 [.ref 72, .int (ec_i m)] h 0 (ed_nxs σ m) σ n p L T) ∧
    (ed_kNx σ m ≠ 0 → ed_An 184 [.ref 72, .int (ec_i m)] h (ed_kNx σ m) 0 σ n p L T) := by
  have g2 := ec_c173 M.1 M.2.1 M.2.2.1 rm
  have g3 := fun c => ed_er M.1 (x := c)
  have hD := M.1
  unfold ec_MD at hD
  unfold ed_kNx
  by_cases q1 : 0 ≤ m ∧ m < σ 4
  · rw [ec_qt q1] at g2
    rw [if_pos q1]
    obtain ⟨h1, a1, a2⟩ := ec_c183 M.1 M.2.1 M.2.2.1 q1
    have M1 := M.y a2
    have hD1 := M1.1
    have g4 := fun c => ed_te M1.1 (x := c)
    refine ⟨fun _ => ed_An.t M1 (a2.mono ed_81F) ?_, fun e => absurd rfl e⟩
    unfold ec_MD at hD1
    have hD := And.intro hD hD1
    simp (disch := first | (simp only [ec_w_kI, ec_w_kL, ec_w_kA, ec_w_shpI, ec_w_shpL, ec_w_shpA, ec_isR_r, ec_01z, ec_01o, ec_01q, hD]; done) | omega | (simp only [ec_w_shpI, ec_w_shpL, ec_w_shpA, hD]; refine ec_zinO ?_; omega) | (refine ec_nzO ?_; omega)) only [ec_s184_0, ec_s184_1, ec_s184_2, ec_s184_5, ec_s184_8, ec_s184_9, ec_s184_10, ec_s184_11, ec_s184_14, ec_s184_17, ec_s184_20, ec_s184_21, ec_s184_22, ec_s184_25, ec_zn0, ec_zn1, ec_zn2, ec_zn3, ec_zn4, ec_zn5, ec_zn6, ec_zn7, ec_zn8, ec_zn9, ec_zn10, ec_zn12, ec_zn13, ec_zn14, ec_zn15, ec_zn16, ec_zn20, ec_zn30, ec_zn48, ec_zn99, ec_zn120, ec_zn127, ec_zn11, ec_zn31, ec_zn46, ec_zn57, ec_zn59, ec_zn63, ec_zn101, ec_zn107, ec_zn108, ec_zn110, ec_zn111, ec_zn115, ec_zn116, ec_zn119, ec_zn167, ec_zn185, ec_zn192, ec_zn215, ec_zn233, ec_zn699, ec_zn932, ec_zn999, ec_znF, ec_zneg, ec_zadd, ec_zsub, ec_zmul, ec_zdivO, ec_em, ec_zltO, ec_zeqO, ec_zeq0, ec_qt, ec_qf, if_pos, if_neg, Int.add_zero, ec_aft_v, ec_aft_n, ec_rwE, ec_rwN, ec_rwP, ec_rwK, ec_rwS, ec_w_shpI, ec_w_shpL, ec_w_shpA, hD, g2, g4, a1]
  · rw [ec_qf q1] at g2
    rw [if_neg q1]
    refine ⟨fun e => absurd e (by decide), fun _ => ed_An.er M ?_⟩
    simp (disch := first | (simp only [ec_w_kI, ec_w_kL, ec_w_kA, ec_w_shpI, ec_w_shpL, ec_w_shpA, ec_isR_r, ec_01z, ec_01o, ec_01q, hD]; done) | omega | (simp only [ec_w_shpI, ec_w_shpL, ec_w_shpA, hD]; refine ec_zinO ?_; omega) | (refine ec_nzO ?_; omega)) only [ec_s184_0, ec_s184_1, ec_s184_2, ec_s184_5, ec_s184_8, ec_s184_9, ec_s184_10, ec_s184_11, ec_s184_14, ec_s184_17, ec_s184_20, ec_s184_21, ec_s184_22, ec_s184_25, ec_zn0, ec_zn1, ec_zn2, ec_zn3, ec_zn4, ec_zn5, ec_zn6, ec_zn7, ec_zn8, ec_zn9, ec_zn10, ec_zn12, ec_zn13, ec_zn14, ec_zn15, ec_zn16, ec_zn20, ec_zn30, ec_zn48, ec_zn99, ec_zn120, ec_zn127, ec_zn11, ec_zn31, ec_zn46, ec_zn57, ec_zn59, ec_zn63, ec_zn101, ec_zn107, ec_zn108, ec_zn110, ec_zn111, ec_zn115, ec_zn116, ec_zn119, ec_zn167, ec_zn185, ec_zn192, ec_zn215, ec_zn233, ec_zn699, ec_zn932, ec_zn999, ec_znF, ec_zneg, ec_zadd, ec_zsub, ec_zmul, ec_zdivO, ec_em, ec_zltO, ec_zeqO, ec_zeq0, ec_qt, ec_qf, if_pos, if_neg, Int.add_zero, ec_aft_v, ec_aft_n, ec_rwE, ec_rwN, ec_rwP, ec_rwK, ec_rwS, ec_w_shpI, ec_w_shpL, ec_w_shpA, hD, g2, g3]
theorem ec_c186L {h : ec_Hp} {σ : ec_Sg} (hD : ec_MD h) (hs : ec_Ms h σ) (hW : ec_WF σ) {g : Int} {v1 : Value} {v2 : Int32} (hg : ec_ing σ g) (hA : ed_Ar h 80 48 (ed_cap (ed_lb σ 2 g))) : ∀ (n : Nat) (k x : Int) (w5 : Value), 0 ≤ k → k + n = σ 4 → 0 ≤ x ∧ x ≤ 99 →
    ∃ w5', ec_om 186 31 [.ref 72, v1, .int v2, .int (ec_i x), .int (ec_i k), w5] [] h = ec_om 186 99 [.ref 72, v1, .int v2, .int (ec_i (ed_qui σ g n k x)), .int (ec_i (σ 4)), w5'] [] h := by
  intro n
  induction n with
  | zero =>
    intro k x w5 h0 hk hx
    have hk : k = σ 4 := by omega
    have w := hW.1
    refine ⟨w5, ?_⟩
    unfold ec_MD at hD
    unfold ec_Ms at hs
    rw [ec_s186_31]
    simp (disch := first | (simp only [ec_w_kI, ec_w_kL, ec_w_kA, ec_w_shpI, ec_w_shpL, ec_w_shpA, ec_isR_r, ec_01z, ec_01o, ec_01q, hD]; done) | omega | (simp only [ec_w_shpI, ec_w_shpL, ec_w_shpA, hD]; refine ec_zinO ?_; omega) | (refine ec_nzO ?_; omega)) only [ec_s186_0, ec_s186_1, ec_s186_2, ec_s186_3, ec_s186_6, ec_s186_9, ec_s186_10, ec_s186_11, ec_s186_14, ec_s186_15, ec_s186_16, ec_s186_18, ec_s186_19, ec_s186_20, ec_s186_21, ec_s186_22, ec_s186_25, ec_s186_27, ec_s186_28, ec_s186_29, ec_s186_33, ec_s186_34, ec_s186_37, ec_s186_38, ec_s186_39, ec_s186_42, ec_s186_43, ec_s186_46, ec_s186_47, ec_s186_50, ec_s186_53, ec_s186_54, ec_s186_56, ec_s186_57, ec_s186_58, ec_s186_59, ec_s186_60, ec_s186_61, ec_s186_64, ec_s186_67, ec_s186_68, ec_s186_70, ec_s186_71, ec_s186_72, ec_s186_73, ec_s186_74, ec_s186_75, ec_s186_76, ec_s186_77, ec_s186_78, ec_s186_80, ec_s186_82, ec_s186_83, ec_s186_86, ec_s186_88, ec_s186_91, ec_s186_92, ec_s186_93, ec_s186_96, ec_s186_100, ec_s186_101, ec_s186_104, ec_zn0, ec_zn1, ec_zn2, ec_zn3, ec_zn4, ec_zn5, ec_zn6, ec_zn7, ec_zn8, ec_zn9, ec_zn10, ec_zn12, ec_zn13, ec_zn14, ec_zn15, ec_zn16, ec_zn20, ec_zn30, ec_zn48, ec_zn99, ec_zn120, ec_zn127, ec_zn11, ec_zn31, ec_zn46, ec_zn57, ec_zn59, ec_zn63, ec_zn101, ec_zn107, ec_zn108, ec_zn110, ec_zn111, ec_zn115, ec_zn116, ec_zn119, ec_zn167, ec_zn185, ec_zn192, ec_zn215, ec_zn233, ec_zn699, ec_zn932, ec_zn999, ec_znF, ec_zneg, ec_zadd, ec_zsub, ec_zmul, ec_zdivO, ec_em, ec_zltO, ec_zeqO, ec_zeq0, ec_qt, ec_qf, if_pos, if_neg, Int.add_zero, ec_aft_v, ec_aft_n, ec_rwE, ec_rwN, ec_rwP, ec_rwK, ec_rwS, ec_w_shpI, ec_w_shpL, ec_w_shpA, hD, hs]
    rw [hk]
    rfl
  | succ n ih =>
    intro k x w5 h0 hk hx
    have w := hW.1
    have D := ed_mon hW (m := k) (by omega)
    have Dc := D.1.1
    have rd := ed_snd_c hW hg D.1 hA
    have rd1 := rd.1
    rw [show ed_qui σ g (n + 1) k x = ed_qui σ g n (k + 1) (if ed_lb σ 2 g (σ (185 + 5 * k)).toNat + σ (185 + 5 * k + 1) - 1 < x then ed_lb σ 2 g (σ (185 + 5 * k)).toNat + σ (185 + 5 * k + 1) - 1 else x) from rfl]
    obtain ⟨w5', e1⟩ := ih (k + 1) (if ed_lb σ 2 g (σ (185 + 5 * k)).toNat + σ (185 + 5 * k + 1) - 1 < x then ed_lb σ 2 g (σ (185 + 5 * k)).toNat + σ (185 + 5 * k + 1) - 1 else x) (.int (ec_i (ed_lb σ 2 g (σ (185 + 5 * k)).toNat + σ (185 + 5 * k + 1) - 1))) (by omega) (by omega) (by split <;> omega)
    refine ⟨w5', ?_⟩
    unfold ec_MD at hD
    unfold ec_Ms at hs
    rw [ec_s186_31]
    by_cases q : ed_lb σ 2 g (σ (185 + 5 * k)).toNat + σ (185 + 5 * k + 1) - 1 < x
    · rw [if_pos q] at e1 ⊢
      simp (disch := first | (simp only [ec_w_kI, ec_w_kL, ec_w_kA, ec_w_shpI, ec_w_shpL, ec_w_shpA, ec_isR_r, ec_01z, ec_01o, ec_01q, hD]; done) | omega | (simp only [ec_w_shpI, ec_w_shpL, ec_w_shpA, hD]; refine ec_zinO ?_; omega) | (refine ec_nzO ?_; omega)) only [ec_s186_0, ec_s186_1, ec_s186_2, ec_s186_3, ec_s186_6, ec_s186_9, ec_s186_10, ec_s186_11, ec_s186_14, ec_s186_15, ec_s186_16, ec_s186_18, ec_s186_19, ec_s186_20, ec_s186_21, ec_s186_22, ec_s186_25, ec_s186_27, ec_s186_28, ec_s186_29, ec_s186_33, ec_s186_34, ec_s186_37, ec_s186_38, ec_s186_39, ec_s186_42, ec_s186_43, ec_s186_46, ec_s186_47, ec_s186_50, ec_s186_53, ec_s186_54, ec_s186_56, ec_s186_57, ec_s186_58, ec_s186_59, ec_s186_60, ec_s186_61, ec_s186_64, ec_s186_67, ec_s186_68, ec_s186_70, ec_s186_71, ec_s186_72, ec_s186_73, ec_s186_74, ec_s186_75, ec_s186_76, ec_s186_77, ec_s186_78, ec_s186_80, ec_s186_82, ec_s186_83, ec_s186_86, ec_s186_88, ec_s186_91, ec_s186_92, ec_s186_93, ec_s186_96, ec_s186_100, ec_s186_101, ec_s186_104, ec_zn0, ec_zn1, ec_zn2, ec_zn3, ec_zn4, ec_zn5, ec_zn6, ec_zn7, ec_zn8, ec_zn9, ec_zn10, ec_zn12, ec_zn13, ec_zn14, ec_zn15, ec_zn16, ec_zn20, ec_zn30, ec_zn48, ec_zn99, ec_zn120, ec_zn127, ec_zn11, ec_zn31, ec_zn46, ec_zn57, ec_zn59, ec_zn63, ec_zn101, ec_zn107, ec_zn108, ec_zn110, ec_zn111, ec_zn115, ec_zn116, ec_zn119, ec_zn167, ec_zn185, ec_zn192, ec_zn215, ec_zn233, ec_zn699, ec_zn932, ec_zn999, ec_znF, ec_zneg, ec_zadd, ec_zsub, ec_zmul, ec_zdivO, ec_em, ec_zltO, ec_zeqO, ec_zeq0, ec_qt, ec_qf, if_pos, if_neg, Int.add_zero, ec_aft_v, ec_aft_n, ec_rwE, ec_rwN, ec_rwP, ec_rwK, ec_rwS, ec_w_shpI, ec_w_shpL, ec_w_shpA, hD, hs, rd1, e1]
    · rw [if_neg q] at e1 ⊢
      simp (disch := first | (simp only [ec_w_kI, ec_w_kL, ec_w_kA, ec_w_shpI, ec_w_shpL, ec_w_shpA, ec_isR_r, ec_01z, ec_01o, ec_01q, hD]; done) | omega | (simp only [ec_w_shpI, ec_w_shpL, ec_w_shpA, hD]; refine ec_zinO ?_; omega) | (refine ec_nzO ?_; omega)) only [ec_s186_0, ec_s186_1, ec_s186_2, ec_s186_3, ec_s186_6, ec_s186_9, ec_s186_10, ec_s186_11, ec_s186_14, ec_s186_15, ec_s186_16, ec_s186_18, ec_s186_19, ec_s186_20, ec_s186_21, ec_s186_22, ec_s186_25, ec_s186_27, ec_s186_28, ec_s186_29, ec_s186_33, ec_s186_34, ec_s186_37, ec_s186_38, ec_s186_39, ec_s186_42, ec_s186_43, ec_s186_46, ec_s186_47, ec_s186_50, ec_s186_53, ec_s186_54, ec_s186_56, ec_s186_57, ec_s186_58, ec_s186_59, ec_s186_60, ec_s186_61, ec_s186_64, ec_s186_67, ec_s186_68, ec_s186_70, ec_s186_71, ec_s186_72, ec_s186_73, ec_s186_74, ec_s186_75, ec_s186_76, ec_s186_77, ec_s186_78, ec_s186_80, ec_s186_82, ec_s186_83, ec_s186_86, ec_s186_88, ec_s186_91, ec_s186_92, ec_s186_93, ec_s186_96, ec_s186_100, ec_s186_101, ec_s186_104, ec_zn0, ec_zn1, ec_zn2, ec_zn3, ec_zn4, ec_zn5, ec_zn6, ec_zn7, ec_zn8, ec_zn9, ec_zn10, ec_zn12, ec_zn13, ec_zn14, ec_zn15, ec_zn16, ec_zn20, ec_zn30, ec_zn48, ec_zn99, ec_zn120, ec_zn127, ec_zn11, ec_zn31, ec_zn46, ec_zn57, ec_zn59, ec_zn63, ec_zn101, ec_zn107, ec_zn108, ec_zn110, ec_zn111, ec_zn115, ec_zn116, ec_zn119, ec_zn167, ec_zn185, ec_zn192, ec_zn215, ec_zn233, ec_zn699, ec_zn932, ec_zn999, ec_znF, ec_zneg, ec_zadd, ec_zsub, ec_zmul, ec_zdivO, ec_em, ec_zltO, ec_zeqO, ec_zeq0, ec_qt, ec_qf, if_pos, if_neg, Int.add_zero, ec_aft_v, ec_aft_n, ec_rwE, ec_rwN, ec_rwP, ec_rwK, ec_rwS, ec_w_shpI, ec_w_shpL, ec_w_shpA, hD, hs, rd1, e1]
theorem ec_c186 (M : ed_ML h σ n p L T) {x y : Int} (rx : ec_rg x) (ry : ec_rg y) :
    (ed_kQu σ x y = 0 → ed_An 186 [.ref 72, .int (ec_i x), .int (ec_i y), .double 0, .double 0, .double 0] h 0 (ed_qui σ (8 * y + x) (σ 4).toNat 0 99) σ n p L T) ∧
    (ed_kQu σ x y ≠ 0 → ed_An 186 [.ref 72, .int (ec_i x), .int (ec_i y), .double 0, .double 0, .double 0] h (ed_kQu σ x y) 0 σ n p L T) := by
  have g1 := ec_c124 M.1 M.2.1 M.2.2.1 rx ry
  have g3 := fun c => ed_er M.1 (x := c)
  have hD := M.1
  have w := M.2.2.1.1
  unfold ec_MD at hD
  unfold ed_kQu
  by_cases q1 : ed_qc σ x y
  · have zi := ed_qc_in M.2.2.1 q1
    rw [ec_qt q1] at g1
    rw [if_pos q1]
    refine ⟨fun _ => ?_, fun e => absurd rfl e⟩
    obtain ⟨h1, a1, a2, a3⟩ := ec_c139 M.1 M.2.1 M.2.2.1 zi
    have M1 := M.c a3
    have hD1 := M1.1
    obtain ⟨w5', e1⟩ := ec_c186L (v1 := .int (ec_i x)) (v2 := ec_i y) M1.1 M1.2.1 M1.2.2.1 zi a2 (σ 4).toNat 0 99 (.double 0) (by omega) (by omega) (by omega)
    have g4 := fun c => ed_te M1.1 (x := c)
    refine ed_An.t M1 (a3.mono ed_80F) ?_
    unfold ec_MD at hD1
    have hD := And.intro hD hD1
    simp (disch := first | (simp only [ec_w_kI, ec_w_kL, ec_w_kA, ec_w_shpI, ec_w_shpL, ec_w_shpA, ec_isR_r, ec_01z, ec_01o, ec_01q, hD]; done) | omega | (simp only [ec_w_shpI, ec_w_shpL, ec_w_shpA, hD]; refine ec_zinO ?_; omega) | (refine ec_nzO ?_; omega)) only [ec_s186_0, ec_s186_1, ec_s186_2, ec_s186_3, ec_s186_6, ec_s186_9, ec_s186_10, ec_s186_11, ec_s186_14, ec_s186_15, ec_s186_16, ec_s186_18, ec_s186_19, ec_s186_20, ec_s186_21, ec_s186_22, ec_s186_25, ec_s186_27, ec_s186_28, ec_s186_29, ec_s186_33, ec_s186_34, ec_s186_37, ec_s186_38, ec_s186_39, ec_s186_42, ec_s186_43, ec_s186_46, ec_s186_47, ec_s186_50, ec_s186_53, ec_s186_54, ec_s186_56, ec_s186_57, ec_s186_58, ec_s186_59, ec_s186_60, ec_s186_61, ec_s186_64, ec_s186_67, ec_s186_68, ec_s186_70, ec_s186_71, ec_s186_72, ec_s186_73, ec_s186_74, ec_s186_75, ec_s186_76, ec_s186_77, ec_s186_78, ec_s186_80, ec_s186_82, ec_s186_83, ec_s186_86, ec_s186_88, ec_s186_91, ec_s186_92, ec_s186_93, ec_s186_96, ec_s186_100, ec_s186_101, ec_s186_104, ec_zn0, ec_zn1, ec_zn2, ec_zn3, ec_zn4, ec_zn5, ec_zn6, ec_zn7, ec_zn8, ec_zn9, ec_zn10, ec_zn12, ec_zn13, ec_zn14, ec_zn15, ec_zn16, ec_zn20, ec_zn30, ec_zn48, ec_zn99, ec_zn120, ec_zn127, ec_zn11, ec_zn31, ec_zn46, ec_zn57, ec_zn59, ec_zn63, ec_zn101, ec_zn107, ec_zn108, ec_zn110, ec_zn111, ec_zn115, ec_zn116, ec_zn119, ec_zn167, ec_zn185, ec_zn192, ec_zn215, ec_zn233, ec_zn699, ec_zn932, ec_zn999, ec_znF, ec_zneg, ec_zadd, ec_zsub, ec_zmul, ec_zdivO, ec_em, ec_zltO, ec_zeqO, ec_zeq0, ec_qt, ec_qf, if_pos, if_neg, Int.add_zero, ec_aft_v, ec_aft_n, ec_rwE, ec_rwN, ec_rwP, ec_rwK, ec_rwS, ec_w_shpI, ec_w_shpL, ec_w_shpA, hD, g1, a1, e1]
    rw [ec_s186_99]
    simp (disch := first | (simp only [ec_w_kI, ec_w_kL, ec_w_kA, ec_w_shpI, ec_w_shpL, ec_w_shpA, ec_isR_r, ec_01z, ec_01o, ec_01q, hD]; done) | omega | (simp only [ec_w_shpI, ec_w_shpL, ec_w_shpA, hD]; refine ec_zinO ?_; omega) | (refine ec_nzO ?_; omega)) only [ec_s186_0, ec_s186_1, ec_s186_2, ec_s186_3, ec_s186_6, ec_s186_9, ec_s186_10, ec_s186_11, ec_s186_14, ec_s186_15, ec_s186_16, ec_s186_18, ec_s186_19, ec_s186_20, ec_s186_21, ec_s186_22, ec_s186_25, ec_s186_27, ec_s186_28, ec_s186_29, ec_s186_33, ec_s186_34, ec_s186_37, ec_s186_38, ec_s186_39, ec_s186_42, ec_s186_43, ec_s186_46, ec_s186_47, ec_s186_50, ec_s186_53, ec_s186_54, ec_s186_56, ec_s186_57, ec_s186_58, ec_s186_59, ec_s186_60, ec_s186_61, ec_s186_64, ec_s186_67, ec_s186_68, ec_s186_70, ec_s186_71, ec_s186_72, ec_s186_73, ec_s186_74, ec_s186_75, ec_s186_76, ec_s186_77, ec_s186_78, ec_s186_80, ec_s186_82, ec_s186_83, ec_s186_86, ec_s186_88, ec_s186_91, ec_s186_92, ec_s186_93, ec_s186_96, ec_s186_100, ec_s186_101, ec_s186_104, ec_zn0, ec_zn1, ec_zn2, ec_zn3, ec_zn4, ec_zn5, ec_zn6, ec_zn7, ec_zn8, ec_zn9, ec_zn10, ec_zn12, ec_zn13, ec_zn14, ec_zn15, ec_zn16, ec_zn20, ec_zn30, ec_zn48, ec_zn99, ec_zn120, ec_zn127, ec_zn11, ec_zn31, ec_zn46, ec_zn57, ec_zn59, ec_zn63, ec_zn101, ec_zn107, ec_zn108, ec_zn110, ec_zn111, ec_zn115, ec_zn116, ec_zn119, ec_zn167, ec_zn185, ec_zn192, ec_zn215, ec_zn233, ec_zn699, ec_zn932, ec_zn999, ec_znF, ec_zneg, ec_zadd, ec_zsub, ec_zmul, ec_zdivO, ec_em, ec_zltO, ec_zeqO, ec_zeq0, ec_qt, ec_qf, if_pos, if_neg, Int.add_zero, ec_aft_v, ec_aft_n, ec_rwE, ec_rwN, ec_rwP, ec_rwK, ec_rwS, ec_w_shpI, ec_w_shpL, ec_w_shpA, hD, g4]
  · rw [ec_qf q1] at g1
    rw [if_neg q1]
    refine ⟨fun e => absurd e (by decide), fun _ => ed_An.er M ?_⟩
    simp (disch := first | (simp only [ec_w_kI, ec_w_kL, ec_w_kA, ec_w_shpI, ec_w_shpL, ec_w_shpA, ec_isR_r, ec_01z, ec_01o, ec_01q, hD]; done) | omega | (simp only [ec_w_shpI, ec_w_shpL, ec_w_shpA, hD]; refine ec_zinO ?_; omega) | (refine ec_nzO ?_; omega)) only [ec_s186_0, ec_s186_1, ec_s186_2, ec_s186_3, ec_s186_6, ec_s186_9, ec_s186_10, ec_s186_11, ec_s186_14, ec_s186_15, ec_s186_16, ec_s186_18, ec_s186_19, ec_s186_20, ec_s186_21, ec_s186_22, ec_s186_25, ec_s186_27, ec_s186_28, ec_s186_29, ec_s186_33, ec_s186_34, ec_s186_37, ec_s186_38, ec_s186_39, ec_s186_42, ec_s186_43, ec_s186_46, ec_s186_47, ec_s186_50, ec_s186_53, ec_s186_54, ec_s186_56, ec_s186_57, ec_s186_58, ec_s186_59, ec_s186_60, ec_s186_61, ec_s186_64, ec_s186_67, ec_s186_68, ec_s186_70, ec_s186_71, ec_s186_72, ec_s186_73, ec_s186_74, ec_s186_75, ec_s186_76, ec_s186_77, ec_s186_78, ec_s186_80, ec_s186_82, ec_s186_83, ec_s186_86, ec_s186_88, ec_s186_91, ec_s186_92, ec_s186_93, ec_s186_96, ec_s186_99, ec_s186_100, ec_s186_101, ec_s186_104, ec_zn0, ec_zn1, ec_zn2, ec_zn3, ec_zn4, ec_zn5, ec_zn6, ec_zn7, ec_zn8, ec_zn9, ec_zn10, ec_zn12, ec_zn13, ec_zn14, ec_zn15, ec_zn16, ec_zn20, ec_zn30, ec_zn48, ec_zn99, ec_zn120, ec_zn127, ec_zn11, ec_zn31, ec_zn46, ec_zn57, ec_zn59, ec_zn63, ec_zn101, ec_zn107, ec_zn108, ec_zn110, ec_zn111, ec_zn115, ec_zn116, ec_zn119, ec_zn167, ec_zn185, ec_zn192, ec_zn215, ec_zn233, ec_zn699, ec_zn932, ec_zn999, ec_znF, ec_zneg, ec_zadd, ec_zsub, ec_zmul, ec_zdivO, ec_em, ec_zltO, ec_zeqO, ec_zeq0, ec_qt, ec_qf, if_pos, if_neg, Int.add_zero, ec_aft_v, ec_aft_n, ec_rwE, ec_rwN, ec_rwP, ec_rwK, ec_rwS, ec_w_shpI, ec_w_shpL, ec_w_shpA, hD, g1, g3]
/-! how often an action is safe -/
noncomputable def ed_sfl (a life : Int) : Nat → ec_Sg → Int → Int
  | 0, _, n => n
  | k + 1, τ, n => if τ 7 = life ∧ ed_rsn τ a = 0 then ed_sfl a life k (ed_turn τ a) (n + ec_q (ed_turn τ a 7 = life)) else n
noncomputable def ed_saf (σ : ec_Sg) (a : Int) : Int := ed_sfl a (σ 7) 30 σ 0
theorem ec_c185L {a life : Int} (ha : 0 ≤ a ∧ a < 16) (hl : 0 ≤ life ∧ life ≤ 9) : ∀ (k : Nat) (m : Int) (τ : ec_Sg) (h : ec_Hp), ec_MD h → ec_Ms h τ → ec_WF τ → 0 ≤ m → (m + k = 30 ∨ τ 7 ≠ life ∧ m ≤ 30) →
    ∃ h', ec_om 185 37 [.ref 72, .int (ec_i a), .int (ec_i m), .int (ec_i life)] [] h = ec_om 185 89 [.ref 72, .int (ec_i a), .int (ec_i (ed_sfl a life k τ m)), .int (ec_i life)] [] h' ∧ ec_fg ed_Gg h h' := by
  intro k
  induction k with
  | zero =>
    intro m τ h hD hs hW h0 hm
    refine ⟨h, ?_, ec_fg.refl⟩
    have w := hW.2.1
    unfold ec_MD at hD
    unfold ec_Ms at hs
    rw [ec_s185_37]
    by_cases q : m < 30
    · have hm : τ 7 ≠ life := by omega
      simp (disch := first | (simp only [ec_w_kI, ec_w_kL, ec_w_kA, ec_w_shpI, ec_w_shpL, ec_w_shpA, ec_isR_r, ec_01z, ec_01o, ec_01q, hD]; done) | omega | (simp only [ec_w_shpI, ec_w_shpL, ec_w_shpA, hD]; refine ec_zinO ?_; omega) | (refine ec_nzO ?_; omega)) only [ec_s185_0, ec_s185_1, ec_s185_2, ec_s185_4, ec_s185_7, ec_s185_10, ec_s185_11, ec_s185_12, ec_s185_15, ec_s185_16, ec_s185_17, ec_s185_20, ec_s185_21, ec_s185_24, ec_s185_27, ec_s185_28, ec_s185_29, ec_s185_30, ec_s185_33, ec_s185_35, ec_s185_36, ec_s185_38, ec_s185_40, ec_s185_43, ec_s185_44, ec_s185_47, ec_s185_49, ec_s185_50, ec_s185_51, ec_s185_54, ec_s185_55, ec_s185_56, ec_s185_59, ec_s185_62, ec_s185_63, ec_s185_64, ec_s185_67, ec_s185_68, ec_s185_69, ec_s185_72, ec_s185_74, ec_s185_75, ec_s185_76, ec_s185_79, ec_s185_80, ec_s185_83, ec_s185_84, ec_s185_85, ec_s185_86, ec_s185_90, ec_s185_93, ec_s185_94, ec_s185_97, ec_s185_100, ec_s185_101, ec_s185_102, ec_s185_105, ec_zn0, ec_zn1, ec_zn2, ec_zn3, ec_zn4, ec_zn5, ec_zn6, ec_zn7, ec_zn8, ec_zn9, ec_zn10, ec_zn12, ec_zn13, ec_zn14, ec_zn15, ec_zn16, ec_zn20, ec_zn30, ec_zn48, ec_zn99, ec_zn120, ec_zn127, ec_zn11, ec_zn31, ec_zn46, ec_zn57, ec_zn59, ec_zn63, ec_zn101, ec_zn107, ec_zn108, ec_zn110, ec_zn111, ec_zn115, ec_zn116, ec_zn119, ec_zn167, ec_zn185, ec_zn192, ec_zn215, ec_zn233, ec_zn699, ec_zn932, ec_zn999, ec_znF, ec_zneg, ec_zadd, ec_zsub, ec_zmul, ec_zdivO, ec_em, ec_zltO, ec_zeqO, ec_zeq0, ec_qt, ec_qf, if_pos, if_neg, Int.add_zero, ec_aft_v, ec_aft_n, ec_rwE, ec_rwN, ec_rwP, ec_rwK, ec_rwS, ec_w_shpI, ec_w_shpL, ec_w_shpA, hD, hs]
      rfl
    · simp (disch := first | (simp only [ec_w_kI, ec_w_kL, ec_w_kA, ec_w_shpI, ec_w_shpL, ec_w_shpA, ec_isR_r, ec_01z, ec_01o, ec_01q, hD]; done) | omega | (simp only [ec_w_shpI, ec_w_shpL, ec_w_shpA, hD]; refine ec_zinO ?_; omega) | (refine ec_nzO ?_; omega)) only [ec_s185_0, ec_s185_1, ec_s185_2, ec_s185_4, ec_s185_7, ec_s185_10, ec_s185_11, ec_s185_12, ec_s185_15, ec_s185_16, ec_s185_17, ec_s185_20, ec_s185_21, ec_s185_24, ec_s185_27, ec_s185_28, ec_s185_29, ec_s185_30, ec_s185_33, ec_s185_35, ec_s185_36, ec_s185_38, ec_s185_40, ec_s185_43, ec_s185_44, ec_s185_47, ec_s185_49, ec_s185_50, ec_s185_51, ec_s185_54, ec_s185_55, ec_s185_56, ec_s185_59, ec_s185_62, ec_s185_63, ec_s185_64, ec_s185_67, ec_s185_68, ec_s185_69, ec_s185_72, ec_s185_74, ec_s185_75, ec_s185_76, ec_s185_79, ec_s185_80, ec_s185_83, ec_s185_84, ec_s185_85, ec_s185_86, ec_s185_90, ec_s185_93, ec_s185_94, ec_s185_97, ec_s185_100, ec_s185_101, ec_s185_102, ec_s185_105, ec_zn0, ec_zn1, ec_zn2, ec_zn3, ec_zn4, ec_zn5, ec_zn6, ec_zn7, ec_zn8, ec_zn9, ec_zn10, ec_zn12, ec_zn13, ec_zn14, ec_zn15, ec_zn16, ec_zn20, ec_zn30, ec_zn48, ec_zn99, ec_zn120, ec_zn127, ec_zn11, ec_zn31, ec_zn46, ec_zn57, ec_zn59, ec_zn63, ec_zn101, ec_zn107, ec_zn108, ec_zn110, ec_zn111, ec_zn115, ec_zn116, ec_zn119, ec_zn167, ec_zn185, ec_zn192, ec_zn215, ec_zn233, ec_zn699, ec_zn932, ec_zn999, ec_znF, ec_zneg, ec_zadd, ec_zsub, ec_zmul, ec_zdivO, ec_em, ec_zltO, ec_zeqO, ec_zeq0, ec_qt, ec_qf, if_pos, if_neg, Int.add_zero, ec_aft_v, ec_aft_n, ec_rwE, ec_rwN, ec_rwP, ec_rwK, ec_rwS, ec_w_shpI, ec_w_shpL, ec_w_shpA, hD, hs]
      rfl
  | succ k ih =>
    intro m τ h hD hs hW h0 hm
    have w := hW.2.1
    rw [show ed_sfl a life (k + 1) τ m = if τ 7 = life ∧ ed_rsn τ a = 0 then ed_sfl a life k (ed_turn τ a) (m + ec_q (ed_turn τ a 7 = life)) else m from rfl]
    by_cases q1 : τ 7 = life
    · have hm : m < 30 := by omega
      have g1 := ec_c153 hD hs hW ha
      by_cases q2 : ed_rsn τ a = 0
      · rw [if_pos ⟨q1, q2⟩]
        obtain ⟨h1, a1, a2, a3⟩ := ec_c163 hD hs hW ha q2
        have wf := ed_WF_turn hW ha q2
        have w7 := wf.2.1.2.1
        have qr := ec_q_rg (p := ed_turn τ a 7 = life)
        obtain ⟨h2, b1, b2⟩ := ih (m + ec_q (ed_turn τ a 7 = life)) (ed_turn τ a) h1 (hD.of a3.1.1) a2 wf (by omega) (by
          by_cases q3 : ed_turn τ a 7 = life
          · rw [ec_qt q3]; omega
          · rw [ec_qf q3]; omega)
        refine ⟨h2, ?_, a3.trans b2⟩
        have hD1 := hD.of a3.1.1
        unfold ec_MD at hD hD1
        have hD := And.intro hD hD1
        unfold ec_Ms at hs a2
        rw [q2] at g1
        rw [ec_s185_37]
        by_cases q3 : ed_turn τ a 7 = life
        · rw [ec_qt q3] at b1 ⊢
          simp (disch := first | (simp only [ec_w_kI, ec_w_kL, ec_w_kA, ec_w_shpI, ec_w_shpL, ec_w_shpA, ec_isR_r, ec_01z, ec_01o, ec_01q, hD]; done) | omega | (simp only [ec_w_shpI, ec_w_shpL, ec_w_shpA, hD]; refine ec_zinO ?_; omega) | (refine ec_nzO ?_; omega)) only [ec_s185_0, ec_s185_1, ec_s185_2, ec_s185_4, ec_s185_7, ec_s185_10, ec_s185_11, ec_s185_12, ec_s185_15, ec_s185_16, ec_s185_17, ec_s185_20, ec_s185_21, ec_s185_24, ec_s185_27, ec_s185_28, ec_s185_29, ec_s185_30, ec_s185_33, ec_s185_35, ec_s185_36, ec_s185_38, ec_s185_40, ec_s185_43, ec_s185_44, ec_s185_47, ec_s185_49, ec_s185_50, ec_s185_51, ec_s185_54, ec_s185_55, ec_s185_56, ec_s185_59, ec_s185_62, ec_s185_63, ec_s185_64, ec_s185_67, ec_s185_68, ec_s185_69, ec_s185_72, ec_s185_74, ec_s185_75, ec_s185_76, ec_s185_79, ec_s185_80, ec_s185_83, ec_s185_84, ec_s185_85, ec_s185_86, ec_s185_90, ec_s185_93, ec_s185_94, ec_s185_97, ec_s185_100, ec_s185_101, ec_s185_102, ec_s185_105, ec_zn0, ec_zn1, ec_zn2, ec_zn3, ec_zn4, ec_zn5, ec_zn6, ec_zn7, ec_zn8, ec_zn9, ec_zn10, ec_zn12, ec_zn13, ec_zn14, ec_zn15, ec_zn16, ec_zn20, ec_zn30, ec_zn48, ec_zn99, ec_zn120, ec_zn127, ec_zn11, ec_zn31, ec_zn46, ec_zn57, ec_zn59, ec_zn63, ec_zn101, ec_zn107, ec_zn108, ec_zn110, ec_zn111, ec_zn115, ec_zn116, ec_zn119, ec_zn167, ec_zn185, ec_zn192, ec_zn215, ec_zn233, ec_zn699, ec_zn932, ec_zn999, ec_znF, ec_zneg, ec_zadd, ec_zsub, ec_zmul, ec_zdivO, ec_em, ec_zltO, ec_zeqO, ec_zeq0, ec_qt, ec_qf, if_pos, if_neg, Int.add_zero, ec_aft_v, ec_aft_n, ec_rwE, ec_rwN, ec_rwP, ec_rwK, ec_rwS, ec_w_shpI, ec_w_shpL, ec_w_shpA, hD, hs, a2, g1, a1, b1]
        · rw [ec_qf q3, Int.add_zero] at b1 ⊢
          simp (disch := first | (simp only [ec_w_kI, ec_w_kL, ec_w_kA, ec_w_shpI, ec_w_shpL, ec_w_shpA, ec_isR_r, ec_01z, ec_01o, ec_01q, hD]; done) | omega | (simp only [ec_w_shpI, ec_w_shpL, ec_w_shpA, hD]; refine ec_zinO ?_; omega) | (refine ec_nzO ?_; omega)) only [ec_s185_0, ec_s185_1, ec_s185_2, ec_s185_4, ec_s185_7, ec_s185_10, ec_s185_11, ec_s185_12, ec_s185_15, ec_s185_16, ec_s185_17, ec_s185_20, ec_s185_21, ec_s185_24, ec_s185_27, ec_s185_28, ec_s185_29, ec_s185_30, ec_s185_33, ec_s185_35, ec_s185_36, ec_s185_38, ec_s185_40, ec_s185_43, ec_s185_44, ec_s185_47, ec_s185_49, ec_s185_50, ec_s185_51, ec_s185_54, ec_s185_55, ec_s185_56, ec_s185_59, ec_s185_62, ec_s185_63, ec_s185_64, ec_s185_67, ec_s185_68, ec_s185_69, ec_s185_72, ec_s185_74, ec_s185_75, ec_s185_76, ec_s185_79, ec_s185_80, ec_s185_83, ec_s185_84, ec_s185_85, ec_s185_86, ec_s185_90, ec_s185_93, ec_s185_94, ec_s185_97, ec_s185_100, ec_s185_101, ec_s185_102, ec_s185_105, ec_zn0, ec_zn1, ec_zn2, ec_zn3, ec_zn4, ec_zn5, ec_zn6, ec_zn7, ec_zn8, ec_zn9, ec_zn10, ec_zn12, ec_zn13, ec_zn14, ec_zn15, ec_zn16, ec_zn20, ec_zn30, ec_zn48, ec_zn99, ec_zn120, ec_zn127, ec_zn11, ec_zn31, ec_zn46, ec_zn57, ec_zn59, ec_zn63, ec_zn101, ec_zn107, ec_zn108, ec_zn110, ec_zn111, ec_zn115, ec_zn116, ec_zn119, ec_zn167, ec_zn185, ec_zn192, ec_zn215, ec_zn233, ec_zn699, ec_zn932, ec_zn999, ec_znF, ec_zneg, ec_zadd, ec_zsub, ec_zmul, ec_zdivO, ec_em, ec_zltO, ec_zeqO, ec_zeq0, ec_qt, ec_qf, if_pos, if_neg, Int.add_zero, ec_aft_v, ec_aft_n, ec_rwE, ec_rwN, ec_rwP, ec_rwK, ec_rwS, ec_w_shpI, ec_w_shpL, ec_w_shpA, hD, hs, a2, g1, a1, b1]
      · rw [if_neg (fun z => q2 z.2)]
        refine ⟨h, ?_, ec_fg.refl⟩
        have rr := ed_rsn_rg (σ := τ) (a := a)
        unfold ec_MD at hD
        unfold ec_Ms at hs
        rw [ec_s185_37]
        simp (disch := first | (simp only [ec_w_kI, ec_w_kL, ec_w_kA, ec_w_shpI, ec_w_shpL, ec_w_shpA, ec_isR_r, ec_01z, ec_01o, ec_01q, hD]; done) | omega | (simp only [ec_w_shpI, ec_w_shpL, ec_w_shpA, hD]; refine ec_zinO ?_; omega) | (refine ec_nzO ?_; omega)) only [ec_s185_0, ec_s185_1, ec_s185_2, ec_s185_4, ec_s185_7, ec_s185_10, ec_s185_11, ec_s185_12, ec_s185_15, ec_s185_16, ec_s185_17, ec_s185_20, ec_s185_21, ec_s185_24, ec_s185_27, ec_s185_28, ec_s185_29, ec_s185_30, ec_s185_33, ec_s185_35, ec_s185_36, ec_s185_38, ec_s185_40, ec_s185_43, ec_s185_44, ec_s185_47, ec_s185_49, ec_s185_50, ec_s185_51, ec_s185_54, ec_s185_55, ec_s185_56, ec_s185_59, ec_s185_62, ec_s185_63, ec_s185_64, ec_s185_67, ec_s185_68, ec_s185_69, ec_s185_72, ec_s185_74, ec_s185_75, ec_s185_76, ec_s185_79, ec_s185_80, ec_s185_83, ec_s185_84, ec_s185_85, ec_s185_86, ec_s185_90, ec_s185_93, ec_s185_94, ec_s185_97, ec_s185_100, ec_s185_101, ec_s185_102, ec_s185_105, ec_zn0, ec_zn1, ec_zn2, ec_zn3, ec_zn4, ec_zn5, ec_zn6, ec_zn7, ec_zn8, ec_zn9, ec_zn10, ec_zn12, ec_zn13, ec_zn14, ec_zn15, ec_zn16, ec_zn20, ec_zn30, ec_zn48, ec_zn99, ec_zn120, ec_zn127, ec_zn11, ec_zn31, ec_zn46, ec_zn57, ec_zn59, ec_zn63, ec_zn101, ec_zn107, ec_zn108, ec_zn110, ec_zn111, ec_zn115, ec_zn116, ec_zn119, ec_zn167, ec_zn185, ec_zn192, ec_zn215, ec_zn233, ec_zn699, ec_zn932, ec_zn999, ec_znF, ec_zneg, ec_zadd, ec_zsub, ec_zmul, ec_zdivO, ec_em, ec_zltO, ec_zeqO, ec_zeq0, ec_qt, ec_qf, if_pos, if_neg, Int.add_zero, ec_aft_v, ec_aft_n, ec_rwE, ec_rwN, ec_rwP, ec_rwK, ec_rwS, ec_w_shpI, ec_w_shpL, ec_w_shpA, hD, hs, g1]
    · rw [if_neg (fun z => q1 z.1)]
      refine ⟨h, ?_, ec_fg.refl⟩
      unfold ec_MD at hD
      unfold ec_Ms at hs
      rw [ec_s185_37]
      by_cases q : m < 30
      · simp (disch := first | (simp only [ec_w_kI, ec_w_kL, ec_w_kA, ec_w_shpI, ec_w_shpL, ec_w_shpA, ec_isR_r, ec_01z, ec_01o, ec_01q, hD]; done) | omega | (simp only [ec_w_shpI, ec_w_shpL, ec_w_shpA, hD]; refine ec_zinO ?_; omega) | (refine ec_nzO ?_; omega)) only [ec_s185_0, ec_s185_1, ec_s185_2, ec_s185_4, ec_s185_7, ec_s185_10, ec_s185_11, ec_s185_12, ec_s185_15, ec_s185_16, ec_s185_17, ec_s185_20, ec_s185_21, ec_s185_24, ec_s185_27, ec_s185_28, ec_s185_29, ec_s185_30, ec_s185_33, ec_s185_35, ec_s185_36, ec_s185_38, ec_s185_40, ec_s185_43, ec_s185_44, ec_s185_47, ec_s185_49, ec_s185_50, ec_s185_51, ec_s185_54, ec_s185_55, ec_s185_56, ec_s185_59, ec_s185_62, ec_s185_63, ec_s185_64, ec_s185_67, ec_s185_68, ec_s185_69, ec_s185_72, ec_s185_74, ec_s185_75, ec_s185_76, ec_s185_79, ec_s185_80, ec_s185_83, ec_s185_84, ec_s185_85, ec_s185_86, ec_s185_90, ec_s185_93, ec_s185_94, ec_s185_97, ec_s185_100, ec_s185_101, ec_s185_102, ec_s185_105, ec_zn0, ec_zn1, ec_zn2, ec_zn3, ec_zn4, ec_zn5, ec_zn6, ec_zn7, ec_zn8, ec_zn9, ec_zn10, ec_zn12, ec_zn13, ec_zn14, ec_zn15, ec_zn16, ec_zn20, ec_zn30, ec_zn48, ec_zn99, ec_zn120, ec_zn127, ec_zn11, ec_zn31, ec_zn46, ec_zn57, ec_zn59, ec_zn63, ec_zn101, ec_zn107, ec_zn108, ec_zn110, ec_zn111, ec_zn115, ec_zn116, ec_zn119, ec_zn167, ec_zn185, ec_zn192, ec_zn215, ec_zn233, ec_zn699, ec_zn932, ec_zn999, ec_znF, ec_zneg, ec_zadd, ec_zsub, ec_zmul, ec_zdivO, ec_em, ec_zltO, ec_zeqO, ec_zeq0, ec_qt, ec_qf, if_pos, if_neg, Int.add_zero, ec_aft_v, ec_aft_n, ec_rwE, ec_rwN, ec_rwP, ec_rwK, ec_rwS, ec_w_shpI, ec_w_shpL, ec_w_shpA, hD, hs]
      · simp (disch := first | (simp only [ec_w_kI, ec_w_kL, ec_w_kA, ec_w_shpI, ec_w_shpL, ec_w_shpA, ec_isR_r, ec_01z, ec_01o, ec_01q, hD]; done) | omega | (simp only [ec_w_shpI, ec_w_shpL, ec_w_shpA, hD]; refine ec_zinO ?_; omega) | (refine ec_nzO ?_; omega)) only [ec_s185_0, ec_s185_1, ec_s185_2, ec_s185_4, ec_s185_7, ec_s185_10, ec_s185_11, ec_s185_12, ec_s185_15, ec_s185_16, ec_s185_17, ec_s185_20, ec_s185_21, ec_s185_24, ec_s185_27, ec_s185_28, ec_s185_29, ec_s185_30, ec_s185_33, ec_s185_35, ec_s185_36, ec_s185_38, ec_s185_40, ec_s185_43, ec_s185_44, ec_s185_47, ec_s185_49, ec_s185_50, ec_s185_51, ec_s185_54, ec_s185_55, ec_s185_56, ec_s185_59, ec_s185_62, ec_s185_63, ec_s185_64, ec_s185_67, ec_s185_68, ec_s185_69, ec_s185_72, ec_s185_74, ec_s185_75, ec_s185_76, ec_s185_79, ec_s185_80, ec_s185_83, ec_s185_84, ec_s185_85, ec_s185_86, ec_s185_90, ec_s185_93, ec_s185_94, ec_s185_97, ec_s185_100, ec_s185_101, ec_s185_102, ec_s185_105, ec_zn0, ec_zn1, ec_zn2, ec_zn3, ec_zn4, ec_zn5, ec_zn6, ec_zn7, ec_zn8, ec_zn9, ec_zn10, ec_zn12, ec_zn13, ec_zn14, ec_zn15, ec_zn16, ec_zn20, ec_zn30, ec_zn48, ec_zn99, ec_zn120, ec_zn127, ec_zn11, ec_zn31, ec_zn46, ec_zn57, ec_zn59, ec_zn63, ec_zn101, ec_zn107, ec_zn108, ec_zn110, ec_zn111, ec_zn115, ec_zn116, ec_zn119, ec_zn167, ec_zn185, ec_zn192, ec_zn215, ec_zn233, ec_zn699, ec_zn932, ec_zn999, ec_znF, ec_zneg, ec_zadd, ec_zsub, ec_zmul, ec_zdivO, ec_em, ec_zltO, ec_zeqO, ec_zeq0, ec_qt, ec_qf, if_pos, if_neg, Int.add_zero, ec_aft_v, ec_aft_n, ec_rwE, ec_rwN, ec_rwP, ec_rwK, ec_rwS, ec_w_shpI, ec_w_shpL, ec_w_shpA, hD, hs]
theorem ec_c185 (M : ed_ML h σ n p L T) {a : Int} (ra : ec_rg a) :
    (ed_kRs a = 0 → ed_An 185 [.ref 72, .int (ec_i a), .double 0, .double 0] h 0 (ed_saf σ a) σ n p L T) ∧
    (ed_kRs a ≠ 0 → ed_An 185 [.ref 72, .int (ec_i a), .double 0, .double 0] h (ed_kRs a) 0 σ n p L T) := by
  have g5 := fun h => ec_c118 (h := h) ra ec_rn0 ec_rn15
  have hD := M.1
  have w := M.2.2.1.2.1
  unfold ed_kRs
  by_cases q1 : 0 ≤ a ∧ a ≤ 15
  · rw [if_pos q1]
    refine ⟨fun _ => ?_, fun e => absurd rfl e⟩
    have hD0 := hD
    unfold ec_MD at hD
    obtain ⟨h1, a1, a2, a3⟩ := ec_c121 (h := h) (a := 73) (b := 76) (by decide) (τ := σ) ⟨hD.2.1.1, hD.2.1.2, hD.2.2.2.2.1.1, hD.2.2.2.2.1.2⟩ M.2.1
    have M1 := M.x a3 (by decide) (by decide) (fun _ => (by decide : ¬ (73 : Nat) = 76)) (fun _ => (by decide : ¬ (74 : Nat) = 76)) (fun _ => (by decide : ¬ (77 : Nat) = 76))
    obtain ⟨h2, b1, b2⟩ := ec_c185L (a := a) (life := σ 7) (by omega) (by omega) 30 0 σ h1 M1.1 M1.2.1 M1.2.2.1 (by omega) (by omega)
    have hD2 := M1.1.of b2.1.1
    have t2 : ed_Ar h2 76 233 σ := a2.fg b2 (ed_Ggn (by decide) (by decide))
    unfold ec_MD at hD2
    obtain ⟨h3, c1, c2, c3⟩ := ec_c121 (h := h2) (a := 76) (b := 73) (by decide) (τ := σ) ⟨hD2.2.2.2.2.1.1, hD2.2.2.2.2.1.2, hD2.2.1.1, hD2.2.1.2⟩ t2
    have fr : ec_fg ed_Gg h1 h3 := b2.trans (c3.mono (fun q j e => Or.inl e))
    have M3 : ed_ML h3 σ n p L T := M1.g fr c2 M.2.2.1
    have g4 := fun c => ed_te M3.1 (x := c)
    refine ed_An.t M3 ((a3.mono (fun q j (e : q = 76) => ⟨by omega, by omega⟩)).trans (fr.mono ed_GgF)) ?_
    have hD1 := M1.1
    have hD3 := M3.1
    unfold ec_MD at hD1 hD3
    have hD := And.intro hD (And.intro hD1 (And.intro hD2 hD3))
    have hs1 := M1.2.1
    unfold ec_Ms at hs1
    simp (disch := first | (simp only [ec_w_kI, ec_w_kL, ec_w_kA, ec_w_shpI, ec_w_shpL, ec_w_shpA, ec_isR_r, ec_01z, ec_01o, ec_01q, hD]; done) | omega | (simp only [ec_w_shpI, ec_w_shpL, ec_w_shpA, hD]; refine ec_zinO ?_; omega) | (refine ec_nzO ?_; omega)) only [ec_s185_0, ec_s185_1, ec_s185_2, ec_s185_4, ec_s185_7, ec_s185_10, ec_s185_11, ec_s185_12, ec_s185_15, ec_s185_16, ec_s185_17, ec_s185_20, ec_s185_21, ec_s185_24, ec_s185_27, ec_s185_28, ec_s185_29, ec_s185_30, ec_s185_33, ec_s185_35, ec_s185_36, ec_s185_38, ec_s185_40, ec_s185_43, ec_s185_44, ec_s185_47, ec_s185_49, ec_s185_50, ec_s185_51, ec_s185_54, ec_s185_55, ec_s185_56, ec_s185_59, ec_s185_62, ec_s185_63, ec_s185_64, ec_s185_67, ec_s185_68, ec_s185_69, ec_s185_72, ec_s185_74, ec_s185_75, ec_s185_76, ec_s185_79, ec_s185_80, ec_s185_83, ec_s185_84, ec_s185_85, ec_s185_86, ec_s185_90, ec_s185_93, ec_s185_94, ec_s185_97, ec_s185_100, ec_s185_101, ec_s185_102, ec_s185_105, ec_zn0, ec_zn1, ec_zn2, ec_zn3, ec_zn4, ec_zn5, ec_zn6, ec_zn7, ec_zn8, ec_zn9, ec_zn10, ec_zn12, ec_zn13, ec_zn14, ec_zn15, ec_zn16, ec_zn20, ec_zn30, ec_zn48, ec_zn99, ec_zn120, ec_zn127, ec_zn11, ec_zn31, ec_zn46, ec_zn57, ec_zn59, ec_zn63, ec_zn101, ec_zn107, ec_zn108, ec_zn110, ec_zn111, ec_zn115, ec_zn116, ec_zn119, ec_zn167, ec_zn185, ec_zn192, ec_zn215, ec_zn233, ec_zn699, ec_zn932, ec_zn999, ec_znF, ec_zneg, ec_zadd, ec_zsub, ec_zmul, ec_zdivO, ec_em, ec_zltO, ec_zeqO, ec_zeq0, ec_qt, ec_qf, if_pos, if_neg, Int.add_zero, ec_aft_v, ec_aft_n, ec_rwE, ec_rwN, ec_rwP, ec_rwK, ec_rwS, ec_w_shpI, ec_w_shpL, ec_w_shpA, hD, g5, a1, hs1, b1]
    rw [ec_s185_89]
    simp (disch := first | (simp only [ec_w_kI, ec_w_kL, ec_w_kA, ec_w_shpI, ec_w_shpL, ec_w_shpA, ec_isR_r, ec_01z, ec_01o, ec_01q, hD]; done) | omega | (simp only [ec_w_shpI, ec_w_shpL, ec_w_shpA, hD]; refine ec_zinO ?_; omega) | (refine ec_nzO ?_; omega)) only [ec_s185_0, ec_s185_1, ec_s185_2, ec_s185_4, ec_s185_7, ec_s185_10, ec_s185_11, ec_s185_12, ec_s185_15, ec_s185_16, ec_s185_17, ec_s185_20, ec_s185_21, ec_s185_24, ec_s185_27, ec_s185_28, ec_s185_29, ec_s185_30, ec_s185_33, ec_s185_35, ec_s185_36, ec_s185_38, ec_s185_40, ec_s185_43, ec_s185_44, ec_s185_47, ec_s185_49, ec_s185_50, ec_s185_51, ec_s185_54, ec_s185_55, ec_s185_56, ec_s185_59, ec_s185_62, ec_s185_63, ec_s185_64, ec_s185_67, ec_s185_68, ec_s185_69, ec_s185_72, ec_s185_74, ec_s185_75, ec_s185_76, ec_s185_79, ec_s185_80, ec_s185_83, ec_s185_84, ec_s185_85, ec_s185_86, ec_s185_90, ec_s185_93, ec_s185_94, ec_s185_97, ec_s185_100, ec_s185_101, ec_s185_102, ec_s185_105, ec_zn0, ec_zn1, ec_zn2, ec_zn3, ec_zn4, ec_zn5, ec_zn6, ec_zn7, ec_zn8, ec_zn9, ec_zn10, ec_zn12, ec_zn13, ec_zn14, ec_zn15, ec_zn16, ec_zn20, ec_zn30, ec_zn48, ec_zn99, ec_zn120, ec_zn127, ec_zn11, ec_zn31, ec_zn46, ec_zn57, ec_zn59, ec_zn63, ec_zn101, ec_zn107, ec_zn108, ec_zn110, ec_zn111, ec_zn115, ec_zn116, ec_zn119, ec_zn167, ec_zn185, ec_zn192, ec_zn215, ec_zn233, ec_zn699, ec_zn932, ec_zn999, ec_znF, ec_zneg, ec_zadd, ec_zsub, ec_zmul, ec_zdivO, ec_em, ec_zltO, ec_zeqO, ec_zeq0, ec_qt, ec_qf, if_pos, if_neg, Int.add_zero, ec_aft_v, ec_aft_n, ec_rwE, ec_rwN, ec_rwP, ec_rwK, ec_rwS, ec_w_shpI, ec_w_shpL, ec_w_shpA, hD, c1, g4]
    rfl
  · rw [if_neg q1]
    have g3 := fun c => ed_er M.1 (x := c)
    refine ⟨fun e => absurd e (by decide), fun _ => ed_An.er M ?_⟩
    unfold ec_MD at hD
    simp (disch := first | (simp only [ec_w_kI, ec_w_kL, ec_w_kA, ec_w_shpI, ec_w_shpL, ec_w_shpA, ec_isR_r, ec_01z, ec_01o, ec_01q, hD]; done) | omega | (simp only [ec_w_shpI, ec_w_shpL, ec_w_shpA, hD]; refine ec_zinO ?_; omega) | (refine ec_nzO ?_; omega)) only [ec_s185_0, ec_s185_1, ec_s185_2, ec_s185_4, ec_s185_7, ec_s185_10, ec_s185_11, ec_s185_12, ec_s185_15, ec_s185_16, ec_s185_17, ec_s185_20, ec_s185_21, ec_s185_24, ec_s185_27, ec_s185_28, ec_s185_29, ec_s185_30, ec_s185_33, ec_s185_35, ec_s185_36, ec_s185_38, ec_s185_40, ec_s185_43, ec_s185_44, ec_s185_47, ec_s185_49, ec_s185_50, ec_s185_51, ec_s185_54, ec_s185_55, ec_s185_56, ec_s185_59, ec_s185_62, ec_s185_63, ec_s185_64, ec_s185_67, ec_s185_68, ec_s185_69, ec_s185_72, ec_s185_74, ec_s185_75, ec_s185_76, ec_s185_79, ec_s185_80, ec_s185_83, ec_s185_84, ec_s185_85, ec_s185_86, ec_s185_89, ec_s185_90, ec_s185_93, ec_s185_94, ec_s185_97, ec_s185_100, ec_s185_101, ec_s185_102, ec_s185_105, ec_zn0, ec_zn1, ec_zn2, ec_zn3, ec_zn4, ec_zn5, ec_zn6, ec_zn7, ec_zn8, ec_zn9, ec_zn10, ec_zn12, ec_zn13, ec_zn14, ec_zn15, ec_zn16, ec_zn20, ec_zn30, ec_zn48, ec_zn99, ec_zn120, ec_zn127, ec_zn11, ec_zn31, ec_zn46, ec_zn57, ec_zn59, ec_zn63, ec_zn101, ec_zn107, ec_zn108, ec_zn110, ec_zn111, ec_zn115, ec_zn116, ec_zn119, ec_zn167, ec_zn185, ec_zn192, ec_zn215, ec_zn233, ec_zn699, ec_zn932, ec_zn999, ec_znF, ec_zneg, ec_zadd, ec_zsub, ec_zmul, ec_zdivO, ec_em, ec_zltO, ec_zeqO, ec_zeq0, ec_qt, ec_qf, if_pos, if_neg, Int.add_zero, ec_aft_v, ec_aft_n, ec_rwE, ec_rwN, ec_rwP, ec_rwK, ec_rwS, ec_w_shpI, ec_w_shpL, ec_w_shpA, hD, g3, g5]
end EDE
