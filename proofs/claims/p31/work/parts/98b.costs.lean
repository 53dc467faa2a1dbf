/-! The law's costs are the row's labels. -/
theorem ed_Ar.w {h : ec_Hp} {q n : Nat} {c : Int → Int} (b : ed_Ar h q n c) (hn : n < 5000) {z v : Int} (hz : 0 ≤ z ∧ z < n) : ed_Ar (ec_setI h q (ec_i z).toNatClampNeg (ec_i v)) q n (ec_su c z v) := by
  intro w hw
  by_cases e : z = w
  · rw [ec_rwE e, ec_suE e.symm]
  · rw [ec_rwN ⟨by omega, by omega, e⟩, ec_suN (fun y => e y.symm)]
    exact b w hw
theorem ed_Ar.o {h : ec_Hp} {q n : Nat} {c : Int → Int} (b : ed_Ar h q n c) {p k : Nat} {x : Int32} (hp : p ≠ q) : ed_Ar (ec_setI h p k x) q n c := by
  intro w hw
  rw [ec_rwP hp]
  exact b w hw
def ed_XI (σ : ec_Sg) (m g : Int) (c : Int → Int) : Prop := ∀ z : Int, 0 ≤ z ∧ z < 48 → (ed_cap (ed_lb σ m g) z ≤ c z ∧ c z ≤ 999) ∧ (c z < 999 → ec_ing σ z) ∧ (z = g → c z ≤ 0)
theorem ed_cap_0 {σ : ec_Sg} (w : ec_WF σ) {m g z : Int} (hg : 0 ≤ g ∧ g < 48) (hz : 0 ≤ z ∧ z < 48) : 0 ≤ ed_cap (ed_lb σ m g) z ∧ ed_cap (ed_lb σ m g) z ≤ 999 := by
  have := ed_lb_bd w (m := m) hg (k := z.toNat) (by omega)
  unfold ed_cap
  split <;> omega
theorem ed_sm_lt {c : Int → Int} {z v : Int} (hz : 0 ≤ z ∧ z < 48) (hv : v < c z) : ed_sm (ec_su c z v) < ed_sm c := by
  refine ec_sm_lt 48 (fun k _ => ?_) ⟨z.toNat, by omega, ?_⟩
  · show ec_su c z v (k : Int) ≤ c (k : Int)
    by_cases e : (k : Int) = z
    · rw [ec_suE e, e]; omega
    · rw [ec_suN e]; exact Int.le_refl _
  · show ec_su c z v ((z.toNat : Nat) : Int) < c ((z.toNat : Nat) : Int)
    rw [show ((z.toNat : Nat) : Int) = z by omega, ec_suE rfl]
    exact hv
theorem ed_XI.up {σ : ec_Sg} (w : ec_WF σ) {m g : Int} {c : Int → Int} (hg : ec_ing σ g) (a : ed_XI σ m g c) {z d : Int} (hz : ec_ing σ z) (hd : 0 ≤ d ∧ d < 4) (hb : 0 < ed_P σ m z d) (h2 : c (ec_nb z d) + ed_P σ m z d < c z) : ed_XI σ m g (ec_su c z (c (ec_nb z d) + ed_P σ m z d)) := by
  have hbb := (ed_P_in (σ := σ) (m := m) (z := z) (d := d) (by omega)).2
  obtain ⟨ni, o1, o2, o3⟩ := ed_opp w hz hd hbb
  have az := a z hz.1
  have an := a (ec_nb z d) ni.1
  have e := ed_P_opp w (m := m) hz hd hbb
  have bz := ed_lb_bd w (m := m) hg.1 (k := z.toNat) (by have := hz.1; omega)
  have bn := ed_lb_bd w (m := m) hg.1 (k := (ec_nb z d).toNat) (by have := ni.1; omega)
  have q := (ed_lb_LD w (m := m) hg.1).2.1 (ec_nb z d) ((d + 2) % 4) ni.1 (by omega) (by omega)
  rw [o3, e] at q
  intro u hu
  by_cases eu : u = z
  · rw [ec_suE eu, eu]
    refine ⟨⟨?_, by omega⟩, fun _ => hz, fun h => ?_⟩
    · have a1 := an.1.1
      unfold ed_cap at a1 ⊢
      rcases bn.2 with bz2 | bz2
      · rw [if_pos bz2] at a1; omega
      · rw [if_neg (by omega)] at a1
        have q := q (by omega)
        rw [if_neg (by omega)]
        omega
    · have := az.2.2 h
      have := an.1.1
      unfold ed_cap at this
      split at this <;> omega
  · rw [ec_suN eu]
    exact a u hu
theorem ed_XI.fin {σ : ec_Sg} (w : ec_WF σ) {m g : Int} {c : Int → Int} (hg : ec_ing σ g) (a : ed_XI σ m g c) (hr : ∀ z d : Int, ec_ing σ z → 0 ≤ d ∧ d < 4 → 0 < ed_P σ m z d → ¬ c (ec_nb z d) + ed_P σ m z d < c z) : ∀ z : Int, 0 ≤ z ∧ z < 48 → c z = ed_cap (ed_lb σ m g) z := by
  intro z hz
  have hb := ed_lb_bd w (m := m) hg.1 (k := z.toNat) (by omega)
  have h := (ed_lb_LD w (m := m) hg.1).le (c := fun k => c (k : Int)) ed_P_PP (fun k hk => ?_) (fun u d hu hd p0 _ => ?_) (ed_lb σ m g z.toNat).toNat z.toNat (by omega) (by omega)
  · have h : c ((z.toNat : Nat) : Int) ≤ ed_lb σ m g z.toNat := h
    rw [show ((z.toNat : Nat) : Int) = z by omega] at h
    have a1 := (a z hz).1
    unfold ed_cap at a1 ⊢
    split
    · rename_i e; rw [if_pos e] at a1; omega
    · rename_i e; rw [if_neg e] at a1; omega
  · show c (k : Int) ≤ _
    rw [ed_c0 hg.1]
    have a1 := a (k : Int) (by omega)
    split
    · rename_i e; exact a1.2.2 (by omega)
    · omega
  · show c (((ec_nb u d).toNat : Nat) : Int) ≤ c ((u.toNat : Nat) : Int) + ed_P σ m u d
    have pi := ed_P_in p0
    obtain ⟨ni, o1, o2, o3⟩ := ed_opp w pi.1 hd pi.2
    have n1 := ni.1
    rw [show ((u.toNat : Nat) : Int) = u by omega, show (((ec_nb u d).toNat : Nat) : Int) = ec_nb u d by omega]
    have e := ed_P_opp w (m := m) pi.1 hd pi.2
    have pp := ed_P_PP (σ := σ) (m := m) u d hu hd
    have := hr (ec_nb u d) ((d + 2) % 4) ni (by omega) (by omega)
    rw [o3, e] at this
    omega
def ed_rx (σ : ec_Sg) (m : Int) (c : Int → Int) (k d : Int) : Prop := ec_ing σ k → 0 < ed_P σ m k d → ¬ c (ec_nb k d) + ed_P σ m k d < c k
abbrev ed_Q1 (h : ec_Hp) (q : Nat) : Prop := (ec_isK h q 16 = true ∧ (ec_shp h q).2.1 = 48) ∧ 78 < q
theorem ed_Q1.of {h h' : ec_Hp} {q : Nat} (e : h'.1 = h.1) (b : ed_Q1 h q) : ed_Q1 h' q := by
  have e : ec_shp h' q = ec_shp h q := by show ec_nth _ h'.1 q = ec_nth _ h.1 q; rw [e]
  unfold ed_Q1 ec_isK at b ⊢
  rw [e]
  exact b
theorem ed_LA.on {h h' : ec_Hp} {σ : ec_Sg} {q : Nat} (a : ed_LA h σ) (e : ec_fg (ed_on q) h h') (hq : 78 < q) : ed_LA h' σ := a.eq (fun p j hp => e.2 p j (fun y => by have y : p = q := y; omega))
section EDC
variable {q : Nat} {g md : Int}
theorem ec_p121a (hg : 0 ≤ g ∧ g < 48) : ∀ (n : Nat) (k : Int) (h : ec_Hp), ed_Q1 h q → 0 ≤ k → k + n = 48 → (∀ z : Int, 0 ≤ z ∧ z < k → h.2.1 q (ec_i z).toNatClampNeg = ec_i (if z = g then 0 else 999)) →
    ∃ h', ec_om 121 3 [.ref 72, .ref 73, .ref 74, .ref 75, .int (ec_i g), .int (ec_i md), .ref q, .int (ec_i k), .double 0, .double 0, .double 0, .double 0] [] h = ec_om 121 35 [.ref 72, .ref 73, .ref 74, .ref 75, .int (ec_i g), .int (ec_i md), .ref q, .int (ec_i 48), .double 0, .double 0, .double 0, .double 0] [] h' ∧ ed_Ar h' q 48 (fun z => if z = g then 0 else 999) ∧ ec_fg (ed_on q) h h' := by
  intro n
  induction n with
  | zero =>
    intro k h hQ h0 hk hA
    have hk : k = 48 := by omega
    subst hk
    refine ⟨h, ?_, fun z hz => hA z (by omega), ec_fg.refl⟩
    rw [ec_s121_3]
    simp (disch := first | (simp only [ec_01z, ec_01o, ec_01q]; done) | omega | (refine ec_nzO ?_; omega)) only [ec_s121_0, ec_s121_1, ec_s121_5, ec_s121_7, ec_s121_10, ec_s121_12, ec_s121_14, ec_s121_16, ec_s121_18, ec_s121_21, ec_s121_22, ec_s121_25, ec_s121_28, ec_s121_29, ec_s121_32, ec_s121_36, ec_s121_38, ec_s121_40, ec_s121_43, ec_s121_44, ec_s121_46, ec_s121_48, ec_s121_50, ec_s121_52, ec_s121_55, ec_s121_56, ec_s121_58, ec_s121_60, ec_s121_61, ec_s121_64, ec_s121_66, ec_s121_68, ec_s121_69, ec_s121_70, ec_s121_71, ec_s121_72, ec_s121_75, ec_s121_77, ec_s121_79, ec_s121_80, ec_s121_81, ec_s121_82, ec_s121_83, ec_s121_86, ec_s121_87, ec_s121_88, ec_s121_89, ec_s121_90, ec_s121_92, ec_s121_94, ec_s121_96, ec_s121_99, ec_s121_101, ec_s121_102, ec_s121_104, ec_s121_106, ec_s121_109, ec_s121_111, ec_s121_113, ec_s121_116, ec_s121_118, ec_s121_120, ec_s121_121, ec_s121_123, ec_s121_124, ec_s121_126, ec_s121_128, ec_s121_129, ec_s121_132, ec_s121_134, ec_s121_136, ec_s121_138, ec_s121_140, ec_s121_141, ec_s121_143, ec_s121_144, ec_s121_145, ec_s121_146, ec_s121_148, ec_s121_151, ec_s121_154, ec_s121_157, ec_s121_160, ec_s121_163, ec_zn0, ec_zn1, ec_zn2, ec_zn3, ec_zn4, ec_zn5, ec_zn6, ec_zn7, ec_zn8, ec_zn9, ec_zn10, ec_zn12, ec_zn13, ec_zn14, ec_zn15, ec_zn16, ec_zn20, ec_zn30, ec_zn48, ec_zn99, ec_zn120, ec_zn127, ec_zn11, ec_zn31, ec_zn46, ec_zn57, ec_zn59, ec_zn63, ec_zn101, ec_zn107, ec_zn108, ec_zn110, ec_zn111, ec_zn115, ec_zn116, ec_zn119, ec_zn167, ec_zn185, ec_zn192, ec_zn215, ec_zn233, ec_zn699, ec_zn932, ec_zn999, ec_znF, ec_zneg, ec_zadd, ec_zsub, ec_zmul, ec_zdivO, ec_em, ec_zltO, ec_zeqO, ec_zeq0, ec_qt, ec_qf, if_pos, if_neg, Int.add_zero, ec_aft_v, ec_aft_n, ec_rwE, ec_rwN, ec_rwP, ec_rwK, ec_rwS, ec_w_shpI, ec_w_shpL, ec_w_shpA, ec_zn22, ec_zn24, ec_zn40, ec_zn45, ec_zn47, ec_zn96, ec_zn100, ec_zn384, ec_zn480, ec_zn960, ec_zn2001, ec_zn2002, ec_zn2003, ec_zn7919, ec_zn40503, ec_zn10000000, ec_zn2147483647]
  | succ n ih =>
    intro k h hQ h0 hk hA
    obtain ⟨h', e1, e2, e3⟩ := ih (k + 1) (ec_setI h q (ec_i k).toNatClampNeg (ec_i (if k = g then 0 else 999))) (hQ.of rfl) (by omega) (by omega) (fun z hz => by
      by_cases e : z = k
      · subst e; rw [ec_rwE rfl]
      · rw [ec_rwN ⟨by omega, by omega, by omega⟩]; exact hA z (by omega))
    refine ⟨h', ?_, e2, (ec_fg.refl.I (by rfl)).trans e3⟩
    have hD := hQ.1
    rw [ec_s121_3]
    by_cases e : k = g
    · rw [if_pos e] at e1
      simp (disch := first | (simp only [ec_w_kI, ec_w_kL, ec_w_kA, ec_w_shpI, ec_w_shpL, ec_w_shpA, ec_isR_r, ec_01z, ec_01o, ec_01q, hD]; done) | omega | (simp only [ec_w_shpI, ec_w_shpL, ec_w_shpA, hD]; refine ec_zinO ?_; omega) | (refine ec_nzO ?_; omega)) only [ec_s121_0, ec_s121_1, ec_s121_5, ec_s121_7, ec_s121_10, ec_s121_12, ec_s121_14, ec_s121_16, ec_s121_18, ec_s121_21, ec_s121_22, ec_s121_25, ec_s121_28, ec_s121_29, ec_s121_32, ec_s121_36, ec_s121_38, ec_s121_40, ec_s121_43, ec_s121_44, ec_s121_46, ec_s121_48, ec_s121_50, ec_s121_52, ec_s121_55, ec_s121_56, ec_s121_58, ec_s121_60, ec_s121_61, ec_s121_64, ec_s121_66, ec_s121_68, ec_s121_69, ec_s121_70, ec_s121_71, ec_s121_72, ec_s121_75, ec_s121_77, ec_s121_79, ec_s121_80, ec_s121_81, ec_s121_82, ec_s121_83, ec_s121_86, ec_s121_87, ec_s121_88, ec_s121_89, ec_s121_90, ec_s121_92, ec_s121_94, ec_s121_96, ec_s121_99, ec_s121_101, ec_s121_102, ec_s121_104, ec_s121_106, ec_s121_109, ec_s121_111, ec_s121_113, ec_s121_116, ec_s121_118, ec_s121_120, ec_s121_121, ec_s121_123, ec_s121_124, ec_s121_126, ec_s121_128, ec_s121_129, ec_s121_132, ec_s121_134, ec_s121_136, ec_s121_138, ec_s121_140, ec_s121_141, ec_s121_143, ec_s121_144, ec_s121_145, ec_s121_146, ec_s121_148, ec_s121_151, ec_s121_154, ec_s121_157, ec_s121_160, ec_s121_163, ec_zn0, ec_zn1, ec_zn2, ec_zn3, ec_zn4, ec_zn5, ec_zn6, ec_zn7, ec_zn8, ec_zn9, ec_zn10, ec_zn12, ec_zn13, ec_zn14, ec_zn15, ec_zn16, ec_zn20, ec_zn30, ec_zn48, ec_zn99, ec_zn120, ec_zn127, ec_zn11, ec_zn31, ec_zn46, ec_zn57, ec_zn59, ec_zn63, ec_zn101, ec_zn107, ec_zn108, ec_zn110, ec_zn111, ec_zn115, ec_zn116, ec_zn119, ec_zn167, ec_zn185, ec_zn192, ec_zn215, ec_zn233, ec_zn699, ec_zn932, ec_zn999, ec_znF, ec_zneg, ec_zadd, ec_zsub, ec_zmul, ec_zdivO, ec_em, ec_zltO, ec_zeqO, ec_zeq0, ec_qt, ec_qf, if_pos, if_neg, Int.add_zero, ec_aft_v, ec_aft_n, ec_rwE, ec_rwN, ec_rwP, ec_rwK, ec_rwS, ec_w_shpI, ec_w_shpL, ec_w_shpA, ec_zn22, ec_zn24, ec_zn40, ec_zn45, ec_zn47, ec_zn96, ec_zn100, ec_zn384, ec_zn480, ec_zn960, ec_zn2001, ec_zn2002, ec_zn2003, ec_zn7919, ec_zn40503, ec_zn10000000, ec_zn2147483647, hD, e1]
    · rw [if_neg e] at e1
      simp (disch := first | (simp only [ec_w_kI, ec_w_kL, ec_w_kA, ec_w_shpI, ec_w_shpL, ec_w_shpA, ec_isR_r, ec_01z, ec_01o, ec_01q, hD]; done) | omega | (simp only [ec_w_shpI, ec_w_shpL, ec_w_shpA, hD]; refine ec_zinO ?_; omega) | (refine ec_nzO ?_; omega)) only [ec_s121_0, ec_s121_1, ec_s121_5, ec_s121_7, ec_s121_10, ec_s121_12, ec_s121_14, ec_s121_16, ec_s121_18, ec_s121_21, ec_s121_22, ec_s121_25, ec_s121_28, ec_s121_29, ec_s121_32, ec_s121_36, ec_s121_38, ec_s121_40, ec_s121_43, ec_s121_44, ec_s121_46, ec_s121_48, ec_s121_50, ec_s121_52, ec_s121_55, ec_s121_56, ec_s121_58, ec_s121_60, ec_s121_61, ec_s121_64, ec_s121_66, ec_s121_68, ec_s121_69, ec_s121_70, ec_s121_71, ec_s121_72, ec_s121_75, ec_s121_77, ec_s121_79, ec_s121_80, ec_s121_81, ec_s121_82, ec_s121_83, ec_s121_86, ec_s121_87, ec_s121_88, ec_s121_89, ec_s121_90, ec_s121_92, ec_s121_94, ec_s121_96, ec_s121_99, ec_s121_101, ec_s121_102, ec_s121_104, ec_s121_106, ec_s121_109, ec_s121_111, ec_s121_113, ec_s121_116, ec_s121_118, ec_s121_120, ec_s121_121, ec_s121_123, ec_s121_124, ec_s121_126, ec_s121_128, ec_s121_129, ec_s121_132, ec_s121_134, ec_s121_136, ec_s121_138, ec_s121_140, ec_s121_141, ec_s121_143, ec_s121_144, ec_s121_145, ec_s121_146, ec_s121_148, ec_s121_151, ec_s121_154, ec_s121_157, ec_s121_160, ec_s121_163, ec_zn0, ec_zn1, ec_zn2, ec_zn3, ec_zn4, ec_zn5, ec_zn6, ec_zn7, ec_zn8, ec_zn9, ec_zn10, ec_zn12, ec_zn13, ec_zn14, ec_zn15, ec_zn16, ec_zn20, ec_zn30, ec_zn48, ec_zn99, ec_zn120, ec_zn127, ec_zn11, ec_zn31, ec_zn46, ec_zn57, ec_zn59, ec_zn63, ec_zn101, ec_zn107, ec_zn108, ec_zn110, ec_zn111, ec_zn115, ec_zn116, ec_zn119, ec_zn167, ec_zn185, ec_zn192, ec_zn215, ec_zn233, ec_zn699, ec_zn932, ec_zn999, ec_znF, ec_zneg, ec_zadd, ec_zsub, ec_zmul, ec_zdivO, ec_em, ec_zltO, ec_zeqO, ec_zeq0, ec_qt, ec_qf, if_pos, if_neg, Int.add_zero, ec_aft_v, ec_aft_n, ec_rwE, ec_rwN, ec_rwP, ec_rwK, ec_rwS, ec_w_shpI, ec_w_shpL, ec_w_shpA, ec_zn22, ec_zn24, ec_zn40, ec_zn45, ec_zn47, ec_zn96, ec_zn100, ec_zn384, ec_zn480, ec_zn960, ec_zn2001, ec_zn2002, ec_zn2003, ec_zn7919, ec_zn40503, ec_zn10000000, ec_zn2147483647, hD, e1]
end EDC
section EDD
variable {σ : ec_Sg} {q : Nat} {m md g : Int}
set_option maxHeartbeats 1000000 in
theorem ec_p121d (hW : ec_WF σ) (hB : ed_L4 σ) (hm : ed_mo m md) (hg : ec_ing σ g) {k : Int} (hk : 0 ≤ k ∧ k < 48) : ∀ (n : Nat) (d o : Int) (c : Int → Int) (h : ec_Hp) (w10 w11 : Value), ed_LD h → ed_LA h σ → ed_Q1 h q → ed_Ar h q 48 c → ed_XI σ m g c → 0 ≤ d → d + n = 4 → 0 ≤ o ∧ o ≤ 1 →
    ∃ (h' : ec_Hp) (c' : Int → Int) (o' : Int) (w9' w10' w11' : Value), ec_om 121 58 [.ref 72, .ref 73, .ref 74, .ref 75, .int (ec_i g), .int (ec_i md), .ref q, .int (ec_i o), .int (ec_i k), .int (ec_i d), w10, w11] [] h = ec_om 121 154 [.ref 72, .ref 73, .ref 74, .ref 75, .int (ec_i g), .int (ec_i md), .ref q, .int (ec_i o'), .int (ec_i k), w9', w10', w11'] [] h' ∧ ed_Ar h' q 48 c' ∧ ed_XI σ m g c' ∧ ec_fg (ed_on q) h h' ∧
      (0 ≤ o' ∧ o' ≤ 1) ∧ (o' = 0 → o = 0 ∧ c' = c ∧ ∀ j : Int, d ≤ j ∧ j < 4 → ed_rx σ m c k j) ∧ (o' = 1 → (o = 1 ∧ ed_sm c' ≤ ed_sm c) ∨ ed_sm c' < ed_sm c) := by
  intro n
  induction n with
  | zero =>
    intro d o c h w10 w11 hD hA hQ hC hI h0 hd ho
    have hd : d = 4 := by omega
    subst hd
    refine ⟨h, c, o, .int (ec_i 4), w10, w11, ?_, hC, hI, ec_fg.refl, ho, fun e => ⟨e, rfl, fun j hj => absurd hj (by omega)⟩, fun e => Or.inl ⟨e, Int.le_refl _⟩⟩
    rw [ec_s121_58]
    simp (disch := first | (simp only [ec_01z, ec_01o, ec_01q]; done) | omega | (refine ec_nzO ?_; omega)) only [ec_s121_0, ec_s121_1, ec_s121_3, ec_s121_5, ec_s121_7, ec_s121_10, ec_s121_12, ec_s121_14, ec_s121_16, ec_s121_18, ec_s121_21, ec_s121_22, ec_s121_25, ec_s121_28, ec_s121_29, ec_s121_32, ec_s121_35, ec_s121_36, ec_s121_38, ec_s121_40, ec_s121_43, ec_s121_44, ec_s121_46, ec_s121_48, ec_s121_50, ec_s121_52, ec_s121_55, ec_s121_56, ec_s121_60, ec_s121_61, ec_s121_64, ec_s121_66, ec_s121_68, ec_s121_69, ec_s121_70, ec_s121_71, ec_s121_72, ec_s121_75, ec_s121_77, ec_s121_79, ec_s121_80, ec_s121_81, ec_s121_82, ec_s121_83, ec_s121_86, ec_s121_87, ec_s121_88, ec_s121_89, ec_s121_90, ec_s121_92, ec_s121_94, ec_s121_96, ec_s121_99, ec_s121_101, ec_s121_102, ec_s121_104, ec_s121_106, ec_s121_109, ec_s121_111, ec_s121_113, ec_s121_116, ec_s121_118, ec_s121_120, ec_s121_121, ec_s121_123, ec_s121_124, ec_s121_126, ec_s121_128, ec_s121_129, ec_s121_132, ec_s121_134, ec_s121_136, ec_s121_138, ec_s121_140, ec_s121_141, ec_s121_143, ec_s121_144, ec_s121_145, ec_s121_146, ec_s121_148, ec_s121_151, ec_s121_157, ec_s121_160, ec_s121_163, ec_zn0, ec_zn1, ec_zn2, ec_zn3, ec_zn4, ec_zn5, ec_zn6, ec_zn7, ec_zn8, ec_zn9, ec_zn10, ec_zn12, ec_zn13, ec_zn14, ec_zn15, ec_zn16, ec_zn20, ec_zn30, ec_zn48, ec_zn99, ec_zn120, ec_zn127, ec_zn11, ec_zn31, ec_zn46, ec_zn57, ec_zn59, ec_zn63, ec_zn101, ec_zn107, ec_zn108, ec_zn110, ec_zn111, ec_zn115, ec_zn116, ec_zn119, ec_zn167, ec_zn185, ec_zn192, ec_zn215, ec_zn233, ec_zn699, ec_zn932, ec_zn999, ec_znF, ec_zneg, ec_zadd, ec_zsub, ec_zmul, ec_zdivO, ec_em, ec_zltO, ec_zeqO, ec_zeq0, ec_qt, ec_qf, if_pos, if_neg, Int.add_zero, ec_aft_v, ec_aft_n, ec_rwE, ec_rwN, ec_rwP, ec_rwK, ec_rwS, ec_w_shpI, ec_w_shpL, ec_w_shpA, ec_zn22, ec_zn24, ec_zn40, ec_zn45, ec_zn47, ec_zn96, ec_zn100, ec_zn384, ec_zn480, ec_zn960, ec_zn2001, ec_zn2002, ec_zn2003, ec_zn7919, ec_zn40503, ec_zn10000000, ec_zn2147483647]
  | succ n ih =>
    intro d o c h w10 w11 hD hA hQ hC hI h0 hd ho
    have hd4 : 0 ≤ d ∧ d < 4 := by omega
    have hD0 := hD
    have hA0 := hA
    have hC0 := hC
    have qq := hQ.2
    have w := hW.1
    by_cases zi : ec_ing σ k
    · have g1 := ec_p118 hD hA hW hB zi hd4
      have g2 := ec_p120 hD hA hW hB hm zi hd4
      have pp := ed_P_PP (σ := σ) (m := m) k d hk hd4
      have ck := hI k hk
      have lk := ed_cap_0 hW (m := m) hg.1 hk
      have same : ∀ u11 : Value, ed_rx σ m c k d → ec_om 121 58 [.ref 72, .ref 73, .ref 74, .ref 75, .int (ec_i g), .int (ec_i md), .ref q, .int (ec_i o), .int (ec_i k), .int (ec_i d), w10, w11] [] h = ec_om 121 58 [.ref 72, .ref 73, .ref 74, .ref 75, .int (ec_i g), .int (ec_i md), .ref q, .int (ec_i o), .int (ec_i k), .int (ec_i (d + 1)), .int (ec_i (ed_P σ m k d)), u11] [] h →
        ∃ (h' : ec_Hp) (c' : Int → Int) (o' : Int) (w9' w10' w11' : Value), ec_om 121 58 [.ref 72, .ref 73, .ref 74, .ref 75, .int (ec_i g), .int (ec_i md), .ref q, .int (ec_i o), .int (ec_i k), .int (ec_i d), w10, w11] [] h = ec_om 121 154 [.ref 72, .ref 73, .ref 74, .ref 75, .int (ec_i g), .int (ec_i md), .ref q, .int (ec_i o'), .int (ec_i k), w9', w10', w11'] [] h' ∧ ed_Ar h' q 48 c' ∧ ed_XI σ m g c' ∧ ec_fg (ed_on q) h h' ∧
        (0 ≤ o' ∧ o' ≤ 1) ∧ (o' = 0 → o = 0 ∧ c' = c ∧ ∀ j : Int, d ≤ j ∧ j < 4 → ed_rx σ m c k j) ∧ (o' = 1 → (o = 1 ∧ ed_sm c' ≤ ed_sm c) ∨ ed_sm c' < ed_sm c) := by
        intro u11 hr he
        obtain ⟨h', c', o', w9', w10', w11', e1, e2, e3, e4, e5, e6, e7⟩ := ih (d + 1) o c h (.int (ec_i (ed_P σ m k d))) u11 hD hA hQ hC hI (by omega) (by omega) ho
        refine ⟨h', c', o', w9', w10', w11', he.trans e1, e2, e3, e4, e5, fun y => ?_, e7⟩
        obtain ⟨f1, f2, f3⟩ := e6 y
        refine ⟨f1, f2, fun j hj => ?_⟩
        by_cases ej : j = d
        · rw [ej]; exact hr
        · exact f3 j (by omega)
      have zz := zi
      unfold ec_ing at zz
      unfold ed_LD at hD
      unfold ed_LA at hA
      unfold ed_Ar at hC
      have hD := And.intro hQ.1 hD
      by_cases hb : 0 < ed_P σ m k d
      · have bb := (ed_P_in (σ := σ) (m := m) (z := k) (d := d) (by omega)).2
        have ni := ec_nb_in hW zi hd4 bb
        have cn := hI (ec_nb k d) ni.1
        have ln := ed_cap_0 hW (m := m) hg.1 ni.1
        have n1 := ni.1
        rw [if_pos bb] at g1
        by_cases h2 : c (ec_nb k d) + ed_P σ m k d < c k
        · obtain ⟨h', c', o', w9', w10', w11', e1, e2, e3, e4, e5, e6, e7⟩ := ih (d + 1) 1 _ (ec_setI h q (ec_i k).toNatClampNeg (ec_i (c (ec_nb k d) + ed_P σ m k d))) (.int (ec_i (ed_P σ m k d))) (.int (ec_i (ec_nb k d))) (hD0.of rfl) (hA0.on (ec_fg.refl.I (by rfl)) qq) (hQ.of rfl) (hC0.w (by decide) hk) (hI.up hW hg zi hd4 hb h2) (by omega) (by omega) (by omega)
          refine ⟨h', c', o', w9', w10', w11', ?_, e2, e3, (ec_fg.refl.I (by rfl)).trans e4, e5, fun y => absurd (e6 y).1 (by decide), fun y => ?_⟩
          · rw [ec_s121_58]
            generalize ed_P σ m k d = s at g2 pp h2 e1 hb
            generalize ec_nb k d = nb at g1 cn n1 h2 e1 ln
            simp (disch := first | (simp only [ec_w_kI, ec_w_kL, ec_w_kA, ec_w_shpI, ec_w_shpL, ec_w_shpA, ec_isR_r, ec_01z, ec_01o, ec_01q, hD]; done) | omega | (simp only [ec_w_shpI, ec_w_shpL, ec_w_shpA, hD]; refine ec_zinO ?_; omega) | (refine ec_nzO ?_; omega)) only [ec_s121_0, ec_s121_1, ec_s121_3, ec_s121_5, ec_s121_7, ec_s121_10, ec_s121_12, ec_s121_14, ec_s121_16, ec_s121_18, ec_s121_21, ec_s121_22, ec_s121_25, ec_s121_28, ec_s121_29, ec_s121_32, ec_s121_35, ec_s121_36, ec_s121_38, ec_s121_40, ec_s121_43, ec_s121_44, ec_s121_46, ec_s121_48, ec_s121_50, ec_s121_52, ec_s121_55, ec_s121_56, ec_s121_60, ec_s121_61, ec_s121_64, ec_s121_66, ec_s121_68, ec_s121_69, ec_s121_70, ec_s121_71, ec_s121_72, ec_s121_75, ec_s121_77, ec_s121_79, ec_s121_80, ec_s121_81, ec_s121_82, ec_s121_83, ec_s121_86, ec_s121_87, ec_s121_88, ec_s121_89, ec_s121_90, ec_s121_92, ec_s121_94, ec_s121_96, ec_s121_99, ec_s121_101, ec_s121_102, ec_s121_104, ec_s121_106, ec_s121_109, ec_s121_111, ec_s121_113, ec_s121_116, ec_s121_118, ec_s121_120, ec_s121_121, ec_s121_123, ec_s121_124, ec_s121_126, ec_s121_128, ec_s121_129, ec_s121_132, ec_s121_134, ec_s121_136, ec_s121_138, ec_s121_140, ec_s121_141, ec_s121_143, ec_s121_144, ec_s121_145, ec_s121_146, ec_s121_148, ec_s121_151, ec_s121_157, ec_s121_160, ec_s121_163, ec_zn0, ec_zn1, ec_zn2, ec_zn3, ec_zn4, ec_zn5, ec_zn6, ec_zn7, ec_zn8, ec_zn9, ec_zn10, ec_zn12, ec_zn13, ec_zn14, ec_zn15, ec_zn16, ec_zn20, ec_zn30, ec_zn48, ec_zn99, ec_zn120, ec_zn127, ec_zn11, ec_zn31, ec_zn46, ec_zn57, ec_zn59, ec_zn63, ec_zn101, ec_zn107, ec_zn108, ec_zn110, ec_zn111, ec_zn115, ec_zn116, ec_zn119, ec_zn167, ec_zn185, ec_zn192, ec_zn215, ec_zn233, ec_zn699, ec_zn932, ec_zn999, ec_znF, ec_zneg, ec_zadd, ec_zsub, ec_zmul, ec_zdivO, ec_em, ec_zltO, ec_zeqO, ec_zeq0, ec_qt, ec_qf, if_pos, if_neg, Int.add_zero, ec_aft_v, ec_aft_n, ec_rwE, ec_rwN, ec_rwP, ec_rwK, ec_rwS, ec_w_shpI, ec_w_shpL, ec_w_shpA, ec_zn22, ec_zn24, ec_zn40, ec_zn45, ec_zn47, ec_zn96, ec_zn100, ec_zn384, ec_zn480, ec_zn960, ec_zn2001, ec_zn2002, ec_zn2003, ec_zn7919, ec_zn40503, ec_zn10000000, ec_zn2147483647, hD, hA, hC, g1, g2, e1]
          · have := ed_sm_lt hk h2
            have := e7 y
            right
            omega
        · refine same (.int (ec_i (ec_nb k d))) (fun _ _ => h2) ?_
          rw [ec_s121_58]
          generalize ed_P σ m k d = s at g2 pp h2 hb
          generalize ec_nb k d = nb at g1 cn n1 h2 ln
          simp (disch := first | (simp only [ec_w_kI, ec_w_kL, ec_w_kA, ec_w_shpI, ec_w_shpL, ec_w_shpA, ec_isR_r, ec_01z, ec_01o, ec_01q, hD]; done) | omega | (simp only [ec_w_shpI, ec_w_shpL, ec_w_shpA, hD]; refine ec_zinO ?_; omega) | (refine ec_nzO ?_; omega)) only [ec_s121_0, ec_s121_1, ec_s121_3, ec_s121_5, ec_s121_7, ec_s121_10, ec_s121_12, ec_s121_14, ec_s121_16, ec_s121_18, ec_s121_21, ec_s121_22, ec_s121_25, ec_s121_28, ec_s121_29, ec_s121_32, ec_s121_35, ec_s121_36, ec_s121_38, ec_s121_40, ec_s121_43, ec_s121_44, ec_s121_46, ec_s121_48, ec_s121_50, ec_s121_52, ec_s121_55, ec_s121_56, ec_s121_60, ec_s121_61, ec_s121_64, ec_s121_66, ec_s121_68, ec_s121_69, ec_s121_70, ec_s121_71, ec_s121_72, ec_s121_75, ec_s121_77, ec_s121_79, ec_s121_80, ec_s121_81, ec_s121_82, ec_s121_83, ec_s121_86, ec_s121_87, ec_s121_88, ec_s121_89, ec_s121_90, ec_s121_92, ec_s121_94, ec_s121_96, ec_s121_99, ec_s121_101, ec_s121_102, ec_s121_104, ec_s121_106, ec_s121_109, ec_s121_111, ec_s121_113, ec_s121_116, ec_s121_118, ec_s121_120, ec_s121_121, ec_s121_123, ec_s121_124, ec_s121_126, ec_s121_128, ec_s121_129, ec_s121_132, ec_s121_134, ec_s121_136, ec_s121_138, ec_s121_140, ec_s121_141, ec_s121_143, ec_s121_144, ec_s121_145, ec_s121_146, ec_s121_148, ec_s121_151, ec_s121_157, ec_s121_160, ec_s121_163, ec_zn0, ec_zn1, ec_zn2, ec_zn3, ec_zn4, ec_zn5, ec_zn6, ec_zn7, ec_zn8, ec_zn9, ec_zn10, ec_zn12, ec_zn13, ec_zn14, ec_zn15, ec_zn16, ec_zn20, ec_zn30, ec_zn48, ec_zn99, ec_zn120, ec_zn127, ec_zn11, ec_zn31, ec_zn46, ec_zn57, ec_zn59, ec_zn63, ec_zn101, ec_zn107, ec_zn108, ec_zn110, ec_zn111, ec_zn115, ec_zn116, ec_zn119, ec_zn167, ec_zn185, ec_zn192, ec_zn215, ec_zn233, ec_zn699, ec_zn932, ec_zn999, ec_znF, ec_zneg, ec_zadd, ec_zsub, ec_zmul, ec_zdivO, ec_em, ec_zltO, ec_zeqO, ec_zeq0, ec_qt, ec_qf, if_pos, if_neg, Int.add_zero, ec_aft_v, ec_aft_n, ec_rwE, ec_rwN, ec_rwP, ec_rwK, ec_rwS, ec_w_shpI, ec_w_shpL, ec_w_shpA, ec_zn22, ec_zn24, ec_zn40, ec_zn45, ec_zn47, ec_zn96, ec_zn100, ec_zn384, ec_zn480, ec_zn960, ec_zn2001, ec_zn2002, ec_zn2003, ec_zn7919, ec_zn40503, ec_zn10000000, ec_zn2147483647, hD, hA, hC, g1, g2]
      · refine same (.int (ec_i (if ec_hb σ k d then ec_nb k d else -1))) (fun _ y => absurd y hb) ?_
        rw [ec_s121_58]
        simp (disch := first | (simp only [ec_w_kI, ec_w_kL, ec_w_kA, ec_w_shpI, ec_w_shpL, ec_w_shpA, ec_isR_r, ec_01z, ec_01o, ec_01q, hD]; done) | omega | (simp only [ec_w_shpI, ec_w_shpL, ec_w_shpA, hD]; refine ec_zinO ?_; omega) | (refine ec_nzO ?_; omega)) only [ec_s121_0, ec_s121_1, ec_s121_3, ec_s121_5, ec_s121_7, ec_s121_10, ec_s121_12, ec_s121_14, ec_s121_16, ec_s121_18, ec_s121_21, ec_s121_22, ec_s121_25, ec_s121_28, ec_s121_29, ec_s121_32, ec_s121_35, ec_s121_36, ec_s121_38, ec_s121_40, ec_s121_43, ec_s121_44, ec_s121_46, ec_s121_48, ec_s121_50, ec_s121_52, ec_s121_55, ec_s121_56, ec_s121_60, ec_s121_61, ec_s121_64, ec_s121_66, ec_s121_68, ec_s121_69, ec_s121_70, ec_s121_71, ec_s121_72, ec_s121_75, ec_s121_77, ec_s121_79, ec_s121_80, ec_s121_81, ec_s121_82, ec_s121_83, ec_s121_86, ec_s121_87, ec_s121_88, ec_s121_89, ec_s121_90, ec_s121_92, ec_s121_94, ec_s121_96, ec_s121_99, ec_s121_101, ec_s121_102, ec_s121_104, ec_s121_106, ec_s121_109, ec_s121_111, ec_s121_113, ec_s121_116, ec_s121_118, ec_s121_120, ec_s121_121, ec_s121_123, ec_s121_124, ec_s121_126, ec_s121_128, ec_s121_129, ec_s121_132, ec_s121_134, ec_s121_136, ec_s121_138, ec_s121_140, ec_s121_141, ec_s121_143, ec_s121_144, ec_s121_145, ec_s121_146, ec_s121_148, ec_s121_151, ec_s121_157, ec_s121_160, ec_s121_163, ec_zn0, ec_zn1, ec_zn2, ec_zn3, ec_zn4, ec_zn5, ec_zn6, ec_zn7, ec_zn8, ec_zn9, ec_zn10, ec_zn12, ec_zn13, ec_zn14, ec_zn15, ec_zn16, ec_zn20, ec_zn30, ec_zn48, ec_zn99, ec_zn120, ec_zn127, ec_zn11, ec_zn31, ec_zn46, ec_zn57, ec_zn59, ec_zn63, ec_zn101, ec_zn107, ec_zn108, ec_zn110, ec_zn111, ec_zn115, ec_zn116, ec_zn119, ec_zn167, ec_zn185, ec_zn192, ec_zn215, ec_zn233, ec_zn699, ec_zn932, ec_zn999, ec_znF, ec_zneg, ec_zadd, ec_zsub, ec_zmul, ec_zdivO, ec_em, ec_zltO, ec_zeqO, ec_zeq0, ec_qt, ec_qf, if_pos, if_neg, Int.add_zero, ec_aft_v, ec_aft_n, ec_rwE, ec_rwN, ec_rwP, ec_rwK, ec_rwS, ec_w_shpI, ec_w_shpL, ec_w_shpA, ec_zn22, ec_zn24, ec_zn40, ec_zn45, ec_zn47, ec_zn96, ec_zn100, ec_zn384, ec_zn480, ec_zn960, ec_zn2001, ec_zn2002, ec_zn2003, ec_zn7919, ec_zn40503, ec_zn10000000, ec_zn2147483647, hD, hA, g1, g2]
    · refine ⟨h, c, o, .int (ec_i d), w10, w11, ?_, hC, hI, ec_fg.refl, ho, fun e => ⟨e, rfl, fun j hj => fun y => absurd y zi⟩, fun e => Or.inl ⟨e, Int.le_refl _⟩⟩
      unfold ed_LD at hD
      unfold ed_LA at hA
      rw [ec_s121_58]
      by_cases h1 : k % 8 < σ 0
      · have h2 : ¬ k / 8 < σ 1 := fun y => zi ⟨hk, h1, y⟩
        simp (disch := first | (simp only [ec_w_kI, ec_w_kL, ec_w_kA, ec_w_shpI, ec_w_shpL, ec_w_shpA, ec_isR_r, ec_01z, ec_01o, ec_01q, hD]; done) | omega | (simp only [ec_w_shpI, ec_w_shpL, ec_w_shpA, hD]; refine ec_zinO ?_; omega) | (refine ec_nzO ?_; omega)) only [ec_s121_0, ec_s121_1, ec_s121_3, ec_s121_5, ec_s121_7, ec_s121_10, ec_s121_12, ec_s121_14, ec_s121_16, ec_s121_18, ec_s121_21, ec_s121_22, ec_s121_25, ec_s121_28, ec_s121_29, ec_s121_32, ec_s121_35, ec_s121_36, ec_s121_38, ec_s121_40, ec_s121_43, ec_s121_44, ec_s121_46, ec_s121_48, ec_s121_50, ec_s121_52, ec_s121_55, ec_s121_56, ec_s121_60, ec_s121_61, ec_s121_64, ec_s121_66, ec_s121_68, ec_s121_69, ec_s121_70, ec_s121_71, ec_s121_72, ec_s121_75, ec_s121_77, ec_s121_79, ec_s121_80, ec_s121_81, ec_s121_82, ec_s121_83, ec_s121_86, ec_s121_87, ec_s121_88, ec_s121_89, ec_s121_90, ec_s121_92, ec_s121_94, ec_s121_96, ec_s121_99, ec_s121_101, ec_s121_102, ec_s121_104, ec_s121_106, ec_s121_109, ec_s121_111, ec_s121_113, ec_s121_116, ec_s121_118, ec_s121_120, ec_s121_121, ec_s121_123, ec_s121_124, ec_s121_126, ec_s121_128, ec_s121_129, ec_s121_132, ec_s121_134, ec_s121_136, ec_s121_138, ec_s121_140, ec_s121_141, ec_s121_143, ec_s121_144, ec_s121_145, ec_s121_146, ec_s121_148, ec_s121_151, ec_s121_157, ec_s121_160, ec_s121_163, ec_zn0, ec_zn1, ec_zn2, ec_zn3, ec_zn4, ec_zn5, ec_zn6, ec_zn7, ec_zn8, ec_zn9, ec_zn10, ec_zn12, ec_zn13, ec_zn14, ec_zn15, ec_zn16, ec_zn20, ec_zn30, ec_zn48, ec_zn99, ec_zn120, ec_zn127, ec_zn11, ec_zn31, ec_zn46, ec_zn57, ec_zn59, ec_zn63, ec_zn101, ec_zn107, ec_zn108, ec_zn110, ec_zn111, ec_zn115, ec_zn116, ec_zn119, ec_zn167, ec_zn185, ec_zn192, ec_zn215, ec_zn233, ec_zn699, ec_zn932, ec_zn999, ec_znF, ec_zneg, ec_zadd, ec_zsub, ec_zmul, ec_zdivO, ec_em, ec_zltO, ec_zeqO, ec_zeq0, ec_qt, ec_qf, if_pos, if_neg, Int.add_zero, ec_aft_v, ec_aft_n, ec_rwE, ec_rwN, ec_rwP, ec_rwK, ec_rwS, ec_w_shpI, ec_w_shpL, ec_w_shpA, ec_zn22, ec_zn24, ec_zn40, ec_zn45, ec_zn47, ec_zn96, ec_zn100, ec_zn384, ec_zn480, ec_zn960, ec_zn2001, ec_zn2002, ec_zn2003, ec_zn7919, ec_zn40503, ec_zn10000000, ec_zn2147483647, hD, hA]
      · simp (disch := first | (simp only [ec_w_kI, ec_w_kL, ec_w_kA, ec_w_shpI, ec_w_shpL, ec_w_shpA, ec_isR_r, ec_01z, ec_01o, ec_01q, hD]; done) | omega | (simp only [ec_w_shpI, ec_w_shpL, ec_w_shpA, hD]; refine ec_zinO ?_; omega) | (refine ec_nzO ?_; omega)) only [ec_s121_0, ec_s121_1, ec_s121_3, ec_s121_5, ec_s121_7, ec_s121_10, ec_s121_12, ec_s121_14, ec_s121_16, ec_s121_18, ec_s121_21, ec_s121_22, ec_s121_25, ec_s121_28, ec_s121_29, ec_s121_32, ec_s121_35, ec_s121_36, ec_s121_38, ec_s121_40, ec_s121_43, ec_s121_44, ec_s121_46, ec_s121_48, ec_s121_50, ec_s121_52, ec_s121_55, ec_s121_56, ec_s121_60, ec_s121_61, ec_s121_64, ec_s121_66, ec_s121_68, ec_s121_69, ec_s121_70, ec_s121_71, ec_s121_72, ec_s121_75, ec_s121_77, ec_s121_79, ec_s121_80, ec_s121_81, ec_s121_82, ec_s121_83, ec_s121_86, ec_s121_87, ec_s121_88, ec_s121_89, ec_s121_90, ec_s121_92, ec_s121_94, ec_s121_96, ec_s121_99, ec_s121_101, ec_s121_102, ec_s121_104, ec_s121_106, ec_s121_109, ec_s121_111, ec_s121_113, ec_s121_116, ec_s121_118, ec_s121_120, ec_s121_121, ec_s121_123, ec_s121_124, ec_s121_126, ec_s121_128, ec_s121_129, ec_s121_132, ec_s121_134, ec_s121_136, ec_s121_138, ec_s121_140, ec_s121_141, ec_s121_143, ec_s121_144, ec_s121_145, ec_s121_146, ec_s121_148, ec_s121_151, ec_s121_157, ec_s121_160, ec_s121_163, ec_zn0, ec_zn1, ec_zn2, ec_zn3, ec_zn4, ec_zn5, ec_zn6, ec_zn7, ec_zn8, ec_zn9, ec_zn10, ec_zn12, ec_zn13, ec_zn14, ec_zn15, ec_zn16, ec_zn20, ec_zn30, ec_zn48, ec_zn99, ec_zn120, ec_zn127, ec_zn11, ec_zn31, ec_zn46, ec_zn57, ec_zn59, ec_zn63, ec_zn101, ec_zn107, ec_zn108, ec_zn110, ec_zn111, ec_zn115, ec_zn116, ec_zn119, ec_zn167, ec_zn185, ec_zn192, ec_zn215, ec_zn233, ec_zn699, ec_zn932, ec_zn999, ec_znF, ec_zneg, ec_zadd, ec_zsub, ec_zmul, ec_zdivO, ec_em, ec_zltO, ec_zeqO, ec_zeq0, ec_qt, ec_qf, if_pos, if_neg, Int.add_zero, ec_aft_v, ec_aft_n, ec_rwE, ec_rwN, ec_rwP, ec_rwK, ec_rwS, ec_w_shpI, ec_w_shpL, ec_w_shpA, ec_zn22, ec_zn24, ec_zn40, ec_zn45, ec_zn47, ec_zn96, ec_zn100, ec_zn384, ec_zn480, ec_zn960, ec_zn2001, ec_zn2002, ec_zn2003, ec_zn7919, ec_zn40503, ec_zn10000000, ec_zn2147483647, hD, hA]
theorem ec_p121k (hW : ec_WF σ) (hB : ed_L4 σ) (hm : ed_mo m md) (hg : ec_ing σ g) : ∀ (n : Nat) (k o : Int) (c : Int → Int) (h : ec_Hp) (w9 w10 w11 : Value), ed_LD h → ed_LA h σ → ed_Q1 h q → ed_Ar h q 48 c → ed_XI σ m g c → k + 1 = n → k < 48 → 0 ≤ o ∧ o ≤ 1 →
    ∃ (h' : ec_Hp) (c' : Int → Int) (o' : Int) (w8' w9' w10' w11' : Value), ec_om 121 50 [.ref 72, .ref 73, .ref 74, .ref 75, .int (ec_i g), .int (ec_i md), .ref q, .int (ec_i o), .int (ec_i k), w9, w10, w11] [] h = ec_om 121 38 [.ref 72, .ref 73, .ref 74, .ref 75, .int (ec_i g), .int (ec_i md), .ref q, .int (ec_i o'), w8', w9', w10', w11'] [] h' ∧ ed_Ar h' q 48 c' ∧ ed_XI σ m g c' ∧ ec_fg (ed_on q) h h' ∧
      (0 ≤ o' ∧ o' ≤ 1) ∧ (o' = 0 → o = 0 ∧ c' = c ∧ ∀ u j : Int, 0 ≤ u ∧ u ≤ k → 0 ≤ j ∧ j < 4 → ed_rx σ m c u j) ∧ (o' = 1 → (o = 1 ∧ ed_sm c' ≤ ed_sm c) ∨ ed_sm c' < ed_sm c) := by
  intro n
  induction n with
  | zero =>
    intro k o c h w9 w10 w11 hD hA hQ hC hI hk hk2 ho
    have hk : k = -1 := by omega
    subst hk
    refine ⟨h, c, o, .int (ec_i (-1)), w9, w10, w11, ?_, hC, hI, ec_fg.refl, ho, fun e => ⟨e, rfl, fun u j hu => absurd hu (by omega)⟩, fun e => Or.inl ⟨e, Int.le_refl _⟩⟩
    rw [ec_s121_50]
    simp (disch := first | (simp only [ec_01z, ec_01o, ec_01q]; done) | omega | (refine ec_nzO ?_; omega)) only [ec_s121_0, ec_s121_1, ec_s121_3, ec_s121_5, ec_s121_7, ec_s121_10, ec_s121_12, ec_s121_14, ec_s121_16, ec_s121_18, ec_s121_21, ec_s121_22, ec_s121_25, ec_s121_28, ec_s121_29, ec_s121_32, ec_s121_35, ec_s121_36, ec_s121_40, ec_s121_43, ec_s121_44, ec_s121_46, ec_s121_48, ec_s121_52, ec_s121_55, ec_s121_56, ec_s121_58, ec_s121_60, ec_s121_61, ec_s121_64, ec_s121_66, ec_s121_68, ec_s121_69, ec_s121_70, ec_s121_71, ec_s121_72, ec_s121_75, ec_s121_77, ec_s121_79, ec_s121_80, ec_s121_81, ec_s121_82, ec_s121_83, ec_s121_86, ec_s121_87, ec_s121_88, ec_s121_89, ec_s121_90, ec_s121_92, ec_s121_94, ec_s121_96, ec_s121_99, ec_s121_101, ec_s121_102, ec_s121_104, ec_s121_106, ec_s121_109, ec_s121_111, ec_s121_113, ec_s121_116, ec_s121_118, ec_s121_120, ec_s121_121, ec_s121_123, ec_s121_124, ec_s121_126, ec_s121_128, ec_s121_129, ec_s121_132, ec_s121_134, ec_s121_136, ec_s121_138, ec_s121_140, ec_s121_141, ec_s121_143, ec_s121_144, ec_s121_145, ec_s121_146, ec_s121_148, ec_s121_151, ec_s121_154, ec_s121_157, ec_s121_160, ec_s121_163, ec_zn0, ec_zn1, ec_zn2, ec_zn3, ec_zn4, ec_zn5, ec_zn6, ec_zn7, ec_zn8, ec_zn9, ec_zn10, ec_zn12, ec_zn13, ec_zn14, ec_zn15, ec_zn16, ec_zn20, ec_zn30, ec_zn48, ec_zn99, ec_zn120, ec_zn127, ec_zn11, ec_zn31, ec_zn46, ec_zn57, ec_zn59, ec_zn63, ec_zn101, ec_zn107, ec_zn108, ec_zn110, ec_zn111, ec_zn115, ec_zn116, ec_zn119, ec_zn167, ec_zn185, ec_zn192, ec_zn215, ec_zn233, ec_zn699, ec_zn932, ec_zn999, ec_znF, ec_zneg, ec_zadd, ec_zsub, ec_zmul, ec_zdivO, ec_em, ec_zltO, ec_zeqO, ec_zeq0, ec_qt, ec_qf, if_pos, if_neg, Int.add_zero, ec_aft_v, ec_aft_n, ec_rwE, ec_rwN, ec_rwP, ec_rwK, ec_rwS, ec_w_shpI, ec_w_shpL, ec_w_shpA, ec_zn22, ec_zn24, ec_zn40, ec_zn45, ec_zn47, ec_zn96, ec_zn100, ec_zn384, ec_zn480, ec_zn960, ec_zn2001, ec_zn2002, ec_zn2003, ec_zn7919, ec_zn40503, ec_zn10000000, ec_zn2147483647]
  | succ n ih =>
    intro k o c h w9 w10 w11 hD hA hQ hC hI hk hk2 ho
    obtain ⟨h1, c1, o1, v9, v10, v11, a1, a2, a3, a4, a5, a6, a7⟩ := ec_p121d hW hB hm hg (k := k) (by omega) 4 0 o c h w10 w11 hD hA hQ hC hI (by omega) (by omega) ho
    obtain ⟨h2, c2, o2, x8, x9, x10, x11, b1, b2, b3, b4, b5, b6, b7⟩ := ih (k - 1) o1 c1 h1 v9 v10 v11 (hD.of a4.1.1) (hA.on a4 hQ.2) (hQ.of a4.1.1) a2 a3 (by omega) (by omega) a5
    refine ⟨h2, c2, o2, x8, x9, x10, x11, ?_, b2, b3, a4.trans b4, b5, fun y => ?_, fun y => ?_⟩
    · rw [ec_s121_50]
      simp (disch := first | (simp only [ec_01z, ec_01o, ec_01q]; done) | omega | (refine ec_nzO ?_; omega)) only [ec_s121_0, ec_s121_1, ec_s121_3, ec_s121_5, ec_s121_7, ec_s121_10, ec_s121_12, ec_s121_14, ec_s121_16, ec_s121_18, ec_s121_21, ec_s121_22, ec_s121_25, ec_s121_28, ec_s121_29, ec_s121_32, ec_s121_35, ec_s121_36, ec_s121_40, ec_s121_43, ec_s121_44, ec_s121_46, ec_s121_48, ec_s121_52, ec_s121_55, ec_s121_56, ec_s121_60, ec_s121_61, ec_s121_64, ec_s121_66, ec_s121_68, ec_s121_69, ec_s121_70, ec_s121_71, ec_s121_72, ec_s121_75, ec_s121_77, ec_s121_79, ec_s121_80, ec_s121_81, ec_s121_82, ec_s121_83, ec_s121_86, ec_s121_87, ec_s121_88, ec_s121_89, ec_s121_90, ec_s121_92, ec_s121_94, ec_s121_96, ec_s121_99, ec_s121_101, ec_s121_102, ec_s121_104, ec_s121_106, ec_s121_109, ec_s121_111, ec_s121_113, ec_s121_116, ec_s121_118, ec_s121_120, ec_s121_121, ec_s121_123, ec_s121_124, ec_s121_126, ec_s121_128, ec_s121_129, ec_s121_132, ec_s121_134, ec_s121_136, ec_s121_138, ec_s121_140, ec_s121_141, ec_s121_143, ec_s121_144, ec_s121_145, ec_s121_146, ec_s121_148, ec_s121_151, ec_s121_157, ec_s121_160, ec_s121_163, ec_zn0, ec_zn1, ec_zn2, ec_zn3, ec_zn4, ec_zn5, ec_zn6, ec_zn7, ec_zn8, ec_zn9, ec_zn10, ec_zn12, ec_zn13, ec_zn14, ec_zn15, ec_zn16, ec_zn20, ec_zn30, ec_zn48, ec_zn99, ec_zn120, ec_zn127, ec_zn11, ec_zn31, ec_zn46, ec_zn57, ec_zn59, ec_zn63, ec_zn101, ec_zn107, ec_zn108, ec_zn110, ec_zn111, ec_zn115, ec_zn116, ec_zn119, ec_zn167, ec_zn185, ec_zn192, ec_zn215, ec_zn233, ec_zn699, ec_zn932, ec_zn999, ec_znF, ec_zneg, ec_zadd, ec_zsub, ec_zmul, ec_zdivO, ec_em, ec_zltO, ec_zeqO, ec_zeq0, ec_qt, ec_qf, if_pos, if_neg, Int.add_zero, ec_aft_v, ec_aft_n, ec_rwE, ec_rwN, ec_rwP, ec_rwK, ec_rwS, ec_w_shpI, ec_w_shpL, ec_w_shpA, ec_zn22, ec_zn24, ec_zn40, ec_zn45, ec_zn47, ec_zn96, ec_zn100, ec_zn384, ec_zn480, ec_zn960, ec_zn2001, ec_zn2002, ec_zn2003, ec_zn7919, ec_zn40503, ec_zn10000000, ec_zn2147483647]
      rw [a1]
      have b1 : ec_om 121 50 [.ref 72, .ref 73, .ref 74, .ref 75, .int (ec_i g), .int (ec_i md), .ref q, .int (ec_i o1), .int (ec_i (k + -1)), v9, v10, v11] [] h1 = _ := b1
      simp (disch := first | (simp only [ec_01z, ec_01o, ec_01q]; done) | omega | (refine ec_nzO ?_; omega)) only [ec_s121_0, ec_s121_1, ec_s121_3, ec_s121_5, ec_s121_7, ec_s121_10, ec_s121_12, ec_s121_14, ec_s121_16, ec_s121_18, ec_s121_21, ec_s121_22, ec_s121_25, ec_s121_28, ec_s121_29, ec_s121_32, ec_s121_35, ec_s121_36, ec_s121_40, ec_s121_43, ec_s121_44, ec_s121_46, ec_s121_48, ec_s121_52, ec_s121_55, ec_s121_56, ec_s121_60, ec_s121_61, ec_s121_64, ec_s121_66, ec_s121_68, ec_s121_69, ec_s121_70, ec_s121_71, ec_s121_72, ec_s121_75, ec_s121_77, ec_s121_79, ec_s121_80, ec_s121_81, ec_s121_82, ec_s121_83, ec_s121_86, ec_s121_87, ec_s121_88, ec_s121_89, ec_s121_90, ec_s121_92, ec_s121_94, ec_s121_96, ec_s121_99, ec_s121_101, ec_s121_102, ec_s121_104, ec_s121_106, ec_s121_109, ec_s121_111, ec_s121_113, ec_s121_116, ec_s121_118, ec_s121_120, ec_s121_121, ec_s121_123, ec_s121_124, ec_s121_126, ec_s121_128, ec_s121_129, ec_s121_132, ec_s121_134, ec_s121_136, ec_s121_138, ec_s121_140, ec_s121_141, ec_s121_143, ec_s121_144, ec_s121_145, ec_s121_146, ec_s121_148, ec_s121_151, ec_s121_154, ec_s121_157, ec_s121_160, ec_s121_163, ec_zn0, ec_zn1, ec_zn2, ec_zn3, ec_zn4, ec_zn5, ec_zn6, ec_zn7, ec_zn8, ec_zn9, ec_zn10, ec_zn12, ec_zn13, ec_zn14, ec_zn15, ec_zn16, ec_zn20, ec_zn30, ec_zn48, ec_zn99, ec_zn120, ec_zn127, ec_zn11, ec_zn31, ec_zn46, ec_zn57, ec_zn59, ec_zn63, ec_zn101, ec_zn107, ec_zn108, ec_zn110, ec_zn111, ec_zn115, ec_zn116, ec_zn119, ec_zn167, ec_zn185, ec_zn192, ec_zn215, ec_zn233, ec_zn699, ec_zn932, ec_zn999, ec_znF, ec_zneg, ec_zadd, ec_zsub, ec_zmul, ec_zdivO, ec_em, ec_zltO, ec_zeqO, ec_zeq0, ec_qt, ec_qf, if_pos, if_neg, Int.add_zero, ec_aft_v, ec_aft_n, ec_rwE, ec_rwN, ec_rwP, ec_rwK, ec_rwS, ec_w_shpI, ec_w_shpL, ec_w_shpA, ec_zn22, ec_zn24, ec_zn40, ec_zn45, ec_zn47, ec_zn96, ec_zn100, ec_zn384, ec_zn480, ec_zn960, ec_zn2001, ec_zn2002, ec_zn2003, ec_zn7919, ec_zn40503, ec_zn10000000, ec_zn2147483647, b1]
    · obtain ⟨f1, f2, f3⟩ := b6 y
      obtain ⟨e1, e2, e3⟩ := a6 f1
      refine ⟨e1, f2.trans e2, fun u j hu hj => ?_⟩
      by_cases eu : u = k
      · rw [eu]; exact e3 j hj
      · rw [← e2]; exact f3 u j (by omega) hj
    · rcases b7 y with ⟨f1, f2⟩ | f2
      · rcases a7 f1 with ⟨g1, g2⟩ | g2
        · exact Or.inl ⟨g1, by omega⟩
        · right; omega
      · have : ed_sm c1 ≤ ed_sm c := by
          by_cases y2 : o1 = 0
          · rw [(a6 y2).2.1]; exact Int.le_refl _
          · rcases a7 (by omega) with g2 | g2 <;> omega
        right; omega
theorem ec_p121c (hW : ec_WF σ) (hB : ed_L4 σ) (hm : ed_mo m md) (hg : ec_ing σ g) : ∀ (N : Nat) (c : Int → Int) (h : ec_Hp) (w8 w9 w10 w11 : Value), ed_LD h → ed_LA h σ → ed_Q1 h q → ed_Ar h q 48 c → ed_XI σ m g c → ed_sm c < N →
    ∃ (h' : ec_Hp), ec_om 121 38 [.ref 72, .ref 73, .ref 74, .ref 75, .int (ec_i g), .int (ec_i md), .ref q, .int (ec_i 1), w8, w9, w10, w11] [] h = some (.inl none, h') ∧ ed_Ar h' q 48 (ed_cap (ed_lb σ m g)) ∧ ec_fg (ed_on q) h h' := by
  intro N
  induction N with
  | zero =>
    intro c h w8 w9 w10 w11 hD hA hQ hC hI hN
    have : 0 ≤ ed_sm c := ec_sm_nn 48 (fun k hk => by
      have := (hI (k : Int) (by omega)).1.1
      have := (ed_cap_0 hW (m := m) hg.1 (z := (k : Int)) (by omega)).1
      omega)
    omega
  | succ N ih =>
    intro c h w8 w9 w10 w11 hD hA hQ hC hI hN
    obtain ⟨h', c', o', w8', w9', w10', w11', e1, e2, e3, e4, e5, e6, e7⟩ := ec_p121k hW hB hm hg 48 47 0 c h w9 w10 w11 hD hA hQ hC hI (by omega) (by omega) (by omega)
    by_cases y : o' = 0
    · obtain ⟨-, f2, f3⟩ := e6 y
      subst y
      refine ⟨h', ?_, fun z hz => ?_, e4⟩
      · rw [ec_s121_38]
        simp (disch := first | (simp only [ec_01z, ec_01o, ec_01q]; done) | omega | (refine ec_nzO ?_; omega)) only [ec_s121_0, ec_s121_1, ec_s121_3, ec_s121_5, ec_s121_7, ec_s121_10, ec_s121_12, ec_s121_14, ec_s121_16, ec_s121_18, ec_s121_21, ec_s121_22, ec_s121_25, ec_s121_28, ec_s121_29, ec_s121_32, ec_s121_35, ec_s121_36, ec_s121_40, ec_s121_43, ec_s121_44, ec_s121_46, ec_s121_48, ec_s121_52, ec_s121_55, ec_s121_56, ec_s121_58, ec_s121_60, ec_s121_61, ec_s121_64, ec_s121_66, ec_s121_68, ec_s121_69, ec_s121_70, ec_s121_71, ec_s121_72, ec_s121_75, ec_s121_77, ec_s121_79, ec_s121_80, ec_s121_81, ec_s121_82, ec_s121_83, ec_s121_86, ec_s121_87, ec_s121_88, ec_s121_89, ec_s121_90, ec_s121_92, ec_s121_94, ec_s121_96, ec_s121_99, ec_s121_101, ec_s121_102, ec_s121_104, ec_s121_106, ec_s121_109, ec_s121_111, ec_s121_113, ec_s121_116, ec_s121_118, ec_s121_120, ec_s121_121, ec_s121_123, ec_s121_124, ec_s121_126, ec_s121_128, ec_s121_129, ec_s121_132, ec_s121_134, ec_s121_136, ec_s121_138, ec_s121_140, ec_s121_141, ec_s121_143, ec_s121_144, ec_s121_145, ec_s121_146, ec_s121_148, ec_s121_151, ec_s121_154, ec_s121_157, ec_s121_160, ec_s121_163, ec_zn0, ec_zn1, ec_zn2, ec_zn3, ec_zn4, ec_zn5, ec_zn6, ec_zn7, ec_zn8, ec_zn9, ec_zn10, ec_zn12, ec_zn13, ec_zn14, ec_zn15, ec_zn16, ec_zn20, ec_zn30, ec_zn48, ec_zn99, ec_zn120, ec_zn127, ec_zn11, ec_zn31, ec_zn46, ec_zn57, ec_zn59, ec_zn63, ec_zn101, ec_zn107, ec_zn108, ec_zn110, ec_zn111, ec_zn115, ec_zn116, ec_zn119, ec_zn167, ec_zn185, ec_zn192, ec_zn215, ec_zn233, ec_zn699, ec_zn932, ec_zn999, ec_znF, ec_zneg, ec_zadd, ec_zsub, ec_zmul, ec_zdivO, ec_em, ec_zltO, ec_zeqO, ec_zeq0, ec_qt, ec_qf, if_pos, if_neg, Int.add_zero, ec_aft_v, ec_aft_n, ec_rwE, ec_rwN, ec_rwP, ec_rwK, ec_rwS, ec_w_shpI, ec_w_shpL, ec_w_shpA, ec_zn22, ec_zn24, ec_zn40, ec_zn45, ec_zn47, ec_zn96, ec_zn100, ec_zn384, ec_zn480, ec_zn960, ec_zn2001, ec_zn2002, ec_zn2003, ec_zn7919, ec_zn40503, ec_zn10000000, ec_zn2147483647]
        rw [e1, ec_s121_38]
        simp (disch := first | (simp only [ec_01z, ec_01o, ec_01q]; done) | omega | (refine ec_nzO ?_; omega)) only [ec_s121_0, ec_s121_1, ec_s121_3, ec_s121_5, ec_s121_7, ec_s121_10, ec_s121_12, ec_s121_14, ec_s121_16, ec_s121_18, ec_s121_21, ec_s121_22, ec_s121_25, ec_s121_28, ec_s121_29, ec_s121_32, ec_s121_35, ec_s121_36, ec_s121_40, ec_s121_43, ec_s121_44, ec_s121_46, ec_s121_48, ec_s121_52, ec_s121_55, ec_s121_56, ec_s121_58, ec_s121_60, ec_s121_61, ec_s121_64, ec_s121_66, ec_s121_68, ec_s121_69, ec_s121_70, ec_s121_71, ec_s121_72, ec_s121_75, ec_s121_77, ec_s121_79, ec_s121_80, ec_s121_81, ec_s121_82, ec_s121_83, ec_s121_86, ec_s121_87, ec_s121_88, ec_s121_89, ec_s121_90, ec_s121_92, ec_s121_94, ec_s121_96, ec_s121_99, ec_s121_101, ec_s121_102, ec_s121_104, ec_s121_106, ec_s121_109, ec_s121_111, ec_s121_113, ec_s121_116, ec_s121_118, ec_s121_120, ec_s121_121, ec_s121_123, ec_s121_124, ec_s121_126, ec_s121_128, ec_s121_129, ec_s121_132, ec_s121_134, ec_s121_136, ec_s121_138, ec_s121_140, ec_s121_141, ec_s121_143, ec_s121_144, ec_s121_145, ec_s121_146, ec_s121_148, ec_s121_151, ec_s121_154, ec_s121_157, ec_s121_160, ec_s121_163, ec_zn0, ec_zn1, ec_zn2, ec_zn3, ec_zn4, ec_zn5, ec_zn6, ec_zn7, ec_zn8, ec_zn9, ec_zn10, ec_zn12, ec_zn13, ec_zn14, ec_zn15, ec_zn16, ec_zn20, ec_zn30, ec_zn48, ec_zn99, ec_zn120, ec_zn127, ec_zn11, ec_zn31, ec_zn46, ec_zn57, ec_zn59, ec_zn63, ec_zn101, ec_zn107, ec_zn108, ec_zn110, ec_zn111, ec_zn115, ec_zn116, ec_zn119, ec_zn167, ec_zn185, ec_zn192, ec_zn215, ec_zn233, ec_zn699, ec_zn932, ec_zn999, ec_znF, ec_zneg, ec_zadd, ec_zsub, ec_zmul, ec_zdivO, ec_em, ec_zltO, ec_zeqO, ec_zeq0, ec_qt, ec_qf, if_pos, if_neg, Int.add_zero, ec_aft_v, ec_aft_n, ec_rwE, ec_rwN, ec_rwP, ec_rwK, ec_rwS, ec_w_shpI, ec_w_shpL, ec_w_shpA, ec_zn22, ec_zn24, ec_zn40, ec_zn45, ec_zn47, ec_zn96, ec_zn100, ec_zn384, ec_zn480, ec_zn960, ec_zn2001, ec_zn2002, ec_zn2003, ec_zn7919, ec_zn40503, ec_zn10000000, ec_zn2147483647]
      · rw [e2 z hz, f2]
        congr 1
        refine hI.fin hW hg (fun u d hu hd h1 => ?_) z hz
        have hu1 := hu.1
        exact f3 u d (by omega) hd hu h1
    · have y1 : o' = 1 := by omega
      subst y1
      have := e7 rfl
      obtain ⟨h2, f1, f2, f3⟩ := ih c' h' w8' w9' w10' w11' (hD.of e4.1.1) (hA.on e4 hQ.2) (hQ.of e4.1.1) e2 e3 (by omega)
      refine ⟨h2, ?_, f2, e4.trans f3⟩
      rw [ec_s121_38]
      simp (disch := first | (simp only [ec_01z, ec_01o, ec_01q]; done) | omega | (refine ec_nzO ?_; omega)) only [ec_s121_0, ec_s121_1, ec_s121_3, ec_s121_5, ec_s121_7, ec_s121_10, ec_s121_12, ec_s121_14, ec_s121_16, ec_s121_18, ec_s121_21, ec_s121_22, ec_s121_25, ec_s121_28, ec_s121_29, ec_s121_32, ec_s121_35, ec_s121_36, ec_s121_40, ec_s121_43, ec_s121_44, ec_s121_46, ec_s121_48, ec_s121_52, ec_s121_55, ec_s121_56, ec_s121_58, ec_s121_60, ec_s121_61, ec_s121_64, ec_s121_66, ec_s121_68, ec_s121_69, ec_s121_70, ec_s121_71, ec_s121_72, ec_s121_75, ec_s121_77, ec_s121_79, ec_s121_80, ec_s121_81, ec_s121_82, ec_s121_83, ec_s121_86, ec_s121_87, ec_s121_88, ec_s121_89, ec_s121_90, ec_s121_92, ec_s121_94, ec_s121_96, ec_s121_99, ec_s121_101, ec_s121_102, ec_s121_104, ec_s121_106, ec_s121_109, ec_s121_111, ec_s121_113, ec_s121_116, ec_s121_118, ec_s121_120, ec_s121_121, ec_s121_123, ec_s121_124, ec_s121_126, ec_s121_128, ec_s121_129, ec_s121_132, ec_s121_134, ec_s121_136, ec_s121_138, ec_s121_140, ec_s121_141, ec_s121_143, ec_s121_144, ec_s121_145, ec_s121_146, ec_s121_148, ec_s121_151, ec_s121_154, ec_s121_157, ec_s121_160, ec_s121_163, ec_zn0, ec_zn1, ec_zn2, ec_zn3, ec_zn4, ec_zn5, ec_zn6, ec_zn7, ec_zn8, ec_zn9, ec_zn10, ec_zn12, ec_zn13, ec_zn14, ec_zn15, ec_zn16, ec_zn20, ec_zn30, ec_zn48, ec_zn99, ec_zn120, ec_zn127, ec_zn11, ec_zn31, ec_zn46, ec_zn57, ec_zn59, ec_zn63, ec_zn101, ec_zn107, ec_zn108, ec_zn110, ec_zn111, ec_zn115, ec_zn116, ec_zn119, ec_zn167, ec_zn185, ec_zn192, ec_zn215, ec_zn233, ec_zn699, ec_zn932, ec_zn999, ec_znF, ec_zneg, ec_zadd, ec_zsub, ec_zmul, ec_zdivO, ec_em, ec_zltO, ec_zeqO, ec_zeq0, ec_qt, ec_qf, if_pos, if_neg, Int.add_zero, ec_aft_v, ec_aft_n, ec_rwE, ec_rwN, ec_rwP, ec_rwK, ec_rwS, ec_w_shpI, ec_w_shpL, ec_w_shpA, ec_zn22, ec_zn24, ec_zn40, ec_zn45, ec_zn47, ec_zn96, ec_zn100, ec_zn384, ec_zn480, ec_zn960, ec_zn2001, ec_zn2002, ec_zn2003, ec_zn7919, ec_zn40503, ec_zn10000000, ec_zn2147483647]
      rw [e1, f1]
theorem ec_p121 {h : ec_Hp} (hD : ed_LD h) (hA : ed_LA h σ) (hW : ec_WF σ) (hB : ed_L4 σ) (hQ : ed_Q1 h q) (hm : ed_mo m md) (hg : ec_ing σ g) : ∃ h', ec_om 121 0 [.ref 72, .ref 73, .ref 74, .ref 75, .int (ec_i g), .int (ec_i md), .ref q, .double 0, .double 0, .double 0, .double 0, .double 0] [] h = some (.inl none, h') ∧ ed_Ar h' q 48 (ed_cap (ed_lb σ m g)) ∧ ec_fg (ed_on q) h h' := by
  obtain ⟨h1, e1, e2, e3⟩ := ec_p121a (q := q) (md := md) hg.1 48 0 h hQ (by omega) (by omega) (fun z hz => absurd hz (by omega))
  have hI : ed_XI σ m g (fun z => if z = g then 0 else 999) := by
    intro z hz
    have b := ed_lb_bd hW (m := m) hg.1 (k := z.toNat) (by omega)
    have b0 := ed_lb_0 hW (m := m) hg.1
    show (ed_cap (ed_lb σ m g) z ≤ (if z = g then 0 else 999) ∧ (if z = g then 0 else 999) ≤ 999) ∧ ((if z = g then 0 else 999) < 999 → ec_ing σ z) ∧ (z = g → (if z = g then 0 else 999) ≤ 0)
    by_cases e : z = g
    · subst e
      rw [if_pos rfl]
      unfold ed_cap
      rw [if_neg (by omega)]
      exact ⟨by omega, fun _ => hg, fun _ => by omega⟩
    · rw [if_neg e]
      refine ⟨⟨?_, by omega⟩, fun y => absurd y (by omega), fun y => absurd y e⟩
      unfold ed_cap
      split <;> omega
  obtain ⟨h2, f1, f2, f3⟩ := ec_p121c hW hB hm hg ((ed_sm (fun z => if z = g then 0 else 999)).toNat + 1) _ h1 (.double 0) (.double 0) (.double 0) (.double 0) (hD.of e3.1.1) (hA.on e3 hQ.2) (hQ.of e3.1.1) e2 hI (by omega)
  refine ⟨h2, ?_, f2, e3.trans f3⟩
  rw [ec_s121_0, ec_s121_1, ec_zn0, e1, ec_s121_35, ec_s121_36, ec_zn1, f1]
end EDD
