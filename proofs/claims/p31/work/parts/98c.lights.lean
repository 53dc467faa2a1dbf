/-! The heap grows; the law's light. -/
def ed_gz (S : Nat → Prop) (k : Nat) (h h' : ec_Hp) : Prop := (∃ l, h'.1 = h.1 ++ l) ∧ (∀ q j, q < h.1.length → ¬ S q → h'.2.1 q j = h.2.1 q j) ∧ h'.2.2.2.2.2 = h.2.2.2.2.2 ∧ h'.2.2.2.1 ≤ h.2.2.2.1 + k ∧ h'.2.2.2.2.1 ≤ h.2.2.2.2.1 + 48 * k
theorem ed_nth_app {α : Type} {d : α} : ∀ {l m : List α} {n : Nat}, n < l.length → ec_nth d (l ++ m) n = ec_nth d l n
  | [], _, _, h => absurd h (Nat.not_lt_zero _)
  | _ :: _, _, 0, _ => rfl
  | _ :: l, m, n + 1, h => ed_nth_app (l := l) (Nat.lt_of_succ_lt_succ h)
theorem ed_gz.len {S : Nat → Prop} {k : Nat} {h h' : ec_Hp} (a : ed_gz S k h h') : h.1.length ≤ h'.1.length := by
  obtain ⟨l, e⟩ := a.1
  rw [e, List.length_append]
  omega
theorem ed_gz.shp {S : Nat → Prop} {k : Nat} {h h' : ec_Hp} (a : ed_gz S k h h') {q : Nat} (hq : q < h.1.length) : ec_shp h' q = ec_shp h q := by
  obtain ⟨l, e⟩ := a.1
  show ec_nth _ h'.1 q = ec_nth _ h.1 q
  rw [e]
  exact ed_nth_app hq
theorem ed_gz.fg {S : Nat → Prop} {T : Nat → Nat → Prop} {h h' : ec_Hp} (a : ec_fg T h h') (s : ∀ q j, T q j → S q) : ed_gz S 0 h h' := by
  refine ⟨⟨[], by rw [a.1.1, List.append_nil]⟩, fun q j _ hS => a.2 q j (fun y => hS (s q j y)), ?_, ?_, ?_⟩ <;> rw [a.1.2]
  · exact Nat.le_refl _
  · exact Nat.le_refl _
theorem ed_gz.refl {S : Nat → Prop} {h : ec_Hp} : ed_gz S 0 h h := ed_gz.fg (T := fun _ _ => False) ec_fg.refl (fun _ _ y => y.elim)
theorem ed_gz.trans {S S1 S2 : Nat → Prop} {k m : Nat} {h h1 h2 : ec_Hp} (a : ed_gz S1 k h h1) (b : ed_gz S2 m h1 h2) (s1 : ∀ q, q < h.1.length → S1 q → S q) (s2 : ∀ q, q < h.1.length → S2 q → S q) : ed_gz S (k + m) h h2 := by
  have ln := a.len
  obtain ⟨⟨l1, e1⟩, a2, a3, a4, a5⟩ := a
  obtain ⟨⟨l2, e2⟩, b2, b3, b4, b5⟩ := b
  refine ⟨⟨l1 ++ l2, by rw [e2, e1, List.append_assoc]⟩, fun q j hq hS => (b2 q j (by omega) (fun y => hS (s2 q hq y))).trans (a2 q j hq (fun y => hS (s1 q hq y))), b3.trans a3, by omega, by omega⟩
theorem ed_gz.up {S : Nat → Prop} {k m : Nat} {h h' : ec_Hp} (a : ed_gz S k h h') (hk : k ≤ m) : ed_gz S m h h' := ⟨a.1, a.2.1, a.2.2.1, by have := a.2.2.2.1; omega, by have := a.2.2.2.2; omega⟩
theorem ed_gz.mono {S T : Nat → Prop} {k : Nat} {h h' : ec_Hp} (a : ed_gz S k h h') (s : ∀ q, q < h.1.length → S q → T q) : ed_gz T k h h' := ⟨a.1, fun q j hq hT => a.2.1 q j hq (fun y => hT (s q hq y)), a.2.2⟩
theorem ed_gz.mk {S : Nat → Prop} {h : ec_Hp} {n : Nat} (hn : n ≤ 48) : ed_gz S 1 h (ec_mk h 16 n) := by
  refine ⟨⟨_, rfl⟩, fun q j hq _ => ?_, rfl, Nat.le_refl _, ?_⟩
  · show ec_upA h.2.1 h.1.length (fun _ => 0) q j = h.2.1 q j
    unfold ec_upA
    rw [if_neg (by omega)]
  · show h.2.2.2.2.1 + n ≤ _
    omega
theorem ed_gz.thw {S : Nat → Prop} {h : ec_Hp} : ed_gz S 1 h (ec_thw h) := by
  refine ⟨⟨[], (List.append_nil _).symm⟩, fun q j hq _ => rfl, rfl, Nat.le_refl _, ?_⟩
  show h.2.2.2.2.1 + 6 ≤ _
  omega
theorem ed_nth_len {α : Type} {d x : α} : ∀ {l : List α}, ec_nth d (l ++ [x]) l.length = x
  | [] => rfl
  | _ :: l => ed_nth_len (l := l)
theorem ed_mk_new {h : ec_Hp} {n : Nat} : ec_isK (ec_mk h 16 n) h.1.length 16 = true ∧ (ec_shp (ec_mk h 16 n) h.1.length).2.1 = n := by
  have e : ec_shp (ec_mk h 16 n) h.1.length = (16, n, fun _ => .null) := ed_nth_len
  unfold ec_isK
  rw [e]
  exact ⟨rfl, rfl⟩
theorem ed_LD.len {h : ec_Hp} (b : ed_LD h) : 78 < h.1.length := ed_isK_len b.2.2.2.2.2.2.1 (by decide)
theorem ed_LD.gr {S : Nat → Prop} {k : Nat} {h h' : ec_Hp} (b : ed_LD h) (a : ed_gz S k h h') : ed_LD h' := by
  have ln := b.len
  unfold ed_LD ec_isK at b ⊢
  rw [a.shp (q := 72) (by omega), a.shp (q := 73) (by omega), a.shp (q := 74) (by omega), a.shp (q := 75) (by omega), a.shp (q := 76) (by omega), a.shp (q := 77) (by omega), a.shp (q := 78) (by omega)]
  exact b
theorem ed_LA.gr {S : Nat → Prop} {k : Nat} {h h' : ec_Hp} {σ : ec_Sg} (b : ed_LA h σ) (ln : 78 < h.1.length) (a : ed_gz S k h h') (s : ∀ q, 72 ≤ q ∧ q ≤ 78 → ¬ S q) : ed_LA h' σ := b.eq (fun q j hq => a.2.1 q j (by omega) (s q hq))
theorem ed_Q1.len {h : ec_Hp} {q : Nat} (b : ed_Q1 h q) : q < h.1.length := ed_isK_len b.1.1 (by decide)
theorem ed_Q1.gr {S : Nat → Prop} {k : Nat} {h h' : ec_Hp} {q : Nat} (b : ed_Q1 h q) (a : ed_gz S k h h') : ed_Q1 h' q := by
  have ln := b.len
  unfold ed_Q1 ec_isK at b ⊢
  rw [a.shp ln]
  exact b
theorem ed_Ar.gr {S : Nat → Prop} {k n : Nat} {h h' : ec_Hp} {q : Nat} {c : Int → Int} (b : ed_Ar h q n c) (ln : q < h.1.length) (a : ed_gz S k h h') (s : ¬ S q) : ed_Ar h' q n c := fun w hw => (a.2.1 q _ ln s).trans (b w hw)
theorem ed_Q1.mk {h : ec_Hp} (ln : 78 < h.1.length) : ed_Q1 (ec_mk h 16 48) h.1.length := ⟨ed_mk_new, ln⟩
/-- labels of open ways, and reach -/
theorem ed_lb_rch {σ : ec_Sg} (w : ec_WF σ) {g : Int} (hg : ec_ing σ g) {z : Int} (hz : 0 ≤ z ∧ z < 48) {n : Nat} (hn : n ≤ 300) : ed_lb σ 0 g z.toNat ≤ n ↔ ed_rch σ g n z := by
  have b := ed_lb_LD w (m := 0) hg.1
  constructor
  · intro hD
    have key : ∀ (n : Nat) (u : Int), 0 ≤ u ∧ u < 48 → ed_lb σ 0 g u.toNat ≤ n → ed_lb σ 0 g u.toNat < 1000000 → ed_rch σ g (ed_lb σ 0 g u.toNat).toNat u := by
      intro n
      induction n with
      | zero =>
        intro u hu hn hl
        have nn := (b.1 u.toNat (by omega)).1
        have e0 : ed_lb σ 0 g u.toNat = 0 := by omega
        rcases b.2.2 u.toNat (by omega) with e | ⟨v, d, hv, hd, p0, -, e2, -⟩
        · rw [ed_c0 hg.1] at e
          by_cases q : u.toNat = g.toNat
          · rw [e0]
            show u = g
            have := hg.1
            omega
          · rw [if_neg q] at e
            omega
        · have pp := ed_P_PP (σ := σ) (m := 0) v d hv hd
          have := (b.1 v.toNat (by omega)).1
          omega
      | succ n ih =>
        intro u hu hn hl
        have nn := (b.1 u.toNat (by omega)).1
        rcases b.2.2 u.toNat (by omega) with e | ⟨v, d, hv, hd, p0, e1, e2, e3⟩
        · rw [ed_c0 hg.1] at e
          by_cases q : u.toNat = g.toNat
          · rw [if_pos q] at e
            rw [e]
            show u = g
            have := hg.1
            omega
          · rw [if_neg q] at e
            omega
        · obtain ⟨vi, vq, v1⟩ := ed_P0_1 p0
          have vn := (b.1 v.toNat (by omega)).1
          have e4 : ec_nb v d = u := by omega
          have g1 := ih v hv (by omega) (by omega)
          rw [show (ed_lb σ 0 g u.toNat).toNat = (ed_lb σ 0 g v.toNat).toNat + 1 by omega]
          exact Or.inr ⟨v, d, hd, g1, vq, e4⟩
    have nn := (b.1 z.toNat (by omega)).1
    have k := ed_rch_mono (key n z hz hD (by omega)) (n - (ed_lb σ 0 g z.toNat).toNat)
    rw [show (ed_lb σ 0 g z.toNat).toNat + (n - (ed_lb σ 0 g z.toNat).toNat) = n by omega] at k
    exact k
  · have key : ∀ (n : Nat) (u : Int), n ≤ 300 → ed_rch σ g n u → ed_lb σ 0 g u.toNat ≤ n := by
      intro n
      induction n with
      | zero =>
        intro u _ hr
        have e : u = g := hr
        rw [e, ed_lb_0 w hg.1]
        exact Int.le_refl _
      | succ n ih =>
        intro u hn hr
        rcases hr with hr | ⟨v, d, hd, hr, vq, e⟩
        · have := ih u (by omega) hr
          omega
        · have g := ih v (by omega) hr
          have vi := ed_rch_in w hg n v hr
          have v1 := ed_P0_c vi vq
          have := b.2.1 v d vi.1 hd (by omega) (by omega)
          rw [e] at this
          omega
    exact key n z hn
theorem ed_cap_rch {σ : ec_Sg} (w : ec_WF σ) {g : Int} (hg : ec_ing σ g) {z : Int} (hz : 0 ≤ z ∧ z < 48) {n : Nat} (hn : n ≤ 300) : ed_cap (ed_lb σ 0 g) z ≤ n ↔ ed_rch σ g n z := by
  rw [← ed_lb_rch w hg hz hn]
  unfold ed_cap
  split <;> omega
theorem ed_or00 : ec_i 0 ||| ec_i 0 = ec_i 0 := by decide
theorem ed_or01 : ec_i 0 ||| ec_i 1 = ec_i 1 := by decide
theorem ed_or10 : ec_i 1 ||| ec_i 0 = ec_i 1 := by decide
theorem ed_or11 : ec_i 1 ||| ec_i 1 = ec_i 1 := by decide
section EDW
variable {σ : ec_Sg} {L q : Nat}
theorem ec_p122a : ∀ (n : Nat) (k : Int) (h : ec_Hp), ed_Q1 h L → 0 ≤ k → k + n = 48 → (∀ z : Int, 0 ≤ z ∧ z < k → h.2.1 L (ec_i z).toNatClampNeg = ec_i 0) →
    ∃ h', ec_om 122 9 [.ref 72, .ref 73, .ref 74, .ref 75, .ref 76, .ref L, .ref q, .int (ec_i k), .double 0, .double 0] [] h = ec_om 122 28 [.ref 72, .ref 73, .ref 74, .ref 75, .ref 76, .ref L, .ref q, .int (ec_i 48), .double 0, .double 0] [] h' ∧ ed_Ar h' L 48 (fun _ => ed_q False) ∧ ec_fg (ed_on L) h h' := by
  intro n
  induction n with
  | zero =>
    intro k h hQ h0 hk hA
    have hk : k = 48 := by omega
    subst hk
    refine ⟨h, ?_, fun z hz => ?_, ec_fg.refl⟩
    · rw [ec_s122_9]
      simp (disch := first | (simp only [ec_01z, ec_01o, ec_01q]; done) | omega | (refine ec_nzO ?_; omega)) only [ec_s122_0, ec_s122_2, ec_s122_4, ec_s122_6, ec_s122_7, ec_s122_11, ec_s122_13, ec_s122_16, ec_s122_18, ec_s122_20, ec_s122_21, ec_s122_22, ec_s122_25, ec_s122_29, ec_s122_31, ec_s122_33, ec_s122_34, ec_s122_35, ec_s122_36, ec_s122_39, ec_s122_41, ec_s122_42, ec_s122_43, ec_s122_44, ec_s122_47, ec_s122_48, ec_s122_51, ec_s122_52, ec_s122_54, ec_s122_55, ec_s122_56, ec_s122_57, ec_s122_58, ec_s122_60, ec_s122_63, ec_s122_64, ec_s122_66, ec_s122_67, ec_s122_70, ec_s122_72, ec_s122_73, ec_s122_75, ec_s122_76, ec_s122_77, ec_s122_78, ec_s122_80, ec_s122_83, ec_s122_84, ec_s122_86, ec_s122_88, ec_s122_90, ec_s122_93, ec_s122_95, ec_s122_97, ec_s122_98, ec_s122_99, ec_s122_101, ec_s122_103, ec_s122_104, ec_s122_106, ec_s122_109, ec_s122_110, ec_s122_113, ec_s122_114, ec_s122_117, ec_s122_119, ec_s122_122, ec_s122_123, ec_s122_125, ec_s122_126, ec_s122_129, ec_s122_131, ec_s122_132, ec_s122_134, ec_s122_135, ec_s122_136, ec_s122_137, ec_s122_138, ec_s122_139, ec_s122_142, ec_s122_143, ec_s122_146, ec_s122_147, ec_s122_148, ec_s122_149, ec_s122_152, ec_s122_155, ec_s122_158, ec_s122_161, ec_zn0, ec_zn1, ec_zn2, ec_zn3, ec_zn4, ec_zn5, ec_zn6, ec_zn7, ec_zn8, ec_zn9, ec_zn10, ec_zn12, ec_zn13, ec_zn14, ec_zn15, ec_zn16, ec_zn20, ec_zn30, ec_zn48, ec_zn99, ec_zn120, ec_zn127, ec_zn11, ec_zn31, ec_zn46, ec_zn57, ec_zn59, ec_zn63, ec_zn101, ec_zn107, ec_zn108, ec_zn110, ec_zn111, ec_zn115, ec_zn116, ec_zn119, ec_zn167, ec_zn185, ec_zn192, ec_zn215, ec_zn233, ec_zn699, ec_zn932, ec_zn999, ec_znF, ec_zneg, ec_zadd, ec_zsub, ec_zmul, ec_zdivO, ec_em, ec_zltO, ec_zeqO, ec_zeq0, ec_qt, ec_qf, if_pos, if_neg, Int.add_zero, ec_aft_v, ec_aft_n, ec_rwE, ec_rwN, ec_rwP, ec_rwK, ec_rwS, ec_w_shpI, ec_w_shpL, ec_w_shpA, ec_zn22, ec_zn24, ec_zn40, ec_zn45, ec_zn47, ec_zn96, ec_zn100, ec_zn384, ec_zn480, ec_zn960, ec_zn2001, ec_zn2002, ec_zn2003, ec_zn7919, ec_zn40503, ec_zn10000000, ec_zn2147483647]
    · rw [ed_qf id]
      exact hA z (by omega)
  | succ n ih =>
    intro k h hQ h0 hk hA
    obtain ⟨h', e1, e2, e3⟩ := ih (k + 1) (ec_setI h L (ec_i k).toNatClampNeg (ec_i 0)) (hQ.of rfl) (by omega) (by omega) (fun z hz => by
      by_cases e : z = k
      · subst e; rw [ec_rwE rfl]
      · rw [ec_rwN ⟨by omega, by omega, by omega⟩]; exact hA z (by omega))
    refine ⟨h', ?_, e2, (ec_fg.refl.I (by rfl)).trans e3⟩
    have hD := hQ.1
    rw [ec_s122_9]
    simp (disch := first | (simp only [ec_w_kI, ec_w_kL, ec_w_kA, ec_w_shpI, ec_w_shpL, ec_w_shpA, ec_isR_r, ec_01z, ec_01o, ec_01q, hD]; done) | omega | (simp only [ec_w_shpI, ec_w_shpL, ec_w_shpA, hD]; refine ec_zinO ?_; omega) | (refine ec_nzO ?_; omega)) only [ec_s122_0, ec_s122_2, ec_s122_4, ec_s122_6, ec_s122_7, ec_s122_11, ec_s122_13, ec_s122_16, ec_s122_18, ec_s122_20, ec_s122_21, ec_s122_22, ec_s122_25, ec_s122_29, ec_s122_31, ec_s122_33, ec_s122_34, ec_s122_35, ec_s122_36, ec_s122_39, ec_s122_41, ec_s122_42, ec_s122_43, ec_s122_44, ec_s122_47, ec_s122_48, ec_s122_51, ec_s122_52, ec_s122_54, ec_s122_55, ec_s122_56, ec_s122_57, ec_s122_58, ec_s122_60, ec_s122_63, ec_s122_64, ec_s122_66, ec_s122_67, ec_s122_70, ec_s122_72, ec_s122_73, ec_s122_75, ec_s122_76, ec_s122_77, ec_s122_78, ec_s122_80, ec_s122_83, ec_s122_84, ec_s122_86, ec_s122_88, ec_s122_90, ec_s122_93, ec_s122_95, ec_s122_97, ec_s122_98, ec_s122_99, ec_s122_101, ec_s122_103, ec_s122_104, ec_s122_106, ec_s122_109, ec_s122_110, ec_s122_113, ec_s122_114, ec_s122_117, ec_s122_119, ec_s122_122, ec_s122_123, ec_s122_125, ec_s122_126, ec_s122_129, ec_s122_131, ec_s122_132, ec_s122_134, ec_s122_135, ec_s122_136, ec_s122_137, ec_s122_138, ec_s122_139, ec_s122_142, ec_s122_143, ec_s122_146, ec_s122_147, ec_s122_148, ec_s122_149, ec_s122_152, ec_s122_155, ec_s122_158, ec_s122_161, ec_zn0, ec_zn1, ec_zn2, ec_zn3, ec_zn4, ec_zn5, ec_zn6, ec_zn7, ec_zn8, ec_zn9, ec_zn10, ec_zn12, ec_zn13, ec_zn14, ec_zn15, ec_zn16, ec_zn20, ec_zn30, ec_zn48, ec_zn99, ec_zn120, ec_zn127, ec_zn11, ec_zn31, ec_zn46, ec_zn57, ec_zn59, ec_zn63, ec_zn101, ec_zn107, ec_zn108, ec_zn110, ec_zn111, ec_zn115, ec_zn116, ec_zn119, ec_zn167, ec_zn185, ec_zn192, ec_zn215, ec_zn233, ec_zn699, ec_zn932, ec_zn999, ec_znF, ec_zneg, ec_zadd, ec_zsub, ec_zmul, ec_zdivO, ec_em, ec_zltO, ec_zeqO, ec_zeq0, ec_qt, ec_qf, if_pos, if_neg, Int.add_zero, ec_aft_v, ec_aft_n, ec_rwE, ec_rwN, ec_rwP, ec_rwK, ec_rwS, ec_w_shpI, ec_w_shpL, ec_w_shpA, ec_zn22, ec_zn24, ec_zn40, ec_zn45, ec_zn47, ec_zn96, ec_zn100, ec_zn384, ec_zn480, ec_zn960, ec_zn2001, ec_zn2002, ec_zn2003, ec_zn7919, ec_zn40503, ec_zn10000000, ec_zn2147483647, hD, e1]
set_option maxHeartbeats 1000000 in
theorem ec_p122k (hW : ec_WF σ) {i H lim fl : Int} {F : Int → Int} {p : Int → Prop} (hL2 : L ≠ q) (hF : ∀ z : Int, 0 ≤ z ∧ z < 48 → 0 ≤ F z ∧ F z ≤ 999) (hf : H = 1 ∧ lim = 2 ∧ fl = σ 9 ∨ H = 0 ∧ lim = 3 ∧ (0 ≤ i ∧ i < σ 3) ∧ fl = σ (167 + (3 * i + 2))) :
    ∀ (n : Nat) (k : Int) (h : ec_Hp), ed_LD h → ed_LA h σ → ed_L4 σ → ed_Q1 h L → ed_Q1 h q → ed_Ar h q 48 F → 0 ≤ k → k + n = 48 → (∀ z : Int, 0 ≤ z ∧ z < 48 → h.2.1 L (ec_i z).toNatClampNeg = ec_i (ed_q (if z < k then p z ∨ (F z ≤ lim ∧ fl = 1) else p z))) →
    ∃ h', ec_om 122 86 [.ref 72, .ref 73, .ref 74, .ref 75, .ref 76, .ref L, .ref q, .int (ec_i i), .int (ec_i H), .int (ec_i k)] [] h = ec_om 122 155 [.ref 72, .ref 73, .ref 74, .ref 75, .ref 76, .ref L, .ref q, .int (ec_i i), .int (ec_i H), .int (ec_i 48)] [] h' ∧ ed_Ar h' L 48 (fun z => ed_q (p z ∨ (F z ≤ lim ∧ fl = 1))) ∧ ec_fg (ed_on L) h h' := by
  intro n
  induction n with
  | zero =>
    intro k h hD hA hB hL hQ hC h0 hk hZ
    have hk : k = 48 := by omega
    subst hk
    refine ⟨h, ?_, fun z hz => ?_, ec_fg.refl⟩
    · rw [ec_s122_86]
      simp (disch := first | (simp only [ec_01z, ec_01o, ec_01q]; done) | omega | (refine ec_nzO ?_; omega)) only [ec_s122_0, ec_s122_2, ec_s122_4, ec_s122_6, ec_s122_7, ec_s122_9, ec_s122_11, ec_s122_13, ec_s122_16, ec_s122_18, ec_s122_20, ec_s122_21, ec_s122_22, ec_s122_25, ec_s122_28, ec_s122_29, ec_s122_31, ec_s122_33, ec_s122_34, ec_s122_35, ec_s122_36, ec_s122_39, ec_s122_41, ec_s122_42, ec_s122_43, ec_s122_44, ec_s122_47, ec_s122_48, ec_s122_51, ec_s122_52, ec_s122_54, ec_s122_55, ec_s122_56, ec_s122_57, ec_s122_58, ec_s122_60, ec_s122_63, ec_s122_64, ec_s122_66, ec_s122_67, ec_s122_70, ec_s122_72, ec_s122_73, ec_s122_75, ec_s122_76, ec_s122_77, ec_s122_78, ec_s122_80, ec_s122_83, ec_s122_84, ec_s122_88, ec_s122_90, ec_s122_93, ec_s122_95, ec_s122_97, ec_s122_98, ec_s122_99, ec_s122_101, ec_s122_103, ec_s122_104, ec_s122_106, ec_s122_109, ec_s122_110, ec_s122_113, ec_s122_114, ec_s122_117, ec_s122_119, ec_s122_122, ec_s122_123, ec_s122_125, ec_s122_126, ec_s122_129, ec_s122_131, ec_s122_132, ec_s122_134, ec_s122_135, ec_s122_136, ec_s122_137, ec_s122_138, ec_s122_139, ec_s122_142, ec_s122_143, ec_s122_146, ec_s122_147, ec_s122_148, ec_s122_149, ec_s122_152, ec_s122_158, ec_s122_161, ec_zn0, ec_zn1, ec_zn2, ec_zn3, ec_zn4, ec_zn5, ec_zn6, ec_zn7, ec_zn8, ec_zn9, ec_zn10, ec_zn12, ec_zn13, ec_zn14, ec_zn15, ec_zn16, ec_zn20, ec_zn30, ec_zn48, ec_zn99, ec_zn120, ec_zn127, ec_zn11, ec_zn31, ec_zn46, ec_zn57, ec_zn59, ec_zn63, ec_zn101, ec_zn107, ec_zn108, ec_zn110, ec_zn111, ec_zn115, ec_zn116, ec_zn119, ec_zn167, ec_zn185, ec_zn192, ec_zn215, ec_zn233, ec_zn699, ec_zn932, ec_zn999, ec_znF, ec_zneg, ec_zadd, ec_zsub, ec_zmul, ec_zdivO, ec_em, ec_zltO, ec_zeqO, ec_zeq0, ec_qt, ec_qf, if_pos, if_neg, Int.add_zero, ec_aft_v, ec_aft_n, ec_rwE, ec_rwN, ec_rwP, ec_rwK, ec_rwS, ec_w_shpI, ec_w_shpL, ec_w_shpA, ec_zn22, ec_zn24, ec_zn40, ec_zn45, ec_zn47, ec_zn96, ec_zn100, ec_zn384, ec_zn480, ec_zn960, ec_zn2001, ec_zn2002, ec_zn2003, ec_zn7919, ec_zn40503, ec_zn10000000, ec_zn2147483647]
    · have y := hZ z hz
      rw [if_pos (show z < 48 by omega)] at y
      exact y
  | succ n ih =>
    intro k h hD hA hB hL hQ hC h0 hk hZ
    have hk4 : 0 ≤ k ∧ k < 48 := by omega
    have fk := hF k hk4
    have ck := hC k hk4
    have lk := hZ k hk4
    have w2 := hW.2.1
    have w1 := hW.1
    have ft : 0 ≤ fl ∧ fl ≤ 1 := by
      rcases hf with ⟨-, -, e⟩ | ⟨-, -, hi, e⟩
      · rw [e]; exact w2.2.2.2.1
      · have := (ed_torch hW hi).2.2.1
        rw [e, show 167 + (3 * i + 2) = 167 + 3 * i + 2 by omega]
        exact this
    rw [if_neg (by omega)] at lk
    obtain ⟨h', e1, e2, e3⟩ := ih (k + 1) (ec_setI h L (ec_i k).toNatClampNeg (ec_i (ed_q (p k ∨ (F k ≤ lim ∧ fl = 1))))) (hD.of rfl) (hA.on (ec_fg.refl.I (by rfl)) hL.2) hB (hL.of rfl) (hQ.of rfl) (hC.o (fun y => hL2 y)) (by omega) (by omega) (fun z hz => by
      by_cases e : z = k
      · subst e
        rw [ec_rwE rfl, if_pos (by omega)]
      · rw [ec_rwN ⟨by omega, by omega, by omega⟩, hZ z hz]
        by_cases y : z < k
        · rw [if_pos y, if_pos (by omega)]
        · rw [if_neg y, if_neg (by omega)])
    refine ⟨h', ?_, e2, (ec_fg.refl.I (by rfl)).trans e3⟩
    unfold ed_LD at hD
    unfold ed_LA at hA
    unfold ed_L4 at hB
    have hD := And.intro hL.1 (And.intro hQ.1 hD)
    rw [ec_s122_86]
    by_cases y1 : F k ≤ lim
    · by_cases y2 : fl = 1
      · rw [ed_qt (show p k ∨ (F k ≤ lim ∧ fl = 1) from Or.inr ⟨y1, y2⟩)] at e1
        by_cases hp : p k
        · rw [ed_qt hp] at lk
          rcases hf with ⟨rfl, rfl, rfl⟩ | ⟨rfl, rfl, hi, rfl⟩ <;> simp (disch := first | (simp only [ec_w_kI, ec_w_kL, ec_w_kA, ec_w_shpI, ec_w_shpL, ec_w_shpA, ec_isR_r, ec_01z, ec_01o, ec_01q, hD]; done) | omega | (simp only [ec_w_shpI, ec_w_shpL, ec_w_shpA, hD]; refine ec_zinO ?_; omega) | (refine ec_nzO ?_; omega)) only [ec_s122_0, ec_s122_2, ec_s122_4, ec_s122_6, ec_s122_7, ec_s122_9, ec_s122_11, ec_s122_13, ec_s122_16, ec_s122_18, ec_s122_20, ec_s122_21, ec_s122_22, ec_s122_25, ec_s122_28, ec_s122_29, ec_s122_31, ec_s122_33, ec_s122_34, ec_s122_35, ec_s122_36, ec_s122_39, ec_s122_41, ec_s122_42, ec_s122_43, ec_s122_44, ec_s122_47, ec_s122_48, ec_s122_51, ec_s122_52, ec_s122_54, ec_s122_55, ec_s122_56, ec_s122_57, ec_s122_58, ec_s122_60, ec_s122_63, ec_s122_64, ec_s122_66, ec_s122_67, ec_s122_70, ec_s122_72, ec_s122_73, ec_s122_75, ec_s122_76, ec_s122_77, ec_s122_78, ec_s122_80, ec_s122_83, ec_s122_84, ec_s122_88, ec_s122_90, ec_s122_93, ec_s122_95, ec_s122_97, ec_s122_98, ec_s122_99, ec_s122_101, ec_s122_103, ec_s122_104, ec_s122_106, ec_s122_109, ec_s122_110, ec_s122_113, ec_s122_114, ec_s122_117, ec_s122_119, ec_s122_122, ec_s122_123, ec_s122_125, ec_s122_126, ec_s122_129, ec_s122_131, ec_s122_132, ec_s122_134, ec_s122_135, ec_s122_136, ec_s122_137, ec_s122_138, ec_s122_139, ec_s122_142, ec_s122_143, ec_s122_146, ec_s122_147, ec_s122_148, ec_s122_149, ec_s122_152, ec_s122_158, ec_s122_161, ec_zn0, ec_zn1, ec_zn2, ec_zn3, ec_zn4, ec_zn5, ec_zn6, ec_zn7, ec_zn8, ec_zn9, ec_zn10, ec_zn12, ec_zn13, ec_zn14, ec_zn15, ec_zn16, ec_zn20, ec_zn30, ec_zn48, ec_zn99, ec_zn120, ec_zn127, ec_zn11, ec_zn31, ec_zn46, ec_zn57, ec_zn59, ec_zn63, ec_zn101, ec_zn107, ec_zn108, ec_zn110, ec_zn111, ec_zn115, ec_zn116, ec_zn119, ec_zn167, ec_zn185, ec_zn192, ec_zn215, ec_zn233, ec_zn699, ec_zn932, ec_zn999, ec_znF, ec_zneg, ec_zadd, ec_zsub, ec_zmul, ec_zdivO, ec_em, ec_zltO, ec_zeqO, ec_zeq0, ec_qt, ec_qf, if_pos, if_neg, Int.add_zero, ec_aft_v, ec_aft_n, ec_rwE, ec_rwN, ec_rwP, ec_rwK, ec_rwS, ec_w_shpI, ec_w_shpL, ec_w_shpA, ec_zn22, ec_zn24, ec_zn40, ec_zn45, ec_zn47, ec_zn96, ec_zn100, ec_zn384, ec_zn480, ec_zn960, ec_zn2001, ec_zn2002, ec_zn2003, ec_zn7919, ec_zn40503, ec_zn10000000, ec_zn2147483647, hD, hA, ck, lk, e1, ed_or11]
        · rw [ed_qf hp] at lk
          rcases hf with ⟨rfl, rfl, rfl⟩ | ⟨rfl, rfl, hi, rfl⟩ <;> simp (disch := first | (simp only [ec_w_kI, ec_w_kL, ec_w_kA, ec_w_shpI, ec_w_shpL, ec_w_shpA, ec_isR_r, ec_01z, ec_01o, ec_01q, hD]; done) | omega | (simp only [ec_w_shpI, ec_w_shpL, ec_w_shpA, hD]; refine ec_zinO ?_; omega) | (refine ec_nzO ?_; omega)) only [ec_s122_0, ec_s122_2, ec_s122_4, ec_s122_6, ec_s122_7, ec_s122_9, ec_s122_11, ec_s122_13, ec_s122_16, ec_s122_18, ec_s122_20, ec_s122_21, ec_s122_22, ec_s122_25, ec_s122_28, ec_s122_29, ec_s122_31, ec_s122_33, ec_s122_34, ec_s122_35, ec_s122_36, ec_s122_39, ec_s122_41, ec_s122_42, ec_s122_43, ec_s122_44, ec_s122_47, ec_s122_48, ec_s122_51, ec_s122_52, ec_s122_54, ec_s122_55, ec_s122_56, ec_s122_57, ec_s122_58, ec_s122_60, ec_s122_63, ec_s122_64, ec_s122_66, ec_s122_67, ec_s122_70, ec_s122_72, ec_s122_73, ec_s122_75, ec_s122_76, ec_s122_77, ec_s122_78, ec_s122_80, ec_s122_83, ec_s122_84, ec_s122_88, ec_s122_90, ec_s122_93, ec_s122_95, ec_s122_97, ec_s122_98, ec_s122_99, ec_s122_101, ec_s122_103, ec_s122_104, ec_s122_106, ec_s122_109, ec_s122_110, ec_s122_113, ec_s122_114, ec_s122_117, ec_s122_119, ec_s122_122, ec_s122_123, ec_s122_125, ec_s122_126, ec_s122_129, ec_s122_131, ec_s122_132, ec_s122_134, ec_s122_135, ec_s122_136, ec_s122_137, ec_s122_138, ec_s122_139, ec_s122_142, ec_s122_143, ec_s122_146, ec_s122_147, ec_s122_148, ec_s122_149, ec_s122_152, ec_s122_158, ec_s122_161, ec_zn0, ec_zn1, ec_zn2, ec_zn3, ec_zn4, ec_zn5, ec_zn6, ec_zn7, ec_zn8, ec_zn9, ec_zn10, ec_zn12, ec_zn13, ec_zn14, ec_zn15, ec_zn16, ec_zn20, ec_zn30, ec_zn48, ec_zn99, ec_zn120, ec_zn127, ec_zn11, ec_zn31, ec_zn46, ec_zn57, ec_zn59, ec_zn63, ec_zn101, ec_zn107, ec_zn108, ec_zn110, ec_zn111, ec_zn115, ec_zn116, ec_zn119, ec_zn167, ec_zn185, ec_zn192, ec_zn215, ec_zn233, ec_zn699, ec_zn932, ec_zn999, ec_znF, ec_zneg, ec_zadd, ec_zsub, ec_zmul, ec_zdivO, ec_em, ec_zltO, ec_zeqO, ec_zeq0, ec_qt, ec_qf, if_pos, if_neg, Int.add_zero, ec_aft_v, ec_aft_n, ec_rwE, ec_rwN, ec_rwP, ec_rwK, ec_rwS, ec_w_shpI, ec_w_shpL, ec_w_shpA, ec_zn22, ec_zn24, ec_zn40, ec_zn45, ec_zn47, ec_zn96, ec_zn100, ec_zn384, ec_zn480, ec_zn960, ec_zn2001, ec_zn2002, ec_zn2003, ec_zn7919, ec_zn40503, ec_zn10000000, ec_zn2147483647, hD, hA, ck, lk, e1, ed_or01]
      · by_cases hp : p k
        · rw [ed_qt hp] at lk
          rw [ed_qt (show p k ∨ (F k ≤ lim ∧ fl = 1) from Or.inl hp)] at e1
          rcases hf with ⟨rfl, rfl, rfl⟩ | ⟨rfl, rfl, hi, rfl⟩ <;> simp (disch := first | (simp only [ec_w_kI, ec_w_kL, ec_w_kA, ec_w_shpI, ec_w_shpL, ec_w_shpA, ec_isR_r, ec_01z, ec_01o, ec_01q, hD]; done) | omega | (simp only [ec_w_shpI, ec_w_shpL, ec_w_shpA, hD]; refine ec_zinO ?_; omega) | (refine ec_nzO ?_; omega)) only [ec_s122_0, ec_s122_2, ec_s122_4, ec_s122_6, ec_s122_7, ec_s122_9, ec_s122_11, ec_s122_13, ec_s122_16, ec_s122_18, ec_s122_20, ec_s122_21, ec_s122_22, ec_s122_25, ec_s122_28, ec_s122_29, ec_s122_31, ec_s122_33, ec_s122_34, ec_s122_35, ec_s122_36, ec_s122_39, ec_s122_41, ec_s122_42, ec_s122_43, ec_s122_44, ec_s122_47, ec_s122_48, ec_s122_51, ec_s122_52, ec_s122_54, ec_s122_55, ec_s122_56, ec_s122_57, ec_s122_58, ec_s122_60, ec_s122_63, ec_s122_64, ec_s122_66, ec_s122_67, ec_s122_70, ec_s122_72, ec_s122_73, ec_s122_75, ec_s122_76, ec_s122_77, ec_s122_78, ec_s122_80, ec_s122_83, ec_s122_84, ec_s122_88, ec_s122_90, ec_s122_93, ec_s122_95, ec_s122_97, ec_s122_98, ec_s122_99, ec_s122_101, ec_s122_103, ec_s122_104, ec_s122_106, ec_s122_109, ec_s122_110, ec_s122_113, ec_s122_114, ec_s122_117, ec_s122_119, ec_s122_122, ec_s122_123, ec_s122_125, ec_s122_126, ec_s122_129, ec_s122_131, ec_s122_132, ec_s122_134, ec_s122_135, ec_s122_136, ec_s122_137, ec_s122_138, ec_s122_139, ec_s122_142, ec_s122_143, ec_s122_146, ec_s122_147, ec_s122_148, ec_s122_149, ec_s122_152, ec_s122_158, ec_s122_161, ec_zn0, ec_zn1, ec_zn2, ec_zn3, ec_zn4, ec_zn5, ec_zn6, ec_zn7, ec_zn8, ec_zn9, ec_zn10, ec_zn12, ec_zn13, ec_zn14, ec_zn15, ec_zn16, ec_zn20, ec_zn30, ec_zn48, ec_zn99, ec_zn120, ec_zn127, ec_zn11, ec_zn31, ec_zn46, ec_zn57, ec_zn59, ec_zn63, ec_zn101, ec_zn107, ec_zn108, ec_zn110, ec_zn111, ec_zn115, ec_zn116, ec_zn119, ec_zn167, ec_zn185, ec_zn192, ec_zn215, ec_zn233, ec_zn699, ec_zn932, ec_zn999, ec_znF, ec_zneg, ec_zadd, ec_zsub, ec_zmul, ec_zdivO, ec_em, ec_zltO, ec_zeqO, ec_zeq0, ec_qt, ec_qf, if_pos, if_neg, Int.add_zero, ec_aft_v, ec_aft_n, ec_rwE, ec_rwN, ec_rwP, ec_rwK, ec_rwS, ec_w_shpI, ec_w_shpL, ec_w_shpA, ec_zn22, ec_zn24, ec_zn40, ec_zn45, ec_zn47, ec_zn96, ec_zn100, ec_zn384, ec_zn480, ec_zn960, ec_zn2001, ec_zn2002, ec_zn2003, ec_zn7919, ec_zn40503, ec_zn10000000, ec_zn2147483647, hD, hA, ck, lk, e1, ed_or10]
        · rw [ed_qf hp] at lk
          rw [ed_qf (show ¬ (p k ∨ (F k ≤ lim ∧ fl = 1)) from fun y => Or.elim y hp (fun y => y2 y.2))] at e1
          rcases hf with ⟨rfl, rfl, rfl⟩ | ⟨rfl, rfl, hi, rfl⟩ <;> simp (disch := first | (simp only [ec_w_kI, ec_w_kL, ec_w_kA, ec_w_shpI, ec_w_shpL, ec_w_shpA, ec_isR_r, ec_01z, ec_01o, ec_01q, hD]; done) | omega | (simp only [ec_w_shpI, ec_w_shpL, ec_w_shpA, hD]; refine ec_zinO ?_; omega) | (refine ec_nzO ?_; omega)) only [ec_s122_0, ec_s122_2, ec_s122_4, ec_s122_6, ec_s122_7, ec_s122_9, ec_s122_11, ec_s122_13, ec_s122_16, ec_s122_18, ec_s122_20, ec_s122_21, ec_s122_22, ec_s122_25, ec_s122_28, ec_s122_29, ec_s122_31, ec_s122_33, ec_s122_34, ec_s122_35, ec_s122_36, ec_s122_39, ec_s122_41, ec_s122_42, ec_s122_43, ec_s122_44, ec_s122_47, ec_s122_48, ec_s122_51, ec_s122_52, ec_s122_54, ec_s122_55, ec_s122_56, ec_s122_57, ec_s122_58, ec_s122_60, ec_s122_63, ec_s122_64, ec_s122_66, ec_s122_67, ec_s122_70, ec_s122_72, ec_s122_73, ec_s122_75, ec_s122_76, ec_s122_77, ec_s122_78, ec_s122_80, ec_s122_83, ec_s122_84, ec_s122_88, ec_s122_90, ec_s122_93, ec_s122_95, ec_s122_97, ec_s122_98, ec_s122_99, ec_s122_101, ec_s122_103, ec_s122_104, ec_s122_106, ec_s122_109, ec_s122_110, ec_s122_113, ec_s122_114, ec_s122_117, ec_s122_119, ec_s122_122, ec_s122_123, ec_s122_125, ec_s122_126, ec_s122_129, ec_s122_131, ec_s122_132, ec_s122_134, ec_s122_135, ec_s122_136, ec_s122_137, ec_s122_138, ec_s122_139, ec_s122_142, ec_s122_143, ec_s122_146, ec_s122_147, ec_s122_148, ec_s122_149, ec_s122_152, ec_s122_158, ec_s122_161, ec_zn0, ec_zn1, ec_zn2, ec_zn3, ec_zn4, ec_zn5, ec_zn6, ec_zn7, ec_zn8, ec_zn9, ec_zn10, ec_zn12, ec_zn13, ec_zn14, ec_zn15, ec_zn16, ec_zn20, ec_zn30, ec_zn48, ec_zn99, ec_zn120, ec_zn127, ec_zn11, ec_zn31, ec_zn46, ec_zn57, ec_zn59, ec_zn63, ec_zn101, ec_zn107, ec_zn108, ec_zn110, ec_zn111, ec_zn115, ec_zn116, ec_zn119, ec_zn167, ec_zn185, ec_zn192, ec_zn215, ec_zn233, ec_zn699, ec_zn932, ec_zn999, ec_znF, ec_zneg, ec_zadd, ec_zsub, ec_zmul, ec_zdivO, ec_em, ec_zltO, ec_zeqO, ec_zeq0, ec_qt, ec_qf, if_pos, if_neg, Int.add_zero, ec_aft_v, ec_aft_n, ec_rwE, ec_rwN, ec_rwP, ec_rwK, ec_rwS, ec_w_shpI, ec_w_shpL, ec_w_shpA, ec_zn22, ec_zn24, ec_zn40, ec_zn45, ec_zn47, ec_zn96, ec_zn100, ec_zn384, ec_zn480, ec_zn960, ec_zn2001, ec_zn2002, ec_zn2003, ec_zn7919, ec_zn40503, ec_zn10000000, ec_zn2147483647, hD, hA, ck, lk, e1, ed_or00]
    · by_cases hp : p k
      · rw [ed_qt hp] at lk
        rw [ed_qt (show p k ∨ (F k ≤ lim ∧ fl = 1) from Or.inl hp)] at e1
        rcases hf with ⟨rfl, rfl, rfl⟩ | ⟨rfl, rfl, hi, rfl⟩ <;> simp (disch := first | (simp only [ec_w_kI, ec_w_kL, ec_w_kA, ec_w_shpI, ec_w_shpL, ec_w_shpA, ec_isR_r, ec_01z, ec_01o, ec_01q, hD]; done) | omega | (simp only [ec_w_shpI, ec_w_shpL, ec_w_shpA, hD]; refine ec_zinO ?_; omega) | (refine ec_nzO ?_; omega)) only [ec_s122_0, ec_s122_2, ec_s122_4, ec_s122_6, ec_s122_7, ec_s122_9, ec_s122_11, ec_s122_13, ec_s122_16, ec_s122_18, ec_s122_20, ec_s122_21, ec_s122_22, ec_s122_25, ec_s122_28, ec_s122_29, ec_s122_31, ec_s122_33, ec_s122_34, ec_s122_35, ec_s122_36, ec_s122_39, ec_s122_41, ec_s122_42, ec_s122_43, ec_s122_44, ec_s122_47, ec_s122_48, ec_s122_51, ec_s122_52, ec_s122_54, ec_s122_55, ec_s122_56, ec_s122_57, ec_s122_58, ec_s122_60, ec_s122_63, ec_s122_64, ec_s122_66, ec_s122_67, ec_s122_70, ec_s122_72, ec_s122_73, ec_s122_75, ec_s122_76, ec_s122_77, ec_s122_78, ec_s122_80, ec_s122_83, ec_s122_84, ec_s122_88, ec_s122_90, ec_s122_93, ec_s122_95, ec_s122_97, ec_s122_98, ec_s122_99, ec_s122_101, ec_s122_103, ec_s122_104, ec_s122_106, ec_s122_109, ec_s122_110, ec_s122_113, ec_s122_114, ec_s122_117, ec_s122_119, ec_s122_122, ec_s122_123, ec_s122_125, ec_s122_126, ec_s122_129, ec_s122_131, ec_s122_132, ec_s122_134, ec_s122_135, ec_s122_136, ec_s122_137, ec_s122_138, ec_s122_139, ec_s122_142, ec_s122_143, ec_s122_146, ec_s122_147, ec_s122_148, ec_s122_149, ec_s122_152, ec_s122_158, ec_s122_161, ec_zn0, ec_zn1, ec_zn2, ec_zn3, ec_zn4, ec_zn5, ec_zn6, ec_zn7, ec_zn8, ec_zn9, ec_zn10, ec_zn12, ec_zn13, ec_zn14, ec_zn15, ec_zn16, ec_zn20, ec_zn30, ec_zn48, ec_zn99, ec_zn120, ec_zn127, ec_zn11, ec_zn31, ec_zn46, ec_zn57, ec_zn59, ec_zn63, ec_zn101, ec_zn107, ec_zn108, ec_zn110, ec_zn111, ec_zn115, ec_zn116, ec_zn119, ec_zn167, ec_zn185, ec_zn192, ec_zn215, ec_zn233, ec_zn699, ec_zn932, ec_zn999, ec_znF, ec_zneg, ec_zadd, ec_zsub, ec_zmul, ec_zdivO, ec_em, ec_zltO, ec_zeqO, ec_zeq0, ec_qt, ec_qf, if_pos, if_neg, Int.add_zero, ec_aft_v, ec_aft_n, ec_rwE, ec_rwN, ec_rwP, ec_rwK, ec_rwS, ec_w_shpI, ec_w_shpL, ec_w_shpA, ec_zn22, ec_zn24, ec_zn40, ec_zn45, ec_zn47, ec_zn96, ec_zn100, ec_zn384, ec_zn480, ec_zn960, ec_zn2001, ec_zn2002, ec_zn2003, ec_zn7919, ec_zn40503, ec_zn10000000, ec_zn2147483647, hD, hA, ck, lk, e1, ed_or10]
      · rw [ed_qf hp] at lk
        rw [ed_qf (show ¬ (p k ∨ (F k ≤ lim ∧ fl = 1)) from fun y => Or.elim y hp (fun y => y1 y.1))] at e1
        rcases hf with ⟨rfl, rfl, rfl⟩ | ⟨rfl, rfl, hi, rfl⟩ <;> simp (disch := first | (simp only [ec_w_kI, ec_w_kL, ec_w_kA, ec_w_shpI, ec_w_shpL, ec_w_shpA, ec_isR_r, ec_01z, ec_01o, ec_01q, hD]; done) | omega | (simp only [ec_w_shpI, ec_w_shpL, ec_w_shpA, hD]; refine ec_zinO ?_; omega) | (refine ec_nzO ?_; omega)) only [ec_s122_0, ec_s122_2, ec_s122_4, ec_s122_6, ec_s122_7, ec_s122_9, ec_s122_11, ec_s122_13, ec_s122_16, ec_s122_18, ec_s122_20, ec_s122_21, ec_s122_22, ec_s122_25, ec_s122_28, ec_s122_29, ec_s122_31, ec_s122_33, ec_s122_34, ec_s122_35, ec_s122_36, ec_s122_39, ec_s122_41, ec_s122_42, ec_s122_43, ec_s122_44, ec_s122_47, ec_s122_48, ec_s122_51, ec_s122_52, ec_s122_54, ec_s122_55, ec_s122_56, ec_s122_57, ec_s122_58, ec_s122_60, ec_s122_63, ec_s122_64, ec_s122_66, ec_s122_67, ec_s122_70, ec_s122_72, ec_s122_73, ec_s122_75, ec_s122_76, ec_s122_77, ec_s122_78, ec_s122_80, ec_s122_83, ec_s122_84, ec_s122_88, ec_s122_90, ec_s122_93, ec_s122_95, ec_s122_97, ec_s122_98, ec_s122_99, ec_s122_101, ec_s122_103, ec_s122_104, ec_s122_106, ec_s122_109, ec_s122_110, ec_s122_113, ec_s122_114, ec_s122_117, ec_s122_119, ec_s122_122, ec_s122_123, ec_s122_125, ec_s122_126, ec_s122_129, ec_s122_131, ec_s122_132, ec_s122_134, ec_s122_135, ec_s122_136, ec_s122_137, ec_s122_138, ec_s122_139, ec_s122_142, ec_s122_143, ec_s122_146, ec_s122_147, ec_s122_148, ec_s122_149, ec_s122_152, ec_s122_158, ec_s122_161, ec_zn0, ec_zn1, ec_zn2, ec_zn3, ec_zn4, ec_zn5, ec_zn6, ec_zn7, ec_zn8, ec_zn9, ec_zn10, ec_zn12, ec_zn13, ec_zn14, ec_zn15, ec_zn16, ec_zn20, ec_zn30, ec_zn48, ec_zn99, ec_zn120, ec_zn127, ec_zn11, ec_zn31, ec_zn46, ec_zn57, ec_zn59, ec_zn63, ec_zn101, ec_zn107, ec_zn108, ec_zn110, ec_zn111, ec_zn115, ec_zn116, ec_zn119, ec_zn167, ec_zn185, ec_zn192, ec_zn215, ec_zn233, ec_zn699, ec_zn932, ec_zn999, ec_znF, ec_zneg, ec_zadd, ec_zsub, ec_zmul, ec_zdivO, ec_em, ec_zltO, ec_zeqO, ec_zeq0, ec_qt, ec_qf, if_pos, if_neg, Int.add_zero, ec_aft_v, ec_aft_n, ec_rwE, ec_rwN, ec_rwP, ec_rwK, ec_rwS, ec_w_shpI, ec_w_shpL, ec_w_shpA, ec_zn22, ec_zn24, ec_zn40, ec_zn45, ec_zn47, ec_zn96, ec_zn100, ec_zn384, ec_zn480, ec_zn960, ec_zn2001, ec_zn2002, ec_zn2003, ec_zn7919, ec_zn40503, ec_zn10000000, ec_zn2147483647, hD, hA, ck, lk, e1, ed_or00]
theorem ec_p122t (hW : ec_WF σ) (hB : ed_L4 σ) (hL2 : L ≠ q) : ∀ (n : Nat) (i : Int) (h : ec_Hp) (p : Int → Prop) (w8 w9 : Value), ed_LD h → ed_LA h σ → ed_Q1 h L → ed_Q1 h q → ed_Ar h L 48 (fun z => ed_q (p z)) → 0 ≤ i → i + n = σ 3 → (∀ z : Int, 0 ≤ z ∧ z < 48 → (p z ↔ ∃ t : Int, (0 ≤ t ∧ t < i) ∧ σ (167 + 3 * t + 2) = 1 ∧ ed_rch σ (σ (167 + 3 * t)) 3 z)) →
    ∃ h', ec_om 122 31 [.ref 72, .ref 73, .ref 74, .ref 75, .ref 76, .ref L, .ref q, .int (ec_i i), w8, w9] [] h = some (.inl none, h') ∧ ed_Ar h' L 48 (fun z => ed_q (ed_lit σ z)) ∧ ec_fg (fun x _ => x = L ∨ x = q) h h' := by
  intro n
  induction n with
  | zero =>
    intro i h p w8 w9 hD hA hL hQ hC h0 hi hp
    have hi : i = σ 3 := by omega
    have w1 := hW.1
    have H := hW.2.1
    obtain ⟨h1, a1, a2, a3⟩ := ec_p121 (m := 0) (md := 0) (g := σ 6) hD hA hW hB hQ (Or.inl ⟨rfl, rfl⟩) H.1
    have hL1 := hL.of a3.1.1
    have hC1 := hC.fg a3 (fun _ => hL2)
    obtain ⟨h2, b1, b2, b3⟩ := ec_p122k (q := q) hW (i := i) (H := 1) (lim := 2) (fl := σ 9) (F := ed_cap (ed_lb σ 0 (σ 6))) (p := p) hL2 (fun z hz => ed_cap_0 hW H.1.1 hz) (Or.inl ⟨rfl, rfl, rfl⟩) 48 0 h1 (hD.of a3.1.1) (hA.on a3 hQ.2) hB hL1 (hQ.of a3.1.1) a2 (by omega) (by omega) (fun z hz => by rw [if_neg (by omega)]; exact hC1 z hz)
    refine ⟨h2, ?_, fun z hz => ?_, (a3.mono (fun x _ y => Or.inr y)).trans (b3.mono (fun x _ y => Or.inl y))⟩
    · have hA1 := hA.on a3 hQ.2
      have hA2 := hA1.on b3 hL.2
      have hD1 := hD.of a3.1.1
      have hD2 := hD1.of b3.1.1
      unfold ed_LD at hD hD1 hD2
      unfold ed_LA at hA hA1 hA2
      unfold ed_L4 at hB
      have hD := And.intro hD (And.intro hD1 hD2)
      subst hi
      rw [ec_s122_31]
      simp (disch := first | (simp only [ec_w_kI, ec_w_kL, ec_w_kA, ec_w_shpI, ec_w_shpL, ec_w_shpA, ec_isR_r, ec_01z, ec_01o, ec_01q, hD]; done) | omega | (simp only [ec_w_shpI, ec_w_shpL, ec_w_shpA, hD]; refine ec_zinO ?_; omega) | (refine ec_nzO ?_; omega)) only [ec_s122_0, ec_s122_2, ec_s122_4, ec_s122_6, ec_s122_7, ec_s122_9, ec_s122_11, ec_s122_13, ec_s122_16, ec_s122_18, ec_s122_20, ec_s122_21, ec_s122_22, ec_s122_25, ec_s122_28, ec_s122_29, ec_s122_33, ec_s122_34, ec_s122_35, ec_s122_36, ec_s122_39, ec_s122_41, ec_s122_42, ec_s122_43, ec_s122_44, ec_s122_47, ec_s122_48, ec_s122_51, ec_s122_52, ec_s122_54, ec_s122_55, ec_s122_56, ec_s122_57, ec_s122_58, ec_s122_60, ec_s122_63, ec_s122_64, ec_s122_66, ec_s122_67, ec_s122_70, ec_s122_72, ec_s122_73, ec_s122_75, ec_s122_76, ec_s122_77, ec_s122_78, ec_s122_80, ec_s122_83, ec_s122_84, ec_s122_88, ec_s122_90, ec_s122_93, ec_s122_95, ec_s122_97, ec_s122_98, ec_s122_99, ec_s122_101, ec_s122_103, ec_s122_104, ec_s122_106, ec_s122_109, ec_s122_110, ec_s122_113, ec_s122_114, ec_s122_117, ec_s122_119, ec_s122_122, ec_s122_123, ec_s122_125, ec_s122_126, ec_s122_129, ec_s122_131, ec_s122_132, ec_s122_134, ec_s122_135, ec_s122_136, ec_s122_137, ec_s122_138, ec_s122_139, ec_s122_142, ec_s122_143, ec_s122_146, ec_s122_147, ec_s122_148, ec_s122_149, ec_s122_152, ec_s122_158, ec_s122_161, ec_zn0, ec_zn1, ec_zn2, ec_zn3, ec_zn4, ec_zn5, ec_zn6, ec_zn7, ec_zn8, ec_zn9, ec_zn10, ec_zn12, ec_zn13, ec_zn14, ec_zn15, ec_zn16, ec_zn20, ec_zn30, ec_zn48, ec_zn99, ec_zn120, ec_zn127, ec_zn11, ec_zn31, ec_zn46, ec_zn57, ec_zn59, ec_zn63, ec_zn101, ec_zn107, ec_zn108, ec_zn110, ec_zn111, ec_zn115, ec_zn116, ec_zn119, ec_zn167, ec_zn185, ec_zn192, ec_zn215, ec_zn233, ec_zn699, ec_zn932, ec_zn999, ec_znF, ec_zneg, ec_zadd, ec_zsub, ec_zmul, ec_zdivO, ec_em, ec_zltO, ec_zeqO, ec_zeq0, ec_qt, ec_qf, if_pos, if_neg, Int.add_zero, ec_aft_v, ec_aft_n, ec_rwE, ec_rwN, ec_rwP, ec_rwK, ec_rwS, ec_w_shpI, ec_w_shpL, ec_w_shpA, ec_zn22, ec_zn24, ec_zn40, ec_zn45, ec_zn47, ec_zn96, ec_zn100, ec_zn384, ec_zn480, ec_zn960, ec_zn2001, ec_zn2002, ec_zn2003, ec_zn7919, ec_zn40503, ec_zn10000000, ec_zn2147483647, hD, hA, a1]
      have b1 : ec_om 122 86 [.ref 72, .ref 73, .ref 74, .ref 75, .ref 76, .ref L, .ref q, .int (ec_i (σ 3)), .int (ec_i 1), .int (ec_i 0)] [] h1 = _ := b1
      rw [b1, ec_s122_155, ec_s122_158, ec_s122_31]
      simp (disch := first | (simp only [ec_w_kI, ec_w_kL, ec_w_kA, ec_w_shpI, ec_w_shpL, ec_w_shpA, ec_isR_r, ec_01z, ec_01o, ec_01q, hD]; done) | omega | (simp only [ec_w_shpI, ec_w_shpL, ec_w_shpA, hD]; refine ec_zinO ?_; omega) | (refine ec_nzO ?_; omega)) only [ec_s122_0, ec_s122_2, ec_s122_4, ec_s122_6, ec_s122_7, ec_s122_9, ec_s122_11, ec_s122_13, ec_s122_16, ec_s122_18, ec_s122_20, ec_s122_21, ec_s122_22, ec_s122_25, ec_s122_28, ec_s122_29, ec_s122_33, ec_s122_34, ec_s122_35, ec_s122_36, ec_s122_39, ec_s122_41, ec_s122_42, ec_s122_43, ec_s122_44, ec_s122_47, ec_s122_48, ec_s122_51, ec_s122_52, ec_s122_54, ec_s122_55, ec_s122_56, ec_s122_57, ec_s122_58, ec_s122_60, ec_s122_63, ec_s122_64, ec_s122_66, ec_s122_67, ec_s122_70, ec_s122_72, ec_s122_73, ec_s122_75, ec_s122_76, ec_s122_77, ec_s122_78, ec_s122_80, ec_s122_83, ec_s122_84, ec_s122_88, ec_s122_90, ec_s122_93, ec_s122_95, ec_s122_97, ec_s122_98, ec_s122_99, ec_s122_101, ec_s122_103, ec_s122_104, ec_s122_106, ec_s122_109, ec_s122_110, ec_s122_113, ec_s122_114, ec_s122_117, ec_s122_119, ec_s122_122, ec_s122_123, ec_s122_125, ec_s122_126, ec_s122_129, ec_s122_131, ec_s122_132, ec_s122_134, ec_s122_135, ec_s122_136, ec_s122_137, ec_s122_138, ec_s122_139, ec_s122_142, ec_s122_143, ec_s122_146, ec_s122_147, ec_s122_148, ec_s122_149, ec_s122_152, ec_s122_158, ec_s122_161, ec_zn0, ec_zn1, ec_zn2, ec_zn3, ec_zn4, ec_zn5, ec_zn6, ec_zn7, ec_zn8, ec_zn9, ec_zn10, ec_zn12, ec_zn13, ec_zn14, ec_zn15, ec_zn16, ec_zn20, ec_zn30, ec_zn48, ec_zn99, ec_zn120, ec_zn127, ec_zn11, ec_zn31, ec_zn46, ec_zn57, ec_zn59, ec_zn63, ec_zn101, ec_zn107, ec_zn108, ec_zn110, ec_zn111, ec_zn115, ec_zn116, ec_zn119, ec_zn167, ec_zn185, ec_zn192, ec_zn215, ec_zn233, ec_zn699, ec_zn932, ec_zn999, ec_znF, ec_zneg, ec_zadd, ec_zsub, ec_zmul, ec_zdivO, ec_em, ec_zltO, ec_zeqO, ec_zeq0, ec_qt, ec_qf, if_pos, if_neg, Int.add_zero, ec_aft_v, ec_aft_n, ec_rwE, ec_rwN, ec_rwP, ec_rwK, ec_rwS, ec_w_shpI, ec_w_shpL, ec_w_shpA, ec_zn22, ec_zn24, ec_zn40, ec_zn45, ec_zn47, ec_zn96, ec_zn100, ec_zn384, ec_zn480, ec_zn960, ec_zn2001, ec_zn2002, ec_zn2003, ec_zn7919, ec_zn40503, ec_zn10000000, ec_zn2147483647, hD, hA2]
    · rw [b2 z hz]
      show ec_i (ed_q _) = ec_i (ed_q _)
      rw [ed_q_c]
      unfold ed_lit
      rw [hp z hz]
      have e := ed_cap_rch hW H.1 hz (n := 2) (by omega)
      rw [← hi]
      have e : ed_cap (ed_lb σ 0 (σ 6)) z ≤ 2 ↔ ed_rch σ (σ 6) 2 z := e
      rw [e]
      exact ⟨fun y => Or.elim y Or.inl (fun y => Or.inr ⟨y.2, y.1⟩), fun y => Or.elim y Or.inl (fun y => Or.inr ⟨y.2, y.1⟩)⟩
  | succ n ih =>
    intro i h p w8 w9 hD hA hL hQ hC h0 hi hp
    have w1 := hW.1
    have ti : 0 ≤ i ∧ i < σ 3 := by omega
    have T := ed_torch hW ti
    obtain ⟨h1, a1, a2, a3⟩ := ec_p121 (m := 0) (md := 0) (g := σ (167 + 3 * i)) hD hA hW hB hQ (Or.inl ⟨rfl, rfl⟩) T.1
    have hL1 := hL.of a3.1.1
    have hC1 := hC.fg a3 (fun _ => hL2)
    obtain ⟨h2, b1, b2, b3⟩ := ec_p122k (q := q) hW (i := i) (H := 0) (lim := 3) (fl := σ (167 + (3 * i + 2))) (F := ed_cap (ed_lb σ 0 (σ (167 + 3 * i)))) (p := p) hL2 (fun z hz => ed_cap_0 hW T.1.1 hz) (Or.inr ⟨rfl, rfl, ti, rfl⟩) 48 0 h1 (hD.of a3.1.1) (hA.on a3 hQ.2) hB hL1 (hQ.of a3.1.1) a2 (by omega) (by omega) (fun z hz => by rw [if_neg (by omega)]; exact hC1 z hz)
    have hA1 := hA.on a3 hQ.2
    have hA2 := hA1.on b3 hL.2
    have hD1 := hD.of a3.1.1
    have hD2 := hD1.of b3.1.1
    have e2 : 167 + (3 * i + 2) = 167 + 3 * i + 2 := by omega
    obtain ⟨h3, c1, c2, c3⟩ := ih (i + 1) h2 _ (.int (ec_i 0)) (.int (ec_i 48)) hD2 hA2 (hL1.of b3.1.1) ((hQ.of a3.1.1).of b3.1.1) b2 (by omega) (by omega) (fun z hz => by
      rw [hp z hz, e2]
      constructor
      · intro y
        rcases y with ⟨t, t1, t2, t3⟩ | y
        · exact ⟨t, by omega, t2, t3⟩
        · have e : ed_cap (ed_lb σ 0 (σ (167 + 3 * i))) z ≤ 3 ↔ ed_rch σ (σ (167 + 3 * i)) 3 z := ed_cap_rch hW T.1 hz (n := 3) (by omega)
          exact ⟨i, by omega, y.2, e.mp y.1⟩
      · rintro ⟨t, t1, t2, t3⟩
        by_cases tk : t = i
        · subst tk
          have e : ed_cap (ed_lb σ 0 (σ (167 + 3 * t))) z ≤ 3 ↔ ed_rch σ (σ (167 + 3 * t)) 3 z := ed_cap_rch hW T.1 hz (n := 3) (by omega)
          exact Or.inr ⟨e.mpr t3, t2⟩
        · exact Or.inl ⟨t, by omega, t2, t3⟩)
    refine ⟨h3, ?_, c2, ((a3.mono (fun x _ y => Or.inr y)).trans (b3.mono (fun x _ y => Or.inl y))).trans c3⟩
    unfold ed_LD at hD hD1 hD2
    unfold ed_LA at hA
    unfold ed_L4 at hB
    have hD := And.intro hD (And.intro hD1 hD2)
    rw [ec_s122_31]
    simp (disch := first | (simp only [ec_w_kI, ec_w_kL, ec_w_kA, ec_w_shpI, ec_w_shpL, ec_w_shpA, ec_isR_r, ec_01z, ec_01o, ec_01q, hD]; done) | omega | (simp only [ec_w_shpI, ec_w_shpL, ec_w_shpA, hD]; refine ec_zinO ?_; omega) | (refine ec_nzO ?_; omega)) only [ec_s122_0, ec_s122_2, ec_s122_4, ec_s122_6, ec_s122_7, ec_s122_9, ec_s122_11, ec_s122_13, ec_s122_16, ec_s122_18, ec_s122_20, ec_s122_21, ec_s122_22, ec_s122_25, ec_s122_28, ec_s122_29, ec_s122_33, ec_s122_34, ec_s122_35, ec_s122_36, ec_s122_39, ec_s122_41, ec_s122_42, ec_s122_43, ec_s122_44, ec_s122_47, ec_s122_48, ec_s122_51, ec_s122_52, ec_s122_54, ec_s122_55, ec_s122_56, ec_s122_57, ec_s122_58, ec_s122_60, ec_s122_63, ec_s122_64, ec_s122_66, ec_s122_67, ec_s122_70, ec_s122_72, ec_s122_73, ec_s122_75, ec_s122_76, ec_s122_77, ec_s122_78, ec_s122_80, ec_s122_83, ec_s122_84, ec_s122_88, ec_s122_90, ec_s122_93, ec_s122_95, ec_s122_97, ec_s122_98, ec_s122_99, ec_s122_101, ec_s122_103, ec_s122_104, ec_s122_106, ec_s122_109, ec_s122_110, ec_s122_113, ec_s122_114, ec_s122_117, ec_s122_119, ec_s122_122, ec_s122_123, ec_s122_125, ec_s122_126, ec_s122_129, ec_s122_131, ec_s122_132, ec_s122_134, ec_s122_135, ec_s122_136, ec_s122_137, ec_s122_138, ec_s122_139, ec_s122_142, ec_s122_143, ec_s122_146, ec_s122_147, ec_s122_148, ec_s122_149, ec_s122_152, ec_s122_158, ec_s122_161, ec_zn0, ec_zn1, ec_zn2, ec_zn3, ec_zn4, ec_zn5, ec_zn6, ec_zn7, ec_zn8, ec_zn9, ec_zn10, ec_zn12, ec_zn13, ec_zn14, ec_zn15, ec_zn16, ec_zn20, ec_zn30, ec_zn48, ec_zn99, ec_zn120, ec_zn127, ec_zn11, ec_zn31, ec_zn46, ec_zn57, ec_zn59, ec_zn63, ec_zn101, ec_zn107, ec_zn108, ec_zn110, ec_zn111, ec_zn115, ec_zn116, ec_zn119, ec_zn167, ec_zn185, ec_zn192, ec_zn215, ec_zn233, ec_zn699, ec_zn932, ec_zn999, ec_znF, ec_zneg, ec_zadd, ec_zsub, ec_zmul, ec_zdivO, ec_em, ec_zltO, ec_zeqO, ec_zeq0, ec_qt, ec_qf, if_pos, if_neg, Int.add_zero, ec_aft_v, ec_aft_n, ec_rwE, ec_rwN, ec_rwP, ec_rwK, ec_rwS, ec_w_shpI, ec_w_shpL, ec_w_shpA, ec_zn22, ec_zn24, ec_zn40, ec_zn45, ec_zn47, ec_zn96, ec_zn100, ec_zn384, ec_zn480, ec_zn960, ec_zn2001, ec_zn2002, ec_zn2003, ec_zn7919, ec_zn40503, ec_zn10000000, ec_zn2147483647, hD, hA, a1]
    have b1 : ec_om 122 86 [.ref 72, .ref 73, .ref 74, .ref 75, .ref 76, .ref L, .ref q, .int (ec_i i), .int (ec_i 0), .int (ec_i 0)] [] h1 = _ := b1
    rw [b1]
    simp (disch := first | (simp only [ec_w_kI, ec_w_kL, ec_w_kA, ec_w_shpI, ec_w_shpL, ec_w_shpA, ec_isR_r, ec_01z, ec_01o, ec_01q, hD]; done) | omega | (simp only [ec_w_shpI, ec_w_shpL, ec_w_shpA, hD]; refine ec_zinO ?_; omega) | (refine ec_nzO ?_; omega)) only [ec_s122_0, ec_s122_2, ec_s122_4, ec_s122_6, ec_s122_7, ec_s122_9, ec_s122_11, ec_s122_13, ec_s122_16, ec_s122_18, ec_s122_20, ec_s122_21, ec_s122_22, ec_s122_25, ec_s122_28, ec_s122_29, ec_s122_33, ec_s122_34, ec_s122_35, ec_s122_36, ec_s122_39, ec_s122_41, ec_s122_42, ec_s122_43, ec_s122_44, ec_s122_47, ec_s122_48, ec_s122_51, ec_s122_52, ec_s122_54, ec_s122_55, ec_s122_56, ec_s122_57, ec_s122_58, ec_s122_60, ec_s122_63, ec_s122_64, ec_s122_66, ec_s122_67, ec_s122_70, ec_s122_72, ec_s122_73, ec_s122_75, ec_s122_76, ec_s122_77, ec_s122_78, ec_s122_80, ec_s122_83, ec_s122_84, ec_s122_88, ec_s122_90, ec_s122_93, ec_s122_95, ec_s122_97, ec_s122_98, ec_s122_99, ec_s122_101, ec_s122_103, ec_s122_104, ec_s122_106, ec_s122_109, ec_s122_110, ec_s122_113, ec_s122_114, ec_s122_117, ec_s122_119, ec_s122_122, ec_s122_123, ec_s122_125, ec_s122_126, ec_s122_129, ec_s122_131, ec_s122_132, ec_s122_134, ec_s122_135, ec_s122_136, ec_s122_137, ec_s122_138, ec_s122_139, ec_s122_142, ec_s122_143, ec_s122_146, ec_s122_147, ec_s122_148, ec_s122_149, ec_s122_152, ec_s122_155, ec_s122_158, ec_s122_161, ec_zn0, ec_zn1, ec_zn2, ec_zn3, ec_zn4, ec_zn5, ec_zn6, ec_zn7, ec_zn8, ec_zn9, ec_zn10, ec_zn12, ec_zn13, ec_zn14, ec_zn15, ec_zn16, ec_zn20, ec_zn30, ec_zn48, ec_zn99, ec_zn120, ec_zn127, ec_zn11, ec_zn31, ec_zn46, ec_zn57, ec_zn59, ec_zn63, ec_zn101, ec_zn107, ec_zn108, ec_zn110, ec_zn111, ec_zn115, ec_zn116, ec_zn119, ec_zn167, ec_zn185, ec_zn192, ec_zn215, ec_zn233, ec_zn699, ec_zn932, ec_zn999, ec_znF, ec_zneg, ec_zadd, ec_zsub, ec_zmul, ec_zdivO, ec_em, ec_zltO, ec_zeqO, ec_zeq0, ec_qt, ec_qf, if_pos, if_neg, Int.add_zero, ec_aft_v, ec_aft_n, ec_rwE, ec_rwN, ec_rwP, ec_rwK, ec_rwS, ec_w_shpI, ec_w_shpL, ec_w_shpA, ec_zn22, ec_zn24, ec_zn40, ec_zn45, ec_zn47, ec_zn96, ec_zn100, ec_zn384, ec_zn480, ec_zn960, ec_zn2001, ec_zn2002, ec_zn2003, ec_zn7919, ec_zn40503, ec_zn10000000, ec_zn2147483647, c1]
theorem ec_p122 {h : ec_Hp} (hD : ed_LD h) (hA : ed_LA h σ) (hW : ec_WF σ) (hB : ed_L4 σ) (hL : ed_Q1 h L) : ∃ h', ec_om 122 0 [.ref 72, .ref 73, .ref 74, .ref 75, .ref 76, .ref L, .double 0, .double 0, .double 0, .double 0] [] h = some (.inl none, h') ∧ ed_Ar h' L 48 (fun z => ed_q (ed_lit σ z)) ∧ ed_gz (fun x => x = L) 1 h h' := by
  have ln := hD.len
  have lL := hL.len
  have w1 := hW.1
  have g : ed_gz (fun x => x = L) 1 h (ec_mk h 16 48) := ed_gz.mk (by omega)
  have hD1 := hD.gr g
  have hA1 := hA.gr ln g (fun q hq y => by have := hL.2; omega)
  have hL1 := hL.gr g
  have hQ1 := ed_Q1.mk (h := h) ln
  generalize e : h.1.length = q at hQ1 lL ln
  obtain ⟨h1, a1, a2, a3⟩ := ec_p122a (L := L) (q := q) 48 0 _ hL1 (by omega) (by omega) (fun z hz => absurd hz (by omega))
  obtain ⟨h2, b1, b2, b3⟩ := ec_p122t (L := L) (q := q) hW hB (by omega) (σ 3).toNat 0 h1 (fun _ => False) (.double 0) (.double 0) (hD1.of a3.1.1) (hA1.on a3 hL.2) (hL1.of a3.1.1) (hQ1.of a3.1.1) a2 (by omega) (by omega) (fun z _ => ⟨fun y => y.elim, fun ⟨t, t1, _⟩ => absurd t1 (by omega)⟩)
  refine ⟨h2, ?_, b2, ?_⟩
  · rw [ec_s122_0, ec_s122_2 (by decide), e, ec_s122_4, ec_s122_6, ec_s122_7]
    have a1 : ec_om 122 9 [.ref 72, .ref 73, .ref 74, .ref 75, .ref 76, .ref L, .ref q, .int 0, .double 0, .double 0] [] (ec_mk h 16 48) = _ := a1
    have e48 : (48 : Int32).toNatClampNeg = 48 := by decide
    rw [e48, a1, ec_s122_28, ec_s122_29]
    exact b1
  · have G := ((ed_gz.fg (S := fun x => x = L ∨ x = q) a3 (fun x _ y => Or.inl y)).trans (ed_gz.fg (S := fun x => x = L ∨ x = q) b3 (fun x _ y => y)) (fun x _ y => y) (fun x _ y => y))
    exact g.trans (S := fun x => x = L) G (fun x _ y => y) (fun x hx y => Or.elim y id (fun y => absurd hx (by omega)))
end EDW
