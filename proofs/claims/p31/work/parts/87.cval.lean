/-! The class's face: values. -/
def ec_us (x y : Int32) : Int32 := (x.toUInt32 >>> (y.toUInt32 &&& Int32.toUInt32 31)).toInt32
def ec_b1 (x : Int32) : Int32 := x - (ec_us x 1 &&& 1431655765)
def ec_b2 (x : Int32) : Int32 := (x &&& 858993459) + (ec_us x 2 &&& 858993459)
def ec_b3 (x : Int32) : Int32 := (x + ec_us x 4) &&& 252645135
def ec_b4 (x : Int32) : Int32 := x + ec_us x 8
def ec_b5 (x : Int32) : Int32 := x + ec_us x 16
def ec_bitc (x : Int32) : Int32 := ec_b5 (ec_b4 (ec_b3 (ec_b2 (ec_b1 x)))) &&& 63
theorem ec_c200a {x : Int32} {h : ec_Hp} : ec_om 200 0 [.int x] [] h = ec_om 200 10 [.int (ec_b1 x)] [] h := by
  simp only [ec_s200_0, ec_s200_1, ec_s200_2, ec_s200_3, ec_s200_4, ec_s200_7, ec_s200_8, ec_s200_9, ec_b1, ec_us]
theorem ec_c200b {x : Int32} {h : ec_Hp} : ec_om 200 10 [.int x] [] h = ec_om 200 24 [.int (ec_b2 x)] [] h := by
  simp only [ec_s200_10, ec_s200_11, ec_s200_14, ec_s200_15, ec_s200_16, ec_s200_17, ec_s200_18, ec_s200_21, ec_s200_22, ec_s200_23, ec_b2, ec_us]
theorem ec_c200c {x : Int32} {h : ec_Hp} : ec_om 200 24 [.int x] [] h = ec_om 200 34 [.int (ec_b3 x)] [] h := by
  simp only [ec_s200_24, ec_s200_25, ec_s200_26, ec_s200_27, ec_s200_28, ec_s200_29, ec_s200_32, ec_s200_33, ec_b3, ec_us]
theorem ec_c200d {x : Int32} {h : ec_Hp} : ec_om 200 34 [.int x] [] h = ec_om 200 41 [.int (ec_b4 x)] [] h := by
  simp only [ec_s200_34, ec_s200_35, ec_s200_36, ec_s200_38, ec_s200_39, ec_s200_40, ec_b4, ec_us]
theorem ec_c200e {x : Int32} {h : ec_Hp} : ec_om 200 41 [.int x] [] h = ec_om 200 48 [.int (ec_b5 x)] [] h := by
  simp only [ec_s200_41, ec_s200_42, ec_s200_43, ec_s200_45, ec_s200_46, ec_s200_47, ec_b5, ec_us]
theorem ec_c200 {x : Int32} {h : ec_Hp} : ec_om 200 0 [.int x] [] h = some (.inl (some (.int (ec_bitc x))), h) := by
  rw [ec_c200a, ec_c200b, ec_c200c, ec_c200d, ec_c200e]
  simp only [ec_s200_48, ec_s200_49, ec_s200_51, ec_s200_52, ec_bitc]
def ed_bl (f : Int → Int) (c : Int) : Nat → Int → List Bool
  | 0, _ => []
  | n + 1, k => decide (f k = c) :: ed_bl f c n (k + 1)
def ed_stb : List Bool → Int → Int32 → Int32
  | [], _, x => x
  | b :: l, k, x => ed_stb l (k + 1) (if b then x ||| ed_bit k else x)
def ed_ctb : List Bool → Int → Int
  | [], x => x
  | b :: l, x => ed_ctb l (if b then x + 1 else x)
theorem ed_stf_b {f : Int → Int} {c : Int} : ∀ (n : Nat) (k : Int) (x : Int32), ed_stf f c n k x = ed_stb (ed_bl f c n k) k x := by
  intro n
  induction n with
  | zero => intro k x; rfl
  | succ n ih =>
    intro k x
    show ed_stf f c n (k + 1) (if f k = c then x ||| ed_bit k else x) = ed_stb (ed_bl f c n (k + 1)) (k + 1) (if decide (f k = c) = true then x ||| ed_bit k else x)
    rw [ih]
    by_cases q : f k = c
    · rw [if_pos q, if_pos (decide_eq_true q)]
    · rw [if_neg q, if_neg (by rw [decide_eq_false q]; decide)]
theorem ed_ctf_b {f : Int → Int} {c : Int} : ∀ (n : Nat) (k x : Int), ed_ctf f c n k x = ed_ctb (ed_bl f c n k) x := by
  intro n
  induction n with
  | zero => intro k x; rfl
  | succ n ih =>
    intro k x
    show ed_ctf f c n (k + 1) (if f k = c then x + 1 else x) = ed_ctb (ed_bl f c n (k + 1)) (if decide (f k = c) = true then x + 1 else x)
    rw [ih]
    by_cases q : f k = c
    · rw [if_pos q, if_pos (decide_eq_true q)]
    · rw [if_neg q, if_neg (by rw [decide_eq_false q]; decide)]
theorem ed_bl_len {f : Int → Int} {c : Int} : ∀ (n : Nat) (k : Int), (ed_bl f c n k).length = n := by
  intro n
  induction n with
  | zero => intro k; rfl
  | succ n ih => intro k; show (ed_bl f c n (k + 1)).length + 1 = n + 1; rw [ih]
theorem ed_pop : ∀ l : List Bool, l.length ≤ 6 → ec_bitc (ed_stb l 0 (ec_i 0)) = ec_i (ed_ctb l 0)
  | [], _ => by decide +kernel
  | [a], _ => by revert a; decide +kernel
  | [a, b], _ => by revert a b; decide +kernel
  | [a, b, c], _ => by revert a b c; decide +kernel
  | [a, b, c, d], _ => by revert a b c d; decide +kernel
  | [a, b, c, d, e], _ => by revert a b c d e; decide +kernel
  | [a, b, c, d, e, f], _ => by revert a b c d e f; decide +kernel
  | _ :: _ :: _ :: _ :: _ :: _ :: _ :: l, h => by
    have h : l.length + 1 + 1 + 1 + 1 + 1 + 1 + 1 ≤ 6 := h
    omega
theorem ec_c200s {f : Int → Int} {c : Int} {n : Nat} (hn : n ≤ 6) {h : ec_Hp} : ec_om 200 0 [.int (ed_stf f c n 0 (ec_i 0))] [] h = some (.inl (some (.int (ec_i (ed_ctf f c n 0 0)))), h) := by
  rw [ec_c200, ed_stf_b, ed_ctf_b, ed_pop _ (by rw [ed_bl_len]; exact hn)]
theorem ec_RC.tov {h : ec_Hp} {B : Nat} {σ : ec_Sg} (R : ec_RC h B σ) {d u : Int} (hd : 0 ≤ d ∧ d < σ 3) (hu : 0 ≤ u ∧ u ≤ 3) : h.2.1 (B + 5) (d * ((4 : Nat) : Int) + u).toNat = ec_i (ed_tov σ (167 + 3 * d) u) := by
  have r := R.2.2.2.2.1 d (d * ((4 : Nat) : Int) + u).toNat hd
  unfold ed_tov
  rcases (show u = 0 ∨ u = 1 ∨ u = 2 ∨ u = 3 by omega) with q | q | q | q
  · rw [if_pos q]; exact r.1 (by omega)
  · rw [if_neg (by omega), if_pos q]; exact r.2.1 (by omega)
  · rw [if_neg (by omega), if_neg (by omega), show 167 + 3 * d + u - 1 = 167 + 3 * d + 1 by omega]; exact r.2.2.1 (by omega)
  · rw [if_neg (by omega), if_neg (by omega), show 167 + 3 * d + u - 1 = 167 + 3 * d + 2 by omega]; exact r.2.2.2 (by omega)
theorem ec_RC.pov {h : ec_Hp} {B : Nat} {σ : ec_Sg} (R : ec_RC h B σ) {d u : Int} (hd : 0 ≤ d ∧ d < σ 5) (hu : 0 ≤ u ∧ u ≤ 3) : h.2.1 (B + 9) (d * ((4 : Nat) : Int) + u).toNat = ec_i (ed_tov σ (215 + 3 * d) u) := by
  have r := R.2.2.2.2.2.2 d (d * ((4 : Nat) : Int) + u).toNat hd
  unfold ed_tov
  rcases (show u = 0 ∨ u = 1 ∨ u = 2 ∨ u = 3 by omega) with q | q | q | q
  · rw [if_pos q]; exact r.1 (by omega)
  · rw [if_neg (by omega), if_pos q]; exact r.2.1 (by omega)
  · rw [if_neg (by omega), if_neg (by omega), show 215 + 3 * d + u - 1 = 215 + 3 * d + 1 by omega]; exact r.2.2.1 (by omega)
  · rw [if_neg (by omega), if_neg (by omega), show 215 + 3 * d + u - 1 = 215 + 3 * d + 2 by omega]; exact r.2.2.2 (by omega)
theorem ec_RC.mov {h : ec_Hp} {B : Nat} {σ : ec_Sg} (R : ec_RC h B σ) {d u : Int} (hd : 0 ≤ d ∧ d < σ 4) (hu : 0 ≤ u ∧ u ≤ 7) (h6 : u ≠ 6) : h.2.1 (B + 7) (d * ((8 : Nat) : Int) + u).toNat = ec_i (ed_mov σ d u) := by
  have r := R.2.2.2.2.2.1 d (d * ((8 : Nat) : Int) + u).toNat hd
  unfold ed_mov
  rcases (show u = 0 ∨ u = 1 ∨ u = 2 ∨ u = 3 ∨ u = 4 ∨ u = 5 ∨ u = 7 by omega) with q | q | q | q | q | q | q
  · rw [if_pos q]; exact r.1 (by omega)
  · rw [if_neg (by omega), if_pos q]; exact r.2.1 (by omega)
  · rw [if_neg (by omega), if_neg (by omega), if_pos (by omega), show 185 + 5 * d + u - 1 = 185 + 5 * d + 1 by omega]; exact r.2.2.1 (by omega)
  · rw [if_neg (by omega), if_neg (by omega), if_pos (by omega), show 185 + 5 * d + u - 1 = 185 + 5 * d + 2 by omega]; exact r.2.2.2.1 (by omega)
  · rw [if_neg (by omega), if_neg (by omega), if_neg (by omega), if_pos q]; exact r.2.2.2.2.1 (by omega)
  · rw [if_neg (by omega), if_neg (by omega), if_neg (by omega), if_neg (by omega), if_pos q]; exact r.2.2.2.2.2.1 (by omega)
  · rw [if_neg (by omega), if_neg (by omega), if_neg (by omega), if_neg (by omega), if_neg (by omega), if_neg h6]; exact r.2.2.2.2.2.2 (by omega)
section EDL
variable {h : ec_Hp} {σ : ec_Sg} {n : Int} {p : Int → ec_Sg} {L : Int} {T : Int → Int}
theorem ec_c105s (C : ed_CL h σ n p L T) {c : Nat → Int} {nw : Nat → Bool} {t z : Int} (hS : ec_SN h 63) (hs : ec_SS h 63 c nw t) (hz : 0 ≤ z ∧ z < 48) (hl : ec_ct c z = -1 ↔ ¬ ed_lit σ z) : ec_om 105 0 [.ref 0, .int (ec_i z)] [] h = some (.inl (some (.int (ec_i (ed_q (ed_lit σ z))))), h) := by
  have c36 := ec_c36 (z := z) hS hs (ec_rgs (by omega))
  have hct := ec_ct_rg (z := z) (fun k hk => (hs.2.2 k hk).1.1)
  have hD := C.b
  by_cases q : ed_lit σ z
  · have n1 : ec_ct c z ≠ -1 := fun y => (hl.mp y) q
    rw [ed_qt q]
    simp (disch := first | (simp only [ec_w_kI, ec_w_kL, ec_w_kA, ec_w_shpI, ec_w_shpL, ec_w_shpA, ec_isR_r, ec_01z, ec_01o, ec_01q, hD]; done) | omega | (simp only [ec_w_shpI, ec_w_shpL, ec_w_shpA, hD]; refine ec_zinO ?_; omega) | (refine ec_nzO ?_; omega)) only [ec_s105_0, ec_s105_1, ec_s105_4, ec_s105_5, ec_s105_8, ec_s105_9, ec_s105_12, ec_s105_13, ec_s105_16, ec_s105_17, ec_zn0, ec_zn1, ec_zn2, ec_zn3, ec_zn4, ec_zn5, ec_zn6, ec_zn7, ec_zn8, ec_zn9, ec_zn10, ec_zn12, ec_zn13, ec_zn14, ec_zn15, ec_zn16, ec_zn20, ec_zn30, ec_zn48, ec_zn99, ec_zn120, ec_zn127, ec_zn11, ec_zn31, ec_zn46, ec_zn57, ec_zn59, ec_zn63, ec_zn101, ec_zn107, ec_zn108, ec_zn110, ec_zn111, ec_zn115, ec_zn116, ec_zn119, ec_zn167, ec_zn185, ec_zn192, ec_zn215, ec_zn233, ec_zn699, ec_zn932, ec_zn999, ec_znF, ec_zneg, ec_zadd, ec_zsub, ec_zmul, ec_zdivO, ec_em, ec_zltO, ec_zeqO, ec_zeq0, ec_qt, ec_qf, if_pos, if_neg, Int.add_zero, ec_aft_v, ec_aft_n, ec_rwE, ec_rwN, ec_rwP, ec_rwK, ec_rwS, ec_w_shpI, ec_w_shpL, ec_w_shpA, hD, c36]
  · rw [hl.mpr q] at c36
    rw [ed_qf q]
    simp (disch := first | (simp only [ec_w_kI, ec_w_kL, ec_w_kA, ec_w_shpI, ec_w_shpL, ec_w_shpA, ec_isR_r, ec_01z, ec_01o, ec_01q, hD]; done) | omega | (simp only [ec_w_shpI, ec_w_shpL, ec_w_shpA, hD]; refine ec_zinO ?_; omega) | (refine ec_nzO ?_; omega)) only [ec_s105_0, ec_s105_1, ec_s105_4, ec_s105_5, ec_s105_8, ec_s105_9, ec_s105_12, ec_s105_13, ec_s105_16, ec_s105_17, ec_zn0, ec_zn1, ec_zn2, ec_zn3, ec_zn4, ec_zn5, ec_zn6, ec_zn7, ec_zn8, ec_zn9, ec_zn10, ec_zn12, ec_zn13, ec_zn14, ec_zn15, ec_zn16, ec_zn20, ec_zn30, ec_zn48, ec_zn99, ec_zn120, ec_zn127, ec_zn11, ec_zn31, ec_zn46, ec_zn57, ec_zn59, ec_zn63, ec_zn101, ec_zn107, ec_zn108, ec_zn110, ec_zn111, ec_zn115, ec_zn116, ec_zn119, ec_zn167, ec_zn185, ec_zn192, ec_zn215, ec_zn233, ec_zn699, ec_zn932, ec_zn999, ec_znF, ec_zneg, ec_zadd, ec_zsub, ec_zmul, ec_zdivO, ec_em, ec_zltO, ec_zeqO, ec_zeq0, ec_qt, ec_qf, if_pos, if_neg, Int.add_zero, ec_aft_v, ec_aft_n, ec_rwE, ec_rwN, ec_rwP, ec_rwK, ec_rwS, ec_w_shpI, ec_w_shpL, ec_w_shpA, hD, c36]
/-- a shine of the class's senses -/
theorem ed_CL.shine (C : ed_CL h σ n p L T) : ∃ (h' : ec_Hp) (c : Nat → Int) (nw : Nat → Bool) (t : Int), ec_om 33 0 [.ref 63, .ref 1, .double 0] [] h = some (.inl none, h') ∧ ec_SN h' 63 ∧ ec_SS h' 63 c nw t ∧ (∀ z : Int, 0 ≤ z ∧ z < 48 → (ec_ct c z = -1 ↔ ¬ ed_lit σ z)) ∧ ed_CL h' σ n p L T ∧ ec_fg (fun q _ => 63 ≤ q ∧ q ≤ 65) h h' := by
  obtain ⟨h1, c, nw, t, a1, a2, a3, a4, a5⟩ := ec_c33s (p := 63) (B := 1) (by omega) C.2.1.1 C.2.1.2.1 C.2.1.2.2 C.2.2.2.2.1
  exact ⟨h1, c, nw, t, a1, a3, a4, a5, C.e a2.g ⟨a3, c, nw, t, a4⟩, a2.g⟩
theorem ec_c79s (C : ed_CL h σ n p L T) {a : Int} (ra : ec_rg a) :
    (ed_kAc σ a = 0 → ed_Cn 79 [.ref 0, .int (ec_i a)] h (ed_turn σ a 7) (ed_turn σ a) (ed_pn n) (ed_pp n p σ) L T) ∧
    (ed_kAc σ a ≠ 0 → ed_Cx 79 [.ref 0, .int (ec_i a)] h (ed_x2 (ed_kAc σ a))) := by
  have g5 := fun h => ec_c111s (h := h) ra ec_rn0 ec_rn15
  have x0 : ec_nth [] ec_ht 79 = [] := rfl
  have b0 := And.intro C.b x0
  have w := C.2.1.2.2
  have rr := ed_rsn_rg (σ := σ) (a := a)
  unfold ed_kAc
  by_cases q1 : 0 ≤ a ∧ a ≤ 15
  · rw [if_pos q1]
    have g2 := ec_c57s (T := 66) C.2.2.2.2.2.1.1.1 C.2.1.1 C.2.1.2.1 w (a := a) (by omega)
    by_cases q2 : ed_rsn σ a = 0
    · rw [if_pos q2]
      rw [q2] at g2
      refine ⟨fun _ => ?_, fun e => absurd rfl e⟩
      obtain ⟨h1, a1, a2, a3⟩ := C.saved
      obtain ⟨c1, ⟨c2, c2b, c2c⟩, c3, c4, c5, ⟨c6, c6b⟩, c7⟩ := id a2
      obtain ⟨h2, b1, b2, b3, b4, b5, b6⟩ := ec_c59s (T := 66) (B := 1) (by omega) c2 c2b w c6 c6b (a := a) (by omega) q2
      have f2 : ec_fg (fun q _ => 1 ≤ q ∧ q ≤ 10 ∨ 66 ≤ q ∧ q ≤ 69) h1 h2 := b6.mono (fun q j e => by omega)
      have C2 : ed_CL h2 (ed_turn σ a) (ed_pn n) (ed_pp n p σ) L T := ⟨c1.of f2.1.1, ⟨b3, b2, ed_WF_turn w (by omega) q2⟩, c3.fg f2 (fun q j x y z => by omega), c4.fg f2 (fun q j x y z => by omega), c5.fg f2 (fun q j x y z => by omega), ⟨b4, b5⟩, c7.fg f2 (fun z => by omega) (fun j z => by omega)⟩
      refine ⟨h2, ?_, C2, (a3.mono (fun q j e => by omega)).trans (f2.mono (fun q j e => by omega))⟩
      have e8 := b2.1.2.2.2.1
      have hD := And.intro b0 (And.intro a2.b C2.b)
      simp (disch := first | (simp only [ec_w_kI, ec_w_kL, ec_w_kA, ec_w_shpI, ec_w_shpL, ec_w_shpA, ec_isR_r, ec_01z, ec_01o, ec_01q, hD]; done) | omega | (simp only [ec_w_shpI, ec_w_shpL, ec_w_shpA, hD]; refine ec_zinO ?_; omega) | (refine ec_nzO ?_; omega)) only [ec_s79_0, ec_s79_1, ec_s79_2, ec_s79_4, ec_s79_7, ec_s79_8, ec_s79_11, ec_s79_12, ec_s79_15, ec_s79_16, ec_s79_19, ec_s79_22, ec_s79_32, ec_s79_33, ec_s79_36, ec_s79_37, ec_s79_40, ec_s79_43, ec_s79_44, ec_s79_47, ec_s79_48, ec_s79_51, ec_s79_52, ec_s79_55, ec_s79_56, ec_s79_59, ec_s79_62, ec_zn0, ec_zn1, ec_zn2, ec_zn3, ec_zn4, ec_zn5, ec_zn6, ec_zn7, ec_zn8, ec_zn9, ec_zn10, ec_zn12, ec_zn13, ec_zn14, ec_zn15, ec_zn16, ec_zn20, ec_zn30, ec_zn48, ec_zn99, ec_zn120, ec_zn127, ec_zn11, ec_zn31, ec_zn46, ec_zn57, ec_zn59, ec_zn63, ec_zn101, ec_zn107, ec_zn108, ec_zn110, ec_zn111, ec_zn115, ec_zn116, ec_zn119, ec_zn167, ec_zn185, ec_zn192, ec_zn215, ec_zn233, ec_zn699, ec_zn932, ec_zn999, ec_znF, ec_zneg, ec_zadd, ec_zsub, ec_zmul, ec_zdivO, ec_em, ec_zltO, ec_zeqO, ec_zeq0, ec_qt, ec_qf, if_pos, if_neg, Int.add_zero, ec_aft_v, ec_aft_n, ec_rwE, ec_rwN, ec_rwP, ec_rwK, ec_rwS, ec_w_shpI, ec_w_shpL, ec_w_shpA, hD, g2, g5, a1, b1, e8]
    · rw [if_neg q2]
      refine ⟨fun e => absurd e (by decide), fun _ => ?_⟩
      have hD := b0
      show ec_om 79 0 _ [] h = some (.inr 1, ec_thw h)
      simp (disch := first | (simp only [ec_w_kI, ec_w_kL, ec_w_kA, ec_w_shpI, ec_w_shpL, ec_w_shpA, ec_isR_r, ec_01z, ec_01o, ec_01q, hD]; done) | omega | (simp only [ec_w_shpI, ec_w_shpL, ec_w_shpA, hD]; refine ec_zinO ?_; omega) | (refine ec_nzO ?_; omega)) only [ec_s79_0, ec_s79_1, ec_s79_2, ec_s79_4, ec_s79_7, ec_s79_8, ec_s79_11, ec_s79_12, ec_s79_15, ec_s79_16, ec_s79_19, ec_s79_22, ec_s79_32, ec_s79_33, ec_s79_36, ec_s79_37, ec_s79_40, ec_s79_43, ec_s79_44, ec_s79_47, ec_s79_48, ec_s79_51, ec_s79_52, ec_s79_55, ec_s79_56, ec_s79_59, ec_s79_62, ec_zn0, ec_zn1, ec_zn2, ec_zn3, ec_zn4, ec_zn5, ec_zn6, ec_zn7, ec_zn8, ec_zn9, ec_zn10, ec_zn12, ec_zn13, ec_zn14, ec_zn15, ec_zn16, ec_zn20, ec_zn30, ec_zn48, ec_zn99, ec_zn120, ec_zn127, ec_zn11, ec_zn31, ec_zn46, ec_zn57, ec_zn59, ec_zn63, ec_zn101, ec_zn107, ec_zn108, ec_zn110, ec_zn111, ec_zn115, ec_zn116, ec_zn119, ec_zn167, ec_zn185, ec_zn192, ec_zn215, ec_zn233, ec_zn699, ec_zn932, ec_zn999, ec_znF, ec_zneg, ec_zadd, ec_zsub, ec_zmul, ec_zdivO, ec_em, ec_zltO, ec_zeqO, ec_zeq0, ec_qt, ec_qf, if_pos, if_neg, Int.add_zero, ec_aft_v, ec_aft_n, ec_rwE, ec_rwN, ec_rwP, ec_rwK, ec_rwS, ec_w_shpI, ec_w_shpL, ec_w_shpA, hD, g2, g5, ec_aft_x]
  · rw [if_neg q1]
    refine ⟨fun e => absurd e (by decide), fun _ => ?_⟩
    have hD := b0
    show ec_om 79 0 _ [] h = some (.inr 0, ec_thw h)
    simp (disch := first | (simp only [ec_w_kI, ec_w_kL, ec_w_kA, ec_w_shpI, ec_w_shpL, ec_w_shpA, ec_isR_r, ec_01z, ec_01o, ec_01q, hD]; done) | omega | (simp only [ec_w_shpI, ec_w_shpL, ec_w_shpA, hD]; refine ec_zinO ?_; omega) | (refine ec_nzO ?_; omega)) only [ec_s79_0, ec_s79_1, ec_s79_2, ec_s79_4, ec_s79_7, ec_s79_8, ec_s79_11, ec_s79_12, ec_s79_15, ec_s79_16, ec_s79_19, ec_s79_22, ec_s79_32, ec_s79_33, ec_s79_36, ec_s79_37, ec_s79_40, ec_s79_43, ec_s79_44, ec_s79_47, ec_s79_48, ec_s79_51, ec_s79_52, ec_s79_55, ec_s79_56, ec_s79_59, ec_s79_62, ec_zn0, ec_zn1, ec_zn2, ec_zn3, ec_zn4, ec_zn5, ec_zn6, ec_zn7, ec_zn8, ec_zn9, ec_zn10, ec_zn12, ec_zn13, ec_zn14, ec_zn15, ec_zn16, ec_zn20, ec_zn30, ec_zn48, ec_zn99, ec_zn120, ec_zn127, ec_zn11, ec_zn31, ec_zn46, ec_zn57, ec_zn59, ec_zn63, ec_zn101, ec_zn107, ec_zn108, ec_zn110, ec_zn111, ec_zn115, ec_zn116, ec_zn119, ec_zn167, ec_zn185, ec_zn192, ec_zn215, ec_zn233, ec_zn699, ec_zn932, ec_zn999, ec_znF, ec_zneg, ec_zadd, ec_zsub, ec_zmul, ec_zdivO, ec_em, ec_zltO, ec_zeqO, ec_zeq0, ec_qt, ec_qf, if_pos, if_neg, Int.add_zero, ec_aft_v, ec_aft_n, ec_rwE, ec_rwN, ec_rwP, ec_rwK, ec_rwS, ec_w_shpI, ec_w_shpL, ec_w_shpA, hD, g5, ec_aft_x]
theorem ec_c81s (C : ed_CL h σ n p L T) {x y d : Int} (rx : ec_rg x) (ry : ec_rg y) (rd : ec_rg d) :
    (ed_kBo σ x y d = 0 → ed_Cn 81 [.ref 0, .int (ec_i x), .int (ec_i y), .int (ec_i d)] h (ec_ba σ (8 * y + x) d) σ n p L T) ∧
    (ed_kBo σ x y d ≠ 0 → ed_Cx 81 [.ref 0, .int (ec_i x), .int (ec_i y), .int (ec_i d)] h (ed_x3 (ed_kBo σ x y d))) := by
  have g1 := ec_c107s C rx ry
  have g12 := fun h => ec_c112s (h := h) (x := x) (y := y)
  have g5 := fun h => ec_c111s (h := h) rd ec_rn0 ec_rn3
  have x0 : ec_nth [] ec_ht 81 = [] := rfl
  have b0 := And.intro C.b x0
  have w := C.2.1.2.2
  unfold ed_kBo
  by_cases q1 : ed_qc σ x y
  · have zi := ed_qc_in w q1
    have z2 := zi.1
    rw [if_pos q1] at g1
    rw [if_pos q1]
    by_cases q2 : 0 ≤ d ∧ d ≤ 3
    · rw [if_pos q2]
      have g3 := ec_c15s C.2.1.1 C.2.1.2.1 (z := 8 * y + x) (d := d) z2 (by omega)
      have bb := ed_bd_hb w zi (d := d) (by omega)
      have br := ed_bd_rg w (z := 8 * y + x) (d := d) (by omega)
      have w1 := w.1
      have g103 : ec_om 103 0 [.ref 0, .int (ec_i (8 * y + x)), .int (ec_i d), .double 0] [] h = some (.inl (some (.int (ec_i (ec_ba σ (8 * y + x) d)))), h) := by
        have hD := b0
        unfold ec_ba
        by_cases q3 : ec_hb σ (8 * y + x) d
        · rw [if_pos q3]
          have e := bb.2 q3
          rw [← e.1]
          generalize ed_bd σ (8 * y + x) d = b at g3 e br
          simp (disch := first | (simp only [ec_w_kI, ec_w_kL, ec_w_kA, ec_w_shpI, ec_w_shpL, ec_w_shpA, ec_isR_r, ec_01z, ec_01o, ec_01q, hD]; done) | omega | (simp only [ec_w_shpI, ec_w_shpL, ec_w_shpA, hD]; refine ec_zinO ?_; omega) | (refine ec_nzO ?_; omega)) only [ec_s103_0, ec_s103_1, ec_s103_4, ec_s103_5, ec_s103_6, ec_s103_9, ec_s103_10, ec_s103_11, ec_s103_12, ec_s103_15, ec_s103_16, ec_s103_19, ec_s103_20, ec_zn0, ec_zn1, ec_zn2, ec_zn3, ec_zn4, ec_zn5, ec_zn6, ec_zn7, ec_zn8, ec_zn9, ec_zn10, ec_zn12, ec_zn13, ec_zn14, ec_zn15, ec_zn16, ec_zn20, ec_zn30, ec_zn48, ec_zn99, ec_zn120, ec_zn127, ec_zn11, ec_zn31, ec_zn46, ec_zn57, ec_zn59, ec_zn63, ec_zn101, ec_zn107, ec_zn108, ec_zn110, ec_zn111, ec_zn115, ec_zn116, ec_zn119, ec_zn167, ec_zn185, ec_zn192, ec_zn215, ec_zn233, ec_zn699, ec_zn932, ec_zn999, ec_znF, ec_zneg, ec_zadd, ec_zsub, ec_zmul, ec_zdivO, ec_em, ec_zltO, ec_zeqO, ec_zeq0, ec_qt, ec_qf, if_pos, if_neg, Int.add_zero, ec_aft_v, ec_aft_n, ec_rwE, ec_rwN, ec_rwP, ec_rwK, ec_rwS, ec_w_shpI, ec_w_shpL, ec_w_shpA, hD, g3]
        · rw [if_neg q3]
          rw [bb.1.mpr q3] at g3
          simp (disch := first | (simp only [ec_w_kI, ec_w_kL, ec_w_kA, ec_w_shpI, ec_w_shpL, ec_w_shpA, ec_isR_r, ec_01z, ec_01o, ec_01q, hD]; done) | omega | (simp only [ec_w_shpI, ec_w_shpL, ec_w_shpA, hD]; refine ec_zinO ?_; omega) | (refine ec_nzO ?_; omega)) only [ec_s103_0, ec_s103_1, ec_s103_4, ec_s103_5, ec_s103_6, ec_s103_9, ec_s103_10, ec_s103_11, ec_s103_12, ec_s103_15, ec_s103_16, ec_s103_19, ec_s103_20, ec_zn0, ec_zn1, ec_zn2, ec_zn3, ec_zn4, ec_zn5, ec_zn6, ec_zn7, ec_zn8, ec_zn9, ec_zn10, ec_zn12, ec_zn13, ec_zn14, ec_zn15, ec_zn16, ec_zn20, ec_zn30, ec_zn48, ec_zn99, ec_zn120, ec_zn127, ec_zn11, ec_zn31, ec_zn46, ec_zn57, ec_zn59, ec_zn63, ec_zn101, ec_zn107, ec_zn108, ec_zn110, ec_zn111, ec_zn115, ec_zn116, ec_zn119, ec_zn167, ec_zn185, ec_zn192, ec_zn215, ec_zn233, ec_zn699, ec_zn932, ec_zn999, ec_znF, ec_zneg, ec_zadd, ec_zsub, ec_zmul, ec_zdivO, ec_em, ec_zltO, ec_zeqO, ec_zeq0, ec_qt, ec_qf, if_pos, if_neg, Int.add_zero, ec_aft_v, ec_aft_n, ec_rwE, ec_rwN, ec_rwP, ec_rwK, ec_rwS, ec_w_shpI, ec_w_shpL, ec_w_shpA, hD, g3]
      refine ⟨fun _ => ⟨h, ?_, C, ec_fg.refl⟩, fun e => absurd rfl e⟩
      have hD := b0
      simp (disch := first | (simp only [ec_w_kI, ec_w_kL, ec_w_kA, ec_w_shpI, ec_w_shpL, ec_w_shpA, ec_isR_r, ec_01z, ec_01o, ec_01q, hD]; done) | omega | (simp only [ec_w_shpI, ec_w_shpL, ec_w_shpA, hD]; refine ec_zinO ?_; omega) | (refine ec_nzO ?_; omega)) only [ec_s81_0, ec_s81_1, ec_s81_2, ec_s81_3, ec_s81_6, ec_s81_7, ec_s81_8, ec_s81_9, ec_s81_12, ec_s81_13, ec_s81_14, ec_s81_15, ec_s81_18, ec_s81_19, ec_s81_22, ec_zn0, ec_zn1, ec_zn2, ec_zn3, ec_zn4, ec_zn5, ec_zn6, ec_zn7, ec_zn8, ec_zn9, ec_zn10, ec_zn12, ec_zn13, ec_zn14, ec_zn15, ec_zn16, ec_zn20, ec_zn30, ec_zn48, ec_zn99, ec_zn120, ec_zn127, ec_zn11, ec_zn31, ec_zn46, ec_zn57, ec_zn59, ec_zn63, ec_zn101, ec_zn107, ec_zn108, ec_zn110, ec_zn111, ec_zn115, ec_zn116, ec_zn119, ec_zn167, ec_zn185, ec_zn192, ec_zn215, ec_zn233, ec_zn699, ec_zn932, ec_zn999, ec_znF, ec_zneg, ec_zadd, ec_zsub, ec_zmul, ec_zdivO, ec_em, ec_zltO, ec_zeqO, ec_zeq0, ec_qt, ec_qf, if_pos, if_neg, Int.add_zero, ec_aft_v, ec_aft_n, ec_rwE, ec_rwN, ec_rwP, ec_rwK, ec_rwS, ec_w_shpI, ec_w_shpL, ec_w_shpA, hD, g1, g5, g12, g103]
    · rw [if_neg q2]
      refine ⟨fun e => absurd e (by decide), fun _ => ?_⟩
      have hD := b0
      show ec_om 81 0 _ [] h = some (.inr 0, ec_thw h)
      simp (disch := first | (simp only [ec_w_kI, ec_w_kL, ec_w_kA, ec_w_shpI, ec_w_shpL, ec_w_shpA, ec_isR_r, ec_01z, ec_01o, ec_01q, hD]; done) | omega | (simp only [ec_w_shpI, ec_w_shpL, ec_w_shpA, hD]; refine ec_zinO ?_; omega) | (refine ec_nzO ?_; omega)) only [ec_s81_0, ec_s81_1, ec_s81_2, ec_s81_3, ec_s81_6, ec_s81_7, ec_s81_8, ec_s81_9, ec_s81_12, ec_s81_13, ec_s81_14, ec_s81_15, ec_s81_18, ec_s81_19, ec_s81_22, ec_zn0, ec_zn1, ec_zn2, ec_zn3, ec_zn4, ec_zn5, ec_zn6, ec_zn7, ec_zn8, ec_zn9, ec_zn10, ec_zn12, ec_zn13, ec_zn14, ec_zn15, ec_zn16, ec_zn20, ec_zn30, ec_zn48, ec_zn99, ec_zn120, ec_zn127, ec_zn11, ec_zn31, ec_zn46, ec_zn57, ec_zn59, ec_zn63, ec_zn101, ec_zn107, ec_zn108, ec_zn110, ec_zn111, ec_zn115, ec_zn116, ec_zn119, ec_zn167, ec_zn185, ec_zn192, ec_zn215, ec_zn233, ec_zn699, ec_zn932, ec_zn999, ec_znF, ec_zneg, ec_zadd, ec_zsub, ec_zmul, ec_zdivO, ec_em, ec_zltO, ec_zeqO, ec_zeq0, ec_qt, ec_qf, if_pos, if_neg, Int.add_zero, ec_aft_v, ec_aft_n, ec_rwE, ec_rwN, ec_rwP, ec_rwK, ec_rwS, ec_w_shpI, ec_w_shpL, ec_w_shpA, hD, g1, g5, ec_aft_x]
  · rw [if_neg q1] at g1
    rw [if_neg q1]
    refine ⟨fun e => absurd e (by decide), fun _ => ?_⟩
    have hD := b0
    show ec_om 81 0 _ [] h = some (.inr 2, ec_thw h)
    simp (disch := first | (simp only [ec_w_kI, ec_w_kL, ec_w_kA, ec_w_shpI, ec_w_shpL, ec_w_shpA, ec_isR_r, ec_01z, ec_01o, ec_01q, hD]; done) | omega | (simp only [ec_w_shpI, ec_w_shpL, ec_w_shpA, hD]; refine ec_zinO ?_; omega) | (refine ec_nzO ?_; omega)) only [ec_s81_0, ec_s81_1, ec_s81_2, ec_s81_3, ec_s81_6, ec_s81_7, ec_s81_8, ec_s81_9, ec_s81_12, ec_s81_13, ec_s81_14, ec_s81_15, ec_s81_18, ec_s81_19, ec_s81_22, ec_zn0, ec_zn1, ec_zn2, ec_zn3, ec_zn4, ec_zn5, ec_zn6, ec_zn7, ec_zn8, ec_zn9, ec_zn10, ec_zn12, ec_zn13, ec_zn14, ec_zn15, ec_zn16, ec_zn20, ec_zn30, ec_zn48, ec_zn99, ec_zn120, ec_zn127, ec_zn11, ec_zn31, ec_zn46, ec_zn57, ec_zn59, ec_zn63, ec_zn101, ec_zn107, ec_zn108, ec_zn110, ec_zn111, ec_zn115, ec_zn116, ec_zn119, ec_zn167, ec_zn185, ec_zn192, ec_zn215, ec_zn233, ec_zn699, ec_zn932, ec_zn999, ec_znF, ec_zneg, ec_zadd, ec_zsub, ec_zmul, ec_zdivO, ec_em, ec_zltO, ec_zeqO, ec_zeq0, ec_qt, ec_qf, if_pos, if_neg, Int.add_zero, ec_aft_v, ec_aft_n, ec_rwE, ec_rwN, ec_rwP, ec_rwK, ec_rwS, ec_w_shpI, ec_w_shpL, ec_w_shpA, hD, g1, ec_aft_x]
end EDL
