/-! The whole state, and the law's questions of the class. -/
def ed_ST (h : ec_Hp) (σ : ec_Sg) (n : Int) (p : Int → ec_Sg) (T : Int → Int) : Prop := ed_CL h σ n p 0 T ∧ ed_LD h ∧ ed_LA h σ ∧ ed_L4 σ
theorem ed_ST.W {h : ec_Hp} {σ : ec_Sg} {n : Int} {p : Int → ec_Sg} {T : Int → Int} (S : ed_ST h σ n p T) : ec_WF σ := S.1.2.1.2.2
theorem ed_ST.k {h : ec_Hp} {σ : ec_Sg} {n : Int} {p : Int → ec_Sg} {T : Int → Int} (S : ed_ST h σ n p T) : ec_isK h 0 6 = true := S.1.1.1.1
/-- behind a call of the class -/
theorem ed_ST.c {h h' : ec_Hp} {σ' : ec_Sg} {n' : Int} {p' : Int → ec_Sg} {T' : Int → Int} (D : ed_LD h) (A : ed_LA h σ') (B : ed_L4 σ') (C : ed_CL h' σ' n' p' 0 T') (f : ec_fg ed_Fc h h') : ed_ST h' σ' n' p' T' :=
  ⟨C, D.of f.1.1, A.eq (fun q j hq => f.2 q j (fun y => by have y : q ≤ 71 := y; omega)), B⟩
theorem ed_x3_1 : ed_x3 1 = 2 := rfl
theorem ed_x3_2 : ed_x3 2 = 0 := rfl
theorem ed_x3_3 : ed_x3 3 = 1 := rfl
theorem ed_CL.gz {h h' : ec_Hp} {σ : ec_Sg} {n : Int} {p : Int → ec_Sg} {L : Int} {T : Int → Int} (C : ed_CL h σ n p L T) (e1 : ∀ q, q ≤ 71 → ec_shp h' q = ec_shp h q) (e2 : ∀ q j, q ≤ 71 → h'.2.1 q j = h.2.1 q j) : ed_CL h' σ n p L T := by
  have at_ : ∀ q, q ≤ 71 → ed_at q h h' := fun q hq => ⟨e1 q hq, fun j => e2 q j hq⟩
  obtain ⟨⟨⟨x1, x2⟩, ⟨x3, x4⟩, x5, x6⟩, ⟨c2, c2b, c2c⟩, c3, c4, c5, c6, c7⟩ := C
  refine ⟨⟨⟨ec_isK.at_ x1 (at_ 0 (by omega)), by rw [e1 0 (by omega)]; exact x2⟩, ⟨ec_isK.at_ x3 (at_ 70 (by omega)), by rw [e1 70 (by omega)]; exact x4⟩, ec_isK.at_ x5 (at_ 71 (by omega)), by rw [e1 71 (by omega)]; exact x6⟩, ⟨c2.at_ (fun q x y => at_ q (by omega)), c2b.eq (fun q j x y => e2 q j (by omega)), c2c⟩, c3.at_ (fun q x y => at_ q (by omega)), ?_, c5.at_ (fun q x y => at_ q (by omega)), ⟨?_, c6.2.at_ (fun q x y => at_ q (by omega))⟩, ⟨(e2 70 1 (by omega)).trans c7.1, c7.2.1, fun i hi => ⟨(e2 71 _ (by omega)).trans (c7.2.2 i hi).1, (c7.2.2 i hi).2⟩⟩⟩
  · obtain ⟨⟨⟨y1, y2⟩, ⟨y3, y4⟩, y5⟩, ⟨d1, d2, d3, d4⟩, nx, n1, n2, n3, n4, hR⟩ := c4
    refine ⟨⟨⟨ec_isK.at_ y1 (at_ 21 (by omega)), by rw [e1 21 (by omega)]; exact y2⟩, ⟨ec_isK.at_ y3 (at_ 22 (by omega)), by rw [e1 22 (by omega)]; exact y4⟩, by rw [e1 22 (by omega)]; exact y5⟩, ⟨d1.at_ (fun q x y => at_ q (by omega)), d2.at_ (fun q x y => at_ q (by omega)), d3.at_ (fun q x y => at_ q (by omega)), d4.at_ (fun q x y => at_ q (by omega))⟩, nx, n1, n2, (e2 21 1 (by omega)).trans n3, (e2 21 2 (by omega)).trans n4, fun i hi => ⟨(hR i hi).1, (hR i hi).2.eq (fun q j x y => e2 q j ?_)⟩⟩
    rcases ed_rp_c (i := nx - n + i) with e | e | e | e <;> omega
  · obtain ⟨⟨z1, z2, z3⟩, -⟩ := c6
    exact ⟨ec_isK.at_ z1 (at_ 66 (by omega)), by rw [e1 66 (by omega)]; exact z2, ec_isK.at_ z3 (at_ 67 (by omega))⟩
theorem ed_ST.gr {S : Nat → Prop} {k : Nat} {h h' : ec_Hp} {σ : ec_Sg} {n : Int} {p : Int → ec_Sg} {T : Int → Int} (a : ed_ST h σ n p T) (g : ed_gz S k h h') (s : ∀ q, q ≤ 78 → ¬ S q) : ed_ST h' σ n p T := by
  have ln := a.2.1.len
  exact ⟨a.1.gz (fun q hq => g.shp (by omega)) (fun q j hq => g.2.1 q j (by omega) (s q (by omega))), a.2.1.gr g, a.2.2.1.gr ln g (fun q hq => s q hq.2), a.2.2.2⟩
section EDS
variable {h : ec_Hp} {σ : ec_Sg} {n : Int} {p : Int → ec_Sg} {T : Int → Int}
theorem ec_v139 (S : ed_ST h σ n p T) {z d : Int} (hz : ec_ing σ z) (hd : 0 ≤ d ∧ d < 4) : ∃ h', ec_om 139 0 [.ref 0, .int (ec_i (z % 8)), .int (ec_i (z / 8)), .int (ec_i d), .double 0] [] h = some (.inl (some (.int (ec_i (ec_ba σ z d)))), h') ∧ ed_ST h' σ n p T ∧ ec_fg ed_Fc h h' := by
  have zz := hz
  unfold ec_ing at zz
  have w1 := S.W.1
  have C := (ec_c81s S.1 (x := z % 8) (y := z / 8) (d := d) (by unfold ec_rg; omega) (by unfold ec_rg; omega) (by unfold ec_rg; omega)).1 (by unfold ed_kBo; rw [if_pos (by unfold ed_qc; omega), if_pos (by omega)])
  rw [show 8 * (z / 8) + z % 8 = z by omega] at C
  obtain ⟨h', c1, c2, c3⟩ := C
  exact ⟨h', (ec_q139 S.k).1 _ _ c1, ed_ST.c S.2.1 S.2.2.1 S.2.2.2 c2 c3, c3⟩
theorem ec_v140 (S : ed_ST h σ n p T) {z d : Int} (hz : ec_ing σ z) (hd : 0 ≤ d ∧ d < 4) : ∃ h', ec_om 140 0 [.ref 0, .int (ec_i (z % 8)), .int (ec_i (z / 8)), .int (ec_i d), .double 0] [] h = some (.inl (some (.int (ec_i (ed_cel σ z d)))), h') ∧ ed_ST h' σ n p T ∧ ec_fg ed_Fc h h' := by
  have zz := hz
  unfold ec_ing at zz
  have w1 := S.W.1
  have C := (ec_c82s S.1 (x := z % 8) (y := z / 8) (u := d) (by unfold ec_rg; omega) (by unfold ec_rg; omega) (by unfold ec_rg; omega)).1 (by unfold ed_kCe; rw [if_pos (by unfold ed_qc; omega), if_pos (by omega)])
  rw [show 8 * (z / 8) + z % 8 = z by omega] at C
  obtain ⟨h', c1, c2, c3⟩ := C
  exact ⟨h', (ec_q140 S.k).1 _ _ c1, ed_ST.c S.2.1 S.2.2.1 S.2.2.2 c2 c3, c3⟩
theorem ec_v141 (S : ed_ST h σ n p T) {k : Int} (hk : 0 ≤ k ∧ k < 6 * σ 2) : ∃ h', ec_om 141 0 [.ref 0, .int (ec_i (k / 6)), .int (ec_i (k % 6)), .double 0] [] h = some (.inl (some (.int (ec_i (σ (107 + k))))), h') ∧ ed_ST h' σ n p T ∧ ec_fg ed_Fc h h' := by
  have w1 := S.W.1
  have C := (ec_c83s S.1 (d := k / 6) (u := k % 6) (by unfold ec_rg; omega) (by unfold ec_rg; omega)).1 (by unfold ed_kVa; rw [if_pos (by omega), if_pos (by omega)])
  rw [show 107 + 6 * (k / 6) + k % 6 = 107 + k by omega] at C
  obtain ⟨h', c1, c2, c3⟩ := C
  exact ⟨h', (ec_q141 S.k).1 _ _ c1, ed_ST.c S.2.1 S.2.2.1 S.2.2.2 c2 c3, c3⟩
theorem ec_v142 (S : ed_ST h σ n p T) {k u : Int} (hk : 0 ≤ k ∧ k < σ 3) (hu : 0 ≤ u ∧ u ≤ 3) : ∃ h', ec_om 142 0 [.ref 0, .int (ec_i k), .int (ec_i u), .double 0] [] h = some (.inl (some (.int (ec_i (ed_tov σ (167 + 3 * k) u)))), h') ∧ ed_ST h' σ n p T ∧ ec_fg ed_Fc h h' := by
  have w1 := S.W.1
  obtain ⟨h', c1, c2, c3⟩ := (ec_c84s S.1 (d := k) (u := u) (by unfold ec_rg; omega) (by unfold ec_rg; omega)).1 (by unfold ed_kVa; rw [if_pos (by omega), if_pos (by omega)])
  exact ⟨h', (ec_q142 S.k).1 _ _ c1, ed_ST.c S.2.1 S.2.2.1 S.2.2.2 c2 c3, c3⟩
theorem ec_v143 (S : ed_ST h σ n p T) {k u : Int} (hk : 0 ≤ k ∧ k < σ 4) (hu : 0 ≤ u ∧ u ≤ 7) : ∃ h', ec_om 143 0 [.ref 0, .int (ec_i k), .int (ec_i u), .double 0] [] h = some (.inl (some (.int (ec_i (ed_mov σ k u)))), h') ∧ ed_ST h' σ n p T ∧ ec_fg ed_Fc h h' := by
  have w1 := S.W.1
  obtain ⟨h', c1, c2, c3⟩ := (ec_c85s S.1 (d := k) (u := u) (by unfold ec_rg; omega) (by unfold ec_rg; omega)).1 (by unfold ed_kVa; rw [if_pos (by omega), if_pos (by omega)])
  exact ⟨h', (ec_q143 S.k).1 _ _ c1, ed_ST.c S.2.1 S.2.2.1 S.2.2.2 c2 c3, c3⟩
theorem ec_v144 (S : ed_ST h σ n p T) {k u : Int} (hk : 0 ≤ k ∧ k < σ 5) (hu : 0 ≤ u ∧ u ≤ 3) : ∃ h', ec_om 144 0 [.ref 0, .int (ec_i k), .int (ec_i u), .double 0] [] h = some (.inl (some (.int (ec_i (ed_tov σ (215 + 3 * k) u)))), h') ∧ ed_ST h' σ n p T ∧ ec_fg ed_Fc h h' := by
  have w1 := S.W.1
  obtain ⟨h', c1, c2, c3⟩ := (ec_c86s S.1 (d := k) (u := u) (by unfold ec_rg; omega) (by unfold ec_rg; omega)).1 (by unfold ed_kVa; rw [if_pos (by omega), if_pos (by omega)])
  exact ⟨h', (ec_q144 S.k).1 _ _ c1, ed_ST.c S.2.1 S.2.2.1 S.2.2.2 c2 c3, c3⟩
theorem ec_v145 (S : ed_ST h σ n p T) {u : Int} (hu : 0 ≤ u ∧ u ≤ 13) : ∃ h', ec_om 145 0 [.ref 0, .int (ec_i u), .double 0] [] h = some (.inl (some (.int (ec_i (ed_whv σ 0 u)))), h') ∧ ed_ST h' σ n p T ∧ ec_fg ed_Fc h h' := by
  obtain ⟨h', c1, c2, c3⟩ := (ec_c87s S.1 (u := u) (by unfold ec_rg; omega)).1 (by unfold ed_kWh; rw [if_pos (by omega)])
  exact ⟨h', (ec_q145 S.k).1 _ _ c1, ed_ST.c S.2.1 S.2.2.1 S.2.2.2 c2 c3, c3⟩
/-! refused questions -/
theorem ec_x139 (S : ed_ST h σ n p T) {x y d : Int} (rx : ec_rg x) (ry : ec_rg y) (rd : ec_rg d) : (ed_kBo σ x y d = 1 → ∃ h', ec_om 139 0 [.ref 0, .int (ec_i x), .int (ec_i y), .int (ec_i d), .double 0] [] h = some (.inl (some (.int (ec_i (-2001)))), h') ∧ ed_ST h' σ n p T ∧ ed_gz (fun _ => False) 1 h h') ∧ (ed_kBo σ x y d = 2 → ∃ h', ec_om 139 0 [.ref 0, .int (ec_i x), .int (ec_i y), .int (ec_i d), .double 0] [] h = some (.inl (some (.int (ec_i (-2002)))), h') ∧ ed_ST h' σ n p T ∧ ed_gz (fun _ => False) 1 h h') := by
  have C := (ec_c81s S.1 rx ry rd).2
  refine ⟨fun e => ⟨ec_thw h, (ec_q139 S.k).2.1 ?_, S.gr (S := fun _ => False) ed_gz.thw (fun _ _ y => y), ed_gz.thw⟩, fun e => ⟨ec_thw h, (ec_q139 S.k).2.2 ?_, S.gr (S := fun _ => False) ed_gz.thw (fun _ _ y => y), ed_gz.thw⟩⟩
  · have c := C (by omega)
    rw [e] at c
    exact c
  · have c := C (by omega)
    rw [e] at c
    exact c
theorem ec_x140 (S : ed_ST h σ n p T) {x y d : Int} (rx : ec_rg x) (ry : ec_rg y) (rd : ec_rg d) : (ed_kCe σ x y d = 1 → ∃ h', ec_om 140 0 [.ref 0, .int (ec_i x), .int (ec_i y), .int (ec_i d), .double 0] [] h = some (.inl (some (.int (ec_i (-2001)))), h') ∧ ed_ST h' σ n p T ∧ ed_gz (fun _ => False) 1 h h') ∧ (ed_kCe σ x y d = 2 → ∃ h', ec_om 140 0 [.ref 0, .int (ec_i x), .int (ec_i y), .int (ec_i d), .double 0] [] h = some (.inl (some (.int (ec_i (-2002)))), h') ∧ ed_ST h' σ n p T ∧ ed_gz (fun _ => False) 1 h h') := by
  have C := (ec_c82s S.1 rx ry rd).2
  refine ⟨fun e => ⟨ec_thw h, (ec_q140 S.k).2.1 ?_, S.gr (S := fun _ => False) ed_gz.thw (fun _ _ y => y), ed_gz.thw⟩, fun e => ⟨ec_thw h, (ec_q140 S.k).2.2 ?_, S.gr (S := fun _ => False) ed_gz.thw (fun _ _ y => y), ed_gz.thw⟩⟩
  · have c := C (by omega)
    rw [e] at c
    exact c
  · have c := C (by omega)
    rw [e] at c
    exact c
theorem ec_x145 (S : ed_ST h σ n p T) : ∃ h', ec_om 145 0 [.ref 0, .int (ec_i 14), .double 0] [] h = some (.inl (some (.int (ec_i (-2002)))), h') ∧ ed_ST h' σ n p T ∧ ed_gz (fun _ => False) 1 h h' := by
  have e : ed_kWh 14 = 1 := rfl
  have c := (ec_c87s S.1 (u := 14) (by unfold ec_rg; omega)).2 (by rw [e]; decide)
  rw [e] at c
  exact ⟨ec_thw h, (ec_q145 S.k).2 c, S.gr (S := fun _ => False) ed_gz.thw (fun _ _ y => y), ed_gz.thw⟩
theorem ec_x141 (S : ed_ST h σ n p T) : ∃ h', ec_om 141 0 [.ref 0, .int (ec_i (σ 2)), .int (ec_i 0), .double 0] [] h = some (.inl (some (.int (ec_i (-2001)))), h') ∧ ed_ST h' σ n p T ∧ ed_gz (fun _ => False) 1 h h' := by
  have w1 := S.W.1
  have e : ed_kVa (σ 2) (σ 2) 0 5 = 1 := by
    unfold ed_kVa
    rw [if_neg (by omega)]
  have c := (ec_c83s S.1 (d := σ 2) (u := 0) (by unfold ec_rg; omega) (by unfold ec_rg; omega)).2 (by rw [e]; decide)
  rw [e] at c
  exact ⟨ec_thw h, (ec_q141 S.k).2.1 c, S.gr (S := fun _ => False) ed_gz.thw (fun _ _ y => y), ed_gz.thw⟩
theorem ec_x142 (S : ed_ST h σ n p T) : ∃ h', ec_om 142 0 [.ref 0, .int (ec_i (σ 3)), .int (ec_i 0), .double 0] [] h = some (.inl (some (.int (ec_i (-2001)))), h') ∧ ed_ST h' σ n p T ∧ ed_gz (fun _ => False) 1 h h' := by
  have w1 := S.W.1
  have e : ed_kVa (σ 3) (σ 3) 0 3 = 1 := by
    unfold ed_kVa
    rw [if_neg (by omega)]
  have c := (ec_c84s S.1 (d := σ 3) (u := 0) (by unfold ec_rg; omega) (by unfold ec_rg; omega)).2 (by rw [e]; decide)
  rw [e] at c
  exact ⟨ec_thw h, (ec_q142 S.k).2.1 c, S.gr (S := fun _ => False) ed_gz.thw (fun _ _ y => y), ed_gz.thw⟩
theorem ec_x143 (S : ed_ST h σ n p T) : ∃ h', ec_om 143 0 [.ref 0, .int (ec_i (σ 4)), .int (ec_i 0), .double 0] [] h = some (.inl (some (.int (ec_i (-2001)))), h') ∧ ed_ST h' σ n p T ∧ ed_gz (fun _ => False) 1 h h' := by
  have w1 := S.W.1
  have e : ed_kVa (σ 4) (σ 4) 0 7 = 1 := by
    unfold ed_kVa
    rw [if_neg (by omega)]
  have c := (ec_c85s S.1 (d := σ 4) (u := 0) (by unfold ec_rg; omega) (by unfold ec_rg; omega)).2 (by rw [e]; decide)
  rw [e] at c
  exact ⟨ec_thw h, (ec_q143 S.k).2.1 c, S.gr (S := fun _ => False) ed_gz.thw (fun _ _ y => y), ed_gz.thw⟩
theorem ec_x144 (S : ed_ST h σ n p T) : ∃ h', ec_om 144 0 [.ref 0, .int (ec_i (σ 5)), .int (ec_i 0), .double 0] [] h = some (.inl (some (.int (ec_i (-2001)))), h') ∧ ed_ST h' σ n p T ∧ ed_gz (fun _ => False) 1 h h' := by
  have w1 := S.W.1
  have e : ed_kVa (σ 5) (σ 5) 0 3 = 1 := by
    unfold ed_kVa
    rw [if_neg (by omega)]
  have c := (ec_c86s S.1 (d := σ 5) (u := 0) (by unfold ec_rg; omega) (by unfold ec_rg; omega)).2 (by rw [e]; decide)
  rw [e] at c
  exact ⟨ec_thw h, (ec_q144 S.k).2.1 c, S.gr (S := fun _ => False) ed_gz.thw (fun _ _ y => y), ed_gz.thw⟩
end EDS
