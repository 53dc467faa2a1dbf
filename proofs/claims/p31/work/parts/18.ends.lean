/-! Rows that make cells, call, return or throw. -/
def ec_rt1 (μ : Nat) : Bool := match (ec_mr μ).2.2.2.1, ec_re μ with
  | 0, none => true
  | 1, some .int => true
  | 2, some .boolean => true
  | 3, some .long => true
  | 4, some (.object _) => true
  | _, _ => false
theorem ec_rt_0 {μ : Nat} (h : ec_rt1 μ = true) (h0 : (ec_mr μ).2.2.2.1 = 0) : ec_re μ = none := by
  unfold ec_rt1 at h
  rw [h0] at h
  split at h <;> first | assumption | (rename_i z _; cases z; done) | (rename_i z; cases z; done) | (cases h; done)
theorem ec_rt_1 {μ : Nat} (h : ec_rt1 μ = true) (h0 : (ec_mr μ).2.2.2.1 = 1) : ec_re μ = some .int := by
  unfold ec_rt1 at h
  rw [h0] at h
  split at h <;> first | assumption | (rename_i z _; cases z; done) | (rename_i z; cases z; done) | (cases h; done)
theorem ec_rt_2 {μ : Nat} (h : ec_rt1 μ = true) (h0 : (ec_mr μ).2.2.2.1 = 2) : ec_re μ = some .boolean := by
  unfold ec_rt1 at h
  rw [h0] at h
  split at h <;> first | assumption | (rename_i z _; cases z; done) | (rename_i z; cases z; done) | (cases h; done)
theorem ec_rt_3 {μ : Nat} (h : ec_rt1 μ = true) (h0 : (ec_mr μ).2.2.2.1 = 3) : ec_re μ = some .long := by
  unfold ec_rt1 at h
  rw [h0] at h
  split at h <;> first | assumption | (rename_i z _; cases z; done) | (rename_i z; cases z; done) | (cases h; done)
theorem ec_rt_4 {μ : Nat} (h : ec_rt1 μ = true) (h0 : (ec_mr μ).2.2.2.1 = 4) : ∃ C, ec_re μ = some (.object C) := by
  unfold ec_rt1 at h
  rw [h0] at h
  split at h <;> first | exact ⟨_, by assumption⟩ | (rename_i z _; cases z; done) | (rename_i z; cases z; done) | (cases h; done)
theorem ec_a_end {Rt : ec_Rt} {G : Nat → List Value → List Value → ec_Hp → Option (ec_Out × ec_Hp)} {μ pc : Nat} {b : Bool} {o1 o : ec_Out} {g h' : ec_Hp} (hr : ec_act Rt G μ pc (.inl (b, o1, g)) = some (o, h')) : b = true ∧ o = o1 ∧ h' = g := by
  cases b with
  | true => cases hr; exact ⟨rfl, rfl, rfl⟩
  | false => cases hr
theorem ec_aft_hl {n μ pc nx : Nat} {ls rest : List Value} {o2 o : ec_Out} {h2 h' : ec_Hp} (hr : ec_aft (ec_run n) μ pc nx ls rest (some (o2, h2)) = some (o, h')) : ec_hl h2 h' := by
  cases o2 with
  | inl v => exact ec_run_hl n hr
  | inr x =>
    simp only [ec_aft] at hr
    split at hr
    · exact ec_run_hl n hr
    · cases hr; exact ec_hl_refl _
section ECE
variable {p : Program} {l : Launch} {e : Env} {R : Room} {s : State} {m : MethodId} {args : Array Value} {below : List Frame} {meth : Method} {c : Code} {D : va_G} {ty : Nat → Nat} {L b : Nat} {xs : Nat → Int32} {A : Nat → Prop} {r0 : Nat → Nat} {N0 nc0 ns0 nL mc0 ms0 : Nat} {o : ec_Out} {h' : ec_Hp} {Q : State → Prop} {μ n : Nat}
variable {ls st ls' st' : List Value} {h h1 : ec_Hp} {r : Nat → Nat} {H H1 : Heap} {locs locs1 : List Loc} {cells slots : Nat} {lr lr' : Array Slot} {sr sr' : List Value}
/-- a new cell -/
theorem ec_St.mk {kd k q : Nat} (h0 : ec_St s D ty L b xs A nL r0 N0 nc0 ns0 ls st h r H locs cells slots lr sr) (hn : kd < 7 → k = ec_N kd) (h3 : ec_SR r h.1.length b st' sr') (q1 : va_P D ec_cl (ec_ws ty (ec_nr r h.1.length q) (ec_mk h kd k)) H1) (q2 : va_D A (ec_ws ty (ec_nr r h.1.length q) (ec_mk h kd k))) (q3 : va_S A s.heap H1 locs) :
    ec_St s D ty L b xs A nL r0 N0 nc0 ns0 ls (.ref h.1.length :: st') (ec_mk h kd k) (ec_nr r h.1.length q) H1 locs (cells + 1) (slots + k) lr (.ref q :: sr') := by
  obtain ⟨⟨hs, -⟩, g2, -, g4, g5, g6, g7, g8⟩ := h0
  have hl : (ec_mk h kd k).1.length = h.1.length + 1 := by simp [ec_mk]
  have hr : ∀ j, j < h.1.length → ec_nr r h.1.length q j = r j := fun j hj => by unfold ec_nr; rw [if_neg (Nat.ne_of_lt hj)]
  refine ⟨⟨ec_sv_mk hs hn, q1, q2, q3⟩, ?_, ⟨⟨by rw [hl]; exact Nat.lt_succ_self _, by unfold ec_nr; rw [if_pos rfl]⟩, ?_⟩, fun j hj => (hr j (Nat.lt_of_lt_of_le hj g5)).trans (g4 j hj), by rw [hl]; exact Nat.le_succ_of_le g5, ?_, ?_, g8⟩
  · exact ec_LR_mono (by rw [hl]; exact Nat.le_succ _) hr g2
  · exact ec_SR_mono (by rw [hl]; exact Nat.le_succ _) hr h3
  · show cells + 1 + nc0 = h.2.2.2.1 + 1
    omega
  · show slots + k + ns0 = h.2.2.2.2.1 + k
    omega
theorem ec_do_35 (hC : ec_Cx p l R s m args meth c D ty L b xs A μ) (hm : h'.2.2.2.1 = nc0 + mc0) (hn : h'.2.2.2.2.1 = ns0 + ms0) (hmc : mc0 ≤ R.cells) (hms : ms0 ≤ R.slots) (ihn : ec_Gl p l e R s m args below meth c D ty L b xs A r0 N0 nc0 ns0 o h' Q μ n) : ec_Do p l e R s m args below meth c D ty L b xs A r0 N0 nc0 ns0 o h' Q μ n 35 := by
  intro pc nx a b' c' v j k ls st h r H locs cells slots lr sr hr hSt hd hok
  obtain ⟨hx, hb, hml, hown, hts, hE, hA, -⟩ := hC
  obtain ⟨hs, hP, hD, hS⟩ := hSt.wd
  replace hr : ec_run n μ nx ls (.ref h.1.length :: st) (ec_mk h a (ec_nth [] ec_ft a).length) = some (o, h') := hr
  have g6 : cells + nc0 = h.2.2.2.1 := hSt.2.2.2.2.2.1
  have g7 : slots + ns0 = h.2.2.2.2.1 := hSt.2.2.2.2.2.2.1
  obtain ⟨-, l2, l3, -⟩ := ec_run_hl n hr
  replace l2 : h.2.2.2.1 + 1 ≤ h'.2.2.2.1 := l2
  replace l3 : h.2.2.2.2.1 + (ec_nth [] ec_ft a).length ≤ h'.2.2.2.2.1 := l3
  exact ec_r35 hx hb hown hts hE.1 hA hs hP hD hS hd hok (by omega) (by omega) (fun ha q H1 q1 q2 q3 => ihn nx ls _ _ _ H1 locs _ _ lr _ hr (hSt.mk (fun h9 => ec_len_ok a h9) hSt.hsr q1 q2 q3))
theorem ec_do_37 (hC : ec_Cx p l R s m args meth c D ty L b xs A μ) (hm : h'.2.2.2.1 = nc0 + mc0) (hn : h'.2.2.2.2.1 = ns0 + ms0) (hmc : mc0 ≤ R.cells) (hms : ms0 ≤ R.slots) (ihn : ec_Gl p l e R s m args below meth c D ty L b xs A r0 N0 nc0 ns0 o h' Q μ n) : ec_Do p l e R s m args below meth c D ty L b xs A r0 N0 nc0 ns0 o h' Q μ n 37 := by
  intro pc nx a b' c' v j k ls st h r H locs cells slots lr sr hr hSt hd hok
  obtain ⟨hx, hb, hml, hown, hts, hE, hA, -⟩ := hC
  obtain ⟨hs, hP, hD, hS⟩ := hSt.wd
  replace hr : ec_act (ec_run n) (ec_run n μ) μ pc (match (generalizing := false) st with
        | .int n :: st => ec_chk (decide (0 ≤ n) && Nat.ble n.toNatClampNeg 5000) nx ls (.ref h.1.length :: st) (ec_mk h (16 + a) n.toNatClampNeg)
        | _ => ec_fail h) = some (o, h') := hr
  split at hr
  · obtain ⟨w1, m1, rfl, e1, hsr⟩ := ec_SR_cons hSt.hsr
    cases e1
    have hk := (ec_a_chk hr).1
    replace hr := (ec_a_chk hr).2
    have hk2 := (ec_bt_and hk).2
    replace hk := (ec_bt_and hk).1
    have g6 : cells + nc0 = h.2.2.2.1 := hSt.2.2.2.2.2.1
    have g7 : slots + ns0 = h.2.2.2.2.1 := hSt.2.2.2.2.2.2.1
    rename_i z st2
    obtain ⟨-, l2, l3, -⟩ := ec_run_hl n hr
    replace l2 : h.2.2.2.1 + 1 ≤ h'.2.2.2.1 := l2
    replace l3 : h.2.2.2.2.1 + z.toNatClampNeg ≤ h'.2.2.2.2.1 := l3
    exact ec_r37 hx hb hts hE.1 hA hs hP hD hS hd hok (of_decide_eq_true hk) (Nat.le_of_ble_eq_true hk2) (by omega) (by omega) (fun q H1 q1 q2 q3 => ihn nx ls _ _ _ H1 locs _ _ lr _ hr (hSt.mk (fun h9 => absurd h9 (by omega)) hsr q1 q2 q3))
  · exact (ec_a_fail hr).elim
theorem ec_do_38 (hC : ec_Cx p l R s m args meth c D ty L b xs A μ) (hm : h'.2.2.2.1 = nc0 + mc0) (hn : h'.2.2.2.2.1 = ns0 + ms0) (hmc : mc0 ≤ R.cells) (hms : ms0 ≤ R.slots) (ihn : ec_Gl p l e R s m args below meth c D ty L b xs A r0 N0 nc0 ns0 o h' Q μ n) : ec_Do p l e R s m args below meth c D ty L b xs A r0 N0 nc0 ns0 o h' Q μ n 38 := by
  intro pc nx a b' c' v j k ls st h r H locs cells slots lr sr hr hSt hd hok
  obtain ⟨hx, hb, hml, hown, hts, hE, hA, -⟩ := hC
  obtain ⟨hs, hP, hD, hS⟩ := hSt.wd
  obtain ⟨hK, hNw, hNc, hTx, hAO, -⟩ := hE
  replace hr : ec_act (ec_run n) (ec_run n μ) μ pc (match (generalizing := false) st with
        | .int n :: st => ec_chk (decide (0 ≤ n) && Nat.ble n.toNatClampNeg 5000) nx ls (.ref h.1.length :: st) (ec_mk h 20 n.toNatClampNeg)
        | _ => ec_fail h) = some (o, h') := hr
  split at hr
  · obtain ⟨w1, m1, rfl, e1, hsr⟩ := ec_SR_cons hSt.hsr
    cases e1
    have hk := (ec_a_chk hr).1
    replace hr := (ec_a_chk hr).2
    have hk2 := (ec_bt_and hk).2
    replace hk := (ec_bt_and hk).1
    have g6 : cells + nc0 = h.2.2.2.1 := hSt.2.2.2.2.2.1
    have g7 : slots + ns0 = h.2.2.2.2.1 := hSt.2.2.2.2.2.2.1
    rename_i z st2
    obtain ⟨-, l2, l3, -⟩ := ec_run_hl n hr
    replace l2 : h.2.2.2.1 + 1 ≤ h'.2.2.2.1 := l2
    replace l3 : h.2.2.2.2.1 + z.toNatClampNeg ≤ h'.2.2.2.2.1 := l3
    exact ec_r38 hx hb hown hts hK hAO hA hs hP hD hS hd hok (of_decide_eq_true hk) (Nat.le_of_ble_eq_true hk2) (by omega) (by omega) (fun q H1 q1 q2 q3 => ihn nx ls _ _ _ H1 locs _ _ lr _ hr (hSt.mk (fun h9 => absurd h9 (by omega)) hsr q1 q2 q3))
  · exact (ec_a_fail hr).elim
theorem ec_do_34 (hC : ec_Cx p l R s m args meth c D ty L b xs A μ) (hm : h'.2.2.2.1 = nc0 + mc0) (hn : h'.2.2.2.2.1 = ns0 + ms0) (hmc : mc0 ≤ R.cells) (hms : ms0 ≤ R.slots) (ihn : ec_Gl p l e R s m args below meth c D ty L b xs A r0 N0 nc0 ns0 o h' Q μ n) : ec_Do p l e R s m args below meth c D ty L b xs A r0 N0 nc0 ns0 o h' Q μ n 34 := by
  intro pc nx a b' c' v j k ls st h r H locs cells slots lr sr hr hSt hd hok
  obtain ⟨hx, hb, hml, hown, hts, hE, hA, -, -, -, hfr, hlo, -⟩ := hC
  obtain ⟨hs, hP, hD, hS⟩ := hSt.wd
  have hml2 : c.maxLocals = lr.size := hml.trans hSt.hlr.2.1.symm
  have g6 : cells + nc0 = h.2.2.2.1 := hSt.2.2.2.2.2.1
  have g7 : slots + ns0 = h.2.2.2.2.1 := hSt.2.2.2.2.2.2.1
  rw [ec_step] at hr
  unfold ec_bui at hr
  split at hr
  · split at hr
    · obtain ⟨w1, m1, rfl, e1, hsr⟩ := ec_SR_cons hSt.hsr
      obtain ⟨-, rfl⟩ := e1
      have hk := (ec_a_chk hr).1
      replace hr := (ec_a_chk hr).2
      obtain ⟨k1, k4⟩ := ec_bt_and hk
      obtain ⟨k2, k3⟩ := ec_bt_and k4
      have k1 := Nat.le_of_ble_eq_true k1
      have k2 := Nat.le_of_ble_eq_true k2
      have k3 := Nat.le_of_ble_eq_true k3
      have hcs := ec_SR_cat hsr
      exact ec_r34_0 hx hb hml2 hown hts hd hok rfl (by omega) (by omega) (ihn nx ls _ h r H locs cells slots lr _ hr (hSt.hst hsr))
    · exact (ec_a_fail hr).elim
  · split at hr
    · obtain ⟨w1, m1, rfl, e1, hs1⟩ := ec_SR_cons hSt.hsr
      obtain ⟨w2, m2, rfl, e2, hsr⟩ := ec_SR_cons hs1
      cases e1
      cases e2
      have hk := (ec_a_chk hr).1
      replace hr := (ec_a_chk hr).2
      obtain ⟨k1, k4⟩ := ec_bt_and hk
      obtain ⟨k2, k3⟩ := ec_bt_and k4
      have k1 := Nat.le_of_ble_eq_true k1
      have k2 := Nat.le_of_ble_eq_true k2
      have k3 := Nat.le_of_ble_eq_true k3
      have hcs := ec_SR_cat hsr
      obtain ⟨-, l2, l3, -⟩ := ec_run_hl n hr
      exact ec_r34_1 hx hb hml2 hown hts hd hok rfl (by omega) (by omega) (by omega) (by omega) (ihn nx ls _ h r H locs cells slots lr _ hr (hSt.hst ⟨rfl, hsr⟩))
    · exact (ec_a_fail hr).elim
  · split at hr
    · obtain ⟨w1, m1, rfl, e1, hs1⟩ := ec_SR_cons hSt.hsr
      obtain ⟨w2, m2, rfl, e2, hsr⟩ := ec_SR_cons hs1
      cases e1
      cases e2
      have hk := (ec_a_chk hr).1
      replace hr := (ec_a_chk hr).2
      obtain ⟨k1, k4⟩ := ec_bt_and hk
      obtain ⟨k2, k3⟩ := ec_bt_and k4
      have k1 := Nat.le_of_ble_eq_true k1
      have k2 := Nat.le_of_ble_eq_true k2
      have k3 := Nat.le_of_ble_eq_true k3
      have hcs := ec_SR_cat hsr
      obtain ⟨-, l2, l3, -⟩ := ec_run_hl n hr
      exact ec_r34_2 hx hb hml2 hown hts hd hok rfl (by omega) (by omega) (by omega) (by omega) (ihn nx ls _ h r H locs cells slots lr _ hr (hSt.hst ⟨rfl, hsr⟩))
    · exact (ec_a_fail hr).elim
  · split at hr
    · obtain ⟨w1, m1, rfl, e1, hs1⟩ := ec_SR_cons hSt.hsr
      obtain ⟨w2, m2, rfl, e2, hs2⟩ := ec_SR_cons hs1
      obtain ⟨w3, m3, rfl, e3, hs3⟩ := ec_SR_cons hs2
      obtain ⟨w4, m4, rfl, e4, hs4⟩ := ec_SR_cons hs3
      obtain ⟨w5, m5, rfl, e5, hsr⟩ := ec_SR_cons hs4
      cases e1
      cases e2
      obtain ⟨-, rfl⟩ := e3
      cases e4
      obtain ⟨-, rfl⟩ := e5
      have hk := (ec_a_chk hr).1
      replace hr := (ec_a_chk hr).2
      obtain ⟨k4, k5⟩ := ec_bt_and hk
      obtain ⟨k1, k6⟩ := ec_bt_and k4
      obtain ⟨k2, k3⟩ := ec_bt_and k6
      have k1 := Nat.le_of_ble_eq_true k1
      have k2 := Nat.le_of_ble_eq_true k2
      have k3 := Nat.le_of_ble_eq_true k3
      obtain ⟨k7, k8⟩ := ec_bt_and k5
      obtain ⟨kx, ky⟩ := ec_bt_and k7
      obtain ⟨k9, k10⟩ := ec_bt_and k8
      obtain ⟨z1, k11⟩ := ec_bt_and k9
      obtain ⟨z2, z3⟩ := ec_bt_and k11
      obtain ⟨z4, z5⟩ := ec_bt_and k10
      have hcs := ec_SR_cat hsr
      exact ec_r34_3 hx hb hml2 hown hts hE.1 hP hD hS hd hok rfl (by omega) (by omega) kx ky (of_decide_eq_true z1) (of_decide_eq_true z2) (of_decide_eq_true z3) (Nat.le_of_ble_eq_true z4) (Nat.le_of_ble_eq_true z5)
        (fun H1 locs1 q1 q2 q3 => ihn nx ls _ _ r H1 locs1 cells slots lr _ hr (hSt.hp rfl rfl ⟨hs, q1, q2, q3⟩ hsr))
    · exact (ec_a_fail hr).elim
  · exact (ec_a_fail hr).elim
theorem ec_do_29 (hC : ec_Cx p l R s m args meth c D ty L b xs A μ) (hm : h'.2.2.2.1 = nc0 + mc0) (hn : h'.2.2.2.2.1 = ns0 + ms0) (hrt : ec_rt1 μ = true) : ec_Do p l e R s m args below meth c D ty L b xs A r0 N0 nc0 ns0 o h' (vx_MQ below (ec_Qc D ty b A r0 N0 o h') (ec_XC D ty A r0 N0 o h') args s mc0 ms0 A) μ n 29 := by
  intro pc nx a b' c' v j k ls st h r H locs cells slots lr sr hr hSt hd hok
  obtain ⟨hx, hb, hml, hown, hts, hE, hA, hlocks, -, -, -, -, -, hre⟩ := hC
  obtain ⟨hs, hP, hD, hS⟩ := hSt.wd
  have g4 := hSt.2.2.2.1
  have g6 : cells + nc0 = h.2.2.2.1 := hSt.2.2.2.2.2.1
  have g7 : slots + ns0 = h.2.2.2.2.1 := hSt.2.2.2.2.2.2.1
  obtain ⟨h1, h2⟩ := ec_bt_and hok
  cases Nat.eq_of_beq_eq_true h1
  cases of_decide_eq_true h2
  replace hr : ec_act (ec_run n) (ec_run n μ) μ pc (match (generalizing := false) st with
        | [.int x] => .inl (Nat.beq (ec_mr μ).2.2.2.1 1 || (Nat.beq (ec_mr μ).2.2.2.1 2 && ec_01 x), .inl (some (.int x)), h)
        | _ => ec_fail h) = some (o, h') := hr
  split at hr
  · obtain ⟨w1, m1, rfl, e1, hsr⟩ := ec_SR_cons hSt.hsr
    cases e1
    cases ec_SR_nil hsr
    obtain ⟨hk, rfl, rfl⟩ := ec_a_end hr
    obtain rfl : cells = mc0 := by omega
    obtain rfl : slots = ms0 := by omega
    rcases (Bool.or_eq_true _ _).mp hk with hk | hk
    · exact vx_ret (W.iret hx hb (hre.trans (ec_rt_1 hrt (Nat.eq_of_beq_eq_true hk))) (fun t ht _ => ⟨r, _, rfl, g4, ⟨_, rfl, rfl⟩, hs, by rw [ht]; exact hP, hD, hS.F ht⟩) hS.2.2 hd hlocks)
    · obtain ⟨hk, h01⟩ := ec_bt_and hk
      exact vx_ret (W.zret hx hb (hre.trans (ec_rt_2 hrt (Nat.eq_of_beq_eq_true hk))) (ec_z01 h01).1 (fun t ht _ => ⟨r, _, rfl, g4, ⟨_, rfl, rfl⟩, hs, by rw [ht]; exact hP, hD, hS.F ht⟩) hS.2.2 hd hlocks)
  · exact (ec_a_fail hr).elim
theorem ec_do_30 (hC : ec_Cx p l R s m args meth c D ty L b xs A μ) (hm : h'.2.2.2.1 = nc0 + mc0) (hn : h'.2.2.2.2.1 = ns0 + ms0) (hrt : ec_rt1 μ = true) : ec_Do p l e R s m args below meth c D ty L b xs A r0 N0 nc0 ns0 o h' (vx_MQ below (ec_Qc D ty b A r0 N0 o h') (ec_XC D ty A r0 N0 o h') args s mc0 ms0 A) μ n 30 := by
  intro pc nx a b' c' v j k ls st h r H locs cells slots lr sr hr hSt hd hok
  obtain ⟨hx, hb, hml, hown, hts, hE, hA, hlocks, -, -, -, -, -, hre⟩ := hC
  obtain ⟨hs, hP, hD, hS⟩ := hSt.wd
  have g4 := hSt.2.2.2.1
  have g6 : cells + nc0 = h.2.2.2.1 := hSt.2.2.2.2.2.1
  have g7 : slots + ns0 = h.2.2.2.2.1 := hSt.2.2.2.2.2.2.1
  obtain ⟨h1, h2⟩ := ec_bt_and hok
  cases Nat.eq_of_beq_eq_true h1
  cases of_decide_eq_true h2
  replace hr : ec_act (ec_run n) (ec_run n μ) μ pc (match (generalizing := false) st with
    | [] => .inl (Nat.beq (ec_mr μ).2.2.2.1 0, .inl none, h)
    | _ => ec_fail h) = some (o, h') := hr
  split at hr
  · cases ec_SR_nil hSt.hsr
    obtain ⟨hk, rfl, rfl⟩ := ec_a_end hr
    obtain rfl : cells = mc0 := by omega
    obtain rfl : slots = ms0 := by omega
    exact vx_ret (W.vret hx hb (hre.trans (ec_rt_0 hrt (Nat.eq_of_beq_eq_true hk))) (fun t ht _ => ⟨r, _, rfl, g4, rfl, hs, by rw [ht]; exact hP, hD, hS.F ht⟩) hS.2.2 hd hlocks)
  · exact (ec_a_fail hr).elim
theorem ec_do_31 (hC : ec_Cx p l R s m args meth c D ty L b xs A μ) (hm : h'.2.2.2.1 = nc0 + mc0) (hn : h'.2.2.2.2.1 = ns0 + ms0) (hrt : ec_rt1 μ = true) : ec_Do p l e R s m args below meth c D ty L b xs A r0 N0 nc0 ns0 o h' (vx_MQ below (ec_Qc D ty b A r0 N0 o h') (ec_XC D ty A r0 N0 o h') args s mc0 ms0 A) μ n 31 := by
  intro pc nx a b' c' v j k ls st h r H locs cells slots lr sr hr hSt hd hok
  obtain ⟨hx, hb, hml, hown, hts, hE, hA, hlocks, -, -, -, -, -, hre⟩ := hC
  obtain ⟨hs, hP, hD, hS⟩ := hSt.wd
  have g4 := hSt.2.2.2.1
  have g6 : cells + nc0 = h.2.2.2.1 := hSt.2.2.2.2.2.1
  have g7 : slots + ns0 = h.2.2.2.2.1 := hSt.2.2.2.2.2.2.1
  obtain ⟨h1, h2⟩ := ec_bt_and hok
  cases Nat.eq_of_beq_eq_true h1
  cases of_decide_eq_true h2
  replace hr : ec_act (ec_run n) (ec_run n μ) μ pc (match (generalizing := false) st with
        | [.long x] => .inl (Nat.beq (ec_mr μ).2.2.2.1 3, .inl (some (.long x)), h)
        | _ => ec_fail h) = some (o, h') := hr
  split at hr
  · obtain ⟨w1, m1, rfl, e1, hsr⟩ := ec_SR_cons hSt.hsr
    cases e1
    cases ec_SR_nil hsr
    obtain ⟨hk, rfl, rfl⟩ := ec_a_end hr
    obtain rfl : cells = mc0 := by omega
    obtain rfl : slots = ms0 := by omega
    exact vx_ret (W.lret hx hb (hre.trans (ec_rt_3 hrt (Nat.eq_of_beq_eq_true hk))) (fun t ht _ => ⟨r, _, rfl, g4, ⟨_, rfl, rfl⟩, hs, by rw [ht]; exact hP, hD, hS.F ht⟩) hS.2.2 hd hlocks)
  · exact (ec_a_fail hr).elim
theorem ec_do_32 (hC : ec_Cx p l R s m args meth c D ty L b xs A μ) (hm : h'.2.2.2.1 = nc0 + mc0) (hn : h'.2.2.2.2.1 = ns0 + ms0) (hrt : ec_rt1 μ = true) : ec_Do p l e R s m args below meth c D ty L b xs A r0 N0 nc0 ns0 o h' (vx_MQ below (ec_Qc D ty b A r0 N0 o h') (ec_XC D ty A r0 N0 o h') args s mc0 ms0 A) μ n 32 := by
  intro pc nx a b' c' v j k ls st h r H locs cells slots lr sr hr hSt hd hok
  obtain ⟨hx, hb, hml, hown, hts, hE, hA, hlocks, -, -, -, -, -, hre⟩ := hC
  obtain ⟨hs, hP, hD, hS⟩ := hSt.wd
  have g4 := hSt.2.2.2.1
  have g6 : cells + nc0 = h.2.2.2.1 := hSt.2.2.2.2.2.1
  have g7 : slots + ns0 = h.2.2.2.2.1 := hSt.2.2.2.2.2.2.1
  obtain ⟨h1, h2⟩ := ec_bt_and hok
  cases Nat.eq_of_beq_eq_true h1
  cases of_decide_eq_true h2
  replace hr : ec_act (ec_run n) (ec_run n μ) μ pc (match (generalizing := false) st with
    | [.ref x] => .inl (Nat.beq (ec_mr μ).2.2.2.1 4, .inl (some (.ref x)), h)
    | [.null] => .inl (Nat.beq (ec_mr μ).2.2.2.1 4, .inl (some .null), h)
    | _ => ec_fail h) = some (o, h') := hr
  split at hr
  · obtain ⟨w1, m1, rfl, e1, hsr⟩ := ec_SR_cons hSt.hsr
    cases ec_SR_nil hsr
    obtain ⟨hk, rfl, rfl⟩ := ec_a_end hr
    obtain rfl : cells = mc0 := by omega
    obtain rfl : slots = ms0 := by omega
    obtain ⟨C, hC⟩ := ec_rt_4 hrt (Nat.eq_of_beq_eq_true hk)
    exact vx_ret (W.aret hx hb (hre.trans hC) (Or.inl ⟨_, rfl⟩) (Or.inr ⟨_, e1.2⟩) (fun t ht _ => ⟨r, _, rfl, g4, ⟨_, e1, rfl⟩, hs, by rw [ht]; exact hP, hD, hS.F ht⟩) hS.2.2 hd hlocks)
  · obtain ⟨w1, m1, rfl, e1, hsr⟩ := ec_SR_cons hSt.hsr
    cases ec_SR_nil hsr
    obtain ⟨hk, rfl, rfl⟩ := ec_a_end hr
    obtain rfl : cells = mc0 := by omega
    obtain rfl : slots = ms0 := by omega
    obtain ⟨C, hC⟩ := ec_rt_4 hrt (Nat.eq_of_beq_eq_true hk)
    exact vx_ret (W.aret hx hb (hre.trans hC) (Or.inl ⟨_, rfl⟩) (Or.inl e1) (fun t ht _ => ⟨r, _, rfl, g4, ⟨_, e1, rfl⟩, hs, by rw [ht]; exact hP, hD, hS.F ht⟩) hS.2.2 hd hlocks)
  · exact (ec_a_fail hr).elim
end ECE
