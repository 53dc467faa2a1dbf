/-! A throw site, and a call. -/
theorem ec_mem_of : ∀ {l : List Nat} {n : Nat}, ec_mem l n = true → n ∈ l
  | [], _, h => by cases h
  | a :: l, n, h => by
    rcases (Bool.or_eq_true _ _).mp h with h1 | h1
    · cases Nat.eq_of_beq_eq_true h1
      exact List.mem_cons_self
    · exact List.mem_cons_of_mem _ (ec_mem_of h1)
theorem ec_th_in {i : Nat} (h : i < 9) : ec_nth (9, 0, 0, 0, 0, "") ec_th i ∈ ec_th := by
  have hl : ec_th.length = 9 := by decide +kernel
  rw [ec_nth_eq (by omega)]
  exact List.getElem_mem _
theorem ec_xfit : ∀ n ∈ ec_xn, Bundle.fit n = true := by decide +kernel
section ECC
variable {p : Program} {l : Launch} {e : Env} {R : Room} {s : State} {m : MethodId} {args : Array Value} {below : List Frame} {meth : Method} {c : Code} {D : va_G} {ty : Nat → Nat} {L b : Nat} {xs : Nat → Int32} {A : Nat → Prop} {r0 : Nat → Nat} {N0 nc0 ns0 nL mc0 ms0 : Nat} {o : ec_Out} {h' : ec_Hp} {Q : State → Prop} {μ n : Nat}
theorem ec_xat (hts : ∀ w ∈ ec_gd, w.before args s = true) (hNw : ec_Nw s) (hTx : ec_Tx s) {E : Nat} (hE : E < 3) : ∀ w ∈ ec_xw (ec_nth (0, 0) ec_xc E).2 (ec_nth "" ec_exc E), w.before args s = true ∧ vx_ot w = true := by
  intro w hw
  obtain ⟨h1, h2⟩ := ec_bt_and (List.all_eq_true.mp (ec_xc_ok hE) w hw)
  refine ⟨?_, h2⟩
  rcases (Bool.or_eq_true _ _).mp h1 with h3 | h3
  · obtain ⟨h4, h5⟩ := ec_bt_and h3
    have h5 : w ∈ lw_tbl := of_decide_eq_true h5
    rcases (Bool.or_eq_true _ _).mp h4 with h6 | h6
    · exact hts w (List.mem_filter.mpr ⟨h5, h6⟩)
    · have h7 := hTx.2 w (List.mem_filter.mpr ⟨h5, h6⟩)
      cases w with
      | declares x => exact va_Nw.use rfl h7
      | _ => cases h6
  · cases of_decide_eq_true h3
    exact va_Nw.use rfl (hNw _ (ec_cas hE))
set_option maxHeartbeats 4000000 in
theorem ec_do_36 (hC : ec_Cx p l R s m args meth c D ty L b xs A μ) (hm : h'.2.2.2.1 = nc0 + mc0) (hn : h'.2.2.2.2.1 = ns0 + ms0) (hmc : mc0 ≤ R.cells) (hms : ms0 ≤ R.slots) : ec_Do p l e R s m args below meth c D ty L b xs A r0 N0 nc0 ns0 o h' (vx_MQ below (ec_Qc D ty b A r0 N0 o h') (ec_XC D ty A r0 N0 o h') args s mc0 ms0 A) μ n 36 := by
  intro pc nx a b' c' v j k ls st h r H locs cells slots lr sr hr hSt hd hok
  obtain ⟨hx, hb, hml, hown, hts, hE, hA, hlocks, htab, hname, hfr, hlo, hl, hre⟩ := hC
  obtain ⟨hs, hP, hD, hS⟩ := hSt.wd
  have g4 := hSt.2.2.2.1
  have g6 : cells + nc0 = h.2.2.2.1 := hSt.2.2.2.2.2.1
  have g7 : slots + ns0 = h.2.2.2.2.1 := hSt.2.2.2.2.2.2.1
  have hsz : lr.size = c.maxLocals := hSt.hlr.2.1.trans hml.symm
  obtain ⟨hK, hNw, hNc, hTx, hAO, hU, hN, -⟩ := hE
  obtain ⟨hk, ho, hh⟩ := ec_a_end hr
  subst ho
  subst hh
  obtain ⟨k1, k4⟩ := ec_bt_and hk
  obtain ⟨k2, k3⟩ := ec_bt_and k4
  have k1 := Nat.le_of_ble_eq_true k1
  have k2 := Nat.le_of_ble_eq_true k2
  have k3 := Nat.le_of_ble_eq_true k3
  have hcs := ec_SR_cat hSt.hsr
  have c1 : h.2.2.2.1 + 1 = nc0 + mc0 := hm
  have c2 : h.2.2.2.2.1 + 6 = ns0 + ms0 := hn
  obtain ⟨o1, q1⟩ := ec_bt_and hok
  obtain ⟨o2, q2⟩ := ec_bt_and q1
  obtain ⟨o3, q3⟩ := ec_bt_and q2
  obtain ⟨o4, q4⟩ := ec_bt_and q3
  obtain ⟨o5, q5⟩ := ec_bt_and q4
  obtain ⟨o6, q6⟩ := ec_bt_and q5
  obtain ⟨o7, q7⟩ := ec_bt_and q6
  obtain ⟨o8, q8⟩ := ec_bt_and q7
  clear q1 q2 q3 q4 q5 q6 q7
  have hin := ec_th_in (i := b') (by simpa using o7)
  generalize ec_nth (9, 0, 0, 0, 0, "") ec_th b' = t at *
  have ha : a < 3 := by simpa using o4
  cases Nat.eq_of_beq_eq_true o1
  cases of_decide_eq_true o2
  have ht1 := Nat.eq_of_beq_eq_true o3
  have hμ : (ec_mr μ).1 = 6 := Nat.eq_of_beq_eq_true o5
  have hh0 : ec_hh μ = [] := of_decide_eq_true o6
  have d3 := of_decide_eq_true o8
  obtain ⟨-, hic, hkw, hiw⟩ := ec_th_ok t hin
  rw [ht1] at hic hkw hiw
  obtain ⟨sa, hsa⟩ := hTx.1 t hin
  rw [hμ] at hown
  have hgk : Cond.classLink "EchoDungeon" t.2.1 (ec_nth "" ec_exc a) ∈ ec_gd := List.mem_filter.mpr ⟨hkw, rfl⟩
  have hgi : Cond.initialized (ec_nth "" ec_exc a) ∈ ec_gd := List.mem_filter.mpr ⟨hiw, rfl⟩
  have hat := ec_xat (args := args) hts hNw hTx ha
  rw [← hic] at hat
  have hgood : ∀ w ∈ Cond.classLink "EchoDungeon" t.2.1 (ec_nth "" ec_exc a) :: Cond.initialized (ec_nth "" ec_exc a) :: vx_atS "EchoDungeon" t.2.2.2.1 (ec_nth "" ec_exc a) ec_xn, vx_ot w = true := by
    intro w hw
    rcases List.mem_cons.mp hw with rfl | hw
    · rfl
    · rcases List.mem_cons.mp hw with rfl | hw
      · rfl
      · exact (hat w hw).2
  have hout : ∀ x, x ∈ c.exceptionTable.toList → ∀ z, covers x z = false := by
    intro x hx9 z
    rw [htab, hh0] at hx9
    cases hx9
  have hXC : ∀ t' : State, s.vm.Alike t'.vm → H.size ≤ t'.heap.size → (∀ q : Nat, q < H.size → t'.heap[q]? = H[q]?) → ec_XC D ty A r0 N0 (.inr a) (ec_thw h) (ec_nth "" ec_exc a) s t' := fun t' _ h1 h2 =>
    ⟨r, a, rfl, ha, rfl, g4, hs, va_P.kept (ws := ec_ws ty r h) hP (fun k9 q hq => h2 _ (va_at.lt (hP k9 q hq))), hD, Nat.le_trans hS.1 h1, fun q hq hnA => (h2 q (Nat.lt_of_lt_of_le hq hS.1)).trans (hS.2.1 q hq hnA)⟩
  split at q8
  · obtain ⟨d4, d5⟩ := ec_bt_and q8
    obtain ⟨d6, d9⟩ := ec_bt_and d5
    exact vx_throwS hx hb hl hown (ec_fit ha) ec_xfit (hts _ hgk) (hts _ hgi) hsa (fun w hw => (hat w hw).1) hgood hU hN hS hsz hd d3 (of_decide_eq_true d4) (of_decide_eq_true d6) (of_decide_eq_true d9) (fun x hx9 => hout x hx9 _)
      (by show 2 + 3 < R.frames; omega) (by show _ + (13 * (2 + 1) + 43) ≤ R.locals; omega) (by omega) (by omega) hlocks hXC hS.2.2 (by omega) (by omega)
  · obtain ⟨d4, d5⟩ := ec_bt_and q8
    obtain ⟨d6, d9⟩ := ec_bt_and d5
    exact vx_throwSW hx hb hl hown (ec_fit ha) ec_xfit (hts _ hgk) (hts _ hgi) hsa (fun w hw => (hat w hw).1) hgood hU hN hS hsz hd d3 (of_decide_eq_true d4) (of_decide_eq_true d6) (of_decide_eq_true d9) (fun x hx9 => hout x hx9 _)
      (by show 2 + 3 < R.frames; omega) (by show _ + (13 * (2 + 1) + 43) ≤ R.locals; omega) (by omega) (by omega) hlocks hXC hS.2.2 (by omega) (by omega)
theorem ec_blind {D : va_G} {ty : Nat → Nat} {L b : Nat} {xs : Nat → Int32} {r : Nat → Nat} {h : ec_Hp} {sz : Nat} {asr : List Value} : FrameBlind (ec_Pc D ty L b xs r h sz asr) := by
  rintro a U g mk ⟨h1, h2, h3, h4, h5⟩
  exact ⟨h1, h2, h3, h4, ec_Ev.move (locs := []) h5 rfl (State.WarmedH.refl U) ⟨Nat.le_refl _, fun _ _ _ => rfl, fun q hq => by cases hq⟩ (fun _ z => z)⟩
theorem ec_cd_0 {ν : Nat} (h : ec_hh ν = []) : ec_cd ν = .code (ec_yn ν) (ec_bc ν) (ec_mr ν).2.1 (ec_re ν) := by
  unfold ec_cd
  rw [h]
theorem ec_cd_1 {ν : Nat} (h : ec_hh ν ≠ []) : ec_cd ν = .codeWith (ec_yn ν) (ec_bc ν) (ec_mr ν).2.1 (ec_re ν) (ec_hh ν) := by
  unfold ec_cd
  cases hh : ec_hh ν with
  | nil => exact absurd hh h
  | cons q l => rfl
theorem ec_cls8 : ∀ ν ∈ ec_cal_l, ec_nth 9 ec_kd ν ≠ 1 → (ec_mr ν).1 < 7 := by decide +kernel
theorem ec_in_mw {ν : Nat} (h : ν ∈ ec_cal_l) {w : Cond} (hw : w ∈ ec_mw ν) : w ∈ ec_gd := (ec_mok_spec h).1 w hw
/-- the state of the world when a callee begins -/
theorem ec_pre {r : Nat → Nat} {h : ec_Hp} {H : Heap} {locs : List Loc} {asr : List Value} (hE : ec_Ev D ty L b xs A s) (hA : ∀ q, s.heap.size ≤ q → A q) (hP : va_P D ec_cl (ec_ws ty r h) H) (hD : va_D A (ec_ws ty r h)) (hS : va_S A s.heap H locs) :
    ∀ U : State, U.heap = H → s.WarmedH U.vm → ec_Pc D ty L b xs r h H.size asr asr.toArray U := by
  intro U hU hW
  refine ⟨rfl, by rw [hU], by rw [hU]; exact hP, hD.weaken (fun _ _ _ _ => trivial), ec_Ev.move hE hU hW hS ?_⟩
  rintro q (⟨k, x, hk⟩ | hq)
  · exact hD.2 k _ hk
  · exact hA q (Nat.le_trans hS.1 hq)
theorem ec_a_callR {Rt : ec_Rt} {G : Nat → List Value → List Value → ec_Hp → Option (ec_Out × ec_Hp)} {pc nx ν : Nat} {ls st : List Value} {h : ec_Hp} {oo : ec_Out × ec_Hp} {k : Nat} (hk : k = 0 ∨ k = 2) (hr : ec_act Rt G μ pc (ec_call μ nx ν ls st h k) = some oo) :
    ∃ z as rest, ec_take (ec_mr ν).2.2.1 [] st = some (.ref z :: as, rest) ∧ ec_isK h z (ec_mr ν).1 = true ∧ ec_cat rest ≤ 8 ∧ ec_cat as + 1 ≤ (ec_mr ν).2.1 ∧ ec_rk μ ν = true ∧ ec_aft Rt μ pc nx ls rest (Rt ν 0 (ec_iniL ν (.ref z :: as)) [] h) = some oo := by
  have hr2 : ec_act Rt G μ pc (match (generalizing := false) ec_take (ec_mr ν).2.2.1 [] st with
    | some (.ref p :: as, rest) => .inr (.inr (ec_isK h p (ec_mr ν).1 && (Nat.ble (ec_cat rest) 8 && (Nat.ble (ec_cat as + 1) (ec_mr ν).2.1 && ec_rk μ ν)), nx, ν, .ref p :: as, ls, rest, h))
    | _ => ec_fail h) = some oo := by
    rcases hk with rfl | rfl <;> exact hr
  split at hr2
  · rename_i z as rest htk
    cases hb : (ec_isK h z (ec_mr ν).1 && (Nat.ble (ec_cat rest) 8 && (Nat.ble (ec_cat as + 1) (ec_mr ν).2.1 && ec_rk μ ν))) with
    | false => rw [hb] at hr2; cases hr2
    | true =>
      rw [hb] at hr2
      obtain ⟨k1, k2⟩ := ec_bt_and hb
      obtain ⟨k3, k4⟩ := ec_bt_and k2
      obtain ⟨k5, k6⟩ := ec_bt_and k4
      exact ⟨z, as, rest, htk, k1, Nat.le_of_ble_eq_true k3, Nat.le_of_ble_eq_true k5, k6, hr2⟩
  · cases hr2
theorem ec_a_callS {Rt : ec_Rt} {G : Nat → List Value → List Value → ec_Hp → Option (ec_Out × ec_Hp)} {pc nx ν : Nat} {ls st : List Value} {h : ec_Hp} {oo : ec_Out × ec_Hp} {k : Nat} (hk : k = 1 ∨ k = 3) (hr : ec_act Rt G μ pc (ec_call μ nx ν ls st h k) = some oo) :
    ∃ as rest, ec_take (ec_mr ν).2.2.1 [] st = some (as, rest) ∧ ec_cat rest ≤ 8 ∧ ec_cat as ≤ (ec_mr ν).2.1 ∧ ec_rk μ ν = true ∧ ec_aft Rt μ pc nx ls rest (Rt ν 0 (ec_iniL ν as) [] h) = some oo := by
  have hr2 : ec_act Rt G μ pc (match (generalizing := false) ec_take (ec_mr ν).2.2.1 [] st with
    | some (as, rest) => .inr (.inr (Nat.ble (ec_cat rest) 8 && (Nat.ble (ec_cat as) (ec_mr ν).2.1 && ec_rk μ ν), nx, ν, as, ls, rest, h))
    | _ => ec_fail h) = some oo := by
    rcases hk with rfl | rfl <;> exact hr
  split at hr2
  · rename_i as rest htk
    cases hb : (Nat.ble (ec_cat rest) 8 && (Nat.ble (ec_cat as) (ec_mr ν).2.1 && ec_rk μ ν)) with
    | false => rw [hb] at hr2; cases hr2
    | true =>
      rw [hb] at hr2
      obtain ⟨k3, k4⟩ := ec_bt_and hb
      obtain ⟨k5, k6⟩ := ec_bt_and k4
      exact ⟨as, rest, htk, Nat.le_of_ble_eq_true k3, Nat.le_of_ble_eq_true k5, k6, hr2⟩
  · cases hr2
set_option maxHeartbeats 8000000 in
theorem ec_do_33 (hC : ec_Cx p l R s m args meth c D ty L b xs A μ) (hm : h'.2.2.2.1 = nc0 + mc0) (hn : h'.2.2.2.2.1 = ns0 + ms0) (hmc : mc0 ≤ R.cells) (hms : ms0 ≤ R.slots) (hAA : ec_AA l n)
    (ihn : ec_Gl p l e R s m args below meth c D ty L b xs A r0 N0 nc0 ns0 o h' (vx_MQ below (ec_Qc D ty b A r0 N0 o h') (ec_XC D ty A r0 N0 o h') args s mc0 ms0 A) μ n) :
    ec_Do p l e R s m args below meth c D ty L b xs A r0 N0 nc0 ns0 o h' (vx_MQ below (ec_Qc D ty b A r0 N0 o h') (ec_XC D ty A r0 N0 o h') args s mc0 ms0 A) μ n 33 := by
  intro pc nx ν b' c' v j k ls st h r H locs cells slots lr sr hr hSt hd hok
  have hC' := hC
  obtain ⟨hx, hb, hml, hown, hts, hE, hA, hlocks, htab, hname, hfr, hlo, hl, hre⟩ := hC'
  obtain ⟨hs, hP, hD, hS⟩ := hSt.wd
  have hscr : h.2.2.2.2.2 = (L, xs) := hSt.2.2.2.2.2.2.2
  have g6 : cells + nc0 = h.2.2.2.1 := hSt.2.2.2.2.2.1
  have g7 : slots + ns0 = h.2.2.2.2.1 := hSt.2.2.2.2.2.2.1
  have hsz : lr.size = (ec_mr μ).2.1 := hSt.hlr.2.1
  obtain ⟨o1, q1⟩ := ec_bt_and hok
  obtain ⟨o2, q2⟩ := ec_bt_and q1
  obtain ⟨o3, q3⟩ := ec_bt_and q2
  clear q1 q2
  have hν := ec_mem_of o3
  cases Nat.eq_of_beq_eq_true o1
  cases Nat.eq_of_beq_eq_true o2
  obtain ⟨y1, y2, y3, y4, y5, y6, y7, y8, y9⟩ := ec_mok_spec hν
  have hcw : ec_cd ν ∈ ec_gd := y1 _ List.mem_cons_self
  have hin : Cond.initialized (ec_yn ν).cls ∈ ec_gd := y1 _ (List.mem_cons_of_mem _ List.mem_cons_self)
  have S : CallFix p m c (ec_bc μ) (ec_mr μ).2.1 s args ec_gd (ec_own (ec_mr μ).1) := ⟨hx, hb, hml, hown, hts⟩
  -- what is common to the calls
  have hcom : ∀ {as rest : List Value} {asr : List Value} {o2 : ec_Out} {h2 : ec_Hp}, ec_SR r h.1.length b as asr → ec_cat as ≤ (ec_mr ν).2.1 → ec_run n ν 0 (ec_iniL ν as) [] h = some (o2, h2) → ec_aft (ec_run n) μ pc (pc + 3) ls rest (some (o2, h2)) = some (o, h') →
      (cells + (h2.2.2.2.1 - h.2.2.2.1) ≤ R.cells ∧ slots + (h2.2.2.2.2.1 - h.2.2.2.2.1) ≤ R.slots) ∧
      vx_Met l (ec_yn ν) (ec_wl ν) (ec_rm ν (h2.2.2.2.1 - h.2.2.2.1) (h2.2.2.2.2.1 - h.2.2.2.2.1)) (ec_Pc D ty L b xs r h H.size asr) (ec_Qc D ty b (va_A (ec_ws ty r h) H.size) r h.1.length o2 h2) (ec_XC D ty (va_A (ec_ws ty r h) H.size) r h.1.length o2 h2) (h2.2.2.2.1 - h.2.2.2.1) (h2.2.2.2.2.1 - h.2.2.2.2.1) (va_A (ec_ws ty r h) H.size) ∧ ec_hl h h2 := by
    intro as rest asr o2 h2 ha hmx hc hr2
    obtain ⟨-, a1, a2, -⟩ := ec_aft_hl hr2
    have hh := ec_run_hl n hc
    have a3 := hh.2.1
    have a4 := hh.2.2.1
    exact ⟨⟨by omega, by omega⟩, hAA ν hν D ty L b xs r h as asr o2 h2 H.size hc hs hscr ha hmx, hh⟩
  have hrk : ec_rk μ ν = true → ∀ mc ms, (ec_rm ν mc ms).frames + 1 ≤ R.frames ∧ 8 + ((ec_mr ν).2.1 + 11) + (ec_rm ν mc ms).locals ≤ R.locals := by
    intro hk mc ms
    obtain ⟨k1, k2⟩ := ec_bt_and hk
    have k1 := Nat.le_of_ble_eq_true k1
    have k2 := Nat.le_of_ble_eq_true k2
    refine ⟨?_, ?_⟩
    · show (ec_mr ν).2.2.2.2.1 + 1 ≤ R.frames
      omega
    · show 8 + ((ec_mr ν).2.1 + 11) + (ec_mr ν).2.2.2.2.2 ≤ R.locals
      omega
  have hgo : ∀ {ls : List Value} {r' : Option (ec_Out × ec_Hp)} {rest : List Value}, ec_aft (ec_run n) μ pc (pc + 3) ls rest r' = some (o, h') → ∃ o2 h2, r' = some (o2, h2) := by
    intro ls r' rest hr
    cases r' with
    | none => cases hr
    | some x => exact ⟨x.1, x.2, rfl⟩
  split at q3
  · -- a receiver's method
    rename_i i
    obtain ⟨p1, p2⟩ := ec_bt_and q3
    obtain ⟨p3, p4⟩ := ec_bt_and p2
    obtain ⟨p5, p6⟩ := ec_bt_and p4
    obtain ⟨p7, p8⟩ := ec_bt_and p6
    cases Nat.eq_of_beq_eq_true p1
    cases Nat.eq_of_beq_eq_true p3
    have hkd := Nat.eq_of_beq_eq_true p5
    have hh0 : ec_hh ν = [] := of_decide_eq_true p7
    have hlink : Cond.methodLink (ec_own (ec_mr μ).1) b' (ec_yn ν) ∈ ec_gd := ec_ml_ok _ (ec_has4_mem p8)
    obtain ⟨z, as, rest, htk, hkz, hcat, hmx, hk, hr⟩ := ec_a_callR (Or.inl rfl) hr
    obtain ⟨asr0, restr, ha, hrest, heq, hlen⟩ := ec_take_spec _ [] [] st sr _ _ htk trivial hSt.hsr
    obtain ⟨w0, asr, hw0, e0, has⟩ := ec_SR_cons ha
    subst hw0
    obtain ⟨hzl, hz⟩ := e0
    subst hz
    obtain ⟨o2, h2, hc⟩ := hgo hr
    rw [hc] at hr
    obtain ⟨hf, hM, hl2⟩ := hcom ha hmx hc hr
    have hc8 := ec_cls8 ν hν (by rw [hkd]; decide)
    obtain ⟨hzl2, hkz2⟩ := ec_isK_spec hkz (by omega)
    have he : (ec_ws ty r h)[z]? = some (r z, .inr ((ec_mr ν).1, ec_ob r h z)) := by rw [ec_ws_at hzl2, ec_ce_ob hkz2 hc8]
    have hrec := va_recv hE.1 hP (ec_cl_at hc8) he
    rw [hkd] at y6
    have hw1 : Cond.instanceMethod (ec_yn ν) ∈ ec_gd := y1 _ (by unfold ec_mw; rw [hkd]; simp)
    have hw2 : Cond.selects (ec_yn ν).cls (ec_yn ν) (ec_yn ν) ∈ ec_gd := y1 _ (by unfold ec_mw; rw [hkd]; simp)
    have hlen2 : asr.length = (ec_mr ν).2.2.1 - 1 := by
      simp only [List.length_cons, List.length_nil] at hlen
      omega
    have hG : GoodIn ec_gd (wsV (ec_own (ec_mr μ).1) b' (ec_yn ν).cls (ec_yn ν) (ec_wl ν)) := by
      intro w hw
      refine ec_gd_good w ?_
      rcases List.mem_append.mp hw with hw | hw
      · simp only [List.mem_cons, List.mem_nil_iff, or_false] at hw
        rcases hw with rfl | rfl | rfl | rfl <;> assumption
      · exact (ec_wl_good hν w hw).1
    have cw := cwV (R := R) (args := args) (s := s) (rm := ec_rm ν (h2.2.2.2.1 - h.2.2.2.1) (h2.2.2.2.2.1 - h.2.2.2.2.1)) ((ec_mr ν).2.2.1 - 1) hts hG (by unfold ec_wl; rw [ec_cd_0 hh0]) rfl rfl ⟨rfl, y3, y4, y6⟩ (hrk hk _ _)
    have hrun := vx_runV (rest := restr) (cells := cells) (slots := slots) (locs := locs) (H := H) (As := asr) (b := r z) (g := F0 m pc lr sr) (e := e) (below := below) (meth := meth) S hM cw
      ⟨ec_blind, by rw [y5]; exact hrec, ec_pre hE hA hP hD hS⟩ rfl hlen2 hsz (by show sr = _; have := heq; simp at this; exact this) (by show 2 * 0 + _ ≤ 8; rw [ec_SR_cat hrest]; omega) hd hf
    exact ec_after hC hm hn ihn (hSt.hst hrest) rfl hl2 hrun hr
  · -- a static method
    rename_i i
    obtain ⟨p1, p2⟩ := ec_bt_and q3
    obtain ⟨p5, p6⟩ := ec_bt_and p2
    cases Nat.eq_of_beq_eq_true p1
    have hkd := Nat.eq_of_beq_eq_true p5
    rw [hkd] at y6
    have hw1 : Cond.static (ec_yn ν) ∈ ec_gd := y1 _ (by unfold ec_mw; rw [hkd]; simp)
    have hcc : c' = 1 ∨ c' = 3 := by
      rcases (Bool.or_eq_true _ _).mp p6 with p7 | p7
      · exact Or.inl (Nat.eq_of_beq_eq_true (ec_bt_and p7).1)
      · exact Or.inr (Nat.eq_of_beq_eq_true (ec_bt_and p7).1)
    obtain ⟨as, rest, htk, hcat, hmx, hk, hr⟩ := ec_a_callS hcc hr
    obtain ⟨asr, restr, ha, hrest, heq, hlen⟩ := ec_take_spec _ [] [] st sr _ _ htk trivial hSt.hsr
    obtain ⟨o2, h2, hc⟩ := hgo hr
    rw [hc] at hr
    obtain ⟨hf, hM, hl2⟩ := hcom ha hmx hc hr
    have hlen2 : asr.length = (ec_mr ν).2.2.1 := by simpa using hlen
    have hstk : sr = asr.reverse ++ restr := by simpa using heq
    rcases (Bool.or_eq_true _ _).mp p6 with p7 | p7
    · have hlink : Cond.methodLink (ec_own (ec_mr μ).1) b' (ec_yn ν) ∈ ec_gd := ec_ml_ok _ (ec_has4_mem (ec_bt_and p7).2)
      have hG : GoodIn ec_gd (va_wsS (ec_own (ec_mr μ).1) b' (ec_yn ν) (ec_wl ν)) := by
        intro w hw
        refine ec_gd_good w ?_
        rcases List.mem_append.mp hw with hw | hw
        · simp only [List.mem_cons, List.mem_nil_iff, or_false] at hw
          rcases hw with rfl | rfl | rfl <;> assumption
        · exact (ec_wl_good hν w hw).1
      by_cases hh0 : ec_hh ν = []
      · have cw := va_cwS (R := R) (args := args) (s := s) (rm := ec_rm ν (h2.2.2.2.1 - h.2.2.2.1) (h2.2.2.2.2.1 - h.2.2.2.2.1)) (ec_mr ν).2.2.1 hts hG (by unfold ec_wl; rw [ec_cd_0 hh0]) rfl rfl ⟨y3, y4, y6⟩ (hrk hk _ _)
        have hrun := vx_runS (rest := restr) (cells := cells) (slots := slots) (locs := locs) (H := H) (As := asr) (g := F0 m pc lr sr) (e := e) (below := below) (meth := meth) S hM cw
          ⟨ec_blind, ec_pre hE hA hP hD hS⟩ rfl hlen2 hsz hstk (by show 2 * 0 + _ ≤ 8; rw [ec_SR_cat hrest]; omega) hd hf
        exact ec_after hC hm hn ihn (hSt.hst hrest) rfl hl2 hrun hr
      · have cw := vx_cwSW (R := R) (args := args) (s := s) (rm := ec_rm ν (h2.2.2.2.1 - h.2.2.2.1) (h2.2.2.2.2.1 - h.2.2.2.2.1)) (ec_mr ν).2.2.1 hts hG (by unfold ec_wl; rw [ec_cd_1 hh0]) rfl rfl ⟨y3, y4, y6⟩ (hrk hk _ _)
        have hrun := vx_runSX (rest := restr) (cells := cells) (slots := slots) (locs := locs) (H := H) (As := asr) (g := F0 m pc lr sr) (e := e) (below := below) (meth := meth) S hM cw
          ⟨ec_blind, ec_pre hE hA hP hD hS⟩ rfl hlen2 hsz hstk (by show 2 * 0 + _ ≤ 8; rw [ec_SR_cat hrest]; omega) hd hf
        exact ec_after hC hm hn ihn (hSt.hst hrest) rfl hl2 hrun hr
    · obtain ⟨-, p8⟩ := ec_bt_and p7
      obtain ⟨p9, p10⟩ := ec_bt_and p8
      have hh0 : ec_hh ν = [] := of_decide_eq_true p9
      have hlink : Cond.methodLinkNest (ec_own (ec_mr μ).1) b' (ec_yn ν) "EchoDungeon" ∈ ec_nw := ec_mn_ok _ (ec_has4_mem p10)
      have cw := va_cnB (R := R) (args := args) (s := s) (rm := ec_rm ν (h2.2.2.2.1 - h.2.2.2.1) (h2.2.2.2.2.1 - h.2.2.2.2.1)) (ec_mr ν).2.2.1 hts (ec_wl_good hν) (by unfold ec_wl; rw [ec_cd_0 hh0]) rfl rfl (hE.2.1 _ hlink) (hts _ hin) ⟨y3, y4, y6⟩ (hrk hk _ _)
      have hrun := vx_runSN (rest := restr) (cells := cells) (slots := slots) (locs := locs) (H := H) (As := asr) (g := F0 m pc lr sr) (e := e) (below := below) (meth := meth) S hM ⟨cw, hts _ hw1, trivial⟩
        ⟨ec_blind, ec_pre hE hA hP hD hS⟩ rfl hlen2 hsz hstk (by show 2 * 0 + _ ≤ 8; rw [ec_SR_cat hrest]; omega) hd hf
      exact ec_after hC hm hn ihn (hSt.hst hrest) rfl hl2 hrun hr
  · -- a constructor
    rename_i i
    obtain ⟨p1, p2⟩ := ec_bt_and q3
    obtain ⟨p3, p4⟩ := ec_bt_and p2
    obtain ⟨p5, p8⟩ := ec_bt_and p4
    cases Nat.eq_of_beq_eq_true p1
    cases Nat.eq_of_beq_eq_true p3
    have hkd := Nat.eq_of_beq_eq_true p5
    have hlink : Cond.methodLink (ec_own (ec_mr μ).1) b' (ec_yn ν) ∈ ec_gd := ec_ml_ok _ (ec_has4_mem p8)
    obtain ⟨z, as, rest, htk, hkz, hcat, hmx, hk, hr⟩ := ec_a_callR (Or.inr rfl) hr
    obtain ⟨asr0, restr, ha, hrest, heq, hlen⟩ := ec_take_spec _ [] [] st sr _ _ htk trivial hSt.hsr
    obtain ⟨w0, asr, hw0, e0, has⟩ := ec_SR_cons ha
    subst hw0
    obtain ⟨hzl, hz⟩ := e0
    subst hz
    obtain ⟨o2, h2, hc⟩ := hgo hr
    rw [hc] at hr
    obtain ⟨hf, hM, hl2⟩ := hcom ha hmx hc hr
    rw [hkd] at y6 y8
    obtain ⟨z1, z2⟩ := ec_bt_and y8
    obtain ⟨z2, z3⟩ := ec_bt_and z2
    have z2 : ec_re ν = none := of_decide_eq_true z2
    have hh0 : ec_hh ν = [] := of_decide_eq_true z3
    have hw1 : Cond.instanceMethod (ec_yn ν) ∈ ec_gd := y1 _ (by unfold ec_mw; rw [hkd]; simp)
    have hlen2 : asr.length = (ec_mr ν).2.2.1 - 1 := by
      simp only [List.length_cons, List.length_nil] at hlen
      omega
    have cw := callB_of (R := R) (args := args) (s := s) (own := ec_own (ec_mr μ).1) (index := b') (rm := ec_rm ν (h2.2.2.2.1 - h.2.2.2.1) (h2.2.2.2.2.1 - h.2.2.2.2.1)) ((ec_mr ν).2.2.1 - 1) hts (ec_wl_good hν) (by unfold ec_wl; rw [ec_cd_0 hh0, z2]) rfl rfl (hts _ hin) (hts _ hlink) ⟨y3, y4, y6⟩ (hrk hk _ _)
    have hrun := vx_runI (rest := restr) (cells := cells) (slots := slots) (locs := locs) (H := H) (As := asr) (b := r z) (g := F0 m pc lr sr) (e := e) (below := below) (meth := meth) S hM ⟨cw, of_decide_eq_true z1, hts _ hw1⟩
      ⟨ec_blind, ec_pre hE hA hP hD hS⟩ rfl hlen2 hsz (by show sr = _; have := heq; simp at this; exact this) (by show 2 * 0 + _ ≤ 8; rw [ec_SR_cat hrest]; omega) hd hf
    exact ec_after hC hm hn ihn (hSt.hst hrest) rfl hl2 hrun hr
  · cases q3
end ECC
