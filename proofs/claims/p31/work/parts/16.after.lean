/-! Behind a call: the caller goes on, catches, or ends by the throw. -/
theorem ec_ht_lt {μ : Nat} (h : ec_nth [] ec_ht μ ≠ []) : μ < 227 := by
  rcases Nat.lt_or_ge μ 227 with h1 | h1
  · exact h1
  · exact absurd (ec_nth_ge (by have : ec_ht.length = 227 := by decide +kernel
                                omega)) h
theorem ec_ht_row {μ : Nat} {q : Nat × Nat × Nat × Nat × Nat} (hq : q ∈ ec_nth [] ec_ht μ) : ec_hw (ec_mr μ).1 q ∈ ec_gd ∧ q.2.2.2.2 ≠ 0 ∧ q.2.2.2.1 < 3 := by
  have hne : ec_nth [] ec_ht μ ≠ [] := fun z => by rw [z] at hq; cases hq
  have hlt := ec_ht_lt hne
  have hl : μ < ec_ht.length := by
    have : ec_ht.length = 227 := by decide +kernel
    omega
  have h1 := ec_ht_ok (ec_nth [] ec_ht μ) (by rw [ec_nth_eq hl]; exact List.getElem_mem hl) q hq
  rw [ec_ht_cls μ hlt hne]
  exact ⟨List.mem_filter.mpr ⟨h1.1, rfl⟩, h1.2⟩
theorem ec_pass {p : Program} {l : Launch} {R : Room} {s : State} {m : MethodId} {args : Array Value} {meth : Method} {c : Code} {D : va_G} {ty : Nat → Nat} {L b : Nat} {xs : Nat → Int32} {A : Nat → Prop} {μ pc x : Nat} (hC : ec_Cx p l R s m args meth c D ty L b xs A μ) (hx : x < 3)
    {pre : List (Nat × Nat × Nat × Nat × Nat)} (hin : ∀ q ∈ pre, q ∈ ec_nth [] ec_ht μ) (hno : ∀ q ∈ pre, (Nat.ble q.1 pc && (Nat.blt pc q.2.1 && Nat.beq q.2.2.2.1 x)) = false) :
    ∀ z ∈ pre.map (fun q => (⟨q.1, q.2.1, q.2.2.1, q.2.2.2.2⟩ : ExceptionTableEntry)), covers z pc = false ∨ (z.catchType ≠ 0 ∧ ∃ nm : String, (Cond.classLink (ec_own (ec_mr μ).1) z.catchType nm).before args s = true ∧ va_Nc (ec_nth "" ec_exc x) nm s) := by
  obtain ⟨-, -, -, -, hts, hE, -⟩ := hC
  intro z hz
  obtain ⟨q, hq, rfl⟩ := List.mem_map.mp hz
  obtain ⟨h1, h2, h3⟩ := ec_ht_row (hin q hq)
  by_cases hc : covers (⟨q.1, q.2.1, q.2.2.1, q.2.2.2.2⟩ : ExceptionTableEntry) pc = true
  · right
    refine ⟨h2, ec_nth "" ec_exc q.2.2.2.1, hts _ h1, ?_⟩
    obtain ⟨c1, c2⟩ := ec_bt_and hc
    have c1 : q.1 ≤ pc := of_decide_eq_true c1
    have c2 : pc < q.2.1 := of_decide_eq_true c2
    have hne : x ≠ q.2.2.2.1 := by
      rintro rfl
      have := hno q hq
      rw [Nat.ble_eq_true_of_le c1, show Nat.blt pc q.2.1 = true by simpa using c2, Nat.beq_refl] at this
      cases this
    exact hE.2.2.1 _ (ec_NcL_mem hx h3 hne)
  · left
    simpa using hc
set_option maxHeartbeats 4000000 in
theorem ec_after {p : Program} {l : Launch} {e : Env} {R : Room} {s : State} {m : MethodId} {args : Array Value} {below : List Frame} {meth : Method} {c : Code} {D : va_G} {ty : Nat → Nat} {L b : Nat} {xs : Nat → Int32} {A : Nat → Prop} {r0 : Nat → Nat} {N0 nc0 ns0 mc0 ms0 μ n : Nat} {o : ec_Out} {h' : ec_Hp}
    (hC : ec_Cx p l R s m args meth c D ty L b xs A μ) (hm : h'.2.2.2.1 = nc0 + mc0) (hn : h'.2.2.2.2.1 = ns0 + ms0)
    (ihn : ec_Gl p l e R s m args below meth c D ty L b xs A r0 N0 nc0 ns0 o h' (vx_MQ below (ec_Qc D ty b A r0 N0 o h') (ec_XC D ty A r0 N0 o h') args s mc0 ms0 A) μ n)
    {pc nx : Nat} {ls rest : List Value} {h h2 : ec_Hp} {r : Nat → Nat} {H : Heap} {locs : List Loc} {cells slots : Nat} {lr : Array Slot} {sr0 restr : List Value} {o2 : ec_Out} {av : Array Value}
    (hSt : ec_St s D ty L b xs A (ec_mr μ).2.1 r0 N0 nc0 ns0 ls rest h r H locs cells slots lr restr) (hnx : nx = pc + 3) (hl2 : ec_hl h h2)
    (hr : vx_Run p l e R s m args below meth c H locs cells slots (h2.2.2.2.1 - h.2.2.2.1) (h2.2.2.2.2.1 - h.2.2.2.2.1) (F0 m pc lr sr0) restr (ec_Qc D ty b (va_A (ec_ws ty r h) H.size) r h.1.length o2 h2 av) (ec_XC D ty (va_A (ec_ws ty r h) H.size) r h.1.length o2 h2) (va_A (ec_ws ty r h) H.size))
    (hrun : ec_aft (ec_run n) μ pc nx ls rest (some (o2, h2)) = some (o, h')) :
    W p l e R s m args below meth c H locs cells slots (vx_MQ below (ec_Qc D ty b A r0 N0 o h') (ec_XC D ty A r0 N0 o h') args s mc0 ms0 A) (F0 m pc lr sr0) := by
  obtain ⟨⟨hsv, hP, hD, hS⟩, hLR, hSR, hr0, hN0, hcc, hss, hscr⟩ := hSt
  have hC' := hC
  obtain ⟨hx, hb, hml, hown, hts, hE, hA, hlocks, htab, -⟩ := hC'
  have hAA : ∀ q, va_A (ec_ws ty r h) H.size q → A q := by
    rintro q (⟨k, x, hk⟩ | hq)
    · exact hD.2 k _ hk
    · exact hA q (Nat.le_trans hS.1 hq)
  obtain ⟨l1, l2, l3, l4⟩ := hl2
  intro T hT X
  rcases hr T hT X with ⟨v, st₀, t, T', Lc, h0, X', hL, e1, e2, ⟨r', v', ho, hr', hov, hsv2, hP2, hD2, hF⟩, st⟩ | ⟨q, st₀, t, T', Lc, E, ce, h0, X', hL, e1, e2, ⟨r', x, ho, hx3, hEx, hr', hsv2, hP2, hD2, hF⟩, hce, hcv, hcl, st⟩
  · subst ho
    replace hrun : ec_run n μ nx ls (v'.toList ++ rest) h2 = some (o, h') := hrun
    obtain ⟨k1, k2, k3⟩ := vx_keep h0 e1 hS (fun q _ z => hAA q z) hAA hL hF
    have hv : ec_SR r' h2.1.length b v'.toList v.toList := by
      cases v' with
      | none =>
        cases hov
        trivial
      | some a =>
        obtain ⟨w, hw, hov⟩ := hov
        cases hov
        exact ⟨hw, trivial⟩
    have hSt2 : ec_St s D ty L b xs A (ec_mr μ).2.1 r0 N0 nc0 ns0 ls (v'.toList ++ rest) h2 r' T'.heap (locs ++ Lc) (cells + (h2.2.2.2.1 - h.2.2.2.1)) (slots + (h2.2.2.2.2.1 - h.2.2.2.2.1)) lr (v.toList ++ restr) :=
      ⟨⟨hsv2, by rw [e1]; exact hP2, hD2.weaken (fun _ _ _ z => hAA _ z), k3⟩, ec_LR_mono l1 hr' hLR, ec_SR_app hv (ec_SR_mono l1 hr' hSR), fun k hk => (hr' k (Nat.lt_of_lt_of_le hk hN0)).trans (hr0 k hk), Nat.le_trans hN0 l1, by omega, by omega, l4.trans hscr⟩
    obtain ⟨t2, a1, b1⟩ := ihn nx ls _ h2 r' T'.heap _ _ _ lr _ hrun hSt2 T' rfl X'
    subst hnx
    exact ⟨t2, st t2 a1, b1⟩
  · subst ho
    obtain ⟨k1, k2, k3⟩ := vx_keep h0 e1 hS (fun q _ z => hAA q z) hAA hL hF
    have htab2 : c.exceptionTable.toList = (ec_nth [] ec_ht μ).map (fun q => (⟨q.1, q.2.1, q.2.2.1, q.2.2.2.2⟩ : ExceptionTableEntry)) := by
      rw [htab]
      simp [ec_hh, tableOf]
    have hce' : T'.heap[q]? = some ce := by rw [e1]; exact hce
    simp only [ec_aft] at hrun
    cases hh : ec_hnd (ec_nth [] ec_ht μ) pc x with
    | some tg =>
      rw [hh] at hrun
      obtain ⟨pre, z, suf, hsp, htg, hz, hpre⟩ := ec_hnd_some hh
      obtain ⟨z1, z2⟩ := ec_bt_and hz
      obtain ⟨z2, z3⟩ := ec_bt_and z2
      have z3 := Nat.eq_of_beq_eq_true z3
      obtain ⟨w1, w2, w3⟩ := ec_ht_row (μ := μ) (q := z) (by rw [hsp]; simp)
      have hSt2 : ec_St s D ty L b xs A (ec_mr μ).2.1 r0 N0 nc0 ns0 ls [.retAddr 0] h2 r' T'.heap (locs ++ Lc) (cells + (h2.2.2.2.1 - h.2.2.2.1)) (slots + (h2.2.2.2.2.1 - h.2.2.2.2.1)) lr [.ref q] :=
        ⟨⟨hsv2, by rw [e1]; exact hP2, hD2.weaken (fun _ _ _ z => hAA _ z), k3⟩, ec_LR_mono l1 hr' hLR, ⟨⟨q, rfl⟩, trivial⟩, fun k hk => (hr' k (Nat.lt_of_lt_of_le hk hN0)).trans (hr0 k hk), Nat.le_trans hN0 l1, by omega, by omega, l4.trans hscr⟩
      have kk := ihn tg ls _ h2 r' T'.heap _ _ _ lr _ hrun hSt2
      have hvw := vx_catch (E := E) (ce := ce) (q := q) (pc := pc) (rest := restr) hown (pre.map (fun q => (⟨q.1, q.2.1, q.2.2.1, q.2.2.2.2⟩ : ExceptionTableEntry))) ⟨z.1, z.2.1, z.2.2.1, z.2.2.2.2⟩ (suf.map (fun q => (⟨q.1, q.2.1, q.2.2.1, q.2.2.2.2⟩ : ExceptionTableEntry))) (by rw [htab2, hsp]; simp)
        (by rw [hEx]; exact ec_pass hC hx3 (fun y hy => by rw [hsp]; simp [hy]) hpre) (by show (decide _ && decide _) = true; rw [decide_eq_true (Nat.le_of_ble_eq_true z1), decide_eq_true (show pc < z.2.1 by simpa using z2)]; rfl) w2
        (hts _ w1) (va_Nw.use rfl (by rw [hEx, z3]; exact hE.2.1 _ (ec_cas hx3))) hce' hcv hcl (by subst htg; exact kk)
      obtain ⟨t2, a1, b1⟩ := hvw T' rfl X'
      exact ⟨t2, st.trans a1, b1⟩
    | none =>
      rw [hh] at hrun
      cases hrun
      have hpass := ec_pass (pc := pc) (x := x) hC hx3 (fun y hy => hy) (ec_hnd_none hh)
      rw [← htab2] at hpass
      have hvw := vx_outP (H := T'.heap) (locs := locs ++ Lc) (cells := cells + (h'.2.2.2.1 - h.2.2.2.1)) (slots := slots + (h'.2.2.2.2.1 - h.2.2.2.2.1)) (p := p) (l := l) (e := e) (below := below) (R := R) (ls := lr) (rest := restr) (Qc := ec_Qc D ty b A r0 N0 (.inr x) h') (XC := ec_XC D ty A r0 N0 (.inr x) h') (free := A) (mc := mc0) (ms := ms0) hown hlocks (by rw [hEx]; exact hpass) hce' hcv hcl
        (fun t2 ht2 _ => ⟨r', x, rfl, hx3, hEx, fun k hk => (hr' k (Nat.lt_of_lt_of_le hk hN0)).trans (hr0 k hk), hsv2, by rw [ht2, e1]; exact hP2, hD2.weaken (fun _ _ _ z => hAA _ z), k3.F ht2⟩) (fun z hz => k3.2.2 z hz) (by omega) (by omega)
      obtain ⟨t2, a1, b1⟩ := hvw T' rfl X'
      exact ⟨t2, st.trans a1, b1⟩
