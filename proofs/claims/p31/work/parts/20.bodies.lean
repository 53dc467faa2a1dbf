/-! Every run of the small machine is the machine's own. -/
theorem ec_fnd_mem : ∀ {l : List (Nat × ec_MI)} {pc : Nat} {q : ec_MI}, ec_fnd l pc = some q → (pc, q) ∈ l
  | [], _, _, h => by cases h
  | a :: l, pc, q, h => by
    cases hb : Nat.beq a.1 pc with
    | true =>
      have h2 : cond (Nat.beq a.1 pc) (some a.2) (ec_fnd l pc) = some q := h
      rw [hb] at h2
      cases h2
      cases Nat.eq_of_beq_eq_true hb
      exact List.mem_cons_self
    | false =>
      have h2 : cond (Nat.beq a.1 pc) (some a.2) (ec_fnd l pc) = some q := h
      rw [hb] at h2
      exact List.mem_cons_of_mem _ (ec_fnd_mem h2)
section ECB
variable {p : Program} {l : Launch} {e : Env} {R : Room} {s : State} {m : MethodId} {args : Array Value} {below : List Frame} {meth : Method} {c : Code} {D : va_G} {ty : Nat → Nat} {L b : Nat} {xs : Nat → Int32} {A : Nat → Prop} {r0 : Nat → Nat} {N0 nc0 ns0 nL mc0 ms0 : Nat} {o : ec_Out} {h' : ec_Hp} {μ n : Nat}
theorem ec_do_all (hrt : ec_rt1 μ = true) (hC : ec_Cx p l R s m args meth c D ty L b xs A μ) (hm : h'.2.2.2.1 = nc0 + mc0) (hn : h'.2.2.2.2.1 = ns0 + ms0) (hmc : mc0 ≤ R.cells) (hms : ms0 ≤ R.slots) (hAA : ec_AA l n)
    (ihn : ec_Gl p l e R s m args below meth c D ty L b xs A r0 N0 nc0 ns0 o h' (vx_MQ below (ec_Qc D ty b A r0 N0 o h') (ec_XC D ty A r0 N0 o h') args s mc0 ms0 A) μ n) :
    ∀ op, ec_Do p l e R s m args below meth c D ty L b xs A r0 N0 nc0 ns0 o h' (vx_MQ below (ec_Qc D ty b A r0 N0 o h') (ec_XC D ty A r0 N0 o h') args s mc0 ms0 A) μ n op
  | 0 => ec_do_0 hC ihn
  | 1 => ec_do_1 hC ihn
  | 2 => ec_do_2 hC ihn
  | 3 => ec_do_3 hC ihn
  | 4 => ec_do_4 hC ihn
  | 5 => ec_do_5 hC ihn
  | 6 => ec_do_6 hC ihn
  | 7 => ec_do_7 hC ihn
  | 8 => ec_do_8 hC ihn
  | 9 => ec_do_9 hC ihn
  | 10 => ec_do_10 hC ihn
  | 11 => ec_do_11 hC ihn
  | 12 => ec_do_12 hC ihn
  | 13 => ec_do_13 hC ihn
  | 14 => ec_do_14 hC ihn
  | 15 => ec_do_15 hC ihn
  | 16 => ec_do_16 hC ihn
  | 17 => ec_do_17 hC ihn
  | 18 => ec_do_18 hC ihn
  | 19 => ec_do_19 hC ihn
  | 20 => ec_do_20 hC ihn
  | 21 => ec_do_21 hC ihn
  | 22 => ec_do_22 hC ihn
  | 23 => ec_do_23 hC ihn
  | 24 => ec_do_24 hC ihn
  | 25 => ec_do_25 hC ihn
  | 26 => ec_do_26 hC ihn
  | 27 => ec_do_27 hC ihn
  | 28 => ec_do_28 hC ihn
  | 29 => ec_do_29 hC hm hn hrt
  | 30 => ec_do_30 hC hm hn hrt
  | 31 => ec_do_31 hC hm hn hrt
  | 32 => ec_do_32 hC hm hn hrt
  | 33 => ec_do_33 hC hm hn hmc hms hAA ihn
  | 34 => ec_do_34 hC hm hn hmc hms ihn
  | 35 => ec_do_35 hC hm hn hmc hms ihn
  | 36 => ec_do_36 hC hm hn hmc hms
  | 37 => ec_do_37 hC hm hn hmc hms ihn
  | 38 => ec_do_38 hC hm hn hmc hms ihn
  | 39 => ec_do_39 hC ihn
  | 40 => ec_do_40 hC ihn
  | 41 => ec_do_41 hC ihn
  | 42 => ec_do_42 hC ihn
  | 43 => ec_do_43 hC ihn
  | _ + 44 => fun _ _ _ _ _ _ _ _ _ _ _ _ _ _ _ _ _ _ _ _ _ hok => by cases hok
theorem ec_bd (hμ : μ ∈ ec_cal_l ∨ μ = 226) (hrt : ec_rt1 μ = true) (hC : ec_Cx p l R s m args meth c D ty L b xs A μ) (hm : h'.2.2.2.1 = nc0 + mc0) (hn : h'.2.2.2.2.1 = ns0 + ms0) (hmc : mc0 ≤ R.cells) (hms : ms0 ≤ R.slots) :
    ∀ n, (∀ k, k < n → ec_AA l k) → ec_Gl p l e R s m args below meth c D ty L b xs A r0 N0 nc0 ns0 o h' (vx_MQ below (ec_Qc D ty b A r0 N0 o h') (ec_XC D ty A r0 N0 o h') args s mc0 ms0 A) μ n
  | 0, _ => fun _ _ _ _ _ _ _ _ _ _ _ hr _ => by cases hr
  | n + 1, hall => by
    have ihn := ec_bd hμ hrt hC hm hn hmc hms n (fun k hk => hall k (Nat.lt_succ_of_lt hk))
    intro pc ls st h r H locs cells slots lr sr hr hSt
    rw [ec_run_s] at hr
    unfold ec_nxt at hr
    cases hi : ec_ins μ pc with
    | none =>
      rw [hi] at hr
      exact (ec_a_fail hr).elim
    | some q =>
      obtain ⟨nx, op, a, b', c', v⟩ := q
      rw [hi] at hr
      have hok := List.all_eq_true.mp (ec_ok_row hμ (i := pc / 16)) _ (ec_fnd_mem hi)
      unfold ec_okI at hok
      cases hd : decode (ec_bc μ) pc with
      | error z =>
        rw [show decode (ec_bc μ) (pc, (nx, op, a, b', c', v)).1 = .error z from hd] at hok
        cases hok
      | ok jk =>
        rw [show decode (ec_bc μ) (pc, (nx, op, a, b', c', v)).1 = .ok jk from hd] at hok
        exact ec_do_all hrt hC hm hn hmc hms (hall n (Nat.lt_succ_self n)) ihn op pc nx a b' c' v jk.1 jk.2 ls st h r H locs cells slots lr sr hr hSt hd hok
end ECB
theorem ec_rt_ok {μ : Nat} (h : μ ∈ ec_cal_l) : ec_rt1 μ = true := (ec_mok_spec h).2.2.2.2.2.2.2.2
/-- the entry of a body -/
theorem ec_ent {p : Program} {l : Launch} {e : Env} {s : State} {m : MethodId} {args : Array Value} {below : List Frame} {meth : Method} {c : Code} {s₁ : State} {D : va_G} {ty : Nat → Nat} {L b : Nat} {xs : Nat → Int32} {r : Nat → Nat} {h : ec_Hp} {as asr : List Value} {o : ec_Out} {h' : ec_Hp} {sz ν n : Nat} {R : Room}
    (hl : l.stackTraces = false) (hν : ν ∈ ec_cal_l) (hall : ∀ k, k < n → ec_AA l k) (hrun : ec_run n ν 0 (ec_iniL ν as) [] h = some (o, h')) (hs : ec_sv h) (hscr : h.2.2.2.2.2 = (L, xs)) (ha : ec_SR r h.1.length b as asr) (hmx : ec_cat as ≤ (ec_mr ν).2.1)
    (hR : R = ec_rm ν (h'.2.2.2.1 - h.2.2.2.1) (h'.2.2.2.2.1 - h.2.2.2.2.1))
    (B : BodyLoose p l (ec_yn ν) (headSpec (ec_wl ν) R) (ec_bc ν) (ec_mr ν).2.1 (ec_re ν) e s m args below meth c s₁) (hml : c.maxLocals = (ec_mr ν).2.1) (htab : c.exceptionTable.toList = tableOf (ec_hh ν)) (hP : ec_Pc D ty L b xs r h sz asr args s) :
    W p l e (headSpec (ec_wl ν) R).room s m args below meth c s.heap [] 0 0 (vx_MQ below (ec_Qc D ty b (va_A (ec_ws ty r h) sz) r h.1.length o h') (ec_XC D ty (va_A (ec_ws ty r h) sz) r h.1.length o h') args s (h'.2.2.2.1 - h.2.2.2.1) (h'.2.2.2.2.1 - h.2.2.2.2.1) (va_A (ec_ws ty r h) sz)) (entryFrame m args (ec_mr ν).2.1) := by
  obtain ⟨hargs, hsz, hPw, hDw, hE⟩ := hP
  subst hargs
  subst hsz
  have hts : ∀ w ∈ ec_gd, w.before asr.toArray s = true := fun w hw => atoms_spec (ws := ec_wl ν) B.pre w (List.mem_cons_of_mem _ hw)
  have y5 := (ec_mok_spec hν).2.2.2.2.1
  have hC : ec_Cx p l R s m asr.toArray meth c D ty L b xs (va_A (ec_ws ty r h) s.heap.size) ν := by
    refine ⟨B.exec, B.bytes, hml, ?_, hts, hE, fun q hq => Or.inr hq, B.notSynchronized, htab, (name_of_methodNamed B.named B.method).1, ?_, ?_, hl, B.returns⟩
    · rw [← y5]
      exact findClass_of_methodNamed B.named
    · rw [hR]
      exact Nat.le_refl _
    · rw [hR]
      exact Nat.le_refl _
  have hle := ec_run_hl n hrun
  have hm : h'.2.2.2.1 = h.2.2.2.1 + (h'.2.2.2.1 - h.2.2.2.1) := by
    have := hle.2.1
    omega
  have hn : h'.2.2.2.2.1 = h.2.2.2.2.1 + (h'.2.2.2.2.1 - h.2.2.2.2.1) := by
    have := hle.2.2.1
    omega
  rw [lg_entry_eq]
  have hlv := lv_entry asr (n := (ec_mr ν).2.1) (by rw [ec_sl_len ha]; exact hmx)
  generalize (lg_sl asr ++ List.replicate ((ec_mr ν).2.1 - (lg_sl asr).length) Slot.unset).toArray = lr at hlv ⊢
  exact ec_bd (Or.inl hν) (ec_rt_ok hν) hC hm hn (by rw [hR]; exact Nat.le_refl _) (by rw [hR]; exact Nat.le_refl _) n hall 0 _ [] h r s.heap [] 0 0 lr [] hrun
    ⟨⟨hs, hPw, hDw.weaken (fun k q hk _ => va_A.in hk), ⟨Nat.le_refl _, fun _ _ _ => rfl, fun q hq => by cases hq⟩⟩, ec_LR_ini ha hlv, trivial, fun _ _ => rfl, Nat.le_refl _, Nat.zero_add _, Nat.zero_add _, hscr⟩
/-- the methods meet the small machine's answers -/
theorem ec_AA_all {l : Launch} (hl : l.stackTraces = false) (n : Nat) : ec_AA l n := by
  induction n using Nat.strongRecOn with
  | _ n hall =>
    intro ν hν D ty L b xs r h as asr o h' sz hrun hs hscr ha hmx
    have y2 := (ec_mok_spec hν).2.1
    by_cases hh0 : ec_hh ν = []
    · refine vx_ofW (cc := ec_bc ν) (maxL := (ec_mr ν).2.1) (ret := ec_re ν) (ws' := ec_gd) y2 (by unfold ec_wl; rw [ec_cd_0 hh0]) ?_
      intro p e s m args below meth c s₁ B hml ht hP
      refine ec_ent hl hν hall hrun hs hscr ha hmx rfl B hml ?_ hP
      rw [hh0]
      cases hx : c.exceptionTable.toList with
      | nil => rfl
      | cons x y => exact (ht x (by rw [hx]; exact List.mem_cons_self)).elim
    · refine vx_ofWH (cc := ec_bc ν) (maxL := (ec_mr ν).2.1) (ret := ec_re ν) (hh := ec_hh ν) (ws' := ec_gd) y2 (by unfold ec_wl; rw [ec_cd_1 hh0]) ?_
      intro p e s m args below meth c s₁ B hml hP
      refine ec_ent hl hν hall hrun hs hscr ha hmx rfl B hml ?_ hP
      exact vx_table (x := ec_yn ν) B (by
        rw [← ec_cd_1 hh0]
        exact atoms_spec (ws := ec_wl ν) B.pre _ List.mem_cons_self)
