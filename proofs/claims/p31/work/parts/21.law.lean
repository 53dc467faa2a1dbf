/-! THE CLAIM OUT OF ONE WALK OF THE LAW'S BODY. Your part is whole_start (and what it stands on); all else here is the same for every law, but numbers. -/
def R_law : String := "EchoDungeonLaw"
def lw_P (b : Addr) (xs : List Int32) (args : Array Value) (s : State) : Prop := args = #[.ref b] ∧ s.IntsAt b xs ∧ xs.length ≤ 260 ∧ (Jvm.Cond.and given_1 narrow_1).before args s = true
def lw_Q (_ : Array Value) (s : State) (o : Outcome) (t : State) : Prop := o = .returned (some (.int 1)) ∧ Framed s o t [] 1200086 5501442
def lw_Z (below : List Frame) (a : Array Value) (s : State) : State → Prop := fun t => ∃ o, t.status = .running ∧ Ended t below o ∧ lw_Q a s o t
/-- the law's own end, with 1 on the stack, nothing written that was there before, its room as the claim has it -/
theorem lw_ret {p : Program} {l : Launch} {e : Env} {s : State} {m : MethodId} {below : List Frame} {meth : Method} {c : Code} {b : Nat} (hx : p.tables.exec = Jvm.exec) (hb : c.code = code) (hr : meth.sig.returnType = ret) (hlocks : meth.locks = false) {pc : Nat} {H : Heap} {ls : Array Slot} (hdg : decode code pc = .ok (.ireturn, 1)) : W p l e room_1 s m #[Value.ref b] below meth c H [] 1200086 5501442 (lw_Z below #[Value.ref b] s) (F0 m pc ls [.int 1]) := by
  intro T hT X
  obtain ⟨fs, hret, hrun, hended, hW, hframe⟩ := X.leave (v := some (.int 1)) (hlocks := hlocks) (fun h => by rw [hr] at h; cases h)
  have hmeth' : T.vm.method? m = some meth := X.method'
  refine ⟨T.setFrames fs, ?_, .returned (some (.int 1)), hrun, hended, rfl, ⟨_, rfl⟩, hW, hframe⟩
  jvm_step X.here [X.here.top, hx, hb, hdg, hmeth', hr, ret, narrow_b1]
  (try refine ⟨rfl, ?_⟩); (try refine ⟨rfl, ?_⟩)
  first | (intro acts; rw [hret _ acts rfl rfl rfl]) | rw [hret _ _ rfl rfl rfl]
  exact Steps.refl _
/-- what holds at the law's entry: the machine, the code, the tables' words (any of lw_tbl by 'hts w (by decide +kernel)'), the script of L ints xs at the cell b, what the Statement gives of the start (any of its parts by flat_of_before) -/
def lw_At (p : Program) (s : State) (m : MethodId) (meth : Method) (c : Code) (b L : Nat) (xs : Nat → Int32) : Prop :=
  p.tables.exec = Jvm.exec ∧ c.code = code ∧ meth.sig.returnType = ret ∧ c.maxLocals = 12 ∧ s.vm.findClass R_law = some m.cls ∧ (∀ w ∈ lw_tbl, w.before #[Value.ref b] s = true) ∧ va_X b L xs s s.heap ∧ b < s.heap.size ∧ meth.locks = false ∧ (Jvm.Cond.and given_1 narrow_1).before #[Value.ref b] s = true
/-! The law's entry: what every frame is called with, out of the Statement's words; and the end of the law out of a run of the small machine. -/
def ec_h0 (L : Nat) (xs : Nat → Int32) : ec_Hp := ([], fun _ _ => 0, fun _ _ => 0, 0, 0, L, xs)
theorem ec_same {s u : State} {locs : List Loc} {k n k2 n2 : Nat} (h : s.sameButNew u locs k n) (hL : ∀ q ∈ locs, s.heap.size ≤ q.base) (hk : k ≤ k2) (hn : n ≤ n2) : s.sameButNew u [] k2 n2 := by
  obtain ⟨a1, a2, a3, a4, a5, a6⟩ := h
  refine ⟨a1, a2, Nat.le_trans a3 (Nat.add_le_add_left hk _), a4, Nat.le_trans a5 hn, fun a c hc => ?_⟩
  obtain ⟨c', b1, b2, b3, b4⟩ := a6 a c hc
  refine ⟨c', b1, b2, b3, fun i _ => b4 i (fun hm => ?_)⟩
  have h1 := hL _ hm
  have h2 : a < s.heap.size := (Array.getElem?_eq_some_iff.mp hc).1
  exact absurd h2 (Nat.not_lt.mpr h1)
theorem ec_arr {s : State} {args : Array Value} {T : FieldType} (hT : ∀ C, T ≠ .object C) (h : (Cond.arrayClass T).before args s = true) : ∃ cA : ClassId, ArrOfT s cA T ∧ va_RA s cA T := by
  obtain ⟨cA, kA, comp, h1, h2, h3⟩ := Cond.arrayClass_spec h
  refine ⟨cA, fun n z => ⟨fun k hk => (by cases hk), kA, h2, comp, h3⟩, ?_⟩
  cases T with
  | object C => exact absurd rfl (hT C)
  | _ => exact h1
theorem ec_aro {s : State} {C : String} (h : va_AO C s) : ∃ cA : ClassId, ArrOfT s cA (.object C) ∧ va_RA s cA (.object C) := by
  obtain ⟨comp, cA, kA, h1, h2, h3, h4, h5⟩ := Cond.arrayOver_spec h
  exact ⟨cA, fun n z => ⟨fun k hk => (by cases hk), kA, h3, comp, h4⟩, kA, comp, h3, h4, h1, h5⟩
set_option maxRecDepth 100000 in
theorem ec_thw_ok : ∀ q ∈ ec_th, Cond.stringRef "EchoDungeon" q.2.2.1 q.2.2.2.2.2 ∈ lw_tbl := by decide +kernel
set_option maxRecDepth 100000 in
theorem ec_st_ok : (Cond.laysStatic Bundle.tN "UNASSIGNED_STACK" Bundle.steD ∈ lw_tbl ∧ Cond.laysStatic Bundle.tN "SUPPRESSED_SENTINEL" Bundle.listD ∈ lw_tbl) ∧ (Cond.initialized Bundle.tN ∈ lw_tbl ∧ Cond.arrayOver (.object "EchoDungeon$Dungeon") ∈ lw_tbl) := by decide +kernel
theorem ec_flags {l : Launch} (h : l.flags = flags0) : l.stackTraces = false := by
  unfold Launch.stackTraces
  rw [h]
  decide +kernel
theorem ec_ev0 {s : State} {b L : Nat} {xs : Nat → Int32} (hts : ∀ w ∈ lw_tbl, w.before #[Value.ref b] s = true) (hX : va_X b L xs s s.heap) (hbl : b < s.heap.size) (hgv : (Jvm.Cond.and given_1 narrow_1).before #[Value.ref b] s = true) :
    ∃ (D : va_G) (ty : Nat → Nat), ec_Ev D ty L b xs (fun q => s.heap.size ≤ q) s := by
  have hgd : ∀ w ∈ ec_gd, w.before #[Value.ref b] s = true := fun w hw => hts w (List.mem_filter.mp hw).1
  have hfl := flat_of_before _ hgv
  have hcl : ∀ c : Nat, ∃ (cC : ClassId) (iS : Nat → Nat), c < 7 → u_Kn s (ec_own c) (ec_T c) (ec_N c) cC iS := by
    intro c
    by_cases hc : c < 7
    · obtain ⟨cC, iS, h⟩ := u_known (n := ec_N c) hgd (ec_lay_in hc) (hgd _ (ec_ins_in hc))
      exact ⟨cC, iS, fun _ => h⟩
    · exact ⟨0, fun _ => 0, fun h => absurd h hc⟩
  have hAO : va_AO "EchoDungeon$Dungeon" s := va_AO.of (hts _ ec_st_ok.2.2)
  obtain ⟨t0, a0⟩ := ec_arr (fun C z => by cases z) (hgd _ ec_ac_i)
  obtain ⟨t1, a1⟩ := ec_arr (fun C z => by cases z) (hgd _ ec_ac_z)
  obtain ⟨t2, a2⟩ := ec_arr (fun C z => by cases z) (hgd _ ec_ac_b)
  obtain ⟨t3, a3⟩ := ec_arr (fun C z => by cases z) (hgd _ ec_ac_i)
  obtain ⟨t4, a4⟩ := ec_aro hAO
  refine ⟨(fun c => (hcl c).choose, fun c => (hcl c).choose_spec.choose), fun k => ec_nth 0 [t0, t1, t2, t3, t4] k, ⟨?_, ?_⟩, ?_, ?_, ⟨?_, ?_⟩, hAO, ?_, ?_, hX, hbl, Nat.not_le.mpr hbl⟩
  · intro c q hq
    have hc : c < 7 := (List.getElem?_eq_some_iff.mp hq).1
    have h := (hcl c).choose_spec.choose_spec hc
    rw [ec_cl_at hc] at hq
    cases hq
    exact h
  · intro k q hq
    match k, hq with
    | 0, hq => cases hq; exact a0
    | 1, hq => cases hq; exact a1
    | 2, hq => cases hq; exact a2
    | 3, hq => cases hq; exact a3
    | 4, hq => cases hq; exact a4
    | k + 5, hq => simp [ec_tys] at hq
  · intro w hw
    have h1 := hts w (List.mem_filter.mp hw).1
    have h2 := (List.mem_filter.mp hw).2
    cases w with
    | fieldLinkNest a i b n d x => exact va_tabs rfl rfl h1
    | methodLinkNest a i x y => exact va_tabs rfl rfl h1
    | castable a b => exact va_tabs rfl rfl h1
    | _ => cases h2
  · intro x hx
    simp only [ec_NcL, List.mem_cons, List.mem_nil_iff, or_false] at hx
    rcases hx with rfl | rfl | rfl | rfl | rfl | rfl
    · exact va_Nc.of (hfl (.not (.castable "java/lang/IllegalArgumentException" "java/lang/IllegalStateException")) (by decide +kernel))
    · exact va_Nc.of (hfl (.not (.castable "java/lang/IllegalArgumentException" "java/lang/IndexOutOfBoundsException")) (by decide +kernel))
    · exact va_Nc.of (hfl (.not (.castable "java/lang/IllegalStateException" "java/lang/IllegalArgumentException")) (by decide +kernel))
    · exact va_Nc.of (hfl (.not (.castable "java/lang/IllegalStateException" "java/lang/IndexOutOfBoundsException")) (by decide +kernel))
    · exact va_Nc.of (hfl (.not (.castable "java/lang/IndexOutOfBoundsException" "java/lang/IllegalArgumentException")) (by decide +kernel))
    · exact va_Nc.of (hfl (.not (.castable "java/lang/IndexOutOfBoundsException" "java/lang/IllegalStateException")) (by decide +kernel))
  · intro q hq
    have h1 := hts _ (ec_thw_ok q hq)
    have hcur : ∃ cur, s.vm.findClass "EchoDungeon" = some cur := ⟨_, ((hcl 6).choose_spec.choose_spec (by decide)).2.1⟩
    obtain ⟨cur, hcur⟩ := hcur
    obtain ⟨k, cf, i, a, -, -, -, -, -, h2⟩ := Cond.stringRef_spec hcur h1
    exact ⟨a, vk_R.of h1 h2⟩
  · intro w hw
    have h1 := hts w (List.mem_filter.mp hw).1
    have h2 := (List.mem_filter.mp hw).2
    cases w with
    | declares x => exact va_tabs rfl rfl h1
    | _ => cases h2
  · exact vx_Zqof (hts _ ec_st_ok.1.1) (hts _ ec_st_ok.2.1) (hfl (.isRef (.static Bundle.tN "UNASSIGNED_STACK" Bundle.steD)) (by decide +kernel)) (fun a ha => Nat.not_le.mpr ha)
  · exact vx_Zqof (hts _ ec_st_ok.1.2) (hts _ ec_st_ok.2.1) (hfl (.isRef (.static Bundle.tN "SUPPRESSED_SENTINEL" Bundle.listD)) (by decide +kernel)) (fun a ha => Nat.not_le.mpr ha)
theorem ec_226 : (ec_yn 226 = x ∧ ec_hh 226 = []) ∧ (ec_rt1 226 = true ∧ (ec_mr 226 = (8, 12, 1, 2, (ec_mr 226).2.2.2.2.1, (ec_mr 226).2.2.2.2.2) ∧ ((ec_mr 226).2.2.2.2.1 ≤ 12 ∧ (ec_mr 226).2.2.2.2.2 ≤ 494))) ∧ ec_re 226 = ret := by decide +kernel
theorem ec_226c : ec_bc 226 = code := rfl
theorem ec_W_mono {p : Program} {l : Launch} {e : Env} {R : Room} {s : State} {m : MethodId} {args : Array Value} {below : List Frame} {meth : Method} {c : Code} {H : Heap} {locs : List Loc} {cells slots : Nat} {P Q : State → Prop} {g : JFrame} (h : W p l e R s m args below meth c H locs cells slots P g) (hq : ∀ t, P t → Q t) : W p l e R s m args below meth c H locs cells slots Q g := by
  intro T hT X
  obtain ⟨t, a, b⟩ := h T hT X
  exact ⟨t, a, hq t b⟩
set_option maxHeartbeats 4000000 in
theorem ec_law {p : Program} {l : Launch} {e : Env} {s : State} {m : MethodId} {below : List Frame} {meth : Method} {c : Code} (hflags : l.flags = flags0) {b L : Nat} {xs : Nat → Int32} (C0 : lw_At p s m meth c b L xs) (hnm : s.methodNamed? x = some m) (hmt : s.vm.method? m = some meth) (hct : c.exceptionTable.toList = [])
    {n : Nat} {h' : ec_Hp} (hrun : ec_run n 226 0 (ec_iniL 226 [.float 0]) [] (ec_h0 L xs) = some (.inl (some (.int 1)), h')) (hc : h'.2.2.2.1 ≤ 1200086) (hsl : h'.2.2.2.2.1 ≤ 5501442) :
    W p l e room_1 s m #[Value.ref b] below meth c s.heap [] 0 0 (lw_Z below #[Value.ref b] s) (entryFrame m ([Value.ref b] : List Value).toArray 12) := by
  obtain ⟨hx, hb, hr, hml, hown, hts, hX, hbl, hlocks, hgv⟩ := C0
  obtain ⟨D, ty, hE⟩ := ec_ev0 hts hX hbl hgv
  obtain ⟨⟨z1, z2⟩, ⟨z3, z4, z5, z6⟩, z7⟩ := ec_226
  have hgd : ∀ w ∈ ec_gd, w.before #[Value.ref b] s = true := fun w hw => hts w (List.mem_filter.mp hw).1
  have hC : ec_Cx p l room_1 s m #[Value.ref b] meth c D ty L b xs (fun q => s.heap.size ≤ q) 226 := by
    refine ⟨hx, hb.trans ec_226c.symm, ?_, ?_, hgd, hE, fun q hq => hq, hlocks, ?_, ?_, z5, z6, ec_flags hflags, hr.trans z7.symm⟩
    · rw [hml, z4]
    · rw [z4]
      exact hown
    · rw [hct, z2]
      rfl
    · rw [z1]
      exact (name_of_methodNamed hnm hmt).1
  rw [lg_entry_eq]
  have hlv := lv_entry ([.ref b]) (n := 12) (Nat.le_of_ble_eq_true rfl)
  generalize (lg_sl ([.ref b]) ++ List.replicate (12 - (lg_sl ([.ref b])).length) Slot.unset).toArray = lr at hlv ⊢
  have hm7 : (ec_mr 226).2.1 = 12 := by rw [z4]
  have hlr : ec_LR (fun _ => 0) 0 b (ec_mr 226).2.1 (ec_iniL 226 [.float 0]) lr := by
    unfold ec_iniL
    rw [hm7]
    exact ec_LR_ini (as := [.float 0]) (asr := [.ref b]) ⟨rfl, trivial⟩ hlv
  have hS : va_S (fun q : Nat => s.heap.size ≤ q) s.heap s.heap [] := va_S.rf
  have K := ec_bd (e := e) (below := below) (R := room_1) (r0 := fun _ => 0) (N0 := 0) (nc0 := 0) (ns0 := 0) (o := .inl (some (.int 1))) (h' := h') (mc0 := h'.2.2.2.1) (ms0 := h'.2.2.2.2.1) (Or.inr rfl) z3 hC (Nat.zero_add _).symm (Nat.zero_add _).symm hc hsl n (fun k _ => ec_AA_all (ec_flags hflags) k)
    0 _ [] (ec_h0 L xs) (fun _ => 0) s.heap [] 0 0 lr [] hrun
    ⟨⟨⟨fun q k z hz => (by cases hz), fun q hq => absurd (show (1000 : Nat) < 7 from hq) (by decide)⟩, fun k q h => (by simp [ec_ws, ec_h0] at h), ⟨fun i j p q h => (by simp [ec_ws, ec_h0] at h), fun k q h => (by simp [ec_ws, ec_h0] at h)⟩, hS⟩, hlr, trivial, fun _ _ => rfl, Nat.le_refl _, rfl, rfl, rfl⟩
  refine ec_W_mono K ?_
  rintro t ⟨oc, h1, h2, h3⟩
  rcases h3 with ⟨⟨r', v, ho, -, hov, -⟩, Lc, ⟨hv, hW, hF⟩, hL⟩ | ⟨q, -, E, ce, Lc, ⟨r', y, ho, -⟩, -⟩
  · cases ho
    obtain ⟨w, hw, hov⟩ := hov
    cases hw
    subst hov
    exact ⟨_, h1, h2, rfl, ⟨_, rfl⟩, hW, ec_same hF hL hc hsl⟩
  · cases ho
