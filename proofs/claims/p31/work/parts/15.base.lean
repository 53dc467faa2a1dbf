/-! ===== BEGIN a constructor that throws (launches without stack traces) ===== -/
section VXIA
variable {p : Program} {l : Launch} {e : Env} {R : Room} {s : State} {m : MethodId} {args : Array Value} {below : List Frame} {meth : Method} {c : Code} {T : State} {locs : List Loc} {cells slots : Nat}
theorem vx_callI (X : Stand p l e R s m args below meth c T locs cells slots) (hexec : p.tables.exec = Jvm.exec) {own : String} {index : Nat} {y : MethodName} {bytes : ByteArray} {maxL : Nat}
    (hown : s.vm.findClass own = some m.cls) (hy1 : y.name = "<init>") (hlink : (Cond.methodLink own index y).before args s = true) (hinst : (Cond.instanceMethod y).before args s = true)
    (hcode : (Cond.code y bytes maxL none).before args s = true) (hy : y.cls ≠ "java/lang/invoke/MethodHandle" ∧ y.cls ≠ "java/lang/invoke/VarHandle")
    {W9 : Nat} {Pre : Pt → Array Value → Prop} {Post : Pt → Array Value → Option Value → Pt → Prop} {PostX : Pt → Array Value → Addr → Pt → Prop} (hK : vx_Back l R p e below s args y 3 W9 Pre Post PostX)
    {g : JFrame} (hg : g.method = m) (hsize : g.locals.size = c.maxLocals) {a : Addr} {argsL rest : List Value} (hlen : ∀ sig, parseMethodDescriptor y.desc = some sig → argsL.length = sig.parameters.length)
    (hstack : g.stack = argsL.reverse ++ .ref a :: rest) (hW : 2 * g.monitorRoom + (rest.map fun v => v.category).sum ≤ W9) (hdg : decode c.code g.pc = .ok (.invokespecial index, 3))
    (hpre : ∀ vm₁, s.WarmedH vm₁ → Pre ⟨T.setVm vm₁, locs, cells, slots⟩ (Value.ref a :: argsL).toArray) :
    (∃ (v : Option Value) (vm₁ : Vm) (B : Pt), s.WarmedH vm₁ ∧ Stand p l e R s m args below meth c B.U B.locs B.cells B.slots ∧ Post ⟨T.setVm vm₁, locs, cells, slots⟩ (Value.ref a :: argsL).toArray v B ∧
      ∀ target, Steps p.tables e below (B.U.setTop { g with pc := g.pc + 3, stack := v.toList ++ rest }) target → Steps p.tables e below (T.setTop g) target) ∨
    (∃ (q : Addr) (vm₁ : Vm) (B : Pt), s.WarmedH vm₁ ∧ Stand p l e R s m args below meth c B.U B.locs B.cells B.slots ∧ PostX ⟨T.setVm vm₁, locs, cells, slots⟩ (Value.ref a :: argsL).toArray q B ∧
      Steps p.tables e below (T.setTop g) ((B.U.setTop { g with stack := rest }).pushFrame (.throwing q))) := by
  subst hg
  have hpl : e.platform.magicAccessors = ({} : Platform).magicAccessors := by rw [X.admits.platform]
  obtain ⟨mk, methM, cM, kP, vm₁, hnamed, hmethM, hcodeM, -, hlocalsM, -, hkP, -, hW₁, hstep₁⟩ := Steps.initColdArgs (e := e) X.here hexec X.warmed hpl hown hy1 hy hlink hinst hcode (f := g) rfl hlen hstack hdg
  have X₁ := X.noted hW₁
  rcases hK g.method meth c ⟨T.setVm vm₁, locs, cells, slots⟩ { g with stack := rest } (.invokespecial index) mk (Value.ref a :: argsL).toArray X₁ rfl hsize hdg hW (X₁.named hnamed) (hpre vm₁ X₁.warmed) with ⟨v, B, X', hpost, hsteps⟩ | ⟨q, B, X', hpost, hsteps⟩
  · exact Or.inl ⟨v, vm₁, B, X₁.warmed, X', hpost, fun target h => hstep₁ _ fun acts => by rw [doInvoke_state]; exact hsteps.trans h⟩
  · exact Or.inr ⟨q, vm₁, B, X₁.warmed, X', hpost, hstep₁ _ fun acts => by rw [doInvoke_state]; exact hsteps⟩
end VXIA
section VXIB
variable {p : Program} {l : Launch} {e : Env} {R : Room} {s : State} {m : MethodId} {args : Array Value} {below : List Frame} {meth : Method} {c : Code} {H : Heap} {locs : List Loc} {cells slots : Nat}
variable {y : MethodName} {bytes cc : ByteArray} {maxL nL mc ms n index : Nat} {ret : Option FieldType} {ws : List Cond} {rm : Room} {Pc : Array Value → State → Prop} {Qc : Array Value → State → Outcome → State → Prop} {XC : String → State → State → Prop} {free : Addr → Prop} {Ts : List Cond} {own C : String} {b : Addr} {As rest : List Value} {g : JFrame}
theorem vx_runI (S : CallFix p m c cc nL s args Ts own) (hM : vx_Met l y ws rm Pc Qc XC mc ms free) (cw : CallB R s args own index y bytes maxL none ws rm mc ms n ∧ y.name = "<init>" ∧ (Cond.instanceMethod y).before args s = true) (hp : PreS s H Pc (.ref b :: As))
    (hg : g.method = m) (hn : As.length = n) (hsize : g.locals.size = nL) (hstack : g.stack = As.reverse ++ .ref b :: rest) (hW : 2 * g.monitorRoom + (rest.map fun v => v.category).sum ≤ 8) (hdg : decode cc g.pc = .ok (.invokespecial index, 3)) (hf : cells + mc ≤ R.cells ∧ slots + ms ≤ R.slots) :
    vx_Run p l e R s m args below meth c H locs cells slots mc ms g rest (Qc (Value.ref b :: As).toArray) XC free := by
  have hK : vx_Back l R p e below s args y 3 8 (PreOf R mc ms Pc) (PostOf Qc mc ms free) (vx_Post XC mc ms free) := vx_callBack cw.1 hM hp.1
  obtain ⟨⟨-, -, -, -, -, -, hcode, -, hy, hlen, hl⟩, hy1, hin⟩ := cw
  obtain ⟨hx, hb, hml, ho, -⟩ := S
  have hPc := hp.2
  intro T hT X
  rcases vx_callI X hx (bytes := bytes) (maxL := maxL) ho hy1 hl hin hcode hy hK hg (hsize.trans hml.symm) (a := b) (argsL := As) (rest := rest) (fun sig h => hn.trans (hlen sig h)) hstack hW (by rw [hb]; exact hdg)
    (fun vm₁ hW₁ => ⟨hf.1, hf.2, hPc (T.setVm vm₁) hT hW₁⟩) with ⟨v, vm₁, ⟨U', l2, c2, s2⟩, hW₁, X', ⟨g', mk, t, L, e1, e2, hq, h1, hL, h2, h3⟩, st⟩ | ⟨q, vm₁, ⟨U', l2, c2, s2⟩, hW₁, X', ⟨g', mk, t, L, E, ce, e1, e2, hq, hce, hcv, hcl, h1, hL, h2, h3⟩, st⟩
  · dsimp only [Pt.U, Pt.locs, Pt.cells, Pt.slots] at X' e1 e2 h1 h2 h3 st
    subst h1; subst h2; subst h3
    exact Or.inl ⟨v, (T.setVm vm₁).calling g' mk (Value.ref b :: As).toArray, t, U', L, hT, X', hL, e1, e2, hq, st⟩
  · dsimp only [Pt.U, Pt.locs, Pt.cells, Pt.slots] at X' e1 e2 h1 h2 h3 st hcl
    subst h1; subst h2; subst h3
    exact Or.inr ⟨q, (T.setVm vm₁).calling g' mk (Value.ref b :: As).toArray, t, U', L, E, ce, hT, X', hL, e1, e2, hq, hce, hcv, vx_cls hW₁ hcl, st⟩
end VXIB
/-! ===== END ===== -/
/-! What a run keeps; the contracts. -/
def ec_hl (h h2 : ec_Hp) : Prop := h.1.length ≤ h2.1.length ∧ h.2.2.2.1 ≤ h2.2.2.2.1 ∧ h.2.2.2.2.1 ≤ h2.2.2.2.2.1 ∧ h2.2.2.2.2.2 = h.2.2.2.2.2
theorem ec_hl_refl (h : ec_Hp) : ec_hl h h := ⟨Nat.le_refl _, Nat.le_refl _, Nat.le_refl _, rfl⟩
theorem ec_hl_trans {h h2 h3 : ec_Hp} (a : ec_hl h h2) (b : ec_hl h2 h3) : ec_hl h h3 := ⟨Nat.le_trans a.1 b.1, Nat.le_trans a.2.1 b.2.1, Nat.le_trans a.2.2.1 b.2.2.1, b.2.2.2.trans a.2.2.2⟩
theorem ec_hl_setI {h : ec_Hp} {p k : Nat} {x : Int32} : ec_hl h (ec_setI h p k x) := ec_hl_refl h
theorem ec_hl_setL {h : ec_Hp} {p k : Nat} {x : Int64} : ec_hl h (ec_setL h p k x) := ec_hl_refl h
theorem ec_hl_setA {h : ec_Hp} {p : Nat} {g : Nat → Int32} : ec_hl h (ec_setA h p g) := ec_hl_refl h
theorem ec_hl_setR {h : ec_Hp} {p k : Nat} {v : Value} : ec_hl h (ec_setR h p k v) := ⟨Nat.le_of_eq (by show h.1.length = (h.1.set p _).length; rw [List.length_set]), Nat.le_refl _, Nat.le_refl _, rfl⟩
theorem ec_hl_mk {h : ec_Hp} {kd n : Nat} : ec_hl h (ec_mk h kd n) := ⟨by simp [ec_mk], Nat.le_succ _, Nat.le_add_right _ _, rfl⟩
theorem ec_hl_thw {h : ec_Hp} : ec_hl h (ec_thw h) := ⟨Nat.le_refl _, Nat.le_succ _, Nat.le_add_right _ _, rfl⟩
def ec_ge (h : ec_Hp) : ec_Act → Prop
  | .inl (_, _, g) => ec_hl h g
  | .inr (.inl (_, _, _, g)) => ec_hl h g
  | .inr (.inr (_, _, _, _, _, _, g)) => ec_hl h g
theorem ec_ge_go {h g : ec_Hp} {pc : Nat} {ls st : List Value} (x : ec_hl h g) : ec_ge h (ec_go pc ls st g) := x
theorem ec_ge_chk {h g : ec_Hp} {b : Bool} {pc : Nat} {ls st : List Value} (x : ec_hl h g) : ec_ge h (ec_chk b pc ls st g) := x
theorem ec_ge_br {h g : ec_Hp} {b : Bool} {t f : Nat} {ls st : List Value} (x : ec_hl h g) : ec_ge h (ec_br b t f ls st g) := x
theorem ec_ge_fail {h : ec_Hp} : ec_ge h (ec_fail h) := ec_hl_refl h
theorem ec_ge_bin {nx : Nat} {ls st : List Value} {h : ec_Hp} {x y : Int32} {n : Nat} : ec_ge h (ec_bin nx ls st h x y n) := by
  unfold ec_bin
  split <;> first | exact ec_ge_go (ec_hl_refl h) | exact ec_ge_chk (ec_hl_refl h) | exact ec_ge_fail
theorem ec_ge_putf {nx : Nat} {ls st : List Value} {h : ec_Hp} {p ci k : Nat} {v : Value} {n : Nat} : ec_ge h (ec_putf nx ls st h p ci k v n) := by
  unfold ec_putf
  split <;> (try split) <;> first | exact ec_ge_fail | exact ec_ge_chk ec_hl_setI | exact ec_ge_chk ec_hl_setL | exact ec_ge_chk ec_hl_setR
theorem ec_ge_ast {nx : Nat} {ls st : List Value} {h : ec_Hp} {p : Nat} {i x : Int32} {n : Nat} : ec_ge h (ec_ast nx ls st h p i x n) := by
  unfold ec_ast
  split <;> first | exact ec_ge_fail | exact ec_ge_chk ec_hl_setI
theorem ec_ge_call {μ nx ν : Nat} {ls st : List Value} {h : ec_Hp} {n : Nat} : ec_ge h (ec_call μ nx ν ls st h n) := by
  unfold ec_call
  split <;> split <;> exact ec_hl_refl h
theorem ec_ge_bui {μ nx : Nat} {ls st : List Value} {h : ec_Hp} {n : Nat} : ec_ge h (ec_bui μ nx ls st h n) := by
  unfold ec_bui
  split <;> (try split) <;> first | exact ec_ge_fail | exact ec_ge_chk (ec_hl_refl h) | exact ec_ge_chk ec_hl_setA
set_option maxHeartbeats 4000000 in
theorem ec_ge_step {μ nx : Nat} {ls st : List Value} {h : ec_Hp} {a b c : Nat} {v : Int32} {op : Nat} : ec_ge h (ec_step μ nx ls st h a b c v op) := by
  unfold ec_step
  split <;> (try split) <;> first | exact ec_ge_fail | exact ec_ge_go (ec_hl_refl h) | exact ec_ge_chk (ec_hl_refl h) | exact ec_ge_br (ec_hl_refl h) | exact ec_ge_bin | exact ec_ge_putf | exact ec_ge_ast | exact ec_ge_call | exact ec_ge_bui | exact ec_ge_chk ec_hl_setL | exact ec_ge_chk ec_hl_setR | exact ec_ge_chk ec_hl_mk | exact ec_hl_mk | exact ec_hl_thw | exact ec_hl_refl h | (split <;> first | exact ec_ge_fail | exact ec_ge_chk (ec_hl_refl h))
theorem ec_sel_in {gl : List (Bool × Nat)} {f : Nat → Option (ec_Out × ec_Hp)} {o : ec_Out × ec_Hp} (h : ec_sel gl f = some o) : ∃ t, f t = some o := by
  induction gl with
  | nil => cases h
  | cons q l ih =>
    obtain ⟨b, t⟩ := q
    cases b with
    | true => exact ⟨t, h⟩
    | false => exact ih h
/-- a run only makes cells, and keeps the script -/
theorem ec_run_hl : ∀ (n : Nat) {μ pc : Nat} {ls st : List Value} {h : ec_Hp} {o : ec_Out} {h' : ec_Hp}, ec_run n μ pc ls st h = some (o, h') → ec_hl h h'
  | 0, _, _, _, _, _, _, _, hr => by cases hr
  | n + 1, μ, pc, ls, st, h, o, h', hr => by
    rw [ec_run_s] at hr
    have hg : ec_ge h (ec_nxt μ pc ls st h) := by
      unfold ec_nxt
      split
      · exact ec_ge_fail
      · exact ec_ge_step
    generalize ec_nxt μ pc ls st h = a at hr hg
    rcases a with ⟨b, w, g⟩ | ⟨gl, ls2, st2, g⟩ | ⟨b, nx, ν, as, ls2, rest, g⟩
    · cases b with
      | true => cases hr; exact hg
      | false => cases hr
    · obtain ⟨t, ht⟩ := ec_sel_in hr
      exact ec_hl_trans hg (ec_run_hl n ht)
    · cases b with
      | false => cases hr
      | true =>
        replace hr : ec_aft (ec_run n) μ pc nx ls2 rest (ec_run n ν 0 (ec_iniL ν as) [] g) = some (o, h') := hr
        cases hc : ec_run n ν 0 (ec_iniL ν as) [] g with
        | none => rw [hc] at hr; cases hr
        | some x =>
          obtain ⟨w, g2⟩ := x
          rw [hc] at hr
          have h1 := ec_hl_trans hg (ec_run_hl n hc)
          cases w with
          | inl v => exact ec_hl_trans h1 (ec_run_hl n hr)
          | inr x =>
            simp only [ec_aft] at hr
            split at hr
            · exact ec_hl_trans h1 (ec_run_hl n hr)
            · cases hr; exact h1
/-! what is known of a method that is called -/
theorem ec_mok_spec {μ : Nat} (h : μ ∈ ec_cal_l) : (∀ w ∈ ec_mw μ, w ∈ ec_gd) ∧ plainName (ec_yn μ).cls = true ∧ (ec_yn μ).cls ≠ "java/lang/invoke/MethodHandle" ∧ (ec_yn μ).cls ≠ "java/lang/invoke/VarHandle" ∧ (ec_yn μ).cls = ec_own (ec_mr μ).1 ∧
    (parseMethodDescriptor (ec_yn μ).desc).map (fun d => d.parameters.length) = some (match ec_nth 9 ec_kd μ with | 1 => (ec_mr μ).2.2.1 | _ => (ec_mr μ).2.2.1 - 1) ∧ (match ec_nth 9 ec_kd μ with | 1 => true | _ => Nat.ble 1 (ec_mr μ).2.2.1) = true ∧
    (match ec_nth 9 ec_kd μ with | 2 => decide ((ec_yn μ).name = "<init>") && (decide (ec_re μ = none) && decide (ec_hh μ = [])) | _ => true) = true ∧
    (match (ec_mr μ).2.2.2.1, ec_re μ with | 0, none => true | 1, some .int => true | 2, some .boolean => true | 3, some .long => true | 4, some (.object _) => true | _, _ => false) = true := by
  have h0 := ec_mok_ok μ h
  obtain ⟨h1, h2⟩ := ec_bt_and h0
  obtain ⟨h3, h4⟩ := ec_bt_and h1
  obtain ⟨h5, h6⟩ := ec_bt_and h4
  obtain ⟨h7, h8⟩ := ec_bt_and h6
  obtain ⟨h9, h10⟩ := ec_bt_and h8
  obtain ⟨h11, h12⟩ := ec_bt_and h10
  obtain ⟨h13, h14⟩ := ec_bt_and h12
  obtain ⟨h15, h16⟩ := ec_bt_and h14
  obtain ⟨h17, h18⟩ := ec_bt_and h2
  exact ⟨ec_gd_of _ (ec_weqs_eq h3) h5, h7, of_decide_eq_true h9, of_decide_eq_true h11, of_decide_eq_true h13, of_decide_eq_true h15, h16, h17, h18⟩
theorem ec_gd_good : GoodIn ec_gd ec_gd := fun w hw => ⟨hw, good_of_word (List.mem_filter.mp hw).2⟩
def ec_wl (μ : Nat) : List Cond := ec_cd μ :: ec_gd
theorem ec_wl_good {μ : Nat} (h : μ ∈ ec_cal_l) : GoodIn ec_gd (ec_wl μ) := by
  intro w hw
  rcases List.mem_cons.mp hw with rfl | hw
  · exact ec_gd_good _ ((ec_mok_spec h).1 _ List.mem_cons_self)
  · exact ec_gd_good _ hw
/-! the contracts -/
def ec_ov (r : Nat → Nat) (N b : Nat) : Option Value → Outcome → Prop
  | none, oc => oc = .returned none
  | some a, oc => ∃ w, ec_vr r N b a w ∧ oc = .returned (some w)
def ec_Qc (D : va_G) (ty : Nat → Nat) (b : Nat) (A : Nat → Prop) (r0 : Nat → Nat) (N0 : Nat) (o : ec_Out) (h' : ec_Hp) : Array Value → State → Outcome → State → Prop := fun _ st oc t =>
  ∃ (r' : Nat → Nat) (v : Option Value), o = .inl v ∧ (∀ k, k < N0 → r' k = r0 k) ∧ ec_ov r' h'.1.length b v oc ∧ ec_sv h' ∧ va_P D ec_cl (ec_ws ty r' h') t.heap ∧ va_D A (ec_ws ty r' h') ∧ va_F A st t
def ec_XC (D : va_G) (ty : Nat → Nat) (A : Nat → Prop) (r0 : Nat → Nat) (N0 : Nat) (o : ec_Out) (h' : ec_Hp) : String → State → State → Prop := fun E st t =>
  ∃ (r' : Nat → Nat) (x : Nat), o = .inr x ∧ x < 3 ∧ E = ec_nth "" ec_exc x ∧ (∀ k, k < N0 → r' k = r0 k) ∧ ec_sv h' ∧ va_P D ec_cl (ec_ws ty r' h') t.heap ∧ va_D A (ec_ws ty r' h') ∧ va_F A st t
def ec_Pc (D : va_G) (ty : Nat → Nat) (L b : Nat) (xs : Nat → Int32) (r : Nat → Nat) (h : ec_Hp) (sz : Nat) (asr : List Value) : Array Value → State → Prop :=
  va_Pc asr (fun U => U.heap.size = sz ∧ va_P D ec_cl (ec_ws ty r h) U.heap ∧ va_D (fun _ => True) (ec_ws ty r h) ∧ ec_Ev D ty L b xs (va_A (ec_ws ty r h) sz) U)
def ec_rm (μ mc ms : Nat) : Room := { frames := (ec_mr μ).2.2.2.2.1, cells := mc, slots := ms, locals := (ec_mr μ).2.2.2.2.2 }
def ec_AA (l : Launch) (n : Nat) : Prop := ∀ ν, ν ∈ ec_cal_l → ∀ (D : va_G) (ty : Nat → Nat) (L b : Nat) (xs : Nat → Int32) (r : Nat → Nat) (h : ec_Hp) (as asr : List Value) (o : ec_Out) (h' : ec_Hp) (sz : Nat), ec_run n ν 0 (ec_iniL ν as) [] h = some (o, h') → ec_sv h → h.2.2.2.2.2 = (L, xs) → ec_SR r h.1.length b as asr → ec_cat as ≤ (ec_mr ν).2.1 →
  vx_Met l (ec_yn ν) (ec_wl ν) (ec_rm ν (h'.2.2.2.1 - h.2.2.2.1) (h'.2.2.2.2.1 - h.2.2.2.2.1)) (ec_Pc D ty L b xs r h sz asr) (ec_Qc D ty b (va_A (ec_ws ty r h) sz) r h.1.length o h') (ec_XC D ty (va_A (ec_ws ty r h) sz) r h.1.length o h') (h'.2.2.2.1 - h.2.2.2.1) (h'.2.2.2.2.1 - h.2.2.2.2.1) (va_A (ec_ws ty r h) sz)
/-- what is the same all through a method's frame -/
def ec_Cx (p : Program) (l : Launch) (R : Room) (s : State) (m : MethodId) (args : Array Value) (meth : Method) (c : Code) (D : va_G) (ty : Nat → Nat) (L b : Nat) (xs : Nat → Int32) (A : Nat → Prop) (μ : Nat) : Prop :=
  p.tables.exec = Jvm.exec ∧ c.code = ec_bc μ ∧ c.maxLocals = (ec_mr μ).2.1 ∧ s.vm.findClass (ec_own (ec_mr μ).1) = some m.cls ∧ (∀ w ∈ ec_gd, w.before args s = true) ∧ ec_Ev D ty L b xs A s ∧ (∀ q, s.heap.size ≤ q → A q) ∧ meth.locks = false ∧
  c.exceptionTable.toList = tableOf (ec_hh μ) ∧ meth.name = (ec_yn μ).name ∧ (ec_mr μ).2.2.2.2.1 ≤ R.frames ∧ (ec_mr μ).2.2.2.2.2 ≤ R.locals ∧ l.stackTraces = false ∧ meth.sig.returnType = ec_re μ
/-- where a frame stands -/
def ec_St (s : State) (D : va_G) (ty : Nat → Nat) (L b : Nat) (xs : Nat → Int32) (A : Nat → Prop) (nL : Nat) (r0 : Nat → Nat) (N0 nc0 ns0 : Nat) (ls st : List Value) (h : ec_Hp) (r : Nat → Nat) (H : Heap) (locs : List Loc) (cells slots : Nat) (lr : Array Slot) (sr : List Value) : Prop :=
  ec_Wd D ty A s.heap r h H locs ∧ ec_LR r h.1.length b nL ls lr ∧ ec_SR r h.1.length b st sr ∧ (∀ k, k < N0 → r k = r0 k) ∧ N0 ≤ h.1.length ∧ cells + nc0 = h.2.2.2.1 ∧ slots + ns0 = h.2.2.2.2.1 ∧ h.2.2.2.2.2 = (L, xs)
def ec_Gl (p : Program) (l : Launch) (e : Env) (R : Room) (s : State) (m : MethodId) (args : Array Value) (below : List Frame) (meth : Method) (c : Code) (D : va_G) (ty : Nat → Nat) (L b : Nat) (xs : Nat → Int32) (A : Nat → Prop) (r0 : Nat → Nat) (N0 nc0 ns0 : Nat) (o : ec_Out) (h' : ec_Hp) (Q : State → Prop) (μ n : Nat) : Prop :=
  ∀ (pc : Nat) (ls st : List Value) (h : ec_Hp) (r : Nat → Nat) (H : Heap) (locs : List Loc) (cells slots : Nat) (lr : Array Slot) (sr : List Value), ec_run n μ pc ls st h = some (o, h') →
    ec_St s D ty L b xs A (ec_mr μ).2.1 r0 N0 nc0 ns0 ls st h r H locs cells slots lr sr → W p l e R s m args below meth c H locs cells slots Q (F0 m pc lr sr)
