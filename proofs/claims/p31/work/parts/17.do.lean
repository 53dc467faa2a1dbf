/-! One step of the small machine taken by the machine, row by row. -/
def ec_Do (p : Program) (l : Launch) (e : Env) (R : Room) (s : State) (m : MethodId) (args : Array Value) (below : List Frame) (meth : Method) (c : Code) (D : va_G) (ty : Nat → Nat) (L b : Nat) (xs : Nat → Int32) (A : Nat → Prop) (r0 : Nat → Nat) (N0 nc0 ns0 : Nat) (o : ec_Out) (h' : ec_Hp) (Q : State → Prop) (μ n op : Nat) : Prop :=
  ∀ (pc nx a b' c' : Nat) (v : Int32) (j : Instr) (k : Nat) (ls st : List Value) (h : ec_Hp) (r : Nat → Nat) (H : Heap) (locs : List Loc) (cells slots : Nat) (lr : Array Slot) (sr : List Value),
    ec_act (ec_run n) (ec_run n μ) μ pc (ec_step μ nx ls st h a b' c' v op) = some (o, h') → ec_St s D ty L b xs A (ec_mr μ).2.1 r0 N0 nc0 ns0 ls st h r H locs cells slots lr sr → decode (ec_bc μ) pc = .ok (j, k) → ec_okJ μ pc nx a b' c' v j k op = true →
    W p l e R s m args below meth c H locs cells slots Q (F0 m pc lr sr)
section ECV
variable {Rt : ec_Rt} {G : Nat → List Value → List Value → ec_Hp → Option (ec_Out × ec_Hp)} {μ pc nx : Nat} {ls st : List Value} {h : ec_Hp} {o : ec_Out × ec_Hp}
theorem ec_a_go {t : Nat} (hr : ec_act Rt G μ pc (ec_go t ls st h) = some o) : G t ls st h = some o := hr
theorem ec_a_chk {b : Bool} {t : Nat} (hr : ec_act Rt G μ pc (ec_chk b t ls st h) = some o) : b = true ∧ G t ls st h = some o := by
  cases b with
  | true => exact ⟨rfl, hr⟩
  | false => cases hr
theorem ec_a_br {b : Bool} {t f : Nat} (hr : ec_act Rt G μ pc (ec_br b t f ls st h) = some o) : (b = true → G t ls st h = some o) ∧ (b = false → G f ls st h = some o) := by
  cases b with
  | true => exact ⟨fun _ => hr, fun z => by cases z⟩
  | false => exact ⟨fun z => (by cases z), fun _ => hr⟩
theorem ec_a_fail (hr : ec_act Rt G μ pc (ec_fail h) = some o) : False := by cases hr
end ECV
section ECD
variable {p : Program} {l : Launch} {e : Env} {R : Room} {s : State} {m : MethodId} {args : Array Value} {below : List Frame} {meth : Method} {c : Code} {D : va_G} {ty : Nat → Nat} {L b : Nat} {xs : Nat → Int32} {A : Nat → Prop} {r0 : Nat → Nat} {N0 nc0 ns0 nL : Nat} {o : ec_Out} {h' : ec_Hp} {Q : State → Prop} {μ n : Nat}
variable {ls st ls' st' : List Value} {h h1 : ec_Hp} {r : Nat → Nat} {H H1 : Heap} {locs locs1 : List Loc} {cells slots : Nat} {lr lr' : Array Slot} {sr sr' : List Value}
theorem ec_St.wd (h0 : ec_St s D ty L b xs A nL r0 N0 nc0 ns0 ls st h r H locs cells slots lr sr) : ec_sv h ∧ va_P D ec_cl (ec_ws ty r h) H ∧ va_D A (ec_ws ty r h) ∧ va_S A s.heap H locs := h0.1
theorem ec_St.hlr (h0 : ec_St s D ty L b xs A nL r0 N0 nc0 ns0 ls st h r H locs cells slots lr sr) : ec_LR r h.1.length b nL ls lr := h0.2.1
theorem ec_St.hsr (h0 : ec_St s D ty L b xs A nL r0 N0 nc0 ns0 ls st h r H locs cells slots lr sr) : ec_SR r h.1.length b st sr := h0.2.2.1
theorem ec_St.mv (h0 : ec_St s D ty L b xs A nL r0 N0 nc0 ns0 ls st h r H locs cells slots lr sr) (h2 : ec_LR r h.1.length b nL ls' lr') (h3 : ec_SR r h.1.length b st' sr') : ec_St s D ty L b xs A nL r0 N0 nc0 ns0 ls' st' h r H locs cells slots lr' sr' := ⟨h0.1, h2, h3, h0.2.2.2⟩
theorem ec_St.hst (h0 : ec_St s D ty L b xs A nL r0 N0 nc0 ns0 ls st h r H locs cells slots lr sr) (h3 : ec_SR r h.1.length b st' sr') : ec_St s D ty L b xs A nL r0 N0 nc0 ns0 ls st' h r H locs cells slots lr sr' := ⟨h0.1, h0.2.1, h3, h0.2.2.2⟩
/-- the heap changes and no cell is made -/
theorem ec_St.hp (h0 : ec_St s D ty L b xs A nL r0 N0 nc0 ns0 ls st h r H locs cells slots lr sr) (e1 : h1.1.length = h.1.length) (e2 : h1.2.2.2 = h.2.2.2) (hw : ec_sv h1 ∧ va_P D ec_cl (ec_ws ty r h1) H1 ∧ va_D A (ec_ws ty r h1) ∧ va_S A s.heap H1 locs1) (h3 : ec_SR r h.1.length b st' sr') :
    ec_St s D ty L b xs A nL r0 N0 nc0 ns0 ls st' h1 r H1 locs1 cells slots lr sr' := by
  obtain ⟨-, g2, -, g4, g5, g6, g7, g8⟩ := h0
  refine ⟨hw, by rw [e1]; exact g2, by rw [e1]; exact h3, g4, by rw [e1]; exact g5, by rw [e2]; exact g6, by rw [e2]; exact g7, by rw [e2]; exact g8⟩
theorem ec_SR1 {N : Nat} {a : Value} (h0 : ec_SR r N b (a :: st) sr) : ∃ v m, sr = v :: m ∧ ec_vr r N b a v ∧ ec_SR r N b st m := ec_SR_cons h0
/-! rows without cells -/
theorem ec_do_0 (hC : ec_Cx p l R s m args meth c D ty L b xs A μ) (ihn : ec_Gl p l e R s m args below meth c D ty L b xs A r0 N0 nc0 ns0 o h' Q μ n) : ec_Do p l e R s m args below meth c D ty L b xs A r0 N0 nc0 ns0 o h' Q μ n 0 := by
  intro pc nx a b' c' v j k ls st h r H locs cells slots lr sr hr hSt hd hok
  obtain ⟨hx, hb, hml, hown, hts, hE, hA, -⟩ := hC
  exact ec_r0 hx hb hown hts hd hok (ihn nx ls _ h r H locs cells slots lr _ (ec_a_go hr) (hSt.hst ⟨rfl, hSt.hsr⟩))
theorem ec_do_1 (hC : ec_Cx p l R s m args meth c D ty L b xs A μ) (ihn : ec_Gl p l e R s m args below meth c D ty L b xs A r0 N0 nc0 ns0 o h' Q μ n) : ec_Do p l e R s m args below meth c D ty L b xs A r0 N0 nc0 ns0 o h' Q μ n 1 := by
  intro pc nx a b' c' v j k ls st h r H locs cells slots lr sr hr hSt hd hok
  obtain ⟨hx, hb, hml, hown, hts, hE, hA, -⟩ := hC
  replace hr : ec_act (ec_run n) (ec_run n μ) μ pc (match (generalizing := false) ec_nth (.double 0) ls a with
        | .int x => ec_go nx ls (.int x :: st) h
        | _ => ec_fail h) = some (o, h') := hr
  split at hr
  · rename_i x hv
    obtain ⟨w, hw, e1⟩ := ec_LR_at hSt.hlr hv (fun w z => by cases z)
    cases e1
    exact ec_r1 hx hb hd hok hw (ihn nx ls _ h r H locs cells slots lr _ (ec_a_go hr) (hSt.hst ⟨rfl, hSt.hsr⟩))
  · exact (ec_a_fail hr).elim
theorem ec_do_2 (hC : ec_Cx p l R s m args meth c D ty L b xs A μ) (ihn : ec_Gl p l e R s m args below meth c D ty L b xs A r0 N0 nc0 ns0 o h' Q μ n) : ec_Do p l e R s m args below meth c D ty L b xs A r0 N0 nc0 ns0 o h' Q μ n 2 := by
  intro pc nx a b' c' v j k ls st h r H locs cells slots lr sr hr hSt hd hok
  obtain ⟨hx, hb, hml, hown, hts, hE, hA, -⟩ := hC
  replace hr : ec_act (ec_run n) (ec_run n μ) μ pc (match (generalizing := false) ec_nth (.double 0) ls a with
        | .ref x => ec_go nx ls (.ref x :: st) h
        | .float x => ec_go nx ls (.float x :: st) h
        | .null => ec_go nx ls (.null :: st) h
        | _ => ec_fail h) = some (o, h') := hr
  split at hr
  · rename_i x hv
    obtain ⟨w, hw, e1⟩ := ec_LR_at hSt.hlr hv (fun w z => by cases z)
    exact ec_r2 hx hb hd hok (Or.inr ⟨_, e1.2⟩) hw (ihn nx ls _ h r H locs cells slots lr _ (ec_a_go hr) (hSt.hst ⟨e1, hSt.hsr⟩))
  · rename_i x hv
    obtain ⟨w, hw, e1⟩ := ec_LR_at hSt.hlr hv (fun w z => by cases z)
    exact ec_r2 hx hb hd hok (Or.inr ⟨_, e1⟩) hw (ihn nx ls _ h r H locs cells slots lr _ (ec_a_go hr) (hSt.hst ⟨e1, hSt.hsr⟩))
  · rename_i hv
    obtain ⟨w, hw, e1⟩ := ec_LR_at hSt.hlr hv (fun w z => by cases z)
    exact ec_r2 hx hb hd hok (Or.inl e1) hw (ihn nx ls _ h r H locs cells slots lr _ (ec_a_go hr) (hSt.hst ⟨e1, hSt.hsr⟩))
  · exact (ec_a_fail hr).elim
theorem ec_do_3 (hC : ec_Cx p l R s m args meth c D ty L b xs A μ) (ihn : ec_Gl p l e R s m args below meth c D ty L b xs A r0 N0 nc0 ns0 o h' Q μ n) : ec_Do p l e R s m args below meth c D ty L b xs A r0 N0 nc0 ns0 o h' Q μ n 3 := by
  intro pc nx a b' c' v j k ls st h r H locs cells slots lr sr hr hSt hd hok
  obtain ⟨hx, hb, hml, hown, hts, hE, hA, -⟩ := hC
  replace hr : ec_act (ec_run n) (ec_run n μ) μ pc (match (generalizing := false) st with
        | .int x :: st => ec_go nx (ec_put1 ls a (.int x)) st h
        | _ => ec_fail h) = some (o, h') := hr
  split at hr
  · obtain ⟨w, m1, rfl, e1, hsr⟩ := ec_SR_cons hSt.hsr
    cases e1
    exact ec_r3 hx hb hd hok hSt.hlr.2.1 hSt.hlr.2.2.1 (fun ha lr' hl => ihn nx _ _ h r H locs cells slots lr' _ (ec_a_go hr) (hSt.mv (ec_LR_put1 hSt.hlr ha rfl hl) hsr))
  · exact (ec_a_fail hr).elim
theorem ec_do_4 (hC : ec_Cx p l R s m args meth c D ty L b xs A μ) (ihn : ec_Gl p l e R s m args below meth c D ty L b xs A r0 N0 nc0 ns0 o h' Q μ n) : ec_Do p l e R s m args below meth c D ty L b xs A r0 N0 nc0 ns0 o h' Q μ n 4 := by
  intro pc nx a b' c' v j k ls st h r H locs cells slots lr sr hr hSt hd hok
  obtain ⟨hx, hb, hml, hown, hts, hE, hA, -⟩ := hC
  replace hr : ec_act (ec_run n) (ec_run n μ) μ pc (match (generalizing := false) st with
        | .ref x :: st => ec_go nx (ec_put1 ls a (.ref x)) st h
        | .null :: st => ec_go nx (ec_put1 ls a .null) st h
        | .retAddr x :: st => ec_go nx (ec_put1 ls a (.retAddr x)) st h
        | _ => ec_fail h) = some (o, h') := hr
  split at hr
  · obtain ⟨w, m1, rfl, e1, hsr⟩ := ec_SR_cons hSt.hsr
    exact ec_r4 hx hb hd hok (Or.inr ⟨_, e1.2⟩) hSt.hlr.2.1 hSt.hlr.2.2.1 (fun ha lr' hl => ihn nx _ _ h r H locs cells slots lr' _ (ec_a_go hr) (hSt.mv (ec_LR_put1 hSt.hlr ha e1 hl) hsr))
  · obtain ⟨w, m1, rfl, e1, hsr⟩ := ec_SR_cons hSt.hsr
    exact ec_r4 hx hb hd hok (Or.inl e1) hSt.hlr.2.1 hSt.hlr.2.2.1 (fun ha lr' hl => ihn nx _ _ h r H locs cells slots lr' _ (ec_a_go hr) (hSt.mv (ec_LR_put1 hSt.hlr ha e1 hl) hsr))
  · obtain ⟨w, m1, rfl, e1, hsr⟩ := ec_SR_cons hSt.hsr
    exact ec_r4 hx hb hd hok (Or.inr e1) hSt.hlr.2.1 hSt.hlr.2.2.1 (fun ha lr' hl => ihn nx _ _ h r H locs cells slots lr' _ (ec_a_go hr) (hSt.mv (ec_LR_put1 hSt.hlr ha e1 hl) hsr))
  · exact (ec_a_fail hr).elim
theorem ec_do_5 (hC : ec_Cx p l R s m args meth c D ty L b xs A μ) (ihn : ec_Gl p l e R s m args below meth c D ty L b xs A r0 N0 nc0 ns0 o h' Q μ n) : ec_Do p l e R s m args below meth c D ty L b xs A r0 N0 nc0 ns0 o h' Q μ n 5 := by
  intro pc nx a b' c' v j k ls st h r H locs cells slots lr sr hr hSt hd hok
  obtain ⟨hx, hb, hml, hown, hts, hE, hA, -⟩ := hC
  replace hr : ec_act (ec_run n) (ec_run n μ) μ pc (match (generalizing := false) ec_nth (.double 0) ls a with
        | .long x => ec_go nx ls (.long x :: st) h
        | _ => ec_fail h) = some (o, h') := hr
  split at hr
  · rename_i x hv
    obtain ⟨w, hw, e1⟩ := ec_LR_at hSt.hlr hv (fun w z => by cases z)
    cases e1
    exact ec_r5 hx hb hd hok hw (ihn nx ls _ h r H locs cells slots lr _ (ec_a_go hr) (hSt.hst ⟨rfl, hSt.hsr⟩))
  · exact (ec_a_fail hr).elim
theorem ec_do_6 (hC : ec_Cx p l R s m args meth c D ty L b xs A μ) (ihn : ec_Gl p l e R s m args below meth c D ty L b xs A r0 N0 nc0 ns0 o h' Q μ n) : ec_Do p l e R s m args below meth c D ty L b xs A r0 N0 nc0 ns0 o h' Q μ n 6 := by
  intro pc nx a b' c' v j k ls st h r H locs cells slots lr sr hr hSt hd hok
  obtain ⟨hx, hb, hml, hown, hts, hE, hA, -⟩ := hC
  replace hr : ec_act (ec_run n) (ec_run n μ) μ pc (match (generalizing := false) st with
        | .long x :: st => ec_go nx (ec_put2 ls a (.long x)) st h
        | _ => ec_fail h) = some (o, h') := hr
  split at hr
  · obtain ⟨w, m1, rfl, e1, hsr⟩ := ec_SR_cons hSt.hsr
    cases e1
    exact ec_r6 hx hb hd hok hSt.hlr.2.1 hSt.hlr.2.2.1 (fun ha lr' hl => ihn nx _ _ h r H locs cells slots lr' _ (ec_a_go hr) (hSt.mv (ec_LR_put2 hSt.hlr ha rfl hl) hsr))
  · exact (ec_a_fail hr).elim
theorem ec_do_7 (hC : ec_Cx p l R s m args meth c D ty L b xs A μ) (ihn : ec_Gl p l e R s m args below meth c D ty L b xs A r0 N0 nc0 ns0 o h' Q μ n) : ec_Do p l e R s m args below meth c D ty L b xs A r0 N0 nc0 ns0 o h' Q μ n 7 := by
  intro pc nx a b' c' v j k ls st h r H locs cells slots lr sr hr hSt hd hok
  obtain ⟨hx, hb, hml, hown, hts, hE, hA, -⟩ := hC
  replace hr : ec_act (ec_run n) (ec_run n μ) μ pc (match (generalizing := false) ec_nth (.double 0) ls a with
        | .int x => ec_go nx (ec_put1 ls a (.int (x + v))) st h
        | _ => ec_fail h) = some (o, h') := hr
  split at hr
  · rename_i x hv
    obtain ⟨w, hw, e1⟩ := ec_LR_at hSt.hlr hv (fun w z => by cases z)
    cases e1
    exact ec_r7 hx hb hd hok hw hSt.hlr.2.1 hSt.hlr.2.2.1 (fun ha lr' hl => ihn nx _ _ h r H locs cells slots lr' _ (ec_a_go hr) (hSt.mv (ec_LR_put1 hSt.hlr ha rfl hl) hSt.hsr))
  · exact (ec_a_fail hr).elim
theorem ec_a_bin {Rt : ec_Rt} {G : Nat → List Value → List Value → ec_Hp → Option (ec_Out × ec_Hp)} {pc nx : Nat} {x y : Int32} {oo : ec_Out × ec_Hp} : ∀ {a : Nat}, ec_act Rt G μ pc (ec_bin nx ls st h x y a) = some oo →
    ∃ z, (a = 0 ∧ z = x + y ∨ a = 1 ∧ z = x - y ∨ a = 2 ∧ z = x * y ∨ a = 3 ∧ z = x &&& y ∨ a = 4 ∧ z = x ||| y ∨ a = 5 ∧ z = x <<< (y &&& 31) ∨ a = 6 ∧ z = (x.toUInt32 >>> (y.toUInt32 &&& Int32.toUInt32 31)).toInt32 ∨ (a = 7 ∧ ¬ y = 0 ∧ z = x / y) ∨ (a = 8 ∧ ¬ y = 0 ∧ z = x - x / y * y) ∨ (a = 9 ∧ z = x ^^^ y) ∨ (a = 10 ∧ z = x >>> (y &&& 31))) ∧ G nx ls (.int z :: st) h = some oo
  | 0, hr => ⟨_, Or.inl ⟨rfl, rfl⟩, hr⟩
  | 1, hr => ⟨_, Or.inr (Or.inl ⟨rfl, rfl⟩), hr⟩
  | 2, hr => ⟨_, Or.inr (Or.inr (Or.inl ⟨rfl, rfl⟩)), hr⟩
  | 3, hr => ⟨_, Or.inr (Or.inr (Or.inr (Or.inl ⟨rfl, rfl⟩))), hr⟩
  | 4, hr => ⟨_, Or.inr (Or.inr (Or.inr (Or.inr (Or.inl ⟨rfl, rfl⟩)))), hr⟩
  | 5, hr => ⟨_, Or.inr (Or.inr (Or.inr (Or.inr (Or.inr (Or.inl ⟨rfl, rfl⟩))))), hr⟩
  | 6, hr => ⟨_, Or.inr (Or.inr (Or.inr (Or.inr (Or.inr (Or.inr (Or.inl ⟨rfl, rfl⟩)))))), hr⟩
  | 7, hr => by
    obtain ⟨h1, h2⟩ := ec_a_chk hr
    exact ⟨_, Or.inr (Or.inr (Or.inr (Or.inr (Or.inr (Or.inr (Or.inr (Or.inl ⟨rfl, by simpa using h1, rfl⟩))))))), h2⟩
  | 8, hr => by
    obtain ⟨h1, h2⟩ := ec_a_chk hr
    exact ⟨_, Or.inr (Or.inr (Or.inr (Or.inr (Or.inr (Or.inr (Or.inr (Or.inr (Or.inl ⟨rfl, by simpa using h1, rfl⟩)))))))), h2⟩
  | 9, hr => ⟨_, by simp, hr⟩
  | 10, hr => ⟨_, by simp, hr⟩
  | _ + 11, hr => (ec_a_fail hr).elim
theorem ec_do_8 (hC : ec_Cx p l R s m args meth c D ty L b xs A μ) (ihn : ec_Gl p l e R s m args below meth c D ty L b xs A r0 N0 nc0 ns0 o h' Q μ n) : ec_Do p l e R s m args below meth c D ty L b xs A r0 N0 nc0 ns0 o h' Q μ n 8 := by
  intro pc nx a b' c' v j k ls st h r H locs cells slots lr sr hr hSt hd hok
  obtain ⟨hx, hb, hml, hown, hts, hE, hA, -⟩ := hC
  replace hr : ec_act (ec_run n) (ec_run n μ) μ pc (match (generalizing := false) st with
        | .int y :: .int x :: st => ec_bin nx ls st h x y a
        | _ => ec_fail h) = some (o, h') := hr
  split at hr
  · obtain ⟨w, m1, rfl, e1, hs1⟩ := ec_SR_cons hSt.hsr
    obtain ⟨w2, m2, rfl, e2, hsr⟩ := ec_SR_cons hs1
    cases e1
    cases e2
    replace hr := ec_a_bin hr
    obtain ⟨z, hz, hr⟩ := hr
    exact ec_r8 hx hb hd hok hz (ihn nx ls _ h r H locs cells slots lr _ hr (hSt.hst ⟨rfl, hsr⟩))
  · exact (ec_a_fail hr).elim
theorem ec_z01 {x : Int32} (h : ec_01 x = true) : narrow .boolean (.int x) = .int x ∧ fits .boolean (.int x) = true := by
  rcases (Bool.or_eq_true _ _).mp h with h | h <;> (cases of_decide_eq_true h; exact ⟨by decide, by decide⟩)
theorem ec_do_9 (hC : ec_Cx p l R s m args meth c D ty L b xs A μ) (ihn : ec_Gl p l e R s m args below meth c D ty L b xs A r0 N0 nc0 ns0 o h' Q μ n) : ec_Do p l e R s m args below meth c D ty L b xs A r0 N0 nc0 ns0 o h' Q μ n 9 := by
  intro pc nx a b' c' v j k ls st h r H locs cells slots lr sr hr hSt hd hok
  obtain ⟨hx, hb, hml, hown, hts, hE, hA, hlocks, htab, hname, -⟩ := hC
  obtain ⟨hs, hP, hD, hS⟩ := hSt.wd
  replace hr : ec_act (ec_run n) (ec_run n μ) μ pc (match (generalizing := false) st with
        | .ref p :: st => ec_chk (ec_isK h p a) nx ls (.int (h.2.1 p b') :: st) h
        | _ => ec_fail h) = some (o, h') := hr
  split at hr
  · obtain ⟨w1, m1, rfl, e1, hsr⟩ := ec_SR_cons hSt.hsr
    have hk := (ec_a_chk hr).1
    replace hr := (ec_a_chk hr).2
    obtain ⟨-, rfl⟩ := e1
    obtain ⟨h1, g2⟩ := ec_bt_and hok
    obtain ⟨h2, g3⟩ := ec_bt_and g2
    obtain ⟨h3, h4⟩ := ec_bt_and g3
    clear g2 g3
    cases Nat.eq_of_beq_eq_true h1
    cases Nat.eq_of_beq_eq_true h2
    have hf : ec_fk a b' ≤ 1 := Nat.le_of_ble_eq_true h3
    split at h4
    · exact ec_rget hx hb hown hts hE.1 hE.2.1 hs hP hd h4 hk (by
        generalize ec_fk a b' = f at hf
        match f, hf with
        | 0, _ => rfl
        | 1, _ => rfl) (ihn _ ls _ h r H locs cells slots lr _ hr (hSt.hst ⟨rfl, hsr⟩))
    · cases h4
  · exact (ec_a_fail hr).elim
theorem ec_do_42 (hC : ec_Cx p l R s m args meth c D ty L b xs A μ) (ihn : ec_Gl p l e R s m args below meth c D ty L b xs A r0 N0 nc0 ns0 o h' Q μ n) : ec_Do p l e R s m args below meth c D ty L b xs A r0 N0 nc0 ns0 o h' Q μ n 42 := by
  intro pc nx a b' c' v j k ls st h r H locs cells slots lr sr hr hSt hd hok
  obtain ⟨hx, hb, hml, hown, hts, hE, hA, hlocks, htab, hname, -⟩ := hC
  obtain ⟨hs, hP, hD, hS⟩ := hSt.wd
  replace hr : ec_act (ec_run n) (ec_run n μ) μ pc (match (generalizing := false) st with
        | .ref p :: st => ec_chk (ec_isK h p a) nx ls (.long (h.2.2.1 p b') :: st) h
        | _ => ec_fail h) = some (o, h') := hr
  split at hr
  · obtain ⟨w1, m1, rfl, e1, hsr⟩ := ec_SR_cons hSt.hsr
    have hk := (ec_a_chk hr).1
    replace hr := (ec_a_chk hr).2
    obtain ⟨-, rfl⟩ := e1
    obtain ⟨h1, g2⟩ := ec_bt_and hok
    obtain ⟨h2, g3⟩ := ec_bt_and g2
    obtain ⟨h3, h4⟩ := ec_bt_and g3
    clear g2 g3
    cases Nat.eq_of_beq_eq_true h1
    cases Nat.eq_of_beq_eq_true h2
    split at h4
    · exact ec_rget hx hb hown hts hE.1 hE.2.1 hs hP hd h4 hk (by rw [Nat.eq_of_beq_eq_true h3]; rfl) (ihn _ ls _ h r H locs cells slots lr _ hr (hSt.hst ⟨rfl, hsr⟩))
    · cases h4
  · exact (ec_a_fail hr).elim
theorem ec_do_43 (hC : ec_Cx p l R s m args meth c D ty L b xs A μ) (ihn : ec_Gl p l e R s m args below meth c D ty L b xs A r0 N0 nc0 ns0 o h' Q μ n) : ec_Do p l e R s m args below meth c D ty L b xs A r0 N0 nc0 ns0 o h' Q μ n 43 := by
  intro pc nx a b' c' v j k ls st h r H locs cells slots lr sr hr hSt hd hok
  obtain ⟨hx, hb, hml, hown, hts, hE, hA, hlocks, htab, hname, -⟩ := hC
  obtain ⟨hs, hP, hD, hS⟩ := hSt.wd
  replace hr : ec_act (ec_run n) (ec_run n μ) μ pc (match (generalizing := false) st with
        | .ref p :: st => match (generalizing := false) (ec_shp h p).2.2 b' with
          | .ref q => ec_chk (ec_isK h p a) nx ls (.ref q :: st) h
          | .null => ec_chk (ec_isK h p a) nx ls (.null :: st) h
          | _ => ec_fail h
        | _ => ec_fail h) = some (o, h') := hr
  split at hr
  · rename_i q st2
    obtain ⟨w1, m1, rfl, e1, hsr⟩ := ec_SR_cons hSt.hsr
    obtain ⟨-, rfl⟩ := e1
    obtain ⟨h1, g2⟩ := ec_bt_and hok
    obtain ⟨h2, g3⟩ := ec_bt_and g2
    obtain ⟨h3, h4⟩ := ec_bt_and g3
    clear g2 g3
    cases Nat.eq_of_beq_eq_true h1
    cases Nat.eq_of_beq_eq_true h2
    split at h4
    · split at hr
      · rename_i hv
        have hk := (ec_a_chk hr).1
        replace hr := (ec_a_chk hr).2
        exact ec_rget hx hb hown hts hE.1 hE.2.1 hs hP hd h4 hk (by rw [Nat.eq_of_beq_eq_true h3]; show ec_rr r ((ec_shp h q).2.2 b') = _; rw [hv]; rfl) (ihn _ ls _ h r H locs cells slots lr _ hr (hSt.hst ⟨⟨hs.1 _ _ _ hv, rfl⟩, hsr⟩))
      · rename_i hv
        have hk := (ec_a_chk hr).1
        replace hr := (ec_a_chk hr).2
        exact ec_rget hx hb hown hts hE.1 hE.2.1 hs hP hd h4 hk (by rw [Nat.eq_of_beq_eq_true h3]; show ec_rr r ((ec_shp h q).2.2 b') = _; rw [hv]; rfl) (ihn _ ls _ h r H locs cells slots lr _ hr (hSt.hst ⟨rfl, hsr⟩))
      · exact (ec_a_fail hr).elim
    · cases h4
  · exact (ec_a_fail hr).elim
theorem ec_do_10 (hC : ec_Cx p l R s m args meth c D ty L b xs A μ) (ihn : ec_Gl p l e R s m args below meth c D ty L b xs A r0 N0 nc0 ns0 o h' Q μ n) : ec_Do p l e R s m args below meth c D ty L b xs A r0 N0 nc0 ns0 o h' Q μ n 10 := by
  intro pc nx a b' c' v j k ls st h r H locs cells slots lr sr hr hSt hd hok
  obtain ⟨hx, hb, hml, hown, hts, hE, hA, hlocks, htab, hname, -⟩ := hC
  obtain ⟨hs, hP, hD, hS⟩ := hSt.wd
  replace hr : ec_act (ec_run n) (ec_run n μ) μ pc (match (generalizing := false) st with
        | w :: .ref p :: st => ec_putf nx ls st h p a b' w (ec_fk a b')
        | _ => ec_fail h) = some (o, h') := hr
  split at hr
  · rename_i w0 q st2
    obtain ⟨w1, m1, rfl, e1, hs1⟩ := ec_SR_cons hSt.hsr
    obtain ⟨w2, m2, rfl, e2, hsr⟩ := ec_SR_cons hs1
    obtain ⟨-, rfl⟩ := e2
    generalize hfk : ec_fk a b' = f at hr
    unfold ec_putf at hr
    split at hr
    · split at hr
      · rename_i x
        have hk := (ec_a_chk hr).1
        replace hr := (ec_a_chk hr).2
        cases e1
        exact ec_rput hx hb hown hts hE.1 hE.2.1 hname hs hP hD hS hd hok hk (fun t ht => by rw [hfk] at ht; cases t <;> first | (cases ht; done) | exact ⟨rfl, rfl⟩) (fun ha H1 locs1 q1 q2 q3 => by
          obtain ⟨hq, hkq⟩ := ec_isK_spec hk (by omega)
          exact ihn nx ls _ _ r H1 locs1 cells slots lr _ hr (hSt.hp rfl rfl ⟨ec_sv_setI hs, by rw [ec_ob_setI hkq ha (by rw [hfk]; decide)]; exact q1, by rw [ec_ob_setI hkq ha (by rw [hfk]; decide)]; exact q2, q3⟩ hsr))
      · exact (ec_a_fail hr).elim
    · split at hr
      · rename_i x
        have hk := (ec_a_chk hr).1
        replace hr := (ec_a_chk hr).2
        have h01 := (ec_bt_and hk).2
        replace hk := (ec_bt_and hk).1
        cases e1
        exact ec_rput hx hb hown hts hE.1 hE.2.1 hname hs hP hD hS hd hok hk (fun t ht => by rw [hfk] at ht; cases t <;> first | (cases ht; done) | exact ⟨rfl, rfl⟩ | exact ec_z01 h01) (fun ha H1 locs1 q1 q2 q3 => by
          obtain ⟨hq, hkq⟩ := ec_isK_spec hk (by omega)
          exact ihn nx ls _ _ r H1 locs1 cells slots lr _ hr (hSt.hp rfl rfl ⟨ec_sv_setI hs, by rw [ec_ob_setI hkq ha (by rw [hfk]; decide)]; exact q1, by rw [ec_ob_setI hkq ha (by rw [hfk]; decide)]; exact q2, q3⟩ hsr))
      · exact (ec_a_fail hr).elim
    · split at hr
      · rename_i x
        have hk := (ec_a_chk hr).1
        replace hr := (ec_a_chk hr).2
        cases e1
        exact ec_rput hx hb hown hts hE.1 hE.2.1 hname hs hP hD hS hd hok hk (fun t ht => by rw [hfk] at ht; cases t <;> first | (cases ht; done) | exact ⟨rfl, rfl⟩) (fun ha H1 locs1 q1 q2 q3 => by
          obtain ⟨hq, hkq⟩ := ec_isK_spec hk (by omega)
          exact ihn nx ls _ _ r H1 locs1 cells slots lr _ hr (hSt.hp rfl rfl ⟨ec_sv_setL hs, by rw [ec_ob_setL hkq ha hfk]; exact q1, by rw [ec_ob_setL hkq ha hfk]; exact q2, q3⟩ hsr))
      · exact (ec_a_fail hr).elim
    · split at hr
      · rename_i x
        have hk := (ec_a_chk hr).1
        replace hr := (ec_a_chk hr).2
        obtain ⟨hxl, rfl⟩ := e1
        exact ec_rput hx hb hown hts hE.1 hE.2.1 hname hs hP hD hS hd hok hk (fun t ht => by rw [hfk] at ht; cases t <;> first | (cases ht; done) | exact ⟨rfl, rfl⟩) (fun ha H1 locs1 q1 q2 q3 => by
          obtain ⟨hq, hkq⟩ := ec_isK_spec hk (by omega)
          exact ihn nx ls _ _ r H1 locs1 cells slots lr _ hr (hSt.hp (by show (h.1.set _ _).length = _; rw [List.length_set]) rfl ⟨ec_sv_setR hs hq hxl, by rw [ec_ob_setR hq hkq ha hfk]; exact q1, by rw [ec_ob_setR hq hkq ha hfk]; exact q2, q3⟩ hsr))
      · exact (ec_a_fail hr).elim
    · exact (ec_a_fail hr).elim
  · exact (ec_a_fail hr).elim
theorem ec_do_11 (hC : ec_Cx p l R s m args meth c D ty L b xs A μ) (ihn : ec_Gl p l e R s m args below meth c D ty L b xs A r0 N0 nc0 ns0 o h' Q μ n) : ec_Do p l e R s m args below meth c D ty L b xs A r0 N0 nc0 ns0 o h' Q μ n 11 := by
  intro pc nx a b' c' v j k ls st h r H locs cells slots lr sr hr hSt hd hok
  obtain ⟨hx, hb, hml, hown, hts, hE, hA, hlocks, htab, hname, -⟩ := hC
  obtain ⟨hs, hP, hD, hS⟩ := hSt.wd
  replace hr : ec_act (ec_run n) (ec_run n μ) μ pc (match (generalizing := false) st with
        | .int i :: .ref p :: st => ec_chk (ec_isK h p (16 + a) && ec_inB i (ec_shp h p).2.1) nx ls (.int (h.2.1 p i.toNatClampNeg) :: st) h
        | .int i :: .float _ :: st => ec_chk (Nat.beq a 0 && ec_inB i h.2.2.2.2.2.1) nx ls (.int (h.2.2.2.2.2.2 i.toNatClampNeg) :: st) h
        | _ => ec_fail h) = some (o, h') := hr
  split at hr
  · obtain ⟨w1, m1, rfl, e1, hs1⟩ := ec_SR_cons hSt.hsr
    obtain ⟨w2, m2, rfl, e2, hsr⟩ := ec_SR_cons hs1
    cases e1
    obtain ⟨-, rfl⟩ := e2
    have hk := (ec_a_chk hr).1
    replace hr := (ec_a_chk hr).2
    have hi := (ec_bt_and hk).2
    replace hk := (ec_bt_and hk).1
    exact ec_r11 hx hb hE.1 hP hd hok hk hi (ihn nx ls _ h r H locs cells slots lr _ hr (hSt.hst ⟨rfl, hsr⟩))
  · obtain ⟨w1, m1, rfl, e1, hs1⟩ := ec_SR_cons hSt.hsr
    obtain ⟨w2, m2, rfl, e2, hsr⟩ := ec_SR_cons hs1
    cases e1
    cases e2
    have hk := (ec_a_chk hr).1
    replace hr := (ec_a_chk hr).2
    have hi := (ec_bt_and hk).2
    replace hk := (ec_bt_and hk).1
    have hscr : h.2.2.2.2.2 = (L, xs) := hSt.2.2.2.2.2.2.2
    rw [hscr] at hi hr
    obtain ⟨-, -, -, -, -, -, -, hX, hbl, hbA⟩ := hE
    exact ec_r11s hx hb hX hbl hbA hS hd hok (Nat.eq_of_beq_eq_true hk) hi (ihn nx ls _ h r H locs cells slots lr _ hr (hSt.hst ⟨rfl, hsr⟩))
  · exact (ec_a_fail hr).elim
theorem ec_do_12 (hC : ec_Cx p l R s m args meth c D ty L b xs A μ) (ihn : ec_Gl p l e R s m args below meth c D ty L b xs A r0 N0 nc0 ns0 o h' Q μ n) : ec_Do p l e R s m args below meth c D ty L b xs A r0 N0 nc0 ns0 o h' Q μ n 12 := by
  intro pc nx a b' c' v j k ls st h r H locs cells slots lr sr hr hSt hd hok
  obtain ⟨hx, hb, hml, hown, hts, hE, hA, hlocks, htab, hname, -⟩ := hC
  obtain ⟨hs, hP, hD, hS⟩ := hSt.wd
  replace hr : ec_act (ec_run n) (ec_run n μ) μ pc (match (generalizing := false) st with
        | .int x :: .int i :: .ref p :: st => ec_ast nx ls st h p i x a
        | _ => ec_fail h) = some (o, h') := hr
  split at hr
  · obtain ⟨w1, m1, rfl, e1, hs1⟩ := ec_SR_cons hSt.hsr
    obtain ⟨w2, m2, rfl, e2, hs2⟩ := ec_SR_cons hs1
    obtain ⟨w3, m3, rfl, e3, hsr⟩ := ec_SR_cons hs2
    cases e1
    cases e2
    obtain ⟨-, rfl⟩ := e3
    unfold ec_ast at hr
    split at hr
    · skip
      have hk := (ec_a_chk hr).1
      replace hr := (ec_a_chk hr).2
      have hi := (ec_bt_and hk).2
      replace hk := (ec_bt_and hk).1
      exact ec_r12 hx hb hE.1 hP hD hS hd hok hk hi (Or.inl ⟨rfl, rfl⟩) (fun H1 locs1 q1 q2 q3 => ihn nx ls _ _ r H1 locs1 cells slots lr _ hr (hSt.hp rfl rfl ⟨ec_sv_setI hs, q1, q2, q3⟩ hsr))
    · skip
      have hk := (ec_a_chk hr).1
      replace hr := (ec_a_chk hr).2
      have hi := (ec_bt_and hk).2
      replace hk := (ec_bt_and hk).1
      have h01 := (ec_bt_and hi).2
      replace hi := (ec_bt_and hi).1
      exact ec_r12 hx hb hE.1 hP hD hS hd hok hk hi (Or.inr (Or.inl ⟨rfl, h01, rfl⟩)) (fun H1 locs1 q1 q2 q3 => ihn nx ls _ _ r H1 locs1 cells slots lr _ hr (hSt.hp rfl rfl ⟨ec_sv_setI hs, q1, q2, q3⟩ hsr))
    · skip
      have hk := (ec_a_chk hr).1
      replace hr := (ec_a_chk hr).2
      have hi := (ec_bt_and hk).2
      replace hk := (ec_bt_and hk).1
      exact ec_r12 hx hb hE.1 hP hD hS hd hok hk hi (Or.inr (Or.inr ⟨rfl, rfl⟩)) (fun H1 locs1 q1 q2 q3 => ihn nx ls _ _ r H1 locs1 cells slots lr _ hr (hSt.hp rfl rfl ⟨ec_sv_setI hs, q1, q2, q3⟩ hsr))
    · exact (ec_a_fail hr).elim
  · exact (ec_a_fail hr).elim
theorem ec_do_13 (hC : ec_Cx p l R s m args meth c D ty L b xs A μ) (ihn : ec_Gl p l e R s m args below meth c D ty L b xs A r0 N0 nc0 ns0 o h' Q μ n) : ec_Do p l e R s m args below meth c D ty L b xs A r0 N0 nc0 ns0 o h' Q μ n 13 := by
  intro pc nx a b' c' v j k ls st h r H locs cells slots lr sr hr hSt hd hok
  obtain ⟨hx, hb, hml, hown, hts, hE, hA, hlocks, htab, hname, -⟩ := hC
  obtain ⟨hs, hP, hD, hS⟩ := hSt.wd
  replace hr : ec_act (ec_run n) (ec_run n μ) μ pc (match (generalizing := false) st with
        | .int i :: .ref p :: st => ec_chk (ec_isK h p 19 && ec_inB i (ec_shp h p).2.1) nx ls (.long (h.2.2.1 p i.toNatClampNeg) :: st) h
        | _ => ec_fail h) = some (o, h') := hr
  split at hr
  · obtain ⟨w1, m1, rfl, e1, hs1⟩ := ec_SR_cons hSt.hsr
    obtain ⟨w2, m2, rfl, e2, hsr⟩ := ec_SR_cons hs1
    cases e1
    obtain ⟨-, rfl⟩ := e2
    have hk := (ec_a_chk hr).1
    replace hr := (ec_a_chk hr).2
    have hi := (ec_bt_and hk).2
    replace hk := (ec_bt_and hk).1
    exact ec_r13 hx hb hE.1 hP hd hok hk hi (ihn nx ls _ h r H locs cells slots lr _ hr (hSt.hst ⟨rfl, hsr⟩))
  · exact (ec_a_fail hr).elim
theorem ec_do_14 (hC : ec_Cx p l R s m args meth c D ty L b xs A μ) (ihn : ec_Gl p l e R s m args below meth c D ty L b xs A r0 N0 nc0 ns0 o h' Q μ n) : ec_Do p l e R s m args below meth c D ty L b xs A r0 N0 nc0 ns0 o h' Q μ n 14 := by
  intro pc nx a b' c' v j k ls st h r H locs cells slots lr sr hr hSt hd hok
  obtain ⟨hx, hb, hml, hown, hts, hE, hA, hlocks, htab, hname, -⟩ := hC
  obtain ⟨hs, hP, hD, hS⟩ := hSt.wd
  replace hr : ec_act (ec_run n) (ec_run n μ) μ pc (match (generalizing := false) st with
        | .long x :: .int i :: .ref p :: st => ec_chk (ec_isK h p 19 && ec_inB i (ec_shp h p).2.1) nx ls st (ec_setL h p i.toNatClampNeg x)
        | _ => ec_fail h) = some (o, h') := hr
  split at hr
  · obtain ⟨w1, m1, rfl, e1, hs1⟩ := ec_SR_cons hSt.hsr
    obtain ⟨w2, m2, rfl, e2, hs2⟩ := ec_SR_cons hs1
    obtain ⟨w3, m3, rfl, e3, hsr⟩ := ec_SR_cons hs2
    cases e1
    cases e2
    obtain ⟨-, rfl⟩ := e3
    have hk := (ec_a_chk hr).1
    replace hr := (ec_a_chk hr).2
    have hi := (ec_bt_and hk).2
    replace hk := (ec_bt_and hk).1
    exact ec_r14 hx hb hE.1 hP hD hS hd hok hk hi (fun H1 locs1 q1 q2 q3 => ihn nx ls _ _ r H1 locs1 cells slots lr _ hr (hSt.hp rfl rfl ⟨ec_sv_setL hs, q1, q2, q3⟩ hsr))
  · exact (ec_a_fail hr).elim
theorem ec_do_15 (hC : ec_Cx p l R s m args meth c D ty L b xs A μ) (ihn : ec_Gl p l e R s m args below meth c D ty L b xs A r0 N0 nc0 ns0 o h' Q μ n) : ec_Do p l e R s m args below meth c D ty L b xs A r0 N0 nc0 ns0 o h' Q μ n 15 := by
  intro pc nx a b' c' v j k ls st h r H locs cells slots lr sr hr hSt hd hok
  obtain ⟨hx, hb, hml, hown, hts, hE, hA, hlocks, htab, hname, -⟩ := hC
  obtain ⟨hs, hP, hD, hS⟩ := hSt.wd
  replace hr : ec_act (ec_run n) (ec_run n μ) μ pc (match (generalizing := false) st with
        | .int i :: .ref p :: st => match (generalizing := false) (ec_shp h p).2.2 i.toNatClampNeg with
          | .ref q => ec_chk (ec_isK h p 20 && ec_inB i (ec_shp h p).2.1) nx ls (.ref q :: st) h
          | .null => ec_chk (ec_isK h p 20 && ec_inB i (ec_shp h p).2.1) nx ls (.null :: st) h
          | _ => ec_fail h
        | _ => ec_fail h) = some (o, h') := hr
  split at hr
  · obtain ⟨w1, m1, rfl, e1, hs1⟩ := ec_SR_cons hSt.hsr
    obtain ⟨w2, m2, rfl, e2, hsr⟩ := ec_SR_cons hs1
    cases e1
    obtain ⟨-, rfl⟩ := e2
    split at hr
    · rename_i hv
      have hk := (ec_a_chk hr).1
      replace hr := (ec_a_chk hr).2
      have hi := (ec_bt_and hk).2
      replace hk := (ec_bt_and hk).1
      exact ec_r15 hx hb hE.1 hP hd hok hk hi (by rw [hv]; exact ihn nx ls _ h r H locs cells slots lr _ hr (hSt.hst ⟨⟨hs.1 _ _ _ hv, rfl⟩, hsr⟩))
    · rename_i hv
      have hk := (ec_a_chk hr).1
      replace hr := (ec_a_chk hr).2
      have hi := (ec_bt_and hk).2
      replace hk := (ec_bt_and hk).1
      exact ec_r15 hx hb hE.1 hP hd hok hk hi (by rw [hv]; exact ihn nx ls _ h r H locs cells slots lr _ hr (hSt.hst ⟨rfl, hsr⟩))
    · exact (ec_a_fail hr).elim
  · exact (ec_a_fail hr).elim
theorem ec_do_16 (hC : ec_Cx p l R s m args meth c D ty L b xs A μ) (ihn : ec_Gl p l e R s m args below meth c D ty L b xs A r0 N0 nc0 ns0 o h' Q μ n) : ec_Do p l e R s m args below meth c D ty L b xs A r0 N0 nc0 ns0 o h' Q μ n 16 := by
  intro pc nx a b' c' v j k ls st h r H locs cells slots lr sr hr hSt hd hok
  obtain ⟨hx, hb, hml, hown, hts, hE, hA, hlocks, htab, hname, -⟩ := hC
  obtain ⟨hs, hP, hD, hS⟩ := hSt.wd
  replace hr : ec_act (ec_run n) (ec_run n μ) μ pc (match (generalizing := false) st with
        | .ref x :: .int i :: .ref p :: st => ec_chk (ec_isK h p 20 && (ec_isK h x 1 && ec_inB i (ec_shp h p).2.1)) nx ls st (ec_setR h p i.toNatClampNeg (.ref x))
        | _ => ec_fail h) = some (o, h') := hr
  split at hr
  · obtain ⟨w1, m1, rfl, e1, hs1⟩ := ec_SR_cons hSt.hsr
    obtain ⟨w2, m2, rfl, e2, hs2⟩ := ec_SR_cons hs1
    obtain ⟨w3, m3, rfl, e3, hsr⟩ := ec_SR_cons hs2
    obtain ⟨hxl, rfl⟩ := e1
    cases e2
    obtain ⟨-, rfl⟩ := e3
    have hk := (ec_a_chk hr).1
    replace hr := (ec_a_chk hr).2
    have hi := (ec_bt_and hk).2
    replace hk := (ec_bt_and hk).1
    have hkx := (ec_bt_and hi).1
    replace hi := (ec_bt_and hi).2
    exact ec_r16 hx hb hE.1 hP hD hS hd hok hk hkx hi (fun H1 locs1 q1 q2 q3 => ihn nx ls _ _ r H1 locs1 cells slots lr _ hr (hSt.hp (by show (h.1.set _ _).length = _; rw [List.length_set]) rfl ⟨ec_sv_setR hs (ec_isK_spec hk (by decide)).1 hxl, q1, q2, q3⟩ hsr))
  · exact (ec_a_fail hr).elim
theorem ec_do_17 (hC : ec_Cx p l R s m args meth c D ty L b xs A μ) (ihn : ec_Gl p l e R s m args below meth c D ty L b xs A r0 N0 nc0 ns0 o h' Q μ n) : ec_Do p l e R s m args below meth c D ty L b xs A r0 N0 nc0 ns0 o h' Q μ n 17 := by
  intro pc nx a b' c' v j k ls st h r H locs cells slots lr sr hr hSt hd hok
  obtain ⟨hx, hb, hml, hown, hts, hE, hA, hlocks, htab, hname, -⟩ := hC
  obtain ⟨hs, hP, hD, hS⟩ := hSt.wd
  replace hr : ec_act (ec_run n) (ec_run n μ) μ pc (match (generalizing := false) st with
        | .ref p :: st => ec_chk (Nat.ble 16 (ec_shp h p).1 && Nat.ble (ec_shp h p).1 20) nx ls (.int (Int32.ofNat (ec_shp h p).2.1) :: st) h
        | .float _ :: st => ec_go nx ls (.int (Int32.ofNat h.2.2.2.2.2.1) :: st) h
        | _ => ec_fail h) = some (o, h') := hr
  split at hr
  · obtain ⟨w1, m1, rfl, e1, hsr⟩ := ec_SR_cons hSt.hsr
    obtain ⟨-, rfl⟩ := e1
    have hk := (ec_a_chk hr).1
    replace hr := (ec_a_chk hr).2
    obtain ⟨hk1, hk2⟩ := ec_bt_and hk
    exact ec_r17 hx hb hE.1 hP hd hok (Nat.le_of_ble_eq_true hk1) (Nat.le_of_ble_eq_true hk2) (ihn nx ls _ h r H locs cells slots lr _ hr (hSt.hst ⟨rfl, hsr⟩))
  · obtain ⟨w1, m1, rfl, e1, hsr⟩ := ec_SR_cons hSt.hsr
    cases e1
    have hscr : h.2.2.2.2.2 = (L, xs) := hSt.2.2.2.2.2.2.2
    rw [hscr] at hr
    obtain ⟨-, -, -, -, -, -, -, hX, hbl, hbA⟩ := hE
    exact ec_r17s hx hb hX hbl hbA hS hd hok (ihn nx ls _ h r H locs cells slots lr _ (ec_a_go hr) (hSt.hst ⟨rfl, hsr⟩))
  · exact (ec_a_fail hr).elim
theorem ec_do_18 (hC : ec_Cx p l R s m args meth c D ty L b xs A μ) (ihn : ec_Gl p l e R s m args below meth c D ty L b xs A r0 N0 nc0 ns0 o h' Q μ n) : ec_Do p l e R s m args below meth c D ty L b xs A r0 N0 nc0 ns0 o h' Q μ n 18 := by
  intro pc nx a b' c' v j k ls st h r H locs cells slots lr sr hr hSt hd hok
  obtain ⟨hx, hb, hml, hown, hts, hE, hA, hlocks, htab, hname, -⟩ := hC
  obtain ⟨hs, hP, hD, hS⟩ := hSt.wd
  exact ec_r18 hx hb hd hok (ihn a ls _ h r H locs cells slots lr _ (ec_a_go hr) hSt)
theorem ec_do_19 (hC : ec_Cx p l R s m args meth c D ty L b xs A μ) (ihn : ec_Gl p l e R s m args below meth c D ty L b xs A r0 N0 nc0 ns0 o h' Q μ n) : ec_Do p l e R s m args below meth c D ty L b xs A r0 N0 nc0 ns0 o h' Q μ n 19 := by
  intro pc nx a b' c' v j k ls st h r H locs cells slots lr sr hr hSt hd hok
  obtain ⟨hx, hb, hml, hown, hts, hE, hA, hlocks, htab, hname, -⟩ := hC
  obtain ⟨hs, hP, hD, hS⟩ := hSt.wd
  replace hr : ec_act (ec_run n) (ec_run n μ) μ pc (match (generalizing := false) st with
        | .int y :: .int x :: st => ec_br (ec_cmp a x y) b' nx ls st h
        | _ => ec_fail h) = some (o, h') := hr
  split at hr
  · obtain ⟨w1, m1, rfl, e1, hs1⟩ := ec_SR_cons hSt.hsr
    obtain ⟨w2, m2, rfl, e2, hsr⟩ := ec_SR_cons hs1
    cases e1
    cases e2
    obtain ⟨k1, k2⟩ := ec_a_br hr
    exact ec_r19 hx hb hd hok (fun z => ihn b' ls _ h r H locs cells slots lr _ (k1 z) (hSt.hst hsr)) (fun z => ihn nx ls _ h r H locs cells slots lr _ (k2 z) (hSt.hst hsr))
  · exact (ec_a_fail hr).elim
theorem ec_do_20 (hC : ec_Cx p l R s m args meth c D ty L b xs A μ) (ihn : ec_Gl p l e R s m args below meth c D ty L b xs A r0 N0 nc0 ns0 o h' Q μ n) : ec_Do p l e R s m args below meth c D ty L b xs A r0 N0 nc0 ns0 o h' Q μ n 20 := by
  intro pc nx a b' c' v j k ls st h r H locs cells slots lr sr hr hSt hd hok
  obtain ⟨hx, hb, hml, hown, hts, hE, hA, hlocks, htab, hname, -⟩ := hC
  obtain ⟨hs, hP, hD, hS⟩ := hSt.wd
  replace hr : ec_act (ec_run n) (ec_run n μ) μ pc (match (generalizing := false) st with
        | .int x :: st => ec_br (ec_cmp0 a x) b' nx ls st h
        | _ => ec_fail h) = some (o, h') := hr
  split at hr
  · obtain ⟨w1, m1, rfl, e1, hsr⟩ := ec_SR_cons hSt.hsr
    cases e1
    obtain ⟨k1, k2⟩ := ec_a_br hr
    exact ec_r20 hx hb hd hok (fun z => ihn b' ls _ h r H locs cells slots lr _ (k1 z) (hSt.hst hsr)) (fun z => ihn nx ls _ h r H locs cells slots lr _ (k2 z) (hSt.hst hsr))
  · exact (ec_a_fail hr).elim
theorem ec_do_21 (hC : ec_Cx p l R s m args meth c D ty L b xs A μ) (ihn : ec_Gl p l e R s m args below meth c D ty L b xs A r0 N0 nc0 ns0 o h' Q μ n) : ec_Do p l e R s m args below meth c D ty L b xs A r0 N0 nc0 ns0 o h' Q μ n 21 := by
  intro pc nx a b' c' v j k ls st h r H locs cells slots lr sr hr hSt hd hok
  obtain ⟨hx, hb, hml, hown, hts, hE, hA, hlocks, htab, hname, -⟩ := hC
  obtain ⟨hs, hP, hD, hS⟩ := hSt.wd
  replace hr : ec_act (ec_run n) (ec_run n μ) μ pc (match (generalizing := false) st with
        | .ref _ :: st => ec_go nx ls st h
        | .null :: st => ec_go a ls st h
        | _ => ec_fail h) = some (o, h') := hr
  split at hr
  · obtain ⟨w1, m1, rfl, e1, hsr⟩ := ec_SR_cons hSt.hsr
    obtain ⟨-, rfl⟩ := e1
    exact ec_r21 hx hb hd hok (ihn nx ls _ h r H locs cells slots lr _ (ec_a_go hr) (hSt.hst hsr))
  · obtain ⟨w1, m1, rfl, e1, hsr⟩ := ec_SR_cons hSt.hsr
    cases e1
    exact ec_r21n hx hb hd hok (ihn a ls _ h r H locs cells slots lr _ (ec_a_go hr) (hSt.hst hsr))
  · exact (ec_a_fail hr).elim
theorem ec_do_22 (hC : ec_Cx p l R s m args meth c D ty L b xs A μ) (ihn : ec_Gl p l e R s m args below meth c D ty L b xs A r0 N0 nc0 ns0 o h' Q μ n) : ec_Do p l e R s m args below meth c D ty L b xs A r0 N0 nc0 ns0 o h' Q μ n 22 := by
  intro pc nx a b' c' v j k ls st h r H locs cells slots lr sr hr hSt hd hok
  obtain ⟨hx, hb, hml, hown, hts, hE, hA, hlocks, htab, hname, -⟩ := hC
  obtain ⟨hs, hP, hD, hS⟩ := hSt.wd
  replace hr : ec_act (ec_run n) (ec_run n μ) μ pc (match (generalizing := false) st with
        | .ref x :: st => ec_go nx ls (.ref x :: .ref x :: st) h
        | .int x :: st => ec_go nx ls (.int x :: .int x :: st) h
        | _ => ec_fail h) = some (o, h') := hr
  split at hr
  · obtain ⟨w1, m1, rfl, e1, hsr⟩ := ec_SR_cons hSt.hsr
    exact ec_r22 hx hb hd hok (ec_vr_cat e1) (ihn nx ls _ h r H locs cells slots lr _ (ec_a_go hr) (hSt.hst ⟨e1, e1, hsr⟩))
  · obtain ⟨w1, m1, rfl, e1, hsr⟩ := ec_SR_cons hSt.hsr
    exact ec_r22 hx hb hd hok (ec_vr_cat e1) (ihn nx ls _ h r H locs cells slots lr _ (ec_a_go hr) (hSt.hst ⟨e1, e1, hsr⟩))
  · exact (ec_a_fail hr).elim
theorem ec_do_23 (hC : ec_Cx p l R s m args meth c D ty L b xs A μ) (ihn : ec_Gl p l e R s m args below meth c D ty L b xs A r0 N0 nc0 ns0 o h' Q μ n) : ec_Do p l e R s m args below meth c D ty L b xs A r0 N0 nc0 ns0 o h' Q μ n 23 := by
  intro pc nx a b' c' v j k ls st h r H locs cells slots lr sr hr hSt hd hok
  obtain ⟨hx, hb, hml, hown, hts, hE, hA, hlocks, htab, hname, -⟩ := hC
  obtain ⟨hs, hP, hD, hS⟩ := hSt.wd
  replace hr : ec_act (ec_run n) (ec_run n μ) μ pc (match (generalizing := false) st with
        | .int y :: .ref x :: st => ec_go nx ls (.int y :: .ref x :: .int y :: .ref x :: st) h
        | _ => ec_fail h) = some (o, h') := hr
  split at hr
  · obtain ⟨w1, m1, rfl, e1, hs1⟩ := ec_SR_cons hSt.hsr
    obtain ⟨w2, m2, rfl, e2, hsr⟩ := ec_SR_cons hs1
    exact ec_r23 hx hb hd hok (ec_vr_cat e1) (ec_vr_cat e2) (ihn nx ls _ h r H locs cells slots lr _ (ec_a_go hr) (hSt.hst ⟨e1, e2, e1, e2, hsr⟩))
  · exact (ec_a_fail hr).elim
theorem ec_do_24 (hC : ec_Cx p l R s m args meth c D ty L b xs A μ) (ihn : ec_Gl p l e R s m args below meth c D ty L b xs A r0 N0 nc0 ns0 o h' Q μ n) : ec_Do p l e R s m args below meth c D ty L b xs A r0 N0 nc0 ns0 o h' Q μ n 24 := by
  intro pc nx a b' c' v j k ls st h r H locs cells slots lr sr hr hSt hd hok
  obtain ⟨hx, hb, hml, hown, hts, hE, hA, hlocks, htab, hname, -⟩ := hC
  obtain ⟨hs, hP, hD, hS⟩ := hSt.wd
  replace hr : ec_act (ec_run n) (ec_run n μ) μ pc (match (generalizing := false) st with
        | .int x :: st => ec_go nx ls (.long x.toInt64 :: st) h
        | _ => ec_fail h) = some (o, h') := hr
  split at hr
  · obtain ⟨w1, m1, rfl, e1, hsr⟩ := ec_SR_cons hSt.hsr
    cases e1
    exact ec_r24 hx hb hd hok (ihn nx ls _ h r H locs cells slots lr _ (ec_a_go hr) (hSt.hst ⟨rfl, hsr⟩))
  · exact (ec_a_fail hr).elim
theorem ec_do_25 (hC : ec_Cx p l R s m args meth c D ty L b xs A μ) (ihn : ec_Gl p l e R s m args below meth c D ty L b xs A r0 N0 nc0 ns0 o h' Q μ n) : ec_Do p l e R s m args below meth c D ty L b xs A r0 N0 nc0 ns0 o h' Q μ n 25 := by
  intro pc nx a b' c' v j k ls st h r H locs cells slots lr sr hr hSt hd hok
  obtain ⟨hx, hb, hml, hown, hts, hE, hA, hlocks, htab, hname, -⟩ := hC
  obtain ⟨hs, hP, hD, hS⟩ := hSt.wd
  replace hr : ec_act (ec_run n) (ec_run n μ) μ pc (match (generalizing := false) st with
        | .int x :: st => ec_go nx ls (.int x.toInt8.toInt32 :: st) h
        | _ => ec_fail h) = some (o, h') := hr
  split at hr
  · obtain ⟨w1, m1, rfl, e1, hsr⟩ := ec_SR_cons hSt.hsr
    cases e1
    exact ec_r25 hx hb hd hok (ihn nx ls _ h r H locs cells slots lr _ (ec_a_go hr) (hSt.hst ⟨rfl, hsr⟩))
  · exact (ec_a_fail hr).elim
theorem ec_do_26 (hC : ec_Cx p l R s m args meth c D ty L b xs A μ) (ihn : ec_Gl p l e R s m args below meth c D ty L b xs A r0 N0 nc0 ns0 o h' Q μ n) : ec_Do p l e R s m args below meth c D ty L b xs A r0 N0 nc0 ns0 o h' Q μ n 26 := by
  intro pc nx a b' c' v j k ls st h r H locs cells slots lr sr hr hSt hd hok
  obtain ⟨hx, hb, hml, hown, hts, hE, hA, hlocks, htab, hname, -⟩ := hC
  obtain ⟨hs, hP, hD, hS⟩ := hSt.wd
  replace hr : ec_act (ec_run n) (ec_run n μ) μ pc (match (generalizing := false) st with
        | .long y :: .long x :: st => ec_go nx ls (.long (x + y) :: st) h
        | _ => ec_fail h) = some (o, h') := hr
  split at hr
  · obtain ⟨w1, m1, rfl, e1, hs1⟩ := ec_SR_cons hSt.hsr
    obtain ⟨w2, m2, rfl, e2, hsr⟩ := ec_SR_cons hs1
    cases e1
    cases e2
    exact ec_r26 hx hb hd hok (ihn nx ls _ h r H locs cells slots lr _ (ec_a_go hr) (hSt.hst ⟨rfl, hsr⟩))
  · exact (ec_a_fail hr).elim
theorem ec_do_27 (hC : ec_Cx p l R s m args meth c D ty L b xs A μ) (ihn : ec_Gl p l e R s m args below meth c D ty L b xs A r0 N0 nc0 ns0 o h' Q μ n) : ec_Do p l e R s m args below meth c D ty L b xs A r0 N0 nc0 ns0 o h' Q μ n 27 := by
  intro pc nx a b' c' v j k ls st h r H locs cells slots lr sr hr hSt hd hok
  obtain ⟨hx, hb, hml, hown, hts, hE, hA, hlocks, htab, hname, -⟩ := hC
  obtain ⟨hs, hP, hD, hS⟩ := hSt.wd
  replace hr : ec_act (ec_run n) (ec_run n μ) μ pc (match (generalizing := false) st with
        | .long y :: .long x :: st => ec_go nx ls (.long (x * y) :: st) h
        | _ => ec_fail h) = some (o, h') := hr
  split at hr
  · obtain ⟨w1, m1, rfl, e1, hs1⟩ := ec_SR_cons hSt.hsr
    obtain ⟨w2, m2, rfl, e2, hsr⟩ := ec_SR_cons hs1
    cases e1
    cases e2
    exact ec_r27 hx hb hd hok (ihn nx ls _ h r H locs cells slots lr _ (ec_a_go hr) (hSt.hst ⟨rfl, hsr⟩))
  · exact (ec_a_fail hr).elim
theorem ec_do_28 (hC : ec_Cx p l R s m args meth c D ty L b xs A μ) (ihn : ec_Gl p l e R s m args below meth c D ty L b xs A r0 N0 nc0 ns0 o h' Q μ n) : ec_Do p l e R s m args below meth c D ty L b xs A r0 N0 nc0 ns0 o h' Q μ n 28 := by
  intro pc nx a b' c' v j k ls st h r H locs cells slots lr sr hr hSt hd hok
  obtain ⟨hx, hb, hml, hown, hts, hE, hA, hlocks, htab, hname, -⟩ := hC
  obtain ⟨hs, hP, hD, hS⟩ := hSt.wd
  replace hr : ec_act (ec_run n) (ec_run n μ) μ pc (match (generalizing := false) st with
        | .long y :: .long x :: st => ec_go nx ls (.int (lg_cmp x y) :: st) h
        | _ => ec_fail h) = some (o, h') := hr
  split at hr
  · obtain ⟨w1, m1, rfl, e1, hs1⟩ := ec_SR_cons hSt.hsr
    obtain ⟨w2, m2, rfl, e2, hsr⟩ := ec_SR_cons hs1
    cases e1
    cases e2
    exact ec_r28 hx hb hd hok (ihn nx ls _ h r H locs cells slots lr _ (ec_a_go hr) (hSt.hst ⟨rfl, hsr⟩))
  · exact (ec_a_fail hr).elim
theorem ec_do_39 (hC : ec_Cx p l R s m args meth c D ty L b xs A μ) (ihn : ec_Gl p l e R s m args below meth c D ty L b xs A r0 N0 nc0 ns0 o h' Q μ n) : ec_Do p l e R s m args below meth c D ty L b xs A r0 N0 nc0 ns0 o h' Q μ n 39 := by
  intro pc nx a b' c' v j k ls st h r H locs cells slots lr sr hr hSt hd hok
  obtain ⟨hx, hb, hml, hown, hts, hE, hA, hlocks, htab, hname, -⟩ := hC
  obtain ⟨hs, hP, hD, hS⟩ := hSt.wd
  replace hr : ec_act (ec_run n) (ec_run n μ) μ pc (match (generalizing := false) st with
        | .int x :: st => .inr (.inl (ec_swl x (ec_nth ([], 0) ec_sw a).1 (ec_nth ([], 0) ec_sw a).2, ls, st, h))
        | _ => ec_fail h) = some (o, h') := hr
  split at hr
  · obtain ⟨w1, m1, rfl, e1, hsr⟩ := ec_SR_cons hSt.hsr
    cases e1
    exact ec_r39 hx hb hd hok hr (fun t ht => ihn t ls _ h r H locs cells slots lr _ ht (hSt.hst hsr))
  · exact (ec_a_fail hr).elim
theorem ec_do_40 (hC : ec_Cx p l R s m args meth c D ty L b xs A μ) (ihn : ec_Gl p l e R s m args below meth c D ty L b xs A r0 N0 nc0 ns0 o h' Q μ n) : ec_Do p l e R s m args below meth c D ty L b xs A r0 N0 nc0 ns0 o h' Q μ n 40 := by
  intro pc nx a b' c' v j k ls st h r H locs cells slots lr sr hr hSt hd hok
  obtain ⟨hx, hb, hml, hown, hts, hE, hA, hlocks, htab, hname, -⟩ := hC
  obtain ⟨hs, hP, hD, hS⟩ := hSt.wd
  exact ec_r40 hx hb hown hts hd hok (ihn nx ls _ h r H locs cells slots lr _ (ec_a_go hr) (hSt.hst ⟨rfl, hSt.hsr⟩))
theorem ec_do_41 (hC : ec_Cx p l R s m args meth c D ty L b xs A μ) (ihn : ec_Gl p l e R s m args below meth c D ty L b xs A r0 N0 nc0 ns0 o h' Q μ n) : ec_Do p l e R s m args below meth c D ty L b xs A r0 N0 nc0 ns0 o h' Q μ n 41 := by
  intro pc nx a b' c' v j k ls st h r H locs cells slots lr sr hr hSt hd hok
  obtain ⟨hx, hb, hml, hown, hts, hE, hA, hlocks, htab, hname, -⟩ := hC
  obtain ⟨hs, hP, hD, hS⟩ := hSt.wd
  exact ec_r41 hx hb hd hok (ihn nx ls _ h r H locs cells slots lr _ (ec_a_go hr) (hSt.hst ⟨rfl, hSt.hsr⟩))
end ECD
