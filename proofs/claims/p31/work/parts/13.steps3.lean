/-! One step of the machine: new cells, members of the library, the stack, the ends. -/
section ECU
variable {p : Program} {l : Launch} {e : Env} {R : Room} {s : State} {m : MethodId} {args : Array Value} {below : List Frame} {meth : Method} {c : Code} {H : Heap} {locs : List Loc} {cells slots : Nat} {Q : State → Prop}
variable {pc nx a b c' k μ : Nat} {v : Int32} {j : Instr} {lr : Array Slot} {sr : List Value} {cc : ByteArray}
variable {D : va_G} {ty r : Nat → Nat} {A : Nat → Prop} {h : ec_Hp} {q : Nat}
theorem ec_r22 (hx : p.tables.exec = Jvm.exec) (hb : c.code = cc) (hd : decode cc pc = .ok (j, k)) (hok : ec_okJ μ pc nx a b c' v j k 22 = true) {w : Value} (hw : w.category = 1)
    (kk : W p l e R s m args below meth c H locs cells slots Q (F0 m nx lr (w :: w :: sr))) : W p l e R s m args below meth c H locs cells slots Q (F0 m pc lr (w :: sr)) := by
  obtain ⟨rfl, rfl, rfl⟩ := ec_oj hok
  exact lv_dup hx hb hd hw kk
theorem ec_r23 (hx : p.tables.exec = Jvm.exec) (hb : c.code = cc) (hd : decode cc pc = .ok (j, k)) (hok : ec_okJ μ pc nx a b c' v j k 23 = true) {w z : Value} (hw : w.category = 1) (hz : z.category = 1)
    (kk : W p l e R s m args below meth c H locs cells slots Q (F0 m nx lr (w :: z :: w :: z :: sr))) : W p l e R s m args below meth c H locs cells slots Q (F0 m pc lr (w :: z :: sr)) := by
  obtain ⟨rfl, rfl, rfl⟩ := ec_oj hok
  exact lv_dup2_11 hx hb hd hw hz kk
theorem ec_r24 (hx : p.tables.exec = Jvm.exec) (hb : c.code = cc) (hd : decode cc pc = .ok (j, k)) (hok : ec_okJ μ pc nx a b c' v j k 24 = true) {x : Int32}
    (kk : W p l e R s m args below meth c H locs cells slots Q (F0 m nx lr (.long x.toInt64 :: sr))) : W p l e R s m args below meth c H locs cells slots Q (F0 m pc lr (.int x :: sr)) := by
  obtain ⟨rfl, rfl, rfl⟩ := ec_oj hok
  exact lv_i2l hx hb hd rfl kk
theorem ec_r25 (hx : p.tables.exec = Jvm.exec) (hb : c.code = cc) (hd : decode cc pc = .ok (j, k)) (hok : ec_okJ μ pc nx a b c' v j k 25 = true) {x : Int32}
    (kk : W p l e R s m args below meth c H locs cells slots Q (F0 m nx lr (.int x.toInt8.toInt32 :: sr))) : W p l e R s m args below meth c H locs cells slots Q (F0 m pc lr (.int x :: sr)) := by
  obtain ⟨rfl, rfl, rfl⟩ := ec_oj hok
  exact lv_i2b hx hb hd rfl kk
theorem ec_r26 (hx : p.tables.exec = Jvm.exec) (hb : c.code = cc) (hd : decode cc pc = .ok (j, k)) (hok : ec_okJ μ pc nx a b c' v j k 26 = true) {x y : Int64}
    (kk : W p l e R s m args below meth c H locs cells slots Q (F0 m nx lr (.long (x + y) :: sr))) : W p l e R s m args below meth c H locs cells slots Q (F0 m pc lr (.long y :: .long x :: sr)) := by
  obtain ⟨rfl, rfl, rfl⟩ := ec_oj hok
  exact lv_ladd hx hb hd kk
theorem ec_r27 (hx : p.tables.exec = Jvm.exec) (hb : c.code = cc) (hd : decode cc pc = .ok (j, k)) (hok : ec_okJ μ pc nx a b c' v j k 27 = true) {x y : Int64}
    (kk : W p l e R s m args below meth c H locs cells slots Q (F0 m nx lr (.long (x * y) :: sr))) : W p l e R s m args below meth c H locs cells slots Q (F0 m pc lr (.long y :: .long x :: sr)) := by
  obtain ⟨rfl, rfl, rfl⟩ := ec_oj hok
  exact lv_lmul hx hb hd kk
theorem ec_r28 (hx : p.tables.exec = Jvm.exec) (hb : c.code = cc) (hd : decode cc pc = .ok (j, k)) (hok : ec_okJ μ pc nx a b c' v j k 28 = true) {x y : Int64}
    (kk : W p l e R s m args below meth c H locs cells slots Q (F0 m nx lr (.int (lg_cmp x y) :: sr))) : W p l e R s m args below meth c H locs cells slots Q (F0 m pc lr (.long y :: .long x :: sr)) := by
  obtain ⟨rfl, rfl, rfl⟩ := ec_oj hok
  exact W.lcmp hx hb hd kk
theorem ec_r41 (hx : p.tables.exec = Jvm.exec) (hb : c.code = cc) (hd : decode cc pc = .ok (j, k)) (hok : ec_okJ μ pc nx a b c' v j k 41 = true)
    (kk : W p l e R s m args below meth c H locs cells slots Q (F0 m nx lr (.null :: sr))) : W p l e R s m args below meth c H locs cells slots Q (F0 m pc lr sr) := by
  obtain ⟨rfl, rfl, rfl⟩ := ec_oj hok
  exact lv_null hx hb hd kk
/-! new cells -/
def ec_df : Nat → Value
  | 0 => .int 0
  | 1 => .int 0
  | 2 => .long 0
  | _ => .null
theorem ec_df_ok {n : Nat} {t : FieldType} (h : ec_tq n t = true) : defaultValue t = ec_df n := by
  match n, t, h with
  | 0, .int, _ => rfl
  | 1, .boolean, _ => rfl
  | 2, .long, _ => rfl
  | 3, .object _, _ => rfl
  | 3, .array _, _ => rfl
theorem ec_ob_mk {kd n : Nat} : ec_ob (ec_nr r h.1.length q) (ec_mk h kd n) h.1.length = (List.range n).map (fun i => ec_df (ec_fk kd i)) := by
  have es : ec_shp (ec_mk h kd n) h.1.length = (kd, n, fun _ => .null) := by rw [ec_shp_mk, if_pos rfl]
  have e1 : ∀ i, (ec_mk h kd n).2.1 h.1.length i = 0 := fun i => by simp [ec_mk, ec_upA]
  have e2 : ∀ i, (ec_mk h kd n).2.2.1 h.1.length i = 0 := fun i => by simp [ec_mk, ec_clL]
  unfold ec_ob
  rw [es]
  refine List.map_congr_left fun i _ => ?_
  simp only [ec_f1, es, e1, e2, ec_rr]
  unfold ec_df
  rfl
theorem ec_r35 (hx : p.tables.exec = Jvm.exec) (hb : c.code = cc) (hown : s.vm.findClass (ec_own (ec_mr μ).1) = some m.cls) (hts : ∀ w ∈ ec_gd, w.before args s = true) (hK : va_K D ec_cl (ec_tys ty) s) (hA : ∀ q, s.heap.size ≤ q → A q)
    (hs : ec_sv h) (hP : va_P D ec_cl (ec_ws ty r h) H) (hD : va_D A (ec_ws ty r h)) (hS : va_S A s.heap H locs) (hd : decode cc pc = .ok (j, k)) (hok : ec_okJ μ pc nx a b c' v j k 35 = true) (hc : cells + 1 ≤ R.cells) (hsl : slots + (ec_nth [] ec_ft a).length ≤ R.slots)
    (kk : a < 7 → ∀ (q : Nat) (H1 : Heap), va_P D ec_cl (ec_ws ty (ec_nr r h.1.length q) (ec_mk h a (ec_nth [] ec_ft a).length)) H1 → va_D A (ec_ws ty (ec_nr r h.1.length q) (ec_mk h a (ec_nth [] ec_ft a).length)) → va_S A s.heap H1 locs →
      W p l e R s m args below meth c H1 locs (cells + 1) (slots + (ec_nth [] ec_ft a).length) Q (F0 m nx lr (.ref q :: sr))) : W p l e R s m args below meth c H locs cells slots Q (F0 m pc lr sr) := by
  obtain ⟨h1, h2⟩ := ec_bt_and hok
  obtain ⟨h3, h4⟩ := ec_bt_and h2
  obtain ⟨h5, h6⟩ := ec_bt_and h4
  obtain ⟨h7, h8⟩ := ec_bt_and h6
  have ha : a < 7 := by simpa using h5
  have hcl := ec_cl_ok _ (ec_has3_mem h7)
  cases Nat.eq_of_beq_eq_true h1
  cases Nat.eq_of_beq_eq_true h3
  cases of_decide_eq_true h8
  have hlen := ec_len_ok a ha
  rw [hlen] at kk hsl
  refine va_new (ci := a) (fs := (List.range (ec_N a)).map (fun i => ec_df (ec_fk a i))) hx hb hts (ec_lay_in ha) (ec_tyf a) (ec_ty_ok a ha) hown (hts _ hcl) (hts _ (ec_ins_in ha)) (hts _ (ec_ini_in ha)) hK hP hD hS hA (ec_cl_at ha) (fun i hi => ?_) hc hsl hd (fun q H1 hP1 hD1 hS1 => ?_)
  · rw [ec_df_ok (ec_tq_ok a ha i hi)]
    simp [vp_V, hi]
  · have e : ec_ws ty (ec_nr r h.1.length q) (ec_mk h a (ec_N a)) = ec_ws ty r h ++ [(q, .inr (a, (List.range (ec_N a)).map (fun i => ec_df (ec_fk a i))))] := by
      rw [ec_ws_mk hs, ec_ce_ob (c := a) (by rw [ec_shp_mk, if_pos rfl]) ha, ec_ob_mk]
    exact kk ha q H1 (by rw [e]; exact hP1) (by rw [e]; exact hD1) hS1
theorem ec_ac_i : Cond.arrayClass .int ∈ ec_gd := List.mem_filter.mpr ⟨by decide +kernel, rfl⟩
theorem ec_ac_z : Cond.arrayClass .boolean ∈ ec_gd := List.mem_filter.mpr ⟨by decide +kernel, rfl⟩
theorem ec_ac_b : Cond.arrayClass .byte ∈ ec_gd := List.mem_filter.mpr ⟨by decide +kernel, rfl⟩
theorem ec_tys_last {cA t : Nat} {T : FieldType} (hK : va_K D ec_cl (ec_tys ty ++ [(cA, T)]) s) (ht : (ec_tys ty)[t]? = some (ty t, T)) (hT : ∀ C, T ≠ .object C) : cA = ty t := by
  have h1 := (hK.2 t _ (by rw [List.getElem?_append_left (List.getElem?_eq_some_iff.mp ht).1]; exact ht)).2
  have h2 := (hK.2 5 (cA, T) rfl).2
  cases T with
  | object C => exact absurd rfl (hT C)
  | _ => exact Option.some.inj (h2.symm.trans h1)
theorem ec_tys_obj {cA : Nat} (hK : va_K D ec_cl (ec_tys ty ++ [(cA, .object "EchoDungeon$Dungeon")]) s) : cA = ty 4 := by
  obtain ⟨_, _, _, _, _, h1⟩ := (hK.2 4 (ty 4, .object "EchoDungeon$Dungeon") rfl).2
  obtain ⟨_, _, _, _, _, h2⟩ := (hK.2 5 (cA, .object "EchoDungeon$Dungeon") rfl).2
  exact Option.some.inj (h2.symm.trans h1)
theorem ec_ce_mk {kd n : Nat} (hk : kd = 16 ∨ kd = 17 ∨ kd = 18) : ec_ce ty (ec_nr r h.1.length q) (ec_mk h kd n) h.1.length = .inl (ty (kd - 16), n, .inl (fun _ => 0)) := by
  have es : ec_shp (ec_mk h kd n) h.1.length = (kd, n, fun _ => .null) := by rw [ec_shp_mk, if_pos rfl]
  have e1 : (ec_mk h kd n).2.1 h.1.length = fun _ => 0 := by funext i; simp [ec_mk, ec_upA]
  unfold ec_ce
  rw [es, e1]
  rcases hk with rfl | rfl | rfl <;> rfl
theorem ec_ce_mkl {n : Nat} : ec_ce ty (ec_nr r h.1.length q) (ec_mk h 19 n) h.1.length = .inl (ty 3, n, .inr (.inl (fun _ => 0))) := by
  have es : ec_shp (ec_mk h 19 n) h.1.length = (19, n, fun _ => .null) := by rw [ec_shp_mk, if_pos rfl]
  have e1 : (ec_mk h 19 n).2.2.1 h.1.length = fun _ => 0 := by funext i; simp [ec_mk, ec_clL]
  unfold ec_ce
  rw [es, e1]
  rfl
theorem ec_ce_mkr {n : Nat} : ec_ce ty (ec_nr r h.1.length q) (ec_mk h 20 n) h.1.length = .inl (ty 4, n, .inr (.inr (.inr (.inr (fun _ => none))))) := by
  have es : ec_shp (ec_mk h 20 n) h.1.length = (20, n, fun _ => .null) := by rw [ec_shp_mk, if_pos rfl]
  unfold ec_ce
  rw [es]
  rfl
theorem ec_r37 (hx : p.tables.exec = Jvm.exec) (hb : c.code = cc) (hts : ∀ w ∈ ec_gd, w.before args s = true) (hK : va_K D ec_cl (ec_tys ty) s) (hA : ∀ q, s.heap.size ≤ q → A q)
    (hs : ec_sv h) (hP : va_P D ec_cl (ec_ws ty r h) H) (hD : va_D A (ec_ws ty r h)) (hS : va_S A s.heap H locs) (hd : decode cc pc = .ok (j, k)) (hok : ec_okJ μ pc nx a b c' v j k 37 = true) {n : Int32} (h0 : 0 ≤ n) (hn : n.toNatClampNeg ≤ 5000) (hc : cells + 1 ≤ R.cells) (hsl : slots + n.toNatClampNeg ≤ R.slots)
    (kk : ∀ (q : Nat) (H1 : Heap), va_P D ec_cl (ec_ws ty (ec_nr r h.1.length q) (ec_mk h (16 + a) n.toNatClampNeg)) H1 → va_D A (ec_ws ty (ec_nr r h.1.length q) (ec_mk h (16 + a) n.toNatClampNeg)) → va_S A s.heap H1 locs →
      W p l e R s m args below meth c H1 locs (cells + 1) (slots + n.toNatClampNeg) Q (F0 m nx lr (.ref q :: sr))) : W p l e R s m args below meth c H locs cells slots Q (F0 m pc lr (.int n :: sr)) := by
  obtain ⟨h1, h2⟩ := ec_bt_and hok
  obtain ⟨h3, h4⟩ := ec_bt_and h2
  cases Nat.eq_of_beq_eq_true h1
  cases Nat.eq_of_beq_eq_true h3
  have hn0 : ¬ n < 0 := Int32.not_lt.mpr h0
  split at h4
  · cases Nat.eq_of_beq_eq_true h4
    refine va_newa (atype := .int) (ty := .int) (a0 := (n.toNatClampNeg, .inl (fun _ => 0))) hx hb (hts _ ec_ac_i) rfl hK hP hD hS hA (fun cA => rfl) hn0 rfl (by show _ * 4 ≤ _; omega) hc hsl hd (fun q cA H1 hK1 hP1 hD1 hS1 => ?_)
    have e : ec_ws ty (ec_nr r h.1.length q) (ec_mk h 16 n.toNatClampNeg) = ec_ws ty r h ++ [(q, .inl (cA, n.toNatClampNeg, .inl (fun _ => 0)))] := by
      rw [ec_ws_mk hs, ec_ce_mk (Or.inl rfl), ec_tys_last hK1 (t := 0) rfl (fun C z => by cases z)]
    exact kk q H1 (by rw [show 16 + 0 = 16 from rfl, e]; exact hP1) (by rw [show 16 + 0 = 16 from rfl, e]; exact hD1) hS1
  · cases Nat.eq_of_beq_eq_true h4
    refine va_newa (atype := .boolean) (ty := .boolean) (a0 := (n.toNatClampNeg, .inl (fun _ => 0))) hx hb (hts _ ec_ac_z) rfl hK hP hD hS hA (fun cA => rfl) hn0 rfl (by show _ * 1 ≤ _; omega) hc hsl hd (fun q cA H1 hK1 hP1 hD1 hS1 => ?_)
    have e : ec_ws ty (ec_nr r h.1.length q) (ec_mk h 17 n.toNatClampNeg) = ec_ws ty r h ++ [(q, .inl (cA, n.toNatClampNeg, .inl (fun _ => 0)))] := by
      rw [ec_ws_mk hs, ec_ce_mk (Or.inr (Or.inl rfl)), ec_tys_last hK1 (t := 1) rfl (fun C z => by cases z)]
    exact kk q H1 (by rw [show 16 + 1 = 17 from rfl, e]; exact hP1) (by rw [show 16 + 1 = 17 from rfl, e]; exact hD1) hS1
  · cases Nat.eq_of_beq_eq_true h4
    refine va_newa (atype := .byte) (ty := .byte) (a0 := (n.toNatClampNeg, .inl (fun _ => 0))) hx hb (hts _ ec_ac_b) rfl hK hP hD hS hA (fun cA => rfl) hn0 rfl (by show _ * 1 ≤ _; omega) hc hsl hd (fun q cA H1 hK1 hP1 hD1 hS1 => ?_)
    have e : ec_ws ty (ec_nr r h.1.length q) (ec_mk h 18 n.toNatClampNeg) = ec_ws ty r h ++ [(q, .inl (cA, n.toNatClampNeg, .inl (fun _ => 0)))] := by
      rw [ec_ws_mk hs, ec_ce_mk (Or.inr (Or.inr rfl)), ec_tys_last hK1 (t := 2) rfl (fun C z => by cases z)]
    exact kk q H1 (by rw [show 16 + 2 = 18 from rfl, e]; exact hP1) (by rw [show 16 + 2 = 18 from rfl, e]; exact hD1) hS1
  · cases h4
theorem ec_r38 (hx : p.tables.exec = Jvm.exec) (hb : c.code = cc) (hown : s.vm.findClass (ec_own (ec_mr μ).1) = some m.cls) (hts : ∀ w ∈ ec_gd, w.before args s = true) (hK : va_K D ec_cl (ec_tys ty) s) (hAO : va_AO "EchoDungeon$Dungeon" s) (hA : ∀ q, s.heap.size ≤ q → A q)
    (hs : ec_sv h) (hP : va_P D ec_cl (ec_ws ty r h) H) (hD : va_D A (ec_ws ty r h)) (hS : va_S A s.heap H locs) (hd : decode cc pc = .ok (j, k)) (hok : ec_okJ μ pc nx a b c' v j k 38 = true) {n : Int32} (h0 : 0 ≤ n) (hn : n.toNatClampNeg ≤ 5000) (hc : cells + 1 ≤ R.cells) (hsl : slots + n.toNatClampNeg ≤ R.slots)
    (kk : ∀ (q : Nat) (H1 : Heap), va_P D ec_cl (ec_ws ty (ec_nr r h.1.length q) (ec_mk h 20 n.toNatClampNeg)) H1 → va_D A (ec_ws ty (ec_nr r h.1.length q) (ec_mk h 20 n.toNatClampNeg)) → va_S A s.heap H1 locs →
      W p l e R s m args below meth c H1 locs (cells + 1) (slots + n.toNatClampNeg) Q (F0 m nx lr (.ref q :: sr))) : W p l e R s m args below meth c H locs cells slots Q (F0 m pc lr (.int n :: sr)) := by
  obtain ⟨h1, h2⟩ := ec_bt_and hok
  obtain ⟨h3, h4⟩ := ec_bt_and h2
  obtain ⟨h5, h6⟩ := ec_bt_and h4
  have hcl := ec_cl_ok _ (ec_has3_mem h5)
  cases Nat.eq_of_beq_eq_true h1
  cases Nat.eq_of_beq_eq_true h3
  cases of_decide_eq_true h6
  have hn0 : ¬ n < 0 := Int32.not_lt.mpr h0
  refine va_newq (C := "EchoDungeon$Dungeon") hx hb hown (hts _ hcl) hAO hK hP hD hS hA hn0 rfl (by omega) hc hsl hd (fun q cA H1 hK1 hP1 hD1 hS1 => ?_)
  have e : ec_ws ty (ec_nr r h.1.length q) (ec_mk h 20 n.toNatClampNeg) = ec_ws ty r h ++ [(q, .inl (cA, n.toNatClampNeg, .inr (.inr (.inr (.inr (fun _ => none))))))] := by
    rw [ec_ws_mk hs, ec_ce_mkr, ec_tys_obj hK1]
  exact kk q H1 (by rw [e]; exact hP1) (by rw [e]; exact hD1) hS1
/-! members of the library -/
theorem ec_bw_at (i : Nat) {w : Cond} (h : ec_bw[i]? = some w) : w ∈ ec_gd := ec_bw_ok w (List.mem_of_getElem? h)
theorem ec_r34 (hok : ec_okJ μ pc nx a b c' v j k 34 = true) : nx = pc + 3 ∧ k = 3 ∧ ec_blw ((ec_mr μ).1, b, a) ∈ ec_gd ∧ ((a = 0 ∧ j = .invokespecial b) ∨ ((a = 1 ∨ a = 2 ∨ a = 3) ∧ j = .invokestatic b)) := by
  obtain ⟨h1, h2⟩ := ec_bt_and hok
  obtain ⟨h3, h4⟩ := ec_bt_and h2
  obtain ⟨h5, h6⟩ := ec_bt_and h4
  have hbl := ec_bl_ok _ (ec_has3_mem h5)
  refine ⟨Nat.eq_of_beq_eq_true h1, Nat.eq_of_beq_eq_true h3, hbl, ?_⟩
  split at h6
  · obtain ⟨h7, h8⟩ := ec_bt_and h6
    exact Or.inl ⟨Nat.eq_of_beq_eq_true h8, by rw [Nat.eq_of_beq_eq_true h7]⟩
  · obtain ⟨h7, h8⟩ := ec_bt_and h6
    obtain ⟨h8, h9⟩ := ec_bt_and h8
    have h8 : 1 ≤ a := Nat.le_of_ble_eq_true h8
    have h9 : a ≤ 3 := Nat.le_of_ble_eq_true h9
    exact Or.inr ⟨by omega, by rw [Nat.eq_of_beq_eq_true h7]⟩
  · cases h6
theorem ec_r34_0 (hx : p.tables.exec = Jvm.exec) (hb : c.code = cc) (hml : c.maxLocals = lr.size) (hown : s.vm.findClass (ec_own (ec_mr μ).1) = some m.cls) (hts : ∀ w ∈ ec_gd, w.before args s = true) (hd : decode cc pc = .ok (j, k)) (hok : ec_okJ μ pc nx a b c' v j k 34 = true) (ha : a = 0)
    (hf : 1 ≤ R.frames) (hl : (sr.map fun v => v.category).sum + 13 ≤ R.locals) {z : Nat}
    (kk : W p l e R s m args below meth c H locs cells slots Q (F0 m nx lr sr)) : W p l e R s m args below meth c H locs cells slots Q (F0 m pc lr (.ref z :: sr)) := by
  obtain ⟨rfl, rfl, hw, hj⟩ := ec_r34 hok
  subst ha
  rcases hj with ⟨-, rfl⟩ | ⟨h9, -⟩
  · exact W.objInit hx hb hown (hts _ hw) (hts _ (ec_bw_at 0 rfl)) (hts _ (ec_bw_at 1 rfl)) rfl (by rw [hml]) rfl hd hf (by show 2 * 0 + _ + 12 ≤ _; omega) kk
  · omega
theorem ec_r34_1 (hx : p.tables.exec = Jvm.exec) (hb : c.code = cc) (hml : c.maxLocals = lr.size) (hown : s.vm.findClass (ec_own (ec_mr μ).1) = some m.cls) (hts : ∀ w ∈ ec_gd, w.before args s = true) (hd : decode cc pc = .ok (j, k)) (hok : ec_okJ μ pc nx a b c' v j k 34 = true) (ha : a = 1)
    (hf : 1 ≤ R.frames) (hl : (sr.map fun v => v.category).sum + 13 ≤ R.locals) (hc : cells ≤ R.cells) (hs : slots ≤ R.slots) {x y : Int32}
    (kk : W p l e R s m args below meth c H locs cells slots Q (F0 m nx lr (.int (if x < y then y else x) :: sr))) : W p l e R s m args below meth c H locs cells slots Q (F0 m pc lr (.int y :: .int x :: sr)) := by
  obtain ⟨rfl, rfl, hw, hj⟩ := ec_r34 hok
  subst ha
  rcases hj with ⟨h9, -⟩ | ⟨-, rfl⟩
  · omega
  · exact va_mmax hx hb hml hown (hts _ hw) (hts _ (ec_bw_at 2 rfl)) (hts _ (ec_bw_at 3 rfl)) (hts _ (ec_bw_at 4 rfl)) hf hl hc hs hd kk
theorem ec_r34_2 (hx : p.tables.exec = Jvm.exec) (hb : c.code = cc) (hml : c.maxLocals = lr.size) (hown : s.vm.findClass (ec_own (ec_mr μ).1) = some m.cls) (hts : ∀ w ∈ ec_gd, w.before args s = true) (hd : decode cc pc = .ok (j, k)) (hok : ec_okJ μ pc nx a b c' v j k 34 = true) (ha : a = 2)
    (hf : 1 ≤ R.frames) (hl : (sr.map fun v => v.category).sum + 13 ≤ R.locals) (hc : cells ≤ R.cells) (hs : slots ≤ R.slots) {x y : Int32}
    (kk : W p l e R s m args below meth c H locs cells slots Q (F0 m nx lr (.int (if y < x then y else x) :: sr))) : W p l e R s m args below meth c H locs cells slots Q (F0 m pc lr (.int y :: .int x :: sr)) := by
  obtain ⟨rfl, rfl, hw, hj⟩ := ec_r34 hok
  subst ha
  rcases hj with ⟨h9, -⟩ | ⟨-, rfl⟩
  · omega
  · exact va_mmin hx hb hml hown (hts _ hw) (hts _ (ec_bw_at 5 rfl)) (hts _ (ec_bw_at 3 rfl)) (hts _ (ec_bw_at 6 rfl)) hf hl hc hs hd kk
theorem ec_nfw : nativeFrameWords "java/lang/System" "arraycopy" 5 ≤ 21 := by decide +kernel
theorem ec_r34_3 (hx : p.tables.exec = Jvm.exec) (hb : c.code = cc) (hml : c.maxLocals = lr.size) (hown : s.vm.findClass (ec_own (ec_mr μ).1) = some m.cls) (hts : ∀ w ∈ ec_gd, w.before args s = true) (hK : va_K D ec_cl (ec_tys ty) s)
    (hP : va_P D ec_cl (ec_ws ty r h) H) (hD : va_D A (ec_ws ty r h)) (hS : va_S A s.heap H locs) (hd : decode cc pc = .ok (j, k)) (hok : ec_okJ μ pc nx a b c' v j k 34 = true) (ha : a = 3)
    (hf : 1 ≤ R.frames) (hl : (sr.map fun v => v.category).sum + 32 ≤ R.locals) {x y : Nat} (hkx : ec_isK h x 16 = true) (hky : ec_isK h y 16 = true) {sp dp n : Int32} (h1 : 0 ≤ sp) (h2 : 0 ≤ dp) (h3 : 0 ≤ n) (h4 : sp.toNatClampNeg + n.toNatClampNeg ≤ (ec_shp h x).2.1) (h5 : dp.toNatClampNeg + n.toNatClampNeg ≤ (ec_shp h y).2.1)
    (kk : ∀ (H1 : Heap) (locs1 : List Loc), va_P D ec_cl (ec_ws ty r (ec_setA h y (va_cpy (h.2.1 x) (h.2.1 y) sp.toNatClampNeg dp.toNatClampNeg n.toNatClampNeg))) H1 → va_D A (ec_ws ty r (ec_setA h y (va_cpy (h.2.1 x) (h.2.1 y) sp.toNatClampNeg dp.toNatClampNeg n.toNatClampNeg))) → va_S A s.heap H1 locs1 →
      W p l e R s m args below meth c H1 locs1 cells slots Q (F0 m nx lr sr)) : W p l e R s m args below meth c H locs cells slots Q (F0 m pc lr (.int n :: .int dp :: .ref (r y) :: .int sp :: .ref (r x) :: sr)) := by
  obtain ⟨rfl, rfl, hw, hj⟩ := ec_r34 hok
  subst ha
  obtain ⟨hx1, hx2⟩ := ec_isK_spec hkx (by decide)
  obtain ⟨hy1, hy2⟩ := ec_isK_spec hky (by decide)
  rw [ec_ar_setA (h := h) (p := y) (t := 0) (g := va_cpy (h.2.1 x) (h.2.1 y) sp.toNatClampNeg dp.toNatClampNeg n.toNatClampNeg) hy2 (by decide) (ec_setA h y (va_cpy (h.2.1 x) (h.2.1 y) sp.toNatClampNeg dp.toNatClampNeg n.toNatClampNeg)) rfl rfl rfl] at kk
  rcases hj with ⟨h9, -⟩ | ⟨-, rfl⟩
  · omega
  · have hnf := ec_nfw
    exact va_copyi hx hb hml hown (hts _ hw) (hts _ (ec_bw_at 7 rfl)) (hts _ (ec_bw_at 8 rfl)) (hts _ (ec_bw_at 9 rfl)) hK hP hD hS x y 0 0 (by rw [ec_ws_at hx1, ec_ce_ar (t := 0) hx2 (by decide)]) (by rw [ec_ws_at hy1, ec_ce_ar (t := 0) hy2 (by decide)]) rfl rfl rfl (Int32.not_lt.mpr h1) (Int32.not_lt.mpr h2) (Int32.not_lt.mpr h3) h4 h5 (fun _ _ => rfl) hf (by omega) hd kk
end ECU
