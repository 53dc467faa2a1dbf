/-! One step of the machine for each kind of row. -/
section ECS
variable {p : Program} {l : Launch} {e : Env} {R : Room} {s : State} {m : MethodId} {args : Array Value} {below : List Frame} {meth : Method} {c : Code} {H : Heap} {locs : List Loc} {cells slots : Nat} {Q : State → Prop}
variable {pc nx a b c' k μ : Nat} {v : Int32} {j : Instr} {lr : Array Slot} {sr : List Value} {cc : ByteArray}
theorem ec_bt_and {x y : Bool} (h : (x && y) = true) : x = true ∧ y = true := by simpa using h
theorem ec_r0 (hx : p.tables.exec = Jvm.exec) (hb : c.code = cc) (hown : s.vm.findClass (ec_own (ec_mr μ).1) = some m.cls) (hts : ∀ w ∈ ec_gd, w.before args s = true) (hd : decode cc pc = .ok (j, k)) (hok : ec_okJ μ pc nx a b c' v j k 0 = true)
    (kk : W p l e R s m args below meth c H locs cells slots Q (F0 m nx lr (.int v :: sr))) : W p l e R s m args below meth c H locs cells slots Q (F0 m pc lr sr) := by
  obtain ⟨h1, h2⟩ := ec_bt_and hok
  cases Nat.eq_of_beq_eq_true h1
  split at h2
  · obtain ⟨h3, h4⟩ := ec_bt_and h2
    cases Nat.eq_of_beq_eq_true h3
    exact lv_iconst hx hb hd (of_decide_eq_true h4) kk
  · obtain ⟨h3, h4⟩ := ec_bt_and h2
    cases Nat.eq_of_beq_eq_true h3
    exact lv_bipush hx hb hd (of_decide_eq_true h4) kk
  · obtain ⟨h3, h4⟩ := ec_bt_and h2
    cases Nat.eq_of_beq_eq_true h3
    exact lv_sipush hx hb hd (of_decide_eq_true h4) kk
  · obtain ⟨h3, h4⟩ := ec_bt_and h2
    cases Nat.eq_of_beq_eq_true h3
    exact lv_ldc hx hb hown (hts _ (ec_kl_ok _ (ec_hasK_mem h4))) hd kk
  · obtain ⟨h3, h4⟩ := ec_bt_and h2
    cases Nat.eq_of_beq_eq_true h3
    exact lv_ldcw hx hb hown (hts _ (ec_kl_ok _ (ec_hasK_mem h4))) hd kk
  · cases h2
theorem ec_r1 (hx : p.tables.exec = Jvm.exec) (hb : c.code = cc) (hd : decode cc pc = .ok (j, k)) (hok : ec_okJ μ pc nx a b c' v j k 1 = true) {x : Int32} (hl : lr[a]? = some (.val (.int x)))
    (kk : W p l e R s m args below meth c H locs cells slots Q (F0 m nx lr (.int x :: sr))) : W p l e R s m args below meth c H locs cells slots Q (F0 m pc lr sr) := by
  obtain ⟨h1, h2⟩ := ec_bt_and hok
  cases Nat.eq_of_beq_eq_true h1
  split at h2
  · obtain ⟨h3, h4⟩ := ec_bt_and h2
    cases Nat.eq_of_beq_eq_true h3
    exact lv_iload_n hx hb hd (Nat.eq_of_beq_eq_true h4) hl kk
  · obtain ⟨h3, h4⟩ := ec_bt_and h2
    cases Nat.eq_of_beq_eq_true h3
    cases Nat.eq_of_beq_eq_true h4
    exact lv_iload hx hb hd hl kk
  · cases h2
theorem ec_r2 (hx : p.tables.exec = Jvm.exec) (hb : c.code = cc) (hd : decode cc pc = .ok (j, k)) (hok : ec_okJ μ pc nx a b c' v j k 2 = true) {w : Value} (hw : w = .null ∨ ∃ q, w = .ref q) (hl : lr[a]? = some (.val w))
    (kk : W p l e R s m args below meth c H locs cells slots Q (F0 m nx lr (w :: sr))) : W p l e R s m args below meth c H locs cells slots Q (F0 m pc lr sr) := by
  obtain ⟨h1, h2⟩ := ec_bt_and hok
  cases Nat.eq_of_beq_eq_true h1
  split at h2
  · obtain ⟨h3, h4⟩ := ec_bt_and h2
    cases Nat.eq_of_beq_eq_true h3
    rcases hw with rfl | ⟨q, rfl⟩
    · exact lv_aload_nN hx hb hd (Nat.eq_of_beq_eq_true h4) hl kk
    · exact lv_aload_n hx hb hd (Nat.eq_of_beq_eq_true h4) hl kk
  · obtain ⟨h3, h4⟩ := ec_bt_and h2
    cases Nat.eq_of_beq_eq_true h3
    cases Nat.eq_of_beq_eq_true h4
    rcases hw with rfl | ⟨q, rfl⟩
    · exact lv_aloadN hx hb hd hl kk
    · exact lv_aload hx hb hd hl kk
  · cases h2
theorem ec_r3 (hx : p.tables.exec = Jvm.exec) (hb : c.code = cc) (hd : decode cc pc = .ok (j, k)) (hok : ec_okJ μ pc nx a b c' v j k 3 = true) {x : Int32} (h1 : lr.size = (ec_mr μ).2.1) (h2 : lv_wf lr)
    (kk : a < (ec_mr μ).2.1 → ∀ lr' : Array Slot, lv_has lr' (ec_mr μ).2.1 ((a, .int x) :: (ec_all lr).filter (fun q => !(q.1 == a) && !(q.1 + 1 == a && q.2.category == 2))) → W p l e R s m args below meth c H locs cells slots Q (F0 m nx lr' sr)) : W p l e R s m args below meth c H locs cells slots Q (F0 m pc lr (.int x :: sr)) := by
  obtain ⟨h3, h4⟩ := ec_bt_and hok
  obtain ⟨h4, h5⟩ := ec_bt_and h4
  cases Nat.eq_of_beq_eq_true h3
  have ha : a < (ec_mr μ).2.1 := by simpa using h4
  split at h5
  · obtain ⟨h6, h7⟩ := ec_bt_and h5
    cases Nat.eq_of_beq_eq_true h6
    exact lv_istore_n hx hb hd (Nat.eq_of_beq_eq_true h7) (ec_all_has h1 h2) ha rfl (kk ha)
  · obtain ⟨h6, h7⟩ := ec_bt_and h5
    cases Nat.eq_of_beq_eq_true h6
    cases Nat.eq_of_beq_eq_true h7
    exact lv_istore hx hb hd (ec_all_has h1 h2) ha rfl (kk ha)
  · cases h5
theorem ec_r4 (hx : p.tables.exec = Jvm.exec) (hb : c.code = cc) (hd : decode cc pc = .ok (j, k)) (hok : ec_okJ μ pc nx a b c' v j k 4 = true) {w : Value} (hw : w = .null ∨ ∃ q, w = .ref q) (h1 : lr.size = (ec_mr μ).2.1) (h2 : lv_wf lr)
    (kk : a < (ec_mr μ).2.1 → ∀ lr' : Array Slot, lv_has lr' (ec_mr μ).2.1 ((a, w) :: (ec_all lr).filter (fun q => !(q.1 == a) && !(q.1 + 1 == a && q.2.category == 2))) → W p l e R s m args below meth c H locs cells slots Q (F0 m nx lr' sr)) : W p l e R s m args below meth c H locs cells slots Q (F0 m pc lr (w :: sr)) := by
  obtain ⟨h3, h4⟩ := ec_bt_and hok
  obtain ⟨h4, h5⟩ := ec_bt_and h4
  cases Nat.eq_of_beq_eq_true h3
  have ha : a < (ec_mr μ).2.1 := by simpa using h4
  split at h5
  · obtain ⟨h6, h7⟩ := ec_bt_and h5
    cases Nat.eq_of_beq_eq_true h6
    rcases hw with rfl | ⟨q, rfl⟩
    · exact lv_astore_nN hx hb hd (Nat.eq_of_beq_eq_true h7) (ec_all_has h1 h2) ha rfl (kk ha)
    · exact lv_astore_n hx hb hd (Nat.eq_of_beq_eq_true h7) (ec_all_has h1 h2) ha rfl (kk ha)
  · obtain ⟨h6, h7⟩ := ec_bt_and h5
    cases Nat.eq_of_beq_eq_true h6
    cases Nat.eq_of_beq_eq_true h7
    rcases hw with rfl | ⟨q, rfl⟩
    · exact lv_astoreN hx hb hd (ec_all_has h1 h2) ha rfl (kk ha)
    · exact lv_astore hx hb hd (ec_all_has h1 h2) ha rfl (kk ha)
  · cases h5
theorem ec_r5 (hx : p.tables.exec = Jvm.exec) (hb : c.code = cc) (hd : decode cc pc = .ok (j, k)) (hok : ec_okJ μ pc nx a b c' v j k 5 = true) {x : Int64} (hl : lr[a]? = some (.val (.long x)))
    (kk : W p l e R s m args below meth c H locs cells slots Q (F0 m nx lr (.long x :: sr))) : W p l e R s m args below meth c H locs cells slots Q (F0 m pc lr sr) := by
  obtain ⟨h1, h2⟩ := ec_bt_and hok
  cases Nat.eq_of_beq_eq_true h1
  split at h2
  · obtain ⟨h3, h4⟩ := ec_bt_and h2
    cases Nat.eq_of_beq_eq_true h3
    exact lv_lload_n hx hb hd (Nat.eq_of_beq_eq_true h4) hl kk
  · obtain ⟨h3, h4⟩ := ec_bt_and h2
    cases Nat.eq_of_beq_eq_true h3
    cases Nat.eq_of_beq_eq_true h4
    exact lv_lload hx hb hd hl kk
  · cases h2
theorem ec_r6 (hx : p.tables.exec = Jvm.exec) (hb : c.code = cc) (hd : decode cc pc = .ok (j, k)) (hok : ec_okJ μ pc nx a b c' v j k 6 = true) {x : Int64} (h1 : lr.size = (ec_mr μ).2.1) (h2 : lv_wf lr)
    (kk : a + 1 < (ec_mr μ).2.1 → ∀ lr' : Array Slot, lv_has lr' (ec_mr μ).2.1 ((a, .long x) :: (ec_all lr).filter (fun q => !(q.1 == a) && (!(q.1 == a + 1) && !(q.1 + 1 == a && q.2.category == 2)))) → W p l e R s m args below meth c H locs cells slots Q (F0 m nx lr' sr)) : W p l e R s m args below meth c H locs cells slots Q (F0 m pc lr (.long x :: sr)) := by
  obtain ⟨h3, h4⟩ := ec_bt_and hok
  obtain ⟨h4, h5⟩ := ec_bt_and h4
  cases Nat.eq_of_beq_eq_true h3
  have ha : a + 1 < (ec_mr μ).2.1 := by simpa using h4
  split at h5
  · obtain ⟨h6, h7⟩ := ec_bt_and h5
    cases Nat.eq_of_beq_eq_true h6
    exact lv_lstore_n hx hb hd (Nat.eq_of_beq_eq_true h7) (ec_all_has h1 h2) ha rfl (kk ha)
  · obtain ⟨h6, h7⟩ := ec_bt_and h5
    cases Nat.eq_of_beq_eq_true h6
    cases Nat.eq_of_beq_eq_true h7
    exact lv_lstore hx hb hd (ec_all_has h1 h2) ha rfl (kk ha)
  · cases h5
theorem ec_r7 (hx : p.tables.exec = Jvm.exec) (hb : c.code = cc) (hd : decode cc pc = .ok (j, k)) (hok : ec_okJ μ pc nx a b c' v j k 7 = true) {x : Int32} (hl : lr[a]? = some (.val (.int x))) (h1 : lr.size = (ec_mr μ).2.1) (h2 : lv_wf lr)
    (kk : a < (ec_mr μ).2.1 → ∀ lr' : Array Slot, lv_has lr' (ec_mr μ).2.1 ((a, .int (x + v)) :: (ec_all lr).filter (fun q => !(q.1 == a) && !(q.1 + 1 == a && q.2.category == 2))) → W p l e R s m args below meth c H locs cells slots Q (F0 m nx lr' sr)) : W p l e R s m args below meth c H locs cells slots Q (F0 m pc lr sr) := by
  obtain ⟨h3, h4⟩ := ec_bt_and hok
  obtain ⟨h4, h5⟩ := ec_bt_and h4
  obtain ⟨h5, h6⟩ := ec_bt_and h5
  cases Nat.eq_of_beq_eq_true h3
  cases Nat.eq_of_beq_eq_true h4
  have ha : a < (ec_mr μ).2.1 := by simpa using h5
  split at h6
  · obtain ⟨h7, h8⟩ := ec_bt_and h6
    cases Nat.eq_of_beq_eq_true h7
    obtain ⟨q, hq⟩ := List.getElem?_of_mem (ec_all_mem hl)
    exact lv_iinc hx hb hd (ec_all_has h1 h2) hq (by rw [of_decide_eq_true h8]) ha rfl (kk ha)
  · cases h6
theorem ec_r8 (hx : p.tables.exec = Jvm.exec) (hb : c.code = cc) (hd : decode cc pc = .ok (j, k)) (hok : ec_okJ μ pc nx a b c' v j k 8 = true) {x y z : Int32}
    (hz : a = 0 ∧ z = x + y ∨ a = 1 ∧ z = x - y ∨ a = 2 ∧ z = x * y ∨ a = 3 ∧ z = x &&& y ∨ a = 4 ∧ z = x ||| y ∨ a = 5 ∧ z = x <<< (y &&& 31) ∨ a = 6 ∧ z = (x.toUInt32 >>> (y.toUInt32 &&& Int32.toUInt32 31)).toInt32 ∨ (a = 7 ∧ ¬ y = 0 ∧ z = x / y) ∨ (a = 8 ∧ ¬ y = 0 ∧ z = x - x / y * y) ∨ (a = 9 ∧ z = x ^^^ y) ∨ (a = 10 ∧ z = x >>> (y &&& 31)))
    (kk : W p l e R s m args below meth c H locs cells slots Q (F0 m nx lr (.int z :: sr))) : W p l e R s m args below meth c H locs cells slots Q (F0 m pc lr (.int y :: .int x :: sr)) := by
  obtain ⟨h1, h2⟩ := ec_bt_and hok
  obtain ⟨h2, h3⟩ := ec_bt_and h2
  cases Nat.eq_of_beq_eq_true h1
  cases Nat.eq_of_beq_eq_true h2
  rcases hz with ⟨rfl, rfl⟩ | ⟨rfl, rfl⟩ | ⟨rfl, rfl⟩ | ⟨rfl, rfl⟩ | ⟨rfl, rfl⟩ | ⟨rfl, rfl⟩ | ⟨rfl, rfl⟩ | ⟨rfl, hy, rfl⟩ | ⟨rfl, hy, rfl⟩ | ⟨rfl, rfl⟩ | ⟨rfl, rfl⟩ <;> split at h3 <;> first | (cases h3; done) | (cases Nat.eq_of_beq_eq_true h3; done) | skip
  · exact lv_iadd hx hb hd kk
  · exact lv_isub hx hb hd kk
  · exact lv_imul hx hb hd kk
  · exact lv_iand hx hb hd kk
  · exact lv_ior hx hb hd kk
  · exact lv_ishl hx hb hd kk
  · exact lv_iushr hx hb hd rfl kk
  · exact lv_idiv hx hb hd hy kk
  · exact lv_irem hx hb hd hy kk
  · exact lv_ixor hx hb hd kk
  · exact lv_ishr hx hb hd kk
end ECS
