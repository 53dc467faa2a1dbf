/-! One step of the machine for each kind of row: fields, arrays, numbers, branches. -/
section ECT
variable {p : Program} {l : Launch} {e : Env} {R : Room} {s : State} {m : MethodId} {args : Array Value} {below : List Frame} {meth : Method} {c : Code} {H : Heap} {locs : List Loc} {cells slots : Nat} {Q : State → Prop}
variable {pc nx a b c' k μ : Nat} {v : Int32} {j : Instr} {lr : Array Slot} {sr : List Value} {cc : ByteArray}
variable {D : va_G} {ty r : Nat → Nat} {A : Nat → Prop} {h : ec_Hp} {q : Nat}
theorem ec_okF_spec {i : Nat} (hF : ec_okF μ a b c' i = true) : a < 7 ∧ b < ec_N a ∧ (ec_T a b).1 = ec_own a ∧ ((c' = 2 * i ∧ ec_flw ((ec_mr μ).1, i, a, b) ∈ ec_gd) ∨ (c' = 2 * i + 1 ∧ ec_fnw ((ec_mr μ).1, i, a, b) ∈ ec_nw)) := by
  obtain ⟨h1, h2⟩ := ec_bt_and hF
  obtain ⟨h2, h3⟩ := ec_bt_and h2
  obtain ⟨h3, h4⟩ := ec_bt_and h3
  refine ⟨by simpa using h1, by simpa using h2, of_decide_eq_true h3, ?_⟩
  rcases (Bool.or_eq_true _ _).mp h4 with h5 | h5
  · obtain ⟨h6, h7⟩ := ec_bt_and h5
    exact Or.inl ⟨Nat.eq_of_beq_eq_true h6, ec_fl_ok _ (ec_has4_mem h7)⟩
  · obtain ⟨h6, h7⟩ := ec_bt_and h5
    exact Or.inr ⟨Nat.eq_of_beq_eq_true h6, ec_fn_ok _ (ec_has4_mem h7)⟩
theorem ec_rget (hx : p.tables.exec = Jvm.exec) (hb : c.code = cc) (hown : s.vm.findClass (ec_own (ec_mr μ).1) = some m.cls) (hts : ∀ w ∈ ec_gd, w.before args s = true) (hK : va_K D ec_cl (ec_tys ty) s) (hNw : ec_Nw s)
    (hs : ec_sv h) (hP : va_P D ec_cl (ec_ws ty r h) H) {i : Nat} (hd : decode cc pc = .ok (.getfield i, 3)) (hF : ec_okF μ a b c' i = true) (hk : ec_isK h q a = true) {w : Value} (hv : ec_f1 r h q b (ec_fk a b) = w)
    (kk : W p l e R s m args below meth c H locs cells slots Q (F0 m (pc + 3) lr (w :: sr))) : W p l e R s m args below meth c H locs cells slots Q (F0 m pc lr (.ref (r q) :: sr)) := by
  obtain ⟨ha, hb', hT, hl⟩ := ec_okF_spec hF
  obtain ⟨hq, hkq⟩ := ec_isK_spec hk (by omega)
  have he : (ec_ws ty r h)[q]? = some (r q, .inr (a, ec_ob r h q)) := by rw [ec_ws_at hq, ec_ce_ob hkq ha]
  have hfs : (ec_ob r h q)[b]? = some w := by rw [ec_ob_at hkq (by rw [hs.2 q (by rw [hkq]; exact ha), hkq]) hb', hv]
  rcases hl with ⟨-, hl⟩ | ⟨-, hl⟩
  · exact va_get hx hb hts (ec_lay_in ha) hown hK hP q he (ec_cl_at ha) b hb' (hts _ hl) (fun x h9 => by rw [hT] at h9; exact h9) hfs hd kk
  · exact va_getN hx hb hts (ec_lay_in ha) hown hK hP q he (ec_cl_at ha) b hb' (va_Nw.use rfl (hNw _ hl)) (fun x h9 => by rw [hT] at h9; exact h9) hfs hd kk
theorem ec_rput (hx : p.tables.exec = Jvm.exec) (hb : c.code = cc) (hown : s.vm.findClass (ec_own (ec_mr μ).1) = some m.cls) (hts : ∀ w ∈ ec_gd, w.before args s = true) (hK : va_K D ec_cl (ec_tys ty) s) (hNw : ec_Nw s) (hin : meth.name = (ec_yn μ).name)
    (hs : ec_sv h) (hP : va_P D ec_cl (ec_ws ty r h) H) (hD : va_D A (ec_ws ty r h)) (hS : va_S A s.heap H locs) (hd : decode cc pc = .ok (j, k)) (hok : ec_okJ μ pc nx a b c' v j k 10 = true) (hk : ec_isK h q a = true) {w : Value} (hn : ∀ t, ec_tq (ec_fk a b) t = true → narrow t w = w ∧ fits t w = true)
    (kk : a < 7 → ∀ (H1 : Heap) (locs1 : List Loc), va_P D ec_cl ((ec_ws ty r h).set q (r q, .inr (a, (ec_ob r h q).set b w))) H1 → va_D A ((ec_ws ty r h).set q (r q, .inr (a, (ec_ob r h q).set b w))) → va_S A s.heap H1 locs1 → W p l e R s m args below meth c H1 locs1 cells slots Q (F0 m nx lr sr)) : W p l e R s m args below meth c H locs cells slots Q (F0 m pc lr (w :: .ref (r q) :: sr)) := by
  obtain ⟨h1, h2⟩ := ec_bt_and hok
  obtain ⟨h2, h3⟩ := ec_bt_and h2
  cases Nat.eq_of_beq_eq_true h1
  cases Nat.eq_of_beq_eq_true h2
  split at h3
  next i =>
    obtain ⟨hF, h4⟩ := ec_bt_and h3
    obtain ⟨ha, hb', hT, hl⟩ := ec_okF_spec hF
    obtain ⟨hq, hkq⟩ := ec_isK_spec hk (by omega)
    have he : (ec_ws ty r h)[q]? = some (r q, .inr (a, ec_ob r h q)) := by rw [ec_ws_at hq, ec_ce_ob hkq ha]
    have hlen : b < (ec_ob r h q).length := by rw [ec_ob_len, hs.2 q (by rw [hkq]; exact ha), hkq]; exact hb'
    obtain ⟨n1, n2⟩ := hn _ (ec_tq_ok a ha b hb')
    have hnm := ec_nm_ok a ha
    have hty := ec_ty_ok a ha
    cases hf : (ec_T a b).2.2.2 with
    | false =>
      rcases hl with ⟨-, hl⟩ | ⟨-, hl⟩
      · exact va_put hx hb hts (ec_lay_in ha) (ec_tyf a) hty hnm hown hK hP hD hS q he (ec_cl_at ha) b hb' (hts _ hl) (fun x h9 => by rw [hT] at h9; exact h9) hf (hty b hb') n1 n2 hlen hd (kk ha)
      · exact va_putN hx hb hts (ec_lay_in ha) (ec_tyf a) hty hnm hown hK hP hD hS q he (ec_cl_at ha) b hb' (va_Nw.use rfl (hNw _ hl)) (fun x h9 => by rw [hT] at h9; exact h9) hf (hty b hb') n1 n2 hlen hd (kk ha)
    | true =>
      rw [hf] at h4
      obtain ⟨h5, h6⟩ := ec_bt_and (show (decide ((ec_yn μ).name = "<init>") && (Nat.beq a (ec_mr μ).1 && Nat.beq c' (2 * i))) = true from h4)
      obtain ⟨h6, h7⟩ := ec_bt_and h6
      have e6 := Nat.eq_of_beq_eq_true h6
      have e7 := Nat.eq_of_beq_eq_true h7
      rcases hl with ⟨-, hl⟩ | ⟨e8, -⟩
      · exact va_putF hx hb hts (ec_lay_in ha) (ec_tyf a) hty hnm hown hK hP hD hS q he (ec_cl_at ha) b hb' (hts _ hl) (fun x h9 => by rw [hT] at h9; exact h9) hf (hin.trans (of_decide_eq_true h5)) (by rw [hT, e6]) (hty b hb') n1 n2 hlen hd (kk ha)
      · omega
  next => cases h3
/-- inside a row -/
theorem ec_inB_in {i : Int32} {n : Nat} (hi : ec_inB i n = true) : vp_in i n := by
  obtain ⟨h1, h2⟩ := ec_bt_and hi
  have h1 : 0 ≤ i := of_decide_eq_true h1
  have h2 : i.toNatClampNeg < n := by simpa using h2
  intro hz
  rcases hz with hz | hz
  · exact absurd h1 (Int32.not_le.mpr hz)
  · omega
theorem ec_r11 (hx : p.tables.exec = Jvm.exec) (hb : c.code = cc) (hK : va_K D ec_cl (ec_tys ty) s) (hP : va_P D ec_cl (ec_ws ty r h) H) (hd : decode cc pc = .ok (j, k)) (hok : ec_okJ μ pc nx a b c' v j k 11 = true) (hk : ec_isK h q (16 + a) = true) {i : Int32} (hi : ec_inB i (ec_shp h q).2.1 = true)
    (kk : W p l e R s m args below meth c H locs cells slots Q (F0 m nx lr (.int (h.2.1 q i.toNatClampNeg) :: sr))) : W p l e R s m args below meth c H locs cells slots Q (F0 m pc lr (.int i :: .ref (r q) :: sr)) := by
  obtain ⟨h1, h2⟩ := ec_bt_and hok
  obtain ⟨h2, h3⟩ := ec_bt_and h2
  cases Nat.eq_of_beq_eq_true h1
  cases Nat.eq_of_beq_eq_true h2
  split at h3
  · cases Nat.eq_of_beq_eq_true h3
    obtain ⟨hq, hkq⟩ := ec_isK_spec hk (by decide)
    exact va_iald hx hb hK hP q 0 (by rw [ec_ws_at hq, ec_ce_ar (t := 0) hkq (by decide)]) rfl (ec_inB_in hi) hd kk
  · rcases (Bool.or_eq_true _ _).mp h3 with h4 | h4
    · cases Nat.eq_of_beq_eq_true h4
      obtain ⟨hq, hkq⟩ := ec_isK_spec hk (by decide)
      exact va_zald hx hb hK hP q 1 (by rw [ec_ws_at hq, ec_ce_ar (t := 1) hkq (by decide)]) rfl (ec_inB_in hi) hd kk
    · cases Nat.eq_of_beq_eq_true h4
      obtain ⟨hq, hkq⟩ := ec_isK_spec hk (by decide)
      exact va_bald hx hb hK hP q 2 (by rw [ec_ws_at hq, ec_ce_ar (t := 2) hkq (by decide)]) rfl (ec_inB_in hi) hd kk
  · cases h3
theorem ec_r11s (hx : p.tables.exec = Jvm.exec) (hb : c.code = cc) {b0 L : Nat} {xs : Nat → Int32} (hX : va_X b0 L xs s s.heap) (hbl : b0 < s.heap.size) (hbA : ¬ A b0) (hS : va_S A s.heap H locs) (hd : decode cc pc = .ok (j, k)) (hok : ec_okJ μ pc nx a b c' v j k 11 = true) (ha : a = 0) {i : Int32} (hi : ec_inB i L = true)
    (kk : W p l e R s m args below meth c H locs cells slots Q (F0 m nx lr (.int (xs i.toNatClampNeg) :: sr))) : W p l e R s m args below meth c H locs cells slots Q (F0 m pc lr (.int i :: .ref b0 :: sr)) := by
  subst ha
  obtain ⟨h1, h2⟩ := ec_bt_and hok
  obtain ⟨h2, h3⟩ := ec_bt_and h2
  cases Nat.eq_of_beq_eq_true h1
  cases Nat.eq_of_beq_eq_true h2
  split at h3
  · exact va_sld hx hb hX hbl hbA hS (ec_inB_in hi) hd kk
  · rcases (Bool.or_eq_true _ _).mp h3 with h4 | h4 <;> cases Nat.eq_of_beq_eq_true h4
  · cases h3
theorem ec_r12 (hx : p.tables.exec = Jvm.exec) (hb : c.code = cc) (hK : va_K D ec_cl (ec_tys ty) s) (hP : va_P D ec_cl (ec_ws ty r h) H) (hD : va_D A (ec_ws ty r h)) (hS : va_S A s.heap H locs) (hd : decode cc pc = .ok (j, k)) (hok : ec_okJ μ pc nx a b c' v j k 12 = true) (hk : ec_isK h q (16 + a) = true) {i x z : Int32} (hi : ec_inB i (ec_shp h q).2.1 = true)
    (hz : a = 0 ∧ z = x ∨ (a = 1 ∧ ec_01 x = true ∧ z = x) ∨ a = 2 ∧ z = x.toInt8.toInt32)
    (kk : ∀ (H1 : Heap) (locs1 : List Loc), va_P D ec_cl (ec_ws ty r (ec_setI h q i.toNatClampNeg z)) H1 → va_D A (ec_ws ty r (ec_setI h q i.toNatClampNeg z)) → va_S A s.heap H1 locs1 → W p l e R s m args below meth c H1 locs1 cells slots Q (F0 m nx lr sr)) : W p l e R s m args below meth c H locs cells slots Q (F0 m pc lr (.int x :: .int i :: .ref (r q) :: sr)) := by
  obtain ⟨h1, h2⟩ := ec_bt_and hok
  obtain ⟨h2, h3⟩ := ec_bt_and h2
  cases Nat.eq_of_beq_eq_true h1
  cases Nat.eq_of_beq_eq_true h2
  rcases hz with ⟨rfl, rfl⟩ | ⟨rfl, h01, rfl⟩ | ⟨rfl, rfl⟩
  · obtain ⟨hq, hkq⟩ := ec_isK_spec hk (by decide)
    rw [ec_ar_setI (t := 0) hkq (by decide)] at kk
    split at h3
    · exact va_iast hx hb hK hP hD hS q 0 (by rw [ec_ws_at hq, ec_ce_ar (t := 0) hkq (by decide)]) rfl (ec_inB_in hi) hd kk
    · rcases (Bool.or_eq_true _ _).mp h3 with h4 | h4 <;> cases Nat.eq_of_beq_eq_true h4
    · cases h3
  · obtain ⟨hq, hkq⟩ := ec_isK_spec hk (by decide)
    rw [ec_ar_setI (t := 1) hkq (by decide)] at kk
    have e : vp_nar .boolean z = z := by
      show z &&& 1 = z
      rcases (Bool.or_eq_true _ _).mp h01 with h5 | h5
      · rw [of_decide_eq_true h5]; decide
      · rw [of_decide_eq_true h5]; decide
    split at h3
    · cases Nat.eq_of_beq_eq_true h3
    · exact va_zast hx hb hK hP hD hS q 1 (by rw [ec_ws_at hq, ec_ce_ar (t := 1) hkq (by decide)]) rfl (ec_inB_in hi) hd (by rw [e]; exact kk)
    · cases h3
  · obtain ⟨hq, hkq⟩ := ec_isK_spec hk (by decide)
    rw [ec_ar_setI (t := 2) hkq (by decide)] at kk
    split at h3
    · cases Nat.eq_of_beq_eq_true h3
    · exact va_bast hx hb hK hP hD hS q 2 (by rw [ec_ws_at hq, ec_ce_ar (t := 2) hkq (by decide)]) rfl (ec_inB_in hi) hd kk
    · cases h3
theorem ec_oj {j' : Instr} {x : Nat} (h : (Nat.beq nx (pc + x) && (Nat.beq k x && decide (j = j'))) = true) : nx = pc + x ∧ k = x ∧ j = j' := by
  obtain ⟨h1, h2⟩ := ec_bt_and h
  obtain ⟨h2, h3⟩ := ec_bt_and h2
  exact ⟨Nat.eq_of_beq_eq_true h1, Nat.eq_of_beq_eq_true h2, of_decide_eq_true h3⟩
theorem ec_r13 (hx : p.tables.exec = Jvm.exec) (hb : c.code = cc) (hK : va_K D ec_cl (ec_tys ty) s) (hP : va_P D ec_cl (ec_ws ty r h) H) (hd : decode cc pc = .ok (j, k)) (hok : ec_okJ μ pc nx a b c' v j k 13 = true) (hk : ec_isK h q 19 = true) {i : Int32} (hi : ec_inB i (ec_shp h q).2.1 = true)
    (kk : W p l e R s m args below meth c H locs cells slots Q (F0 m nx lr (.long (h.2.2.1 q i.toNatClampNeg) :: sr))) : W p l e R s m args below meth c H locs cells slots Q (F0 m pc lr (.int i :: .ref (r q) :: sr)) := by
  cases hok
theorem ec_r14 (hx : p.tables.exec = Jvm.exec) (hb : c.code = cc) (hK : va_K D ec_cl (ec_tys ty) s) (hP : va_P D ec_cl (ec_ws ty r h) H) (hD : va_D A (ec_ws ty r h)) (hS : va_S A s.heap H locs) (hd : decode cc pc = .ok (j, k)) (hok : ec_okJ μ pc nx a b c' v j k 14 = true) (hk : ec_isK h q 19 = true) {i : Int32} {x : Int64} (hi : ec_inB i (ec_shp h q).2.1 = true)
    (kk : ∀ (H1 : Heap) (locs1 : List Loc), va_P D ec_cl (ec_ws ty r (ec_setL h q i.toNatClampNeg x)) H1 → va_D A (ec_ws ty r (ec_setL h q i.toNatClampNeg x)) → va_S A s.heap H1 locs1 → W p l e R s m args below meth c H1 locs1 cells slots Q (F0 m nx lr sr)) : W p l e R s m args below meth c H locs cells slots Q (F0 m pc lr (.long x :: .int i :: .ref (r q) :: sr)) := by
  cases hok
theorem ec_r15 (hx : p.tables.exec = Jvm.exec) (hb : c.code = cc) (hK : va_K D ec_cl (ec_tys ty) s) (hP : va_P D ec_cl (ec_ws ty r h) H) (hd : decode cc pc = .ok (j, k)) (hok : ec_okJ μ pc nx a b c' v j k 15 = true) (hk : ec_isK h q 20 = true) {i : Int32} (hi : ec_inB i (ec_shp h q).2.1 = true)
    (kk : W p l e R s m args below meth c H locs cells slots Q (F0 m nx lr (va_rf (ec_ro r ((ec_shp h q).2.2 i.toNatClampNeg)) :: sr))) : W p l e R s m args below meth c H locs cells slots Q (F0 m pc lr (.int i :: .ref (r q) :: sr)) := by
  obtain ⟨rfl, rfl, rfl⟩ := ec_oj hok
  obtain ⟨hq, hkq⟩ := ec_isK_spec hk (by decide)
  exact va_aldq hx hb hK hP q 4 (C := "EchoDungeon$Dungeon") (by rw [ec_ws_at hq, ec_ce_re hkq]) rfl (ec_inB_in hi) hd kk
theorem ec_r16 (hx : p.tables.exec = Jvm.exec) (hb : c.code = cc) (hK : va_K D ec_cl (ec_tys ty) s) (hP : va_P D ec_cl (ec_ws ty r h) H) (hD : va_D A (ec_ws ty r h)) (hS : va_S A s.heap H locs) (hd : decode cc pc = .ok (j, k)) (hok : ec_okJ μ pc nx a b c' v j k 16 = true) (hk : ec_isK h q 20 = true) {x : Nat} (hkx : ec_isK h x 1 = true) {i : Int32} (hi : ec_inB i (ec_shp h q).2.1 = true)
    (kk : ∀ (H1 : Heap) (locs1 : List Loc), va_P D ec_cl (ec_ws ty r (ec_setR h q i.toNatClampNeg (.ref x))) H1 → va_D A (ec_ws ty r (ec_setR h q i.toNatClampNeg (.ref x))) → va_S A s.heap H1 locs1 → W p l e R s m args below meth c H1 locs1 cells slots Q (F0 m nx lr sr)) : W p l e R s m args below meth c H locs cells slots Q (F0 m pc lr (.ref (r x) :: .int i :: .ref (r q) :: sr)) := by
  obtain ⟨rfl, rfl, rfl⟩ := ec_oj hok
  obtain ⟨hq, hkq⟩ := ec_isK_spec hk (by decide)
  obtain ⟨hq', hkq'⟩ := ec_isK_spec hkx (by decide)
  rw [ec_ar_setR hq hkq] at kk
  exact va_astq (r := (ec_own 1, ec_T 1, ec_N 1)) hx hb hK hP hD hS q 4 x 1 (by rw [ec_ws_at hq, ec_ce_re hkq]) rfl (by rw [ec_ws_at hq', ec_ce_ob hkq' (by decide)]) (ec_cl_at (by decide)) (ec_inB_in hi) hd kk
theorem ec_r17 (hx : p.tables.exec = Jvm.exec) (hb : c.code = cc) (hK : va_K D ec_cl (ec_tys ty) s) (hP : va_P D ec_cl (ec_ws ty r h) H) (hd : decode cc pc = .ok (j, k)) (hok : ec_okJ μ pc nx a b c' v j k 17 = true) (h16 : 16 ≤ (ec_shp h q).1) (h20 : (ec_shp h q).1 ≤ 20)
    (kk : W p l e R s m args below meth c H locs cells slots Q (F0 m nx lr (.int (Int32.ofNat (ec_shp h q).2.1) :: sr))) : W p l e R s m args below meth c H locs cells slots Q (F0 m pc lr (.ref (r q) :: sr)) := by
  obtain ⟨rfl, rfl, rfl⟩ := ec_oj hok
  have key : ∀ n, (ec_shp h q).1 = n → n ≠ 1000 → q < h.1.length := fun n hn h0 => (ec_isK_spec (h := h) (p := q) (kd := n) (by show Nat.beq _ _ = true; rw [hn]; exact Nat.beq_refl n) h0).1
  have hn : (ec_shp h q).1 = 16 ∨ (ec_shp h q).1 = 17 ∨ (ec_shp h q).1 = 18 ∨ (ec_shp h q).1 = 19 ∨ (ec_shp h q).1 = 20 := by omega
  rcases hn with hn | hn | hn | hn | hn
  · exact va_alen hx hb hK hP q 0 (by rw [ec_ws_at (key _ hn (by decide)), ec_ce_ar (t := 0) hn (by decide)]) (ty := .int) rfl rfl hd kk
  · exact va_alen hx hb hK hP q 1 (by rw [ec_ws_at (key _ hn (by decide)), ec_ce_ar (t := 1) hn (by decide)]) (ty := .boolean) rfl rfl hd kk
  · exact va_alen hx hb hK hP q 2 (by rw [ec_ws_at (key _ hn (by decide)), ec_ce_ar (t := 2) hn (by decide)]) (ty := .byte) rfl rfl hd kk
  · exact va_alen hx hb hK hP q 3 (by rw [ec_ws_at (key _ hn (by decide)), ec_ce_lo hn]) (ty := .int) rfl rfl hd kk
  · exact va_alen hx hb hK hP q 4 (by rw [ec_ws_at (key _ hn (by decide)), ec_ce_re hn]) (ty := .object "EchoDungeon$Dungeon") rfl rfl hd kk
theorem ec_r17s (hx : p.tables.exec = Jvm.exec) (hb : c.code = cc) {b0 L : Nat} {xs : Nat → Int32} (hX : va_X b0 L xs s s.heap) (hbl : b0 < s.heap.size) (hbA : ¬ A b0) (hS : va_S A s.heap H locs) (hd : decode cc pc = .ok (j, k)) (hok : ec_okJ μ pc nx a b c' v j k 17 = true)
    (kk : W p l e R s m args below meth c H locs cells slots Q (F0 m nx lr (.int (Int32.ofNat L) :: sr))) : W p l e R s m args below meth c H locs cells slots Q (F0 m pc lr (.ref b0 :: sr)) := by
  obtain ⟨rfl, rfl, rfl⟩ := ec_oj hok
  exact va_slen hx hb hX hbl hbA hS hd kk
theorem ec_r18 (hx : p.tables.exec = Jvm.exec) (hb : c.code = cc) (hd : decode cc pc = .ok (j, k)) (hok : ec_okJ μ pc nx a b c' v j k 18 = true)
    (kk : W p l e R s m args below meth c H locs cells slots Q (F0 m a lr sr)) : W p l e R s m args below meth c H locs cells slots Q (F0 m pc lr sr) := by
  obtain ⟨h1, h2⟩ := ec_bt_and hok
  cases Nat.eq_of_beq_eq_true h1
  split at h2
  · exact lv_goto hx hb hd (of_decide_eq_true h2) kk
  · cases h2
theorem ec_cc_inj {x y : ClassFile.Cond} (h : ec_cc x = ec_cc y) : x = y := by cases x <;> cases y <;> first | rfl | cases h
theorem ec_r19 (hx : p.tables.exec = Jvm.exec) (hb : c.code = cc) (hd : decode cc pc = .ok (j, k)) (hok : ec_okJ μ pc nx a b c' v j k 19 = true) {x y : Int32}
    (kt : ec_cmp a x y = true → W p l e R s m args below meth c H locs cells slots Q (F0 m b lr sr)) (kf : ec_cmp a x y = false → W p l e R s m args below meth c H locs cells slots Q (F0 m nx lr sr)) : W p l e R s m args below meth c H locs cells slots Q (F0 m pc lr (.int y :: .int x :: sr)) := by
  obtain ⟨h1, h2⟩ := ec_bt_and hok
  obtain ⟨h2, h3⟩ := ec_bt_and h2
  cases Nat.eq_of_beq_eq_true h1
  cases Nat.eq_of_beq_eq_true h2
  split at h3
  next q off =>
    obtain ⟨h4, h5⟩ := ec_bt_and h3
    have h5 := of_decide_eq_true h5
    have h4 := Nat.eq_of_beq_eq_true h4
    subst h4
    cases q with
    | eq => exact lv_icmp_eq hx hb hd h5 (fun z => kt (decide_eq_true z)) (fun z => kf (decide_eq_false z))
    | ne => exact lv_icmp_ne hx hb hd h5 (fun z => kt (by show (!decide _) = true; rw [decide_eq_false z]; rfl)) (fun z => kf (by show (!decide _) = false; rw [decide_eq_true z]; rfl))
    | lt => exact lv_icmp_lt hx hb hd h5 (fun z => kt (decide_eq_true z)) (fun z => kf (decide_eq_false z))
    | ge => exact lv_icmp_ge hx hb hd h5 (fun z => kt (decide_eq_true z)) (fun z => kf (decide_eq_false z))
    | gt => exact lv_icmp_gt hx hb hd h5 (fun z => kt (decide_eq_true z)) (fun z => kf (decide_eq_false z))
    | le => exact lv_icmp_le hx hb hd h5 (fun z => kt (decide_eq_true z)) (fun z => kf (decide_eq_false z))
  next => cases h3
theorem ec_r20 (hx : p.tables.exec = Jvm.exec) (hb : c.code = cc) (hd : decode cc pc = .ok (j, k)) (hok : ec_okJ μ pc nx a b c' v j k 20 = true) {x : Int32}
    (kt : ec_cmp0 a x = true → W p l e R s m args below meth c H locs cells slots Q (F0 m b lr sr)) (kf : ec_cmp0 a x = false → W p l e R s m args below meth c H locs cells slots Q (F0 m nx lr sr)) : W p l e R s m args below meth c H locs cells slots Q (F0 m pc lr (.int x :: sr)) := by
  obtain ⟨h1, h2⟩ := ec_bt_and hok
  obtain ⟨h2, h3⟩ := ec_bt_and h2
  cases Nat.eq_of_beq_eq_true h1
  cases Nat.eq_of_beq_eq_true h2
  split at h3
  next q off =>
    obtain ⟨h4, h5⟩ := ec_bt_and h3
    have h5 := of_decide_eq_true h5
    have h4 := Nat.eq_of_beq_eq_true h4
    subst h4
    cases q with
    | eq => exact lv_if_eq hx hb hd h5 (fun z => kt (decide_eq_true z)) (fun z => kf (decide_eq_false z))
    | ne => exact lv_if_ne hx hb hd h5 (fun z => kt (by show (!decide _) = true; rw [decide_eq_false z]; rfl)) (fun z => kf (by show (!decide _) = false; rw [decide_eq_true z]; rfl))
    | lt => exact lv_if_lt hx hb hd h5 (fun z => kt (decide_eq_true z)) (fun z => kf (decide_eq_false z))
    | ge => exact lv_if_ge hx hb hd h5 (fun z => kt (decide_eq_true z)) (fun z => kf (decide_eq_false z))
    | gt => exact lv_if_gt hx hb hd h5 (fun z => kt (decide_eq_true z)) (fun z => kf (decide_eq_false z))
    | le => exact lv_if_le hx hb hd h5 (fun z => kt (decide_eq_true z)) (fun z => kf (decide_eq_false z))
  next => cases h3
theorem ec_r21 (hx : p.tables.exec = Jvm.exec) (hb : c.code = cc) (hd : decode cc pc = .ok (j, k)) (hok : ec_okJ μ pc nx a b c' v j k 21 = true) {z : Nat}
    (kk : W p l e R s m args below meth c H locs cells slots Q (F0 m nx lr sr)) : W p l e R s m args below meth c H locs cells slots Q (F0 m pc lr (.ref z :: sr)) := by
  obtain ⟨h1, h2⟩ := ec_bt_and hok
  obtain ⟨h2, h3⟩ := ec_bt_and h2
  cases Nat.eq_of_beq_eq_true h1
  cases Nat.eq_of_beq_eq_true h2
  split at h3
  · exact lv_ifnull hx hb hd kk
  · cases h3
theorem ec_r21n (hx : p.tables.exec = Jvm.exec) (hb : c.code = cc) (hd : decode cc pc = .ok (j, k)) (hok : ec_okJ μ pc nx a b c' v j k 21 = true)
    (kk : W p l e R s m args below meth c H locs cells slots Q (F0 m a lr sr)) : W p l e R s m args below meth c H locs cells slots Q (F0 m pc lr (.null :: sr)) := by
  obtain ⟨h1, h2⟩ := ec_bt_and hok
  obtain ⟨h2, h3⟩ := ec_bt_and h2
  cases Nat.eq_of_beq_eq_true h1
  cases Nat.eq_of_beq_eq_true h2
  split at h3
  · exact lv_ifnullN hx hb hd (of_decide_eq_true h3) kk
  · cases h3
theorem ec_r40 (hx : p.tables.exec = Jvm.exec) (hb : c.code = cc) (hown : s.vm.findClass (ec_own (ec_mr μ).1) = some m.cls) (hts : ∀ w ∈ ec_gd, w.before args s = true) (hd : decode cc pc = .ok (j, k)) (hok : ec_okJ μ pc nx a b c' v j k 40 = true)
    (kk : W p l e R s m args below meth c H locs cells slots Q (F0 m nx lr (.long v.toInt64 :: sr))) : W p l e R s m args below meth c H locs cells slots Q (F0 m pc lr sr) := by
  obtain ⟨h1, h2⟩ := ec_bt_and hok
  obtain ⟨h2, h3⟩ := ec_bt_and h2
  obtain ⟨h5, h6⟩ := ec_bt_and h3
  have h7 := ec_kk_ok _ (ec_hasK_mem h5)
  cases Nat.eq_of_beq_eq_true h1
  cases Nat.eq_of_beq_eq_true h2
  cases of_decide_eq_true h6
  exact lv_ldc2 hx hb hown (hts _ h7) hd kk
theorem ec_swl_P {x : Int32} {f : Nat → Option (ec_Out × ec_Hp)} {o : ec_Out × ec_Hp} {pc : Nat} {dflt : Int} : ∀ {ps : List (Int × Int)} {l : List (Int32 × Nat)} {dn : Nat}, ec_swP pc ps l = true → (pc : Int) + dflt = (dn : Int) → ec_sel (ec_swl x l dn) f = some o → ∃ t : Nat, (pc : Int) + Op.lookupswitch.offset ps dflt x.toInt = (t : Int) ∧ f t = some o
  | [], [], dn, _, hd, hs => ⟨dn, hd, hs⟩
  | [], _ :: _, _, h, _, _ => by cases h
  | _ :: _, [], _, h, _, _ => by cases h
  | (k, off) :: ps, (y, t) :: l, dn, h, hd, hs => by
    obtain ⟨g1, g2⟩ := ec_bt_and h
    obtain ⟨g3, h3⟩ := ec_bt_and g2
    have h1 : y.toInt = k := of_decide_eq_true g1
    have h2 : (pc : Int) + off = (t : Int) := of_decide_eq_true g3
    rw [Op.lookupswitch.offset_cons]
    by_cases hxy : x = y
    · subst hxy
      rw [if_pos h1.symm]
      refine ⟨t, h2, ?_⟩
      have hs : cond (decide (x = x)) (f t) (ec_sel (ec_swl x l dn) f) = some o := hs
      rw [decide_eq_true rfl] at hs
      exact hs
    · have hne : ¬ k = x.toInt := fun z => hxy (Int32.toInt_inj.mp (z.symm.trans h1.symm))
      have hs : cond (decide (x = y)) (f t) (ec_sel (ec_swl x l dn) f) = some o := hs
      rw [decide_eq_false hxy] at hs
      rw [if_neg hne]
      exact ec_swl_P h3 hd hs
theorem ec_swl_T {x : Int32} {f : Nat → Option (ec_Out × ec_Hp)} {o : ec_Out × ec_Hp} {pc : Nat} {dflt : Int} : ∀ {os : List Int} {k : Int} {l : List (Int32 × Nat)} {dn : Nat}, ec_swT pc k os l = true → (pc : Int) + dflt = (dn : Int) → ec_sel (ec_swl x l dn) f = some o →
    ((x.toInt < k ∨ k + os.length - 1 < x.toInt) ∧ f dn = some o) ∨ (k ≤ x.toInt ∧ x.toInt ≤ k + os.length - 1 ∧ ∃ (off : Int) (t : Nat), os[(x.toInt - k).toNat]? = some off ∧ (pc : Int) + off = (t : Int) ∧ f t = some o)
  | [], k, [], dn, _, hd, hs => Or.inl ⟨by simp; omega, hs⟩
  | [], _, _ :: _, _, h, _, _ => by cases h
  | _ :: _, _, [], _, h, _, _ => by cases h
  | off :: os, k, (y, t) :: l, dn, h, hd, hs => by
    obtain ⟨g1, g2⟩ := ec_bt_and h
    obtain ⟨g3, h3⟩ := ec_bt_and g2
    have h1 : y.toInt = k := of_decide_eq_true g1
    have h2 : (pc : Int) + off = (t : Int) := of_decide_eq_true g3
    by_cases hxy : x = y
    · subst hxy
      have hs : cond (decide (x = x)) (f t) (ec_sel (ec_swl x l dn) f) = some o := hs
      rw [decide_eq_true rfl] at hs
      refine Or.inr ⟨by omega, by simp; omega, off, t, ?_, h2, hs⟩
      rw [h1, Int.sub_self]
      rfl
    · have hne : ¬ k = x.toInt := fun z => hxy (Int32.toInt_inj.mp (z.symm.trans h1.symm))
      have hs : cond (decide (x = y)) (f t) (ec_sel (ec_swl x l dn) f) = some o := hs
      rw [decide_eq_false hxy] at hs
      rcases ec_swl_T h3 hd hs with ⟨h4, h5⟩ | ⟨h4, h5, off', t', h6, h7, h8⟩
      · refine Or.inl ⟨?_, h5⟩
        rw [List.length_cons]
        omega
      · refine Or.inr ⟨by omega, by rw [List.length_cons]; omega, off', t', ?_, h7, h8⟩
        rw [show (x.toInt - k).toNat = (x.toInt - (k + 1)).toNat + 1 by omega, List.getElem?_cons_succ]
        exact h6
theorem ec_r39 (hx : p.tables.exec = Jvm.exec) (hb : c.code = cc) (hd : decode cc pc = .ok (j, k)) (hok : ec_okJ μ pc nx a b c' v j k 39 = true) {x : Int32} {f : Nat → Option (ec_Out × ec_Hp)} {o : ec_Out × ec_Hp} (hs : ec_sel (ec_swl x (ec_nth ([], 0) ec_sw a).1 (ec_nth ([], 0) ec_sw a).2) f = some o)
    (kk : ∀ t, f t = some o → W p l e R s m args below meth c H locs cells slots Q (F0 m t lr sr)) : W p l e R s m args below meth c H locs cells slots Q (F0 m pc lr (.int x :: sr)) := by
  simp only [ec_okJ] at hok
  split at hok
  next dflt lo hi offs =>
    obtain ⟨h1, h2⟩ := ec_bt_and hok
    obtain ⟨h2, h3⟩ := ec_bt_and h2
    have h2 := of_decide_eq_true h2
    have h3 := of_decide_eq_true h3
    rcases ec_swl_T h1 h3 hs with ⟨h4, h5⟩ | ⟨h4, h5, off, t, h6, h7, h8⟩
    · exact lv_tableOut hx hb hd (by rw [h2]; exact h4) h3 (kk _ h5)
    · exact lv_tableIn hx hb hd (by omega) (by rw [h2]; omega) (by rw [← Array.getElem?_toList]; exact h6) h7 (kk _ h8)
  next dflt ps =>
    obtain ⟨h1, h2⟩ := ec_bt_and hok
    obtain ⟨h2, h3⟩ := ec_bt_and h2
    have h3 := of_decide_eq_true h3
    obtain ⟨t, h4, h5⟩ := ec_swl_P h1 h3 hs
    exact lv_lookup hx hb hd h2 rfl h4 (kk _ h5)
  next => cases hok
end ECT
