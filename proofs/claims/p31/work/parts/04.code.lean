/-! Every row of the program as data is what the bytes decode to; its links are among the words. Written by wip/p31/gen3.py. -/
def ec_has4 (l : List (Nat × Nat × Nat × Nat)) (a b c d : Nat) : Bool := l.any (fun q => Nat.beq q.1 a && (Nat.beq q.2.1 b && (Nat.beq q.2.2.1 c && Nat.beq q.2.2.2 d)))
def ec_has3 (l : List (Nat × Nat × Nat)) (a b c : Nat) : Bool := l.any (fun q => Nat.beq q.1 a && (Nat.beq q.2.1 b && Nat.beq q.2.2 c))
def ec_hasK (l : List (Nat × Nat × Int32)) (a b : Nat) (v : Int32) : Bool := l.any (fun q => Nat.beq q.1 a && (Nat.beq q.2.1 b && decide (q.2.2 = v)))
def ec_swT (pc : Nat) : Int → List Int → List (Int32 × Nat) → Bool
  | _, [], [] => true
  | k, o :: os, q :: l => decide (q.1.toInt = k) && (decide ((pc : Int) + o = (q.2 : Int)) && ec_swT pc (k + 1) os l)
  | _, _, _ => false
def ec_swP (pc : Nat) : List (Int × Int) → List (Int32 × Nat) → Bool
  | [], [] => true
  | p :: ps, q :: l => decide (q.1.toInt = p.1) && (decide ((pc : Int) + p.2 = (q.2 : Int)) && ec_swP pc ps l)
  | _, _ => false
def ec_cc : ClassFile.Cond → Nat
  | .eq => 0
  | .ne => 1
  | .lt => 2
  | .ge => 3
  | .gt => 4
  | .le => 5
def ec_okF (μ a b c i : Nat) : Bool := Nat.blt a 7 && (Nat.blt b (ec_N a) && (decide ((ec_T a b).1 = ec_own a) && ((Nat.beq c (2 * i) && ec_has4 ec_fl (ec_mr μ).1 i a b) || (Nat.beq c (2 * i + 1) && ec_has4 ec_fn (ec_mr μ).1 i a b))))
def ec_okJ (μ pc nx a b c : Nat) (v : Int32) (j : Instr) (n : Nat) : Nat → Bool
  | 0 => Nat.beq nx (pc + n) && (match j with
    | .iconst z => Nat.beq n 1 && decide (Int32.ofInt z = v)
    | .bipush z => Nat.beq n 2 && decide ((Int8.ofInt z).toInt32 = v)
    | .sipush z => Nat.beq n 3 && decide ((Int16.ofInt z).toInt32 = v)
    | .ldc i => Nat.beq n 2 && ec_hasK ec_kl (ec_mr μ).1 i v
    | .ldc_w i => Nat.beq n 3 && ec_hasK ec_kl (ec_mr μ).1 i v
    | _ => false)
  | 1 => Nat.beq nx (pc + n) && (match j with
    | .iload_n k => Nat.beq n 1 && Nat.beq k.val a
    | .iload k => Nat.beq n 2 && Nat.beq k a
    | _ => false)
  | 2 => Nat.beq nx (pc + n) && (match j with
    | .aload_n k => Nat.beq n 1 && Nat.beq k.val a
    | .aload k => Nat.beq n 2 && Nat.beq k a
    | _ => false)
  | 3 => Nat.beq nx (pc + n) && (Nat.blt a (ec_mr μ).2.1 && (match j with
    | .istore_n k => Nat.beq n 1 && Nat.beq k.val a
    | .istore k => Nat.beq n 2 && Nat.beq k a
    | _ => false))
  | 4 => Nat.beq nx (pc + n) && (Nat.blt a (ec_mr μ).2.1 && (match j with
    | .astore_n k => Nat.beq n 1 && Nat.beq k.val a
    | .astore k => Nat.beq n 2 && Nat.beq k a
    | _ => false))
  | 5 => Nat.beq nx (pc + n) && (match j with
    | .lload_n k => Nat.beq n 1 && Nat.beq k.val a
    | .lload k => Nat.beq n 2 && Nat.beq k a
    | _ => false)
  | 6 => Nat.beq nx (pc + n) && (Nat.blt (a + 1) (ec_mr μ).2.1 && (match j with
    | .lstore_n k => Nat.beq n 1 && Nat.beq k.val a
    | .lstore k => Nat.beq n 2 && Nat.beq k a
    | _ => false))
  | 7 => Nat.beq nx (pc + 3) && (Nat.beq n 3 && (Nat.blt a (ec_mr μ).2.1 && (match j with
    | .iinc i z => Nat.beq i a && decide (Int32.ofInt z = v)
    | _ => false)))
  | 8 => Nat.beq nx (pc + 1) && (Nat.beq n 1 && (match j with
    | .iadd => Nat.beq a 0
    | .isub => Nat.beq a 1
    | .imul => Nat.beq a 2
    | .iand => Nat.beq a 3
    | .ior => Nat.beq a 4
    | .ishl => Nat.beq a 5
    | .iushr => Nat.beq a 6
    | .idiv => Nat.beq a 7
    | .irem => Nat.beq a 8
    | .ixor => Nat.beq a 9
    | .ishr => Nat.beq a 10
    | _ => false))
  | 9 => Nat.beq nx (pc + 3) && (Nat.beq n 3 && (Nat.ble (ec_fk a b) 1 && (match j with
    | .getfield i => ec_okF μ a b c i
    | _ => false)))
  | 10 => Nat.beq nx (pc + 3) && (Nat.beq n 3 && (match j with
    | .putfield i => ec_okF μ a b c i && (!(ec_T a b).2.2.2 || (decide ((ec_yn μ).name = "<init>") && (Nat.beq a (ec_mr μ).1 && Nat.beq c (2 * i))))
    | _ => false))
  | 11 => Nat.beq nx (pc + 1) && (Nat.beq n 1 && (match j with
    | .iaload => Nat.beq a 0
    | .baload => Nat.beq a 1 || Nat.beq a 2
    | _ => false))
  | 12 => Nat.beq nx (pc + 1) && (Nat.beq n 1 && (match j with
    | .iastore => Nat.beq a 0
    | .bastore => Nat.beq a 1 || Nat.beq a 2
    | _ => false))
  | 13 => false
  | 14 => false
  | 15 => Nat.beq nx (pc + 1) && (Nat.beq n 1 && decide (j = .aaload))
  | 16 => Nat.beq nx (pc + 1) && (Nat.beq n 1 && decide (j = .aastore))
  | 17 => Nat.beq nx (pc + 1) && (Nat.beq n 1 && decide (j = .arraylength))
  | 18 => Nat.beq n 3 && (match j with
    | .goto off => decide ((pc : Int) + off = (a : Int))
    | _ => false)
  | 19 => Nat.beq nx (pc + 3) && (Nat.beq n 3 && (match j with
    | .if_icmp q off => Nat.beq (ec_cc q) a && decide ((pc : Int) + off = (b : Int))
    | _ => false))
  | 20 => Nat.beq nx (pc + 3) && (Nat.beq n 3 && (match j with
    | .ifCond q off => Nat.beq (ec_cc q) a && decide ((pc : Int) + off = (b : Int))
    | _ => false))
  | 21 => Nat.beq nx (pc + 3) && (Nat.beq n 3 && (match j with
    | .ifnull off => decide ((pc : Int) + off = (a : Int))
    | _ => false))
  | 22 => Nat.beq nx (pc + 1) && (Nat.beq n 1 && decide (j = .dup))
  | 23 => Nat.beq nx (pc + 1) && (Nat.beq n 1 && decide (j = .dup2))
  | 24 => Nat.beq nx (pc + 1) && (Nat.beq n 1 && decide (j = .i2l))
  | 25 => Nat.beq nx (pc + 1) && (Nat.beq n 1 && decide (j = .i2b))
  | 26 => Nat.beq nx (pc + 1) && (Nat.beq n 1 && decide (j = .ladd))
  | 27 => Nat.beq nx (pc + 1) && (Nat.beq n 1 && decide (j = .lmul))
  | 28 => Nat.beq nx (pc + 1) && (Nat.beq n 1 && decide (j = .lcmp))
  | 29 => Nat.beq n 1 && decide (j = .ireturn)
  | 30 => Nat.beq n 1 && decide (j = .return_)
  | 31 => Nat.beq n 1 && decide (j = .lreturn)
  | 32 => Nat.beq n 1 && decide (j = .areturn)
  | 33 => Nat.beq nx (pc + 3) && (Nat.beq n 3 && (ec_mem ec_cal_l a && (match j with
    | .invokevirtual i => Nat.beq i b && (Nat.beq c 0 && (Nat.beq (ec_nth 9 ec_kd a) 0 && (decide (ec_hh a = []) && ec_has4 ec_ml (ec_mr μ).1 b a 0)))
    | .invokestatic i => Nat.beq i b && (Nat.beq (ec_nth 9 ec_kd a) 1 && ((Nat.beq c 1 && ec_has4 ec_ml (ec_mr μ).1 b a 1) || (Nat.beq c 3 && (decide (ec_hh a = []) && ec_has4 ec_mn (ec_mr μ).1 b a 3))))
    | .invokespecial i => Nat.beq i b && (Nat.beq c 2 && (Nat.beq (ec_nth 9 ec_kd a) 2 && ec_has4 ec_ml (ec_mr μ).1 b a 2))
    | _ => false)))
  | 34 => Nat.beq nx (pc + 3) && (Nat.beq n 3 && (ec_has3 ec_bl (ec_mr μ).1 b a && (match j with
    | .invokespecial i => Nat.beq i b && Nat.beq a 0
    | .invokestatic i => Nat.beq i b && (Nat.ble 1 a && Nat.ble a 3)
    | _ => false)))
  | 35 => Nat.beq nx (pc + 3) && (Nat.beq n 3 && (Nat.blt a 7 && (ec_has3 ec_cll (ec_mr μ).1 b a && decide (j = .new b))))
  | 36 => Nat.beq n 3 && (decide (j = .new (ec_nth (9, 0, 0, 0, 0, "") ec_th b).2.1) && (Nat.beq (ec_nth (9, 0, 0, 0, 0, "") ec_th b).1 a && (Nat.blt a 3 && (Nat.beq (ec_mr μ).1 6 && (decide (ec_hh μ = []) && (Nat.blt b 9 &&
    (decide (decode (ec_bc μ) (pc + 3) = .ok (.dup, 1)) && (match (ec_nth (9, 0, 0, 0, 0, "") ec_th b).2.2.2.2.1 with
      | 0 => decide (decode (ec_bc μ) (pc + 4) = .ok (.ldc (ec_nth (9, 0, 0, 0, 0, "") ec_th b).2.2.1, 2)) && (decide (decode (ec_bc μ) (pc + 6) = .ok (.invokespecial (ec_nth (9, 0, 0, 0, 0, "") ec_th b).2.2.2.1, 3)) && decide (decode (ec_bc μ) (pc + 9) = .ok (.athrow, 1)))
      | _ => decide (decode (ec_bc μ) (pc + 4) = .ok (.ldc_w (ec_nth (9, 0, 0, 0, 0, "") ec_th b).2.2.1, 3)) && (decide (decode (ec_bc μ) (pc + 7) = .ok (.invokespecial (ec_nth (9, 0, 0, 0, 0, "") ec_th b).2.2.2.1, 3)) && decide (decode (ec_bc μ) (pc + 10) = .ok (.athrow, 1)))))))))))
  | 37 => Nat.beq nx (pc + 2) && (Nat.beq n 2 && (match j with
    | .newarray .int => Nat.beq a 0
    | .newarray .boolean => Nat.beq a 1
    | .newarray .byte => Nat.beq a 2
    | _ => false))
  | 38 => Nat.beq nx (pc + 3) && (Nat.beq n 3 && (ec_has3 ec_cll (ec_mr μ).1 a 1 && decide (j = .anewarray a)))
  | 39 => match j with
    | .tableswitch dflt lo hi offs => ec_swT pc lo offs.toList (ec_nth ([], 0) ec_sw a).1 && (decide (hi = lo + offs.toList.length - 1) && decide ((pc : Int) + dflt = ((ec_nth ([], 0) ec_sw a).2 : Int)))
    | .lookupswitch dflt ps => ec_swP pc ps.toList (ec_nth ([], 0) ec_sw a).1 && ((ps.toList.zip (ps.toList.drop 1)).all (fun (a, next) => a.1 < next.1) && decide ((pc : Int) + dflt = ((ec_nth ([], 0) ec_sw a).2 : Int)))
    | _ => false
  | 40 => Nat.beq nx (pc + 3) && (Nat.beq n 3 && (ec_hasK ec_kk (ec_mr μ).1 a v && decide (j = .ldc2_w a)))
  | 41 => Nat.beq nx (pc + 1) && (Nat.beq n 1 && decide (j = .aconst_null))
  | 42 => Nat.beq nx (pc + 3) && (Nat.beq n 3 && (Nat.beq (ec_fk a b) 2 && (match j with
    | .getfield i => ec_okF μ a b c i
    | _ => false)))
  | 43 => Nat.beq nx (pc + 3) && (Nat.beq n 3 && (Nat.beq (ec_fk a b) 3 && (match j with
    | .getfield i => ec_okF μ a b c i
    | _ => false)))
  | _ => false
def ec_okI (μ : Nat) (q : Nat × ec_MI) : Bool := match decode (ec_bc μ) q.1 with
  | .ok r => ec_okJ μ q.1 q.2.1 q.2.2.2.1 q.2.2.2.2.1 q.2.2.2.2.2.1 q.2.2.2.2.2.2 r.1 r.2 q.2.2.1
  | .error _ => false
def ec_okB (μ i : Nat) : Bool := (ec_nth [] (ec_nth [] ec_kt μ) i).all (ec_okI μ)
def ec_okM (μ : Nat) : Bool := (ec_nth [] ec_kt μ).all (fun b => b.all (ec_okI μ))
theorem ec_nth_mm {α : Type} {d : α} : ∀ {l : List α} {b : α}, b ∈ l → ∃ i, i < l.length ∧ ec_nth d l i = b
  | [], _, h => by cases h
  | a :: l, b, h => by
    rcases List.mem_cons.mp h with rfl | h
    · exact ⟨0, Nat.succ_pos _, rfl⟩
    · obtain ⟨i, h1, h2⟩ := ec_nth_mm (d := d) h
      exact ⟨i + 1, Nat.succ_lt_succ h1, h2⟩
theorem ec_okM_of {μ n : Nat} (hn : (ec_nth [] ec_kt μ).length = n) (h : (List.range n).all (ec_okB μ) = true) : ec_okM μ = true := by
  refine List.all_eq_true.mpr (fun b hb => ?_)
  obtain ⟨i, h1, h2⟩ := ec_nth_mm (d := []) hb
  have h3 := List.all_eq_true.mp h i (List.mem_range.mpr (hn ▸ h1))
  unfold ec_okB at h3
  rw [h2] at h3
  exact h3
theorem ec_all_app0 {p : Nat → Bool} {a b : List Nat} (h1 : a.all p = true) (h2 : b.all p = true) : (a ++ b).all p = true := by rw [List.all_append, h1, h2]; rfl
set_option maxRecDepth 100000 in
theorem ec_okg_128_0 : ([0, 1, 2, 3, 4, 5, 6, 7, 8, 9, 10, 11] : List Nat).all (ec_okB 128) = true := by decide +kernel
set_option maxRecDepth 100000 in
theorem ec_okg_128_1 : ([12, 13, 14, 15, 16, 17, 18, 19, 20, 21, 22, 23] : List Nat).all (ec_okB 128) = true := by decide +kernel
set_option maxRecDepth 100000 in
theorem ec_okg_128_2 : ([24, 25, 26, 27, 28, 29, 30, 31, 32, 33, 34, 35] : List Nat).all (ec_okB 128) = true := by decide +kernel
set_option maxRecDepth 100000 in
theorem ec_okg_128_3 : ([36, 37, 38, 39, 40, 41, 42, 43, 44, 45, 46, 47] : List Nat).all (ec_okB 128) = true := by decide +kernel
set_option maxRecDepth 100000 in
theorem ec_okg_128_4 : ([48, 49, 50, 51, 52, 53, 54] : List Nat).all (ec_okB 128) = true := by decide +kernel
set_option maxRecDepth 100000 in
theorem ec_okn_128 : (ec_nth [] ec_kt 128).length = 55 := by decide +kernel
set_option maxRecDepth 100000 in
theorem ec_okr_128 : List.range 55 = ((([0, 1, 2, 3, 4, 5, 6, 7, 8, 9, 10, 11] : List Nat) ++ ([12, 13, 14, 15, 16, 17, 18, 19, 20, 21, 22, 23] : List Nat)) ++ (([24, 25, 26, 27, 28, 29, 30, 31, 32, 33, 34, 35] : List Nat) ++ (([36, 37, 38, 39, 40, 41, 42, 43, 44, 45, 46, 47] : List Nat) ++ ([48, 49, 50, 51, 52, 53, 54] : List Nat)))) := by decide +kernel
set_option maxRecDepth 100000 in
theorem ec_okG_128 : ([128] : List Nat).all ec_okM = true := by
  refine List.all_eq_true.mpr (fun b hb => ?_)
  cases List.mem_singleton.mp hb
  exact ec_okM_of ec_okn_128 (by rw [ec_okr_128]; exact (ec_all_app0 (ec_all_app0 ec_okg_128_0 ec_okg_128_1) (ec_all_app0 ec_okg_128_2 (ec_all_app0 ec_okg_128_3 ec_okg_128_4))))
set_option maxRecDepth 100000 in
theorem ec_okg_129_0 : ([0, 1, 2, 3, 4, 5, 6, 7, 8, 9, 10, 11] : List Nat).all (ec_okB 129) = true := by decide +kernel
set_option maxRecDepth 100000 in
theorem ec_okg_129_1 : ([12, 13, 14, 15, 16, 17, 18, 19, 20, 21, 22, 23] : List Nat).all (ec_okB 129) = true := by decide +kernel
set_option maxRecDepth 100000 in
theorem ec_okg_129_2 : ([24, 25, 26, 27, 28, 29, 30, 31, 32, 33, 34, 35] : List Nat).all (ec_okB 129) = true := by decide +kernel
set_option maxRecDepth 100000 in
theorem ec_okg_129_3 : ([36, 37, 38, 39, 40, 41, 42, 43, 44, 45, 46, 47] : List Nat).all (ec_okB 129) = true := by decide +kernel
set_option maxRecDepth 100000 in
theorem ec_okg_129_4 : ([48, 49, 50, 51, 52, 53, 54, 55, 56, 57, 58, 59] : List Nat).all (ec_okB 129) = true := by decide +kernel
set_option maxRecDepth 100000 in
theorem ec_okg_129_5 : ([60, 61, 62, 63, 64, 65, 66, 67, 68, 69, 70, 71] : List Nat).all (ec_okB 129) = true := by decide +kernel
set_option maxRecDepth 100000 in
theorem ec_okg_129_6 : ([72, 73, 74, 75, 76] : List Nat).all (ec_okB 129) = true := by decide +kernel
set_option maxRecDepth 100000 in
theorem ec_okn_129 : (ec_nth [] ec_kt 129).length = 77 := by decide +kernel
set_option maxRecDepth 100000 in
theorem ec_okr_129 : List.range 77 = ((([0, 1, 2, 3, 4, 5, 6, 7, 8, 9, 10, 11] : List Nat) ++ (([12, 13, 14, 15, 16, 17, 18, 19, 20, 21, 22, 23] : List Nat) ++ ([24, 25, 26, 27, 28, 29, 30, 31, 32, 33, 34, 35] : List Nat))) ++ ((([36, 37, 38, 39, 40, 41, 42, 43, 44, 45, 46, 47] : List Nat) ++ ([48, 49, 50, 51, 52, 53, 54, 55, 56, 57, 58, 59] : List Nat)) ++ (([60, 61, 62, 63, 64, 65, 66, 67, 68, 69, 70, 71] : List Nat) ++ ([72, 73, 74, 75, 76] : List Nat)))) := by decide +kernel
set_option maxRecDepth 100000 in
theorem ec_okG_129 : ([129] : List Nat).all ec_okM = true := by
  refine List.all_eq_true.mpr (fun b hb => ?_)
  cases List.mem_singleton.mp hb
  exact ec_okM_of ec_okn_129 (by rw [ec_okr_129]; exact (ec_all_app0 (ec_all_app0 ec_okg_129_0 (ec_all_app0 ec_okg_129_1 ec_okg_129_2)) (ec_all_app0 (ec_all_app0 ec_okg_129_3 ec_okg_129_4) (ec_all_app0 ec_okg_129_5 ec_okg_129_6))))
set_option maxRecDepth 100000 in
theorem ec_okg_146_0 : ([0, 1, 2, 3, 4, 5, 6, 7, 8, 9, 10, 11] : List Nat).all (ec_okB 146) = true := by decide +kernel
set_option maxRecDepth 100000 in
theorem ec_okg_146_1 : ([12, 13, 14, 15, 16, 17, 18, 19, 20, 21, 22, 23] : List Nat).all (ec_okB 146) = true := by decide +kernel
set_option maxRecDepth 100000 in
theorem ec_okg_146_2 : ([24, 25, 26, 27, 28, 29, 30, 31, 32, 33, 34, 35] : List Nat).all (ec_okB 146) = true := by decide +kernel
set_option maxRecDepth 100000 in
theorem ec_okg_146_3 : ([36, 37, 38, 39, 40, 41, 42, 43, 44, 45, 46, 47] : List Nat).all (ec_okB 146) = true := by decide +kernel
set_option maxRecDepth 100000 in
theorem ec_okg_146_4 : ([48, 49, 50, 51, 52, 53, 54, 55, 56, 57, 58, 59] : List Nat).all (ec_okB 146) = true := by decide +kernel
set_option maxRecDepth 100000 in
theorem ec_okg_146_5 : ([60, 61, 62, 63, 64] : List Nat).all (ec_okB 146) = true := by decide +kernel
set_option maxRecDepth 100000 in
theorem ec_okn_146 : (ec_nth [] ec_kt 146).length = 65 := by decide +kernel
set_option maxRecDepth 100000 in
theorem ec_okr_146 : List.range 65 = ((([0, 1, 2, 3, 4, 5, 6, 7, 8, 9, 10, 11] : List Nat) ++ (([12, 13, 14, 15, 16, 17, 18, 19, 20, 21, 22, 23] : List Nat) ++ ([24, 25, 26, 27, 28, 29, 30, 31, 32, 33, 34, 35] : List Nat))) ++ (([36, 37, 38, 39, 40, 41, 42, 43, 44, 45, 46, 47] : List Nat) ++ (([48, 49, 50, 51, 52, 53, 54, 55, 56, 57, 58, 59] : List Nat) ++ ([60, 61, 62, 63, 64] : List Nat)))) := by decide +kernel
set_option maxRecDepth 100000 in
theorem ec_okG_146 : ([146] : List Nat).all ec_okM = true := by
  refine List.all_eq_true.mpr (fun b hb => ?_)
  cases List.mem_singleton.mp hb
  exact ec_okM_of ec_okn_146 (by rw [ec_okr_146]; exact (ec_all_app0 (ec_all_app0 ec_okg_146_0 (ec_all_app0 ec_okg_146_1 ec_okg_146_2)) (ec_all_app0 ec_okg_146_3 (ec_all_app0 ec_okg_146_4 ec_okg_146_5))))
set_option maxRecDepth 100000 in
theorem ec_ok_0 : ([0, 11, 12] : List Nat).all ec_okM = true := by decide +kernel
set_option maxRecDepth 100000 in
theorem ec_ok_1 : ([13] : List Nat).all ec_okM = true := by decide +kernel
set_option maxRecDepth 100000 in
theorem ec_ok_2 : ([14, 15, 16, 17] : List Nat).all ec_okM = true := by decide +kernel
set_option maxRecDepth 100000 in
theorem ec_ok_3 : ([18, 19, 20, 21, 22] : List Nat).all ec_okM = true := by decide +kernel
set_option maxRecDepth 100000 in
theorem ec_ok_4 : ([23, 24, 25, 26, 27, 28, 29] : List Nat).all ec_okM = true := by decide +kernel
set_option maxRecDepth 100000 in
theorem ec_ok_5 : ([31, 32, 33, 34, 35, 36, 37] : List Nat).all ec_okM = true := by decide +kernel
set_option maxRecDepth 100000 in
theorem ec_ok_6 : ([38, 39, 40] : List Nat).all ec_okM = true := by decide +kernel
set_option maxRecDepth 100000 in
theorem ec_ok_7 : ([41, 42, 43] : List Nat).all ec_okM = true := by decide +kernel
set_option maxRecDepth 100000 in
theorem ec_ok_8 : ([44, 45, 46, 47, 48] : List Nat).all ec_okM = true := by decide +kernel
set_option maxRecDepth 100000 in
theorem ec_ok_9 : ([49, 50, 51, 52, 53, 54, 55] : List Nat).all ec_okM = true := by decide +kernel
set_option maxRecDepth 100000 in
theorem ec_ok_10 : ([56, 57, 58] : List Nat).all ec_okM = true := by decide +kernel
set_option maxRecDepth 100000 in
theorem ec_ok_11 : ([59, 60, 61] : List Nat).all ec_okM = true := by decide +kernel
