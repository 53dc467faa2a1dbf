/-! What of the machine's tables and of the heap's other cells every method of the program is called with. -/
def ec_tyf (c : Nat) : Nat → FieldType := ec_nth (fun _ => .int) [ec_ty0, ec_ty1, ec_ty2, ec_ty3, ec_ty4, ec_ty5, ec_ty6] c
theorem ec_cl_at {c : Nat} (hc : c < 7) : ec_cl[c]? = some (ec_own c, ec_T c, ec_N c) := by
  match c, hc with
  | 0, _ => rfl
  | 1, _ => rfl
  | 2, _ => rfl
  | 3, _ => rfl
  | 4, _ => rfl
  | 5, _ => rfl
  | 6, _ => rfl
  | n + 7, h => exact absurd h (by omega)
theorem ec_lay_in {c : Nat} (hc : c < 7) : ∀ w ∈ u_ws (ec_own c) (ec_T c) (ec_N c), w ∈ ec_gd := fun w hw => ec_cw_ok c hc w (List.mem_append_right _ hw)
theorem ec_ini_in {c : Nat} (hc : c < 7) : Cond.initialized (ec_own c) ∈ ec_gd := ec_cw_ok c hc _ (List.mem_append_left _ List.mem_cons_self)
theorem ec_ins_in {c : Nat} (hc : c < 7) : Cond.instantiable (ec_own c) (ec_N c) ∈ ec_gd := ec_cw_ok c hc _ (List.mem_append_left _ (List.mem_cons_of_mem _ List.mem_cons_self))
theorem ec_ty_ok : ∀ c, c < 7 → ∀ k, k < ec_N c → parseFieldDescriptor (ec_T c k).2.2.1 = some (ec_tyf c k) := by decide +kernel
theorem ec_nm_ok : ∀ c, c < 7 → ∀ a, a < ec_N c → ∀ b, b < ec_N c → a ≠ b → (ec_T c a).2.1 ≠ (ec_T c b).2.1 := by decide +kernel
def ec_tq (n : Nat) (t : FieldType) : Bool := match n, t with
  | 0, .int => true
  | 1, .boolean => true
  | 2, .long => true
  | 3, .object _ => true
  | 3, .array _ => true
  | _, _ => false
theorem ec_tq_ok : ∀ c, c < 7 → ∀ k, k < ec_N c → ec_tq (ec_fk c k) (ec_tyf c k) = true := by decide +kernel
theorem ec_len_ok : ∀ c, c < 7 → (ec_nth [] ec_ft c).length = ec_N c := by decide +kernel
def ec_tys (ty : Nat → Nat) : List (ClassId × FieldType) := [(ty 0, .int), (ty 1, .boolean), (ty 2, .byte), (ty 3, .int), (ty 4, .object "EchoDungeon$Dungeon")]
/-- what is not kept by the good words' own laws -/
def ec_Nw (U : State) : Prop := ∀ w ∈ ec_nw, va_Nw w U
theorem ec_Nw.warm {s U : State} (hW : s.WarmedH U.vm) (h : ec_Nw s) : ec_Nw U := by
  intro w hw
  have h1 := h w hw
  have h2 := (List.mem_filter.mp hw).2
  cases w with
  | fieldLinkNest a i b n d x => exact va_Nw.warmF hW h1
  | methodLinkNest a i x y => exact va_Nw.warmM hW h1
  | castable a b => exact va_Nw.warmC hW h1
  | _ => cases h2
def ec_NcL : List (String × String) := [(ec_nth "" ec_exc 0, ec_nth "" ec_exc 1), (ec_nth "" ec_exc 0, ec_nth "" ec_exc 2), (ec_nth "" ec_exc 1, ec_nth "" ec_exc 0), (ec_nth "" ec_exc 1, ec_nth "" ec_exc 2), (ec_nth "" ec_exc 2, ec_nth "" ec_exc 0), (ec_nth "" ec_exc 2, ec_nth "" ec_exc 1)]
theorem ec_NcL_mem {a b : Nat} (ha : a < 3) (hb : b < 3) (hab : a ≠ b) : (ec_nth "" ec_exc a, ec_nth "" ec_exc b) ∈ ec_NcL := by
  match a, ha, b, hb, hab with
  | 0, _, 0, _, h => exact absurd rfl h
  | 0, _, 1, _, _ => exact List.mem_of_getElem? (i := 0) rfl
  | 0, _, 2, _, _ => exact List.mem_of_getElem? (i := 1) rfl
  | 1, _, 0, _, _ => exact List.mem_of_getElem? (i := 2) rfl
  | 1, _, 1, _, h => exact absurd rfl h
  | 1, _, 2, _, _ => exact List.mem_of_getElem? (i := 3) rfl
  | 2, _, 0, _, _ => exact List.mem_of_getElem? (i := 4) rfl
  | 2, _, 1, _, _ => exact List.mem_of_getElem? (i := 5) rfl
  | 2, _, 2, _, h => exact absurd rfl h
  | _ + 3, h, _, _, _ => exact absurd h (by omega)
  | _, _, _ + 3, h, _ => exact absurd h (by omega)
/-- the texts of the throw sites, and what classes declare -/
def ec_dk : Cond → Bool
  | .declares _ => true
  | _ => false
def ec_nd : List Cond := lw_tbl.filter ec_dk
def ec_Tx (U : State) : Prop := (∀ q ∈ ec_th, ∃ sa, vk_R "EchoDungeon" q.2.2.1 q.2.2.2.2.2 sa U) ∧ ∀ w ∈ ec_nd, va_Nw w U
theorem ec_Tx.warm {s U : State} (hW : s.WarmedH U.vm) (h : ec_Tx s) : ec_Tx U := by
  refine ⟨fun q hq => ?_, fun w hw => ?_⟩
  · obtain ⟨sa, hsa⟩ := h.1 q hq
    exact ⟨sa, vk_R.warm hW hsa⟩
  · have h1 := h.2 w hw
    have h2 := (List.mem_filter.mp hw).2
    cases w with
    | declares x => exact va_Nw.warmD hW h1
    | _ => cases h2
def ec_Ev (D : va_G) (ty : Nat → Nat) (L b : Nat) (xs : Nat → Int32) (A : Nat → Prop) (U : State) : Prop :=
  va_K D ec_cl (ec_tys ty) U ∧ ec_Nw U ∧ (∀ x ∈ ec_NcL, va_Nc x.1 x.2 U) ∧ ec_Tx U ∧ va_AO "EchoDungeon$Dungeon" U ∧
  vx_Zq Bundle.tN "UNASSIGNED_STACK" Bundle.steD A U U.heap ∧ vx_Zq Bundle.tN "SUPPRESSED_SENTINEL" Bundle.listD A U U.heap ∧ va_X b L xs U U.heap ∧ b < U.heap.size ∧ ¬ A b
theorem ec_Ev.move {D : va_G} {ty : Nat → Nat} {L b : Nat} {xs : Nat → Int32} {A B : Nat → Prop} {s U : State} {H : Heap} {locs : List Loc} (h : ec_Ev D ty L b xs A s) (hU : U.heap = H) (hW : s.WarmedH U.vm) (hS : va_S A s.heap H locs) (hB : ∀ q, B q → A q) : ec_Ev D ty L b xs B U := by
  obtain ⟨h1, h2, h3, h4, h5, h6, h7, h8, h9, h10⟩ := h
  refine ⟨va_K.moved hW.alike h1, h2.warm hW, fun x hx => va_Nc.moved hW.alike (h3 x hx), h4.warm hW, va_AO.moved hW.alike h5, ?_, ?_, ?_, ?_, fun z => h10 (hB b z)⟩
  · rw [hU]
    exact vx_Zq.moved hW.alike ((h6.kept hS.2.1).narrow hB)
  · rw [hU]
    exact vx_Zq.moved hW.alike ((h7.kept hS.2.1).narrow hB)
  · rw [hU]
    exact va_X.moved hW.alike (h8.kept (hS.2.1 b h9 h10))
  · rw [hU]
    exact Nat.lt_of_lt_of_le h9 hS.1
/-- rows of exception tables -/
def ec_hw (c : Nat) (q : Nat × Nat × Nat × Nat × Nat) : Cond := .classLink (ec_own c) q.2.2.2.2 (ec_nth "" ec_exc q.2.2.2.1)
theorem ec_hnd_none : ∀ {l : List (Nat × Nat × Nat × Nat × Nat)} {pc e : Nat}, ec_hnd l pc e = none → ∀ q ∈ l, (Nat.ble q.1 pc && (Nat.blt pc q.2.1 && Nat.beq q.2.2.2.1 e)) = false
  | [], _, _, _, q, hq => by cases hq
  | a :: l, pc, e, h, q, hq => by
    cases hb : (Nat.ble a.1 pc && (Nat.blt pc a.2.1 && Nat.beq a.2.2.2.1 e)) with
    | true => simp only [ec_hnd, hb, cond_true] at h; cases h
    | false =>
      simp only [ec_hnd, hb, cond_false] at h
      rcases List.mem_cons.mp hq with rfl | hq
      · exact hb
      · exact ec_hnd_none h q hq
theorem ec_hnd_some : ∀ {l : List (Nat × Nat × Nat × Nat × Nat)} {pc e t : Nat}, ec_hnd l pc e = some t → ∃ pre x suf, l = pre ++ x :: suf ∧ x.2.2.1 = t ∧ (Nat.ble x.1 pc && (Nat.blt pc x.2.1 && Nat.beq x.2.2.2.1 e)) = true ∧ ∀ q ∈ pre, (Nat.ble q.1 pc && (Nat.blt pc q.2.1 && Nat.beq q.2.2.2.1 e)) = false
  | [], _, _, _, h => by cases h
  | a :: l, pc, e, t, h => by
    cases hb : (Nat.ble a.1 pc && (Nat.blt pc a.2.1 && Nat.beq a.2.2.2.1 e)) with
    | true =>
      simp only [ec_hnd, hb, cond_true] at h
      cases h
      exact ⟨[], a, l, rfl, rfl, hb, fun q hq => by cases hq⟩
    | false =>
      simp only [ec_hnd, hb, cond_false] at h
      obtain ⟨pre, x, suf, h1, h2, h3, h4⟩ := ec_hnd_some h
      refine ⟨a :: pre, x, suf, by rw [h1]; rfl, h2, h3, fun q hq => ?_⟩
      rcases List.mem_cons.mp hq with rfl | hq
      · exact hb
      · exact h4 q hq
