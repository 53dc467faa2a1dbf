/-! How the small machine's values, locals and heaps lie in the machine's. -/
def ec_vr (r : Nat → Nat) (N b : Nat) : Value → Value → Prop
  | .ref k, v => k < N ∧ v = .ref (r k)
  | .float _, v => v = .ref b
  | .retAddr _, v => ∃ q, v = .ref q
  | .double _, _ => False
  | .int x, v => v = .int x
  | .long x, v => v = .long x
  | .null, v => v = .null
def ec_SR (r : Nat → Nat) (N b : Nat) : List Value → List Value → Prop
  | [], [] => True
  | a :: l, v :: m => ec_vr r N b a v ∧ ec_SR r N b l m
  | _, _ => False
def ec_LR (r : Nat → Nat) (N b n : Nat) (ls : List Value) (lr : Array Slot) : Prop :=
  ls.length = n ∧ lr.size = n ∧ lv_wf lr ∧ ∀ i : Nat, (∃ w, ec_nth (.double 0) ls i = .double w) ∨ ∃ v : Value, lr[i]? = some (.val v) ∧ ec_vr r N b (ec_nth (.double 0) ls i) v
def ec_c1 : Value → Nat
  | .long _ => 2
  | .double _ => 2
  | _ => 1
theorem ec_cat_cons (a : Value) (l : List Value) : ec_cat (a :: l) = ec_cat l + ec_c1 a := by cases a <;> rfl
theorem ec_vr_cat {r : Nat → Nat} {N b : Nat} {a v : Value} (h : ec_vr r N b a v) : v.category = ec_c1 a := by
  cases a with
  | int x => cases h; rfl
  | long x => cases h; rfl
  | float x => cases h; rfl
  | double x => exact h.elim
  | null => cases h; rfl
  | ref k => rw [h.2]; rfl
  | retAddr x => obtain ⟨q, rfl⟩ := h; rfl
theorem ec_SR_cat {r : Nat → Nat} {N b : Nat} : ∀ {st sr : List Value}, ec_SR r N b st sr → (sr.map fun v => v.category).sum = ec_cat st
  | [], [], _ => rfl
  | a :: l, v :: m, h => by
    rw [List.map_cons, List.sum_cons, ec_SR_cat h.2, ec_vr_cat h.1, ec_cat_cons]
    omega
  | [], _ :: _, h => h.elim
  | _ :: _, [], h => h.elim
theorem ec_SR_len {r : Nat → Nat} {N b : Nat} : ∀ {st sr : List Value}, ec_SR r N b st sr → sr.length = st.length
  | [], [], _ => rfl
  | _ :: _, _ :: _, h => by rw [List.length_cons, List.length_cons, ec_SR_len h.2]
  | [], _ :: _, h => h.elim
  | _ :: _, [], h => h.elim
theorem ec_vr_mono {r r' : Nat → Nat} {N N' b : Nat} (hN : N ≤ N') (hr : ∀ k, k < N → r' k = r k) {a v : Value} (h : ec_vr r N b a v) : ec_vr r' N' b a v := by
  cases a with
  | ref k => exact ⟨Nat.lt_of_lt_of_le h.1 hN, by rw [hr k h.1]; exact h.2⟩
  | _ => exact h
theorem ec_SR_mono {r r' : Nat → Nat} {N N' b : Nat} (hN : N ≤ N') (hr : ∀ k, k < N → r' k = r k) : ∀ {st sr : List Value}, ec_SR r N b st sr → ec_SR r' N' b st sr
  | [], [], _ => trivial
  | _ :: _, _ :: _, h => ⟨ec_vr_mono hN hr h.1, ec_SR_mono hN hr h.2⟩
  | [], _ :: _, h => h.elim
  | _ :: _, [], h => h.elim
theorem ec_LR_mono {r r' : Nat → Nat} {N N' b n : Nat} (hN : N ≤ N') (hr : ∀ k, k < N → r' k = r k) {ls : List Value} {lr : Array Slot} (h : ec_LR r N b n ls lr) : ec_LR r' N' b n ls lr :=
  ⟨h.1, h.2.1, h.2.2.1, fun i => (h.2.2.2 i).imp_right fun ⟨v, h1, h2⟩ => ⟨v, h1, ec_vr_mono hN hr h2⟩⟩
theorem ec_SR_cons {r : Nat → Nat} {N b : Nat} {a : Value} {l sr : List Value} (h : ec_SR r N b (a :: l) sr) : ∃ v m, sr = v :: m ∧ ec_vr r N b a v ∧ ec_SR r N b l m := by
  cases sr with
  | nil => exact h.elim
  | cons v m => exact ⟨v, m, rfl, h.1, h.2⟩
theorem ec_SR_nil {r : Nat → Nat} {N b : Nat} {sr : List Value} (h : ec_SR r N b [] sr) : sr = [] := by
  cases sr with
  | nil => rfl
  | cons v m => exact h.elim
theorem ec_SR_app {r : Nat → Nat} {N b : Nat} : ∀ {l m l' m' : List Value}, ec_SR r N b l l' → ec_SR r N b m m' → ec_SR r N b (l ++ m) (l' ++ m')
  | [], _, [], _, _, h => h
  | _ :: _, _, _ :: _, _, h, h' => ⟨h.1, ec_SR_app h.2 h'⟩
  | [], _, _ :: _, _, h, _ => h.elim
  | _ :: _, _, [], _, h, _ => h.elim
/-- what is taken off a stack for a call -/
theorem ec_take_spec {r : Nat → Nat} {N b : Nat} : ∀ (n : Nat) (acc accr st sr as rest : List Value), ec_take n acc st = some (as, rest) → ec_SR r N b acc accr → ec_SR r N b st sr →
    ∃ asr restr, ec_SR r N b as asr ∧ ec_SR r N b rest restr ∧ accr.reverse ++ sr = asr.reverse ++ restr ∧ asr.length = n + accr.length
  | 0, acc, accr, st, sr, as, rest, h, ha, hs => by
    cases h
    exact ⟨accr, sr, ha, hs, rfl, by omega⟩
  | n + 1, acc, accr, [], sr, as, rest, h, ha, hs => by cases h
  | n + 1, acc, accr, v :: st, sr, as, rest, h, ha, hs => by
    obtain ⟨w, m, rfl, hv, hm⟩ := ec_SR_cons hs
    obtain ⟨asr, restr, h1, h2, h3, h4⟩ := ec_take_spec n (v :: acc) (w :: accr) st m as rest h ⟨hv, ha⟩ hm
    exact ⟨asr, restr, h1, h2, by rw [← h3]; simp, by rw [h4, List.length_cons]; omega⟩
/-! locals -/
theorem ec_setV_len : ∀ (l : List Value) (i : Nat) (v : Value), (ec_setV l i v).length = l.length
  | [], _, _ => rfl
  | _ :: _, 0, _ => rfl
  | _ :: l, n + 1, v => by
    show (ec_setV l n v).length + 1 = l.length + 1
    rw [ec_setV_len l n v]
theorem ec_nth_setV : ∀ (l : List Value) (i : Nat) (v : Value) (j : Nat), i < l.length → ec_nth (.double 0) (ec_setV l i v) j = if j = i then v else ec_nth (.double 0) l j
  | [], _, _, _, h => by simp at h
  | a :: l, 0, v, j, _ => by
    cases j with
    | zero => rfl
    | succ j => rw [if_neg (by omega)]
  | a :: l, n + 1, v, j, h => by
    cases j with
    | zero => rw [if_neg (by omega)]
    | succ j =>
      show ec_nth _ (ec_setV l n v) j = _
      rw [ec_nth_setV l n v j (by simpa using h)]
      by_cases hj : j = n
      · rw [if_pos hj, if_pos (by omega)]
      · rw [if_neg hj, if_neg (by omega)]
theorem ec_cut_len (ls : List Value) (i : Nat) : (ec_cut ls i).length = ls.length := by
  cases i with
  | zero => rfl
  | succ j =>
    show (match ec_nth (Value.double 0) ls j with | Value.long _ => ec_setV ls j (.double 0) | _ => ls).length = _
    split
    · exact ec_setV_len _ _ _
    · rfl
theorem ec_nth_cut (ls : List Value) (i j : Nat) (hi : i < ls.length) : ec_nth (.double 0) (ec_cut ls i) j = .double 0 ∨ (ec_nth (.double 0) (ec_cut ls i) j = ec_nth (.double 0) ls j ∧ ∀ x, j + 1 = i → ec_nth (.double 0) ls j ≠ .long x) := by
  cases i with
  | zero => exact Or.inr ⟨rfl, fun x h => by omega⟩
  | succ k =>
    show ec_nth _ (match ec_nth (Value.double 0) ls k with | Value.long _ => ec_setV ls k (.double 0) | _ => ls) j = _ ∨ (ec_nth _ (match ec_nth (Value.double 0) ls k with | Value.long _ => ec_setV ls k (.double 0) | _ => ls) j = _ ∧ _)
    split
    next x hx =>
      rw [ec_nth_setV _ _ _ _ (by omega)]
      by_cases hj : j = k
      · rw [if_pos hj]; exact Or.inl rfl
      · rw [if_neg hj]; exact Or.inr ⟨rfl, fun y h => by omega⟩
    next hx =>
      refine Or.inr ⟨rfl, fun y h hy => ?_⟩
      have : j = k := by omega
      subst this
      exact hx _ hy
/-- all that is known of the machine's locals -/
def ec_all (lr : Array Slot) : List (Nat × Value) := (List.range lr.size).filterMap fun i => match lr[i]? with
  | some (Slot.val v) => some (i, v)
  | _ => none
theorem ec_all_has {lr : Array Slot} {n : Nat} (h1 : lr.size = n) (h2 : lv_wf lr) : lv_has lr n (ec_all lr) := by
  refine ⟨h1, h2, fun q hq => ?_⟩
  obtain ⟨i, -, hi⟩ := List.mem_filterMap.mp hq
  cases hs : lr[i]? with
  | none => rw [hs] at hi; cases hi
  | some s =>
    rw [hs] at hi
    cases s with
    | val v => cases hi; exact hs
    | _ => cases hi
theorem ec_all_mem {lr : Array Slot} {i : Nat} {v : Value} (h : lr[i]? = some (.val v)) : (i, v) ∈ ec_all lr :=
  List.mem_filterMap.mpr ⟨i, List.mem_range.mpr (Array.getElem?_eq_some_iff.mp h).1, by rw [h]⟩
theorem ec_LR_put1 {r : Nat → Nat} {N b n : Nat} {ls : List Value} {lr lr' : Array Slot} {i : Nat} {a v : Value} (h : ec_LR r N b n ls lr) (hi : i < n) (hv : ec_vr r N b a v)
    (hh : lv_has lr' n ((i, v) :: (ec_all lr).filter (fun q => !(q.1 == i) && !(q.1 + 1 == i && q.2.category == 2)))) : ec_LR r N b n (ec_put1 ls i a) lr' := by
  obtain ⟨h1, h2, h3, h4⟩ := h
  have hl : i < (ec_cut ls i).length := by rw [ec_cut_len]; omega
  refine ⟨by show (ec_setV (ec_cut ls i) i a).length = n; rw [ec_setV_len, ec_cut_len]; exact h1, hh.1, hh.2.1, fun j => ?_⟩
  have e : ec_nth (.double 0) (ec_put1 ls i a) j = if j = i then a else ec_nth (.double 0) (ec_cut ls i) j := ec_nth_setV _ _ _ _ hl
  rw [e]
  by_cases hj : j = i
  · rw [if_pos hj]
    subst hj
    exact Or.inr ⟨v, hh.2.2 (j, v) List.mem_cons_self, hv⟩
  · rw [if_neg hj]
    rcases ec_nth_cut ls i j (by omega) with hc | ⟨hc, hn⟩
    · exact Or.inl ⟨0, hc⟩
    · rw [hc]
      rcases h4 j with hd | ⟨w, hw, hvw⟩
      · exact Or.inl hd
      · refine Or.inr ⟨w, hh.2.2 (j, w) (List.mem_cons_of_mem _ (List.mem_filter.mpr ⟨ec_all_mem hw, ?_⟩)), hvw⟩
        simp only [Bool.and_eq_true, Bool.not_eq_true', beq_eq_false_iff_ne, ne_eq, Bool.and_eq_false_iff]
        refine ⟨hj, ?_⟩
        by_cases hk : j + 1 = i
        · refine Or.inr ?_
          rw [ec_vr_cat hvw]
          cases hz : ec_nth (.double 0) ls j with
          | long x => exact absurd hz (hn x hk)
          | double x => rw [hz] at hvw; exact hvw.elim
          | _ => simp [ec_c1]
        · exact Or.inl hk
theorem ec_LR_put2 {r : Nat → Nat} {N b n : Nat} {ls : List Value} {lr lr' : Array Slot} {i : Nat} {a v : Value} (h : ec_LR r N b n ls lr) (hi : i + 1 < n) (hv : ec_vr r N b a v)
    (hh : lv_has lr' n ((i, v) :: (ec_all lr).filter (fun q => !(q.1 == i) && (!(q.1 == i + 1) && !(q.1 + 1 == i && q.2.category == 2))))) : ec_LR r N b n (ec_put2 ls i a) lr' := by
  obtain ⟨h1, h2, h3, h4⟩ := h
  have hl : i < (ec_cut ls i).length := by rw [ec_cut_len]; omega
  have hl2 : i + 1 < (ec_setV (ec_cut ls i) i a).length := by rw [ec_setV_len, ec_cut_len]; omega
  refine ⟨by show (ec_setV (ec_setV (ec_cut ls i) i a) (i + 1) (.double 0)).length = n; rw [ec_setV_len, ec_setV_len, ec_cut_len]; exact h1, hh.1, hh.2.1, fun j => ?_⟩
  have e : ec_nth (.double 0) (ec_put2 ls i a) j = if j = i + 1 then .double 0 else if j = i then a else ec_nth (.double 0) (ec_cut ls i) j := by
    show ec_nth _ (ec_setV (ec_setV (ec_cut ls i) i a) (i + 1) (.double 0)) j = _
    rw [ec_nth_setV _ _ _ _ hl2, ec_nth_setV _ _ _ _ hl]
  rw [e]
  by_cases hj1 : j = i + 1
  · rw [if_pos hj1]; exact Or.inl ⟨0, rfl⟩
  · rw [if_neg hj1]
    by_cases hj : j = i
    · rw [if_pos hj]
      subst hj
      exact Or.inr ⟨v, hh.2.2 (j, v) List.mem_cons_self, hv⟩
    · rw [if_neg hj]
      rcases ec_nth_cut ls i j (by omega) with hc | ⟨hc, hn⟩
      · exact Or.inl ⟨0, hc⟩
      · rw [hc]
        rcases h4 j with hd | ⟨w, hw, hvw⟩
        · exact Or.inl hd
        · refine Or.inr ⟨w, hh.2.2 (j, w) (List.mem_cons_of_mem _ (List.mem_filter.mpr ⟨ec_all_mem hw, ?_⟩)), hvw⟩
          simp only [Bool.and_eq_true, Bool.not_eq_true', beq_eq_false_iff_ne, ne_eq, Bool.and_eq_false_iff]
          refine ⟨hj, hj1, ?_⟩
          by_cases hk : j + 1 = i
          · refine Or.inr ?_
            rw [ec_vr_cat hvw]
            cases hz : ec_nth (.double 0) ls j with
            | long x => exact absurd hz (hn x hk)
            | double x => rw [hz] at hvw; exact hvw.elim
            | _ => simp [ec_c1]
          · exact Or.inl hk
theorem ec_LR_at {r : Nat → Nat} {N b n : Nat} {ls : List Value} {lr : Array Slot} (h : ec_LR r N b n ls lr) {i : Nat} {a : Value} (ha : ec_nth (.double 0) ls i = a) (hd : ∀ w, a ≠ .double w) : ∃ v : Value, lr[i]? = some (.val v) ∧ ec_vr r N b a v := by
  rcases h.2.2.2 i with ⟨w, hw⟩ | h1
  · exact absurd (ha.symm.trans hw) (hd w)
  · rw [ha] at h1; exact h1
/-! the locals with which a method begins -/
theorem ec_pad_len : ∀ (n : Nat) (l : List Value), (ec_pad n l).length = n
  | 0, _ => rfl
  | n + 1, [] => by
    show (ec_pad n []).length + 1 = n + 1
    rw [ec_pad_len n []]
  | n + 1, v :: l => by
    show (ec_pad n l).length + 1 = n + 1
    rw [ec_pad_len n l]
theorem ec_nth_pad : ∀ (n : Nat) (l : List Value) (i : Nat), ec_nth (.double 0) (ec_pad n l) i = .double 0 ∨ ec_nth (.double 0) (ec_pad n l) i = ec_nth (.double 0) l i
  | 0, _, _ => Or.inl rfl
  | n + 1, [], 0 => Or.inl rfl
  | n + 1, [], i + 1 => (ec_nth_pad n [] i).imp id id
  | n + 1, v :: l, 0 => Or.inr rfl
  | n + 1, v :: l, i + 1 => ec_nth_pad n l i
theorem ec_lay_args {r : Nat → Nat} {N b : Nat} : ∀ (as asr : List Value) (k i : Nat), ec_SR r N b as asr → (∃ w, ec_nth (.double 0) (ec_lay as) i = .double w) ∨ ∃ v, (k + i, v) ∈ lv_args k asr ∧ ec_vr r N b (ec_nth (.double 0) (ec_lay as) i) v
  | [], [], _, _, _ => Or.inl ⟨0, rfl⟩
  | [], _ :: _, _, _, h => h.elim
  | _ :: _, [], _, _, h => h.elim
  | a :: l, v :: m, k, i, h => by
    have key : (∃ x, a = .long x) ∨ ((∀ x, a ≠ .long x) ∧ ec_lay (a :: l) = a :: ec_lay l) := by
      cases a <;> first | exact Or.inl ⟨_, rfl⟩ | exact Or.inr ⟨fun x hx => (by cases hx), rfl⟩
    rcases key with ⟨x, rfl⟩ | ⟨hn, e⟩
    · have hv : v = .long x := h.1
      subst hv
      match i with
      | 0 => exact Or.inr ⟨.long x, List.mem_cons_self, rfl⟩
      | 1 => exact Or.inl ⟨0, rfl⟩
      | i + 2 =>
        rcases ec_lay_args l m (k + 2) i h.2 with h1 | ⟨w, h1, h2⟩
        · exact Or.inl h1
        · refine Or.inr ⟨w, ?_, h2⟩
          rw [show k + (i + 2) = k + 2 + i by omega]
          exact List.mem_cons_of_mem _ h1
    · rw [e]
      match i with
      | 0 =>
        by_cases hd : ∃ w, a = .double w
        · exact Or.inl hd
        · exact Or.inr ⟨v, List.mem_cons_self, h.1⟩
      | i + 1 =>
        rcases ec_lay_args l m (k + 1) i h.2 with h1 | ⟨w, h1, h2⟩
        · exact Or.inl h1
        · refine Or.inr ⟨w, ?_, h2⟩
          rw [show k + (i + 1) = k + 1 + i by omega]
          have hc : ¬ v.category = 2 := by
            rw [ec_vr_cat h.1]
            cases a with
            | long x => exact absurd rfl (hn x)
            | double x => exact h.1.elim
            | _ => simp [ec_c1]
          show _ ∈ (k, v) :: lv_args (if v.category = 2 then k + 2 else k + 1) m
          rw [if_neg hc]
          exact List.mem_cons_of_mem _ h1
theorem ec_sl_len {r : Nat → Nat} {N b : Nat} : ∀ {as asr : List Value}, ec_SR r N b as asr → (lg_sl asr).length = ec_cat as
  | [], [], _ => rfl
  | [], _ :: _, h => h.elim
  | _ :: _, [], h => h.elim
  | a :: l, v :: m, h => by
    have ih := ec_sl_len h.2
    have hc := ec_vr_cat h.1
    rw [ec_cat_cons]
    by_cases h2 : v.category = 2
    · have : (lg_sl (v :: m)).length = (lg_sl m).length + 2 := by simp [lg_sl, h2]
      omega
    · have : (lg_sl (v :: m)).length = (lg_sl m).length + 1 := by simp [lg_sl, h2]
      have hc1 : ec_c1 a = 1 := by cases a <;> first | rfl | (exfalso; exact h2 hc)
      omega
theorem ec_LR_ini {r : Nat → Nat} {N b n : Nat} {as asr : List Value} {lr : Array Slot} (h : ec_SR r N b as asr) (hl : lv_has lr n (lv_args 0 asr)) : ec_LR r N b n (ec_pad n (ec_lay as)) lr := by
  refine ⟨ec_pad_len _ _, hl.1, hl.2.1, fun i => ?_⟩
  rcases ec_nth_pad n (ec_lay as) i with e | e
  · exact Or.inl ⟨0, e⟩
  · rw [e]
    rcases ec_lay_args as asr 0 i h with h1 | ⟨v, h1, h2⟩
    · exact Or.inl h1
    · rw [Nat.zero_add] at h1
      exact Or.inr ⟨v, hl.2.2 _ h1, h2⟩
