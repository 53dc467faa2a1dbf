/-! How the small machine's heap lies in the machine's. -/
def ec_rr (r : Nat → Nat) : Value → Value
  | .ref q => .ref (r q)
  | _ => .null
def ec_ro (r : Nat → Nat) : Value → Option Nat
  | .ref q => some (r q)
  | _ => none
def ec_f1 (r : Nat → Nat) (h : ec_Hp) (p k : Nat) : Nat → Value
  | 0 => .int (h.2.1 p k)
  | 1 => .int (h.2.1 p k)
  | 2 => .long (h.2.2.1 p k)
  | _ => ec_rr r ((ec_shp h p).2.2 k)
def ec_ob (r : Nat → Nat) (h : ec_Hp) (p : Nat) : List Value := (List.range (ec_shp h p).2.1).map (fun k => ec_f1 r h p k (ec_fk (ec_shp h p).1 k))
def ec_ce (ty r : Nat → Nat) (h : ec_Hp) (p : Nat) : va_E :=
  if (ec_shp h p).1 = 16 then .inl (ty 0, (ec_shp h p).2.1, .inl (h.2.1 p)) else
  if (ec_shp h p).1 = 17 then .inl (ty 1, (ec_shp h p).2.1, .inl (h.2.1 p)) else
  if (ec_shp h p).1 = 18 then .inl (ty 2, (ec_shp h p).2.1, .inl (h.2.1 p)) else
  if (ec_shp h p).1 = 19 then .inl (ty 3, (ec_shp h p).2.1, .inr (.inl (h.2.2.1 p))) else
  if (ec_shp h p).1 = 20 then .inl (ty 4, (ec_shp h p).2.1, .inr (.inr (.inr (.inr (fun k => ec_ro r ((ec_shp h p).2.2 k)))))) else
  .inr ((ec_shp h p).1, ec_ob r h p)
def ec_ws (ty r : Nat → Nat) (h : ec_Hp) : va_W := (List.range h.1.length).map (fun p => (r p, ec_ce ty r h p))
/-- references point into the heap; an object has its class's fields -/
def ec_sv (h : ec_Hp) : Prop := (∀ p k q, (ec_shp h p).2.2 k = .ref q → q < h.1.length) ∧ ∀ p, (ec_shp h p).1 < 7 → (ec_shp h p).2.1 = ec_N (ec_shp h p).1
def ec_Wd (D : va_G) (ty : Nat → Nat) (A : Nat → Prop) (H0 : Heap) (r : Nat → Nat) (h : ec_Hp) (H : Heap) (locs : List Loc) : Prop :=
  ec_sv h ∧ va_P D ec_cl (ec_ws ty r h) H ∧ va_D A (ec_ws ty r h) ∧ va_S A H0 H locs
theorem ec_nth_ge {α : Type} {d : α} : ∀ {l : List α} {p : Nat}, l.length ≤ p → ec_nth d l p = d
  | [], _, _ => rfl
  | _ :: _, 0, h => by simp at h
  | _ :: l, p + 1, h => ec_nth_ge (l := l) (by simpa using h)
theorem ec_nth_eq {α : Type} {d : α} : ∀ {l : List α} {p : Nat} (h : p < l.length), ec_nth d l p = l[p]
  | [], _, h => by simp at h
  | _ :: _, 0, _ => rfl
  | _ :: l, p + 1, h => ec_nth_eq (l := l) (by simpa using h)
theorem ec_nth_app {α : Type} {d x : α} {l : List α} {p : Nat} : ec_nth d (l ++ [x]) p = if p = l.length then x else ec_nth d l p := by
  by_cases h1 : p < l.length
  · rw [if_neg (by omega), ec_nth_eq (by simp; omega), ec_nth_eq h1, List.getElem_append_left h1]
  · by_cases h2 : p = l.length
    · rw [if_pos h2, ec_nth_eq (by simp; omega)]
      subst h2
      simp
    · rw [if_neg h2, ec_nth_ge (by simp; omega), ec_nth_ge (by omega)]
theorem ec_nth_set {α : Type} {d x : α} {l : List α} {p q : Nat} (h : p < l.length) : ec_nth d (l.set p x) q = if q = p then x else ec_nth d l q := by
  by_cases h1 : q < l.length
  · rw [ec_nth_eq (by rw [List.length_set]; exact h1), ec_nth_eq h1, List.getElem_set]
    by_cases h2 : q = p
    · rw [if_pos h2, if_pos h2.symm]
    · rw [if_neg h2, if_neg (fun z => h2 z.symm)]
  · rw [ec_nth_ge (by rw [List.length_set]; omega), ec_nth_ge (by omega), if_neg (by omega)]
theorem ec_isK_spec {h : ec_Hp} {p kd : Nat} (hk : ec_isK h p kd = true) (hd : kd ≠ 1000) : p < h.1.length ∧ (ec_shp h p).1 = kd := by
  have e : (ec_shp h p).1 = kd := Nat.eq_of_beq_eq_true hk
  refine ⟨?_, e⟩
  rcases Nat.lt_or_ge p h.1.length with q | q
  · exact q
  · exfalso
    apply hd
    rw [← e]
    show (ec_nth _ h.1 p).1 = 1000
    rw [ec_nth_ge q]
theorem ec_ws_at {ty r : Nat → Nat} {h : ec_Hp} {p : Nat} (hp : p < h.1.length) : (ec_ws ty r h)[p]? = some (r p, ec_ce ty r h p) := by
  simp [ec_ws, hp]
theorem ec_ws_len {ty r : Nat → Nat} {h : ec_Hp} : (ec_ws ty r h).length = h.1.length := by simp [ec_ws]
theorem ec_ws_set {ty r : Nat → Nat} {h h' : ec_Hp} {p : Nat} (hl : h'.1.length = h.1.length) (he : ∀ q, q ≠ p → ec_ce ty r h' q = ec_ce ty r h q) : ec_ws ty r h' = (ec_ws ty r h).set p (r p, ec_ce ty r h' p) := by
  apply List.ext_getElem?
  intro i
  rw [List.getElem?_set]
  by_cases hi : i < h.1.length
  · rw [ec_ws_at (by omega)]
    by_cases hip : p = i
    · subst hip
      rw [if_pos rfl, if_pos (by rw [ec_ws_len]; exact hi)]
    · rw [if_neg hip, ec_ws_at hi, he i (fun z => hip z.symm)]
  · have e1 : (ec_ws ty r h')[i]? = none := List.getElem?_eq_none (by rw [ec_ws_len]; omega)
    have e2 : (ec_ws ty r h)[i]? = none := List.getElem?_eq_none (by rw [ec_ws_len]; omega)
    rw [e1]
    by_cases hip : p = i
    · rw [if_pos hip, if_neg (by rw [ec_ws_len]; omega)]
    · rw [if_neg hip, e2]
theorem ec_ce_ob {ty r : Nat → Nat} {h : ec_Hp} {p c : Nat} (hk : (ec_shp h p).1 = c) (hc : c < 7) : ec_ce ty r h p = .inr (c, ec_ob r h p) := by
  unfold ec_ce
  rw [hk, if_neg (by omega), if_neg (by omega), if_neg (by omega), if_neg (by omega), if_neg (by omega)]
theorem ec_ob_at {r : Nat → Nat} {h : ec_Hp} {p c k : Nat} (hk : (ec_shp h p).1 = c) (hn : (ec_shp h p).2.1 = ec_N c) (hb : k < ec_N c) : (ec_ob r h p)[k]? = some (ec_f1 r h p k (ec_fk c k)) := by
  unfold ec_ob
  rw [hk, hn]
  simp [hb]
theorem ec_ob_len {r : Nat → Nat} {h : ec_Hp} {p : Nat} : (ec_ob r h p).length = (ec_shp h p).2.1 := by simp [ec_ob]
theorem ec_map_set {n k : Nat} {f g : Nat → Value} (h : ∀ j, j ≠ k → g j = f j) : (List.range n).map g = ((List.range n).map f).set k (g k) := by
  apply List.ext_getElem?
  intro i
  rw [List.getElem?_set]
  by_cases hi : i < n
  · by_cases hk : k = i
    · subst hk
      rw [if_pos rfl, if_pos (by simpa using hi)]
      simp [hi]
    · rw [if_neg hk]
      simp [hi, h i (fun z => hk z.symm)]
  · by_cases hk : k = i
    · subst hk
      rw [if_pos rfl, if_neg (by simpa using (by omega : n ≤ k))]
      simp
      omega
    · rw [if_neg hk]
      simp [hi]
theorem ec_ce_congr {ty r : Nat → Nat} {h h' : ec_Hp} {q : Nat} (es : ec_shp h' q = ec_shp h q) (e1 : h'.2.1 q = h.2.1 q) (e3 : h'.2.2.1 q = h.2.2.1 q) : ec_ce ty r h' q = ec_ce ty r h q := by
  simp only [ec_ce, ec_ob, ec_f1, es, e1, e3]
/-- one int of an object is written -/
theorem ec_ob_setI {ty r : Nat → Nat} {h : ec_Hp} {p c k : Nat} {x : Int32} (hk : (ec_shp h p).1 = c) (hc : c < 7) (hf : ec_fk c k ≤ 1) : ec_ws ty r (ec_setI h p k x) = (ec_ws ty r h).set p (r p, .inr (c, (ec_ob r h p).set k (.int x))) := by
  have e0 : ec_ob r (ec_setI h p k x) p = (ec_ob r h p).set k (.int x) := by
    have e : ec_f1 r (ec_setI h p k x) p k (ec_fk (ec_shp h p).1 k) = .int x := by
      rw [hk]
      have : ec_fk c k = 0 ∨ ec_fk c k = 1 := by omega
      rcases this with e | e <;> rw [e] <;> simp [ec_f1, ec_setI, ec_upI]
    show (List.range (ec_shp h p).2.1).map (fun j => ec_f1 r (ec_setI h p k x) p j (ec_fk (ec_shp h p).1 j)) = _
    rw [ec_map_set (k := k) (f := fun j => ec_f1 r h p j (ec_fk (ec_shp h p).1 j)), e]
    · rfl
    · intro j hj
      have e1 : (ec_setI h p k x).2.1 p j = h.2.1 p j := by simp [ec_setI, ec_upI, hj]
      simp only [ec_f1, e1]
      rfl
  refine (ec_ws_set (h := h) (h' := ec_setI h p k x) (p := p) rfl fun q hq => ec_ce_congr rfl ?_ rfl).trans ?_
  · funext j
    simp [ec_setI, ec_upI, hq]
  · rw [ec_ce_ob (h := ec_setI h p k x) (c := c) hk hc, e0]
theorem ec_ob_setL {ty r : Nat → Nat} {h : ec_Hp} {p c k : Nat} {x : Int64} (hk : (ec_shp h p).1 = c) (hc : c < 7) (hf : ec_fk c k = 2) : ec_ws ty r (ec_setL h p k x) = (ec_ws ty r h).set p (r p, .inr (c, (ec_ob r h p).set k (.long x))) := by
  have e0 : ec_ob r (ec_setL h p k x) p = (ec_ob r h p).set k (.long x) := by
    have e : ec_f1 r (ec_setL h p k x) p k (ec_fk (ec_shp h p).1 k) = .long x := by
      rw [hk, hf]
      simp [ec_f1, ec_setL, ec_upL]
    show (List.range (ec_shp h p).2.1).map (fun j => ec_f1 r (ec_setL h p k x) p j (ec_fk (ec_shp h p).1 j)) = _
    rw [ec_map_set (k := k) (f := fun j => ec_f1 r h p j (ec_fk (ec_shp h p).1 j)), e]
    · rfl
    · intro j hj
      have e1 : (ec_setL h p k x).2.2.1 p j = h.2.2.1 p j := by simp [ec_setL, ec_upL, hj]
      simp only [ec_f1, e1]
      rfl
  refine (ec_ws_set (h := h) (h' := ec_setL h p k x) (p := p) rfl fun q hq => ec_ce_congr rfl rfl ?_).trans ?_
  · funext j
    simp [ec_setL, ec_upL, hq]
  · rw [ec_ce_ob (h := ec_setL h p k x) (c := c) hk hc, e0]
theorem ec_shp_setR {h : ec_Hp} {p k q : Nat} {v : Value} (hp : p < h.1.length) : ec_shp (ec_setR h p k v) q = if q = p then ec_upR (ec_shp h p) k v else ec_shp h q := by
  show ec_nth _ (h.1.set p _) q = _
  rw [ec_nth_set hp]
theorem ec_ob_setR {ty r : Nat → Nat} {h : ec_Hp} {p c k x : Nat} (hp : p < h.1.length) (hk : (ec_shp h p).1 = c) (hc : c < 7) (hf : ec_fk c k = 3) : ec_ws ty r (ec_setR h p k (.ref x)) = (ec_ws ty r h).set p (r p, .inr (c, (ec_ob r h p).set k (.ref (r x)))) := by
  have eP : ec_shp (ec_setR h p k (.ref x)) p = ec_upR (ec_shp h p) k (.ref x) := by rw [ec_shp_setR hp, if_pos rfl]
  have e0 : ec_ob r (ec_setR h p k (.ref x)) p = (ec_ob r h p).set k (.ref (r x)) := by
    have e : ec_f1 r (ec_setR h p k (.ref x)) p k (ec_fk (ec_shp h p).1 k) = .ref (r x) := by
      rw [hk, hf]
      show ec_rr r ((ec_shp (ec_setR h p k (.ref x)) p).2.2 k) = _
      rw [eP]
      simp [ec_upR, ec_rr]
    unfold ec_ob
    rw [eP]
    show (List.range (ec_shp h p).2.1).map (fun j => ec_f1 r (ec_setR h p k (.ref x)) p j (ec_fk (ec_shp h p).1 j)) = _
    rw [ec_map_set (k := k) (f := fun j => ec_f1 r h p j (ec_fk (ec_shp h p).1 j)), e]
    intro j hj
    have e1 : (ec_shp (ec_setR h p k (.ref x)) p).2.2 j = (ec_shp h p).2.2 j := by
      rw [eP]
      simp [ec_upR, hj]
    simp only [ec_f1, e1]
    rfl
  refine (ec_ws_set (h := h) (h' := ec_setR h p k (.ref x)) (p := p) (by show (h.1.set p _).length = _; rw [List.length_set]) fun q hq => ec_ce_congr ?_ rfl rfl).trans ?_
  · rw [ec_shp_setR hp, if_neg hq]
  · rw [ec_ce_ob (h := ec_setR h p k (.ref x)) (c := c) (by rw [eP]; exact hk) hc, e0]
theorem ec_ar_setR {ty r : Nat → Nat} {h : ec_Hp} {p k x : Nat} (hp : p < h.1.length) (hk : (ec_shp h p).1 = 20) : ec_ws ty r (ec_setR h p k (.ref x)) = (ec_ws ty r h).set p (r p, .inl (ty 4, (ec_shp h p).2.1, .inr (.inr (.inr (.inr (va_up (fun k => ec_ro r ((ec_shp h p).2.2 k)) k (some (r x)))))))) := by
  have eP : ec_shp (ec_setR h p k (.ref x)) p = ec_upR (ec_shp h p) k (.ref x) := by rw [ec_shp_setR hp, if_pos rfl]
  refine (ec_ws_set (h := h) (h' := ec_setR h p k (.ref x)) (p := p) (by show (h.1.set p _).length = _; rw [List.length_set]) fun q hq => ec_ce_congr ?_ rfl rfl).trans ?_
  · rw [ec_shp_setR hp, if_neg hq]
  · have e : ec_ce ty r (ec_setR h p k (.ref x)) p = .inl (ty 4, (ec_shp h p).2.1, .inr (.inr (.inr (.inr (va_up (fun k => ec_ro r ((ec_shp h p).2.2 k)) k (some (r x))))))) := by
      have e2 : (ec_upR (ec_shp h p) k (.ref x)).1 = 20 := hk
      have e3 : (fun j => ec_ro r ((ec_upR (ec_shp h p) k (.ref x)).2.2 j)) = va_up (fun k => ec_ro r ((ec_shp h p).2.2 k)) k (some (r x)) := by
        funext j
        by_cases hj : j = k
        · simp [ec_upR, va_up, hj, ec_ro]
        · simp [ec_upR, va_up, hj]
      unfold ec_ce
      rw [eP, e3, e2]
      rfl
    rw [e]
/-- an array of ints, booleans or bytes -/
theorem ec_ce_ar {ty r : Nat → Nat} {h : ec_Hp} {p t : Nat} (hk : (ec_shp h p).1 = 16 + t) (ht : t < 3) : ec_ce ty r h p = .inl (ty t, (ec_shp h p).2.1, .inl (h.2.1 p)) := by
  unfold ec_ce
  rw [hk]
  match t, ht with
  | 0, _ => rfl
  | 1, _ => rfl
  | 2, _ => rfl
theorem ec_ce_lo {ty r : Nat → Nat} {h : ec_Hp} {p : Nat} (hk : (ec_shp h p).1 = 19) : ec_ce ty r h p = .inl (ty 3, (ec_shp h p).2.1, .inr (.inl (h.2.2.1 p))) := by
  unfold ec_ce
  rw [hk]
  rfl
theorem ec_ce_re {ty r : Nat → Nat} {h : ec_Hp} {p : Nat} (hk : (ec_shp h p).1 = 20) : ec_ce ty r h p = .inl (ty 4, (ec_shp h p).2.1, .inr (.inr (.inr (.inr (fun k => ec_ro r ((ec_shp h p).2.2 k)))))) := by
  unfold ec_ce
  rw [hk]
  rfl
/-- the row of ints of one cell is another -/
theorem ec_ar_setA {ty r : Nat → Nat} {h : ec_Hp} {p t : Nat} {g : Nat → Int32} (hk : (ec_shp h p).1 = 16 + t) (ht : t < 3) (h' : ec_Hp) (h1 : h'.1 = h.1) (h2 : h'.2.1 = ec_upA h.2.1 p g) (h3 : h'.2.2.1 = h.2.2.1) :
    ec_ws ty r h' = (ec_ws ty r h).set p (r p, .inl (ty t, (ec_shp h p).2.1, .inl g)) := by
  have es : ∀ q, ec_shp h' q = ec_shp h q := fun q => by show ec_nth _ h'.1 q = ec_nth _ h.1 q; rw [h1]
  refine (ec_ws_set (h := h) (h' := h') (p := p) (by rw [h1]) fun q hq => ec_ce_congr (es q) ?_ (by rw [h3])).trans ?_
  · rw [h2]
    funext j
    simp [ec_upA, hq]
  · have e : h'.2.1 p = g := by
      rw [h2]
      funext j
      simp [ec_upA]
    rw [ec_ce_ar (t := t) (by rw [es]; exact hk) ht, es, e]
theorem ec_ar_setI {ty r : Nat → Nat} {h : ec_Hp} {p t k : Nat} {x : Int32} (hk : (ec_shp h p).1 = 16 + t) (ht : t < 3) : ec_ws ty r (ec_setI h p k x) = (ec_ws ty r h).set p (r p, .inl (ty t, (ec_shp h p).2.1, .inl (upd (h.2.1 p) k x))) := by
  refine ec_ar_setA hk ht _ rfl ?_ rfl
  funext q j
  show ec_upI h.2.1 p k x q j = ec_upA h.2.1 p (upd (h.2.1 p) k x) q j
  unfold ec_upI ec_upA upd
  by_cases hq : q = p
  · subst hq
    by_cases hj : j = k <;> simp [hj]
  · simp [hq]
theorem ec_ar_setL {ty r : Nat → Nat} {h : ec_Hp} {p k : Nat} {x : Int64} (hk : (ec_shp h p).1 = 19) : ec_ws ty r (ec_setL h p k x) = (ec_ws ty r h).set p (r p, .inl (ty 3, (ec_shp h p).2.1, .inr (.inl (vp_updL (h.2.2.1 p) k x)))) := by
  refine (ec_ws_set (h := h) (h' := ec_setL h p k x) (p := p) rfl fun q hq => ec_ce_congr rfl rfl ?_).trans ?_
  · funext j
    simp [ec_setL, ec_upL, hq]
  · have e : (ec_setL h p k x).2.2.1 p = vp_updL (h.2.2.1 p) k x := by
      funext j
      show ec_upL h.2.2.1 p k x p j = _
      unfold ec_upL vp_updL
      by_cases hj : j = k <;> simp [hj]
    rw [ec_ce_lo (h := ec_setL h p k x) hk, e]
    rfl
/-- a new cell at the end -/
def ec_nr (r : Nat → Nat) (N q : Nat) : Nat → Nat := fun k => if k = N then q else r k
theorem ec_shp_mk {h : ec_Hp} {kd n p : Nat} : ec_shp (ec_mk h kd n) p = if p = h.1.length then (kd, n, fun _ => .null) else ec_shp h p := by
  show ec_nth _ (h.1 ++ [_]) p = _
  rw [ec_nth_app]
theorem ec_ws_mk {ty r : Nat → Nat} {h : ec_Hp} {kd n q : Nat} (hs : ec_sv h) : ec_ws ty (ec_nr r h.1.length q) (ec_mk h kd n) = ec_ws ty r h ++ [(q, ec_ce ty (ec_nr r h.1.length q) (ec_mk h kd n) h.1.length)] := by
  have hl : (ec_mk h kd n).1.length = h.1.length + 1 := by simp [ec_mk]
  unfold ec_ws
  rw [hl, List.range_succ, List.map_append]
  congr 1
  · refine List.map_congr_left fun p hp => ?_
    have hp : p < h.1.length := List.mem_range.mp hp
    have hne : p ≠ h.1.length := by omega
    have es : ec_shp (ec_mk h kd n) p = ec_shp h p := by rw [ec_shp_mk, if_neg hne]
    have e1 : (ec_mk h kd n).2.1 p = h.2.1 p := by
      funext j
      simp [ec_mk, ec_upA, hne]
    have e3 : (ec_mk h kd n).2.2.1 p = h.2.2.1 p := by
      funext j
      simp [ec_mk, ec_clL, hne]
    have e4 : ∀ k, ec_rr (ec_nr r h.1.length q) ((ec_shp h p).2.2 k) = ec_rr r ((ec_shp h p).2.2 k) := by
      intro k
      cases hv : (ec_shp h p).2.2 k with
      | ref z =>
        have := hs.1 p k z hv
        show Value.ref (ec_nr r h.1.length q z) = .ref (r z)
        unfold ec_nr
        rw [if_neg (Nat.ne_of_lt this)]
      | _ => rfl
    have e5 : ∀ k, ec_ro (ec_nr r h.1.length q) ((ec_shp h p).2.2 k) = ec_ro r ((ec_shp h p).2.2 k) := by
      intro k
      cases hv : (ec_shp h p).2.2 k with
      | ref z =>
        have := hs.1 p k z hv
        show some (ec_nr r h.1.length q z) = some (r z)
        unfold ec_nr
        rw [if_neg (Nat.ne_of_lt this)]
      | _ => rfl
    have e2 : ec_ob (ec_nr r h.1.length q) (ec_mk h kd n) p = ec_ob r h p := by
      unfold ec_ob
      rw [es]
      congr 1
      funext j
      unfold ec_f1
      rw [es, e1, e3, e4]
    have e6 : ec_ce ty (ec_nr r h.1.length q) (ec_mk h kd n) p = ec_ce ty r h p := by
      unfold ec_ce
      rw [es, e1, e2, e3]
      simp only [e5]
    rw [e6]
    congr 1
    unfold ec_nr
    rw [if_neg hne]
  · simp [ec_nr]
theorem ec_sv_setI {h : ec_Hp} {p k : Nat} {x : Int32} (hs : ec_sv h) : ec_sv (ec_setI h p k x) := hs
theorem ec_sv_setL {h : ec_Hp} {p k : Nat} {x : Int64} (hs : ec_sv h) : ec_sv (ec_setL h p k x) := hs
theorem ec_sv_setR {h : ec_Hp} {p k x : Nat} (hs : ec_sv h) (hp : p < h.1.length) (hx : x < h.1.length) : ec_sv (ec_setR h p k (.ref x)) := by
  have hl : (ec_setR h p k (.ref x)).1.length = h.1.length := by show (h.1.set p _).length = _; rw [List.length_set]
  refine ⟨fun q j z hz => ?_, fun q hq => ?_⟩
  · rw [hl]
    rw [ec_shp_setR hp] at hz
    by_cases hqp : q = p
    · rw [if_pos hqp] at hz
      by_cases hj : j = k
      · simp [ec_upR, hj] at hz
        rw [← hz]
        exact hx
      · simp [ec_upR, hj] at hz
        exact hs.1 p j z hz
    · rw [if_neg hqp] at hz
      exact hs.1 q j z hz
  · rw [ec_shp_setR hp] at hq ⊢
    by_cases hqp : q = p
    · rw [if_pos hqp] at hq ⊢
      exact hs.2 p hq
    · rw [if_neg hqp] at hq ⊢
      exact hs.2 q hq
theorem ec_sv_mk {h : ec_Hp} {kd n : Nat} (hs : ec_sv h) (hn : kd < 7 → n = ec_N kd) : ec_sv (ec_mk h kd n) := by
  have hl : (ec_mk h kd n).1.length = h.1.length + 1 := by simp [ec_mk]
  refine ⟨fun q j z hz => ?_, fun q hq => ?_⟩
  · rw [hl]
    rw [ec_shp_mk] at hz
    by_cases hqp : q = h.1.length
    · rw [if_pos hqp] at hz; cases hz
    · rw [if_neg hqp] at hz
      exact Nat.lt_succ_of_lt (hs.1 q j z hz)
  · rw [ec_shp_mk] at hq ⊢
    by_cases hqp : q = h.1.length
    · rw [if_pos hqp] at hq ⊢
      exact hn hq
    · rw [if_neg hqp] at hq ⊢
      exact hs.2 q hq
