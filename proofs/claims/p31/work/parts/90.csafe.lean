section EDO
variable {σ : ec_Sg} {n : Int} {p : Int → ec_Sg} {L : Int} {T : Int → Int}
abbrev ed_Ft : Nat → Nat → Prop := fun q _ => 11 ≤ q ∧ q ≤ 20 ∨ 66 ≤ q ∧ q ≤ 69
/-- the trial is scratch -/
theorem ed_CL.t {h h' : ec_Hp} (C : ed_CL h σ n p L T) (f2 : ec_fg ed_Ft h h') (b3 : ec_DN h' 11) (b4 : ed_TN h' 66) (b5 : ed_SL h' 67) : ed_CL h' σ n p L T := by
  obtain ⟨c1, ⟨c2, c2b, c2c⟩, c3, c4, c5, c6, c7⟩ := C
  exact ⟨c1.of f2.1.1, ⟨c2.fg f2 (fun q j x y z => by omega), c2b.fg f2 (fun q j x y z => by omega), c2c⟩, b3, c4.fg f2 (fun q j x y z => by omega), c5.fg f2 (fun q j x y z => by omega), ⟨b4, b5⟩, c7.fg f2 (fun z => by omega) (fun j z => by omega)⟩
variable {h : ec_Hp}
end EDO
