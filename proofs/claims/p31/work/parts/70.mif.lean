theorem ed_ML.c {h h' : ec_Hp} {σ : ec_Sg} {n : Int} {p : Int → ec_Sg} {L : Int} {T : Int → Int} (M : ed_ML h σ n p L T) (a : ec_fg ed_80 h h') : ed_ML h' σ n p L T := M.x a (by decide) (by decide) (fun _ => (by decide : ¬ (73 : Nat) = 80)) (fun _ => (by decide : ¬ (74 : Nat) = 80)) (fun _ => (by decide : ¬ (77 : Nat) = 80))
section EDE
variable {h : ec_Hp} {σ : ec_Sg} {n : Int} {p : Int → ec_Sg} {L : Int} {T : Int → Int}
end EDE
