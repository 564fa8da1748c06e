/-! A NUMBER AGAINST ITSELF -/
section OK
variable {d mi pc pc1 pc2 : Nat} {ls st : List AV} {g : AG} {M : AM} {Q : AO → AG → AM → Prop}
theorem ok_ceqs {off x : Int} (hi : am_ins mi pc = some (.if_icmp .eq off)) (hp : (pc : Int) + off = (pc1 : Nat)) (hp2 : pc + 3 = pc2) (k1 : Ok d mi pc1 ls st g M Q) : Ok d mi pc ls (aI x :: aI x :: st) g M Q := ok_icmp hi hp hp2 (fun _ => k1) (fun h => absurd rfl (of_decide_eq_false h))
theorem ok_cnes {off x : Int} (hi : am_ins mi pc = some (.if_icmp .ne off)) (hp : (pc : Int) + off = (pc1 : Nat)) (hp2 : pc + 3 = pc2) (k2 : Ok d mi pc2 ls st g M Q) : Ok d mi pc ls (aI x :: aI x :: st) g M Q := ok_icmp hi hp hp2 (fun h => absurd rfl (of_decide_eq_true h)) (fun _ => k2)
end OK
