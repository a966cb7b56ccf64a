/-! equations, an instruction each: by program -/
theorem e_L_law_2298 {d : Nat} {L : List Value} {M : Mem} {x : Int32} : R d iL_law 2298 L [.int x] M = if x = 0 ∨ x = 1 then some (some (.int x), M) else none := R_zret (insOf (x := (.ireturn, 1)) b_L_law (by decide +kernel)) k_L_law
