def sxI0 : sxI := (39, (2, 40), ([(.ofNat 0, .ofNat 0), (.negSucc 2147483647, .ofNat 2147483647)], [0], 0, [], [], [], []), [(2, 0, .ofNat 0), (0, 1, .ofNat 0)], [], [(([], [], 0, [], [], [], []), some (0, 0, .ofNat 0)), (([], [], 0, [([(1, .ofNat 1)], .ofNat 0), ([(1, .negSucc 0)], .ofNat 6)], [], [], []), some (0, 0, .ofNat 1))])
def sxhI0 : sxH := (sxk_X11_isLodger, sxgX11, sxpX11, sxcX11, (sxkiX11, sxklX11, sxksX11), (2, sxI0.2.2.2.2.1, sxI0.2.2.2.2.2, 1), (2, 1, 0), (2, 40))
def sxjI0 : List sxJ := [((23, 11, 0), ([], [], []), (sxE0, [], [], ([], .ofNat 0))),
  ((23, 11, 0), ([], [], []), (sxE0, [], [], ([], .ofNat 0))),
  ((23, 11, 1), ([], [], []), (sxE0, [], [], ([], .ofNat 0)))]
theorem sxvI0 : (sx_exec sxRT [] [] sxhI0 68 0 sxI0.2.2.1 (sx_argl 0 sxI0.2.2.2.1) [] [] sxjI0).isSome = true := by decide +kernel
theorem sxmI0 {PF : Nat → List Int → List (Nat → Int) → Prop} {l : Launch} : sx_met PF sxRT sxMy sxMc sxML sxMr sxTK l sxI0 := by
  obtain ⟨its2, hk⟩ := Option.isSome_iff_exists.mp sxvI0
  exact sx_met_of (h := sxhI0) sxTK_ok (sxTK2 sxksX11_ok) sxt_X11_isLodger sxFW_ok sx_nil (fun L h => by cases h) rfl (by decide +kernel) (by decide) rfl ⟨rfl, rfl, rfl, rfl⟩ hk
def sxI1 : sxI := (40, (2, 40), ([(.ofNat 0, .ofNat 0), (.negSucc 2147483647, .ofNat 2147483647), (.negSucc 2147483647, .ofNat 2147483647), (.negSucc 2147483647, .ofNat 2147483647)], [], 0, [], [], [], []), [(0, 1, .ofNat 0), (0, 2, .ofNat 0), (0, 3, .ofNat 0)], [], [(([], [], 0, [], [], [], []), some (0, 0, .ofNat 0)), (([], [], 0, [([(1, .ofNat 1), (2, .negSucc 0)], .ofNat 0), ([(3, .ofNat 1), (1, .negSucc 0)], .ofNat 0), ([(3, .ofNat 1), (2, .negSucc 0)], .ofNat 0)], [], [], []), some (0, 0, .ofNat 1))])
def sxhI1 : sxH := (sxk_X11_isWithin, sxgX11, sxpX11, sxcX11, (sxkiX11, sxklX11, sxksX11), (3, sxI1.2.2.2.2.1, sxI1.2.2.2.2.2, 1), (4, 0, 0), (2, 40))
def sxjI1 : List sxJ := [((15, 11, 0), ([], [], []), (sxE0, [], [], ([], .ofNat 0))),
  ((15, 11, 0), ([], [], []), (sxE0, [], [], ([], .ofNat 0))),
  ((15, 11, 1), ([], [], []), (sxE0, [], [], ([], .ofNat 0)))]
theorem sxvI1 : (sx_exec sxRT [] [] sxhI1 66 0 sxI1.2.2.1 (sx_argl 0 sxI1.2.2.2.1) [] [] sxjI1).isSome = true := by decide +kernel
theorem sxmI1 {PF : Nat → List Int → List (Nat → Int) → Prop} {l : Launch} : sx_met PF sxRT sxMy sxMc sxML sxMr sxTK l sxI1 := by
  obtain ⟨its2, hk⟩ := Option.isSome_iff_exists.mp sxvI1
  exact sx_met_of (h := sxhI1) sxTK_ok (sxTK2 sxksX11_ok) sxt_X11_isWithin sxFW_ok sx_nil (fun L h => by cases h) rfl (by decide +kernel) (by decide) rfl ⟨rfl, rfl, rfl, rfl⟩ hk
def sxI2 : sxI := (208, (2, 40), ([(.ofNat 0, .ofNat 0)], [26, 26], 0, [], [], [], []), [(2, 0, .ofNat 0), (2, 1, .ofNat 0)], [(26, 4, 5), (27, 0, 7), (28, 0, 7), (29, 0, 7), (30, 0, 7)], [(([], [], 0, [], [], [], []), none)])
def sxhI2 : sxH := (sxk_X5_copyFrom, sxgX5, sxpX5, sxcX5, (sxkiX5, sxklX5, sxksX5), (2, sxI2.2.2.2.2.1, sxI2.2.2.2.2.2, 4), (1, 2, 0), (2, 40))
def sxjI2 : List sxJ := [((68, 11, 0), ([], [], []), (sxE0, [], [], ([], .ofNat 0)))]
theorem sxvI2 : (sx_exec sxRT [] [] sxhI2 88 0 sxI2.2.2.1 (sx_argl 0 sxI2.2.2.2.1) [] [] sxjI2).isSome = true := by decide +kernel
theorem sxmI2 {PF : Nat → List Int → List (Nat → Int) → Prop} {l : Launch} : sx_met PF sxRT sxMy sxMc sxML sxMr sxTK l sxI2 := by
  obtain ⟨its2, hk⟩ := Option.isSome_iff_exists.mp sxvI2
  exact sx_met_of (h := sxhI2) sxTK_ok (sxTK2 sxksX5_ok) sxt_X5_copyFrom sxFW_ok sx_nil (fun L h => by cases h) rfl (by decide +kernel) (by decide) rfl ⟨rfl, rfl, rfl, rfl⟩ hk
def sxI3 : sxI := (56, (2, 40), ([(.ofNat 0, .ofNat 0), (.negSucc 2147483647, .ofNat 2147483647)], [0], 0, [], [], [], []), [(2, 0, .ofNat 0), (0, 1, .ofNat 0)], [], [(([], [], 0, [], [], [], []), some (3, 0, .ofNat 0)), (([], [8], 0, [([(1, .ofNat 1)], .ofNat 0), ([(1, .negSucc 0)], .ofNat 5)], [], [], []), some (2, 1, .ofNat 0))])
def sxhI3 : sxH := (sxk_X11_ruleOf, sxgX11, sxpX11, sxcX11, (sxkiX11, sxklX11, sxksX11), (2, sxI3.2.2.2.2.1, sxI3.2.2.2.2.2, 3), (2, 1, 0), (2, 40))
def sxjI3 : List sxJ := [((22, 11, 0), ([], [], []), (sxE0, [], [], ([], .ofNat 0))),
  ((22, 11, 0), ([], [], []), (sxE0, [], [], ([], .ofNat 0))),
  ((22, 11, 0), ([], [], []), (sxE0, [], [], ([], .ofNat 0))),
  ((22, 11, 1), ([], [2], []), (sxE0, [], [], ([], .ofNat 0)))]
theorem sxvI3 : (sx_exec sxRT [] [] sxhI3 72 0 sxI3.2.2.1 (sx_argl 0 sxI3.2.2.2.1) [] [] sxjI3).isSome = true := by decide +kernel
theorem sxmI3 {PF : Nat → List Int → List (Nat → Int) → Prop} {l : Launch} : sx_met PF sxRT sxMy sxMc sxML sxMr sxTK l sxI3 := by
  obtain ⟨its2, hk⟩ := Option.isSome_iff_exists.mp sxvI3
  exact sx_met_of (h := sxhI3) sxTK_ok (sxTK2 sxksX11_ok) sxt_X11_ruleOf sxFW_ok sx_nil (fun L h => by cases h) rfl (by decide +kernel) (by decide) (Or.inl ⟨_, rfl⟩) ⟨rfl, rfl, rfl, rfl⟩ hk
def sxI4 : sxI := (206, (2, 40), ([(.ofNat 0, .ofNat 0), (.ofNat 0, .ofNat 6), (.ofNat 0, .ofNat 6)], [26], 0, [], [], [], []), [(2, 0, .ofNat 0), (0, 1, .ofNat 0), (0, 2, .ofNat 0)], [(27, 0, 7)], [(([], [], 0, [], [], [], []), none)])
def sxhI4 : sxH := (sxk_X5_change, sxgX5, sxpX5, sxcX5, (sxkiX5, sxklX5, sxksX5), (4, sxI4.2.2.2.2.1, sxI4.2.2.2.2.2, 4), (3, 1, 0), (2, 40))
def sxjI4 : List sxJ := [((26, 11, 0), ([], [], []), (sxE0, [], [], ([], .ofNat 0)))]
theorem sxvI4 : (sx_exec sxRT [] [] sxhI4 70 0 sxI4.2.2.1 (sx_argl 0 sxI4.2.2.2.1) [] [] sxjI4).isSome = true := by decide +kernel
theorem sxmI4 {PF : Nat → List Int → List (Nat → Int) → Prop} {l : Launch} : sx_met PF sxRT sxMy sxMc sxML sxMr sxTK l sxI4 := by
  obtain ⟨its2, hk⟩ := Option.isSome_iff_exists.mp sxvI4
  exact sx_met_of (h := sxhI4) sxTK_ok (sxTK2 sxksX5_ok) sxt_X5_change sxFW_ok sx_nil (fun L h => by cases h) rfl (by decide +kernel) (by decide) rfl ⟨rfl, rfl, rfl, rfl⟩ hk
def sxI5 : sxI := (201, (3, 63), ([(.ofNat 0, .ofNat 0), (.negSucc 2147483647, .ofNat 2147483647)], [20, 26], 0, [], [], [], []), [(2, 0, .ofNat 0), (2, 1, .ofNat 0), (0, 1, .ofNat 0)], [(27, 0, 7)], [(([], [], 0, [], [], [], []), none)])
def sxhI5 : sxH := (sxk_X4_mixUp, sxgX4, sxpX4, sxcX4, (sxkiX4, sxklX4, sxksX4), (6, sxI5.2.2.2.2.1, sxI5.2.2.2.2.2, 4), (2, 2, 0), (3, 63))
def sxjI5 : List sxJ := [((2, 0, 0), ([(0, .ofNat 0)], [], []), (([(.ofNat 0, .ofNat 8)], [], 0, [], [], [], []), [(3, (0, 2, .ofNat 0)), (0, (2, 0, .ofNat 0)), (1, (2, 1, .ofNat 0)), (2, (0, 1, .ofNat 0))], [], ([(2, .negSucc 0)], .ofNat 8))),
  ((65, 11, 0), ([], [], []), (sxE0, [], [], ([], .ofNat 0))),
  ((2, 2, 0), ([(2, .ofNat 1)], [], []), (sxE0, [], [], ([], .ofNat 0))),
  ((2, 2, 0), ([(2, .ofNat 1)], [], []), (sxE0, [], [], ([], .ofNat 0))),
  ((2, 2, 0), ([(2, .ofNat 1)], [], []), (sxE0, [], [], ([], .ofNat 0))),
  ((56, 10, 0), ([(0, .ofNat 0), (4, .ofNat 0), (5, .ofNat 0)], [1], []), (sxE0, [], [], ([], .ofNat 0))),
  ((2, 2, 0), ([(2, .ofNat 1)], [], []), (sxE0, [], [], ([], .ofNat 0)))]
theorem sxvI5 : (sx_exec sxRT [sxI4] [] sxhI5 159 0 sxI5.2.2.1 (sx_argl 0 sxI5.2.2.2.1) [] [] sxjI5).isSome = true := by decide +kernel
theorem sxmI5 {PF : Nat → List Int → List (Nat → Int) → Prop} {l : Launch} : sx_met PF sxRT sxMy sxMc sxML sxMr sxTK l sxI5 := by
  obtain ⟨its2, hk⟩ := Option.isSome_iff_exists.mp sxvI5
  exact sx_met_of (h := sxhI5) sxTK_ok (sxTK2 sxksX4_ok) sxt_X4_mixUp sxFW_ok (sx_cons (sxmI4) sx_nil) (fun L h => by cases h) rfl (by decide +kernel) (by decide) rfl ⟨rfl, rfl, rfl, rfl⟩ hk
def sxI6 : sxI := (211, (2, 40), ([(.ofNat 0, .ofNat 0), (.ofNat 0, .ofNat 0)], [26, 20], 0, [], [], [], []), [(2, 0, .ofNat 0), (2, 1, .ofNat 0), (0, 1, .ofNat 0)], [], [(([], [], 0, [], [], [], []), some (0, 0, .ofNat 0)), (([], [], 0, [], [], [], []), some (0, 0, .ofNat 1))])
def sxhI6 : sxH := (sxk_X5_isLet, sxgX5, sxpX5, sxcX5, (sxkiX5, sxklX5, sxksX5), (3, sxI6.2.2.2.2.1, sxI6.2.2.2.2.2, 1), (2, 2, 0), (2, 40))
def sxjI6 : List sxJ := [((25, 11, 0), ([], [], []), (sxE0, [], [], ([], .ofNat 0))),
  ((25, 11, 1), ([], [], []), (sxE0, [], [], ([], .ofNat 0)))]
theorem sxvI6 : (sx_exec sxRT [] [] sxhI6 69 0 sxI6.2.2.1 (sx_argl 0 sxI6.2.2.2.1) [] [] sxjI6).isSome = true := by decide +kernel
theorem sxmI6 {PF : Nat → List Int → List (Nat → Int) → Prop} {l : Launch} : sx_met PF sxRT sxMy sxMc sxML sxMr sxTK l sxI6 := by
  obtain ⟨its2, hk⟩ := Option.isSome_iff_exists.mp sxvI6
  exact sx_met_of (h := sxhI6) sxTK_ok (sxTK2 sxksX5_ok) sxt_X5_isLet sxFW_ok sx_nil (fun L h => by cases h) rfl (by decide +kernel) (by decide) rfl ⟨rfl, rfl, rfl, rfl⟩ hk
def sxI7 : sxI := (211, (2, 40), ([(.ofNat 0, .ofNat 0), (.ofNat 0, .ofNat 1)], [26, 20], 0, [], [], [], []), [(2, 0, .ofNat 0), (2, 1, .ofNat 0), (0, 1, .ofNat 0)], [], [(([], [], 0, [], [], [], []), some (0, 0, .ofNat 0)), (([], [], 0, [], [], [], []), some (0, 0, .ofNat 1))])
def sxhI7 : sxH := (sxk_X5_isLet, sxgX5, sxpX5, sxcX5, (sxkiX5, sxklX5, sxksX5), (3, sxI7.2.2.2.2.1, sxI7.2.2.2.2.2, 1), (2, 2, 0), (2, 40))
def sxjI7 : List sxJ := [((25, 11, 0), ([], [], []), (sxE0, [], [], ([], .ofNat 0))),
  ((25, 11, 1), ([], [], []), (sxE0, [], [], ([], .ofNat 0)))]
theorem sxvI7 : (sx_exec sxRT [] [] sxhI7 69 0 sxI7.2.2.1 (sx_argl 0 sxI7.2.2.2.1) [] [] sxjI7).isSome = true := by decide +kernel
theorem sxmI7 {PF : Nat → List Int → List (Nat → Int) → Prop} {l : Launch} : sx_met PF sxRT sxMy sxMc sxML sxMr sxTK l sxI7 := by
  obtain ⟨its2, hk⟩ := Option.isSome_iff_exists.mp sxvI7
  exact sx_met_of (h := sxhI7) sxTK_ok (sxTK2 sxksX5_ok) sxt_X5_isLet sxFW_ok sx_nil (fun L h => by cases h) rfl (by decide +kernel) (by decide) rfl ⟨rfl, rfl, rfl, rfl⟩ hk
def sxI8 : sxI := (211, (2, 40), ([(.ofNat 0, .ofNat 0), (.ofNat 0, .ofNat 6)], [26, 20], 0, [], [], [], []), [(2, 0, .ofNat 0), (2, 1, .ofNat 0), (0, 1, .ofNat 0)], [], [(([], [], 0, [], [], [], []), some (0, 0, .ofNat 0)), (([], [], 0, [], [], [], []), some (0, 0, .ofNat 1))])
def sxhI8 : sxH := (sxk_X5_isLet, sxgX5, sxpX5, sxcX5, (sxkiX5, sxklX5, sxksX5), (3, sxI8.2.2.2.2.1, sxI8.2.2.2.2.2, 1), (2, 2, 0), (2, 40))
def sxjI8 : List sxJ := [((25, 11, 0), ([], [], []), (sxE0, [], [], ([], .ofNat 0))),
  ((25, 11, 1), ([], [], []), (sxE0, [], [], ([], .ofNat 0)))]
theorem sxvI8 : (sx_exec sxRT [] [] sxhI8 69 0 sxI8.2.2.1 (sx_argl 0 sxI8.2.2.2.1) [] [] sxjI8).isSome = true := by decide +kernel
theorem sxmI8 {PF : Nat → List Int → List (Nat → Int) → Prop} {l : Launch} : sx_met PF sxRT sxMy sxMc sxML sxMr sxTK l sxI8 := by
  obtain ⟨its2, hk⟩ := Option.isSome_iff_exists.mp sxvI8
  exact sx_met_of (h := sxhI8) sxTK_ok (sxTK2 sxksX5_ok) sxt_X5_isLet sxFW_ok sx_nil (fun L h => by cases h) rfl (by decide +kernel) (by decide) rfl ⟨rfl, rfl, rfl, rfl⟩ hk
def sxI9 : sxI := (212, (3, 62), ([(.ofNat 0, .ofNat 0)], [26, 20], 0, [], [], [], []), [(2, 0, .ofNat 0), (2, 1, .ofNat 0)], [], [(([(.ofNat 0, .ofNat 127)], [], 0, [], [], [], []), some (0, 1, .ofNat 0))])
def sxhI9 : sxH := (sxk_X5_letBits, sxgX5, sxpX5, sxcX5, (sxkiX5, sxklX5, sxksX5), (4, sxI9.2.2.2.2.1, sxI9.2.2.2.2.2, 0), (1, 2, 0), (3, 62))
def sxjI9 : List sxJ := [((4, 0, 0), ([(0, .ofNat 0), (0, .ofNat 0)], [], []), (([(.ofNat 0, .ofNat 7), (.ofNat 0, .ofNat 127)], [], 0, [], [], [], []), [(3, (0, 1, .ofNat 0)), (2, (0, 2, .ofNat 0)), (0, (2, 0, .ofNat 0)), (1, (2, 1, .ofNat 0))], [], ([(1, .negSucc 0)], .ofNat 7))),
  ((34, 11, 0), ([(2, .ofNat 0)], [], []), (sxE0, [], [], ([], .ofNat 0))),
  ((15, 10, 2), ([(0, .ofNat 0), (1, .ofNat 0)], [0, 1], []), (sxE0, [], [], ([], .ofNat 0))),
  ((4, 2, 0), ([(1, .ofNat 1), (2, .ofNat 0)], [], []), (sxE0, [], [], ([], .ofNat 0))),
  ((4, 2, 0), ([(1, .ofNat 1), (5, .ofNat 0)], [], []), (sxE0, [], [], ([], .ofNat 0)))]
theorem sxvI9 : (sx_exec sxRT [sxI6, sxI7, sxI8] [] sxhI9 108 0 sxI9.2.2.1 (sx_argl 0 sxI9.2.2.2.1) [] [] sxjI9).isSome = true := by decide +kernel
theorem sxmI9 {PF : Nat → List Int → List (Nat → Int) → Prop} {l : Launch} : sx_met PF sxRT sxMy sxMc sxML sxMr sxTK l sxI9 := by
  obtain ⟨its2, hk⟩ := Option.isSome_iff_exists.mp sxvI9
  exact sx_met_of (h := sxhI9) sxTK_ok (sxTK2 sxksX5_ok) sxt_X5_letBits sxFW_ok (sx_cons (sxmI6) (sx_cons (sxmI7) (sx_cons (sxmI8) sx_nil))) (fun L h => by cases h) rfl (by decide +kernel) (by decide) rfl ⟨rfl, rfl, rfl, rfl⟩ hk
def sxI10 : sxI := (209, (2, 40), ([(.ofNat 0, .ofNat 0), (.negSucc 2147483647, .ofNat 2147483647)], [26, 20], 0, [], [], [], []), [(2, 0, .ofNat 0), (2, 1, .ofNat 0), (0, 1, .ofNat 0)], [(26, 4, 5), (28, 0, 7), (29, 0, 7), (30, 0, 7)], [(([], [], 0, [], [], [], []), none)])
def sxhI10 : sxH := (sxk_X5_endWeek, sxgX5, sxpX5, sxcX5, (sxkiX5, sxklX5, sxksX5), (4, sxI10.2.2.2.2.1, sxI10.2.2.2.2.2, 4), (2, 2, 0), (2, 40))
def sxjI10 : List sxJ := [((2, 0, 0), ([(0, .ofNat 0)], [], []), (([(.ofNat 0, .ofNat 7)], [], 0, [], [], [], []), [(3, (0, 2, .ofNat 0)), (0, (2, 0, .ofNat 0)), (1, (2, 1, .ofNat 0)), (2, (0, 1, .ofNat 0))], [], ([(2, .negSucc 0)], .ofNat 7))),
  ((77, 8, 0), ([], [], []), (sxE0, [], [], ([], .ofNat 0))),
  ((80, 11, 0), ([], [], []), (sxE0, [], [], ([], .ofNat 0))),
  ((33, 8, 0), ([], [], []), (sxE0, [], [], ([], .ofNat 0))),
  ((2, 2, 0), ([(2, .ofNat 1)], [], []), (sxE0, [], [], ([], .ofNat 0))),
  ((2, 2, 0), ([(2, .ofNat 1)], [], []), (sxE0, [], [], ([], .ofNat 0)))]
theorem sxvI10 : (sx_exec sxRT [] [] sxhI10 172 0 sxI10.2.2.1 (sx_argl 0 sxI10.2.2.2.1) [] [] sxjI10).isSome = true := by decide +kernel
theorem sxmI10 {PF : Nat → List Int → List (Nat → Int) → Prop} {l : Launch} : sx_met PF sxRT sxMy sxMc sxML sxMr sxTK l sxI10 := by
  obtain ⟨its2, hk⟩ := Option.isSome_iff_exists.mp sxvI10
  exact sx_met_of (h := sxhI10) sxTK_ok (sxTK2 sxksX5_ok) sxt_X5_endWeek sxFW_ok sx_nil (fun L h => by cases h) rfl (by decide +kernel) (by decide) rfl ⟨rfl, rfl, rfl, rfl⟩ hk
def sxI11 : sxI := (202, (4, 88), ([(.ofNat 0, .ofNat 0), (.negSucc 2147483647, .ofNat 2147483647)], [33, 20, 26], 0, [], [], [], []), [(2, 0, .ofNat 0), (2, 1, .ofNat 0), (2, 2, .ofNat 0), (3, 0, .ofNat 0), (0, 1, .ofNat 0)], [(26, 4, 5), (27, 0, 7), (28, 0, 7), (29, 0, 7), (30, 0, 7)], [(([(.ofNat 0, .ofNat 127)], [], 0, [], [], [], []), some (0, 2, .ofNat 0))])
def sxhI11 : sxH := (sxk_X4_passWeek, sxgX4, sxpX4, sxcX4, (sxkiX4, sxklX4, sxksX4), (6, sxI11.2.2.2.2.1, sxI11.2.2.2.2.2, 0), (2, 3, 0), (4, 88))
def sxjI11 : List sxJ := [((4, 10, 0), ([(0, .ofNat 0), (1, .ofNat 0)], [1, 2], []), (sxE0, [], [], ([], .ofNat 0))),
  ((22, 10, 1), ([(0, .ofNat 0)], [2, 1], []), (sxE0, [], [], ([], .ofNat 0))),
  ((31, 10, 2), ([(0, .ofNat 0), (2, .ofNat 0)], [2, 1], []), (sxE0, [], [], ([], .ofNat 0))),
  ((36, 11, 0), ([(2, .ofNat 0)], [], []), (sxE0, [], [], ([], .ofNat 0)))]
theorem sxvI11 : (sx_exec sxRT [sxI5, sxI9, sxI10] [] sxhI11 70 0 sxI11.2.2.1 (sx_argl 0 sxI11.2.2.2.1) [] [] sxjI11).isSome = true := by decide +kernel
theorem sxmI11 {PF : Nat → List Int → List (Nat → Int) → Prop} {l : Launch} : sx_met PF sxRT sxMy sxMc sxML sxMr sxTK l sxI11 := by
  obtain ⟨its2, hk⟩ := Option.isSome_iff_exists.mp sxvI11
  exact sx_met_of (h := sxhI11) sxTK_ok (sxTK2 sxksX4_ok) sxt_X4_passWeek sxFW_ok (sx_cons (sxmI5) (sx_cons (sxmI9) (sx_cons (sxmI10) sx_nil))) (fun L h => by cases h) rfl (by decide +kernel) (by decide) rfl ⟨rfl, rfl, rfl, rfl⟩ hk
def sxI12 : sxI := (210, (2, 40), ([(.ofNat 0, .ofNat 0), (.ofNat 0, .ofNat 7)], [26], 0, [], [], [], []), [(2, 0, .ofNat 0), (0, 1, .ofNat 0)], [], [(([(.ofNat 0, .ofNat 127)], [], 0, [], [], [], []), some (0, 2, .ofNat 0))])
def sxhI12 : sxH := (sxk_X5_homeBits, sxgX5, sxpX5, sxcX5, (sxkiX5, sxklX5, sxksX5), (4, sxI12.2.2.2.2.1, sxI12.2.2.2.2.2, 0), (2, 1, 0), (2, 40))
def sxjI12 : List sxJ := [((4, 0, 0), ([(0, .ofNat 0), (0, .ofNat 0)], [], []), (([(.ofNat 0, .ofNat 7), (.ofNat 0, .ofNat 127)], [], 0, [], [], [], []), [(3, (0, 2, .ofNat 0)), (2, (0, 3, .ofNat 0)), (0, (2, 0, .ofNat 0)), (1, (0, 1, .ofNat 0))], [], ([(2, .negSucc 0)], .ofNat 7))),
  ((32, 11, 0), ([(3, .ofNat 0)], [], []), (sxE0, [], [], ([], .ofNat 0))),
  ((4, 2, 0), ([(2, .ofNat 1), (3, .ofNat 0)], [], []), (sxE0, [], [], ([], .ofNat 0))),
  ((4, 2, 0), ([(2, .ofNat 1), (6, .ofNat 0)], [], []), (sxE0, [], [], ([], .ofNat 0)))]
theorem sxvI12 : (sx_exec sxRT [] [] sxhI12 102 0 sxI12.2.2.1 (sx_argl 0 sxI12.2.2.2.1) [] [] sxjI12).isSome = true := by decide +kernel
theorem sxmI12 {PF : Nat → List Int → List (Nat → Int) → Prop} {l : Launch} : sx_met PF sxRT sxMy sxMc sxML sxMr sxTK l sxI12 := by
  obtain ⟨its2, hk⟩ := Option.isSome_iff_exists.mp sxvI12
  exact sx_met_of (h := sxhI12) sxTK_ok (sxTK2 sxksX5_ok) sxt_X5_homeBits sxFW_ok sx_nil (fun L h => by cases h) rfl (by decide +kernel) (by decide) rfl ⟨rfl, rfl, rfl, rfl⟩ hk
def sxI13 : sxI := (2, (3, 120), ([(.ofNat 0, .ofNat 0), (.ofNat 0, .ofNat 127)], [], 0, [], [], [], []), [(0, 1, .ofNat 0)], [], [(([(.ofNat 0, .ofNat 7)], [], 0, [], [], [], []), some (0, 2, .ofNat 0))])
theorem sxmI13 {PF : Nat → List Int → List (Nat → Int) → Prop} {l : Launch} : sx_met PF sxRT sxMy sxMc sxML sxMr sxTK l sxI13 := sx_hbit h_bit7
def sxI14 : sxI := (203, (2, 40), ([(.ofNat 0, .ofNat 0), (.ofNat 0, .ofNat 0), (.ofNat 1, .ofNat 1)], [33, 20, 26], 0, [], [], [], []), [(2, 0, .ofNat 0), (2, 1, .ofNat 0), (2, 2, .ofNat 0), (0, 1, .ofNat 0), (0, 2, .ofNat 0)], [(34, 0, 8), (34, 10, 11)], [(([], [], 0, [], [], [], []), none)])
def sxhI14 : sxH := (sxk_X4_setWords, sxgX4, sxpX4, sxcX4, (sxkiX4, sxklX4, sxksX4), (5, sxI14.2.2.2.2.1, sxI14.2.2.2.2.2, 4), (3, 3, 0), (2, 40))
def sxjI14 : List sxJ := [((134, 11, 0), ([], [], []), (sxE0, [], [], ([], .ofNat 0)))]
theorem sxvI14 : (sx_exec sxRT [] [] sxhI14 139 0 sxI14.2.2.1 (sx_argl 0 sxI14.2.2.2.1) [] [] sxjI14).isSome = true := by decide +kernel
theorem sxmI14 {PF : Nat → List Int → List (Nat → Int) → Prop} {l : Launch} : sx_met PF sxRT sxMy sxMc sxML sxMr sxTK l sxI14 := by
  obtain ⟨its2, hk⟩ := Option.isSome_iff_exists.mp sxvI14
  exact sx_met_of (h := sxhI14) sxTK_ok (sxTK2 sxksX4_ok) sxt_X4_setWords sxFW_ok sx_nil (fun L h => by cases h) rfl (by decide +kernel) (by decide) rfl ⟨rfl, rfl, rfl, rfl⟩ hk
def sxI15 : sxI := (225, (2, 40), ([(.ofNat 0, .ofNat 0), (.negSucc 2147483647, .ofNat 2147483647), (.negSucc 9223372036854775807, .ofNat 9223372036854775807), (.negSucc 9223372036854775807, .ofNat 9223372036854775807)], [], 0, [], [], [], []), [(0, 1, .ofNat 0), (1, 2, .ofNat 0), (1, 3, .ofNat 0)], [], [(([(.negSucc 9223372036854775807, .ofNat 9223372036854775807)], [], 0, [], [], [], []), some (1, 4, .ofNat 0))])
def sxhI15 : sxH := (sxk_X8_joined, sxgX8, sxpX8, sxcX8, (sxkiX8, sxklX8, sxksX8), (5, sxI15.2.2.2.2.1, sxI15.2.2.2.2.2, 2), (4, 0, 0), (2, 40))
def sxjI15 : List sxJ := [((171, 11, 0), ([(4, .ofNat 0)], [], []), (sxE0, [], [], ([], .ofNat 0))),
  ((171, 11, 0), ([(4, .ofNat 0)], [], []), (sxE0, [], [], ([], .ofNat 0))),
  ((67, 11, 0), ([(4, .ofNat 0)], [], []), (sxE0, [], [], ([], .ofNat 0))),
  ((71, 11, 0), ([(4, .ofNat 0)], [], []), (sxE0, [], [], ([], .ofNat 0))),
  ((75, 11, 0), ([(4, .ofNat 0)], [], []), (sxE0, [], [], ([], .ofNat 0))),
  ((89, 11, 0), ([(5, .ofNat 0)], [], []), (sxE0, [], [], ([], .ofNat 0))),
  ((89, 11, 0), ([(0, .ofNat 0)], [], []), (sxE0, [], [], ([], .ofNat 0))),
  ((103, 11, 0), ([(5, .ofNat 0)], [], []), (sxE0, [], [], ([], .ofNat 0))),
  ((103, 11, 0), ([(0, .ofNat 0)], [], []), (sxE0, [], [], ([], .ofNat 0))),
  ((115, 11, 0), ([(0, .ofNat 0)], [], []), (sxE0, [], [], ([], .ofNat 0))),
  ((115, 11, 0), ([(0, .ofNat 1)], [], []), (sxE0, [], [], ([], .ofNat 0))),
  ((127, 11, 0), ([(0, .ofNat 0)], [], []), (sxE0, [], [], ([], .ofNat 0))),
  ((127, 11, 0), ([(0, .ofNat 1)], [], []), (sxE0, [], [], ([], .ofNat 0))),
  ((139, 11, 0), ([(0, .ofNat 0)], [], []), (sxE0, [], [], ([], .ofNat 0))),
  ((139, 11, 0), ([(0, .ofNat 1)], [], []), (sxE0, [], [], ([], .ofNat 0))),
  ((151, 11, 0), ([(0, .ofNat 0)], [], []), (sxE0, [], [], ([], .ofNat 0))),
  ((151, 11, 0), ([(0, .ofNat 1)], [], []), (sxE0, [], [], ([], .ofNat 0))),
  ((163, 11, 0), ([(0, .ofNat 0)], [], []), (sxE0, [], [], ([], .ofNat 0))),
  ((163, 11, 0), ([(0, .ofNat 1)], [], []), (sxE0, [], [], ([], .ofNat 0))),
  ((171, 11, 0), ([(4, .ofNat 0)], [], []), (sxE0, [], [], ([], .ofNat 0))),
  ((167, 11, 0), ([(4, .ofNat 0)], [], []), (sxE0, [], [], ([], .ofNat 0)))]
theorem sxvI15 : (sx_exec sxRT [] [] sxhI15 168 0 sxI15.2.2.1 (sx_argl 0 sxI15.2.2.2.1) [] [] sxjI15).isSome = true := by decide +kernel
theorem sxmI15 {PF : Nat → List Int → List (Nat → Int) → Prop} {l : Launch} : sx_met PF sxRT sxMy sxMc sxML sxMr sxTK l sxI15 := by
  obtain ⟨its2, hk⟩ := Option.isSome_iff_exists.mp sxvI15
  exact sx_met_of (h := sxhI15) sxTK_ok (sxTK2 sxksX8_ok) sxt_X8_joined sxFW_ok sx_nil (fun L h => by cases h) rfl (by decide +kernel) (by decide) rfl ⟨rfl, rfl, rfl, rfl⟩ hk
def sxI16 : sxI := (226, (3, 64), ([(.ofNat 0, .ofNat 0), (.ofNat 0, .ofNat 0), (.ofNat 0, .ofNat 400)], [8, 34, 35], 0, [], [], [], []), [(2, 0, .ofNat 0), (0, 1, .ofNat 0), (0, 2, .ofNat 0), (2, 1, .ofNat 0), (2, 2, .ofNat 0)], [(35, 0, 64)], [(([(.negSucc 9223372036854775807, .ofNat 9223372036854775807)], [], 0, [], [], [], []), some (1, 3, .ofNat 0))])
def sxhI16 : sxH := (sxk_X8_run, sxgX8, sxpX8, sxcX8, (sxkiX8, sxklX8, sxksX8), (8, sxI16.2.2.2.2.1, sxI16.2.2.2.2.2, 2), (3, 3, 0), (3, 64))
def sxjI16 : List sxJ := [((6, 0, 0), ([(1, .ofNat 0), (0, .ofNat 0)], [], []), (([(.ofNat 0, .ofNat 400), (.ofNat 0, .ofNat 64)], [], 0, [([(3, .ofNat 1), (1, .negSucc 0)], .ofNat 0)], [], [], []), [(6, (0, 3, .ofNat 0)), (5, (0, 4, .ofNat 0)), (0, (2, 0, .ofNat 0)), (1, (0, 1, .ofNat 0)), (2, (0, 2, .ofNat 0)), (3, (2, 1, .ofNat 0)), (4, (2, 2, .ofNat 0))], [], ([(3, .negSucc 0)], .ofNat 400))),
  ((178, 11, 0), ([(0, .ofNat 0)], [], []), (sxE0, [], [], ([], .ofNat 0))),
  ((178, 11, 0), ([(5, .ofNat 0)], [], []), (sxE0, [], [], ([], .ofNat 0))),
  ((178, 11, 0), ([(0, .ofNat 0)], [], []), (sxE0, [], [], ([], .ofNat 0))),
  ((178, 11, 0), ([(6, .ofNat 0)], [], []), (sxE0, [], [], ([], .ofNat 0))),
  ((6, 2, 0), ([(3, .ofNat 1), (4, .ofNat 0)], [], []), (sxE0, [], [], ([], .ofNat 0))),
  ((152, 10, 0), ([(0, .ofNat 0), (7, .ofNat 0), (8, .ofNat 0), (9, .ofNat 0)], [], []), (sxE0, [], [], ([], .ofNat 0))),
  ((6, 2, 0), ([(3, .ofNat 1), (4, .negSucc 0)], [], []), (sxE0, [], [], ([], .ofNat 0))),
  ((6, 2, 0), ([(3, .ofNat 1), (4, .ofNat 0)], [], []), (sxE0, [], [], ([], .ofNat 0))),
  ((6, 2, 0), ([(3, .ofNat 1), (4, .ofNat 0)], [], []), (sxE0, [], [], ([], .ofNat 0))),
  ((6, 2, 0), ([(3, .ofNat 1), (4, .ofNat 0)], [], []), (sxE0, [], [], ([], .ofNat 0))),
  ((6, 2, 0), ([(3, .ofNat 1), (4, .ofNat 0)], [], []), (sxE0, [], [], ([], .ofNat 0))),
  ((6, 2, 0), ([(3, .ofNat 1), (4, .ofNat 1)], [], []), (sxE0, [], [], ([], .ofNat 0))),
  ((6, 2, 0), ([(3, .ofNat 1), (4, .ofNat 1)], [], []), (sxE0, [], [], ([], .ofNat 0)))]
theorem sxvI16 : (sx_exec sxRT [sxI15] [] sxhI16 832 0 sxI16.2.2.1 (sx_argl 0 sxI16.2.2.2.1) [] [] sxjI16).isSome = true := by decide +kernel
theorem sxmI16 {PF : Nat → List Int → List (Nat → Int) → Prop} {l : Launch} : sx_met PF sxRT sxMy sxMc sxML sxMr sxTK l sxI16 := by
  obtain ⟨its2, hk⟩ := Option.isSome_iff_exists.mp sxvI16
  exact sx_met_of (h := sxhI16) sxTK_ok (sxTK2 sxksX8_ok) sxt_X8_run sxFW_ok (sx_cons (sxmI15) sx_nil) (fun L h => by cases h) rfl (by decide +kernel) (by decide) rfl ⟨rfl, rfl, rfl, rfl⟩ hk
def sxI17 : sxI := (226, (3, 64), ([(.ofNat 0, .ofNat 0), (.ofNat 0, .ofNat 400), (.ofNat 0, .ofNat 400)], [8, 34, 35], 0, [], [], [], []), [(2, 0, .ofNat 0), (0, 1, .ofNat 0), (0, 2, .ofNat 0), (2, 1, .ofNat 0), (2, 2, .ofNat 0)], [(35, 0, 64)], [(([(.negSucc 9223372036854775807, .ofNat 9223372036854775807)], [], 0, [], [], [], []), some (1, 3, .ofNat 0))])
def sxhI17 : sxH := (sxk_X8_run, sxgX8, sxpX8, sxcX8, (sxkiX8, sxklX8, sxksX8), (8, sxI17.2.2.2.2.1, sxI17.2.2.2.2.2, 2), (3, 3, 0), (3, 64))
def sxjI17 : List sxJ := [((6, 0, 0), ([(1, .ofNat 0), (0, .ofNat 0)], [], []), (([(.ofNat 0, .ofNat 400), (.ofNat 0, .ofNat 64)], [], 0, [([(3, .ofNat 1), (1, .negSucc 0)], .ofNat 0)], [], [], []), [(6, (0, 3, .ofNat 0)), (5, (0, 4, .ofNat 0)), (0, (2, 0, .ofNat 0)), (1, (0, 1, .ofNat 0)), (2, (0, 2, .ofNat 0)), (3, (2, 1, .ofNat 0)), (4, (2, 2, .ofNat 0))], [], ([(3, .negSucc 0)], .ofNat 400))),
  ((178, 11, 0), ([(0, .ofNat 0)], [], []), (sxE0, [], [], ([], .ofNat 0))),
  ((178, 11, 0), ([(5, .ofNat 0)], [], []), (sxE0, [], [], ([], .ofNat 0))),
  ((178, 11, 0), ([(0, .ofNat 0)], [], []), (sxE0, [], [], ([], .ofNat 0))),
  ((178, 11, 0), ([(6, .ofNat 0)], [], []), (sxE0, [], [], ([], .ofNat 0))),
  ((6, 2, 0), ([(3, .ofNat 1), (4, .ofNat 0)], [], []), (sxE0, [], [], ([], .ofNat 0))),
  ((152, 10, 0), ([(0, .ofNat 0), (7, .ofNat 0), (8, .ofNat 0), (9, .ofNat 0)], [], []), (sxE0, [], [], ([], .ofNat 0))),
  ((6, 2, 0), ([(3, .ofNat 1), (4, .negSucc 0)], [], []), (sxE0, [], [], ([], .ofNat 0))),
  ((6, 2, 0), ([(3, .ofNat 1), (4, .ofNat 0)], [], []), (sxE0, [], [], ([], .ofNat 0))),
  ((6, 2, 0), ([(3, .ofNat 1), (4, .ofNat 0)], [], []), (sxE0, [], [], ([], .ofNat 0))),
  ((6, 2, 0), ([(3, .ofNat 1), (4, .ofNat 0)], [], []), (sxE0, [], [], ([], .ofNat 0))),
  ((6, 2, 0), ([(3, .ofNat 1), (4, .ofNat 0)], [], []), (sxE0, [], [], ([], .ofNat 0))),
  ((6, 2, 0), ([(3, .ofNat 1), (4, .ofNat 1)], [], []), (sxE0, [], [], ([], .ofNat 0))),
  ((6, 2, 0), ([(3, .ofNat 1), (4, .ofNat 1)], [], []), (sxE0, [], [], ([], .ofNat 0)))]
theorem sxvI17 : (sx_exec sxRT [sxI15] [] sxhI17 601 0 sxI17.2.2.1 (sx_argl 0 sxI17.2.2.2.1) [] [] sxjI17).isSome = true := by decide +kernel
theorem sxmI17 {PF : Nat → List Int → List (Nat → Int) → Prop} {l : Launch} : sx_met PF sxRT sxMy sxMc sxML sxMr sxTK l sxI17 := by
  obtain ⟨its2, hk⟩ := Option.isSome_iff_exists.mp sxvI17
  exact sx_met_of (h := sxhI17) sxTK_ok (sxTK2 sxksX8_ok) sxt_X8_run sxFW_ok (sx_cons (sxmI15) sx_nil) (fun L h => by cases h) rfl (by decide +kernel) (by decide) rfl ⟨rfl, rfl, rfl, rfl⟩ hk
