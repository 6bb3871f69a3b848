def sxI56 : sxI := (7, (7, 177), ([(.ofNat 0, .ofNat 0), (.ofNat 0, .ofNat 6), (.ofNat 0, .ofNat 6), (.ofNat 0, .ofNat 0), (.ofNat 1, .ofNat 3)], [41], 0, [], [], [], []), [(2, 0, .ofNat 0), (0, 1, .ofNat 0), (0, 2, .ofNat 0), (0, 3, .ofNat 0), (0, 4, .ofNat 0)], [(27, 0, 7)], [(([(.negSucc 2147483647, .ofNat 2147483647)], [], 0, [], [], [], []), some (0, 5, .ofNat 0))])
def sxhI56 : sxH := (sxk_X0_worthBehind, sxgX0, sxpX0, sxcX0, (sxkiX0, sxklX0, sxksX0), (6, sxI56.2.2.2.2.1, sxI56.2.2.2.2.2, 0), (5, 1, 0), (7, 177))
def sxjI56 : List sxJ := [((6, 10, 0), ([(0, .ofNat 0), (1, .ofNat 0), (2, .ofNat 0)], [1], []), (sxE0, [], [], ([], .ofNat 0))),
  ((15, 10, 1), ([(0, .ofNat 0), (3, .ofNat 1), (4, .ofNat 0)], [0], []), (sxE0, [], [], ([], .ofNat 0))),
  ((26, 10, 0), ([(0, .ofNat 0), (1, .ofNat 0), (2, .ofNat 0)], [1], []), (sxE0, [], [], ([], .ofNat 0))),
  ((31, 11, 0), ([(5, .ofNat 0)], [], []), (sxE0, [], [], ([], .ofNat 0)))]
theorem sxvI56 : (sx_exec sxRT [sxI4, sxI55] [] sxhI56 73 0 sxI56.2.2.1 (sx_argl 0 sxI56.2.2.2.1) [] [] sxjI56).isSome = true := by decide +kernel
theorem sxmI56 {PF : Nat → List Int → List (Nat → Int) → Prop} {l : Launch} : sx_met PF sxRT sxMy sxMc sxML sxMr sxTK l sxI56 := by
  obtain ⟨its2, hk⟩ := Option.isSome_iff_exists.mp sxvI56
  exact sx_met_of (h := sxhI56) sxTK_ok (sxTK2 sxksX0_ok) sxt_X0_worthBehind sxFW_ok (sx_cons (sxmI4) (sx_cons (sxmI55) sx_nil)) (fun L h => by cases h) rfl (by decide +kernel) (by decide) rfl ⟨rfl, rfl, rfl, rfl⟩ hk
def sxI57 : sxI := (6, (8, 202), ([(.ofNat 0, .ofNat 0), (.ofNat 0, .ofNat 0), (.ofNat 1, .ofNat 3)], [41], 0, [], [], [], []), [(2, 0, .ofNat 0), (0, 1, .ofNat 0), (0, 2, .ofNat 0)], [(27, 0, 7), (41, 4, 6)], [(([(.negSucc 2147483647, .ofNat 2147483647)], [], 0, [], [], [], []), some (0, 3, .ofNat 0))])
def sxhI57 : sxH := (sxk_X0_worth, sxgX0, sxpX0, sxcX0, (sxkiX0, sxklX0, sxksX0), (10, sxI57.2.2.2.2.1, sxI57.2.2.2.2.2, 0), (3, 1, 0), (8, 202))
def sxjI57 : List sxJ := [((64, 10, 0), ([(0, .ofNat 0), (0, .ofNat 0), (0, .ofNat 0), (1, .ofNat 0), (2, .ofNat 0)], [0], []), (sxE0, [], [], ([], .ofNat 0))),
  ((78, 0, 0), ([(0, .ofNat 0), (0, .negSucc 0), (0, .negSucc 0), (4, .ofNat 0)], [], []), (([(.ofNat 0, .ofNat 7), (.negSucc 0, .ofNat 6), (.negSucc 0, .ofNat 6), (.negSucc 2147483647, .ofNat 2147483647)], [], 0, [([(8, .ofNat 1), (4, .negSucc 0)], .ofNat 0)], [], [], []), [(7, (0, 5, .ofNat 0)), (6, (0, 6, .ofNat 0)), (5, (0, 7, .ofNat 0)), (4, (0, 8, .ofNat 0)), (3, (0, 0, .ofNat 1)), (0, (2, 0, .ofNat 0)), (1, (0, 1, .ofNat 0)), (2, (0, 2, .ofNat 0))], [], ([(5, .negSucc 0)], .ofNat 7))),
  ((177, 11, 0), ([(8, .ofNat 0)], [], []), (sxE0, [], [], ([], .ofNat 0))),
  ((93, 0, 0), ([(5, .ofNat 1), (6, .ofNat 0), (7, .ofNat 0), (8, .ofNat 0)], [], []), (([(.ofNat 1, .ofNat 7), (.negSucc 0, .ofNat 6), (.negSucc 0, .ofNat 6), (.negSucc 2147483647, .ofNat 2147483647)], [], 0, [([(10, .ofNat 1), (5, .negSucc 0)], .negSucc 0), ([(13, .ofNat 1), (8, .negSucc 0)], .ofNat 0)], [], [((0, 0), (0, .ofNat 1), (0, 9, .ofNat 0))], []), [(8, (0, 10, .ofNat 0)), (7, (0, 5, .ofNat 0)), (6, (0, 11, .ofNat 0)), (5, (0, 12, .ofNat 0)), (4, (0, 13, .ofNat 0)), (3, (0, 0, .ofNat 1)), (0, (2, 0, .ofNat 0)), (1, (0, 1, .ofNat 0)), (2, (0, 2, .ofNat 0))], [], ([(10, .negSucc 0)], .ofNat 7))),
  ((78, 2, 1), ([(5, .ofNat 1), (11, .ofNat 0), (12, .ofNat 0), (13, .ofNat 0)], [], []), (sxE0, [], [], ([], .ofNat 0))),
  ((109, 10, 0), ([(0, .ofNat 0), (5, .ofNat 0), (10, .ofNat 0), (1, .ofNat 0), (2, .ofNat 0)], [0], []), (sxE0, [], [], ([], .ofNat 0))),
  ((93, 2, 0), ([(10, .ofNat 1), (11, .ofNat 0), (12, .ofNat 0), (13, .ofNat 0)], [], []), (sxE0, [], [], ([], .ofNat 0))),
  ((93, 2, 0), ([(10, .ofNat 1), (10, .ofNat 0), (5, .ofNat 0), (14, .ofNat 0)], [], []), (sxE0, [], [], ([], .ofNat 0)))]
theorem sxvI57 : (sx_exec sxRT [sxI56] [] sxhI57 243 0 sxI57.2.2.1 (sx_argl 0 sxI57.2.2.2.1) [] [] sxjI57).isSome = true := by decide +kernel
theorem sxmI57 {PF : Nat → List Int → List (Nat → Int) → Prop} {l : Launch} : sx_met PF sxRT sxMy sxMc sxML sxMr sxTK l sxI57 := by
  obtain ⟨its2, hk⟩ := Option.isSome_iff_exists.mp sxvI57
  exact sx_met_of (h := sxhI57) sxTK_ok (sxTK2 sxksX0_ok) sxt_X0_worth sxFW_ok (sx_cons (sxmI56) sx_nil) (fun L h => by cases h) rfl (by decide +kernel) (by decide) rfl ⟨rfl, rfl, rfl, rfl⟩ hk
def sxI58 : sxI := (5, (9, 231), ([(.ofNat 0, .ofNat 0), (.ofNat 0, .ofNat 7), (.ofNat 0, .ofNat 6), (.ofNat 0, .ofNat 6), (.ofNat 1, .ofNat 3)], [41, 26], 0, [], [], [], []), [(2, 0, .ofNat 0), (0, 1, .ofNat 0), (2, 1, .ofNat 0), (0, 2, .ofNat 0), (0, 3, .ofNat 0), (0, 4, .ofNat 0)], [(26, 4, 5), (27, 0, 7), (28, 0, 7), (29, 0, 7), (30, 0, 7), (41, 1, 6)], [(([(.negSucc 2147483647, .ofNat 2147483647)], [], 0, [], [], [], []), some (0, 5, .ofNat 0))])
def sxhI58 : sxH := (sxk_X0_play, sxgX0, sxpX0, sxcX0, (sxkiX0, sxklX0, sxksX0), (6, sxI58.2.2.2.2.1, sxI58.2.2.2.2.2, 0), (5, 2, 0), (9, 231))
def sxjI58 : List sxJ := [((5, 10, 0), ([(0, .ofNat 0)], [2, 1], []), (sxE0, [], [], ([], .ofNat 0))),
  ((28, 10, 1), ([(0, .ofNat 0), (0, .ofNat 0), (4, .ofNat 0)], [0], []), (sxE0, [], [], ([], .ofNat 0))),
  ((31, 11, 0), ([(5, .ofNat 0)], [], []), (sxE0, [], [], ([], .ofNat 0)))]
theorem sxvI58 : (sx_exec sxRT [sxI2, sxI57] [] sxhI58 71 0 sxI58.2.2.1 (sx_argl 0 sxI58.2.2.2.1) [] [] sxjI58).isSome = true := by decide +kernel
theorem sxmI58 {PF : Nat → List Int → List (Nat → Int) → Prop} {l : Launch} : sx_met PF sxRT sxMy sxMc sxML sxMr sxTK l sxI58 := by
  obtain ⟨its2, hk⟩ := Option.isSome_iff_exists.mp sxvI58
  exact sx_met_of (h := sxhI58) sxTK_ok (sxTK2 sxksX0_ok) sxt_X0_play sxFW_ok (sx_cons (sxmI2) (sx_cons (sxmI57) sx_nil)) (fun L h => by cases h) rfl (by decide +kernel) (by decide) rfl ⟨rfl, rfl, rfl, rfl⟩ hk
def sxI59 : sxI := (34, (10, 256), ([(.ofNat 0, .ofNat 0), (.negSucc 2147483647, .ofNat 2147483647), (.negSucc 2147483647, .ofNat 2147483647), (.negSucc 2147483647, .ofNat 2147483647), (.negSucc 2147483647, .ofNat 2147483647)], [0], 0, [], [], [], []), [(2, 0, .ofNat 0), (0, 1, .ofNat 0), (0, 2, .ofNat 0), (0, 3, .ofNat 0), (0, 4, .ofNat 0)], [(26, 4, 5), (27, 0, 7), (28, 0, 7), (29, 0, 7), (30, 0, 7), (41, 1, 6)], [(([(.negSucc 2147483647, .ofNat 2147483647)], [], 0, [], [], [], []), some (0, 5, .ofNat 0))])
def sxhI59 : sxH := (sxk_X11_game, sxgX11, sxpX11, sxcX11, (sxkiX11, sxklX11, sxksX11), (6, sxI59.2.2.2.2.1, sxI59.2.2.2.2.2, 0), (5, 1, 0), (10, 256))
def sxjI59 : List sxJ := [((2, 10, 0), ([(0, .ofNat 0), (1, .ofNat 0)], [0], []), (sxE0, [], [], ([], .ofNat 0))),
  ((43, 11, 0), ([(0, .negSucc 999)], [], []), (sxE0, [], [], ([], .ofNat 0))),
  ((5, 7, 0), ([], [], []), (sxE0, [], [], ([(1, .ofNat 1)], .ofNat 0))),
  ((5, 7, 0), ([], [], []), (sxE0, [], [], ([(1, .negSucc 0)], .ofNat 6))),
  ((10, 10, 0), ([(0, .ofNat 0), (2, .ofNat 0)], [0], []), (sxE0, [], [], ([], .ofNat 0))),
  ((43, 11, 0), ([(0, .negSucc 999)], [], []), (sxE0, [], [], ([], .ofNat 0))),
  ((13, 7, 0), ([], [], []), (sxE0, [], [], ([(2, .ofNat 1)], .ofNat 0))),
  ((13, 7, 0), ([], [], []), (sxE0, [], [], ([(2, .negSucc 0)], .ofNat 6))),
  ((43, 11, 0), ([(0, .negSucc 999)], [], []), (sxE0, [], [], ([], .ofNat 0))),
  ((24, 10, 1), ([(0, .ofNat 0), (3, .ofNat 0), (0, .ofNat 1), (0, .ofNat 3)], [], []), (sxE0, [], [], ([], .ofNat 0))),
  ((43, 11, 0), ([(0, .negSucc 999)], [], []), (sxE0, [], [], ([], .ofNat 0))),
  ((27, 7, 0), ([], [], []), (sxE0, [], [], ([(3, .ofNat 1), (0, .negSucc 0)], .negSucc 0))),
  ((27, 7, 0), ([], [], []), (sxE0, [], [], ([(0, .ofNat 1), (3, .negSucc 0)], .ofNat 3))),
  ((34, 10, 1), ([(0, .ofNat 0), (4, .ofNat 0), (0, .ofNat 0), (0, .ofNat 2)], [], []), (sxE0, [], [], ([], .ofNat 0))),
  ((43, 11, 0), ([(0, .negSucc 999)], [], []), (sxE0, [], [], ([], .ofNat 0))),
  ((37, 7, 0), ([], [], []), (sxE0, [], [], ([(4, .ofNat 1), (0, .negSucc 0)], .ofNat 0))),
  ((37, 7, 0), ([], [], []), (sxE0, [], [], ([(0, .ofNat 1), (4, .negSucc 0)], .ofNat 2))),
  ((68, 10, 2), ([(0, .ofNat 0), (5, .ofNat 0), (1, .ofNat 0), (2, .ofNat 0), (3, .ofNat 0)], [1, 4], []), (sxE0, [], [], ([], .ofNat 0))),
  ((104, 11, 0), ([(7, .ofNat 0)], [], []), (sxE0, [], [], ([], .ofNat 0))),
  ((104, 11, 0), ([(7, .ofNat 0)], [], []), (sxE0, [], [], ([], .ofNat 0))),
  ((80, 11, 0), ([(6, .ofNat 0)], [], []), (sxE0, [], [], ([], .ofNat 0)))]
theorem sxvI59 : (sx_exec sxRT [sxI0, sxI1, sxI58] [] sxhI59 136 0 sxI59.2.2.1 (sx_argl 0 sxI59.2.2.2.1) [] [] sxjI59).isSome = true := by decide +kernel
theorem sxmI59 {PF : Nat → List Int → List (Nat → Int) → Prop} {l : Launch} : sx_met PF sxRT sxMy sxMc sxML sxMr sxTK l sxI59 := by
  obtain ⟨its2, hk⟩ := Option.isSome_iff_exists.mp sxvI59
  exact sx_met_of (h := sxhI59) sxTK_ok (sxTK2 sxksX11_ok) sxt_X11_game sxFW_ok (sx_cons (sxmI0) (sx_cons (sxmI1) (sx_cons (sxmI58) sx_nil))) (fun L h => by cases h) rfl (by decide +kernel) (by decide) rfl ⟨rfl, rfl, rfl, rfl⟩ hk
def sxI60 : sxI := (36, (7, 197), ([(.ofNat 0, .ofNat 0)], [0], 0, [], [], [], []), [(2, 0, .ofNat 0)], [(26, 4, 5), (27, 0, 7), (28, 0, 7), (29, 0, 7), (30, 0, 7), (34, 0, 12), (35, 0, 64)], [(([(.negSucc 2147483647, .ofNat 2147483647)], [], 0, [], [], [], []), some (0, 1, .ofNat 0))])
def sxhI60 : sxH := (sxk_X11_home, sxgX11, sxpX11, sxcX11, (sxkiX11, sxklX11, sxksX11), (2, sxI60.2.2.2.2.1, sxI60.2.2.2.2.2, 0), (1, 1, 0), (7, 197))
def sxjI60 : List sxJ := [((26, 10, 0), ([(0, .ofNat 0)], [3, 4], []), (sxE0, [], [], ([], .ofNat 0))),
  ((31, 0, 0), ([(0, .ofNat 0)], [], []), (([(.ofNat 0, .ofNat 100)], [], 0, [], [], [((0, 1), (0, .ofNat 1), (2, 4, .ofNat 0)), ((0, 0), (0, .ofNat 10), (2, 3, .ofNat 0)), ((0, 2), (0, .ofNat 0), (0, 1, .ofNat 0)), ((0, 1), (0, .ofNat 0), (2, 2, .ofNat 0)), ((0, 0), (0, .ofNat 4), (2, 1, .ofNat 0))], []), [(1, (0, 2, .ofNat 0)), (0, (2, 0, .ofNat 0))], [], ([(2, .negSucc 0)], .ofNat 100))),
  ((104, 11, 0), ([(0, .negSucc 1)], [], []), (sxE0, [], [], ([], .ofNat 0))),
  ((51, 10, 1), ([(0, .ofNat 0), (3, .ofNat 0)], [3], []), (sxE0, [], [], ([], .ofNat 0))),
  ((88, 10, 2), ([(0, .ofNat 0), (5, .ofNat 0)], [0], []), (sxE0, [], [], ([], .ofNat 0))),
  ((92, 10, 3), ([(0, .ofNat 0), (0, .negSucc 0)], [5, 2, 3], []), (sxE0, [], [], ([], .ofNat 0))),
  ((31, 2, 0), ([(2, .ofNat 1)], [], []), (sxE0, [], [], ([], .ofNat 0))),
  ((91, 7, 0), ([], [], []), (sxE0, [], [], ([(5, .ofNat 1)], .ofNat 0))),
  ((91, 7, 0), ([], [], []), (sxE0, [], [], ([(5, .negSucc 0)], .ofNat 5))),
  ((92, 10, 4), ([(0, .ofNat 0), (0, .negSucc 0)], [5, 2, 3, 6], []), (sxE0, [], [], ([], .ofNat 0))),
  ((31, 2, 0), ([(2, .ofNat 1)], [], []), (sxE0, [], [], ([], .ofNat 0))),
  ((64, 11, 0), ([(5, .ofNat 0)], [], []), (sxE0, [], [], ([], .ofNat 0))),
  ((14, 11, 0), ([(0, .negSucc 0)], [], []), (sxE0, [], [], ([], .ofNat 0)))]
theorem sxvI60 : (sx_exec sxRT [sxI2, sxI45, sxI3, sxI11, sxI26] [] sxhI60 247 0 sxI60.2.2.1 (sx_argl 0 sxI60.2.2.2.1) [] [] sxjI60).isSome = true := by decide +kernel
theorem sxmI60 {PF : Nat → List Int → List (Nat → Int) → Prop} {l : Launch} : sx_met PF sxRT sxMy sxMc sxML sxMr sxTK l sxI60 := by
  obtain ⟨its2, hk⟩ := Option.isSome_iff_exists.mp sxvI60
  exact sx_met_of (h := sxhI60) sxTK_ok (sxTK2 sxksX11_ok) sxt_X11_home sxFW_ok (sx_cons (sxmI2) (sx_cons (sxmI45) (sx_cons (sxmI3) (sx_cons (sxmI11) (sx_cons (sxmI26) sx_nil))))) (fun L h => by cases h) rfl (by decide +kernel) (by decide) rfl ⟨rfl, rfl, rfl, rfl⟩ hk
def sxI61 : sxI := (189, (2, 40), ([(.ofNat 0, .ofNat 0)], [20], 0, [], [], [], []), [(2, 0, .ofNat 0)], [(20, 0, 5)], [(([], [], 0, [], [], [], []), none)])
def sxhI61 : sxH := (sxk_X1_clear, sxgX1, sxpX1, sxcX1, (sxkiX1, sxklX1, sxksX1), (1, sxI61.2.2.2.2.1, sxI61.2.2.2.2.2, 4), (1, 1, 0), (2, 40))
def sxjI61 : List sxJ := [((25, 11, 0), ([], [], []), (sxE0, [], [], ([], .ofNat 0)))]
theorem sxvI61 : (sx_exec sxRT [] [] sxhI61 67 0 sxI61.2.2.1 (sx_argl 0 sxI61.2.2.2.1) [] [] sxjI61).isSome = true := by decide +kernel
theorem sxmI61 {PF : Nat → List Int → List (Nat → Int) → Prop} {l : Launch} : sx_met PF sxRT sxMy sxMc sxML sxMr sxTK l sxI61 := by
  obtain ⟨its2, hk⟩ := Option.isSome_iff_exists.mp sxvI61
  exact sx_met_of (h := sxhI61) sxTK_ok (sxTK2 sxksX1_ok) sxt_X1_clear sxFW_ok sx_nil (fun L h => by cases h) rfl (by decide +kernel) (by decide) rfl ⟨rfl, rfl, rfl, rfl⟩ hk
def sxI62 : sxI := (8, (2, 40), ([(.ofNat 0, .ofNat 0), (.ofNat 0, .ofNat 400), (.negSucc 2147483647, .ofNat 2147483647), (.negSucc 2147483647, .ofNat 2147483647)], [1], 0, [], [], [], []), [(2, 0, .ofNat 0), (0, 1, .ofNat 0), (0, 2, .ofNat 0), (0, 3, .ofNat 0)], [], [(([(.ofNat 0, .ofNat 400)], [], 0, [], [], [], []), some (0, 4, .ofNat 0))])
def sxhI62 : sxH := (sxk_X10_behind, sxgX10, sxpX10, sxcX10, (sxkiX10, sxklX10, sxksX10), (8, sxI62.2.2.2.2.1, sxI62.2.2.2.2.2, 0), (4, 1, 0), (2, 40))
def sxjI62 : List sxJ := [((9, 0, 0), ([(1, .ofNat 0), (0, .ofNat 1), (1, .ofNat 0)], [], []), (([(.ofNat 0, .ofNat 400), (.ofNat 0, .ofNat 1), (.ofNat 0, .ofNat 400)], [], 0, [([(4, .ofNat 1), (1, .negSucc 0)], .ofNat 0), ([(6, .ofNat 1), (1, .negSucc 0)], .ofNat 0)], [], [], []), [(6, (0, 4, .ofNat 0)), (5, (0, 5, .ofNat 0)), (4, (0, 6, .ofNat 0)), (0, (2, 0, .ofNat 0)), (1, (0, 1, .ofNat 0)), (2, (0, 2, .ofNat 0)), (3, (0, 3, .ofNat 0))], [], ([(4, .negSucc 0)], .ofNat 400))),
  ((79, 11, 0), ([(6, .ofNat 0)], [], []), (sxE0, [], [], ([], .ofNat 0))),
  ((79, 11, 0), ([(6, .ofNat 0)], [], []), (sxE0, [], [], ([], .ofNat 0))),
  ((9, 2, 0), ([(4, .ofNat 1), (0, .ofNat 0), (6, .ofNat 0)], [], []), (sxE0, [], [], ([], .ofNat 0))),
  ((9, 2, 0), ([(4, .ofNat 1), (0, .ofNat 0), (6, .ofNat 0)], [], []), (sxE0, [], [], ([], .ofNat 0))),
  ((9, 2, 0), ([(4, .ofNat 1), (0, .ofNat 1), (4, .ofNat 1)], [], []), (sxE0, [], [], ([], .ofNat 0)))]
theorem sxvI62 : (sx_exec sxRT [] [] sxhI62 156 0 sxI62.2.2.1 (sx_argl 0 sxI62.2.2.2.1) [] [] sxjI62).isSome = true := by decide +kernel
theorem sxmI62 {PF : Nat → List Int → List (Nat → Int) → Prop} {l : Launch} : sx_met PF sxRT sxMy sxMc sxML sxMr sxTK l sxI62 := by
  obtain ⟨its2, hk⟩ := Option.isSome_iff_exists.mp sxvI62
  exact sx_met_of (h := sxhI62) sxTK_ok (sxTK2 sxksX10_ok) sxt_X10_behind sxFW_ok sx_nil (fun L h => by cases h) rfl (by decide +kernel) (by decide) rfl ⟨rfl, rfl, rfl, rfl⟩ hk
def sxI63 : sxI := (9, (2, 40), ([(.ofNat 0, .ofNat 0), (.negSucc 2147483647, .ofNat 2147483647)], [1], 0, [], [], [], []), [(2, 0, .ofNat 0), (0, 1, .ofNat 0)], [], [(([], [], 0, [], [], [], []), some (0, 0, .ofNat 256)), (([(.ofNat 0, .ofNat 255)], [], 0, [([(1, .ofNat 1)], .ofNat 0), ([(1, .negSucc 0)], .ofNat 399)], [], [], []), some (0, 2, .ofNat 0))])
def sxhI63 : sxH := (sxk_X10_byteAt, sxgX10, sxpX10, sxcX10, (sxkiX10, sxklX10, sxksX10), (2, sxI63.2.2.2.2.1, sxI63.2.2.2.2.2, 0), (2, 1, 0), (2, 40))
def sxjI63 : List sxJ := [((28, 11, 0), ([], [], []), (sxE0, [], [], ([], .ofNat 0))),
  ((28, 11, 0), ([], [], []), (sxE0, [], [], ([], .ofNat 0))),
  ((28, 11, 1), ([(4, .ofNat 0)], [], []), (sxE0, [], [], ([], .ofNat 0)))]
theorem sxvI63 : (sx_exec sxRT [] [] sxhI63 71 0 sxI63.2.2.1 (sx_argl 0 sxI63.2.2.2.1) [] [] sxjI63).isSome = true := by decide +kernel
theorem sxmI63 {PF : Nat → List Int → List (Nat → Int) → Prop} {l : Launch} : sx_met PF sxRT sxMy sxMc sxML sxMr sxTK l sxI63 := by
  obtain ⟨its2, hk⟩ := Option.isSome_iff_exists.mp sxvI63
  exact sx_met_of (h := sxhI63) sxTK_ok (sxTK2 sxksX10_ok) sxt_X10_byteAt sxFW_ok sx_nil (fun L h => by cases h) rfl (by decide +kernel) (by decide) rfl ⟨rfl, rfl, rfl, rfl⟩ hk
def sxI64 : sxI := (18, (3, 67), ([(.ofNat 0, .ofNat 0), (.ofNat 0, .ofNat 400)], [1], 0, [], [], [((0, 0), (0, .ofNat 5), (0, 1, .ofNat 0))], []), [(2, 0, .ofNat 0)], [(1, 3, 6)], [(([(.ofNat 0, .ofNat 400)], [], 0, [], [], [((0, 0), (0, .ofNat 5), (0, 2, .ofNat 0))], []), none)])
def sxhI64 : sxH := (sxk_X10_step, sxgX10, sxpX10, sxcX10, (sxkiX10, sxklX10, sxksX10), (1, sxI64.2.2.2.2.1, sxI64.2.2.2.2.2, 4), (2, 1, 0), (3, 67))
def sxjI64 : List sxJ := [((10, 10, 0), ([(0, .ofNat 0), (1, .ofNat 0), (0, .ofNat 32), (0, .ofNat 32)], [0], []), (sxE0, [], [], ([], .ofNat 0))),
  ((22, 10, 1), ([(0, .ofNat 0), (2, .ofNat 0)], [0], []), (sxE0, [], [], ([], .ofNat 0))),
  ((210, 11, 0), ([(2, .ofNat 0)], [], []), (sxE0, [], [], ([], .ofNat 0))),
  ((25, 7, 0), ([], [], []), (sxE0, [], [], ([(2, .negSucc 0)], .ofNat 399))),
  ((210, 11, 0), ([(2, .ofNat 1)], [], []), (sxE0, [], [], ([], .ofNat 0))),
  ((170, 10, 1), ([(0, .ofNat 0), (2, .ofNat 1)], [0], []), (sxE0, [], [], ([], .ofNat 0))),
  ((210, 11, 0), ([(2, .ofNat 1)], [], []), (sxE0, [], [], ([], .ofNat 0))),
  ((173, 7, 0), ([], [], []), (sxE0, [], [], ([(2, .negSucc 0)], .ofNat 398))),
  ((210, 11, 0), ([(2, .ofNat 1)], [], []), (sxE0, [], [], ([], .ofNat 0))),
  ((210, 11, 0), ([(2, .ofNat 2)], [], []), (sxE0, [], [], ([], .ofNat 0))),
  ((210, 11, 0), ([(2, .ofNat 1)], [], []), (sxE0, [], [], ([], .ofNat 0))),
  ((170, 10, 1), ([(0, .ofNat 0), (2, .ofNat 1)], [0], []), (sxE0, [], [], ([], .ofNat 0))),
  ((210, 11, 0), ([(2, .ofNat 1)], [], []), (sxE0, [], [], ([], .ofNat 0))),
  ((173, 7, 0), ([], [], []), (sxE0, [], [], ([(2, .negSucc 0)], .ofNat 398))),
  ((210, 11, 0), ([(2, .ofNat 1)], [], []), (sxE0, [], [], ([], .ofNat 0))),
  ((210, 11, 0), ([(2, .ofNat 2)], [], []), (sxE0, [], [], ([], .ofNat 0))),
  ((210, 11, 0), ([(2, .ofNat 1)], [], []), (sxE0, [], [], ([], .ofNat 0))),
  ((138, 10, 0), ([(0, .ofNat 0), (2, .ofNat 0), (0, .ofNat 97), (0, .ofNat 122)], [0], []), (sxE0, [], [], ([], .ofNat 0))),
  ((210, 11, 0), ([(4, .ofNat 0)], [], []), (sxE0, [], [], ([], .ofNat 0))),
  ((94, 10, 0), ([(0, .ofNat 0), (2, .ofNat 0), (0, .ofNat 48), (0, .ofNat 57)], [0], []), (sxE0, [], [], ([], .ofNat 0))),
  ((210, 11, 0), ([(4, .ofNat 0)], [], []), (sxE0, [], [], ([], .ofNat 0)))]
theorem sxvI64 : (sx_exec sxRT [sxI62, sxI63] [] sxhI64 234 0 sxI64.2.2.1 (sx_argl 0 sxI64.2.2.2.1) [] [] sxjI64).isSome = true := by decide +kernel
theorem sxmI64 {PF : Nat → List Int → List (Nat → Int) → Prop} {l : Launch} : sx_met PF sxRT sxMy sxMc sxML sxMr sxTK l sxI64 := by
  obtain ⟨its2, hk⟩ := Option.isSome_iff_exists.mp sxvI64
  exact sx_met_of (h := sxhI64) sxTK_ok (sxTK2 sxksX10_ok) sxt_X10_step sxFW_ok (sx_cons (sxmI62) (sx_cons (sxmI63) sx_nil)) (fun L h => by cases h) rfl (by decide +kernel) (by decide) rfl ⟨rfl, rfl, rfl, rfl⟩ hk
def sxI65 : sxI := (17, (4, 87), ([(.ofNat 0, .ofNat 0)], [1], 0, [], [], [], []), [(2, 0, .ofNat 0)], [(1, 2, 6)], [(([(.ofNat 0, .ofNat 400)], [], 0, [], [], [((0, 0), (0, .ofNat 5), (0, 1, .ofNat 0))], []), none)])
def sxhI65 : sxH := (sxk_X10_rewind, sxgX10, sxpX10, sxcX10, (sxkiX10, sxklX10, sxksX10), (1, sxI65.2.2.2.2.1, sxI65.2.2.2.2.2, 4), (1, 1, 0), (4, 87))
def sxjI65 : List sxJ := [((11, 10, 0), ([(0, .ofNat 0), (0, .ofNat 0)], [0], []), (sxE0, [], [], ([], .ofNat 0))),
  ((14, 11, 0), ([(1, .ofNat 0)], [], []), (sxE0, [], [], ([], .ofNat 0)))]
theorem sxvI65 : (sx_exec sxRT [sxI64] [] sxhI65 61 0 sxI65.2.2.1 (sx_argl 0 sxI65.2.2.2.1) [] [] sxjI65).isSome = true := by decide +kernel
theorem sxmI65 {PF : Nat → List Int → List (Nat → Int) → Prop} {l : Launch} : sx_met PF sxRT sxMy sxMc sxML sxMr sxTK l sxI65 := by
  obtain ⟨its2, hk⟩ := Option.isSome_iff_exists.mp sxvI65
  exact sx_met_of (h := sxhI65) sxTK_ok (sxTK2 sxksX10_ok) sxt_X10_rewind sxFW_ok (sx_cons (sxmI64) sx_nil) (fun L h => by cases h) rfl (by decide +kernel) (by decide) rfl ⟨rfl, rfl, rfl, rfl⟩ hk
def sxI66 : sxI := (1, (3, 120), ([(.ofNat 0, .ofNat 0)], [68], 0, [], [], [], []), [(2, 0, .ofNat 0)], [], [(([], [], 0, [], [], [], []), some (0, 0, .ofNat 5))])
theorem sxmI66 {PF : Nat → List Int → List (Nat → Int) → Prop} {l : Launch} : sx_met PF sxRT sxMy sxMc sxML sxMr sxTK l sxI66 := sx_hlen (k := 0) rfl
def sxI67 : sxI := (0, (3, 120), ([(.ofNat 0, .ofNat 0), (.ofNat 0, .ofNat 4)], [68], 0, [], [], [], []), [(2, 0, .ofNat 0), (0, 1, .ofNat 0)], [], [(([(.ofNat 0, .ofNat 255)], [], 0, [], [], [], []), some (0, 2, .ofNat 0))])
theorem sxmI67 {PF : Nat → List Int → List (Nat → Int) → Prop} {l : Launch} : sx_met PF sxRT sxMy sxMc sxML sxMr sxTK l sxI67 := sx_hchr (k := 0) rfl
def sxI68 : sxI := (14, (4, 141), ([(.ofNat 0, .ofNat 0), (.ofNat 0, .ofNat 0), (.ofNat 5, .ofNat 5)], [1, 68], 0, [], [], [], []), [(2, 0, .ofNat 0), (2, 1, .ofNat 0), (0, 1, .ofNat 0), (0, 2, .ofNat 0)], [], [(([(.ofNat 0, .ofNat 0)], [], 0, [], [], [], []), some (0, 3, .ofNat 0)), (([(.ofNat 1, .ofNat 1)], [], 0, [], [], [], []), some (0, 3, .ofNat 0))])
def sxhI68 : sxH := (sxk_X10_isWordIn, sxgX10, sxpX10, sxcX10, (sxkiX10, sxklX10, sxksX10), (7, sxI68.2.2.2.2.1, sxI68.2.2.2.2.2, 1), (3, 2, 0), (4, 141))
def sxjI68 : List sxJ := [((47, 0, 0), ([(0, .ofNat 0), (0, .ofNat 0)], [], []), (([(.ofNat 0, .ofNat 0), (.ofNat 0, .ofNat 0)], [], 0, [], [], [((0, 0), (0, .ofNat 3), (0, 6, .ofNat 0)), ((0, 0), (0, .ofNat 4), (0, 4, .ofNat 0)), ((0, 0), (0, .ofNat 5), (0, 3, .ofNat 0))], []), [(6, (0, 7, .ofNat 0)), (5, (0, 8, .ofNat 0)), (4, (0, 5, .ofNat 0)), (0, (2, 0, .ofNat 0)), (1, (2, 1, .ofNat 0)), (2, (0, 1, .ofNat 0)), (3, (0, 2, .ofNat 0))], [], ([(7, .negSucc 0)], .ofNat 0))),
  ((107, 11, 0), ([(8, .ofNat 0)], [], []), (sxE0, [], [], ([], .ofNat 0))),
  ((47, 0, 0), ([(0, .ofNat 0), (0, .ofNat 0)], [], []), (([(.ofNat 0, .ofNat 0), (.ofNat 0, .ofNat 0)], [], 0, [], [], [((0, 0), (0, .ofNat 3), (0, 6, .ofNat 0)), ((0, 0), (0, .ofNat 4), (0, 4, .ofNat 0)), ((0, 0), (0, .ofNat 5), (0, 3, .ofNat 0))], []), [(6, (0, 7, .ofNat 0)), (5, (0, 8, .ofNat 0)), (4, (0, 5, .ofNat 0)), (0, (2, 0, .ofNat 0)), (1, (2, 1, .ofNat 0)), (2, (0, 1, .ofNat 0)), (3, (0, 2, .ofNat 0))], [], ([(7, .negSucc 0)], .ofNat 0))),
  ((107, 11, 0), ([(8, .ofNat 0)], [], []), (sxE0, [], [], ([], .ofNat 0))),
  ((31, 10, 0), ([(0, .ofNat 0)], [1], []), (sxE0, [], [], ([], .ofNat 0))),
  ((47, 0, 0), ([(0, .ofNat 0), (0, .ofNat 1)], [], []), (([(.ofNat 0, .ofNat 5), (.ofNat 0, .ofNat 1)], [], 0, [], [], [((0, 0), (0, .ofNat 3), (0, 6, .ofNat 0)), ((0, 0), (0, .ofNat 4), (0, 4, .ofNat 0)), ((0, 0), (0, .ofNat 5), (0, 3, .ofNat 0))], []), [(6, (0, 8, .ofNat 0)), (5, (0, 9, .ofNat 0)), (4, (0, 5, .ofNat 0)), (0, (2, 0, .ofNat 0)), (1, (2, 1, .ofNat 0)), (2, (0, 1, .ofNat 0)), (3, (0, 2, .ofNat 0))], [], ([(8, .negSucc 0)], .ofNat 5))),
  ((107, 11, 0), ([(9, .ofNat 0)], [], []), (sxE0, [], [], ([], .ofNat 0))),
  ((107, 11, 1), ([(9, .ofNat 0)], [], []), (sxE0, [], [], ([], .ofNat 0))),
  ((63, 10, 1), ([(0, .ofNat 0), (10, .ofNat 0)], [1], []), (sxE0, [], [], ([], .ofNat 0))),
  ((47, 2, 0), ([(8, .ofNat 1), (0, .ofNat 0)], [], []), (sxE0, [], [], ([], .ofNat 0))),
  ((47, 2, 0), ([(8, .ofNat 1), (0, .ofNat 1)], [], []), (sxE0, [], [], ([], .ofNat 0))),
  ((81, 10, 2), ([(0, .ofNat 0), (12, .ofNat 0)], [0], []), (sxE0, [], [], ([], .ofNat 0))),
  ((47, 2, 0), ([(8, .ofNat 1), (0, .ofNat 0)], [], []), (sxE0, [], [], ([], .ofNat 0))),
  ((84, 7, 0), ([], [], []), (sxE0, [], [], ([(12, .negSucc 0)], .ofNat 399))),
  ((47, 2, 0), ([(8, .ofNat 1), (0, .ofNat 0)], [], []), (sxE0, [], [], ([], .ofNat 0))),
  ((47, 2, 0), ([(8, .ofNat 1), (0, .ofNat 1)], [], []), (sxE0, [], [], ([], .ofNat 0)))]
theorem sxvI68 : (sx_exec sxRT [sxI66, sxI67, sxI63] [] sxhI68 221 0 sxI68.2.2.1 (sx_argl 0 sxI68.2.2.2.1) [] [] sxjI68).isSome = true := by decide +kernel
theorem sxmI68 {PF : Nat → List Int → List (Nat → Int) → Prop} {l : Launch} : sx_met PF sxRT sxMy sxMc sxML sxMr sxTK l sxI68 := by
  obtain ⟨its2, hk⟩ := Option.isSome_iff_exists.mp sxvI68
  exact sx_met_of (h := sxhI68) sxTK_ok (sxTK2 sxksX10_ok) sxt_X10_isWordIn sxFW_ok (sx_cons (sxmI66) (sx_cons (sxmI67) (sx_cons (sxmI63) sx_nil))) (fun L h => by cases h) rfl (by decide +kernel) (by decide) rfl ⟨rfl, rfl, rfl, rfl⟩ hk
def sxI69 : sxI := (13, (5, 167), ([(.ofNat 0, .ofNat 0)], [1, 68], 0, [], [], [], []), [(2, 0, .ofNat 0), (2, 1, .ofNat 0)], [], [(([(.ofNat 0, .ofNat 0)], [], 0, [], [], [], []), some (0, 1, .ofNat 0)), (([(.ofNat 1, .ofNat 1)], [], 0, [], [], [], []), some (0, 1, .ofNat 0))])
def sxhI69 : sxH := (sxk_X10_isWord, sxgX10, sxpX10, sxcX10, (sxkiX10, sxklX10, sxksX10), (2, sxI69.2.2.2.2.1, sxI69.2.2.2.2.2, 1), (1, 2, 0), (5, 167))
def sxjI69 : List sxJ := [((4, 10, 0), ([(0, .ofNat 0)], [1], []), (sxE0, [], [], ([], .ofNat 0))),
  ((7, 10, 1), ([(0, .ofNat 0), (0, .ofNat 0), (0, .ofNat 5)], [0, 1], []), (sxE0, [], [], ([], .ofNat 0))),
  ((10, 11, 0), ([(1, .ofNat 0)], [], []), (sxE0, [], [], ([], .ofNat 0))),
  ((10, 11, 1), ([(1, .ofNat 0)], [], []), (sxE0, [], [], ([], .ofNat 0)))]
theorem sxvI69 : (sx_exec sxRT [sxI66, sxI68] [] sxhI69 62 0 sxI69.2.2.1 (sx_argl 0 sxI69.2.2.2.1) [] [] sxjI69).isSome = true := by decide +kernel
theorem sxmI69 {PF : Nat → List Int → List (Nat → Int) → Prop} {l : Launch} : sx_met PF sxRT sxMy sxMc sxML sxMr sxTK l sxI69 := by
  obtain ⟨its2, hk⟩ := Option.isSome_iff_exists.mp sxvI69
  exact sx_met_of (h := sxhI69) sxTK_ok (sxTK2 sxksX10_ok) sxt_X10_isWord sxFW_ok (sx_cons (sxmI66) (sx_cons (sxmI68) sx_nil)) (fun L h => by cases h) rfl (by decide +kernel) (by decide) rfl ⟨rfl, rfl, rfl, rfl⟩ hk
def sxI70 : sxI := (1, (3, 120), ([(.ofNat 0, .ofNat 0)], [69], 0, [], [], [], []), [(2, 0, .ofNat 0)], [], [(([], [], 0, [], [], [], []), some (0, 0, .ofNat 6))])
theorem sxmI70 {PF : Nat → List Int → List (Nat → Int) → Prop} {l : Launch} : sx_met PF sxRT sxMy sxMc sxML sxMr sxTK l sxI70 := sx_hlen (k := 1) rfl
def sxI71 : sxI := (0, (3, 120), ([(.ofNat 0, .ofNat 0), (.ofNat 0, .ofNat 5)], [69], 0, [], [], [], []), [(2, 0, .ofNat 0), (0, 1, .ofNat 0)], [], [(([(.ofNat 0, .ofNat 255)], [], 0, [], [], [], []), some (0, 2, .ofNat 0))])
theorem sxmI71 {PF : Nat → List Int → List (Nat → Int) → Prop} {l : Launch} : sx_met PF sxRT sxMy sxMc sxML sxMr sxTK l sxI71 := sx_hchr (k := 1) rfl
def sxI72 : sxI := (14, (4, 141), ([(.ofNat 0, .ofNat 0), (.ofNat 0, .ofNat 0), (.ofNat 6, .ofNat 6)], [1, 69], 0, [], [], [], []), [(2, 0, .ofNat 0), (2, 1, .ofNat 0), (0, 1, .ofNat 0), (0, 2, .ofNat 0)], [], [(([(.ofNat 0, .ofNat 0)], [], 0, [], [], [], []), some (0, 3, .ofNat 0)), (([(.ofNat 1, .ofNat 1)], [], 0, [], [], [], []), some (0, 3, .ofNat 0))])
def sxhI72 : sxH := (sxk_X10_isWordIn, sxgX10, sxpX10, sxcX10, (sxkiX10, sxklX10, sxksX10), (7, sxI72.2.2.2.2.1, sxI72.2.2.2.2.2, 1), (3, 2, 0), (4, 141))
def sxjI72 : List sxJ := [((47, 0, 0), ([(0, .ofNat 0), (0, .ofNat 0)], [], []), (([(.ofNat 0, .ofNat 0), (.ofNat 0, .ofNat 0)], [], 0, [], [], [((0, 0), (0, .ofNat 3), (0, 6, .ofNat 0)), ((0, 0), (0, .ofNat 4), (0, 4, .ofNat 0)), ((0, 0), (0, .ofNat 5), (0, 3, .ofNat 0))], []), [(6, (0, 7, .ofNat 0)), (5, (0, 8, .ofNat 0)), (4, (0, 5, .ofNat 0)), (0, (2, 0, .ofNat 0)), (1, (2, 1, .ofNat 0)), (2, (0, 1, .ofNat 0)), (3, (0, 2, .ofNat 0))], [], ([(7, .negSucc 0)], .ofNat 0))),
  ((107, 11, 0), ([(8, .ofNat 0)], [], []), (sxE0, [], [], ([], .ofNat 0))),
  ((47, 0, 0), ([(0, .ofNat 0), (0, .ofNat 0)], [], []), (([(.ofNat 0, .ofNat 0), (.ofNat 0, .ofNat 0)], [], 0, [], [], [((0, 0), (0, .ofNat 3), (0, 6, .ofNat 0)), ((0, 0), (0, .ofNat 4), (0, 4, .ofNat 0)), ((0, 0), (0, .ofNat 5), (0, 3, .ofNat 0))], []), [(6, (0, 7, .ofNat 0)), (5, (0, 8, .ofNat 0)), (4, (0, 5, .ofNat 0)), (0, (2, 0, .ofNat 0)), (1, (2, 1, .ofNat 0)), (2, (0, 1, .ofNat 0)), (3, (0, 2, .ofNat 0))], [], ([(7, .negSucc 0)], .ofNat 0))),
  ((107, 11, 0), ([(8, .ofNat 0)], [], []), (sxE0, [], [], ([], .ofNat 0))),
  ((31, 10, 0), ([(0, .ofNat 0)], [1], []), (sxE0, [], [], ([], .ofNat 0))),
  ((47, 0, 0), ([(0, .ofNat 0), (0, .ofNat 1)], [], []), (([(.ofNat 0, .ofNat 6), (.ofNat 0, .ofNat 1)], [], 0, [], [], [((0, 0), (0, .ofNat 3), (0, 6, .ofNat 0)), ((0, 0), (0, .ofNat 4), (0, 4, .ofNat 0)), ((0, 0), (0, .ofNat 5), (0, 3, .ofNat 0))], []), [(6, (0, 8, .ofNat 0)), (5, (0, 9, .ofNat 0)), (4, (0, 5, .ofNat 0)), (0, (2, 0, .ofNat 0)), (1, (2, 1, .ofNat 0)), (2, (0, 1, .ofNat 0)), (3, (0, 2, .ofNat 0))], [], ([(8, .negSucc 0)], .ofNat 6))),
  ((107, 11, 0), ([(9, .ofNat 0)], [], []), (sxE0, [], [], ([], .ofNat 0))),
  ((107, 11, 1), ([(9, .ofNat 0)], [], []), (sxE0, [], [], ([], .ofNat 0))),
  ((63, 10, 1), ([(0, .ofNat 0), (10, .ofNat 0)], [1], []), (sxE0, [], [], ([], .ofNat 0))),
  ((47, 2, 0), ([(8, .ofNat 1), (0, .ofNat 0)], [], []), (sxE0, [], [], ([], .ofNat 0))),
  ((47, 2, 0), ([(8, .ofNat 1), (0, .ofNat 1)], [], []), (sxE0, [], [], ([], .ofNat 0))),
  ((81, 10, 2), ([(0, .ofNat 0), (12, .ofNat 0)], [0], []), (sxE0, [], [], ([], .ofNat 0))),
  ((47, 2, 0), ([(8, .ofNat 1), (0, .ofNat 0)], [], []), (sxE0, [], [], ([], .ofNat 0))),
  ((84, 7, 0), ([], [], []), (sxE0, [], [], ([(12, .negSucc 0)], .ofNat 399))),
  ((47, 2, 0), ([(8, .ofNat 1), (0, .ofNat 0)], [], []), (sxE0, [], [], ([], .ofNat 0))),
  ((47, 2, 0), ([(8, .ofNat 1), (0, .ofNat 1)], [], []), (sxE0, [], [], ([], .ofNat 0)))]
theorem sxvI72 : (sx_exec sxRT [sxI70, sxI71, sxI63] [] sxhI72 207 0 sxI72.2.2.1 (sx_argl 0 sxI72.2.2.2.1) [] [] sxjI72).isSome = true := by decide +kernel
theorem sxmI72 {PF : Nat → List Int → List (Nat → Int) → Prop} {l : Launch} : sx_met PF sxRT sxMy sxMc sxML sxMr sxTK l sxI72 := by
  obtain ⟨its2, hk⟩ := Option.isSome_iff_exists.mp sxvI72
  exact sx_met_of (h := sxhI72) sxTK_ok (sxTK2 sxksX10_ok) sxt_X10_isWordIn sxFW_ok (sx_cons (sxmI70) (sx_cons (sxmI71) (sx_cons (sxmI63) sx_nil))) (fun L h => by cases h) rfl (by decide +kernel) (by decide) rfl ⟨rfl, rfl, rfl, rfl⟩ hk
def sxI73 : sxI := (13, (5, 167), ([(.ofNat 0, .ofNat 0)], [1, 69], 0, [], [], [], []), [(2, 0, .ofNat 0), (2, 1, .ofNat 0)], [], [(([(.ofNat 0, .ofNat 0)], [], 0, [], [], [], []), some (0, 1, .ofNat 0)), (([(.ofNat 1, .ofNat 1)], [], 0, [], [], [], []), some (0, 1, .ofNat 0))])
def sxhI73 : sxH := (sxk_X10_isWord, sxgX10, sxpX10, sxcX10, (sxkiX10, sxklX10, sxksX10), (2, sxI73.2.2.2.2.1, sxI73.2.2.2.2.2, 1), (1, 2, 0), (5, 167))
def sxjI73 : List sxJ := [((4, 10, 0), ([(0, .ofNat 0)], [1], []), (sxE0, [], [], ([], .ofNat 0))),
  ((7, 10, 1), ([(0, .ofNat 0), (0, .ofNat 0), (0, .ofNat 6)], [0, 1], []), (sxE0, [], [], ([], .ofNat 0))),
  ((10, 11, 0), ([(1, .ofNat 0)], [], []), (sxE0, [], [], ([], .ofNat 0))),
  ((10, 11, 1), ([(1, .ofNat 0)], [], []), (sxE0, [], [], ([], .ofNat 0)))]
theorem sxvI73 : (sx_exec sxRT [sxI70, sxI72] [] sxhI73 62 0 sxI73.2.2.1 (sx_argl 0 sxI73.2.2.2.1) [] [] sxjI73).isSome = true := by decide +kernel
theorem sxmI73 {PF : Nat → List Int → List (Nat → Int) → Prop} {l : Launch} : sx_met PF sxRT sxMy sxMc sxML sxMr sxTK l sxI73 := by
  obtain ⟨its2, hk⟩ := Option.isSome_iff_exists.mp sxvI73
  exact sx_met_of (h := sxhI73) sxTK_ok (sxTK2 sxksX10_ok) sxt_X10_isWord sxFW_ok (sx_cons (sxmI70) (sx_cons (sxmI72) sx_nil)) (fun L h => by cases h) rfl (by decide +kernel) (by decide) rfl ⟨rfl, rfl, rfl, rfl⟩ hk
def sxI74 : sxI := (1, (3, 120), ([(.ofNat 0, .ofNat 0)], [70], 0, [], [], [], []), [(2, 0, .ofNat 0)], [], [(([], [], 0, [], [], [], []), some (0, 0, .ofNat 3))])
theorem sxmI74 {PF : Nat → List Int → List (Nat → Int) → Prop} {l : Launch} : sx_met PF sxRT sxMy sxMc sxML sxMr sxTK l sxI74 := sx_hlen (k := 2) rfl
def sxI75 : sxI := (0, (3, 120), ([(.ofNat 0, .ofNat 0), (.ofNat 0, .ofNat 2)], [70], 0, [], [], [], []), [(2, 0, .ofNat 0), (0, 1, .ofNat 0)], [], [(([(.ofNat 0, .ofNat 255)], [], 0, [], [], [], []), some (0, 2, .ofNat 0))])
theorem sxmI75 {PF : Nat → List Int → List (Nat → Int) → Prop} {l : Launch} : sx_met PF sxRT sxMy sxMc sxML sxMr sxTK l sxI75 := sx_hchr (k := 2) rfl
def sxI76 : sxI := (14, (4, 141), ([(.ofNat 0, .ofNat 0), (.ofNat 0, .ofNat 0), (.ofNat 3, .ofNat 3)], [1, 70], 0, [], [], [], []), [(2, 0, .ofNat 0), (2, 1, .ofNat 0), (0, 1, .ofNat 0), (0, 2, .ofNat 0)], [], [(([(.ofNat 0, .ofNat 0)], [], 0, [], [], [], []), some (0, 3, .ofNat 0)), (([(.ofNat 1, .ofNat 1)], [], 0, [], [], [], []), some (0, 3, .ofNat 0))])
def sxhI76 : sxH := (sxk_X10_isWordIn, sxgX10, sxpX10, sxcX10, (sxkiX10, sxklX10, sxksX10), (7, sxI76.2.2.2.2.1, sxI76.2.2.2.2.2, 1), (3, 2, 0), (4, 141))
def sxjI76 : List sxJ := [((47, 0, 0), ([(0, .ofNat 0), (0, .ofNat 0)], [], []), (([(.ofNat 0, .ofNat 0), (.ofNat 0, .ofNat 0)], [], 0, [], [], [((0, 0), (0, .ofNat 3), (0, 6, .ofNat 0)), ((0, 0), (0, .ofNat 4), (0, 4, .ofNat 0)), ((0, 0), (0, .ofNat 5), (0, 3, .ofNat 0))], []), [(6, (0, 7, .ofNat 0)), (5, (0, 8, .ofNat 0)), (4, (0, 5, .ofNat 0)), (0, (2, 0, .ofNat 0)), (1, (2, 1, .ofNat 0)), (2, (0, 1, .ofNat 0)), (3, (0, 2, .ofNat 0))], [], ([(7, .negSucc 0)], .ofNat 0))),
  ((107, 11, 0), ([(8, .ofNat 0)], [], []), (sxE0, [], [], ([], .ofNat 0))),
  ((47, 0, 0), ([(0, .ofNat 0), (0, .ofNat 0)], [], []), (([(.ofNat 0, .ofNat 0), (.ofNat 0, .ofNat 0)], [], 0, [], [], [((0, 0), (0, .ofNat 3), (0, 6, .ofNat 0)), ((0, 0), (0, .ofNat 4), (0, 4, .ofNat 0)), ((0, 0), (0, .ofNat 5), (0, 3, .ofNat 0))], []), [(6, (0, 7, .ofNat 0)), (5, (0, 8, .ofNat 0)), (4, (0, 5, .ofNat 0)), (0, (2, 0, .ofNat 0)), (1, (2, 1, .ofNat 0)), (2, (0, 1, .ofNat 0)), (3, (0, 2, .ofNat 0))], [], ([(7, .negSucc 0)], .ofNat 0))),
  ((107, 11, 0), ([(8, .ofNat 0)], [], []), (sxE0, [], [], ([], .ofNat 0))),
  ((31, 10, 0), ([(0, .ofNat 0)], [1], []), (sxE0, [], [], ([], .ofNat 0))),
  ((47, 0, 0), ([(0, .ofNat 0), (0, .ofNat 1)], [], []), (([(.ofNat 0, .ofNat 3), (.ofNat 0, .ofNat 1)], [], 0, [], [], [((0, 0), (0, .ofNat 3), (0, 6, .ofNat 0)), ((0, 0), (0, .ofNat 4), (0, 4, .ofNat 0)), ((0, 0), (0, .ofNat 5), (0, 3, .ofNat 0))], []), [(6, (0, 8, .ofNat 0)), (5, (0, 9, .ofNat 0)), (4, (0, 5, .ofNat 0)), (0, (2, 0, .ofNat 0)), (1, (2, 1, .ofNat 0)), (2, (0, 1, .ofNat 0)), (3, (0, 2, .ofNat 0))], [], ([(8, .negSucc 0)], .ofNat 3))),
  ((107, 11, 0), ([(9, .ofNat 0)], [], []), (sxE0, [], [], ([], .ofNat 0))),
  ((107, 11, 1), ([(9, .ofNat 0)], [], []), (sxE0, [], [], ([], .ofNat 0))),
  ((63, 10, 1), ([(0, .ofNat 0), (10, .ofNat 0)], [1], []), (sxE0, [], [], ([], .ofNat 0))),
  ((47, 2, 0), ([(8, .ofNat 1), (0, .ofNat 0)], [], []), (sxE0, [], [], ([], .ofNat 0))),
  ((47, 2, 0), ([(8, .ofNat 1), (0, .ofNat 1)], [], []), (sxE0, [], [], ([], .ofNat 0))),
  ((81, 10, 2), ([(0, .ofNat 0), (12, .ofNat 0)], [0], []), (sxE0, [], [], ([], .ofNat 0))),
  ((47, 2, 0), ([(8, .ofNat 1), (0, .ofNat 0)], [], []), (sxE0, [], [], ([], .ofNat 0))),
  ((84, 7, 0), ([], [], []), (sxE0, [], [], ([(12, .negSucc 0)], .ofNat 399))),
  ((47, 2, 0), ([(8, .ofNat 1), (0, .ofNat 0)], [], []), (sxE0, [], [], ([], .ofNat 0))),
  ((47, 2, 0), ([(8, .ofNat 1), (0, .ofNat 1)], [], []), (sxE0, [], [], ([], .ofNat 0)))]
theorem sxvI76 : (sx_exec sxRT [sxI74, sxI75, sxI63] [] sxhI76 221 0 sxI76.2.2.1 (sx_argl 0 sxI76.2.2.2.1) [] [] sxjI76).isSome = true := by decide +kernel
theorem sxmI76 {PF : Nat → List Int → List (Nat → Int) → Prop} {l : Launch} : sx_met PF sxRT sxMy sxMc sxML sxMr sxTK l sxI76 := by
  obtain ⟨its2, hk⟩ := Option.isSome_iff_exists.mp sxvI76
  exact sx_met_of (h := sxhI76) sxTK_ok (sxTK2 sxksX10_ok) sxt_X10_isWordIn sxFW_ok (sx_cons (sxmI74) (sx_cons (sxmI75) (sx_cons (sxmI63) sx_nil))) (fun L h => by cases h) rfl (by decide +kernel) (by decide) rfl ⟨rfl, rfl, rfl, rfl⟩ hk
def sxI77 : sxI := (13, (5, 167), ([(.ofNat 0, .ofNat 0)], [1, 70], 0, [], [], [], []), [(2, 0, .ofNat 0), (2, 1, .ofNat 0)], [], [(([(.ofNat 0, .ofNat 0)], [], 0, [], [], [], []), some (0, 1, .ofNat 0)), (([(.ofNat 1, .ofNat 1)], [], 0, [], [], [], []), some (0, 1, .ofNat 0))])
def sxhI77 : sxH := (sxk_X10_isWord, sxgX10, sxpX10, sxcX10, (sxkiX10, sxklX10, sxksX10), (2, sxI77.2.2.2.2.1, sxI77.2.2.2.2.2, 1), (1, 2, 0), (5, 167))
def sxjI77 : List sxJ := [((4, 10, 0), ([(0, .ofNat 0)], [1], []), (sxE0, [], [], ([], .ofNat 0))),
  ((7, 10, 1), ([(0, .ofNat 0), (0, .ofNat 0), (0, .ofNat 3)], [0, 1], []), (sxE0, [], [], ([], .ofNat 0))),
  ((10, 11, 0), ([(1, .ofNat 0)], [], []), (sxE0, [], [], ([], .ofNat 0))),
  ((10, 11, 1), ([(1, .ofNat 0)], [], []), (sxE0, [], [], ([], .ofNat 0)))]
theorem sxvI77 : (sx_exec sxRT [sxI74, sxI76] [] sxhI77 62 0 sxI77.2.2.1 (sx_argl 0 sxI77.2.2.2.1) [] [] sxjI77).isSome = true := by decide +kernel
theorem sxmI77 {PF : Nat → List Int → List (Nat → Int) → Prop} {l : Launch} : sx_met PF sxRT sxMy sxMc sxML sxMr sxTK l sxI77 := by
  obtain ⟨its2, hk⟩ := Option.isSome_iff_exists.mp sxvI77
  exact sx_met_of (h := sxhI77) sxTK_ok (sxTK2 sxksX10_ok) sxt_X10_isWord sxFW_ok (sx_cons (sxmI74) (sx_cons (sxmI76) sx_nil)) (fun L h => by cases h) rfl (by decide +kernel) (by decide) rfl ⟨rfl, rfl, rfl, rfl⟩ hk
def sxI78 : sxI := (10, (2, 40), ([(.ofNat 0, .ofNat 0), (.negSucc 2147483647, .ofNat 2147483647)], [1], 0, [], [], [], []), [(2, 0, .ofNat 0), (0, 1, .ofNat 0)], [(1, 2, 3)], [(([], [], 0, [], [], [], []), some (0, 0, .ofNat 0))])
def sxhI78 : sxH := (sxk_X10_fail, sxgX10, sxpX10, sxcX10, (sxkiX10, sxklX10, sxksX10), (2, sxI78.2.2.2.2.1, sxI78.2.2.2.2.2, 1), (2, 1, 0), (2, 40))
def sxjI78 : List sxJ := [((16, 11, 0), ([], [], []), (sxE0, [], [], ([], .ofNat 0)))]
theorem sxvI78 : (sx_exec sxRT [] [] sxhI78 63 0 sxI78.2.2.1 (sx_argl 0 sxI78.2.2.2.1) [] [] sxjI78).isSome = true := by decide +kernel
theorem sxmI78 {PF : Nat → List Int → List (Nat → Int) → Prop} {l : Launch} : sx_met PF sxRT sxMy sxMc sxML sxMr sxTK l sxI78 := by
  obtain ⟨its2, hk⟩ := Option.isSome_iff_exists.mp sxvI78
  exact sx_met_of (h := sxhI78) sxTK_ok (sxTK2 sxksX10_ok) sxt_X10_fail sxFW_ok sx_nil (fun L h => by cases h) rfl (by decide +kernel) (by decide) rfl ⟨rfl, rfl, rfl, rfl⟩ hk
def sxI79 : sxI := (15, (3, 61), ([(.ofNat 0, .ofNat 0)], [1], 0, [], [], [], []), [(2, 0, .ofNat 0)], [], [(([(.negSucc 2147483647, .ofNat 2147483647)], [], 0, [], [], [], []), some (0, 1, .ofNat 0))])
def sxhI79 : sxH := (sxk_X10_number, sxgX10, sxpX10, sxcX10, (sxkiX10, sxklX10, sxksX10), (3, sxI79.2.2.2.2.1, sxI79.2.2.2.2.2, 0), (1, 1, 0), (3, 61))
def sxjI79 : List sxJ := [((7, 0, 0), ([(1, .ofNat 0), (0, .ofNat 0)], [], []), (([(.ofNat 0, .ofNat 401), (.negSucc 2147483647, .ofNat 2147483647)], [], 0, [([(2, .ofNat 1), (1, .negSucc 0)], .ofNat 0)], [], [((0, 0), (0, .ofNat 4), (0, 1, .ofNat 0))], []), [(2, (0, 2, .ofNat 0)), (1, (0, 3, .ofNat 0)), (0, (2, 0, .ofNat 0))], [], ([(2, .negSucc 0)], .ofNat 401))),
  ((46, 11, 0), ([(3, .ofNat 0)], [], []), (sxE0, [], [], ([], .ofNat 0))),
  ((46, 11, 0), ([(3, .ofNat 0)], [], []), (sxE0, [], [], ([], .ofNat 0))),
  ((31, 10, 0), ([(0, .ofNat 0), (2, .ofNat 0)], [0], []), (sxE0, [], [], ([], .ofNat 0))),
  ((35, 8, 0), ([], [], []), (sxE0, [], [], ([], .ofNat 0))),
  ((38, 8, 0), ([], [], []), (sxE0, [], [], ([], .ofNat 0))),
  ((7, 2, 0), ([(2, .ofNat 1), (7, .ofNat 0)], [], []), (sxE0, [], [], ([], .ofNat 0))),
  ((34, 7, 0), ([], [], []), (sxE0, [], [], ([(2, .negSucc 0)], .ofNat 399))),
  ((38, 8, 0), ([], [], []), (sxE0, [], [], ([], .ofNat 0))),
  ((7, 2, 0), ([(2, .ofNat 1), (8, .ofNat 0)], [], []), (sxE0, [], [], ([], .ofNat 0)))]
theorem sxvI79 : (sx_exec sxRT [sxI63] [] sxhI79 148 0 sxI79.2.2.1 (sx_argl 0 sxI79.2.2.2.1) [] [] sxjI79).isSome = true := by decide +kernel
theorem sxmI79 {PF : Nat → List Int → List (Nat → Int) → Prop} {l : Launch} : sx_met PF sxRT sxMy sxMc sxML sxMr sxTK l sxI79 := by
  obtain ⟨its2, hk⟩ := Option.isSome_iff_exists.mp sxvI79
  exact sx_met_of (h := sxhI79) sxTK_ok (sxTK2 sxksX10_ok) sxt_X10_number sxFW_ok (sx_cons (sxmI63) sx_nil) (fun L h => by cases h) rfl (by decide +kernel) (by decide) rfl ⟨rfl, rfl, rfl, rfl⟩ hk
def sxI80 : sxI := (12, (2, 40), ([(.ofNat 0, .ofNat 0)], [1], 0, [], [], [], []), [(2, 0, .ofNat 0)], [], [(([], [], 0, [], [], [], []), some (0, 0, .ofNat 0)), (([], [], 0, [], [], [], []), some (0, 0, .ofNat 1))])
def sxhI80 : sxH := (sxk_X10_isTooLong, sxgX10, sxpX10, sxcX10, (sxkiX10, sxklX10, sxksX10), (1, sxI80.2.2.2.2.1, sxI80.2.2.2.2.2, 1), (1, 1, 0), (2, 40))
def sxjI80 : List sxJ := [((18, 11, 0), ([], [], []), (sxE0, [], [], ([], .ofNat 0))),
  ((18, 11, 1), ([], [], []), (sxE0, [], [], ([], .ofNat 0)))]
theorem sxvI80 : (sx_exec sxRT [] [] sxhI80 64 0 sxI80.2.2.1 (sx_argl 0 sxI80.2.2.2.1) [] [] sxjI80).isSome = true := by decide +kernel
theorem sxmI80 {PF : Nat → List Int → List (Nat → Int) → Prop} {l : Launch} : sx_met PF sxRT sxMy sxMc sxML sxMr sxTK l sxI80 := by
  obtain ⟨its2, hk⟩ := Option.isSome_iff_exists.mp sxvI80
  exact sx_met_of (h := sxhI80) sxTK_ok (sxTK2 sxksX10_ok) sxt_X10_isTooLong sxFW_ok sx_nil (fun L h => by cases h) rfl (by decide +kernel) (by decide) rfl ⟨rfl, rfl, rfl, rfl⟩ hk
def sxI81 : sxI := (19, (4, 87), ([(.ofNat 0, .ofNat 0), (.ofNat 1, .ofNat 1), (.ofNat 30, .ofNat 30), (.ofNat 0, .ofNat 400)], [1], 0, [], [], [((0, 0), (0, .ofNat 5), (0, 3, .ofNat 0))], []), [(2, 0, .ofNat 0), (0, 1, .ofNat 0), (0, 2, .ofNat 0)], [(1, 2, 6)], [(([], [], 0, [], [], [((0, 0), (0, .ofNat 5), (0, 3, .ofNat 0))], []), some (0, 0, .negSucc 0)), (([(.ofNat 1, .ofNat 30), (.ofNat 0, .ofNat 400)], [], 0, [], [], [((0, 0), (0, .ofNat 5), (0, 5, .ofNat 0))], []), some (0, 4, .ofNat 0))])
def sxhI81 : sxH := (sxk_X10_takeNumber, sxgX10, sxpX10, sxcX10, (sxkiX10, sxklX10, sxksX10), (4, sxI81.2.2.2.2.1, sxI81.2.2.2.2.2, 0), (4, 1, 0), (4, 87))
def sxjI81 : List sxJ := [((19, 10, 0), ([(0, .ofNat 0)], [0], []), (sxE0, [], [], ([], .ofNat 0))),
  ((24, 10, 1), ([(0, .ofNat 0)], [0], []), (sxE0, [], [], ([], .ofNat 0))),
  ((42, 10, 2), ([(0, .ofNat 0), (0, .ofNat 1)], [0], []), (sxE0, [], [], ([], .ofNat 0))),
  ((47, 11, 0), ([], [], []), (sxE0, [], [], ([], .ofNat 0))),
  ((49, 10, 3), ([(0, .ofNat 0), (3, .ofNat 0)], [0], []), (sxE0, [], [], ([], .ofNat 0))),
  ((53, 11, 1), ([(5, .ofNat 0), (6, .ofNat 0)], [], []), (sxE0, [], [], ([], .ofNat 0))),
  ((42, 10, 2), ([(0, .ofNat 0), (0, .ofNat 1)], [0], []), (sxE0, [], [], ([], .ofNat 0))),
  ((47, 11, 0), ([], [], []), (sxE0, [], [], ([], .ofNat 0))),
  ((42, 10, 2), ([(0, .ofNat 0), (0, .ofNat 1)], [0], []), (sxE0, [], [], ([], .ofNat 0))),
  ((47, 11, 0), ([], [], []), (sxE0, [], [], ([], .ofNat 0))),
  ((12, 10, 2), ([(0, .ofNat 0), (0, .ofNat 0)], [0], []), (sxE0, [], [], ([], .ofNat 0))),
  ((17, 11, 0), ([], [], []), (sxE0, [], [], ([], .ofNat 0)))]
theorem sxvI81 : (sx_exec sxRT [sxI79, sxI80, sxI78, sxI64] [] sxhI81 107 0 sxI81.2.2.1 (sx_argl 0 sxI81.2.2.2.1) [] [] sxjI81).isSome = true := by decide +kernel
theorem sxmI81 {PF : Nat → List Int → List (Nat → Int) → Prop} {l : Launch} : sx_met PF sxRT sxMy sxMc sxML sxMr sxTK l sxI81 := by
  obtain ⟨its2, hk⟩ := Option.isSome_iff_exists.mp sxvI81
  exact sx_met_of (h := sxhI81) sxTK_ok (sxTK2 sxksX10_ok) sxt_X10_takeNumber sxFW_ok (sx_cons (sxmI79) (sx_cons (sxmI80) (sx_cons (sxmI78) (sx_cons (sxmI64) sx_nil)))) (fun L h => by cases h) rfl (by decide +kernel) (by decide) rfl ⟨rfl, rfl, rfl, rfl⟩ hk
def sxI82 : sxI := (19, (4, 87), ([(.ofNat 0, .ofNat 0), (.ofNat 0, .ofNat 0), (.ofNat 9, .ofNat 9), (.ofNat 0, .ofNat 400)], [1], 0, [], [], [((0, 0), (0, .ofNat 5), (0, 3, .ofNat 0))], []), [(2, 0, .ofNat 0), (0, 1, .ofNat 0), (0, 2, .ofNat 0)], [(1, 2, 6)], [(([], [], 0, [], [], [((0, 0), (0, .ofNat 5), (0, 3, .ofNat 0))], []), some (0, 0, .negSucc 0)), (([(.ofNat 0, .ofNat 9), (.ofNat 0, .ofNat 400)], [], 0, [], [], [((0, 0), (0, .ofNat 5), (0, 5, .ofNat 0))], []), some (0, 4, .ofNat 0))])
def sxhI82 : sxH := (sxk_X10_takeNumber, sxgX10, sxpX10, sxcX10, (sxkiX10, sxklX10, sxksX10), (4, sxI82.2.2.2.2.1, sxI82.2.2.2.2.2, 0), (4, 1, 0), (4, 87))
def sxjI82 : List sxJ := [((19, 10, 0), ([(0, .ofNat 0)], [0], []), (sxE0, [], [], ([], .ofNat 0))),
  ((24, 10, 1), ([(0, .ofNat 0)], [0], []), (sxE0, [], [], ([], .ofNat 0))),
  ((42, 10, 2), ([(0, .ofNat 0), (0, .ofNat 1)], [0], []), (sxE0, [], [], ([], .ofNat 0))),
  ((47, 11, 0), ([], [], []), (sxE0, [], [], ([], .ofNat 0))),
  ((49, 10, 3), ([(0, .ofNat 0), (3, .ofNat 0)], [0], []), (sxE0, [], [], ([], .ofNat 0))),
  ((53, 11, 1), ([(5, .ofNat 0), (6, .ofNat 0)], [], []), (sxE0, [], [], ([], .ofNat 0))),
  ((42, 10, 2), ([(0, .ofNat 0), (0, .ofNat 1)], [0], []), (sxE0, [], [], ([], .ofNat 0))),
  ((47, 11, 0), ([], [], []), (sxE0, [], [], ([], .ofNat 0))),
  ((42, 10, 2), ([(0, .ofNat 0), (0, .ofNat 1)], [0], []), (sxE0, [], [], ([], .ofNat 0))),
  ((47, 11, 0), ([], [], []), (sxE0, [], [], ([], .ofNat 0))),
  ((12, 10, 2), ([(0, .ofNat 0), (0, .ofNat 0)], [0], []), (sxE0, [], [], ([], .ofNat 0))),
  ((17, 11, 0), ([], [], []), (sxE0, [], [], ([], .ofNat 0)))]
theorem sxvI82 : (sx_exec sxRT [sxI79, sxI80, sxI78, sxI64] [] sxhI82 107 0 sxI82.2.2.1 (sx_argl 0 sxI82.2.2.2.1) [] [] sxjI82).isSome = true := by decide +kernel
theorem sxmI82 {PF : Nat → List Int → List (Nat → Int) → Prop} {l : Launch} : sx_met PF sxRT sxMy sxMc sxML sxMr sxTK l sxI82 := by
  obtain ⟨its2, hk⟩ := Option.isSome_iff_exists.mp sxvI82
  exact sx_met_of (h := sxhI82) sxTK_ok (sxTK2 sxksX10_ok) sxt_X10_takeNumber sxFW_ok (sx_cons (sxmI79) (sx_cons (sxmI80) (sx_cons (sxmI78) (sx_cons (sxmI64) sx_nil)))) (fun L h => by cases h) rfl (by decide +kernel) (by decide) rfl ⟨rfl, rfl, rfl, rfl⟩ hk
def sxI83 : sxI := (194, (5, 110), ([(.ofNat 0, .ofNat 0), (.ofNat 0, .ofNat 400)], [1, 20], 0, [], [], [((0, 0), (0, .ofNat 5), (0, 1, .ofNat 0))], []), [(2, 0, .ofNat 0), (2, 1, .ofNat 0)], [(1, 2, 6), (20, 1, 3)], [(([(.ofNat 0, .ofNat 400)], [], 0, [], [], [((0, 0), (0, .ofNat 5), (0, 2, .ofNat 0))], []), some (0, 0, .ofNat 0)), (([(.ofNat 0, .ofNat 400)], [], 0, [], [], [((0, 0), (0, .ofNat 5), (0, 2, .ofNat 0))], []), some (0, 0, .ofNat 1))])
def sxhI83 : sxH := (sxk_X2_readsHouse, sxgX2, sxpX2, sxcX2, (sxkiX2, sxklX2, sxksX2), (2, sxI83.2.2.2.2.1, sxI83.2.2.2.2.2, 1), (2, 2, 0), (5, 110))
def sxjI83 : List sxJ := [((5, 10, 0), ([(0, .ofNat 0), (0, .ofNat 1), (0, .ofNat 30), (1, .ofNat 0)], [0], []), (sxE0, [], [], ([], .ofNat 0))),
  ((47, 11, 0), ([(1, .ofNat 0)], [], []), (sxE0, [], [], ([], .ofNat 0))),
  ((28, 10, 1), ([(0, .ofNat 0), (0, .ofNat 0), (0, .ofNat 9), (3, .ofNat 0)], [0], []), (sxE0, [], [], ([], .ofNat 0))),
  ((47, 11, 0), ([(3, .ofNat 0)], [], []), (sxE0, [], [], ([], .ofNat 0))),
  ((47, 11, 1), ([(5, .ofNat 0)], [], []), (sxE0, [], [], ([], .ofNat 0)))]
theorem sxvI83 : (sx_exec sxRT [sxI81, sxI82] [] sxhI83 100 0 sxI83.2.2.1 (sx_argl 0 sxI83.2.2.2.1) [] [] sxjI83).isSome = true := by decide +kernel
theorem sxmI83 {PF : Nat → List Int → List (Nat → Int) → Prop} {l : Launch} : sx_met PF sxRT sxMy sxMc sxML sxMr sxTK l sxI83 := by
  obtain ⟨its2, hk⟩ := Option.isSome_iff_exists.mp sxvI83
  exact sx_met_of (h := sxhI83) sxTK_ok (sxTK2 sxksX2_ok) sxt_X2_readsHouse sxFW_ok (sx_cons (sxmI81) (sx_cons (sxmI82) sx_nil)) (fun L h => by cases h) rfl (by decide +kernel) (by decide) rfl ⟨rfl, rfl, rfl, rfl⟩ hk
def sxI84 : sxI := (193, (6, 188), ([(.ofNat 0, .ofNat 0), (.ofNat 0, .ofNat 0), (.ofNat 0, .ofNat 400)], [1, 20], 0, [], [], [((0, 0), (0, .ofNat 5), (0, 2, .ofNat 0))], []), [(2, 0, .ofNat 0), (2, 1, .ofNat 0), (0, 1, .ofNat 0)], [(1, 2, 6), (20, 1, 3)], [(([(.ofNat 0, .ofNat 400)], [], 0, [], [], [((0, 0), (0, .ofNat 5), (0, 3, .ofNat 0))], []), some (0, 0, .ofNat 0)), (([(.ofNat 0, .ofNat 400)], [], 0, [], [], [((0, 0), (0, .ofNat 5), (0, 3, .ofNat 0))], []), some (0, 0, .ofNat 1))])
def sxhI84 : sxH := (sxk_X2_readsClause, sxgX2, sxpX2, sxcX2, (sxkiX2, sxklX2, sxksX2), (6, sxI84.2.2.2.2.1, sxI84.2.2.2.2.2, 1), (3, 2, 0), (6, 188))
def sxjI84 : List sxJ := [((3, 10, 0), ([(0, .ofNat 0)], [0, 2], []), (sxE0, [], [], ([], .ofNat 0))),
  ((10, 10, 1), ([(0, .ofNat 0)], [0, 3], []), (sxE0, [], [], ([], .ofNat 0))),
  ((18, 10, 2), ([(0, .ofNat 0)], [0, 4], []), (sxE0, [], [], ([], .ofNat 0))),
  ((39, 10, 3), ([(0, .ofNat 0), (0, .ofNat 0)], [0], []), (sxE0, [], [], ([], .ofNat 0))),
  ((42, 11, 0), ([(2, .ofNat 0)], [], []), (sxE0, [], [], ([], .ofNat 0))),
  ((92, 10, 3), ([(0, .ofNat 0), (0, .ofNat 4)], [0], []), (sxE0, [], [], ([], .ofNat 0))),
  ((95, 11, 0), ([(2, .ofNat 0)], [], []), (sxE0, [], [], ([], .ofNat 0))),
  ((18, 10, 2), ([(0, .ofNat 0)], [0, 4], []), (sxE0, [], [], ([], .ofNat 0))),
  ((92, 10, 3), ([(0, .ofNat 0), (0, .ofNat 4)], [0], []), (sxE0, [], [], ([], .ofNat 0))),
  ((95, 11, 0), ([(2, .ofNat 0)], [], []), (sxE0, [], [], ([], .ofNat 0))),
  ((92, 10, 3), ([(0, .ofNat 0), (0, .ofNat 4)], [0], []), (sxE0, [], [], ([], .ofNat 0))),
  ((95, 11, 0), ([(2, .ofNat 0)], [], []), (sxE0, [], [], ([], .ofNat 0))),
  ((10, 10, 1), ([(0, .ofNat 0)], [0, 3], []), (sxE0, [], [], ([], .ofNat 0))),
  ((18, 10, 2), ([(0, .ofNat 0)], [0, 4], []), (sxE0, [], [], ([], .ofNat 0))),
  ((97, 10, 4), ([(0, .ofNat 0), (2, .ofNat 0)], [0], []), (sxE0, [], [], ([], .ofNat 0))),
  ((106, 10, 5), ([(0, .ofNat 0), (6, .ofNat 0)], [0, 1], []), (sxE0, [], [], ([], .ofNat 0))),
  ((109, 11, 0), ([(7, .ofNat 0)], [], []), (sxE0, [], [], ([], .ofNat 0))),
  ((109, 11, 1), ([(7, .ofNat 0)], [], []), (sxE0, [], [], ([], .ofNat 0))),
  ((97, 10, 4), ([(0, .ofNat 0), (2, .ofNat 0)], [0], []), (sxE0, [], [], ([], .ofNat 0))),
  ((106, 10, 5), ([(0, .ofNat 0), (7, .ofNat 0)], [0, 1], []), (sxE0, [], [], ([], .ofNat 0))),
  ((109, 11, 0), ([(8, .ofNat 0)], [], []), (sxE0, [], [], ([], .ofNat 0))),
  ((109, 11, 1), ([(8, .ofNat 0)], [], []), (sxE0, [], [], ([], .ofNat 0))),
  ((92, 10, 3), ([(0, .ofNat 0), (0, .ofNat 4)], [0], []), (sxE0, [], [], ([], .ofNat 0))),
  ((95, 11, 0), ([(2, .ofNat 0)], [], []), (sxE0, [], [], ([], .ofNat 0))),
  ((18, 10, 2), ([(0, .ofNat 0)], [0, 4], []), (sxE0, [], [], ([], .ofNat 0))),
  ((92, 10, 3), ([(0, .ofNat 0), (0, .ofNat 4)], [0], []), (sxE0, [], [], ([], .ofNat 0))),
  ((95, 11, 0), ([(2, .ofNat 0)], [], []), (sxE0, [], [], ([], .ofNat 0))),
  ((97, 10, 4), ([(0, .ofNat 0), (2, .ofNat 0)], [0], []), (sxE0, [], [], ([], .ofNat 0))),
  ((106, 10, 5), ([(0, .ofNat 0), (7, .ofNat 0)], [0, 1], []), (sxE0, [], [], ([], .ofNat 0))),
  ((109, 11, 0), ([(8, .ofNat 0)], [], []), (sxE0, [], [], ([], .ofNat 0))),
  ((109, 11, 1), ([(8, .ofNat 0)], [], []), (sxE0, [], [], ([], .ofNat 0))),
  ((92, 10, 3), ([(0, .ofNat 0), (0, .ofNat 4)], [0], []), (sxE0, [], [], ([], .ofNat 0))),
  ((95, 11, 0), ([(2, .ofNat 0)], [], []), (sxE0, [], [], ([], .ofNat 0))),
  ((97, 10, 4), ([(0, .ofNat 0), (2, .ofNat 0)], [0], []), (sxE0, [], [], ([], .ofNat 0))),
  ((106, 10, 5), ([(0, .ofNat 0), (8, .ofNat 0)], [0, 1], []), (sxE0, [], [], ([], .ofNat 0))),
  ((109, 11, 0), ([(9, .ofNat 0)], [], []), (sxE0, [], [], ([], .ofNat 0))),
  ((109, 11, 1), ([(9, .ofNat 0)], [], []), (sxE0, [], [], ([], .ofNat 0))),
  ((92, 10, 3), ([(0, .ofNat 0), (0, .ofNat 4)], [0], []), (sxE0, [], [], ([], .ofNat 0))),
  ((95, 11, 0), ([(2, .ofNat 0)], [], []), (sxE0, [], [], ([], .ofNat 0)))]
theorem sxvI84 : (sx_exec sxRT [sxI69, sxI73, sxI77, sxI78, sxI64, sxI83] [] sxhI84 315 0 sxI84.2.2.1 (sx_argl 0 sxI84.2.2.2.1) [] [] sxjI84).isSome = true := by decide +kernel
theorem sxmI84 {PF : Nat → List Int → List (Nat → Int) → Prop} {l : Launch} : sx_met PF sxRT sxMy sxMc sxML sxMr sxTK l sxI84 := by
  obtain ⟨its2, hk⟩ := Option.isSome_iff_exists.mp sxvI84
  exact sx_met_of (h := sxhI84) sxTK_ok (sxTK2 sxksX2_ok) sxt_X2_readsClause sxFW_ok (sx_cons (sxmI69) (sx_cons (sxmI73) (sx_cons (sxmI77) (sx_cons (sxmI78) (sx_cons (sxmI64) (sx_cons (sxmI83) sx_nil)))))) (fun L h => by cases h) rfl (by decide +kernel) (by decide) rfl ⟨rfl, rfl, rfl, rfl⟩ hk
