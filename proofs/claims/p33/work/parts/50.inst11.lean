def sxI196 : sxI := (219, (4, 92), ([(.ofNat 0, .ofNat 0), (.ofNat 6, .ofNat 6), (.negSucc 2147483647, .ofNat 2147483647), (.negSucc 2147483647, .ofNat 2147483647)], [36, 20, 26], 0, [], [], [((0, 0), (0, .ofNat 3), (2, 1, .ofNat 0)), ((0, 0), (0, .ofNat 4), (2, 2, .ofNat 0))], []), [(2, 0, .ofNat 0), (0, 1, .ofNat 0), (0, 2, .ofNat 0), (0, 3, .ofNat 0)], [(37, 6, 7), (40, 0, 7)], [(([(.ofNat 1, .ofNat 1)], [], 0, [], [], [((0, 0), (0, .ofNat 3), (2, 1, .ofNat 0)), ((0, 0), (0, .ofNat 4), (2, 2, .ofNat 0))], []), some (0, 4, .ofNat 0)), (([(.ofNat 0, .ofNat 0)], [], 0, [], [], [((0, 0), (0, .ofNat 3), (2, 1, .ofNat 0)), ((0, 0), (0, .ofNat 4), (2, 2, .ofNat 0))], []), some (0, 4, .ofNat 0))])
def sxhI196 : sxH := (sxk_X6_laysFrom, sxgX6, sxpX6, sxcX6, (sxkiX6, sxklX6, sxksX6), (6, sxI196.2.2.2.2.1, sxI196.2.2.2.2.2, 1), (4, 3, 0), (4, 92))
def sxjI196 : List sxJ := [((21, 0, 0), ([(0, .ofNat 0), (0, .ofNat 0)], [], []), (([(.ofNat 0, .ofNat 7), (.ofNat 0, .ofNat 1)], [], 0, [], [], [((0, 1), (0, .ofNat 3), (0, 4, .ofNat 0)), ((0, 0), (0, .ofNat 3), (2, 1, .ofNat 0)), ((0, 0), (0, .ofNat 4), (2, 2, .ofNat 0))], []), [(5, (0, 5, .ofNat 0)), (4, (0, 6, .ofNat 0)), (0, (2, 0, .ofNat 0)), (1, (0, 1, .ofNat 0)), (2, (0, 2, .ofNat 0)), (3, (0, 3, .ofNat 0))], [], ([(5, .negSucc 0)], .ofNat 7))),
  ((74, 11, 0), ([(6, .ofNat 0)], [], []), (sxE0, [], [], ([], .ofNat 0))),
  ((74, 11, 1), ([(6, .ofNat 0)], [], []), (sxE0, [], [], ([], .ofNat 0))),
  ((21, 2, 0), ([(5, .ofNat 1), (0, .ofNat 0)], [], []), (sxE0, [], [], ([], .ofNat 0))),
  ((53, 10, 0), ([(0, .ofNat 0), (5, .ofNat 0), (1, .ofNat 0), (2, .ofNat 0), (3, .ofNat 0)], [0, 1, 2], []), (sxE0, [], [], ([], .ofNat 0))),
  ((21, 2, 0), ([(5, .ofNat 1), (0, .ofNat 0)], [], []), (sxE0, [], [], ([], .ofNat 0))),
  ((21, 2, 0), ([(5, .ofNat 1), (0, .ofNat 1)], [], []), (sxE0, [], [], ([], .ofNat 0))),
  ((21, 0, 0), ([(0, .ofNat 0), (0, .ofNat 1)], [], []), (([(.ofNat 0, .ofNat 0), (.ofNat 1, .ofNat 1)], [], 0, [], [], [((0, 1), (0, .ofNat 3), (0, 4, .ofNat 0)), ((0, 0), (0, .ofNat 3), (2, 1, .ofNat 0)), ((0, 0), (0, .ofNat 4), (2, 2, .ofNat 0))], []), [(5, (0, 5, .ofNat 0)), (4, (0, 6, .ofNat 0)), (0, (2, 0, .ofNat 0)), (1, (0, 1, .ofNat 0)), (2, (0, 2, .ofNat 0)), (3, (0, 3, .ofNat 0))], [], ([(5, .negSucc 0)], .ofNat 0))),
  ((74, 11, 0), ([(6, .ofNat 0)], [], []), (sxE0, [], [], ([], .ofNat 0)))]
theorem sxvI196 : (sx_exec sxRT [sxI195] [] sxhI196 158 0 sxI196.2.2.1 (sx_argl 0 sxI196.2.2.2.1) [] [] sxjI196).isSome = true := by decide +kernel
theorem sxmI196 {PF : Nat → List Int → List (Nat → Int) → Prop} {l : Launch} : sx_met PF sxRT sxMy sxMc sxML sxMr sxTK l sxI196 := by
  obtain ⟨its2, hk⟩ := Option.isSome_iff_exists.mp sxvI196
  exact sx_met_of (h := sxhI196) sxTK_ok (sxTK2 sxksX6_ok) sxt_X6_laysFrom sxFW_ok (sx_cons (sxmI195) sx_nil) (fun L h => by cases h) rfl (by decide +kernel) (by decide) rfl ⟨rfl, rfl, rfl, rfl⟩ hk
def sxI197 : sxI := (218, (5, 117), ([(.ofNat 0, .ofNat 0), (.ofNat 0, .ofNat 6), (.ofNat 5, .ofNat 5), (.negSucc 2147483647, .ofNat 2147483647), (.negSucc 2147483647, .ofNat 2147483647)], [36, 20, 26], 0, [], [], [((0, 0), (0, .ofNat 3), (2, 1, .ofNat 0)), ((0, 0), (0, .ofNat 4), (2, 2, .ofNat 0))], []), [(2, 0, .ofNat 0), (0, 1, .ofNat 0), (0, 2, .ofNat 0), (0, 3, .ofNat 0), (0, 4, .ofNat 0)], [(37, 5, 7), (40, 0, 7)], [(([], [], 0, [], [], [((0, 0), (0, .ofNat 3), (2, 1, .ofNat 0)), ((0, 0), (0, .ofNat 4), (2, 2, .ofNat 0))], []), some (0, 0, .ofNat 0)), (([], [], 0, [], [], [((0, 0), (0, .ofNat 3), (2, 1, .ofNat 0)), ((0, 0), (0, .ofNat 4), (2, 2, .ofNat 0))], []), some (0, 0, .ofNat 1))])
def sxhI197 : sxH := (sxk_X6_lays, sxgX6, sxpX6, sxcX6, (sxkiX6, sxklX6, sxksX6), (8, sxI197.2.2.2.2.1, sxI197.2.2.2.2.2, 1), (5, 3, 0), (5, 117))
def sxjI197 : List sxJ := [((30, 10, 0), ([(0, .ofNat 0), (1, .ofNat 0), (8, .ofNat 0)], [2], []), (sxE0, [], [], ([], .ofNat 0))),
  ((68, 11, 0), ([], [], []), (sxE0, [], [], ([], .ofNat 0))),
  ((75, 10, 1), ([(0, .ofNat 0), (2, .ofNat 0), (9, .ofNat 0)], [0], []), (sxE0, [], [], ([], .ofNat 0))),
  ((115, 11, 0), ([], [], []), (sxE0, [], [], ([], .ofNat 0))),
  ((104, 10, 2), ([(0, .ofNat 0), (2, .ofNat 1), (13, .ofNat 0), (11, .ofNat 0)], [0, 1, 2], []), (sxE0, [], [], ([], .ofNat 0))),
  ((115, 11, 1), ([], [], []), (sxE0, [], [], ([], .ofNat 0))),
  ((115, 11, 0), ([], [], []), (sxE0, [], [], ([], .ofNat 0))),
  ((30, 10, 0), ([(0, .ofNat 0), (1, .ofNat 0), (8, .ofNat 0)], [2], []), (sxE0, [], [], ([], .ofNat 0))),
  ((68, 11, 0), ([], [], []), (sxE0, [], [], ([], .ofNat 0))),
  ((75, 10, 1), ([(0, .ofNat 0), (2, .ofNat 0), (9, .ofNat 0)], [0], []), (sxE0, [], [], ([], .ofNat 0))),
  ((115, 11, 0), ([], [], []), (sxE0, [], [], ([], .ofNat 0))),
  ((104, 10, 2), ([(0, .ofNat 0), (2, .ofNat 1), (15, .ofNat 0), (13, .ofNat 0)], [0, 1, 2], []), (sxE0, [], [], ([], .ofNat 0))),
  ((115, 11, 1), ([], [], []), (sxE0, [], [], ([], .ofNat 0))),
  ((115, 11, 0), ([], [], []), (sxE0, [], [], ([], .ofNat 0))),
  ((68, 11, 0), ([], [], []), (sxE0, [], [], ([], .ofNat 0)))]
theorem sxvI197 : (sx_exec sxRT [sxI182, sxI192, sxI196] [] sxhI197 188 0 sxI197.2.2.1 (sx_argl 0 sxI197.2.2.2.1) [] [] sxjI197).isSome = true := by decide +kernel
theorem sxmI197 {PF : Nat → List Int → List (Nat → Int) → Prop} {l : Launch} : sx_met PF sxRT sxMy sxMc sxML sxMr sxTK l sxI197 := by
  obtain ⟨its2, hk⟩ := Option.isSome_iff_exists.mp sxvI197
  exact sx_met_of (h := sxhI197) sxTK_ok (sxTK2 sxksX6_ok) sxt_X6_lays sxFW_ok (sx_cons (sxmI182) (sx_cons (sxmI192) (sx_cons (sxmI196) sx_nil))) (fun L h => by cases h) rfl (by decide +kernel) (by decide) rfl ⟨rfl, rfl, rfl, rfl⟩ hk
def sxI198 : sxI := (219, (6, 144), ([(.ofNat 0, .ofNat 0), (.ofNat 5, .ofNat 5), (.negSucc 2147483647, .ofNat 2147483647), (.negSucc 2147483647, .ofNat 2147483647)], [36, 20, 26], 0, [], [], [((0, 0), (0, .ofNat 3), (2, 1, .ofNat 0)), ((0, 0), (0, .ofNat 4), (2, 2, .ofNat 0))], []), [(2, 0, .ofNat 0), (0, 1, .ofNat 0), (0, 2, .ofNat 0), (0, 3, .ofNat 0)], [(37, 5, 7), (40, 0, 7)], [(([(.ofNat 1, .ofNat 1)], [], 0, [], [], [((0, 0), (0, .ofNat 3), (2, 1, .ofNat 0)), ((0, 0), (0, .ofNat 4), (2, 2, .ofNat 0))], []), some (0, 4, .ofNat 0)), (([(.ofNat 0, .ofNat 0)], [], 0, [], [], [((0, 0), (0, .ofNat 3), (2, 1, .ofNat 0)), ((0, 0), (0, .ofNat 4), (2, 2, .ofNat 0))], []), some (0, 4, .ofNat 0))])
def sxhI198 : sxH := (sxk_X6_laysFrom, sxgX6, sxpX6, sxcX6, (sxkiX6, sxklX6, sxksX6), (6, sxI198.2.2.2.2.1, sxI198.2.2.2.2.2, 1), (4, 3, 0), (6, 144))
def sxjI198 : List sxJ := [((21, 0, 0), ([(0, .ofNat 0), (0, .ofNat 0)], [], []), (([(.ofNat 0, .ofNat 7), (.ofNat 0, .ofNat 1)], [], 0, [], [], [((0, 1), (0, .ofNat 3), (0, 4, .ofNat 0)), ((0, 0), (0, .ofNat 3), (2, 1, .ofNat 0)), ((0, 0), (0, .ofNat 4), (2, 2, .ofNat 0))], []), [(5, (0, 5, .ofNat 0)), (4, (0, 6, .ofNat 0)), (0, (2, 0, .ofNat 0)), (1, (0, 1, .ofNat 0)), (2, (0, 2, .ofNat 0)), (3, (0, 3, .ofNat 0))], [], ([(5, .negSucc 0)], .ofNat 7))),
  ((74, 11, 0), ([(6, .ofNat 0)], [], []), (sxE0, [], [], ([], .ofNat 0))),
  ((74, 11, 1), ([(6, .ofNat 0)], [], []), (sxE0, [], [], ([], .ofNat 0))),
  ((21, 2, 0), ([(5, .ofNat 1), (0, .ofNat 0)], [], []), (sxE0, [], [], ([], .ofNat 0))),
  ((53, 10, 0), ([(0, .ofNat 0), (5, .ofNat 0), (1, .ofNat 0), (2, .ofNat 0), (3, .ofNat 0)], [0, 1, 2], []), (sxE0, [], [], ([], .ofNat 0))),
  ((21, 2, 0), ([(5, .ofNat 1), (0, .ofNat 0)], [], []), (sxE0, [], [], ([], .ofNat 0))),
  ((21, 2, 0), ([(5, .ofNat 1), (0, .ofNat 1)], [], []), (sxE0, [], [], ([], .ofNat 0))),
  ((21, 0, 0), ([(0, .ofNat 0), (0, .ofNat 1)], [], []), (([(.ofNat 0, .ofNat 0), (.ofNat 1, .ofNat 1)], [], 0, [], [], [((0, 1), (0, .ofNat 3), (0, 4, .ofNat 0)), ((0, 0), (0, .ofNat 3), (2, 1, .ofNat 0)), ((0, 0), (0, .ofNat 4), (2, 2, .ofNat 0))], []), [(5, (0, 5, .ofNat 0)), (4, (0, 6, .ofNat 0)), (0, (2, 0, .ofNat 0)), (1, (0, 1, .ofNat 0)), (2, (0, 2, .ofNat 0)), (3, (0, 3, .ofNat 0))], [], ([(5, .negSucc 0)], .ofNat 0))),
  ((74, 11, 0), ([(6, .ofNat 0)], [], []), (sxE0, [], [], ([], .ofNat 0)))]
theorem sxvI198 : (sx_exec sxRT [sxI197] [] sxhI198 159 0 sxI198.2.2.1 (sx_argl 0 sxI198.2.2.2.1) [] [] sxjI198).isSome = true := by decide +kernel
theorem sxmI198 {PF : Nat → List Int → List (Nat → Int) → Prop} {l : Launch} : sx_met PF sxRT sxMy sxMc sxML sxMr sxTK l sxI198 := by
  obtain ⟨its2, hk⟩ := Option.isSome_iff_exists.mp sxvI198
  exact sx_met_of (h := sxhI198) sxTK_ok (sxTK2 sxksX6_ok) sxt_X6_laysFrom sxFW_ok (sx_cons (sxmI197) sx_nil) (fun L h => by cases h) rfl (by decide +kernel) (by decide) rfl ⟨rfl, rfl, rfl, rfl⟩ hk
def sxI199 : sxI := (218, (7, 169), ([(.ofNat 0, .ofNat 0), (.ofNat 0, .ofNat 6), (.ofNat 4, .ofNat 4), (.negSucc 2147483647, .ofNat 2147483647), (.negSucc 2147483647, .ofNat 2147483647)], [36, 20, 26], 0, [], [], [((0, 0), (0, .ofNat 3), (2, 1, .ofNat 0)), ((0, 0), (0, .ofNat 4), (2, 2, .ofNat 0))], []), [(2, 0, .ofNat 0), (0, 1, .ofNat 0), (0, 2, .ofNat 0), (0, 3, .ofNat 0), (0, 4, .ofNat 0)], [(37, 4, 7), (40, 0, 7)], [(([], [], 0, [], [], [((0, 0), (0, .ofNat 3), (2, 1, .ofNat 0)), ((0, 0), (0, .ofNat 4), (2, 2, .ofNat 0))], []), some (0, 0, .ofNat 0)), (([], [], 0, [], [], [((0, 0), (0, .ofNat 3), (2, 1, .ofNat 0)), ((0, 0), (0, .ofNat 4), (2, 2, .ofNat 0))], []), some (0, 0, .ofNat 1))])
def sxhI199 : sxH := (sxk_X6_lays, sxgX6, sxpX6, sxcX6, (sxkiX6, sxklX6, sxksX6), (8, sxI199.2.2.2.2.1, sxI199.2.2.2.2.2, 1), (5, 3, 0), (7, 169))
def sxjI199 : List sxJ := [((30, 10, 0), ([(0, .ofNat 0), (1, .ofNat 0), (8, .ofNat 0)], [2], []), (sxE0, [], [], ([], .ofNat 0))),
  ((68, 11, 0), ([], [], []), (sxE0, [], [], ([], .ofNat 0))),
  ((75, 10, 1), ([(0, .ofNat 0), (2, .ofNat 0), (9, .ofNat 0)], [0], []), (sxE0, [], [], ([], .ofNat 0))),
  ((115, 11, 0), ([], [], []), (sxE0, [], [], ([], .ofNat 0))),
  ((104, 10, 2), ([(0, .ofNat 0), (2, .ofNat 1), (13, .ofNat 0), (11, .ofNat 0)], [0, 1, 2], []), (sxE0, [], [], ([], .ofNat 0))),
  ((115, 11, 1), ([], [], []), (sxE0, [], [], ([], .ofNat 0))),
  ((115, 11, 0), ([], [], []), (sxE0, [], [], ([], .ofNat 0))),
  ((30, 10, 0), ([(0, .ofNat 0), (1, .ofNat 0), (8, .ofNat 0)], [2], []), (sxE0, [], [], ([], .ofNat 0))),
  ((68, 11, 0), ([], [], []), (sxE0, [], [], ([], .ofNat 0))),
  ((75, 10, 1), ([(0, .ofNat 0), (2, .ofNat 0), (9, .ofNat 0)], [0], []), (sxE0, [], [], ([], .ofNat 0))),
  ((115, 11, 0), ([], [], []), (sxE0, [], [], ([], .ofNat 0))),
  ((104, 10, 2), ([(0, .ofNat 0), (2, .ofNat 1), (15, .ofNat 0), (13, .ofNat 0)], [0, 1, 2], []), (sxE0, [], [], ([], .ofNat 0))),
  ((115, 11, 1), ([], [], []), (sxE0, [], [], ([], .ofNat 0))),
  ((115, 11, 0), ([], [], []), (sxE0, [], [], ([], .ofNat 0))),
  ((68, 11, 0), ([], [], []), (sxE0, [], [], ([], .ofNat 0)))]
theorem sxvI199 : (sx_exec sxRT [sxI182, sxI191, sxI198] [] sxhI199 188 0 sxI199.2.2.1 (sx_argl 0 sxI199.2.2.2.1) [] [] sxjI199).isSome = true := by decide +kernel
theorem sxmI199 {PF : Nat → List Int → List (Nat → Int) → Prop} {l : Launch} : sx_met PF sxRT sxMy sxMc sxML sxMr sxTK l sxI199 := by
  obtain ⟨its2, hk⟩ := Option.isSome_iff_exists.mp sxvI199
  exact sx_met_of (h := sxhI199) sxTK_ok (sxTK2 sxksX6_ok) sxt_X6_lays sxFW_ok (sx_cons (sxmI182) (sx_cons (sxmI191) (sx_cons (sxmI198) sx_nil))) (fun L h => by cases h) rfl (by decide +kernel) (by decide) rfl ⟨rfl, rfl, rfl, rfl⟩ hk
def sxI200 : sxI := (219, (8, 196), ([(.ofNat 0, .ofNat 0), (.ofNat 4, .ofNat 4), (.negSucc 2147483647, .ofNat 2147483647), (.negSucc 2147483647, .ofNat 2147483647)], [36, 20, 26], 0, [], [], [((0, 0), (0, .ofNat 3), (2, 1, .ofNat 0)), ((0, 0), (0, .ofNat 4), (2, 2, .ofNat 0))], []), [(2, 0, .ofNat 0), (0, 1, .ofNat 0), (0, 2, .ofNat 0), (0, 3, .ofNat 0)], [(37, 4, 7), (40, 0, 7)], [(([(.ofNat 1, .ofNat 1)], [], 0, [], [], [((0, 0), (0, .ofNat 3), (2, 1, .ofNat 0)), ((0, 0), (0, .ofNat 4), (2, 2, .ofNat 0))], []), some (0, 4, .ofNat 0)), (([(.ofNat 0, .ofNat 0)], [], 0, [], [], [((0, 0), (0, .ofNat 3), (2, 1, .ofNat 0)), ((0, 0), (0, .ofNat 4), (2, 2, .ofNat 0))], []), some (0, 4, .ofNat 0))])
def sxhI200 : sxH := (sxk_X6_laysFrom, sxgX6, sxpX6, sxcX6, (sxkiX6, sxklX6, sxksX6), (6, sxI200.2.2.2.2.1, sxI200.2.2.2.2.2, 1), (4, 3, 0), (8, 196))
def sxjI200 : List sxJ := [((21, 0, 0), ([(0, .ofNat 0), (0, .ofNat 0)], [], []), (([(.ofNat 0, .ofNat 7), (.ofNat 0, .ofNat 1)], [], 0, [], [], [((0, 1), (0, .ofNat 3), (0, 4, .ofNat 0)), ((0, 0), (0, .ofNat 3), (2, 1, .ofNat 0)), ((0, 0), (0, .ofNat 4), (2, 2, .ofNat 0))], []), [(5, (0, 5, .ofNat 0)), (4, (0, 6, .ofNat 0)), (0, (2, 0, .ofNat 0)), (1, (0, 1, .ofNat 0)), (2, (0, 2, .ofNat 0)), (3, (0, 3, .ofNat 0))], [], ([(5, .negSucc 0)], .ofNat 7))),
  ((74, 11, 0), ([(6, .ofNat 0)], [], []), (sxE0, [], [], ([], .ofNat 0))),
  ((74, 11, 1), ([(6, .ofNat 0)], [], []), (sxE0, [], [], ([], .ofNat 0))),
  ((21, 2, 0), ([(5, .ofNat 1), (0, .ofNat 0)], [], []), (sxE0, [], [], ([], .ofNat 0))),
  ((53, 10, 0), ([(0, .ofNat 0), (5, .ofNat 0), (1, .ofNat 0), (2, .ofNat 0), (3, .ofNat 0)], [0, 1, 2], []), (sxE0, [], [], ([], .ofNat 0))),
  ((21, 2, 0), ([(5, .ofNat 1), (0, .ofNat 0)], [], []), (sxE0, [], [], ([], .ofNat 0))),
  ((21, 2, 0), ([(5, .ofNat 1), (0, .ofNat 1)], [], []), (sxE0, [], [], ([], .ofNat 0))),
  ((21, 0, 0), ([(0, .ofNat 0), (0, .ofNat 1)], [], []), (([(.ofNat 0, .ofNat 0), (.ofNat 1, .ofNat 1)], [], 0, [], [], [((0, 1), (0, .ofNat 3), (0, 4, .ofNat 0)), ((0, 0), (0, .ofNat 3), (2, 1, .ofNat 0)), ((0, 0), (0, .ofNat 4), (2, 2, .ofNat 0))], []), [(5, (0, 5, .ofNat 0)), (4, (0, 6, .ofNat 0)), (0, (2, 0, .ofNat 0)), (1, (0, 1, .ofNat 0)), (2, (0, 2, .ofNat 0)), (3, (0, 3, .ofNat 0))], [], ([(5, .negSucc 0)], .ofNat 0))),
  ((74, 11, 0), ([(6, .ofNat 0)], [], []), (sxE0, [], [], ([], .ofNat 0)))]
theorem sxvI200 : (sx_exec sxRT [sxI199] [] sxhI200 159 0 sxI200.2.2.1 (sx_argl 0 sxI200.2.2.2.1) [] [] sxjI200).isSome = true := by decide +kernel
theorem sxmI200 {PF : Nat → List Int → List (Nat → Int) → Prop} {l : Launch} : sx_met PF sxRT sxMy sxMc sxML sxMr sxTK l sxI200 := by
  obtain ⟨its2, hk⟩ := Option.isSome_iff_exists.mp sxvI200
  exact sx_met_of (h := sxhI200) sxTK_ok (sxTK2 sxksX6_ok) sxt_X6_laysFrom sxFW_ok (sx_cons (sxmI199) sx_nil) (fun L h => by cases h) rfl (by decide +kernel) (by decide) rfl ⟨rfl, rfl, rfl, rfl⟩ hk
def sxI201 : sxI := (218, (9, 221), ([(.ofNat 0, .ofNat 0), (.ofNat 0, .ofNat 6), (.ofNat 3, .ofNat 3), (.negSucc 2147483647, .ofNat 2147483647), (.negSucc 2147483647, .ofNat 2147483647)], [36, 20, 26], 0, [], [], [((0, 0), (0, .ofNat 3), (2, 1, .ofNat 0)), ((0, 0), (0, .ofNat 4), (2, 2, .ofNat 0))], []), [(2, 0, .ofNat 0), (0, 1, .ofNat 0), (0, 2, .ofNat 0), (0, 3, .ofNat 0), (0, 4, .ofNat 0)], [(37, 3, 7), (40, 0, 7)], [(([], [], 0, [], [], [((0, 0), (0, .ofNat 3), (2, 1, .ofNat 0)), ((0, 0), (0, .ofNat 4), (2, 2, .ofNat 0))], []), some (0, 0, .ofNat 0)), (([], [], 0, [], [], [((0, 0), (0, .ofNat 3), (2, 1, .ofNat 0)), ((0, 0), (0, .ofNat 4), (2, 2, .ofNat 0))], []), some (0, 0, .ofNat 1))])
def sxhI201 : sxH := (sxk_X6_lays, sxgX6, sxpX6, sxcX6, (sxkiX6, sxklX6, sxksX6), (8, sxI201.2.2.2.2.1, sxI201.2.2.2.2.2, 1), (5, 3, 0), (9, 221))
def sxjI201 : List sxJ := [((30, 10, 0), ([(0, .ofNat 0), (1, .ofNat 0), (8, .ofNat 0)], [2], []), (sxE0, [], [], ([], .ofNat 0))),
  ((68, 11, 0), ([], [], []), (sxE0, [], [], ([], .ofNat 0))),
  ((75, 10, 1), ([(0, .ofNat 0), (2, .ofNat 0), (9, .ofNat 0)], [0], []), (sxE0, [], [], ([], .ofNat 0))),
  ((115, 11, 0), ([], [], []), (sxE0, [], [], ([], .ofNat 0))),
  ((104, 10, 2), ([(0, .ofNat 0), (2, .ofNat 1), (13, .ofNat 0), (11, .ofNat 0)], [0, 1, 2], []), (sxE0, [], [], ([], .ofNat 0))),
  ((115, 11, 1), ([], [], []), (sxE0, [], [], ([], .ofNat 0))),
  ((115, 11, 0), ([], [], []), (sxE0, [], [], ([], .ofNat 0))),
  ((30, 10, 0), ([(0, .ofNat 0), (1, .ofNat 0), (8, .ofNat 0)], [2], []), (sxE0, [], [], ([], .ofNat 0))),
  ((68, 11, 0), ([], [], []), (sxE0, [], [], ([], .ofNat 0))),
  ((75, 10, 1), ([(0, .ofNat 0), (2, .ofNat 0), (9, .ofNat 0)], [0], []), (sxE0, [], [], ([], .ofNat 0))),
  ((115, 11, 0), ([], [], []), (sxE0, [], [], ([], .ofNat 0))),
  ((104, 10, 2), ([(0, .ofNat 0), (2, .ofNat 1), (15, .ofNat 0), (13, .ofNat 0)], [0, 1, 2], []), (sxE0, [], [], ([], .ofNat 0))),
  ((115, 11, 1), ([], [], []), (sxE0, [], [], ([], .ofNat 0))),
  ((115, 11, 0), ([], [], []), (sxE0, [], [], ([], .ofNat 0))),
  ((68, 11, 0), ([], [], []), (sxE0, [], [], ([], .ofNat 0)))]
theorem sxvI201 : (sx_exec sxRT [sxI182, sxI190, sxI200] [] sxhI201 188 0 sxI201.2.2.1 (sx_argl 0 sxI201.2.2.2.1) [] [] sxjI201).isSome = true := by decide +kernel
theorem sxmI201 {PF : Nat → List Int → List (Nat → Int) → Prop} {l : Launch} : sx_met PF sxRT sxMy sxMc sxML sxMr sxTK l sxI201 := by
  obtain ⟨its2, hk⟩ := Option.isSome_iff_exists.mp sxvI201
  exact sx_met_of (h := sxhI201) sxTK_ok (sxTK2 sxksX6_ok) sxt_X6_lays sxFW_ok (sx_cons (sxmI182) (sx_cons (sxmI190) (sx_cons (sxmI200) sx_nil))) (fun L h => by cases h) rfl (by decide +kernel) (by decide) rfl ⟨rfl, rfl, rfl, rfl⟩ hk
def sxI202 : sxI := (219, (10, 248), ([(.ofNat 0, .ofNat 0), (.ofNat 3, .ofNat 3), (.negSucc 2147483647, .ofNat 2147483647), (.negSucc 2147483647, .ofNat 2147483647)], [36, 20, 26], 0, [], [], [((0, 0), (0, .ofNat 3), (2, 1, .ofNat 0)), ((0, 0), (0, .ofNat 4), (2, 2, .ofNat 0))], []), [(2, 0, .ofNat 0), (0, 1, .ofNat 0), (0, 2, .ofNat 0), (0, 3, .ofNat 0)], [(37, 3, 7), (40, 0, 7)], [(([(.ofNat 1, .ofNat 1)], [], 0, [], [], [((0, 0), (0, .ofNat 3), (2, 1, .ofNat 0)), ((0, 0), (0, .ofNat 4), (2, 2, .ofNat 0))], []), some (0, 4, .ofNat 0)), (([(.ofNat 0, .ofNat 0)], [], 0, [], [], [((0, 0), (0, .ofNat 3), (2, 1, .ofNat 0)), ((0, 0), (0, .ofNat 4), (2, 2, .ofNat 0))], []), some (0, 4, .ofNat 0))])
def sxhI202 : sxH := (sxk_X6_laysFrom, sxgX6, sxpX6, sxcX6, (sxkiX6, sxklX6, sxksX6), (6, sxI202.2.2.2.2.1, sxI202.2.2.2.2.2, 1), (4, 3, 0), (10, 248))
def sxjI202 : List sxJ := [((21, 0, 0), ([(0, .ofNat 0), (0, .ofNat 0)], [], []), (([(.ofNat 0, .ofNat 7), (.ofNat 0, .ofNat 1)], [], 0, [], [], [((0, 1), (0, .ofNat 3), (0, 4, .ofNat 0)), ((0, 0), (0, .ofNat 3), (2, 1, .ofNat 0)), ((0, 0), (0, .ofNat 4), (2, 2, .ofNat 0))], []), [(5, (0, 5, .ofNat 0)), (4, (0, 6, .ofNat 0)), (0, (2, 0, .ofNat 0)), (1, (0, 1, .ofNat 0)), (2, (0, 2, .ofNat 0)), (3, (0, 3, .ofNat 0))], [], ([(5, .negSucc 0)], .ofNat 7))),
  ((74, 11, 0), ([(6, .ofNat 0)], [], []), (sxE0, [], [], ([], .ofNat 0))),
  ((74, 11, 1), ([(6, .ofNat 0)], [], []), (sxE0, [], [], ([], .ofNat 0))),
  ((21, 2, 0), ([(5, .ofNat 1), (0, .ofNat 0)], [], []), (sxE0, [], [], ([], .ofNat 0))),
  ((53, 10, 0), ([(0, .ofNat 0), (5, .ofNat 0), (1, .ofNat 0), (2, .ofNat 0), (3, .ofNat 0)], [0, 1, 2], []), (sxE0, [], [], ([], .ofNat 0))),
  ((21, 2, 0), ([(5, .ofNat 1), (0, .ofNat 0)], [], []), (sxE0, [], [], ([], .ofNat 0))),
  ((21, 2, 0), ([(5, .ofNat 1), (0, .ofNat 1)], [], []), (sxE0, [], [], ([], .ofNat 0))),
  ((21, 0, 0), ([(0, .ofNat 0), (0, .ofNat 1)], [], []), (([(.ofNat 0, .ofNat 0), (.ofNat 1, .ofNat 1)], [], 0, [], [], [((0, 1), (0, .ofNat 3), (0, 4, .ofNat 0)), ((0, 0), (0, .ofNat 3), (2, 1, .ofNat 0)), ((0, 0), (0, .ofNat 4), (2, 2, .ofNat 0))], []), [(5, (0, 5, .ofNat 0)), (4, (0, 6, .ofNat 0)), (0, (2, 0, .ofNat 0)), (1, (0, 1, .ofNat 0)), (2, (0, 2, .ofNat 0)), (3, (0, 3, .ofNat 0))], [], ([(5, .negSucc 0)], .ofNat 0))),
  ((74, 11, 0), ([(6, .ofNat 0)], [], []), (sxE0, [], [], ([], .ofNat 0)))]
theorem sxvI202 : (sx_exec sxRT [sxI201] [] sxhI202 159 0 sxI202.2.2.1 (sx_argl 0 sxI202.2.2.2.1) [] [] sxjI202).isSome = true := by decide +kernel
theorem sxmI202 {PF : Nat → List Int → List (Nat → Int) → Prop} {l : Launch} : sx_met PF sxRT sxMy sxMc sxML sxMr sxTK l sxI202 := by
  obtain ⟨its2, hk⟩ := Option.isSome_iff_exists.mp sxvI202
  exact sx_met_of (h := sxhI202) sxTK_ok (sxTK2 sxksX6_ok) sxt_X6_laysFrom sxFW_ok (sx_cons (sxmI201) sx_nil) (fun L h => by cases h) rfl (by decide +kernel) (by decide) rfl ⟨rfl, rfl, rfl, rfl⟩ hk
def sxI203 : sxI := (218, (11, 273), ([(.ofNat 0, .ofNat 0), (.ofNat 0, .ofNat 6), (.ofNat 2, .ofNat 2), (.negSucc 2147483647, .ofNat 2147483647), (.negSucc 2147483647, .ofNat 2147483647)], [36, 20, 26], 0, [], [], [((0, 0), (0, .ofNat 3), (2, 1, .ofNat 0)), ((0, 0), (0, .ofNat 4), (2, 2, .ofNat 0))], []), [(2, 0, .ofNat 0), (0, 1, .ofNat 0), (0, 2, .ofNat 0), (0, 3, .ofNat 0), (0, 4, .ofNat 0)], [(37, 2, 7), (40, 0, 7)], [(([], [], 0, [], [], [((0, 0), (0, .ofNat 3), (2, 1, .ofNat 0)), ((0, 0), (0, .ofNat 4), (2, 2, .ofNat 0))], []), some (0, 0, .ofNat 0)), (([], [], 0, [], [], [((0, 0), (0, .ofNat 3), (2, 1, .ofNat 0)), ((0, 0), (0, .ofNat 4), (2, 2, .ofNat 0))], []), some (0, 0, .ofNat 1))])
def sxhI203 : sxH := (sxk_X6_lays, sxgX6, sxpX6, sxcX6, (sxkiX6, sxklX6, sxksX6), (8, sxI203.2.2.2.2.1, sxI203.2.2.2.2.2, 1), (5, 3, 0), (11, 273))
def sxjI203 : List sxJ := [((30, 10, 0), ([(0, .ofNat 0), (1, .ofNat 0), (8, .ofNat 0)], [2], []), (sxE0, [], [], ([], .ofNat 0))),
  ((68, 11, 0), ([], [], []), (sxE0, [], [], ([], .ofNat 0))),
  ((75, 10, 1), ([(0, .ofNat 0), (2, .ofNat 0), (9, .ofNat 0)], [0], []), (sxE0, [], [], ([], .ofNat 0))),
  ((115, 11, 0), ([], [], []), (sxE0, [], [], ([], .ofNat 0))),
  ((104, 10, 2), ([(0, .ofNat 0), (2, .ofNat 1), (13, .ofNat 0), (11, .ofNat 0)], [0, 1, 2], []), (sxE0, [], [], ([], .ofNat 0))),
  ((115, 11, 1), ([], [], []), (sxE0, [], [], ([], .ofNat 0))),
  ((115, 11, 0), ([], [], []), (sxE0, [], [], ([], .ofNat 0))),
  ((30, 10, 0), ([(0, .ofNat 0), (1, .ofNat 0), (8, .ofNat 0)], [2], []), (sxE0, [], [], ([], .ofNat 0))),
  ((68, 11, 0), ([], [], []), (sxE0, [], [], ([], .ofNat 0))),
  ((75, 10, 1), ([(0, .ofNat 0), (2, .ofNat 0), (9, .ofNat 0)], [0], []), (sxE0, [], [], ([], .ofNat 0))),
  ((115, 11, 0), ([], [], []), (sxE0, [], [], ([], .ofNat 0))),
  ((104, 10, 2), ([(0, .ofNat 0), (2, .ofNat 1), (15, .ofNat 0), (13, .ofNat 0)], [0, 1, 2], []), (sxE0, [], [], ([], .ofNat 0))),
  ((115, 11, 1), ([], [], []), (sxE0, [], [], ([], .ofNat 0))),
  ((115, 11, 0), ([], [], []), (sxE0, [], [], ([], .ofNat 0))),
  ((68, 11, 0), ([], [], []), (sxE0, [], [], ([], .ofNat 0)))]
theorem sxvI203 : (sx_exec sxRT [sxI182, sxI189, sxI202] [] sxhI203 188 0 sxI203.2.2.1 (sx_argl 0 sxI203.2.2.2.1) [] [] sxjI203).isSome = true := by decide +kernel
theorem sxmI203 {PF : Nat → List Int → List (Nat → Int) → Prop} {l : Launch} : sx_met PF sxRT sxMy sxMc sxML sxMr sxTK l sxI203 := by
  obtain ⟨its2, hk⟩ := Option.isSome_iff_exists.mp sxvI203
  exact sx_met_of (h := sxhI203) sxTK_ok (sxTK2 sxksX6_ok) sxt_X6_lays sxFW_ok (sx_cons (sxmI182) (sx_cons (sxmI189) (sx_cons (sxmI202) sx_nil))) (fun L h => by cases h) rfl (by decide +kernel) (by decide) rfl ⟨rfl, rfl, rfl, rfl⟩ hk
def sxI204 : sxI := (219, (12, 300), ([(.ofNat 0, .ofNat 0), (.ofNat 2, .ofNat 2), (.negSucc 2147483647, .ofNat 2147483647), (.negSucc 2147483647, .ofNat 2147483647)], [36, 20, 26], 0, [], [], [((0, 0), (0, .ofNat 3), (2, 1, .ofNat 0)), ((0, 0), (0, .ofNat 4), (2, 2, .ofNat 0))], []), [(2, 0, .ofNat 0), (0, 1, .ofNat 0), (0, 2, .ofNat 0), (0, 3, .ofNat 0)], [(37, 2, 7), (40, 0, 7)], [(([(.ofNat 1, .ofNat 1)], [], 0, [], [], [((0, 0), (0, .ofNat 3), (2, 1, .ofNat 0)), ((0, 0), (0, .ofNat 4), (2, 2, .ofNat 0))], []), some (0, 4, .ofNat 0)), (([(.ofNat 0, .ofNat 0)], [], 0, [], [], [((0, 0), (0, .ofNat 3), (2, 1, .ofNat 0)), ((0, 0), (0, .ofNat 4), (2, 2, .ofNat 0))], []), some (0, 4, .ofNat 0))])
def sxhI204 : sxH := (sxk_X6_laysFrom, sxgX6, sxpX6, sxcX6, (sxkiX6, sxklX6, sxksX6), (6, sxI204.2.2.2.2.1, sxI204.2.2.2.2.2, 1), (4, 3, 0), (12, 300))
def sxjI204 : List sxJ := [((21, 0, 0), ([(0, .ofNat 0), (0, .ofNat 0)], [], []), (([(.ofNat 0, .ofNat 7), (.ofNat 0, .ofNat 1)], [], 0, [], [], [((0, 1), (0, .ofNat 3), (0, 4, .ofNat 0)), ((0, 0), (0, .ofNat 3), (2, 1, .ofNat 0)), ((0, 0), (0, .ofNat 4), (2, 2, .ofNat 0))], []), [(5, (0, 5, .ofNat 0)), (4, (0, 6, .ofNat 0)), (0, (2, 0, .ofNat 0)), (1, (0, 1, .ofNat 0)), (2, (0, 2, .ofNat 0)), (3, (0, 3, .ofNat 0))], [], ([(5, .negSucc 0)], .ofNat 7))),
  ((74, 11, 0), ([(6, .ofNat 0)], [], []), (sxE0, [], [], ([], .ofNat 0))),
  ((74, 11, 1), ([(6, .ofNat 0)], [], []), (sxE0, [], [], ([], .ofNat 0))),
  ((21, 2, 0), ([(5, .ofNat 1), (0, .ofNat 0)], [], []), (sxE0, [], [], ([], .ofNat 0))),
  ((53, 10, 0), ([(0, .ofNat 0), (5, .ofNat 0), (1, .ofNat 0), (2, .ofNat 0), (3, .ofNat 0)], [0, 1, 2], []), (sxE0, [], [], ([], .ofNat 0))),
  ((21, 2, 0), ([(5, .ofNat 1), (0, .ofNat 0)], [], []), (sxE0, [], [], ([], .ofNat 0))),
  ((21, 2, 0), ([(5, .ofNat 1), (0, .ofNat 1)], [], []), (sxE0, [], [], ([], .ofNat 0))),
  ((21, 0, 0), ([(0, .ofNat 0), (0, .ofNat 1)], [], []), (([(.ofNat 0, .ofNat 0), (.ofNat 1, .ofNat 1)], [], 0, [], [], [((0, 1), (0, .ofNat 3), (0, 4, .ofNat 0)), ((0, 0), (0, .ofNat 3), (2, 1, .ofNat 0)), ((0, 0), (0, .ofNat 4), (2, 2, .ofNat 0))], []), [(5, (0, 5, .ofNat 0)), (4, (0, 6, .ofNat 0)), (0, (2, 0, .ofNat 0)), (1, (0, 1, .ofNat 0)), (2, (0, 2, .ofNat 0)), (3, (0, 3, .ofNat 0))], [], ([(5, .negSucc 0)], .ofNat 0))),
  ((74, 11, 0), ([(6, .ofNat 0)], [], []), (sxE0, [], [], ([], .ofNat 0)))]
theorem sxvI204 : (sx_exec sxRT [sxI203] [] sxhI204 159 0 sxI204.2.2.1 (sx_argl 0 sxI204.2.2.2.1) [] [] sxjI204).isSome = true := by decide +kernel
theorem sxmI204 {PF : Nat → List Int → List (Nat → Int) → Prop} {l : Launch} : sx_met PF sxRT sxMy sxMc sxML sxMr sxTK l sxI204 := by
  obtain ⟨its2, hk⟩ := Option.isSome_iff_exists.mp sxvI204
  exact sx_met_of (h := sxhI204) sxTK_ok (sxTK2 sxksX6_ok) sxt_X6_laysFrom sxFW_ok (sx_cons (sxmI203) sx_nil) (fun L h => by cases h) rfl (by decide +kernel) (by decide) rfl ⟨rfl, rfl, rfl, rfl⟩ hk
def sxI205 : sxI := (218, (13, 325), ([(.ofNat 0, .ofNat 0), (.ofNat 0, .ofNat 6), (.ofNat 1, .ofNat 1), (.negSucc 2147483647, .ofNat 2147483647), (.negSucc 2147483647, .ofNat 2147483647)], [36, 20, 26], 0, [], [], [((0, 0), (0, .ofNat 3), (2, 1, .ofNat 0)), ((0, 0), (0, .ofNat 4), (2, 2, .ofNat 0))], []), [(2, 0, .ofNat 0), (0, 1, .ofNat 0), (0, 2, .ofNat 0), (0, 3, .ofNat 0), (0, 4, .ofNat 0)], [(37, 1, 7), (40, 0, 7)], [(([], [], 0, [], [], [((0, 0), (0, .ofNat 3), (2, 1, .ofNat 0)), ((0, 0), (0, .ofNat 4), (2, 2, .ofNat 0))], []), some (0, 0, .ofNat 0)), (([], [], 0, [], [], [((0, 0), (0, .ofNat 3), (2, 1, .ofNat 0)), ((0, 0), (0, .ofNat 4), (2, 2, .ofNat 0))], []), some (0, 0, .ofNat 1))])
def sxhI205 : sxH := (sxk_X6_lays, sxgX6, sxpX6, sxcX6, (sxkiX6, sxklX6, sxksX6), (8, sxI205.2.2.2.2.1, sxI205.2.2.2.2.2, 1), (5, 3, 0), (13, 325))
def sxjI205 : List sxJ := [((30, 10, 0), ([(0, .ofNat 0), (1, .ofNat 0), (8, .ofNat 0)], [2], []), (sxE0, [], [], ([], .ofNat 0))),
  ((68, 11, 0), ([], [], []), (sxE0, [], [], ([], .ofNat 0))),
  ((75, 10, 1), ([(0, .ofNat 0), (2, .ofNat 0), (9, .ofNat 0)], [0], []), (sxE0, [], [], ([], .ofNat 0))),
  ((115, 11, 0), ([], [], []), (sxE0, [], [], ([], .ofNat 0))),
  ((104, 10, 2), ([(0, .ofNat 0), (2, .ofNat 1), (13, .ofNat 0), (11, .ofNat 0)], [0, 1, 2], []), (sxE0, [], [], ([], .ofNat 0))),
  ((115, 11, 1), ([], [], []), (sxE0, [], [], ([], .ofNat 0))),
  ((115, 11, 0), ([], [], []), (sxE0, [], [], ([], .ofNat 0))),
  ((30, 10, 0), ([(0, .ofNat 0), (1, .ofNat 0), (8, .ofNat 0)], [2], []), (sxE0, [], [], ([], .ofNat 0))),
  ((68, 11, 0), ([], [], []), (sxE0, [], [], ([], .ofNat 0))),
  ((75, 10, 1), ([(0, .ofNat 0), (2, .ofNat 0), (9, .ofNat 0)], [0], []), (sxE0, [], [], ([], .ofNat 0))),
  ((115, 11, 0), ([], [], []), (sxE0, [], [], ([], .ofNat 0))),
  ((104, 10, 2), ([(0, .ofNat 0), (2, .ofNat 1), (15, .ofNat 0), (13, .ofNat 0)], [0, 1, 2], []), (sxE0, [], [], ([], .ofNat 0))),
  ((115, 11, 1), ([], [], []), (sxE0, [], [], ([], .ofNat 0))),
  ((115, 11, 0), ([], [], []), (sxE0, [], [], ([], .ofNat 0))),
  ((68, 11, 0), ([], [], []), (sxE0, [], [], ([], .ofNat 0)))]
theorem sxvI205 : (sx_exec sxRT [sxI182, sxI188, sxI204] [] sxhI205 188 0 sxI205.2.2.1 (sx_argl 0 sxI205.2.2.2.1) [] [] sxjI205).isSome = true := by decide +kernel
theorem sxmI205 {PF : Nat → List Int → List (Nat → Int) → Prop} {l : Launch} : sx_met PF sxRT sxMy sxMc sxML sxMr sxTK l sxI205 := by
  obtain ⟨its2, hk⟩ := Option.isSome_iff_exists.mp sxvI205
  exact sx_met_of (h := sxhI205) sxTK_ok (sxTK2 sxksX6_ok) sxt_X6_lays sxFW_ok (sx_cons (sxmI182) (sx_cons (sxmI188) (sx_cons (sxmI204) sx_nil))) (fun L h => by cases h) rfl (by decide +kernel) (by decide) rfl ⟨rfl, rfl, rfl, rfl⟩ hk
def sxI206 : sxI := (219, (14, 352), ([(.ofNat 0, .ofNat 0), (.ofNat 1, .ofNat 1), (.negSucc 2147483647, .ofNat 2147483647), (.negSucc 2147483647, .ofNat 2147483647)], [36, 20, 26], 0, [], [], [((0, 0), (0, .ofNat 3), (2, 1, .ofNat 0)), ((0, 0), (0, .ofNat 4), (2, 2, .ofNat 0))], []), [(2, 0, .ofNat 0), (0, 1, .ofNat 0), (0, 2, .ofNat 0), (0, 3, .ofNat 0)], [(37, 1, 7), (40, 0, 7)], [(([(.ofNat 1, .ofNat 1)], [], 0, [], [], [((0, 0), (0, .ofNat 3), (2, 1, .ofNat 0)), ((0, 0), (0, .ofNat 4), (2, 2, .ofNat 0))], []), some (0, 4, .ofNat 0)), (([(.ofNat 0, .ofNat 0)], [], 0, [], [], [((0, 0), (0, .ofNat 3), (2, 1, .ofNat 0)), ((0, 0), (0, .ofNat 4), (2, 2, .ofNat 0))], []), some (0, 4, .ofNat 0))])
def sxhI206 : sxH := (sxk_X6_laysFrom, sxgX6, sxpX6, sxcX6, (sxkiX6, sxklX6, sxksX6), (6, sxI206.2.2.2.2.1, sxI206.2.2.2.2.2, 1), (4, 3, 0), (14, 352))
def sxjI206 : List sxJ := [((21, 0, 0), ([(0, .ofNat 0), (0, .ofNat 0)], [], []), (([(.ofNat 0, .ofNat 7), (.ofNat 0, .ofNat 1)], [], 0, [], [], [((0, 1), (0, .ofNat 3), (0, 4, .ofNat 0)), ((0, 0), (0, .ofNat 3), (2, 1, .ofNat 0)), ((0, 0), (0, .ofNat 4), (2, 2, .ofNat 0))], []), [(5, (0, 5, .ofNat 0)), (4, (0, 6, .ofNat 0)), (0, (2, 0, .ofNat 0)), (1, (0, 1, .ofNat 0)), (2, (0, 2, .ofNat 0)), (3, (0, 3, .ofNat 0))], [], ([(5, .negSucc 0)], .ofNat 7))),
  ((74, 11, 0), ([(6, .ofNat 0)], [], []), (sxE0, [], [], ([], .ofNat 0))),
  ((74, 11, 1), ([(6, .ofNat 0)], [], []), (sxE0, [], [], ([], .ofNat 0))),
  ((21, 2, 0), ([(5, .ofNat 1), (0, .ofNat 0)], [], []), (sxE0, [], [], ([], .ofNat 0))),
  ((53, 10, 0), ([(0, .ofNat 0), (5, .ofNat 0), (1, .ofNat 0), (2, .ofNat 0), (3, .ofNat 0)], [0, 1, 2], []), (sxE0, [], [], ([], .ofNat 0))),
  ((21, 2, 0), ([(5, .ofNat 1), (0, .ofNat 0)], [], []), (sxE0, [], [], ([], .ofNat 0))),
  ((21, 2, 0), ([(5, .ofNat 1), (0, .ofNat 1)], [], []), (sxE0, [], [], ([], .ofNat 0))),
  ((21, 0, 0), ([(0, .ofNat 0), (0, .ofNat 1)], [], []), (([(.ofNat 0, .ofNat 0), (.ofNat 1, .ofNat 1)], [], 0, [], [], [((0, 1), (0, .ofNat 3), (0, 4, .ofNat 0)), ((0, 0), (0, .ofNat 3), (2, 1, .ofNat 0)), ((0, 0), (0, .ofNat 4), (2, 2, .ofNat 0))], []), [(5, (0, 5, .ofNat 0)), (4, (0, 6, .ofNat 0)), (0, (2, 0, .ofNat 0)), (1, (0, 1, .ofNat 0)), (2, (0, 2, .ofNat 0)), (3, (0, 3, .ofNat 0))], [], ([(5, .negSucc 0)], .ofNat 0))),
  ((74, 11, 0), ([(6, .ofNat 0)], [], []), (sxE0, [], [], ([], .ofNat 0)))]
theorem sxvI206 : (sx_exec sxRT [sxI205] [] sxhI206 159 0 sxI206.2.2.1 (sx_argl 0 sxI206.2.2.2.1) [] [] sxjI206).isSome = true := by decide +kernel
theorem sxmI206 {PF : Nat → List Int → List (Nat → Int) → Prop} {l : Launch} : sx_met PF sxRT sxMy sxMc sxML sxMr sxTK l sxI206 := by
  obtain ⟨its2, hk⟩ := Option.isSome_iff_exists.mp sxvI206
  exact sx_met_of (h := sxhI206) sxTK_ok (sxTK2 sxksX6_ok) sxt_X6_laysFrom sxFW_ok (sx_cons (sxmI205) sx_nil) (fun L h => by cases h) rfl (by decide +kernel) (by decide) rfl ⟨rfl, rfl, rfl, rfl⟩ hk
def sxI207 : sxI := (218, (15, 377), ([(.ofNat 0, .ofNat 0), (.ofNat 0, .ofNat 6), (.ofNat 0, .ofNat 0), (.negSucc 2147483647, .ofNat 2147483647), (.negSucc 2147483647, .ofNat 2147483647)], [36, 20, 26], 0, [], [], [((0, 0), (0, .ofNat 3), (2, 1, .ofNat 0)), ((0, 0), (0, .ofNat 4), (2, 2, .ofNat 0))], []), [(2, 0, .ofNat 0), (0, 1, .ofNat 0), (0, 2, .ofNat 0), (0, 3, .ofNat 0), (0, 4, .ofNat 0)], [(37, 0, 7), (40, 0, 7)], [(([], [], 0, [], [], [((0, 0), (0, .ofNat 3), (2, 1, .ofNat 0)), ((0, 0), (0, .ofNat 4), (2, 2, .ofNat 0))], []), some (0, 0, .ofNat 0)), (([], [], 0, [], [], [((0, 0), (0, .ofNat 3), (2, 1, .ofNat 0)), ((0, 0), (0, .ofNat 4), (2, 2, .ofNat 0))], []), some (0, 0, .ofNat 1))])
def sxhI207 : sxH := (sxk_X6_lays, sxgX6, sxpX6, sxcX6, (sxkiX6, sxklX6, sxksX6), (8, sxI207.2.2.2.2.1, sxI207.2.2.2.2.2, 1), (5, 3, 0), (15, 377))
def sxjI207 : List sxJ := [((30, 10, 0), ([(0, .ofNat 0), (1, .ofNat 0), (8, .ofNat 0)], [2], []), (sxE0, [], [], ([], .ofNat 0))),
  ((68, 11, 0), ([], [], []), (sxE0, [], [], ([], .ofNat 0))),
  ((75, 10, 1), ([(0, .ofNat 0), (2, .ofNat 0), (9, .ofNat 0)], [0], []), (sxE0, [], [], ([], .ofNat 0))),
  ((115, 11, 0), ([], [], []), (sxE0, [], [], ([], .ofNat 0))),
  ((104, 10, 2), ([(0, .ofNat 0), (2, .ofNat 1), (13, .ofNat 0), (11, .ofNat 0)], [0, 1, 2], []), (sxE0, [], [], ([], .ofNat 0))),
  ((115, 11, 1), ([], [], []), (sxE0, [], [], ([], .ofNat 0))),
  ((115, 11, 0), ([], [], []), (sxE0, [], [], ([], .ofNat 0))),
  ((30, 10, 0), ([(0, .ofNat 0), (1, .ofNat 0), (8, .ofNat 0)], [2], []), (sxE0, [], [], ([], .ofNat 0))),
  ((68, 11, 0), ([], [], []), (sxE0, [], [], ([], .ofNat 0))),
  ((75, 10, 1), ([(0, .ofNat 0), (2, .ofNat 0), (9, .ofNat 0)], [0], []), (sxE0, [], [], ([], .ofNat 0))),
  ((115, 11, 0), ([], [], []), (sxE0, [], [], ([], .ofNat 0))),
  ((104, 10, 2), ([(0, .ofNat 0), (2, .ofNat 1), (15, .ofNat 0), (13, .ofNat 0)], [0, 1, 2], []), (sxE0, [], [], ([], .ofNat 0))),
  ((115, 11, 1), ([], [], []), (sxE0, [], [], ([], .ofNat 0))),
  ((115, 11, 0), ([], [], []), (sxE0, [], [], ([], .ofNat 0))),
  ((68, 11, 0), ([], [], []), (sxE0, [], [], ([], .ofNat 0)))]
theorem sxvI207 : (sx_exec sxRT [sxI182, sxI187, sxI206] [] sxhI207 188 0 sxI207.2.2.1 (sx_argl 0 sxI207.2.2.2.1) [] [] sxjI207).isSome = true := by decide +kernel
theorem sxmI207 {PF : Nat → List Int → List (Nat → Int) → Prop} {l : Launch} : sx_met PF sxRT sxMy sxMc sxML sxMr sxTK l sxI207 := by
  obtain ⟨its2, hk⟩ := Option.isSome_iff_exists.mp sxvI207
  exact sx_met_of (h := sxhI207) sxTK_ok (sxTK2 sxksX6_ok) sxt_X6_lays sxFW_ok (sx_cons (sxmI182) (sx_cons (sxmI187) (sx_cons (sxmI206) sx_nil))) (fun L h => by cases h) rfl (by decide +kernel) (by decide) rfl ⟨rfl, rfl, rfl, rfl⟩ hk
def sxI208 : sxI := (219, (16, 404), ([(.ofNat 0, .ofNat 0), (.ofNat 0, .ofNat 0), (.negSucc 2147483647, .ofNat 2147483647), (.negSucc 2147483647, .ofNat 2147483647)], [36, 20, 26], 0, [], [], [((0, 0), (0, .ofNat 3), (2, 1, .ofNat 0)), ((0, 0), (0, .ofNat 4), (2, 2, .ofNat 0))], []), [(2, 0, .ofNat 0), (0, 1, .ofNat 0), (0, 2, .ofNat 0), (0, 3, .ofNat 0)], [(37, 0, 7), (40, 0, 7)], [(([(.ofNat 1, .ofNat 1)], [], 0, [], [], [((0, 0), (0, .ofNat 3), (2, 1, .ofNat 0)), ((0, 0), (0, .ofNat 4), (2, 2, .ofNat 0))], []), some (0, 4, .ofNat 0)), (([(.ofNat 0, .ofNat 0)], [], 0, [], [], [((0, 0), (0, .ofNat 3), (2, 1, .ofNat 0)), ((0, 0), (0, .ofNat 4), (2, 2, .ofNat 0))], []), some (0, 4, .ofNat 0))])
def sxhI208 : sxH := (sxk_X6_laysFrom, sxgX6, sxpX6, sxcX6, (sxkiX6, sxklX6, sxksX6), (6, sxI208.2.2.2.2.1, sxI208.2.2.2.2.2, 1), (4, 3, 0), (16, 404))
def sxjI208 : List sxJ := [((21, 0, 0), ([(0, .ofNat 0), (0, .ofNat 0)], [], []), (([(.ofNat 0, .ofNat 7), (.ofNat 0, .ofNat 1)], [], 0, [], [], [((0, 1), (0, .ofNat 3), (0, 4, .ofNat 0)), ((0, 0), (0, .ofNat 3), (2, 1, .ofNat 0)), ((0, 0), (0, .ofNat 4), (2, 2, .ofNat 0))], []), [(5, (0, 5, .ofNat 0)), (4, (0, 6, .ofNat 0)), (0, (2, 0, .ofNat 0)), (1, (0, 1, .ofNat 0)), (2, (0, 2, .ofNat 0)), (3, (0, 3, .ofNat 0))], [], ([(5, .negSucc 0)], .ofNat 7))),
  ((74, 11, 0), ([(6, .ofNat 0)], [], []), (sxE0, [], [], ([], .ofNat 0))),
  ((74, 11, 1), ([(6, .ofNat 0)], [], []), (sxE0, [], [], ([], .ofNat 0))),
  ((21, 2, 0), ([(5, .ofNat 1), (0, .ofNat 0)], [], []), (sxE0, [], [], ([], .ofNat 0))),
  ((53, 10, 0), ([(0, .ofNat 0), (5, .ofNat 0), (1, .ofNat 0), (2, .ofNat 0), (3, .ofNat 0)], [0, 1, 2], []), (sxE0, [], [], ([], .ofNat 0))),
  ((21, 2, 0), ([(5, .ofNat 1), (0, .ofNat 0)], [], []), (sxE0, [], [], ([], .ofNat 0))),
  ((21, 2, 0), ([(5, .ofNat 1), (0, .ofNat 1)], [], []), (sxE0, [], [], ([], .ofNat 0))),
  ((21, 0, 0), ([(0, .ofNat 0), (0, .ofNat 1)], [], []), (([(.ofNat 0, .ofNat 0), (.ofNat 1, .ofNat 1)], [], 0, [], [], [((0, 1), (0, .ofNat 3), (0, 4, .ofNat 0)), ((0, 0), (0, .ofNat 3), (2, 1, .ofNat 0)), ((0, 0), (0, .ofNat 4), (2, 2, .ofNat 0))], []), [(5, (0, 5, .ofNat 0)), (4, (0, 6, .ofNat 0)), (0, (2, 0, .ofNat 0)), (1, (0, 1, .ofNat 0)), (2, (0, 2, .ofNat 0)), (3, (0, 3, .ofNat 0))], [], ([(5, .negSucc 0)], .ofNat 0))),
  ((74, 11, 0), ([(6, .ofNat 0)], [], []), (sxE0, [], [], ([], .ofNat 0)))]
theorem sxvI208 : (sx_exec sxRT [sxI207] [] sxhI208 160 0 sxI208.2.2.1 (sx_argl 0 sxI208.2.2.2.1) [] [] sxjI208).isSome = true := by decide +kernel
theorem sxmI208 {PF : Nat → List Int → List (Nat → Int) → Prop} {l : Launch} : sx_met PF sxRT sxMy sxMc sxML sxMr sxTK l sxI208 := by
  obtain ⟨its2, hk⟩ := Option.isSome_iff_exists.mp sxvI208
  exact sx_met_of (h := sxhI208) sxTK_ok (sxTK2 sxksX6_ok) sxt_X6_laysFrom sxFW_ok (sx_cons (sxmI207) sx_nil) (fun L h => by cases h) rfl (by decide +kernel) (by decide) rfl ⟨rfl, rfl, rfl, rfl⟩ hk
def sxI209 : sxI := (216, (17, 429), ([(.ofNat 0, .ofNat 0), (.negSucc 2147483647, .ofNat 2147483647)], [36, 20, 26], 0, [], [], [], []), [(2, 0, .ofNat 0), (2, 1, .ofNat 0), (2, 2, .ofNat 0), (0, 1, .ofNat 0)], [(36, 3, 6), (37, 0, 7), (40, 0, 7)], [(([(.negSucc 0, .ofNat 7)], [], 0, [], [], [], []), some (0, 2, .ofNat 0))])
def sxhI209 : sxH := (sxk_X6_findTold, sxgX6, sxpX6, sxcX6, (sxkiX6, sxklX6, sxksX6), (5, sxI209.2.2.2.2.1, sxI209.2.2.2.2.2, 0), (2, 3, 0), (17, 429))
def sxjI209 : List sxJ := [((18, 0, 0), ([(0, .ofNat 0)], [], []), (([(.ofNat 0, .ofNat 7)], [], 0, [], [], [((0, 0), (0, .ofNat 5), (0, 1, .ofNat 0)), ((0, 0), (0, .ofNat 4), (2, 2, .ofNat 0)), ((0, 0), (0, .ofNat 3), (2, 1, .ofNat 0))], []), [(4, (0, 2, .ofNat 0)), (0, (2, 0, .ofNat 0)), (1, (2, 1, .ofNat 0)), (2, (2, 2, .ofNat 0)), (3, (0, 1, .ofNat 0))], [], ([(2, .negSucc 0)], .ofNat 7))),
  ((45, 0, 0), ([(0, .ofNat 0)], [], []), (([(.ofNat 0, .ofNat 8)], [], 0, [], [], [((0, 0), (0, .ofNat 5), (0, 1, .ofNat 0)), ((0, 0), (0, .ofNat 4), (2, 2, .ofNat 0)), ((0, 0), (0, .ofNat 3), (2, 1, .ofNat 0))], []), [(4, (0, 3, .ofNat 0)), (0, (2, 0, .ofNat 0)), (1, (2, 1, .ofNat 0)), (2, (2, 2, .ofNat 0)), (3, (0, 1, .ofNat 0))], [], ([(3, .negSucc 0)], .ofNat 8))),
  ((78, 11, 0), ([(0, .negSucc 0)], [], []), (sxE0, [], [], ([], .ofNat 0))),
  ((62, 10, 0), ([(0, .ofNat 0), (0, .ofNat 0), (0, .ofNat 0), (3, .ofNat 0)], [0, 1, 2], []), (sxE0, [], [], ([], .ofNat 0))),
  ((70, 11, 0), ([(3, .ofNat 0)], [], []), (sxE0, [], [], ([], .ofNat 0))),
  ((45, 2, 0), ([(3, .ofNat 1)], [], []), (sxE0, [], [], ([], .ofNat 0))),
  ((18, 2, 0), ([(2, .ofNat 1)], [], []), (sxE0, [], [], ([], .ofNat 0)))]
theorem sxvI209 : (sx_exec sxRT [sxI208] [] sxhI209 146 0 sxI209.2.2.1 (sx_argl 0 sxI209.2.2.2.1) [] [] sxjI209).isSome = true := by decide +kernel
theorem sxmI209 {PF : Nat → List Int → List (Nat → Int) → Prop} {l : Launch} : sx_met PF sxRT sxMy sxMc sxML sxMr sxTK l sxI209 := by
  obtain ⟨its2, hk⟩ := Option.isSome_iff_exists.mp sxvI209
  exact sx_met_of (h := sxhI209) sxTK_ok (sxTK2 sxksX6_ok) sxt_X6_findTold sxFW_ok (sx_cons (sxmI208) sx_nil) (fun L h => by cases h) rfl (by decide +kernel) (by decide) rfl ⟨rfl, rfl, rfl, rfl⟩ hk
