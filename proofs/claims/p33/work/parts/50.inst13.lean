def sxI230 : sxI := (229, (2, 40), ([(.ofNat 0, .ofNat 0), (.negSucc 2147483647, .ofNat 2147483647)], [], 0, [], [], [], []), [(0, 1, .ofNat 0)], [], [(([(.negSucc 0, .ofNat 17)], [], 0, [], [], [], []), some (0, 2, .ofNat 0))])
def sxhI230 : sxH := (sxk_X9_operationOf, sxgX9, sxpX9, sxcX9, (sxkiX9, sxklX9, sxksX9), (1, sxI230.2.2.2.2.1, sxI230.2.2.2.2.2, 0), (2, 0, 0), (2, 40))
def sxjI230 : List sxJ := [((76, 11, 0), ([(0, .negSucc 0)], [], []), (sxE0, [], [], ([], .ofNat 0))),
  ((76, 11, 0), ([(0, .negSucc 0)], [], []), (sxE0, [], [], ([], .ofNat 0))),
  ((74, 11, 0), ([(0, .ofNat 17)], [], []), (sxE0, [], [], ([], .ofNat 0))),
  ((76, 11, 0), ([(0, .negSucc 0)], [], []), (sxE0, [], [], ([], .ofNat 0))),
  ((76, 11, 0), ([(0, .negSucc 0)], [], []), (sxE0, [], [], ([], .ofNat 0))),
  ((76, 11, 0), ([(0, .negSucc 0)], [], []), (sxE0, [], [], ([], .ofNat 0))),
  ((76, 11, 0), ([(0, .negSucc 0)], [], []), (sxE0, [], [], ([], .ofNat 0))),
  ((68, 11, 0), ([(0, .ofNat 15)], [], []), (sxE0, [], [], ([], .ofNat 0))),
  ((62, 11, 0), ([(0, .ofNat 13)], [], []), (sxE0, [], [], ([], .ofNat 0))),
  ((76, 11, 0), ([(0, .negSucc 0)], [], []), (sxE0, [], [], ([], .ofNat 0))),
  ((65, 11, 0), ([(0, .ofNat 14)], [], []), (sxE0, [], [], ([], .ofNat 0))),
  ((76, 11, 0), ([(0, .negSucc 0)], [], []), (sxE0, [], [], ([], .ofNat 0))),
  ((71, 11, 0), ([(0, .ofNat 16)], [], []), (sxE0, [], [], ([], .ofNat 0)))]
theorem sxvI230 : (sx_exec sxRT [] [] sxhI230 91 0 sxI230.2.2.1 (sx_argl 0 sxI230.2.2.2.1) [] [] sxjI230).isSome = true := by decide +kernel
theorem sxmI230 {PF : Nat → List Int → List (Nat → Int) → Prop} {l : Launch} : sx_met PF sxRT sxMy sxMc sxML sxMr sxTK l sxI230 := by
  obtain ⟨its2, hk⟩ := Option.isSome_iff_exists.mp sxvI230
  exact sx_met_of (h := sxhI230) sxTK_ok (sxTK2 sxksX9_ok) sxt_X9_operationOf sxFW_ok sx_nil (fun L h => by cases h) rfl (by decide +kernel) (by decide) rfl ⟨rfl, rfl, rfl, rfl⟩ hk
def sxI231 : sxI := (234, (6, 190), ([(.ofNat 0, .ofNat 0), (.ofNat 0, .ofNat 400)], [4, 1], 0, [], [], [((0, 0), (0, .ofNat 2), (2, 1, .ofNat 0)), ((0, 1), (0, .ofNat 5), (0, 1, .ofNat 0))], []), [(2, 0, .ofNat 0)], [(1, 2, 6), (4, 3, 5), (5, 0, 400)], [(([(.ofNat 0, .ofNat 400)], [], 0, [], [], [((0, 0), (0, .ofNat 2), (2, 1, .ofNat 0)), ((0, 1), (0, .ofNat 5), (0, 2, .ofNat 0))], []), some (0, 0, .ofNat 0)), (([(.ofNat 0, .ofNat 400)], [], 0, [], [], [((0, 0), (0, .ofNat 2), (2, 1, .ofNat 0)), ((0, 1), (0, .ofNat 5), (0, 2, .ofNat 0))], []), some (0, 0, .ofNat 1))])
def sxhI231 : sxH := (sxk_X9_readsSum, sxgX9, sxpX9, sxcX9, (sxkiX9, sxklX9, sxksX9), (5, sxI231.2.2.2.2.1, sxI231.2.2.2.2.2, 1), (2, 2, 0), (6, 190))
def sxjI231 : List sxJ := [((3, 10, 0), ([(0, .ofNat 0), (1, .ofNat 0)], [0, 1], []), (sxE0, [], [], ([], .ofNat 0))),
  ((9, 0, 0), ([(0, .ofNat 0), (0, .ofNat 1), (0, .negSucc 0), (2, .ofNat 0)], [], []), (([(.ofNat 0, .ofNat 60), (.ofNat 0, .ofNat 1), (.negSucc 0, .ofNat 14), (.ofNat 0, .ofNat 400)], [], 0, [], [], [((0, 0), (0, .ofNat 2), (2, 1, .ofNat 0)), ((0, 1), (0, .ofNat 5), (0, 6, .ofNat 0))], []), [(3, (0, 3, .ofNat 0)), (2, (0, 4, .ofNat 0)), (1, (0, 5, .ofNat 0)), (0, (2, 0, .ofNat 0))], [], ([(3, .negSucc 0)], .ofNat 60))),
  ((148, 11, 0), ([(6, .ofNat 0)], [], []), (sxE0, [], [], ([], .ofNat 0))),
  ((148, 11, 1), ([(6, .ofNat 0)], [], []), (sxE0, [], [], ([], .ofNat 0))),
  ((137, 10, 3), ([(0, .ofNat 0), (5, .ofNat 0)], [0, 1], []), (sxE0, [], [], ([], .ofNat 0))),
  ((148, 11, 1), ([(6, .ofNat 0)], [], []), (sxE0, [], [], ([], .ofNat 0))),
  ((148, 11, 0), ([(6, .ofNat 0)], [], []), (sxE0, [], [], ([], .ofNat 0))),
  ((26, 10, 1), ([(0, .ofNat 0), (7, .ofNat 0)], [], []), (sxE0, [], [], ([], .ofNat 0))),
  ((148, 11, 1), ([(6, .ofNat 0)], [], []), (sxE0, [], [], ([], .ofNat 0))),
  ((137, 10, 3), ([(0, .ofNat 0), (5, .ofNat 0)], [0, 1], []), (sxE0, [], [], ([], .ofNat 0))),
  ((148, 11, 1), ([(6, .ofNat 0)], [], []), (sxE0, [], [], ([], .ofNat 0))),
  ((148, 11, 0), ([(6, .ofNat 0)], [], []), (sxE0, [], [], ([], .ofNat 0))),
  ((40, 10, 1), ([(0, .ofNat 0), (7, .ofNat 0)], [], []), (sxE0, [], [], ([], .ofNat 0))),
  ((49, 10, 2), ([(0, .ofNat 0), (6, .ofNat 0)], [1], []), (sxE0, [], [], ([], .ofNat 0))),
  ((80, 10, 0), ([(0, .ofNat 0), (10, .ofNat 0)], [0, 1], []), (sxE0, [], [], ([], .ofNat 0))),
  ((9, 2, 0), ([(3, .ofNat 1), (0, .ofNat 1), (9, .ofNat 0), (11, .ofNat 0)], [], []), (sxE0, [], [], ([], .ofNat 0))),
  ((9, 2, 0), ([(3, .ofNat 1), (0, .ofNat 0), (9, .ofNat 0), (11, .ofNat 0)], [], []), (sxE0, [], [], ([], .ofNat 0))),
  ((73, 10, 3), ([(0, .ofNat 0), (5, .ofNat 0)], [0, 1], []), (sxE0, [], [], ([], .ofNat 0))),
  ((80, 10, 0), ([(0, .ofNat 0), (10, .ofNat 0)], [0, 1], []), (sxE0, [], [], ([], .ofNat 0))),
  ((9, 2, 0), ([(3, .ofNat 1), (0, .ofNat 1), (9, .ofNat 0), (11, .ofNat 0)], [], []), (sxE0, [], [], ([], .ofNat 0))),
  ((9, 2, 0), ([(3, .ofNat 1), (0, .ofNat 0), (9, .ofNat 0), (11, .ofNat 0)], [], []), (sxE0, [], [], ([], .ofNat 0))),
  ((9, 2, 0), ([(3, .ofNat 1), (0, .ofNat 0), (9, .ofNat 0), (10, .ofNat 0)], [], []), (sxE0, [], [], ([], .ofNat 0))),
  ((99, 10, 0), ([(0, .ofNat 0), (10, .ofNat 0)], [0, 1], []), (sxE0, [], [], ([], .ofNat 0))),
  ((108, 10, 3), ([(0, .ofNat 0), (9, .ofNat 0)], [0, 1], []), (sxE0, [], [], ([], .ofNat 0))),
  ((9, 2, 0), ([(3, .ofNat 1), (0, .ofNat 1), (5, .ofNat 0), (11, .ofNat 0)], [], []), (sxE0, [], [], ([], .ofNat 0))),
  ((9, 2, 0), ([(3, .ofNat 1), (0, .ofNat 0), (5, .ofNat 0), (11, .ofNat 0)], [], []), (sxE0, [], [], ([], .ofNat 0))),
  ((9, 2, 0), ([(3, .ofNat 1), (0, .ofNat 0), (5, .ofNat 0), (11, .ofNat 0)], [], []), (sxE0, [], [], ([], .ofNat 0))),
  ((80, 10, 0), ([(0, .ofNat 0), (10, .ofNat 0)], [0, 1], []), (sxE0, [], [], ([], .ofNat 0))),
  ((9, 2, 0), ([(3, .ofNat 1), (0, .ofNat 1), (9, .ofNat 0), (11, .ofNat 0)], [], []), (sxE0, [], [], ([], .ofNat 0))),
  ((9, 2, 0), ([(3, .ofNat 1), (0, .ofNat 0), (9, .ofNat 0), (11, .ofNat 0)], [], []), (sxE0, [], [], ([], .ofNat 0))),
  ((73, 10, 3), ([(0, .ofNat 0), (5, .ofNat 0)], [0, 1], []), (sxE0, [], [], ([], .ofNat 0))),
  ((80, 10, 0), ([(0, .ofNat 0), (10, .ofNat 0)], [0, 1], []), (sxE0, [], [], ([], .ofNat 0))),
  ((9, 2, 0), ([(3, .ofNat 1), (0, .ofNat 1), (9, .ofNat 0), (11, .ofNat 0)], [], []), (sxE0, [], [], ([], .ofNat 0))),
  ((9, 2, 0), ([(3, .ofNat 1), (0, .ofNat 0), (9, .ofNat 0), (11, .ofNat 0)], [], []), (sxE0, [], [], ([], .ofNat 0))),
  ((9, 2, 0), ([(3, .ofNat 1), (0, .ofNat 0), (9, .ofNat 0), (10, .ofNat 0)], [], []), (sxE0, [], [], ([], .ofNat 0))),
  ((9, 0, 0), ([(0, .ofNat 0), (0, .ofNat 0), (0, .negSucc 0)], [], []), (([(.ofNat 0, .ofNat 0), (.ofNat 0, .ofNat 0), (.negSucc 0, .negSucc 0)], [], 0, [], [], [((0, 0), (0, .ofNat 2), (2, 1, .ofNat 0)), ((0, 1), (0, .ofNat 5), (0, 2, .ofNat 0))], []), [(3, (0, 3, .ofNat 0)), (2, (0, 4, .ofNat 0)), (1, (0, 5, .ofNat 0)), (0, (2, 0, .ofNat 0))], [], ([(3, .negSucc 0)], .ofNat 0))),
  ((148, 11, 0), ([(2, .ofNat 0)], [], []), (sxE0, [], [], ([], .ofNat 0)))]
theorem sxvI231 : (sx_exec sxRT [sxI229, sxI230, sxI64, sxI223] [] sxhI231 863 0 sxI231.2.2.1 (sx_argl 0 sxI231.2.2.2.1) [] [] sxjI231).isSome = true := by decide +kernel
theorem sxmI231 {PF : Nat → List Int → List (Nat → Int) → Prop} {l : Launch} : sx_met PF sxRT sxMy sxMc sxML sxMr sxTK l sxI231 := by
  obtain ⟨its2, hk⟩ := Option.isSome_iff_exists.mp sxvI231
  exact sx_met_of (h := sxhI231) sxTK_ok (sxTK2 sxksX9_ok) sxt_X9_readsSum sxFW_ok (sx_cons (sxmI229) (sx_cons (sxmI230) (sx_cons (sxmI64) (sx_cons (sxmI223) sx_nil)))) (fun L h => by cases h) rfl (by decide +kernel) (by decide) rfl ⟨rfl, rfl, rfl, rfl⟩ hk
def sxI232 : sxI := (1, (3, 120), ([(.ofNat 0, .ofNat 0)], [73], 0, [], [], [], []), [(2, 0, .ofNat 0)], [], [(([], [], 0, [], [], [], []), some (0, 0, .ofNat 2))])
theorem sxmI232 {PF : Nat → List Int → List (Nat → Int) → Prop} {l : Launch} : sx_met PF sxRT sxMy sxMc sxML sxMr sxTK l sxI232 := sx_hlen (k := 5) rfl
def sxI233 : sxI := (0, (3, 120), ([(.ofNat 0, .ofNat 0), (.ofNat 0, .ofNat 1)], [73], 0, [], [], [], []), [(2, 0, .ofNat 0), (0, 1, .ofNat 0)], [], [(([(.ofNat 0, .ofNat 255)], [], 0, [], [], [], []), some (0, 2, .ofNat 0))])
theorem sxmI233 {PF : Nat → List Int → List (Nat → Int) → Prop} {l : Launch} : sx_met PF sxRT sxMy sxMc sxML sxMr sxTK l sxI233 := sx_hchr (k := 5) rfl
def sxI234 : sxI := (14, (4, 141), ([(.ofNat 0, .ofNat 0), (.ofNat 0, .ofNat 0), (.ofNat 2, .ofNat 2)], [1, 73], 0, [], [], [], []), [(2, 0, .ofNat 0), (2, 1, .ofNat 0), (0, 1, .ofNat 0), (0, 2, .ofNat 0)], [], [(([(.ofNat 0, .ofNat 0)], [], 0, [], [], [], []), some (0, 3, .ofNat 0)), (([(.ofNat 1, .ofNat 1)], [], 0, [], [], [], []), some (0, 3, .ofNat 0))])
def sxhI234 : sxH := (sxk_X10_isWordIn, sxgX10, sxpX10, sxcX10, (sxkiX10, sxklX10, sxksX10), (7, sxI234.2.2.2.2.1, sxI234.2.2.2.2.2, 1), (3, 2, 0), (4, 141))
def sxjI234 : List sxJ := [((47, 0, 0), ([(0, .ofNat 0), (0, .ofNat 0)], [], []), (([(.ofNat 0, .ofNat 0), (.ofNat 0, .ofNat 0)], [], 0, [], [], [((0, 0), (0, .ofNat 3), (0, 6, .ofNat 0)), ((0, 0), (0, .ofNat 4), (0, 4, .ofNat 0)), ((0, 0), (0, .ofNat 5), (0, 3, .ofNat 0))], []), [(6, (0, 7, .ofNat 0)), (5, (0, 8, .ofNat 0)), (4, (0, 5, .ofNat 0)), (0, (2, 0, .ofNat 0)), (1, (2, 1, .ofNat 0)), (2, (0, 1, .ofNat 0)), (3, (0, 2, .ofNat 0))], [], ([(7, .negSucc 0)], .ofNat 0))),
  ((107, 11, 0), ([(8, .ofNat 0)], [], []), (sxE0, [], [], ([], .ofNat 0))),
  ((47, 0, 0), ([(0, .ofNat 0), (0, .ofNat 0)], [], []), (([(.ofNat 0, .ofNat 0), (.ofNat 0, .ofNat 0)], [], 0, [], [], [((0, 0), (0, .ofNat 3), (0, 6, .ofNat 0)), ((0, 0), (0, .ofNat 4), (0, 4, .ofNat 0)), ((0, 0), (0, .ofNat 5), (0, 3, .ofNat 0))], []), [(6, (0, 7, .ofNat 0)), (5, (0, 8, .ofNat 0)), (4, (0, 5, .ofNat 0)), (0, (2, 0, .ofNat 0)), (1, (2, 1, .ofNat 0)), (2, (0, 1, .ofNat 0)), (3, (0, 2, .ofNat 0))], [], ([(7, .negSucc 0)], .ofNat 0))),
  ((107, 11, 0), ([(8, .ofNat 0)], [], []), (sxE0, [], [], ([], .ofNat 0))),
  ((31, 10, 0), ([(0, .ofNat 0)], [1], []), (sxE0, [], [], ([], .ofNat 0))),
  ((47, 0, 0), ([(0, .ofNat 0), (0, .ofNat 1)], [], []), (([(.ofNat 0, .ofNat 2), (.ofNat 0, .ofNat 1)], [], 0, [], [], [((0, 0), (0, .ofNat 3), (0, 6, .ofNat 0)), ((0, 0), (0, .ofNat 4), (0, 4, .ofNat 0)), ((0, 0), (0, .ofNat 5), (0, 3, .ofNat 0))], []), [(6, (0, 8, .ofNat 0)), (5, (0, 9, .ofNat 0)), (4, (0, 5, .ofNat 0)), (0, (2, 0, .ofNat 0)), (1, (2, 1, .ofNat 0)), (2, (0, 1, .ofNat 0)), (3, (0, 2, .ofNat 0))], [], ([(8, .negSucc 0)], .ofNat 2))),
  ((107, 11, 0), ([(9, .ofNat 0)], [], []), (sxE0, [], [], ([], .ofNat 0))),
  ((107, 11, 1), ([(9, .ofNat 0)], [], []), (sxE0, [], [], ([], .ofNat 0))),
  ((63, 10, 1), ([(0, .ofNat 0), (10, .ofNat 0)], [1], []), (sxE0, [], [], ([], .ofNat 0))),
  ((47, 2, 0), ([(8, .ofNat 1), (0, .ofNat 0)], [], []), (sxE0, [], [], ([], .ofNat 0))),
  ((47, 2, 0), ([(8, .ofNat 1), (0, .ofNat 1)], [], []), (sxE0, [], [], ([], .ofNat 0))),
  ((81, 10, 2), ([(0, .ofNat 0), (12, .ofNat 0)], [0], []), (sxE0, [], [], ([], .ofNat 0))),
  ((47, 2, 0), ([(8, .ofNat 1), (0, .ofNat 0)], [], []), (sxE0, [], [], ([], .ofNat 0))),
  ((84, 7, 0), ([], [], []), (sxE0, [], [], ([(12, .negSucc 0)], .ofNat 399))),
  ((47, 2, 0), ([(8, .ofNat 1), (0, .ofNat 0)], [], []), (sxE0, [], [], ([], .ofNat 0))),
  ((47, 2, 0), ([(8, .ofNat 1), (0, .ofNat 1)], [], []), (sxE0, [], [], ([], .ofNat 0)))]
theorem sxvI234 : (sx_exec sxRT [sxI232, sxI233, sxI63] [] sxhI234 221 0 sxI234.2.2.1 (sx_argl 0 sxI234.2.2.2.1) [] [] sxjI234).isSome = true := by decide +kernel
theorem sxmI234 {PF : Nat → List Int → List (Nat → Int) → Prop} {l : Launch} : sx_met PF sxRT sxMy sxMc sxML sxMr sxTK l sxI234 := by
  obtain ⟨its2, hk⟩ := Option.isSome_iff_exists.mp sxvI234
  exact sx_met_of (h := sxhI234) sxTK_ok (sxTK2 sxksX10_ok) sxt_X10_isWordIn sxFW_ok (sx_cons (sxmI232) (sx_cons (sxmI233) (sx_cons (sxmI63) sx_nil))) (fun L h => by cases h) rfl (by decide +kernel) (by decide) rfl ⟨rfl, rfl, rfl, rfl⟩ hk
def sxI235 : sxI := (13, (5, 167), ([(.ofNat 0, .ofNat 0)], [1, 73], 0, [], [], [], []), [(2, 0, .ofNat 0), (2, 1, .ofNat 0)], [], [(([(.ofNat 0, .ofNat 0)], [], 0, [], [], [], []), some (0, 1, .ofNat 0)), (([(.ofNat 1, .ofNat 1)], [], 0, [], [], [], []), some (0, 1, .ofNat 0))])
def sxhI235 : sxH := (sxk_X10_isWord, sxgX10, sxpX10, sxcX10, (sxkiX10, sxklX10, sxksX10), (2, sxI235.2.2.2.2.1, sxI235.2.2.2.2.2, 1), (1, 2, 0), (5, 167))
def sxjI235 : List sxJ := [((4, 10, 0), ([(0, .ofNat 0)], [1], []), (sxE0, [], [], ([], .ofNat 0))),
  ((7, 10, 1), ([(0, .ofNat 0), (0, .ofNat 0), (0, .ofNat 2)], [0, 1], []), (sxE0, [], [], ([], .ofNat 0))),
  ((10, 11, 0), ([(1, .ofNat 0)], [], []), (sxE0, [], [], ([], .ofNat 0))),
  ((10, 11, 1), ([(1, .ofNat 0)], [], []), (sxE0, [], [], ([], .ofNat 0)))]
theorem sxvI235 : (sx_exec sxRT [sxI232, sxI234] [] sxhI235 62 0 sxI235.2.2.1 (sx_argl 0 sxI235.2.2.2.1) [] [] sxjI235).isSome = true := by decide +kernel
theorem sxmI235 {PF : Nat → List Int → List (Nat → Int) → Prop} {l : Launch} : sx_met PF sxRT sxMy sxMc sxML sxMr sxTK l sxI235 := by
  obtain ⟨its2, hk⟩ := Option.isSome_iff_exists.mp sxvI235
  exact sx_met_of (h := sxhI235) sxTK_ok (sxTK2 sxksX10_ok) sxt_X10_isWord sxFW_ok (sx_cons (sxmI232) (sx_cons (sxmI234) sx_nil)) (fun L h => by cases h) rfl (by decide +kernel) (by decide) rfl ⟨rfl, rfl, rfl, rfl⟩ hk
def sxI236 : sxI := (228, (2, 40), ([(.ofNat 0, .ofNat 0), (.negSucc 2147483647, .ofNat 2147483647)], [], 0, [], [], [], []), [(0, 1, .ofNat 0)], [], [(([(.negSucc 0, .ofNat 22)], [], 0, [], [], [], []), some (0, 2, .ofNat 0))])
def sxhI236 : sxH := (sxk_X9_comparisonOf, sxgX9, sxpX9, sxcX9, (sxkiX9, sxklX9, sxksX9), (1, sxI236.2.2.2.2.1, sxI236.2.2.2.2.2, 0), (2, 0, 0), (2, 40))
def sxjI236 : List sxJ := [((68, 11, 0), ([(0, .negSucc 0)], [], []), (sxE0, [], [], ([], .ofNat 0))),
  ((54, 11, 0), ([(0, .ofNat 18)], [], []), (sxE0, [], [], ([], .ofNat 0))),
  ((60, 11, 0), ([(0, .ofNat 20)], [], []), (sxE0, [], [], ([], .ofNat 0))),
  ((66, 11, 0), ([(0, .ofNat 22)], [], []), (sxE0, [], [], ([], .ofNat 0))),
  ((57, 11, 0), ([(0, .ofNat 19)], [], []), (sxE0, [], [], ([], .ofNat 0))),
  ((63, 11, 0), ([(0, .ofNat 21)], [], []), (sxE0, [], [], ([], .ofNat 0)))]
theorem sxvI236 : (sx_exec sxRT [] [] sxhI236 70 0 sxI236.2.2.1 (sx_argl 0 sxI236.2.2.2.1) [] [] sxjI236).isSome = true := by decide +kernel
theorem sxmI236 {PF : Nat → List Int → List (Nat → Int) → Prop} {l : Launch} : sx_met PF sxRT sxMy sxMc sxML sxMr sxTK l sxI236 := by
  obtain ⟨its2, hk⟩ := Option.isSome_iff_exists.mp sxvI236
  exact sx_met_of (h := sxhI236) sxTK_ok (sxTK2 sxksX9_ok) sxt_X9_comparisonOf sxFW_ok sx_nil (fun L h => by cases h) rfl (by decide +kernel) (by decide) rfl ⟨rfl, rfl, rfl, rfl⟩ hk
def sxI237 : sxI := (232, (7, 214), ([(.ofNat 0, .ofNat 0), (.ofNat 10, .ofNat 10), (.ofNat 0, .ofNat 400)], [4, 1], 0, [], [], [((0, 0), (0, .ofNat 2), (2, 1, .ofNat 0)), ((0, 1), (0, .ofNat 5), (0, 2, .ofNat 0))], []), [(2, 0, .ofNat 0), (0, 1, .ofNat 0)], [(1, 2, 6), (4, 3, 5), (5, 0, 400)], [(([(.ofNat 0, .ofNat 400)], [], 0, [], [], [((0, 0), (0, .ofNat 2), (2, 1, .ofNat 0)), ((0, 1), (0, .ofNat 5), (0, 3, .ofNat 0))], []), some (0, 0, .ofNat 0)), (([(.ofNat 0, .ofNat 400)], [], 0, [], [], [((0, 0), (0, .ofNat 2), (2, 1, .ofNat 0)), ((0, 1), (0, .ofNat 5), (0, 3, .ofNat 0))], []), some (0, 0, .ofNat 1))])
def sxhI237 : sxH := (sxk_X9_readsFact, sxgX9, sxpX9, sxcX9, (sxkiX9, sxklX9, sxksX9), (4, sxI237.2.2.2.2.1, sxI237.2.2.2.2.2, 1), (3, 2, 0), (7, 214))
def sxjI237 : List sxJ := [((6, 10, 0), ([(0, .ofNat 0)], [1, 2], []), (sxE0, [], [], ([], .ofNat 0))),
  ((53, 10, 1), ([(0, .ofNat 0), (2, .ofNat 0)], [0, 1], []), (sxE0, [], [], ([], .ofNat 0))),
  ((60, 11, 0), ([(5, .ofNat 0)], [], []), (sxE0, [], [], ([], .ofNat 0))),
  ((68, 10, 2), ([(0, .ofNat 0), (6, .ofNat 0)], [], []), (sxE0, [], [], ([], .ofNat 0))),
  ((118, 10, 3), ([(0, .ofNat 0), (5, .ofNat 0)], [1], []), (sxE0, [], [], ([], .ofNat 0))),
  ((122, 10, 1), ([(0, .ofNat 0), (9, .ofNat 0)], [0, 1], []), (sxE0, [], [], ([], .ofNat 0))),
  ((141, 11, 0), ([(10, .ofNat 0)], [], []), (sxE0, [], [], ([], .ofNat 0))),
  ((130, 10, 4), ([(0, .ofNat 0), (7, .ofNat 0)], [0, 1], []), (sxE0, [], [], ([], .ofNat 0))),
  ((141, 11, 1), ([(10, .ofNat 0)], [], []), (sxE0, [], [], ([], .ofNat 0))),
  ((141, 11, 0), ([(10, .ofNat 0)], [], []), (sxE0, [], [], ([], .ofNat 0))),
  ((100, 10, 5), ([(0, .ofNat 0), (0, .ofNat 3)], [1], []), (sxE0, [], [], ([], .ofNat 0))),
  ((103, 11, 0), ([(5, .ofNat 0)], [], []), (sxE0, [], [], ([], .ofNat 0))),
  ((82, 10, 5), ([(0, .ofNat 0), (0, .ofNat 0)], [1], []), (sxE0, [], [], ([], .ofNat 0))),
  ((85, 11, 0), ([(5, .ofNat 0)], [], []), (sxE0, [], [], ([], .ofNat 0))),
  ((48, 10, 5), ([(0, .ofNat 0), (0, .ofNat 2)], [1], []), (sxE0, [], [], ([], .ofNat 0))),
  ((51, 11, 0), ([(2, .ofNat 0)], [], []), (sxE0, [], [], ([], .ofNat 0))),
  ((48, 10, 5), ([(0, .ofNat 0), (0, .ofNat 2)], [1], []), (sxE0, [], [], ([], .ofNat 0))),
  ((51, 11, 0), ([(2, .ofNat 0)], [], []), (sxE0, [], [], ([], .ofNat 0)))]
theorem sxvI237 : (sx_exec sxRT [sxI77, sxI231, sxI236, sxI64, sxI223, sxI78] [] sxhI237 152 0 sxI237.2.2.1 (sx_argl 0 sxI237.2.2.2.1) [] [] sxjI237).isSome = true := by decide +kernel
theorem sxmI237 {PF : Nat → List Int → List (Nat → Int) → Prop} {l : Launch} : sx_met PF sxRT sxMy sxMc sxML sxMr sxTK l sxI237 := by
  obtain ⟨its2, hk⟩ := Option.isSome_iff_exists.mp sxvI237
  exact sx_met_of (h := sxhI237) sxTK_ok (sxTK2 sxksX9_ok) sxt_X9_readsFact sxFW_ok (sx_cons (sxmI77) (sx_cons (sxmI231) (sx_cons (sxmI236) (sx_cons (sxmI64) (sx_cons (sxmI223) (sx_cons (sxmI78) sx_nil)))))) (fun L h => by cases h) rfl (by decide +kernel) (by decide) rfl ⟨rfl, rfl, rfl, rfl⟩ hk
def sxI238 : sxI := (233, (8, 237), ([(.ofNat 0, .ofNat 0), (.ofNat 10, .ofNat 10), (.ofNat 0, .ofNat 400)], [4, 1], 0, [], [], [((0, 0), (0, .ofNat 2), (2, 1, .ofNat 0)), ((0, 1), (0, .ofNat 5), (0, 2, .ofNat 0))], []), [(2, 0, .ofNat 0), (0, 1, .ofNat 0)], [(1, 2, 6), (4, 3, 5), (5, 0, 400)], [(([(.ofNat 0, .ofNat 0), (.ofNat 0, .ofNat 400)], [], 0, [], [], [((0, 0), (0, .ofNat 2), (2, 1, .ofNat 0)), ((0, 1), (0, .ofNat 5), (0, 4, .ofNat 0))], []), some (0, 3, .ofNat 0)), (([(.ofNat 1, .ofNat 1), (.ofNat 0, .ofNat 400)], [], 0, [], [], [((0, 0), (0, .ofNat 2), (2, 1, .ofNat 0)), ((0, 1), (0, .ofNat 5), (0, 4, .ofNat 0))], []), some (0, 3, .ofNat 0))])
def sxhI238 : sxH := (sxk_X9_readsPart, sxgX9, sxpX9, sxcX9, (sxkiX9, sxklX9, sxksX9), (4, sxI238.2.2.2.2.1, sxI238.2.2.2.2.2, 1), (3, 2, 0), (8, 237))
def sxjI238 : List sxJ := [((2, 10, 0), ([(0, .ofNat 0), (1, .ofNat 0), (2, .ofNat 0)], [0, 1], []), (sxE0, [], [], ([], .ofNat 0))),
  ((8, 0, 0), ([(0, .ofNat 0), (0, .ofNat 0)], [], []), (([(.ofNat 0, .ofNat 0), (.ofNat 0, .ofNat 0)], [], 0, [], [], [((0, 0), (0, .ofNat 2), (2, 1, .ofNat 0)), ((0, 1), (0, .ofNat 5), (0, 3, .ofNat 0))], []), [(3, (0, 4, .ofNat 0)), (2, (0, 5, .ofNat 0)), (0, (2, 0, .ofNat 0)), (1, (0, 1, .ofNat 0))], [], ([(4, .negSucc 0)], .ofNat 0))),
  ((67, 11, 0), ([(5, .ofNat 0), (3, .ofNat 0)], [], []), (sxE0, [], [], ([], .ofNat 0))),
  ((8, 0, 0), ([(0, .ofNat 0), (0, .ofNat 1), (3, .ofNat 0)], [], []), (([(.ofNat 0, .ofNat 60), (.ofNat 0, .ofNat 1), (.ofNat 0, .ofNat 400)], [], 0, [], [], [((0, 0), (0, .ofNat 2), (2, 1, .ofNat 0)), ((0, 1), (0, .ofNat 5), (0, 6, .ofNat 0))], []), [(3, (0, 4, .ofNat 0)), (2, (0, 5, .ofNat 0)), (0, (2, 0, .ofNat 0)), (1, (0, 1, .ofNat 0))], [], ([(4, .negSucc 0)], .ofNat 60))),
  ((67, 11, 0), ([(5, .ofNat 0), (6, .ofNat 0)], [], []), (sxE0, [], [], ([], .ofNat 0))),
  ((67, 11, 1), ([(5, .ofNat 0), (6, .ofNat 0)], [], []), (sxE0, [], [], ([], .ofNat 0))),
  ((24, 10, 1), ([(0, .ofNat 0)], [1, 2], []), (sxE0, [], [], ([], .ofNat 0))),
  ((67, 11, 1), ([(5, .ofNat 0), (6, .ofNat 0)], [], []), (sxE0, [], [], ([], .ofNat 0))),
  ((34, 10, 2), ([(0, .ofNat 0), (6, .ofNat 0)], [1], []), (sxE0, [], [], ([], .ofNat 0))),
  ((39, 10, 0), ([(0, .ofNat 0), (1, .ofNat 0), (8, .ofNat 0)], [0, 1], []), (sxE0, [], [], ([], .ofNat 0))),
  ((8, 2, 0), ([(4, .ofNat 1), (0, .ofNat 0), (9, .ofNat 0)], [], []), (sxE0, [], [], ([], .ofNat 0))),
  ((48, 10, 3), ([(0, .ofNat 0), (0, .ofNat 24)], [0, 1], []), (sxE0, [], [], ([], .ofNat 0))),
  ((8, 2, 0), ([(4, .ofNat 1), (0, .ofNat 1), (9, .ofNat 0)], [], []), (sxE0, [], [], ([], .ofNat 0))),
  ((8, 2, 0), ([(4, .ofNat 1), (0, .ofNat 0), (9, .ofNat 0)], [], []), (sxE0, [], [], ([], .ofNat 0)))]
theorem sxvI238 : (sx_exec sxRT [sxI237, sxI77, sxI64, sxI223] [] sxhI238 257 0 sxI238.2.2.1 (sx_argl 0 sxI238.2.2.2.1) [] [] sxjI238).isSome = true := by decide +kernel
theorem sxmI238 {PF : Nat → List Int → List (Nat → Int) → Prop} {l : Launch} : sx_met PF sxRT sxMy sxMc sxML sxMr sxTK l sxI238 := by
  obtain ⟨its2, hk⟩ := Option.isSome_iff_exists.mp sxvI238
  exact sx_met_of (h := sxhI238) sxTK_ok (sxTK2 sxksX9_ok) sxt_X9_readsPart sxFW_ok (sx_cons (sxmI237) (sx_cons (sxmI77) (sx_cons (sxmI64) (sx_cons (sxmI223) sx_nil)))) (fun L h => by cases h) rfl (by decide +kernel) (by decide) rfl ⟨rfl, rfl, rfl, rfl⟩ hk
def sxI239 : sxI := (235, (9, 260), ([(.ofNat 0, .ofNat 0), (.ofNat 10, .ofNat 10), (.ofNat 0, .ofNat 400)], [4, 1], 0, [], [], [((0, 0), (0, .ofNat 2), (2, 1, .ofNat 0)), ((0, 1), (0, .ofNat 5), (0, 2, .ofNat 0))], []), [(2, 0, .ofNat 0), (0, 1, .ofNat 0)], [(1, 2, 6), (4, 3, 5), (5, 0, 400)], [(([(.ofNat 0, .ofNat 0), (.ofNat 0, .ofNat 400)], [], 0, [], [], [((0, 0), (0, .ofNat 2), (2, 1, .ofNat 0)), ((0, 1), (0, .ofNat 5), (0, 4, .ofNat 0))], []), some (0, 3, .ofNat 0)), (([(.ofNat 1, .ofNat 1), (.ofNat 0, .ofNat 400)], [], 0, [], [], [((0, 0), (0, .ofNat 2), (2, 1, .ofNat 0)), ((0, 1), (0, .ofNat 5), (0, 4, .ofNat 0))], []), some (0, 3, .ofNat 0))])
def sxhI239 : sxH := (sxk_X9_readsTest, sxgX9, sxpX9, sxcX9, (sxkiX9, sxklX9, sxksX9), (4, sxI239.2.2.2.2.1, sxI239.2.2.2.2.2, 1), (3, 2, 0), (9, 260))
def sxjI239 : List sxJ := [((2, 10, 0), ([(0, .ofNat 0), (1, .ofNat 0), (2, .ofNat 0)], [0, 1], []), (sxE0, [], [], ([], .ofNat 0))),
  ((8, 0, 0), ([(0, .ofNat 0), (3, .ofNat 0)], [], []), (([(.ofNat 0, .ofNat 0), (.ofNat 0, .ofNat 0)], [], 0, [([(6, .ofNat 1), (3, .negSucc 0)], .ofNat 0), ([(3, .ofNat 1), (6, .negSucc 0)], .ofNat 0)], [], [((0, 0), (0, .ofNat 2), (2, 1, .ofNat 0)), ((0, 1), (0, .ofNat 5), (0, 4, .ofNat 0))], []), [(3, (0, 5, .ofNat 0)), (2, (0, 6, .ofNat 0)), (0, (2, 0, .ofNat 0)), (1, (0, 1, .ofNat 0))], [], ([(5, .negSucc 0)], .ofNat 0))),
  ((67, 11, 0), ([(6, .ofNat 0), (4, .ofNat 0)], [], []), (sxE0, [], [], ([], .ofNat 0))),
  ((8, 0, 0), ([(0, .ofNat 0), (3, .ofNat 0), (4, .ofNat 0)], [], []), (([(.ofNat 0, .ofNat 60), (.ofNat 0, .ofNat 1), (.ofNat 0, .ofNat 400)], [], 0, [([(3, .ofNat 1), (6, .negSucc 0)], .ofNat 0)], [], [((0, 0), (0, .ofNat 2), (2, 1, .ofNat 0)), ((0, 1), (0, .ofNat 5), (0, 7, .ofNat 0))], []), [(3, (0, 5, .ofNat 0)), (2, (0, 6, .ofNat 0)), (0, (2, 0, .ofNat 0)), (1, (0, 1, .ofNat 0))], [], ([(5, .negSucc 0)], .ofNat 60))),
  ((67, 11, 0), ([(6, .ofNat 0), (7, .ofNat 0)], [], []), (sxE0, [], [], ([], .ofNat 0))),
  ((67, 11, 1), ([(6, .ofNat 0), (7, .ofNat 0)], [], []), (sxE0, [], [], ([], .ofNat 0))),
  ((24, 10, 1), ([(0, .ofNat 0)], [1, 2], []), (sxE0, [], [], ([], .ofNat 0))),
  ((67, 11, 1), ([(6, .ofNat 0), (7, .ofNat 0)], [], []), (sxE0, [], [], ([], .ofNat 0))),
  ((34, 10, 2), ([(0, .ofNat 0), (7, .ofNat 0)], [1], []), (sxE0, [], [], ([], .ofNat 0))),
  ((39, 10, 0), ([(0, .ofNat 0), (1, .ofNat 0), (9, .ofNat 0)], [0, 1], []), (sxE0, [], [], ([], .ofNat 0))),
  ((8, 2, 0), ([(5, .ofNat 1), (0, .ofNat 0), (11, .ofNat 0)], [], []), (sxE0, [], [], ([], .ofNat 0))),
  ((48, 10, 3), ([(0, .ofNat 0), (0, .ofNat 25)], [0, 1], []), (sxE0, [], [], ([], .ofNat 0))),
  ((8, 2, 0), ([(5, .ofNat 1), (0, .ofNat 1), (11, .ofNat 0)], [], []), (sxE0, [], [], ([], .ofNat 0))),
  ((8, 2, 0), ([(5, .ofNat 1), (0, .ofNat 0), (11, .ofNat 0)], [], []), (sxE0, [], [], ([], .ofNat 0)))]
theorem sxvI239 : (sx_exec sxRT [sxI238, sxI235, sxI64, sxI223] [] sxhI239 257 0 sxI239.2.2.1 (sx_argl 0 sxI239.2.2.2.1) [] [] sxjI239).isSome = true := by decide +kernel
theorem sxmI239 {PF : Nat → List Int → List (Nat → Int) → Prop} {l : Launch} : sx_met PF sxRT sxMy sxMc sxML sxMr sxTK l sxI239 := by
  obtain ⟨its2, hk⟩ := Option.isSome_iff_exists.mp sxvI239
  exact sx_met_of (h := sxhI239) sxTK_ok (sxTK2 sxksX9_ok) sxt_X9_readsTest sxFW_ok (sx_cons (sxmI238) (sx_cons (sxmI235) (sx_cons (sxmI64) (sx_cons (sxmI223) sx_nil)))) (fun L h => by cases h) rfl (by decide +kernel) (by decide) rfl ⟨rfl, rfl, rfl, rfl⟩ hk
def sxI240 : sxI := (237, (10, 283), ([(.ofNat 0, .ofNat 0), (.ofNat 0, .ofNat 0), (.ofNat 10, .ofNat 10), (.ofNat 0, .ofNat 400)], [4, 1], 0, [], [], [((0, 0), (0, .ofNat 2), (2, 1, .ofNat 0)), ((0, 1), (0, .ofNat 5), (0, 3, .ofNat 0))], []), [(2, 0, .ofNat 0), (0, 1, .ofNat 0), (0, 2, .ofNat 0)], [(1, 2, 6), (4, 3, 5), (5, 0, 400)], [(([(.ofNat 0, .ofNat 400)], [], 0, [], [], [((0, 0), (0, .ofNat 2), (2, 1, .ofNat 0)), ((0, 1), (0, .ofNat 5), (0, 4, .ofNat 0))], []), some (0, 0, .ofNat 0)), (([(.ofNat 0, .ofNat 400)], [], 0, [], [], [((0, 0), (0, .ofNat 2), (2, 1, .ofNat 0)), ((0, 1), (0, .ofNat 5), (0, 4, .ofNat 0))], []), some (0, 0, .ofNat 1))])
def sxhI240 : sxH := (sxk_X9_readsWithin, sxgX9, sxpX9, sxcX9, (sxkiX9, sxklX9, sxksX9), (3, sxI240.2.2.2.2.1, sxI240.2.2.2.2.2, 1), (4, 2, 0), (10, 283))
def sxjI240 : List sxJ := [((4, 10, 0), ([(0, .ofNat 0), (3, .ofNat 0)], [1], []), (sxE0, [], [], ([], .ofNat 0))),
  ((36, 10, 1), ([(0, .ofNat 0), (2, .ofNat 0), (4, .ofNat 0)], [0, 1], []), (sxE0, [], [], ([], .ofNat 0))),
  ((43, 11, 0), ([(6, .ofNat 0)], [], []), (sxE0, [], [], ([], .ofNat 0))),
  ((69, 10, 0), ([(0, .ofNat 0), (6, .ofNat 0)], [1], []), (sxE0, [], [], ([], .ofNat 0))),
  ((73, 11, 1), ([(8, .ofNat 0)], [], []), (sxE0, [], [], ([], .ofNat 0))),
  ((61, 10, 2), ([(0, .ofNat 0), (0, .ofNat 0)], [1], []), (sxE0, [], [], ([], .ofNat 0))),
  ((64, 11, 0), ([(6, .ofNat 0)], [], []), (sxE0, [], [], ([], .ofNat 0)))]
theorem sxvI240 : (sx_exec sxRT [sxI64, sxI239, sxI78] [] sxhI240 84 0 sxI240.2.2.1 (sx_argl 0 sxI240.2.2.2.1) [] [] sxjI240).isSome = true := by decide +kernel
theorem sxmI240 {PF : Nat → List Int → List (Nat → Int) → Prop} {l : Launch} : sx_met PF sxRT sxMy sxMc sxML sxMr sxTK l sxI240 := by
  obtain ⟨its2, hk⟩ := Option.isSome_iff_exists.mp sxvI240
  exact sx_met_of (h := sxhI240) sxTK_ok (sxTK2 sxksX9_ok) sxt_X9_readsWithin sxFW_ok (sx_cons (sxmI64) (sx_cons (sxmI239) (sx_cons (sxmI78) sx_nil))) (fun L h => by cases h) rfl (by decide +kernel) (by decide) rfl ⟨rfl, rfl, rfl, rfl⟩ hk
def sxI241 : sxI := (237, (8, 237), ([(.ofNat 0, .ofNat 0), (.ofNat 1, .ofNat 1), (.ofNat 10, .ofNat 10), (.ofNat 0, .ofNat 400)], [4, 1], 0, [], [], [((0, 0), (0, .ofNat 2), (2, 1, .ofNat 0)), ((0, 1), (0, .ofNat 5), (0, 3, .ofNat 0))], []), [(2, 0, .ofNat 0), (0, 1, .ofNat 0), (0, 2, .ofNat 0)], [(1, 2, 6), (4, 3, 5), (5, 0, 400)], [(([(.ofNat 0, .ofNat 400)], [], 0, [], [], [((0, 0), (0, .ofNat 2), (2, 1, .ofNat 0)), ((0, 1), (0, .ofNat 5), (0, 4, .ofNat 0))], []), some (0, 0, .ofNat 0)), (([(.ofNat 0, .ofNat 400)], [], 0, [], [], [((0, 0), (0, .ofNat 2), (2, 1, .ofNat 0)), ((0, 1), (0, .ofNat 5), (0, 4, .ofNat 0))], []), some (0, 0, .ofNat 1))])
def sxhI241 : sxH := (sxk_X9_readsWithin, sxgX9, sxpX9, sxcX9, (sxkiX9, sxklX9, sxksX9), (3, sxI241.2.2.2.2.1, sxI241.2.2.2.2.2, 1), (4, 2, 0), (8, 237))
def sxjI241 : List sxJ := [((4, 10, 0), ([(0, .ofNat 0), (3, .ofNat 0)], [1], []), (sxE0, [], [], ([], .ofNat 0))),
  ((13, 10, 1), ([(0, .ofNat 0), (2, .ofNat 0), (4, .ofNat 0)], [0, 1], []), (sxE0, [], [], ([], .ofNat 0))),
  ((33, 11, 0), ([(5, .ofNat 0)], [], []), (sxE0, [], [], ([], .ofNat 0))),
  ((22, 10, 2), ([(0, .ofNat 0), (0, .ofNat 23)], [0, 1], []), (sxE0, [], [], ([], .ofNat 0))),
  ((33, 11, 1), ([(5, .ofNat 0)], [], []), (sxE0, [], [], ([], .ofNat 0))),
  ((33, 11, 0), ([(5, .ofNat 0)], [], []), (sxE0, [], [], ([], .ofNat 0)))]
theorem sxvI241 : (sx_exec sxRT [sxI64, sxI237, sxI223] [] sxhI241 78 0 sxI241.2.2.1 (sx_argl 0 sxI241.2.2.2.1) [] [] sxjI241).isSome = true := by decide +kernel
theorem sxmI241 {PF : Nat → List Int → List (Nat → Int) → Prop} {l : Launch} : sx_met PF sxRT sxMy sxMc sxML sxMr sxTK l sxI241 := by
  obtain ⟨its2, hk⟩ := Option.isSome_iff_exists.mp sxvI241
  exact sx_met_of (h := sxhI241) sxTK_ok (sxTK2 sxksX9_ok) sxt_X9_readsWithin sxFW_ok (sx_cons (sxmI64) (sx_cons (sxmI237) (sx_cons (sxmI223) sx_nil))) (fun L h => by cases h) rfl (by decide +kernel) (by decide) rfl ⟨rfl, rfl, rfl, rfl⟩ hk
def sxI242 : sxI := (232, (11, 305), ([(.ofNat 0, .ofNat 0), (.ofNat 9, .ofNat 9), (.ofNat 0, .ofNat 400)], [4, 1], 0, [], [], [((0, 0), (0, .ofNat 2), (2, 1, .ofNat 0)), ((0, 1), (0, .ofNat 5), (0, 2, .ofNat 0))], []), [(2, 0, .ofNat 0), (0, 1, .ofNat 0)], [(1, 2, 6), (4, 3, 5), (5, 0, 400)], [(([(.ofNat 0, .ofNat 400)], [], 0, [], [], [((0, 0), (0, .ofNat 2), (2, 1, .ofNat 0)), ((0, 1), (0, .ofNat 5), (0, 3, .ofNat 0))], []), some (0, 0, .ofNat 0)), (([(.ofNat 0, .ofNat 400)], [], 0, [], [], [((0, 0), (0, .ofNat 2), (2, 1, .ofNat 0)), ((0, 1), (0, .ofNat 5), (0, 3, .ofNat 0))], []), some (0, 0, .ofNat 1))])
def sxhI242 : sxH := (sxk_X9_readsFact, sxgX9, sxpX9, sxcX9, (sxkiX9, sxklX9, sxksX9), (4, sxI242.2.2.2.2.1, sxI242.2.2.2.2.2, 1), (3, 2, 0), (11, 305))
def sxjI242 : List sxJ := [((6, 10, 0), ([(0, .ofNat 0)], [1, 2], []), (sxE0, [], [], ([], .ofNat 0))),
  ((53, 10, 1), ([(0, .ofNat 0), (2, .ofNat 0)], [0, 1], []), (sxE0, [], [], ([], .ofNat 0))),
  ((60, 11, 0), ([(5, .ofNat 0)], [], []), (sxE0, [], [], ([], .ofNat 0))),
  ((68, 10, 2), ([(0, .ofNat 0), (6, .ofNat 0)], [], []), (sxE0, [], [], ([], .ofNat 0))),
  ((118, 10, 3), ([(0, .ofNat 0), (5, .ofNat 0)], [1], []), (sxE0, [], [], ([], .ofNat 0))),
  ((122, 10, 1), ([(0, .ofNat 0), (9, .ofNat 0)], [0, 1], []), (sxE0, [], [], ([], .ofNat 0))),
  ((141, 11, 0), ([(10, .ofNat 0)], [], []), (sxE0, [], [], ([], .ofNat 0))),
  ((130, 10, 4), ([(0, .ofNat 0), (7, .ofNat 0)], [0, 1], []), (sxE0, [], [], ([], .ofNat 0))),
  ((141, 11, 1), ([(10, .ofNat 0)], [], []), (sxE0, [], [], ([], .ofNat 0))),
  ((141, 11, 0), ([(10, .ofNat 0)], [], []), (sxE0, [], [], ([], .ofNat 0))),
  ((100, 10, 5), ([(0, .ofNat 0), (0, .ofNat 3)], [1], []), (sxE0, [], [], ([], .ofNat 0))),
  ((103, 11, 0), ([(5, .ofNat 0)], [], []), (sxE0, [], [], ([], .ofNat 0))),
  ((82, 10, 5), ([(0, .ofNat 0), (0, .ofNat 0)], [1], []), (sxE0, [], [], ([], .ofNat 0))),
  ((85, 11, 0), ([(5, .ofNat 0)], [], []), (sxE0, [], [], ([], .ofNat 0))),
  ((37, 10, 6), ([(0, .ofNat 0), (3, .ofNat 0), (1, .ofNat 1), (2, .ofNat 0)], [0, 1], []), (sxE0, [], [], ([], .ofNat 0))),
  ((51, 11, 0), ([(5, .ofNat 0)], [], []), (sxE0, [], [], ([], .ofNat 0))),
  ((51, 11, 1), ([(5, .ofNat 0)], [], []), (sxE0, [], [], ([], .ofNat 0))),
  ((37, 10, 7), ([(0, .ofNat 0), (3, .ofNat 0), (1, .ofNat 1), (2, .ofNat 0)], [0, 1], []), (sxE0, [], [], ([], .ofNat 0))),
  ((51, 11, 0), ([(4, .ofNat 0)], [], []), (sxE0, [], [], ([], .ofNat 0))),
  ((51, 11, 1), ([(4, .ofNat 0)], [], []), (sxE0, [], [], ([], .ofNat 0)))]
theorem sxvI242 : (sx_exec sxRT [sxI77, sxI231, sxI236, sxI64, sxI223, sxI78, sxI240, sxI241] [] sxhI242 164 0 sxI242.2.2.1 (sx_argl 0 sxI242.2.2.2.1) [] [] sxjI242).isSome = true := by decide +kernel
theorem sxmI242 {PF : Nat → List Int → List (Nat → Int) → Prop} {l : Launch} : sx_met PF sxRT sxMy sxMc sxML sxMr sxTK l sxI242 := by
  obtain ⟨its2, hk⟩ := Option.isSome_iff_exists.mp sxvI242
  exact sx_met_of (h := sxhI242) sxTK_ok (sxTK2 sxksX9_ok) sxt_X9_readsFact sxFW_ok (sx_cons (sxmI77) (sx_cons (sxmI231) (sx_cons (sxmI236) (sx_cons (sxmI64) (sx_cons (sxmI223) (sx_cons (sxmI78) (sx_cons (sxmI240) (sx_cons (sxmI241) sx_nil)))))))) (fun L h => by cases h) rfl (by decide +kernel) (by decide) rfl ⟨rfl, rfl, rfl, rfl⟩ hk
