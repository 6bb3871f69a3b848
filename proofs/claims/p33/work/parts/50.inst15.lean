def sxI258 : sxI := (233, (24, 601), ([(.ofNat 0, .ofNat 0), (.ofNat 6, .ofNat 6), (.ofNat 0, .ofNat 400)], [4, 1], 0, [], [], [((0, 0), (0, .ofNat 2), (2, 1, .ofNat 0)), ((0, 1), (0, .ofNat 5), (0, 2, .ofNat 0))], []), [(2, 0, .ofNat 0), (0, 1, .ofNat 0)], [(1, 2, 6), (4, 3, 5), (5, 0, 400)], [(([(.ofNat 0, .ofNat 0), (.ofNat 0, .ofNat 400)], [], 0, [], [], [((0, 0), (0, .ofNat 2), (2, 1, .ofNat 0)), ((0, 1), (0, .ofNat 5), (0, 4, .ofNat 0))], []), some (0, 3, .ofNat 0)), (([(.ofNat 1, .ofNat 1), (.ofNat 0, .ofNat 400)], [], 0, [], [], [((0, 0), (0, .ofNat 2), (2, 1, .ofNat 0)), ((0, 1), (0, .ofNat 5), (0, 4, .ofNat 0))], []), some (0, 3, .ofNat 0))])
def sxhI258 : sxH := (sxk_X9_readsPart, sxgX9, sxpX9, sxcX9, (sxkiX9, sxklX9, sxksX9), (4, sxI258.2.2.2.2.1, sxI258.2.2.2.2.2, 1), (3, 2, 0), (24, 601))
def sxjI258 : List sxJ := [((2, 10, 0), ([(0, .ofNat 0), (1, .ofNat 0), (2, .ofNat 0)], [0, 1], []), (sxE0, [], [], ([], .ofNat 0))),
  ((8, 0, 0), ([(0, .ofNat 0), (0, .ofNat 0)], [], []), (([(.ofNat 0, .ofNat 0), (.ofNat 0, .ofNat 0)], [], 0, [], [], [((0, 0), (0, .ofNat 2), (2, 1, .ofNat 0)), ((0, 1), (0, .ofNat 5), (0, 3, .ofNat 0))], []), [(3, (0, 4, .ofNat 0)), (2, (0, 5, .ofNat 0)), (0, (2, 0, .ofNat 0)), (1, (0, 1, .ofNat 0))], [], ([(4, .negSucc 0)], .ofNat 0))),
  ((67, 11, 0), ([(5, .ofNat 0), (3, .ofNat 0)], [], []), (sxE0, [], [], ([], .ofNat 0))),
  ((8, 0, 0), ([(0, .ofNat 0), (0, .ofNat 1), (3, .ofNat 0)], [], []), (([(.ofNat 0, .ofNat 60), (.ofNat 0, .ofNat 1), (.ofNat 0, .ofNat 400)], [], 0, [], [], [((0, 0), (0, .ofNat 2), (2, 1, .ofNat 0)), ((0, 1), (0, .ofNat 5), (0, 6, .ofNat 0))], []), [(3, (0, 4, .ofNat 0)), (2, (0, 5, .ofNat 0)), (0, (2, 0, .ofNat 0)), (1, (0, 1, .ofNat 0))], [], ([(4, .negSucc 0)], .ofNat 60))),
  ((67, 11, 0), ([(5, .ofNat 0), (6, .ofNat 0)], [], []), (sxE0, [], [], ([], .ofNat 0))),
  ((67, 11, 1), ([(5, .ofNat 0), (6, .ofNat 0)], [], []), (sxE0, [], [], ([], .ofNat 0))),
  ((24, 10, 1), ([(0, .ofNat 0)], [1, 2], []), (sxE0, [], [], ([], .ofNat 0))),
  ((67, 11, 1), ([(5, .ofNat 0), (6, .ofNat 0)], [], []), (sxE0, [], [], ([], .ofNat 0))),
  ((34, 10, 2), ([(0, .ofNat 0), (6, .ofNat 0)], [1], []), (sxE0, [], [], ([], .ofNat 0))),
  ((39, 10, 0), ([(0, .ofNat 0), (1, .ofNat 0), (8, .ofNat 0)], [0, 1], []), (sxE0, [], [], ([], .ofNat 0))),
  ((8, 2, 0), ([(4, .ofNat 1), (0, .ofNat 0), (9, .ofNat 0)], [], []), (sxE0, [], [], ([], .ofNat 0))),
  ((48, 10, 3), ([(0, .ofNat 0), (0, .ofNat 24)], [0, 1], []), (sxE0, [], [], ([], .ofNat 0))),
  ((8, 2, 0), ([(4, .ofNat 1), (0, .ofNat 1), (9, .ofNat 0)], [], []), (sxE0, [], [], ([], .ofNat 0))),
  ((8, 2, 0), ([(4, .ofNat 1), (0, .ofNat 0), (9, .ofNat 0)], [], []), (sxE0, [], [], ([], .ofNat 0)))]
theorem sxvI258 : (sx_exec sxRT [sxI257, sxI77, sxI64, sxI223] [] sxhI258 257 0 sxI258.2.2.1 (sx_argl 0 sxI258.2.2.2.1) [] [] sxjI258).isSome = true := by decide +kernel
theorem sxmI258 {PF : Nat → List Int → List (Nat → Int) → Prop} {l : Launch} : sx_met PF sxRT sxMy sxMc sxML sxMr sxTK l sxI258 := by
  obtain ⟨its2, hk⟩ := Option.isSome_iff_exists.mp sxvI258
  exact sx_met_of (h := sxhI258) sxTK_ok (sxTK2 sxksX9_ok) sxt_X9_readsPart sxFW_ok (sx_cons (sxmI257) (sx_cons (sxmI77) (sx_cons (sxmI64) (sx_cons (sxmI223) sx_nil)))) (fun L h => by cases h) rfl (by decide +kernel) (by decide) rfl ⟨rfl, rfl, rfl, rfl⟩ hk
def sxI259 : sxI := (235, (25, 624), ([(.ofNat 0, .ofNat 0), (.ofNat 6, .ofNat 6), (.ofNat 0, .ofNat 400)], [4, 1], 0, [], [], [((0, 0), (0, .ofNat 2), (2, 1, .ofNat 0)), ((0, 1), (0, .ofNat 5), (0, 2, .ofNat 0))], []), [(2, 0, .ofNat 0), (0, 1, .ofNat 0)], [(1, 2, 6), (4, 3, 5), (5, 0, 400)], [(([(.ofNat 0, .ofNat 0), (.ofNat 0, .ofNat 400)], [], 0, [], [], [((0, 0), (0, .ofNat 2), (2, 1, .ofNat 0)), ((0, 1), (0, .ofNat 5), (0, 4, .ofNat 0))], []), some (0, 3, .ofNat 0)), (([(.ofNat 1, .ofNat 1), (.ofNat 0, .ofNat 400)], [], 0, [], [], [((0, 0), (0, .ofNat 2), (2, 1, .ofNat 0)), ((0, 1), (0, .ofNat 5), (0, 4, .ofNat 0))], []), some (0, 3, .ofNat 0))])
def sxhI259 : sxH := (sxk_X9_readsTest, sxgX9, sxpX9, sxcX9, (sxkiX9, sxklX9, sxksX9), (4, sxI259.2.2.2.2.1, sxI259.2.2.2.2.2, 1), (3, 2, 0), (25, 624))
def sxjI259 : List sxJ := [((2, 10, 0), ([(0, .ofNat 0), (1, .ofNat 0), (2, .ofNat 0)], [0, 1], []), (sxE0, [], [], ([], .ofNat 0))),
  ((8, 0, 0), ([(0, .ofNat 0), (3, .ofNat 0)], [], []), (([(.ofNat 0, .ofNat 0), (.ofNat 0, .ofNat 0)], [], 0, [([(6, .ofNat 1), (3, .negSucc 0)], .ofNat 0), ([(3, .ofNat 1), (6, .negSucc 0)], .ofNat 0)], [], [((0, 0), (0, .ofNat 2), (2, 1, .ofNat 0)), ((0, 1), (0, .ofNat 5), (0, 4, .ofNat 0))], []), [(3, (0, 5, .ofNat 0)), (2, (0, 6, .ofNat 0)), (0, (2, 0, .ofNat 0)), (1, (0, 1, .ofNat 0))], [], ([(5, .negSucc 0)], .ofNat 0))),
  ((67, 11, 0), ([(6, .ofNat 0), (4, .ofNat 0)], [], []), (sxE0, [], [], ([], .ofNat 0))),
  ((8, 0, 0), ([(0, .ofNat 0), (3, .ofNat 0), (4, .ofNat 0)], [], []), (([(.ofNat 0, .ofNat 60), (.ofNat 0, .ofNat 1), (.ofNat 0, .ofNat 400)], [], 0, [([(3, .ofNat 1), (6, .negSucc 0)], .ofNat 0)], [], [((0, 0), (0, .ofNat 2), (2, 1, .ofNat 0)), ((0, 1), (0, .ofNat 5), (0, 7, .ofNat 0))], []), [(3, (0, 5, .ofNat 0)), (2, (0, 6, .ofNat 0)), (0, (2, 0, .ofNat 0)), (1, (0, 1, .ofNat 0))], [], ([(5, .negSucc 0)], .ofNat 60))),
  ((67, 11, 0), ([(6, .ofNat 0), (7, .ofNat 0)], [], []), (sxE0, [], [], ([], .ofNat 0))),
  ((67, 11, 1), ([(6, .ofNat 0), (7, .ofNat 0)], [], []), (sxE0, [], [], ([], .ofNat 0))),
  ((24, 10, 1), ([(0, .ofNat 0)], [1, 2], []), (sxE0, [], [], ([], .ofNat 0))),
  ((67, 11, 1), ([(6, .ofNat 0), (7, .ofNat 0)], [], []), (sxE0, [], [], ([], .ofNat 0))),
  ((34, 10, 2), ([(0, .ofNat 0), (7, .ofNat 0)], [1], []), (sxE0, [], [], ([], .ofNat 0))),
  ((39, 10, 0), ([(0, .ofNat 0), (1, .ofNat 0), (9, .ofNat 0)], [0, 1], []), (sxE0, [], [], ([], .ofNat 0))),
  ((8, 2, 0), ([(5, .ofNat 1), (0, .ofNat 0), (11, .ofNat 0)], [], []), (sxE0, [], [], ([], .ofNat 0))),
  ((48, 10, 3), ([(0, .ofNat 0), (0, .ofNat 25)], [0, 1], []), (sxE0, [], [], ([], .ofNat 0))),
  ((8, 2, 0), ([(5, .ofNat 1), (0, .ofNat 1), (11, .ofNat 0)], [], []), (sxE0, [], [], ([], .ofNat 0))),
  ((8, 2, 0), ([(5, .ofNat 1), (0, .ofNat 0), (11, .ofNat 0)], [], []), (sxE0, [], [], ([], .ofNat 0)))]
theorem sxvI259 : (sx_exec sxRT [sxI258, sxI235, sxI64, sxI223] [] sxhI259 257 0 sxI259.2.2.1 (sx_argl 0 sxI259.2.2.2.1) [] [] sxjI259).isSome = true := by decide +kernel
theorem sxmI259 {PF : Nat → List Int → List (Nat → Int) → Prop} {l : Launch} : sx_met PF sxRT sxMy sxMc sxML sxMr sxTK l sxI259 := by
  obtain ⟨its2, hk⟩ := Option.isSome_iff_exists.mp sxvI259
  exact sx_met_of (h := sxhI259) sxTK_ok (sxTK2 sxksX9_ok) sxt_X9_readsTest sxFW_ok (sx_cons (sxmI258) (sx_cons (sxmI235) (sx_cons (sxmI64) (sx_cons (sxmI223) sx_nil)))) (fun L h => by cases h) rfl (by decide +kernel) (by decide) rfl ⟨rfl, rfl, rfl, rfl⟩ hk
def sxI260 : sxI := (237, (26, 647), ([(.ofNat 0, .ofNat 0), (.ofNat 0, .ofNat 0), (.ofNat 6, .ofNat 6), (.ofNat 0, .ofNat 400)], [4, 1], 0, [], [], [((0, 0), (0, .ofNat 2), (2, 1, .ofNat 0)), ((0, 1), (0, .ofNat 5), (0, 3, .ofNat 0))], []), [(2, 0, .ofNat 0), (0, 1, .ofNat 0), (0, 2, .ofNat 0)], [(1, 2, 6), (4, 3, 5), (5, 0, 400)], [(([(.ofNat 0, .ofNat 400)], [], 0, [], [], [((0, 0), (0, .ofNat 2), (2, 1, .ofNat 0)), ((0, 1), (0, .ofNat 5), (0, 4, .ofNat 0))], []), some (0, 0, .ofNat 0)), (([(.ofNat 0, .ofNat 400)], [], 0, [], [], [((0, 0), (0, .ofNat 2), (2, 1, .ofNat 0)), ((0, 1), (0, .ofNat 5), (0, 4, .ofNat 0))], []), some (0, 0, .ofNat 1))])
def sxhI260 : sxH := (sxk_X9_readsWithin, sxgX9, sxpX9, sxcX9, (sxkiX9, sxklX9, sxksX9), (3, sxI260.2.2.2.2.1, sxI260.2.2.2.2.2, 1), (4, 2, 0), (26, 647))
def sxjI260 : List sxJ := [((4, 10, 0), ([(0, .ofNat 0), (3, .ofNat 0)], [1], []), (sxE0, [], [], ([], .ofNat 0))),
  ((36, 10, 1), ([(0, .ofNat 0), (2, .ofNat 0), (4, .ofNat 0)], [0, 1], []), (sxE0, [], [], ([], .ofNat 0))),
  ((43, 11, 0), ([(6, .ofNat 0)], [], []), (sxE0, [], [], ([], .ofNat 0))),
  ((69, 10, 0), ([(0, .ofNat 0), (6, .ofNat 0)], [1], []), (sxE0, [], [], ([], .ofNat 0))),
  ((73, 11, 1), ([(8, .ofNat 0)], [], []), (sxE0, [], [], ([], .ofNat 0))),
  ((61, 10, 2), ([(0, .ofNat 0), (0, .ofNat 0)], [1], []), (sxE0, [], [], ([], .ofNat 0))),
  ((64, 11, 0), ([(6, .ofNat 0)], [], []), (sxE0, [], [], ([], .ofNat 0)))]
theorem sxvI260 : (sx_exec sxRT [sxI64, sxI259, sxI78] [] sxhI260 84 0 sxI260.2.2.1 (sx_argl 0 sxI260.2.2.2.1) [] [] sxjI260).isSome = true := by decide +kernel
theorem sxmI260 {PF : Nat → List Int → List (Nat → Int) → Prop} {l : Launch} : sx_met PF sxRT sxMy sxMc sxML sxMr sxTK l sxI260 := by
  obtain ⟨its2, hk⟩ := Option.isSome_iff_exists.mp sxvI260
  exact sx_met_of (h := sxhI260) sxTK_ok (sxTK2 sxksX9_ok) sxt_X9_readsWithin sxFW_ok (sx_cons (sxmI64) (sx_cons (sxmI259) (sx_cons (sxmI78) sx_nil))) (fun L h => by cases h) rfl (by decide +kernel) (by decide) rfl ⟨rfl, rfl, rfl, rfl⟩ hk
def sxI261 : sxI := (237, (24, 601), ([(.ofNat 0, .ofNat 0), (.ofNat 1, .ofNat 1), (.ofNat 6, .ofNat 6), (.ofNat 0, .ofNat 400)], [4, 1], 0, [], [], [((0, 0), (0, .ofNat 2), (2, 1, .ofNat 0)), ((0, 1), (0, .ofNat 5), (0, 3, .ofNat 0))], []), [(2, 0, .ofNat 0), (0, 1, .ofNat 0), (0, 2, .ofNat 0)], [(1, 2, 6), (4, 3, 5), (5, 0, 400)], [(([(.ofNat 0, .ofNat 400)], [], 0, [], [], [((0, 0), (0, .ofNat 2), (2, 1, .ofNat 0)), ((0, 1), (0, .ofNat 5), (0, 4, .ofNat 0))], []), some (0, 0, .ofNat 0)), (([(.ofNat 0, .ofNat 400)], [], 0, [], [], [((0, 0), (0, .ofNat 2), (2, 1, .ofNat 0)), ((0, 1), (0, .ofNat 5), (0, 4, .ofNat 0))], []), some (0, 0, .ofNat 1))])
def sxhI261 : sxH := (sxk_X9_readsWithin, sxgX9, sxpX9, sxcX9, (sxkiX9, sxklX9, sxksX9), (3, sxI261.2.2.2.2.1, sxI261.2.2.2.2.2, 1), (4, 2, 0), (24, 601))
def sxjI261 : List sxJ := [((4, 10, 0), ([(0, .ofNat 0), (3, .ofNat 0)], [1], []), (sxE0, [], [], ([], .ofNat 0))),
  ((13, 10, 1), ([(0, .ofNat 0), (2, .ofNat 0), (4, .ofNat 0)], [0, 1], []), (sxE0, [], [], ([], .ofNat 0))),
  ((33, 11, 0), ([(5, .ofNat 0)], [], []), (sxE0, [], [], ([], .ofNat 0))),
  ((22, 10, 2), ([(0, .ofNat 0), (0, .ofNat 23)], [0, 1], []), (sxE0, [], [], ([], .ofNat 0))),
  ((33, 11, 1), ([(5, .ofNat 0)], [], []), (sxE0, [], [], ([], .ofNat 0))),
  ((33, 11, 0), ([(5, .ofNat 0)], [], []), (sxE0, [], [], ([], .ofNat 0)))]
theorem sxvI261 : (sx_exec sxRT [sxI64, sxI257, sxI223] [] sxhI261 78 0 sxI261.2.2.1 (sx_argl 0 sxI261.2.2.2.1) [] [] sxjI261).isSome = true := by decide +kernel
theorem sxmI261 {PF : Nat → List Int → List (Nat → Int) → Prop} {l : Launch} : sx_met PF sxRT sxMy sxMc sxML sxMr sxTK l sxI261 := by
  obtain ⟨its2, hk⟩ := Option.isSome_iff_exists.mp sxvI261
  exact sx_met_of (h := sxhI261) sxTK_ok (sxTK2 sxksX9_ok) sxt_X9_readsWithin sxFW_ok (sx_cons (sxmI64) (sx_cons (sxmI257) (sx_cons (sxmI223) sx_nil))) (fun L h => by cases h) rfl (by decide +kernel) (by decide) rfl ⟨rfl, rfl, rfl, rfl⟩ hk
def sxI262 : sxI := (232, (27, 669), ([(.ofNat 0, .ofNat 0), (.ofNat 5, .ofNat 5), (.ofNat 0, .ofNat 400)], [4, 1], 0, [], [], [((0, 0), (0, .ofNat 2), (2, 1, .ofNat 0)), ((0, 1), (0, .ofNat 5), (0, 2, .ofNat 0))], []), [(2, 0, .ofNat 0), (0, 1, .ofNat 0)], [(1, 2, 6), (4, 3, 5), (5, 0, 400)], [(([(.ofNat 0, .ofNat 400)], [], 0, [], [], [((0, 0), (0, .ofNat 2), (2, 1, .ofNat 0)), ((0, 1), (0, .ofNat 5), (0, 3, .ofNat 0))], []), some (0, 0, .ofNat 0)), (([(.ofNat 0, .ofNat 400)], [], 0, [], [], [((0, 0), (0, .ofNat 2), (2, 1, .ofNat 0)), ((0, 1), (0, .ofNat 5), (0, 3, .ofNat 0))], []), some (0, 0, .ofNat 1))])
def sxhI262 : sxH := (sxk_X9_readsFact, sxgX9, sxpX9, sxcX9, (sxkiX9, sxklX9, sxksX9), (4, sxI262.2.2.2.2.1, sxI262.2.2.2.2.2, 1), (3, 2, 0), (27, 669))
def sxjI262 : List sxJ := [((6, 10, 0), ([(0, .ofNat 0)], [1, 2], []), (sxE0, [], [], ([], .ofNat 0))),
  ((53, 10, 1), ([(0, .ofNat 0), (2, .ofNat 0)], [0, 1], []), (sxE0, [], [], ([], .ofNat 0))),
  ((60, 11, 0), ([(5, .ofNat 0)], [], []), (sxE0, [], [], ([], .ofNat 0))),
  ((68, 10, 2), ([(0, .ofNat 0), (6, .ofNat 0)], [], []), (sxE0, [], [], ([], .ofNat 0))),
  ((118, 10, 3), ([(0, .ofNat 0), (5, .ofNat 0)], [1], []), (sxE0, [], [], ([], .ofNat 0))),
  ((122, 10, 1), ([(0, .ofNat 0), (9, .ofNat 0)], [0, 1], []), (sxE0, [], [], ([], .ofNat 0))),
  ((141, 11, 0), ([(10, .ofNat 0)], [], []), (sxE0, [], [], ([], .ofNat 0))),
  ((130, 10, 4), ([(0, .ofNat 0), (7, .ofNat 0)], [0, 1], []), (sxE0, [], [], ([], .ofNat 0))),
  ((141, 11, 1), ([(10, .ofNat 0)], [], []), (sxE0, [], [], ([], .ofNat 0))),
  ((141, 11, 0), ([(10, .ofNat 0)], [], []), (sxE0, [], [], ([], .ofNat 0))),
  ((100, 10, 5), ([(0, .ofNat 0), (0, .ofNat 3)], [1], []), (sxE0, [], [], ([], .ofNat 0))),
  ((103, 11, 0), ([(5, .ofNat 0)], [], []), (sxE0, [], [], ([], .ofNat 0))),
  ((82, 10, 5), ([(0, .ofNat 0), (0, .ofNat 0)], [1], []), (sxE0, [], [], ([], .ofNat 0))),
  ((85, 11, 0), ([(5, .ofNat 0)], [], []), (sxE0, [], [], ([], .ofNat 0))),
  ((37, 10, 6), ([(0, .ofNat 0), (3, .ofNat 0), (1, .ofNat 1), (2, .ofNat 0)], [0, 1], []), (sxE0, [], [], ([], .ofNat 0))),
  ((51, 11, 0), ([(5, .ofNat 0)], [], []), (sxE0, [], [], ([], .ofNat 0))),
  ((51, 11, 1), ([(5, .ofNat 0)], [], []), (sxE0, [], [], ([], .ofNat 0))),
  ((37, 10, 7), ([(0, .ofNat 0), (3, .ofNat 0), (1, .ofNat 1), (2, .ofNat 0)], [0, 1], []), (sxE0, [], [], ([], .ofNat 0))),
  ((51, 11, 0), ([(4, .ofNat 0)], [], []), (sxE0, [], [], ([], .ofNat 0))),
  ((51, 11, 1), ([(4, .ofNat 0)], [], []), (sxE0, [], [], ([], .ofNat 0)))]
theorem sxvI262 : (sx_exec sxRT [sxI77, sxI231, sxI236, sxI64, sxI223, sxI78, sxI260, sxI261] [] sxhI262 164 0 sxI262.2.2.1 (sx_argl 0 sxI262.2.2.2.1) [] [] sxjI262).isSome = true := by decide +kernel
theorem sxmI262 {PF : Nat → List Int → List (Nat → Int) → Prop} {l : Launch} : sx_met PF sxRT sxMy sxMc sxML sxMr sxTK l sxI262 := by
  obtain ⟨its2, hk⟩ := Option.isSome_iff_exists.mp sxvI262
  exact sx_met_of (h := sxhI262) sxTK_ok (sxTK2 sxksX9_ok) sxt_X9_readsFact sxFW_ok (sx_cons (sxmI77) (sx_cons (sxmI231) (sx_cons (sxmI236) (sx_cons (sxmI64) (sx_cons (sxmI223) (sx_cons (sxmI78) (sx_cons (sxmI260) (sx_cons (sxmI261) sx_nil)))))))) (fun L h => by cases h) rfl (by decide +kernel) (by decide) rfl ⟨rfl, rfl, rfl, rfl⟩ hk
def sxI263 : sxI := (233, (28, 692), ([(.ofNat 0, .ofNat 0), (.ofNat 5, .ofNat 5), (.ofNat 0, .ofNat 400)], [4, 1], 0, [], [], [((0, 0), (0, .ofNat 2), (2, 1, .ofNat 0)), ((0, 1), (0, .ofNat 5), (0, 2, .ofNat 0))], []), [(2, 0, .ofNat 0), (0, 1, .ofNat 0)], [(1, 2, 6), (4, 3, 5), (5, 0, 400)], [(([(.ofNat 0, .ofNat 0), (.ofNat 0, .ofNat 400)], [], 0, [], [], [((0, 0), (0, .ofNat 2), (2, 1, .ofNat 0)), ((0, 1), (0, .ofNat 5), (0, 4, .ofNat 0))], []), some (0, 3, .ofNat 0)), (([(.ofNat 1, .ofNat 1), (.ofNat 0, .ofNat 400)], [], 0, [], [], [((0, 0), (0, .ofNat 2), (2, 1, .ofNat 0)), ((0, 1), (0, .ofNat 5), (0, 4, .ofNat 0))], []), some (0, 3, .ofNat 0))])
def sxhI263 : sxH := (sxk_X9_readsPart, sxgX9, sxpX9, sxcX9, (sxkiX9, sxklX9, sxksX9), (4, sxI263.2.2.2.2.1, sxI263.2.2.2.2.2, 1), (3, 2, 0), (28, 692))
def sxjI263 : List sxJ := [((2, 10, 0), ([(0, .ofNat 0), (1, .ofNat 0), (2, .ofNat 0)], [0, 1], []), (sxE0, [], [], ([], .ofNat 0))),
  ((8, 0, 0), ([(0, .ofNat 0), (0, .ofNat 0)], [], []), (([(.ofNat 0, .ofNat 0), (.ofNat 0, .ofNat 0)], [], 0, [], [], [((0, 0), (0, .ofNat 2), (2, 1, .ofNat 0)), ((0, 1), (0, .ofNat 5), (0, 3, .ofNat 0))], []), [(3, (0, 4, .ofNat 0)), (2, (0, 5, .ofNat 0)), (0, (2, 0, .ofNat 0)), (1, (0, 1, .ofNat 0))], [], ([(4, .negSucc 0)], .ofNat 0))),
  ((67, 11, 0), ([(5, .ofNat 0), (3, .ofNat 0)], [], []), (sxE0, [], [], ([], .ofNat 0))),
  ((8, 0, 0), ([(0, .ofNat 0), (0, .ofNat 1), (3, .ofNat 0)], [], []), (([(.ofNat 0, .ofNat 60), (.ofNat 0, .ofNat 1), (.ofNat 0, .ofNat 400)], [], 0, [], [], [((0, 0), (0, .ofNat 2), (2, 1, .ofNat 0)), ((0, 1), (0, .ofNat 5), (0, 6, .ofNat 0))], []), [(3, (0, 4, .ofNat 0)), (2, (0, 5, .ofNat 0)), (0, (2, 0, .ofNat 0)), (1, (0, 1, .ofNat 0))], [], ([(4, .negSucc 0)], .ofNat 60))),
  ((67, 11, 0), ([(5, .ofNat 0), (6, .ofNat 0)], [], []), (sxE0, [], [], ([], .ofNat 0))),
  ((67, 11, 1), ([(5, .ofNat 0), (6, .ofNat 0)], [], []), (sxE0, [], [], ([], .ofNat 0))),
  ((24, 10, 1), ([(0, .ofNat 0)], [1, 2], []), (sxE0, [], [], ([], .ofNat 0))),
  ((67, 11, 1), ([(5, .ofNat 0), (6, .ofNat 0)], [], []), (sxE0, [], [], ([], .ofNat 0))),
  ((34, 10, 2), ([(0, .ofNat 0), (6, .ofNat 0)], [1], []), (sxE0, [], [], ([], .ofNat 0))),
  ((39, 10, 0), ([(0, .ofNat 0), (1, .ofNat 0), (8, .ofNat 0)], [0, 1], []), (sxE0, [], [], ([], .ofNat 0))),
  ((8, 2, 0), ([(4, .ofNat 1), (0, .ofNat 0), (9, .ofNat 0)], [], []), (sxE0, [], [], ([], .ofNat 0))),
  ((48, 10, 3), ([(0, .ofNat 0), (0, .ofNat 24)], [0, 1], []), (sxE0, [], [], ([], .ofNat 0))),
  ((8, 2, 0), ([(4, .ofNat 1), (0, .ofNat 1), (9, .ofNat 0)], [], []), (sxE0, [], [], ([], .ofNat 0))),
  ((8, 2, 0), ([(4, .ofNat 1), (0, .ofNat 0), (9, .ofNat 0)], [], []), (sxE0, [], [], ([], .ofNat 0)))]
theorem sxvI263 : (sx_exec sxRT [sxI262, sxI77, sxI64, sxI223] [] sxhI263 257 0 sxI263.2.2.1 (sx_argl 0 sxI263.2.2.2.1) [] [] sxjI263).isSome = true := by decide +kernel
theorem sxmI263 {PF : Nat → List Int → List (Nat → Int) → Prop} {l : Launch} : sx_met PF sxRT sxMy sxMc sxML sxMr sxTK l sxI263 := by
  obtain ⟨its2, hk⟩ := Option.isSome_iff_exists.mp sxvI263
  exact sx_met_of (h := sxhI263) sxTK_ok (sxTK2 sxksX9_ok) sxt_X9_readsPart sxFW_ok (sx_cons (sxmI262) (sx_cons (sxmI77) (sx_cons (sxmI64) (sx_cons (sxmI223) sx_nil)))) (fun L h => by cases h) rfl (by decide +kernel) (by decide) rfl ⟨rfl, rfl, rfl, rfl⟩ hk
def sxI264 : sxI := (235, (29, 715), ([(.ofNat 0, .ofNat 0), (.ofNat 5, .ofNat 5), (.ofNat 0, .ofNat 400)], [4, 1], 0, [], [], [((0, 0), (0, .ofNat 2), (2, 1, .ofNat 0)), ((0, 1), (0, .ofNat 5), (0, 2, .ofNat 0))], []), [(2, 0, .ofNat 0), (0, 1, .ofNat 0)], [(1, 2, 6), (4, 3, 5), (5, 0, 400)], [(([(.ofNat 0, .ofNat 0), (.ofNat 0, .ofNat 400)], [], 0, [], [], [((0, 0), (0, .ofNat 2), (2, 1, .ofNat 0)), ((0, 1), (0, .ofNat 5), (0, 4, .ofNat 0))], []), some (0, 3, .ofNat 0)), (([(.ofNat 1, .ofNat 1), (.ofNat 0, .ofNat 400)], [], 0, [], [], [((0, 0), (0, .ofNat 2), (2, 1, .ofNat 0)), ((0, 1), (0, .ofNat 5), (0, 4, .ofNat 0))], []), some (0, 3, .ofNat 0))])
def sxhI264 : sxH := (sxk_X9_readsTest, sxgX9, sxpX9, sxcX9, (sxkiX9, sxklX9, sxksX9), (4, sxI264.2.2.2.2.1, sxI264.2.2.2.2.2, 1), (3, 2, 0), (29, 715))
def sxjI264 : List sxJ := [((2, 10, 0), ([(0, .ofNat 0), (1, .ofNat 0), (2, .ofNat 0)], [0, 1], []), (sxE0, [], [], ([], .ofNat 0))),
  ((8, 0, 0), ([(0, .ofNat 0), (3, .ofNat 0)], [], []), (([(.ofNat 0, .ofNat 0), (.ofNat 0, .ofNat 0)], [], 0, [([(6, .ofNat 1), (3, .negSucc 0)], .ofNat 0), ([(3, .ofNat 1), (6, .negSucc 0)], .ofNat 0)], [], [((0, 0), (0, .ofNat 2), (2, 1, .ofNat 0)), ((0, 1), (0, .ofNat 5), (0, 4, .ofNat 0))], []), [(3, (0, 5, .ofNat 0)), (2, (0, 6, .ofNat 0)), (0, (2, 0, .ofNat 0)), (1, (0, 1, .ofNat 0))], [], ([(5, .negSucc 0)], .ofNat 0))),
  ((67, 11, 0), ([(6, .ofNat 0), (4, .ofNat 0)], [], []), (sxE0, [], [], ([], .ofNat 0))),
  ((8, 0, 0), ([(0, .ofNat 0), (3, .ofNat 0), (4, .ofNat 0)], [], []), (([(.ofNat 0, .ofNat 60), (.ofNat 0, .ofNat 1), (.ofNat 0, .ofNat 400)], [], 0, [([(3, .ofNat 1), (6, .negSucc 0)], .ofNat 0)], [], [((0, 0), (0, .ofNat 2), (2, 1, .ofNat 0)), ((0, 1), (0, .ofNat 5), (0, 7, .ofNat 0))], []), [(3, (0, 5, .ofNat 0)), (2, (0, 6, .ofNat 0)), (0, (2, 0, .ofNat 0)), (1, (0, 1, .ofNat 0))], [], ([(5, .negSucc 0)], .ofNat 60))),
  ((67, 11, 0), ([(6, .ofNat 0), (7, .ofNat 0)], [], []), (sxE0, [], [], ([], .ofNat 0))),
  ((67, 11, 1), ([(6, .ofNat 0), (7, .ofNat 0)], [], []), (sxE0, [], [], ([], .ofNat 0))),
  ((24, 10, 1), ([(0, .ofNat 0)], [1, 2], []), (sxE0, [], [], ([], .ofNat 0))),
  ((67, 11, 1), ([(6, .ofNat 0), (7, .ofNat 0)], [], []), (sxE0, [], [], ([], .ofNat 0))),
  ((34, 10, 2), ([(0, .ofNat 0), (7, .ofNat 0)], [1], []), (sxE0, [], [], ([], .ofNat 0))),
  ((39, 10, 0), ([(0, .ofNat 0), (1, .ofNat 0), (9, .ofNat 0)], [0, 1], []), (sxE0, [], [], ([], .ofNat 0))),
  ((8, 2, 0), ([(5, .ofNat 1), (0, .ofNat 0), (11, .ofNat 0)], [], []), (sxE0, [], [], ([], .ofNat 0))),
  ((48, 10, 3), ([(0, .ofNat 0), (0, .ofNat 25)], [0, 1], []), (sxE0, [], [], ([], .ofNat 0))),
  ((8, 2, 0), ([(5, .ofNat 1), (0, .ofNat 1), (11, .ofNat 0)], [], []), (sxE0, [], [], ([], .ofNat 0))),
  ((8, 2, 0), ([(5, .ofNat 1), (0, .ofNat 0), (11, .ofNat 0)], [], []), (sxE0, [], [], ([], .ofNat 0)))]
theorem sxvI264 : (sx_exec sxRT [sxI263, sxI235, sxI64, sxI223] [] sxhI264 257 0 sxI264.2.2.1 (sx_argl 0 sxI264.2.2.2.1) [] [] sxjI264).isSome = true := by decide +kernel
theorem sxmI264 {PF : Nat → List Int → List (Nat → Int) → Prop} {l : Launch} : sx_met PF sxRT sxMy sxMc sxML sxMr sxTK l sxI264 := by
  obtain ⟨its2, hk⟩ := Option.isSome_iff_exists.mp sxvI264
  exact sx_met_of (h := sxhI264) sxTK_ok (sxTK2 sxksX9_ok) sxt_X9_readsTest sxFW_ok (sx_cons (sxmI263) (sx_cons (sxmI235) (sx_cons (sxmI64) (sx_cons (sxmI223) sx_nil)))) (fun L h => by cases h) rfl (by decide +kernel) (by decide) rfl ⟨rfl, rfl, rfl, rfl⟩ hk
def sxI265 : sxI := (237, (30, 738), ([(.ofNat 0, .ofNat 0), (.ofNat 0, .ofNat 0), (.ofNat 5, .ofNat 5), (.ofNat 0, .ofNat 400)], [4, 1], 0, [], [], [((0, 0), (0, .ofNat 2), (2, 1, .ofNat 0)), ((0, 1), (0, .ofNat 5), (0, 3, .ofNat 0))], []), [(2, 0, .ofNat 0), (0, 1, .ofNat 0), (0, 2, .ofNat 0)], [(1, 2, 6), (4, 3, 5), (5, 0, 400)], [(([(.ofNat 0, .ofNat 400)], [], 0, [], [], [((0, 0), (0, .ofNat 2), (2, 1, .ofNat 0)), ((0, 1), (0, .ofNat 5), (0, 4, .ofNat 0))], []), some (0, 0, .ofNat 0)), (([(.ofNat 0, .ofNat 400)], [], 0, [], [], [((0, 0), (0, .ofNat 2), (2, 1, .ofNat 0)), ((0, 1), (0, .ofNat 5), (0, 4, .ofNat 0))], []), some (0, 0, .ofNat 1))])
def sxhI265 : sxH := (sxk_X9_readsWithin, sxgX9, sxpX9, sxcX9, (sxkiX9, sxklX9, sxksX9), (3, sxI265.2.2.2.2.1, sxI265.2.2.2.2.2, 1), (4, 2, 0), (30, 738))
def sxjI265 : List sxJ := [((4, 10, 0), ([(0, .ofNat 0), (3, .ofNat 0)], [1], []), (sxE0, [], [], ([], .ofNat 0))),
  ((36, 10, 1), ([(0, .ofNat 0), (2, .ofNat 0), (4, .ofNat 0)], [0, 1], []), (sxE0, [], [], ([], .ofNat 0))),
  ((43, 11, 0), ([(6, .ofNat 0)], [], []), (sxE0, [], [], ([], .ofNat 0))),
  ((69, 10, 0), ([(0, .ofNat 0), (6, .ofNat 0)], [1], []), (sxE0, [], [], ([], .ofNat 0))),
  ((73, 11, 1), ([(8, .ofNat 0)], [], []), (sxE0, [], [], ([], .ofNat 0))),
  ((61, 10, 2), ([(0, .ofNat 0), (0, .ofNat 0)], [1], []), (sxE0, [], [], ([], .ofNat 0))),
  ((64, 11, 0), ([(6, .ofNat 0)], [], []), (sxE0, [], [], ([], .ofNat 0)))]
theorem sxvI265 : (sx_exec sxRT [sxI64, sxI264, sxI78] [] sxhI265 84 0 sxI265.2.2.1 (sx_argl 0 sxI265.2.2.2.1) [] [] sxjI265).isSome = true := by decide +kernel
theorem sxmI265 {PF : Nat → List Int → List (Nat → Int) → Prop} {l : Launch} : sx_met PF sxRT sxMy sxMc sxML sxMr sxTK l sxI265 := by
  obtain ⟨its2, hk⟩ := Option.isSome_iff_exists.mp sxvI265
  exact sx_met_of (h := sxhI265) sxTK_ok (sxTK2 sxksX9_ok) sxt_X9_readsWithin sxFW_ok (sx_cons (sxmI64) (sx_cons (sxmI264) (sx_cons (sxmI78) sx_nil))) (fun L h => by cases h) rfl (by decide +kernel) (by decide) rfl ⟨rfl, rfl, rfl, rfl⟩ hk
def sxI266 : sxI := (237, (28, 692), ([(.ofNat 0, .ofNat 0), (.ofNat 1, .ofNat 1), (.ofNat 5, .ofNat 5), (.ofNat 0, .ofNat 400)], [4, 1], 0, [], [], [((0, 0), (0, .ofNat 2), (2, 1, .ofNat 0)), ((0, 1), (0, .ofNat 5), (0, 3, .ofNat 0))], []), [(2, 0, .ofNat 0), (0, 1, .ofNat 0), (0, 2, .ofNat 0)], [(1, 2, 6), (4, 3, 5), (5, 0, 400)], [(([(.ofNat 0, .ofNat 400)], [], 0, [], [], [((0, 0), (0, .ofNat 2), (2, 1, .ofNat 0)), ((0, 1), (0, .ofNat 5), (0, 4, .ofNat 0))], []), some (0, 0, .ofNat 0)), (([(.ofNat 0, .ofNat 400)], [], 0, [], [], [((0, 0), (0, .ofNat 2), (2, 1, .ofNat 0)), ((0, 1), (0, .ofNat 5), (0, 4, .ofNat 0))], []), some (0, 0, .ofNat 1))])
def sxhI266 : sxH := (sxk_X9_readsWithin, sxgX9, sxpX9, sxcX9, (sxkiX9, sxklX9, sxksX9), (3, sxI266.2.2.2.2.1, sxI266.2.2.2.2.2, 1), (4, 2, 0), (28, 692))
def sxjI266 : List sxJ := [((4, 10, 0), ([(0, .ofNat 0), (3, .ofNat 0)], [1], []), (sxE0, [], [], ([], .ofNat 0))),
  ((13, 10, 1), ([(0, .ofNat 0), (2, .ofNat 0), (4, .ofNat 0)], [0, 1], []), (sxE0, [], [], ([], .ofNat 0))),
  ((33, 11, 0), ([(5, .ofNat 0)], [], []), (sxE0, [], [], ([], .ofNat 0))),
  ((22, 10, 2), ([(0, .ofNat 0), (0, .ofNat 23)], [0, 1], []), (sxE0, [], [], ([], .ofNat 0))),
  ((33, 11, 1), ([(5, .ofNat 0)], [], []), (sxE0, [], [], ([], .ofNat 0))),
  ((33, 11, 0), ([(5, .ofNat 0)], [], []), (sxE0, [], [], ([], .ofNat 0)))]
theorem sxvI266 : (sx_exec sxRT [sxI64, sxI262, sxI223] [] sxhI266 78 0 sxI266.2.2.1 (sx_argl 0 sxI266.2.2.2.1) [] [] sxjI266).isSome = true := by decide +kernel
theorem sxmI266 {PF : Nat → List Int → List (Nat → Int) → Prop} {l : Launch} : sx_met PF sxRT sxMy sxMc sxML sxMr sxTK l sxI266 := by
  obtain ⟨its2, hk⟩ := Option.isSome_iff_exists.mp sxvI266
  exact sx_met_of (h := sxhI266) sxTK_ok (sxTK2 sxksX9_ok) sxt_X9_readsWithin sxFW_ok (sx_cons (sxmI64) (sx_cons (sxmI262) (sx_cons (sxmI223) sx_nil))) (fun L h => by cases h) rfl (by decide +kernel) (by decide) rfl ⟨rfl, rfl, rfl, rfl⟩ hk
def sxI267 : sxI := (232, (31, 760), ([(.ofNat 0, .ofNat 0), (.ofNat 4, .ofNat 4), (.ofNat 0, .ofNat 400)], [4, 1], 0, [], [], [((0, 0), (0, .ofNat 2), (2, 1, .ofNat 0)), ((0, 1), (0, .ofNat 5), (0, 2, .ofNat 0))], []), [(2, 0, .ofNat 0), (0, 1, .ofNat 0)], [(1, 2, 6), (4, 3, 5), (5, 0, 400)], [(([(.ofNat 0, .ofNat 400)], [], 0, [], [], [((0, 0), (0, .ofNat 2), (2, 1, .ofNat 0)), ((0, 1), (0, .ofNat 5), (0, 3, .ofNat 0))], []), some (0, 0, .ofNat 0)), (([(.ofNat 0, .ofNat 400)], [], 0, [], [], [((0, 0), (0, .ofNat 2), (2, 1, .ofNat 0)), ((0, 1), (0, .ofNat 5), (0, 3, .ofNat 0))], []), some (0, 0, .ofNat 1))])
def sxhI267 : sxH := (sxk_X9_readsFact, sxgX9, sxpX9, sxcX9, (sxkiX9, sxklX9, sxksX9), (4, sxI267.2.2.2.2.1, sxI267.2.2.2.2.2, 1), (3, 2, 0), (31, 760))
def sxjI267 : List sxJ := [((6, 10, 0), ([(0, .ofNat 0)], [1, 2], []), (sxE0, [], [], ([], .ofNat 0))),
  ((53, 10, 1), ([(0, .ofNat 0), (2, .ofNat 0)], [0, 1], []), (sxE0, [], [], ([], .ofNat 0))),
  ((60, 11, 0), ([(5, .ofNat 0)], [], []), (sxE0, [], [], ([], .ofNat 0))),
  ((68, 10, 2), ([(0, .ofNat 0), (6, .ofNat 0)], [], []), (sxE0, [], [], ([], .ofNat 0))),
  ((118, 10, 3), ([(0, .ofNat 0), (5, .ofNat 0)], [1], []), (sxE0, [], [], ([], .ofNat 0))),
  ((122, 10, 1), ([(0, .ofNat 0), (9, .ofNat 0)], [0, 1], []), (sxE0, [], [], ([], .ofNat 0))),
  ((141, 11, 0), ([(10, .ofNat 0)], [], []), (sxE0, [], [], ([], .ofNat 0))),
  ((130, 10, 4), ([(0, .ofNat 0), (7, .ofNat 0)], [0, 1], []), (sxE0, [], [], ([], .ofNat 0))),
  ((141, 11, 1), ([(10, .ofNat 0)], [], []), (sxE0, [], [], ([], .ofNat 0))),
  ((141, 11, 0), ([(10, .ofNat 0)], [], []), (sxE0, [], [], ([], .ofNat 0))),
  ((100, 10, 5), ([(0, .ofNat 0), (0, .ofNat 3)], [1], []), (sxE0, [], [], ([], .ofNat 0))),
  ((103, 11, 0), ([(5, .ofNat 0)], [], []), (sxE0, [], [], ([], .ofNat 0))),
  ((82, 10, 5), ([(0, .ofNat 0), (0, .ofNat 0)], [1], []), (sxE0, [], [], ([], .ofNat 0))),
  ((85, 11, 0), ([(5, .ofNat 0)], [], []), (sxE0, [], [], ([], .ofNat 0))),
  ((37, 10, 6), ([(0, .ofNat 0), (3, .ofNat 0), (1, .ofNat 1), (2, .ofNat 0)], [0, 1], []), (sxE0, [], [], ([], .ofNat 0))),
  ((51, 11, 0), ([(5, .ofNat 0)], [], []), (sxE0, [], [], ([], .ofNat 0))),
  ((51, 11, 1), ([(5, .ofNat 0)], [], []), (sxE0, [], [], ([], .ofNat 0))),
  ((37, 10, 7), ([(0, .ofNat 0), (3, .ofNat 0), (1, .ofNat 1), (2, .ofNat 0)], [0, 1], []), (sxE0, [], [], ([], .ofNat 0))),
  ((51, 11, 0), ([(4, .ofNat 0)], [], []), (sxE0, [], [], ([], .ofNat 0))),
  ((51, 11, 1), ([(4, .ofNat 0)], [], []), (sxE0, [], [], ([], .ofNat 0)))]
theorem sxvI267 : (sx_exec sxRT [sxI77, sxI231, sxI236, sxI64, sxI223, sxI78, sxI265, sxI266] [] sxhI267 164 0 sxI267.2.2.1 (sx_argl 0 sxI267.2.2.2.1) [] [] sxjI267).isSome = true := by decide +kernel
theorem sxmI267 {PF : Nat → List Int → List (Nat → Int) → Prop} {l : Launch} : sx_met PF sxRT sxMy sxMc sxML sxMr sxTK l sxI267 := by
  obtain ⟨its2, hk⟩ := Option.isSome_iff_exists.mp sxvI267
  exact sx_met_of (h := sxhI267) sxTK_ok (sxTK2 sxksX9_ok) sxt_X9_readsFact sxFW_ok (sx_cons (sxmI77) (sx_cons (sxmI231) (sx_cons (sxmI236) (sx_cons (sxmI64) (sx_cons (sxmI223) (sx_cons (sxmI78) (sx_cons (sxmI265) (sx_cons (sxmI266) sx_nil)))))))) (fun L h => by cases h) rfl (by decide +kernel) (by decide) rfl ⟨rfl, rfl, rfl, rfl⟩ hk
def sxI268 : sxI := (233, (32, 783), ([(.ofNat 0, .ofNat 0), (.ofNat 4, .ofNat 4), (.ofNat 0, .ofNat 400)], [4, 1], 0, [], [], [((0, 0), (0, .ofNat 2), (2, 1, .ofNat 0)), ((0, 1), (0, .ofNat 5), (0, 2, .ofNat 0))], []), [(2, 0, .ofNat 0), (0, 1, .ofNat 0)], [(1, 2, 6), (4, 3, 5), (5, 0, 400)], [(([(.ofNat 0, .ofNat 0), (.ofNat 0, .ofNat 400)], [], 0, [], [], [((0, 0), (0, .ofNat 2), (2, 1, .ofNat 0)), ((0, 1), (0, .ofNat 5), (0, 4, .ofNat 0))], []), some (0, 3, .ofNat 0)), (([(.ofNat 1, .ofNat 1), (.ofNat 0, .ofNat 400)], [], 0, [], [], [((0, 0), (0, .ofNat 2), (2, 1, .ofNat 0)), ((0, 1), (0, .ofNat 5), (0, 4, .ofNat 0))], []), some (0, 3, .ofNat 0))])
def sxhI268 : sxH := (sxk_X9_readsPart, sxgX9, sxpX9, sxcX9, (sxkiX9, sxklX9, sxksX9), (4, sxI268.2.2.2.2.1, sxI268.2.2.2.2.2, 1), (3, 2, 0), (32, 783))
def sxjI268 : List sxJ := [((2, 10, 0), ([(0, .ofNat 0), (1, .ofNat 0), (2, .ofNat 0)], [0, 1], []), (sxE0, [], [], ([], .ofNat 0))),
  ((8, 0, 0), ([(0, .ofNat 0), (0, .ofNat 0)], [], []), (([(.ofNat 0, .ofNat 0), (.ofNat 0, .ofNat 0)], [], 0, [], [], [((0, 0), (0, .ofNat 2), (2, 1, .ofNat 0)), ((0, 1), (0, .ofNat 5), (0, 3, .ofNat 0))], []), [(3, (0, 4, .ofNat 0)), (2, (0, 5, .ofNat 0)), (0, (2, 0, .ofNat 0)), (1, (0, 1, .ofNat 0))], [], ([(4, .negSucc 0)], .ofNat 0))),
  ((67, 11, 0), ([(5, .ofNat 0), (3, .ofNat 0)], [], []), (sxE0, [], [], ([], .ofNat 0))),
  ((8, 0, 0), ([(0, .ofNat 0), (0, .ofNat 1), (3, .ofNat 0)], [], []), (([(.ofNat 0, .ofNat 60), (.ofNat 0, .ofNat 1), (.ofNat 0, .ofNat 400)], [], 0, [], [], [((0, 0), (0, .ofNat 2), (2, 1, .ofNat 0)), ((0, 1), (0, .ofNat 5), (0, 6, .ofNat 0))], []), [(3, (0, 4, .ofNat 0)), (2, (0, 5, .ofNat 0)), (0, (2, 0, .ofNat 0)), (1, (0, 1, .ofNat 0))], [], ([(4, .negSucc 0)], .ofNat 60))),
  ((67, 11, 0), ([(5, .ofNat 0), (6, .ofNat 0)], [], []), (sxE0, [], [], ([], .ofNat 0))),
  ((67, 11, 1), ([(5, .ofNat 0), (6, .ofNat 0)], [], []), (sxE0, [], [], ([], .ofNat 0))),
  ((24, 10, 1), ([(0, .ofNat 0)], [1, 2], []), (sxE0, [], [], ([], .ofNat 0))),
  ((67, 11, 1), ([(5, .ofNat 0), (6, .ofNat 0)], [], []), (sxE0, [], [], ([], .ofNat 0))),
  ((34, 10, 2), ([(0, .ofNat 0), (6, .ofNat 0)], [1], []), (sxE0, [], [], ([], .ofNat 0))),
  ((39, 10, 0), ([(0, .ofNat 0), (1, .ofNat 0), (8, .ofNat 0)], [0, 1], []), (sxE0, [], [], ([], .ofNat 0))),
  ((8, 2, 0), ([(4, .ofNat 1), (0, .ofNat 0), (9, .ofNat 0)], [], []), (sxE0, [], [], ([], .ofNat 0))),
  ((48, 10, 3), ([(0, .ofNat 0), (0, .ofNat 24)], [0, 1], []), (sxE0, [], [], ([], .ofNat 0))),
  ((8, 2, 0), ([(4, .ofNat 1), (0, .ofNat 1), (9, .ofNat 0)], [], []), (sxE0, [], [], ([], .ofNat 0))),
  ((8, 2, 0), ([(4, .ofNat 1), (0, .ofNat 0), (9, .ofNat 0)], [], []), (sxE0, [], [], ([], .ofNat 0)))]
theorem sxvI268 : (sx_exec sxRT [sxI267, sxI77, sxI64, sxI223] [] sxhI268 257 0 sxI268.2.2.1 (sx_argl 0 sxI268.2.2.2.1) [] [] sxjI268).isSome = true := by decide +kernel
theorem sxmI268 {PF : Nat → List Int → List (Nat → Int) → Prop} {l : Launch} : sx_met PF sxRT sxMy sxMc sxML sxMr sxTK l sxI268 := by
  obtain ⟨its2, hk⟩ := Option.isSome_iff_exists.mp sxvI268
  exact sx_met_of (h := sxhI268) sxTK_ok (sxTK2 sxksX9_ok) sxt_X9_readsPart sxFW_ok (sx_cons (sxmI267) (sx_cons (sxmI77) (sx_cons (sxmI64) (sx_cons (sxmI223) sx_nil)))) (fun L h => by cases h) rfl (by decide +kernel) (by decide) rfl ⟨rfl, rfl, rfl, rfl⟩ hk
def sxI269 : sxI := (235, (33, 806), ([(.ofNat 0, .ofNat 0), (.ofNat 4, .ofNat 4), (.ofNat 0, .ofNat 400)], [4, 1], 0, [], [], [((0, 0), (0, .ofNat 2), (2, 1, .ofNat 0)), ((0, 1), (0, .ofNat 5), (0, 2, .ofNat 0))], []), [(2, 0, .ofNat 0), (0, 1, .ofNat 0)], [(1, 2, 6), (4, 3, 5), (5, 0, 400)], [(([(.ofNat 0, .ofNat 0), (.ofNat 0, .ofNat 400)], [], 0, [], [], [((0, 0), (0, .ofNat 2), (2, 1, .ofNat 0)), ((0, 1), (0, .ofNat 5), (0, 4, .ofNat 0))], []), some (0, 3, .ofNat 0)), (([(.ofNat 1, .ofNat 1), (.ofNat 0, .ofNat 400)], [], 0, [], [], [((0, 0), (0, .ofNat 2), (2, 1, .ofNat 0)), ((0, 1), (0, .ofNat 5), (0, 4, .ofNat 0))], []), some (0, 3, .ofNat 0))])
def sxhI269 : sxH := (sxk_X9_readsTest, sxgX9, sxpX9, sxcX9, (sxkiX9, sxklX9, sxksX9), (4, sxI269.2.2.2.2.1, sxI269.2.2.2.2.2, 1), (3, 2, 0), (33, 806))
def sxjI269 : List sxJ := [((2, 10, 0), ([(0, .ofNat 0), (1, .ofNat 0), (2, .ofNat 0)], [0, 1], []), (sxE0, [], [], ([], .ofNat 0))),
  ((8, 0, 0), ([(0, .ofNat 0), (3, .ofNat 0)], [], []), (([(.ofNat 0, .ofNat 0), (.ofNat 0, .ofNat 0)], [], 0, [([(6, .ofNat 1), (3, .negSucc 0)], .ofNat 0), ([(3, .ofNat 1), (6, .negSucc 0)], .ofNat 0)], [], [((0, 0), (0, .ofNat 2), (2, 1, .ofNat 0)), ((0, 1), (0, .ofNat 5), (0, 4, .ofNat 0))], []), [(3, (0, 5, .ofNat 0)), (2, (0, 6, .ofNat 0)), (0, (2, 0, .ofNat 0)), (1, (0, 1, .ofNat 0))], [], ([(5, .negSucc 0)], .ofNat 0))),
  ((67, 11, 0), ([(6, .ofNat 0), (4, .ofNat 0)], [], []), (sxE0, [], [], ([], .ofNat 0))),
  ((8, 0, 0), ([(0, .ofNat 0), (3, .ofNat 0), (4, .ofNat 0)], [], []), (([(.ofNat 0, .ofNat 60), (.ofNat 0, .ofNat 1), (.ofNat 0, .ofNat 400)], [], 0, [([(3, .ofNat 1), (6, .negSucc 0)], .ofNat 0)], [], [((0, 0), (0, .ofNat 2), (2, 1, .ofNat 0)), ((0, 1), (0, .ofNat 5), (0, 7, .ofNat 0))], []), [(3, (0, 5, .ofNat 0)), (2, (0, 6, .ofNat 0)), (0, (2, 0, .ofNat 0)), (1, (0, 1, .ofNat 0))], [], ([(5, .negSucc 0)], .ofNat 60))),
  ((67, 11, 0), ([(6, .ofNat 0), (7, .ofNat 0)], [], []), (sxE0, [], [], ([], .ofNat 0))),
  ((67, 11, 1), ([(6, .ofNat 0), (7, .ofNat 0)], [], []), (sxE0, [], [], ([], .ofNat 0))),
  ((24, 10, 1), ([(0, .ofNat 0)], [1, 2], []), (sxE0, [], [], ([], .ofNat 0))),
  ((67, 11, 1), ([(6, .ofNat 0), (7, .ofNat 0)], [], []), (sxE0, [], [], ([], .ofNat 0))),
  ((34, 10, 2), ([(0, .ofNat 0), (7, .ofNat 0)], [1], []), (sxE0, [], [], ([], .ofNat 0))),
  ((39, 10, 0), ([(0, .ofNat 0), (1, .ofNat 0), (9, .ofNat 0)], [0, 1], []), (sxE0, [], [], ([], .ofNat 0))),
  ((8, 2, 0), ([(5, .ofNat 1), (0, .ofNat 0), (11, .ofNat 0)], [], []), (sxE0, [], [], ([], .ofNat 0))),
  ((48, 10, 3), ([(0, .ofNat 0), (0, .ofNat 25)], [0, 1], []), (sxE0, [], [], ([], .ofNat 0))),
  ((8, 2, 0), ([(5, .ofNat 1), (0, .ofNat 1), (11, .ofNat 0)], [], []), (sxE0, [], [], ([], .ofNat 0))),
  ((8, 2, 0), ([(5, .ofNat 1), (0, .ofNat 0), (11, .ofNat 0)], [], []), (sxE0, [], [], ([], .ofNat 0)))]
theorem sxvI269 : (sx_exec sxRT [sxI268, sxI235, sxI64, sxI223] [] sxhI269 257 0 sxI269.2.2.1 (sx_argl 0 sxI269.2.2.2.1) [] [] sxjI269).isSome = true := by decide +kernel
theorem sxmI269 {PF : Nat → List Int → List (Nat → Int) → Prop} {l : Launch} : sx_met PF sxRT sxMy sxMc sxML sxMr sxTK l sxI269 := by
  obtain ⟨its2, hk⟩ := Option.isSome_iff_exists.mp sxvI269
  exact sx_met_of (h := sxhI269) sxTK_ok (sxTK2 sxksX9_ok) sxt_X9_readsTest sxFW_ok (sx_cons (sxmI268) (sx_cons (sxmI235) (sx_cons (sxmI64) (sx_cons (sxmI223) sx_nil)))) (fun L h => by cases h) rfl (by decide +kernel) (by decide) rfl ⟨rfl, rfl, rfl, rfl⟩ hk
def sxI270 : sxI := (237, (34, 829), ([(.ofNat 0, .ofNat 0), (.ofNat 0, .ofNat 0), (.ofNat 4, .ofNat 4), (.ofNat 0, .ofNat 400)], [4, 1], 0, [], [], [((0, 0), (0, .ofNat 2), (2, 1, .ofNat 0)), ((0, 1), (0, .ofNat 5), (0, 3, .ofNat 0))], []), [(2, 0, .ofNat 0), (0, 1, .ofNat 0), (0, 2, .ofNat 0)], [(1, 2, 6), (4, 3, 5), (5, 0, 400)], [(([(.ofNat 0, .ofNat 400)], [], 0, [], [], [((0, 0), (0, .ofNat 2), (2, 1, .ofNat 0)), ((0, 1), (0, .ofNat 5), (0, 4, .ofNat 0))], []), some (0, 0, .ofNat 0)), (([(.ofNat 0, .ofNat 400)], [], 0, [], [], [((0, 0), (0, .ofNat 2), (2, 1, .ofNat 0)), ((0, 1), (0, .ofNat 5), (0, 4, .ofNat 0))], []), some (0, 0, .ofNat 1))])
def sxhI270 : sxH := (sxk_X9_readsWithin, sxgX9, sxpX9, sxcX9, (sxkiX9, sxklX9, sxksX9), (3, sxI270.2.2.2.2.1, sxI270.2.2.2.2.2, 1), (4, 2, 0), (34, 829))
def sxjI270 : List sxJ := [((4, 10, 0), ([(0, .ofNat 0), (3, .ofNat 0)], [1], []), (sxE0, [], [], ([], .ofNat 0))),
  ((36, 10, 1), ([(0, .ofNat 0), (2, .ofNat 0), (4, .ofNat 0)], [0, 1], []), (sxE0, [], [], ([], .ofNat 0))),
  ((43, 11, 0), ([(6, .ofNat 0)], [], []), (sxE0, [], [], ([], .ofNat 0))),
  ((69, 10, 0), ([(0, .ofNat 0), (6, .ofNat 0)], [1], []), (sxE0, [], [], ([], .ofNat 0))),
  ((73, 11, 1), ([(8, .ofNat 0)], [], []), (sxE0, [], [], ([], .ofNat 0))),
  ((61, 10, 2), ([(0, .ofNat 0), (0, .ofNat 0)], [1], []), (sxE0, [], [], ([], .ofNat 0))),
  ((64, 11, 0), ([(6, .ofNat 0)], [], []), (sxE0, [], [], ([], .ofNat 0)))]
theorem sxvI270 : (sx_exec sxRT [sxI64, sxI269, sxI78] [] sxhI270 84 0 sxI270.2.2.1 (sx_argl 0 sxI270.2.2.2.1) [] [] sxjI270).isSome = true := by decide +kernel
theorem sxmI270 {PF : Nat → List Int → List (Nat → Int) → Prop} {l : Launch} : sx_met PF sxRT sxMy sxMc sxML sxMr sxTK l sxI270 := by
  obtain ⟨its2, hk⟩ := Option.isSome_iff_exists.mp sxvI270
  exact sx_met_of (h := sxhI270) sxTK_ok (sxTK2 sxksX9_ok) sxt_X9_readsWithin sxFW_ok (sx_cons (sxmI64) (sx_cons (sxmI269) (sx_cons (sxmI78) sx_nil))) (fun L h => by cases h) rfl (by decide +kernel) (by decide) rfl ⟨rfl, rfl, rfl, rfl⟩ hk
def sxI271 : sxI := (237, (32, 783), ([(.ofNat 0, .ofNat 0), (.ofNat 1, .ofNat 1), (.ofNat 4, .ofNat 4), (.ofNat 0, .ofNat 400)], [4, 1], 0, [], [], [((0, 0), (0, .ofNat 2), (2, 1, .ofNat 0)), ((0, 1), (0, .ofNat 5), (0, 3, .ofNat 0))], []), [(2, 0, .ofNat 0), (0, 1, .ofNat 0), (0, 2, .ofNat 0)], [(1, 2, 6), (4, 3, 5), (5, 0, 400)], [(([(.ofNat 0, .ofNat 400)], [], 0, [], [], [((0, 0), (0, .ofNat 2), (2, 1, .ofNat 0)), ((0, 1), (0, .ofNat 5), (0, 4, .ofNat 0))], []), some (0, 0, .ofNat 0)), (([(.ofNat 0, .ofNat 400)], [], 0, [], [], [((0, 0), (0, .ofNat 2), (2, 1, .ofNat 0)), ((0, 1), (0, .ofNat 5), (0, 4, .ofNat 0))], []), some (0, 0, .ofNat 1))])
def sxhI271 : sxH := (sxk_X9_readsWithin, sxgX9, sxpX9, sxcX9, (sxkiX9, sxklX9, sxksX9), (3, sxI271.2.2.2.2.1, sxI271.2.2.2.2.2, 1), (4, 2, 0), (32, 783))
def sxjI271 : List sxJ := [((4, 10, 0), ([(0, .ofNat 0), (3, .ofNat 0)], [1], []), (sxE0, [], [], ([], .ofNat 0))),
  ((13, 10, 1), ([(0, .ofNat 0), (2, .ofNat 0), (4, .ofNat 0)], [0, 1], []), (sxE0, [], [], ([], .ofNat 0))),
  ((33, 11, 0), ([(5, .ofNat 0)], [], []), (sxE0, [], [], ([], .ofNat 0))),
  ((22, 10, 2), ([(0, .ofNat 0), (0, .ofNat 23)], [0, 1], []), (sxE0, [], [], ([], .ofNat 0))),
  ((33, 11, 1), ([(5, .ofNat 0)], [], []), (sxE0, [], [], ([], .ofNat 0))),
  ((33, 11, 0), ([(5, .ofNat 0)], [], []), (sxE0, [], [], ([], .ofNat 0)))]
theorem sxvI271 : (sx_exec sxRT [sxI64, sxI267, sxI223] [] sxhI271 78 0 sxI271.2.2.1 (sx_argl 0 sxI271.2.2.2.1) [] [] sxjI271).isSome = true := by decide +kernel
theorem sxmI271 {PF : Nat → List Int → List (Nat → Int) → Prop} {l : Launch} : sx_met PF sxRT sxMy sxMc sxML sxMr sxTK l sxI271 := by
  obtain ⟨its2, hk⟩ := Option.isSome_iff_exists.mp sxvI271
  exact sx_met_of (h := sxhI271) sxTK_ok (sxTK2 sxksX9_ok) sxt_X9_readsWithin sxFW_ok (sx_cons (sxmI64) (sx_cons (sxmI267) (sx_cons (sxmI223) sx_nil))) (fun L h => by cases h) rfl (by decide +kernel) (by decide) rfl ⟨rfl, rfl, rfl, rfl⟩ hk
def sxI272 : sxI := (232, (35, 851), ([(.ofNat 0, .ofNat 0), (.ofNat 3, .ofNat 3), (.ofNat 0, .ofNat 400)], [4, 1], 0, [], [], [((0, 0), (0, .ofNat 2), (2, 1, .ofNat 0)), ((0, 1), (0, .ofNat 5), (0, 2, .ofNat 0))], []), [(2, 0, .ofNat 0), (0, 1, .ofNat 0)], [(1, 2, 6), (4, 3, 5), (5, 0, 400)], [(([(.ofNat 0, .ofNat 400)], [], 0, [], [], [((0, 0), (0, .ofNat 2), (2, 1, .ofNat 0)), ((0, 1), (0, .ofNat 5), (0, 3, .ofNat 0))], []), some (0, 0, .ofNat 0)), (([(.ofNat 0, .ofNat 400)], [], 0, [], [], [((0, 0), (0, .ofNat 2), (2, 1, .ofNat 0)), ((0, 1), (0, .ofNat 5), (0, 3, .ofNat 0))], []), some (0, 0, .ofNat 1))])
def sxhI272 : sxH := (sxk_X9_readsFact, sxgX9, sxpX9, sxcX9, (sxkiX9, sxklX9, sxksX9), (4, sxI272.2.2.2.2.1, sxI272.2.2.2.2.2, 1), (3, 2, 0), (35, 851))
def sxjI272 : List sxJ := [((6, 10, 0), ([(0, .ofNat 0)], [1, 2], []), (sxE0, [], [], ([], .ofNat 0))),
  ((53, 10, 1), ([(0, .ofNat 0), (2, .ofNat 0)], [0, 1], []), (sxE0, [], [], ([], .ofNat 0))),
  ((60, 11, 0), ([(5, .ofNat 0)], [], []), (sxE0, [], [], ([], .ofNat 0))),
  ((68, 10, 2), ([(0, .ofNat 0), (6, .ofNat 0)], [], []), (sxE0, [], [], ([], .ofNat 0))),
  ((118, 10, 3), ([(0, .ofNat 0), (5, .ofNat 0)], [1], []), (sxE0, [], [], ([], .ofNat 0))),
  ((122, 10, 1), ([(0, .ofNat 0), (9, .ofNat 0)], [0, 1], []), (sxE0, [], [], ([], .ofNat 0))),
  ((141, 11, 0), ([(10, .ofNat 0)], [], []), (sxE0, [], [], ([], .ofNat 0))),
  ((130, 10, 4), ([(0, .ofNat 0), (7, .ofNat 0)], [0, 1], []), (sxE0, [], [], ([], .ofNat 0))),
  ((141, 11, 1), ([(10, .ofNat 0)], [], []), (sxE0, [], [], ([], .ofNat 0))),
  ((141, 11, 0), ([(10, .ofNat 0)], [], []), (sxE0, [], [], ([], .ofNat 0))),
  ((100, 10, 5), ([(0, .ofNat 0), (0, .ofNat 3)], [1], []), (sxE0, [], [], ([], .ofNat 0))),
  ((103, 11, 0), ([(5, .ofNat 0)], [], []), (sxE0, [], [], ([], .ofNat 0))),
  ((82, 10, 5), ([(0, .ofNat 0), (0, .ofNat 0)], [1], []), (sxE0, [], [], ([], .ofNat 0))),
  ((85, 11, 0), ([(5, .ofNat 0)], [], []), (sxE0, [], [], ([], .ofNat 0))),
  ((37, 10, 6), ([(0, .ofNat 0), (3, .ofNat 0), (1, .ofNat 1), (2, .ofNat 0)], [0, 1], []), (sxE0, [], [], ([], .ofNat 0))),
  ((51, 11, 0), ([(5, .ofNat 0)], [], []), (sxE0, [], [], ([], .ofNat 0))),
  ((51, 11, 1), ([(5, .ofNat 0)], [], []), (sxE0, [], [], ([], .ofNat 0))),
  ((37, 10, 7), ([(0, .ofNat 0), (3, .ofNat 0), (1, .ofNat 1), (2, .ofNat 0)], [0, 1], []), (sxE0, [], [], ([], .ofNat 0))),
  ((51, 11, 0), ([(4, .ofNat 0)], [], []), (sxE0, [], [], ([], .ofNat 0))),
  ((51, 11, 1), ([(4, .ofNat 0)], [], []), (sxE0, [], [], ([], .ofNat 0)))]
theorem sxvI272 : (sx_exec sxRT [sxI77, sxI231, sxI236, sxI64, sxI223, sxI78, sxI270, sxI271] [] sxhI272 164 0 sxI272.2.2.1 (sx_argl 0 sxI272.2.2.2.1) [] [] sxjI272).isSome = true := by decide +kernel
theorem sxmI272 {PF : Nat → List Int → List (Nat → Int) → Prop} {l : Launch} : sx_met PF sxRT sxMy sxMc sxML sxMr sxTK l sxI272 := by
  obtain ⟨its2, hk⟩ := Option.isSome_iff_exists.mp sxvI272
  exact sx_met_of (h := sxhI272) sxTK_ok (sxTK2 sxksX9_ok) sxt_X9_readsFact sxFW_ok (sx_cons (sxmI77) (sx_cons (sxmI231) (sx_cons (sxmI236) (sx_cons (sxmI64) (sx_cons (sxmI223) (sx_cons (sxmI78) (sx_cons (sxmI270) (sx_cons (sxmI271) sx_nil)))))))) (fun L h => by cases h) rfl (by decide +kernel) (by decide) rfl ⟨rfl, rfl, rfl, rfl⟩ hk
