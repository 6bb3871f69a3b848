def sxI243 : sxI := (233, (12, 328), ([(.ofNat 0, .ofNat 0), (.ofNat 9, .ofNat 9), (.ofNat 0, .ofNat 400)], [4, 1], 0, [], [], [((0, 0), (0, .ofNat 2), (2, 1, .ofNat 0)), ((0, 1), (0, .ofNat 5), (0, 2, .ofNat 0))], []), [(2, 0, .ofNat 0), (0, 1, .ofNat 0)], [(1, 2, 6), (4, 3, 5), (5, 0, 400)], [(([(.ofNat 0, .ofNat 0), (.ofNat 0, .ofNat 400)], [], 0, [], [], [((0, 0), (0, .ofNat 2), (2, 1, .ofNat 0)), ((0, 1), (0, .ofNat 5), (0, 4, .ofNat 0))], []), some (0, 3, .ofNat 0)), (([(.ofNat 1, .ofNat 1), (.ofNat 0, .ofNat 400)], [], 0, [], [], [((0, 0), (0, .ofNat 2), (2, 1, .ofNat 0)), ((0, 1), (0, .ofNat 5), (0, 4, .ofNat 0))], []), some (0, 3, .ofNat 0))])
def sxhI243 : sxH := (sxk_X9_readsPart, sxgX9, sxpX9, sxcX9, (sxkiX9, sxklX9, sxksX9), (4, sxI243.2.2.2.2.1, sxI243.2.2.2.2.2, 1), (3, 2, 0), (12, 328))
def sxjI243 : List sxJ := [((2, 10, 0), ([(0, .ofNat 0), (1, .ofNat 0), (2, .ofNat 0)], [0, 1], []), (sxE0, [], [], ([], .ofNat 0))),
  ((8, 0, 0), ([(0, .ofNat 0), (0, .ofNat 0)], [], []), (([(.ofNat 0, .ofNat 0), (.ofNat 0, .ofNat 0)], [], 0, [], [], [((0, 0), (0, .ofNat 2), (2, 1, .ofNat 0)), ((0, 1), (0, .ofNat 5), (0, 3, .ofNat 0))], []), [(3, (0, 4, .ofNat 0)), (2, (0, 5, .ofNat 0)), (0, (2, 0, .ofNat 0)), (1, (0, 1, .ofNat 0))], [], ([(4, .negSucc 0)], .ofNat 0))),
  ((67, 11, 0), ([(5, .ofNat 0), (3, .ofNat 0)], [], []), (sxE0, [], [], ([], .ofNat 0))),
  ((8, 0, 0), ([(0, .ofNat 0), (0, .ofNat 1), (3, .ofNat 0)], [], []), (([(.ofNat 0, .ofNat 60), (.ofNat 0, .ofNat 1), (.ofNat 0, .ofNat 400)], [], 0, [], [], [((0, 0), (0, .ofNat 2), (2, 1, .ofNat 0)), ((0, 1), (0, .ofNat 5), (0, 6, .ofNat 0))], []), [(3, (0, 4, .ofNat 0)), (2, (0, 5, .ofNat 0)), (0, (2, 0, .ofNat 0)), (1, (0, 1, .ofNat 0))], [], ([(4, .negSucc 0)], .ofNat 60))),
  ((67, 11, 0), ([(5, .ofNat 0), (6, .ofNat 0)], [], []), (sxE0, [], [], ([], .ofNat 0))),
  ((67, 11, 1), ([(5, .ofNat 0), (6, .ofNat 0)], [], []), (sxE0, [], [], ([], .ofNat 0))),
  ((24, 10, 1), ([(0, .ofNat 0)], [1, 2], []), (sxE0, [], [], ([], .ofNat 0))),
  ((67, 11, 1), ([(5, .ofNat 0), (6, .ofNat 0)], [], []), (sxE0, [], [], ([], .ofNat 0))),
  ((34, 10, 2), ([(0, .ofNat 0), (6, .ofNat 0)], [1], []), (sxE0, [], [], ([], .ofNat 0))),
  ((39, 10, 0), ([(0, .ofNat 0), (1, .ofNat 0), (8, .ofNat 0)], [0, 1], []), (sxE0, [], [], ([], .ofNat 0))),
  ((8, 2, 0), ([(4, .ofNat 1), (0, .ofNat 0), (9, .ofNat 0)], [], []), (sxE0, [], [], ([], .ofNat 0))),
  ((48, 10, 3), ([(0, .ofNat 0), (0, .ofNat 24)], [0, 1], []), (sxE0, [], [], ([], .ofNat 0))),
  ((8, 2, 0), ([(4, .ofNat 1), (0, .ofNat 1), (9, .ofNat 0)], [], []), (sxE0, [], [], ([], .ofNat 0))),
  ((8, 2, 0), ([(4, .ofNat 1), (0, .ofNat 0), (9, .ofNat 0)], [], []), (sxE0, [], [], ([], .ofNat 0)))]
theorem sxvI243 : (sx_exec sxRT [sxI242, sxI77, sxI64, sxI223] [] sxhI243 257 0 sxI243.2.2.1 (sx_argl 0 sxI243.2.2.2.1) [] [] sxjI243).isSome = true := by decide +kernel
theorem sxmI243 {PF : Nat → List Int → List (Nat → Int) → Prop} {l : Launch} : sx_met PF sxRT sxMy sxMc sxML sxMr sxTK l sxI243 := by
  obtain ⟨its2, hk⟩ := Option.isSome_iff_exists.mp sxvI243
  exact sx_met_of (h := sxhI243) sxTK_ok (sxTK2 sxksX9_ok) sxt_X9_readsPart sxFW_ok (sx_cons (sxmI242) (sx_cons (sxmI77) (sx_cons (sxmI64) (sx_cons (sxmI223) sx_nil)))) (fun L h => by cases h) rfl (by decide +kernel) (by decide) rfl ⟨rfl, rfl, rfl, rfl⟩ hk
def sxI244 : sxI := (235, (13, 351), ([(.ofNat 0, .ofNat 0), (.ofNat 9, .ofNat 9), (.ofNat 0, .ofNat 400)], [4, 1], 0, [], [], [((0, 0), (0, .ofNat 2), (2, 1, .ofNat 0)), ((0, 1), (0, .ofNat 5), (0, 2, .ofNat 0))], []), [(2, 0, .ofNat 0), (0, 1, .ofNat 0)], [(1, 2, 6), (4, 3, 5), (5, 0, 400)], [(([(.ofNat 0, .ofNat 0), (.ofNat 0, .ofNat 400)], [], 0, [], [], [((0, 0), (0, .ofNat 2), (2, 1, .ofNat 0)), ((0, 1), (0, .ofNat 5), (0, 4, .ofNat 0))], []), some (0, 3, .ofNat 0)), (([(.ofNat 1, .ofNat 1), (.ofNat 0, .ofNat 400)], [], 0, [], [], [((0, 0), (0, .ofNat 2), (2, 1, .ofNat 0)), ((0, 1), (0, .ofNat 5), (0, 4, .ofNat 0))], []), some (0, 3, .ofNat 0))])
def sxhI244 : sxH := (sxk_X9_readsTest, sxgX9, sxpX9, sxcX9, (sxkiX9, sxklX9, sxksX9), (4, sxI244.2.2.2.2.1, sxI244.2.2.2.2.2, 1), (3, 2, 0), (13, 351))
def sxjI244 : List sxJ := [((2, 10, 0), ([(0, .ofNat 0), (1, .ofNat 0), (2, .ofNat 0)], [0, 1], []), (sxE0, [], [], ([], .ofNat 0))),
  ((8, 0, 0), ([(0, .ofNat 0), (3, .ofNat 0)], [], []), (([(.ofNat 0, .ofNat 0), (.ofNat 0, .ofNat 0)], [], 0, [([(6, .ofNat 1), (3, .negSucc 0)], .ofNat 0), ([(3, .ofNat 1), (6, .negSucc 0)], .ofNat 0)], [], [((0, 0), (0, .ofNat 2), (2, 1, .ofNat 0)), ((0, 1), (0, .ofNat 5), (0, 4, .ofNat 0))], []), [(3, (0, 5, .ofNat 0)), (2, (0, 6, .ofNat 0)), (0, (2, 0, .ofNat 0)), (1, (0, 1, .ofNat 0))], [], ([(5, .negSucc 0)], .ofNat 0))),
  ((67, 11, 0), ([(6, .ofNat 0), (4, .ofNat 0)], [], []), (sxE0, [], [], ([], .ofNat 0))),
  ((8, 0, 0), ([(0, .ofNat 0), (3, .ofNat 0), (4, .ofNat 0)], [], []), (([(.ofNat 0, .ofNat 60), (.ofNat 0, .ofNat 1), (.ofNat 0, .ofNat 400)], [], 0, [([(3, .ofNat 1), (6, .negSucc 0)], .ofNat 0)], [], [((0, 0), (0, .ofNat 2), (2, 1, .ofNat 0)), ((0, 1), (0, .ofNat 5), (0, 7, .ofNat 0))], []), [(3, (0, 5, .ofNat 0)), (2, (0, 6, .ofNat 0)), (0, (2, 0, .ofNat 0)), (1, (0, 1, .ofNat 0))], [], ([(5, .negSucc 0)], .ofNat 60))),
  ((67, 11, 0), ([(6, .ofNat 0), (7, .ofNat 0)], [], []), (sxE0, [], [], ([], .ofNat 0))),
  ((67, 11, 1), ([(6, .ofNat 0), (7, .ofNat 0)], [], []), (sxE0, [], [], ([], .ofNat 0))),
  ((24, 10, 1), ([(0, .ofNat 0)], [1, 2], []), (sxE0, [], [], ([], .ofNat 0))),
  ((67, 11, 1), ([(6, .ofNat 0), (7, .ofNat 0)], [], []), (sxE0, [], [], ([], .ofNat 0))),
  ((34, 10, 2), ([(0, .ofNat 0), (7, .ofNat 0)], [1], []), (sxE0, [], [], ([], .ofNat 0))),
  ((39, 10, 0), ([(0, .ofNat 0), (1, .ofNat 0), (9, .ofNat 0)], [0, 1], []), (sxE0, [], [], ([], .ofNat 0))),
  ((8, 2, 0), ([(5, .ofNat 1), (0, .ofNat 0), (11, .ofNat 0)], [], []), (sxE0, [], [], ([], .ofNat 0))),
  ((48, 10, 3), ([(0, .ofNat 0), (0, .ofNat 25)], [0, 1], []), (sxE0, [], [], ([], .ofNat 0))),
  ((8, 2, 0), ([(5, .ofNat 1), (0, .ofNat 1), (11, .ofNat 0)], [], []), (sxE0, [], [], ([], .ofNat 0))),
  ((8, 2, 0), ([(5, .ofNat 1), (0, .ofNat 0), (11, .ofNat 0)], [], []), (sxE0, [], [], ([], .ofNat 0)))]
theorem sxvI244 : (sx_exec sxRT [sxI243, sxI235, sxI64, sxI223] [] sxhI244 257 0 sxI244.2.2.1 (sx_argl 0 sxI244.2.2.2.1) [] [] sxjI244).isSome = true := by decide +kernel
theorem sxmI244 {PF : Nat → List Int → List (Nat → Int) → Prop} {l : Launch} : sx_met PF sxRT sxMy sxMc sxML sxMr sxTK l sxI244 := by
  obtain ⟨its2, hk⟩ := Option.isSome_iff_exists.mp sxvI244
  exact sx_met_of (h := sxhI244) sxTK_ok (sxTK2 sxksX9_ok) sxt_X9_readsTest sxFW_ok (sx_cons (sxmI243) (sx_cons (sxmI235) (sx_cons (sxmI64) (sx_cons (sxmI223) sx_nil)))) (fun L h => by cases h) rfl (by decide +kernel) (by decide) rfl ⟨rfl, rfl, rfl, rfl⟩ hk
def sxI245 : sxI := (237, (14, 374), ([(.ofNat 0, .ofNat 0), (.ofNat 0, .ofNat 0), (.ofNat 9, .ofNat 9), (.ofNat 0, .ofNat 400)], [4, 1], 0, [], [], [((0, 0), (0, .ofNat 2), (2, 1, .ofNat 0)), ((0, 1), (0, .ofNat 5), (0, 3, .ofNat 0))], []), [(2, 0, .ofNat 0), (0, 1, .ofNat 0), (0, 2, .ofNat 0)], [(1, 2, 6), (4, 3, 5), (5, 0, 400)], [(([(.ofNat 0, .ofNat 400)], [], 0, [], [], [((0, 0), (0, .ofNat 2), (2, 1, .ofNat 0)), ((0, 1), (0, .ofNat 5), (0, 4, .ofNat 0))], []), some (0, 0, .ofNat 0)), (([(.ofNat 0, .ofNat 400)], [], 0, [], [], [((0, 0), (0, .ofNat 2), (2, 1, .ofNat 0)), ((0, 1), (0, .ofNat 5), (0, 4, .ofNat 0))], []), some (0, 0, .ofNat 1))])
def sxhI245 : sxH := (sxk_X9_readsWithin, sxgX9, sxpX9, sxcX9, (sxkiX9, sxklX9, sxksX9), (3, sxI245.2.2.2.2.1, sxI245.2.2.2.2.2, 1), (4, 2, 0), (14, 374))
def sxjI245 : List sxJ := [((4, 10, 0), ([(0, .ofNat 0), (3, .ofNat 0)], [1], []), (sxE0, [], [], ([], .ofNat 0))),
  ((36, 10, 1), ([(0, .ofNat 0), (2, .ofNat 0), (4, .ofNat 0)], [0, 1], []), (sxE0, [], [], ([], .ofNat 0))),
  ((43, 11, 0), ([(6, .ofNat 0)], [], []), (sxE0, [], [], ([], .ofNat 0))),
  ((69, 10, 0), ([(0, .ofNat 0), (6, .ofNat 0)], [1], []), (sxE0, [], [], ([], .ofNat 0))),
  ((73, 11, 1), ([(8, .ofNat 0)], [], []), (sxE0, [], [], ([], .ofNat 0))),
  ((61, 10, 2), ([(0, .ofNat 0), (0, .ofNat 0)], [1], []), (sxE0, [], [], ([], .ofNat 0))),
  ((64, 11, 0), ([(6, .ofNat 0)], [], []), (sxE0, [], [], ([], .ofNat 0)))]
theorem sxvI245 : (sx_exec sxRT [sxI64, sxI244, sxI78] [] sxhI245 84 0 sxI245.2.2.1 (sx_argl 0 sxI245.2.2.2.1) [] [] sxjI245).isSome = true := by decide +kernel
theorem sxmI245 {PF : Nat → List Int → List (Nat → Int) → Prop} {l : Launch} : sx_met PF sxRT sxMy sxMc sxML sxMr sxTK l sxI245 := by
  obtain ⟨its2, hk⟩ := Option.isSome_iff_exists.mp sxvI245
  exact sx_met_of (h := sxhI245) sxTK_ok (sxTK2 sxksX9_ok) sxt_X9_readsWithin sxFW_ok (sx_cons (sxmI64) (sx_cons (sxmI244) (sx_cons (sxmI78) sx_nil))) (fun L h => by cases h) rfl (by decide +kernel) (by decide) rfl ⟨rfl, rfl, rfl, rfl⟩ hk
def sxI246 : sxI := (237, (12, 328), ([(.ofNat 0, .ofNat 0), (.ofNat 1, .ofNat 1), (.ofNat 9, .ofNat 9), (.ofNat 0, .ofNat 400)], [4, 1], 0, [], [], [((0, 0), (0, .ofNat 2), (2, 1, .ofNat 0)), ((0, 1), (0, .ofNat 5), (0, 3, .ofNat 0))], []), [(2, 0, .ofNat 0), (0, 1, .ofNat 0), (0, 2, .ofNat 0)], [(1, 2, 6), (4, 3, 5), (5, 0, 400)], [(([(.ofNat 0, .ofNat 400)], [], 0, [], [], [((0, 0), (0, .ofNat 2), (2, 1, .ofNat 0)), ((0, 1), (0, .ofNat 5), (0, 4, .ofNat 0))], []), some (0, 0, .ofNat 0)), (([(.ofNat 0, .ofNat 400)], [], 0, [], [], [((0, 0), (0, .ofNat 2), (2, 1, .ofNat 0)), ((0, 1), (0, .ofNat 5), (0, 4, .ofNat 0))], []), some (0, 0, .ofNat 1))])
def sxhI246 : sxH := (sxk_X9_readsWithin, sxgX9, sxpX9, sxcX9, (sxkiX9, sxklX9, sxksX9), (3, sxI246.2.2.2.2.1, sxI246.2.2.2.2.2, 1), (4, 2, 0), (12, 328))
def sxjI246 : List sxJ := [((4, 10, 0), ([(0, .ofNat 0), (3, .ofNat 0)], [1], []), (sxE0, [], [], ([], .ofNat 0))),
  ((13, 10, 1), ([(0, .ofNat 0), (2, .ofNat 0), (4, .ofNat 0)], [0, 1], []), (sxE0, [], [], ([], .ofNat 0))),
  ((33, 11, 0), ([(5, .ofNat 0)], [], []), (sxE0, [], [], ([], .ofNat 0))),
  ((22, 10, 2), ([(0, .ofNat 0), (0, .ofNat 23)], [0, 1], []), (sxE0, [], [], ([], .ofNat 0))),
  ((33, 11, 1), ([(5, .ofNat 0)], [], []), (sxE0, [], [], ([], .ofNat 0))),
  ((33, 11, 0), ([(5, .ofNat 0)], [], []), (sxE0, [], [], ([], .ofNat 0)))]
theorem sxvI246 : (sx_exec sxRT [sxI64, sxI242, sxI223] [] sxhI246 78 0 sxI246.2.2.1 (sx_argl 0 sxI246.2.2.2.1) [] [] sxjI246).isSome = true := by decide +kernel
theorem sxmI246 {PF : Nat → List Int → List (Nat → Int) → Prop} {l : Launch} : sx_met PF sxRT sxMy sxMc sxML sxMr sxTK l sxI246 := by
  obtain ⟨its2, hk⟩ := Option.isSome_iff_exists.mp sxvI246
  exact sx_met_of (h := sxhI246) sxTK_ok (sxTK2 sxksX9_ok) sxt_X9_readsWithin sxFW_ok (sx_cons (sxmI64) (sx_cons (sxmI242) (sx_cons (sxmI223) sx_nil))) (fun L h => by cases h) rfl (by decide +kernel) (by decide) rfl ⟨rfl, rfl, rfl, rfl⟩ hk
def sxI247 : sxI := (232, (15, 396), ([(.ofNat 0, .ofNat 0), (.ofNat 8, .ofNat 8), (.ofNat 0, .ofNat 400)], [4, 1], 0, [], [], [((0, 0), (0, .ofNat 2), (2, 1, .ofNat 0)), ((0, 1), (0, .ofNat 5), (0, 2, .ofNat 0))], []), [(2, 0, .ofNat 0), (0, 1, .ofNat 0)], [(1, 2, 6), (4, 3, 5), (5, 0, 400)], [(([(.ofNat 0, .ofNat 400)], [], 0, [], [], [((0, 0), (0, .ofNat 2), (2, 1, .ofNat 0)), ((0, 1), (0, .ofNat 5), (0, 3, .ofNat 0))], []), some (0, 0, .ofNat 0)), (([(.ofNat 0, .ofNat 400)], [], 0, [], [], [((0, 0), (0, .ofNat 2), (2, 1, .ofNat 0)), ((0, 1), (0, .ofNat 5), (0, 3, .ofNat 0))], []), some (0, 0, .ofNat 1))])
def sxhI247 : sxH := (sxk_X9_readsFact, sxgX9, sxpX9, sxcX9, (sxkiX9, sxklX9, sxksX9), (4, sxI247.2.2.2.2.1, sxI247.2.2.2.2.2, 1), (3, 2, 0), (15, 396))
def sxjI247 : List sxJ := [((6, 10, 0), ([(0, .ofNat 0)], [1, 2], []), (sxE0, [], [], ([], .ofNat 0))),
  ((53, 10, 1), ([(0, .ofNat 0), (2, .ofNat 0)], [0, 1], []), (sxE0, [], [], ([], .ofNat 0))),
  ((60, 11, 0), ([(5, .ofNat 0)], [], []), (sxE0, [], [], ([], .ofNat 0))),
  ((68, 10, 2), ([(0, .ofNat 0), (6, .ofNat 0)], [], []), (sxE0, [], [], ([], .ofNat 0))),
  ((118, 10, 3), ([(0, .ofNat 0), (5, .ofNat 0)], [1], []), (sxE0, [], [], ([], .ofNat 0))),
  ((122, 10, 1), ([(0, .ofNat 0), (9, .ofNat 0)], [0, 1], []), (sxE0, [], [], ([], .ofNat 0))),
  ((141, 11, 0), ([(10, .ofNat 0)], [], []), (sxE0, [], [], ([], .ofNat 0))),
  ((130, 10, 4), ([(0, .ofNat 0), (7, .ofNat 0)], [0, 1], []), (sxE0, [], [], ([], .ofNat 0))),
  ((141, 11, 1), ([(10, .ofNat 0)], [], []), (sxE0, [], [], ([], .ofNat 0))),
  ((141, 11, 0), ([(10, .ofNat 0)], [], []), (sxE0, [], [], ([], .ofNat 0))),
  ((100, 10, 5), ([(0, .ofNat 0), (0, .ofNat 3)], [1], []), (sxE0, [], [], ([], .ofNat 0))),
  ((103, 11, 0), ([(5, .ofNat 0)], [], []), (sxE0, [], [], ([], .ofNat 0))),
  ((82, 10, 5), ([(0, .ofNat 0), (0, .ofNat 0)], [1], []), (sxE0, [], [], ([], .ofNat 0))),
  ((85, 11, 0), ([(5, .ofNat 0)], [], []), (sxE0, [], [], ([], .ofNat 0))),
  ((37, 10, 6), ([(0, .ofNat 0), (3, .ofNat 0), (1, .ofNat 1), (2, .ofNat 0)], [0, 1], []), (sxE0, [], [], ([], .ofNat 0))),
  ((51, 11, 0), ([(5, .ofNat 0)], [], []), (sxE0, [], [], ([], .ofNat 0))),
  ((51, 11, 1), ([(5, .ofNat 0)], [], []), (sxE0, [], [], ([], .ofNat 0))),
  ((37, 10, 7), ([(0, .ofNat 0), (3, .ofNat 0), (1, .ofNat 1), (2, .ofNat 0)], [0, 1], []), (sxE0, [], [], ([], .ofNat 0))),
  ((51, 11, 0), ([(4, .ofNat 0)], [], []), (sxE0, [], [], ([], .ofNat 0))),
  ((51, 11, 1), ([(4, .ofNat 0)], [], []), (sxE0, [], [], ([], .ofNat 0)))]
theorem sxvI247 : (sx_exec sxRT [sxI77, sxI231, sxI236, sxI64, sxI223, sxI78, sxI245, sxI246] [] sxhI247 164 0 sxI247.2.2.1 (sx_argl 0 sxI247.2.2.2.1) [] [] sxjI247).isSome = true := by decide +kernel
theorem sxmI247 {PF : Nat → List Int → List (Nat → Int) → Prop} {l : Launch} : sx_met PF sxRT sxMy sxMc sxML sxMr sxTK l sxI247 := by
  obtain ⟨its2, hk⟩ := Option.isSome_iff_exists.mp sxvI247
  exact sx_met_of (h := sxhI247) sxTK_ok (sxTK2 sxksX9_ok) sxt_X9_readsFact sxFW_ok (sx_cons (sxmI77) (sx_cons (sxmI231) (sx_cons (sxmI236) (sx_cons (sxmI64) (sx_cons (sxmI223) (sx_cons (sxmI78) (sx_cons (sxmI245) (sx_cons (sxmI246) sx_nil)))))))) (fun L h => by cases h) rfl (by decide +kernel) (by decide) rfl ⟨rfl, rfl, rfl, rfl⟩ hk
def sxI248 : sxI := (233, (16, 419), ([(.ofNat 0, .ofNat 0), (.ofNat 8, .ofNat 8), (.ofNat 0, .ofNat 400)], [4, 1], 0, [], [], [((0, 0), (0, .ofNat 2), (2, 1, .ofNat 0)), ((0, 1), (0, .ofNat 5), (0, 2, .ofNat 0))], []), [(2, 0, .ofNat 0), (0, 1, .ofNat 0)], [(1, 2, 6), (4, 3, 5), (5, 0, 400)], [(([(.ofNat 0, .ofNat 0), (.ofNat 0, .ofNat 400)], [], 0, [], [], [((0, 0), (0, .ofNat 2), (2, 1, .ofNat 0)), ((0, 1), (0, .ofNat 5), (0, 4, .ofNat 0))], []), some (0, 3, .ofNat 0)), (([(.ofNat 1, .ofNat 1), (.ofNat 0, .ofNat 400)], [], 0, [], [], [((0, 0), (0, .ofNat 2), (2, 1, .ofNat 0)), ((0, 1), (0, .ofNat 5), (0, 4, .ofNat 0))], []), some (0, 3, .ofNat 0))])
def sxhI248 : sxH := (sxk_X9_readsPart, sxgX9, sxpX9, sxcX9, (sxkiX9, sxklX9, sxksX9), (4, sxI248.2.2.2.2.1, sxI248.2.2.2.2.2, 1), (3, 2, 0), (16, 419))
def sxjI248 : List sxJ := [((2, 10, 0), ([(0, .ofNat 0), (1, .ofNat 0), (2, .ofNat 0)], [0, 1], []), (sxE0, [], [], ([], .ofNat 0))),
  ((8, 0, 0), ([(0, .ofNat 0), (0, .ofNat 0)], [], []), (([(.ofNat 0, .ofNat 0), (.ofNat 0, .ofNat 0)], [], 0, [], [], [((0, 0), (0, .ofNat 2), (2, 1, .ofNat 0)), ((0, 1), (0, .ofNat 5), (0, 3, .ofNat 0))], []), [(3, (0, 4, .ofNat 0)), (2, (0, 5, .ofNat 0)), (0, (2, 0, .ofNat 0)), (1, (0, 1, .ofNat 0))], [], ([(4, .negSucc 0)], .ofNat 0))),
  ((67, 11, 0), ([(5, .ofNat 0), (3, .ofNat 0)], [], []), (sxE0, [], [], ([], .ofNat 0))),
  ((8, 0, 0), ([(0, .ofNat 0), (0, .ofNat 1), (3, .ofNat 0)], [], []), (([(.ofNat 0, .ofNat 60), (.ofNat 0, .ofNat 1), (.ofNat 0, .ofNat 400)], [], 0, [], [], [((0, 0), (0, .ofNat 2), (2, 1, .ofNat 0)), ((0, 1), (0, .ofNat 5), (0, 6, .ofNat 0))], []), [(3, (0, 4, .ofNat 0)), (2, (0, 5, .ofNat 0)), (0, (2, 0, .ofNat 0)), (1, (0, 1, .ofNat 0))], [], ([(4, .negSucc 0)], .ofNat 60))),
  ((67, 11, 0), ([(5, .ofNat 0), (6, .ofNat 0)], [], []), (sxE0, [], [], ([], .ofNat 0))),
  ((67, 11, 1), ([(5, .ofNat 0), (6, .ofNat 0)], [], []), (sxE0, [], [], ([], .ofNat 0))),
  ((24, 10, 1), ([(0, .ofNat 0)], [1, 2], []), (sxE0, [], [], ([], .ofNat 0))),
  ((67, 11, 1), ([(5, .ofNat 0), (6, .ofNat 0)], [], []), (sxE0, [], [], ([], .ofNat 0))),
  ((34, 10, 2), ([(0, .ofNat 0), (6, .ofNat 0)], [1], []), (sxE0, [], [], ([], .ofNat 0))),
  ((39, 10, 0), ([(0, .ofNat 0), (1, .ofNat 0), (8, .ofNat 0)], [0, 1], []), (sxE0, [], [], ([], .ofNat 0))),
  ((8, 2, 0), ([(4, .ofNat 1), (0, .ofNat 0), (9, .ofNat 0)], [], []), (sxE0, [], [], ([], .ofNat 0))),
  ((48, 10, 3), ([(0, .ofNat 0), (0, .ofNat 24)], [0, 1], []), (sxE0, [], [], ([], .ofNat 0))),
  ((8, 2, 0), ([(4, .ofNat 1), (0, .ofNat 1), (9, .ofNat 0)], [], []), (sxE0, [], [], ([], .ofNat 0))),
  ((8, 2, 0), ([(4, .ofNat 1), (0, .ofNat 0), (9, .ofNat 0)], [], []), (sxE0, [], [], ([], .ofNat 0)))]
theorem sxvI248 : (sx_exec sxRT [sxI247, sxI77, sxI64, sxI223] [] sxhI248 257 0 sxI248.2.2.1 (sx_argl 0 sxI248.2.2.2.1) [] [] sxjI248).isSome = true := by decide +kernel
theorem sxmI248 {PF : Nat → List Int → List (Nat → Int) → Prop} {l : Launch} : sx_met PF sxRT sxMy sxMc sxML sxMr sxTK l sxI248 := by
  obtain ⟨its2, hk⟩ := Option.isSome_iff_exists.mp sxvI248
  exact sx_met_of (h := sxhI248) sxTK_ok (sxTK2 sxksX9_ok) sxt_X9_readsPart sxFW_ok (sx_cons (sxmI247) (sx_cons (sxmI77) (sx_cons (sxmI64) (sx_cons (sxmI223) sx_nil)))) (fun L h => by cases h) rfl (by decide +kernel) (by decide) rfl ⟨rfl, rfl, rfl, rfl⟩ hk
def sxI249 : sxI := (235, (17, 442), ([(.ofNat 0, .ofNat 0), (.ofNat 8, .ofNat 8), (.ofNat 0, .ofNat 400)], [4, 1], 0, [], [], [((0, 0), (0, .ofNat 2), (2, 1, .ofNat 0)), ((0, 1), (0, .ofNat 5), (0, 2, .ofNat 0))], []), [(2, 0, .ofNat 0), (0, 1, .ofNat 0)], [(1, 2, 6), (4, 3, 5), (5, 0, 400)], [(([(.ofNat 0, .ofNat 0), (.ofNat 0, .ofNat 400)], [], 0, [], [], [((0, 0), (0, .ofNat 2), (2, 1, .ofNat 0)), ((0, 1), (0, .ofNat 5), (0, 4, .ofNat 0))], []), some (0, 3, .ofNat 0)), (([(.ofNat 1, .ofNat 1), (.ofNat 0, .ofNat 400)], [], 0, [], [], [((0, 0), (0, .ofNat 2), (2, 1, .ofNat 0)), ((0, 1), (0, .ofNat 5), (0, 4, .ofNat 0))], []), some (0, 3, .ofNat 0))])
def sxhI249 : sxH := (sxk_X9_readsTest, sxgX9, sxpX9, sxcX9, (sxkiX9, sxklX9, sxksX9), (4, sxI249.2.2.2.2.1, sxI249.2.2.2.2.2, 1), (3, 2, 0), (17, 442))
def sxjI249 : List sxJ := [((2, 10, 0), ([(0, .ofNat 0), (1, .ofNat 0), (2, .ofNat 0)], [0, 1], []), (sxE0, [], [], ([], .ofNat 0))),
  ((8, 0, 0), ([(0, .ofNat 0), (3, .ofNat 0)], [], []), (([(.ofNat 0, .ofNat 0), (.ofNat 0, .ofNat 0)], [], 0, [([(6, .ofNat 1), (3, .negSucc 0)], .ofNat 0), ([(3, .ofNat 1), (6, .negSucc 0)], .ofNat 0)], [], [((0, 0), (0, .ofNat 2), (2, 1, .ofNat 0)), ((0, 1), (0, .ofNat 5), (0, 4, .ofNat 0))], []), [(3, (0, 5, .ofNat 0)), (2, (0, 6, .ofNat 0)), (0, (2, 0, .ofNat 0)), (1, (0, 1, .ofNat 0))], [], ([(5, .negSucc 0)], .ofNat 0))),
  ((67, 11, 0), ([(6, .ofNat 0), (4, .ofNat 0)], [], []), (sxE0, [], [], ([], .ofNat 0))),
  ((8, 0, 0), ([(0, .ofNat 0), (3, .ofNat 0), (4, .ofNat 0)], [], []), (([(.ofNat 0, .ofNat 60), (.ofNat 0, .ofNat 1), (.ofNat 0, .ofNat 400)], [], 0, [([(3, .ofNat 1), (6, .negSucc 0)], .ofNat 0)], [], [((0, 0), (0, .ofNat 2), (2, 1, .ofNat 0)), ((0, 1), (0, .ofNat 5), (0, 7, .ofNat 0))], []), [(3, (0, 5, .ofNat 0)), (2, (0, 6, .ofNat 0)), (0, (2, 0, .ofNat 0)), (1, (0, 1, .ofNat 0))], [], ([(5, .negSucc 0)], .ofNat 60))),
  ((67, 11, 0), ([(6, .ofNat 0), (7, .ofNat 0)], [], []), (sxE0, [], [], ([], .ofNat 0))),
  ((67, 11, 1), ([(6, .ofNat 0), (7, .ofNat 0)], [], []), (sxE0, [], [], ([], .ofNat 0))),
  ((24, 10, 1), ([(0, .ofNat 0)], [1, 2], []), (sxE0, [], [], ([], .ofNat 0))),
  ((67, 11, 1), ([(6, .ofNat 0), (7, .ofNat 0)], [], []), (sxE0, [], [], ([], .ofNat 0))),
  ((34, 10, 2), ([(0, .ofNat 0), (7, .ofNat 0)], [1], []), (sxE0, [], [], ([], .ofNat 0))),
  ((39, 10, 0), ([(0, .ofNat 0), (1, .ofNat 0), (9, .ofNat 0)], [0, 1], []), (sxE0, [], [], ([], .ofNat 0))),
  ((8, 2, 0), ([(5, .ofNat 1), (0, .ofNat 0), (11, .ofNat 0)], [], []), (sxE0, [], [], ([], .ofNat 0))),
  ((48, 10, 3), ([(0, .ofNat 0), (0, .ofNat 25)], [0, 1], []), (sxE0, [], [], ([], .ofNat 0))),
  ((8, 2, 0), ([(5, .ofNat 1), (0, .ofNat 1), (11, .ofNat 0)], [], []), (sxE0, [], [], ([], .ofNat 0))),
  ((8, 2, 0), ([(5, .ofNat 1), (0, .ofNat 0), (11, .ofNat 0)], [], []), (sxE0, [], [], ([], .ofNat 0)))]
theorem sxvI249 : (sx_exec sxRT [sxI248, sxI235, sxI64, sxI223] [] sxhI249 257 0 sxI249.2.2.1 (sx_argl 0 sxI249.2.2.2.1) [] [] sxjI249).isSome = true := by decide +kernel
theorem sxmI249 {PF : Nat → List Int → List (Nat → Int) → Prop} {l : Launch} : sx_met PF sxRT sxMy sxMc sxML sxMr sxTK l sxI249 := by
  obtain ⟨its2, hk⟩ := Option.isSome_iff_exists.mp sxvI249
  exact sx_met_of (h := sxhI249) sxTK_ok (sxTK2 sxksX9_ok) sxt_X9_readsTest sxFW_ok (sx_cons (sxmI248) (sx_cons (sxmI235) (sx_cons (sxmI64) (sx_cons (sxmI223) sx_nil)))) (fun L h => by cases h) rfl (by decide +kernel) (by decide) rfl ⟨rfl, rfl, rfl, rfl⟩ hk
def sxI250 : sxI := (237, (18, 465), ([(.ofNat 0, .ofNat 0), (.ofNat 0, .ofNat 0), (.ofNat 8, .ofNat 8), (.ofNat 0, .ofNat 400)], [4, 1], 0, [], [], [((0, 0), (0, .ofNat 2), (2, 1, .ofNat 0)), ((0, 1), (0, .ofNat 5), (0, 3, .ofNat 0))], []), [(2, 0, .ofNat 0), (0, 1, .ofNat 0), (0, 2, .ofNat 0)], [(1, 2, 6), (4, 3, 5), (5, 0, 400)], [(([(.ofNat 0, .ofNat 400)], [], 0, [], [], [((0, 0), (0, .ofNat 2), (2, 1, .ofNat 0)), ((0, 1), (0, .ofNat 5), (0, 4, .ofNat 0))], []), some (0, 0, .ofNat 0)), (([(.ofNat 0, .ofNat 400)], [], 0, [], [], [((0, 0), (0, .ofNat 2), (2, 1, .ofNat 0)), ((0, 1), (0, .ofNat 5), (0, 4, .ofNat 0))], []), some (0, 0, .ofNat 1))])
def sxhI250 : sxH := (sxk_X9_readsWithin, sxgX9, sxpX9, sxcX9, (sxkiX9, sxklX9, sxksX9), (3, sxI250.2.2.2.2.1, sxI250.2.2.2.2.2, 1), (4, 2, 0), (18, 465))
def sxjI250 : List sxJ := [((4, 10, 0), ([(0, .ofNat 0), (3, .ofNat 0)], [1], []), (sxE0, [], [], ([], .ofNat 0))),
  ((36, 10, 1), ([(0, .ofNat 0), (2, .ofNat 0), (4, .ofNat 0)], [0, 1], []), (sxE0, [], [], ([], .ofNat 0))),
  ((43, 11, 0), ([(6, .ofNat 0)], [], []), (sxE0, [], [], ([], .ofNat 0))),
  ((69, 10, 0), ([(0, .ofNat 0), (6, .ofNat 0)], [1], []), (sxE0, [], [], ([], .ofNat 0))),
  ((73, 11, 1), ([(8, .ofNat 0)], [], []), (sxE0, [], [], ([], .ofNat 0))),
  ((61, 10, 2), ([(0, .ofNat 0), (0, .ofNat 0)], [1], []), (sxE0, [], [], ([], .ofNat 0))),
  ((64, 11, 0), ([(6, .ofNat 0)], [], []), (sxE0, [], [], ([], .ofNat 0)))]
theorem sxvI250 : (sx_exec sxRT [sxI64, sxI249, sxI78] [] sxhI250 84 0 sxI250.2.2.1 (sx_argl 0 sxI250.2.2.2.1) [] [] sxjI250).isSome = true := by decide +kernel
theorem sxmI250 {PF : Nat → List Int → List (Nat → Int) → Prop} {l : Launch} : sx_met PF sxRT sxMy sxMc sxML sxMr sxTK l sxI250 := by
  obtain ⟨its2, hk⟩ := Option.isSome_iff_exists.mp sxvI250
  exact sx_met_of (h := sxhI250) sxTK_ok (sxTK2 sxksX9_ok) sxt_X9_readsWithin sxFW_ok (sx_cons (sxmI64) (sx_cons (sxmI249) (sx_cons (sxmI78) sx_nil))) (fun L h => by cases h) rfl (by decide +kernel) (by decide) rfl ⟨rfl, rfl, rfl, rfl⟩ hk
def sxI251 : sxI := (237, (16, 419), ([(.ofNat 0, .ofNat 0), (.ofNat 1, .ofNat 1), (.ofNat 8, .ofNat 8), (.ofNat 0, .ofNat 400)], [4, 1], 0, [], [], [((0, 0), (0, .ofNat 2), (2, 1, .ofNat 0)), ((0, 1), (0, .ofNat 5), (0, 3, .ofNat 0))], []), [(2, 0, .ofNat 0), (0, 1, .ofNat 0), (0, 2, .ofNat 0)], [(1, 2, 6), (4, 3, 5), (5, 0, 400)], [(([(.ofNat 0, .ofNat 400)], [], 0, [], [], [((0, 0), (0, .ofNat 2), (2, 1, .ofNat 0)), ((0, 1), (0, .ofNat 5), (0, 4, .ofNat 0))], []), some (0, 0, .ofNat 0)), (([(.ofNat 0, .ofNat 400)], [], 0, [], [], [((0, 0), (0, .ofNat 2), (2, 1, .ofNat 0)), ((0, 1), (0, .ofNat 5), (0, 4, .ofNat 0))], []), some (0, 0, .ofNat 1))])
def sxhI251 : sxH := (sxk_X9_readsWithin, sxgX9, sxpX9, sxcX9, (sxkiX9, sxklX9, sxksX9), (3, sxI251.2.2.2.2.1, sxI251.2.2.2.2.2, 1), (4, 2, 0), (16, 419))
def sxjI251 : List sxJ := [((4, 10, 0), ([(0, .ofNat 0), (3, .ofNat 0)], [1], []), (sxE0, [], [], ([], .ofNat 0))),
  ((13, 10, 1), ([(0, .ofNat 0), (2, .ofNat 0), (4, .ofNat 0)], [0, 1], []), (sxE0, [], [], ([], .ofNat 0))),
  ((33, 11, 0), ([(5, .ofNat 0)], [], []), (sxE0, [], [], ([], .ofNat 0))),
  ((22, 10, 2), ([(0, .ofNat 0), (0, .ofNat 23)], [0, 1], []), (sxE0, [], [], ([], .ofNat 0))),
  ((33, 11, 1), ([(5, .ofNat 0)], [], []), (sxE0, [], [], ([], .ofNat 0))),
  ((33, 11, 0), ([(5, .ofNat 0)], [], []), (sxE0, [], [], ([], .ofNat 0)))]
theorem sxvI251 : (sx_exec sxRT [sxI64, sxI247, sxI223] [] sxhI251 78 0 sxI251.2.2.1 (sx_argl 0 sxI251.2.2.2.1) [] [] sxjI251).isSome = true := by decide +kernel
theorem sxmI251 {PF : Nat → List Int → List (Nat → Int) → Prop} {l : Launch} : sx_met PF sxRT sxMy sxMc sxML sxMr sxTK l sxI251 := by
  obtain ⟨its2, hk⟩ := Option.isSome_iff_exists.mp sxvI251
  exact sx_met_of (h := sxhI251) sxTK_ok (sxTK2 sxksX9_ok) sxt_X9_readsWithin sxFW_ok (sx_cons (sxmI64) (sx_cons (sxmI247) (sx_cons (sxmI223) sx_nil))) (fun L h => by cases h) rfl (by decide +kernel) (by decide) rfl ⟨rfl, rfl, rfl, rfl⟩ hk
def sxI252 : sxI := (232, (19, 487), ([(.ofNat 0, .ofNat 0), (.ofNat 7, .ofNat 7), (.ofNat 0, .ofNat 400)], [4, 1], 0, [], [], [((0, 0), (0, .ofNat 2), (2, 1, .ofNat 0)), ((0, 1), (0, .ofNat 5), (0, 2, .ofNat 0))], []), [(2, 0, .ofNat 0), (0, 1, .ofNat 0)], [(1, 2, 6), (4, 3, 5), (5, 0, 400)], [(([(.ofNat 0, .ofNat 400)], [], 0, [], [], [((0, 0), (0, .ofNat 2), (2, 1, .ofNat 0)), ((0, 1), (0, .ofNat 5), (0, 3, .ofNat 0))], []), some (0, 0, .ofNat 0)), (([(.ofNat 0, .ofNat 400)], [], 0, [], [], [((0, 0), (0, .ofNat 2), (2, 1, .ofNat 0)), ((0, 1), (0, .ofNat 5), (0, 3, .ofNat 0))], []), some (0, 0, .ofNat 1))])
def sxhI252 : sxH := (sxk_X9_readsFact, sxgX9, sxpX9, sxcX9, (sxkiX9, sxklX9, sxksX9), (4, sxI252.2.2.2.2.1, sxI252.2.2.2.2.2, 1), (3, 2, 0), (19, 487))
def sxjI252 : List sxJ := [((6, 10, 0), ([(0, .ofNat 0)], [1, 2], []), (sxE0, [], [], ([], .ofNat 0))),
  ((53, 10, 1), ([(0, .ofNat 0), (2, .ofNat 0)], [0, 1], []), (sxE0, [], [], ([], .ofNat 0))),
  ((60, 11, 0), ([(5, .ofNat 0)], [], []), (sxE0, [], [], ([], .ofNat 0))),
  ((68, 10, 2), ([(0, .ofNat 0), (6, .ofNat 0)], [], []), (sxE0, [], [], ([], .ofNat 0))),
  ((118, 10, 3), ([(0, .ofNat 0), (5, .ofNat 0)], [1], []), (sxE0, [], [], ([], .ofNat 0))),
  ((122, 10, 1), ([(0, .ofNat 0), (9, .ofNat 0)], [0, 1], []), (sxE0, [], [], ([], .ofNat 0))),
  ((141, 11, 0), ([(10, .ofNat 0)], [], []), (sxE0, [], [], ([], .ofNat 0))),
  ((130, 10, 4), ([(0, .ofNat 0), (7, .ofNat 0)], [0, 1], []), (sxE0, [], [], ([], .ofNat 0))),
  ((141, 11, 1), ([(10, .ofNat 0)], [], []), (sxE0, [], [], ([], .ofNat 0))),
  ((141, 11, 0), ([(10, .ofNat 0)], [], []), (sxE0, [], [], ([], .ofNat 0))),
  ((100, 10, 5), ([(0, .ofNat 0), (0, .ofNat 3)], [1], []), (sxE0, [], [], ([], .ofNat 0))),
  ((103, 11, 0), ([(5, .ofNat 0)], [], []), (sxE0, [], [], ([], .ofNat 0))),
  ((82, 10, 5), ([(0, .ofNat 0), (0, .ofNat 0)], [1], []), (sxE0, [], [], ([], .ofNat 0))),
  ((85, 11, 0), ([(5, .ofNat 0)], [], []), (sxE0, [], [], ([], .ofNat 0))),
  ((37, 10, 6), ([(0, .ofNat 0), (3, .ofNat 0), (1, .ofNat 1), (2, .ofNat 0)], [0, 1], []), (sxE0, [], [], ([], .ofNat 0))),
  ((51, 11, 0), ([(5, .ofNat 0)], [], []), (sxE0, [], [], ([], .ofNat 0))),
  ((51, 11, 1), ([(5, .ofNat 0)], [], []), (sxE0, [], [], ([], .ofNat 0))),
  ((37, 10, 7), ([(0, .ofNat 0), (3, .ofNat 0), (1, .ofNat 1), (2, .ofNat 0)], [0, 1], []), (sxE0, [], [], ([], .ofNat 0))),
  ((51, 11, 0), ([(4, .ofNat 0)], [], []), (sxE0, [], [], ([], .ofNat 0))),
  ((51, 11, 1), ([(4, .ofNat 0)], [], []), (sxE0, [], [], ([], .ofNat 0)))]
theorem sxvI252 : (sx_exec sxRT [sxI77, sxI231, sxI236, sxI64, sxI223, sxI78, sxI250, sxI251] [] sxhI252 164 0 sxI252.2.2.1 (sx_argl 0 sxI252.2.2.2.1) [] [] sxjI252).isSome = true := by decide +kernel
theorem sxmI252 {PF : Nat → List Int → List (Nat → Int) → Prop} {l : Launch} : sx_met PF sxRT sxMy sxMc sxML sxMr sxTK l sxI252 := by
  obtain ⟨its2, hk⟩ := Option.isSome_iff_exists.mp sxvI252
  exact sx_met_of (h := sxhI252) sxTK_ok (sxTK2 sxksX9_ok) sxt_X9_readsFact sxFW_ok (sx_cons (sxmI77) (sx_cons (sxmI231) (sx_cons (sxmI236) (sx_cons (sxmI64) (sx_cons (sxmI223) (sx_cons (sxmI78) (sx_cons (sxmI250) (sx_cons (sxmI251) sx_nil)))))))) (fun L h => by cases h) rfl (by decide +kernel) (by decide) rfl ⟨rfl, rfl, rfl, rfl⟩ hk
def sxI253 : sxI := (233, (20, 510), ([(.ofNat 0, .ofNat 0), (.ofNat 7, .ofNat 7), (.ofNat 0, .ofNat 400)], [4, 1], 0, [], [], [((0, 0), (0, .ofNat 2), (2, 1, .ofNat 0)), ((0, 1), (0, .ofNat 5), (0, 2, .ofNat 0))], []), [(2, 0, .ofNat 0), (0, 1, .ofNat 0)], [(1, 2, 6), (4, 3, 5), (5, 0, 400)], [(([(.ofNat 0, .ofNat 0), (.ofNat 0, .ofNat 400)], [], 0, [], [], [((0, 0), (0, .ofNat 2), (2, 1, .ofNat 0)), ((0, 1), (0, .ofNat 5), (0, 4, .ofNat 0))], []), some (0, 3, .ofNat 0)), (([(.ofNat 1, .ofNat 1), (.ofNat 0, .ofNat 400)], [], 0, [], [], [((0, 0), (0, .ofNat 2), (2, 1, .ofNat 0)), ((0, 1), (0, .ofNat 5), (0, 4, .ofNat 0))], []), some (0, 3, .ofNat 0))])
def sxhI253 : sxH := (sxk_X9_readsPart, sxgX9, sxpX9, sxcX9, (sxkiX9, sxklX9, sxksX9), (4, sxI253.2.2.2.2.1, sxI253.2.2.2.2.2, 1), (3, 2, 0), (20, 510))
def sxjI253 : List sxJ := [((2, 10, 0), ([(0, .ofNat 0), (1, .ofNat 0), (2, .ofNat 0)], [0, 1], []), (sxE0, [], [], ([], .ofNat 0))),
  ((8, 0, 0), ([(0, .ofNat 0), (0, .ofNat 0)], [], []), (([(.ofNat 0, .ofNat 0), (.ofNat 0, .ofNat 0)], [], 0, [], [], [((0, 0), (0, .ofNat 2), (2, 1, .ofNat 0)), ((0, 1), (0, .ofNat 5), (0, 3, .ofNat 0))], []), [(3, (0, 4, .ofNat 0)), (2, (0, 5, .ofNat 0)), (0, (2, 0, .ofNat 0)), (1, (0, 1, .ofNat 0))], [], ([(4, .negSucc 0)], .ofNat 0))),
  ((67, 11, 0), ([(5, .ofNat 0), (3, .ofNat 0)], [], []), (sxE0, [], [], ([], .ofNat 0))),
  ((8, 0, 0), ([(0, .ofNat 0), (0, .ofNat 1), (3, .ofNat 0)], [], []), (([(.ofNat 0, .ofNat 60), (.ofNat 0, .ofNat 1), (.ofNat 0, .ofNat 400)], [], 0, [], [], [((0, 0), (0, .ofNat 2), (2, 1, .ofNat 0)), ((0, 1), (0, .ofNat 5), (0, 6, .ofNat 0))], []), [(3, (0, 4, .ofNat 0)), (2, (0, 5, .ofNat 0)), (0, (2, 0, .ofNat 0)), (1, (0, 1, .ofNat 0))], [], ([(4, .negSucc 0)], .ofNat 60))),
  ((67, 11, 0), ([(5, .ofNat 0), (6, .ofNat 0)], [], []), (sxE0, [], [], ([], .ofNat 0))),
  ((67, 11, 1), ([(5, .ofNat 0), (6, .ofNat 0)], [], []), (sxE0, [], [], ([], .ofNat 0))),
  ((24, 10, 1), ([(0, .ofNat 0)], [1, 2], []), (sxE0, [], [], ([], .ofNat 0))),
  ((67, 11, 1), ([(5, .ofNat 0), (6, .ofNat 0)], [], []), (sxE0, [], [], ([], .ofNat 0))),
  ((34, 10, 2), ([(0, .ofNat 0), (6, .ofNat 0)], [1], []), (sxE0, [], [], ([], .ofNat 0))),
  ((39, 10, 0), ([(0, .ofNat 0), (1, .ofNat 0), (8, .ofNat 0)], [0, 1], []), (sxE0, [], [], ([], .ofNat 0))),
  ((8, 2, 0), ([(4, .ofNat 1), (0, .ofNat 0), (9, .ofNat 0)], [], []), (sxE0, [], [], ([], .ofNat 0))),
  ((48, 10, 3), ([(0, .ofNat 0), (0, .ofNat 24)], [0, 1], []), (sxE0, [], [], ([], .ofNat 0))),
  ((8, 2, 0), ([(4, .ofNat 1), (0, .ofNat 1), (9, .ofNat 0)], [], []), (sxE0, [], [], ([], .ofNat 0))),
  ((8, 2, 0), ([(4, .ofNat 1), (0, .ofNat 0), (9, .ofNat 0)], [], []), (sxE0, [], [], ([], .ofNat 0)))]
theorem sxvI253 : (sx_exec sxRT [sxI252, sxI77, sxI64, sxI223] [] sxhI253 257 0 sxI253.2.2.1 (sx_argl 0 sxI253.2.2.2.1) [] [] sxjI253).isSome = true := by decide +kernel
theorem sxmI253 {PF : Nat → List Int → List (Nat → Int) → Prop} {l : Launch} : sx_met PF sxRT sxMy sxMc sxML sxMr sxTK l sxI253 := by
  obtain ⟨its2, hk⟩ := Option.isSome_iff_exists.mp sxvI253
  exact sx_met_of (h := sxhI253) sxTK_ok (sxTK2 sxksX9_ok) sxt_X9_readsPart sxFW_ok (sx_cons (sxmI252) (sx_cons (sxmI77) (sx_cons (sxmI64) (sx_cons (sxmI223) sx_nil)))) (fun L h => by cases h) rfl (by decide +kernel) (by decide) rfl ⟨rfl, rfl, rfl, rfl⟩ hk
def sxI254 : sxI := (235, (21, 533), ([(.ofNat 0, .ofNat 0), (.ofNat 7, .ofNat 7), (.ofNat 0, .ofNat 400)], [4, 1], 0, [], [], [((0, 0), (0, .ofNat 2), (2, 1, .ofNat 0)), ((0, 1), (0, .ofNat 5), (0, 2, .ofNat 0))], []), [(2, 0, .ofNat 0), (0, 1, .ofNat 0)], [(1, 2, 6), (4, 3, 5), (5, 0, 400)], [(([(.ofNat 0, .ofNat 0), (.ofNat 0, .ofNat 400)], [], 0, [], [], [((0, 0), (0, .ofNat 2), (2, 1, .ofNat 0)), ((0, 1), (0, .ofNat 5), (0, 4, .ofNat 0))], []), some (0, 3, .ofNat 0)), (([(.ofNat 1, .ofNat 1), (.ofNat 0, .ofNat 400)], [], 0, [], [], [((0, 0), (0, .ofNat 2), (2, 1, .ofNat 0)), ((0, 1), (0, .ofNat 5), (0, 4, .ofNat 0))], []), some (0, 3, .ofNat 0))])
def sxhI254 : sxH := (sxk_X9_readsTest, sxgX9, sxpX9, sxcX9, (sxkiX9, sxklX9, sxksX9), (4, sxI254.2.2.2.2.1, sxI254.2.2.2.2.2, 1), (3, 2, 0), (21, 533))
def sxjI254 : List sxJ := [((2, 10, 0), ([(0, .ofNat 0), (1, .ofNat 0), (2, .ofNat 0)], [0, 1], []), (sxE0, [], [], ([], .ofNat 0))),
  ((8, 0, 0), ([(0, .ofNat 0), (3, .ofNat 0)], [], []), (([(.ofNat 0, .ofNat 0), (.ofNat 0, .ofNat 0)], [], 0, [([(6, .ofNat 1), (3, .negSucc 0)], .ofNat 0), ([(3, .ofNat 1), (6, .negSucc 0)], .ofNat 0)], [], [((0, 0), (0, .ofNat 2), (2, 1, .ofNat 0)), ((0, 1), (0, .ofNat 5), (0, 4, .ofNat 0))], []), [(3, (0, 5, .ofNat 0)), (2, (0, 6, .ofNat 0)), (0, (2, 0, .ofNat 0)), (1, (0, 1, .ofNat 0))], [], ([(5, .negSucc 0)], .ofNat 0))),
  ((67, 11, 0), ([(6, .ofNat 0), (4, .ofNat 0)], [], []), (sxE0, [], [], ([], .ofNat 0))),
  ((8, 0, 0), ([(0, .ofNat 0), (3, .ofNat 0), (4, .ofNat 0)], [], []), (([(.ofNat 0, .ofNat 60), (.ofNat 0, .ofNat 1), (.ofNat 0, .ofNat 400)], [], 0, [([(3, .ofNat 1), (6, .negSucc 0)], .ofNat 0)], [], [((0, 0), (0, .ofNat 2), (2, 1, .ofNat 0)), ((0, 1), (0, .ofNat 5), (0, 7, .ofNat 0))], []), [(3, (0, 5, .ofNat 0)), (2, (0, 6, .ofNat 0)), (0, (2, 0, .ofNat 0)), (1, (0, 1, .ofNat 0))], [], ([(5, .negSucc 0)], .ofNat 60))),
  ((67, 11, 0), ([(6, .ofNat 0), (7, .ofNat 0)], [], []), (sxE0, [], [], ([], .ofNat 0))),
  ((67, 11, 1), ([(6, .ofNat 0), (7, .ofNat 0)], [], []), (sxE0, [], [], ([], .ofNat 0))),
  ((24, 10, 1), ([(0, .ofNat 0)], [1, 2], []), (sxE0, [], [], ([], .ofNat 0))),
  ((67, 11, 1), ([(6, .ofNat 0), (7, .ofNat 0)], [], []), (sxE0, [], [], ([], .ofNat 0))),
  ((34, 10, 2), ([(0, .ofNat 0), (7, .ofNat 0)], [1], []), (sxE0, [], [], ([], .ofNat 0))),
  ((39, 10, 0), ([(0, .ofNat 0), (1, .ofNat 0), (9, .ofNat 0)], [0, 1], []), (sxE0, [], [], ([], .ofNat 0))),
  ((8, 2, 0), ([(5, .ofNat 1), (0, .ofNat 0), (11, .ofNat 0)], [], []), (sxE0, [], [], ([], .ofNat 0))),
  ((48, 10, 3), ([(0, .ofNat 0), (0, .ofNat 25)], [0, 1], []), (sxE0, [], [], ([], .ofNat 0))),
  ((8, 2, 0), ([(5, .ofNat 1), (0, .ofNat 1), (11, .ofNat 0)], [], []), (sxE0, [], [], ([], .ofNat 0))),
  ((8, 2, 0), ([(5, .ofNat 1), (0, .ofNat 0), (11, .ofNat 0)], [], []), (sxE0, [], [], ([], .ofNat 0)))]
theorem sxvI254 : (sx_exec sxRT [sxI253, sxI235, sxI64, sxI223] [] sxhI254 257 0 sxI254.2.2.1 (sx_argl 0 sxI254.2.2.2.1) [] [] sxjI254).isSome = true := by decide +kernel
theorem sxmI254 {PF : Nat → List Int → List (Nat → Int) → Prop} {l : Launch} : sx_met PF sxRT sxMy sxMc sxML sxMr sxTK l sxI254 := by
  obtain ⟨its2, hk⟩ := Option.isSome_iff_exists.mp sxvI254
  exact sx_met_of (h := sxhI254) sxTK_ok (sxTK2 sxksX9_ok) sxt_X9_readsTest sxFW_ok (sx_cons (sxmI253) (sx_cons (sxmI235) (sx_cons (sxmI64) (sx_cons (sxmI223) sx_nil)))) (fun L h => by cases h) rfl (by decide +kernel) (by decide) rfl ⟨rfl, rfl, rfl, rfl⟩ hk
def sxI255 : sxI := (237, (22, 556), ([(.ofNat 0, .ofNat 0), (.ofNat 0, .ofNat 0), (.ofNat 7, .ofNat 7), (.ofNat 0, .ofNat 400)], [4, 1], 0, [], [], [((0, 0), (0, .ofNat 2), (2, 1, .ofNat 0)), ((0, 1), (0, .ofNat 5), (0, 3, .ofNat 0))], []), [(2, 0, .ofNat 0), (0, 1, .ofNat 0), (0, 2, .ofNat 0)], [(1, 2, 6), (4, 3, 5), (5, 0, 400)], [(([(.ofNat 0, .ofNat 400)], [], 0, [], [], [((0, 0), (0, .ofNat 2), (2, 1, .ofNat 0)), ((0, 1), (0, .ofNat 5), (0, 4, .ofNat 0))], []), some (0, 0, .ofNat 0)), (([(.ofNat 0, .ofNat 400)], [], 0, [], [], [((0, 0), (0, .ofNat 2), (2, 1, .ofNat 0)), ((0, 1), (0, .ofNat 5), (0, 4, .ofNat 0))], []), some (0, 0, .ofNat 1))])
def sxhI255 : sxH := (sxk_X9_readsWithin, sxgX9, sxpX9, sxcX9, (sxkiX9, sxklX9, sxksX9), (3, sxI255.2.2.2.2.1, sxI255.2.2.2.2.2, 1), (4, 2, 0), (22, 556))
def sxjI255 : List sxJ := [((4, 10, 0), ([(0, .ofNat 0), (3, .ofNat 0)], [1], []), (sxE0, [], [], ([], .ofNat 0))),
  ((36, 10, 1), ([(0, .ofNat 0), (2, .ofNat 0), (4, .ofNat 0)], [0, 1], []), (sxE0, [], [], ([], .ofNat 0))),
  ((43, 11, 0), ([(6, .ofNat 0)], [], []), (sxE0, [], [], ([], .ofNat 0))),
  ((69, 10, 0), ([(0, .ofNat 0), (6, .ofNat 0)], [1], []), (sxE0, [], [], ([], .ofNat 0))),
  ((73, 11, 1), ([(8, .ofNat 0)], [], []), (sxE0, [], [], ([], .ofNat 0))),
  ((61, 10, 2), ([(0, .ofNat 0), (0, .ofNat 0)], [1], []), (sxE0, [], [], ([], .ofNat 0))),
  ((64, 11, 0), ([(6, .ofNat 0)], [], []), (sxE0, [], [], ([], .ofNat 0)))]
theorem sxvI255 : (sx_exec sxRT [sxI64, sxI254, sxI78] [] sxhI255 84 0 sxI255.2.2.1 (sx_argl 0 sxI255.2.2.2.1) [] [] sxjI255).isSome = true := by decide +kernel
theorem sxmI255 {PF : Nat → List Int → List (Nat → Int) → Prop} {l : Launch} : sx_met PF sxRT sxMy sxMc sxML sxMr sxTK l sxI255 := by
  obtain ⟨its2, hk⟩ := Option.isSome_iff_exists.mp sxvI255
  exact sx_met_of (h := sxhI255) sxTK_ok (sxTK2 sxksX9_ok) sxt_X9_readsWithin sxFW_ok (sx_cons (sxmI64) (sx_cons (sxmI254) (sx_cons (sxmI78) sx_nil))) (fun L h => by cases h) rfl (by decide +kernel) (by decide) rfl ⟨rfl, rfl, rfl, rfl⟩ hk
def sxI256 : sxI := (237, (20, 510), ([(.ofNat 0, .ofNat 0), (.ofNat 1, .ofNat 1), (.ofNat 7, .ofNat 7), (.ofNat 0, .ofNat 400)], [4, 1], 0, [], [], [((0, 0), (0, .ofNat 2), (2, 1, .ofNat 0)), ((0, 1), (0, .ofNat 5), (0, 3, .ofNat 0))], []), [(2, 0, .ofNat 0), (0, 1, .ofNat 0), (0, 2, .ofNat 0)], [(1, 2, 6), (4, 3, 5), (5, 0, 400)], [(([(.ofNat 0, .ofNat 400)], [], 0, [], [], [((0, 0), (0, .ofNat 2), (2, 1, .ofNat 0)), ((0, 1), (0, .ofNat 5), (0, 4, .ofNat 0))], []), some (0, 0, .ofNat 0)), (([(.ofNat 0, .ofNat 400)], [], 0, [], [], [((0, 0), (0, .ofNat 2), (2, 1, .ofNat 0)), ((0, 1), (0, .ofNat 5), (0, 4, .ofNat 0))], []), some (0, 0, .ofNat 1))])
def sxhI256 : sxH := (sxk_X9_readsWithin, sxgX9, sxpX9, sxcX9, (sxkiX9, sxklX9, sxksX9), (3, sxI256.2.2.2.2.1, sxI256.2.2.2.2.2, 1), (4, 2, 0), (20, 510))
def sxjI256 : List sxJ := [((4, 10, 0), ([(0, .ofNat 0), (3, .ofNat 0)], [1], []), (sxE0, [], [], ([], .ofNat 0))),
  ((13, 10, 1), ([(0, .ofNat 0), (2, .ofNat 0), (4, .ofNat 0)], [0, 1], []), (sxE0, [], [], ([], .ofNat 0))),
  ((33, 11, 0), ([(5, .ofNat 0)], [], []), (sxE0, [], [], ([], .ofNat 0))),
  ((22, 10, 2), ([(0, .ofNat 0), (0, .ofNat 23)], [0, 1], []), (sxE0, [], [], ([], .ofNat 0))),
  ((33, 11, 1), ([(5, .ofNat 0)], [], []), (sxE0, [], [], ([], .ofNat 0))),
  ((33, 11, 0), ([(5, .ofNat 0)], [], []), (sxE0, [], [], ([], .ofNat 0)))]
theorem sxvI256 : (sx_exec sxRT [sxI64, sxI252, sxI223] [] sxhI256 78 0 sxI256.2.2.1 (sx_argl 0 sxI256.2.2.2.1) [] [] sxjI256).isSome = true := by decide +kernel
theorem sxmI256 {PF : Nat → List Int → List (Nat → Int) → Prop} {l : Launch} : sx_met PF sxRT sxMy sxMc sxML sxMr sxTK l sxI256 := by
  obtain ⟨its2, hk⟩ := Option.isSome_iff_exists.mp sxvI256
  exact sx_met_of (h := sxhI256) sxTK_ok (sxTK2 sxksX9_ok) sxt_X9_readsWithin sxFW_ok (sx_cons (sxmI64) (sx_cons (sxmI252) (sx_cons (sxmI223) sx_nil))) (fun L h => by cases h) rfl (by decide +kernel) (by decide) rfl ⟨rfl, rfl, rfl, rfl⟩ hk
def sxI257 : sxI := (232, (23, 578), ([(.ofNat 0, .ofNat 0), (.ofNat 6, .ofNat 6), (.ofNat 0, .ofNat 400)], [4, 1], 0, [], [], [((0, 0), (0, .ofNat 2), (2, 1, .ofNat 0)), ((0, 1), (0, .ofNat 5), (0, 2, .ofNat 0))], []), [(2, 0, .ofNat 0), (0, 1, .ofNat 0)], [(1, 2, 6), (4, 3, 5), (5, 0, 400)], [(([(.ofNat 0, .ofNat 400)], [], 0, [], [], [((0, 0), (0, .ofNat 2), (2, 1, .ofNat 0)), ((0, 1), (0, .ofNat 5), (0, 3, .ofNat 0))], []), some (0, 0, .ofNat 0)), (([(.ofNat 0, .ofNat 400)], [], 0, [], [], [((0, 0), (0, .ofNat 2), (2, 1, .ofNat 0)), ((0, 1), (0, .ofNat 5), (0, 3, .ofNat 0))], []), some (0, 0, .ofNat 1))])
def sxhI257 : sxH := (sxk_X9_readsFact, sxgX9, sxpX9, sxcX9, (sxkiX9, sxklX9, sxksX9), (4, sxI257.2.2.2.2.1, sxI257.2.2.2.2.2, 1), (3, 2, 0), (23, 578))
def sxjI257 : List sxJ := [((6, 10, 0), ([(0, .ofNat 0)], [1, 2], []), (sxE0, [], [], ([], .ofNat 0))),
  ((53, 10, 1), ([(0, .ofNat 0), (2, .ofNat 0)], [0, 1], []), (sxE0, [], [], ([], .ofNat 0))),
  ((60, 11, 0), ([(5, .ofNat 0)], [], []), (sxE0, [], [], ([], .ofNat 0))),
  ((68, 10, 2), ([(0, .ofNat 0), (6, .ofNat 0)], [], []), (sxE0, [], [], ([], .ofNat 0))),
  ((118, 10, 3), ([(0, .ofNat 0), (5, .ofNat 0)], [1], []), (sxE0, [], [], ([], .ofNat 0))),
  ((122, 10, 1), ([(0, .ofNat 0), (9, .ofNat 0)], [0, 1], []), (sxE0, [], [], ([], .ofNat 0))),
  ((141, 11, 0), ([(10, .ofNat 0)], [], []), (sxE0, [], [], ([], .ofNat 0))),
  ((130, 10, 4), ([(0, .ofNat 0), (7, .ofNat 0)], [0, 1], []), (sxE0, [], [], ([], .ofNat 0))),
  ((141, 11, 1), ([(10, .ofNat 0)], [], []), (sxE0, [], [], ([], .ofNat 0))),
  ((141, 11, 0), ([(10, .ofNat 0)], [], []), (sxE0, [], [], ([], .ofNat 0))),
  ((100, 10, 5), ([(0, .ofNat 0), (0, .ofNat 3)], [1], []), (sxE0, [], [], ([], .ofNat 0))),
  ((103, 11, 0), ([(5, .ofNat 0)], [], []), (sxE0, [], [], ([], .ofNat 0))),
  ((82, 10, 5), ([(0, .ofNat 0), (0, .ofNat 0)], [1], []), (sxE0, [], [], ([], .ofNat 0))),
  ((85, 11, 0), ([(5, .ofNat 0)], [], []), (sxE0, [], [], ([], .ofNat 0))),
  ((37, 10, 6), ([(0, .ofNat 0), (3, .ofNat 0), (1, .ofNat 1), (2, .ofNat 0)], [0, 1], []), (sxE0, [], [], ([], .ofNat 0))),
  ((51, 11, 0), ([(5, .ofNat 0)], [], []), (sxE0, [], [], ([], .ofNat 0))),
  ((51, 11, 1), ([(5, .ofNat 0)], [], []), (sxE0, [], [], ([], .ofNat 0))),
  ((37, 10, 7), ([(0, .ofNat 0), (3, .ofNat 0), (1, .ofNat 1), (2, .ofNat 0)], [0, 1], []), (sxE0, [], [], ([], .ofNat 0))),
  ((51, 11, 0), ([(4, .ofNat 0)], [], []), (sxE0, [], [], ([], .ofNat 0))),
  ((51, 11, 1), ([(4, .ofNat 0)], [], []), (sxE0, [], [], ([], .ofNat 0)))]
theorem sxvI257 : (sx_exec sxRT [sxI77, sxI231, sxI236, sxI64, sxI223, sxI78, sxI255, sxI256] [] sxhI257 164 0 sxI257.2.2.1 (sx_argl 0 sxI257.2.2.2.1) [] [] sxjI257).isSome = true := by decide +kernel
theorem sxmI257 {PF : Nat → List Int → List (Nat → Int) → Prop} {l : Launch} : sx_met PF sxRT sxMy sxMc sxML sxMr sxTK l sxI257 := by
  obtain ⟨its2, hk⟩ := Option.isSome_iff_exists.mp sxvI257
  exact sx_met_of (h := sxhI257) sxTK_ok (sxTK2 sxksX9_ok) sxt_X9_readsFact sxFW_ok (sx_cons (sxmI77) (sx_cons (sxmI231) (sx_cons (sxmI236) (sx_cons (sxmI64) (sx_cons (sxmI223) (sx_cons (sxmI78) (sx_cons (sxmI255) (sx_cons (sxmI256) sx_nil)))))))) (fun L h => by cases h) rfl (by decide +kernel) (by decide) rfl ⟨rfl, rfl, rfl, rfl⟩ hk
