def sxI288 : sxI := (233, (48, 1147), ([(.ofNat 0, .ofNat 0), (.ofNat 0, .ofNat 0), (.ofNat 0, .ofNat 400)], [4, 1], 0, [], [], [((0, 0), (0, .ofNat 2), (2, 1, .ofNat 0)), ((0, 1), (0, .ofNat 5), (0, 2, .ofNat 0))], []), [(2, 0, .ofNat 0), (0, 1, .ofNat 0)], [(1, 2, 6), (4, 3, 5), (5, 0, 400)], [(([(.ofNat 0, .ofNat 0), (.ofNat 0, .ofNat 400)], [], 0, [], [], [((0, 0), (0, .ofNat 2), (2, 1, .ofNat 0)), ((0, 1), (0, .ofNat 5), (0, 4, .ofNat 0))], []), some (0, 3, .ofNat 0)), (([(.ofNat 1, .ofNat 1), (.ofNat 0, .ofNat 400)], [], 0, [], [], [((0, 0), (0, .ofNat 2), (2, 1, .ofNat 0)), ((0, 1), (0, .ofNat 5), (0, 4, .ofNat 0))], []), some (0, 3, .ofNat 0))])
def sxhI288 : sxH := (sxk_X9_readsPart, sxgX9, sxpX9, sxcX9, (sxkiX9, sxklX9, sxksX9), (4, sxI288.2.2.2.2.1, sxI288.2.2.2.2.2, 1), (3, 2, 0), (48, 1147))
def sxjI288 : List sxJ := [((2, 10, 0), ([(0, .ofNat 0), (1, .ofNat 0), (2, .ofNat 0)], [0, 1], []), (sxE0, [], [], ([], .ofNat 0))),
  ((8, 0, 0), ([(0, .ofNat 0), (0, .ofNat 0)], [], []), (([(.ofNat 0, .ofNat 0), (.ofNat 0, .ofNat 0)], [], 0, [], [], [((0, 0), (0, .ofNat 2), (2, 1, .ofNat 0)), ((0, 1), (0, .ofNat 5), (0, 3, .ofNat 0))], []), [(3, (0, 4, .ofNat 0)), (2, (0, 5, .ofNat 0)), (0, (2, 0, .ofNat 0)), (1, (0, 1, .ofNat 0))], [], ([(4, .negSucc 0)], .ofNat 0))),
  ((67, 11, 0), ([(5, .ofNat 0), (3, .ofNat 0)], [], []), (sxE0, [], [], ([], .ofNat 0))),
  ((8, 0, 0), ([(0, .ofNat 0), (0, .ofNat 1), (3, .ofNat 0)], [], []), (([(.ofNat 0, .ofNat 60), (.ofNat 0, .ofNat 1), (.ofNat 0, .ofNat 400)], [], 0, [], [], [((0, 0), (0, .ofNat 2), (2, 1, .ofNat 0)), ((0, 1), (0, .ofNat 5), (0, 6, .ofNat 0))], []), [(3, (0, 4, .ofNat 0)), (2, (0, 5, .ofNat 0)), (0, (2, 0, .ofNat 0)), (1, (0, 1, .ofNat 0))], [], ([(4, .negSucc 0)], .ofNat 60))),
  ((67, 11, 0), ([(5, .ofNat 0), (6, .ofNat 0)], [], []), (sxE0, [], [], ([], .ofNat 0))),
  ((67, 11, 1), ([(5, .ofNat 0), (6, .ofNat 0)], [], []), (sxE0, [], [], ([], .ofNat 0))),
  ((24, 10, 1), ([(0, .ofNat 0)], [1, 2], []), (sxE0, [], [], ([], .ofNat 0))),
  ((67, 11, 1), ([(5, .ofNat 0), (6, .ofNat 0)], [], []), (sxE0, [], [], ([], .ofNat 0))),
  ((34, 10, 2), ([(0, .ofNat 0), (6, .ofNat 0)], [1], []), (sxE0, [], [], ([], .ofNat 0))),
  ((39, 10, 0), ([(0, .ofNat 0), (1, .ofNat 0), (8, .ofNat 0)], [0, 1], []), (sxE0, [], [], ([], .ofNat 0))),
  ((8, 2, 0), ([(4, .ofNat 1), (0, .ofNat 0), (9, .ofNat 0)], [], []), (sxE0, [], [], ([], .ofNat 0))),
  ((48, 10, 3), ([(0, .ofNat 0), (0, .ofNat 24)], [0, 1], []), (sxE0, [], [], ([], .ofNat 0))),
  ((8, 2, 0), ([(4, .ofNat 1), (0, .ofNat 1), (9, .ofNat 0)], [], []), (sxE0, [], [], ([], .ofNat 0))),
  ((8, 2, 0), ([(4, .ofNat 1), (0, .ofNat 0), (9, .ofNat 0)], [], []), (sxE0, [], [], ([], .ofNat 0)))]
theorem sxvI288 : (sx_exec sxRT [sxI287, sxI77, sxI64, sxI223] [] sxhI288 257 0 sxI288.2.2.1 (sx_argl 0 sxI288.2.2.2.1) [] [] sxjI288).isSome = true := by decide +kernel
theorem sxmI288 {PF : Nat → List Int → List (Nat → Int) → Prop} {l : Launch} : sx_met PF sxRT sxMy sxMc sxML sxMr sxTK l sxI288 := by
  obtain ⟨its2, hk⟩ := Option.isSome_iff_exists.mp sxvI288
  exact sx_met_of (h := sxhI288) sxTK_ok (sxTK2 sxksX9_ok) sxt_X9_readsPart sxFW_ok (sx_cons (sxmI287) (sx_cons (sxmI77) (sx_cons (sxmI64) (sx_cons (sxmI223) sx_nil)))) (fun L h => by cases h) rfl (by decide +kernel) (by decide) rfl ⟨rfl, rfl, rfl, rfl⟩ hk
def sxI289 : sxI := (235, (49, 1170), ([(.ofNat 0, .ofNat 0), (.ofNat 0, .ofNat 0), (.ofNat 0, .ofNat 400)], [4, 1], 0, [], [], [((0, 0), (0, .ofNat 2), (2, 1, .ofNat 0)), ((0, 1), (0, .ofNat 5), (0, 2, .ofNat 0))], []), [(2, 0, .ofNat 0), (0, 1, .ofNat 0)], [(1, 2, 6), (4, 3, 5), (5, 0, 400)], [(([(.ofNat 0, .ofNat 0), (.ofNat 0, .ofNat 400)], [], 0, [], [], [((0, 0), (0, .ofNat 2), (2, 1, .ofNat 0)), ((0, 1), (0, .ofNat 5), (0, 4, .ofNat 0))], []), some (0, 3, .ofNat 0)), (([(.ofNat 1, .ofNat 1), (.ofNat 0, .ofNat 400)], [], 0, [], [], [((0, 0), (0, .ofNat 2), (2, 1, .ofNat 0)), ((0, 1), (0, .ofNat 5), (0, 4, .ofNat 0))], []), some (0, 3, .ofNat 0))])
def sxhI289 : sxH := (sxk_X9_readsTest, sxgX9, sxpX9, sxcX9, (sxkiX9, sxklX9, sxksX9), (4, sxI289.2.2.2.2.1, sxI289.2.2.2.2.2, 1), (3, 2, 0), (49, 1170))
def sxjI289 : List sxJ := [((2, 10, 0), ([(0, .ofNat 0), (1, .ofNat 0), (2, .ofNat 0)], [0, 1], []), (sxE0, [], [], ([], .ofNat 0))),
  ((8, 0, 0), ([(0, .ofNat 0), (3, .ofNat 0)], [], []), (([(.ofNat 0, .ofNat 0), (.ofNat 0, .ofNat 0)], [], 0, [([(6, .ofNat 1), (3, .negSucc 0)], .ofNat 0), ([(3, .ofNat 1), (6, .negSucc 0)], .ofNat 0)], [], [((0, 0), (0, .ofNat 2), (2, 1, .ofNat 0)), ((0, 1), (0, .ofNat 5), (0, 4, .ofNat 0))], []), [(3, (0, 5, .ofNat 0)), (2, (0, 6, .ofNat 0)), (0, (2, 0, .ofNat 0)), (1, (0, 1, .ofNat 0))], [], ([(5, .negSucc 0)], .ofNat 0))),
  ((67, 11, 0), ([(6, .ofNat 0), (4, .ofNat 0)], [], []), (sxE0, [], [], ([], .ofNat 0))),
  ((8, 0, 0), ([(0, .ofNat 0), (3, .ofNat 0), (4, .ofNat 0)], [], []), (([(.ofNat 0, .ofNat 60), (.ofNat 0, .ofNat 1), (.ofNat 0, .ofNat 400)], [], 0, [([(3, .ofNat 1), (6, .negSucc 0)], .ofNat 0)], [], [((0, 0), (0, .ofNat 2), (2, 1, .ofNat 0)), ((0, 1), (0, .ofNat 5), (0, 7, .ofNat 0))], []), [(3, (0, 5, .ofNat 0)), (2, (0, 6, .ofNat 0)), (0, (2, 0, .ofNat 0)), (1, (0, 1, .ofNat 0))], [], ([(5, .negSucc 0)], .ofNat 60))),
  ((67, 11, 0), ([(6, .ofNat 0), (7, .ofNat 0)], [], []), (sxE0, [], [], ([], .ofNat 0))),
  ((67, 11, 1), ([(6, .ofNat 0), (7, .ofNat 0)], [], []), (sxE0, [], [], ([], .ofNat 0))),
  ((24, 10, 1), ([(0, .ofNat 0)], [1, 2], []), (sxE0, [], [], ([], .ofNat 0))),
  ((67, 11, 1), ([(6, .ofNat 0), (7, .ofNat 0)], [], []), (sxE0, [], [], ([], .ofNat 0))),
  ((34, 10, 2), ([(0, .ofNat 0), (7, .ofNat 0)], [1], []), (sxE0, [], [], ([], .ofNat 0))),
  ((39, 10, 0), ([(0, .ofNat 0), (1, .ofNat 0), (9, .ofNat 0)], [0, 1], []), (sxE0, [], [], ([], .ofNat 0))),
  ((8, 2, 0), ([(5, .ofNat 1), (0, .ofNat 0), (11, .ofNat 0)], [], []), (sxE0, [], [], ([], .ofNat 0))),
  ((48, 10, 3), ([(0, .ofNat 0), (0, .ofNat 25)], [0, 1], []), (sxE0, [], [], ([], .ofNat 0))),
  ((8, 2, 0), ([(5, .ofNat 1), (0, .ofNat 1), (11, .ofNat 0)], [], []), (sxE0, [], [], ([], .ofNat 0))),
  ((8, 2, 0), ([(5, .ofNat 1), (0, .ofNat 0), (11, .ofNat 0)], [], []), (sxE0, [], [], ([], .ofNat 0)))]
theorem sxvI289 : (sx_exec sxRT [sxI288, sxI235, sxI64, sxI223] [] sxhI289 257 0 sxI289.2.2.1 (sx_argl 0 sxI289.2.2.2.1) [] [] sxjI289).isSome = true := by decide +kernel
theorem sxmI289 {PF : Nat → List Int → List (Nat → Int) → Prop} {l : Launch} : sx_met PF sxRT sxMy sxMc sxML sxMr sxTK l sxI289 := by
  obtain ⟨its2, hk⟩ := Option.isSome_iff_exists.mp sxvI289
  exact sx_met_of (h := sxhI289) sxTK_ok (sxTK2 sxksX9_ok) sxt_X9_readsTest sxFW_ok (sx_cons (sxmI288) (sx_cons (sxmI235) (sx_cons (sxmI64) (sx_cons (sxmI223) sx_nil)))) (fun L h => by cases h) rfl (by decide +kernel) (by decide) rfl ⟨rfl, rfl, rfl, rfl⟩ hk
def sxI290 : sxI := (231, (50, 1193), ([(.ofNat 0, .ofNat 0), (.ofNat 0, .ofNat 0), (.ofNat 0, .ofNat 400)], [4, 1], 0, [], [], [((0, 0), (0, .ofNat 2), (2, 1, .ofNat 0)), ((0, 1), (0, .ofNat 5), (0, 2, .ofNat 0))], []), [(2, 0, .ofNat 0), (0, 1, .ofNat 0)], [(1, 2, 6), (4, 3, 5), (5, 0, 400), (6, 0, 2)], [(([(.ofNat 0, .ofNat 400)], [], 0, [], [], [((0, 0), (0, .ofNat 2), (2, 1, .ofNat 0)), ((0, 1), (0, .ofNat 5), (0, 3, .ofNat 0))], []), some (0, 0, .ofNat 0)), (([(.ofNat 0, .ofNat 400)], [], 0, [], [], [((0, 0), (0, .ofNat 2), (2, 1, .ofNat 0)), ((0, 1), (0, .ofNat 5), (0, 3, .ofNat 0))], []), some (0, 0, .ofNat 1))])
def sxhI290 : sxH := (sxk_X9_readsClause, sxgX9, sxpX9, sxcX9, (sxkiX9, sxklX9, sxksX9), (2, sxI290.2.2.2.2.1, sxI290.2.2.2.2.2, 1), (3, 2, 0), (50, 1193))
def sxjI290 : List sxJ := [((6, 10, 0), ([(0, .ofNat 0)], [1, 2], []), (sxE0, [], [], ([], .ofNat 0))),
  ((17, 10, 1), ([(0, .ofNat 0), (0, .ofNat 0)], [1], []), (sxE0, [], [], ([], .ofNat 0))),
  ((20, 11, 0), ([(2, .ofNat 0)], [], []), (sxE0, [], [], ([], .ofNat 0))),
  ((40, 10, 2), ([(0, .ofNat 0), (2, .ofNat 0)], [1], []), (sxE0, [], [], ([], .ofNat 0))),
  ((44, 10, 3), ([(0, .ofNat 0), (4, .ofNat 0)], [0, 1], []), (sxE0, [], [], ([], .ofNat 0))),
  ((51, 11, 0), ([(5, .ofNat 0)], [], []), (sxE0, [], [], ([], .ofNat 0))),
  ((70, 10, 4), ([(0, .ofNat 0)], [1, 4], []), (sxE0, [], [], ([], .ofNat 0))),
  ((108, 11, 1), ([(5, .ofNat 0)], [], []), (sxE0, [], [], ([], .ofNat 0))),
  ((80, 10, 2), ([(0, .ofNat 0), (5, .ofNat 0)], [1], []), (sxE0, [], [], ([], .ofNat 0))),
  ((85, 10, 5), ([(0, .ofNat 0), (0, .ofNat 0), (9, .ofNat 0)], [0, 1], []), (sxE0, [], [], ([], .ofNat 0))),
  ((92, 11, 0), ([(11, .ofNat 0)], [], []), (sxE0, [], [], ([], .ofNat 0))),
  ((108, 11, 1), ([(11, .ofNat 0)], [], []), (sxE0, [], [], ([], .ofNat 0)))]
theorem sxvI290 : (sx_exec sxRT [sxI219, sxI78, sxI64, sxI231, sxI235, sxI289] [] sxhI290 133 0 sxI290.2.2.1 (sx_argl 0 sxI290.2.2.2.1) [] [] sxjI290).isSome = true := by decide +kernel
theorem sxmI290 {PF : Nat → List Int → List (Nat → Int) → Prop} {l : Launch} : sx_met PF sxRT sxMy sxMc sxML sxMr sxTK l sxI290 := by
  obtain ⟨its2, hk⟩ := Option.isSome_iff_exists.mp sxvI290
  exact sx_met_of (h := sxhI290) sxTK_ok (sxTK2 sxksX9_ok) sxt_X9_readsClause sxFW_ok (sx_cons (sxmI219) (sx_cons (sxmI78) (sx_cons (sxmI64) (sx_cons (sxmI231) (sx_cons (sxmI235) (sx_cons (sxmI289) sx_nil)))))) (fun L h => by cases h) rfl (by decide +kernel) (by decide) rfl ⟨rfl, rfl, rfl, rfl⟩ hk
def sxI291 : sxI := (231, (50, 1193), ([(.ofNat 0, .ofNat 0), (.ofNat 0, .ofNat 1), (.ofNat 0, .ofNat 400)], [4, 1], 0, [], [], [((0, 0), (0, .ofNat 2), (2, 1, .ofNat 0)), ((0, 1), (0, .ofNat 5), (0, 2, .ofNat 0))], []), [(2, 0, .ofNat 0), (0, 1, .ofNat 0)], [(1, 2, 6), (4, 3, 5), (5, 0, 400), (6, 0, 4)], [(([(.ofNat 0, .ofNat 400)], [], 0, [], [], [((0, 0), (0, .ofNat 2), (2, 1, .ofNat 0)), ((0, 1), (0, .ofNat 5), (0, 3, .ofNat 0))], []), some (0, 0, .ofNat 0)), (([(.ofNat 0, .ofNat 400)], [], 0, [], [], [((0, 0), (0, .ofNat 2), (2, 1, .ofNat 0)), ((0, 1), (0, .ofNat 5), (0, 3, .ofNat 0))], []), some (0, 0, .ofNat 1))])
def sxhI291 : sxH := (sxk_X9_readsClause, sxgX9, sxpX9, sxcX9, (sxkiX9, sxklX9, sxksX9), (2, sxI291.2.2.2.2.1, sxI291.2.2.2.2.2, 1), (3, 2, 0), (50, 1193))
def sxjI291 : List sxJ := [((6, 10, 0), ([(0, .ofNat 0)], [1, 2], []), (sxE0, [], [], ([], .ofNat 0))),
  ((17, 10, 1), ([(0, .ofNat 0), (0, .ofNat 0)], [1], []), (sxE0, [], [], ([], .ofNat 0))),
  ((20, 11, 0), ([(2, .ofNat 0)], [], []), (sxE0, [], [], ([], .ofNat 0))),
  ((40, 10, 2), ([(0, .ofNat 0), (2, .ofNat 0)], [1], []), (sxE0, [], [], ([], .ofNat 0))),
  ((44, 10, 3), ([(0, .ofNat 0), (4, .ofNat 0)], [0, 1], []), (sxE0, [], [], ([], .ofNat 0))),
  ((51, 11, 0), ([(5, .ofNat 0)], [], []), (sxE0, [], [], ([], .ofNat 0))),
  ((70, 10, 4), ([(0, .ofNat 0)], [1, 4], []), (sxE0, [], [], ([], .ofNat 0))),
  ((108, 11, 1), ([(5, .ofNat 0)], [], []), (sxE0, [], [], ([], .ofNat 0))),
  ((80, 10, 2), ([(0, .ofNat 0), (5, .ofNat 0)], [1], []), (sxE0, [], [], ([], .ofNat 0))),
  ((85, 10, 5), ([(0, .ofNat 0), (0, .ofNat 0), (9, .ofNat 0)], [0, 1], []), (sxE0, [], [], ([], .ofNat 0))),
  ((92, 11, 0), ([(11, .ofNat 0)], [], []), (sxE0, [], [], ([], .ofNat 0))),
  ((108, 11, 1), ([(11, .ofNat 0)], [], []), (sxE0, [], [], ([], .ofNat 0)))]
theorem sxvI291 : (sx_exec sxRT [sxI219, sxI78, sxI64, sxI231, sxI235, sxI289] [] sxhI291 133 0 sxI291.2.2.1 (sx_argl 0 sxI291.2.2.2.1) [] [] sxjI291).isSome = true := by decide +kernel
theorem sxmI291 {PF : Nat → List Int → List (Nat → Int) → Prop} {l : Launch} : sx_met PF sxRT sxMy sxMc sxML sxMr sxTK l sxI291 := by
  obtain ⟨its2, hk⟩ := Option.isSome_iff_exists.mp sxvI291
  exact sx_met_of (h := sxhI291) sxTK_ok (sxTK2 sxksX9_ok) sxt_X9_readsClause sxFW_ok (sx_cons (sxmI219) (sx_cons (sxmI78) (sx_cons (sxmI64) (sx_cons (sxmI231) (sx_cons (sxmI235) (sx_cons (sxmI289) sx_nil)))))) (fun L h => by cases h) rfl (by decide +kernel) (by decide) rfl ⟨rfl, rfl, rfl, rfl⟩ hk
def sxI292 : sxI := (231, (50, 1193), ([(.ofNat 0, .ofNat 0), (.ofNat 0, .ofNat 6), (.ofNat 0, .ofNat 400)], [4, 1], 0, [], [], [((0, 0), (0, .ofNat 2), (2, 1, .ofNat 0)), ((0, 1), (0, .ofNat 5), (0, 2, .ofNat 0))], []), [(2, 0, .ofNat 0), (0, 1, .ofNat 0)], [(1, 2, 6), (4, 3, 5), (5, 0, 400), (6, 0, 14)], [(([(.ofNat 0, .ofNat 400)], [], 0, [], [], [((0, 0), (0, .ofNat 2), (2, 1, .ofNat 0)), ((0, 1), (0, .ofNat 5), (0, 3, .ofNat 0))], []), some (0, 0, .ofNat 0)), (([(.ofNat 0, .ofNat 400)], [], 0, [], [], [((0, 0), (0, .ofNat 2), (2, 1, .ofNat 0)), ((0, 1), (0, .ofNat 5), (0, 3, .ofNat 0))], []), some (0, 0, .ofNat 1))])
def sxhI292 : sxH := (sxk_X9_readsClause, sxgX9, sxpX9, sxcX9, (sxkiX9, sxklX9, sxksX9), (2, sxI292.2.2.2.2.1, sxI292.2.2.2.2.2, 1), (3, 2, 0), (50, 1193))
def sxjI292 : List sxJ := [((6, 10, 0), ([(0, .ofNat 0)], [1, 2], []), (sxE0, [], [], ([], .ofNat 0))),
  ((17, 10, 1), ([(0, .ofNat 0), (0, .ofNat 0)], [1], []), (sxE0, [], [], ([], .ofNat 0))),
  ((20, 11, 0), ([(2, .ofNat 0)], [], []), (sxE0, [], [], ([], .ofNat 0))),
  ((40, 10, 2), ([(0, .ofNat 0), (2, .ofNat 0)], [1], []), (sxE0, [], [], ([], .ofNat 0))),
  ((44, 10, 3), ([(0, .ofNat 0), (4, .ofNat 0)], [0, 1], []), (sxE0, [], [], ([], .ofNat 0))),
  ((51, 11, 0), ([(5, .ofNat 0)], [], []), (sxE0, [], [], ([], .ofNat 0))),
  ((70, 10, 4), ([(0, .ofNat 0)], [1, 4], []), (sxE0, [], [], ([], .ofNat 0))),
  ((108, 11, 1), ([(5, .ofNat 0)], [], []), (sxE0, [], [], ([], .ofNat 0))),
  ((80, 10, 2), ([(0, .ofNat 0), (5, .ofNat 0)], [1], []), (sxE0, [], [], ([], .ofNat 0))),
  ((85, 10, 5), ([(0, .ofNat 0), (0, .ofNat 0), (9, .ofNat 0)], [0, 1], []), (sxE0, [], [], ([], .ofNat 0))),
  ((92, 11, 0), ([(11, .ofNat 0)], [], []), (sxE0, [], [], ([], .ofNat 0))),
  ((108, 11, 1), ([(11, .ofNat 0)], [], []), (sxE0, [], [], ([], .ofNat 0)))]
theorem sxvI292 : (sx_exec sxRT [sxI219, sxI78, sxI64, sxI231, sxI235, sxI289] [] sxhI292 133 0 sxI292.2.2.1 (sx_argl 0 sxI292.2.2.2.1) [] [] sxjI292).isSome = true := by decide +kernel
theorem sxmI292 {PF : Nat → List Int → List (Nat → Int) → Prop} {l : Launch} : sx_met PF sxRT sxMy sxMc sxML sxMr sxTK l sxI292 := by
  obtain ⟨its2, hk⟩ := Option.isSome_iff_exists.mp sxvI292
  exact sx_met_of (h := sxhI292) sxTK_ok (sxTK2 sxksX9_ok) sxt_X9_readsClause sxFW_ok (sx_cons (sxmI219) (sx_cons (sxmI78) (sx_cons (sxmI64) (sx_cons (sxmI231) (sx_cons (sxmI235) (sx_cons (sxmI289) sx_nil)))))) (fun L h => by cases h) rfl (by decide +kernel) (by decide) rfl ⟨rfl, rfl, rfl, rfl⟩ hk
def sxI293 : sxI := (231, (50, 1193), ([(.ofNat 0, .ofNat 0), (.ofNat 0, .ofNat 7), (.ofNat 0, .ofNat 400)], [4, 1], 0, [], [], [((0, 0), (0, .ofNat 2), (2, 1, .ofNat 0)), ((0, 1), (0, .ofNat 5), (0, 2, .ofNat 0))], []), [(2, 0, .ofNat 0), (0, 1, .ofNat 0)], [(1, 2, 6), (4, 3, 5), (5, 0, 400), (6, 0, 16)], [(([(.ofNat 0, .ofNat 400)], [], 0, [], [], [((0, 0), (0, .ofNat 2), (2, 1, .ofNat 0)), ((0, 1), (0, .ofNat 5), (0, 3, .ofNat 0))], []), some (0, 0, .ofNat 0)), (([(.ofNat 0, .ofNat 400)], [], 0, [], [], [((0, 0), (0, .ofNat 2), (2, 1, .ofNat 0)), ((0, 1), (0, .ofNat 5), (0, 3, .ofNat 0))], []), some (0, 0, .ofNat 1))])
def sxhI293 : sxH := (sxk_X9_readsClause, sxgX9, sxpX9, sxcX9, (sxkiX9, sxklX9, sxksX9), (2, sxI293.2.2.2.2.1, sxI293.2.2.2.2.2, 1), (3, 2, 0), (50, 1193))
def sxjI293 : List sxJ := [((6, 10, 0), ([(0, .ofNat 0)], [1, 2], []), (sxE0, [], [], ([], .ofNat 0))),
  ((17, 10, 1), ([(0, .ofNat 0), (0, .ofNat 0)], [1], []), (sxE0, [], [], ([], .ofNat 0))),
  ((20, 11, 0), ([(2, .ofNat 0)], [], []), (sxE0, [], [], ([], .ofNat 0))),
  ((40, 10, 2), ([(0, .ofNat 0), (2, .ofNat 0)], [1], []), (sxE0, [], [], ([], .ofNat 0))),
  ((44, 10, 3), ([(0, .ofNat 0), (4, .ofNat 0)], [0, 1], []), (sxE0, [], [], ([], .ofNat 0))),
  ((51, 11, 0), ([(5, .ofNat 0)], [], []), (sxE0, [], [], ([], .ofNat 0))),
  ((70, 10, 4), ([(0, .ofNat 0)], [1, 4], []), (sxE0, [], [], ([], .ofNat 0))),
  ((108, 11, 1), ([(5, .ofNat 0)], [], []), (sxE0, [], [], ([], .ofNat 0))),
  ((80, 10, 2), ([(0, .ofNat 0), (5, .ofNat 0)], [1], []), (sxE0, [], [], ([], .ofNat 0))),
  ((85, 10, 5), ([(0, .ofNat 0), (0, .ofNat 0), (9, .ofNat 0)], [0, 1], []), (sxE0, [], [], ([], .ofNat 0))),
  ((92, 11, 0), ([(11, .ofNat 0)], [], []), (sxE0, [], [], ([], .ofNat 0))),
  ((108, 11, 1), ([(11, .ofNat 0)], [], []), (sxE0, [], [], ([], .ofNat 0)))]
theorem sxvI293 : (sx_exec sxRT [sxI219, sxI78, sxI64, sxI231, sxI235, sxI289] [] sxhI293 133 0 sxI293.2.2.1 (sx_argl 0 sxI293.2.2.2.1) [] [] sxjI293).isSome = true := by decide +kernel
theorem sxmI293 {PF : Nat → List Int → List (Nat → Int) → Prop} {l : Launch} : sx_met PF sxRT sxMy sxMc sxML sxMr sxTK l sxI293 := by
  obtain ⟨its2, hk⟩ := Option.isSome_iff_exists.mp sxvI293
  exact sx_met_of (h := sxhI293) sxTK_ok (sxTK2 sxksX9_ok) sxt_X9_readsClause sxFW_ok (sx_cons (sxmI219) (sx_cons (sxmI78) (sx_cons (sxmI64) (sx_cons (sxmI231) (sx_cons (sxmI235) (sx_cons (sxmI289) sx_nil)))))) (fun L h => by cases h) rfl (by decide +kernel) (by decide) rfl ⟨rfl, rfl, rfl, rfl⟩ hk
def sxI294 : sxI := (231, (50, 1193), ([(.ofNat 0, .ofNat 0), (.ofNat 0, .ofNat 8), (.ofNat 0, .ofNat 400)], [4, 1], 0, [], [], [((0, 0), (0, .ofNat 2), (2, 1, .ofNat 0)), ((0, 1), (0, .ofNat 5), (0, 2, .ofNat 0))], []), [(2, 0, .ofNat 0), (0, 1, .ofNat 0)], [(1, 2, 6), (4, 3, 5), (5, 0, 400), (6, 0, 18)], [(([(.ofNat 0, .ofNat 400)], [], 0, [], [], [((0, 0), (0, .ofNat 2), (2, 1, .ofNat 0)), ((0, 1), (0, .ofNat 5), (0, 3, .ofNat 0))], []), some (0, 0, .ofNat 0)), (([(.ofNat 0, .ofNat 400)], [], 0, [], [], [((0, 0), (0, .ofNat 2), (2, 1, .ofNat 0)), ((0, 1), (0, .ofNat 5), (0, 3, .ofNat 0))], []), some (0, 0, .ofNat 1))])
def sxhI294 : sxH := (sxk_X9_readsClause, sxgX9, sxpX9, sxcX9, (sxkiX9, sxklX9, sxksX9), (2, sxI294.2.2.2.2.1, sxI294.2.2.2.2.2, 1), (3, 2, 0), (50, 1193))
def sxjI294 : List sxJ := [((6, 10, 0), ([(0, .ofNat 0)], [1, 2], []), (sxE0, [], [], ([], .ofNat 0))),
  ((17, 10, 1), ([(0, .ofNat 0), (0, .ofNat 0)], [1], []), (sxE0, [], [], ([], .ofNat 0))),
  ((20, 11, 0), ([(2, .ofNat 0)], [], []), (sxE0, [], [], ([], .ofNat 0))),
  ((40, 10, 2), ([(0, .ofNat 0), (2, .ofNat 0)], [1], []), (sxE0, [], [], ([], .ofNat 0))),
  ((44, 10, 3), ([(0, .ofNat 0), (4, .ofNat 0)], [0, 1], []), (sxE0, [], [], ([], .ofNat 0))),
  ((51, 11, 0), ([(5, .ofNat 0)], [], []), (sxE0, [], [], ([], .ofNat 0))),
  ((70, 10, 4), ([(0, .ofNat 0)], [1, 4], []), (sxE0, [], [], ([], .ofNat 0))),
  ((108, 11, 1), ([(5, .ofNat 0)], [], []), (sxE0, [], [], ([], .ofNat 0))),
  ((80, 10, 2), ([(0, .ofNat 0), (5, .ofNat 0)], [1], []), (sxE0, [], [], ([], .ofNat 0))),
  ((85, 10, 5), ([(0, .ofNat 0), (0, .ofNat 0), (9, .ofNat 0)], [0, 1], []), (sxE0, [], [], ([], .ofNat 0))),
  ((92, 11, 0), ([(11, .ofNat 0)], [], []), (sxE0, [], [], ([], .ofNat 0))),
  ((108, 11, 1), ([(11, .ofNat 0)], [], []), (sxE0, [], [], ([], .ofNat 0)))]
theorem sxvI294 : (sx_exec sxRT [sxI219, sxI78, sxI64, sxI231, sxI235, sxI289] [] sxhI294 133 0 sxI294.2.2.1 (sx_argl 0 sxI294.2.2.2.1) [] [] sxjI294).isSome = true := by decide +kernel
theorem sxmI294 {PF : Nat → List Int → List (Nat → Int) → Prop} {l : Launch} : sx_met PF sxRT sxMy sxMc sxML sxMr sxTK l sxI294 := by
  obtain ⟨its2, hk⟩ := Option.isSome_iff_exists.mp sxvI294
  exact sx_met_of (h := sxhI294) sxTK_ok (sxTK2 sxksX9_ok) sxt_X9_readsClause sxFW_ok (sx_cons (sxmI219) (sx_cons (sxmI78) (sx_cons (sxmI64) (sx_cons (sxmI231) (sx_cons (sxmI235) (sx_cons (sxmI289) sx_nil)))))) (fun L h => by cases h) rfl (by decide +kernel) (by decide) rfl ⟨rfl, rfl, rfl, rfl⟩ hk
def sxI295 : sxI := (231, (50, 1193), ([(.ofNat 0, .ofNat 0), (.ofNat 0, .ofNat 12), (.ofNat 0, .ofNat 400)], [4, 1], 0, [], [], [((0, 0), (0, .ofNat 2), (2, 1, .ofNat 0)), ((0, 1), (0, .ofNat 5), (0, 2, .ofNat 0))], []), [(2, 0, .ofNat 0), (0, 1, .ofNat 0)], [(1, 2, 6), (4, 3, 5), (5, 0, 400), (6, 0, 24)], [(([(.ofNat 0, .ofNat 400)], [], 0, [], [], [((0, 0), (0, .ofNat 2), (2, 1, .ofNat 0)), ((0, 1), (0, .ofNat 5), (0, 3, .ofNat 0))], []), some (0, 0, .ofNat 0)), (([(.ofNat 0, .ofNat 400)], [], 0, [([(1, .negSucc 0)], .ofNat 11)], [], [((0, 0), (0, .ofNat 2), (2, 1, .ofNat 0)), ((0, 1), (0, .ofNat 5), (0, 3, .ofNat 0))], []), some (0, 0, .ofNat 1))])
def sxhI295 : sxH := (sxk_X9_readsClause, sxgX9, sxpX9, sxcX9, (sxkiX9, sxklX9, sxksX9), (2, sxI295.2.2.2.2.1, sxI295.2.2.2.2.2, 1), (3, 2, 0), (50, 1193))
def sxjI295 : List sxJ := [((6, 10, 0), ([(0, .ofNat 0)], [1, 2], []), (sxE0, [], [], ([], .ofNat 0))),
  ((17, 10, 1), ([(0, .ofNat 0), (0, .ofNat 0)], [1], []), (sxE0, [], [], ([], .ofNat 0))),
  ((20, 11, 0), ([(2, .ofNat 0)], [], []), (sxE0, [], [], ([], .ofNat 0))),
  ((40, 10, 2), ([(0, .ofNat 0), (2, .ofNat 0)], [1], []), (sxE0, [], [], ([], .ofNat 0))),
  ((44, 10, 3), ([(0, .ofNat 0), (4, .ofNat 0)], [0, 1], []), (sxE0, [], [], ([], .ofNat 0))),
  ((51, 11, 0), ([(5, .ofNat 0)], [], []), (sxE0, [], [], ([], .ofNat 0))),
  ((70, 10, 4), ([(0, .ofNat 0)], [1, 4], []), (sxE0, [], [], ([], .ofNat 0))),
  ((108, 11, 1), ([(5, .ofNat 0)], [], []), (sxE0, [], [], ([], .ofNat 0))),
  ((80, 10, 2), ([(0, .ofNat 0), (5, .ofNat 0)], [1], []), (sxE0, [], [], ([], .ofNat 0))),
  ((85, 10, 5), ([(0, .ofNat 0), (0, .ofNat 0), (9, .ofNat 0)], [0, 1], []), (sxE0, [], [], ([], .ofNat 0))),
  ((92, 11, 0), ([(11, .ofNat 0)], [], []), (sxE0, [], [], ([], .ofNat 0))),
  ((108, 11, 1), ([(11, .ofNat 0)], [], []), (sxE0, [], [], ([], .ofNat 0))),
  ((32, 10, 1), ([(0, .ofNat 0), (0, .ofNat 4)], [1], []), (sxE0, [], [], ([], .ofNat 0))),
  ((35, 11, 0), ([(2, .ofNat 0)], [], []), (sxE0, [], [], ([], .ofNat 0)))]
theorem sxvI295 : (sx_exec sxRT [sxI219, sxI78, sxI64, sxI231, sxI235, sxI289] [] sxhI295 140 0 sxI295.2.2.1 (sx_argl 0 sxI295.2.2.2.1) [] [] sxjI295).isSome = true := by decide +kernel
theorem sxmI295 {PF : Nat → List Int → List (Nat → Int) → Prop} {l : Launch} : sx_met PF sxRT sxMy sxMc sxML sxMr sxTK l sxI295 := by
  obtain ⟨its2, hk⟩ := Option.isSome_iff_exists.mp sxvI295
  exact sx_met_of (h := sxhI295) sxTK_ok (sxTK2 sxksX9_ok) sxt_X9_readsClause sxFW_ok (sx_cons (sxmI219) (sx_cons (sxmI78) (sx_cons (sxmI64) (sx_cons (sxmI231) (sx_cons (sxmI235) (sx_cons (sxmI289) sx_nil)))))) (fun L h => by cases h) rfl (by decide +kernel) (by decide) rfl ⟨rfl, rfl, rfl, rfl⟩ hk
