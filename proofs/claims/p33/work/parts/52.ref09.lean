def sxI435 : sxI := (71, (2, 40), ([(.ofNat 0, .ofNat 0), (.ofNat 0, .ofNat 6)], [43], 0, [], [], [], []), [(2, 0, .ofNat 0), (0, 1, .ofNat 0)], [], [(([(.ofNat 0, .ofNat 2147483647)], [], 0, [], [], [], []), some (0, 2, .ofNat 0))])
def sxhI435 : sxH := (sxk_X12_alikeAt, sxgX12, sxpX12, sxcX12, (sxkiX12, sxklX12, sxksX12), (6, sxI435.2.2.2.2.1, sxI435.2.2.2.2.2, 0), (2, 1, 0), (2, 40))
def sxjI435 : List sxJ := [((4, 0, 0), ([(0, .ofNat 0), (0, .ofNat 0)], [], []), (([(.ofNat 0, .ofNat 7), (.ofNat 0, .ofNat 2147483647)], [], 0, [], [], [], []), [(3, (0, 2, .ofNat 0)), (2, (0, 3, .ofNat 0)), (0, (2, 0, .ofNat 0)), (1, (0, 1, .ofNat 0))], [], ([(2, .negSucc 0)], .ofNat 7))),
  ((108, 11, 0), ([(3, .ofNat 0)], [], []), (sxE0, [], [], ([], .ofNat 0))),
  ((18, 0, 0), ([(0, .ofNat 0), (0, .ofNat 0)], [], []), (([(.ofNat 0, .ofNat 7), (.negSucc 2147483647, .ofNat 2147483647)], [], 0, [], [], [((0, 0), (0, .ofNat 2), (0, 4, .ofNat 0))], []), [(5, (0, 5, .ofNat 0)), (4, (0, 6, .ofNat 0)), (3, (0, 2, .ofNat 0)), (2, (0, 3, .ofNat 0)), (0, (2, 0, .ofNat 0)), (1, (0, 1, .ofNat 0))], [], ([(5, .negSucc 0)], .ofNat 7))),
  ((4, 2, 1), ([(2, .ofNat 1), (3, .ofNat 0)], [], []), (sxE0, [], [], ([], .ofNat 0))),
  ((4, 2, 1), ([(2, .ofNat 1), (6, .ofNat 0)], [], []), (sxE0, [], [], ([], .ofNat 0))),
  ((4, 2, 1), ([(2, .ofNat 1), (3, .ofNat 0)], [], []), (sxE0, [], [], ([], .ofNat 0))),
  ((4, 2, 1), ([(2, .ofNat 1), (6, .ofNat 0)], [], []), (sxE0, [], [], ([], .ofNat 0))),
  ((18, 2, 0), ([(5, .ofNat 1), (6, .ofNat 0)], [], []), (sxE0, [], [], ([], .ofNat 0))),
  ((18, 2, 0), ([(5, .ofNat 1), (6, .ofNat 0)], [], []), (sxE0, [], [], ([], .ofNat 0))),
  ((80, 8, 0), ([], [], []), (sxE0, [], [], ([], .ofNat 0))),
  ((18, 2, 0), ([(5, .ofNat 1), (15, .ofNat 0)], [], []), (sxE0, [], [], ([], .ofNat 0)))]
theorem sxvI435 : (sx_exec sxRT [] sxLT sxhI435 1185 0 sxI435.2.2.1 (sx_argl 0 sxI435.2.2.2.1) [] [] sxjI435).isSome = true := by decide +kernel
def sxI436 : sxI := (138, (10, 223), ([(.ofNat 0, .ofNat 0), (.negSucc 2147483647, .ofNat 2147483647), (.negSucc 2147483647, .ofNat 2147483647), (.ofNat 0, .ofNat 7), (.ofNat 0, .ofNat 8)], [43, 53, 45, 47, 48, 55], 4, [], [(20, [(0, .ofNat 1), (3, .ofNat 0), (4, .ofNat 0)], [0]), (23, [], [1, 2, 3])], [((0, 0), (0, .ofNat 20), (2, 1, .ofNat 0)), ((0, 0), (0, .ofNat 3), (2, 2, .ofNat 0)), ((0, 0), (0, .ofNat 5), (2, 3, .ofNat 0)), ((0, 0), (0, .ofNat 6), (2, 4, .ofNat 0)), ((0, 0), (0, .ofNat 26), (2, 5, .ofNat 0))], [(1, (0, 108), 0), (2, (0, 2400), 1), (3, (0, 288), 2), (4, (0, 6), 3)]), [(2, 0, .ofNat 0), (0, 1, .ofNat 0), (0, 2, .ofNat 0)], [(43, 18, 19), (43, 21, 22), (51, 0, 64), (52, 0, 12), (53, 10, 39), (55, 0, 29), (61, 0, 7), (62, 0, 49)], [(([(.negSucc 1, .ofNat 2147483647)], [], 1, [], [(20, [(0, .ofNat 1), (3, .ofNat 0), (4, .ofNat 0)], [4])], [], [(1, (0, 108), 4)]), some (0, 5, .ofNat 0))])
def sxhI436 : sxH := (sxk_X12_look, sxgX12, sxpX12, sxcX12, (sxkiX12, sxklX12, sxksX12), (7, sxI436.2.2.2.2.1, sxI436.2.2.2.2.2, 0), (5, 6, 4), (10, 223))
def sxjI436 : List sxJ := [((1, 10, 0), ([(0, .ofNat 0), (0, .ofNat 1), (3, .ofNat 0), (4, .ofNat 0)], [0, 1], [0]), (sxE0, [], [], ([], .ofNat 0))),
  ((30, 11, 0), ([(0, .negSucc 0)], [], [0]), (sxE0, [], [], ([], .ofNat 0))),
  ((13, 10, 1), ([(0, .ofNat 0), (1, .ofNat 0), (0, .ofNat 0), (0, .ofNat 60)], [], []), (sxE0, [], [], ([], .ofNat 0))),
  ((30, 11, 0), ([(0, .negSucc 0)], [], [0]), (sxE0, [], [], ([], .ofNat 0))),
  ((16, 7, 0), ([], [], []), (sxE0, [], [], ([(1, .ofNat 1), (0, .negSucc 0)], .ofNat 0))),
  ((16, 7, 0), ([], [], []), (sxE0, [], [], ([(0, .ofNat 1), (1, .negSucc 0)], .ofNat 60))),
  ((23, 10, 1), ([(0, .ofNat 0), (2, .ofNat 0), (0, .ofNat 0), (0, .ofNat 1)], [], []), (sxE0, [], [], ([], .ofNat 0))),
  ((30, 11, 0), ([(0, .negSucc 0)], [], [0]), (sxE0, [], [], ([], .ofNat 0))),
  ((26, 7, 0), ([], [], []), (sxE0, [], [], ([(2, .ofNat 1), (0, .negSucc 0)], .ofNat 0))),
  ((26, 7, 0), ([], [], []), (sxE0, [], [], ([(0, .ofNat 1), (2, .negSucc 0)], .ofNat 1))),
  ((33, 10, 2), ([(0, .ofNat 0), (1, .ofNat 0), (3, .ofNat 0), (4, .ofNat 0)], [0, 1, 2, 3, 4, 5], [0, 1, 2, 3]), (sxE0, [], [], ([], .ofNat 0))),
  ((46, 0, 0), ([(0, .ofNat 0), (0, .negSucc 1), (0, .negSucc 1)], [], []), (([(.ofNat 0, .ofNat 7), (.negSucc 1, .ofNat 2147483647), (.negSucc 1, .ofNat 6)], [], 0, [], [], [((0, 0), (0, .ofNat 20), (2, 1, .ofNat 0)), ((0, 0), (0, .ofNat 3), (2, 2, .ofNat 0)), ((0, 0), (0, .ofNat 5), (2, 3, .ofNat 0)), ((0, 0), (0, .ofNat 6), (2, 4, .ofNat 0)), ((0, 0), (0, .ofNat 26), (2, 5, .ofNat 0))], [(1, (0, 108), 4), (2, (0, 2400), 1), (3, (0, 288), 2), (4, (0, 6), 3)]), [(5, (0, 5, .ofNat 0)), (4, (0, 6, .ofNat 0)), (3, (0, 7, .ofNat 0)), (0, (2, 0, .ofNat 0)), (1, (0, 1, .ofNat 0)), (2, (0, 2, .ofNat 0))], [], ([(5, .negSucc 0)], .ofNat 7))),
  ((54, 3, 1), ([(0, .ofNat 0), (0, .ofNat 1), (3, .ofNat 0), (4, .ofNat 0), (8, .ofNat 0)], [], [4]), (sxE0, [], [], ([], .ofNat 0))),
  ((54, 7, 0), ([], [], []), (sxE0, [], [], ([(8, .ofNat 1), (3, .negSucc 0)], .ofNat 0))),
  ((54, 7, 0), ([], [], []), (sxE0, [], [], ([(3, .ofNat 1), (8, .negSucc 0)], .ofNat 0))),
  ((107, 11, 0), ([(6, .ofNat 0)], [], [4]), (sxE0, [], [], ([], .ofNat 0))),
  ((107, 11, 0), ([(7, .ofNat 0)], [], [4]), (sxE0, [], [], ([], .ofNat 0))),
  ((60, 10, 5), ([(0, .ofNat 0), (5, .ofNat 0)], [0], []), (sxE0, [], [], ([], .ofNat 0))),
  ((46, 2, 0), ([(5, .ofNat 1), (6, .ofNat 0), (7, .ofNat 0)], [], []), (sxE0, [], [], ([], .ofNat 0))),
  ((46, 2, 0), ([(5, .ofNat 1), (9, .ofNat 0), (5, .ofNat 0)], [], []), (sxE0, [], [], ([], .ofNat 0))),
  ((46, 2, 0), ([(5, .ofNat 1), (9, .ofNat 0), (5, .ofNat 0)], [], []), (sxE0, [], [], ([], .ofNat 0))),
  ((46, 2, 0), ([(5, .ofNat 1), (6, .ofNat 0), (7, .ofNat 0)], [], []), (sxE0, [], [], ([], .ofNat 0)))]
theorem sxvI436 : (sx_exec sxRT [sxI369, sxI310, sxI431, sxI433, sxI434, sxI435] sxLT sxhI436 191 0 sxI436.2.2.1 (sx_argl 0 sxI436.2.2.2.1) [] [] sxjI436).isSome = true := by decide +kernel
def sxI437 : sxI := (164, (2, 40), ([(.ofNat 0, .ofNat 0), (.negSucc 2147483647, .ofNat 2147483647), (.ofNat 0, .ofNat 2147483647)], [43], 0, [], [], [((0, 0), (0, .ofNat 22), (0, 2, .ofNat 0))], []), [(2, 0, .ofNat 0), (0, 1, .ofNat 0)], [(43, 22, 23)], [(([], [], 0, [([(1, .ofNat 1)], .ofNat 0)], [], [((0, 0), (0, .ofNat 22), (0, 1, .ofNat 0))], []), some (0, 2, .ofNat 0)), (([], [], 0, [([(1, .negSucc 0)], .negSucc 0)], [], [((0, 0), (0, .ofNat 22), (0, 2, .ofNat 0))], []), some (0, 0, .negSucc 0))])
def sxhI437 : sxH := (sxk_X12_seed, sxgX12, sxpX12, sxcX12, (sxkiX12, sxklX12, sxksX12), (3, sxI437.2.2.2.2.1, sxI437.2.2.2.2.2, 0), (3, 1, 0), (2, 40))
def sxjI437 : List sxJ := [((17, 11, 0), ([], [], []), (sxE0, [], [], ([], .ofNat 0))),
  ((5, 11, 1), ([], [], []), (sxE0, [], [], ([], .ofNat 0)))]
theorem sxvI437 : (sx_exec sxRT [] sxLT sxhI437 64 0 sxI437.2.2.1 (sx_argl 0 sxI437.2.2.2.1) [] [] sxjI437).isSome = true := by decide +kernel
def sxI438 : sxI := (90, (2, 40), ([(.ofNat 0, .ofNat 0), (.ofNat 100, .ofNat 100), (.ofNat 0, .ofNat 2147483647)], [43], 0, [], [], [((0, 0), (0, .ofNat 37), (1, 2, .ofNat 0))], []), [(2, 0, .ofNat 0), (0, 1, .ofNat 0)], [(43, 37, 38)], [(([(.ofNat 0, .ofNat 99), (.ofNat 0, .ofNat 2147483647)], [], 0, [], [], [((0, 0), (0, .ofNat 37), (1, 4, .ofNat 0))], []), some (0, 3, .ofNat 0))])
def sxhI438 : sxH := (sxk_X12_draw, sxgX12, sxpX12, sxcX12, (sxkiX12, sxklX12, sxksX12), (2, sxI438.2.2.2.2.1, sxI438.2.2.2.2.2, 0), (3, 1, 0), (2, 40))
def sxjI438 : List sxJ := [((32, 11, 0), ([(7, .ofNat 0), (5, .ofNat 0)], [], []), (sxE0, [], [], ([], .ofNat 0)))]
theorem sxvI438 : (sx_exec sxRT [] sxLT sxhI438 70 0 sxI438.2.2.1 (sx_argl 0 sxI438.2.2.2.1) [] [] sxjI438).isSome = true := by decide +kernel
def sxI439 : sxI := (90, (2, 40), ([(.ofNat 0, .ofNat 0), (.ofNat 2, .ofNat 2), (.ofNat 0, .ofNat 2147483647)], [43], 0, [], [], [((0, 0), (0, .ofNat 37), (1, 2, .ofNat 0))], []), [(2, 0, .ofNat 0), (0, 1, .ofNat 0)], [(43, 37, 38)], [(([(.ofNat 0, .ofNat 1), (.ofNat 0, .ofNat 2147483647)], [], 0, [], [], [((0, 0), (0, .ofNat 37), (1, 4, .ofNat 0))], []), some (0, 3, .ofNat 0))])
def sxhI439 : sxH := (sxk_X12_draw, sxgX12, sxpX12, sxcX12, (sxkiX12, sxklX12, sxksX12), (2, sxI439.2.2.2.2.1, sxI439.2.2.2.2.2, 0), (3, 1, 0), (2, 40))
def sxjI439 : List sxJ := [((32, 11, 0), ([(7, .ofNat 0), (5, .ofNat 0)], [], []), (sxE0, [], [], ([], .ofNat 0)))]
theorem sxvI439 : (sx_exec sxRT [] sxLT sxhI439 70 0 sxI439.2.2.1 (sx_argl 0 sxI439.2.2.2.1) [] [] sxjI439).isSome = true := by decide +kernel
def sxI440 : sxI := (90, (2, 40), ([(.ofNat 0, .ofNat 0), (.ofNat 1, .ofNat 1), (.ofNat 0, .ofNat 2147483647)], [43], 0, [], [], [((0, 0), (0, .ofNat 37), (1, 2, .ofNat 0))], []), [(2, 0, .ofNat 0), (0, 1, .ofNat 0)], [(43, 37, 38)], [(([(.ofNat 0, .ofNat 0), (.ofNat 0, .ofNat 2147483647)], [], 0, [], [], [((0, 0), (0, .ofNat 37), (1, 4, .ofNat 0))], []), some (0, 3, .ofNat 0))])
def sxhI440 : sxH := (sxk_X12_draw, sxgX12, sxpX12, sxcX12, (sxkiX12, sxklX12, sxksX12), (2, sxI440.2.2.2.2.1, sxI440.2.2.2.2.2, 0), (3, 1, 0), (2, 40))
def sxjI440 : List sxJ := [((32, 11, 0), ([(7, .ofNat 0), (5, .ofNat 0)], [], []), (sxE0, [], [], ([], .ofNat 0)))]
theorem sxvI440 : (sx_exec sxRT [] sxLT sxhI440 70 0 sxI440.2.2.1 (sx_argl 0 sxI440.2.2.2.1) [] [] sxjI440).isSome = true := by decide +kernel
def sxI441 : sxI := (90, (2, 40), ([(.ofNat 0, .ofNat 0), (.ofNat 3, .ofNat 3), (.ofNat 0, .ofNat 2147483647)], [43], 0, [], [], [((0, 0), (0, .ofNat 37), (1, 2, .ofNat 0))], []), [(2, 0, .ofNat 0), (0, 1, .ofNat 0)], [(43, 37, 38)], [(([(.ofNat 0, .ofNat 2), (.ofNat 0, .ofNat 2147483647)], [], 0, [], [], [((0, 0), (0, .ofNat 37), (1, 4, .ofNat 0))], []), some (0, 3, .ofNat 0))])
def sxhI441 : sxH := (sxk_X12_draw, sxgX12, sxpX12, sxcX12, (sxkiX12, sxklX12, sxksX12), (2, sxI441.2.2.2.2.1, sxI441.2.2.2.2.2, 0), (3, 1, 0), (2, 40))
def sxjI441 : List sxJ := [((32, 11, 0), ([(7, .ofNat 0), (5, .ofNat 0)], [], []), (sxE0, [], [], ([], .ofNat 0)))]
theorem sxvI441 : (sx_exec sxRT [] sxLT sxhI441 70 0 sxI441.2.2.1 (sx_argl 0 sxI441.2.2.2.1) [] [] sxjI441).isSome = true := by decide +kernel
def sxI442 : sxI := (90, (2, 40), ([(.ofNat 0, .ofNat 0), (.ofNat 4, .ofNat 4), (.ofNat 0, .ofNat 2147483647)], [43], 0, [], [], [((0, 0), (0, .ofNat 37), (1, 2, .ofNat 0))], []), [(2, 0, .ofNat 0), (0, 1, .ofNat 0)], [(43, 37, 38)], [(([(.ofNat 0, .ofNat 3), (.ofNat 0, .ofNat 2147483647)], [], 0, [], [], [((0, 0), (0, .ofNat 37), (1, 4, .ofNat 0))], []), some (0, 3, .ofNat 0))])
def sxhI442 : sxH := (sxk_X12_draw, sxgX12, sxpX12, sxcX12, (sxkiX12, sxklX12, sxksX12), (2, sxI442.2.2.2.2.1, sxI442.2.2.2.2.2, 0), (3, 1, 0), (2, 40))
def sxjI442 : List sxJ := [((32, 11, 0), ([(7, .ofNat 0), (5, .ofNat 0)], [], []), (sxE0, [], [], ([], .ofNat 0)))]
theorem sxvI442 : (sx_exec sxRT [] sxLT sxhI442 70 0 sxI442.2.2.1 (sx_argl 0 sxI442.2.2.2.1) [] [] sxjI442).isSome = true := by decide +kernel
def sxI443 : sxI := (90, (2, 40), ([(.ofNat 0, .ofNat 0), (.ofNat 5, .ofNat 5), (.ofNat 0, .ofNat 2147483647)], [43], 0, [], [], [((0, 0), (0, .ofNat 37), (1, 2, .ofNat 0))], []), [(2, 0, .ofNat 0), (0, 1, .ofNat 0)], [(43, 37, 38)], [(([(.ofNat 0, .ofNat 4), (.ofNat 0, .ofNat 2147483647)], [], 0, [], [], [((0, 0), (0, .ofNat 37), (1, 4, .ofNat 0))], []), some (0, 3, .ofNat 0))])
def sxhI443 : sxH := (sxk_X12_draw, sxgX12, sxpX12, sxcX12, (sxkiX12, sxklX12, sxksX12), (2, sxI443.2.2.2.2.1, sxI443.2.2.2.2.2, 0), (3, 1, 0), (2, 40))
def sxjI443 : List sxJ := [((32, 11, 0), ([(7, .ofNat 0), (5, .ofNat 0)], [], []), (sxE0, [], [], ([], .ofNat 0)))]
theorem sxvI443 : (sx_exec sxRT [] sxLT sxhI443 70 0 sxI443.2.2.1 (sx_argl 0 sxI443.2.2.2.1) [] [] sxjI443).isSome = true := by decide +kernel
def sxI444 : sxI := (90, (2, 40), ([(.ofNat 0, .ofNat 0), (.ofNat 6, .ofNat 6), (.ofNat 0, .ofNat 2147483647)], [43], 0, [], [], [((0, 0), (0, .ofNat 37), (1, 2, .ofNat 0))], []), [(2, 0, .ofNat 0), (0, 1, .ofNat 0)], [(43, 37, 38)], [(([(.ofNat 0, .ofNat 5), (.ofNat 0, .ofNat 2147483647)], [], 0, [], [], [((0, 0), (0, .ofNat 37), (1, 4, .ofNat 0))], []), some (0, 3, .ofNat 0))])
def sxhI444 : sxH := (sxk_X12_draw, sxgX12, sxpX12, sxcX12, (sxkiX12, sxklX12, sxksX12), (2, sxI444.2.2.2.2.1, sxI444.2.2.2.2.2, 0), (3, 1, 0), (2, 40))
def sxjI444 : List sxJ := [((32, 11, 0), ([(7, .ofNat 0), (5, .ofNat 0)], [], []), (sxE0, [], [], ([], .ofNat 0)))]
theorem sxvI444 : (sx_exec sxRT [] sxLT sxhI444 70 0 sxI444.2.2.1 (sx_argl 0 sxI444.2.2.2.1) [] [] sxjI444).isSome = true := by decide +kernel
def sxI445 : sxI := (90, (2, 40), ([(.ofNat 0, .ofNat 0), (.ofNat 7, .ofNat 7), (.ofNat 0, .ofNat 2147483647)], [43], 0, [], [], [((0, 0), (0, .ofNat 37), (1, 2, .ofNat 0))], []), [(2, 0, .ofNat 0), (0, 1, .ofNat 0)], [(43, 37, 38)], [(([(.ofNat 0, .ofNat 6), (.ofNat 0, .ofNat 2147483647)], [], 0, [], [], [((0, 0), (0, .ofNat 37), (1, 4, .ofNat 0))], []), some (0, 3, .ofNat 0))])
def sxhI445 : sxH := (sxk_X12_draw, sxgX12, sxpX12, sxcX12, (sxkiX12, sxklX12, sxksX12), (2, sxI445.2.2.2.2.1, sxI445.2.2.2.2.2, 0), (3, 1, 0), (2, 40))
def sxjI445 : List sxJ := [((32, 11, 0), ([(7, .ofNat 0), (5, .ofNat 0)], [], []), (sxE0, [], [], ([], .ofNat 0)))]
theorem sxvI445 : (sx_exec sxRT [] sxLT sxhI445 70 0 sxI445.2.2.1 (sx_argl 0 sxI445.2.2.2.1) [] [] sxjI445).isSome = true := by decide +kernel
def sxI446 : sxI := (184, (3, 63), ([(.ofNat 0, .ofNat 0), (.ofNat 0, .ofNat 2147483647), (.ofNat 2, .ofNat 7), (.ofNat 0, .ofNat 8)], [43, 53], 1, [], [(20, [(0, .ofNat 1), (2, .ofNat 0), (3, .ofNat 0)], [0])], [((0, 0), (0, .ofNat 20), (2, 1, .ofNat 0)), ((0, 0), (0, .ofNat 37), (1, 1, .ofNat 0))], [(1, (0, 108), 0)]), [(2, 0, .ofNat 0)], [(43, 37, 38), (53, 11, 18)], [(([(.ofNat 0, .ofNat 2147483647)], [], 1, [], [(20, [(0, .ofNat 1), (2, .ofNat 0), (3, .ofNat 0)], [1])], [((0, 0), (0, .ofNat 37), (1, 4, .ofNat 0))], [(1, (0, 108), 1)]), none)])
def sxhI446 : sxH := (sxk_X12_washes, sxgX12, sxpX12, sxcX12, (sxkiX12, sxklX12, sxksX12), (2, sxI446.2.2.2.2.1, sxI446.2.2.2.2.2, 4), (4, 2, 1), (3, 63))
def sxjI446 : List sxJ := [((0, 4, 2), ([], [], []), (sxE0, [], [], ([], .ofNat 0))),
  ((7, 3, 1), ([(0, .ofNat 0), (0, .ofNat 1), (2, .ofNat 0), (3, .ofNat 0), (4, .ofNat 0)], [], [0]), (sxE0, [], [], ([], .ofNat 0))),
  ((7, 7, 0), ([], [], []), (sxE0, [], [], ([(4, .ofNat 1), (2, .negSucc 0)], .ofNat 0))),
  ((7, 7, 0), ([], [], []), (sxE0, [], [], ([(2, .ofNat 1), (4, .negSucc 0)], .ofNat 0))),
  ((7, 10, 0), ([(0, .ofNat 0), (4, .ofNat 0), (1, .ofNat 0)], [0], []), (sxE0, [], [], ([], .ofNat 0))),
  ((23, 10, 1), ([(0, .ofNat 0), (4, .negSucc 0), (6, .ofNat 0)], [0], []), (sxE0, [], [], ([], .ofNat 0))),
  ((36, 10, 2), ([(0, .ofNat 0), (5, .ofNat 0), (10, .ofNat 0), (2, .ofNat 0), (3, .ofNat 0)], [0, 1], [0]), (sxE0, [], [], ([], .ofNat 0))),
  ((39, 11, 0), ([(8, .ofNat 0)], [], [1]), (sxE0, [], [], ([], .ofNat 0))),
  ((7, 3, 1), ([(0, .ofNat 0), (0, .ofNat 1), (2, .ofNat 0), (3, .ofNat 0), (4, .ofNat 0)], [], [0]), (sxE0, [], [], ([], .ofNat 0))),
  ((7, 7, 0), ([], [], []), (sxE0, [], [], ([(4, .ofNat 1), (2, .negSucc 0)], .ofNat 0))),
  ((7, 7, 0), ([], [], []), (sxE0, [], [], ([(2, .ofNat 1), (4, .negSucc 0)], .ofNat 0))),
  ((7, 10, 3), ([(0, .ofNat 0), (4, .ofNat 0), (1, .ofNat 0)], [0], []), (sxE0, [], [], ([], .ofNat 0))),
  ((23, 10, 0), ([(0, .ofNat 0), (4, .negSucc 0), (6, .ofNat 0)], [0], []), (sxE0, [], [], ([], .ofNat 0))),
  ((36, 10, 2), ([(0, .ofNat 0), (5, .ofNat 0), (10, .ofNat 0), (2, .ofNat 0), (3, .ofNat 0)], [0, 1], [0]), (sxE0, [], [], ([], .ofNat 0))),
  ((39, 11, 0), ([(8, .ofNat 0)], [], [1]), (sxE0, [], [], ([], .ofNat 0))),
  ((7, 3, 1), ([(0, .ofNat 0), (0, .ofNat 1), (2, .ofNat 0), (3, .ofNat 0), (4, .ofNat 0)], [], [0]), (sxE0, [], [], ([], .ofNat 0))),
  ((7, 7, 0), ([], [], []), (sxE0, [], [], ([(4, .ofNat 1), (2, .negSucc 0)], .ofNat 0))),
  ((7, 7, 0), ([], [], []), (sxE0, [], [], ([(2, .ofNat 1), (4, .negSucc 0)], .ofNat 0))),
  ((7, 10, 4), ([(0, .ofNat 0), (4, .ofNat 0), (1, .ofNat 0)], [0], []), (sxE0, [], [], ([], .ofNat 0))),
  ((23, 10, 3), ([(0, .ofNat 0), (4, .negSucc 0), (6, .ofNat 0)], [0], []), (sxE0, [], [], ([], .ofNat 0))),
  ((36, 10, 2), ([(0, .ofNat 0), (5, .ofNat 0), (10, .ofNat 0), (2, .ofNat 0), (3, .ofNat 0)], [0, 1], [0]), (sxE0, [], [], ([], .ofNat 0))),
  ((39, 11, 0), ([(8, .ofNat 0)], [], [1]), (sxE0, [], [], ([], .ofNat 0))),
  ((7, 3, 1), ([(0, .ofNat 0), (0, .ofNat 1), (2, .ofNat 0), (3, .ofNat 0), (4, .ofNat 0)], [], [0]), (sxE0, [], [], ([], .ofNat 0))),
  ((7, 7, 0), ([], [], []), (sxE0, [], [], ([(4, .ofNat 1), (2, .negSucc 0)], .ofNat 0))),
  ((7, 7, 0), ([], [], []), (sxE0, [], [], ([(2, .ofNat 1), (4, .negSucc 0)], .ofNat 0))),
  ((7, 10, 5), ([(0, .ofNat 0), (4, .ofNat 0), (1, .ofNat 0)], [0], []), (sxE0, [], [], ([], .ofNat 0))),
  ((23, 10, 4), ([(0, .ofNat 0), (4, .negSucc 0), (6, .ofNat 0)], [0], []), (sxE0, [], [], ([], .ofNat 0))),
  ((36, 10, 2), ([(0, .ofNat 0), (5, .ofNat 0), (10, .ofNat 0), (2, .ofNat 0), (3, .ofNat 0)], [0, 1], [0]), (sxE0, [], [], ([], .ofNat 0))),
  ((39, 11, 0), ([(8, .ofNat 0)], [], [1]), (sxE0, [], [], ([], .ofNat 0))),
  ((7, 3, 1), ([(0, .ofNat 0), (0, .ofNat 1), (2, .ofNat 0), (3, .ofNat 0), (4, .ofNat 0)], [], [0]), (sxE0, [], [], ([], .ofNat 0))),
  ((7, 7, 0), ([], [], []), (sxE0, [], [], ([(4, .ofNat 1), (2, .negSucc 0)], .ofNat 0))),
  ((7, 7, 0), ([], [], []), (sxE0, [], [], ([(2, .ofNat 1), (4, .negSucc 0)], .ofNat 0))),
  ((7, 10, 6), ([(0, .ofNat 0), (4, .ofNat 0), (1, .ofNat 0)], [0], []), (sxE0, [], [], ([], .ofNat 0))),
  ((23, 10, 5), ([(0, .ofNat 0), (4, .negSucc 0), (6, .ofNat 0)], [0], []), (sxE0, [], [], ([], .ofNat 0))),
  ((36, 10, 2), ([(0, .ofNat 0), (5, .ofNat 0), (10, .ofNat 0), (2, .ofNat 0), (3, .ofNat 0)], [0, 1], [0]), (sxE0, [], [], ([], .ofNat 0))),
  ((39, 11, 0), ([(8, .ofNat 0)], [], [1]), (sxE0, [], [], ([], .ofNat 0))),
  ((7, 3, 1), ([(0, .ofNat 0), (0, .ofNat 1), (2, .ofNat 0), (3, .ofNat 0), (4, .ofNat 0)], [], [0]), (sxE0, [], [], ([], .ofNat 0))),
  ((7, 7, 0), ([], [], []), (sxE0, [], [], ([(4, .ofNat 1), (2, .negSucc 0)], .ofNat 0))),
  ((7, 7, 0), ([], [], []), (sxE0, [], [], ([(2, .ofNat 1), (4, .negSucc 0)], .ofNat 0))),
  ((7, 10, 7), ([(0, .ofNat 0), (4, .ofNat 0), (1, .ofNat 0)], [0], []), (sxE0, [], [], ([], .ofNat 0))),
  ((23, 10, 6), ([(0, .ofNat 0), (4, .negSucc 0), (6, .ofNat 0)], [0], []), (sxE0, [], [], ([], .ofNat 0))),
  ((36, 10, 2), ([(0, .ofNat 0), (5, .ofNat 0), (10, .ofNat 0), (2, .ofNat 0), (3, .ofNat 0)], [0, 1], [0]), (sxE0, [], [], ([], .ofNat 0))),
  ((39, 11, 0), ([(8, .ofNat 0)], [], [1]), (sxE0, [], [], ([], .ofNat 0)))]
theorem sxvI446 : (sx_exec sxRT [sxI439, sxI440, sxI371, sxI441, sxI442, sxI443, sxI444, sxI445] sxLT sxhI446 262 0 sxI446.2.2.1 (sx_argl 0 sxI446.2.2.2.1) [] [] sxjI446).isSome = true := by decide +kernel
