def sxI359 : sxI := (161, (14, 302), ([(.ofNat 0, .ofNat 0), (.ofNat 0, .ofNat 6), (.ofNat 0, .ofNat 400), (.negSucc 2147483647, .ofNat 2147483647)], [43, 45, 47, 48, 44, 46, 50], 3, [], [(23, [], [0, 1, 2])], [((0, 0), (0, .ofNat 3), (2, 1, .ofNat 0)), ((0, 0), (0, .ofNat 5), (2, 2, .ofNat 0)), ((0, 0), (0, .ofNat 6), (2, 3, .ofNat 0)), ((0, 0), (0, .ofNat 0), (2, 4, .ofNat 0)), ((0, 0), (0, .ofNat 4), (2, 5, .ofNat 0)), ((0, 0), (0, .ofNat 15), (2, 6, .ofNat 0)), ((0, 0), (0, .ofNat 2), (0, 1, .ofNat 0)), ((0, 0), (0, .ofNat 1), (0, 2, .ofNat 0)), ((0, 0), (0, .ofNat 10), (0, 3, .ofNat 0))], [(1, (0, 2400), 0), (2, (0, 288), 1), (3, (0, 6), 2)]), [(2, 0, .ofNat 0)], [(43, 1, 3), (43, 8, 15), (43, 16, 17), (45, 0, 2400), (46, 0, 6), (47, 0, 288), (48, 0, 6), (50, 0, 400)], [(([(.negSucc 2147483647, .ofNat 2147483647), (.ofNat 0, .ofNat 6), (.ofNat 0, .ofNat 400), (.negSucc 2147483647, .ofNat 2147483647)], [], 3, [], [(23, [], [3, 4, 5])], [((0, 0), (0, .ofNat 2), (0, 5, .ofNat 0)), ((0, 0), (0, .ofNat 1), (0, 6, .ofNat 0)), ((0, 0), (0, .ofNat 10), (0, 7, .ofNat 0))], [(1, (0, 2400), 3), (2, (0, 288), 4), (3, (0, 6), 5)]), some (0, 4, .ofNat 0))])
def sxhI359 : sxH := (sxk_X12_rule, sxgX12, sxpX12, sxcX12, (sxkiX12, sxklX12, sxksX12), (1, sxI359.2.2.2.2.1, sxI359.2.2.2.2.2, 0), (4, 7, 3), (14, 302))
def sxjI359 : List sxJ := [((29, 3, 111), ([(0, .ofNat 0), (1, .ofNat 0)], [], [0, 1, 2, 3]), (sxE0, [], [], ([], .ofNat 0))),
  ((29, 3, 95), ([(0, .ofNat 0), (1, .ofNat 0), (0, .ofNat 0)], [], [2, 3]), (sxE0, [], [], ([], .ofNat 0))),
  ((30, 10, 0), ([(0, .ofNat 0), (1, .ofNat 0), (2, .ofNat 0), (3, .ofNat 0), (0, .ofNat 0)], [0, 4, 1, 5, 2, 3, 6], [0, 1, 3]), (sxE0, [], [], ([], .ofNat 0))),
  ((43, 11, 0), ([(7, .ofNat 0), (1, .ofNat 0), (0, .ofNat 0), (4, .ofNat 0)], [], [4, 5, 6]), (sxE0, [], [], ([], .ofNat 0))),
  ((60, 11, 0), ([(1, .ofNat 0), (1, .ofNat 1), (0, .ofNat 0), (4, .ofNat 0)], [], [4, 5, 6]), (sxE0, [], [], ([], .ofNat 0))),
  ((10, 11, 0), ([(0, .negSucc 0), (1, .ofNat 0), (2, .ofNat 0), (3, .ofNat 0)], [], [0, 1, 2]), (sxE0, [], [], ([], .ofNat 0)))]
theorem sxvI359 : (sx_exec sxRT [sxI358] sxLT sxhI359 92 0 sxI359.2.2.1 (sx_argl 0 sxI359.2.2.2.1) [] [] sxjI359).isSome = true := by decide +kernel
def sxI360 : sxI := (123, (2, 40), ([(.ofNat 0, .ofNat 0), (.negSucc 2147483647, .ofNat 2147483647)], [43], 0, [], [], [], []), [(2, 0, .ofNat 0), (0, 1, .ofNat 0)], [], [(([], [], 0, [], [], [], []), some (0, 0, .ofNat 0)), (([], [], 0, [([(1, .ofNat 1)], .ofNat 0), ([(1, .negSucc 0)], .ofNat 5)], [], [], []), some (0, 0, .ofNat 1))])
def sxhI360 : sxH := (sxk_X12_isRule, sxgX12, sxpX12, sxcX12, (sxkiX12, sxklX12, sxksX12), (2, sxI360.2.2.2.2.1, sxI360.2.2.2.2.2, 1), (2, 1, 0), (2, 40))
def sxjI360 : List sxJ := [((17, 11, 0), ([], [], []), (sxE0, [], [], ([], .ofNat 0))),
  ((17, 11, 0), ([], [], []), (sxE0, [], [], ([], .ofNat 0))),
  ((17, 11, 1), ([], [], []), (sxE0, [], [], ([], .ofNat 0)))]
theorem sxvI360 : (sx_exec sxRT [] sxLT sxhI360 66 0 sxI360.2.2.1 (sx_argl 0 sxI360.2.2.2.1) [] [] sxjI360).isSome = true := by decide +kernel
def sxI361 : sxI := (99, (3, 61), ([(.ofNat 0, .ofNat 0), (.negSucc 2147483647, .ofNat 2147483647)], [43], 0, [], [], [], []), [(2, 0, .ofNat 0), (0, 1, .ofNat 0)], [(43, 21, 22)], [(([(.negSucc 1, .ofNat 5)], [], 0, [], [], [], []), some (0, 2, .ofNat 0))])
def sxhI361 : sxH := (sxk_X12_force, sxgX12, sxpX12, sxcX12, (sxkiX12, sxklX12, sxksX12), (3, sxI361.2.2.2.2.1, sxI361.2.2.2.2.2, 0), (2, 1, 0), (3, 61))
def sxjI361 : List sxJ := [((27, 11, 0), ([(2, .ofNat 0)], [], []), (sxE0, [], [], ([], .ofNat 0))),
  ((7, 10, 0), ([(0, .ofNat 0), (1, .ofNat 0)], [0], []), (sxE0, [], [], ([], .ofNat 0))),
  ((15, 11, 0), ([(0, .negSucc 1)], [], []), (sxE0, [], [], ([], .ofNat 0))),
  ((10, 7, 0), ([], [], []), (sxE0, [], [], ([(1, .ofNat 1)], .ofNat 0))),
  ((10, 7, 0), ([], [], []), (sxE0, [], [], ([(1, .negSucc 0)], .ofNat 5))),
  ((27, 11, 0), ([(2, .ofNat 0)], [], []), (sxE0, [], [], ([], .ofNat 0)))]
theorem sxvI361 : (sx_exec sxRT [sxI360] sxLT sxhI361 82 0 sxI361.2.2.1 (sx_argl 0 sxI361.2.2.2.1) [] [] sxjI361).isSome = true := by decide +kernel
def sxI362 : sxI := (110, (2, 40), ([(.ofNat 0, .ofNat 0), (.negSucc 2147483647, .ofNat 2147483647), (.ofNat 0, .ofNat 1), (.ofNat 0, .ofNat 7), (.ofNat 0, .ofNat 8)], [43, 53], 1, [], [(20, [(2, .ofNat 0), (3, .ofNat 0), (4, .ofNat 0)], [0])], [((0, 0), (0, .ofNat 20), (2, 1, .ofNat 0))], [(1, (0, 108), 0)]), [(2, 0, .ofNat 0), (0, 1, .ofNat 0)], [], [(([], [], 0, [], [], [], []), some (0, 0, .ofNat 0)), (([], [], 0, [([(1, .ofNat 1)], .ofNat 0), ([(1, .negSucc 0)], .ofNat 6), ([(3, .ofNat 1), (1, .negSucc 0)], .negSucc 0), ([(3, .ofNat 1), (2, .negSucc 0)], .ofNat 0), ([(3, .ofNat 1), (0, .negSucc 0)], .negSucc 0)], [], [], []), some (0, 0, .ofNat 1))])
def sxhI362 : sxH := (sxk_X12_isBed, sxgX12, sxpX12, sxcX12, (sxkiX12, sxklX12, sxksX12), (2, sxI362.2.2.2.2.1, sxI362.2.2.2.2.2, 1), (5, 2, 1), (2, 40))
def sxjI362 : List sxJ := [((19, 11, 0), ([], [], []), (sxE0, [], [], ([], .ofNat 0))),
  ((11, 3, 1), ([(0, .ofNat 0), (2, .ofNat 0), (3, .ofNat 0), (4, .ofNat 0), (5, .ofNat 0)], [], [0]), (sxE0, [], [], ([], .ofNat 0))),
  ((11, 7, 0), ([], [], []), (sxE0, [], [], ([(5, .ofNat 1), (3, .negSucc 0)], .ofNat 0))),
  ((11, 7, 0), ([], [], []), (sxE0, [], [], ([(3, .ofNat 1), (5, .negSucc 0)], .ofNat 0))),
  ((19, 11, 0), ([], [], []), (sxE0, [], [], ([], .ofNat 0))),
  ((19, 11, 1), ([], [], []), (sxE0, [], [], ([], .ofNat 0)))]
theorem sxvI362 : (sx_exec sxRT [] sxLT sxhI362 71 0 sxI362.2.2.1 (sx_argl 0 sxI362.2.2.2.1) [] [] sxjI362).isSome = true := by decide +kernel
def sxI363 : sxI := (166, (2, 40), ([(.ofNat 0, .ofNat 0), (.ofNat 0, .ofNat 6), (.ofNat 0, .ofNat 1), (.ofNat 0, .ofNat 7), (.ofNat 0, .ofNat 8)], [43, 53], 1, [], [(20, [(2, .ofNat 0), (3, .ofNat 0), (4, .ofNat 0)], [0])], [((0, 0), (0, .ofNat 20), (2, 1, .ofNat 0))], [(1, (0, 108), 0)]), [(2, 0, .ofNat 0), (0, 1, .ofNat 0)], [], [(([(.ofNat 0, .ofNat 6)], [], 0, [], [(5, [(1, .ofNat 11), (5, .ofNat 0)], [0])], [], []), some (0, 5, .ofNat 0))])
def sxhI363 : sxH := (sxk_X12_sheetOn, sxgX12, sxpX12, sxcX12, (sxkiX12, sxklX12, sxksX12), (2, sxI363.2.2.2.2.1, sxI363.2.2.2.2.2, 0), (5, 2, 1), (2, 40))
def sxjI363 : List sxJ := [((9, 3, 4), ([(0, .ofNat 0), (2, .ofNat 0), (3, .ofNat 0), (4, .ofNat 0), (1, .ofNat 11), (5, .ofNat 0)], [], [0]), (sxE0, [], [], ([], .ofNat 0))),
  ((9, 7, 0), ([], [], []), (sxE0, [], [], ([(5, .ofNat 1)], .ofNat 0))),
  ((9, 7, 0), ([], [], []), (sxE0, [], [], ([(5, .negSucc 0)], .ofNat 6))),
  ((9, 11, 0), ([(5, .ofNat 0)], [], []), (sxE0, [], [], ([], .ofNat 0)))]
theorem sxvI363 : (sx_exec sxRT [] sxLT sxhI363 61 0 sxI363.2.2.1 (sx_argl 0 sxI363.2.2.2.1) [] [] sxjI363).isSome = true := by decide +kernel
def sxI364 : sxI := (102, (3, 61), ([(.ofNat 0, .ofNat 0), (.ofNat 0, .ofNat 6), (.ofNat 0, .ofNat 1), (.ofNat 0, .ofNat 7), (.ofNat 0, .ofNat 8)], [43, 53], 1, [], [(20, [(2, .ofNat 0), (3, .ofNat 0), (4, .ofNat 0)], [0])], [((0, 0), (0, .ofNat 20), (2, 1, .ofNat 0))], [(1, (0, 108), 0)]), [(2, 0, .ofNat 0), (0, 1, .ofNat 0)], [], [(([(.negSucc 2147483647, .ofNat 2147483647)], [], 0, [], [], [], []), some (0, 5, .ofNat 0))])
def sxhI364 : sxH := (sxk_X12_gradeOn, sxgX12, sxpX12, sxcX12, (sxkiX12, sxklX12, sxksX12), (2, sxI364.2.2.2.2.1, sxI364.2.2.2.2.2, 0), (5, 2, 1), (3, 61))
def sxjI364 : List sxJ := [((8, 10, 0), ([(0, .ofNat 0), (1, .ofNat 0), (2, .ofNat 0), (3, .ofNat 0), (4, .ofNat 0)], [0, 1], [0]), (sxE0, [], [], ([], .ofNat 0))),
  ((13, 11, 0), ([(6, .ofNat 0)], [], []), (sxE0, [], [], ([], .ofNat 0)))]
theorem sxvI364 : (sx_exec sxRT [sxI363] sxLT sxhI364 61 0 sxI364.2.2.1 (sx_argl 0 sxI364.2.2.2.1) [] [] sxjI364).isSome = true := by decide +kernel
def sxI365 : sxI := (118, (4, 82), ([(.ofNat 0, .ofNat 0), (.ofNat 0, .ofNat 6), (.ofNat 0, .ofNat 1), (.ofNat 0, .ofNat 7), (.ofNat 0, .ofNat 8)], [43, 53], 1, [], [(20, [(2, .ofNat 0), (3, .ofNat 0), (4, .ofNat 0)], [0])], [((0, 0), (0, .ofNat 20), (2, 1, .ofNat 0))], [(1, (0, 108), 0)]), [(2, 0, .ofNat 0), (0, 1, .ofNat 0)], [], [(([], [], 0, [], [], [], []), some (0, 0, .ofNat 0)), (([], [], 0, [], [], [], []), some (0, 0, .ofNat 1))])
def sxhI365 : sxH := (sxk_X12_isLet, sxgX12, sxpX12, sxcX12, (sxkiX12, sxklX12, sxksX12), (2, sxI365.2.2.2.2.1, sxI365.2.2.2.2.2, 1), (5, 2, 1), (4, 82))
def sxjI365 : List sxJ := [((2, 10, 0), ([(0, .ofNat 0), (1, .ofNat 0), (2, .ofNat 0), (3, .ofNat 0), (4, .ofNat 0)], [0, 1], [0]), (sxE0, [], [], ([], .ofNat 0))),
  ((22, 11, 0), ([], [], []), (sxE0, [], [], ([], .ofNat 0))),
  ((22, 11, 1), ([], [], []), (sxE0, [], [], ([], .ofNat 0)))]
theorem sxvI365 : (sx_exec sxRT [sxI364] sxLT sxhI365 68 0 sxI365.2.2.1 (sx_argl 0 sxI365.2.2.2.1) [] [] sxjI365).isSome = true := by decide +kernel
def sxI366 : sxI := (137, (5, 103), ([(.ofNat 0, .ofNat 0), (.negSucc 2147483647, .ofNat 2147483647), (.negSucc 2147483647, .ofNat 2147483647), (.ofNat 0, .ofNat 1), (.ofNat 0, .ofNat 7), (.ofNat 0, .ofNat 8)], [43, 53], 1, [], [(20, [(3, .ofNat 0), (4, .ofNat 0), (5, .ofNat 0)], [0])], [((0, 0), (0, .ofNat 20), (2, 1, .ofNat 0))], [(1, (0, 108), 0)]), [(2, 0, .ofNat 0), (0, 1, .ofNat 0), (0, 2, .ofNat 0)], [], [(([(.negSucc 2147483647, .ofNat 2147483647)], [], 0, [], [], [], []), some (0, 6, .ofNat 0))])
def sxhI366 : sxH := (sxk_X12_lodger, sxgX12, sxpX12, sxcX12, (sxkiX12, sxklX12, sxksX12), (3, sxI366.2.2.2.2.1, sxI366.2.2.2.2.2, 0), (6, 2, 1), (5, 103))
def sxjI366 : List sxJ := [((2, 10, 0), ([(0, .ofNat 0), (1, .ofNat 0), (3, .ofNat 0), (4, .ofNat 0), (5, .ofNat 0)], [0, 1], [0]), (sxE0, [], [], ([], .ofNat 0))),
  ((21, 11, 0), ([(0, .negSucc 0)], [], []), (sxE0, [], [], ([], .ofNat 0))),
  ((5, 7, 0), ([], [], []), (sxE0, [], [], ([(1, .ofNat 1)], .ofNat 0))),
  ((5, 7, 0), ([], [], []), (sxE0, [], [], ([(1, .negSucc 0)], .ofNat 6))),
  ((5, 7, 0), ([], [], []), (sxE0, [], [], ([(4, .ofNat 1), (1, .negSucc 0)], .negSucc 0))),
  ((14, 10, 1), ([(0, .ofNat 0), (2, .ofNat 0), (0, .ofNat 0), (0, .ofNat 3)], [], []), (sxE0, [], [], ([], .ofNat 0))),
  ((21, 11, 0), ([(0, .negSucc 0)], [], []), (sxE0, [], [], ([], .ofNat 0))),
  ((17, 7, 0), ([], [], []), (sxE0, [], [], ([(2, .ofNat 1), (0, .negSucc 0)], .ofNat 0))),
  ((17, 7, 0), ([], [], []), (sxE0, [], [], ([(0, .ofNat 1), (2, .negSucc 0)], .ofNat 3))),
  ((81, 11, 0), ([(6, .ofNat 0)], [], []), (sxE0, [], [], ([], .ofNat 0))),
  ((58, 10, 2), ([(0, .ofNat 0), (1, .ofNat 0), (3, .ofNat 0), (4, .ofNat 0), (5, .ofNat 0)], [0, 1], [0]), (sxE0, [], [], ([], .ofNat 0))),
  ((81, 11, 0), ([(0, .ofNat 0)], [], []), (sxE0, [], [], ([], .ofNat 0))),
  ((81, 11, 0), ([(0, .ofNat 1)], [], []), (sxE0, [], [], ([], .ofNat 0))),
  ((45, 10, 3), ([(0, .ofNat 0), (1, .ofNat 0), (3, .ofNat 0), (4, .ofNat 0), (5, .ofNat 0)], [0, 1], [0]), (sxE0, [], [], ([], .ofNat 0))),
  ((81, 11, 0), ([(6, .ofNat 0)], [], []), (sxE0, [], [], ([], .ofNat 0))),
  ((81, 11, 0), ([(6, .ofNat 0)], [], []), (sxE0, [], [], ([], .ofNat 0)))]
theorem sxvI366 : (sx_exec sxRT [sxI362, sxI310, sxI365, sxI363] sxLT sxhI366 121 0 sxI366.2.2.1 (sx_argl 0 sxI366.2.2.2.1) [] [] sxjI366).isSome = true := by decide +kernel
def sxI367 : sxI := (75, (3, 61), ([(.ofNat 0, .ofNat 0), (.ofNat 0, .ofNat 6), (.ofNat 0, .ofNat 7), (.ofNat 0, .ofNat 8)], [43, 53], 1, [([(2, .ofNat 1), (1, .negSucc 0)], .negSucc 0)], [(20, [(0, .ofNat 1), (2, .ofNat 0), (3, .ofNat 0)], [0])], [((0, 0), (0, .ofNat 20), (2, 1, .ofNat 0))], [(1, (0, 108), 0)]), [(2, 0, .ofNat 0), (0, 1, .ofNat 0)], [], [(([(.ofNat 0, .ofNat 6)], [], 0, [([(2, .ofNat 1)], .negSucc 0), ([(2, .ofNat 1), (4, .negSucc 0)], .negSucc 0)], [], [], []), some (0, 4, .ofNat 0))])
def sxhI367 : sxH := (sxk_X12_bedOf, sxgX12, sxpX12, sxcX12, (sxkiX12, sxklX12, sxksX12), (3, sxI367.2.2.2.2.1, sxI367.2.2.2.2.2, 0), (4, 2, 1), (3, 61))
def sxjI367 : List sxJ := [((1, 3, 15), ([(0, .ofNat 0), (1, .ofNat 0)], [], [0]), (sxE0, [], [], ([], .ofNat 0))),
  ((2, 0, 0), ([(0, .ofNat 0)], [], []), (([(.ofNat 0, .ofNat 7)], [], 0, [], [(25, [(4, .ofNat 0), (1, .ofNat 0)], [0])], [((0, 0), (0, .ofNat 20), (2, 1, .ofNat 0))], [(1, (0, 108), 0)]), [(2, (0, 4, .ofNat 0)), (0, (2, 0, .ofNat 0)), (1, (0, 1, .ofNat 0))], [], ([(4, .negSucc 0)], .ofNat 7))),
  ((3, 3, 17), ([(0, .ofNat 0), (2, .ofNat 0), (3, .ofNat 0), (4, .ofNat 0), (1, .ofNat 0)], [], [0]), (sxE0, [], [], ([], .ofNat 0))),
  ((3, 7, 0), ([], [], []), (sxE0, [], [], ([(2, .ofNat 1), (4, .negSucc 0)], .negSucc 0))),
  ((4, 10, 0), ([(0, .ofNat 0), (4, .ofNat 0), (0, .ofNat 1), (2, .ofNat 0), (3, .ofNat 0)], [0, 1], [0]), (sxE0, [], [], ([], .ofNat 0))),
  ((18, 11, 0), ([(4, .ofNat 0)], [], []), (sxE0, [], [], ([], .ofNat 0))),
  ((11, 3, 16), ([(0, .ofNat 0), (4, .ofNat 0), (1, .ofNat 0), (5, .ofNat 0)], [], [0]), (sxE0, [], [], ([], .ofNat 0))),
  ((2, 2, 0), ([(4, .ofNat 1)], [], []), (sxE0, [], [], ([], .ofNat 0)))]
theorem sxvI367 : (sx_exec sxRT [sxI363] sxLT sxhI367 79 0 sxI367.2.2.1 (sx_argl 0 sxI367.2.2.2.1) [] [] sxjI367).isSome = true := by decide +kernel
def sxI368 : sxI := (165, (4, 83), ([(.ofNat 0, .ofNat 0), (.negSucc 2147483647, .ofNat 2147483647), (.negSucc 2147483647, .ofNat 2147483647), (.ofNat 0, .ofNat 7), (.ofNat 0, .ofNat 8)], [43, 53], 1, [], [(20, [(0, .ofNat 1), (3, .ofNat 0), (4, .ofNat 0)], [0])], [((0, 0), (0, .ofNat 20), (2, 1, .ofNat 0))], [(1, (0, 108), 0)]), [(2, 0, .ofNat 0), (0, 1, .ofNat 0), (0, 2, .ofNat 0)], [], [(([(.negSucc 2147483647, .ofNat 2147483647)], [], 0, [], [], [], []), some (0, 5, .ofNat 0))])
def sxhI368 : sxH := (sxk_X12_sheet, sxgX12, sxpX12, sxcX12, (sxkiX12, sxklX12, sxksX12), (3, sxI368.2.2.2.2.1, sxI368.2.2.2.2.2, 0), (5, 2, 1), (4, 83))
def sxjI368 : List sxJ := [((2, 10, 0), ([(0, .ofNat 0), (1, .ofNat 0), (0, .ofNat 1), (3, .ofNat 0), (4, .ofNat 0)], [0, 1], [0]), (sxE0, [], [], ([], .ofNat 0))),
  ((21, 11, 0), ([(0, .negSucc 0)], [], []), (sxE0, [], [], ([], .ofNat 0))),
  ((5, 7, 0), ([], [], []), (sxE0, [], [], ([(1, .ofNat 1)], .ofNat 0))),
  ((5, 7, 0), ([], [], []), (sxE0, [], [], ([(1, .negSucc 0)], .ofNat 6))),
  ((5, 7, 0), ([], [], []), (sxE0, [], [], ([(3, .ofNat 1), (1, .negSucc 0)], .negSucc 0))),
  ((14, 10, 1), ([(0, .ofNat 0), (2, .ofNat 0), (0, .ofNat 0), (0, .ofNat 2)], [], []), (sxE0, [], [], ([], .ofNat 0))),
  ((21, 11, 0), ([(0, .negSucc 0)], [], []), (sxE0, [], [], ([], .ofNat 0))),
  ((17, 7, 0), ([], [], []), (sxE0, [], [], ([(2, .ofNat 1), (0, .negSucc 0)], .ofNat 0))),
  ((17, 7, 0), ([], [], []), (sxE0, [], [], ([(0, .ofNat 1), (2, .negSucc 0)], .ofNat 2))),
  ((57, 7, 0), ([], [], []), (sxE0, [], [], ([(3, .ofNat 1), (1, .negSucc 0)], .negSucc 0))),
  ((57, 10, 2), ([(0, .ofNat 0), (1, .ofNat 0), (3, .ofNat 0), (4, .ofNat 0)], [0, 1], [0]), (sxE0, [], [], ([], .ofNat 0))),
  ((60, 11, 0), ([(5, .ofNat 0)], [], []), (sxE0, [], [], ([], .ofNat 0))),
  ((60, 11, 0), ([(5, .ofNat 0)], [], []), (sxE0, [], [], ([], .ofNat 0))),
  ((60, 11, 0), ([(5, .ofNat 0)], [], []), (sxE0, [], [], ([], .ofNat 0)))]
theorem sxvI368 : (sx_exec sxRT [sxI362, sxI310, sxI367] sxLT sxhI368 105 0 sxI368.2.2.1 (sx_argl 0 sxI368.2.2.2.1) [] [] sxjI368).isSome = true := by decide +kernel
def sxI369 : sxI := (113, (2, 40), ([(.ofNat 0, .ofNat 0), (.ofNat 0, .ofNat 1), (.ofNat 0, .ofNat 7), (.ofNat 0, .ofNat 8)], [43, 53], 1, [], [(20, [(1, .ofNat 0), (2, .ofNat 0), (3, .ofNat 0)], [0])], [((0, 0), (0, .ofNat 20), (2, 1, .ofNat 0))], [(1, (0, 108), 0)]), [(2, 0, .ofNat 0)], [], [(([], [], 0, [], [], [], []), some (0, 0, .ofNat 0)), (([], [], 0, [], [], [], []), some (0, 0, .ofNat 1))])
def sxhI369 : sxH := (sxk_X12_isHouse, sxgX12, sxpX12, sxcX12, (sxkiX12, sxklX12, sxksX12), (1, sxI369.2.2.2.2.1, sxI369.2.2.2.2.2, 1), (4, 2, 1), (2, 40))
def sxjI369 : List sxJ := [((15, 11, 0), ([], [], []), (sxE0, [], [], ([], .ofNat 0))),
  ((15, 11, 1), ([], [], []), (sxE0, [], [], ([], .ofNat 0)))]
theorem sxvI369 : (sx_exec sxRT [] sxLT sxhI369 63 0 sxI369.2.2.1 (sx_argl 0 sxI369.2.2.2.1) [] [] sxjI369).isSome = true := by decide +kernel
def sxI370 : sxI := (127, (2, 40), ([(.ofNat 0, .ofNat 0), (.ofNat 0, .ofNat 20), (.ofNat 0, .ofNat 7), (.ofNat 0, .ofNat 8)], [43, 53, 54], 2, [], [(20, [(0, .ofNat 1), (2, .ofNat 0), (3, .ofNat 0)], [0]), (21, [(1, .ofNat 0), (2, .ofNat 0)], [1])], [((0, 0), (0, .ofNat 20), (2, 1, .ofNat 0)), ((0, 0), (0, .ofNat 24), (2, 2, .ofNat 0)), ((0, 0), (0, .ofNat 25), (0, 1, .ofNat 0))], [(1, (0, 108), 0), (2, (0, 580), 1)]), [(2, 0, .ofNat 0)], [(43, 25, 26), (54, 0, 580)], [(([(.ofNat 1, .ofNat 20)], [], 1, [], [(21, [(4, .ofNat 0), (2, .ofNat 0)], [2])], [((0, 0), (0, .ofNat 25), (0, 4, .ofNat 0))], [(2, (0, 580), 2)]), none)])
def sxhI370 : sxH := (sxk_X12_keepsAct, sxgX12, sxpX12, sxcX12, (sxkiX12, sxklX12, sxksX12), (2, sxI370.2.2.2.2.1, sxI370.2.2.2.2.2, 4), (4, 3, 2), (2, 40))
def sxjI370 : List sxJ := [((51, 3, 22), ([(0, .ofNat 0), (1, .ofNat 0)], [], []), (sxE0, [], [], ([], .ofNat 0))),
  ((51, 7, 0), ([], [], []), (sxE0, [], [], ([(4, .negSucc 0), (1, .ofNat 29)], .ofNat 0))),
  ((51, 3, 20), ([(0, .ofNat 0), (4, .ofNat 0), (0, .ofNat 10)], [], [1, 0]), (sxE0, [], [], ([], .ofNat 0))),
  ((52, 0, 0), ([(0, .ofNat 0)], [], [1]), (([(.ofNat 0, .ofNat 29)], [], 1, [], [(24, [(5, .ofNat 0), (4, .ofNat 0), (0, .ofNat 10)], [2, 1, 0])], [((0, 0), (0, .ofNat 20), (2, 1, .ofNat 0)), ((0, 0), (0, .ofNat 24), (2, 2, .ofNat 0)), ((0, 0), (0, .ofNat 25), (0, 1, .ofNat 0))], [(1, (0, 108), 0), (2, (0, 580), 2)]), [(1, (0, 5, .ofNat 0)), (0, (2, 0, .ofNat 0))], [], ([(5, .negSucc 0)], .ofNat 29))),
  ((87, 3, 26), ([(0, .ofNat 0), (5, .ofNat 0), (4, .ofNat 0), (1, .ofNat 0), (2, .ofNat 0), (3, .ofNat 0)], [], [2, 1, 0]), (sxE0, [], [], ([], .ofNat 0))),
  ((97, 11, 0), ([(1, .ofNat 1)], [], [2]), (sxE0, [], [], ([], .ofNat 0))),
  ((81, 7, 0), ([], [], []), (sxE0, [], [], ([(4, .negSucc 0), (6, .ofNat 1)], .ofNat 0))),
  ((81, 7, 0), ([], [], []), (sxE0, [], [], ([(7, .ofNat 1), (4, .negSucc 0), (5, .negSucc 0)], .ofNat 0))),
  ((81, 7, 0), ([], [], []), (sxE0, [], [], ([(4, .ofNat 1), (6, .negSucc 0)], .ofNat 0))),
  ((81, 7, 0), ([], [], []), (sxE0, [], [], ([(7, .negSucc 0), (4, .ofNat 1), (5, .ofNat 1)], .ofNat 0))),
  ((81, 7, 0), ([], [], []), (sxE0, [], [], ([(0, .negSucc 0)], .ofNat 0))),
  ((81, 7, 0), ([], [], []), (sxE0, [], [], ([(0, .ofNat 1)], .ofNat 0))),
  ((81, 3, 21), ([(0, .ofNat 0), (5, .ofNat 0), (4, .ofNat 0), (0, .ofNat 10), (7, .ofNat 0), (5, .ofNat 10), (8, .ofNat 0)], [], [2, 1, 0, 3]), (sxE0, [], [], ([], .ofNat 0))),
  ((52, 2, 0), ([(5, .ofNat 1)], [], [3]), (sxE0, [], [], ([], .ofNat 0))),
  ((11, 3, 31), ([(0, .ofNat 0)], [], [1]), (sxE0, [], [], ([], .ofNat 0))),
  ((12, 0, 0), ([(0, .ofNat 29)], [], [1]), (([(.ofNat 29, .ofNat 580)], [], 1, [], [(30, [(4, .ofNat 0)], [2, 1])], [((0, 0), (0, .ofNat 20), (2, 1, .ofNat 0)), ((0, 0), (0, .ofNat 24), (2, 2, .ofNat 0)), ((0, 0), (0, .ofNat 25), (0, 1, .ofNat 0))], [(1, (0, 108), 0), (2, (0, 580), 2)]), [(1, (0, 4, .ofNat 0)), (0, (2, 0, .ofNat 0))], [], ([(4, .negSucc 0)], .ofNat 580))),
  ((40, 3, 33), ([(0, .ofNat 0), (4, .ofNat 0), (2, .ofNat 0), (1, .ofNat 0)], [], [2, 1]), (sxE0, [], [], ([], .ofNat 0))),
  ((51, 3, 22), ([(0, .ofNat 0), (1, .negSucc 0)], [], []), (sxE0, [], [], ([], .ofNat 0))),
  ((51, 7, 0), ([], [], []), (sxE0, [], [], ([(5, .ofNat 1), (1, .negSucc 28)], .ofNat 29))),
  ((51, 7, 0), ([], [], []), (sxE0, [], [], ([(5, .negSucc 0), (1, .ofNat 29)], .negSucc 28))),
  ((51, 3, 20), ([(0, .ofNat 0), (5, .ofNat 0), (0, .ofNat 10)], [], [2, 0]), (sxE0, [], [], ([], .ofNat 0))),
  ((52, 0, 0), ([(0, .ofNat 0)], [], [2]), (([(.ofNat 0, .ofNat 29)], [], 1, [], [(24, [(6, .ofNat 0), (5, .ofNat 0), (0, .ofNat 10)], [3, 2, 0])], [((0, 0), (0, .ofNat 25), (0, 1, .negSucc 0)), ((0, 0), (0, .ofNat 20), (2, 1, .ofNat 0)), ((0, 0), (0, .ofNat 24), (2, 2, .ofNat 0))], [(1, (0, 108), 0), (2, (0, 580), 3)]), [(1, (0, 6, .ofNat 0)), (0, (2, 0, .ofNat 0))], [], ([(6, .negSucc 0)], .ofNat 29))),
  ((87, 3, 26), ([(0, .ofNat 0), (6, .ofNat 0), (5, .ofNat 0), (1, .negSucc 0), (2, .ofNat 0), (3, .ofNat 0)], [], [3, 2, 0]), (sxE0, [], [], ([], .ofNat 0))),
  ((97, 11, 0), ([(1, .ofNat 0)], [], [3]), (sxE0, [], [], ([], .ofNat 0))),
  ((81, 7, 0), ([], [], []), (sxE0, [], [], ([(8, .ofNat 1), (5, .negSucc 0), (6, .negSucc 0)], .ofNat 0))),
  ((81, 7, 0), ([], [], []), (sxE0, [], [], ([(8, .negSucc 0), (5, .ofNat 1), (6, .ofNat 1)], .ofNat 0))),
  ((81, 7, 0), ([], [], []), (sxE0, [], [], ([(0, .negSucc 0)], .ofNat 0))),
  ((81, 7, 0), ([], [], []), (sxE0, [], [], ([(0, .ofNat 1)], .ofNat 0))),
  ((81, 3, 21), ([(0, .ofNat 0), (6, .ofNat 0), (5, .ofNat 0), (0, .ofNat 10), (8, .ofNat 0), (6, .ofNat 10), (9, .ofNat 0)], [], [3, 2, 0, 4]), (sxE0, [], [], ([], .ofNat 0))),
  ((52, 2, 0), ([(6, .ofNat 1)], [], [4]), (sxE0, [], [], ([], .ofNat 0))),
  ((34, 3, 32), ([(0, .ofNat 0), (4, .ofNat 0), (5, .ofNat 0)], [], [2, 1, 3]), (sxE0, [], [], ([], .ofNat 0))),
  ((12, 2, 0), ([(4, .ofNat 1)], [], [3]), (sxE0, [], [], ([], .ofNat 0)))]
theorem sxvI370 : (sx_exec sxRT [] sxLT sxhI370 385 0 sxI370.2.2.1 (sx_argl 0 sxI370.2.2.2.1) [] [] sxjI370).isSome = true := by decide +kernel
def sxI371 : sxI := (81, (2, 40), ([(.ofNat 0, .ofNat 0), (.ofNat 0, .ofNat 6), (.ofNat 0, .ofNat 6), (.ofNat 0, .ofNat 7), (.ofNat 0, .ofNat 8)], [43, 53], 1, [([(3, .ofNat 1), (1, .negSucc 0)], .negSucc 0), ([(3, .ofNat 1), (2, .negSucc 0)], .negSucc 0)], [(20, [(0, .ofNat 1), (3, .ofNat 0), (4, .ofNat 0)], [0])], [((0, 0), (0, .ofNat 20), (2, 1, .ofNat 0))], [(1, (0, 108), 0)]), [(2, 0, .ofNat 0), (0, 1, .ofNat 0), (0, 2, .ofNat 0)], [(53, 11, 18)], [(([], [], 1, [], [(20, [(0, .ofNat 1), (3, .ofNat 0), (4, .ofNat 0)], [1])], [], [(1, (0, 108), 1)]), none)])
def sxhI371 : sxH := (sxk_X12_changes, sxgX12, sxpX12, sxcX12, (sxkiX12, sxklX12, sxksX12), (4, sxI371.2.2.2.2.1, sxI371.2.2.2.2.2, 4), (5, 2, 1), (2, 40))
def sxjI371 : List sxJ := [((9, 3, 4), ([(0, .ofNat 0), (0, .ofNat 1), (3, .ofNat 0), (4, .ofNat 0), (1, .ofNat 11), (5, .ofNat 0)], [], [0]), (sxE0, [], [], ([], .ofNat 0))),
  ((9, 7, 0), ([], [], []), (sxE0, [], [], ([(5, .ofNat 1)], .ofNat 0))),
  ((9, 7, 0), ([], [], []), (sxE0, [], [], ([(5, .negSucc 0)], .ofNat 6))),
  ((27, 3, 4), ([(0, .ofNat 0), (0, .ofNat 1), (3, .ofNat 0), (4, .ofNat 0), (2, .ofNat 11), (6, .ofNat 0)], [], [0]), (sxE0, [], [], ([], .ofNat 0))),
  ((27, 7, 0), ([], [], []), (sxE0, [], [], ([(6, .ofNat 1)], .ofNat 0))),
  ((27, 7, 0), ([], [], []), (sxE0, [], [], ([(6, .negSucc 0)], .ofNat 6))),
  ((28, 3, 13), ([(0, .ofNat 0), (0, .ofNat 1), (3, .ofNat 0), (4, .ofNat 0), (1, .ofNat 11), (6, .ofNat 0)], [], [0, 1]), (sxE0, [], [], ([], .ofNat 0))),
  ((38, 3, 13), ([(0, .ofNat 0), (0, .ofNat 0), (3, .ofNat 0), (4, .ofNat 0), (2, .ofNat 11), (5, .ofNat 0)], [], [1, 2]), (sxE0, [], [], ([], .ofNat 0))),
  ((38, 3, 14), ([(0, .ofNat 0), (3, .ofNat 0), (4, .ofNat 0), (1, .ofNat 0), (2, .ofNat 0), (5, .ofNat 0), (6, .ofNat 0)], [], [0, 1, 2]), (sxE0, [], [], ([], .ofNat 0))),
  ((38, 11, 0), ([], [], [2]), (sxE0, [], [], ([], .ofNat 0)))]
theorem sxvI371 : (sx_exec sxRT [] sxLT sxhI371 87 0 sxI371.2.2.1 (sx_argl 0 sxI371.2.2.2.1) [] [] sxjI371).isSome = true := by decide +kernel
def sxI372 : sxI := (140, (3, 63), ([(.ofNat 0, .ofNat 0), (.ofNat 0, .ofNat 7), (.ofNat 0, .ofNat 8)], [43, 53], 1, [], [(20, [(0, .ofNat 1), (1, .ofNat 0), (2, .ofNat 0)], [0])], [((0, 0), (0, .ofNat 20), (2, 1, .ofNat 0))], [(1, (0, 108), 0)]), [(2, 0, .ofNat 0)], [(53, 11, 18)], [(([], [], 1, [], [(20, [(0, .ofNat 1), (1, .ofNat 0), (2, .ofNat 0)], [1])], [], [(1, (0, 108), 1)]), none)])
def sxhI372 : sxH := (sxk_X12_mixes, sxgX12, sxpX12, sxcX12, (sxkiX12, sxklX12, sxksX12), (3, sxI372.2.2.2.2.1, sxI372.2.2.2.2.2, 4), (3, 2, 1), (3, 63))
def sxjI372 : List sxJ := [((2, 0, 0), ([(0, .ofNat 0)], [], [0]), (([(.ofNat 0, .ofNat 8)], [], 1, [], [(20, [(0, .ofNat 1), (1, .ofNat 0), (2, .ofNat 0)], [1])], [((0, 0), (0, .ofNat 20), (2, 1, .ofNat 0))], [(1, (0, 108), 1)]), [(1, (0, 3, .ofNat 0)), (0, (2, 0, .ofNat 0))], [], ([(3, .negSucc 0)], .ofNat 8))),
  ((9, 3, 2), ([(0, .ofNat 0), (0, .ofNat 1), (1, .ofNat 0), (2, .ofNat 0), (4, .ofNat 0)], [], [1]), (sxE0, [], [], ([], .ofNat 0))),
  ((9, 7, 0), ([], [], []), (sxE0, [], [], ([(4, .ofNat 1), (2, .negSucc 0)], .ofNat 0))),
  ((9, 7, 0), ([], [], []), (sxE0, [], [], ([(2, .ofNat 1), (4, .negSucc 0)], .ofNat 0))),
  ((91, 11, 0), ([], [], [1]), (sxE0, [], [], ([], .ofNat 0))),
  ((2, 2, 0), ([(3, .ofNat 1)], [], [1]), (sxE0, [], [], ([], .ofNat 0))),
  ((43, 3, 6), ([(0, .ofNat 0), (0, .ofNat 1), (1, .ofNat 0), (2, .ofNat 0), (5, .ofNat 54), (8, .ofNat 0), (3, .ofNat 0), (0, .ofNat 1)], [], [1]), (sxE0, [], [], ([], .ofNat 0))),
  ((43, 7, 0), ([], [], []), (sxE0, [], [], ([(8, .ofNat 1)], .ofNat 0))),
  ((43, 7, 0), ([], [], []), (sxE0, [], [], ([(8, .negSucc 0), (1, .ofNat 1)], .negSucc 0))),
  ((2, 2, 0), ([(3, .ofNat 1)], [], [1]), (sxE0, [], [], ([], .ofNat 0))),
  ((58, 3, 6), ([(0, .ofNat 0), (0, .ofNat 1), (1, .ofNat 0), (2, .ofNat 0), (5, .ofNat 55), (10, .ofNat 0), (3, .ofNat 0), (0, .ofNat 2)], [], [1]), (sxE0, [], [], ([], .ofNat 0))),
  ((58, 7, 0), ([], [], []), (sxE0, [], [], ([(10, .ofNat 1)], .ofNat 0))),
  ((58, 7, 0), ([], [], []), (sxE0, [], [], ([(10, .negSucc 0), (1, .ofNat 1)], .negSucc 0))),
  ((2, 2, 0), ([(3, .ofNat 1)], [], [1]), (sxE0, [], [], ([], .ofNat 0))),
  ((82, 7, 0), ([], [], []), (sxE0, [], [], ([(1, .ofNat 1), (8, .negSucc 0)], .negSucc 0))),
  ((82, 7, 0), ([], [], []), (sxE0, [], [], ([(1, .ofNat 1), (10, .negSucc 0)], .negSucc 0))),
  ((82, 10, 0), ([(0, .ofNat 0), (8, .ofNat 0), (10, .ofNat 0), (1, .ofNat 0), (2, .ofNat 0)], [0, 1], [1]), (sxE0, [], [], ([], .ofNat 0))),
  ((2, 2, 0), ([(3, .ofNat 1)], [], [2]), (sxE0, [], [], ([], .ofNat 0)))]
theorem sxvI372 : (sx_exec sxRT [sxI371] sxLT sxhI372 217 0 sxI372.2.2.1 (sx_argl 0 sxI372.2.2.2.1) [] [] sxjI372).isSome = true := by decide +kernel
def sxI373 : sxI := (105, (3, 61), ([(.ofNat 0, .ofNat 0), (.ofNat 0, .ofNat 1), (.ofNat 0, .ofNat 7), (.ofNat 0, .ofNat 8)], [43, 53], 1, [], [(20, [(1, .ofNat 0), (2, .ofNat 0), (3, .ofNat 0)], [0])], [((0, 0), (0, .ofNat 20), (2, 1, .ofNat 0))], [(1, (0, 108), 0)]), [(2, 0, .ofNat 0)], [], [(([(.ofNat 0, .ofNat 127)], [], 0, [], [], [], []), some (0, 4, .ofNat 0))])
def sxhI373 : sxH := (sxk_X12_homeOnes, sxgX12, sxpX12, sxcX12, (sxkiX12, sxklX12, sxksX12), (3, sxI373.2.2.2.2.1, sxI373.2.2.2.2.2, 0), (4, 2, 1), (3, 61))
def sxjI373 : List sxJ := [((4, 0, 0), ([(0, .ofNat 0), (0, .ofNat 0)], [], []), (([(.ofNat 0, .ofNat 7), (.ofNat 0, .ofNat 127)], [], 0, [], [], [((0, 0), (0, .ofNat 20), (2, 1, .ofNat 0))], [(1, (0, 108), 0)]), [(2, (0, 4, .ofNat 0)), (1, (0, 5, .ofNat 0)), (0, (2, 0, .ofNat 0))], [], ([(4, .negSucc 0)], .ofNat 7))),
  ((11, 3, 1), ([(0, .ofNat 0), (1, .ofNat 0), (2, .ofNat 0), (3, .ofNat 0), (6, .ofNat 0)], [], [0]), (sxE0, [], [], ([], .ofNat 0))),
  ((11, 7, 0), ([], [], []), (sxE0, [], [], ([(6, .ofNat 1), (2, .negSucc 0)], .ofNat 0))),
  ((11, 7, 0), ([], [], []), (sxE0, [], [], ([(2, .ofNat 1), (6, .negSucc 0)], .ofNat 0))),
  ((40, 11, 0), ([(5, .ofNat 0)], [], []), (sxE0, [], [], ([], .ofNat 0))),
  ((17, 10, 0), ([(0, .ofNat 0), (4, .ofNat 0), (1, .ofNat 0), (2, .ofNat 0), (3, .ofNat 0)], [0, 1], [0]), (sxE0, [], [], ([], .ofNat 0))),
  ((4, 2, 0), ([(4, .ofNat 1), (8, .ofNat 0)], [], []), (sxE0, [], [], ([], .ofNat 0))),
  ((4, 2, 0), ([(4, .ofNat 1), (9, .ofNat 0)], [], []), (sxE0, [], [], ([], .ofNat 0)))]
theorem sxvI373 : (sx_exec sxRT [sxI363] sxLT sxhI373 120 0 sxI373.2.2.1 (sx_argl 0 sxI373.2.2.2.1) [] [] sxjI373).isSome = true := by decide +kernel
def sxI374 : sxI := (78, (2, 40), ([(.ofNat 0, .ofNat 0), (.ofNat 0, .ofNat 127)], [], 0, [], [], [], []), [(0, 1, .ofNat 0)], [], [(([(.negSucc 2147483647, .ofNat 2147483647)], [], 0, [], [], [], []), some (0, 2, .ofNat 0))])
def sxhI374 : sxH := (sxk_X12_bits, sxgX12, sxpX12, sxcX12, (sxkiX12, sxklX12, sxksX12), (3, sxI374.2.2.2.2.1, sxI374.2.2.2.2.2, 0), (2, 0, 0), (2, 40))
def sxjI374 : List sxJ := [((4, 0, 0), ([(1, .ofNat 0), (0, .ofNat 0)], [], []), (([(.ofNat 0, .ofNat 127), (.negSucc 2147483647, .ofNat 2147483647)], [], 0, [([(1, .ofNat 1), (2, .negSucc 0)], .ofNat 0)], [], [], []), [(2, (0, 2, .ofNat 0)), (1, (0, 3, .ofNat 0)), (0, (0, 1, .ofNat 0))], [], ([(2, .ofNat 1)], .ofNat 0))),
  ((21, 11, 0), ([(3, .ofNat 0)], [], []), (sxE0, [], [], ([], .ofNat 0))),
  ((11, 8, 2), ([], [], []), (sxE0, [], [], ([], .ofNat 0))),
  ((16, 3, 0), ([(0, .ofNat 0), (2, .ofNat 0), (2, .negSucc 0), (5, .ofNat 0)], [], []), (sxE0, [], [], ([], .ofNat 0))),
  ((4, 2, 0), ([(5, .ofNat 0), (4, .ofNat 0)], [], []), (sxE0, [], [], ([], .ofNat 0)))]
theorem sxvI374 : (sx_exec sxRT [] sxLT sxhI374 151 0 sxI374.2.2.1 (sx_argl 0 sxI374.2.2.2.1) [] [] sxjI374).isSome = true := by decide +kernel
def sxI375 : sxI := (134, (5, 103), ([(.ofNat 0, .ofNat 0), (.ofNat 0, .ofNat 1), (.ofNat 0, .ofNat 7), (.ofNat 0, .ofNat 8)], [43, 53], 1, [], [(20, [(1, .ofNat 0), (2, .ofNat 0), (3, .ofNat 0)], [0])], [((0, 0), (0, .ofNat 20), (2, 1, .ofNat 0))], [(1, (0, 108), 0)]), [(2, 0, .ofNat 0)], [], [(([(.ofNat 0, .ofNat 127)], [], 0, [], [], [], []), some (0, 4, .ofNat 0))])
def sxhI375 : sxH := (sxk_X12_letOnes, sxgX12, sxpX12, sxcX12, (sxkiX12, sxklX12, sxksX12), (3, sxI375.2.2.2.2.1, sxI375.2.2.2.2.2, 0), (4, 2, 1), (5, 103))
def sxjI375 : List sxJ := [((4, 0, 0), ([(0, .ofNat 0), (0, .ofNat 0)], [], []), (([(.ofNat 0, .ofNat 7), (.ofNat 0, .ofNat 127)], [], 0, [], [], [((0, 0), (0, .ofNat 20), (2, 1, .ofNat 0))], [(1, (0, 108), 0)]), [(2, (0, 4, .ofNat 0)), (1, (0, 5, .ofNat 0)), (0, (2, 0, .ofNat 0))], [], ([(4, .negSucc 0)], .ofNat 7))),
  ((11, 3, 1), ([(0, .ofNat 0), (1, .ofNat 0), (2, .ofNat 0), (3, .ofNat 0), (6, .ofNat 0)], [], [0]), (sxE0, [], [], ([], .ofNat 0))),
  ((11, 7, 0), ([], [], []), (sxE0, [], [], ([(6, .ofNat 1), (2, .negSucc 0)], .ofNat 0))),
  ((11, 7, 0), ([], [], []), (sxE0, [], [], ([(2, .ofNat 1), (6, .negSucc 0)], .ofNat 0))),
  ((39, 11, 0), ([(5, .ofNat 0)], [], []), (sxE0, [], [], ([], .ofNat 0))),
  ((17, 10, 0), ([(0, .ofNat 0), (4, .ofNat 0), (1, .ofNat 0), (2, .ofNat 0), (3, .ofNat 0)], [0, 1], [0]), (sxE0, [], [], ([], .ofNat 0))),
  ((4, 2, 0), ([(4, .ofNat 1), (7, .ofNat 0)], [], []), (sxE0, [], [], ([], .ofNat 0))),
  ((4, 2, 0), ([(4, .ofNat 1), (8, .ofNat 0)], [], []), (sxE0, [], [], ([], .ofNat 0)))]
theorem sxvI375 : (sx_exec sxRT [sxI365] sxLT sxhI375 120 0 sxI375.2.2.1 (sx_argl 0 sxI375.2.2.2.1) [] [] sxjI375).isSome = true := by decide +kernel
def sxI376 : sxI := (152, (2, 40), ([(.ofNat 0, .ofNat 0), (.ofNat 1, .ofNat 64)], [43], 0, [], [], [((0, 0), (0, .ofNat 18), (0, 1, .ofNat 0))], []), [(2, 0, .ofNat 0)], [(43, 18, 19)], [(([(.negSucc 9223372036854775807, .ofNat 9223372036854775807)], [], 0, [], [], [((0, 0), (0, .ofNat 18), (0, 1, .negSucc 0))], []), some (1, 2, .ofNat 0))])
def sxhI376 : sxH := (sxk_X12_pop, sxgX12, sxpX12, sxcX12, (sxkiX12, sxklX12, sxksX12), (1, sxI376.2.2.2.2.1, sxI376.2.2.2.2.2, 2), (2, 1, 0), (2, 40))
def sxjI376 : List sxJ := [((19, 11, 0), ([(2, .ofNat 0)], [], []), (sxE0, [], [], ([], .ofNat 0)))]
theorem sxvI376 : (sx_exec sxRT [] sxLT sxhI376 63 0 sxI376.2.2.1 (sx_argl 0 sxI376.2.2.2.1) [] [] sxjI376).isSome = true := by decide +kernel
def sxI377 : sxI := (145, (2, 40), ([(.ofNat 0, .ofNat 0), (.negSucc 2147483647, .ofNat 2147483647), (.negSucc 9223372036854775807, .ofNat 9223372036854775807), (.negSucc 9223372036854775807, .ofNat 9223372036854775807)], [], 0, [], [], [], []), [(0, 1, .ofNat 0), (1, 2, .ofNat 0), (1, 3, .ofNat 0)], [], [(([(.negSucc 9223372036854775807, .ofNat 9223372036854775807)], [], 0, [], [], [], []), some (1, 4, .ofNat 0))])
def sxhI377 : sxH := (sxk_X12_one, sxgX12, sxpX12, sxcX12, (sxkiX12, sxklX12, sxksX12), (5, sxI377.2.2.2.2.1, sxI377.2.2.2.2.2, 2), (4, 0, 0), (2, 40))
def sxjI377 : List sxJ := [((175, 11, 0), ([(4, .ofNat 0)], [], []), (sxE0, [], [], ([], .ofNat 0))),
  ((175, 11, 0), ([(4, .ofNat 0)], [], []), (sxE0, [], [], ([], .ofNat 0))),
  ((71, 11, 0), ([(4, .ofNat 0)], [], []), (sxE0, [], [], ([], .ofNat 0))),
  ((75, 11, 0), ([(4, .ofNat 0)], [], []), (sxE0, [], [], ([], .ofNat 0))),
  ((79, 11, 0), ([(4, .ofNat 0)], [], []), (sxE0, [], [], ([], .ofNat 0))),
  ((93, 11, 0), ([(5, .ofNat 0)], [], []), (sxE0, [], [], ([], .ofNat 0))),
  ((93, 11, 0), ([(0, .ofNat 0)], [], []), (sxE0, [], [], ([], .ofNat 0))),
  ((119, 11, 0), ([(0, .ofNat 0)], [], []), (sxE0, [], [], ([], .ofNat 0))),
  ((119, 11, 0), ([(0, .ofNat 1)], [], []), (sxE0, [], [], ([], .ofNat 0))),
  ((131, 11, 0), ([(0, .ofNat 0)], [], []), (sxE0, [], [], ([], .ofNat 0))),
  ((131, 11, 0), ([(0, .ofNat 1)], [], []), (sxE0, [], [], ([], .ofNat 0))),
  ((143, 11, 0), ([(0, .ofNat 0)], [], []), (sxE0, [], [], ([], .ofNat 0))),
  ((143, 11, 0), ([(0, .ofNat 1)], [], []), (sxE0, [], [], ([], .ofNat 0))),
  ((155, 11, 0), ([(0, .ofNat 0)], [], []), (sxE0, [], [], ([], .ofNat 0))),
  ((155, 11, 0), ([(0, .ofNat 1)], [], []), (sxE0, [], [], ([], .ofNat 0))),
  ((167, 11, 0), ([(0, .ofNat 0)], [], []), (sxE0, [], [], ([], .ofNat 0))),
  ((167, 11, 0), ([(0, .ofNat 1)], [], []), (sxE0, [], [], ([], .ofNat 0))),
  ((175, 11, 0), ([(4, .ofNat 0)], [], []), (sxE0, [], [], ([], .ofNat 0))),
  ((171, 11, 0), ([(4, .ofNat 0)], [], []), (sxE0, [], [], ([], .ofNat 0))),
  ((175, 11, 0), ([(4, .ofNat 0)], [], []), (sxE0, [], [], ([], .ofNat 0))),
  ((107, 11, 0), ([(5, .ofNat 0)], [], []), (sxE0, [], [], ([], .ofNat 0))),
  ((107, 11, 0), ([(0, .ofNat 0)], [], []), (sxE0, [], [], ([], .ofNat 0)))]
theorem sxvI377 : (sx_exec sxRT [] sxLT sxhI377 173 0 sxI377.2.2.1 (sx_argl 0 sxI377.2.2.2.1) [] [] sxjI377).isSome = true := by decide +kernel
def sxI378 : sxI := (153, (2, 40), ([(.ofNat 0, .ofNat 0), (.negSucc 9223372036854775807, .ofNat 9223372036854775807), (.ofNat 0, .ofNat 63)], [43], 0, [], [], [((0, 0), (0, .ofNat 18), (0, 2, .ofNat 0))], []), [(2, 0, .ofNat 0), (1, 1, .ofNat 0)], [(43, 18, 19), (51, 0, 64)], [(([], [], 0, [], [], [((0, 0), (0, .ofNat 18), (0, 2, .ofNat 1))], []), none)])
def sxhI378 : sxH := (sxk_X12_push, sxgX12, sxpX12, sxcX12, (sxkiX12, sxklX12, sxksX12), (3, sxI378.2.2.2.2.1, sxI378.2.2.2.2.2, 4), (3, 1, 0), (2, 40))
def sxjI378 : List sxJ := [((20, 11, 0), ([], [], []), (sxE0, [], [], ([], .ofNat 0)))]
theorem sxvI378 : (sx_exec sxRT [] sxLT sxhI378 64 0 sxI378.2.2.1 (sx_argl 0 sxI378.2.2.2.1) [] [] sxjI378).isSome = true := by decide +kernel
def sxI379 : sxI := (156, (3, 64), ([(.ofNat 0, .ofNat 0), (.ofNat 0, .ofNat 5), (.ofNat 0, .ofNat 400), (.ofNat 0, .ofNat 400)], [43, 45], 1, [([(3, .ofNat 1), (2, .negSucc 0)], .ofNat 0)], [(40, [(1, .ofNat 0), (2, .ofNat 0), (3, .ofNat 0), (0, .ofNat 1)], [0])], [((0, 0), (0, .ofNat 3), (2, 1, .ofNat 0))], [(1, (0, 2400), 0)]), [(2, 0, .ofNat 0), (0, 1, .ofNat 0), (0, 2, .ofNat 0), (0, 3, .ofNat 0)], [(43, 18, 19), (51, 0, 64)], [(([(.negSucc 9223372036854775807, .ofNat 9223372036854775807)], [], 0, [], [], [], []), some (1, 4, .ofNat 0))])
def sxhI379 : sxH := (sxk_X12_reckons, sxgX12, sxpX12, sxcX12, (sxkiX12, sxklX12, sxksX12), (11, sxI379.2.2.2.2.1, sxI379.2.2.2.2.2, 2), (4, 2, 1), (3, 64))
def sxjI379 : List sxJ := [((6, 3, 40), ([(0, .ofNat 0), (1, .ofNat 0), (2, .ofNat 0)], [], [0]), (sxE0, [], [], ([], .ofNat 0))),
  ((8, 0, 0), ([(2, .ofNat 0), (0, .ofNat 0)], [], []), (([(.ofNat 0, .ofNat 400), (.ofNat 0, .ofNat 64)], [], 0, [([(4, .ofNat 1), (2, .negSucc 0)], .ofNat 0), ([(3, .ofNat 1), (4, .negSucc 0)], .ofNat 0)], [(40, [(1, .ofNat 0), (2, .ofNat 0), (4, .ofNat 0), (5, .ofNat 0)], [0])], [((0, 0), (0, .ofNat 18), (0, 5, .ofNat 0)), ((0, 0), (0, .ofNat 3), (2, 1, .ofNat 0))], [(1, (0, 2400), 0)]), [(4, (0, 4, .ofNat 0)), (0, (2, 0, .ofNat 0)), (1, (0, 1, .ofNat 0)), (2, (0, 2, .ofNat 0)), (3, (0, 3, .ofNat 0))], [], ([(4, .negSucc 0)], .ofNat 400))),
  ((135, 3, 45), ([(0, .ofNat 0), (1, .ofNat 0), (2, .ofNat 0), (3, .ofNat 0), (4, .ofNat 0), (5, .ofNat 0)], [], [0]), (sxE0, [], [], ([], .ofNat 0))),
  ((135, 7, 0), ([], [], []), (sxE0, [], [], ([(5, .ofNat 1)], .negSucc 0))),
  ((135, 7, 0), ([], [], []), (sxE0, [], [], ([(5, .negSucc 0)], .ofNat 1))),
  ((136, 10, 0), ([(0, .ofNat 0), (5, .ofNat 0)], [0], []), (sxE0, [], [], ([], .ofNat 0))),
  ((139, 11, 0), ([(6, .ofNat 0)], [], []), (sxE0, [], [], ([], .ofNat 0))),
  ((104, 7, 0), ([], [], []), (sxE0, [], [], ([(7, .ofNat 1), (1, .negSucc 399), (4, .negSucc 0)], .ofNat 0))),
  ((104, 7, 0), ([], [], []), (sxE0, [], [], ([(7, .negSucc 0), (1, .ofNat 400), (4, .ofNat 1)], .ofNat 0))),
  ((104, 3, 44), ([(0, .ofNat 0), (1, .ofNat 0), (2, .ofNat 0), (3, .ofNat 0), (4, .ofNat 0), (5, .ofNat 0), (7, .ofNat 0), (8, .ofNat 0), (9, .ofNat 0)], [], [0]), (sxE0, [], [], ([], .ofNat 0))),
  ((104, 7, 0), ([], [], []), (sxE0, [], [], ([(5, .ofNat 1)], .negSucc 1))),
  ((104, 7, 0), ([], [], []), (sxE0, [], [], ([(5, .negSucc 0)], .ofNat 60))),
  ((105, 10, 0), ([(0, .ofNat 0), (5, .ofNat 0)], [0], []), (sxE0, [], [], ([], .ofNat 0))),
  ((111, 10, 0), ([(0, .ofNat 0), (5, .negSucc 0)], [0], []), (sxE0, [], [], ([], .ofNat 0))),
  ((123, 10, 1), ([(0, .ofNat 0), (9, .ofNat 0), (15, .ofNat 0), (14, .ofNat 0)], [], []), (sxE0, [], [], ([], .ofNat 0))),
  ((126, 10, 2), ([(0, .ofNat 0), (16, .ofNat 0), (5, .negSucc 1)], [0], []), (sxE0, [], [], ([], .ofNat 0))),
  ((8, 2, 0), ([(4, .ofNat 1), (5, .negSucc 0)], [], []), (sxE0, [], [], ([], .ofNat 0))),
  ((91, 7, 0), ([], [], []), (sxE0, [], [], ([(7, .ofNat 1), (1, .negSucc 399), (4, .negSucc 0)], .ofNat 0))),
  ((91, 7, 0), ([], [], []), (sxE0, [], [], ([(7, .negSucc 0), (1, .ofNat 400), (4, .ofNat 1)], .ofNat 0))),
  ((91, 3, 43), ([(0, .ofNat 0), (1, .ofNat 0), (2, .ofNat 0), (3, .ofNat 0), (4, .ofNat 0), (5, .ofNat 0), (7, .ofNat 0), (8, .ofNat 0), (9, .ofNat 0)], [], [0]), (sxE0, [], [], ([], .ofNat 0))),
  ((91, 7, 0), ([], [], []), (sxE0, [], [], ([(5, .ofNat 1)], .negSucc 0))),
  ((91, 7, 0), ([], [], []), (sxE0, [], [], ([(5, .negSucc 0)], .ofNat 60))),
  ((94, 10, 0), ([(0, .ofNat 0), (5, .ofNat 0)], [0], []), (sxE0, [], [], ([], .ofNat 0))),
  ((98, 10, 2), ([(0, .ofNat 0), (15, .ofNat 0), (5, .negSucc 0)], [0], []), (sxE0, [], [], ([], .ofNat 0))),
  ((8, 2, 0), ([(4, .ofNat 1), (5, .ofNat 0)], [], []), (sxE0, [], [], ([], .ofNat 0))),
  ((70, 7, 0), ([], [], []), (sxE0, [], [], ([(7, .ofNat 1), (1, .negSucc 399), (4, .negSucc 0)], .ofNat 0))),
  ((70, 7, 0), ([], [], []), (sxE0, [], [], ([(7, .negSucc 0), (1, .ofNat 400), (4, .ofNat 1)], .ofNat 0))),
  ((70, 7, 0), ([], [], []), (sxE0, [], [], ([(11, .ofNat 1), (1, .negSucc 399), (4, .negSucc 0)], .ofNat 0))),
  ((70, 7, 0), ([], [], []), (sxE0, [], [], ([(11, .negSucc 0), (1, .ofNat 400), (4, .ofNat 1)], .ofNat 0))),
  ((70, 3, 42), ([(0, .ofNat 0), (1, .ofNat 0), (2, .ofNat 0), (3, .ofNat 0), (4, .ofNat 0), (5, .ofNat 0), (7, .ofNat 0), (8, .ofNat 0), (9, .ofNat 0), (13, .ofNat 0), (11, .ofNat 0), (12, .ofNat 0)], [], [0]), (sxE0, [], [], ([], .ofNat 0))),
  ((70, 7, 0), ([], [], []), (sxE0, [], [], ([(5, .negSucc 0)], .ofNat 59))),
  ((70, 7, 0), ([], [], []), (sxE0, [], [], ([(13, .ofNat 1)], .ofNat 0))),
  ((70, 7, 0), ([], [], []), (sxE0, [], [], ([(13, .negSucc 0)], .ofNat 11))),
  ((78, 10, 2), ([(0, .ofNat 0), (14, .ofNat 0), (5, .ofNat 0)], [0], []), (sxE0, [], [], ([], .ofNat 0))),
  ((8, 2, 0), ([(4, .ofNat 1), (5, .ofNat 1)], [], []), (sxE0, [], [], ([], .ofNat 0))),
  ((54, 7, 0), ([], [], []), (sxE0, [], [], ([(7, .ofNat 1), (1, .negSucc 399), (4, .negSucc 0)], .ofNat 0))),
  ((54, 7, 0), ([], [], []), (sxE0, [], [], ([(7, .negSucc 0), (1, .ofNat 400), (4, .ofNat 1)], .ofNat 0))),
  ((54, 3, 41), ([(0, .ofNat 0), (1, .ofNat 0), (2, .ofNat 0), (3, .ofNat 0), (4, .ofNat 0), (5, .ofNat 0), (7, .ofNat 0), (8, .ofNat 0), (9, .ofNat 0)], [], [0]), (sxE0, [], [], ([], .ofNat 0))),
  ((54, 7, 0), ([], [], []), (sxE0, [], [], ([(5, .negSucc 0)], .ofNat 59))),
  ((58, 10, 2), ([(0, .ofNat 0), (13, .ofNat 0), (5, .ofNat 0)], [0], []), (sxE0, [], [], ([], .ofNat 0))),
  ((8, 2, 0), ([(4, .ofNat 1), (5, .ofNat 1)], [], []), (sxE0, [], [], ([], .ofNat 0)))]
theorem sxvI379 : (sx_exec sxRT [sxI376, sxI377, sxI378] sxLT sxhI379 214 0 sxI379.2.2.1 (sx_argl 0 sxI379.2.2.2.1) [] [] sxjI379).isSome = true := by decide +kernel
def sxI380 : sxI := (171, (4, 94), ([(.ofNat 0, .ofNat 0), (.ofNat 0, .ofNat 5)], [43, 45, 47, 48], 3, [], [(23, [], [0, 1, 2])], [((0, 0), (0, .ofNat 3), (2, 1, .ofNat 0)), ((0, 0), (0, .ofNat 5), (2, 2, .ofNat 0)), ((0, 0), (0, .ofNat 6), (2, 3, .ofNat 0))], [(1, (0, 2400), 0), (2, (0, 288), 1), (3, (0, 6), 2)]), [(2, 0, .ofNat 0), (0, 1, .ofNat 0)], [(43, 18, 19), (51, 0, 64)], [(([(.negSucc 9223372036854775807, .ofNat 9223372036854775807)], [], 0, [], [], [], []), some (1, 2, .ofNat 0))])
def sxhI380 : sxH := (sxk_X12_summedBy, sxgX12, sxpX12, sxcX12, (sxkiX12, sxklX12, sxksX12), (4, sxI380.2.2.2.2.1, sxI380.2.2.2.2.2, 2), (2, 4, 3), (4, 94))
def sxjI380 : List sxJ := [((2, 0, 0), ([(0, .ofNat 0)], [], []), (([(.ofNat 0, .ofNat 12)], [], 0, [], [], [((0, 0), (0, .ofNat 3), (2, 1, .ofNat 0)), ((0, 0), (0, .ofNat 5), (2, 2, .ofNat 0)), ((0, 0), (0, .ofNat 6), (2, 3, .ofNat 0))], [(1, (0, 2400), 0), (2, (0, 288), 1), (3, (0, 6), 2)]), [(2, (0, 2, .ofNat 0)), (0, (2, 0, .ofNat 0)), (1, (0, 1, .ofNat 0))], [], ([(2, .negSucc 0)], .ofNat 12))),
  ((85, 11, 0), ([(0, .ofNat 0)], [], []), (sxE0, [], [], ([], .ofNat 0))),
  ((74, 7, 0), ([], [], []), (sxE0, [], [], ([(1, .negSucc 47), (2, .negSucc 3), (4, .ofNat 1), (5, .ofNat 1)], .ofNat 0))),
  ((74, 7, 0), ([], [], []), (sxE0, [], [], ([(6, .ofNat 1), (1, .negSucc 47), (2, .negSucc 3)], .ofNat 0))),
  ((74, 7, 0), ([], [], []), (sxE0, [], [], ([(1, .ofNat 48), (2, .ofNat 4), (4, .negSucc 0), (5, .negSucc 0)], .ofNat 0))),
  ((74, 7, 0), ([], [], []), (sxE0, [], [], ([(6, .negSucc 0), (1, .ofNat 48), (2, .ofNat 4)], .ofNat 0))),
  ((74, 3, 38), ([(0, .ofNat 0), (1, .ofNat 0), (3, .ofNat 0), (2, .ofNat 0), (6, .ofNat 0), (8, .ofNat 0), (9, .ofNat 0)], [], [0, 1, 2]), (sxE0, [], [], ([], .ofNat 0))),
  ((74, 7, 0), ([], [], []), (sxE0, [], [], ([(8, .ofNat 1)], .ofNat 0))),
  ((74, 7, 0), ([], [], []), (sxE0, [], [], ([(9, .ofNat 1), (8, .negSucc 0)], .ofNat 0))),
  ((74, 7, 0), ([], [], []), (sxE0, [], [], ([(9, .ofNat 1), (8, .negSucc 0)], .ofNat 0))),
  ((74, 10, 0), ([(0, .ofNat 0), (1, .ofNat 0), (8, .ofNat 0), (9, .ofNat 0)], [0, 1], [0]), (sxE0, [], [], ([], .ofNat 0))),
  ((77, 11, 0), ([(10, .ofNat 0)], [], []), (sxE0, [], [], ([], .ofNat 0))),
  ((50, 7, 0), ([], [], []), (sxE0, [], [], ([(1, .negSucc 47), (2, .negSucc 3), (4, .ofNat 1), (5, .ofNat 1)], .ofNat 0))),
  ((50, 7, 0), ([], [], []), (sxE0, [], [], ([(6, .ofNat 1), (1, .negSucc 47), (2, .negSucc 3)], .ofNat 0))),
  ((50, 7, 0), ([], [], []), (sxE0, [], [], ([(1, .ofNat 48), (2, .ofNat 4), (4, .negSucc 0), (5, .negSucc 0)], .ofNat 0))),
  ((50, 7, 0), ([], [], []), (sxE0, [], [], ([(6, .negSucc 0), (1, .ofNat 48), (2, .ofNat 4)], .ofNat 0))),
  ((50, 3, 39), ([(0, .ofNat 0), (1, .ofNat 0), (3, .ofNat 0), (2, .ofNat 0), (6, .ofNat 0), (7, .ofNat 0), (8, .ofNat 0)], [], [0, 1, 2]), (sxE0, [], [], ([], .ofNat 0))),
  ((50, 7, 0), ([], [], []), (sxE0, [], [], ([(8, .ofNat 1), (7, .negSucc 0)], .ofNat 0))),
  ((50, 7, 0), ([], [], []), (sxE0, [], [], ([(8, .ofNat 1), (7, .negSucc 0)], .ofNat 0))),
  ((50, 10, 0), ([(0, .ofNat 0), (1, .ofNat 0), (7, .ofNat 0), (8, .ofNat 0)], [0, 1], [0]), (sxE0, [], [], ([], .ofNat 0))),
  ((2, 2, 0), ([(2, .ofNat 1)], [], []), (sxE0, [], [], ([], .ofNat 0))),
  ((74, 7, 0), ([], [], []), (sxE0, [], [], ([(6, .ofNat 1), (1, .negSucc 47), (2, .negSucc 3)], .ofNat 0))),
  ((74, 7, 0), ([], [], []), (sxE0, [], [], ([(6, .negSucc 0), (1, .ofNat 48), (2, .ofNat 4)], .ofNat 0))),
  ((74, 3, 38), ([(0, .ofNat 0), (1, .ofNat 0), (3, .ofNat 0), (2, .ofNat 0), (6, .ofNat 0), (11, .ofNat 0), (12, .ofNat 0)], [], [0, 1, 2]), (sxE0, [], [], ([], .ofNat 0))),
  ((74, 7, 0), ([], [], []), (sxE0, [], [], ([(11, .ofNat 1)], .ofNat 0))),
  ((74, 7, 0), ([], [], []), (sxE0, [], [], ([(12, .ofNat 1), (11, .negSucc 0)], .ofNat 0))),
  ((74, 7, 0), ([], [], []), (sxE0, [], [], ([(12, .ofNat 1), (11, .negSucc 0)], .ofNat 0))),
  ((74, 10, 0), ([(0, .ofNat 0), (1, .ofNat 0), (11, .ofNat 0), (12, .ofNat 0)], [0, 1], [0]), (sxE0, [], [], ([], .ofNat 0))),
  ((77, 11, 0), ([(13, .ofNat 0)], [], []), (sxE0, [], [], ([], .ofNat 0)))]
theorem sxvI380 : (sx_exec sxRT [sxI379] sxLT sxhI380 262 0 sxI380.2.2.1 (sx_argl 0 sxI380.2.2.2.1) [] [] sxjI380).isSome = true := by decide +kernel
def sxI381 : sxI := (170, (6, 125), ([(.ofNat 0, .ofNat 0), (.ofNat 0, .ofNat 6), (.ofNat 0, .ofNat 6), (.ofNat 0, .ofNat 5), (.ofNat 0, .ofNat 1), (.ofNat 0, .ofNat 7), (.ofNat 0, .ofNat 8)], [43, 53, 45, 47, 48], 4, [], [(20, [(4, .ofNat 0), (5, .ofNat 0), (6, .ofNat 0)], [0]), (23, [], [1, 2, 3])], [((0, 0), (0, .ofNat 20), (2, 1, .ofNat 0)), ((0, 0), (0, .ofNat 3), (2, 2, .ofNat 0)), ((0, 0), (0, .ofNat 5), (2, 3, .ofNat 0)), ((0, 0), (0, .ofNat 6), (2, 4, .ofNat 0)), ((0, 0), (0, .ofNat 21), (0, 3, .ofNat 0))], [(1, (0, 108), 0), (2, (0, 2400), 1), (3, (0, 288), 2), (4, (0, 6), 3)]), [(2, 0, .ofNat 0), (0, 1, .ofNat 0), (0, 2, .ofNat 0)], [(43, 18, 19), (51, 0, 64), (52, 0, 12)], [(([(.negSucc 9223372036854775807, .ofNat 9223372036854775807)], [], 0, [], [], [], []), some (1, 7, .ofNat 0))])
def sxhI381 : sxH := (sxk_X12_sumOf, sxgX12, sxpX12, sxcX12, (sxkiX12, sxklX12, sxksX12), (3, sxI381.2.2.2.2.1, sxI381.2.2.2.2.2, 2), (7, 5, 4), (6, 125))
def sxjI381 : List sxJ := [((23, 10, 0), ([(0, .ofNat 0), (1, .ofNat 0), (4, .ofNat 0), (5, .ofNat 0), (6, .ofNat 0)], [0, 1], [0]), (sxE0, [], [], ([], .ofNat 0))),
  ((35, 10, 0), ([(0, .ofNat 0), (2, .ofNat 0), (4, .ofNat 0), (5, .ofNat 0), (6, .ofNat 0)], [0, 1], [0]), (sxE0, [], [], ([], .ofNat 0))),
  ((86, 10, 1), ([(0, .ofNat 0), (1, .ofNat 0), (4, .ofNat 0), (5, .ofNat 0), (6, .ofNat 0)], [0, 1], [0]), (sxE0, [], [], ([], .ofNat 0))),
  ((107, 10, 1), ([(0, .ofNat 0), (2, .ofNat 0), (4, .ofNat 0), (5, .ofNat 0), (6, .ofNat 0)], [0, 1], [0]), (sxE0, [], [], ([], .ofNat 0))),
  ((121, 10, 2), ([(0, .ofNat 0), (4, .ofNat 0), (5, .ofNat 0), (6, .ofNat 0)], [0, 1], [0]), (sxE0, [], [], ([], .ofNat 0))),
  ((124, 10, 3), ([(0, .ofNat 0), (15, .ofNat 0)], [], []), (sxE0, [], [], ([], .ofNat 0))),
  ((136, 10, 4), ([(0, .ofNat 0), (4, .ofNat 0), (5, .ofNat 0), (6, .ofNat 0)], [0, 1], [0]), (sxE0, [], [], ([], .ofNat 0))),
  ((139, 10, 3), ([(0, .ofNat 0), (17, .ofNat 0)], [], []), (sxE0, [], [], ([], .ofNat 0))),
  ((181, 10, 5), ([(0, .ofNat 0), (3, .ofNat 0)], [0, 2, 3, 4], [1, 2, 3]), (sxE0, [], [], ([], .ofNat 0))),
  ((184, 11, 0), ([(21, .ofNat 0)], [], []), (sxE0, [], [], ([], .ofNat 0)))]
theorem sxvI381 : (sx_exec sxRT [sxI364, sxI363, sxI373, sxI374, sxI375, sxI380] sxLT sxhI381 177 0 sxI381.2.2.1 (sx_argl 0 sxI381.2.2.2.1) [] [] sxjI381).isSome = true := by decide +kernel
def sxI382 : sxI := (98, (7, 147), ([(.ofNat 0, .ofNat 0), (.ofNat 0, .ofNat 7), (.ofNat 0, .ofNat 8)], [43, 53, 45, 47, 48], 4, [], [(20, [(0, .ofNat 1), (1, .ofNat 0), (2, .ofNat 0)], [0]), (23, [], [1, 2, 3])], [((0, 0), (0, .ofNat 20), (2, 1, .ofNat 0)), ((0, 0), (0, .ofNat 3), (2, 2, .ofNat 0)), ((0, 0), (0, .ofNat 5), (2, 3, .ofNat 0)), ((0, 0), (0, .ofNat 6), (2, 4, .ofNat 0))], [(1, (0, 108), 0), (2, (0, 2400), 1), (3, (0, 288), 2), (4, (0, 6), 3)]), [(2, 0, .ofNat 0)], [(43, 18, 19), (51, 0, 64), (52, 0, 12), (53, 11, 18)], [(([], [], 1, [], [(20, [(0, .ofNat 1), (1, .ofNat 0), (2, .ofNat 0)], [4])], [], [(1, (0, 108), 4)]), none)])
def sxhI382 : sxH := (sxk_X12_folds, sxgX12, sxpX12, sxcX12, (sxkiX12, sxklX12, sxksX12), (9, sxI382.2.2.2.2.1, sxI382.2.2.2.2.2, 4), (3, 5, 4), (7, 147))
def sxjI382 : List sxJ := [((9, 0, 0), ([(0, .ofNat 0), (0, .ofNat 0), (0, .negSucc 0), (0, .negSucc 0)], [], []), (([(.ofNat 0, .ofNat 7), (.ofNat 0, .ofNat 9223372036854775807), (.negSucc 0, .ofNat 6), (.negSucc 0, .ofNat 6)], [], 0, [([(1, .ofNat 1), (6, .negSucc 0)], .negSucc 0), ([(1, .ofNat 1), (5, .negSucc 0)], .negSucc 0), ([(5, .ofNat 1), (6, .negSucc 0)], .ofNat 0)], [], [((0, 0), (0, .ofNat 20), (2, 1, .ofNat 0)), ((0, 0), (0, .ofNat 3), (2, 2, .ofNat 0)), ((0, 0), (0, .ofNat 5), (2, 3, .ofNat 0)), ((0, 0), (0, .ofNat 6), (2, 4, .ofNat 0))], [(1, (0, 108), 0), (2, (0, 2400), 1), (3, (0, 288), 2), (4, (0, 6), 3)]), [(5, (0, 3, .ofNat 0)), (3, (1, 4, .ofNat 0)), (2, (0, 5, .ofNat 0)), (1, (0, 6, .ofNat 0)), (0, (2, 0, .ofNat 0))], [], ([(3, .negSucc 0)], .ofNat 7))),
  ((17, 3, 1), ([(0, .ofNat 0), (0, .ofNat 1), (1, .ofNat 0), (2, .ofNat 0), (7, .ofNat 0)], [], [0]), (sxE0, [], [], ([], .ofNat 0))),
  ((17, 7, 0), ([], [], []), (sxE0, [], [], ([(7, .ofNat 1), (1, .negSucc 0)], .ofNat 0))),
  ((17, 7, 0), ([], [], []), (sxE0, [], [], ([(1, .ofNat 1), (7, .negSucc 0)], .ofNat 0))),
  ((116, 11, 0), ([], [], [0]), (sxE0, [], [], ([], .ofNat 0))),
  ((113, 7, 0), ([], [], []), (sxE0, [], [], ([(5, .ofNat 1), (0, .negSucc 0)], .ofNat 0))),
  ((113, 7, 0), ([], [], []), (sxE0, [], [], ([(1, .ofNat 1), (6, .negSucc 0)], .negSucc 0))),
  ((113, 7, 0), ([], [], []), (sxE0, [], [], ([(1, .ofNat 1), (5, .negSucc 0)], .negSucc 0))),
  ((113, 10, 1), ([(0, .ofNat 0), (6, .ofNat 0), (5, .ofNat 0), (1, .ofNat 0), (2, .ofNat 0)], [0, 1], [0]), (sxE0, [], [], ([], .ofNat 0))),
  ((116, 11, 0), ([], [], [4]), (sxE0, [], [], ([], .ofNat 0))),
  ((116, 11, 0), ([], [], [0]), (sxE0, [], [], ([], .ofNat 0))),
  ((113, 7, 0), ([], [], []), (sxE0, [], [], ([(5, .ofNat 1), (0, .negSucc 0)], .ofNat 0))),
  ((113, 7, 0), ([], [], []), (sxE0, [], [], ([(1, .ofNat 1), (6, .negSucc 0)], .negSucc 0))),
  ((113, 7, 0), ([], [], []), (sxE0, [], [], ([(1, .ofNat 1), (5, .negSucc 0)], .negSucc 0))),
  ((113, 10, 1), ([(0, .ofNat 0), (6, .ofNat 0), (5, .ofNat 0), (1, .ofNat 0), (2, .ofNat 0)], [0, 1], [0]), (sxE0, [], [], ([], .ofNat 0))),
  ((116, 11, 0), ([], [], [4]), (sxE0, [], [], ([], .ofNat 0))),
  ((33, 0, 0), ([(3, .ofNat 1), (4, .ofNat 0), (5, .ofNat 0), (6, .ofNat 0)], [], []), (([(.ofNat 1, .ofNat 7), (.ofNat 0, .ofNat 9223372036854775807), (.negSucc 0, .ofNat 6), (.negSucc 0, .ofNat 6)], [], 0, [([(9, .ofNat 1), (3, .negSucc 0)], .negSucc 0), ([(10, .ofNat 1), (4, .negSucc 0)], .ofNat 0), ([(1, .ofNat 1), (12, .negSucc 0)], .negSucc 0), ([(1, .ofNat 1), (11, .negSucc 0)], .negSucc 0), ([(11, .ofNat 1), (12, .negSucc 0)], .ofNat 0)], [], [((0, 0), (0, .ofNat 21), (0, 8, .ofNat 0)), ((1, 1), (0, .ofNat 3), (0, 7, .ofNat 0)), ((0, 0), (0, .ofNat 20), (2, 1, .ofNat 0)), ((0, 0), (0, .ofNat 3), (2, 2, .ofNat 0)), ((0, 0), (0, .ofNat 5), (2, 3, .ofNat 0)), ((0, 0), (0, .ofNat 6), (2, 4, .ofNat 0))], [(1, (0, 108), 0), (2, (0, 2400), 1), (3, (0, 288), 2), (4, (0, 6), 3)]), [(6, (0, 9, .ofNat 0)), (5, (0, 3, .ofNat 0)), (3, (1, 10, .ofNat 0)), (2, (0, 11, .ofNat 0)), (1, (0, 12, .ofNat 0)), (0, (2, 0, .ofNat 0))], [], ([(9, .negSucc 0)], .ofNat 7))),
  ((9, 2, 1), ([(3, .ofNat 1), (10, .ofNat 0), (11, .ofNat 0), (12, .ofNat 0)], [], []), (sxE0, [], [], ([], .ofNat 0))),
  ((33, 2, 0), ([(9, .ofNat 1), (10, .ofNat 0), (11, .ofNat 0), (12, .ofNat 0)], [], []), (sxE0, [], [], ([], .ofNat 0))),
  ((70, 10, 0), ([(0, .ofNat 0), (3, .ofNat 0), (9, .ofNat 0), (8, .ofNat 0), (0, .ofNat 1), (1, .ofNat 0), (2, .ofNat 0)], [0, 1, 2, 3, 4], [0, 1, 2, 3]), (sxE0, [], [], ([], .ofNat 0))),
  ((33, 2, 0), ([(9, .ofNat 1), (14, .ofNat 0), (9, .ofNat 0), (3, .ofNat 0)], [], []), (sxE0, [], [], ([], .ofNat 0))),
  ((33, 2, 0), ([(9, .ofNat 1), (10, .ofNat 0), (11, .ofNat 0), (12, .ofNat 0)], [], []), (sxE0, [], [], ([], .ofNat 0))),
  ((33, 2, 0), ([(9, .ofNat 1), (10, .ofNat 0), (11, .ofNat 0), (12, .ofNat 0)], [], []), (sxE0, [], [], ([], .ofNat 0)))]
theorem sxvI382 : (sx_exec sxRT [sxI381, sxI371] sxLT sxhI382 293 0 sxI382.2.2.1 (sx_argl 0 sxI382.2.2.2.1) [] [] sxjI382).isSome = true := by decide +kernel
