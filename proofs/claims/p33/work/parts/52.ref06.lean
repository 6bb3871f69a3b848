def sxI407 : sxI := (141, (8, 171), ([(.ofNat 0, .ofNat 0), (.negSucc 2147483647, .ofNat 2147483647), (.ofNat 0, .ofNat 7), (.ofNat 0, .ofNat 8)], [43, 53, 56], 1, [], [(20, [(0, .ofNat 1), (2, .ofNat 0), (3, .ofNat 0)], [0])], [((0, 0), (0, .ofNat 20), (2, 1, .ofNat 0)), ((0, 0), (0, .ofNat 27), (2, 2, .ofNat 0))], [(1, (0, 108), 0)]), [(2, 0, .ofNat 0), (0, 1, .ofNat 0)], [(43, 29, 31), (56, 0, 8), (57, 0, 7)], [(([(.negSucc 2147483647, .ofNat 2147483647)], [], 0, [], [], [], []), some (0, 4, .ofNat 0))])
def sxhI407 : sxH := (sxk_X12_most, sxgX12, sxpX12, sxcX12, (sxkiX12, sxklX12, sxksX12), (2, sxI407.2.2.2.2.1, sxI407.2.2.2.2.2, 0), (4, 3, 1), (8, 171))
def sxjI407 : List sxJ := [((1, 10, 0), ([(0, .ofNat 0), (0, .ofNat 1), (2, .ofNat 0), (3, .ofNat 0)], [0, 1], [0]), (sxE0, [], [], ([], .ofNat 0))),
  ((23, 11, 0), ([(0, .negSucc 2)], [], []), (sxE0, [], [], ([], .ofNat 0))),
  ((15, 10, 1), ([(0, .ofNat 0), (1, .ofNat 0), (0, .negSucc 0), (0, .ofNat 6)], [], []), (sxE0, [], [], ([], .ofNat 0))),
  ((23, 11, 0), ([(0, .negSucc 2)], [], []), (sxE0, [], [], ([], .ofNat 0))),
  ((18, 7, 0), ([], [], []), (sxE0, [], [], ([(1, .ofNat 1), (0, .negSucc 0)], .ofNat 1))),
  ((18, 7, 0), ([], [], []), (sxE0, [], [], ([(0, .ofNat 1), (1, .negSucc 0)], .ofNat 6))),
  ((30, 10, 2), ([(0, .ofNat 0), (2, .ofNat 0), (3, .ofNat 0)], [0, 1, 2], [0]), (sxE0, [], [], ([], .ofNat 0))),
  ((47, 10, 3), ([(0, .ofNat 0), (1, .ofNat 0), (0, .ofNat 1), (2, .ofNat 0), (3, .ofNat 0)], [0, 1], [0]), (sxE0, [], [], ([], .ofNat 0))),
  ((64, 11, 0), ([(0, .negSucc 1)], [], []), (sxE0, [], [], ([], .ofNat 0))),
  ((50, 7, 0), ([], [], []), (sxE0, [], [], ([(2, .ofNat 1), (1, .negSucc 0)], .negSucc 0))),
  ((64, 11, 0), ([(4, .ofNat 0)], [], []), (sxE0, [], [], ([], .ofNat 0))),
  ((64, 11, 0), ([(4, .ofNat 0)], [], []), (sxE0, [], [], ([], .ofNat 0)))]
theorem sxvI407 : (sx_exec sxRT [sxI369, sxI310, sxI406, sxI362] sxLT sxhI407 102 0 sxI407.2.2.1 (sx_argl 0 sxI407.2.2.2.1) [] [] sxjI407).isSome = true := by decide +kernel
def sxI408 : sxI := (177, (8, 171), ([(.ofNat 0, .ofNat 0), (.negSucc 2147483647, .ofNat 2147483647), (.negSucc 2147483647, .ofNat 2147483647), (.ofNat 0, .ofNat 7), (.ofNat 0, .ofNat 8)], [43, 53, 56], 1, [], [(20, [(0, .ofNat 1), (3, .ofNat 0), (4, .ofNat 0)], [0])], [((0, 0), (0, .ofNat 20), (2, 1, .ofNat 0)), ((0, 0), (0, .ofNat 27), (2, 2, .ofNat 0))], [(1, (0, 108), 0)]), [(2, 0, .ofNat 0), (0, 1, .ofNat 0), (0, 2, .ofNat 0)], [(43, 29, 31), (56, 0, 8), (57, 0, 7)], [(([(.negSucc 2147483647, .ofNat 2147483647)], [], 0, [], [], [], []), some (0, 5, .ofNat 0))])
def sxhI408 : sxH := (sxk_X12_told, sxgX12, sxpX12, sxcX12, (sxkiX12, sxklX12, sxksX12), (3, sxI408.2.2.2.2.1, sxI408.2.2.2.2.2, 0), (5, 3, 1), (8, 171))
def sxjI408 : List sxJ := [((1, 10, 0), ([(0, .ofNat 0), (0, .ofNat 1), (3, .ofNat 0), (4, .ofNat 0)], [0, 1], [0]), (sxE0, [], [], ([], .ofNat 0))),
  ((39, 11, 0), ([(0, .negSucc 2)], [], []), (sxE0, [], [], ([], .ofNat 0))),
  ((39, 11, 0), ([(0, .negSucc 2)], [], []), (sxE0, [], [], ([], .ofNat 0))),
  ((19, 3, 1), ([(0, .ofNat 0), (0, .ofNat 1), (3, .ofNat 0), (4, .ofNat 0), (5, .ofNat 0)], [], [0]), (sxE0, [], [], ([], .ofNat 0))),
  ((19, 7, 0), ([], [], []), (sxE0, [], [], ([(5, .ofNat 1), (3, .negSucc 0)], .ofNat 0))),
  ((19, 7, 0), ([], [], []), (sxE0, [], [], ([(3, .ofNat 1), (5, .negSucc 0)], .ofNat 0))),
  ((39, 11, 0), ([(0, .negSucc 2)], [], []), (sxE0, [], [], ([], .ofNat 0))),
  ((31, 10, 1), ([(0, .ofNat 0), (2, .ofNat 0), (0, .negSucc 0), (0, .ofNat 6)], [], []), (sxE0, [], [], ([], .ofNat 0))),
  ((39, 11, 0), ([(0, .negSucc 2)], [], []), (sxE0, [], [], ([], .ofNat 0))),
  ((34, 7, 0), ([], [], []), (sxE0, [], [], ([(2, .ofNat 1), (0, .negSucc 0)], .ofNat 1))),
  ((34, 7, 0), ([], [], []), (sxE0, [], [], ([(0, .ofNat 1), (2, .negSucc 0)], .ofNat 6))),
  ((46, 10, 2), ([(0, .ofNat 0), (3, .ofNat 0), (4, .ofNat 0)], [0, 1, 2], [0]), (sxE0, [], [], ([], .ofNat 0))),
  ((76, 10, 3), ([(0, .ofNat 0), (2, .ofNat 0), (0, .ofNat 1), (3, .ofNat 0), (4, .ofNat 0)], [0, 1], [0]), (sxE0, [], [], ([], .ofNat 0))),
  ((93, 11, 0), ([(0, .negSucc 1)], [], []), (sxE0, [], [], ([], .ofNat 0))),
  ((79, 7, 0), ([], [], []), (sxE0, [], [], ([(3, .ofNat 1), (2, .negSucc 0)], .negSucc 0))),
  ((93, 11, 0), ([(8, .ofNat 0)], [], []), (sxE0, [], [], ([], .ofNat 0))),
  ((93, 11, 0), ([(8, .ofNat 0)], [], []), (sxE0, [], [], ([], .ofNat 0))),
  ((58, 11, 0), ([(0, .negSucc 1)], [], []), (sxE0, [], [], ([], .ofNat 0)))]
theorem sxvI408 : (sx_exec sxRT [sxI369, sxI310, sxI406, sxI362] sxLT sxhI408 129 0 sxI408.2.2.1 (sx_argl 0 sxI408.2.2.2.1) [] [] sxjI408).isSome = true := by decide +kernel
def sxI409 : sxI := (103, (2, 40), ([(.ofNat 0, .ofNat 0), (.ofNat 0, .ofNat 6), (.ofNat 0, .ofNat 6), (.ofNat 0, .ofNat 1), (.ofNat 0, .ofNat 7), (.ofNat 0, .ofNat 8)], [43, 53], 1, [], [(20, [(3, .ofNat 0), (4, .ofNat 0), (5, .ofNat 0)], [0])], [((0, 0), (0, .ofNat 20), (2, 1, .ofNat 0))], [(1, (0, 108), 0)]), [(2, 0, .ofNat 0), (0, 1, .ofNat 0), (0, 2, .ofNat 0)], [], [(([(.negSucc 2147483647, .ofNat 0)], [], 0, [], [], [], []), some (0, 6, .ofNat 0))])
def sxhI409 : sxH := (sxk_X12_hasBy, sxgX12, sxpX12, sxcX12, (sxkiX12, sxklX12, sxksX12), (4, sxI409.2.2.2.2.1, sxI409.2.2.2.2.2, 0), (6, 2, 1), (2, 40))
def sxjI409 : List sxJ := [((29, 11, 0), ([(8, .ofNat 0)], [], []), (sxE0, [], [], ([], .ofNat 0))),
  ((29, 11, 0), ([(0, .ofNat 0)], [], []), (sxE0, [], [], ([], .ofNat 0)))]
theorem sxvI409 : (sx_exec sxRT [] sxLT sxhI409 73 0 sxI409.2.2.1 (sx_argl 0 sxI409.2.2.2.1) [] [] sxjI409).isSome = true := by decide +kernel
def sxI410 : sxI := (72, (3, 63), ([(.ofNat 0, .ofNat 0), (.ofNat 0, .ofNat 6), (.ofNat 0, .ofNat 6), (.ofNat 0, .ofNat 1), (.ofNat 0, .ofNat 7), (.ofNat 0, .ofNat 8)], [43, 53], 1, [], [(20, [(3, .ofNat 0), (4, .ofNat 0), (5, .ofNat 0)], [0])], [((0, 0), (0, .ofNat 20), (2, 1, .ofNat 0))], [(1, (0, 108), 0)]), [(2, 0, .ofNat 0), (0, 1, .ofNat 0), (0, 2, .ofNat 0)], [], [(([], [], 0, [], [], [], []), some (0, 0, .ofNat 0)), (([], [], 0, [], [], [], []), some (0, 0, .ofNat 1))])
def sxhI410 : sxH := (sxk_X12_areBetterOff, sxgX12, sxpX12, sxcX12, (sxkiX12, sxklX12, sxksX12), (3, sxI410.2.2.2.2.1, sxI410.2.2.2.2.2, 1), (6, 2, 1), (3, 63))
def sxjI410 : List sxJ := [((4, 10, 0), ([(0, .ofNat 0), (2, .ofNat 0), (3, .ofNat 0), (4, .ofNat 0), (5, .ofNat 0)], [0, 1], [0]), (sxE0, [], [], ([], .ofNat 0))),
  ((7, 10, 1), ([(0, .ofNat 0), (1, .ofNat 0), (6, .ofNat 0), (3, .ofNat 0), (4, .ofNat 0), (5, .ofNat 0)], [0, 1], [0]), (sxE0, [], [], ([], .ofNat 0))),
  ((14, 10, 0), ([(0, .ofNat 0), (1, .ofNat 0), (3, .ofNat 0), (4, .ofNat 0), (5, .ofNat 0)], [0, 1], [0]), (sxE0, [], [], ([], .ofNat 0))),
  ((17, 10, 1), ([(0, .ofNat 0), (1, .ofNat 0), (8, .ofNat 0), (3, .ofNat 0), (4, .ofNat 0), (5, .ofNat 0)], [0, 1], [0]), (sxE0, [], [], ([], .ofNat 0))),
  ((51, 11, 0), ([], [], []), (sxE0, [], [], ([], .ofNat 0))),
  ((27, 10, 0), ([(0, .ofNat 0), (1, .ofNat 0), (3, .ofNat 0), (4, .ofNat 0), (5, .ofNat 0)], [0, 1], [0]), (sxE0, [], [], ([], .ofNat 0))),
  ((30, 10, 1), ([(0, .ofNat 0), (2, .ofNat 0), (10, .ofNat 0), (3, .ofNat 0), (4, .ofNat 0), (5, .ofNat 0)], [0, 1], [0]), (sxE0, [], [], ([], .ofNat 0))),
  ((37, 10, 0), ([(0, .ofNat 0), (2, .ofNat 0), (3, .ofNat 0), (4, .ofNat 0), (5, .ofNat 0)], [0, 1], [0]), (sxE0, [], [], ([], .ofNat 0))),
  ((40, 10, 1), ([(0, .ofNat 0), (2, .ofNat 0), (12, .ofNat 0), (3, .ofNat 0), (4, .ofNat 0), (5, .ofNat 0)], [0, 1], [0]), (sxE0, [], [], ([], .ofNat 0))),
  ((51, 11, 0), ([], [], []), (sxE0, [], [], ([], .ofNat 0))),
  ((51, 11, 1), ([], [], []), (sxE0, [], [], ([], .ofNat 0)))]
theorem sxvI410 : (sx_exec sxRT [sxI363, sxI409] sxLT sxhI410 94 0 sxI410.2.2.1 (sx_argl 0 sxI410.2.2.2.1) [] [] sxjI410).isSome = true := by decide +kernel
def sxI411 : sxI := (180, (4, 85), ([(.ofNat 0, .ofNat 0), (.negSucc 2147483647, .ofNat 2147483647), (.negSucc 2147483647, .ofNat 2147483647), (.ofNat 0, .ofNat 1), (.ofNat 0, .ofNat 7), (.ofNat 0, .ofNat 8)], [43, 53], 1, [], [(20, [(3, .ofNat 0), (4, .ofNat 0), (5, .ofNat 0)], [0])], [((0, 0), (0, .ofNat 20), (2, 1, .ofNat 0))], [(1, (0, 108), 0)]), [(2, 0, .ofNat 0), (0, 1, .ofNat 0), (0, 2, .ofNat 0)], [], [(([(.negSucc 2147483647, .ofNat 2147483647)], [], 0, [], [], [], []), some (0, 6, .ofNat 0))])
def sxhI411 : sxH := (sxk_X12_twosBy, sxgX12, sxpX12, sxcX12, (sxkiX12, sxklX12, sxksX12), (8, sxI411.2.2.2.2.1, sxI411.2.2.2.2.2, 0), (6, 2, 1), (4, 85))
def sxjI411 : List sxJ := [((13, 0, 0), ([(0, .ofNat 0), (0, .negSucc 1), (0, .negSucc 1), (0, .ofNat 0)], [], []), (([(.ofNat 0, .ofNat 7), (.negSucc 1, .ofNat 6), (.negSucc 1, .ofNat 6), (.negSucc 2147483647, .ofNat 2147483647)], [], 0, [], [], [((0, 0), (0, .ofNat 20), (2, 1, .ofNat 0))], [(1, (0, 108), 0)]), [(6, (0, 6, .ofNat 0)), (5, (0, 7, .ofNat 0)), (4, (0, 8, .ofNat 0)), (3, (0, 9, .ofNat 0)), (0, (2, 0, .ofNat 0)), (1, (0, 1, .ofNat 0)), (2, (0, 2, .ofNat 0))], [], ([(6, .negSucc 0)], .ofNat 7))),
  ((21, 3, 1), ([(0, .ofNat 0), (3, .ofNat 0), (4, .ofNat 0), (5, .ofNat 0), (10, .ofNat 0)], [], [0]), (sxE0, [], [], ([], .ofNat 0))),
  ((21, 7, 0), ([], [], []), (sxE0, [], [], ([(10, .ofNat 1), (4, .negSucc 0)], .ofNat 0))),
  ((21, 7, 0), ([], [], []), (sxE0, [], [], ([(4, .ofNat 1), (10, .negSucc 0)], .ofNat 0))),
  ((123, 11, 0), ([(7, .ofNat 0)], [], []), (sxE0, [], [], ([], .ofNat 0))),
  ((123, 11, 0), ([(8, .ofNat 0)], [], []), (sxE0, [], [], ([], .ofNat 0))),
  ((123, 11, 0), ([(9, .ofNat 0)], [], []), (sxE0, [], [], ([], .ofNat 0))),
  ((30, 0, 0), ([(6, .ofNat 1), (7, .ofNat 0), (8, .ofNat 0), (9, .ofNat 0)], [], []), (([(.ofNat 1, .ofNat 7), (.negSucc 1, .ofNat 6), (.negSucc 1, .ofNat 6), (.negSucc 2147483647, .ofNat 2147483647)], [], 0, [([(11, .ofNat 1), (6, .negSucc 0)], .negSucc 0)], [], [((1, 1), (0, .ofNat 3), (0, 10, .ofNat 0)), ((0, 0), (0, .ofNat 20), (2, 1, .ofNat 0))], [(1, (0, 108), 0)]), [(7, (0, 11, .ofNat 0)), (6, (0, 6, .ofNat 0)), (5, (0, 12, .ofNat 0)), (4, (0, 13, .ofNat 0)), (3, (0, 14, .ofNat 0)), (0, (2, 0, .ofNat 0)), (1, (0, 1, .ofNat 0)), (2, (0, 2, .ofNat 0))], [], ([(11, .negSucc 0)], .ofNat 7))),
  ((13, 2, 1), ([(6, .ofNat 1), (12, .ofNat 0), (13, .ofNat 0), (14, .ofNat 0)], [], []), (sxE0, [], [], ([], .ofNat 0))),
  ((67, 10, 0), ([(0, .ofNat 0), (6, .ofNat 0), (11, .ofNat 0), (3, .ofNat 0), (4, .ofNat 0), (5, .ofNat 0)], [0, 1], [0]), (sxE0, [], [], ([], .ofNat 0))),
  ((30, 2, 0), ([(11, .ofNat 1), (12, .ofNat 0), (13, .ofNat 0), (14, .ofNat 0)], [], []), (sxE0, [], [], ([], .ofNat 0))),
  ((91, 8, 4), ([], [], []), (sxE0, [], [], ([], .ofNat 0))),
  ((30, 2, 0), ([(11, .ofNat 1), (12, .ofNat 0), (13, .ofNat 0), (15, .ofNat 0)], [], []), (sxE0, [], [], ([], .ofNat 0))),
  ((30, 2, 0), ([(11, .ofNat 1), (11, .ofNat 0), (6, .ofNat 0), (14, .ofNat 1)], [], []), (sxE0, [], [], ([], .ofNat 0))),
  ((48, 10, 1), ([(0, .ofNat 0), (6, .ofNat 0), (3, .ofNat 0), (4, .ofNat 0), (5, .ofNat 0)], [0, 1], [0]), (sxE0, [], [], ([], .ofNat 0))),
  ((53, 10, 2), ([(0, .ofNat 0), (15, .ofNat 0), (11, .ofNat 0)], [], []), (sxE0, [], [], ([], .ofNat 0))),
  ((30, 2, 0), ([(11, .ofNat 1), (12, .ofNat 0), (13, .ofNat 0), (14, .ofNat 0)], [], []), (sxE0, [], [], ([], .ofNat 0))),
  ((91, 8, 4), ([], [], []), (sxE0, [], [], ([], .ofNat 0))),
  ((30, 2, 0), ([(11, .ofNat 1), (12, .ofNat 0), (13, .ofNat 0), (16, .ofNat 0)], [], []), (sxE0, [], [], ([], .ofNat 0))),
  ((30, 2, 0), ([(11, .ofNat 1), (11, .ofNat 0), (6, .ofNat 0), (14, .ofNat 1)], [], []), (sxE0, [], [], ([], .ofNat 0)))]
theorem sxvI411 : (sx_exec sxRT [sxI410, sxI396, sxI384] sxLT sxhI411 419 0 sxI411.2.2.1 (sx_argl 0 sxI411.2.2.2.1) [] [] sxjI411).isSome = true := by decide +kernel
def sxI412 : sxI := (179, (5, 112), ([(.ofNat 0, .ofNat 0), (.negSucc 2147483647, .ofNat 2147483647), (.ofNat 0, .ofNat 1), (.ofNat 0, .ofNat 7), (.ofNat 0, .ofNat 8)], [43, 53], 1, [], [(20, [(2, .ofNat 0), (3, .ofNat 0), (4, .ofNat 0)], [0])], [((0, 0), (0, .ofNat 20), (2, 1, .ofNat 0))], [(1, (0, 108), 0)]), [(2, 0, .ofNat 0), (0, 1, .ofNat 0)], [], [(([(.negSucc 2147483647, .ofNat 2147483647)], [], 0, [], [], [], []), some (0, 5, .ofNat 0))])
def sxhI412 : sxH := (sxk_X12_twos, sxgX12, sxpX12, sxcX12, (sxkiX12, sxklX12, sxksX12), (2, sxI412.2.2.2.2.1, sxI412.2.2.2.2.2, 0), (5, 2, 1), (5, 112))
def sxjI412 : List sxJ := [((1, 10, 0), ([(0, .ofNat 0), (2, .ofNat 0), (3, .ofNat 0), (4, .ofNat 0)], [0, 1], [0]), (sxE0, [], [], ([], .ofNat 0))),
  ((29, 11, 0), ([(0, .negSucc 0)], [], []), (sxE0, [], [], ([], .ofNat 0))),
  ((13, 10, 1), ([(0, .ofNat 0), (1, .ofNat 0), (0, .ofNat 0), (0, .ofNat 2)], [], []), (sxE0, [], [], ([], .ofNat 0))),
  ((29, 11, 0), ([(0, .negSucc 0)], [], []), (sxE0, [], [], ([], .ofNat 0))),
  ((16, 7, 0), ([], [], []), (sxE0, [], [], ([(1, .ofNat 1), (0, .negSucc 0)], .ofNat 0))),
  ((16, 7, 0), ([], [], []), (sxE0, [], [], ([(0, .ofNat 1), (1, .negSucc 0)], .ofNat 2))),
  ((22, 10, 2), ([(0, .ofNat 0), (0, .ofNat 0), (1, .ofNat 0), (2, .ofNat 0), (3, .ofNat 0), (4, .ofNat 0)], [0, 1], [0]), (sxE0, [], [], ([], .ofNat 0))),
  ((29, 11, 0), ([(5, .ofNat 0)], [], []), (sxE0, [], [], ([], .ofNat 0)))]
theorem sxvI412 : (sx_exec sxRT [sxI369, sxI310, sxI411] sxLT sxhI412 79 0 sxI412.2.2.1 (sx_argl 0 sxI412.2.2.2.1) [] [] sxjI412).isSome = true := by decide +kernel
def sxI413 : sxI := (178, (3, 61), ([(.ofNat 0, .ofNat 0), (.negSucc 2147483647, .ofNat 2147483647), (.ofNat 0, .ofNat 1), (.ofNat 0, .ofNat 7), (.ofNat 0, .ofNat 8)], [43, 53], 1, [], [(20, [(2, .ofNat 0), (3, .ofNat 0), (4, .ofNat 0)], [0])], [((0, 0), (0, .ofNat 20), (2, 1, .ofNat 0))], [(1, (0, 108), 0)]), [(2, 0, .ofNat 0), (0, 1, .ofNat 0)], [], [(([(.negSucc 2147483647, .ofNat 2147483647)], [], 0, [], [], [], []), some (0, 5, .ofNat 0))])
def sxhI413 : sxH := (sxk_X12_turned, sxgX12, sxpX12, sxcX12, (sxkiX12, sxklX12, sxksX12), (2, sxI413.2.2.2.2.1, sxI413.2.2.2.2.2, 0), (5, 2, 1), (3, 61))
def sxjI413 : List sxJ := [((2, 10, 0), ([(0, .ofNat 0), (1, .ofNat 0), (2, .ofNat 0), (3, .ofNat 0), (4, .ofNat 0)], [0, 1], [0]), (sxE0, [], [], ([], .ofNat 0))),
  ((38, 11, 0), ([(0, .negSucc 0)], [], []), (sxE0, [], [], ([], .ofNat 0))),
  ((5, 7, 0), ([], [], []), (sxE0, [], [], ([(1, .ofNat 1)], .ofNat 0))),
  ((5, 7, 0), ([], [], []), (sxE0, [], [], ([(1, .negSucc 0)], .ofNat 6))),
  ((5, 7, 0), ([], [], []), (sxE0, [], [], ([(3, .ofNat 1), (1, .negSucc 0)], .negSucc 0))),
  ((24, 8, 0), ([], [], []), (sxE0, [], [], ([], .ofNat 0))),
  ((38, 11, 0), ([(10, .ofNat 0)], [], []), (sxE0, [], [], ([], .ofNat 0)))]
theorem sxvI413 : (sx_exec sxRT [sxI362] sxLT sxhI413 84 0 sxI413.2.2.1 (sx_argl 0 sxI413.2.2.2.1) [] [] sxjI413).isSome = true := by decide +kernel
def sxI414 : sxI := (176, (3, 60), ([(.ofNat 0, .ofNat 0), (.ofNat 0, .ofNat 1), (.ofNat 0, .ofNat 7), (.ofNat 0, .ofNat 8)], [43, 53], 1, [], [(20, [(1, .ofNat 0), (2, .ofNat 0), (3, .ofNat 0)], [0])], [((0, 0), (0, .ofNat 20), (2, 1, .ofNat 0))], [(1, (0, 108), 0)]), [(2, 0, .ofNat 0)], [], [(([(.negSucc 1, .ofNat 6)], [], 0, [], [], [], []), some (0, 4, .ofNat 0))])
def sxhI414 : sxH := (sxk_X12_thin, sxgX12, sxpX12, sxcX12, (sxkiX12, sxklX12, sxksX12), (3, sxI414.2.2.2.2.1, sxI414.2.2.2.2.2, 0), (4, 2, 1), (3, 60))
def sxjI414 : List sxJ := [((1, 10, 0), ([(0, .ofNat 0), (1, .ofNat 0), (2, .ofNat 0), (3, .ofNat 0)], [0, 1], [0]), (sxE0, [], [], ([], .ofNat 0))),
  ((8, 11, 0), ([(0, .negSucc 0)], [], []), (sxE0, [], [], ([], .ofNat 0))),
  ((14, 0, 0), ([(0, .ofNat 0), (0, .negSucc 1)], [], []), (([(.ofNat 0, .ofNat 7), (.negSucc 1, .ofNat 6)], [], 0, [], [], [((0, 0), (0, .ofNat 20), (2, 1, .ofNat 0))], [(1, (0, 108), 0)]), [(2, (0, 4, .ofNat 0)), (1, (0, 5, .ofNat 0)), (0, (2, 0, .ofNat 0))], [], ([(4, .negSucc 0)], .ofNat 7))),
  ((21, 3, 1), ([(0, .ofNat 0), (1, .ofNat 0), (2, .ofNat 0), (3, .ofNat 0), (6, .ofNat 0)], [], [0]), (sxE0, [], [], ([], .ofNat 0))),
  ((21, 7, 0), ([], [], []), (sxE0, [], [], ([(6, .ofNat 1), (2, .negSucc 0)], .ofNat 0))),
  ((21, 7, 0), ([], [], []), (sxE0, [], [], ([(2, .ofNat 1), (6, .negSucc 0)], .ofNat 0))),
  ((58, 11, 0), ([(5, .ofNat 0)], [], []), (sxE0, [], [], ([], .ofNat 0))),
  ((14, 2, 0), ([(4, .ofNat 1), (4, .ofNat 0)], [], []), (sxE0, [], [], ([], .ofNat 0))),
  ((14, 2, 0), ([(4, .ofNat 1), (5, .ofNat 0)], [], []), (sxE0, [], [], ([], .ofNat 0))),
  ((14, 2, 0), ([(4, .ofNat 1), (4, .ofNat 0)], [], []), (sxE0, [], [], ([], .ofNat 0)))]
theorem sxvI414 : (sx_exec sxRT [sxI369] sxLT sxhI414 137 0 sxI414.2.2.1 (sx_argl 0 sxI414.2.2.2.1) [] [] sxjI414).isSome = true := by decide +kernel
def sxI415 : sxI := (104, (9, 197), ([(.ofNat 0, .ofNat 0), (.ofNat 0, .ofNat 7), (.ofNat 0, .ofNat 8)], [43, 53, 45, 47, 48, 55], 4, [], [(20, [(0, .ofNat 1), (1, .ofNat 0), (2, .ofNat 0)], [0]), (23, [], [1, 2, 3])], [((0, 0), (0, .ofNat 20), (2, 1, .ofNat 0)), ((0, 0), (0, .ofNat 3), (2, 2, .ofNat 0)), ((0, 0), (0, .ofNat 5), (2, 3, .ofNat 0)), ((0, 0), (0, .ofNat 6), (2, 4, .ofNat 0)), ((0, 0), (0, .ofNat 26), (2, 5, .ofNat 0))], [(1, (0, 108), 0), (2, (0, 2400), 1), (3, (0, 288), 2), (4, (0, 6), 3)]), [(2, 0, .ofNat 0)], [(43, 18, 19), (51, 0, 64), (52, 0, 12), (53, 10, 39), (55, 0, 29)], [(([(.negSucc 2147483647, .ofNat 2147483647)], [], 1, [], [(20, [(0, .ofNat 1), (1, .ofNat 0), (2, .ofNat 0)], [4])], [], [(1, (0, 108), 4)]), some (0, 3, .ofNat 0))])
def sxhI415 : sxH := (sxk_X12_home, sxgX12, sxpX12, sxcX12, (sxkiX12, sxklX12, sxksX12), (3, sxI415.2.2.2.2.1, sxI415.2.2.2.2.2, 0), (3, 6, 4), (9, 197))
def sxjI415 : List sxJ := [((1, 10, 0), ([(0, .ofNat 0), (0, .ofNat 1), (1, .ofNat 0), (2, .ofNat 0)], [0, 1], [0]), (sxE0, [], [], ([], .ofNat 0))),
  ((8, 11, 0), ([(0, .negSucc 0)], [], [0]), (sxE0, [], [], ([], .ofNat 0))),
  ((13, 10, 1), ([(0, .ofNat 0), (1, .ofNat 0), (2, .ofNat 0)], [0, 1, 5], [0]), (sxE0, [], [], ([], .ofNat 0))),
  ((18, 0, 0), ([(0, .ofNat 0), (0, .negSucc 1)], [], [0]), (([(.ofNat 0, .ofNat 100), (.negSucc 2147483647, .ofNat 2147483647)], [], 1, [], [(20, [(0, .ofNat 1), (1, .ofNat 0), (2, .ofNat 0)], [5])], [((0, 0), (0, .ofNat 20), (2, 1, .ofNat 0)), ((0, 0), (0, .ofNat 3), (2, 2, .ofNat 0)), ((0, 0), (0, .ofNat 5), (2, 3, .ofNat 0)), ((0, 0), (0, .ofNat 6), (2, 4, .ofNat 0)), ((0, 0), (0, .ofNat 26), (2, 5, .ofNat 0))], [(5, (0, 29), 4), (1, (0, 108), 5), (2, (0, 2400), 1), (3, (0, 288), 2), (4, (0, 6), 3)]), [(2, (0, 3, .ofNat 0)), (1, (0, 4, .ofNat 0)), (0, (2, 0, .ofNat 0))], [], ([(3, .negSucc 0)], .ofNat 100))),
  ((64, 10, 5), ([(0, .ofNat 0), (0, .ofNat 1), (1, .ofNat 0), (2, .ofNat 0)], [0, 1, 5], [5, 4]), (sxE0, [], [], ([], .ofNat 0))),
  ((68, 11, 0), ([(4, .ofNat 0)], [], [6]), (sxE0, [], [], ([], .ofNat 0))),
  ((64, 10, 5), ([(0, .ofNat 0), (0, .ofNat 1), (1, .ofNat 0), (2, .ofNat 0)], [0, 1, 5], [5, 4]), (sxE0, [], [], ([], .ofNat 0))),
  ((68, 11, 0), ([(4, .ofNat 0)], [], [6]), (sxE0, [], [], ([], .ofNat 0))),
  ((29, 10, 2), ([(0, .ofNat 0), (0, .ofNat 1), (1, .ofNat 0), (2, .ofNat 0)], [0, 1], [5]), (sxE0, [], [], ([], .ofNat 0))),
  ((32, 10, 3), ([(0, .ofNat 0), (5, .ofNat 0)], [], []), (sxE0, [], [], ([], .ofNat 0))),
  ((41, 3, 1), ([(0, .ofNat 0), (0, .ofNat 1), (1, .ofNat 0), (2, .ofNat 0), (7, .ofNat 0)], [], [5]), (sxE0, [], [], ([], .ofNat 0))),
  ((41, 7, 0), ([], [], []), (sxE0, [], [], ([(7, .ofNat 1), (1, .negSucc 0)], .ofNat 0))),
  ((41, 7, 0), ([], [], []), (sxE0, [], [], ([(1, .ofNat 1), (7, .negSucc 0)], .ofNat 0))),
  ((53, 10, 4), ([(0, .ofNat 0), (1, .ofNat 0), (2, .ofNat 0)], [0, 1, 2, 3, 4], [5, 1, 2, 3]), (sxE0, [], [], ([], .ofNat 0))),
  ((18, 2, 0), ([(3, .ofNat 1), (4, .ofNat 0)], [], [6]), (sxE0, [], [], ([], .ofNat 0))),
  ((53, 10, 4), ([(0, .ofNat 0), (1, .ofNat 0), (2, .ofNat 0)], [0, 1, 2, 3, 4], [5, 1, 2, 3]), (sxE0, [], [], ([], .ofNat 0))),
  ((18, 2, 0), ([(3, .ofNat 1), (8, .ofNat 0)], [], [6]), (sxE0, [], [], ([], .ofNat 0)))]
theorem sxvI415 : (sx_exec sxRT [sxI369, sxI391, sxI373, sxI374, sxI385, sxI393] sxLT sxhI415 230 0 sxI415.2.2.1 (sx_argl 0 sxI415.2.2.2.1) [] [] sxjI415).isSome = true := by decide +kernel
def sxI416 : sxI := (79, (10, 219), ([(.ofNat 0, .ofNat 0), (.negSucc 2147483647, .ofNat 2147483647), (.negSucc 2147483647, .ofNat 2147483647), (.ofNat 0, .ofNat 7), (.ofNat 0, .ofNat 8)], [43, 53, 45, 47, 48, 55], 4, [], [(20, [(0, .ofNat 1), (3, .ofNat 0), (4, .ofNat 0)], [0]), (23, [], [1, 2, 3])], [((0, 0), (0, .ofNat 20), (2, 1, .ofNat 0)), ((0, 0), (0, .ofNat 3), (2, 2, .ofNat 0)), ((0, 0), (0, .ofNat 5), (2, 3, .ofNat 0)), ((0, 0), (0, .ofNat 6), (2, 4, .ofNat 0)), ((0, 0), (0, .ofNat 26), (2, 5, .ofNat 0))], [(1, (0, 108), 0), (2, (0, 2400), 1), (3, (0, 288), 2), (4, (0, 6), 3)]), [(2, 0, .ofNat 0), (0, 1, .ofNat 0), (0, 2, .ofNat 0)], [(43, 18, 19), (51, 0, 64), (52, 0, 12), (53, 10, 39), (55, 0, 29)], [(([(.negSucc 1, .ofNat 2147483647)], [], 1, [], [(20, [(0, .ofNat 1), (3, .ofNat 0), (4, .ofNat 0)], [4])], [], [(1, (0, 108), 4)]), some (0, 5, .ofNat 0))])
def sxhI416 : sxH := (sxk_X12_carves, sxgX12, sxpX12, sxcX12, (sxkiX12, sxklX12, sxksX12), (7, sxI416.2.2.2.2.1, sxI416.2.2.2.2.2, 0), (5, 6, 4), (10, 219))
def sxjI416 : List sxJ := [((1, 10, 0), ([(0, .ofNat 0), (0, .ofNat 1), (3, .ofNat 0), (4, .ofNat 0)], [0, 1], [0]), (sxE0, [], [], ([], .ofNat 0))),
  ((30, 11, 0), ([(0, .negSucc 0)], [], [0]), (sxE0, [], [], ([], .ofNat 0))),
  ((13, 10, 1), ([(0, .ofNat 0), (1, .ofNat 0), (0, .ofNat 1), (0, .ofNat 60)], [], []), (sxE0, [], [], ([], .ofNat 0))),
  ((30, 11, 0), ([(0, .negSucc 0)], [], [0]), (sxE0, [], [], ([], .ofNat 0))),
  ((16, 7, 0), ([], [], []), (sxE0, [], [], ([(1, .ofNat 1), (0, .negSucc 0)], .negSucc 0))),
  ((16, 7, 0), ([], [], []), (sxE0, [], [], ([(0, .ofNat 1), (1, .negSucc 0)], .ofNat 60))),
  ((23, 10, 1), ([(0, .ofNat 0), (2, .ofNat 0), (0, .ofNat 0), (0, .ofNat 1)], [], []), (sxE0, [], [], ([], .ofNat 0))),
  ((30, 11, 0), ([(0, .negSucc 0)], [], [0]), (sxE0, [], [], ([], .ofNat 0))),
  ((26, 7, 0), ([], [], []), (sxE0, [], [], ([(2, .ofNat 1), (0, .negSucc 0)], .ofNat 0))),
  ((26, 7, 0), ([], [], []), (sxE0, [], [], ([(0, .ofNat 1), (2, .negSucc 0)], .ofNat 1))),
  ((38, 10, 2), ([(0, .ofNat 0), (3, .ofNat 0), (4, .ofNat 0)], [0, 1, 5], [0]), (sxE0, [], [], ([], .ofNat 0))),
  ((43, 10, 3), ([(0, .ofNat 0), (1, .ofNat 0), (3, .ofNat 0), (4, .ofNat 0)], [0, 1, 2, 3, 4], [0, 1, 2, 3]), (sxE0, [], [], ([], .ofNat 0))),
  ((49, 0, 0), ([(0, .ofNat 0), (0, .negSucc 0), (0, .negSucc 1)], [], []), (([(.ofNat 0, .ofNat 7), (.negSucc 0, .ofNat 2147483647), (.negSucc 1, .ofNat 6)], [], 0, [], [], [((0, 0), (0, .ofNat 20), (2, 1, .ofNat 0)), ((0, 0), (0, .ofNat 3), (2, 2, .ofNat 0)), ((0, 0), (0, .ofNat 5), (2, 3, .ofNat 0)), ((0, 0), (0, .ofNat 6), (2, 4, .ofNat 0)), ((0, 0), (0, .ofNat 26), (2, 5, .ofNat 0))], [(1, (0, 108), 5), (5, (0, 29), 4), (2, (0, 2400), 1), (3, (0, 288), 2), (4, (0, 6), 3)]), [(5, (0, 5, .ofNat 0)), (4, (0, 6, .ofNat 0)), (3, (0, 7, .ofNat 0)), (0, (2, 0, .ofNat 0)), (1, (0, 1, .ofNat 0)), (2, (0, 2, .ofNat 0))], [], ([(5, .negSucc 0)], .ofNat 7))),
  ((57, 3, 1), ([(0, .ofNat 0), (0, .ofNat 1), (3, .ofNat 0), (4, .ofNat 0), (8, .ofNat 0)], [], [5]), (sxE0, [], [], ([], .ofNat 0))),
  ((57, 7, 0), ([], [], []), (sxE0, [], [], ([(8, .ofNat 1), (3, .negSucc 0)], .ofNat 0))),
  ((57, 7, 0), ([], [], []), (sxE0, [], [], ([(3, .ofNat 1), (8, .negSucc 0)], .ofNat 0))),
  ((110, 10, 4), ([(0, .ofNat 0), (0, .ofNat 1), (3, .ofNat 0), (4, .ofNat 0)], [0, 1, 5], [5, 4]), (sxE0, [], [], ([], .ofNat 0))),
  ((132, 11, 0), ([(6, .ofNat 0)], [], [6]), (sxE0, [], [], ([], .ofNat 0))),
  ((132, 11, 0), ([(0, .ofNat 0)], [], [6]), (sxE0, [], [], ([], .ofNat 0))),
  ((132, 11, 0), ([(7, .ofNat 0)], [], [6]), (sxE0, [], [], ([], .ofNat 0))),
  ((49, 2, 0), ([(5, .ofNat 1), (11, .ofNat 0), (5, .ofNat 0)], [], []), (sxE0, [], [], ([], .ofNat 0))),
  ((49, 2, 0), ([(5, .ofNat 1), (6, .ofNat 0), (7, .ofNat 0)], [], []), (sxE0, [], [], ([], .ofNat 0)))]
theorem sxvI416 : (sx_exec sxRT [sxI369, sxI310, sxI391, sxI392, sxI393] sxLT sxhI416 206 0 sxI416.2.2.1 (sx_argl 0 sxI416.2.2.2.1) [] [] sxjI416).isSome = true := by decide +kernel
def sxI417 : sxI := (142, (5, 112), ([(.ofNat 0, .ofNat 0), (.negSucc 2147483647, .ofNat 2147483647), (.ofNat 0, .ofNat 1), (.ofNat 0, .ofNat 7), (.ofNat 0, .ofNat 8)], [43, 53], 1, [], [(20, [(2, .ofNat 0), (3, .ofNat 0), (4, .ofNat 0)], [0])], [((0, 0), (0, .ofNat 20), (2, 1, .ofNat 0))], [(1, (0, 108), 0)]), [(2, 0, .ofNat 0), (0, 1, .ofNat 0)], [], [(([(.negSucc 2147483647, .ofNat 2147483647)], [], 0, [], [], [], []), some (0, 5, .ofNat 0))])
def sxhI417 : sxH := (sxk_X12_nearer, sxgX12, sxpX12, sxcX12, (sxkiX12, sxklX12, sxksX12), (2, sxI417.2.2.2.2.1, sxI417.2.2.2.2.2, 0), (5, 2, 1), (5, 112))
def sxjI417 : List sxJ := [((1, 10, 0), ([(0, .ofNat 0), (2, .ofNat 0), (3, .ofNat 0), (4, .ofNat 0)], [0, 1], [0]), (sxE0, [], [], ([], .ofNat 0))),
  ((29, 11, 0), ([(0, .negSucc 0)], [], []), (sxE0, [], [], ([], .ofNat 0))),
  ((13, 10, 1), ([(0, .ofNat 0), (1, .ofNat 0), (0, .ofNat 0), (0, .ofNat 2)], [], []), (sxE0, [], [], ([], .ofNat 0))),
  ((29, 11, 0), ([(0, .negSucc 0)], [], []), (sxE0, [], [], ([], .ofNat 0))),
  ((16, 7, 0), ([], [], []), (sxE0, [], [], ([(1, .ofNat 1), (0, .negSucc 0)], .ofNat 0))),
  ((16, 7, 0), ([], [], []), (sxE0, [], [], ([(0, .ofNat 1), (1, .negSucc 0)], .ofNat 2))),
  ((22, 10, 2), ([(0, .ofNat 0), (0, .ofNat 1), (1, .ofNat 0), (2, .ofNat 0), (3, .ofNat 0), (4, .ofNat 0)], [0, 1], [0]), (sxE0, [], [], ([], .ofNat 0))),
  ((29, 11, 0), ([(5, .ofNat 0)], [], []), (sxE0, [], [], ([], .ofNat 0)))]
theorem sxvI417 : (sx_exec sxRT [sxI369, sxI310, sxI411] sxLT sxhI417 79 0 sxI417.2.2.1 (sx_argl 0 sxI417.2.2.2.1) [] [] sxjI417).isSome = true := by decide +kernel
def sxI418 : sxI := (183, (2, 40), ([(.ofNat 0, .ofNat 0), (.ofNat 0, .ofNat 1), (.ofNat 0, .ofNat 7), (.ofNat 0, .ofNat 8)], [43, 53], 1, [], [(20, [(1, .ofNat 0), (2, .ofNat 0), (3, .ofNat 0)], [0])], [((0, 0), (0, .ofNat 20), (2, 1, .ofNat 0))], [(1, (0, 108), 0)]), [(2, 0, .ofNat 0)], [], [(([(.negSucc 2147483647, .ofNat 2147483647)], [], 0, [], [], [], []), some (0, 4, .ofNat 0))])
def sxhI418 : sxH := (sxk_X12_wasAll, sxgX12, sxpX12, sxcX12, (sxkiX12, sxklX12, sxksX12), (3, sxI418.2.2.2.2.1, sxI418.2.2.2.2.2, 0), (4, 2, 1), (2, 40))
def sxjI418 : List sxJ := [((4, 0, 0), ([(0, .ofNat 0), (0, .ofNat 0)], [], []), (([(.ofNat 0, .ofNat 7), (.negSucc 2147483647, .ofNat 2147483647)], [], 0, [], [], [((0, 0), (0, .ofNat 20), (2, 1, .ofNat 0))], [(1, (0, 108), 0)]), [(2, (0, 4, .ofNat 0)), (1, (0, 5, .ofNat 0)), (0, (2, 0, .ofNat 0))], [], ([(4, .negSucc 0)], .ofNat 7))),
  ((11, 3, 1), ([(0, .ofNat 0), (1, .ofNat 0), (2, .ofNat 0), (3, .ofNat 0), (6, .ofNat 0)], [], [0]), (sxE0, [], [], ([], .ofNat 0))),
  ((11, 7, 0), ([], [], []), (sxE0, [], [], ([(6, .ofNat 1), (2, .negSucc 0)], .ofNat 0))),
  ((11, 7, 0), ([], [], []), (sxE0, [], [], ([(2, .ofNat 1), (6, .negSucc 0)], .ofNat 0))),
  ((33, 11, 0), ([(5, .ofNat 0)], [], []), (sxE0, [], [], ([], .ofNat 0))),
  ((4, 2, 0), ([(4, .ofNat 1), (8, .ofNat 0)], [], []), (sxE0, [], [], ([], .ofNat 0)))]
theorem sxvI418 : (sx_exec sxRT [] sxLT sxhI418 101 0 sxI418.2.2.1 (sx_argl 0 sxI418.2.2.2.1) [] [] sxjI418).isSome = true := by decide +kernel
def sxI419 : sxI := (132, (10, 219), ([(.ofNat 0, .ofNat 0), (.negSucc 2147483647, .ofNat 2147483647), (.ofNat 0, .ofNat 7), (.ofNat 0, .ofNat 8)], [43, 53, 45, 47, 48, 55], 5, [], [(20, [(0, .ofNat 1), (2, .ofNat 0), (3, .ofNat 0)], [0]), (23, [], [1, 2, 3]), (26, [(2, .ofNat 0)], [4])], [((0, 0), (0, .ofNat 20), (2, 1, .ofNat 0)), ((0, 0), (0, .ofNat 3), (2, 2, .ofNat 0)), ((0, 0), (0, .ofNat 5), (2, 3, .ofNat 0)), ((0, 0), (0, .ofNat 6), (2, 4, .ofNat 0)), ((0, 0), (0, .ofNat 26), (2, 5, .ofNat 0))], [(1, (0, 108), 0), (2, (0, 2400), 1), (3, (0, 288), 2), (4, (0, 6), 3), (5, (0, 29), 4)]), [(2, 0, .ofNat 0), (0, 1, .ofNat 0)], [(43, 18, 19), (51, 0, 64), (52, 0, 12), (53, 10, 39)], [(([(.negSucc 2147483647, .ofNat 2147483647)], [], 1, [], [(20, [(0, .ofNat 1), (2, .ofNat 0), (3, .ofNat 0)], [5])], [], [(1, (0, 108), 5)]), some (0, 4, .ofNat 0))])
def sxhI419 : sxH := (sxk_X12_letIn, sxgX12, sxpX12, sxcX12, (sxkiX12, sxklX12, sxksX12), (4, sxI419.2.2.2.2.1, sxI419.2.2.2.2.2, 0), (4, 6, 5), (10, 219))
def sxjI419 : List sxJ := [((1, 10, 0), ([(0, .ofNat 0), (0, .ofNat 1), (2, .ofNat 0), (3, .ofNat 0)], [0, 1], [0]), (sxE0, [], [], ([], .ofNat 0))),
  ((7, 10, 1), ([(0, .ofNat 0), (1, .ofNat 0), (2, .ofNat 0), (3, .ofNat 0)], [0, 1, 2, 3, 4], [0, 1, 2, 3]), (sxE0, [], [], ([], .ofNat 0))),
  ((11, 10, 0), ([(0, .ofNat 0), (0, .ofNat 1), (2, .ofNat 0), (3, .ofNat 0)], [0, 1], [5]), (sxE0, [], [], ([], .ofNat 0))),
  ((18, 10, 2), ([(0, .ofNat 0), (0, .ofNat 1), (2, .ofNat 0), (3, .ofNat 0)], [0, 1, 5], [5, 4]), (sxE0, [], [], ([], .ofNat 0))),
  ((22, 11, 0), ([(6, .ofNat 0)], [], [6]), (sxE0, [], [], ([], .ofNat 0)))]
theorem sxvI419 : (sx_exec sxRT [sxI418, sxI392, sxI393] sxLT sxhI419 70 0 sxI419.2.2.1 (sx_argl 0 sxI419.2.2.2.1) [] [] sxjI419).isSome = true := by decide +kernel
def sxI420 : sxI := (136, (11, 242), ([(.ofNat 0, .ofNat 0), (.negSucc 2147483647, .ofNat 2147483647), (.negSucc 2147483647, .ofNat 2147483647), (.ofNat 0, .ofNat 7), (.ofNat 0, .ofNat 8)], [43, 53, 45, 47, 48, 55], 4, [], [(20, [(0, .ofNat 1), (3, .ofNat 0), (4, .ofNat 0)], [0]), (23, [], [1, 2, 3])], [((0, 0), (0, .ofNat 20), (2, 1, .ofNat 0)), ((0, 0), (0, .ofNat 3), (2, 2, .ofNat 0)), ((0, 0), (0, .ofNat 5), (2, 3, .ofNat 0)), ((0, 0), (0, .ofNat 6), (2, 4, .ofNat 0)), ((0, 0), (0, .ofNat 26), (2, 5, .ofNat 0))], [(1, (0, 108), 0), (2, (0, 2400), 1), (3, (0, 288), 2), (4, (0, 6), 3)]), [(2, 0, .ofNat 0), (0, 1, .ofNat 0), (0, 2, .ofNat 0)], [(43, 18, 19), (43, 23, 24), (51, 0, 64), (52, 0, 12), (53, 10, 39), (55, 0, 29)], [(([(.negSucc 2147483647, .ofNat 2147483647)], [], 1, [], [(20, [(0, .ofNat 1), (3, .ofNat 0), (4, .ofNat 0)], [4])], [], [(1, (0, 108), 4)]), some (0, 5, .ofNat 0))])
def sxhI420 : sxH := (sxk_X12_lock, sxgX12, sxpX12, sxcX12, (sxkiX12, sxklX12, sxksX12), (7, sxI420.2.2.2.2.1, sxI420.2.2.2.2.2, 0), (5, 6, 4), (11, 242))
def sxjI420 : List sxJ := [((1, 10, 0), ([(0, .ofNat 0), (0, .ofNat 1), (3, .ofNat 0), (4, .ofNat 0)], [0, 1], [0]), (sxE0, [], [], ([], .ofNat 0))),
  ((31, 11, 0), ([(0, .negSucc 1)], [], [0]), (sxE0, [], [], ([], .ofNat 0))),
  ((13, 10, 1), ([(0, .ofNat 0), (1, .ofNat 0), (0, .ofNat 1), (0, .ofNat 60)], [], []), (sxE0, [], [], ([], .ofNat 0))),
  ((31, 11, 0), ([(0, .negSucc 1)], [], [0]), (sxE0, [], [], ([], .ofNat 0))),
  ((16, 7, 0), ([], [], []), (sxE0, [], [], ([(1, .ofNat 1), (0, .negSucc 0)], .negSucc 0))),
  ((16, 7, 0), ([], [], []), (sxE0, [], [], ([(0, .ofNat 1), (1, .negSucc 0)], .ofNat 60))),
  ((23, 10, 1), ([(0, .ofNat 0), (2, .ofNat 0), (0, .ofNat 0), (0, .ofNat 1)], [], []), (sxE0, [], [], ([], .ofNat 0))),
  ((31, 11, 0), ([(0, .negSucc 1)], [], [0]), (sxE0, [], [], ([], .ofNat 0))),
  ((26, 7, 0), ([], [], []), (sxE0, [], [], ([(2, .ofNat 1), (0, .negSucc 0)], .ofNat 0))),
  ((26, 7, 0), ([], [], []), (sxE0, [], [], ([(0, .ofNat 1), (2, .negSucc 0)], .ofNat 1))),
  ((33, 10, 2), ([(0, .ofNat 0), (3, .ofNat 0), (4, .ofNat 0)], [0, 1, 5], [0]), (sxE0, [], [], ([], .ofNat 0))),
  ((40, 10, 3), ([(0, .ofNat 0), (1, .ofNat 0), (3, .ofNat 0), (4, .ofNat 0)], [0, 1, 2, 3, 4, 5], [0, 1, 2, 3, 4]), (sxE0, [], [], ([], .ofNat 0))),
  ((48, 0, 0), ([(0, .ofNat 0), (5, .ofNat 0), (0, .negSucc 0)], [], [5]), (([(.ofNat 0, .ofNat 7), (.negSucc 2147483647, .ofNat 2147483647), (.negSucc 0, .ofNat 6)], [], 1, [([(7, .ofNat 1), (5, .negSucc 0)], .ofNat 0)], [(20, [(0, .ofNat 1), (3, .ofNat 0), (4, .ofNat 0)], [6])], [((0, 0), (0, .ofNat 20), (2, 1, .ofNat 0)), ((0, 0), (0, .ofNat 3), (2, 2, .ofNat 0)), ((0, 0), (0, .ofNat 5), (2, 3, .ofNat 0)), ((0, 0), (0, .ofNat 6), (2, 4, .ofNat 0)), ((0, 0), (0, .ofNat 26), (2, 5, .ofNat 0))], [(1, (0, 108), 6), (5, (0, 29), 4), (2, (0, 2400), 1), (3, (0, 288), 2), (4, (0, 6), 3)]), [(5, (0, 6, .ofNat 0)), (4, (0, 7, .ofNat 0)), (3, (0, 8, .ofNat 0)), (0, (2, 0, .ofNat 0)), (1, (0, 1, .ofNat 0)), (2, (0, 2, .ofNat 0))], [], ([(6, .negSucc 0)], .ofNat 7))),
  ((56, 3, 1), ([(0, .ofNat 0), (0, .ofNat 1), (3, .ofNat 0), (4, .ofNat 0), (9, .ofNat 0)], [], [6]), (sxE0, [], [], ([], .ofNat 0))),
  ((56, 7, 0), ([], [], []), (sxE0, [], [], ([(9, .ofNat 1), (3, .negSucc 0)], .ofNat 0))),
  ((56, 7, 0), ([], [], []), (sxE0, [], [], ([(3, .ofNat 1), (9, .negSucc 0)], .ofNat 0))),
  ((110, 11, 0), ([(7, .ofNat 0)], [], [6]), (sxE0, [], [], ([], .ofNat 0))),
  ((110, 11, 0), ([(8, .ofNat 0)], [], [6]), (sxE0, [], [], ([], .ofNat 0))),
  ((67, 10, 3), ([(0, .ofNat 0), (1, .ofNat 0), (3, .ofNat 0), (4, .ofNat 0)], [0, 1, 2, 3, 4, 5], [6, 1, 2, 3, 4]), (sxE0, [], [], ([], .ofNat 0))),
  ((48, 2, 0), ([(6, .ofNat 1), (10, .ofNat 0), (6, .ofNat 0)], [], [7]), (sxE0, [], [], ([], .ofNat 0))),
  ((48, 2, 0), ([(6, .ofNat 1), (7, .ofNat 0), (8, .ofNat 0)], [], [7]), (sxE0, [], [], ([], .ofNat 0)))]
theorem sxvI420 : (sx_exec sxRT [sxI369, sxI310, sxI391, sxI419] sxLT sxhI420 188 0 sxI420.2.2.1 (sx_argl 0 sxI420.2.2.2.1) [] [] sxjI420).isSome = true := by decide +kernel
def sxI421 : sxI := (150, (3, 65), ([(.ofNat 0, .ofNat 0), (.negSucc 2147483647, .ofNat 2147483647), (.negSucc 2147483647, .ofNat 2147483647), (.ofNat 0, .ofNat 1), (.ofNat 0, .ofNat 7), (.ofNat 0, .ofNat 8)], [43, 53], 1, [], [(20, [(3, .ofNat 0), (4, .ofNat 0), (5, .ofNat 0)], [0])], [((0, 0), (0, .ofNat 20), (2, 1, .ofNat 0))], [(1, (0, 108), 0)]), [(2, 0, .ofNat 0), (0, 1, .ofNat 0), (0, 2, .ofNat 0)], [], [(([(.negSucc 2147483647, .ofNat 2147483647)], [], 0, [], [], [], []), some (0, 6, .ofNat 0))])
def sxhI421 : sxH := (sxk_X12_pence, sxgX12, sxpX12, sxcX12, (sxkiX12, sxklX12, sxksX12), (9, sxI421.2.2.2.2.1, sxI421.2.2.2.2.2, 0), (6, 2, 1), (3, 65))
def sxjI421 : List sxJ := [((2, 10, 0), ([(0, .ofNat 0), (2, .ofNat 0), (3, .ofNat 0), (4, .ofNat 0), (5, .ofNat 0)], [0, 1], [0]), (sxE0, [], [], ([], .ofNat 0))),
  ((21, 11, 0), ([(0, .negSucc 0)], [], []), (sxE0, [], [], ([], .ofNat 0))),
  ((5, 7, 0), ([], [], []), (sxE0, [], [], ([(2, .ofNat 1)], .ofNat 0))),
  ((5, 7, 0), ([], [], []), (sxE0, [], [], ([(2, .negSucc 0)], .ofNat 6))),
  ((5, 7, 0), ([], [], []), (sxE0, [], [], ([(4, .ofNat 1), (2, .negSucc 0)], .negSucc 0))),
  ((14, 10, 1), ([(0, .ofNat 0), (1, .ofNat 0), (0, .ofNat 0), (0, .ofNat 9999)], [], []), (sxE0, [], [], ([], .ofNat 0))),
  ((21, 11, 0), ([(0, .negSucc 0)], [], []), (sxE0, [], [], ([], .ofNat 0))),
  ((17, 7, 0), ([], [], []), (sxE0, [], [], ([(1, .ofNat 1), (0, .negSucc 0)], .ofNat 0))),
  ((17, 7, 0), ([], [], []), (sxE0, [], [], ([(0, .ofNat 1), (1, .negSucc 0)], .ofNat 9999))),
  ((23, 10, 2), ([(0, .ofNat 0), (3, .ofNat 0), (4, .ofNat 0), (5, .ofNat 0)], [0, 1], [0]), (sxE0, [], [], ([], .ofNat 0))),
  ((55, 0, 0), ([(0, .ofNat 0), (0, .ofNat 0), (1, .ofNat 0)], [], []), (([(.ofNat 0, .ofNat 7), (.negSucc 2147483647, .ofNat 2147483647), (.negSucc 2147483647, .ofNat 2147483647)], [], 0, [], [], [((1, 1), (2, .ofNat 32), (0, 7, .ofNat 0)), ((0, 0), (0, .ofNat 20), (2, 1, .ofNat 0))], [(1, (0, 108), 0)]), [(7, (0, 9, .ofNat 0)), (6, (0, 10, .ofNat 0)), (5, (0, 11, .ofNat 0)), (4, (0, 8, .ofNat 0)), (3, (0, 6, .ofNat 0)), (0, (2, 0, .ofNat 0)), (1, (0, 1, .ofNat 0)), (2, (0, 2, .ofNat 0))], [], ([(9, .negSucc 0)], .ofNat 7))),
  ((63, 3, 1), ([(0, .ofNat 0), (3, .ofNat 0), (4, .ofNat 0), (5, .ofNat 0), (12, .ofNat 0)], [], [0]), (sxE0, [], [], ([], .ofNat 0))),
  ((63, 7, 0), ([], [], []), (sxE0, [], [], ([(12, .ofNat 1), (4, .negSucc 0)], .ofNat 0))),
  ((63, 7, 0), ([], [], []), (sxE0, [], [], ([(4, .ofNat 1), (12, .negSucc 0)], .ofNat 0))),
  ((150, 11, 0), ([(13, .ofNat 0)], [], []), (sxE0, [], [], ([], .ofNat 0))),
  ((150, 8, 0), ([], [], []), (sxE0, [], [], ([], .ofNat 0))),
  ((150, 11, 0), ([(14, .ofNat 0)], [], []), (sxE0, [], [], ([], .ofNat 0))),
  ((125, 8, 0), ([], [], []), (sxE0, [], [], ([], .ofNat 0))),
  ((55, 2, 0), ([(9, .ofNat 1), (19, .ofNat 0), (16, .ofNat 0)], [], []), (sxE0, [], [], ([], .ofNat 0))),
  ((55, 2, 0), ([(9, .ofNat 1), (10, .ofNat 0), (16, .ofNat 0)], [], []), (sxE0, [], [], ([], .ofNat 0))),
  ((55, 2, 0), ([(9, .ofNat 1), (10, .ofNat 0), (16, .ofNat 0)], [], []), (sxE0, [], [], ([], .ofNat 0))),
  ((125, 8, 0), ([], [], []), (sxE0, [], [], ([], .ofNat 0))),
  ((55, 2, 0), ([(9, .ofNat 1), (21, .ofNat 0), (16, .ofNat 0)], [], []), (sxE0, [], [], ([], .ofNat 0))),
  ((32, 11, 0), ([(0, .ofNat 0)], [], []), (sxE0, [], [], ([], .ofNat 0)))]
theorem sxvI421 : (sx_exec sxRT [sxI362, sxI310, sxI418] sxLT sxhI421 682 0 sxI421.2.2.1 (sx_argl 0 sxI421.2.2.2.1) [] [] sxjI421).isSome = true := by decide +kernel
