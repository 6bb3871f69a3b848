def sxI383 : sxI := (185, (2, 40), ([(.ofNat 0, .ofNat 0), (.ofNat 0, .ofNat 7), (.ofNat 0, .ofNat 8)], [43, 53], 1, [], [(20, [(0, .ofNat 1), (1, .ofNat 0), (2, .ofNat 0)], [0])], [((0, 0), (0, .ofNat 20), (2, 1, .ofNat 0))], [(1, (0, 108), 0)]), [(2, 0, .ofNat 0)], [(53, 18, 32)], [(([], [], 1, [], [(20, [(0, .ofNat 1), (1, .ofNat 0), (2, .ofNat 0)], [1])], [], [(1, (0, 108), 1)]), none)])
def sxhI383 : sxH := (sxk_X12_wears, sxgX12, sxpX12, sxcX12, (sxkiX12, sxklX12, sxksX12), (2, sxI383.2.2.2.2.1, sxI383.2.2.2.2.2, 4), (3, 2, 1), (2, 40))
def sxjI383 : List sxJ := [((2, 0, 0), ([(0, .ofNat 0)], [], [0]), (([(.ofNat 0, .ofNat 7)], [], 1, [], [(20, [(0, .ofNat 1), (1, .ofNat 0), (2, .ofNat 0)], [1])], [((0, 0), (0, .ofNat 20), (2, 1, .ofNat 0))], [(1, (0, 108), 1)]), [(1, (0, 3, .ofNat 0)), (0, (2, 0, .ofNat 0))], [], ([(3, .negSucc 0)], .ofNat 7))),
  ((9, 3, 1), ([(0, .ofNat 0), (0, .ofNat 1), (1, .ofNat 0), (2, .ofNat 0), (4, .ofNat 0)], [], [1]), (sxE0, [], [], ([], .ofNat 0))),
  ((9, 7, 0), ([], [], []), (sxE0, [], [], ([(4, .ofNat 1), (1, .negSucc 0)], .ofNat 0))),
  ((9, 7, 0), ([], [], []), (sxE0, [], [], ([(1, .ofNat 1), (4, .negSucc 0)], .ofNat 0))),
  ((75, 11, 0), ([], [], [1]), (sxE0, [], [], ([], .ofNat 0))),
  ((24, 8, 0), ([], [], []), (sxE0, [], [], ([], .ofNat 0))),
  ((25, 3, 8), ([(0, .ofNat 0), (0, .ofNat 1), (1, .ofNat 0), (2, .ofNat 0), (3, .ofNat 25), (6, .ofNat 0)], [], [1, 2]), (sxE0, [], [], ([], .ofNat 0))),
  ((56, 3, 8), ([(0, .ofNat 0), (0, .ofNat 1), (1, .ofNat 0), (2, .ofNat 0), (3, .ofNat 25), (0, .ofNat 0)], [], [2, 3]), (sxE0, [], [], ([], .ofNat 0))),
  ((69, 3, 8), ([(0, .ofNat 0), (0, .ofNat 1), (1, .ofNat 0), (2, .ofNat 0), (3, .ofNat 18), (9, .ofNat 0)], [], [3, 4]), (sxE0, [], [], ([], .ofNat 0))),
  ((2, 2, 0), ([(3, .ofNat 1)], [], [4]), (sxE0, [], [], ([], .ofNat 0))),
  ((2, 2, 0), ([(3, .ofNat 1)], [], [2]), (sxE0, [], [], ([], .ofNat 0)))]
theorem sxvI383 : (sx_exec sxRT [] sxLT sxhI383 168 0 sxI383.2.2.1 (sx_argl 0 sxI383.2.2.2.1) [] [] sxjI383).isSome = true := by decide +kernel
def sxI384 : sxI := (122, (2, 40), ([(.ofNat 0, .ofNat 0), (.ofNat 0, .ofNat 127), (.ofNat 0, .ofNat 6)], [], 0, [], [], [], []), [(0, 1, .ofNat 0), (0, 2, .ofNat 0)], [], [(([], [], 0, [], [(27, [(1, .ofNat 0), (2, .ofNat 0)], [])], [], []), some (0, 0, .ofNat 0)), (([], [], 0, [], [], [], []), some (0, 0, .ofNat 1))])
def sxhI384 : sxH := (sxk_X12_isOf, sxgX12, sxpX12, sxcX12, (sxkiX12, sxklX12, sxksX12), (2, sxI384.2.2.2.2.1, sxI384.2.2.2.2.2, 1), (3, 0, 0), (2, 40))
def sxjI384 : List sxJ := [((13, 3, 18), ([(0, .ofNat 0), (1, .ofNat 0), (2, .ofNat 0), (3, .ofNat 0), (4, .ofNat 0)], [], []), (sxE0, [], [], ([], .ofNat 0))),
  ((14, 11, 0), ([], [], []), (sxE0, [], [], ([], .ofNat 0))),
  ((14, 11, 1), ([], [], []), (sxE0, [], [], ([], .ofNat 0)))]
theorem sxvI384 : (sx_exec sxRT [] sxLT sxhI384 65 0 sxI384.2.2.1 (sx_argl 0 sxI384.2.2.2.1) [] [] sxjI384).isSome = true := by decide +kernel
def sxI385 : sxI := (148, (8, 175), ([(.ofNat 0, .ofNat 0), (.ofNat 0, .ofNat 7), (.ofNat 0, .ofNat 8)], [43, 53, 45, 47, 48], 4, [], [(20, [(0, .ofNat 1), (1, .ofNat 0), (2, .ofNat 0)], [0]), (23, [], [1, 2, 3])], [((0, 0), (0, .ofNat 20), (2, 1, .ofNat 0)), ((0, 0), (0, .ofNat 3), (2, 2, .ofNat 0)), ((0, 0), (0, .ofNat 5), (2, 3, .ofNat 0)), ((0, 0), (0, .ofNat 6), (2, 4, .ofNat 0))], [(1, (0, 108), 0), (2, (0, 2400), 1), (3, (0, 288), 2), (4, (0, 6), 3)]), [(2, 0, .ofNat 0)], [(43, 18, 19), (51, 0, 64), (52, 0, 12), (53, 10, 39)], [(([(.ofNat 0, .ofNat 127)], [], 1, [], [(20, [(0, .ofNat 1), (1, .ofNat 0), (2, .ofNat 0)], [4])], [], [(1, (0, 108), 4)]), some (0, 3, .ofNat 0))])
def sxhI385 : sxH := (sxk_X12_passes, sxgX12, sxpX12, sxcX12, (sxkiX12, sxklX12, sxksX12), (3, sxI385.2.2.2.2.1, sxI385.2.2.2.2.2, 0), (3, 5, 4), (8, 175))
def sxjI385 : List sxJ := [((1, 10, 0), ([(0, .ofNat 0), (1, .ofNat 0), (2, .ofNat 0)], [0, 1], [0]), (sxE0, [], [], ([], .ofNat 0))),
  ((5, 10, 1), ([(0, .ofNat 0), (1, .ofNat 0), (2, .ofNat 0)], [0, 1, 2, 3, 4], [4, 1, 2, 3]), (sxE0, [], [], ([], .ofNat 0))),
  ((9, 10, 2), ([(0, .ofNat 0), (0, .ofNat 1), (1, .ofNat 0), (2, .ofNat 0)], [0, 1], [5]), (sxE0, [], [], ([], .ofNat 0))),
  ((15, 0, 0), ([(0, .ofNat 0)], [], [5]), (([(.ofNat 0, .ofNat 7)], [], 1, [], [(20, [(0, .ofNat 1), (1, .ofNat 0), (2, .ofNat 0)], [6])], [((0, 0), (0, .ofNat 20), (2, 1, .ofNat 0)), ((0, 0), (0, .ofNat 3), (2, 2, .ofNat 0)), ((0, 0), (0, .ofNat 5), (2, 3, .ofNat 0)), ((0, 0), (0, .ofNat 6), (2, 4, .ofNat 0))], [(1, (0, 108), 6), (2, (0, 2400), 1), (3, (0, 288), 2), (4, (0, 6), 3)]), [(2, (0, 4, .ofNat 0)), (1, (0, 3, .ofNat 0)), (0, (2, 0, .ofNat 0))], [], ([(4, .negSucc 0)], .ofNat 7))),
  ((22, 3, 1), ([(0, .ofNat 0), (0, .ofNat 1), (1, .ofNat 0), (2, .ofNat 0), (5, .ofNat 0)], [], [6]), (sxE0, [], [], ([], .ofNat 0))),
  ((22, 7, 0), ([], [], []), (sxE0, [], [], ([(5, .ofNat 1), (1, .negSucc 0)], .ofNat 0))),
  ((22, 7, 0), ([], [], []), (sxE0, [], [], ([(1, .ofNat 1), (5, .negSucc 0)], .ofNat 0))),
  ((57, 10, 3), ([(0, .ofNat 0), (1, .ofNat 0), (2, .ofNat 0)], [0, 1], [6]), (sxE0, [], [], ([], .ofNat 0))),
  ((70, 8, 0), ([], [], []), (sxE0, [], [], ([], .ofNat 0))),
  ((71, 3, 7), ([(0, .ofNat 0), (0, .ofNat 1), (1, .ofNat 0), (2, .ofNat 0), (0, .ofNat 10), (7, .ofNat 0)], [], [7, 8]), (sxE0, [], [], ([], .ofNat 0))),
  ((72, 11, 0), ([(3, .ofNat 0)], [], [8]), (sxE0, [], [], ([], .ofNat 0))),
  ((37, 10, 4), ([(0, .ofNat 0), (3, .ofNat 0), (4, .ofNat 0)], [], []), (sxE0, [], [], ([], .ofNat 0))),
  ((50, 3, 8), ([(0, .ofNat 0), (0, .ofNat 1), (1, .ofNat 0), (2, .ofNat 0), (4, .ofNat 32), (6, .ofNat 0)], [], [6, 7]), (sxE0, [], [], ([], .ofNat 0))),
  ((15, 2, 0), ([(4, .ofNat 1)], [], [7]), (sxE0, [], [], ([], .ofNat 0))),
  ((49, 8, 0), ([], [], []), (sxE0, [], [], ([], .ofNat 0))),
  ((50, 3, 8), ([(0, .ofNat 0), (0, .ofNat 1), (1, .ofNat 0), (2, .ofNat 0), (4, .ofNat 32), (7, .ofNat 0)], [], [6, 7]), (sxE0, [], [], ([], .ofNat 0))),
  ((15, 2, 0), ([(4, .ofNat 1)], [], [7]), (sxE0, [], [], ([], .ofNat 0)))]
theorem sxvI385 : (sx_exec sxRT [sxI372, sxI382, sxI375, sxI383, sxI384] sxLT sxhI385 160 0 sxI385.2.2.1 (sx_argl 0 sxI385.2.2.2.1) [] [] sxjI385).isSome = true := by decide +kernel
def sxI386 : sxI := (186, (9, 197), ([(.ofNat 0, .ofNat 0), (.ofNat 0, .ofNat 20), (.ofNat 0, .ofNat 7), (.ofNat 0, .ofNat 8)], [43, 53, 54, 45, 47, 48], 5, [], [(20, [(0, .ofNat 1), (2, .ofNat 0), (3, .ofNat 0)], [0]), (21, [(1, .ofNat 0), (2, .ofNat 0)], [1]), (23, [], [2, 3, 4])], [((0, 0), (0, .ofNat 20), (2, 1, .ofNat 0)), ((0, 0), (0, .ofNat 24), (2, 2, .ofNat 0)), ((0, 0), (0, .ofNat 3), (2, 3, .ofNat 0)), ((0, 0), (0, .ofNat 5), (2, 4, .ofNat 0)), ((0, 0), (0, .ofNat 6), (2, 5, .ofNat 0)), ((0, 0), (0, .ofNat 25), (0, 1, .ofNat 0))], [(1, (0, 108), 0), (2, (0, 580), 1), (3, (0, 2400), 2), (4, (0, 288), 3), (5, (0, 6), 4)]), [(2, 0, .ofNat 0)], [(43, 18, 19), (43, 25, 26), (51, 0, 64), (52, 0, 12), (53, 10, 39), (54, 0, 580)], [(([(.negSucc 0, .ofNat 127), (.ofNat 0, .ofNat 20)], [], 2, [], [(20, [(0, .ofNat 1), (2, .ofNat 0), (3, .ofNat 0)], [5]), (21, [(5, .ofNat 0), (2, .ofNat 0)], [6])], [((0, 0), (0, .ofNat 25), (0, 5, .ofNat 0))], [(1, (0, 108), 5), (2, (0, 580), 6)]), some (0, 4, .ofNat 0))])
def sxhI386 : sxH := (sxk_X12_week, sxgX12, sxpX12, sxcX12, (sxkiX12, sxklX12, sxksX12), (1, sxI386.2.2.2.2.1, sxI386.2.2.2.2.2, 0), (4, 6, 5), (9, 197))
def sxjI386 : List sxJ := [((1, 10, 0), ([(0, .ofNat 0), (0, .ofNat 1), (2, .ofNat 0), (3, .ofNat 0)], [0, 1], [0]), (sxE0, [], [], ([], .ofNat 0))),
  ((21, 11, 0), ([(0, .negSucc 0), (1, .ofNat 0)], [], [0, 1]), (sxE0, [], [], ([], .ofNat 0))),
  ((23, 10, 1), ([(0, .ofNat 0), (1, .ofNat 0), (2, .ofNat 0), (3, .ofNat 0)], [0, 1, 2], [0, 1]), (sxE0, [], [], ([], .ofNat 0))),
  ((27, 10, 2), ([(0, .ofNat 0), (2, .ofNat 0), (3, .ofNat 0)], [0, 1, 3, 4, 5], [0, 2, 3, 4]), (sxE0, [], [], ([], .ofNat 0))),
  ((30, 11, 0), ([(6, .ofNat 0), (5, .ofNat 0)], [], [6, 5]), (sxE0, [], [], ([], .ofNat 0))),
  ((21, 11, 0), ([(0, .negSucc 0), (1, .ofNat 0)], [], [0, 1]), (sxE0, [], [], ([], .ofNat 0)))]
theorem sxvI386 : (sx_exec sxRT [sxI369, sxI370, sxI385] sxLT sxhI386 75 0 sxI386.2.2.1 (sx_argl 0 sxI386.2.2.2.1) [] [] sxjI386).isSome = true := by decide +kernel
def sxI387 : sxI := (172, (3, 63), ([(.ofNat 0, .ofNat 0), (.negSucc 2147483647, .ofNat 2147483647), (.negSucc 2147483647, .ofNat 2147483647), (.ofNat 0, .ofNat 20), (.ofNat 0, .ofNat 7), (.ofNat 0, .ofNat 8)], [43, 53, 54], 2, [], [(20, [(0, .ofNat 1), (4, .ofNat 0), (5, .ofNat 0)], [0]), (21, [(3, .ofNat 0), (4, .ofNat 0)], [1])], [((0, 0), (0, .ofNat 20), (2, 1, .ofNat 0)), ((0, 0), (0, .ofNat 24), (2, 2, .ofNat 0)), ((0, 0), (0, .ofNat 25), (0, 3, .ofNat 0))], [(1, (0, 108), 0), (2, (0, 580), 1)]), [(2, 0, .ofNat 0), (0, 1, .ofNat 0), (0, 2, .ofNat 0)], [(43, 25, 26), (53, 11, 18), (54, 0, 580)], [(([(.negSucc 0, .ofNat 6), (.ofNat 0, .ofNat 20)], [], 2, [], [(20, [(0, .ofNat 1), (4, .ofNat 0), (5, .ofNat 0)], [2]), (21, [(7, .ofNat 0), (4, .ofNat 0)], [3])], [((0, 0), (0, .ofNat 25), (0, 7, .ofNat 0))], [(1, (0, 108), 2), (2, (0, 580), 3)]), some (0, 6, .ofNat 0))])
def sxhI387 : sxH := (sxk_X12_swap, sxgX12, sxpX12, sxcX12, (sxkiX12, sxklX12, sxksX12), (3, sxI387.2.2.2.2.1, sxI387.2.2.2.2.2, 0), (6, 3, 2), (3, 63))
def sxjI387 : List sxJ := [((2, 10, 0), ([(0, .ofNat 0), (1, .ofNat 0), (0, .ofNat 1), (4, .ofNat 0), (5, .ofNat 0)], [0, 1], [0]), (sxE0, [], [], ([], .ofNat 0))),
  ((22, 11, 0), ([(0, .negSucc 0), (3, .ofNat 0)], [], [0, 1]), (sxE0, [], [], ([], .ofNat 0))),
  ((5, 7, 0), ([], [], []), (sxE0, [], [], ([(1, .ofNat 1)], .ofNat 0))),
  ((5, 7, 0), ([], [], []), (sxE0, [], [], ([(1, .negSucc 0)], .ofNat 6))),
  ((5, 7, 0), ([], [], []), (sxE0, [], [], ([(4, .ofNat 1), (1, .negSucc 0)], .negSucc 0))),
  ((10, 10, 0), ([(0, .ofNat 0), (2, .ofNat 0), (0, .ofNat 1), (4, .ofNat 0), (5, .ofNat 0)], [0, 1], [0]), (sxE0, [], [], ([], .ofNat 0))),
  ((22, 11, 0), ([(0, .negSucc 0), (3, .ofNat 0)], [], [0, 1]), (sxE0, [], [], ([], .ofNat 0))),
  ((13, 7, 0), ([], [], []), (sxE0, [], [], ([(2, .ofNat 1)], .ofNat 0))),
  ((13, 7, 0), ([], [], []), (sxE0, [], [], ([(2, .negSucc 0)], .ofNat 6))),
  ((24, 10, 1), ([(0, .ofNat 0), (3, .ofNat 0), (4, .ofNat 0), (5, .ofNat 0)], [0, 1, 2], [0, 1]), (sxE0, [], [], ([], .ofNat 0))),
  ((30, 7, 0), ([], [], []), (sxE0, [], [], ([(4, .ofNat 1), (1, .negSucc 0)], .negSucc 0))),
  ((30, 7, 0), ([], [], []), (sxE0, [], [], ([(4, .ofNat 1), (2, .negSucc 0)], .negSucc 0))),
  ((30, 10, 2), ([(0, .ofNat 0), (1, .ofNat 0), (2, .ofNat 0), (4, .ofNat 0), (5, .ofNat 0)], [0, 1], [0]), (sxE0, [], [], ([], .ofNat 0))),
  ((35, 10, 3), ([(0, .ofNat 0), (1, .ofNat 0), (0, .ofNat 1), (4, .ofNat 0), (5, .ofNat 0)], [0, 1], [3]), (sxE0, [], [], ([], .ofNat 0))),
  ((38, 11, 0), ([(7, .ofNat 0), (6, .ofNat 0)], [], [3, 2]), (sxE0, [], [], ([], .ofNat 0))),
  ((22, 11, 0), ([(0, .negSucc 0), (3, .ofNat 0)], [], [0, 1]), (sxE0, [], [], ([], .ofNat 0)))]
theorem sxvI387 : (sx_exec sxRT [sxI362, sxI370, sxI371, sxI363] sxLT sxhI387 95 0 sxI387.2.2.1 (sx_argl 0 sxI387.2.2.2.1) [] [] sxjI387).isSome = true := by decide +kernel
def sxI388 : sxI := (167, (3, 61), ([(.ofNat 0, .ofNat 0), (.negSucc 2147483647, .ofNat 2147483647), (.ofNat 0, .ofNat 20), (.ofNat 0, .ofNat 7), (.ofNat 0, .ofNat 8)], [43, 53, 54], 2, [], [(20, [(0, .ofNat 1), (3, .ofNat 0), (4, .ofNat 0)], [0]), (21, [(2, .ofNat 0), (3, .ofNat 0)], [1])], [((0, 0), (0, .ofNat 20), (2, 1, .ofNat 0)), ((0, 0), (0, .ofNat 24), (2, 2, .ofNat 0)), ((0, 0), (0, .ofNat 25), (0, 2, .ofNat 0))], [(1, (0, 108), 0), (2, (0, 580), 1)]), [(2, 0, .ofNat 0), (0, 1, .ofNat 0)], [(43, 25, 26), (53, 18, 25), (54, 0, 580)], [(([(.negSucc 2147483647, .ofNat 99), (.ofNat 0, .ofNat 20)], [], 2, [], [(20, [(0, .ofNat 1), (3, .ofNat 0), (4, .ofNat 0)], [2]), (21, [(6, .ofNat 0), (3, .ofNat 0)], [3])], [((0, 0), (0, .ofNat 25), (0, 6, .ofNat 0))], [(1, (0, 108), 2), (2, (0, 580), 3)]), some (0, 5, .ofNat 0))])
def sxhI388 : sxH := (sxk_X12_starch, sxgX12, sxpX12, sxcX12, (sxkiX12, sxklX12, sxksX12), (3, sxI388.2.2.2.2.1, sxI388.2.2.2.2.2, 0), (5, 3, 2), (3, 61))
def sxjI388 : List sxJ := [((2, 10, 0), ([(0, .ofNat 0), (1, .ofNat 0), (0, .ofNat 1), (3, .ofNat 0), (4, .ofNat 0)], [0, 1], [0]), (sxE0, [], [], ([], .ofNat 0))),
  ((18, 11, 0), ([(0, .negSucc 0), (2, .ofNat 0)], [], [0, 1]), (sxE0, [], [], ([], .ofNat 0))),
  ((5, 7, 0), ([], [], []), (sxE0, [], [], ([(1, .ofNat 1)], .ofNat 0))),
  ((5, 7, 0), ([], [], []), (sxE0, [], [], ([(1, .negSucc 0)], .ofNat 6))),
  ((5, 7, 0), ([], [], []), (sxE0, [], [], ([(3, .ofNat 1), (1, .negSucc 0)], .negSucc 0))),
  ((20, 10, 1), ([(0, .ofNat 0), (2, .ofNat 0), (3, .ofNat 0), (4, .ofNat 0)], [0, 1, 2], [0, 1]), (sxE0, [], [], ([], .ofNat 0))),
  ((61, 3, 8), ([(0, .ofNat 0), (0, .ofNat 1), (3, .ofNat 0), (4, .ofNat 0), (1, .ofNat 18), (8, .ofNat 0)], [], [0, 3]), (sxE0, [], [], ([], .ofNat 0))),
  ((70, 11, 0), ([(8, .ofNat 0), (6, .ofNat 0)], [], [3, 2]), (sxE0, [], [], ([], .ofNat 0))),
  ((61, 3, 8), ([(0, .ofNat 0), (0, .ofNat 1), (3, .ofNat 0), (4, .ofNat 0), (1, .ofNat 18), (0, .ofNat 99)], [], [0, 3]), (sxE0, [], [], ([], .ofNat 0))),
  ((70, 11, 0), ([(0, .ofNat 99), (6, .ofNat 0)], [], [3, 2]), (sxE0, [], [], ([], .ofNat 0))),
  ((18, 11, 0), ([(0, .negSucc 0), (2, .ofNat 0)], [], [0, 1]), (sxE0, [], [], ([], .ofNat 0)))]
theorem sxvI388 : (sx_exec sxRT [sxI362, sxI370] sxLT sxhI388 116 0 sxI388.2.2.1 (sx_argl 0 sxI388.2.2.2.1) [] [] sxjI388).isSome = true := by decide +kernel
def sxI389 : sxI := (87, (3, 61), ([(.ofNat 0, .ofNat 0), (.negSucc 2147483647, .ofNat 2147483647), (.ofNat 0, .ofNat 20), (.ofNat 0, .ofNat 7), (.ofNat 0, .ofNat 8)], [43, 53, 54], 2, [], [(20, [(0, .ofNat 1), (3, .ofNat 0), (4, .ofNat 0)], [0]), (21, [(2, .ofNat 0), (3, .ofNat 0)], [1])], [((0, 0), (0, .ofNat 20), (2, 1, .ofNat 0)), ((0, 0), (0, .ofNat 24), (2, 2, .ofNat 0)), ((0, 0), (0, .ofNat 25), (0, 2, .ofNat 0))], [(1, (0, 108), 0), (2, (0, 580), 1)]), [(2, 0, .ofNat 0), (0, 1, .ofNat 0)], [(43, 25, 26), (53, 25, 32), (54, 0, 580)], [(([(.negSucc 2147483647, .ofNat 2147483647), (.ofNat 0, .ofNat 20)], [], 2, [], [(20, [(0, .ofNat 1), (3, .ofNat 0), (4, .ofNat 0)], [2]), (21, [(6, .ofNat 0), (3, .ofNat 0)], [3])], [((0, 0), (0, .ofNat 25), (0, 6, .ofNat 0))], [(1, (0, 108), 2), (2, (0, 580), 3)]), some (0, 5, .ofNat 0))])
def sxhI389 : sxH := (sxk_X12_darn, sxgX12, sxpX12, sxcX12, (sxkiX12, sxklX12, sxksX12), (3, sxI389.2.2.2.2.1, sxI389.2.2.2.2.2, 0), (5, 3, 2), (3, 61))
def sxjI389 : List sxJ := [((2, 10, 0), ([(0, .ofNat 0), (1, .ofNat 0), (0, .ofNat 1), (3, .ofNat 0), (4, .ofNat 0)], [0, 1], [0]), (sxE0, [], [], ([], .ofNat 0))),
  ((21, 11, 0), ([(0, .negSucc 0), (2, .ofNat 0)], [], [0, 1]), (sxE0, [], [], ([], .ofNat 0))),
  ((5, 7, 0), ([], [], []), (sxE0, [], [], ([(1, .ofNat 1)], .ofNat 0))),
  ((5, 7, 0), ([], [], []), (sxE0, [], [], ([(1, .negSucc 0)], .ofNat 6))),
  ((5, 7, 0), ([], [], []), (sxE0, [], [], ([(3, .ofNat 1), (1, .negSucc 0)], .negSucc 0))),
  ((23, 10, 1), ([(0, .ofNat 0), (2, .ofNat 0), (3, .ofNat 0), (4, .ofNat 0)], [0, 1, 2], [0, 1]), (sxE0, [], [], ([], .ofNat 0))),
  ((46, 3, 8), ([(0, .ofNat 0), (0, .ofNat 1), (3, .ofNat 0), (4, .ofNat 0), (1, .ofNat 25), (0, .ofNat 0)], [], [0, 3]), (sxE0, [], [], ([], .ofNat 0))),
  ((47, 11, 0), ([(5, .ofNat 0), (6, .ofNat 0)], [], [3, 2]), (sxE0, [], [], ([], .ofNat 0))),
  ((21, 11, 0), ([(0, .negSucc 0), (2, .ofNat 0)], [], [0, 1]), (sxE0, [], [], ([], .ofNat 0)))]
theorem sxvI389 : (sx_exec sxRT [sxI362, sxI370] sxLT sxhI389 93 0 sxI389.2.2.1 (sx_argl 0 sxI389.2.2.2.1) [] [] sxjI389).isSome = true := by decide +kernel
def sxI390 : sxI := (181, (2, 40), ([(.ofNat 0, .ofNat 0), (.ofNat 0, .ofNat 20), (.ofNat 0, .ofNat 7), (.ofNat 0, .ofNat 8)], [43, 53, 54], 2, [], [(20, [(0, .ofNat 1), (2, .ofNat 0), (3, .ofNat 0)], [0]), (21, [(1, .ofNat 0), (2, .ofNat 0)], [1])], [((0, 0), (0, .ofNat 20), (2, 1, .ofNat 0)), ((0, 0), (0, .ofNat 24), (2, 2, .ofNat 0)), ((0, 0), (0, .ofNat 25), (0, 1, .ofNat 0))], [(1, (0, 108), 0), (2, (0, 580), 1)]), [(2, 0, .ofNat 0)], [(43, 25, 26), (53, 10, 39)], [(([(.negSucc 0, .ofNat 19), (.ofNat 0, .ofNat 19)], [], 1, [], [(20, [(0, .ofNat 1), (2, .ofNat 0), (3, .ofNat 0)], [2]), (21, [(5, .ofNat 0), (2, .ofNat 0)], [1])], [((0, 0), (0, .ofNat 25), (0, 5, .ofNat 0))], [(1, (0, 108), 2)]), some (0, 4, .ofNat 0))])
def sxhI390 : sxH := (sxk_X12_undo, sxgX12, sxpX12, sxcX12, (sxkiX12, sxklX12, sxksX12), (2, sxI390.2.2.2.2.1, sxI390.2.2.2.2.2, 0), (4, 3, 2), (2, 40))
def sxjI390 : List sxJ := [((20, 3, 22), ([(0, .ofNat 0), (1, .negSucc 0)], [], []), (sxE0, [], [], ([], .ofNat 0))),
  ((20, 7, 0), ([], [], []), (sxE0, [], [], ([(4, .negSucc 0), (1, .ofNat 29)], .negSucc 28))),
  ((20, 3, 20), ([(0, .ofNat 0), (0, .ofNat 10), (4, .ofNat 0)], [], [0, 1]), (sxE0, [], [], ([], .ofNat 0))),
  ((21, 0, 0), ([(0, .ofNat 0)], [], [0]), (([(.ofNat 0, .ofNat 29)], [], 1, [], [(24, [(5, .ofNat 0), (0, .ofNat 10), (4, .ofNat 0)], [2, 0, 1])], [((0, 0), (0, .ofNat 25), (0, 1, .negSucc 0)), ((0, 0), (0, .ofNat 20), (2, 1, .ofNat 0)), ((0, 0), (0, .ofNat 24), (2, 2, .ofNat 0))], [(1, (0, 108), 2), (2, (0, 580), 1)]), [(1, (0, 5, .ofNat 0)), (0, (2, 0, .ofNat 0))], [], ([(5, .negSucc 0)], .ofNat 29))),
  ((56, 3, 27), ([(0, .ofNat 0), (5, .ofNat 0), (4, .ofNat 0), (1, .negSucc 0), (0, .ofNat 1), (2, .ofNat 0), (3, .ofNat 0)], [], [2, 0, 1]), (sxE0, [], [], ([], .ofNat 0))),
  ((60, 11, 0), ([(1, .negSucc 0), (1, .negSucc 0)], [], [2]), (sxE0, [], [], ([], .ofNat 0))),
  ((50, 7, 0), ([], [], []), (sxE0, [], [], ([(0, .negSucc 0)], .ofNat 0))),
  ((50, 7, 0), ([], [], []), (sxE0, [], [], ([(0, .ofNat 1)], .ofNat 0))),
  ((50, 7, 0), ([], [], []), (sxE0, [], [], ([(4, .negSucc 0), (6, .ofNat 1)], .ofNat 0))),
  ((50, 7, 0), ([], [], []), (sxE0, [], [], ([(7, .ofNat 1), (4, .negSucc 0), (5, .negSucc 0)], .ofNat 0))),
  ((50, 7, 0), ([], [], []), (sxE0, [], [], ([(4, .ofNat 1), (6, .negSucc 0)], .ofNat 0))),
  ((50, 7, 0), ([], [], []), (sxE0, [], [], ([(7, .negSucc 0), (4, .ofNat 1), (5, .ofNat 1)], .ofNat 0))),
  ((50, 3, 21), ([(0, .ofNat 0), (5, .ofNat 0), (0, .ofNat 10), (4, .ofNat 0), (5, .ofNat 10), (7, .ofNat 0), (8, .ofNat 0)], [], [2, 0, 1, 3]), (sxE0, [], [], ([], .ofNat 0))),
  ((21, 2, 0), ([(5, .ofNat 1)], [], [3]), (sxE0, [], [], ([], .ofNat 0))),
  ((8, 11, 0), ([(0, .negSucc 0), (1, .ofNat 0)], [], [0]), (sxE0, [], [], ([], .ofNat 0)))]
theorem sxvI390 : (sx_exec sxRT [] sxLT sxhI390 155 0 sxI390.2.2.1 (sx_argl 0 sxI390.2.2.2.1) [] [] sxjI390).isSome = true := by decide +kernel
def sxI391 : sxI := (126, (2, 40), ([(.ofNat 0, .ofNat 0), (.ofNat 0, .ofNat 7), (.ofNat 0, .ofNat 8)], [43, 53, 55], 1, [], [(20, [(0, .ofNat 1), (1, .ofNat 0), (2, .ofNat 0)], [0])], [((0, 0), (0, .ofNat 20), (2, 1, .ofNat 0)), ((0, 0), (0, .ofNat 26), (2, 2, .ofNat 0))], [(1, (0, 108), 0)]), [(2, 0, .ofNat 0)], [(55, 0, 29)], [(([], [], 1, [], [(26, [(1, .ofNat 0)], [1])], [], [(2, (0, 29), 1)]), none)])
def sxhI391 : sxH := (sxk_X12_keeps, sxgX12, sxpX12, sxcX12, (sxkiX12, sxklX12, sxksX12), (2, sxI391.2.2.2.2.1, sxI391.2.2.2.2.2, 4), (3, 3, 1), (2, 40))
def sxjI391 : List sxJ := [((1, 5, 0), ([], [2, 0, 29], []), (sxE0, [], [], ([], .ofNat 0))),
  ((1, 3, 20), ([(0, .ofNat 0), (0, .ofNat 0), (0, .ofNat 10)], [], [1, 0]), (sxE0, [], [], ([], .ofNat 0))),
  ((2, 0, 0), ([(0, .ofNat 0)], [], [1]), (([(.ofNat 0, .ofNat 29)], [], 1, [], [(24, [(3, .ofNat 0), (0, .ofNat 0), (0, .ofNat 10)], [2, 1, 0])], [((0, 0), (0, .ofNat 20), (2, 1, .ofNat 0)), ((0, 0), (0, .ofNat 26), (2, 2, .ofNat 0))], [(2, (0, 29), 2), (1, (0, 108), 0)]), [(1, (0, 3, .ofNat 0)), (0, (2, 0, .ofNat 0))], [], ([(3, .negSucc 0)], .ofNat 29))),
  ((29, 3, 24), ([(0, .ofNat 0), (3, .ofNat 0), (1, .ofNat 0), (2, .ofNat 0)], [], [2, 1, 0]), (sxE0, [], [], ([], .ofNat 0))),
  ((29, 11, 0), ([], [], [2]), (sxE0, [], [], ([], .ofNat 0))),
  ((23, 7, 0), ([], [], []), (sxE0, [], [], ([(0, .negSucc 0)], .ofNat 0))),
  ((23, 7, 0), ([], [], []), (sxE0, [], [], ([(0, .ofNat 1)], .ofNat 0))),
  ((23, 7, 0), ([], [], []), (sxE0, [], [], ([(0, .negSucc 0)], .ofNat 0))),
  ((23, 7, 0), ([], [], []), (sxE0, [], [], ([(0, .ofNat 1)], .ofNat 0))),
  ((23, 3, 21), ([(0, .ofNat 0), (3, .ofNat 0), (0, .ofNat 0), (0, .ofNat 10), (3, .ofNat 0), (3, .ofNat 10), (4, .ofNat 0)], [], [2, 1, 0, 3]), (sxE0, [], [], ([], .ofNat 0))),
  ((2, 2, 0), ([(3, .ofNat 1)], [], [3]), (sxE0, [], [], ([], .ofNat 0)))]
theorem sxvI391 : (sx_exec sxRT [] sxLT sxhI391 121 0 sxI391.2.2.1 (sx_argl 0 sxI391.2.2.2.1) [] [] sxjI391).isSome = true := by decide +kernel
def sxI392 : sxI := (149, (9, 197), ([(.ofNat 0, .ofNat 0), (.negSucc 2147483647, .ofNat 2147483647), (.ofNat 0, .ofNat 7), (.ofNat 0, .ofNat 8)], [43, 53, 45, 47, 48], 4, [], [(20, [(0, .ofNat 1), (2, .ofNat 0), (3, .ofNat 0)], [0]), (23, [], [1, 2, 3])], [((0, 0), (0, .ofNat 20), (2, 1, .ofNat 0)), ((0, 0), (0, .ofNat 3), (2, 2, .ofNat 0)), ((0, 0), (0, .ofNat 5), (2, 3, .ofNat 0)), ((0, 0), (0, .ofNat 6), (2, 4, .ofNat 0))], [(1, (0, 108), 0), (2, (0, 2400), 1), (3, (0, 288), 2), (4, (0, 6), 3)]), [(2, 0, .ofNat 0), (0, 1, .ofNat 0)], [(43, 18, 19), (51, 0, 64), (52, 0, 12), (53, 10, 39)], [(([], [], 1, [], [(20, [(0, .ofNat 1), (2, .ofNat 0), (3, .ofNat 0)], [4])], [], [(1, (0, 108), 4)]), none)])
def sxhI392 : sxH := (sxk_X12_passesAll, sxgX12, sxpX12, sxcX12, (sxkiX12, sxklX12, sxksX12), (3, sxI392.2.2.2.2.1, sxI392.2.2.2.2.2, 4), (4, 5, 4), (9, 197))
def sxjI392 : List sxJ := [((2, 0, 0), ([(0, .ofNat 0)], [], [0]), (([(.ofNat 0, .ofNat 2147483647)], [], 1, [], [(20, [(0, .ofNat 1), (2, .ofNat 0), (3, .ofNat 0)], [4])], [((0, 0), (0, .ofNat 20), (2, 1, .ofNat 0)), ((0, 0), (0, .ofNat 3), (2, 2, .ofNat 0)), ((0, 0), (0, .ofNat 5), (2, 3, .ofNat 0)), ((0, 0), (0, .ofNat 6), (2, 4, .ofNat 0))], [(1, (0, 108), 4), (2, (0, 2400), 1), (3, (0, 288), 2), (4, (0, 6), 3)]), [(2, (0, 4, .ofNat 0)), (0, (2, 0, .ofNat 0)), (1, (0, 1, .ofNat 0))], [], ([(4, .negSucc 0)], .ofNat 2147483647))),
  ((18, 11, 0), ([], [], [4]), (sxE0, [], [], ([], .ofNat 0))),
  ((8, 10, 0), ([(0, .ofNat 0), (2, .ofNat 0), (3, .ofNat 0)], [0, 1, 2, 3, 4], [4, 1, 2, 3]), (sxE0, [], [], ([], .ofNat 0))),
  ((2, 2, 0), ([(4, .ofNat 1)], [], [5]), (sxE0, [], [], ([], .ofNat 0)))]
theorem sxvI392 : (sx_exec sxRT [sxI385] sxLT sxhI392 115 0 sxI392.2.2.1 (sx_argl 0 sxI392.2.2.2.1) [] [] sxjI392).isSome = true := by decide +kernel
def sxI393 : sxI := (131, (2, 40), ([(.ofNat 0, .ofNat 0), (.ofNat 0, .ofNat 1), (.ofNat 0, .ofNat 7), (.ofNat 0, .ofNat 8)], [43, 53, 55], 2, [], [(20, [(1, .ofNat 0), (2, .ofNat 0), (3, .ofNat 0)], [0]), (26, [(2, .ofNat 0)], [1])], [((0, 0), (0, .ofNat 20), (2, 1, .ofNat 0)), ((0, 0), (0, .ofNat 26), (2, 2, .ofNat 0))], [(1, (0, 108), 0), (2, (0, 29), 1)]), [(2, 0, .ofNat 0)], [(53, 10, 39)], [(([], [], 1, [], [(20, [(0, .ofNat 1), (2, .ofNat 0), (3, .ofNat 0)], [2])], [], [(1, (0, 108), 2)]), none)])
def sxhI393 : sxH := (sxk_X12_laysBack, sxgX12, sxpX12, sxcX12, (sxkiX12, sxklX12, sxksX12), (2, sxI393.2.2.2.2.1, sxI393.2.2.2.2.2, 4), (4, 3, 2), (2, 40))
def sxjI393 : List sxJ := [((1, 3, 20), ([(0, .ofNat 0), (0, .ofNat 10), (0, .ofNat 0)], [], [0, 1]), (sxE0, [], [], ([], .ofNat 0))),
  ((2, 0, 0), ([(0, .ofNat 0)], [], [0]), (([(.ofNat 0, .ofNat 29)], [], 1, [], [(24, [(4, .ofNat 0), (0, .ofNat 10), (0, .ofNat 0)], [2, 0, 1])], [((0, 0), (0, .ofNat 20), (2, 1, .ofNat 0)), ((0, 0), (0, .ofNat 26), (2, 2, .ofNat 0))], [(1, (0, 108), 2), (2, (0, 29), 1)]), [(1, (0, 4, .ofNat 0)), (0, (2, 0, .ofNat 0))], [], ([(4, .negSucc 0)], .ofNat 29))),
  ((29, 3, 25), ([(0, .ofNat 0), (4, .ofNat 0), (1, .ofNat 0), (2, .ofNat 0), (3, .ofNat 0)], [], [2, 0, 1]), (sxE0, [], [], ([], .ofNat 0))),
  ((29, 11, 0), ([], [], [2]), (sxE0, [], [], ([], .ofNat 0))),
  ((23, 7, 0), ([], [], []), (sxE0, [], [], ([(0, .negSucc 0)], .ofNat 0))),
  ((23, 7, 0), ([], [], []), (sxE0, [], [], ([(0, .ofNat 1)], .ofNat 0))),
  ((23, 7, 0), ([], [], []), (sxE0, [], [], ([(0, .negSucc 0)], .ofNat 0))),
  ((23, 7, 0), ([], [], []), (sxE0, [], [], ([(0, .ofNat 1)], .ofNat 0))),
  ((23, 3, 21), ([(0, .ofNat 0), (4, .ofNat 0), (0, .ofNat 10), (0, .ofNat 0), (4, .ofNat 10), (4, .ofNat 0), (5, .ofNat 0)], [], [2, 0, 1, 3]), (sxE0, [], [], ([], .ofNat 0))),
  ((2, 2, 0), ([(4, .ofNat 1)], [], [3]), (sxE0, [], [], ([], .ofNat 0)))]
theorem sxvI393 : (sx_exec sxRT [] sxLT sxhI393 120 0 sxI393.2.2.1 (sx_argl 0 sxI393.2.2.2.1) [] [] sxjI393).isSome = true := by decide +kernel
def sxI394 : sxI := (70, (10, 219), ([(.ofNat 0, .ofNat 0), (.negSucc 2147483647, .ofNat 2147483647), (.negSucc 2147483647, .ofNat 2147483647), (.negSucc 2147483647, .ofNat 2147483647), (.ofNat 0, .ofNat 7), (.ofNat 0, .ofNat 8)], [43, 53, 45, 47, 48, 55], 4, [], [(20, [(0, .ofNat 1), (4, .ofNat 0), (5, .ofNat 0)], [0]), (23, [], [1, 2, 3])], [((0, 0), (0, .ofNat 20), (2, 1, .ofNat 0)), ((0, 0), (0, .ofNat 3), (2, 2, .ofNat 0)), ((0, 0), (0, .ofNat 5), (2, 3, .ofNat 0)), ((0, 0), (0, .ofNat 6), (2, 4, .ofNat 0)), ((0, 0), (0, .ofNat 26), (2, 5, .ofNat 0))], [(1, (0, 108), 0), (2, (0, 2400), 1), (3, (0, 288), 2), (4, (0, 6), 3)]), [(2, 0, .ofNat 0), (0, 1, .ofNat 0), (0, 2, .ofNat 0), (0, 3, .ofNat 0)], [(43, 18, 19), (51, 0, 64), (52, 0, 12), (53, 10, 39), (55, 0, 29)], [(([(.negSucc 2147483647, .ofNat 2147483647)], [], 1, [], [(20, [(0, .ofNat 1), (4, .ofNat 0), (5, .ofNat 0)], [4])], [], [(1, (0, 108), 4)]), some (0, 6, .ofNat 0))])
def sxhI394 : sxH := (sxk_X12_ahead, sxgX12, sxpX12, sxcX12, (sxkiX12, sxklX12, sxksX12), (5, sxI394.2.2.2.2.1, sxI394.2.2.2.2.2, 0), (6, 6, 4), (10, 219))
def sxjI394 : List sxJ := [((2, 10, 0), ([(0, .ofNat 0), (1, .ofNat 0), (0, .ofNat 1), (4, .ofNat 0), (5, .ofNat 0)], [0, 1], [0]), (sxE0, [], [], ([], .ofNat 0))),
  ((33, 11, 0), ([(0, .negSucc 0)], [], [0]), (sxE0, [], [], ([], .ofNat 0))),
  ((5, 7, 0), ([], [], []), (sxE0, [], [], ([(1, .ofNat 1)], .ofNat 0))),
  ((5, 7, 0), ([], [], []), (sxE0, [], [], ([(1, .negSucc 0)], .ofNat 6))),
  ((5, 7, 0), ([], [], []), (sxE0, [], [], ([(4, .ofNat 1), (1, .negSucc 0)], .negSucc 0))),
  ((14, 10, 1), ([(0, .ofNat 0), (2, .ofNat 0), (0, .ofNat 0), (0, .ofNat 100)], [], []), (sxE0, [], [], ([], .ofNat 0))),
  ((33, 11, 0), ([(0, .negSucc 0)], [], [0]), (sxE0, [], [], ([], .ofNat 0))),
  ((17, 7, 0), ([], [], []), (sxE0, [], [], ([(2, .ofNat 1), (0, .negSucc 0)], .ofNat 0))),
  ((17, 7, 0), ([], [], []), (sxE0, [], [], ([(0, .ofNat 1), (2, .negSucc 0)], .ofNat 100))),
  ((26, 10, 1), ([(0, .ofNat 0), (3, .ofNat 0), (0, .ofNat 0), (0, .ofNat 2)], [], []), (sxE0, [], [], ([], .ofNat 0))),
  ((33, 11, 0), ([(0, .negSucc 0)], [], [0]), (sxE0, [], [], ([], .ofNat 0))),
  ((29, 7, 0), ([], [], []), (sxE0, [], [], ([(3, .ofNat 1), (0, .negSucc 0)], .ofNat 0))),
  ((29, 7, 0), ([], [], []), (sxE0, [], [], ([(0, .ofNat 1), (3, .negSucc 0)], .ofNat 2))),
  ((35, 10, 2), ([(0, .ofNat 0), (4, .ofNat 0), (5, .ofNat 0)], [0, 1, 5], [0]), (sxE0, [], [], ([], .ofNat 0))),
  ((40, 10, 3), ([(0, .ofNat 0), (2, .ofNat 0), (4, .ofNat 0), (5, .ofNat 0)], [0, 1, 2, 3, 4], [0, 1, 2, 3]), (sxE0, [], [], ([], .ofNat 0))),
  ((84, 10, 4), ([(0, .ofNat 0), (0, .ofNat 1), (4, .ofNat 0), (5, .ofNat 0)], [0, 1, 5], [5, 4]), (sxE0, [], [], ([], .ofNat 0))),
  ((89, 11, 0), ([(6, .ofNat 0)], [], [6]), (sxE0, [], [], ([], .ofNat 0))),
  ((84, 10, 4), ([(0, .ofNat 0), (0, .ofNat 1), (4, .ofNat 0), (5, .ofNat 0)], [0, 1, 5], [5, 4]), (sxE0, [], [], ([], .ofNat 0))),
  ((89, 11, 0), ([(6, .ofNat 0)], [], [6]), (sxE0, [], [], ([], .ofNat 0))),
  ((49, 10, 5), ([(0, .ofNat 0), (1, .ofNat 0), (0, .ofNat 1), (4, .ofNat 0), (5, .ofNat 0)], [0, 1], [5]), (sxE0, [], [], ([], .ofNat 0))),
  ((84, 10, 4), ([(0, .ofNat 0), (0, .ofNat 1), (4, .ofNat 0), (5, .ofNat 0)], [0, 1, 5], [5, 4]), (sxE0, [], [], ([], .ofNat 0))),
  ((89, 11, 0), ([(6, .ofNat 0)], [], [6]), (sxE0, [], [], ([], .ofNat 0)))]
theorem sxvI394 : (sx_exec sxRT [sxI362, sxI310, sxI391, sxI392, sxI393, sxI363] sxLT sxhI394 139 0 sxI394.2.2.1 (sx_argl 0 sxI394.2.2.2.1) [] [] sxjI394).isSome = true := by decide +kernel
def sxI395 : sxI := (135, (10, 219), ([(.ofNat 0, .ofNat 0), (.negSucc 2147483647, .ofNat 2147483647), (.negSucc 2147483647, .ofNat 2147483647), (.ofNat 0, .ofNat 7), (.ofNat 0, .ofNat 8)], [43, 53, 45, 47, 48, 55], 4, [], [(20, [(0, .ofNat 1), (3, .ofNat 0), (4, .ofNat 0)], [0]), (23, [], [1, 2, 3])], [((0, 0), (0, .ofNat 20), (2, 1, .ofNat 0)), ((0, 0), (0, .ofNat 3), (2, 2, .ofNat 0)), ((0, 0), (0, .ofNat 5), (2, 3, .ofNat 0)), ((0, 0), (0, .ofNat 6), (2, 4, .ofNat 0)), ((0, 0), (0, .ofNat 26), (2, 5, .ofNat 0))], [(1, (0, 108), 0), (2, (0, 2400), 1), (3, (0, 288), 2), (4, (0, 6), 3)]), [(2, 0, .ofNat 0), (0, 1, .ofNat 0), (0, 2, .ofNat 0)], [(43, 18, 19), (51, 0, 64), (52, 0, 12), (53, 10, 39), (55, 0, 29)], [(([(.negSucc 2147483647, .ofNat 2147483647)], [], 1, [], [(20, [(0, .ofNat 1), (3, .ofNat 0), (4, .ofNat 0)], [4])], [], [(1, (0, 108), 4)]), some (0, 5, .ofNat 0))])
def sxhI395 : sxH := (sxk_X12_lets, sxgX12, sxpX12, sxcX12, (sxkiX12, sxklX12, sxksX12), (5, sxI395.2.2.2.2.1, sxI395.2.2.2.2.2, 0), (5, 6, 4), (10, 219))
def sxjI395 : List sxJ := [((1, 10, 0), ([(0, .ofNat 0), (0, .ofNat 1), (3, .ofNat 0), (4, .ofNat 0)], [0, 1], [0]), (sxE0, [], [], ([], .ofNat 0))),
  ((32, 11, 0), ([(0, .negSucc 0)], [], [0]), (sxE0, [], [], ([], .ofNat 0))),
  ((13, 10, 1), ([(0, .ofNat 0), (2, .ofNat 0), (0, .ofNat 0), (0, .ofNat 100)], [], []), (sxE0, [], [], ([], .ofNat 0))),
  ((32, 11, 0), ([(0, .negSucc 0)], [], [0]), (sxE0, [], [], ([], .ofNat 0))),
  ((16, 7, 0), ([], [], []), (sxE0, [], [], ([(2, .ofNat 1), (0, .negSucc 0)], .ofNat 0))),
  ((16, 7, 0), ([], [], []), (sxE0, [], [], ([(0, .ofNat 1), (2, .negSucc 0)], .ofNat 100))),
  ((38, 10, 2), ([(0, .ofNat 0), (0, .ofNat 1), (3, .ofNat 0), (4, .ofNat 0)], [0, 1], [0]), (sxE0, [], [], ([], .ofNat 0))),
  ((41, 11, 0), ([(5, .ofNat 0)], [], [0]), (sxE0, [], [], ([], .ofNat 0))),
  ((25, 10, 3), ([(0, .ofNat 0), (1, .ofNat 0), (0, .ofNat 1), (3, .ofNat 0), (4, .ofNat 0)], [0, 1], [0]), (sxE0, [], [], ([], .ofNat 0))),
  ((32, 11, 0), ([(0, .negSucc 0)], [], [0]), (sxE0, [], [], ([], .ofNat 0))),
  ((28, 7, 0), ([], [], []), (sxE0, [], [], ([(1, .ofNat 1)], .ofNat 0))),
  ((28, 7, 0), ([], [], []), (sxE0, [], [], ([(1, .negSucc 0)], .ofNat 6))),
  ((28, 7, 0), ([], [], []), (sxE0, [], [], ([(3, .ofNat 1), (1, .negSucc 0)], .negSucc 0))),
  ((43, 10, 4), ([(0, .ofNat 0), (3, .ofNat 0), (4, .ofNat 0)], [0, 1, 5], [0]), (sxE0, [], [], ([], .ofNat 0))),
  ((58, 10, 5), ([(0, .ofNat 0), (2, .ofNat 0), (3, .ofNat 0), (4, .ofNat 0)], [0, 1, 2, 3, 4], [0, 1, 2, 3]), (sxE0, [], [], ([], .ofNat 0))),
  ((75, 10, 6), ([(0, .ofNat 0), (0, .ofNat 1), (3, .ofNat 0), (4, .ofNat 0)], [0, 1, 5], [5, 4]), (sxE0, [], [], ([], .ofNat 0))),
  ((80, 11, 0), ([(7, .ofNat 0)], [], [6]), (sxE0, [], [], ([], .ofNat 0)))]
theorem sxvI395 : (sx_exec sxRT [sxI369, sxI310, sxI375, sxI362, sxI391, sxI392, sxI393] sxLT sxhI395 123 0 sxI395.2.2.1 (sx_argl 0 sxI395.2.2.2.1) [] [] sxjI395).isSome = true := by decide +kernel
def sxI396 : sxI := (159, (3, 61), ([(.ofNat 0, .ofNat 0), (.ofNat 0, .ofNat 6), (.ofNat 0, .ofNat 1), (.ofNat 0, .ofNat 7), (.ofNat 0, .ofNat 8)], [43, 53], 1, [], [(20, [(2, .ofNat 0), (3, .ofNat 0), (4, .ofNat 0)], [0])], [((0, 0), (0, .ofNat 20), (2, 1, .ofNat 0))], [(1, (0, 108), 0)]), [(2, 0, .ofNat 0), (0, 1, .ofNat 0)], [], [(([(.ofNat 0, .ofNat 127)], [], 0, [], [], [], []), some (0, 5, .ofNat 0))])
def sxhI396 : sxH := (sxk_X12_ringOf, sxgX12, sxpX12, sxcX12, (sxkiX12, sxklX12, sxksX12), (4, sxI396.2.2.2.2.1, sxI396.2.2.2.2.2, 0), (5, 2, 1), (3, 61))
def sxjI396 : List sxJ := [((4, 0, 0), ([(1, .ofNat 0), (0, .ofNat 0)], [], []), (([(.ofNat 0, .ofNat 6), (.ofNat 0, .ofNat 127)], [], 0, [], [], [((0, 0), (0, .ofNat 20), (2, 1, .ofNat 0))], [(1, (0, 108), 0)]), [(3, (0, 5, .ofNat 0)), (2, (0, 6, .ofNat 0)), (0, (2, 0, .ofNat 0)), (1, (0, 1, .ofNat 0))], [], ([(6, .negSucc 0)], .ofNat 127))),
  ((6, 10, 0), ([(0, .ofNat 0), (6, .ofNat 0), (5, .ofNat 0)], [], []), (sxE0, [], [], ([], .ofNat 0))),
  ((17, 3, 19), ([(0, .ofNat 0), (6, .ofNat 0), (5, .ofNat 0), (7, .ofNat 0), (8, .ofNat 0)], [], []), (sxE0, [], [], ([], .ofNat 0))),
  ((17, 7, 0), ([], [], []), (sxE0, [], [], ([(8, .ofNat 1), (6, .negSucc 0)], .negSucc 0))),
  ((20, 10, 1), ([(0, .ofNat 0), (5, .ofNat 0), (2, .ofNat 0), (3, .ofNat 0), (4, .ofNat 0)], [0, 1], [0]), (sxE0, [], [], ([], .ofNat 0))),
  ((4, 2, 0), ([(9, .ofNat 0), (8, .ofNat 0)], [], []), (sxE0, [], [], ([], .ofNat 0))),
  ((28, 11, 0), ([(6, .ofNat 0)], [], []), (sxE0, [], [], ([], .ofNat 0)))]
theorem sxvI396 : (sx_exec sxRT [sxI384, sxI363] sxLT sxhI396 93 0 sxI396.2.2.1 (sx_argl 0 sxI396.2.2.2.1) [] [] sxjI396).isSome = true := by decide +kernel
def sxI397 : sxI := (158, (4, 84), ([(.ofNat 0, .ofNat 0), (.negSucc 2147483647, .ofNat 2147483647), (.negSucc 2147483647, .ofNat 2147483647), (.ofNat 0, .ofNat 1), (.ofNat 0, .ofNat 7), (.ofNat 0, .ofNat 8)], [43, 53], 1, [], [(20, [(3, .ofNat 0), (4, .ofNat 0), (5, .ofNat 0)], [0])], [((0, 0), (0, .ofNat 20), (2, 1, .ofNat 0))], [(1, (0, 108), 0)]), [(2, 0, .ofNat 0), (0, 1, .ofNat 0), (0, 2, .ofNat 0)], [], [(([(.negSucc 2147483647, .ofNat 2147483647)], [], 0, [], [], [], []), some (0, 6, .ofNat 0))])
def sxhI397 : sxH := (sxk_X12_ring, sxgX12, sxpX12, sxcX12, (sxkiX12, sxklX12, sxksX12), (3, sxI397.2.2.2.2.1, sxI397.2.2.2.2.2, 0), (6, 2, 1), (4, 84))
def sxjI397 : List sxJ := [((2, 10, 0), ([(0, .ofNat 0), (1, .ofNat 0), (3, .ofNat 0), (4, .ofNat 0), (5, .ofNat 0)], [0, 1], [0]), (sxE0, [], [], ([], .ofNat 0))),
  ((19, 11, 0), ([(0, .negSucc 0)], [], []), (sxE0, [], [], ([], .ofNat 0))),
  ((5, 7, 0), ([], [], []), (sxE0, [], [], ([(1, .ofNat 1)], .ofNat 0))),
  ((5, 7, 0), ([], [], []), (sxE0, [], [], ([(1, .negSucc 0)], .ofNat 6))),
  ((5, 7, 0), ([], [], []), (sxE0, [], [], ([(4, .ofNat 1), (1, .negSucc 0)], .negSucc 0))),
  ((12, 10, 1), ([(0, .ofNat 0), (2, .ofNat 0), (0, .ofNat 0), (0, .ofNat 1)], [], []), (sxE0, [], [], ([], .ofNat 0))),
  ((19, 11, 0), ([(0, .negSucc 0)], [], []), (sxE0, [], [], ([], .ofNat 0))),
  ((15, 7, 0), ([], [], []), (sxE0, [], [], ([(2, .ofNat 1), (0, .negSucc 0)], .ofNat 0))),
  ((15, 7, 0), ([], [], []), (sxE0, [], [], ([(0, .ofNat 1), (2, .negSucc 0)], .ofNat 1))),
  ((37, 10, 2), ([(0, .ofNat 0), (1, .ofNat 0), (3, .ofNat 0), (4, .ofNat 0), (5, .ofNat 0)], [0, 1], [0]), (sxE0, [], [], ([], .ofNat 0))),
  ((40, 11, 0), ([(6, .ofNat 0)], [], []), (sxE0, [], [], ([], .ofNat 0))),
  ((26, 10, 2), ([(0, .ofNat 0), (1, .ofNat 0), (3, .ofNat 0), (4, .ofNat 0), (5, .ofNat 0)], [0, 1], [0]), (sxE0, [], [], ([], .ofNat 0))),
  ((29, 10, 3), ([(0, .ofNat 0), (6, .ofNat 0)], [], []), (sxE0, [], [], ([], .ofNat 0))),
  ((40, 11, 0), ([(7, .ofNat 0)], [], []), (sxE0, [], [], ([], .ofNat 0)))]
theorem sxvI397 : (sx_exec sxRT [sxI362, sxI310, sxI396, sxI374] sxLT sxhI397 92 0 sxI397.2.2.1 (sx_argl 0 sxI397.2.2.2.1) [] [] sxjI397).isSome = true := by decide +kernel
def sxI398 : sxI := (160, (4, 84), ([(.ofNat 0, .ofNat 0), (.ofNat 0, .ofNat 1), (.ofNat 0, .ofNat 7), (.ofNat 0, .ofNat 8)], [43, 53], 1, [], [(20, [(1, .ofNat 0), (2, .ofNat 0), (3, .ofNat 0)], [0])], [((0, 0), (0, .ofNat 20), (2, 1, .ofNat 0))], [(1, (0, 108), 0)]), [(2, 0, .ofNat 0)], [], [(([(.negSucc 2147483647, .ofNat 2147483647)], [], 0, [], [], [], []), some (0, 4, .ofNat 0))])
def sxhI398 : sxH := (sxk_X12_rings, sxgX12, sxpX12, sxcX12, (sxkiX12, sxklX12, sxksX12), (4, sxI398.2.2.2.2.1, sxI398.2.2.2.2.2, 0), (4, 2, 1), (4, 84))
def sxjI398 : List sxJ := [((6, 0, 0), ([(0, .ofNat 0), (0, .ofNat 0), (0, .ofNat 0)], [], []), (([(.ofNat 0, .ofNat 7), (.ofNat 0, .ofNat 127), (.negSucc 2147483647, .ofNat 2147483647)], [], 0, [], [], [((0, 0), (0, .ofNat 20), (2, 1, .ofNat 0))], [(1, (0, 108), 0)]), [(3, (0, 4, .ofNat 0)), (2, (0, 5, .ofNat 0)), (1, (0, 6, .ofNat 0)), (0, (2, 0, .ofNat 0))], [], ([(4, .negSucc 0)], .ofNat 7))),
  ((13, 3, 1), ([(0, .ofNat 0), (1, .ofNat 0), (2, .ofNat 0), (3, .ofNat 0), (7, .ofNat 0)], [], [0]), (sxE0, [], [], ([], .ofNat 0))),
  ((13, 7, 0), ([], [], []), (sxE0, [], [], ([(7, .ofNat 1), (2, .negSucc 0)], .ofNat 0))),
  ((13, 7, 0), ([], [], []), (sxE0, [], [], ([(2, .ofNat 1), (7, .negSucc 0)], .ofNat 0))),
  ((45, 11, 0), ([(6, .ofNat 0)], [], []), (sxE0, [], [], ([], .ofNat 0))),
  ((18, 10, 0), ([(0, .ofNat 0), (5, .ofNat 0), (4, .ofNat 0)], [], []), (sxE0, [], [], ([], .ofNat 0))),
  ((30, 10, 1), ([(0, .ofNat 0), (4, .ofNat 0), (1, .ofNat 0), (2, .ofNat 0), (3, .ofNat 0)], [0, 1], [0]), (sxE0, [], [], ([], .ofNat 0))),
  ((38, 8, 2), ([], [], []), (sxE0, [], [], ([], .ofNat 0))),
  ((6, 2, 0), ([(4, .ofNat 1), (9, .ofNat 0), (10, .ofNat 0)], [], []), (sxE0, [], [], ([], .ofNat 0))),
  ((6, 2, 0), ([(4, .ofNat 1), (5, .ofNat 0), (6, .ofNat 0)], [], []), (sxE0, [], [], ([], .ofNat 0)))]
theorem sxvI398 : (sx_exec sxRT [sxI384, sxI396] sxLT sxhI398 244 0 sxI398.2.2.1 (sx_argl 0 sxI398.2.2.2.1) [] [] sxjI398).isSome = true := by decide +kernel
def sxI399 : sxI := (157, (5, 107), ([(.ofNat 0, .ofNat 0), (.negSucc 2147483647, .ofNat 2147483647), (.ofNat 0, .ofNat 7), (.ofNat 0, .ofNat 8)], [43, 53], 1, [], [(20, [(0, .ofNat 1), (2, .ofNat 0), (3, .ofNat 0)], [0])], [((0, 0), (0, .ofNat 20), (2, 1, .ofNat 0))], [(1, (0, 108), 0)]), [(2, 0, .ofNat 0), (0, 1, .ofNat 0)], [], [(([(.negSucc 2147483647, .ofNat 2147483647)], [], 0, [], [], [], []), some (0, 4, .ofNat 0))])
def sxhI399 : sxH := (sxk_X12_right, sxgX12, sxpX12, sxcX12, (sxkiX12, sxklX12, sxksX12), (3, sxI399.2.2.2.2.1, sxI399.2.2.2.2.2, 0), (4, 2, 1), (5, 107))
def sxjI399 : List sxJ := [((1, 10, 0), ([(0, .ofNat 0), (0, .ofNat 1), (2, .ofNat 0), (3, .ofNat 0)], [0, 1], [0]), (sxE0, [], [], ([], .ofNat 0))),
  ((20, 11, 0), ([(0, .negSucc 0)], [], []), (sxE0, [], [], ([], .ofNat 0))),
  ((13, 10, 1), ([(0, .ofNat 0), (1, .ofNat 0), (0, .ofNat 0), (0, .ofNat 2)], [], []), (sxE0, [], [], ([], .ofNat 0))),
  ((20, 11, 0), ([(0, .negSucc 0)], [], []), (sxE0, [], [], ([], .ofNat 0))),
  ((16, 7, 0), ([], [], []), (sxE0, [], [], ([(1, .ofNat 1), (0, .negSucc 0)], .ofNat 0))),
  ((16, 7, 0), ([], [], []), (sxE0, [], [], ([(0, .ofNat 1), (1, .negSucc 0)], .ofNat 2))),
  ((39, 0, 0), ([(0, .ofNat 0)], [], []), (([(.ofNat 0, .ofNat 7)], [], 0, [([(2, .ofNat 1), (4, .negSucc 0)], .ofNat 0)], [], [((0, 0), (0, .ofNat 20), (2, 1, .ofNat 0))], [(1, (0, 108), 0)]), [(2, (0, 4, .ofNat 0)), (0, (2, 0, .ofNat 0)), (1, (0, 1, .ofNat 0))], [], ([(4, .negSucc 0)], .ofNat 7))),
  ((46, 3, 1), ([(0, .ofNat 0), (0, .ofNat 1), (2, .ofNat 0), (3, .ofNat 0), (5, .ofNat 0)], [], [0]), (sxE0, [], [], ([], .ofNat 0))),
  ((46, 7, 0), ([], [], []), (sxE0, [], [], ([(5, .ofNat 1), (2, .negSucc 0)], .ofNat 0))),
  ((46, 7, 0), ([], [], []), (sxE0, [], [], ([(2, .ofNat 1), (5, .negSucc 0)], .ofNat 0))),
  ((88, 7, 0), ([], [], []), (sxE0, [], [], ([(2, .ofNat 1), (4, .negSucc 0)], .negSucc 0))),
  ((88, 10, 3), ([(0, .ofNat 0), (4, .ofNat 0), (2, .ofNat 0), (3, .ofNat 0)], [0, 1], [0]), (sxE0, [], [], ([], .ofNat 0))),
  ((91, 11, 0), ([(6, .ofNat 0)], [], []), (sxE0, [], [], ([], .ofNat 0))),
  ((91, 11, 0), ([(4, .ofNat 0)], [], []), (sxE0, [], [], ([], .ofNat 0))),
  ((76, 11, 0), ([(0, .negSucc 1)], [], []), (sxE0, [], [], ([], .ofNat 0))),
  ((51, 10, 2), ([(0, .ofNat 0), (4, .ofNat 0), (0, .ofNat 1), (2, .ofNat 0), (3, .ofNat 0)], [0, 1], [0]), (sxE0, [], [], ([], .ofNat 0))),
  ((88, 7, 0), ([], [], []), (sxE0, [], [], ([(2, .ofNat 1), (4, .negSucc 0)], .negSucc 0))),
  ((88, 10, 3), ([(0, .ofNat 0), (4, .ofNat 0), (2, .ofNat 0), (3, .ofNat 0)], [0, 1], [0]), (sxE0, [], [], ([], .ofNat 0))),
  ((91, 11, 0), ([(7, .ofNat 0)], [], []), (sxE0, [], [], ([], .ofNat 0))),
  ((91, 11, 0), ([(4, .ofNat 0)], [], []), (sxE0, [], [], ([], .ofNat 0))),
  ((76, 11, 0), ([(0, .negSucc 1)], [], []), (sxE0, [], [], ([], .ofNat 0))),
  ((39, 2, 0), ([(4, .ofNat 1)], [], []), (sxE0, [], [], ([], .ofNat 0))),
  ((31, 3, 1), ([(0, .ofNat 0), (0, .ofNat 1), (2, .ofNat 0), (3, .ofNat 0), (4, .ofNat 0)], [], [0]), (sxE0, [], [], ([], .ofNat 0))),
  ((31, 7, 0), ([], [], []), (sxE0, [], [], ([(4, .ofNat 1), (2, .negSucc 0)], .ofNat 0))),
  ((31, 7, 0), ([], [], []), (sxE0, [], [], ([(2, .ofNat 1), (4, .negSucc 0)], .ofNat 0))),
  ((32, 10, 4), ([(0, .ofNat 0), (0, .ofNat 1), (2, .ofNat 0), (3, .ofNat 0)], [0, 1], [0]), (sxE0, [], [], ([], .ofNat 0))),
  ((36, 11, 0), ([(6, .ofNat 0)], [], []), (sxE0, [], [], ([], .ofNat 0)))]
theorem sxvI399 : (sx_exec sxRT [sxI369, sxI310, sxI363, sxI367, sxI398] sxLT sxhI399 200 0 sxI399.2.2.1 (sx_argl 0 sxI399.2.2.2.1) [] [] sxjI399).isSome = true := by decide +kernel
def sxI400 : sxI := (92, (5, 107), ([(.ofNat 0, .ofNat 0), (.ofNat 0, .ofNat 1), (.ofNat 0, .ofNat 7), (.ofNat 0, .ofNat 8)], [43, 53], 1, [], [(20, [(1, .ofNat 0), (2, .ofNat 0), (3, .ofNat 0)], [0])], [((0, 0), (0, .ofNat 20), (2, 1, .ofNat 0))], [(1, (0, 108), 0)]), [(2, 0, .ofNat 0)], [], [(([(.negSucc 0, .ofNat 1)], [], 0, [], [], [], []), some (0, 4, .ofNat 0))])
def sxhI400 : sxH := (sxk_X12_even, sxgX12, sxpX12, sxcX12, (sxkiX12, sxklX12, sxksX12), (1, sxI400.2.2.2.2.1, sxI400.2.2.2.2.2, 0), (4, 2, 1), (5, 107))
def sxjI400 : List sxJ := [((1, 10, 0), ([(0, .ofNat 0), (1, .ofNat 0), (2, .ofNat 0), (3, .ofNat 0)], [0, 1], [0]), (sxE0, [], [], ([], .ofNat 0))),
  ((32, 11, 0), ([(0, .negSucc 0)], [], []), (sxE0, [], [], ([], .ofNat 0))),
  ((17, 3, 1), ([(0, .ofNat 0), (1, .ofNat 0), (2, .ofNat 0), (3, .ofNat 0), (4, .ofNat 0)], [], [0]), (sxE0, [], [], ([], .ofNat 0))),
  ((17, 7, 0), ([], [], []), (sxE0, [], [], ([(4, .ofNat 1), (2, .negSucc 0)], .ofNat 0))),
  ((17, 7, 0), ([], [], []), (sxE0, [], [], ([(2, .ofNat 1), (4, .negSucc 0)], .ofNat 0))),
  ((18, 10, 1), ([(0, .ofNat 0), (1, .ofNat 0), (2, .ofNat 0), (3, .ofNat 0)], [0, 1], [0]), (sxE0, [], [], ([], .ofNat 0))),
  ((32, 11, 0), ([(0, .ofNat 0)], [], []), (sxE0, [], [], ([], .ofNat 0))),
  ((32, 11, 0), ([(0, .ofNat 1)], [], []), (sxE0, [], [], ([], .ofNat 0)))]
theorem sxvI400 : (sx_exec sxRT [sxI369, sxI398] sxLT sxhI400 80 0 sxI400.2.2.1 (sx_argl 0 sxI400.2.2.2.1) [] [] sxjI400).isSome = true := by decide +kernel
def sxI401 : sxI := (116, (2, 40), ([(.ofNat 0, .ofNat 0), (.ofNat 0, .ofNat 6), (.ofNat 0, .ofNat 6)], [43], 0, [], [], [], []), [(2, 0, .ofNat 0), (0, 1, .ofNat 0), (0, 2, .ofNat 0)], [], [(([], [], 0, [], [], [], []), some (0, 0, .ofNat 0)), (([], [], 0, [([(1, .ofNat 1)], .negSucc 0)], [], [], []), some (0, 0, .ofNat 1))])
def sxhI401 : sxH := (sxk_X12_isInOrder, sxgX12, sxpX12, sxcX12, (sxkiX12, sxklX12, sxksX12), (4, sxI401.2.2.2.2.1, sxI401.2.2.2.2.2, 1), (3, 1, 0), (2, 40))
def sxjI401 : List sxJ := [((2, 0, 0), ([(0, .ofNat 0)], [], []), (([(.ofNat 0, .ofNat 6)], [], 0, [], [], [], []), [(3, (0, 3, .ofNat 0)), (0, (2, 0, .ofNat 0)), (1, (0, 1, .ofNat 0)), (2, (0, 2, .ofNat 0))], [], ([(3, .negSucc 0)], .ofNat 6))),
  ((26, 11, 0), ([], [], []), (sxE0, [], [], ([], .ofNat 0))),
  ((2, 2, 0), ([(3, .ofNat 1)], [], []), (sxE0, [], [], ([], .ofNat 0))),
  ((18, 11, 1), ([], [], []), (sxE0, [], [], ([], .ofNat 0)))]
theorem sxvI401 : (sx_exec sxRT [] sxLT sxhI401 85 0 sxI401.2.2.1 (sx_argl 0 sxI401.2.2.2.1) [] [] sxjI401).isSome = true := by decide +kernel
def sxI402 : sxI := (133, (2, 40), ([(.ofNat 0, .ofNat 0), (.ofNat 0, .ofNat 1), (.ofNat 0, .ofNat 7), (.ofNat 0, .ofNat 8)], [43, 53], 1, [], [(20, [(1, .ofNat 0), (2, .ofNat 0), (3, .ofNat 0)], [0])], [((0, 0), (0, .ofNat 20), (2, 1, .ofNat 0))], [(1, (0, 108), 0)]), [(2, 0, .ofNat 0)], [], [(([(.ofNat 0, .ofNat 127)], [], 0, [], [], [], []), some (0, 4, .ofNat 0))])
def sxhI402 : sxH := (sxk_X12_letInOrder, sxgX12, sxpX12, sxcX12, (sxkiX12, sxklX12, sxksX12), (3, sxI402.2.2.2.2.1, sxI402.2.2.2.2.2, 0), (4, 2, 1), (2, 40))
def sxjI402 : List sxJ := [((4, 0, 0), ([(0, .ofNat 0), (0, .ofNat 0)], [], []), (([(.ofNat 0, .ofNat 7), (.ofNat 0, .ofNat 127)], [], 0, [], [], [((0, 0), (0, .ofNat 20), (2, 1, .ofNat 0))], [(1, (0, 108), 0)]), [(2, (0, 4, .ofNat 0)), (1, (0, 5, .ofNat 0)), (0, (2, 0, .ofNat 0))], [], ([(4, .negSucc 0)], .ofNat 7))),
  ((11, 3, 1), ([(0, .ofNat 0), (1, .ofNat 0), (2, .ofNat 0), (3, .ofNat 0), (6, .ofNat 0)], [], [0]), (sxE0, [], [], ([], .ofNat 0))),
  ((11, 7, 0), ([], [], []), (sxE0, [], [], ([(6, .ofNat 1), (2, .negSucc 0)], .ofNat 0))),
  ((11, 7, 0), ([], [], []), (sxE0, [], [], ([(2, .ofNat 1), (6, .negSucc 0)], .ofNat 0))),
  ((57, 11, 0), ([(5, .ofNat 0)], [], []), (sxE0, [], [], ([], .ofNat 0))),
  ((4, 2, 0), ([(4, .ofNat 1), (10, .ofNat 0)], [], []), (sxE0, [], [], ([], .ofNat 0))),
  ((4, 2, 0), ([(4, .ofNat 1), (11, .ofNat 0)], [], []), (sxE0, [], [], ([], .ofNat 0)))]
theorem sxvI402 : (sx_exec sxRT [] sxLT sxhI402 142 0 sxI402.2.2.1 (sx_argl 0 sxI402.2.2.2.1) [] [] sxjI402).isSome = true := by decide +kernel
def sxI403 : sxI := (82, (4, 83), ([(.ofNat 0, .ofNat 0), (.ofNat 0, .ofNat 7), (.ofNat 0, .ofNat 8), (.ofNat 0, .ofNat 1000000000000000)], [43, 53, 56], 2, [], [(20, [(0, .ofNat 1), (1, .ofNat 0), (2, .ofNat 0)], [0]), (28, [(1, .ofNat 0), (1, .ofNat 0), (3, .ofNat 0)], [1])], [((0, 0), (0, .ofNat 20), (2, 1, .ofNat 0)), ((0, 0), (0, .ofNat 27), (2, 2, .ofNat 0))], [(1, (0, 108), 0), (2, (0, 8), 1)]), [(2, 0, .ofNat 0)], [], [(([(.negSucc 2147483647, .ofNat 2147483647)], [], 0, [], [], [], []), some (0, 4, .ofNat 0))])
def sxhI403 : sxH := (sxk_X12_changesTo, sxgX12, sxpX12, sxcX12, (sxkiX12, sxklX12, sxksX12), (5, sxI403.2.2.2.2.1, sxI403.2.2.2.2.2, 0), (4, 3, 2), (4, 83))
def sxjI403 : List sxJ := [((8, 3, 1), ([(0, .ofNat 0), (0, .ofNat 1), (1, .ofNat 0), (2, .ofNat 0), (4, .ofNat 0)], [], [0]), (sxE0, [], [], ([], .ofNat 0))),
  ((8, 7, 0), ([], [], []), (sxE0, [], [], ([(4, .ofNat 1), (1, .negSucc 0)], .ofNat 0))),
  ((8, 7, 0), ([], [], []), (sxE0, [], [], ([(1, .ofNat 1), (4, .negSucc 0)], .ofNat 0))),
  ((11, 0, 0), ([(0, .ofNat 0), (4, .ofNat 0), (0, .ofNat 0)], [], []), (([(.ofNat 0, .ofNat 7), (.negSucc 2147483647, .ofNat 2147483647), (.ofNat 0, .ofNat 127)], [], 0, [], [], [((1, 1), (0, .ofNat 3), (0, 4, .ofNat 0)), ((0, 0), (0, .ofNat 20), (2, 1, .ofNat 0)), ((0, 0), (0, .ofNat 27), (2, 2, .ofNat 0))], [(1, (0, 108), 0), (2, (0, 8), 1)]), [(3, (0, 5, .ofNat 0)), (2, (0, 6, .ofNat 0)), (1, (0, 7, .ofNat 0)), (0, (2, 0, .ofNat 0))], [], ([(5, .negSucc 0)], .ofNat 7))),
  ((77, 11, 0), ([(6, .ofNat 0)], [], []), (sxE0, [], [], ([], .ofNat 0))),
  ((23, 10, 0), ([(0, .ofNat 0), (7, .ofNat 0), (5, .ofNat 0)], [], []), (sxE0, [], [], ([], .ofNat 0))),
  ((35, 8, 3), ([], [], []), (sxE0, [], [], ([], .ofNat 0))),
  ((38, 0, 0), ([(5, .ofNat 0), (7, .ofNat 0)], [], []), (([(.ofNat 0, .ofNat 6), (.ofNat 0, .ofNat 127)], [], 0, [([(10, .ofNat 1), (7, .negSucc 0)], .ofNat 0), ([(1, .ofNat 1), (9, .negSucc 0)], .negSucc 0)], [], [((1, 1), (0, .ofNat 3), (0, 4, .ofNat 0)), ((0, 0), (0, .ofNat 20), (2, 1, .ofNat 0)), ((0, 0), (0, .ofNat 27), (2, 2, .ofNat 0))], [(1, (0, 108), 0), (2, (0, 8), 1)]), [(4, (0, 9, .ofNat 0)), (2, (0, 8, .ofNat 0)), (3, (0, 5, .ofNat 0)), (1, (0, 10, .ofNat 0)), (0, (2, 0, .ofNat 0))], [], ([(10, .negSucc 0)], .ofNat 127))),
  ((41, 10, 0), ([(0, .ofNat 0), (10, .ofNat 0), (9, .ofNat 0)], [], []), (sxE0, [], [], ([], .ofNat 0))),
  ((53, 3, 19), ([(0, .ofNat 0), (10, .ofNat 0), (9, .ofNat 0), (11, .ofNat 0), (12, .ofNat 0)], [], []), (sxE0, [], [], ([], .ofNat 0))),
  ((53, 7, 0), ([], [], []), (sxE0, [], [], ([(12, .ofNat 1), (10, .negSucc 0)], .negSucc 0))),
  ((62, 3, 54), ([(0, .ofNat 0), (1, .ofNat 0), (3, .ofNat 0), (9, .ofNat 0), (13, .ofNat 0)], [], [1]), (sxE0, [], [], ([], .ofNat 0))),
  ((62, 7, 0), ([], [], []), (sxE0, [], [], ([(13, .ofNat 1)], .ofNat 0))),
  ((62, 7, 0), ([], [], []), (sxE0, [], [], ([(13, .negSucc 0), (1, .ofNat 1)], .negSucc 0))),
  ((62, 7, 0), ([], [], []), (sxE0, [], [], ([(1, .ofNat 1), (13, .negSucc 0)], .negSucc 0))),
  ((62, 10, 1), ([(0, .ofNat 0), (13, .ofNat 0), (1, .ofNat 0), (2, .ofNat 0)], [0, 1], [0]), (sxE0, [], [], ([], .ofNat 0))),
  ((38, 2, 0), ([(14, .ofNat 0), (12, .ofNat 0)], [], []), (sxE0, [], [], ([], .ofNat 0))),
  ((11, 2, 1), ([(5, .ofNat 1), (8, .ofNat 0), (10, .ofNat 0)], [], []), (sxE0, [], [], ([], .ofNat 0))),
  ((11, 2, 0), ([(5, .ofNat 1), (6, .ofNat 0), (7, .ofNat 0)], [], []), (sxE0, [], [], ([], .ofNat 0)))]
theorem sxvI403 : (sx_exec sxRT [sxI384, sxI367] sxLT sxhI403 241 0 sxI403.2.2.1 (sx_argl 0 sxI403.2.2.2.1) [] [] sxjI403).isSome = true := by decide +kernel
def sxI404 : sxI := (188, (5, 107), ([(.ofNat 0, .ofNat 0), (.ofNat 0, .ofNat 7), (.ofNat 0, .ofNat 8), (.ofNat 0, .ofNat 1000000000000000)], [43, 53, 56], 2, [], [(20, [(0, .ofNat 1), (1, .ofNat 0), (2, .ofNat 0)], [0]), (28, [(1, .ofNat 0), (1, .ofNat 0), (3, .ofNat 0)], [1])], [((0, 0), (0, .ofNat 20), (2, 1, .ofNat 0)), ((0, 0), (0, .ofNat 27), (2, 2, .ofNat 0))], [(1, (0, 108), 0), (2, (0, 8), 1)]), [(2, 0, .ofNat 0)], [], [(([(.negSucc 2147483647, .ofNat 2147483647)], [], 0, [], [], [], []), some (0, 4, .ofNat 0))])
def sxhI404 : sxH := (sxk_X12_worthOfOrder, sxgX12, sxpX12, sxcX12, (sxkiX12, sxklX12, sxksX12), (2, sxI404.2.2.2.2.1, sxI404.2.2.2.2.2, 0), (4, 3, 2), (5, 107))
def sxjI404 : List sxJ := [((1, 10, 0), ([(0, .ofNat 0), (0, .ofNat 1), (1, .ofNat 0), (2, .ofNat 0)], [0, 1], [0]), (sxE0, [], [], ([], .ofNat 0))),
  ((35, 10, 1), ([(0, .ofNat 0), (1, .ofNat 0), (2, .ofNat 0), (3, .ofNat 0)], [0, 1, 2], [0, 1]), (sxE0, [], [], ([], .ofNat 0))),
  ((39, 11, 0), ([(9, .ofNat 0)], [], []), (sxE0, [], [], ([], .ofNat 0))),
  ((39, 11, 0), ([(0, .negSucc 0)], [], []), (sxE0, [], [], ([], .ofNat 0))),
  ((13, 10, 2), ([(0, .ofNat 0), (4, .ofNat 0)], [], []), (sxE0, [], [], ([], .ofNat 0))),
  ((16, 11, 0), ([(6, .ofNat 0)], [], []), (sxE0, [], [], ([], .ofNat 0)))]
theorem sxvI404 : (sx_exec sxRT [sxI402, sxI403, sxI374] sxLT sxhI404 80 0 sxI404.2.2.1 (sx_argl 0 sxI404.2.2.2.1) [] [] sxjI404).isSome = true := by decide +kernel
def sxI405 : sxI := (128, (6, 128), ([(.ofNat 0, .ofNat 0), (.ofNat 0, .ofNat 7), (.ofNat 0, .ofNat 8), (.ofNat 0, .ofNat 1000000000000000)], [43, 53, 56], 2, [], [(20, [(0, .ofNat 1), (1, .ofNat 0), (2, .ofNat 0)], [0]), (28, [(1, .ofNat 0), (1, .ofNat 0), (3, .ofNat 0)], [1])], [((0, 0), (0, .ofNat 20), (2, 1, .ofNat 0)), ((0, 0), (0, .ofNat 27), (2, 2, .ofNat 0))], [(1, (0, 108), 0), (2, (0, 8), 1)]), [(2, 0, .ofNat 0)], [(43, 29, 30), (57, 0, 7)], [(([], [], 0, [], [], [], []), none)])
def sxhI405 : sxH := (sxk_X12_keepsOrder, sxgX12, sxpX12, sxcX12, (sxkiX12, sxklX12, sxksX12), (3, sxI405.2.2.2.2.1, sxI405.2.2.2.2.2, 4), (4, 3, 2), (6, 128))
def sxjI405 : List sxJ := [((1, 10, 0), ([(0, .ofNat 0), (1, .ofNat 0), (2, .ofNat 0), (3, .ofNat 0)], [0, 1, 2], [0, 1]), (sxE0, [], [], ([], .ofNat 0))),
  ((21, 0, 0), ([(0, .ofNat 0)], [], []), (([(.ofNat 0, .ofNat 7)], [], 0, [], [], [((0, 0), (0, .ofNat 29), (0, 4, .ofNat 0)), ((0, 0), (0, .ofNat 20), (2, 1, .ofNat 0)), ((0, 0), (0, .ofNat 27), (2, 2, .ofNat 0))], [(1, (0, 108), 0), (2, (0, 8), 1)]), [(2, (0, 6, .ofNat 0)), (1, (0, 4, .ofNat 0)), (0, (2, 0, .ofNat 0))], [], ([(6, .negSucc 0)], .ofNat 7))),
  ((28, 3, 1), ([(0, .ofNat 0), (0, .ofNat 1), (1, .ofNat 0), (2, .ofNat 0), (7, .ofNat 0)], [], [0]), (sxE0, [], [], ([], .ofNat 0))),
  ((28, 7, 0), ([], [], []), (sxE0, [], [], ([(7, .ofNat 1), (1, .negSucc 0)], .ofNat 0))),
  ((28, 7, 0), ([], [], []), (sxE0, [], [], ([(1, .ofNat 1), (7, .negSucc 0)], .ofNat 0))),
  ((49, 11, 0), ([], [], []), (sxE0, [], [], ([], .ofNat 0))),
  ((21, 2, 0), ([(6, .ofNat 1)], [], []), (sxE0, [], [], ([], .ofNat 0))),
  ((13, 11, 0), ([], [], []), (sxE0, [], [], ([], .ofNat 0)))]
theorem sxvI405 : (sx_exec sxRT [sxI404] sxLT sxhI405 106 0 sxI405.2.2.1 (sx_argl 0 sxI405.2.2.2.1) [] [] sxjI405).isSome = true := by decide +kernel
def sxI406 : sxI := (97, (7, 150), ([(.ofNat 0, .ofNat 0), (.ofNat 0, .ofNat 7), (.ofNat 0, .ofNat 8)], [43, 53, 56], 1, [], [(20, [(0, .ofNat 1), (1, .ofNat 0), (2, .ofNat 0)], [0])], [((0, 0), (0, .ofNat 20), (2, 1, .ofNat 0)), ((0, 0), (0, .ofNat 27), (2, 2, .ofNat 0))], [(1, (0, 108), 0)]), [(2, 0, .ofNat 0)], [(43, 29, 30), (56, 0, 8), (57, 0, 7)], [(([], [], 0, [], [], [], []), none)])
def sxhI406 : sxH := (sxk_X12_findsOrder, sxgX12, sxpX12, sxcX12, (sxkiX12, sxklX12, sxksX12), (2, sxI406.2.2.2.2.1, sxI406.2.2.2.2.2, 4), (3, 3, 1), (7, 150))
def sxjI406 : List sxJ := [((0, 5, 0), ([], [2, 0, 8], []), (sxE0, [], [], ([], .ofNat 0))),
  ((14, 3, 47), ([(0, .ofNat 0), (1, .ofNat 0)], [], [1, 2]), (sxE0, [], [], ([], .ofNat 0))),
  ((14, 0, 0), ([(0, .ofNat 0), (3, .ofNat 0)], [], [2]), (([(.negSucc 0, .ofNat 7), (.ofNat 0, .ofNat 1000000000000000)], [], 1, [([(1, .ofNat 1), (4, .negSucc 0)], .ofNat 0)], [(28, [(4, .ofNat 0), (1, .ofNat 0), (5, .ofNat 0)], [3])], [((0, 0), (0, .ofNat 20), (2, 1, .ofNat 0)), ((0, 0), (0, .ofNat 27), (2, 2, .ofNat 0))], [(2, (0, 8), 3), (1, (0, 108), 0)]), [(1, (0, 4, .ofNat 0)), (0, (2, 0, .ofNat 0))], [], ([(5, .ofNat 1)], .ofNat 0))),
  ((96, 11, 0), ([], [], []), (sxE0, [], [], ([], .ofNat 0))),
  ((25, 3, 1), ([(0, .ofNat 0), (0, .ofNat 1), (1, .ofNat 0), (2, .ofNat 0), (6, .ofNat 0)], [], [0]), (sxE0, [], [], ([], .ofNat 0))),
  ((25, 7, 0), ([], [], []), (sxE0, [], [], ([(6, .ofNat 1), (1, .negSucc 0)], .ofNat 0))),
  ((25, 7, 0), ([], [], []), (sxE0, [], [], ([(1, .ofNat 1), (6, .negSucc 0)], .ofNat 0))),
  ((45, 3, 48), ([(0, .ofNat 0), (4, .ofNat 0), (1, .ofNat 0), (5, .ofNat 0), (7, .ofNat 0)], [], [3]), (sxE0, [], [], ([], .ofNat 0))),
  ((45, 7, 0), ([], [], []), (sxE0, [], [], ([(7, .negSucc 0), (1, .ofNat 1)], .negSucc 0))),
  ((69, 7, 0), ([], [], []), (sxE0, [], [], ([(1, .ofNat 1), (7, .negSucc 0)], .negSucc 1))),
  ((69, 3, 51), ([(0, .ofNat 0), (4, .ofNat 0), (1, .ofNat 0), (5, .ofNat 0), (7, .ofNat 0)], [], [3, 4]), (sxE0, [], [], ([], .ofNat 0))),
  ((69, 7, 0), ([], [], []), (sxE0, [], [], ([(5, .ofNat 1), (8, .negSucc 0)], .negSucc 0))),
  ((77, 10, 0), ([(0, .ofNat 0), (4, .ofNat 0), (7, .ofNat 1)], [0], []), (sxE0, [], [], ([], .ofNat 0))),
  ((93, 3, 52), ([(0, .ofNat 0), (4, .ofNat 0), (1, .ofNat 0), (5, .ofNat 0), (7, .ofNat 0)], [], [3, 4, 5]), (sxE0, [], [], ([], .ofNat 0))),
  ((93, 7, 0), ([], [], []), (sxE0, [], [], ([(5, .ofNat 1), (9, .negSucc 0)], .negSucc 0))),
  ((14, 2, 0), ([(4, .ofNat 1), (9, .ofNat 0)], [], [5]), (sxE0, [], [], ([], .ofNat 0))),
  ((80, 7, 0), ([], [], []), (sxE0, [], [], ([(4, .ofNat 1)], .negSucc 0))),
  ((14, 2, 0), ([(4, .ofNat 0), (8, .ofNat 0)], [], [4]), (sxE0, [], [], ([], .ofNat 0))),
  ((63, 3, 50), ([(0, .ofNat 0), (4, .ofNat 0), (1, .ofNat 0), (5, .ofNat 0), (7, .ofNat 0)], [], [3, 4]), (sxE0, [], [], ([], .ofNat 0))),
  ((63, 7, 0), ([], [], []), (sxE0, [], [], ([(5, .ofNat 1), (8, .negSucc 0)], .negSucc 0))),
  ((14, 2, 0), ([(4, .negSucc 0), (8, .ofNat 0)], [], [4]), (sxE0, [], [], ([], .ofNat 0))),
  ((28, 7, 0), ([], [], []), (sxE0, [], [], ([(4, .ofNat 1), (1, .negSucc 0)], .ofNat 0))),
  ((28, 7, 0), ([], [], []), (sxE0, [], [], ([(1, .ofNat 1), (4, .negSucc 0)], .ofNat 0))),
  ((28, 3, 53), ([(0, .ofNat 0), (4, .ofNat 0), (1, .ofNat 0), (5, .ofNat 0)], [], [3]), (sxE0, [], [], ([], .ofNat 0))),
  ((29, 10, 1), ([(0, .ofNat 0), (1, .ofNat 0), (2, .ofNat 0), (5, .ofNat 0)], [0, 1, 2], [0, 3]), (sxE0, [], [], ([], .ofNat 0))),
  ((32, 7, 0), ([], [], []), (sxE0, [], [], ([(4, .ofNat 1), (1, .negSucc 0)], .ofNat 0))),
  ((32, 3, 49), ([(0, .ofNat 0), (4, .ofNat 0), (1, .ofNat 0), (5, .ofNat 0)], [], [3]), (sxE0, [], [], ([], .ofNat 0))),
  ((32, 7, 0), ([], [], []), (sxE0, [], [], ([(5, .ofNat 1), (7, .negSucc 0)], .negSucc 0))),
  ((14, 2, 0), ([(4, .negSucc 0), (7, .ofNat 0)], [], [3]), (sxE0, [], [], ([], .ofNat 0)))]
theorem sxvI406 : (sx_exec sxRT [sxI401, sxI405] sxLT sxhI406 181 0 sxI406.2.2.1 (sx_argl 0 sxI406.2.2.2.1) [] [] sxjI406).isSome = true := by decide +kernel
