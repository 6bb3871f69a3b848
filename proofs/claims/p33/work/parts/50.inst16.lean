def sxI273 : sxI := (233, (36, 874), ([(.ofNat 0, .ofNat 0), (.ofNat 3, .ofNat 3), (.ofNat 0, .ofNat 400)], [4, 1], 0, [], [], [((0, 0), (0, .ofNat 2), (2, 1, .ofNat 0)), ((0, 1), (0, .ofNat 5), (0, 2, .ofNat 0))], []), [(2, 0, .ofNat 0), (0, 1, .ofNat 0)], [(1, 2, 6), (4, 3, 5), (5, 0, 400)], [(([(.ofNat 0, .ofNat 0), (.ofNat 0, .ofNat 400)], [], 0, [], [], [((0, 0), (0, .ofNat 2), (2, 1, .ofNat 0)), ((0, 1), (0, .ofNat 5), (0, 4, .ofNat 0))], []), some (0, 3, .ofNat 0)), (([(.ofNat 1, .ofNat 1), (.ofNat 0, .ofNat 400)], [], 0, [], [], [((0, 0), (0, .ofNat 2), (2, 1, .ofNat 0)), ((0, 1), (0, .ofNat 5), (0, 4, .ofNat 0))], []), some (0, 3, .ofNat 0))])
def sxhI273 : sxH := (sxk_X9_readsPart, sxgX9, sxpX9, sxcX9, (sxkiX9, sxklX9, sxksX9), (4, sxI273.2.2.2.2.1, sxI273.2.2.2.2.2, 1), (3, 2, 0), (36, 874))
def sxjI273 : List sxJ := [((2, 10, 0), ([(0, .ofNat 0), (1, .ofNat 0), (2, .ofNat 0)], [0, 1], []), (sxE0, [], [], ([], .ofNat 0))),
  ((8, 0, 0), ([(0, .ofNat 0), (0, .ofNat 0)], [], []), (([(.ofNat 0, .ofNat 0), (.ofNat 0, .ofNat 0)], [], 0, [], [], [((0, 0), (0, .ofNat 2), (2, 1, .ofNat 0)), ((0, 1), (0, .ofNat 5), (0, 3, .ofNat 0))], []), [(3, (0, 4, .ofNat 0)), (2, (0, 5, .ofNat 0)), (0, (2, 0, .ofNat 0)), (1, (0, 1, .ofNat 0))], [], ([(4, .negSucc 0)], .ofNat 0))),
  ((67, 11, 0), ([(5, .ofNat 0), (3, .ofNat 0)], [], []), (sxE0, [], [], ([], .ofNat 0))),
  ((8, 0, 0), ([(0, .ofNat 0), (0, .ofNat 1), (3, .ofNat 0)], [], []), (([(.ofNat 0, .ofNat 60), (.ofNat 0, .ofNat 1), (.ofNat 0, .ofNat 400)], [], 0, [], [], [((0, 0), (0, .ofNat 2), (2, 1, .ofNat 0)), ((0, 1), (0, .ofNat 5), (0, 6, .ofNat 0))], []), [(3, (0, 4, .ofNat 0)), (2, (0, 5, .ofNat 0)), (0, (2, 0, .ofNat 0)), (1, (0, 1, .ofNat 0))], [], ([(4, .negSucc 0)], .ofNat 60))),
  ((67, 11, 0), ([(5, .ofNat 0), (6, .ofNat 0)], [], []), (sxE0, [], [], ([], .ofNat 0))),
  ((67, 11, 1), ([(5, .ofNat 0), (6, .ofNat 0)], [], []), (sxE0, [], [], ([], .ofNat 0))),
  ((24, 10, 1), ([(0, .ofNat 0)], [1, 2], []), (sxE0, [], [], ([], .ofNat 0))),
  ((67, 11, 1), ([(5, .ofNat 0), (6, .ofNat 0)], [], []), (sxE0, [], [], ([], .ofNat 0))),
  ((34, 10, 2), ([(0, .ofNat 0), (6, .ofNat 0)], [1], []), (sxE0, [], [], ([], .ofNat 0))),
  ((39, 10, 0), ([(0, .ofNat 0), (1, .ofNat 0), (8, .ofNat 0)], [0, 1], []), (sxE0, [], [], ([], .ofNat 0))),
  ((8, 2, 0), ([(4, .ofNat 1), (0, .ofNat 0), (9, .ofNat 0)], [], []), (sxE0, [], [], ([], .ofNat 0))),
  ((48, 10, 3), ([(0, .ofNat 0), (0, .ofNat 24)], [0, 1], []), (sxE0, [], [], ([], .ofNat 0))),
  ((8, 2, 0), ([(4, .ofNat 1), (0, .ofNat 1), (9, .ofNat 0)], [], []), (sxE0, [], [], ([], .ofNat 0))),
  ((8, 2, 0), ([(4, .ofNat 1), (0, .ofNat 0), (9, .ofNat 0)], [], []), (sxE0, [], [], ([], .ofNat 0)))]
theorem sxvI273 : (sx_exec sxRT [sxI272, sxI77, sxI64, sxI223] [] sxhI273 257 0 sxI273.2.2.1 (sx_argl 0 sxI273.2.2.2.1) [] [] sxjI273).isSome = true := by decide +kernel
theorem sxmI273 {PF : Nat → List Int → List (Nat → Int) → Prop} {l : Launch} : sx_met PF sxRT sxMy sxMc sxML sxMr sxTK l sxI273 := by
  obtain ⟨its2, hk⟩ := Option.isSome_iff_exists.mp sxvI273
  exact sx_met_of (h := sxhI273) sxTK_ok (sxTK2 sxksX9_ok) sxt_X9_readsPart sxFW_ok (sx_cons (sxmI272) (sx_cons (sxmI77) (sx_cons (sxmI64) (sx_cons (sxmI223) sx_nil)))) (fun L h => by cases h) rfl (by decide +kernel) (by decide) rfl ⟨rfl, rfl, rfl, rfl⟩ hk
def sxI274 : sxI := (235, (37, 897), ([(.ofNat 0, .ofNat 0), (.ofNat 3, .ofNat 3), (.ofNat 0, .ofNat 400)], [4, 1], 0, [], [], [((0, 0), (0, .ofNat 2), (2, 1, .ofNat 0)), ((0, 1), (0, .ofNat 5), (0, 2, .ofNat 0))], []), [(2, 0, .ofNat 0), (0, 1, .ofNat 0)], [(1, 2, 6), (4, 3, 5), (5, 0, 400)], [(([(.ofNat 0, .ofNat 0), (.ofNat 0, .ofNat 400)], [], 0, [], [], [((0, 0), (0, .ofNat 2), (2, 1, .ofNat 0)), ((0, 1), (0, .ofNat 5), (0, 4, .ofNat 0))], []), some (0, 3, .ofNat 0)), (([(.ofNat 1, .ofNat 1), (.ofNat 0, .ofNat 400)], [], 0, [], [], [((0, 0), (0, .ofNat 2), (2, 1, .ofNat 0)), ((0, 1), (0, .ofNat 5), (0, 4, .ofNat 0))], []), some (0, 3, .ofNat 0))])
def sxhI274 : sxH := (sxk_X9_readsTest, sxgX9, sxpX9, sxcX9, (sxkiX9, sxklX9, sxksX9), (4, sxI274.2.2.2.2.1, sxI274.2.2.2.2.2, 1), (3, 2, 0), (37, 897))
def sxjI274 : List sxJ := [((2, 10, 0), ([(0, .ofNat 0), (1, .ofNat 0), (2, .ofNat 0)], [0, 1], []), (sxE0, [], [], ([], .ofNat 0))),
  ((8, 0, 0), ([(0, .ofNat 0), (3, .ofNat 0)], [], []), (([(.ofNat 0, .ofNat 0), (.ofNat 0, .ofNat 0)], [], 0, [([(6, .ofNat 1), (3, .negSucc 0)], .ofNat 0), ([(3, .ofNat 1), (6, .negSucc 0)], .ofNat 0)], [], [((0, 0), (0, .ofNat 2), (2, 1, .ofNat 0)), ((0, 1), (0, .ofNat 5), (0, 4, .ofNat 0))], []), [(3, (0, 5, .ofNat 0)), (2, (0, 6, .ofNat 0)), (0, (2, 0, .ofNat 0)), (1, (0, 1, .ofNat 0))], [], ([(5, .negSucc 0)], .ofNat 0))),
  ((67, 11, 0), ([(6, .ofNat 0), (4, .ofNat 0)], [], []), (sxE0, [], [], ([], .ofNat 0))),
  ((8, 0, 0), ([(0, .ofNat 0), (3, .ofNat 0), (4, .ofNat 0)], [], []), (([(.ofNat 0, .ofNat 60), (.ofNat 0, .ofNat 1), (.ofNat 0, .ofNat 400)], [], 0, [([(3, .ofNat 1), (6, .negSucc 0)], .ofNat 0)], [], [((0, 0), (0, .ofNat 2), (2, 1, .ofNat 0)), ((0, 1), (0, .ofNat 5), (0, 7, .ofNat 0))], []), [(3, (0, 5, .ofNat 0)), (2, (0, 6, .ofNat 0)), (0, (2, 0, .ofNat 0)), (1, (0, 1, .ofNat 0))], [], ([(5, .negSucc 0)], .ofNat 60))),
  ((67, 11, 0), ([(6, .ofNat 0), (7, .ofNat 0)], [], []), (sxE0, [], [], ([], .ofNat 0))),
  ((67, 11, 1), ([(6, .ofNat 0), (7, .ofNat 0)], [], []), (sxE0, [], [], ([], .ofNat 0))),
  ((24, 10, 1), ([(0, .ofNat 0)], [1, 2], []), (sxE0, [], [], ([], .ofNat 0))),
  ((67, 11, 1), ([(6, .ofNat 0), (7, .ofNat 0)], [], []), (sxE0, [], [], ([], .ofNat 0))),
  ((34, 10, 2), ([(0, .ofNat 0), (7, .ofNat 0)], [1], []), (sxE0, [], [], ([], .ofNat 0))),
  ((39, 10, 0), ([(0, .ofNat 0), (1, .ofNat 0), (9, .ofNat 0)], [0, 1], []), (sxE0, [], [], ([], .ofNat 0))),
  ((8, 2, 0), ([(5, .ofNat 1), (0, .ofNat 0), (11, .ofNat 0)], [], []), (sxE0, [], [], ([], .ofNat 0))),
  ((48, 10, 3), ([(0, .ofNat 0), (0, .ofNat 25)], [0, 1], []), (sxE0, [], [], ([], .ofNat 0))),
  ((8, 2, 0), ([(5, .ofNat 1), (0, .ofNat 1), (11, .ofNat 0)], [], []), (sxE0, [], [], ([], .ofNat 0))),
  ((8, 2, 0), ([(5, .ofNat 1), (0, .ofNat 0), (11, .ofNat 0)], [], []), (sxE0, [], [], ([], .ofNat 0)))]
theorem sxvI274 : (sx_exec sxRT [sxI273, sxI235, sxI64, sxI223] [] sxhI274 257 0 sxI274.2.2.1 (sx_argl 0 sxI274.2.2.2.1) [] [] sxjI274).isSome = true := by decide +kernel
theorem sxmI274 {PF : Nat → List Int → List (Nat → Int) → Prop} {l : Launch} : sx_met PF sxRT sxMy sxMc sxML sxMr sxTK l sxI274 := by
  obtain ⟨its2, hk⟩ := Option.isSome_iff_exists.mp sxvI274
  exact sx_met_of (h := sxhI274) sxTK_ok (sxTK2 sxksX9_ok) sxt_X9_readsTest sxFW_ok (sx_cons (sxmI273) (sx_cons (sxmI235) (sx_cons (sxmI64) (sx_cons (sxmI223) sx_nil)))) (fun L h => by cases h) rfl (by decide +kernel) (by decide) rfl ⟨rfl, rfl, rfl, rfl⟩ hk
def sxI275 : sxI := (237, (38, 920), ([(.ofNat 0, .ofNat 0), (.ofNat 0, .ofNat 0), (.ofNat 3, .ofNat 3), (.ofNat 0, .ofNat 400)], [4, 1], 0, [], [], [((0, 0), (0, .ofNat 2), (2, 1, .ofNat 0)), ((0, 1), (0, .ofNat 5), (0, 3, .ofNat 0))], []), [(2, 0, .ofNat 0), (0, 1, .ofNat 0), (0, 2, .ofNat 0)], [(1, 2, 6), (4, 3, 5), (5, 0, 400)], [(([(.ofNat 0, .ofNat 400)], [], 0, [], [], [((0, 0), (0, .ofNat 2), (2, 1, .ofNat 0)), ((0, 1), (0, .ofNat 5), (0, 4, .ofNat 0))], []), some (0, 0, .ofNat 0)), (([(.ofNat 0, .ofNat 400)], [], 0, [], [], [((0, 0), (0, .ofNat 2), (2, 1, .ofNat 0)), ((0, 1), (0, .ofNat 5), (0, 4, .ofNat 0))], []), some (0, 0, .ofNat 1))])
def sxhI275 : sxH := (sxk_X9_readsWithin, sxgX9, sxpX9, sxcX9, (sxkiX9, sxklX9, sxksX9), (3, sxI275.2.2.2.2.1, sxI275.2.2.2.2.2, 1), (4, 2, 0), (38, 920))
def sxjI275 : List sxJ := [((4, 10, 0), ([(0, .ofNat 0), (3, .ofNat 0)], [1], []), (sxE0, [], [], ([], .ofNat 0))),
  ((36, 10, 1), ([(0, .ofNat 0), (2, .ofNat 0), (4, .ofNat 0)], [0, 1], []), (sxE0, [], [], ([], .ofNat 0))),
  ((43, 11, 0), ([(6, .ofNat 0)], [], []), (sxE0, [], [], ([], .ofNat 0))),
  ((69, 10, 0), ([(0, .ofNat 0), (6, .ofNat 0)], [1], []), (sxE0, [], [], ([], .ofNat 0))),
  ((73, 11, 1), ([(8, .ofNat 0)], [], []), (sxE0, [], [], ([], .ofNat 0))),
  ((61, 10, 2), ([(0, .ofNat 0), (0, .ofNat 0)], [1], []), (sxE0, [], [], ([], .ofNat 0))),
  ((64, 11, 0), ([(6, .ofNat 0)], [], []), (sxE0, [], [], ([], .ofNat 0)))]
theorem sxvI275 : (sx_exec sxRT [sxI64, sxI274, sxI78] [] sxhI275 84 0 sxI275.2.2.1 (sx_argl 0 sxI275.2.2.2.1) [] [] sxjI275).isSome = true := by decide +kernel
theorem sxmI275 {PF : Nat → List Int → List (Nat → Int) → Prop} {l : Launch} : sx_met PF sxRT sxMy sxMc sxML sxMr sxTK l sxI275 := by
  obtain ⟨its2, hk⟩ := Option.isSome_iff_exists.mp sxvI275
  exact sx_met_of (h := sxhI275) sxTK_ok (sxTK2 sxksX9_ok) sxt_X9_readsWithin sxFW_ok (sx_cons (sxmI64) (sx_cons (sxmI274) (sx_cons (sxmI78) sx_nil))) (fun L h => by cases h) rfl (by decide +kernel) (by decide) rfl ⟨rfl, rfl, rfl, rfl⟩ hk
def sxI276 : sxI := (237, (36, 874), ([(.ofNat 0, .ofNat 0), (.ofNat 1, .ofNat 1), (.ofNat 3, .ofNat 3), (.ofNat 0, .ofNat 400)], [4, 1], 0, [], [], [((0, 0), (0, .ofNat 2), (2, 1, .ofNat 0)), ((0, 1), (0, .ofNat 5), (0, 3, .ofNat 0))], []), [(2, 0, .ofNat 0), (0, 1, .ofNat 0), (0, 2, .ofNat 0)], [(1, 2, 6), (4, 3, 5), (5, 0, 400)], [(([(.ofNat 0, .ofNat 400)], [], 0, [], [], [((0, 0), (0, .ofNat 2), (2, 1, .ofNat 0)), ((0, 1), (0, .ofNat 5), (0, 4, .ofNat 0))], []), some (0, 0, .ofNat 0)), (([(.ofNat 0, .ofNat 400)], [], 0, [], [], [((0, 0), (0, .ofNat 2), (2, 1, .ofNat 0)), ((0, 1), (0, .ofNat 5), (0, 4, .ofNat 0))], []), some (0, 0, .ofNat 1))])
def sxhI276 : sxH := (sxk_X9_readsWithin, sxgX9, sxpX9, sxcX9, (sxkiX9, sxklX9, sxksX9), (3, sxI276.2.2.2.2.1, sxI276.2.2.2.2.2, 1), (4, 2, 0), (36, 874))
def sxjI276 : List sxJ := [((4, 10, 0), ([(0, .ofNat 0), (3, .ofNat 0)], [1], []), (sxE0, [], [], ([], .ofNat 0))),
  ((13, 10, 1), ([(0, .ofNat 0), (2, .ofNat 0), (4, .ofNat 0)], [0, 1], []), (sxE0, [], [], ([], .ofNat 0))),
  ((33, 11, 0), ([(5, .ofNat 0)], [], []), (sxE0, [], [], ([], .ofNat 0))),
  ((22, 10, 2), ([(0, .ofNat 0), (0, .ofNat 23)], [0, 1], []), (sxE0, [], [], ([], .ofNat 0))),
  ((33, 11, 1), ([(5, .ofNat 0)], [], []), (sxE0, [], [], ([], .ofNat 0))),
  ((33, 11, 0), ([(5, .ofNat 0)], [], []), (sxE0, [], [], ([], .ofNat 0)))]
theorem sxvI276 : (sx_exec sxRT [sxI64, sxI272, sxI223] [] sxhI276 78 0 sxI276.2.2.1 (sx_argl 0 sxI276.2.2.2.1) [] [] sxjI276).isSome = true := by decide +kernel
theorem sxmI276 {PF : Nat → List Int → List (Nat → Int) → Prop} {l : Launch} : sx_met PF sxRT sxMy sxMc sxML sxMr sxTK l sxI276 := by
  obtain ⟨its2, hk⟩ := Option.isSome_iff_exists.mp sxvI276
  exact sx_met_of (h := sxhI276) sxTK_ok (sxTK2 sxksX9_ok) sxt_X9_readsWithin sxFW_ok (sx_cons (sxmI64) (sx_cons (sxmI272) (sx_cons (sxmI223) sx_nil))) (fun L h => by cases h) rfl (by decide +kernel) (by decide) rfl ⟨rfl, rfl, rfl, rfl⟩ hk
def sxI277 : sxI := (232, (39, 942), ([(.ofNat 0, .ofNat 0), (.ofNat 2, .ofNat 2), (.ofNat 0, .ofNat 400)], [4, 1], 0, [], [], [((0, 0), (0, .ofNat 2), (2, 1, .ofNat 0)), ((0, 1), (0, .ofNat 5), (0, 2, .ofNat 0))], []), [(2, 0, .ofNat 0), (0, 1, .ofNat 0)], [(1, 2, 6), (4, 3, 5), (5, 0, 400)], [(([(.ofNat 0, .ofNat 400)], [], 0, [], [], [((0, 0), (0, .ofNat 2), (2, 1, .ofNat 0)), ((0, 1), (0, .ofNat 5), (0, 3, .ofNat 0))], []), some (0, 0, .ofNat 0)), (([(.ofNat 0, .ofNat 400)], [], 0, [], [], [((0, 0), (0, .ofNat 2), (2, 1, .ofNat 0)), ((0, 1), (0, .ofNat 5), (0, 3, .ofNat 0))], []), some (0, 0, .ofNat 1))])
def sxhI277 : sxH := (sxk_X9_readsFact, sxgX9, sxpX9, sxcX9, (sxkiX9, sxklX9, sxksX9), (4, sxI277.2.2.2.2.1, sxI277.2.2.2.2.2, 1), (3, 2, 0), (39, 942))
def sxjI277 : List sxJ := [((6, 10, 0), ([(0, .ofNat 0)], [1, 2], []), (sxE0, [], [], ([], .ofNat 0))),
  ((53, 10, 1), ([(0, .ofNat 0), (2, .ofNat 0)], [0, 1], []), (sxE0, [], [], ([], .ofNat 0))),
  ((60, 11, 0), ([(5, .ofNat 0)], [], []), (sxE0, [], [], ([], .ofNat 0))),
  ((68, 10, 2), ([(0, .ofNat 0), (6, .ofNat 0)], [], []), (sxE0, [], [], ([], .ofNat 0))),
  ((118, 10, 3), ([(0, .ofNat 0), (5, .ofNat 0)], [1], []), (sxE0, [], [], ([], .ofNat 0))),
  ((122, 10, 1), ([(0, .ofNat 0), (9, .ofNat 0)], [0, 1], []), (sxE0, [], [], ([], .ofNat 0))),
  ((141, 11, 0), ([(10, .ofNat 0)], [], []), (sxE0, [], [], ([], .ofNat 0))),
  ((130, 10, 4), ([(0, .ofNat 0), (7, .ofNat 0)], [0, 1], []), (sxE0, [], [], ([], .ofNat 0))),
  ((141, 11, 1), ([(10, .ofNat 0)], [], []), (sxE0, [], [], ([], .ofNat 0))),
  ((141, 11, 0), ([(10, .ofNat 0)], [], []), (sxE0, [], [], ([], .ofNat 0))),
  ((100, 10, 5), ([(0, .ofNat 0), (0, .ofNat 3)], [1], []), (sxE0, [], [], ([], .ofNat 0))),
  ((103, 11, 0), ([(5, .ofNat 0)], [], []), (sxE0, [], [], ([], .ofNat 0))),
  ((82, 10, 5), ([(0, .ofNat 0), (0, .ofNat 0)], [1], []), (sxE0, [], [], ([], .ofNat 0))),
  ((85, 11, 0), ([(5, .ofNat 0)], [], []), (sxE0, [], [], ([], .ofNat 0))),
  ((37, 10, 6), ([(0, .ofNat 0), (3, .ofNat 0), (1, .ofNat 1), (2, .ofNat 0)], [0, 1], []), (sxE0, [], [], ([], .ofNat 0))),
  ((51, 11, 0), ([(5, .ofNat 0)], [], []), (sxE0, [], [], ([], .ofNat 0))),
  ((51, 11, 1), ([(5, .ofNat 0)], [], []), (sxE0, [], [], ([], .ofNat 0))),
  ((37, 10, 7), ([(0, .ofNat 0), (3, .ofNat 0), (1, .ofNat 1), (2, .ofNat 0)], [0, 1], []), (sxE0, [], [], ([], .ofNat 0))),
  ((51, 11, 0), ([(4, .ofNat 0)], [], []), (sxE0, [], [], ([], .ofNat 0))),
  ((51, 11, 1), ([(4, .ofNat 0)], [], []), (sxE0, [], [], ([], .ofNat 0)))]
theorem sxvI277 : (sx_exec sxRT [sxI77, sxI231, sxI236, sxI64, sxI223, sxI78, sxI275, sxI276] [] sxhI277 164 0 sxI277.2.2.1 (sx_argl 0 sxI277.2.2.2.1) [] [] sxjI277).isSome = true := by decide +kernel
theorem sxmI277 {PF : Nat → List Int → List (Nat → Int) → Prop} {l : Launch} : sx_met PF sxRT sxMy sxMc sxML sxMr sxTK l sxI277 := by
  obtain ⟨its2, hk⟩ := Option.isSome_iff_exists.mp sxvI277
  exact sx_met_of (h := sxhI277) sxTK_ok (sxTK2 sxksX9_ok) sxt_X9_readsFact sxFW_ok (sx_cons (sxmI77) (sx_cons (sxmI231) (sx_cons (sxmI236) (sx_cons (sxmI64) (sx_cons (sxmI223) (sx_cons (sxmI78) (sx_cons (sxmI275) (sx_cons (sxmI276) sx_nil)))))))) (fun L h => by cases h) rfl (by decide +kernel) (by decide) rfl ⟨rfl, rfl, rfl, rfl⟩ hk
def sxI278 : sxI := (233, (40, 965), ([(.ofNat 0, .ofNat 0), (.ofNat 2, .ofNat 2), (.ofNat 0, .ofNat 400)], [4, 1], 0, [], [], [((0, 0), (0, .ofNat 2), (2, 1, .ofNat 0)), ((0, 1), (0, .ofNat 5), (0, 2, .ofNat 0))], []), [(2, 0, .ofNat 0), (0, 1, .ofNat 0)], [(1, 2, 6), (4, 3, 5), (5, 0, 400)], [(([(.ofNat 0, .ofNat 0), (.ofNat 0, .ofNat 400)], [], 0, [], [], [((0, 0), (0, .ofNat 2), (2, 1, .ofNat 0)), ((0, 1), (0, .ofNat 5), (0, 4, .ofNat 0))], []), some (0, 3, .ofNat 0)), (([(.ofNat 1, .ofNat 1), (.ofNat 0, .ofNat 400)], [], 0, [], [], [((0, 0), (0, .ofNat 2), (2, 1, .ofNat 0)), ((0, 1), (0, .ofNat 5), (0, 4, .ofNat 0))], []), some (0, 3, .ofNat 0))])
def sxhI278 : sxH := (sxk_X9_readsPart, sxgX9, sxpX9, sxcX9, (sxkiX9, sxklX9, sxksX9), (4, sxI278.2.2.2.2.1, sxI278.2.2.2.2.2, 1), (3, 2, 0), (40, 965))
def sxjI278 : List sxJ := [((2, 10, 0), ([(0, .ofNat 0), (1, .ofNat 0), (2, .ofNat 0)], [0, 1], []), (sxE0, [], [], ([], .ofNat 0))),
  ((8, 0, 0), ([(0, .ofNat 0), (0, .ofNat 0)], [], []), (([(.ofNat 0, .ofNat 0), (.ofNat 0, .ofNat 0)], [], 0, [], [], [((0, 0), (0, .ofNat 2), (2, 1, .ofNat 0)), ((0, 1), (0, .ofNat 5), (0, 3, .ofNat 0))], []), [(3, (0, 4, .ofNat 0)), (2, (0, 5, .ofNat 0)), (0, (2, 0, .ofNat 0)), (1, (0, 1, .ofNat 0))], [], ([(4, .negSucc 0)], .ofNat 0))),
  ((67, 11, 0), ([(5, .ofNat 0), (3, .ofNat 0)], [], []), (sxE0, [], [], ([], .ofNat 0))),
  ((8, 0, 0), ([(0, .ofNat 0), (0, .ofNat 1), (3, .ofNat 0)], [], []), (([(.ofNat 0, .ofNat 60), (.ofNat 0, .ofNat 1), (.ofNat 0, .ofNat 400)], [], 0, [], [], [((0, 0), (0, .ofNat 2), (2, 1, .ofNat 0)), ((0, 1), (0, .ofNat 5), (0, 6, .ofNat 0))], []), [(3, (0, 4, .ofNat 0)), (2, (0, 5, .ofNat 0)), (0, (2, 0, .ofNat 0)), (1, (0, 1, .ofNat 0))], [], ([(4, .negSucc 0)], .ofNat 60))),
  ((67, 11, 0), ([(5, .ofNat 0), (6, .ofNat 0)], [], []), (sxE0, [], [], ([], .ofNat 0))),
  ((67, 11, 1), ([(5, .ofNat 0), (6, .ofNat 0)], [], []), (sxE0, [], [], ([], .ofNat 0))),
  ((24, 10, 1), ([(0, .ofNat 0)], [1, 2], []), (sxE0, [], [], ([], .ofNat 0))),
  ((67, 11, 1), ([(5, .ofNat 0), (6, .ofNat 0)], [], []), (sxE0, [], [], ([], .ofNat 0))),
  ((34, 10, 2), ([(0, .ofNat 0), (6, .ofNat 0)], [1], []), (sxE0, [], [], ([], .ofNat 0))),
  ((39, 10, 0), ([(0, .ofNat 0), (1, .ofNat 0), (8, .ofNat 0)], [0, 1], []), (sxE0, [], [], ([], .ofNat 0))),
  ((8, 2, 0), ([(4, .ofNat 1), (0, .ofNat 0), (9, .ofNat 0)], [], []), (sxE0, [], [], ([], .ofNat 0))),
  ((48, 10, 3), ([(0, .ofNat 0), (0, .ofNat 24)], [0, 1], []), (sxE0, [], [], ([], .ofNat 0))),
  ((8, 2, 0), ([(4, .ofNat 1), (0, .ofNat 1), (9, .ofNat 0)], [], []), (sxE0, [], [], ([], .ofNat 0))),
  ((8, 2, 0), ([(4, .ofNat 1), (0, .ofNat 0), (9, .ofNat 0)], [], []), (sxE0, [], [], ([], .ofNat 0)))]
theorem sxvI278 : (sx_exec sxRT [sxI277, sxI77, sxI64, sxI223] [] sxhI278 257 0 sxI278.2.2.1 (sx_argl 0 sxI278.2.2.2.1) [] [] sxjI278).isSome = true := by decide +kernel
theorem sxmI278 {PF : Nat → List Int → List (Nat → Int) → Prop} {l : Launch} : sx_met PF sxRT sxMy sxMc sxML sxMr sxTK l sxI278 := by
  obtain ⟨its2, hk⟩ := Option.isSome_iff_exists.mp sxvI278
  exact sx_met_of (h := sxhI278) sxTK_ok (sxTK2 sxksX9_ok) sxt_X9_readsPart sxFW_ok (sx_cons (sxmI277) (sx_cons (sxmI77) (sx_cons (sxmI64) (sx_cons (sxmI223) sx_nil)))) (fun L h => by cases h) rfl (by decide +kernel) (by decide) rfl ⟨rfl, rfl, rfl, rfl⟩ hk
def sxI279 : sxI := (235, (41, 988), ([(.ofNat 0, .ofNat 0), (.ofNat 2, .ofNat 2), (.ofNat 0, .ofNat 400)], [4, 1], 0, [], [], [((0, 0), (0, .ofNat 2), (2, 1, .ofNat 0)), ((0, 1), (0, .ofNat 5), (0, 2, .ofNat 0))], []), [(2, 0, .ofNat 0), (0, 1, .ofNat 0)], [(1, 2, 6), (4, 3, 5), (5, 0, 400)], [(([(.ofNat 0, .ofNat 0), (.ofNat 0, .ofNat 400)], [], 0, [], [], [((0, 0), (0, .ofNat 2), (2, 1, .ofNat 0)), ((0, 1), (0, .ofNat 5), (0, 4, .ofNat 0))], []), some (0, 3, .ofNat 0)), (([(.ofNat 1, .ofNat 1), (.ofNat 0, .ofNat 400)], [], 0, [], [], [((0, 0), (0, .ofNat 2), (2, 1, .ofNat 0)), ((0, 1), (0, .ofNat 5), (0, 4, .ofNat 0))], []), some (0, 3, .ofNat 0))])
def sxhI279 : sxH := (sxk_X9_readsTest, sxgX9, sxpX9, sxcX9, (sxkiX9, sxklX9, sxksX9), (4, sxI279.2.2.2.2.1, sxI279.2.2.2.2.2, 1), (3, 2, 0), (41, 988))
def sxjI279 : List sxJ := [((2, 10, 0), ([(0, .ofNat 0), (1, .ofNat 0), (2, .ofNat 0)], [0, 1], []), (sxE0, [], [], ([], .ofNat 0))),
  ((8, 0, 0), ([(0, .ofNat 0), (3, .ofNat 0)], [], []), (([(.ofNat 0, .ofNat 0), (.ofNat 0, .ofNat 0)], [], 0, [([(6, .ofNat 1), (3, .negSucc 0)], .ofNat 0), ([(3, .ofNat 1), (6, .negSucc 0)], .ofNat 0)], [], [((0, 0), (0, .ofNat 2), (2, 1, .ofNat 0)), ((0, 1), (0, .ofNat 5), (0, 4, .ofNat 0))], []), [(3, (0, 5, .ofNat 0)), (2, (0, 6, .ofNat 0)), (0, (2, 0, .ofNat 0)), (1, (0, 1, .ofNat 0))], [], ([(5, .negSucc 0)], .ofNat 0))),
  ((67, 11, 0), ([(6, .ofNat 0), (4, .ofNat 0)], [], []), (sxE0, [], [], ([], .ofNat 0))),
  ((8, 0, 0), ([(0, .ofNat 0), (3, .ofNat 0), (4, .ofNat 0)], [], []), (([(.ofNat 0, .ofNat 60), (.ofNat 0, .ofNat 1), (.ofNat 0, .ofNat 400)], [], 0, [([(3, .ofNat 1), (6, .negSucc 0)], .ofNat 0)], [], [((0, 0), (0, .ofNat 2), (2, 1, .ofNat 0)), ((0, 1), (0, .ofNat 5), (0, 7, .ofNat 0))], []), [(3, (0, 5, .ofNat 0)), (2, (0, 6, .ofNat 0)), (0, (2, 0, .ofNat 0)), (1, (0, 1, .ofNat 0))], [], ([(5, .negSucc 0)], .ofNat 60))),
  ((67, 11, 0), ([(6, .ofNat 0), (7, .ofNat 0)], [], []), (sxE0, [], [], ([], .ofNat 0))),
  ((67, 11, 1), ([(6, .ofNat 0), (7, .ofNat 0)], [], []), (sxE0, [], [], ([], .ofNat 0))),
  ((24, 10, 1), ([(0, .ofNat 0)], [1, 2], []), (sxE0, [], [], ([], .ofNat 0))),
  ((67, 11, 1), ([(6, .ofNat 0), (7, .ofNat 0)], [], []), (sxE0, [], [], ([], .ofNat 0))),
  ((34, 10, 2), ([(0, .ofNat 0), (7, .ofNat 0)], [1], []), (sxE0, [], [], ([], .ofNat 0))),
  ((39, 10, 0), ([(0, .ofNat 0), (1, .ofNat 0), (9, .ofNat 0)], [0, 1], []), (sxE0, [], [], ([], .ofNat 0))),
  ((8, 2, 0), ([(5, .ofNat 1), (0, .ofNat 0), (11, .ofNat 0)], [], []), (sxE0, [], [], ([], .ofNat 0))),
  ((48, 10, 3), ([(0, .ofNat 0), (0, .ofNat 25)], [0, 1], []), (sxE0, [], [], ([], .ofNat 0))),
  ((8, 2, 0), ([(5, .ofNat 1), (0, .ofNat 1), (11, .ofNat 0)], [], []), (sxE0, [], [], ([], .ofNat 0))),
  ((8, 2, 0), ([(5, .ofNat 1), (0, .ofNat 0), (11, .ofNat 0)], [], []), (sxE0, [], [], ([], .ofNat 0)))]
theorem sxvI279 : (sx_exec sxRT [sxI278, sxI235, sxI64, sxI223] [] sxhI279 257 0 sxI279.2.2.1 (sx_argl 0 sxI279.2.2.2.1) [] [] sxjI279).isSome = true := by decide +kernel
theorem sxmI279 {PF : Nat → List Int → List (Nat → Int) → Prop} {l : Launch} : sx_met PF sxRT sxMy sxMc sxML sxMr sxTK l sxI279 := by
  obtain ⟨its2, hk⟩ := Option.isSome_iff_exists.mp sxvI279
  exact sx_met_of (h := sxhI279) sxTK_ok (sxTK2 sxksX9_ok) sxt_X9_readsTest sxFW_ok (sx_cons (sxmI278) (sx_cons (sxmI235) (sx_cons (sxmI64) (sx_cons (sxmI223) sx_nil)))) (fun L h => by cases h) rfl (by decide +kernel) (by decide) rfl ⟨rfl, rfl, rfl, rfl⟩ hk
def sxI280 : sxI := (237, (42, 1011), ([(.ofNat 0, .ofNat 0), (.ofNat 0, .ofNat 0), (.ofNat 2, .ofNat 2), (.ofNat 0, .ofNat 400)], [4, 1], 0, [], [], [((0, 0), (0, .ofNat 2), (2, 1, .ofNat 0)), ((0, 1), (0, .ofNat 5), (0, 3, .ofNat 0))], []), [(2, 0, .ofNat 0), (0, 1, .ofNat 0), (0, 2, .ofNat 0)], [(1, 2, 6), (4, 3, 5), (5, 0, 400)], [(([(.ofNat 0, .ofNat 400)], [], 0, [], [], [((0, 0), (0, .ofNat 2), (2, 1, .ofNat 0)), ((0, 1), (0, .ofNat 5), (0, 4, .ofNat 0))], []), some (0, 0, .ofNat 0)), (([(.ofNat 0, .ofNat 400)], [], 0, [], [], [((0, 0), (0, .ofNat 2), (2, 1, .ofNat 0)), ((0, 1), (0, .ofNat 5), (0, 4, .ofNat 0))], []), some (0, 0, .ofNat 1))])
def sxhI280 : sxH := (sxk_X9_readsWithin, sxgX9, sxpX9, sxcX9, (sxkiX9, sxklX9, sxksX9), (3, sxI280.2.2.2.2.1, sxI280.2.2.2.2.2, 1), (4, 2, 0), (42, 1011))
def sxjI280 : List sxJ := [((4, 10, 0), ([(0, .ofNat 0), (3, .ofNat 0)], [1], []), (sxE0, [], [], ([], .ofNat 0))),
  ((36, 10, 1), ([(0, .ofNat 0), (2, .ofNat 0), (4, .ofNat 0)], [0, 1], []), (sxE0, [], [], ([], .ofNat 0))),
  ((43, 11, 0), ([(6, .ofNat 0)], [], []), (sxE0, [], [], ([], .ofNat 0))),
  ((69, 10, 0), ([(0, .ofNat 0), (6, .ofNat 0)], [1], []), (sxE0, [], [], ([], .ofNat 0))),
  ((73, 11, 1), ([(8, .ofNat 0)], [], []), (sxE0, [], [], ([], .ofNat 0))),
  ((61, 10, 2), ([(0, .ofNat 0), (0, .ofNat 0)], [1], []), (sxE0, [], [], ([], .ofNat 0))),
  ((64, 11, 0), ([(6, .ofNat 0)], [], []), (sxE0, [], [], ([], .ofNat 0)))]
theorem sxvI280 : (sx_exec sxRT [sxI64, sxI279, sxI78] [] sxhI280 84 0 sxI280.2.2.1 (sx_argl 0 sxI280.2.2.2.1) [] [] sxjI280).isSome = true := by decide +kernel
theorem sxmI280 {PF : Nat → List Int → List (Nat → Int) → Prop} {l : Launch} : sx_met PF sxRT sxMy sxMc sxML sxMr sxTK l sxI280 := by
  obtain ⟨its2, hk⟩ := Option.isSome_iff_exists.mp sxvI280
  exact sx_met_of (h := sxhI280) sxTK_ok (sxTK2 sxksX9_ok) sxt_X9_readsWithin sxFW_ok (sx_cons (sxmI64) (sx_cons (sxmI279) (sx_cons (sxmI78) sx_nil))) (fun L h => by cases h) rfl (by decide +kernel) (by decide) rfl ⟨rfl, rfl, rfl, rfl⟩ hk
def sxI281 : sxI := (237, (40, 965), ([(.ofNat 0, .ofNat 0), (.ofNat 1, .ofNat 1), (.ofNat 2, .ofNat 2), (.ofNat 0, .ofNat 400)], [4, 1], 0, [], [], [((0, 0), (0, .ofNat 2), (2, 1, .ofNat 0)), ((0, 1), (0, .ofNat 5), (0, 3, .ofNat 0))], []), [(2, 0, .ofNat 0), (0, 1, .ofNat 0), (0, 2, .ofNat 0)], [(1, 2, 6), (4, 3, 5), (5, 0, 400)], [(([(.ofNat 0, .ofNat 400)], [], 0, [], [], [((0, 0), (0, .ofNat 2), (2, 1, .ofNat 0)), ((0, 1), (0, .ofNat 5), (0, 4, .ofNat 0))], []), some (0, 0, .ofNat 0)), (([(.ofNat 0, .ofNat 400)], [], 0, [], [], [((0, 0), (0, .ofNat 2), (2, 1, .ofNat 0)), ((0, 1), (0, .ofNat 5), (0, 4, .ofNat 0))], []), some (0, 0, .ofNat 1))])
def sxhI281 : sxH := (sxk_X9_readsWithin, sxgX9, sxpX9, sxcX9, (sxkiX9, sxklX9, sxksX9), (3, sxI281.2.2.2.2.1, sxI281.2.2.2.2.2, 1), (4, 2, 0), (40, 965))
def sxjI281 : List sxJ := [((4, 10, 0), ([(0, .ofNat 0), (3, .ofNat 0)], [1], []), (sxE0, [], [], ([], .ofNat 0))),
  ((13, 10, 1), ([(0, .ofNat 0), (2, .ofNat 0), (4, .ofNat 0)], [0, 1], []), (sxE0, [], [], ([], .ofNat 0))),
  ((33, 11, 0), ([(5, .ofNat 0)], [], []), (sxE0, [], [], ([], .ofNat 0))),
  ((22, 10, 2), ([(0, .ofNat 0), (0, .ofNat 23)], [0, 1], []), (sxE0, [], [], ([], .ofNat 0))),
  ((33, 11, 1), ([(5, .ofNat 0)], [], []), (sxE0, [], [], ([], .ofNat 0))),
  ((33, 11, 0), ([(5, .ofNat 0)], [], []), (sxE0, [], [], ([], .ofNat 0)))]
theorem sxvI281 : (sx_exec sxRT [sxI64, sxI277, sxI223] [] sxhI281 78 0 sxI281.2.2.1 (sx_argl 0 sxI281.2.2.2.1) [] [] sxjI281).isSome = true := by decide +kernel
theorem sxmI281 {PF : Nat → List Int → List (Nat → Int) → Prop} {l : Launch} : sx_met PF sxRT sxMy sxMc sxML sxMr sxTK l sxI281 := by
  obtain ⟨its2, hk⟩ := Option.isSome_iff_exists.mp sxvI281
  exact sx_met_of (h := sxhI281) sxTK_ok (sxTK2 sxksX9_ok) sxt_X9_readsWithin sxFW_ok (sx_cons (sxmI64) (sx_cons (sxmI277) (sx_cons (sxmI223) sx_nil))) (fun L h => by cases h) rfl (by decide +kernel) (by decide) rfl ⟨rfl, rfl, rfl, rfl⟩ hk
def sxI282 : sxI := (232, (43, 1033), ([(.ofNat 0, .ofNat 0), (.ofNat 1, .ofNat 1), (.ofNat 0, .ofNat 400)], [4, 1], 0, [], [], [((0, 0), (0, .ofNat 2), (2, 1, .ofNat 0)), ((0, 1), (0, .ofNat 5), (0, 2, .ofNat 0))], []), [(2, 0, .ofNat 0), (0, 1, .ofNat 0)], [(1, 2, 6), (4, 3, 5), (5, 0, 400)], [(([(.ofNat 0, .ofNat 400)], [], 0, [], [], [((0, 0), (0, .ofNat 2), (2, 1, .ofNat 0)), ((0, 1), (0, .ofNat 5), (0, 3, .ofNat 0))], []), some (0, 0, .ofNat 0)), (([(.ofNat 0, .ofNat 400)], [], 0, [], [], [((0, 0), (0, .ofNat 2), (2, 1, .ofNat 0)), ((0, 1), (0, .ofNat 5), (0, 3, .ofNat 0))], []), some (0, 0, .ofNat 1))])
def sxhI282 : sxH := (sxk_X9_readsFact, sxgX9, sxpX9, sxcX9, (sxkiX9, sxklX9, sxksX9), (4, sxI282.2.2.2.2.1, sxI282.2.2.2.2.2, 1), (3, 2, 0), (43, 1033))
def sxjI282 : List sxJ := [((6, 10, 0), ([(0, .ofNat 0)], [1, 2], []), (sxE0, [], [], ([], .ofNat 0))),
  ((53, 10, 1), ([(0, .ofNat 0), (2, .ofNat 0)], [0, 1], []), (sxE0, [], [], ([], .ofNat 0))),
  ((60, 11, 0), ([(5, .ofNat 0)], [], []), (sxE0, [], [], ([], .ofNat 0))),
  ((68, 10, 2), ([(0, .ofNat 0), (6, .ofNat 0)], [], []), (sxE0, [], [], ([], .ofNat 0))),
  ((118, 10, 3), ([(0, .ofNat 0), (5, .ofNat 0)], [1], []), (sxE0, [], [], ([], .ofNat 0))),
  ((122, 10, 1), ([(0, .ofNat 0), (9, .ofNat 0)], [0, 1], []), (sxE0, [], [], ([], .ofNat 0))),
  ((141, 11, 0), ([(10, .ofNat 0)], [], []), (sxE0, [], [], ([], .ofNat 0))),
  ((130, 10, 4), ([(0, .ofNat 0), (7, .ofNat 0)], [0, 1], []), (sxE0, [], [], ([], .ofNat 0))),
  ((141, 11, 1), ([(10, .ofNat 0)], [], []), (sxE0, [], [], ([], .ofNat 0))),
  ((141, 11, 0), ([(10, .ofNat 0)], [], []), (sxE0, [], [], ([], .ofNat 0))),
  ((100, 10, 5), ([(0, .ofNat 0), (0, .ofNat 3)], [1], []), (sxE0, [], [], ([], .ofNat 0))),
  ((103, 11, 0), ([(5, .ofNat 0)], [], []), (sxE0, [], [], ([], .ofNat 0))),
  ((82, 10, 5), ([(0, .ofNat 0), (0, .ofNat 0)], [1], []), (sxE0, [], [], ([], .ofNat 0))),
  ((85, 11, 0), ([(5, .ofNat 0)], [], []), (sxE0, [], [], ([], .ofNat 0))),
  ((37, 10, 6), ([(0, .ofNat 0), (3, .ofNat 0), (1, .ofNat 1), (2, .ofNat 0)], [0, 1], []), (sxE0, [], [], ([], .ofNat 0))),
  ((51, 11, 0), ([(5, .ofNat 0)], [], []), (sxE0, [], [], ([], .ofNat 0))),
  ((51, 11, 1), ([(5, .ofNat 0)], [], []), (sxE0, [], [], ([], .ofNat 0))),
  ((37, 10, 7), ([(0, .ofNat 0), (3, .ofNat 0), (1, .ofNat 1), (2, .ofNat 0)], [0, 1], []), (sxE0, [], [], ([], .ofNat 0))),
  ((51, 11, 0), ([(4, .ofNat 0)], [], []), (sxE0, [], [], ([], .ofNat 0))),
  ((51, 11, 1), ([(4, .ofNat 0)], [], []), (sxE0, [], [], ([], .ofNat 0)))]
theorem sxvI282 : (sx_exec sxRT [sxI77, sxI231, sxI236, sxI64, sxI223, sxI78, sxI280, sxI281] [] sxhI282 164 0 sxI282.2.2.1 (sx_argl 0 sxI282.2.2.2.1) [] [] sxjI282).isSome = true := by decide +kernel
theorem sxmI282 {PF : Nat → List Int → List (Nat → Int) → Prop} {l : Launch} : sx_met PF sxRT sxMy sxMc sxML sxMr sxTK l sxI282 := by
  obtain ⟨its2, hk⟩ := Option.isSome_iff_exists.mp sxvI282
  exact sx_met_of (h := sxhI282) sxTK_ok (sxTK2 sxksX9_ok) sxt_X9_readsFact sxFW_ok (sx_cons (sxmI77) (sx_cons (sxmI231) (sx_cons (sxmI236) (sx_cons (sxmI64) (sx_cons (sxmI223) (sx_cons (sxmI78) (sx_cons (sxmI280) (sx_cons (sxmI281) sx_nil)))))))) (fun L h => by cases h) rfl (by decide +kernel) (by decide) rfl ⟨rfl, rfl, rfl, rfl⟩ hk
def sxI283 : sxI := (233, (44, 1056), ([(.ofNat 0, .ofNat 0), (.ofNat 1, .ofNat 1), (.ofNat 0, .ofNat 400)], [4, 1], 0, [], [], [((0, 0), (0, .ofNat 2), (2, 1, .ofNat 0)), ((0, 1), (0, .ofNat 5), (0, 2, .ofNat 0))], []), [(2, 0, .ofNat 0), (0, 1, .ofNat 0)], [(1, 2, 6), (4, 3, 5), (5, 0, 400)], [(([(.ofNat 0, .ofNat 0), (.ofNat 0, .ofNat 400)], [], 0, [], [], [((0, 0), (0, .ofNat 2), (2, 1, .ofNat 0)), ((0, 1), (0, .ofNat 5), (0, 4, .ofNat 0))], []), some (0, 3, .ofNat 0)), (([(.ofNat 1, .ofNat 1), (.ofNat 0, .ofNat 400)], [], 0, [], [], [((0, 0), (0, .ofNat 2), (2, 1, .ofNat 0)), ((0, 1), (0, .ofNat 5), (0, 4, .ofNat 0))], []), some (0, 3, .ofNat 0))])
def sxhI283 : sxH := (sxk_X9_readsPart, sxgX9, sxpX9, sxcX9, (sxkiX9, sxklX9, sxksX9), (4, sxI283.2.2.2.2.1, sxI283.2.2.2.2.2, 1), (3, 2, 0), (44, 1056))
def sxjI283 : List sxJ := [((2, 10, 0), ([(0, .ofNat 0), (1, .ofNat 0), (2, .ofNat 0)], [0, 1], []), (sxE0, [], [], ([], .ofNat 0))),
  ((8, 0, 0), ([(0, .ofNat 0), (0, .ofNat 0)], [], []), (([(.ofNat 0, .ofNat 0), (.ofNat 0, .ofNat 0)], [], 0, [], [], [((0, 0), (0, .ofNat 2), (2, 1, .ofNat 0)), ((0, 1), (0, .ofNat 5), (0, 3, .ofNat 0))], []), [(3, (0, 4, .ofNat 0)), (2, (0, 5, .ofNat 0)), (0, (2, 0, .ofNat 0)), (1, (0, 1, .ofNat 0))], [], ([(4, .negSucc 0)], .ofNat 0))),
  ((67, 11, 0), ([(5, .ofNat 0), (3, .ofNat 0)], [], []), (sxE0, [], [], ([], .ofNat 0))),
  ((8, 0, 0), ([(0, .ofNat 0), (0, .ofNat 1), (3, .ofNat 0)], [], []), (([(.ofNat 0, .ofNat 60), (.ofNat 0, .ofNat 1), (.ofNat 0, .ofNat 400)], [], 0, [], [], [((0, 0), (0, .ofNat 2), (2, 1, .ofNat 0)), ((0, 1), (0, .ofNat 5), (0, 6, .ofNat 0))], []), [(3, (0, 4, .ofNat 0)), (2, (0, 5, .ofNat 0)), (0, (2, 0, .ofNat 0)), (1, (0, 1, .ofNat 0))], [], ([(4, .negSucc 0)], .ofNat 60))),
  ((67, 11, 0), ([(5, .ofNat 0), (6, .ofNat 0)], [], []), (sxE0, [], [], ([], .ofNat 0))),
  ((67, 11, 1), ([(5, .ofNat 0), (6, .ofNat 0)], [], []), (sxE0, [], [], ([], .ofNat 0))),
  ((24, 10, 1), ([(0, .ofNat 0)], [1, 2], []), (sxE0, [], [], ([], .ofNat 0))),
  ((67, 11, 1), ([(5, .ofNat 0), (6, .ofNat 0)], [], []), (sxE0, [], [], ([], .ofNat 0))),
  ((34, 10, 2), ([(0, .ofNat 0), (6, .ofNat 0)], [1], []), (sxE0, [], [], ([], .ofNat 0))),
  ((39, 10, 0), ([(0, .ofNat 0), (1, .ofNat 0), (8, .ofNat 0)], [0, 1], []), (sxE0, [], [], ([], .ofNat 0))),
  ((8, 2, 0), ([(4, .ofNat 1), (0, .ofNat 0), (9, .ofNat 0)], [], []), (sxE0, [], [], ([], .ofNat 0))),
  ((48, 10, 3), ([(0, .ofNat 0), (0, .ofNat 24)], [0, 1], []), (sxE0, [], [], ([], .ofNat 0))),
  ((8, 2, 0), ([(4, .ofNat 1), (0, .ofNat 1), (9, .ofNat 0)], [], []), (sxE0, [], [], ([], .ofNat 0))),
  ((8, 2, 0), ([(4, .ofNat 1), (0, .ofNat 0), (9, .ofNat 0)], [], []), (sxE0, [], [], ([], .ofNat 0)))]
theorem sxvI283 : (sx_exec sxRT [sxI282, sxI77, sxI64, sxI223] [] sxhI283 257 0 sxI283.2.2.1 (sx_argl 0 sxI283.2.2.2.1) [] [] sxjI283).isSome = true := by decide +kernel
theorem sxmI283 {PF : Nat → List Int → List (Nat → Int) → Prop} {l : Launch} : sx_met PF sxRT sxMy sxMc sxML sxMr sxTK l sxI283 := by
  obtain ⟨its2, hk⟩ := Option.isSome_iff_exists.mp sxvI283
  exact sx_met_of (h := sxhI283) sxTK_ok (sxTK2 sxksX9_ok) sxt_X9_readsPart sxFW_ok (sx_cons (sxmI282) (sx_cons (sxmI77) (sx_cons (sxmI64) (sx_cons (sxmI223) sx_nil)))) (fun L h => by cases h) rfl (by decide +kernel) (by decide) rfl ⟨rfl, rfl, rfl, rfl⟩ hk
def sxI284 : sxI := (235, (45, 1079), ([(.ofNat 0, .ofNat 0), (.ofNat 1, .ofNat 1), (.ofNat 0, .ofNat 400)], [4, 1], 0, [], [], [((0, 0), (0, .ofNat 2), (2, 1, .ofNat 0)), ((0, 1), (0, .ofNat 5), (0, 2, .ofNat 0))], []), [(2, 0, .ofNat 0), (0, 1, .ofNat 0)], [(1, 2, 6), (4, 3, 5), (5, 0, 400)], [(([(.ofNat 0, .ofNat 0), (.ofNat 0, .ofNat 400)], [], 0, [], [], [((0, 0), (0, .ofNat 2), (2, 1, .ofNat 0)), ((0, 1), (0, .ofNat 5), (0, 4, .ofNat 0))], []), some (0, 3, .ofNat 0)), (([(.ofNat 1, .ofNat 1), (.ofNat 0, .ofNat 400)], [], 0, [], [], [((0, 0), (0, .ofNat 2), (2, 1, .ofNat 0)), ((0, 1), (0, .ofNat 5), (0, 4, .ofNat 0))], []), some (0, 3, .ofNat 0))])
def sxhI284 : sxH := (sxk_X9_readsTest, sxgX9, sxpX9, sxcX9, (sxkiX9, sxklX9, sxksX9), (4, sxI284.2.2.2.2.1, sxI284.2.2.2.2.2, 1), (3, 2, 0), (45, 1079))
def sxjI284 : List sxJ := [((2, 10, 0), ([(0, .ofNat 0), (1, .ofNat 0), (2, .ofNat 0)], [0, 1], []), (sxE0, [], [], ([], .ofNat 0))),
  ((8, 0, 0), ([(0, .ofNat 0), (3, .ofNat 0)], [], []), (([(.ofNat 0, .ofNat 0), (.ofNat 0, .ofNat 0)], [], 0, [([(6, .ofNat 1), (3, .negSucc 0)], .ofNat 0), ([(3, .ofNat 1), (6, .negSucc 0)], .ofNat 0)], [], [((0, 0), (0, .ofNat 2), (2, 1, .ofNat 0)), ((0, 1), (0, .ofNat 5), (0, 4, .ofNat 0))], []), [(3, (0, 5, .ofNat 0)), (2, (0, 6, .ofNat 0)), (0, (2, 0, .ofNat 0)), (1, (0, 1, .ofNat 0))], [], ([(5, .negSucc 0)], .ofNat 0))),
  ((67, 11, 0), ([(6, .ofNat 0), (4, .ofNat 0)], [], []), (sxE0, [], [], ([], .ofNat 0))),
  ((8, 0, 0), ([(0, .ofNat 0), (3, .ofNat 0), (4, .ofNat 0)], [], []), (([(.ofNat 0, .ofNat 60), (.ofNat 0, .ofNat 1), (.ofNat 0, .ofNat 400)], [], 0, [([(3, .ofNat 1), (6, .negSucc 0)], .ofNat 0)], [], [((0, 0), (0, .ofNat 2), (2, 1, .ofNat 0)), ((0, 1), (0, .ofNat 5), (0, 7, .ofNat 0))], []), [(3, (0, 5, .ofNat 0)), (2, (0, 6, .ofNat 0)), (0, (2, 0, .ofNat 0)), (1, (0, 1, .ofNat 0))], [], ([(5, .negSucc 0)], .ofNat 60))),
  ((67, 11, 0), ([(6, .ofNat 0), (7, .ofNat 0)], [], []), (sxE0, [], [], ([], .ofNat 0))),
  ((67, 11, 1), ([(6, .ofNat 0), (7, .ofNat 0)], [], []), (sxE0, [], [], ([], .ofNat 0))),
  ((24, 10, 1), ([(0, .ofNat 0)], [1, 2], []), (sxE0, [], [], ([], .ofNat 0))),
  ((67, 11, 1), ([(6, .ofNat 0), (7, .ofNat 0)], [], []), (sxE0, [], [], ([], .ofNat 0))),
  ((34, 10, 2), ([(0, .ofNat 0), (7, .ofNat 0)], [1], []), (sxE0, [], [], ([], .ofNat 0))),
  ((39, 10, 0), ([(0, .ofNat 0), (1, .ofNat 0), (9, .ofNat 0)], [0, 1], []), (sxE0, [], [], ([], .ofNat 0))),
  ((8, 2, 0), ([(5, .ofNat 1), (0, .ofNat 0), (11, .ofNat 0)], [], []), (sxE0, [], [], ([], .ofNat 0))),
  ((48, 10, 3), ([(0, .ofNat 0), (0, .ofNat 25)], [0, 1], []), (sxE0, [], [], ([], .ofNat 0))),
  ((8, 2, 0), ([(5, .ofNat 1), (0, .ofNat 1), (11, .ofNat 0)], [], []), (sxE0, [], [], ([], .ofNat 0))),
  ((8, 2, 0), ([(5, .ofNat 1), (0, .ofNat 0), (11, .ofNat 0)], [], []), (sxE0, [], [], ([], .ofNat 0)))]
theorem sxvI284 : (sx_exec sxRT [sxI283, sxI235, sxI64, sxI223] [] sxhI284 257 0 sxI284.2.2.1 (sx_argl 0 sxI284.2.2.2.1) [] [] sxjI284).isSome = true := by decide +kernel
theorem sxmI284 {PF : Nat → List Int → List (Nat → Int) → Prop} {l : Launch} : sx_met PF sxRT sxMy sxMc sxML sxMr sxTK l sxI284 := by
  obtain ⟨its2, hk⟩ := Option.isSome_iff_exists.mp sxvI284
  exact sx_met_of (h := sxhI284) sxTK_ok (sxTK2 sxksX9_ok) sxt_X9_readsTest sxFW_ok (sx_cons (sxmI283) (sx_cons (sxmI235) (sx_cons (sxmI64) (sx_cons (sxmI223) sx_nil)))) (fun L h => by cases h) rfl (by decide +kernel) (by decide) rfl ⟨rfl, rfl, rfl, rfl⟩ hk
def sxI285 : sxI := (237, (46, 1102), ([(.ofNat 0, .ofNat 0), (.ofNat 0, .ofNat 0), (.ofNat 1, .ofNat 1), (.ofNat 0, .ofNat 400)], [4, 1], 0, [], [], [((0, 0), (0, .ofNat 2), (2, 1, .ofNat 0)), ((0, 1), (0, .ofNat 5), (0, 3, .ofNat 0))], []), [(2, 0, .ofNat 0), (0, 1, .ofNat 0), (0, 2, .ofNat 0)], [(1, 2, 6), (4, 3, 5), (5, 0, 400)], [(([(.ofNat 0, .ofNat 400)], [], 0, [], [], [((0, 0), (0, .ofNat 2), (2, 1, .ofNat 0)), ((0, 1), (0, .ofNat 5), (0, 4, .ofNat 0))], []), some (0, 0, .ofNat 0)), (([(.ofNat 0, .ofNat 400)], [], 0, [], [], [((0, 0), (0, .ofNat 2), (2, 1, .ofNat 0)), ((0, 1), (0, .ofNat 5), (0, 4, .ofNat 0))], []), some (0, 0, .ofNat 1))])
def sxhI285 : sxH := (sxk_X9_readsWithin, sxgX9, sxpX9, sxcX9, (sxkiX9, sxklX9, sxksX9), (3, sxI285.2.2.2.2.1, sxI285.2.2.2.2.2, 1), (4, 2, 0), (46, 1102))
def sxjI285 : List sxJ := [((4, 10, 0), ([(0, .ofNat 0), (3, .ofNat 0)], [1], []), (sxE0, [], [], ([], .ofNat 0))),
  ((36, 10, 1), ([(0, .ofNat 0), (2, .ofNat 0), (4, .ofNat 0)], [0, 1], []), (sxE0, [], [], ([], .ofNat 0))),
  ((43, 11, 0), ([(6, .ofNat 0)], [], []), (sxE0, [], [], ([], .ofNat 0))),
  ((69, 10, 0), ([(0, .ofNat 0), (6, .ofNat 0)], [1], []), (sxE0, [], [], ([], .ofNat 0))),
  ((73, 11, 1), ([(8, .ofNat 0)], [], []), (sxE0, [], [], ([], .ofNat 0))),
  ((61, 10, 2), ([(0, .ofNat 0), (0, .ofNat 0)], [1], []), (sxE0, [], [], ([], .ofNat 0))),
  ((64, 11, 0), ([(6, .ofNat 0)], [], []), (sxE0, [], [], ([], .ofNat 0)))]
theorem sxvI285 : (sx_exec sxRT [sxI64, sxI284, sxI78] [] sxhI285 84 0 sxI285.2.2.1 (sx_argl 0 sxI285.2.2.2.1) [] [] sxjI285).isSome = true := by decide +kernel
theorem sxmI285 {PF : Nat → List Int → List (Nat → Int) → Prop} {l : Launch} : sx_met PF sxRT sxMy sxMc sxML sxMr sxTK l sxI285 := by
  obtain ⟨its2, hk⟩ := Option.isSome_iff_exists.mp sxvI285
  exact sx_met_of (h := sxhI285) sxTK_ok (sxTK2 sxksX9_ok) sxt_X9_readsWithin sxFW_ok (sx_cons (sxmI64) (sx_cons (sxmI284) (sx_cons (sxmI78) sx_nil))) (fun L h => by cases h) rfl (by decide +kernel) (by decide) rfl ⟨rfl, rfl, rfl, rfl⟩ hk
def sxI286 : sxI := (237, (44, 1056), ([(.ofNat 0, .ofNat 0), (.ofNat 1, .ofNat 1), (.ofNat 1, .ofNat 1), (.ofNat 0, .ofNat 400)], [4, 1], 0, [], [], [((0, 0), (0, .ofNat 2), (2, 1, .ofNat 0)), ((0, 1), (0, .ofNat 5), (0, 3, .ofNat 0))], []), [(2, 0, .ofNat 0), (0, 1, .ofNat 0), (0, 2, .ofNat 0)], [(1, 2, 6), (4, 3, 5), (5, 0, 400)], [(([(.ofNat 0, .ofNat 400)], [], 0, [], [], [((0, 0), (0, .ofNat 2), (2, 1, .ofNat 0)), ((0, 1), (0, .ofNat 5), (0, 4, .ofNat 0))], []), some (0, 0, .ofNat 0)), (([(.ofNat 0, .ofNat 400)], [], 0, [], [], [((0, 0), (0, .ofNat 2), (2, 1, .ofNat 0)), ((0, 1), (0, .ofNat 5), (0, 4, .ofNat 0))], []), some (0, 0, .ofNat 1))])
def sxhI286 : sxH := (sxk_X9_readsWithin, sxgX9, sxpX9, sxcX9, (sxkiX9, sxklX9, sxksX9), (3, sxI286.2.2.2.2.1, sxI286.2.2.2.2.2, 1), (4, 2, 0), (44, 1056))
def sxjI286 : List sxJ := [((4, 10, 0), ([(0, .ofNat 0), (3, .ofNat 0)], [1], []), (sxE0, [], [], ([], .ofNat 0))),
  ((13, 10, 1), ([(0, .ofNat 0), (2, .ofNat 0), (4, .ofNat 0)], [0, 1], []), (sxE0, [], [], ([], .ofNat 0))),
  ((33, 11, 0), ([(5, .ofNat 0)], [], []), (sxE0, [], [], ([], .ofNat 0))),
  ((22, 10, 2), ([(0, .ofNat 0), (0, .ofNat 23)], [0, 1], []), (sxE0, [], [], ([], .ofNat 0))),
  ((33, 11, 1), ([(5, .ofNat 0)], [], []), (sxE0, [], [], ([], .ofNat 0))),
  ((33, 11, 0), ([(5, .ofNat 0)], [], []), (sxE0, [], [], ([], .ofNat 0)))]
theorem sxvI286 : (sx_exec sxRT [sxI64, sxI282, sxI223] [] sxhI286 78 0 sxI286.2.2.1 (sx_argl 0 sxI286.2.2.2.1) [] [] sxjI286).isSome = true := by decide +kernel
theorem sxmI286 {PF : Nat → List Int → List (Nat → Int) → Prop} {l : Launch} : sx_met PF sxRT sxMy sxMc sxML sxMr sxTK l sxI286 := by
  obtain ⟨its2, hk⟩ := Option.isSome_iff_exists.mp sxvI286
  exact sx_met_of (h := sxhI286) sxTK_ok (sxTK2 sxksX9_ok) sxt_X9_readsWithin sxFW_ok (sx_cons (sxmI64) (sx_cons (sxmI282) (sx_cons (sxmI223) sx_nil))) (fun L h => by cases h) rfl (by decide +kernel) (by decide) rfl ⟨rfl, rfl, rfl, rfl⟩ hk
def sxI287 : sxI := (232, (47, 1124), ([(.ofNat 0, .ofNat 0), (.ofNat 0, .ofNat 0), (.ofNat 0, .ofNat 400)], [4, 1], 0, [], [], [((0, 0), (0, .ofNat 2), (2, 1, .ofNat 0)), ((0, 1), (0, .ofNat 5), (0, 2, .ofNat 0))], []), [(2, 0, .ofNat 0), (0, 1, .ofNat 0)], [(1, 2, 6), (4, 3, 5), (5, 0, 400)], [(([(.ofNat 0, .ofNat 400)], [], 0, [], [], [((0, 0), (0, .ofNat 2), (2, 1, .ofNat 0)), ((0, 1), (0, .ofNat 5), (0, 3, .ofNat 0))], []), some (0, 0, .ofNat 0)), (([(.ofNat 0, .ofNat 400)], [], 0, [], [], [((0, 0), (0, .ofNat 2), (2, 1, .ofNat 0)), ((0, 1), (0, .ofNat 5), (0, 3, .ofNat 0))], []), some (0, 0, .ofNat 1))])
def sxhI287 : sxH := (sxk_X9_readsFact, sxgX9, sxpX9, sxcX9, (sxkiX9, sxklX9, sxksX9), (4, sxI287.2.2.2.2.1, sxI287.2.2.2.2.2, 1), (3, 2, 0), (47, 1124))
def sxjI287 : List sxJ := [((6, 10, 0), ([(0, .ofNat 0)], [1, 2], []), (sxE0, [], [], ([], .ofNat 0))),
  ((53, 10, 1), ([(0, .ofNat 0), (2, .ofNat 0)], [0, 1], []), (sxE0, [], [], ([], .ofNat 0))),
  ((60, 11, 0), ([(5, .ofNat 0)], [], []), (sxE0, [], [], ([], .ofNat 0))),
  ((68, 10, 2), ([(0, .ofNat 0), (6, .ofNat 0)], [], []), (sxE0, [], [], ([], .ofNat 0))),
  ((118, 10, 3), ([(0, .ofNat 0), (5, .ofNat 0)], [1], []), (sxE0, [], [], ([], .ofNat 0))),
  ((122, 10, 1), ([(0, .ofNat 0), (9, .ofNat 0)], [0, 1], []), (sxE0, [], [], ([], .ofNat 0))),
  ((141, 11, 0), ([(10, .ofNat 0)], [], []), (sxE0, [], [], ([], .ofNat 0))),
  ((130, 10, 4), ([(0, .ofNat 0), (7, .ofNat 0)], [0, 1], []), (sxE0, [], [], ([], .ofNat 0))),
  ((141, 11, 1), ([(10, .ofNat 0)], [], []), (sxE0, [], [], ([], .ofNat 0))),
  ((141, 11, 0), ([(10, .ofNat 0)], [], []), (sxE0, [], [], ([], .ofNat 0))),
  ((100, 10, 5), ([(0, .ofNat 0), (0, .ofNat 3)], [1], []), (sxE0, [], [], ([], .ofNat 0))),
  ((103, 11, 0), ([(5, .ofNat 0)], [], []), (sxE0, [], [], ([], .ofNat 0))),
  ((82, 10, 5), ([(0, .ofNat 0), (0, .ofNat 0)], [1], []), (sxE0, [], [], ([], .ofNat 0))),
  ((85, 11, 0), ([(5, .ofNat 0)], [], []), (sxE0, [], [], ([], .ofNat 0))),
  ((37, 10, 6), ([(0, .ofNat 0), (3, .ofNat 0), (1, .ofNat 1), (2, .ofNat 0)], [0, 1], []), (sxE0, [], [], ([], .ofNat 0))),
  ((51, 11, 0), ([(5, .ofNat 0)], [], []), (sxE0, [], [], ([], .ofNat 0))),
  ((51, 11, 1), ([(5, .ofNat 0)], [], []), (sxE0, [], [], ([], .ofNat 0))),
  ((37, 10, 7), ([(0, .ofNat 0), (3, .ofNat 0), (1, .ofNat 1), (2, .ofNat 0)], [0, 1], []), (sxE0, [], [], ([], .ofNat 0))),
  ((51, 11, 0), ([(4, .ofNat 0)], [], []), (sxE0, [], [], ([], .ofNat 0))),
  ((51, 11, 1), ([(4, .ofNat 0)], [], []), (sxE0, [], [], ([], .ofNat 0)))]
theorem sxvI287 : (sx_exec sxRT [sxI77, sxI231, sxI236, sxI64, sxI223, sxI78, sxI285, sxI286] [] sxhI287 164 0 sxI287.2.2.1 (sx_argl 0 sxI287.2.2.2.1) [] [] sxjI287).isSome = true := by decide +kernel
theorem sxmI287 {PF : Nat → List Int → List (Nat → Int) → Prop} {l : Launch} : sx_met PF sxRT sxMy sxMc sxML sxMr sxTK l sxI287 := by
  obtain ⟨its2, hk⟩ := Option.isSome_iff_exists.mp sxvI287
  exact sx_met_of (h := sxhI287) sxTK_ok (sxTK2 sxksX9_ok) sxt_X9_readsFact sxFW_ok (sx_cons (sxmI77) (sx_cons (sxmI231) (sx_cons (sxmI236) (sx_cons (sxmI64) (sx_cons (sxmI223) (sx_cons (sxmI78) (sx_cons (sxmI285) (sx_cons (sxmI286) sx_nil)))))))) (fun L h => by cases h) rfl (by decide +kernel) (by decide) rfl ⟨rfl, rfl, rfl, rfl⟩ hk
