def sxI175 : sxI := (205, (2, 40), ([(.ofNat 0, .ofNat 0), (.ofNat 0, .ofNat 0), (.ofNat 1, .ofNat 7)], [26], 0, [], [], [], []), [(2, 0, .ofNat 0), (0, 1, .ofNat 0), (0, 2, .ofNat 0)], [], [(([(.negSucc 0, .ofNat 6)], [], 0, [], [], [], []), some (0, 3, .ofNat 0))])
def sxhI175 : sxH := (sxk_X5_bedOf, sxgX5, sxpX5, sxcX5, (sxkiX5, sxklX5, sxksX5), (4, sxI175.2.2.2.2.1, sxI175.2.2.2.2.2, 0), (3, 1, 0), (2, 40))
def sxjI175 : List sxJ := [((2, 0, 0), ([(0, .ofNat 0)], [], []), (([(.ofNat 0, .ofNat 7)], [], 0, [], [], [], []), [(3, (0, 3, .ofNat 0)), (0, (2, 0, .ofNat 0)), (1, (0, 1, .ofNat 0)), (2, (0, 2, .ofNat 0))], [], ([(3, .negSucc 0)], .ofNat 7))),
  ((26, 11, 0), ([(0, .negSucc 0)], [], []), (sxE0, [], [], ([], .ofNat 0))),
  ((2, 2, 0), ([(3, .ofNat 1)], [], []), (sxE0, [], [], ([], .ofNat 0))),
  ((18, 11, 0), ([(3, .ofNat 0)], [], []), (sxE0, [], [], ([], .ofNat 0)))]
theorem sxvI175 : (sx_exec sxRT [] [] sxhI175 88 0 sxI175.2.2.1 (sx_argl 0 sxI175.2.2.2.1) [] [] sxjI175).isSome = true := by decide +kernel
theorem sxmI175 {PF : Nat → List Int → List (Nat → Int) → Prop} {l : Launch} : sx_met PF sxRT sxMy sxMc sxML sxMr sxTK l sxI175 := by
  obtain ⟨its2, hk⟩ := Option.isSome_iff_exists.mp sxvI175
  exact sx_met_of (h := sxhI175) sxTK_ok (sxTK2 sxksX5_ok) sxt_X5_bedOf sxFW_ok sx_nil (fun L h => by cases h) rfl (by decide +kernel) (by decide) rfl ⟨rfl, rfl, rfl, rfl⟩ hk
def sxI176 : sxI := (205, (2, 40), ([(.ofNat 0, .ofNat 0), (.ofNat 0, .ofNat 1), (.ofNat 1, .ofNat 7)], [26], 0, [], [], [], []), [(2, 0, .ofNat 0), (0, 1, .ofNat 0), (0, 2, .ofNat 0)], [], [(([(.negSucc 0, .ofNat 6)], [], 0, [], [], [], []), some (0, 3, .ofNat 0))])
def sxhI176 : sxH := (sxk_X5_bedOf, sxgX5, sxpX5, sxcX5, (sxkiX5, sxklX5, sxksX5), (4, sxI176.2.2.2.2.1, sxI176.2.2.2.2.2, 0), (3, 1, 0), (2, 40))
def sxjI176 : List sxJ := [((2, 0, 0), ([(0, .ofNat 0)], [], []), (([(.ofNat 0, .ofNat 7)], [], 0, [], [], [], []), [(3, (0, 3, .ofNat 0)), (0, (2, 0, .ofNat 0)), (1, (0, 1, .ofNat 0)), (2, (0, 2, .ofNat 0))], [], ([(3, .negSucc 0)], .ofNat 7))),
  ((26, 11, 0), ([(0, .negSucc 0)], [], []), (sxE0, [], [], ([], .ofNat 0))),
  ((2, 2, 0), ([(3, .ofNat 1)], [], []), (sxE0, [], [], ([], .ofNat 0))),
  ((18, 11, 0), ([(3, .ofNat 0)], [], []), (sxE0, [], [], ([], .ofNat 0)))]
theorem sxvI176 : (sx_exec sxRT [] [] sxhI176 88 0 sxI176.2.2.1 (sx_argl 0 sxI176.2.2.2.1) [] [] sxjI176).isSome = true := by decide +kernel
theorem sxmI176 {PF : Nat → List Int → List (Nat → Int) → Prop} {l : Launch} : sx_met PF sxRT sxMy sxMc sxML sxMr sxTK l sxI176 := by
  obtain ⟨its2, hk⟩ := Option.isSome_iff_exists.mp sxvI176
  exact sx_met_of (h := sxhI176) sxTK_ok (sxTK2 sxksX5_ok) sxt_X5_bedOf sxFW_ok sx_nil (fun L h => by cases h) rfl (by decide +kernel) (by decide) rfl ⟨rfl, rfl, rfl, rfl⟩ hk
def sxI177 : sxI := (205, (2, 40), ([(.ofNat 0, .ofNat 0), (.ofNat 0, .ofNat 6), (.ofNat 1, .ofNat 7)], [26], 0, [], [], [], []), [(2, 0, .ofNat 0), (0, 1, .ofNat 0), (0, 2, .ofNat 0)], [], [(([(.negSucc 0, .ofNat 6)], [], 0, [], [], [], []), some (0, 3, .ofNat 0))])
def sxhI177 : sxH := (sxk_X5_bedOf, sxgX5, sxpX5, sxcX5, (sxkiX5, sxklX5, sxksX5), (4, sxI177.2.2.2.2.1, sxI177.2.2.2.2.2, 0), (3, 1, 0), (2, 40))
def sxjI177 : List sxJ := [((2, 0, 0), ([(0, .ofNat 0)], [], []), (([(.ofNat 0, .ofNat 7)], [], 0, [], [], [], []), [(3, (0, 3, .ofNat 0)), (0, (2, 0, .ofNat 0)), (1, (0, 1, .ofNat 0)), (2, (0, 2, .ofNat 0))], [], ([(3, .negSucc 0)], .ofNat 7))),
  ((26, 11, 0), ([(0, .negSucc 0)], [], []), (sxE0, [], [], ([], .ofNat 0))),
  ((2, 2, 0), ([(3, .ofNat 1)], [], []), (sxE0, [], [], ([], .ofNat 0))),
  ((18, 11, 0), ([(3, .ofNat 0)], [], []), (sxE0, [], [], ([], .ofNat 0)))]
theorem sxvI177 : (sx_exec sxRT [] [] sxhI177 88 0 sxI177.2.2.1 (sx_argl 0 sxI177.2.2.2.1) [] [] sxjI177).isSome = true := by decide +kernel
theorem sxmI177 {PF : Nat → List Int → List (Nat → Int) → Prop} {l : Launch} : sx_met PF sxRT sxMy sxMc sxML sxMr sxTK l sxI177 := by
  obtain ⟨its2, hk⟩ := Option.isSome_iff_exists.mp sxvI177
  exact sx_met_of (h := sxhI177) sxTK_ok (sxTK2 sxksX5_ok) sxt_X5_bedOf sxFW_ok sx_nil (fun L h => by cases h) rfl (by decide +kernel) (by decide) rfl ⟨rfl, rfl, rfl, rfl⟩ hk
def sxI178 : sxI := (53, (4, 88), ([(.ofNat 0, .ofNat 0), (.negSucc 2147483647, .ofNat 2147483647)], [0], 0, [], [], [], []), [(2, 0, .ofNat 0), (0, 1, .ofNat 0)], [], [(([(.negSucc 2147483647, .ofNat 2147483647)], [], 0, [], [], [], []), some (0, 2, .ofNat 0))])
def sxhI178 : sxH := (sxk_X11_right, sxgX11, sxpX11, sxcX11, (sxkiX11, sxklX11, sxksX11), (3, sxI178.2.2.2.2.1, sxI178.2.2.2.2.2, 0), (2, 1, 0), (4, 88))
def sxjI178 : List sxJ := [((23, 11, 0), ([(0, .negSucc 0)], [], []), (sxE0, [], [], ([], .ofNat 0))),
  ((16, 10, 0), ([(0, .ofNat 0), (1, .ofNat 0), (0, .ofNat 0), (0, .ofNat 2)], [], []), (sxE0, [], [], ([], .ofNat 0))),
  ((23, 11, 0), ([(0, .negSucc 0)], [], []), (sxE0, [], [], ([], .ofNat 0))),
  ((19, 7, 0), ([], [], []), (sxE0, [], [], ([(1, .ofNat 1), (0, .negSucc 0)], .ofNat 0))),
  ((19, 7, 0), ([], [], []), (sxE0, [], [], ([(0, .ofNat 1), (1, .negSucc 0)], .ofNat 2))),
  ((51, 0, 0), ([(0, .ofNat 0)], [], []), (([(.ofNat 0, .ofNat 7)], [], 0, [], [], [((0, 2), (0, .ofNat 0), (0, 2, .ofNat 0)), ((0, 1), (0, .ofNat 0), (2, 2, .ofNat 0)), ((0, 0), (0, .ofNat 4), (2, 1, .ofNat 0))], []), [(2, (0, 3, .ofNat 0)), (0, (2, 0, .ofNat 0)), (1, (0, 1, .ofNat 0))], [], ([(3, .negSucc 0)], .ofNat 7))),
  ((120, 11, 0), ([(0, .negSucc 1)], [], []), (sxE0, [], [], ([], .ofNat 0))),
  ((51, 2, 0), ([(3, .ofNat 1)], [], []), (sxE0, [], [], ([], .ofNat 0))),
  ((108, 10, 3), ([(0, .ofNat 0), (3, .ofNat 0), (4, .ofNat 0)], [3], []), (sxE0, [], [], ([], .ofNat 0))),
  ((111, 11, 0), ([(6, .ofNat 0)], [], []), (sxE0, [], [], ([], .ofNat 0))),
  ((111, 11, 0), ([(3, .ofNat 0)], [], []), (sxE0, [], [], ([], .ofNat 0))),
  ((45, 10, 4), ([(0, .ofNat 0), (3, .ofNat 0)], [3], []), (sxE0, [], [], ([], .ofNat 0))),
  ((48, 11, 0), ([(4, .ofNat 0)], [], []), (sxE0, [], [], ([], .ofNat 0)))]
theorem sxvI178 : (sx_exec sxRT [sxI1, sxI175, sxI176, sxI177, sxI45] [] sxhI178 159 0 sxI178.2.2.1 (sx_argl 0 sxI178.2.2.2.1) [] [] sxjI178).isSome = true := by decide +kernel
theorem sxmI178 {PF : Nat → List Int → List (Nat → Int) → Prop} {l : Launch} : sx_met PF sxRT sxMy sxMc sxML sxMr sxTK l sxI178 := by
  obtain ⟨its2, hk⟩ := Option.isSome_iff_exists.mp sxvI178
  exact sx_met_of (h := sxhI178) sxTK_ok (sxTK2 sxksX11_ok) sxt_X11_right sxFW_ok (sx_cons (sxmI1) (sx_cons (sxmI175) (sx_cons (sxmI176) (sx_cons (sxmI177) (sx_cons (sxmI45) sx_nil))))) (fun L h => by cases h) rfl (by decide +kernel) (by decide) rfl ⟨rfl, rfl, rfl, rfl⟩ hk
def sxI179 : sxI := (54, (4, 140), ([(.ofNat 0, .ofNat 0), (.negSucc 2147483647, .ofNat 2147483647), (.negSucc 2147483647, .ofNat 2147483647)], [0], 0, [], [], [], []), [(2, 0, .ofNat 0), (0, 1, .ofNat 0), (0, 2, .ofNat 0)], [], [(([(.negSucc 0, .ofNat 127)], [], 0, [], [], [], []), some (0, 3, .ofNat 0))])
def sxhI179 : sxH := (sxk_X11_ring, sxgX11, sxpX11, sxcX11, (sxkiX11, sxklX11, sxksX11), (4, sxI179.2.2.2.2.1, sxI179.2.2.2.2.2, 0), (3, 1, 0), (4, 140))
def sxjI179 : List sxJ := [((2, 10, 0), ([(0, .ofNat 0), (1, .ofNat 0)], [0], []), (sxE0, [], [], ([], .ofNat 0))),
  ((18, 11, 0), ([(0, .negSucc 0)], [], []), (sxE0, [], [], ([], .ofNat 0))),
  ((5, 7, 0), ([], [], []), (sxE0, [], [], ([(1, .ofNat 1)], .ofNat 0))),
  ((5, 7, 0), ([], [], []), (sxE0, [], [], ([(1, .negSucc 0)], .ofNat 6))),
  ((11, 10, 1), ([(0, .ofNat 0), (2, .ofNat 0), (0, .ofNat 0), (0, .ofNat 1)], [], []), (sxE0, [], [], ([], .ofNat 0))),
  ((18, 11, 0), ([(0, .negSucc 0)], [], []), (sxE0, [], [], ([], .ofNat 0))),
  ((14, 7, 0), ([], [], []), (sxE0, [], [], ([(2, .ofNat 1), (0, .negSucc 0)], .ofNat 0))),
  ((14, 7, 0), ([], [], []), (sxE0, [], [], ([(0, .ofNat 1), (2, .negSucc 0)], .ofNat 1))),
  ((27, 10, 2), ([(0, .ofNat 0), (1, .ofNat 0)], [2], []), (sxE0, [], [], ([], .ofNat 0))),
  ((43, 11, 0), ([(3, .ofNat 0)], [], []), (sxE0, [], [], ([], .ofNat 0))),
  ((36, 10, 3), ([(0, .ofNat 0), (3, .ofNat 0)], [], []), (sxE0, [], [], ([], .ofNat 0))),
  ((43, 11, 0), ([(4, .ofNat 0)], [], []), (sxE0, [], [], ([], .ofNat 0)))]
theorem sxvI179 : (sx_exec sxRT [sxI0, sxI1, sxI44, sxI13] [] sxhI179 91 0 sxI179.2.2.1 (sx_argl 0 sxI179.2.2.2.1) [] [] sxjI179).isSome = true := by decide +kernel
theorem sxmI179 {PF : Nat → List Int → List (Nat → Int) → Prop} {l : Launch} : sx_met PF sxRT sxMy sxMc sxML sxMr sxTK l sxI179 := by
  obtain ⟨its2, hk⟩ := Option.isSome_iff_exists.mp sxvI179
  exact sx_met_of (h := sxhI179) sxTK_ok (sxTK2 sxksX11_ok) sxt_X11_ring sxFW_ok (sx_cons (sxmI0) (sx_cons (sxmI1) (sx_cons (sxmI44) (sx_cons (sxmI13) sx_nil)))) (fun L h => by cases h) rfl (by decide +kernel) (by decide) rfl ⟨rfl, rfl, rfl, rfl⟩ hk
def sxI180 : sxI := (57, (8, 220), ([(.ofNat 0, .ofNat 0), (.negSucc 2147483647, .ofNat 2147483647)], [0], 0, [], [], [], []), [(2, 0, .ofNat 0), (0, 1, .ofNat 0)], [(26, 4, 5), (27, 0, 7), (28, 0, 7), (29, 0, 7), (30, 0, 7), (34, 0, 12), (35, 0, 64)], [(([(.negSucc 2147483647, .ofNat 2147483647)], [], 0, [], [], [], []), some (0, 2, .ofNat 0))])
def sxhI180 : sxH := (sxk_X11_ruled, sxgX11, sxpX11, sxcX11, (sxkiX11, sxklX11, sxksX11), (5, sxI180.2.2.2.2.1, sxI180.2.2.2.2.2, 0), (2, 1, 0), (8, 220))
def sxjI180 : List sxJ := [((24, 11, 0), ([(0, .negSucc 2)], [], []), (sxE0, [], [], ([], .ofNat 0))),
  ((16, 10, 0), ([(0, .ofNat 0), (1, .ofNat 0), (0, .ofNat 0), (0, .ofNat 1)], [], []), (sxE0, [], [], ([], .ofNat 0))),
  ((24, 11, 0), ([(0, .negSucc 2)], [], []), (sxE0, [], [], ([], .ofNat 0))),
  ((19, 7, 0), ([], [], []), (sxE0, [], [], ([(1, .ofNat 1), (0, .negSucc 0)], .ofNat 0))),
  ((19, 7, 0), ([], [], []), (sxE0, [], [], ([(0, .ofNat 1), (1, .negSucc 0)], .ofNat 1))),
  ((33, 0, 0), ([(0, .negSucc 0), (0, .negSucc 1), (0, .ofNat 0)], [], []), (([(.negSucc 0, .ofNat 6), (.negSucc 1, .ofNat 6), (.negSucc 2147483647, .ofNat 2147483647)], [], 0, [], [], [((0, 2), (0, .ofNat 0), (0, 2, .ofNat 0)), ((0, 1), (0, .ofNat 0), (2, 2, .ofNat 0)), ((0, 0), (0, .ofNat 4), (2, 1, .ofNat 0))], []), [(4, (0, 3, .ofNat 0)), (3, (0, 4, .ofNat 0)), (2, (0, 5, .ofNat 0)), (0, (2, 0, .ofNat 0)), (1, (0, 1, .ofNat 0))], [], ([(3, .negSucc 0)], .ofNat 6))),
  ((80, 11, 0), ([(4, .ofNat 0)], [], []), (sxE0, [], [], ([], .ofNat 0))),
  ((80, 11, 0), ([(5, .ofNat 0)], [], []), (sxE0, [], [], ([], .ofNat 0))),
  ((45, 10, 1), ([(0, .ofNat 0), (3, .ofNat 0)], [0], []), (sxE0, [], [], ([], .ofNat 0))),
  ((65, 8, 3), ([], [], []), (sxE0, [], [], ([], .ofNat 0))),
  ((33, 2, 0), ([(3, .ofNat 1), (4, .ofNat 0), (7, .ofNat 0)], [], []), (sxE0, [], [], ([], .ofNat 0))),
  ((33, 2, 0), ([(3, .ofNat 1), (3, .ofNat 0), (5, .ofNat 1)], [], []), (sxE0, [], [], ([], .ofNat 0))),
  ((33, 2, 0), ([(3, .ofNat 1), (4, .ofNat 0), (5, .ofNat 0)], [], []), (sxE0, [], [], ([], .ofNat 0)))]
theorem sxvI180 : (sx_exec sxRT [sxI1, sxI117] [] sxhI180 316 0 sxI180.2.2.1 (sx_argl 0 sxI180.2.2.2.1) [] [] sxjI180).isSome = true := by decide +kernel
theorem sxmI180 {PF : Nat → List Int → List (Nat → Int) → Prop} {l : Launch} : sx_met PF sxRT sxMy sxMc sxML sxMr sxTK l sxI180 := by
  obtain ⟨its2, hk⟩ := Option.isSome_iff_exists.mp sxvI180
  exact sx_met_of (h := sxhI180) sxTK_ok (sxTK2 sxksX11_ok) sxt_X11_ruled sxFW_ok (sx_cons (sxmI1) (sx_cons (sxmI117) sx_nil)) (fun L h => by cases h) rfl (by decide +kernel) (by decide) rfl ⟨rfl, rfl, rfl, rfl⟩ hk
def sxI181 : sxI := (58, (2, 40), ([(.ofNat 0, .ofNat 0), (.negSucc 2147483647, .ofNat 2147483647)], [0], 0, [], [], [], []), [(2, 0, .ofNat 0), (0, 1, .ofNat 0)], [(11, 7, 8)], [(([(.negSucc 0, .ofNat 2147483647)], [], 0, [], [], [], []), some (0, 2, .ofNat 0))])
def sxhI181 : sxH := (sxk_X11_seed, sxgX11, sxpX11, sxcX11, (sxkiX11, sxklX11, sxksX11), (3, sxI181.2.2.2.2.1, sxI181.2.2.2.2.2, 0), (2, 1, 0), (2, 40))
def sxjI181 : List sxJ := [((23, 11, 0), ([(2, .ofNat 0)], [], []), (sxE0, [], [], ([], .ofNat 0))),
  ((5, 11, 0), ([(0, .negSucc 0)], [], []), (sxE0, [], [], ([], .ofNat 0)))]
theorem sxvI181 : (sx_exec sxRT [] [] sxhI181 66 0 sxI181.2.2.1 (sx_argl 0 sxI181.2.2.2.1) [] [] sxjI181).isSome = true := by decide +kernel
theorem sxmI181 {PF : Nat → List Int → List (Nat → Int) → Prop} {l : Launch} : sx_met PF sxRT sxMy sxMc sxML sxMr sxTK l sxI181 := by
  obtain ⟨its2, hk⟩ := Option.isSome_iff_exists.mp sxvI181
  exact sx_met_of (h := sxhI181) sxTK_ok (sxTK2 sxksX11_ok) sxt_X11_seed sxFW_ok sx_nil (fun L h => by cases h) rfl (by decide +kernel) (by decide) rfl ⟨rfl, rfl, rfl, rfl⟩ hk
def sxI182 : sxI := (205, (2, 40), ([(.ofNat 0, .ofNat 0), (.ofNat 0, .ofNat 6), (.ofNat 0, .ofNat 7)], [26], 0, [], [], [], []), [(2, 0, .ofNat 0), (0, 1, .ofNat 0), (0, 2, .ofNat 0)], [], [(([(.negSucc 0, .ofNat 6)], [], 0, [], [], [], []), some (0, 3, .ofNat 0))])
def sxhI182 : sxH := (sxk_X5_bedOf, sxgX5, sxpX5, sxcX5, (sxkiX5, sxklX5, sxksX5), (4, sxI182.2.2.2.2.1, sxI182.2.2.2.2.2, 0), (3, 1, 0), (2, 40))
def sxjI182 : List sxJ := [((2, 0, 0), ([(0, .ofNat 0)], [], []), (([(.ofNat 0, .ofNat 7)], [], 0, [], [], [], []), [(3, (0, 3, .ofNat 0)), (0, (2, 0, .ofNat 0)), (1, (0, 1, .ofNat 0)), (2, (0, 2, .ofNat 0))], [], ([(3, .negSucc 0)], .ofNat 7))),
  ((26, 11, 0), ([(0, .negSucc 0)], [], []), (sxE0, [], [], ([], .ofNat 0))),
  ((2, 2, 0), ([(3, .ofNat 1)], [], []), (sxE0, [], [], ([], .ofNat 0))),
  ((18, 11, 0), ([(3, .ofNat 0)], [], []), (sxE0, [], [], ([], .ofNat 0)))]
theorem sxvI182 : (sx_exec sxRT [] [] sxhI182 89 0 sxI182.2.2.1 (sx_argl 0 sxI182.2.2.2.1) [] [] sxjI182).isSome = true := by decide +kernel
theorem sxmI182 {PF : Nat → List Int → List (Nat → Int) → Prop} {l : Launch} : sx_met PF sxRT sxMy sxMc sxML sxMr sxTK l sxI182 := by
  obtain ⟨its2, hk⟩ := Option.isSome_iff_exists.mp sxvI182
  exact sx_met_of (h := sxhI182) sxTK_ok (sxTK2 sxksX5_ok) sxt_X5_bedOf sxFW_ok sx_nil (fun L h => by cases h) rfl (by decide +kernel) (by decide) rfl ⟨rfl, rfl, rfl, rfl⟩ hk
def sxI183 : sxI := (59, (3, 63), ([(.ofNat 0, .ofNat 0), (.negSucc 2147483647, .ofNat 2147483647), (.negSucc 2147483647, .ofNat 2147483647)], [0], 0, [], [], [], []), [(2, 0, .ofNat 0), (0, 1, .ofNat 0), (0, 2, .ofNat 0)], [], [(([(.negSucc 2147483647, .ofNat 2147483647)], [], 0, [], [], [], []), some (0, 3, .ofNat 0))])
def sxhI183 : sxH := (sxk_X11_sheet, sxgX11, sxpX11, sxcX11, (sxkiX11, sxklX11, sxksX11), (3, sxI183.2.2.2.2.1, sxI183.2.2.2.2.2, 0), (3, 1, 0), (3, 63))
def sxjI183 : List sxJ := [((2, 10, 0), ([(0, .ofNat 0), (1, .ofNat 0)], [0], []), (sxE0, [], [], ([], .ofNat 0))),
  ((9, 11, 0), ([(0, .negSucc 0)], [], []), (sxE0, [], [], ([], .ofNat 0))),
  ((5, 7, 0), ([], [], []), (sxE0, [], [], ([(1, .ofNat 1)], .ofNat 0))),
  ((5, 7, 0), ([], [], []), (sxE0, [], [], ([(1, .negSucc 0)], .ofNat 6))),
  ((85, 11, 0), ([(0, .negSucc 0)], [], []), (sxE0, [], [], ([], .ofNat 0))),
  ((85, 11, 0), ([(0, .negSucc 0)], [], []), (sxE0, [], [], ([], .ofNat 0))),
  ((48, 11, 0), ([(3, .ofNat 0)], [], []), (sxE0, [], [], ([], .ofNat 0))),
  ((61, 11, 0), ([(3, .ofNat 0)], [], []), (sxE0, [], [], ([], .ofNat 0))),
  ((80, 10, 1), ([(0, .ofNat 0), (1, .ofNat 0), (3, .ofNat 0)], [2], []), (sxE0, [], [], ([], .ofNat 0))),
  ((83, 11, 0), ([(4, .ofNat 0)], [], []), (sxE0, [], [], ([], .ofNat 0)))]
theorem sxvI183 : (sx_exec sxRT [sxI0, sxI182] [] sxhI183 97 0 sxI183.2.2.1 (sx_argl 0 sxI183.2.2.2.1) [] [] sxjI183).isSome = true := by decide +kernel
theorem sxmI183 {PF : Nat → List Int → List (Nat → Int) → Prop} {l : Launch} : sx_met PF sxRT sxMy sxMc sxML sxMr sxTK l sxI183 := by
  obtain ⟨its2, hk⟩ := Option.isSome_iff_exists.mp sxvI183
  exact sx_met_of (h := sxhI183) sxTK_ok (sxTK2 sxksX11_ok) sxt_X11_sheet sxFW_ok (sx_cons (sxmI0) (sx_cons (sxmI182) sx_nil)) (fun L h => by cases h) rfl (by decide +kernel) (by decide) rfl ⟨rfl, rfl, rfl, rfl⟩ hk
def sxI184 : sxI := (60, (4, 82), ([(.ofNat 0, .ofNat 0), (.negSucc 2147483647, .ofNat 2147483647)], [0], 0, [], [], [], []), [(2, 0, .ofNat 0), (0, 1, .ofNat 0)], [(26, 4, 5), (27, 0, 7), (28, 0, 7), (29, 0, 7), (30, 0, 7), (31, 1, 3)], [(([(.negSucc 2147483647, .ofNat 99)], [], 0, [], [], [], []), some (0, 2, .ofNat 0))])
def sxhI184 : sxH := (sxk_X11_starch, sxgX11, sxpX11, sxcX11, (sxkiX11, sxklX11, sxksX11), (3, sxI184.2.2.2.2.1, sxI184.2.2.2.2.2, 0), (2, 1, 0), (4, 82))
def sxjI184 : List sxJ := [((2, 10, 0), ([(0, .ofNat 0), (1, .ofNat 0)], [0], []), (sxE0, [], [], ([], .ofNat 0))),
  ((22, 11, 0), ([(0, .negSucc 0)], [], []), (sxE0, [], [], ([], .ofNat 0))),
  ((5, 7, 0), ([], [], []), (sxE0, [], [], ([(1, .ofNat 1)], .ofNat 0))),
  ((5, 7, 0), ([], [], []), (sxE0, [], [], ([(1, .negSucc 0)], .ofNat 6))),
  ((34, 10, 1), ([(0, .ofNat 0)], [3, 4], []), (sxE0, [], [], ([], .ofNat 0))),
  ((91, 11, 0), ([(4, .ofNat 0)], [], []), (sxE0, [], [], ([], .ofNat 0))),
  ((91, 11, 0), ([(0, .ofNat 99)], [], []), (sxE0, [], [], ([], .ofNat 0))),
  ((22, 11, 0), ([(0, .negSucc 0)], [], []), (sxE0, [], [], ([], .ofNat 0)))]
theorem sxvI184 : (sx_exec sxRT [sxI0, sxI39] [] sxhI184 114 0 sxI184.2.2.1 (sx_argl 0 sxI184.2.2.2.1) [] [] sxjI184).isSome = true := by decide +kernel
theorem sxmI184 {PF : Nat → List Int → List (Nat → Int) → Prop} {l : Launch} : sx_met PF sxRT sxMy sxMc sxML sxMr sxTK l sxI184 := by
  obtain ⟨its2, hk⟩ := Option.isSome_iff_exists.mp sxvI184
  exact sx_met_of (h := sxhI184) sxTK_ok (sxTK2 sxksX11_ok) sxt_X11_starch sxFW_ok (sx_cons (sxmI0) (sx_cons (sxmI39) sx_nil)) (fun L h => by cases h) rfl (by decide +kernel) (by decide) rfl ⟨rfl, rfl, rfl, rfl⟩ hk
def sxI185 : sxI := (61, (4, 82), ([(.ofNat 0, .ofNat 0), (.negSucc 2147483647, .ofNat 2147483647), (.negSucc 2147483647, .ofNat 2147483647)], [0], 0, [], [], [], []), [(2, 0, .ofNat 0), (0, 1, .ofNat 0), (0, 2, .ofNat 0)], [(26, 4, 5), (27, 0, 7), (28, 0, 7), (29, 0, 7), (30, 0, 7), (31, 1, 3)], [(([(.negSucc 0, .ofNat 6)], [], 0, [], [], [], []), some (0, 3, .ofNat 0))])
def sxhI185 : sxH := (sxk_X11_swap, sxgX11, sxpX11, sxcX11, (sxkiX11, sxklX11, sxksX11), (3, sxI185.2.2.2.2.1, sxI185.2.2.2.2.2, 0), (3, 1, 0), (4, 82))
def sxjI185 : List sxJ := [((2, 10, 0), ([(0, .ofNat 0), (1, .ofNat 0)], [0], []), (sxE0, [], [], ([], .ofNat 0))),
  ((22, 11, 0), ([(0, .negSucc 0)], [], []), (sxE0, [], [], ([], .ofNat 0))),
  ((5, 7, 0), ([], [], []), (sxE0, [], [], ([(1, .ofNat 1)], .ofNat 0))),
  ((5, 7, 0), ([], [], []), (sxE0, [], [], ([(1, .negSucc 0)], .ofNat 6))),
  ((10, 10, 0), ([(0, .ofNat 0), (2, .ofNat 0)], [0], []), (sxE0, [], [], ([], .ofNat 0))),
  ((22, 11, 0), ([(0, .negSucc 0)], [], []), (sxE0, [], [], ([], .ofNat 0))),
  ((13, 7, 0), ([], [], []), (sxE0, [], [], ([(2, .ofNat 1)], .ofNat 0))),
  ((13, 7, 0), ([], [], []), (sxE0, [], [], ([(2, .negSucc 0)], .ofNat 6))),
  ((34, 10, 1), ([(0, .ofNat 0)], [1, 3], []), (sxE0, [], [], ([], .ofNat 0))),
  ((46, 10, 2), ([(0, .ofNat 0), (1, .ofNat 0), (2, .ofNat 0)], [3], []), (sxE0, [], [], ([], .ofNat 0))),
  ((61, 11, 0), ([(3, .ofNat 0)], [], []), (sxE0, [], [], ([], .ofNat 0))),
  ((22, 11, 0), ([(0, .negSucc 0)], [], []), (sxE0, [], [], ([], .ofNat 0)))]
theorem sxvI185 : (sx_exec sxRT [sxI0, sxI39, sxI4] [] sxhI185 100 0 sxI185.2.2.1 (sx_argl 0 sxI185.2.2.2.1) [] [] sxjI185).isSome = true := by decide +kernel
theorem sxmI185 {PF : Nat → List Int → List (Nat → Int) → Prop} {l : Launch} : sx_met PF sxRT sxMy sxMc sxML sxMr sxTK l sxI185 := by
  obtain ⟨its2, hk⟩ := Option.isSome_iff_exists.mp sxvI185
  exact sx_met_of (h := sxhI185) sxTK_ok (sxTK2 sxksX11_ok) sxt_X11_swap sxFW_ok (sx_cons (sxmI0) (sx_cons (sxmI39) (sx_cons (sxmI4) sx_nil))) (fun L h => by cases h) rfl (by decide +kernel) (by decide) rfl ⟨rfl, rfl, rfl, rfl⟩ hk
def sxI186 : sxI := (63, (2, 40), ([(.ofNat 0, .ofNat 0)], [0], 0, [], [], [], []), [(2, 0, .ofNat 0)], [], [(([(.negSucc 1, .ofNat 6)], [], 0, [], [], [], []), some (0, 1, .ofNat 0))])
def sxhI186 : sxH := (sxk_X11_thin, sxgX11, sxpX11, sxcX11, (sxkiX11, sxklX11, sxksX11), (4, sxI186.2.2.2.2.1, sxI186.2.2.2.2.2, 0), (1, 1, 0), (2, 40))
def sxjI186 : List sxJ := [((22, 0, 0), ([(0, .ofNat 0), (0, .negSucc 0), (0, .negSucc 1)], [], []), (([(.ofNat 0, .ofNat 7), (.negSucc 0, .ofNat 2147483647), (.negSucc 1, .ofNat 6)], [], 0, [], [], [((0, 2), (0, .ofNat 0), (0, 1, .ofNat 0)), ((0, 1), (0, .ofNat 0), (2, 2, .ofNat 0)), ((0, 0), (0, .ofNat 4), (2, 1, .ofNat 0))], []), [(3, (0, 2, .ofNat 0)), (2, (0, 3, .ofNat 0)), (1, (0, 4, .ofNat 0)), (0, (2, 0, .ofNat 0))], [], ([(2, .negSucc 0)], .ofNat 7))),
  ((74, 11, 0), ([(4, .ofNat 0)], [], []), (sxE0, [], [], ([], .ofNat 0))),
  ((22, 2, 0), ([(2, .ofNat 1), (3, .ofNat 0), (4, .ofNat 0)], [], []), (sxE0, [], [], ([], .ofNat 0))),
  ((22, 2, 0), ([(2, .ofNat 1), (6, .ofNat 0), (2, .ofNat 0)], [], []), (sxE0, [], [], ([], .ofNat 0))),
  ((14, 11, 0), ([(0, .negSucc 0)], [], []), (sxE0, [], [], ([], .ofNat 0)))]
theorem sxvI186 : (sx_exec sxRT [] [] sxhI186 128 0 sxI186.2.2.1 (sx_argl 0 sxI186.2.2.2.1) [] [] sxjI186).isSome = true := by decide +kernel
theorem sxmI186 {PF : Nat → List Int → List (Nat → Int) → Prop} {l : Launch} : sx_met PF sxRT sxMy sxMc sxML sxMr sxTK l sxI186 := by
  obtain ⟨its2, hk⟩ := Option.isSome_iff_exists.mp sxvI186
  exact sx_met_of (h := sxhI186) sxTK_ok (sxTK2 sxksX11_ok) sxt_X11_thin sxFW_ok sx_nil (fun L h => by cases h) rfl (by decide +kernel) (by decide) rfl ⟨rfl, rfl, rfl, rfl⟩ hk
def sxI187 : sxI := (217, (2, 40), ([(.ofNat 0, .ofNat 0), (.ofNat 0, .ofNat 0), (.ofNat 0, .ofNat 6)], [36], 0, [], [], [], []), [(2, 0, .ofNat 0), (0, 1, .ofNat 0), (0, 2, .ofNat 0)], [(40, 0, 7)], [(([(.ofNat 0, .ofNat 1)], [], 0, [], [], [], []), some (0, 3, .ofNat 0))])
def sxhI187 : sxH := (sxk_X6_join, sxgX6, sxpX6, sxcX6, (sxkiX6, sxklX6, sxksX6), (6, sxI187.2.2.2.2.1, sxI187.2.2.2.2.2, 0), (3, 1, 0), (2, 40))
def sxjI187 : List sxJ := [((22, 0, 0), ([(0, .ofNat 0)], [], []), (([(.ofNat 0, .ofNat 7)], [], 0, [], [], [((1, 1), (1, .ofNat 0), (2, 2, .ofNat 0)), ((0, 0), (0, .ofNat 2), (2, 1, .ofNat 0))], []), [(5, (0, 5, .ofNat 0)), (4, (0, 4, .ofNat 0)), (3, (0, 3, .ofNat 0)), (0, (2, 0, .ofNat 0)), (1, (0, 1, .ofNat 0)), (2, (0, 2, .ofNat 0))], [], ([(5, .negSucc 0)], .ofNat 7))),
  ((84, 11, 0), ([(0, .ofNat 1)], [], []), (sxE0, [], [], ([], .ofNat 0))),
  ((84, 11, 0), ([(0, .ofNat 0)], [], []), (sxE0, [], [], ([], .ofNat 0))),
  ((22, 2, 0), ([(5, .ofNat 1)], [], []), (sxE0, [], [], ([], .ofNat 0))),
  ((22, 2, 0), ([(5, .ofNat 1)], [], []), (sxE0, [], [], ([], .ofNat 0)))]
theorem sxvI187 : (sx_exec sxRT [] [] sxhI187 148 0 sxI187.2.2.1 (sx_argl 0 sxI187.2.2.2.1) [] [] sxjI187).isSome = true := by decide +kernel
theorem sxmI187 {PF : Nat → List Int → List (Nat → Int) → Prop} {l : Launch} : sx_met PF sxRT sxMy sxMc sxML sxMr sxTK l sxI187 := by
  obtain ⟨its2, hk⟩ := Option.isSome_iff_exists.mp sxvI187
  exact sx_met_of (h := sxhI187) sxTK_ok (sxTK2 sxksX6_ok) sxt_X6_join sxFW_ok sx_nil (fun L h => by cases h) rfl (by decide +kernel) (by decide) rfl ⟨rfl, rfl, rfl, rfl⟩ hk
def sxI188 : sxI := (217, (2, 40), ([(.ofNat 0, .ofNat 0), (.ofNat 1, .ofNat 1), (.ofNat 0, .ofNat 6)], [36], 0, [], [], [], []), [(2, 0, .ofNat 0), (0, 1, .ofNat 0), (0, 2, .ofNat 0)], [(40, 0, 7)], [(([(.ofNat 0, .ofNat 1)], [], 0, [], [], [], []), some (0, 3, .ofNat 0))])
def sxhI188 : sxH := (sxk_X6_join, sxgX6, sxpX6, sxcX6, (sxkiX6, sxklX6, sxksX6), (6, sxI188.2.2.2.2.1, sxI188.2.2.2.2.2, 0), (3, 1, 0), (2, 40))
def sxjI188 : List sxJ := [((22, 0, 0), ([(0, .ofNat 0)], [], []), (([(.ofNat 0, .ofNat 7)], [], 0, [], [], [((1, 1), (1, .ofNat 0), (2, 2, .ofNat 0)), ((0, 0), (0, .ofNat 2), (2, 1, .ofNat 0))], []), [(5, (0, 5, .ofNat 0)), (4, (0, 4, .ofNat 0)), (3, (0, 3, .ofNat 0)), (0, (2, 0, .ofNat 0)), (1, (0, 1, .ofNat 0)), (2, (0, 2, .ofNat 0))], [], ([(5, .negSucc 0)], .ofNat 7))),
  ((84, 11, 0), ([(0, .ofNat 1)], [], []), (sxE0, [], [], ([], .ofNat 0))),
  ((84, 11, 0), ([(0, .ofNat 0)], [], []), (sxE0, [], [], ([], .ofNat 0))),
  ((22, 2, 0), ([(5, .ofNat 1)], [], []), (sxE0, [], [], ([], .ofNat 0))),
  ((22, 2, 0), ([(5, .ofNat 1)], [], []), (sxE0, [], [], ([], .ofNat 0)))]
theorem sxvI188 : (sx_exec sxRT [] [] sxhI188 148 0 sxI188.2.2.1 (sx_argl 0 sxI188.2.2.2.1) [] [] sxjI188).isSome = true := by decide +kernel
theorem sxmI188 {PF : Nat → List Int → List (Nat → Int) → Prop} {l : Launch} : sx_met PF sxRT sxMy sxMc sxML sxMr sxTK l sxI188 := by
  obtain ⟨its2, hk⟩ := Option.isSome_iff_exists.mp sxvI188
  exact sx_met_of (h := sxhI188) sxTK_ok (sxTK2 sxksX6_ok) sxt_X6_join sxFW_ok sx_nil (fun L h => by cases h) rfl (by decide +kernel) (by decide) rfl ⟨rfl, rfl, rfl, rfl⟩ hk
def sxI189 : sxI := (217, (2, 40), ([(.ofNat 0, .ofNat 0), (.ofNat 2, .ofNat 2), (.ofNat 0, .ofNat 6)], [36], 0, [], [], [], []), [(2, 0, .ofNat 0), (0, 1, .ofNat 0), (0, 2, .ofNat 0)], [(40, 0, 7)], [(([(.ofNat 0, .ofNat 1)], [], 0, [], [], [], []), some (0, 3, .ofNat 0))])
def sxhI189 : sxH := (sxk_X6_join, sxgX6, sxpX6, sxcX6, (sxkiX6, sxklX6, sxksX6), (6, sxI189.2.2.2.2.1, sxI189.2.2.2.2.2, 0), (3, 1, 0), (2, 40))
def sxjI189 : List sxJ := [((22, 0, 0), ([(0, .ofNat 0)], [], []), (([(.ofNat 0, .ofNat 7)], [], 0, [], [], [((1, 1), (1, .ofNat 0), (2, 2, .ofNat 0)), ((0, 0), (0, .ofNat 2), (2, 1, .ofNat 0))], []), [(5, (0, 5, .ofNat 0)), (4, (0, 4, .ofNat 0)), (3, (0, 3, .ofNat 0)), (0, (2, 0, .ofNat 0)), (1, (0, 1, .ofNat 0)), (2, (0, 2, .ofNat 0))], [], ([(5, .negSucc 0)], .ofNat 7))),
  ((84, 11, 0), ([(0, .ofNat 1)], [], []), (sxE0, [], [], ([], .ofNat 0))),
  ((84, 11, 0), ([(0, .ofNat 0)], [], []), (sxE0, [], [], ([], .ofNat 0))),
  ((22, 2, 0), ([(5, .ofNat 1)], [], []), (sxE0, [], [], ([], .ofNat 0))),
  ((22, 2, 0), ([(5, .ofNat 1)], [], []), (sxE0, [], [], ([], .ofNat 0)))]
theorem sxvI189 : (sx_exec sxRT [] [] sxhI189 148 0 sxI189.2.2.1 (sx_argl 0 sxI189.2.2.2.1) [] [] sxjI189).isSome = true := by decide +kernel
theorem sxmI189 {PF : Nat → List Int → List (Nat → Int) → Prop} {l : Launch} : sx_met PF sxRT sxMy sxMc sxML sxMr sxTK l sxI189 := by
  obtain ⟨its2, hk⟩ := Option.isSome_iff_exists.mp sxvI189
  exact sx_met_of (h := sxhI189) sxTK_ok (sxTK2 sxksX6_ok) sxt_X6_join sxFW_ok sx_nil (fun L h => by cases h) rfl (by decide +kernel) (by decide) rfl ⟨rfl, rfl, rfl, rfl⟩ hk
def sxI190 : sxI := (217, (2, 40), ([(.ofNat 0, .ofNat 0), (.ofNat 3, .ofNat 3), (.ofNat 0, .ofNat 6)], [36], 0, [], [], [], []), [(2, 0, .ofNat 0), (0, 1, .ofNat 0), (0, 2, .ofNat 0)], [(40, 0, 7)], [(([(.ofNat 0, .ofNat 1)], [], 0, [], [], [], []), some (0, 3, .ofNat 0))])
def sxhI190 : sxH := (sxk_X6_join, sxgX6, sxpX6, sxcX6, (sxkiX6, sxklX6, sxksX6), (6, sxI190.2.2.2.2.1, sxI190.2.2.2.2.2, 0), (3, 1, 0), (2, 40))
def sxjI190 : List sxJ := [((22, 0, 0), ([(0, .ofNat 0)], [], []), (([(.ofNat 0, .ofNat 7)], [], 0, [], [], [((1, 1), (1, .ofNat 0), (2, 2, .ofNat 0)), ((0, 0), (0, .ofNat 2), (2, 1, .ofNat 0))], []), [(5, (0, 5, .ofNat 0)), (4, (0, 4, .ofNat 0)), (3, (0, 3, .ofNat 0)), (0, (2, 0, .ofNat 0)), (1, (0, 1, .ofNat 0)), (2, (0, 2, .ofNat 0))], [], ([(5, .negSucc 0)], .ofNat 7))),
  ((84, 11, 0), ([(0, .ofNat 1)], [], []), (sxE0, [], [], ([], .ofNat 0))),
  ((84, 11, 0), ([(0, .ofNat 0)], [], []), (sxE0, [], [], ([], .ofNat 0))),
  ((22, 2, 0), ([(5, .ofNat 1)], [], []), (sxE0, [], [], ([], .ofNat 0))),
  ((22, 2, 0), ([(5, .ofNat 1)], [], []), (sxE0, [], [], ([], .ofNat 0)))]
theorem sxvI190 : (sx_exec sxRT [] [] sxhI190 148 0 sxI190.2.2.1 (sx_argl 0 sxI190.2.2.2.1) [] [] sxjI190).isSome = true := by decide +kernel
theorem sxmI190 {PF : Nat → List Int → List (Nat → Int) → Prop} {l : Launch} : sx_met PF sxRT sxMy sxMc sxML sxMr sxTK l sxI190 := by
  obtain ⟨its2, hk⟩ := Option.isSome_iff_exists.mp sxvI190
  exact sx_met_of (h := sxhI190) sxTK_ok (sxTK2 sxksX6_ok) sxt_X6_join sxFW_ok sx_nil (fun L h => by cases h) rfl (by decide +kernel) (by decide) rfl ⟨rfl, rfl, rfl, rfl⟩ hk
def sxI191 : sxI := (217, (2, 40), ([(.ofNat 0, .ofNat 0), (.ofNat 4, .ofNat 4), (.ofNat 0, .ofNat 6)], [36], 0, [], [], [], []), [(2, 0, .ofNat 0), (0, 1, .ofNat 0), (0, 2, .ofNat 0)], [(40, 0, 7)], [(([(.ofNat 0, .ofNat 1)], [], 0, [], [], [], []), some (0, 3, .ofNat 0))])
def sxhI191 : sxH := (sxk_X6_join, sxgX6, sxpX6, sxcX6, (sxkiX6, sxklX6, sxksX6), (6, sxI191.2.2.2.2.1, sxI191.2.2.2.2.2, 0), (3, 1, 0), (2, 40))
def sxjI191 : List sxJ := [((22, 0, 0), ([(0, .ofNat 0)], [], []), (([(.ofNat 0, .ofNat 7)], [], 0, [], [], [((1, 1), (1, .ofNat 0), (2, 2, .ofNat 0)), ((0, 0), (0, .ofNat 2), (2, 1, .ofNat 0))], []), [(5, (0, 5, .ofNat 0)), (4, (0, 4, .ofNat 0)), (3, (0, 3, .ofNat 0)), (0, (2, 0, .ofNat 0)), (1, (0, 1, .ofNat 0)), (2, (0, 2, .ofNat 0))], [], ([(5, .negSucc 0)], .ofNat 7))),
  ((84, 11, 0), ([(0, .ofNat 1)], [], []), (sxE0, [], [], ([], .ofNat 0))),
  ((84, 11, 0), ([(0, .ofNat 0)], [], []), (sxE0, [], [], ([], .ofNat 0))),
  ((22, 2, 0), ([(5, .ofNat 1)], [], []), (sxE0, [], [], ([], .ofNat 0))),
  ((22, 2, 0), ([(5, .ofNat 1)], [], []), (sxE0, [], [], ([], .ofNat 0)))]
theorem sxvI191 : (sx_exec sxRT [] [] sxhI191 148 0 sxI191.2.2.1 (sx_argl 0 sxI191.2.2.2.1) [] [] sxjI191).isSome = true := by decide +kernel
theorem sxmI191 {PF : Nat → List Int → List (Nat → Int) → Prop} {l : Launch} : sx_met PF sxRT sxMy sxMc sxML sxMr sxTK l sxI191 := by
  obtain ⟨its2, hk⟩ := Option.isSome_iff_exists.mp sxvI191
  exact sx_met_of (h := sxhI191) sxTK_ok (sxTK2 sxksX6_ok) sxt_X6_join sxFW_ok sx_nil (fun L h => by cases h) rfl (by decide +kernel) (by decide) rfl ⟨rfl, rfl, rfl, rfl⟩ hk
def sxI192 : sxI := (217, (2, 40), ([(.ofNat 0, .ofNat 0), (.ofNat 5, .ofNat 5), (.ofNat 0, .ofNat 6)], [36], 0, [], [], [], []), [(2, 0, .ofNat 0), (0, 1, .ofNat 0), (0, 2, .ofNat 0)], [(40, 0, 7)], [(([(.ofNat 0, .ofNat 1)], [], 0, [], [], [], []), some (0, 3, .ofNat 0))])
def sxhI192 : sxH := (sxk_X6_join, sxgX6, sxpX6, sxcX6, (sxkiX6, sxklX6, sxksX6), (6, sxI192.2.2.2.2.1, sxI192.2.2.2.2.2, 0), (3, 1, 0), (2, 40))
def sxjI192 : List sxJ := [((22, 0, 0), ([(0, .ofNat 0)], [], []), (([(.ofNat 0, .ofNat 7)], [], 0, [], [], [((1, 1), (1, .ofNat 0), (2, 2, .ofNat 0)), ((0, 0), (0, .ofNat 2), (2, 1, .ofNat 0))], []), [(5, (0, 5, .ofNat 0)), (4, (0, 4, .ofNat 0)), (3, (0, 3, .ofNat 0)), (0, (2, 0, .ofNat 0)), (1, (0, 1, .ofNat 0)), (2, (0, 2, .ofNat 0))], [], ([(5, .negSucc 0)], .ofNat 7))),
  ((84, 11, 0), ([(0, .ofNat 1)], [], []), (sxE0, [], [], ([], .ofNat 0))),
  ((84, 11, 0), ([(0, .ofNat 0)], [], []), (sxE0, [], [], ([], .ofNat 0))),
  ((22, 2, 0), ([(5, .ofNat 1)], [], []), (sxE0, [], [], ([], .ofNat 0))),
  ((22, 2, 0), ([(5, .ofNat 1)], [], []), (sxE0, [], [], ([], .ofNat 0)))]
theorem sxvI192 : (sx_exec sxRT [] [] sxhI192 148 0 sxI192.2.2.1 (sx_argl 0 sxI192.2.2.2.1) [] [] sxjI192).isSome = true := by decide +kernel
theorem sxmI192 {PF : Nat → List Int → List (Nat → Int) → Prop} {l : Launch} : sx_met PF sxRT sxMy sxMc sxML sxMr sxTK l sxI192 := by
  obtain ⟨its2, hk⟩ := Option.isSome_iff_exists.mp sxvI192
  exact sx_met_of (h := sxhI192) sxTK_ok (sxTK2 sxksX6_ok) sxt_X6_join sxFW_ok sx_nil (fun L h => by cases h) rfl (by decide +kernel) (by decide) rfl ⟨rfl, rfl, rfl, rfl⟩ hk
def sxI193 : sxI := (217, (2, 40), ([(.ofNat 0, .ofNat 0), (.ofNat 6, .ofNat 6), (.ofNat 0, .ofNat 6)], [36], 0, [], [], [], []), [(2, 0, .ofNat 0), (0, 1, .ofNat 0), (0, 2, .ofNat 0)], [(40, 0, 7)], [(([(.ofNat 0, .ofNat 1)], [], 0, [], [], [], []), some (0, 3, .ofNat 0))])
def sxhI193 : sxH := (sxk_X6_join, sxgX6, sxpX6, sxcX6, (sxkiX6, sxklX6, sxksX6), (6, sxI193.2.2.2.2.1, sxI193.2.2.2.2.2, 0), (3, 1, 0), (2, 40))
def sxjI193 : List sxJ := [((22, 0, 0), ([(0, .ofNat 0)], [], []), (([(.ofNat 0, .ofNat 7)], [], 0, [], [], [((1, 1), (1, .ofNat 0), (2, 2, .ofNat 0)), ((0, 0), (0, .ofNat 2), (2, 1, .ofNat 0))], []), [(5, (0, 5, .ofNat 0)), (4, (0, 4, .ofNat 0)), (3, (0, 3, .ofNat 0)), (0, (2, 0, .ofNat 0)), (1, (0, 1, .ofNat 0)), (2, (0, 2, .ofNat 0))], [], ([(5, .negSucc 0)], .ofNat 7))),
  ((84, 11, 0), ([(0, .ofNat 1)], [], []), (sxE0, [], [], ([], .ofNat 0))),
  ((84, 11, 0), ([(0, .ofNat 0)], [], []), (sxE0, [], [], ([], .ofNat 0))),
  ((22, 2, 0), ([(5, .ofNat 1)], [], []), (sxE0, [], [], ([], .ofNat 0))),
  ((22, 2, 0), ([(5, .ofNat 1)], [], []), (sxE0, [], [], ([], .ofNat 0)))]
theorem sxvI193 : (sx_exec sxRT [] [] sxhI193 148 0 sxI193.2.2.1 (sx_argl 0 sxI193.2.2.2.1) [] [] sxjI193).isSome = true := by decide +kernel
theorem sxmI193 {PF : Nat → List Int → List (Nat → Int) → Prop} {l : Launch} : sx_met PF sxRT sxMy sxMc sxML sxMr sxTK l sxI193 := by
  obtain ⟨its2, hk⟩ := Option.isSome_iff_exists.mp sxvI193
  exact sx_met_of (h := sxhI193) sxTK_ok (sxTK2 sxksX6_ok) sxt_X6_join sxFW_ok sx_nil (fun L h => by cases h) rfl (by decide +kernel) (by decide) rfl ⟨rfl, rfl, rfl, rfl⟩ hk
def sxI194 : sxI := (219, (2, 40), ([(.ofNat 0, .ofNat 0), (.ofNat 7, .ofNat 7), (.negSucc 2147483647, .ofNat 2147483647), (.negSucc 2147483647, .ofNat 2147483647)], [36, 20, 26], 0, [], [], [((0, 0), (0, .ofNat 3), (2, 1, .ofNat 0)), ((0, 0), (0, .ofNat 4), (2, 2, .ofNat 0))], []), [(2, 0, .ofNat 0), (0, 1, .ofNat 0), (0, 2, .ofNat 0), (0, 3, .ofNat 0)], [], [(([(.ofNat 1, .ofNat 1)], [], 0, [], [], [((0, 0), (0, .ofNat 3), (2, 1, .ofNat 0)), ((0, 0), (0, .ofNat 4), (2, 2, .ofNat 0))], []), some (0, 4, .ofNat 0))])
def sxhI194 : sxH := (sxk_X6_laysFrom, sxgX6, sxpX6, sxcX6, (sxkiX6, sxklX6, sxksX6), (6, sxI194.2.2.2.2.1, sxI194.2.2.2.2.2, 1), (4, 3, 0), (2, 40))
def sxjI194 : List sxJ := [((21, 0, 0), ([(0, .ofNat 0), (0, .ofNat 1)], [], []), (([(.ofNat 0, .ofNat 0), (.ofNat 1, .ofNat 1)], [], 0, [], [], [((0, 1), (0, .ofNat 3), (0, 4, .ofNat 0)), ((0, 0), (0, .ofNat 3), (2, 1, .ofNat 0)), ((0, 0), (0, .ofNat 4), (2, 2, .ofNat 0))], []), [(5, (0, 5, .ofNat 0)), (4, (0, 6, .ofNat 0)), (0, (2, 0, .ofNat 0)), (1, (0, 1, .ofNat 0)), (2, (0, 2, .ofNat 0)), (3, (0, 3, .ofNat 0))], [], ([(5, .negSucc 0)], .ofNat 0))),
  ((74, 11, 0), ([(6, .ofNat 0)], [], []), (sxE0, [], [], ([], .ofNat 0)))]
theorem sxvI194 : (sx_exec sxRT [] [] sxhI194 68 0 sxI194.2.2.1 (sx_argl 0 sxI194.2.2.2.1) [] [] sxjI194).isSome = true := by decide +kernel
theorem sxmI194 {PF : Nat → List Int → List (Nat → Int) → Prop} {l : Launch} : sx_met PF sxRT sxMy sxMc sxML sxMr sxTK l sxI194 := by
  obtain ⟨its2, hk⟩ := Option.isSome_iff_exists.mp sxvI194
  exact sx_met_of (h := sxhI194) sxTK_ok (sxTK2 sxksX6_ok) sxt_X6_laysFrom sxFW_ok sx_nil (fun L h => by cases h) rfl (by decide +kernel) (by decide) rfl ⟨rfl, rfl, rfl, rfl⟩ hk
def sxI195 : sxI := (218, (3, 65), ([(.ofNat 0, .ofNat 0), (.ofNat 0, .ofNat 6), (.ofNat 6, .ofNat 6), (.negSucc 2147483647, .ofNat 2147483647), (.negSucc 2147483647, .ofNat 2147483647)], [36, 20, 26], 0, [], [], [((0, 0), (0, .ofNat 3), (2, 1, .ofNat 0)), ((0, 0), (0, .ofNat 4), (2, 2, .ofNat 0))], []), [(2, 0, .ofNat 0), (0, 1, .ofNat 0), (0, 2, .ofNat 0), (0, 3, .ofNat 0), (0, 4, .ofNat 0)], [(37, 6, 7), (40, 0, 7)], [(([], [], 0, [], [], [((0, 0), (0, .ofNat 3), (2, 1, .ofNat 0)), ((0, 0), (0, .ofNat 4), (2, 2, .ofNat 0))], []), some (0, 0, .ofNat 0)), (([], [], 0, [], [], [((0, 0), (0, .ofNat 3), (2, 1, .ofNat 0)), ((0, 0), (0, .ofNat 4), (2, 2, .ofNat 0))], []), some (0, 0, .ofNat 1))])
def sxhI195 : sxH := (sxk_X6_lays, sxgX6, sxpX6, sxcX6, (sxkiX6, sxklX6, sxksX6), (8, sxI195.2.2.2.2.1, sxI195.2.2.2.2.2, 1), (5, 3, 0), (3, 65))
def sxjI195 : List sxJ := [((30, 10, 0), ([(0, .ofNat 0), (1, .ofNat 0), (8, .ofNat 0)], [2], []), (sxE0, [], [], ([], .ofNat 0))),
  ((68, 11, 0), ([], [], []), (sxE0, [], [], ([], .ofNat 0))),
  ((75, 10, 1), ([(0, .ofNat 0), (2, .ofNat 0), (9, .ofNat 0)], [0], []), (sxE0, [], [], ([], .ofNat 0))),
  ((115, 11, 0), ([], [], []), (sxE0, [], [], ([], .ofNat 0))),
  ((104, 10, 2), ([(0, .ofNat 0), (2, .ofNat 1), (13, .ofNat 0), (11, .ofNat 0)], [0, 1, 2], []), (sxE0, [], [], ([], .ofNat 0))),
  ((115, 11, 1), ([], [], []), (sxE0, [], [], ([], .ofNat 0))),
  ((30, 10, 0), ([(0, .ofNat 0), (1, .ofNat 0), (8, .ofNat 0)], [2], []), (sxE0, [], [], ([], .ofNat 0))),
  ((68, 11, 0), ([], [], []), (sxE0, [], [], ([], .ofNat 0))),
  ((75, 10, 1), ([(0, .ofNat 0), (2, .ofNat 0), (9, .ofNat 0)], [0], []), (sxE0, [], [], ([], .ofNat 0))),
  ((115, 11, 0), ([], [], []), (sxE0, [], [], ([], .ofNat 0))),
  ((104, 10, 2), ([(0, .ofNat 0), (2, .ofNat 1), (15, .ofNat 0), (13, .ofNat 0)], [0, 1, 2], []), (sxE0, [], [], ([], .ofNat 0))),
  ((115, 11, 1), ([], [], []), (sxE0, [], [], ([], .ofNat 0))),
  ((68, 11, 0), ([], [], []), (sxE0, [], [], ([], .ofNat 0)))]
theorem sxvI195 : (sx_exec sxRT [sxI182, sxI193, sxI194] [] sxhI195 180 0 sxI195.2.2.1 (sx_argl 0 sxI195.2.2.2.1) [] [] sxjI195).isSome = true := by decide +kernel
theorem sxmI195 {PF : Nat → List Int → List (Nat → Int) → Prop} {l : Launch} : sx_met PF sxRT sxMy sxMc sxML sxMr sxTK l sxI195 := by
  obtain ⟨its2, hk⟩ := Option.isSome_iff_exists.mp sxvI195
  exact sx_met_of (h := sxhI195) sxTK_ok (sxTK2 sxksX6_ok) sxt_X6_lays sxFW_ok (sx_cons (sxmI182) (sx_cons (sxmI193) (sx_cons (sxmI194) sx_nil))) (fun L h => by cases h) rfl (by decide +kernel) (by decide) rfl ⟨rfl, rfl, rfl, rfl⟩ hk
