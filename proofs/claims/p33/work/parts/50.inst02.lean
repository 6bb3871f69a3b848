def sxI35 : sxI := (21, (4, 82), ([(.ofNat 0, .ofNat 0), (.negSucc 2147483647, .ofNat 2147483647)], [0], 0, [], [], [], []), [(2, 0, .ofNat 0), (0, 1, .ofNat 0)], [(11, 5, 8), (16, 0, 10), (17, 0, 10), (18, 0, 10), (20, 0, 5), (21, 0, 7), (22, 0, 7), (23, 0, 8), (24, 0, 8), (25, 0, 8), (26, 4, 5), (27, 0, 7), (28, 0, 7), (29, 0, 7), (30, 0, 7), (31, 2, 3)], [(([(.negSucc 2147483647, .ofNat 2147483647)], [], 0, [], [], [], []), some (0, 2, .ofNat 0))])
def sxhI35 : sxH := (sxk_X11_back, sxgX11, sxpX11, sxcX11, (sxkiX11, sxklX11, sxksX11), (2, sxI35.2.2.2.2.1, sxI35.2.2.2.2.2, 0), (2, 1, 0), (4, 82))
def sxjI35 : List sxJ := [((3, 10, 0), ([(0, .ofNat 0), (1, .ofNat 0), (0, .ofNat 0), (0, .ofNat 3)], [], []), (sxE0, [], [], ([], .ofNat 0))),
  ((22, 11, 0), ([(0, .negSucc 0)], [], []), (sxE0, [], [], ([], .ofNat 0))),
  ((6, 7, 0), ([], [], []), (sxE0, [], [], ([(1, .ofNat 1), (0, .negSucc 0)], .ofNat 0))),
  ((6, 7, 0), ([], [], []), (sxE0, [], [], ([(0, .ofNat 1), (1, .negSucc 0)], .ofNat 3))),
  ((14, 4, 1), ([], [], []), (sxE0, [], [], ([], .ofNat 0))),
  ((33, 10, 1), ([(0, .ofNat 0)], [3, 2], []), (sxE0, [], [], ([], .ofNat 0))),
  ((40, 10, 2), ([(0, .ofNat 0)], [4], []), (sxE0, [], [], ([], .ofNat 0))),
  ((53, 11, 0), ([(3, .ofNat 0)], [], []), (sxE0, [], [], ([], .ofNat 0))),
  ((22, 11, 0), ([(0, .negSucc 0)], [], []), (sxE0, [], [], ([], .ofNat 0))),
  ((33, 10, 3), ([(0, .ofNat 0)], [3, 2], []), (sxE0, [], [], ([], .ofNat 0))),
  ((40, 10, 2), ([(0, .ofNat 0)], [4], []), (sxE0, [], [], ([], .ofNat 0))),
  ((53, 11, 0), ([(3, .ofNat 0)], [], []), (sxE0, [], [], ([], .ofNat 0))),
  ((22, 11, 0), ([(0, .negSucc 0)], [], []), (sxE0, [], [], ([], .ofNat 0))),
  ((33, 10, 4), ([(0, .ofNat 0)], [3, 2], []), (sxE0, [], [], ([], .ofNat 0))),
  ((40, 10, 2), ([(0, .ofNat 0)], [4], []), (sxE0, [], [], ([], .ofNat 0))),
  ((53, 11, 0), ([(3, .ofNat 0)], [], []), (sxE0, [], [], ([], .ofNat 0))),
  ((22, 11, 0), ([(0, .negSucc 0)], [], []), (sxE0, [], [], ([], .ofNat 0))),
  ((33, 10, 5), ([(0, .ofNat 0)], [3, 2], []), (sxE0, [], [], ([], .ofNat 0))),
  ((40, 10, 2), ([(0, .ofNat 0)], [4], []), (sxE0, [], [], ([], .ofNat 0))),
  ((53, 11, 0), ([(3, .ofNat 0)], [], []), (sxE0, [], [], ([], .ofNat 0))),
  ((22, 11, 0), ([(0, .negSucc 0)], [], []), (sxE0, [], [], ([], .ofNat 0)))]
theorem sxvI35 : (sx_exec sxRT [sxI1, sxI30, sxI31, sxI32, sxI33, sxI34] [] sxhI35 163 0 sxI35.2.2.1 (sx_argl 0 sxI35.2.2.2.1) [] [] sxjI35).isSome = true := by decide +kernel
theorem sxmI35 {PF : Nat → List Int → List (Nat → Int) → Prop} {l : Launch} : sx_met PF sxRT sxMy sxMc sxML sxMr sxTK l sxI35 := by
  obtain ⟨its2, hk⟩ := Option.isSome_iff_exists.mp sxvI35
  exact sx_met_of (h := sxhI35) sxTK_ok (sxTK2 sxksX11_ok) sxt_X11_back sxFW_ok (sx_cons (sxmI1) (sx_cons (sxmI30) (sx_cons (sxmI31) (sx_cons (sxmI32) (sx_cons (sxmI33) (sx_cons (sxmI34) sx_nil)))))) (fun L h => by cases h) rfl (by decide +kernel) (by decide) rfl ⟨rfl, rfl, rfl, rfl⟩ hk
def sxI36 : sxI := (24, (8, 221), ([(.ofNat 0, .ofNat 0), (.negSucc 2147483647, .ofNat 2147483647), (.negSucc 2147483647, .ofNat 2147483647)], [0], 0, [], [], [], []), [(2, 0, .ofNat 0), (0, 1, .ofNat 0), (0, 2, .ofNat 0)], [(26, 4, 5), (27, 0, 7), (28, 0, 7), (29, 0, 7), (30, 0, 7), (34, 0, 12), (35, 0, 64)], [(([(.negSucc 1, .ofNat 2147483647)], [], 0, [], [], [], []), some (0, 3, .ofNat 0))])
def sxhI36 : sxH := (sxk_X11_carves, sxgX11, sxpX11, sxcX11, (sxkiX11, sxklX11, sxksX11), (7, sxI36.2.2.2.2.1, sxI36.2.2.2.2.2, 0), (3, 1, 0), (8, 221))
def sxjI36 : List sxJ := [((33, 11, 0), ([(0, .negSucc 0)], [], []), (sxE0, [], [], ([], .ofNat 0))),
  ((17, 10, 0), ([(0, .ofNat 0), (1, .ofNat 0), (0, .ofNat 1), (0, .ofNat 60)], [], []), (sxE0, [], [], ([], .ofNat 0))),
  ((33, 11, 0), ([(0, .negSucc 0)], [], []), (sxE0, [], [], ([], .ofNat 0))),
  ((20, 7, 0), ([], [], []), (sxE0, [], [], ([(1, .ofNat 1), (0, .negSucc 0)], .negSucc 0))),
  ((20, 7, 0), ([], [], []), (sxE0, [], [], ([(0, .ofNat 1), (1, .negSucc 0)], .ofNat 60))),
  ((26, 10, 0), ([(0, .ofNat 0), (2, .ofNat 0), (0, .ofNat 0), (0, .ofNat 1)], [], []), (sxE0, [], [], ([], .ofNat 0))),
  ((33, 11, 0), ([(0, .negSucc 0)], [], []), (sxE0, [], [], ([], .ofNat 0))),
  ((29, 7, 0), ([], [], []), (sxE0, [], [], ([(2, .ofNat 1), (0, .negSucc 0)], .ofNat 0))),
  ((29, 7, 0), ([], [], []), (sxE0, [], [], ([(0, .ofNat 1), (2, .negSucc 0)], .ofNat 1))),
  ((37, 10, 1), ([(0, .ofNat 0), (1, .ofNat 0), (0, .negSucc 0)], [0], []), (sxE0, [], [], ([], .ofNat 0))),
  ((49, 0, 0), ([(0, .ofNat 0), (0, .negSucc 0), (0, .negSucc 1)], [], []), (([(.ofNat 0, .ofNat 7), (.negSucc 0, .ofNat 2147483647), (.negSucc 1, .ofNat 6)], [], 0, [], [], [((0, 2), (0, .ofNat 0), (0, 3, .ofNat 0)), ((0, 1), (0, .ofNat 0), (2, 2, .ofNat 0)), ((0, 0), (0, .ofNat 4), (2, 1, .ofNat 0))], []), [(5, (0, 4, .ofNat 0)), (4, (0, 5, .ofNat 0)), (3, (0, 6, .ofNat 0)), (0, (2, 0, .ofNat 0)), (1, (0, 1, .ofNat 0)), (2, (0, 2, .ofNat 0))], [], ([(4, .negSucc 0)], .ofNat 7))),
  ((124, 11, 0), ([(0, .ofNat 0)], [], []), (sxE0, [], [], ([], .ofNat 0))),
  ((124, 11, 0), ([(5, .ofNat 0)], [], []), (sxE0, [], [], ([], .ofNat 0))),
  ((124, 11, 0), ([(6, .ofNat 0)], [], []), (sxE0, [], [], ([], .ofNat 0))),
  ((49, 2, 0), ([(4, .ofNat 1), (5, .ofNat 0), (6, .ofNat 0)], [], []), (sxE0, [], [], ([], .ofNat 0))),
  ((49, 2, 0), ([(4, .ofNat 1), (10, .ofNat 0), (4, .ofNat 0)], [], []), (sxE0, [], [], ([], .ofNat 0)))]
theorem sxvI36 : (sx_exec sxRT [sxI1, sxI27] [] sxhI36 182 0 sxI36.2.2.1 (sx_argl 0 sxI36.2.2.2.1) [] [] sxjI36).isSome = true := by decide +kernel
theorem sxmI36 {PF : Nat → List Int → List (Nat → Int) → Prop} {l : Launch} : sx_met PF sxRT sxMy sxMc sxML sxMr sxTK l sxI36 := by
  obtain ⟨its2, hk⟩ := Option.isSome_iff_exists.mp sxvI36
  exact sx_met_of (h := sxhI36) sxTK_ok (sxTK2 sxksX11_ok) sxt_X11_carves sxFW_ok (sx_cons (sxmI1) (sx_cons (sxmI27) sx_nil)) (fun L h => by cases h) rfl (by decide +kernel) (by decide) rfl ⟨rfl, rfl, rfl, rfl⟩ hk
def sxI37 : sxI := (204, (2, 40), ([(.ofNat 0, .ofNat 0), (.ofNat 0, .ofNat 7)], [26], 0, [], [], [], []), [(2, 0, .ofNat 0), (0, 1, .ofNat 0)], [], [(([(.negSucc 2147483647, .ofNat 2147483647)], [], 0, [], [], [], []), some (0, 2, .ofNat 0))])
def sxhI37 : sxH := (sxk_X5_allWas, sxgX5, sxpX5, sxcX5, (sxkiX5, sxklX5, sxksX5), (4, sxI37.2.2.2.2.1, sxI37.2.2.2.2.2, 0), (2, 1, 0), (2, 40))
def sxjI37 : List sxJ := [((4, 0, 0), ([(0, .ofNat 0), (0, .ofNat 0)], [], []), (([(.ofNat 0, .ofNat 7), (.negSucc 2147483647, .ofNat 2147483647)], [], 0, [], [], [], []), [(3, (0, 2, .ofNat 0)), (2, (0, 3, .ofNat 0)), (0, (2, 0, .ofNat 0)), (1, (0, 1, .ofNat 0))], [], ([(2, .negSucc 0)], .ofNat 7))),
  ((25, 11, 0), ([(3, .ofNat 0)], [], []), (sxE0, [], [], ([], .ofNat 0))),
  ((4, 2, 0), ([(2, .ofNat 1), (5, .ofNat 0)], [], []), (sxE0, [], [], ([], .ofNat 0)))]
theorem sxvI37 : (sx_exec sxRT [] [] sxhI37 85 0 sxI37.2.2.1 (sx_argl 0 sxI37.2.2.2.1) [] [] sxjI37).isSome = true := by decide +kernel
theorem sxmI37 {PF : Nat → List Int → List (Nat → Int) → Prop} {l : Launch} : sx_met PF sxRT sxMy sxMc sxML sxMr sxTK l sxI37 := by
  obtain ⟨its2, hk⟩ := Option.isSome_iff_exists.mp sxvI37
  exact sx_met_of (h := sxhI37) sxTK_ok (sxTK2 sxksX5_ok) sxt_X5_allWas sxFW_ok sx_nil (fun L h => by cases h) rfl (by decide +kernel) (by decide) rfl ⟨rfl, rfl, rfl, rfl⟩ hk
def sxI38 : sxI := (26, (4, 85), ([(.ofNat 0, .ofNat 0), (.negSucc 2147483647, .ofNat 2147483647)], [0], 0, [], [], [], []), [(2, 0, .ofNat 0), (0, 1, .ofNat 0)], [], [(([(.negSucc 2147483647, .ofNat 2147483647)], [], 0, [], [], [], []), some (0, 2, .ofNat 0))])
def sxhI38 : sxH := (sxk_X11_count, sxgX11, sxpX11, sxcX11, (sxkiX11, sxklX11, sxksX11), (2, sxI38.2.2.2.2.1, sxI38.2.2.2.2.2, 0), (2, 1, 0), (4, 85))
def sxjI38 : List sxJ := [((233, 11, 0), ([(0, .negSucc 0)], [], []), (sxE0, [], [], ([], .ofNat 0))),
  ((233, 11, 0), ([(0, .negSucc 0)], [], []), (sxE0, [], [], ([], .ofNat 0))),
  ((82, 11, 0), ([(2, .ofNat 0)], [], []), (sxE0, [], [], ([], .ofNat 0))),
  ((93, 11, 0), ([(2, .ofNat 0)], [], []), (sxE0, [], [], ([], .ofNat 0))),
  ((104, 11, 0), ([(2, .ofNat 0)], [], []), (sxE0, [], [], ([], .ofNat 0))),
  ((115, 11, 0), ([(2, .ofNat 0)], [], []), (sxE0, [], [], ([], .ofNat 0))),
  ((120, 11, 0), ([(2, .ofNat 0)], [], []), (sxE0, [], [], ([], .ofNat 0))),
  ((128, 11, 0), ([(2, .ofNat 0)], [], []), (sxE0, [], [], ([], .ofNat 0))),
  ((139, 11, 0), ([(2, .ofNat 0)], [], []), (sxE0, [], [], ([], .ofNat 0))),
  ((154, 10, 0), ([(0, .ofNat 0)], [2, 3], []), (sxE0, [], [], ([], .ofNat 0))),
  ((157, 11, 0), ([(2, .ofNat 0)], [], []), (sxE0, [], [], ([], .ofNat 0))),
  ((175, 10, 1), ([(0, .ofNat 0), (2, .ofNat 0)], [2], []), (sxE0, [], [], ([], .ofNat 0))),
  ((178, 11, 0), ([(3, .ofNat 0)], [], []), (sxE0, [], [], ([], .ofNat 0))),
  ((196, 10, 2), ([(0, .ofNat 0), (2, .ofNat 0)], [2], []), (sxE0, [], [], ([], .ofNat 0))),
  ((199, 11, 0), ([(3, .ofNat 0)], [], []), (sxE0, [], [], ([], .ofNat 0))),
  ((207, 11, 0), ([(2, .ofNat 0)], [], []), (sxE0, [], [], ([], .ofNat 0))),
  ((215, 11, 0), ([(2, .ofNat 0)], [], []), (sxE0, [], [], ([], .ofNat 0))),
  ((223, 11, 0), ([(2, .ofNat 0)], [], []), (sxE0, [], [], ([], .ofNat 0))),
  ((231, 11, 0), ([(2, .ofNat 0)], [], []), (sxE0, [], [], ([], .ofNat 0)))]
theorem sxvI38 : (sx_exec sxRT [sxI9, sxI12, sxI37] [] sxhI38 149 0 sxI38.2.2.1 (sx_argl 0 sxI38.2.2.2.1) [] [] sxjI38).isSome = true := by decide +kernel
theorem sxmI38 {PF : Nat → List Int → List (Nat → Int) → Prop} {l : Launch} : sx_met PF sxRT sxMy sxMc sxML sxMr sxTK l sxI38 := by
  obtain ⟨its2, hk⟩ := Option.isSome_iff_exists.mp sxvI38
  exact sx_met_of (h := sxhI38) sxTK_ok (sxTK2 sxksX11_ok) sxt_X11_count sxFW_ok (sx_cons (sxmI9) (sx_cons (sxmI12) (sx_cons (sxmI37) sx_nil))) (fun L h => by cases h) rfl (by decide +kernel) (by decide) rfl ⟨rfl, rfl, rfl, rfl⟩ hk
def sxI39 : sxI := (224, (3, 61), ([(.ofNat 0, .ofNat 0)], [31, 26], 0, [], [], [], []), [(2, 0, .ofNat 0), (2, 1, .ofNat 0)], [(26, 4, 5), (27, 0, 7), (28, 0, 7), (29, 0, 7), (30, 0, 7), (31, 1, 3)], [(([], [], 0, [], [], [], []), none)])
def sxhI39 : sxH := (sxk_X7_keep, sxgX7, sxpX7, sxcX7, (sxkiX7, sxklX7, sxksX7), (2, sxI39.2.2.2.2.1, sxI39.2.2.2.2.2, 4), (1, 2, 0), (3, 61))
def sxjI39 : List sxJ := [((23, 10, 0), ([(0, .ofNat 0)], [3, 1], []), (sxE0, [], [], ([], .ofNat 0))),
  ((41, 11, 0), ([], [], []), (sxE0, [], [], ([], .ofNat 0))),
  ((41, 11, 0), ([], [], []), (sxE0, [], [], ([], .ofNat 0)))]
theorem sxvI39 : (sx_exec sxRT [sxI2] [] sxhI39 79 0 sxI39.2.2.1 (sx_argl 0 sxI39.2.2.2.1) [] [] sxjI39).isSome = true := by decide +kernel
theorem sxmI39 {PF : Nat → List Int → List (Nat → Int) → Prop} {l : Launch} : sx_met PF sxRT sxMy sxMc sxML sxMr sxTK l sxI39 := by
  obtain ⟨its2, hk⟩ := Option.isSome_iff_exists.mp sxvI39
  exact sx_met_of (h := sxhI39) sxTK_ok (sxTK2 sxksX7_ok) sxt_X7_keep sxFW_ok (sx_cons (sxmI2) sx_nil) (fun L h => by cases h) rfl (by decide +kernel) (by decide) rfl ⟨rfl, rfl, rfl, rfl⟩ hk
def sxI40 : sxI := (27, (4, 82), ([(.ofNat 0, .ofNat 0), (.negSucc 2147483647, .ofNat 2147483647)], [0], 0, [], [], [], []), [(2, 0, .ofNat 0), (0, 1, .ofNat 0)], [(26, 4, 5), (27, 0, 7), (28, 0, 7), (29, 0, 7), (30, 0, 7), (31, 1, 3)], [(([(.negSucc 2147483647, .ofNat 2147483647)], [], 0, [], [], [], []), some (0, 2, .ofNat 0))])
def sxhI40 : sxH := (sxk_X11_darn, sxgX11, sxpX11, sxcX11, (sxkiX11, sxklX11, sxksX11), (3, sxI40.2.2.2.2.1, sxI40.2.2.2.2.2, 0), (2, 1, 0), (4, 82))
def sxjI40 : List sxJ := [((2, 10, 0), ([(0, .ofNat 0), (1, .ofNat 0)], [0], []), (sxE0, [], [], ([], .ofNat 0))),
  ((24, 11, 0), ([(0, .negSucc 0)], [], []), (sxE0, [], [], ([], .ofNat 0))),
  ((5, 7, 0), ([], [], []), (sxE0, [], [], ([(1, .ofNat 1)], .ofNat 0))),
  ((5, 7, 0), ([], [], []), (sxE0, [], [], ([(1, .negSucc 0)], .ofNat 6))),
  ((36, 10, 1), ([(0, .ofNat 0)], [4, 2], []), (sxE0, [], [], ([], .ofNat 0))),
  ((66, 11, 0), ([(3, .ofNat 0)], [], []), (sxE0, [], [], ([], .ofNat 0))),
  ((24, 11, 0), ([(0, .negSucc 0)], [], []), (sxE0, [], [], ([], .ofNat 0)))]
theorem sxvI40 : (sx_exec sxRT [sxI0, sxI39] [] sxhI40 95 0 sxI40.2.2.1 (sx_argl 0 sxI40.2.2.2.1) [] [] sxjI40).isSome = true := by decide +kernel
theorem sxmI40 {PF : Nat → List Int → List (Nat → Int) → Prop} {l : Launch} : sx_met PF sxRT sxMy sxMc sxML sxMr sxTK l sxI40 := by
  obtain ⟨its2, hk⟩ := Option.isSome_iff_exists.mp sxvI40
  exact sx_met_of (h := sxhI40) sxTK_ok (sxTK2 sxksX11_ok) sxt_X11_darn sxFW_ok (sx_cons (sxmI0) (sx_cons (sxmI39) sx_nil)) (fun L h => by cases h) rfl (by decide +kernel) (by decide) rfl ⟨rfl, rfl, rfl, rfl⟩ hk
def sxI41 : sxI := (29, (2, 40), ([(.ofNat 0, .ofNat 0), (.negSucc 2147483647, .ofNat 2147483647)], [0], 0, [], [], [], []), [(2, 0, .ofNat 0), (0, 1, .ofNat 0)], [(1, 1, 2)], [(([(.negSucc 0, .ofNat 400)], [], 0, [], [], [], []), some (0, 2, .ofNat 0))])
def sxhI41 : sxH := (sxk_X11_end, sxgX11, sxpX11, sxcX11, (sxkiX11, sxklX11, sxksX11), (2, sxI41.2.2.2.2.1, sxI41.2.2.2.2.2, 0), (2, 1, 0), (2, 40))
def sxjI41 : List sxJ := [((16, 11, 0), ([(0, .negSucc 0)], [], []), (sxE0, [], [], ([], .ofNat 0))),
  ((26, 11, 0), ([(1, .ofNat 0)], [], []), (sxE0, [], [], ([], .ofNat 0))),
  ((16, 11, 0), ([(0, .negSucc 0)], [], []), (sxE0, [], [], ([], .ofNat 0)))]
theorem sxvI41 : (sx_exec sxRT [] [] sxhI41 70 0 sxI41.2.2.1 (sx_argl 0 sxI41.2.2.2.1) [] [] sxjI41).isSome = true := by decide +kernel
theorem sxmI41 {PF : Nat → List Int → List (Nat → Int) → Prop} {l : Launch} : sx_met PF sxRT sxMy sxMc sxML sxMr sxTK l sxI41 := by
  obtain ⟨its2, hk⟩ := Option.isSome_iff_exists.mp sxvI41
  exact sx_met_of (h := sxhI41) sxTK_ok (sxTK2 sxksX11_ok) sxt_X11_end sxFW_ok sx_nil (fun L h => by cases h) rfl (by decide +kernel) (by decide) rfl ⟨rfl, rfl, rfl, rfl⟩ hk
def sxI42 : sxI := (213, (2, 40), ([(.ofNat 0, .ofNat 0), (.ofNat 0, .ofNat 0)], [26], 0, [], [], [], []), [(2, 0, .ofNat 0), (0, 1, .ofNat 0)], [], [(([(.ofNat 0, .ofNat 127)], [], 0, [], [], [], []), some (0, 2, .ofNat 0))])
def sxhI42 : sxH := (sxk_X5_ringBits, sxgX5, sxpX5, sxcX5, (sxkiX5, sxklX5, sxksX5), (5, sxI42.2.2.2.2.1, sxI42.2.2.2.2.2, 0), (2, 1, 0), (2, 40))
def sxjI42 : List sxJ := [((7, 0, 0), ([(0, .ofNat 0), (1, .ofNat 0), (0, .ofNat 0)], [], []), (([(.ofNat 0, .ofNat 7), (.ofNat 0, .ofNat 6), (.ofNat 0, .ofNat 127)], [], 0, [([(3, .ofNat 1), (1, .negSucc 0)], .ofNat 0)], [], [], []), [(4, (0, 2, .ofNat 0)), (3, (0, 3, .ofNat 0)), (2, (0, 4, .ofNat 0)), (0, (2, 0, .ofNat 0)), (1, (0, 1, .ofNat 0))], [], ([(2, .negSucc 0)], .ofNat 7))),
  ((42, 11, 0), ([(4, .ofNat 0)], [], []), (sxE0, [], [], ([], .ofNat 0))),
  ((42, 11, 0), ([(4, .ofNat 0)], [], []), (sxE0, [], [], ([], .ofNat 0))),
  ((7, 2, 0), ([(2, .ofNat 1), (9, .ofNat 0), (8, .ofNat 0)], [], []), (sxE0, [], [], ([], .ofNat 0)))]
theorem sxvI42 : (sx_exec sxRT [] [] sxhI42 117 0 sxI42.2.2.1 (sx_argl 0 sxI42.2.2.2.1) [] [] sxjI42).isSome = true := by decide +kernel
theorem sxmI42 {PF : Nat → List Int → List (Nat → Int) → Prop} {l : Launch} : sx_met PF sxRT sxMy sxMc sxML sxMr sxTK l sxI42 := by
  obtain ⟨its2, hk⟩ := Option.isSome_iff_exists.mp sxvI42
  exact sx_met_of (h := sxhI42) sxTK_ok (sxTK2 sxksX5_ok) sxt_X5_ringBits sxFW_ok sx_nil (fun L h => by cases h) rfl (by decide +kernel) (by decide) rfl ⟨rfl, rfl, rfl, rfl⟩ hk
def sxI43 : sxI := (213, (2, 40), ([(.ofNat 0, .ofNat 0), (.ofNat 0, .ofNat 1)], [26], 0, [], [], [], []), [(2, 0, .ofNat 0), (0, 1, .ofNat 0)], [], [(([(.ofNat 0, .ofNat 127)], [], 0, [], [], [], []), some (0, 2, .ofNat 0))])
def sxhI43 : sxH := (sxk_X5_ringBits, sxgX5, sxpX5, sxcX5, (sxkiX5, sxklX5, sxksX5), (5, sxI43.2.2.2.2.1, sxI43.2.2.2.2.2, 0), (2, 1, 0), (2, 40))
def sxjI43 : List sxJ := [((7, 0, 0), ([(0, .ofNat 0), (1, .ofNat 0), (0, .ofNat 0)], [], []), (([(.ofNat 0, .ofNat 7), (.ofNat 0, .ofNat 6), (.ofNat 0, .ofNat 127)], [], 0, [], [], [], []), [(4, (0, 2, .ofNat 0)), (3, (0, 3, .ofNat 0)), (2, (0, 4, .ofNat 0)), (0, (2, 0, .ofNat 0)), (1, (0, 1, .ofNat 0))], [], ([(2, .negSucc 0)], .ofNat 7))),
  ((42, 11, 0), ([(4, .ofNat 0)], [], []), (sxE0, [], [], ([], .ofNat 0))),
  ((42, 11, 0), ([(4, .ofNat 0)], [], []), (sxE0, [], [], ([], .ofNat 0))),
  ((7, 2, 0), ([(2, .ofNat 1), (9, .ofNat 0), (8, .ofNat 0)], [], []), (sxE0, [], [], ([], .ofNat 0)))]
theorem sxvI43 : (sx_exec sxRT [] [] sxhI43 117 0 sxI43.2.2.1 (sx_argl 0 sxI43.2.2.2.1) [] [] sxjI43).isSome = true := by decide +kernel
theorem sxmI43 {PF : Nat → List Int → List (Nat → Int) → Prop} {l : Launch} : sx_met PF sxRT sxMy sxMc sxML sxMr sxTK l sxI43 := by
  obtain ⟨its2, hk⟩ := Option.isSome_iff_exists.mp sxvI43
  exact sx_met_of (h := sxhI43) sxTK_ok (sxTK2 sxksX5_ok) sxt_X5_ringBits sxFW_ok sx_nil (fun L h => by cases h) rfl (by decide +kernel) (by decide) rfl ⟨rfl, rfl, rfl, rfl⟩ hk
def sxI44 : sxI := (213, (2, 40), ([(.ofNat 0, .ofNat 0), (.ofNat 0, .ofNat 6)], [26], 0, [], [], [], []), [(2, 0, .ofNat 0), (0, 1, .ofNat 0)], [], [(([(.ofNat 0, .ofNat 127)], [], 0, [], [], [], []), some (0, 2, .ofNat 0))])
def sxhI44 : sxH := (sxk_X5_ringBits, sxgX5, sxpX5, sxcX5, (sxkiX5, sxklX5, sxksX5), (5, sxI44.2.2.2.2.1, sxI44.2.2.2.2.2, 0), (2, 1, 0), (2, 40))
def sxjI44 : List sxJ := [((7, 0, 0), ([(0, .ofNat 0), (1, .ofNat 0), (0, .ofNat 0)], [], []), (([(.ofNat 0, .ofNat 7), (.ofNat 0, .ofNat 6), (.ofNat 0, .ofNat 127)], [], 0, [], [], [], []), [(4, (0, 2, .ofNat 0)), (3, (0, 3, .ofNat 0)), (2, (0, 4, .ofNat 0)), (0, (2, 0, .ofNat 0)), (1, (0, 1, .ofNat 0))], [], ([(2, .negSucc 0)], .ofNat 7))),
  ((42, 11, 0), ([(4, .ofNat 0)], [], []), (sxE0, [], [], ([], .ofNat 0))),
  ((42, 11, 0), ([(4, .ofNat 0)], [], []), (sxE0, [], [], ([], .ofNat 0))),
  ((7, 2, 0), ([(2, .ofNat 1), (9, .ofNat 0), (8, .ofNat 0)], [], []), (sxE0, [], [], ([], .ofNat 0)))]
theorem sxvI44 : (sx_exec sxRT [] [] sxhI44 117 0 sxI44.2.2.1 (sx_argl 0 sxI44.2.2.2.1) [] [] sxjI44).isSome = true := by decide +kernel
theorem sxmI44 {PF : Nat → List Int → List (Nat → Int) → Prop} {l : Launch} : sx_met PF sxRT sxMy sxMc sxML sxMr sxTK l sxI44 := by
  obtain ⟨its2, hk⟩ := Option.isSome_iff_exists.mp sxvI44
  exact sx_met_of (h := sxhI44) sxTK_ok (sxTK2 sxksX5_ok) sxt_X5_ringBits sxFW_ok sx_nil (fun L h => by cases h) rfl (by decide +kernel) (by decide) rfl ⟨rfl, rfl, rfl, rfl⟩ hk
def sxI45 : sxI := (207, (3, 64), ([(.ofNat 0, .ofNat 0), (.ofNat 0, .ofNat 7)], [26], 0, [], [], [], []), [(2, 0, .ofNat 0), (0, 1, .ofNat 0)], [], [(([(.negSucc 2147483647, .ofNat 2147483647)], [], 0, [], [], [], []), some (0, 2, .ofNat 0))])
def sxhI45 : sxH := (sxk_X5_changesHome, sxgX5, sxpX5, sxcX5, (sxkiX5, sxklX5, sxksX5), (5, sxI45.2.2.2.2.1, sxI45.2.2.2.2.2, 0), (2, 1, 0), (3, 64))
def sxjI45 : List sxJ := [((7, 0, 0), ([(0, .ofNat 0), (0, .ofNat 0), (0, .ofNat 0)], [], []), (([(.ofNat 0, .ofNat 7), (.negSucc 2147483647, .ofNat 2147483647), (.ofNat 0, .ofNat 127)], [], 0, [], [], [], []), [(4, (0, 2, .ofNat 0)), (3, (0, 3, .ofNat 0)), (2, (0, 4, .ofNat 0)), (0, (2, 0, .ofNat 0)), (1, (0, 1, .ofNat 0))], [], ([(2, .negSucc 0)], .ofNat 7))),
  ((43, 11, 0), ([(5, .ofNat 0)], [], []), (sxE0, [], [], ([], .ofNat 0))),
  ((7, 2, 0), ([(2, .ofNat 1), (3, .ofNat 0), (4, .ofNat 0)], [], []), (sxE0, [], [], ([], .ofNat 0))),
  ((26, 10, 2), ([(0, .ofNat 0), (2, .ofNat 0)], [0], []), (sxE0, [], [], ([], .ofNat 0))),
  ((34, 8, 4), ([], [], []), (sxE0, [], [], ([], .ofNat 0))),
  ((7, 2, 0), ([(2, .ofNat 1), (9, .ofNat 0), (8, .ofNat 0)], [], []), (sxE0, [], [], ([], .ofNat 0)))]
theorem sxvI45 : (sx_exec sxRT [sxI42, sxI43, sxI44] [] sxhI45 238 0 sxI45.2.2.1 (sx_argl 0 sxI45.2.2.2.1) [] [] sxjI45).isSome = true := by decide +kernel
theorem sxmI45 {PF : Nat → List Int → List (Nat → Int) → Prop} {l : Launch} : sx_met PF sxRT sxMy sxMc sxML sxMr sxTK l sxI45 := by
  obtain ⟨its2, hk⟩ := Option.isSome_iff_exists.mp sxvI45
  exact sx_met_of (h := sxhI45) sxTK_ok (sxTK2 sxksX5_ok) sxt_X5_changesHome sxFW_ok (sx_cons (sxmI42) (sx_cons (sxmI43) (sx_cons (sxmI44) sx_nil))) (fun L h => by cases h) rfl (by decide +kernel) (by decide) rfl ⟨rfl, rfl, rfl, rfl⟩ hk
def sxI46 : sxI := (30, (4, 88), ([(.ofNat 0, .ofNat 0)], [0], 0, [], [], [], []), [(2, 0, .ofNat 0)], [], [(([(.negSucc 0, .ofNat 1)], [], 0, [], [], [], []), some (0, 1, .ofNat 0))])
def sxhI46 : sxH := (sxk_X11_even, sxgX11, sxpX11, sxcX11, (sxkiX11, sxklX11, sxksX11), (1, sxI46.2.2.2.2.1, sxI46.2.2.2.2.2, 0), (1, 1, 0), (4, 88))
def sxjI46 : List sxJ := [((32, 10, 0), ([(0, .ofNat 0), (2, .ofNat 0)], [3], []), (sxE0, [], [], ([], .ofNat 0))),
  ((45, 11, 0), ([(0, .ofNat 0)], [], []), (sxE0, [], [], ([], .ofNat 0))),
  ((45, 11, 0), ([(0, .ofNat 1)], [], []), (sxE0, [], [], ([], .ofNat 0))),
  ((14, 11, 0), ([(0, .negSucc 0)], [], []), (sxE0, [], [], ([], .ofNat 0)))]
theorem sxvI46 : (sx_exec sxRT [sxI45] [] sxhI46 77 0 sxI46.2.2.1 (sx_argl 0 sxI46.2.2.2.1) [] [] sxjI46).isSome = true := by decide +kernel
theorem sxmI46 {PF : Nat → List Int → List (Nat → Int) → Prop} {l : Launch} : sx_met PF sxRT sxMy sxMc sxML sxMr sxTK l sxI46 := by
  obtain ⟨its2, hk⟩ := Option.isSome_iff_exists.mp sxvI46
  exact sx_met_of (h := sxhI46) sxTK_ok (sxTK2 sxksX11_ok) sxt_X11_even sxFW_ok (sx_cons (sxmI45) sx_nil) (fun L h => by cases h) rfl (by decide +kernel) (by decide) rfl ⟨rfl, rfl, rfl, rfl⟩ hk
def sxI47 : sxI := (11, (2, 40), ([(.ofNat 0, .ofNat 0)], [1], 0, [], [], [], []), [(2, 0, .ofNat 0)], [], [(([], [], 0, [], [], [], []), some (0, 0, .ofNat 0)), (([], [], 0, [], [], [], []), some (0, 0, .ofNat 1))])
def sxhI47 : sxH := (sxk_X10_hasRoom, sxgX10, sxpX10, sxcX10, (sxkiX10, sxklX10, sxksX10), (1, sxI47.2.2.2.2.1, sxI47.2.2.2.2.2, 1), (1, 1, 0), (2, 40))
def sxjI47 : List sxJ := [((18, 11, 0), ([], [], []), (sxE0, [], [], ([], .ofNat 0))),
  ((18, 11, 1), ([], [], []), (sxE0, [], [], ([], .ofNat 0)))]
theorem sxvI47 : (sx_exec sxRT [] [] sxhI47 63 0 sxI47.2.2.1 (sx_argl 0 sxI47.2.2.2.1) [] [] sxjI47).isSome = true := by decide +kernel
theorem sxmI47 {PF : Nat → List Int → List (Nat → Int) → Prop} {l : Launch} : sx_met PF sxRT sxMy sxMc sxML sxMr sxTK l sxI47 := by
  obtain ⟨its2, hk⟩ := Option.isSome_iff_exists.mp sxvI47
  exact sx_met_of (h := sxhI47) sxTK_ok (sxTK2 sxksX10_ok) sxt_X10_hasRoom sxFW_ok sx_nil (fun L h => by cases h) rfl (by decide +kernel) (by decide) rfl ⟨rfl, rfl, rfl, rfl⟩ hk
def sxI48 : sxI := (16, (2, 40), ([(.ofNat 0, .ofNat 0), (.negSucc 2147483647, .ofNat 2147483647)], [1], 0, [], [], [], []), [(2, 0, .ofNat 0), (0, 1, .ofNat 0)], [(1, 1, 2), (2, 0, 400)], [(([], [], 0, [], [], [], []), none)])
def sxhI48 : sxH := (sxk_X10_put, sxgX10, sxpX10, sxcX10, (sxkiX10, sxklX10, sxksX10), (3, sxI48.2.2.2.2.1, sxI48.2.2.2.2.2, 4), (2, 1, 0), (2, 40))
def sxjI48 : List sxJ := [((3, 0, 0), ([(0, .ofNat 24)], [], []), (([(.negSucc 7, .ofNat 24)], [], 0, [], [], [], []), [(2, (0, 2, .ofNat 0)), (0, (2, 0, .ofNat 0)), (1, (0, 1, .ofNat 0))], [], ([(2, .ofNat 1)], .ofNat 8))),
  ((46, 11, 0), ([], [], []), (sxE0, [], [], ([], .ofNat 0))),
  ((3, 2, 0), ([(2, .negSucc 7)], [], []), (sxE0, [], [], ([], .ofNat 0))),
  ((3, 2, 0), ([(2, .negSucc 7)], [], []), (sxE0, [], [], ([], .ofNat 0)))]
theorem sxvI48 : (sx_exec sxRT [] [] sxhI48 123 0 sxI48.2.2.1 (sx_argl 0 sxI48.2.2.2.1) [] [] sxjI48).isSome = true := by decide +kernel
theorem sxmI48 {PF : Nat → List Int → List (Nat → Int) → Prop} {l : Launch} : sx_met PF sxRT sxMy sxMc sxML sxMr sxTK l sxI48 := by
  obtain ⟨its2, hk⟩ := Option.isSome_iff_exists.mp sxvI48
  exact sx_met_of (h := sxhI48) sxTK_ok (sxTK2 sxksX10_ok) sxt_X10_put sxFW_ok sx_nil (fun L h => by cases h) rfl (by decide +kernel) (by decide) rfl ⟨rfl, rfl, rfl, rfl⟩ hk
def sxI49 : sxI := (31, (3, 62), ([(.ofNat 0, .ofNat 0), (.negSucc 2147483647, .ofNat 2147483647), (.negSucc 2147483647, .ofNat 2147483647), (.negSucc 2147483647, .ofNat 2147483647), (.negSucc 2147483647, .ofNat 2147483647), (.negSucc 2147483647, .ofNat 2147483647)], [0], 0, [], [], [], []), [(2, 0, .ofNat 0), (0, 1, .ofNat 0), (0, 2, .ofNat 0), (0, 3, .ofNat 0), (0, 4, .ofNat 0), (0, 5, .ofNat 0)], [(1, 1, 2), (2, 0, 400)], [(([(.negSucc 0, .ofNat 400)], [], 0, [], [], [], []), some (0, 6, .ofNat 0))])
def sxhI49 : sxH := (sxk_X11_feed, sxgX11, sxpX11, sxcX11, (sxkiX11, sxklX11, sxksX11), (6, sxI49.2.2.2.2.1, sxI49.2.2.2.2.2, 0), (6, 1, 0), (3, 62))
def sxjI49 : List sxJ := [((4, 10, 0), ([(0, .ofNat 0)], [1], []), (sxE0, [], [], ([], .ofNat 0))),
  ((11, 11, 0), ([(0, .negSucc 0)], [], []), (sxE0, [], [], ([], .ofNat 0))),
  ((17, 10, 1), ([(0, .ofNat 0), (1, .ofNat 0)], [1], []), (sxE0, [], [], ([], .ofNat 0))),
  ((25, 10, 1), ([(0, .ofNat 0), (2, .ofNat 0)], [1], []), (sxE0, [], [], ([], .ofNat 0))),
  ((33, 10, 1), ([(0, .ofNat 0), (3, .ofNat 0)], [1], []), (sxE0, [], [], ([], .ofNat 0))),
  ((42, 10, 1), ([(0, .ofNat 0), (4, .ofNat 0)], [1], []), (sxE0, [], [], ([], .ofNat 0))),
  ((51, 10, 1), ([(0, .ofNat 0), (5, .ofNat 0)], [1], []), (sxE0, [], [], ([], .ofNat 0))),
  ((61, 11, 0), ([(6, .ofNat 0)], [], []), (sxE0, [], [], ([], .ofNat 0)))]
theorem sxvI49 : (sx_exec sxRT [sxI47, sxI48] [] sxhI49 89 0 sxI49.2.2.1 (sx_argl 0 sxI49.2.2.2.1) [] [] sxjI49).isSome = true := by decide +kernel
theorem sxmI49 {PF : Nat → List Int → List (Nat → Int) → Prop} {l : Launch} : sx_met PF sxRT sxMy sxMc sxML sxMr sxTK l sxI49 := by
  obtain ⟨its2, hk⟩ := Option.isSome_iff_exists.mp sxvI49
  exact sx_met_of (h := sxhI49) sxTK_ok (sxTK2 sxksX11_ok) sxt_X11_feed sxFW_ok (sx_cons (sxmI47) (sx_cons (sxmI48) sx_nil)) (fun L h => by cases h) rfl (by decide +kernel) (by decide) rfl ⟨rfl, rfl, rfl, rfl⟩ hk
def sxI50 : sxI := (33, (2, 40), ([(.ofNat 0, .ofNat 0), (.negSucc 2147483647, .ofNat 2147483647)], [0], 0, [], [], [], []), [(2, 0, .ofNat 0), (0, 1, .ofNat 0)], [(11, 6, 7)], [(([(.negSucc 2147483647, .ofNat 2147483647)], [], 0, [], [], [], []), some (0, 2, .ofNat 0))])
def sxhI50 : sxH := (sxk_X11_force, sxgX11, sxpX11, sxcX11, (sxkiX11, sxklX11, sxksX11), (3, sxI50.2.2.2.2.1, sxI50.2.2.2.2.2, 0), (2, 1, 0), (2, 40))
def sxjI50 : List sxJ := [((15, 11, 0), ([(0, .negSucc 1)], [], []), (sxE0, [], [], ([], .ofNat 0))),
  ((33, 11, 0), ([(3, .ofNat 0)], [], []), (sxE0, [], [], ([], .ofNat 0))),
  ((15, 11, 0), ([(0, .negSucc 1)], [], []), (sxE0, [], [], ([], .ofNat 0)))]
theorem sxvI50 : (sx_exec sxRT [] [] sxhI50 74 0 sxI50.2.2.1 (sx_argl 0 sxI50.2.2.2.1) [] [] sxjI50).isSome = true := by decide +kernel
theorem sxmI50 {PF : Nat → List Int → List (Nat → Int) → Prop} {l : Launch} : sx_met PF sxRT sxMy sxMc sxML sxMr sxTK l sxI50 := by
  obtain ⟨its2, hk⟩ := Option.isSome_iff_exists.mp sxvI50
  exact sx_met_of (h := sxhI50) sxTK_ok (sxTK2 sxksX11_ok) sxt_X11_force sxFW_ok sx_nil (fun L h => by cases h) rfl (by decide +kernel) (by decide) rfl ⟨rfl, rfl, rfl, rfl⟩ hk
def sxI51 : sxI := (6, (2, 40), ([(.ofNat 0, .ofNat 0), (.ofNat 3, .ofNat 3), (.ofNat 1, .ofNat 3)], [41], 0, [], [], [], []), [(2, 0, .ofNat 0), (0, 1, .ofNat 0), (0, 2, .ofNat 0)], [], [(([(.negSucc 2147483647, .ofNat 2147483647)], [], 0, [], [], [], []), some (0, 3, .ofNat 0))])
def sxhI51 : sxH := (sxk_X0_worth, sxgX0, sxpX0, sxcX0, (sxkiX0, sxklX0, sxksX0), (10, sxI51.2.2.2.2.1, sxI51.2.2.2.2.2, 0), (3, 1, 0), (2, 40))
def sxjI51 : List sxJ := [((46, 11, 0), ([(9, .ofNat 0)], [], []), (sxE0, [], [], ([], .ofNat 0)))]
theorem sxvI51 : (sx_exec sxRT [] [] sxhI51 76 0 sxI51.2.2.1 (sx_argl 0 sxI51.2.2.2.1) [] [] sxjI51).isSome = true := by decide +kernel
theorem sxmI51 {PF : Nat → List Int → List (Nat → Int) → Prop} {l : Launch} : sx_met PF sxRT sxMy sxMc sxML sxMr sxTK l sxI51 := by
  obtain ⟨its2, hk⟩ := Option.isSome_iff_exists.mp sxvI51
  exact sx_met_of (h := sxhI51) sxTK_ok (sxTK2 sxksX0_ok) sxt_X0_worth sxFW_ok sx_nil (fun L h => by cases h) rfl (by decide +kernel) (by decide) rfl ⟨rfl, rfl, rfl, rfl⟩ hk
def sxI52 : sxI := (7, (3, 69), ([(.ofNat 0, .ofNat 0), (.ofNat 0, .ofNat 6), (.ofNat 0, .ofNat 6), (.ofNat 2, .ofNat 2), (.ofNat 1, .ofNat 3)], [41], 0, [], [], [], []), [(2, 0, .ofNat 0), (0, 1, .ofNat 0), (0, 2, .ofNat 0), (0, 3, .ofNat 0), (0, 4, .ofNat 0)], [(27, 0, 7)], [(([(.negSucc 2147483647, .ofNat 2147483647)], [], 0, [], [], [], []), some (0, 5, .ofNat 0))])
def sxhI52 : sxH := (sxk_X0_worthBehind, sxgX0, sxpX0, sxcX0, (sxkiX0, sxklX0, sxksX0), (6, sxI52.2.2.2.2.1, sxI52.2.2.2.2.2, 0), (5, 1, 0), (3, 69))
def sxjI52 : List sxJ := [((6, 10, 0), ([(0, .ofNat 0), (1, .ofNat 0), (2, .ofNat 0)], [1], []), (sxE0, [], [], ([], .ofNat 0))),
  ((15, 10, 1), ([(0, .ofNat 0), (3, .ofNat 1), (4, .ofNat 0)], [0], []), (sxE0, [], [], ([], .ofNat 0))),
  ((26, 10, 0), ([(0, .ofNat 0), (1, .ofNat 0), (2, .ofNat 0)], [1], []), (sxE0, [], [], ([], .ofNat 0))),
  ((31, 11, 0), ([(5, .ofNat 0)], [], []), (sxE0, [], [], ([], .ofNat 0)))]
theorem sxvI52 : (sx_exec sxRT [sxI4, sxI51] [] sxhI52 73 0 sxI52.2.2.1 (sx_argl 0 sxI52.2.2.2.1) [] [] sxjI52).isSome = true := by decide +kernel
theorem sxmI52 {PF : Nat → List Int → List (Nat → Int) → Prop} {l : Launch} : sx_met PF sxRT sxMy sxMc sxML sxMr sxTK l sxI52 := by
  obtain ⟨its2, hk⟩ := Option.isSome_iff_exists.mp sxvI52
  exact sx_met_of (h := sxhI52) sxTK_ok (sxTK2 sxksX0_ok) sxt_X0_worthBehind sxFW_ok (sx_cons (sxmI4) (sx_cons (sxmI51) sx_nil)) (fun L h => by cases h) rfl (by decide +kernel) (by decide) rfl ⟨rfl, rfl, rfl, rfl⟩ hk
def sxI53 : sxI := (6, (4, 94), ([(.ofNat 0, .ofNat 0), (.ofNat 2, .ofNat 2), (.ofNat 1, .ofNat 3)], [41], 0, [], [], [], []), [(2, 0, .ofNat 0), (0, 1, .ofNat 0), (0, 2, .ofNat 0)], [(27, 0, 7)], [(([(.negSucc 2147483647, .ofNat 2147483647)], [], 0, [], [], [], []), some (0, 3, .ofNat 0))])
def sxhI53 : sxH := (sxk_X0_worth, sxgX0, sxpX0, sxcX0, (sxkiX0, sxklX0, sxksX0), (10, sxI53.2.2.2.2.1, sxI53.2.2.2.2.2, 0), (3, 1, 0), (4, 94))
def sxjI53 : List sxJ := [((64, 10, 0), ([(0, .ofNat 0), (0, .ofNat 0), (0, .ofNat 0), (1, .ofNat 0), (2, .ofNat 0)], [0], []), (sxE0, [], [], ([], .ofNat 0))),
  ((78, 0, 0), ([(0, .ofNat 0), (0, .negSucc 0), (0, .negSucc 0), (4, .ofNat 0)], [], []), (([(.ofNat 0, .ofNat 7), (.negSucc 0, .ofNat 6), (.negSucc 0, .ofNat 6), (.negSucc 2147483647, .ofNat 2147483647)], [], 0, [([(4, .ofNat 1), (8, .negSucc 0)], .ofNat 0)], [], [], []), [(7, (0, 5, .ofNat 0)), (6, (0, 6, .ofNat 0)), (5, (0, 7, .ofNat 0)), (4, (0, 8, .ofNat 0)), (3, (0, 0, .ofNat 0)), (0, (2, 0, .ofNat 0)), (1, (0, 1, .ofNat 0)), (2, (0, 2, .ofNat 0))], [], ([(5, .negSucc 0)], .ofNat 7))),
  ((177, 11, 0), ([(8, .ofNat 0)], [], []), (sxE0, [], [], ([], .ofNat 0))),
  ((93, 0, 0), ([(5, .ofNat 1), (6, .ofNat 0), (7, .ofNat 0), (8, .ofNat 0)], [], []), (([(.ofNat 1, .ofNat 7), (.negSucc 0, .ofNat 6), (.negSucc 0, .ofNat 6), (.negSucc 2147483647, .ofNat 2147483647)], [], 0, [([(10, .ofNat 1), (5, .negSucc 0)], .negSucc 0), ([(8, .ofNat 1), (13, .negSucc 0)], .ofNat 0)], [], [((0, 0), (0, .ofNat 1), (0, 9, .ofNat 0))], []), [(8, (0, 10, .ofNat 0)), (7, (0, 5, .ofNat 0)), (6, (0, 11, .ofNat 0)), (5, (0, 12, .ofNat 0)), (4, (0, 13, .ofNat 0)), (3, (0, 0, .ofNat 0)), (0, (2, 0, .ofNat 0)), (1, (0, 1, .ofNat 0)), (2, (0, 2, .ofNat 0))], [], ([(10, .negSucc 0)], .ofNat 7))),
  ((78, 2, 1), ([(5, .ofNat 1), (11, .ofNat 0), (12, .ofNat 0), (13, .ofNat 0)], [], []), (sxE0, [], [], ([], .ofNat 0))),
  ((109, 10, 0), ([(0, .ofNat 0), (5, .ofNat 0), (10, .ofNat 0), (1, .ofNat 0), (2, .ofNat 0)], [0], []), (sxE0, [], [], ([], .ofNat 0))),
  ((93, 2, 0), ([(10, .ofNat 1), (11, .ofNat 0), (12, .ofNat 0), (13, .ofNat 0)], [], []), (sxE0, [], [], ([], .ofNat 0))),
  ((93, 2, 0), ([(10, .ofNat 1), (10, .ofNat 0), (5, .ofNat 0), (14, .ofNat 0)], [], []), (sxE0, [], [], ([], .ofNat 0))),
  ((64, 10, 0), ([(0, .ofNat 0), (0, .ofNat 0), (0, .ofNat 0), (1, .ofNat 0), (2, .ofNat 0)], [0], []), (sxE0, [], [], ([], .ofNat 0))),
  ((78, 0, 0), ([(0, .ofNat 0), (0, .negSucc 0), (0, .negSucc 0), (4, .ofNat 0)], [], []), (([(.ofNat 0, .ofNat 7), (.negSucc 0, .ofNat 6), (.negSucc 0, .ofNat 6), (.negSucc 2147483647, .ofNat 2147483647)], [], 0, [([(8, .ofNat 1), (4, .negSucc 0)], .ofNat 0)], [], [], []), [(7, (0, 5, .ofNat 0)), (6, (0, 6, .ofNat 0)), (5, (0, 7, .ofNat 0)), (4, (0, 8, .ofNat 0)), (3, (0, 0, .ofNat 1)), (0, (2, 0, .ofNat 0)), (1, (0, 1, .ofNat 0)), (2, (0, 2, .ofNat 0))], [], ([(5, .negSucc 0)], .ofNat 7))),
  ((177, 11, 0), ([(8, .ofNat 0)], [], []), (sxE0, [], [], ([], .ofNat 0))),
  ((93, 0, 0), ([(5, .ofNat 1), (6, .ofNat 0), (7, .ofNat 0), (8, .ofNat 0)], [], []), (([(.ofNat 1, .ofNat 7), (.negSucc 0, .ofNat 6), (.negSucc 0, .ofNat 6), (.negSucc 2147483647, .ofNat 2147483647)], [], 0, [([(10, .ofNat 1), (5, .negSucc 0)], .negSucc 0), ([(13, .ofNat 1), (8, .negSucc 0)], .ofNat 0)], [], [((0, 0), (0, .ofNat 1), (0, 9, .ofNat 0))], []), [(8, (0, 10, .ofNat 0)), (7, (0, 5, .ofNat 0)), (6, (0, 11, .ofNat 0)), (5, (0, 12, .ofNat 0)), (4, (0, 13, .ofNat 0)), (3, (0, 0, .ofNat 1)), (0, (2, 0, .ofNat 0)), (1, (0, 1, .ofNat 0)), (2, (0, 2, .ofNat 0))], [], ([(10, .negSucc 0)], .ofNat 7))),
  ((78, 2, 1), ([(5, .ofNat 1), (11, .ofNat 0), (12, .ofNat 0), (13, .ofNat 0)], [], []), (sxE0, [], [], ([], .ofNat 0))),
  ((109, 10, 0), ([(0, .ofNat 0), (5, .ofNat 0), (10, .ofNat 0), (1, .ofNat 0), (2, .ofNat 0)], [0], []), (sxE0, [], [], ([], .ofNat 0))),
  ((93, 2, 0), ([(10, .ofNat 1), (11, .ofNat 0), (12, .ofNat 0), (13, .ofNat 0)], [], []), (sxE0, [], [], ([], .ofNat 0))),
  ((93, 2, 0), ([(10, .ofNat 1), (10, .ofNat 0), (5, .ofNat 0), (14, .ofNat 0)], [], []), (sxE0, [], [], ([], .ofNat 0))),
  ((46, 11, 0), ([(9, .ofNat 0)], [], []), (sxE0, [], [], ([], .ofNat 0)))]
theorem sxvI53 : (sx_exec sxRT [sxI52] [] sxhI53 419 0 sxI53.2.2.1 (sx_argl 0 sxI53.2.2.2.1) [] [] sxjI53).isSome = true := by decide +kernel
theorem sxmI53 {PF : Nat → List Int → List (Nat → Int) → Prop} {l : Launch} : sx_met PF sxRT sxMy sxMc sxML sxMr sxTK l sxI53 := by
  obtain ⟨its2, hk⟩ := Option.isSome_iff_exists.mp sxvI53
  exact sx_met_of (h := sxhI53) sxTK_ok (sxTK2 sxksX0_ok) sxt_X0_worth sxFW_ok (sx_cons (sxmI52) sx_nil) (fun L h => by cases h) rfl (by decide +kernel) (by decide) rfl ⟨rfl, rfl, rfl, rfl⟩ hk
def sxI54 : sxI := (7, (5, 123), ([(.ofNat 0, .ofNat 0), (.ofNat 0, .ofNat 6), (.ofNat 0, .ofNat 6), (.ofNat 1, .ofNat 1), (.ofNat 1, .ofNat 3)], [41], 0, [], [], [], []), [(2, 0, .ofNat 0), (0, 1, .ofNat 0), (0, 2, .ofNat 0), (0, 3, .ofNat 0), (0, 4, .ofNat 0)], [(27, 0, 7)], [(([(.negSucc 2147483647, .ofNat 2147483647)], [], 0, [], [], [], []), some (0, 5, .ofNat 0))])
def sxhI54 : sxH := (sxk_X0_worthBehind, sxgX0, sxpX0, sxcX0, (sxkiX0, sxklX0, sxksX0), (6, sxI54.2.2.2.2.1, sxI54.2.2.2.2.2, 0), (5, 1, 0), (5, 123))
def sxjI54 : List sxJ := [((6, 10, 0), ([(0, .ofNat 0), (1, .ofNat 0), (2, .ofNat 0)], [1], []), (sxE0, [], [], ([], .ofNat 0))),
  ((15, 10, 1), ([(0, .ofNat 0), (3, .ofNat 1), (4, .ofNat 0)], [0], []), (sxE0, [], [], ([], .ofNat 0))),
  ((26, 10, 0), ([(0, .ofNat 0), (1, .ofNat 0), (2, .ofNat 0)], [1], []), (sxE0, [], [], ([], .ofNat 0))),
  ((31, 11, 0), ([(5, .ofNat 0)], [], []), (sxE0, [], [], ([], .ofNat 0)))]
theorem sxvI54 : (sx_exec sxRT [sxI4, sxI53] [] sxhI54 73 0 sxI54.2.2.1 (sx_argl 0 sxI54.2.2.2.1) [] [] sxjI54).isSome = true := by decide +kernel
theorem sxmI54 {PF : Nat → List Int → List (Nat → Int) → Prop} {l : Launch} : sx_met PF sxRT sxMy sxMc sxML sxMr sxTK l sxI54 := by
  obtain ⟨its2, hk⟩ := Option.isSome_iff_exists.mp sxvI54
  exact sx_met_of (h := sxhI54) sxTK_ok (sxTK2 sxksX0_ok) sxt_X0_worthBehind sxFW_ok (sx_cons (sxmI4) (sx_cons (sxmI53) sx_nil)) (fun L h => by cases h) rfl (by decide +kernel) (by decide) rfl ⟨rfl, rfl, rfl, rfl⟩ hk
def sxI55 : sxI := (6, (6, 148), ([(.ofNat 0, .ofNat 0), (.ofNat 1, .ofNat 1), (.ofNat 1, .ofNat 3)], [41], 0, [], [], [], []), [(2, 0, .ofNat 0), (0, 1, .ofNat 0), (0, 2, .ofNat 0)], [(27, 0, 7)], [(([(.negSucc 2147483647, .ofNat 2147483647)], [], 0, [], [], [], []), some (0, 3, .ofNat 0))])
def sxhI55 : sxH := (sxk_X0_worth, sxgX0, sxpX0, sxcX0, (sxkiX0, sxklX0, sxksX0), (10, sxI55.2.2.2.2.1, sxI55.2.2.2.2.2, 0), (3, 1, 0), (6, 148))
def sxjI55 : List sxJ := [((64, 10, 0), ([(0, .ofNat 0), (0, .ofNat 0), (0, .ofNat 0), (1, .ofNat 0), (2, .ofNat 0)], [0], []), (sxE0, [], [], ([], .ofNat 0))),
  ((78, 0, 0), ([(0, .ofNat 0), (0, .negSucc 0), (0, .negSucc 0), (4, .ofNat 0)], [], []), (([(.ofNat 0, .ofNat 7), (.negSucc 0, .ofNat 6), (.negSucc 0, .ofNat 6), (.negSucc 2147483647, .ofNat 2147483647)], [], 0, [([(4, .ofNat 1), (8, .negSucc 0)], .ofNat 0)], [], [], []), [(7, (0, 5, .ofNat 0)), (6, (0, 6, .ofNat 0)), (5, (0, 7, .ofNat 0)), (4, (0, 8, .ofNat 0)), (3, (0, 0, .ofNat 0)), (0, (2, 0, .ofNat 0)), (1, (0, 1, .ofNat 0)), (2, (0, 2, .ofNat 0))], [], ([(5, .negSucc 0)], .ofNat 7))),
  ((177, 11, 0), ([(8, .ofNat 0)], [], []), (sxE0, [], [], ([], .ofNat 0))),
  ((93, 0, 0), ([(5, .ofNat 1), (6, .ofNat 0), (7, .ofNat 0), (8, .ofNat 0)], [], []), (([(.ofNat 1, .ofNat 7), (.negSucc 0, .ofNat 6), (.negSucc 0, .ofNat 6), (.negSucc 2147483647, .ofNat 2147483647)], [], 0, [([(10, .ofNat 1), (5, .negSucc 0)], .negSucc 0), ([(8, .ofNat 1), (13, .negSucc 0)], .ofNat 0)], [], [((0, 0), (0, .ofNat 1), (0, 9, .ofNat 0))], []), [(8, (0, 10, .ofNat 0)), (7, (0, 5, .ofNat 0)), (6, (0, 11, .ofNat 0)), (5, (0, 12, .ofNat 0)), (4, (0, 13, .ofNat 0)), (3, (0, 0, .ofNat 0)), (0, (2, 0, .ofNat 0)), (1, (0, 1, .ofNat 0)), (2, (0, 2, .ofNat 0))], [], ([(10, .negSucc 0)], .ofNat 7))),
  ((78, 2, 1), ([(5, .ofNat 1), (11, .ofNat 0), (12, .ofNat 0), (13, .ofNat 0)], [], []), (sxE0, [], [], ([], .ofNat 0))),
  ((109, 10, 0), ([(0, .ofNat 0), (5, .ofNat 0), (10, .ofNat 0), (1, .ofNat 0), (2, .ofNat 0)], [0], []), (sxE0, [], [], ([], .ofNat 0))),
  ((93, 2, 0), ([(10, .ofNat 1), (11, .ofNat 0), (12, .ofNat 0), (13, .ofNat 0)], [], []), (sxE0, [], [], ([], .ofNat 0))),
  ((93, 2, 0), ([(10, .ofNat 1), (10, .ofNat 0), (5, .ofNat 0), (14, .ofNat 0)], [], []), (sxE0, [], [], ([], .ofNat 0))),
  ((64, 10, 0), ([(0, .ofNat 0), (0, .ofNat 0), (0, .ofNat 0), (1, .ofNat 0), (2, .ofNat 0)], [0], []), (sxE0, [], [], ([], .ofNat 0))),
  ((78, 0, 0), ([(0, .ofNat 0), (0, .negSucc 0), (0, .negSucc 0), (4, .ofNat 0)], [], []), (([(.ofNat 0, .ofNat 7), (.negSucc 0, .ofNat 6), (.negSucc 0, .ofNat 6), (.negSucc 2147483647, .ofNat 2147483647)], [], 0, [([(8, .ofNat 1), (4, .negSucc 0)], .ofNat 0)], [], [], []), [(7, (0, 5, .ofNat 0)), (6, (0, 6, .ofNat 0)), (5, (0, 7, .ofNat 0)), (4, (0, 8, .ofNat 0)), (3, (0, 0, .ofNat 1)), (0, (2, 0, .ofNat 0)), (1, (0, 1, .ofNat 0)), (2, (0, 2, .ofNat 0))], [], ([(5, .negSucc 0)], .ofNat 7))),
  ((177, 11, 0), ([(8, .ofNat 0)], [], []), (sxE0, [], [], ([], .ofNat 0))),
  ((93, 0, 0), ([(5, .ofNat 1), (6, .ofNat 0), (7, .ofNat 0), (8, .ofNat 0)], [], []), (([(.ofNat 1, .ofNat 7), (.negSucc 0, .ofNat 6), (.negSucc 0, .ofNat 6), (.negSucc 2147483647, .ofNat 2147483647)], [], 0, [([(10, .ofNat 1), (5, .negSucc 0)], .negSucc 0), ([(13, .ofNat 1), (8, .negSucc 0)], .ofNat 0)], [], [((0, 0), (0, .ofNat 1), (0, 9, .ofNat 0))], []), [(8, (0, 10, .ofNat 0)), (7, (0, 5, .ofNat 0)), (6, (0, 11, .ofNat 0)), (5, (0, 12, .ofNat 0)), (4, (0, 13, .ofNat 0)), (3, (0, 0, .ofNat 1)), (0, (2, 0, .ofNat 0)), (1, (0, 1, .ofNat 0)), (2, (0, 2, .ofNat 0))], [], ([(10, .negSucc 0)], .ofNat 7))),
  ((78, 2, 1), ([(5, .ofNat 1), (11, .ofNat 0), (12, .ofNat 0), (13, .ofNat 0)], [], []), (sxE0, [], [], ([], .ofNat 0))),
  ((109, 10, 0), ([(0, .ofNat 0), (5, .ofNat 0), (10, .ofNat 0), (1, .ofNat 0), (2, .ofNat 0)], [0], []), (sxE0, [], [], ([], .ofNat 0))),
  ((93, 2, 0), ([(10, .ofNat 1), (11, .ofNat 0), (12, .ofNat 0), (13, .ofNat 0)], [], []), (sxE0, [], [], ([], .ofNat 0))),
  ((93, 2, 0), ([(10, .ofNat 1), (10, .ofNat 0), (5, .ofNat 0), (14, .ofNat 0)], [], []), (sxE0, [], [], ([], .ofNat 0))),
  ((46, 11, 0), ([(9, .ofNat 0)], [], []), (sxE0, [], [], ([], .ofNat 0)))]
theorem sxvI55 : (sx_exec sxRT [sxI54] [] sxhI55 419 0 sxI55.2.2.1 (sx_argl 0 sxI55.2.2.2.1) [] [] sxjI55).isSome = true := by decide +kernel
theorem sxmI55 {PF : Nat → List Int → List (Nat → Int) → Prop} {l : Launch} : sx_met PF sxRT sxMy sxMc sxML sxMr sxTK l sxI55 := by
  obtain ⟨its2, hk⟩ := Option.isSome_iff_exists.mp sxvI55
  exact sx_met_of (h := sxhI55) sxTK_ok (sxTK2 sxksX0_ok) sxt_X0_worth sxFW_ok (sx_cons (sxmI54) sx_nil) (fun L h => by cases h) rfl (by decide +kernel) (by decide) rfl ⟨rfl, rfl, rfl, rfl⟩ hk
