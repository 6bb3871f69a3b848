def sxI121 : sxI := (48, (2, 40), ([(.ofNat 0, .ofNat 0), (.ofNat 0, .ofNat 6)], [0], 0, [], [], [], []), [(2, 0, .ofNat 0), (0, 1, .ofNat 0)], [], [(([(.ofNat 0, .ofNat 2147483647)], [], 0, [], [], [], []), some (0, 2, .ofNat 0))])
def sxhI121 : sxH := (sxk_X11_mostAlike, sxgX11, sxpX11, sxcX11, (sxkiX11, sxklX11, sxksX11), (4, sxI121.2.2.2.2.1, sxI121.2.2.2.2.2, 0), (2, 1, 0), (2, 40))
def sxjI121 : List sxJ := [((4, 0, 0), ([(0, .ofNat 0), (0, .ofNat 0)], [], []), (([(.ofNat 0, .ofNat 7), (.ofNat 0, .ofNat 2147483647)], [], 0, [], [], [], []), [(3, (0, 2, .ofNat 0)), (2, (0, 3, .ofNat 0)), (0, (2, 0, .ofNat 0)), (1, (0, 1, .ofNat 0))], [], ([(2, .negSucc 0)], .ofNat 7))),
  ((41, 11, 0), ([(3, .ofNat 0)], [], []), (sxE0, [], [], ([], .ofNat 0))),
  ((4, 2, 0), ([(2, .ofNat 1), (7, .ofNat 0)], [], []), (sxE0, [], [], ([], .ofNat 0))),
  ((4, 2, 0), ([(2, .ofNat 1), (3, .ofNat 0)], [], []), (sxE0, [], [], ([], .ofNat 0)))]
theorem sxvI121 : (sx_exec sxRT [] [] sxhI121 109 0 sxI121.2.2.1 (sx_argl 0 sxI121.2.2.2.1) [] [] sxjI121).isSome = true := by decide +kernel
theorem sxmI121 {PF : Nat → List Int → List (Nat → Int) → Prop} {l : Launch} : sx_met PF sxRT sxMy sxMc sxML sxMr sxTK l sxI121 := by
  obtain ⟨its2, hk⟩ := Option.isSome_iff_exists.mp sxvI121
  exact sx_met_of (h := sxhI121) sxTK_ok (sxTK2 sxksX11_ok) sxt_X11_mostAlike sxFW_ok sx_nil (fun L h => by cases h) rfl (by decide +kernel) (by decide) rfl ⟨rfl, rfl, rfl, rfl⟩ hk
def sxI122 : sxI := (45, (8, 220), ([(.ofNat 0, .ofNat 0), (.negSucc 2147483647, .ofNat 2147483647), (.negSucc 2147483647, .ofNat 2147483647)], [0], 0, [], [], [], []), [(2, 0, .ofNat 0), (0, 1, .ofNat 0), (0, 2, .ofNat 0)], [(26, 4, 5), (27, 0, 7), (28, 0, 7), (29, 0, 7), (30, 0, 7), (34, 0, 12), (35, 0, 64), (42, 0, 49)], [(([(.negSucc 1, .ofNat 2147483647)], [], 0, [], [], [], []), some (0, 3, .ofNat 0))])
def sxhI122 : sxH := (sxk_X11_look, sxgX11, sxpX11, sxcX11, (sxkiX11, sxklX11, sxksX11), (7, sxI122.2.2.2.2.1, sxI122.2.2.2.2.2, 0), (3, 1, 0), (8, 220))
def sxjI122 : List sxJ := [((33, 11, 0), ([(0, .negSucc 0)], [], []), (sxE0, [], [], ([], .ofNat 0))),
  ((17, 10, 0), ([(0, .ofNat 0), (1, .ofNat 0), (0, .ofNat 0), (0, .ofNat 60)], [], []), (sxE0, [], [], ([], .ofNat 0))),
  ((33, 11, 0), ([(0, .negSucc 0)], [], []), (sxE0, [], [], ([], .ofNat 0))),
  ((20, 7, 0), ([], [], []), (sxE0, [], [], ([(1, .ofNat 1), (0, .negSucc 0)], .ofNat 0))),
  ((20, 7, 0), ([], [], []), (sxE0, [], [], ([(0, .ofNat 1), (1, .negSucc 0)], .ofNat 60))),
  ((26, 10, 0), ([(0, .ofNat 0), (2, .ofNat 0), (0, .ofNat 0), (0, .ofNat 1)], [], []), (sxE0, [], [], ([], .ofNat 0))),
  ((33, 11, 0), ([(0, .negSucc 0)], [], []), (sxE0, [], [], ([], .ofNat 0))),
  ((29, 7, 0), ([], [], []), (sxE0, [], [], ([(2, .ofNat 1), (0, .negSucc 0)], .ofNat 0))),
  ((29, 7, 0), ([], [], []), (sxE0, [], [], ([(0, .ofNat 1), (2, .negSucc 0)], .ofNat 1))),
  ((39, 10, 1), ([(0, .ofNat 0), (0, .ofNat 0)], [3], []), (sxE0, [], [], ([], .ofNat 0))),
  ((44, 0, 0), ([(0, .negSucc 0)], [], []), (([(.negSucc 0, .ofNat 6)], [], 0, [], [], [((0, 0), (0, .ofNat 11), (2, 3, .ofNat 0)), ((0, 2), (0, .ofNat 0), (0, 3, .ofNat 0)), ((0, 1), (0, .ofNat 0), (2, 2, .ofNat 0)), ((0, 0), (0, .ofNat 4), (2, 1, .ofNat 0))], []), [(3, (0, 4, .ofNat 0)), (0, (2, 0, .ofNat 0)), (1, (0, 1, .ofNat 0)), (2, (0, 2, .ofNat 0))], [], ([(4, .negSucc 0)], .ofNat 6))),
  ((82, 0, 0), ([(0, .ofNat 0), (0, .negSucc 1), (0, .negSucc 1)], [], []), (([(.ofNat 0, .ofNat 7), (.negSucc 1, .ofNat 2147483647), (.negSucc 1, .ofNat 6)], [], 0, [], [], [((0, 0), (0, .ofNat 12), (0, 5, .ofNat 0)), ((0, 0), (0, .ofNat 11), (2, 3, .ofNat 0)), ((0, 2), (0, .ofNat 0), (0, 3, .ofNat 0)), ((0, 1), (0, .ofNat 0), (2, 2, .ofNat 0)), ((0, 0), (0, .ofNat 4), (2, 1, .ofNat 0))], []), [(5, (0, 6, .ofNat 0)), (4, (0, 7, .ofNat 0)), (3, (0, 8, .ofNat 0)), (0, (2, 0, .ofNat 0)), (1, (0, 1, .ofNat 0)), (2, (0, 2, .ofNat 0))], [], ([(6, .negSucc 0)], .ofNat 7))),
  ((146, 11, 0), ([(7, .ofNat 0)], [], []), (sxE0, [], [], ([], .ofNat 0))),
  ((146, 11, 0), ([(8, .ofNat 0)], [], []), (sxE0, [], [], ([], .ofNat 0))),
  ((100, 10, 6), ([(0, .ofNat 0), (6, .ofNat 0)], [0], []), (sxE0, [], [], ([], .ofNat 0))),
  ((82, 2, 0), ([(6, .ofNat 1), (7, .ofNat 0), (8, .ofNat 0)], [], []), (sxE0, [], [], ([], .ofNat 0))),
  ((82, 2, 0), ([(6, .ofNat 1), (10, .ofNat 0), (6, .ofNat 0)], [], []), (sxE0, [], [], ([], .ofNat 0))),
  ((82, 2, 0), ([(6, .ofNat 1), (7, .ofNat 0), (8, .ofNat 0)], [], []), (sxE0, [], [], ([], .ofNat 0))),
  ((82, 2, 0), ([(6, .ofNat 1), (10, .ofNat 0), (6, .ofNat 0)], [], []), (sxE0, [], [], ([], .ofNat 0))),
  ((54, 10, 2), ([(0, .ofNat 0), (4, .ofNat 0)], [0], []), (sxE0, [], [], ([], .ofNat 0))),
  ((63, 10, 3), ([(0, .ofNat 0), (4, .ofNat 0), (1, .ofNat 0)], [0], []), (sxE0, [], [], ([], .ofNat 0))),
  ((44, 2, 0), ([(4, .ofNat 1)], [], []), (sxE0, [], [], ([], .ofNat 0))),
  ((44, 2, 0), ([(4, .ofNat 1)], [], []), (sxE0, [], [], ([], .ofNat 0)))]
theorem sxvI122 : (sx_exec sxRT [sxI1, sxI114, sxI117, sxI118, sxI119, sxI120, sxI121] [] sxhI122 303 0 sxI122.2.2.1 (sx_argl 0 sxI122.2.2.2.1) [] [] sxjI122).isSome = true := by decide +kernel
theorem sxmI122 {PF : Nat → List Int → List (Nat → Int) → Prop} {l : Launch} : sx_met PF sxRT sxMy sxMc sxML sxMr sxTK l sxI122 := by
  obtain ⟨its2, hk⟩ := Option.isSome_iff_exists.mp sxvI122
  exact sx_met_of (h := sxhI122) sxTK_ok (sxTK2 sxksX11_ok) sxt_X11_look sxFW_ok (sx_cons (sxmI1) (sx_cons (sxmI114) (sx_cons (sxmI117) (sx_cons (sxmI118) (sx_cons (sxmI119) (sx_cons (sxmI120) (sx_cons (sxmI121) sx_nil))))))) (fun L h => by cases h) rfl (by decide +kernel) (by decide) rfl ⟨rfl, rfl, rfl, rfl⟩ hk
def sxI123 : sxI := (220, (3, 62), ([(.ofNat 0, .ofNat 0), (.ofNat 0, .ofNat 0), (.ofNat 0, .ofNat 0), (.ofNat 0, .ofNat 0)], [36, 20, 26], 0, [], [], [((0, 0), (0, .ofNat 3), (2, 1, .ofNat 0)), ((0, 0), (0, .ofNat 4), (2, 2, .ofNat 0))], []), [(2, 0, .ofNat 0), (0, 1, .ofNat 0), (0, 2, .ofNat 0), (0, 3, .ofNat 0)], [], [(([(.negSucc 2147483647, .ofNat 2147483647)], [], 0, [], [], [((0, 0), (0, .ofNat 3), (2, 1, .ofNat 0)), ((0, 0), (0, .ofNat 4), (2, 2, .ofNat 0))], []), some (0, 4, .ofNat 0))])
def sxhI123 : sxH := (sxk_X6_letWith, sxgX6, sxpX6, sxcX6, (sxkiX6, sxklX6, sxksX6), (6, sxI123.2.2.2.2.1, sxI123.2.2.2.2.2, 0), (4, 3, 0), (3, 62))
def sxjI123 : List sxJ := [((22, 10, 0), ([(0, .ofNat 0), (5, .ofNat 0), (0, .ofNat 0), (6, .negSucc 0)], [], []), (sxE0, [], [], ([], .ofNat 0))),
  ((29, 11, 0), ([(0, .negSucc 0)], [], []), (sxE0, [], [], ([], .ofNat 0))),
  ((68, 11, 0), ([(9, .ofNat 0)], [], []), (sxE0, [], [], ([], .ofNat 0))),
  ((68, 8, 0), ([], [], []), (sxE0, [], [], ([], .ofNat 0))),
  ((68, 11, 0), ([(10, .ofNat 0)], [], []), (sxE0, [], [], ([], .ofNat 0)))]
theorem sxvI123 : (sx_exec sxRT [sxI1] [] sxhI123 106 0 sxI123.2.2.1 (sx_argl 0 sxI123.2.2.2.1) [] [] sxjI123).isSome = true := by decide +kernel
theorem sxmI123 {PF : Nat → List Int → List (Nat → Int) → Prop} {l : Launch} : sx_met PF sxRT sxMy sxMc sxML sxMr sxTK l sxI123 := by
  obtain ⟨its2, hk⟩ := Option.isSome_iff_exists.mp sxvI123
  exact sx_met_of (h := sxhI123) sxTK_ok (sxTK2 sxksX6_ok) sxt_X6_letWith sxFW_ok (sx_cons (sxmI1) sx_nil) (fun L h => by cases h) rfl (by decide +kernel) (by decide) rfl ⟨rfl, rfl, rfl, rfl⟩ hk
def sxI124 : sxI := (220, (2, 40), ([(.ofNat 0, .ofNat 0), (.ofNat 0, .ofNat 0), (.ofNat 0, .ofNat 0), (.negSucc 0, .negSucc 0)], [36, 20, 26], 0, [], [], [((0, 0), (0, .ofNat 3), (2, 1, .ofNat 0)), ((0, 0), (0, .ofNat 4), (2, 2, .ofNat 0))], []), [(2, 0, .ofNat 0), (0, 1, .ofNat 0), (0, 2, .ofNat 0), (0, 3, .ofNat 0)], [], [(([], [], 0, [], [], [((0, 0), (0, .ofNat 3), (2, 1, .ofNat 0)), ((0, 0), (0, .ofNat 4), (2, 2, .ofNat 0))], []), some (0, 0, .negSucc 0))])
def sxhI124 : sxH := (sxk_X6_letWith, sxgX6, sxpX6, sxcX6, (sxkiX6, sxklX6, sxksX6), (6, sxI124.2.2.2.2.1, sxI124.2.2.2.2.2, 0), (4, 3, 0), (2, 40))
def sxjI124 : List sxJ := [((29, 11, 0), ([], [], []), (sxE0, [], [], ([], .ofNat 0)))]
theorem sxvI124 : (sx_exec sxRT [] [] sxhI124 62 0 sxI124.2.2.1 (sx_argl 0 sxI124.2.2.2.1) [] [] sxjI124).isSome = true := by decide +kernel
theorem sxmI124 {PF : Nat → List Int → List (Nat → Int) → Prop} {l : Launch} : sx_met PF sxRT sxMy sxMc sxML sxMr sxTK l sxI124 := by
  obtain ⟨its2, hk⟩ := Option.isSome_iff_exists.mp sxvI124
  exact sx_met_of (h := sxhI124) sxTK_ok (sxTK2 sxksX6_ok) sxt_X6_letWith sxFW_ok sx_nil (fun L h => by cases h) rfl (by decide +kernel) (by decide) rfl ⟨rfl, rfl, rfl, rfl⟩ hk
def sxI125 : sxI := (220, (3, 62), ([(.ofNat 0, .ofNat 0), (.ofNat 0, .ofNat 0), (.ofNat 0, .ofNat 0), (.ofNat 0, .ofNat 1)], [36, 20, 26], 0, [], [], [((0, 0), (0, .ofNat 3), (2, 1, .ofNat 0)), ((0, 0), (0, .ofNat 4), (2, 2, .ofNat 0))], []), [(2, 0, .ofNat 0), (0, 1, .ofNat 0), (0, 2, .ofNat 0), (0, 3, .ofNat 0)], [], [(([(.negSucc 2147483647, .ofNat 2147483647)], [], 0, [], [], [((0, 0), (0, .ofNat 3), (2, 1, .ofNat 0)), ((0, 0), (0, .ofNat 4), (2, 2, .ofNat 0))], []), some (0, 4, .ofNat 0))])
def sxhI125 : sxH := (sxk_X6_letWith, sxgX6, sxpX6, sxcX6, (sxkiX6, sxklX6, sxksX6), (6, sxI125.2.2.2.2.1, sxI125.2.2.2.2.2, 0), (4, 3, 0), (3, 62))
def sxjI125 : List sxJ := [((22, 10, 0), ([(0, .ofNat 0), (5, .ofNat 0), (0, .ofNat 0), (6, .negSucc 0)], [], []), (sxE0, [], [], ([], .ofNat 0))),
  ((29, 11, 0), ([(0, .negSucc 0)], [], []), (sxE0, [], [], ([], .ofNat 0))),
  ((68, 11, 0), ([(9, .ofNat 0)], [], []), (sxE0, [], [], ([], .ofNat 0))),
  ((68, 8, 0), ([], [], []), (sxE0, [], [], ([], .ofNat 0))),
  ((68, 11, 0), ([(10, .ofNat 0)], [], []), (sxE0, [], [], ([], .ofNat 0)))]
theorem sxvI125 : (sx_exec sxRT [sxI1] [] sxhI125 106 0 sxI125.2.2.1 (sx_argl 0 sxI125.2.2.2.1) [] [] sxjI125).isSome = true := by decide +kernel
theorem sxmI125 {PF : Nat → List Int → List (Nat → Int) → Prop} {l : Launch} : sx_met PF sxRT sxMy sxMc sxML sxMr sxTK l sxI125 := by
  obtain ⟨its2, hk⟩ := Option.isSome_iff_exists.mp sxvI125
  exact sx_met_of (h := sxhI125) sxTK_ok (sxTK2 sxksX6_ok) sxt_X6_letWith sxFW_ok (sx_cons (sxmI1) sx_nil) (fun L h => by cases h) rfl (by decide +kernel) (by decide) rfl ⟨rfl, rfl, rfl, rfl⟩ hk
def sxI126 : sxI := (220, (3, 62), ([(.ofNat 0, .ofNat 0), (.ofNat 0, .ofNat 0), (.ofNat 0, .ofNat 0), (.negSucc 0, .ofNat 0)], [36, 20, 26], 0, [], [], [((0, 0), (0, .ofNat 3), (2, 1, .ofNat 0)), ((0, 0), (0, .ofNat 4), (2, 2, .ofNat 0))], []), [(2, 0, .ofNat 0), (0, 1, .ofNat 0), (0, 2, .ofNat 0), (0, 3, .ofNat 0)], [], [(([(.negSucc 2147483647, .ofNat 2147483647)], [], 0, [], [], [((0, 0), (0, .ofNat 3), (2, 1, .ofNat 0)), ((0, 0), (0, .ofNat 4), (2, 2, .ofNat 0))], []), some (0, 4, .ofNat 0))])
def sxhI126 : sxH := (sxk_X6_letWith, sxgX6, sxpX6, sxcX6, (sxkiX6, sxklX6, sxksX6), (6, sxI126.2.2.2.2.1, sxI126.2.2.2.2.2, 0), (4, 3, 0), (3, 62))
def sxjI126 : List sxJ := [((29, 11, 0), ([(0, .negSucc 0)], [], []), (sxE0, [], [], ([], .ofNat 0))),
  ((22, 10, 0), ([(0, .ofNat 0), (5, .ofNat 0), (0, .ofNat 0), (6, .negSucc 0)], [], []), (sxE0, [], [], ([], .ofNat 0))),
  ((29, 11, 0), ([(0, .negSucc 0)], [], []), (sxE0, [], [], ([], .ofNat 0))),
  ((25, 7, 0), ([], [], []), (sxE0, [], [], ([(5, .ofNat 1), (0, .negSucc 0)], .ofNat 0))),
  ((25, 7, 0), ([], [], []), (sxE0, [], [], ([(6, .ofNat 1), (5, .negSucc 0)], .negSucc 0))),
  ((68, 11, 0), ([(9, .ofNat 0)], [], []), (sxE0, [], [], ([], .ofNat 0))),
  ((68, 8, 0), ([], [], []), (sxE0, [], [], ([], .ofNat 0))),
  ((68, 11, 0), ([(10, .ofNat 0)], [], []), (sxE0, [], [], ([], .ofNat 0)))]
theorem sxvI126 : (sx_exec sxRT [sxI1] [] sxhI126 111 0 sxI126.2.2.1 (sx_argl 0 sxI126.2.2.2.1) [] [] sxjI126).isSome = true := by decide +kernel
theorem sxmI126 {PF : Nat → List Int → List (Nat → Int) → Prop} {l : Launch} : sx_met PF sxRT sxMy sxMc sxML sxMr sxTK l sxI126 := by
  obtain ⟨its2, hk⟩ := Option.isSome_iff_exists.mp sxvI126
  exact sx_met_of (h := sxhI126) sxTK_ok (sxTK2 sxksX6_ok) sxt_X6_letWith sxFW_ok (sx_cons (sxmI1) sx_nil) (fun L h => by cases h) rfl (by decide +kernel) (by decide) rfl ⟨rfl, rfl, rfl, rfl⟩ hk
def sxI127 : sxI := (220, (3, 62), ([(.ofNat 0, .ofNat 0), (.ofNat 0, .ofNat 0), (.ofNat 0, .ofNat 0), (.ofNat 0, .ofNat 6)], [36, 20, 26], 0, [], [], [((0, 0), (0, .ofNat 3), (2, 1, .ofNat 0)), ((0, 0), (0, .ofNat 4), (2, 2, .ofNat 0))], []), [(2, 0, .ofNat 0), (0, 1, .ofNat 0), (0, 2, .ofNat 0), (0, 3, .ofNat 0)], [], [(([(.negSucc 2147483647, .ofNat 2147483647)], [], 0, [], [], [((0, 0), (0, .ofNat 3), (2, 1, .ofNat 0)), ((0, 0), (0, .ofNat 4), (2, 2, .ofNat 0))], []), some (0, 4, .ofNat 0))])
def sxhI127 : sxH := (sxk_X6_letWith, sxgX6, sxpX6, sxcX6, (sxkiX6, sxklX6, sxksX6), (6, sxI127.2.2.2.2.1, sxI127.2.2.2.2.2, 0), (4, 3, 0), (3, 62))
def sxjI127 : List sxJ := [((22, 10, 0), ([(0, .ofNat 0), (5, .ofNat 0), (0, .ofNat 0), (6, .negSucc 0)], [], []), (sxE0, [], [], ([], .ofNat 0))),
  ((29, 11, 0), ([(0, .negSucc 0)], [], []), (sxE0, [], [], ([], .ofNat 0))),
  ((68, 11, 0), ([(9, .ofNat 0)], [], []), (sxE0, [], [], ([], .ofNat 0))),
  ((68, 8, 0), ([], [], []), (sxE0, [], [], ([], .ofNat 0))),
  ((68, 11, 0), ([(10, .ofNat 0)], [], []), (sxE0, [], [], ([], .ofNat 0)))]
theorem sxvI127 : (sx_exec sxRT [sxI1] [] sxhI127 106 0 sxI127.2.2.1 (sx_argl 0 sxI127.2.2.2.1) [] [] sxjI127).isSome = true := by decide +kernel
theorem sxmI127 {PF : Nat → List Int → List (Nat → Int) → Prop} {l : Launch} : sx_met PF sxRT sxMy sxMc sxML sxMr sxTK l sxI127 := by
  obtain ⟨its2, hk⟩ := Option.isSome_iff_exists.mp sxvI127
  exact sx_met_of (h := sxhI127) sxTK_ok (sxTK2 sxksX6_ok) sxt_X6_letWith sxFW_ok (sx_cons (sxmI1) sx_nil) (fun L h => by cases h) rfl (by decide +kernel) (by decide) rfl ⟨rfl, rfl, rfl, rfl⟩ hk
def sxI128 : sxI := (220, (3, 62), ([(.ofNat 0, .ofNat 0), (.ofNat 0, .ofNat 0), (.ofNat 0, .ofNat 0), (.negSucc 0, .ofNat 1)], [36, 20, 26], 0, [], [], [((0, 0), (0, .ofNat 3), (2, 1, .ofNat 0)), ((0, 0), (0, .ofNat 4), (2, 2, .ofNat 0))], []), [(2, 0, .ofNat 0), (0, 1, .ofNat 0), (0, 2, .ofNat 0), (0, 3, .ofNat 0)], [], [(([(.negSucc 2147483647, .ofNat 2147483647)], [], 0, [], [], [((0, 0), (0, .ofNat 3), (2, 1, .ofNat 0)), ((0, 0), (0, .ofNat 4), (2, 2, .ofNat 0))], []), some (0, 4, .ofNat 0))])
def sxhI128 : sxH := (sxk_X6_letWith, sxgX6, sxpX6, sxcX6, (sxkiX6, sxklX6, sxksX6), (6, sxI128.2.2.2.2.1, sxI128.2.2.2.2.2, 0), (4, 3, 0), (3, 62))
def sxjI128 : List sxJ := [((29, 11, 0), ([(0, .negSucc 0)], [], []), (sxE0, [], [], ([], .ofNat 0))),
  ((22, 10, 0), ([(0, .ofNat 0), (5, .ofNat 0), (0, .ofNat 0), (6, .negSucc 0)], [], []), (sxE0, [], [], ([], .ofNat 0))),
  ((29, 11, 0), ([(0, .negSucc 0)], [], []), (sxE0, [], [], ([], .ofNat 0))),
  ((25, 7, 0), ([], [], []), (sxE0, [], [], ([(5, .ofNat 1), (0, .negSucc 0)], .ofNat 0))),
  ((25, 7, 0), ([], [], []), (sxE0, [], [], ([(6, .ofNat 1), (5, .negSucc 0)], .negSucc 0))),
  ((68, 11, 0), ([(9, .ofNat 0)], [], []), (sxE0, [], [], ([], .ofNat 0))),
  ((68, 8, 0), ([], [], []), (sxE0, [], [], ([], .ofNat 0))),
  ((68, 11, 0), ([(10, .ofNat 0)], [], []), (sxE0, [], [], ([], .ofNat 0)))]
theorem sxvI128 : (sx_exec sxRT [sxI1] [] sxhI128 111 0 sxI128.2.2.1 (sx_argl 0 sxI128.2.2.2.1) [] [] sxjI128).isSome = true := by decide +kernel
theorem sxmI128 {PF : Nat → List Int → List (Nat → Int) → Prop} {l : Launch} : sx_met PF sxRT sxMy sxMc sxML sxMr sxTK l sxI128 := by
  obtain ⟨its2, hk⟩ := Option.isSome_iff_exists.mp sxvI128
  exact sx_met_of (h := sxhI128) sxTK_ok (sxTK2 sxksX6_ok) sxt_X6_letWith sxFW_ok (sx_cons (sxmI1) sx_nil) (fun L h => by cases h) rfl (by decide +kernel) (by decide) rfl ⟨rfl, rfl, rfl, rfl⟩ hk
def sxI129 : sxI := (220, (3, 62), ([(.ofNat 0, .ofNat 0), (.ofNat 0, .ofNat 0), (.ofNat 0, .ofNat 0), (.negSucc 0, .ofNat 6)], [36, 20, 26], 0, [], [], [((0, 0), (0, .ofNat 3), (2, 1, .ofNat 0)), ((0, 0), (0, .ofNat 4), (2, 2, .ofNat 0))], []), [(2, 0, .ofNat 0), (0, 1, .ofNat 0), (0, 2, .ofNat 0), (0, 3, .ofNat 0)], [], [(([(.negSucc 2147483647, .ofNat 2147483647)], [], 0, [], [], [((0, 0), (0, .ofNat 3), (2, 1, .ofNat 0)), ((0, 0), (0, .ofNat 4), (2, 2, .ofNat 0))], []), some (0, 4, .ofNat 0))])
def sxhI129 : sxH := (sxk_X6_letWith, sxgX6, sxpX6, sxcX6, (sxkiX6, sxklX6, sxksX6), (6, sxI129.2.2.2.2.1, sxI129.2.2.2.2.2, 0), (4, 3, 0), (3, 62))
def sxjI129 : List sxJ := [((29, 11, 0), ([(0, .negSucc 0)], [], []), (sxE0, [], [], ([], .ofNat 0))),
  ((22, 10, 0), ([(0, .ofNat 0), (5, .ofNat 0), (0, .ofNat 0), (6, .negSucc 0)], [], []), (sxE0, [], [], ([], .ofNat 0))),
  ((29, 11, 0), ([(0, .negSucc 0)], [], []), (sxE0, [], [], ([], .ofNat 0))),
  ((25, 7, 0), ([], [], []), (sxE0, [], [], ([(5, .ofNat 1), (0, .negSucc 0)], .ofNat 0))),
  ((25, 7, 0), ([], [], []), (sxE0, [], [], ([(6, .ofNat 1), (5, .negSucc 0)], .negSucc 0))),
  ((68, 11, 0), ([(9, .ofNat 0)], [], []), (sxE0, [], [], ([], .ofNat 0))),
  ((68, 8, 0), ([], [], []), (sxE0, [], [], ([], .ofNat 0))),
  ((68, 11, 0), ([(10, .ofNat 0)], [], []), (sxE0, [], [], ([], .ofNat 0)))]
theorem sxvI129 : (sx_exec sxRT [sxI1] [] sxhI129 111 0 sxI129.2.2.1 (sx_argl 0 sxI129.2.2.2.1) [] [] sxjI129).isSome = true := by decide +kernel
theorem sxmI129 {PF : Nat → List Int → List (Nat → Int) → Prop} {l : Launch} : sx_met PF sxRT sxMy sxMc sxML sxMr sxTK l sxI129 := by
  obtain ⟨its2, hk⟩ := Option.isSome_iff_exists.mp sxvI129
  exact sx_met_of (h := sxhI129) sxTK_ok (sxTK2 sxksX6_ok) sxt_X6_letWith sxFW_ok (sx_cons (sxmI1) sx_nil) (fun L h => by cases h) rfl (by decide +kernel) (by decide) rfl ⟨rfl, rfl, rfl, rfl⟩ hk
def sxI130 : sxI := (214, (4, 87), ([(.ofNat 0, .ofNat 0), (.ofNat 0, .ofNat 0), (.ofNat 0, .ofNat 0)], [36, 20, 26], 0, [], [], [((0, 0), (0, .ofNat 3), (2, 1, .ofNat 0)), ((0, 0), (0, .ofNat 4), (2, 2, .ofNat 0))], []), [(2, 0, .ofNat 0), (0, 1, .ofNat 0), (0, 2, .ofNat 0)], [], [(([(.negSucc 0, .ofNat 6)], [], 0, [], [], [((0, 0), (0, .ofNat 3), (2, 1, .ofNat 0)), ((0, 0), (0, .ofNat 4), (2, 2, .ofNat 0))], []), some (0, 3, .ofNat 0))])
def sxhI130 : sxH := (sxk_X6_bestSheet, sxgX6, sxpX6, sxcX6, (sxkiX6, sxklX6, sxksX6), (5, sxI130.2.2.2.2.1, sxI130.2.2.2.2.2, 0), (3, 3, 0), (4, 87))
def sxjI130 : List sxJ := [((5, 0, 0), ([(0, .ofNat 0), (0, .negSucc 0)], [], []), (([(.ofNat 0, .ofNat 7), (.negSucc 0, .ofNat 6)], [], 0, [], [], [((0, 0), (0, .ofNat 3), (2, 1, .ofNat 0)), ((0, 0), (0, .ofNat 4), (2, 2, .ofNat 0))], []), [(4, (0, 3, .ofNat 0)), (3, (0, 4, .ofNat 0)), (0, (2, 0, .ofNat 0)), (1, (0, 1, .ofNat 0)), (2, (0, 2, .ofNat 0))], [], ([(3, .negSucc 0)], .ofNat 7))),
  ((54, 11, 0), ([(4, .ofNat 0)], [], []), (sxE0, [], [], ([], .ofNat 0))),
  ((31, 10, 4), ([(0, .ofNat 0), (1, .ofNat 0), (2, .ofNat 0), (3, .ofNat 0)], [0, 1, 2], []), (sxE0, [], [], ([], .ofNat 0))),
  ((38, 10, 6), ([(0, .ofNat 0), (1, .ofNat 0), (2, .ofNat 0), (4, .ofNat 0)], [0, 1, 2], []), (sxE0, [], [], ([], .ofNat 0))),
  ((5, 2, 0), ([(3, .ofNat 1), (4, .ofNat 0)], [], []), (sxE0, [], [], ([], .ofNat 0))),
  ((5, 2, 0), ([(3, .ofNat 1), (3, .ofNat 0)], [], []), (sxE0, [], [], ([], .ofNat 0)))]
theorem sxvI130 : (sx_exec sxRT [sxI123, sxI124, sxI125, sxI126, sxI127, sxI128, sxI129] [] sxhI130 125 0 sxI130.2.2.1 (sx_argl 0 sxI130.2.2.2.1) [] [] sxjI130).isSome = true := by decide +kernel
theorem sxmI130 {PF : Nat → List Int → List (Nat → Int) → Prop} {l : Launch} : sx_met PF sxRT sxMy sxMc sxML sxMr sxTK l sxI130 := by
  obtain ⟨its2, hk⟩ := Option.isSome_iff_exists.mp sxvI130
  exact sx_met_of (h := sxhI130) sxTK_ok (sxTK2 sxksX6_ok) sxt_X6_bestSheet sxFW_ok (sx_cons (sxmI123) (sx_cons (sxmI124) (sx_cons (sxmI125) (sx_cons (sxmI126) (sx_cons (sxmI127) (sx_cons (sxmI128) (sx_cons (sxmI129) sx_nil))))))) (fun L h => by cases h) rfl (by decide +kernel) (by decide) rfl ⟨rfl, rfl, rfl, rfl⟩ hk
def sxI131 : sxI := (220, (3, 62), ([(.ofNat 0, .ofNat 0), (.negSucc 2147483647, .ofNat 2147483647), (.ofNat 0, .ofNat 1), (.ofNat 0, .ofNat 0)], [36, 20, 26], 0, [], [], [((0, 0), (0, .ofNat 3), (2, 1, .ofNat 0)), ((0, 0), (0, .ofNat 4), (2, 2, .ofNat 0))], []), [(2, 0, .ofNat 0), (0, 1, .ofNat 0), (0, 2, .ofNat 0), (0, 3, .ofNat 0)], [], [(([(.negSucc 2147483647, .ofNat 2147483647)], [], 0, [], [], [((0, 0), (0, .ofNat 3), (2, 1, .ofNat 0)), ((0, 0), (0, .ofNat 4), (2, 2, .ofNat 0))], []), some (0, 4, .ofNat 0))])
def sxhI131 : sxH := (sxk_X6_letWith, sxgX6, sxpX6, sxcX6, (sxkiX6, sxklX6, sxksX6), (6, sxI131.2.2.2.2.1, sxI131.2.2.2.2.2, 0), (4, 3, 0), (3, 62))
def sxjI131 : List sxJ := [((22, 10, 0), ([(0, .ofNat 0), (5, .ofNat 0), (0, .ofNat 0), (6, .negSucc 0)], [], []), (sxE0, [], [], ([], .ofNat 0))),
  ((29, 11, 0), ([(0, .negSucc 0)], [], []), (sxE0, [], [], ([], .ofNat 0))),
  ((25, 7, 0), ([], [], []), (sxE0, [], [], ([(5, .ofNat 1), (0, .negSucc 0)], .ofNat 0))),
  ((25, 7, 0), ([], [], []), (sxE0, [], [], ([(6, .ofNat 1), (5, .negSucc 0)], .negSucc 0))),
  ((68, 11, 0), ([(9, .ofNat 0)], [], []), (sxE0, [], [], ([], .ofNat 0))),
  ((68, 8, 0), ([], [], []), (sxE0, [], [], ([], .ofNat 0))),
  ((68, 11, 0), ([(10, .ofNat 0)], [], []), (sxE0, [], [], ([], .ofNat 0)))]
theorem sxvI131 : (sx_exec sxRT [sxI1] [] sxhI131 108 0 sxI131.2.2.1 (sx_argl 0 sxI131.2.2.2.1) [] [] sxjI131).isSome = true := by decide +kernel
theorem sxmI131 {PF : Nat → List Int → List (Nat → Int) → Prop} {l : Launch} : sx_met PF sxRT sxMy sxMc sxML sxMr sxTK l sxI131 := by
  obtain ⟨its2, hk⟩ := Option.isSome_iff_exists.mp sxvI131
  exact sx_met_of (h := sxhI131) sxTK_ok (sxTK2 sxksX6_ok) sxt_X6_letWith sxFW_ok (sx_cons (sxmI1) sx_nil) (fun L h => by cases h) rfl (by decide +kernel) (by decide) rfl ⟨rfl, rfl, rfl, rfl⟩ hk
def sxI132 : sxI := (220, (2, 40), ([(.ofNat 0, .ofNat 0), (.negSucc 2147483647, .ofNat 2147483647), (.ofNat 0, .ofNat 1), (.negSucc 0, .negSucc 0)], [36, 20, 26], 0, [], [], [((0, 0), (0, .ofNat 3), (2, 1, .ofNat 0)), ((0, 0), (0, .ofNat 4), (2, 2, .ofNat 0))], []), [(2, 0, .ofNat 0), (0, 1, .ofNat 0), (0, 2, .ofNat 0), (0, 3, .ofNat 0)], [], [(([], [], 0, [], [], [((0, 0), (0, .ofNat 3), (2, 1, .ofNat 0)), ((0, 0), (0, .ofNat 4), (2, 2, .ofNat 0))], []), some (0, 0, .negSucc 0))])
def sxhI132 : sxH := (sxk_X6_letWith, sxgX6, sxpX6, sxcX6, (sxkiX6, sxklX6, sxksX6), (6, sxI132.2.2.2.2.1, sxI132.2.2.2.2.2, 0), (4, 3, 0), (2, 40))
def sxjI132 : List sxJ := [((29, 11, 0), ([], [], []), (sxE0, [], [], ([], .ofNat 0)))]
theorem sxvI132 : (sx_exec sxRT [] [] sxhI132 62 0 sxI132.2.2.1 (sx_argl 0 sxI132.2.2.2.1) [] [] sxjI132).isSome = true := by decide +kernel
theorem sxmI132 {PF : Nat → List Int → List (Nat → Int) → Prop} {l : Launch} : sx_met PF sxRT sxMy sxMc sxML sxMr sxTK l sxI132 := by
  obtain ⟨its2, hk⟩ := Option.isSome_iff_exists.mp sxvI132
  exact sx_met_of (h := sxhI132) sxTK_ok (sxTK2 sxksX6_ok) sxt_X6_letWith sxFW_ok sx_nil (fun L h => by cases h) rfl (by decide +kernel) (by decide) rfl ⟨rfl, rfl, rfl, rfl⟩ hk
def sxI133 : sxI := (220, (3, 62), ([(.ofNat 0, .ofNat 0), (.negSucc 2147483647, .ofNat 2147483647), (.ofNat 0, .ofNat 1), (.ofNat 0, .ofNat 1)], [36, 20, 26], 0, [], [], [((0, 0), (0, .ofNat 3), (2, 1, .ofNat 0)), ((0, 0), (0, .ofNat 4), (2, 2, .ofNat 0))], []), [(2, 0, .ofNat 0), (0, 1, .ofNat 0), (0, 2, .ofNat 0), (0, 3, .ofNat 0)], [], [(([(.negSucc 2147483647, .ofNat 2147483647)], [], 0, [], [], [((0, 0), (0, .ofNat 3), (2, 1, .ofNat 0)), ((0, 0), (0, .ofNat 4), (2, 2, .ofNat 0))], []), some (0, 4, .ofNat 0))])
def sxhI133 : sxH := (sxk_X6_letWith, sxgX6, sxpX6, sxcX6, (sxkiX6, sxklX6, sxksX6), (6, sxI133.2.2.2.2.1, sxI133.2.2.2.2.2, 0), (4, 3, 0), (3, 62))
def sxjI133 : List sxJ := [((22, 10, 0), ([(0, .ofNat 0), (5, .ofNat 0), (0, .ofNat 0), (6, .negSucc 0)], [], []), (sxE0, [], [], ([], .ofNat 0))),
  ((29, 11, 0), ([(0, .negSucc 0)], [], []), (sxE0, [], [], ([], .ofNat 0))),
  ((25, 7, 0), ([], [], []), (sxE0, [], [], ([(5, .ofNat 1), (0, .negSucc 0)], .ofNat 0))),
  ((25, 7, 0), ([], [], []), (sxE0, [], [], ([(6, .ofNat 1), (5, .negSucc 0)], .negSucc 0))),
  ((68, 11, 0), ([(9, .ofNat 0)], [], []), (sxE0, [], [], ([], .ofNat 0))),
  ((68, 8, 0), ([], [], []), (sxE0, [], [], ([], .ofNat 0))),
  ((68, 11, 0), ([(10, .ofNat 0)], [], []), (sxE0, [], [], ([], .ofNat 0)))]
theorem sxvI133 : (sx_exec sxRT [sxI1] [] sxhI133 108 0 sxI133.2.2.1 (sx_argl 0 sxI133.2.2.2.1) [] [] sxjI133).isSome = true := by decide +kernel
theorem sxmI133 {PF : Nat → List Int → List (Nat → Int) → Prop} {l : Launch} : sx_met PF sxRT sxMy sxMc sxML sxMr sxTK l sxI133 := by
  obtain ⟨its2, hk⟩ := Option.isSome_iff_exists.mp sxvI133
  exact sx_met_of (h := sxhI133) sxTK_ok (sxTK2 sxksX6_ok) sxt_X6_letWith sxFW_ok (sx_cons (sxmI1) sx_nil) (fun L h => by cases h) rfl (by decide +kernel) (by decide) rfl ⟨rfl, rfl, rfl, rfl⟩ hk
def sxI134 : sxI := (220, (3, 62), ([(.ofNat 0, .ofNat 0), (.negSucc 2147483647, .ofNat 2147483647), (.ofNat 0, .ofNat 1), (.negSucc 0, .ofNat 0)], [36, 20, 26], 0, [], [], [((0, 0), (0, .ofNat 3), (2, 1, .ofNat 0)), ((0, 0), (0, .ofNat 4), (2, 2, .ofNat 0))], []), [(2, 0, .ofNat 0), (0, 1, .ofNat 0), (0, 2, .ofNat 0), (0, 3, .ofNat 0)], [], [(([(.negSucc 2147483647, .ofNat 2147483647)], [], 0, [], [], [((0, 0), (0, .ofNat 3), (2, 1, .ofNat 0)), ((0, 0), (0, .ofNat 4), (2, 2, .ofNat 0))], []), some (0, 4, .ofNat 0))])
def sxhI134 : sxH := (sxk_X6_letWith, sxgX6, sxpX6, sxcX6, (sxkiX6, sxklX6, sxksX6), (6, sxI134.2.2.2.2.1, sxI134.2.2.2.2.2, 0), (4, 3, 0), (3, 62))
def sxjI134 : List sxJ := [((29, 11, 0), ([(0, .negSucc 0)], [], []), (sxE0, [], [], ([], .ofNat 0))),
  ((22, 10, 0), ([(0, .ofNat 0), (5, .ofNat 0), (0, .ofNat 0), (6, .negSucc 0)], [], []), (sxE0, [], [], ([], .ofNat 0))),
  ((29, 11, 0), ([(0, .negSucc 0)], [], []), (sxE0, [], [], ([], .ofNat 0))),
  ((25, 7, 0), ([], [], []), (sxE0, [], [], ([(5, .ofNat 1), (0, .negSucc 0)], .ofNat 0))),
  ((25, 7, 0), ([], [], []), (sxE0, [], [], ([(6, .ofNat 1), (5, .negSucc 0)], .negSucc 0))),
  ((68, 11, 0), ([(9, .ofNat 0)], [], []), (sxE0, [], [], ([], .ofNat 0))),
  ((68, 8, 0), ([], [], []), (sxE0, [], [], ([], .ofNat 0))),
  ((68, 11, 0), ([(10, .ofNat 0)], [], []), (sxE0, [], [], ([], .ofNat 0)))]
theorem sxvI134 : (sx_exec sxRT [sxI1] [] sxhI134 111 0 sxI134.2.2.1 (sx_argl 0 sxI134.2.2.2.1) [] [] sxjI134).isSome = true := by decide +kernel
theorem sxmI134 {PF : Nat → List Int → List (Nat → Int) → Prop} {l : Launch} : sx_met PF sxRT sxMy sxMc sxML sxMr sxTK l sxI134 := by
  obtain ⟨its2, hk⟩ := Option.isSome_iff_exists.mp sxvI134
  exact sx_met_of (h := sxhI134) sxTK_ok (sxTK2 sxksX6_ok) sxt_X6_letWith sxFW_ok (sx_cons (sxmI1) sx_nil) (fun L h => by cases h) rfl (by decide +kernel) (by decide) rfl ⟨rfl, rfl, rfl, rfl⟩ hk
def sxI135 : sxI := (220, (3, 62), ([(.ofNat 0, .ofNat 0), (.negSucc 2147483647, .ofNat 2147483647), (.ofNat 0, .ofNat 1), (.ofNat 0, .ofNat 6)], [36, 20, 26], 0, [], [], [((0, 0), (0, .ofNat 3), (2, 1, .ofNat 0)), ((0, 0), (0, .ofNat 4), (2, 2, .ofNat 0))], []), [(2, 0, .ofNat 0), (0, 1, .ofNat 0), (0, 2, .ofNat 0), (0, 3, .ofNat 0)], [], [(([(.negSucc 2147483647, .ofNat 2147483647)], [], 0, [], [], [((0, 0), (0, .ofNat 3), (2, 1, .ofNat 0)), ((0, 0), (0, .ofNat 4), (2, 2, .ofNat 0))], []), some (0, 4, .ofNat 0))])
def sxhI135 : sxH := (sxk_X6_letWith, sxgX6, sxpX6, sxcX6, (sxkiX6, sxklX6, sxksX6), (6, sxI135.2.2.2.2.1, sxI135.2.2.2.2.2, 0), (4, 3, 0), (3, 62))
def sxjI135 : List sxJ := [((22, 10, 0), ([(0, .ofNat 0), (5, .ofNat 0), (0, .ofNat 0), (6, .negSucc 0)], [], []), (sxE0, [], [], ([], .ofNat 0))),
  ((29, 11, 0), ([(0, .negSucc 0)], [], []), (sxE0, [], [], ([], .ofNat 0))),
  ((25, 7, 0), ([], [], []), (sxE0, [], [], ([(5, .ofNat 1), (0, .negSucc 0)], .ofNat 0))),
  ((25, 7, 0), ([], [], []), (sxE0, [], [], ([(6, .ofNat 1), (5, .negSucc 0)], .negSucc 0))),
  ((68, 11, 0), ([(9, .ofNat 0)], [], []), (sxE0, [], [], ([], .ofNat 0))),
  ((68, 8, 0), ([], [], []), (sxE0, [], [], ([], .ofNat 0))),
  ((68, 11, 0), ([(10, .ofNat 0)], [], []), (sxE0, [], [], ([], .ofNat 0)))]
theorem sxvI135 : (sx_exec sxRT [sxI1] [] sxhI135 108 0 sxI135.2.2.1 (sx_argl 0 sxI135.2.2.2.1) [] [] sxjI135).isSome = true := by decide +kernel
theorem sxmI135 {PF : Nat → List Int → List (Nat → Int) → Prop} {l : Launch} : sx_met PF sxRT sxMy sxMc sxML sxMr sxTK l sxI135 := by
  obtain ⟨its2, hk⟩ := Option.isSome_iff_exists.mp sxvI135
  exact sx_met_of (h := sxhI135) sxTK_ok (sxTK2 sxksX6_ok) sxt_X6_letWith sxFW_ok (sx_cons (sxmI1) sx_nil) (fun L h => by cases h) rfl (by decide +kernel) (by decide) rfl ⟨rfl, rfl, rfl, rfl⟩ hk
def sxI136 : sxI := (220, (3, 62), ([(.ofNat 0, .ofNat 0), (.negSucc 2147483647, .ofNat 2147483647), (.ofNat 0, .ofNat 1), (.negSucc 0, .ofNat 1)], [36, 20, 26], 0, [], [], [((0, 0), (0, .ofNat 3), (2, 1, .ofNat 0)), ((0, 0), (0, .ofNat 4), (2, 2, .ofNat 0))], []), [(2, 0, .ofNat 0), (0, 1, .ofNat 0), (0, 2, .ofNat 0), (0, 3, .ofNat 0)], [], [(([(.negSucc 2147483647, .ofNat 2147483647)], [], 0, [], [], [((0, 0), (0, .ofNat 3), (2, 1, .ofNat 0)), ((0, 0), (0, .ofNat 4), (2, 2, .ofNat 0))], []), some (0, 4, .ofNat 0))])
def sxhI136 : sxH := (sxk_X6_letWith, sxgX6, sxpX6, sxcX6, (sxkiX6, sxklX6, sxksX6), (6, sxI136.2.2.2.2.1, sxI136.2.2.2.2.2, 0), (4, 3, 0), (3, 62))
def sxjI136 : List sxJ := [((29, 11, 0), ([(0, .negSucc 0)], [], []), (sxE0, [], [], ([], .ofNat 0))),
  ((22, 10, 0), ([(0, .ofNat 0), (5, .ofNat 0), (0, .ofNat 0), (6, .negSucc 0)], [], []), (sxE0, [], [], ([], .ofNat 0))),
  ((29, 11, 0), ([(0, .negSucc 0)], [], []), (sxE0, [], [], ([], .ofNat 0))),
  ((25, 7, 0), ([], [], []), (sxE0, [], [], ([(5, .ofNat 1), (0, .negSucc 0)], .ofNat 0))),
  ((25, 7, 0), ([], [], []), (sxE0, [], [], ([(6, .ofNat 1), (5, .negSucc 0)], .negSucc 0))),
  ((68, 11, 0), ([(9, .ofNat 0)], [], []), (sxE0, [], [], ([], .ofNat 0))),
  ((68, 8, 0), ([], [], []), (sxE0, [], [], ([], .ofNat 0))),
  ((68, 11, 0), ([(10, .ofNat 0)], [], []), (sxE0, [], [], ([], .ofNat 0)))]
theorem sxvI136 : (sx_exec sxRT [sxI1] [] sxhI136 111 0 sxI136.2.2.1 (sx_argl 0 sxI136.2.2.2.1) [] [] sxjI136).isSome = true := by decide +kernel
theorem sxmI136 {PF : Nat → List Int → List (Nat → Int) → Prop} {l : Launch} : sx_met PF sxRT sxMy sxMc sxML sxMr sxTK l sxI136 := by
  obtain ⟨its2, hk⟩ := Option.isSome_iff_exists.mp sxvI136
  exact sx_met_of (h := sxhI136) sxTK_ok (sxTK2 sxksX6_ok) sxt_X6_letWith sxFW_ok (sx_cons (sxmI1) sx_nil) (fun L h => by cases h) rfl (by decide +kernel) (by decide) rfl ⟨rfl, rfl, rfl, rfl⟩ hk
def sxI137 : sxI := (220, (3, 62), ([(.ofNat 0, .ofNat 0), (.negSucc 2147483647, .ofNat 2147483647), (.ofNat 0, .ofNat 1), (.negSucc 0, .ofNat 6)], [36, 20, 26], 0, [], [], [((0, 0), (0, .ofNat 3), (2, 1, .ofNat 0)), ((0, 0), (0, .ofNat 4), (2, 2, .ofNat 0))], []), [(2, 0, .ofNat 0), (0, 1, .ofNat 0), (0, 2, .ofNat 0), (0, 3, .ofNat 0)], [], [(([(.negSucc 2147483647, .ofNat 2147483647)], [], 0, [], [], [((0, 0), (0, .ofNat 3), (2, 1, .ofNat 0)), ((0, 0), (0, .ofNat 4), (2, 2, .ofNat 0))], []), some (0, 4, .ofNat 0))])
def sxhI137 : sxH := (sxk_X6_letWith, sxgX6, sxpX6, sxcX6, (sxkiX6, sxklX6, sxksX6), (6, sxI137.2.2.2.2.1, sxI137.2.2.2.2.2, 0), (4, 3, 0), (3, 62))
def sxjI137 : List sxJ := [((29, 11, 0), ([(0, .negSucc 0)], [], []), (sxE0, [], [], ([], .ofNat 0))),
  ((22, 10, 0), ([(0, .ofNat 0), (5, .ofNat 0), (0, .ofNat 0), (6, .negSucc 0)], [], []), (sxE0, [], [], ([], .ofNat 0))),
  ((29, 11, 0), ([(0, .negSucc 0)], [], []), (sxE0, [], [], ([], .ofNat 0))),
  ((25, 7, 0), ([], [], []), (sxE0, [], [], ([(5, .ofNat 1), (0, .negSucc 0)], .ofNat 0))),
  ((25, 7, 0), ([], [], []), (sxE0, [], [], ([(6, .ofNat 1), (5, .negSucc 0)], .negSucc 0))),
  ((68, 11, 0), ([(9, .ofNat 0)], [], []), (sxE0, [], [], ([], .ofNat 0))),
  ((68, 8, 0), ([], [], []), (sxE0, [], [], ([], .ofNat 0))),
  ((68, 11, 0), ([(10, .ofNat 0)], [], []), (sxE0, [], [], ([], .ofNat 0)))]
theorem sxvI137 : (sx_exec sxRT [sxI1] [] sxhI137 111 0 sxI137.2.2.1 (sx_argl 0 sxI137.2.2.2.1) [] [] sxjI137).isSome = true := by decide +kernel
theorem sxmI137 {PF : Nat → List Int → List (Nat → Int) → Prop} {l : Launch} : sx_met PF sxRT sxMy sxMc sxML sxMr sxTK l sxI137 := by
  obtain ⟨its2, hk⟩ := Option.isSome_iff_exists.mp sxvI137
  exact sx_met_of (h := sxhI137) sxTK_ok (sxTK2 sxksX6_ok) sxt_X6_letWith sxFW_ok (sx_cons (sxmI1) sx_nil) (fun L h => by cases h) rfl (by decide +kernel) (by decide) rfl ⟨rfl, rfl, rfl, rfl⟩ hk
def sxI138 : sxI := (214, (4, 87), ([(.ofNat 0, .ofNat 0), (.negSucc 2147483647, .ofNat 2147483647), (.ofNat 0, .ofNat 1)], [36, 20, 26], 0, [], [], [((0, 0), (0, .ofNat 3), (2, 1, .ofNat 0)), ((0, 0), (0, .ofNat 4), (2, 2, .ofNat 0))], []), [(2, 0, .ofNat 0), (0, 1, .ofNat 0), (0, 2, .ofNat 0)], [], [(([(.negSucc 0, .ofNat 6)], [], 0, [], [], [((0, 0), (0, .ofNat 3), (2, 1, .ofNat 0)), ((0, 0), (0, .ofNat 4), (2, 2, .ofNat 0))], []), some (0, 3, .ofNat 0))])
def sxhI138 : sxH := (sxk_X6_bestSheet, sxgX6, sxpX6, sxcX6, (sxkiX6, sxklX6, sxksX6), (5, sxI138.2.2.2.2.1, sxI138.2.2.2.2.2, 0), (3, 3, 0), (4, 87))
def sxjI138 : List sxJ := [((5, 0, 0), ([(0, .ofNat 0), (0, .negSucc 0)], [], []), (([(.ofNat 0, .ofNat 7), (.negSucc 0, .ofNat 6)], [], 0, [], [], [((0, 0), (0, .ofNat 3), (2, 1, .ofNat 0)), ((0, 0), (0, .ofNat 4), (2, 2, .ofNat 0))], []), [(4, (0, 3, .ofNat 0)), (3, (0, 4, .ofNat 0)), (0, (2, 0, .ofNat 0)), (1, (0, 1, .ofNat 0)), (2, (0, 2, .ofNat 0))], [], ([(3, .negSucc 0)], .ofNat 7))),
  ((54, 11, 0), ([(4, .ofNat 0)], [], []), (sxE0, [], [], ([], .ofNat 0))),
  ((5, 2, 0), ([(3, .ofNat 1), (4, .ofNat 0)], [], []), (sxE0, [], [], ([], .ofNat 0))),
  ((31, 10, 4), ([(0, .ofNat 0), (1, .ofNat 0), (2, .ofNat 0), (3, .ofNat 0)], [0, 1, 2], []), (sxE0, [], [], ([], .ofNat 0))),
  ((38, 10, 6), ([(0, .ofNat 0), (1, .ofNat 0), (2, .ofNat 0), (4, .ofNat 0)], [0, 1, 2], []), (sxE0, [], [], ([], .ofNat 0))),
  ((5, 2, 0), ([(3, .ofNat 1), (4, .ofNat 0)], [], []), (sxE0, [], [], ([], .ofNat 0))),
  ((5, 2, 0), ([(3, .ofNat 1), (3, .ofNat 0)], [], []), (sxE0, [], [], ([], .ofNat 0)))]
theorem sxvI138 : (sx_exec sxRT [sxI131, sxI132, sxI133, sxI134, sxI135, sxI136, sxI137] [] sxhI138 129 0 sxI138.2.2.1 (sx_argl 0 sxI138.2.2.2.1) [] [] sxjI138).isSome = true := by decide +kernel
theorem sxmI138 {PF : Nat → List Int → List (Nat → Int) → Prop} {l : Launch} : sx_met PF sxRT sxMy sxMc sxML sxMr sxTK l sxI138 := by
  obtain ⟨its2, hk⟩ := Option.isSome_iff_exists.mp sxvI138
  exact sx_met_of (h := sxhI138) sxTK_ok (sxTK2 sxksX6_ok) sxt_X6_bestSheet sxFW_ok (sx_cons (sxmI131) (sx_cons (sxmI132) (sx_cons (sxmI133) (sx_cons (sxmI134) (sx_cons (sxmI135) (sx_cons (sxmI136) (sx_cons (sxmI137) sx_nil))))))) (fun L h => by cases h) rfl (by decide +kernel) (by decide) rfl ⟨rfl, rfl, rfl, rfl⟩ hk
def sxI139 : sxI := (220, (3, 62), ([(.ofNat 0, .ofNat 0), (.negSucc 2147483647, .ofNat 2147483647), (.ofNat 0, .ofNat 6), (.ofNat 0, .ofNat 0)], [36, 20, 26], 0, [], [], [((0, 0), (0, .ofNat 3), (2, 1, .ofNat 0)), ((0, 0), (0, .ofNat 4), (2, 2, .ofNat 0))], []), [(2, 0, .ofNat 0), (0, 1, .ofNat 0), (0, 2, .ofNat 0), (0, 3, .ofNat 0)], [], [(([(.negSucc 2147483647, .ofNat 2147483647)], [], 0, [], [], [((0, 0), (0, .ofNat 3), (2, 1, .ofNat 0)), ((0, 0), (0, .ofNat 4), (2, 2, .ofNat 0))], []), some (0, 4, .ofNat 0))])
def sxhI139 : sxH := (sxk_X6_letWith, sxgX6, sxpX6, sxcX6, (sxkiX6, sxklX6, sxksX6), (6, sxI139.2.2.2.2.1, sxI139.2.2.2.2.2, 0), (4, 3, 0), (3, 62))
def sxjI139 : List sxJ := [((22, 10, 0), ([(0, .ofNat 0), (5, .ofNat 0), (0, .ofNat 0), (6, .negSucc 0)], [], []), (sxE0, [], [], ([], .ofNat 0))),
  ((29, 11, 0), ([(0, .negSucc 0)], [], []), (sxE0, [], [], ([], .ofNat 0))),
  ((25, 7, 0), ([], [], []), (sxE0, [], [], ([(5, .ofNat 1), (0, .negSucc 0)], .ofNat 0))),
  ((25, 7, 0), ([], [], []), (sxE0, [], [], ([(6, .ofNat 1), (5, .negSucc 0)], .negSucc 0))),
  ((68, 11, 0), ([(9, .ofNat 0)], [], []), (sxE0, [], [], ([], .ofNat 0))),
  ((68, 8, 0), ([], [], []), (sxE0, [], [], ([], .ofNat 0))),
  ((68, 11, 0), ([(10, .ofNat 0)], [], []), (sxE0, [], [], ([], .ofNat 0)))]
theorem sxvI139 : (sx_exec sxRT [sxI1] [] sxhI139 108 0 sxI139.2.2.1 (sx_argl 0 sxI139.2.2.2.1) [] [] sxjI139).isSome = true := by decide +kernel
theorem sxmI139 {PF : Nat → List Int → List (Nat → Int) → Prop} {l : Launch} : sx_met PF sxRT sxMy sxMc sxML sxMr sxTK l sxI139 := by
  obtain ⟨its2, hk⟩ := Option.isSome_iff_exists.mp sxvI139
  exact sx_met_of (h := sxhI139) sxTK_ok (sxTK2 sxksX6_ok) sxt_X6_letWith sxFW_ok (sx_cons (sxmI1) sx_nil) (fun L h => by cases h) rfl (by decide +kernel) (by decide) rfl ⟨rfl, rfl, rfl, rfl⟩ hk
def sxI140 : sxI := (220, (2, 40), ([(.ofNat 0, .ofNat 0), (.negSucc 2147483647, .ofNat 2147483647), (.ofNat 0, .ofNat 6), (.negSucc 0, .negSucc 0)], [36, 20, 26], 0, [], [], [((0, 0), (0, .ofNat 3), (2, 1, .ofNat 0)), ((0, 0), (0, .ofNat 4), (2, 2, .ofNat 0))], []), [(2, 0, .ofNat 0), (0, 1, .ofNat 0), (0, 2, .ofNat 0), (0, 3, .ofNat 0)], [], [(([], [], 0, [], [], [((0, 0), (0, .ofNat 3), (2, 1, .ofNat 0)), ((0, 0), (0, .ofNat 4), (2, 2, .ofNat 0))], []), some (0, 0, .negSucc 0))])
def sxhI140 : sxH := (sxk_X6_letWith, sxgX6, sxpX6, sxcX6, (sxkiX6, sxklX6, sxksX6), (6, sxI140.2.2.2.2.1, sxI140.2.2.2.2.2, 0), (4, 3, 0), (2, 40))
def sxjI140 : List sxJ := [((29, 11, 0), ([], [], []), (sxE0, [], [], ([], .ofNat 0)))]
theorem sxvI140 : (sx_exec sxRT [] [] sxhI140 62 0 sxI140.2.2.1 (sx_argl 0 sxI140.2.2.2.1) [] [] sxjI140).isSome = true := by decide +kernel
theorem sxmI140 {PF : Nat → List Int → List (Nat → Int) → Prop} {l : Launch} : sx_met PF sxRT sxMy sxMc sxML sxMr sxTK l sxI140 := by
  obtain ⟨its2, hk⟩ := Option.isSome_iff_exists.mp sxvI140
  exact sx_met_of (h := sxhI140) sxTK_ok (sxTK2 sxksX6_ok) sxt_X6_letWith sxFW_ok sx_nil (fun L h => by cases h) rfl (by decide +kernel) (by decide) rfl ⟨rfl, rfl, rfl, rfl⟩ hk
def sxI141 : sxI := (220, (3, 62), ([(.ofNat 0, .ofNat 0), (.negSucc 2147483647, .ofNat 2147483647), (.ofNat 0, .ofNat 6), (.ofNat 0, .ofNat 1)], [36, 20, 26], 0, [], [], [((0, 0), (0, .ofNat 3), (2, 1, .ofNat 0)), ((0, 0), (0, .ofNat 4), (2, 2, .ofNat 0))], []), [(2, 0, .ofNat 0), (0, 1, .ofNat 0), (0, 2, .ofNat 0), (0, 3, .ofNat 0)], [], [(([(.negSucc 2147483647, .ofNat 2147483647)], [], 0, [], [], [((0, 0), (0, .ofNat 3), (2, 1, .ofNat 0)), ((0, 0), (0, .ofNat 4), (2, 2, .ofNat 0))], []), some (0, 4, .ofNat 0))])
def sxhI141 : sxH := (sxk_X6_letWith, sxgX6, sxpX6, sxcX6, (sxkiX6, sxklX6, sxksX6), (6, sxI141.2.2.2.2.1, sxI141.2.2.2.2.2, 0), (4, 3, 0), (3, 62))
def sxjI141 : List sxJ := [((22, 10, 0), ([(0, .ofNat 0), (5, .ofNat 0), (0, .ofNat 0), (6, .negSucc 0)], [], []), (sxE0, [], [], ([], .ofNat 0))),
  ((29, 11, 0), ([(0, .negSucc 0)], [], []), (sxE0, [], [], ([], .ofNat 0))),
  ((25, 7, 0), ([], [], []), (sxE0, [], [], ([(5, .ofNat 1), (0, .negSucc 0)], .ofNat 0))),
  ((25, 7, 0), ([], [], []), (sxE0, [], [], ([(6, .ofNat 1), (5, .negSucc 0)], .negSucc 0))),
  ((68, 11, 0), ([(9, .ofNat 0)], [], []), (sxE0, [], [], ([], .ofNat 0))),
  ((68, 8, 0), ([], [], []), (sxE0, [], [], ([], .ofNat 0))),
  ((68, 11, 0), ([(10, .ofNat 0)], [], []), (sxE0, [], [], ([], .ofNat 0)))]
theorem sxvI141 : (sx_exec sxRT [sxI1] [] sxhI141 108 0 sxI141.2.2.1 (sx_argl 0 sxI141.2.2.2.1) [] [] sxjI141).isSome = true := by decide +kernel
theorem sxmI141 {PF : Nat → List Int → List (Nat → Int) → Prop} {l : Launch} : sx_met PF sxRT sxMy sxMc sxML sxMr sxTK l sxI141 := by
  obtain ⟨its2, hk⟩ := Option.isSome_iff_exists.mp sxvI141
  exact sx_met_of (h := sxhI141) sxTK_ok (sxTK2 sxksX6_ok) sxt_X6_letWith sxFW_ok (sx_cons (sxmI1) sx_nil) (fun L h => by cases h) rfl (by decide +kernel) (by decide) rfl ⟨rfl, rfl, rfl, rfl⟩ hk
def sxI142 : sxI := (220, (3, 62), ([(.ofNat 0, .ofNat 0), (.negSucc 2147483647, .ofNat 2147483647), (.ofNat 0, .ofNat 6), (.negSucc 0, .ofNat 0)], [36, 20, 26], 0, [], [], [((0, 0), (0, .ofNat 3), (2, 1, .ofNat 0)), ((0, 0), (0, .ofNat 4), (2, 2, .ofNat 0))], []), [(2, 0, .ofNat 0), (0, 1, .ofNat 0), (0, 2, .ofNat 0), (0, 3, .ofNat 0)], [], [(([(.negSucc 2147483647, .ofNat 2147483647)], [], 0, [], [], [((0, 0), (0, .ofNat 3), (2, 1, .ofNat 0)), ((0, 0), (0, .ofNat 4), (2, 2, .ofNat 0))], []), some (0, 4, .ofNat 0))])
def sxhI142 : sxH := (sxk_X6_letWith, sxgX6, sxpX6, sxcX6, (sxkiX6, sxklX6, sxksX6), (6, sxI142.2.2.2.2.1, sxI142.2.2.2.2.2, 0), (4, 3, 0), (3, 62))
def sxjI142 : List sxJ := [((29, 11, 0), ([(0, .negSucc 0)], [], []), (sxE0, [], [], ([], .ofNat 0))),
  ((22, 10, 0), ([(0, .ofNat 0), (5, .ofNat 0), (0, .ofNat 0), (6, .negSucc 0)], [], []), (sxE0, [], [], ([], .ofNat 0))),
  ((29, 11, 0), ([(0, .negSucc 0)], [], []), (sxE0, [], [], ([], .ofNat 0))),
  ((25, 7, 0), ([], [], []), (sxE0, [], [], ([(5, .ofNat 1), (0, .negSucc 0)], .ofNat 0))),
  ((25, 7, 0), ([], [], []), (sxE0, [], [], ([(6, .ofNat 1), (5, .negSucc 0)], .negSucc 0))),
  ((68, 11, 0), ([(9, .ofNat 0)], [], []), (sxE0, [], [], ([], .ofNat 0))),
  ((68, 8, 0), ([], [], []), (sxE0, [], [], ([], .ofNat 0))),
  ((68, 11, 0), ([(10, .ofNat 0)], [], []), (sxE0, [], [], ([], .ofNat 0)))]
theorem sxvI142 : (sx_exec sxRT [sxI1] [] sxhI142 111 0 sxI142.2.2.1 (sx_argl 0 sxI142.2.2.2.1) [] [] sxjI142).isSome = true := by decide +kernel
theorem sxmI142 {PF : Nat → List Int → List (Nat → Int) → Prop} {l : Launch} : sx_met PF sxRT sxMy sxMc sxML sxMr sxTK l sxI142 := by
  obtain ⟨its2, hk⟩ := Option.isSome_iff_exists.mp sxvI142
  exact sx_met_of (h := sxhI142) sxTK_ok (sxTK2 sxksX6_ok) sxt_X6_letWith sxFW_ok (sx_cons (sxmI1) sx_nil) (fun L h => by cases h) rfl (by decide +kernel) (by decide) rfl ⟨rfl, rfl, rfl, rfl⟩ hk
def sxI143 : sxI := (220, (3, 62), ([(.ofNat 0, .ofNat 0), (.negSucc 2147483647, .ofNat 2147483647), (.ofNat 0, .ofNat 6), (.ofNat 0, .ofNat 6)], [36, 20, 26], 0, [], [], [((0, 0), (0, .ofNat 3), (2, 1, .ofNat 0)), ((0, 0), (0, .ofNat 4), (2, 2, .ofNat 0))], []), [(2, 0, .ofNat 0), (0, 1, .ofNat 0), (0, 2, .ofNat 0), (0, 3, .ofNat 0)], [], [(([(.negSucc 2147483647, .ofNat 2147483647)], [], 0, [], [], [((0, 0), (0, .ofNat 3), (2, 1, .ofNat 0)), ((0, 0), (0, .ofNat 4), (2, 2, .ofNat 0))], []), some (0, 4, .ofNat 0))])
def sxhI143 : sxH := (sxk_X6_letWith, sxgX6, sxpX6, sxcX6, (sxkiX6, sxklX6, sxksX6), (6, sxI143.2.2.2.2.1, sxI143.2.2.2.2.2, 0), (4, 3, 0), (3, 62))
def sxjI143 : List sxJ := [((22, 10, 0), ([(0, .ofNat 0), (5, .ofNat 0), (0, .ofNat 0), (6, .negSucc 0)], [], []), (sxE0, [], [], ([], .ofNat 0))),
  ((29, 11, 0), ([(0, .negSucc 0)], [], []), (sxE0, [], [], ([], .ofNat 0))),
  ((25, 7, 0), ([], [], []), (sxE0, [], [], ([(5, .ofNat 1), (0, .negSucc 0)], .ofNat 0))),
  ((25, 7, 0), ([], [], []), (sxE0, [], [], ([(6, .ofNat 1), (5, .negSucc 0)], .negSucc 0))),
  ((68, 11, 0), ([(9, .ofNat 0)], [], []), (sxE0, [], [], ([], .ofNat 0))),
  ((68, 8, 0), ([], [], []), (sxE0, [], [], ([], .ofNat 0))),
  ((68, 11, 0), ([(10, .ofNat 0)], [], []), (sxE0, [], [], ([], .ofNat 0)))]
theorem sxvI143 : (sx_exec sxRT [sxI1] [] sxhI143 108 0 sxI143.2.2.1 (sx_argl 0 sxI143.2.2.2.1) [] [] sxjI143).isSome = true := by decide +kernel
theorem sxmI143 {PF : Nat → List Int → List (Nat → Int) → Prop} {l : Launch} : sx_met PF sxRT sxMy sxMc sxML sxMr sxTK l sxI143 := by
  obtain ⟨its2, hk⟩ := Option.isSome_iff_exists.mp sxvI143
  exact sx_met_of (h := sxhI143) sxTK_ok (sxTK2 sxksX6_ok) sxt_X6_letWith sxFW_ok (sx_cons (sxmI1) sx_nil) (fun L h => by cases h) rfl (by decide +kernel) (by decide) rfl ⟨rfl, rfl, rfl, rfl⟩ hk
def sxI144 : sxI := (220, (3, 62), ([(.ofNat 0, .ofNat 0), (.negSucc 2147483647, .ofNat 2147483647), (.ofNat 0, .ofNat 6), (.negSucc 0, .ofNat 1)], [36, 20, 26], 0, [], [], [((0, 0), (0, .ofNat 3), (2, 1, .ofNat 0)), ((0, 0), (0, .ofNat 4), (2, 2, .ofNat 0))], []), [(2, 0, .ofNat 0), (0, 1, .ofNat 0), (0, 2, .ofNat 0), (0, 3, .ofNat 0)], [], [(([(.negSucc 2147483647, .ofNat 2147483647)], [], 0, [], [], [((0, 0), (0, .ofNat 3), (2, 1, .ofNat 0)), ((0, 0), (0, .ofNat 4), (2, 2, .ofNat 0))], []), some (0, 4, .ofNat 0))])
def sxhI144 : sxH := (sxk_X6_letWith, sxgX6, sxpX6, sxcX6, (sxkiX6, sxklX6, sxksX6), (6, sxI144.2.2.2.2.1, sxI144.2.2.2.2.2, 0), (4, 3, 0), (3, 62))
def sxjI144 : List sxJ := [((29, 11, 0), ([(0, .negSucc 0)], [], []), (sxE0, [], [], ([], .ofNat 0))),
  ((22, 10, 0), ([(0, .ofNat 0), (5, .ofNat 0), (0, .ofNat 0), (6, .negSucc 0)], [], []), (sxE0, [], [], ([], .ofNat 0))),
  ((29, 11, 0), ([(0, .negSucc 0)], [], []), (sxE0, [], [], ([], .ofNat 0))),
  ((25, 7, 0), ([], [], []), (sxE0, [], [], ([(5, .ofNat 1), (0, .negSucc 0)], .ofNat 0))),
  ((25, 7, 0), ([], [], []), (sxE0, [], [], ([(6, .ofNat 1), (5, .negSucc 0)], .negSucc 0))),
  ((68, 11, 0), ([(9, .ofNat 0)], [], []), (sxE0, [], [], ([], .ofNat 0))),
  ((68, 8, 0), ([], [], []), (sxE0, [], [], ([], .ofNat 0))),
  ((68, 11, 0), ([(10, .ofNat 0)], [], []), (sxE0, [], [], ([], .ofNat 0)))]
theorem sxvI144 : (sx_exec sxRT [sxI1] [] sxhI144 111 0 sxI144.2.2.1 (sx_argl 0 sxI144.2.2.2.1) [] [] sxjI144).isSome = true := by decide +kernel
theorem sxmI144 {PF : Nat → List Int → List (Nat → Int) → Prop} {l : Launch} : sx_met PF sxRT sxMy sxMc sxML sxMr sxTK l sxI144 := by
  obtain ⟨its2, hk⟩ := Option.isSome_iff_exists.mp sxvI144
  exact sx_met_of (h := sxhI144) sxTK_ok (sxTK2 sxksX6_ok) sxt_X6_letWith sxFW_ok (sx_cons (sxmI1) sx_nil) (fun L h => by cases h) rfl (by decide +kernel) (by decide) rfl ⟨rfl, rfl, rfl, rfl⟩ hk
def sxI145 : sxI := (220, (3, 62), ([(.ofNat 0, .ofNat 0), (.negSucc 2147483647, .ofNat 2147483647), (.ofNat 0, .ofNat 6), (.negSucc 0, .ofNat 6)], [36, 20, 26], 0, [], [], [((0, 0), (0, .ofNat 3), (2, 1, .ofNat 0)), ((0, 0), (0, .ofNat 4), (2, 2, .ofNat 0))], []), [(2, 0, .ofNat 0), (0, 1, .ofNat 0), (0, 2, .ofNat 0), (0, 3, .ofNat 0)], [], [(([(.negSucc 2147483647, .ofNat 2147483647)], [], 0, [], [], [((0, 0), (0, .ofNat 3), (2, 1, .ofNat 0)), ((0, 0), (0, .ofNat 4), (2, 2, .ofNat 0))], []), some (0, 4, .ofNat 0))])
def sxhI145 : sxH := (sxk_X6_letWith, sxgX6, sxpX6, sxcX6, (sxkiX6, sxklX6, sxksX6), (6, sxI145.2.2.2.2.1, sxI145.2.2.2.2.2, 0), (4, 3, 0), (3, 62))
def sxjI145 : List sxJ := [((29, 11, 0), ([(0, .negSucc 0)], [], []), (sxE0, [], [], ([], .ofNat 0))),
  ((22, 10, 0), ([(0, .ofNat 0), (5, .ofNat 0), (0, .ofNat 0), (6, .negSucc 0)], [], []), (sxE0, [], [], ([], .ofNat 0))),
  ((29, 11, 0), ([(0, .negSucc 0)], [], []), (sxE0, [], [], ([], .ofNat 0))),
  ((25, 7, 0), ([], [], []), (sxE0, [], [], ([(5, .ofNat 1), (0, .negSucc 0)], .ofNat 0))),
  ((25, 7, 0), ([], [], []), (sxE0, [], [], ([(6, .ofNat 1), (5, .negSucc 0)], .negSucc 0))),
  ((68, 11, 0), ([(9, .ofNat 0)], [], []), (sxE0, [], [], ([], .ofNat 0))),
  ((68, 8, 0), ([], [], []), (sxE0, [], [], ([], .ofNat 0))),
  ((68, 11, 0), ([(10, .ofNat 0)], [], []), (sxE0, [], [], ([], .ofNat 0)))]
theorem sxvI145 : (sx_exec sxRT [sxI1] [] sxhI145 111 0 sxI145.2.2.1 (sx_argl 0 sxI145.2.2.2.1) [] [] sxjI145).isSome = true := by decide +kernel
theorem sxmI145 {PF : Nat → List Int → List (Nat → Int) → Prop} {l : Launch} : sx_met PF sxRT sxMy sxMc sxML sxMr sxTK l sxI145 := by
  obtain ⟨its2, hk⟩ := Option.isSome_iff_exists.mp sxvI145
  exact sx_met_of (h := sxhI145) sxTK_ok (sxTK2 sxksX6_ok) sxt_X6_letWith sxFW_ok (sx_cons (sxmI1) sx_nil) (fun L h => by cases h) rfl (by decide +kernel) (by decide) rfl ⟨rfl, rfl, rfl, rfl⟩ hk
def sxI146 : sxI := (214, (4, 87), ([(.ofNat 0, .ofNat 0), (.negSucc 2147483647, .ofNat 2147483647), (.ofNat 0, .ofNat 6)], [36, 20, 26], 0, [], [], [((0, 0), (0, .ofNat 3), (2, 1, .ofNat 0)), ((0, 0), (0, .ofNat 4), (2, 2, .ofNat 0))], []), [(2, 0, .ofNat 0), (0, 1, .ofNat 0), (0, 2, .ofNat 0)], [], [(([(.negSucc 0, .ofNat 6)], [], 0, [], [], [((0, 0), (0, .ofNat 3), (2, 1, .ofNat 0)), ((0, 0), (0, .ofNat 4), (2, 2, .ofNat 0))], []), some (0, 3, .ofNat 0))])
def sxhI146 : sxH := (sxk_X6_bestSheet, sxgX6, sxpX6, sxcX6, (sxkiX6, sxklX6, sxksX6), (5, sxI146.2.2.2.2.1, sxI146.2.2.2.2.2, 0), (3, 3, 0), (4, 87))
def sxjI146 : List sxJ := [((5, 0, 0), ([(0, .ofNat 0), (0, .negSucc 0)], [], []), (([(.ofNat 0, .ofNat 7), (.negSucc 0, .ofNat 6)], [], 0, [], [], [((0, 0), (0, .ofNat 3), (2, 1, .ofNat 0)), ((0, 0), (0, .ofNat 4), (2, 2, .ofNat 0))], []), [(4, (0, 3, .ofNat 0)), (3, (0, 4, .ofNat 0)), (0, (2, 0, .ofNat 0)), (1, (0, 1, .ofNat 0)), (2, (0, 2, .ofNat 0))], [], ([(3, .negSucc 0)], .ofNat 7))),
  ((54, 11, 0), ([(4, .ofNat 0)], [], []), (sxE0, [], [], ([], .ofNat 0))),
  ((5, 2, 0), ([(3, .ofNat 1), (4, .ofNat 0)], [], []), (sxE0, [], [], ([], .ofNat 0))),
  ((31, 10, 4), ([(0, .ofNat 0), (1, .ofNat 0), (2, .ofNat 0), (3, .ofNat 0)], [0, 1, 2], []), (sxE0, [], [], ([], .ofNat 0))),
  ((38, 10, 6), ([(0, .ofNat 0), (1, .ofNat 0), (2, .ofNat 0), (4, .ofNat 0)], [0, 1, 2], []), (sxE0, [], [], ([], .ofNat 0))),
  ((5, 2, 0), ([(3, .ofNat 1), (4, .ofNat 0)], [], []), (sxE0, [], [], ([], .ofNat 0))),
  ((5, 2, 0), ([(3, .ofNat 1), (3, .ofNat 0)], [], []), (sxE0, [], [], ([], .ofNat 0)))]
theorem sxvI146 : (sx_exec sxRT [sxI139, sxI140, sxI141, sxI142, sxI143, sxI144, sxI145] [] sxhI146 129 0 sxI146.2.2.1 (sx_argl 0 sxI146.2.2.2.1) [] [] sxjI146).isSome = true := by decide +kernel
theorem sxmI146 {PF : Nat → List Int → List (Nat → Int) → Prop} {l : Launch} : sx_met PF sxRT sxMy sxMc sxML sxMr sxTK l sxI146 := by
  obtain ⟨its2, hk⟩ := Option.isSome_iff_exists.mp sxvI146
  exact sx_met_of (h := sxhI146) sxTK_ok (sxTK2 sxksX6_ok) sxt_X6_bestSheet sxFW_ok (sx_cons (sxmI139) (sx_cons (sxmI140) (sx_cons (sxmI141) (sx_cons (sxmI142) (sx_cons (sxmI143) (sx_cons (sxmI144) (sx_cons (sxmI145) sx_nil))))))) (fun L h => by cases h) rfl (by decide +kernel) (by decide) rfl ⟨rfl, rfl, rfl, rfl⟩ hk
def sxI147 : sxI := (2, (3, 120), ([(.ofNat 0, .ofNat 0), (.ofNat 0, .ofNat 126)], [], 0, [], [], [], []), [(0, 1, .ofNat 0)], [], [(([(.ofNat 0, .ofNat 6)], [], 0, [], [], [], []), some (0, 2, .ofNat 0))])
theorem sxmI147 {PF : Nat → List Int → List (Nat → Int) → Prop} {l : Launch} : sx_met PF sxRT sxMy sxMc sxML sxMr sxTK l sxI147 := sx_hbit h_bit6
def sxI148 : sxI := (215, (5, 140), ([(.ofNat 0, .ofNat 0)], [36, 20, 26], 0, [], [], [], []), [(2, 0, .ofNat 0), (2, 1, .ofNat 0), (2, 2, .ofNat 0)], [(36, 3, 5), (37, 0, 7), (38, 0, 128)], [(([(.negSucc 2147483647, .ofNat 2147483647)], [], 0, [], [], [], []), some (0, 1, .ofNat 0))])
def sxhI148 : sxH := (sxk_X6_findMost, sxgX6, sxpX6, sxcX6, (sxkiX6, sxklX6, sxksX6), (7, sxI148.2.2.2.2.1, sxI148.2.2.2.2.2, 0), (1, 3, 0), (5, 140))
def sxjI148 : List sxJ := [((34, 0, 0), ([(2, .negSucc 1)], [], []), (([(.negSucc 0, .ofNat 126)], [], 0, [([(2, .ofNat 1), (3, .negSucc 0)], .negSucc 1)], [], [((1, 3), (2, .negSucc 0), (0, 0, .ofNat 0)), ((0, 0), (0, .ofNat 1), (2, 3, .ofNat 0)), ((0, 1), (0, .ofNat 3), (0, 1, .ofNat 0)), ((0, 0), (0, .ofNat 4), (2, 2, .ofNat 0)), ((0, 0), (0, .ofNat 3), (2, 1, .ofNat 0))], []), [(4, (0, 3, .ofNat 0)), (3, (0, 2, .negSucc 0)), (0, (2, 0, .ofNat 0)), (1, (2, 1, .ofNat 0)), (2, (2, 2, .ofNat 0))], [], ([(3, .ofNat 1)], .ofNat 1))),
  ((85, 0, 0), ([(0, .ofNat 0), (0, .ofNat 0)], [], []), (([(.ofNat 0, .ofNat 7), (.negSucc 2147483647, .ofNat 2147483647)], [], 0, [], [], [((1, 3), (2, .negSucc 0), (0, 0, .ofNat 0)), ((0, 0), (0, .ofNat 1), (2, 3, .ofNat 0)), ((0, 1), (0, .ofNat 3), (0, 1, .ofNat 0)), ((0, 0), (0, .ofNat 4), (2, 2, .ofNat 0)), ((0, 0), (0, .ofNat 3), (2, 1, .ofNat 0))], []), [(5, (0, 4, .ofNat 0)), (4, (0, 5, .ofNat 0)), (3, (0, 2, .negSucc 0)), (0, (2, 0, .ofNat 0)), (1, (2, 1, .ofNat 0)), (2, (2, 2, .ofNat 0))], [], ([(4, .negSucc 0)], .ofNat 7))),
  ((138, 11, 0), ([(6, .ofNat 0)], [], []), (sxE0, [], [], ([], .ofNat 0))),
  ((108, 10, 2), ([(0, .ofNat 0), (5, .ofNat 0), (4, .ofNat 0)], [0, 1, 2], []), (sxE0, [], [], ([], .ofNat 0))),
  ((85, 2, 0), ([(4, .ofNat 1), (8, .ofNat 0)], [], []), (sxE0, [], [], ([], .ofNat 0))),
  ((41, 10, 3), ([(0, .ofNat 0), (3, .ofNat 0)], [], []), (sxE0, [], [], ([], .ofNat 0))),
  ((51, 10, 2), ([(0, .ofNat 0), (3, .ofNat 0), (4, .ofNat 0)], [0, 1, 2], []), (sxE0, [], [], ([], .ofNat 0))),
  ((69, 10, 4), ([(0, .ofNat 0), (3, .ofNat 0), (4, .ofNat 0), (5, .ofNat 0)], [0, 1, 2], []), (sxE0, [], [], ([], .ofNat 0))),
  ((34, 2, 0), ([(3, .negSucc 0)], [], []), (sxE0, [], [], ([], .ofNat 0)))]
theorem sxvI148 : (sx_exec sxRT [sxI130, sxI138, sxI146, sxI147, sxI145] [] sxhI148 210 0 sxI148.2.2.1 (sx_argl 0 sxI148.2.2.2.1) [] [] sxjI148).isSome = true := by decide +kernel
theorem sxmI148 {PF : Nat → List Int → List (Nat → Int) → Prop} {l : Launch} : sx_met PF sxRT sxMy sxMc sxML sxMr sxTK l sxI148 := by
  obtain ⟨its2, hk⟩ := Option.isSome_iff_exists.mp sxvI148
  exact sx_met_of (h := sxhI148) sxTK_ok (sxTK2 sxksX6_ok) sxt_X6_findMost sxFW_ok (sx_cons (sxmI130) (sx_cons (sxmI138) (sx_cons (sxmI146) (sx_cons (sxmI147) (sx_cons (sxmI145) sx_nil))))) (fun L h => by cases h) rfl (by decide +kernel) (by decide) rfl ⟨rfl, rfl, rfl, rfl⟩ hk
