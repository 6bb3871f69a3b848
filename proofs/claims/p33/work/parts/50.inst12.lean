def sxI210 : sxI := (64, (18, 453), ([(.ofNat 0, .ofNat 0), (.negSucc 2147483647, .ofNat 2147483647), (.negSucc 2147483647, .ofNat 2147483647)], [0], 0, [], [], [], []), [(2, 0, .ofNat 0), (0, 1, .ofNat 0), (0, 2, .ofNat 0)], [(36, 3, 6), (37, 0, 7), (40, 0, 7)], [(([(.negSucc 2147483647, .ofNat 2147483647)], [], 0, [], [], [], []), some (0, 3, .ofNat 0))])
def sxhI210 : sxH := (sxk_X11_told, sxgX11, sxpX11, sxcX11, (sxkiX11, sxklX11, sxksX11), (4, sxI210.2.2.2.2.1, sxI210.2.2.2.2.2, 0), (3, 1, 0), (18, 453))
def sxjI210 : List sxJ := [((47, 11, 0), ([(0, .negSucc 2)], [], []), (sxE0, [], [], ([], .ofNat 0))),
  ((17, 10, 0), ([(0, .ofNat 0), (2, .ofNat 0), (0, .negSucc 0), (0, .ofNat 6)], [], []), (sxE0, [], [], ([], .ofNat 0))),
  ((47, 11, 0), ([(0, .negSucc 2)], [], []), (sxE0, [], [], ([], .ofNat 0))),
  ((20, 7, 0), ([], [], []), (sxE0, [], [], ([(2, .ofNat 1), (0, .negSucc 0)], .ofNat 1))),
  ((20, 7, 0), ([], [], []), (sxE0, [], [], ([(0, .ofNat 1), (2, .negSucc 0)], .ofNat 6))),
  ((39, 10, 0), ([(0, .ofNat 0), (1, .ofNat 0), (0, .ofNat 0), (5, .negSucc 0)], [], []), (sxE0, [], [], ([], .ofNat 0))),
  ((47, 11, 0), ([(0, .negSucc 2)], [], []), (sxE0, [], [], ([], .ofNat 0))),
  ((42, 7, 0), ([], [], []), (sxE0, [], [], ([(1, .ofNat 1), (0, .negSucc 0)], .ofNat 0))),
  ((42, 7, 0), ([], [], []), (sxE0, [], [], ([(5, .ofNat 1), (1, .negSucc 0)], .negSucc 0))),
  ((67, 10, 1), ([(0, .ofNat 0), (1, .ofNat 0)], [3, 2, 4], []), (sxE0, [], [], ([], .ofNat 0))),
  ((97, 10, 2), ([(0, .ofNat 0), (2, .ofNat 0), (6, .ofNat 0), (4, .ofNat 0)], [3], []), (sxE0, [], [], ([], .ofNat 0))),
  ((100, 11, 0), ([(7, .ofNat 0)], [], []), (sxE0, [], [], ([], .ofNat 0))),
  ((100, 11, 0), ([(0, .negSucc 1)], [], []), (sxE0, [], [], ([], .ofNat 0)))]
theorem sxvI210 : (sx_exec sxRT [sxI1, sxI209, sxI149] [] sxhI210 120 0 sxI210.2.2.1 (sx_argl 0 sxI210.2.2.2.1) [] [] sxjI210).isSome = true := by decide +kernel
theorem sxmI210 {PF : Nat → List Int → List (Nat → Int) → Prop} {l : Launch} : sx_met PF sxRT sxMy sxMc sxML sxMr sxTK l sxI210 := by
  obtain ⟨its2, hk⟩ := Option.isSome_iff_exists.mp sxvI210
  exact sx_met_of (h := sxhI210) sxTK_ok (sxTK2 sxksX11_ok) sxt_X11_told sxFW_ok (sx_cons (sxmI1) (sx_cons (sxmI209) (sx_cons (sxmI149) sx_nil))) (fun L h => by cases h) rfl (by decide +kernel) (by decide) rfl ⟨rfl, rfl, rfl, rfl⟩ hk
def sxI211 : sxI := (65, (3, 61), ([(.ofNat 0, .ofNat 0), (.negSucc 2147483647, .ofNat 2147483647)], [0], 0, [], [], [], []), [(2, 0, .ofNat 0), (0, 1, .ofNat 0)], [], [(([(.negSucc 2147483647, .ofNat 2147483647)], [], 0, [], [], [], []), some (0, 2, .ofNat 0))])
def sxhI211 : sxH := (sxk_X11_turned, sxgX11, sxpX11, sxcX11, (sxkiX11, sxklX11, sxksX11), (2, sxI211.2.2.2.2.1, sxI211.2.2.2.2.2, 0), (2, 1, 0), (3, 61))
def sxjI211 : List sxJ := [((2, 10, 0), ([(0, .ofNat 0), (1, .ofNat 0)], [0], []), (sxE0, [], [], ([], .ofNat 0))),
  ((9, 11, 0), ([(0, .negSucc 0)], [], []), (sxE0, [], [], ([], .ofNat 0))),
  ((5, 7, 0), ([], [], []), (sxE0, [], [], ([(1, .ofNat 1)], .ofNat 0))),
  ((5, 7, 0), ([], [], []), (sxE0, [], [], ([(1, .negSucc 0)], .ofNat 6))),
  ((46, 8, 0), ([], [], []), (sxE0, [], [], ([], .ofNat 0))),
  ((46, 11, 0), ([(7, .ofNat 0)], [], []), (sxE0, [], [], ([], .ofNat 0)))]
theorem sxvI211 : (sx_exec sxRT [sxI0] [] sxhI211 82 0 sxI211.2.2.1 (sx_argl 0 sxI211.2.2.2.1) [] [] sxjI211).isSome = true := by decide +kernel
theorem sxmI211 {PF : Nat → List Int → List (Nat → Int) → Prop} {l : Launch} : sx_met PF sxRT sxMy sxMc sxML sxMr sxTK l sxI211 := by
  obtain ⟨its2, hk⟩ := Option.isSome_iff_exists.mp sxvI211
  exact sx_met_of (h := sxhI211) sxTK_ok (sxTK2 sxksX11_ok) sxt_X11_turned sxFW_ok (sx_cons (sxmI0) sx_nil) (fun L h => by cases h) rfl (by decide +kernel) (by decide) rfl ⟨rfl, rfl, rfl, rfl⟩ hk
def sxI212 : sxI := (66, (5, 112), ([(.ofNat 0, .ofNat 0), (.negSucc 2147483647, .ofNat 2147483647)], [0], 0, [], [], [], []), [(2, 0, .ofNat 0), (0, 1, .ofNat 0)], [], [(([(.negSucc 2147483647, .ofNat 2147483647)], [], 0, [], [], [], []), some (0, 2, .ofNat 0))])
def sxhI212 : sxH := (sxk_X11_twos, sxgX11, sxpX11, sxcX11, (sxkiX11, sxklX11, sxksX11), (2, sxI212.2.2.2.2.1, sxI212.2.2.2.2.2, 0), (2, 1, 0), (5, 112))
def sxjI212 : List sxJ := [((3, 10, 0), ([(0, .ofNat 0), (1, .ofNat 0), (0, .ofNat 1)], [0], []), (sxE0, [], [], ([], .ofNat 0))),
  ((6, 11, 0), ([(2, .ofNat 0)], [], []), (sxE0, [], [], ([], .ofNat 0)))]
theorem sxvI212 : (sx_exec sxRT [sxI171] [] sxhI212 57 0 sxI212.2.2.1 (sx_argl 0 sxI212.2.2.2.1) [] [] sxjI212).isSome = true := by decide +kernel
theorem sxmI212 {PF : Nat → List Int → List (Nat → Int) → Prop} {l : Launch} : sx_met PF sxRT sxMy sxMc sxML sxMr sxTK l sxI212 := by
  obtain ⟨its2, hk⟩ := Option.isSome_iff_exists.mp sxvI212
  exact sx_met_of (h := sxhI212) sxTK_ok (sxTK2 sxksX11_ok) sxt_X11_twos sxFW_ok (sx_cons (sxmI171) sx_nil) (fun L h => by cases h) rfl (by decide +kernel) (by decide) rfl ⟨rfl, rfl, rfl, rfl⟩ hk
def sxI213 : sxI := (222, (3, 61), ([(.ofNat 0, .ofNat 0), (.ofNat 1, .ofNat 20)], [31, 26], 0, [], [], [((0, 0), (0, .ofNat 2), (0, 1, .ofNat 0))], []), [(2, 0, .ofNat 0), (2, 1, .ofNat 0)], [(26, 4, 5), (27, 0, 7), (28, 0, 7), (29, 0, 7), (30, 0, 7), (31, 1, 3)], [(([], [], 0, [], [], [((0, 0), (0, .ofNat 2), (0, 1, .negSucc 0))], []), none)])
def sxhI213 : sxH := (sxk_X7_bringBack, sxgX7, sxpX7, sxcX7, (sxkiX7, sxklX7, sxksX7), (2, sxI213.2.2.2.2.1, sxI213.2.2.2.2.2, 4), (2, 2, 0), (3, 61))
def sxjI213 : List sxJ := [((10, 10, 0), ([(0, .ofNat 0)], [1, 3], []), (sxE0, [], [], ([], .ofNat 0))),
  ((39, 11, 0), ([], [], []), (sxE0, [], [], ([], .ofNat 0)))]
theorem sxvI213 : (sx_exec sxRT [sxI2] [] sxhI213 76 0 sxI213.2.2.1 (sx_argl 0 sxI213.2.2.2.1) [] [] sxjI213).isSome = true := by decide +kernel
theorem sxmI213 {PF : Nat → List Int → List (Nat → Int) → Prop} {l : Launch} : sx_met PF sxRT sxMy sxMc sxML sxMr sxTK l sxI213 := by
  obtain ⟨its2, hk⟩ := Option.isSome_iff_exists.mp sxvI213
  exact sx_met_of (h := sxhI213) sxTK_ok (sxTK2 sxksX7_ok) sxt_X7_bringBack sxFW_ok (sx_cons (sxmI2) sx_nil) (fun L h => by cases h) rfl (by decide +kernel) (by decide) rfl ⟨rfl, rfl, rfl, rfl⟩ hk
def sxI214 : sxI := (67, (4, 82), ([(.ofNat 0, .ofNat 0)], [0], 0, [], [], [], []), [(2, 0, .ofNat 0)], [(26, 4, 5), (27, 0, 7), (28, 0, 7), (29, 0, 7), (30, 0, 7), (31, 1, 3)], [(([(.negSucc 0, .ofNat 19)], [], 0, [], [], [], []), some (0, 1, .ofNat 0))])
def sxhI214 : sxH := (sxk_X11_undo, sxgX11, sxpX11, sxcX11, (sxkiX11, sxklX11, sxksX11), (1, sxI214.2.2.2.2.1, sxI214.2.2.2.2.2, 0), (1, 1, 0), (4, 82))
def sxjI214 : List sxJ := [((23, 10, 0), ([(0, .ofNat 0), (1, .ofNat 0)], [1, 3], []), (sxE0, [], [], ([], .ofNat 0))),
  ((33, 11, 0), ([(1, .negSucc 0)], [], []), (sxE0, [], [], ([], .ofNat 0))),
  ((11, 11, 0), ([(0, .negSucc 0)], [], []), (sxE0, [], [], ([], .ofNat 0)))]
theorem sxvI214 : (sx_exec sxRT [sxI213] [] sxhI214 69 0 sxI214.2.2.1 (sx_argl 0 sxI214.2.2.2.1) [] [] sxjI214).isSome = true := by decide +kernel
theorem sxmI214 {PF : Nat → List Int → List (Nat → Int) → Prop} {l : Launch} : sx_met PF sxRT sxMy sxMc sxML sxMr sxTK l sxI214 := by
  obtain ⟨its2, hk⟩ := Option.isSome_iff_exists.mp sxvI214
  exact sx_met_of (h := sxhI214) sxTK_ok (sxTK2 sxksX11_ok) sxt_X11_undo sxFW_ok (sx_cons (sxmI213) sx_nil) (fun L h => by cases h) rfl (by decide +kernel) (by decide) rfl ⟨rfl, rfl, rfl, rfl⟩ hk
def sxI215 : sxI := (68, (7, 197), ([(.ofNat 0, .ofNat 0)], [0], 0, [], [], [], []), [(2, 0, .ofNat 0)], [(26, 4, 5), (27, 0, 7), (28, 0, 7), (29, 0, 7), (30, 0, 7), (31, 1, 3), (34, 0, 12), (35, 0, 64)], [(([(.negSucc 0, .ofNat 127)], [], 0, [], [], [], []), some (0, 1, .ofNat 0))])
def sxhI215 : sxH := (sxk_X11_week, sxgX11, sxpX11, sxcX11, (sxkiX11, sxklX11, sxksX11), (1, sxI215.2.2.2.2.1, sxI215.2.2.2.2.2, 0), (1, 1, 0), (7, 197))
def sxjI215 : List sxJ := [((30, 11, 0), ([(0, .negSucc 0)], [], []), (sxE0, [], [], ([], .ofNat 0))),
  ((42, 10, 0), ([(0, .ofNat 0)], [4, 3], []), (sxE0, [], [], ([], .ofNat 0))),
  ((71, 10, 1), ([(0, .ofNat 0), (3, .ofNat 0)], [0], []), (sxE0, [], [], ([], .ofNat 0))),
  ((75, 10, 2), ([(0, .ofNat 0), (0, .negSucc 0)], [5, 2, 3], []), (sxE0, [], [], ([], .ofNat 0))),
  ((78, 11, 0), ([(4, .ofNat 0)], [], []), (sxE0, [], [], ([], .ofNat 0))),
  ((74, 7, 0), ([], [], []), (sxE0, [], [], ([(3, .ofNat 1)], .ofNat 0))),
  ((74, 7, 0), ([], [], []), (sxE0, [], [], ([(3, .negSucc 0)], .ofNat 5))),
  ((75, 10, 3), ([(0, .ofNat 0), (0, .negSucc 0)], [5, 2, 3, 6], []), (sxE0, [], [], ([], .ofNat 0))),
  ((78, 11, 0), ([(4, .ofNat 0)], [], []), (sxE0, [], [], ([], .ofNat 0))),
  ((30, 11, 0), ([(0, .negSucc 0)], [], []), (sxE0, [], [], ([], .ofNat 0)))]
theorem sxvI215 : (sx_exec sxRT [sxI39, sxI3, sxI11, sxI26] [] sxhI215 100 0 sxI215.2.2.1 (sx_argl 0 sxI215.2.2.2.1) [] [] sxjI215).isSome = true := by decide +kernel
theorem sxmI215 {PF : Nat → List Int → List (Nat → Int) → Prop} {l : Launch} : sx_met PF sxRT sxMy sxMc sxML sxMr sxTK l sxI215 := by
  obtain ⟨its2, hk⟩ := Option.isSome_iff_exists.mp sxvI215
  exact sx_met_of (h := sxhI215) sxTK_ok (sxTK2 sxksX11_ok) sxt_X11_week sxFW_ok (sx_cons (sxmI39) (sx_cons (sxmI3) (sx_cons (sxmI11) (sx_cons (sxmI26) sx_nil)))) (fun L h => by cases h) rfl (by decide +kernel) (by decide) rfl ⟨rfl, rfl, rfl, rfl⟩ hk
def sxI216 : sxI := (1, (3, 120), ([(.ofNat 0, .ofNat 0)], [71], 0, [], [], [], []), [(2, 0, .ofNat 0)], [], [(([], [], 0, [], [], [], []), some (0, 0, .ofNat 4))])
theorem sxmI216 {PF : Nat → List Int → List (Nat → Int) → Prop} {l : Launch} : sx_met PF sxRT sxMy sxMc sxML sxMr sxTK l sxI216 := sx_hlen (k := 3) rfl
def sxI217 : sxI := (0, (3, 120), ([(.ofNat 0, .ofNat 0), (.ofNat 0, .ofNat 3)], [71], 0, [], [], [], []), [(2, 0, .ofNat 0), (0, 1, .ofNat 0)], [], [(([(.ofNat 0, .ofNat 255)], [], 0, [], [], [], []), some (0, 2, .ofNat 0))])
theorem sxmI217 {PF : Nat → List Int → List (Nat → Int) → Prop} {l : Launch} : sx_met PF sxRT sxMy sxMc sxML sxMr sxTK l sxI217 := sx_hchr (k := 3) rfl
def sxI218 : sxI := (14, (4, 141), ([(.ofNat 0, .ofNat 0), (.ofNat 0, .ofNat 0), (.ofNat 4, .ofNat 4)], [1, 71], 0, [], [], [], []), [(2, 0, .ofNat 0), (2, 1, .ofNat 0), (0, 1, .ofNat 0), (0, 2, .ofNat 0)], [], [(([(.ofNat 0, .ofNat 0)], [], 0, [], [], [], []), some (0, 3, .ofNat 0)), (([(.ofNat 1, .ofNat 1)], [], 0, [], [], [], []), some (0, 3, .ofNat 0))])
def sxhI218 : sxH := (sxk_X10_isWordIn, sxgX10, sxpX10, sxcX10, (sxkiX10, sxklX10, sxksX10), (7, sxI218.2.2.2.2.1, sxI218.2.2.2.2.2, 1), (3, 2, 0), (4, 141))
def sxjI218 : List sxJ := [((47, 0, 0), ([(0, .ofNat 0), (0, .ofNat 0)], [], []), (([(.ofNat 0, .ofNat 0), (.ofNat 0, .ofNat 0)], [], 0, [], [], [((0, 0), (0, .ofNat 3), (0, 6, .ofNat 0)), ((0, 0), (0, .ofNat 4), (0, 4, .ofNat 0)), ((0, 0), (0, .ofNat 5), (0, 3, .ofNat 0))], []), [(6, (0, 7, .ofNat 0)), (5, (0, 8, .ofNat 0)), (4, (0, 5, .ofNat 0)), (0, (2, 0, .ofNat 0)), (1, (2, 1, .ofNat 0)), (2, (0, 1, .ofNat 0)), (3, (0, 2, .ofNat 0))], [], ([(7, .negSucc 0)], .ofNat 0))),
  ((107, 11, 0), ([(8, .ofNat 0)], [], []), (sxE0, [], [], ([], .ofNat 0))),
  ((47, 0, 0), ([(0, .ofNat 0), (0, .ofNat 0)], [], []), (([(.ofNat 0, .ofNat 0), (.ofNat 0, .ofNat 0)], [], 0, [], [], [((0, 0), (0, .ofNat 3), (0, 6, .ofNat 0)), ((0, 0), (0, .ofNat 4), (0, 4, .ofNat 0)), ((0, 0), (0, .ofNat 5), (0, 3, .ofNat 0))], []), [(6, (0, 7, .ofNat 0)), (5, (0, 8, .ofNat 0)), (4, (0, 5, .ofNat 0)), (0, (2, 0, .ofNat 0)), (1, (2, 1, .ofNat 0)), (2, (0, 1, .ofNat 0)), (3, (0, 2, .ofNat 0))], [], ([(7, .negSucc 0)], .ofNat 0))),
  ((107, 11, 0), ([(8, .ofNat 0)], [], []), (sxE0, [], [], ([], .ofNat 0))),
  ((31, 10, 0), ([(0, .ofNat 0)], [1], []), (sxE0, [], [], ([], .ofNat 0))),
  ((47, 0, 0), ([(0, .ofNat 0), (0, .ofNat 1)], [], []), (([(.ofNat 0, .ofNat 4), (.ofNat 0, .ofNat 1)], [], 0, [], [], [((0, 0), (0, .ofNat 3), (0, 6, .ofNat 0)), ((0, 0), (0, .ofNat 4), (0, 4, .ofNat 0)), ((0, 0), (0, .ofNat 5), (0, 3, .ofNat 0))], []), [(6, (0, 8, .ofNat 0)), (5, (0, 9, .ofNat 0)), (4, (0, 5, .ofNat 0)), (0, (2, 0, .ofNat 0)), (1, (2, 1, .ofNat 0)), (2, (0, 1, .ofNat 0)), (3, (0, 2, .ofNat 0))], [], ([(8, .negSucc 0)], .ofNat 4))),
  ((107, 11, 0), ([(9, .ofNat 0)], [], []), (sxE0, [], [], ([], .ofNat 0))),
  ((107, 11, 1), ([(9, .ofNat 0)], [], []), (sxE0, [], [], ([], .ofNat 0))),
  ((63, 10, 1), ([(0, .ofNat 0), (10, .ofNat 0)], [1], []), (sxE0, [], [], ([], .ofNat 0))),
  ((47, 2, 0), ([(8, .ofNat 1), (0, .ofNat 0)], [], []), (sxE0, [], [], ([], .ofNat 0))),
  ((47, 2, 0), ([(8, .ofNat 1), (0, .ofNat 1)], [], []), (sxE0, [], [], ([], .ofNat 0))),
  ((81, 10, 2), ([(0, .ofNat 0), (12, .ofNat 0)], [0], []), (sxE0, [], [], ([], .ofNat 0))),
  ((47, 2, 0), ([(8, .ofNat 1), (0, .ofNat 0)], [], []), (sxE0, [], [], ([], .ofNat 0))),
  ((84, 7, 0), ([], [], []), (sxE0, [], [], ([(12, .negSucc 0)], .ofNat 399))),
  ((47, 2, 0), ([(8, .ofNat 1), (0, .ofNat 0)], [], []), (sxE0, [], [], ([], .ofNat 0))),
  ((47, 2, 0), ([(8, .ofNat 1), (0, .ofNat 1)], [], []), (sxE0, [], [], ([], .ofNat 0)))]
theorem sxvI218 : (sx_exec sxRT [sxI216, sxI217, sxI63] [] sxhI218 221 0 sxI218.2.2.1 (sx_argl 0 sxI218.2.2.2.1) [] [] sxjI218).isSome = true := by decide +kernel
theorem sxmI218 {PF : Nat → List Int → List (Nat → Int) → Prop} {l : Launch} : sx_met PF sxRT sxMy sxMc sxML sxMr sxTK l sxI218 := by
  obtain ⟨its2, hk⟩ := Option.isSome_iff_exists.mp sxvI218
  exact sx_met_of (h := sxhI218) sxTK_ok (sxTK2 sxksX10_ok) sxt_X10_isWordIn sxFW_ok (sx_cons (sxmI216) (sx_cons (sxmI217) (sx_cons (sxmI63) sx_nil))) (fun L h => by cases h) rfl (by decide +kernel) (by decide) rfl ⟨rfl, rfl, rfl, rfl⟩ hk
def sxI219 : sxI := (13, (5, 167), ([(.ofNat 0, .ofNat 0)], [1, 71], 0, [], [], [], []), [(2, 0, .ofNat 0), (2, 1, .ofNat 0)], [], [(([(.ofNat 0, .ofNat 0)], [], 0, [], [], [], []), some (0, 1, .ofNat 0)), (([(.ofNat 1, .ofNat 1)], [], 0, [], [], [], []), some (0, 1, .ofNat 0))])
def sxhI219 : sxH := (sxk_X10_isWord, sxgX10, sxpX10, sxcX10, (sxkiX10, sxklX10, sxksX10), (2, sxI219.2.2.2.2.1, sxI219.2.2.2.2.2, 1), (1, 2, 0), (5, 167))
def sxjI219 : List sxJ := [((4, 10, 0), ([(0, .ofNat 0)], [1], []), (sxE0, [], [], ([], .ofNat 0))),
  ((7, 10, 1), ([(0, .ofNat 0), (0, .ofNat 0), (0, .ofNat 4)], [0, 1], []), (sxE0, [], [], ([], .ofNat 0))),
  ((10, 11, 0), ([(1, .ofNat 0)], [], []), (sxE0, [], [], ([], .ofNat 0))),
  ((10, 11, 1), ([(1, .ofNat 0)], [], []), (sxE0, [], [], ([], .ofNat 0)))]
theorem sxvI219 : (sx_exec sxRT [sxI216, sxI218] [] sxhI219 62 0 sxI219.2.2.1 (sx_argl 0 sxI219.2.2.2.1) [] [] sxjI219).isSome = true := by decide +kernel
theorem sxmI219 {PF : Nat → List Int → List (Nat → Int) → Prop} {l : Launch} : sx_met PF sxRT sxMy sxMc sxML sxMr sxTK l sxI219 := by
  obtain ⟨its2, hk⟩ := Option.isSome_iff_exists.mp sxvI219
  exact sx_met_of (h := sxhI219) sxTK_ok (sxTK2 sxksX10_ok) sxt_X10_isWord sxFW_ok (sx_cons (sxmI216) (sx_cons (sxmI218) sx_nil)) (fun L h => by cases h) rfl (by decide +kernel) (by decide) rfl ⟨rfl, rfl, rfl, rfl⟩ hk
def sxI220 : sxI := (1, (3, 120), ([(.ofNat 0, .ofNat 0)], [72], 0, [], [], [], []), [(2, 0, .ofNat 0)], [], [(([], [], 0, [], [], [], []), some (0, 0, .ofNat 72))])
theorem sxmI220 {PF : Nat → List Int → List (Nat → Int) → Prop} {l : Launch} : sx_met PF sxRT sxMy sxMc sxML sxMr sxTK l sxI220 := sx_hlen (k := 4) rfl
def sxI221 : sxI := (0, (3, 120), ([(.ofNat 0, .ofNat 0), (.ofNat 0, .ofNat 71)], [72], 0, [], [], [], []), [(2, 0, .ofNat 0), (0, 1, .ofNat 0)], [], [(([(.ofNat 0, .ofNat 255)], [], 0, [], [], [], []), some (0, 2, .ofNat 0))])
theorem sxmI221 {PF : Nat → List Int → List (Nat → Int) → Prop} {l : Launch} : sx_met PF sxRT sxMy sxMc sxML sxMr sxTK l sxI221 := sx_hchr (k := 4) rfl
def sxI222 : sxI := (14, (4, 141), ([(.ofNat 0, .ofNat 0), (.ofNat 0, .ofNat 0), (.ofNat 6, .ofNat 6)], [1, 72], 0, [], [], [], []), [(2, 0, .ofNat 0), (2, 1, .ofNat 0), (0, 1, .ofNat 0), (0, 2, .ofNat 0)], [], [(([(.ofNat 0, .ofNat 0)], [], 0, [], [], [], []), some (0, 3, .ofNat 0)), (([(.ofNat 1, .ofNat 1)], [], 0, [], [], [], []), some (0, 3, .ofNat 0))])
def sxhI222 : sxH := (sxk_X10_isWordIn, sxgX10, sxpX10, sxcX10, (sxkiX10, sxklX10, sxksX10), (7, sxI222.2.2.2.2.1, sxI222.2.2.2.2.2, 1), (3, 2, 0), (4, 141))
def sxjI222 : List sxJ := [((47, 0, 0), ([(0, .ofNat 0), (0, .ofNat 0)], [], []), (([(.ofNat 0, .ofNat 0), (.ofNat 0, .ofNat 0)], [], 0, [], [], [((0, 0), (0, .ofNat 3), (0, 6, .ofNat 0)), ((0, 0), (0, .ofNat 4), (0, 4, .ofNat 0)), ((0, 0), (0, .ofNat 5), (0, 3, .ofNat 0))], []), [(6, (0, 7, .ofNat 0)), (5, (0, 8, .ofNat 0)), (4, (0, 5, .ofNat 0)), (0, (2, 0, .ofNat 0)), (1, (2, 1, .ofNat 0)), (2, (0, 1, .ofNat 0)), (3, (0, 2, .ofNat 0))], [], ([(7, .negSucc 0)], .ofNat 0))),
  ((107, 11, 0), ([(8, .ofNat 0)], [], []), (sxE0, [], [], ([], .ofNat 0))),
  ((47, 0, 0), ([(0, .ofNat 0), (0, .ofNat 0)], [], []), (([(.ofNat 0, .ofNat 0), (.ofNat 0, .ofNat 0)], [], 0, [], [], [((0, 0), (0, .ofNat 3), (0, 6, .ofNat 0)), ((0, 0), (0, .ofNat 4), (0, 4, .ofNat 0)), ((0, 0), (0, .ofNat 5), (0, 3, .ofNat 0))], []), [(6, (0, 7, .ofNat 0)), (5, (0, 8, .ofNat 0)), (4, (0, 5, .ofNat 0)), (0, (2, 0, .ofNat 0)), (1, (2, 1, .ofNat 0)), (2, (0, 1, .ofNat 0)), (3, (0, 2, .ofNat 0))], [], ([(7, .negSucc 0)], .ofNat 0))),
  ((107, 11, 0), ([(8, .ofNat 0)], [], []), (sxE0, [], [], ([], .ofNat 0))),
  ((31, 10, 0), ([(0, .ofNat 0)], [1], []), (sxE0, [], [], ([], .ofNat 0))),
  ((47, 0, 0), ([(0, .ofNat 0), (0, .ofNat 1)], [], []), (([(.ofNat 0, .ofNat 6), (.ofNat 0, .ofNat 1)], [], 0, [], [], [((0, 0), (0, .ofNat 3), (0, 6, .ofNat 0)), ((0, 0), (0, .ofNat 4), (0, 4, .ofNat 0)), ((0, 0), (0, .ofNat 5), (0, 3, .ofNat 0))], []), [(6, (0, 8, .ofNat 0)), (5, (0, 9, .ofNat 0)), (4, (0, 5, .ofNat 0)), (0, (2, 0, .ofNat 0)), (1, (2, 1, .ofNat 0)), (2, (0, 1, .ofNat 0)), (3, (0, 2, .ofNat 0))], [], ([(8, .negSucc 0)], .ofNat 6))),
  ((107, 11, 0), ([(9, .ofNat 0)], [], []), (sxE0, [], [], ([], .ofNat 0))),
  ((107, 11, 1), ([(9, .ofNat 0)], [], []), (sxE0, [], [], ([], .ofNat 0))),
  ((63, 10, 1), ([(0, .ofNat 0), (10, .ofNat 0)], [1], []), (sxE0, [], [], ([], .ofNat 0))),
  ((47, 2, 0), ([(8, .ofNat 1), (0, .ofNat 0)], [], []), (sxE0, [], [], ([], .ofNat 0))),
  ((47, 2, 0), ([(8, .ofNat 1), (0, .ofNat 1)], [], []), (sxE0, [], [], ([], .ofNat 0))),
  ((81, 10, 2), ([(0, .ofNat 0), (12, .ofNat 0)], [0], []), (sxE0, [], [], ([], .ofNat 0))),
  ((47, 2, 0), ([(8, .ofNat 1), (0, .ofNat 0)], [], []), (sxE0, [], [], ([], .ofNat 0))),
  ((84, 7, 0), ([], [], []), (sxE0, [], [], ([(12, .negSucc 0)], .ofNat 399))),
  ((47, 2, 0), ([(8, .ofNat 1), (0, .ofNat 0)], [], []), (sxE0, [], [], ([], .ofNat 0))),
  ((47, 2, 0), ([(8, .ofNat 1), (0, .ofNat 1)], [], []), (sxE0, [], [], ([], .ofNat 0)))]
theorem sxvI222 : (sx_exec sxRT [sxI220, sxI221, sxI63] [] sxhI222 207 0 sxI222.2.2.1 (sx_argl 0 sxI222.2.2.2.1) [] [] sxjI222).isSome = true := by decide +kernel
theorem sxmI222 {PF : Nat → List Int → List (Nat → Int) → Prop} {l : Launch} : sx_met PF sxRT sxMy sxMc sxML sxMr sxTK l sxI222 := by
  obtain ⟨its2, hk⟩ := Option.isSome_iff_exists.mp sxvI222
  exact sx_met_of (h := sxhI222) sxTK_ok (sxTK2 sxksX10_ok) sxt_X10_isWordIn sxFW_ok (sx_cons (sxmI220) (sx_cons (sxmI221) (sx_cons (sxmI63) sx_nil))) (fun L h => by cases h) rfl (by decide +kernel) (by decide) rfl ⟨rfl, rfl, rfl, rfl⟩ hk
def sxI223 : sxI := (238, (2, 40), ([(.ofNat 0, .ofNat 0), (.negSucc 2147483647, .ofNat 2147483647)], [4, 1], 0, [], [], [((0, 0), (0, .ofNat 2), (2, 1, .ofNat 0))], []), [(2, 0, .ofNat 0), (0, 1, .ofNat 0)], [(4, 3, 4), (5, 0, 400)], [(([], [], 0, [], [], [((0, 0), (0, .ofNat 2), (2, 1, .ofNat 0))], []), some (0, 0, .ofNat 1)), (([], [], 0, [], [], [((0, 0), (0, .ofNat 2), (2, 1, .ofNat 0))], []), some (0, 0, .ofNat 0))])
def sxhI223 : sxH := (sxk_X9_writes, sxgX9, sxpX9, sxcX9, (sxkiX9, sxklX9, sxksX9), (2, sxI223.2.2.2.2.1, sxI223.2.2.2.2.2, 1), (2, 2, 0), (2, 40))
def sxjI223 : List sxJ := [((35, 11, 0), ([], [], []), (sxE0, [], [], ([], .ofNat 0))),
  ((13, 11, 1), ([], [], []), (sxE0, [], [], ([], .ofNat 0)))]
theorem sxvI223 : (sx_exec sxRT [] [] sxhI223 74 0 sxI223.2.2.1 (sx_argl 0 sxI223.2.2.2.1) [] [] sxjI223).isSome = true := by decide +kernel
theorem sxmI223 {PF : Nat → List Int → List (Nat → Int) → Prop} {l : Launch} : sx_met PF sxRT sxMy sxMc sxML sxMr sxTK l sxI223 := by
  obtain ⟨its2, hk⟩ := Option.isSome_iff_exists.mp sxvI223
  exact sx_met_of (h := sxhI223) sxTK_ok (sxTK2 sxksX9_ok) sxt_X9_writes sxFW_ok sx_nil (fun L h => by cases h) rfl (by decide +kernel) (by decide) rfl ⟨rfl, rfl, rfl, rfl⟩ hk
def sxI224 : sxI := (14, (4, 141), ([(.ofNat 0, .ofNat 0), (.ofNat 0, .ofNat 6), (.ofNat 6, .ofNat 6)], [1, 72], 0, [], [], [], []), [(2, 0, .ofNat 0), (2, 1, .ofNat 0), (0, 1, .ofNat 0), (0, 2, .ofNat 0)], [], [(([(.ofNat 0, .ofNat 0)], [], 0, [], [], [], []), some (0, 3, .ofNat 0)), (([(.ofNat 1, .ofNat 1)], [], 0, [], [], [], []), some (0, 3, .ofNat 0))])
def sxhI224 : sxH := (sxk_X10_isWordIn, sxgX10, sxpX10, sxcX10, (sxkiX10, sxklX10, sxksX10), (7, sxI224.2.2.2.2.1, sxI224.2.2.2.2.2, 1), (3, 2, 0), (4, 141))
def sxjI224 : List sxJ := [((47, 0, 0), ([(0, .ofNat 0), (0, .ofNat 0)], [], []), (([(.ofNat 0, .ofNat 0), (.ofNat 0, .ofNat 0)], [], 0, [], [], [((0, 0), (0, .ofNat 3), (0, 6, .ofNat 0)), ((0, 0), (0, .ofNat 4), (0, 4, .ofNat 0)), ((0, 0), (0, .ofNat 5), (0, 3, .ofNat 0))], []), [(6, (0, 7, .ofNat 0)), (5, (0, 8, .ofNat 0)), (4, (0, 5, .ofNat 0)), (0, (2, 0, .ofNat 0)), (1, (2, 1, .ofNat 0)), (2, (0, 1, .ofNat 0)), (3, (0, 2, .ofNat 0))], [], ([(7, .negSucc 0)], .ofNat 0))),
  ((107, 11, 0), ([(8, .ofNat 0)], [], []), (sxE0, [], [], ([], .ofNat 0))),
  ((47, 0, 0), ([(0, .ofNat 0), (0, .ofNat 0)], [], []), (([(.ofNat 0, .ofNat 0), (.ofNat 0, .ofNat 0)], [], 0, [], [], [((0, 0), (0, .ofNat 3), (0, 6, .ofNat 0)), ((0, 0), (0, .ofNat 4), (0, 4, .ofNat 0)), ((0, 0), (0, .ofNat 5), (0, 3, .ofNat 0))], []), [(6, (0, 7, .ofNat 0)), (5, (0, 8, .ofNat 0)), (4, (0, 5, .ofNat 0)), (0, (2, 0, .ofNat 0)), (1, (2, 1, .ofNat 0)), (2, (0, 1, .ofNat 0)), (3, (0, 2, .ofNat 0))], [], ([(7, .negSucc 0)], .ofNat 0))),
  ((107, 11, 0), ([(8, .ofNat 0)], [], []), (sxE0, [], [], ([], .ofNat 0))),
  ((31, 10, 0), ([(0, .ofNat 0)], [1], []), (sxE0, [], [], ([], .ofNat 0))),
  ((47, 0, 0), ([(0, .ofNat 0), (0, .ofNat 1)], [], []), (([(.ofNat 0, .ofNat 6), (.ofNat 0, .ofNat 1)], [], 0, [], [], [((0, 0), (0, .ofNat 3), (0, 6, .ofNat 0)), ((0, 0), (0, .ofNat 4), (0, 4, .ofNat 0)), ((0, 0), (0, .ofNat 5), (0, 3, .ofNat 0))], []), [(6, (0, 8, .ofNat 0)), (5, (0, 9, .ofNat 0)), (4, (0, 5, .ofNat 0)), (0, (2, 0, .ofNat 0)), (1, (2, 1, .ofNat 0)), (2, (0, 1, .ofNat 0)), (3, (0, 2, .ofNat 0))], [], ([(8, .negSucc 0)], .ofNat 6))),
  ((107, 11, 0), ([(9, .ofNat 0)], [], []), (sxE0, [], [], ([], .ofNat 0))),
  ((107, 11, 1), ([(9, .ofNat 0)], [], []), (sxE0, [], [], ([], .ofNat 0))),
  ((63, 10, 1), ([(0, .ofNat 0), (10, .ofNat 0)], [1], []), (sxE0, [], [], ([], .ofNat 0))),
  ((47, 2, 0), ([(8, .ofNat 1), (0, .ofNat 0)], [], []), (sxE0, [], [], ([], .ofNat 0))),
  ((47, 2, 0), ([(8, .ofNat 1), (0, .ofNat 1)], [], []), (sxE0, [], [], ([], .ofNat 0))),
  ((81, 10, 2), ([(0, .ofNat 0), (12, .ofNat 0)], [0], []), (sxE0, [], [], ([], .ofNat 0))),
  ((47, 2, 0), ([(8, .ofNat 1), (0, .ofNat 0)], [], []), (sxE0, [], [], ([], .ofNat 0))),
  ((84, 7, 0), ([], [], []), (sxE0, [], [], ([(12, .negSucc 0)], .ofNat 399))),
  ((47, 2, 0), ([(8, .ofNat 1), (0, .ofNat 0)], [], []), (sxE0, [], [], ([], .ofNat 0))),
  ((47, 2, 0), ([(8, .ofNat 1), (0, .ofNat 1)], [], []), (sxE0, [], [], ([], .ofNat 0)))]
theorem sxvI224 : (sx_exec sxRT [sxI220, sxI221, sxI63] [] sxhI224 207 0 sxI224.2.2.1 (sx_argl 0 sxI224.2.2.2.1) [] [] sxjI224).isSome = true := by decide +kernel
theorem sxmI224 {PF : Nat → List Int → List (Nat → Int) → Prop} {l : Launch} : sx_met PF sxRT sxMy sxMc sxML sxMr sxTK l sxI224 := by
  obtain ⟨its2, hk⟩ := Option.isSome_iff_exists.mp sxvI224
  exact sx_met_of (h := sxhI224) sxTK_ok (sxTK2 sxksX10_ok) sxt_X10_isWordIn sxFW_ok (sx_cons (sxmI220) (sx_cons (sxmI221) (sx_cons (sxmI63) sx_nil))) (fun L h => by cases h) rfl (by decide +kernel) (by decide) rfl ⟨rfl, rfl, rfl, rfl⟩ hk
def sxI225 : sxI := (14, (4, 141), ([(.ofNat 0, .ofNat 0), (.ofNat 0, .ofNat 36), (.ofNat 6, .ofNat 6)], [1, 72], 0, [], [], [], []), [(2, 0, .ofNat 0), (2, 1, .ofNat 0), (0, 1, .ofNat 0), (0, 2, .ofNat 0)], [], [(([(.ofNat 0, .ofNat 0)], [], 0, [], [], [], []), some (0, 3, .ofNat 0)), (([(.ofNat 1, .ofNat 1)], [], 0, [], [], [], []), some (0, 3, .ofNat 0))])
def sxhI225 : sxH := (sxk_X10_isWordIn, sxgX10, sxpX10, sxcX10, (sxkiX10, sxklX10, sxksX10), (7, sxI225.2.2.2.2.1, sxI225.2.2.2.2.2, 1), (3, 2, 0), (4, 141))
def sxjI225 : List sxJ := [((47, 0, 0), ([(0, .ofNat 0), (0, .ofNat 0)], [], []), (([(.ofNat 0, .ofNat 0), (.ofNat 0, .ofNat 0)], [], 0, [], [], [((0, 0), (0, .ofNat 3), (0, 6, .ofNat 0)), ((0, 0), (0, .ofNat 4), (0, 4, .ofNat 0)), ((0, 0), (0, .ofNat 5), (0, 3, .ofNat 0))], []), [(6, (0, 7, .ofNat 0)), (5, (0, 8, .ofNat 0)), (4, (0, 5, .ofNat 0)), (0, (2, 0, .ofNat 0)), (1, (2, 1, .ofNat 0)), (2, (0, 1, .ofNat 0)), (3, (0, 2, .ofNat 0))], [], ([(7, .negSucc 0)], .ofNat 0))),
  ((107, 11, 0), ([(8, .ofNat 0)], [], []), (sxE0, [], [], ([], .ofNat 0))),
  ((47, 0, 0), ([(0, .ofNat 0), (0, .ofNat 0)], [], []), (([(.ofNat 0, .ofNat 0), (.ofNat 0, .ofNat 0)], [], 0, [], [], [((0, 0), (0, .ofNat 3), (0, 6, .ofNat 0)), ((0, 0), (0, .ofNat 4), (0, 4, .ofNat 0)), ((0, 0), (0, .ofNat 5), (0, 3, .ofNat 0))], []), [(6, (0, 7, .ofNat 0)), (5, (0, 8, .ofNat 0)), (4, (0, 5, .ofNat 0)), (0, (2, 0, .ofNat 0)), (1, (2, 1, .ofNat 0)), (2, (0, 1, .ofNat 0)), (3, (0, 2, .ofNat 0))], [], ([(7, .negSucc 0)], .ofNat 0))),
  ((107, 11, 0), ([(8, .ofNat 0)], [], []), (sxE0, [], [], ([], .ofNat 0))),
  ((31, 10, 0), ([(0, .ofNat 0)], [1], []), (sxE0, [], [], ([], .ofNat 0))),
  ((47, 0, 0), ([(0, .ofNat 0), (0, .ofNat 1)], [], []), (([(.ofNat 0, .ofNat 6), (.ofNat 0, .ofNat 1)], [], 0, [], [], [((0, 0), (0, .ofNat 3), (0, 6, .ofNat 0)), ((0, 0), (0, .ofNat 4), (0, 4, .ofNat 0)), ((0, 0), (0, .ofNat 5), (0, 3, .ofNat 0))], []), [(6, (0, 8, .ofNat 0)), (5, (0, 9, .ofNat 0)), (4, (0, 5, .ofNat 0)), (0, (2, 0, .ofNat 0)), (1, (2, 1, .ofNat 0)), (2, (0, 1, .ofNat 0)), (3, (0, 2, .ofNat 0))], [], ([(8, .negSucc 0)], .ofNat 6))),
  ((107, 11, 0), ([(9, .ofNat 0)], [], []), (sxE0, [], [], ([], .ofNat 0))),
  ((107, 11, 1), ([(9, .ofNat 0)], [], []), (sxE0, [], [], ([], .ofNat 0))),
  ((63, 10, 1), ([(0, .ofNat 0), (10, .ofNat 0)], [1], []), (sxE0, [], [], ([], .ofNat 0))),
  ((47, 2, 0), ([(8, .ofNat 1), (0, .ofNat 0)], [], []), (sxE0, [], [], ([], .ofNat 0))),
  ((47, 2, 0), ([(8, .ofNat 1), (0, .ofNat 1)], [], []), (sxE0, [], [], ([], .ofNat 0))),
  ((81, 10, 2), ([(0, .ofNat 0), (12, .ofNat 0)], [0], []), (sxE0, [], [], ([], .ofNat 0))),
  ((47, 2, 0), ([(8, .ofNat 1), (0, .ofNat 0)], [], []), (sxE0, [], [], ([], .ofNat 0))),
  ((84, 7, 0), ([], [], []), (sxE0, [], [], ([(12, .negSucc 0)], .ofNat 399))),
  ((47, 2, 0), ([(8, .ofNat 1), (0, .ofNat 0)], [], []), (sxE0, [], [], ([], .ofNat 0))),
  ((47, 2, 0), ([(8, .ofNat 1), (0, .ofNat 1)], [], []), (sxE0, [], [], ([], .ofNat 0)))]
theorem sxvI225 : (sx_exec sxRT [sxI220, sxI221, sxI63] [] sxhI225 207 0 sxI225.2.2.1 (sx_argl 0 sxI225.2.2.2.1) [] [] sxjI225).isSome = true := by decide +kernel
theorem sxmI225 {PF : Nat → List Int → List (Nat → Int) → Prop} {l : Launch} : sx_met PF sxRT sxMy sxMc sxML sxMr sxTK l sxI225 := by
  obtain ⟨its2, hk⟩ := Option.isSome_iff_exists.mp sxvI225
  exact sx_met_of (h := sxhI225) sxTK_ok (sxTK2 sxksX10_ok) sxt_X10_isWordIn sxFW_ok (sx_cons (sxmI220) (sx_cons (sxmI221) (sx_cons (sxmI63) sx_nil))) (fun L h => by cases h) rfl (by decide +kernel) (by decide) rfl ⟨rfl, rfl, rfl, rfl⟩ hk
def sxI226 : sxI := (14, (4, 141), ([(.ofNat 0, .ofNat 0), (.ofNat 0, .ofNat 42), (.ofNat 6, .ofNat 6)], [1, 72], 0, [], [], [], []), [(2, 0, .ofNat 0), (2, 1, .ofNat 0), (0, 1, .ofNat 0), (0, 2, .ofNat 0)], [], [(([(.ofNat 0, .ofNat 0)], [], 0, [], [], [], []), some (0, 3, .ofNat 0)), (([(.ofNat 1, .ofNat 1)], [], 0, [], [], [], []), some (0, 3, .ofNat 0))])
def sxhI226 : sxH := (sxk_X10_isWordIn, sxgX10, sxpX10, sxcX10, (sxkiX10, sxklX10, sxksX10), (7, sxI226.2.2.2.2.1, sxI226.2.2.2.2.2, 1), (3, 2, 0), (4, 141))
def sxjI226 : List sxJ := [((47, 0, 0), ([(0, .ofNat 0), (0, .ofNat 0)], [], []), (([(.ofNat 0, .ofNat 0), (.ofNat 0, .ofNat 0)], [], 0, [], [], [((0, 0), (0, .ofNat 3), (0, 6, .ofNat 0)), ((0, 0), (0, .ofNat 4), (0, 4, .ofNat 0)), ((0, 0), (0, .ofNat 5), (0, 3, .ofNat 0))], []), [(6, (0, 7, .ofNat 0)), (5, (0, 8, .ofNat 0)), (4, (0, 5, .ofNat 0)), (0, (2, 0, .ofNat 0)), (1, (2, 1, .ofNat 0)), (2, (0, 1, .ofNat 0)), (3, (0, 2, .ofNat 0))], [], ([(7, .negSucc 0)], .ofNat 0))),
  ((107, 11, 0), ([(8, .ofNat 0)], [], []), (sxE0, [], [], ([], .ofNat 0))),
  ((47, 0, 0), ([(0, .ofNat 0), (0, .ofNat 0)], [], []), (([(.ofNat 0, .ofNat 0), (.ofNat 0, .ofNat 0)], [], 0, [], [], [((0, 0), (0, .ofNat 3), (0, 6, .ofNat 0)), ((0, 0), (0, .ofNat 4), (0, 4, .ofNat 0)), ((0, 0), (0, .ofNat 5), (0, 3, .ofNat 0))], []), [(6, (0, 7, .ofNat 0)), (5, (0, 8, .ofNat 0)), (4, (0, 5, .ofNat 0)), (0, (2, 0, .ofNat 0)), (1, (2, 1, .ofNat 0)), (2, (0, 1, .ofNat 0)), (3, (0, 2, .ofNat 0))], [], ([(7, .negSucc 0)], .ofNat 0))),
  ((107, 11, 0), ([(8, .ofNat 0)], [], []), (sxE0, [], [], ([], .ofNat 0))),
  ((31, 10, 0), ([(0, .ofNat 0)], [1], []), (sxE0, [], [], ([], .ofNat 0))),
  ((47, 0, 0), ([(0, .ofNat 0), (0, .ofNat 1)], [], []), (([(.ofNat 0, .ofNat 6), (.ofNat 0, .ofNat 1)], [], 0, [], [], [((0, 0), (0, .ofNat 3), (0, 6, .ofNat 0)), ((0, 0), (0, .ofNat 4), (0, 4, .ofNat 0)), ((0, 0), (0, .ofNat 5), (0, 3, .ofNat 0))], []), [(6, (0, 8, .ofNat 0)), (5, (0, 9, .ofNat 0)), (4, (0, 5, .ofNat 0)), (0, (2, 0, .ofNat 0)), (1, (2, 1, .ofNat 0)), (2, (0, 1, .ofNat 0)), (3, (0, 2, .ofNat 0))], [], ([(8, .negSucc 0)], .ofNat 6))),
  ((107, 11, 0), ([(9, .ofNat 0)], [], []), (sxE0, [], [], ([], .ofNat 0))),
  ((107, 11, 1), ([(9, .ofNat 0)], [], []), (sxE0, [], [], ([], .ofNat 0))),
  ((63, 10, 1), ([(0, .ofNat 0), (10, .ofNat 0)], [1], []), (sxE0, [], [], ([], .ofNat 0))),
  ((47, 2, 0), ([(8, .ofNat 1), (0, .ofNat 0)], [], []), (sxE0, [], [], ([], .ofNat 0))),
  ((47, 2, 0), ([(8, .ofNat 1), (0, .ofNat 1)], [], []), (sxE0, [], [], ([], .ofNat 0))),
  ((81, 10, 2), ([(0, .ofNat 0), (12, .ofNat 0)], [0], []), (sxE0, [], [], ([], .ofNat 0))),
  ((47, 2, 0), ([(8, .ofNat 1), (0, .ofNat 0)], [], []), (sxE0, [], [], ([], .ofNat 0))),
  ((84, 7, 0), ([], [], []), (sxE0, [], [], ([(12, .negSucc 0)], .ofNat 399))),
  ((47, 2, 0), ([(8, .ofNat 1), (0, .ofNat 0)], [], []), (sxE0, [], [], ([], .ofNat 0))),
  ((47, 2, 0), ([(8, .ofNat 1), (0, .ofNat 1)], [], []), (sxE0, [], [], ([], .ofNat 0)))]
theorem sxvI226 : (sx_exec sxRT [sxI220, sxI221, sxI63] [] sxhI226 207 0 sxI226.2.2.1 (sx_argl 0 sxI226.2.2.2.1) [] [] sxjI226).isSome = true := by decide +kernel
theorem sxmI226 {PF : Nat → List Int → List (Nat → Int) → Prop} {l : Launch} : sx_met PF sxRT sxMy sxMc sxML sxMr sxTK l sxI226 := by
  obtain ⟨its2, hk⟩ := Option.isSome_iff_exists.mp sxvI226
  exact sx_met_of (h := sxhI226) sxTK_ok (sxTK2 sxksX10_ok) sxt_X10_isWordIn sxFW_ok (sx_cons (sxmI220) (sx_cons (sxmI221) (sx_cons (sxmI63) sx_nil))) (fun L h => by cases h) rfl (by decide +kernel) (by decide) rfl ⟨rfl, rfl, rfl, rfl⟩ hk
def sxI227 : sxI := (14, (4, 141), ([(.ofNat 0, .ofNat 0), (.ofNat 0, .ofNat 48), (.ofNat 6, .ofNat 6)], [1, 72], 0, [], [], [], []), [(2, 0, .ofNat 0), (2, 1, .ofNat 0), (0, 1, .ofNat 0), (0, 2, .ofNat 0)], [], [(([(.ofNat 0, .ofNat 0)], [], 0, [], [], [], []), some (0, 3, .ofNat 0)), (([(.ofNat 1, .ofNat 1)], [], 0, [], [], [], []), some (0, 3, .ofNat 0))])
def sxhI227 : sxH := (sxk_X10_isWordIn, sxgX10, sxpX10, sxcX10, (sxkiX10, sxklX10, sxksX10), (7, sxI227.2.2.2.2.1, sxI227.2.2.2.2.2, 1), (3, 2, 0), (4, 141))
def sxjI227 : List sxJ := [((47, 0, 0), ([(0, .ofNat 0), (0, .ofNat 0)], [], []), (([(.ofNat 0, .ofNat 0), (.ofNat 0, .ofNat 0)], [], 0, [], [], [((0, 0), (0, .ofNat 3), (0, 6, .ofNat 0)), ((0, 0), (0, .ofNat 4), (0, 4, .ofNat 0)), ((0, 0), (0, .ofNat 5), (0, 3, .ofNat 0))], []), [(6, (0, 7, .ofNat 0)), (5, (0, 8, .ofNat 0)), (4, (0, 5, .ofNat 0)), (0, (2, 0, .ofNat 0)), (1, (2, 1, .ofNat 0)), (2, (0, 1, .ofNat 0)), (3, (0, 2, .ofNat 0))], [], ([(7, .negSucc 0)], .ofNat 0))),
  ((107, 11, 0), ([(8, .ofNat 0)], [], []), (sxE0, [], [], ([], .ofNat 0))),
  ((47, 0, 0), ([(0, .ofNat 0), (0, .ofNat 0)], [], []), (([(.ofNat 0, .ofNat 0), (.ofNat 0, .ofNat 0)], [], 0, [], [], [((0, 0), (0, .ofNat 3), (0, 6, .ofNat 0)), ((0, 0), (0, .ofNat 4), (0, 4, .ofNat 0)), ((0, 0), (0, .ofNat 5), (0, 3, .ofNat 0))], []), [(6, (0, 7, .ofNat 0)), (5, (0, 8, .ofNat 0)), (4, (0, 5, .ofNat 0)), (0, (2, 0, .ofNat 0)), (1, (2, 1, .ofNat 0)), (2, (0, 1, .ofNat 0)), (3, (0, 2, .ofNat 0))], [], ([(7, .negSucc 0)], .ofNat 0))),
  ((107, 11, 0), ([(8, .ofNat 0)], [], []), (sxE0, [], [], ([], .ofNat 0))),
  ((31, 10, 0), ([(0, .ofNat 0)], [1], []), (sxE0, [], [], ([], .ofNat 0))),
  ((47, 0, 0), ([(0, .ofNat 0), (0, .ofNat 1)], [], []), (([(.ofNat 0, .ofNat 6), (.ofNat 0, .ofNat 1)], [], 0, [], [], [((0, 0), (0, .ofNat 3), (0, 6, .ofNat 0)), ((0, 0), (0, .ofNat 4), (0, 4, .ofNat 0)), ((0, 0), (0, .ofNat 5), (0, 3, .ofNat 0))], []), [(6, (0, 8, .ofNat 0)), (5, (0, 9, .ofNat 0)), (4, (0, 5, .ofNat 0)), (0, (2, 0, .ofNat 0)), (1, (2, 1, .ofNat 0)), (2, (0, 1, .ofNat 0)), (3, (0, 2, .ofNat 0))], [], ([(8, .negSucc 0)], .ofNat 6))),
  ((107, 11, 0), ([(9, .ofNat 0)], [], []), (sxE0, [], [], ([], .ofNat 0))),
  ((107, 11, 1), ([(9, .ofNat 0)], [], []), (sxE0, [], [], ([], .ofNat 0))),
  ((63, 10, 1), ([(0, .ofNat 0), (10, .ofNat 0)], [1], []), (sxE0, [], [], ([], .ofNat 0))),
  ((47, 2, 0), ([(8, .ofNat 1), (0, .ofNat 0)], [], []), (sxE0, [], [], ([], .ofNat 0))),
  ((47, 2, 0), ([(8, .ofNat 1), (0, .ofNat 1)], [], []), (sxE0, [], [], ([], .ofNat 0))),
  ((81, 10, 2), ([(0, .ofNat 0), (12, .ofNat 0)], [0], []), (sxE0, [], [], ([], .ofNat 0))),
  ((47, 2, 0), ([(8, .ofNat 1), (0, .ofNat 0)], [], []), (sxE0, [], [], ([], .ofNat 0))),
  ((84, 7, 0), ([], [], []), (sxE0, [], [], ([(12, .negSucc 0)], .ofNat 399))),
  ((47, 2, 0), ([(8, .ofNat 1), (0, .ofNat 0)], [], []), (sxE0, [], [], ([], .ofNat 0))),
  ((47, 2, 0), ([(8, .ofNat 1), (0, .ofNat 1)], [], []), (sxE0, [], [], ([], .ofNat 0)))]
theorem sxvI227 : (sx_exec sxRT [sxI220, sxI221, sxI63] [] sxhI227 207 0 sxI227.2.2.1 (sx_argl 0 sxI227.2.2.2.1) [] [] sxjI227).isSome = true := by decide +kernel
theorem sxmI227 {PF : Nat → List Int → List (Nat → Int) → Prop} {l : Launch} : sx_met PF sxRT sxMy sxMc sxML sxMr sxTK l sxI227 := by
  obtain ⟨its2, hk⟩ := Option.isSome_iff_exists.mp sxvI227
  exact sx_met_of (h := sxhI227) sxTK_ok (sxTK2 sxksX10_ok) sxt_X10_isWordIn sxFW_ok (sx_cons (sxmI220) (sx_cons (sxmI221) (sx_cons (sxmI63) sx_nil))) (fun L h => by cases h) rfl (by decide +kernel) (by decide) rfl ⟨rfl, rfl, rfl, rfl⟩ hk
def sxI228 : sxI := (14, (4, 141), ([(.ofNat 0, .ofNat 0), (.ofNat 0, .ofNat 66), (.ofNat 6, .ofNat 6)], [1, 72], 0, [], [], [], []), [(2, 0, .ofNat 0), (2, 1, .ofNat 0), (0, 1, .ofNat 0), (0, 2, .ofNat 0)], [], [(([(.ofNat 0, .ofNat 0)], [], 0, [], [], [], []), some (0, 3, .ofNat 0)), (([(.ofNat 1, .ofNat 1)], [], 0, [], [], [], []), some (0, 3, .ofNat 0))])
def sxhI228 : sxH := (sxk_X10_isWordIn, sxgX10, sxpX10, sxcX10, (sxkiX10, sxklX10, sxksX10), (7, sxI228.2.2.2.2.1, sxI228.2.2.2.2.2, 1), (3, 2, 0), (4, 141))
def sxjI228 : List sxJ := [((47, 0, 0), ([(0, .ofNat 0), (0, .ofNat 0)], [], []), (([(.ofNat 0, .ofNat 0), (.ofNat 0, .ofNat 0)], [], 0, [], [], [((0, 0), (0, .ofNat 3), (0, 6, .ofNat 0)), ((0, 0), (0, .ofNat 4), (0, 4, .ofNat 0)), ((0, 0), (0, .ofNat 5), (0, 3, .ofNat 0))], []), [(6, (0, 7, .ofNat 0)), (5, (0, 8, .ofNat 0)), (4, (0, 5, .ofNat 0)), (0, (2, 0, .ofNat 0)), (1, (2, 1, .ofNat 0)), (2, (0, 1, .ofNat 0)), (3, (0, 2, .ofNat 0))], [], ([(7, .negSucc 0)], .ofNat 0))),
  ((107, 11, 0), ([(8, .ofNat 0)], [], []), (sxE0, [], [], ([], .ofNat 0))),
  ((47, 0, 0), ([(0, .ofNat 0), (0, .ofNat 0)], [], []), (([(.ofNat 0, .ofNat 0), (.ofNat 0, .ofNat 0)], [], 0, [], [], [((0, 0), (0, .ofNat 3), (0, 6, .ofNat 0)), ((0, 0), (0, .ofNat 4), (0, 4, .ofNat 0)), ((0, 0), (0, .ofNat 5), (0, 3, .ofNat 0))], []), [(6, (0, 7, .ofNat 0)), (5, (0, 8, .ofNat 0)), (4, (0, 5, .ofNat 0)), (0, (2, 0, .ofNat 0)), (1, (2, 1, .ofNat 0)), (2, (0, 1, .ofNat 0)), (3, (0, 2, .ofNat 0))], [], ([(7, .negSucc 0)], .ofNat 0))),
  ((107, 11, 0), ([(8, .ofNat 0)], [], []), (sxE0, [], [], ([], .ofNat 0))),
  ((31, 10, 0), ([(0, .ofNat 0)], [1], []), (sxE0, [], [], ([], .ofNat 0))),
  ((47, 0, 0), ([(0, .ofNat 0), (0, .ofNat 1)], [], []), (([(.ofNat 0, .ofNat 6), (.ofNat 0, .ofNat 1)], [], 0, [], [], [((0, 0), (0, .ofNat 3), (0, 6, .ofNat 0)), ((0, 0), (0, .ofNat 4), (0, 4, .ofNat 0)), ((0, 0), (0, .ofNat 5), (0, 3, .ofNat 0))], []), [(6, (0, 8, .ofNat 0)), (5, (0, 9, .ofNat 0)), (4, (0, 5, .ofNat 0)), (0, (2, 0, .ofNat 0)), (1, (2, 1, .ofNat 0)), (2, (0, 1, .ofNat 0)), (3, (0, 2, .ofNat 0))], [], ([(8, .negSucc 0)], .ofNat 6))),
  ((107, 11, 0), ([(9, .ofNat 0)], [], []), (sxE0, [], [], ([], .ofNat 0))),
  ((107, 11, 1), ([(9, .ofNat 0)], [], []), (sxE0, [], [], ([], .ofNat 0))),
  ((63, 10, 1), ([(0, .ofNat 0), (10, .ofNat 0)], [1], []), (sxE0, [], [], ([], .ofNat 0))),
  ((47, 2, 0), ([(8, .ofNat 1), (0, .ofNat 0)], [], []), (sxE0, [], [], ([], .ofNat 0))),
  ((47, 2, 0), ([(8, .ofNat 1), (0, .ofNat 1)], [], []), (sxE0, [], [], ([], .ofNat 0))),
  ((81, 10, 2), ([(0, .ofNat 0), (12, .ofNat 0)], [0], []), (sxE0, [], [], ([], .ofNat 0))),
  ((47, 2, 0), ([(8, .ofNat 1), (0, .ofNat 0)], [], []), (sxE0, [], [], ([], .ofNat 0))),
  ((84, 7, 0), ([], [], []), (sxE0, [], [], ([(12, .negSucc 0)], .ofNat 399))),
  ((47, 2, 0), ([(8, .ofNat 1), (0, .ofNat 0)], [], []), (sxE0, [], [], ([], .ofNat 0))),
  ((47, 2, 0), ([(8, .ofNat 1), (0, .ofNat 1)], [], []), (sxE0, [], [], ([], .ofNat 0)))]
theorem sxvI228 : (sx_exec sxRT [sxI220, sxI221, sxI63] [] sxhI228 207 0 sxI228.2.2.1 (sx_argl 0 sxI228.2.2.2.1) [] [] sxjI228).isSome = true := by decide +kernel
theorem sxmI228 {PF : Nat → List Int → List (Nat → Int) → Prop} {l : Launch} : sx_met PF sxRT sxMy sxMc sxML sxMr sxTK l sxI228 := by
  obtain ⟨its2, hk⟩ := Option.isSome_iff_exists.mp sxvI228
  exact sx_met_of (h := sxhI228) sxTK_ok (sxTK2 sxksX10_ok) sxt_X10_isWordIn sxFW_ok (sx_cons (sxmI220) (sx_cons (sxmI221) (sx_cons (sxmI63) sx_nil))) (fun L h => by cases h) rfl (by decide +kernel) (by decide) rfl ⟨rfl, rfl, rfl, rfl⟩ hk
def sxI229 : sxI := (236, (5, 167), ([(.ofNat 0, .ofNat 0), (.ofNat 0, .ofNat 400)], [4, 1], 0, [], [], [((0, 0), (0, .ofNat 2), (2, 1, .ofNat 0)), ((0, 1), (0, .ofNat 5), (0, 1, .ofNat 0))], []), [(2, 0, .ofNat 0)], [(1, 2, 6), (4, 3, 5), (5, 0, 400)], [(([(.ofNat 0, .ofNat 400)], [], 0, [], [], [((0, 0), (0, .ofNat 2), (2, 1, .ofNat 0)), ((0, 1), (0, .ofNat 5), (0, 2, .ofNat 0))], []), some (0, 0, .ofNat 1)), (([(.ofNat 0, .ofNat 400)], [], 0, [], [], [((0, 0), (0, .ofNat 2), (2, 1, .ofNat 0)), ((0, 1), (0, .ofNat 5), (0, 2, .ofNat 0))], []), some (0, 0, .ofNat 0))])
def sxhI229 : sxH := (sxk_X9_readsValue, sxgX9, sxpX9, sxcX9, (sxkiX9, sxklX9, sxksX9), (4, sxI229.2.2.2.2.1, sxI229.2.2.2.2.2, 1), (2, 2, 0), (5, 167))
def sxjI229 : List sxJ := [((23, 0, 0), ([(0, .ofNat 0), (0, .negSucc 0)], [], []), (([(.ofNat 0, .ofNat 12), (.negSucc 0, .ofNat 11)], [], 0, [], [], [((0, 1), (0, .ofNat 3), (0, 2, .ofNat 0)), ((0, 0), (0, .ofNat 2), (2, 1, .ofNat 0)), ((0, 1), (0, .ofNat 5), (0, 1, .ofNat 0))], []), [(3, (0, 3, .ofNat 0)), (2, (0, 4, .ofNat 0)), (1, (0, 0, .ofNat 0)), (0, (2, 0, .ofNat 0))], [], ([(3, .negSucc 0)], .ofNat 12))),
  ((158, 10, 1), ([(0, .ofNat 0), (1, .ofNat 0)], [1], []), (sxE0, [], [], ([], .ofNat 0))),
  ((163, 10, 2), ([(0, .ofNat 0), (4, .ofNat 0)], [0, 1], []), (sxE0, [], [], ([], .ofNat 0))),
  ((166, 11, 0), ([(6, .ofNat 0)], [], []), (sxE0, [], [], ([], .ofNat 0))),
  ((166, 11, 1), ([(6, .ofNat 0)], [], []), (sxE0, [], [], ([], .ofNat 0))),
  ((119, 10, 3), ([(0, .ofNat 0), (0, .ofNat 3)], [1], []), (sxE0, [], [], ([], .ofNat 0))),
  ((122, 11, 1), ([(1, .ofNat 0)], [], []), (sxE0, [], [], ([], .ofNat 0))),
  ((78, 10, 3), ([(0, .ofNat 0), (0, .ofNat 0)], [1], []), (sxE0, [], [], ([], .ofNat 0))),
  ((81, 11, 1), ([(1, .ofNat 0)], [], []), (sxE0, [], [], ([], .ofNat 0))),
  ((158, 10, 1), ([(0, .ofNat 0), (1, .ofNat 0)], [1], []), (sxE0, [], [], ([], .ofNat 0))),
  ((163, 10, 2), ([(0, .ofNat 0), (4, .ofNat 0)], [0, 1], []), (sxE0, [], [], ([], .ofNat 0))),
  ((166, 11, 0), ([(6, .ofNat 0)], [], []), (sxE0, [], [], ([], .ofNat 0))),
  ((166, 11, 1), ([(6, .ofNat 0)], [], []), (sxE0, [], [], ([], .ofNat 0))),
  ((119, 10, 3), ([(0, .ofNat 0), (0, .ofNat 3)], [1], []), (sxE0, [], [], ([], .ofNat 0))),
  ((122, 11, 1), ([(1, .ofNat 0)], [], []), (sxE0, [], [], ([], .ofNat 0))),
  ((46, 10, 8), ([(0, .ofNat 0), (5, .ofNat 0), (0, .ofNat 6)], [1, 2], []), (sxE0, [], [], ([], .ofNat 0))),
  ((23, 2, 0), ([(3, .ofNat 1), (0, .negSucc 0)], [], []), (sxE0, [], [], ([], .ofNat 0))),
  ((23, 2, 0), ([(3, .ofNat 1), (3, .ofNat 0)], [], []), (sxE0, [], [], ([], .ofNat 0))),
  ((23, 0, 0), ([(0, .ofNat 0), (0, .negSucc 0)], [], []), (([(.ofNat 0, .ofNat 12), (.negSucc 0, .ofNat 11)], [], 0, [], [], [((0, 1), (0, .ofNat 3), (0, 2, .ofNat 0)), ((0, 0), (0, .ofNat 2), (2, 1, .ofNat 0)), ((0, 1), (0, .ofNat 5), (0, 1, .ofNat 0))], []), [(3, (0, 3, .ofNat 0)), (2, (0, 4, .ofNat 0)), (1, (0, 0, .ofNat 1)), (0, (2, 0, .ofNat 0))], [], ([(3, .negSucc 0)], .ofNat 12))),
  ((90, 10, 9), ([(0, .ofNat 0)], [1], []), (sxE0, [], [], ([], .ofNat 0))),
  ((143, 10, 10), ([(0, .ofNat 0)], [1], []), (sxE0, [], [], ([], .ofNat 0))),
  ((149, 8, 0), ([], [], []), (sxE0, [], [], ([], .ofNat 0))),
  ((158, 10, 1), ([(0, .ofNat 0), (1, .ofNat 0)], [1], []), (sxE0, [], [], ([], .ofNat 0))),
  ((163, 10, 2), ([(0, .ofNat 0), (8, .ofNat 0)], [0, 1], []), (sxE0, [], [], ([], .ofNat 0))),
  ((166, 11, 0), ([(9, .ofNat 0)], [], []), (sxE0, [], [], ([], .ofNat 0))),
  ((166, 11, 1), ([(9, .ofNat 0)], [], []), (sxE0, [], [], ([], .ofNat 0))),
  ((119, 10, 3), ([(0, .ofNat 0), (0, .ofNat 3)], [1], []), (sxE0, [], [], ([], .ofNat 0))),
  ((122, 11, 1), ([(1, .ofNat 0)], [], []), (sxE0, [], [], ([], .ofNat 0))),
  ((101, 10, 3), ([(0, .ofNat 0), (0, .ofNat 1)], [1], []), (sxE0, [], [], ([], .ofNat 0))),
  ((104, 11, 1), ([(1, .ofNat 0)], [], []), (sxE0, [], [], ([], .ofNat 0))),
  ((90, 10, 9), ([(0, .ofNat 0)], [1], []), (sxE0, [], [], ([], .ofNat 0))),
  ((143, 10, 10), ([(0, .ofNat 0)], [1], []), (sxE0, [], [], ([], .ofNat 0))),
  ((149, 8, 0), ([], [], []), (sxE0, [], [], ([], .ofNat 0))),
  ((158, 10, 1), ([(0, .ofNat 0), (1, .ofNat 0)], [1], []), (sxE0, [], [], ([], .ofNat 0))),
  ((163, 10, 2), ([(0, .ofNat 0), (8, .ofNat 0)], [0, 1], []), (sxE0, [], [], ([], .ofNat 0))),
  ((166, 11, 0), ([(9, .ofNat 0)], [], []), (sxE0, [], [], ([], .ofNat 0))),
  ((166, 11, 1), ([(9, .ofNat 0)], [], []), (sxE0, [], [], ([], .ofNat 0))),
  ((119, 10, 3), ([(0, .ofNat 0), (0, .ofNat 3)], [1], []), (sxE0, [], [], ([], .ofNat 0))),
  ((122, 11, 1), ([(1, .ofNat 0)], [], []), (sxE0, [], [], ([], .ofNat 0))),
  ((101, 10, 3), ([(0, .ofNat 0), (0, .ofNat 1)], [1], []), (sxE0, [], [], ([], .ofNat 0))),
  ((104, 11, 1), ([(1, .ofNat 0)], [], []), (sxE0, [], [], ([], .ofNat 0))),
  ((46, 10, 8), ([(0, .ofNat 0), (5, .ofNat 0), (0, .ofNat 6)], [1, 2], []), (sxE0, [], [], ([], .ofNat 0))),
  ((23, 2, 0), ([(3, .ofNat 1), (0, .negSucc 0)], [], []), (sxE0, [], [], ([], .ofNat 0))),
  ((23, 2, 0), ([(3, .ofNat 1), (3, .ofNat 0)], [], []), (sxE0, [], [], ([], .ofNat 0)))]
theorem sxvI229 : (sx_exec sxRT [sxI222, sxI64, sxI223, sxI78, sxI224, sxI225, sxI226, sxI227, sxI228, sxI80, sxI79] [] sxhI229 646 0 sxI229.2.2.1 (sx_argl 0 sxI229.2.2.2.1) [] [] sxjI229).isSome = true := by decide +kernel
theorem sxmI229 {PF : Nat → List Int → List (Nat → Int) → Prop} {l : Launch} : sx_met PF sxRT sxMy sxMc sxML sxMr sxTK l sxI229 := by
  obtain ⟨its2, hk⟩ := Option.isSome_iff_exists.mp sxvI229
  exact sx_met_of (h := sxhI229) sxTK_ok (sxTK2 sxksX9_ok) sxt_X9_readsValue sxFW_ok (sx_cons (sxmI222) (sx_cons (sxmI64) (sx_cons (sxmI223) (sx_cons (sxmI78) (sx_cons (sxmI224) (sx_cons (sxmI225) (sx_cons (sxmI226) (sx_cons (sxmI227) (sx_cons (sxmI228) (sx_cons (sxmI80) (sx_cons (sxmI79) sx_nil))))))))))) (fun L h => by cases h) rfl (by decide +kernel) (by decide) rfl ⟨rfl, rfl, rfl, rfl⟩ hk
