def sxI99 : sxI := (192, (7, 213), ([(.ofNat 0, .ofNat 0)], [3, 1, 20], 0, [], [], [], []), [(2, 0, .ofNat 0), (2, 1, .ofNat 0), (2, 2, .ofNat 0)], [(1, 2, 6), (20, 0, 5), (21, 0, 7), (22, 0, 7), (23, 0, 8), (24, 0, 8), (25, 0, 8)], [(([], [], 0, [], [], [], []), some (0, 0, .ofNat 0)), (([], [], 0, [], [], [], []), some (0, 0, .ofNat 1))])
def sxhI99 : sxH := (sxk_X2_reads, sxgX2, sxpX2, sxcX2, (sxkiX2, sxklX2, sxksX2), (4, sxI99.2.2.2.2.1, sxI99.2.2.2.2.2, 1), (1, 3, 0), (7, 213))
def sxjI99 : List sxJ := [((1, 10, 0), ([(0, .ofNat 0)], [2], []), (sxE0, [], [], ([], .ofNat 0))),
  ((5, 10, 1), ([(0, .ofNat 0)], [1], []), (sxE0, [], [], ([], .ofNat 0))),
  ((10, 0, 0), ([(0, .ofNat 0), (1, .ofNat 0)], [], []), (([(.ofNat 0, .ofNat 40), (.ofNat 0, .ofNat 400)], [], 0, [], [], [((0, 1), (0, .ofNat 5), (0, 3, .ofNat 0))], []), [(3, (0, 2, .ofNat 0)), (0, (2, 0, .ofNat 0)), (1, (2, 1, .ofNat 0)), (2, (2, 2, .ofNat 0))], [], ([(2, .negSucc 0)], .ofNat 40))),
  ((19, 10, 13), ([(0, .ofNat 0), (2, .ofNat 0), (3, .ofNat 0)], [1, 2], []), (sxE0, [], [], ([], .ofNat 0))),
  ((26, 11, 0), ([], [], []), (sxE0, [], [], ([], .ofNat 0))),
  ((22, 7, 0), ([], [], []), (sxE0, [], [], ([(2, .negSucc 0)], .ofNat 39))),
  ((60, 10, 3), ([(0, .ofNat 0), (4, .ofNat 0)], [1], []), (sxE0, [], [], ([], .ofNat 0))),
  ((10, 2, 0), ([(2, .ofNat 1), (6, .ofNat 0)], [], []), (sxE0, [], [], ([], .ofNat 0))),
  ((55, 10, 4), ([(0, .ofNat 0), (0, .ofNat 0)], [1], []), (sxE0, [], [], ([], .ofNat 0))),
  ((58, 11, 0), ([], [], []), (sxE0, [], [], ([], .ofNat 0))),
  ((43, 11, 1), ([], [], []), (sxE0, [], [], ([], .ofNat 0)))]
theorem sxvI99 : (sx_exec sxRT [sxI61, sxI65, sxI84, sxI64, sxI78, sxI90, sxI91, sxI92, sxI93, sxI94, sxI95, sxI96, sxI97, sxI98] [] sxhI99 197 0 sxI99.2.2.1 (sx_argl 0 sxI99.2.2.2.1) [] [] sxjI99).isSome = true := by decide +kernel
theorem sxmI99 {PF : Nat → List Int → List (Nat → Int) → Prop} {l : Launch} : sx_met PF sxRT sxMy sxMc sxML sxMr sxTK l sxI99 := by
  obtain ⟨its2, hk⟩ := Option.isSome_iff_exists.mp sxvI99
  exact sx_met_of (h := sxhI99) sxTK_ok (sxTK2 sxksX2_ok) sxt_X2_reads sxFW_ok (sx_cons (sxmI61) (sx_cons (sxmI65) (sx_cons (sxmI84) (sx_cons (sxmI64) (sx_cons (sxmI78) (sx_cons (sxmI90) (sx_cons (sxmI91) (sx_cons (sxmI92) (sx_cons (sxmI93) (sx_cons (sxmI94) (sx_cons (sxmI95) (sx_cons (sxmI96) (sx_cons (sxmI97) (sx_cons (sxmI98) sx_nil)))))))))))))) (fun L h => by cases h) rfl (by decide +kernel) (by decide) rfl ⟨rfl, rfl, rfl, rfl⟩ hk
def sxI100 : sxI := (191, (2, 40), ([(.ofNat 0, .ofNat 0)], [20, 26], 0, [], [], [], []), [(2, 0, .ofNat 0), (2, 1, .ofNat 0)], [(26, 4, 5), (27, 0, 7), (28, 0, 7), (29, 0, 7), (30, 0, 7)], [(([], [], 0, [], [], [], []), none)])
def sxhI100 : sxH := (sxk_X1_lay, sxgX1, sxpX1, sxcX1, (sxkiX1, sxklX1, sxksX1), (3, sxI100.2.2.2.2.1, sxI100.2.2.2.2.2, 4), (1, 2, 0), (2, 40))
def sxjI100 : List sxJ := [((7, 0, 0), ([(0, .ofNat 0)], [], []), (([(.ofNat 0, .ofNat 7)], [], 0, [], [], [((0, 1), (0, .ofNat 4), (0, 0, .ofNat 0))], []), [(2, (0, 1, .ofNat 0)), (0, (2, 0, .ofNat 0)), (1, (2, 1, .ofNat 0))], [], ([(1, .negSucc 0)], .ofNat 7))),
  ((52, 11, 0), ([], [], []), (sxE0, [], [], ([], .ofNat 0))),
  ((7, 2, 0), ([(1, .ofNat 1)], [], []), (sxE0, [], [], ([], .ofNat 0)))]
theorem sxvI100 : (sx_exec sxRT [] [] sxhI100 117 0 sxI100.2.2.1 (sx_argl 0 sxI100.2.2.2.1) [] [] sxjI100).isSome = true := by decide +kernel
theorem sxmI100 {PF : Nat → List Int → List (Nat → Int) → Prop} {l : Launch} : sx_met PF sxRT sxMy sxMc sxML sxMr sxTK l sxI100 := by
  obtain ⟨its2, hk⟩ := Option.isSome_iff_exists.mp sxvI100
  exact sx_met_of (h := sxhI100) sxTK_ok (sxTK2 sxksX1_ok) sxt_X1_lay sxFW_ok sx_nil (fun L h => by cases h) rfl (by decide +kernel) (by decide) rfl ⟨rfl, rfl, rfl, rfl⟩ hk
def sxI101 : sxI := (37, (8, 236), ([(.ofNat 0, .ofNat 0)], [0], 0, [], [], [], []), [(2, 0, .ofNat 0)], [(0, 13, 14), (1, 1, 6), (11, 0, 1), (11, 5, 6), (20, 0, 5), (21, 0, 7), (22, 0, 7), (23, 0, 8), (24, 0, 8), (25, 0, 8), (26, 4, 5), (27, 0, 7), (28, 0, 7), (29, 0, 7), (30, 0, 7), (31, 2, 3)], [(([(.negSucc 2147483647, .ofNat 2147483647)], [], 0, [], [], [], []), some (0, 1, .ofNat 0))])
def sxhI101 : sxH := (sxk_X11_house, sxgX11, sxpX11, sxcX11, (sxkiX11, sxklX11, sxksX11), (2, sxI101.2.2.2.2.1, sxI101.2.2.2.2.2, 0), (1, 1, 0), (8, 236))
def sxjI101 : List sxJ := [((12, 10, 0), ([(0, .ofNat 0)], [1, 2, 3], []), (sxE0, [], [], ([], .ofNat 0))),
  ((28, 11, 0), ([(2, .ofNat 0)], [], []), (sxE0, [], [], ([], .ofNat 0))),
  ((67, 10, 1), ([(0, .ofNat 0)], [3, 6], []), (sxE0, [], [], ([], .ofNat 0))),
  ((82, 10, 2), ([(0, .ofNat 0)], [7], []), (sxE0, [], [], ([], .ofNat 0))),
  ((103, 11, 0), ([(1, .ofNat 0)], [], []), (sxE0, [], [], ([], .ofNat 0)))]
theorem sxvI101 : (sx_exec sxRT [sxI99, sxI100, sxI31] [] sxhI101 105 0 sxI101.2.2.1 (sx_argl 0 sxI101.2.2.2.1) [] [] sxjI101).isSome = true := by decide +kernel
theorem sxmI101 {PF : Nat → List Int → List (Nat → Int) → Prop} {l : Launch} : sx_met PF sxRT sxMy sxMc sxML sxMr sxTK l sxI101 := by
  obtain ⟨its2, hk⟩ := Option.isSome_iff_exists.mp sxvI101
  exact sx_met_of (h := sxhI101) sxTK_ok (sxTK2 sxksX11_ok) sxt_X11_house sxFW_ok (sx_cons (sxmI99) (sx_cons (sxmI100) (sx_cons (sxmI31) sx_nil))) (fun L h => by cases h) rfl (by decide +kernel) (by decide) rfl ⟨rfl, rfl, rfl, rfl⟩ hk
def sxI102 : sxI := (198, (3, 61), ([(.ofNat 0, .ofNat 0)], [12, 11], 0, [], [], [], []), [(2, 0, .ofNat 0), (2, 1, .ofNat 0)], [(12, 5, 8), (16, 0, 10), (17, 0, 10), (18, 0, 10), (20, 0, 5), (21, 0, 7), (22, 0, 7), (23, 0, 8), (24, 0, 8), (25, 0, 8), (26, 4, 5), (27, 0, 7), (28, 0, 7), (29, 0, 7), (30, 0, 7)], [(([], [], 0, [], [], [], []), none)])
def sxhI102 : sxH := (sxk_X3_copyFrom, sxgX3, sxpX3, sxcX3, (sxkiX3, sxklX3, sxksX3), (2, sxI102.2.2.2.2.1, sxI102.2.2.2.2.2, 4), (1, 2, 0), (3, 61))
def sxjI102 : List sxJ := [((8, 10, 0), ([(0, .ofNat 0)], [2, 3], []), (sxE0, [], [], ([], .ofNat 0))),
  ((19, 10, 1), ([(0, .ofNat 0)], [4, 5], []), (sxE0, [], [], ([], .ofNat 0))),
  ((91, 11, 0), ([], [], []), (sxE0, [], [], ([], .ofNat 0)))]
theorem sxvI102 : (sx_exec sxRT [sxI29, sxI2] [] sxhI102 100 0 sxI102.2.2.1 (sx_argl 0 sxI102.2.2.2.1) [] [] sxjI102).isSome = true := by decide +kernel
theorem sxmI102 {PF : Nat → List Int → List (Nat → Int) → Prop} {l : Launch} : sx_met PF sxRT sxMy sxMc sxML sxMr sxTK l sxI102 := by
  obtain ⟨its2, hk⟩ := Option.isSome_iff_exists.mp sxvI102
  exact sx_met_of (h := sxhI102) sxTK_ok (sxTK2 sxksX3_ok) sxt_X3_copyFrom sxFW_ok (sx_cons (sxmI29) (sx_cons (sxmI2) sx_nil)) (fun L h => by cases h) rfl (by decide +kernel) (by decide) rfl ⟨rfl, rfl, rfl, rfl⟩ hk
def sxI103 : sxI := (198, (3, 61), ([(.ofNat 0, .ofNat 0)], [13, 11], 0, [], [], [], []), [(2, 0, .ofNat 0), (2, 1, .ofNat 0)], [(13, 5, 8), (16, 0, 10), (17, 0, 10), (18, 0, 10), (20, 0, 5), (21, 0, 7), (22, 0, 7), (23, 0, 8), (24, 0, 8), (25, 0, 8), (26, 4, 5), (27, 0, 7), (28, 0, 7), (29, 0, 7), (30, 0, 7)], [(([], [], 0, [], [], [], []), none)])
def sxhI103 : sxH := (sxk_X3_copyFrom, sxgX3, sxpX3, sxcX3, (sxkiX3, sxklX3, sxksX3), (2, sxI103.2.2.2.2.1, sxI103.2.2.2.2.2, 4), (1, 2, 0), (3, 61))
def sxjI103 : List sxJ := [((8, 10, 0), ([(0, .ofNat 0)], [2, 3], []), (sxE0, [], [], ([], .ofNat 0))),
  ((19, 10, 1), ([(0, .ofNat 0)], [4, 5], []), (sxE0, [], [], ([], .ofNat 0))),
  ((91, 11, 0), ([], [], []), (sxE0, [], [], ([], .ofNat 0)))]
theorem sxvI103 : (sx_exec sxRT [sxI29, sxI2] [] sxhI103 100 0 sxI103.2.2.1 (sx_argl 0 sxI103.2.2.2.1) [] [] sxjI103).isSome = true := by decide +kernel
theorem sxmI103 {PF : Nat → List Int → List (Nat → Int) → Prop} {l : Launch} : sx_met PF sxRT sxMy sxMc sxML sxMr sxTK l sxI103 := by
  obtain ⟨its2, hk⟩ := Option.isSome_iff_exists.mp sxvI103
  exact sx_met_of (h := sxhI103) sxTK_ok (sxTK2 sxksX3_ok) sxt_X3_copyFrom sxFW_ok (sx_cons (sxmI29) (sx_cons (sxmI2) sx_nil)) (fun L h => by cases h) rfl (by decide +kernel) (by decide) rfl ⟨rfl, rfl, rfl, rfl⟩ hk
def sxI104 : sxI := (198, (3, 61), ([(.ofNat 0, .ofNat 0)], [14, 11], 0, [], [], [], []), [(2, 0, .ofNat 0), (2, 1, .ofNat 0)], [(14, 5, 8), (16, 0, 10), (17, 0, 10), (18, 0, 10), (20, 0, 5), (21, 0, 7), (22, 0, 7), (23, 0, 8), (24, 0, 8), (25, 0, 8), (26, 4, 5), (27, 0, 7), (28, 0, 7), (29, 0, 7), (30, 0, 7)], [(([], [], 0, [], [], [], []), none)])
def sxhI104 : sxH := (sxk_X3_copyFrom, sxgX3, sxpX3, sxcX3, (sxkiX3, sxklX3, sxksX3), (2, sxI104.2.2.2.2.1, sxI104.2.2.2.2.2, 4), (1, 2, 0), (3, 61))
def sxjI104 : List sxJ := [((8, 10, 0), ([(0, .ofNat 0)], [2, 3], []), (sxE0, [], [], ([], .ofNat 0))),
  ((19, 10, 1), ([(0, .ofNat 0)], [4, 5], []), (sxE0, [], [], ([], .ofNat 0))),
  ((91, 11, 0), ([], [], []), (sxE0, [], [], ([], .ofNat 0)))]
theorem sxvI104 : (sx_exec sxRT [sxI29, sxI2] [] sxhI104 100 0 sxI104.2.2.1 (sx_argl 0 sxI104.2.2.2.1) [] [] sxjI104).isSome = true := by decide +kernel
theorem sxmI104 {PF : Nat → List Int → List (Nat → Int) → Prop} {l : Launch} : sx_met PF sxRT sxMy sxMc sxML sxMr sxTK l sxI104 := by
  obtain ⟨its2, hk⟩ := Option.isSome_iff_exists.mp sxvI104
  exact sx_met_of (h := sxhI104) sxTK_ok (sxTK2 sxksX3_ok) sxt_X3_copyFrom sxFW_ok (sx_cons (sxmI29) (sx_cons (sxmI2) sx_nil)) (fun L h => by cases h) rfl (by decide +kernel) (by decide) rfl ⟨rfl, rfl, rfl, rfl⟩ hk
def sxI105 : sxI := (198, (3, 61), ([(.ofNat 0, .ofNat 0)], [15, 11], 0, [], [], [], []), [(2, 0, .ofNat 0), (2, 1, .ofNat 0)], [(15, 5, 8), (16, 0, 10), (17, 0, 10), (18, 0, 10), (20, 0, 5), (21, 0, 7), (22, 0, 7), (23, 0, 8), (24, 0, 8), (25, 0, 8), (26, 4, 5), (27, 0, 7), (28, 0, 7), (29, 0, 7), (30, 0, 7)], [(([], [], 0, [], [], [], []), none)])
def sxhI105 : sxH := (sxk_X3_copyFrom, sxgX3, sxpX3, sxcX3, (sxkiX3, sxklX3, sxksX3), (2, sxI105.2.2.2.2.1, sxI105.2.2.2.2.2, 4), (1, 2, 0), (3, 61))
def sxjI105 : List sxJ := [((8, 10, 0), ([(0, .ofNat 0)], [2, 3], []), (sxE0, [], [], ([], .ofNat 0))),
  ((19, 10, 1), ([(0, .ofNat 0)], [4, 5], []), (sxE0, [], [], ([], .ofNat 0))),
  ((91, 11, 0), ([], [], []), (sxE0, [], [], ([], .ofNat 0)))]
theorem sxvI105 : (sx_exec sxRT [sxI29, sxI2] [] sxhI105 100 0 sxI105.2.2.1 (sx_argl 0 sxI105.2.2.2.1) [] [] sxjI105).isSome = true := by decide +kernel
theorem sxmI105 {PF : Nat → List Int → List (Nat → Int) → Prop} {l : Launch} : sx_met PF sxRT sxMy sxMc sxML sxMr sxTK l sxI105 := by
  obtain ⟨its2, hk⟩ := Option.isSome_iff_exists.mp sxvI105
  exact sx_met_of (h := sxhI105) sxTK_ok (sxTK2 sxksX3_ok) sxt_X3_copyFrom sxFW_ok (sx_cons (sxmI29) (sx_cons (sxmI2) sx_nil)) (fun L h => by cases h) rfl (by decide +kernel) (by decide) rfl ⟨rfl, rfl, rfl, rfl⟩ hk
def sxI106 : sxI := (38, (4, 82), ([(.ofNat 0, .ofNat 0), (.negSucc 2147483647, .ofNat 2147483647)], [0], 0, [], [], [], []), [(2, 0, .ofNat 0), (0, 1, .ofNat 0)], [(12, 5, 9), (13, 5, 9), (14, 5, 9), (15, 5, 9), (16, 0, 10), (17, 0, 10), (18, 0, 10), (20, 0, 5), (21, 0, 7), (22, 0, 7), (23, 0, 8), (24, 0, 8), (25, 0, 8), (26, 4, 5), (27, 0, 7), (28, 0, 7), (29, 0, 7), (30, 0, 7)], [(([(.negSucc 2147483647, .ofNat 2147483647)], [], 0, [], [], [], []), some (0, 2, .ofNat 0))])
def sxhI106 : sxH := (sxk_X11_image, sxgX11, sxpX11, sxcX11, (sxkiX11, sxklX11, sxksX11), (2, sxI106.2.2.2.2.1, sxI106.2.2.2.2.2, 0), (2, 1, 0), (4, 82))
def sxjI106 : List sxJ := [((3, 10, 0), ([(0, .ofNat 0), (1, .ofNat 0), (0, .ofNat 0), (0, .ofNat 3)], [], []), (sxE0, [], [], ([], .ofNat 0))),
  ((10, 11, 0), ([(0, .negSucc 0)], [], []), (sxE0, [], [], ([], .ofNat 0))),
  ((6, 7, 0), ([], [], []), (sxE0, [], [], ([(1, .ofNat 1), (0, .negSucc 0)], .ofNat 0))),
  ((6, 7, 0), ([], [], []), (sxE0, [], [], ([(0, .ofNat 1), (1, .negSucc 0)], .ofNat 3))),
  ((16, 4, 1), ([], [], []), (sxE0, [], [], ([], .ofNat 0))),
  ((21, 10, 1), ([(0, .ofNat 0)], [2, 3], []), (sxE0, [], [], ([], .ofNat 0))),
  ((44, 11, 0), ([(2, .ofNat 0)], [], []), (sxE0, [], [], ([], .ofNat 0))),
  ((21, 10, 2), ([(0, .ofNat 0)], [2, 3], []), (sxE0, [], [], ([], .ofNat 0))),
  ((44, 11, 0), ([(2, .ofNat 0)], [], []), (sxE0, [], [], ([], .ofNat 0))),
  ((21, 10, 3), ([(0, .ofNat 0)], [2, 3], []), (sxE0, [], [], ([], .ofNat 0))),
  ((44, 11, 0), ([(2, .ofNat 0)], [], []), (sxE0, [], [], ([], .ofNat 0))),
  ((21, 10, 4), ([(0, .ofNat 0)], [2, 3], []), (sxE0, [], [], ([], .ofNat 0))),
  ((44, 11, 0), ([(2, .ofNat 0)], [], []), (sxE0, [], [], ([], .ofNat 0)))]
theorem sxvI106 : (sx_exec sxRT [sxI1, sxI102, sxI103, sxI104, sxI105] [] sxhI106 135 0 sxI106.2.2.1 (sx_argl 0 sxI106.2.2.2.1) [] [] sxjI106).isSome = true := by decide +kernel
theorem sxmI106 {PF : Nat → List Int → List (Nat → Int) → Prop} {l : Launch} : sx_met PF sxRT sxMy sxMc sxML sxMr sxTK l sxI106 := by
  obtain ⟨its2, hk⟩ := Option.isSome_iff_exists.mp sxvI106
  exact sx_met_of (h := sxhI106) sxTK_ok (sxTK2 sxksX11_ok) sxt_X11_image sxFW_ok (sx_cons (sxmI1) (sx_cons (sxmI102) (sx_cons (sxmI103) (sx_cons (sxmI104) (sx_cons (sxmI105) sx_nil))))) (fun L h => by cases h) rfl (by decide +kernel) (by decide) rfl ⟨rfl, rfl, rfl, rfl⟩ hk
def sxI107 : sxI := (50, (2, 40), ([(.ofNat 0, .ofNat 0), (.ofNat 0, .ofNat 2147483647)], [], 0, [], [], [], []), [(0, 1, .ofNat 0)], [], [(([(.ofNat 0, .ofNat 2147483647)], [], 0, [], [], [], []), some (0, 2, .ofNat 0))])
def sxhI107 : sxH := (sxk_X11_nextX, sxgX11, sxpX11, sxcX11, (sxkiX11, sxklX11, sxksX11), (1, sxI107.2.2.2.2.1, sxI107.2.2.2.2.2, 0), (2, 0, 0), (2, 40))
def sxjI107 : List sxJ := [((15, 11, 0), ([(4, .ofNat 0)], [], []), (sxE0, [], [], ([], .ofNat 0)))]
theorem sxvI107 : (sx_exec sxRT [] [] sxhI107 61 0 sxI107.2.2.1 (sx_argl 0 sxI107.2.2.2.1) [] [] sxjI107).isSome = true := by decide +kernel
theorem sxmI107 {PF : Nat → List Int → List (Nat → Int) → Prop} {l : Launch} : sx_met PF sxRT sxMy sxMc sxML sxMr sxTK l sxI107 := by
  obtain ⟨its2, hk⟩ := Option.isSome_iff_exists.mp sxvI107
  exact sx_met_of (h := sxhI107) sxTK_ok (sxTK2 sxksX11_ok) sxt_X11_nextX sxFW_ok sx_nil (fun L h => by cases h) rfl (by decide +kernel) (by decide) rfl ⟨rfl, rfl, rfl, rfl⟩ hk
def sxI108 : sxI := (28, (2, 40), ([(.ofNat 0, .ofNat 0), (.ofNat 0, .ofNat 2147483647)], [], 0, [], [], [], []), [(0, 1, .ofNat 0)], [], [(([(.ofNat 0, .ofNat 32767)], [], 0, [], [], [], []), some (0, 2, .ofNat 0))])
def sxhI108 : sxH := (sxk_X11_drawOf, sxgX11, sxpX11, sxcX11, (sxkiX11, sxklX11, sxksX11), (1, sxI108.2.2.2.2.1, sxI108.2.2.2.2.2, 0), (2, 0, 0), (2, 40))
def sxjI108 : List sxJ := [((5, 11, 0), ([(2, .ofNat 0)], [], []), (sxE0, [], [], ([], .ofNat 0)))]
theorem sxvI108 : (sx_exec sxRT [] [] sxhI108 55 0 sxI108.2.2.1 (sx_argl 0 sxI108.2.2.2.1) [] [] sxjI108).isSome = true := by decide +kernel
theorem sxmI108 {PF : Nat → List Int → List (Nat → Int) → Prop} {l : Launch} : sx_met PF sxRT sxMy sxMc sxML sxMr sxTK l sxI108 := by
  obtain ⟨its2, hk⟩ := Option.isSome_iff_exists.mp sxvI108
  exact sx_met_of (h := sxhI108) sxTK_ok (sxTK2 sxksX11_ok) sxt_X11_drawOf sxFW_ok sx_nil (fun L h => by cases h) rfl (by decide +kernel) (by decide) rfl ⟨rfl, rfl, rfl, rfl⟩ hk
def sxI109 : sxI := (46, (3, 63), ([(.ofNat 0, .ofNat 0), (.ofNat 0, .ofNat 2147483647), (.ofNat 0, .ofNat 100)], [0], 0, [], [], [], []), [(2, 0, .ofNat 0), (0, 1, .ofNat 0), (0, 2, .ofNat 0)], [(27, 0, 7)], [(([(.ofNat 0, .ofNat 2147483647)], [], 0, [], [], [], []), some (0, 3, .ofNat 0))])
def sxhI109 : sxH := (sxk_X11_mixByDraws, sxgX11, sxpX11, sxcX11, (sxkiX11, sxklX11, sxksX11), (7, sxI109.2.2.2.2.1, sxI109.2.2.2.2.2, 0), (3, 1, 0), (3, 63))
def sxjI109 : List sxJ := [((12, 10, 0), ([(0, .ofNat 0), (1, .ofNat 0)], [], []), (sxE0, [], [], ([], .ofNat 0))),
  ((19, 10, 1), ([(0, .ofNat 0), (4, .ofNat 0)], [], []), (sxE0, [], [], ([], .ofNat 0))),
  ((36, 11, 0), ([(4, .ofNat 0)], [], []), (sxE0, [], [], ([], .ofNat 0))),
  ((39, 10, 0), ([(0, .ofNat 0), (4, .ofNat 0)], [], []), (sxE0, [], [], ([], .ofNat 0))),
  ((46, 10, 1), ([(0, .ofNat 0), (7, .ofNat 0)], [], []), (sxE0, [], [], ([], .ofNat 0))),
  ((55, 10, 0), ([(0, .ofNat 0), (7, .ofNat 0)], [], []), (sxE0, [], [], ([], .ofNat 0))),
  ((62, 10, 1), ([(0, .ofNat 0), (10, .ofNat 0)], [], []), (sxE0, [], [], ([], .ofNat 0))),
  ((86, 10, 2), ([(0, .ofNat 0), (9, .ofNat 0), (14, .ofNat 0)], [3], []), (sxE0, [], [], ([], .ofNat 0))),
  ((91, 11, 0), ([(10, .ofNat 0)], [], []), (sxE0, [], [], ([], .ofNat 0))),
  ((36, 11, 0), ([(4, .ofNat 0)], [], []), (sxE0, [], [], ([], .ofNat 0)))]
theorem sxvI109 : (sx_exec sxRT [sxI107, sxI108, sxI4] [] sxhI109 112 0 sxI109.2.2.1 (sx_argl 0 sxI109.2.2.2.1) [] [] sxjI109).isSome = true := by decide +kernel
theorem sxmI109 {PF : Nat → List Int → List (Nat → Int) → Prop} {l : Launch} : sx_met PF sxRT sxMy sxMc sxML sxMr sxTK l sxI109 := by
  obtain ⟨its2, hk⟩ := Option.isSome_iff_exists.mp sxvI109
  exact sx_met_of (h := sxhI109) sxTK_ok (sxTK2 sxksX11_ok) sxt_X11_mixByDraws sxFW_ok (sx_cons (sxmI107) (sx_cons (sxmI108) (sx_cons (sxmI4) sx_nil))) (fun L h => by cases h) rfl (by decide +kernel) (by decide) rfl ⟨rfl, rfl, rfl, rfl⟩ hk
def sxI110 : sxI := (41, (7, 197), ([(.ofNat 0, .ofNat 0), (.negSucc 2147483647, .ofNat 2147483647), (.negSucc 2147483647, .ofNat 2147483647), (.negSucc 2147483647, .ofNat 2147483647), (.negSucc 2147483647, .ofNat 2147483647)], [0], 0, [], [], [], []), [(2, 0, .ofNat 0), (0, 1, .ofNat 0), (0, 2, .ofNat 0), (0, 3, .ofNat 0), (0, 4, .ofNat 0)], [(26, 4, 5), (27, 0, 7), (28, 0, 7), (29, 0, 7), (30, 0, 7), (34, 0, 12), (35, 0, 64)], [(([(.negSucc 2147483647, .ofNat 2147483647)], [], 0, [], [], [], []), some (0, 5, .ofNat 0))])
def sxhI110 : sxH := (sxk_X11_laundries, sxgX11, sxpX11, sxcX11, (sxkiX11, sxklX11, sxksX11), (11, sxI110.2.2.2.2.1, sxI110.2.2.2.2.2, 0), (5, 1, 0), (7, 197))
def sxjI110 : List sxJ := [((54, 11, 0), ([(0, .negSucc 0)], [], []), (sxE0, [], [], ([], .ofNat 0))),
  ((17, 10, 0), ([(0, .ofNat 0), (1, .ofNat 0), (0, .ofNat 1), (0, .ofNat 10)], [], []), (sxE0, [], [], ([], .ofNat 0))),
  ((54, 11, 0), ([(0, .negSucc 0)], [], []), (sxE0, [], [], ([], .ofNat 0))),
  ((20, 7, 0), ([], [], []), (sxE0, [], [], ([(1, .ofNat 1), (0, .negSucc 0)], .negSucc 0))),
  ((20, 7, 0), ([], [], []), (sxE0, [], [], ([(0, .ofNat 1), (1, .negSucc 0)], .ofNat 10))),
  ((27, 10, 0), ([(0, .ofNat 0), (2, .ofNat 0), (0, .ofNat 1), (0, .ofNat 60)], [], []), (sxE0, [], [], ([], .ofNat 0))),
  ((54, 11, 0), ([(0, .negSucc 0)], [], []), (sxE0, [], [], ([], .ofNat 0))),
  ((30, 7, 0), ([], [], []), (sxE0, [], [], ([(2, .ofNat 1), (0, .negSucc 0)], .negSucc 0))),
  ((30, 7, 0), ([], [], []), (sxE0, [], [], ([(0, .ofNat 1), (2, .negSucc 0)], .ofNat 60))),
  ((37, 10, 0), ([(0, .ofNat 0), (3, .ofNat 0), (0, .ofNat 0), (0, .ofNat 100)], [], []), (sxE0, [], [], ([], .ofNat 0))),
  ((54, 11, 0), ([(0, .negSucc 0)], [], []), (sxE0, [], [], ([], .ofNat 0))),
  ((40, 7, 0), ([], [], []), (sxE0, [], [], ([(3, .ofNat 1), (0, .negSucc 0)], .ofNat 0))),
  ((40, 7, 0), ([], [], []), (sxE0, [], [], ([(0, .ofNat 1), (3, .negSucc 0)], .ofNat 100))),
  ((47, 10, 0), ([(0, .ofNat 0), (4, .ofNat 0), (0, .ofNat 0), (0, .ofNat 1)], [], []), (sxE0, [], [], ([], .ofNat 0))),
  ((54, 11, 0), ([(0, .negSucc 0)], [], []), (sxE0, [], [], ([], .ofNat 0))),
  ((50, 7, 0), ([], [], []), (sxE0, [], [], ([(4, .ofNat 1), (0, .negSucc 0)], .ofNat 0))),
  ((50, 7, 0), ([], [], []), (sxE0, [], [], ([(0, .ofNat 1), (4, .negSucc 0)], .ofNat 1))),
  ((73, 0, 0), ([(0, .ofNat 0), (0, .ofNat 0), (0, .ofNat 0), (6, .ofNat 0)], [], []), (([(.ofNat 0, .ofNat 10), (.negSucc 2147483647, .ofNat 2147483647), (.negSucc 2147483647, .ofNat 2147483647), (.ofNat 0, .ofNat 2147483647)], [], 0, [], [], [((0, 1), (0, .ofNat 7), (0, 6, .ofNat 0)), ((0, 2), (0, .ofNat 0), (0, 5, .ofNat 0)), ((0, 1), (0, .ofNat 0), (2, 2, .ofNat 0)), ((0, 0), (0, .ofNat 4), (2, 1, .ofNat 0))], []), [(8, (0, 7, .ofNat 0)), (7, (0, 8, .ofNat 0)), (6, (0, 9, .ofNat 0)), (5, (0, 10, .ofNat 0)), (0, (2, 0, .ofNat 0)), (1, (0, 1, .ofNat 0)), (2, (0, 2, .ofNat 0)), (3, (0, 3, .ofNat 0)), (4, (0, 4, .ofNat 0))], [], ([(7, .negSucc 0)], .ofNat 10))),
  ((202, 11, 0), ([(8, .ofNat 0)], [], []), (sxE0, [], [], ([], .ofNat 0))),
  ((202, 11, 0), ([(9, .ofNat 0)], [], []), (sxE0, [], [], ([], .ofNat 0))),
  ((90, 10, 1), ([(0, .ofNat 0)], [3, 4], []), (sxE0, [], [], ([], .ofNat 0))),
  ((96, 0, 0), ([(0, .ofNat 0), (9, .ofNat 0), (10, .ofNat 0)], [], []), (([(.ofNat 0, .ofNat 60), (.negSucc 2147483647, .ofNat 2147483647), (.ofNat 0, .ofNat 2147483647)], [], 0, [], [], [((0, 1), (0, .ofNat 1), (2, 4, .ofNat 0)), ((0, 0), (0, .ofNat 10), (2, 3, .ofNat 0)), ((0, 1), (0, .ofNat 7), (0, 6, .ofNat 0)), ((0, 2), (0, .ofNat 0), (0, 5, .ofNat 0)), ((0, 1), (0, .ofNat 0), (2, 2, .ofNat 0)), ((0, 0), (0, .ofNat 4), (2, 1, .ofNat 0))], []), [(9, (0, 11, .ofNat 0)), (8, (0, 7, .ofNat 0)), (7, (0, 8, .ofNat 0)), (6, (0, 12, .ofNat 0)), (5, (0, 13, .ofNat 0)), (0, (2, 0, .ofNat 0)), (1, (0, 1, .ofNat 0)), (2, (0, 2, .ofNat 0)), (3, (0, 3, .ofNat 0)), (4, (0, 4, .ofNat 0))], [], ([(11, .negSucc 0)], .ofNat 60))),
  ((175, 10, 7), ([(0, .ofNat 0), (14, .ofNat 0)], [3], []), (sxE0, [], [], ([], .ofNat 0))),
  ((178, 10, 5), ([(0, .ofNat 0), (15, .ofNat 0)], [], []), (sxE0, [], [], ([], .ofNat 0))),
  ((73, 2, 1), ([(7, .ofNat 1), (17, .ofNat 0), (12, .ofNat 0), (13, .ofNat 0)], [], []), (sxE0, [], [], ([], .ofNat 0))),
  ((106, 10, 2), ([(0, .ofNat 0), (13, .ofNat 0), (3, .ofNat 0)], [0], []), (sxE0, [], [], ([], .ofNat 0))),
  ((134, 10, 3), ([(0, .ofNat 0), (15, .ofNat 0)], [0], []), (sxE0, [], [], ([], .ofNat 0))),
  ((138, 10, 4), ([(0, .ofNat 0), (0, .negSucc 0)], [5, 2, 3], []), (sxE0, [], [], ([], .ofNat 0))),
  ((147, 10, 5), ([(0, .ofNat 0), (16, .ofNat 0)], [], []), (sxE0, [], [], ([], .ofNat 0))),
  ((96, 2, 0), ([(11, .ofNat 1), (18, .ofNat 0), (14, .ofNat 0)], [], []), (sxE0, [], [], ([], .ofNat 0))),
  ((137, 7, 0), ([], [], []), (sxE0, [], [], ([(15, .ofNat 1)], .ofNat 0))),
  ((137, 7, 0), ([], [], []), (sxE0, [], [], ([(15, .negSucc 0)], .ofNat 5))),
  ((138, 10, 6), ([(0, .ofNat 0), (0, .negSucc 0)], [5, 2, 3, 6], []), (sxE0, [], [], ([], .ofNat 0))),
  ((147, 10, 5), ([(0, .ofNat 0), (16, .ofNat 0)], [], []), (sxE0, [], [], ([], .ofNat 0))),
  ((96, 2, 0), ([(11, .ofNat 1), (18, .ofNat 0), (14, .ofNat 0)], [], []), (sxE0, [], [], ([], .ofNat 0)))]
theorem sxvI110 : (sx_exec sxRT [sxI1, sxI2, sxI109, sxI3, sxI11, sxI13, sxI26, sxI12] [] sxhI110 1515 0 sxI110.2.2.1 (sx_argl 0 sxI110.2.2.2.1) [] [] sxjI110).isSome = true := by decide +kernel
theorem sxmI110 {PF : Nat → List Int → List (Nat → Int) → Prop} {l : Launch} : sx_met PF sxRT sxMy sxMc sxML sxMr sxTK l sxI110 := by
  obtain ⟨its2, hk⟩ := Option.isSome_iff_exists.mp sxvI110
  exact sx_met_of (h := sxhI110) sxTK_ok (sxTK2 sxksX11_ok) sxt_X11_laundries sxFW_ok (sx_cons (sxmI1) (sx_cons (sxmI2) (sx_cons (sxmI109) (sx_cons (sxmI3) (sx_cons (sxmI11) (sx_cons (sxmI13) (sx_cons (sxmI26) (sx_cons (sxmI12) sx_nil)))))))) (fun L h => by cases h) rfl (by decide +kernel) (by decide) rfl ⟨rfl, rfl, rfl, rfl⟩ hk
