def sxI149 : sxI := (221, (2, 40), ([(.ofNat 0, .ofNat 0), (.negSucc 0, .ofNat 6), (.negSucc 2147483647, .ofNat 2147483647), (.ofNat 0, .ofNat 7)], [36], 0, [], [], [], []), [(2, 0, .ofNat 0), (0, 1, .ofNat 0), (0, 2, .ofNat 0), (0, 3, .ofNat 0)], [], [(([(.negSucc 2147483647, .ofNat 2147483647)], [], 0, [], [], [], []), some (0, 4, .ofNat 0))])
def sxhI149 : sxH := (sxk_X6_tell, sxgX6, sxpX6, sxcX6, (sxkiX6, sxklX6, sxksX6), (4, sxI149.2.2.2.2.1, sxI149.2.2.2.2.2, 0), (4, 1, 0), (2, 40))
def sxjI149 : List sxJ := [((27, 11, 0), ([(0, .negSucc 1)], [], []), (sxE0, [], [], ([], .ofNat 0))),
  ((27, 11, 0), ([(4, .ofNat 0)], [], []), (sxE0, [], [], ([], .ofNat 0))),
  ((6, 11, 0), ([(2, .ofNat 0)], [], []), (sxE0, [], [], ([], .ofNat 0)))]
theorem sxvI149 : (sx_exec sxRT [] [] sxhI149 71 0 sxI149.2.2.1 (sx_argl 0 sxI149.2.2.2.1) [] [] sxjI149).isSome = true := by decide +kernel
theorem sxmI149 {PF : Nat → List Int → List (Nat → Int) → Prop} {l : Launch} : sx_met PF sxRT sxMy sxMc sxML sxMr sxTK l sxI149 := by
  obtain ⟨its2, hk⟩ := Option.isSome_iff_exists.mp sxvI149
  exact sx_met_of (h := sxhI149) sxTK_ok (sxTK2 sxksX6_ok) sxt_X6_tell sxFW_ok sx_nil (fun L h => by cases h) rfl (by decide +kernel) (by decide) rfl ⟨rfl, rfl, rfl, rfl⟩ hk
def sxI150 : sxI := (47, (6, 166), ([(.ofNat 0, .ofNat 0), (.negSucc 2147483647, .ofNat 2147483647)], [0], 0, [], [], [], []), [(2, 0, .ofNat 0), (0, 1, .ofNat 0)], [(36, 3, 5), (37, 0, 7), (38, 0, 128)], [(([(.negSucc 2147483647, .ofNat 2147483647)], [], 0, [], [], [], []), some (0, 2, .ofNat 0))])
def sxhI150 : sxH := (sxk_X11_most, sxgX11, sxpX11, sxcX11, (sxkiX11, sxklX11, sxksX11), (3, sxI150.2.2.2.2.1, sxI150.2.2.2.2.2, 0), (2, 1, 0), (6, 166))
def sxjI150 : List sxJ := [((25, 11, 0), ([(0, .negSucc 2)], [], []), (sxE0, [], [], ([], .ofNat 0))),
  ((17, 10, 0), ([(0, .ofNat 0), (1, .ofNat 0), (0, .negSucc 0), (0, .ofNat 6)], [], []), (sxE0, [], [], ([], .ofNat 0))),
  ((25, 11, 0), ([(0, .negSucc 2)], [], []), (sxE0, [], [], ([], .ofNat 0))),
  ((20, 7, 0), ([], [], []), (sxE0, [], [], ([(1, .ofNat 1), (0, .negSucc 0)], .ofNat 1))),
  ((20, 7, 0), ([], [], []), (sxE0, [], [], ([(0, .ofNat 1), (1, .negSucc 0)], .ofNat 6))),
  ((44, 10, 1), ([(0, .ofNat 0)], [3, 2, 4], []), (sxE0, [], [], ([], .ofNat 0))),
  ((64, 10, 2), ([(0, .ofNat 0), (1, .ofNat 0), (3, .ofNat 0), (4, .ofNat 0)], [3], []), (sxE0, [], [], ([], .ofNat 0))),
  ((67, 11, 0), ([(5, .ofNat 0)], [], []), (sxE0, [], [], ([], .ofNat 0)))]
theorem sxvI150 : (sx_exec sxRT [sxI1, sxI148, sxI149] [] sxhI150 93 0 sxI150.2.2.1 (sx_argl 0 sxI150.2.2.2.1) [] [] sxjI150).isSome = true := by decide +kernel
theorem sxmI150 {PF : Nat → List Int → List (Nat → Int) → Prop} {l : Launch} : sx_met PF sxRT sxMy sxMc sxML sxMr sxTK l sxI150 := by
  obtain ⟨its2, hk⟩ := Option.isSome_iff_exists.mp sxvI150
  exact sx_met_of (h := sxhI150) sxTK_ok (sxTK2 sxksX11_ok) sxt_X11_most sxFW_ok (sx_cons (sxmI1) (sx_cons (sxmI148) (sx_cons (sxmI149) sx_nil))) (fun L h => by cases h) rfl (by decide +kernel) (by decide) rfl ⟨rfl, rfl, rfl, rfl⟩ hk
def sxI151 : sxI := (25, (3, 64), ([(.ofNat 0, .ofNat 0), (.ofNat 0, .ofNat 0), (.ofNat 1, .ofNat 1)], [0], 0, [], [], [], []), [(2, 0, .ofNat 0), (0, 1, .ofNat 0), (0, 2, .ofNat 0)], [], [(([], [], 0, [], [], [], []), some (0, 0, .ofNat 0)), (([], [], 0, [], [], [], []), some (0, 0, .ofNat 1))])
def sxhI151 : sxH := (sxk_X11_comesNearer, sxgX11, sxpX11, sxcX11, (sxkiX11, sxklX11, sxksX11), (3, sxI151.2.2.2.2.1, sxI151.2.2.2.2.2, 1), (3, 1, 0), (3, 64))
def sxjI151 : List sxJ := [((8, 10, 0), ([(0, .ofNat 0), (1, .ofNat 0)], [2], []), (sxE0, [], [], ([], .ofNat 0))),
  ((23, 11, 0), ([], [], []), (sxE0, [], [], ([], .ofNat 0))),
  ((23, 11, 1), ([], [], []), (sxE0, [], [], ([], .ofNat 0)))]
theorem sxvI151 : (sx_exec sxRT [sxI42] [] sxhI151 68 0 sxI151.2.2.1 (sx_argl 0 sxI151.2.2.2.1) [] [] sxjI151).isSome = true := by decide +kernel
theorem sxmI151 {PF : Nat → List Int → List (Nat → Int) → Prop} {l : Launch} : sx_met PF sxRT sxMy sxMc sxML sxMr sxTK l sxI151 := by
  obtain ⟨its2, hk⟩ := Option.isSome_iff_exists.mp sxvI151
  exact sx_met_of (h := sxhI151) sxTK_ok (sxTK2 sxksX11_ok) sxt_X11_comesNearer sxFW_ok (sx_cons (sxmI42) sx_nil) (fun L h => by cases h) rfl (by decide +kernel) (by decide) rfl ⟨rfl, rfl, rfl, rfl⟩ hk
def sxI152 : sxI := (69, (2, 40), ([(.ofNat 0, .ofNat 0), (.ofNat 0, .ofNat 0), (.ofNat 0, .ofNat 6)], [0], 0, [], [], [], []), [(2, 0, .ofNat 0), (0, 1, .ofNat 0), (0, 2, .ofNat 0)], [], [(([(.negSucc 2147483647, .ofNat 0)], [], 0, [], [], [], []), some (0, 3, .ofNat 0))])
def sxhI152 : sxH := (sxk_X11_whatOneHas, sxgX11, sxpX11, sxcX11, (sxkiX11, sxklX11, sxksX11), (3, sxI152.2.2.2.2.1, sxI152.2.2.2.2.2, 0), (3, 1, 0), (2, 40))
def sxjI152 : List sxJ := [((29, 11, 0), ([(0, .ofNat 0)], [], []), (sxE0, [], [], ([], .ofNat 0))),
  ((29, 11, 0), ([(5, .ofNat 0)], [], []), (sxE0, [], [], ([], .ofNat 0)))]
theorem sxvI152 : (sx_exec sxRT [] [] sxhI152 69 0 sxI152.2.2.1 (sx_argl 0 sxI152.2.2.2.1) [] [] sxjI152).isSome = true := by decide +kernel
theorem sxmI152 {PF : Nat → List Int → List (Nat → Int) → Prop} {l : Launch} : sx_met PF sxRT sxMy sxMc sxML sxMr sxTK l sxI152 := by
  obtain ⟨its2, hk⟩ := Option.isSome_iff_exists.mp sxvI152
  exact sx_met_of (h := sxhI152) sxTK_ok (sxTK2 sxksX11_ok) sxt_X11_whatOneHas sxFW_ok sx_nil (fun L h => by cases h) rfl (by decide +kernel) (by decide) rfl ⟨rfl, rfl, rfl, rfl⟩ hk
def sxI153 : sxI := (69, (2, 40), ([(.ofNat 0, .ofNat 0), (.ofNat 1, .ofNat 1), (.ofNat 0, .ofNat 6)], [0], 0, [], [], [], []), [(2, 0, .ofNat 0), (0, 1, .ofNat 0), (0, 2, .ofNat 0)], [], [(([(.negSucc 2147483647, .ofNat 0)], [], 0, [], [], [], []), some (0, 3, .ofNat 0))])
def sxhI153 : sxH := (sxk_X11_whatOneHas, sxgX11, sxpX11, sxcX11, (sxkiX11, sxklX11, sxksX11), (3, sxI153.2.2.2.2.1, sxI153.2.2.2.2.2, 0), (3, 1, 0), (2, 40))
def sxjI153 : List sxJ := [((29, 11, 0), ([(0, .ofNat 0)], [], []), (sxE0, [], [], ([], .ofNat 0))),
  ((29, 11, 0), ([(5, .ofNat 0)], [], []), (sxE0, [], [], ([], .ofNat 0)))]
theorem sxvI153 : (sx_exec sxRT [] [] sxhI153 69 0 sxI153.2.2.1 (sx_argl 0 sxI153.2.2.2.1) [] [] sxjI153).isSome = true := by decide +kernel
theorem sxmI153 {PF : Nat → List Int → List (Nat → Int) → Prop} {l : Launch} : sx_met PF sxRT sxMy sxMc sxML sxMr sxTK l sxI153 := by
  obtain ⟨its2, hk⟩ := Option.isSome_iff_exists.mp sxvI153
  exact sx_met_of (h := sxhI153) sxTK_ok (sxTK2 sxksX11_ok) sxt_X11_whatOneHas sxFW_ok sx_nil (fun L h => by cases h) rfl (by decide +kernel) (by decide) rfl ⟨rfl, rfl, rfl, rfl⟩ hk
def sxI154 : sxI := (23, (3, 62), ([(.ofNat 0, .ofNat 0), (.ofNat 0, .ofNat 0), (.ofNat 1, .ofNat 1)], [0], 0, [], [], [], []), [(2, 0, .ofNat 0), (0, 1, .ofNat 0), (0, 2, .ofNat 0)], [], [(([], [], 0, [], [], [], []), some (0, 0, .ofNat 0)), (([], [], 0, [], [], [], []), some (0, 0, .ofNat 1))])
def sxhI154 : sxH := (sxk_X11_betterForBoth, sxgX11, sxpX11, sxcX11, (sxkiX11, sxklX11, sxksX11), (5, sxI154.2.2.2.2.1, sxI154.2.2.2.2.2, 1), (3, 1, 0), (3, 62))
def sxjI154 : List sxJ := [((31, 10, 0), ([(0, .ofNat 0), (1, .ofNat 0), (4, .ofNat 0)], [0], []), (sxE0, [], [], ([], .ofNat 0))),
  ((37, 10, 0), ([(0, .ofNat 0), (1, .ofNat 0), (3, .ofNat 0)], [0], []), (sxE0, [], [], ([], .ofNat 0))),
  ((64, 11, 0), ([], [], []), (sxE0, [], [], ([], .ofNat 0))),
  ((46, 10, 1), ([(0, .ofNat 0), (2, .ofNat 0), (3, .ofNat 0)], [0], []), (sxE0, [], [], ([], .ofNat 0))),
  ((53, 10, 1), ([(0, .ofNat 0), (2, .ofNat 0), (4, .ofNat 0)], [0], []), (sxE0, [], [], ([], .ofNat 0))),
  ((64, 11, 0), ([], [], []), (sxE0, [], [], ([], .ofNat 0))),
  ((64, 11, 1), ([], [], []), (sxE0, [], [], ([], .ofNat 0)))]
theorem sxvI154 : (sx_exec sxRT [sxI152, sxI153] [] sxhI154 96 0 sxI154.2.2.1 (sx_argl 0 sxI154.2.2.2.1) [] [] sxjI154).isSome = true := by decide +kernel
theorem sxmI154 {PF : Nat → List Int → List (Nat → Int) → Prop} {l : Launch} : sx_met PF sxRT sxMy sxMc sxML sxMr sxTK l sxI154 := by
  obtain ⟨its2, hk⟩ := Option.isSome_iff_exists.mp sxvI154
  exact sx_met_of (h := sxhI154) sxTK_ok (sxTK2 sxksX11_ok) sxt_X11_betterForBoth sxFW_ok (sx_cons (sxmI152) (sx_cons (sxmI153) sx_nil)) (fun L h => by cases h) rfl (by decide +kernel) (by decide) rfl ⟨rfl, rfl, rfl, rfl⟩ hk
def sxI155 : sxI := (25, (3, 64), ([(.ofNat 0, .ofNat 0), (.ofNat 0, .ofNat 0), (.ofNat 1, .ofNat 2)], [0], 0, [], [], [], []), [(2, 0, .ofNat 0), (0, 1, .ofNat 0), (0, 2, .ofNat 0)], [], [(([], [], 0, [], [], [], []), some (0, 0, .ofNat 0)), (([], [], 0, [], [], [], []), some (0, 0, .ofNat 1))])
def sxhI155 : sxH := (sxk_X11_comesNearer, sxgX11, sxpX11, sxcX11, (sxkiX11, sxklX11, sxksX11), (3, sxI155.2.2.2.2.1, sxI155.2.2.2.2.2, 1), (3, 1, 0), (3, 64))
def sxjI155 : List sxJ := [((8, 10, 0), ([(0, .ofNat 0), (1, .ofNat 0)], [2], []), (sxE0, [], [], ([], .ofNat 0))),
  ((23, 11, 0), ([], [], []), (sxE0, [], [], ([], .ofNat 0))),
  ((23, 11, 1), ([], [], []), (sxE0, [], [], ([], .ofNat 0)))]
theorem sxvI155 : (sx_exec sxRT [sxI42] [] sxhI155 68 0 sxI155.2.2.1 (sx_argl 0 sxI155.2.2.2.1) [] [] sxjI155).isSome = true := by decide +kernel
theorem sxmI155 {PF : Nat → List Int → List (Nat → Int) → Prop} {l : Launch} : sx_met PF sxRT sxMy sxMc sxML sxMr sxTK l sxI155 := by
  obtain ⟨its2, hk⟩ := Option.isSome_iff_exists.mp sxvI155
  exact sx_met_of (h := sxhI155) sxTK_ok (sxTK2 sxksX11_ok) sxt_X11_comesNearer sxFW_ok (sx_cons (sxmI42) sx_nil) (fun L h => by cases h) rfl (by decide +kernel) (by decide) rfl ⟨rfl, rfl, rfl, rfl⟩ hk
def sxI156 : sxI := (69, (2, 40), ([(.ofNat 0, .ofNat 0), (.ofNat 1, .ofNat 2), (.ofNat 0, .ofNat 6)], [0], 0, [], [], [], []), [(2, 0, .ofNat 0), (0, 1, .ofNat 0), (0, 2, .ofNat 0)], [], [(([(.negSucc 2147483647, .ofNat 0)], [], 0, [], [], [], []), some (0, 3, .ofNat 0))])
def sxhI156 : sxH := (sxk_X11_whatOneHas, sxgX11, sxpX11, sxcX11, (sxkiX11, sxklX11, sxksX11), (3, sxI156.2.2.2.2.1, sxI156.2.2.2.2.2, 0), (3, 1, 0), (2, 40))
def sxjI156 : List sxJ := [((29, 11, 0), ([(0, .ofNat 0)], [], []), (sxE0, [], [], ([], .ofNat 0))),
  ((29, 11, 0), ([(5, .ofNat 0)], [], []), (sxE0, [], [], ([], .ofNat 0)))]
theorem sxvI156 : (sx_exec sxRT [] [] sxhI156 69 0 sxI156.2.2.1 (sx_argl 0 sxI156.2.2.2.1) [] [] sxjI156).isSome = true := by decide +kernel
theorem sxmI156 {PF : Nat → List Int → List (Nat → Int) → Prop} {l : Launch} : sx_met PF sxRT sxMy sxMc sxML sxMr sxTK l sxI156 := by
  obtain ⟨its2, hk⟩ := Option.isSome_iff_exists.mp sxvI156
  exact sx_met_of (h := sxhI156) sxTK_ok (sxTK2 sxksX11_ok) sxt_X11_whatOneHas sxFW_ok sx_nil (fun L h => by cases h) rfl (by decide +kernel) (by decide) rfl ⟨rfl, rfl, rfl, rfl⟩ hk
def sxI157 : sxI := (23, (3, 62), ([(.ofNat 0, .ofNat 0), (.ofNat 0, .ofNat 0), (.ofNat 1, .ofNat 2)], [0], 0, [], [], [], []), [(2, 0, .ofNat 0), (0, 1, .ofNat 0), (0, 2, .ofNat 0)], [], [(([], [], 0, [], [], [], []), some (0, 0, .ofNat 0)), (([], [], 0, [], [], [], []), some (0, 0, .ofNat 1))])
def sxhI157 : sxH := (sxk_X11_betterForBoth, sxgX11, sxpX11, sxcX11, (sxkiX11, sxklX11, sxksX11), (5, sxI157.2.2.2.2.1, sxI157.2.2.2.2.2, 1), (3, 1, 0), (3, 62))
def sxjI157 : List sxJ := [((31, 10, 0), ([(0, .ofNat 0), (1, .ofNat 0), (4, .ofNat 0)], [0], []), (sxE0, [], [], ([], .ofNat 0))),
  ((37, 10, 0), ([(0, .ofNat 0), (1, .ofNat 0), (3, .ofNat 0)], [0], []), (sxE0, [], [], ([], .ofNat 0))),
  ((64, 11, 0), ([], [], []), (sxE0, [], [], ([], .ofNat 0))),
  ((46, 10, 1), ([(0, .ofNat 0), (2, .ofNat 0), (3, .ofNat 0)], [0], []), (sxE0, [], [], ([], .ofNat 0))),
  ((53, 10, 1), ([(0, .ofNat 0), (2, .ofNat 0), (4, .ofNat 0)], [0], []), (sxE0, [], [], ([], .ofNat 0))),
  ((64, 11, 0), ([], [], []), (sxE0, [], [], ([], .ofNat 0))),
  ((64, 11, 1), ([], [], []), (sxE0, [], [], ([], .ofNat 0)))]
theorem sxvI157 : (sx_exec sxRT [sxI152, sxI156] [] sxhI157 96 0 sxI157.2.2.1 (sx_argl 0 sxI157.2.2.2.1) [] [] sxjI157).isSome = true := by decide +kernel
theorem sxmI157 {PF : Nat → List Int → List (Nat → Int) → Prop} {l : Launch} : sx_met PF sxRT sxMy sxMc sxML sxMr sxTK l sxI157 := by
  obtain ⟨its2, hk⟩ := Option.isSome_iff_exists.mp sxvI157
  exact sx_met_of (h := sxhI157) sxTK_ok (sxTK2 sxksX11_ok) sxt_X11_betterForBoth sxFW_ok (sx_cons (sxmI152) (sx_cons (sxmI156) sx_nil)) (fun L h => by cases h) rfl (by decide +kernel) (by decide) rfl ⟨rfl, rfl, rfl, rfl⟩ hk
def sxI158 : sxI := (25, (3, 64), ([(.ofNat 0, .ofNat 0), (.ofNat 0, .ofNat 0), (.ofNat 1, .ofNat 6)], [0], 0, [], [], [], []), [(2, 0, .ofNat 0), (0, 1, .ofNat 0), (0, 2, .ofNat 0)], [], [(([], [], 0, [], [], [], []), some (0, 0, .ofNat 0)), (([], [], 0, [], [], [], []), some (0, 0, .ofNat 1))])
def sxhI158 : sxH := (sxk_X11_comesNearer, sxgX11, sxpX11, sxcX11, (sxkiX11, sxklX11, sxksX11), (3, sxI158.2.2.2.2.1, sxI158.2.2.2.2.2, 1), (3, 1, 0), (3, 64))
def sxjI158 : List sxJ := [((8, 10, 0), ([(0, .ofNat 0), (1, .ofNat 0)], [2], []), (sxE0, [], [], ([], .ofNat 0))),
  ((23, 11, 0), ([], [], []), (sxE0, [], [], ([], .ofNat 0))),
  ((23, 11, 1), ([], [], []), (sxE0, [], [], ([], .ofNat 0)))]
theorem sxvI158 : (sx_exec sxRT [sxI42] [] sxhI158 68 0 sxI158.2.2.1 (sx_argl 0 sxI158.2.2.2.1) [] [] sxjI158).isSome = true := by decide +kernel
theorem sxmI158 {PF : Nat → List Int → List (Nat → Int) → Prop} {l : Launch} : sx_met PF sxRT sxMy sxMc sxML sxMr sxTK l sxI158 := by
  obtain ⟨its2, hk⟩ := Option.isSome_iff_exists.mp sxvI158
  exact sx_met_of (h := sxhI158) sxTK_ok (sxTK2 sxksX11_ok) sxt_X11_comesNearer sxFW_ok (sx_cons (sxmI42) sx_nil) (fun L h => by cases h) rfl (by decide +kernel) (by decide) rfl ⟨rfl, rfl, rfl, rfl⟩ hk
def sxI159 : sxI := (69, (2, 40), ([(.ofNat 0, .ofNat 0), (.ofNat 1, .ofNat 6), (.ofNat 0, .ofNat 6)], [0], 0, [], [], [], []), [(2, 0, .ofNat 0), (0, 1, .ofNat 0), (0, 2, .ofNat 0)], [], [(([(.negSucc 2147483647, .ofNat 0)], [], 0, [], [], [], []), some (0, 3, .ofNat 0))])
def sxhI159 : sxH := (sxk_X11_whatOneHas, sxgX11, sxpX11, sxcX11, (sxkiX11, sxklX11, sxksX11), (3, sxI159.2.2.2.2.1, sxI159.2.2.2.2.2, 0), (3, 1, 0), (2, 40))
def sxjI159 : List sxJ := [((29, 11, 0), ([(0, .ofNat 0)], [], []), (sxE0, [], [], ([], .ofNat 0))),
  ((29, 11, 0), ([(5, .ofNat 0)], [], []), (sxE0, [], [], ([], .ofNat 0)))]
theorem sxvI159 : (sx_exec sxRT [] [] sxhI159 69 0 sxI159.2.2.1 (sx_argl 0 sxI159.2.2.2.1) [] [] sxjI159).isSome = true := by decide +kernel
theorem sxmI159 {PF : Nat → List Int → List (Nat → Int) → Prop} {l : Launch} : sx_met PF sxRT sxMy sxMc sxML sxMr sxTK l sxI159 := by
  obtain ⟨its2, hk⟩ := Option.isSome_iff_exists.mp sxvI159
  exact sx_met_of (h := sxhI159) sxTK_ok (sxTK2 sxksX11_ok) sxt_X11_whatOneHas sxFW_ok sx_nil (fun L h => by cases h) rfl (by decide +kernel) (by decide) rfl ⟨rfl, rfl, rfl, rfl⟩ hk
def sxI160 : sxI := (23, (3, 62), ([(.ofNat 0, .ofNat 0), (.ofNat 0, .ofNat 0), (.ofNat 1, .ofNat 6)], [0], 0, [], [], [], []), [(2, 0, .ofNat 0), (0, 1, .ofNat 0), (0, 2, .ofNat 0)], [], [(([], [], 0, [], [], [], []), some (0, 0, .ofNat 0)), (([], [], 0, [], [], [], []), some (0, 0, .ofNat 1))])
def sxhI160 : sxH := (sxk_X11_betterForBoth, sxgX11, sxpX11, sxcX11, (sxkiX11, sxklX11, sxksX11), (5, sxI160.2.2.2.2.1, sxI160.2.2.2.2.2, 1), (3, 1, 0), (3, 62))
def sxjI160 : List sxJ := [((31, 10, 0), ([(0, .ofNat 0), (1, .ofNat 0), (4, .ofNat 0)], [0], []), (sxE0, [], [], ([], .ofNat 0))),
  ((37, 10, 0), ([(0, .ofNat 0), (1, .ofNat 0), (3, .ofNat 0)], [0], []), (sxE0, [], [], ([], .ofNat 0))),
  ((64, 11, 0), ([], [], []), (sxE0, [], [], ([], .ofNat 0))),
  ((46, 10, 1), ([(0, .ofNat 0), (2, .ofNat 0), (3, .ofNat 0)], [0], []), (sxE0, [], [], ([], .ofNat 0))),
  ((53, 10, 1), ([(0, .ofNat 0), (2, .ofNat 0), (4, .ofNat 0)], [0], []), (sxE0, [], [], ([], .ofNat 0))),
  ((64, 11, 0), ([], [], []), (sxE0, [], [], ([], .ofNat 0))),
  ((64, 11, 1), ([], [], []), (sxE0, [], [], ([], .ofNat 0)))]
theorem sxvI160 : (sx_exec sxRT [sxI152, sxI159] [] sxhI160 96 0 sxI160.2.2.1 (sx_argl 0 sxI160.2.2.2.1) [] [] sxjI160).isSome = true := by decide +kernel
theorem sxmI160 {PF : Nat → List Int → List (Nat → Int) → Prop} {l : Launch} : sx_met PF sxRT sxMy sxMc sxML sxMr sxTK l sxI160 := by
  obtain ⟨its2, hk⟩ := Option.isSome_iff_exists.mp sxvI160
  exact sx_met_of (h := sxhI160) sxTK_ok (sxTK2 sxksX11_ok) sxt_X11_betterForBoth sxFW_ok (sx_cons (sxmI152) (sx_cons (sxmI159) sx_nil)) (fun L h => by cases h) rfl (by decide +kernel) (by decide) rfl ⟨rfl, rfl, rfl, rfl⟩ hk
def sxI161 : sxI := (25, (3, 64), ([(.ofNat 0, .ofNat 0), (.ofNat 0, .ofNat 1), (.ofNat 1, .ofNat 2)], [0], 0, [], [], [], []), [(2, 0, .ofNat 0), (0, 1, .ofNat 0), (0, 2, .ofNat 0)], [], [(([], [], 0, [], [], [], []), some (0, 0, .ofNat 0)), (([], [], 0, [], [], [], []), some (0, 0, .ofNat 1))])
def sxhI161 : sxH := (sxk_X11_comesNearer, sxgX11, sxpX11, sxcX11, (sxkiX11, sxklX11, sxksX11), (3, sxI161.2.2.2.2.1, sxI161.2.2.2.2.2, 1), (3, 1, 0), (3, 64))
def sxjI161 : List sxJ := [((8, 10, 0), ([(0, .ofNat 0), (1, .ofNat 0)], [2], []), (sxE0, [], [], ([], .ofNat 0))),
  ((23, 11, 0), ([], [], []), (sxE0, [], [], ([], .ofNat 0))),
  ((23, 11, 1), ([], [], []), (sxE0, [], [], ([], .ofNat 0)))]
theorem sxvI161 : (sx_exec sxRT [sxI43] [] sxhI161 68 0 sxI161.2.2.1 (sx_argl 0 sxI161.2.2.2.1) [] [] sxjI161).isSome = true := by decide +kernel
theorem sxmI161 {PF : Nat → List Int → List (Nat → Int) → Prop} {l : Launch} : sx_met PF sxRT sxMy sxMc sxML sxMr sxTK l sxI161 := by
  obtain ⟨its2, hk⟩ := Option.isSome_iff_exists.mp sxvI161
  exact sx_met_of (h := sxhI161) sxTK_ok (sxTK2 sxksX11_ok) sxt_X11_comesNearer sxFW_ok (sx_cons (sxmI43) sx_nil) (fun L h => by cases h) rfl (by decide +kernel) (by decide) rfl ⟨rfl, rfl, rfl, rfl⟩ hk
def sxI162 : sxI := (69, (2, 40), ([(.ofNat 0, .ofNat 0), (.ofNat 0, .ofNat 1), (.ofNat 0, .ofNat 6)], [0], 0, [], [], [], []), [(2, 0, .ofNat 0), (0, 1, .ofNat 0), (0, 2, .ofNat 0)], [], [(([(.negSucc 2147483647, .ofNat 0)], [], 0, [], [], [], []), some (0, 3, .ofNat 0))])
def sxhI162 : sxH := (sxk_X11_whatOneHas, sxgX11, sxpX11, sxcX11, (sxkiX11, sxklX11, sxksX11), (3, sxI162.2.2.2.2.1, sxI162.2.2.2.2.2, 0), (3, 1, 0), (2, 40))
def sxjI162 : List sxJ := [((29, 11, 0), ([(0, .ofNat 0)], [], []), (sxE0, [], [], ([], .ofNat 0))),
  ((29, 11, 0), ([(5, .ofNat 0)], [], []), (sxE0, [], [], ([], .ofNat 0)))]
theorem sxvI162 : (sx_exec sxRT [] [] sxhI162 69 0 sxI162.2.2.1 (sx_argl 0 sxI162.2.2.2.1) [] [] sxjI162).isSome = true := by decide +kernel
theorem sxmI162 {PF : Nat → List Int → List (Nat → Int) → Prop} {l : Launch} : sx_met PF sxRT sxMy sxMc sxML sxMr sxTK l sxI162 := by
  obtain ⟨its2, hk⟩ := Option.isSome_iff_exists.mp sxvI162
  exact sx_met_of (h := sxhI162) sxTK_ok (sxTK2 sxksX11_ok) sxt_X11_whatOneHas sxFW_ok sx_nil (fun L h => by cases h) rfl (by decide +kernel) (by decide) rfl ⟨rfl, rfl, rfl, rfl⟩ hk
def sxI163 : sxI := (23, (3, 62), ([(.ofNat 0, .ofNat 0), (.ofNat 0, .ofNat 1), (.ofNat 1, .ofNat 2)], [0], 0, [], [], [], []), [(2, 0, .ofNat 0), (0, 1, .ofNat 0), (0, 2, .ofNat 0)], [], [(([], [], 0, [], [], [], []), some (0, 0, .ofNat 0)), (([], [], 0, [], [], [], []), some (0, 0, .ofNat 1))])
def sxhI163 : sxH := (sxk_X11_betterForBoth, sxgX11, sxpX11, sxcX11, (sxkiX11, sxklX11, sxksX11), (5, sxI163.2.2.2.2.1, sxI163.2.2.2.2.2, 1), (3, 1, 0), (3, 62))
def sxjI163 : List sxJ := [((31, 10, 0), ([(0, .ofNat 0), (1, .ofNat 0), (4, .ofNat 0)], [0], []), (sxE0, [], [], ([], .ofNat 0))),
  ((37, 10, 0), ([(0, .ofNat 0), (1, .ofNat 0), (3, .ofNat 0)], [0], []), (sxE0, [], [], ([], .ofNat 0))),
  ((64, 11, 0), ([], [], []), (sxE0, [], [], ([], .ofNat 0))),
  ((46, 10, 1), ([(0, .ofNat 0), (2, .ofNat 0), (3, .ofNat 0)], [0], []), (sxE0, [], [], ([], .ofNat 0))),
  ((53, 10, 1), ([(0, .ofNat 0), (2, .ofNat 0), (4, .ofNat 0)], [0], []), (sxE0, [], [], ([], .ofNat 0))),
  ((64, 11, 0), ([], [], []), (sxE0, [], [], ([], .ofNat 0))),
  ((64, 11, 1), ([], [], []), (sxE0, [], [], ([], .ofNat 0)))]
theorem sxvI163 : (sx_exec sxRT [sxI162, sxI156] [] sxhI163 96 0 sxI163.2.2.1 (sx_argl 0 sxI163.2.2.2.1) [] [] sxjI163).isSome = true := by decide +kernel
theorem sxmI163 {PF : Nat → List Int → List (Nat → Int) → Prop} {l : Launch} : sx_met PF sxRT sxMy sxMc sxML sxMr sxTK l sxI163 := by
  obtain ⟨its2, hk⟩ := Option.isSome_iff_exists.mp sxvI163
  exact sx_met_of (h := sxhI163) sxTK_ok (sxTK2 sxksX11_ok) sxt_X11_betterForBoth sxFW_ok (sx_cons (sxmI162) (sx_cons (sxmI156) sx_nil)) (fun L h => by cases h) rfl (by decide +kernel) (by decide) rfl ⟨rfl, rfl, rfl, rfl⟩ hk
def sxI164 : sxI := (25, (3, 64), ([(.ofNat 0, .ofNat 0), (.ofNat 0, .ofNat 1), (.ofNat 1, .ofNat 3)], [0], 0, [], [], [], []), [(2, 0, .ofNat 0), (0, 1, .ofNat 0), (0, 2, .ofNat 0)], [], [(([], [], 0, [], [], [], []), some (0, 0, .ofNat 0)), (([], [], 0, [], [], [], []), some (0, 0, .ofNat 1))])
def sxhI164 : sxH := (sxk_X11_comesNearer, sxgX11, sxpX11, sxcX11, (sxkiX11, sxklX11, sxksX11), (3, sxI164.2.2.2.2.1, sxI164.2.2.2.2.2, 1), (3, 1, 0), (3, 64))
def sxjI164 : List sxJ := [((8, 10, 0), ([(0, .ofNat 0), (1, .ofNat 0)], [2], []), (sxE0, [], [], ([], .ofNat 0))),
  ((23, 11, 0), ([], [], []), (sxE0, [], [], ([], .ofNat 0))),
  ((23, 11, 1), ([], [], []), (sxE0, [], [], ([], .ofNat 0)))]
theorem sxvI164 : (sx_exec sxRT [sxI43] [] sxhI164 68 0 sxI164.2.2.1 (sx_argl 0 sxI164.2.2.2.1) [] [] sxjI164).isSome = true := by decide +kernel
theorem sxmI164 {PF : Nat → List Int → List (Nat → Int) → Prop} {l : Launch} : sx_met PF sxRT sxMy sxMc sxML sxMr sxTK l sxI164 := by
  obtain ⟨its2, hk⟩ := Option.isSome_iff_exists.mp sxvI164
  exact sx_met_of (h := sxhI164) sxTK_ok (sxTK2 sxksX11_ok) sxt_X11_comesNearer sxFW_ok (sx_cons (sxmI43) sx_nil) (fun L h => by cases h) rfl (by decide +kernel) (by decide) rfl ⟨rfl, rfl, rfl, rfl⟩ hk
def sxI165 : sxI := (23, (3, 62), ([(.ofNat 0, .ofNat 0), (.ofNat 0, .ofNat 1), (.ofNat 1, .ofNat 3)], [0], 0, [], [], [], []), [(2, 0, .ofNat 0), (0, 1, .ofNat 0), (0, 2, .ofNat 0)], [], [(([], [], 0, [], [], [], []), some (0, 0, .ofNat 0)), (([], [], 0, [], [], [], []), some (0, 0, .ofNat 1))])
def sxhI165 : sxH := (sxk_X11_betterForBoth, sxgX11, sxpX11, sxcX11, (sxkiX11, sxklX11, sxksX11), (5, sxI165.2.2.2.2.1, sxI165.2.2.2.2.2, 1), (3, 1, 0), (3, 62))
def sxjI165 : List sxJ := [((31, 10, 0), ([(0, .ofNat 0), (1, .ofNat 0), (4, .ofNat 0)], [0], []), (sxE0, [], [], ([], .ofNat 0))),
  ((37, 10, 0), ([(0, .ofNat 0), (1, .ofNat 0), (3, .ofNat 0)], [0], []), (sxE0, [], [], ([], .ofNat 0))),
  ((64, 11, 0), ([], [], []), (sxE0, [], [], ([], .ofNat 0))),
  ((46, 10, 1), ([(0, .ofNat 0), (2, .ofNat 0), (3, .ofNat 0)], [0], []), (sxE0, [], [], ([], .ofNat 0))),
  ((53, 10, 1), ([(0, .ofNat 0), (2, .ofNat 0), (4, .ofNat 0)], [0], []), (sxE0, [], [], ([], .ofNat 0))),
  ((64, 11, 0), ([], [], []), (sxE0, [], [], ([], .ofNat 0))),
  ((64, 11, 1), ([], [], []), (sxE0, [], [], ([], .ofNat 0)))]
theorem sxvI165 : (sx_exec sxRT [sxI162, sxI159] [] sxhI165 96 0 sxI165.2.2.1 (sx_argl 0 sxI165.2.2.2.1) [] [] sxjI165).isSome = true := by decide +kernel
theorem sxmI165 {PF : Nat → List Int → List (Nat → Int) → Prop} {l : Launch} : sx_met PF sxRT sxMy sxMc sxML sxMr sxTK l sxI165 := by
  obtain ⟨its2, hk⟩ := Option.isSome_iff_exists.mp sxvI165
  exact sx_met_of (h := sxhI165) sxTK_ok (sxTK2 sxksX11_ok) sxt_X11_betterForBoth sxFW_ok (sx_cons (sxmI162) (sx_cons (sxmI159) sx_nil)) (fun L h => by cases h) rfl (by decide +kernel) (by decide) rfl ⟨rfl, rfl, rfl, rfl⟩ hk
def sxI166 : sxI := (25, (3, 64), ([(.ofNat 0, .ofNat 0), (.ofNat 0, .ofNat 1), (.ofNat 1, .ofNat 6)], [0], 0, [], [], [], []), [(2, 0, .ofNat 0), (0, 1, .ofNat 0), (0, 2, .ofNat 0)], [], [(([], [], 0, [], [], [], []), some (0, 0, .ofNat 0)), (([], [], 0, [], [], [], []), some (0, 0, .ofNat 1))])
def sxhI166 : sxH := (sxk_X11_comesNearer, sxgX11, sxpX11, sxcX11, (sxkiX11, sxklX11, sxksX11), (3, sxI166.2.2.2.2.1, sxI166.2.2.2.2.2, 1), (3, 1, 0), (3, 64))
def sxjI166 : List sxJ := [((8, 10, 0), ([(0, .ofNat 0), (1, .ofNat 0)], [2], []), (sxE0, [], [], ([], .ofNat 0))),
  ((23, 11, 0), ([], [], []), (sxE0, [], [], ([], .ofNat 0))),
  ((23, 11, 1), ([], [], []), (sxE0, [], [], ([], .ofNat 0)))]
theorem sxvI166 : (sx_exec sxRT [sxI43] [] sxhI166 68 0 sxI166.2.2.1 (sx_argl 0 sxI166.2.2.2.1) [] [] sxjI166).isSome = true := by decide +kernel
theorem sxmI166 {PF : Nat → List Int → List (Nat → Int) → Prop} {l : Launch} : sx_met PF sxRT sxMy sxMc sxML sxMr sxTK l sxI166 := by
  obtain ⟨its2, hk⟩ := Option.isSome_iff_exists.mp sxvI166
  exact sx_met_of (h := sxhI166) sxTK_ok (sxTK2 sxksX11_ok) sxt_X11_comesNearer sxFW_ok (sx_cons (sxmI43) sx_nil) (fun L h => by cases h) rfl (by decide +kernel) (by decide) rfl ⟨rfl, rfl, rfl, rfl⟩ hk
def sxI167 : sxI := (23, (3, 62), ([(.ofNat 0, .ofNat 0), (.ofNat 0, .ofNat 1), (.ofNat 1, .ofNat 6)], [0], 0, [], [], [], []), [(2, 0, .ofNat 0), (0, 1, .ofNat 0), (0, 2, .ofNat 0)], [], [(([], [], 0, [], [], [], []), some (0, 0, .ofNat 0)), (([], [], 0, [], [], [], []), some (0, 0, .ofNat 1))])
def sxhI167 : sxH := (sxk_X11_betterForBoth, sxgX11, sxpX11, sxcX11, (sxkiX11, sxklX11, sxksX11), (5, sxI167.2.2.2.2.1, sxI167.2.2.2.2.2, 1), (3, 1, 0), (3, 62))
def sxjI167 : List sxJ := [((31, 10, 0), ([(0, .ofNat 0), (1, .ofNat 0), (4, .ofNat 0)], [0], []), (sxE0, [], [], ([], .ofNat 0))),
  ((37, 10, 0), ([(0, .ofNat 0), (1, .ofNat 0), (3, .ofNat 0)], [0], []), (sxE0, [], [], ([], .ofNat 0))),
  ((64, 11, 0), ([], [], []), (sxE0, [], [], ([], .ofNat 0))),
  ((46, 10, 1), ([(0, .ofNat 0), (2, .ofNat 0), (3, .ofNat 0)], [0], []), (sxE0, [], [], ([], .ofNat 0))),
  ((53, 10, 1), ([(0, .ofNat 0), (2, .ofNat 0), (4, .ofNat 0)], [0], []), (sxE0, [], [], ([], .ofNat 0))),
  ((64, 11, 0), ([], [], []), (sxE0, [], [], ([], .ofNat 0))),
  ((64, 11, 1), ([], [], []), (sxE0, [], [], ([], .ofNat 0)))]
theorem sxvI167 : (sx_exec sxRT [sxI162, sxI159] [] sxhI167 96 0 sxI167.2.2.1 (sx_argl 0 sxI167.2.2.2.1) [] [] sxjI167).isSome = true := by decide +kernel
theorem sxmI167 {PF : Nat → List Int → List (Nat → Int) → Prop} {l : Launch} : sx_met PF sxRT sxMy sxMc sxML sxMr sxTK l sxI167 := by
  obtain ⟨its2, hk⟩ := Option.isSome_iff_exists.mp sxvI167
  exact sx_met_of (h := sxhI167) sxTK_ok (sxTK2 sxksX11_ok) sxt_X11_betterForBoth sxFW_ok (sx_cons (sxmI162) (sx_cons (sxmI159) sx_nil)) (fun L h => by cases h) rfl (by decide +kernel) (by decide) rfl ⟨rfl, rfl, rfl, rfl⟩ hk
def sxI168 : sxI := (25, (3, 64), ([(.ofNat 0, .ofNat 0), (.ofNat 0, .ofNat 6), (.ofNat 1, .ofNat 6)], [0], 0, [], [], [], []), [(2, 0, .ofNat 0), (0, 1, .ofNat 0), (0, 2, .ofNat 0)], [], [(([], [], 0, [], [], [], []), some (0, 0, .ofNat 0)), (([], [], 0, [], [], [], []), some (0, 0, .ofNat 1))])
def sxhI168 : sxH := (sxk_X11_comesNearer, sxgX11, sxpX11, sxcX11, (sxkiX11, sxklX11, sxksX11), (3, sxI168.2.2.2.2.1, sxI168.2.2.2.2.2, 1), (3, 1, 0), (3, 64))
def sxjI168 : List sxJ := [((8, 10, 0), ([(0, .ofNat 0), (1, .ofNat 0)], [2], []), (sxE0, [], [], ([], .ofNat 0))),
  ((23, 11, 0), ([], [], []), (sxE0, [], [], ([], .ofNat 0))),
  ((23, 11, 1), ([], [], []), (sxE0, [], [], ([], .ofNat 0)))]
theorem sxvI168 : (sx_exec sxRT [sxI44] [] sxhI168 68 0 sxI168.2.2.1 (sx_argl 0 sxI168.2.2.2.1) [] [] sxjI168).isSome = true := by decide +kernel
theorem sxmI168 {PF : Nat → List Int → List (Nat → Int) → Prop} {l : Launch} : sx_met PF sxRT sxMy sxMc sxML sxMr sxTK l sxI168 := by
  obtain ⟨its2, hk⟩ := Option.isSome_iff_exists.mp sxvI168
  exact sx_met_of (h := sxhI168) sxTK_ok (sxTK2 sxksX11_ok) sxt_X11_comesNearer sxFW_ok (sx_cons (sxmI44) sx_nil) (fun L h => by cases h) rfl (by decide +kernel) (by decide) rfl ⟨rfl, rfl, rfl, rfl⟩ hk
def sxI169 : sxI := (69, (2, 40), ([(.ofNat 0, .ofNat 0), (.ofNat 0, .ofNat 6), (.ofNat 0, .ofNat 6)], [0], 0, [], [], [], []), [(2, 0, .ofNat 0), (0, 1, .ofNat 0), (0, 2, .ofNat 0)], [], [(([(.negSucc 2147483647, .ofNat 0)], [], 0, [], [], [], []), some (0, 3, .ofNat 0))])
def sxhI169 : sxH := (sxk_X11_whatOneHas, sxgX11, sxpX11, sxcX11, (sxkiX11, sxklX11, sxksX11), (3, sxI169.2.2.2.2.1, sxI169.2.2.2.2.2, 0), (3, 1, 0), (2, 40))
def sxjI169 : List sxJ := [((29, 11, 0), ([(0, .ofNat 0)], [], []), (sxE0, [], [], ([], .ofNat 0))),
  ((29, 11, 0), ([(5, .ofNat 0)], [], []), (sxE0, [], [], ([], .ofNat 0)))]
theorem sxvI169 : (sx_exec sxRT [] [] sxhI169 69 0 sxI169.2.2.1 (sx_argl 0 sxI169.2.2.2.1) [] [] sxjI169).isSome = true := by decide +kernel
theorem sxmI169 {PF : Nat → List Int → List (Nat → Int) → Prop} {l : Launch} : sx_met PF sxRT sxMy sxMc sxML sxMr sxTK l sxI169 := by
  obtain ⟨its2, hk⟩ := Option.isSome_iff_exists.mp sxvI169
  exact sx_met_of (h := sxhI169) sxTK_ok (sxTK2 sxksX11_ok) sxt_X11_whatOneHas sxFW_ok sx_nil (fun L h => by cases h) rfl (by decide +kernel) (by decide) rfl ⟨rfl, rfl, rfl, rfl⟩ hk
def sxI170 : sxI := (23, (3, 62), ([(.ofNat 0, .ofNat 0), (.ofNat 0, .ofNat 6), (.ofNat 1, .ofNat 6)], [0], 0, [], [], [], []), [(2, 0, .ofNat 0), (0, 1, .ofNat 0), (0, 2, .ofNat 0)], [], [(([], [], 0, [], [], [], []), some (0, 0, .ofNat 0)), (([], [], 0, [], [], [], []), some (0, 0, .ofNat 1))])
def sxhI170 : sxH := (sxk_X11_betterForBoth, sxgX11, sxpX11, sxcX11, (sxkiX11, sxklX11, sxksX11), (5, sxI170.2.2.2.2.1, sxI170.2.2.2.2.2, 1), (3, 1, 0), (3, 62))
def sxjI170 : List sxJ := [((31, 10, 0), ([(0, .ofNat 0), (1, .ofNat 0), (4, .ofNat 0)], [0], []), (sxE0, [], [], ([], .ofNat 0))),
  ((37, 10, 0), ([(0, .ofNat 0), (1, .ofNat 0), (3, .ofNat 0)], [0], []), (sxE0, [], [], ([], .ofNat 0))),
  ((64, 11, 0), ([], [], []), (sxE0, [], [], ([], .ofNat 0))),
  ((46, 10, 1), ([(0, .ofNat 0), (2, .ofNat 0), (3, .ofNat 0)], [0], []), (sxE0, [], [], ([], .ofNat 0))),
  ((53, 10, 1), ([(0, .ofNat 0), (2, .ofNat 0), (4, .ofNat 0)], [0], []), (sxE0, [], [], ([], .ofNat 0))),
  ((64, 11, 0), ([], [], []), (sxE0, [], [], ([], .ofNat 0))),
  ((64, 11, 1), ([], [], []), (sxE0, [], [], ([], .ofNat 0)))]
theorem sxvI170 : (sx_exec sxRT [sxI169, sxI159] [] sxhI170 96 0 sxI170.2.2.1 (sx_argl 0 sxI170.2.2.2.1) [] [] sxjI170).isSome = true := by decide +kernel
theorem sxmI170 {PF : Nat → List Int → List (Nat → Int) → Prop} {l : Launch} : sx_met PF sxRT sxMy sxMc sxML sxMr sxTK l sxI170 := by
  obtain ⟨its2, hk⟩ := Option.isSome_iff_exists.mp sxvI170
  exact sx_met_of (h := sxhI170) sxTK_ok (sxTK2 sxksX11_ok) sxt_X11_betterForBoth sxFW_ok (sx_cons (sxmI169) (sx_cons (sxmI159) sx_nil)) (fun L h => by cases h) rfl (by decide +kernel) (by decide) rfl ⟨rfl, rfl, rfl, rfl⟩ hk
def sxI171 : sxI := (32, (4, 86), ([(.ofNat 0, .ofNat 0), (.negSucc 2147483647, .ofNat 2147483647), (.negSucc 2147483647, .ofNat 2147483647)], [0], 0, [], [], [], []), [(2, 0, .ofNat 0), (0, 1, .ofNat 0), (0, 2, .ofNat 0)], [], [(([(.negSucc 2147483647, .ofNat 2147483647)], [], 0, [], [], [], []), some (0, 3, .ofNat 0))])
def sxhI171 : sxH := (sxk_X11_firstOfPairs, sxgX11, sxpX11, sxcX11, (sxkiX11, sxklX11, sxksX11), (7, sxI171.2.2.2.2.1, sxI171.2.2.2.2.2, 0), (3, 1, 0), (4, 86))
def sxjI171 : List sxJ := [((23, 11, 0), ([(0, .negSucc 0)], [], []), (sxE0, [], [], ([], .ofNat 0))),
  ((16, 10, 0), ([(0, .ofNat 0), (1, .ofNat 0), (0, .ofNat 0), (0, .ofNat 2)], [], []), (sxE0, [], [], ([], .ofNat 0))),
  ((23, 11, 0), ([(0, .negSucc 0)], [], []), (sxE0, [], [], ([], .ofNat 0))),
  ((19, 7, 0), ([], [], []), (sxE0, [], [], ([(1, .ofNat 1), (0, .negSucc 0)], .ofNat 0))),
  ((19, 7, 0), ([], [], []), (sxE0, [], [], ([(0, .ofNat 1), (1, .negSucc 0)], .ofNat 2))),
  ((33, 0, 0), ([(0, .ofNat 0), (0, .negSucc 1), (0, .ofNat 0)], [], []), (([(.ofNat 0, .ofNat 7), (.negSucc 1, .ofNat 6), (.negSucc 2147483647, .ofNat 2147483647)], [], 0, [], [], [((0, 2), (0, .ofNat 0), (0, 3, .ofNat 0)), ((0, 1), (0, .ofNat 0), (2, 2, .ofNat 0)), ((0, 0), (0, .ofNat 4), (2, 1, .ofNat 0))], []), [(5, (0, 4, .ofNat 0)), (4, (0, 5, .ofNat 0)), (3, (0, 6, .ofNat 0)), (0, (2, 0, .ofNat 0)), (1, (0, 1, .ofNat 0)), (2, (0, 2, .ofNat 0))], [], ([(4, .negSucc 0)], .ofNat 7))),
  ((142, 11, 0), ([(5, .ofNat 0)], [], []), (sxE0, [], [], ([], .ofNat 0))),
  ((142, 11, 0), ([(6, .ofNat 0)], [], []), (sxE0, [], [], ([], .ofNat 0))),
  ((54, 0, 0), ([(4, .ofNat 1), (5, .ofNat 0), (6, .ofNat 0)], [], []), (([(.ofNat 1, .ofNat 7), (.negSucc 1, .ofNat 6), (.negSucc 2147483647, .ofNat 2147483647)], [], 0, [([(8, .ofNat 1), (4, .negSucc 0)], .negSucc 0)], [], [((0, 2), (0, .ofNat 3), (0, 7, .ofNat 0)), ((0, 2), (0, .ofNat 0), (0, 3, .ofNat 0)), ((0, 1), (0, .ofNat 0), (2, 2, .ofNat 0)), ((0, 0), (0, .ofNat 4), (2, 1, .ofNat 0))], []), [(6, (0, 8, .ofNat 0)), (5, (0, 4, .ofNat 0)), (4, (0, 9, .ofNat 0)), (3, (0, 10, .ofNat 0)), (0, (2, 0, .ofNat 0)), (1, (0, 1, .ofNat 0)), (2, (0, 2, .ofNat 0))], [], ([(8, .negSucc 0)], .ofNat 7))),
  ((33, 2, 1), ([(4, .ofNat 1), (9, .ofNat 0), (10, .ofNat 0)], [], []), (sxE0, [], [], ([], .ofNat 0))),
  ((92, 10, 13), ([(0, .ofNat 0), (4, .ofNat 0), (8, .ofNat 0)], [0], []), (sxE0, [], [], ([], .ofNat 0))),
  ((54, 2, 0), ([(8, .ofNat 1), (9, .ofNat 0), (10, .ofNat 0)], [], []), (sxE0, [], [], ([], .ofNat 0))),
  ((101, 8, 4), ([], [], []), (sxE0, [], [], ([], .ofNat 0))),
  ((54, 2, 0), ([(8, .ofNat 1), (9, .ofNat 0), (11, .ofNat 0)], [], []), (sxE0, [], [], ([], .ofNat 0))),
  ((54, 2, 0), ([(8, .ofNat 1), (8, .ofNat 0), (11, .ofNat 0)], [], []), (sxE0, [], [], ([], .ofNat 0))),
  ((54, 2, 0), ([(8, .ofNat 1), (4, .ofNat 0), (11, .ofNat 0)], [], []), (sxE0, [], [], ([], .ofNat 0))),
  ((78, 10, 14), ([(0, .ofNat 0), (4, .ofNat 0), (8, .ofNat 0)], [0], []), (sxE0, [], [], ([], .ofNat 0))),
  ((54, 2, 0), ([(8, .ofNat 1), (9, .ofNat 0), (10, .ofNat 0)], [], []), (sxE0, [], [], ([], .ofNat 0))),
  ((101, 8, 4), ([], [], []), (sxE0, [], [], ([], .ofNat 0))),
  ((54, 2, 0), ([(8, .ofNat 1), (9, .ofNat 0), (11, .ofNat 0)], [], []), (sxE0, [], [], ([], .ofNat 0))),
  ((54, 2, 0), ([(8, .ofNat 1), (8, .ofNat 0), (11, .ofNat 0)], [], []), (sxE0, [], [], ([], .ofNat 0))),
  ((54, 2, 0), ([(8, .ofNat 1), (4, .ofNat 0), (11, .ofNat 0)], [], []), (sxE0, [], [], ([], .ofNat 0)))]
theorem sxvI171 : (sx_exec sxRT [sxI1, sxI151, sxI154, sxI155, sxI157, sxI158, sxI160, sxI161, sxI163, sxI164, sxI165, sxI166, sxI167, sxI168, sxI170] [] sxhI171 478 0 sxI171.2.2.1 (sx_argl 0 sxI171.2.2.2.1) [] [] sxjI171).isSome = true := by decide +kernel
theorem sxmI171 {PF : Nat → List Int → List (Nat → Int) → Prop} {l : Launch} : sx_met PF sxRT sxMy sxMc sxML sxMr sxTK l sxI171 := by
  obtain ⟨its2, hk⟩ := Option.isSome_iff_exists.mp sxvI171
  exact sx_met_of (h := sxhI171) sxTK_ok (sxTK2 sxksX11_ok) sxt_X11_firstOfPairs sxFW_ok (sx_cons (sxmI1) (sx_cons (sxmI151) (sx_cons (sxmI154) (sx_cons (sxmI155) (sx_cons (sxmI157) (sx_cons (sxmI158) (sx_cons (sxmI160) (sx_cons (sxmI161) (sx_cons (sxmI163) (sx_cons (sxmI164) (sx_cons (sxmI165) (sx_cons (sxmI166) (sx_cons (sxmI167) (sx_cons (sxmI168) (sx_cons (sxmI170) sx_nil))))))))))))))) (fun L h => by cases h) rfl (by decide +kernel) (by decide) rfl ⟨rfl, rfl, rfl, rfl⟩ hk
def sxI172 : sxI := (49, (5, 112), ([(.ofNat 0, .ofNat 0), (.negSucc 2147483647, .ofNat 2147483647)], [0], 0, [], [], [], []), [(2, 0, .ofNat 0), (0, 1, .ofNat 0)], [], [(([(.negSucc 2147483647, .ofNat 2147483647)], [], 0, [], [], [], []), some (0, 2, .ofNat 0))])
def sxhI172 : sxH := (sxk_X11_nearer, sxgX11, sxpX11, sxcX11, (sxkiX11, sxklX11, sxksX11), (2, sxI172.2.2.2.2.1, sxI172.2.2.2.2.2, 0), (2, 1, 0), (5, 112))
def sxjI172 : List sxJ := [((3, 10, 0), ([(0, .ofNat 0), (1, .ofNat 0), (0, .ofNat 0)], [0], []), (sxE0, [], [], ([], .ofNat 0))),
  ((6, 11, 0), ([(2, .ofNat 0)], [], []), (sxE0, [], [], ([], .ofNat 0)))]
theorem sxvI172 : (sx_exec sxRT [sxI171] [] sxhI172 57 0 sxI172.2.2.1 (sx_argl 0 sxI172.2.2.2.1) [] [] sxjI172).isSome = true := by decide +kernel
theorem sxmI172 {PF : Nat → List Int → List (Nat → Int) → Prop} {l : Launch} : sx_met PF sxRT sxMy sxMc sxML sxMr sxTK l sxI172 := by
  obtain ⟨its2, hk⟩ := Option.isSome_iff_exists.mp sxvI172
  exact sx_met_of (h := sxhI172) sxTK_ok (sxTK2 sxksX11_ok) sxt_X11_nearer sxFW_ok (sx_cons (sxmI171) sx_nil) (fun L h => by cases h) rfl (by decide +kernel) (by decide) rfl ⟨rfl, rfl, rfl, rfl⟩ hk
def sxI173 : sxI := (51, (3, 62), ([(.ofNat 0, .ofNat 0), (.negSucc 2147483647, .ofNat 2147483647), (.negSucc 2147483647, .ofNat 2147483647), (.negSucc 2147483647, .ofNat 2147483647)], [0], 0, [], [], [], []), [(2, 0, .ofNat 0), (0, 1, .ofNat 0), (0, 2, .ofNat 0), (0, 3, .ofNat 0)], [(11, 5, 6), (16, 0, 10), (17, 0, 10), (18, 0, 10)], [(([(.negSucc 1, .ofNat 10)], [], 0, [], [], [], []), some (0, 4, .ofNat 0))])
def sxhI173 : sxH := (sxk_X11_note, sxgX11, sxpX11, sxcX11, (sxkiX11, sxklX11, sxksX11), (4, sxI173.2.2.2.2.1, sxI173.2.2.2.2.2, 0), (4, 1, 0), (3, 62))
def sxjI173 : List sxJ := [((19, 10, 0), ([(0, .ofNat 0), (1, .ofNat 0), (0, .ofNat 0), (0, .ofNat 60)], [], []), (sxE0, [], [], ([], .ofNat 0))),
  ((55, 11, 0), ([(0, .negSucc 1)], [], []), (sxE0, [], [], ([], .ofNat 0))),
  ((22, 7, 0), ([], [], []), (sxE0, [], [], ([(1, .ofNat 1), (0, .negSucc 0)], .ofNat 0))),
  ((22, 7, 0), ([], [], []), (sxE0, [], [], ([(0, .ofNat 1), (1, .negSucc 0)], .ofNat 60))),
  ((27, 10, 1), ([(0, .ofNat 0), (2, .ofNat 0)], [0], []), (sxE0, [], [], ([], .ofNat 0))),
  ((55, 11, 0), ([(0, .negSucc 1)], [], []), (sxE0, [], [], ([], .ofNat 0))),
  ((30, 7, 0), ([], [], []), (sxE0, [], [], ([(2, .ofNat 1)], .ofNat 0))),
  ((30, 7, 0), ([], [], []), (sxE0, [], [], ([(2, .negSucc 0)], .ofNat 6))),
  ((35, 10, 1), ([(0, .ofNat 0), (3, .ofNat 0)], [0], []), (sxE0, [], [], ([], .ofNat 0))),
  ((55, 11, 0), ([(0, .negSucc 1)], [], []), (sxE0, [], [], ([], .ofNat 0))),
  ((38, 7, 0), ([], [], []), (sxE0, [], [], ([(3, .ofNat 1)], .ofNat 0))),
  ((38, 7, 0), ([], [], []), (sxE0, [], [], ([(3, .negSucc 0)], .ofNat 6))),
  ((124, 11, 0), ([(4, .ofNat 1)], [], []), (sxE0, [], [], ([], .ofNat 0))),
  ((55, 11, 0), ([(0, .negSucc 1)], [], []), (sxE0, [], [], ([], .ofNat 0))),
  ((14, 11, 0), ([(0, .ofNat 0)], [], []), (sxE0, [], [], ([], .ofNat 0)))]
theorem sxvI173 : (sx_exec sxRT [sxI1, sxI0] [] sxhI173 138 0 sxI173.2.2.1 (sx_argl 0 sxI173.2.2.2.1) [] [] sxjI173).isSome = true := by decide +kernel
theorem sxmI173 {PF : Nat → List Int → List (Nat → Int) → Prop} {l : Launch} : sx_met PF sxRT sxMy sxMc sxML sxMr sxTK l sxI173 := by
  obtain ⟨its2, hk⟩ := Option.isSome_iff_exists.mp sxvI173
  exact sx_met_of (h := sxhI173) sxTK_ok (sxTK2 sxksX11_ok) sxt_X11_note sxFW_ok (sx_cons (sxmI1) (sx_cons (sxmI0) sx_nil)) (fun L h => by cases h) rfl (by decide +kernel) (by decide) rfl ⟨rfl, rfl, rfl, rfl⟩ hk
def sxI174 : sxI := (52, (3, 63), ([(.ofNat 0, .ofNat 0), (.negSucc 2147483647, .ofNat 2147483647), (.negSucc 2147483647, .ofNat 2147483647)], [0], 0, [], [], [], []), [(2, 0, .ofNat 0), (0, 1, .ofNat 0), (0, 2, .ofNat 0)], [], [(([(.negSucc 2147483647, .ofNat 2147483647)], [], 0, [], [], [], []), some (0, 3, .ofNat 0))])
def sxhI174 : sxH := (sxk_X11_pence, sxgX11, sxpX11, sxcX11, (sxkiX11, sxklX11, sxksX11), (10, sxI174.2.2.2.2.1, sxI174.2.2.2.2.2, 0), (3, 1, 0), (3, 63))
def sxjI174 : List sxJ := [((2, 10, 0), ([(0, .ofNat 0), (2, .ofNat 0)], [0], []), (sxE0, [], [], ([], .ofNat 0))),
  ((20, 11, 0), ([(0, .negSucc 0)], [], []), (sxE0, [], [], ([], .ofNat 0))),
  ((5, 7, 0), ([], [], []), (sxE0, [], [], ([(2, .ofNat 1)], .ofNat 0))),
  ((5, 7, 0), ([], [], []), (sxE0, [], [], ([(2, .negSucc 0)], .ofNat 6))),
  ((13, 10, 1), ([(0, .ofNat 0), (1, .ofNat 0), (0, .ofNat 0), (0, .ofNat 9999)], [], []), (sxE0, [], [], ([], .ofNat 0))),
  ((20, 11, 0), ([(0, .negSucc 0)], [], []), (sxE0, [], [], ([], .ofNat 0))),
  ((16, 7, 0), ([], [], []), (sxE0, [], [], ([(1, .ofNat 1), (0, .negSucc 0)], .ofNat 0))),
  ((16, 7, 0), ([], [], []), (sxE0, [], [], ([(0, .ofNat 1), (1, .negSucc 0)], .ofNat 9999))),
  ((49, 10, 2), ([(0, .ofNat 0), (3, .ofNat 0)], [2], []), (sxE0, [], [], ([], .ofNat 0))),
  ((80, 0, 0), ([(0, .ofNat 0), (0, .ofNat 0), (1, .ofNat 0)], [], []), (([(.ofNat 0, .ofNat 7), (.negSucc 2147483647, .ofNat 2147483647), (.negSucc 2147483647, .ofNat 2147483647)], [], 0, [], [], [((1, 3), (2, .ofNat 0), (0, 5, .ofNat 0)), ((0, 4), (0, .ofNat 3), (0, 3, .ofNat 0)), ((0, 1), (0, .ofNat 0), (2, 4, .ofNat 0)), ((0, 2), (0, .ofNat 3), (2, 3, .ofNat 0)), ((0, 1), (0, .ofNat 1), (2, 2, .ofNat 0)), ((0, 0), (0, .ofNat 4), (2, 1, .ofNat 0))], []), [(8, (0, 8, .ofNat 0)), (7, (0, 7, .ofNat 0)), (6, (0, 9, .ofNat 0)), (5, (0, 10, .ofNat 0)), (4, (0, 4, .ofNat 0)), (3, (2, 3, .ofNat 0)), (0, (2, 0, .ofNat 0)), (1, (0, 1, .ofNat 0)), (2, (0, 2, .ofNat 0))], [], ([(8, .negSucc 0)], .ofNat 7))),
  ((170, 11, 0), ([(12, .ofNat 0)], [], []), (sxE0, [], [], ([], .ofNat 0))),
  ((170, 8, 0), ([], [], []), (sxE0, [], [], ([], .ofNat 0))),
  ((170, 11, 0), ([(13, .ofNat 0)], [], []), (sxE0, [], [], ([], .ofNat 0))),
  ((143, 8, 7), ([], [], []), (sxE0, [], [], ([], .ofNat 0))),
  ((80, 2, 0), ([(8, .ofNat 1), (17, .ofNat 0), (14, .ofNat 0)], [], []), (sxE0, [], [], ([], .ofNat 0))),
  ((80, 2, 0), ([(8, .ofNat 1), (9, .ofNat 0), (14, .ofNat 0)], [], []), (sxE0, [], [], ([], .ofNat 0))),
  ((80, 2, 0), ([(8, .ofNat 1), (9, .ofNat 0), (14, .ofNat 0)], [], []), (sxE0, [], [], ([], .ofNat 0))),
  ((143, 8, 7), ([], [], []), (sxE0, [], [], ([], .ofNat 0))),
  ((80, 2, 0), ([(8, .ofNat 1), (17, .ofNat 0), (14, .ofNat 0)], [], []), (sxE0, [], [], ([], .ofNat 0))),
  ((60, 11, 0), ([(0, .ofNat 0)], [], []), (sxE0, [], [], ([], .ofNat 0)))]
theorem sxvI174 : (sx_exec sxRT [sxI0, sxI1, sxI37] [] sxhI174 598 0 sxI174.2.2.1 (sx_argl 0 sxI174.2.2.2.1) [] [] sxjI174).isSome = true := by decide +kernel
theorem sxmI174 {PF : Nat → List Int → List (Nat → Int) → Prop} {l : Launch} : sx_met PF sxRT sxMy sxMc sxML sxMr sxTK l sxI174 := by
  obtain ⟨its2, hk⟩ := Option.isSome_iff_exists.mp sxvI174
  exact sx_met_of (h := sxhI174) sxTK_ok (sxTK2 sxksX11_ok) sxt_X11_pence sxFW_ok (sx_cons (sxmI0) (sx_cons (sxmI1) (sx_cons (sxmI37) sx_nil))) (fun L h => by cases h) rfl (by decide +kernel) (by decide) rfl ⟨rfl, rfl, rfl, rfl⟩ hk
