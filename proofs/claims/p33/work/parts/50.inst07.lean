def sxI111 : sxI := (42, (8, 221), ([(.ofNat 0, .ofNat 0), (.negSucc 2147483647, .ofNat 2147483647), (.negSucc 2147483647, .ofNat 2147483647)], [0], 0, [], [], [], []), [(2, 0, .ofNat 0), (0, 1, .ofNat 0), (0, 2, .ofNat 0)], [(26, 4, 5), (27, 0, 7), (28, 0, 7), (29, 0, 7), (30, 0, 7), (34, 0, 12), (35, 0, 64)], [(([(.negSucc 2147483647, .ofNat 2147483647)], [], 0, [], [], [], []), some (0, 3, .ofNat 0))])
def sxhI111 : sxH := (sxk_X11_lets, sxgX11, sxpX11, sxcX11, (sxkiX11, sxklX11, sxksX11), (3, sxI111.2.2.2.2.1, sxI111.2.2.2.2.2, 0), (3, 1, 0), (8, 221))
def sxjI111 : List sxJ := [((24, 11, 0), ([(0, .negSucc 0)], [], []), (sxE0, [], [], ([], .ofNat 0))),
  ((17, 10, 0), ([(0, .ofNat 0), (2, .ofNat 0), (0, .ofNat 0), (0, .ofNat 100)], [], []), (sxE0, [], [], ([], .ofNat 0))),
  ((24, 11, 0), ([(0, .negSucc 0)], [], []), (sxE0, [], [], ([], .ofNat 0))),
  ((20, 7, 0), ([], [], []), (sxE0, [], [], ([(2, .ofNat 1), (0, .negSucc 0)], .ofNat 0))),
  ((20, 7, 0), ([], [], []), (sxE0, [], [], ([(0, .ofNat 1), (2, .negSucc 0)], .ofNat 100))),
  ((49, 10, 1), ([(0, .ofNat 0), (1, .ofNat 0)], [0], []), (sxE0, [], [], ([], .ofNat 0))),
  ((56, 11, 0), ([(0, .negSucc 0)], [], []), (sxE0, [], [], ([], .ofNat 0))),
  ((52, 7, 0), ([], [], []), (sxE0, [], [], ([(1, .ofNat 1)], .ofNat 0))),
  ((52, 7, 0), ([], [], []), (sxE0, [], [], ([(1, .negSucc 0)], .ofNat 6))),
  ((60, 10, 2), ([(0, .ofNat 0), (2, .ofNat 0), (0, .negSucc 0)], [0], []), (sxE0, [], [], ([], .ofNat 0))),
  ((85, 11, 0), ([(6, .ofNat 0)], [], []), (sxE0, [], [], ([], .ofNat 0))),
  ((43, 10, 3), ([(0, .ofNat 0)], [3, 2], []), (sxE0, [], [], ([], .ofNat 0))),
  ((46, 11, 0), ([(4, .ofNat 0)], [], []), (sxE0, [], [], ([], .ofNat 0)))]
theorem sxvI111 : (sx_exec sxRT [sxI1, sxI0, sxI27, sxI9] [] sxhI111 112 0 sxI111.2.2.1 (sx_argl 0 sxI111.2.2.2.1) [] [] sxjI111).isSome = true := by decide +kernel
theorem sxmI111 {PF : Nat → List Int → List (Nat → Int) → Prop} {l : Launch} : sx_met PF sxRT sxMy sxMc sxML sxMr sxTK l sxI111 := by
  obtain ⟨its2, hk⟩ := Option.isSome_iff_exists.mp sxvI111
  exact sx_met_of (h := sxhI111) sxTK_ok (sxTK2 sxksX11_ok) sxt_X11_lets sxFW_ok (sx_cons (sxmI1) (sx_cons (sxmI0) (sx_cons (sxmI27) (sx_cons (sxmI9) sx_nil)))) (fun L h => by cases h) rfl (by decide +kernel) (by decide) rfl ⟨rfl, rfl, rfl, rfl⟩ hk
def sxI112 : sxI := (43, (8, 221), ([(.ofNat 0, .ofNat 0), (.negSucc 2147483647, .ofNat 2147483647), (.negSucc 2147483647, .ofNat 2147483647)], [0], 0, [], [], [], []), [(2, 0, .ofNat 0), (0, 1, .ofNat 0), (0, 2, .ofNat 0)], [(26, 4, 5), (27, 0, 7), (28, 0, 7), (29, 0, 7), (30, 0, 7), (34, 0, 12), (35, 0, 64)], [(([(.negSucc 1, .ofNat 2147483647)], [], 0, [], [], [], []), some (0, 3, .ofNat 0))])
def sxhI112 : sxH := (sxk_X11_lock, sxgX11, sxpX11, sxcX11, (sxkiX11, sxklX11, sxksX11), (7, sxI112.2.2.2.2.1, sxI112.2.2.2.2.2, 0), (3, 1, 0), (8, 221))
def sxjI112 : List sxJ := [((34, 11, 0), ([(0, .negSucc 1)], [], []), (sxE0, [], [], ([], .ofNat 0))),
  ((17, 10, 0), ([(0, .ofNat 0), (1, .ofNat 0), (0, .ofNat 1), (0, .ofNat 60)], [], []), (sxE0, [], [], ([], .ofNat 0))),
  ((34, 11, 0), ([(0, .negSucc 1)], [], []), (sxE0, [], [], ([], .ofNat 0))),
  ((20, 7, 0), ([], [], []), (sxE0, [], [], ([(1, .ofNat 1), (0, .negSucc 0)], .negSucc 0))),
  ((20, 7, 0), ([], [], []), (sxE0, [], [], ([(0, .ofNat 1), (1, .negSucc 0)], .ofNat 60))),
  ((26, 10, 0), ([(0, .ofNat 0), (2, .ofNat 0), (0, .ofNat 0), (0, .ofNat 1)], [], []), (sxE0, [], [], ([], .ofNat 0))),
  ((34, 11, 0), ([(0, .negSucc 1)], [], []), (sxE0, [], [], ([], .ofNat 0))),
  ((29, 7, 0), ([], [], []), (sxE0, [], [], ([(2, .ofNat 1), (0, .negSucc 0)], .ofNat 0))),
  ((29, 7, 0), ([], [], []), (sxE0, [], [], ([(0, .ofNat 1), (2, .negSucc 0)], .ofNat 1))),
  ((43, 0, 0), ([(0, .negSucc 0), (0, .negSucc 0), (0, .negSucc 0)], [], []), (([(.negSucc 0, .ofNat 7), (.negSucc 0, .ofNat 2147483647), (.negSucc 0, .ofNat 6)], [], 0, [], [], [((0, 2), (0, .ofNat 0), (0, 3, .ofNat 0)), ((0, 1), (0, .ofNat 0), (2, 2, .ofNat 0)), ((0, 0), (0, .ofNat 4), (2, 1, .ofNat 0))], []), [(5, (0, 4, .ofNat 0)), (4, (0, 5, .ofNat 0)), (3, (0, 6, .ofNat 0)), (0, (2, 0, .ofNat 0)), (1, (0, 1, .ofNat 0)), (2, (0, 2, .ofNat 0))], [], ([(4, .negSucc 0)], .ofNat 7))),
  ((135, 11, 0), ([(5, .ofNat 0)], [], []), (sxE0, [], [], ([], .ofNat 0))),
  ((135, 11, 0), ([(6, .ofNat 0)], [], []), (sxE0, [], [], ([], .ofNat 0))),
  ((62, 10, 1), ([(0, .ofNat 0), (1, .ofNat 0), (4, .ofNat 0)], [0], []), (sxE0, [], [], ([], .ofNat 0))),
  ((79, 10, 2), ([(0, .ofNat 0), (7, .ofNat 0)], [3], []), (sxE0, [], [], ([], .ofNat 0))),
  ((99, 10, 2), ([(0, .ofNat 0), (7, .ofNat 0)], [4], []), (sxE0, [], [], ([], .ofNat 0))),
  ((43, 2, 0), ([(4, .ofNat 1), (5, .ofNat 0), (6, .ofNat 0)], [], []), (sxE0, [], [], ([], .ofNat 0))),
  ((43, 2, 0), ([(4, .ofNat 1), (10, .ofNat 0), (4, .ofNat 0)], [], []), (sxE0, [], [], ([], .ofNat 0)))]
theorem sxvI112 : (sx_exec sxRT [sxI1, sxI27, sxI37] [] sxhI112 198 0 sxI112.2.2.1 (sx_argl 0 sxI112.2.2.2.1) [] [] sxjI112).isSome = true := by decide +kernel
theorem sxmI112 {PF : Nat → List Int → List (Nat → Int) → Prop} {l : Launch} : sx_met PF sxRT sxMy sxMc sxML sxMr sxTK l sxI112 := by
  obtain ⟨its2, hk⟩ := Option.isSome_iff_exists.mp sxvI112
  exact sx_met_of (h := sxhI112) sxTK_ok (sxTK2 sxksX11_ok) sxt_X11_lock sxFW_ok (sx_cons (sxmI1) (sx_cons (sxmI27) (sx_cons (sxmI37) sx_nil))) (fun L h => by cases h) rfl (by decide +kernel) (by decide) rfl ⟨rfl, rfl, rfl, rfl⟩ hk
def sxI113 : sxI := (44, (3, 62), ([(.ofNat 0, .ofNat 0), (.negSucc 2147483647, .ofNat 2147483647), (.negSucc 2147483647, .ofNat 2147483647)], [0], 0, [], [], [], []), [(2, 0, .ofNat 0), (0, 1, .ofNat 0), (0, 2, .ofNat 0)], [], [(([(.negSucc 2147483647, .ofNat 2147483647)], [], 0, [], [], [], []), some (0, 3, .ofNat 0))])
def sxhI113 : sxH := (sxk_X11_lodger, sxgX11, sxpX11, sxcX11, (sxkiX11, sxklX11, sxksX11), (3, sxI113.2.2.2.2.1, sxI113.2.2.2.2.2, 0), (3, 1, 0), (3, 62))
def sxjI113 : List sxJ := [((2, 10, 0), ([(0, .ofNat 0), (1, .ofNat 0)], [0], []), (sxE0, [], [], ([], .ofNat 0))),
  ((9, 11, 0), ([(0, .negSucc 0)], [], []), (sxE0, [], [], ([], .ofNat 0))),
  ((5, 7, 0), ([], [], []), (sxE0, [], [], ([(1, .ofNat 1)], .ofNat 0))),
  ((5, 7, 0), ([], [], []), (sxE0, [], [], ([(1, .negSucc 0)], .ofNat 6))),
  ((107, 11, 0), ([(0, .negSucc 0)], [], []), (sxE0, [], [], ([], .ofNat 0))),
  ((107, 11, 0), ([(0, .negSucc 0)], [], []), (sxE0, [], [], ([], .ofNat 0))),
  ((52, 11, 0), ([(3, .ofNat 0)], [], []), (sxE0, [], [], ([], .ofNat 0))),
  ((65, 11, 0), ([(3, .ofNat 0)], [], []), (sxE0, [], [], ([], .ofNat 0))),
  ((81, 10, 1), ([(0, .ofNat 0), (1, .ofNat 0)], [2, 3], []), (sxE0, [], [], ([], .ofNat 0))),
  ((92, 11, 0), ([(0, .ofNat 0)], [], []), (sxE0, [], [], ([], .ofNat 0))),
  ((92, 11, 0), ([(0, .ofNat 1)], [], []), (sxE0, [], [], ([], .ofNat 0))),
  ((105, 11, 0), ([(3, .ofNat 0)], [], []), (sxE0, [], [], ([], .ofNat 0)))]
theorem sxvI113 : (sx_exec sxRT [sxI0, sxI8] [] sxhI113 111 0 sxI113.2.2.1 (sx_argl 0 sxI113.2.2.2.1) [] [] sxjI113).isSome = true := by decide +kernel
theorem sxmI113 {PF : Nat → List Int → List (Nat → Int) → Prop} {l : Launch} : sx_met PF sxRT sxMy sxMc sxML sxMr sxTK l sxI113 := by
  obtain ⟨its2, hk⟩ := Option.isSome_iff_exists.mp sxvI113
  exact sx_met_of (h := sxhI113) sxTK_ok (sxTK2 sxksX11_ok) sxt_X11_lodger sxFW_ok (sx_cons (sxmI0) (sx_cons (sxmI8) sx_nil)) (fun L h => by cases h) rfl (by decide +kernel) (by decide) rfl ⟨rfl, rfl, rfl, rfl⟩ hk
def sxI114 : sxI := (3, (2, 40), ([(.ofNat 0, .ofNat 0), (.negSucc 2147483647, .ofNat 2147483647)], [42], 0, [], [], [], []), [(2, 0, .ofNat 0), (0, 1, .ofNat 0)], [(42, 0, 49)], [(([], [], 0, [], [], [], []), none)])
def sxhI114 : sxH := (sxk_J7_fill_53178, sxgJ7, sxpJ7, sxcJ7, (sxkiJ7, sxklJ7, sxksJ7), (4, sxI114.2.2.2.2.1, sxI114.2.2.2.2.2, 4), (2, 1, 0), (2, 40))
def sxjI114 : List sxJ := [((5, 0, 0), ([(0, .ofNat 0)], [], []), (([(.ofNat 0, .ofNat 49)], [], 0, [], [], [((2, 0), (0, .ofNat 0), (0, 2, .ofNat 0))], []), [(3, (0, 2, .ofNat 0)), (2, (0, 3, .ofNat 0)), (0, (2, 0, .ofNat 0)), (1, (0, 1, .ofNat 0))], [], ([(3, .negSucc 0)], .ofNat 49))),
  ((20, 11, 0), ([], [], []), (sxE0, [], [], ([], .ofNat 0))),
  ((5, 2, 0), ([(3, .ofNat 1)], [], []), (sxE0, [], [], ([], .ofNat 0)))]
theorem sxvI114 : (sx_exec sxRT [] [] sxhI114 90 0 sxI114.2.2.1 (sx_argl 0 sxI114.2.2.2.1) [] [] sxjI114).isSome = true := by decide +kernel
theorem sxmI114 {PF : Nat → List Int → List (Nat → Int) → Prop} {l : Launch} : sx_met PF sxRT sxMy sxMc sxML sxMr sxTK l sxI114 := by
  obtain ⟨its2, hk⟩ := Option.isSome_iff_exists.mp sxvI114
  exact sx_met_of (h := sxhI114) sxTK_ok (sxTK2 sxksJ7_ok) sxt_J7_fill_53178 sxFW_ok sx_nil (fun L h => by cases h) (by decide +kernel) (by decide +kernel) (by decide) rfl ⟨rfl, rfl, rfl, rfl⟩ hk
def sxI115 : sxI := (199, (2, 40), ([(.ofNat 0, .ofNat 0)], [11], 0, [], [], [], []), [(2, 0, .ofNat 0)], [], [(([(.ofNat 0, .ofNat 2147483647)], [], 0, [], [], [], []), some (0, 1, .ofNat 0))])
def sxhI115 : sxH := (sxk_X3_lastNoted, sxgX3, sxpX3, sxcX3, (sxkiX3, sxklX3, sxksX3), (3, sxI115.2.2.2.2.1, sxI115.2.2.2.2.2, 0), (1, 1, 0), (2, 40))
def sxjI115 : List sxJ := [((4, 0, 0), ([(0, .ofNat 0), (0, .ofNat 0)], [], []), (([(.ofNat 0, .ofNat 10), (.ofNat 0, .ofNat 2147483647)], [], 0, [], [], [], []), [(2, (0, 1, .ofNat 0)), (1, (0, 2, .ofNat 0)), (0, (2, 0, .ofNat 0))], [], ([(1, .negSucc 0)], .ofNat 10))),
  ((30, 11, 0), ([(2, .ofNat 0)], [], []), (sxE0, [], [], ([], .ofNat 0))),
  ((4, 2, 0), ([(1, .ofNat 1), (4, .ofNat 0)], [], []), (sxE0, [], [], ([], .ofNat 0))),
  ((4, 2, 0), ([(1, .ofNat 1), (2, .ofNat 0)], [], []), (sxE0, [], [], ([], .ofNat 0)))]
theorem sxvI115 : (sx_exec sxRT [] [] sxhI115 114 0 sxI115.2.2.1 (sx_argl 0 sxI115.2.2.2.1) [] [] sxjI115).isSome = true := by decide +kernel
theorem sxmI115 {PF : Nat → List Int → List (Nat → Int) → Prop} {l : Launch} : sx_met PF sxRT sxMy sxMc sxML sxMr sxTK l sxI115 := by
  obtain ⟨its2, hk⟩ := Option.isSome_iff_exists.mp sxvI115
  exact sx_met_of (h := sxhI115) sxTK_ok (sxTK2 sxksX3_ok) sxt_X3_lastNoted sxFW_ok sx_nil (fun L h => by cases h) rfl (by decide +kernel) (by decide) rfl ⟨rfl, rfl, rfl, rfl⟩ hk
def sxI116 : sxI := (197, (2, 40), ([(.ofNat 0, .ofNat 0), (.negSucc 2147483647, .ofNat 2147483647)], [11, 26], 0, [], [], [], []), [(2, 0, .ofNat 0), (0, 1, .ofNat 0), (2, 1, .ofNat 0)], [], [(([], [], 0, [], [], [], []), some (0, 0, .ofNat 0)), (([], [], 0, [], [], [], []), some (0, 0, .ofNat 1))])
def sxhI116 : sxH := (sxk_X3_contradicts, sxgX3, sxpX3, sxcX3, (sxkiX3, sxklX3, sxksX3), (4, sxI116.2.2.2.2.1, sxI116.2.2.2.2.2, 1), (2, 2, 0), (2, 40))
def sxjI116 : List sxJ := [((2, 0, 0), ([(0, .ofNat 0)], [], []), (([(.ofNat 0, .ofNat 10)], [], 0, [], [], [], []), [(3, (0, 2, .ofNat 0)), (0, (2, 0, .ofNat 0)), (1, (0, 1, .ofNat 0)), (2, (2, 1, .ofNat 0))], [], ([(2, .negSucc 0)], .ofNat 10))),
  ((49, 11, 0), ([], [], []), (sxE0, [], [], ([], .ofNat 0))),
  ((2, 2, 0), ([(2, .ofNat 1)], [], []), (sxE0, [], [], ([], .ofNat 0))),
  ((2, 2, 0), ([(2, .ofNat 1)], [], []), (sxE0, [], [], ([], .ofNat 0))),
  ((41, 11, 1), ([], [], []), (sxE0, [], [], ([], .ofNat 0)))]
theorem sxvI116 : (sx_exec sxRT [] [] sxhI116 146 0 sxI116.2.2.1 (sx_argl 0 sxI116.2.2.2.1) [] [] sxjI116).isSome = true := by decide +kernel
theorem sxmI116 {PF : Nat → List Int → List (Nat → Int) → Prop} {l : Launch} : sx_met PF sxRT sxMy sxMc sxML sxMr sxTK l sxI116 := by
  obtain ⟨its2, hk⟩ := Option.isSome_iff_exists.mp sxvI116
  exact sx_met_of (h := sxhI116) sxTK_ok (sxTK2 sxksX3_ok) sxt_X3_contradicts sxFW_ok sx_nil (fun L h => by cases h) rfl (by decide +kernel) (by decide) rfl ⟨rfl, rfl, rfl, rfl⟩ hk
def sxI117 : sxI := (22, (7, 197), ([(.ofNat 0, .ofNat 0), (.negSucc 2147483647, .ofNat 2147483647)], [0], 0, [], [], [], []), [(2, 0, .ofNat 0), (0, 1, .ofNat 0)], [(26, 4, 5), (27, 0, 7), (28, 0, 7), (29, 0, 7), (30, 0, 7), (34, 0, 12), (35, 0, 64)], [(([], [], 0, [], [], [], []), some (0, 0, .ofNat 1)), (([], [], 0, [], [], [], []), some (0, 0, .ofNat 0))])
def sxhI117 : sxH := (sxk_X11_bearsOutNotes, sxgX11, sxpX11, sxcX11, (sxkiX11, sxklX11, sxksX11), (4, sxI117.2.2.2.2.1, sxI117.2.2.2.2.2, 1), (2, 1, 0), (7, 197))
def sxjI117 : List sxJ := [((4, 10, 0), ([(0, .ofNat 0)], [1], []), (sxE0, [], [], ([], .ofNat 0))),
  ((19, 10, 1), ([(0, .ofNat 0)], [2, 3], []), (sxE0, [], [], ([], .ofNat 0))),
  ((24, 0, 0), ([(0, .ofNat 0)], [], []), (([(.ofNat 0, .ofNat 2147483647)], [], 0, [], [], [((0, 0), (0, .ofNat 10), (2, 3, .ofNat 0)), ((0, 1), (0, .ofNat 0), (2, 2, .ofNat 0)), ((0, 0), (0, .ofNat 4), (2, 1, .ofNat 0))], []), [(3, (0, 3, .ofNat 0)), (2, (0, 2, .ofNat 0)), (0, (2, 0, .ofNat 0)), (1, (0, 1, .ofNat 0))], [], ([(3, .negSucc 0)], .ofNat 2147483647))),
  ((90, 10, 2), ([(0, .ofNat 0), (4, .ofNat 0)], [1, 3], []), (sxE0, [], [], ([], .ofNat 0))),
  ((101, 11, 0), ([], [], []), (sxE0, [], [], ([], .ofNat 0))),
  ((101, 11, 1), ([], [], []), (sxE0, [], [], ([], .ofNat 0))),
  ((38, 10, 2), ([(0, .ofNat 0), (3, .ofNat 0)], [1, 3], []), (sxE0, [], [], ([], .ofNat 0))),
  ((61, 10, 3), ([(0, .ofNat 0), (1, .ofNat 0)], [0], []), (sxE0, [], [], ([], .ofNat 0))),
  ((65, 10, 4), ([(0, .ofNat 0), (0, .negSucc 0)], [4, 2, 3], []), (sxE0, [], [], ([], .ofNat 0))),
  ((24, 2, 0), ([(3, .ofNat 1)], [], []), (sxE0, [], [], ([], .ofNat 0))),
  ((64, 7, 0), ([], [], []), (sxE0, [], [], ([(1, .ofNat 1)], .ofNat 0))),
  ((64, 7, 0), ([], [], []), (sxE0, [], [], ([(1, .negSucc 0)], .ofNat 5))),
  ((65, 10, 5), ([(0, .ofNat 0), (0, .negSucc 0)], [4, 2, 3, 5], []), (sxE0, [], [], ([], .ofNat 0))),
  ((24, 2, 0), ([(3, .ofNat 1)], [], []), (sxE0, [], [], ([], .ofNat 0))),
  ((90, 10, 2), ([(0, .ofNat 0), (4, .ofNat 0)], [1, 3], []), (sxE0, [], [], ([], .ofNat 0))),
  ((101, 11, 0), ([], [], []), (sxE0, [], [], ([], .ofNat 0))),
  ((101, 11, 1), ([], [], []), (sxE0, [], [], ([], .ofNat 0)))]
theorem sxvI117 : (sx_exec sxRT [sxI115, sxI100, sxI116, sxI3, sxI11, sxI26] [] sxhI117 503 0 sxI117.2.2.1 (sx_argl 0 sxI117.2.2.2.1) [] [] sxjI117).isSome = true := by decide +kernel
theorem sxmI117 {PF : Nat → List Int → List (Nat → Int) → Prop} {l : Launch} : sx_met PF sxRT sxMy sxMc sxML sxMr sxTK l sxI117 := by
  obtain ⟨its2, hk⟩ := Option.isSome_iff_exists.mp sxvI117
  exact sx_met_of (h := sxhI117) sxTK_ok (sxTK2 sxksX11_ok) sxt_X11_bearsOutNotes sxFW_ok (sx_cons (sxmI115) (sx_cons (sxmI100) (sx_cons (sxmI116) (sx_cons (sxmI3) (sx_cons (sxmI11) (sx_cons (sxmI26) sx_nil)))))) (fun L h => by cases h) rfl (by decide +kernel) (by decide) rfl ⟨rfl, rfl, rfl, rfl⟩ hk
def sxI118 : sxI := (62, (7, 197), ([(.ofNat 0, .ofNat 0), (.negSucc 2147483647, .ofNat 2147483647), (.negSucc 2147483647, .ofNat 2147483647)], [0], 0, [], [], [], []), [(2, 0, .ofNat 0), (0, 1, .ofNat 0), (0, 2, .ofNat 0)], [(26, 4, 5), (27, 0, 7), (28, 0, 7), (29, 0, 7), (30, 0, 7), (34, 0, 12), (35, 0, 64), (42, 0, 49)], [(([], [], 0, [], [], [], []), none)])
def sxhI118 : sxH := (sxk_X11_tallySheets, sxgX11, sxpX11, sxcX11, (sxkiX11, sxklX11, sxksX11), (4, sxI118.2.2.2.2.1, sxI118.2.2.2.2.2, 4), (3, 1, 0), (7, 197))
def sxjI118 : List sxJ := [((11, 10, 0), ([(0, .ofNat 0)], [2, 3], []), (sxE0, [], [], ([], .ofNat 0))),
  ((16, 0, 0), ([(0, .ofNat 0)], [], []), (([(.ofNat 0, .ofNat 2147483647)], [], 0, [], [], [((0, 0), (0, .ofNat 10), (2, 3, .ofNat 0)), ((0, 1), (0, .ofNat 0), (2, 2, .ofNat 0)), ((0, 0), (0, .ofNat 4), (2, 1, .ofNat 0))], []), [(3, (0, 3, .ofNat 0)), (0, (2, 0, .ofNat 0)), (1, (0, 1, .ofNat 0)), (2, (0, 2, .ofNat 0))], [], ([(3, .negSucc 0)], .ofNat 2147483647))),
  ((54, 0, 0), ([(0, .ofNat 0)], [], []), (([(.ofNat 0, .ofNat 7)], [], 0, [], [], [((0, 0), (0, .ofNat 10), (2, 3, .ofNat 0)), ((0, 1), (0, .ofNat 0), (2, 2, .ofNat 0)), ((0, 0), (0, .ofNat 4), (2, 1, .ofNat 0))], []), [(3, (0, 4, .ofNat 0)), (0, (2, 0, .ofNat 0)), (1, (0, 1, .ofNat 0)), (2, (0, 2, .ofNat 0))], [], ([(4, .negSucc 0)], .ofNat 7))),
  ((97, 11, 0), ([], [], []), (sxE0, [], [], ([], .ofNat 0))),
  ((90, 8, 0), ([], [], []), (sxE0, [], [], ([], .ofNat 0))),
  ((54, 2, 0), ([(4, .ofNat 1)], [], []), (sxE0, [], [], ([], .ofNat 0))),
  ((38, 10, 1), ([(0, .ofNat 0), (1, .ofNat 0)], [0], []), (sxE0, [], [], ([], .ofNat 0))),
  ((42, 10, 2), ([(0, .ofNat 0), (0, .negSucc 0)], [4, 2, 3], []), (sxE0, [], [], ([], .ofNat 0))),
  ((16, 2, 0), ([(3, .ofNat 1)], [], []), (sxE0, [], [], ([], .ofNat 0))),
  ((41, 7, 0), ([], [], []), (sxE0, [], [], ([(1, .ofNat 1)], .ofNat 0))),
  ((41, 7, 0), ([], [], []), (sxE0, [], [], ([(1, .negSucc 0)], .ofNat 5))),
  ((42, 10, 3), ([(0, .ofNat 0), (0, .negSucc 0)], [4, 2, 3, 5], []), (sxE0, [], [], ([], .ofNat 0))),
  ((16, 2, 0), ([(3, .ofNat 1)], [], []), (sxE0, [], [], ([], .ofNat 0)))]
theorem sxvI118 : (sx_exec sxRT [sxI100, sxI3, sxI11, sxI26] [] sxhI118 606 0 sxI118.2.2.1 (sx_argl 0 sxI118.2.2.2.1) [] [] sxjI118).isSome = true := by decide +kernel
theorem sxmI118 {PF : Nat → List Int → List (Nat → Int) → Prop} {l : Launch} : sx_met PF sxRT sxMy sxMc sxML sxMr sxTK l sxI118 := by
  obtain ⟨its2, hk⟩ := Option.isSome_iff_exists.mp sxvI118
  exact sx_met_of (h := sxhI118) sxTK_ok (sxTK2 sxksX11_ok) sxt_X11_tallySheets sxFW_ok (sx_cons (sxmI100) (sx_cons (sxmI3) (sx_cons (sxmI11) (sx_cons (sxmI26) sx_nil)))) (fun L h => by cases h) rfl (by decide +kernel) (by decide) rfl ⟨rfl, rfl, rfl, rfl⟩ hk
def sxI119 : sxI := (48, (2, 40), ([(.ofNat 0, .ofNat 0), (.ofNat 0, .ofNat 0)], [0], 0, [], [], [], []), [(2, 0, .ofNat 0), (0, 1, .ofNat 0)], [], [(([(.ofNat 0, .ofNat 2147483647)], [], 0, [], [], [], []), some (0, 2, .ofNat 0))])
def sxhI119 : sxH := (sxk_X11_mostAlike, sxgX11, sxpX11, sxcX11, (sxkiX11, sxklX11, sxksX11), (4, sxI119.2.2.2.2.1, sxI119.2.2.2.2.2, 0), (2, 1, 0), (2, 40))
def sxjI119 : List sxJ := [((4, 0, 0), ([(0, .ofNat 0), (0, .ofNat 0)], [], []), (([(.ofNat 0, .ofNat 7), (.ofNat 0, .ofNat 2147483647)], [], 0, [], [], [], []), [(3, (0, 2, .ofNat 0)), (2, (0, 3, .ofNat 0)), (0, (2, 0, .ofNat 0)), (1, (0, 1, .ofNat 0))], [], ([(2, .negSucc 0)], .ofNat 7))),
  ((41, 11, 0), ([(3, .ofNat 0)], [], []), (sxE0, [], [], ([], .ofNat 0))),
  ((4, 2, 0), ([(2, .ofNat 1), (7, .ofNat 0)], [], []), (sxE0, [], [], ([], .ofNat 0))),
  ((4, 2, 0), ([(2, .ofNat 1), (3, .ofNat 0)], [], []), (sxE0, [], [], ([], .ofNat 0)))]
theorem sxvI119 : (sx_exec sxRT [] [] sxhI119 109 0 sxI119.2.2.1 (sx_argl 0 sxI119.2.2.2.1) [] [] sxjI119).isSome = true := by decide +kernel
theorem sxmI119 {PF : Nat → List Int → List (Nat → Int) → Prop} {l : Launch} : sx_met PF sxRT sxMy sxMc sxML sxMr sxTK l sxI119 := by
  obtain ⟨its2, hk⟩ := Option.isSome_iff_exists.mp sxvI119
  exact sx_met_of (h := sxhI119) sxTK_ok (sxTK2 sxksX11_ok) sxt_X11_mostAlike sxFW_ok sx_nil (fun L h => by cases h) rfl (by decide +kernel) (by decide) rfl ⟨rfl, rfl, rfl, rfl⟩ hk
def sxI120 : sxI := (48, (2, 40), ([(.ofNat 0, .ofNat 0), (.ofNat 0, .ofNat 1)], [0], 0, [], [], [], []), [(2, 0, .ofNat 0), (0, 1, .ofNat 0)], [], [(([(.ofNat 0, .ofNat 2147483647)], [], 0, [], [], [], []), some (0, 2, .ofNat 0))])
def sxhI120 : sxH := (sxk_X11_mostAlike, sxgX11, sxpX11, sxcX11, (sxkiX11, sxklX11, sxksX11), (4, sxI120.2.2.2.2.1, sxI120.2.2.2.2.2, 0), (2, 1, 0), (2, 40))
def sxjI120 : List sxJ := [((4, 0, 0), ([(0, .ofNat 0), (0, .ofNat 0)], [], []), (([(.ofNat 0, .ofNat 7), (.ofNat 0, .ofNat 2147483647)], [], 0, [], [], [], []), [(3, (0, 2, .ofNat 0)), (2, (0, 3, .ofNat 0)), (0, (2, 0, .ofNat 0)), (1, (0, 1, .ofNat 0))], [], ([(2, .negSucc 0)], .ofNat 7))),
  ((41, 11, 0), ([(3, .ofNat 0)], [], []), (sxE0, [], [], ([], .ofNat 0))),
  ((4, 2, 0), ([(2, .ofNat 1), (7, .ofNat 0)], [], []), (sxE0, [], [], ([], .ofNat 0))),
  ((4, 2, 0), ([(2, .ofNat 1), (3, .ofNat 0)], [], []), (sxE0, [], [], ([], .ofNat 0)))]
theorem sxvI120 : (sx_exec sxRT [] [] sxhI120 109 0 sxI120.2.2.1 (sx_argl 0 sxI120.2.2.2.1) [] [] sxjI120).isSome = true := by decide +kernel
theorem sxmI120 {PF : Nat → List Int → List (Nat → Int) → Prop} {l : Launch} : sx_met PF sxRT sxMy sxMc sxML sxMr sxTK l sxI120 := by
  obtain ⟨its2, hk⟩ := Option.isSome_iff_exists.mp sxvI120
  exact sx_met_of (h := sxhI120) sxTK_ok (sxTK2 sxksX11_ok) sxt_X11_mostAlike sxFW_ok sx_nil (fun L h => by cases h) rfl (by decide +kernel) (by decide) rfl ⟨rfl, rfl, rfl, rfl⟩ hk
