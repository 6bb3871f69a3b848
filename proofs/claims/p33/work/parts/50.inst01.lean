def sxI18 : sxI := (227, (4, 91), ([(.ofNat 0, .ofNat 0)], [8, 34, 35], 0, [], [], [], []), [(2, 0, .ofNat 0), (2, 1, .ofNat 0), (2, 2, .ofNat 0)], [(35, 0, 64)], [(([(.negSucc 9223372036854775807, .ofNat 9223372036854775807)], [], 0, [], [], [], []), some (1, 1, .ofNat 0))])
def sxhI18 : sxH := (sxk_X8_worth, sxgX8, sxpX8, sxcX8, (sxkiX8, sxklX8, sxksX8), (7, sxI18.2.2.2.2.1, sxI18.2.2.2.2.2, 2), (1, 3, 0), (4, 91))
def sxjI18 : List sxJ := [((5, 0, 0), ([(0, .ofNat 0), (0, .ofNat 0)], [], []), (([(.ofNat 0, .ofNat 26), (.ofNat 0, .ofNat 400)], [], 0, [], [], [], []), [(4, (0, 1, .ofNat 0)), (3, (0, 2, .ofNat 0)), (0, (2, 0, .ofNat 0)), (1, (2, 1, .ofNat 0)), (2, (2, 2, .ofNat 0))], [], ([(1, .negSucc 0)], .ofNat 26))),
  ((79, 11, 0), ([(0, .ofNat 0)], [], []), (sxE0, [], [], ([], .ofNat 0))),
  ((65, 10, 1), ([(0, .ofNat 0), (2, .ofNat 0), (4, .ofNat 0)], [0, 1, 2], []), (sxE0, [], [], ([], .ofNat 0))),
  ((68, 11, 0), ([(6, .ofNat 0)], [], []), (sxE0, [], [], ([], .ofNat 0))),
  ((51, 10, 1), ([(0, .ofNat 0), (4, .ofNat 0), (5, .ofNat 0)], [0, 1, 2], []), (sxE0, [], [], ([], .ofNat 0))),
  ((5, 2, 0), ([(1, .ofNat 2), (5, .ofNat 0)], [], []), (sxE0, [], [], ([], .ofNat 0))),
  ((65, 10, 1), ([(0, .ofNat 0), (2, .ofNat 0), (4, .ofNat 0)], [0, 1, 2], []), (sxE0, [], [], ([], .ofNat 0))),
  ((68, 11, 0), ([(8, .ofNat 0)], [], []), (sxE0, [], [], ([], .ofNat 0)))]
theorem sxvI18 : (sx_exec sxRT [sxI16, sxI17] [] sxhI18 232 0 sxI18.2.2.1 (sx_argl 0 sxI18.2.2.2.1) [] [] sxjI18).isSome = true := by decide +kernel
theorem sxmI18 {PF : Nat → List Int → List (Nat → Int) → Prop} {l : Launch} : sx_met PF sxRT sxMy sxMc sxML sxMr sxTK l sxI18 := by
  obtain ⟨its2, hk⟩ := Option.isSome_iff_exists.mp sxvI18
  exact sx_met_of (h := sxhI18) sxTK_ok (sxTK2 sxksX8_ok) sxt_X8_worth sxFW_ok (sx_cons (sxmI16) (sx_cons (sxmI17) sx_nil)) (fun L h => by cases h) rfl (by decide +kernel) (by decide) rfl ⟨rfl, rfl, rfl, rfl⟩ hk
def sxI19 : sxI := (203, (2, 40), ([(.ofNat 0, .ofNat 0), (.ofNat 0, .ofNat 0), (.ofNat 1, .ofNat 2)], [33, 20, 26], 0, [], [], [], []), [(2, 0, .ofNat 0), (2, 1, .ofNat 0), (2, 2, .ofNat 0), (0, 1, .ofNat 0), (0, 2, .ofNat 0)], [(34, 0, 8), (34, 10, 11)], [(([], [], 0, [], [], [], []), none)])
def sxhI19 : sxH := (sxk_X4_setWords, sxgX4, sxpX4, sxcX4, (sxkiX4, sxklX4, sxksX4), (5, sxI19.2.2.2.2.1, sxI19.2.2.2.2.2, 4), (3, 3, 0), (2, 40))
def sxjI19 : List sxJ := [((134, 11, 0), ([], [], []), (sxE0, [], [], ([], .ofNat 0)))]
theorem sxvI19 : (sx_exec sxRT [] [] sxhI19 139 0 sxI19.2.2.1 (sx_argl 0 sxI19.2.2.2.1) [] [] sxjI19).isSome = true := by decide +kernel
theorem sxmI19 {PF : Nat → List Int → List (Nat → Int) → Prop} {l : Launch} : sx_met PF sxRT sxMy sxMc sxML sxMr sxTK l sxI19 := by
  obtain ⟨its2, hk⟩ := Option.isSome_iff_exists.mp sxvI19
  exact sx_met_of (h := sxhI19) sxTK_ok (sxTK2 sxksX4_ok) sxt_X4_setWords sxFW_ok sx_nil (fun L h => by cases h) rfl (by decide +kernel) (by decide) rfl ⟨rfl, rfl, rfl, rfl⟩ hk
def sxI20 : sxI := (203, (2, 40), ([(.ofNat 0, .ofNat 0), (.ofNat 0, .ofNat 0), (.ofNat 1, .ofNat 6)], [33, 20, 26], 0, [], [], [], []), [(2, 0, .ofNat 0), (2, 1, .ofNat 0), (2, 2, .ofNat 0), (0, 1, .ofNat 0), (0, 2, .ofNat 0)], [(34, 0, 8), (34, 10, 11)], [(([], [], 0, [], [], [], []), none)])
def sxhI20 : sxH := (sxk_X4_setWords, sxgX4, sxpX4, sxcX4, (sxkiX4, sxklX4, sxksX4), (5, sxI20.2.2.2.2.1, sxI20.2.2.2.2.2, 4), (3, 3, 0), (2, 40))
def sxjI20 : List sxJ := [((134, 11, 0), ([], [], []), (sxE0, [], [], ([], .ofNat 0)))]
theorem sxvI20 : (sx_exec sxRT [] [] sxhI20 139 0 sxI20.2.2.1 (sx_argl 0 sxI20.2.2.2.1) [] [] sxjI20).isSome = true := by decide +kernel
theorem sxmI20 {PF : Nat → List Int → List (Nat → Int) → Prop} {l : Launch} : sx_met PF sxRT sxMy sxMc sxML sxMr sxTK l sxI20 := by
  obtain ⟨its2, hk⟩ := Option.isSome_iff_exists.mp sxvI20
  exact sx_met_of (h := sxhI20) sxTK_ok (sxTK2 sxksX4_ok) sxt_X4_setWords sxFW_ok sx_nil (fun L h => by cases h) rfl (by decide +kernel) (by decide) rfl ⟨rfl, rfl, rfl, rfl⟩ hk
def sxI21 : sxI := (203, (2, 40), ([(.ofNat 0, .ofNat 0), (.ofNat 0, .ofNat 1), (.ofNat 1, .ofNat 2)], [33, 20, 26], 0, [], [], [], []), [(2, 0, .ofNat 0), (2, 1, .ofNat 0), (2, 2, .ofNat 0), (0, 1, .ofNat 0), (0, 2, .ofNat 0)], [(34, 0, 8), (34, 10, 11)], [(([], [], 0, [], [], [], []), none)])
def sxhI21 : sxH := (sxk_X4_setWords, sxgX4, sxpX4, sxcX4, (sxkiX4, sxklX4, sxksX4), (5, sxI21.2.2.2.2.1, sxI21.2.2.2.2.2, 4), (3, 3, 0), (2, 40))
def sxjI21 : List sxJ := [((134, 11, 0), ([], [], []), (sxE0, [], [], ([], .ofNat 0)))]
theorem sxvI21 : (sx_exec sxRT [] [] sxhI21 139 0 sxI21.2.2.1 (sx_argl 0 sxI21.2.2.2.1) [] [] sxjI21).isSome = true := by decide +kernel
theorem sxmI21 {PF : Nat → List Int → List (Nat → Int) → Prop} {l : Launch} : sx_met PF sxRT sxMy sxMc sxML sxMr sxTK l sxI21 := by
  obtain ⟨its2, hk⟩ := Option.isSome_iff_exists.mp sxvI21
  exact sx_met_of (h := sxhI21) sxTK_ok (sxTK2 sxksX4_ok) sxt_X4_setWords sxFW_ok sx_nil (fun L h => by cases h) rfl (by decide +kernel) (by decide) rfl ⟨rfl, rfl, rfl, rfl⟩ hk
def sxI22 : sxI := (203, (2, 40), ([(.ofNat 0, .ofNat 0), (.ofNat 0, .ofNat 1), (.ofNat 1, .ofNat 3)], [33, 20, 26], 0, [], [], [], []), [(2, 0, .ofNat 0), (2, 1, .ofNat 0), (2, 2, .ofNat 0), (0, 1, .ofNat 0), (0, 2, .ofNat 0)], [(34, 0, 8), (34, 10, 11)], [(([], [], 0, [], [], [], []), none)])
def sxhI22 : sxH := (sxk_X4_setWords, sxgX4, sxpX4, sxcX4, (sxkiX4, sxklX4, sxksX4), (5, sxI22.2.2.2.2.1, sxI22.2.2.2.2.2, 4), (3, 3, 0), (2, 40))
def sxjI22 : List sxJ := [((134, 11, 0), ([], [], []), (sxE0, [], [], ([], .ofNat 0)))]
theorem sxvI22 : (sx_exec sxRT [] [] sxhI22 139 0 sxI22.2.2.1 (sx_argl 0 sxI22.2.2.2.1) [] [] sxjI22).isSome = true := by decide +kernel
theorem sxmI22 {PF : Nat → List Int → List (Nat → Int) → Prop} {l : Launch} : sx_met PF sxRT sxMy sxMc sxML sxMr sxTK l sxI22 := by
  obtain ⟨its2, hk⟩ := Option.isSome_iff_exists.mp sxvI22
  exact sx_met_of (h := sxhI22) sxTK_ok (sxTK2 sxksX4_ok) sxt_X4_setWords sxFW_ok sx_nil (fun L h => by cases h) rfl (by decide +kernel) (by decide) rfl ⟨rfl, rfl, rfl, rfl⟩ hk
def sxI23 : sxI := (203, (2, 40), ([(.ofNat 0, .ofNat 0), (.ofNat 0, .ofNat 1), (.ofNat 1, .ofNat 6)], [33, 20, 26], 0, [], [], [], []), [(2, 0, .ofNat 0), (2, 1, .ofNat 0), (2, 2, .ofNat 0), (0, 1, .ofNat 0), (0, 2, .ofNat 0)], [(34, 0, 8), (34, 10, 11)], [(([], [], 0, [], [], [], []), none)])
def sxhI23 : sxH := (sxk_X4_setWords, sxgX4, sxpX4, sxcX4, (sxkiX4, sxklX4, sxksX4), (5, sxI23.2.2.2.2.1, sxI23.2.2.2.2.2, 4), (3, 3, 0), (2, 40))
def sxjI23 : List sxJ := [((134, 11, 0), ([], [], []), (sxE0, [], [], ([], .ofNat 0)))]
theorem sxvI23 : (sx_exec sxRT [] [] sxhI23 139 0 sxI23.2.2.1 (sx_argl 0 sxI23.2.2.2.1) [] [] sxjI23).isSome = true := by decide +kernel
theorem sxmI23 {PF : Nat → List Int → List (Nat → Int) → Prop} {l : Launch} : sx_met PF sxRT sxMy sxMc sxML sxMr sxTK l sxI23 := by
  obtain ⟨its2, hk⟩ := Option.isSome_iff_exists.mp sxvI23
  exact sx_met_of (h := sxhI23) sxTK_ok (sxTK2 sxksX4_ok) sxt_X4_setWords sxFW_ok sx_nil (fun L h => by cases h) rfl (by decide +kernel) (by decide) rfl ⟨rfl, rfl, rfl, rfl⟩ hk
def sxI24 : sxI := (203, (2, 40), ([(.ofNat 0, .ofNat 0), (.ofNat 0, .ofNat 6), (.ofNat 1, .ofNat 6)], [33, 20, 26], 0, [], [], [], []), [(2, 0, .ofNat 0), (2, 1, .ofNat 0), (2, 2, .ofNat 0), (0, 1, .ofNat 0), (0, 2, .ofNat 0)], [(34, 0, 8), (34, 10, 11)], [(([], [], 0, [], [], [], []), none)])
def sxhI24 : sxH := (sxk_X4_setWords, sxgX4, sxpX4, sxcX4, (sxkiX4, sxklX4, sxksX4), (5, sxI24.2.2.2.2.1, sxI24.2.2.2.2.2, 4), (3, 3, 0), (2, 40))
def sxjI24 : List sxJ := [((134, 11, 0), ([], [], []), (sxE0, [], [], ([], .ofNat 0)))]
theorem sxvI24 : (sx_exec sxRT [] [] sxhI24 139 0 sxI24.2.2.1 (sx_argl 0 sxI24.2.2.2.1) [] [] sxjI24).isSome = true := by decide +kernel
theorem sxmI24 {PF : Nat → List Int → List (Nat → Int) → Prop} {l : Launch} : sx_met PF sxRT sxMy sxMc sxML sxMr sxTK l sxI24 := by
  obtain ⟨its2, hk⟩ := Option.isSome_iff_exists.mp sxvI24
  exact sx_met_of (h := sxhI24) sxTK_ok (sxTK2 sxksX4_ok) sxt_X4_setWords sxFW_ok sx_nil (fun L h => by cases h) rfl (by decide +kernel) (by decide) rfl ⟨rfl, rfl, rfl, rfl⟩ hk
def sxI25 : sxI := (200, (5, 140), ([(.ofNat 0, .ofNat 0), (.negSucc 2147483647, .ofNat 2147483647)], [33, 20, 26, 8], 0, [], [], [], []), [(2, 0, .ofNat 0), (2, 1, .ofNat 0), (2, 2, .ofNat 0), (2, 3, .ofNat 0), (0, 1, .ofNat 0)], [(27, 0, 7), (34, 0, 12), (35, 0, 64)], [(([], [], 0, [], [], [], []), none)])
def sxhI25 : sxH := (sxk_X4_fold, sxgX4, sxpX4, sxcX4, (sxkiX4, sxklX4, sxksX4), (13, sxI25.2.2.2.2.1, sxI25.2.2.2.2.2, 4), (2, 4, 0), (5, 140))
def sxjI25 : List sxJ := [((11, 10, 0), ([(0, .ofNat 0), (2, .ofNat 0)], [2], []), (sxE0, [], [], ([], .ofNat 0))),
  ((14, 10, 1), ([(0, .ofNat 0), (3, .ofNat 0)], [], []), (sxE0, [], [], ([], .ofNat 0))),
  ((27, 10, 2), ([(0, .ofNat 0)], [2, 1], []), (sxE0, [], [], ([], .ofNat 0))),
  ((30, 10, 1), ([(0, .ofNat 0), (5, .ofNat 0)], [], []), (sxE0, [], [], ([], .ofNat 0))),
  ((59, 0, 0), ([(0, .ofNat 0), (0, .negSucc 0), (0, .negSucc 0), (0, .ofNat 0)], [], []), (([(.ofNat 0, .ofNat 7), (.negSucc 0, .ofNat 6), (.negSucc 0, .ofNat 6), (.ofNat 0, .ofNat 9223372036854775807)], [], 0, [([(9, .ofNat 1), (10, .negSucc 0)], .ofNat 0)], [], [((1, 4), (0, .ofNat 11), (1, 7, .ofNat 0)), ((0, 2), (0, .ofNat 4), (0, 7, .ofNat 0)), ((1, 4), (0, .ofNat 9), (1, 6, .ofNat 0)), ((1, 4), (0, .ofNat 8), (1, 4, .ofNat 0)), ((0, 1), (0, .ofNat 3), (0, 2, .ofNat 0)), ((0, 0), (0, .ofNat 0), (2, 4, .ofNat 0))], []), [(9, (0, 8, .ofNat 0)), (8, (0, 9, .ofNat 0)), (7, (0, 10, .ofNat 0)), (5, (1, 11, .ofNat 0)), (0, (2, 0, .ofNat 0)), (1, (2, 1, .ofNat 0)), (2, (2, 2, .ofNat 0)), (3, (2, 3, .ofNat 0)), (4, (0, 1, .ofNat 0))], [], ([(8, .negSucc 0)], .ofNat 7))),
  ((167, 11, 0), ([], [], []), (sxE0, [], [], ([], .ofNat 0))),
  ((159, 7, 0), ([], [], []), (sxE0, [], [], ([(9, .ofNat 1), (10, .negSucc 0)], .ofNat 0))),
  ((164, 10, 7), ([(0, .ofNat 0), (10, .ofNat 0), (9, .ofNat 0)], [2], []), (sxE0, [], [], ([], .ofNat 0))),
  ((167, 11, 0), ([], [], []), (sxE0, [], [], ([], .ofNat 0))),
  ((74, 0, 0), ([(8, .ofNat 1), (9, .ofNat 0), (10, .ofNat 0), (11, .ofNat 0)], [], []), (([(.ofNat 1, .ofNat 7), (.negSucc 0, .ofNat 6), (.negSucc 0, .ofNat 6), (.ofNat 0, .ofNat 9223372036854775807)], [], 0, [([(12, .ofNat 1), (8, .negSucc 0)], .negSucc 0), ([(15, .ofNat 1), (11, .negSucc 0)], .ofNat 0), ([(13, .ofNat 1), (14, .negSucc 0)], .ofNat 0)], [], [((1, 4), (0, .ofNat 11), (1, 7, .ofNat 0)), ((0, 2), (0, .ofNat 4), (0, 7, .ofNat 0)), ((1, 4), (0, .ofNat 9), (1, 6, .ofNat 0)), ((1, 4), (0, .ofNat 8), (1, 4, .ofNat 0)), ((0, 1), (0, .ofNat 3), (0, 2, .ofNat 0)), ((0, 0), (0, .ofNat 0), (2, 4, .ofNat 0))], []), [(10, (0, 12, .ofNat 0)), (9, (0, 8, .ofNat 0)), (8, (0, 13, .ofNat 0)), (7, (0, 14, .ofNat 0)), (5, (1, 15, .ofNat 0)), (0, (2, 0, .ofNat 0)), (1, (2, 1, .ofNat 0)), (2, (2, 2, .ofNat 0)), (3, (2, 3, .ofNat 0)), (4, (0, 1, .ofNat 0))], [], ([(12, .negSucc 0)], .ofNat 7))),
  ((59, 2, 1), ([(8, .ofNat 1), (13, .ofNat 0), (14, .ofNat 0), (15, .ofNat 0)], [], []), (sxE0, [], [], ([], .ofNat 0))),
  ((74, 2, 0), ([(12, .ofNat 1), (13, .ofNat 0), (14, .ofNat 0), (15, .ofNat 0)], [], []), (sxE0, [], [], ([], .ofNat 0))),
  ((74, 2, 0), ([(12, .ofNat 1), (13, .ofNat 0), (14, .ofNat 0), (15, .ofNat 0)], [], []), (sxE0, [], [], ([], .ofNat 0))),
  ((104, 10, 11), ([(0, .ofNat 0), (8, .ofNat 0), (12, .ofNat 0)], [0, 1, 2], []), (sxE0, [], [], ([], .ofNat 0))),
  ((116, 10, 4), ([(0, .ofNat 0)], [3, 4, 5], []), (sxE0, [], [], ([], .ofNat 0))),
  ((74, 2, 0), ([(12, .ofNat 1), (13, .ofNat 0), (14, .ofNat 0), (15, .ofNat 0)], [], []), (sxE0, [], [], ([], .ofNat 0))),
  ((74, 2, 0), ([(12, .ofNat 1), (12, .ofNat 0), (8, .ofNat 0), (16, .ofNat 0)], [], []), (sxE0, [], [], ([], .ofNat 0)))]
theorem sxvI25 : (sx_exec sxRT [sxI12, sxI13, sxI9, sxI14, sxI18, sxI19, sxI20, sxI4, sxI21, sxI22, sxI23, sxI24] [] sxhI25 300 0 sxI25.2.2.1 (sx_argl 0 sxI25.2.2.2.1) [] [] sxjI25).isSome = true := by decide +kernel
theorem sxmI25 {PF : Nat → List Int → List (Nat → Int) → Prop} {l : Launch} : sx_met PF sxRT sxMy sxMc sxML sxMr sxTK l sxI25 := by
  obtain ⟨its2, hk⟩ := Option.isSome_iff_exists.mp sxvI25
  exact sx_met_of (h := sxhI25) sxTK_ok (sxTK2 sxksX4_ok) sxt_X4_fold sxFW_ok (sx_cons (sxmI12) (sx_cons (sxmI13) (sx_cons (sxmI9) (sx_cons (sxmI14) (sx_cons (sxmI18) (sx_cons (sxmI19) (sx_cons (sxmI20) (sx_cons (sxmI4) (sx_cons (sxmI21) (sx_cons (sxmI22) (sx_cons (sxmI23) (sx_cons (sxmI24) sx_nil)))))))))))) (fun L h => by cases h) rfl (by decide +kernel) (by decide) rfl ⟨rfl, rfl, rfl, rfl⟩ hk
def sxI26 : sxI := (202, (6, 172), ([(.ofNat 0, .ofNat 0), (.negSucc 2147483647, .ofNat 2147483647)], [33, 20, 26, 8], 0, [], [], [], []), [(2, 0, .ofNat 0), (2, 1, .ofNat 0), (2, 2, .ofNat 0), (2, 3, .ofNat 0), (0, 1, .ofNat 0)], [(26, 4, 5), (27, 0, 7), (28, 0, 7), (29, 0, 7), (30, 0, 7), (34, 0, 12), (35, 0, 64)], [(([(.ofNat 0, .ofNat 127)], [], 0, [], [], [], []), some (0, 2, .ofNat 0))])
def sxhI26 : sxH := (sxk_X4_passWeek, sxgX4, sxpX4, sxcX4, (sxkiX4, sxklX4, sxksX4), (6, sxI26.2.2.2.2.1, sxI26.2.2.2.2.2, 0), (2, 4, 0), (6, 172))
def sxjI26 : List sxJ := [((4, 10, 0), ([(0, .ofNat 0), (1, .ofNat 0)], [1, 2], []), (sxE0, [], [], ([], .ofNat 0))),
  ((17, 10, 1), ([(0, .ofNat 0), (1, .ofNat 0)], [0, 1, 2, 3], []), (sxE0, [], [], ([], .ofNat 0))),
  ((22, 10, 2), ([(0, .ofNat 0)], [2, 1], []), (sxE0, [], [], ([], .ofNat 0))),
  ((31, 10, 3), ([(0, .ofNat 0), (2, .ofNat 0)], [2, 1], []), (sxE0, [], [], ([], .ofNat 0))),
  ((36, 11, 0), ([(2, .ofNat 0)], [], []), (sxE0, [], [], ([], .ofNat 0)))]
theorem sxvI26 : (sx_exec sxRT [sxI5, sxI25, sxI9, sxI10] [] sxhI26 77 0 sxI26.2.2.1 (sx_argl 0 sxI26.2.2.2.1) [] [] sxjI26).isSome = true := by decide +kernel
theorem sxmI26 {PF : Nat → List Int → List (Nat → Int) → Prop} {l : Launch} : sx_met PF sxRT sxMy sxMc sxML sxMr sxTK l sxI26 := by
  obtain ⟨its2, hk⟩ := Option.isSome_iff_exists.mp sxvI26
  exact sx_met_of (h := sxhI26) sxTK_ok (sxTK2 sxksX4_ok) sxt_X4_passWeek sxFW_ok (sx_cons (sxmI5) (sx_cons (sxmI25) (sx_cons (sxmI9) (sx_cons (sxmI10) sx_nil)))) (fun L h => by cases h) rfl (by decide +kernel) (by decide) rfl ⟨rfl, rfl, rfl, rfl⟩ hk
def sxI27 : sxI := (35, (7, 197), ([(.ofNat 0, .ofNat 0), (.negSucc 2147483647, .ofNat 2147483647), (.negSucc 2147483647, .ofNat 2147483647)], [0], 0, [], [], [], []), [(2, 0, .ofNat 0), (0, 1, .ofNat 0), (0, 2, .ofNat 0)], [(26, 4, 5), (27, 0, 7), (28, 0, 7), (29, 0, 7), (30, 0, 7), (34, 0, 12), (35, 0, 64)], [(([], [], 0, [], [], [], []), none)])
def sxhI27 : sxH := (sxk_X11_goOn, sxgX11, sxpX11, sxcX11, (sxkiX11, sxklX11, sxksX11), (5, sxI27.2.2.2.2.1, sxI27.2.2.2.2.2, 4), (3, 1, 0), (7, 197))
def sxjI27 : List sxJ := [((11, 10, 0), ([(0, .ofNat 0)], [1, 3], []), (sxE0, [], [], ([], .ofNat 0))),
  ((22, 10, 1), ([(0, .ofNat 0), (3, .ofNat 0)], [0], []), (sxE0, [], [], ([], .ofNat 0))),
  ((29, 0, 0), ([(0, .ofNat 0)], [], []), (([(.ofNat 0, .ofNat 2147483647)], [], 0, [], [], [((0, 2), (0, .ofNat 6), (0, 3, .ofNat 0)), ((0, 2), (0, .ofNat 1), (2, 3, .ofNat 0)), ((0, 0), (0, .ofNat 4), (2, 2, .ofNat 0)), ((0, 0), (0, .ofNat 10), (2, 1, .ofNat 0))], []), [(4, (0, 4, .ofNat 0)), (3, (3, 0, .ofNat 0)), (0, (2, 0, .ofNat 0)), (1, (0, 1, .ofNat 0)), (2, (0, 2, .ofNat 0))], [], ([(4, .negSucc 0)], .ofNat 2147483647))),
  ((62, 11, 0), ([], [], []), (sxE0, [], [], ([], .ofNat 0))),
  ((52, 10, 2), ([(0, .ofNat 0), (2, .ofNat 0)], [4, 5, 1], []), (sxE0, [], [], ([], .ofNat 0))),
  ((29, 2, 0), ([(4, .ofNat 1)], [], []), (sxE0, [], [], ([], .ofNat 0))),
  ((25, 7, 0), ([], [], []), (sxE0, [], [], ([(3, .ofNat 1)], .ofNat 0))),
  ((25, 7, 0), ([], [], []), (sxE0, [], [], ([(3, .negSucc 0)], .ofNat 5))),
  ((29, 0, 0), ([(0, .ofNat 0)], [], []), (([(.ofNat 0, .ofNat 2147483647)], [], 0, [], [], [((0, 2), (0, .ofNat 6), (0, 3, .ofNat 0)), ((0, 2), (0, .ofNat 1), (2, 3, .ofNat 0)), ((0, 0), (0, .ofNat 4), (2, 2, .ofNat 0)), ((0, 0), (0, .ofNat 10), (2, 1, .ofNat 0))], []), [(4, (0, 4, .ofNat 0)), (3, (2, 4, .ofNat 0)), (0, (2, 0, .ofNat 0)), (1, (0, 1, .ofNat 0)), (2, (0, 2, .ofNat 0))], [], ([(4, .negSucc 0)], .ofNat 2147483647))),
  ((62, 11, 0), ([], [], []), (sxE0, [], [], ([], .ofNat 0))),
  ((52, 10, 3), ([(0, .ofNat 0), (2, .ofNat 0)], [5, 6, 1, 4], []), (sxE0, [], [], ([], .ofNat 0))),
  ((29, 2, 0), ([(4, .ofNat 1)], [], []), (sxE0, [], [], ([], .ofNat 0)))]
theorem sxvI27 : (sx_exec sxRT [sxI2, sxI3, sxI11, sxI26] [] sxhI27 309 0 sxI27.2.2.1 (sx_argl 0 sxI27.2.2.2.1) [] [] sxjI27).isSome = true := by decide +kernel
theorem sxmI27 {PF : Nat → List Int → List (Nat → Int) → Prop} {l : Launch} : sx_met PF sxRT sxMy sxMc sxML sxMr sxTK l sxI27 := by
  obtain ⟨its2, hk⟩ := Option.isSome_iff_exists.mp sxvI27
  exact sx_met_of (h := sxhI27) sxTK_ok (sxTK2 sxksX11_ok) sxt_X11_goOn sxFW_ok (sx_cons (sxmI2) (sx_cons (sxmI3) (sx_cons (sxmI11) (sx_cons (sxmI26) sx_nil)))) (fun L h => by cases h) rfl (by decide +kernel) (by decide) rfl ⟨rfl, rfl, rfl, rfl⟩ hk
def sxI28 : sxI := (20, (8, 221), ([(.ofNat 0, .ofNat 0), (.negSucc 2147483647, .ofNat 2147483647), (.negSucc 2147483647, .ofNat 2147483647), (.negSucc 2147483647, .ofNat 2147483647)], [0], 0, [], [], [], []), [(2, 0, .ofNat 0), (0, 1, .ofNat 0), (0, 2, .ofNat 0), (0, 3, .ofNat 0)], [(26, 4, 5), (27, 0, 7), (28, 0, 7), (29, 0, 7), (30, 0, 7), (34, 0, 12), (35, 0, 64)], [(([(.negSucc 2147483647, .ofNat 2147483647)], [], 0, [], [], [], []), some (0, 4, .ofNat 0))])
def sxhI28 : sxH := (sxk_X11_ahead, sxgX11, sxpX11, sxcX11, (sxkiX11, sxklX11, sxksX11), (4, sxI28.2.2.2.2.1, sxI28.2.2.2.2.2, 0), (4, 1, 0), (8, 221))
def sxjI28 : List sxJ := [((2, 10, 0), ([(0, .ofNat 0), (1, .ofNat 0)], [0], []), (sxE0, [], [], ([], .ofNat 0))),
  ((28, 11, 0), ([(0, .negSucc 0)], [], []), (sxE0, [], [], ([], .ofNat 0))),
  ((5, 7, 0), ([], [], []), (sxE0, [], [], ([(1, .ofNat 1)], .ofNat 0))),
  ((5, 7, 0), ([], [], []), (sxE0, [], [], ([(1, .negSucc 0)], .ofNat 6))),
  ((12, 10, 1), ([(0, .ofNat 0), (2, .ofNat 0), (0, .ofNat 0), (0, .ofNat 100)], [], []), (sxE0, [], [], ([], .ofNat 0))),
  ((28, 11, 0), ([(0, .negSucc 0)], [], []), (sxE0, [], [], ([], .ofNat 0))),
  ((15, 7, 0), ([], [], []), (sxE0, [], [], ([(2, .ofNat 1), (0, .negSucc 0)], .ofNat 0))),
  ((15, 7, 0), ([], [], []), (sxE0, [], [], ([(0, .ofNat 1), (2, .negSucc 0)], .ofNat 100))),
  ((21, 10, 1), ([(0, .ofNat 0), (3, .ofNat 0), (0, .ofNat 0), (0, .ofNat 2)], [], []), (sxE0, [], [], ([], .ofNat 0))),
  ((28, 11, 0), ([(0, .negSucc 0)], [], []), (sxE0, [], [], ([], .ofNat 0))),
  ((24, 7, 0), ([], [], []), (sxE0, [], [], ([(3, .ofNat 1), (0, .negSucc 0)], .ofNat 0))),
  ((24, 7, 0), ([], [], []), (sxE0, [], [], ([(0, .ofNat 1), (3, .negSucc 0)], .ofNat 2))),
  ((32, 10, 2), ([(0, .ofNat 0), (2, .ofNat 0), (0, .negSucc 0)], [0], []), (sxE0, [], [], ([], .ofNat 0))),
  ((75, 11, 0), ([(4, .ofNat 0)], [], []), (sxE0, [], [], ([], .ofNat 0))),
  ((75, 11, 0), ([(4, .ofNat 0)], [], []), (sxE0, [], [], ([], .ofNat 0))),
  ((48, 11, 0), ([(4, .ofNat 0)], [], []), (sxE0, [], [], ([], .ofNat 0)))]
theorem sxvI28 : (sx_exec sxRT [sxI0, sxI1, sxI27] [] sxhI28 117 0 sxI28.2.2.1 (sx_argl 0 sxI28.2.2.2.1) [] [] sxjI28).isSome = true := by decide +kernel
theorem sxmI28 {PF : Nat → List Int → List (Nat → Int) → Prop} {l : Launch} : sx_met PF sxRT sxMy sxMc sxML sxMr sxTK l sxI28 := by
  obtain ⟨its2, hk⟩ := Option.isSome_iff_exists.mp sxvI28
  exact sx_met_of (h := sxhI28) sxTK_ok (sxTK2 sxksX11_ok) sxt_X11_ahead sxFW_ok (sx_cons (sxmI0) (sx_cons (sxmI1) (sx_cons (sxmI27) sx_nil))) (fun L h => by cases h) rfl (by decide +kernel) (by decide) rfl ⟨rfl, rfl, rfl, rfl⟩ hk
def sxI29 : sxI := (190, (2, 40), ([(.ofNat 0, .ofNat 0)], [20, 20], 0, [], [], [], []), [(2, 0, .ofNat 0), (2, 1, .ofNat 0)], [(20, 0, 5), (21, 0, 7), (22, 0, 7), (23, 0, 8), (24, 0, 8), (25, 0, 8)], [(([], [], 0, [], [], [], []), none)])
def sxhI29 : sxH := (sxk_X1_copyFrom, sxgX1, sxpX1, sxcX1, (sxkiX1, sxklX1, sxksX1), (2, sxI29.2.2.2.2.1, sxI29.2.2.2.2.2, 4), (1, 2, 0), (2, 40))
def sxjI29 : List sxJ := [((115, 11, 0), ([], [], []), (sxE0, [], [], ([], .ofNat 0)))]
theorem sxvI29 : (sx_exec sxRT [] [] sxhI29 112 0 sxI29.2.2.1 (sx_argl 0 sxI29.2.2.2.1) [] [] sxjI29).isSome = true := by decide +kernel
theorem sxmI29 {PF : Nat → List Int → List (Nat → Int) → Prop} {l : Launch} : sx_met PF sxRT sxMy sxMc sxML sxMr sxTK l sxI29 := by
  obtain ⟨its2, hk⟩ := Option.isSome_iff_exists.mp sxvI29
  exact sx_met_of (h := sxhI29) sxTK_ok (sxTK2 sxksX1_ok) sxt_X1_copyFrom sxFW_ok sx_nil (fun L h => by cases h) rfl (by decide +kernel) (by decide) rfl ⟨rfl, rfl, rfl, rfl⟩ hk
def sxI30 : sxI := (198, (3, 61), ([(.ofNat 0, .ofNat 0)], [11, 12], 0, [], [], [], []), [(2, 0, .ofNat 0), (2, 1, .ofNat 0)], [(11, 5, 8), (16, 0, 10), (17, 0, 10), (18, 0, 10), (20, 0, 5), (21, 0, 7), (22, 0, 7), (23, 0, 8), (24, 0, 8), (25, 0, 8), (26, 4, 5), (27, 0, 7), (28, 0, 7), (29, 0, 7), (30, 0, 7)], [(([], [], 0, [], [], [], []), none)])
def sxhI30 : sxH := (sxk_X3_copyFrom, sxgX3, sxpX3, sxcX3, (sxkiX3, sxklX3, sxksX3), (2, sxI30.2.2.2.2.1, sxI30.2.2.2.2.2, 4), (1, 2, 0), (3, 61))
def sxjI30 : List sxJ := [((8, 10, 0), ([(0, .ofNat 0)], [2, 3], []), (sxE0, [], [], ([], .ofNat 0))),
  ((19, 10, 1), ([(0, .ofNat 0)], [4, 5], []), (sxE0, [], [], ([], .ofNat 0))),
  ((91, 11, 0), ([], [], []), (sxE0, [], [], ([], .ofNat 0)))]
theorem sxvI30 : (sx_exec sxRT [sxI29, sxI2] [] sxhI30 100 0 sxI30.2.2.1 (sx_argl 0 sxI30.2.2.2.1) [] [] sxjI30).isSome = true := by decide +kernel
theorem sxmI30 {PF : Nat → List Int → List (Nat → Int) → Prop} {l : Launch} : sx_met PF sxRT sxMy sxMc sxML sxMr sxTK l sxI30 := by
  obtain ⟨its2, hk⟩ := Option.isSome_iff_exists.mp sxvI30
  exact sx_met_of (h := sxhI30) sxTK_ok (sxTK2 sxksX3_ok) sxt_X3_copyFrom sxFW_ok (sx_cons (sxmI29) (sx_cons (sxmI2) sx_nil)) (fun L h => by cases h) rfl (by decide +kernel) (by decide) rfl ⟨rfl, rfl, rfl, rfl⟩ hk
def sxI31 : sxI := (223, (2, 40), ([(.ofNat 0, .ofNat 0)], [31], 0, [], [], [], []), [(2, 0, .ofNat 0)], [(31, 2, 3)], [(([], [], 0, [], [], [], []), none)])
def sxhI31 : sxH := (sxk_X7_forget, sxgX7, sxpX7, sxcX7, (sxkiX7, sxklX7, sxksX7), (1, sxI31.2.2.2.2.1, sxI31.2.2.2.2.2, 4), (1, 1, 0), (2, 40))
def sxjI31 : List sxJ := [((5, 11, 0), ([], [], []), (sxE0, [], [], ([], .ofNat 0)))]
theorem sxvI31 : (sx_exec sxRT [] [] sxhI31 55 0 sxI31.2.2.1 (sx_argl 0 sxI31.2.2.2.1) [] [] sxjI31).isSome = true := by decide +kernel
theorem sxmI31 {PF : Nat → List Int → List (Nat → Int) → Prop} {l : Launch} : sx_met PF sxRT sxMy sxMc sxML sxMr sxTK l sxI31 := by
  obtain ⟨its2, hk⟩ := Option.isSome_iff_exists.mp sxvI31
  exact sx_met_of (h := sxhI31) sxTK_ok (sxTK2 sxksX7_ok) sxt_X7_forget sxFW_ok sx_nil (fun L h => by cases h) rfl (by decide +kernel) (by decide) rfl ⟨rfl, rfl, rfl, rfl⟩ hk
def sxI32 : sxI := (198, (3, 61), ([(.ofNat 0, .ofNat 0)], [11, 13], 0, [], [], [], []), [(2, 0, .ofNat 0), (2, 1, .ofNat 0)], [(11, 5, 8), (16, 0, 10), (17, 0, 10), (18, 0, 10), (20, 0, 5), (21, 0, 7), (22, 0, 7), (23, 0, 8), (24, 0, 8), (25, 0, 8), (26, 4, 5), (27, 0, 7), (28, 0, 7), (29, 0, 7), (30, 0, 7)], [(([], [], 0, [], [], [], []), none)])
def sxhI32 : sxH := (sxk_X3_copyFrom, sxgX3, sxpX3, sxcX3, (sxkiX3, sxklX3, sxksX3), (2, sxI32.2.2.2.2.1, sxI32.2.2.2.2.2, 4), (1, 2, 0), (3, 61))
def sxjI32 : List sxJ := [((8, 10, 0), ([(0, .ofNat 0)], [2, 3], []), (sxE0, [], [], ([], .ofNat 0))),
  ((19, 10, 1), ([(0, .ofNat 0)], [4, 5], []), (sxE0, [], [], ([], .ofNat 0))),
  ((91, 11, 0), ([], [], []), (sxE0, [], [], ([], .ofNat 0)))]
theorem sxvI32 : (sx_exec sxRT [sxI29, sxI2] [] sxhI32 100 0 sxI32.2.2.1 (sx_argl 0 sxI32.2.2.2.1) [] [] sxjI32).isSome = true := by decide +kernel
theorem sxmI32 {PF : Nat → List Int → List (Nat → Int) → Prop} {l : Launch} : sx_met PF sxRT sxMy sxMc sxML sxMr sxTK l sxI32 := by
  obtain ⟨its2, hk⟩ := Option.isSome_iff_exists.mp sxvI32
  exact sx_met_of (h := sxhI32) sxTK_ok (sxTK2 sxksX3_ok) sxt_X3_copyFrom sxFW_ok (sx_cons (sxmI29) (sx_cons (sxmI2) sx_nil)) (fun L h => by cases h) rfl (by decide +kernel) (by decide) rfl ⟨rfl, rfl, rfl, rfl⟩ hk
def sxI33 : sxI := (198, (3, 61), ([(.ofNat 0, .ofNat 0)], [11, 14], 0, [], [], [], []), [(2, 0, .ofNat 0), (2, 1, .ofNat 0)], [(11, 5, 8), (16, 0, 10), (17, 0, 10), (18, 0, 10), (20, 0, 5), (21, 0, 7), (22, 0, 7), (23, 0, 8), (24, 0, 8), (25, 0, 8), (26, 4, 5), (27, 0, 7), (28, 0, 7), (29, 0, 7), (30, 0, 7)], [(([], [], 0, [], [], [], []), none)])
def sxhI33 : sxH := (sxk_X3_copyFrom, sxgX3, sxpX3, sxcX3, (sxkiX3, sxklX3, sxksX3), (2, sxI33.2.2.2.2.1, sxI33.2.2.2.2.2, 4), (1, 2, 0), (3, 61))
def sxjI33 : List sxJ := [((8, 10, 0), ([(0, .ofNat 0)], [2, 3], []), (sxE0, [], [], ([], .ofNat 0))),
  ((19, 10, 1), ([(0, .ofNat 0)], [4, 5], []), (sxE0, [], [], ([], .ofNat 0))),
  ((91, 11, 0), ([], [], []), (sxE0, [], [], ([], .ofNat 0)))]
theorem sxvI33 : (sx_exec sxRT [sxI29, sxI2] [] sxhI33 100 0 sxI33.2.2.1 (sx_argl 0 sxI33.2.2.2.1) [] [] sxjI33).isSome = true := by decide +kernel
theorem sxmI33 {PF : Nat → List Int → List (Nat → Int) → Prop} {l : Launch} : sx_met PF sxRT sxMy sxMc sxML sxMr sxTK l sxI33 := by
  obtain ⟨its2, hk⟩ := Option.isSome_iff_exists.mp sxvI33
  exact sx_met_of (h := sxhI33) sxTK_ok (sxTK2 sxksX3_ok) sxt_X3_copyFrom sxFW_ok (sx_cons (sxmI29) (sx_cons (sxmI2) sx_nil)) (fun L h => by cases h) rfl (by decide +kernel) (by decide) rfl ⟨rfl, rfl, rfl, rfl⟩ hk
def sxI34 : sxI := (198, (3, 61), ([(.ofNat 0, .ofNat 0)], [11, 15], 0, [], [], [], []), [(2, 0, .ofNat 0), (2, 1, .ofNat 0)], [(11, 5, 8), (16, 0, 10), (17, 0, 10), (18, 0, 10), (20, 0, 5), (21, 0, 7), (22, 0, 7), (23, 0, 8), (24, 0, 8), (25, 0, 8), (26, 4, 5), (27, 0, 7), (28, 0, 7), (29, 0, 7), (30, 0, 7)], [(([], [], 0, [], [], [], []), none)])
def sxhI34 : sxH := (sxk_X3_copyFrom, sxgX3, sxpX3, sxcX3, (sxkiX3, sxklX3, sxksX3), (2, sxI34.2.2.2.2.1, sxI34.2.2.2.2.2, 4), (1, 2, 0), (3, 61))
def sxjI34 : List sxJ := [((8, 10, 0), ([(0, .ofNat 0)], [2, 3], []), (sxE0, [], [], ([], .ofNat 0))),
  ((19, 10, 1), ([(0, .ofNat 0)], [4, 5], []), (sxE0, [], [], ([], .ofNat 0))),
  ((91, 11, 0), ([], [], []), (sxE0, [], [], ([], .ofNat 0)))]
theorem sxvI34 : (sx_exec sxRT [sxI29, sxI2] [] sxhI34 100 0 sxI34.2.2.1 (sx_argl 0 sxI34.2.2.2.1) [] [] sxjI34).isSome = true := by decide +kernel
theorem sxmI34 {PF : Nat → List Int → List (Nat → Int) → Prop} {l : Launch} : sx_met PF sxRT sxMy sxMc sxML sxMr sxTK l sxI34 := by
  obtain ⟨its2, hk⟩ := Option.isSome_iff_exists.mp sxvI34
  exact sx_met_of (h := sxhI34) sxTK_ok (sxTK2 sxksX3_ok) sxt_X3_copyFrom sxFW_ok (sx_cons (sxmI29) (sx_cons (sxmI2) sx_nil)) (fun L h => by cases h) rfl (by decide +kernel) (by decide) rfl ⟨rfl, rfl, rfl, rfl⟩ hk
