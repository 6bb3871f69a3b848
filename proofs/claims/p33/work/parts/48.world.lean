/-! regions; strings, and what is known of them -/
def sxRT : List sxG := [(0, 11, 14, 14, [(1, (2, .ofNat 1, .ofNat 0)), (2, (2, .ofNat 3, .ofNat 0)), (3, (2, .ofNat 4, .ofNat 0)), (4, (2, .ofNat 7, .ofNat 0)), (5, (2, .ofNat 11, .ofNat 0)), (6, (2, .ofNat 19, .ofNat 0)), (7, (2, .ofNat 31, .ofNat 0)), (8, (2, .ofNat 33, .ofNat 0)), (9, (2, .ofNat 36, .ofNat 0)), (10, (2, .ofNat 41, .ofNat 0)), (11, (2, .ofNat 26, .ofNat 0)), (12, (2, .ofNat 42, .ofNat 0)), (13, (0, .ofNat 0, .ofNat 6)), (14, (2, .ofNat 20, .ofNat 0))]),
  (0, 10, 6, 6, [(1, (2, .ofNat 2, .ofNat 0)), (2, (0, .ofNat 0, .ofNat 400)), (3, (0, .negSucc 2147483647, .ofNat 2147483647)), (4, (0, .negSucc 2147483647, .ofNat 2147483647)), (5, (0, .ofNat 0, .ofNat 400)), (6, (0, .ofNat 0, .ofNat 401))]),
  (1, 1, 400, 400, [(400, (0, .negSucc 127, .ofNat 127))]),
  (0, 2, 0, 0, []),
  (0, 9, 5, 5, [(1, (2, .ofNat 5, .ofNat 0)), (2, (2, .ofNat 6, .ofNat 0)), (3, (3, .ofNat 1, .ofNat 0)), (4, (0, .ofNat 0, .ofNat 400)), (5, (0, .negSucc 2147483647, .ofNat 2147483647))]),
  (1, 0, 400, 400, [(400, (0, .negSucc 2147483647, .ofNat 2147483647))]),
  (1, 0, 24, 24, [(24, (0, .ofNat 0, .ofNat 400))]),
  (1, 4, 6, 6, [(6, (3, .ofNat 8, .ofNat 0))]),
  (0, 8, 2, 2, [(1, (2, .ofNat 9, .ofNat 0)), (2, (2, .ofNat 10, .ofNat 0))]),
  (1, 0, 0, 400, [(400, (0, .negSucc 2147483647, .ofNat 2147483647))]),
  (1, 0, 0, 26, [(26, (0, .ofNat 0, .ofNat 400))]),
  (0, 3, 9, 9, [(1, (2, .ofNat 20, .ofNat 0)), (2, (2, .ofNat 26, .ofNat 0)), (3, (2, .ofNat 16, .ofNat 0)), (4, (2, .ofNat 17, .ofNat 0)), (5, (2, .ofNat 18, .ofNat 0)), (6, (0, .ofNat 0, .ofNat 10)), (7, (0, .negSucc 2147483647, .ofNat 2147483647)), (8, (0, .ofNat 0, .ofNat 2147483647)), (9, (0, .ofNat 0, .ofNat 1))]),
  (0, 3, 9, 9, [(1, (2, .ofNat 20, .ofNat 0)), (2, (2, .ofNat 26, .ofNat 0)), (3, (2, .ofNat 16, .ofNat 0)), (4, (2, .ofNat 17, .ofNat 0)), (5, (2, .ofNat 18, .ofNat 0)), (6, (0, .ofNat 0, .ofNat 10)), (7, (0, .negSucc 2147483647, .ofNat 2147483647)), (8, (0, .ofNat 0, .ofNat 2147483647)), (9, (0, .ofNat 0, .ofNat 1))]),
  (0, 3, 9, 9, [(1, (2, .ofNat 20, .ofNat 0)), (2, (2, .ofNat 26, .ofNat 0)), (3, (2, .ofNat 16, .ofNat 0)), (4, (2, .ofNat 17, .ofNat 0)), (5, (2, .ofNat 18, .ofNat 0)), (6, (0, .ofNat 0, .ofNat 10)), (7, (0, .negSucc 2147483647, .ofNat 2147483647)), (8, (0, .ofNat 0, .ofNat 2147483647)), (9, (0, .ofNat 0, .ofNat 1))]),
  (0, 3, 9, 9, [(1, (2, .ofNat 20, .ofNat 0)), (2, (2, .ofNat 26, .ofNat 0)), (3, (2, .ofNat 16, .ofNat 0)), (4, (2, .ofNat 17, .ofNat 0)), (5, (2, .ofNat 18, .ofNat 0)), (6, (0, .ofNat 0, .ofNat 10)), (7, (0, .negSucc 2147483647, .ofNat 2147483647)), (8, (0, .ofNat 0, .ofNat 2147483647)), (9, (0, .ofNat 0, .ofNat 1))]),
  (0, 3, 9, 9, [(1, (2, .ofNat 20, .ofNat 0)), (2, (2, .ofNat 26, .ofNat 0)), (3, (2, .ofNat 16, .ofNat 0)), (4, (2, .ofNat 17, .ofNat 0)), (5, (2, .ofNat 18, .ofNat 0)), (6, (0, .ofNat 0, .ofNat 10)), (7, (0, .negSucc 2147483647, .ofNat 2147483647)), (8, (0, .ofNat 0, .ofNat 2147483647)), (9, (0, .ofNat 0, .ofNat 1))]),
  (1, 0, 10, 10, [(10, (0, .negSucc 2147483647, .ofNat 2147483647))]),
  (1, 0, 10, 10, [(10, (0, .ofNat 0, .ofNat 6))]),
  (1, 0, 10, 10, [(10, (0, .negSucc 2147483647, .ofNat 2147483647))]),
  (1, 5, 4, 4, [(1, (2, .ofNat 12, .ofNat 0)), (2, (2, .ofNat 13, .ofNat 0)), (3, (2, .ofNat 14, .ofNat 0)), (4, (2, .ofNat 15, .ofNat 0))]),
  (0, 1, 10, 10, [(1, (0, .ofNat 0, .ofNat 1)), (2, (0, .negSucc 2147483647, .ofNat 2147483647)), (3, (0, .negSucc 2147483647, .ofNat 2147483647)), (4, (0, .ofNat 0, .ofNat 7)), (5, (0, .ofNat 0, .ofNat 8)), (6, (2, .ofNat 21, .ofNat 0)), (7, (2, .ofNat 22, .ofNat 0)), (8, (2, .ofNat 23, .ofNat 0)), (9, (2, .ofNat 24, .ofNat 0)), (10, (2, .ofNat 25, .ofNat 0))]),
  (1, 0, 7, 7, [(7, (0, .negSucc 2147483647, .ofNat 2147483647))]),
  (1, 0, 7, 7, [(7, (0, .negSucc 2147483647, .ofNat 2147483647))]),
  (1, 0, 8, 8, [(8, (0, .negSucc 2147483647, .ofNat 2147483647))]),
  (1, 0, 8, 8, [(8, (0, .ofNat 0, .ofNat 6))]),
  (1, 0, 8, 8, [(8, (0, .ofNat 0, .ofNat 6))]),
  (0, 5, 5, 5, [(1, (2, .ofNat 27, .ofNat 0)), (2, (2, .ofNat 28, .ofNat 0)), (3, (2, .ofNat 29, .ofNat 0)), (4, (2, .ofNat 30, .ofNat 0)), (5, (0, .negSucc 2147483647, .ofNat 2147483647))]),
  (1, 0, 7, 7, [(7, (0, .ofNat 0, .ofNat 6))]),
  (1, 0, 7, 7, [(7, (0, .negSucc 2147483647, .ofNat 2147483647))]),
  (1, 0, 7, 7, [(7, (0, .negSucc 2147483647, .ofNat 2147483647))]),
  (1, 0, 7, 7, [(7, (0, .negSucc 2147483647, .ofNat 2147483647))]),
  (0, 7, 3, 3, [(1, (2, .ofNat 32, .ofNat 0)), (2, (0, .ofNat 0, .ofNat 19)), (3, (0, .ofNat 0, .ofNat 20))]),
  (1, 6, 20, 20, [(20, (2, .ofNat 26, .ofNat 0))]),
  (0, 4, 2, 2, [(1, (2, .ofNat 34, .ofNat 0)), (2, (2, .ofNat 35, .ofNat 0))]),
  (1, 2, 12, 12, [(12, (1, .ofNat 0, .ofNat 0))]),
  (1, 2, 64, 64, [(64, (1, .ofNat 0, .ofNat 0))]),
  (0, 6, 6, 6, [(1, (2, .ofNat 37, .ofNat 0)), (2, (2, .ofNat 38, .ofNat 0)), (3, (2, .ofNat 39, .ofNat 0)), (4, (3, .ofNat 20, .ofNat 0)), (5, (3, .ofNat 26, .ofNat 0)), (6, (0, .negSucc 2147483647, .ofNat 2147483647))]),
  (1, 0, 7, 7, [(7, (0, .negSucc 2147483647, .ofNat 2147483647))]),
  (1, 0, 128, 128, [(128, (0, .negSucc 2147483647, .ofNat 2147483647))]),
  (1, 7, 8, 8, [(8, (2, .ofNat 40, .ofNat 0))]),
  (1, 0, 7, 7, [(7, (0, .negSucc 2147483647, .ofNat 2147483647))]),
  (0, 0, 6, 6, [(1, (2, .ofNat 26, .ofNat 0)), (2, (0, .ofNat 0, .ofNat 7)), (3, (0, .ofNat 0, .ofNat 6)), (4, (0, .ofNat 0, .ofNat 6)), (5, (0, .negSucc 2147483647, .ofNat 2147483647)), (6, (0, .negSucc 2147483647, .ofNat 2147483647))]),
  (1, 0, 49, 49, [(49, (0, .negSucc 2147483647, .ofNat 2147483647))]),
  (0, 12, 42, 42, [(1, (2, .ofNat 44, .ofNat 0)), (2, (0, .ofNat 0, .ofNat 400)), (3, (0, .ofNat 0, .ofNat 6)), (4, (2, .ofNat 45, .ofNat 0)), (5, (2, .ofNat 46, .ofNat 0)), (6, (2, .ofNat 47, .ofNat 0)), (7, (2, .ofNat 48, .ofNat 0)), (8, (2, .ofNat 49, .ofNat 0)), (9, (0, .ofNat 0, .ofNat 401)), (10, (0, .negSucc 2147483647, .ofNat 2147483647)), (11, (0, .negSucc 2147483647, .ofNat 2147483647)), (12, (0, .ofNat 0, .ofNat 6)), (13, (0, .ofNat 0, .ofNat 60)), (14, (0, .negSucc 2147483647, .ofNat 2147483647)), (15, (0, .ofNat 0, .ofNat 40)), (16, (2, .ofNat 50, .ofNat 0)), (17, (0, .ofNat 0, .ofNat 400)), (18, (2, .ofNat 51, .ofNat 0)), (19, (0, .ofNat 0, .ofNat 64)), (20, (2, .ofNat 52, .ofNat 0)), (21, (2, .ofNat 53, .ofNat 0)), (22, (0, .negSucc 0, .ofNat 5)), (23, (0, .ofNat 0, .ofNat 2147483647)), (24, (0, .negSucc 2147483647, .ofNat 2147483647)), (25, (2, .ofNat 54, .ofNat 0)), (26, (0, .ofNat 0, .ofNat 20)), (27, (2, .ofNat 55, .ofNat 0)), (28, (2, .ofNat 56, .ofNat 0)), (29, (2, .ofNat 57, .ofNat 0)), (30, (0, .negSucc 2147483647, .ofNat 2147483647)), (31, (0, .negSucc 2147483647, .ofNat 2147483647)), (32, (2, .ofNat 58, .ofNat 0)), (33, (2, .ofNat 59, .ofNat 0)), (34, (2, .ofNat 60, .ofNat 0)), (35, (0, .negSucc 0, .ofNat 49)), (36, (2, .ofNat 61, .ofNat 0)), (37, (2, .ofNat 62, .ofNat 0)), (38, (1, .ofNat 0, .ofNat 0)), (39, (2, .ofNat 63, .ofNat 0)), (40, (2, .ofNat 64, .ofNat 0)), (41, (2, .ofNat 65, .ofNat 0)), (42, (2, .ofNat 66, .ofNat 0))]),
  (1, 1, 400, 400, [(400, (0, .negSucc 127, .ofNat 127))]),
  (1, 0, 2400, 2400, [(2400, (0, .negSucc 2147483647, .ofNat 2147483647))]),
  (1, 0, 7, 7, [(7, (0, .ofNat 0, .ofNat 400))]),
  (1, 0, 288, 288, [(288, (0, .negSucc 0, .ofNat 400))]),
  (1, 0, 6, 6, [(6, (0, .ofNat 0, .ofNat 12))]),
  (1, 0, 77, 77, [(1, (0, .ofNat 0, .ofNat 1)), (2, (0, .ofNat 0, .ofNat 30)), (3, (0, .ofNat 0, .ofNat 9)), (4, (0, .ofNat 0, .ofNat 7)), (5, (0, .ofNat 0, .ofNat 8)), (39, (0, .ofNat 0, .ofNat 0)), (53, (0, .ofNat 0, .ofNat 20)), (77, (0, .ofNat 0, .ofNat 99999))]),
  (1, 0, 400, 400, [(400, (0, .negSucc 2147483647, .ofNat 2147483647))]),
  (1, 2, 64, 64, [(64, (1, .ofNat 0, .ofNat 0))]),
  (1, 2, 12, 12, [(12, (1, .ofNat 0, .ofNat 0))]),
  (1, 0, 108, 108, [(108, (0, .negSucc 2147483647, .ofNat 2147483647))]),
  (1, 0, 580, 580, [(580, (0, .negSucc 2147483647, .ofNat 2147483647))]),
  (1, 0, 29, 29, [(29, (0, .negSucc 2147483647, .ofNat 2147483647))]),
  (1, 0, 8, 8, [(8, (0, .negSucc 0, .ofNat 7))]),
  (1, 0, 7, 7, [(7, (0, .negSucc 2147483647, .ofNat 2147483647))]),
  (1, 0, 4, 4, [(4, (0, .negSucc 0, .ofNat 49))]),
  (1, 0, 4, 4, [(4, (0, .negSucc 2147483647, .ofNat 2147483647))]),
  (1, 3, 4, 4, [(4, (0, .ofNat 0, .ofNat 1))]),
  (1, 3, 7, 7, [(7, (0, .ofNat 0, .ofNat 1))]),
  (1, 0, 49, 49, [(49, (0, .negSucc 2147483647, .ofNat 2147483647))]),
  (1, 0, 432, 432, [(432, (0, .negSucc 2147483647, .ofNat 2147483647))]),
  (1, 0, 4, 4, [(4, (0, .negSucc 0, .ofNat 5))]),
  (1, 0, 4, 4, [(4, (0, .ofNat 0, .ofNat 2147483647))]),
  (1, 3, 4, 4, [(4, (0, .ofNat 0, .ofNat 1))]),
  (1, 0, 0, 3072, [(3072, (0, .negSucc 2147483647, .ofNat 2147483647))])]
def sxE0 : sxS := ([], [], 0, [], [], [], [])
def sxSL : List Nat := [5, 6, 3, 4, 72, 2]
def sxRL : List (String × Nat × String × Nat) := [(RX2, 40, "house", 0), (RX2, 46, "lodger", 1), (RX2, 48, "mix", 2), (RX9, 58, "fold", 3), (RX9, 102, "one   other grade gradeowants wantsoworn  worno home  lets  was   week  ", 4), (RX9, 68, "if", 5), (RX9, 86, "not", 2), (RX9, 84, "and", 2), (RX9, 76, "or", 5)]
def ST (k v n : Nat) (A : Nat → Prop) (U : State) (H : Heap) : Prop := va_O "java/lang/String" k A U H ∧ va_OF "java/lang/String" "coder" "B" (.int 0) k A U H ∧ va_OF "java/lang/String" "value" "[B" (.ref v) k A U H ∧ (∃ f : Nat → Int32, va_T .byte v n (fun j => .int (f j)) A U H) ∧ va_Z "java/lang/String" "COMPACT_STRINGS" "Z" (.int 1) A U H ∧ va_Zq "jdk/internal/util/Preconditions" "SIOOBE_FORMATTER" "Ljava/util/function/BiFunction;" A U H
theorem ST.to {k v n : Nat} {A B : Nat → Prop} {u U : State} {H H1 : Heap} (hvm : u.vm.Alike U.vm) (hq : ∀ a : Nat, a < H.size → ¬ A a → H1[a]? = H[a]?) (hAB : ∀ q, B q → A q) (h : ST k v n A u H) : ST k v n B U H1 := by
  obtain ⟨h1, h2, h3, ⟨f, h4⟩, h5, h6⟩ := h
  exact ⟨((h1.kept hq).narrow hAB).moved hvm, ((h2.kept hq).narrow hAB).moved hvm, ((h3.kept hq).narrow hAB).moved hvm, ⟨f, ((h4.kept hq).narrow hAB).moved hvm⟩, ((h5.kept hq).narrow hAB).moved hvm, ((h6.kept hq).narrow hAB).moved hvm⟩
/-- the Strings -/
def sxTK (τ : Nat → Option Nat) (ws : va_W) (U : State) : Prop := (∀ a r, τ a = some r → sxRT.length ≤ r → ∃ v n, sxSL[r - sxRT.length]? = some n ∧ ST a v n (va_A ws U.heap.size) U U.heap) ∧ (∀ q ∈ sxRL, ∃ a, vk_R q.1 q.2.1 q.2.2.1 a U ∧ τ a = some (sxRT.length + q.2.2.2)) ∧ va_Nw (.castable "[I" "java/lang/Cloneable") U
theorem sxTK_ok : sx_TKok sxTK := by
  refine ⟨fun τ ws a U g mk h => ⟨fun x r hx hr => ?_, fun q hq => ?_, h.2.2.same rfl rfl⟩, fun τ ws s h ws' H locs hD hS U hU hW => ⟨fun x r hx hr => ?_, fun q hq => ?_, va_Nw.warmC hW h.2.2⟩⟩
  · obtain ⟨v, n, e1, e2⟩ := h.1 x r hx hr
    exact ⟨v, n, e1, e2.to (u := U) (U := U.calling g mk a) (Vm.Alike.refl U.vm) (fun _ _ _ => rfl) (fun _ h => h)⟩
  · obtain ⟨x, e1, e2⟩ := h.2.1 q hq
    exact ⟨x, e1.same rfl, e2⟩
  · obtain ⟨v, n, e1, e2⟩ := h.1 x r hx hr
    refine ⟨v, n, e1, ?_⟩
    rw [hU]
    refine e2.to hW.alike (fun a ha hn => hS.2.1 a ha hn) (fun q hq => ?_)
    rcases hq with ⟨k, e', hq⟩ | hq
    · exact hD.2 k _ hq
    · exact Or.inr (Nat.le_trans hS.1 hq)
  · obtain ⟨x, e1, e2⟩ := h.2.1 q hq
    exact ⟨x, e1.warm hW, e2⟩
theorem sxTK2 {own : String} {ks : List (Nat × Nat)} (hk : ∀ q ∈ ks, ∃ tx, (own, q.1, tx, q.2) ∈ sxRL) : ∀ τ ws (s : State), sxTK τ ws s → (∀ H locs, va_S (va_A ws s.heap.size) s.heap H locs → ∀ a r, τ a = some r → sxRT.length ≤ r → ∃ cell : Cell, H[a]? = some cell ∧ cell.vm.isStatics = false ∧ s.vm.findClass "java/lang/String" = some cell.cls) ∧ ∀ q ∈ ks, ∃ a tx, vk_R own q.1 tx a s ∧ τ a = some (sxRT.length + q.2) := by
  intro τ ws s h
  refine ⟨fun H locs hS a r ha hr => ?_, fun q hq => ?_⟩
  · obtain ⟨v, n, e1, e2⟩ := h.1 a r ha hr
    obtain ⟨cell, h1, h2, h3, -⟩ := e2.1.kept hS.2.1
    exact ⟨cell, h1, h2, h3⟩
  · obtain ⟨tx, hm⟩ := hk q hq
    obtain ⟨x, e1, e2⟩ := h.2.1 _ hm
    exact ⟨x, tx, e1, e2⟩
theorem sxksJ6_ok : ∀ q ∈ sxksJ6, ∃ tx, (RJ6, q.1, tx, q.2) ∈ sxRL := sx_nil
theorem sxksJ7_ok : ∀ q ∈ sxksJ7, ∃ tx, (RJ7, q.1, tx, q.2) ∈ sxRL := sx_nil
theorem sxksL_ok : ∀ q ∈ sxksL, ∃ tx, (RL, q.1, tx, q.2) ∈ sxRL := sx_nil
theorem sxksX0_ok : ∀ q ∈ sxksX0, ∃ tx, (RX0, q.1, tx, q.2) ∈ sxRL := sx_nil
theorem sxksX1_ok : ∀ q ∈ sxksX1, ∃ tx, (RX1, q.1, tx, q.2) ∈ sxRL := sx_nil
theorem sxksX2_ok : ∀ q ∈ sxksX2, ∃ tx, (RX2, q.1, tx, q.2) ∈ sxRL := (sx_cons ⟨"house", by decide⟩ (sx_cons ⟨"lodger", by decide⟩ (sx_cons ⟨"mix", by decide⟩ sx_nil)))
theorem sxksX3_ok : ∀ q ∈ sxksX3, ∃ tx, (RX3, q.1, tx, q.2) ∈ sxRL := sx_nil
theorem sxksX4_ok : ∀ q ∈ sxksX4, ∃ tx, (RX4, q.1, tx, q.2) ∈ sxRL := sx_nil
theorem sxksX5_ok : ∀ q ∈ sxksX5, ∃ tx, (RX5, q.1, tx, q.2) ∈ sxRL := sx_nil
theorem sxksX6_ok : ∀ q ∈ sxksX6, ∃ tx, (RX6, q.1, tx, q.2) ∈ sxRL := sx_nil
theorem sxksX7_ok : ∀ q ∈ sxksX7, ∃ tx, (RX7, q.1, tx, q.2) ∈ sxRL := sx_nil
theorem sxksX8_ok : ∀ q ∈ sxksX8, ∃ tx, (RX8, q.1, tx, q.2) ∈ sxRL := sx_nil
theorem sxksX9_ok : ∀ q ∈ sxksX9, ∃ tx, (RX9, q.1, tx, q.2) ∈ sxRL := (sx_cons ⟨"fold", by decide⟩ (sx_cons ⟨"if", by decide⟩ (sx_cons ⟨"or", by decide⟩ (sx_cons ⟨"and", by decide⟩ (sx_cons ⟨"not", by decide⟩ (sx_cons ⟨"one   other grade gradeowants wantsoworn  worno home  lets  was   week  ", by decide⟩ sx_nil))))))
theorem sxksX10_ok : ∀ q ∈ sxksX10, ∃ tx, (RX10, q.1, tx, q.2) ∈ sxRL := sx_nil
theorem sxksX11_ok : ∀ q ∈ sxksX11, ∃ tx, (RX11, q.1, tx, q.2) ∈ sxRL := sx_nil
theorem sxksX12_ok : ∀ q ∈ sxksX12, ∃ tx, (RX12, q.1, tx, q.2) ∈ sxRL := sx_nil
