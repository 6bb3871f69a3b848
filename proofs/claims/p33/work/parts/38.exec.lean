/-! a checker of walks: the checker -/
/-- what a remark says: (where, kind, which), names given, a pattern with locals, stack, measure -/
abbrev sxJ : Type := (Nat × Nat × Nat) × (List sxT × List Nat × List Nat) × (sxS × List (Nat × sxA) × List sxA × sxL)
/-- a place that is waited for: (where, a loop?), the names ahead of it, its pattern -/
abbrev sxB : Type := (Nat × Bool) × (Nat × Nat × Nat) × (sxS × List (Nat × sxA) × List sxA × sxL)
/-- a method's tables: code; fields read, written; calls; constants; what may change; ends; answer's kind; names of the start; room -/
abbrev sxH : Type := List (Nat × Instr × Nat) × List (Nat × Nat × Nat) × List (Nat × Nat × Nat × Nat) × List (Nat × Nat × Nat × Nat × Nat) × (List (Nat × Int) × List (Nat × Int) × List (Nat × Nat)) × (Nat × sxK × List (sxS × Option sxA) × Nat) × (Nat × Nat × Nat) × (Nat × Nat)
def sx_find {α : Type} : List (Nat × α) → Nat → Option α
  | [], _ => none
  | q :: l, i => if Nat.beq q.1 i then some q.2 else sx_find l i
theorem sx_find_mem {α : Type} : ∀ {l : List (Nat × α)} {i : Nat} {a : α}, sx_find l i = some a → (i, a) ∈ l
  | q :: l, i, a, h => by
    unfold sx_find at h
    split at h
    · rename_i hq
      have hq : q.1 = i := Nat.eq_of_beq_eq_true hq
      cases h
      subst hq
      exact List.mem_cons_self
    · exact List.mem_cons_of_mem _ (sx_find_mem h)
def sx_newr0 (S : sxS) (r : Nat) : sxS := (S.1, S.2.1 ++ [r], S.2.2.1, S.2.2.2.1, S.2.2.2.2.1, S.2.2.2.2.2.1, S.2.2.2.2.2.2)
def sx_forget (S : sxS) (K : sxK) : sxS := (S.1, S.2.1, S.2.2.1, S.2.2.2.1, S.2.2.2.2.1, S.2.2.2.2.2.1.filter (sx_keep S K), S.2.2.2.2.2.2.filter (sx_keepc S K))
/-- System.arraycopy of ints from place 0 to place 0 -/
def sx_acp (RT : List sxG) (M : sxK) (lo : Nat) (S : sxS) (st : List sxA) : Option (sxS × List sxA) := match st with
  | (0, n) :: (0, dp) :: (2, r1, _) :: (0, sp) :: (2, r0, _) :: rest => match S.2.1[r0]?, S.2.1[r1]? with
    | some R0, some R1 => (match RT[R0]?, RT[R1]? with
      | some G0, some G1 => (match sx_hull G0.2.2.2.2 0 (n.2 - 1) with
        | some q => if Nat.beq n.1 0 && Nat.beq dp.1 0 && Nat.beq sp.1 0 && sx_le 0 dp.2 && sx_le dp.2 0 && sx_le 0 sp.2 && sx_le sp.2 0 && sx_le 1 n.2 && sx_le n.2 2147483647 && Nat.beq G0.1 1 && Nat.beq G1.1 1 && Nat.beq G0.2.1 0 && Nat.beq G1.2.1 0 && sx_le n.2 (G0.2.2.1 : Int) && sx_le n.2 (G1.2.2.1 : Int) && Nat.beq q.1 0 && sx_segall (fun q' => Nat.beq q'.1 0 && sx_le q'.2.1 q.2.1 && sx_le q.2.2 q'.2.2) G1.2.2.2.2 0 (n.2 - 1) && sx_mods M R1 0 (n.2 - 1) && Nat.ble ((rest.map fun v => if Nat.beq v.1 1 then 2 else 1).sum + (nativeFrameWords "java/lang/System" "arraycopy" 5 + 11)) lo then some (sx_forget S [(R1, 0, n.2.toNat)], rest) else none
        | none => none)
      | _, _ => none)
    | _, _ => none
  | _ => none
/-- locals and stack are as a pattern's -/
def sx_same (f : Nat → sxT) (g : Nat → Nat) (loc : List (Nat × sxA)) (st : List sxA) (loc' : List (Nat × sxA)) (st' : List sxA) : Bool := loc'.all (fun q => loc.any (fun r => decide (r = (q.1, sb_A f g q.2)))) && decide (st = st'.map (sb_A f g))
def sx_wfb (n k : Nat) (loc : List (Nat × sxA)) (st : List sxA) : Bool := loc.all (fun q => sx_bA n k q.2) && st.all (sx_bA n k)
/-- a pattern is reached -/
def sx_arr (S : sxS) (loc : List (Nat × sxA)) (st : List sxA) (n k c : Nat) (ts : List sxT) (rs cs : List Nat) (D : sxS) (loc' : List (Nat × sxA)) (st' : List sxA) : Bool := sx_ent S (sx_f1 n ts) (sx_g1 k rs) (sx_g1 c cs) n k D && sx_same (sx_f1 n ts) (sx_g1 k rs) loc st loc' st'
def sx_each {α : Type} (f : α → List sxJ → Option (List sxJ)) : List α → List sxJ → Option (List sxJ)
  | [], its => some its
  | a :: l, its => match f a its with
    | some its' => sx_each f l its'
    | none => none
/-- a row of values for a split -/
def sx_vals (S : sxS) (x : Nat) : Nat → Int → List sxS
  | 0, _ => []
  | n + 1, v => (match sx_brf S .eq (x, 0) (0, v) with
    | some S' => [S']
    | none => []) ++ sx_vals S x n (v + 1)
/-- what an instruction is -/
def sx_kind (i : Instr) : Nat := match i with
  | .aload _ => 1
  | .aload_n _ => 1
  | .iload _ => 1
  | .iload_n _ => 1
  | .lload _ => 1
  | .lload_n _ => 1
  | .astore _ => 2
  | .astore_n _ => 2
  | .istore _ => 2
  | .istore_n _ => 2
  | .lstore _ => 2
  | .lstore_n _ => 2
  | .iinc _ _ => 3
  | .getfield _ => 4
  | .putfield _ => 5
  | .iaload => 6
  | .baload => 6
  | .laload => 6
  | .aaload => 6
  | .iastore => 7
  | .bastore => 7
  | .lastore => 7
  | .arraylength => 8
  | .goto _ => 9
  | .ifCond _ _ => 9
  | .if_icmp _ _ => 9
  | .ifnull _ => 9
  | .ifnonnull _ => 9
  | .tableswitch _ _ _ _ => 9
  | .lookupswitch _ _ => 9
  | .ldc _ => 10
  | .ldc_w _ => 10
  | .ldc2_w _ => 10
  | .invokevirtual _ => 11
  | .invokestatic _ => 11
  | .ireturn => 12
  | .lreturn => 12
  | .areturn => 12
  | .return_ => 12
  | _ => 0
def sx_const (RT : List sxG) (h : sxH) (S : sxS) (i : Instr) (st : List sxA) : Option (sxS × List sxA) := match i with
  | .ldc ix => (match sx_find h.2.2.2.2.1.1 ix with
    | some v => some (S, (0, 0, v) :: st)
    | none => match sx_find h.2.2.2.2.1.2.2 ix with
      | some k => some (sx_newr0 S (RT.length + k), (2, S.2.1.length, 0) :: st)
      | none => none)
  | .ldc_w ix => (match sx_find h.2.2.2.2.1.1 ix with
    | some v => some (S, (0, 0, v) :: st)
    | none => none)
  | .ldc2_w ix => (match sx_find h.2.2.2.2.1.2.1 ix with
    | some v => some (S, (1, 0, v) :: st)
    | none => none)
  | _ => none
/-- a return: the end that is reached -/
def sx_retok (rc : Nat) (S : sxS) (i : Instr) (st : List sxA) : Bool := match i, st with
  | .return_, [] => Nat.beq rc 4
  | .ireturn, [(0, t)] => Nat.beq rc 0 || (Nat.beq rc 1 && (match sx_iv S.1 t with
    | some w => sx_le 0 w.1 && sx_le w.2 1
    | none => false))
  | .lreturn, [(1, _)] => Nat.beq rc 2
  | .areturn, [(2, _)] => Nat.beq rc 3
  | .areturn, [(3, _)] => Nat.beq rc 3
  | _, _ => false
def sx_doret (h : sxH) (S : sxS) (i : Instr) (st : List sxA) (j : sxJ) : Bool := match h.2.2.2.2.2.1.2.2.1[j.1.2.2]? with
  | some E => sx_ent S (sx_f1 h.2.2.2.2.2.2.1.1 j.2.1.1) (sx_g1 h.2.2.2.2.2.2.1.2.1 j.2.1.2.1) (sx_g1 h.2.2.2.2.2.2.1.2.2 j.2.1.2.2) h.2.2.2.2.2.2.1.1 h.2.2.2.2.2.2.1.2.1 E.1 && decide (st = (E.2.map (sb_A (sx_f1 h.2.2.2.2.2.2.1.1 j.2.1.1) (sx_g1 h.2.2.2.2.2.2.1.2.1 j.2.1.2.1))).toList) && sx_retok h.2.2.2.2.2.1.2.2.2 S i st
  | none => false
/-- what a call's receiver, and the number of its arguments, must be -/
def sx_rcvb (RT : List sxG) (S : sxS) (i : Instr) (c : Nat × Nat × Nat × Nat) (as : List sxA) : Bool := match c.1, i with
  | 0, .invokevirtual _ => (match as with
    | (2, r, _) :: l => (match sx_reg RT S r with
      | some G => Nat.beq G.1 0 && Nat.beq G.2.1 c.2.2.1 && Nat.beq l.length (c.2.2.2 % 64)
      | none => false)
    | _ => false)
  | 1, .invokestatic _ => Nat.beq as.length (c.2.2.2 % 64)
  | 2, .invokestatic _ => Nat.beq as.length (c.2.2.2 % 64)
  | 3, .invokevirtual _ => (match as with
    | (2, r, _) :: l => (match S.2.1[r]? with
      | some R => Nat.ble RT.length R && Nat.beq l.length (c.2.2.2 % 64)
      | none => false)
    | _ => false)
  | _, _ => false
/-- a call by a contract: the states behind it -/
def sx_docall (RT : List sxG) (CT : List sxI) (h : sxH) (S : sxS) (i : Instr) (st : List sxA) (j : sxJ) : Option (List (sxS × List sxA)) := match CT[j.1.2.2]? with
  | some I => (match (match i with
      | .invokevirtual ix => sx_find h.2.2.2.1 ix
      | .invokestatic ix => sx_find h.2.2.2.1 ix
      | _ => none) with
    | some c => (match (I.2.2.2.1.map (sb_A (sx_f0 j.2.1.1) (sx_g0 j.2.1.2.1))) with
      | as => if Nat.beq c.2.1 I.1 && sx_pre S I j.2.1.1 j.2.1.2.1 j.2.1.2.2 && decide (st = as.reverse ++ st.drop as.length) && Nat.ble ((st.drop as.length).map fun v => if Nat.beq v.1 1 then 2 else 1).sum 8 && Nat.ble (I.2.1.1 + 1) h.2.2.2.2.2.2.2.1 && Nat.ble (8 + (c.2.2.2 / 64 + 11) + I.2.1.2) h.2.2.2.2.2.2.2.2 && I.2.2.2.2.1.all (fun q => sx_mods h.2.2.2.2.2.1.2.1 q.1 (q.2.1 : Int) ((q.2.2 : Int) - 1)) && I.2.2.2.2.2.all (fun E => sx_bD (I.2.2.1.1.length + E.1.1.length) (I.2.2.1.2.1.length + E.1.2.1.length) (I.2.2.1.2.2.1 + E.1.2.2.1) E.1 && (match E.2 with
            | some a => sx_bA (I.2.2.1.1.length + E.1.1.length) (I.2.2.1.2.1.length + E.1.2.1.length) a
            | none => true)) && sx_rcvb RT S i c as then some (I.2.2.2.2.2.map (fun E => (sx_post S I j.2.1.1 j.2.1.2.1 j.2.1.2.2 E.1, (sx_postr S I j.2.1.1 j.2.1.2.1 E.2).toList ++ st.drop as.length))) else none)
    | none => none)
  | none => none
def sx_isac (h : sxH) (i : Instr) : Bool := match i with
  | .invokestatic ix => (match sx_find h.2.2.2.1 ix with
    | some c => Nat.beq c.1 9
    | none => false)
  | _ => false
/-- Math.max (true), Math.min (false) -/
def sx_ismm (h : sxH) (i : Instr) : Option (Nat × Bool) := match i with
  | .invokestatic ix => (match sx_find h.2.2.2.1 ix with
    | some c => if Nat.beq c.1 7 then some (ix, true) else if Nat.beq c.1 8 then some (ix, false) else none
    | none => none)
  | _ => none
def sx_o1 (o : Option sxS) (st : List sxA) : List (sxS × List sxA) := match o with
  | some S => [(S, st)]
  | none => []
def sx_mm (lo : Nat) (mx : Bool) (S : sxS) (st : List sxA) : Option (List (sxS × List sxA)) := match st with
  | (0, y) :: (0, x) :: r => (match sx_iv S.1 x, sx_iv S.1 y with
    | some w, some v => if sx_in32 w.1 w.2 && sx_in32 v.1 v.2 && Nat.ble ((r.map fun v => if Nat.beq v.1 1 then 2 else 1).sum + 13) lo then some (sx_o1 (sx_brf S .lt x y) ((0, if mx then y else x) :: r) ++ sx_o1 (sx_brf S .ge x y) ((0, if mx then x else y) :: r)) else none
    | _, _ => none)
  | _ => none
/-- a lemma of numbers and contents: the state behind it -/
def sx_dolem (LT : List (sxS × sxS)) (S : sxS) (j : sxJ) : Option sxS := match LT[j.1.2.2]? with
  | some L => if sx_ent S (sx_f0 j.2.1.1) (sx_g0 []) (sx_g0 j.2.1.2.2) 0 0 L.1 && Nat.beq j.2.1.1.length L.1.1.length && Nat.beq j.2.1.2.2.length L.1.2.2.1 && j.2.1.1.all (fun t => Nat.blt t.1 S.1.length) && j.2.1.2.2.all (fun r => Nat.blt r S.2.2.1) && L.1.2.1.isEmpty && L.2.2.1.isEmpty && L.1.2.2.2.2.2.1.isEmpty && L.1.2.2.2.2.2.2.isEmpty && L.2.2.2.2.2.2.1.isEmpty && L.2.2.2.2.2.2.2.isEmpty && sx_bD (L.1.1.length + L.2.1.length) 0 (L.1.2.2.1 + L.2.2.2.1) L.2 then some (sx_app S [] (sx_f2 L.1.1.length j.2.1.1 S.1.length) (sx_g2 0 [] S.2.1.length) (sx_g2 L.1.2.2.1 j.2.1.2.2 S.2.2.1) L.2) else none
  | none => none
def sx_cmi (RT : List sxG) (S : sxS) (r lo hi : Nat) : Option sxS := match sx_reg RT S r with
  | some G => if Nat.beq G.1 1 then some (S.1, S.2.1, S.2.2.1 + 1, S.2.2.2.1, S.2.2.2.2.1, S.2.2.2.2.2.1, (r, (lo, hi), S.2.2.1) :: S.2.2.2.2.2.2) else none
  | none => none
/-- a number that may have gone round gets a name of its own: the stack's top, or a local -/
def sx_norm (nL a : Nat) (S : sxS) (loc : List (Nat × sxA)) (st : List sxA) : Option (sxS × List (Nat × sxA) × List sxA) := match a with
  | 0 => (match st with
    | (0, _) :: r => some (sx_new S sx_full [] [], loc, (0, S.1.length, 0) :: r)
    | _ => none)
  | k + 1 => (match sx_lk loc k with
    | some (0, _) => if Nat.blt k nL then some (sx_new S sx_full [] [], (k, (0, S.1.length, 0)) :: loc.filter (fun q => !(q.1 == k)), st) else none
    | _ => none)
/-- one instruction that doesn't call or end: the states behind it -/
def sx_step (RT : List sxG) (h : sxH) (pc : Nat) (i : Instr) (len : Nat) (S : sxS) (loc : List (Nat × sxA)) (st : List sxA) : Option (List (sxS × List (Nat × sxA) × List sxA × Nat)) := match sx_kind i with
  | 0 => (match sx_pure S i st with
    | some o => some [(o.1, loc, o.2, pc + len)]
    | none => none)
  | 1 => (match sx_load i loc with
    | some a => some [(S, loc, a :: st, pc + len)]
    | none => none)
  | 2 => (match st with
    | a :: r => (match sx_store h.2.2.2.2.2.1.1 i loc a with
      | some loc' => some [(S, loc', r, pc + len)]
      | none => none)
    | [] => none)
  | 3 => (match i with
    | .iinc k n => (match sx_iinc h.2.2.2.2.2.1.1 k n loc with
      | some loc' => some [(S, loc', st, pc + len)]
      | none => none)
    | _ => none)
  | 4 => (match i with
    | .getfield ix => (match sx_find h.2.1 ix with
      | some q => (match sx_getf RT q.1 q.2 S st with
        | some O => some (O.map (fun o => (o.1, loc, o.2, pc + len)))
        | none => none)
      | none => none)
    | _ => none)
  | 5 => (match i with
    | .putfield ix => (match sx_find h.2.2.1 ix with
      | some q => (match sx_putf RT h.2.2.2.2.2.1.2.1 q.1 q.2.1 q.2.2 S st with
        | some o => some [(o.1, loc, o.2, pc + len)]
        | none => none)
      | none => none)
    | _ => none)
  | 6 => (match sx_ald RT i S st with
    | some O => some (O.map (fun o => (o.1, loc, o.2, pc + len)))
    | none => none)
  | 7 => (match sx_ast RT h.2.2.2.2.2.1.2.1 i S st with
    | some o => some [(o.1, loc, o.2, pc + len)]
    | none => none)
  | 8 => (match sx_alen RT S st with
    | some O => some (O.map (fun o => (o.1, loc, o.2, pc + len)))
    | none => none)
  | 9 => (match sx_br pc i S st with
    | some O => some (O.map (fun o => (o.1, loc, o.2.1, o.2.2)))
    | none => none)
  | 10 => (match sx_const RT h S i st with
    | some o => some [(o.1, loc, o.2, pc + len)]
    | none => none)
  | 11 => if sx_isac h i then (match sx_acp RT h.2.2.2.2.2.1.2.1 h.2.2.2.2.2.2.2.2 S st with
    | some o => some [(o.1, loc, o.2, pc + len)]
    | none => none) else (match sx_ismm h i with
    | some q => (match sx_mm h.2.2.2.2.2.2.2.2 q.2 S st with
      | some O => some (O.map (fun o => (o.1, loc, o.2, pc + len)))
      | none => none)
    | none => none)
  | _ => none
/-- of a list, what a mask leaves -/
def sx_mask {α : Type} : List Nat → List α → List α
  | [], _ => []
  | _, [] => []
  | 0 :: m, _ :: l => sx_mask m l
  | _ :: m, f :: l => f :: sx_mask m l
def sx_drop (S : sxS) (m q : List Nat) : sxS := (S.1, S.2.1, S.2.2.1, sx_mask m S.2.2.2.1, sx_mask q S.2.2.2.2.1, S.2.2.2.2.2)
theorem sx_mask_mem {α : Type} : ∀ (m : List Nat) (l : List α), ∀ f ∈ sx_mask m l, f ∈ l
  | [], _, f, h => by cases h
  | _ :: _, [], f, h => by cases h
  | 0 :: m, a :: l, f, h => List.mem_cons_of_mem _ (sx_mask_mem m l f h)
  | (n + 1) :: m, a :: l, f, h => by
    rcases List.mem_cons.mp h with rfl | h
    · exact List.mem_cons_self
    · exact List.mem_cons_of_mem _ (sx_mask_mem m l f h)
def sx_exec (RT : List sxG) (CT : List sxI) (LT : List (sxS × sxS)) (h : sxH) : Nat → Nat → sxS → List (Nat × sxA) → List sxA → List sxB → List sxJ → Option (List sxJ)
  | 0, _, _, _, _, _, _ => none
  | n + 1, pc, S, loc, st, act, its =>
    let go := fun (its : List sxJ) => match sx_find h.1 pc with
      | none => none
      | some q => match sx_step RT h pc q.1 q.2 S loc st with
        | some O => sx_each (fun o its => sx_exec RT CT LT h n o.2.2.2 o.1 o.2.1 o.2.2.1 act its) O its
        | none => match its with
          | [] => none
          | j :: its => if Nat.beq (sx_kind q.1) 12 then (if sx_doret h S q.1 st j then some its else none) else if Nat.beq (sx_kind q.1) 11 then (match sx_docall RT CT h S q.1 st j with
            | some O => sx_each (fun o its => sx_exec RT CT LT h n (pc + 3) o.1 loc o.2 act its) O its
            | none => none) else none
    match its with
    | [] => go []
    | j :: its' => if Nat.beq j.1.1 pc && Nat.blt j.1.2.1 10 then (match j.1.2.1 with
      | 0 => if sx_extb S j.2.2.1 && sx_wfb (S.1.length + j.2.2.1.1.length) (S.2.1.length + j.2.2.1.2.1.length) j.2.2.2.1 j.2.2.2.2.1 && j.2.2.2.2.2.1.all (fun q => Nat.blt q.1 (S.1.length + j.2.2.1.1.length)) && sx_arr S loc st S.1.length S.2.1.length S.2.2.1 j.2.1.1 j.2.1.2.1 j.2.1.2.2 j.2.2.1 j.2.2.2.1 j.2.2.2.2.1 then sx_exec RT CT LT h n pc (sx_ext S j.2.2.1) j.2.2.2.1 j.2.2.2.2.1 (((pc, true), (S.1.length, S.2.1.length, S.2.2.1), j.2.2) :: act) its' else none
      | 1 => if sx_extb S j.2.2.1 && sx_wfb (S.1.length + j.2.2.1.1.length) (S.2.1.length + j.2.2.1.2.1.length) j.2.2.2.1 j.2.2.2.2.1 then (match sx_exec RT CT LT h n j.1.2.2 (sx_ext S j.2.2.1) j.2.2.2.1 j.2.2.2.2.1 act its' with
        | some its2 => sx_exec RT CT LT h n pc S loc st (((j.1.2.2, false), (S.1.length, S.2.1.length, S.2.2.1), j.2.2) :: act) its2
        | none => none) else none
      | 2 => (match act[j.1.2.2]? with
        | some a => if Nat.beq a.1.1 pc && sx_arr S loc st a.2.1.1 a.2.1.2.1 a.2.1.2.2 j.2.1.1 j.2.1.2.1 j.2.1.2.2 a.2.2.1 a.2.2.2.1 a.2.2.2.2.1 && (!a.1.2 || (sx_prove S.1 S.2.2.2.1 (sb_L (sx_f1 a.2.1.1 j.2.1.1) a.2.2.2.2.2) && sx_prove S.1 S.2.2.2.1 (sx_sub (a.2.2.2.2.2.1, a.2.2.2.2.2.2 - 1) (sb_L (sx_f1 a.2.1.1 j.2.1.1) a.2.2.2.2.2)))) then some its' else none
        | none => none)
      | 3 => (match sx_dolem LT S j with
        | some S' => sx_exec RT CT LT h n pc S' loc st act its'
        | none => none)
      | 4 => (match S.1[j.1.2.2]? with
        | some e => sx_each (fun S' its => sx_exec RT CT LT h n pc S' loc st act its) (sx_vals S j.1.2.2 (e.2 - e.1 + 1).toNat e.1) its'
        | none => none)
      | 5 => (match j.2.1.2.1 with
        | [r, lo, hi] => (match sx_cmi RT S r lo hi with
          | some S' => sx_exec RT CT LT h n pc S' loc st act its'
          | none => none)
        | _ => none)
      | 6 => if sx_prove S.1 S.2.2.2.1 ([], -1) then some its' else none
      | 7 => if j.2.2.2.2.2.1.all (fun q => Nat.blt q.1 S.1.length) && sx_prove S.1 S.2.2.2.1 j.2.2.2.2.2 then (match sx_asm S j.2.2.2.2.2 with
        | some S' => sx_exec RT CT LT h n pc S' loc st act its'
        | none => some its') else none
      | 8 => (match sx_norm h.2.2.2.2.2.1.1 j.1.2.2 S loc st with
        | some o => sx_exec RT CT LT h n pc o.1 o.2.1 o.2.2 act its'
        | none => none)
      | 9 => sx_exec RT CT LT h n pc (sx_drop S j.2.1.2.1 j.2.1.2.2) loc st act its'
      | _ => none) else go its
