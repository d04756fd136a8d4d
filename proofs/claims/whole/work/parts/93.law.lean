/-! a LAW read: place, code, value for letters -/
abbrev lr_V := (Nat → Int) → Int
abbrev lr_Q := Nat × List Int × lr_V
abbrev lr_R := Nat ⊕ lr_Q
def lr_cl (x : Int) : Int := if 1000000 < x then 1000000 else if x < -1000000 then -1000000 else x
def lr_op (z x y : Int) : Int := if z = 42 then lr_cl (x * y) else if z = 43 then lr_cl (x + y) else if z = 45 then lr_cl (x - y) else if z = 47 then (if y = 0 then 0 else lr_cl (x.tdiv y)) else if z = 60 then (if x < y then 1 else 0) else if z = 61 then (if x = y then 1 else 0) else if z = 62 then (if y < x then 1 else 0) else if z = 38 then (if x = 0 ∨ y = 0 then 0 else 1) else (if x = 0 ∧ y = 0 then 0 else 1)
/-- the letters g c w t h a -/
def lr_ix (z : Int) : Int := if z = 103 then 0 else if z = 99 then 1 else if z = 119 then 2 else if z = 116 then 3 else if z = 104 then 4 else if z = 97 then 5 else -1
/-- a closing sign -/
def lr_cs (b : Nat → Int) (n : Nat) (z : Int) (R : lr_R) : lr_R := match R with
  | .inl e => .inl e
  | .inr q => if tp_l b n q.1 = z then .inr (tp_s b n q.1 + 1, q.2) else .inl (tp_s b n q.1)
def lr_atom (b : Nat → Int) (n : Nat) (I : Option (Nat → lr_R)) (a : Nat) : lr_R :=
  if lr_ix (tp_l b n a) ≠ -1 then .inr (tp_s b n a + 1, [10000 + lr_ix (tp_l b n a)], fun e => e (lr_ix (tp_l b n a)).toNat)
  else if tp_l b n a = 91 then (match I with | none => .inl (tp_s b n a) | some S => lr_cs b n 93 (S (tp_s b n a + 1)))
  else match tp_n b n 4 a with | .inl e => .inl e | .inr q => .inr (q.1, [q.2], fun _ => q.2)
/-- a chain: signs P between pieces A -/
def lr_lp (b : Nat → Int) (n : Nat) (P : Int → Bool) (A : Nat → lr_R) : Nat → lr_Q → lr_R
  | 0, q => .inl (tp_s b n q.1)
  | d + 1, q => if P (tp_l b n q.1) = true then (match A (tp_s b n q.1 + 1) with
      | .inl e => .inl e
      | .inr x => lr_lp b n P A d (x.1, q.2.1 ++ x.2.1 ++ [-(tp_l b n q.1)], fun e => lr_op (tp_l b n q.1) (q.2.2 e) (x.2.2 e)))
    else .inr (tp_s b n q.1, q.2)
def lr_ch (b : Nat → Int) (n : Nat) (P : Int → Bool) (A : Nat → lr_R) (a : Nat) : lr_R := match A a with
  | .inl e => .inl e
  | .inr q => lr_lp b n P A 241 q
def lr_pT (z : Int) : Bool := z == 42 || z == 47
def lr_pS (z : Int) : Bool := z == 43 || z == 45
def lr_pA (z : Int) : Bool := z == 38
def lr_pO (z : Int) : Bool := z == 124
def lr_pC (z : Int) : Bool := z == 61 || z == 60 || z == 62
def lr_sum (b : Nat → Int) (n : Nat) (I : Option (Nat → lr_R)) : Nat → lr_R := lr_ch b n lr_pS (lr_ch b n lr_pT (lr_atom b n I))
/-- a sum with k brackets to spare -/
def lr_S (b : Nat → Int) (n : Nat) : Nat → Nat → lr_R
  | 0 => lr_sum b n none
  | k + 1 => lr_sum b n (some (lr_S b n k))
/-- a comparison behind its left side -/
def lr_cm (b : Nat → Int) (n : Nat) (S : Nat → lr_R) (q : lr_Q) : lr_R :=
  if lr_pC (tp_l b n q.1) = true then (match S (tp_s b n q.1 + 1) with
    | .inl e => .inl e
    | .inr x => .inr (x.1, q.2.1 ++ x.2.1 ++ [-(tp_l b n q.1)], fun e => lr_op (tp_l b n q.1) (q.2.2 e) (x.2.2 e)))
  else .inl (tp_s b n q.1)
def lr_unit (b : Nat → Int) (n : Nat) (S : Nat → lr_R) (I : Option ((Nat → lr_R) × (Nat → lr_R))) (a : Nat) : lr_R :=
  if tp_l b n a = 33 then (match I with | none => .inl (tp_s b n a) | some J => (match J.1 (tp_s b n a + 1) with
    | .inl e => .inl e
    | .inr q => .inr (q.1, q.2.1 ++ [-33], fun e => 1 - q.2.2 e)))
  else if tp_l b n a = 40 then (match I with | none => .inl (tp_s b n a) | some J => lr_cs b n 41 (J.2 (tp_s b n a + 1)))
  else (match S a with | .inl e => .inl e | .inr q => lr_cm b n S q)
/-- unit and condition with k to spare -/
def lr_UC (b : Nat → Int) (n : Nat) : Nat → (Nat → lr_R) × (Nat → lr_R)
  | 0 => (lr_unit b n (lr_S b n 0) none, lr_ch b n lr_pO (lr_ch b n lr_pA (lr_unit b n (lr_S b n 0) none)))
  | k + 1 => (lr_unit b n (lr_S b n (k + 1)) (some (lr_UC b n k)), lr_ch b n lr_pO (lr_ch b n lr_pA (lr_unit b n (lr_S b n (k + 1)) (some (lr_UC b n k)))))
def lr_U (b : Nat → Int) (n k : Nat) : Nat → lr_R := (lr_UC b n k).1
def lr_C (b : Nat → Int) (n k : Nat) : Nat → lr_R := (lr_UC b n k).2
/-- the class's stack machine, bounded: none when it would overflow or lack -/
def lr_run (e : Nat → Int) : List Int → List Int → Option (List Int)
  | [], st => some st
  | c :: cs, st =>
    if c < 0 then (if c = -33 then (match st with | x :: st' => (if x = 0 ∨ x = 1 then lr_run e cs ((1 - x) :: st') else none) | [] => none)
      else (match st with | y :: x :: st' => (if (c ≠ -42 ∧ c ≠ -43 ∧ c ≠ -45 ∧ c ≠ -47 ∧ c ≠ -60 ∧ c ≠ -61 ∧ c ≠ -62) ∧ ¬ ((x = 0 ∨ x = 1) ∧ (y = 0 ∨ y = 1)) then none else lr_run e cs (lr_op (-c) x y :: st')) | _ => none))
    else if 32 ≤ st.length then none
    else lr_run e cs ((if 10000 ≤ c then e (c - 10000).toNat else c) :: st)
theorem lr_run_app (e : Nat → Int) : ∀ (c d st : List Int), lr_run e (c ++ d) st = (lr_run e c st).bind (lr_run e d) := by
  intro c
  induction c with
  | nil => intro d st; rfl
  | cons x c ih =>
    intro d st
    rw [List.cons_append]
    unfold lr_run
    by_cases h : x < 0
    · rw [if_pos h, if_pos h]
      by_cases h2 : x = -33
      · rw [if_pos h2, if_pos h2]
        match st with
        | [] => rfl
        | y :: st' =>
          show (if y = 0 ∨ y = 1 then _ else none) = Option.bind (if y = 0 ∨ y = 1 then _ else none) _
          by_cases hy : y = 0 ∨ y = 1
          · rw [if_pos hy, if_pos hy]
            exact ih d _
          · rw [if_neg hy, if_neg hy]
            rfl
      · rw [if_neg h2, if_neg h2]
        match st with
        | [] => rfl
        | [_] => rfl
        | z :: y :: st' =>
          show (if (x ≠ -42 ∧ x ≠ -43 ∧ x ≠ -45 ∧ x ≠ -47 ∧ x ≠ -60 ∧ x ≠ -61 ∧ x ≠ -62) ∧ ¬ ((y = 0 ∨ y = 1) ∧ (z = 0 ∨ z = 1)) then none else _) = Option.bind (if (x ≠ -42 ∧ x ≠ -43 ∧ x ≠ -45 ∧ x ≠ -47 ∧ x ≠ -60 ∧ x ≠ -61 ∧ x ≠ -62) ∧ ¬ ((y = 0 ∨ y = 1) ∧ (z = 0 ∨ z = 1)) then none else _) _
          by_cases hy : (x ≠ -42 ∧ x ≠ -43 ∧ x ≠ -45 ∧ x ≠ -47 ∧ x ≠ -60 ∧ x ≠ -61 ∧ x ≠ -62) ∧ ¬ ((y = 0 ∨ y = 1) ∧ (z = 0 ∨ z = 1))
          · rw [if_pos hy, if_pos hy]
            rfl
          · rw [if_neg hy, if_neg hy]
            exact ih d _
    · rw [if_neg h, if_neg h]
      by_cases h2 : 32 ≤ st.length
      · rw [if_pos h2, if_pos h2]
        rfl
      · rw [if_neg h2, if_neg h2]
        exact ih d _
/-- a code that pushes v, with H cells at most -/
def lr_pu (H : Nat) (c : List Int) (v : lr_V) : Prop := ∀ (e : Nat → Int) (st : List Int), st.length + H ≤ 32 → lr_run e c st = some (v e :: st)
theorem lr_pu_le {H G : Nat} {c : List Int} {v : lr_V} (h : lr_pu H c v) (hg : H ≤ G) : lr_pu G c v := fun e st hs => h e st (by omega)
theorem lr_pu_1 {c : Int} (h : 0 ≤ c) : lr_pu 1 [c] (fun e => if 10000 ≤ c then e (c - 10000).toNat else c) := by
  intro e st hs
  simp only [lr_run]
  rw [if_neg (by omega), if_neg (by omega)]
theorem lr_pu_2 {H : Nat} {c d : List Int} {v u : lr_V} {z : Int} (h : lr_pu (H + 1) c v) (h2 : lr_pu H d u) (hz : 0 < z) (hz3 : z ≠ 33) (ht : z ≠ 42 ∧ z ≠ 43 ∧ z ≠ 45 ∧ z ≠ 47 ∧ z ≠ 60 ∧ z ≠ 61 ∧ z ≠ 62 → ∀ e, (v e = 0 ∨ v e = 1) ∧ (u e = 0 ∨ u e = 1)) : lr_pu (H + 1) (c ++ d ++ [-z]) (fun e => lr_op z (v e) (u e)) := by
  intro e st hs
  rw [lr_run_app, lr_run_app, h e st hs]
  show ((lr_run e d (v e :: st)).bind _) = _
  rw [h2 e (v e :: st) (by rw [List.length_cons]; omega)]
  show lr_run e [-z] (u e :: v e :: st) = _
  simp only [lr_run]
  rw [if_pos (by omega), if_neg (by omega), if_neg (fun hh => hh.2 (ht (by omega) e)), Int.neg_neg]
theorem lr_pu_n {H : Nat} {c : List Int} {v : lr_V} (h : lr_pu H c v) (ht : ∀ e, v e = 0 ∨ v e = 1) : lr_pu H (c ++ [-33]) (fun e => 1 - v e) := by
  intro e st hs
  rw [lr_run_app, h e st hs]
  show lr_run e [-33] (v e :: st) = _
  simp only [lr_run]
  rw [if_pos (by decide), if_pos True.intro, if_pos (ht e)]
