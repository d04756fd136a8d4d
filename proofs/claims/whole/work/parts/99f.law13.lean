/-! clauses: kind, condition (code, value; 1 where there is none), ruling (code, value) -/
abbrev lr_L := Int × List Int × lr_V × List Int × lr_V
/-- the ruling behind a condition q -/
def lr_ru (b : Nat → Int) (n : Nat) (kd : Int) (q : lr_Q) : Nat ⊕ (Nat × lr_L) :=
  if tp_l b n q.1 = 63 then (match lr_S b n 6 (tp_s b n q.1 + 1) with
    | .inl e => .inl e
    | .inr x => .inr (x.1, kd, q.2.1, q.2.2, x.2.1, x.2.2))
  else .inl (tp_s b n q.1)
/-- behind the colon -/
def lr_bo (b : Nat → Int) (n : Nat) (kd : Int) (a : Nat) : Nat ⊕ (Nat × lr_L) :=
  if tp_l b n a = 33 ∨ tp_l b n a = 40 then (match lr_C b n 6 a with
    | .inl e => .inl e
    | .inr q => lr_ru b n kd q)
  else match lr_S b n 6 a with
    | .inl e => .inl e
    | .inr q => if lr_pC (tp_l b n q.1) = true then (match lr_cm b n (lr_S b n 6) q with
        | .inl e => .inl e
        | .inr q1 => (match lr_tl b n (lr_U b n 6) q1 with
          | .inl e => .inl e
          | .inr q2 => lr_ru b n kd q2))
      else .inr (tp_s b n q.1, kd, [], (fun _ => 1), q.2.1, q.2.2)
def lr_cz (b : Nat → Int) (n a : Nat) : Nat ⊕ (Nat × lr_L) :=
  if tp_l b n a = 121 ∨ tp_l b n a = 118 then
    (if tp_l b n (tp_s b n a + 1) = 58 then lr_bo b n (tp_l b n a) (tp_s b n (tp_s b n a + 1) + 1) else .inl (tp_s b n (tp_s b n a + 1)))
  else .inl (tp_s b n a)
/-- all clauses, the first at a -/
def lr_al (b : Nat → Int) (n : Nat) : Nat → Nat → List lr_L → Nat ⊕ List lr_L
  | 0, a, _ => .inl (tp_s b n a)
  | d + 1, a, l => match lr_cz b n a with
    | .inl e => .inl e
    | .inr x => if tp_l b n x.1 = 59 then lr_al b n d (tp_s b n x.1 + 1) (l ++ [x.2]) else if tp_l b n x.1 = -1 then .inr (l ++ [x.2]) else .inl (tp_s b n x.1)
/-- a LAW's value: the first clause of the kind whose condition holds -/
def lr_wo (kd : Int) (e : Nat → Int) : List lr_L → Int
  | [] => 0
  | x :: l => if x.1 = kd ∧ x.2.2.1 e ≠ 0 then x.2.2.2.2 e else lr_wo kd e l
