/-! TIMETABLES: counts, sets, and the model's tables of sets -/
def tt_c (f : Nat → Bool) : Nat → Nat
  | 0 => 0
  | h + 1 => tt_c f h + (if f h = true then 1 else 0)
theorem tt_c_c {f k : Nat → Bool} {H : Nat} (h : ∀ i, i < H → f i = k i) : tt_c f H = tt_c k H := by
  induction H with
  | zero => rfl
  | succ H ih =>
    simp only [tt_c]
    rw [ih (fun i hi => h i (by omega)), h H (by omega)]
theorem tt_c_0 {f : Nat → Bool} {H : Nat} (h : ∀ i, i < H → f i = false) : tt_c f H = 0 := by
  induction H with
  | zero => rfl
  | succ H ih =>
    simp only [tt_c]
    rw [ih (fun i hi => h i (by omega)), h H (by omega)]
    rfl
theorem tt_c_a {f k l : Nat → Bool} {H : Nat} (h : ∀ i, i < H → (if f i = true then 1 else 0) = (if k i = true then 1 else 0) + (if l i = true then (1 : Nat) else 0)) : tt_c f H = tt_c k H + tt_c l H := by
  induction H with
  | zero => rfl
  | succ H ih =>
    simp only [tt_c]
    rw [ih (fun i hi => h i (by omega)), h H (by omega)]
    omega
theorem tt_c_le {f k : Nat → Bool} {H : Nat} (h : ∀ i, i < H → f i = true → k i = true) : tt_c f H ≤ tt_c k H := by
  induction H with
  | zero => exact Nat.le_refl _
  | succ H ih =>
    simp only [tt_c]
    have h1 := ih (fun i hi => h i (by omega))
    by_cases c : f H = true
    · rw [if_pos c, if_pos (h H (by omega) c)]
      omega
    · rw [if_neg c]
      omega
theorem tt_c_p {f : Nat → Bool} {H i : Nat} (hi : i < H) (hf : f i = true) : 1 ≤ tt_c f H := by
  induction H with
  | zero => omega
  | succ H ih =>
    simp only [tt_c]
    by_cases c : i = H
    · subst c
      rw [if_pos hf]
      omega
    · have := ih (by omega)
      omega
theorem ma_sm_a {f k l : Nat → Int} {H : Nat} (h : ∀ i, i < H → f i = k i + l i) : ma_sm H f = ma_sm H k + ma_sm H l := by
  induction H with
  | zero => rfl
  | succ H ih =>
    simp only [ma_sm]
    rw [ih (fun i hi => h i (by omega)), h H (by omega)]
    omega
theorem ma_sm_0 {f : Nat → Int} {H : Nat} (h : ∀ i, i < H → f i = 0) : ma_sm H f = 0 := by
  induction H with
  | zero => rfl
  | succ H ih =>
    simp only [ma_sm]
    rw [ih (fun i hi => h i (by omega)), h H (by omega)]
    rfl
theorem ma_sm_p {f : Nat → Int} {H : Nat} (h : ∀ i, i < H → 0 ≤ f i) : 0 ≤ ma_sm H f := by
  induction H with
  | zero => exact Int.le_refl _
  | succ H ih =>
    simp only [ma_sm]
    have h1 := ih (fun i hi => h i (by omega))
    have h2 := h H (by omega)
    omega
/-- a set of hours by what is in it -/
def tt_mk (f : Nat → Bool) : Nat → Nat
  | 0 => 0
  | h + 1 => tt_mk f h ||| (if f h = true then 2 ^ h else 0)
theorem tt_mk_t (f : Nat → Bool) : ∀ H i, (tt_mk f H).testBit i = (decide (i < H) && f i) := by
  intro H
  induction H with
  | zero =>
    intro i
    show (0 : Nat).testBit i = _
    rw [Nat.zero_testBit]
    simp
  | succ H ih =>
    intro i
    show (tt_mk f H ||| (if f H = true then 2 ^ H else 0)).testBit i = _
    rw [Nat.testBit_or, ih]
    by_cases c : f H = true
    · rw [if_pos c, Nat.testBit_two_pow]
      by_cases d : H = i
      · subst d
        rw [c]
        simp
      · rcases (by omega : i < H ∨ H + 1 ≤ i) with e | e
        · simp [d, e, show i < H + 1 by omega]
        · simp [d, show ¬ i < H by omega, show ¬ i < H + 1 by omega]
    · rw [if_neg c, Nat.zero_testBit, Bool.or_false]
      by_cases d : i = H
      · subst d
        simp at c
        simp [c]
      · rcases (by omega : i < H ∨ H + 1 ≤ i) with e | e
        · simp [e, show i < H + 1 by omega]
        · simp [show ¬ i < H by omega, show ¬ i < H + 1 by omega]
theorem tt_mk_b (f : Nat → Bool) : ∀ H, tt_mk f H < 2 ^ H := by
  intro H
  induction H with
  | zero => exact Nat.one_pos
  | succ H ih =>
    show tt_mk f H ||| (if f H = true then 2 ^ H else 0) < 2 ^ (H + 1)
    have h2 : (2 : Nat) ^ (H + 1) = 2 ^ H * 2 := Nat.pow_succ 2 H
    have h3 : 0 < (2 : Nat) ^ H := Nat.two_pow_pos H
    refine Nat.or_lt_two_pow (by omega) ?_
    split <;> omega
theorem tt_and0 {x y : Nat} (h : x &&& y = 0) (i : Nat) : (x.testBit i && y.testBit i) = false := by
  have := congrArg (fun z => Nat.testBit z i) h
  simp only [Nat.testBit_and, Nat.zero_testBit] at this
  exact this
theorem tt_eq {x y H : Nat} (hx : x < 2 ^ H) (hy : y < 2 ^ H) (h : ∀ i, i < H → x.testBit i = y.testBit i) : x = y := by
  apply Nat.eq_of_testBit_eq
  intro i
  by_cases c : i < H
  · exact h i c
  · have hp : 2 ^ H ≤ 2 ^ i := Nat.pow_le_pow_right (by decide) (by omega)
    rw [Nat.testBit_lt_two_pow (Nat.lt_of_lt_of_le hx hp), Nat.testBit_lt_two_pow (Nat.lt_of_lt_of_le hy hp)]
/-- an assignment of the hours of a set to the first K persons -/
def tt_ok (H n : Nat) (fr : Nat → Bool) (fx : Nat → Int) (K S : Nat) (a : Nat → Nat) : Prop := (∀ h, h < H → S.testBit h = true → a h < K ∧ fr (a h) = true ∧ (fx h = -1 ∨ fx h = (a h : Int))) ∧ ∀ p, p < K → tt_c (fun h => S.testBit h && decide (a h = p)) H ≤ n
def tt_vl (H : Nat) (g : Nat → Nat → Int) (S : Nat) (a : Nat → Nat) : Int := ma_sm H (fun h => if S.testBit h = true then g (a h) h else 0)
def tt_tb (H n : Nat) (g : Nat → Nat → Int) (fr : Nat → Bool) (fx : Nat → Int) (K : Nat) (t : Nat → Int) : Prop := ∀ S, S < 2 ^ H → (0 ≤ t S → ∃ a, tt_ok H n fr fx K S a ∧ tt_vl H g S a = t S) ∧ (∀ a, tt_ok H n fr fx K S a → tt_vl H g S a ≤ t S) ∧ -1000000 ≤ t S
def tt_sv (H : Nat) (g : Nat → Nat → Int) (K own : Nat) : Int := ma_sm H (fun h => if own.testBit h = true then g K h else 0)
def tt_fb (fx : Nat → Int) (K own : Nat) : Nat → Bool
  | 0 => true
  | h + 1 => tt_fb fx K own h && (!own.testBit h || decide (fx h = -1 ∨ fx h = (K : Int)))
def tt_put (u : Nat → Int) (s : Nat) (v : Int) : Nat → Int := fun x => if x = s then (if u s < v then v else u s) else u x
def tt_in (t : Nat → Int) (own : Nat) (v : Int) (u : Nat → Int) : Nat → Nat → Int
  | 0 => u
  | J + 1 => if J &&& own = 0 ∧ 0 ≤ t J then tt_put (tt_in t own v u J) (J ||| own) (t J + v) else tt_in t own v u J
def tt_ou (H n : Nat) (g : Nat → Nat → Int) (fx : Nat → Int) (K : Nat) (t : Nat → Int) : Nat → Nat → Int
  | 0 => fun _ => -1000000
  | O + 1 => if tt_c (fun h => O.testBit h) H ≤ n ∧ tt_fb fx K O H = true then tt_in t O (tt_sv H g K O) (tt_ou H n g fx K t O) (2 ^ H) else tt_ou H n g fx K t O
def tt_st (H n : Nat) (g : Nat → Nat → Int) (fr : Nat → Bool) (fx : Nat → Int) : Nat → Nat → Int
  | 0 => fun S => if S = 0 then 0 else -1000000
  | K + 1 => if fr K = true then tt_ou H n g fx K (tt_st H n g fr fx K) (2 ^ H) else tt_st H n g fr fx K
theorem tt_put_ge (u : Nat → Int) (s : Nat) (v : Int) (x : Nat) : u x ≤ tt_put u s v x := by
  unfold tt_put
  split
  · rename_i h
    subst h
    split <;> omega
  · exact Int.le_refl _
theorem tt_put_s (u : Nat → Int) (s : Nat) (v : Int) : v ≤ tt_put u s v s := by
  unfold tt_put
  rw [if_pos rfl]
  split <;> omega
theorem tt_put_o (u : Nat → Int) (s : Nat) (v : Int) (x : Nat) : tt_put u s v x = u x ∨ (x = s ∧ tt_put u s v x = v) := by
  unfold tt_put
  split
  · rename_i h
    subst h
    split
    · exact Or.inr ⟨rfl, rfl⟩
    · exact Or.inl rfl
  · exact Or.inl rfl
theorem tt_in_p (t : Nat → Int) (own : Nat) (v : Int) (u : Nat → Int) : ∀ J, (∀ x, u x ≤ tt_in t own v u J x) ∧ (∀ j, j < J → j &&& own = 0 → 0 ≤ t j → t j + v ≤ tt_in t own v u J (j ||| own)) ∧ ∀ x, tt_in t own v u J x = u x ∨ ∃ j, j < J ∧ j &&& own = 0 ∧ 0 ≤ t j ∧ x = j ||| own ∧ tt_in t own v u J x = t j + v := by
  intro J
  induction J with
  | zero => exact ⟨fun x => Int.le_refl _, fun j hj => by omega, fun x => Or.inl rfl⟩
  | succ J ih =>
    obtain ⟨h1, h2, h3⟩ := ih
    by_cases c : J &&& own = 0 ∧ 0 ≤ t J
    · have e : tt_in t own v u (J + 1) = tt_put (tt_in t own v u J) (J ||| own) (t J + v) := if_pos c
      rw [e]
      refine ⟨fun x => Int.le_trans (h1 x) (tt_put_ge _ _ _ _), fun j hj c1 c2 => ?_, fun x => ?_⟩
      · by_cases d : j = J
        · subst d
          exact tt_put_s _ _ _
        · exact Int.le_trans (h2 j (by omega) c1 c2) (tt_put_ge _ _ _ _)
      · rcases tt_put_o (tt_in t own v u J) (J ||| own) (t J + v) x with d | ⟨d1, d2⟩
        · rw [d]
          rcases h3 x with d | ⟨j, j1, j2, j3, j4, j5⟩
          · exact Or.inl d
          · exact Or.inr ⟨j, by omega, j2, j3, j4, j5⟩
        · exact Or.inr ⟨J, by omega, c.1, c.2, d1, d2⟩
    · have e : tt_in t own v u (J + 1) = tt_in t own v u J := if_neg c
      rw [e]
      refine ⟨h1, fun j hj c1 c2 => ?_, fun x => ?_⟩
      · by_cases d : j = J
        · subst d
          exact absurd ⟨c1, c2⟩ c
        · exact h2 j (by omega) c1 c2
      · rcases h3 x with d | ⟨j, j1, j2, j3, j4, j5⟩
        · exact Or.inl d
        · exact Or.inr ⟨j, by omega, j2, j3, j4, j5⟩
section TT1
variable {H n : Nat} {g : Nat → Nat → Int} {fr : Nat → Bool} {fx : Nat → Int} {K S : Nat} {t : Nat → Int}
theorem tt_fb_i {own : Nat} : ∀ {H : Nat}, tt_fb fx K own H = true ↔ ∀ h, h < H → own.testBit h = true → fx h = -1 ∨ fx h = (K : Int) := by
  intro H
  induction H with
  | zero => exact ⟨fun _ h hh => by omega, fun _ => rfl⟩
  | succ H ih =>
    have e : tt_fb fx K own (H + 1) = (tt_fb fx K own H && (!own.testBit H || decide (fx H = -1 ∨ fx H = (K : Int)))) := rfl
    rw [e, Bool.and_eq_true, ih]
    constructor
    · rintro ⟨h1, h2⟩ h hh ht
      by_cases c : h = H
      · subst c
        rw [ht] at h2
        simpa using h2
      · exact h1 h (by omega) ht
    · intro h1
      refine ⟨fun h hh ht => h1 h (by omega) ht, ?_⟩
      by_cases c : own.testBit H = true
      · rw [c]
        have := h1 H (by omega) c
        simpa using this
      · simp at c
        rw [c]
        rfl
theorem tt_ou_p : ∀ O, (∀ x, 0 ≤ g K 0 ∨ True → -1000000 ≤ tt_ou H n g fx K t O x) ∧ (∀ own, own < O → tt_c (fun h => own.testBit h) H ≤ n → tt_fb fx K own H = true → ∀ j, j < 2 ^ H → j &&& own = 0 → 0 ≤ t j → t j + tt_sv H g K own ≤ tt_ou H n g fx K t O (j ||| own)) ∧ ∀ x, tt_ou H n g fx K t O x = -1000000 ∨ ∃ own j, own < O ∧ tt_c (fun h => own.testBit h) H ≤ n ∧ tt_fb fx K own H = true ∧ j < 2 ^ H ∧ j &&& own = 0 ∧ 0 ≤ t j ∧ x = j ||| own ∧ tt_ou H n g fx K t O x = t j + tt_sv H g K own := by
  intro O
  induction O with
  | zero => exact ⟨fun x _ => Int.le_refl _, fun own h => by omega, fun x => Or.inl rfl⟩
  | succ O ih =>
    obtain ⟨h1, h2, h3⟩ := ih
    by_cases c : tt_c (fun h => O.testBit h) H ≤ n ∧ tt_fb fx K O H = true
    · have e : tt_ou H n g fx K t (O + 1) = tt_in t O (tt_sv H g K O) (tt_ou H n g fx K t O) (2 ^ H) := if_pos c
      obtain ⟨k1, k2, k3⟩ := tt_in_p t O (tt_sv H g K O) (tt_ou H n g fx K t O) (2 ^ H)
      rw [e]
      refine ⟨fun x hx => Int.le_trans (h1 x hx) (k1 x), fun own ho c1 c2 j j1 j2 j3 => ?_, fun x => ?_⟩
      · by_cases d : own = O
        · subst d
          exact k2 j j1 j2 j3
        · exact Int.le_trans (h2 own (by omega) c1 c2 j j1 j2 j3) (k1 _)
      · rcases k3 x with d | ⟨j, j1, j2, j3, j4, j5⟩
        · rw [d]
          rcases h3 x with d | ⟨own, j, j0, rest⟩
          · exact Or.inl d
          · exact Or.inr ⟨own, j, by omega, rest⟩
        · exact Or.inr ⟨O, j, by omega, c.1, c.2, j1, j2, j3, j4, j5⟩
    · have e : tt_ou H n g fx K t (O + 1) = tt_ou H n g fx K t O := if_neg c
      rw [e]
      refine ⟨h1, fun own ho c1 c2 j j1 j2 j3 => ?_, fun x => ?_⟩
      · by_cases d : own = O
        · subst d
          exact absurd ⟨c1, c2⟩ c
        · exact h2 own (by omega) c1 c2 j j1 j2 j3
      · rcases h3 x with d | ⟨own, j, j0, rest⟩
        · exact Or.inl d
        · exact Or.inr ⟨own, j, by omega, rest⟩
theorem tt_vl_p (hg : ∀ p h, 0 ≤ g p h) (S : Nat) (a : Nat → Nat) : 0 ≤ tt_vl H g S a := by
  refine ma_sm_p (fun i hi => ?_)
  split
  · exact hg _ _
  · exact Int.le_refl _
theorem tt_sv_p (hg : ∀ p h, 0 ≤ g p h) (K own : Nat) : 0 ≤ tt_sv H g K own := by
  refine ma_sm_p (fun i hi => ?_)
  split
  · exact hg _ _
  · exact Int.le_refl _
/-- no person yet -/
theorem tt_tb0 : tt_tb H n g fr fx 0 (fun S => if S = 0 then 0 else -1000000) := by
  intro S hS
  show (0 ≤ (if S = 0 then (0 : Int) else -1000000) → ∃ a, tt_ok H n fr fx 0 S a ∧ tt_vl H g S a = (if S = 0 then (0 : Int) else -1000000)) ∧ (∀ a, tt_ok H n fr fx 0 S a → tt_vl H g S a ≤ (if S = 0 then (0 : Int) else -1000000)) ∧ -1000000 ≤ (if S = 0 then (0 : Int) else -1000000)
  by_cases c : S = 0
  · rw [if_pos c]
    subst c
    refine ⟨fun _ => ⟨fun _ => 0, ⟨fun h hh ht => ?_, fun p hp => by omega⟩, ?_⟩, fun a ha => ?_, by decide⟩
    · rw [Nat.zero_testBit] at ht
      cases ht
    · exact ma_sm_0 (fun i hi => by rw [Nat.zero_testBit]; rfl)
    · have : tt_vl H g 0 a = 0 := ma_sm_0 (fun i hi => by rw [Nat.zero_testBit]; rfl)
      omega
  · rw [if_neg c]
    refine ⟨fun h => absurd h (by decide), fun a ha => ?_, Int.le_refl _⟩
    exfalso
    apply c
    refine tt_eq hS (Nat.two_pow_pos H) (fun i hi => ?_)
    rw [Nat.zero_testBit]
    cases hb : S.testBit i with
    | false => rfl
    | true =>
      have := (ha.1 i hi hb).1
      omega
/-- a person that is not free -/
theorem tt_tbg (hf : ¬ fr K = true) (h : tt_tb H n g fr fx K t) : tt_tb H n g fr fx (K + 1) t := by
  have key : ∀ S a, tt_ok H n fr fx (K + 1) S a ↔ tt_ok H n fr fx K S a := by
    intro S a
    constructor
    · rintro ⟨h1, h2⟩
      refine ⟨fun h hh ht => ?_, fun p hp => h2 p (by omega)⟩
      obtain ⟨k1, k2, k3⟩ := h1 h hh ht
      refine ⟨?_, k2, k3⟩
      rcases (by omega : a h < K ∨ a h = K) with c | c
      · exact c
      · rw [c] at k2
        exact absurd k2 hf
    · rintro ⟨h1, h2⟩
      refine ⟨fun h hh ht => ?_, fun p hp => ?_⟩
      · obtain ⟨k1, k2, k3⟩ := h1 h hh ht
        exact ⟨by omega, k2, k3⟩
      · rcases (by omega : p < K ∨ p = K) with c | c
        · exact h2 p c
        · subst c
          rw [tt_c_0 (fun i hi => ?_)]
          · omega
          · cases hb : S.testBit i with
            | false => rfl
            | true =>
              have := (h1 i hi hb).1
              simp [show ¬ a i = p by omega]
  intro S hS
  obtain ⟨h1, h2, h3⟩ := h S hS
  refine ⟨fun h0 => ?_, fun a ha => h2 a ((key S a).1 ha), h3⟩
  obtain ⟨a, ha, hv⟩ := h1 h0
  exact ⟨a, (key S a).2 ha, hv⟩
/-- a person that is free -/
theorem tt_tbf (hg : ∀ p h, 0 ≤ g p h) (hf : fr K = true) (h : tt_tb H n g fr fx K t) : tt_tb H n g fr fx (K + 1) (tt_ou H n g fx K t (2 ^ H)) := by
  obtain ⟨p1, p2, p3⟩ := tt_ou_p (H := H) (n := n) (g := g) (fx := fx) (K := K) (t := t) (2 ^ H)
  intro S hS
  refine ⟨fun h0 => ?_, fun a ha => ?_, p1 S (Or.inr True.intro)⟩
  · rcases p3 S with e | ⟨own, j, o1, o2, o3, j1, j2, j3, rfl, j5⟩
    · omega
    · obtain ⟨a, ⟨a1, a2⟩, av⟩ := (h j j1).1 j3
      have hd := tt_and0 j2
      have ho := tt_fb_i.1 o3
      refine ⟨fun h => if own.testBit h = true then K else a h, ⟨fun h hh ht => ?_, fun p hp => ?_⟩, ?_⟩
      · rw [Nat.testBit_or] at ht
        by_cases c : own.testBit h = true
        · simp only [if_pos c]
          exact ⟨by omega, hf, ho h hh c⟩
        · simp only [if_neg c]
          have hj : j.testBit h = true := by
            cases hb : j.testBit h with
            | true => rfl
            | false =>
              rw [hb, Bool.false_or] at ht
              exact absurd ht c
          obtain ⟨k1, k2, k3⟩ := a1 h hh hj
          exact ⟨by omega, k2, k3⟩
      · rcases (by omega : p < K ∨ p = K) with c | c
        · have e : tt_c (fun h => (j ||| own).testBit h && decide ((if own.testBit h = true then K else a h) = p)) H = tt_c (fun h => j.testBit h && decide (a h = p)) H := by
            refine tt_c_c (fun i hi => ?_)
            have := hd i
            rw [Nat.testBit_or]
            cases hb : own.testBit i with
            | true =>
              rw [hb, Bool.and_true] at this
              rw [this]
              simp [show ¬ K = p by omega]
            | false => simp
          rw [e]
          exact a2 p c
        · subst c
          have e : tt_c (fun h => (j ||| own).testBit h && decide ((if own.testBit h = true then p else a h) = p)) H = tt_c (fun h => own.testBit h) H := by
            refine tt_c_c (fun i hi => ?_)
            rw [Nat.testBit_or]
            cases hb : own.testBit i with
            | true => simp
            | false =>
              cases hb2 : j.testBit i with
              | false => rfl
              | true =>
                have := (a1 i hi hb2).1
                simp [show ¬ a i = p by omega]
          rw [e]
          exact o2
      · rw [j5, ← av]
        unfold tt_vl tt_sv
        refine ma_sm_a (fun i hi => ?_)
        have := hd i
        rw [Nat.testBit_or]
        cases hb : own.testBit i with
        | true =>
          rw [hb, Bool.and_true] at this
          rw [this]
          simp [hb]
        | false => simp [hb]
  · obtain ⟨a1, a2⟩ := ha
    have hot : ∀ i, i < H → (tt_mk (fun h => S.testBit h && decide (a h = K)) H).testBit i = (S.testBit i && decide (a i = K)) := fun i hi => by
      rw [tt_mk_t, decide_eq_true hi, Bool.true_and]
    have hst : ∀ i, i < H → (tt_mk (fun h => S.testBit h && decide (a h ≠ K)) H).testBit i = (S.testBit i && decide (a i ≠ K)) := fun i hi => by
      rw [tt_mk_t, decide_eq_true hi, Bool.true_and]
    have hob := tt_mk_b (fun h => S.testBit h && decide (a h = K)) H
    have hsb := tt_mk_b (fun h => S.testBit h && decide (a h ≠ K)) H
    generalize tt_mk (fun h => S.testBit h && decide (a h = K)) H = own at hot hob
    generalize tt_mk (fun h => S.testBit h && decide (a h ≠ K)) H = set at hst hsb
    have hand : set &&& own = 0 := by
      refine tt_eq (H := H) (Nat.lt_of_le_of_lt Nat.and_le_left hsb) (Nat.two_pow_pos H) (fun i hi => ?_)
      rw [Nat.testBit_and, hot i hi, hst i hi, Nat.zero_testBit]
      by_cases c : a i = K <;> simp [c]
    have hor : set ||| own = S := by
      refine tt_eq (H := H) (Nat.or_lt_two_pow hsb hob) hS (fun i hi => ?_)
      rw [Nat.testBit_or, hot i hi, hst i hi]
      by_cases c : a i = K <;> simp [c]
    have hfo : tt_fb fx K own H = true := tt_fb_i.2 (fun i hi ht => by
      rw [hot i hi, Bool.and_eq_true, decide_eq_true_eq] at ht
      have := (a1 i hi ht.1).2.2
      rw [ht.2] at this
      exact this)
    have hco : tt_c (fun h => own.testBit h) H ≤ n := by
      have := a2 K (by omega)
      rw [tt_c_c (k := fun h => S.testBit h && decide (a h = K)) (fun i hi => hot i hi)]
      exact this
    have hok : tt_ok H n fr fx K set a := by
      refine ⟨fun i hi ht => ?_, fun p hp => ?_⟩
      · rw [hst i hi, Bool.and_eq_true, decide_eq_true_eq] at ht
        obtain ⟨k1, k2, k3⟩ := a1 i hi ht.1
        have := ht.2
        exact ⟨by omega, k2, k3⟩
      · refine Nat.le_trans (tt_c_le (fun i hi ht => ?_)) (a2 p (by omega))
        rw [hst i hi, Bool.and_eq_true, Bool.and_eq_true] at ht
        rw [Bool.and_eq_true]
        exact ⟨ht.1.1, ht.2⟩
    obtain ⟨-, t2, -⟩ := h set hsb
    have h5 := t2 a hok
    have h6 := tt_vl_p (H := H) hg set a
    have h7 := p2 own hob hco hfo set hsb hand (by omega)
    rw [hor] at h7
    have h8 : tt_vl H g S a = tt_vl H g set a + tt_sv H g K own := by
      unfold tt_vl tt_sv
      refine ma_sm_a (fun i hi => ?_)
      rw [hot i hi, hst i hi]
      by_cases c : a i = K
      · cases hb : S.testBit i <;> simp [c]
      · cases hb : S.testBit i <;> simp [c]
    omega
theorem tt_tbs (hg : ∀ p h, 0 ≤ g p h) : ∀ K, tt_tb H n g fr fx K (tt_st H n g fr fx K) := by
  intro K
  induction K with
  | zero => exact tt_tb0
  | succ K ih =>
    by_cases c : fr K = true
    · have e : tt_st H n g fr fx (K + 1) = tt_ou H n g fx K (tt_st H n g fr fx K) (2 ^ H) := if_pos c
      rw [e]
      exact tt_tbf hg c ih
    · have e : tt_st H n g fr fx (K + 1) = tt_st H n g fr fx K := if_neg c
      rw [e]
      exact tt_tbg c ih
theorem tt_vl_b (hg : ∀ p h, 0 ≤ g p h ∧ g p h ≤ 10) (S : Nat) (a : Nat → Nat) : tt_vl H g S a ≤ H * 10 := by
  have := (ma_sm_b (n := H) (f := fun h => if S.testBit h = true then g (a h) h else 0) (a := 0) (b := 10) (fun i hi => by
    split
    · exact hg _ _
    · exact ⟨by decide, by decide⟩)).2
  exact this
end TT1
