/-! TIMETABLES: places as digits, completions of a row -/
def tt_dg (q i x : Nat) : Nat := x / q ^ i % q
def tt_ds (q x : Nat) : Nat → Nat
  | 0 => 0
  | i + 1 => tt_ds q x i + tt_dg q i x
theorem tt_dd (q x i : Nat) : x / q ^ (i + 1) = x / q ^ i / q := by
  rw [Nat.pow_succ, Nat.div_div_eq_div_mul]
theorem tt_d0 {q x i : Nat} (hq : q = 2 ∨ q = 3) : (x + q ^ i) / q ^ i = x / q ^ i + 1 := Nat.add_div_right x (Nat.pow_pos (by omega))
/-- no digit is carried -/
theorem tt_d1 {q x i : Nat} (hq : q = 2 ∨ q = 3) (hd : tt_dg q i x + 1 < q) : (x + q ^ i) / q ^ (i + 1) = x / q ^ (i + 1) := by
  rw [tt_dd, tt_dd, tt_d0 hq]
  unfold tt_dg at hd
  rcases hq with rfl | rfl
  · omega
  · omega
theorem tt_d2 {q x i : Nat} (hq : q = 2 ∨ q = 3) (hd : tt_dg q i x + 1 < q) : ∀ d, (x + q ^ i) / q ^ (i + 1 + d) = x / q ^ (i + 1 + d) := by
  intro d
  induction d with
  | zero => exact tt_d1 hq hd
  | succ d ih =>
    have := tt_dd q (x + q ^ i) (i + 1 + d)
    have h2 := tt_dd q x (i + 1 + d)
    rw [show i + 1 + (d + 1) = i + 1 + d + 1 by omega, this, h2, ih]
theorem tt_dgi {q x i : Nat} (hq : q = 2 ∨ q = 3) (hd : tt_dg q i x + 1 < q) : tt_dg q i (x + q ^ i) = tt_dg q i x + 1 := by
  unfold tt_dg at hd ⊢
  rw [tt_d0 hq]
  rcases hq with rfl | rfl
  · omega
  · omega
theorem tt_dgo {q x i j : Nat} (hq : q = 2 ∨ q = 3) (hd : tt_dg q i x + 1 < q) (h : j ≠ i) : tt_dg q j (x + q ^ i) = tt_dg q j x := by
  rcases (by omega : i < j ∨ j < i) with c | c
  · unfold tt_dg
    have := tt_d2 hq hd (j - i - 1)
    rw [show i + 1 + (j - i - 1) = j by omega] at this
    rw [this]
  · unfold tt_dg
    have e : q ^ i = q ^ j * (q * q ^ (i - j - 1)) := by
      rw [← Nat.mul_assoc, ← Nat.pow_succ, ← Nat.pow_add]
      congr 1
      omega
    have hp : 0 < q ^ j := Nat.pow_pos (by omega)
    rw [e, Nat.add_mul_div_left _ _ hp, Nat.add_mul_mod_self_left]
theorem tt_dgb {q i x : Nat} (hq : q = 2 ∨ q = 3) : tt_dg q i x < q := Nat.mod_lt _ (by omega)
theorem tt_plt {q x i F : Nat} (hq : q = 2 ∨ q = 3) (hd : tt_dg q i x + 1 < q) (hi : i < F) (hx : x < q ^ F) : x + q ^ i < q ^ F := by
  have hp : 0 < q ^ F := Nat.pow_pos (by omega)
  have h1 := tt_d2 hq hd (F - i - 1)
  rw [show i + 1 + (F - i - 1) = F by omega, Nat.div_eq_of_lt hx] at h1
  exact (Nat.div_eq_zero_iff_lt hp).1 h1
theorem tt_dsi {q x i : Nat} (hq : q = 2 ∨ q = 3) (hd : tt_dg q i x + 1 < q) : ∀ F, tt_ds q (x + q ^ i) F = tt_ds q x F + (if i < F then 1 else 0) := by
  intro F
  induction F with
  | zero => rfl
  | succ F ih =>
    simp only [tt_ds]
    rw [ih]
    by_cases c : F = i
    · subst c
      rw [tt_dgi hq hd, if_neg (by omega), if_pos (by omega)]
      omega
    · rw [tt_dgo hq hd c]
      by_cases d : i < F
      · rw [if_pos d, if_pos (by omega)]
        omega
      · rw [if_neg d, if_neg (by omega)]
        omega
theorem tt_ds0 (q : Nat) : ∀ F, tt_ds q 0 F = 0 := by
  intro F
  induction F with
  | zero => rfl
  | succ F ih =>
    simp only [tt_ds, tt_dg]
    rw [ih, Nat.zero_div, Nat.zero_mod]
theorem tt_dg0 (q i : Nat) : tt_dg q i 0 = 0 := by
  unfold tt_dg
  rw [Nat.zero_div, Nat.zero_mod]
/-- the person with an index among the free -/
def tt_wl (fr : Nat → Bool) (w : Nat) : Nat → Nat
  | 0 => 0
  | p + 1 => if fr p = true ∧ tt_c fr p = w then p else tt_wl fr w p
theorem tt_c_m (fr : Nat → Bool) {p q : Nat} (h : p ≤ q) : tt_c fr p ≤ tt_c fr q := by
  obtain ⟨d, rfl⟩ : ∃ d, q = p + d := ⟨q - p, by omega⟩
  clear h
  induction d with
  | zero => exact Nat.le_refl _
  | succ d ih =>
    show _ ≤ tt_c fr (p + d) + _
    omega
theorem tt_c_s {fr : Nat → Bool} {p q : Nat} (hp : fr p = true) (h : p < q) : tt_c fr p + 1 ≤ tt_c fr q := by
  have h1 := tt_c_m fr (show p + 1 ≤ q by omega)
  have h2 : tt_c fr (p + 1) = tt_c fr p + 1 := by
    simp only [tt_c]
    rw [if_pos hp]
  omega
theorem tt_wl_p {fr : Nat → Bool} {w : Nat} : ∀ P, w < tt_c fr P → tt_wl fr w P < P ∧ fr (tt_wl fr w P) = true ∧ tt_c fr (tt_wl fr w P) = w := by
  intro P
  induction P with
  | zero => intro h; exact absurd h (by simp [tt_c])
  | succ P ih =>
    intro h
    unfold tt_wl
    by_cases c : fr P = true ∧ tt_c fr P = w
    · rw [if_pos c]
      exact ⟨by omega, c.1, c.2⟩
    · rw [if_neg c]
      have : w < tt_c fr P := by
        simp only [tt_c] at h
        by_cases d : fr P = true
        · rw [if_pos d] at h
          have : tt_c fr P ≠ w := fun hh => c ⟨d, hh⟩
          omega
        · rw [if_neg d] at h
          omega
      obtain ⟨h1, h2, h3⟩ := ih this
      exact ⟨by omega, h2, h3⟩
theorem tt_c_i {fr : Nat → Bool} {p q : Nat} (hp : fr p = true) (hq : fr q = true) (h : tt_c fr p = tt_c fr q) : p = q := by
  rcases (by omega : p < q ∨ q < p ∨ p = q) with c | c | c
  · have := tt_c_s hp c
    omega
  · have := tt_c_s hq c
    omega
  · exact c
theorem tt_wl_c {fr : Nat → Bool} {p P : Nat} (hp : p < P) (hf : fr p = true) : tt_wl fr (tt_c fr p) P = p := by
  have h1 : tt_c fr p < tt_c fr P := tt_c_s hf hp
  obtain ⟨h2, h3, h4⟩ := tt_wl_p P h1
  exact tt_c_i h3 hf h4
/-- a row from an hour on, behind a place -/
def tt_co (H P n : Nat) (fr : Nat → Bool) (x h0 : Nat) (r : Nat → Nat) : Prop := (∀ h, h0 ≤ h → h < H → r h < P ∧ fr (r h) = true) ∧ ∀ p, p < P → fr p = true → tt_dg (n + 1) (tt_c fr p) x + tt_c (fun h => decide (h0 ≤ h) && decide (r h = p)) H ≤ n
def tt_cv (H : Nat) (g : Nat → Nat → Int) (h0 : Nat) (r : Nat → Nat) : Int := ma_sm H (fun h => if h0 ≤ h then g (r h) h else 0)
/-- what a place's number says -/
def tt_sp (H P n : Nat) (g : Nat → Nat → Int) (fr : Nat → Bool) (x : Nat) (v : Int) : Prop := -1 ≤ v ∧ v ≤ 90 ∧ (tt_ds (n + 1) x (tt_c fr P) ≤ H → (0 ≤ v → ∃ r, tt_co H P n fr x (tt_ds (n + 1) x (tt_c fr P)) r ∧ tt_cv H g (tt_ds (n + 1) x (tt_c fr P)) r = v) ∧ ∀ r, tt_co H P n fr x (tt_ds (n + 1) x (tt_c fr P)) r → tt_cv H g (tt_ds (n + 1) x (tt_c fr P)) r ≤ v)
/-- what one gives that is watched next -/
def tt_gb (P n : Nat) (g : Nat → Nat → Int) (fr : Nat → Bool) (b : Nat → Int) (x h0 w : Nat) : Int := if n ≤ tt_dg (n + 1) w x then -1 else if b (x + (n + 1) ^ w) = -1 then -1 else g (tt_wl fr w P) h0 + b (x + (n + 1) ^ w)
section TT3
variable {H P n : Nat} {g : Nat → Nat → Int} {fr : Nat → Bool} {x : Nat}
theorem tt_cv_p (hg : ∀ p h, 0 ≤ g p h ∧ g p h ≤ 10) (h0 : Nat) (r : Nat → Nat) : 0 ≤ tt_cv H g h0 r ∧ tt_cv H g h0 r ≤ (H : Int) * 10 := by
  have := ma_sm_b (n := H) (f := fun h => if h0 ≤ h then g (r h) h else 0) (a := 0) (b := 10) (fun i hi => by
    split
    · exact hg _ _
    · exact ⟨by decide, by decide⟩)
  unfold tt_cv
  omega
theorem tt_cv_s {h0 : Nat} (r : Nat → Nat) (hh : h0 < H) : tt_cv H g h0 r = g (r h0) h0 + tt_cv H g (h0 + 1) r := by
  have h1 : ma_sm H (fun h => if h = h0 then g (r h) h else 0) = g (r h0) h0 := by
    have key : ∀ k, ma_sm k (fun h => if h = h0 then g (r h) h else 0) = if h0 < k then g (r h0) h0 else 0 := by
      intro k
      induction k with
      | zero => rfl
      | succ k ih =>
        simp only [ma_sm]
        rw [ih]
        rcases (by omega : h0 < k ∨ h0 = k ∨ k < h0) with c | c | c
        · rw [if_pos c, if_neg (by omega), if_pos (by omega), Int.add_zero]
        · subst c
          rw [if_neg (by omega), if_pos rfl, if_pos (by omega), Int.zero_add]
        · rw [if_neg (by omega), if_neg (by omega), if_neg (by omega)]
          rfl
    rw [key, if_pos hh]
  unfold tt_cv
  rw [← h1]
  refine ma_sm_a (fun i hi => ?_)
  rcases (by omega : i < h0 ∨ i = h0 ∨ h0 < i) with c | c | c
  · rw [if_neg (by omega), if_neg (by omega), if_neg (by omega)]
    rfl
  · subst c
    rw [if_pos (by omega), if_pos rfl, if_neg (by omega), Int.add_zero]
  · rw [if_pos (by omega), if_neg (by omega), if_pos (by omega), Int.zero_add]
theorem tt_cv_c {h0 : Nat} {r r' : Nat → Nat} (h : ∀ i, h0 ≤ i → r i = r' i) : tt_cv H g h0 r = tt_cv H g h0 r' := by
  unfold tt_cv
  refine ma_sm_c (fun i hi => ?_)
  by_cases c : h0 ≤ i
  · rw [if_pos c, if_pos c, h i c]
  · rw [if_neg c, if_neg c]
theorem tt_cn_s {h0 : Nat} (r : Nat → Nat) (hh : h0 < H) (p : Nat) : tt_c (fun h => decide (h0 ≤ h) && decide (r h = p)) H = (if r h0 = p then 1 else 0) + tt_c (fun h => decide (h0 + 1 ≤ h) && decide (r h = p)) H := by
  have h1 : tt_c (fun h => decide (h = h0) && decide (r h = p)) H = if r h0 = p then 1 else 0 := by
    have key : ∀ k, tt_c (fun h => decide (h = h0) && decide (r h = p)) k = if h0 < k ∧ r h0 = p then 1 else 0 := by
      intro k
      induction k with
      | zero => rfl
      | succ k ih =>
        have e : tt_c (fun h => decide (h = h0) && decide (r h = p)) (k + 1) = tt_c (fun h => decide (h = h0) && decide (r h = p)) k + (if (decide (k = h0) && decide (r k = p)) = true then 1 else 0) := rfl
        rw [e, ih]
        rcases (by omega : h0 < k ∨ h0 = k ∨ k < h0) with c | c | c
        · simp [show ¬ k = h0 by omega, c, show h0 < k + 1 by omega]
        · subst c
          by_cases d : r h0 = p <;> simp [d]
        · simp [show ¬ k = h0 by omega, show ¬ h0 < k by omega, show ¬ h0 < k + 1 by omega]
    rw [key]
    by_cases d : r h0 = p
    · rw [if_pos ⟨hh, d⟩, if_pos d]
    · rw [if_neg (fun z => d z.2), if_neg d]
  rw [← h1]
  refine tt_c_a (fun i hi => ?_)
  rcases (by omega : i < h0 ∨ i = h0 ∨ h0 < i) with c | c | c
  · simp [show ¬ h0 ≤ i by omega, show ¬ i = h0 by omega, show ¬ h0 + 1 ≤ i by omega]
  · subst c
    simp [show ¬ i + 1 ≤ i by omega]
  · simp [show h0 ≤ i by omega, show ¬ i = h0 by omega, show h0 + 1 ≤ i by omega]
theorem tt_cn_c {h0 : Nat} {r r' : Nat → Nat} (h : ∀ i, h0 ≤ i → r i = r' i) (p : Nat) : tt_c (fun h => decide (h0 ≤ h) && decide (r h = p)) H = tt_c (fun h => decide (h0 ≤ h) && decide (r' h = p)) H := by
  refine tt_c_c (fun i hi => ?_)
  by_cases c : h0 ≤ i
  · rw [h i c]
  · rw [decide_eq_false c, Bool.false_and, Bool.false_and]
/-- one step of a row: forth -/
theorem tt_go1 {h0 : Nat} {r : Nat → Nat} (hq : n + 1 = 2 ∨ n + 1 = 3) (hh : h0 < H) (hr : tt_co H P n fr x h0 r) : r h0 < P ∧ fr (r h0) = true ∧ tt_dg (n + 1) (tt_c fr (r h0)) x + 1 < n + 1 ∧ tt_co H P n fr (x + (n + 1) ^ tt_c fr (r h0)) (h0 + 1) r := by
  obtain ⟨h1, h2⟩ := hr
  obtain ⟨a1, a2⟩ := h1 h0 (Nat.le_refl _) hh
  have a3 := h2 (r h0) a1 a2
  rw [tt_cn_s r hh, if_pos rfl] at a3
  have hd : tt_dg (n + 1) (tt_c fr (r h0)) x + 1 < n + 1 := by omega
  refine ⟨a1, a2, hd, fun h k1 k2 => h1 h (by omega) k2, fun p hp hf => ?_⟩
  have a4 := h2 p hp hf
  rw [tt_cn_s r hh] at a4
  by_cases c : r h0 = p
  · subst c
    rw [if_pos rfl] at a4
    rw [tt_dgi hq hd]
    omega
  · rw [if_neg c] at a4
    rw [tt_dgo hq hd (fun hh => c (tt_c_i hf a2 hh).symm)]
    omega
/-- one step of a row: back -/
theorem tt_go2 {h0 p0 : Nat} {r : Nat → Nat} (hq : n + 1 = 2 ∨ n + 1 = 3) (hh : h0 < H) (hp : p0 < P) (hf : fr p0 = true) (hd : tt_dg (n + 1) (tt_c fr p0) x + 1 < n + 1) (hr : tt_co H P n fr (x + (n + 1) ^ tt_c fr p0) (h0 + 1) r) : tt_co H P n fr x h0 (fun h => if h = h0 then p0 else r h) ∧ tt_cv H g h0 (fun h => if h = h0 then p0 else r h) = g p0 h0 + tt_cv H g (h0 + 1) r := by
  have hc : ∀ i, h0 + 1 ≤ i → (fun h => if h = h0 then p0 else r h) i = r i := fun i hi => if_neg (by omega)
  obtain ⟨h1, h2⟩ := hr
  refine ⟨⟨fun h k1 k2 => ?_, fun p k1 k2 => ?_⟩, ?_⟩
  · by_cases c : h = h0
    · simp only [if_pos c]
      exact ⟨hp, hf⟩
    · simp only [if_neg c]
      exact h1 h (by omega) k2
  · rw [tt_cn_s _ hh, tt_cn_c hc]
    have a4 := h2 p k1 k2
    simp only [if_true]
    by_cases c : p0 = p
    · subst c
      rw [if_pos rfl]
      rw [tt_dgi hq hd] at a4
      omega
    · rw [if_neg c]
      rw [tt_dgo hq hd (fun hh => c (tt_c_i k2 hf hh).symm)] at a4
      omega
  · rw [tt_cv_s _ hh, tt_cv_c hc]
    simp only [if_true]
/-- the best of what can be watched next -/
theorem tt_spb {b : Nat → Int} {m : Int} (hq : n + 1 = 2 ∨ n + 1 = 3) (hH : H ≤ 9) (hg : ∀ p h, 0 ≤ g p h ∧ g p h ≤ 10) (hx : x < (n + 1) ^ tt_c fr P) (hb : ∀ y, x < y → y < (n + 1) ^ tt_c fr P → tt_sp H P n g fr y (b y)) (hh : tt_ds (n + 1) x (tt_c fr P) < H) (h1 : -1 ≤ m) (h2 : 0 ≤ m → ∃ w, w < tt_c fr P ∧ tt_gb P n g fr b x (tt_ds (n + 1) x (tt_c fr P)) w = m) (h3 : ∀ w, w < tt_c fr P → tt_gb P n g fr b x (tt_ds (n + 1) x (tt_c fr P)) w ≤ m) : tt_sp H P n g fr x m := by
  have att : 0 ≤ m → ∃ r, tt_co H P n fr x (tt_ds (n + 1) x (tt_c fr P)) r ∧ tt_cv H g (tt_ds (n + 1) x (tt_c fr P)) r = m := by
    intro h0
    obtain ⟨w, hw, e⟩ := h2 h0
    unfold tt_gb at e
    by_cases c : n ≤ tt_dg (n + 1) w x
    · rw [if_pos c] at e
      omega
    · rw [if_neg c] at e
      by_cases c2 : b (x + (n + 1) ^ w) = -1
      · rw [if_pos c2] at e
        omega
      · rw [if_neg c2] at e
        have hd : tt_dg (n + 1) w x + 1 < n + 1 := by omega
        have hy := tt_plt hq hd hw hx
        have hpw : 0 < (n + 1) ^ w := Nat.pow_pos (by omega)
        obtain ⟨s1, s2, s3⟩ := hb _ (by omega) hy
        rw [tt_dsi hq hd, if_pos hw] at s3
        have h5 : 0 ≤ b (x + (n + 1) ^ w) := by omega
        have h6 : tt_ds (n + 1) x (tt_c fr P) + 1 ≤ H := by omega
        obtain ⟨s4, -⟩ := s3 h6
        obtain ⟨r, r1, r2⟩ := s4 h5
        obtain ⟨w1, w2, w3⟩ := tt_wl_p (fr := fr) P hw
        have hd' : tt_dg (n + 1) (tt_c fr (tt_wl fr w P)) x + 1 < n + 1 := by rw [w3]; exact hd
        have r1' : tt_co H P n fr (x + (n + 1) ^ tt_c fr (tt_wl fr w P)) (tt_ds (n + 1) x (tt_c fr P) + 1) r := by rw [w3]; exact r1
        obtain ⟨k1, k2⟩ := tt_go2 (g := g) hq hh w1 w2 hd' r1'
        exact ⟨_, k1, by rw [k2, r2]; exact e⟩
  refine ⟨h1, ?_, fun _ => ⟨att, fun r hr => ?_⟩⟩
  · rcases (by omega : 0 ≤ m ∨ m < 0) with c | c
    · obtain ⟨r, -, e⟩ := att c
      have := tt_cv_p (H := H) hg (tt_ds (n + 1) x (tt_c fr P)) r
      omega
    · omega
  · obtain ⟨a1, a2, a3, a4⟩ := tt_go1 hq hh hr
    have hw : tt_c fr (r (tt_ds (n + 1) x (tt_c fr P))) < tt_c fr P := tt_c_s a2 a1
    have hy := tt_plt hq a3 hw hx
    have hpw : 0 < (n + 1) ^ tt_c fr (r (tt_ds (n + 1) x (tt_c fr P))) := Nat.pow_pos (by omega)
    obtain ⟨s1, s2, s3⟩ := hb _ (by omega) hy
    rw [tt_dsi hq a3, if_pos hw] at s3
    obtain ⟨-, s4⟩ := s3 (by omega)
    have s5 := s4 r a4
    have s6 := tt_cv_p (H := H) hg (tt_ds (n + 1) x (tt_c fr P) + 1) r
    have s7 := h3 _ hw
    unfold tt_gb at s7
    rw [if_neg (by omega), if_neg (by omega), tt_wl_c a1 a2] at s7
    rw [tt_cv_s r hh]
    omega
/-- a full row -/
theorem tt_sp0 (hq : n + 1 = 2 ∨ n + 1 = 3) (hh : H ≤ tt_ds (n + 1) x (tt_c fr P)) : tt_sp H P n g fr x (if tt_ds (n + 1) x (tt_c fr P) = H then 0 else -1) := by
  by_cases c : tt_ds (n + 1) x (tt_c fr P) = H
  · rw [if_pos c]
    have h0 : ∀ r, tt_cv H g H r = 0 := fun r => ma_sm_0 (fun i hi => if_neg (by omega))
    refine ⟨by decide, by decide, fun _ => ?_⟩
    rw [c]
    refine ⟨fun _ => ⟨fun _ => 0, ⟨fun h k1 k2 => by omega, fun p hp hf => ?_⟩, h0 _⟩, fun r _ => by rw [h0]; exact Int.le_refl _⟩
    have z := tt_c_0 (f := fun h => decide (H ≤ h) && decide ((fun _ : Nat => (0 : Nat)) h = p)) (H := H) (fun i hi => by simp [show ¬ H ≤ i by omega])
    rw [z]
    have := tt_dgb (i := tt_c fr p) (x := x) hq
    omega
  · rw [if_neg c]
    exact ⟨by decide, by decide, fun h => by omega⟩
end TT3
