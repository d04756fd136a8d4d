/-! TIMETABLES: full rows, the most, the least row -/
def tt_of (H P n : Nat) (fr : Nat → Bool) (a : Nat → Nat) : Prop := (∀ h, h < H → a h < P ∧ fr (a h) = true) ∧ ∀ p, p < P → tt_c (fun h => decide (a h = p)) H ≤ n
def tt_tv (H : Nat) (g : Nat → Nat → Int) (a : Nat → Nat) : Int := ma_sm H (fun h => g (a h) h)
def tt_mx (H P n : Nat) (g : Nat → Nat → Int) (fr : Nat → Bool) (v : Int) : Prop := (0 ≤ v → ∃ a, tt_of H P n fr a ∧ tt_tv H g a = v) ∧ ∀ a, tt_of H P n fr a → tt_tv H g a ≤ v
def tt_ex (H P n : Nat) (g : Nat → Nat → Int) (fr : Nat → Bool) (v : Int) (d : Nat → Nat) (h y : Nat) : Prop := ∃ a, tt_of H P n fr a ∧ (∀ j, j < h → a j = d j) ∧ a h = y ∧ tt_tv H g a = v
def tt_dn (d : Nat → Nat) : Nat → Int
  | 0 => 0
  | i + 1 => tt_dn d i * 10 + d i
theorem tt_dn_c {d d' : Nat → Nat} : ∀ {i : Nat}, (∀ j, j < i → d j = d' j) → tt_dn d i = tt_dn d' i := by
  intro i
  induction i with
  | zero => intro _; rfl
  | succ i ih =>
    intro h
    simp only [tt_dn]
    rw [ih (fun j hj => h j (by omega)), h i (by omega)]
theorem tt_dn_b {d : Nat → Nat} : ∀ {i : Nat}, i ≤ 9 → (∀ j, j < i → d j < 8) → 0 ≤ tt_dn d i ∧ tt_dn d i < 10 ^ i := by
  intro i
  induction i with
  | zero => intro _ _; exact ⟨Int.le_refl _, by show (0 : Int) < 1; decide⟩
  | succ i ih =>
    intro hi h
    obtain ⟨h1, h2⟩ := ih (by omega) (fun j hj => h j (by omega))
    have h3 := h i (by omega)
    simp only [tt_dn]
    have e : (10 : Int) ^ (i + 1) = 10 ^ i * 10 := Int.pow_succ 10 i
    omega
section TT5
variable {H P n : Nat} {g : Nat → Nat → Int} {fr : Nat → Bool} {v : Int}
theorem tt_ex_c {d d' : Nat → Nat} {h y : Nat} (hd : ∀ j, j < h → d j = d' j) (e : tt_ex H P n g fr v d h y) : tt_ex H P n g fr v d' h y := by
  obtain ⟨a, a1, a2, a3, a4⟩ := e
  exact ⟨a, a1, fun j hj => (a2 j hj).trans (hd j hj), a3, a4⟩
theorem tt_tv_b (hg : ∀ p h, 0 ≤ g p h ∧ g p h ≤ 10) (a : Nat → Nat) : 0 ≤ tt_tv H g a ∧ tt_tv H g a ≤ (H : Int) * 10 := by
  have := ma_sm_b (n := H) (f := fun h => g (a h) h) (a := 0) (b := 10) (fun i hi => hg _ _)
  unfold tt_tv
  omega
/-- a prefix as the digits of a place -/
def tt_pf (P n : Nat) (fr : Nat → Bool) (d : Nat → Nat) (i x : Nat) : Prop := (∀ j, j < i → d j < P ∧ fr (d j) = true) ∧ ∀ p, p < P → fr p = true → tt_dg (n + 1) (tt_c fr p) x = tt_c (fun j => decide (d j = p)) i
theorem tt_cut {f : Nat → Bool} : ∀ {H i : Nat}, i ≤ H → tt_c f H = tt_c f i + tt_c (fun h => decide (i ≤ h) && f h) H := by
  intro H
  induction H with
  | zero =>
    intro i hi
    have : i = 0 := by omega
    subst this
    rfl
  | succ H ih =>
    intro i hi
    rcases (by omega : i = H + 1 ∨ i ≤ H) with c | c
    · subst c
      rw [tt_c_0 (f := fun h => decide (H + 1 ≤ h) && f h) (fun j hj => by simp [show ¬ H + 1 ≤ j by omega])]
      rfl
    · have e1 : tt_c f (H + 1) = tt_c f H + (if f H = true then 1 else 0) := rfl
      have e2 : tt_c (fun h => decide (i ≤ h) && f h) (H + 1) = tt_c (fun h => decide (i ≤ h) && f h) H + (if (decide (i ≤ H) && f H) = true then 1 else 0) := rfl
      rw [e1, e2, ih c, decide_eq_true c, Bool.true_and]
      omega
theorem tt_cuts {f : Nat → Int} : ∀ {H i : Nat}, i ≤ H → ma_sm H f = ma_sm i f + ma_sm H (fun h => if i ≤ h then f h else 0) := by
  intro H
  induction H with
  | zero =>
    intro i hi
    have : i = 0 := by omega
    subst this
    rfl
  | succ H ih =>
    intro i hi
    rcases (by omega : i = H + 1 ∨ i ≤ H) with c | c
    · subst c
      rw [ma_sm_0 (f := fun h => if H + 1 ≤ h then f h else 0) (fun j hj => if_neg (by omega)), Int.add_zero]
    · have e1 : ma_sm (H + 1) f = ma_sm H f + f H := rfl
      have e2 : ma_sm (H + 1) (fun h => if i ≤ h then f h else 0) = ma_sm H (fun h => if i ≤ h then f h else 0) + (if i ≤ H then f H else 0) := rfl
      rw [e1, e2, ih c, if_pos c]
      omega
/-- a prefix and a row behind it -/
theorem tt_join {d r : Nat → Nat} {i x : Nat} (hi : i ≤ H) (hp : tt_pf P n fr d i x) (hr : tt_co H P n fr x i r) : tt_of H P n fr (fun j => if j < i then d j else r j) ∧ tt_tv H g (fun j => if j < i then d j else r j) = ma_sm i (fun j => g (d j) j) + tt_cv H g i r := by
  obtain ⟨p1, p2⟩ := hp
  obtain ⟨r1, r2⟩ := hr
  have hfree : ∀ h, h < H → (fun j => if j < i then d j else r j) h < P ∧ fr ((fun j => if j < i then d j else r j) h) = true := fun h hh => by
    by_cases c : h < i
    · simp only [if_pos c]
      exact p1 h c
    · simp only [if_neg c]
      exact r1 h (by omega) hh
  refine ⟨⟨hfree, fun p hp => ?_⟩, ?_⟩
  · by_cases hf : fr p = true
    · rw [tt_cut hi]
      have e1 : tt_c (fun h => decide ((if h < i then d h else r h) = p)) i = tt_c (fun j => decide (d j = p)) i := tt_c_c (fun j hj => by simp only [if_pos hj])
      have e2 : tt_c (fun h => decide (i ≤ h) && decide ((if h < i then d h else r h) = p)) H = tt_c (fun h => decide (i ≤ h) && decide (r h = p)) H := tt_c_c (fun j hj => by
        by_cases c : i ≤ j
        · simp only [if_neg (show ¬ j < i by omega)]
        · rw [decide_eq_false c, Bool.false_and, Bool.false_and])
      rw [e1, e2, ← p2 p hp hf]
      exact r2 p hp hf
    · rw [tt_c_0 (fun j hj => ?_)]
      · omega
      · refine decide_eq_false (fun h => hf ?_)
        rw [← h]
        exact (hfree j hj).2
  · unfold tt_tv tt_cv
    rw [tt_cuts hi]
    congr 1
    · exact ma_sm_c (fun j hj => by simp only [if_pos hj])
    · refine ma_sm_c (fun j hj => ?_)
      by_cases c : i ≤ j
      · simp only [if_pos c, if_neg (show ¬ j < i by omega)]
      · simp only [if_neg c]
/-- a full row taken apart -/
theorem tt_part {a d : Nat → Nat} {i x : Nat} (hi : i ≤ H) (hp : tt_pf P n fr d i x) (ha : tt_of H P n fr a) (hd : ∀ j, j < i → a j = d j) : tt_co H P n fr x i a ∧ tt_tv H g a = ma_sm i (fun j => g (d j) j) + tt_cv H g i a := by
  obtain ⟨a1, a2⟩ := ha
  refine ⟨⟨fun h _ hh => a1 h hh, fun p hp' hf => ?_⟩, ?_⟩
  · have h1 := a2 p hp'
    rw [tt_cut hi] at h1
    rw [hp.2 p hp' hf]
    have e1 : tt_c (fun h => decide (a h = p)) i = tt_c (fun j => decide (d j = p)) i := tt_c_c (fun j hj => by rw [hd j hj])
    omega
  · unfold tt_tv tt_cv
    rw [tt_cuts hi]
    congr 1
    exact ma_sm_c (fun j hj => by rw [hd j hj])
theorem tt_pf0 (d : Nat → Nat) : tt_pf P n fr d 0 0 := ⟨fun j hj => by omega, fun p _ _ => tt_dg0 _ _⟩
/-- the most, by the table's first place -/
theorem tt_mx0 (h : tt_sp H P n g fr 0 v) : tt_mx H P n g fr v := by
  obtain ⟨h1, h2, h3⟩ := h
  rw [tt_ds0] at h3
  obtain ⟨h4, h5⟩ := h3 (by omega)
  refine ⟨fun h0 => ?_, fun a ha => ?_⟩
  · obtain ⟨r, r1, r2⟩ := h4 h0
    obtain ⟨k1, k2⟩ := tt_join (g := g) (Nat.zero_le H) (tt_pf0 (fun _ => 0)) r1
    refine ⟨_, k1, ?_⟩
    rw [k2, r2]
    show (0 : Int) + v = v
    omega
  · obtain ⟨k1, k2⟩ := tt_part (g := g) (d := a) (Nat.zero_le H) (tt_pf0 a) ha (fun j hj => by omega)
    have := h5 a k1
    rw [k2]
    show (0 : Int) + tt_cv H g 0 a ≤ v
    omega
theorem tt_mxu {u : Int} (h1 : tt_mx H P n g fr v) (h2 : tt_mx H P n g fr u) : (0 ≤ v → u = v) ∧ (v < 0 → u < 0) := by
  refine ⟨fun h => ?_, fun h => ?_⟩
  · obtain ⟨a, a1, a2⟩ := h1.1 h
    have k1 := h2.2 a a1
    obtain ⟨b, b1, b2⟩ := h2.1 (by omega)
    have k2 := h1.2 b b1
    omega
  · rcases (by omega : 0 ≤ u ∨ u < 0) with c | c
    · obtain ⟨b, b1, b2⟩ := h2.1 c
      have := h1.2 b b1
      omega
    · exact c
theorem tt_gbu {b : Nat → Int} {x : Nat} (hq : n + 1 = 2 ∨ n + 1 = 3) (hx : x < (n + 1) ^ tt_c fr P) (hb : ∀ y, y < (n + 1) ^ tt_c fr P → tt_sp H P n g fr y (b y)) (hh : tt_ds (n + 1) x (tt_c fr P) < H) {w : Nat} (hw : w < tt_c fr P) (h0 : 0 ≤ tt_gb P n g fr b x (tt_ds (n + 1) x (tt_c fr P)) w) : tt_dg (n + 1) w x + 1 < n + 1 ∧ 0 ≤ b (x + (n + 1) ^ w) ∧ tt_gb P n g fr b x (tt_ds (n + 1) x (tt_c fr P)) w = g (tt_wl fr w P) (tt_ds (n + 1) x (tt_c fr P)) + b (x + (n + 1) ^ w) ∧ ∃ r, tt_co H P n fr x (tt_ds (n + 1) x (tt_c fr P)) r ∧ r (tt_ds (n + 1) x (tt_c fr P)) = tt_wl fr w P ∧ tt_cv H g (tt_ds (n + 1) x (tt_c fr P)) r = tt_gb P n g fr b x (tt_ds (n + 1) x (tt_c fr P)) w := by
  unfold tt_gb at h0 ⊢
  by_cases c : n ≤ tt_dg (n + 1) w x
  · rw [if_pos c] at h0
    omega
  · rw [if_neg c] at h0 ⊢
    by_cases c2 : b (x + (n + 1) ^ w) = -1
    · rw [if_pos c2] at h0
      omega
    · rw [if_neg c2] at h0 ⊢
      have hd : tt_dg (n + 1) w x + 1 < n + 1 := by omega
      have hy := tt_plt hq hd hw hx
      obtain ⟨s1, s2, s3⟩ := hb _ hy
      have h5 : 0 ≤ b (x + (n + 1) ^ w) := by omega
      have h6 : tt_ds (n + 1) x (tt_c fr P) + 1 ≤ H := by omega
      rw [tt_dsi hq hd, if_pos hw] at s3
      obtain ⟨s4, -⟩ := s3 h6
      obtain ⟨r, r1, r2⟩ := s4 h5
      obtain ⟨w1, w2, w3⟩ := tt_wl_p (fr := fr) P hw
      have hd' : tt_dg (n + 1) (tt_c fr (tt_wl fr w P)) x + 1 < n + 1 := by rw [w3]; exact hd
      have r1' : tt_co H P n fr (x + (n + 1) ^ tt_c fr (tt_wl fr w P)) (tt_ds (n + 1) x (tt_c fr P) + 1) r := by rw [w3]; exact r1
      obtain ⟨k1, k2⟩ := tt_go2 (g := g) hq hh w1 w2 hd' r1'
      exact ⟨hd, h5, rfl, _, k1, if_pos rfl, by rw [k2, r2]⟩
/-- what can stand at the next hour of a best row -/
theorem tt_exi {b : Nat → Int} {d : Nat → Nat} {x : Nat} (hq : n + 1 = 2 ∨ n + 1 = 3) (hg : ∀ p h, 0 ≤ g p h ∧ g p h ≤ 10) (hx : x < (n + 1) ^ tt_c fr P) (hb : ∀ y, y < (n + 1) ^ tt_c fr P → tt_sp H P n g fr y (b y)) (hh : tt_ds (n + 1) x (tt_c fr P) < H) (hp : tt_pf P n fr d (tt_ds (n + 1) x (tt_c fr P)) x) (h0 : 0 ≤ b x) (hv : ma_sm (tt_ds (n + 1) x (tt_c fr P)) (fun j => g (d j) j) + b x = v) (y : Nat) : tt_ex H P n g fr v d (tt_ds (n + 1) x (tt_c fr P)) y ↔ ∃ w, w < tt_c fr P ∧ y = tt_wl fr w P ∧ tt_gb P n g fr b x (tt_ds (n + 1) x (tt_c fr P)) w = b x := by
  constructor
  · rintro ⟨a, a1, a2, a3, a4⟩
    obtain ⟨k1, k2⟩ := tt_part (g := g) (by omega) hp a1 a2
    obtain ⟨m1, m2, m3, m4⟩ := tt_go1 hq hh k1
    have hw : tt_c fr (a (tt_ds (n + 1) x (tt_c fr P))) < tt_c fr P := tt_c_s m2 m1
    refine ⟨tt_c fr (a (tt_ds (n + 1) x (tt_c fr P))), hw, by rw [tt_wl_c m1 m2, a3], ?_⟩
    have hy := tt_plt hq m3 hw hx
    obtain ⟨s1, s2, s3⟩ := hb _ hy
    rw [tt_dsi hq m3, if_pos hw] at s3
    obtain ⟨-, s4⟩ := s3 (by omega)
    have s5 := s4 a m4
    have s6 := tt_cv_p (H := H) hg (tt_ds (n + 1) x (tt_c fr P) + 1) a
    have s7 := tt_cv_s (g := g) a hh
    have e : tt_gb P n g fr b x (tt_ds (n + 1) x (tt_c fr P)) (tt_c fr (a (tt_ds (n + 1) x (tt_c fr P)))) = g (a (tt_ds (n + 1) x (tt_c fr P))) (tt_ds (n + 1) x (tt_c fr P)) + b (x + (n + 1) ^ tt_c fr (a (tt_ds (n + 1) x (tt_c fr P)))) := by
      unfold tt_gb
      rw [if_neg (by omega), if_neg (by omega), tt_wl_c m1 m2]
    have s8 := hg (a (tt_ds (n + 1) x (tt_c fr P))) (tt_ds (n + 1) x (tt_c fr P))
    obtain ⟨-, -, -, r, r1, -, r3⟩ := tt_gbu hq hx hb hh hw (by rw [e]; omega)
    have s9 := ((hb x hx).2.2 (by omega)).2 r r1
    omega
  · rintro ⟨w, hw, rfl, e⟩
    obtain ⟨-, -, -, r, r1, r2, r3⟩ := tt_gbu hq hx hb hh hw (by omega)
    obtain ⟨k1, k2⟩ := tt_join (g := g) (by omega) hp r1
    refine ⟨_, k1, fun j hj => if_pos hj, ?_, ?_⟩
    · simp only [if_neg (Nat.lt_irrefl _)]
      exact r2
    · rw [k2, r3, e]
      exact hv
theorem tt_wl_m {w w' : Nat} (hw : w < tt_c fr P) (hw' : w' < tt_c fr P) (h : w ≤ w') : tt_wl fr w P ≤ tt_wl fr w' P := by
  obtain ⟨a1, a2, a3⟩ := tt_wl_p (fr := fr) P hw
  obtain ⟨b1, b2, b3⟩ := tt_wl_p (fr := fr) P hw'
  rcases (by omega : tt_wl fr w P ≤ tt_wl fr w' P ∨ tt_wl fr w' P < tt_wl fr w P) with c | c
  · exact c
  · have := tt_c_s b2 c
    omega
/-- the next place -/
theorem tt_pfs {d : Nat → Nat} {i x w : Nat} (hq : n + 1 = 2 ∨ n + 1 = 3) (hp : tt_pf P n fr d i x) (hw : w < tt_c fr P) (hd : tt_dg (n + 1) w x + 1 < n + 1) : tt_pf P n fr (fun j => if j = i then tt_wl fr w P else d j) (i + 1) (x + (n + 1) ^ w) := by
  obtain ⟨w1, w2, w3⟩ := tt_wl_p (fr := fr) P hw
  refine ⟨fun j hj => ?_, fun p hp' hf => ?_⟩
  · by_cases c : j = i
    · simp only [if_pos c]
      exact ⟨w1, w2⟩
    · simp only [if_neg c]
      exact hp.1 j (by omega)
  · have e : tt_c (fun j => decide ((if j = i then tt_wl fr w P else d j) = p)) (i + 1) = tt_c (fun j => decide (d j = p)) i + (if decide (tt_wl fr w P = p) = true then 1 else 0) := by
      have e1 : tt_c (fun j => decide ((if j = i then tt_wl fr w P else d j) = p)) (i + 1) = tt_c (fun j => decide ((if j = i then tt_wl fr w P else d j) = p)) i + (if decide ((if i = i then tt_wl fr w P else d i) = p) = true then 1 else 0) := rfl
      rw [e1, tt_c_c (k := fun j => decide (d j = p)) (fun j hj => by simp only [if_neg (show ¬ j = i by omega)])]
      simp only [if_true]
    rw [e, ← hp.2 p hp' hf]
    by_cases c : tt_wl fr w P = p
    · rw [decide_eq_true c, if_pos rfl, ← c, w3]
      exact tt_dgi hq hd
    · rw [decide_eq_false c, if_neg (by decide)]
      refine tt_dgo hq hd (fun h => c ?_)
      exact tt_c_i w2 hf (by rw [w3, h])
end TT5
