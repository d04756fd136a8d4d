/-! bounds of what is read -/
def lr_qd (n H : Nat) (Pv : lr_V → Prop) (a : Nat) (q : lr_Q) : Prop := a < q.1 ∧ q.1 ≤ n ∧ q.2.1.length + a ≤ q.1 ∧ (∀ c ∈ q.2.1, -124 ≤ c ∧ c ≤ 10005) ∧ lr_pu H q.2.1 q.2.2 ∧ Pv q.2.2
def lr_gd (n H : Nat) (Pv : lr_V → Prop) (A : Nat → lr_R) : Prop := ∀ a, a ≤ n → (∀ e, A a = .inl e → e ≤ n) ∧ ∀ q, A a = .inr q → lr_qd n H Pv a q
def lr_num (v : lr_V) : Prop := ∀ (lo hi : Int) (e : Nat → Int), lo ≤ -1000000 → 1000000 ≤ hi → (∀ i, i < 6 → lo ≤ e i ∧ e i ≤ hi) → lo ≤ v e ∧ v e ≤ hi
def lr_tru (v : lr_V) : Prop := ∀ e, v e = 0 ∨ v e = 1
theorem lr_cl_b (x : Int) : -1000000 ≤ lr_cl x ∧ lr_cl x ≤ 1000000 := by
  unfold lr_cl
  split
  · omega
  · split <;> omega
theorem lr_op_n {z : Int} (h : z = 42 ∨ z = 43 ∨ z = 45 ∨ z = 47) (x y : Int) : -1000000 ≤ lr_op z x y ∧ lr_op z x y ≤ 1000000 := by
  unfold lr_op
  repeat' split
  all_goals first
    | exact lr_cl_b _
    | omega
theorem lr_op_t {z : Int} (h : z ≠ 42 ∧ z ≠ 43 ∧ z ≠ 45 ∧ z ≠ 47) (x y : Int) : lr_op z x y = 0 ∨ lr_op z x y = 1 := by
  unfold lr_op
  rw [if_neg h.1, if_neg h.2.1, if_neg h.2.2.1, if_neg h.2.2.2]
  repeat' split
  all_goals omega
section Law2
variable {b : Nat → Int} {n H : Nat} {Pv : lr_V → Prop} {A : Nat → lr_R}
theorem lr_qd_s {q : lr_Q} {a : Nat} (w : tp_w b n) (h : lr_qd n H Pv a q) : lr_qd n H Pv a (tp_s b n q.1, q.2) := by
  obtain ⟨h1, h2, h3, h4, h5, h6⟩ := h
  have hs := tp_s_b (b := b) h2
  exact ⟨by show a < tp_s b n q.1; omega, hs.2, by show q.2.1.length + a ≤ tp_s b n q.1; omega, h4, h5, h6⟩
theorem lr_lp_g (w : tp_w b n) {P : Int → Bool} (hP : ∀ z, P z = true → 0 < z ∧ z ≤ 124 ∧ z ≠ 33) (hV : ∀ z v u, P z = true → Pv v → Pv u → Pv (fun e => lr_op z (v e) (u e)) ∧ (z ≠ 42 ∧ z ≠ 43 ∧ z ≠ 45 ∧ z ≠ 47 ∧ z ≠ 60 ∧ z ≠ 61 ∧ z ≠ 62 → ∀ e, (v e = 0 ∨ v e = 1) ∧ (u e = 0 ∨ u e = 1))) (hA : lr_gd n H Pv A) : ∀ (d : Nat) (q : lr_Q) (a : Nat), lr_qd n (H + 1) Pv a q → (∀ e, lr_lp b n P A d q = .inl e → e ≤ n) ∧ ∀ x, lr_lp b n P A d q = .inr x → lr_qd n (H + 1) Pv a x := by
  intro d
  induction d with
  | zero =>
    intro q a h
    have hs := tp_s_b (b := b) h.2.1
    have e : lr_lp b n P A 0 q = .inl (tp_s b n q.1) := rfl
    rw [e]
    exact ⟨fun x h => by have := Sum.inl.inj h; omega, fun x h => by cases h⟩
  | succ d ih =>
    intro q a h
    have hs := tp_s_b (b := b) h.2.1
    have hl := tp_l_b (a := q.1) w
    by_cases c : P (tp_l b n q.1) = true
    · have hz := hP _ c
      have hA' := hA (tp_s b n q.1 + 1) (by omega)
      match hR : A (tp_s b n q.1 + 1) with
      | .inl u =>
        have e : lr_lp b n P A (d + 1) q = .inl u := by simp only [lr_lp, if_pos c, hR]
        rw [e]
        have := hA'.1 u hR
        exact ⟨fun x h => by have := Sum.inl.inj h; omega, fun x h => by cases h⟩
      | .inr x =>
        have e : lr_lp b n P A (d + 1) q = lr_lp b n P A d (x.1, q.2.1 ++ x.2.1 ++ [-(tp_l b n q.1)], fun e => lr_op (tp_l b n q.1) (q.2.2 e) (x.2.2 e)) := by simp only [lr_lp, if_pos c, hR]
        rw [e]
        obtain ⟨h1, h2, h3, h4, h5, h6⟩ := h
        obtain ⟨x1, x2, x3, x4, x5, x6⟩ := hA'.2 x hR
        refine ih _ a ⟨by show a < x.1; omega, x2, ?_, ?_, lr_pu_2 h5 x5 hz.1 hz.2.2 (hV _ _ _ c h6 x6).2, (hV _ _ _ c h6 x6).1⟩
        · show (q.2.1 ++ x.2.1 ++ [-(tp_l b n q.1)]).length + a ≤ x.1
          rw [List.length_append, List.length_append]
          simp only [List.length_cons, List.length_nil]
          omega
        · intro y hy
          have hy' : y ∈ q.2.1 ++ x.2.1 ++ [-(tp_l b n q.1)] := hy
          rw [List.mem_append, List.mem_append, List.mem_singleton] at hy'
          rcases hy' with (hy' | hy') | hy'
          · exact h4 y hy'
          · exact x4 y hy'
          · omega
    · have e : lr_lp b n P A (d + 1) q = .inr (tp_s b n q.1, q.2) := by simp only [lr_lp, if_neg c]
      rw [e]
      refine ⟨fun x h => (by cases h), fun x hx => ?_⟩
      cases hx
      exact lr_qd_s w h
theorem lr_ch_g (w : tp_w b n) {P : Int → Bool} (hP : ∀ z, P z = true → 0 < z ∧ z ≤ 124 ∧ z ≠ 33) (hV : ∀ z v u, P z = true → Pv v → Pv u → Pv (fun e => lr_op z (v e) (u e)) ∧ (z ≠ 42 ∧ z ≠ 43 ∧ z ≠ 45 ∧ z ≠ 47 ∧ z ≠ 60 ∧ z ≠ 61 ∧ z ≠ 62 → ∀ e, (v e = 0 ∨ v e = 1) ∧ (u e = 0 ∨ u e = 1))) (hA : lr_gd n H Pv A) : lr_gd n (H + 1) Pv (lr_ch b n P A) := by
  intro a ha
  have hA' := hA a ha
  unfold lr_ch
  match hR : A a with
  | .inl u =>
    exact ⟨fun x h => by have := Sum.inl.inj h; have := hA'.1 u hR; omega, fun x h => by cases h⟩
  | .inr q =>
    obtain ⟨h1, h2, h3, h4, h5, h6⟩ := hA'.2 q hR
    exact lr_lp_g w hP hV hA 241 q a ⟨h1, h2, h3, h4, lr_pu_le h5 (by omega), h6⟩
theorem lr_cs_g (w : tp_w b n) {z : Int} (hz : 0 < z) {R : lr_R} {a : Nat} (h : (∀ e, R = .inl e → e ≤ n) ∧ ∀ q, R = .inr q → lr_qd n H Pv a q) : (∀ e, lr_cs b n z R = .inl e → e ≤ n) ∧ ∀ q, lr_cs b n z R = .inr q → lr_qd n H Pv a q := by
  match R, h with
  | .inl u, h => exact ⟨fun x hx => by have := Sum.inl.inj hx; have := h.1 u rfl; omega, fun x h => by cases h⟩
  | .inr q, h =>
    have hq := h.2 q rfl
    have hs := tp_s_b (b := b) hq.2.1
    have hl := tp_l_b (a := q.1) w
    by_cases c : tp_l b n q.1 = z
    · have e : lr_cs b n z (.inr q) = .inr (tp_s b n q.1 + 1, q.2) := if_pos c
      rw [e]
      refine ⟨fun x h => (by cases h), fun x hx => ?_⟩
      cases hx
      obtain ⟨h1, h2, h3, h4, h5, h6⟩ := hq
      exact ⟨by show a < tp_s b n q.1 + 1; omega, by show tp_s b n q.1 + 1 ≤ n; omega, by show q.2.1.length + a ≤ tp_s b n q.1 + 1; omega, h4, h5, h6⟩
    · have e : lr_cs b n z (.inr q) = .inl (tp_s b n q.1) := if_neg c
      rw [e]
      exact ⟨fun x h => by have := Sum.inl.inj h; omega, fun x h => by cases h⟩
theorem lr_ix_b (z : Int) : lr_ix z = -1 ∨ (0 ≤ lr_ix z ∧ lr_ix z ≤ 5) := by
  unfold lr_ix
  repeat' split
  all_goals omega
theorem lr_qd_up {q : lr_Q} {a a' : Nat} (h : lr_qd n H Pv a' q) (ha : a ≤ a') : lr_qd n H Pv a q := by
  obtain ⟨h1, h2, h3, h4, h5, h6⟩ := h
  exact ⟨by omega, h2, by omega, h4, h5, h6⟩
theorem tp_n4 (w : tp_w b n) {a : Nat} (ha : a ≤ n) : (∀ e, tp_n b n 4 a = .inl e → e ≤ n) ∧ ∀ q, tp_n b n 4 a = .inr q → a < q.1 ∧ q.1 ≤ n ∧ 0 ≤ q.2 ∧ q.2 ≤ 9999 := by
  have h1 := tp_s_b (b := b) ha
  have hl := tp_l_b (a := a) w
  have h2 := tp_d_b (b := b) 4 (tp_s b n a) 0 h1.2
  have h3 := tp_d_v (b := b) (n := n) 4 (tp_s b n a) 0 0 (by omega) (by omega)
  have h4 : (48 ≤ tp_l b n a ∧ tp_l b n a ≤ 57) → tp_s b n a < (tp_d b n 4 (tp_s b n a) 0).1 := fun c => by
    have h5 := tp_d_b (b := b) (n := n) 3 (tp_s b n a + 1) (0 * 10 + b (tp_s b n a) - 48) (by omega)
    have e : tp_d b n 4 (tp_s b n a) 0 = tp_d b n 3 (tp_s b n a + 1) (0 * 10 + b (tp_s b n a) - 48) := by
      rw [tp_d]
      rw [if_pos (show tp_s b n a < n ∧ 48 ≤ b (tp_s b n a) ∧ b (tp_s b n a) ≤ 57 by omega)]
    rw [e]
    omega
  unfold tp_n
  by_cases c : 48 ≤ tp_l b n a ∧ tp_l b n a ≤ 57
  · rw [if_pos c]
    have h6 := h4 c
    split
    · exact ⟨fun x h => by have := Sum.inl.inj h; omega, fun x h => by cases h⟩
    · refine ⟨fun x h => (by cases h), fun x h => ?_⟩
      have h7 := Sum.inr.inj h
      subst h7
      refine ⟨by omega, by omega, h3.1, ?_⟩
      have := h3.2
      omega
  · rw [if_neg c]
    exact ⟨fun x h => by have := Sum.inl.inj h; omega, fun x h => by cases h⟩
end Law2
