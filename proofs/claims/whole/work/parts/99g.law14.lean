/-! bounds of clauses -/
def lr_fl : List lr_L → List Int
  | [] => []
  | x :: l => x.2.1 ++ x.2.2.2.1 ++ lr_fl l
theorem lr_fl_1 (l : List lr_L) (x : lr_L) : lr_fl (l ++ [x]) = lr_fl l ++ (x.2.1 ++ x.2.2.2.1) := by
  induction l with
  | nil =>
    show x.2.1 ++ x.2.2.2.1 ++ [] = [] ++ _
    rw [List.append_nil, List.nil_append]
  | cons y l ih =>
    show y.2.1 ++ y.2.2.2.1 ++ lr_fl (l ++ [x]) = y.2.1 ++ y.2.2.2.1 ++ lr_fl l ++ _
    rw [ih, List.append_assoc (y.2.1 ++ y.2.2.2.1)]
def lr_ok (x : lr_L) : Prop := (x.1 = 121 ∨ x.1 = 118) ∧ ((x.2.1 = [] ∧ x.2.2.1 = fun _ => 1) ∨ (x.2.1 ≠ [] ∧ lr_pu 32 x.2.1 x.2.2.1)) ∧ lr_pu 32 x.2.2.2.1 x.2.2.2.2 ∧ (∀ c ∈ x.2.1 ++ x.2.2.2.1, -124 ≤ c ∧ c ≤ 10005) ∧ lr_num x.2.2.2.2 ∧ lr_tru x.2.2.1
def lr_yd (n a : Nat) (R : Nat ⊕ (Nat × lr_L)) : Prop := (∀ e, R = .inl e → e ≤ n) ∧ ∀ y, R = .inr y → a < y.1 ∧ y.1 ≤ n ∧ (y.2.2.1 ++ y.2.2.2.2.1).length + a ≤ y.1 ∧ lr_ok y.2
theorem lr_pu_ne {c : List Int} {v : lr_V} (h : lr_pu 32 c v) : c ≠ [] := by
  rintro rfl
  have := h (fun _ => 0) [] (by decide)
  simp [lr_run] at this
section Law14
variable {b : Nat → Int} {n r a p : Nat} {l : List lr_L} {q : lr_Q} {kd : Int}
theorem lr_qd_le {H G : Nat} {Pv : lr_V → Prop} (h : lr_qd n H Pv a q) (hg : H ≤ G) : lr_qd n G Pv a q := by
  obtain ⟨h1, h2, h3, h4, h5, h6⟩ := h
  exact ⟨h1, h2, h3, h4, lr_pu_le h5 hg, h6⟩
theorem lr_tl_g (w : tp_w b n) (h : lr_qd n 17 lr_tru a q) : (∀ e, lr_tl b n (lr_U b n 6) q = .inl e → e ≤ n) ∧ ∀ x, lr_tl b n (lr_U b n 6) q = .inr x → lr_qd n 18 lr_tru a x := by
  have hU := (lr_UC_g (b := b) w 6).1
  have h1 := lr_lp_g (H := 16) w lr_pA_h lr_pA_v hU 241 q a h
  have hT := lr_ch_g (H := 16) w lr_pA_h lr_pA_v hU
  unfold lr_tl
  match hR : lr_lp b n lr_pA (lr_U b n 6) 241 q with
  | .inl u => exact ⟨fun x hx => by have := Sum.inl.inj hx; have := h1.1 u hR; omega, fun x hx => by cases hx⟩
  | .inr x => exact lr_lp_g (H := 17) w lr_pO_h lr_pO_v hT 241 x a (lr_qd_le (h1.2 x hR) (by decide))
theorem lr_ru_g (w : tp_w b n) (hk : kd = 121 ∨ kd = 118) (h : lr_qd n 18 lr_tru a q) : lr_yd n a (lr_ru b n kd q) := by
  have hs := tp_s_b (b := b) h.2.1
  have hl := tp_l_b (a := q.1) w
  by_cases c : tp_l b n q.1 = 63
  · have hA := lr_S_g (b := b) w 6 (tp_s b n q.1 + 1) (by omega)
    match hR : lr_S b n 6 (tp_s b n q.1 + 1) with
    | .inl u =>
      have e : lr_ru b n kd q = .inl u := by
        unfold lr_ru
        rw [if_pos c, hR]
      rw [e]
      exact ⟨fun x hx => by have := Sum.inl.inj hx; have := hA.1 u hR; omega, fun x hx => by cases hx⟩
    | .inr x =>
      have e : lr_ru b n kd q = .inr (x.1, kd, q.2.1, q.2.2, x.2.1, x.2.2) := by
        unfold lr_ru
        rw [if_pos c, hR]
      rw [e]
      obtain ⟨h1, h2, h3, h4, h5, h6⟩ := h
      obtain ⟨x1, x2, x3, x4, x5, x6⟩ := hA.2 x hR
      have h5' := lr_pu_le h5 (show 18 ≤ 32 by decide)
      refine ⟨fun x hx => (by cases hx), fun y hy => ?_⟩
      cases hy
      refine ⟨by show a < x.1; omega, x2, ?_, hk, Or.inr ⟨lr_pu_ne h5', h5'⟩, lr_pu_le x5 (by decide), fun z hz => ?_, x6, h6⟩
      · show (q.2.1 ++ x.2.1).length + a ≤ x.1
        rw [List.length_append]
        omega
      · rcases List.mem_append.1 hz with hz | hz
        · exact h4 z hz
        · exact x4 z hz
  · have e : lr_ru b n kd q = .inl (tp_s b n q.1) := by
      unfold lr_ru
      rw [if_neg c]
    rw [e]
    exact ⟨fun x hx => by have := Sum.inl.inj hx; omega, fun x hx => by cases hx⟩
theorem lr_yd_e {u : Nat} (h : u ≤ n) : lr_yd n a (.inl u) := ⟨fun x hx => by have := Sum.inl.inj hx; omega, fun x hx => by cases hx⟩
theorem lr_bo_g (w : tp_w b n) (hk : kd = 121 ∨ kd = 118) (ha : a ≤ n) : lr_yd n a (lr_bo b n kd a) := by
  have hs := tp_s_b (b := b) ha
  by_cases c : tp_l b n a = 33 ∨ tp_l b n a = 40
  · have hC := (lr_UC_g (b := b) w 6).2 a ha
    match hR : lr_C b n 6 a with
    | .inl u =>
      have e : lr_bo b n kd a = .inl u := by
        unfold lr_bo
        rw [if_pos c, hR]
      rw [e]
      exact lr_yd_e (hC.1 u hR)
    | .inr q =>
      have e : lr_bo b n kd a = lr_ru b n kd q := by
        unfold lr_bo
        rw [if_pos c, hR]
      rw [e]
      exact lr_ru_g w hk (hC.2 q hR)
  · have hS := lr_S_g (b := b) w 6 a ha
    match hR : lr_S b n 6 a with
    | .inl u =>
      have e : lr_bo b n kd a = .inl u := by
        unfold lr_bo
        rw [if_neg c, hR]
      rw [e]
      exact lr_yd_e (hS.1 u hR)
    | .inr q =>
      have hq := hS.2 q hR
      have hs2 := tp_s_b (b := b) hq.2.1
      by_cases c5 : lr_pC (tp_l b n q.1) = true
      · have hM := lr_cm_g w (lr_S_g (b := b) w 6) hq
        match hR2 : lr_cm b n (lr_S b n 6) q with
        | .inl u =>
          have e : lr_bo b n kd a = .inl u := by
            unfold lr_bo
            rw [if_neg c, hR]
            simp only [if_pos c5, hR2]
          rw [e]
          exact lr_yd_e (hM.1 u hR2)
        | .inr q1 =>
          have hT := lr_tl_g (b := b) w (lr_qd_le (hM.2 q1 hR2) (show 3 + 2 * 6 + 1 ≤ 17 by decide))
          match hR3 : lr_tl b n (lr_U b n 6) q1 with
          | .inl u =>
            have e : lr_bo b n kd a = .inl u := by
              unfold lr_bo
              rw [if_neg c, hR]
              simp only [if_pos c5, hR2, hR3]
            rw [e]
            exact lr_yd_e (hT.1 u hR3)
          | .inr q2 =>
            have e : lr_bo b n kd a = lr_ru b n kd q2 := by
              unfold lr_bo
              rw [if_neg c, hR]
              simp only [if_pos c5, hR2, hR3]
            rw [e]
            exact lr_ru_g w hk (hT.2 q2 hR3)
      · have e : lr_bo b n kd a = .inr (tp_s b n q.1, kd, [], (fun _ => 1), q.2.1, q.2.2) := by
          unfold lr_bo
          rw [if_neg c, hR]
          simp only [if_neg c5]
        rw [e]
        obtain ⟨h1, h2, h3, h4, h5, h6⟩ := hq
        refine ⟨fun x hx => (by cases hx), fun y hy => ?_⟩
        cases hy
        refine ⟨by show a < tp_s b n q.1; omega, hs2.2, ?_, hk, Or.inl ⟨rfl, rfl⟩, lr_pu_le h5 (by decide), fun z hz => ?_, h6, fun _ => Or.inr rfl⟩
        · show ([] ++ q.2.1).length + a ≤ tp_s b n q.1
          rw [List.nil_append]
          omega
        · have hz' : z ∈ [] ++ q.2.1 := hz
          rw [List.nil_append] at hz'
          exact h4 z hz'
theorem lr_cz_g (w : tp_w b n) (ha : a ≤ n) : (∀ e, lr_cz b n a = .inl e → e ≤ n) ∧ ∀ y, lr_cz b n a = .inr y → a + 3 ≤ y.1 ∧ y.1 ≤ n ∧ (y.2.2.1 ++ y.2.2.2.2.1).length + a ≤ y.1 ∧ lr_ok y.2 := by
  have hs := tp_s_b (b := b) ha
  have hl := tp_l_b (a := a) w
  by_cases c : tp_l b n a = 121 ∨ tp_l b n a = 118
  · have hs2 := tp_s_b (b := b) (n := n) (a := tp_s b n a + 1) (by omega)
    have hl2 := tp_l_b (a := tp_s b n a + 1) w
    by_cases c2 : tp_l b n (tp_s b n a + 1) = 58
    · have e : lr_cz b n a = lr_bo b n (tp_l b n a) (tp_s b n (tp_s b n a + 1) + 1) := by
        unfold lr_cz
        rw [if_pos c, if_pos c2]
      rw [e]
      have h := lr_bo_g (b := b) w c (show tp_s b n (tp_s b n a + 1) + 1 ≤ n by omega)
      refine ⟨h.1, fun y hy => ?_⟩
      obtain ⟨h1, h2, h3, h4⟩ := h.2 y hy
      exact ⟨by omega, h2, by omega, h4⟩
    · have e : lr_cz b n a = .inl (tp_s b n (tp_s b n a + 1)) := by
        unfold lr_cz
        rw [if_pos c, if_neg c2]
      rw [e]
      exact ⟨fun x hx => by have := Sum.inl.inj hx; omega, fun x hx => by cases hx⟩
  · have e : lr_cz b n a = .inl (tp_s b n a) := by
      unfold lr_cz
      rw [if_neg c]
    rw [e]
    exact ⟨fun x hx => by have := Sum.inl.inj hx; omega, fun x hx => by cases hx⟩
theorem lr_unit_s {S : Nat → lr_R} {I : Option ((Nat → lr_R) × (Nat → lr_R))} (ha : a ≤ n) (hS : S (tp_s b n a) = S a) : lr_unit b n S I (tp_s b n a) = lr_unit b n S I a := by
  unfold lr_unit
  rw [tp_ss ha, tp_ll ha, hS]
theorem lr_C_s (k : Nat) (ha : a ≤ n) : lr_C b n k (tp_s b n a) = lr_C b n k a := by
  cases k with
  | zero => exact lr_ch_s (lr_ch_s (lr_unit_s ha (lr_S_s 0 ha)))
  | succ k => exact lr_ch_s (lr_ch_s (lr_unit_s ha (lr_S_s (k + 1) ha)))
theorem lr_cm_s {S : Nat → lr_R} (hq : q.1 ≤ n) : lr_cm b n S (tp_s b n q.1, q.2) = lr_cm b n S q := by
  unfold lr_cm
  simp only [tp_ss hq, tp_ll hq]
end Law14
