/-! all readers of a LAW keep the bounds -/
section Law3
variable {b : Nat → Int} {n H G : Nat} {Pv : lr_V → Prop} {A S : Nat → lr_R}
theorem lr_gd_le (h : lr_gd n H Pv A) (hg : H ≤ G) : lr_gd n G Pv A := fun a ha => ⟨(h a ha).1, fun q hq => by
  obtain ⟨h1, h2, h3, h4, h5, h6⟩ := (h a ha).2 q hq
  exact ⟨h1, h2, h3, h4, lr_pu_le h5 hg, h6⟩⟩
theorem lr_pT_h (z : Int) (h : lr_pT z = true) : 0 < z ∧ z ≤ 124 ∧ z ≠ 33 := by
  simp only [lr_pT, Bool.or_eq_true, beq_iff_eq] at h
  omega
theorem lr_pS_h (z : Int) (h : lr_pS z = true) : 0 < z ∧ z ≤ 124 ∧ z ≠ 33 := by
  simp only [lr_pS, Bool.or_eq_true, beq_iff_eq] at h
  omega
theorem lr_pA_h (z : Int) (h : lr_pA z = true) : 0 < z ∧ z ≤ 124 ∧ z ≠ 33 := by
  simp only [lr_pA, beq_iff_eq] at h
  omega
theorem lr_pO_h (z : Int) (h : lr_pO z = true) : 0 < z ∧ z ≤ 124 ∧ z ≠ 33 := by
  simp only [lr_pO, beq_iff_eq] at h
  omega
theorem lr_pC_h (z : Int) (h : lr_pC z = true) : z = 61 ∨ z = 60 ∨ z = 62 := by
  simp only [lr_pC, Bool.or_eq_true, beq_iff_eq] at h
  omega
theorem lr_num_op {z : Int} (h : z = 42 ∨ z = 43 ∨ z = 45 ∨ z = 47) (v u : lr_V) : lr_num (fun e => lr_op z (v e) (u e)) := by
  intro lo hi e h1 h2 _
  have := lr_op_n h (v e) (u e)
  show lo ≤ lr_op z (v e) (u e) ∧ lr_op z (v e) (u e) ≤ hi
  omega
theorem lr_tru_op {z : Int} (h : z ≠ 42 ∧ z ≠ 43 ∧ z ≠ 45 ∧ z ≠ 47) (v u : lr_V) : lr_tru (fun e => lr_op z (v e) (u e)) := fun e => lr_op_t h (v e) (u e)
theorem lr_pT_v (z : Int) (v u : lr_V) (h : lr_pT z = true) (_ : lr_num v) (_ : lr_num u) : lr_num (fun e => lr_op z (v e) (u e)) ∧ (z ≠ 42 ∧ z ≠ 43 ∧ z ≠ 45 ∧ z ≠ 47 ∧ z ≠ 60 ∧ z ≠ 61 ∧ z ≠ 62 → ∀ e, (v e = 0 ∨ v e = 1) ∧ (u e = 0 ∨ u e = 1)) := by
  simp only [lr_pT, Bool.or_eq_true, beq_iff_eq] at h
  exact ⟨lr_num_op (by omega) v u, fun hz => by omega⟩
theorem lr_pS_v (z : Int) (v u : lr_V) (h : lr_pS z = true) (_ : lr_num v) (_ : lr_num u) : lr_num (fun e => lr_op z (v e) (u e)) ∧ (z ≠ 42 ∧ z ≠ 43 ∧ z ≠ 45 ∧ z ≠ 47 ∧ z ≠ 60 ∧ z ≠ 61 ∧ z ≠ 62 → ∀ e, (v e = 0 ∨ v e = 1) ∧ (u e = 0 ∨ u e = 1)) := by
  simp only [lr_pS, Bool.or_eq_true, beq_iff_eq] at h
  exact ⟨lr_num_op (by omega) v u, fun hz => by omega⟩
theorem lr_pA_v (z : Int) (v u : lr_V) (h : lr_pA z = true) (hv : lr_tru v) (hu : lr_tru u) : lr_tru (fun e => lr_op z (v e) (u e)) ∧ (z ≠ 42 ∧ z ≠ 43 ∧ z ≠ 45 ∧ z ≠ 47 ∧ z ≠ 60 ∧ z ≠ 61 ∧ z ≠ 62 → ∀ e, (v e = 0 ∨ v e = 1) ∧ (u e = 0 ∨ u e = 1)) := by
  simp only [lr_pA, beq_iff_eq] at h
  exact ⟨lr_tru_op (by omega) v u, fun _ e => ⟨hv e, hu e⟩⟩
theorem lr_pO_v (z : Int) (v u : lr_V) (h : lr_pO z = true) (hv : lr_tru v) (hu : lr_tru u) : lr_tru (fun e => lr_op z (v e) (u e)) ∧ (z ≠ 42 ∧ z ≠ 43 ∧ z ≠ 45 ∧ z ≠ 47 ∧ z ≠ 60 ∧ z ≠ 61 ∧ z ≠ 62 → ∀ e, (v e = 0 ∨ v e = 1) ∧ (u e = 0 ∨ u e = 1)) := by
  simp only [lr_pO, beq_iff_eq] at h
  exact ⟨lr_tru_op (by omega) v u, fun _ e => ⟨hv e, hu e⟩⟩
theorem lr_atom_g (w : tp_w b n) {I : Option (Nat → lr_R)} (hI : ∀ S, I = some S → lr_gd n H lr_num S) (h1 : 1 ≤ H) : lr_gd n H lr_num (lr_atom b n I) := by
  intro a ha
  have hs := tp_s_b (b := b) ha
  have hl := tp_l_b (a := a) w
  have hi := lr_ix_b (tp_l b n a)
  have hn := tp_n4 w ha
  by_cases c : lr_ix (tp_l b n a) ≠ -1
  · have e : lr_atom b n I a = .inr (tp_s b n a + 1, [10000 + lr_ix (tp_l b n a)], fun e => e (lr_ix (tp_l b n a)).toNat) := if_pos c
    rw [e]
    refine ⟨fun x h => (by cases h), fun x hx => ?_⟩
    cases hx
    have hsn : tp_s b n a < n := by
      rcases hl with c5 | c5
      · rw [c5.1] at c
        exact absurd rfl c
      · exact c5.2.2.1
    refine ⟨by show a < tp_s b n a + 1; omega, hsn, by show 1 + a ≤ tp_s b n a + 1; omega, fun y hy => ?_, lr_pu_le (H := 1) ?_ h1, fun lo hi e z1 z2 z3 => z3 _ (by omega)⟩
    · have hy' := List.mem_singleton.1 hy
      omega
    · intro e st hst
      have := lr_pu_1 (c := 10000 + lr_ix (tp_l b n a)) (by omega) e st hst
      rw [this]
      show some ((if 10000 ≤ 10000 + lr_ix (tp_l b n a) then e (10000 + lr_ix (tp_l b n a) - 10000).toNat else _) :: st) = some (e (lr_ix (tp_l b n a)).toNat :: st)
      rw [if_pos (by omega), show 10000 + lr_ix (tp_l b n a) - 10000 = lr_ix (tp_l b n a) by omega]
  · by_cases c2 : tp_l b n a = 91
    · match I, hI with
      | none, _ =>
        have e : lr_atom b n none a = .inl (tp_s b n a) := by
          unfold lr_atom
          rw [if_neg c, if_pos c2]
        rw [e]
        exact ⟨fun x h => by have := Sum.inl.inj h; omega, fun x h => by cases h⟩
      | some S, hI =>
        have e : lr_atom b n (some S) a = lr_cs b n 93 (S (tp_s b n a + 1)) := by
          unfold lr_atom
          rw [if_neg c, if_pos c2]
        rw [e]
        have hS := hI S rfl (tp_s b n a + 1) (by omega)
        exact lr_cs_g w (by decide) ⟨hS.1, fun q hq => lr_qd_up (hS.2 q hq) (by omega)⟩
    · match hR : tp_n b n 4 a with
      | .inl u =>
        have e : lr_atom b n I a = .inl u := by
          unfold lr_atom
          rw [if_neg c, if_neg c2, hR]
        rw [e]
        exact ⟨fun x h => by have := Sum.inl.inj h; have := hn.1 u hR; omega, fun x h => by cases h⟩
      | .inr q =>
        have e : lr_atom b n I a = .inr (q.1, [q.2], fun _ => q.2) := by
          unfold lr_atom
          rw [if_neg c, if_neg c2, hR]
        rw [e]
        obtain ⟨q1, q2, q3, q4⟩ := hn.2 q hR
        refine ⟨fun x h => (by cases h), fun x hx => ?_⟩
        cases hx
        refine ⟨q1, q2, by show 1 + a ≤ q.1; omega, fun y hy => ?_, lr_pu_le (H := 1) ?_ h1, fun lo hi e z1 z2 z3 => ⟨by show lo ≤ q.2; omega, by show q.2 ≤ hi; omega⟩⟩
        · have hy' := List.mem_singleton.1 hy
          omega
        · intro e st hst
          have := lr_pu_1 (c := q.2) q3 e st hst
          rw [this]
          show some ((if 10000 ≤ q.2 then e (q.2 - 10000).toNat else q.2) :: st) = some (q.2 :: st)
          rw [if_neg (by omega)]
theorem lr_sum_g (w : tp_w b n) {I : Option (Nat → lr_R)} (hI : ∀ S, I = some S → lr_gd n H lr_num S) (h1 : 1 ≤ H) : lr_gd n (H + 2) lr_num (lr_sum b n I) := lr_ch_g w lr_pS_h lr_pS_v (lr_ch_g w lr_pT_h lr_pT_v (lr_atom_g w hI h1))
theorem lr_S_g (w : tp_w b n) : ∀ k, lr_gd n (3 + 2 * k) lr_num (lr_S b n k) := by
  intro k
  induction k with
  | zero => exact lr_sum_g (H := 1) w (fun S h => by cases h) (by decide)
  | succ k ih =>
    have := lr_sum_g (H := 3 + 2 * k) w (I := some (lr_S b n k)) (fun S h => by cases h; exact ih) (by omega)
    exact lr_gd_le this (by omega)
theorem lr_cm_g (w : tp_w b n) (hS : lr_gd n G lr_num S) {q : lr_Q} {a : Nat} (hq : lr_qd n G lr_num a q) : (∀ e, lr_cm b n S q = .inl e → e ≤ n) ∧ ∀ x, lr_cm b n S q = .inr x → lr_qd n (G + 1) lr_tru a x := by
  have hs := tp_s_b (b := b) hq.2.1
  have hl := tp_l_b (a := q.1) w
  by_cases c : lr_pC (tp_l b n q.1) = true
  · have hz := lr_pC_h _ c
    have hA' := hS (tp_s b n q.1 + 1) (by omega)
    match hR : S (tp_s b n q.1 + 1) with
    | .inl u =>
      have e : lr_cm b n S q = .inl u := by simp only [lr_cm, if_pos c, hR]
      rw [e]
      have := hA'.1 u hR
      exact ⟨fun x h => by have := Sum.inl.inj h; omega, fun x h => by cases h⟩
    | .inr x =>
      have e : lr_cm b n S q = .inr (x.1, q.2.1 ++ x.2.1 ++ [-(tp_l b n q.1)], fun e => lr_op (tp_l b n q.1) (q.2.2 e) (x.2.2 e)) := by simp only [lr_cm, if_pos c, hR]
      rw [e]
      obtain ⟨h1, h2, h3, h4, h5, h6⟩ := hq
      obtain ⟨x1, x2, x3, x4, x5, x6⟩ := hA'.2 x hR
      refine ⟨fun x h => (by cases h), fun y hy => ?_⟩
      cases hy
      refine ⟨by show a < x.1; omega, x2, ?_, ?_, lr_pu_2 (lr_pu_le h5 (by omega)) x5 (by omega) (by omega) (fun hz => by omega), lr_tru_op (by omega) _ _⟩
      · show (q.2.1 ++ x.2.1 ++ [-(tp_l b n q.1)]).length + a ≤ x.1
        rw [List.length_append, List.length_append]
        simp only [List.length_cons, List.length_nil]
        omega
      · intro y hy
        have hy' : y ∈ q.2.1 ++ x.2.1 ++ [-(tp_l b n q.1)] := hy
        rw [List.mem_append, List.mem_append, List.mem_singleton] at hy'
        rcases hy' with (hy' | hy') | hy'
        · exact h4 y hy'
        · exact x4 y hy'
        · omega
  · have e : lr_cm b n S q = .inl (tp_s b n q.1) := by simp only [lr_cm, if_neg c]
    rw [e]
    exact ⟨fun x h => by have := Sum.inl.inj h; omega, fun x h => by cases h⟩
theorem lr_unit_g (w : tp_w b n) (hS : lr_gd n G lr_num S) {I : Option ((Nat → lr_R) × (Nat → lr_R))} (hI : ∀ J, I = some J → lr_gd n H lr_tru J.1 ∧ lr_gd n H lr_tru J.2) (hG : G + 1 ≤ H) : lr_gd n H lr_tru (lr_unit b n S I) := by
  intro a ha
  have hs := tp_s_b (b := b) ha
  have hl := tp_l_b (a := a) w
  by_cases c : tp_l b n a = 33
  · match I, hI with
    | none, _ =>
      have e : lr_unit b n S none a = .inl (tp_s b n a) := by
        unfold lr_unit
        rw [if_pos c]
      rw [e]
      exact ⟨fun x h => by have := Sum.inl.inj h; omega, fun x h => by cases h⟩
    | some J, hI =>
      have hJ := (hI J rfl).1 (tp_s b n a + 1) (by omega)
      match hR : J.1 (tp_s b n a + 1) with
      | .inl u =>
        have e : lr_unit b n S (some J) a = .inl u := by
          unfold lr_unit
          rw [if_pos c]
          simp only [hR]
        rw [e]
        exact ⟨fun x h => by have := Sum.inl.inj h; have := hJ.1 u hR; omega, fun x h => by cases h⟩
      | .inr q =>
        have e : lr_unit b n S (some J) a = .inr (q.1, q.2.1 ++ [-33], fun e => 1 - q.2.2 e) := by
          unfold lr_unit
          rw [if_pos c]
          simp only [hR]
        rw [e]
        obtain ⟨x1, x2, x3, x4, x5, x6⟩ := hJ.2 q hR
        refine ⟨fun x h => (by cases h), fun y hy => ?_⟩
        cases hy
        refine ⟨by show a < q.1; omega, x2, ?_, ?_, lr_pu_n x5 x6, fun e => ?_⟩
        · show (q.2.1 ++ [-33]).length + a ≤ q.1
          rw [List.length_append]
          simp only [List.length_cons, List.length_nil]
          omega
        · intro y hy
          have hy' : y ∈ q.2.1 ++ [-33] := hy
          rw [List.mem_append, List.mem_singleton] at hy'
          rcases hy' with hy' | hy'
          · exact x4 y hy'
          · omega
        · show 1 - q.2.2 e = 0 ∨ 1 - q.2.2 e = 1
          have := x6 e
          omega
  · by_cases c2 : tp_l b n a = 40
    · match I, hI with
      | none, _ =>
        have e : lr_unit b n S none a = .inl (tp_s b n a) := by
          unfold lr_unit
          rw [if_neg c, if_pos c2]
        rw [e]
        exact ⟨fun x h => by have := Sum.inl.inj h; omega, fun x h => by cases h⟩
      | some J, hI =>
        have hJ := (hI J rfl).2 (tp_s b n a + 1) (by omega)
        have e : lr_unit b n S (some J) a = lr_cs b n 41 (J.2 (tp_s b n a + 1)) := by
          unfold lr_unit
          rw [if_neg c, if_pos c2]
        rw [e]
        exact lr_cs_g w (by decide) ⟨hJ.1, fun q hq => lr_qd_up (hJ.2 q hq) (by omega)⟩
    · have hS' := hS a ha
      match hR : S a with
      | .inl u =>
        have e : lr_unit b n S I a = .inl u := by
          unfold lr_unit
          rw [if_neg c, if_neg c2, hR]
        rw [e]
        exact ⟨fun x h => by have := Sum.inl.inj h; have := hS'.1 u hR; omega, fun x h => by cases h⟩
      | .inr q =>
        have e : lr_unit b n S I a = lr_cm b n S q := by
          unfold lr_unit
          rw [if_neg c, if_neg c2, hR]
        rw [e]
        have h := lr_cm_g w hS (hS'.2 q hR)
        exact ⟨h.1, fun x hx => by
          obtain ⟨h1, h2, h3, h4, h5, h6⟩ := h.2 x hx
          exact ⟨h1, h2, h3, h4, lr_pu_le h5 hG, h6⟩⟩
theorem lr_UC_g (w : tp_w b n) : ∀ k, lr_gd n (4 + 2 * k) lr_tru (lr_U b n k) ∧ lr_gd n (6 + 2 * k) lr_tru (lr_C b n k) := by
  intro k
  induction k with
  | zero =>
    have h : lr_gd n 4 lr_tru (lr_unit b n (lr_S b n 0) none) := lr_unit_g w (lr_S_g w 0) (fun J h => by cases h) (by decide)
    exact ⟨h, lr_ch_g w lr_pO_h lr_pO_v (lr_ch_g w lr_pA_h lr_pA_v h)⟩
  | succ k ih =>
    have h : lr_gd n (6 + 2 * k) lr_tru (lr_unit b n (lr_S b n (k + 1)) (some (lr_UC b n k))) := lr_unit_g w (lr_S_g w (k + 1)) (fun J h => by cases h; exact ⟨lr_gd_le ih.1 (by omega), ih.2⟩) (by omega)
    exact ⟨lr_gd_le h (by omega), lr_gd_le (lr_ch_g w lr_pO_h lr_pO_v (lr_ch_g w lr_pA_h lr_pA_v h)) (by omega)⟩
end Law3
