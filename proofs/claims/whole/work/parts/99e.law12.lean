/-! all of the class's readers, by depth -/
section Law12
variable {b : Nat → Int} {n r : Nat} {M : gs_M}
theorem lr_C_eq (k : Nat) : lr_C b n k = lr_ch b n lr_pO (lr_ch b n lr_pA (lr_U b n k)) := by
  cases k <;> rfl
theorem c_cm7 (w : tp_w b n) (hr : lr_r r) (K : tp_K b n M) (hM : M 104 1 = nI r) {k dp d : Nat} (hk : k + dp = 6) (hd : 3 * k + 4 ≤ d) : lr_cq b n r M (fun Z => g_0 d 7 (iI (dp : Int)) Z) (lr_cm b n (lr_S b n k)) := by
  obtain ⟨d, rfl⟩ : ∃ m, d = m + 1 := ⟨d - 1, by omega⟩
  exact c_cm w hr K hM (c_S w hr K hM k dp d hk (by omega)) (lr_S_g w k)
/-- from units to conditions -/
theorem c_UtoC (w : tp_w b n) (hr : lr_r r) (K : tp_K b n M) (hM : M 104 1 = nI r) {k dp : Nat} (hU : ∀ d, 4 * k + 5 ≤ d → lr_cg b n r M (fun Z => g_0 d 6 (iI (dp : Int)) Z) (lr_U b n k)) : (∀ d, 4 * k + 7 ≤ d → lr_cq b n r M (fun Z => g_0 d 4 (iI (dp : Int)) Z) (lr_tl b n (lr_U b n k))) ∧ ∀ d, 4 * k + 8 ≤ d → lr_cg b n r M (fun Z => g_0 d 3 (iI (dp : Int)) Z) (lr_C b n k) := by
  have hg := (lr_UC_g w k).1
  have hg2 := lr_ch_g w lr_pA_h lr_pA_v hg
  have h5 : ∀ d, 4 * k + 6 ≤ d → lr_cq b n r M (fun Z => g_0 d 5 (iI (dp : Int)) Z) (lr_lp b n lr_pA (lr_U b n k) 241) := fun d hd => by
    obtain ⟨d, rfl⟩ : ∃ m, d = m + 1 := ⟨d - 1, by omega⟩
    exact c_tt w hr K hM (hU d (by omega)) hg
  have h4 : ∀ d, 4 * k + 7 ≤ d → lr_cq b n r M (fun Z => g_0 d 4 (iI (dp : Int)) Z) (lr_tl b n (lr_U b n k)) := fun d hd => by
    obtain ⟨d, rfl⟩ : ∃ m, d = m + 1 := ⟨d - 1, by omega⟩
    exact c_tl w hr K hM (hU d (by omega)) (h5 d (by omega)) hg hg2
  refine ⟨h4, fun d hd => ?_⟩
  obtain ⟨d, rfl⟩ : ∃ m, d = m + 1 := ⟨d - 1, by omega⟩
  rw [lr_C_eq]
  exact c_cond hr (hU d (by omega)) (h4 d (by omega)) hg
theorem c_U (w : tp_w b n) (hr : lr_r r) (K : tp_K b n M) (hM : M 104 1 = nI r) : ∀ (k dp d : Nat), k + dp = 6 → 4 * k + 5 ≤ d → lr_cg b n r M (fun Z => g_0 d 6 (iI (dp : Int)) Z) (lr_U b n k) := by
  intro k
  induction k with
  | zero =>
    intro dp d hk hd
    obtain ⟨d, rfl⟩ : ∃ m, d = m + 1 := ⟨d - 1, by omega⟩
    exact c_unit (H := 0) w hr K hM (c_S w hr K hM 0 dp d hk (by omega)) (c_cm7 w hr K hM hk (by omega)) (lr_S_g w 0) (fun a ha => lr_S_s 0 ha) (Or.inl ⟨by omega, rfl⟩)
  | succ k ih =>
    intro dp d hk hd
    obtain ⟨d, rfl⟩ : ∃ m, d = m + 1 := ⟨d - 1, by omega⟩
    have h3 := (c_UtoC w hr K hM (k := k) (dp := dp + 1) (fun d hd => ih (dp + 1) d (by omega) hd)).2 d (by omega)
    have h6 := ih (dp + 1) d (by omega) (by omega)
    have hg := lr_UC_g (b := b) w k
    exact c_unit (H := 6 + 2 * k) w hr K hM (c_S w hr K hM (k + 1) dp d hk (by omega)) (c_cm7 w hr K hM hk (by omega)) (lr_S_g w (k + 1)) (fun a ha => lr_S_s (k + 1) ha) (Or.inr ⟨by omega, lr_UC b n k, rfl, h6, h3, lr_gd_le hg.1 (by omega), hg.2⟩)
theorem c_C (w : tp_w b n) (hr : lr_r r) (K : tp_K b n M) (hM : M 104 1 = nI r) {k dp d : Nat} (hk : k + dp = 6) (hd : 4 * k + 8 ≤ d) : lr_cg b n r M (fun Z => g_0 d 3 (iI (dp : Int)) Z) (lr_C b n k) := (c_UtoC w hr K hM (fun d hd => c_U w hr K hM k dp d hk hd)).2 d hd
theorem c_T4 (w : tp_w b n) (hr : lr_r r) (K : tp_K b n M) (hM : M 104 1 = nI r) {k dp d : Nat} (hk : k + dp = 6) (hd : 4 * k + 7 ≤ d) : lr_cq b n r M (fun Z => g_0 d 4 (iI (dp : Int)) Z) (lr_tl b n (lr_U b n k)) := (c_UtoC w hr K hM (fun d hd => c_U w hr K hM k dp d hk hd)).1 d hd
end Law12
