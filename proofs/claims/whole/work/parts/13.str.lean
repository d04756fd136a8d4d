/-! String's length, charAt and indexOf at the four constants -/
theorem gs_len_ok : ∀ j, j < 4 → f_J0_length_8abf5 j = some (gs_ln j) := by decide +kernel
theorem gs_chr_all : ∀ j, j < 4 → ∀ k, k < gs_len.getD j 0 → f_J0_charAt_5068e j (nI k) = gs_chr j (nI k) := by decide +kernel
theorem gs_chr_ok {j : Nat} (hj : j < 4) {x v : Int32} (h : gs_chr j x = some v) : f_J0_charAt_5068e j x = some v := by
  have h' := h
  obtain ⟨h1, -⟩ := gs_some h
  obtain ⟨k, hk, rfl⟩ := nI_of (x := x) (fun z => h1 (Or.inl z))
  have h2 : k < gs_len.getD j 0 := by
    rw [nI_clamp hk] at h1
    exact Nat.not_le.mp fun z => h1 (Or.inr z)
  rw [gs_chr_all j hj k h2]
  exact h'
theorem gs_idx_all : ∀ j, j < 4 → ∀ k, k < 256 → f_J0_indexOf_0f7a4 j (nI k) = some (gs_spot j (nI k)) := by decide +kernel
theorem gs_spot_no : ∀ j, j < 4 → ∀ b ∈ gs_byt.getD j [], 0 ≤ b ∧ b ≤ 255 := by decide +kernel
theorem gs_find_no {c : Int32} : ∀ (l : List Int32) (i : Int32), (∀ b ∈ l, ¬ b = c) → gs_find l c i = -1
  | [], _, _ => rfl
  | b :: l, i, h => by
    rw [gs_find, if_neg (h b List.mem_cons_self)]
    exact gs_find_no l (i + 1) (fun q hq => h q (List.mem_cons_of_mem _ hq))
theorem gs_idx_ok {j : Nat} (hj : j < 4) (c : Int32) : f_J0_indexOf_0f7a4 j c = some (gs_spot j c) := by
  by_cases hc : c < 0 ∨ 255 < c
  · have h1 : gs_spot j c = -1 := by
      apply gs_find_no
      intro b hb e
      subst e
      obtain ⟨g1, g2⟩ := gs_spot_no j hj b hb
      rcases hc with h | h
      · exact absurd g1 (Int32.not_le.mpr h)
      · exact absurd g2 (Int32.not_le.mpr h)
    have h2 : f_J1_canEncode_9a6ad c = some 0 := by
      unfold f_J1_canEncode_9a6ad
      rcases hc with h | h
      · rw [if_pos h]; rfl
      · by_cases h0 : c < 0
        · rw [if_pos h0]; rfl
        · rw [if_neg h0, if_pos h]; rfl
    rw [h1]
    unfold f_J0_indexOf_0f7a4 f_J0_indexOf_7cf53
    rw [show f_J0_isLatin1_aae02 j = some 1 from rfl, gs_len_ok j hj]
    simp only [gs_s1]
    unfold f_J1_indexOf_4cfef
    rw [h2]
    rfl
  · have h0 : ¬ c < 0 := fun h => hc (Or.inl h)
    obtain ⟨k, hk, rfl⟩ := nI_of2 (x := c) (M := 255) (n := 255) (by decide) h0 (Int32.not_lt.mp fun h => hc (Or.inr h))
    exact gs_idx_all j hj k (by omega)
section Str
variable {X : gs_X} {own : String} {cc : ByteArray} {nL : Nat} {rt : Option FieldType} {n : Nat} {ls ls' : List (Nat × Value)} {st st0 : List Value} {M M' : gs_M} {L L' : gs_L}
theorem gs_strlen (C : gs_C X own cc nL rt n) {pc i : Nat} (j : Nat) (hj : j < 4) (hd : decode cc pc = .ok (.invokevirtual i, 3)) (hm : Cond.methodLink own i yJ0_length_8abf5 ∈ gs_W) (hn : 6 < n) (hst : (st.map fun v => v.category).sum ≤ 8) (k : gs_AW X (pc + 3) ls (.int (gs_ln j) :: st) M L) : gs_AW X pc ls (.ref (1000 + j) :: st) M L := gs_callX C [] hj hd hm wy_J0_length_8abf5 (a_J0_length_8abf5 _ hj (gs_len_ok j hj)) (Nat.lt_of_le_of_lt (by decide) hn) rfl rfl hst rfl k
theorem gs_strchr (C : gs_C X own cc nL rt n) {pc i : Nat} {x v : Int32} (j : Nat) (hj : j < 4) (hd : decode cc pc = .ok (.invokevirtual i, 3)) (hm : Cond.methodLink own i yJ0_charAt_5068e ∈ gs_W) (hn : 8 < n) (hst : (st.map fun v => v.category).sum ≤ 8) (hv : gs_chr j x = some v) (k : gs_AW X (pc + 3) ls (.int v :: st) M L) : gs_AW X pc ls (.int x :: .ref (1000 + j) :: st) M L := gs_callX C [.int x] hj hd hm wy_J0_charAt_5068e (a_J0_charAt_5068e _ hj (gs_chr_ok hj hv)) (Nat.lt_of_le_of_lt (by decide) hn) rfl rfl hst rfl k
theorem gs_stridx (C : gs_C X own cc nL rt n) {pc i : Nat} {x : Int32} (j : Nat) (hj : j < 4) (hd : decode cc pc = .ok (.invokevirtual i, 3)) (hm : Cond.methodLink own i yJ0_indexOf_0f7a4 ∈ gs_W) (hn : 8 < n) (hst : (st.map fun v => v.category).sum ≤ 8) (k : gs_AW X (pc + 3) ls (.int (gs_spot j x) :: st) M L) : gs_AW X pc ls (.int x :: .ref (1000 + j) :: st) M L := gs_callX C [.int x] hj hd hm wy_J0_indexOf_0f7a4 (a_J0_indexOf_0f7a4 _ hj (gs_idx_ok hj x)) (Nat.lt_of_le_of_lt (by decide) hn) rfl rfl hst rfl k
end Str
