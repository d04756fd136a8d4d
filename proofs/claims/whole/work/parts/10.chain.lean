/-! steps that may fail, chained; places by their shapes -/
def gs_b1 {α0 β : Type} (o : Option (α0)) (f : α0 → Option β) : Option β := o.bind fun t => f t
theorem gs_o1 {α0 β : Type} {o : Option (α0)} {f : α0 → Option β} {r : β} (h : gs_b1 o f = some r) : ∃ a0, o = some a0 ∧ f a0 = some r := by
  cases o with
  | none => cases h
  | some t => exact ⟨t, rfl, h⟩
theorem gs_i1 {α0 : Type} {a0 b0 : α0} (h : some a0 = some b0) : b0 = a0 := by
  injection h with h
  exact h.symm
theorem gs_s1 {α0 β : Type} (a0 : α0) (f : α0 → Option β) : gs_b1 (some a0) f = f a0 := rfl
def gs_b2 {α0 α1 β : Type} (o : Option (α0 × α1)) (f : α0 → α1 → Option β) : Option β := o.bind fun t => f t.1 t.2
theorem gs_o2 {α0 α1 β : Type} {o : Option (α0 × α1)} {f : α0 → α1 → Option β} {r : β} (h : gs_b2 o f = some r) : ∃ a0 a1, o = some (a0, a1) ∧ f a0 a1 = some r := by
  cases o with
  | none => cases h
  | some t => exact ⟨t.1, t.2, rfl, h⟩
theorem gs_i2 {α0 α1 : Type} {a0 b0 : α0} {a1 b1 : α1} (h : some (a0, a1) = some (b0, b1)) : b0 = a0 ∧ b1 = a1 := by
  injection h with h
  simp only [Prod.mk.injEq] at h
  exact ⟨h.1.symm, h.2.symm⟩
theorem gs_s2 {α0 α1 β : Type} (a0 : α0) (a1 : α1) (f : α0 → α1 → Option β) : gs_b2 (some (a0, a1)) f = f a0 a1 := rfl
def gs_b3 {α0 α1 α2 β : Type} (o : Option (α0 × α1 × α2)) (f : α0 → α1 → α2 → Option β) : Option β := o.bind fun t => f t.1 t.2.1 t.2.2
theorem gs_o3 {α0 α1 α2 β : Type} {o : Option (α0 × α1 × α2)} {f : α0 → α1 → α2 → Option β} {r : β} (h : gs_b3 o f = some r) : ∃ a0 a1 a2, o = some (a0, a1, a2) ∧ f a0 a1 a2 = some r := by
  cases o with
  | none => cases h
  | some t => exact ⟨t.1, t.2.1, t.2.2, rfl, h⟩
theorem gs_i3 {α0 α1 α2 : Type} {a0 b0 : α0} {a1 b1 : α1} {a2 b2 : α2} (h : some (a0, a1, a2) = some (b0, b1, b2)) : b0 = a0 ∧ b1 = a1 ∧ b2 = a2 := by
  injection h with h
  simp only [Prod.mk.injEq] at h
  exact ⟨h.1.symm, h.2.1.symm, h.2.2.symm⟩
theorem gs_s3 {α0 α1 α2 β : Type} (a0 : α0) (a1 : α1) (a2 : α2) (f : α0 → α1 → α2 → Option β) : gs_b3 (some (a0, a1, a2)) f = f a0 a1 a2 := rfl
def gs_b4 {α0 α1 α2 α3 β : Type} (o : Option (α0 × α1 × α2 × α3)) (f : α0 → α1 → α2 → α3 → Option β) : Option β := o.bind fun t => f t.1 t.2.1 t.2.2.1 t.2.2.2
theorem gs_o4 {α0 α1 α2 α3 β : Type} {o : Option (α0 × α1 × α2 × α3)} {f : α0 → α1 → α2 → α3 → Option β} {r : β} (h : gs_b4 o f = some r) : ∃ a0 a1 a2 a3, o = some (a0, a1, a2, a3) ∧ f a0 a1 a2 a3 = some r := by
  cases o with
  | none => cases h
  | some t => exact ⟨t.1, t.2.1, t.2.2.1, t.2.2.2, rfl, h⟩
theorem gs_i4 {α0 α1 α2 α3 : Type} {a0 b0 : α0} {a1 b1 : α1} {a2 b2 : α2} {a3 b3 : α3} (h : some (a0, a1, a2, a3) = some (b0, b1, b2, b3)) : b0 = a0 ∧ b1 = a1 ∧ b2 = a2 ∧ b3 = a3 := by
  injection h with h
  simp only [Prod.mk.injEq] at h
  exact ⟨h.1.symm, h.2.1.symm, h.2.2.1.symm, h.2.2.2.symm⟩
theorem gs_s4 {α0 α1 α2 α3 β : Type} (a0 : α0) (a1 : α1) (a2 : α2) (a3 : α3) (f : α0 → α1 → α2 → α3 → Option β) : gs_b4 (some (a0, a1, a2, a3)) f = f a0 a1 a2 a3 := rfl
def gs_b5 {α0 α1 α2 α3 α4 β : Type} (o : Option (α0 × α1 × α2 × α3 × α4)) (f : α0 → α1 → α2 → α3 → α4 → Option β) : Option β := o.bind fun t => f t.1 t.2.1 t.2.2.1 t.2.2.2.1 t.2.2.2.2
theorem gs_o5 {α0 α1 α2 α3 α4 β : Type} {o : Option (α0 × α1 × α2 × α3 × α4)} {f : α0 → α1 → α2 → α3 → α4 → Option β} {r : β} (h : gs_b5 o f = some r) : ∃ a0 a1 a2 a3 a4, o = some (a0, a1, a2, a3, a4) ∧ f a0 a1 a2 a3 a4 = some r := by
  cases o with
  | none => cases h
  | some t => exact ⟨t.1, t.2.1, t.2.2.1, t.2.2.2.1, t.2.2.2.2, rfl, h⟩
theorem gs_i5 {α0 α1 α2 α3 α4 : Type} {a0 b0 : α0} {a1 b1 : α1} {a2 b2 : α2} {a3 b3 : α3} {a4 b4 : α4} (h : some (a0, a1, a2, a3, a4) = some (b0, b1, b2, b3, b4)) : b0 = a0 ∧ b1 = a1 ∧ b2 = a2 ∧ b3 = a3 ∧ b4 = a4 := by
  injection h with h
  simp only [Prod.mk.injEq] at h
  exact ⟨h.1.symm, h.2.1.symm, h.2.2.1.symm, h.2.2.2.1.symm, h.2.2.2.2.symm⟩
theorem gs_s5 {α0 α1 α2 α3 α4 β : Type} (a0 : α0) (a1 : α1) (a2 : α2) (a3 : α3) (a4 : α4) (f : α0 → α1 → α2 → α3 → α4 → Option β) : gs_b5 (some (a0, a1, a2, a3, a4)) f = f a0 a1 a2 a3 a4 := rfl
def gs_b6 {α0 α1 α2 α3 α4 α5 β : Type} (o : Option (α0 × α1 × α2 × α3 × α4 × α5)) (f : α0 → α1 → α2 → α3 → α4 → α5 → Option β) : Option β := o.bind fun t => f t.1 t.2.1 t.2.2.1 t.2.2.2.1 t.2.2.2.2.1 t.2.2.2.2.2
theorem gs_o6 {α0 α1 α2 α3 α4 α5 β : Type} {o : Option (α0 × α1 × α2 × α3 × α4 × α5)} {f : α0 → α1 → α2 → α3 → α4 → α5 → Option β} {r : β} (h : gs_b6 o f = some r) : ∃ a0 a1 a2 a3 a4 a5, o = some (a0, a1, a2, a3, a4, a5) ∧ f a0 a1 a2 a3 a4 a5 = some r := by
  cases o with
  | none => cases h
  | some t => exact ⟨t.1, t.2.1, t.2.2.1, t.2.2.2.1, t.2.2.2.2.1, t.2.2.2.2.2, rfl, h⟩
theorem gs_i6 {α0 α1 α2 α3 α4 α5 : Type} {a0 b0 : α0} {a1 b1 : α1} {a2 b2 : α2} {a3 b3 : α3} {a4 b4 : α4} {a5 b5 : α5} (h : some (a0, a1, a2, a3, a4, a5) = some (b0, b1, b2, b3, b4, b5)) : b0 = a0 ∧ b1 = a1 ∧ b2 = a2 ∧ b3 = a3 ∧ b4 = a4 ∧ b5 = a5 := by
  injection h with h
  simp only [Prod.mk.injEq] at h
  exact ⟨h.1.symm, h.2.1.symm, h.2.2.1.symm, h.2.2.2.1.symm, h.2.2.2.2.1.symm, h.2.2.2.2.2.symm⟩
theorem gs_s6 {α0 α1 α2 α3 α4 α5 β : Type} (a0 : α0) (a1 : α1) (a2 : α2) (a3 : α3) (a4 : α4) (a5 : α5) (f : α0 → α1 → α2 → α3 → α4 → α5 → Option β) : gs_b6 (some (a0, a1, a2, a3, a4, a5)) f = f a0 a1 a2 a3 a4 a5 := rfl
def gs_b7 {α0 α1 α2 α3 α4 α5 α6 β : Type} (o : Option (α0 × α1 × α2 × α3 × α4 × α5 × α6)) (f : α0 → α1 → α2 → α3 → α4 → α5 → α6 → Option β) : Option β := o.bind fun t => f t.1 t.2.1 t.2.2.1 t.2.2.2.1 t.2.2.2.2.1 t.2.2.2.2.2.1 t.2.2.2.2.2.2
theorem gs_o7 {α0 α1 α2 α3 α4 α5 α6 β : Type} {o : Option (α0 × α1 × α2 × α3 × α4 × α5 × α6)} {f : α0 → α1 → α2 → α3 → α4 → α5 → α6 → Option β} {r : β} (h : gs_b7 o f = some r) : ∃ a0 a1 a2 a3 a4 a5 a6, o = some (a0, a1, a2, a3, a4, a5, a6) ∧ f a0 a1 a2 a3 a4 a5 a6 = some r := by
  cases o with
  | none => cases h
  | some t => exact ⟨t.1, t.2.1, t.2.2.1, t.2.2.2.1, t.2.2.2.2.1, t.2.2.2.2.2.1, t.2.2.2.2.2.2, rfl, h⟩
theorem gs_i7 {α0 α1 α2 α3 α4 α5 α6 : Type} {a0 b0 : α0} {a1 b1 : α1} {a2 b2 : α2} {a3 b3 : α3} {a4 b4 : α4} {a5 b5 : α5} {a6 b6 : α6} (h : some (a0, a1, a2, a3, a4, a5, a6) = some (b0, b1, b2, b3, b4, b5, b6)) : b0 = a0 ∧ b1 = a1 ∧ b2 = a2 ∧ b3 = a3 ∧ b4 = a4 ∧ b5 = a5 ∧ b6 = a6 := by
  injection h with h
  simp only [Prod.mk.injEq] at h
  exact ⟨h.1.symm, h.2.1.symm, h.2.2.1.symm, h.2.2.2.1.symm, h.2.2.2.2.1.symm, h.2.2.2.2.2.1.symm, h.2.2.2.2.2.2.symm⟩
theorem gs_s7 {α0 α1 α2 α3 α4 α5 α6 β : Type} (a0 : α0) (a1 : α1) (a2 : α2) (a3 : α3) (a4 : α4) (a5 : α5) (a6 : α6) (f : α0 → α1 → α2 → α3 → α4 → α5 → α6 → Option β) : gs_b7 (some (a0, a1, a2, a3, a4, a5, a6)) f = f a0 a1 a2 a3 a4 a5 a6 := rfl
def gs_b8 {α0 α1 α2 α3 α4 α5 α6 α7 β : Type} (o : Option (α0 × α1 × α2 × α3 × α4 × α5 × α6 × α7)) (f : α0 → α1 → α2 → α3 → α4 → α5 → α6 → α7 → Option β) : Option β := o.bind fun t => f t.1 t.2.1 t.2.2.1 t.2.2.2.1 t.2.2.2.2.1 t.2.2.2.2.2.1 t.2.2.2.2.2.2.1 t.2.2.2.2.2.2.2
theorem gs_o8 {α0 α1 α2 α3 α4 α5 α6 α7 β : Type} {o : Option (α0 × α1 × α2 × α3 × α4 × α5 × α6 × α7)} {f : α0 → α1 → α2 → α3 → α4 → α5 → α6 → α7 → Option β} {r : β} (h : gs_b8 o f = some r) : ∃ a0 a1 a2 a3 a4 a5 a6 a7, o = some (a0, a1, a2, a3, a4, a5, a6, a7) ∧ f a0 a1 a2 a3 a4 a5 a6 a7 = some r := by
  cases o with
  | none => cases h
  | some t => exact ⟨t.1, t.2.1, t.2.2.1, t.2.2.2.1, t.2.2.2.2.1, t.2.2.2.2.2.1, t.2.2.2.2.2.2.1, t.2.2.2.2.2.2.2, rfl, h⟩
theorem gs_i8 {α0 α1 α2 α3 α4 α5 α6 α7 : Type} {a0 b0 : α0} {a1 b1 : α1} {a2 b2 : α2} {a3 b3 : α3} {a4 b4 : α4} {a5 b5 : α5} {a6 b6 : α6} {a7 b7 : α7} (h : some (a0, a1, a2, a3, a4, a5, a6, a7) = some (b0, b1, b2, b3, b4, b5, b6, b7)) : b0 = a0 ∧ b1 = a1 ∧ b2 = a2 ∧ b3 = a3 ∧ b4 = a4 ∧ b5 = a5 ∧ b6 = a6 ∧ b7 = a7 := by
  injection h with h
  simp only [Prod.mk.injEq] at h
  exact ⟨h.1.symm, h.2.1.symm, h.2.2.1.symm, h.2.2.2.1.symm, h.2.2.2.2.1.symm, h.2.2.2.2.2.1.symm, h.2.2.2.2.2.2.1.symm, h.2.2.2.2.2.2.2.symm⟩
theorem gs_s8 {α0 α1 α2 α3 α4 α5 α6 α7 β : Type} (a0 : α0) (a1 : α1) (a2 : α2) (a3 : α3) (a4 : α4) (a5 : α5) (a6 : α6) (a7 : α7) (f : α0 → α1 → α2 → α3 → α4 → α5 → α6 → α7 → Option β) : gs_b8 (some (a0, a1, a2, a3, a4, a5, a6, a7)) f = f a0 a1 a2 a3 a4 a5 a6 a7 := rfl
def gs_b9 {α0 α1 α2 α3 α4 α5 α6 α7 α8 β : Type} (o : Option (α0 × α1 × α2 × α3 × α4 × α5 × α6 × α7 × α8)) (f : α0 → α1 → α2 → α3 → α4 → α5 → α6 → α7 → α8 → Option β) : Option β := o.bind fun t => f t.1 t.2.1 t.2.2.1 t.2.2.2.1 t.2.2.2.2.1 t.2.2.2.2.2.1 t.2.2.2.2.2.2.1 t.2.2.2.2.2.2.2.1 t.2.2.2.2.2.2.2.2
theorem gs_o9 {α0 α1 α2 α3 α4 α5 α6 α7 α8 β : Type} {o : Option (α0 × α1 × α2 × α3 × α4 × α5 × α6 × α7 × α8)} {f : α0 → α1 → α2 → α3 → α4 → α5 → α6 → α7 → α8 → Option β} {r : β} (h : gs_b9 o f = some r) : ∃ a0 a1 a2 a3 a4 a5 a6 a7 a8, o = some (a0, a1, a2, a3, a4, a5, a6, a7, a8) ∧ f a0 a1 a2 a3 a4 a5 a6 a7 a8 = some r := by
  cases o with
  | none => cases h
  | some t => exact ⟨t.1, t.2.1, t.2.2.1, t.2.2.2.1, t.2.2.2.2.1, t.2.2.2.2.2.1, t.2.2.2.2.2.2.1, t.2.2.2.2.2.2.2.1, t.2.2.2.2.2.2.2.2, rfl, h⟩
theorem gs_i9 {α0 α1 α2 α3 α4 α5 α6 α7 α8 : Type} {a0 b0 : α0} {a1 b1 : α1} {a2 b2 : α2} {a3 b3 : α3} {a4 b4 : α4} {a5 b5 : α5} {a6 b6 : α6} {a7 b7 : α7} {a8 b8 : α8} (h : some (a0, a1, a2, a3, a4, a5, a6, a7, a8) = some (b0, b1, b2, b3, b4, b5, b6, b7, b8)) : b0 = a0 ∧ b1 = a1 ∧ b2 = a2 ∧ b3 = a3 ∧ b4 = a4 ∧ b5 = a5 ∧ b6 = a6 ∧ b7 = a7 ∧ b8 = a8 := by
  injection h with h
  simp only [Prod.mk.injEq] at h
  exact ⟨h.1.symm, h.2.1.symm, h.2.2.1.symm, h.2.2.2.1.symm, h.2.2.2.2.1.symm, h.2.2.2.2.2.1.symm, h.2.2.2.2.2.2.1.symm, h.2.2.2.2.2.2.2.1.symm, h.2.2.2.2.2.2.2.2.symm⟩
theorem gs_s9 {α0 α1 α2 α3 α4 α5 α6 α7 α8 β : Type} (a0 : α0) (a1 : α1) (a2 : α2) (a3 : α3) (a4 : α4) (a5 : α5) (a6 : α6) (a7 : α7) (a8 : α8) (f : α0 → α1 → α2 → α3 → α4 → α5 → α6 → α7 → α8 → Option β) : gs_b9 (some (a0, a1, a2, a3, a4, a5, a6, a7, a8)) f = f a0 a1 a2 a3 a4 a5 a6 a7 a8 := rfl
def gs_b10 {α0 α1 α2 α3 α4 α5 α6 α7 α8 α9 β : Type} (o : Option (α0 × α1 × α2 × α3 × α4 × α5 × α6 × α7 × α8 × α9)) (f : α0 → α1 → α2 → α3 → α4 → α5 → α6 → α7 → α8 → α9 → Option β) : Option β := o.bind fun t => f t.1 t.2.1 t.2.2.1 t.2.2.2.1 t.2.2.2.2.1 t.2.2.2.2.2.1 t.2.2.2.2.2.2.1 t.2.2.2.2.2.2.2.1 t.2.2.2.2.2.2.2.2.1 t.2.2.2.2.2.2.2.2.2
theorem gs_o10 {α0 α1 α2 α3 α4 α5 α6 α7 α8 α9 β : Type} {o : Option (α0 × α1 × α2 × α3 × α4 × α5 × α6 × α7 × α8 × α9)} {f : α0 → α1 → α2 → α3 → α4 → α5 → α6 → α7 → α8 → α9 → Option β} {r : β} (h : gs_b10 o f = some r) : ∃ a0 a1 a2 a3 a4 a5 a6 a7 a8 a9, o = some (a0, a1, a2, a3, a4, a5, a6, a7, a8, a9) ∧ f a0 a1 a2 a3 a4 a5 a6 a7 a8 a9 = some r := by
  cases o with
  | none => cases h
  | some t => exact ⟨t.1, t.2.1, t.2.2.1, t.2.2.2.1, t.2.2.2.2.1, t.2.2.2.2.2.1, t.2.2.2.2.2.2.1, t.2.2.2.2.2.2.2.1, t.2.2.2.2.2.2.2.2.1, t.2.2.2.2.2.2.2.2.2, rfl, h⟩
theorem gs_i10 {α0 α1 α2 α3 α4 α5 α6 α7 α8 α9 : Type} {a0 b0 : α0} {a1 b1 : α1} {a2 b2 : α2} {a3 b3 : α3} {a4 b4 : α4} {a5 b5 : α5} {a6 b6 : α6} {a7 b7 : α7} {a8 b8 : α8} {a9 b9 : α9} (h : some (a0, a1, a2, a3, a4, a5, a6, a7, a8, a9) = some (b0, b1, b2, b3, b4, b5, b6, b7, b8, b9)) : b0 = a0 ∧ b1 = a1 ∧ b2 = a2 ∧ b3 = a3 ∧ b4 = a4 ∧ b5 = a5 ∧ b6 = a6 ∧ b7 = a7 ∧ b8 = a8 ∧ b9 = a9 := by
  injection h with h
  simp only [Prod.mk.injEq] at h
  exact ⟨h.1.symm, h.2.1.symm, h.2.2.1.symm, h.2.2.2.1.symm, h.2.2.2.2.1.symm, h.2.2.2.2.2.1.symm, h.2.2.2.2.2.2.1.symm, h.2.2.2.2.2.2.2.1.symm, h.2.2.2.2.2.2.2.2.1.symm, h.2.2.2.2.2.2.2.2.2.symm⟩
theorem gs_s10 {α0 α1 α2 α3 α4 α5 α6 α7 α8 α9 β : Type} (a0 : α0) (a1 : α1) (a2 : α2) (a3 : α3) (a4 : α4) (a5 : α5) (a6 : α6) (a7 : α7) (a8 : α8) (a9 : α9) (f : α0 → α1 → α2 → α3 → α4 → α5 → α6 → α7 → α8 → α9 → Option β) : gs_b10 (some (a0, a1, a2, a3, a4, a5, a6, a7, a8, a9)) f = f a0 a1 a2 a3 a4 a5 a6 a7 a8 a9 := rfl
def gs_b11 {α0 α1 α2 α3 α4 α5 α6 α7 α8 α9 α10 β : Type} (o : Option (α0 × α1 × α2 × α3 × α4 × α5 × α6 × α7 × α8 × α9 × α10)) (f : α0 → α1 → α2 → α3 → α4 → α5 → α6 → α7 → α8 → α9 → α10 → Option β) : Option β := o.bind fun t => f t.1 t.2.1 t.2.2.1 t.2.2.2.1 t.2.2.2.2.1 t.2.2.2.2.2.1 t.2.2.2.2.2.2.1 t.2.2.2.2.2.2.2.1 t.2.2.2.2.2.2.2.2.1 t.2.2.2.2.2.2.2.2.2.1 t.2.2.2.2.2.2.2.2.2.2
theorem gs_o11 {α0 α1 α2 α3 α4 α5 α6 α7 α8 α9 α10 β : Type} {o : Option (α0 × α1 × α2 × α3 × α4 × α5 × α6 × α7 × α8 × α9 × α10)} {f : α0 → α1 → α2 → α3 → α4 → α5 → α6 → α7 → α8 → α9 → α10 → Option β} {r : β} (h : gs_b11 o f = some r) : ∃ a0 a1 a2 a3 a4 a5 a6 a7 a8 a9 a10, o = some (a0, a1, a2, a3, a4, a5, a6, a7, a8, a9, a10) ∧ f a0 a1 a2 a3 a4 a5 a6 a7 a8 a9 a10 = some r := by
  cases o with
  | none => cases h
  | some t => exact ⟨t.1, t.2.1, t.2.2.1, t.2.2.2.1, t.2.2.2.2.1, t.2.2.2.2.2.1, t.2.2.2.2.2.2.1, t.2.2.2.2.2.2.2.1, t.2.2.2.2.2.2.2.2.1, t.2.2.2.2.2.2.2.2.2.1, t.2.2.2.2.2.2.2.2.2.2, rfl, h⟩
theorem gs_i11 {α0 α1 α2 α3 α4 α5 α6 α7 α8 α9 α10 : Type} {a0 b0 : α0} {a1 b1 : α1} {a2 b2 : α2} {a3 b3 : α3} {a4 b4 : α4} {a5 b5 : α5} {a6 b6 : α6} {a7 b7 : α7} {a8 b8 : α8} {a9 b9 : α9} {a10 b10 : α10} (h : some (a0, a1, a2, a3, a4, a5, a6, a7, a8, a9, a10) = some (b0, b1, b2, b3, b4, b5, b6, b7, b8, b9, b10)) : b0 = a0 ∧ b1 = a1 ∧ b2 = a2 ∧ b3 = a3 ∧ b4 = a4 ∧ b5 = a5 ∧ b6 = a6 ∧ b7 = a7 ∧ b8 = a8 ∧ b9 = a9 ∧ b10 = a10 := by
  injection h with h
  simp only [Prod.mk.injEq] at h
  exact ⟨h.1.symm, h.2.1.symm, h.2.2.1.symm, h.2.2.2.1.symm, h.2.2.2.2.1.symm, h.2.2.2.2.2.1.symm, h.2.2.2.2.2.2.1.symm, h.2.2.2.2.2.2.2.1.symm, h.2.2.2.2.2.2.2.2.1.symm, h.2.2.2.2.2.2.2.2.2.1.symm, h.2.2.2.2.2.2.2.2.2.2.symm⟩
theorem gs_s11 {α0 α1 α2 α3 α4 α5 α6 α7 α8 α9 α10 β : Type} (a0 : α0) (a1 : α1) (a2 : α2) (a3 : α3) (a4 : α4) (a5 : α5) (a6 : α6) (a7 : α7) (a8 : α8) (a9 : α9) (a10 : α10) (f : α0 → α1 → α2 → α3 → α4 → α5 → α6 → α7 → α8 → α9 → α10 → Option β) : gs_b11 (some (a0, a1, a2, a3, a4, a5, a6, a7, a8, a9, a10)) f = f a0 a1 a2 a3 a4 a5 a6 a7 a8 a9 a10 := rfl
def gs_b12 {α0 α1 α2 α3 α4 α5 α6 α7 α8 α9 α10 α11 β : Type} (o : Option (α0 × α1 × α2 × α3 × α4 × α5 × α6 × α7 × α8 × α9 × α10 × α11)) (f : α0 → α1 → α2 → α3 → α4 → α5 → α6 → α7 → α8 → α9 → α10 → α11 → Option β) : Option β := o.bind fun t => f t.1 t.2.1 t.2.2.1 t.2.2.2.1 t.2.2.2.2.1 t.2.2.2.2.2.1 t.2.2.2.2.2.2.1 t.2.2.2.2.2.2.2.1 t.2.2.2.2.2.2.2.2.1 t.2.2.2.2.2.2.2.2.2.1 t.2.2.2.2.2.2.2.2.2.2.1 t.2.2.2.2.2.2.2.2.2.2.2
theorem gs_o12 {α0 α1 α2 α3 α4 α5 α6 α7 α8 α9 α10 α11 β : Type} {o : Option (α0 × α1 × α2 × α3 × α4 × α5 × α6 × α7 × α8 × α9 × α10 × α11)} {f : α0 → α1 → α2 → α3 → α4 → α5 → α6 → α7 → α8 → α9 → α10 → α11 → Option β} {r : β} (h : gs_b12 o f = some r) : ∃ a0 a1 a2 a3 a4 a5 a6 a7 a8 a9 a10 a11, o = some (a0, a1, a2, a3, a4, a5, a6, a7, a8, a9, a10, a11) ∧ f a0 a1 a2 a3 a4 a5 a6 a7 a8 a9 a10 a11 = some r := by
  cases o with
  | none => cases h
  | some t => exact ⟨t.1, t.2.1, t.2.2.1, t.2.2.2.1, t.2.2.2.2.1, t.2.2.2.2.2.1, t.2.2.2.2.2.2.1, t.2.2.2.2.2.2.2.1, t.2.2.2.2.2.2.2.2.1, t.2.2.2.2.2.2.2.2.2.1, t.2.2.2.2.2.2.2.2.2.2.1, t.2.2.2.2.2.2.2.2.2.2.2, rfl, h⟩
theorem gs_i12 {α0 α1 α2 α3 α4 α5 α6 α7 α8 α9 α10 α11 : Type} {a0 b0 : α0} {a1 b1 : α1} {a2 b2 : α2} {a3 b3 : α3} {a4 b4 : α4} {a5 b5 : α5} {a6 b6 : α6} {a7 b7 : α7} {a8 b8 : α8} {a9 b9 : α9} {a10 b10 : α10} {a11 b11 : α11} (h : some (a0, a1, a2, a3, a4, a5, a6, a7, a8, a9, a10, a11) = some (b0, b1, b2, b3, b4, b5, b6, b7, b8, b9, b10, b11)) : b0 = a0 ∧ b1 = a1 ∧ b2 = a2 ∧ b3 = a3 ∧ b4 = a4 ∧ b5 = a5 ∧ b6 = a6 ∧ b7 = a7 ∧ b8 = a8 ∧ b9 = a9 ∧ b10 = a10 ∧ b11 = a11 := by
  injection h with h
  simp only [Prod.mk.injEq] at h
  exact ⟨h.1.symm, h.2.1.symm, h.2.2.1.symm, h.2.2.2.1.symm, h.2.2.2.2.1.symm, h.2.2.2.2.2.1.symm, h.2.2.2.2.2.2.1.symm, h.2.2.2.2.2.2.2.1.symm, h.2.2.2.2.2.2.2.2.1.symm, h.2.2.2.2.2.2.2.2.2.1.symm, h.2.2.2.2.2.2.2.2.2.2.1.symm, h.2.2.2.2.2.2.2.2.2.2.2.symm⟩
theorem gs_s12 {α0 α1 α2 α3 α4 α5 α6 α7 α8 α9 α10 α11 β : Type} (a0 : α0) (a1 : α1) (a2 : α2) (a3 : α3) (a4 : α4) (a5 : α5) (a6 : α6) (a7 : α7) (a8 : α8) (a9 : α9) (a10 : α10) (a11 : α11) (f : α0 → α1 → α2 → α3 → α4 → α5 → α6 → α7 → α8 → α9 → α10 → α11 → Option β) : gs_b12 (some (a0, a1, a2, a3, a4, a5, a6, a7, a8, a9, a10, a11)) f = f a0 a1 a2 a3 a4 a5 a6 a7 a8 a9 a10 a11 := rfl
theorem gs_ift {c : Prop} [Decidable c] {α : Type} {a b r : α} (hc : c) (h : (if c then a else b) = r) : a = r := (if_pos hc).symm.trans h
theorem gs_iff {c : Prop} [Decidable c] {α : Type} {a b r : α} (hc : ¬ c) (h : (if c then a else b) = r) : b = r := (if_neg hc).symm.trans h
theorem gs_sub {X : gs_X} {pc : Nat} {ls ls' : List (Nat × Value)} {st : List Value} {M : gs_M} {L : gs_L} (ks : List Nat) (h : lv_pick ls ks = ls') (k : gs_AW X pc ls' st M L) : gs_AW X pc ls st M L := by
  obtain ⟨p, l, e, R, s, m, args, below, meth, c, Q, ad, D, dA⟩ := X
  intro H locs la hl hP hS
  refine k H locs la (lv_sub hl ks ?_) hP hS
  subst h
  simp only [gs_lm, lv_pick, List.map_filterMap]
  congr 1
  funext i
  simp [List.getElem?_map]
def gs_FU : Nat := 30000
def gs_law (r : Nat) : Prop := r = 98 ∨ r = 108 ∨ r = 114 ∨ r = 120 ∨ r = 126
def gs_st (r : Nat) : Prop := r = 9 ∨ r = 11 ∨ ∃ j, j < 40 ∧ r = 15 + 2 * j
def gs_ckW (r : Nat) : Option Nat := if r = 98 ∨ r = 108 ∨ r = 114 ∨ r = 120 ∨ r = 126 then some r else none
def gs_ckB (r : Nat) : Option Nat := if r = 148 then some 148 else if r = 149 then some 149 else none
def gs_ckZ (v : Int32) : Option Int32 := if v = 0 ∨ v = 1 then some v else none
def gs_dv (x y : Int32) : Option Int32 := if y = 0 then none else some (x / y)
def gs_rm9 (x y : Int32) : Option Int32 := if y = 0 then none else some (x - x / y * y)
def gs_dvl (x y : Int64) : Option Int64 := if y = 0 then none else some (x / y)
def gs_rml (x y : Int64) : Option Int64 := if y = 0 then none else some (x - x / y * y)
theorem gs_ckW_ok {r q : Nat} (h : gs_ckW r = some q) : gs_law r ∧ q = r := by
  unfold gs_ckW at h
  by_cases hc : r = 98 ∨ r = 108 ∨ r = 114 ∨ r = 120 ∨ r = 126
  · rw [if_pos hc] at h; exact ⟨hc, (Option.some.inj h).symm⟩
  · rw [if_neg hc] at h; cases h
theorem gs_ckZ_ok {v w : Int32} (h : gs_ckZ v = some w) : (v = 0 ∨ v = 1) ∧ w = v := by
  unfold gs_ckZ at h
  by_cases hc : v = 0 ∨ v = 1
  · rw [if_pos hc] at h; exact ⟨hc, (Option.some.inj h).symm⟩
  · rw [if_neg hc] at h; cases h
theorem gs_law_sh {r : Nat} (h : gs_law r) : gs_sh r = .inr (2, [(2, r + 1), (2, r + 2), (2, r + 3), (2, r + 4), (2, r + 5), (0, 0), (0, 0)]) ∧ gs_sh (r + 1) = .inl (0, 240) ∧ gs_sh (r + 2) = .inl (0, 61) ∧ gs_sh (r + 3) = .inl (0, 61) ∧ gs_sh (r + 4) = .inl (0, 61) ∧ gs_sh (r + 5) = .inl (0, 32) ∧ r < 2147483648 := by
  rcases h with rfl | rfl | rfl | rfl | rfl <;> exact ⟨rfl, rfl, rfl, rfl, rfl, rfl, by decide⟩
theorem gs_st_all : ∀ j, j < 40 → gs_sh (15 + 2 * j) = .inr (6, [(2, 15 + 2 * j + 1)]) ∧ gs_sh (15 + 2 * j + 1) = .inl (0, 173) := by decide +kernel
theorem gs_st_sh {r : Nat} (h : gs_st r) : gs_sh r = .inr (6, [(2, r + 1)]) ∧ gs_sh (r + 1) = .inl (0, 173) := by
  rcases h with rfl | rfl | ⟨j, hj, rfl⟩
  · exact ⟨rfl, rfl⟩
  · exact ⟨rfl, rfl⟩
  · exact gs_st_all j hj
theorem gs_rdq_st {i : Int32} {q : Nat} (h : gs_rdq 14 40 i = some q) : gs_st q := by
  obtain ⟨h1, rfl⟩ := gs_some h
  refine Or.inr (Or.inr ⟨i.toNatClampNeg, Nat.not_le.mp fun z => h1 (Or.inr z), ?_⟩)
  simp [gs_rel]
theorem gs_rdq_law {i : Int32} {q : Nat} (h : gs_rdq 106 4 i = some q) : gs_law q := by
  obtain ⟨h1, rfl⟩ := gs_some h
  have h2 : i.toNatClampNeg < 4 := Nat.not_le.mp fun z => h1 (Or.inr z)
  unfold gs_law gs_rel
  have h3 : i.toNatClampNeg = 0 ∨ i.toNatClampNeg = 1 ∨ i.toNatClampNeg = 2 ∨ i.toNatClampNeg = 3 := by omega
  rcases h3 with e | e | e | e <;> rw [e] <;> decide
section More
variable {X : gs_X} {own : String} {cc : ByteArray} {nL : Nat} {rt : Option FieldType} {n : Nat} {ls ls' : List (Nat × Value)} {st st0 : List Value} {M M' : gs_M} {L L' : gs_L}
theorem gs_idiv' (C : gs_C X own cc nL rt n) {pc : Nat} {x y v : Int32} (hd : decode cc pc = .ok (.idiv, 1)) (hv : gs_dv x y = some v) (k : gs_AW X (pc + 1) ls (.int v :: st) M L) : gs_AW X pc ls (.int y :: .int x :: st) M L := by
  obtain ⟨h1, rfl⟩ := gs_some hv
  exact gs_idiv C hd h1 k
theorem gs_irem' (C : gs_C X own cc nL rt n) {pc : Nat} {x y v : Int32} (hd : decode cc pc = .ok (.irem, 1)) (hv : gs_rm9 x y = some v) (k : gs_AW X (pc + 1) ls (.int v :: st) M L) : gs_AW X pc ls (.int y :: .int x :: st) M L := by
  obtain ⟨h1, rfl⟩ := gs_some hv
  exact gs_irem C hd h1 k
theorem gs_ldiv' (C : gs_C X own cc nL rt n) {pc : Nat} {x y v : Int64} (hd : decode cc pc = .ok (.ldiv, 1)) (hv : gs_dvl x y = some v) (k : gs_AW X (pc + 1) ls (.long v :: st) M L) : gs_AW X pc ls (.long y :: .long x :: st) M L := by
  obtain ⟨h1, rfl⟩ := gs_some hv
  exact gs_ldiv C hd h1 k
theorem gs_lrem' (C : gs_C X own cc nL rt n) {pc : Nat} {x y v : Int64} (hd : decode cc pc = .ok (.lrem, 1)) (hv : gs_rml x y = some v) (k : gs_AW X (pc + 1) ls (.long v :: st) M L) : gs_AW X pc ls (.long y :: .long x :: st) M L := by
  obtain ⟨h1, rfl⟩ := gs_some hv
  exact gs_lrem C hd h1 k
/-- a place into a field that holds a place -/
theorem gs_putr (C : gs_C X own cc nL rt n) {pc i ci r q kk w : Nat} {fs : List (Nat × Nat)} {rty : FieldType} (hrty : (∃ C, rty = .object C) ∨ rty = .array .byte) (hw : w < 2147483648) (hd : decode cc pc = .ok (.putfield i, 3)) (hK9 : gs_K ci) (hf : gs_Fp own i ci kk rty) (hs : gs_sh r = .inr (ci, fs)) (hq : fs[kk]? = some (3, q)) (k : gs_AW X (pc + 3) ls st (gs_up M r kk (nI w)) L) : gs_AW X pc ls (.ref w :: .ref r :: st) M L := by
  have e : (nI w).toNatClampNeg = w := nI_clamp hw
  have h := gs_putm (v := nI w) C hd hK9 hrty hf hs hq k
  rw [e] at h
  exact h
def gs_bl (r : Nat) : Nat := if r = 148 then 240 else 960
theorem gs_ckW_law {r v : Nat} (h : gs_ckW r = some v) : gs_law v := by
  obtain ⟨h1, rfl⟩ := gs_ckW_ok h
  exact h1
theorem gs_ckB_sh {r v : Nat} (h : gs_ckB r = some v) : gs_sh v = .inl (2, gs_bl v) := by
  unfold gs_ckB at h
  by_cases hc : r = 148
  · rw [if_pos hc] at h; cases h; rfl
  · rw [if_neg hc] at h
    by_cases hd : r = 149
    · rw [if_pos hd] at h; cases h; rfl
    · rw [if_neg hd] at h; cases h
theorem gs_ckB_eq {r v : Nat} (h : gs_ckB r = some v) : v = r := by
  unfold gs_ckB at h
  by_cases hc : r = 148
  · rw [if_pos hc] at h; cases h; exact hc.symm
  · rw [if_neg hc] at h
    by_cases hd : r = 149
    · rw [if_pos hd] at h; cases h; exact hd.symm
    · rw [if_neg hd] at h; cases h
theorem gs_getmW (C : gs_C X own cc nL rt n) {pc i ci r q kk v : Nat} {fs : List (Nat × Nat)} (hd : decode cc pc = .ok (.getfield i, 3)) (hK9 : gs_K ci) (hf : gs_F own i ci kk) (hs : gs_sh r = .inr (ci, fs)) (hq : fs[kk]? = some (3, q)) (hv : gs_ckW (M r kk).toNatClampNeg = some v) (k : gs_AW X (pc + 3) ls (.ref v :: st) M L) : gs_AW X pc ls (.ref r :: st) M L := by
  obtain ⟨-, rfl⟩ := gs_ckW_ok hv
  exact gs_getm C hd hK9 hf hs hq k
theorem gs_getmB (C : gs_C X own cc nL rt n) {pc i ci r q kk v : Nat} {fs : List (Nat × Nat)} (hd : decode cc pc = .ok (.getfield i, 3)) (hK9 : gs_K ci) (hf : gs_F own i ci kk) (hs : gs_sh r = .inr (ci, fs)) (hq : fs[kk]? = some (3, q)) (hv : gs_ckB (M r kk).toNatClampNeg = some v) (k : gs_AW X (pc + 3) ls (.ref v :: st) M L) : gs_AW X pc ls (.ref r :: st) M L := by
  have e := gs_ckB_eq hv
  subst e
  exact gs_getm C hd hK9 hf hs hq k
theorem gs_puti' (C : gs_C X own cc nL rt n) {pc i ci r q kk : Nat} {fs : List (Nat × Nat)} {v : Int32} (hd : decode cc pc = .ok (.putfield i, 3)) (hK9 : gs_K ci) (hf : gs_Fp own i ci kk .int) (hs : gs_sh r = .inr (ci, fs)) (hq : fs[kk]? = some (0, q)) (hv : some (gs_up M r kk v) = some M') (k : gs_AW X (pc + 3) ls st M' L) : gs_AW X pc ls (.int v :: .ref r :: st) M L := by
  cases hv
  exact gs_puti C hd hK9 hf hs hq k
theorem gs_putz' (C : gs_C X own cc nL rt n) {pc i ci r q kk : Nat} {fs : List (Nat × Nat)} {v : Int32} (hd : decode cc pc = .ok (.putfield i, 3)) (hK9 : gs_K ci) (hf : gs_Fp own i ci kk .boolean) (hs : gs_sh r = .inr (ci, fs)) (hq : fs[kk]? = some (0, q)) (hz : v = 0 ∨ v = 1) (hv : some (gs_up M r kk v) = some M') (k : gs_AW X (pc + 3) ls st M' L) : gs_AW X pc ls (.int v :: .ref r :: st) M L := by
  cases hv
  exact gs_putz C hd hK9 hf hs hq hz k
theorem gs_putl' (C : gs_C X own cc nL rt n) {pc i ci r q kk : Nat} {fs : List (Nat × Nat)} {v : Int64} (hd : decode cc pc = .ok (.putfield i, 3)) (hK9 : gs_K ci) (hf : gs_Fp own i ci kk .long) (hs : gs_sh r = .inr (ci, fs)) (hq : fs[kk]? = some (1, q)) (hv : some (gs_upl L r kk v) = some L') (k : gs_AW X (pc + 3) ls st M L') : gs_AW X pc ls (.long v :: .ref r :: st) M L := by
  cases hv
  exact gs_putl C hd hK9 hf hs hq k
theorem gs_putr' (C : gs_C X own cc nL rt n) {pc i ci r q kk w : Nat} {fs : List (Nat × Nat)} {rty : FieldType} (hrty : (∃ C, rty = .object C) ∨ rty = .array .byte) (hw : w < 2147483648) (hd : decode cc pc = .ok (.putfield i, 3)) (hK9 : gs_K ci) (hf : gs_Fp own i ci kk rty) (hs : gs_sh r = .inr (ci, fs)) (hq : fs[kk]? = some (3, q)) (hv : some (gs_up M r kk (nI w)) = some M') (k : gs_AW X (pc + 3) ls st M' L) : gs_AW X pc ls (.ref w :: .ref r :: st) M L := by
  cases hv
  exact gs_putr C hrty hw hd hK9 hf hs hq k
theorem gs_zret' (C : gs_C X own cc nL (some .boolean) n) {pc : Nat} {v z : Int32} (hd : decode cc pc = .ok (.ireturn, 1)) (hv : gs_ckZ v = some z) (E : gs_E X (some (.int z)) M L) : gs_AW X pc ls [.int v] M L := by
  obtain ⟨h1, rfl⟩ := gs_ckZ_ok hv
  exact gs_zret C h1 hd E
theorem gs_callVi (C : gs_C X own cc nL rt n) {pc i ci r n' np mL : Nat} {y : MethodName} {cb : ByteArray} {rt' : Option FieldType} {fs : List (Nat × Nat)} {v : Int32} (As : List Value) (hd : decode cc pc = .ok (.invokevirtual i, 3)) (hm : Cond.methodLink own i y ∈ gs_W) (hY : gs_YV y cb mL rt' np) (hM : gs_Met X.2.1 n' y cb mL rt' (.ref r :: As) M L (some (.int v)) M' L') (hn : n' < n)
    (hs : gs_sh r = .inr (ci, fs)) (hci : ci < 13) (hc : vwCl[ci]?.map (fun q => q.1) = some y.cls) (hlen : As.length = np) (hst : (st.map fun v => v.category).sum ≤ 8) (h0 : st0 = As.reverse ++ .ref r :: st) (k : gs_AW X (pc + 3) ls (.int v :: st) M' L') : gs_AW X pc ls st0 M L := gs_callV C As hd hm hY hM hn hs hci hc hlen hst h0 k
theorem gs_callSi (C : gs_C X own cc nL rt n) {pc i n' np mL : Nat} {y : MethodName} {cb : ByteArray} {rt' : Option FieldType} {v : Int32} (As : List Value) (hd : decode cc pc = .ok (.invokestatic i, 3)) (hm : Cond.methodLink own i y ∈ gs_W) (hY : gs_YS y cb mL rt' np) (hM : gs_Met X.2.1 n' y cb mL rt' As M L (some (.int v)) M' L') (hn : n' < n)
    (hlen : As.length = np) (hst : (st.map fun v => v.category).sum ≤ 8) (h0 : st0 = As.reverse ++ st) (k : gs_AW X (pc + 3) ls (.int v :: st) M' L') : gs_AW X pc ls st0 M L := gs_callS C As hd hm hY hM hn hlen hst h0 k
theorem gs_callVl (C : gs_C X own cc nL rt n) {pc i ci r n' np mL : Nat} {y : MethodName} {cb : ByteArray} {rt' : Option FieldType} {fs : List (Nat × Nat)} {v : Int64} (As : List Value) (hd : decode cc pc = .ok (.invokevirtual i, 3)) (hm : Cond.methodLink own i y ∈ gs_W) (hY : gs_YV y cb mL rt' np) (hM : gs_Met X.2.1 n' y cb mL rt' (.ref r :: As) M L (some (.long v)) M' L') (hn : n' < n)
    (hs : gs_sh r = .inr (ci, fs)) (hci : ci < 13) (hc : vwCl[ci]?.map (fun q => q.1) = some y.cls) (hlen : As.length = np) (hst : (st.map fun v => v.category).sum ≤ 8) (h0 : st0 = As.reverse ++ .ref r :: st) (k : gs_AW X (pc + 3) ls (.long v :: st) M' L') : gs_AW X pc ls st0 M L := gs_callV C As hd hm hY hM hn hs hci hc hlen hst h0 k
theorem gs_callSl (C : gs_C X own cc nL rt n) {pc i n' np mL : Nat} {y : MethodName} {cb : ByteArray} {rt' : Option FieldType} {v : Int64} (As : List Value) (hd : decode cc pc = .ok (.invokestatic i, 3)) (hm : Cond.methodLink own i y ∈ gs_W) (hY : gs_YS y cb mL rt' np) (hM : gs_Met X.2.1 n' y cb mL rt' As M L (some (.long v)) M' L') (hn : n' < n)
    (hlen : As.length = np) (hst : (st.map fun v => v.category).sum ≤ 8) (h0 : st0 = As.reverse ++ st) (k : gs_AW X (pc + 3) ls (.long v :: st) M' L') : gs_AW X pc ls st0 M L := gs_callS C As hd hm hY hM hn hlen hst h0 k
theorem gs_callVv (C : gs_C X own cc nL rt n) {pc i ci r n' np mL : Nat} {y : MethodName} {cb : ByteArray} {rt' : Option FieldType} {fs : List (Nat × Nat)} (As : List Value) (hd : decode cc pc = .ok (.invokevirtual i, 3)) (hm : Cond.methodLink own i y ∈ gs_W) (hY : gs_YV y cb mL rt' np) (hM : gs_Met X.2.1 n' y cb mL rt' (.ref r :: As) M L none M' L') (hn : n' < n)
    (hs : gs_sh r = .inr (ci, fs)) (hci : ci < 13) (hc : vwCl[ci]?.map (fun q => q.1) = some y.cls) (hlen : As.length = np) (hst : (st.map fun v => v.category).sum ≤ 8) (h0 : st0 = As.reverse ++ .ref r :: st) (k : gs_AW X (pc + 3) ls st M' L') : gs_AW X pc ls st0 M L := gs_callV C As hd hm hY hM hn hs hci hc hlen hst h0 k
theorem gs_callSv (C : gs_C X own cc nL rt n) {pc i n' np mL : Nat} {y : MethodName} {cb : ByteArray} {rt' : Option FieldType} (As : List Value) (hd : decode cc pc = .ok (.invokestatic i, 3)) (hm : Cond.methodLink own i y ∈ gs_W) (hY : gs_YS y cb mL rt' np) (hM : gs_Met X.2.1 n' y cb mL rt' As M L none M' L') (hn : n' < n)
    (hlen : As.length = np) (hst : (st.map fun v => v.category).sum ≤ 8) (h0 : st0 = As.reverse ++ st) (k : gs_AW X (pc + 3) ls st M' L') : gs_AW X pc ls st0 M L := gs_callS C As hd hm hY hM hn hlen hst h0 k
theorem gs_callVr (C : gs_C X own cc nL rt n) {pc i ci r n' np mL : Nat} {y : MethodName} {cb : ByteArray} {rt' : Option FieldType} {fs : List (Nat × Nat)} {v : Nat} (As : List Value) (hd : decode cc pc = .ok (.invokevirtual i, 3)) (hm : Cond.methodLink own i y ∈ gs_W) (hY : gs_YV y cb mL rt' np) (hM : gs_Met X.2.1 n' y cb mL rt' (.ref r :: As) M L (some (.ref v)) M' L') (hn : n' < n)
    (hs : gs_sh r = .inr (ci, fs)) (hci : ci < 13) (hc : vwCl[ci]?.map (fun q => q.1) = some y.cls) (hlen : As.length = np) (hst : (st.map fun v => v.category).sum ≤ 8) (h0 : st0 = As.reverse ++ .ref r :: st) (k : gs_AW X (pc + 3) ls (.ref v :: st) M' L') : gs_AW X pc ls st0 M L := gs_callV C As hd hm hY hM hn hs hci hc hlen hst h0 k
theorem gs_callSr (C : gs_C X own cc nL rt n) {pc i n' np mL : Nat} {y : MethodName} {cb : ByteArray} {rt' : Option FieldType} {v : Nat} (As : List Value) (hd : decode cc pc = .ok (.invokestatic i, 3)) (hm : Cond.methodLink own i y ∈ gs_W) (hY : gs_YS y cb mL rt' np) (hM : gs_Met X.2.1 n' y cb mL rt' As M L (some (.ref v)) M' L') (hn : n' < n)
    (hlen : As.length = np) (hst : (st.map fun v => v.category).sum ≤ 8) (h0 : st0 = As.reverse ++ st) (k : gs_AW X (pc + 3) ls (.ref v :: st) M' L') : gs_AW X pc ls st0 M L := gs_callS C As hd hm hY hM hn hlen hst h0 k
end More
theorem sh_0 : gs_sh 0 = .inr (11, [(2, 1), (2, 3), (2, 6), (2, 9), (2, 11), (2, 13), (2, 95), (2, 104), (2, 98), (2, 105), (2, 132), (2, 134), (2, 140), (2, 146), (0, 0), (0, 0)]) := rfl
theorem sh_1 : gs_sh 1 = .inr (7, [(2, 2), (0, 0), (0, 0), (0, 0)]) := rfl
theorem sh_2 : gs_sh 2 = .inl (0, 240) := rfl
theorem sh_3 : gs_sh 3 = .inr (9, [(2, 4), (2, 5), (0, 0), (0, 0)]) := rfl
theorem sh_4 : gs_sh 4 = .inl (0, 3) := rfl
theorem sh_5 : gs_sh 5 = .inl (0, 40) := rfl
theorem sh_6 : gs_sh 6 = .inr (9, [(2, 7), (2, 8), (0, 0), (0, 0)]) := rfl
theorem sh_7 : gs_sh 7 = .inl (0, 3) := rfl
theorem sh_8 : gs_sh 8 = .inl (0, 40) := rfl
theorem sh_9 : gs_sh 9 = .inr (6, [(2, 10)]) := rfl
theorem sh_10 : gs_sh 10 = .inl (0, 173) := rfl
theorem sh_11 : gs_sh 11 = .inr (6, [(2, 12)]) := rfl
theorem sh_12 : gs_sh 12 = .inl (0, 173) := rfl
theorem sh_13 : gs_sh 13 = .inr (0, [(2, 14), (0, 0), (0, 0)]) := rfl
theorem sh_14 : gs_sh 14 = .inl (4, 40) := rfl
theorem sh_95 : gs_sh 95 = .inr (10, [(2, 96), (2, 97), (0, 0), (0, 0)]) := rfl
theorem sh_96 : gs_sh 96 = .inl (0, 36) := rfl
theorem sh_97 : gs_sh 97 = .inl (0, 9) := rfl
theorem sh_98 : gs_sh 98 = .inr (2, [(2, 99), (2, 100), (2, 101), (2, 102), (2, 103), (0, 0), (0, 0)]) := rfl
theorem sh_99 : gs_sh 99 = .inl (0, 240) := rfl
theorem sh_100 : gs_sh 100 = .inl (0, 61) := rfl
theorem sh_101 : gs_sh 101 = .inl (0, 61) := rfl
theorem sh_102 : gs_sh 102 = .inl (0, 61) := rfl
theorem sh_103 : gs_sh 103 = .inl (0, 32) := rfl
theorem sh_104 : gs_sh 104 = .inr (3, [(2, 1), (3, 0)]) := rfl
theorem sh_105 : gs_sh 105 = .inr (4, [(2, 3), (2, 9), (2, 106), (2, 107), (0, 0), (0, 0)]) := rfl
theorem sh_106 : gs_sh 106 = .inl (5, 4) := rfl
theorem sh_107 : gs_sh 107 = .inl (0, 6) := rfl
theorem sh_108 : gs_sh 108 = .inr (2, [(2, 109), (2, 110), (2, 111), (2, 112), (2, 113), (0, 0), (0, 0)]) := rfl
theorem sh_109 : gs_sh 109 = .inl (0, 240) := rfl
theorem sh_110 : gs_sh 110 = .inl (0, 61) := rfl
theorem sh_111 : gs_sh 111 = .inl (0, 61) := rfl
theorem sh_112 : gs_sh 112 = .inl (0, 61) := rfl
theorem sh_113 : gs_sh 113 = .inl (0, 32) := rfl
theorem sh_114 : gs_sh 114 = .inr (2, [(2, 115), (2, 116), (2, 117), (2, 118), (2, 119), (0, 0), (0, 0)]) := rfl
theorem sh_115 : gs_sh 115 = .inl (0, 240) := rfl
theorem sh_116 : gs_sh 116 = .inl (0, 61) := rfl
theorem sh_117 : gs_sh 117 = .inl (0, 61) := rfl
theorem sh_118 : gs_sh 118 = .inl (0, 61) := rfl
theorem sh_119 : gs_sh 119 = .inl (0, 32) := rfl
theorem sh_120 : gs_sh 120 = .inr (2, [(2, 121), (2, 122), (2, 123), (2, 124), (2, 125), (0, 0), (0, 0)]) := rfl
theorem sh_121 : gs_sh 121 = .inl (0, 240) := rfl
theorem sh_122 : gs_sh 122 = .inl (0, 61) := rfl
theorem sh_123 : gs_sh 123 = .inl (0, 61) := rfl
theorem sh_124 : gs_sh 124 = .inl (0, 61) := rfl
theorem sh_125 : gs_sh 125 = .inl (0, 32) := rfl
theorem sh_126 : gs_sh 126 = .inr (2, [(2, 127), (2, 128), (2, 129), (2, 130), (2, 131), (0, 0), (0, 0)]) := rfl
theorem sh_127 : gs_sh 127 = .inl (0, 240) := rfl
theorem sh_128 : gs_sh 128 = .inl (0, 61) := rfl
theorem sh_129 : gs_sh 129 = .inl (0, 61) := rfl
theorem sh_130 : gs_sh 130 = .inl (0, 61) := rfl
theorem sh_131 : gs_sh 131 = .inl (0, 32) := rfl
theorem sh_132 : gs_sh 132 = .inr (5, [(2, 3), (2, 9), (2, 105), (2, 95), (2, 133), (1, 0)]) := rfl
theorem sh_133 : gs_sh 133 = .inl (0, 8) := rfl
theorem sh_134 : gs_sh 134 = .inr (1, [(2, 3), (2, 105), (2, 135), (2, 136), (2, 137), (2, 138), (2, 139), (0, 0), (0, 0), (0, 0)]) := rfl
theorem sh_135 : gs_sh 135 = .inl (0, 12) := rfl
theorem sh_136 : gs_sh 136 = .inl (0, 12) := rfl
theorem sh_137 : gs_sh 137 = .inl (3, 12) := rfl
theorem sh_138 : gs_sh 138 = .inl (1, 8) := rfl
theorem sh_139 : gs_sh 139 = .inl (0, 9) := rfl
theorem sh_140 : gs_sh 140 = .inr (8, [(2, 3), (2, 9), (2, 105), (2, 141), (2, 142), (2, 143), (2, 144), (2, 145), (0, 0), (0, 0)]) := rfl
theorem sh_141 : gs_sh 141 = .inl (0, 6561) := rfl
theorem sh_142 : gs_sh 142 = .inl (0, 8) := rfl
theorem sh_143 : gs_sh 143 = .inl (0, 8) := rfl
theorem sh_144 : gs_sh 144 = .inl (0, 8) := rfl
theorem sh_145 : gs_sh 145 = .inl (0, 72) := rfl
theorem sh_146 : gs_sh 146 = .inl (0, 10) := rfl
theorem sh_147 : gs_sh 147 = .inr (12, [(0, 0), (2, 148), (2, 149), (2, 150), (2, 151), (3, 0), (0, 0), (0, 0), (0, 0), (0, 0), (0, 0), (0, 0), (0, 0), (0, 0), (0, 0), (2, 1003), (2, 1002), (0, 0), (2, 152), (2, 153), (2, 154), (2, 155), (2, 156), (2, 157), (0, 0), (0, 0), (0, 0), (0, 0), (2, 158), (0, 0), (0, 0), (0, 0), (1, 0), (2, 159), (2, 160), (0, 0), (2, 161), (2, 162), (2, 163), (2, 164), (0, 0), (2, 165), (2, 166), (2, 167), (2, 168), (2, 169), (0, 0)]) := rfl
theorem sh_148 : gs_sh 148 = .inl (2, 240) := rfl
theorem sh_149 : gs_sh 149 = .inl (2, 960) := rfl
theorem sh_150 : gs_sh 150 = .inl (0, 4) := rfl
theorem sh_151 : gs_sh 151 = .inl (0, 128) := rfl
theorem sh_152 : gs_sh 152 = .inl (0, 3) := rfl
theorem sh_153 : gs_sh 153 = .inl (0, 3) := rfl
theorem sh_154 : gs_sh 154 = .inl (0, 40) := rfl
theorem sh_155 : gs_sh 155 = .inl (0, 40) := rfl
theorem sh_156 : gs_sh 156 = .inl (0, 45) := rfl
theorem sh_157 : gs_sh 157 = .inl (0, 5) := rfl
theorem sh_158 : gs_sh 158 = .inl (0, 533) := rfl
theorem sh_159 : gs_sh 159 = .inl (0, 8) := rfl
theorem sh_160 : gs_sh 160 = .inl (0, 21320) := rfl
theorem sh_161 : gs_sh 161 = .inl (1, 11) := rfl
theorem sh_162 : gs_sh 162 = .inl (0, 12) := rfl
theorem sh_163 : gs_sh 163 = .inl (0, 12) := rfl
theorem sh_164 : gs_sh 164 = .inl (3, 12) := rfl
theorem sh_165 : gs_sh 165 = .inl (0, 512) := rfl
theorem sh_166 : gs_sh 166 = .inl (0, 512) := rfl
theorem sh_167 : gs_sh 167 = .inl (0, 72) := rfl
theorem sh_168 : gs_sh 168 = .inl (0, 9) := rfl
theorem sh_169 : gs_sh 169 = .inl (0, 533) := rfl
theorem sh_170 : gs_sh 170 = .inl (1, 1) := rfl
