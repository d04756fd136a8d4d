/-! what lies outside of the graph and is only read: String constants, static arrays, statics of the JDK -/
def gs_len : List Nat := [3, 5, 6, 2]
def gs_byt : List (List Int32) := [[104, 107, 99], [103, 99, 119, 116, 109], [103, 99, 119, 116, 104, 97], [121, 118]]
def gs_snm : List String := ["RULE_LEAST", "RULE_MOST", "RULE_PLAIN", "PERSON_LEAST", "PERSON_MOST", "PERSON_PLAIN"]
def gs_sar : List (List Int32) := [[1, 1, 0], [9, 30, 9], [6, 4, 3], [0, 0, 0, 0, 0], [9, 9, 9, 9, 8], [0, 5, 1, 0, 8]]
def gs_sn (i : Nat) : Nat := if i < 3 then 3 else 5
def gs_sv (i : Nat) : Nat → Int32 := fun j => (gs_sar.getD i []).getD j 0
def gs_lit : List (String × Nat × String × Nat) := [("GuiltySleep$Town", 61, "hkc", 1000), ("GuiltySleep$Town", 76, "gcwtm", 1001), ("GuiltySleep$LawReader", 90, "gcwtha", 1002), ("GuiltySleepModel", 26, "yv", 1003), ("GuiltySleepModel", 32, "gcwtha", 1002), ("GuiltySleepModel", 252, "hkc", 1000), ("GuiltySleepModel", 258, "gcwtm", 1001)]
def gs_Ext (ad : Nat → Nat) (U : State) (H : Heap) : Prop :=
  vk_S 4 gs_len gs_byt (fun i => ad (1000 + i)) (fun i => ad (1100 + i)) (gs_A ad) U H ∧
  (∀ i, i < 6 → va_T .int (ad (1010 + i)) (gs_sn i) (fun j => .int (gs_sv i j)) (gs_A ad) U H ∧ va_Z "GuiltySleep$Town" (gs_snm.getD i "") "[I" (.ref (ad (1010 + i))) (gs_A ad) U H) ∧
  (∀ q ∈ gs_lit, vk_R q.1 q.2.1 q.2.2.1 (ad q.2.2.2) U) ∧
  va_Z "java/lang/String" "COMPACT_STRINGS" "Z" (.int 1) (gs_A ad) U H ∧ (va_Z "jdk/internal/util/Preconditions" "SIOOBE_FORMATTER" "Ljava/util/function/BiFunction;" .null (gs_A ad) U H ∨ va_Z "jdk/internal/util/Preconditions" "SIOOBE_FORMATTER" "Ljava/util/function/BiFunction;" (.ref (ad 1200)) (gs_A ad) U H)
theorem gs_Ext.to {ad : Nat → Nat} {s U : State} {H : Heap} (h : gs_Ext ad s H) (hA : s.vm.Alike U.vm) (hR : ∀ (own : String) (k : Nat) (tx : String) (a : Nat), vk_R own k tx a s → vk_R own k tx a U) : gs_Ext ad U H := by
  obtain ⟨h1, h2, h3, h4, h5⟩ := h
  exact ⟨h1.moved hA, fun i hi => ⟨va_T.moved hA (h2 i hi).1, va_Z.moved hA (h2 i hi).2⟩, fun q hq => hR _ _ _ _ (h3 q hq), va_Z.moved hA h4, h5.imp (va_Z.moved hA) (va_Z.moved hA)⟩
theorem gs_Ext.kept {ad : Nat → Nat} {s : State} {H H1 : Heap} (h : gs_Ext ad s H) (hq : ∀ a : Nat, a < H.size → ¬ gs_A ad a → H1[a]? = H[a]?) : gs_Ext ad s H1 := by
  obtain ⟨h1, h2, h3, h4, h5⟩ := h
  exact ⟨h1.kept hq, fun i hi => ⟨(h2 i hi).1.kept hq, (h2 i hi).2.kept hq⟩, h3, h4.kept hq, h5.imp (fun h => h.kept hq) (fun h => h.kept hq)⟩
/-! the walk over the memories: a context X, gs_AW X pc locals stack ints longs -/
abbrev gs_X : Type := Program × Launch × Env × Room × State × MethodId × Array Value × List Frame × Method × Code × (State → Prop) × (Nat → Nat) × va_G × (Nat → ClassId)
def gs_lm (ad : Nat → Nat) (ls : List (Nat × Value)) : List (Nat × Value) := ls.map (fun q => (q.1, gs_cv ad q.2))
def gs_room (n : Nat) : Room := { frames := n + 1, cells := 0, slots := 0, locals := 80 * (n + 1) }
def gs_AW (X : gs_X) (pc : Nat) (ls : List (Nat × Value)) (st : List Value) (M : gs_M) (L : gs_L) : Prop :=
  match X with
  | (p, l, e, R, s, m, args, below, meth, c, Q, ad, D, dA) => ∀ (H : Heap) (locs : List Loc) (la : Array Slot), lv_has la c.maxLocals (gs_lm ad ls) → va_P D vwCl (gs_ws ad dA M L) H → va_S (gs_A ad) s.heap H locs → W p l e R s m args below meth c H locs 0 0 Q (F0 m pc la (st.map (gs_cv ad)))
def gs_C (X : gs_X) (own : String) (cc : ByteArray) (nL : Nat) (rt : Option FieldType) (n : Nat) : Prop :=
  match X with
  | (p, l, e, R, s, m, args, below, meth, c, Q, ad, D, dA) => p.tables.exec = Jvm.exec ∧ c.code = cc ∧ c.maxLocals = nL ∧ s.vm.findClass own = some m.cls ∧ (∀ w ∈ gs_W, w.before args s = true) ∧ va_K D vwCl (gs_tys dA) s ∧ gs_inj ad ∧ gs_Ext ad s s.heap ∧ meth.sig.returnType = rt ∧ meth.locks = false ∧ (n + 1 ≤ R.frames ∧ 80 * (n + 1) ≤ R.locals)
def gs_Qc (ad : Nat → Nat) (D : va_G) (dA : Nat → ClassId) (res : Option Value) (M : gs_M) (L : gs_L) : Array Value → State → Outcome → State → Prop := fun _ st oc t => oc = .returned (res.map (gs_cv ad)) ∧ va_P D vwCl (gs_ws ad dA M L) t.heap ∧ va_F (gs_A ad) st t
def gs_I (ad : Nat → Nat) (D : va_G) (dA : Nat → ClassId) (M : gs_M) (L : gs_L) (U : State) : Prop := va_P D vwCl (gs_ws ad dA M L) U.heap ∧ va_K D vwCl (gs_tys dA) U ∧ gs_inj ad ∧ gs_Ext ad U U.heap
def gs_Met (l : Launch) (n : Nat) (y : MethodName) (cb : ByteArray) (mL : Nat) (rt : Option FieldType) (av : List Value) (M : gs_M) (L : gs_L) (res : Option Value) (M' : gs_M) (L' : gs_L) : Prop :=
  ∀ (ad : Nat → Nat) (D : va_G) (dA : Nat → ClassId), Met l y (Cond.code y cb mL rt :: gs_W) (gs_room n) (va_Pc (av.map (gs_cv ad)) (gs_I ad D dA M L)) (gs_Qc ad D dA res M' L') 0 0 (gs_A ad)
def gs_E (X : gs_X) (res : Option Value) (M : gs_M) (L : gs_L) : Prop :=
  match X with
  | (p, l, e, R, s, m, args, below, meth, c, Q, ad, D, dA) => Q = MQ below (gs_Qc ad D dA res M L) args s 0 0 (gs_A ad)
theorem gs_lm_args (ad : Nat → Nat) : ∀ (vs : List Value) (i : Nat), gs_lm ad (lv_args i vs) = lv_args i (vs.map (gs_cv ad))
  | [], _ => rfl
  | v :: vs, i => by
    show (i, gs_cv ad v) :: gs_lm ad (lv_args (if v.category = 2 then i + 2 else i + 1) vs) = (i, gs_cv ad v) :: lv_args (if (gs_cv ad v).category = 2 then i + 2 else i + 1) (vs.map (gs_cv ad))
    rw [gs_lm_args ad vs, gs_cv_cat]
theorem gs_sl_len (ad : Nat → Nat) (vs : List Value) : (lg_sl (vs.map (gs_cv ad))).length = (lg_sl vs).length := by
  induction vs with
  | nil => rfl
  | cons v vs ih => cases v <;> simp_all [lg_sl, gs_cv, Value.category]
theorem gs_of {l : Launch} {n : Nat} {y : MethodName} {cb : ByteArray} {mL : Nat} {rt : Option FieldType} {av : List Value} {M M' : gs_M} {L L' : gs_L} {res : Option Value} (own : String) (hy : plainName y.cls = true) (hown : y.cls = own) (hlen : (lg_sl av).length ≤ mL)
    (body : ∀ X : gs_X, gs_C X own cb mL rt n → gs_E X res M' L' → gs_AW X 0 (lv_args 0 av) [] M L) : gs_Met l n y cb mL rt av M L res M' L' := by
  intro ad D dA
  refine Met.ofW (cc := cb) (maxL := mL) (ret := rt) hy rfl ?_
  intro p e s m args below meth c s₁ B hml hv
  obtain ⟨rfl, hP, hK, hinj, hE⟩ := hv
  have hts := atoms_spec (ws := Cond.code y cb mL rt :: gs_W) B.pre
  have hfc : s.vm.findClass own = some m.cls := by rw [← hown]; exact findClass_of_methodNamed B.named
  have hl := lv_entry (av.map (gs_cv ad)) (n := mL) (by rw [gs_sl_len]; exact hlen)
  rw [lg_entry_eq]
  have h := body (p, l, e, gs_room n, s, m, (av.map (gs_cv ad)).toArray, below, meth, c, _, ad, D, dA) ⟨B.exec, B.bytes, hml, hfc, fun w hw => hts w (List.mem_cons_of_mem _ hw), hK, hinj, hE, B.returns, B.notSynchronized, Nat.le_refl _, Nat.le_refl _⟩ rfl s.heap [] _ (by rw [gs_lm_args, hml]; exact hl) hP va_S.rf
  exact h
section Rows
variable {X : gs_X} {own : String} {cc : ByteArray} {nL : Nat} {rt : Option FieldType} {n : Nat} {ls ls' : List (Nat × Value)} {st : List Value} {M M' : gs_M} {L L' : gs_L}
theorem gs_iconst (C : gs_C X own cc nL rt n) {pc : Nat} {v : Int} {w : Int32} (hd : decode cc pc = .ok (.iconst v, 1)) (hv : Int32.ofInt v = w) (k : gs_AW X (pc + 1) ls (.int w :: st) M L) : gs_AW X pc ls st M L := by
  obtain ⟨p, l, e, R, s, m, args, below, meth, c, Q, ad, D, dA⟩ := X
  obtain ⟨hx, hb, hml, hown, hts, hK, hinj, hE, hr, hlk, hR⟩ := C
  intro H locs la hl hP hS
  exact lv_iconst hx hb hd hv (k H locs la hl hP hS)
theorem gs_bipush (C : gs_C X own cc nL rt n) {pc : Nat} {v : Int} {w : Int32} (hd : decode cc pc = .ok (.bipush v, 2)) (hv : (Int8.ofInt v).toInt32 = w) (k : gs_AW X (pc + 2) ls (.int w :: st) M L) : gs_AW X pc ls st M L := by
  obtain ⟨p, l, e, R, s, m, args, below, meth, c, Q, ad, D, dA⟩ := X
  obtain ⟨hx, hb, hml, hown, hts, hK, hinj, hE, hr, hlk, hR⟩ := C
  intro H locs la hl hP hS
  exact lv_bipush hx hb hd hv (k H locs la hl hP hS)
theorem gs_sipush (C : gs_C X own cc nL rt n) {pc : Nat} {v : Int} {w : Int32} (hd : decode cc pc = .ok (.sipush v, 3)) (hv : (Int16.ofInt v).toInt32 = w) (k : gs_AW X (pc + 3) ls (.int w :: st) M L) : gs_AW X pc ls st M L := by
  obtain ⟨p, l, e, R, s, m, args, below, meth, c, Q, ad, D, dA⟩ := X
  obtain ⟨hx, hb, hml, hown, hts, hK, hinj, hE, hr, hlk, hR⟩ := C
  intro H locs la hl hP hS
  exact lv_sipush hx hb hd hv (k H locs la hl hP hS)
theorem gs_lconst (C : gs_C X own cc nL rt n) {pc : Nat} {v : Fin 2} {w : Int64} (hd : decode cc pc = .ok (.lconst v, 1)) (hv : Int64.ofNat (v : Nat) = w) (k : gs_AW X (pc + 1) ls (.long w :: st) M L) : gs_AW X pc ls st M L := by
  obtain ⟨p, l, e, R, s, m, args, below, meth, c, Q, ad, D, dA⟩ := X
  obtain ⟨hx, hb, hml, hown, hts, hK, hinj, hE, hr, hlk, hR⟩ := C
  intro H locs la hl hP hS
  exact lv_lconst hx hb hd hv (k H locs la hl hP hS)
theorem gs_lk (ad : Nat → Nat) {ls : List (Nat × Value)} {k i : Nat} {v : Value} (h : ls[k]? = some (i, v)) : (gs_lm ad ls)[k]? = some (i, gs_cv ad v) := by
  simp [gs_lm, h]
theorem gs_iload_n (C : gs_C X own cc nL rt n) {pc : Nat} {i : Fin 4} {j : Nat} (q : Nat) {x : Int32} (hd : decode cc pc = .ok (.iload_n i, 1)) (hi : (i : Nat) = j) (hq : ls[q]? = some (j, .int x)) (k : gs_AW X (pc + 1) ls (.int x :: st) M L) : gs_AW X pc ls st M L := by
  obtain ⟨p, l, e, R, s, m, args, below, meth, c, Q, ad, D, dA⟩ := X
  obtain ⟨hx, hb, hml, hown, hts, hK, hinj, hE, hr, hlk, hR⟩ := C
  intro H locs la hl hP hS
  exact lv_iload_n hx hb hd hi (lv_at hl q (gs_lk ad hq)) (k H locs la hl hP hS)
theorem gs_iload (C : gs_C X own cc nL rt n) {pc : Nat} {j : Nat} (q : Nat) {x : Int32} (hd : decode cc pc = .ok (.iload j, 2)) (hq : ls[q]? = some (j, .int x)) (k : gs_AW X (pc + 2) ls (.int x :: st) M L) : gs_AW X pc ls st M L := by
  obtain ⟨p, l, e, R, s, m, args, below, meth, c, Q, ad, D, dA⟩ := X
  obtain ⟨hx, hb, hml, hown, hts, hK, hinj, hE, hr, hlk, hR⟩ := C
  intro H locs la hl hP hS
  exact lv_iload hx hb hd (lv_at hl q (gs_lk ad hq)) (k H locs la hl hP hS)
theorem gs_lload_n (C : gs_C X own cc nL rt n) {pc : Nat} {i : Fin 4} {j : Nat} (q : Nat) {x : Int64} (hd : decode cc pc = .ok (.lload_n i, 1)) (hi : (i : Nat) = j) (hq : ls[q]? = some (j, .long x)) (k : gs_AW X (pc + 1) ls (.long x :: st) M L) : gs_AW X pc ls st M L := by
  obtain ⟨p, l, e, R, s, m, args, below, meth, c, Q, ad, D, dA⟩ := X
  obtain ⟨hx, hb, hml, hown, hts, hK, hinj, hE, hr, hlk, hR⟩ := C
  intro H locs la hl hP hS
  exact lv_lload_n hx hb hd hi (lv_at hl q (gs_lk ad hq)) (k H locs la hl hP hS)
theorem gs_lload (C : gs_C X own cc nL rt n) {pc : Nat} {j : Nat} (q : Nat) {x : Int64} (hd : decode cc pc = .ok (.lload j, 2)) (hq : ls[q]? = some (j, .long x)) (k : gs_AW X (pc + 2) ls (.long x :: st) M L) : gs_AW X pc ls st M L := by
  obtain ⟨p, l, e, R, s, m, args, below, meth, c, Q, ad, D, dA⟩ := X
  obtain ⟨hx, hb, hml, hown, hts, hK, hinj, hE, hr, hlk, hR⟩ := C
  intro H locs la hl hP hS
  exact lv_lload hx hb hd (lv_at hl q (gs_lk ad hq)) (k H locs la hl hP hS)
theorem gs_aload_n (C : gs_C X own cc nL rt n) {pc : Nat} {i : Fin 4} {j : Nat} (q : Nat) {x : Nat} (hd : decode cc pc = .ok (.aload_n i, 1)) (hi : (i : Nat) = j) (hq : ls[q]? = some (j, .ref x)) (k : gs_AW X (pc + 1) ls (.ref x :: st) M L) : gs_AW X pc ls st M L := by
  obtain ⟨p, l, e, R, s, m, args, below, meth, c, Q, ad, D, dA⟩ := X
  obtain ⟨hx, hb, hml, hown, hts, hK, hinj, hE, hr, hlk, hR⟩ := C
  intro H locs la hl hP hS
  exact lv_aload_n hx hb hd hi (lv_at hl q (gs_lk ad hq)) (k H locs la hl hP hS)
theorem gs_aload (C : gs_C X own cc nL rt n) {pc : Nat} {j : Nat} (q : Nat) {x : Nat} (hd : decode cc pc = .ok (.aload j, 2)) (hq : ls[q]? = some (j, .ref x)) (k : gs_AW X (pc + 2) ls (.ref x :: st) M L) : gs_AW X pc ls st M L := by
  obtain ⟨p, l, e, R, s, m, args, below, meth, c, Q, ad, D, dA⟩ := X
  obtain ⟨hx, hb, hml, hown, hts, hK, hinj, hE, hr, hlk, hR⟩ := C
  intro H locs la hl hP hS
  exact lv_aload hx hb hd (lv_at hl q (gs_lk ad hq)) (k H locs la hl hP hS)
theorem gs_fil (ad : Nat → Nat) {ls ls' : List (Nat × Value)} {i : Nat} {v : Value} (h : (i, v) :: ls.filter (fun q => !(q.1 == i) && !(q.1 + 1 == i && q.2.category == 2)) = ls') : (i, gs_cv ad v) :: (gs_lm ad ls).filter (fun q => !(q.1 == i) && !(q.1 + 1 == i && q.2.category == 2)) = gs_lm ad ls' := by
  subst h
  simp only [gs_lm, List.map_cons, List.filter_map]
  congr 2
  apply List.filter_congr
  intro q _
  simp only [Function.comp, gs_cv_cat]
theorem gs_fil2 (ad : Nat → Nat) {ls ls' : List (Nat × Value)} {i : Nat} {v : Value} (h : (i, v) :: ls.filter (fun q => !(q.1 == i) && (!(q.1 == i + 1) && !(q.1 + 1 == i && q.2.category == 2))) = ls') : (i, gs_cv ad v) :: (gs_lm ad ls).filter (fun q => !(q.1 == i) && (!(q.1 == i + 1) && !(q.1 + 1 == i && q.2.category == 2))) = gs_lm ad ls' := by
  subst h
  simp only [gs_lm, List.map_cons, List.filter_map]
  congr 2
  apply List.filter_congr
  intro q _
  simp only [Function.comp, gs_cv_cat]
theorem gs_istore_n (C : gs_C X own cc nL rt n) {pc : Nat} {i : Fin 4} {j : Nat} {x : Int32} (hd : decode cc pc = .ok (.istore_n i, 1)) (hi : (i : Nat) = j) (hj : j < nL) (h : (j, .int x) :: ls.filter (fun q => !(q.1 == j) && !(q.1 + 1 == j && q.2.category == 2)) = ls') (k : gs_AW X (pc + 1) ls' st M L) : gs_AW X pc ls (.int x :: st) M L := by
  obtain ⟨p, l, e, R, s, m, args, below, meth, c, Q, ad, D, dA⟩ := X
  obtain ⟨hx, hb, hml, hown, hts, hK, hinj, hE, hr, hlk, hR⟩ := C
  intro H locs la hl hP hS
  exact lv_istore_n hx hb hd hi hl (by rw [hml]; exact hj) (gs_fil ad h) (fun la hl => k H locs la hl hP hS)
theorem gs_istore (C : gs_C X own cc nL rt n) {pc : Nat} {j : Nat} {x : Int32} (hd : decode cc pc = .ok (.istore j, 2)) (hj : j < nL) (h : (j, .int x) :: ls.filter (fun q => !(q.1 == j) && !(q.1 + 1 == j && q.2.category == 2)) = ls') (k : gs_AW X (pc + 2) ls' st M L) : gs_AW X pc ls (.int x :: st) M L := by
  obtain ⟨p, l, e, R, s, m, args, below, meth, c, Q, ad, D, dA⟩ := X
  obtain ⟨hx, hb, hml, hown, hts, hK, hinj, hE, hr, hlk, hR⟩ := C
  intro H locs la hl hP hS
  exact lv_istore hx hb hd hl (by rw [hml]; exact hj) (gs_fil ad h) (fun la hl => k H locs la hl hP hS)
theorem gs_astore_n (C : gs_C X own cc nL rt n) {pc : Nat} {i : Fin 4} {j : Nat} {x : Nat} (hd : decode cc pc = .ok (.astore_n i, 1)) (hi : (i : Nat) = j) (hj : j < nL) (h : (j, .ref x) :: ls.filter (fun q => !(q.1 == j) && !(q.1 + 1 == j && q.2.category == 2)) = ls') (k : gs_AW X (pc + 1) ls' st M L) : gs_AW X pc ls (.ref x :: st) M L := by
  obtain ⟨p, l, e, R, s, m, args, below, meth, c, Q, ad, D, dA⟩ := X
  obtain ⟨hx, hb, hml, hown, hts, hK, hinj, hE, hr, hlk, hR⟩ := C
  intro H locs la hl hP hS
  exact lv_astore_n hx hb hd hi hl (by rw [hml]; exact hj) (gs_fil ad h) (fun la hl => k H locs la hl hP hS)
theorem gs_astore (C : gs_C X own cc nL rt n) {pc : Nat} {j : Nat} {x : Nat} (hd : decode cc pc = .ok (.astore j, 2)) (hj : j < nL) (h : (j, .ref x) :: ls.filter (fun q => !(q.1 == j) && !(q.1 + 1 == j && q.2.category == 2)) = ls') (k : gs_AW X (pc + 2) ls' st M L) : gs_AW X pc ls (.ref x :: st) M L := by
  obtain ⟨p, l, e, R, s, m, args, below, meth, c, Q, ad, D, dA⟩ := X
  obtain ⟨hx, hb, hml, hown, hts, hK, hinj, hE, hr, hlk, hR⟩ := C
  intro H locs la hl hP hS
  exact lv_astore hx hb hd hl (by rw [hml]; exact hj) (gs_fil ad h) (fun la hl => k H locs la hl hP hS)
theorem gs_lstore_n (C : gs_C X own cc nL rt n) {pc : Nat} {i : Fin 4} {j : Nat} {x : Int64} (hd : decode cc pc = .ok (.lstore_n i, 1)) (hi : (i : Nat) = j) (hj : j + 1 < nL) (h : (j, Value.long x) :: ls.filter (fun q => !(q.1 == j) && (!(q.1 == j + 1) && !(q.1 + 1 == j && q.2.category == 2))) = ls') (k : gs_AW X (pc + 1) ls' st M L) : gs_AW X pc ls (.long x :: st) M L := by
  obtain ⟨p, l, e, R, s, m, args, below, meth, c, Q, ad, D, dA⟩ := X
  obtain ⟨hx, hb, hml, hown, hts, hK, hinj, hE, hr, hlk, hR⟩ := C
  intro H locs la hl hP hS
  exact lv_lstore_n hx hb hd hi hl (by rw [hml]; exact hj) (gs_fil2 ad h) (fun la hl => k H locs la hl hP hS)
theorem gs_lstore (C : gs_C X own cc nL rt n) {pc : Nat} {j : Nat} {x : Int64} (hd : decode cc pc = .ok (.lstore j, 2)) (hj : j + 1 < nL) (h : (j, Value.long x) :: ls.filter (fun q => !(q.1 == j) && (!(q.1 == j + 1) && !(q.1 + 1 == j && q.2.category == 2))) = ls') (k : gs_AW X (pc + 2) ls' st M L) : gs_AW X pc ls (.long x :: st) M L := by
  obtain ⟨p, l, e, R, s, m, args, below, meth, c, Q, ad, D, dA⟩ := X
  obtain ⟨hx, hb, hml, hown, hts, hK, hinj, hE, hr, hlk, hR⟩ := C
  intro H locs la hl hP hS
  exact lv_lstore hx hb hd hl (by rw [hml]; exact hj) (gs_fil2 ad h) (fun la hl => k H locs la hl hP hS)
theorem gs_iinc (C : gs_C X own cc nL rt n) {pc : Nat} {j : Nat} {z : Int} (q : Nat) {x v : Int32} (hd : decode cc pc = .ok (.iinc j z, 3)) (hq : ls[q]? = some (j, .int x)) (hv : x + Int32.ofInt z = v) (hj : j < nL) (h : (j, Value.int v) :: ls.filter (fun q => !(q.1 == j) && !(q.1 + 1 == j && q.2.category == 2)) = ls') (k : gs_AW X (pc + 3) ls' st M L) : gs_AW X pc ls st M L := by
  obtain ⟨p, l, e, R, s, m, args, below, meth, c, Q, ad, D, dA⟩ := X
  obtain ⟨hx, hb, hml, hown, hts, hK, hinj, hE, hr, hlk, hR⟩ := C
  intro H locs la hl hP hS
  exact lv_iinc (k := q) hx hb hd hl (gs_lk ad hq) hv (by rw [hml]; exact hj) (gs_fil ad h) (fun la hl => k H locs la hl hP hS)
theorem gs_iadd (C : gs_C X own cc nL rt n) {pc : Nat} {x y : Int32} (hd : decode cc pc = .ok (.iadd, 1)) (k : gs_AW X (pc + 1) ls (.int (x + y) :: st) M L) : gs_AW X pc ls (.int y :: .int x :: st) M L := by
  obtain ⟨p, l, e, R, s, m, args, below, meth, c, Q, ad, D, dA⟩ := X
  obtain ⟨hx, hb, hml, hown, hts, hK, hinj, hE, hr, hlk, hR⟩ := C
  intro H locs la hl hP hS
  exact lv_iadd hx hb hd (k H locs la hl hP hS)
theorem gs_isub (C : gs_C X own cc nL rt n) {pc : Nat} {x y : Int32} (hd : decode cc pc = .ok (.isub, 1)) (k : gs_AW X (pc + 1) ls (.int (x - y) :: st) M L) : gs_AW X pc ls (.int y :: .int x :: st) M L := by
  obtain ⟨p, l, e, R, s, m, args, below, meth, c, Q, ad, D, dA⟩ := X
  obtain ⟨hx, hb, hml, hown, hts, hK, hinj, hE, hr, hlk, hR⟩ := C
  intro H locs la hl hP hS
  exact lv_isub hx hb hd (k H locs la hl hP hS)
theorem gs_imul (C : gs_C X own cc nL rt n) {pc : Nat} {x y : Int32} (hd : decode cc pc = .ok (.imul, 1)) (k : gs_AW X (pc + 1) ls (.int (x * y) :: st) M L) : gs_AW X pc ls (.int y :: .int x :: st) M L := by
  obtain ⟨p, l, e, R, s, m, args, below, meth, c, Q, ad, D, dA⟩ := X
  obtain ⟨hx, hb, hml, hown, hts, hK, hinj, hE, hr, hlk, hR⟩ := C
  intro H locs la hl hP hS
  exact lv_imul hx hb hd (k H locs la hl hP hS)
theorem gs_iand (C : gs_C X own cc nL rt n) {pc : Nat} {x y : Int32} (hd : decode cc pc = .ok (.iand, 1)) (k : gs_AW X (pc + 1) ls (.int (x &&& y) :: st) M L) : gs_AW X pc ls (.int y :: .int x :: st) M L := by
  obtain ⟨p, l, e, R, s, m, args, below, meth, c, Q, ad, D, dA⟩ := X
  obtain ⟨hx, hb, hml, hown, hts, hK, hinj, hE, hr, hlk, hR⟩ := C
  intro H locs la hl hP hS
  exact lv_iand hx hb hd (k H locs la hl hP hS)
theorem gs_ior (C : gs_C X own cc nL rt n) {pc : Nat} {x y : Int32} (hd : decode cc pc = .ok (.ior, 1)) (k : gs_AW X (pc + 1) ls (.int (x ||| y) :: st) M L) : gs_AW X pc ls (.int y :: .int x :: st) M L := by
  obtain ⟨p, l, e, R, s, m, args, below, meth, c, Q, ad, D, dA⟩ := X
  obtain ⟨hx, hb, hml, hown, hts, hK, hinj, hE, hr, hlk, hR⟩ := C
  intro H locs la hl hP hS
  exact lv_ior hx hb hd (k H locs la hl hP hS)
theorem gs_ixor (C : gs_C X own cc nL rt n) {pc : Nat} {x y : Int32} (hd : decode cc pc = .ok (.ixor, 1)) (k : gs_AW X (pc + 1) ls (.int (x ^^^ y) :: st) M L) : gs_AW X pc ls (.int y :: .int x :: st) M L := by
  obtain ⟨p, l, e, R, s, m, args, below, meth, c, Q, ad, D, dA⟩ := X
  obtain ⟨hx, hb, hml, hown, hts, hK, hinj, hE, hr, hlk, hR⟩ := C
  intro H locs la hl hP hS
  exact lv_ixor hx hb hd (k H locs la hl hP hS)
theorem gs_ladd (C : gs_C X own cc nL rt n) {pc : Nat} {x y : Int64} (hd : decode cc pc = .ok (.ladd, 1)) (k : gs_AW X (pc + 1) ls (.long (x + y) :: st) M L) : gs_AW X pc ls (.long y :: .long x :: st) M L := by
  obtain ⟨p, l, e, R, s, m, args, below, meth, c, Q, ad, D, dA⟩ := X
  obtain ⟨hx, hb, hml, hown, hts, hK, hinj, hE, hr, hlk, hR⟩ := C
  intro H locs la hl hP hS
  exact lv_ladd hx hb hd (k H locs la hl hP hS)
theorem gs_lsub (C : gs_C X own cc nL rt n) {pc : Nat} {x y : Int64} (hd : decode cc pc = .ok (.lsub, 1)) (k : gs_AW X (pc + 1) ls (.long (x - y) :: st) M L) : gs_AW X pc ls (.long y :: .long x :: st) M L := by
  obtain ⟨p, l, e, R, s, m, args, below, meth, c, Q, ad, D, dA⟩ := X
  obtain ⟨hx, hb, hml, hown, hts, hK, hinj, hE, hr, hlk, hR⟩ := C
  intro H locs la hl hP hS
  exact lv_lsub hx hb hd (k H locs la hl hP hS)
theorem gs_lmul (C : gs_C X own cc nL rt n) {pc : Nat} {x y : Int64} (hd : decode cc pc = .ok (.lmul, 1)) (k : gs_AW X (pc + 1) ls (.long (x * y) :: st) M L) : gs_AW X pc ls (.long y :: .long x :: st) M L := by
  obtain ⟨p, l, e, R, s, m, args, below, meth, c, Q, ad, D, dA⟩ := X
  obtain ⟨hx, hb, hml, hown, hts, hK, hinj, hE, hr, hlk, hR⟩ := C
  intro H locs la hl hP hS
  exact lv_lmul hx hb hd (k H locs la hl hP hS)
theorem gs_land (C : gs_C X own cc nL rt n) {pc : Nat} {x y : Int64} (hd : decode cc pc = .ok (.land, 1)) (k : gs_AW X (pc + 1) ls (.long (x &&& y) :: st) M L) : gs_AW X pc ls (.long y :: .long x :: st) M L := by
  obtain ⟨p, l, e, R, s, m, args, below, meth, c, Q, ad, D, dA⟩ := X
  obtain ⟨hx, hb, hml, hown, hts, hK, hinj, hE, hr, hlk, hR⟩ := C
  intro H locs la hl hP hS
  exact lv_land hx hb hd (k H locs la hl hP hS)
theorem gs_lor (C : gs_C X own cc nL rt n) {pc : Nat} {x y : Int64} (hd : decode cc pc = .ok (.lor, 1)) (k : gs_AW X (pc + 1) ls (.long (x ||| y) :: st) M L) : gs_AW X pc ls (.long y :: .long x :: st) M L := by
  obtain ⟨p, l, e, R, s, m, args, below, meth, c, Q, ad, D, dA⟩ := X
  obtain ⟨hx, hb, hml, hown, hts, hK, hinj, hE, hr, hlk, hR⟩ := C
  intro H locs la hl hP hS
  exact lv_lor hx hb hd (k H locs la hl hP hS)
theorem gs_idiv (C : gs_C X own cc nL rt n) {pc : Nat} {x y : Int32} (hd : decode cc pc = .ok (.idiv, 1)) (hy : ¬ y = 0) (k : gs_AW X (pc + 1) ls (.int (x / y) :: st) M L) : gs_AW X pc ls (.int y :: .int x :: st) M L := by
  obtain ⟨p, l, e, R, s, m, args, below, meth, c, Q, ad, D, dA⟩ := X
  obtain ⟨hx, hb, hml, hown, hts, hK, hinj, hE, hr, hlk, hR⟩ := C
  intro H locs la hl hP hS
  exact lv_idiv hx hb hd hy (k H locs la hl hP hS)
theorem gs_irem (C : gs_C X own cc nL rt n) {pc : Nat} {x y : Int32} (hd : decode cc pc = .ok (.irem, 1)) (hy : ¬ y = 0) (k : gs_AW X (pc + 1) ls (.int (x - x / y * y) :: st) M L) : gs_AW X pc ls (.int y :: .int x :: st) M L := by
  obtain ⟨p, l, e, R, s, m, args, below, meth, c, Q, ad, D, dA⟩ := X
  obtain ⟨hx, hb, hml, hown, hts, hK, hinj, hE, hr, hlk, hR⟩ := C
  intro H locs la hl hP hS
  exact lv_irem hx hb hd hy (k H locs la hl hP hS)
theorem gs_ldiv (C : gs_C X own cc nL rt n) {pc : Nat} {x y : Int64} (hd : decode cc pc = .ok (.ldiv, 1)) (hy : ¬ y = 0) (k : gs_AW X (pc + 1) ls (.long (x / y) :: st) M L) : gs_AW X pc ls (.long y :: .long x :: st) M L := by
  obtain ⟨p, l, e, R, s, m, args, below, meth, c, Q, ad, D, dA⟩ := X
  obtain ⟨hx, hb, hml, hown, hts, hK, hinj, hE, hr, hlk, hR⟩ := C
  intro H locs la hl hP hS
  exact lv_ldiv hx hb hd hy (k H locs la hl hP hS)
theorem gs_lrem (C : gs_C X own cc nL rt n) {pc : Nat} {x y : Int64} (hd : decode cc pc = .ok (.lrem, 1)) (hy : ¬ y = 0) (k : gs_AW X (pc + 1) ls (.long (x - x / y * y) :: st) M L) : gs_AW X pc ls (.long y :: .long x :: st) M L := by
  obtain ⟨p, l, e, R, s, m, args, below, meth, c, Q, ad, D, dA⟩ := X
  obtain ⟨hx, hb, hml, hown, hts, hK, hinj, hE, hr, hlk, hR⟩ := C
  intro H locs la hl hP hS
  exact lv_lrem hx hb hd hy (k H locs la hl hP hS)
theorem gs_ishl (C : gs_C X own cc nL rt n) {pc : Nat} {x y : Int32} (hd : decode cc pc = .ok (.ishl, 1)) (k : gs_AW X (pc + 1) ls (.int (x <<< (y &&& 31)) :: st) M L) : gs_AW X pc ls (.int y :: .int x :: st) M L := by
  obtain ⟨p, l, e, R, s, m, args, below, meth, c, Q, ad, D, dA⟩ := X
  obtain ⟨hx, hb, hml, hown, hts, hK, hinj, hE, hr, hlk, hR⟩ := C
  intro H locs la hl hP hS
  exact lv_ishl hx hb hd (k H locs la hl hP hS)
theorem gs_ishr (C : gs_C X own cc nL rt n) {pc : Nat} {x y : Int32} (hd : decode cc pc = .ok (.ishr, 1)) (k : gs_AW X (pc + 1) ls (.int (x >>> (y &&& 31)) :: st) M L) : gs_AW X pc ls (.int y :: .int x :: st) M L := by
  obtain ⟨p, l, e, R, s, m, args, below, meth, c, Q, ad, D, dA⟩ := X
  obtain ⟨hx, hb, hml, hown, hts, hK, hinj, hE, hr, hlk, hR⟩ := C
  intro H locs la hl hP hS
  exact lv_ishr hx hb hd (k H locs la hl hP hS)
theorem gs_iushr (C : gs_C X own cc nL rt n) {pc : Nat} {x y : Int32} (hd : decode cc pc = .ok (.iushr, 1)) (k : gs_AW X (pc + 1) ls (.int ((x.toUInt32 >>> (y.toUInt32 &&& Int32.toUInt32 31)).toInt32) :: st) M L) : gs_AW X pc ls (.int y :: .int x :: st) M L := by
  obtain ⟨p, l, e, R, s, m, args, below, meth, c, Q, ad, D, dA⟩ := X
  obtain ⟨hx, hb, hml, hown, hts, hK, hinj, hE, hr, hlk, hR⟩ := C
  intro H locs la hl hP hS
  exact lv_iushr hx hb hd rfl (k H locs la hl hP hS)
theorem gs_lushr (C : gs_C X own cc nL rt n) {pc : Nat} {x : Int64} {y : Int32} (hd : decode cc pc = .ok (.lushr, 1)) (k : gs_AW X (pc + 1) ls (.long ((x.toUInt64 >>> (y.toInt64.toUInt64 &&& Int64.toUInt64 63)).toInt64) :: st) M L) : gs_AW X pc ls (.int y :: .long x :: st) M L := by
  obtain ⟨p, l, e, R, s, m, args, below, meth, c, Q, ad, D, dA⟩ := X
  obtain ⟨hx, hb, hml, hown, hts, hK, hinj, hE, hr, hlk, hR⟩ := C
  intro H locs la hl hP hS
  exact lv_lushr hx hb hd rfl (k H locs la hl hP hS)
theorem gs_lshl (C : gs_C X own cc nL rt n) {pc : Nat} {x : Int64} {y : Int32} (hd : decode cc pc = .ok (.lshl, 1)) (k : gs_AW X (pc + 1) ls (.long (x <<< (y.toInt64 &&& 63)) :: st) M L) : gs_AW X pc ls (.int y :: .long x :: st) M L := by
  obtain ⟨p, l, e, R, s, m, args, below, meth, c, Q, ad, D, dA⟩ := X
  obtain ⟨hx, hb, hml, hown, hts, hK, hinj, hE, hr, hlk, hR⟩ := C
  intro H locs la hl hP hS
  exact lv_lshl hx hb hd rfl (k H locs la hl hP hS)
theorem gs_ineg (C : gs_C X own cc nL rt n) {pc : Nat} {x : Int32} (hd : decode cc pc = .ok (.ineg, 1)) (k : gs_AW X (pc + 1) ls (.int (-x) :: st) M L) : gs_AW X pc ls (.int x :: st) M L := by
  obtain ⟨p, l, e, R, s, m, args, below, meth, c, Q, ad, D, dA⟩ := X
  obtain ⟨hx, hb, hml, hown, hts, hK, hinj, hE, hr, hlk, hR⟩ := C
  intro H locs la hl hP hS
  exact lv_ineg hx hb hd (k H locs la hl hP hS)
theorem gs_i2l (C : gs_C X own cc nL rt n) {pc : Nat} {x : Int32} (hd : decode cc pc = .ok (.i2l, 1)) (k : gs_AW X (pc + 1) ls (.long x.toInt64 :: st) M L) : gs_AW X pc ls (.int x :: st) M L := by
  obtain ⟨p, l, e, R, s, m, args, below, meth, c, Q, ad, D, dA⟩ := X
  obtain ⟨hx, hb, hml, hown, hts, hK, hinj, hE, hr, hlk, hR⟩ := C
  intro H locs la hl hP hS
  exact lv_i2l hx hb hd rfl (k H locs la hl hP hS)
theorem gs_l2i (C : gs_C X own cc nL rt n) {pc : Nat} {x : Int64} (hd : decode cc pc = .ok (.l2i, 1)) (k : gs_AW X (pc + 1) ls (.int x.toInt32 :: st) M L) : gs_AW X pc ls (.long x :: st) M L := by
  obtain ⟨p, l, e, R, s, m, args, below, meth, c, Q, ad, D, dA⟩ := X
  obtain ⟨hx, hb, hml, hown, hts, hK, hinj, hE, hr, hlk, hR⟩ := C
  intro H locs la hl hP hS
  exact lv_l2i hx hb hd rfl (k H locs la hl hP hS)
theorem gs_i2b (C : gs_C X own cc nL rt n) {pc : Nat} {x : Int32} (hd : decode cc pc = .ok (.i2b, 1)) (k : gs_AW X (pc + 1) ls (.int x.toInt8.toInt32 :: st) M L) : gs_AW X pc ls (.int x :: st) M L := by
  obtain ⟨p, l, e, R, s, m, args, below, meth, c, Q, ad, D, dA⟩ := X
  obtain ⟨hx, hb, hml, hown, hts, hK, hinj, hE, hr, hlk, hR⟩ := C
  intro H locs la hl hP hS
  exact lv_i2b hx hb hd rfl (k H locs la hl hP hS)
theorem gs_i2c (C : gs_C X own cc nL rt n) {pc : Nat} {x : Int32} (hd : decode cc pc = .ok (.i2c, 1)) (k : gs_AW X (pc + 1) ls (.int (x.toUInt32 % 65536).toInt32 :: st) M L) : gs_AW X pc ls (.int x :: st) M L := by
  obtain ⟨p, l, e, R, s, m, args, below, meth, c, Q, ad, D, dA⟩ := X
  obtain ⟨hx, hb, hml, hown, hts, hK, hinj, hE, hr, hlk, hR⟩ := C
  intro H locs la hl hP hS
  exact lv_i2c hx hb hd rfl (k H locs la hl hP hS)
theorem gs_lcmp (C : gs_C X own cc nL rt n) {pc : Nat} {x y : Int64} (hd : decode cc pc = .ok (.lcmp, 1)) (k : gs_AW X (pc + 1) ls (.int (lg_cmp x y) :: st) M L) : gs_AW X pc ls (.long y :: .long x :: st) M L := by
  obtain ⟨p, l, e, R, s, m, args, below, meth, c, Q, ad, D, dA⟩ := X
  obtain ⟨hx, hb, hml, hown, hts, hK, hinj, hE, hr, hlk, hR⟩ := C
  intro H locs la hl hP hS
  exact W.lcmp hx hb hd (k H locs la hl hP hS)
theorem gs_dup (C : gs_C X own cc nL rt n) {pc : Nat} {v : Value} (hd : decode cc pc = .ok (.dup, 1)) (hv : v.category = 1) (k : gs_AW X (pc + 1) ls (v :: v :: st) M L) : gs_AW X pc ls (v :: st) M L := by
  obtain ⟨p, l, e, R, s, m, args, below, meth, c, Q, ad, D, dA⟩ := X
  obtain ⟨hx, hb, hml, hown, hts, hK, hinj, hE, hr, hlk, hR⟩ := C
  intro H locs la hl hP hS
  exact lv_dup hx hb hd (by rw [gs_cv_cat]; exact hv) (k H locs la hl hP hS)
theorem gs_pop (C : gs_C X own cc nL rt n) {pc : Nat} {v : Value} (hd : decode cc pc = .ok (.pop, 1)) (hv : v.category = 1) (k : gs_AW X (pc + 1) ls st M L) : gs_AW X pc ls (v :: st) M L := by
  obtain ⟨p, l, e, R, s, m, args, below, meth, c, Q, ad, D, dA⟩ := X
  obtain ⟨hx, hb, hml, hown, hts, hK, hinj, hE, hr, hlk, hR⟩ := C
  intro H locs la hl hP hS
  exact lv_pop hx hb hd (by rw [gs_cv_cat]; exact hv) (k H locs la hl hP hS)
theorem gs_dup_x1 (C : gs_C X own cc nL rt n) {pc : Nat} {v w : Value} (hd : decode cc pc = .ok (.dup_x1, 1)) (hv : v.category = 1) (hw : w.category = 1) (k : gs_AW X (pc + 1) ls (v :: w :: v :: st) M L) : gs_AW X pc ls (v :: w :: st) M L := by
  obtain ⟨p, l, e, R, s, m, args, below, meth, c, Q, ad, D, dA⟩ := X
  obtain ⟨hx, hb, hml, hown, hts, hK, hinj, hE, hr, hlk, hR⟩ := C
  intro H locs la hl hP hS
  exact lv_dup_x1 hx hb hd (by rw [gs_cv_cat]; exact hv) (by rw [gs_cv_cat]; exact hw) (k H locs la hl hP hS)
theorem gs_dup2 (C : gs_C X own cc nL rt n) {pc : Nat} {v w : Value} (hd : decode cc pc = .ok (.dup2, 1)) (hv : v.category = 1) (hw : w.category = 1) (k : gs_AW X (pc + 1) ls (v :: w :: v :: w :: st) M L) : gs_AW X pc ls (v :: w :: st) M L := by
  obtain ⟨p, l, e, R, s, m, args, below, meth, c, Q, ad, D, dA⟩ := X
  obtain ⟨hx, hb, hml, hown, hts, hK, hinj, hE, hr, hlk, hR⟩ := C
  intro H locs la hl hP hS
  exact lv_dup2_11 hx hb hd (by rw [gs_cv_cat]; exact hv) (by rw [gs_cv_cat]; exact hw) (k H locs la hl hP hS)
theorem gs_ldc (C : gs_C X own cc nL rt n) {pc : Nat} {v : Int32} {i : Nat} (hd : decode cc pc = .ok (.ldc i, 2)) (hw : Cond.constant own i v ∈ gs_W) (k : gs_AW X (pc + 2) ls (.int v :: st) M L) : gs_AW X pc ls st M L := by
  obtain ⟨p, l, e, R, s, m, args, below, meth, c, Q, ad, D, dA⟩ := X
  obtain ⟨hx, hb, hml, hown, hts, hK, hinj, hE, hr, hlk, hR⟩ := C
  intro H locs la hl hP hS
  exact lv_ldc hx hb hown (hts _ hw) hd (k H locs la hl hP hS)
theorem gs_ldcw (C : gs_C X own cc nL rt n) {pc : Nat} {v : Int32} {i : Nat} (hd : decode cc pc = .ok (.ldc_w i, 3)) (hw : Cond.constant own i v ∈ gs_W) (k : gs_AW X (pc + 3) ls (.int v :: st) M L) : gs_AW X pc ls st M L := by
  obtain ⟨p, l, e, R, s, m, args, below, meth, c, Q, ad, D, dA⟩ := X
  obtain ⟨hx, hb, hml, hown, hts, hK, hinj, hE, hr, hlk, hR⟩ := C
  intro H locs la hl hP hS
  exact lv_ldcw hx hb hown (hts _ hw) hd (k H locs la hl hP hS)
theorem gs_ldc2 (C : gs_C X own cc nL rt n) {pc : Nat} {v : Int64} {i : Nat} (hd : decode cc pc = .ok (.ldc2_w i, 3)) (hw : Cond.constantLong own i v ∈ gs_W) (k : gs_AW X (pc + 3) ls (.long v :: st) M L) : gs_AW X pc ls st M L := by
  obtain ⟨p, l, e, R, s, m, args, below, meth, c, Q, ad, D, dA⟩ := X
  obtain ⟨hx, hb, hml, hown, hts, hK, hinj, hE, hr, hlk, hR⟩ := C
  intro H locs la hl hP hS
  exact lv_ldc2 hx hb hown (hts _ hw) hd (k H locs la hl hP hS)
theorem gs_ldcS (C : gs_C X own cc nL rt n) {pc : Nat} {i q : Nat} {tx : String} (hd : decode cc pc = .ok (.ldc i, 2)) (hw : (own, i, tx, q) ∈ gs_lit) (k : gs_AW X (pc + 2) ls (.ref q :: st) M L) : gs_AW X pc ls st M L := by
  obtain ⟨p, l, e, R, s, m, args, below, meth, c, Q, ad, D, dA⟩ := X
  obtain ⟨hx, hb, hml, hown, hts, hK, hinj, hE, hr, hlk, hR⟩ := C
  intro H locs la hl hP hS
  exact va_ldcS hx hb hown (hE.2.2.1 _ hw) hd (k H locs la hl hP hS)
theorem gs_if_eq (C : gs_C X own cc nL rt n) {pc : Nat} {z : Int} {x : Int32} (t : Nat) (hd : decode cc pc = .ok (.ifCond .eq z, 3)) (ht : (pc : Int) + z = (t : Int)) (kt : x = 0 → gs_AW X t ls st M L) (kf : ¬ (x = 0) → gs_AW X (pc + 3) ls st M L) : gs_AW X pc ls (.int x :: st) M L := by
  obtain ⟨p, l, e, R, s, m, args, below, meth, c, Q, ad, D, dA⟩ := X
  obtain ⟨hx, hb, hml, hown, hts, hK, hinj, hE, hr, hlk, hR⟩ := C
  intro H locs la hl hP hS
  exact lv_if_eq hx hb hd ht (fun h => kt h H locs la hl hP hS) (fun h => kf h H locs la hl hP hS)
theorem gs_icmp_eq (C : gs_C X own cc nL rt n) {pc : Nat} {z : Int} {x y : Int32} (t : Nat) (hd : decode cc pc = .ok (.if_icmp .eq z, 3)) (ht : (pc : Int) + z = (t : Int)) (kt : x = y → gs_AW X t ls st M L) (kf : ¬ (x = y) → gs_AW X (pc + 3) ls st M L) : gs_AW X pc ls (.int y :: .int x :: st) M L := by
  obtain ⟨p, l, e, R, s, m, args, below, meth, c, Q, ad, D, dA⟩ := X
  obtain ⟨hx, hb, hml, hown, hts, hK, hinj, hE, hr, hlk, hR⟩ := C
  intro H locs la hl hP hS
  exact lv_icmp_eq hx hb hd ht (fun h => kt h H locs la hl hP hS) (fun h => kf h H locs la hl hP hS)
theorem gs_if_ne (C : gs_C X own cc nL rt n) {pc : Nat} {z : Int} {x : Int32} (t : Nat) (hd : decode cc pc = .ok (.ifCond .ne z, 3)) (ht : (pc : Int) + z = (t : Int)) (kt : ¬ x = 0 → gs_AW X t ls st M L) (kf : x = 0 → gs_AW X (pc + 3) ls st M L) : gs_AW X pc ls (.int x :: st) M L := by
  obtain ⟨p, l, e, R, s, m, args, below, meth, c, Q, ad, D, dA⟩ := X
  obtain ⟨hx, hb, hml, hown, hts, hK, hinj, hE, hr, hlk, hR⟩ := C
  intro H locs la hl hP hS
  exact lv_if_ne hx hb hd ht (fun h => kt h H locs la hl hP hS) (fun h => kf h H locs la hl hP hS)
theorem gs_icmp_ne (C : gs_C X own cc nL rt n) {pc : Nat} {z : Int} {x y : Int32} (t : Nat) (hd : decode cc pc = .ok (.if_icmp .ne z, 3)) (ht : (pc : Int) + z = (t : Int)) (kt : ¬ x = y → gs_AW X t ls st M L) (kf : x = y → gs_AW X (pc + 3) ls st M L) : gs_AW X pc ls (.int y :: .int x :: st) M L := by
  obtain ⟨p, l, e, R, s, m, args, below, meth, c, Q, ad, D, dA⟩ := X
  obtain ⟨hx, hb, hml, hown, hts, hK, hinj, hE, hr, hlk, hR⟩ := C
  intro H locs la hl hP hS
  exact lv_icmp_ne hx hb hd ht (fun h => kt h H locs la hl hP hS) (fun h => kf h H locs la hl hP hS)
theorem gs_if_lt (C : gs_C X own cc nL rt n) {pc : Nat} {z : Int} {x : Int32} (t : Nat) (hd : decode cc pc = .ok (.ifCond .lt z, 3)) (ht : (pc : Int) + z = (t : Int)) (kt : x < 0 → gs_AW X t ls st M L) (kf : ¬ (x < 0) → gs_AW X (pc + 3) ls st M L) : gs_AW X pc ls (.int x :: st) M L := by
  obtain ⟨p, l, e, R, s, m, args, below, meth, c, Q, ad, D, dA⟩ := X
  obtain ⟨hx, hb, hml, hown, hts, hK, hinj, hE, hr, hlk, hR⟩ := C
  intro H locs la hl hP hS
  exact lv_if_lt hx hb hd ht (fun h => kt h H locs la hl hP hS) (fun h => kf h H locs la hl hP hS)
theorem gs_icmp_lt (C : gs_C X own cc nL rt n) {pc : Nat} {z : Int} {x y : Int32} (t : Nat) (hd : decode cc pc = .ok (.if_icmp .lt z, 3)) (ht : (pc : Int) + z = (t : Int)) (kt : x < y → gs_AW X t ls st M L) (kf : ¬ (x < y) → gs_AW X (pc + 3) ls st M L) : gs_AW X pc ls (.int y :: .int x :: st) M L := by
  obtain ⟨p, l, e, R, s, m, args, below, meth, c, Q, ad, D, dA⟩ := X
  obtain ⟨hx, hb, hml, hown, hts, hK, hinj, hE, hr, hlk, hR⟩ := C
  intro H locs la hl hP hS
  exact lv_icmp_lt hx hb hd ht (fun h => kt h H locs la hl hP hS) (fun h => kf h H locs la hl hP hS)
theorem gs_if_ge (C : gs_C X own cc nL rt n) {pc : Nat} {z : Int} {x : Int32} (t : Nat) (hd : decode cc pc = .ok (.ifCond .ge z, 3)) (ht : (pc : Int) + z = (t : Int)) (kt : 0 ≤ x → gs_AW X t ls st M L) (kf : ¬ (0 ≤ x) → gs_AW X (pc + 3) ls st M L) : gs_AW X pc ls (.int x :: st) M L := by
  obtain ⟨p, l, e, R, s, m, args, below, meth, c, Q, ad, D, dA⟩ := X
  obtain ⟨hx, hb, hml, hown, hts, hK, hinj, hE, hr, hlk, hR⟩ := C
  intro H locs la hl hP hS
  exact lv_if_ge hx hb hd ht (fun h => kt h H locs la hl hP hS) (fun h => kf h H locs la hl hP hS)
theorem gs_icmp_ge (C : gs_C X own cc nL rt n) {pc : Nat} {z : Int} {x y : Int32} (t : Nat) (hd : decode cc pc = .ok (.if_icmp .ge z, 3)) (ht : (pc : Int) + z = (t : Int)) (kt : y ≤ x → gs_AW X t ls st M L) (kf : ¬ (y ≤ x) → gs_AW X (pc + 3) ls st M L) : gs_AW X pc ls (.int y :: .int x :: st) M L := by
  obtain ⟨p, l, e, R, s, m, args, below, meth, c, Q, ad, D, dA⟩ := X
  obtain ⟨hx, hb, hml, hown, hts, hK, hinj, hE, hr, hlk, hR⟩ := C
  intro H locs la hl hP hS
  exact lv_icmp_ge hx hb hd ht (fun h => kt h H locs la hl hP hS) (fun h => kf h H locs la hl hP hS)
theorem gs_if_gt (C : gs_C X own cc nL rt n) {pc : Nat} {z : Int} {x : Int32} (t : Nat) (hd : decode cc pc = .ok (.ifCond .gt z, 3)) (ht : (pc : Int) + z = (t : Int)) (kt : 0 < x → gs_AW X t ls st M L) (kf : ¬ (0 < x) → gs_AW X (pc + 3) ls st M L) : gs_AW X pc ls (.int x :: st) M L := by
  obtain ⟨p, l, e, R, s, m, args, below, meth, c, Q, ad, D, dA⟩ := X
  obtain ⟨hx, hb, hml, hown, hts, hK, hinj, hE, hr, hlk, hR⟩ := C
  intro H locs la hl hP hS
  exact lv_if_gt hx hb hd ht (fun h => kt h H locs la hl hP hS) (fun h => kf h H locs la hl hP hS)
theorem gs_icmp_gt (C : gs_C X own cc nL rt n) {pc : Nat} {z : Int} {x y : Int32} (t : Nat) (hd : decode cc pc = .ok (.if_icmp .gt z, 3)) (ht : (pc : Int) + z = (t : Int)) (kt : y < x → gs_AW X t ls st M L) (kf : ¬ (y < x) → gs_AW X (pc + 3) ls st M L) : gs_AW X pc ls (.int y :: .int x :: st) M L := by
  obtain ⟨p, l, e, R, s, m, args, below, meth, c, Q, ad, D, dA⟩ := X
  obtain ⟨hx, hb, hml, hown, hts, hK, hinj, hE, hr, hlk, hR⟩ := C
  intro H locs la hl hP hS
  exact lv_icmp_gt hx hb hd ht (fun h => kt h H locs la hl hP hS) (fun h => kf h H locs la hl hP hS)
theorem gs_if_le (C : gs_C X own cc nL rt n) {pc : Nat} {z : Int} {x : Int32} (t : Nat) (hd : decode cc pc = .ok (.ifCond .le z, 3)) (ht : (pc : Int) + z = (t : Int)) (kt : x ≤ 0 → gs_AW X t ls st M L) (kf : ¬ (x ≤ 0) → gs_AW X (pc + 3) ls st M L) : gs_AW X pc ls (.int x :: st) M L := by
  obtain ⟨p, l, e, R, s, m, args, below, meth, c, Q, ad, D, dA⟩ := X
  obtain ⟨hx, hb, hml, hown, hts, hK, hinj, hE, hr, hlk, hR⟩ := C
  intro H locs la hl hP hS
  exact lv_if_le hx hb hd ht (fun h => kt h H locs la hl hP hS) (fun h => kf h H locs la hl hP hS)
theorem gs_icmp_le (C : gs_C X own cc nL rt n) {pc : Nat} {z : Int} {x y : Int32} (t : Nat) (hd : decode cc pc = .ok (.if_icmp .le z, 3)) (ht : (pc : Int) + z = (t : Int)) (kt : x ≤ y → gs_AW X t ls st M L) (kf : ¬ (x ≤ y) → gs_AW X (pc + 3) ls st M L) : gs_AW X pc ls (.int y :: .int x :: st) M L := by
  obtain ⟨p, l, e, R, s, m, args, below, meth, c, Q, ad, D, dA⟩ := X
  obtain ⟨hx, hb, hml, hown, hts, hK, hinj, hE, hr, hlk, hR⟩ := C
  intro H locs la hl hP hS
  exact lv_icmp_le hx hb hd ht (fun h => kt h H locs la hl hP hS) (fun h => kf h H locs la hl hP hS)
theorem gs_goto (C : gs_C X own cc nL rt n) {pc : Nat} {z : Int} (t : Nat) (hd : decode cc pc = .ok (.goto z, 3)) (ht : (pc : Int) + z = (t : Int)) (k : gs_AW X t ls st M L) : gs_AW X pc ls st M L := by
  obtain ⟨p, l, e, R, s, m, args, below, meth, c, Q, ad, D, dA⟩ := X
  obtain ⟨hx, hb, hml, hown, hts, hK, hinj, hE, hr, hlk, hR⟩ := C
  intro H locs la hl hP hS
  exact lv_goto hx hb hd ht (k H locs la hl hP hS)
theorem gs_tabOut (C : gs_C X own cc nL rt n) {pc ln : Nat} {df lo hi : Int} {offs : Array Int} {x : Int32} (t : Nat) (hd : decode cc pc = .ok (.tableswitch df lo hi offs, ln)) (h : x.toInt < lo ∨ hi < x.toInt) (ht : (pc : Int) + df = (t : Int)) (k : gs_AW X t ls st M L) : gs_AW X pc ls (.int x :: st) M L := by
  obtain ⟨p, l, e, R, s, m, args, below, meth, c, Q, ad, D, dA⟩ := X
  obtain ⟨hx, hb, hml, hown, hts, hK, hinj, hE, hr, hlk, hR⟩ := C
  intro H locs la hl hP hS
  exact lv_tableOut hx hb hd h ht (k H locs la hl hP hS)
theorem gs_tabIn (C : gs_C X own cc nL rt n) {pc ln : Nat} {df lo hi off : Int} {offs : Array Int} {x : Int32} (t : Nat) (hd : decode cc pc = .ok (.tableswitch df lo hi offs, ln)) (h1 : ¬ x.toInt < lo) (h2 : ¬ hi < x.toInt) (ho : offs[(x.toInt - lo).toNat]? = some off) (ht : (pc : Int) + off = (t : Int)) (k : gs_AW X t ls st M L) : gs_AW X pc ls (.int x :: st) M L := by
  obtain ⟨p, l, e, R, s, m, args, below, meth, c, Q, ad, D, dA⟩ := X
  obtain ⟨hx, hb, hml, hown, hts, hK, hinj, hE, hr, hlk, hR⟩ := C
  intro H locs la hl hP hS
  exact lv_tableIn hx hb hd h1 h2 ho ht (k H locs la hl hP hS)
theorem gs_hin {ci : Nat} {q : vw_C} (hk : gs_K ci) (hq : vwCl[ci]? = some q) : (∀ w ∈ u_ws q.1 q.2.1 q.2.2, w ∈ gs_W) ∧ (∃ ty : Nat → FieldType, ∀ k, k < q.2.2 → parseFieldDescriptor (q.2.1 k).2.2.1 = some (ty k)) ∧ (∀ a, a < q.2.2 → ∀ b, b < q.2.2 → a ≠ b → (q.2.1 a).2.1 ≠ (q.2.1 b).2.1) := by
  obtain ⟨q', h, h2⟩ := hk
  cases hq.symm.trans h
  exact h2
theorem gs_obj {ad : Nat → Nat} {dA : Nat → ClassId} {M : gs_M} {L : gs_L} {r ci : Nat} {fs : List (Nat × Nat)} (hs : gs_sh r = .inr (ci, fs)) (hc : ci < 13) : (gs_ws ad dA M L)[r]? = some (ad r, .inr (ci, gs_fs ad (M r) (L r) fs)) := by
  rw [gs_get ad dA M L (gs_lt_inr hs hc)]
  unfold gs_cell
  rw [hs]
theorem gs_ary {ad : Nat → Nat} {dA : Nat → ClassId} {M : gs_M} {L : gs_L} {r t k : Nat} (hs : gs_sh r = .inl (t, k)) : (gs_ws ad dA M L)[r]? = some (ad r, .inl (dA t, k, gs_arr ad (M r) (L r) r t)) := by
  rw [gs_get ad dA M L (gs_lt_inl hs)]
  unfold gs_cell
  rw [hs]
theorem gs_ci {own : String} {i ci k : Nat} (h : gs_F own i ci k) : ci < 13 := by
  obtain ⟨q, h1, -⟩ := h
  exact (List.getElem?_eq_some_iff.mp h1).1
theorem gs_geti (C : gs_C X own cc nL rt n) {pc i ci r q kk : Nat} {fs : List (Nat × Nat)} (hd : decode cc pc = .ok (.getfield i, 3)) (hK9 : gs_K ci) (hf : gs_F own i ci kk) (hs : gs_sh r = .inr (ci, fs)) (hq : fs[kk]? = some (0, q)) (k : gs_AW X (pc + 3) ls (.int (M r kk) :: st) M L) : gs_AW X pc ls (.ref r :: st) M L := by
  obtain ⟨p, l, e, R, s, m, args, below, meth, c, Q, ad, D, dA⟩ := X
  obtain ⟨hx, hb, hml, hown, hts, hK, hinj, hE, hr, hlk, hR⟩ := C
  intro H locs la hl hP hS
  have hc9 := gs_ci hf
  obtain ⟨w, h1, h2, h3, h4⟩ := hf
  obtain ⟨g1, -, -⟩ := gs_hin hK9 h1
  exact va_get (C := w.1) (T := w.2.1) (N := w.2.2) hx hb hts g1 hown hK hP r (gs_obj hs hc9) h1 kk h2 (hts _ h3) (by rw [h4]; exact fun _ h => h) (gs_fs_get ad (M r) (L r) hq) hd (k H locs la hl hP hS)
theorem gs_getl (C : gs_C X own cc nL rt n) {pc i ci r q kk : Nat} {fs : List (Nat × Nat)} (hd : decode cc pc = .ok (.getfield i, 3)) (hK9 : gs_K ci) (hf : gs_F own i ci kk) (hs : gs_sh r = .inr (ci, fs)) (hq : fs[kk]? = some (1, q)) (k : gs_AW X (pc + 3) ls (.long (L r kk) :: st) M L) : gs_AW X pc ls (.ref r :: st) M L := by
  obtain ⟨p, l, e, R, s, m, args, below, meth, c, Q, ad, D, dA⟩ := X
  obtain ⟨hx, hb, hml, hown, hts, hK, hinj, hE, hr, hlk, hR⟩ := C
  intro H locs la hl hP hS
  have hc9 := gs_ci hf
  obtain ⟨w, h1, h2, h3, h4⟩ := hf
  obtain ⟨g1, -, -⟩ := gs_hin hK9 h1
  exact va_get (C := w.1) (T := w.2.1) (N := w.2.2) hx hb hts g1 hown hK hP r (gs_obj hs hc9) h1 kk h2 (hts _ h3) (by rw [h4]; exact fun _ h => h) (gs_fs_get ad (M r) (L r) hq) hd (k H locs la hl hP hS)
theorem gs_getq (C : gs_C X own cc nL rt n) {pc i ci r q kk : Nat} {fs : List (Nat × Nat)} (hd : decode cc pc = .ok (.getfield i, 3)) (hK9 : gs_K ci) (hf : gs_F own i ci kk) (hs : gs_sh r = .inr (ci, fs)) (hq : fs[kk]? = some (2, q)) (k : gs_AW X (pc + 3) ls (.ref q :: st) M L) : gs_AW X pc ls (.ref r :: st) M L := by
  obtain ⟨p, l, e, R, s, m, args, below, meth, c, Q, ad, D, dA⟩ := X
  obtain ⟨hx, hb, hml, hown, hts, hK, hinj, hE, hr, hlk, hR⟩ := C
  intro H locs la hl hP hS
  have hc9 := gs_ci hf
  obtain ⟨w, h1, h2, h3, h4⟩ := hf
  obtain ⟨g1, -, -⟩ := gs_hin hK9 h1
  exact va_get (C := w.1) (T := w.2.1) (N := w.2.2) hx hb hts g1 hown hK hP r (gs_obj hs hc9) h1 kk h2 (hts _ h3) (by rw [h4]; exact fun _ h => h) (gs_fs_get ad (M r) (L r) hq) hd (k H locs la hl hP hS)
theorem gs_getm (C : gs_C X own cc nL rt n) {pc i ci r q kk : Nat} {fs : List (Nat × Nat)} (hd : decode cc pc = .ok (.getfield i, 3)) (hK9 : gs_K ci) (hf : gs_F own i ci kk) (hs : gs_sh r = .inr (ci, fs)) (hq : fs[kk]? = some (3, q)) (k : gs_AW X (pc + 3) ls (.ref (M r kk).toNatClampNeg :: st) M L) : gs_AW X pc ls (.ref r :: st) M L := by
  obtain ⟨p, l, e, R, s, m, args, below, meth, c, Q, ad, D, dA⟩ := X
  obtain ⟨hx, hb, hml, hown, hts, hK, hinj, hE, hr, hlk, hR⟩ := C
  intro H locs la hl hP hS
  have hc9 := gs_ci hf
  obtain ⟨w, h1, h2, h3, h4⟩ := hf
  obtain ⟨g1, -, -⟩ := gs_hin hK9 h1
  exact va_get (C := w.1) (T := w.2.1) (N := w.2.2) hx hb hts g1 hown hK hP r (gs_obj hs hc9) h1 kk h2 (hts _ h3) (by rw [h4]; exact fun _ h => h) (gs_fs_get ad (M r) (L r) hq) hd (k H locs la hl hP hS)
theorem gs_puti (C : gs_C X own cc nL rt n) {pc i ci r q kk : Nat} {fs : List (Nat × Nat)} {v : Int32} (hd : decode cc pc = .ok (.putfield i, 3)) (hK9 : gs_K ci) (hf : gs_Fp own i ci kk .int) (hs : gs_sh r = .inr (ci, fs)) (hq : fs[kk]? = some (0, q)) (k : gs_AW X (pc + 3) ls st (gs_up M r kk v) L) : gs_AW X pc ls (.int v :: .ref r :: st) M L := by
  obtain ⟨p, l, e, R, s, m, args, below, meth, c, Q, ad, D, dA⟩ := X
  obtain ⟨hx, hb, hml, hown, hts, hK, hinj, hE, hr, hlk, hR⟩ := C
  intro H locs la hl hP hS
  obtain ⟨w, h1, h2, h3, h4, h5, h6⟩ := hf
  have hc9 : ci < 13 := (List.getElem?_eq_some_iff.mp h1).1
  obtain ⟨g1, ⟨ty, g2⟩, g3⟩ := gs_hin hK9 h1
  refine va_put (C := w.1) (T := w.2.1) (N := w.2.2) hx hb hts g1 ty g2 g3 hown hK hP (gs_D dA M L hinj) hS r (gs_obj hs hc9) h1 kk h2 (hts _ h3) (by rw [h4]; exact fun _ h => h) h5 h6 rfl rfl (by rw [gs_fs_len]; exact (List.getElem?_eq_some_iff.mp hq).1) hd (fun H1 locs1 hP1 _ hS1 => k H1 locs1 la hl ?_ hS1)
  have e := gs_set (ad := ad) (dA := dA) (M := M) (M' := (gs_up M r kk v)) (L := L) (L' := L) (gs_lt_inr hs hc9) (fun j hj => ⟨gs_up_ne M kk v hj, rfl⟩)
  rw [← e]
  unfold gs_cell
  rw [hs, gs_up_row]
  show va_P D vwCl ((gs_ws ad dA M L).set r (ad r, .inr (ci, gs_fs ad (upd (M r) kk v) (L r) fs))) H1
  rw [← gs_fs_set ad (M r) (L r) v hq]
  exact hP1
theorem gs_putz (C : gs_C X own cc nL rt n) {pc i ci r q kk : Nat} {fs : List (Nat × Nat)} {v : Int32} (hd : decode cc pc = .ok (.putfield i, 3)) (hK9 : gs_K ci) (hf : gs_Fp own i ci kk .boolean) (hs : gs_sh r = .inr (ci, fs)) (hq : fs[kk]? = some (0, q)) (hz : v = 0 ∨ v = 1) (k : gs_AW X (pc + 3) ls st (gs_up M r kk v) L) : gs_AW X pc ls (.int v :: .ref r :: st) M L := by
  obtain ⟨p, l, e, R, s, m, args, below, meth, c, Q, ad, D, dA⟩ := X
  obtain ⟨hx, hb, hml, hown, hts, hK, hinj, hE, hr, hlk, hR⟩ := C
  intro H locs la hl hP hS
  obtain ⟨w, h1, h2, h3, h4, h5, h6⟩ := hf
  have hc9 : ci < 13 := (List.getElem?_eq_some_iff.mp h1).1
  obtain ⟨g1, ⟨ty, g2⟩, g3⟩ := gs_hin hK9 h1
  refine va_put (C := w.1) (T := w.2.1) (N := w.2.2) hx hb hts g1 ty g2 g3 hown hK hP (gs_D dA M L hinj) hS r (gs_obj hs hc9) h1 kk h2 (hts _ h3) (by rw [h4]; exact fun _ h => h) h5 h6 (by rcases hz with rfl | rfl <;> rfl) (by rcases hz with rfl | rfl <;> rfl) (by rw [gs_fs_len]; exact (List.getElem?_eq_some_iff.mp hq).1) hd (fun H1 locs1 hP1 _ hS1 => k H1 locs1 la hl ?_ hS1)
  have e := gs_set (ad := ad) (dA := dA) (M := M) (M' := (gs_up M r kk v)) (L := L) (L' := L) (gs_lt_inr hs hc9) (fun j hj => ⟨gs_up_ne M kk v hj, rfl⟩)
  rw [← e]
  unfold gs_cell
  rw [hs, gs_up_row]
  show va_P D vwCl ((gs_ws ad dA M L).set r (ad r, .inr (ci, gs_fs ad (upd (M r) kk v) (L r) fs))) H1
  rw [← gs_fs_set ad (M r) (L r) v hq]
  exact hP1
theorem gs_putl (C : gs_C X own cc nL rt n) {pc i ci r q kk : Nat} {fs : List (Nat × Nat)} {v : Int64} (hd : decode cc pc = .ok (.putfield i, 3)) (hK9 : gs_K ci) (hf : gs_Fp own i ci kk .long) (hs : gs_sh r = .inr (ci, fs)) (hq : fs[kk]? = some (1, q)) (k : gs_AW X (pc + 3) ls st M (gs_upl L r kk v)) : gs_AW X pc ls (.long v :: .ref r :: st) M L := by
  obtain ⟨p, l, e, R, s, m, args, below, meth, c, Q, ad, D, dA⟩ := X
  obtain ⟨hx, hb, hml, hown, hts, hK, hinj, hE, hr, hlk, hR⟩ := C
  intro H locs la hl hP hS
  obtain ⟨w, h1, h2, h3, h4, h5, h6⟩ := hf
  have hc9 : ci < 13 := (List.getElem?_eq_some_iff.mp h1).1
  obtain ⟨g1, ⟨ty, g2⟩, g3⟩ := gs_hin hK9 h1
  refine va_put (C := w.1) (T := w.2.1) (N := w.2.2) hx hb hts g1 ty g2 g3 hown hK hP (gs_D dA M L hinj) hS r (gs_obj hs hc9) h1 kk h2 (hts _ h3) (by rw [h4]; exact fun _ h => h) h5 h6 rfl rfl (by rw [gs_fs_len]; exact (List.getElem?_eq_some_iff.mp hq).1) hd (fun H1 locs1 hP1 _ hS1 => k H1 locs1 la hl ?_ hS1)
  have e := gs_set (ad := ad) (dA := dA) (M := M) (M' := M) (L := L) (L' := (gs_upl L r kk v)) (gs_lt_inr hs hc9) (fun j hj => ⟨rfl, gs_upl_ne L kk v hj⟩)
  rw [← e]
  unfold gs_cell
  rw [hs, gs_upl_row]
  show va_P D vwCl ((gs_ws ad dA M L).set r (ad r, .inr (ci, gs_fs ad (M r) (vp_updL (L r) kk v) fs))) H1
  rw [← gs_fs_setL ad (M r) (L r) v hq]
  exact hP1
theorem gs_putm (C : gs_C X own cc nL rt n) {pc i ci r q kk : Nat} {fs : List (Nat × Nat)} {v : Int32} (hd : decode cc pc = .ok (.putfield i, 3)) (hK9 : gs_K ci) {rty : FieldType} (hrty : (∃ C, rty = .object C) ∨ rty = .array .byte) (hf : gs_Fp own i ci kk rty) (hs : gs_sh r = .inr (ci, fs)) (hq : fs[kk]? = some (3, q)) (k : gs_AW X (pc + 3) ls st (gs_up M r kk v) L) : gs_AW X pc ls (.ref v.toNatClampNeg :: .ref r :: st) M L := by
  obtain ⟨p, l, e, R, s, m, args, below, meth, c, Q, ad, D, dA⟩ := X
  obtain ⟨hx, hb, hml, hown, hts, hK, hinj, hE, hr, hlk, hR⟩ := C
  intro H locs la hl hP hS
  obtain ⟨w, h1, h2, h3, h4, h5, h6⟩ := hf
  have hc9 : ci < 13 := (List.getElem?_eq_some_iff.mp h1).1
  obtain ⟨g1, ⟨ty, g2⟩, g3⟩ := gs_hin hK9 h1
  refine va_put (C := w.1) (T := w.2.1) (N := w.2.2) hx hb hts g1 ty g2 g3 hown hK hP (gs_D dA M L hinj) hS r (gs_obj hs hc9) h1 kk h2 (hts _ h3) (by rw [h4]; exact fun _ h => h) h5 h6 (by rcases hrty with ⟨C, rfl⟩ | rfl <;> rfl) (by rcases hrty with ⟨C, rfl⟩ | rfl <;> rfl) (by rw [gs_fs_len]; exact (List.getElem?_eq_some_iff.mp hq).1) hd (fun H1 locs1 hP1 _ hS1 => k H1 locs1 la hl ?_ hS1)
  have e := gs_set (ad := ad) (dA := dA) (M := M) (M' := (gs_up M r kk v)) (L := L) (L' := L) (gs_lt_inr hs hc9) (fun j hj => ⟨gs_up_ne M kk v hj, rfl⟩)
  rw [← e]
  unfold gs_cell
  rw [hs, gs_up_row]
  show va_P D vwCl ((gs_ws ad dA M L).set r (ad r, .inr (ci, gs_fs ad (upd (M r) kk v) (L r) fs))) H1
  rw [← gs_fs_setR ad (M r) (L r) v hq]
  exact hP1
def gs_rd (M : gs_M) (r k : Nat) (i : Int32) : Option Int32 := if i < 0 ∨ k ≤ i.toNatClampNeg then none else some (M r i.toNatClampNeg)
def gs_rdl (L : gs_L) (r k : Nat) (i : Int32) : Option Int64 := if i < 0 ∨ k ≤ i.toNatClampNeg then none else some (L r i.toNatClampNeg)
def gs_rdq (r k : Nat) (i : Int32) : Option Nat := if i < 0 ∨ k ≤ i.toNatClampNeg then none else some (gs_rel r i.toNatClampNeg)
def gs_wr (M : gs_M) (r k : Nat) (i v : Int32) : Option gs_M := if i < 0 ∨ k ≤ i.toNatClampNeg then none else some (gs_up M r i.toNatClampNeg v)
def gs_wrl (L : gs_L) (r k : Nat) (i : Int32) (v : Int64) : Option gs_L := if i < 0 ∨ k ≤ i.toNatClampNeg then none else some (gs_upl L r i.toNatClampNeg v)
theorem gs_some {α : Type} {c : Prop} [Decidable c] {a b : α} (h : (if c then none else some a) = some b) : ¬ c ∧ a = b := by
  by_cases hc : c
  · rw [if_pos hc] at h; cases h
  · rw [if_neg hc] at h; exact ⟨hc, Option.some.inj h⟩
theorem gs_tyAt (dA : Nat → ClassId) : (gs_tys dA)[0]? = some (dA 0, .int) ∧ (gs_tys dA)[1]? = some (dA 1, .long) ∧ (gs_tys dA)[2]? = some (dA 2, .byte) ∧ (gs_tys dA)[3]? = some (dA 3, .boolean) ∧ (gs_tys dA)[4]? = some (dA 4, .object "GuiltySleep$State") ∧ (gs_tys dA)[5]? = some (dA 5, .object "GuiltySleep$Law") := ⟨rfl, rfl, rfl, rfl, rfl, rfl⟩
theorem gs_iald (C : gs_C X own cc nL rt n) {pc r kk : Nat} {i : Int32} {v : Int32} (hd : decode cc pc = .ok (.iaload, 1)) (hs : gs_sh r = .inl (0, kk)) (hv : gs_rd M r kk i = some v) (k : gs_AW X (pc + 1) ls (.int v :: st) M L) : gs_AW X pc ls (.int i :: .ref r :: st) M L := by
  obtain ⟨p, l, e, R, s, m, args, below, meth, c, Q, ad, D, dA⟩ := X
  obtain ⟨hx, hb, hml, hown, hts, hK, hinj, hE, hr, hlk, hR⟩ := C
  intro H locs la hl hP hS
  obtain ⟨h1, rfl⟩ := gs_some hv
  exact va_iald hx hb hK hP r 0 (gs_ary hs) rfl h1 hd (k H locs la hl hP hS)
theorem gs_bald (C : gs_C X own cc nL rt n) {pc r kk : Nat} {i : Int32} {v : Int32} (hd : decode cc pc = .ok (.baload, 1)) (hs : gs_sh r = .inl (2, kk)) (hv : gs_rd M r kk i = some v) (k : gs_AW X (pc + 1) ls (.int v :: st) M L) : gs_AW X pc ls (.int i :: .ref r :: st) M L := by
  obtain ⟨p, l, e, R, s, m, args, below, meth, c, Q, ad, D, dA⟩ := X
  obtain ⟨hx, hb, hml, hown, hts, hK, hinj, hE, hr, hlk, hR⟩ := C
  intro H locs la hl hP hS
  obtain ⟨h1, rfl⟩ := gs_some hv
  exact va_bald hx hb hK hP r 2 (gs_ary hs) rfl h1 hd (k H locs la hl hP hS)
theorem gs_zald (C : gs_C X own cc nL rt n) {pc r kk : Nat} {i : Int32} {v : Int32} (hd : decode cc pc = .ok (.baload, 1)) (hs : gs_sh r = .inl (3, kk)) (hv : gs_rd M r kk i = some v) (k : gs_AW X (pc + 1) ls (.int v :: st) M L) : gs_AW X pc ls (.int i :: .ref r :: st) M L := by
  obtain ⟨p, l, e, R, s, m, args, below, meth, c, Q, ad, D, dA⟩ := X
  obtain ⟨hx, hb, hml, hown, hts, hK, hinj, hE, hr, hlk, hR⟩ := C
  intro H locs la hl hP hS
  obtain ⟨h1, rfl⟩ := gs_some hv
  exact va_zald hx hb hK hP r 3 (gs_ary hs) rfl h1 hd (k H locs la hl hP hS)
theorem gs_lald (C : gs_C X own cc nL rt n) {pc r kk : Nat} {i : Int32} {v : Int64} (hd : decode cc pc = .ok (.laload, 1)) (hs : gs_sh r = .inl (1, kk)) (hv : gs_rdl L r kk i = some v) (k : gs_AW X (pc + 1) ls (.long v :: st) M L) : gs_AW X pc ls (.int i :: .ref r :: st) M L := by
  obtain ⟨p, l, e, R, s, m, args, below, meth, c, Q, ad, D, dA⟩ := X
  obtain ⟨hx, hb, hml, hown, hts, hK, hinj, hE, hr, hlk, hR⟩ := C
  intro H locs la hl hP hS
  obtain ⟨h1, rfl⟩ := gs_some hv
  exact va_lald hx hb hK hP r 1 (gs_ary hs) rfl h1 hd (k H locs la hl hP hS)
theorem gs_aldS (C : gs_C X own cc nL rt n) {pc r kk : Nat} {i : Int32} {v : Nat} (hd : decode cc pc = .ok (.aaload, 1)) (hs : gs_sh r = .inl (4, kk)) (hv : gs_rdq r kk i = some v) (k : gs_AW X (pc + 1) ls (.ref v :: st) M L) : gs_AW X pc ls (.int i :: .ref r :: st) M L := by
  obtain ⟨p, l, e, R, s, m, args, below, meth, c, Q, ad, D, dA⟩ := X
  obtain ⟨hx, hb, hml, hown, hts, hK, hinj, hE, hr, hlk, hR⟩ := C
  intro H locs la hl hP hS
  obtain ⟨h1, rfl⟩ := gs_some hv
  exact va_aldq (C := "GuiltySleep$State") hx hb hK hP r 4 (gs_ary hs) rfl h1 hd (k H locs la hl hP hS)
theorem gs_aldW (C : gs_C X own cc nL rt n) {pc r kk : Nat} {i : Int32} {v : Nat} (hd : decode cc pc = .ok (.aaload, 1)) (hs : gs_sh r = .inl (5, kk)) (hv : gs_rdq r kk i = some v) (k : gs_AW X (pc + 1) ls (.ref v :: st) M L) : gs_AW X pc ls (.int i :: .ref r :: st) M L := by
  obtain ⟨p, l, e, R, s, m, args, below, meth, c, Q, ad, D, dA⟩ := X
  obtain ⟨hx, hb, hml, hown, hts, hK, hinj, hE, hr, hlk, hR⟩ := C
  intro H locs la hl hP hS
  obtain ⟨h1, rfl⟩ := gs_some hv
  exact va_aldq (C := "GuiltySleep$Law") hx hb hK hP r 5 (gs_ary hs) rfl h1 hd (k H locs la hl hP hS)
theorem gs_iast (C : gs_C X own cc nL rt n) {pc r kk : Nat} {i : Int32} {v : Int32} (hd : decode cc pc = .ok (.iastore, 1)) (hs : gs_sh r = .inl (0, kk)) (hv : gs_wr M r kk i v = some M') (k : gs_AW X (pc + 1) ls st M' L) : gs_AW X pc ls (.int v :: .int i :: .ref r :: st) M L := by
  obtain ⟨p, l, e, R, s, m, args, below, meth, c, Q, ad, D, dA⟩ := X
  obtain ⟨hx, hb, hml, hown, hts, hK, hinj, hE, hr, hlk, hR⟩ := C
  intro H locs la hl hP hS
  obtain ⟨h1, rfl⟩ := gs_some hv
  refine va_iast hx hb hK hP (gs_D dA M L hinj) hS r 0 (gs_ary hs) rfl h1 hd (fun H1 locs1 hP1 _ hS1 => k H1 locs1 la hl ?_ hS1)
  have e := gs_set (ad := ad) (dA := dA) (M := M) (M' := gs_up M r i.toNatClampNeg v) (L := L) (L' := L) (gs_lt_inl hs) (fun j hj => ⟨gs_up_ne M _ _ hj, rfl⟩)
  rw [← e]
  unfold gs_cell
  rw [hs, gs_up_row]
  exact hP1
theorem gs_bast (C : gs_C X own cc nL rt n) {pc r kk : Nat} {i : Int32} {v : Int32} (hd : decode cc pc = .ok (.bastore, 1)) (hs : gs_sh r = .inl (2, kk)) (hv : gs_wr M r kk i (vp_nar .byte v) = some M') (k : gs_AW X (pc + 1) ls st M' L) : gs_AW X pc ls (.int v :: .int i :: .ref r :: st) M L := by
  obtain ⟨p, l, e, R, s, m, args, below, meth, c, Q, ad, D, dA⟩ := X
  obtain ⟨hx, hb, hml, hown, hts, hK, hinj, hE, hr, hlk, hR⟩ := C
  intro H locs la hl hP hS
  obtain ⟨h1, rfl⟩ := gs_some hv
  refine va_bast hx hb hK hP (gs_D dA M L hinj) hS r 2 (gs_ary hs) rfl h1 hd (fun H1 locs1 hP1 _ hS1 => k H1 locs1 la hl ?_ hS1)
  have e := gs_set (ad := ad) (dA := dA) (M := M) (M' := gs_up M r i.toNatClampNeg (vp_nar .byte v)) (L := L) (L' := L) (gs_lt_inl hs) (fun j hj => ⟨gs_up_ne M _ _ hj, rfl⟩)
  rw [← e]
  unfold gs_cell
  rw [hs, gs_up_row]
  exact hP1
theorem gs_zast (C : gs_C X own cc nL rt n) {pc r kk : Nat} {i : Int32} {v : Int32} (hd : decode cc pc = .ok (.bastore, 1)) (hs : gs_sh r = .inl (3, kk)) (hv : gs_wr M r kk i (vp_nar .boolean v) = some M') (k : gs_AW X (pc + 1) ls st M' L) : gs_AW X pc ls (.int v :: .int i :: .ref r :: st) M L := by
  obtain ⟨p, l, e, R, s, m, args, below, meth, c, Q, ad, D, dA⟩ := X
  obtain ⟨hx, hb, hml, hown, hts, hK, hinj, hE, hr, hlk, hR⟩ := C
  intro H locs la hl hP hS
  obtain ⟨h1, rfl⟩ := gs_some hv
  refine va_zast hx hb hK hP (gs_D dA M L hinj) hS r 3 (gs_ary hs) rfl h1 hd (fun H1 locs1 hP1 _ hS1 => k H1 locs1 la hl ?_ hS1)
  have e := gs_set (ad := ad) (dA := dA) (M := M) (M' := gs_up M r i.toNatClampNeg (vp_nar .boolean v)) (L := L) (L' := L) (gs_lt_inl hs) (fun j hj => ⟨gs_up_ne M _ _ hj, rfl⟩)
  rw [← e]
  unfold gs_cell
  rw [hs, gs_up_row]
  exact hP1
theorem gs_last (C : gs_C X own cc nL rt n) {pc r kk : Nat} {i : Int32} {v : Int64} (hd : decode cc pc = .ok (.lastore, 1)) (hs : gs_sh r = .inl (1, kk)) (hv : gs_wrl L r kk i v = some L') (k : gs_AW X (pc + 1) ls st M L') : gs_AW X pc ls (.long v :: .int i :: .ref r :: st) M L := by
  obtain ⟨p, l, e, R, s, m, args, below, meth, c, Q, ad, D, dA⟩ := X
  obtain ⟨hx, hb, hml, hown, hts, hK, hinj, hE, hr, hlk, hR⟩ := C
  intro H locs la hl hP hS
  obtain ⟨h1, rfl⟩ := gs_some hv
  refine va_last hx hb hK hP (gs_D dA M L hinj) hS r 1 (gs_ary hs) rfl h1 hd (fun H1 locs1 hP1 _ hS1 => k H1 locs1 la hl ?_ hS1)
  have e := gs_set (ad := ad) (dA := dA) (M := M) (M' := M) (L := L) (L' := gs_upl L r i.toNatClampNeg v) (gs_lt_inl hs) (fun j hj => ⟨rfl, gs_upl_ne L _ v hj⟩)
  rw [← e]
  unfold gs_cell
  rw [hs, gs_upl_row]
  exact hP1
theorem gs_alen (C : gs_C X own cc nL rt n) {pc r t kk : Nat} {w : Int32} (hd : decode cc pc = .ok (.arraylength, 1)) (hs : gs_sh r = .inl (t, kk)) (ht : t < 6) (hw : Int32.ofNat kk = w) (k : gs_AW X (pc + 1) ls (.int w :: st) M L) : gs_AW X pc ls (.ref r :: st) M L := by
  obtain ⟨p, l, e, R, s, m, args, below, meth, c, Q, ad, D, dA⟩ := X
  obtain ⟨hx, hb, hml, hown, hts, hK, hinj, hE, hr, hlk, hR⟩ := C
  intro H locs la hl hP hS
  have h6 : ∃ ty, (gs_tys dA)[t]? = some (dA t, ty) := by
    match t, ht with
    | 0, _ => exact ⟨_, rfl⟩
    | 1, _ => exact ⟨_, rfl⟩
    | 2, _ => exact ⟨_, rfl⟩
    | 3, _ => exact ⟨_, rfl⟩
    | 4, _ => exact ⟨_, rfl⟩
    | 5, _ => exact ⟨_, rfl⟩
  obtain ⟨ty, h7⟩ := h6
  exact va_alen hx hb hK hP r t (gs_ary hs) h7 hw hd (k H locs la hl hP hS)
theorem gs_gets (C : gs_C X own cc nL rt n) {pc i : Nat} (j : Nat) (hj : j < 6) (hd : decode cc pc = .ok (.getstatic i, 3)) (hw : Cond.fieldLink own i "GuiltySleep$Town" (gs_snm.getD j "") "[I" ∈ gs_W) (k : gs_AW X (pc + 3) ls (.ref (1010 + j) :: st) M L) : gs_AW X pc ls st M L := by
  obtain ⟨p, l, e, R, s, m, args, below, meth, c, Q, ad, D, dA⟩ := X
  obtain ⟨hx, hb, hml, hown, hts, hK, hinj, hE, hr, hlk, hR⟩ := C
  intro H locs la hl hP hS
  exact va_gets hx hb (hE.2.1 j hj).2 hS hown (hts _ hw) (fun _ h => h) hd (k H locs la hl hP hS)
theorem gs_ialdX (C : gs_C X own cc nL rt n) {pc : Nat} {i v : Int32} (j : Nat) (hj : j < 6) (hd : decode cc pc = .ok (.iaload, 1)) (hv : gs_rd (fun _ => gs_sv j) 0 (gs_sn j) i = some v) (k : gs_AW X (pc + 1) ls (.int v :: st) M L) : gs_AW X pc ls (.int i :: .ref (1010 + j) :: st) M L := by
  obtain ⟨p, l, e, R, s, m, args, below, meth, c, Q, ad, D, dA⟩ := X
  obtain ⟨hx, hb, hml, hown, hts, hK, hinj, hE, hr, hlk, hR⟩ := C
  intro H locs la hl hP hS
  obtain ⟨h1, rfl⟩ := gs_some hv
  exact va_ti hx hb (hE.2.1 j hj).1 hS h1 rfl hd (k H locs la hl hP hS)
theorem gs_iret (C : gs_C X own cc nL (some .int) n) {pc : Nat} {v : Int32} (hd : decode cc pc = .ok (.ireturn, 1)) (E : gs_E X (some (.int v)) M L) : gs_AW X pc ls [.int v] M L := by
  obtain ⟨p, l, e, R, s, m, args, below, meth, c, Q, ad, D, dA⟩ := X
  obtain ⟨hx, hb, hml, hown, hts, hK, hinj, hE, hr, hlk, hR⟩ := C
  intro H locs la hl hP hS
  have hQ : Q = MQ below (gs_Qc ad D dA (some (.int v)) M L) args s 0 0 (gs_A ad) := E
  subst hQ
  exact W.iret hx hb hr (fun t ht _ => ⟨rfl, by rw [ht]; exact hP, hS.F ht⟩) hS.2.2 hd hlk
theorem gs_zret (C : gs_C X own cc nL (some .boolean) n) {pc : Nat} {v : Int32} (hz : v = 0 ∨ v = 1) (hd : decode cc pc = .ok (.ireturn, 1)) (E : gs_E X (some (.int v)) M L) : gs_AW X pc ls [.int v] M L := by
  obtain ⟨p, l, e, R, s, m, args, below, meth, c, Q, ad, D, dA⟩ := X
  obtain ⟨hx, hb, hml, hown, hts, hK, hinj, hE, hr, hlk, hR⟩ := C
  intro H locs la hl hP hS
  have hQ : Q = MQ below (gs_Qc ad D dA (some (.int v)) M L) args s 0 0 (gs_A ad) := E
  subst hQ
  exact W.zret (ty := .boolean) hx hb hr (by rcases hz with rfl | rfl <;> rfl) (fun t ht _ => ⟨rfl, by rw [ht]; exact hP, hS.F ht⟩) hS.2.2 hd hlk
theorem gs_cret (C : gs_C X own cc nL (some .char) n) {pc : Nat} {v : Int32} (hz : narrow .char (.int v) = .int v) (hd : decode cc pc = .ok (.ireturn, 1)) (E : gs_E X (some (.int v)) M L) : gs_AW X pc ls [.int v] M L := by
  obtain ⟨p, l, e, R, s, m, args, below, meth, c, Q, ad, D, dA⟩ := X
  obtain ⟨hx, hb, hml, hown, hts, hK, hinj, hE, hr, hlk, hR⟩ := C
  intro H locs la hl hP hS
  have hQ : Q = MQ below (gs_Qc ad D dA (some (.int v)) M L) args s 0 0 (gs_A ad) := E
  subst hQ
  exact W.zret (ty := .char) hx hb hr hz (fun t ht _ => ⟨rfl, by rw [ht]; exact hP, hS.F ht⟩) hS.2.2 hd hlk
theorem gs_bret (C : gs_C X own cc nL (some .byte) n) {pc : Nat} {v : Int32} (hz : narrow .byte (.int v) = .int v) (hd : decode cc pc = .ok (.ireturn, 1)) (E : gs_E X (some (.int v)) M L) : gs_AW X pc ls [.int v] M L := by
  obtain ⟨p, l, e, R, s, m, args, below, meth, c, Q, ad, D, dA⟩ := X
  obtain ⟨hx, hb, hml, hown, hts, hK, hinj, hE, hr, hlk, hR⟩ := C
  intro H locs la hl hP hS
  have hQ : Q = MQ below (gs_Qc ad D dA (some (.int v)) M L) args s 0 0 (gs_A ad) := E
  subst hQ
  exact W.zret (ty := .byte) hx hb hr hz (fun t ht _ => ⟨rfl, by rw [ht]; exact hP, hS.F ht⟩) hS.2.2 hd hlk
theorem gs_lret (C : gs_C X own cc nL (some .long) n) {pc : Nat} {v : Int64} (hd : decode cc pc = .ok (.lreturn, 1)) (E : gs_E X (some (.long v)) M L) : gs_AW X pc ls [.long v] M L := by
  obtain ⟨p, l, e, R, s, m, args, below, meth, c, Q, ad, D, dA⟩ := X
  obtain ⟨hx, hb, hml, hown, hts, hK, hinj, hE, hr, hlk, hR⟩ := C
  intro H locs la hl hP hS
  have hQ : Q = MQ below (gs_Qc ad D dA (some (.long v)) M L) args s 0 0 (gs_A ad) := E
  subst hQ
  exact W.lret hx hb hr (fun t ht _ => ⟨rfl, by rw [ht]; exact hP, hS.F ht⟩) hS.2.2 hd hlk
theorem gs_vret (C : gs_C X own cc nL none n) {pc : Nat} (hd : decode cc pc = .ok (.return_, 1)) (E : gs_E X none M L) : gs_AW X pc ls [] M L := by
  obtain ⟨p, l, e, R, s, m, args, below, meth, c, Q, ad, D, dA⟩ := X
  obtain ⟨hx, hb, hml, hown, hts, hK, hinj, hE, hr, hlk, hR⟩ := C
  intro H locs la hl hP hS
  have hQ : Q = MQ below (gs_Qc ad D dA none M L) args s 0 0 (gs_A ad) := E
  subst hQ
  exact W.vret hx hb hr (fun t ht _ => ⟨rfl, by rw [ht]; exact hP, hS.F ht⟩) hS.2.2 hd hlk
theorem gs_aret {D9 : String} (C : gs_C X own cc nL (some (.object D9)) n) {pc : Nat} {v : Nat} (hd : decode cc pc = .ok (.areturn, 1)) (E : gs_E X (some (.ref v)) M L) : gs_AW X pc ls [.ref v] M L := by
  obtain ⟨p, l, e, R, s, m, args, below, meth, c, Q, ad, D, dA⟩ := X
  obtain ⟨hx, hb, hml, hown, hts, hK, hinj, hE, hr, hlk, hR⟩ := C
  intro H locs la hl hP hS
  have hQ : Q = MQ below (gs_Qc ad D dA (some (.ref v)) M L) args s 0 0 (gs_A ad) := E
  subst hQ
  exact W.aret hx hb hr (Or.inl ⟨_, rfl⟩) (Or.inr ⟨_, rfl⟩) (fun t ht _ => ⟨rfl, by rw [ht]; exact hP, hS.F ht⟩) hS.2.2 hd hlk
end Rows
