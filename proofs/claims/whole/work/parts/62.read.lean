/-! bits -/
theorem q_sl : ∀ n, n < 32 → ((nI n &&& 31).toBitVec.smod 32).toNat = n := by decide +kernel
theorem q_shr {z : Int} (k : Nat) (hk : k < 32) (h : 0 ≤ z ∧ z < 2147483648) : iI z >>> (iI k &&& iI 31) = iI (z / 2 ^ k) := by
  obtain ⟨n, rfl⟩ : ∃ n : Nat, z = (n : Int) := ⟨z.toNat, by omega⟩
  have e := pk_shrN (n := n) (by omega) (nI k &&& 31) k (q_sl k hk)
  have e2 : ((n / 2 ^ k : Nat) : Int) = (n : Int) / 2 ^ k := by
    rw [Int.natCast_ediv, Int.natCast_pow]
    rfl
  rw [← e2]
  exact e
theorem q_and {z m : Int} (k : Nat) (hm : (iI m).toBitVec.toNat = 2 ^ k - 1) (h : 0 ≤ z ∧ z < 2147483648) : iI z &&& iI m = iI (z % 2 ^ k) := by
  obtain ⟨n, rfl⟩ : ∃ n : Nat, z = (n : Int) := ⟨z.toNat, by omega⟩
  have e := pk_andN (n := n) (by omega) (m := iI m) k hm
  have e2 : ((n % 2 ^ k : Nat) : Int) = (n : Int) % 2 ^ k := by
    rw [Int.natCast_emod, Int.natCast_pow]
    rfl
  rw [← e2]
  exact e
theorem q_sr3 {z : Int} (h : 0 ≤ z ∧ z < 2147483648) : iI z >>> (iI 3 &&& iI 31) = iI (z / 8) := q_shr 3 (by decide) h
theorem q_sr4 {z : Int} (h : 0 ≤ z ∧ z < 2147483648) : iI z >>> (iI 4 &&& iI 31) = iI (z / 16) := q_shr 4 (by decide) h
theorem q_sr10 {z : Int} (h : 0 ≤ z ∧ z < 2147483648) : iI z >>> (iI 10 &&& iI 31) = iI (z / 1024) := q_shr 10 (by decide) h
theorem q_sr14 {z : Int} (h : 0 ≤ z ∧ z < 2147483648) : iI z >>> (iI 14 &&& iI 31) = iI (z / 16384) := q_shr 14 (by decide) h
theorem q_sr17 {z : Int} (h : 0 ≤ z ∧ z < 2147483648) : iI z >>> (iI 17 &&& iI 31) = iI (z / 131072) := q_shr 17 (by decide) h
theorem q_sr18 {z : Int} (h : 0 ≤ z ∧ z < 2147483648) : iI z >>> (iI 18 &&& iI 31) = iI (z / 262144) := q_shr 18 (by decide) h
theorem q_an1 {z : Int} (h : 0 ≤ z ∧ z < 2147483648) : iI z &&& iI 1 = iI (z % 2) := q_and 1 (by decide +kernel) h
theorem q_an7 {z : Int} (h : 0 ≤ z ∧ z < 2147483648) : iI z &&& iI 7 = iI (z % 8) := q_and 3 (by decide +kernel) h
theorem q_an15 {z : Int} (h : 0 ≤ z ∧ z < 2147483648) : iI z &&& iI 15 = iI (z % 16) := q_and 4 (by decide +kernel) h
theorem q_an1023 {z : Int} (h : 0 ≤ z ∧ z < 2147483648) : iI z &&& iI 1023 = iI (z % 1024) := q_and 10 (by decide +kernel) h
/-! the leaves: what class and model read -/
section Leaves
variable {s : Nat → Int} {T : Nat → Nat → Int} {V : ma_V} {M : gs_M}
theorem c_of {c : Nat → Int32} {w : Nat} (hc : M 10 = c) (h : ma_sC s c) {p : Nat} (hp : p < 8) (hw : w < 6) : f_X6_of M (iI p) (iI w) = some (iI (s (6 * p + w))) := by
  unfold f_X6_of
  rw [qn6, iI_mul, iI_add, q_rdn (6 * p + w) (by omega) (by omega) (by decide), gs_s1, hc, h.1 _ (by omega)]
theorem c_of0 (h : ma_sC s (M 10)) {p : Nat} (hp : p < 8) : f_X6_of M (iI p) (iI 0) = some (iI (s (6 * p))) := c_of rfl h hp (w := 0) (by decide)
theorem c_of1 (h : ma_sC s (M 10)) {p : Nat} (hp : p < 8) : f_X6_of M (iI p) (iI 1) = some (iI (s (6 * p + 1))) := c_of rfl h hp (w := 1) (by decide)
theorem c_of2 (h : ma_sC s (M 10)) {p : Nat} (hp : p < 8) : f_X6_of M (iI p) (iI 2) = some (iI (s (6 * p + 2))) := c_of rfl h hp (w := 2) (by decide)
theorem c_of3 (h : ma_sC s (M 10)) {p : Nat} (hp : p < 8) : f_X6_of M (iI p) (iI 3) = some (iI (s (6 * p + 3))) := c_of rfl h hp (w := 3) (by decide)
theorem c_of4 (h : ma_sC s (M 10)) {p : Nat} (hp : p < 8) : f_X6_of M (iI p) (iI 4) = some (iI (s (6 * p + 4))) := c_of rfl h hp (w := 4) (by decide)
theorem c_of5 (h : ma_sC s (M 10)) {p : Nat} (hp : p < 8) : f_X6_of M (iI p) (iI 5) = some (iI (s (6 * p + 5))) := c_of rfl h hp (w := 5) (by decide)
theorem m_of {w : Nat} (h : ma_sM s (M 158)) {p : Nat} (hp : p < 8) (hw : w < 6) : f_X12_of M (iI p) (iI w) = some (iI (s (6 * p + w))) := by
  unfold f_X12_of
  rw [qn6, iI_mul, iI_add, q_rdn (6 * p + w) (by omega) (by omega) (by decide), gs_s1, h _ (by omega)]
theorem m_of0 (h : ma_sM s (M 158)) {p : Nat} (hp : p < 8) : f_X12_of M (iI p) (iI 0) = some (iI (s (6 * p))) := m_of h hp (w := 0) (by decide)
theorem m_of1 (h : ma_sM s (M 158)) {p : Nat} (hp : p < 8) : f_X12_of M (iI p) (iI 1) = some (iI (s (6 * p + 1))) := m_of h hp (w := 1) (by decide)
theorem m_of2 (h : ma_sM s (M 158)) {p : Nat} (hp : p < 8) : f_X12_of M (iI p) (iI 2) = some (iI (s (6 * p + 2))) := m_of h hp (w := 2) (by decide)
theorem m_of3 (h : ma_sM s (M 158)) {p : Nat} (hp : p < 8) : f_X12_of M (iI p) (iI 3) = some (iI (s (6 * p + 3))) := m_of h hp (w := 3) (by decide)
theorem m_of4 (h : ma_sM s (M 158)) {p : Nat} (hp : p < 8) : f_X12_of M (iI p) (iI 4) = some (iI (s (6 * p + 4))) := m_of h hp (w := 4) (by decide)
theorem m_of5 (h : ma_sM s (M 158)) {p : Nat} (hp : p < 8) : f_X12_of M (iI p) (iI 5) = some (iI (s (6 * p + 5))) := m_of h hp (w := 5) (by decide)
theorem ma_C.fo (h : ma_C s T V M) : M 3 2 = iI (T 3 0) := h.1
theorem ma_C.ru (h : ma_C s T V M) {k : Nat} (hk : k < 3) : M 4 k = iI (T 1 k) := h.2.1 k hk
theorem ma_C.to (h : ma_C s T V M) {k : Nat} (hk : (k : Int) < 5 * T 3 0) : M 5 k = iI (T 2 k) := h.2.2.1 k hk
theorem ma_C.cr (h : ma_C s T V M) : M 0 15 = iI (T 3 1) := h.2.2.2.1
theorem ma_C.la (h : ma_C s T V M) : M 105 5 = iI (T 3 2) := h.2.2.2.2.1
theorem ma_C.wa (h : ma_C s T V M) : M 95 3 = iI (T 3 3) := h.2.2.2.2.2.1
theorem ma_C.lm (h : ma_C s T V M) : M 105 4 = iI (T 3 4) := h.2.2.2.2.2.2.1
theorem ma_C.wm (h : ma_C s T V M) : M 95 2 = iI (T 3 5) := h.2.2.2.2.2.2.2.1
theorem ma_C.lp (h : ma_C s T V M) : M 134 7 = iI (T 3 6) := h.2.2.2.2.2.2.2.2.1
theorem ma_C.ta (h : ma_C s T V M) : M 1 1 = iI (T 3 7) := h.2.2.2.2.2.2.2.2.2.1
theorem ma_C.im (h : ma_C s T V M) : M 0 14 = iI (T 3 8) := h.2.2.2.2.2.2.2.2.2.2.1
theorem ma_C.ac (h : ma_C s T V M) : M 13 2 = iI (T 3 9) := h.2.2.2.2.2.2.2.2.2.2.2.1
theorem ma_C.by (h : ma_C s T V M) {i : Nat} (hi : (i : Int) < T 3 7) : M 2 i = iI (T 4 i) := h.2.2.2.2.2.2.2.2.2.2.2.2.1 i hi
theorem ma_C.wt (h : ma_C s T V M) {w i : Nat} (hw : (w : Int) < T 3 5) (hi : i < 9) : M 96 (9 * w + i) = iI (T 5 (9 * w + i)) := h.2.2.2.2.2.2.2.2.2.2.2.2.2.1 w i hw hi
theorem ma_C.lt (h : ma_C s T V M) {i : Nat} (hi : (i : Int) < T 3 6) : M 135 i = iI (T 6 (3 * i)) ∧ M 136 i = iI (T 6 (3 * i + 1)) ∧ M 137 i = iI (T 6 (3 * i + 2)) := h.2.2.2.2.2.2.2.2.2.2.2.2.2.2.1 i hi
theorem ma_C.ig (h : ma_C s T V M) (e : T 3 8 = 1) : ma_sC (T 7) (M 12) := h.2.2.2.2.2.2.2.2.2.2.2.2.2.2.2.1 e
theorem ma_C.at (h : ma_C s T V M) : ∃ nx : Nat, nx < 40 ∧ M 13 1 = iI nx ∧ ∀ t : Nat, (t : Int) < T 3 9 → ma_sC (T (10 + t)) (M (16 + 2 * ((nx + 40 - (T 3 9).toNat + t) % 40))) := h.2.2.2.2.2.2.2.2.2.2.2.2.2.2.2.2.1
theorem ma_C.ll (h : ma_C s T V M) {k : Nat} (hk : (k : Int) < T 3 4) : ma_lC V k M := h.2.2.2.2.2.2.2.2.2.2.2.2.2.2.2.2.2.1 k hk
theorem ma_C.st (h : ma_C s T V M) : ma_sC s (M 10) := h.2.2.2.2.2.2.2.2.2.2.2.2.2.2.2.2.2.2
theorem ma_M.fo (h : ma_M s T V M) : M 147 24 = iI (T 3 0) := h.1
theorem ma_M.ru (h : ma_M s T V M) {k : Nat} (hk : k < 3) : M 152 k = iI (T 1 k) := h.2.1 k hk
theorem ma_M.to (h : ma_M s T V M) {k : Nat} (hk : (k : Int) < 5 * T 3 0) : M 154 k = iI (T 2 k) := h.2.2.1 k hk
theorem ma_M.cr (h : ma_M s T V M) : M 147 31 = iI (T 3 1) := h.2.2.2.1
theorem ma_M.la (h : ma_M s T V M) : M 147 29 = iI (T 3 2) := h.2.2.2.2.1
theorem ma_M.wa (h : ma_M s T V M) : M 147 30 = iI (T 3 3) := h.2.2.2.2.2.1
theorem ma_M.lm (h : ma_M s T V M) : M 147 7 = iI (T 3 4) := h.2.2.2.2.2.2.1
theorem ma_M.wm (h : ma_M s T V M) : M 147 26 = iI (T 3 5) := h.2.2.2.2.2.2.2.1
theorem ma_M.lp (h : ma_M s T V M) : M 147 40 = iI (T 3 6) := h.2.2.2.2.2.2.2.2.1
theorem ma_M.ta (h : ma_M s T V M) : M 147 6 = iI (T 3 7) := h.2.2.2.2.2.2.2.2.2.1
theorem ma_M.im (h : ma_M s T V M) : M 147 46 = iI (T 3 8) := h.2.2.2.2.2.2.2.2.2.2.1
theorem ma_M.ac (h : ma_M s T V M) : M 147 35 = iI (T 3 9) := h.2.2.2.2.2.2.2.2.2.2.2.1
theorem ma_M.by (h : ma_M s T V M) {i : Nat} (hi : (i : Int) < T 3 7) : M 148 i = (iI (T 4 i)).toInt8.toInt32 := h.2.2.2.2.2.2.2.2.2.2.2.2.1 i hi
theorem ma_M.wt (h : ma_M s T V M) {w : Nat} (hw : (w : Int) < T 3 5) : ∃ n : Nat, n ≤ 9 ∧ M 157 w = iI n ∧ ∀ h : Nat, h < 9 → (h < n → ∃ x : Int, 0 ≤ x ∧ x ≤ 9 ∧ M 156 (9 * w + h) = iI x ∧ T 5 (9 * w + h) = if x = 9 then -1 else x) ∧ (n ≤ h → T 5 (9 * w + h) = -1) := h.2.2.2.2.2.2.2.2.2.2.2.2.2.1 w hw
theorem ma_M.lt (h : ma_M s T V M) {i : Nat} (hi : (i : Int) < T 3 6) : M 162 i = iI (T 6 (3 * i)) ∧ M 163 i = iI (T 6 (3 * i + 1)) ∧ M 164 i = iI (T 6 (3 * i + 2)) := h.2.2.2.2.2.2.2.2.2.2.2.2.2.2.1 i hi
theorem ma_M.ig (h : ma_M s T V M) (e : T 3 8 = 1) : ma_sM (T 7) (M 169) := h.2.2.2.2.2.2.2.2.2.2.2.2.2.2.2.1 e
theorem ma_M.at (h : ma_M s T V M) {t : Nat} (ht : (t : Int) < T 3 9) : ma_sM (T (10 + t)) (fun k => M 160 (533 * t + k)) := h.2.2.2.2.2.2.2.2.2.2.2.2.2.2.2.2.1 t ht
theorem ma_M.ll (h : ma_M s T V M) {k : Nat} (hk : (k : Int) < T 3 4) : ma_lM V k M := h.2.2.2.2.2.2.2.2.2.2.2.2.2.2.2.2.2.1 k hk
theorem ma_M.st (h : ma_M s T V M) : ma_sM s (M 158) := h.2.2.2.2.2.2.2.2.2.2.2.2.2.2.2.2.2.2
theorem c_crowd (h : ma_C s T V M) : f_X9_crowd M = some (iI (T 3 0)) := by
  unfold f_X9_crowd
  rw [h.fo]
theorem c_hours (h : ma_C s T V M) : f_X9_hours M = some (iI (T 1 0)) := by
  unfold f_X9_hours
  rw [qn0, q_rdn (z := 0) 0 rfl (by decide) (by decide), gs_s1, h.ru (by decide)]
theorem c_ruled1 (h : ma_C s T V M) : f_X9_ruled M (iI 1) = some (iI (T 1 1)) := by
  unfold f_X9_ruled
  rw [q_rdn (z := 1) 1 rfl (by decide) (by decide), gs_s1, h.ru (by decide)]
theorem c_ruled2 (h : ma_C s T V M) : f_X9_ruled M (iI 2) = some (iI (T 1 2)) := by
  unfold f_X9_ruled
  rw [q_rdn (z := 2) 2 rfl (by decide) (by decide), gs_s1, h.ru (by decide)]
theorem m_rule0 (h : ma_M s T V M) : gs_rd M 152 3 (iI 0) = some (iI (T 1 0)) := by
  rw [q_rdn (z := 0) 0 rfl (by decide) (by decide), h.ru (by decide)]
theorem m_rule1 (h : ma_M s T V M) : gs_rd M 152 3 (iI 1) = some (iI (T 1 1)) := by
  rw [q_rdn (z := 1) 1 rfl (by decide) (by decide), h.ru (by decide)]
theorem m_rule2 (h : ma_M s T V M) : gs_rd M 152 3 (iI 2) = some (iI (T 1 2)) := by
  rw [q_rdn (z := 2) 2 rfl (by decide) (by decide), h.ru (by decide)]
theorem c_con (h : ma_C s T V M) {p : Nat} (hp : (p : Int) < T 3 0) (h8 : p < 8) : f_X9_told M (iI p) (iI 1) = some (iI (T 2 (5 * p + 1))) := by
  unfold f_X9_told
  rw [qn5, iI_mul, iI_add, q_rdn (5 * p + 1) (by omega) (by omega) (by decide), gs_s1, h.to (by omega)]
theorem m_con (h : ma_M s T V M) {p : Nat} (hp : (p : Int) < T 3 0) (h8 : p < 8) : f_X12_conscience M (iI p) = some (iI (T 2 (5 * p + 1))) := by
  unfold f_X12_conscience
  rw [qn5, qn1, iI_mul, iI_add, q_rdn (5 * p + 1) (by omega) (by omega) (by decide), gs_s1, h.to (by omega)]
end Leaves
/-! WAKES, POINTS, CASES -/
def ma_cl (a b z : Int) : Int := if z < a then a else if b < z then b else z
theorem ma_cl_b {a b z : Int} (h : a ≤ b) : a ≤ ma_cl a b z ∧ ma_cl a b z ≤ b := by
  unfold ma_cl
  split
  · omega
  · split <;> omega
def ma_wk (s : Nat → Int) (T : Nat → Nat → Int) (V : ma_V) (p h : Nat) (g w : Int) : Int :=
  ma_cl 0 10 ((if T 3 2 = -1 then T 2 (5 * p + 1) + w - g - s (6 * p + 2) else V (T 3 2).toNat 121 g (T 2 (5 * p + 1)) w (s (6 * p + 2)) h 0) + s (6 * p + 3) * T 1 2)
def ma_pt (s : Nat → Int) (T : Nat → Nat → Int) (V : ma_V) (l : Int) (p : Nat) (h a t : Int) : Int :=
  if l = -1 then (if a = 0 then 1 else -1) else ma_cl (-9) 9 (V l.toNat 118 (s (6 * p)) (T 2 (5 * p + 1)) (s (6 * p + 1)) t h a)
def ma_cf (s : Nat → Int) (T : Nat → Nat → Int) (V : ma_V) (l : Int) (p i : Nat) : Int := if s (54 + 5 * i) = p then ma_pt s T V l p (s (53 + 5 * i)) (s (55 + 5 * i)) (s (56 + 5 * i)) else 0
def ma_cs (s : Nat → Int) (T : Nat → Nat → Int) (V : ma_V) (l : Int) (p : Nat) : Int := ma_sm (s 51).toNat (ma_cf s T V l p)
def ma_nf (s : Nat → Int) (p i : Nat) : Int := if s (54 + 5 * i) = p then 1 else 0
def ma_nb (s : Nat → Int) (p : Nat) : Int := ma_sm (s 51).toNat (ma_nf s p)
theorem ma_wk_b (s : Nat → Int) (T : Nat → Nat → Int) (V : ma_V) (p h : Nat) (g w : Int) : 0 ≤ ma_wk s T V p h g w ∧ ma_wk s T V p h g w ≤ 10 := ma_cl_b (by decide)
theorem ma_pt_b (s : Nat → Int) (T : Nat → Nat → Int) (V : ma_V) (l : Int) (p : Nat) (h a t : Int) : -9 ≤ ma_pt s T V l p h a t ∧ ma_pt s T V l p h a t ≤ 9 := by
  unfold ma_pt
  split
  · split <;> omega
  · exact ma_cl_b (by decide)
theorem ma_cs_b {s : Nat → Int} (w : ma_ws s) (T : Nat → Nat → Int) (V : ma_V) (l : Int) (p : Nat) : -540 ≤ ma_cs s T V l p ∧ ma_cs s T V l p ≤ 540 := by
  have h := ma_sm_b (n := (s 51).toNat) (f := ma_cf s T V l p) (a := -9) (b := 9) (fun i _ => by
    have := ma_pt_b s T V l p (s (53 + 5 * i)) (s (55 + 5 * i)) (s (56 + 5 * i))
    unfold ma_cf
    split <;> omega)
  have h1 := w.2.2.1
  unfold ma_cs
  omega
theorem ma_nb_b {s : Nat → Int} (w : ma_ws s) (p : Nat) : 0 ≤ ma_nb s p ∧ ma_nb s p ≤ 60 := by
  have h := ma_sm_b (n := (s 51).toNat) (f := ma_nf s p) (a := 0) (b := 1) (fun i _ => by
    unfold ma_nf
    split <;> omega)
  have h1 := w.2.2.1
  unfold ma_nb
  omega
theorem q_cl1 {z : Int} (h : -2147483648 ≤ z ∧ z < 2147483648) : (if iI 0 < (if 10 < z then iI 10 else iI z) then (if 10 < z then iI 10 else iI z) else iI 0) = iI (ma_cl 0 10 z) := by
  unfold ma_cl
  rcases (by omega : z < 0 ∨ 10 < z ∨ z = 0 ∨ (0 < z ∧ z ≤ 10)) with c | c | c | c <;> simp (disch := omega) only [q_lt, if_pos, if_neg]
  subst c; rfl
theorem q_cl2 {z : Int} (h : -2147483648 ≤ z ∧ z < 2147483648) : (if iI 0 < (if z < 10 then iI z else iI 10) then (if z < 10 then iI z else iI 10) else iI 0) = iI (ma_cl 0 10 z) := by
  unfold ma_cl
  rcases (by omega : z < 0 ∨ 10 < z ∨ z = 10 ∨ z = 0 ∨ (0 < z ∧ z < 10)) with c | c | c | c | c <;> simp (disch := omega) only [q_lt, if_pos, if_neg]
  · subst c; rfl
  · subst c; rfl
theorem q_cl3 {z : Int} (h : -2147483648 ≤ z ∧ z < 2147483648) : (if iI (-9) < (if 9 < z then iI 9 else iI z) then (if 9 < z then iI 9 else iI z) else iI (-9)) = iI (ma_cl (-9) 9 z) := by
  unfold ma_cl
  rcases (by omega : z < -9 ∨ 9 < z ∨ z = -9 ∨ (-9 < z ∧ z ≤ 9)) with c | c | c | c <;> simp (disch := omega) only [q_lt, if_pos, if_neg]
  subst c; rfl
theorem q_cl4 {z : Int} (h : -2147483648 ≤ z ∧ z < 2147483648) : (if iI (-9) < (if z < 9 then iI z else iI 9) then (if z < 9 then iI z else iI 9) else iI (-9)) = iI (ma_cl (-9) 9 z) := by
  unfold ma_cl
  rcases (by omega : z < -9 ∨ 9 < z ∨ z = 9 ∨ z = -9 ∨ (-9 < z ∧ z < 9)) with c | c | c | c | c <;> simp (disch := omega) only [q_lt, if_pos, if_neg]
  · subst c; rfl
  · subst c; rfl
