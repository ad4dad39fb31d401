/-! rows of a chart -/
def isB (g : Nat → Int32) (r k : Nat) : Bool := decide (¬ g (r * 12 + k) = -1)
def cb (b : Nat → Bool) : Nat → Nat
  | 0 => 0
  | n + 1 => cb b n + (if b n = true then 1 else 0)
/-- the last one seen, by its name -/
def lc (b : Nat → Bool) (t : Nat → Nat) : Nat → Int32
  | 0 => -1
  | n + 1 => if b n = true then nI (t n) else lc b t n
theorem cb_le (b : Nat → Bool) : ∀ n, cb b n ≤ n
  | 0 => Nat.le_refl _
  | n + 1 => by
    have h := cb_le b n
    show cb b n + (if b n = true then 1 else 0) ≤ n + 1
    split <;> omega
theorem cb_0 {b : Nat → Bool} : ∀ {n : Nat}, cb b n = 0 ↔ ∀ k, k < n → b k = false
  | 0 => ⟨fun _ k hk => absurd hk (Nat.not_lt_zero k), fun _ => rfl⟩
  | n + 1 => by
    have h := cb_0 (b := b) (n := n)
    show cb b n + (if b n = true then 1 else 0) = 0 ↔ _
    constructor
    · intro e k hk
      by_cases hb : b n = true
      · rw [if_pos hb] at e
        omega
      · rw [if_neg hb] at e
        rcases Nat.lt_or_ge k n with q | q
        · exact h.mp (by omega) k q
        · have : k = n := by omega
          subst this
          exact Bool.eq_false_iff.mpr hb
    · intro e
      rw [if_neg (by rw [e n (Nat.lt_succ_self n)]; decide), h.mpr (fun k hk => e k (Nat.lt_succ_of_lt hk))]
theorem lc_0 {b : Nat → Bool} {t : Nat → Nat} : ∀ {n : Nat}, (∀ k, k < n → t k < 1000) → (lc b t n = -1 ↔ ∀ k, k < n → b k = false)
  | 0, _ => ⟨fun _ k hk => absurd hk (Nat.not_lt_zero k), fun _ => rfl⟩
  | n + 1, ht => by
    have h := lc_0 (b := b) (t := t) (n := n) (fun k hk => ht k (Nat.lt_succ_of_lt hk))
    show (if b n = true then nI (t n) else lc b t n) = -1 ↔ _
    by_cases hb : b n = true
    · rw [if_pos hb]
      have := ht n (Nat.lt_succ_self n)
      exact ⟨fun e => absurd e (nI_m1 (by omega)), fun e => absurd (e n (Nat.lt_succ_self n)) (by rw [hb]; decide)⟩
    · rw [if_neg hb, h]
      exact ⟨fun e k hk => by
        rcases Nat.lt_or_ge k n with q | q
        · exact e k q
        · have : k = n := by omega
          subst this
          exact Bool.eq_false_iff.mpr hb, fun e k hk => e k (Nat.lt_succ_of_lt hk)⟩
theorem isB_f {g : Nat → Int32} {r k : Nat} : isB g r k = false ↔ g (r * 12 + k) = -1 := by
  unfold isB
  by_cases h : g (r * 12 + k) = -1
  · simp [h]
  · simp [h]
theorem isB_t {g : Nat → Int32} {r k : Nat} : isB g r k = true ↔ ¬ g (r * 12 + k) = -1 := by
  unfold isB
  simp
theorem colAt {F : Nat → Int32} {G : Nat → Nat → Int32} {r c : Nat} (hr : r < 12) (hc : c < 12) : f_X0_colourAt F G (nI r) (nI c) = some (G 30 (r * 12 + c)) := by
  unfold f_X0_colourAt
  rw [cell_y hr hc, qc_s, if_neg e10, ix12, ql_ok (by omega) (by decide)]
theorem br_loop {F : Nat → Int32} {G : Nat → Nat → Int32} {r : Nat} (hr : r < 12) : ∀ n i, i ≤ 12 → 12 < i + n → f_X0_beadsInRow_L4 F G (nI r) n (nI (cb (isB (G 30) r) i)) (nI i) = some (nI (cb (isB (G 30) r) 12)) := by
  intro n
  induction n with
  | zero => intro i h1 h2; omega
  | succ n ih =>
    intro i h1 h2
    show f_X0_beadsInRow_L4_b (f_X0_beadsInRow_L4 F G (nI r) n) F G (nI r) (nI (cb (isB (G 30) r) i)) (nI i) = _
    unfold f_X0_beadsInRow_L4_b
    by_cases hi : i < 12
    · rw [if_neg (show ¬ (12 : Int32) ≤ nI i from nI_ge hi (by decide)), colAt hr hi, qc_s]
      simp only [f_X0_beadsInRow_B23, qn]
      rw [nI_1, nI_1]
      have ih := ih (i + 1) (by omega) (by omega)
      by_cases hv : G 30 (r * 12 + i) = -1
      · rw [if_pos hv]
        rw [show cb (isB (G 30) r) (i + 1) = cb (isB (G 30) r) i from by
          show cb (isB (G 30) r) i + (if isB (G 30) r i = true then 1 else 0) = _
          rw [if_neg (by rw [isB_f.mpr hv]; decide)]
          rfl] at ih
        exact ih
      · rw [if_neg hv]
        rw [show cb (isB (G 30) r) (i + 1) = cb (isB (G 30) r) i + 1 from by
          show cb (isB (G 30) r) i + (if isB (G 30) r i = true then 1 else 0) = _
          rw [if_pos (isB_t.mpr hv)]] at ih
        exact ih
    · have e : i = 12 := by omega
      subst e
      rw [if_pos (show (12 : Int32) ≤ nI 12 by decide)]
theorem br_eq {F : Nat → Int32} {G : Nat → Nat → Int32} {r : Nat} (hr : r < 12) : f_X0_beadsInRow F G (nI r) = some (nI (cb (isB (G 30) r) 12)) :=
  br_loop hr 1000 0 (by decide) (by decide)
def wd (w : Nat) : Nat := if w = 0 then 12 else w
theorem wd_le {w : Nat} (h : w = 0 ∨ (3 ≤ w ∧ w ≤ 12)) : wd w ≤ 12 ∧ 3 ≤ wd w := by
  unfold wd
  split <;> omega
theorem cols_eq {M : Nat → Int32} {N : Nat → Nat → Int32} {w : Nat} (h : M 2 = nI w) (hw : w = 0 ∨ (3 ≤ w ∧ w ≤ 12)) : f_X5_columns M N = some (nI (wd w)) := by
  unfold f_X5_columns wd
  rw [h]
  by_cases h0 : w = 0
  · subst h0
    rfl
  · rw [if_neg (nI_ne0 (by omega) (by omega)), if_neg h0]
/-- the column at the i-th place of a row -/
def tc (W : Nat) (up : Int32) (i : Nat) : Nat := if up = 0 then W - 1 - i else i
theorem tc_lt {W i : Nat} {up : Int32} (h : i < W) (hW : W ≤ 12) : tc W up i < 12 ∧ tc W up i < W := by
  unfold tc
  split <;> omega
theorem lc_loop {M : Nat → Int32} {N : Nat → Nat → Int32} {w r : Nat} (h : M 2 = nI w) (hw : w = 0 ∨ (3 ≤ w ∧ w ≤ 12)) (hr : r < 12) (up : Int32) : ∀ n i, i ≤ wd w → wd w < i + n → f_X5_lastColumn_L5 M N (nI r) up n (lc (fun i => isB (N 0) r (tc (wd w) up i)) (tc (wd w) up) i) (nI i) = some (lc (fun i => isB (N 0) r (tc (wd w) up i)) (tc (wd w) up) (wd w)) := by
  have hW := wd_le hw
  intro n
  induction n with
  | zero => intro i h1 h2; omega
  | succ n ih =>
    intro i h1 h2
    show f_X5_lastColumn_L5_b (f_X5_lastColumn_L5 M N (nI r) up n) M N (nI r) up (lc (fun i => isB (N 0) r (tc (wd w) up i)) (tc (wd w) up) i) (nI i) = _
    unfold f_X5_lastColumn_L5_b
    rw [cols_eq h hw, qc_s, qc_s]
    by_cases hi : i < wd w
    · rw [if_neg (nI_ge hi (by omega))]
      have ht := tc_lt (up := up) hi hW.1
      have body : f_X5_lastColumn_B32 (f_X5_lastColumn_L5 M N (nI r) up n) M N (nI r) up (lc (fun i => isB (N 0) r (tc (wd w) up i)) (tc (wd w) up) i) (nI i) (nI (tc (wd w) up i)) = some (lc (fun i => isB (N 0) r (tc (wd w) up i)) (tc (wd w) up) (wd w)) := by
        unfold f_X5_lastColumn_B32
        rw [ix12m, ql_ok (by omega) (by decide)]
        simp only [f_X5_lastColumn_B53, qn]
        rw [nI_1]
        have ih := ih (i + 1) (by omega) (by omega)
        by_cases hv : N 0 (r * 12 + tc (wd w) up i) = -1
        · rw [if_pos hv]
          rw [show lc (fun i => isB (N 0) r (tc (wd w) up i)) (tc (wd w) up) (i + 1) = lc (fun i => isB (N 0) r (tc (wd w) up i)) (tc (wd w) up) i from if_neg (show ¬ isB (N 0) r (tc (wd w) up i) = true by rw [isB_f.mpr hv]; decide)] at ih
          exact ih
        · rw [if_neg hv]
          rw [show lc (fun i => isB (N 0) r (tc (wd w) up i)) (tc (wd w) up) (i + 1) = nI (tc (wd w) up i) from if_pos (isB_t.mpr hv)] at ih
          exact ih
      by_cases hu : up = 0
      · rw [if_pos hu]
        have e : nI (wd w) - 1 - nI i = nI (tc (wd w) up i) := by
          unfold tc
          rw [if_pos hu, show (1 : Int32) = nI 1 from rfl, pk_sub (by omega), pk_sub (by omega)]
        rw [e]
        exact body
      · rw [if_neg hu]
        have e : nI i = nI (tc (wd w) up i) := by
          unfold tc
          rw [if_neg hu]
        conv => lhs; arg 8; rw [e]
        exact body
    · have e : i = wd w := by omega
      rw [e, if_pos (nI_le (Nat.le_refl _) (by omega))]
theorem lc_eq {M : Nat → Int32} {N : Nat → Nat → Int32} {w r : Nat} (h : M 2 = nI w) (hw : w = 0 ∨ (3 ≤ w ∧ w ≤ 12)) (hr : r < 12) (up : Int32) : f_X5_lastColumn M N (nI r) up = some (lc (fun i => isB (N 0) r (tc (wd w) up i)) (tc (wd w) up) (wd w)) :=
  lc_loop h hw hr up 1000 0 (by omega) (by have := wd_le hw; omega)
/-- a row has beads, or not, on both sides -/
theorem row_eq {g : Nat → Int32} {w r : Nat} (hw : w = 0 ∨ (3 ≤ w ∧ w ≤ 12)) (hring : w ≠ 0 → ∀ r k, r < 12 → w ≤ k → k < 12 → g (r * 12 + k) = -1) (hr : r < 12) : cb (isB g r) 12 = 0 ↔ lc (fun i => isB g r (tc (wd w) 1 i)) (tc (wd w) 1) (wd w) = -1 := by
  have hW := wd_le hw
  rw [cb_0, lc_0 (fun k hk => by have := tc_lt (up := 1) hk hW.1; omega)]
  constructor
  · intro h k hk
    exact h _ (tc_lt (up := 1) hk hW.1).1
  · intro h k hk
    by_cases q : k < wd w
    · have := h k q
      unfold tc at this
      rw [if_neg e10] at this
      exact this
    · have h0 : w ≠ 0 := fun z => by
        subst z
        exact q hk
      have e : wd w = w := by
        unfold wd
        rw [if_neg h0]
      exact isB_f.mpr (hring h0 r k hr (by omega) hk)
theorem rows_loop {F : Nat → Int32} {G : Nat → Nat → Int32} {M : Nat → Int32} {N : Nat → Nat → Int32} {w : Nat} (h30 : G 30 = N 0) (h : M 2 = nI w) (hw : w = 0 ∨ (3 ≤ w ∧ w ≤ 12)) (hring : w ≠ 0 → ∀ r k, r < 12 → w ≤ k → k < 12 → G 30 (r * 12 + k) = -1) (x1 : Int32) : ∀ (n i : Nat) (x : Int32), i ≤ 12 → 12 < i + n → ∃ r, f_X0_rowsWithBeads_L4 F G n x (nI i) = some r ∧ f_X5_count_L56 M N x1 n x (nI i) = some r := by
  intro n
  induction n with
  | zero => intro i x h1 h2; omega
  | succ n ih =>
    intro i x h1 h2
    show ∃ r, f_X0_rowsWithBeads_L4_b (f_X0_rowsWithBeads_L4 F G n) F G x (nI i) = some r ∧ f_X5_count_L56_b (f_X5_count_L56 M N x1 n) M N x1 x (nI i) = some r
    unfold f_X0_rowsWithBeads_L4_b f_X5_count_L56_b
    by_cases hi : i < 12
    · rw [if_neg (show ¬ (12 : Int32) ≤ nI i from nI_ge hi (by decide)), if_neg (show ¬ (12 : Int32) ≤ nI i from nI_ge hi (by decide)), br_eq hi, lc_eq h hw hi, qc_s, qc_s]
      simp only [f_X0_rowsWithBeads_B21, f_X5_count_B78, qn]
      rw [nI_1]
      have hr := row_eq (g := G 30) hw hring hi
      rw [← h30]
      by_cases c : cb (isB (G 30) i) 12 = 0
      · rw [c, if_pos (show nI 0 ≤ 0 by decide), if_pos (hr.mp c), Int32.add_zero]
        exact ih (i + 1) x (by omega) (by omega)
      · have hle := cb_le (isB (G 30) i) 12
        rw [if_neg (nI_nle (by omega) (by omega)), if_neg (fun z => c (hr.mpr z))]
        exact ih (i + 1) (x + 1) (by omega) (by omega)
    · have hp : (12 : Int32) ≤ nI i := nI_le (a := 12) (by omega) (by omega)
      rw [if_pos hp, if_pos hp]
      exact ⟨x, rfl, rfl⟩
theorem p_count : lh_count Rl := by
  intro F G M N h a1
  obtain ⟨⟨⟨g30, g31, g32, g33⟩, ⟨h34, h35, h36, h37⟩, cv1, cv2, cv3, ⟨w, hw, ew, hring⟩, cv5⟩, h10, n, p, wv, ⟨hn, hp, hwv⟩, ⟨h11, m32⟩, -⟩ := h
  unfold f_X4_count f_X5_count
  simp only [in_wi, qn]
  have key10 : f_X4_isWithin (a1 - 10) 0 5 = f_X4_isWithin a1 10 15 ∨ (f_X4_isWithin (a1 - 10) 0 5 = some 0 ∧ f_X4_isWithin a1 10 15 = some 0) := by
    rcases wi_n a1 10 15 10 15 rfl rfl (by decide) (by decide) with h | ⟨h, j, h1, h2, rfl⟩
    · right
      refine ⟨?_, h⟩
      rcases wi_n (a1 - 10) 0 5 0 5 rfl rfl (by decide) (by decide) with q | ⟨q, j, h1, h2, e⟩
      · exact q
      · exfalso
        have : a1 = nI (j + 10) := by
          rw [show nI (j + 10) = nI j + 10 from (nI_add j 10).symm, ← e, Int32.sub_add_cancel]
        rw [this, wi_y (lo := 10) (hi := 15) 10 15 rfl rfl (by decide) (by omega) (by omega)] at h
        cases h
    · left
      rw [h, show (10 : Int32) = nI 10 from rfl, pk_sub h1, wi_y (lo := 0) (hi := 5) 0 5 rfl rfl (by decide) (by omega) (by omega)]
  have key20 : f_X4_isWithin (a1 - 20) 0 5 = f_X4_isWithin a1 20 25 ∨ (f_X4_isWithin (a1 - 20) 0 5 = some 0 ∧ f_X4_isWithin a1 20 25 = some 0) := by
    rcases wi_n a1 20 25 20 25 rfl rfl (by decide) (by decide) with h | ⟨h, j, h1, h2, rfl⟩
    · right
      refine ⟨?_, h⟩
      rcases wi_n (a1 - 20) 0 5 0 5 rfl rfl (by decide) (by decide) with q | ⟨q, j, h1, h2, e⟩
      · exact q
      · exfalso
        have : a1 = nI (j + 20) := by
          rw [show nI (j + 20) = nI j + 20 from (nI_add j 20).symm, ← e, Int32.sub_add_cancel]
        rw [this, wi_y (lo := 20) (hi := 25) 20 25 rfl rfl (by decide) (by omega) (by omega)] at h
        cases h
    · left
      rw [h, show (20 : Int32) = nI 20 from rfl, pk_sub h1, wi_y (lo := 0) (hi := 5) 0 5 rfl rfl (by decide) (by omega) (by omega)]
  rcases wi_n a1 10 15 10 15 rfl rfl (by decide) (by decide) with w1 | ⟨w1, j, h1, h2, rfl⟩
  · have c1 : f_X4_isColour (a1 - 10) = some 0 := by
      unfold f_X4_isColour
      rcases key10 with q | q
      · rw [q, w1]; rfl
      · rw [q.1]; rfl
    rw [c1, w1, qc_s, if_pos rfl]
    rcases wi_n a1 20 25 20 25 rfl rfl (by decide) (by decide) with w2 | ⟨w2, j, h1, h2, rfl⟩
    · have c2 : f_X4_isColour (a1 - 20) = some 0 := by
        unfold f_X4_isColour
        rcases key20 with q | q
        · rw [q, w2]; rfl
        · rw [q.1]; rfl
      rw [c2, w2]
      simp only [qc_s, if_true]
      by_cases q0 : a1 = 0
      · rw [if_pos q0, if_pos q0]
        obtain ⟨r, e1, e2⟩ := cnt_eq (F := F) (M := M) g30 (-1)
        unfold f_X0_allBeads
        rw [e1, e2]
        exact ⟨_, rfl, rfl⟩
      rw [if_neg q0, if_neg q0]
      by_cases q1 : a1 = 1
      · rw [if_pos q1, if_pos q1]
        obtain ⟨r, e1, e2⟩ := rows_loop (F := F) (M := M) (N := N) g30 (by rw [← h35]; exact ew) hw hring a1 1000 0 0 (by decide) (by decide)
        unfold f_X0_rowsWithBeads
        simp only [qn]
        rw [show (0 : Int32) = nI 0 from rfl]
        rw [show (0 : Int32) = nI 0 from rfl] at e1 e2
        rw [e1, e2]
        exact ⟨_, rfl, rfl⟩
      rw [if_neg q1, if_neg q1]
      by_cases q2 : a1 = 2
      · rw [if_pos q2, if_pos q2, h34]
        exact ⟨_, rfl, rfl⟩
      rw [if_neg q2, if_neg q2]
      by_cases q3 : a1 = 3
      · rw [if_pos q3, if_pos q3, h35]
        exact ⟨_, rfl, rfl⟩
      rw [if_neg q3, if_neg q3]
      by_cases q4 : a1 = 4
      · rw [if_pos q4, if_pos q4, h36]
        exact ⟨_, rfl, rfl⟩
      rw [if_neg q4, if_neg q4]
      by_cases q5 : a1 = 5
      · rw [if_pos q5, if_pos q5, h37]
        exact ⟨_, rfl, rfl⟩
      rw [if_neg q5, if_neg q5]
      by_cases q6 : a1 = 6
      · rw [if_pos q6, if_pos q6, h11, m32]
        exact ⟨_, rfl, rfl⟩
      rw [if_neg q6, if_neg q6]
      exact ⟨_, rfl, rfl⟩
    · have c2 : f_X4_isColour (nI j - 20) = some 1 := by
        unfold f_X4_isColour
        rcases key20 with q | q
        · rw [q, w2]; rfl
        · rw [q.2] at w2; cases w2
      rw [c2, w2]
      simp only [qc_s, if_neg e10]
      rw [show (20 : Int32) = nI 20 from rfl, pk_sub h1, ql_ok (by omega) (by decide), ql_ok (by omega) (by decide), g31]
      have ne : ∀ m, m < 20 → ¬ nI j = nI m := fun m hm z => by
        have := (nI_eq (a := j) (b := m) (by omega) (by omega)).mp z
        omega
      rw [if_neg (show ¬ nI j = 0 from ne 0 (by decide)), if_neg (show ¬ nI j = 1 from ne 1 (by decide)), if_neg (show ¬ nI j = 2 from ne 2 (by decide)), if_neg (show ¬ nI j = 3 from ne 3 (by decide)), if_neg (show ¬ nI j = 4 from ne 4 (by decide)), if_neg (show ¬ nI j = 5 from ne 5 (by decide)), if_neg (show ¬ nI j = 6 from ne 6 (by decide))]
      exact ⟨_, rfl, rfl⟩
  · have c1 : f_X4_isColour (nI j - 10) = some 1 := by
      unfold f_X4_isColour
      rcases key10 with q | q
      · rw [q, w1]; rfl
      · rw [q.2] at w1; cases w1
    rw [c1, w1]
    simp only [qc_s, if_neg e10]
    have ne : ∀ m, m < 10 → ¬ nI j = nI m := fun m hm z => by
      have := (nI_eq (a := j) (b := m) (by omega) (by omega)).mp z
      omega
    rw [if_neg (show ¬ nI j = 0 from ne 0 (by decide)), if_neg (show ¬ nI j = 1 from ne 1 (by decide)), if_neg (show ¬ nI j = 2 from ne 2 (by decide)), if_neg (show ¬ nI j = 3 from ne 3 (by decide)), if_neg (show ¬ nI j = 4 from ne 4 (by decide)), if_neg (show ¬ nI j = 5 from ne 5 (by decide)), if_neg (show ¬ nI j = 6 from ne 6 (by decide))]
    obtain ⟨r, e1, e2⟩ := cnt_eq (F := F) (M := M) g30 (nI j - 10)
    unfold f_X0_beadsOfColour
    rw [e1, e2]
    exact ⟨_, rfl, rfl⟩
