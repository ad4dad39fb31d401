/-! one step of work: what its passes need, and whether they fit -/
def FT (n m cell : Nat) (st : Nat → Nat) (F : Nat → Int32) (G : Nat → Nat → Int32) (M : Nat → Int32) (N : Nat → Nat → Int32) : Prop :=
  (n < 144 ∧ cell < 144 ∧ m ≤ 4) ∧ (F 21 = nI m ∧ M 27 = nI m ∧ M 8 = nI n) ∧ (∀ i, i < m → G 20 i = nI (st i) ∧ N 28 i = nI (st i) ∧ st i ≤ n) ∧ (∀ j, j < n → ∃ q, q < 6 ∧ G 1 j = nI q ∧ N 14 j = nI q ∧ G 3 j = N 11 j) ∧ (∃ q, q < 6 ∧ G 1 n = nI q ∧ N 0 cell = nI q) ∧ G 3 n = 0 ∧ (G 31 = N 3 ∧ G 32 = N 4)
theorem FT_col {n m cell : Nat} {st : Nat → Nat} {F G M N} (h : FT n m cell st F G M N) {j : Nat} (hj : j ≤ n) : ∃ q, q < 6 ∧ G 1 j = nI q ∧ f_X5_colourAt M N (nI j) (nI cell) = some (nI q) := by
  obtain ⟨⟨hn, hc, hm⟩, ⟨h21, m27, m8⟩, hst, hcol, ⟨q0, hq0, e1, e2⟩, h3, -⟩ := h
  unfold f_X5_colourAt
  rw [m8]
  by_cases e : j = n
  · subst e
    rw [if_pos rfl, ql_ok hc (by decide), e2]
    exact ⟨q0, hq0, e1, rfl⟩
  · obtain ⟨q, hq, a1, a2, -⟩ := hcol j (by omega)
    rw [if_neg (fun z => e ((nI_eq (by omega) (by omega)).mp z)), ql_ok (by omega) (by decide), a2]
    exact ⟨q, hq, a1, rfl⟩
theorem need_loop {n m cell : Nat} {st : Nat → Nat} {F G M N} (h : FT n m cell st F G M N) : ∀ (f i : Nat) (x : Int32), i ≤ m → m < i + f → ∃ r, f_X2_threadNeeded_L5 F G f x (nI i) = some r ∧ f_X5_needs_L4 M N (nI cell) f x (nI i) = some r := by
  have hh := h
  obtain ⟨⟨hn, hc, hm⟩, ⟨h21, m27, m8⟩, hst, hcol, hcn, h3, g31, g32⟩ := h
  intro f
  induction f with
  | zero => intro i x h1 h2; omega
  | succ f ih =>
    intro i x h1 h2
    show ∃ r, f_X2_threadNeeded_L5_b (f_X2_threadNeeded_L5 F G f) F G x (nI i) = some r ∧ f_X5_needs_L4_b (f_X5_needs_L4 M N (nI cell) f) M N (nI cell) x (nI i) = some r
    unfold f_X2_threadNeeded_L5_b f_X5_needs_L4_b
    rw [h21, m27]
    by_cases hi : i < m
    · obtain ⟨s1, s2, s3⟩ := hst i hi
      obtain ⟨q, hq, c1, c2⟩ := FT_col hh s3
      rw [if_neg (nI_ge hi (by omega)), if_neg (nI_ge hi (by omega)), ql_ok (by omega) (by decide), ql_ok (by omega) (by decide), s1, s2, ql_ok (by omega) (by decide), c1, c2, qc_s, ql_ok hq (by decide), ql_ok hq (by decide), g32, qn_e, qn_e, qn_e, qn_e, nI_1]
      exact ih (i + 1) _ (by omega) (by omega)
    · rw [if_pos (nI_le (by omega) (by omega)), if_pos (nI_le (by omega) (by omega))]
      exact ⟨x, rfl, rfl⟩
theorem need_eq {n m cell : Nat} {st : Nat → Nat} {F G M N} (h : FT n m cell st F G M N) : ∃ r, f_X2_threadNeeded F G = some r ∧ f_X5_needs M N (nI cell) = some r := by
  unfold f_X2_threadNeeded f_X5_needs
  rw [qn_e, qn_e, qn_e, qn_e]
  have hm := h.1.2.2
  exact need_loop h 1000 0 0 (by omega) (by omega)
/-- how often the first i passes are of bead b -/
def ctI (st : Nat → Nat) (b : Nat) : Nat → Int32
  | 0 => 0
  | i + 1 => ctI st b i + (if st i = b then 1 else 0)
theorem pu_loop {n m cell : Nat} {st : Nat → Nat} {F G M N} (h : FT n m cell st F G M N) {k : Nat} (hk : k < m) : ∀ (f i : Nat), i ≤ k + 1 → k + 1 < i + f → f_X2_passesUpTo_L4 F G (nI k) f (ctI st (st k) i) (nI i) = some (ctI st (st k) (k + 1)) := by
  obtain ⟨⟨hn, hc, hm⟩, ⟨h21, m27, m8⟩, hst, hcol, hcn, h3, g31, g32⟩ := h
  intro f
  induction f with
  | zero => intro i h1 h2; omega
  | succ f ih =>
    intro i h1 h2
    show f_X2_passesUpTo_L4_b (f_X2_passesUpTo_L4 F G (nI k) f) F G (nI k) (ctI st (st k) i) (nI i) = _
    unfold f_X2_passesUpTo_L4_b f_X2_passesUpTo_B27
    by_cases hi : i < k + 1
    · obtain ⟨s1, -, s3⟩ := hst i (by omega)
      obtain ⟨t1, -, t3⟩ := hst k hk
      rw [if_neg (nI_nlt (by omega) (by omega)), ql_ok (by omega) (by decide), ql_ok (by omega) (by decide), s1, t1, qn_e, qn_e, qn_e, nI_1]
      have ih := ih (i + 1) (by omega) (by omega)
      rw [show ctI st (st k) (i + 1) = ctI st (st k) i + (if st i = st k then 1 else 0) from rfl] at ih
      by_cases e : st i = st k
      · rw [if_pos (by rw [e])]
        rw [if_pos e] at ih
        exact ih
      · rw [if_neg (fun z => e ((nI_eq (by omega) (by omega)).mp z))]
        rw [if_neg e, Int32.add_zero] at ih
        exact ih
    · have e : i = k + 1 := by omega
      subst e
      rw [if_pos (nI_lt (by omega) (by omega))]
theorem hr_loop {n m cell : Nat} {st : Nat → Nat} {F G M N} (h : FT n m cell st F G M N) {k : Nat} (hk : k < m) (rec : Int32 → Option Int32) (v : Int32) : ∀ (f i : Nat), i ≤ k + 1 → k + 1 < i + f → f_X5_hasRoom_L40 rec M N (nI cell) f (nI k) (nI (st k)) (v + ctI st (st k) i) (nI i) = qc (f_X5_colourAt M N (nI (st k)) (nI cell)) fun v3 => ql (N 3) 6 v3 fun v5 => if v + ctI st (st k) (k + 1) ≤ v5 then qn (nI k + 1) fun v6 => rec v6 else some 0 := by
  obtain ⟨⟨hn, hc, hm⟩, ⟨h21, m27, m8⟩, hst, hcol, hcn, h3, g31, g32⟩ := h
  intro f
  induction f with
  | zero => intro i h1 h2; omega
  | succ f ih =>
    intro i h1 h2
    show f_X5_hasRoom_L40_b rec (f_X5_hasRoom_L40 rec M N (nI cell) f) M N (nI cell) (nI k) (nI (st k)) (v + ctI st (st k) i) (nI i) = _
    unfold f_X5_hasRoom_L40_b f_X5_hasRoom_B64
    by_cases hi : i < k + 1
    · obtain ⟨-, s2, s3⟩ := hst i (by omega)
      obtain ⟨-, t2, t3⟩ := hst k hk
      rw [if_neg (nI_nlt (by omega) (by omega)), ql_ok (by omega) (by decide), s2, qn_e, qn_e, qn_e, qn_e, nI_1]
      have ih := ih (i + 1) (by omega) (by omega)
      rw [show ctI st (st k) (i + 1) = ctI st (st k) i + (if st i = st k then 1 else 0) from rfl, ← Int32.add_assoc] at ih
      by_cases e : st i = st k
      · rw [if_pos (by rw [e])]
        rw [if_pos e] at ih
        exact ih
      · rw [if_neg (fun z => e ((nI_eq (by omega) (by omega)).mp z))]
        rw [if_neg e] at ih
        exact ih
    · have e : i = k + 1 := by omega
      subst e
      rw [if_pos (nI_lt (by omega) (by omega))]
theorem fits_loop {n m cell : Nat} {st : Nat → Nat} {F G M N} (h : FT n m cell st F G M N) : ∀ (f i : Nat), i ≤ m → m < i + f → ∃ b : Bool, f_X2_fits_L3 F G f (nI i) = some (b2i b) ∧ f_X5_hasRoom_L2 M N (nI cell) f (nI i) = some (b2i b) := by
  have hh := h
  obtain ⟨⟨hn, hc, hm⟩, ⟨h21, m27, m8⟩, hst, hcol, hcn, h3, g31, g32⟩ := h
  intro f
  induction f with
  | zero => intro i h1 h2; omega
  | succ f ih =>
    intro i h1 h2
    show ∃ b : Bool, f_X2_fits_L3_b (f_X2_fits_L3 F G f) F G (nI i) = some (b2i b) ∧ f_X5_hasRoom_L2_b (f_X5_hasRoom_L2 M N (nI cell) f) M N (nI cell) (nI i) = some (b2i b)
    unfold f_X2_fits_L3_b f_X5_hasRoom_L2_b
    rw [h21, m27]
    by_cases hi : i < m
    · obtain ⟨s1, s2, s3⟩ := hst i hi
      obtain ⟨q, hq, c1, c2⟩ := FT_col hh s3
      rw [if_neg (nI_ge hi (by omega)), if_neg (nI_ge hi (by omega)), ql_ok (by omega) (by decide), ql_ok (by omega) (by decide), s1, s2, ql_ok (by omega) (by decide)]
      have pu : f_X2_passesUpTo F G (nI i) = some (ctI st (st i) (i + 1)) := by
        unfold f_X2_passesUpTo
        rw [qn_e, qn_e]
        exact pu_loop hh hi 1000 0 (by omega) (by omega)
      rw [pu, qc_s, ql_ok (by omega) (by decide), c1, ql_ok hq (by decide), g31]
      have hv : (if nI (st i) = M 8 then f_X5_hasRoom_B35 (f_X5_hasRoom_L2 M N (nI cell) f) M N (nI cell) (nI i) (nI (st i)) 0 else ql (N 11) 144 (nI (st i)) fun v10 => f_X5_hasRoom_B35 (f_X5_hasRoom_L2 M N (nI cell) f) M N (nI cell) (nI i) (nI (st i)) v10) = f_X5_hasRoom_B35 (f_X5_hasRoom_L2 M N (nI cell) f) M N (nI cell) (nI i) (nI (st i)) (G 3 (st i)) := by
        rw [m8]
        by_cases e : st i = n
        · rw [if_pos (by rw [e]), e, h3]
        · obtain ⟨q2, -, -, -, e3⟩ := hcol (st i) (by omega)
          rw [if_neg (fun z => e ((nI_eq (by omega) (by omega)).mp z)), ql_ok (by omega) (by decide), e3]
      rw [hv]
      unfold f_X5_hasRoom_B35
      rw [qn_e]
      have hr := hr_loop hh hi (f_X5_hasRoom_L2 M N (nI cell) f) (G 3 (st i)) 1000 0 (by omega) (by omega)
      rw [show ctI st (st i) 0 = 0 from rfl, Int32.add_zero] at hr
      rw [qn_e, show (0 : Int32) = nI 0 from rfl, hr, c2, qc_s, ql_ok hq (by decide), qn_e, nI_1]
      by_cases c : G 3 (st i) + ctI st (st i) (i + 1) ≤ N 3 q
      · rw [if_pos c, if_pos c]
        exact ih (i + 1) (by omega) (by omega)
      · rw [if_neg c, if_neg c]
        exact ⟨false, rfl, rfl⟩
    · rw [if_pos (nI_le (by omega) (by omega)), if_pos (nI_le (by omega) (by omega))]
      exact ⟨true, rfl, rfl⟩
theorem fits_eq {n m cell : Nat} {st : Nat → Nat} {F G M N} (h : FT n m cell st F G M N) : ∃ b : Bool, f_X2_fits F G = some (b2i b) ∧ f_X5_hasRoom M N (nI cell) = some (b2i b) := by
  unfold f_X2_fits f_X5_hasRoom
  rw [qn_e, qn_e]
  have hm := h.1.2.2
  exact fits_loop h 1000 0 (by omega) (by omega)
/-- the very first bead always fits -/
theorem fits_1 {cell : Nat} {F G M N} {st : Nat → Nat} (h : FT 0 1 cell st F G M N) (hh : ∀ c, c < 6 → ∃ h, 1 ≤ h ∧ h ≤ 9 ∧ G 31 c = nI h) : f_X2_fits F G = some 1 := by
  obtain ⟨⟨hn, hc, hm⟩, ⟨h21, m27, m8⟩, hst, hcol, ⟨q, hq, e1, e2⟩, h3, g31, g32⟩ := h
  obtain ⟨s1, s2, s3⟩ := hst 0 (by decide)
  have es : st 0 = 0 := by omega
  rw [es] at s1
  have pu : f_X2_passesUpTo F G (nI 0) = some 1 := by
    unfold f_X2_passesUpTo
    rw [qn_e, qn_e]
    have := pu_loop (k := 0) ⟨⟨hn, hc, hm⟩, ⟨h21, m27, m8⟩, hst, hcol, ⟨q, hq, e1, e2⟩, h3, g31, g32⟩ (by decide) 1000 0 (by omega) (by omega)
    rw [show ctI st (st 0) (0 + 1) = 1 from by
      show (0 : Int32) + (if st 0 = st 0 then 1 else 0) = 1
      rw [if_pos rfl]
      rfl] at this
    exact this
  unfold f_X2_fits
  rw [qn_e]
  show f_X2_fits_L3_b (f_X2_fits_L3 F G 999) F G (nI 0) = some 1
  unfold f_X2_fits_L3_b
  rw [h21, if_neg (show ¬ nI 1 ≤ nI 0 by decide), ql_ok (by decide) (by decide), s1, ql_ok (by decide) (by decide), pu, qc_s, ql_ok (by decide) (by decide), e1, ql_ok hq (by decide), h3]
  obtain ⟨x, x1, x2, x3⟩ := hh q hq
  rw [x3, if_pos (show (0 : Int32) + 1 ≤ nI x from by
    rw [show (0 : Int32) + 1 = nI 1 from rfl]
    exact nI_le x1 (by omega)), qn_e]
  show f_X2_fits_L3_b (f_X2_fits_L3 F G 998) F G (nI 0 + 1) = some 1
  unfold f_X2_fits_L3_b
  rw [h21, if_pos (show nI 1 ≤ nI 0 + 1 by decide)]
/-! the passes are counted -/
theorem cin_loop {n m cell : Nat} (x1 x2 x3 x4 x5 x6 : Int32) {st : Nat → Nat} (hn : n < 144) (hm : m ≤ 4) {F : Nat → Int32} {M : Nat → Int32} (h21 : F 21 = nI m) (m27 : M 27 = nI m) : ∀ (f i : Nat) (G N : Nat → Nat → Int32), i ≤ m → m < i + f → (∀ i, i < m → G 20 i = nI (st i) ∧ N 28 i = nI (st i) ∧ st i ≤ n) → (∀ j, j ≤ n → G 3 j = N 11 j) → ∃ g g2 : Nat → Int32, f_X2_countInto_L2 f F G (nI i) = some (F, pz g 3 G) ∧ f_X5_picks_L362 x1 x2 x3 x4 f M N x5 x6 (nI i) = f_X5_picks_L362_b (f_X5_picks_L362 x1 x2 x3 x4 0) x1 x2 x3 x4 M (pz g2 11 N) x5 x6 (nI m) ∧ (∀ j, j ≤ n → g j = g2 j) ∧ smI g2 (n + 1) = smI (N 11) (n + 1) + nI (m - i) := by
  intro f
  induction f with
  | zero => intro i G N h1 h2; omega
  | succ f ih =>
    intro i G N h1 h2 hst h3
    by_cases hi : i < m
    · show ∃ g g2 : Nat → Int32, f_X2_countInto_L2_b (f_X2_countInto_L2 f) F G (nI i) = some (F, pz g 3 G) ∧ f_X5_picks_L362_b (f_X5_picks_L362 x1 x2 x3 x4 f) x1 x2 x3 x4 M N x5 x6 (nI i) = _ ∧ _
      obtain ⟨s1, s2, s3⟩ := hst i hi
      have eL : f_X2_countInto_L2_b (f_X2_countInto_L2 f) F G (nI i) = f_X2_countInto_L2 f F (qG G 3 (st i) (G 3 (st i) + 1)) (nI (i + 1)) := by
        unfold f_X2_countInto_L2_b
        rw [h21, if_neg (nI_ge hi (by omega)), ql_ok (by omega) (by decide), s1, ql_ok (by omega) (by decide), qs_ok (by omega) (by decide), qn_e, nI_1]
      have eM : f_X5_picks_L362_b (f_X5_picks_L362 x1 x2 x3 x4 f) x1 x2 x3 x4 M N x5 x6 (nI i) = f_X5_picks_L362 x1 x2 x3 x4 f M (qG N 11 (st i) (N 11 (st i) + 1)) x5 x6 (nI (i + 1)) := by
        unfold f_X5_picks_L362_b
        rw [m27, if_neg (nI_ge hi (by omega)), ql_ok (by omega) (by decide), s2, ql_ok (by omega) (by decide), qs_ok (by omega) (by decide), qn_e, nI_1]
      rw [eL, eM]
      obtain ⟨g, g2, r1, r2, r3, r4⟩ := ih (i + 1) (qG G 3 (st i) (G 3 (st i) + 1)) (qG N 11 (st i) (N 11 (st i) + 1)) (by omega) (by omega) (fun j hj => by rw [qG_n _ _ _ (by decide), qG_n _ _ _ (by decide)]; exact hst j hj) (fun j hj => by
        rw [qG_s, qG_s, h3 (st i) s3]
        by_cases e : j = st i
        · rw [e, upd_s, upd_s]
        · rw [upd_n _ _ e, upd_n _ _ e]
          exact h3 j hj)
      rw [pz_qG] at r1 r2
      refine ⟨g, g2, r1, r2, r3, ?_⟩
      rw [r4, qG_s]
      have sm1 : ∀ k, st i < k → smI (upd (N 11) (st i) (N 11 (st i) + 1)) k = smI (N 11) k + 1 := by
        intro k
        induction k with
        | zero => intro z; omega
        | succ k ihk =>
          intro z
          show smI (upd (N 11) (st i) (N 11 (st i) + 1)) k + upd (N 11) (st i) (N 11 (st i) + 1) k = smI (N 11) k + N 11 k + 1
          by_cases e : st i = k
          · subst e
            rw [upd_s]
            have same : ∀ q, q ≤ st i → smI (upd (N 11) (st i) (N 11 (st i) + 1)) q = smI (N 11) q := by
              intro q
              induction q with
              | zero => intro _; rfl
              | succ q ihq =>
                intro hq
                show smI (upd (N 11) (st i) (N 11 (st i) + 1)) q + upd (N 11) (st i) (N 11 (st i) + 1) q = smI (N 11) q + N 11 q
                rw [ihq (by omega), upd_n _ _ (by omega)]
            rw [same _ (Nat.le_refl _), Int32.add_assoc]
          · rw [ihk (by omega), upd_n _ _ (fun z => e z.symm), Int32.add_assoc, Int32.add_comm 1, ← Int32.add_assoc]
      rw [sm1 (n + 1) (by omega), Int32.add_assoc, show (1 : Int32) + nI (m - (i + 1)) = nI (m - i) by
        rw [show (1 : Int32) = nI 1 from rfl, nI_add, show 1 + (m - (i + 1)) = m - i by omega]]
    · have e : i = m := by omega
      subst e
      refine ⟨G 3, N 11, ?_, ?_, h3, ?_⟩
      · show f_X2_countInto_L2_b (f_X2_countInto_L2 f) F G (nI i) = _
        unfold f_X2_countInto_L2_b
        rw [h21, if_pos (nI_le (Nat.le_refl _) (by omega)), pz_id]
      · show f_X5_picks_L362_b (f_X5_picks_L362 x1 x2 x3 x4 f) x1 x2 x3 x4 M N x5 x6 (nI i) = _
        unfold f_X5_picks_L362_b
        rw [m27, if_pos (nI_le (Nat.le_refl _) (by omega)), if_pos (nI_le (Nat.le_refl _) (by omega)), pz_id]
      · rw [Nat.sub_self, show nI 0 = (0 : Int32) from rfl, Int32.add_zero]
