/-- a number below n, both ways round -/
theorem wi_m (x : Int32) (n : Nat) (hn : n ≤ 1000) : (f_X4_isWithin x 0 (nI n - 1) = some 0 ∧ (x < 0 ∨ (¬ x < 0 ∧ nI n ≤ x))) ∨ (f_X4_isWithin x 0 (nI n - 1) = some 1 ∧ ∃ k, k < n ∧ x = nI k) := by
  unfold f_X4_isWithin
  by_cases h0 : x < 0
  · rw [if_pos h0]
    exact Or.inl ⟨rfl, Or.inl h0⟩
  · rw [if_neg h0]
    obtain ⟨j, hj, rfl⟩ := nI_of h0
    have e : (nI n - 1).toInt = (n : Int) - 1 := by
      rw [show (1 : Int32) = nI 1 from rfl, pk_sub_toInt (by omega) (by omega)]
      rfl
    by_cases h1 : j < n
    · right
      rw [if_neg (by rw [Int32.lt_iff_toInt_lt, e, nI_toInt hj]; omega)]
      exact ⟨rfl, j, h1, rfl⟩
    · left
      rw [if_pos (by rw [Int32.lt_iff_toInt_lt, e, nI_toInt hj]; omega)]
      exact ⟨rfl, Or.inr ⟨h0, nI_le (by omega) hj⟩⟩
theorem has_n {F : Nat → Int32} {G : Nat → Nat → Int32} {M : Nat → Int32} {N : Nat → Nat → Int32} {n : Nat} (hn : n ≤ 144) (h1 : F 11 = nI n) (h2 : M 32 = nI n) (x : Int32) : (f_X3_has F G x = some 0 ∧ f_X5_isPicked M N x = some 0) ∨ (f_X3_has F G x = some 1 ∧ f_X5_isPicked M N x = some 1 ∧ ∃ k, k < n ∧ x = nI k) := by
  unfold f_X3_has f_X5_isPicked
  rw [h1, h2]
  simp only [in_wi]
  rcases wi_m x n (by omega) with ⟨h, hx⟩ | ⟨h, k, hk, rfl⟩
  · left
    rw [h]
    rcases hx with hx | ⟨hx, hy⟩
    · rw [if_pos hx]
      exact ⟨rfl, rfl⟩
    · rw [if_neg hx, if_pos hy]
      exact ⟨rfl, rfl⟩
  · right
    rw [h, if_neg (nI_pos (by omega)), if_neg (nI_ge hk (by omega))]
    exact ⟨rfl, rfl, k, hk, rfl⟩
theorem sm_loop {M : Nat → Int32} {N : Nat → Nat → Int32} (x1 : Int32) {c : Nat} (hc : c ≤ 144) (hM : M 32 = nI c) : ∀ (n i : Nat), i ≤ c → c < i + n → f_X5_worked_L118 M N x1 n (smI (N 40) i) (nI i) = some (smI (N 40) c) := by
  intro n
  induction n with
  | zero => intro i h1 h2; omega
  | succ n ih =>
    intro i h1 h2
    show f_X5_worked_L118_b (f_X5_worked_L118 M N x1 n) M N x1 (smI (N 40) i) (nI i) = some (smI (N 40) c)
    unfold f_X5_worked_L118_b
    rw [hM]
    by_cases hi : i < c
    · rw [if_neg (nI_ge hi (by omega)), ql_ok (by omega) (by decide)]
      simp only [qn]
      rw [nI_1]
      exact ih (i + 1) (by omega) (by omega)
    · have e : i = c := by omega
      subst e
      rw [if_pos (nI_le (Nat.le_refl _) (by omega))]
theorem p_worked : lh_worked Rl := by
  intro F G M N h a1
  obtain ⟨-, h10, n, p, wv, ⟨hn, hp, hwv⟩, ⟨h11, m32⟩, ⟨h14, m35⟩, h18, h0, hne, h17, -⟩ := h
  unfold f_X4_worked f_X5_worked
  rw [← h10]
  by_cases c0 : F 10 = 0
  · rw [if_pos c0, if_pos c0]
    exact ⟨-1, rfl, rfl⟩
  · obtain ⟨h12, h13, h15, h16⟩ := hne c0
    rw [if_neg c0, if_neg c0]
    simp only [qn, f_X4_rowOf, f_X4_columnOf]
    by_cases q0 : a1 = 0
    · rw [if_pos q0, if_pos q0, h12]
      exact ⟨_, rfl, rfl⟩
    rw [if_neg q0, if_neg q0]
    by_cases q1 : a1 = 1
    · rw [if_pos q1, if_pos q1, h13]
      by_cases e : M 34 = -1
      · rw [if_pos e]
        exact ⟨_, rfl, rfl⟩
      · rw [if_neg e]
        exact ⟨_, rfl, rfl⟩
    rw [if_neg q1, if_neg q1]
    by_cases q2 : a1 = 2
    · rw [if_pos q2, if_pos q2, h13]
      by_cases e : M 34 = -1
      · rw [if_pos e]
        exact ⟨_, rfl, rfl⟩
      · rw [if_neg e]
        exact ⟨_, rfl, rfl⟩
    rw [if_neg q2, if_neg q2]
    by_cases q3 : a1 = 3
    · rw [if_pos q3, if_pos q3, h14, m35]
      exact ⟨_, rfl, rfl⟩
    rw [if_neg q3, if_neg q3]
    by_cases q4 : a1 = 4
    · rw [if_pos q4, if_pos q4, h15]
      exact ⟨_, rfl, rfl⟩
    rw [if_neg q4, if_neg q4]
    by_cases q5 : a1 = 5
    · rw [if_pos q5, if_pos q5, h16]
      exact ⟨_, rfl, rfl⟩
    rw [if_neg q5, if_neg q5]
    by_cases q6 : a1 = 6
    · rw [if_pos q6, if_pos q6, h17]
      exact ⟨_, rfl, sm_loop (N := N) a1 hn m32 1000 0 (by omega) (by omega)⟩
    rw [if_neg q6, if_neg q6]
    exact ⟨_, rfl, rfl⟩
theorem nI_m1 {j : Nat} (h : j < 2 ^ 31) : ¬ (nI j = -1) := by
  intro e
  have h1 := nI_pos (n := j) h
  rw [e] at h1
  exact h1 (by decide)
theorem p_picked : lh_picked Rl := by
  intro F G M N h a1 a2
  obtain ⟨-, h10, n, p, wv, ⟨hn, hp, hwv⟩, ⟨h11, m32⟩, ⟨h14, m35⟩, h18, h0, hne, h17, hA, -⟩ := h
  unfold f_X4_picked f_X5_picked
  rcases has_n (G := G) (N := N) hn h11 m32 a1 with ⟨e1, e2⟩ | ⟨e1, e2, k, hk, rfl⟩
  · rw [e1, e2]
    exact ⟨-1, rfl, rfl⟩
  · rw [e1, e2, qc_s, qc_s, if_neg e10, if_neg e10]
    obtain ⟨⟨c1, c2, c3, c4⟩, ⟨t1, t2, t3, t4⟩, ⟨cc, hcc, ecc⟩, -, -⟩ := hA k hk
    have hk2 : k < 144 := by omega
    simp only [f_X4_rowOf, f_X4_columnOf, f_X3_caughtCount, f_X3_caughtCount_B15, f_X5_picked_B96]
    by_cases q0 : a2 = 0
    · rw [if_pos q0, if_pos q0, ql_ok hk2 (by decide), ql_ok hk2 (by decide), c1, if_neg (by rw [← c1, ecc]; exact nI_m1 (by omega))]
      exact ⟨_, rfl, rfl⟩
    rw [if_neg q0, if_neg q0]
    by_cases q1 : a2 = 1
    · rw [if_pos q1, if_pos q1, ql_ok hk2 (by decide), ql_ok hk2 (by decide), c1, if_neg (by rw [← c1, ecc]; exact nI_m1 (by omega))]
      exact ⟨_, rfl, rfl⟩
    rw [if_neg q1, if_neg q1]
    by_cases q2 : a2 = 2
    · rw [if_pos q2, if_pos q2, ql_ok hk2 (by decide), ql_ok hk2 (by decide), c3]
      exact ⟨_, rfl, rfl⟩
    rw [if_neg q2, if_neg q2]
    by_cases q3 : a2 = 3
    · rw [if_pos q3, if_pos q3, ql_ok hk2 (by decide), ql_ok hk2 (by decide), c4]
      exact ⟨_, rfl, rfl⟩
    rw [if_neg q3, if_neg q3]
    by_cases q4 : a2 = 4
    · rw [if_pos q4, if_pos q4, ql_ok hk2 (by decide), ql_ok hk2 (by decide), ql_ok hk2 (by decide), ql_ok hk2 (by decide), ql_ok hk2 (by decide), ql_ok hk2 (by decide), t3, t4]
      have nm : ((-1 : Int32) < 0) := by decide
      rcases t1 with l1 | ⟨j1, hj1, l1⟩
      · rw [l1, if_pos rfl, if_pos rfl, if_pos rfl]
        rcases t2 with l2 | ⟨j2, hj2, l2⟩
        · rw [l2, if_pos rfl, if_pos nm, if_pos nm]
          exact ⟨_, rfl, rfl⟩
        · rw [l2, if_neg (nI_m1 (by omega)), if_neg (nI_pos (by omega)), if_pos nm]
          exact ⟨_, rfl, rfl⟩
      · rw [l1, if_neg (nI_m1 (by omega)), if_neg (nI_m1 (by omega)), if_neg (nI_m1 (by omega)), if_neg (nI_pos (by omega))]
        rcases t2 with l2 | ⟨j2, hj2, l2⟩
        · rw [l2, if_pos rfl, if_pos nm]
          exact ⟨_, rfl, rfl⟩
        · rw [l2, if_neg (nI_m1 (by omega)), if_neg (nI_pos (by omega))]
          exact ⟨_, rfl, rfl⟩
    rw [if_neg q4, if_neg q4]
    by_cases q5 : a2 = 5
    · rw [if_pos q5, if_pos q5, ql_ok hk2 (by decide), ql_ok hk2 (by decide), c2]
      exact ⟨_, rfl, rfl⟩
    rw [if_neg q5, if_neg q5]
    exact ⟨_, rfl, rfl⟩
theorem p_woven : lh_woven Rl := by
  intro F G M N h a1 a2
  obtain ⟨-, h10, n, p, wv, ⟨hn, hp, hwv⟩, ⟨h11, m32⟩, ⟨h14, m35⟩, h18, h0, hne, h17, hA, hpk, hw, hw0, -⟩ := h
  unfold f_X4_woven f_X3_wovenIn f_X5_woven
  simp only [in_wi]
  rw [← h10, h14, m35, h18]
  have out : ∀ x : Int32, (x < 0 ∨ (¬ x < 0 ∧ nI p ≤ x)) → (qc (if x < 1 then some (-1 : Int32) else if nI p ≤ x then some (-1 : Int32) else if a2 < 0 then some (-1 : Int32) else if a2 < nI wv then ql (G 7) 864 (x * 6 + a2) fun v1 => some v1 else some (-1 : Int32)) fun v1 => some v1) = some (-1) := by
    intro x hx
    rcases hx with hx | ⟨hx, hy⟩
    · rw [if_pos (by
        rw [Int32.lt_iff_toInt_lt] at hx ⊢
        have e0 : (0 : Int32).toInt = 0 := by decide
        have e1 : (1 : Int32).toInt = 1 := by decide
        omega)]
      rfl
    · by_cases h1 : x < 1
      · rw [if_pos h1]
        rfl
      · rw [if_neg h1, if_pos hy]
        rfl
  by_cases c0 : F 10 = 0
  · rw [if_pos c0]
    obtain ⟨hp0, -⟩ := h0 c0
    subst hp0
    refine ⟨-1, ?_, rfl⟩
    by_cases hx : a1 < 0
    · exact out a1 (Or.inl hx)
    · obtain ⟨j, hj, rfl⟩ := nI_of hx
      exact out _ (Or.inr ⟨hx, nI_le (Nat.zero_le j) hj⟩)
  · rw [if_neg c0]
    rcases wi_m a1 p (by omega) with ⟨h, hx⟩ | ⟨h, q, hq, rfl⟩
    · rw [h]
      exact ⟨-1, out a1 hx, rfl⟩
    · rw [h, qc_s, if_neg e10, ql_ok (by omega) (by decide)]
      by_cases q0 : q = 0
      · subst q0
        rw [hw0 hq, if_pos (show nI 0 < (1 : Int32) by decide)]
        refine ⟨-1, rfl, ?_⟩
        rcases wi_m a2 0 (by omega) with ⟨h2, -⟩ | ⟨h2, k, hk, -⟩
        · rw [show (0 : Int32) - 1 = nI 0 - 1 from rfl, h2]
          rfl
        · omega
      · obtain ⟨e1, e2⟩ := hw q (by omega) hq
        rw [e1, if_neg (show ¬ nI q < (1 : Int32) from nI_nlt (b := 1) (by omega) (by omega)), if_neg (nI_ge hq (by omega))]
        rcases wi_m a2 wv (by omega) with ⟨h2, hx⟩ | ⟨h2, i, hi, rfl⟩
        · rw [h2]
          refine ⟨-1, ?_, rfl⟩
          rcases hx with hx | ⟨hx, hy⟩
          · rw [if_pos hx]
            rfl
          · rw [if_neg hx, if_neg (by
              rw [Int32.le_iff_toInt_le] at hy
              rw [Int32.lt_iff_toInt_lt]
              omega)]
            rfl
        · obtain ⟨e3, -⟩ := e2 i hi
          rw [h2, qc_s, if_neg e10, if_neg (nI_pos (by omega)), if_pos (nI_lt hi (by omega))]
          rw [show nI q * 6 + nI i = nI (q * 6 + i) by rw [show (6 : Int32) = nI 6 from rfl, pk_mul, nI_add], show 6 * nI q + nI i = nI (q * 6 + i) by rw [show (6 : Int32) = nI 6 from rfl, pk_mul, nI_add, Nat.mul_comm]]
          rw [ql_ok (by omega) (by decide), ql_ok (by omega) (by decide), e3]
          exact ⟨_, rfl, rfl⟩
