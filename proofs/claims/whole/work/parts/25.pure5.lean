/-! ring -/
theorem rem12 {i : Nat} (h : i < 2 ^ 31) : nI i - nI i / 12 * 12 = nI (i % 12) := by
  rw [show (12 : Int32) = nI 12 from rfl]
  exact pk_rem h (by decide) (by decide)
theorem hb_no {F : Nat → Int32} {G : Nat → Nat → Int32} {w : Nat} (hw : w ≤ 12) (hE : ∀ j, j < 144 → w ≤ j % 12 → G 30 j = -1) : ∀ n i, i ≤ 144 → 144 < i + n → f_X0_hasBeadsFrom_L2 F G (nI w) n (nI i) = some 0 := by
  intro n
  induction n with
  | zero => intro i h1 h2; omega
  | succ n ih =>
    intro i h1 h2
    show f_X0_hasBeadsFrom_L2_b (f_X0_hasBeadsFrom_L2 F G (nI w) n) F G (nI w) (nI i) = some 0
    unfold f_X0_hasBeadsFrom_L2_b
    by_cases hi : i < 144
    · rw [if_neg (show ¬ (144 : Int32) ≤ nI i from nI_ge hi (by decide)), rem12 (by omega)]
      simp only [f_X0_hasBeadsFrom_B29, qn]
      rw [nI_1, ih (i + 1) (by omega) (by omega)]
      by_cases hc : i % 12 < w
      · rw [if_pos (nI_lt hc (by omega))]
      · rw [if_neg (nI_nlt (by omega) (by omega)), ql_ok hi (by decide), if_pos (hE i hi (by omega))]
    · rw [if_pos (show (144 : Int32) ≤ nI i from nI_le (a := 144) (by omega) (by omega))]
theorem hb_yes {F : Nat → Int32} {G : Nat → Nat → Int32} {w : Nat} (hw : w ≤ 12) : ∀ n i, 144 < i + n → (∃ j, i ≤ j ∧ j < 144 ∧ w ≤ j % 12 ∧ ¬ G 30 j = -1) → f_X0_hasBeadsFrom_L2 F G (nI w) n (nI i) = some 1 := by
  intro n
  induction n with
  | zero => intro i h2 ⟨j, a, b, _⟩; omega
  | succ n ih =>
    intro i h2 ⟨j, h3, h4, h5, h6⟩
    show f_X0_hasBeadsFrom_L2_b (f_X0_hasBeadsFrom_L2 F G (nI w) n) F G (nI w) (nI i) = some 1
    unfold f_X0_hasBeadsFrom_L2_b
    rw [if_neg (show ¬ (144 : Int32) ≤ nI i from nI_ge (b := 144) (by omega) (by decide)), rem12 (by omega)]
    simp only [f_X0_hasBeadsFrom_B29, qn]
    rw [nI_1]
    by_cases hij : i = j
    · subst hij
      rw [if_neg (nI_nlt h5 (by omega)), ql_ok h4 (by decide), if_neg h6]
    · rw [ih (i + 1) (by omega) ⟨j, by omega, h4, h5, h6⟩]
      by_cases hc : i % 12 < w
      · rw [if_pos (nI_lt hc (by omega))]
      · rw [if_neg (nI_nlt (by omega) (by omega)), ql_ok (by omega) (by decide)]
        split <;> rfl
theorem ri_no {M : Nat → Int32} {N : Nat → Nat → Int32} {r : Nat} (x1 : Int32) (rec : (Nat → Int32) → (Nat → Nat → Int32) → Int32 → Option (Int32 × qS)) (hr : r < 12) : ∀ n k, k ≤ 12 → 12 < k + n → (∀ q, k ≤ q → q < 12 → N 0 (r * 12 + q) = -1) → f_X5_ring_L30 rec x1 n M N (nI r) (nI k) = rec M N (nI (r + 1)) := by
  intro n
  induction n with
  | zero => intro k h1 h2; omega
  | succ n ih =>
    intro k h1 h2 h3
    show f_X5_ring_L30_b rec (f_X5_ring_L30 rec x1 n) x1 M N (nI r) (nI k) = _
    unfold f_X5_ring_L30_b
    by_cases hk : k < 12
    · rw [if_neg (show ¬ (12 : Int32) ≤ nI k from nI_ge hk (by decide)), ix12m, ql_ok (by omega) (by decide), if_pos (h3 k (Nat.le_refl _) hk)]
      simp only [qn]
      rw [nI_1]
      exact ih (k + 1) (by omega) (by omega) (fun q a b => h3 q (by omega) b)
    · rw [if_pos (show (12 : Int32) ≤ nI k from nI_le (a := 12) (by omega) (by omega))]
      simp only [qn]
      rw [nI_1]
theorem ri_yes {M : Nat → Int32} {N : Nat → Nat → Int32} {r : Nat} (x1 : Int32) (rec : (Nat → Int32) → (Nat → Nat → Int32) → Int32 → Option (Int32 × qS)) (hr : r < 12) : ∀ n k, 12 < k + n → (∃ q, k ≤ q ∧ q < 12 ∧ ¬ N 0 (r * 12 + q) = -1) → f_X5_ring_L30 rec x1 n M N (nI r) (nI k) = some (0, M, N) := by
  intro n
  induction n with
  | zero => intro k h2 ⟨q, a, b, _⟩; omega
  | succ n ih =>
    intro k h2 ⟨q, h3, h4, h5⟩
    show f_X5_ring_L30_b rec (f_X5_ring_L30 rec x1 n) x1 M N (nI r) (nI k) = _
    unfold f_X5_ring_L30_b
    rw [if_neg (show ¬ (12 : Int32) ≤ nI k from nI_ge (b := 12) (by omega) (by decide)), ix12m, ql_ok (by omega) (by decide)]
    by_cases hv : N 0 (r * 12 + k) = -1
    · rw [if_pos hv]
      simp only [qn]
      rw [nI_1]
      have : ¬ k = q := fun z => h5 (by rw [← z]; exact hv)
      exact ih (k + 1) (by omega) ⟨q, by omega, h4, h5⟩
    · rw [if_neg hv]
theorem ro_no {M : Nat → Int32} {N : Nat → Nat → Int32} {w : Nat} (hw : 3 ≤ w ∧ w ≤ 12) (hE : ∀ r k, r < 12 → w ≤ k → k < 12 → N 0 (r * 12 + k) = -1) : ∀ n r, r ≤ 12 → 12 < r + n → f_X5_ring_L18 (nI w) n M N (nI r) = some (1, upd M 2 (nI w), N) := by
  intro n
  induction n with
  | zero => intro r h1 h2; omega
  | succ n ih =>
    intro r h1 h2
    show f_X5_ring_L18_b (f_X5_ring_L18 (nI w) n) (nI w) M N (nI r) = _
    unfold f_X5_ring_L18_b
    by_cases hr : r < 12
    · rw [if_neg (show ¬ (12 : Int32) ≤ nI r from nI_ge hr (by decide)), if_neg (nI_nle (by omega) (by omega)), ri_no _ _ hr 1000 w (by omega) (by omega) (fun q a b => hE r q hr a b)]
      exact ih (r + 1) (by omega) (by omega)
    · rw [if_pos (show (12 : Int32) ≤ nI r from nI_le (a := 12) (by omega) (by omega))]
      rfl
theorem ro_yes {M : Nat → Int32} {N : Nat → Nat → Int32} {w : Nat} (hw : 3 ≤ w ∧ w ≤ 12) : ∀ n r, 12 < r + n → (∃ q k, r ≤ q ∧ q < 12 ∧ w ≤ k ∧ k < 12 ∧ ¬ N 0 (q * 12 + k) = -1) → f_X5_ring_L18 (nI w) n M N (nI r) = some (0, M, N) := by
  intro n
  induction n with
  | zero => intro r h2 ⟨q, k, a, b, _⟩; omega
  | succ n ih =>
    intro r h2 ⟨q, k, h3, h4, h5, h6, h7⟩
    show f_X5_ring_L18_b (f_X5_ring_L18 (nI w) n) (nI w) M N (nI r) = _
    unfold f_X5_ring_L18_b
    rw [if_neg (show ¬ (12 : Int32) ≤ nI r from nI_ge (b := 12) (by omega) (by decide)), if_neg (nI_nle (by omega) (by omega))]
    by_cases hE : ∃ k, w ≤ k ∧ k < 12 ∧ ¬ N 0 (r * 12 + k) = -1
    · exact ri_yes _ _ (by omega) 1000 w (by omega) hE
    · rw [ri_no _ _ (by omega) 1000 w (by omega) (by omega) (fun q a b => Classical.byContradiction fun z => hE ⟨q, a, b, z⟩)]
      have : ¬ r = q := fun z => hE ⟨k, h5, h6, by rw [z]; exact h7⟩
      exact ih (r + 1) (by omega) ⟨q, k, by omega, h4, h5, h6, h7⟩
theorem p_ring : lh_ring Rl := by
  intro F G M N h a1
  have hh := h
  obtain ⟨⟨⟨g30, g31, g32, g33⟩, ⟨h34, h35, h36, h37⟩, cv1, cv2, cv3, cv4, cv5⟩, hD⟩ := h
  have set : ∀ w : Nat, (w = 0 ∨ (3 ≤ w ∧ w ≤ 12)) → (w ≠ 0 → ∀ r k, r < 12 → w ≤ k → k < 12 → G 30 (r * 12 + k) = -1) → Rl (upd F 35 (nI w)) G (upd M 2 (nI w)) N := by
    intro w hw hring
    refine ⟨⟨⟨g30, g31, g32, g33⟩, ⟨?_, ?_, ?_, ?_⟩, cv1, cv2, ?_, ⟨w, hw, ?_, hring⟩, ?_⟩, ?_⟩
    · rw [upd_n _ _ (by decide), upd_n _ _ (by decide), h34]
    · rw [upd_s, upd_s]
    · rw [upd_n _ _ (by decide), upd_n _ _ (by decide), h36]
    · rw [upd_n _ _ (by decide), upd_n _ _ (by decide), h37]
    · rw [upd_n _ _ (by decide)]
      exact cv3
    · rw [upd_s]
    · rw [upd_n _ _ (by decide)]
      exact cv5
    · exact RD_k hD (fun k hk => upd_n _ _ (by omega)) (fun _ _ => rfl) (fun k hk _ => upd_n _ _ (by omega)) (fun _ _ _ => rfl)
  unfold f_X4_ring f_X5_ring
  simp only [in_wi]
  by_cases h0 : a1 = 0
  · subst h0
    rw [if_pos rfl, if_pos rfl]
    exact ⟨1, _, G, _, N, rfl, rfl, set 0 (Or.inl rfl) (fun z => absurd rfl z)⟩
  · rw [if_neg h0, if_neg h0]
    rcases wi_n a1 3 12 3 12 rfl rfl (by decide) (by decide) with h | ⟨h, w, h1, h2, rfl⟩
    · rw [h]
      exact ⟨0, F, G, M, N, rfl, rfl, hh⟩
    · rw [h]
      simp only [qc_s, if_neg e10]
      unfold f_X0_hasBeadsFrom f_X5_ring_B16
      simp only [qn]
      rw [show (0 : Int32) = nI 0 from rfl]
      by_cases hE : ∃ r k, r < 12 ∧ w ≤ k ∧ k < 12 ∧ ¬ N 0 (r * 12 + k) = -1
      · obtain ⟨r, k, q1, q2, q3, q4⟩ := hE
        rw [hb_yes h2 1000 0 (by decide) ⟨r * 12 + k, by omega, by omega, by omega, by rw [g30]; exact q4⟩, ro_yes ⟨h1, h2⟩ 1000 0 (by decide) ⟨r, k, by omega, q1, q2, q3, q4⟩, qc_s, if_neg (show ¬ (1 : Int32) = nI 0 by decide)]
        exact ⟨0, F, G, M, N, rfl, rfl, hh⟩
      · have hE2 : ∀ r k, r < 12 → w ≤ k → k < 12 → N 0 (r * 12 + k) = -1 := fun r k q1 q2 q3 => Classical.byContradiction fun z => hE ⟨r, k, q1, q2, q3, z⟩
        rw [hb_no h2 (fun j hj hm => by
          have e := hE2 (j / 12) (j % 12) (by omega) hm (by omega)
          rw [g30, show j = j / 12 * 12 + j % 12 by omega]
          exact e) 1000 0 (by decide) (by decide), ro_no ⟨h1, h2⟩ hE2 1000 0 (by decide) (by decide), qc_s, if_pos (show (0 : Int32) = nI 0 from rfl)]
        exact ⟨1, _, G, _, N, rfl, rfl, set w (Or.inr ⟨h1, h2⟩) (fun _ => by rw [g30]; exact hE2)⟩
