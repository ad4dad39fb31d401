/-! what was worked is kept -/
def cp (N : Nat → Nat → Int32) (a b i : Nat) : Nat → Nat → Int32 := qG N b i (N a i)
theorem cp_n {N : Nat → Nat → Int32} {a b i q : Nat} (h : q ≠ b) : cp N a b i q = N q := qG_n _ _ _ h
theorem cp_s {N : Nat → Nat → Int32} {a b i : Nat} : cp N a b i b = upd (N b) i (N a i) := qG_s _ _ _ _
theorem k181 {M : Nat → Int32} : ∀ (f i : Nat) (N : Nat → Nat → Int32), i ≤ 900 → 900 < i + f → (∀ j, j < i → N 46 j = N 22 j) → ∃ N' : Nat → Nat → Int32, f_X5_keeps_L181 f M N (nI i) = some (M, N') ∧ (∀ q, q ≠ 46 → N' q = N q) ∧ (∀ j, j < 900 → N' 46 j = N 22 j) := by
  intro f
  induction f with
  | zero => intro i N h1 h2; omega
  | succ f ih =>
    intro i N h1 h2 h3
    show ∃ N' : Nat → Nat → Int32, f_X5_keeps_L181_b (f_X5_keeps_L181 f) M N (nI i) = _ ∧ _
    unfold f_X5_keeps_L181_b
    by_cases hi : i < 900
    · rw [if_neg (show ¬ (900 : Int32) ≤ nI i from nI_ge (b := 900) hi (by decide)), ql_ok hi (by decide), qs_ok hi (by decide), qn_e, nI_1]
      obtain ⟨N', a1, a2, a3⟩ := ih (i + 1) (qG N 46 i (N 22 i)) (by omega) (by omega) (fun j hj => by
        rw [qG_s, qG_n _ _ _ (by decide)]
        by_cases e : j = i
        · rw [e, upd_s]
        · rw [upd_n _ _ e]
          exact h3 j (by omega))
      rw [qG_n _ _ _ (by decide)] at a3
      exact ⟨N', a1, fun q hq => by rw [a2 q hq, qG_n _ _ _ hq], a3⟩
    · have e : i = 900 := by omega
      subst e
      rw [if_pos (by decide)]
      exact ⟨N, rfl, fun _ _ => rfl, h3⟩
theorem k154 {M : Nat → Int32} : ∀ (f i : Nat) (N : Nat → Nat → Int32), i ≤ 150 → 150 < i + f → (∀ j, j < i → N 45 j = N 21 j) → ∃ N' : Nat → Nat → Int32, f_X5_keeps_L154 f M N (nI i) = some (M, N') ∧ (∀ q, q ≠ 45 → q ≠ 46 → N' q = N q) ∧ (∀ j, j < 150 → N' 45 j = N 21 j) ∧ (∀ j, j < 900 → N' 46 j = N 22 j) := by
  intro f
  induction f with
  | zero => intro i N h1 h2; omega
  | succ f ih =>
    intro i N h1 h2 h3
    show ∃ N' : Nat → Nat → Int32, f_X5_keeps_L154_b (f_X5_keeps_L154 f) M N (nI i) = _ ∧ _
    unfold f_X5_keeps_L154_b
    by_cases hi : i < 150
    · rw [if_neg (show ¬ (150 : Int32) ≤ nI i from nI_ge (b := 150) hi (by decide)), ql_ok hi (by decide), qs_ok hi (by decide), qn_e, nI_1]
      obtain ⟨N', a1, a2, a3, a4⟩ := ih (i + 1) (qG N 45 i (N 21 i)) (by omega) (by omega) (fun j hj => by
        rw [qG_s, qG_n _ _ _ (by decide)]
        by_cases e : j = i
        · rw [e, upd_s]
        · rw [upd_n _ _ e]
          exact h3 j (by omega))
      rw [qG_n _ _ _ (by decide)] at a3
      rw [qG_n _ _ _ (by decide)] at a4
      exact ⟨N', a1, fun q hq h6 => by rw [a2 q hq h6, qG_n _ _ _ hq], a3, a4⟩
    · have e : i = 150 := by omega
      subst e
      rw [if_pos (by decide), qn_e]
      obtain ⟨N', a1, a2, a3⟩ := k181 (M := M) 1000 0 N (by decide) (by decide) (fun j hj => absurd hj (Nat.not_lt_zero j))
      exact ⟨N', a1, fun q h5 h6 => a2 q h6, fun j hj => by rw [a2 45 (by decide)]; exact h3 j hj, a3⟩
theorem k55 {M : Nat → Int32} : ∀ (f i : Nat) (N : Nat → Nat → Int32), i ≤ 144 → 144 < i + f → (∀ j, j < i → N 44 j = N 15 j ∧ N 38 j = N 9 j ∧ N 39 j = N 10 j ∧ N 40 j = N 11 j ∧ N 41 j = N 12 j ∧ N 42 j = N 13 j ∧ N 43 j = N 14 j) → ∃ N' : Nat → Nat → Int32, f_X5_keeps_L55 f M N (nI i) = some (M, N') ∧ (∀ q, q < 38 ∨ 46 < q → N' q = N q) ∧ (∀ j, j < 144 → N' 44 j = N 15 j ∧ N' 38 j = N 9 j ∧ N' 39 j = N 10 j ∧ N' 40 j = N 11 j ∧ N' 41 j = N 12 j ∧ N' 42 j = N 13 j ∧ N' 43 j = N 14 j) ∧ (∀ j, j < 150 → N' 45 j = N 21 j) ∧ (∀ j, j < 900 → N' 46 j = N 22 j) := by
  intro f
  induction f with
  | zero => intro i N h1 h2; omega
  | succ f ih =>
    intro i N h1 h2 h3
    show ∃ N' : Nat → Nat → Int32, f_X5_keeps_L55_b (f_X5_keeps_L55 f) M N (nI i) = _ ∧ _
    unfold f_X5_keeps_L55_b
    by_cases hi : i < 144
    · obtain ⟨T, hT⟩ : ∃ T, T = (cp (cp (cp (cp (cp (cp (cp N 15 44 i) 9 38 i) 10 39 i) 11 40 i) 12 41 i) 13 42 i) 14 43 i) := ⟨_, rfl⟩
      have eT : (ql (N 15) 144 (nI i) fun v9 => qs N 44 144 (nI i) v9 fun G10 => ql (G10 9) 144 (nI i) fun v11 => qs G10 38 144 (nI i) v11 fun G12 => ql (G12 10) 144 (nI i) fun v13 => qs G12 39 144 (nI i) v13 fun G14 => ql (G14 11) 144 (nI i) fun v15 => qs G14 40 144 (nI i) v15 fun G16 => ql (G16 12) 144 (nI i) fun v17 => qs G16 41 144 (nI i) v17 fun G18 => ql (G18 13) 144 (nI i) fun v19 => qs G18 42 144 (nI i) v19 fun G20 => ql (G20 14) 144 (nI i) fun v21 => qs G20 43 144 (nI i) v21 fun G22 => qn (nI i + (1 : Int32)) fun v23 => f_X5_keeps_L55 f M G22 v23) = f_X5_keeps_L55 f M T (nI (i + 1)) := by
        rw [ql_ok hi (by decide), qs_ok hi (by decide), ql_ok hi (by decide), qs_ok hi (by decide), ql_ok hi (by decide), qs_ok hi (by decide), ql_ok hi (by decide), qs_ok hi (by decide), ql_ok hi (by decide), qs_ok hi (by decide), ql_ok hi (by decide), qs_ok hi (by decide), ql_ok hi (by decide), qs_ok hi (by decide), qn_e, nI_1, hT]
        rfl
      rw [if_neg (show ¬ (144 : Int32) ≤ nI i from nI_ge (b := 144) hi (by decide)), eT]
      have t44 : T 44 = upd (N 44) i (N 15 i) := by
        rw [hT, cp_n (q := 44) (b := 43) (by decide), cp_n (q := 44) (b := 42) (by decide), cp_n (q := 44) (b := 41) (by decide), cp_n (q := 44) (b := 40) (by decide), cp_n (q := 44) (b := 39) (by decide), cp_n (q := 44) (b := 38) (by decide), cp_s]
      have s15 : T 15 = N 15 := by
        rw [hT, cp_n (q := 15) (b := 43) (by decide), cp_n (q := 15) (b := 42) (by decide), cp_n (q := 15) (b := 41) (by decide), cp_n (q := 15) (b := 40) (by decide), cp_n (q := 15) (b := 39) (by decide), cp_n (q := 15) (b := 38) (by decide), cp_n (q := 15) (b := 44) (by decide)]
      have t38 : T 38 = upd (N 38) i (N 9 i) := by
        rw [hT, cp_n (q := 38) (b := 43) (by decide), cp_n (q := 38) (b := 42) (by decide), cp_n (q := 38) (b := 41) (by decide), cp_n (q := 38) (b := 40) (by decide), cp_n (q := 38) (b := 39) (by decide), cp_s, cp_n (q := 38) (b := 44) (by decide), cp_n (q := 9) (b := 44) (by decide)]
      have s9 : T 9 = N 9 := by
        rw [hT, cp_n (q := 9) (b := 43) (by decide), cp_n (q := 9) (b := 42) (by decide), cp_n (q := 9) (b := 41) (by decide), cp_n (q := 9) (b := 40) (by decide), cp_n (q := 9) (b := 39) (by decide), cp_n (q := 9) (b := 38) (by decide), cp_n (q := 9) (b := 44) (by decide)]
      have t39 : T 39 = upd (N 39) i (N 10 i) := by
        rw [hT, cp_n (q := 39) (b := 43) (by decide), cp_n (q := 39) (b := 42) (by decide), cp_n (q := 39) (b := 41) (by decide), cp_n (q := 39) (b := 40) (by decide), cp_s, cp_n (q := 39) (b := 38) (by decide), cp_n (q := 39) (b := 44) (by decide), cp_n (q := 10) (b := 38) (by decide), cp_n (q := 10) (b := 44) (by decide)]
      have s10 : T 10 = N 10 := by
        rw [hT, cp_n (q := 10) (b := 43) (by decide), cp_n (q := 10) (b := 42) (by decide), cp_n (q := 10) (b := 41) (by decide), cp_n (q := 10) (b := 40) (by decide), cp_n (q := 10) (b := 39) (by decide), cp_n (q := 10) (b := 38) (by decide), cp_n (q := 10) (b := 44) (by decide)]
      have t40 : T 40 = upd (N 40) i (N 11 i) := by
        rw [hT, cp_n (q := 40) (b := 43) (by decide), cp_n (q := 40) (b := 42) (by decide), cp_n (q := 40) (b := 41) (by decide), cp_s, cp_n (q := 40) (b := 39) (by decide), cp_n (q := 40) (b := 38) (by decide), cp_n (q := 40) (b := 44) (by decide), cp_n (q := 11) (b := 39) (by decide), cp_n (q := 11) (b := 38) (by decide), cp_n (q := 11) (b := 44) (by decide)]
      have s11 : T 11 = N 11 := by
        rw [hT, cp_n (q := 11) (b := 43) (by decide), cp_n (q := 11) (b := 42) (by decide), cp_n (q := 11) (b := 41) (by decide), cp_n (q := 11) (b := 40) (by decide), cp_n (q := 11) (b := 39) (by decide), cp_n (q := 11) (b := 38) (by decide), cp_n (q := 11) (b := 44) (by decide)]
      have t41 : T 41 = upd (N 41) i (N 12 i) := by
        rw [hT, cp_n (q := 41) (b := 43) (by decide), cp_n (q := 41) (b := 42) (by decide), cp_s, cp_n (q := 41) (b := 40) (by decide), cp_n (q := 41) (b := 39) (by decide), cp_n (q := 41) (b := 38) (by decide), cp_n (q := 41) (b := 44) (by decide), cp_n (q := 12) (b := 40) (by decide), cp_n (q := 12) (b := 39) (by decide), cp_n (q := 12) (b := 38) (by decide), cp_n (q := 12) (b := 44) (by decide)]
      have s12 : T 12 = N 12 := by
        rw [hT, cp_n (q := 12) (b := 43) (by decide), cp_n (q := 12) (b := 42) (by decide), cp_n (q := 12) (b := 41) (by decide), cp_n (q := 12) (b := 40) (by decide), cp_n (q := 12) (b := 39) (by decide), cp_n (q := 12) (b := 38) (by decide), cp_n (q := 12) (b := 44) (by decide)]
      have t42 : T 42 = upd (N 42) i (N 13 i) := by
        rw [hT, cp_n (q := 42) (b := 43) (by decide), cp_s, cp_n (q := 42) (b := 41) (by decide), cp_n (q := 42) (b := 40) (by decide), cp_n (q := 42) (b := 39) (by decide), cp_n (q := 42) (b := 38) (by decide), cp_n (q := 42) (b := 44) (by decide), cp_n (q := 13) (b := 41) (by decide), cp_n (q := 13) (b := 40) (by decide), cp_n (q := 13) (b := 39) (by decide), cp_n (q := 13) (b := 38) (by decide), cp_n (q := 13) (b := 44) (by decide)]
      have s13 : T 13 = N 13 := by
        rw [hT, cp_n (q := 13) (b := 43) (by decide), cp_n (q := 13) (b := 42) (by decide), cp_n (q := 13) (b := 41) (by decide), cp_n (q := 13) (b := 40) (by decide), cp_n (q := 13) (b := 39) (by decide), cp_n (q := 13) (b := 38) (by decide), cp_n (q := 13) (b := 44) (by decide)]
      have t43 : T 43 = upd (N 43) i (N 14 i) := by
        rw [hT, cp_s, cp_n (q := 43) (b := 42) (by decide), cp_n (q := 43) (b := 41) (by decide), cp_n (q := 43) (b := 40) (by decide), cp_n (q := 43) (b := 39) (by decide), cp_n (q := 43) (b := 38) (by decide), cp_n (q := 43) (b := 44) (by decide), cp_n (q := 14) (b := 42) (by decide), cp_n (q := 14) (b := 41) (by decide), cp_n (q := 14) (b := 40) (by decide), cp_n (q := 14) (b := 39) (by decide), cp_n (q := 14) (b := 38) (by decide), cp_n (q := 14) (b := 44) (by decide)]
      have s14 : T 14 = N 14 := by
        rw [hT, cp_n (q := 14) (b := 43) (by decide), cp_n (q := 14) (b := 42) (by decide), cp_n (q := 14) (b := 41) (by decide), cp_n (q := 14) (b := 40) (by decide), cp_n (q := 14) (b := 39) (by decide), cp_n (q := 14) (b := 38) (by decide), cp_n (q := 14) (b := 44) (by decide)]
      have s21 : T 21 = N 21 := by
        rw [hT, cp_n (q := 21) (b := 43) (by decide), cp_n (q := 21) (b := 42) (by decide), cp_n (q := 21) (b := 41) (by decide), cp_n (q := 21) (b := 40) (by decide), cp_n (q := 21) (b := 39) (by decide), cp_n (q := 21) (b := 38) (by decide), cp_n (q := 21) (b := 44) (by decide)]
      have s22 : T 22 = N 22 := by
        rw [hT, cp_n (q := 22) (b := 43) (by decide), cp_n (q := 22) (b := 42) (by decide), cp_n (q := 22) (b := 41) (by decide), cp_n (q := 22) (b := 40) (by decide), cp_n (q := 22) (b := 39) (by decide), cp_n (q := 22) (b := 38) (by decide), cp_n (q := 22) (b := 44) (by decide)]
      obtain ⟨N', a1, a2, a3, a4, a5⟩ := ih (i + 1) T (by omega) (by omega) (fun j hj => by
        by_cases e : j = i
        · exact ⟨by rw [t44, s15, e, upd_s], by rw [t38, s9, e, upd_s], by rw [t39, s10, e, upd_s], by rw [t40, s11, e, upd_s], by rw [t41, s12, e, upd_s], by rw [t42, s13, e, upd_s], by rw [t43, s14, e, upd_s]⟩
        · have h3 := h3 j (by omega)
          exact ⟨by rw [t44, s15, upd_n _ _ e]; exact h3.1, by rw [t38, s9, upd_n _ _ e]; exact h3.2.1, by rw [t39, s10, upd_n _ _ e]; exact h3.2.2.1, by rw [t40, s11, upd_n _ _ e]; exact h3.2.2.2.1, by rw [t41, s12, upd_n _ _ e]; exact h3.2.2.2.2.1, by rw [t42, s13, upd_n _ _ e]; exact h3.2.2.2.2.2.1, by rw [t43, s14, upd_n _ _ e]; exact h3.2.2.2.2.2.2⟩)
      rw [s21] at a4
      rw [s22] at a5
      refine ⟨N', a1, fun q hq => ?_, fun j hj => ⟨by rw [← s15]; exact (a3 j hj).1, by rw [← s9]; exact (a3 j hj).2.1, by rw [← s10]; exact (a3 j hj).2.2.1, by rw [← s11]; exact (a3 j hj).2.2.2.1, by rw [← s12]; exact (a3 j hj).2.2.2.2.1, by rw [← s13]; exact (a3 j hj).2.2.2.2.2.1, by rw [← s14]; exact (a3 j hj).2.2.2.2.2.2⟩, a4, a5⟩
      rw [a2 q hq, hT, cp_n (by omega), cp_n (by omega), cp_n (by omega), cp_n (by omega), cp_n (by omega), cp_n (by omega), cp_n (by omega)]
    · have e : i = 144 := by omega
      subst e
      rw [if_pos (by decide), qn_e]
      obtain ⟨N', a1, a2, a3, a4⟩ := k154 (M := M) 1000 0 N (by decide) (by decide) (fun j hj => absurd hj (Nat.not_lt_zero j))
      refine ⟨N', a1, fun q hq => a2 q (by omega) (by omega), fun j hj => ?_, a3, a4⟩
      rw [a2 44 (by decide) (by decide), a2 38 (by decide) (by decide), a2 39 (by decide) (by decide), a2 40 (by decide) (by decide), a2 41 (by decide) (by decide), a2 42 (by decide) (by decide), a2 43 (by decide) (by decide)]
      exact h3 j hj
theorem keep_eq {n p wv : Nat} {F' G' M' N'} {F1 : Nat → Int32} {G1 : Nat → Nat → Int32} (rc : RC F1 G1 M' N') (wt : WT n p wv F' G' M' N') (hF : ∀ q, q ≤ 18 → F1 q = F' q) (hG : ∀ q, q ≤ 7 → G1 q = G' q) : ∃ (M2 : Nat → Int32) (N2 : Nat → Nat → Int32), f_X5_keeps M' N' = some (M2, N2) ∧ Rl F1 G1 M2 N2 ∧ M2 32 = F' 11 := by
  obtain ⟨a, b, c, d, e, f, g, w⟩ := wt
  obtain ⟨M2, hM2⟩ : ∃ M2, M2 = upd (upd (upd (upd (upd (upd (upd M' 31 1) 32 (M' 8)) 33 (M' 16)) 34 (M' 17)) 35 (M' 18)) 36 (M' 19)) 37 (M' 20) := ⟨_, rfl⟩
  obtain ⟨N2, k1, k2, k3, k4, k5⟩ := k55 (M := M2) 1000 0 N' (by decide) (by decide) (fun j hj => absurd hj (Nat.not_lt_zero j))
  have ek : f_X5_keeps M' N' = some (M2, N2) := by
    unfold f_X5_keeps
    rw [qf_e, qf_e, qf_e, qf_e, qf_e, qf_e, qf_e, qn_e, upd_n _ _ (show 8 ≠ 31 by decide), upd_n _ _ (show 16 ≠ 32 by decide), upd_n _ _ (show 16 ≠ 31 by decide), upd_n _ _ (show 17 ≠ 33 by decide), upd_n _ _ (show 17 ≠ 32 by decide), upd_n _ _ (show 17 ≠ 31 by decide), upd_n _ _ (show 18 ≠ 34 by decide), upd_n _ _ (show 18 ≠ 33 by decide), upd_n _ _ (show 18 ≠ 32 by decide), upd_n _ _ (show 18 ≠ 31 by decide), upd_n _ _ (show 19 ≠ 35 by decide), upd_n _ _ (show 19 ≠ 34 by decide), upd_n _ _ (show 19 ≠ 33 by decide), upd_n _ _ (show 19 ≠ 32 by decide), upd_n _ _ (show 19 ≠ 31 by decide), upd_n _ _ (show 20 ≠ 36 by decide), upd_n _ _ (show 20 ≠ 35 by decide), upd_n _ _ (show 20 ≠ 34 by decide), upd_n _ _ (show 20 ≠ 33 by decide), upd_n _ _ (show 20 ≠ 32 by decide), upd_n _ _ (show 20 ≠ 31 by decide), ← hM2]
    exact k1
  have u31 : M2 31 = 1 := by rw [hM2, upd_n _ _ (by decide), upd_n _ _ (by decide), upd_n _ _ (by decide), upd_n _ _ (by decide), upd_n _ _ (by decide), upd_n _ _ (by decide), upd_s]
  have u32 : M2 32 = M' 8 := by rw [hM2, upd_n _ _ (by decide), upd_n _ _ (by decide), upd_n _ _ (by decide), upd_n _ _ (by decide), upd_n _ _ (by decide), upd_s]
  have u33 : M2 33 = M' 16 := by rw [hM2, upd_n _ _ (by decide), upd_n _ _ (by decide), upd_n _ _ (by decide), upd_n _ _ (by decide), upd_s]
  have u34 : M2 34 = M' 17 := by rw [hM2, upd_n _ _ (by decide), upd_n _ _ (by decide), upd_n _ _ (by decide), upd_s]
  have u35 : M2 35 = M' 18 := by rw [hM2, upd_n _ _ (by decide), upd_n _ _ (by decide), upd_s]
  have u36 : M2 36 = M' 19 := by rw [hM2, upd_n _ _ (by decide), upd_s]
  have u37 : M2 37 = M' 20 := by rw [hM2, upd_s]
  have uq : ∀ q, q < 31 → M2 q = M' q := fun q hq => by rw [hM2, upd_n _ _ (by omega), upd_n _ _ (by omega), upd_n _ _ (by omega), upd_n _ _ (by omega), upd_n _ _ (by omega), upd_n _ _ (by omega), upd_n _ _ (by omega)]
  refine ⟨M2, N2, ek, ⟨?_, ?_, n, p, wv, a, ⟨?_, ?_⟩, ⟨?_, ?_⟩, ?_, fun z => ?_, fun _ => ⟨?_, ?_, ?_, ?_⟩, ?_, ?_⟩, ?_⟩
  · unfold RC at rc ⊢
    rw [uq 1 (by decide), uq 2 (by decide), uq 6 (by decide), uq 7 (by decide), k2 0 (by decide), k2 3 (by decide), k2 4 (by decide), k2 5 (by decide)]
    exact rc
  · rw [hF 10 (by decide), e, u31]
  · rw [hF 11 (by decide), b.1]
  · rw [u32, b.2]
  · rw [hF 14 (by decide), c.1]
  · rw [u35, c.2]
  · rw [hF 18 (by decide), d]
  · rw [hF 10 (by decide), e] at z
    exact absurd z e10
  · rw [hF 12 (by decide), u33, f.1]
  · rw [hF 13 (by decide), u34, f.2.1]
  · rw [hF 15 (by decide), u36, f.2.2.1]
  · rw [hF 16 (by decide), u37, f.2.2.2]
  · rw [hF 17 (by decide), g]
    exact smI_cong (fun j hj => ((k3 j (by omega)).2.2.2.1).symm)
  · rw [hG 0 (by decide), hG 1 (by decide), hG 2 (by decide), hG 3 (by decide), hG 4 (by decide), hG 5 (by decide), hG 6 (by decide), hG 7 (by decide)]
    obtain ⟨wa, wb, wc, wd, we⟩ := w
    refine ⟨fun k hk => ?_, fun x hx => ?_, fun q q1 q2 => ⟨?_, fun i hi => ?_⟩, fun z => ?_, we⟩
    · obtain ⟨z44, z38, z39, z40, z41, z42, z43⟩ := k3 k (by omega)
      rw [z38, z39, z40, z41, z42, z43]
      exact wa k hk
    · rw [(k3 x hx).1]
      exact wb x hx
    · rw [k4 q (by omega)]
      exact (wc q q1 q2).1
    · rw [k5 _ (by omega)]
      exact (wc q q1 q2).2 i hi
    · rw [k4 0 (by decide)]
      exact wd z
  · rw [u32, b.2, b.1]
theorem p_work : lh_work Rl := by
  intro F G M N h a1
  unfold f_X4_work f_X5_work
  simp only [in_wi]
  rcases wi_n a1 0 3 0 3 rfl rfl (by decide) (by decide) with z | ⟨z, -⟩
  · rw [z]
    exact ⟨-1, F, G, M, N, rfl, rfl, h⟩
  · rw [z, qc_s, qc_s, if_neg e10, if_neg e10]
    obtain ⟨F', G', M', N', b1, b2, b3, b4, n, p, wv, b5⟩ := fol_eq h.1 a1
    have kf : KF F G (mx k_kw F F') (mx k_kw G G') := ⟨fun q hq => by
      by_cases y : k_kw q = true
      · rw [mx_y y, b3.1 q hq]
      · rw [mx_n (Bool.eq_false_iff.mpr y)], fun q hq => by
      by_cases y : k_kw q = true
      · rw [mx_y y, b3.2 q hq]
      · rw [mx_n (Bool.eq_false_iff.mpr y)]⟩
    have low : ∀ q, q ≤ 18 → k_kw q = true := by decide
    obtain ⟨M2, N2, c1, c2, c3⟩ := keep_eq (RC_k h.1 kf b4) b5 (fun q hq => mx_y (low q hq)) (fun q hq => mx_y (low q (by omega)))
    rw [b1, qc_s, b2, qc_s]
    dsimp only
    rw [qx_e, c1, qc_s]
    dsimp only
    refine ⟨_, _, _, _, _, rfl, ?_, c2⟩
    rw [c3, mx_y (low 11 (by decide))]
