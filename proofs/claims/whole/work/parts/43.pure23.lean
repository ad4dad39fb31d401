/-! the best of four begins -/
theorem RC_c {F G M N F1 G1 M1 N1} (h : RC F G M N) (a : ∀ q, 30 ≤ q → q ≤ 37 → F1 q = F q) (a2 : ∀ q, 30 ≤ q → q ≤ 37 → G1 q = G q) (b : KM M N M1 N1) : RC F1 G1 M1 N1 := by
  unfold RC CV at h ⊢
  rw [a 34 (by decide) (by decide), a 35 (by decide) (by decide), a 36 (by decide) (by decide), a 37 (by decide) (by decide), a2 30 (by decide) (by decide), a2 31 (by decide) (by decide), a2 32 (by decide) (by decide), a2 33 (by decide) (by decide), b.1 1 (by decide), b.1 2 (by decide), b.1 6 (by decide), b.1 7 (by decide), b.2 0 (by decide), b.2 3 (by decide), b.2 4 (by decide), b.2 5 (by decide)]
  exact h
theorem qt_e {β : Type} (F : Nat → Int32) (G : Nat → Nat → Int32) (Fa : Nat → Int32) (Ga : Nat → Nat → Int32) (k : (Nat → Int32) → (Nat → Nat → Int32) → Option β) : qt F G Fa Ga k = k (mtr F Fa) (mtr G Ga) := by
  unfold qt
  rfl
theorem sw_c {q : Nat} (h1 : 30 ≤ q) (h2 : q ≤ 37) : sw q = q := by
  unfold sw
  rw [if_neg (by rw [Nat.ble_eq]; omega), if_neg (by rw [Bool.and_eq_true, Nat.ble_eq, Nat.ble_eq]; omega)]
theorem sw_l {q : Nat} (h : q ≤ 22) : sw q = q + 50 := by
  unfold sw
  rw [if_pos (by rw [Nat.ble_eq]; omega)]
theorem k_ch_c {q : Nat} (h1 : 30 ≤ q) (h2 : q ≤ 37) : k_ch q = true := by
  unfold k_ch
  rw [Bool.and_eq_true, Nat.ble_eq, Nat.ble_eq]
  omega
theorem mtr_c {α : Type} {F Fa : Nat → α} {q : Nat} (h1 : 30 ≤ q) (h2 : q ≤ 37) : mtr F Fa q = Fa q := by
  unfold mtr
  rw [if_pos (k_ch_c h1 h2)]
theorem mtr_l {α : Type} {F Fa : Nat → α} {q : Nat} (h : q ≤ 22) : mtr F Fa q = F q := by
  unfold mtr
  have z : ¬ k_ch q = true := by
    unfold k_ch
    rw [Bool.and_eq_true, Nat.ble_eq, Nat.ble_eq]
    omega
  rw [if_neg z, if_neg (by rw [Bool.and_eq_true, Nat.ble_eq, Nat.ble_eq]; omega)]
theorem mtr_h {α : Type} {F Fa : Nat → α} {q : Nat} (h : q ≤ 22) : mtr F Fa (q + 50) = Fa q := by
  unfold mtr
  have z : ¬ k_ch (q + 50) = true := by
    unfold k_ch
    rw [Bool.and_eq_true, Nat.ble_eq, Nat.ble_eq]
    omega
  rw [if_neg z, if_pos (by rw [Bool.and_eq_true, Nat.ble_eq, Nat.ble_eq]; omega), Nat.add_sub_cancel]
/-- what best has so far -/
def BT (F : Nat → Int32) (G : Nat → Nat → Int32) (M : Nat → Int32) (N : Nat → Nat → Int32) (x1 x2 x3 : Int32) : Prop :=
  (x1 = -1 ∧ RD F G M N) ∨ (∃ b0 : Nat, b0 < 4 ∧ x1 = nI b0 ∧ ∃ (Fb : Nat → Int32) (Gb : Nat → Nat → Int32) (F' : Nat → Int32) (G' : Nat → Nat → Int32), RC Fb Gb M N ∧ f_X3_follow Fb Gb (nI b0) = some (F', G') ∧ (∀ q, q ≤ 18 → F q = F' q) ∧ (∀ q, q ≤ 7 → G q = G' q) ∧ x2 = F 14 ∧ x3 = F 15)
theorem best_lp : ∀ (f i : Nat) (F : Nat → Int32) (G : Nat → Nat → Int32) (M : Nat → Int32) (N : Nat → Nat → Int32) (x1 x2 x3 : Int32), i ≤ 4 → 4 < i + f → RC F G M N → BT F G M N x1 x2 x3 → ∃ (r : Int32) (F1 : Nat → Int32) (G1 : Nat → Nat → Int32) (M1 : Nat → Int32) (N1 : Nat → Nat → Int32), f_X4_best_L4 f F G x1 (nI i) = some (r, F1, G1) ∧ f_X5_best_L9 f M N x1 x2 x3 (nI i) = some (r, M1, N1) ∧ Rl F1 G1 M1 N1 := by
  intro f
  induction f with
  | zero => intro i F G M N x1 x2 x3 h1 h2; omega
  | succ f ih =>
    intro i F G M N x1 x2 x3 h1 h2 rc bt
    show ∃ (r : Int32) (F1 : Nat → Int32) (G1 : Nat → Nat → Int32) (M1 : Nat → Int32) (N1 : Nat → Nat → Int32), f_X4_best_L4_b (f_X4_best_L4 f) F G x1 (nI i) = some (r, F1, G1) ∧ f_X5_best_L9_b (f_X5_best_L9 f) M N x1 x2 x3 (nI i) = some (r, M1, N1) ∧ _
    unfold f_X4_best_L4_b f_X5_best_L9_b
    by_cases hi : i < 4
    · rw [if_neg (show ¬ (4 : Int32) ≤ nI i from nI_ge (b := 4) hi (by decide)), if_neg (show ¬ (4 : Int32) ≤ nI i from nI_ge (b := 4) hi (by decide))]
      have rcs : RC (swF F) (swF G) M N := RC_c rc (fun q q1 q2 => by unfold swF; rw [sw_c q1 q2]) (fun q q1 q2 => by unfold swF; rw [sw_c q1 q2]) KM.rf
      obtain ⟨Fa, Ga, M', N', b1, b2, b3, b4, n, p, wv, b5⟩ := fol_eq rcs (nI i)
      rw [b1, qc_s, b2, qc_s]
      dsimp only
      rw [qt_e]
      obtain ⟨F1, hF1⟩ : ∃ F1, F1 = mtr F Fa := ⟨_, rfl⟩
      obtain ⟨G1, hG1⟩ : ∃ G1, G1 = mtr G Ga := ⟨_, rfl⟩
      rw [← hF1, ← hG1]
      have fl : ∀ q, q ≤ 22 → F1 q = F q := fun q hq => by rw [hF1, mtr_l hq]
      have gl : ∀ q, q ≤ 22 → G1 q = G q := fun q hq => by rw [hG1, mtr_l hq]
      have e62 : F1 62 = Fa 12 := by rw [hF1]; exact mtr_h (q := 12) (by decide)
      have e64 : F1 64 = Fa 14 := by rw [hF1]; exact mtr_h (q := 14) (by decide)
      have e65 : F1 65 = Fa 15 := by rw [hF1]; exact mtr_h (q := 15) (by decide)
      have fc : ∀ q, 30 ≤ q → q ≤ 37 → F1 q = F q := fun q q1 q2 => by
        rw [hF1, mtr_c q1 q2, b3.1 q (by omega)]
        unfold swF
        rw [sw_c q1 q2]
      have gc : ∀ q, 30 ≤ q → q ≤ 37 → G1 q = G q := fun q q1 q2 => by
        rw [hG1, mtr_c q1 q2, b3.2 q (by omega)]
        unfold swF
        rw [sw_c q1 q2]
      have rc1 : RC F1 G1 M' N' := RC_c rc fc gc b4
      have rc2 : RC (swF F1) (swF G1) M' N' := RC_c rc1 (fun q q1 q2 => by unfold swF; rw [sw_c q1 q2]) (fun q q1 q2 => by unfold swF; rw [sw_c q1 q2]) KM.rf
      have keep : BT F1 G1 M' N' x1 x2 x3 := by
        rcases bt with ⟨z1, z2⟩ | ⟨b0, hb0, z1, Fb, Gb, F', G', z2, z3, z4, z5, z6, z7⟩
        · exact Or.inl ⟨z1, RD_k z2 (fun k hk => fl k (by omega)) (fun k hk => gl k (by omega)) (fun k hk _ => b4.1 k (by omega)) (fun k hk _ => b4.2 k (by omega))⟩
        · exact Or.inr ⟨b0, hb0, z1, Fb, Gb, F', G', RC_c z2 (fun _ _ _ => rfl) (fun _ _ _ => rfl) b4, z3, fun q hq => by rw [fl q (by omega), z4 q hq], fun q hq => by rw [gl q (by omega), z5 q hq], by rw [fl 14 (by decide), z6], by rw [fl 15 (by decide), z7]⟩
      have next : ∃ (r : Int32) (F2 : Nat → Int32) (G2 : Nat → Nat → Int32) (M2 : Nat → Int32) (N2 : Nat → Nat → Int32), f_X4_best_B56 (f_X4_best_L4 f) F1 G1 x1 (nI i) = some (r, F2, G2) ∧ f_X5_best_B75 (f_X5_best_L9 f) M' N' x1 x2 x3 (nI i) = some (r, M2, N2) ∧ Rl F2 G2 M2 N2 := by
        unfold f_X4_best_B56 f_X5_best_B75
        rw [qn_e, qn_e, nI_1]
        exact ih (i + 1) F1 G1 M' N' x1 x2 x3 (by omega) (by omega) rc1 keep
      have take : ∃ (r : Int32) (F2 : Nat → Int32) (G2 : Nat → Nat → Int32) (M2 : Nat → Int32) (N2 : Nat → Nat → Int32), f_X4_best_B50 (f_X4_best_L4 f) F1 G1 (nI i) = some (r, F2, G2) ∧ f_X5_best_B62 (f_X5_best_L9 f) M' N' (nI i) = some (r, M2, N2) ∧ Rl F2 G2 M2 N2 := by
        unfold f_X4_best_B50 f_X4_best_B56 f_X5_best_B62 f_X5_best_B75
        rw [qn_e, qn_e, qn_e, qn_e, nI_1]
        refine ih (i + 1) (swF F1) (swF G1) M' N' (nI i) (M' 18) (M' 19) (by omega) (by omega) rc2 (Or.inr ⟨i, hi, rfl, swF F, swF G, Fa, Ga, RC_c rcs (fun _ _ _ => rfl) (fun _ _ _ => rfl) b4, b1, fun q hq => ?_, fun q hq => ?_, ?_, ?_⟩)
        · unfold swF
          rw [sw_l (by omega), hF1, mtr_h (by omega)]
        · unfold swF
          rw [sw_l (by omega), hG1, mtr_h (by omega)]
        · unfold swF
          rw [sw_l (by decide), hF1, mtr_h (by decide), b5.2.2.1.1, b5.2.2.1.2]
        · unfold swF
          rw [sw_l (by decide), hF1, mtr_h (by decide), b5.2.2.2.2.2.1.2.2.1]
      rw [e62, b5.2.2.2.2.2.1.1]
      by_cases flt : M' 16 = 0
      · rw [if_pos flt, if_pos flt]
        rcases bt with ⟨z1, z2⟩ | ⟨b0, hb0, z1, Fb, Gb, F', G', z2, z3, z4, z5, z6, z7⟩
        · rw [if_pos z1, if_pos (show x1 < 0 by rw [z1]; decide)]
          exact take
        · rw [if_neg (show ¬ x1 = -1 by rw [z1]; exact nI_m1 (by omega)), if_neg (show ¬ x1 < 0 by rw [z1]; exact nI_pos (by omega))]
          have e1418 : Fa 14 = M' 18 := by rw [b5.2.2.1.1, b5.2.2.1.2]
          have e1519 : Fa 15 = M' 19 := b5.2.2.2.2.2.1.2.2.1
          have f14 : F1 14 = x2 := by rw [fl 14 (by decide), z6]
          have f15 : F1 15 = x3 := by rw [fl 15 (by decide), z7]
          unfold f_X3_isCheaperThan f_X3_isCheaperThan_B33
          rw [e64, e65, f14, f15, e1418, e1519]
          by_cases c1 : M' 18 < x2
          · have c2 : ¬ x2 < M' 18 := by
              rw [Int32.lt_iff_toInt_lt] at c1 ⊢
              omega
            have c3 : ¬ M' 18 = x2 := by
              intro z
              rw [z, Int32.lt_iff_toInt_lt] at c1
              omega
            rw [if_pos c1, qc_s, if_neg e10, if_neg c2, if_neg c3]
            exact take
          · rw [if_neg c1]
            by_cases c3 : M' 18 = x2
            · have c2 : ¬ x2 < M' 18 := by
                rw [c3, Int32.lt_iff_toInt_lt]
                omega
              rw [if_pos c3, if_neg c2, if_pos c3]
              by_cases c4 : x3 ≤ M' 19
              · have c5 : ¬ M' 19 < x3 := Int32.not_lt.mpr c4
                rw [if_pos c4, qc_s, if_pos rfl, if_neg c5]
                exact next
              · have c5 : M' 19 < x3 := Int32.not_le.mp c4
                rw [if_neg c4, qc_s, if_neg e10, if_pos c5]
                exact take
            · have c2 : x2 < M' 18 := by
                rw [Int32.lt_iff_toInt_lt] at c1 ⊢
                have : (M' 18).toInt ≠ x2.toInt := fun z => c3 (Int32.toInt_inj.mp z)
                omega
              rw [if_neg c3, qc_s, if_pos rfl, if_pos c2]
              exact next
      · rw [if_neg flt, if_neg flt]
        exact next
    · have e : i = 4 := by omega
      subst e
      rw [if_pos (by decide), if_pos (by decide)]
      rcases bt with ⟨z1, z2⟩ | ⟨b0, hb0, z1, Fb, Gb, F', G', z2, z3, z4, z5, -⟩
      · rw [if_neg (show ¬ 0 ≤ x1 by rw [z1]; decide), z1]
        exact ⟨-1, F, G, M, N, rfl, rfl, rc, z2⟩
      · rw [if_pos (show 0 ≤ x1 by rw [z1]; exact nI_pos' (by omega)), z1]
        obtain ⟨Fa, Ga, M', N', b1, b2, b3, b4, n, p, wv, b5⟩ := fol_eq z2 (nI b0)
        have ee : some (F', G') = some (Fa, Ga) := z3.symm.trans b1
        injection ee with ee
        injection ee with ea eb
        subst ea eb
        obtain ⟨M2, N2, c1, c2, c3⟩ := keep_eq (F1 := F) (G1 := G) (RC_c rc (fun _ _ _ => rfl) (fun _ _ _ => rfl) b4) b5 z4 z5
        rw [b2, qc_s]
        dsimp only
        rw [c1, qc_s]
        exact ⟨nI b0, F, G, M2, N2, rfl, rfl, c2⟩
theorem p_best : lh_best Rl := by
  intro F G M N h
  unfold f_X4_best f_X5_best
  rw [qn_e, qn_e, qn_e, qn_e]
  exact best_lp 1000 0 F G M N (-1) 0 0 (by decide) (by decide) h.1 (Or.inl ⟨rfl, h.2⟩)
theorem p_start : Rl bF0 bG0 mF0 (mG0 144) := by
  refine ⟨⟨⟨rfl, rfl, rfl, rfl⟩, ⟨rfl, rfl, rfl, rfl⟩, fun i hi => ?_, fun c hc => ?_, Or.inl rfl, ⟨0, Or.inl rfl, rfl, fun z => absurd rfl z⟩, ⟨2, by decide, rfl⟩⟩, rfl, 0, 0, 0, ⟨by decide, by decide, by decide⟩, ⟨rfl, rfl⟩, ⟨rfl, rfl⟩, rfl, fun _ => ⟨rfl, rfl⟩, fun z => absurd rfl z, rfl, fun k hk => by omega, fun c _ => rfl, fun q _ hq => by omega, fun z => absurd z (Nat.lt_irrefl 0), fun k hk => by omega⟩
  · refine Or.inl ?_
    show flf (fun _ => 0) (-1) 144 i = -1
    unfold flf
    rw [if_pos hi]
  · refine ⟨3, by decide, by decide, ?_⟩
    show flf (fun _ => 0) 3 6 c = nI 3
    unfold flf
    rw [if_pos hc]
    rfl
