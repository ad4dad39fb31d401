theorem cnt_loop {F : Nat → Int32} {G : Nat → Nat → Int32} {M : Nat → Int32} {N : Nat → Nat → Int32} (h30 : G 30 = N 0) (x1 : Int32) : ∀ (n i : Nat) (x2 : Int32), i ≤ 144 → 144 < i + n → ∃ r, f_X0_cellsThatHold_L4 F G x1 n x2 (nI i) = some r ∧ f_X5_beadsOf_L4 M N x1 n x2 (nI i) = some r := by
  intro n
  induction n with
  | zero => intro i x2 h1 h2; omega
  | succ n ih =>
    intro i x2 h1 h2
    show ∃ r, f_X0_cellsThatHold_L4_b (f_X0_cellsThatHold_L4 F G x1 n) F G x1 x2 (nI i) = some r ∧ f_X5_beadsOf_L4_b (f_X5_beadsOf_L4 M N x1 n) M N x1 x2 (nI i) = some r
    unfold f_X0_cellsThatHold_L4_b f_X5_beadsOf_L4_b
    by_cases hi : i < 144
    · have hn : ¬ ((144 : Int32) ≤ nI i) := nI_ge hi (by decide)
      rw [if_neg hn, if_neg hn, ql_ok hi (by decide), ql_ok hi (by decide), h30]
      simp only [f_X0_cellsThatHold_B24, f_X5_beadsOf_B27, qn]
      by_cases hv : N 0 i = x1
      · rw [if_pos hv, if_pos hv, nI_1]
        exact ih (i + 1) _ (by omega) (by omega)
      · rw [if_neg hv, if_neg hv, nI_1, Int32.add_zero]
        exact ih (i + 1) _ (by omega) (by omega)
    · have hp : (144 : Int32) ≤ nI i := nI_le (a := 144) (by omega) (by omega)
      rw [if_pos hp, if_pos hp]
      exact ⟨x2, rfl, rfl⟩
theorem cnt_eq {F : Nat → Int32} {G : Nat → Nat → Int32} {M : Nat → Int32} {N : Nat → Nat → Int32} (h30 : G 30 = N 0) (x1 : Int32) : ∃ r, f_X0_cellsThatHold F G x1 = some r ∧ f_X5_beadsOf M N x1 = some r :=
  cnt_loop h30 x1 1000 0 0 (by decide) (by decide)
theorem p_bought : lh_bought Rl := by
  intro F G M N h a1 a2
  obtain ⟨⟨⟨g30, g31, g32, g33⟩, -⟩, -⟩ := h
  unfold f_X4_bought f_X5_bought
  simp only [in_wi]
  rcases isCol a1 with ⟨h1, h2, -⟩ | ⟨h1, h2, j, hj, rfl⟩
  · rw [h1, h2]
    exact ⟨-1, rfl, rfl⟩
  · rw [h1, h2, qc_s, qc_s, if_neg e10, if_neg e10]
    rcases wi_n a2 1 1000 1 1000 rfl rfl (by decide) (by decide) with h | ⟨h, b, hb0, hb, rfl⟩
    · rw [h]
      exact ⟨-1, rfl, rfl⟩
    · rw [h, qc_s, qc_s, if_neg e10, if_neg e10]
      obtain ⟨r, e1, e2⟩ := cnt_eq (F := F) (M := M) g30 (nI j)
      unfold f_X0_beadsOfColour
      rw [e1, e2, qc_s, qc_s, qc_s, ql_ok hj (by decide), ql_ok hj (by decide), g33]
      simp only [qn]
      have hne : ¬ (nI b * 1000 = 0) := by
        rw [show (1000 : Int32) = nI 1000 from rfl, pk_mul]
        exact nI_ne0 (by omega) (by omega)
      rw [Int32.mul_comm 1000 (nI b), qd_ok hne]
      exact ⟨_, rfl, rfl⟩
/-! beads -/
theorem put_loop (r c m : Nat) (x : Nat) (hr : r < 12) (hc : c < 12) (hm : m ≤ 12) (hx : x < 2 ^ 64) (hcm : c + m ≤ 12) : ∀ (n i : Nat) (F : Nat → Int32) (G : Nat → Nat → Int32) (M : Nat → Int32) (N : Nat → Nat → Int32), i ≤ m → m < i + n → G 30 = N 0 → (∀ k, k < 144 → G 30 k = -1 ∨ ∃ q, q < 6 ∧ G 30 k = nI q) →
    ∃ g : Nat → Int32, f_X0_putRun_L3 (nI r) (nI c) (nI m) (lN x) n F G (nI i) = some (F, fun k => if k = 30 then g else G k) ∧ f_X5_beads_L45 (nI r) (nI c) (nI m) (lN x) n M N (nI i) = some (1, M, fun k => if k = 0 then g else N k) ∧ (∀ k, k < 144 → g k = -1 ∨ ∃ q, q < 6 ∧ g k = nI q) ∧ (∀ k, (k < r * 12 + c ∨ r * 12 + c + m ≤ k) → g k = G 30 k) := by
  intro n
  induction n with
  | zero => intro i F G M N h1 h2; omega
  | succ n ih =>
    intro i F G M N h1 h2 h30 hv
    show ∃ g : Nat → Int32, f_X0_putRun_L3_b (f_X0_putRun_L3 (nI r) (nI c) (nI m) (lN x) n) (nI r) (nI c) (nI m) (lN x) F G (nI i) = some (F, fun k => if k = 30 then g else G k) ∧ f_X5_beads_L45_b (f_X5_beads_L45 (nI r) (nI c) (nI m) (lN x) n) (nI r) (nI c) (nI m) (lN x) M N (nI i) = some (1, M, fun k => if k = 0 then g else N k) ∧ _ ∧ _
    unfold f_X0_putRun_L3_b f_X5_beads_L45_b
    by_cases hi : i < m
    · have hn : ¬ (nI m ≤ nI i) := nI_ge hi (by omega)
      rw [if_neg hn, if_neg hn]
      rw [show (3 : Int32) * nI i = nI (3 * i) from pk_mul 3 i, code_c hx (by omega), code_m hx (by omega)]
      simp only [qn]
      obtain ⟨q, eq⟩ : ∃ q, x / 2 ^ (3 * i) % 8 = q := ⟨_, rfl⟩
      have hq : q < 8 := by rw [← eq]; exact Nat.mod_lt _ (by decide)
      rw [eq]
      have step : ∀ v : Int32, (v = -1 ∨ ∃ q, q < 6 ∧ v = nI q) → ∃ g : Nat → Int32, f_X0_putRun_B56 (f_X0_putRun_L3 (nI r) (nI c) (nI m) (lN x) n) (nI r) (nI c) (nI m) (lN x) F G (nI i) (nI r * 12 + nI c + nI i) v = some (F, fun k => if k = 30 then g else G k) ∧ f_X5_beads_B97 (f_X5_beads_L45 (nI r) (nI c) (nI m) (lN x) n) (nI r) (nI c) (nI m) (lN x) M N (nI i) (12 * nI r + nI c + nI i) v = some (1, M, fun k => if k = 0 then g else N k) ∧ (∀ k, k < 144 → g k = -1 ∨ ∃ q, q < 6 ∧ g k = nI q) ∧ (∀ k, (k < r * 12 + c ∨ r * 12 + c + m ≤ k) → g k = G 30 k) := by
        intro v hv2
        unfold f_X0_putRun_B56 f_X5_beads_B97
        rw [ix12, ix12m, nI_add, qs_ok (by omega) (by decide), qs_ok (by omega) (by decide)]
        simp only [f_X0_putRun_B57, f_X5_beads_B98, qn]
        rw [nI_1]
        obtain ⟨g, e1, e2, e3, e4⟩ := ih (i + 1) F (qG G 30 (r * 12 + c + i) v) M (qG N 0 (r * 12 + c + i) v) (by omega) (by omega) (by rw [qG_s, qG_s, h30]) (by
          intro k hk
          rw [qG_s]
          by_cases ek : k = r * 12 + c + i
          · subst ek
            rw [upd_s]
            exact hv2
          · rw [upd_n _ _ ek]
            exact hv k hk)
        refine ⟨g, ?_, ?_, e3, ?_⟩
        · rw [e1]
          congr 2
          funext k
          by_cases ek : k = 30
          · rw [if_pos ek, if_pos ek]
          · rw [if_neg ek, if_neg ek, qG_n _ _ _ ek]
        · rw [e2]
          congr 3
          funext k
          by_cases ek : k = 0
          · rw [if_pos ek, if_pos ek]
          · rw [if_neg ek, if_neg ek, qG_n _ _ _ ek]
        · intro k hk
          rw [e4 k hk, qG_s, upd_n _ _ (by omega)]
      by_cases h7 : q = 7
      · subst h7
        rw [if_pos (show nI 7 = (7 : Int32) from rfl), if_pos (show (7 : Int32) ≤ nI 7 by decide)]
        simp only [f_X0_putRun_B57, f_X5_beads_B98, qn]
        rw [nI_1]
        exact ih (i + 1) F G M N (by omega) (by omega) h30 hv
      · have c1 : ¬ (nI q = (7 : Int32)) := fun z => h7 ((nI_eq (b := 7) (by omega) (by decide)).mp z)
        have c2 : ¬ ((7 : Int32) ≤ nI q) := nI_ge (b := 7) (by omega) (by decide)
        rw [if_neg c1, if_neg c2]
        by_cases h6 : q = 6
        · subst h6
          rw [if_pos (show nI 6 = (6 : Int32) from rfl), if_pos (show nI 6 = (6 : Int32) from rfl)]
          exact step (-1) (Or.inl rfl)
        · have c3 : ¬ (nI q = (6 : Int32)) := fun z => h6 ((nI_eq (b := 6) (by omega) (by decide)).mp z)
          rw [if_neg c3, if_neg c3]
          exact step (nI q) (Or.inr ⟨q, by omega, rfl⟩)
    · have hp : nI m ≤ nI i := nI_le (by omega) (by omega)
      rw [if_pos hp, if_pos hp]
      refine ⟨G 30, ?_, ?_, hv, fun _ _ => rfl⟩
      · congr 2
        funext k
        by_cases ek : k = 30
        · rw [if_pos ek, ek]
        · rw [if_neg ek]
      · congr 3
        funext k
        by_cases ek : k = 0
        · rw [if_pos ek, ek, h30]
        · rw [if_neg ek]
theorem mx_n {α : Type} {b : Nat → Bool} {F Fa : Nat → α} {k : Nat} (h : b k = false) : mx b F Fa k = F k := by
  unfold mx
  rw [h]
  rfl
theorem mx_y {α : Type} {b : Nat → Bool} {F Fa : Nat → α} {k : Nat} (h : b k = true) : mx b F Fa k = Fa k := by
  unfold mx
  rw [if_pos h]
theorem mx_id {α : Type} {b : Nat → Bool} {F : Nat → α} : mx b F F = F := by
  funext k
  unfold mx
  split <;> rfl
theorem p_beads : lh_beads Rl := by
  intro F G M N h a1 a2 a3 a4
  have hh := h
  obtain ⟨⟨⟨g30, g31, g32, g33⟩, ⟨h34, h35, h36, h37⟩, cv1, cv2, cv3, ⟨w, hw, ew, hring⟩, cv5⟩, hD⟩ := h
  unfold f_X4_beads f_X0_holdsRun f_X5_beads f_X0_columnsInUse f_X5_columns
  simp only [in_wi]
  rcases cell_n a1 a2 with ⟨h, hx⟩ | ⟨h, h1, h2, r, k, hr, hk, rfl, rfl⟩
  · rw [h]
    rcases hx with h1 | ⟨h1, h2⟩
    · rw [h1]
      exact ⟨0, F, G, M, N, rfl, rfl, hh⟩
    · rw [h1, h2]
      exact ⟨0, F, G, M, N, rfl, rfl, hh⟩
  · rw [h, h1, h2]
    simp only [qc_s, if_neg e10]
    rcases wi_n a3 1 12 1 12 rfl rfl (by decide) (by decide) with h3 | ⟨h3, m, hm0, hm, rfl⟩
    · rw [h3]
      exact ⟨0, F, G, M, N, rfl, rfl, hh⟩
    · rw [h3]
      simp only [qc_s, if_neg e10]
      obtain ⟨W, eW, hW1, hW2⟩ : ∃ W : Nat, (if F 35 = 0 then some (12 : Int32) else some (F 35)) = some (nI W) ∧ W ≤ 12 ∧ (w ≠ 0 → W = w) := by
        rw [ew]
        rcases hw with rfl | hw
        · exact ⟨12, rfl, by decide, fun z => absurd rfl z⟩
        · rw [if_neg (nI_ne0 (by omega) (by omega))]
          exact ⟨w, rfl, hw.2, fun _ => rfl⟩
      rw [← h35, eW]
      simp only [qc_s]
      rw [nI_add]
      by_cases hc : k + m ≤ W
      · have hn : ¬ (nI W < nI (k + m)) := nI_nlt hc (by omega)
        have hp : nI (k + m) ≤ nI W := nI_le hc (by omega)
        rw [if_neg hn, if_pos hp]
        simp only [qc_s, if_neg e10]
        obtain ⟨x, hx, rfl⟩ := wb_of a4
        obtain ⟨g, e1, e2, e3, e4⟩ := put_loop r k m x hr hk hm hx (by omega) 1000 0 F G M N (by omega) (by omega) g30 cv1
        simp only [f_X0_putRun, qn]
        rw [show (0 : Int32) = nI 0 from rfl, e1, e2]
        simp only [qc_s, qx]
        refine ⟨1, _, _, _, _, rfl, rfl, ⟨⟨?_, ?_, ?_, ?_⟩, ?_, ?_, ?_, ?_, ?_, ?_⟩, ?_⟩
        · rw [mx_y rfl]; rfl
        · rw [mx_y rfl]; exact g31
        · rw [mx_y rfl]; exact g32
        · rw [mx_y rfl]; exact g33
        · rw [mx_id]; exact ⟨h34, h35, h36, h37⟩
        · rw [mx_y rfl]; exact e3
        · rw [mx_y rfl]; exact cv2
        · rw [mx_id]; exact cv3
        · rw [mx_id, mx_y rfl]
          refine ⟨w, hw, ew, fun hw0 r2 k2 hr2 hk2 hk3 => ?_⟩
          show g (r2 * 12 + k2) = -1
          have hWw := hW2 hw0
          rw [e4 (r2 * 12 + k2) (by
            rcases Nat.lt_trichotomy r2 r with q | q | q
            · left; omega
            · right; subst q; omega
            · right; omega)]
          exact hring hw0 r2 k2 hr2 hk2 hk3
        · rw [mx_id]; exact cv5
        · refine RD_k hD (fun _ _ => by rw [mx_id]) (fun q hq => ?_) (fun _ _ _ => rfl) (fun q hq _ => ?_)
          · rw [mx_n (by unfold k_ch; rw [show Nat.ble 30 q = false from Bool.eq_false_iff.mpr (fun z => by have := Nat.le_of_ble_eq_true z; omega)]; rfl)]
          · show (if q = 0 then g else N q) = N q
            rw [if_neg (by omega)]
      · have hp : nI W < nI (k + m) := nI_lt (by omega) (by omega)
        have hn : ¬ (nI (k + m) ≤ nI W) := nI_ge (by omega) (by omega)
        rw [if_pos hp, if_neg hn]
        exact ⟨0, F, G, M, N, rfl, rfl, hh⟩
