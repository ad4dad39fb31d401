theorem pc_mono {n : Nat} {piece : Nat → Int32} (h : ∀ k, k + 1 < n → ∃ a b, piece k = nI a ∧ piece (k + 1) = nI b ∧ a ≤ b ∧ b < 1000) : ∀ d a, a + d < n → (piece a).toNatClampNeg ≤ (piece (a + d)).toNatClampNeg := by
  intro d
  induction d with
  | zero => intro a _; exact Nat.le_refl _
  | succ d ih =>
    intro a ha
    obtain ⟨x, y, e1, e2, e3, e4⟩ := h (a + d) (by omega)
    have h1 := ih a (by omega)
    rw [e1, nI_clamp (by omega)] at h1
    rw [show a + (d + 1) = a + d + 1 by omega, e2, nI_clamp (by omega)]
    omega
theorem star {n k p wv : Nat} (hn : n ≤ 144) (hk : k < n) (hp : p ≤ 144) {piece lo up wov fi se wov' : Nat → Int32} (hpc : ∀ j, j < n → ∃ q, q < p ∧ piece j = nI q) (hC : ∀ j, j < n → CT j (lo j) (up j) (fi j) (se j)) (hwe : ∀ j, j < n → ∀ x, x < wv → wvi wov (piece j) x = wvi wov' (piece j) x) (hwo : ∀ j, j < n → ∀ x, x < wv → lt1 j (wvi wov (piece j) x)) (hmono : ∀ k, k + 1 < n → ∃ a b, piece k = nI a ∧ piece (k + 1) = nI b ∧ a ≤ b ∧ b < 1000) {m : Nat → Bool} (h1 : ∀ j, j < k + 1 → m j = decide (j = k)) (h2 : ∀ j, k + 1 ≤ j → j < n → (m j = true ↔ PC wv piece lo up wov m j)) : ∀ j, j < n → (m j = true ↔ (j = k ∨ ∃ a, a < j ∧ m a = true ∧ (a < 144 ∧ EP wv piece fi se wov' a j))) := by
  intro j hj
  have hge : ∀ a, a < n → m a = true → k ≤ a := fun a ha z => by
    rcases Nat.lt_or_ge a k with y | y
    · rw [h1 a (by omega), decide_eq_false (by omega)] at z
      cases z
    · exact y
  rcases Nat.lt_trichotomy j k with q | q | q
  · rw [h1 j (by omega), decide_eq_false (by omega)]
    refine ⟨fun z => (by cases z), fun z => ?_⟩
    rcases z with z | ⟨a, y1, y2, -⟩
    · omega
    · have := hge a (by omega) y2
      omega
  · rw [h1 j (by omega), decide_eq_true q]
    exact ⟨fun _ => Or.inl q, fun _ => rfl⟩
  · rw [h2 j (by omega) hj]
    obtain ⟨c1, c2, c3, c4⟩ := hC j hj
    constructor
    · intro z
      right
      rcases z with ⟨z1, z2⟩ | z | ⟨x, hx, z⟩
      · exact ⟨j - 1, by omega, z2, by omega, Or.inl ⟨z1, by omega⟩⟩
      · rcases z with z | z
        · rcases c1 with e | ⟨a, ha, e⟩
          · rw [e] at z
            cases z
          · rw [e, ma_n _ (by omega)] at z
            refine ⟨a, ha, z, by omega, Or.inr (Or.inl (Or.inl ?_))⟩
            rw [c3, if_neg (by rw [e]; exact nI_m1 (by omega)), e]
        · rcases c2 with e | ⟨a, ha, e⟩
          · rw [e] at z
            cases z
          · rw [e, ma_n _ (by omega)] at z
            refine ⟨a, ha, z, by omega, Or.inr (Or.inl ?_)⟩
            by_cases y : lo j = -1
            · left
              rw [c3, if_pos y, e]
            · right
              rw [c4, if_neg y, e]
      · rcases hwo j hj x hx with e | ⟨a, ha, e⟩
        · rw [e] at z
          cases z
        · rw [e, ma_n _ (by omega)] at z
          exact ⟨a, ha, z, by omega, Or.inr (Or.inr ⟨x, hx, by rw [← hwe j hj x hx]; exact e⟩)⟩
    · rintro (z | ⟨a, ha, hma, ha2, z⟩)
      · omega
      · have hka := hge a (by omega) hma
        rcases z with ⟨z, -⟩ | z | ⟨x, hx, z⟩
        · -- the same piece: all between are marked
          have eqp : ∀ d, a + d ≤ j → piece (a + d) = piece a := by
            intro d hd
            have m1 := pc_mono hmono d a (by omega)
            have m2 := pc_mono hmono (j - (a + d)) (a + d) (by omega)
            rw [show a + d + (j - (a + d)) = j by omega, ← z] at m2
            obtain ⟨u, hu, eu⟩ := hpc (a + d) (by omega)
            obtain ⟨v, hv, ev⟩ := hpc a (by omega)
            rw [eu, ev, nI_clamp (by omega), nI_clamp (by omega)] at m1 m2
            rw [eu, ev, show u = v by omega]
          have all : ∀ d, a + d < j → m (a + d) = true := by
            intro d
            induction d with
            | zero => intro _; exact hma
            | succ d ih =>
              intro hd
              have hd2 := ih (by omega)
              rw [h2 (a + (d + 1)) (by omega) (by omega)]
              left
              rw [show a + (d + 1) - 1 = a + d by omega, eqp d (by omega), eqp (d + 1) (by omega)]
              exact ⟨rfl, hd2⟩
          left
          have e1 := eqp (j - 1 - a) (by omega)
          have e2 := all (j - 1 - a) (by omega)
          rw [show a + (j - 1 - a) = j - 1 by omega] at e1 e2
          exact ⟨by rw [e1, z], e2⟩
        · right
          left
          rw [c3, c4] at z
          by_cases y : lo j = -1
          · rw [if_pos y, if_pos y] at z
            rcases z with z | z
            · exact Or.inr (by rw [z, ma_n _ (by omega)]; exact hma)
            · exact absurd z.symm (nI_m1 (by omega))
          · rw [if_neg y, if_neg y] at z
            rcases z with z | z
            · exact Or.inl (by rw [z, ma_n _ (by omega)]; exact hma)
            · exact Or.inr (by rw [z, ma_n _ (by omega)]; exact hma)
        · right
          right
          exact ⟨x, hx, by rw [hwe j hj x hx, z, ma_n _ (by omega)]; exact hma⟩
/-- both sides of a mending, at once -/
theorem mend_eq {F : Nat → Int32} {G : Nat → Nat → Int32} {M : Nat → Int32} {N : Nat → Nat → Int32} (h : RD F G M N) {n : Nat} (hnn : F 11 = nI n) (hn : n ≤ 144) {k : Nat} (hk : k < n) : ∃ (m : Nat → Bool) (g g2 : Nat → Int32), f_X1_markPulledOut F G (nI k) = some (nI (cb m n), F, pz g 40 G) ∧ f_X5_pulls M N (nI k) = some (M, pz g2 47 N) ∧ (∀ j, j < 144 → g j = b2i (m j)) ∧ (∀ j, j < 144 → g2 j = b2i (m j)) ∧ M 32 = nI n := by
  obtain ⟨h10, n', p, wv, ⟨hn', hp, hwv⟩, ⟨h11, m32⟩, ⟨h14, m35⟩, h18, h0, hne, h17, hA, hpk, hw, hw0, hmono⟩ := h
  have en : n' = n := (nI_eq (by omega) (by omega)).mp (h11.symm.trans hnn)
  subst en
  have hpc : ∀ j, j < n' → ∃ q, q < p ∧ G 2 j = nI q := fun j hj => (hA j hj).2.2.2.2
  have e2 : ∀ j, j < n' → G 2 j = N 39 j := fun j hj => (hA j hj).1.2.2.1
  have hC : ∀ j, j < n' → CT j (G 4 j) (G 5 j) (N 41 j) (N 42 j) := fun j hj => (hA j hj).2.1
  have hwo : ∀ j, j < n' → ∀ x, x < wv → lt1 j (wvi (G 7) (G 2 j) x) := by
    intro j hj x hx
    obtain ⟨q, hq, eq⟩ := hpc j hj
    rw [eq]
    by_cases q0 : q = 0
    · subst q0
      exact Or.inl rfl
    · rw [wvi_n _ _ (by omega) (by omega)]
      obtain ⟨-, y⟩ := hw q (by omega) hq
      obtain ⟨-, y, e, -, hlt⟩ := y x hx
      exact Or.inr ⟨y, hlt j hj eq, e⟩
  have hwe : ∀ j, j < n' → ∀ x, x < wv → wvi (G 7) (G 2 j) x = wvi (N 46) (G 2 j) x := by
    intro j hj x hx
    obtain ⟨q, hq, eq⟩ := hpc j hj
    rw [eq]
    by_cases q0 : q = 0
    · subst q0
      rfl
    · rw [wvi_n _ _ (by omega) (by omega), wvi_n _ _ (by omega) (by omega)]
      obtain ⟨-, y⟩ := hw q (by omega) hq
      exact (y x hx).1
  obtain ⟨g0, a1, a2⟩ := mo_eq (F := F) (G := G) (show k < 144 by omega)
  obtain ⟨m, g, b1, b2, b3, b4, b5⟩ := pull_loop hn hk hp hwv h11 h14 h18 (piece := G 2) (lo := G 4) (up := G 5) (wov := G 7) hpc (fun j hj => (hC j hj).1) (fun j hj => (hC j hj).2.1) hwo 1000 (k + 1) (fun j => decide (j = k)) (pz g0 40 G) (by omega) (by omega) (by omega) (pz_n _ _ (by decide)) (pz_n _ _ (by decide)) (pz_n _ _ (by decide)) (pz_n _ _ (by decide)) (fun j hj => by rw [pz_s]; exact a1 j hj) (fun j hj => decide_eq_false (by omega))
  have hcb : cb (fun j => decide (j = k)) (k + 1) = 1 := by
    show cb (fun j => decide (j = k)) k + (if decide (k = k) = true then 1 else 0) = 1
    rw [if_pos (decide_eq_true rfl), cb_0.mpr (fun j hj => decide_eq_false (by omega))]
  rw [hcb, pz_pz] at b1
  have hstar := star hn hk hp hpc hC hwe hwo hmono b3 b4
  obtain ⟨g2, c1, c2⟩ := pulls_eq hn hk m32 (N := N) (E := fun a b => a < 144 ∧ EP wv (N 39) (N 41) (N 42) (N 46) a b) (m := m) (fun a b hb ⟨ha, z⟩ => by
    rcases z with ⟨-, z⟩ | z | ⟨x, hx, z⟩
    · exact z
    · obtain ⟨r1, r2⟩ := ct_rng (hC b hb)
      rcases z with z | z
      · rcases r1 with e | ⟨j, hj, e⟩
        · exact absurd (e.symm.trans z).symm (nI_m1 (by omega))
        · have := (nI_eq (a := j) (b := a) (by omega) (by omega)).mp (e.symm.trans z)
          omega
      · rcases r2 with e | ⟨j, hj, e⟩
        · exact absurd (e.symm.trans z).symm (nI_m1 (by omega))
        · have := (nI_eq (a := j) (b := a) (by omega) (by omega)).mp (e.symm.trans z)
          omega
    · rw [← e2 b hb, ← hwe b hb x hx] at z
      rcases hwo b hb x hx with e | ⟨j, hj, e⟩
      · exact absurd (e.symm.trans z).symm (nI_m1 (by omega))
      · have := (nI_eq (a := j) (b := a) (by omega) (by omega)).mp (e.symm.trans z)
        omega) (fun N' hN' a b ha hb => by
    have hd := dr_eq (M := M) (N := N') (wv := wv) hn hp hwv (fun j hj => by
      rw [hN' 39 (by decide), ← e2 j hj]
      exact hpc j hj) (fun q q1 q2 => by rw [hN' 45 (by decide)]; exact (hw q q1 q2).1) (fun q => by rw [hN' 45 (by decide)]; exact hw0 q) ha hb
    rw [hN' 39 (by decide), hN' 41 (by decide), hN' 42 (by decide), hN' 46 (by decide)] at hd
    exact ⟨fun z => hd.1 z.2, fun z => hd.2 (fun y => z ⟨by omega, y⟩)⟩) (fun j hj => by
    rw [hstar j hj]
    have eqv : ∀ a, a < j → (EP wv (G 2) (N 41) (N 42) (N 46) a j ↔ EP wv (N 39) (N 41) (N 42) (N 46) a j) := fun a ha => by
      unfold EP
      rw [e2 a (by omega), e2 j hj]
    exact ⟨fun z => z.imp id (fun ⟨a, y1, y2, y3, y4⟩ => ⟨a, y1, y2, y3, (eqv a y1).mp y4⟩), fun z => z.imp id (fun ⟨a, y1, y2, y3, y4⟩ => ⟨a, y1, y2, y3, (eqv a y1).mpr y4⟩)⟩) b5
  refine ⟨m, g, g2, ?_, c1, b2, c2, m32⟩
  unfold f_X1_markPulledOut
  rw [qn_e, a2, qc_s]
  dsimp only
  rw [qn_e, nI_1]
  exact b1
theorem p_pull : lh_pull Rl := by
  intro F G M N h a1
  have hh := h
  obtain ⟨-, hD⟩ := h
  have hD2 := hD
  obtain ⟨h10, n, p, wv, ⟨hn, hp, hwv⟩, ⟨h11, m32⟩, -⟩ := hD2
  unfold f_X4_pull f_X5_pull
  rcases has_n (G := G) (N := N) hn h11 m32 a1 with ⟨e1, e2⟩ | ⟨e1, e2, k, hk, rfl⟩
  · rw [e1, e2]
    exact ⟨-1, F, G, M, N, rfl, rfl, hh⟩
  · rw [e1, e2, qc_s, qc_s, if_neg e10, if_neg e10]
    obtain ⟨m, g, g2, r1, r2, r3, r4, -⟩ := mend_eq hD h11 hn hk
    rw [r1, r2, qc_s, qc_s]
    dsimp only
    rw [mi_eq hn m32 (fun j hj => by rw [pz_s]; exact r4 j hj), qc_s, qx_e, mx_id]
    exact ⟨_, _, _, _, _, rfl, rfl, Rl_47 hh g⟩
theorem p_pulled : lh_pulled Rl := by
  intro F G M N h a1 a2
  have hh := h
  obtain ⟨-, hD⟩ := h
  have hD2 := hD
  obtain ⟨h10, n, p, wv, ⟨hn, hp, hwv⟩, ⟨h11, m32⟩, -⟩ := hD2
  unfold f_X4_pulled f_X5_pulled
  rcases has_n (G := G) (N := N) hn h11 m32 a1 with ⟨e1, e2⟩ | ⟨e1, e2, k, hk, rfl⟩
  · rw [e1, e2]
    exact ⟨-1, F, G, M, N, rfl, rfl, hh⟩
  · rw [e1, e2, qc_s, qc_s, if_neg e10, if_neg e10]
    rcases has_n (G := G) (N := N) hn h11 m32 a2 with ⟨e3, e4⟩ | ⟨e3, e4, j, hj, rfl⟩
    · rw [e3, e4]
      exact ⟨-1, F, G, M, N, rfl, rfl, hh⟩
    · rw [e3, e4, qc_s, qc_s, if_neg e10, if_neg e10]
      obtain ⟨m, g, g2, r1, r2, r3, r4, -⟩ := mend_eq hD h11 hn hk
      rw [r1, r2, qc_s, qc_s]
      dsimp only
      have hj2 : j < 144 := by omega
      rw [qx_e, mx_id, ql_ok hj2 (by decide), ql_ok hj2 (by decide), mx_y rfl, pz_s, pz_s, r3 j hj2, r4 j hj2]
      cases m j
      · rw [if_pos b2i_f]
        exact ⟨0, _, _, _, _, rfl, rfl, Rl_47 hh g⟩
      · rw [if_neg (show ¬ b2i true = 0 by decide)]
        exact ⟨1, _, _, _, _, rfl, rfl, Rl_47 hh g⟩
