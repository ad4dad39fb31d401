/-! a row of beads -/
theorem cb_mono {b : Nat → Bool} {i : Nat} : ∀ {j : Nat}, i ≤ j → cb b i ≤ cb b j
  | 0 => fun h => by
    rw [show i = 0 by omega]
    exact Nat.le_refl _
  | j + 1 => fun h => by
    by_cases e : i = j + 1
    · rw [e]
      exact Nat.le_refl _
    · have := cb_mono (b := b) (i := i) (j := j) (by omega)
      show cb b i ≤ cb b j + (if b j = true then 1 else 0)
      omega
theorem cb_s {b : Nat → Bool} {i : Nat} (h : b i = true) : cb b (i + 1) = cb b i + 1 := by
  show cb b i + (if b i = true then 1 else 0) = _
  rw [if_pos h]
theorem cb_n {b : Nat → Bool} {i : Nat} (h : b i = false) : cb b (i + 1) = cb b i := by
  show cb b i + (if b i = true then 1 else 0) = _
  rw [if_neg (by rw [h]; decide), Nat.add_zero]
theorem lc_last {b : Nat → Bool} {t : Nat → Nat} {i : Nat} (hb : b i = true) : ∀ {W : Nat}, i < W → (∀ k, k < W → t k < 1000) → (∀ k j, k < W → j < W → t k = t j → k = j) → (nI (t i) = lc b t W ↔ cb b i + 1 = cb b W)
  | 0 => fun h => by omega
  | W + 1 => fun h ht hin => by
    show nI (t i) = (if b W = true then nI (t W) else lc b t W) ↔ _
    by_cases q : b W = true
    · rw [if_pos q, cb_s q]
      by_cases e : i = W
      · subst e
        exact ⟨fun _ => rfl, fun _ => rfl⟩
      · have := cb_mono (b := b) (i := i + 1) (j := W) (by omega)
        rw [cb_s hb] at this
        have h1 := ht i (by omega)
        have h2 := ht W (by omega)
        constructor
        · intro z
          exact absurd (hin i W (by omega) (by omega) ((nI_eq (by omega) (by omega)).mp z)) e
        · intro z
          omega
    · have e : i ≠ W := fun z => q (by rw [← z]; exact hb)
      rw [if_neg q, cb_n (Bool.eq_false_iff.mpr q)]
      exact lc_last hb (by omega) (fun k hk => ht k (by omega)) (fun k j hk hj => hin k j (by omega) (by omega))
theorem cb_first (f : Nat → Bool) : ∀ n, cb f (n + 1) = (if f 0 = true then 1 else 0) + cb (fun i => f (i + 1)) n
  | 0 => by
    show 0 + (if f 0 = true then 1 else 0) = (if f 0 = true then 1 else 0) + 0
    omega
  | n + 1 => by
    show cb f (n + 1) + (if f (n + 1) = true then 1 else 0) = _
    rw [cb_first f n]
    show _ = _ + (cb (fun i => f (i + 1)) n + (if f (n + 1) = true then 1 else 0))
    omega
theorem cb_rev (b : Nat → Bool) : ∀ W, cb (fun i => b (W - 1 - i)) W = cb b W
  | 0 => rfl
  | W + 1 => by
    rw [cb_first]
    show (if b W = true then 1 else 0) + cb (fun i => b (W + 1 - 1 - (i + 1))) W = cb b W + (if b W = true then 1 else 0)
    rw [cb_cong (p := fun i => b (W + 1 - 1 - (i + 1))) (q := fun i => b (W - 1 - i)) (fun k hk => by
      show b (W + 1 - 1 - (k + 1)) = b (W - 1 - k)
      congr 1
      omega), cb_rev b W]
    omega
theorem cb_ext {b : Nat → Bool} {W : Nat} : ∀ {V : Nat}, W ≤ V → (∀ k, W ≤ k → k < V → b k = false) → cb b V = cb b W
  | 0 => fun h _ => by rw [show W = 0 by omega]
  | V + 1 => fun h hk => by
    by_cases e : W = V + 1
    · rw [e]
    · rw [cb_n (hk V (by omega) (by omega))]
      exact cb_ext (by omega) (fun k h1 h2 => hk k h1 (by omega))
theorem cb_row {g : Nat → Int32} {w r : Nat} (hw : w = 0 ∨ (3 ≤ w ∧ w ≤ 12)) (hring : w ≠ 0 → ∀ r k, r < 12 → w ≤ k → k < 12 → g (r * 12 + k) = -1) (hr : r < 12) (up : Int32) : cb (isB g r) 12 = cb (fun i => isB g r (tc (wd w) up i)) (wd w) := by
  have hW := wd_le hw
  have e1 : cb (isB g r) 12 = cb (isB g r) (wd w) := cb_ext hW.1 (fun k h1 h2 => by
    have h0 : w ≠ 0 := fun z => by
      subst z
      have : wd 0 = 12 := rfl
      omega
    have e : wd w = w := by
      unfold wd
      rw [if_neg h0]
    exact isB_f.mpr (hring h0 r k hr (by omega) h2))
  rw [e1]
  by_cases q : up = 0
  · rw [← cb_rev]
    refine cb_cong (fun k _ => ?_)
    show isB g r (wd w - 1 - k) = isB g r (tc (wd w) up k)
    unfold tc
    rw [if_pos q]
  · refine cb_cong (fun k _ => ?_)
    show isB g r k = isB g r (tc (wd w) up k)
    unfold tc
    rw [if_neg q]
/-- the class's next square -/
theorem fr_col (rec : (Nat → Int32) → (Nat → Nat → Int32) → Int32 → Int32 → Int32 → Int32 → Option qS) {r i : Nat} (hi : i < 12) (rb up x5 x6 x7 x8 : Int32) (F : Nat → Int32) (G : Nat → Nat → Int32) : f_X3_followRow_L34_b rec (nI r) rb up x5 F G x6 x7 x8 (nI i) = if F 12 = 0 then (if (144 : Int32) ≤ F 11 then some (F, G) else f_X3_followRow_B73 rec (nI r) rb up x5 F G x6 x7 x8 (nI i) (nI (tc 12 up i))) else some (F, G) := by
  unfold f_X3_followRow_L34_b tc
  rw [if_neg (show ¬ (12 : Int32) ≤ nI i from nI_ge (b := 12) hi (by decide))]
  by_cases q : up = 0
  · rw [if_pos q, if_pos q, show (11 : Int32) = nI 11 from rfl, pk_sub (by omega)]
  · rw [if_neg q, if_neg q]
theorem sk_end {r : Nat} (hr : r < 12) (rb up x5 x6 x7 x8 : Int32) (F : Nat → Int32) (G : Nat → Nat → Int32) : ∀ (fuel i : Nat), i ≤ 12 → 12 < i + fuel → (∀ k, i ≤ k → k < 12 → G 30 (r * 12 + tc 12 up k) = -1) → f_X3_followRow_L34 (nI r) rb up x5 fuel F G x6 x7 x8 (nI i) = some (F, G) := by
  intro fuel
  induction fuel with
  | zero => intro i h1 h2; omega
  | succ fuel ih =>
    intro i h1 h2 h3
    show f_X3_followRow_L34_b (f_X3_followRow_L34 (nI r) rb up x5 fuel) (nI r) rb up x5 F G x6 x7 x8 (nI i) = _
    by_cases hi : i < 12
    · rw [fr_col _ hi]
      by_cases q : F 12 = 0
      · rw [if_pos q]
        by_cases q2 : (144 : Int32) ≤ F 11
        · rw [if_pos q2]
        · rw [if_neg q2]
          unfold f_X3_followRow_B73 f_X3_followRow_B179
          rw [colAt hr (tc_lt hi (Nat.le_refl _)).1, qc_s, if_pos (h3 i (Nat.le_refl _) hi), qn_e, nI_1]
          exact ih (i + 1) (by omega) (by omega) (fun k k1 k2 => h3 k (by omega) k2)
      · rw [if_neg q]
    · have e : i = 12 := by omega
      subst e
      unfold f_X3_followRow_L34_b
      rw [if_pos (by decide)]
theorem sk_beg {r : Nat} (hr : r < 12) (rb up x5 x6 x7 x8 : Int32) {F : Nat → Int32} {G : Nat → Nat → Int32} (f12 : F 12 = 0) (f11 : ¬ (144 : Int32) ≤ F 11) : ∀ (d i fuel : Nat), i + d ≤ 12 → (∀ k, i ≤ k → k < i + d → G 30 (r * 12 + tc 12 up k) = -1) → f_X3_followRow_L34 (nI r) rb up x5 (fuel + d) F G x6 x7 x8 (nI i) = f_X3_followRow_L34 (nI r) rb up x5 fuel F G x6 x7 x8 (nI (i + d)) := by
  intro d
  induction d with
  | zero => intro i fuel _ _; rfl
  | succ d ih =>
    intro i fuel h1 h3
    show f_X3_followRow_L34_b (f_X3_followRow_L34 (nI r) rb up x5 (fuel + d)) (nI r) rb up x5 F G x6 x7 x8 (nI i) = _
    rw [fr_col _ (show i < 12 by omega), if_pos f12, if_neg f11]
    unfold f_X3_followRow_B73 f_X3_followRow_B179
    rw [colAt hr (tc_lt (show i < 12 by omega) (Nat.le_refl _)).1, qc_s, if_pos (h3 i (Nat.le_refl _) (by omega)), qn_e, nI_1, ih (i + 1) fuel (by omega) (fun k k1 k2 => h3 k (by omega) (by omega)), show i + 1 + d = i + (d + 1) by omega]
theorem tc_inj {W : Nat} {up : Int32} : ∀ k j, k < W → j < W → tc W up k = tc W up j → k = j := by
  intro k j hk hj h
  unfold tc at h
  split at h <;> omega
def fo (W : Nat) (up : Int32) : Nat := if up = 0 then 12 - W else 0
theorem tc_fo {W i : Nat} {up : Int32} (hW : W ≤ 12) (hi : i < W) : tc 12 up (i + fo W up) = tc W up i := by
  unfold tc fo
  split <;> omega
theorem row_loop {w r f0 wv : Nat} {up rb x5 x7 x8 : Int32} {g : Nat → Int32} {B : Nat → Bool} (hB : B = fun i => isB g r (tc (wd w) up i)) (hw : w = 0 ∨ (3 ≤ w ∧ w ≤ 12)) (hr : r < 12) (hring : w ≠ 0 → ∀ r k, r < 12 → w ≤ k → k < 12 → g (r * 12 + k) = -1) (hf0 : f0 ≤ 132) (hx8 : (x8 = 1 ∧ f0 = 0 ∧ rb ≠ nI r ∧ x7 = nI (cb B (wd w)) - 1) ∨ (x8 = 0 ∧ ∃ j, j < f0 ∧ x5 = nI j)) : ∀ (f2 i f1 p : Nat) (F : Nat → Int32) (G : Nat → Nat → Int32) (M : Nat → Int32) (N : Nat → Nat → Int32), i ≤ wd w → wd w < i + f2 → 12 < i + fo (wd w) up + f1 → RC F G M N → F 35 = nI w → G 30 = g → WS (f0 + cb B i) p wv F G M N → M 25 = nI (cb B i) → (0 < cb B i → M 23 = nI f0) → M 26 = x8 → (x8 = 0 → M 24 = x5) → (x8 = 1 → ∀ x, x < 144 → x / 12 ≠ r → G 6 x = -1) → ∃ (ok : Bool) (F' : Nat → Int32) (G' : Nat → Nat → Int32) (M' : Nat → Int32) (N' : Nat → Nat → Int32), f_X3_followRow_L34 (nI r) rb up x5 f1 F G (nI f0) x7 x8 (nI (i + fo (wd w) up)) = some (F', G') ∧ f_X5_worksRow_L16 (nI r) rb up f2 M N (lc B (tc (wd w) up) (wd w)) (nI i) = some (b2i ok, M', N') ∧ KF F G F' G' ∧ KM M N M' N' ∧ (ok = true → (∃ p', WS (f0 + cb B (wd w)) p' wv F' G' M' N') ∧ (0 < cb B (wd w) → M' 23 = nI f0)) ∧ (ok = false → (∃ n' p', WT n' p' wv F' G' M' N') ∧ ¬ F' 12 = 0) := by
  have hW := wd_le hw
  intro f2
  induction f2 with
  | zero => intro i f1 p F G M N h1 h2; omega
  | succ f2 ih =>
    intro i f1 p F G M N h1 h2 h3 rc f35 g30 ws m25 m23 m26 m24 prow
    have m2 : M 2 = nI w := by rw [← rc.2.1.2.1, f35]
    by_cases hi : i < wd w
    · have hio : i + fo (wd w) up < 12 := by
        unfold fo
        split <;> omega
      obtain ⟨f1, rfl⟩ : ∃ k, f1 = k + 1 := ⟨f1 - 1, by omega⟩
      have ht := tc_lt (up := up) hi hW.1
      have hcb := cb_le B i
      have hn : f0 + cb B i < 144 := by omega
      have eA : f_X3_followRow_L34 (nI r) rb up x5 (f1 + 1) F G (nI f0) x7 x8 (nI (i + fo (wd w) up)) = f_X3_followRow_B73 (f_X3_followRow_L34 (nI r) rb up x5 f1) (nI r) rb up x5 F G (nI f0) x7 x8 (nI (i + fo (wd w) up)) (nI (tc (wd w) up i)) := by
        show f_X3_followRow_L34_b (f_X3_followRow_L34 (nI r) rb up x5 f1) (nI r) rb up x5 F G (nI f0) x7 x8 (nI (i + fo (wd w) up)) = _
        rw [fr_col _ hio, if_pos ws.2.1, ws.1.2.1.1, if_neg (show ¬ (144 : Int32) ≤ nI (f0 + cb B i) from nI_ge (b := 144) hn (by decide)), tc_fo hW.1 hi]
      have eB : f_X5_worksRow_L16 (nI r) rb up (f2 + 1) M N (lc B (tc (wd w) up) (wd w)) (nI i) = f_X5_worksRow_B43 (f_X5_worksRow_L16 (nI r) rb up f2) (nI r) rb up M N (lc B (tc (wd w) up) (wd w)) (nI i) (nI (tc (wd w) up i)) := by
        show f_X5_worksRow_L16_b (f_X5_worksRow_L16 (nI r) rb up f2) (nI r) rb up M N (lc B (tc (wd w) up) (wd w)) (nI i) = _
        unfold f_X5_worksRow_L16_b
        rw [cols_eq m2 hw, qc_s, qc_s, if_neg (nI_ge hi (by omega))]
        unfold tc
        by_cases q : up = 0
        · rw [if_pos q, show (1 : Int32) = nI 1 from rfl, pk_sub (by omega), pk_sub (by omega)]
          simp only [if_pos q]
        · rw [if_neg q]
          simp only [if_neg q]
      rw [eA, eB]
      have hBi : B i = isB g r (tc (wd w) up i) := by rw [hB]
      unfold f_X5_worksRow_B43
      rw [ix12m, ql_ok (by omega) (by decide), ← rc.1.1, g30]
      by_cases hb : B i = true
      · have hbg : ¬ g (r * 12 + tc (wd w) up i) = -1 := isB_t.mp (by rw [← hBi]; exact hb)
        rw [if_neg hbg]
        obtain ⟨x4, hx4, hx4'⟩ : ∃ x4 : Int32, (¬ x4 = 0 ↔ nI (tc (wd w) up i) = lc B (tc (wd w) up) (wd w)) ∧ x4 = if nI (tc (wd w) up i) = lc B (tc (wd w) up) (wd w) then 1 else 0 := by
          refine ⟨_, ?_, rfl⟩
          by_cases q : nI (tc (wd w) up i) = lc B (tc (wd w) up) (wd w)
          · rw [if_pos q]
            exact ⟨fun _ => q, fun _ => e10⟩
          · rw [if_neg q]
            exact ⟨fun z => absurd rfl z, fun z => absurd z q⟩
        have e78 : (if nI (tc (wd w) up i) = lc B (tc (wd w) up) (wd w) then f_X5_worksRow_B78 (f_X5_worksRow_L16 (nI r) rb up f2) (nI r) rb up M N (lc B (tc (wd w) up) (wd w)) (nI i) (nI r) (nI (tc (wd w) up i)) rb 1 else f_X5_worksRow_B78 (f_X5_worksRow_L16 (nI r) rb up f2) (nI r) rb up M N (lc B (tc (wd w) up) (wd w)) (nI i) (nI r) (nI (tc (wd w) up i)) rb 0) = f_X5_worksRow_B78 (f_X5_worksRow_L16 (nI r) rb up f2) (nI r) rb up M N (lc B (tc (wd w) up) (wd w)) (nI i) (nI r) (nI (tc (wd w) up i)) rb x4 := by
          rw [hx4']
          by_cases q : nI (tc (wd w) up i) = lc B (tc (wd w) up) (wd w)
          · rw [if_pos q, if_pos q]
          · rw [if_neg q, if_neg q]
        rw [e78]
        have hls := lc_last (t := tc (wd w) up) hb hi (fun k hk => by have := tc_lt (up := up) hk hW.1; omega) tc_inj
        have hcW := cb_le B (wd w)
        obtain ⟨A, hBD, hSR⟩ : ∃ A, BD F G r (tc (wd w) up i) rb x5 (nI f0) x7 x8 A ∧ SR (f0 + cb B i) wv (r * 12 + tc (wd w) up i) F G M N A (f_X5_picks M N (nI r) (nI (tc (wd w) up i)) rb x4) := by
          rcases hx8 with ⟨e8, e0, erb, e7⟩ | ⟨e8, j, hj, e5⟩
          · subst e8
            refine bead1 rc f35 hw ws hn hr ht.2 (by rw [g30]; exact hbg) m26 (prow rfl) erb ?_
            rw [hx4, hls, e7, e0, Nat.zero_add, show (1 : Int32) = nI 1 from rfl]
            have hpos : 1 ≤ cb B (wd w) := by
              have := cb_mono (b := B) (i := i + 1) (j := wd w) (by omega)
              rw [cb_s hb] at this
              omega
            rw [pk_sub hpos, nI_eq (by omega) (by omega)]
            omega
          · subst e8
            exact bead2 rc f35 hw ws hn hr ht.2 (by rw [g30]; exact hbg) m26 rfl m25 rfl (m24 rfl) ⟨j, by omega, e5⟩
        obtain ⟨b, F', G', M', N', a1, a2, a3, a4, a5, a6⟩ := hSR
        rw [hBD, a1, qc_s]
        dsimp only
        unfold f_X5_worksRow_B78
        rw [a2, qc_s]
        dsimp only
        cases b with
        | false =>
          rw [if_pos (show b2i false = 0 from rfl)]
          obtain ⟨⟨p', w1⟩, z⟩ := a6 rfl
          have eC : f_X3_followRow_B179 (f_X3_followRow_L34 (nI r) rb up x5 f1) (nI r) rb up x5 F' G' (nI f0) x7 x8 (nI (i + fo (wd w) up)) = some (F', G') := by
            unfold f_X3_followRow_B179
            rw [qn_e, nI_1]
            obtain ⟨f1, rfl⟩ : ∃ k, f1 = k + 1 := ⟨f1 - 1, by omega⟩
            show f_X3_followRow_L34_b (f_X3_followRow_L34 (nI r) rb up x5 f1) (nI r) rb up x5 F' G' (nI f0) x7 x8 (nI (i + fo (wd w) up + 1)) = _
            by_cases q : i + fo (wd w) up + 1 < 12
            · rw [fr_col _ q, if_neg z]
            · unfold f_X3_followRow_L34_b
              rw [if_pos (show (12 : Int32) ≤ nI (i + fo (wd w) up + 1) from nI_le (a := 12) (by omega) (by omega))]
          rw [eC]
          exact ⟨false, F', G', M', N', rfl, rfl, a3, a4, fun z => (by cases z), fun _ => ⟨⟨_, p', w1⟩, z⟩⟩
        | true =>
          rw [if_neg (show ¬ b2i true = 0 by decide)]
          obtain ⟨⟨p', w1⟩, k25, k23, k24, k26, k6⟩ := a5 rfl
          unfold f_X3_followRow_B179 f_X5_worksRow_B86
          rw [qn_e, qn_e, nI_1, nI_1, show i + fo (wd w) up + 1 = i + 1 + fo (wd w) up by omega]
          obtain ⟨ok, F3, G3, M3, N3, b1, b2, b3, b4, b5, b6⟩ := ih (i + 1) f1 p' F' G' M' N' (by omega) (by omega) (by omega) (RC_k rc a3 a4) (by rw [a3.1 35 (by decide), f35]) (by rw [a3.2 30 (by decide), g30]) (by rw [cb_s hb, ← Nat.add_assoc]; exact w1) (by rw [k25, m25, nI_1, cb_s hb]) (fun _ => by
            rw [k23, m25]
            by_cases q : cb B i = 0
            · rw [if_pos (by rw [q]; rfl), q, Nat.add_zero]
            · rw [if_neg (nI_ne0 (by omega) (by omega)), m23 (by omega)]) (by rw [k26, m26]) (fun z => by rw [k24, m24 z]) (fun z x hx hxr => by
            rw [k6, upd_n _ _ (fun q => hxr (by omega))]
            exact prow z x hx hxr)
          exact ⟨ok, F3, G3, M3, N3, b1, b2, a3.tr b3, a4.tr b4, b5, b6⟩
      · have hb0 : B i = false := Bool.eq_false_iff.mpr hb
        have hbg : g (r * 12 + tc (wd w) up i) = -1 := isB_f.mp (by rw [← hBi]; exact hb0)
        rw [if_pos hbg]
        unfold f_X3_followRow_B73 f_X3_followRow_B179 f_X5_worksRow_B86
        rw [colAt hr ht.1, qc_s, g30, if_pos hbg, qn_e, qn_e, nI_1, nI_1, show i + fo (wd w) up + 1 = i + 1 + fo (wd w) up by omega]
        exact ih (i + 1) f1 p F G M N (by omega) (by omega) (by omega) rc f35 g30 (by rw [cb_n hb0]; exact ws) (by rw [cb_n hb0]; exact m25) (by rw [cb_n hb0]; exact m23) m26 m24 prow
    · have e : i = wd w := by omega
      subst e
      have eB : f_X5_worksRow_L16 (nI r) rb up (f2 + 1) M N (lc B (tc (wd w) up) (wd w)) (nI (wd w)) = some (1, M, N) := by
        show f_X5_worksRow_L16_b (f_X5_worksRow_L16 (nI r) rb up f2) (nI r) rb up M N (lc B (tc (wd w) up) (wd w)) (nI (wd w)) = _
        unfold f_X5_worksRow_L16_b
        rw [cols_eq m2 hw, qc_s, if_pos (nI_le (Nat.le_refl _) (by omega))]
      rw [eB, sk_end hr rb up x5 (nI f0) x7 x8 F G f1 (wd w + fo (wd w) up) (by unfold fo; split <;> omega) (by omega) (fun k k1 k2 => by
        unfold fo at k1
        unfold tc
        by_cases q : up = 0
        · rw [if_pos q] at k1
          omega
        · rw [if_neg q] at k1 ⊢
          have h0 : w ≠ 0 := fun z => by
            subst z
            have : wd 0 = 12 := rfl
            omega
          have e : wd w = w := by
            unfold wd
            rw [if_neg h0]
          rw [g30]
          exact hring h0 r k hr (by omega) k2)]
      exact ⟨true, F, G, M, N, rfl, rfl, KF.rf, KM.rf, fun _ => ⟨⟨p, ws⟩, m23⟩, fun z => (by cases z)⟩
