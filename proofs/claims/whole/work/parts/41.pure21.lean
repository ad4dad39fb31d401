/-! the rows -/
theorem WS_m {n p wv : Nat} {F G M N M1} (h : WS n p wv F G M N) (hM : ∀ q, q = 7 ∨ q = 8 ∨ (16 ≤ q ∧ q ≤ 20) → M1 q = M q) : WS n p wv F G M1 N := by
  obtain ⟨a, b, c, d, e, f⟩ := h
  exact ⟨WT_k a (fun _ _ _ => rfl) (fun _ _ _ _ => rfl) rfl (fun _ _ => rfl) (fun q hq => hM q (by omega)) (fun _ _ _ _ _ => rfl) rfl rfl rfl, b, c, d, by rw [hM 7 (by decide), e], f⟩
theorem WT_m {n p wv : Nat} {F G M N M1} (h : WT n p wv F G M N) (hM : ∀ q, q = 8 ∨ (16 ≤ q ∧ q ≤ 20) → M1 q = M q) : WT n p wv F G M1 N :=
  WT_k h (fun _ _ _ => rfl) (fun _ _ _ _ => rfl) rfl (fun _ _ => rfl) hM (fun _ _ _ _ _ => rfl) rfl rfl rfl
theorem frow_eq {w r f0 wv p : Nat} {up rb x5 : Int32} {F G M N} (rc : RC F G M N) (f35 : F 35 = nI w) (hw : w = 0 ∨ (3 ≤ w ∧ w ≤ 12)) (hring : w ≠ 0 → ∀ r k, r < 12 → w ≤ k → k < 12 → G 30 (r * 12 + k) = -1) (hr : r < 12) (hf0 : f0 ≤ 132) (ws : WS f0 p wv F G M N) (hx : (x5 = -1 ∧ f0 = 0 ∧ rb ≠ nI r ∧ M 26 = 1) ∨ (M 26 = 0 ∧ M 24 = x5 ∧ ∃ j, j < f0 ∧ x5 = nI j)) : ∃ (ok : Bool) (F' : Nat → Int32) (G' : Nat → Nat → Int32) (M' : Nat → Int32) (N' : Nat → Nat → Int32), f_X3_followRow F G (nI r) rb up x5 = some (F', G') ∧ f_X5_worksRow M N (nI r) rb up = some (b2i ok, M', N') ∧ KF F G F' G' ∧ KM M N M' N' ∧ (ok = true → (∃ p', WS (f0 + cb (isB (G 30) r) 12) p' wv F' G' M' N') ∧ (0 < cb (isB (G 30) r) 12 → M' 23 = nI f0)) ∧ (ok = false → (∃ n' p', WT n' p' wv F' G' M' N') ∧ ¬ F' 12 = 0) := by
  have hW := wd_le hw
  have m2 : M 2 = nI w := by rw [← rc.2.1.2.1, f35]
  obtain ⟨B, hB⟩ : ∃ B : Nat → Bool, B = fun i => isB (G 30) r (tc (wd w) up i) := ⟨_, rfl⟩
  have hcb : cb (isB (G 30) r) 12 = cb B (wd w) := by
    rw [hB]
    exact cb_row hw hring hr up
  have hcl := cb_le B (wd w)
  obtain ⟨d, hd⟩ : ∃ d, d = fo (wd w) up := ⟨_, rfl⟩
  have hd12 : d ≤ 9 := by
    rw [hd]
    unfold fo
    split <;> omega
  have beg : ∀ x7 x8 : Int32, f_X3_followRow_L34 (nI r) rb up x5 1000 F G (nI f0) x7 x8 0 = f_X3_followRow_L34 (nI r) rb up x5 (1000 - d) F G (nI f0) x7 x8 (nI (0 + fo (wd w) up)) := by
    intro x7 x8
    have := sk_beg hr rb up x5 (nI f0) x7 x8 (F := F) (G := G) ws.2.1 (by rw [ws.1.2.1.1]; exact nI_ge (b := 144) (by omega) (by decide)) d 0 (1000 - d) (by omega) (fun k k1 k2 => by
      rw [hd] at k2
      unfold fo at k2
      unfold tc
      by_cases q : up = 0
      · rw [if_pos q] at k2 ⊢
        have h0 : w ≠ 0 := fun z => by
          subst z
          have : wd 0 = 12 := rfl
          omega
        have e : wd w = w := by
          unfold wd
          rw [if_neg h0]
        exact hring h0 r _ hr (by omega) (by omega)
      · rw [if_neg q] at k2
        omega)
    rw [Nat.sub_add_cancel (by omega)] at this
    rw [← hd]
    exact this
  have eM : f_X5_worksRow M N (nI r) rb up = f_X5_worksRow_L16 (nI r) rb up 1000 (upd M 25 0) N (lc B (tc (wd w) up) (wd w)) (nI 0) := by
    unfold f_X5_worksRow
    rw [lc_eq m2 hw hr up, qc_s, qf_e, qn_e, ← rc.1.1, ← hB]
    rfl
  have uq : ∀ q, q ≠ 25 → upd M 25 0 q = M q := fun q hq => upd_n _ _ hq
  have km : KM M N (upd M 25 0) N := ⟨fun q hq => uq q (by omega), fun _ _ => rfl⟩
  have main : ∀ x7 x8 : Int32, ((x8 = 1 ∧ f0 = 0 ∧ rb ≠ nI r ∧ x7 = nI (cb B (wd w)) - 1) ∨ (x8 = 0 ∧ ∃ j, j < f0 ∧ x5 = nI j)) → M 26 = x8 → (x8 = 0 → M 24 = x5) → (x8 = 1 → ∀ x, x < 144 → x / 12 ≠ r → G 6 x = -1) → f_X3_followRow F G (nI r) rb up x5 = f_X3_followRow_L34 (nI r) rb up x5 1000 F G (nI f0) x7 x8 0 → ∃ (ok : Bool) (F' : Nat → Int32) (G' : Nat → Nat → Int32) (M' : Nat → Int32) (N' : Nat → Nat → Int32), f_X3_followRow F G (nI r) rb up x5 = some (F', G') ∧ f_X5_worksRow M N (nI r) rb up = some (b2i ok, M', N') ∧ KF F G F' G' ∧ KM M N M' N' ∧ (ok = true → (∃ p', WS (f0 + cb (isB (G 30) r) 12) p' wv F' G' M' N') ∧ (0 < cb (isB (G 30) r) 12 → M' 23 = nI f0)) ∧ (ok = false → (∃ n' p', WT n' p' wv F' G' M' N') ∧ ¬ F' 12 = 0) := by
    intro x7 x8 hx8 m26 m24 prow eF
    rw [eF, eM, beg, hcb]
    obtain ⟨ok, F', G', M', N', a1, a2, a3, a4, a5, a6⟩ := row_loop (x7 := x7) hB hw hr hring hf0 hx8 1000 0 (1000 - d) p F G (upd M 25 0) N (by omega) (by omega) (by omega) (RC_k rc KF.rf km) f35 rfl (WS_m ws (fun q hq => uq q (by omega))) (upd_s _ _ _) (fun z => absurd z (Nat.lt_irrefl 0)) (by rw [uq 26 (by decide), m26]) (fun z => by rw [uq 24 (by decide), m24 z]) prow
    exact ⟨ok, F', G', M', N', a1, a2, a3, km.tr a4, a5, a6⟩
  rcases hx with ⟨e5, e0, erb, m26⟩ | ⟨m26, m24, j, hj, e5⟩
  · refine main (nI (cb B (wd w)) - 1) 1 (Or.inl ⟨rfl, e0, erb, rfl⟩) m26 (fun z => absurd z e10) (fun _ x hx _ => ?_) ?_
    · rcases ws.2.2.2.2.2 x hx with z | ⟨j, hj, -⟩
      · exact z
      · omega
    · unfold f_X3_followRow f_X3_followRow_B29
      rw [qn_e, ws.1.2.1.1, br_eq hr, qc_s, qn_e, if_pos e5, qn_e, hcb, e0, nI_add, Nat.zero_add]
  · refine main (nI f0 + nI (cb B (wd w)) - 1) 0 (Or.inr ⟨rfl, j, hj, e5⟩) m26 (fun _ => m24) (fun z => absurd z.symm e10) ?_
    unfold f_X3_followRow f_X3_followRow_B29
    rw [qn_e, ws.1.2.1.1, br_eq hr, qc_s, qn_e, if_neg (by rw [e5]; exact nI_m1 (by omega)), qn_e, hcb]
theorem rb_ne : ∀ r, r < 12 → nI r + 1 ≠ nI r ∧ nI r - 1 ≠ nI r := by decide +kernel
theorem rows_lp {w wv : Nat} {x1 x2 up : Int32} {g : Nat → Int32} (hw : w = 0 ∨ (3 ≤ w ∧ w ≤ 12)) (hring : w ≠ 0 → ∀ r k, r < 12 → w ≤ k → k < 12 → g (r * 12 + k) = -1) : ∀ (f i n p : Nat) (rs x5 : Int32) (F : Nat → Int32) (G : Nat → Nat → Int32) (M : Nat → Int32) (N : Nat → Nat → Int32), i ≤ 12 → 12 < i + f → RC F G M N → F 35 = nI w → G 30 = g → WS n p wv F G M N → n ≤ 12 * i → ((x5 = -1 ∧ n = 0 ∧ M 26 = 1) ∨ (M 26 = 0 ∧ M 24 = x5 ∧ ∃ j, j < n ∧ x5 = nI j)) → ∃ (F' : Nat → Int32) (G' : Nat → Nat → Int32) (M' : Nat → Int32) (N' : Nat → Nat → Int32), f_X3_follow_L35 x2 f F G up rs x5 (nI i) = some (F', G') ∧ f_X5_tries_L86 x1 f M N up rs 1 (nI i) = some (M', N') ∧ KF F G F' G' ∧ KM M N M' N' ∧ ∃ n' p', WT n' p' wv F' G' M' N' := by
  intro f
  induction f with
  | zero => intro i n p rs x5 F G M N h1 h2; omega
  | succ f ih =>
    intro i n p rs x5 F G M N h1 h2 rc f35 g30 ws hn hx
    have m2 : M 2 = nI w := by rw [← rc.2.1.2.1, f35]
    show ∃ (F' : Nat → Int32) (G' : Nat → Nat → Int32) (M' : Nat → Int32) (N' : Nat → Nat → Int32), f_X3_follow_L35_b (f_X3_follow_L35 x2 f) x2 F G up rs x5 (nI i) = some (F', G') ∧ f_X5_tries_L86_b (f_X5_tries_L86 x1 f) x1 M N up rs 1 (nI i) = some (M', N') ∧ _
    by_cases hi : i < 12
    · obtain ⟨r, hr0⟩ : ∃ r, r = tc 12 up i := ⟨_, rfl⟩
      have hr : r < 12 := by
        rw [hr0]
        exact (tc_lt hi (Nat.le_refl _)).1
      have eA : f_X3_follow_L35_b (f_X3_follow_L35 x2 f) x2 F G up rs x5 (nI i) = f_X3_follow_B63 (f_X3_follow_L35 x2 f) x2 F G up rs x5 (nI i) (nI r) := by
        unfold f_X3_follow_L35_b
        rw [if_neg (show ¬ (12 : Int32) ≤ nI i from nI_ge (b := 12) hi (by decide)), if_pos ws.2.1, hr0]
        unfold tc
        by_cases q : up = 0
        · rw [if_pos q, if_pos q, show (11 : Int32) = nI 11 from rfl, pk_sub (by omega)]
        · rw [if_neg q, if_neg q]
      have eB : f_X5_tries_L86_b (f_X5_tries_L86 x1 f) x1 M N up rs 1 (nI i) = f_X5_tries_B112 (f_X5_tries_L86 x1 f) x1 M N up rs 1 (nI i) (nI r) := by
        unfold f_X5_tries_L86_b
        rw [if_neg (show ¬ (12 : Int32) ≤ nI i from nI_ge (b := 12) hi (by decide)), if_neg e10, hr0]
        unfold tc
        by_cases q : up = 0
        · rw [if_pos q, if_pos q, show (11 : Int32) = nI 11 from rfl, pk_sub (by omega)]
        · rw [if_neg q, if_neg q]
      rw [eA, eB]
      unfold f_X3_follow_B63 f_X5_tries_B112
      have re := row_eq hw hring hr
      have hcl := cb_le (isB g r) 12
      rw [br_eq hr, qc_s, lc_eq m2 hw hr 1, qc_s, ← rc.1.1, g30]
      by_cases e0 : cb (isB g r) 12 = 0
      · rw [e0, if_pos (by decide), if_pos (re.mp e0)]
        unfold f_X3_follow_B134 f_X5_tries_B182
        rw [qn_e, qn_e, nI_1]
        exact ih (i + 1) n p rs x5 F G M N (by omega) (by omega) rc f35 g30 ws (by omega) hx
      · rw [if_neg (nI_nle (by omega) (by omega)), if_neg (fun z => e0 (re.mpr z)), qn_e, ws.1.2.1.1]
        obtain ⟨rb, hrb, hrb2⟩ : ∃ rb : Int32, rb = (if up = 0 then nI r + 1 else nI r - 1) ∧ rb ≠ nI r := by
          refine ⟨_, rfl, ?_⟩
          by_cases q : up = 0
          · rw [if_pos q]
            exact (rb_ne r hr).1
          · rw [if_neg q]
            exact (rb_ne r hr).2
        have eA2 : (if up = 0 then f_X3_follow_B99 (f_X3_follow_L35 x2 f) x2 F G up rs x5 (nI i) (nI n) (nI r) (nI r + 1) else f_X3_follow_B99 (f_X3_follow_L35 x2 f) x2 F G up rs x5 (nI i) (nI n) (nI r) (nI r - 1)) = f_X3_follow_B99 (f_X3_follow_L35 x2 f) x2 F G up rs x5 (nI i) (nI n) (nI r) rb := by
          rw [hrb]
          by_cases q : up = 0
          · rw [if_pos q, if_pos q]
          · rw [if_neg q, if_neg q]
        have eB2 : (if up = 0 then f_X5_tries_B146 (f_X5_tries_L86 x1 f) x1 M N up rs (nI i) (nI r) (nI r + 1) else f_X5_tries_B146 (f_X5_tries_L86 x1 f) x1 M N up rs (nI i) (nI r) (nI r - 1)) = f_X5_tries_B146 (f_X5_tries_L86 x1 f) x1 M N up rs (nI i) (nI r) rb := by
          rw [hrb]
          by_cases q : up = 0
          · rw [if_pos q, if_pos q]
          · rw [if_neg q, if_neg q]
        rw [eA2, eB2]
        obtain ⟨ok, F', G', M', N', a1, a2, a3, a4, a5, a6⟩ := frow_eq (up := rs) (rb := rb) (x5 := x5) rc f35 hw (by rw [g30]; exact hring) hr (show n ≤ 132 by omega) ws (by
          rcases hx with ⟨z1, z2, z3⟩ | z
          · exact Or.inl ⟨z1, z2, hrb2, z3⟩
          · exact Or.inr z)
        rw [g30] at a5
        unfold f_X3_follow_B99 f_X5_tries_B146
        rw [a1, qc_s, a2, qc_s]
        dsimp only
        rw [qf_e, qf_e]
        obtain ⟨M3, hM3⟩ : ∃ M3, M3 = upd (upd M' 24 (M' 23)) 26 0 := ⟨_, rfl⟩
        have mq : ∀ q, q ≠ 24 → q ≠ 26 → M3 q = M' q := fun q h1 h2 => by rw [hM3, upd_n _ _ h2, upd_n _ _ h1]
        rw [← hM3]
        have f35' : F' 35 = nI w := by rw [a3.1 35 (by decide), f35]
        have m2' : M3 2 = nI w := by rw [mq 2 (by decide) (by decide), a4.1 2 (by decide), m2]
        obtain ⟨rs', hrs⟩ : ∃ rs' : Int32, rs' = if nI w = 0 then (if rs = 0 then 1 else 0) else rs := ⟨_, rfl⟩
        have eA3 : (if F' 35 = 0 then (if rs = 0 then f_X3_follow_B132 (f_X3_follow_L35 x2 f) x2 F' G' up (nI n) (nI i) 1 else f_X3_follow_B132 (f_X3_follow_L35 x2 f) x2 F' G' up (nI n) (nI i) 0) else f_X3_follow_B132 (f_X3_follow_L35 x2 f) x2 F' G' up (nI n) (nI i) rs) = f_X3_follow_L35 x2 f F' G' up rs' (nI n) (nI (i + 1)) := by
          unfold f_X3_follow_B132 f_X3_follow_B134
          rw [qn_e, qn_e, qn_e, nI_1, hrs, f35']
          by_cases q : nI w = 0
          · rw [if_pos q, if_pos q]
            by_cases q2 : rs = 0
            · rw [if_pos q2, if_pos q2]
            · rw [if_neg q2, if_neg q2]
          · rw [if_neg q, if_neg q]
        have eB3 : (if M3 2 = 0 then (if rs = 0 then f_X5_tries_B181 (f_X5_tries_L86 x1 f) x1 M3 N' up (b2i ok) (nI i) 1 else f_X5_tries_B181 (f_X5_tries_L86 x1 f) x1 M3 N' up (b2i ok) (nI i) 0) else f_X5_tries_B182 (f_X5_tries_L86 x1 f) x1 M3 N' up rs (b2i ok) (nI i)) = f_X5_tries_L86 x1 f M3 N' up rs' (b2i ok) (nI (i + 1)) := by
          unfold f_X5_tries_B181 f_X5_tries_B182
          rw [qn_e, qn_e, qn_e, nI_1, hrs, m2']
          by_cases q : nI w = 0
          · rw [if_pos q, if_pos q]
            by_cases q2 : rs = 0
            · rw [if_pos q2, if_pos q2]
            · rw [if_neg q2, if_neg q2]
          · rw [if_neg q, if_neg q]
        rw [eA3, eB3]
        have km3 : KM M N M3 N' := a4.tr ⟨fun q hq => mq q (by omega) (by omega), fun _ _ => rfl⟩
        cases ok with
        | false =>
          obtain ⟨⟨n', p', w1⟩, z⟩ := a6 rfl
          obtain ⟨f, rfl⟩ : ∃ k, f = k + 1 := ⟨f - 1, by omega⟩
          have eA4 : f_X3_follow_L35 x2 (f + 1) F' G' up rs' (nI n) (nI (i + 1)) = some (F', G') := by
            show f_X3_follow_L35_b (f_X3_follow_L35 x2 f) x2 F' G' up rs' (nI n) (nI (i + 1)) = _
            unfold f_X3_follow_L35_b
            by_cases q : (12 : Int32) ≤ nI (i + 1)
            · rw [if_pos q]
            · rw [if_neg q, if_neg z]
          have eB4 : f_X5_tries_L86 x1 (f + 1) M3 N' up rs' (b2i false) (nI (i + 1)) = some (M3, N') := by
            show f_X5_tries_L86_b (f_X5_tries_L86 x1 f) x1 M3 N' up rs' (b2i false) (nI (i + 1)) = _
            unfold f_X5_tries_L86_b
            by_cases q : (12 : Int32) ≤ nI (i + 1)
            · rw [if_pos q]
            · rw [if_neg q, if_pos (show b2i false = 0 from rfl)]
          rw [eA4, eB4]
          exact ⟨F', G', M3, N', rfl, rfl, a3, km3, n', p', WT_m w1 (fun q hq => mq q (by omega) (by omega))⟩
        | true =>
          obtain ⟨⟨p', w1⟩, k23⟩ := a5 rfl
          obtain ⟨F4, G4, M4, N4, b1, b2, b3, b4, b5⟩ := ih (i + 1) (n + cb (isB g r) 12) p' rs' (nI n) F' G' M3 N' (by omega) (by omega) (RC_k rc a3 km3) f35' (by rw [a3.2 30 (by decide), g30]) (WS_m w1 (fun q hq => mq q (by omega) (by omega))) (by omega) (Or.inr ⟨by rw [hM3, upd_s], by rw [hM3, upd_n _ _ (by decide), upd_s, k23 (by omega)], n, by omega, rfl⟩)
          exact ⟨F4, G4, M4, N4, b1, b2, a3.tr b3, km3.tr b4, b5⟩
    · have e : i = 12 := by omega
      subst e
      unfold f_X3_follow_L35_b f_X5_tries_L86_b
      rw [if_pos (by decide), if_pos (by decide)]
      exact ⟨F, G, M, N, rfl, rfl, KF.rf, KM.rf, n, p, ws.1⟩
theorem t0_loop {M : Nat → Int32} (x1 : Int32) : ∀ (f i : Nat) (N : Nat → Nat → Int32), i ≤ 144 → 144 < i + f → (∀ j, j < i → N 15 j = -1) → ∃ N' : Nat → Nat → Int32, f_X5_tries_L32 x1 f M N (nI i) = (if (2 : Int32) ≤ x1 then f_X5_tries_B62 x1 M N' 0 else f_X5_tries_B62 x1 M N' 1) ∧ (∀ q, q ≠ 15 → N' q = N q) ∧ (∀ j, j < 144 → N' 15 j = -1) := by
  intro f
  induction f with
  | zero => intro i N h1 h2; omega
  | succ f ih =>
    intro i N h1 h2 h3
    show ∃ N' : Nat → Nat → Int32, f_X5_tries_L32_b (f_X5_tries_L32 x1 f) x1 M N (nI i) = _ ∧ _
    unfold f_X5_tries_L32_b
    by_cases hi : i < 144
    · rw [if_neg (show ¬ (144 : Int32) ≤ nI i from nI_ge (b := 144) hi (by decide)), qs_ok hi (by decide), qn_e, nI_1]
      obtain ⟨N', a1, a2, a3⟩ := ih (i + 1) (qG N 15 i (-1)) (by omega) (by omega) (fun j hj => by
        rw [qG_s]
        by_cases e : j = i
        · rw [e, upd_s]
        · rw [upd_n _ _ e]
          exact h3 j (by omega))
      exact ⟨N', a1, fun q hq => by rw [a2 q hq, qG_n _ _ _ hq], a3⟩
    · have e : i = 144 := by omega
      subst e
      rw [if_pos (by decide)]
      exact ⟨N, rfl, fun _ _ => rfl, h3⟩
theorem fol_eq {F G M N} (rc : RC F G M N) (x2 : Int32) : ∃ (F' : Nat → Int32) (G' : Nat → Nat → Int32) (M' : Nat → Int32) (N' : Nat → Nat → Int32), f_X3_follow F G x2 = some (F', G') ∧ f_X5_tries M N x2 = some (M', N') ∧ KF F G F' G' ∧ KM M N M' N' ∧ ∃ n p wv, WT n p wv F' G' M' N' := by
  obtain ⟨w, hw, f35, hring⟩ := rc.2.2.2.2.2.1
  obtain ⟨wv, hwv, f37⟩ := rc.2.2.2.2.2.2
  obtain ⟨F1, hF1⟩ : ∃ F1, F1 = upd (upd (upd (upd (upd (upd (upd (upd (upd F 10 1) 11 0) 12 0) 13 (-1)) 14 0) 15 0) 16 0) 17 0) 18 (F 37) := ⟨_, rfl⟩
  obtain ⟨M1, hM1⟩ : ∃ M1, M1 = upd (upd (upd (upd (upd (upd M 8 0) 16 0) 17 (-1)) 18 0) 19 0) 20 0 := ⟨_, rfl⟩
  obtain ⟨G1, hG1⟩ : ∃ G1, G1 = qGf G 6 144 (-1) := ⟨_, rfl⟩
  have sa : f_X3_startAnew F G = some (F1, G1) := by
    unfold f_X3_startAnew
    show (qf F 10 (1 : Int32) fun F2 => _) = _
    rw [qf_e, qf_e, qf_e, qf_e, qf_e, qf_e, qf_e, qf_e, qf_e, hF1, hG1, upd_n _ _ (show 37 ≠ 17 by decide), upd_n _ _ (show 37 ≠ 16 by decide), upd_n _ _ (show 37 ≠ 15 by decide), upd_n _ _ (show 37 ≠ 14 by decide), upd_n _ _ (show 37 ≠ 13 by decide), upd_n _ _ (show 37 ≠ 12 by decide), upd_n _ _ (show 37 ≠ 11 by decide), upd_n _ _ (show 37 ≠ 10 by decide), qf_e]
  have gq : ∀ q, q ≠ 6 → G1 q = G q := fun q hq => by
    rw [hG1]
    unfold qGf
    rw [if_neg hq]
  have g6 : ∀ j, j < 144 → G1 6 j = -1 := fun j hj => by
    rw [hG1]
    unfold qGf flf
    rw [if_pos rfl, if_pos hj]
  obtain ⟨N1, t1, t2, t3⟩ := t0_loop (M := M1) x2 1000 0 N (by decide) (by decide) (fun j hj => absurd hj (Nat.not_lt_zero j))
  have et : f_X5_tries M N x2 = (if (2 : Int32) ≤ x2 then f_X5_tries_B62 x2 M1 N1 0 else f_X5_tries_B62 x2 M1 N1 1) := by
    unfold f_X5_tries
    rw [qf_e, qf_e, qf_e, qf_e, qf_e, qf_e, qn_e, ← hM1, show (0 : Int32) = nI 0 from rfl, t1]
    rfl
  obtain ⟨M2, hM2⟩ : ∃ M2, M2 = upd M1 26 1 := ⟨_, rfl⟩
  have fq : ∀ q, ¬ (10 ≤ q ∧ q ≤ 18) → F1 q = F q := fun q hq => by
    rw [hF1, upd_n _ _ (by omega), upd_n _ _ (by omega), upd_n _ _ (by omega), upd_n _ _ (by omega), upd_n _ _ (by omega), upd_n _ _ (by omega), upd_n _ _ (by omega), upd_n _ _ (by omega), upd_n _ _ (by omega)]
  have mq : ∀ q, q ≠ 8 → ¬ (16 ≤ q ∧ q ≤ 20) → q ≠ 26 → M2 q = M q := fun q h1 h2 h3 => by
    rw [hM2, upd_n _ _ h3, hM1, upd_n _ _ (by omega), upd_n _ _ (by omega), upd_n _ _ (by omega), upd_n _ _ (by omega), upd_n _ _ (by omega), upd_n _ _ h1]
  have kf : KF F G F1 G1 := ⟨fun q hq => fq q (by omega), fun q hq => gq q (by omega)⟩
  have km : KM M N M2 N1 := ⟨fun q hq => mq q (by omega) (by omega) (by omega), fun q hq => t2 q (by omega)⟩
  have ws : WS 0 0 wv F1 G1 M2 N1 := by
    refine ⟨⟨⟨by decide, by decide, hwv⟩, ⟨?_, ?_⟩, ⟨?_, ?_⟩, ?_, ?_, ⟨?_, ?_, ?_, ?_⟩, ?_, fun k hk => ?_, fun c hc => ?_, fun q q1 q2 => ?_, fun z => absurd z (Nat.lt_irrefl 0), fun k hk => ?_⟩, ?_, Nat.le_refl _, fun _ => rfl, ?_, fun c hc => Or.inl (g6 c hc)⟩
    · rw [hF1, upd_n _ _ (by decide), upd_n _ _ (by decide), upd_n _ _ (by decide), upd_n _ _ (by decide), upd_n _ _ (by decide), upd_n _ _ (by decide), upd_n _ _ (by decide), upd_s]
      rfl
    · rw [hM2, upd_n _ _ (by decide), hM1, upd_n _ _ (by decide), upd_n _ _ (by decide), upd_n _ _ (by decide), upd_n _ _ (by decide), upd_n _ _ (by decide), upd_s]
      rfl
    · rw [hF1, upd_n _ _ (by decide), upd_n _ _ (by decide), upd_n _ _ (by decide), upd_n _ _ (by decide), upd_s]
      rfl
    · rw [hM2, upd_n _ _ (by decide), hM1, upd_n _ _ (by decide), upd_n _ _ (by decide), upd_s]
      rfl
    · rw [hF1, upd_s, f37]
    · rw [hF1, upd_n _ _ (by decide), upd_n _ _ (by decide), upd_n _ _ (by decide), upd_n _ _ (by decide), upd_n _ _ (by decide), upd_n _ _ (by decide), upd_n _ _ (by decide), upd_n _ _ (by decide), upd_s]
    · rw [hF1, upd_n _ _ (by decide), upd_n _ _ (by decide), upd_n _ _ (by decide), upd_n _ _ (by decide), upd_n _ _ (by decide), upd_n _ _ (by decide), upd_s, hM2, upd_n _ _ (by decide), hM1, upd_n _ _ (by decide), upd_n _ _ (by decide), upd_n _ _ (by decide), upd_n _ _ (by decide), upd_s]
    · rw [hF1, upd_n _ _ (by decide), upd_n _ _ (by decide), upd_n _ _ (by decide), upd_n _ _ (by decide), upd_n _ _ (by decide), upd_s, hM2, upd_n _ _ (by decide), hM1, upd_n _ _ (by decide), upd_n _ _ (by decide), upd_n _ _ (by decide), upd_s]
    · rw [hF1, upd_n _ _ (by decide), upd_n _ _ (by decide), upd_n _ _ (by decide), upd_s, hM2, upd_n _ _ (by decide), hM1, upd_n _ _ (by decide), upd_s]
    · rw [hF1, upd_n _ _ (by decide), upd_n _ _ (by decide), upd_s, hM2, upd_n _ _ (by decide), hM1, upd_s]
    · rw [hF1, upd_n _ _ (by decide), upd_s]
      rfl
    · omega
    · rw [g6 c hc, t3 c hc]
    · omega
    · omega
    · rw [hF1, upd_n _ _ (by decide), upd_n _ _ (by decide), upd_n _ _ (by decide), upd_n _ _ (by decide), upd_n _ _ (by decide), upd_n _ _ (by decide), upd_s]
    · rw [mq 7 (by decide) (by decide) (by decide), ← rc.2.1.2.2.2, f37]
  have main : ∀ up rs : Int32, ∃ (F' : Nat → Int32) (G' : Nat → Nat → Int32) (M' : Nat → Int32) (N' : Nat → Nat → Int32), f_X3_follow_B27 x2 F1 G1 up rs = some (F', G') ∧ f_X5_tries_B74 x2 M1 N1 up rs = some (M', N') ∧ KF F G F' G' ∧ KM M N M' N' ∧ ∃ n p wv, WT n p wv F' G' M' N' := by
    intro up rs
    unfold f_X3_follow_B27 f_X5_tries_B74
    rw [qn_e, qn_e, qf_e, qn_e, qn_e, ← hM2]
    obtain ⟨F', G', M', N', a1, a2, a3, a4, n, p, a5⟩ := rows_lp (x1 := x2) (x2 := x2) (up := up) (wv := wv) hw hring 1000 0 0 0 rs (-1) F1 G1 M2 N1 (by decide) (by decide) (RC_k rc kf km) (by rw [fq 35 (by decide), f35]) (gq 30 (by decide)) ws (by decide) (Or.inl ⟨rfl, rfl, by rw [hM2, upd_s]⟩)
    exact ⟨F', G', M', N', a1, a2, kf.tr a3, km.tr a4, n, p, wv, a5⟩
  rw [et]
  unfold f_X3_follow
  rw [sa, qc_s]
  dsimp only
  unfold f_X3_follow_B15 f_X5_tries_B62
  by_cases q : (2 : Int32) ≤ x2
  · rw [if_pos q, if_pos q]
    by_cases q2 : (x2 - x2 / (2 : Int32) * (2 : Int32)) = 0
    · rw [if_pos q2, if_pos q2]
      exact main 0 1
    · rw [if_neg q2, if_neg q2]
      exact main 0 0
  · rw [if_neg q, if_neg q]
    by_cases q2 : (x2 - x2 / (2 : Int32) * (2 : Int32)) = 0
    · rw [if_pos q2, if_pos q2]
      exact main 1 1
    · rw [if_neg q2, if_neg q2]
      exact main 1 0
