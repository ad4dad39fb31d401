/-! pull: the class -/
def wvi (wov : Nat → Int32) (pc : Int32) (j : Nat) : Int32 := if pc = 0 then -1 else wov (pc.toNatClampNeg * 6 + j)
theorem wvi_n (wov : Nat → Int32) {q : Nat} (j : Nat) (h : 1 ≤ q) (h2 : q < 1000) : wvi wov (nI q) j = wov (q * 6 + j) := by
  unfold wvi
  rw [if_neg (nI_ne0 (by omega) (by omega)), nI_clamp (by omega)]
theorem wvi_0 (wov : Nat → Int32) (j : Nat) : wvi wov (nI 0) j = -1 := rfl
def PC (wv : Nat) (piece lo up wov : Nat → Int32) (m : Nat → Bool) (i : Nat) : Prop :=
  (piece (i - 1) = piece i ∧ m (i - 1) = true) ∨ (ma m (lo i) = true ∨ ma m (up i) = true) ∨ ∃ j, j < wv ∧ ma m (wvi wov (piece i) j) = true
/-- a number below i, or none -/
def lt1 (i : Nat) (x : Int32) : Prop := x = -1 ∨ ∃ j, j < i ∧ x = nI j
theorem ma_cong {m m' : Nat → Bool} {i : Nat} {x : Int32} (hi : i ≤ 1000) (hx : lt1 i x) (h : ∀ j, j < i → m j = m' j) : ma m x = ma m' x := by
  rcases hx with rfl | ⟨j, hj, rfl⟩
  · rfl
  · rw [ma_n _ (by omega), ma_n _ (by omega), h j hj]
theorem PC_cong {wv : Nat} {piece lo up wov : Nat → Int32} {m m' : Nat → Bool} {i : Nat} (hi1 : 1 ≤ i) (hi : i ≤ 1000) (hl : lt1 i (lo i)) (hu : lt1 i (up i)) (hw : ∀ j, j < wv → lt1 i (wvi wov (piece i) j)) (h : ∀ j, j < i → m j = m' j) : PC wv piece lo up wov m i ↔ PC wv piece lo up wov m' i := by
  unfold PC
  rw [h (i - 1) (by omega), ma_cong hi hl h, ma_cong hi hu h]
  have e : (∃ j, j < wv ∧ ma m (wvi wov (piece i) j) = true) ↔ (∃ j, j < wv ∧ ma m' (wvi wov (piece i) j) = true) :=
    ⟨fun ⟨j, a, b⟩ => ⟨j, a, by rw [← ma_cong hi (hw j a) h]; exact b⟩, fun ⟨j, a, b⟩ => ⟨j, a, by rw [ma_cong hi (hw j a) h]; exact b⟩⟩
  rw [e]
theorem wIn_eq {F : Nat → Int32} {G : Nat → Nat → Int32} {p wv q j : Nat} (h14 : F 14 = nI p) (h18 : F 18 = nI wv) (hp : p ≤ 144) (hwv : wv ≤ 6) (hq : q < p) (hj : j < wv) : f_X3_wovenIn F G (nI q) (nI j) = some (wvi (G 7) (nI q) j) := by
  unfold f_X3_wovenIn
  rw [h14, h18]
  by_cases h0 : q = 0
  · subst h0
    rw [if_pos (show nI 0 < (1 : Int32) by decide), wvi_0]
  · rw [if_neg (show ¬ nI q < (1 : Int32) from nI_nlt (b := 1) (by omega) (by omega)), if_neg (nI_ge hq (by omega)), if_neg (nI_pos (by omega)), if_pos (nI_lt hj (by omega)), show nI q * 6 + nI j = nI (q * 6 + j) by rw [show (6 : Int32) = nI 6 from rfl, pk_mul, nI_add], ql_ok (by omega) (by decide), wvi_n _ _ (by omega) (by omega)]
theorem wm_no {F : Nat → Int32} {G : Nat → Nat → Int32} {p wv q i : Nat} {m : Nat → Bool} (h14 : F 14 = nI p) (h18 : F 18 = nI wv) (hp : p ≤ 144) (hwv : wv ≤ 6) (hq : q < p) (hi : i < 144) (h2 : G 2 i = nI q) (h40 : ∀ j, j < 144 → G 40 j = b2i (m j)) (hw : ∀ j, j < wv → lt1 144 (wvi (G 7) (nI q) j)) (hno : ∀ j, j < wv → ma m (wvi (G 7) (nI q) j) = false) : ∀ f x, x ≤ wv → wv < x + f → f_X1_isWovenInMarked_L2 F G (nI i) f (nI x) = some 0 := by
  intro f
  induction f with
  | zero => intro x h1 h2; omega
  | succ f ih =>
    intro x h1 h3
    show f_X1_isWovenInMarked_L2_b (f_X1_isWovenInMarked_L2 F G (nI i) f) F G (nI i) (nI x) = some 0
    unfold f_X1_isWovenInMarked_L2_b
    rw [h18]
    by_cases hx : x < wv
    · rw [if_neg (nI_ge hx (by omega)), ql_ok hi (by decide), h2, wIn_eq h14 h18 hp hwv hq hx, qc_s, im_eq h40 (hw x hx), hno x hx, qc_s, if_pos b2i_f, qn_e, nI_1]
      exact ih (x + 1) (by omega) (by omega)
    · rw [if_pos (nI_le (by omega) (by omega))]
theorem wm_yes {F : Nat → Int32} {G : Nat → Nat → Int32} {p wv q i : Nat} {m : Nat → Bool} (h14 : F 14 = nI p) (h18 : F 18 = nI wv) (hp : p ≤ 144) (hwv : wv ≤ 6) (hq : q < p) (hi : i < 144) (h2 : G 2 i = nI q) (h40 : ∀ j, j < 144 → G 40 j = b2i (m j)) (hw : ∀ j, j < wv → lt1 144 (wvi (G 7) (nI q) j)) : ∀ f x, wv < x + f → (∃ j, x ≤ j ∧ j < wv ∧ ma m (wvi (G 7) (nI q) j) = true) → f_X1_isWovenInMarked_L2 F G (nI i) f (nI x) = some 1 := by
  intro f
  induction f with
  | zero => intro x h2 ⟨j, a, b, _⟩; omega
  | succ f ih =>
    intro x h3 ⟨j, ha, hb, hc⟩
    show f_X1_isWovenInMarked_L2_b (f_X1_isWovenInMarked_L2 F G (nI i) f) F G (nI i) (nI x) = some 1
    unfold f_X1_isWovenInMarked_L2_b
    have hx : x < wv := by omega
    rw [h18, if_neg (nI_ge hx (by omega)), ql_ok hi (by decide), h2, wIn_eq h14 h18 hp hwv hq hx, qc_s, im_eq h40 (hw x hx), qc_s]
    cases hm : ma m (wvi (G 7) (nI q) x)
    · rw [if_pos b2i_f, qn_e, nI_1]
      have : ¬ x = j := fun z => by rw [z, hc] at hm; cases hm
      exact ih (x + 1) (by omega) ⟨j, by omega, hb, hc⟩
    · rw [if_neg (show ¬ b2i true = 0 by decide)]
theorem bm_eq {F : Nat → Int32} {G : Nat → Nat → Int32} {i : Nat} {m : Nat → Bool} (h40 : ∀ j, j < 144 → G 40 j = b2i (m j)) (h1 : 1 ≤ i) (hi : i < 144) : f_X1_isBehindMarked F G (nI i) = some (b2i (decide (G 2 (i - 1) = G 2 i) && m (i - 1))) := by
  unfold f_X1_isBehindMarked
  rw [show nI i - 1 = nI (i - 1) from pk_sub (b := 1) h1, ql_ok (by omega) (by decide), ql_ok hi (by decide)]
  by_cases e : G 2 (i - 1) = G 2 i
  · rw [if_pos e, im_eq h40 (Or.inr ⟨i - 1, by omega, rfl⟩), ma_n _ (by omega), qc_s, decide_eq_true e, Bool.true_and]
    cases m (i - 1) <;> rfl
  · rw [if_neg e, decide_eq_false e]
    rfl
theorem pull_loop {n k p wv : Nat} (hn : n ≤ 144) (hk : k < n) (hp : p ≤ 144) (hwv : wv ≤ 6) {F : Nat → Int32} (hF : F 11 = nI n) (h14 : F 14 = nI p) (h18 : F 18 = nI wv) {piece lo up wov : Nat → Int32} (hpc : ∀ j, j < n → ∃ q, q < p ∧ piece j = nI q) (hlo : ∀ j, j < n → lt1 j (lo j)) (hup : ∀ j, j < n → lt1 j (up j)) (hwo : ∀ j, j < n → ∀ x, x < wv → lt1 j (wvi wov (piece j) x)) : ∀ (f i : Nat) (m : Nat → Bool) (G : Nat → Nat → Int32), k < i → i ≤ n → n < i + f → G 2 = piece → G 4 = lo → G 5 = up → G 7 = wov → (∀ j, j < 144 → G 40 j = b2i (m j)) → (∀ j, i ≤ j → m j = false) →
    ∃ (m' : Nat → Bool) (g : Nat → Int32), f_X1_markPulledOut_L12 (nI k) f F G (nI (cb m i)) (nI i) = some (nI (cb m' n), F, pz g 40 G) ∧ (∀ j, j < 144 → g j = b2i (m' j)) ∧ (∀ j, j < i → m' j = m j) ∧ (∀ j, i ≤ j → j < n → (m' j = true ↔ PC wv piece lo up wov m' j)) ∧ (∀ j, n ≤ j → m' j = false) := by
  intro f
  induction f with
  | zero => intro i m G h1 h2 h3; omega
  | succ f ih =>
    intro i m G h1 h2 h3 e2 e4 e5 e7 h40 hmi
    show ∃ (m' : Nat → Bool) (g : Nat → Int32), f_X1_markPulledOut_L12_b (f_X1_markPulledOut_L12 (nI k) f) (nI k) F G (nI (cb m i)) (nI i) = some (nI (cb m' n), F, pz g 40 G) ∧ _
    unfold f_X1_markPulledOut_L12_b
    rw [hF]
    by_cases hi : i < n
    · have hi2 : i < 144 := by omega
      rw [if_neg (nI_ge hi (by omega))]
      obtain ⟨q, hq, eq⟩ := hpc i hi
      have hw2 : ∀ j, j < wv → lt1 144 (wvi (G 7) (nI q) j) := fun j hj => by
        have := hwo i hi j hj
        rw [eq, ← e7] at this
        exact this.imp id (fun ⟨x, a, b⟩ => ⟨x, by omega, b⟩)
      -- the step, once it is known whether the bead goes
      have go : ∀ P : Bool, (P = true ↔ PC wv piece lo up wov m i) → ∃ (m' : Nat → Bool) (g : Nat → Int32), (if P = true then f_X1_markPulledOut_B51 (f_X1_markPulledOut_L12 (nI k) f) (nI k) F G (nI (cb m i)) (nI i) else f_X1_markPulledOut_B62 (f_X1_markPulledOut_L12 (nI k) f) (nI k) F G (nI (cb m i)) (nI i)) = some (nI (cb m' n), F, pz g 40 G) ∧ (∀ j, j < 144 → g j = b2i (m' j)) ∧ (∀ j, j < i → m' j = m j) ∧ (∀ j, i ≤ j → j < n → (m' j = true ↔ PC wv piece lo up wov m' j)) ∧ (∀ j, n ≤ j → m' j = false) := by
        intro P hP
        have hcb : cb (fun j => if j = i then P else m j) (i + 1) = cb m i + (if P = true then 1 else 0) := by
          show cb (fun j => if j = i then P else m j) i + (if (if i = i then P else m i) = true then 1 else 0) = _
          rw [if_pos rfl, cb_cong (q := m) (fun q hq => if_neg (by omega))]
        have fin : ∀ (m' : Nat → Bool), (∀ j, j < i + 1 → m' j = if j = i then P else m j) → (∀ j, i + 1 ≤ j → j < n → (m' j = true ↔ PC wv piece lo up wov m' j)) → (∀ j, j < i → m' j = m j) ∧ (∀ j, i ≤ j → j < n → (m' j = true ↔ PC wv piece lo up wov m' j)) := by
          intro m' ha hb
          have hlt : ∀ j, j < i → m' j = m j := fun j hj => by rw [ha j (by omega), if_neg (by omega)]
          refine ⟨hlt, fun j hj1 hj2 => ?_⟩
          by_cases e : j = i
          · subst e
            rw [ha j (by omega), if_pos rfl, hP]
            exact PC_cong (by omega) (by omega) (hlo j hi) (hup j hi) (hwo j hi) (fun x hx => (hlt x hx).symm)
          · exact hb j (by omega) hj2
        unfold f_X1_markPulledOut_B51 f_X1_markPulledOut_B62
        cases P
        · rw [if_neg (by decide), qn_e, nI_1]
          obtain ⟨m', g, r1, r2, r3, r4, r5⟩ := ih (i + 1) (fun j => if j = i then false else m j) G (by omega) (by omega) (by omega) e2 e4 e5 e7 (by
            intro j hj
            rw [h40 j hj]
            by_cases e : j = i
            · rw [if_pos e, e, hmi i (Nat.le_refl _)]
            · rw [if_neg e]) (by
            intro j hj
            rw [if_neg (by omega)]
            exact hmi j (by omega))
          rw [hcb, if_neg (by decide), Nat.add_zero] at r1
          obtain ⟨s1, s2⟩ := fin m' r3 r4
          exact ⟨m', g, r1, r2, s1, s2, r5⟩
        · rw [if_pos rfl, qs_ok hi2 (by decide), qn_e, nI_1, qn_e, nI_1]
          obtain ⟨m', g, r1, r2, r3, r4, r5⟩ := ih (i + 1) (fun j => if j = i then true else m j) (qG G 40 i 1) (by omega) (by omega) (by omega) (by rw [qG_n _ _ _ (by decide)]; exact e2) (by rw [qG_n _ _ _ (by decide)]; exact e4) (by rw [qG_n _ _ _ (by decide)]; exact e5) (by rw [qG_n _ _ _ (by decide)]; exact e7) (by
            intro j hj
            rw [qG_s]
            by_cases e : j = i
            · rw [if_pos e, e, upd_s]
              rfl
            · rw [if_neg e, upd_n _ _ e, h40 j hj]) (by
            intro j hj
            rw [if_neg (by omega)]
            exact hmi j (by omega))
          rw [hcb, if_pos rfl, pz_qG] at r1
          obtain ⟨s1, s2⟩ := fin m' r3 r4
          exact ⟨m', g, r1, r2, s1, s2, r5⟩
      rw [bm_eq h40 (by omega) hi2, qc_s, ic_eq h40 hi2 (by rw [e4]; exact hlo i hi) (by rw [e5]; exact hup i hi), qc_s, e2, e4, e5]
      cases c1 : (decide (piece (i - 1) = piece i) && m (i - 1))
      · rw [if_pos b2i_f]
        cases c2 : (ma m (lo i) || ma m (up i))
        · rw [if_pos b2i_f]
          unfold f_X1_isWovenInMarked
          rw [qn_e, show (0 : Int32) = nI 0 from rfl]
          by_cases c3 : ∃ j, j < wv ∧ ma m (wvi wov (piece i) j) = true
          · obtain ⟨j, ha, hb⟩ := c3
            rw [wm_yes h14 h18 hp hwv hq hi2 (by rw [e2]; exact eq) h40 hw2 1000 0 (by omega) ⟨j, by omega, ha, by rw [e7, ← eq]; exact hb⟩, qc_s, if_neg (show ¬ (1 : Int32) = nI 0 by decide)]
            have := go true ⟨fun _ => Or.inr (Or.inr ⟨j, ha, hb⟩), fun _ => rfl⟩
            rw [if_pos rfl] at this
            exact this
          · rw [wm_no h14 h18 hp hwv hq hi2 (by rw [e2]; exact eq) h40 hw2 (fun j hj => by
              rw [e7, ← eq]
              exact Bool.eq_false_iff.mpr (fun z => c3 ⟨j, hj, z⟩)) 1000 0 (by omega) (by omega), qc_s, if_pos (show (0 : Int32) = nI 0 from rfl)]
            have := go false ⟨fun z => (by cases z), fun z => by
              rcases z with ⟨z1, z2⟩ | z | z
              · rw [decide_eq_true z1, z2] at c1
                cases c1
              · rcases z with z | z
                · rw [z] at c2
                  cases c2
                · rw [z, Bool.or_true] at c2
                  cases c2
              · exact absurd z c3⟩
            rw [if_neg (by decide)] at this
            exact this
        · rw [if_neg (show ¬ b2i true = 0 by decide)]
          have := go true ⟨fun _ => Or.inr (Or.inl (by
            cases z : ma m (lo i)
            · rw [z, Bool.false_or] at c2
              exact Or.inr c2
            · exact Or.inl rfl)), fun _ => rfl⟩
          rw [if_pos rfl] at this
          exact this
      · rw [if_neg (show ¬ b2i true = 0 by decide)]
        rw [Bool.and_eq_true] at c1
        have := go true ⟨fun _ => Or.inl ⟨of_decide_eq_true c1.1, c1.2⟩, fun _ => rfl⟩
        rw [if_pos rfl] at this
        exact this
    · have e : i = n := by omega
      subst e
      rw [if_pos (nI_le (Nat.le_refl _) (by omega))]
      exact ⟨m, G 40, by rw [pz_id], h40, fun _ _ => rfl, fun j a b => by omega, hmi⟩
