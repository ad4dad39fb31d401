/-! marks -/
def b2i (b : Bool) : Int32 := if b = true then 1 else 0
theorem b2i_t : b2i true = 1 := rfl
theorem b2i_f : b2i false = 0 := rfl
theorem b2i_01 (b : Bool) : b2i b = 0 ∨ b2i b = 1 := by cases b <;> simp [b2i]
theorem b2i_0 {b : Bool} : b2i b = 0 ↔ b = false := by cases b <;> simp [b2i]
theorem b2i_1 {b : Bool} : b2i b = 1 ↔ b = true := by cases b <;> simp [b2i]
/-- is the bead of that number (or none) marked -/
def ma (m : Nat → Bool) (x : Int32) : Bool := if x = -1 then false else m x.toNatClampNeg
theorem ma_n (m : Nat → Bool) {j : Nat} (h : j < 1000) : ma m (nI j) = m j := by
  unfold ma
  rw [if_neg (nI_m1 (by omega)), nI_clamp (by omega)]
theorem ma_m1 (m : Nat → Bool) : ma m (-1) = false := rfl
theorem im_eq {F : Nat → Int32} {G : Nat → Nat → Int32} {m : Nat → Bool} (h40 : ∀ j, j < 144 → G 40 j = b2i (m j)) {x : Int32} (hx : x = -1 ∨ ∃ j, j < 144 ∧ x = nI j) : f_X1_isMarked F G x = some (b2i (ma m x)) := by
  unfold f_X1_isMarked
  rcases hx with rfl | ⟨j, hj, rfl⟩
  · rfl
  · rw [if_neg (nI_m1 (by omega)), ql_ok hj (by decide), h40 j hj, ma_n m (by omega)]
    cases m j <;> rfl
theorem ic_eq {F : Nat → Int32} {G : Nat → Nat → Int32} {m : Nat → Bool} (h40 : ∀ j, j < 144 → G 40 j = b2i (m j)) {i : Nat} (hi : i < 144) (h4 : G 4 i = -1 ∨ ∃ j, j < i ∧ G 4 i = nI j) (h5 : G 5 i = -1 ∨ ∃ j, j < i ∧ G 5 i = nI j) : f_X1_isCaughtOnMarked F G (nI i) = some (b2i (ma m (G 4 i) || ma m (G 5 i))) := by
  unfold f_X1_isCaughtOnMarked f_X1_isCaughtOnMarked_B26
  rw [ql_ok hi (by decide), ql_ok hi (by decide)]
  rw [im_eq h40 (h4.imp id (fun ⟨j, a, b⟩ => ⟨j, by omega, b⟩)), im_eq h40 (h5.imp id (fun ⟨j, a, b⟩ => ⟨j, by omega, b⟩)), qc_s, qc_s]
  cases ma m (G 4 i) <;> cases ma m (G 5 i) <;> rfl
theorem mi_loop {M : Nat → Int32} {N : Nat → Nat → Int32} {m : Nat → Bool} {n : Nat} (hn : n ≤ 144) (hM : M 32 = nI n) (h47 : ∀ j, j < 144 → N 47 j = b2i (m j)) : ∀ f i, i ≤ n → n < i + f → f_X5_manyIn_L4 M N f (nI (cb m i)) (nI i) = some (nI (cb m n)) := by
  intro f
  induction f with
  | zero => intro i h1 h2; omega
  | succ f ih =>
    intro i h1 h2
    show f_X5_manyIn_L4_b (f_X5_manyIn_L4 M N f) M N (nI (cb m i)) (nI i) = _
    unfold f_X5_manyIn_L4_b
    rw [hM]
    by_cases hi : i < n
    · rw [if_neg (nI_ge hi (by omega)), ql_ok (by omega) (by decide), h47 i (by omega)]
      simp only [f_X5_manyIn_B27, qn]
      rw [nI_1, nI_1, Int32.add_zero]
      have ih := ih (i + 1) (by omega) (by omega)
      rw [show cb m (i + 1) = cb m i + (if m i = true then 1 else 0) from rfl] at ih
      cases hm : m i
      · rw [hm] at ih
        rw [if_pos (show b2i false = 0 from rfl)]
        exact ih
      · rw [hm] at ih
        rw [if_neg (show ¬ b2i true = 0 by decide)]
        exact ih
    · have e : i = n := by omega
      subst e
      rw [if_pos (nI_le (Nat.le_refl _) (by omega))]
theorem mi_eq {M : Nat → Int32} {N : Nat → Nat → Int32} {m : Nat → Bool} {n : Nat} (hn : n ≤ 144) (hM : M 32 = nI n) (h47 : ∀ j, j < 144 → N 47 j = b2i (m j)) : f_X5_manyIn M N = some (nI (cb m n)) :=
  mi_loop hn hM h47 1000 0 (by omega) (by omega)
def pz (g : Nat → Int32) (k : Nat) (G : Nat → Nat → Int32) : Nat → Nat → Int32 := fun q => if q = k then g else G q
theorem pz_s (g : Nat → Int32) (k : Nat) (G : Nat → Nat → Int32) : pz g k G k = g := by
  unfold pz
  rw [if_pos rfl]
theorem pz_n (g : Nat → Int32) {k q : Nat} (G : Nat → Nat → Int32) (h : q ≠ k) : pz g k G q = G q := by
  unfold pz
  rw [if_neg h]
theorem pz_qG (g : Nat → Int32) (k j : Nat) (v : Int32) (G : Nat → Nat → Int32) : pz g k (qG G k j v) = pz g k G := by
  funext q
  unfold pz qG
  by_cases h : q = k
  · rw [if_pos h, if_pos h]
  · rw [if_neg h, if_neg h, if_neg h]
theorem pz_id (k : Nat) (G : Nat → Nat → Int32) : pz (G k) k G = G := by
  funext q
  unfold pz
  by_cases h : q = k
  · rw [if_pos h, h]
  · rw [if_neg h]
/-- what is caught, in the two ways of saying it -/
theorem ct_or {k : Nat} {lo up fi se : Int32} (h : CT k lo up fi se) (m : Nat → Bool) : (ma m lo || ma m up) = (ma m fi || ma m se) := by
  obtain ⟨h1, h2, rfl, rfl⟩ := h
  by_cases e : lo = -1
  · rw [if_pos e, if_pos e, e, ma_m1, Bool.false_or, Bool.or_false]
  · rw [if_neg e, if_neg e]
theorem ct_rng {k : Nat} {lo up fi se : Int32} (h : CT k lo up fi se) : (fi = -1 ∨ ∃ j, j < k ∧ fi = nI j) ∧ (se = -1 ∨ ∃ j, j < k ∧ se = nI j) := by
  obtain ⟨h1, h2, rfl, rfl⟩ := h
  by_cases e : lo = -1
  · rw [if_pos e, if_pos e]
    exact ⟨h2, Or.inl rfl⟩
  · rw [if_neg e, if_neg e]
    exact ⟨h1, h2⟩
theorem cb_cong {p q : Nat → Bool} : ∀ {n : Nat}, (∀ k, k < n → p k = q k) → cb p n = cb q n
  | 0, _ => rfl
  | n + 1, h => by
    show cb p n + (if p n = true then 1 else 0) = cb q n + (if q n = true then 1 else 0)
    rw [cb_cong (fun k hk => h k (Nat.lt_succ_of_lt hk)), h n (Nat.lt_succ_self n)]
theorem hang_loop {n k : Nat} (hn : n ≤ 144) (hk : k < n) {F : Nat → Int32} {M : Nat → Int32} (hF : F 11 = nI n) (hM : M 32 = nI n) {lo up fi se : Nat → Int32} (hC : ∀ j, j < n → CT j (lo j) (up j) (fi j) (se j)) : ∀ (f i : Nat) (mi : Nat → Bool) (G N : Nat → Nat → Int32), k < i → i ≤ n → n < i + f → G 4 = lo → G 5 = up → N 41 = fi → N 42 = se → (∀ j, j < 144 → G 40 j = b2i (mi j || decide (j = k))) → (∀ j, j < 144 → N 47 j = b2i (mi j)) → (∀ j, (i ≤ j ∨ j ≤ k) → mi j = false) →
    ∃ (r : Int32) (g g2 : Nat → Int32), f_X1_markHanging_L12 (nI k) f F G (nI (cb mi i)) (nI i) = some (r, F, pz g 40 G) ∧ f_X5_hang_L36 (nI k) f M N (nI i) = some (r, M, pz g2 47 N) := by
  intro f
  induction f with
  | zero => intro i mi G N h1 h2 h3; omega
  | succ f ih =>
    intro i mi G N h1 h2 h3 h4 h5 h41 h42 hG hN hmi
    show ∃ (r : Int32) (g g2 : Nat → Int32), f_X1_markHanging_L12_b (f_X1_markHanging_L12 (nI k) f) (nI k) F G (nI (cb mi i)) (nI i) = some (r, F, pz g 40 G) ∧ f_X5_hang_L36_b (f_X5_hang_L36 (nI k) f) (nI k) M N (nI i) = some (r, M, pz g2 47 N)
    unfold f_X1_markHanging_L12_b f_X5_hang_L36_b
    rw [hF, hM]
    by_cases hi : i < n
    · have hi2 : i < 144 := by omega
      have hct := hC i hi
      obtain ⟨r1, r2⟩ := ct_rng hct
      rw [if_neg (nI_ge hi (by omega)), if_neg (nI_ge hi (by omega))]
      rw [ic_eq hG hi2 (by rw [h4]; exact hct.1) (by rw [h5]; exact hct.2.1), h4, h5, ct_or hct]
      obtain ⟨P, eP⟩ : ∃ P, (ma (fun j => mi j || decide (j = k)) (fi i) || ma (fun j => mi j || decide (j = k)) (se i)) = P := ⟨_, rfl⟩
      rw [eP, qc_s]
      -- the reference's own way to P
      have next : ∃ (r : Int32) (g g2 : Nat → Int32), (if b2i P = 0 then f_X1_markHanging_B42 (f_X1_markHanging_L12 (nI k) f) (nI k) F G (nI (cb mi i)) (nI i) else qs G 40 144 (nI i) 1 fun G4 => qn (nI (cb mi i) + 1) fun v5 => f_X1_markHanging_B42 (f_X1_markHanging_L12 (nI k) f) (nI k) F G4 v5 (nI i)) = some (r, F, pz g 40 G) ∧ f_X5_hang_B106 (f_X5_hang_L36 (nI k) f) (nI k) M N (nI i) (nI i) (b2i P) = some (r, M, pz g2 47 N) := by
        simp only [f_X1_markHanging_B42, f_X5_hang_B106, qn]
        rw [qz_ok hi2 (by decide) (b2i_01 P), nI_1, nI_1]
        have hN2 : ∀ j, j < 144 → qG N 47 i (b2i P) 47 j = b2i (if j = i then P else mi j) := by
          intro j hj
          rw [qG_s]
          by_cases e : j = i
          · rw [if_pos e, e, upd_s]
          · rw [if_neg e, upd_n _ _ e, hN j hj]
        have hcb : cb (fun j => if j = i then P else mi j) (i + 1) = cb mi i + (if P = true then 1 else 0) := by
          show cb (fun j => if j = i then P else mi j) i + (if (if i = i then P else mi i) = true then 1 else 0) = _
          rw [if_pos rfl, cb_cong (q := mi) (fun q hq => if_neg (by omega))]
        have hmi2 : ∀ j, (i + 1 ≤ j ∨ j ≤ k) → (if j = i then P else mi j) = false := by
          intro j hj
          rw [if_neg (by omega)]
          exact hmi j (by omega)
        cases hP : P
        · rw [if_pos (show b2i false = 0 from rfl)]
          rw [hP] at hN2 hcb hmi2
          obtain ⟨r, g, g2, e1, e2⟩ := ih (i + 1) (fun j => if j = i then false else mi j) G (qG N 47 i (b2i false)) (by omega) (by omega) (by omega) h4 h5 (by rw [qG_n _ _ _ (by decide)]; exact h41) (by rw [qG_n _ _ _ (by decide)]; exact h42) (by
            intro j hj
            rw [hG j hj]
            by_cases e : j = i
            · rw [if_pos e, e, hmi i (Or.inl (Nat.le_refl _))]
            · rw [if_neg e]) hN2 hmi2
          rw [hcb] at e1
          rw [pz_qG] at e2
          exact ⟨r, g, g2, e1, e2⟩
        · rw [if_neg (show ¬ b2i true = 0 by decide), qs_ok hi2 (by decide)]
          rw [hP] at hN2 hcb hmi2
          obtain ⟨r, g, g2, e1, e2⟩ := ih (i + 1) (fun j => if j = i then true else mi j) (qG G 40 i 1) (qG N 47 i (b2i true)) (by omega) (by omega) (by omega) (by rw [qG_n _ _ _ (by decide)]; exact h4) (by rw [qG_n _ _ _ (by decide)]; exact h5) (by rw [qG_n _ _ _ (by decide)]; exact h41) (by rw [qG_n _ _ _ (by decide)]; exact h42) (by
            intro j hj
            rw [qG_s]
            by_cases e : j = i
            · rw [if_pos e, e, upd_s]
              rfl
            · rw [if_neg e, upd_n _ _ e, hG j hj]) hN2 hmi2
          rw [hcb] at e1
          rw [pz_qG] at e1 e2
          exact ⟨r, g, g2, e1, e2⟩
      obtain ⟨r, g, g2, e1, e2⟩ := next
      refine ⟨r, g, g2, e1, ?_⟩
      rw [ql_ok hi2 (by decide), ql_ok hi2 (by decide), h41, h42]
      unfold f_X5_isOn f_X5_isOn_B20
      rw [ql_ok hi2 (by decide), ql_ok hi2 (by decide), h41, h42]
      simp only [f_X5_hang_B86, f_X5_hang_B105, f_X5_hang_B101]
      have nm : ((-1 : Int32) < 0) := by decide
      have val : ∀ x : Int32, (x = -1 ∨ ∃ j, j < i ∧ x = nI j) → (ma (fun j => mi j || decide (j = k)) x = (decide (x = nI k) || ma mi x)) := by
        intro x hx
        rcases hx with rfl | ⟨j, hj, rfl⟩
        · rw [ma_m1, ma_m1, Bool.or_false, decide_eq_false (fun z => nI_m1 (show k < 2 ^ 31 by omega) z.symm)]
        · rw [ma_n _ (by omega), ma_n _ (by omega), Bool.or_comm]
          congr 1
          exact decide_eq_decide.mpr (nI_eq (by omega) (by omega)).symm
      rw [val _ r1, val _ r2] at eP
      have rd : ∀ (x : Int32) (A B : Option (Int32 × qS)), (x = -1 ∨ ∃ j, j < i ∧ x = nI j) → (if x < 0 then A else ql (N 47) 144 x fun v => if v = 0 then A else B) = if ma mi x = true then B else A := by
        intro x A B hx
        rcases hx with rfl | ⟨j, hj, rfl⟩
        · rw [if_pos nm, ma_m1]
          rfl
        · rw [if_neg (nI_pos (by omega)), ql_ok (by omega) (by decide), hN j (by omega), ma_n _ (by omega)]
          cases mi j <;> rfl
      rw [rd _ _ _ r2]
      by_cases c1 : fi i = nI k
      · rw [if_pos c1, qc_s, if_neg e10]
        rw [decide_eq_true c1, Bool.true_or, Bool.true_or] at eP
        rw [← eP] at e2
        exact e2
      · rw [if_neg c1]
        rw [decide_eq_false c1, Bool.false_or] at eP
        by_cases c2 : se i = nI k
        · rw [if_pos c2, qc_s, if_neg e10]
          rw [decide_eq_true c2, Bool.true_or, Bool.or_true] at eP
          rw [← eP] at e2
          exact e2
        · rw [if_neg c2, qc_s, if_pos rfl, rd _ _ _ r1]
          rw [decide_eq_false c2, Bool.false_or] at eP
          rw [← eP] at e2
          cases hf : ma mi (fi i)
          · rw [hf] at e2
            cases hs : ma mi (se i)
            · rw [hs] at e2
              exact e2
            · rw [hs] at e2
              exact e2
          · rw [hf] at e2
            exact e2
    · have e : i = n := by omega
      subst e
      rw [if_pos (nI_le (Nat.le_refl _) (by omega)), if_pos (nI_le (Nat.le_refl _) (by omega)), mi_eq hn hM hN, qc_s]
      exact ⟨_, G 40, N 47, by rw [pz_id], by rw [pz_id]⟩
theorem h0_loop {M : Nat → Int32} (x1 : Int32) : ∀ (f i : Nat) (N : Nat → Nat → Int32), i ≤ 144 → 144 < i + f → (∀ j, j < i → N 47 j = 0) → ∃ g : Nat → Int32, (∀ j, j < 144 → g j = 0) ∧ f_X5_hang_L12 x1 f M N (nI i) = f_X5_hang_L36 x1 1000 M (pz g 47 N) (x1 + 1) := by
  intro f
  induction f with
  | zero => intro i N h1 h2; omega
  | succ f ih =>
    intro i N h1 h2 h3
    show ∃ g : Nat → Int32, (∀ j, j < 144 → g j = 0) ∧ f_X5_hang_L12_b (f_X5_hang_L12 x1 f) x1 M N (nI i) = _
    unfold f_X5_hang_L12_b
    by_cases hi : i < 144
    · rw [if_neg (show ¬ (144 : Int32) ≤ nI i from nI_ge hi (by decide)), qz_ok hi (by decide) (Or.inl rfl)]
      simp only [qn]
      rw [nI_1]
      obtain ⟨g, e1, e2⟩ := ih (i + 1) (qG N 47 i 0) (by omega) (by omega) (by
        intro j hj
        rw [qG_s]
        by_cases e : j = i
        · rw [e, upd_s]
        · rw [upd_n _ _ e]
          exact h3 j (by omega))
      rw [pz_qG] at e2
      exact ⟨g, e1, e2⟩
    · rw [if_pos (show (144 : Int32) ≤ nI i from nI_le (a := 144) (by omega) (by omega))]
      refine ⟨N 47, fun j hj => h3 j (by omega), ?_⟩
      rw [pz_id]
      rfl
theorem mo_eq {F : Nat → Int32} {G : Nat → Nat → Int32} {k : Nat} (hk : k < 144) : ∃ g : Nat → Int32, (∀ j, j < 144 → g j = b2i (decide (j = k))) ∧ f_X1_markOnly F G (nI k) = some (F, pz g 40 G) := by
  unfold f_X1_markOnly
  simp only [qfl]
  rw [qs_ok hk (by decide)]
  refine ⟨upd (flf (G 40) 0 144) k 1, fun j hj => ?_, ?_⟩
  · by_cases e : j = k
    · rw [e, upd_s, decide_eq_true rfl]
      rfl
    · rw [upd_n _ _ e, decide_eq_false e]
      unfold flf
      rw [if_pos hj]
      rfl
  · congr 2
    funext q
    unfold pz qG qGf
    by_cases e : q = 40
    · rw [if_pos e, if_pos e, if_pos rfl]
    · rw [if_neg e, if_neg e, if_neg e]
theorem Rl_47 {F G M N} {g : Nat → Int32} (h : Rl F G M N) (f : Nat → Int32) : Rl F (mx k_mw G (pz f 40 G)) M (pz g 47 N) := by
  have e : mx k_mw G (pz f 40 G) = pz f 40 G := by
    funext q
    unfold mx pz
    by_cases h : q = 40
    · subst h
      rfl
    · rw [if_neg h]
      split <;> rfl
  rw [e]
  obtain ⟨⟨⟨g30, g31, g32, g33⟩, hf, cv1, cv2, cv3, cv4, cv5⟩, hD⟩ := h
  refine ⟨⟨⟨?_, ?_, ?_, ?_⟩, hf, ?_, ?_, cv3, ?_, cv5⟩, RD_k hD (fun _ _ => rfl) (fun k hk => pz_n _ _ (by omega)) (fun _ _ _ => rfl) (fun k _ hk => pz_n _ _ (by omega))⟩
  · rw [pz_n _ _ (by decide), pz_n _ _ (by decide), g30]
  · rw [pz_n _ _ (by decide), pz_n _ _ (by decide), g31]
  · rw [pz_n _ _ (by decide), pz_n _ _ (by decide), g32]
  · rw [pz_n _ _ (by decide), pz_n _ _ (by decide), g33]
  · rw [pz_n _ _ (by decide)]; exact cv1
  · rw [pz_n _ _ (by decide)]; exact cv2
  · rw [pz_n _ _ (by decide)]; exact cv4
