/-! pull: the reference -/
def EP (wv : Nat) (piece fi se wov : Nat → Int32) (a b : Nat) : Prop :=
  (piece a = piece b ∧ a < b) ∨ (fi b = nI a ∨ se b = nI a) ∨ ∃ j, j < wv ∧ wvi wov (piece b) j = nI a
theorem wt_no {M : Nat → Int32} {N : Nat → Nat → Int32} {q w a : Nat} (hq : q < 145) (hw : w ≤ 6) (h45 : N 45 q = nI w) (hno : ∀ j, j < w → ¬ N 46 (q * 6 + j) = nI a) : ∀ f x, x ≤ w → w < x + f → f_X5_isWovenThrough_L2 M N (nI q) (nI a) f (nI x) = some 0 := by
  intro f
  induction f with
  | zero => intro x h1 h2; omega
  | succ f ih =>
    intro x h1 h2
    show f_X5_isWovenThrough_L2_b (f_X5_isWovenThrough_L2 M N (nI q) (nI a) f) M N (nI q) (nI a) (nI x) = some 0
    unfold f_X5_isWovenThrough_L2_b
    rw [ql_ok (by omega) (by decide), h45]
    by_cases hx : x < w
    · rw [if_neg (nI_ge hx (by omega)), show 6 * nI q + nI x = nI (q * 6 + x) by rw [show (6 : Int32) = nI 6 from rfl, pk_mul, nI_add, Nat.mul_comm], ql_ok (by omega) (by decide), if_neg (hno x hx), qn_e, nI_1]
      exact ih (x + 1) (by omega) (by omega)
    · rw [if_pos (nI_le (by omega) (by omega))]
theorem wt_yes {M : Nat → Int32} {N : Nat → Nat → Int32} {q w a : Nat} (hq : q < 145) (hw : w ≤ 6) (h45 : N 45 q = nI w) : ∀ f x, w < x + f → (∃ j, x ≤ j ∧ j < w ∧ N 46 (q * 6 + j) = nI a) → f_X5_isWovenThrough_L2 M N (nI q) (nI a) f (nI x) = some 1 := by
  intro f
  induction f with
  | zero => intro x h2 ⟨j, a, b, _⟩; omega
  | succ f ih =>
    intro x h2 ⟨j, ha, hb, hc⟩
    show f_X5_isWovenThrough_L2_b (f_X5_isWovenThrough_L2 M N (nI q) (nI a) f) M N (nI q) (nI a) (nI x) = some 1
    unfold f_X5_isWovenThrough_L2_b
    have hx : x < w := by omega
    rw [ql_ok (by omega) (by decide), h45, if_neg (nI_ge hx (by omega)), show 6 * nI q + nI x = nI (q * 6 + x) by rw [show (6 : Int32) = nI 6 from rfl, pk_mul, nI_add, Nat.mul_comm], ql_ok (by omega) (by decide)]
    by_cases e : N 46 (q * 6 + x) = nI a
    · rw [if_pos e]
    · rw [if_neg e, qn_e, nI_1]
      have : ¬ x = j := fun z => e (by rw [z]; exact hc)
      exact ih (x + 1) (by omega) ⟨j, by omega, hb, hc⟩
theorem dr_eq {M : Nat → Int32} {N : Nat → Nat → Int32} {n p wv a b : Nat} (hn : n ≤ 144) (hp : p ≤ 144) (hwv : wv ≤ 6) (hpc : ∀ j, j < n → ∃ q, q < p ∧ N 39 j = nI q) (hw : ∀ q, 1 ≤ q → q < p → N 45 q = nI wv) (hw0 : 0 < p → N 45 0 = 0) (ha : a < n) (hb : b < n) : (EP wv (N 39) (N 41) (N 42) (N 46) a b → f_X5_drawsOut M N (nI a) (nI b) = some 1) ∧ (¬ EP wv (N 39) (N 41) (N 42) (N 46) a b → f_X5_drawsOut M N (nI a) (nI b) = some 0) := by
  obtain ⟨q, hq, eq⟩ := hpc b hb
  unfold f_X5_drawsOut
  rw [ql_ok (by omega) (by decide), ql_ok (by omega) (by decide)]
  have B20 : (((N 41 b = nI a ∨ N 42 b = nI a) ∨ ∃ j, j < wv ∧ wvi (N 46) (N 39 b) j = nI a) → f_X5_drawsOut_B20 M N (nI a) (nI b) = some 1) ∧ (¬ ((N 41 b = nI a ∨ N 42 b = nI a) ∨ ∃ j, j < wv ∧ wvi (N 46) (N 39 b) j = nI a) → f_X5_drawsOut_B20 M N (nI a) (nI b) = some 0) := by
    unfold f_X5_drawsOut_B20 f_X5_isOn f_X5_isOn_B20 f_X5_drawsOut_B43
    rw [ql_ok (show b < 144 by omega) (by decide), ql_ok (show b < 144 by omega) (by decide), ql_ok (show b < 144 by omega) (by decide)]
    by_cases c1 : N 41 b = nI a
    · rw [if_pos c1, qc_s, if_neg e10]
      exact ⟨fun _ => rfl, fun z => absurd (Or.inl (Or.inl c1)) z⟩
    · rw [if_neg c1]
      by_cases c2 : N 42 b = nI a
      · rw [if_pos c2, qc_s, if_neg e10]
        exact ⟨fun _ => rfl, fun z => absurd (Or.inl (Or.inr c2)) z⟩
      · rw [if_neg c2, qc_s, if_pos rfl, eq]
        unfold f_X5_isWovenThrough
        rw [qn_e, show (0 : Int32) = nI 0 from rfl]
        by_cases q0 : q = 0
        · subst q0
          rw [wt_no (w := 0) (by omega) (by omega) (hw0 hq) (fun j hj => absurd hj (Nat.not_lt_zero j)) 1000 0 (by omega) (by omega), qc_s, if_pos (show (0 : Int32) = nI 0 from rfl)]
          refine ⟨fun z => ?_, fun _ => rfl⟩
          rcases z with z | ⟨j, -, z⟩
          · exact absurd z (fun z => z.elim c1 c2)
          · rw [wvi_0] at z
            exact absurd z.symm (nI_m1 (by omega))
        · by_cases c3 : ∃ j, j < wv ∧ wvi (N 46) (nI q) j = nI a
          · have c4 := c3
            obtain ⟨j, hj, ej⟩ := c3
            rw [wvi_n _ _ (by omega) (by omega)] at ej
            rw [wt_yes (w := wv) (by omega) hwv (hw q (by omega) hq) 1000 0 (by omega) ⟨j, by omega, hj, ej⟩, qc_s, if_neg (show ¬ (1 : Int32) = nI 0 by decide)]
            exact ⟨fun _ => rfl, fun z => absurd (Or.inr c4) z⟩
          · rw [wt_no (w := wv) (by omega) hwv (hw q (by omega) hq) (fun j hj z => c3 ⟨j, hj, by rw [wvi_n _ _ (by omega) (by omega)]; exact z⟩) 1000 0 (by omega) (by omega), qc_s, if_pos (show (0 : Int32) = nI 0 from rfl)]
            exact ⟨fun z => absurd z (fun z => z.elim (fun z => z.elim c1 c2) c3), fun _ => rfl⟩
  unfold EP
  by_cases c1 : N 39 a = N 39 b
  · rw [if_pos c1]
    by_cases c2 : a < b
    · rw [if_pos (nI_lt c2 (by omega))]
      exact ⟨fun _ => rfl, fun z => absurd (Or.inl ⟨c1, c2⟩) z⟩
    · rw [if_neg (nI_nlt (by omega) (by omega))]
      exact ⟨fun z => B20.1 (z.elim (fun z => absurd z.2 c2) id), fun z => B20.2 (fun y => z (Or.inr y))⟩
  · rw [if_neg c1]
    exact ⟨fun z => B20.1 (z.elim (fun z => absurd z.1 c1) id), fun z => B20.2 (fun y => z (Or.inr y))⟩
/-- the other arrays stay -/
def sm (N0 N : Nat → Nat → Int32) : Prop := ∀ q, q ≠ 47 → N q = N0 q
theorem pi_loop {n : Nat} (hn : n ≤ 144) {M : Nat → Int32} (hM : M 32 = nI n) (x1 : Int32) (r33 : (Nat → Int32) → (Nat → Nat → Int32) → Int32 → Option qS) (r41 : (Nat → Int32) → (Nat → Nat → Int32) → Int32 → Int32 → Option qS) {E : Nat → Nat → Prop} {N0 : Nat → Nat → Int32} {a : Nat} (ha : a < n) (hE : ∀ b, b < n → E a b → a < b) (hdr : ∀ N, sm N0 N → ∀ b, b < n → (E a b → f_X5_drawsOut M N (nI a) (nI b) = some 1) ∧ (¬ E a b → f_X5_drawsOut M N (nI a) (nI b) = some 0)) : ∀ (f b : Nat) (s : Nat → Bool) (N : Nat → Nat → Int32) (more : Int32), b ≤ n → n < b + f → sm N0 N → (∀ j, j < 144 → N 47 j = b2i (s j)) →
    ∃ (s' : Nat → Bool) (g : Nat → Int32) (more' : Int32), f_X5_pulls_L52 r33 r41 x1 f M N more (nI a) (nI b) = r41 M (pz g 47 N) more' (nI (a + 1)) ∧ (∀ j, j < 144 → g j = b2i (s' j)) ∧ (∀ j, s' j = true ↔ (s j = true ∨ (b ≤ j ∧ j < n ∧ s a = true ∧ E a j))) ∧ ((∀ j, s' j = true → s j = true) → more' = more) ∧ (more' = more ∨ more' = 1) := by
  intro f
  induction f with
  | zero => intro b s N more h1 h2; omega
  | succ f ih =>
    intro b s N more h1 h2 hs h47
    show ∃ (s' : Nat → Bool) (g : Nat → Int32) (more' : Int32), f_X5_pulls_L52_b r33 r41 (f_X5_pulls_L52 r33 r41 x1 f) x1 M N more (nI a) (nI b) = r41 M (pz g 47 N) more' (nI (a + 1)) ∧ _
    unfold f_X5_pulls_L52_b
    rw [hM]
    have stop : (∀ j, ¬ (b ≤ j ∧ j < n ∧ s a = true ∧ E a j)) → ∃ (s' : Nat → Bool) (g : Nat → Int32) (more' : Int32), f_X5_pulls_B109 r33 r41 x1 M N more (nI a) = r41 M (pz g 47 N) more' (nI (a + 1)) ∧ (∀ j, j < 144 → g j = b2i (s' j)) ∧ (∀ j, s' j = true ↔ (s j = true ∨ (b ≤ j ∧ j < n ∧ s a = true ∧ E a j))) ∧ ((∀ j, s' j = true → s j = true) → more' = more) ∧ (more' = more ∨ more' = 1) := by
      intro hno
      unfold f_X5_pulls_B109
      rw [qn_e, nI_1]
      exact ⟨s, N 47, more, by rw [pz_id], h47, fun j => ⟨Or.inl, fun z => z.elim id (fun z => absurd z (hno j))⟩, fun _ => rfl, Or.inl rfl⟩
    by_cases hb : b < n
    · rw [if_neg (nI_ge hb (by omega)), ql_ok (show a < 144 by omega) (by decide), h47 a (by omega)]
      cases hsa : s a
      · rw [if_pos b2i_f]
        rw [hsa] at stop
        exact stop (fun j z => by cases z.2.2.1)
      · rw [if_neg (show ¬ b2i true = 0 by decide), ql_ok (show b < 144 by omega) (by decide), h47 b (by omega)]
        unfold f_X5_pulls_B103
        cases hsb : s b
        · rw [if_pos b2i_f]
          obtain ⟨d1, d0⟩ := hdr N hs b hb
          by_cases hEb : E a b
          · rw [d1 hEb, qc_s, if_neg e10, qz_ok (show b < 144 by omega) (by decide) (Or.inr rfl), qn_e, qn_e, nI_1]
            have hab := hE b hb hEb
            obtain ⟨s', g, more', r1, r2, r3, r4, r5⟩ := ih (b + 1) (fun j => if j = b then true else s j) (qG N 47 b 1) 1 (by omega) (by omega) (fun q hq => by rw [qG_n _ _ _ hq]; exact hs q hq) (by
              intro j hj
              rw [qG_s]
              by_cases e : j = b
              · rw [if_pos e, e, upd_s]
                rfl
              · rw [if_neg e, upd_n _ _ e, h47 j hj])
            rw [pz_qG] at r1
            refine ⟨s', g, more', r1, r2, fun j => ?_, fun z => ?_, ?_⟩
            · rw [r3 j, if_neg (show ¬ a = b by omega), hsa]
              by_cases e : j = b
              · subst e
                rw [if_pos rfl]
                exact ⟨fun _ => Or.inr ⟨Nat.le_refl _, hb, rfl, hEb⟩, fun _ => Or.inl rfl⟩
              · rw [if_neg e]
                exact ⟨fun z => z.imp id (fun z => ⟨by omega, z.2⟩), fun z => z.imp id (fun z => ⟨by omega, z.2⟩)⟩
            · exfalso
              have := z b ((r3 b).mpr (Or.inl (if_pos rfl)))
              rw [hsb] at this
              cases this
            · rcases r5 with r5 | r5
              · exact Or.inr r5
              · exact Or.inr r5
          · rw [d0 hEb, qc_s, if_pos rfl, qn_e, nI_1]
            obtain ⟨s', g, more', r1, r2, r3, r4, r5⟩ := ih (b + 1) s N more (by omega) (by omega) hs h47
            refine ⟨s', g, more', r1, r2, fun j => ?_, r4, r5⟩
            rw [r3 j, hsa]
            exact ⟨fun z => z.imp id (fun z => ⟨by omega, z.2⟩), fun z => z.imp id (fun z => ⟨by
              rcases Nat.lt_or_ge b j with y | y
              · exact y
              · have : j = b := by omega
                subst this
                exact absurd z.2.2.2 hEb, z.2⟩)⟩
        · rw [if_neg (show ¬ b2i true = 0 by decide), qn_e, nI_1]
          obtain ⟨s', g, more', r1, r2, r3, r4, r5⟩ := ih (b + 1) s N more (by omega) (by omega) hs h47
          refine ⟨s', g, more', r1, r2, fun j => ?_, r4, r5⟩
          rw [r3 j, hsa]
          exact ⟨fun z => z.imp id (fun z => ⟨by omega, z.2⟩), fun z => by
            rcases z with z | z
            · exact Or.inl z
            · rcases Nat.lt_or_ge b j with y | y
              · exact Or.inr ⟨y, z.2⟩
              · have : j = b := by omega
                subst this
                exact Or.inl hsb⟩
    · rw [if_pos (nI_le (by omega) (by omega))]
      exact stop (fun j z => by omega)
theorem pz_pz (g h : Nat → Int32) (k : Nat) (G : Nat → Nat → Int32) : pz g k (pz h k G) = pz g k G := by
  funext q
  unfold pz
  split <;> rfl
theorem sm_pz {N0 N : Nat → Nat → Int32} (h : sm N0 N) (g : Nat → Int32) : sm N0 (pz g 47 N) := fun q hq => by
  rw [pz_n _ _ hq]
  exact h q hq
/-- the first pass fills, any later one finds nothing -/
theorem po_loop {n k : Nat} (hn : n ≤ 144) {M : Nat → Int32} (hM : M 32 = nI n) (x1 : Int32) (r33 : (Nat → Int32) → (Nat → Nat → Int32) → Int32 → Option qS) {E : Nat → Nat → Prop} {N0 : Nat → Nat → Int32} (hE : ∀ a b, b < n → E a b → a < b) (hdr : ∀ N, sm N0 N → ∀ a b, a < n → b < n → (E a b → f_X5_drawsOut M N (nI a) (nI b) = some 1) ∧ (¬ E a b → f_X5_drawsOut M N (nI a) (nI b) = some 0)) {m : Nat → Bool} (hm : ∀ j, j < n → (m j = true ↔ (j = k ∨ ∃ a, a < j ∧ m a = true ∧ E a j))) : ∀ (f a : Nat) (s : Nat → Bool) (N : Nat → Nat → Int32) (more : Int32), a ≤ n → n < a + f → sm N0 N → (∀ j, j < 144 → N 47 j = b2i (s j)) → (∀ j, n ≤ j → s j = false) → (more = 0 ∨ more = 1) →
    ((∀ j, j < n → (s j = true ↔ (j = k ∨ ∃ q, q < a ∧ m q = true ∧ E q j))) → ∃ (s' : Nat → Bool) (g : Nat → Int32) (more' : Int32), f_X5_pulls_L41 r33 x1 f M N more (nI a) = r33 M (pz g 47 N) more' ∧ (∀ j, j < 144 → g j = b2i (s' j)) ∧ (∀ j, j < n → s' j = m j) ∧ (∀ j, n ≤ j → s' j = false) ∧ (more' = 0 ∨ more' = 1)) ∧
    ((∀ j, j < n → s j = m j) → ∃ g : Nat → Int32, f_X5_pulls_L41 r33 x1 f M N more (nI a) = r33 M (pz g 47 N) more ∧ (∀ j, j < 144 → g j = b2i (s j))) := by
  intro f
  induction f with
  | zero => intro a s N more h1 h2; omega
  | succ f ih =>
    intro a s N more h1 h2 hs h47 hsn hmore
    show ((∀ j, j < n → (s j = true ↔ (j = k ∨ ∃ q, q < a ∧ m q = true ∧ E q j))) → ∃ (s' : Nat → Bool) (g : Nat → Int32) (more' : Int32), f_X5_pulls_L41_b r33 (f_X5_pulls_L41 r33 x1 f) x1 M N more (nI a) = r33 M (pz g 47 N) more' ∧ _) ∧ ((∀ j, j < n → s j = m j) → ∃ g : Nat → Int32, f_X5_pulls_L41_b r33 (f_X5_pulls_L41 r33 x1 f) x1 M N more (nI a) = r33 M (pz g 47 N) more ∧ (∀ j, j < 144 → g j = b2i (s j)))
    unfold f_X5_pulls_L41_b
    rw [hM]
    by_cases ha : a < n
    · rw [if_neg (nI_ge ha (by omega)), qn_e, show (0 : Int32) = nI 0 from rfl]
      obtain ⟨s', g, more', r1, r2, r3, r4, r5⟩ := pi_loop hn hM x1 r33 (f_X5_pulls_L41 r33 x1 f) ha (fun b hb => hE a b hb) (fun N hN b hb => hdr N hN a b ha hb) 1000 0 s N more (by omega) (by omega) hs h47
      rw [r1]
      have hmore' : more' = 0 ∨ more' = 1 := by
        rcases r5 with r5 | r5
        · rw [r5]
          exact hmore
        · exact Or.inr r5
      have hsn' : ∀ j, n ≤ j → s' j = false := fun j hj => Bool.eq_false_iff.mpr (fun z => by
        rcases (r3 j).mp z with z | z
        · rw [hsn j hj] at z
          cases z
        · omega)
      obtain ⟨i1, i2⟩ := ih (a + 1) s' (pz g 47 N) more' (by omega) (by omega) (sm_pz hs g) (fun j hj => by rw [pz_s]; exact r2 j hj) hsn' hmore'
      constructor
      · intro hInv
        have hsa : s a = true ↔ m a = true := by
          rw [hInv a ha, hm a ha]
        obtain ⟨s2, g2, more2, t1, t2, t3, t4, t5⟩ := i1 (fun j hj => by
          rw [r3 j, hInv j hj, hsa]
          constructor
          · rintro ((z | ⟨q, y1, y2, y3⟩) | ⟨-, -, y2, y3⟩)
            · exact Or.inl z
            · exact Or.inr ⟨q, by omega, y2, y3⟩
            · exact Or.inr ⟨a, by omega, y2, y3⟩
          · rintro (z | ⟨q, y1, y2, y3⟩)
            · exact Or.inl (Or.inl z)
            · by_cases e : q = a
              · subst e
                exact Or.inr ⟨Nat.zero_le _, hj, y2, y3⟩
              · exact Or.inl (Or.inr ⟨q, by omega, y2, y3⟩))
        rw [pz_pz] at t1
        exact ⟨s2, g2, more2, t1, t2, t3, t4, t5⟩
      · intro hEq
        have same : ∀ j, s' j = true → s j = true := fun j z => by
          rcases (r3 j).mp z with z | ⟨-, y1, y2, y3⟩
          · exact z
          · rw [hEq j y1, hm j y1]
            rw [hEq a ha] at y2
            exact Or.inr ⟨a, hE a j y1 y3, y2, y3⟩
        have e : ∀ j, s' j = s j := fun j => by
          cases z : s j
          · exact Bool.eq_false_iff.mpr (fun y => by rw [same j y] at z; cases z)
          · exact (r3 j).mpr (Or.inl z)
        obtain ⟨g2, t1, t2⟩ := i2 (fun j hj => by rw [e j]; exact hEq j hj)
        rw [pz_pz, r4 same] at t1
        refine ⟨g2, by rw [r4 same]; exact t1, fun j hj => by rw [t2 j hj, e j]⟩
    · rw [if_pos (nI_le (by omega) (by omega))]
      constructor
      · intro hInv
        refine ⟨s, N 47, more, by rw [pz_id], h47, fun j hj => ?_, hsn, hmore⟩
        have h3 := hInv j hj
        have h4 := hm j hj
        have h5 : s j = true ↔ m j = true := by
          rw [h3, h4]
          exact ⟨fun z => z.imp id (fun ⟨q, y1, y2, y3⟩ => ⟨q, hE q j hj y3, y2, y3⟩), fun z => z.imp id (fun ⟨q, y1, y2, y3⟩ => ⟨q, by omega, y2, y3⟩)⟩
        cases z : m j
        · exact Bool.eq_false_iff.mpr (fun y => by rw [h5.mp y] at z; cases z)
        · exact h5.mpr z
      · intro _
        exact ⟨N 47, by rw [pz_id], h47⟩
theorem pulls_0 {M : Nat → Int32} {k : Nat} (hk : k < 144) : ∀ (f i : Nat) (N : Nat → Nat → Int32), i ≤ 144 → 144 < i + f → (∀ j, j < i → N 47 j = b2i (decide (j = k))) → ∃ g : Nat → Int32, (∀ j, j < 144 → g j = b2i (decide (j = k))) ∧ f_X5_pulls_L2 (nI k) f M N (nI i) = f_X5_pulls_L33 (nI k) 1000 M (pz g 47 N) 1 := by
  intro f
  induction f with
  | zero => intro i N h1 h2; omega
  | succ f ih =>
    intro i N h1 h2 h3
    show ∃ g : Nat → Int32, (∀ j, j < 144 → g j = b2i (decide (j = k))) ∧ f_X5_pulls_L2_b (f_X5_pulls_L2 (nI k) f) (nI k) M N (nI i) = _
    unfold f_X5_pulls_L2_b
    by_cases hi : i < 144
    · rw [if_neg (show ¬ (144 : Int32) ≤ nI i from nI_ge hi (by decide))]
      have go : ∀ v : Bool, v = decide (i = k) → ∃ g : Nat → Int32, (∀ j, j < 144 → g j = b2i (decide (j = k))) ∧ f_X5_pulls_B24 (f_X5_pulls_L2 (nI k) f) (nI k) M N (nI i) (nI i) (b2i v) = f_X5_pulls_L33 (nI k) 1000 M (pz g 47 N) 1 := by
        intro v hv
        unfold f_X5_pulls_B24
        rw [qz_ok hi (by decide) (b2i_01 v), qn_e, nI_1]
        obtain ⟨g, e1, e2⟩ := ih (i + 1) (qG N 47 i (b2i v)) (by omega) (by omega) (by
          intro j hj
          rw [qG_s]
          by_cases e : j = i
          · rw [e, upd_s, hv]
          · rw [upd_n _ _ e]
            exact h3 j (by omega))
        rw [pz_qG] at e2
        exact ⟨g, e1, e2⟩
      by_cases e : i = k
      · rw [if_pos (by rw [e])]
        exact go true (by rw [decide_eq_true e])
      · rw [if_neg (fun z => e ((nI_eq (by omega) (by omega)).mp z))]
        exact go false (by rw [decide_eq_false e])
    · rw [if_pos (show (144 : Int32) ≤ nI i from nI_le (a := 144) (by omega) (by omega)), qn_e]
      refine ⟨N 47, fun j hj => h3 j (by omega), ?_⟩
      rw [pz_id]
theorem pulls_eq {n k : Nat} (hn : n ≤ 144) (hk : k < n) {M : Nat → Int32} (hM : M 32 = nI n) {N : Nat → Nat → Int32} {E : Nat → Nat → Prop} (hE : ∀ a b, b < n → E a b → a < b) (hdr : ∀ N', sm N N' → ∀ a b, a < n → b < n → (E a b → f_X5_drawsOut M N' (nI a) (nI b) = some 1) ∧ (¬ E a b → f_X5_drawsOut M N' (nI a) (nI b) = some 0)) {m : Nat → Bool} (hm : ∀ j, j < n → (m j = true ↔ (j = k ∨ ∃ a, a < j ∧ m a = true ∧ E a j))) (hmn : ∀ j, n ≤ j → m j = false) : ∃ g : Nat → Int32, f_X5_pulls M N (nI k) = some (M, pz g 47 N) ∧ (∀ j, j < 144 → g j = b2i (m j)) := by
  unfold f_X5_pulls
  rw [qn_e, show (0 : Int32) = nI 0 from rfl]
  obtain ⟨g0, a1, a2⟩ := pulls_0 (M := M) (show k < 144 by omega) 1000 0 N (by decide) (by decide) (fun j hj => absurd hj (Nat.not_lt_zero j))
  rw [a2]
  show ∃ g : Nat → Int32, f_X5_pulls_L33_b (f_X5_pulls_L33 (nI k) 999) (nI k) M (pz g0 47 N) 1 = some (M, pz g 47 N) ∧ _
  unfold f_X5_pulls_L33_b
  rw [if_neg e10, qn_e, qn_e, show (0 : Int32) = nI 0 from rfl]
  obtain ⟨s1, g1, m1, b1, b2, b3, b4, b5⟩ := (po_loop hn hM (nI k) (f_X5_pulls_L33 (nI k) 999) hE hdr hm 1000 0 (fun j => decide (j = k)) (pz g0 47 N) (nI 0) (by omega) (by omega) (fun q hq => pz_n _ _ hq) (fun j hj => by rw [pz_s]; exact a1 j hj) (fun j hj => decide_eq_false (by omega)) (Or.inl rfl)).1 (fun j hj => by
    rw [decide_eq_true_eq]
    exact ⟨Or.inl, fun z => z.elim id (fun ⟨q, y, _⟩ => absurd y (Nat.not_lt_zero q))⟩)
  rw [b1, pz_pz]
  have hg1 : ∀ j, j < 144 → g1 j = b2i (m j) := fun j hj => by
    rw [b2 j hj]
    rcases Nat.lt_or_ge j n with z | z
    · rw [b3 j z]
    · rw [b4 j z, hmn j z]
  show ∃ g : Nat → Int32, f_X5_pulls_L33_b (f_X5_pulls_L33 (nI k) 998) (nI k) M (pz g1 47 N) m1 = some (M, pz g 47 N) ∧ _
  unfold f_X5_pulls_L33_b
  rcases b5 with rfl | rfl
  · rw [if_pos rfl]
    exact ⟨g1, rfl, hg1⟩
  · rw [if_neg e10, qn_e, qn_e, show (0 : Int32) = nI 0 from rfl]
    obtain ⟨g2, c1, c2⟩ := (po_loop hn hM (nI k) (f_X5_pulls_L33 (nI k) 998) hE hdr hm 1000 0 s1 (pz g1 47 N) (nI 0) (by omega) (by omega) (fun q hq => pz_n _ _ hq) (fun j hj => by rw [pz_s]; exact b2 j hj) b4 (Or.inl rfl)).2 b3
    rw [c1, pz_pz]
    show ∃ g : Nat → Int32, f_X5_pulls_L33_b (f_X5_pulls_L33 (nI k) 997) (nI k) M (pz g2 47 N) (nI 0) = some (M, pz g 47 N) ∧ _
    unfold f_X5_pulls_L33_b
    rw [if_pos (show nI 0 = (0 : Int32) from rfl)]
    exact ⟨g2, rfl, fun j hj => by rw [c2 j hj, ← b2 j hj]; exact hg1 j hj⟩
