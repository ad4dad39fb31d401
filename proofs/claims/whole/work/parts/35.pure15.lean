/-! what a bead is caught on -/
theorem ring_l : ∀ w, w < 13 → 3 ≤ w → ∀ c, c < w → ∀ r, r < 12 → (((nI c - 1) + (nI r - nI r / 2 * 2)) + nI w) - (((nI c - 1) + (nI r - nI r / 2 * 2)) + nI w) / nI w * nI w = ((((nI c - 1) + (nI r - nI r / 2 * 2)) - ((nI c - 1) + (nI r - nI r / 2 * 2)) / nI w * nI w) + nI w) - ((((nI c - 1) + (nI r - nI r / 2 * 2)) - ((nI c - 1) + (nI r - nI r / 2 * 2)) / nI w * nI w) + nI w) / nI w * nI w := by decide +kernel
theorem ring_r : ∀ w, w < 13 → 3 ≤ w → ∀ c, c < w → ∀ r, r < 12 → ((nI c + (nI r - nI r / 2 * 2)) + nI w) - ((nI c + (nI r - nI r / 2 * 2)) + nI w) / nI w * nI w = (((nI c + (nI r - nI r / 2 * 2)) - (nI c + (nI r - nI r / 2 * 2)) / nI w * nI w) + nI w) - (((nI c + (nI r - nI r / 2 * 2)) - (nI c + (nI r - nI r / 2 * 2)) / nI w * nI w) + nI w) / nI w * nI w := by decide +kernel
theorem ring_m : ∀ w, w < 13 → 3 ≤ w → ∀ c, c < w → ((nI c - nI c / nI w * nI w) + nI w) - ((nI c - nI c / nI w * nI w) + nI w) / nI w * nI w = nI c := by decide +kernel
theorem col_ex {F : Nat → Int32} {M : Nat → Int32} {w c r : Nat} (f35 : F 35 = nI w) (m2 : M 2 = nI w) (hw : w = 0 ∨ (3 ≤ w ∧ w ≤ 12)) (hc : c < wd w) (hr : r < 12) : ∃ v1 v3 : Int32, (∀ G, f_X0_leftCatch F G (nI r) (nI c) = some v1) ∧ (∀ G, f_X0_rightCatch F G (nI r) (nI c) = some v3) ∧ (∀ N, f_X5_columnOf M N ((nI c - 1) + (nI r - nI r / 2 * 2)) = some v1) ∧ (∀ N, f_X5_columnOf M N (nI c + (nI r - nI r / 2 * 2)) = some v3) ∧ (∀ N, f_X5_columnOf M N (nI c) = some (nI c)) := by
  unfold f_X0_leftCatch f_X0_rightCatch f_X0_aroundTheRing f_X5_columnOf
  rw [f35, m2]
  rcases hw with rfl | ⟨h3, h12⟩
  · refine ⟨((nI c - 1) + (nI r - nI r / 2 * 2)), (nI c + (nI r - nI r / 2 * 2)), fun G => ?_, fun G => ?_, fun N => ?_, fun N => ?_, fun N => ?_⟩
    · rw [if_pos (show nI 0 = 0 from rfl), qc_s]
    · rw [if_pos (show nI 0 = 0 from rfl), qc_s]
    · rw [if_pos (show nI 0 = 0 from rfl)]
    · rw [if_pos (show nI 0 = 0 from rfl)]
    · rw [if_pos (show nI 0 = 0 from rfl)]
  · have e0 : ¬ nI w = 0 := nI_ne0 (by omega) (by omega)
    have hc : c < w := by
      unfold wd at hc
      rw [if_neg (by omega)] at hc
      exact hc
    refine ⟨(((nI c - 1) + (nI r - nI r / 2 * 2)) + nI w) - (((nI c - 1) + (nI r - nI r / 2 * 2)) + nI w) / nI w * nI w, ((nI c + (nI r - nI r / 2 * 2)) + nI w) - ((nI c + (nI r - nI r / 2 * 2)) + nI w) / nI w * nI w, fun G => ?_, fun G => ?_, fun N => ?_, fun N => ?_, fun N => ?_⟩
    · rw [if_neg e0, qd_ok e0, qc_s]
    · rw [if_neg e0, qd_ok e0, qc_s]
    · rw [if_neg e0, qd_ok e0, qd_ok e0, ring_l w (by omega) h3 c hc r hr]
    · rw [if_neg e0, qd_ok e0, qd_ok e0, ring_r w (by omega) h3 c hc r hr]
    · rw [if_neg e0, qd_ok e0, qd_ok e0, ring_m w (by omega) h3 c hc]
theorem pickAt_cong {F : Nat → Int32} {G G' : Nat → Nat → Int32} (h : G' 6 = G 6) (x y : Int32) : f_X3_pickAt F G' x y = f_X3_pickAt F G x y := by
  unfold f_X3_pickAt
  rw [h]
def PV (n : Nat) (pick cell : Nat → Int32) : Prop := ∀ c, c < 144 → pick c = -1 ∨ ∃ j, j < n ∧ pick c = nI j ∧ cell j = nI c
theorem pick_eq {F : Nat → Int32} {G : Nat → Nat → Int32} {M : Nat → Int32} {N : Nat → Nat → Int32} {n : Nat} (hp : ∀ c, c < 144 → G 6 c = N 15 c) (pv : PV n (G 6) (G 0)) (rb v : Int32) : ∃ x, f_X3_pickAt F G rb v = some x ∧ (∀ y, f_X5_columnOf M N y = some v → f_X5_pickedAt M N rb y = some x) ∧ (x = -1 ∨ ∃ j r c, j < n ∧ x = nI j ∧ r < 12 ∧ c < 12 ∧ rb = nI r ∧ v = nI c ∧ G 0 j = nI (r * 12 + c) ∧ G 6 (r * 12 + c) = nI j) := by
  unfold f_X3_pickAt f_X5_pickedAt
  simp only [in_wi]
  rcases cell_n rb v with ⟨h, hh⟩ | ⟨h, h1, h2, r, k, hr, hk, rfl, rfl⟩
  · rw [h, qc_s, if_pos rfl]
    refine ⟨-1, rfl, fun y hy => ?_, Or.inl rfl⟩
    rw [hy, qc_s]
    rcases hh with h1 | ⟨h1, h2⟩
    · rw [h1, qc_s, if_pos rfl]
    · rw [h1, qc_s, if_neg e10, h2, qc_s, if_pos rfl]
  · rw [h, qc_s, if_neg e10, ix12, ql_ok (by omega) (by decide)]
    refine ⟨_, rfl, fun y hy => ?_, ?_⟩
    · rw [hy, qc_s, h1, qc_s, if_neg e10, h2, qc_s, if_neg e10, ix12m, ql_ok (by omega) (by decide), hp _ (by omega)]
    · rcases pv (r * 12 + k) (by omega) with e | ⟨j, hj, e1, e2⟩
      · exact Or.inl e
      · exact Or.inr ⟨j, r, k, hj, e1, hr, hk, rfl, rfl, e2, e1⟩
def lay (G : Nat → Nat → Int32) (n cell : Nat) (lo up : Int32) : Nat → Nat → Int32 := qG (qG (qG (qG (qG G 0 n (nI cell)) 1 n (G 30 cell)) 3 n 0) 4 n lo) 5 n up
theorem lay_eq {F : Nat → Int32} {G : Nat → Nat → Int32} {n r c : Nat} (hn : n < 144) (f11 : F 11 = nI n) (hr : r < 12) (hc : c < 12) {rb vl vu lo up : Int32} (hl : ∀ G, f_X0_lowerCatch F G (nI r) (nI c) = some vl) (hu : ∀ G, f_X0_upperCatch F G (nI r) (nI c) = some vu) (pl : f_X3_pickAt F G rb vl = some lo) (pu : f_X3_pickAt F G rb vu = some up) : f_X3_layOut F G (nI r) (nI c) rb = some (F, lay G n (r * 12 + c) lo up) := by
  unfold f_X3_layOut
  rw [qn_e, f11, qs_ok hn (by decide), ix12, colAt hr hc, qc_s, qs_ok hn (by decide), qs_ok hn (by decide), hl, qc_s, pickAt_cong (G := G) (by rw [qG_n _ _ _ (by decide), qG_n _ _ _ (by decide), qG_n _ _ _ (by decide)]), pl, qc_s, qs_ok hn (by decide), hu, qc_s, pickAt_cong (G := G) (by rw [qG_n _ _ _ (by decide), qG_n _ _ _ (by decide), qG_n _ _ _ (by decide), qG_n _ _ _ (by decide)]), pu, qc_s, qs_ok hn (by decide), qG_n _ _ _ (by decide)]
  rfl
theorem i32_eq {a b : Int32} (h1 : ¬ a < b) (h2 : ¬ b < a) : a = b := by
  rw [Int32.lt_iff_toInt_lt] at h1 h2
  exact Int32.toInt_inj.mp (by omega)
theorem catch_eq {F : Nat → Int32} {G : Nat → Nat → Int32} {M : Nat → Int32} {N : Nat → Nat → Int32} {n r c w : Nat} (f34 : F 34 = M 1) (f01 : F 34 = 0 ∨ F 34 = 1) (f35 : F 35 = nI w) (m2 : M 2 = nI w) (hw : w = 0 ∨ (3 ≤ w ∧ w ≤ 12)) (hc : c < wd w) (hr : r < 12) (hn : n < 144) (f11 : F 11 = nI n) (m8 : M 8 = nI n) (hp : ∀ c, c < 144 → G 6 c = N 15 c) (pv : PV n (G 6) (G 0)) (h09 : ∀ j, j < n → G 0 j = N 9 j) (rb : Int32) : ∃ lo up fi se : Int32, f_X3_layOut F G (nI r) (nI c) rb = some (F, lay G n (r * 12 + c) lo up) ∧ f_X5_catches M N (nI r) (nI c) rb = some (M, qG (qG N 12 n fi) 13 n se) ∧ CT n lo up fi se ∧ ((∀ x, x < 144 → x / 12 ≠ r → G 6 x = -1) → rb ≠ nI r → lo = -1 ∧ up = -1) := by
  have hc12 : c < 12 := by have := wd_le hw; omega
  obtain ⟨v1, v3, l1, l2, l3, l4, l5⟩ := col_ex f35 m2 hw hc hr
  have fr : ∀ {x v : Int32}, (x = -1 ∨ ∃ j r' c', j < n ∧ x = nI j ∧ r' < 12 ∧ c' < 12 ∧ rb = nI r' ∧ v = nI c' ∧ G 0 j = nI (r' * 12 + c') ∧ G 6 (r' * 12 + c') = nI j) → (∀ x, x < 144 → x / 12 ≠ r → G 6 x = -1) → rb ≠ nI r → x = -1 := by
    intro x v h h1 h2
    rcases h with h | ⟨j, r', c', hj, e1, hr', hc', e2, -, -, e3⟩
    · exact h
    · exfalso
      have z := h1 (r' * 12 + c') (by omega) (by
        intro z
        have : r' = r := by omega
        subst this
        exact h2 e2)
      rw [e3] at z
      exact nI_m1 (by omega) z
  have rg : ∀ {x v : Int32}, (x = -1 ∨ ∃ j r' c', j < n ∧ x = nI j ∧ r' < 12 ∧ c' < 12 ∧ rb = nI r' ∧ v = nI c' ∧ G 0 j = nI (r' * 12 + c') ∧ G 6 (r' * 12 + c') = nI j) → (x = -1 ∨ ∃ j, j < n ∧ x = nI j) := by
    intro x v h
    rcases h with h | ⟨j, r', c', hj, e1, -⟩
    · exact Or.inl h
    · exact Or.inr ⟨j, hj, e1⟩
  have fin : ∀ x y : Int32, f_X5_catches_B102 (nI r) (nI c) rb M N x y = some (M, qG (qG N 12 n x) 13 n y) := by
    intro x y
    unfold f_X5_catches_B102
    rw [m8, qs_ok hn (by decide), qs_ok hn (by decide)]
  have fin2 : ∀ x y : Int32, (x = -1 ∨ ∃ j, j < n ∧ x = nI j) → f_X5_catches_B79 (nI r) (nI c) rb M N x y = some (M, qG (qG N 12 n (if x = -1 then y else x)) 13 n (if x = -1 then -1 else y)) := by
    intro x y hx
    unfold f_X5_catches_B79
    rcases hx with rfl | ⟨j, hj, rfl⟩
    · rw [if_neg (by decide), qn_e, fin, if_pos rfl, if_pos rfl]
    · rw [if_pos (nI_pos' (by omega)), fin, if_neg (nI_m1 (by omega)), if_neg (nI_m1 (by omega))]
  rcases f01 with f0 | f1
  · obtain ⟨x, p1, p2, p3⟩ := pick_eq (F := F) (M := M) hp pv rb (nI c)
    have hu : f_X3_pickAt F G rb (-1) = some (-1) := by
      unfold f_X3_pickAt
      rcases cell_n rb (-1) with ⟨h, -⟩ | ⟨-, -, -, r', k, -, hk, -, e⟩
      · rw [h, qc_s, if_pos rfl]
      · exact absurd e.symm (nI_m1 (by omega))
    refine ⟨x, -1, x, -1, lay_eq hn f11 hr hc12 (fun G => ?_) (fun G => ?_) p1 hu, ?_, ⟨rg p3, Or.inl rfl, ?_, ?_⟩, fun z1 z2 => ⟨fr p3 z1 z2, rfl⟩⟩
    · unfold f_X0_lowerCatch
      rw [if_pos f0]
    · unfold f_X0_upperCatch
      rw [if_pos f0]
    · unfold f_X5_catches
      rw [qn_e, qn_e, ← f34, f0, if_neg (by decide), p2 _ (l5 N), qc_s, fin]
    · by_cases e : x = -1
      · rw [if_pos e, e]
      · rw [if_neg e]
    · by_cases e : x = -1
      · rw [if_pos e]
      · rw [if_neg e]
  · obtain ⟨a, a1, a2, a3⟩ := pick_eq (F := F) (M := M) hp pv rb v1
    obtain ⟨b, b1, b2, b3⟩ := pick_eq (F := F) (M := M) hp pv rb v3
    have el : ∀ G, f_X0_lowerCatch F G (nI r) (nI c) = some (if v3 < v1 then v3 else v1) := fun G => by
      unfold f_X0_lowerCatch
      rw [if_neg (by rw [f1]; decide), l1, qc_s, l2, qc_s]
    have eu : ∀ G, f_X0_upperCatch F G (nI r) (nI c) = some (if v1 < v3 then v3 else v1) := fun G => by
      unfold f_X0_upperCatch
      rw [if_neg (by rw [f1]; decide), l1, qc_s, l2, qc_s]
    have ctm : ∀ x y : Int32, (x = -1 ∨ ∃ j, j < n ∧ x = nI j) → (y = -1 ∨ ∃ j, j < n ∧ y = nI j) → CT n x y (if x = -1 then y else x) (if x = -1 then -1 else y) := fun x y hx hy => ⟨hx, hy, rfl, rfl⟩
    have cat : f_X5_catches M N (nI r) (nI c) rb = if a < 0 then f_X5_catches_B79 (nI r) (nI c) rb M N a b else if b < 0 then f_X5_catches_B79 (nI r) (nI c) rb M N a b else ql (N 9) 144 a fun v12 => ql (N 9) 144 b fun v13 => if v12 ≤ v13 then f_X5_catches_B79 (nI r) (nI c) rb M N a b else f_X5_catches_B79 (nI r) (nI c) rb M N b a := by
      unfold f_X5_catches
      rw [qn_e, qn_e, ← f34, f1, if_pos rfl, a2 _ (l3 N), qc_s, b2 _ (l4 N), qc_s]
    by_cases hv : v3 < v1
    · have hv2 : ¬ v1 < v3 := by
        rw [Int32.lt_iff_toInt_lt] at hv ⊢
        omega
      rw [if_pos hv] at el
      rw [if_neg hv2] at eu
      have lay1 := lay_eq (rb := rb) hn f11 hr hc12 el eu b1 a1
      rcases a3 with ea | ⟨j1, r1, c1, hj1, ea, hr1, hc1, eb1, ev1, e01, e61⟩
      · refine ⟨b, a, _, _, lay1, ?_, ctm b a (rg b3) (Or.inl ea), fun z1 z2 => ⟨fr b3 z1 z2, ea⟩⟩
        rw [cat, ea, if_pos (by decide), fin2 _ _ (Or.inl rfl), if_pos rfl, if_pos rfl]
        by_cases e : b = -1
        · rw [if_pos e, if_pos e, e]
        · rw [if_neg e, if_neg e]
      · have b3' := b3
        rcases b3 with eb | ⟨j2, r2, c2, hj2, eb, hr2, hc2, eb2, ev2, e02, e62⟩
        · refine ⟨b, a, _, _, lay1, ?_, ctm b a (Or.inl eb) (Or.inr ⟨j1, hj1, ea⟩), fun z1 z2 => ⟨eb, fr (Or.inr ⟨j1, r1, c1, hj1, ea, hr1, hc1, eb1, ev1, e01, e61⟩) z1 z2⟩⟩
          rw [cat, ea, eb, if_neg (nI_pos (by omega)), if_pos (by decide), fin2 _ _ (Or.inr ⟨j1, hj1, rfl⟩), if_neg (nI_m1 (by omega)), if_neg (nI_m1 (by omega)), if_pos rfl, if_pos rfl]
        · refine ⟨b, a, _, _, lay1, ?_, ctm b a (rg b3') (Or.inr ⟨j1, hj1, ea⟩), fun z1 z2 => ⟨fr b3' z1 z2, fr (Or.inr ⟨j1, r1, c1, hj1, ea, hr1, hc1, eb1, ev1, e01, e61⟩) z1 z2⟩⟩
          have er : r1 = r2 := (nI_eq (by omega) (by omega)).mp (eb1.symm.trans eb2)
          rw [ev1, ev2, nI_ltI (by omega) (by omega)] at hv
          rw [cat, ea, eb, if_neg (nI_pos (by omega)), if_neg (nI_pos (by omega)), ql_ok (by omega) (by decide), ql_ok (by omega) (by decide), ← h09 j1 hj1, ← h09 j2 hj2, e01, e02, if_neg (nI_ge (by omega) (by omega)), fin2 _ _ (Or.inr ⟨j2, hj2, rfl⟩)]
    · rw [if_neg hv] at el
      have hup : ∃ b', f_X3_pickAt F G rb (if v1 < v3 then v3 else v1) = some b' ∧ b' = b := by
        by_cases q : v1 < v3
        · rw [if_pos q]
          exact ⟨b, b1, rfl⟩
        · have : v1 = v3 := i32_eq q hv
          rw [if_neg q, this]
          exact ⟨b, b1, rfl⟩
      obtain ⟨b', hb', rfl⟩ := hup
      have lay1 := lay_eq (rb := rb) hn f11 hr hc12 el eu a1 hb'
      refine ⟨a, b', _, _, lay1, ?_, ctm a b' (rg a3) (rg b3), fun z1 z2 => ⟨fr a3 z1 z2, fr b3 z1 z2⟩⟩
      rcases a3 with ea | ⟨j1, r1, c1, hj1, ea, hr1, hc1, eb1, ev1, e01, e61⟩
      · rw [cat, ea, if_pos (by decide), fin2 _ _ (Or.inl rfl)]
      · rcases b3 with eb | ⟨j2, r2, c2, hj2, eb, hr2, hc2, eb2, ev2, e02, e62⟩
        · rw [cat, ea, eb, if_neg (nI_pos (by omega)), if_pos (by decide), fin2 _ _ (Or.inr ⟨j1, hj1, rfl⟩)]
        · have er : r1 = r2 := (nI_eq (by omega) (by omega)).mp (eb1.symm.trans eb2)
          rw [ev1, ev2, nI_ltI (by omega) (by omega)] at hv
          rw [cat, ea, eb, if_neg (nI_pos (by omega)), if_neg (nI_pos (by omega)), ql_ok (by omega) (by decide), ql_ok (by omega) (by decide), ← h09 j1 hj1, ← h09 j2 hj2, e01, e02, if_pos (nI_le (by omega) (by omega)), fin2 _ _ (Or.inr ⟨j1, hj1, rfl⟩)]
