/-! the pure part: basics -/
theorem e10 : ¬ ((1 : Int32) = 0) := by decide
theorem qc_s {α β : Type} (a : α) (k : α → Option β) : qc (some a) k = k a := rfl
theorem ql_ok {β : Type} {f : Nat → Int32} {N j : Nat} {k : Int32 → Option β} (h : j < N) (hN : N ≤ 1000) : ql f N (nI j) k = k (f j) := by
  unfold ql
  rw [if_neg (show ¬ (nI j < 0 ∨ N ≤ (nI j).toNatClampNeg) from nI_in h (by omega)), nI_clamp (by omega)]
theorem qs_ok {β : Type} {G : Nat → Nat → Int32} {n N j : Nat} {v : Int32} {k : (Nat → Nat → Int32) → Option β} (h : j < N) (hN : N ≤ 1000) : qs G n N (nI j) v k = k (qG G n j v) := by
  unfold qs
  rw [if_neg (show ¬ (nI j < 0 ∨ N ≤ (nI j).toNatClampNeg) from nI_in h (by omega)), nI_clamp (by omega)]
theorem qz_ok {β : Type} {G : Nat → Nat → Int32} {n N j : Nat} {v : Int32} {k : (Nat → Nat → Int32) → Option β} (h : j < N) (hN : N ≤ 1000) (hv : v = 0 ∨ v = 1) : qz G n N (nI j) v k = k (qG G n j v) := by
  unfold qz
  rw [if_neg (show ¬ (nI j < 0 ∨ N ≤ (nI j).toNatClampNeg) from nI_in h (by omega)), nI_clamp (by omega), if_pos hv]
theorem qd_ok {β : Type} {y : Int32} {k : Option β} (h : ¬ y = 0) : qd y k = k := by
  unfold qd
  rw [if_neg h]
theorem qb_0 : qb 0 = some 0 := rfl
theorem qb_1 : qb 1 = some 1 := rfl
theorem in_wi (x a b : Int32) : f_X5_in x a b = f_X4_isWithin x a b := rfl
theorem wi_n (x a b : Int32) (lo hi : Nat) (ha : a = nI lo) (hb : b = nI hi) (h : hi < 2 ^ 31) (hl : lo ≤ hi) : f_X4_isWithin x a b = some 0 ∨ (f_X4_isWithin x a b = some 1 ∧ ∃ j, lo ≤ j ∧ j ≤ hi ∧ x = nI j) := by
  subst ha
  subst hb
  unfold f_X4_isWithin
  by_cases h1 : x < nI lo
  · left
    rw [if_pos h1]
  · rw [if_neg h1]
    by_cases h2 : nI hi < x
    · left
      rw [if_pos h2]
    · right
      rw [if_neg h2]
      refine ⟨rfl, ?_⟩
      rw [Int32.lt_iff_toInt_lt, nI_toInt (by omega)] at h1
      rw [Int32.lt_iff_toInt_lt, nI_toInt h] at h2
      have h0 : ¬ x < 0 := by
        rw [Int32.lt_iff_toInt_lt]
        have : (0 : Int32).toInt = 0 := by decide
        omega
      obtain ⟨j, hj, rfl⟩ := nI_of h0
      rw [nI_toInt hj] at h1 h2
      exact ⟨j, by omega, by omega, rfl⟩
/-- within, of a number that is one -/
theorem wi_y {j lo hi : Nat} (a b : Int32) (ha : a = nI lo) (hb : b = nI hi) (h : hi < 2 ^ 31) (h1 : lo ≤ j) (h2 : j ≤ hi) : f_X4_isWithin (nI j) a b = some 1 := by
  subst ha
  subst hb
  unfold f_X4_isWithin
  rw [if_neg (nI_nlt h1 (by omega)), if_neg (nI_nlt h2 h)]
theorem cell_n (x y : Int32) : f_X4_isCell x y = some 0 ∧ (f_X4_isWithin x 0 11 = some 0 ∨ f_X4_isWithin x 0 11 = some 1 ∧ f_X4_isWithin y 0 11 = some 0) ∨ (f_X4_isCell x y = some 1 ∧ f_X4_isWithin x 0 11 = some 1 ∧ f_X4_isWithin y 0 11 = some 1 ∧ ∃ r c, r < 12 ∧ c < 12 ∧ x = nI r ∧ y = nI c) := by
  unfold f_X4_isCell
  rcases wi_n x 0 11 0 11 rfl rfl (by decide) (by decide) with h | ⟨h, r, -, hr, ex⟩
  · left
    rw [h]
    exact ⟨rfl, Or.inl rfl⟩
  · rw [h, qc_s, if_neg e10]
    rcases wi_n y 0 11 0 11 rfl rfl (by decide) (by decide) with h2 | ⟨h2, k, -, hk, ey⟩
    · left
      rw [h2]
      exact ⟨rfl, Or.inr ⟨rfl, rfl⟩⟩
    · right
      rw [h2, qc_s, if_neg e10]
      exact ⟨rfl, rfl, rfl, r, k, by omega, by omega, ex, ey⟩
theorem cell_y {r c : Nat} (hr : r < 12) (hc : c < 12) : f_X4_isCell (nI r) (nI c) = some 1 := by
  unfold f_X4_isCell
  rw [wi_y 0 11 rfl rfl (by decide) (Nat.zero_le r) (show r ≤ 11 by omega), qc_s, if_neg e10, wi_y 0 11 rfl rfl (by decide) (Nat.zero_le c) (show c ≤ 11 by omega), qc_s, if_neg e10]
theorem ix12 (r c : Nat) : nI r * 12 + nI c = nI (r * 12 + c) := by
  rw [show (12 : Int32) = nI 12 from rfl, pk_mul, nI_add]
theorem ix12m (r c : Nat) : 12 * nI r + nI c = nI (r * 12 + c) := by
  rw [show (12 : Int32) = nI 12 from rfl, pk_mul, nI_add, Nat.mul_comm]
/-! the relation -/
def CV (F : Nat → Int32) (G : Nat → Nat → Int32) : Prop :=
  (∀ i, i < 144 → G 30 i = -1 ∨ ∃ c, c < 6 ∧ G 30 i = nI c) ∧
  (∀ c, c < 6 → ∃ h, 1 ≤ h ∧ h ≤ 9 ∧ G 31 c = nI h) ∧
  (F 34 = 0 ∨ F 34 = 1) ∧
  (∃ w, (w = 0 ∨ (3 ≤ w ∧ w ≤ 12)) ∧ F 35 = nI w ∧ (w ≠ 0 → ∀ r k, r < 12 → w ≤ k → k < 12 → G 30 (r * 12 + k) = -1)) ∧
  (∃ w, w ≤ 6 ∧ F 37 = nI w)
def RC (F : Nat → Int32) (G : Nat → Nat → Int32) (M : Nat → Int32) (N : Nat → Nat → Int32) : Prop :=
  (G 30 = N 0 ∧ G 31 = N 3 ∧ G 32 = N 4 ∧ G 33 = N 5) ∧ (F 34 = M 1 ∧ F 35 = M 2 ∧ F 36 = M 6 ∧ F 37 = M 7) ∧ CV F G
/-- what a bead is caught on: the class's two, the reference's two -/
def CT (k : Nat) (lo up fi se : Int32) : Prop :=
  (lo = -1 ∨ ∃ j, j < k ∧ lo = nI j) ∧ (up = -1 ∨ ∃ j, j < k ∧ up = nI j) ∧ fi = (if lo = -1 then up else lo) ∧ se = (if lo = -1 then -1 else up)
def smI (f : Nat → Int32) : Nat → Int32
  | 0 => 0
  | n + 1 => smI f n + f n
def WA (n p wv : Nat) (cell col piece pas lo up pick wov cell' col' piece' pas' fi se pick' wov' wm : Nat → Int32) : Prop :=
  (∀ k, k < n → (cell k = cell' k ∧ col k = col' k ∧ piece k = piece' k ∧ pas k = pas' k) ∧ CT k (lo k) (up k) (fi k) (se k) ∧ (∃ c, c < 144 ∧ cell k = nI c) ∧ (∃ c, c < 6 ∧ col k = nI c) ∧ (∃ q, q < p ∧ piece k = nI q)) ∧
  (∀ c, c < 144 → pick c = pick' c) ∧
  (∀ q, 1 ≤ q → q < p → wm q = nI wv ∧ ∀ i, i < wv → wov (q * 6 + i) = wov' (q * 6 + i) ∧ ∃ j, wov (q * 6 + i) = nI j ∧ j < n ∧ ∀ k, k < n → piece k = nI q → j < k) ∧
  (0 < p → wm 0 = 0) ∧
  (∀ k, k + 1 < n → ∃ a b, piece k = nI a ∧ piece (k + 1) = nI b ∧ a ≤ b ∧ b < 1000)
def RD (F : Nat → Int32) (G : Nat → Nat → Int32) (M : Nat → Int32) (N : Nat → Nat → Int32) : Prop :=
  F 10 = M 31 ∧ ∃ n p wv : Nat, (n ≤ 144 ∧ p ≤ 144 ∧ wv ≤ 6) ∧ (F 11 = nI n ∧ M 32 = nI n) ∧ (F 14 = nI p ∧ M 35 = nI p) ∧ F 18 = nI wv ∧ (F 10 = 0 → p = 0 ∧ n = 0) ∧ (¬ F 10 = 0 → F 12 = M 33 ∧ F 13 = M 34 ∧ F 15 = M 36 ∧ F 16 = M 37) ∧ F 17 = smI (N 40) n ∧
  WA n p wv (G 0) (G 1) (G 2) (G 3) (G 4) (G 5) (G 6) (G 7) (N 38) (N 43) (N 39) (N 40) (N 41) (N 42) (N 44) (N 46) (N 45)
def Rl (F : Nat → Int32) (G : Nat → Nat → Int32) (M : Nat → Int32) (N : Nat → Nat → Int32) : Prop := RC F G M N ∧ RD F G M N
/-! the plain ones -/
theorem p_cell : lh_cell Rl := by
  intro F G M N h a1 a2
  obtain ⟨⟨⟨h30, -⟩, -⟩, -⟩ := h
  unfold f_X4_cell f_X0_colourAt f_X5_cell
  simp only [in_wi]
  rcases cell_n a1 a2 with ⟨h, hh⟩ | ⟨h, h1, h2, r, k, hr, hk, rfl, rfl⟩
  · rw [h]
    rcases hh with h1 | ⟨h1, h2⟩
    · rw [h1]
      exact ⟨-1, rfl, rfl⟩
    · rw [h1, h2]
      exact ⟨-1, rfl, rfl⟩
  · rw [h, h1, h2, qc_s, qc_s, qc_s, if_neg e10, if_neg e10, if_neg e10, ix12, ix12m, ql_ok (by omega) (by decide), ql_ok (by omega) (by decide), h30]
    exact ⟨_, rfl, rfl⟩
theorem p_order : lh_order Rl := by
  intro F G M N h a1 a2
  obtain ⟨-, -, n, p, wv, -, -, -, -, -, -, -, -, hpick, -⟩ := h
  unfold f_X4_order f_X3_pickAt f_X5_order
  simp only [in_wi]
  rcases cell_n a1 a2 with ⟨h, hh⟩ | ⟨h, h1, h2, r, k, hr, hk, rfl, rfl⟩
  · rw [h]
    rcases hh with h1 | ⟨h1, h2⟩
    · rw [h1]
      exact ⟨-1, rfl, rfl⟩
    · rw [h1, h2]
      exact ⟨-1, rfl, rfl⟩
  · rw [h, h1, h2, qc_s, qc_s, qc_s, if_neg e10, if_neg e10, if_neg e10, ix12, ix12m, ql_ok (by omega) (by decide), ql_ok (by omega) (by decide), hpick _ (by omega)]
    exact ⟨_, rfl, rfl⟩
/-- what the relation needs stays -/
theorem RD_k {F G M N F1 G1 M1 N1} (h : RD F G M N) (hF : ∀ k, k ≤ 18 → F1 k = F k) (hG : ∀ k, k ≤ 7 → G1 k = G k) (hM : ∀ k, 31 ≤ k → k ≤ 37 → M1 k = M k) (hN : ∀ k, 38 ≤ k → k ≤ 46 → N1 k = N k) : RD F1 G1 M1 N1 := by
  unfold RD at h ⊢
  rw [hF 10 (by decide), hF 11 (by decide), hF 12 (by decide), hF 13 (by decide), hF 14 (by decide), hF 15 (by decide), hF 16 (by decide), hF 17 (by decide), hF 18 (by decide), hG 0 (by decide), hG 1 (by decide), hG 2 (by decide), hG 3 (by decide), hG 4 (by decide), hG 5 (by decide), hG 6 (by decide), hG 7 (by decide), hM 31 (by decide) (by decide), hM 32 (by decide) (by decide), hM 33 (by decide) (by decide), hM 34 (by decide) (by decide), hM 35 (by decide) (by decide), hM 36 (by decide) (by decide), hM 37 (by decide) (by decide), hN 38 (by decide) (by decide), hN 39 (by decide) (by decide), hN 40 (by decide) (by decide), hN 41 (by decide) (by decide), hN 42 (by decide) (by decide), hN 43 (by decide) (by decide), hN 44 (by decide) (by decide), hN 45 (by decide) (by decide), hN 46 (by decide) (by decide)]
  exact h
theorem upd_s (F : Nat → Int32) (n : Nat) (v : Int32) : upd F n v n = v := by
  unfold upd
  rw [if_pos rfl]
theorem upd_n (F : Nat → Int32) {n k : Nat} (v : Int32) (h : k ≠ n) : upd F n v k = F k := by
  unfold upd
  rw [if_neg h]
theorem qG_s (G : Nat → Nat → Int32) (n j : Nat) (v : Int32) : qG G n j v n = upd (G n) j v := by
  unfold qG
  rw [if_pos rfl]
theorem qG_n (G : Nat → Nat → Int32) {n k : Nat} (j : Nat) (v : Int32) (h : k ≠ n) : qG G n j v k = G k := by
  unfold qG
  rw [if_neg h]
theorem p_stitch : lh_stitch Rl := by
  intro F G M N h a1
  obtain ⟨⟨hg, ⟨h34, h35, h36, h37⟩, cv1, cv2, cv3, cv4, cv5⟩, hD⟩ := h
  have key : ∀ x : Int32, (x = 0 ∨ x = 1) → ∃ (r : Int32) (F1 : Nat → Int32) (G1 : Nat → Nat → Int32) (M1 : Nat → Int32) (N1 : Nat → Nat → Int32), f_X4_stitch_B11 x F G = some (r, F1, G1) ∧ (qn (M 1) fun v3 => qf M 1 x fun F4 => some (v3, F4, N)) = some (r, M1, N1) ∧ Rl F1 G1 M1 N1 := by
    intro x hx
    refine ⟨F 34, upd F 34 x, G, upd M 1 x, N, rfl, ?_, ⟨hg, ⟨?_, ?_, ?_, ?_⟩, cv1, cv2, ?_, ?_, ?_⟩, ?_⟩
    · unfold qn qf
      rw [h34]
    · rw [upd_s, upd_s]
    · rw [upd_n _ _ (by decide), upd_n _ _ (by decide), h35]
    · rw [upd_n _ _ (by decide), upd_n _ _ (by decide), h36]
    · rw [upd_n _ _ (by decide), upd_n _ _ (by decide), h37]
    · rw [upd_s]
      exact hx
    · rw [upd_n _ _ (by decide)]
      exact cv4
    · rw [upd_n _ _ (by decide)]
      exact cv5
    · exact RD_k hD (fun k hk => upd_n _ _ (by omega)) (fun _ _ => rfl) (fun k hk _ => upd_n _ _ (by omega)) (fun _ _ _ => rfl)
  unfold f_X4_stitch f_X5_stitch
  simp only [in_wi]
  by_cases h0 : a1 = 0
  · subst h0
    rw [if_pos rfl, show f_X4_isWithin (0 : Int32) 0 1 = some 1 from wi_y (j := 0) 0 1 rfl rfl (by decide) (Nat.zero_le 0) (by decide), qc_s, if_neg e10]
    exact key 0 (Or.inl rfl)
  · rw [if_neg h0]
    by_cases h1 : a1 = 1
    · subst h1
      rw [if_pos rfl, show f_X4_isWithin (1 : Int32) 0 1 = some 1 from wi_y (j := 1) 0 1 rfl rfl (by decide) (by decide) (by decide), qc_s, if_neg e10]
      exact key 1 (Or.inr rfl)
    · rw [if_neg h1]
      rcases wi_n a1 0 1 0 1 rfl rfl (by decide) (by decide) with h | ⟨h, j, hj0, hj, e⟩
      · rw [h]
        exact ⟨-1, F, G, M, N, rfl, rfl, ⟨hg, ⟨h34, h35, h36, h37⟩, cv1, cv2, cv3, cv4, cv5⟩, hD⟩
      · exfalso
        rcases (show j = 0 ∨ j = 1 by omega) with rfl | rfl
        · exact h0 e
        · exact h1 e
theorem p_thread : lh_thread Rl := by
  intro F G M N h a1 a2
  have hh := h
  obtain ⟨⟨hg, ⟨h34, h35, h36, h37⟩, cv1, cv2, cv3, cv4, cv5⟩, hD⟩ := h
  unfold f_X4_thread f_X5_thread
  simp only [in_wi]
  rcases wi_n a1 1 9999 1 9999 rfl rfl (by decide) (by decide) with h | ⟨h, j, hj0, hj, e⟩
  · rw [h]
    exact ⟨0, F, G, M, N, rfl, rfl, hh⟩
  · rw [h, qc_s, qc_s, if_neg e10, if_neg e10]
    rcases wi_n a2 0 6 0 6 rfl rfl (by decide) (by decide) with h2 | ⟨h2, k, hk0, hk, e2⟩
    · rw [h2]
      exact ⟨0, F, G, M, N, rfl, rfl, hh⟩
    · rw [h2, qc_s, qc_s, if_neg e10, if_neg e10]
      refine ⟨1, _, G, _, N, rfl, rfl, ⟨hg, ⟨?_, ?_, ?_, ?_⟩, cv1, cv2, ?_, ?_, ?_⟩, ?_⟩
      · rw [upd_n _ _ (by decide), upd_n _ _ (by decide), upd_n _ _ (by decide), upd_n _ _ (by decide), h34]
      · rw [upd_n _ _ (by decide), upd_n _ _ (by decide), upd_n _ _ (by decide), upd_n _ _ (by decide), h35]
      · rw [upd_n _ _ (by decide), upd_s, upd_n _ _ (by decide), upd_s]
      · rw [upd_s, upd_s]
      · rw [upd_n _ _ (by decide), upd_n _ _ (by decide)]
        exact cv3
      · rw [upd_n _ _ (by decide), upd_n _ _ (by decide)]
        exact cv4
      · rw [upd_s]
        exact ⟨k, hk, e2⟩
      · exact RD_k hD (fun k hk => by rw [upd_n _ _ (by omega), upd_n _ _ (by omega)]) (fun _ _ => rfl) (fun k hk _ => by rw [upd_n _ _ (by omega), upd_n _ _ (by omega)]) (fun _ _ _ => rfl)
theorem isCol (x : Int32) : f_X4_isColour x = some 0 ∧ f_X5_isColour x = some 0 ∧ f_X4_isWithin x 0 5 = some 0 ∨ (f_X4_isColour x = some 1 ∧ f_X5_isColour x = some 1 ∧ ∃ j, j < 6 ∧ x = nI j) := by
  unfold f_X4_isColour f_X5_isColour
  simp only [in_wi]
  rcases wi_n x 0 5 0 5 rfl rfl (by decide) (by decide) with h | ⟨h, j, hj0, hj, e⟩
  · rw [h]
    exact Or.inl ⟨rfl, rfl, rfl⟩
  · rw [h]
    exact Or.inr ⟨rfl, rfl, j, by omega, e⟩
theorem p_colour : lh_colour Rl := by
  intro F G M N h a1 a2 a3 a4
  have hh := h
  obtain ⟨⟨⟨g30, g31, g32, g33⟩, hf, cv1, cv2, cv3, cv4, cv5⟩, hD⟩ := h
  unfold f_X4_colour f_X5_colour
  simp only [in_wi]
  rcases isCol a1 with ⟨h1, h2, -⟩ | ⟨h1, h2, j, hj, rfl⟩
  · rw [h1, h2]
    exact ⟨0, F, G, M, N, rfl, rfl, hh⟩
  · rw [h1, h2, qc_s, qc_s, if_neg e10, if_neg e10]
    rcases wi_n a2 1 9 1 9 rfl rfl (by decide) (by decide) with h | ⟨h, b, hb0, hb, e⟩
    · rw [h]
      exact ⟨0, F, G, M, N, rfl, rfl, hh⟩
    · rw [h, qc_s, qc_s, if_neg e10, if_neg e10]
      rcases wi_n a3 1 20 1 20 rfl rfl (by decide) (by decide) with h | ⟨h, -⟩
      · rw [h]
        exact ⟨0, F, G, M, N, rfl, rfl, hh⟩
      · rw [h, qc_s, qc_s, if_neg e10, if_neg e10]
        rcases wi_n a4 1 100 1 100 rfl rfl (by decide) (by decide) with h | ⟨h, -⟩
        · rw [h]
          exact ⟨0, F, G, M, N, rfl, rfl, hh⟩
        · rw [h, qc_s, qc_s, if_neg e10, if_neg e10]
          rw [qs_ok hj (by decide), qs_ok hj (by decide), qs_ok hj (by decide), qs_ok hj (by decide), qs_ok hj (by decide), qs_ok hj (by decide)]
          refine ⟨1, F, _, M, _, rfl, rfl, ⟨⟨?_, ?_, ?_, ?_⟩, hf, ?_, ?_, cv3, ?_, cv5⟩, ?_⟩
          · rw [qG_n _ _ _ (by decide), qG_n _ _ _ (by decide), qG_n _ _ _ (by decide), qG_n _ _ _ (by decide), qG_n _ _ _ (by decide), qG_n _ _ _ (by decide), g30]
          · rw [qG_n _ _ _ (by decide), qG_n _ _ _ (by decide), qG_s, qG_n _ _ _ (by decide), qG_n _ _ _ (by decide), qG_s, g31]
          · rw [qG_n _ _ _ (by decide), qG_s, qG_n _ _ _ (by decide), qG_n _ _ _ (by decide), qG_s, qG_n _ _ _ (by decide), g32]
          · rw [qG_s, qG_n _ _ _ (by decide), qG_n _ _ _ (by decide), qG_s, qG_n _ _ _ (by decide), qG_n _ _ _ (by decide), g33]
          · rw [qG_n _ _ _ (by decide), qG_n _ _ _ (by decide), qG_n _ _ _ (by decide)]
            exact cv1
          · rw [qG_n _ _ _ (by decide), qG_n _ _ _ (by decide), qG_s]
            intro c hc
            by_cases e1 : c = j
            · subst e1
              rw [upd_s]
              exact ⟨b, hb0, hb, e⟩
            · rw [upd_n _ _ e1]
              exact cv2 c hc
          · rw [qG_n _ _ _ (by decide), qG_n _ _ _ (by decide), qG_n _ _ _ (by decide)]
            exact cv4
          · exact RD_k hD (fun _ _ => rfl) (fun k hk => by rw [qG_n _ _ _ (by omega), qG_n _ _ _ (by omega), qG_n _ _ _ (by omega)]) (fun _ _ _ => rfl) (fun k hk _ => by rw [qG_n _ _ _ (by omega), qG_n _ _ _ (by omega), qG_n _ _ _ (by omega)])
