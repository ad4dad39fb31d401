/-! the join -/
def JB (n p wv : Nat) (F : Nat → Int32) (G : Nat → Nat → Int32) (M : Nat → Int32) (N : Nat → Nat → Int32) : Prop :=
  (n ≤ 144 ∧ p < 144 ∧ wv ≤ 6) ∧ (F 11 = nI n ∧ M 8 = nI n) ∧ (F 18 = nI wv ∧ M 7 = nI wv) ∧ (F 14 = nI p ∧ M 18 = nI p) ∧ G 31 = N 3 ∧ (∀ j, j < n → ∃ q, q < 6 ∧ G 1 j = nI q ∧ N 14 j = nI q ∧ G 3 j = N 11 j)
theorem cnt_out {L : List Nat} {n j : Nat} (h : ∀ x, x ∈ L → x < n) (hj : n ≤ j) : nI (L.count j) = 0 := by
  rw [List.count_eq_zero.mpr (fun z => by have := h j z; omega)]
  rfl
theorem getD_mem {L : List Nat} {i : Nat} (h : i < L.length) : L.getD i 0 ∈ L := by
  rw [List.getD_eq_getElem?_getD, List.getElem?_eq_getElem h]
  exact List.getElem_mem h
theorem sub_cancel (a b : Int32) : a + b - b = a := by
  rw [Int32.sub_eq_add_neg, Int32.add_assoc, Int32.add_right_neg, Int32.add_zero]
theorem join_eq {n p wv : Nat} {F : Nat → Int32} {G : Nat → Nat → Int32} {M : Nat → Int32} {N : Nat → Nat → Int32} (h : JB n p wv F G M N) : ∃ (b : Bool) (F' : Nat → Int32) (G' : Nat → Nat → Int32) (M' : Nat → Int32) (N' : Nat → Nat → Int32), f_X3_join F G = some (b2i b, F', G') ∧ f_X5_joins M N = some (b2i b, M', N') ∧ (∀ q, q ≠ 3 → q ≠ 7 → q ≠ 8 → G' q = G q) ∧ (∀ q, q ≠ 11 → q ≠ 21 → q ≠ 22 → q ≠ 29 → q ≠ 30 → N' q = N q) ∧ (∀ i, i < p * 6 → G' 7 i = G 7 i) ∧ (b = false → F' = F ∧ M' = M ∧ G' 3 = G 3 ∧ N' 11 = N 11 ∧ N' 21 = N 21 ∧ N' 22 = N 22) ∧ (b = true → F' = upd (upd (upd F 17 (F 17 + (nI wv + nI wv))) 14 (nI (p + 1))) 16 (F 36) ∧ M' = upd (upd M 18 (nI (p + 1))) 20 (M 6) ∧ N' 21 = upd (N 21) p (nI wv) ∧ (∀ x, x < p * 6 → N' 22 x = N 22 x) ∧ (∀ i, i < wv → ∃ j, j < n ∧ G' 7 (p * 6 + i) = nI j ∧ N' 22 (p * 6 + i) = nI j) ∧ (∀ j, j < n → G' 3 j = N' 11 j) ∧ (∀ j, n ≤ j → G' 3 j = G 3 j) ∧ smI (N' 11) n = smI (N 11) n + (nI wv + nI wv)) := by
  obtain ⟨⟨hn, hp, hwv⟩, ⟨f11, m8⟩, ⟨f18, m7⟩, ⟨f14, m18⟩, g31, hj⟩ := h
  obtain ⟨b8, hb8⟩ : ∃ b8 : Nat → Bool, b8 = fun j => decide (¬ G 31 (G 1 j).toNatClampNeg ≤ G 3 j) := ⟨_, rfl⟩
  have c8 : ∀ j, j < n → ∃ q, q < 6 ∧ G 1 j = nI q ∧ (b8 j = true ↔ ¬ G 31 q ≤ G 3 j) := by
    intro j hjn
    obtain ⟨q, hq, e1, -, -⟩ := hj j hjn
    refine ⟨q, hq, e1, ?_⟩
    rw [hb8]
    show decide (¬ G 31 (G 1 j).toNatClampNeg ≤ G 3 j) = true ↔ _
    rw [e1, nI_clamp (by omega), decide_eq_true_iff]
  have r8 : ∀ j, j < n → ∃ q, q < 6 ∧ N 14 j = nI q ∧ (b8 j = true ↔ N 11 j < N 3 q) := by
    intro j hjn
    obtain ⟨q, hq, e1, e2, e3⟩ := hj j hjn
    refine ⟨q, hq, e2, ?_⟩
    rw [hb8]
    show decide (¬ G 31 (G 1 j).toNatClampNeg ≤ G 3 j) = true ↔ _
    rw [e1, nI_clamp (by omega), decide_eq_true_iff, g31, e3, Int32.not_le]
  obtain ⟨L8, hL8⟩ : ∃ L, L = fnd b8 wv n 0 := ⟨_, rfl⟩
  have l8 : ∀ x, x ∈ L8 → x < n := by rw [hL8]; exact fnd_lt
  have n8 : L8.length ≤ wv := by
    have := fnd_len (b := b8) (wv := wv) (k := n) (f := 0) (Nat.zero_le _)
    rw [hL8]
    omega
  obtain ⟨G1, a1, a2, a3, -, a5⟩ := wt8_eq (s := 0) (by omega) hn f11 f18 hwv c8
  obtain ⟨N1, d1, d2, -, d5⟩ := fd29_loop m7 hwv (b := b8) 1000 n 0 N (by omega) hn (by omega) r8
  rw [← hL8] at a1 a3 a5 d1 d5
  have D1 : f_X5_finds_29 M N 0 = some (b2i (decide (L8.length = wv)), M, N1) := by
    unfold f_X5_finds_29
    rw [qn_e, qn_e, m8, Int32.sub_eq_add_neg]
    rw [Nat.zero_add] at d1
    exact d1
  unfold f_X3_join f_X5_joins
  rw [D1, qc_s, show (0 : Int32) = nI 0 from rfl, a1, qc_s]
  dsimp only
  rw [f18]
  have U8 : ∀ G2 : Nat → Nat → Int32, G2 8 = G1 8 → ∃ G' : Nat → Nat → Int32, f_X3_join_B29 F G2 (nI L8.length) = some (0, F, G') ∧ (∀ q, q ≠ 3 → G' q = G2 q) ∧ (∀ j, G' 3 j = G2 3 j - nI (L8.count j)) := by
    intro G2 e
    obtain ⟨G', e1, e2, e3⟩ := uw8_eq (s := 0) (F := F) (L := L8) (G := G2) (by omega) (fun x hx => by have := l8 x hx; omega) (by omega) (fun x hx => by rw [e]; exact a5 x hx)
    refine ⟨G', ?_, e2, e3⟩
    unfold f_X3_join_B29
    rw [show (0 : Int32) = nI 0 from rfl, e1, qc_s]
  by_cases full : L8.length = wv
  · rw [decide_eq_true full, if_neg (nI_nlt (by omega) (by omega)), if_neg (show ¬ b2i true = nI 0 by decide), f14, if_pos (show nI p < (144 : Int32) from nI_lt (b := 144) hp (by decide)), qn_e, show (6 : Int32) = nI 6 from rfl, pk_mul]
    obtain ⟨b7, hb7⟩ : ∃ b7 : Nat → Bool, b7 = fun j => decide (¬ G 31 (G 1 j).toNatClampNeg ≤ G1 3 j) := ⟨_, rfl⟩
    have c7 : ∀ j, j < n → ∃ q, q < 6 ∧ G1 1 j = nI q ∧ (b7 j = true ↔ ¬ G1 31 q ≤ G1 3 j) := by
      intro j hjn
      obtain ⟨q, hq, e1, -, -⟩ := hj j hjn
      refine ⟨q, hq, by rw [a2 1 (by decide) (by decide)]; exact e1, ?_⟩
      rw [hb7, a2 31 (by decide) (by decide)]
      show decide (¬ G 31 (G 1 j).toNatClampNeg ≤ G1 3 j) = true ↔ _
      rw [e1, nI_clamp (by omega), decide_eq_true_iff]
    have r7 : ∀ j, j < n → ∃ q, q < 6 ∧ N1 14 j = nI q ∧ (b7 j = true ↔ N1 11 j + cnI (N1 29) (nI j) wv < N1 3 q) := by
      intro j hjn
      obtain ⟨q, hq, e1, e2, e3⟩ := hj j hjn
      refine ⟨q, hq, by rw [d2 14 (by decide)]; exact e2, ?_⟩
      have ec := cnI_list (g := N1 29) (j := j) (by omega) L8 [] (fun x hx => by have := l8 x hx; omega) d5 rfl
      rw [List.length_nil, Nat.zero_add, full, List.nil_append] at ec
      rw [hb7, d2 11 (by decide), d2 3 (by decide), ec]
      show decide (¬ G 31 (G 1 j).toNatClampNeg ≤ G1 3 j) = true ↔ _
      rw [e1, nI_clamp (by omega), decide_eq_true_iff, g31, a3 j, e3, Int32.not_le]
    obtain ⟨L7, hL7⟩ : ∃ L, L = fnd b7 wv n 0 := ⟨_, rfl⟩
    have l7 : ∀ x, x ∈ L7 → x < n := by rw [hL7]; exact fnd_lt
    have n7 : L7.length ≤ wv := by
      have := fnd_len (b := b7) (wv := wv) (k := n) (f := 0) (Nat.zero_le _)
      rw [hL7]
      omega
    obtain ⟨G2, x1, x2, x3, x4, x5⟩ := wt7_eq (s := p * 6) (by omega) hn f11 f18 hwv c7
    obtain ⟨N2, y1, y2, -, y5⟩ := fd30_loop m7 hwv (b := b7) 1000 n 0 N1 (by omega) hn (by omega) r7
    rw [← hL7] at x1 x3 x5 y1 y5
    have D2 : f_X5_finds_30 M N1 1 = some (b2i (decide (L7.length = wv)), M, N2) := by
      unfold f_X5_finds_30
      rw [qn_e, qn_e, m8, Int32.sub_eq_add_neg]
      rw [Nat.zero_add] at y1
      exact y1
    rw [x1, qc_s, D2, qc_s]
    dsimp only
    by_cases full7 : L7.length = wv
    · rw [decide_eq_true full7, if_pos (show F 18 ≤ nI L7.length by rw [f18]; exact nI_le (by omega) (by omega)), if_neg (show ¬ b2i true = nI 0 by decide), qf_e, qf_e, qf_e, qn_e]
      obtain ⟨N3, z1, z2, z3, z4, z5, z6⟩ := jo_loop m7 hwv m18 hp 1000 0 L8 L7 N2 (by omega) (by omega) (by omega) (fun x hx => by have := l8 x hx; omega) (fun x hx => by have := l7 x hx; omega) (fun x hx => by rw [y2 29 (by decide)]; exact d5 x hx) y5
      have e11 : ∀ j, N3 11 j = N 11 j + (nI (L8.count j) + nI (L7.count j)) := fun j => by
        rw [z4, y2 11 (by decide), d2 11 (by decide)]
      refine ⟨true, _, G2, _, N3, rfl, z1, fun q h3 h7 h8 => ?_, fun q h1 h2 h3 h4 h5 => ?_, fun i hi => ?_, fun z => (by cases z), fun _ => ⟨?_, rfl, ?_, fun x hx => ?_, fun i hi => ?_, fun j hjn => ?_, fun j hjn => ?_, ?_⟩⟩
      · rw [x2 q h3 h7, a2 q h3 h8]
      · rw [z2 q h1 h3 h2, y2 q h5, d2 q h4]
      · rw [x4 i hi, a2 7 (by decide) (by decide)]
      · rw [full, full7, upd_n _ _ (by decide), f14, nI_1, upd_n _ _ (by decide), upd_n _ _ (by decide)]
      · rw [z3, y2 21 (by decide), d2 21 (by decide)]
      · rw [z5 x (by omega), y2 22 (by decide), d2 22 (by decide)]
      · refine ⟨L7.getD i 0, l7 _ (getD_mem (by omega)), x5 i (by omega), z6 i (by omega)⟩
      · obtain ⟨q, hq, -, -, e3⟩ := hj j hjn
        rw [x3, a3, e11, e3, Int32.add_assoc]
      · rw [x3, a3, cnt_out l8 hjn, cnt_out l7 hjn, Int32.add_zero, Int32.add_zero]
      · rw [show smI (N3 11) n = smI (fun j => (N 11 j + nI (L8.count j)) + nI (L7.count j)) n from smI_cong (fun j _ => by rw [e11, Int32.add_assoc]), smI_list L7 _ l7, smI_list L8 _ l8, full, full7, Int32.add_assoc]
    · rw [decide_eq_false full7, if_neg (show ¬ F 18 ≤ nI L7.length by rw [f18]; exact nI_ge (by omega) (by omega)), if_pos (show b2i false = nI 0 by decide)]
      obtain ⟨G3, u1, u2, u3⟩ := uw7_eq (s := p * 6) (F := F) (L := L7) (G := G2) (by omega) (fun x hx => by have := l7 x hx; omega) (by omega) x5
      obtain ⟨G4, v1, v2, v3⟩ := uw8_eq (s := 0) (F := F) (L := L8) (G := G3) (by omega) (fun x hx => by have := l8 x hx; omega) (by omega) (fun x hx => by rw [u2 8 (by decide), x2 8 (by decide) (by decide)]; exact a5 x hx)
      rw [u1, qc_s]
      dsimp only
      rw [v1, qc_s]
      refine ⟨false, F, G4, M, N2, rfl, rfl, fun q h3 h7 h8 => ?_, fun q h1 h2 h3 h4 h5 => ?_, fun i hi => ?_, fun _ => ⟨rfl, rfl, ?_, ?_, ?_, ?_⟩, fun z => (by cases z)⟩
      · rw [v2 q h3, u2 q h3, x2 q h3 h7, a2 q h3 h8]
      · rw [y2 q h5, d2 q h4]
      · rw [v2 7 (by decide), u2 7 (by decide), x4 i hi, a2 7 (by decide) (by decide)]
      · funext j
        rw [v3, u3, x3, a3, sub_cancel, sub_cancel]
      · rw [y2 11 (by decide), d2 11 (by decide)]
      · rw [y2 21 (by decide), d2 21 (by decide)]
      · rw [y2 22 (by decide), d2 22 (by decide)]
  · rw [decide_eq_false full, if_pos (nI_lt (by omega) (by omega)), if_pos (show b2i false = nI 0 by decide)]
    obtain ⟨G', e1, e2, e3⟩ := U8 G1 rfl
    rw [e1]
    refine ⟨false, F, G', M, N1, rfl, rfl, fun q h3 h7 h8 => ?_, fun q h1 h2 h3 h4 h5 => d2 q h4, fun i hi => ?_, fun _ => ⟨rfl, rfl, ?_, d2 11 (by decide), d2 21 (by decide), d2 22 (by decide)⟩, fun z => (by cases z)⟩
    · rw [e2 q h3, a2 q h3 h8]
    · rw [e2 7 (by decide), a2 7 (by decide) (by decide)]
    · funext j
      rw [e3, a3, sub_cancel]
