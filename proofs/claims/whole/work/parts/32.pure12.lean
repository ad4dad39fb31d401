/-! what a weave finds: the last beads with room -/
def fnd (b : Nat → Bool) (wv : Nat) : Nat → Nat → List Nat
  | 0, _ => []
  | k + 1, f => if f < wv ∧ b k = true then k :: fnd b wv k (f + 1) else fnd b wv k f
theorem fnd_lt {b : Nat → Bool} {wv : Nat} : ∀ {k f : Nat}, ∀ x, x ∈ fnd b wv k f → x < k
  | 0, _ => fun x h => by cases h
  | k + 1, f => fun x h => by
    unfold fnd at h
    split at h
    · rcases List.mem_cons.mp h with rfl | h
      · omega
      · have := fnd_lt x h
        omega
    · have := fnd_lt x h
      omega
theorem fnd_len {b : Nat → Bool} {wv : Nat} : ∀ {k f : Nat}, f ≤ wv → f + (fnd b wv k f).length ≤ wv
  | 0, _ => fun h => h
  | k + 1, f => fun h => by
    unfold fnd
    split
    · rename_i z
      have := fnd_len (b := b) (k := k) (f := f + 1) (wv := wv) (by omega)
      rw [List.length_cons]
      omega
    · exact fnd_len h
theorem fnd_full {b : Nat → Bool} {wv : Nat} : ∀ {k f : Nat}, wv ≤ f → fnd b wv k f = []
  | 0, _ => fun _ => rfl
  | k + 1, f => fun h => by
    unfold fnd
    rw [if_neg (by omega)]
    exact fnd_full h
theorem fnd_cong {b b' : Nat → Bool} {wv : Nat} : ∀ {k f : Nat}, (∀ j, j < k → b j = b' j) → fnd b wv k f = fnd b' wv k f
  | 0, _ => fun _ => rfl
  | k + 1, f => fun h => by
    unfold fnd
    rw [h k (by omega), fnd_cong (k := k) (fun j hj => h j (by omega)), fnd_cong (k := k) (fun j hj => h j (by omega))]
theorem cnt_cons (x j : Nat) (L : List Nat) : nI ((x :: L).count j) = (if j = x then 1 else 0) + nI (L.count j) := by
  rw [List.count_cons]
  by_cases h : j = x
  · subst h
    rw [if_pos (by simp), if_pos rfl, ← nI_add, Int32.add_comm]
    rfl
  · rw [if_neg (by simp; exact fun z => h z.symm), if_neg h, Nat.add_zero, Int32.zero_add]
theorem wt8_loop {wv s : Nat} (hs : s + wv ≤ 6) {F : Nat → Int32} (h18 : F 18 = nI wv) (hwv : wv ≤ 6) {b : Nat → Bool} : ∀ (fuel k f : Nat) (G : Nat → Nat → Int32), k < fuel → k ≤ 144 → f ≤ wv → (∀ j, j < k → ∃ q, q < 6 ∧ G 1 j = nI q ∧ (b j = true ↔ ¬ G 31 q ≤ G 3 j)) → ∃ G' : Nat → Nat → Int32, f_X3_weaveThrough_8_L11 (nI s) fuel F G (nI f) (nI k + (-1)) = some (nI (f + (fnd b wv k f).length), F, G') ∧ (∀ q, q ≠ 3 → q ≠ 8 → G' q = G q) ∧ (∀ j, G' 3 j = G 3 j + nI ((fnd b wv k f).count j)) ∧ (∀ i, i < s + f → G' 8 i = G 8 i) ∧ (∀ i, i < (fnd b wv k f).length → G' 8 (s + f + i) = nI ((fnd b wv k f).getD i 0)) := by
  intro fuel
  induction fuel with
  | zero => intro k f G h; omega
  | succ fuel ih =>
    intro k f G hk hk1 hf hb
    show ∃ G' : Nat → Nat → Int32, f_X3_weaveThrough_8_L11_b (f_X3_weaveThrough_8_L11 (nI s) fuel) (nI s) F G (nI f) (nI k + (-1)) = _ ∧ _
    unfold f_X3_weaveThrough_8_L11_b f_X3_weaveThrough_8_B69
    cases k with
    | zero =>
      rw [if_pos (by decide)]
      refine ⟨G, rfl, fun _ _ _ => rfl, fun j => ?_, fun _ _ => rfl, fun i hi => ?_⟩
      · show G 3 j = G 3 j + 0
        rw [Int32.add_zero]
      · cases hi
    | succ k =>
      rw [pk_m1, if_neg (nI_pos (by omega)), h18]
      by_cases hfw : f < wv
      · obtain ⟨q, hq, c1, c2⟩ := hb k (by omega)
        rw [if_neg (nI_ge hfw (by omega)), ql_ok (by omega) (by decide), ql_ok (by omega) (by decide), c1, ql_ok hq (by decide)]
        by_cases hb1 : b k = true
        · rw [if_neg (c2.mp hb1), ql_ok (by omega) (by decide), qs_ok (by omega) (by decide), nI_add, qs_ok (by omega) (by decide), qn_e, qn_e, nI_1]
          obtain ⟨G', e1, e2, e3, e4, e5⟩ := ih k (f + 1) (qG (qG G 3 k (G 3 k + 1)) 8 (s + f) (nI k)) (by omega) (by omega) (by omega) (fun j hj => by
            obtain ⟨q, hq, c1, c2⟩ := hb j (by omega)
            refine ⟨q, hq, ?_, ?_⟩
            · rw [qG_n _ _ _ (by decide), qG_n _ _ _ (by decide)]
              exact c1
            · rw [qG_n _ _ _ (by decide), qG_n _ _ _ (by decide), qG_n _ _ _ (by decide), qG_s, upd_n _ _ (by omega)]
              exact c2)
          have hL : fnd b wv (k + 1) f = k :: fnd b wv k (f + 1) := by
            show (if f < wv ∧ b k = true then k :: fnd b wv k (f + 1) else fnd b wv k f) = _
            rw [if_pos ⟨hfw, hb1⟩]
          rw [hL]
          refine ⟨G', ?_, fun q h3 h8 => ?_, fun j => ?_, fun i hi => ?_, fun i hi => ?_⟩
          · rw [e1, List.length_cons, show f + 1 + (fnd b wv k (f + 1)).length = f + ((fnd b wv k (f + 1)).length + 1) by omega]
          · rw [e2 q h3 h8, qG_n _ _ _ h8, qG_n _ _ _ h3]
          · rw [e3, qG_n _ _ _ (by decide), qG_s, cnt_cons]
            by_cases e : j = k
            · rw [if_pos e, e, upd_s, Int32.add_assoc]
            · rw [if_neg e, upd_n _ _ e, Int32.zero_add]
          · rw [e4 i (by omega), qG_s, upd_n _ _ (by omega), qG_n _ _ _ (by decide)]
          · cases i with
            | zero =>
              rw [e4 _ (by omega), Nat.add_zero, qG_s, upd_s]
              rfl
            | succ i =>
              rw [List.length_cons] at hi
              rw [show s + f + (i + 1) = s + (f + 1) + i by omega, e5 i (by omega)]
              rfl
        · rw [if_pos (Decidable.not_not.mp (fun z => hb1 (c2.mpr z))), qn_e]
          have hL : fnd b wv (k + 1) f = fnd b wv k f := by
            show (if f < wv ∧ b k = true then k :: fnd b wv k (f + 1) else fnd b wv k f) = _
            rw [if_neg (fun z => hb1 z.2)]
          rw [hL]
          exact ih k f G (by omega) (by omega) hf (fun j hj => hb j (by omega))
      · rw [if_pos (nI_le (by omega) (by omega)), fnd_full (by omega)]
        refine ⟨G, rfl, fun _ _ _ => rfl, fun j => ?_, fun _ _ => rfl, fun i hi => ?_⟩
        · show G 3 j = G 3 j + 0
          rw [Int32.add_zero]
        · cases hi
theorem wt8_eq {n wv s : Nat} (hs : s + wv ≤ 6) {F : Nat → Int32} (hn : n ≤ 144) (h11 : F 11 = nI n) (h18 : F 18 = nI wv) (hwv : wv ≤ 6) {b : Nat → Bool} {G : Nat → Nat → Int32} (hb : ∀ j, j < n → ∃ q, q < 6 ∧ G 1 j = nI q ∧ (b j = true ↔ ¬ G 31 q ≤ G 3 j)) : ∃ G' : Nat → Nat → Int32, f_X3_weaveThrough_8 F G (nI s) = some (nI (fnd b wv n 0).length, F, G') ∧ (∀ q, q ≠ 3 → q ≠ 8 → G' q = G q) ∧ (∀ j, G' 3 j = G 3 j + nI ((fnd b wv n 0).count j)) ∧ (∀ i, i < s → G' 8 i = G 8 i) ∧ (∀ i, i < (fnd b wv n 0).length → G' 8 (s + i) = nI ((fnd b wv n 0).getD i 0)) := by
  unfold f_X3_weaveThrough_8
  rw [qn_e, qn_e, h11, Int32.sub_eq_add_neg]
  have := wt8_loop hs h18 hwv (b := b) 1000 n 0 G (by omega) hn (by omega) hb
  rw [Nat.zero_add] at this
  exact this
theorem uw8_loop {s : Nat} {F : Nat → Int32} {L : List Nat} (hs : s + L.length ≤ 6) (hL : ∀ x, x ∈ L → x < 144) : ∀ (fuel i : Nat) (A : List Nat) (G : Nat → Nat → Int32), A.length < fuel → i + A.length = L.length → (∀ x, x ∈ A → x < 144) → (∀ x, x < A.length → G 8 (s + i + x) = nI (A.getD x 0)) → ∃ G' : Nat → Nat → Int32, f_X3_unweave_8_L3 (nI s) (nI L.length) fuel F G (nI i) = some (F, G') ∧ (∀ q, q ≠ 3 → G' q = G q) ∧ (∀ j, G' 3 j = G 3 j - nI (A.count j)) := by
  intro fuel
  induction fuel with
  | zero => intro i A G h; omega
  | succ fuel ih =>
    intro i A G hf hi hA h8
    show ∃ G' : Nat → Nat → Int32, f_X3_unweave_8_L3_b (f_X3_unweave_8_L3 (nI s) (nI L.length) fuel) (nI s) (nI L.length) F G (nI i) = _ ∧ _
    unfold f_X3_unweave_8_L3_b
    cases A with
    | nil =>
      rw [List.length_nil, Nat.add_zero] at hi
      rw [if_pos (by rw [hi]; exact nI_le (Nat.le_refl _) (by omega))]
      refine ⟨G, rfl, fun _ _ => rfl, fun j => ?_⟩
      show G 3 j = G 3 j - 0
      rw [Int32.sub_zero]
    | cons a A =>
      rw [List.length_cons] at hi hf
      have ha := hA a (List.mem_cons_self)
      have e8 : G 8 (s + i) = nI a := h8 0 (by rw [List.length_cons]; omega)
      rw [if_neg (nI_ge (by omega) (by omega)), nI_add, ql_ok (by omega) (by decide), e8, ql_ok ha (by decide), qs_ok ha (by decide), qn_e, nI_1]
      obtain ⟨G', e1, e2, e3⟩ := ih (i + 1) A (qG G 3 a (G 3 a - 1)) (by omega) (by omega) (fun x hx => hA x (List.mem_cons_of_mem _ hx)) (fun x hx => by
        rw [qG_n _ _ _ (by decide), show s + (i + 1) + x = s + i + (x + 1) by omega, h8 (x + 1) (by rw [List.length_cons]; omega)]
        rfl)
      refine ⟨G', e1, fun q h3 => ?_, fun j => ?_⟩
      · rw [e2 q h3, qG_n _ _ _ h3]
      · rw [e3, qG_s, cnt_cons]
        by_cases e : j = a
        · rw [if_pos e, e, upd_s, Int32.sub_eq_add_neg, Int32.sub_eq_add_neg, Int32.sub_eq_add_neg, Int32.neg_add, Int32.add_assoc, Int32.sub_eq_add_neg]
        · rw [if_neg e, upd_n _ _ e, Int32.zero_add]
theorem uw8_eq {s : Nat} {F : Nat → Int32} {L : List Nat} (hs : s + L.length ≤ 6) (hL : ∀ x, x ∈ L → x < 144) {G : Nat → Nat → Int32} (hl : L.length ≤ 6) (h8 : ∀ x, x < L.length → G 8 (s + x) = nI (L.getD x 0)) : ∃ G' : Nat → Nat → Int32, f_X3_unweave_8 F G (nI s) (nI L.length) = some (F, G') ∧ (∀ q, q ≠ 3 → G' q = G q) ∧ (∀ j, G' 3 j = G 3 j - nI (L.count j)) := by
  unfold f_X3_unweave_8
  rw [qn_e]
  exact uw8_loop hs hL 1000 0 L G (by omega) (by omega) hL h8
theorem wt7_loop {wv s : Nat} (hs : s + wv ≤ 864) {F : Nat → Int32} (h18 : F 18 = nI wv) (hwv : wv ≤ 6) {b : Nat → Bool} : ∀ (fuel k f : Nat) (G : Nat → Nat → Int32), k < fuel → k ≤ 144 → f ≤ wv → (∀ j, j < k → ∃ q, q < 6 ∧ G 1 j = nI q ∧ (b j = true ↔ ¬ G 31 q ≤ G 3 j)) → ∃ G' : Nat → Nat → Int32, f_X3_weaveThrough_7_L11 (nI s) fuel F G (nI f) (nI k + (-1)) = some (nI (f + (fnd b wv k f).length), F, G') ∧ (∀ q, q ≠ 3 → q ≠ 7 → G' q = G q) ∧ (∀ j, G' 3 j = G 3 j + nI ((fnd b wv k f).count j)) ∧ (∀ i, i < s + f → G' 7 i = G 7 i) ∧ (∀ i, i < (fnd b wv k f).length → G' 7 (s + f + i) = nI ((fnd b wv k f).getD i 0)) := by
  intro fuel
  induction fuel with
  | zero => intro k f G h; omega
  | succ fuel ih =>
    intro k f G hk hk1 hf hb
    show ∃ G' : Nat → Nat → Int32, f_X3_weaveThrough_7_L11_b (f_X3_weaveThrough_7_L11 (nI s) fuel) (nI s) F G (nI f) (nI k + (-1)) = _ ∧ _
    unfold f_X3_weaveThrough_7_L11_b f_X3_weaveThrough_7_B69
    cases k with
    | zero =>
      rw [if_pos (by decide)]
      refine ⟨G, rfl, fun _ _ _ => rfl, fun j => ?_, fun _ _ => rfl, fun i hi => ?_⟩
      · show G 3 j = G 3 j + 0
        rw [Int32.add_zero]
      · cases hi
    | succ k =>
      rw [pk_m1, if_neg (nI_pos (by omega)), h18]
      by_cases hfw : f < wv
      · obtain ⟨q, hq, c1, c2⟩ := hb k (by omega)
        rw [if_neg (nI_ge hfw (by omega)), ql_ok (by omega) (by decide), ql_ok (by omega) (by decide), c1, ql_ok hq (by decide)]
        by_cases hb1 : b k = true
        · rw [if_neg (c2.mp hb1), ql_ok (by omega) (by decide), qs_ok (by omega) (by decide), nI_add, qs_ok (by omega) (by decide), qn_e, qn_e, nI_1]
          obtain ⟨G', e1, e2, e3, e4, e5⟩ := ih k (f + 1) (qG (qG G 3 k (G 3 k + 1)) 7 (s + f) (nI k)) (by omega) (by omega) (by omega) (fun j hj => by
            obtain ⟨q, hq, c1, c2⟩ := hb j (by omega)
            refine ⟨q, hq, ?_, ?_⟩
            · rw [qG_n _ _ _ (by decide), qG_n _ _ _ (by decide)]
              exact c1
            · rw [qG_n _ _ _ (by decide), qG_n _ _ _ (by decide), qG_n _ _ _ (by decide), qG_s, upd_n _ _ (by omega)]
              exact c2)
          have hL : fnd b wv (k + 1) f = k :: fnd b wv k (f + 1) := by
            show (if f < wv ∧ b k = true then k :: fnd b wv k (f + 1) else fnd b wv k f) = _
            rw [if_pos ⟨hfw, hb1⟩]
          rw [hL]
          refine ⟨G', ?_, fun q h3 h7 => ?_, fun j => ?_, fun i hi => ?_, fun i hi => ?_⟩
          · rw [e1, List.length_cons, show f + 1 + (fnd b wv k (f + 1)).length = f + ((fnd b wv k (f + 1)).length + 1) by omega]
          · rw [e2 q h3 h7, qG_n _ _ _ h7, qG_n _ _ _ h3]
          · rw [e3, qG_n _ _ _ (by decide), qG_s, cnt_cons]
            by_cases e : j = k
            · rw [if_pos e, e, upd_s, Int32.add_assoc]
            · rw [if_neg e, upd_n _ _ e, Int32.zero_add]
          · rw [e4 i (by omega), qG_s, upd_n _ _ (by omega), qG_n _ _ _ (by decide)]
          · cases i with
            | zero =>
              rw [e4 _ (by omega), Nat.add_zero, qG_s, upd_s]
              rfl
            | succ i =>
              rw [List.length_cons] at hi
              rw [show s + f + (i + 1) = s + (f + 1) + i by omega, e5 i (by omega)]
              rfl
        · rw [if_pos (Decidable.not_not.mp (fun z => hb1 (c2.mpr z))), qn_e]
          have hL : fnd b wv (k + 1) f = fnd b wv k f := by
            show (if f < wv ∧ b k = true then k :: fnd b wv k (f + 1) else fnd b wv k f) = _
            rw [if_neg (fun z => hb1 z.2)]
          rw [hL]
          exact ih k f G (by omega) (by omega) hf (fun j hj => hb j (by omega))
      · rw [if_pos (nI_le (by omega) (by omega)), fnd_full (by omega)]
        refine ⟨G, rfl, fun _ _ _ => rfl, fun j => ?_, fun _ _ => rfl, fun i hi => ?_⟩
        · show G 3 j = G 3 j + 0
          rw [Int32.add_zero]
        · cases hi
theorem wt7_eq {n wv s : Nat} (hs : s + wv ≤ 864) {F : Nat → Int32} (hn : n ≤ 144) (h11 : F 11 = nI n) (h18 : F 18 = nI wv) (hwv : wv ≤ 6) {b : Nat → Bool} {G : Nat → Nat → Int32} (hb : ∀ j, j < n → ∃ q, q < 6 ∧ G 1 j = nI q ∧ (b j = true ↔ ¬ G 31 q ≤ G 3 j)) : ∃ G' : Nat → Nat → Int32, f_X3_weaveThrough_7 F G (nI s) = some (nI (fnd b wv n 0).length, F, G') ∧ (∀ q, q ≠ 3 → q ≠ 7 → G' q = G q) ∧ (∀ j, G' 3 j = G 3 j + nI ((fnd b wv n 0).count j)) ∧ (∀ i, i < s → G' 7 i = G 7 i) ∧ (∀ i, i < (fnd b wv n 0).length → G' 7 (s + i) = nI ((fnd b wv n 0).getD i 0)) := by
  unfold f_X3_weaveThrough_7
  rw [qn_e, qn_e, h11, Int32.sub_eq_add_neg]
  have := wt7_loop hs h18 hwv (b := b) 1000 n 0 G (by omega) hn (by omega) hb
  rw [Nat.zero_add] at this
  exact this
theorem uw7_loop {s : Nat} {F : Nat → Int32} {L : List Nat} (hs : s + L.length ≤ 864) (hL : ∀ x, x ∈ L → x < 144) : ∀ (fuel i : Nat) (A : List Nat) (G : Nat → Nat → Int32), A.length < fuel → i + A.length = L.length → (∀ x, x ∈ A → x < 144) → (∀ x, x < A.length → G 7 (s + i + x) = nI (A.getD x 0)) → ∃ G' : Nat → Nat → Int32, f_X3_unweave_7_L3 (nI s) (nI L.length) fuel F G (nI i) = some (F, G') ∧ (∀ q, q ≠ 3 → G' q = G q) ∧ (∀ j, G' 3 j = G 3 j - nI (A.count j)) := by
  intro fuel
  induction fuel with
  | zero => intro i A G h; omega
  | succ fuel ih =>
    intro i A G hf hi hA h7
    show ∃ G' : Nat → Nat → Int32, f_X3_unweave_7_L3_b (f_X3_unweave_7_L3 (nI s) (nI L.length) fuel) (nI s) (nI L.length) F G (nI i) = _ ∧ _
    unfold f_X3_unweave_7_L3_b
    cases A with
    | nil =>
      rw [List.length_nil, Nat.add_zero] at hi
      rw [if_pos (by rw [hi]; exact nI_le (Nat.le_refl _) (by omega))]
      refine ⟨G, rfl, fun _ _ => rfl, fun j => ?_⟩
      show G 3 j = G 3 j - 0
      rw [Int32.sub_zero]
    | cons a A =>
      rw [List.length_cons] at hi hf
      have ha := hA a (List.mem_cons_self)
      have e7 : G 7 (s + i) = nI a := h7 0 (by rw [List.length_cons]; omega)
      rw [if_neg (nI_ge (by omega) (by omega)), nI_add, ql_ok (by omega) (by decide), e7, ql_ok ha (by decide), qs_ok ha (by decide), qn_e, nI_1]
      obtain ⟨G', e1, e2, e3⟩ := ih (i + 1) A (qG G 3 a (G 3 a - 1)) (by omega) (by omega) (fun x hx => hA x (List.mem_cons_of_mem _ hx)) (fun x hx => by
        rw [qG_n _ _ _ (by decide), show s + (i + 1) + x = s + i + (x + 1) by omega, h7 (x + 1) (by rw [List.length_cons]; omega)]
        rfl)
      refine ⟨G', e1, fun q h3 => ?_, fun j => ?_⟩
      · rw [e2 q h3, qG_n _ _ _ h3]
      · rw [e3, qG_s, cnt_cons]
        by_cases e : j = a
        · rw [if_pos e, e, upd_s, Int32.sub_eq_add_neg, Int32.sub_eq_add_neg, Int32.sub_eq_add_neg, Int32.neg_add, Int32.add_assoc, Int32.sub_eq_add_neg]
        · rw [if_neg e, upd_n _ _ e, Int32.zero_add]
theorem uw7_eq {s : Nat} {F : Nat → Int32} {L : List Nat} (hs : s + L.length ≤ 864) (hL : ∀ x, x ∈ L → x < 144) {G : Nat → Nat → Int32} (hl : L.length ≤ 6) (h7 : ∀ x, x < L.length → G 7 (s + x) = nI (L.getD x 0)) : ∃ G' : Nat → Nat → Int32, f_X3_unweave_7 F G (nI s) (nI L.length) = some (F, G') ∧ (∀ q, q ≠ 3 → G' q = G q) ∧ (∀ j, G' 3 j = G 3 j - nI (L.count j)) := by
  unfold f_X3_unweave_7
  rw [qn_e]
  exact uw7_loop hs hL 1000 0 L G (by omega) (by omega) hL h7
