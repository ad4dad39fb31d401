/-! the reference's search -/
theorem fd29_loop {wv : Nat} {M : Nat → Int32} (m7 : M 7 = nI wv) (hwv : wv ≤ 6) {b : Nat → Bool} : ∀ (fuel k f : Nat) (N : Nat → Nat → Int32), k < fuel → k ≤ 144 → f ≤ wv → (∀ j, j < k → ∃ q, q < 6 ∧ N 14 j = nI q ∧ (b j = true ↔ N 11 j < N 3 q)) → ∃ N' : Nat → Nat → Int32, f_X5_finds_29_L10 0 fuel M N (nI f) (nI k + (-1)) = some (b2i (decide (f + (fnd b wv k f).length = wv)), M, N') ∧ (∀ q, q ≠ 29 → N' q = N q) ∧ (∀ i, i < f → N' 29 i = N 29 i) ∧ (∀ i, i < (fnd b wv k f).length → N' 29 (f + i) = nI ((fnd b wv k f).getD i 0)) := by
  have fin : ∀ (f : Nat) (N : Nat → Nat → Int32), f ≤ wv → f_X5_finds_29_B110 0 M N (nI f) = some (b2i (decide (f = wv)), M, N) := by
    intro f N hf
    unfold f_X5_finds_29_B110
    rw [m7]
    by_cases e : f = wv
    · rw [if_pos (by rw [e]), decide_eq_true e]
      rfl
    · rw [if_neg (fun z => e ((nI_eq (by omega) (by omega)).mp z)), decide_eq_false e]
      rfl
  intro fuel
  induction fuel with
  | zero => intro k f N h; omega
  | succ fuel ih =>
    intro k f N hk hk1 hf hb
    show ∃ N' : Nat → Nat → Int32, f_X5_finds_29_L10_b (f_X5_finds_29_L10 0 fuel) 0 M N (nI f) (nI k + (-1)) = _ ∧ _
    unfold f_X5_finds_29_L10_b
    cases k with
    | zero =>
      rw [if_pos (by decide), fin f N hf]
      exact ⟨N, rfl, fun _ _ => rfl, fun _ _ => rfl, fun i hi => by cases hi⟩
    | succ k =>
      rw [pk_m1, if_neg (nI_pos (by omega)), m7]
      by_cases hfw : f < wv
      · obtain ⟨q, hq, c1, c2⟩ := hb k (by omega)
        rw [if_neg (nI_ge hfw (by omega)), ql_ok (by omega) (by decide), qn_e]
        have e35 : ∀ x : Int32, f_X5_finds_29_L35 (f_X5_finds_29_L10 0 fuel) 0 1000 M N (nI f) (nI k) (N 11 k) x = f_X5_finds_29_B76 (f_X5_finds_29_L10 0 fuel) 0 M N (nI f) (nI k) (N 11 k) := by
          intro x
          show f_X5_finds_29_L35_b (f_X5_finds_29_L10 0 fuel) (f_X5_finds_29_L35 (f_X5_finds_29_L10 0 fuel) 0 999) 0 M N (nI f) (nI k) (N 11 k) x = _
          unfold f_X5_finds_29_L35_b
          rw [if_pos rfl]
        rw [e35]
        unfold f_X5_finds_29_B76 f_X5_finds_29_B104
        rw [ql_ok (by omega) (by decide), c1, ql_ok hq (by decide)]
        by_cases hb1 : b k = true
        · rw [if_pos (c2.mp hb1), qs_ok (by omega) (by decide), qn_e, qn_e, nI_1]
          obtain ⟨N', e1, e2, e4, e5⟩ := ih k (f + 1) (qG N 29 f (nI k)) (by omega) (by omega) (by omega) (fun j hj => by
            rw [qG_n _ _ _ (by decide), qG_n _ _ _ (by decide), qG_n _ _ _ (by decide)]
            exact hb j (by omega))
          have hL : fnd b wv (k + 1) f = k :: fnd b wv k (f + 1) := by
            show (if f < wv ∧ b k = true then k :: fnd b wv k (f + 1) else fnd b wv k f) = _
            rw [if_pos ⟨hfw, hb1⟩]
          rw [hL]
          refine ⟨N', ?_, fun q h3 => ?_, fun i hi => ?_, fun i hi => ?_⟩
          · rw [e1, List.length_cons, show f + 1 + (fnd b wv k (f + 1)).length = f + ((fnd b wv k (f + 1)).length + 1) by omega]
          · rw [e2 q h3, qG_n _ _ _ h3]
          · rw [e4 i (by omega), qG_s, upd_n _ _ (by omega)]
          · cases i with
            | zero =>
              rw [e4 _ (by omega), Nat.add_zero, qG_s, upd_s]
              rfl
            | succ i =>
              rw [List.length_cons] at hi
              rw [show f + (i + 1) = f + 1 + i by omega, e5 i (by omega)]
              rfl
        · rw [if_neg (fun z => hb1 (c2.mpr z)), qn_e]
          have hL : fnd b wv (k + 1) f = fnd b wv k f := by
            show (if f < wv ∧ b k = true then k :: fnd b wv k (f + 1) else fnd b wv k f) = _
            rw [if_neg (fun z => hb1 z.2)]
          rw [hL]
          exact ih k f N (by omega) (by omega) hf (fun j hj => hb j (by omega))
      · rw [if_pos (nI_le (by omega) (by omega)), fin f N hf, fnd_full (by omega)]
        exact ⟨N, rfl, fun _ _ => rfl, fun _ _ => rfl, fun i hi => by cases hi⟩
/-- how often a value stands among the first i -/
def cnI (g : Nat → Int32) (x : Int32) : Nat → Int32
  | 0 => 0
  | i + 1 => cnI g x i + (if g i = x then 1 else 0)
theorem cnI_list {g : Nat → Int32} {j : Nat} (hj : j < 144) : ∀ (A B : List Nat), (∀ x, x ∈ A → x < 144) → (∀ i, i < A.length → g (B.length + i) = nI (A.getD i 0)) → cnI g (nI j) B.length = nI (B.count j) → cnI g (nI j) (B.length + A.length) = nI ((B ++ A).count j) := by
  intro A
  induction A with
  | nil => intro B _ _ h; rw [List.append_nil]; exact h
  | cons a A ih =>
    intro B hA hg h
    have := ih (B ++ [a]) (fun x hx => hA x (List.mem_cons_of_mem _ hx)) (fun i hi => by
      rw [List.length_append, List.length_singleton, show B.length + 1 + i = B.length + (i + 1) by omega, hg (i + 1) (by rw [List.length_cons]; omega)]
      rfl) (by
      rw [List.length_append, List.length_singleton]
      show cnI g (nI j) B.length + (if g B.length = nI j then 1 else 0) = _
      have e : g B.length = nI a := hg 0 (by rw [List.length_cons]; omega)
      have ha := hA a List.mem_cons_self
      rw [h, e, List.count_append, List.count_singleton, ← nI_add]
      by_cases q : a = j
      · subst q
        rw [if_pos rfl, if_pos (by simp)]
        rfl
      · rw [if_neg (fun z => q ((nI_eq (by omega) (by omega)).mp z)), if_neg (by simp; exact q)]
        rfl)
    rw [List.length_append, List.length_singleton, List.append_assoc] at this
    rw [List.length_cons, show B.length + (A.length + 1) = B.length + 1 + A.length by omega, this]
    rfl
theorem fd30_in {wv : Nat} {M : Nat → Int32} (m7 : M 7 = nI wv) (hwv : wv ≤ 6) {N : Nat → Nat → Int32} (rec : (Nat → Int32) → (Nat → Nat → Int32) → Int32 → Int32 → Option (Int32 × qS)) (x3 x4 v : Int32) : ∀ (fuel i : Nat), i ≤ wv → wv < i + fuel → f_X5_finds_30_L35 rec 1 fuel M N x3 x4 (v + cnI (N 29) x4 i) (nI i) = f_X5_finds_30_B76 rec 1 M N x3 x4 (v + cnI (N 29) x4 wv) := by
  intro fuel
  induction fuel with
  | zero => intro i h1 h2; omega
  | succ fuel ih =>
    intro i h1 h2
    show f_X5_finds_30_L35_b rec (f_X5_finds_30_L35 rec 1 fuel) 1 M N x3 x4 (v + cnI (N 29) x4 i) (nI i) = _
    unfold f_X5_finds_30_L35_b f_X5_finds_30_B67
    rw [if_neg e10, m7]
    by_cases hi : i < wv
    · rw [if_neg (nI_ge hi (by omega)), ql_ok (by omega) (by decide), qn_e, qn_e, qn_e, qn_e, nI_1]
      have ih := ih (i + 1) (by omega) (by omega)
      rw [show cnI (N 29) x4 (i + 1) = cnI (N 29) x4 i + (if N 29 i = x4 then 1 else 0) from rfl, ← Int32.add_assoc] at ih
      by_cases e : N 29 i = x4
      · rw [if_pos e]
        rw [if_pos e] at ih
        exact ih
      · rw [if_neg e]
        rw [if_neg e] at ih
        exact ih
    · have e : i = wv := by omega
      subst e
      rw [if_pos (nI_le (by omega) (by omega))]
theorem fd30_loop {wv : Nat} {M : Nat → Int32} (m7 : M 7 = nI wv) (hwv : wv ≤ 6) {b : Nat → Bool} : ∀ (fuel k f : Nat) (N : Nat → Nat → Int32), k < fuel → k ≤ 144 → f ≤ wv → (∀ j, j < k → ∃ q, q < 6 ∧ N 14 j = nI q ∧ (b j = true ↔ N 11 j + cnI (N 29) (nI j) wv < N 3 q)) → ∃ N' : Nat → Nat → Int32, f_X5_finds_30_L10 1 fuel M N (nI f) (nI k + (-1)) = some (b2i (decide (f + (fnd b wv k f).length = wv)), M, N') ∧ (∀ q, q ≠ 30 → N' q = N q) ∧ (∀ i, i < f → N' 30 i = N 30 i) ∧ (∀ i, i < (fnd b wv k f).length → N' 30 (f + i) = nI ((fnd b wv k f).getD i 0)) := by
  have fin : ∀ (f : Nat) (N : Nat → Nat → Int32), f ≤ wv → f_X5_finds_30_B110 1 M N (nI f) = some (b2i (decide (f = wv)), M, N) := by
    intro f N hf
    unfold f_X5_finds_30_B110
    rw [m7]
    by_cases e : f = wv
    · rw [if_pos (by rw [e]), decide_eq_true e]
      rfl
    · rw [if_neg (fun z => e ((nI_eq (by omega) (by omega)).mp z)), decide_eq_false e]
      rfl
  intro fuel
  induction fuel with
  | zero => intro k f N h; omega
  | succ fuel ih =>
    intro k f N hk hk1 hf hb
    show ∃ N' : Nat → Nat → Int32, f_X5_finds_30_L10_b (f_X5_finds_30_L10 1 fuel) 1 M N (nI f) (nI k + (-1)) = _ ∧ _
    unfold f_X5_finds_30_L10_b
    cases k with
    | zero =>
      rw [if_pos (by decide), fin f N hf]
      exact ⟨N, rfl, fun _ _ => rfl, fun _ _ => rfl, fun i hi => by cases hi⟩
    | succ k =>
      rw [pk_m1, if_neg (nI_pos (by omega)), m7]
      by_cases hfw : f < wv
      · obtain ⟨q, hq, c1, c2⟩ := hb k (by omega)
        rw [if_neg (nI_ge hfw (by omega)), ql_ok (by omega) (by decide), qn_e]
        have e35 := fd30_in m7 hwv (N := N) (f_X5_finds_30_L10 1 fuel) (nI f) (nI k) (N 11 k) 1000 0 (by omega) (by omega)
        rw [show cnI (N 29) (nI k) 0 = 0 from rfl, Int32.add_zero] at e35
        rw [show (0 : Int32) = nI 0 from rfl, e35]
        unfold f_X5_finds_30_B76 f_X5_finds_30_B104
        rw [ql_ok (by omega) (by decide), c1, ql_ok hq (by decide)]
        by_cases hb1 : b k = true
        · rw [if_pos (c2.mp hb1), qs_ok (by omega) (by decide), qn_e, qn_e, nI_1]
          obtain ⟨N', e1, e2, e4, e5⟩ := ih k (f + 1) (qG N 30 f (nI k)) (by omega) (by omega) (by omega) (fun j hj => by
            rw [qG_n _ _ _ (by decide), qG_n _ _ _ (by decide), qG_n _ _ _ (by decide), qG_n _ _ _ (by decide)]
            exact hb j (by omega))
          have hL : fnd b wv (k + 1) f = k :: fnd b wv k (f + 1) := by
            show (if f < wv ∧ b k = true then k :: fnd b wv k (f + 1) else fnd b wv k f) = _
            rw [if_pos ⟨hfw, hb1⟩]
          rw [hL]
          refine ⟨N', ?_, fun q h3 => ?_, fun i hi => ?_, fun i hi => ?_⟩
          · rw [e1, List.length_cons, show f + 1 + (fnd b wv k (f + 1)).length = f + ((fnd b wv k (f + 1)).length + 1) by omega]
          · rw [e2 q h3, qG_n _ _ _ h3]
          · rw [e4 i (by omega), qG_s, upd_n _ _ (by omega)]
          · cases i with
            | zero =>
              rw [e4 _ (by omega), Nat.add_zero, qG_s, upd_s]
              rfl
            | succ i =>
              rw [List.length_cons] at hi
              rw [show f + (i + 1) = f + 1 + i by omega, e5 i (by omega)]
              rfl
        · rw [if_neg (fun z => hb1 (c2.mpr z)), qn_e]
          have hL : fnd b wv (k + 1) f = fnd b wv k f := by
            show (if f < wv ∧ b k = true then k :: fnd b wv k (f + 1) else fnd b wv k f) = _
            rw [if_neg (fun z => hb1 z.2)]
          rw [hL]
          exact ih k f N (by omega) (by omega) hf (fun j hj => hb j (by omega))
      · rw [if_pos (nI_le (by omega) (by omega)), fin f N hf, fnd_full (by omega)]
        exact ⟨N, rfl, fun _ _ => rfl, fun _ _ => rfl, fun i hi => by cases hi⟩
/-! the join is written down -/
theorem jo_loop {wv p : Nat} {M : Nat → Int32} (m7 : M 7 = nI wv) (hwv : wv ≤ 6) (m18 : M 18 = nI p) (hp : p < 144) : ∀ (fuel i : Nat) (A B : List Nat) (N : Nat → Nat → Int32), i + A.length = wv → B.length = A.length → A.length < fuel → (∀ x, x ∈ A → x < 144) → (∀ x, x ∈ B → x < 144) → (∀ x, x < A.length → N 29 (i + x) = nI (A.getD x 0)) → (∀ x, x < B.length → N 30 (i + x) = nI (B.getD x 0)) → ∃ N' : Nat → Nat → Int32, f_X5_joins_L28 fuel M N (nI i) = some (1, upd (upd M 18 (nI (p + 1))) 20 (M 6), N') ∧ (∀ q, q ≠ 11 → q ≠ 22 → q ≠ 21 → N' q = N q) ∧ N' 21 = upd (N 21) p (nI wv) ∧ (∀ j, N' 11 j = N 11 j + (nI (A.count j) + nI (B.count j))) ∧ (∀ x, x < p * 6 + i → N' 22 x = N 22 x) ∧ (∀ x, x < B.length → N' 22 (p * 6 + i + x) = nI (B.getD x 0)) := by
  intro fuel
  induction fuel with
  | zero => intro i A B N h1 h2 h3; omega
  | succ fuel ih =>
    intro i A B N h1 h2 h3 hA hB h29 h30
    show ∃ N' : Nat → Nat → Int32, f_X5_joins_L28_b (f_X5_joins_L28 fuel) M N (nI i) = _ ∧ _
    unfold f_X5_joins_L28_b
    rw [m7, m18]
    cases A with
    | nil =>
      cases B with
      | cons b B => cases h2
      | nil =>
        rw [List.length_nil, Nat.add_zero] at h1
        rw [if_pos (by rw [h1]; exact nI_le (Nat.le_refl _) (by omega)), qs_ok (by omega) (by decide), qf_e, qf_e, nI_1, upd_n _ _ (by decide)]
        refine ⟨_, rfl, fun q h11 h22 h21 => qG_n _ _ _ h21, qG_s _ _ _ _, fun j => ?_, fun x _ => ?_, fun x hx => by cases hx⟩
        · rw [qG_n _ _ _ (by decide)]
          show N 11 j = N 11 j + 0
          rw [Int32.add_zero]
        · rw [qG_n _ _ _ (by decide)]
    | cons a A =>
      cases B with
      | nil => cases h2
      | cons b B =>
        rw [List.length_cons] at h1 h3
        rw [List.length_cons, List.length_cons] at h2
        have ha := hA a List.mem_cons_self
        have hb := hB b List.mem_cons_self
        have ea : N 29 i = nI a := h29 0 (by rw [List.length_cons]; omega)
        have eb : N 30 i = nI b := h30 0 (by rw [List.length_cons]; omega)
        have eb1 : ∀ v, qG N 11 a v 30 i = nI b := fun v => by rw [qG_n _ _ _ (by decide), eb]
        have eb2 : ∀ v v2, qG (qG N 11 a v) 11 b v2 30 i = nI b := fun v v2 => by rw [qG_n _ _ _ (by decide), eb1]
        rw [if_neg (nI_ge (by omega) (by omega)), ql_ok (by omega) (by decide), ea, ql_ok ha (by decide), qs_ok ha (by decide), ql_ok (by omega) (by decide), eb1, ql_ok hb (by decide), qs_ok hb (by decide), ql_ok (by omega) (by decide), eb2, show (6 : Int32) = nI 6 from rfl, pk_mul, nI_add, qs_ok (by omega) (by decide), qn_e, nI_1]
        obtain ⟨N', e1, e2, e3, e4, e5, e6⟩ := ih (i + 1) A B (qG (qG (qG N 11 a (N 11 a + 1)) 11 b (qG N 11 a (N 11 a + 1) 11 b + 1)) 22 (6 * p + i) (nI b)) (by omega) (by omega) (by omega) (fun x hx => hA x (List.mem_cons_of_mem _ hx)) (fun x hx => hB x (List.mem_cons_of_mem _ hx)) (fun x hx => by
          rw [qG_n _ _ _ (by decide), qG_n _ _ _ (by decide), qG_n _ _ _ (by decide), show i + 1 + x = i + (x + 1) by omega, h29 (x + 1) (by rw [List.length_cons]; omega)]
          rfl) (fun x hx => by
          rw [qG_n _ _ _ (by decide), qG_n _ _ _ (by decide), qG_n _ _ _ (by decide), show i + 1 + x = i + (x + 1) by omega, h30 (x + 1) (by rw [List.length_cons]; omega)]
          rfl)
        refine ⟨N', e1, fun q h11 h22 h21 => ?_, ?_, fun j => ?_, fun x hx => ?_, fun x hx => ?_⟩
        · rw [e2 q h11 h22 h21, qG_n _ _ _ h22, qG_n _ _ _ h11, qG_n _ _ _ h11]
        · rw [e3, qG_n _ _ _ (by decide), qG_n _ _ _ (by decide), qG_n _ _ _ (by decide)]
        · rw [e4, qG_n _ _ _ (by decide), qG_s, qG_s, cnt_cons, cnt_cons]
          have hab : upd (upd (N 11) a (N 11 a + 1)) b (upd (N 11) a (N 11 a + 1) b + 1) j = N 11 j + ((if j = a then 1 else 0) + (if j = b then 1 else 0)) := by
            by_cases ja : j = a
            · subst ja
              rw [if_pos rfl]
              by_cases jb : j = b
              · subst jb
                rw [if_pos rfl, upd_s, upd_s, Int32.add_assoc]
              · rw [if_neg jb, upd_n _ _ jb, upd_s, Int32.add_zero]
            · rw [if_neg ja]
              by_cases jb : j = b
              · subst jb
                rw [if_pos rfl, upd_s, upd_n _ _ ja, Int32.zero_add]
              · rw [if_neg jb, upd_n _ _ jb, upd_n _ _ ja, Int32.zero_add, Int32.add_zero]
          rw [hab, Int32.add_assoc]
          congr 1
          rw [Int32.add_assoc, Int32.add_assoc]
          congr 1
          rw [← Int32.add_assoc, ← Int32.add_assoc]
          congr 1
          exact Int32.add_comm _ _
        · rw [e5 x (by omega), qG_s, upd_n _ _ (by omega), qG_n _ _ _ (by decide), qG_n _ _ _ (by decide)]
        · cases x with
          | zero =>
            rw [e5 _ (by omega), Nat.add_zero, qG_s, show p * 6 + i = 6 * p + i by omega, upd_s]
            rfl
          | succ x =>
            rw [List.length_cons] at hx
            rw [show p * 6 + i + (x + 1) = p * 6 + (i + 1) + x by omega, e6 x (by omega)]
            rfl
theorem smI_cong {f g : Nat → Int32} : ∀ {n : Nat}, (∀ j, j < n → f j = g j) → smI f n = smI g n
  | 0 => fun _ => rfl
  | n + 1 => fun h => by
    show smI f n + f n = smI g n + g n
    rw [h n (by omega), smI_cong (n := n) (fun j hj => h j (by omega))]
theorem smI_one (g : Nat → Int32) (a : Nat) : ∀ n, smI (fun j => g j + (if j = a then 1 else 0)) n = smI g n + (if a < n then 1 else 0)
  | 0 => by
    rw [if_neg (by omega)]
    rfl
  | n + 1 => by
    show smI (fun j => g j + (if j = a then 1 else 0)) n + (g n + (if n = a then 1 else 0)) = smI g n + g n + _
    rw [smI_one g a n]
    by_cases e : n = a
    · subst e
      rw [if_neg (by omega), if_pos rfl, if_pos (by omega), Int32.add_zero, Int32.add_assoc]
    · rw [if_neg e, Int32.add_zero]
      by_cases q : a < n
      · rw [if_pos q, if_pos (by omega), Int32.add_assoc, Int32.add_comm 1, Int32.add_assoc]
      · rw [if_neg q, if_neg (by omega), Int32.add_zero, Int32.add_zero]
theorem smI_list {n : Nat} : ∀ (L : List Nat) (g : Nat → Int32), (∀ x, x ∈ L → x < n) → smI (fun j => g j + nI (L.count j)) n = smI g n + nI L.length
  | [], g, _ => by
    rw [List.length_nil, show nI 0 = (0 : Int32) from rfl, Int32.add_zero]
    refine smI_cong (fun j _ => ?_)
    show g j + 0 = g j
    rw [Int32.add_zero]
  | a :: L, g, h => by
    have e : smI (fun j => g j + nI ((a :: L).count j)) n = smI (fun j => (g j + (if j = a then 1 else 0)) + nI (L.count j)) n := smI_cong (fun j _ => by
      show g j + nI ((a :: L).count j) = _
      rw [cnt_cons, Int32.add_assoc])
    rw [e, smI_list L _ (fun x hx => h x (List.mem_cons_of_mem _ hx)), smI_one, if_pos (h a List.mem_cons_self), List.length_cons, Nat.add_comm, ← nI_add, Int32.add_assoc]
    rfl
