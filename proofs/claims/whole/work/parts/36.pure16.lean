/-! the passes of a step, as a list -/
def SL (l : List Nat) (x : Int32) (g : Nat → Int32) : Prop := x = nI l.length ∧ ∀ i, i < l.length → g i = nI (l.getD i 0)
def ol (x : Int32) : List Nat := if x = -1 then [] else [x.toNatClampNeg]
theorem ol_n {j : Nat} (h : j < 1000) : ol (nI j) = [j] := by
  unfold ol
  rw [if_neg (nI_m1 (by omega)), nI_clamp (by omega)]
theorem ol_m : ol (-1) = [] := rfl
theorem ol_len (x : Int32) : (ol x).length ≤ 1 := by
  unfold ol
  split
  · decide
  · exact Nat.le_refl _
theorem getD_app {l : List Nat} {b i : Nat} (h : i < l.length) : (l ++ [b]).getD i 0 = l.getD i 0 := by
  rw [List.getD_eq_getElem?_getD, List.getD_eq_getElem?_getD, List.getElem?_append_left h]
theorem getD_last {l : List Nat} {b : Nat} : (l ++ [b]).getD l.length 0 = b := by
  rw [List.getD_eq_getElem?_getD, List.getElem?_append_right (Nat.le_refl _), Nat.sub_self]
  rfl
theorem SL_add {l : List Nat} {x : Int32} {g : Nat → Int32} (h : SL l x g) {b : Nat} : SL (l ++ [b]) (x + 1) (upd g l.length (nI b)) := by
  obtain ⟨h1, h2⟩ := h
  refine ⟨?_, fun i hi => ?_⟩
  · rw [h1, nI_1, List.length_append, List.length_singleton]
  · rw [List.length_append, List.length_singleton] at hi
    by_cases e : i = l.length
    · rw [e, upd_s, getD_last]
    · rw [upd_n _ _ e, getD_app (by omega), h2 i (by omega)]
theorem ps_o {l : List Nat} {x : Int32} {F : Nat → Int32} {G : Nat → Nat → Int32} (h : SL l (F 21) (G 20)) (hl : l.length < 4) (hx : x = -1 ∨ ∃ b, b < 144 ∧ x = nI b) : ∃ (F' : Nat → Int32) (G' : Nat → Nat → Int32), f_X2_pass F G x = some (F', G') ∧ SL (l ++ ol x) (F' 21) (G' 20) ∧ (∀ q, q ≠ 21 → F' q = F q) ∧ (∀ q, q ≠ 20 → G' q = G q) := by
  unfold f_X2_pass
  rcases hx with rfl | ⟨b, hb, rfl⟩
  · rw [if_pos rfl, ol_m, List.append_nil]
    exact ⟨F, G, rfl, h, fun _ _ => rfl, fun _ _ => rfl⟩
  · rw [if_neg (nI_m1 (by omega)), ol_n (by omega), h.1, if_neg (show ¬ (4 : Int32) ≤ nI l.length from nI_ge (b := 4) hl (by decide)), qs_ok hl (by decide), qf_e]
    refine ⟨_, _, rfl, ?_, fun q hq => upd_n _ _ hq, fun q hq => qG_n _ _ _ hq⟩
    have := SL_add h (b := b)
    rw [upd_s, qG_s]
    rw [h.1] at this
    exact this
theorem pb_o {l : List Nat} {x : Int32} {M : Nat → Int32} {N : Nat → Nat → Int32} (h : SL l (M 27) (N 28)) (hl : l.length < 8) (hx : ∃ b, b < 144 ∧ x = nI b) : ∃ (M' : Nat → Int32) (N' : Nat → Nat → Int32), f_X5_passesBy M N x = some (M', N') ∧ SL (l ++ ol x) (M' 27) (N' 28) ∧ (∀ q, q ≠ 27 → M' q = M q) ∧ (∀ q, q ≠ 28 → N' q = N q) := by
  unfold f_X5_passesBy
  obtain ⟨b, hb, rfl⟩ := hx
  rw [ol_n (by omega), h.1, qs_ok hl (by decide), qf_e]
  refine ⟨_, _, rfl, ?_, fun q hq => upd_n _ _ hq, fun q hq => qG_n _ _ _ hq⟩
  have := SL_add h (b := b)
  rw [upd_s, qG_s]
  rw [h.1] at this
  exact this
theorem n_m1 {n : Nat} (hn : n ≤ 144) : nI n - 1 = -1 ∨ ∃ b, b < 144 ∧ nI n - 1 = nI b := by
  cases n with
  | zero => exact Or.inl (by decide)
  | succ n => exact Or.inr ⟨n, by omega, nI_pred n⟩
/-- the list of a step in the first row -/
def fl (n : Nat) (e : Bool) : List Nat := (([] ++ ol (nI n)) ++ ol (nI n - 1)) ++ (if e = true then ol (nI 0) else [])
def ll (t : Int32) (n : Nat) (a b : Int32) : List Nat := ((([] ++ ol t) ++ ol (nI n)) ++ ol a) ++ ol b
theorem ol_le {x : Int32} {n : Nat} (hn : n < 1000) (h : x = -1 ∨ ∃ b, b ≤ n ∧ x = nI b) : ∀ y, y ∈ ol x → y ≤ n := by
  rcases h with rfl | ⟨b, hb, rfl⟩
  · intro y hy
    cases hy
  · rw [ol_n (by omega)]
    intro y hy
    rw [List.mem_singleton.mp hy]
    exact hb
theorem fl_ok {n : Nat} (hn : n < 144) (e : Bool) : (fl n e).length ≤ 4 ∧ (∀ x, x ∈ fl n e → x ≤ n) ∧ (n = 0 → e = false → fl n e = [0]) := by
  refine ⟨?_, fun x hx => ?_, ?_⟩
  · unfold fl
    have h1 := ol_len (nI n)
    have h2 := ol_len (nI n - 1)
    have h3 := ol_len (nI 0)
    rw [List.length_append, List.length_append, List.length_append, List.length_nil]
    split
    · omega
    · rw [List.length_nil]
      omega
  · unfold fl at hx
    rw [List.mem_append, List.mem_append, List.mem_append] at hx
    rcases hx with ((hx | hx) | hx) | hx
    · cases hx
    · exact ol_le (by omega) (Or.inr ⟨n, Nat.le_refl _, rfl⟩) x hx
    · refine ol_le (by omega) ?_ x hx
      cases n with
      | zero => exact Or.inl (by decide)
      | succ n => exact Or.inr ⟨n, by omega, nI_pred n⟩
    · split at hx
      · exact ol_le (by omega) (Or.inr ⟨0, by omega, rfl⟩) x hx
      · cases hx
  · rintro rfl rfl
    rfl
theorem ll_ok {t a b : Int32} {n : Nat} (hn : n < 144) (ht : t = -1 ∨ ∃ j, j ≤ n ∧ t = nI j) (ha : a = -1 ∨ ∃ j, j ≤ n ∧ a = nI j) (hb : b = -1 ∨ ∃ j, j ≤ n ∧ b = nI j) : (ll t n a b).length ≤ 4 ∧ (∀ x, x ∈ ll t n a b → x ≤ n) := by
  refine ⟨?_, fun x hx => ?_⟩
  · unfold ll
    have h1 := ol_len t
    have h2 := ol_len (nI n)
    have h3 := ol_len a
    have h4 := ol_len b
    rw [List.length_append, List.length_append, List.length_append, List.length_append, List.length_nil]
    omega
  · unfold ll at hx
    rw [List.mem_append, List.mem_append, List.mem_append, List.mem_append] at hx
    rcases hx with (((hx | hx) | hx) | hx) | hx
    · cases hx
    · exact ol_le (by omega) ht x hx
    · exact ol_le (by omega) (Or.inr ⟨n, Nat.le_refl _, rfl⟩) x hx
    · exact ol_le (by omega) ha x hx
    · exact ol_le (by omega) hb x hx
theorem ll_ct {t lo up fi se : Int32} {n : Nat} (h : CT n lo up fi se) : ll t n lo up = ll t n fi se := by
  obtain ⟨-, -, e1, e2⟩ := h
  unfold ll
  rw [e1, e2]
  by_cases e : lo = -1
  · rw [if_pos e, if_pos e, e, ol_m, List.append_nil, List.append_nil]
  · rw [if_neg e, if_neg e]
theorem SL_0 (g : Nat → Int32) : SL [] 0 g := ⟨rfl, fun i hi => by cases hi⟩
theorem gf_eq {n : Nat} {F : Nat → Int32} {G : Nat → Nat → Int32} (hn : n < 144) (f11 : F 11 = nI n) {x1 x2 : Int32} {e : Bool} (he : e = true ↔ (¬ x1 = 0 ∧ nI n = x2 ∧ ¬ x2 < 2)) : ∃ (F' : Nat → Int32) (G' : Nat → Nat → Int32), f_X3_gatherInFirstRow F G x1 x2 = some (F', G') ∧ SL (fl n e) (F' 21) (G' 20) ∧ (∀ q, q ≠ 21 → F' q = F q) ∧ (∀ q, q ≠ 20 → G' q = G q) := by
  unfold f_X3_gatherInFirstRow f_X2_empty
  rw [qn_e, qf_e, qc_s]
  dsimp only
  rw [f11]
  have h0 : SL [] ((upd F 21 0) 21) (G 20) := by
    rw [upd_s]
    exact SL_0 _
  obtain ⟨F1, G1, a1, a2, a3, a4⟩ := ps_o (x := nI n) h0 (by decide) (Or.inr ⟨n, hn, rfl⟩)
  obtain ⟨F2, G2, b1, b2, b3, b4⟩ := ps_o (x := nI n - 1) a2 (by have := ol_len (nI n); rw [List.length_append, List.length_nil]; omega) (n_m1 (by omega))
  rw [a1, qc_s]
  dsimp only
  rw [b1, qc_s]
  dsimp only
  have k1 : ∀ q, q ≠ 21 → F2 q = F q := fun q hq => by rw [b3 q hq, a3 q hq, upd_n _ _ hq]
  have k2 : ∀ q, q ≠ 20 → G2 q = G q := fun q hq => by rw [b4 q hq, a4 q hq]
  have noe : e = false → SL (fl n e) (F2 21) (G2 20) := by
    rintro rfl
    unfold fl
    rw [if_neg (by decide), List.append_nil]
    exact b2
  by_cases c1 : x1 = 0
  · rw [if_pos c1]
    exact ⟨F2, G2, rfl, noe (by cases e with | false => rfl | true => exact absurd c1 (he.mp rfl).1), k1, k2⟩
  · rw [if_neg c1]
    by_cases c2 : nI n = x2
    · rw [if_pos c2]
      by_cases c3 : x2 < 2
      · rw [if_pos c3]
        exact ⟨F2, G2, rfl, noe (by cases e with | false => rfl | true => exact absurd c3 (he.mp rfl).2.2), k1, k2⟩
      · rw [if_neg c3]
        have ee : e = true := he.mpr ⟨c1, c2, c3⟩
        obtain ⟨F3, G3, d1, d2, d3, d4⟩ := ps_o (x := nI 0) b2 (by have := ol_len (nI n); have := ol_len (nI n - 1); rw [List.length_append, List.length_append, List.length_nil]; omega) (Or.inr ⟨0, by decide, rfl⟩)
        rw [show (0 : Int32) = nI 0 from rfl, d1, qc_s]
        refine ⟨F3, G3, rfl, ?_, fun q hq => by rw [d3 q hq, k1 q hq], fun q hq => by rw [d4 q hq, k2 q hq]⟩
        unfold fl
        rw [if_pos ee]
        exact d2
    · rw [if_neg c2]
      exact ⟨F2, G2, rfl, noe (by cases e with | false => rfl | true => exact absurd (he.mp rfl).2.1 c2), k1, k2⟩
theorem gl_eq {n : Nat} {F : Nat → Int32} {G : Nat → Nat → Int32} (hn : n < 144) (f11 : F 11 = nI n) {t : Int32} (ht : t = -1 ∨ ∃ j, j < 144 ∧ t = nI j) (h4 : G 4 n = -1 ∨ ∃ j, j < 144 ∧ G 4 n = nI j) (h5 : G 5 n = -1 ∨ ∃ j, j < 144 ∧ G 5 n = nI j) : ∃ (F' : Nat → Int32) (G' : Nat → Nat → Int32), f_X3_gatherInLaterRow F G t = some (F', G') ∧ SL (ll t n (G 4 n) (G 5 n)) (F' 21) (G' 20) ∧ (∀ q, q ≠ 21 → F' q = F q) ∧ (∀ q, q ≠ 20 → G' q = G q) := by
  unfold f_X3_gatherInLaterRow f_X2_empty
  rw [qn_e, qf_e, qc_s]
  dsimp only
  rw [f11]
  have h0 : SL [] ((upd F 21 0) 21) (G 20) := by
    rw [upd_s]
    exact SL_0 _
  have o1 := ol_len t
  have o2 := ol_len (nI n)
  have o3 := ol_len (G 4 n)
  obtain ⟨F1, G1, a1, a2, a3, a4⟩ := ps_o (x := t) h0 (by decide) ht
  obtain ⟨F2, G2, b1, b2, b3, b4⟩ := ps_o (x := nI n) a2 (by rw [List.length_append, List.length_nil]; omega) (Or.inr ⟨n, hn, rfl⟩)
  have k2 : ∀ q, q ≠ 20 → G2 q = G q := fun q hq => by rw [b4 q hq, a4 q hq]
  obtain ⟨F3, G3, c1, c2, c3, c4⟩ := ps_o (x := G 4 n) b2 (by rw [List.length_append, List.length_append, List.length_nil]; omega) h4
  have k3 : ∀ q, q ≠ 20 → G3 q = G q := fun q hq => by rw [c4 q hq, k2 q hq]
  obtain ⟨F4, G4, d1, d2, d3, d4⟩ := ps_o (x := G 5 n) c2 (by rw [List.length_append, List.length_append, List.length_append, List.length_nil]; omega) h5
  rw [a1, qc_s]
  dsimp only
  rw [b1, qc_s]
  dsimp only
  rw [ql_ok hn (by decide), k2 4 (by decide), c1, qc_s]
  dsimp only
  rw [ql_ok hn (by decide), k3 5 (by decide), d1, qc_s]
  exact ⟨F4, G4, rfl, d2, fun q hq => by rw [d3 q hq, c3 q hq, b3 q hq, a3 q hq, upd_n _ _ hq], fun q hq => by rw [d4 q hq, k3 q hq]⟩
/-! the reference gathers -/
theorem rf_eq {n : Nat} {M : Nat → Int32} {N : Nat → Nat → Int32} (hn : n < 144) (m8 : M 8 = nI n) (m26 : M 26 = 1) (r c : Nat) (rb x4 : Int32) {e : Bool} (he : e = true ↔ (¬ M 2 ≤ 0 ∧ ¬ x4 = 0 ∧ ¬ nI n < 2)) : ∃ (M' : Nat → Int32) (N' : Nat → Nat → Int32), f_X5_picks M N (nI r) (nI c) rb x4 = f_X5_picks_B214 (nI r) (nI c) rb x4 M' N' (nI (r * 12 + c)) ∧ SL (fl n e) (M' 27) (N' 28) ∧ (∀ q, q ≠ 27 → M' q = M q) ∧ (∀ q, q ≠ 12 → q ≠ 13 → q ≠ 28 → N' q = N q) ∧ N' 12 = upd (N 12) n (-1) ∧ N' 13 = upd (N 13) n (-1) := by
  unfold f_X5_picks
  rw [qn_e, ix12m, qf_e]
  have u8 : upd M 27 0 8 = nI n := by rw [upd_n _ _ (by decide), m8]
  have u26 : upd M 27 0 26 = 1 := by rw [upd_n _ _ (by decide), m26]
  rw [u8, u26, qs_ok hn (by decide), qs_ok hn (by decide), if_neg e10]
  unfold f_X5_picks_B98
  rw [u8]
  have h0 : SL [] ((upd M 27 0) 27) ((qG (qG N 12 n (-1)) 13 n (-1)) 28) := by
    rw [upd_s]
    exact SL_0 _
  have o2 := ol_len (nI n)
  have o3 := ol_len (nI n - 1)
  obtain ⟨M1, N1, a1, a2, a3, a4⟩ := pb_o (x := nI n) h0 (by decide) ⟨n, hn, rfl⟩
  rw [a1, qc_s]
  dsimp only
  have v26 : M1 26 = 1 := by rw [a3 26 (by decide), u26]
  have v8 : M1 8 = nI n := by rw [a3 8 (by decide), u8]
  rw [v26, v8, if_neg e10]
  have key : ∀ (M2 : Nat → Int32) (N2 : Nat → Nat → Int32), SL (([] ++ ol (nI n)) ++ ol (nI n - 1)) (M2 27) (N2 28) → (∀ q, q ≠ 27 → M2 q = M1 q) → (∀ q, q ≠ 28 → N2 q = N1 q) → ∃ (M' : Nat → Int32) (N' : Nat → Nat → Int32), f_X5_picks_B130 (nI r) (nI c) rb x4 M2 N2 (nI (r * 12 + c)) = f_X5_picks_B214 (nI r) (nI c) rb x4 M' N' (nI (r * 12 + c)) ∧ SL (fl n e) (M' 27) (N' 28) ∧ (∀ q, q ≠ 27 → M' q = M q) ∧ (∀ q, q ≠ 12 → q ≠ 13 → q ≠ 28 → N' q = N q) ∧ N' 12 = upd (N 12) n (-1) ∧ N' 13 = upd (N 13) n (-1) := by
    intro M2 N2 s2 k1 k2
    unfold f_X5_picks_B130 f_X5_picks_B150 f_X5_picks_B182
    rw [k1 26 (by decide), v26, if_neg e10, if_neg e10, if_neg e10, k1 2 (by decide), k1 8 (by decide), v8, a3 2 (by decide), upd_n _ _ (by decide)]
    have f1 : ∀ q, q ≠ 27 → M2 q = M q := fun q hq => by rw [k1 q hq, a3 q hq, upd_n _ _ hq]
    have f2 : ∀ q, q ≠ 12 → q ≠ 13 → q ≠ 28 → N2 q = N q := fun q h12 h13 h28 => by rw [k2 q h28, a4 q h28, qG_n _ _ _ h13, qG_n _ _ _ h12]
    have f3 : N2 12 = upd (N 12) n (-1) := by rw [k2 12 (by decide), a4 12 (by decide), qG_n _ _ _ (by decide), qG_s]
    have f4 : N2 13 = upd (N 13) n (-1) := by rw [k2 13 (by decide), a4 13 (by decide), qG_s, qG_n _ _ _ (by decide)]
    have noe : e = false → SL (fl n e) (M2 27) (N2 28) := by
      rintro rfl
      unfold fl
      rw [if_neg (by decide), List.append_nil]
      exact s2
    by_cases c1 : M 2 ≤ 0
    · rw [if_pos c1]
      exact ⟨M2, N2, rfl, noe (by cases e with | false => rfl | true => exact absurd c1 (he.mp rfl).1), f1, f2, f3, f4⟩
    · rw [if_neg c1]
      by_cases c2 : x4 = 0
      · rw [if_pos c2]
        exact ⟨M2, N2, rfl, noe (by cases e with | false => rfl | true => exact absurd c2 (he.mp rfl).2.1), f1, f2, f3, f4⟩
      · rw [if_neg c2]
        by_cases c3 : nI n < 2
        · rw [if_pos c3]
          exact ⟨M2, N2, rfl, noe (by cases e with | false => rfl | true => exact absurd c3 (he.mp rfl).2.2), f1, f2, f3, f4⟩
        · rw [if_neg c3]
          have ee : e = true := he.mpr ⟨c1, c2, c3⟩
          obtain ⟨M3, N3, d1, d2, d3, d4⟩ := pb_o (x := nI 0) s2 (by rw [List.length_append, List.length_append, List.length_nil]; omega) ⟨0, by decide, rfl⟩
          rw [show (0 : Int32) = nI 0 from rfl, d1, qc_s]
          refine ⟨M3, N3, rfl, ?_, fun q hq => by rw [d3 q hq, f1 q hq], fun q h12 h13 h28 => by rw [d4 q h28, f2 q h12 h13 h28], by rw [d4 12 (by decide), f3], by rw [d4 13 (by decide), f4]⟩
          unfold fl
          rw [if_pos ee]
          exact d2
  cases n with
  | zero =>
    rw [if_pos (by decide)]
    refine key M1 N1 ?_ (fun _ _ => rfl) (fun _ _ => rfl)
    rw [show nI 0 - 1 = -1 by decide, ol_m, List.append_nil]
    exact a2
  | succ n =>
    rw [if_neg (nI_nle (by omega) (by omega))]
    obtain ⟨M2, N2, b1, b2, b3, b4⟩ := pb_o (x := nI (n + 1) - 1) a2 (by rw [List.length_append, List.length_nil]; omega) ⟨n, by omega, nI_pred n⟩
    rw [b1, qc_s]
    exact key M2 N2 b2 b3 b4
theorem rl_eq {n : Nat} {M : Nat → Int32} {N : Nat → Nat → Int32} (hn : n < 144) (m8 : M 8 = nI n) (m26 : M 26 = 0) (r c : Nat) (rb x4 : Int32) {fi se t : Int32} (hcat : f_X5_catches (upd M 27 0) (qG (qG N 12 n (-1)) 13 n (-1)) (nI r) (nI c) rb = some (upd M 27 0, qG (qG (qG (qG N 12 n (-1)) 13 n (-1)) 12 n fi) 13 n se)) (hfi : ∃ j, j < 144 ∧ fi = nI j) (hse : se = -1 ∨ ∃ j, j < 144 ∧ se = nI j) (ht : (M 25 = 0 ∧ t = (if M 2 = 0 then nI n - 1 else M 24) ∧ ∃ j, j < 144 ∧ t = nI j) ∨ (¬ M 25 = 0 ∧ t = -1)) : ∃ (M' : Nat → Int32) (N' : Nat → Nat → Int32), f_X5_picks M N (nI r) (nI c) rb x4 = f_X5_picks_B214 (nI r) (nI c) rb x4 M' N' (nI (r * 12 + c)) ∧ SL (ll t n fi se) (M' 27) (N' 28) ∧ (∀ q, q ≠ 27 → M' q = M q) ∧ (∀ q, q ≠ 12 → q ≠ 13 → q ≠ 28 → N' q = N q) ∧ N' 12 = upd (upd (N 12) n (-1)) n fi ∧ N' 13 = upd (upd (N 13) n (-1)) n se := by
  unfold f_X5_picks
  rw [qn_e, ix12m, qf_e]
  have uq : ∀ q, q ≠ 27 → upd M 27 0 q = M q := fun q hq => upd_n _ _ hq
  rw [uq 8 (by decide), uq 26 (by decide), m8, m26, qs_ok hn (by decide), qs_ok hn (by decide), if_pos rfl, hcat, qc_s]
  dsimp only
  rw [uq 8 (by decide), uq 25 (by decide), uq 2 (by decide), uq 24 (by decide), m8, ql_ok hn (by decide), qG_n _ _ _ (by decide), qG_s, upd_s]
  obtain ⟨j, hj, ej⟩ := hfi
  rw [if_pos (show 0 ≤ fi by rw [ej]; exact nI_pos' (by omega))]
  obtain ⟨N1, hN1⟩ : ∃ N1, N1 = qG (qG (qG (qG N 12 n (-1)) 13 n (-1)) 12 n fi) 13 n se := ⟨_, rfl⟩
  rw [← hN1]
  have n12 : N1 12 = upd (upd (N 12) n (-1)) n fi := by rw [hN1, qG_n _ _ _ (by decide), qG_s, qG_n _ _ _ (by decide), qG_s]
  have n13 : N1 13 = upd (upd (N 13) n (-1)) n se := by rw [hN1, qG_s, qG_n _ _ _ (by decide), qG_s, qG_n _ _ _ (by decide)]
  have nq : ∀ q, q ≠ 12 → q ≠ 13 → N1 q = N q := fun q h1 h2 => by rw [hN1, qG_n _ _ _ h2, qG_n _ _ _ h1, qG_n _ _ _ h2, qG_n _ _ _ h1]
  have o1 := ol_len t
  have o2 := ol_len (nI n)
  have o3 := ol_len fi
  have h0 : SL [] ((upd M 27 0) 27) (N1 28) := by
    rw [upd_s]
    exact SL_0 _
  have key : ∀ (M2 : Nat → Int32) (N2 : Nat → Nat → Int32), SL ([] ++ ol t) (M2 27) (N2 28) → (∀ q, q ≠ 27 → M2 q = M q) → (∀ q, q ≠ 28 → N2 q = N1 q) → ∃ (M' : Nat → Int32) (N' : Nat → Nat → Int32), f_X5_picks_B98 (nI r) (nI c) rb x4 M2 N2 (nI (r * 12 + c)) = f_X5_picks_B214 (nI r) (nI c) rb x4 M' N' (nI (r * 12 + c)) ∧ SL (ll t n fi se) (M' 27) (N' 28) ∧ (∀ q, q ≠ 27 → M' q = M q) ∧ (∀ q, q ≠ 12 → q ≠ 13 → q ≠ 28 → N' q = N q) ∧ N' 12 = upd (upd (N 12) n (-1)) n fi ∧ N' 13 = upd (upd (N 13) n (-1)) n se := by
    intro M2 N2 s2 k1 k2
    unfold f_X5_picks_B98
    obtain ⟨M3, N3, a1, a2, a3, a4⟩ := pb_o (x := nI n) s2 (by rw [List.length_append, List.length_nil]; omega) ⟨n, hn, rfl⟩
    have j1 : ∀ q, q ≠ 27 → M3 q = M q := fun q hq => by rw [a3 q hq, k1 q hq]
    have j2 : ∀ q, q ≠ 28 → N3 q = N1 q := fun q hq => by rw [a4 q hq, k2 q hq]
    rw [k1 8 (by decide), m8, a1, qc_s]
    dsimp only
    rw [j1 26 (by decide), m26, if_pos rfl]
    unfold f_X5_picks_B130
    rw [j1 26 (by decide), j1 8 (by decide), m26, m8, if_pos rfl, ql_ok hn (by decide), j2 12 (by decide), n12, upd_s]
    obtain ⟨M4, N4, b1, b2, b3, b4⟩ := pb_o (x := fi) a2 (by rw [List.length_append, List.length_append, List.length_nil]; omega) ⟨j, hj, ej⟩
    have i1 : ∀ q, q ≠ 27 → M4 q = M q := fun q hq => by rw [b3 q hq, j1 q hq]
    have i2 : ∀ q, q ≠ 28 → N4 q = N1 q := fun q hq => by rw [b4 q hq, j2 q hq]
    rw [b1, qc_s]
    dsimp only
    unfold f_X5_picks_B150
    rw [i1 26 (by decide), i1 8 (by decide), m26, m8, if_pos rfl, ql_ok hn (by decide), i2 13 (by decide), n13, upd_s]
    have fin : ∀ (M5 : Nat → Int32) (N5 : Nat → Nat → Int32), SL (ll t n fi se) (M5 27) (N5 28) → (∀ q, q ≠ 27 → M5 q = M q) → (∀ q, q ≠ 28 → N5 q = N1 q) → ∃ (M' : Nat → Int32) (N' : Nat → Nat → Int32), f_X5_picks_B182 (nI r) (nI c) rb x4 M5 N5 (nI (r * 12 + c)) = f_X5_picks_B214 (nI r) (nI c) rb x4 M' N' (nI (r * 12 + c)) ∧ SL (ll t n fi se) (M' 27) (N' 28) ∧ (∀ q, q ≠ 27 → M' q = M q) ∧ (∀ q, q ≠ 12 → q ≠ 13 → q ≠ 28 → N' q = N q) ∧ N' 12 = upd (upd (N 12) n (-1)) n fi ∧ N' 13 = upd (upd (N 13) n (-1)) n se := by
      intro M5 N5 s5 l1 l2
      unfold f_X5_picks_B182
      rw [l1 26 (by decide), m26, if_pos rfl]
      exact ⟨M5, N5, rfl, s5, l1, fun q h1 h2 h3 => by rw [l2 q h3, nq q h1 h2], by rw [l2 12 (by decide), n12], by rw [l2 13 (by decide), n13]⟩
    rcases hse with es | ⟨js, hjs, es⟩
    · rw [if_pos (show se < 0 by rw [es]; decide)]
      refine fin M4 N4 ?_ i1 i2
      unfold ll
      rw [es, ol_m, List.append_nil]
      exact b2
    · rw [if_neg (show ¬ se < 0 by rw [es]; exact nI_pos (by omega)), ql_ok hn (by decide), upd_s]
      obtain ⟨M5, N5, c1, c2, c3, c4⟩ := pb_o (x := se) b2 (by rw [List.length_append, List.length_append, List.length_append, List.length_nil]; omega) ⟨js, hjs, es⟩
      rw [c1, qc_s]
      exact fin M5 N5 c2 (fun q hq => by rw [c3 q hq, i1 q hq]) (fun q hq => by rw [c4 q hq, i2 q hq])
  rcases ht with ⟨h25, et, jt, hjt, et2⟩ | ⟨h25, et⟩
  · rw [if_pos h25]
    have e95 : (if M 2 = 0 then f_X5_picks_B95 (nI r) (nI c) rb x4 (upd M 27 0) N1 (nI (r * 12 + c)) (nI n - 1) else f_X5_picks_B95 (nI r) (nI c) rb x4 (upd M 27 0) N1 (nI (r * 12 + c)) (M 24)) = f_X5_picks_B95 (nI r) (nI c) rb x4 (upd M 27 0) N1 (nI (r * 12 + c)) t := by
      rw [et]
      by_cases q : M 2 = 0
      · rw [if_pos q, if_pos q]
      · rw [if_neg q, if_neg q]
    rw [e95]
    unfold f_X5_picks_B95
    obtain ⟨M2, N2, a1, a2, a3, a4⟩ := pb_o (x := t) h0 (by decide) ⟨jt, hjt, et2⟩
    rw [a1, qc_s]
    exact key M2 N2 a2 (fun q hq => by rw [a3 q hq, uq q hq]) a4
  · rw [if_neg h25]
    refine key _ _ ?_ uq (fun _ _ => rfl)
    rw [et, ol_m, List.append_nil]
    exact h0
theorem rl_no {n : Nat} {M : Nat → Int32} {N : Nat → Nat → Int32} (hn : n < 144) (m8 : M 8 = nI n) (m26 : M 26 = 0) (r c : Nat) (rb x4 : Int32) {se : Int32} (hcat : f_X5_catches (upd M 27 0) (qG (qG N 12 n (-1)) 13 n (-1)) (nI r) (nI c) rb = some (upd M 27 0, qG (qG (qG (qG N 12 n (-1)) 13 n (-1)) 12 n (-1)) 13 n se)) : f_X5_picks M N (nI r) (nI c) rb x4 = some (0, upd (upd (upd M 27 0) 16 1) 17 (nI (r * 12 + c)), qG (qG (qG (qG N 12 n (-1)) 13 n (-1)) 12 n (-1)) 13 n se) := by
  unfold f_X5_picks
  rw [qn_e, ix12m, qf_e]
  have uq : ∀ q, q ≠ 27 → upd M 27 0 q = M q := fun q hq => upd_n _ _ hq
  rw [uq 8 (by decide), uq 26 (by decide), m8, m26, qs_ok hn (by decide), qs_ok hn (by decide), if_pos rfl, hcat, qc_s]
  dsimp only
  rw [uq 8 (by decide), m8, ql_ok hn (by decide), qG_n _ _ _ (by decide), qG_s, upd_s, if_neg (by decide)]
  unfold f_X5_fails
  rw [qf_e, qf_e, qc_s]
  rfl
