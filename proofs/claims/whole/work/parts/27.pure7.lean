theorem qn_e {β : Type} (x : Int32) (k : Int32 → Option β) : qn x k = k x := by
  have h : ∀ y, y = x → qn y k = k x := by
    intro y hy
    subst hy
    rfl
  exact h x rfl
theorem qf_e {β : Type} (F : Nat → Int32) (n : Nat) (v : Int32) (k : (Nat → Int32) → Option β) : qf F n v k = k (upd F n v) := by
  have h : ∀ y, y = v → qf F n y k = k (upd F n v) := by
    intro y hy
    subst hy
    rfl
  exact h v rfl
theorem qx_e {β : Type} (b : Nat → Bool) (F : Nat → Int32) (G : Nat → Nat → Int32) (Fa : Nat → Int32) (Ga : Nat → Nat → Int32) (k : (Nat → Int32) → (Nat → Nat → Int32) → Option β) : qx b F G Fa Ga k = k (mx b F Fa) (mx b G Ga) := by
  have h : ∀ y, y = F → qx b y G Fa Ga k = k (mx b F Fa) (mx b G Ga) := by
    intro y hy
    subst hy
    rfl
  exact h F rfl
theorem qc_e {α β : Type} {x : Option α} {a : α} (h : x = some a) (k : α → Option β) : qc x k = k a := by
  subst h
  rfl
theorem p_hang : lh_hang Rl := by
  intro F G M N h a1
  have hh := h
  obtain ⟨-, h10, n, p, wv, ⟨hn, hp, hwv⟩, ⟨h11, m32⟩, ⟨h14, m35⟩, h18, h0, hne, h17, hA, -⟩ := h
  unfold f_X4_hang f_X5_hang f_X1_markHanging
  generalize hfu : (1000 : Nat) = fu
  rcases has_n (G := G) (N := N) hn h11 m32 a1 with ⟨e1, e2⟩ | ⟨e1, e2, k, hk, rfl⟩
  · rw [e1, e2]
    exact ⟨-1, F, G, M, N, rfl, rfl, hh⟩
  · rw [e1, e2, qc_s, qc_s, if_neg e10, if_neg e10, qn_e, qn_e]
    obtain ⟨g, hg, eg⟩ := mo_eq (F := F) (G := G) (show k < 144 by omega)
    obtain ⟨g2, hg2, eg2⟩ := h0_loop (M := M) (nI k) fu 0 N (by decide) (by omega) (fun j hj => absurd hj (Nat.not_lt_zero j))
    rw [eg, qc_s]
    dsimp only
    rw [qn_e, show (0 : Int32) = nI 0 from rfl, eg2, nI_1, hfu]
    obtain ⟨r, g3, g4, r1, r2⟩ := hang_loop hn hk h11 m32 (lo := G 4) (up := G 5) (fi := N 41) (se := N 42) (fun j hj => (hA j hj).2.1) fu (k + 1) (fun _ => false) (pz g 40 G) (pz g2 47 N) (by omega) (by omega) (by omega) (pz_n _ _ (by decide)) (pz_n _ _ (by decide)) (pz_n _ _ (by decide)) (pz_n _ _ (by decide)) (fun j hj => by rw [pz_s, hg j hj]; rfl) (fun j hj => by rw [pz_s, hg2 j hj]; rfl) (fun _ _ => rfl)
    rw [cb_0.mpr (fun _ _ => rfl)] at r1
    rw [r1, r2, qc_s]
    dsimp only
    rw [qx_e]
    have e3 : pz g3 40 (pz g 40 G) = pz g3 40 G := by
      funext q
      unfold pz
      split <;> rfl
    have e4 : pz g4 47 (pz g2 47 N) = pz g4 47 N := by
      funext q
      unfold pz
      split <;> rfl
    rw [e3, e4, mx_id]
    exact ⟨r, _, _, _, _, rfl, rfl, Rl_47 hh g3⟩
