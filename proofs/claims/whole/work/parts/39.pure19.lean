/-! one bead, from its square on -/
theorem lay_o {G : Nat → Nat → Int32} {n cell : Nat} {lo up : Int32} {q : Nat} (h : q ≠ 0 ∧ q ≠ 1 ∧ q ≠ 3 ∧ q ≠ 4 ∧ q ≠ 5) : lay G n cell lo up q = G q := by
  unfold lay
  rw [qG_n _ _ _ h.2.2.2.2, qG_n _ _ _ h.2.2.2.1, qG_n _ _ _ h.2.2.1, qG_n _ _ _ h.2.1, qG_n _ _ _ h.1]
theorem lay_0 {G : Nat → Nat → Int32} {n cell : Nat} {lo up : Int32} : lay G n cell lo up 0 = upd (G 0) n (nI cell) := by
  unfold lay
  rw [qG_n _ _ _ (by decide), qG_n _ _ _ (by decide), qG_n _ _ _ (by decide), qG_n _ _ _ (by decide), qG_s]
theorem lay_1 {G : Nat → Nat → Int32} {n cell : Nat} {lo up : Int32} : lay G n cell lo up 1 = upd (G 1) n (G 30 cell) := by
  unfold lay
  rw [qG_n _ _ _ (by decide), qG_n _ _ _ (by decide), qG_n _ _ _ (by decide), qG_s, qG_n _ _ _ (by decide)]
theorem lay_3 {G : Nat → Nat → Int32} {n cell : Nat} {lo up : Int32} : lay G n cell lo up 3 = upd (G 3) n 0 := by
  unfold lay
  rw [qG_n _ _ _ (by decide), qG_n _ _ _ (by decide), qG_s, qG_n _ _ _ (by decide), qG_n _ _ _ (by decide)]
theorem lay_4 {G : Nat → Nat → Int32} {n cell : Nat} {lo up : Int32} : lay G n cell lo up 4 = upd (G 4) n lo := by
  unfold lay
  rw [qG_n _ _ _ (by decide), qG_s, qG_n _ _ _ (by decide), qG_n _ _ _ (by decide), qG_n _ _ _ (by decide)]
theorem lay_5 {G : Nat → Nat → Int32} {n cell : Nat} {lo up : Int32} : lay G n cell lo up 5 = upd (G 5) n up := by
  unfold lay
  rw [qG_s, qG_n _ _ _ (by decide), qG_n _ _ _ (by decide), qG_n _ _ _ (by decide), qG_n _ _ _ (by decide)]
theorem lay_lt {G : Nat → Nat → Int32} {n cell : Nat} {lo up : Int32} {q k : Nat} (h : k < n) : lay G n cell lo up q k = G q k := by
  by_cases h0 : q = 0
  · rw [h0, lay_0, upd_n _ _ (by omega)]
  · by_cases h1 : q = 1
    · rw [h1, lay_1, upd_n _ _ (by omega)]
    · by_cases h3 : q = 3
      · rw [h3, lay_3, upd_n _ _ (by omega)]
      · by_cases h4 : q = 4
        · rw [h4, lay_4, upd_n _ _ (by omega)]
        · by_cases h5 : q = 5
          · rw [h5, lay_5, upd_n _ _ (by omega)]
          · rw [lay_o ⟨h0, h1, h3, h4, h5⟩]
theorem pre_eq {n p wv cell : Nat} {F G M N F2 G2 M2 N2} {lo up fi se : Int32} (rc : RC F G M N) (ws : WS n p wv F G M N) (hF : ∀ q, q ≠ 21 → F2 q = F q) (hG : ∀ q, q ≠ 20 → G2 q = lay G n cell lo up q) (hM : ∀ q, q ≠ 27 → M2 q = M q) (hN : ∀ q, q ≠ 12 → q ≠ 13 → q ≠ 28 → N2 q = N q) (h12 : ∀ k, k < n → N2 12 k = N 12 k) (h13 : ∀ k, k < n → N2 13 k = N 13 k) (h12n : N2 12 n = fi) (h13n : N2 13 n = se) (ct : CT n lo up fi se) (hq : ∃ q, q < 6 ∧ G 30 cell = nI q) : RC F2 G2 M2 N2 ∧ WS n p wv F2 G2 M2 N2 ∧ LY n cell F2 G2 M2 N2 ∧ KF F G F2 G2 ∧ KM M N M2 N2 ∧ G2 6 = G 6 ∧ G2 4 n = lo ∧ G2 5 n = up := by
  have g6 : G2 6 = G 6 := by rw [hG 6 (by decide), lay_o (by decide)]
  have g4 : G2 4 n = lo := by rw [hG 4 (by decide), lay_4, upd_s]
  have g5 : G2 5 n = up := by rw [hG 5 (by decide), lay_5, upd_s]
  have kf : KF F G F2 G2 := ⟨fun q hq => hF q (by omega), fun q hq => by rw [hG q (by omega), lay_o (by omega)]⟩
  have km : KM M N M2 N2 := ⟨fun q hq => hM q (by omega), fun q hq => hN q (by omega) (by omega) (by omega)⟩
  obtain ⟨h, hz, hpn, hp0, m7, pv⟩ := ws
  refine ⟨RC_k rc kf km, ⟨WT_k h (fun q _ _ => hF q (by omega)) (fun q hq k hk => by rw [hG q (by omega), lay_lt hk]) g6 (fun i _ => by rw [hG 7 (by decide), lay_o (by decide)]) (fun q hq => hM q (by omega)) (fun q q1 q2 k hk => ?_) (hN 15 (by decide) (by decide) (by decide)) (hN 21 (by decide) (by decide) (by decide)) (hN 22 (by decide) (by decide) (by decide)), by rw [hF 12 (by decide), hz], hpn, hp0, by rw [hM 7 (by decide), m7], ?_⟩, ⟨?_, ?_, ?_, ?_⟩, kf, km, g6, g4, g5⟩
  · by_cases e12 : q = 12
    · rw [e12]
      exact h12 k hk
    · by_cases e13 : q = 13
      · rw [e13]
        exact h13 k hk
      · rw [hN q e12 e13 (by omega)]
  · rw [g6]
    intro x hx
    rcases pv x hx with z | ⟨j, hj, z1, z2⟩
    · exact Or.inl z
    · exact Or.inr ⟨j, hj, z1, by rw [hG 0 (by decide), lay_lt hj]; exact z2⟩
  · rw [hG 0 (by decide), lay_0, upd_s]
  · obtain ⟨q, h6, e⟩ := hq
    refine ⟨q, h6, ?_, ?_⟩
    · rw [hG 1 (by decide), lay_1, upd_s, e]
    · rw [hN 0 (by decide) (by decide) (by decide), ← rc.1.1, e]
  · rw [hG 3 (by decide), lay_3, upd_s]
  · rw [g4, g5, h12n, h13n]
    exact ct
def BD (F : Nat → Int32) (G : Nat → Nat → Int32) (r c : Nat) (rb x5 x6 x7 x8 : Int32) (A : Option qS) : Prop := ∀ (rec : (Nat → Int32) → (Nat → Nat → Int32) → Int32 → Int32 → Int32 → Int32 → Option qS) (y x9 : Int32), f_X3_followRow_B73 rec (nI r) rb y x5 F G x6 x7 x8 x9 (nI c) = qc A fun (F3, G4) => f_X3_followRow_B179 rec (nI r) rb y x5 F3 G4 x6 x7 x8 x9
theorem bead1 {n p wv w r c : Nat} {F G M N} (rc : RC F G M N) (f35 : F 35 = nI w) (hw : w = 0 ∨ (3 ≤ w ∧ w ≤ 12)) (ws : WS n p wv F G M N) (hn : n < 144) (hr : r < 12) (hc : c < wd w) (hb : ¬ G 30 (r * 12 + c) = -1) {rb x4 x5 x6 x7 : Int32} (m26 : M 26 = 1) (hrow : ∀ x, x < 144 → x / 12 ≠ r → G 6 x = -1) (hrb : rb ≠ nI r) (hlast : ¬ x4 = 0 ↔ nI n = x7) : ∃ A, BD F G r c rb x5 x6 x7 1 A ∧ SR n wv (r * 12 + c) F G M N A (f_X5_picks M N (nI r) (nI c) rb x4) := by
  have hc12 : c < 12 := by have := wd_le hw; omega
  have m2 : M 2 = nI w := by rw [← rc.2.1.2.1, f35]
  obtain ⟨lo, up, fi, se, c1, -, -, c4⟩ := catch_eq rc.2.1.1 rc.2.2.2.2.1 f35 m2 hw hc hr hn ws.1.2.1.1 ws.1.2.1.2 ws.1.2.2.2.2.2.2.2.2.1 ws.2.2.2.2.2 (fun j hj => (ws.1.2.2.2.2.2.2.2.1 j hj).1.1) rb
  obtain ⟨rfl, rfl⟩ := c4 hrow hrb
  have hcol : ∃ q, q < 6 ∧ G 30 (r * 12 + c) = nI q := by
    rcases rc.2.2.1 (r * 12 + c) (by omega) with z | z
    · exact absurd z hb
    · exact z
  obtain ⟨e, he⟩ : ∃ e : Bool, e = decide (w ≠ 0 ∧ nI n = x7 ∧ ¬ nI n < 2) := ⟨_, rfl⟩
  have he : e = true ↔ (w ≠ 0 ∧ nI n = x7 ∧ ¬ nI n < 2) := by rw [he, decide_eq_true_iff]
  obtain ⟨M2, N2, r1, r2, r3, r4, r5, r6⟩ := rf_eq (N := N) hn ws.1.2.1.2 m26 r c rb x4 (e := e) (by
    rw [he, m2, hlast]
    constructor
    · rintro ⟨z1, z2, z3⟩
      exact ⟨nI_nle (by omega) (by omega), z2, z3⟩
    · rintro ⟨z1, z2, z3⟩
      refine ⟨fun z => z1 ?_, z2, z3⟩
      rw [z]
      decide)
  have f11 := ws.1.2.1.1
  obtain ⟨x1, hx1, hx1'⟩ : ∃ x1 : Int32, (¬ x1 = 0 ↔ w ≠ 0) ∧ x1 = (if F 35 = 0 then 0 else 1) := by
    refine ⟨_, ?_, rfl⟩
    rw [f35]
    by_cases z : w = 0
    · rw [z, if_pos (show nI 0 = 0 from rfl)]
      exact ⟨fun q => absurd rfl q, fun q => absurd rfl q⟩
    · rw [if_neg (nI_ne0 (by omega) (by omega))]
      exact ⟨fun _ => z, fun _ => e10⟩
  obtain ⟨F2, G2, g1, g2, g3, g4⟩ := gf_eq (G := lay G n (r * 12 + c) (-1) (-1)) hn f11 (x1 := x1) (x2 := x7) (e := e) (by
    rw [he, hx1]
    constructor
    · rintro ⟨z1, z2, z3⟩
      exact ⟨z1, z2, by rw [← z2]; exact z3⟩
    · rintro ⟨z1, z2, z3⟩
      exact ⟨z1, z2, by rw [z2]; exact z3⟩)
  obtain ⟨rc2, ws2, ly2, kf, km, k6, k4, k5⟩ := pre_eq (fi := -1) (se := -1) rc ws g3 g4 r3 r4 (fun k hk => by rw [r5, upd_n _ _ (by omega)]) (fun k hk => by rw [r6, upd_n _ _ (by omega)]) (by rw [r5, upd_s]) (by rw [r6, upd_s]) ⟨Or.inl rfl, Or.inl rfl, rfl, rfl⟩ hcol
  obtain ⟨o1, o2, o3⟩ := fl_ok hn e
  have st := step_eq rc2 ws2 hn (show r * 12 + c < 144 by omega) ly2 ⟨g2, r2, o1, o2⟩ (fun z => by
    rw [o3 z (by
      cases e with
      | false => rfl
      | true =>
        exfalso
        rw [z] at he
        exact (he.mp rfl).2.2 (by decide))]) (x8 := 1) (fun z => absurd z e10) (nI r) (nI c) rb x4
  refine ⟨f_X3_doStep F2 G2 1, ?_, ?_⟩
  · intro rec y x9
    unfold f_X3_followRow_B73
    rw [colAt hr hc12, qc_s, if_neg hb, c1, qc_s]
    dsimp only
    rw [if_neg e10]
    have e113 : (if F 35 = 0 then f_X3_followRow_B113 rec (nI r) rb y x5 F (lay G n (r * 12 + c) (-1) (-1)) x6 x7 1 x9 0 else f_X3_followRow_B113 rec (nI r) rb y x5 F (lay G n (r * 12 + c) (-1) (-1)) x6 x7 1 x9 1) = f_X3_followRow_B113 rec (nI r) rb y x5 F (lay G n (r * 12 + c) (-1) (-1)) x6 x7 1 x9 x1 := by
      rw [hx1']
      by_cases z : F 35 = 0
      · rw [if_pos z, if_pos z]
      · rw [if_neg z, if_neg z]
    rw [e113]
    unfold f_X3_followRow_B113
    rw [g1, qc_s]
    rfl
  · rw [r1]
    exact SR_tr st kf km (r3 23 (by decide)) (r3 24 (by decide)) (r3 25 (by decide)) (r3 26 (by decide)) k6
theorem bead2 {n p wv w r c k f0 : Nat} {F G M N} (rc : RC F G M N) (f35 : F 35 = nI w) (hw : w = 0 ∨ (3 ≤ w ∧ w ≤ 12)) (ws : WS n p wv F G M N) (hn : n < 144) (hr : r < 12) (hc : c < wd w) (hb : ¬ G 30 (r * 12 + c) = -1) {rb x4 x5 x6 x7 : Int32} (m26 : M 26 = 0) (hk : n = f0 + k) (m25 : M 25 = nI k) (hx6 : x6 = nI f0) (m24 : M 24 = x5) (hx5 : ∃ j, j < n ∧ x5 = nI j) : ∃ A, BD F G r c rb x5 x6 x7 0 A ∧ SR n wv (r * 12 + c) F G M N A (f_X5_picks M N (nI r) (nI c) rb x4) := by
  have hc12 : c < 12 := by have := wd_le hw; omega
  have m2 : M 2 = nI w := by rw [← rc.2.1.2.1, f35]
  have f11 := ws.1.2.1.1
  have m8 := ws.1.2.1.2
  obtain ⟨j5, hj5, ex5⟩ := hx5
  have uq : ∀ q, q ≠ 27 → upd M 27 0 q = M q := fun q hq => upd_n _ _ hq
  have nq : ∀ q, q ≠ 12 → q ≠ 13 → qG (qG N 12 n (-1)) 13 n (-1) q = N q := fun q h1 h2 => by rw [qG_n _ _ _ h2, qG_n _ _ _ h1]
  obtain ⟨lo, up, fi, se, c1, c2, c3, -⟩ := catch_eq (M := upd M 27 0) (N := qG (qG N 12 n (-1)) 13 n (-1)) (by rw [uq 1 (by decide)]; exact rc.2.1.1) rc.2.2.2.2.1 f35 (by rw [uq 2 (by decide)]; exact m2) hw hc hr hn f11 (by rw [uq 8 (by decide)]; exact m8) (by rw [nq 15 (by decide) (by decide)]; exact ws.1.2.2.2.2.2.2.2.2.1) ws.2.2.2.2.2 (fun j hj => by rw [nq 9 (by decide) (by decide)]; exact (ws.1.2.2.2.2.2.2.2.1 j hj).1.1) rb
  have hcol : ∃ q, q < 6 ∧ G 30 (r * 12 + c) = nI q := by
    rcases rc.2.2.1 (r * 12 + c) (by omega) with z | z
    · exact absurd z hb
    · exact z
  obtain ⟨t, ht⟩ : ∃ t : Int32, t = if k = 0 then (if w = 0 then nI n - 1 else x5) else -1 := ⟨_, rfl⟩
  have tv : (k = 0 ∧ ∃ j, j < n ∧ t = nI j) ∨ (¬ k = 0 ∧ t = -1) := by
    by_cases z : k = 0
    · refine Or.inl ⟨z, ?_⟩
      rw [ht, if_pos z]
      by_cases zw : w = 0
      · rw [if_pos zw]
        exact ⟨n - 1, by omega, by rw [show (1 : Int32) = nI 1 from rfl, pk_sub (by omega)]⟩
      · rw [if_neg zw]
        exact ⟨j5, hj5, ex5⟩
    · refine Or.inr ⟨z, ?_⟩
      rw [ht, if_neg z]
  have t1 : t = -1 ∨ ∃ j, j < 144 ∧ t = nI j := by
    rcases tv with ⟨-, j, hj, z⟩ | ⟨-, z⟩
    · exact Or.inr ⟨j, by omega, z⟩
    · exact Or.inl z
  have t2 : t = -1 ∨ ∃ j, j ≤ n ∧ t = nI j := by
    rcases tv with ⟨-, j, hj, z⟩ | ⟨-, z⟩
    · exact Or.inr ⟨j, by omega, z⟩
    · exact Or.inl z
  have w4 : ∀ {x : Int32}, (x = -1 ∨ ∃ j, j < n ∧ x = nI j) → (x = -1 ∨ ∃ j, j < 144 ∧ x = nI j) := by
    intro x h
    rcases h with z | ⟨j, hj, z⟩
    · exact Or.inl z
    · exact Or.inr ⟨j, by omega, z⟩
  have w5 : ∀ {x : Int32}, (x = -1 ∨ ∃ j, j < n ∧ x = nI j) → (x = -1 ∨ ∃ j, j ≤ n ∧ x = nI j) := by
    intro x h
    rcases h with z | ⟨j, hj, z⟩
    · exact Or.inl z
    · exact Or.inr ⟨j, by omega, z⟩
  have lay4n : lay G n (r * 12 + c) lo up 4 n = lo := by rw [lay_4, upd_s]
  have lay5n : lay G n (r * 12 + c) lo up 5 n = up := by rw [lay_5, upd_s]
  obtain ⟨F2, G2, g1, g2, g3, g4⟩ := gl_eq (G := lay G n (r * 12 + c) lo up) hn f11 (t := t) t1 (by rw [lay4n]; exact w4 c3.1) (by rw [lay5n]; exact w4 c3.2.1)
  rw [lay4n, lay5n] at g2
  obtain ⟨o1, o2⟩ := ll_ok hn t2 (w5 c3.1) (w5 c3.2.1)
  have hBD : BD F G r c rb x5 x6 x7 0 (f_X3_doStep F2 G2 0) := by
    intro rec y x9
    unfold f_X3_followRow_B73
    rw [colAt hr hc12, qc_s, if_neg hb, c1, qc_s]
    dsimp only
    rw [if_pos rfl, f11, hx6]
    unfold f_X3_followRow_B135 f_X3_followRow_B155
    have e169 : f_X3_followRow_B169 rec (nI r) rb y x5 F (lay G n (r * 12 + c) lo up) (nI f0) x7 0 x9 t = qc (f_X3_doStep F2 G2 0) fun (F3, G4) => f_X3_followRow_B179 rec (nI r) rb y x5 F3 G4 (nI f0) x7 0 x9 := by
      unfold f_X3_followRow_B169
      rw [g1, qc_s]
      rfl
    by_cases z : k = 0
    · rw [if_pos (by rw [hk, z, Nat.add_zero])]
      rw [ht, if_pos z] at e169
      by_cases zw : w = 0
      · rw [if_pos (show F 35 = 0 by rw [f35, zw]; rfl), if_neg e10, f11]
        rw [if_pos zw] at e169
        exact e169
      · rw [if_neg (show ¬ F 35 = 0 by rw [f35]; exact nI_ne0 (by omega) (by omega)), if_neg e10]
        rw [if_neg zw] at e169
        exact e169
    · rw [if_neg (fun q => z (by have := (nI_eq (by omega) (by omega)).mp q; omega))]
      rw [ht, if_neg z] at e169
      by_cases zw : F 35 = 0
      · rw [if_pos zw, if_pos rfl]
        exact e169
      · rw [if_neg zw, if_pos rfl]
        exact e169
  refine ⟨f_X3_doStep F2 G2 0, hBD, ?_⟩
  have rg := ct_rng c3
  by_cases hfi : fi = -1
  · have hlo : lo = -1 := by
      rcases c3.1 with z | ⟨j, hj, z⟩
      · exact z
      · exfalso
        have := c3.2.2.1
        rw [z, if_neg (nI_m1 (by omega)), hfi] at this
        exact nI_m1 (by omega) this.symm
    have hup : up = -1 := by
      have := c3.2.2.1
      rw [hlo, if_pos rfl, hfi] at this
      exact this.symm
    rw [hfi] at c2
    have pk := rl_no hn m8 m26 r c rb x4 c2
    obtain ⟨rc2, ws2, ly2, kf, km, k6, k4, k5⟩ := pre_eq (M2 := upd (upd M 27 0) 27 (nI (ll t n lo up).length)) (N2 := pz (fun i => nI ((ll t n lo up).getD i 0)) 28 (qG (qG (qG (qG N 12 n (-1)) 13 n (-1)) 12 n (-1)) 13 n se)) (fi := -1) (se := se) rc ws g3 g4 (fun q hq => by rw [upd_n _ _ hq, uq q hq]) (fun q h12 h13 h28 => by rw [pz_n _ _ h28, qG_n _ _ _ h13, qG_n _ _ _ h12, nq q h12 h13]) (fun k hk => by rw [pz_n _ _ (by decide), qG_n _ _ _ (by decide), qG_s, upd_n _ _ (by omega), qG_n _ _ _ (by decide), qG_s, upd_n _ _ (by omega)]) (fun k hk => by rw [pz_n _ _ (by decide), qG_s, upd_n _ _ (by omega), qG_n _ _ _ (by decide), qG_s, upd_n _ _ (by omega), qG_n _ _ _ (by decide)]) (by rw [pz_n _ _ (by decide), qG_n _ _ _ (by decide), qG_s, upd_s]) (by rw [pz_n _ _ (by decide), qG_s, upd_s]) (by rw [hfi] at c3; exact c3) hcol
    obtain ⟨v, v1, -⟩ := need_eq (FT_of (l := ll t n lo up) ws2.1 hn (show r * 12 + c < 144 by omega) ly2 ⟨g2, ⟨upd_s _ _ _, fun i hi => by rw [pz_s]⟩, o1, o2⟩ rc2)
    rw [pk]
    have ed : f_X3_doStep F2 G2 0 = some (upd (upd F2 12 1) 13 (nI (r * 12 + c)), G2) := by
      rw [ds_dst, v1, qc_s]
      unfold f_X3_faultAhead
      rw [if_pos rfl, ws2.1.2.1.1, cc_yes hn (by rw [k4, hlo]) (by rw [k5, hup]), qc_s, if_pos rfl, dst_f e10 ws2.1.2.1.1 hn ly2.1]
    rw [ed]
    refine ⟨false, _, _, _, _, rfl, rfl, kf.tr ⟨fun q hq => ?_, fun _ _ => rfl⟩, ⟨fun q hq => ?_, fun q hq => ?_⟩, fun z => (by cases z), fun _ => ⟨⟨p, WT_f ?_ 1 _⟩, ?_⟩⟩
    · rw [upd_n _ _ (by omega), upd_n _ _ (by omega)]
    · rw [upd_n _ _ (by omega), upd_n _ _ (by omega), upd_n _ _ (by omega)]
    · rw [qG_n _ _ _ (by omega), qG_n _ _ _ (by omega), nq q (by omega) (by omega)]
    · refine WT_k ws2.1 (fun _ _ _ => rfl) (fun _ _ _ _ => rfl) rfl (fun _ _ => rfl) (fun q hq => ?_) (fun q q1 q2 k hk => ?_) ?_ ?_ ?_
      · rw [upd_n (upd M 27 0) _ (show q ≠ 27 by omega)]
      · rw [pz_n _ _ (by omega)]
      · rw [pz_n _ _ (by decide)]
      · rw [pz_n _ _ (by decide)]
      · rw [pz_n _ _ (by decide)]
    · rw [upd_n _ _ (by decide), upd_s]
      exact e10
  · have hfj : ∃ j, j < 144 ∧ fi = nI j := by
      rcases rg.1 with z | ⟨j, hj, z⟩
      · exact absurd z hfi
      · exact ⟨j, by omega, z⟩
    obtain ⟨M2, N2, r1, r2, r3, r4, r5, r6⟩ := rl_eq (t := t) hn m8 m26 r c rb x4 c2 hfj (w4 rg.2) (by
      rcases tv with ⟨z, j, hj, zt⟩ | ⟨z, zt⟩
      · refine Or.inl ⟨by rw [m25, z]; rfl, ?_, j, by omega, zt⟩
        rw [ht, if_pos z, m2, m24]
        by_cases zw : w = 0
        · rw [if_pos zw, if_pos (by rw [zw]; rfl)]
        · rw [if_neg zw, if_neg (nI_ne0 (by omega) (by omega))]
      · exact Or.inr ⟨by rw [m25]; exact nI_ne0 (by omega) (by omega), zt⟩)
    obtain ⟨rc2, ws2, ly2, kf, km, k6, k4, k5⟩ := pre_eq (fi := fi) (se := se) rc ws g3 g4 r3 r4 (fun k hk => by rw [r5, upd_n _ _ (by omega), upd_n _ _ (by omega)]) (fun k hk => by rw [r6, upd_n _ _ (by omega), upd_n _ _ (by omega)]) (by rw [r5, upd_s]) (by rw [r6, upd_s]) c3 hcol
    rw [← ll_ct c3] at r2
    have st := step_eq rc2 ws2 hn (show r * 12 + c < 144 by omega) ly2 ⟨g2, r2, o1, o2⟩ (fun z => by omega) (x8 := 0) (fun _ z => hfi (by
      have := c3.2.2.1
      rw [k4, k5] at z
      rw [z.1, if_pos rfl, z.2] at this
      exact this)) (nI r) (nI c) rb x4
    rw [r1]
    exact SR_tr st kf km (r3 23 (by decide)) (r3 24 (by decide)) (r3 25 (by decide)) (r3 26 (by decide)) k6
