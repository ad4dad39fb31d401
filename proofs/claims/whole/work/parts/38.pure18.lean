/-! one step of work -/
def SR (n wv cell : Nat) (F : Nat → Int32) (G : Nat → Nat → Int32) (M : Nat → Int32) (N : Nat → Nat → Int32) (A : Option qS) (B : Option (Int32 × qS)) : Prop :=
  ∃ (b : Bool) (F' : Nat → Int32) (G' : Nat → Nat → Int32) (M' : Nat → Int32) (N' : Nat → Nat → Int32), A = some (F', G') ∧ B = some (b2i b, M', N') ∧ KF F G F' G' ∧ KM M N M' N' ∧ (b = true → (∃ p', WS (n + 1) p' wv F' G' M' N') ∧ M' 25 = M 25 + 1 ∧ M' 23 = (if M 25 = 0 then nI n else M 23) ∧ M' 24 = M 24 ∧ M' 26 = M 26 ∧ G' 6 = upd (G 6) cell (nI n)) ∧ (b = false → (∃ p', WT n p' wv F' G' M' N') ∧ ¬ F' 12 = 0)
theorem SR_tr {n wv cell : Nat} {F G M N F1 G1 M1 N1} {A : Option qS} {B : Option (Int32 × qS)} (h : SR n wv cell F1 G1 M1 N1 A B) (kf : KF F G F1 G1) (km : KM M N M1 N1) (h23 : M1 23 = M 23) (h24 : M1 24 = M 24) (h25 : M1 25 = M 25) (h26 : M1 26 = M 26) (h6 : G1 6 = G 6) : SR n wv cell F G M N A B := by
  obtain ⟨b, F', G', M', N', a1, a2, a3, a4, a5, a6⟩ := h
  rw [h23, h24, h25, h26, h6] at a5
  exact ⟨b, F', G', M', N', a1, a2, kf.tr a3, km.tr a4, a5, a6⟩
def dst (v : Int32) (x : Option (Int32 × qS)) : Option qS :=
  qc x fun (v3, F4, G5) =>
  qf F4 12 v3 fun F7 =>
  if (F7 12) = 0 then
    qc (f_X3_pickUp F7 G5 v) fun (F11, G12) =>
    some (F11, G12)
  else
    ql (G5 0) 144 ((F7 11)) fun v8 =>
    qf F7 13 v8 fun F9 =>
    some (F9, G5)
theorem ds_dst (F : Nat → Int32) (G : Nat → Nat → Int32) (x8 : Int32) : f_X3_doStep F G x8 = qc (f_X2_threadNeeded F G) fun v => dst v (f_X3_faultAhead F G v x8) := rfl
theorem dst_f {F : Nat → Int32} {G : Nat → Nat → Int32} {x v : Int32} {n cell : Nat} (hx : ¬ x = 0) (f11 : F 11 = nI n) (hn : n < 144) (g0 : G 0 n = nI cell) : dst v (some (x, F, G)) = some (upd (upd F 12 x) 13 (nI cell), G) := by
  unfold dst
  rw [qc_s]
  dsimp only
  rw [qf_e, upd_s, if_neg hx, upd_n _ _ (by decide), f11, ql_ok hn (by decide), g0, qf_e]
theorem dst_0 {F : Nat → Int32} {G : Nat → Nat → Int32} {v : Int32} {F' : Nat → Int32} {G' : Nat → Nat → Int32} (h12 : F 12 = 0) (h : f_X3_pickUp F G v = some (F', G')) : dst v (some (0, F, G)) = some (F', G') := by
  unfold dst
  rw [qc_s]
  dsimp only
  rw [qf_e, upd_id h12, h12, if_pos rfl, h, qc_s]
theorem SR_f {n p wv cell : Nat} {F G M N F1 G1 M1 N1} (h : WT n p wv F1 G1 M1 N1) (kf : KF F G F1 G1) (km : KM M N M1 N1) (hn : n < 144) (g0 : G1 0 n = nI cell) {x v : Int32} (hx : ¬ x = 0) : SR n wv cell F G M N (dst v (some (x, F1, G1))) (qc (f_X5_fails M1 N1 x (nI cell)) fun (v19, F20, G21) => qc (qb v19) fun zz => some (zz, F20, G21)) := by
  rw [dst_f hx h.2.1.1 hn g0]
  unfold f_X5_fails
  rw [qf_e, qf_e, qc_s]
  refine ⟨false, _, _, _, _, rfl, rfl, kf.tr ⟨fun q hq => ?_, fun _ _ => rfl⟩, km.tr ⟨fun q hq => ?_, fun _ _ => rfl⟩, fun z => (by cases z), fun _ => ⟨⟨p, WT_f h x (nI cell)⟩, ?_⟩⟩
  · rw [upd_n _ _ (by omega), upd_n _ _ (by omega)]
  · rw [upd_n _ _ (by omega), upd_n _ _ (by omega)]
  · rw [upd_n _ _ (by decide), upd_s]
    exact hx
theorem room_eq {n p wv cell : Nat} {l : List Nat} {F G M N} (rc : RC F G M N) (h : WT n p wv F G M N) (h12 : F 12 = 0) (hp1 : 1 ≤ p) (hpn : p ≤ n + 1) (m7 : M 7 = nI wv) (pv : PV n (G 6) (G 0)) (hn : n < 144) (hc : cell < 144) (hl : LY n cell F G M N) (hs : SLs n l F G M N) (x1 x2 x3 x4 v x8 : Int32) : SR n wv cell F G M N (dst v (f_X3_faultAhead_B52 v x8 F G)) (f_X5_picks_B290 x1 x2 x3 x4 M N (nI cell) v) := by
  unfold f_X3_faultAhead_B52 f_X5_picks_B290
  obtain ⟨b, e1, e2⟩ := fits_eq (FT_of h hn hc hl hs rc)
  rw [e1, e2, qc_s, qc_s]
  cases b with
  | false =>
    rw [if_pos (show b2i false = 0 from rfl), if_pos (show b2i false = 0 from rfl)]
    exact SR_f h KF.rf KM.rf hn hl.1 (by decide)
  | true =>
    rw [if_neg (show ¬ b2i true = 0 by decide), if_neg (show ¬ b2i true = 0 by decide)]
    obtain ⟨F', G', M', N', a1, a2, a3, a4, a5, a6⟩ := pu_eq h h12 hp1 hpn m7 pv hn hc hl hs x1 x2 x3 x4 v
    have pu : f_X3_pickUp F G v = some (F', G') := by
      unfold f_X3_pickUp
      rw [h.2.2.1.1, if_neg (nI_ne0 hp1 (by have := h.1.2.1; omega)), a1]
    rw [dst_0 h12 pu, a2]
    exact ⟨true, F', G', M', N', rfl, rfl, a3, a4, fun _ => ⟨⟨p, a5⟩, a6⟩, fun z => (by cases z)⟩
theorem cc_no {F : Nat → Int32} {G : Nat → Nat → Int32} {n : Nat} (hn : n < 144) (h : ¬ (G 4 n = -1 ∧ G 5 n = -1)) : ∃ k, f_X3_caughtCount F G (nI n) = some k ∧ ¬ k = 0 := by
  unfold f_X3_caughtCount f_X3_caughtCount_B15
  rw [ql_ok hn (by decide), ql_ok hn (by decide), ql_ok hn (by decide)]
  by_cases a : G 4 n = -1
  · by_cases b : G 5 n = -1
    · exact absurd ⟨a, b⟩ h
    · rw [if_pos a, if_neg b]
      exact ⟨_, rfl, by decide⟩
  · rw [if_neg a]
    by_cases b : G 5 n = -1
    · rw [if_pos b]
      exact ⟨_, rfl, by decide⟩
    · rw [if_neg b]
      exact ⟨_, rfl, by decide⟩
theorem cc_yes {F : Nat → Int32} {G : Nat → Nat → Int32} {n : Nat} (hn : n < 144) (a : G 4 n = -1) (b : G 5 n = -1) : f_X3_caughtCount F G (nI n) = some 0 := by
  unfold f_X3_caughtCount f_X3_caughtCount_B15
  rw [ql_ok hn (by decide), ql_ok hn (by decide), ql_ok hn (by decide), if_pos a, if_pos b]
  rfl
theorem step_eq {n p wv cell : Nat} {l : List Nat} {F G M N} (rc : RC F G M N) (ws : WS n p wv F G M N) (hn : n < 144) (hc : cell < 144) (hl : LY n cell F G M N) (hs : SLs n l F G M N) (h0 : n = 0 → l = [0]) {x8 : Int32} (hx : x8 = 0 → ¬ (G 4 n = -1 ∧ G 5 n = -1)) (x1 x2 x3 x4 : Int32) : SR n wv cell F G M N (f_X3_doStep F G x8) (f_X5_picks_B214 x1 x2 x3 x4 M N (nI cell)) := by
  obtain ⟨h, h12, hpn, hp0, m7, pv⟩ := ws
  have ft := FT_of h hn hc hl hs rc
  obtain ⟨v, e1, e2⟩ := need_eq ft
  have e36 : F 36 = M 6 := rc.2.1.2.2.1
  rw [ds_dst, e1, qc_s]
  have fa : f_X3_faultAhead F G v x8 = f_X3_faultAhead_B17 v x8 F G := by
    unfold f_X3_faultAhead
    by_cases z : x8 = 0
    · obtain ⟨k, k1, k2⟩ := cc_no (F := F) hn (hx z)
      rw [if_pos z, h.2.1.1, k1, qc_s, if_neg k2]
    · rw [if_neg z]
  rw [fa]
  unfold f_X3_faultAhead_B17 f_X5_picks_B214
  rw [e2, qc_s, e36, h.2.2.1.1, h.2.2.1.2]
  by_cases len : v ≤ M 6
  · rw [if_pos len, if_pos len]
    by_cases z : p = 0
    · have n0 := hp0 z
      subst z n0
      have l0 := h0 rfl
      subst l0
      rw [if_pos (by decide), if_pos (show nI 0 = 0 from rfl), qf_e, qf_e, show (0 : Int32) = nI 0 from rfl, qs_ok (by decide) (by decide), show nI 0 = (0 : Int32) from rfl]
      obtain ⟨M1, hM1⟩ : ∃ M1, M1 = upd (upd M 20 (M 6)) 18 1 := ⟨_, rfl⟩
      obtain ⟨N1, hN1⟩ : ∃ N1, N1 = qG N 21 0 0 := ⟨_, rfl⟩
      obtain ⟨F1, hF1⟩ : ∃ F1, F1 = upd (upd F 14 1) 16 (F 36) := ⟨_, rfl⟩
      rw [← hM1, ← hN1]
      have mq : ∀ q, q ≠ 18 → q ≠ 20 → M1 q = M q := fun q h1 h2 => by rw [hM1, upd_n _ _ h1, upd_n _ _ h2]
      have nq : ∀ q, q ≠ 21 → N1 q = N q := fun q h1 => by rw [hN1, qG_n _ _ _ h1]
      have fq : ∀ q, q ≠ 14 → q ≠ 16 → F1 q = F q := fun q h1 h2 => by rw [hF1, upd_n _ _ h2, upd_n _ _ h1]
      have km : KM M N M1 N1 := ⟨fun q hq => mq q (by omega) (by omega), fun q hq => nq q (by omega)⟩
      have kf : KF F G F1 G := ⟨fun q hq => fq q (by omega) (by omega), fun _ _ => rfl⟩
      have hl1 : LY 0 cell F1 G M1 N1 := by
        unfold LY at hl ⊢
        rw [nq 0 (by decide), nq 12 (by decide), nq 13 (by decide)]
        exact hl
      have hs1 : SLs 0 [0] F1 G M1 N1 := by
        unfold SLs at hs ⊢
        rw [fq 21 (by decide) (by decide), mq 27 (by decide) (by decide), nq 28 (by decide)]
        exact hs
      have w1 : WT 0 1 wv F1 G M1 N1 := by
        obtain ⟨a, b, c, d, e, f, g, w⟩ := h
        refine ⟨⟨by decide, by decide, a.2.2⟩, ⟨?_, ?_⟩, ⟨?_, ?_⟩, ?_, ?_, ⟨?_, ?_, ?_, ?_⟩, ?_, fun k hk => ?_, ?_, fun q q1 q2 => ?_, fun _ => ?_, fun k hk => ?_⟩
        · rw [fq 11 (by decide) (by decide), b.1]
        · rw [mq 8 (by decide) (by decide), b.2]
        · rw [hF1, upd_n _ _ (by decide), upd_s]
          rfl
        · rw [hM1, upd_s]
          rfl
        · rw [fq 18 (by decide) (by decide), d]
        · rw [fq 10 (by decide) (by decide), e]
        · rw [fq 12 (by decide) (by decide), mq 16 (by decide) (by decide), f.1]
        · rw [fq 13 (by decide) (by decide), mq 17 (by decide) (by decide), f.2.1]
        · rw [fq 15 (by decide) (by decide), mq 19 (by decide) (by decide), f.2.2.1]
        · rw [hF1, upd_s, hM1, upd_n _ _ (by decide), upd_s, e36]
        · rw [fq 17 (by decide) (by decide), g]
          rfl
        · omega
        · rw [nq 15 (by decide)]
          exact w.2.1
        · omega
        · rw [hN1, qG_s, upd_s]
        · omega
      have ok : f_X2_fits F G = some 1 := fits_1 ft rc.2.2.2.1
      have ok2 : f_X5_hasRoom M1 N1 (nI cell) = some 1 := by
        obtain ⟨b, b1, b2⟩ := fits_eq (FT_of w1 hn hc hl1 hs1 (RC_k rc kf km))
        have bF : f_X2_fits F1 G = f_X2_fits F G := by
          have bb : FT 0 [0].length cell (fun i => [0].getD i 0) F1 G M1 N1 := FT_of w1 hn hc hl1 hs1 (RC_k rc kf km)
          rw [ok]
          exact fits_1 bb rc.2.2.2.1
        rw [bF, ok] at b1
        rw [b2, ← b1]
      obtain ⟨F', G', M', N', a1, a2, a3, a4, a5, a6⟩ := pu_eq w1 (by rw [fq 12 (by decide) (by decide), h12]) (by decide) (by decide) (by rw [mq 7 (by decide) (by decide), m7]) pv hn hc hl1 hs1 x1 x2 x3 x4 v
      have pu : f_X3_pickUp F G v = some (F', G') := by
        unfold f_X3_pickUp
        rw [h.2.2.1.1, if_pos (show nI 0 = 0 from rfl), qf_e, qf_e, upd_n _ _ (by decide), ← hF1, a1]
      unfold f_X3_faultAhead_B52 f_X5_picks_B266 f_X5_picks_B290
      rw [ok, qc_s, if_neg e10, dst_0 h12 pu, if_pos (show v ≤ M1 20 by rw [hM1, upd_n _ _ (by decide), upd_s]; exact len), ok2, qc_s, if_neg e10, a2]
      rw [mq 25 (by decide) (by decide), mq 23 (by decide) (by decide), mq 24 (by decide) (by decide), mq 26 (by decide) (by decide)] at a6
      exact ⟨true, F', G', M', N', rfl, rfl, kf.tr a3, km.tr a4, fun _ => ⟨⟨1, a5⟩, a6⟩, fun z => (by cases z)⟩
    · have hp : p < 144 := by omega
      rw [if_neg (nI_nle (by omega) (by omega)), if_neg (nI_ne0 (by omega) (by omega)), h.2.2.2.2.2.1.2.2.2]
      unfold f_X5_picks_B266
      by_cases lft : v ≤ M 20
      · rw [if_pos lft, if_pos lft]
        exact room_eq rc h h12 (by omega) (by omega) m7 pv hn hc hl hs x1 x2 x3 x4 v x8
      · rw [if_neg lft, if_neg lft]
        have jb : JB n p wv F G M N := by
          obtain ⟨a, b, c, d, e, f, g, w⟩ := h
          refine ⟨⟨a.1, hp, a.2.2⟩, b, ⟨d, m7⟩, c, rc.1.2.1, fun j hj => ?_⟩
          obtain ⟨⟨w1, w2, w3, w4⟩, w5, w6, ⟨q, hq, w7⟩, -⟩ := w.1 j hj
          exact ⟨q, hq, w7, by rw [← w2, w7], w4⟩
        obtain ⟨b, F1, G1, M1, N1, j1, j2, j3, j4, j5, j6, j7⟩ := join_eq jb
        rw [j1, qc_s, j2, qc_s]
        dsimp only
        cases b with
        | false =>
          obtain ⟨rfl, rfl, k3, k4, k5, k6⟩ := j6 rfl
          rw [if_pos (show b2i false = 0 from rfl), if_pos (show b2i false = 0 from rfl)]
          have g1q : ∀ q, q ≠ 7 → q ≠ 8 → G1 q = G q := fun q h7 h8 => by
            by_cases h3 : q = 3
            · rw [h3, k3]
            · exact j3 q h3 h7 h8
          have n1q : ∀ q, q ≠ 29 → q ≠ 30 → N1 q = N q := fun q h29 h30 => by
            by_cases h11 : q = 11
            · rw [h11, k4]
            · by_cases h21 : q = 21
              · rw [h21, k5]
              · by_cases h22 : q = 22
                · rw [h22, k6]
                · exact j4 q h11 h21 h22 h29 h30
          have w1 : WT n p wv F1 G1 M1 N1 := WT_k h (fun _ _ _ => rfl) (fun q hq k _ => by rw [g1q q (by omega) (by omega)]) (g1q 6 (by decide) (by decide)) j5 (fun _ _ => rfl) (fun q _ hq k _ => by rw [n1q q (by omega) (by omega)]) (n1q 15 (by decide) (by decide)) k5 k6
          exact SR_f w1 ⟨fun _ _ => rfl, fun q hq => g1q q (by omega) (by omega)⟩ ⟨fun _ _ => rfl, fun q hq => n1q q (by omega) (by omega)⟩ hn (by rw [g1q 0 (by decide) (by decide)]; exact hl.1) (by decide)
        | true =>
          obtain ⟨k1, k2, k3, k4, k5, k6, k7, k8⟩ := j7 rfl
          rw [if_neg (show ¬ b2i true = 0 by decide), if_neg (show ¬ b2i true = 0 by decide)]
          have fq : ∀ q, q ≠ 14 → q ≠ 16 → q ≠ 17 → F1 q = F q := fun q h1 h2 h3 => by rw [k1, upd_n _ _ h2, upd_n _ _ h1, upd_n _ _ h3]
          have mq : ∀ q, q ≠ 18 → q ≠ 20 → M1 q = M q := fun q h1 h2 => by rw [k2, upd_n _ _ h2, upd_n _ _ h1]
          have kf : KF F G F1 G1 := ⟨fun q hq => fq q (by omega) (by omega) (by omega), fun q hq => j3 q (by omega) (by omega) (by omega)⟩
          have km : KM M N M1 N1 := ⟨fun q hq => mq q (by omega) (by omega), fun q hq => j4 q (by omega) (by omega) (by omega) (by omega) (by omega)⟩
          have w1 : WT n (p + 1) wv F1 G1 M1 N1 := by
            obtain ⟨a, b, c, d, e, f, g, w⟩ := h
            refine ⟨⟨a.1, by omega, a.2.2⟩, ⟨?_, ?_⟩, ⟨?_, ?_⟩, ?_, ?_, ⟨?_, ?_, ?_, ?_⟩, ?_, ?_⟩
            · rw [fq 11 (by decide) (by decide) (by decide), b.1]
            · rw [mq 8 (by decide) (by decide), b.2]
            · rw [k1, upd_n _ _ (by decide), upd_s]
            · rw [k2, upd_n _ _ (by decide), upd_s]
            · rw [fq 18 (by decide) (by decide) (by decide), d]
            · rw [fq 10 (by decide) (by decide) (by decide), e]
            · rw [fq 12 (by decide) (by decide) (by decide), mq 16 (by decide) (by decide), f.1]
            · rw [fq 13 (by decide) (by decide) (by decide), mq 17 (by decide) (by decide), f.2.1]
            · rw [fq 15 (by decide) (by decide) (by decide), mq 19 (by decide) (by decide), f.2.2.1]
            · rw [k1, k2, upd_s, upd_s, e36]
            · rw [k1, upd_n _ _ (by decide), upd_n _ _ (by decide), upd_s, k8, g]
            · rw [j3 0 (by decide) (by decide) (by decide), j3 1 (by decide) (by decide) (by decide), j3 2 (by decide) (by decide) (by decide), j3 4 (by decide) (by decide) (by decide), j3 5 (by decide) (by decide) (by decide), j3 6 (by decide) (by decide) (by decide), j4 9 (by decide) (by decide) (by decide) (by decide) (by decide), j4 14 (by decide) (by decide) (by decide) (by decide) (by decide), j4 10 (by decide) (by decide) (by decide) (by decide) (by decide), j4 12 (by decide) (by decide) (by decide) (by decide) (by decide), j4 13 (by decide) (by decide) (by decide) (by decide) (by decide), j4 15 (by decide) (by decide) (by decide) (by decide) (by decide), k3]
              exact WA_new w hp a.2.2 (by omega) k6 j5 k4 k5
          have hl1 : LY n cell F1 G1 M1 N1 := by
            unfold LY at hl ⊢
            rw [j3 0 (by decide) (by decide) (by decide), j3 1 (by decide) (by decide) (by decide), k7 n (Nat.le_refl _), j3 4 (by decide) (by decide) (by decide), j3 5 (by decide) (by decide) (by decide), j4 0 (by decide) (by decide) (by decide) (by decide) (by decide), j4 12 (by decide) (by decide) (by decide) (by decide) (by decide), j4 13 (by decide) (by decide) (by decide) (by decide) (by decide)]
            exact hl
          have hs1 : SLs n l F1 G1 M1 N1 := by
            unfold SLs at hs ⊢
            rw [fq 21 (by decide) (by decide) (by decide), j3 20 (by decide) (by decide) (by decide), mq 27 (by decide) (by decide), j4 28 (by decide) (by decide) (by decide) (by decide) (by decide)]
            exact hs
          have := room_eq (RC_k rc kf km) w1 (by rw [fq 12 (by decide) (by decide) (by decide), h12]) (by omega) (by omega) (by rw [mq 7 (by decide) (by decide), m7]) (by rw [j3 6 (by decide) (by decide) (by decide), j3 0 (by decide) (by decide) (by decide)]; exact pv) hn hc hl1 hs1 x1 x2 x3 x4 v x8
          exact SR_tr this kf km (mq 23 (by decide) (by decide)) (mq 24 (by decide) (by decide)) (mq 25 (by decide) (by decide)) (mq 26 (by decide) (by decide)) (j3 6 (by decide) (by decide) (by decide))
  · rw [if_neg len, if_neg len]
    exact SR_f h KF.rf KM.rf hn hl.1 (by decide)
