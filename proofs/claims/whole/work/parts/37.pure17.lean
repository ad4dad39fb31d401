/-! the way and the reference's work, side by side -/
def KF (F : Nat → Int32) (G : Nat → Nat → Int32) (F' : Nat → Int32) (G' : Nat → Nat → Int32) : Prop := (∀ q, 22 ≤ q → F' q = F q) ∧ (∀ q, 22 ≤ q → G' q = G q)
def KM (M : Nat → Int32) (N : Nat → Nat → Int32) (M' : Nat → Int32) (N' : Nat → Nat → Int32) : Prop := (∀ q, q ≤ 7 ∨ 31 ≤ q → M' q = M q) ∧ (∀ q, q ≤ 7 ∨ 31 ≤ q → N' q = N q)
theorem KF.rf {F G} : KF F G F G := ⟨fun _ _ => rfl, fun _ _ => rfl⟩
theorem KM.rf {M N} : KM M N M N := ⟨fun _ _ => rfl, fun _ _ => rfl⟩
theorem KF.tr {F G F1 G1 F2 G2} (h : KF F G F1 G1) (k : KF F1 G1 F2 G2) : KF F G F2 G2 := ⟨fun q hq => by rw [k.1 q hq, h.1 q hq], fun q hq => by rw [k.2 q hq, h.2 q hq]⟩
theorem KM.tr {M N M1 N1 M2 N2} (h : KM M N M1 N1) (k : KM M1 N1 M2 N2) : KM M N M2 N2 := ⟨fun q hq => by rw [k.1 q hq, h.1 q hq], fun q hq => by rw [k.2 q hq, h.2 q hq]⟩
theorem RC_k {F G M N F1 G1 M1 N1} (h : RC F G M N) (a : KF F G F1 G1) (b : KM M N M1 N1) : RC F1 G1 M1 N1 := by
  unfold RC CV at h ⊢
  rw [a.1 34 (by decide), a.1 35 (by decide), a.1 36 (by decide), a.1 37 (by decide), a.2 30 (by decide), a.2 31 (by decide), a.2 32 (by decide), a.2 33 (by decide), b.1 1 (by decide), b.1 2 (by decide), b.1 6 (by decide), b.1 7 (by decide), b.2 0 (by decide), b.2 3 (by decide), b.2 4 (by decide), b.2 5 (by decide)]
  exact h
def WT (n p wv : Nat) (F : Nat → Int32) (G : Nat → Nat → Int32) (M : Nat → Int32) (N : Nat → Nat → Int32) : Prop :=
  (n ≤ 144 ∧ p ≤ 144 ∧ wv ≤ 6) ∧ (F 11 = nI n ∧ M 8 = nI n) ∧ (F 14 = nI p ∧ M 18 = nI p) ∧ F 18 = nI wv ∧ F 10 = 1 ∧ (F 12 = M 16 ∧ F 13 = M 17 ∧ F 15 = M 19 ∧ F 16 = M 20) ∧ F 17 = smI (N 11) n ∧
  WA n p wv (G 0) (G 1) (G 2) (G 3) (G 4) (G 5) (G 6) (G 7) (N 9) (N 14) (N 10) (N 11) (N 12) (N 13) (N 15) (N 22) (N 21)
def WS (n p wv : Nat) (F : Nat → Int32) (G : Nat → Nat → Int32) (M : Nat → Int32) (N : Nat → Nat → Int32) : Prop :=
  WT n p wv F G M N ∧ F 12 = 0 ∧ p ≤ n ∧ (p = 0 → n = 0) ∧ M 7 = nI wv ∧ PV n (G 6) (G 0)
theorem WA_cong {n p wv : Nat} {cell col piece pas lo up pick wov cell' col' piece' pas' fi se pick' wov' wm : Nat → Int32} {ycell ycol ypiece ypas ylo yup ypick ywov ycell' ycol' ypiece' ypas' yfi yse ypick' ywov' ywm : Nat → Int32} (h : WA n p wv cell col piece pas lo up pick wov cell' col' piece' pas' fi se pick' wov' wm)
  (h0 : ∀ k, k < n → (ycell k = cell k ∧ ycol k = col k ∧ ypiece k = piece k ∧ ypas k = pas k ∧ ylo k = lo k ∧ yup k = up k) ∧ (ycell' k = cell' k ∧ ycol' k = col' k ∧ ypiece' k = piece' k ∧ ypas' k = pas' k ∧ yfi k = fi k ∧ yse k = se k))
  (h1 : ypick = pick) (h2 : ∀ i, i < p * 6 → ywov i = wov i) (h3 : ypick' = pick') (h4 : ∀ i, i < p * 6 → ywov' i = wov' i) (h5 : ywm = wm) (hwv : wv ≤ 6) : WA n p wv ycell ycol ypiece ypas ylo yup ypick ywov ycell' ycol' ypiece' ypas' yfi yse ypick' ywov' ywm := by
  obtain ⟨a, b, c, d, e⟩ := h
  subst h1 h3 h5
  refine ⟨fun k hk => ?_, b, fun q q1 q2 => ⟨(c q q1 q2).1, fun i hi => ?_⟩, d, fun k hk => ?_⟩
  · obtain ⟨⟨x1, x2, x3, x4, x5, x6⟩, y1, y2, y3, y4, y5, y6⟩ := h0 k hk
    rw [x1, x2, x3, x4, x5, x6, y1, y2, y3, y4, y5, y6]
    exact a k hk
  · obtain ⟨z1, j, z2, z3, z4⟩ := (c q q1 q2).2 i hi
    have hb : q * 6 + i < p * 6 := by omega
    rw [h2 _ hb, h4 _ hb]
    refine ⟨z1, j, z2, z3, fun k hk hp => z4 k hk ?_⟩
    rw [← (h0 k hk).1.2.2.1]
    exact hp
  · rw [(h0 k (by omega)).1.2.2.1, (h0 (k + 1) (by omega)).1.2.2.1]
    exact e k hk
/-- the way's numbers stay, its lists stay as far as they reach -/
theorem WT_k {n p wv : Nat} {F G M N F1 G1 M1 N1} (h : WT n p wv F G M N) (hF : ∀ q, 10 ≤ q → q ≤ 18 → F1 q = F q) (hG : ∀ q, q ≤ 5 → ∀ k, k < n → G1 q k = G q k) (hG6 : G1 6 = G 6) (hG7 : ∀ i, i < p * 6 → G1 7 i = G 7 i) (hM : ∀ q, q = 8 ∨ (16 ≤ q ∧ q ≤ 20) → M1 q = M q) (hN : ∀ q, 9 ≤ q → q ≤ 14 → ∀ k, k < n → N1 q k = N q k) (hN15 : N1 15 = N 15) (hN21 : N1 21 = N 21) (hN22 : N1 22 = N 22) : WT n p wv F1 G1 M1 N1 := by
  obtain ⟨a, b, c, d, e, f, g, w⟩ := h
  unfold WT
  rw [hF 10 (by decide) (by decide), hF 11 (by decide) (by decide), hF 12 (by decide) (by decide), hF 13 (by decide) (by decide), hF 14 (by decide) (by decide), hF 15 (by decide) (by decide), hF 16 (by decide) (by decide), hF 17 (by decide) (by decide), hF 18 (by decide) (by decide), hM 8 (by decide), hM 16 (by decide), hM 17 (by decide), hM 18 (by decide), hM 19 (by decide), hM 20 (by decide)]
  refine ⟨a, b, c, d, e, f, ?_, ?_⟩
  · rw [g]
    exact smI_cong (fun j hj => (hN 11 (by decide) (by decide) j hj).symm)
  · refine WA_cong w (fun k hk => ⟨⟨hG 0 (by decide) k hk, hG 1 (by decide) k hk, hG 2 (by decide) k hk, hG 3 (by decide) k hk, hG 4 (by decide) k hk, hG 5 (by decide) k hk⟩, hN 9 (by decide) (by decide) k hk, hN 14 (by decide) (by decide) k hk, hN 10 (by decide) (by decide) k hk, hN 11 (by decide) (by decide) k hk, hN 12 (by decide) (by decide) k hk, hN 13 (by decide) (by decide) k hk⟩) hG6 hG7 hN15 (fun i _ => by rw [hN22]) hN21 a.2.2
/-- a fault is written down -/
theorem WT_f {n p wv : Nat} {F G M N} (h : WT n p wv F G M N) (x y : Int32) : WT n p wv (upd (upd F 12 x) 13 y) G (upd (upd M 16 x) 17 y) N := by
  obtain ⟨a, b, c, d, e, f, g, w⟩ := h
  have u : ∀ q, q ≠ 12 → q ≠ 13 → upd (upd F 12 x) 13 y q = F q := fun q h1 h2 => by rw [upd_n _ _ h2, upd_n _ _ h1]
  have v : ∀ q, q ≠ 16 → q ≠ 17 → upd (upd M 16 x) 17 y q = M q := fun q h1 h2 => by rw [upd_n _ _ h2, upd_n _ _ h1]
  unfold WT
  rw [u 10 (by decide) (by decide), u 11 (by decide) (by decide), u 14 (by decide) (by decide), u 15 (by decide) (by decide), u 16 (by decide) (by decide), u 17 (by decide) (by decide), u 18 (by decide) (by decide), v 8 (by decide) (by decide), v 18 (by decide) (by decide), v 19 (by decide) (by decide), v 20 (by decide) (by decide)]
  refine ⟨a, b, c, d, e, ⟨?_, ?_, f.2.2⟩, g, w⟩
  · rw [upd_n _ _ (by decide), upd_s, upd_n _ _ (by decide), upd_s]
  · rw [upd_s, upd_s]
/-- a new piece -/
theorem WA_new {n p wv : Nat} {cell col piece pas lo up pick wov cell' col' piece' pas' fi se pick' wov' wm : Nat → Int32} {ypas ywov ypas' ywov' : Nat → Int32} (h : WA n p wv cell col piece pas lo up pick wov cell' col' piece' pas' fi se pick' wov' wm) (hp : p < 144) (hwv : wv ≤ 6) (hp1 : 1 ≤ p) (h1 : ∀ k, k < n → ypas k = ypas' k) (h2 : ∀ i, i < p * 6 → ywov i = wov i) (h3 : ∀ i, i < p * 6 → ywov' i = wov' i) (h4 : ∀ i, i < wv → ∃ j, j < n ∧ ywov (p * 6 + i) = nI j ∧ ywov' (p * 6 + i) = nI j) : WA n (p + 1) wv cell col piece ypas lo up pick ywov cell' col' piece' ypas' fi se pick' ywov' (upd wm p (nI wv)) := by
  obtain ⟨a, b, c, d, e⟩ := h
  refine ⟨fun k hk => ?_, b, fun q q1 q2 => ⟨?_, fun i hi => ?_⟩, fun _ => ?_, e⟩
  · obtain ⟨⟨a1, a2, a3, a4⟩, a5, a6, a7, q, hq, a8⟩ := a k hk
    exact ⟨⟨a1, a2, a3, h1 k hk⟩, a5, a6, a7, q, by omega, a8⟩
  · by_cases z : q = p
    · rw [z, upd_s]
    · rw [upd_n _ _ z]
      exact (c q q1 (by omega)).1
  · by_cases z : q = p
    · subst z
      obtain ⟨j, hj, e1, e2⟩ := h4 i hi
      refine ⟨by rw [e1, e2], j, e1, hj, fun k hk hpk => ?_⟩
      obtain ⟨q', hq', e3⟩ := (a k hk).2.2.2.2
      rw [e3] at hpk
      have := (nI_eq (by omega) (by omega)).mp hpk
      omega
    · have hb : q * 6 + i < p * 6 := by omega
      rw [h2 _ hb, h3 _ hb]
      exact (c q q1 (by omega)).2 i hi
  · rw [upd_n _ _ (by omega)]
    exact d (by omega)
/-- one bead more -/
theorem WA_add {n p wv cl : Nat} {cell col piece pas lo up pick wov cell' col' piece' pas' fi se pick' wov' wm : Nat → Int32} {ypas ypas' : Nat → Int32} (h : WA n p wv cell col piece pas lo up pick wov cell' col' piece' pas' fi se pick' wov' wm) (hp1 : 1 ≤ p) (hp : p ≤ 144) (hcl : cl < 144) (e0 : cell n = nI cl) {qc0 : Nat} (hq0 : qc0 < 6) (e1 : col n = nI qc0) (hct : CT n (lo n) (up n) (fi n) (se n)) (hpas : ∀ k, k ≤ n → ypas k = ypas' k) : WA (n + 1) p wv cell col (upd piece n (nI (p - 1))) ypas lo up (upd pick cl (nI n)) wov (upd cell' n (nI cl)) (upd col' n (nI qc0)) (upd piece' n (nI (p - 1))) ypas' fi se (upd pick' cl (nI n)) wov' wm := by
  obtain ⟨a, b, c, d, e⟩ := h
  refine ⟨fun k hk => ?_, fun x hx => ?_, fun q q1 q2 => ⟨(c q q1 q2).1, fun i hi => ?_⟩, d, fun k hk => ?_⟩
  · by_cases z : k = n
    · subst z
      rw [upd_s, upd_s, upd_s, upd_s]
      exact ⟨⟨e0, e1, rfl, hpas k (by omega)⟩, hct, ⟨cl, hcl, e0⟩, ⟨qc0, hq0, e1⟩, p - 1, by omega, rfl⟩
    · rw [upd_n _ _ z, upd_n _ _ z, upd_n _ _ z, upd_n _ _ z]
      obtain ⟨⟨a1, a2, a3, a4⟩, a5⟩ := a k (by omega)
      exact ⟨⟨a1, a2, a3, hpas k (by omega)⟩, a5⟩
  · by_cases z : x = cl
    · rw [z, upd_s, upd_s]
    · rw [upd_n _ _ z, upd_n _ _ z]
      exact b x hx
  · obtain ⟨z1, j, z2, z3, z4⟩ := (c q q1 q2).2 i hi
    refine ⟨z1, j, z2, by omega, fun k hk hpk => ?_⟩
    by_cases z : k = n
    · omega
    · rw [upd_n _ _ z] at hpk
      exact z4 k (by omega) hpk
  · by_cases z : k + 1 = n
    · obtain ⟨q, hq, e3⟩ := (a k (by omega)).2.2.2.2
      rw [z, upd_s, upd_n _ _ (by omega)]
      exact ⟨q, p - 1, e3, rfl, by omega, by omega⟩
    · rw [upd_n _ _ (by omega), upd_n _ _ z]
      exact e k (by omega)
theorem upd_id {F : Nat → Int32} {k : Nat} {v : Int32} (h : F k = v) : upd F k v = F := by
  funext q
  by_cases e : q = k
  · rw [e, upd_s, h]
  · rw [upd_n _ _ e]
/-- the bead ahead -/
def LY (n cell : Nat) (F : Nat → Int32) (G : Nat → Nat → Int32) (M : Nat → Int32) (N : Nat → Nat → Int32) : Prop :=
  G 0 n = nI cell ∧ (∃ q, q < 6 ∧ G 1 n = nI q ∧ N 0 cell = nI q) ∧ G 3 n = 0 ∧ CT n (G 4 n) (G 5 n) (N 12 n) (N 13 n)
def SLs (n : Nat) (l : List Nat) (F : Nat → Int32) (G : Nat → Nat → Int32) (M : Nat → Int32) (N : Nat → Nat → Int32) : Prop :=
  SL l (F 21) (G 20) ∧ SL l (M 27) (N 28) ∧ l.length ≤ 4 ∧ (∀ x, x ∈ l → x ≤ n)
theorem FT_of {n p wv cell : Nat} {l : List Nat} {F G M N} (h : WT n p wv F G M N) (hn : n < 144) (hc : cell < 144) (hl : LY n cell F G M N) (hs : SLs n l F G M N) (rc : RC F G M N) : FT n l.length cell (fun i => l.getD i 0) F G M N := by
  obtain ⟨a, b, c, d, e, f, g, w, -⟩ := h
  obtain ⟨l0, l1, l2, l3⟩ := hl
  obtain ⟨s1, s2, s3, s4⟩ := hs
  obtain ⟨⟨g30, g31, g32, g33⟩, -⟩ := rc
  refine ⟨⟨hn, hc, s3⟩, ⟨s1.1, s2.1, b.2⟩, fun i hi => ⟨s1.2 i hi, s2.2 i hi, s4 _ (getD_mem hi)⟩, fun j hj => ?_, l1, l2, g31, g32⟩
  obtain ⟨⟨w1, w2, w3, w4⟩, w5, w6, ⟨q, hq, w7⟩, -⟩ := w j hj
  exact ⟨q, hq, w7, by rw [← w2, w7], w4⟩
theorem pu_eq {n p wv cell : Nat} {l : List Nat} {F G M N} (h : WT n p wv F G M N) (h12 : F 12 = 0) (hp1 : 1 ≤ p) (hpn : p ≤ n + 1) (m7 : M 7 = nI wv) (pv : PV n (G 6) (G 0)) (hn : n < 144) (hc : cell < 144) (hl : LY n cell F G M N) (hs : SLs n l F G M N) (x1 x2 x3 x4 v : Int32) : ∃ (F' : Nat → Int32) (G' : Nat → Nat → Int32) (M' : Nat → Int32) (N' : Nat → Nat → Int32), f_X3_pickUp_B20 v F G = some (F', G') ∧ (qs N 11 144 (M 8) (0 : Int32) fun G13 => ql (G13 0) 144 (nI cell) fun v14 => qs G13 14 144 (M 8) v14 fun G15 => qs G15 9 144 (M 8) (nI cell) fun G16 => qs G16 10 144 (M 8) (M 18 - (1 : Int32)) fun G17 => qn (0 : Int32) fun v18 => f_X5_picks_L362 x1 x2 x3 x4 1000 M G17 (nI cell) v v18) = some (1, M', N') ∧ KF F G F' G' ∧ KM M N M' N' ∧ WS (n + 1) p wv F' G' M' N' ∧ M' 25 = M 25 + 1 ∧ M' 23 = (if M 25 = 0 then nI n else M 23) ∧ M' 24 = M 24 ∧ M' 26 = M 26 ∧ G' 6 = upd (G 6) cell (nI n) := by
  obtain ⟨a, b, c, d, e, f, g, w⟩ := h
  obtain ⟨l0, ⟨qc0, hq0, l1, l1'⟩, l2, l3⟩ := hl
  obtain ⟨s1, s2, s3, s4⟩ := hs
  have ep : nI p - 1 = nI (p - 1) := by
    rw [show (1 : Int32) = nI 1 from rfl, pk_sub hp1]
  obtain ⟨G3, hG3⟩ : ∃ G3, G3 = qG (qG G 2 n (nI (p - 1))) 6 cell (nI n) := ⟨_, rfl⟩
  obtain ⟨N3, hN3⟩ : ∃ N3, N3 = qG (qG (qG (qG N 11 n 0) 14 n (nI qc0)) 9 n (nI cell)) 10 n (nI (p - 1)) := ⟨_, rfl⟩
  have g3q : ∀ q, q ≠ 2 → q ≠ 6 → G3 q = G q := fun q h2 h6 => by rw [hG3, qG_n _ _ _ h6, qG_n _ _ _ h2]
  have n3q : ∀ q, q ≠ 11 → q ≠ 14 → q ≠ 9 → q ≠ 10 → N3 q = N q := fun q h1 h2 h3 h4 => by rw [hN3, qG_n _ _ _ h4, qG_n _ _ _ h3, qG_n _ _ _ h2, qG_n _ _ _ h1]
  have n311 : N3 11 = upd (N 11) n 0 := by rw [hN3, qG_n _ _ _ (by decide), qG_n _ _ _ (by decide), qG_n _ _ _ (by decide), qG_s]
  obtain ⟨g1, g2, r1, r2, r3, r4⟩ := cin_loop (n := n) (m := l.length) (cell := cell) x1 x2 x3 x4 (nI cell) v (st := fun i => l.getD i 0) hn s3 (F := F) (M := M) s1.1 s2.1 1000 0 G3 N3 (by omega) (by omega) (fun i hi => ⟨by rw [g3q 20 (by decide) (by decide)]; exact s1.2 i hi, by rw [n3q 28 (by decide) (by decide) (by decide) (by decide)]; exact s2.2 i hi, s4 _ (getD_mem hi)⟩) (fun j hj => by
    rw [g3q 3 (by decide) (by decide), n311]
    by_cases z : j = n
    · rw [z, upd_s, l2]
    · rw [upd_n _ _ z]
      exact (w.1 j (by omega)).1.2.2.2)
  have eC : f_X3_pickUp_B20 v F G = some (upd (upd (upd (upd F 17 (F 17 + nI l.length)) 16 (F 16 - v)) 15 (F 15 + v)) 11 (nI (n + 1)), pz g1 3 G3) := by
    unfold f_X3_pickUp_B20 f_X2_countInto
    rw [b.1, c.1, ep, qs_ok hn (by decide), ql_ok hn (by decide), qG_n _ _ _ (by decide), l0, qs_ok hc (by decide), ← hG3, qn_e]
    rw [show nI 0 = (0 : Int32) from rfl] at r1
    rw [r1, qc_s]
    dsimp only
    rw [qf_e, qf_e, qf_e, qf_e, s1.1, upd_n _ _ (show 16 ≠ 17 by decide), upd_n _ _ (show 15 ≠ 16 by decide), upd_n _ _ (show 15 ≠ 17 by decide), upd_n _ _ (show 11 ≠ 15 by decide), upd_n _ _ (show 11 ≠ 16 by decide), upd_n _ _ (show 11 ≠ 17 by decide), b.1, nI_1]
  have eN : (qs N 11 144 (M 8) (0 : Int32) fun G13 => ql (G13 0) 144 (nI cell) fun v14 => qs G13 14 144 (M 8) v14 fun G15 => qs G15 9 144 (M 8) (nI cell) fun G16 => qs G16 10 144 (M 8) (M 18 - (1 : Int32)) fun G17 => qn (0 : Int32) fun v18 => f_X5_picks_L362 x1 x2 x3 x4 1000 M G17 (nI cell) v v18) = f_X5_picks_L362_b (f_X5_picks_L362 x1 x2 x3 x4 0) x1 x2 x3 x4 M (pz g2 11 N3) (nI cell) v (nI l.length) := by
    rw [b.2, c.2, ep, qs_ok hn (by decide), ql_ok hc (by decide), qG_n _ _ _ (by decide), l1', qs_ok hn (by decide), qs_ok hn (by decide), qs_ok hn (by decide), ← hN3, qn_e]
    exact r2
  obtain ⟨Ma, hMa⟩ : ∃ Ma : Nat → Int32, Ma = if M 25 = 0 then upd M 23 (nI n) else M := ⟨_, rfl⟩
  have maq : ∀ q, q ≠ 23 → Ma q = M q := fun q hq => by
    rw [hMa]
    by_cases z : M 25 = 0
    · rw [if_pos z, upd_n _ _ hq]
    · rw [if_neg z]
  have ma23 : Ma 23 = if M 25 = 0 then nI n else M 23 := by
    rw [hMa]
    by_cases z : M 25 = 0
    · rw [if_pos z, if_pos z, upd_s]
    · rw [if_neg z, if_neg z]
  have eM : f_X5_picks_L362_b (f_X5_picks_L362 x1 x2 x3 x4 0) x1 x2 x3 x4 M (pz g2 11 N3) (nI cell) v (nI l.length) = some (1, upd (upd (upd (upd Ma 25 (M 25 + 1)) 8 (nI (n + 1))) 20 (M 20 - v)) 19 (M 19 + v), qG (pz g2 11 N3) 15 cell (nI n)) := by
    unfold f_X5_picks_L362_b
    rw [s2.1, if_pos (nI_le (Nat.le_refl _) (by omega)), b.2, qs_ok hc (by decide)]
    have e419 : ∀ Mx : Nat → Int32, (∀ q, q ≠ 23 → Mx q = M q) → f_X5_picks_B419 x1 x2 x3 x4 Mx (qG (pz g2 11 N3) 15 cell (nI n)) v = some (1, upd (upd (upd (upd Mx 25 (M 25 + 1)) 8 (nI (n + 1))) 20 (M 20 - v)) 19 (M 19 + v), qG (pz g2 11 N3) 15 cell (nI n)) := by
      intro Mx hx
      unfold f_X5_picks_B419
      rw [qf_e, qf_e, qf_e, qf_e, upd_n _ _ (show 8 ≠ 25 by decide), upd_n _ _ (show 20 ≠ 8 by decide), upd_n _ _ (show 20 ≠ 25 by decide), upd_n _ _ (show 19 ≠ 20 by decide), upd_n _ _ (show 19 ≠ 8 by decide), upd_n _ _ (show 19 ≠ 25 by decide), hx 25 (by decide), hx 8 (by decide), hx 20 (by decide), hx 19 (by decide), b.2, nI_1]
    by_cases z : M 25 = 0
    · rw [if_pos z, qf_e, e419 _ (fun q hq => upd_n _ _ hq), hMa, if_pos z]
    · rw [if_neg z, e419 _ (fun q hq => rfl), hMa, if_neg z]
  refine ⟨_, _, _, _, eC, by rw [eN, eM], ⟨fun q hq => ?_, fun q hq => ?_⟩, ⟨fun q hq => ?_, fun q hq => ?_⟩, ⟨⟨⟨by omega, a.2.1, a.2.2⟩, ⟨?_, ?_⟩, ⟨?_, ?_⟩, ?_, ?_, ⟨?_, ?_, ?_, ?_⟩, ?_, ?_⟩, ?_, hpn, by omega, ?_, ?_⟩, ?_, ?_, ?_, ?_, ?_⟩
  · rw [upd_n _ _ (by omega), upd_n _ _ (by omega), upd_n _ _ (by omega), upd_n _ _ (by omega)]
  · rw [pz_n _ _ (by omega), g3q q (by omega) (by omega)]
  · rw [upd_n _ _ (by omega), upd_n _ _ (by omega), upd_n _ _ (by omega), upd_n _ _ (by omega), maq q (by omega)]
  · rw [qG_n _ _ _ (by omega), pz_n _ _ (by omega), n3q q (by omega) (by omega) (by omega) (by omega)]
  · rw [upd_s]
  · rw [upd_n _ _ (by decide), upd_n _ _ (by decide), upd_s]
  · rw [upd_n _ _ (by decide), upd_n _ _ (by decide), upd_n _ _ (by decide), upd_n _ _ (by decide), c.1]
  · rw [upd_n _ _ (by decide), upd_n _ _ (by decide), upd_n _ _ (by decide), upd_n _ _ (by decide), maq 18 (by decide), c.2]
  · rw [upd_n _ _ (by decide), upd_n _ _ (by decide), upd_n _ _ (by decide), upd_n _ _ (by decide), d]
  · rw [upd_n _ _ (by decide), upd_n _ _ (by decide), upd_n _ _ (by decide), upd_n _ _ (by decide), e]
  · rw [upd_n _ _ (by decide), upd_n _ _ (by decide), upd_n _ _ (by decide), upd_n _ _ (by decide), upd_n _ _ (by decide), upd_n _ _ (by decide), upd_n _ _ (by decide), upd_n _ _ (by decide), maq 16 (by decide), f.1]
  · rw [upd_n _ _ (by decide), upd_n _ _ (by decide), upd_n _ _ (by decide), upd_n _ _ (by decide), upd_n _ _ (by decide), upd_n _ _ (by decide), upd_n _ _ (by decide), upd_n _ _ (by decide), maq 17 (by decide), f.2.1]
  · rw [upd_n _ _ (by decide), upd_s, upd_s, f.2.2.1]
  · rw [upd_n _ _ (by decide), upd_n _ _ (by decide), upd_s, upd_n _ _ (by decide), upd_s, f.2.2.2]
  · rw [upd_n _ _ (by decide), upd_n _ _ (by decide), upd_n _ _ (by decide), upd_s, qG_n _ _ _ (by decide), pz_s, r4, n311, g, Nat.sub_zero]
    show smI (N 11) n + nI l.length = smI (upd (N 11) n 0) n + upd (N 11) n 0 n + nI l.length
    rw [upd_s, Int32.add_zero, smI_cong (f := upd (N 11) n 0) (g := N 11) (fun j hj => upd_n _ _ (by omega))]
  · have := WA_add (ypas := g1) (ypas' := g2) w hp1 a.2.1 hc l0 hq0 l1 l3 r3
    have y2 : ∀ q, q ≠ 3 → pz g1 3 G3 q = G3 q := fun q hq => pz_n _ _ hq
    rw [y2 0 (by decide), y2 1 (by decide), y2 2 (by decide), pz_s, y2 4 (by decide), y2 5 (by decide), y2 6 (by decide), y2 7 (by decide), g3q 0 (by decide) (by decide), g3q 1 (by decide) (by decide), g3q 4 (by decide) (by decide), g3q 5 (by decide) (by decide), g3q 7 (by decide) (by decide)]
    have e2 : G3 2 = upd (G 2) n (nI (p - 1)) := by rw [hG3, qG_n _ _ _ (by decide), qG_s]
    have e6 : G3 6 = upd (G 6) cell (nI n) := by rw [hG3, qG_s, qG_n _ _ _ (by decide)]
    have z : ∀ q, q ≠ 15 → q ≠ 11 → qG (pz g2 11 N3) 15 cell (nI n) q = N3 q := fun q h1 h2 => by rw [qG_n _ _ _ h1, pz_n _ _ h2]
    have z11 : qG (pz g2 11 N3) 15 cell (nI n) 11 = g2 := by rw [qG_n _ _ _ (by decide), pz_s]
    have z15 : qG (pz g2 11 N3) 15 cell (nI n) 15 = upd (N 15) cell (nI n) := by rw [qG_s, pz_n _ _ (by decide), n3q 15 (by decide) (by decide) (by decide) (by decide)]
    have z9 : N3 9 = upd (N 9) n (nI cell) := by rw [hN3, qG_n _ _ _ (by decide), qG_s, qG_n _ _ _ (by decide), qG_n _ _ _ (by decide)]
    have z14 : N3 14 = upd (N 14) n (nI qc0) := by rw [hN3, qG_n _ _ _ (by decide), qG_n _ _ _ (by decide), qG_s, qG_n _ _ _ (by decide)]
    have z10 : N3 10 = upd (N 10) n (nI (p - 1)) := by rw [hN3, qG_s, qG_n _ _ _ (by decide), qG_n _ _ _ (by decide), qG_n _ _ _ (by decide)]
    rw [e2, e6, z 9 (by decide) (by decide), z 14 (by decide) (by decide), z 10 (by decide) (by decide), z11, z15, z 12 (by decide) (by decide), z 13 (by decide) (by decide), z 22 (by decide) (by decide), z 21 (by decide) (by decide), z9, z14, z10, n3q 12 (by decide) (by decide) (by decide) (by decide), n3q 13 (by decide) (by decide) (by decide) (by decide), n3q 22 (by decide) (by decide) (by decide) (by decide), n3q 21 (by decide) (by decide) (by decide) (by decide)]
    exact this
  · rw [upd_n _ _ (by decide), upd_n _ _ (by decide), upd_n _ _ (by decide), upd_n _ _ (by decide), h12]
  · rw [upd_n _ _ (by decide), upd_n _ _ (by decide), upd_n _ _ (by decide), upd_n _ _ (by decide), maq 7 (by decide), m7]
  · rw [pz_n _ _ (by decide), pz_n _ _ (by decide), g3q 0 (by decide) (by decide), hG3, qG_s, qG_n _ _ _ (by decide)]
    intro x hx
    by_cases z : x = cell
    · rw [z, upd_s]
      exact Or.inr ⟨n, by omega, rfl, l0⟩
    · rw [upd_n _ _ z]
      rcases pv x hx with h | ⟨j, hj, h1, h2⟩
      · exact Or.inl h
      · exact Or.inr ⟨j, by omega, h1, h2⟩
  · rw [upd_n _ _ (by decide), upd_n _ _ (by decide), upd_n _ _ (by decide), upd_s]
  · rw [upd_n _ _ (by decide), upd_n _ _ (by decide), upd_n _ _ (by decide), upd_n _ _ (by decide), ma23]
  · rw [upd_n _ _ (by decide), upd_n _ _ (by decide), upd_n _ _ (by decide), upd_n _ _ (by decide), maq 24 (by decide)]
  · rw [upd_n _ _ (by decide), upd_n _ _ (by decide), upd_n _ _ (by decide), upd_n _ _ (by decide), maq 26 (by decide)]
  · rw [pz_n _ _ (by decide), hG3, qG_s, qG_n _ _ _ (by decide)]
