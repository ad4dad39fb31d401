theorem hi_X1_isMarked_X1 : ∀ w ∈ u_ws RX1 TX1 1, w ∈ wsX1_isMarked := fun w h => (List.mem_cons_of_mem _ (List.mem_append_right _ h))
set_option maxHeartbeats 4000000 in
set_option maxRecDepth 100000 in
theorem mt_X1_isMarked (l : Launch) (D : va_G) (cI : ClassId) (ad : Nat → Nat) (F : Nat → Int32) (G : Nat → Nat → Int32) (x1 : Int32) (rv : Int32) (h : f_X1_isMarked F G x1 = some rv) : Met l yX1_isMarked wsX1_isMarked ({ frames := 0, cells := 0, slots := 0, locals := 0 } : Room) (va_Pc [.ref (ad 41), .int x1] (mwR D cI ad F G)) (vp_Si (fun z => z = rv)) 0 0 (fun _ => False) := by
  refine Met.ofW (cc := cX1_isMarked) (maxL := 2) (ret := (some .boolean)) (by decide) rfl ?_
  intro p e s m args below meth c s₁ B hml hv
  obtain ⟨rfl, hP, hK, hN⟩ := hv
  have hx := B.exec
  have hb := B.bytes
  have hr := B.returns
  have hts := atoms_spec (ws := wsX1_isMarked) B.pre
  have hown : s.vm.findClass RX1 = some m.cls := findClass_of_methodNamed B.named
  have hlocks := B.notSynchronized
  have hl := lv_entry ([.ref (ad 41), .int x1]) (n := 2) (Nat.le_of_ble_eq_true rfl)
  rw [lg_entry_eq]
  generalize (lg_sl ([.ref (ad 41), .int x1]) ++ List.replicate (2 - (lg_sl ([.ref (ad 41), .int x1])).length) Slot.unset).toArray = ls at hl ⊢
  have hl : lv_has ls 2 [(0, .ref (ad 41)), (1, .int (x1))] := hl
  refine lv_iload_n hx hb dX1_isMarked_0 rfl (lv_at hl 1 rfl) ?_
  refine lv_iconst (v := -1) hx hb dX1_isMarked_1 (by decide) ?_
  refine q_icmp_eq (tgt := 19) hx hb dX1_isMarked_2 (by decide) h (fun h => ?_) (fun h => ?_)
  · refine lv_iconst (v := 0) hx hb dX1_isMarked_19 (by decide) ?_
    exact W.zret hx hb hr rfl (fun t ht hW => ⟨_, rfl, Option.some.inj h, ht⟩) (fun q hq9 => by cases hq9) dX1_isMarked_20
  · refine lv_aload_n hx hb dX1_isMarked_5 rfl (lv_at hl 0 rfl) ?_
    refine va_get hx hb hts hi_X1_isMarked_X1 hown hK hP 0 (mw_o41 cI ad F G) rfl 0 (by decide) (hts _ (List.mem_of_getElem? (i := 1) rfl)) (fun _ h9 => h9) rfl dX1_isMarked_6 ?_
    refine lv_iload_n hx hb dX1_isMarked_9 rfl (lv_at hl 1 rfl) ?_
    refine q_ld hx hb hK hP 1 0 (mw_a40 cI ad F G) rfl dX1_isMarked_10 h (fun v1 h => ?_)
    refine lv_iconst (v := 1) hx hb dX1_isMarked_11 (by decide) ?_
    refine q_icmp_ne (tgt := 19) hx hb dX1_isMarked_12 (by decide) h (fun h => ?_) (fun h => ?_)
    · refine lv_iconst (v := 0) hx hb dX1_isMarked_19 (by decide) ?_
      exact W.zret hx hb hr rfl (fun t ht hW => ⟨_, rfl, Option.some.inj h, ht⟩) (fun q hq9 => by cases hq9) dX1_isMarked_20
    · refine lv_iconst (v := 1) hx hb dX1_isMarked_15 (by decide) ?_
      refine lv_goto (tgt := 20) hx hb dX1_isMarked_16 (by decide) ?_
      exact W.zret hx hb hr rfl (fun t ht hW => ⟨_, rfl, Option.some.inj h, ht⟩) (fun q hq9 => by cases hq9) dX1_isMarked_20
theorem hi_X1_markOnly_X1 : ∀ w ∈ u_ws RX1 TX1 1, w ∈ wsX1_markOnly := fun w h => (List.mem_cons_of_mem _ (List.mem_append_right _ h))
set_option maxHeartbeats 4000000 in
set_option maxRecDepth 100000 in
theorem mt_X1_markOnly (l : Launch) (D : va_G) (cI : ClassId) (ad : Nat → Nat) (F : Nat → Int32) (G : Nat → Nat → Int32) (x1 : Int32) (Fz : Nat → Int32) (Gz : Nat → Nat → Int32) (hDD : va_D (fun _ => True) (mwW cI ad (fun _ => 0) (fun _ _ => 0))) (h : f_X1_markOnly F G x1 = some (Fz, Gz)) : Met l yX1_markOnly wsX1_markOnly ({ frames := 1, cells := 0, slots := 0, locals := 23 } : Room) (va_Pc [.ref (ad 41), .int x1] (mwR D cI ad F G)) (va_Qv (fun (_ : Unit) => True) (fun _ t => va_P D vwCl (mwW cI ad Fz Gz) t.heap) (mwA cI ad)) 0 0 (mwA cI ad) := by
  refine Met.ofW (cc := cX1_markOnly) (maxL := 2) (ret := none) (by decide) rfl ?_
  intro p e s m args below meth c s₁ B hml hv
  obtain ⟨rfl, hP, hK, hN⟩ := hv
  have hx := B.exec
  have hb := B.bytes
  have hr := B.returns
  have hts := atoms_spec (ws := wsX1_markOnly) B.pre
  have hown : s.vm.findClass RX1 = some m.cls := findClass_of_methodNamed B.named
  have hlocks := B.notSynchronized
  have hS : va_S (mwA cI ad) s.heap s.heap [] := va_S.rf
  have hl := lv_entry ([.ref (ad 41), .int x1]) (n := 2) (Nat.le_of_ble_eq_true rfl)
  rw [lg_entry_eq]
  generalize (lg_sl ([.ref (ad 41), .int x1]) ++ List.replicate (2 - (lg_sl ([.ref (ad 41), .int x1])).length) Slot.unset).toArray = ls at hl ⊢
  have hl : lv_has ls 2 [(0, .ref (ad 41)), (1, .int (x1))] := hl
  refine lv_aload_n hx hb dX1_markOnly_0 rfl (lv_at hl 0 rfl) ?_
  refine va_get hx hb hts hi_X1_markOnly_X1 hown hK hP 0 (mw_o41 cI ad F G) rfl 0 (by decide) (hts _ (List.mem_of_getElem? (i := 1) rfl)) (fun _ h9 => h9) rfl dX1_markOnly_1 ?_
  refine lv_iconst (v := 0) hx hb dX1_markOnly_4 (by decide) ?_
  refine q_fl (Wd := fun z => mwW cI ad F z) (va_runS (As := [.ref (ad 40), .int ((0 : Int32))]) (rest := []) ⟨hx, hb, hml, hown, hts⟩ (mt_fill l D cI (0 : Int32) (mw_a40 cI ad F G) (mwW_D hDD F G) (by decide)) (va_cwS 2 hts gX1_markOnly_J7_fill_53178 rfl rfl rfl (by decide +kernel) ⟨Nat.le_of_ble_eq_true rfl, Nat.le_of_ble_eq_true rfl⟩) (fill_p hP hK) rfl rfl hl.1 rfl (lv_room (Nat.le_of_ble_eq_true rfl)) dX1_markOnly_5 ⟨Nat.le_of_ble_eq_true rfl, Nat.le_of_ble_eq_true rfl⟩) (mw_h40 cI ad F G (0 : Int32)) hS h (fun G1 H locs h hP hS => ?_)
  refine lv_aload_n hx hb dX1_markOnly_8 rfl (lv_at hl 0 rfl) ?_
  refine va_get hx hb hts hi_X1_markOnly_X1 hown hK hP 0 (mw_o41 cI ad F G1) rfl 0 (by decide) (hts _ (List.mem_of_getElem? (i := 1) rfl)) (fun _ h9 => h9) rfl dX1_markOnly_9 ?_
  refine lv_iload_n hx hb dX1_markOnly_12 rfl (lv_at hl 1 rfl) ?_
  refine lv_iconst (v := 1) hx hb dX1_markOnly_13 (by decide) ?_
  refine q_st hx hb hK hP (mwW_D hDD _ _) hS 1 0 40 (fun z => mwW cI ad F z) (mw_a40 cI ad F G1) rfl (mw_g40 cI ad F G1 _) dX1_markOnly_14 h (fun G2 H locs h hP hS => ?_)
  have e2 := congrArg Prod.fst (Option.some.inj h)
  have e3 := congrArg Prod.snd (Option.some.inj h)
  dsimp only at e2 e3
  exact W.vret hx hb hr (fun t ht hW => ⟨⟨(), rfl, trivial, by show va_P D vwCl _ t.heap; rw [ht, ← e2, ← e3]; exact hP⟩, hS.F ht⟩) hS.2.2 dX1_markOnly_15
theorem hi_X1_isCaughtOnMarked_X3 : ∀ w ∈ u_ws RX3 TX3 19, w ∈ wsX1_isCaughtOnMarked := fun w h => (List.mem_cons_of_mem _ (List.mem_append_left _ (List.mem_append_right _ h)))
set_option maxHeartbeats 4000000 in
set_option maxRecDepth 100000 in
theorem mt_X1_isCaughtOnMarked (l : Launch) (D : va_G) (cI : ClassId) (ad : Nat → Nat) (F : Nat → Int32) (G : Nat → Nat → Int32) (x2 : Int32) (rv : Int32) (h : f_X1_isCaughtOnMarked F G x2 = some rv) : Met l yX1_isCaughtOnMarked wsX1_isCaughtOnMarked ({ frames := 1, cells := 0, slots := 0, locals := 21 } : Room) (va_Pc [.ref (ad 41), .ref (ad 22), .int x2] (mwR D cI ad F G)) (vp_Si (fun z => z = rv)) 0 0 (fun _ => False) := by
  refine Met.ofW (cc := cX1_isCaughtOnMarked) (maxL := 3) (ret := (some .boolean)) (by decide) rfl ?_
  intro p e s m args below meth c s₁ B hml hv
  obtain ⟨rfl, hP, hK, hN⟩ := hv
  have hx := B.exec
  have hb := B.bytes
  have hr := B.returns
  have hts := atoms_spec (ws := wsX1_isCaughtOnMarked) B.pre
  have hown : s.vm.findClass RX1 = some m.cls := findClass_of_methodNamed B.named
  have hlocks := B.notSynchronized
  have hl := lv_entry ([.ref (ad 41), .ref (ad 22), .int x2]) (n := 3) (Nat.le_of_ble_eq_true rfl)
  rw [lg_entry_eq]
  generalize (lg_sl ([.ref (ad 41), .ref (ad 22), .int x2]) ++ List.replicate (3 - (lg_sl ([.ref (ad 41), .ref (ad 22), .int x2])).length) Slot.unset).toArray = ls at hl ⊢
  have hl : lv_has ls 3 [(0, .ref (ad 41)), (1, .ref (ad 22)), (2, .int (x2))] := hl
  have j26 : ∀ ls : Array Slot, lv_has ls 3 [] → f_X1_isCaughtOnMarked_B26 F G x2 = some rv → W p l e (headSpec wsX1_isCaughtOnMarked ({ frames := 1, cells := 0, slots := 0, locals := 21 } : Room)).room s m (List.toArray ([.ref (ad 41), .ref (ad 22), .int x2] : List Value)) below meth c s.heap [] 0 0 (MQ below (vp_Si (fun z => z = rv)) (List.toArray ([.ref (ad 41), .ref (ad 22), .int x2] : List Value)) s 0 0 (fun _ => False)) (F0 m 26 ls []) := by
    intro ls hl h
    refine lv_iconst (v := 1) hx hb dX1_isCaughtOnMarked_26 (by decide) ?_
    refine lv_goto (tgt := 31) hx hb dX1_isCaughtOnMarked_27 (by decide) ?_
    exact W.zret hx hb hr rfl (fun t ht hW => ⟨_, rfl, Option.some.inj h, ht⟩) (fun q hq9 => by cases hq9) dX1_isCaughtOnMarked_31
  refine lv_aload_n hx hb dX1_isCaughtOnMarked_0 rfl (lv_at hl 0 rfl) ?_
  refine lv_aload_n hx hb dX1_isCaughtOnMarked_1 rfl (lv_at hl 1 rfl) ?_
  refine va_get hx hb hts hi_X1_isCaughtOnMarked_X3 hown hK hP 2 (mw_o22 cI ad F G) rfl 4 (by decide) (hts _ (List.mem_of_getElem? (i := 1) rfl)) (fun _ h9 => h9) rfl dX1_isCaughtOnMarked_2 ?_
  refine lv_iload_n hx hb dX1_isCaughtOnMarked_5 rfl (lv_at hl 2 rfl) ?_
  refine q_ld hx hb hK hP 7 0 (mw_a4 cI ad F G) rfl dX1_isCaughtOnMarked_6 h (fun v1 h => ?_)
  obtain ⟨v2, hc3, h⟩ := q_some h
  refine q_cs (W.runV (C := RX1) (As := [.int (v1)]) (rest := []) ⟨hx, hb, hml, hown, hts⟩ (mt_X1_isMarked l D cI ad F G v1 v2 hc3) (cwV 1 hts gX1_isCaughtOnMarked_X1_isMarked rfl rfl rfl (by decide +kernel) ⟨Nat.le_of_ble_eq_true rfl, Nat.le_of_ble_eq_true rfl⟩) ⟨mwR_b, va_recv hK hP (ci := 1) (q0 := 0) rfl rfl, (mwR_p hP hK hN).2⟩ rfl rfl hl.1 rfl (lv_room (Nat.le_of_ble_eq_true rfl)) dX1_isCaughtOnMarked_7 ⟨Nat.le_of_ble_eq_true rfl, Nat.le_of_ble_eq_true rfl⟩) ?_
  refine q_if_ne (tgt := 26) hx hb dX1_isCaughtOnMarked_10 (by decide) h (fun h => ?_) (fun h => ?_)
  · exact j26 _ (lv_sub hl [] rfl) h
  · refine lv_aload_n hx hb dX1_isCaughtOnMarked_13 rfl (lv_at hl 0 rfl) ?_
    refine lv_aload_n hx hb dX1_isCaughtOnMarked_14 rfl (lv_at hl 1 rfl) ?_
    refine va_get hx hb hts hi_X1_isCaughtOnMarked_X3 hown hK hP 2 (mw_o22 cI ad F G) rfl 5 (by decide) (hts _ (List.mem_of_getElem? (i := 2) rfl)) (fun _ h9 => h9) rfl dX1_isCaughtOnMarked_15 ?_
    refine lv_iload_n hx hb dX1_isCaughtOnMarked_18 rfl (lv_at hl 2 rfl) ?_
    refine q_ld hx hb hK hP 8 0 (mw_a5 cI ad F G) rfl dX1_isCaughtOnMarked_19 h (fun v4 h => ?_)
    obtain ⟨v5, hc6, h⟩ := q_some h
    refine q_cs (W.runV (C := RX1) (As := [.int (v4)]) (rest := []) ⟨hx, hb, hml, hown, hts⟩ (mt_X1_isMarked l D cI ad F G v4 v5 hc6) (cwV 1 hts gX1_isCaughtOnMarked_X1_isMarked rfl rfl rfl (by decide +kernel) ⟨Nat.le_of_ble_eq_true rfl, Nat.le_of_ble_eq_true rfl⟩) ⟨mwR_b, va_recv hK hP (ci := 1) (q0 := 0) rfl rfl, (mwR_p hP hK hN).2⟩ rfl rfl hl.1 rfl (lv_room (Nat.le_of_ble_eq_true rfl)) dX1_isCaughtOnMarked_20 ⟨Nat.le_of_ble_eq_true rfl, Nat.le_of_ble_eq_true rfl⟩) ?_
    refine q_if_eq (tgt := 30) hx hb dX1_isCaughtOnMarked_23 (by decide) h (fun h => ?_) (fun h => ?_)
    · refine lv_iconst (v := 0) hx hb dX1_isCaughtOnMarked_30 (by decide) ?_
      exact W.zret hx hb hr rfl (fun t ht hW => ⟨_, rfl, Option.some.inj h, ht⟩) (fun q hq9 => by cases hq9) dX1_isCaughtOnMarked_31
    · exact j26 _ (lv_sub hl [] rfl) h
theorem hi_X1_isBehindMarked_X3 : ∀ w ∈ u_ws RX3 TX3 19, w ∈ wsX1_isBehindMarked := fun w h => (List.mem_cons_of_mem _ (List.mem_append_left _ (List.mem_append_right _ h)))
set_option maxHeartbeats 4000000 in
set_option maxRecDepth 100000 in
theorem mt_X1_isBehindMarked (l : Launch) (D : va_G) (cI : ClassId) (ad : Nat → Nat) (F : Nat → Int32) (G : Nat → Nat → Int32) (x2 : Int32) (rv : Int32) (h : f_X1_isBehindMarked F G x2 = some rv) : Met l yX1_isBehindMarked wsX1_isBehindMarked ({ frames := 1, cells := 0, slots := 0, locals := 21 } : Room) (va_Pc [.ref (ad 41), .ref (ad 22), .int x2] (mwR D cI ad F G)) (vp_Si (fun z => z = rv)) 0 0 (fun _ => False) := by
  refine Met.ofW (cc := cX1_isBehindMarked) (maxL := 3) (ret := (some .boolean)) (by decide) rfl ?_
  intro p e s m args below meth c s₁ B hml hv
  obtain ⟨rfl, hP, hK, hN⟩ := hv
  have hx := B.exec
  have hb := B.bytes
  have hr := B.returns
  have hts := atoms_spec (ws := wsX1_isBehindMarked) B.pre
  have hown : s.vm.findClass RX1 = some m.cls := findClass_of_methodNamed B.named
  have hlocks := B.notSynchronized
  have hl := lv_entry ([.ref (ad 41), .ref (ad 22), .int x2]) (n := 3) (Nat.le_of_ble_eq_true rfl)
  rw [lg_entry_eq]
  generalize (lg_sl ([.ref (ad 41), .ref (ad 22), .int x2]) ++ List.replicate (3 - (lg_sl ([.ref (ad 41), .ref (ad 22), .int x2])).length) Slot.unset).toArray = ls at hl ⊢
  have hl : lv_has ls 3 [(0, .ref (ad 41)), (1, .ref (ad 22)), (2, .int (x2))] := hl
  refine lv_aload_n hx hb dX1_isBehindMarked_0 rfl (lv_at hl 1 rfl) ?_
  refine va_get hx hb hts hi_X1_isBehindMarked_X3 hown hK hP 2 (mw_o22 cI ad F G) rfl 2 (by decide) (hts _ (List.mem_of_getElem? (i := 1) rfl)) (fun _ h9 => h9) rfl dX1_isBehindMarked_1 ?_
  refine lv_iload_n hx hb dX1_isBehindMarked_4 rfl (lv_at hl 2 rfl) ?_
  refine lv_iconst (v := 1) hx hb dX1_isBehindMarked_5 (by decide) ?_
  refine lv_isub hx hb dX1_isBehindMarked_6 ?_
  refine q_ld hx hb hK hP 5 0 (mw_a2 cI ad F G) rfl dX1_isBehindMarked_7 h (fun v1 h => ?_)
  refine lv_aload_n hx hb dX1_isBehindMarked_8 rfl (lv_at hl 1 rfl) ?_
  refine va_get hx hb hts hi_X1_isBehindMarked_X3 hown hK hP 2 (mw_o22 cI ad F G) rfl 2 (by decide) (hts _ (List.mem_of_getElem? (i := 1) rfl)) (fun _ h9 => h9) rfl dX1_isBehindMarked_9 ?_
  refine lv_iload_n hx hb dX1_isBehindMarked_12 rfl (lv_at hl 2 rfl) ?_
  refine q_ld hx hb hK hP 5 0 (mw_a2 cI ad F G) rfl dX1_isBehindMarked_13 h (fun v2 h => ?_)
  refine q_icmp_ne (tgt := 31) hx hb dX1_isBehindMarked_14 (by decide) h (fun h => ?_) (fun h => ?_)
  · refine lv_iconst (v := 0) hx hb dX1_isBehindMarked_31 (by decide) ?_
    exact W.zret hx hb hr rfl (fun t ht hW => ⟨_, rfl, Option.some.inj h, ht⟩) (fun q hq9 => by cases hq9) dX1_isBehindMarked_32
  · refine lv_aload_n hx hb dX1_isBehindMarked_17 rfl (lv_at hl 0 rfl) ?_
    refine lv_iload_n hx hb dX1_isBehindMarked_18 rfl (lv_at hl 2 rfl) ?_
    refine lv_iconst (v := 1) hx hb dX1_isBehindMarked_19 (by decide) ?_
    refine lv_isub hx hb dX1_isBehindMarked_20 ?_
    obtain ⟨v3, hc4, h⟩ := q_some h
    refine q_cs (W.runV (C := RX1) (As := [.int ((x2 - (1 : Int32)))]) (rest := []) ⟨hx, hb, hml, hown, hts⟩ (mt_X1_isMarked l D cI ad F G ((x2 - (1 : Int32))) v3 hc4) (cwV 1 hts gX1_isBehindMarked_X1_isMarked rfl rfl rfl (by decide +kernel) ⟨Nat.le_of_ble_eq_true rfl, Nat.le_of_ble_eq_true rfl⟩) ⟨mwR_b, va_recv hK hP (ci := 1) (q0 := 0) rfl rfl, (mwR_p hP hK hN).2⟩ rfl rfl hl.1 rfl (lv_room (Nat.le_of_ble_eq_true rfl)) dX1_isBehindMarked_21 ⟨Nat.le_of_ble_eq_true rfl, Nat.le_of_ble_eq_true rfl⟩) ?_
    refine q_if_eq (tgt := 31) hx hb dX1_isBehindMarked_24 (by decide) h (fun h => ?_) (fun h => ?_)
    · refine lv_iconst (v := 0) hx hb dX1_isBehindMarked_31 (by decide) ?_
      exact W.zret hx hb hr rfl (fun t ht hW => ⟨_, rfl, Option.some.inj h, ht⟩) (fun q hq9 => by cases hq9) dX1_isBehindMarked_32
    · refine lv_iconst (v := 1) hx hb dX1_isBehindMarked_27 (by decide) ?_
      refine lv_goto (tgt := 32) hx hb dX1_isBehindMarked_28 (by decide) ?_
      exact W.zret hx hb hr rfl (fun t ht hW => ⟨_, rfl, Option.some.inj h, ht⟩) (fun q hq9 => by cases hq9) dX1_isBehindMarked_32
theorem hi_X1_isWovenInMarked_X3 : ∀ w ∈ u_ws RX3 TX3 19, w ∈ wsX1_isWovenInMarked := fun w h => (List.mem_cons_of_mem _ (List.mem_append_left _ (List.mem_append_right _ h)))
set_option maxHeartbeats 4000000 in
set_option maxRecDepth 100000 in
theorem mt_X1_isWovenInMarked (l : Launch) (D : va_G) (cI : ClassId) (ad : Nat → Nat) (F : Nat → Int32) (G : Nat → Nat → Int32) (x2 : Int32) (rv : Int32) (h : f_X1_isWovenInMarked F G x2 = some rv) : Met l yX1_isWovenInMarked wsX1_isWovenInMarked ({ frames := 1, cells := 0, slots := 0, locals := 22 } : Room) (va_Pc [.ref (ad 41), .ref (ad 22), .int x2] (mwR D cI ad F G)) (vp_Si (fun z => z = rv)) 0 0 (fun _ => False) := by
  refine Met.ofW (cc := cX1_isWovenInMarked) (maxL := 4) (ret := (some .boolean)) (by decide) rfl ?_
  intro p e s m args below meth c s₁ B hml hv
  obtain ⟨rfl, hP, hK, hN⟩ := hv
  have hx := B.exec
  have hb := B.bytes
  have hr := B.returns
  have hts := atoms_spec (ws := wsX1_isWovenInMarked) B.pre
  have hown : s.vm.findClass RX1 = some m.cls := findClass_of_methodNamed B.named
  have hlocks := B.notSynchronized
  have hl := lv_entry ([.ref (ad 41), .ref (ad 22), .int x2]) (n := 4) (Nat.le_of_ble_eq_true rfl)
  rw [lg_entry_eq]
  generalize (lg_sl ([.ref (ad 41), .ref (ad 22), .int x2]) ++ List.replicate (4 - (lg_sl ([.ref (ad 41), .ref (ad 22), .int x2])).length) Slot.unset).toArray = ls at hl ⊢
  have hl : lv_has ls 4 [(0, .ref (ad 41)), (1, .ref (ad 22)), (2, .int (x2))] := hl
  have j2 : ∀ n2 : Nat, ∀ (x3 : Int32) , ∀ ls : Array Slot, lv_has ls 4 [(0, .ref (ad 41)), (1, .ref (ad 22)), (2, .int (x2)), (3, .int (x3))] → f_X1_isWovenInMarked_L2 F G x2 n2 x3 = some rv → W p l e (headSpec wsX1_isWovenInMarked ({ frames := 1, cells := 0, slots := 0, locals := 22 } : Room)).room s m (List.toArray ([.ref (ad 41), .ref (ad 22), .int x2] : List Value)) below meth c s.heap [] 0 0 (MQ below (vp_Si (fun z => z = rv)) (List.toArray ([.ref (ad 41), .ref (ad 22), .int x2] : List Value)) s 0 0 (fun _ => False)) (F0 m 2 ls []) := by
    intro n2
    induction n2 with
    | zero =>
      intro x3 ls hl h
      cases h
    | succ n2 ih2 =>
      intro x3 ls hl h
      replace h : f_X1_isWovenInMarked_L2_b (f_X1_isWovenInMarked_L2 F G x2 n2) F G x2 x3 = some rv := h
      refine lv_iload_n hx hb dX1_isWovenInMarked_2 rfl (lv_at hl 3 rfl) ?_
      refine lv_aload_n hx hb dX1_isWovenInMarked_3 rfl (lv_at hl 1 rfl) ?_
      refine va_get hx hb hts hi_X1_isWovenInMarked_X3 hown hK hP 2 (mw_o22 cI ad F G) rfl 18 (by decide) (hts _ (List.mem_of_getElem? (i := 1) rfl)) (fun _ h9 => h9) rfl dX1_isWovenInMarked_4 ?_
      refine q_icmp_ge (tgt := 36) hx hb dX1_isWovenInMarked_7 (by decide) h (fun h => ?_) (fun h => ?_)
      · refine lv_iconst (v := 0) hx hb dX1_isWovenInMarked_36 (by decide) ?_
        exact W.zret hx hb hr rfl (fun t ht hW => ⟨_, rfl, Option.some.inj h, ht⟩) (fun q hq9 => by cases hq9) dX1_isWovenInMarked_37
      · refine lv_aload_n hx hb dX1_isWovenInMarked_10 rfl (lv_at hl 0 rfl) ?_
        refine lv_aload_n hx hb dX1_isWovenInMarked_11 rfl (lv_at hl 1 rfl) ?_
        refine lv_aload_n hx hb dX1_isWovenInMarked_12 rfl (lv_at hl 1 rfl) ?_
        refine va_get hx hb hts hi_X1_isWovenInMarked_X3 hown hK hP 2 (mw_o22 cI ad F G) rfl 2 (by decide) (hts _ (List.mem_of_getElem? (i := 2) rfl)) (fun _ h9 => h9) rfl dX1_isWovenInMarked_13 ?_
        refine lv_iload_n hx hb dX1_isWovenInMarked_16 rfl (lv_at hl 2 rfl) ?_
        refine q_ld hx hb hK hP 5 0 (mw_a2 cI ad F G) rfl dX1_isWovenInMarked_17 h (fun v1 h => ?_)
        refine lv_iload_n hx hb dX1_isWovenInMarked_18 rfl (lv_at hl 3 rfl) ?_
        obtain ⟨v2, hc3, h⟩ := q_some h
        refine q_cs (W.runV (C := RX3) (As := [.int (v1), .int (x3)]) (rest := [.ref (ad 41)]) ⟨hx, hb, hml, hown, hts⟩ (mt_X3_wovenIn l D cI ad F G v1 x3 v2 hc3) (cwV 2 hts gX1_isWovenInMarked_X3_wovenIn rfl rfl rfl (by decide +kernel) ⟨Nat.le_of_ble_eq_true rfl, Nat.le_of_ble_eq_true rfl⟩) ⟨wyR_b, va_recv hK hP (ci := 3) (q0 := 2) rfl rfl, (wyR_p (mw_wy hP) hK hN).2⟩ rfl rfl hl.1 rfl (lv_room (Nat.le_of_ble_eq_true rfl)) dX1_isWovenInMarked_19 ⟨Nat.le_of_ble_eq_true rfl, Nat.le_of_ble_eq_true rfl⟩) ?_
        obtain ⟨v4, hc5, h⟩ := q_some h
        refine q_cs (W.runV (C := RX1) (As := [.int (v2)]) (rest := []) ⟨hx, hb, hml, hown, hts⟩ (mt_X1_isMarked l D cI ad F G v2 v4 hc5) (cwV 1 hts gX1_isWovenInMarked_X1_isMarked rfl rfl rfl (by decide +kernel) ⟨Nat.le_of_ble_eq_true rfl, Nat.le_of_ble_eq_true rfl⟩) ⟨mwR_b, va_recv hK hP (ci := 1) (q0 := 0) rfl rfl, (mwR_p hP hK hN).2⟩ rfl rfl hl.1 rfl (lv_room (Nat.le_of_ble_eq_true rfl)) dX1_isWovenInMarked_22 ⟨Nat.le_of_ble_eq_true rfl, Nat.le_of_ble_eq_true rfl⟩) ?_
        refine q_if_eq (tgt := 30) hx hb dX1_isWovenInMarked_25 (by decide) h (fun h => ?_) (fun h => ?_)
        · refine q_iinc (j := 3) (d := (1 : Int32)) (lv2 := fun v6 => [(3, .int (v6)), (0, .ref (ad 41)), (1, .ref (ad 22)), (2, .int (x2))]) hx hb dX1_isWovenInMarked_30 hl rfl (by decide) (by decide) (fun _ => rfl) h (fun v6 ls hl h => ?_)
          refine lv_goto (tgt := 2) hx hb dX1_isWovenInMarked_33 (by decide) ?_
          exact ih2 v6 _ (lv_sub hl [1, 2, 3, 0] rfl) h
        · refine lv_iconst (v := 1) hx hb dX1_isWovenInMarked_28 (by decide) ?_
          exact W.zret hx hb hr rfl (fun t ht hW => ⟨_, rfl, Option.some.inj h, ht⟩) (fun q hq9 => by cases hq9) dX1_isWovenInMarked_29
  refine lv_iconst (v := 0) hx hb dX1_isWovenInMarked_0 (by decide) ?_
  refine q_nm h (fun v7 h => ?_)
  refine lv_istore_n (lv' := [(3, .int (v7)), (0, .ref (ad 41)), (1, .ref (ad 22)), (2, .int (x2))]) hx hb dX1_isWovenInMarked_1 rfl hl (by decide) rfl (fun ls hl => ?_)
  exact j2 1000 v7 _ (lv_sub hl [1, 2, 3, 0] rfl) h
theorem hi_X1_markHanging_X1 : ∀ w ∈ u_ws RX1 TX1 1, w ∈ wsX1_markHanging := fun w h => (List.mem_cons_of_mem _ (List.mem_append_right _ h))
theorem hi_X1_markHanging_X3 : ∀ w ∈ u_ws RX3 TX3 19, w ∈ wsX1_markHanging := fun w h => (List.mem_cons_of_mem _ (List.mem_append_left _ (List.mem_append_right _ h)))
set_option maxHeartbeats 4000000 in
set_option maxRecDepth 100000 in
theorem mt_X1_markHanging (l : Launch) (D : va_G) (cI : ClassId) (ad : Nat → Nat) (F : Nat → Int32) (G : Nat → Nat → Int32) (x2 : Int32) (rv : Int32) (Fz : Nat → Int32) (Gz : Nat → Nat → Int32) (hDD : va_D (fun _ => True) (mwW cI ad (fun _ => 0) (fun _ _ => 0))) (h : f_X1_markHanging F G x2 = some (rv, Fz, Gz)) : Met l yX1_markHanging wsX1_markHanging ({ frames := 2, cells := 0, slots := 0, locals := 44 } : Room) (va_Pc [.ref (ad 41), .ref (ad 22), .int x2] (mwR D cI ad F G)) (va_Qi (fun z (_ : Unit) => z = rv) (fun _ t => va_P D vwCl (mwW cI ad Fz Gz) t.heap) (mwA cI ad)) 0 0 (mwA cI ad) := by
  refine Met.ofW (cc := cX1_markHanging) (maxL := 5) (ret := (some .int)) (by decide) rfl ?_
  intro p e s m args below meth c s₁ B hml hv
  obtain ⟨rfl, hP, hK, hN⟩ := hv
  have hx := B.exec
  have hb := B.bytes
  have hr := B.returns
  have hts := atoms_spec (ws := wsX1_markHanging) B.pre
  have hown : s.vm.findClass RX1 = some m.cls := findClass_of_methodNamed B.named
  have hlocks := B.notSynchronized
  have hS : va_S (mwA cI ad) s.heap s.heap [] := va_S.rf
  have hl := lv_entry ([.ref (ad 41), .ref (ad 22), .int x2]) (n := 5) (Nat.le_of_ble_eq_true rfl)
  rw [lg_entry_eq]
  generalize (lg_sl ([.ref (ad 41), .ref (ad 22), .int x2]) ++ List.replicate (5 - (lg_sl ([.ref (ad 41), .ref (ad 22), .int x2])).length) Slot.unset).toArray = ls at hl ⊢
  have hl : lv_has ls 5 [(0, .ref (ad 41)), (1, .ref (ad 22)), (2, .int (x2))] := hl
  have j12 : ∀ n12 : Nat, ∀ (F : Nat → Int32) (G : Nat → Nat → Int32) (x3 : Int32) (x4 : Int32) (H : Heap) (locs : List Loc) , va_P D vwCl (mwW cI ad F G) H → va_S (mwA cI ad) s.heap H locs → ∀ ls : Array Slot, lv_has ls 5 [(0, .ref (ad 41)), (1, .ref (ad 22)), (3, .int (x3)), (4, .int (x4))] → f_X1_markHanging_L12 x2 n12 F G x3 x4 = some (rv, Fz, Gz) → W p l e (headSpec wsX1_markHanging ({ frames := 2, cells := 0, slots := 0, locals := 44 } : Room)).room s m (List.toArray ([.ref (ad 41), .ref (ad 22), .int x2] : List Value)) below meth c H locs 0 0 (MQ below (va_Qi (fun z (_ : Unit) => z = rv) (fun _ t => va_P D vwCl (mwW cI ad Fz Gz) t.heap) (mwA cI ad)) (List.toArray ([.ref (ad 41), .ref (ad 22), .int x2] : List Value)) s 0 0 (mwA cI ad)) (F0 m 12 ls []) := by
    intro n12
    induction n12 with
    | zero =>
      intro F G x3 x4 H locs hP hS ls hl h
      cases h
    | succ n12 ih12 =>
      have j42 : ∀ (F : Nat → Int32) (G : Nat → Nat → Int32) (x3 : Int32) (x4 : Int32) (H : Heap) (locs : List Loc) , va_P D vwCl (mwW cI ad F G) H → va_S (mwA cI ad) s.heap H locs → ∀ ls : Array Slot, lv_has ls 5 [(0, .ref (ad 41)), (1, .ref (ad 22)), (3, .int (x3)), (4, .int (x4))] → f_X1_markHanging_B42 (f_X1_markHanging_L12 x2 n12) x2 F G x3 x4 = some (rv, Fz, Gz) → W p l e (headSpec wsX1_markHanging ({ frames := 2, cells := 0, slots := 0, locals := 44 } : Room)).room s m (List.toArray ([.ref (ad 41), .ref (ad 22), .int x2] : List Value)) below meth c H locs 0 0 (MQ below (va_Qi (fun z (_ : Unit) => z = rv) (fun _ t => va_P D vwCl (mwW cI ad Fz Gz) t.heap) (mwA cI ad)) (List.toArray ([.ref (ad 41), .ref (ad 22), .int x2] : List Value)) s 0 0 (mwA cI ad)) (F0 m 42 ls []) := by
        intro F G x3 x4 H locs hP hS ls hl h
        refine q_iinc (j := 3) (d := (1 : Int32)) (lv2 := fun v1 => [(4, .int (v1)), (0, .ref (ad 41)), (1, .ref (ad 22)), (3, .int (x3))]) hx hb dX1_markHanging_42 hl rfl (by decide) (by decide) (fun _ => rfl) h (fun v1 ls hl h => ?_)
        refine lv_goto (tgt := 12) hx hb dX1_markHanging_45 (by decide) ?_
        exact ih12 F G x3 v1 _ _ hP hS _ (lv_sub hl [1, 2, 3, 0] rfl) h
      intro F G x3 x4 H locs hP hS ls hl h
      replace h : f_X1_markHanging_L12_b (f_X1_markHanging_L12 x2 n12) x2 F G x3 x4 = some (rv, Fz, Gz) := h
      refine lv_iload hx hb dX1_markHanging_12 (lv_at hl 3 rfl) ?_
      refine lv_aload_n hx hb dX1_markHanging_14 rfl (lv_at hl 1 rfl) ?_
      refine va_get hx hb hts hi_X1_markHanging_X3 hown hK hP 2 (mw_o22 cI ad F G) rfl 11 (by decide) (hts _ (List.mem_of_getElem? (i := 1) rfl)) (fun _ h9 => h9) rfl dX1_markHanging_15 ?_
      refine q_icmp_ge (tgt := 48) hx hb dX1_markHanging_18 (by decide) h (fun h => ?_) (fun h => ?_)
      · refine lv_iload_n hx hb dX1_markHanging_48 rfl (lv_at hl 2 rfl) ?_
        have e1 := congrArg Prod.fst (Option.some.inj h)
        have e2 := congrArg (fun z => z.2.1) (Option.some.inj h)
        have e3 := congrArg (fun z => z.2.2) (Option.some.inj h)
        dsimp only at e1 e2 e3
        exact W.iret hx hb hr (fun t ht hW => ⟨⟨_, (), rfl, e1, by show va_P D vwCl _ t.heap; rw [ht, ← e2, ← e3]; exact hP⟩, hS.F ht⟩) hS.2.2 dX1_markHanging_49
      · refine lv_aload_n hx hb dX1_markHanging_21 rfl (lv_at hl 0 rfl) ?_
        refine lv_aload_n hx hb dX1_markHanging_22 rfl (lv_at hl 1 rfl) ?_
        refine lv_iload hx hb dX1_markHanging_23 (lv_at hl 3 rfl) ?_
        obtain ⟨v2, hc3, h⟩ := q_some h
        refine q_cs (W.runV (C := RX1) (As := [.ref (ad 22), .int (x4)]) (rest := []) ⟨hx, hb, hml, hown, hts⟩ (mt_X1_isCaughtOnMarked l D cI ad F G x4 v2 hc3) (cwV 2 hts gX1_markHanging_X1_isCaughtOnMarked rfl rfl rfl (by decide +kernel) ⟨Nat.le_of_ble_eq_true rfl, Nat.le_of_ble_eq_true rfl⟩) ⟨mwR_b, va_recv hK hP (ci := 1) (q0 := 0) rfl rfl, (mwR_p hP hK hN).2⟩ rfl rfl hl.1 rfl (lv_room (Nat.le_of_ble_eq_true rfl)) dX1_markHanging_25 ⟨Nat.le_of_ble_eq_true rfl, Nat.le_of_ble_eq_true rfl⟩) ?_
        refine q_if_eq (tgt := 42) hx hb dX1_markHanging_28 (by decide) h (fun h => ?_) (fun h => ?_)
        · exact j42 F G x3 x4 _ _ hP hS _ (lv_sub hl [0, 1, 2, 3] rfl) h
        · refine lv_aload_n hx hb dX1_markHanging_31 rfl (lv_at hl 0 rfl) ?_
          refine va_get hx hb hts hi_X1_markHanging_X1 hown hK hP 0 (mw_o41 cI ad F G) rfl 0 (by decide) (hts _ (List.mem_of_getElem? (i := 2) rfl)) (fun _ h9 => h9) rfl dX1_markHanging_32 ?_
          refine lv_iload hx hb dX1_markHanging_35 (lv_at hl 3 rfl) ?_
          refine lv_iconst (v := 1) hx hb dX1_markHanging_37 (by decide) ?_
          refine q_st hx hb hK hP (mwW_D hDD _ _) hS 1 0 40 (fun z => mwW cI ad F z) (mw_a40 cI ad F G) rfl (mw_g40 cI ad F G _) dX1_markHanging_38 h (fun G4 H locs h hP hS => ?_)
          refine q_iinc (j := 2) (d := (1 : Int32)) (lv2 := fun v5 => [(3, .int (v5)), (0, .ref (ad 41)), (1, .ref (ad 22)), (4, .int (x4))]) hx hb dX1_markHanging_39 hl rfl (by decide) (by decide) (fun _ => rfl) h (fun v5 ls hl h => ?_)
          exact j42 F G4 v5 x4 _ _ hP hS _ (lv_sub hl [1, 2, 0, 3] rfl) h
  refine lv_iconst (v := 0) hx hb dX1_markHanging_0 (by decide) ?_
  refine q_nm h (fun v6 h => ?_)
  refine lv_istore_n (lv' := [(3, .int (v6)), (0, .ref (ad 41)), (1, .ref (ad 22)), (2, .int (x2))]) hx hb dX1_markHanging_1 rfl hl (by decide) rfl (fun ls hl => ?_)
  refine lv_aload_n hx hb dX1_markHanging_2 rfl (lv_at hl 1 rfl) ?_
  refine lv_iload_n hx hb dX1_markHanging_3 rfl (lv_at hl 3 rfl) ?_
  obtain ⟨⟨F8, G9⟩, hc10, h⟩ := q_some h
  refine q_cv (va_runV (C := RX1) (As := [.int (x2)]) (rest := []) ⟨hx, hb, hml, hown, hts⟩ (mt_X1_markOnly l D cI ad F G x2 F8 G9 hDD hc10) (cwV 1 hts gX1_markHanging_X1_markOnly rfl rfl rfl (by decide +kernel) ⟨Nat.le_of_ble_eq_true rfl, Nat.le_of_ble_eq_true rfl⟩) ⟨mwR_b, va_recv hK hP (ci := 1) (q0 := 0) rfl rfl, (mwR_p hP hK hN).2⟩ rfl rfl hl.1 rfl (lv_room (Nat.le_of_ble_eq_true rfl)) dX1_markHanging_4 ⟨Nat.le_of_ble_eq_true rfl, Nat.le_of_ble_eq_true rfl⟩) hS (fun H locs hP hS => ?_)
  refine lv_iload_n hx hb dX1_markHanging_7 rfl (lv_at hl 3 rfl) ?_
  refine lv_iconst (v := 1) hx hb dX1_markHanging_8 (by decide) ?_
  refine lv_iadd hx hb dX1_markHanging_9 ?_
  refine q_nm h (fun v11 h => ?_)
  refine lv_istore (lv' := [(4, .int (v11)), (3, .int (v6)), (0, .ref (ad 41)), (1, .ref (ad 22)), (2, .int (x2))]) hx hb dX1_markHanging_10 hl (by decide) rfl (fun ls hl => ?_)
  exact j12 1000 F8 G9 v6 v11 _ _ hP hS _ (lv_sub hl [2, 3, 1, 0] rfl) h
theorem hi_X1_markPulledOut_X1 : ∀ w ∈ u_ws RX1 TX1 1, w ∈ wsX1_markPulledOut := fun w h => (List.mem_cons_of_mem _ (List.mem_append_right _ h))
theorem hi_X1_markPulledOut_X3 : ∀ w ∈ u_ws RX3 TX3 19, w ∈ wsX1_markPulledOut := fun w h => (List.mem_cons_of_mem _ (List.mem_append_left _ (List.mem_append_right _ h)))
set_option maxHeartbeats 4000000 in
set_option maxRecDepth 100000 in
theorem mt_X1_markPulledOut (l : Launch) (D : va_G) (cI : ClassId) (ad : Nat → Nat) (F : Nat → Int32) (G : Nat → Nat → Int32) (x2 : Int32) (rv : Int32) (Fz : Nat → Int32) (Gz : Nat → Nat → Int32) (hDD : va_D (fun _ => True) (mwW cI ad (fun _ => 0) (fun _ _ => 0))) (h : f_X1_markPulledOut F G x2 = some (rv, Fz, Gz)) : Met l yX1_markPulledOut wsX1_markPulledOut ({ frames := 2, cells := 0, slots := 0, locals := 45 } : Room) (va_Pc [.ref (ad 41), .ref (ad 22), .int x2] (mwR D cI ad F G)) (va_Qi (fun z (_ : Unit) => z = rv) (fun _ t => va_P D vwCl (mwW cI ad Fz Gz) t.heap) (mwA cI ad)) 0 0 (mwA cI ad) := by
  refine Met.ofW (cc := cX1_markPulledOut) (maxL := 5) (ret := (some .int)) (by decide) rfl ?_
  intro p e s m args below meth c s₁ B hml hv
  obtain ⟨rfl, hP, hK, hN⟩ := hv
  have hx := B.exec
  have hb := B.bytes
  have hr := B.returns
  have hts := atoms_spec (ws := wsX1_markPulledOut) B.pre
  have hown : s.vm.findClass RX1 = some m.cls := findClass_of_methodNamed B.named
  have hlocks := B.notSynchronized
  have hS : va_S (mwA cI ad) s.heap s.heap [] := va_S.rf
  have hl := lv_entry ([.ref (ad 41), .ref (ad 22), .int x2]) (n := 5) (Nat.le_of_ble_eq_true rfl)
  rw [lg_entry_eq]
  generalize (lg_sl ([.ref (ad 41), .ref (ad 22), .int x2]) ++ List.replicate (5 - (lg_sl ([.ref (ad 41), .ref (ad 22), .int x2])).length) Slot.unset).toArray = ls at hl ⊢
  have hl : lv_has ls 5 [(0, .ref (ad 41)), (1, .ref (ad 22)), (2, .int (x2))] := hl
  have j12 : ∀ n12 : Nat, ∀ (F : Nat → Int32) (G : Nat → Nat → Int32) (x3 : Int32) (x4 : Int32) (H : Heap) (locs : List Loc) , va_P D vwCl (mwW cI ad F G) H → va_S (mwA cI ad) s.heap H locs → ∀ ls : Array Slot, lv_has ls 5 [(0, .ref (ad 41)), (1, .ref (ad 22)), (3, .int (x3)), (4, .int (x4))] → f_X1_markPulledOut_L12 x2 n12 F G x3 x4 = some (rv, Fz, Gz) → W p l e (headSpec wsX1_markPulledOut ({ frames := 2, cells := 0, slots := 0, locals := 45 } : Room)).room s m (List.toArray ([.ref (ad 41), .ref (ad 22), .int x2] : List Value)) below meth c H locs 0 0 (MQ below (va_Qi (fun z (_ : Unit) => z = rv) (fun _ t => va_P D vwCl (mwW cI ad Fz Gz) t.heap) (mwA cI ad)) (List.toArray ([.ref (ad 41), .ref (ad 22), .int x2] : List Value)) s 0 0 (mwA cI ad)) (F0 m 12 ls []) := by
    intro n12
    induction n12 with
    | zero =>
      intro F G x3 x4 H locs hP hS ls hl h
      cases h
    | succ n12 ih12 =>
      have j62 : ∀ (F : Nat → Int32) (G : Nat → Nat → Int32) (x3 : Int32) (x4 : Int32) (H : Heap) (locs : List Loc) , va_P D vwCl (mwW cI ad F G) H → va_S (mwA cI ad) s.heap H locs → ∀ ls : Array Slot, lv_has ls 5 [(0, .ref (ad 41)), (1, .ref (ad 22)), (3, .int (x3)), (4, .int (x4))] → f_X1_markPulledOut_B62 (f_X1_markPulledOut_L12 x2 n12) x2 F G x3 x4 = some (rv, Fz, Gz) → W p l e (headSpec wsX1_markPulledOut ({ frames := 2, cells := 0, slots := 0, locals := 45 } : Room)).room s m (List.toArray ([.ref (ad 41), .ref (ad 22), .int x2] : List Value)) below meth c H locs 0 0 (MQ below (va_Qi (fun z (_ : Unit) => z = rv) (fun _ t => va_P D vwCl (mwW cI ad Fz Gz) t.heap) (mwA cI ad)) (List.toArray ([.ref (ad 41), .ref (ad 22), .int x2] : List Value)) s 0 0 (mwA cI ad)) (F0 m 62 ls []) := by
        intro F G x3 x4 H locs hP hS ls hl h
        refine q_iinc (j := 3) (d := (1 : Int32)) (lv2 := fun v1 => [(4, .int (v1)), (0, .ref (ad 41)), (1, .ref (ad 22)), (3, .int (x3))]) hx hb dX1_markPulledOut_62 hl rfl (by decide) (by decide) (fun _ => rfl) h (fun v1 ls hl h => ?_)
        refine lv_goto (tgt := 12) hx hb dX1_markPulledOut_65 (by decide) ?_
        exact ih12 F G x3 v1 _ _ hP hS _ (lv_sub hl [1, 2, 3, 0] rfl) h
      have j51 : ∀ (F : Nat → Int32) (G : Nat → Nat → Int32) (x3 : Int32) (x4 : Int32) (H : Heap) (locs : List Loc) , va_P D vwCl (mwW cI ad F G) H → va_S (mwA cI ad) s.heap H locs → ∀ ls : Array Slot, lv_has ls 5 [(0, .ref (ad 41)), (1, .ref (ad 22)), (3, .int (x3)), (4, .int (x4))] → f_X1_markPulledOut_B51 (f_X1_markPulledOut_L12 x2 n12) x2 F G x3 x4 = some (rv, Fz, Gz) → W p l e (headSpec wsX1_markPulledOut ({ frames := 2, cells := 0, slots := 0, locals := 45 } : Room)).room s m (List.toArray ([.ref (ad 41), .ref (ad 22), .int x2] : List Value)) below meth c H locs 0 0 (MQ below (va_Qi (fun z (_ : Unit) => z = rv) (fun _ t => va_P D vwCl (mwW cI ad Fz Gz) t.heap) (mwA cI ad)) (List.toArray ([.ref (ad 41), .ref (ad 22), .int x2] : List Value)) s 0 0 (mwA cI ad)) (F0 m 51 ls []) := by
        intro F G x3 x4 H locs hP hS ls hl h
        refine lv_aload_n hx hb dX1_markPulledOut_51 rfl (lv_at hl 0 rfl) ?_
        refine va_get hx hb hts hi_X1_markPulledOut_X1 hown hK hP 0 (mw_o41 cI ad F G) rfl 0 (by decide) (hts _ (List.mem_of_getElem? (i := 2) rfl)) (fun _ h9 => h9) rfl dX1_markPulledOut_52 ?_
        refine lv_iload hx hb dX1_markPulledOut_55 (lv_at hl 3 rfl) ?_
        refine lv_iconst (v := 1) hx hb dX1_markPulledOut_57 (by decide) ?_
        refine q_st hx hb hK hP (mwW_D hDD _ _) hS 1 0 40 (fun z => mwW cI ad F z) (mw_a40 cI ad F G) rfl (mw_g40 cI ad F G _) dX1_markPulledOut_58 h (fun G2 H locs h hP hS => ?_)
        refine q_iinc (j := 2) (d := (1 : Int32)) (lv2 := fun v3 => [(3, .int (v3)), (0, .ref (ad 41)), (1, .ref (ad 22)), (4, .int (x4))]) hx hb dX1_markPulledOut_59 hl rfl (by decide) (by decide) (fun _ => rfl) h (fun v3 ls hl h => ?_)
        exact j62 F G2 v3 x4 _ _ hP hS _ (lv_sub hl [1, 2, 0, 3] rfl) h
      intro F G x3 x4 H locs hP hS ls hl h
      replace h : f_X1_markPulledOut_L12_b (f_X1_markPulledOut_L12 x2 n12) x2 F G x3 x4 = some (rv, Fz, Gz) := h
      refine lv_iload hx hb dX1_markPulledOut_12 (lv_at hl 3 rfl) ?_
      refine lv_aload_n hx hb dX1_markPulledOut_14 rfl (lv_at hl 1 rfl) ?_
      refine va_get hx hb hts hi_X1_markPulledOut_X3 hown hK hP 2 (mw_o22 cI ad F G) rfl 11 (by decide) (hts _ (List.mem_of_getElem? (i := 1) rfl)) (fun _ h9 => h9) rfl dX1_markPulledOut_15 ?_
      refine q_icmp_ge (tgt := 68) hx hb dX1_markPulledOut_18 (by decide) h (fun h => ?_) (fun h => ?_)
      · refine lv_iload_n hx hb dX1_markPulledOut_68 rfl (lv_at hl 2 rfl) ?_
        have e1 := congrArg Prod.fst (Option.some.inj h)
        have e2 := congrArg (fun z => z.2.1) (Option.some.inj h)
        have e3 := congrArg (fun z => z.2.2) (Option.some.inj h)
        dsimp only at e1 e2 e3
        exact W.iret hx hb hr (fun t ht hW => ⟨⟨_, (), rfl, e1, by show va_P D vwCl _ t.heap; rw [ht, ← e2, ← e3]; exact hP⟩, hS.F ht⟩) hS.2.2 dX1_markPulledOut_69
      · refine lv_aload_n hx hb dX1_markPulledOut_21 rfl (lv_at hl 0 rfl) ?_
        refine lv_aload_n hx hb dX1_markPulledOut_22 rfl (lv_at hl 1 rfl) ?_
        refine lv_iload hx hb dX1_markPulledOut_23 (lv_at hl 3 rfl) ?_
        obtain ⟨v4, hc5, h⟩ := q_some h
        refine q_cs (W.runV (C := RX1) (As := [.ref (ad 22), .int (x4)]) (rest := []) ⟨hx, hb, hml, hown, hts⟩ (mt_X1_isBehindMarked l D cI ad F G x4 v4 hc5) (cwV 2 hts gX1_markPulledOut_X1_isBehindMarked rfl rfl rfl (by decide +kernel) ⟨Nat.le_of_ble_eq_true rfl, Nat.le_of_ble_eq_true rfl⟩) ⟨mwR_b, va_recv hK hP (ci := 1) (q0 := 0) rfl rfl, (mwR_p hP hK hN).2⟩ rfl rfl hl.1 rfl (lv_room (Nat.le_of_ble_eq_true rfl)) dX1_markPulledOut_25 ⟨Nat.le_of_ble_eq_true rfl, Nat.le_of_ble_eq_true rfl⟩) ?_
        refine q_if_ne (tgt := 51) hx hb dX1_markPulledOut_28 (by decide) h (fun h => ?_) (fun h => ?_)
        · exact j51 F G x3 x4 _ _ hP hS _ (lv_sub hl [0, 1, 2, 3] rfl) h
        · refine lv_aload_n hx hb dX1_markPulledOut_31 rfl (lv_at hl 0 rfl) ?_
          refine lv_aload_n hx hb dX1_markPulledOut_32 rfl (lv_at hl 1 rfl) ?_
          refine lv_iload hx hb dX1_markPulledOut_33 (lv_at hl 3 rfl) ?_
          obtain ⟨v6, hc7, h⟩ := q_some h
          refine q_cs (W.runV (C := RX1) (As := [.ref (ad 22), .int (x4)]) (rest := []) ⟨hx, hb, hml, hown, hts⟩ (mt_X1_isCaughtOnMarked l D cI ad F G x4 v6 hc7) (cwV 2 hts gX1_markPulledOut_X1_isCaughtOnMarked rfl rfl rfl (by decide +kernel) ⟨Nat.le_of_ble_eq_true rfl, Nat.le_of_ble_eq_true rfl⟩) ⟨mwR_b, va_recv hK hP (ci := 1) (q0 := 0) rfl rfl, (mwR_p hP hK hN).2⟩ rfl rfl hl.1 rfl (lv_room (Nat.le_of_ble_eq_true rfl)) dX1_markPulledOut_35 ⟨Nat.le_of_ble_eq_true rfl, Nat.le_of_ble_eq_true rfl⟩) ?_
          refine q_if_ne (tgt := 51) hx hb dX1_markPulledOut_38 (by decide) h (fun h => ?_) (fun h => ?_)
          · exact j51 F G x3 x4 _ _ hP hS _ (lv_sub hl [0, 1, 2, 3] rfl) h
          · refine lv_aload_n hx hb dX1_markPulledOut_41 rfl (lv_at hl 0 rfl) ?_
            refine lv_aload_n hx hb dX1_markPulledOut_42 rfl (lv_at hl 1 rfl) ?_
            refine lv_iload hx hb dX1_markPulledOut_43 (lv_at hl 3 rfl) ?_
            obtain ⟨v8, hc9, h⟩ := q_some h
            refine q_cs (W.runV (C := RX1) (As := [.ref (ad 22), .int (x4)]) (rest := []) ⟨hx, hb, hml, hown, hts⟩ (mt_X1_isWovenInMarked l D cI ad F G x4 v8 hc9) (cwV 2 hts gX1_markPulledOut_X1_isWovenInMarked rfl rfl rfl (by decide +kernel) ⟨Nat.le_of_ble_eq_true rfl, Nat.le_of_ble_eq_true rfl⟩) ⟨mwR_b, va_recv hK hP (ci := 1) (q0 := 0) rfl rfl, (mwR_p hP hK hN).2⟩ rfl rfl hl.1 rfl (lv_room (Nat.le_of_ble_eq_true rfl)) dX1_markPulledOut_45 ⟨Nat.le_of_ble_eq_true rfl, Nat.le_of_ble_eq_true rfl⟩) ?_
            refine q_if_eq (tgt := 62) hx hb dX1_markPulledOut_48 (by decide) h (fun h => ?_) (fun h => ?_)
            · exact j62 F G x3 x4 _ _ hP hS _ (lv_sub hl [0, 1, 2, 3] rfl) h
            · exact j51 F G x3 x4 _ _ hP hS _ (lv_sub hl [0, 1, 2, 3] rfl) h
  refine lv_iconst (v := 1) hx hb dX1_markPulledOut_0 (by decide) ?_
  refine q_nm h (fun v10 h => ?_)
  refine lv_istore_n (lv' := [(3, .int (v10)), (0, .ref (ad 41)), (1, .ref (ad 22)), (2, .int (x2))]) hx hb dX1_markPulledOut_1 rfl hl (by decide) rfl (fun ls hl => ?_)
  refine lv_aload_n hx hb dX1_markPulledOut_2 rfl (lv_at hl 1 rfl) ?_
  refine lv_iload_n hx hb dX1_markPulledOut_3 rfl (lv_at hl 3 rfl) ?_
  obtain ⟨⟨F12, G13⟩, hc14, h⟩ := q_some h
  refine q_cv (va_runV (C := RX1) (As := [.int (x2)]) (rest := []) ⟨hx, hb, hml, hown, hts⟩ (mt_X1_markOnly l D cI ad F G x2 F12 G13 hDD hc14) (cwV 1 hts gX1_markPulledOut_X1_markOnly rfl rfl rfl (by decide +kernel) ⟨Nat.le_of_ble_eq_true rfl, Nat.le_of_ble_eq_true rfl⟩) ⟨mwR_b, va_recv hK hP (ci := 1) (q0 := 0) rfl rfl, (mwR_p hP hK hN).2⟩ rfl rfl hl.1 rfl (lv_room (Nat.le_of_ble_eq_true rfl)) dX1_markPulledOut_4 ⟨Nat.le_of_ble_eq_true rfl, Nat.le_of_ble_eq_true rfl⟩) hS (fun H locs hP hS => ?_)
  refine lv_iload_n hx hb dX1_markPulledOut_7 rfl (lv_at hl 3 rfl) ?_
  refine lv_iconst (v := 1) hx hb dX1_markPulledOut_8 (by decide) ?_
  refine lv_iadd hx hb dX1_markPulledOut_9 ?_
  refine q_nm h (fun v15 h => ?_)
  refine lv_istore (lv' := [(4, .int (v15)), (3, .int (v10)), (0, .ref (ad 41)), (1, .ref (ad 22)), (2, .int (x2))]) hx hb dX1_markPulledOut_10 hl (by decide) rfl (fun ls hl => ?_)
  exact j12 1000 F12 G13 v10 v15 _ _ hP hS _ (lv_sub hl [2, 3, 1, 0] rfl) h
