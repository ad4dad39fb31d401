set_option maxHeartbeats 4000000 in
set_option maxRecDepth 100000 in
theorem mt_X4_isWithin (l : Launch) (x0 : Int32) (x1 : Int32) (x2 : Int32) (rv : Int32) (h : f_X4_isWithin x0 x1 x2 = some rv) : Met l yX4_isWithin wsX4_isWithin ({ frames := 0, cells := 0, slots := 0, locals := 0 } : Room) (va_Pc [.int x0, .int x1, .int x2] (fun _ => True)) (vp_Si (fun z => z = rv)) 0 0 (fun _ => False) := by
  refine Met.ofW (cc := cX4_isWithin) (maxL := 3) (ret := (some .boolean)) (by decide) rfl ?_
  intro p e s m args below meth c s₁ B hml hv
  obtain ⟨rfl, -⟩ := hv
  have hx := B.exec
  have hb := B.bytes
  have hr := B.returns
  have hts := atoms_spec (ws := wsX4_isWithin) B.pre
  have hown : s.vm.findClass RX4 = some m.cls := findClass_of_methodNamed B.named
  have hlocks := B.notSynchronized
  have hl := lv_entry ([.int x0, .int x1, .int x2]) (n := 3) (Nat.le_of_ble_eq_true rfl)
  rw [lg_entry_eq]
  generalize (lg_sl ([.int x0, .int x1, .int x2]) ++ List.replicate (3 - (lg_sl ([.int x0, .int x1, .int x2])).length) Slot.unset).toArray = ls at hl ⊢
  have hl : lv_has ls 3 [(0, .int (x0)), (1, .int (x1)), (2, .int (x2))] := hl
  refine lv_iload_n hx hb dX4_isWithin_0 rfl (lv_at hl 0 rfl) ?_
  refine lv_iload_n hx hb dX4_isWithin_1 rfl (lv_at hl 1 rfl) ?_
  refine q_icmp_lt (tgt := 14) hx hb dX4_isWithin_2 (by decide) h (fun h => ?_) (fun h => ?_)
  · refine lv_iconst (v := 0) hx hb dX4_isWithin_14 (by decide) ?_
    exact W.zret hx hb hr rfl (fun t ht hW => ⟨_, rfl, Option.some.inj h, ht⟩) (fun q hq9 => by cases hq9) dX4_isWithin_15
  · refine lv_iload_n hx hb dX4_isWithin_5 rfl (lv_at hl 0 rfl) ?_
    refine lv_iload_n hx hb dX4_isWithin_6 rfl (lv_at hl 2 rfl) ?_
    refine q_icmp_gt (tgt := 14) hx hb dX4_isWithin_7 (by decide) h (fun h => ?_) (fun h => ?_)
    · refine lv_iconst (v := 0) hx hb dX4_isWithin_14 (by decide) ?_
      exact W.zret hx hb hr rfl (fun t ht hW => ⟨_, rfl, Option.some.inj h, ht⟩) (fun q hq9 => by cases hq9) dX4_isWithin_15
    · refine lv_iconst (v := 1) hx hb dX4_isWithin_10 (by decide) ?_
      refine lv_goto (tgt := 15) hx hb dX4_isWithin_11 (by decide) ?_
      exact W.zret hx hb hr rfl (fun t ht hW => ⟨_, rfl, Option.some.inj h, ht⟩) (fun q hq9 => by cases hq9) dX4_isWithin_15
set_option maxHeartbeats 4000000 in
set_option maxRecDepth 100000 in
theorem mt_X4_isColour (l : Launch) (x0 : Int32) (rv : Int32) (h : f_X4_isColour x0 = some rv) : Met l yX4_isColour wsX4_isColour ({ frames := 1, cells := 0, slots := 0, locals := 22 } : Room) (va_Pc [.int x0] (fun _ => True)) (vp_Si (fun z => z = rv)) 0 0 (fun _ => False) := by
  refine Met.ofW (cc := cX4_isColour) (maxL := 1) (ret := (some .boolean)) (by decide) rfl ?_
  intro p e s m args below meth c s₁ B hml hv
  obtain ⟨rfl, -⟩ := hv
  have hx := B.exec
  have hb := B.bytes
  have hr := B.returns
  have hts := atoms_spec (ws := wsX4_isColour) B.pre
  have hown : s.vm.findClass RX4 = some m.cls := findClass_of_methodNamed B.named
  have hlocks := B.notSynchronized
  have hl := lv_entry ([.int x0]) (n := 1) (Nat.le_of_ble_eq_true rfl)
  rw [lg_entry_eq]
  generalize (lg_sl ([.int x0]) ++ List.replicate (1 - (lg_sl ([.int x0])).length) Slot.unset).toArray = ls at hl ⊢
  have hl : lv_has ls 1 [(0, .int (x0))] := hl
  refine lv_iload_n hx hb dX4_isColour_0 rfl (lv_at hl 0 rfl) ?_
  refine lv_iconst (v := 0) hx hb dX4_isColour_1 (by decide) ?_
  refine lv_iconst (v := 5) hx hb dX4_isColour_2 (by decide) ?_
  obtain ⟨v1, hc2, h⟩ := q_some h
  refine q_cs (W.runS (As := [.int (x0), .int ((0 : Int32)), .int ((5 : Int32))]) (rest := []) ⟨hx, hb, hml, hown, hts⟩ (mt_X4_isWithin l x0 (0 : Int32) (5 : Int32) v1 hc2) (va_cwS 3 hts gX4_isColour_X4_isWithin rfl rfl rfl (by decide +kernel) ⟨Nat.le_of_ble_eq_true rfl, Nat.le_of_ble_eq_true rfl⟩) q_pr0 rfl rfl hl.1 rfl (lv_room (Nat.le_of_ble_eq_true rfl)) dX4_isColour_3 ⟨Nat.le_of_ble_eq_true rfl, Nat.le_of_ble_eq_true rfl⟩) ?_
  obtain ⟨hq, hnr⟩ := q_bo h
  exact W.zret hx hb hr hnr (fun t ht hW => ⟨_, rfl, hq, ht⟩) (fun q hq9 => by cases hq9) dX4_isColour_6
set_option maxHeartbeats 4000000 in
set_option maxRecDepth 100000 in
theorem mt_X4_isCell (l : Launch) (x0 : Int32) (x1 : Int32) (rv : Int32) (h : f_X4_isCell x0 x1 = some rv) : Met l yX4_isCell wsX4_isCell ({ frames := 1, cells := 0, slots := 0, locals := 22 } : Room) (va_Pc [.int x0, .int x1] (fun _ => True)) (vp_Si (fun z => z = rv)) 0 0 (fun _ => False) := by
  refine Met.ofW (cc := cX4_isCell) (maxL := 2) (ret := (some .boolean)) (by decide) rfl ?_
  intro p e s m args below meth c s₁ B hml hv
  obtain ⟨rfl, -⟩ := hv
  have hx := B.exec
  have hb := B.bytes
  have hr := B.returns
  have hts := atoms_spec (ws := wsX4_isCell) B.pre
  have hown : s.vm.findClass RX4 = some m.cls := findClass_of_methodNamed B.named
  have hlocks := B.notSynchronized
  have hl := lv_entry ([.int x0, .int x1]) (n := 2) (Nat.le_of_ble_eq_true rfl)
  rw [lg_entry_eq]
  generalize (lg_sl ([.int x0, .int x1]) ++ List.replicate (2 - (lg_sl ([.int x0, .int x1])).length) Slot.unset).toArray = ls at hl ⊢
  have hl : lv_has ls 2 [(0, .int (x0)), (1, .int (x1))] := hl
  refine lv_iload_n hx hb dX4_isCell_0 rfl (lv_at hl 0 rfl) ?_
  refine lv_iconst (v := 0) hx hb dX4_isCell_1 (by decide) ?_
  refine lv_bipush (v := 11) hx hb dX4_isCell_2 (by decide) ?_
  obtain ⟨v1, hc2, h⟩ := q_some h
  refine q_cs (W.runS (As := [.int (x0), .int ((0 : Int32)), .int ((11 : Int32))]) (rest := []) ⟨hx, hb, hml, hown, hts⟩ (mt_X4_isWithin l x0 (0 : Int32) (11 : Int32) v1 hc2) (va_cwS 3 hts gX4_isCell_X4_isWithin rfl rfl rfl (by decide +kernel) ⟨Nat.le_of_ble_eq_true rfl, Nat.le_of_ble_eq_true rfl⟩) q_pr0 rfl rfl hl.1 rfl (lv_room (Nat.le_of_ble_eq_true rfl)) dX4_isCell_4 ⟨Nat.le_of_ble_eq_true rfl, Nat.le_of_ble_eq_true rfl⟩) ?_
  refine q_if_eq (tgt := 24) hx hb dX4_isCell_7 (by decide) h (fun h => ?_) (fun h => ?_)
  · refine lv_iconst (v := 0) hx hb dX4_isCell_24 (by decide) ?_
    exact W.zret hx hb hr rfl (fun t ht hW => ⟨_, rfl, Option.some.inj h, ht⟩) (fun q hq9 => by cases hq9) dX4_isCell_25
  · refine lv_iload_n hx hb dX4_isCell_10 rfl (lv_at hl 1 rfl) ?_
    refine lv_iconst (v := 0) hx hb dX4_isCell_11 (by decide) ?_
    refine lv_bipush (v := 11) hx hb dX4_isCell_12 (by decide) ?_
    obtain ⟨v3, hc4, h⟩ := q_some h
    refine q_cs (W.runS (As := [.int (x1), .int ((0 : Int32)), .int ((11 : Int32))]) (rest := []) ⟨hx, hb, hml, hown, hts⟩ (mt_X4_isWithin l x1 (0 : Int32) (11 : Int32) v3 hc4) (va_cwS 3 hts gX4_isCell_X4_isWithin rfl rfl rfl (by decide +kernel) ⟨Nat.le_of_ble_eq_true rfl, Nat.le_of_ble_eq_true rfl⟩) q_pr0 rfl rfl hl.1 rfl (lv_room (Nat.le_of_ble_eq_true rfl)) dX4_isCell_14 ⟨Nat.le_of_ble_eq_true rfl, Nat.le_of_ble_eq_true rfl⟩) ?_
    refine q_if_eq (tgt := 24) hx hb dX4_isCell_17 (by decide) h (fun h => ?_) (fun h => ?_)
    · refine lv_iconst (v := 0) hx hb dX4_isCell_24 (by decide) ?_
      exact W.zret hx hb hr rfl (fun t ht hW => ⟨_, rfl, Option.some.inj h, ht⟩) (fun q hq9 => by cases hq9) dX4_isCell_25
    · refine lv_iconst (v := 1) hx hb dX4_isCell_20 (by decide) ?_
      refine lv_goto (tgt := 25) hx hb dX4_isCell_21 (by decide) ?_
      exact W.zret hx hb hr rfl (fun t ht hW => ⟨_, rfl, Option.some.inj h, ht⟩) (fun q hq9 => by cases hq9) dX4_isCell_25
set_option maxHeartbeats 4000000 in
set_option maxRecDepth 100000 in
theorem mt_X4_rowOf (l : Launch) (x0 : Int32) (rv : Int32) (h : f_X4_rowOf x0 = some rv) : Met l yX4_rowOf wsX4_rowOf ({ frames := 0, cells := 0, slots := 0, locals := 0 } : Room) (va_Pc [.int x0] (fun _ => True)) (vp_Si (fun z => z = rv)) 0 0 (fun _ => False) := by
  refine Met.ofW (cc := cX4_rowOf) (maxL := 1) (ret := (some .int)) (by decide) rfl ?_
  intro p e s m args below meth c s₁ B hml hv
  obtain ⟨rfl, -⟩ := hv
  have hx := B.exec
  have hb := B.bytes
  have hr := B.returns
  have hts := atoms_spec (ws := wsX4_rowOf) B.pre
  have hown : s.vm.findClass RX4 = some m.cls := findClass_of_methodNamed B.named
  have hlocks := B.notSynchronized
  have hl := lv_entry ([.int x0]) (n := 1) (Nat.le_of_ble_eq_true rfl)
  rw [lg_entry_eq]
  generalize (lg_sl ([.int x0]) ++ List.replicate (1 - (lg_sl ([.int x0])).length) Slot.unset).toArray = ls at hl ⊢
  have hl : lv_has ls 1 [(0, .int (x0))] := hl
  refine lv_iload_n hx hb dX4_rowOf_0 rfl (lv_at hl 0 rfl) ?_
  refine lv_iconst (v := -1) hx hb dX4_rowOf_1 (by decide) ?_
  refine q_icmp_ne (tgt := 9) hx hb dX4_rowOf_2 (by decide) h (fun h => ?_) (fun h => ?_)
  · refine lv_iload_n hx hb dX4_rowOf_9 rfl (lv_at hl 0 rfl) ?_
    refine lv_bipush (v := 12) hx hb dX4_rowOf_10 (by decide) ?_
    refine lv_idiv hx hb dX4_rowOf_12 (by decide) ?_
    exact W.iret hx hb hr (fun t ht hW => ⟨_, rfl, Option.some.inj h, ht⟩) (fun q hq9 => by cases hq9) dX4_rowOf_13
  · refine lv_iconst (v := -1) hx hb dX4_rowOf_5 (by decide) ?_
    refine lv_goto (tgt := 13) hx hb dX4_rowOf_6 (by decide) ?_
    exact W.iret hx hb hr (fun t ht hW => ⟨_, rfl, Option.some.inj h, ht⟩) (fun q hq9 => by cases hq9) dX4_rowOf_13
set_option maxHeartbeats 4000000 in
set_option maxRecDepth 100000 in
theorem mt_X4_columnOf (l : Launch) (x0 : Int32) (rv : Int32) (h : f_X4_columnOf x0 = some rv) : Met l yX4_columnOf wsX4_columnOf ({ frames := 0, cells := 0, slots := 0, locals := 0 } : Room) (va_Pc [.int x0] (fun _ => True)) (vp_Si (fun z => z = rv)) 0 0 (fun _ => False) := by
  refine Met.ofW (cc := cX4_columnOf) (maxL := 1) (ret := (some .int)) (by decide) rfl ?_
  intro p e s m args below meth c s₁ B hml hv
  obtain ⟨rfl, -⟩ := hv
  have hx := B.exec
  have hb := B.bytes
  have hr := B.returns
  have hts := atoms_spec (ws := wsX4_columnOf) B.pre
  have hown : s.vm.findClass RX4 = some m.cls := findClass_of_methodNamed B.named
  have hlocks := B.notSynchronized
  have hl := lv_entry ([.int x0]) (n := 1) (Nat.le_of_ble_eq_true rfl)
  rw [lg_entry_eq]
  generalize (lg_sl ([.int x0]) ++ List.replicate (1 - (lg_sl ([.int x0])).length) Slot.unset).toArray = ls at hl ⊢
  have hl : lv_has ls 1 [(0, .int (x0))] := hl
  refine lv_iload_n hx hb dX4_columnOf_0 rfl (lv_at hl 0 rfl) ?_
  refine lv_iconst (v := -1) hx hb dX4_columnOf_1 (by decide) ?_
  refine q_icmp_ne (tgt := 9) hx hb dX4_columnOf_2 (by decide) h (fun h => ?_) (fun h => ?_)
  · refine lv_iload_n hx hb dX4_columnOf_9 rfl (lv_at hl 0 rfl) ?_
    refine lv_bipush (v := 12) hx hb dX4_columnOf_10 (by decide) ?_
    refine lv_irem hx hb dX4_columnOf_12 (by decide) ?_
    exact W.iret hx hb hr (fun t ht hW => ⟨_, rfl, Option.some.inj h, ht⟩) (fun q hq9 => by cases hq9) dX4_columnOf_13
  · refine lv_iconst (v := -1) hx hb dX4_columnOf_5 (by decide) ?_
    refine lv_goto (tgt := 13) hx hb dX4_columnOf_6 (by decide) ?_
    exact W.iret hx hb hr (fun t ht hW => ⟨_, rfl, Option.some.inj h, ht⟩) (fun q hq9 => by cases hq9) dX4_columnOf_13
theorem hi_X0_aroundTheRing_X0 : ∀ w ∈ u_ws RX0 TX0 8, w ∈ wsX0_aroundTheRing := fun w h => (List.mem_cons_of_mem _ (List.mem_append_right _ h))
set_option maxHeartbeats 4000000 in
set_option maxRecDepth 100000 in
theorem mt_X0_aroundTheRing (l : Launch) (D : va_G) (cI : ClassId) (ad : Nat → Nat) (F : Nat → Int32) (G : Nat → Nat → Int32) (x1 : Int32) (rv : Int32) (h : f_X0_aroundTheRing F G x1 = some rv) : Met l yX0_aroundTheRing wsX0_aroundTheRing ({ frames := 0, cells := 0, slots := 0, locals := 0 } : Room) (va_Pc [.ref (ad 38), .int x1] (chR D cI ad F G)) (vp_Si (fun z => z = rv)) 0 0 (fun _ => False) := by
  refine Met.ofW (cc := cX0_aroundTheRing) (maxL := 2) (ret := (some .int)) (by decide) rfl ?_
  intro p e s m args below meth c s₁ B hml hv
  obtain ⟨rfl, hP, hK, hN⟩ := hv
  have hx := B.exec
  have hb := B.bytes
  have hr := B.returns
  have hts := atoms_spec (ws := wsX0_aroundTheRing) B.pre
  have hown : s.vm.findClass RX0 = some m.cls := findClass_of_methodNamed B.named
  have hlocks := B.notSynchronized
  have hl := lv_entry ([.ref (ad 38), .int x1]) (n := 2) (Nat.le_of_ble_eq_true rfl)
  rw [lg_entry_eq]
  generalize (lg_sl ([.ref (ad 38), .int x1]) ++ List.replicate (2 - (lg_sl ([.ref (ad 38), .int x1])).length) Slot.unset).toArray = ls at hl ⊢
  have hl : lv_has ls 2 [(0, .ref (ad 38)), (1, .int (x1))] := hl
  refine lv_aload_n hx hb dX0_aroundTheRing_0 rfl (lv_at hl 0 rfl) ?_
  refine va_get hx hb hts hi_X0_aroundTheRing_X0 hown hK hP 0 (ch_o38 cI ad F G) rfl 5 (by decide) (hts _ (List.mem_of_getElem? (i := 1) rfl)) (fun _ h9 => h9) rfl dX0_aroundTheRing_1 ?_
  refine q_if_ne (tgt := 11) hx hb dX0_aroundTheRing_4 (by decide) h (fun h => ?_) (fun h => ?_)
  · refine lv_iload_n hx hb dX0_aroundTheRing_11 rfl (lv_at hl 1 rfl) ?_
    refine lv_aload_n hx hb dX0_aroundTheRing_12 rfl (lv_at hl 0 rfl) ?_
    refine va_get hx hb hts hi_X0_aroundTheRing_X0 hown hK hP 0 (ch_o38 cI ad F G) rfl 5 (by decide) (hts _ (List.mem_of_getElem? (i := 1) rfl)) (fun _ h9 => h9) rfl dX0_aroundTheRing_13 ?_
    refine lv_iadd hx hb dX0_aroundTheRing_16 ?_
    refine lv_aload_n hx hb dX0_aroundTheRing_17 rfl (lv_at hl 0 rfl) ?_
    refine va_get hx hb hts hi_X0_aroundTheRing_X0 hown hK hP 0 (ch_o38 cI ad F G) rfl 5 (by decide) (hts _ (List.mem_of_getElem? (i := 1) rfl)) (fun _ h9 => h9) rfl dX0_aroundTheRing_18 ?_
    obtain ⟨hne, h⟩ := q_dv h
    refine lv_irem hx hb dX0_aroundTheRing_21 hne ?_
    exact W.iret hx hb hr (fun t ht hW => ⟨_, rfl, Option.some.inj h, ht⟩) (fun q hq9 => by cases hq9) dX0_aroundTheRing_22
  · refine lv_iload_n hx hb dX0_aroundTheRing_7 rfl (lv_at hl 1 rfl) ?_
    refine lv_goto (tgt := 22) hx hb dX0_aroundTheRing_8 (by decide) ?_
    exact W.iret hx hb hr (fun t ht hW => ⟨_, rfl, Option.some.inj h, ht⟩) (fun q hq9 => by cases hq9) dX0_aroundTheRing_22
set_option maxHeartbeats 4000000 in
set_option maxRecDepth 100000 in
theorem mt_X0_leftCatch (l : Launch) (D : va_G) (cI : ClassId) (ad : Nat → Nat) (F : Nat → Int32) (G : Nat → Nat → Int32) (x1 : Int32) (x2 : Int32) (rv : Int32) (h : f_X0_leftCatch F G x1 x2 = some rv) : Met l yX0_leftCatch wsX0_leftCatch ({ frames := 1, cells := 0, slots := 0, locals := 21 } : Room) (va_Pc [.ref (ad 38), .int x1, .int x2] (chR D cI ad F G)) (vp_Si (fun z => z = rv)) 0 0 (fun _ => False) := by
  refine Met.ofW (cc := cX0_leftCatch) (maxL := 3) (ret := (some .int)) (by decide) rfl ?_
  intro p e s m args below meth c s₁ B hml hv
  obtain ⟨rfl, hP, hK, hN⟩ := hv
  have hx := B.exec
  have hb := B.bytes
  have hr := B.returns
  have hts := atoms_spec (ws := wsX0_leftCatch) B.pre
  have hown : s.vm.findClass RX0 = some m.cls := findClass_of_methodNamed B.named
  have hlocks := B.notSynchronized
  have hl := lv_entry ([.ref (ad 38), .int x1, .int x2]) (n := 3) (Nat.le_of_ble_eq_true rfl)
  rw [lg_entry_eq]
  generalize (lg_sl ([.ref (ad 38), .int x1, .int x2]) ++ List.replicate (3 - (lg_sl ([.ref (ad 38), .int x1, .int x2])).length) Slot.unset).toArray = ls at hl ⊢
  have hl : lv_has ls 3 [(0, .ref (ad 38)), (1, .int (x1)), (2, .int (x2))] := hl
  refine lv_aload_n hx hb dX0_leftCatch_0 rfl (lv_at hl 0 rfl) ?_
  refine lv_iload_n hx hb dX0_leftCatch_1 rfl (lv_at hl 2 rfl) ?_
  refine lv_iconst (v := 1) hx hb dX0_leftCatch_2 (by decide) ?_
  refine lv_isub hx hb dX0_leftCatch_3 ?_
  refine lv_iload_n hx hb dX0_leftCatch_4 rfl (lv_at hl 1 rfl) ?_
  refine lv_iconst (v := 2) hx hb dX0_leftCatch_5 (by decide) ?_
  refine lv_irem hx hb dX0_leftCatch_6 (by decide) ?_
  refine lv_iadd hx hb dX0_leftCatch_7 ?_
  obtain ⟨v1, hc2, h⟩ := q_some h
  refine q_cs (W.runV (C := RX0) (As := [.int (((x2 - (1 : Int32)) + (x1 - x1 / (2 : Int32) * (2 : Int32))))]) (rest := []) ⟨hx, hb, hml, hown, hts⟩ (mt_X0_aroundTheRing l D cI ad F G (((x2 - (1 : Int32)) + (x1 - x1 / (2 : Int32) * (2 : Int32)))) v1 hc2) (cwV 1 hts gX0_leftCatch_X0_aroundTheRing rfl rfl rfl (by decide +kernel) ⟨Nat.le_of_ble_eq_true rfl, Nat.le_of_ble_eq_true rfl⟩) ⟨chR_b, va_recv hK hP (ci := 0) (q0 := 0) rfl rfl, (chR_p hP hK hN).2⟩ rfl rfl hl.1 rfl (lv_room (Nat.le_of_ble_eq_true rfl)) dX0_leftCatch_8 ⟨Nat.le_of_ble_eq_true rfl, Nat.le_of_ble_eq_true rfl⟩) ?_
  exact W.iret hx hb hr (fun t ht hW => ⟨_, rfl, Option.some.inj h, ht⟩) (fun q hq9 => by cases hq9) dX0_leftCatch_11
set_option maxHeartbeats 4000000 in
set_option maxRecDepth 100000 in
theorem mt_X0_rightCatch (l : Launch) (D : va_G) (cI : ClassId) (ad : Nat → Nat) (F : Nat → Int32) (G : Nat → Nat → Int32) (x1 : Int32) (x2 : Int32) (rv : Int32) (h : f_X0_rightCatch F G x1 x2 = some rv) : Met l yX0_rightCatch wsX0_rightCatch ({ frames := 1, cells := 0, slots := 0, locals := 21 } : Room) (va_Pc [.ref (ad 38), .int x1, .int x2] (chR D cI ad F G)) (vp_Si (fun z => z = rv)) 0 0 (fun _ => False) := by
  refine Met.ofW (cc := cX0_rightCatch) (maxL := 3) (ret := (some .int)) (by decide) rfl ?_
  intro p e s m args below meth c s₁ B hml hv
  obtain ⟨rfl, hP, hK, hN⟩ := hv
  have hx := B.exec
  have hb := B.bytes
  have hr := B.returns
  have hts := atoms_spec (ws := wsX0_rightCatch) B.pre
  have hown : s.vm.findClass RX0 = some m.cls := findClass_of_methodNamed B.named
  have hlocks := B.notSynchronized
  have hl := lv_entry ([.ref (ad 38), .int x1, .int x2]) (n := 3) (Nat.le_of_ble_eq_true rfl)
  rw [lg_entry_eq]
  generalize (lg_sl ([.ref (ad 38), .int x1, .int x2]) ++ List.replicate (3 - (lg_sl ([.ref (ad 38), .int x1, .int x2])).length) Slot.unset).toArray = ls at hl ⊢
  have hl : lv_has ls 3 [(0, .ref (ad 38)), (1, .int (x1)), (2, .int (x2))] := hl
  refine lv_aload_n hx hb dX0_rightCatch_0 rfl (lv_at hl 0 rfl) ?_
  refine lv_iload_n hx hb dX0_rightCatch_1 rfl (lv_at hl 2 rfl) ?_
  refine lv_iload_n hx hb dX0_rightCatch_2 rfl (lv_at hl 1 rfl) ?_
  refine lv_iconst (v := 2) hx hb dX0_rightCatch_3 (by decide) ?_
  refine lv_irem hx hb dX0_rightCatch_4 (by decide) ?_
  refine lv_iadd hx hb dX0_rightCatch_5 ?_
  obtain ⟨v1, hc2, h⟩ := q_some h
  refine q_cs (W.runV (C := RX0) (As := [.int ((x2 + (x1 - x1 / (2 : Int32) * (2 : Int32))))]) (rest := []) ⟨hx, hb, hml, hown, hts⟩ (mt_X0_aroundTheRing l D cI ad F G ((x2 + (x1 - x1 / (2 : Int32) * (2 : Int32)))) v1 hc2) (cwV 1 hts gX0_rightCatch_X0_aroundTheRing rfl rfl rfl (by decide +kernel) ⟨Nat.le_of_ble_eq_true rfl, Nat.le_of_ble_eq_true rfl⟩) ⟨chR_b, va_recv hK hP (ci := 0) (q0 := 0) rfl rfl, (chR_p hP hK hN).2⟩ rfl rfl hl.1 rfl (lv_room (Nat.le_of_ble_eq_true rfl)) dX0_rightCatch_6 ⟨Nat.le_of_ble_eq_true rfl, Nat.le_of_ble_eq_true rfl⟩) ?_
  exact W.iret hx hb hr (fun t ht hW => ⟨_, rfl, Option.some.inj h, ht⟩) (fun q hq9 => by cases hq9) dX0_rightCatch_9
theorem hi_X0_lowerCatch_X0 : ∀ w ∈ u_ws RX0 TX0 8, w ∈ wsX0_lowerCatch := fun w h => (List.mem_cons_of_mem _ (List.mem_append_right _ h))
set_option maxHeartbeats 4000000 in
set_option maxRecDepth 100000 in
theorem mt_X0_lowerCatch (l : Launch) (D : va_G) (cI : ClassId) (ad : Nat → Nat) (F : Nat → Int32) (G : Nat → Nat → Int32) (x1 : Int32) (x2 : Int32) (rv : Int32) (h : f_X0_lowerCatch F G x1 x2 = some rv) : Met l yX0_lowerCatch wsX0_lowerCatch ({ frames := 2, cells := 0, slots := 0, locals := 43 } : Room) (va_Pc [.ref (ad 38), .int x1, .int x2] (chR D cI ad F G)) (vp_Si (fun z => z = rv)) 0 0 (fun _ => False) := by
  refine Met.ofW (cc := cX0_lowerCatch) (maxL := 3) (ret := (some .int)) (by decide) rfl ?_
  intro p e s m args below meth c s₁ B hml hv
  obtain ⟨rfl, hP, hK, hN⟩ := hv
  have hx := B.exec
  have hb := B.bytes
  have hr := B.returns
  have hts := atoms_spec (ws := wsX0_lowerCatch) B.pre
  have hown : s.vm.findClass RX0 = some m.cls := findClass_of_methodNamed B.named
  have hlocks := B.notSynchronized
  have hl := lv_entry ([.ref (ad 38), .int x1, .int x2]) (n := 3) (Nat.le_of_ble_eq_true rfl)
  rw [lg_entry_eq]
  generalize (lg_sl ([.ref (ad 38), .int x1, .int x2]) ++ List.replicate (3 - (lg_sl ([.ref (ad 38), .int x1, .int x2])).length) Slot.unset).toArray = ls at hl ⊢
  have hl : lv_has ls 3 [(0, .ref (ad 38)), (1, .int (x1)), (2, .int (x2))] := hl
  refine lv_aload_n hx hb dX0_lowerCatch_0 rfl (lv_at hl 0 rfl) ?_
  refine va_get hx hb hts hi_X0_lowerCatch_X0 hown hK hP 0 (ch_o38 cI ad F G) rfl 4 (by decide) (hts _ (List.mem_of_getElem? (i := 1) rfl)) (fun _ h9 => h9) rfl dX0_lowerCatch_1 ?_
  refine q_if_ne (tgt := 9) hx hb dX0_lowerCatch_4 (by decide) h (fun h => ?_) (fun h => ?_)
  · refine lv_aload_n hx hb dX0_lowerCatch_9 rfl (lv_at hl 0 rfl) ?_
    refine lv_iload_n hx hb dX0_lowerCatch_10 rfl (lv_at hl 1 rfl) ?_
    refine lv_iload_n hx hb dX0_lowerCatch_11 rfl (lv_at hl 2 rfl) ?_
    obtain ⟨v1, hc2, h⟩ := q_some h
    refine q_cs (W.runV (C := RX0) (As := [.int (x1), .int (x2)]) (rest := []) ⟨hx, hb, hml, hown, hts⟩ (mt_X0_leftCatch l D cI ad F G x1 x2 v1 hc2) (cwV 2 hts gX0_lowerCatch_X0_leftCatch rfl rfl rfl (by decide +kernel) ⟨Nat.le_of_ble_eq_true rfl, Nat.le_of_ble_eq_true rfl⟩) ⟨chR_b, va_recv hK hP (ci := 0) (q0 := 0) rfl rfl, (chR_p hP hK hN).2⟩ rfl rfl hl.1 rfl (lv_room (Nat.le_of_ble_eq_true rfl)) dX0_lowerCatch_12 ⟨Nat.le_of_ble_eq_true rfl, Nat.le_of_ble_eq_true rfl⟩) ?_
    refine lv_aload_n hx hb dX0_lowerCatch_15 rfl (lv_at hl 0 rfl) ?_
    refine lv_iload_n hx hb dX0_lowerCatch_16 rfl (lv_at hl 1 rfl) ?_
    refine lv_iload_n hx hb dX0_lowerCatch_17 rfl (lv_at hl 2 rfl) ?_
    obtain ⟨v3, hc4, h⟩ := q_some h
    refine q_cs (W.runV (C := RX0) (As := [.int (x1), .int (x2)]) (rest := [.int (v1)]) ⟨hx, hb, hml, hown, hts⟩ (mt_X0_rightCatch l D cI ad F G x1 x2 v3 hc4) (cwV 2 hts gX0_lowerCatch_X0_rightCatch rfl rfl rfl (by decide +kernel) ⟨Nat.le_of_ble_eq_true rfl, Nat.le_of_ble_eq_true rfl⟩) ⟨chR_b, va_recv hK hP (ci := 0) (q0 := 0) rfl rfl, (chR_p hP hK hN).2⟩ rfl rfl hl.1 rfl (lv_room (Nat.le_of_ble_eq_true rfl)) dX0_lowerCatch_18 ⟨Nat.le_of_ble_eq_true rfl, Nat.le_of_ble_eq_true rfl⟩) ?_
    refine va_mmin hx hb (by rw [hml]; exact hl.1.symm) hown (hts _ (List.mem_of_getElem? (i := 2) rfl)) (hts _ (List.mem_of_getElem? (i := 3) rfl)) (hts _ (List.mem_of_getElem? (i := 4) rfl)) (hts _ (List.mem_of_getElem? (i := 5) rfl)) (Nat.le_of_ble_eq_true rfl) (Nat.le_of_ble_eq_true rfl) (Nat.zero_le _) (Nat.zero_le _) dX0_lowerCatch_21 ?_
    exact W.iret hx hb hr (fun t ht hW => ⟨_, rfl, Option.some.inj h, ht⟩) (fun q hq9 => by cases hq9) dX0_lowerCatch_24
  · refine lv_iload_n hx hb dX0_lowerCatch_7 rfl (lv_at hl 2 rfl) ?_
    exact W.iret hx hb hr (fun t ht hW => ⟨_, rfl, Option.some.inj h, ht⟩) (fun q hq9 => by cases hq9) dX0_lowerCatch_8
theorem hi_X0_upperCatch_X0 : ∀ w ∈ u_ws RX0 TX0 8, w ∈ wsX0_upperCatch := fun w h => (List.mem_cons_of_mem _ (List.mem_append_right _ h))
set_option maxHeartbeats 4000000 in
set_option maxRecDepth 100000 in
theorem mt_X0_upperCatch (l : Launch) (D : va_G) (cI : ClassId) (ad : Nat → Nat) (F : Nat → Int32) (G : Nat → Nat → Int32) (x1 : Int32) (x2 : Int32) (rv : Int32) (h : f_X0_upperCatch F G x1 x2 = some rv) : Met l yX0_upperCatch wsX0_upperCatch ({ frames := 2, cells := 0, slots := 0, locals := 43 } : Room) (va_Pc [.ref (ad 38), .int x1, .int x2] (chR D cI ad F G)) (vp_Si (fun z => z = rv)) 0 0 (fun _ => False) := by
  refine Met.ofW (cc := cX0_upperCatch) (maxL := 3) (ret := (some .int)) (by decide) rfl ?_
  intro p e s m args below meth c s₁ B hml hv
  obtain ⟨rfl, hP, hK, hN⟩ := hv
  have hx := B.exec
  have hb := B.bytes
  have hr := B.returns
  have hts := atoms_spec (ws := wsX0_upperCatch) B.pre
  have hown : s.vm.findClass RX0 = some m.cls := findClass_of_methodNamed B.named
  have hlocks := B.notSynchronized
  have hl := lv_entry ([.ref (ad 38), .int x1, .int x2]) (n := 3) (Nat.le_of_ble_eq_true rfl)
  rw [lg_entry_eq]
  generalize (lg_sl ([.ref (ad 38), .int x1, .int x2]) ++ List.replicate (3 - (lg_sl ([.ref (ad 38), .int x1, .int x2])).length) Slot.unset).toArray = ls at hl ⊢
  have hl : lv_has ls 3 [(0, .ref (ad 38)), (1, .int (x1)), (2, .int (x2))] := hl
  refine lv_aload_n hx hb dX0_upperCatch_0 rfl (lv_at hl 0 rfl) ?_
  refine va_get hx hb hts hi_X0_upperCatch_X0 hown hK hP 0 (ch_o38 cI ad F G) rfl 4 (by decide) (hts _ (List.mem_of_getElem? (i := 1) rfl)) (fun _ h9 => h9) rfl dX0_upperCatch_1 ?_
  refine q_if_ne (tgt := 9) hx hb dX0_upperCatch_4 (by decide) h (fun h => ?_) (fun h => ?_)
  · refine lv_aload_n hx hb dX0_upperCatch_9 rfl (lv_at hl 0 rfl) ?_
    refine lv_iload_n hx hb dX0_upperCatch_10 rfl (lv_at hl 1 rfl) ?_
    refine lv_iload_n hx hb dX0_upperCatch_11 rfl (lv_at hl 2 rfl) ?_
    obtain ⟨v1, hc2, h⟩ := q_some h
    refine q_cs (W.runV (C := RX0) (As := [.int (x1), .int (x2)]) (rest := []) ⟨hx, hb, hml, hown, hts⟩ (mt_X0_leftCatch l D cI ad F G x1 x2 v1 hc2) (cwV 2 hts gX0_upperCatch_X0_leftCatch rfl rfl rfl (by decide +kernel) ⟨Nat.le_of_ble_eq_true rfl, Nat.le_of_ble_eq_true rfl⟩) ⟨chR_b, va_recv hK hP (ci := 0) (q0 := 0) rfl rfl, (chR_p hP hK hN).2⟩ rfl rfl hl.1 rfl (lv_room (Nat.le_of_ble_eq_true rfl)) dX0_upperCatch_12 ⟨Nat.le_of_ble_eq_true rfl, Nat.le_of_ble_eq_true rfl⟩) ?_
    refine lv_aload_n hx hb dX0_upperCatch_15 rfl (lv_at hl 0 rfl) ?_
    refine lv_iload_n hx hb dX0_upperCatch_16 rfl (lv_at hl 1 rfl) ?_
    refine lv_iload_n hx hb dX0_upperCatch_17 rfl (lv_at hl 2 rfl) ?_
    obtain ⟨v3, hc4, h⟩ := q_some h
    refine q_cs (W.runV (C := RX0) (As := [.int (x1), .int (x2)]) (rest := [.int (v1)]) ⟨hx, hb, hml, hown, hts⟩ (mt_X0_rightCatch l D cI ad F G x1 x2 v3 hc4) (cwV 2 hts gX0_upperCatch_X0_rightCatch rfl rfl rfl (by decide +kernel) ⟨Nat.le_of_ble_eq_true rfl, Nat.le_of_ble_eq_true rfl⟩) ⟨chR_b, va_recv hK hP (ci := 0) (q0 := 0) rfl rfl, (chR_p hP hK hN).2⟩ rfl rfl hl.1 rfl (lv_room (Nat.le_of_ble_eq_true rfl)) dX0_upperCatch_18 ⟨Nat.le_of_ble_eq_true rfl, Nat.le_of_ble_eq_true rfl⟩) ?_
    refine va_mmax hx hb (by rw [hml]; exact hl.1.symm) hown (hts _ (List.mem_of_getElem? (i := 2) rfl)) (hts _ (List.mem_of_getElem? (i := 3) rfl)) (hts _ (List.mem_of_getElem? (i := 4) rfl)) (hts _ (List.mem_of_getElem? (i := 5) rfl)) (Nat.le_of_ble_eq_true rfl) (Nat.le_of_ble_eq_true rfl) (Nat.zero_le _) (Nat.zero_le _) dX0_upperCatch_21 ?_
    exact W.iret hx hb hr (fun t ht hW => ⟨_, rfl, Option.some.inj h, ht⟩) (fun q hq9 => by cases hq9) dX0_upperCatch_24
  · refine lv_iconst (v := -1) hx hb dX0_upperCatch_7 (by decide) ?_
    exact W.iret hx hb hr (fun t ht hW => ⟨_, rfl, Option.some.inj h, ht⟩) (fun q hq9 => by cases hq9) dX0_upperCatch_8
theorem hi_X0_columnsInUse_X0 : ∀ w ∈ u_ws RX0 TX0 8, w ∈ wsX0_columnsInUse := fun w h => (List.mem_cons_of_mem _ (List.mem_append_right _ h))
set_option maxHeartbeats 4000000 in
set_option maxRecDepth 100000 in
theorem mt_X0_columnsInUse (l : Launch) (D : va_G) (cI : ClassId) (ad : Nat → Nat) (F : Nat → Int32) (G : Nat → Nat → Int32)  (rv : Int32) (h : f_X0_columnsInUse F G  = some rv) : Met l yX0_columnsInUse wsX0_columnsInUse ({ frames := 0, cells := 0, slots := 0, locals := 0 } : Room) (va_Pc [.ref (ad 38)] (chR D cI ad F G)) (vp_Si (fun z => z = rv)) 0 0 (fun _ => False) := by
  refine Met.ofW (cc := cX0_columnsInUse) (maxL := 1) (ret := (some .int)) (by decide) rfl ?_
  intro p e s m args below meth c s₁ B hml hv
  obtain ⟨rfl, hP, hK, hN⟩ := hv
  have hx := B.exec
  have hb := B.bytes
  have hr := B.returns
  have hts := atoms_spec (ws := wsX0_columnsInUse) B.pre
  have hown : s.vm.findClass RX0 = some m.cls := findClass_of_methodNamed B.named
  have hlocks := B.notSynchronized
  have hl := lv_entry ([.ref (ad 38)]) (n := 1) (Nat.le_of_ble_eq_true rfl)
  rw [lg_entry_eq]
  generalize (lg_sl ([.ref (ad 38)]) ++ List.replicate (1 - (lg_sl ([.ref (ad 38)])).length) Slot.unset).toArray = ls at hl ⊢
  have hl : lv_has ls 1 [(0, .ref (ad 38))] := hl
  refine lv_aload_n hx hb dX0_columnsInUse_0 rfl (lv_at hl 0 rfl) ?_
  refine va_get hx hb hts hi_X0_columnsInUse_X0 hown hK hP 0 (ch_o38 cI ad F G) rfl 5 (by decide) (hts _ (List.mem_of_getElem? (i := 1) rfl)) (fun _ h9 => h9) rfl dX0_columnsInUse_1 ?_
  refine q_if_ne (tgt := 12) hx hb dX0_columnsInUse_4 (by decide) h (fun h => ?_) (fun h => ?_)
  · refine lv_aload_n hx hb dX0_columnsInUse_12 rfl (lv_at hl 0 rfl) ?_
    refine va_get hx hb hts hi_X0_columnsInUse_X0 hown hK hP 0 (ch_o38 cI ad F G) rfl 5 (by decide) (hts _ (List.mem_of_getElem? (i := 1) rfl)) (fun _ h9 => h9) rfl dX0_columnsInUse_13 ?_
    exact W.iret hx hb hr (fun t ht hW => ⟨_, rfl, Option.some.inj h, ht⟩) (fun q hq9 => by cases hq9) dX0_columnsInUse_16
  · refine lv_bipush (v := 12) hx hb dX0_columnsInUse_7 (by decide) ?_
    refine lv_goto (tgt := 16) hx hb dX0_columnsInUse_9 (by decide) ?_
    exact W.iret hx hb hr (fun t ht hW => ⟨_, rfl, Option.some.inj h, ht⟩) (fun q hq9 => by cases hq9) dX0_columnsInUse_16
set_option maxHeartbeats 4000000 in
set_option maxRecDepth 100000 in
theorem mt_X0_holdsRun (l : Launch) (D : va_G) (cI : ClassId) (ad : Nat → Nat) (F : Nat → Int32) (G : Nat → Nat → Int32) (x1 : Int32) (x2 : Int32) (x3 : Int32) (rv : Int32) (h : f_X0_holdsRun F G x1 x2 x3 = some rv) : Met l yX0_holdsRun wsX0_holdsRun ({ frames := 2, cells := 0, slots := 0, locals := 43 } : Room) (va_Pc [.ref (ad 38), .int x1, .int x2, .int x3] (chR D cI ad F G)) (vp_Si (fun z => z = rv)) 0 0 (fun _ => False) := by
  refine Met.ofW (cc := cX0_holdsRun) (maxL := 4) (ret := (some .boolean)) (by decide) rfl ?_
  intro p e s m args below meth c s₁ B hml hv
  obtain ⟨rfl, hP, hK, hN⟩ := hv
  have hx := B.exec
  have hb := B.bytes
  have hr := B.returns
  have hts := atoms_spec (ws := wsX0_holdsRun) B.pre
  have hown : s.vm.findClass RX0 = some m.cls := findClass_of_methodNamed B.named
  have hlocks := B.notSynchronized
  have hl := lv_entry ([.ref (ad 38), .int x1, .int x2, .int x3]) (n := 4) (Nat.le_of_ble_eq_true rfl)
  rw [lg_entry_eq]
  generalize (lg_sl ([.ref (ad 38), .int x1, .int x2, .int x3]) ++ List.replicate (4 - (lg_sl ([.ref (ad 38), .int x1, .int x2, .int x3])).length) Slot.unset).toArray = ls at hl ⊢
  have hl : lv_has ls 4 [(0, .ref (ad 38)), (1, .int (x1)), (2, .int (x2)), (3, .int (x3))] := hl
  refine lv_iload_n hx hb dX0_holdsRun_0 rfl (lv_at hl 1 rfl) ?_
  refine lv_iload_n hx hb dX0_holdsRun_1 rfl (lv_at hl 2 rfl) ?_
  obtain ⟨v1, hc2, h⟩ := q_some h
  refine q_cs (va_Run.run (va_runSN (As := [.int (x1), .int (x2)]) (rest := []) ⟨hx, hb, hml, hown, hts⟩ (mt_X4_isCell l x1 x2 v1 hc2) ⟨va_cnB 2 hts gX0_holdsRun_X4_isCell_n43 rfl rfl rfl hN.1 (hts _ (List.mem_of_getElem? (i := 2) rfl)) (by decide +kernel) ⟨Nat.le_of_ble_eq_true rfl, Nat.le_of_ble_eq_true rfl⟩, hts _ (List.mem_of_getElem? (i := 1) rfl), trivial⟩ q_pr0 rfl rfl hl.1 rfl (lv_room (Nat.le_of_ble_eq_true rfl)) dX0_holdsRun_2 ⟨Nat.le_of_ble_eq_true rfl, Nat.le_of_ble_eq_true rfl⟩)) ?_
  refine q_if_eq (tgt := 32) hx hb dX0_holdsRun_5 (by decide) h (fun h => ?_) (fun h => ?_)
  · refine lv_iconst (v := 0) hx hb dX0_holdsRun_32 (by decide) ?_
    exact W.zret hx hb hr rfl (fun t ht hW => ⟨_, rfl, Option.some.inj h, ht⟩) (fun q hq9 => by cases hq9) dX0_holdsRun_33
  · refine lv_iload_n hx hb dX0_holdsRun_8 rfl (lv_at hl 3 rfl) ?_
    refine lv_iconst (v := 1) hx hb dX0_holdsRun_9 (by decide) ?_
    refine lv_bipush (v := 12) hx hb dX0_holdsRun_10 (by decide) ?_
    obtain ⟨v3, hc4, h⟩ := q_some h
    refine q_cs (va_Run.run (va_runSN (As := [.int (x3), .int ((1 : Int32)), .int ((12 : Int32))]) (rest := []) ⟨hx, hb, hml, hown, hts⟩ (mt_X4_isWithin l x3 (1 : Int32) (12 : Int32) v3 hc4) ⟨va_cnB 3 hts gX0_holdsRun_X4_isWithin_n47 rfl rfl rfl hN.2.1 (hts _ (List.mem_of_getElem? (i := 2) rfl)) (by decide +kernel) ⟨Nat.le_of_ble_eq_true rfl, Nat.le_of_ble_eq_true rfl⟩, hts _ (List.mem_of_getElem? (i := 5) rfl), trivial⟩ q_pr0 rfl rfl hl.1 rfl (lv_room (Nat.le_of_ble_eq_true rfl)) dX0_holdsRun_12 ⟨Nat.le_of_ble_eq_true rfl, Nat.le_of_ble_eq_true rfl⟩)) ?_
    refine q_if_eq (tgt := 32) hx hb dX0_holdsRun_15 (by decide) h (fun h => ?_) (fun h => ?_)
    · refine lv_iconst (v := 0) hx hb dX0_holdsRun_32 (by decide) ?_
      exact W.zret hx hb hr rfl (fun t ht hW => ⟨_, rfl, Option.some.inj h, ht⟩) (fun q hq9 => by cases hq9) dX0_holdsRun_33
    · refine lv_iload_n hx hb dX0_holdsRun_18 rfl (lv_at hl 2 rfl) ?_
      refine lv_iload_n hx hb dX0_holdsRun_19 rfl (lv_at hl 3 rfl) ?_
      refine lv_iadd hx hb dX0_holdsRun_20 ?_
      refine lv_aload_n hx hb dX0_holdsRun_21 rfl (lv_at hl 0 rfl) ?_
      obtain ⟨v5, hc6, h⟩ := q_some h
      refine q_cs (W.runV (C := RX0) (As := []) (rest := [.int ((x2 + x3))]) ⟨hx, hb, hml, hown, hts⟩ (mt_X0_columnsInUse l D cI ad F G  v5 hc6) (cwV 0 hts gX0_holdsRun_X0_columnsInUse rfl rfl rfl (by decide +kernel) ⟨Nat.le_of_ble_eq_true rfl, Nat.le_of_ble_eq_true rfl⟩) ⟨chR_b, va_recv hK hP (ci := 0) (q0 := 0) rfl rfl, (chR_p hP hK hN).2⟩ rfl rfl hl.1 rfl (lv_room (Nat.le_of_ble_eq_true rfl)) dX0_holdsRun_22 ⟨Nat.le_of_ble_eq_true rfl, Nat.le_of_ble_eq_true rfl⟩) ?_
      refine q_icmp_gt (tgt := 32) hx hb dX0_holdsRun_25 (by decide) h (fun h => ?_) (fun h => ?_)
      · refine lv_iconst (v := 0) hx hb dX0_holdsRun_32 (by decide) ?_
        exact W.zret hx hb hr rfl (fun t ht hW => ⟨_, rfl, Option.some.inj h, ht⟩) (fun q hq9 => by cases hq9) dX0_holdsRun_33
      · refine lv_iconst (v := 1) hx hb dX0_holdsRun_28 (by decide) ?_
        refine lv_goto (tgt := 33) hx hb dX0_holdsRun_29 (by decide) ?_
        exact W.zret hx hb hr rfl (fun t ht hW => ⟨_, rfl, Option.some.inj h, ht⟩) (fun q hq9 => by cases hq9) dX0_holdsRun_33
theorem hi_X0_colourAt_X0 : ∀ w ∈ u_ws RX0 TX0 8, w ∈ wsX0_colourAt := fun w h => (List.mem_cons_of_mem _ (List.mem_append_right _ h))
set_option maxHeartbeats 4000000 in
set_option maxRecDepth 100000 in
theorem mt_X0_colourAt (l : Launch) (D : va_G) (cI : ClassId) (ad : Nat → Nat) (F : Nat → Int32) (G : Nat → Nat → Int32) (x1 : Int32) (x2 : Int32) (rv : Int32) (h : f_X0_colourAt F G x1 x2 = some rv) : Met l yX0_colourAt wsX0_colourAt ({ frames := 2, cells := 0, slots := 0, locals := 43 } : Room) (va_Pc [.ref (ad 38), .int x1, .int x2] (chR D cI ad F G)) (vp_Si (fun z => z = rv)) 0 0 (fun _ => False) := by
  refine Met.ofW (cc := cX0_colourAt) (maxL := 3) (ret := (some .int)) (by decide) rfl ?_
  intro p e s m args below meth c s₁ B hml hv
  obtain ⟨rfl, hP, hK, hN⟩ := hv
  have hx := B.exec
  have hb := B.bytes
  have hr := B.returns
  have hts := atoms_spec (ws := wsX0_colourAt) B.pre
  have hown : s.vm.findClass RX0 = some m.cls := findClass_of_methodNamed B.named
  have hlocks := B.notSynchronized
  have hl := lv_entry ([.ref (ad 38), .int x1, .int x2]) (n := 3) (Nat.le_of_ble_eq_true rfl)
  rw [lg_entry_eq]
  generalize (lg_sl ([.ref (ad 38), .int x1, .int x2]) ++ List.replicate (3 - (lg_sl ([.ref (ad 38), .int x1, .int x2])).length) Slot.unset).toArray = ls at hl ⊢
  have hl : lv_has ls 3 [(0, .ref (ad 38)), (1, .int (x1)), (2, .int (x2))] := hl
  refine lv_iload_n hx hb dX0_colourAt_0 rfl (lv_at hl 1 rfl) ?_
  refine lv_iload_n hx hb dX0_colourAt_1 rfl (lv_at hl 2 rfl) ?_
  obtain ⟨v1, hc2, h⟩ := q_some h
  refine q_cs (va_Run.run (va_runSN (As := [.int (x1), .int (x2)]) (rest := []) ⟨hx, hb, hml, hown, hts⟩ (mt_X4_isCell l x1 x2 v1 hc2) ⟨va_cnB 2 hts gX0_colourAt_X4_isCell_n43 rfl rfl rfl hN.1 (hts _ (List.mem_of_getElem? (i := 3) rfl)) (by decide +kernel) ⟨Nat.le_of_ble_eq_true rfl, Nat.le_of_ble_eq_true rfl⟩, hts _ (List.mem_of_getElem? (i := 2) rfl), trivial⟩ q_pr0 rfl rfl hl.1 rfl (lv_room (Nat.le_of_ble_eq_true rfl)) dX0_colourAt_2 ⟨Nat.le_of_ble_eq_true rfl, Nat.le_of_ble_eq_true rfl⟩)) ?_
  refine q_if_eq (tgt := 22) hx hb dX0_colourAt_5 (by decide) h (fun h => ?_) (fun h => ?_)
  · refine lv_iconst (v := -1) hx hb dX0_colourAt_22 (by decide) ?_
    exact W.iret hx hb hr (fun t ht hW => ⟨_, rfl, Option.some.inj h, ht⟩) (fun q hq9 => by cases hq9) dX0_colourAt_23
  · refine lv_aload_n hx hb dX0_colourAt_8 rfl (lv_at hl 0 rfl) ?_
    refine va_get hx hb hts hi_X0_colourAt_X0 hown hK hP 0 (ch_o38 cI ad F G) rfl 0 (by decide) (hts _ (List.mem_of_getElem? (i := 1) rfl)) (fun _ h9 => h9) rfl dX0_colourAt_9 ?_
    refine lv_iload_n hx hb dX0_colourAt_12 rfl (lv_at hl 1 rfl) ?_
    refine lv_bipush (v := 12) hx hb dX0_colourAt_13 (by decide) ?_
    refine lv_imul hx hb dX0_colourAt_15 ?_
    refine lv_iload_n hx hb dX0_colourAt_16 rfl (lv_at hl 2 rfl) ?_
    refine lv_iadd hx hb dX0_colourAt_17 ?_
    refine q_ld hx hb hK hP 1 0 (ch_a30 cI ad F G) rfl dX0_colourAt_18 h (fun v3 h => ?_)
    refine lv_goto (tgt := 23) hx hb dX0_colourAt_19 (by decide) ?_
    exact W.iret hx hb hr (fun t ht hW => ⟨_, rfl, Option.some.inj h, ht⟩) (fun q hq9 => by cases hq9) dX0_colourAt_23
theorem hi_X0_hasBeadsFrom_X0 : ∀ w ∈ u_ws RX0 TX0 8, w ∈ wsX0_hasBeadsFrom := fun w h => (List.mem_cons_of_mem _ (List.mem_append_right _ h))
set_option maxHeartbeats 4000000 in
set_option maxRecDepth 100000 in
theorem mt_X0_hasBeadsFrom (l : Launch) (D : va_G) (cI : ClassId) (ad : Nat → Nat) (F : Nat → Int32) (G : Nat → Nat → Int32) (x1 : Int32) (rv : Int32) (h : f_X0_hasBeadsFrom F G x1 = some rv) : Met l yX0_hasBeadsFrom wsX0_hasBeadsFrom ({ frames := 0, cells := 0, slots := 0, locals := 0 } : Room) (va_Pc [.ref (ad 38), .int x1] (chR D cI ad F G)) (vp_Si (fun z => z = rv)) 0 0 (fun _ => False) := by
  refine Met.ofW (cc := cX0_hasBeadsFrom) (maxL := 3) (ret := (some .boolean)) (by decide) rfl ?_
  intro p e s m args below meth c s₁ B hml hv
  obtain ⟨rfl, hP, hK, hN⟩ := hv
  have hx := B.exec
  have hb := B.bytes
  have hr := B.returns
  have hts := atoms_spec (ws := wsX0_hasBeadsFrom) B.pre
  have hown : s.vm.findClass RX0 = some m.cls := findClass_of_methodNamed B.named
  have hlocks := B.notSynchronized
  have hl := lv_entry ([.ref (ad 38), .int x1]) (n := 3) (Nat.le_of_ble_eq_true rfl)
  rw [lg_entry_eq]
  generalize (lg_sl ([.ref (ad 38), .int x1]) ++ List.replicate (3 - (lg_sl ([.ref (ad 38), .int x1])).length) Slot.unset).toArray = ls at hl ⊢
  have hl : lv_has ls 3 [(0, .ref (ad 38)), (1, .int (x1))] := hl
  have j2 : ∀ n2 : Nat, ∀ (x2 : Int32) , ∀ ls : Array Slot, lv_has ls 3 [(0, .ref (ad 38)), (1, .int (x1)), (2, .int (x2))] → f_X0_hasBeadsFrom_L2 F G x1 n2 x2 = some rv → W p l e (headSpec wsX0_hasBeadsFrom ({ frames := 0, cells := 0, slots := 0, locals := 0 } : Room)).room s m (List.toArray ([.ref (ad 38), .int x1] : List Value)) below meth c s.heap [] 0 0 (MQ below (vp_Si (fun z => z = rv)) (List.toArray ([.ref (ad 38), .int x1] : List Value)) s 0 0 (fun _ => False)) (F0 m 2 ls []) := by
    intro n2
    induction n2 with
    | zero =>
      intro x2 ls hl h
      cases h
    | succ n2 ih2 =>
      have j29 : ∀ (x2 : Int32) , ∀ ls : Array Slot, lv_has ls 3 [(0, .ref (ad 38)), (1, .int (x1)), (2, .int (x2))] → f_X0_hasBeadsFrom_B29 (f_X0_hasBeadsFrom_L2 F G x1 n2) F G x1 x2 = some rv → W p l e (headSpec wsX0_hasBeadsFrom ({ frames := 0, cells := 0, slots := 0, locals := 0 } : Room)).room s m (List.toArray ([.ref (ad 38), .int x1] : List Value)) below meth c s.heap [] 0 0 (MQ below (vp_Si (fun z => z = rv)) (List.toArray ([.ref (ad 38), .int x1] : List Value)) s 0 0 (fun _ => False)) (F0 m 29 ls []) := by
        intro x2 ls hl h
        refine q_iinc (j := 2) (d := (1 : Int32)) (lv2 := fun v1 => [(2, .int (v1)), (0, .ref (ad 38)), (1, .int (x1))]) hx hb dX0_hasBeadsFrom_29 hl rfl (by decide) (by decide) (fun _ => rfl) h (fun v1 ls hl h => ?_)
        refine lv_goto (tgt := 2) hx hb dX0_hasBeadsFrom_32 (by decide) ?_
        exact ih2 v1 _ (lv_sub hl [1, 2, 0] rfl) h
      intro x2 ls hl h
      replace h : f_X0_hasBeadsFrom_L2_b (f_X0_hasBeadsFrom_L2 F G x1 n2) F G x1 x2 = some rv := h
      refine lv_iload_n hx hb dX0_hasBeadsFrom_2 rfl (lv_at hl 2 rfl) ?_
      refine lv_sipush (v := 144) hx hb dX0_hasBeadsFrom_3 (by decide) ?_
      refine q_icmp_ge (tgt := 35) hx hb dX0_hasBeadsFrom_6 (by decide) h (fun h => ?_) (fun h => ?_)
      · refine lv_iconst (v := 0) hx hb dX0_hasBeadsFrom_35 (by decide) ?_
        exact W.zret hx hb hr rfl (fun t ht hW => ⟨_, rfl, Option.some.inj h, ht⟩) (fun q hq9 => by cases hq9) dX0_hasBeadsFrom_36
      · refine lv_iload_n hx hb dX0_hasBeadsFrom_9 rfl (lv_at hl 2 rfl) ?_
        refine lv_bipush (v := 12) hx hb dX0_hasBeadsFrom_10 (by decide) ?_
        refine lv_irem hx hb dX0_hasBeadsFrom_12 (by decide) ?_
        refine lv_iload_n hx hb dX0_hasBeadsFrom_13 rfl (lv_at hl 1 rfl) ?_
        refine q_icmp_lt (tgt := 29) hx hb dX0_hasBeadsFrom_14 (by decide) h (fun h => ?_) (fun h => ?_)
        · exact j29 x2 _ (lv_sub hl [0, 1, 2] rfl) h
        · refine lv_aload_n hx hb dX0_hasBeadsFrom_17 rfl (lv_at hl 0 rfl) ?_
          refine va_get hx hb hts hi_X0_hasBeadsFrom_X0 hown hK hP 0 (ch_o38 cI ad F G) rfl 0 (by decide) (hts _ (List.mem_of_getElem? (i := 1) rfl)) (fun _ h9 => h9) rfl dX0_hasBeadsFrom_18 ?_
          refine lv_iload_n hx hb dX0_hasBeadsFrom_21 rfl (lv_at hl 2 rfl) ?_
          refine q_ld hx hb hK hP 1 0 (ch_a30 cI ad F G) rfl dX0_hasBeadsFrom_22 h (fun v2 h => ?_)
          refine lv_iconst (v := -1) hx hb dX0_hasBeadsFrom_23 (by decide) ?_
          refine q_icmp_eq (tgt := 29) hx hb dX0_hasBeadsFrom_24 (by decide) h (fun h => ?_) (fun h => ?_)
          · exact j29 x2 _ (lv_sub hl [0, 1, 2] rfl) h
          · refine lv_iconst (v := 1) hx hb dX0_hasBeadsFrom_27 (by decide) ?_
            exact W.zret hx hb hr rfl (fun t ht hW => ⟨_, rfl, Option.some.inj h, ht⟩) (fun q hq9 => by cases hq9) dX0_hasBeadsFrom_28
  refine lv_iconst (v := 0) hx hb dX0_hasBeadsFrom_0 (by decide) ?_
  refine q_nm h (fun v3 h => ?_)
  refine lv_istore_n (lv' := [(2, .int (v3)), (0, .ref (ad 38)), (1, .int (x1))]) hx hb dX0_hasBeadsFrom_1 rfl hl (by decide) rfl (fun ls hl => ?_)
  exact j2 1000 v3 _ (lv_sub hl [1, 2, 0] rfl) h
set_option maxHeartbeats 4000000 in
set_option maxRecDepth 100000 in
theorem mt_X0_beadsInRow (l : Launch) (D : va_G) (cI : ClassId) (ad : Nat → Nat) (F : Nat → Int32) (G : Nat → Nat → Int32) (x1 : Int32) (rv : Int32) (h : f_X0_beadsInRow F G x1 = some rv) : Met l yX0_beadsInRow wsX0_beadsInRow ({ frames := 3, cells := 0, slots := 0, locals := 65 } : Room) (va_Pc [.ref (ad 38), .int x1] (chR D cI ad F G)) (vp_Si (fun z => z = rv)) 0 0 (fun _ => False) := by
  refine Met.ofW (cc := cX0_beadsInRow) (maxL := 4) (ret := (some .int)) (by decide) rfl ?_
  intro p e s m args below meth c s₁ B hml hv
  obtain ⟨rfl, hP, hK, hN⟩ := hv
  have hx := B.exec
  have hb := B.bytes
  have hr := B.returns
  have hts := atoms_spec (ws := wsX0_beadsInRow) B.pre
  have hown : s.vm.findClass RX0 = some m.cls := findClass_of_methodNamed B.named
  have hlocks := B.notSynchronized
  have hl := lv_entry ([.ref (ad 38), .int x1]) (n := 4) (Nat.le_of_ble_eq_true rfl)
  rw [lg_entry_eq]
  generalize (lg_sl ([.ref (ad 38), .int x1]) ++ List.replicate (4 - (lg_sl ([.ref (ad 38), .int x1])).length) Slot.unset).toArray = ls at hl ⊢
  have hl : lv_has ls 4 [(0, .ref (ad 38)), (1, .int (x1))] := hl
  have j4 : ∀ n4 : Nat, ∀ (x2 : Int32) (x3 : Int32) , ∀ ls : Array Slot, lv_has ls 4 [(0, .ref (ad 38)), (1, .int (x1)), (2, .int (x2)), (3, .int (x3))] → f_X0_beadsInRow_L4 F G x1 n4 x2 x3 = some rv → W p l e (headSpec wsX0_beadsInRow ({ frames := 3, cells := 0, slots := 0, locals := 65 } : Room)).room s m (List.toArray ([.ref (ad 38), .int x1] : List Value)) below meth c s.heap [] 0 0 (MQ below (vp_Si (fun z => z = rv)) (List.toArray ([.ref (ad 38), .int x1] : List Value)) s 0 0 (fun _ => False)) (F0 m 4 ls []) := by
    intro n4
    induction n4 with
    | zero =>
      intro x2 x3 ls hl h
      cases h
    | succ n4 ih4 =>
      have j23 : ∀ (x2 : Int32) (x3 : Int32) , ∀ ls : Array Slot, lv_has ls 4 [(0, .ref (ad 38)), (1, .int (x1)), (2, .int (x2)), (3, .int (x3))] → f_X0_beadsInRow_B23 (f_X0_beadsInRow_L4 F G x1 n4) F G x1 x2 x3 = some rv → W p l e (headSpec wsX0_beadsInRow ({ frames := 3, cells := 0, slots := 0, locals := 65 } : Room)).room s m (List.toArray ([.ref (ad 38), .int x1] : List Value)) below meth c s.heap [] 0 0 (MQ below (vp_Si (fun z => z = rv)) (List.toArray ([.ref (ad 38), .int x1] : List Value)) s 0 0 (fun _ => False)) (F0 m 23 ls []) := by
        intro x2 x3 ls hl h
        refine q_iinc (j := 3) (d := (1 : Int32)) (lv2 := fun v1 => [(3, .int (v1)), (0, .ref (ad 38)), (1, .int (x1)), (2, .int (x2))]) hx hb dX0_beadsInRow_23 hl rfl (by decide) (by decide) (fun _ => rfl) h (fun v1 ls hl h => ?_)
        refine lv_goto (tgt := 4) hx hb dX0_beadsInRow_26 (by decide) ?_
        exact ih4 x2 v1 _ (lv_sub hl [1, 2, 3, 0] rfl) h
      intro x2 x3 ls hl h
      replace h : f_X0_beadsInRow_L4_b (f_X0_beadsInRow_L4 F G x1 n4) F G x1 x2 x3 = some rv := h
      refine lv_iload_n hx hb dX0_beadsInRow_4 rfl (lv_at hl 3 rfl) ?_
      refine lv_bipush (v := 12) hx hb dX0_beadsInRow_5 (by decide) ?_
      refine q_icmp_ge (tgt := 29) hx hb dX0_beadsInRow_7 (by decide) h (fun h => ?_) (fun h => ?_)
      · refine lv_iload_n hx hb dX0_beadsInRow_29 rfl (lv_at hl 2 rfl) ?_
        exact W.iret hx hb hr (fun t ht hW => ⟨_, rfl, Option.some.inj h, ht⟩) (fun q hq9 => by cases hq9) dX0_beadsInRow_30
      · refine lv_aload_n hx hb dX0_beadsInRow_10 rfl (lv_at hl 0 rfl) ?_
        refine lv_iload_n hx hb dX0_beadsInRow_11 rfl (lv_at hl 1 rfl) ?_
        refine lv_iload_n hx hb dX0_beadsInRow_12 rfl (lv_at hl 3 rfl) ?_
        obtain ⟨v2, hc3, h⟩ := q_some h
        refine q_cs (W.runV (C := RX0) (As := [.int (x1), .int (x3)]) (rest := []) ⟨hx, hb, hml, hown, hts⟩ (mt_X0_colourAt l D cI ad F G x1 x3 v2 hc3) (cwV 2 hts gX0_beadsInRow_X0_colourAt rfl rfl rfl (by decide +kernel) ⟨Nat.le_of_ble_eq_true rfl, Nat.le_of_ble_eq_true rfl⟩) ⟨chR_b, va_recv hK hP (ci := 0) (q0 := 0) rfl rfl, (chR_p hP hK hN).2⟩ rfl rfl hl.1 rfl (lv_room (Nat.le_of_ble_eq_true rfl)) dX0_beadsInRow_13 ⟨Nat.le_of_ble_eq_true rfl, Nat.le_of_ble_eq_true rfl⟩) ?_
        refine lv_iconst (v := -1) hx hb dX0_beadsInRow_16 (by decide) ?_
        refine q_icmp_eq (tgt := 23) hx hb dX0_beadsInRow_17 (by decide) h (fun h => ?_) (fun h => ?_)
        · exact j23 x2 x3 _ (lv_sub hl [0, 1, 2, 3] rfl) h
        · refine q_iinc (j := 2) (d := (1 : Int32)) (lv2 := fun v4 => [(2, .int (v4)), (0, .ref (ad 38)), (1, .int (x1)), (3, .int (x3))]) hx hb dX0_beadsInRow_20 hl rfl (by decide) (by decide) (fun _ => rfl) h (fun v4 ls hl h => ?_)
          exact j23 v4 x3 _ (lv_sub hl [1, 2, 0, 3] rfl) h
  refine lv_iconst (v := 0) hx hb dX0_beadsInRow_0 (by decide) ?_
  refine q_nm h (fun v5 h => ?_)
  refine lv_istore_n (lv' := [(2, .int (v5)), (0, .ref (ad 38)), (1, .int (x1))]) hx hb dX0_beadsInRow_1 rfl hl (by decide) rfl (fun ls hl => ?_)
  refine lv_iconst (v := 0) hx hb dX0_beadsInRow_2 (by decide) ?_
  refine q_nm h (fun v6 h => ?_)
  refine lv_istore_n (lv' := [(3, .int (v6)), (2, .int (v5)), (0, .ref (ad 38)), (1, .int (x1))]) hx hb dX0_beadsInRow_3 rfl hl (by decide) rfl (fun ls hl => ?_)
  exact j4 1000 v5 v6 _ (lv_sub hl [2, 3, 1, 0] rfl) h
set_option maxHeartbeats 4000000 in
set_option maxRecDepth 100000 in
theorem mt_X0_rowsWithBeads (l : Launch) (D : va_G) (cI : ClassId) (ad : Nat → Nat) (F : Nat → Int32) (G : Nat → Nat → Int32)  (rv : Int32) (h : f_X0_rowsWithBeads F G  = some rv) : Met l yX0_rowsWithBeads wsX0_rowsWithBeads ({ frames := 4, cells := 0, slots := 0, locals := 88 } : Room) (va_Pc [.ref (ad 38)] (chR D cI ad F G)) (vp_Si (fun z => z = rv)) 0 0 (fun _ => False) := by
  refine Met.ofW (cc := cX0_rowsWithBeads) (maxL := 3) (ret := (some .int)) (by decide) rfl ?_
  intro p e s m args below meth c s₁ B hml hv
  obtain ⟨rfl, hP, hK, hN⟩ := hv
  have hx := B.exec
  have hb := B.bytes
  have hr := B.returns
  have hts := atoms_spec (ws := wsX0_rowsWithBeads) B.pre
  have hown : s.vm.findClass RX0 = some m.cls := findClass_of_methodNamed B.named
  have hlocks := B.notSynchronized
  have hl := lv_entry ([.ref (ad 38)]) (n := 3) (Nat.le_of_ble_eq_true rfl)
  rw [lg_entry_eq]
  generalize (lg_sl ([.ref (ad 38)]) ++ List.replicate (3 - (lg_sl ([.ref (ad 38)])).length) Slot.unset).toArray = ls at hl ⊢
  have hl : lv_has ls 3 [(0, .ref (ad 38))] := hl
  have j4 : ∀ n4 : Nat, ∀ (x1 : Int32) (x2 : Int32) , ∀ ls : Array Slot, lv_has ls 3 [(0, .ref (ad 38)), (1, .int (x1)), (2, .int (x2))] → f_X0_rowsWithBeads_L4 F G n4 x1 x2 = some rv → W p l e (headSpec wsX0_rowsWithBeads ({ frames := 4, cells := 0, slots := 0, locals := 88 } : Room)).room s m (List.toArray ([.ref (ad 38)] : List Value)) below meth c s.heap [] 0 0 (MQ below (vp_Si (fun z => z = rv)) (List.toArray ([.ref (ad 38)] : List Value)) s 0 0 (fun _ => False)) (F0 m 4 ls []) := by
    intro n4
    induction n4 with
    | zero =>
      intro x1 x2 ls hl h
      cases h
    | succ n4 ih4 =>
      have j21 : ∀ (x1 : Int32) (x2 : Int32) , ∀ ls : Array Slot, lv_has ls 3 [(0, .ref (ad 38)), (1, .int (x1)), (2, .int (x2))] → f_X0_rowsWithBeads_B21 (f_X0_rowsWithBeads_L4 F G n4) F G x1 x2 = some rv → W p l e (headSpec wsX0_rowsWithBeads ({ frames := 4, cells := 0, slots := 0, locals := 88 } : Room)).room s m (List.toArray ([.ref (ad 38)] : List Value)) below meth c s.heap [] 0 0 (MQ below (vp_Si (fun z => z = rv)) (List.toArray ([.ref (ad 38)] : List Value)) s 0 0 (fun _ => False)) (F0 m 21 ls []) := by
        intro x1 x2 ls hl h
        refine q_iinc (j := 2) (d := (1 : Int32)) (lv2 := fun v1 => [(2, .int (v1)), (0, .ref (ad 38)), (1, .int (x1))]) hx hb dX0_rowsWithBeads_21 hl rfl (by decide) (by decide) (fun _ => rfl) h (fun v1 ls hl h => ?_)
        refine lv_goto (tgt := 4) hx hb dX0_rowsWithBeads_24 (by decide) ?_
        exact ih4 x1 v1 _ (lv_sub hl [1, 2, 0] rfl) h
      intro x1 x2 ls hl h
      replace h : f_X0_rowsWithBeads_L4_b (f_X0_rowsWithBeads_L4 F G n4) F G x1 x2 = some rv := h
      refine lv_iload_n hx hb dX0_rowsWithBeads_4 rfl (lv_at hl 2 rfl) ?_
      refine lv_bipush (v := 12) hx hb dX0_rowsWithBeads_5 (by decide) ?_
      refine q_icmp_ge (tgt := 27) hx hb dX0_rowsWithBeads_7 (by decide) h (fun h => ?_) (fun h => ?_)
      · refine lv_iload_n hx hb dX0_rowsWithBeads_27 rfl (lv_at hl 1 rfl) ?_
        exact W.iret hx hb hr (fun t ht hW => ⟨_, rfl, Option.some.inj h, ht⟩) (fun q hq9 => by cases hq9) dX0_rowsWithBeads_28
      · refine lv_aload_n hx hb dX0_rowsWithBeads_10 rfl (lv_at hl 0 rfl) ?_
        refine lv_iload_n hx hb dX0_rowsWithBeads_11 rfl (lv_at hl 2 rfl) ?_
        obtain ⟨v2, hc3, h⟩ := q_some h
        refine q_cs (W.runV (C := RX0) (As := [.int (x2)]) (rest := []) ⟨hx, hb, hml, hown, hts⟩ (mt_X0_beadsInRow l D cI ad F G x2 v2 hc3) (cwV 1 hts gX0_rowsWithBeads_X0_beadsInRow rfl rfl rfl (by decide +kernel) ⟨Nat.le_of_ble_eq_true rfl, Nat.le_of_ble_eq_true rfl⟩) ⟨chR_b, va_recv hK hP (ci := 0) (q0 := 0) rfl rfl, (chR_p hP hK hN).2⟩ rfl rfl hl.1 rfl (lv_room (Nat.le_of_ble_eq_true rfl)) dX0_rowsWithBeads_12 ⟨Nat.le_of_ble_eq_true rfl, Nat.le_of_ble_eq_true rfl⟩) ?_
        refine q_if_le (tgt := 21) hx hb dX0_rowsWithBeads_15 (by decide) h (fun h => ?_) (fun h => ?_)
        · exact j21 x1 x2 _ (lv_sub hl [0, 1, 2] rfl) h
        · refine q_iinc (j := 1) (d := (1 : Int32)) (lv2 := fun v4 => [(1, .int (v4)), (0, .ref (ad 38)), (2, .int (x2))]) hx hb dX0_rowsWithBeads_18 hl rfl (by decide) (by decide) (fun _ => rfl) h (fun v4 ls hl h => ?_)
          exact j21 v4 x2 _ (lv_sub hl [1, 0, 2] rfl) h
  refine lv_iconst (v := 0) hx hb dX0_rowsWithBeads_0 (by decide) ?_
  refine q_nm h (fun v5 h => ?_)
  refine lv_istore_n (lv' := [(1, .int (v5)), (0, .ref (ad 38))]) hx hb dX0_rowsWithBeads_1 rfl hl (by decide) rfl (fun ls hl => ?_)
  refine lv_iconst (v := 0) hx hb dX0_rowsWithBeads_2 (by decide) ?_
  refine q_nm h (fun v6 h => ?_)
  refine lv_istore_n (lv' := [(2, .int (v6)), (1, .int (v5)), (0, .ref (ad 38))]) hx hb dX0_rowsWithBeads_3 rfl hl (by decide) rfl (fun ls hl => ?_)
  exact j4 1000 v5 v6 _ (lv_sub hl [2, 1, 0] rfl) h
theorem hi_X0_cellsThatHold_X0 : ∀ w ∈ u_ws RX0 TX0 8, w ∈ wsX0_cellsThatHold := fun w h => (List.mem_cons_of_mem _ (List.mem_append_right _ h))
set_option maxHeartbeats 4000000 in
set_option maxRecDepth 100000 in
theorem mt_X0_cellsThatHold (l : Launch) (D : va_G) (cI : ClassId) (ad : Nat → Nat) (F : Nat → Int32) (G : Nat → Nat → Int32) (x1 : Int32) (rv : Int32) (h : f_X0_cellsThatHold F G x1 = some rv) : Met l yX0_cellsThatHold wsX0_cellsThatHold ({ frames := 0, cells := 0, slots := 0, locals := 0 } : Room) (va_Pc [.ref (ad 38), .int x1] (chR D cI ad F G)) (vp_Si (fun z => z = rv)) 0 0 (fun _ => False) := by
  refine Met.ofW (cc := cX0_cellsThatHold) (maxL := 4) (ret := (some .int)) (by decide) rfl ?_
  intro p e s m args below meth c s₁ B hml hv
  obtain ⟨rfl, hP, hK, hN⟩ := hv
  have hx := B.exec
  have hb := B.bytes
  have hr := B.returns
  have hts := atoms_spec (ws := wsX0_cellsThatHold) B.pre
  have hown : s.vm.findClass RX0 = some m.cls := findClass_of_methodNamed B.named
  have hlocks := B.notSynchronized
  have hl := lv_entry ([.ref (ad 38), .int x1]) (n := 4) (Nat.le_of_ble_eq_true rfl)
  rw [lg_entry_eq]
  generalize (lg_sl ([.ref (ad 38), .int x1]) ++ List.replicate (4 - (lg_sl ([.ref (ad 38), .int x1])).length) Slot.unset).toArray = ls at hl ⊢
  have hl : lv_has ls 4 [(0, .ref (ad 38)), (1, .int (x1))] := hl
  have j4 : ∀ n4 : Nat, ∀ (x2 : Int32) (x3 : Int32) , ∀ ls : Array Slot, lv_has ls 4 [(0, .ref (ad 38)), (1, .int (x1)), (2, .int (x2)), (3, .int (x3))] → f_X0_cellsThatHold_L4 F G x1 n4 x2 x3 = some rv → W p l e (headSpec wsX0_cellsThatHold ({ frames := 0, cells := 0, slots := 0, locals := 0 } : Room)).room s m (List.toArray ([.ref (ad 38), .int x1] : List Value)) below meth c s.heap [] 0 0 (MQ below (vp_Si (fun z => z = rv)) (List.toArray ([.ref (ad 38), .int x1] : List Value)) s 0 0 (fun _ => False)) (F0 m 4 ls []) := by
    intro n4
    induction n4 with
    | zero =>
      intro x2 x3 ls hl h
      cases h
    | succ n4 ih4 =>
      have j24 : ∀ (x2 : Int32) (x3 : Int32) , ∀ ls : Array Slot, lv_has ls 4 [(0, .ref (ad 38)), (1, .int (x1)), (2, .int (x2)), (3, .int (x3))] → f_X0_cellsThatHold_B24 (f_X0_cellsThatHold_L4 F G x1 n4) F G x1 x2 x3 = some rv → W p l e (headSpec wsX0_cellsThatHold ({ frames := 0, cells := 0, slots := 0, locals := 0 } : Room)).room s m (List.toArray ([.ref (ad 38), .int x1] : List Value)) below meth c s.heap [] 0 0 (MQ below (vp_Si (fun z => z = rv)) (List.toArray ([.ref (ad 38), .int x1] : List Value)) s 0 0 (fun _ => False)) (F0 m 24 ls []) := by
        intro x2 x3 ls hl h
        refine q_iinc (j := 3) (d := (1 : Int32)) (lv2 := fun v1 => [(3, .int (v1)), (0, .ref (ad 38)), (1, .int (x1)), (2, .int (x2))]) hx hb dX0_cellsThatHold_24 hl rfl (by decide) (by decide) (fun _ => rfl) h (fun v1 ls hl h => ?_)
        refine lv_goto (tgt := 4) hx hb dX0_cellsThatHold_27 (by decide) ?_
        exact ih4 x2 v1 _ (lv_sub hl [1, 2, 3, 0] rfl) h
      intro x2 x3 ls hl h
      replace h : f_X0_cellsThatHold_L4_b (f_X0_cellsThatHold_L4 F G x1 n4) F G x1 x2 x3 = some rv := h
      refine lv_iload_n hx hb dX0_cellsThatHold_4 rfl (lv_at hl 3 rfl) ?_
      refine lv_sipush (v := 144) hx hb dX0_cellsThatHold_5 (by decide) ?_
      refine q_icmp_ge (tgt := 30) hx hb dX0_cellsThatHold_8 (by decide) h (fun h => ?_) (fun h => ?_)
      · refine lv_iload_n hx hb dX0_cellsThatHold_30 rfl (lv_at hl 2 rfl) ?_
        exact W.iret hx hb hr (fun t ht hW => ⟨_, rfl, Option.some.inj h, ht⟩) (fun q hq9 => by cases hq9) dX0_cellsThatHold_31
      · refine lv_aload_n hx hb dX0_cellsThatHold_11 rfl (lv_at hl 0 rfl) ?_
        refine va_get hx hb hts hi_X0_cellsThatHold_X0 hown hK hP 0 (ch_o38 cI ad F G) rfl 0 (by decide) (hts _ (List.mem_of_getElem? (i := 1) rfl)) (fun _ h9 => h9) rfl dX0_cellsThatHold_12 ?_
        refine lv_iload_n hx hb dX0_cellsThatHold_15 rfl (lv_at hl 3 rfl) ?_
        refine q_ld hx hb hK hP 1 0 (ch_a30 cI ad F G) rfl dX0_cellsThatHold_16 h (fun v2 h => ?_)
        refine lv_iload_n hx hb dX0_cellsThatHold_17 rfl (lv_at hl 1 rfl) ?_
        refine q_icmp_ne (tgt := 24) hx hb dX0_cellsThatHold_18 (by decide) h (fun h => ?_) (fun h => ?_)
        · exact j24 x2 x3 _ (lv_sub hl [0, 1, 2, 3] rfl) h
        · refine q_iinc (j := 2) (d := (1 : Int32)) (lv2 := fun v3 => [(2, .int (v3)), (0, .ref (ad 38)), (1, .int (x1)), (3, .int (x3))]) hx hb dX0_cellsThatHold_21 hl rfl (by decide) (by decide) (fun _ => rfl) h (fun v3 ls hl h => ?_)
          exact j24 v3 x3 _ (lv_sub hl [1, 2, 0, 3] rfl) h
  refine lv_iconst (v := 0) hx hb dX0_cellsThatHold_0 (by decide) ?_
  refine q_nm h (fun v4 h => ?_)
  refine lv_istore_n (lv' := [(2, .int (v4)), (0, .ref (ad 38)), (1, .int (x1))]) hx hb dX0_cellsThatHold_1 rfl hl (by decide) rfl (fun ls hl => ?_)
  refine lv_iconst (v := 0) hx hb dX0_cellsThatHold_2 (by decide) ?_
  refine q_nm h (fun v5 h => ?_)
  refine lv_istore_n (lv' := [(3, .int (v5)), (2, .int (v4)), (0, .ref (ad 38)), (1, .int (x1))]) hx hb dX0_cellsThatHold_3 rfl hl (by decide) rfl (fun ls hl => ?_)
  exact j4 1000 v4 v5 _ (lv_sub hl [2, 3, 1, 0] rfl) h
set_option maxHeartbeats 4000000 in
set_option maxRecDepth 100000 in
theorem mt_X0_allBeads (l : Launch) (D : va_G) (cI : ClassId) (ad : Nat → Nat) (F : Nat → Int32) (G : Nat → Nat → Int32)  (rv : Int32) (h : f_X0_allBeads F G  = some rv) : Met l yX0_allBeads wsX0_allBeads ({ frames := 1, cells := 0, slots := 0, locals := 23 } : Room) (va_Pc [.ref (ad 38)] (chR D cI ad F G)) (vp_Si (fun z => z = rv)) 0 0 (fun _ => False) := by
  refine Met.ofW (cc := cX0_allBeads) (maxL := 1) (ret := (some .int)) (by decide) rfl ?_
  intro p e s m args below meth c s₁ B hml hv
  obtain ⟨rfl, hP, hK, hN⟩ := hv
  have hx := B.exec
  have hb := B.bytes
  have hr := B.returns
  have hts := atoms_spec (ws := wsX0_allBeads) B.pre
  have hown : s.vm.findClass RX0 = some m.cls := findClass_of_methodNamed B.named
  have hlocks := B.notSynchronized
  have hl := lv_entry ([.ref (ad 38)]) (n := 1) (Nat.le_of_ble_eq_true rfl)
  rw [lg_entry_eq]
  generalize (lg_sl ([.ref (ad 38)]) ++ List.replicate (1 - (lg_sl ([.ref (ad 38)])).length) Slot.unset).toArray = ls at hl ⊢
  have hl : lv_has ls 1 [(0, .ref (ad 38))] := hl
  refine lv_sipush (v := 144) hx hb dX0_allBeads_0 (by decide) ?_
  refine lv_aload_n hx hb dX0_allBeads_3 rfl (lv_at hl 0 rfl) ?_
  refine lv_iconst (v := -1) hx hb dX0_allBeads_4 (by decide) ?_
  obtain ⟨v1, hc2, h⟩ := q_some h
  refine q_cs (W.runV (C := RX0) (As := [.int ((-1 : Int32))]) (rest := [.int ((144 : Int32))]) ⟨hx, hb, hml, hown, hts⟩ (mt_X0_cellsThatHold l D cI ad F G (-1 : Int32) v1 hc2) (cwV 1 hts gX0_allBeads_X0_cellsThatHold rfl rfl rfl (by decide +kernel) ⟨Nat.le_of_ble_eq_true rfl, Nat.le_of_ble_eq_true rfl⟩) ⟨chR_b, va_recv hK hP (ci := 0) (q0 := 0) rfl rfl, (chR_p hP hK hN).2⟩ rfl rfl hl.1 rfl (lv_room (Nat.le_of_ble_eq_true rfl)) dX0_allBeads_5 ⟨Nat.le_of_ble_eq_true rfl, Nat.le_of_ble_eq_true rfl⟩) ?_
  refine lv_isub hx hb dX0_allBeads_8 ?_
  exact W.iret hx hb hr (fun t ht hW => ⟨_, rfl, Option.some.inj h, ht⟩) (fun q hq9 => by cases hq9) dX0_allBeads_9
set_option maxHeartbeats 4000000 in
set_option maxRecDepth 100000 in
theorem mt_X0_beadsOfColour (l : Launch) (D : va_G) (cI : ClassId) (ad : Nat → Nat) (F : Nat → Int32) (G : Nat → Nat → Int32) (x1 : Int32) (rv : Int32) (h : f_X0_beadsOfColour F G x1 = some rv) : Met l yX0_beadsOfColour wsX0_beadsOfColour ({ frames := 1, cells := 0, slots := 0, locals := 23 } : Room) (va_Pc [.ref (ad 38), .int x1] (chR D cI ad F G)) (vp_Si (fun z => z = rv)) 0 0 (fun _ => False) := by
  refine Met.ofW (cc := cX0_beadsOfColour) (maxL := 2) (ret := (some .int)) (by decide) rfl ?_
  intro p e s m args below meth c s₁ B hml hv
  obtain ⟨rfl, hP, hK, hN⟩ := hv
  have hx := B.exec
  have hb := B.bytes
  have hr := B.returns
  have hts := atoms_spec (ws := wsX0_beadsOfColour) B.pre
  have hown : s.vm.findClass RX0 = some m.cls := findClass_of_methodNamed B.named
  have hlocks := B.notSynchronized
  have hl := lv_entry ([.ref (ad 38), .int x1]) (n := 2) (Nat.le_of_ble_eq_true rfl)
  rw [lg_entry_eq]
  generalize (lg_sl ([.ref (ad 38), .int x1]) ++ List.replicate (2 - (lg_sl ([.ref (ad 38), .int x1])).length) Slot.unset).toArray = ls at hl ⊢
  have hl : lv_has ls 2 [(0, .ref (ad 38)), (1, .int (x1))] := hl
  refine lv_aload_n hx hb dX0_beadsOfColour_0 rfl (lv_at hl 0 rfl) ?_
  refine lv_iload_n hx hb dX0_beadsOfColour_1 rfl (lv_at hl 1 rfl) ?_
  obtain ⟨v1, hc2, h⟩ := q_some h
  refine q_cs (W.runV (C := RX0) (As := [.int (x1)]) (rest := []) ⟨hx, hb, hml, hown, hts⟩ (mt_X0_cellsThatHold l D cI ad F G x1 v1 hc2) (cwV 1 hts gX0_beadsOfColour_X0_cellsThatHold rfl rfl rfl (by decide +kernel) ⟨Nat.le_of_ble_eq_true rfl, Nat.le_of_ble_eq_true rfl⟩) ⟨chR_b, va_recv hK hP (ci := 0) (q0 := 0) rfl rfl, (chR_p hP hK hN).2⟩ rfl rfl hl.1 rfl (lv_room (Nat.le_of_ble_eq_true rfl)) dX0_beadsOfColour_2 ⟨Nat.le_of_ble_eq_true rfl, Nat.le_of_ble_eq_true rfl⟩) ?_
  exact W.iret hx hb hr (fun t ht hW => ⟨_, rfl, Option.some.inj h, ht⟩) (fun q hq9 => by cases hq9) dX0_beadsOfColour_5
theorem hi_X0_putRun_X0 : ∀ w ∈ u_ws RX0 TX0 8, w ∈ wsX0_putRun := fun w h => (List.mem_cons_of_mem _ (List.mem_append_right _ h))
set_option maxHeartbeats 4000000 in
set_option maxRecDepth 100000 in
theorem mt_X0_putRun (l : Launch) (D : va_G) (cI : ClassId) (ad : Nat → Nat) (F : Nat → Int32) (G : Nat → Nat → Int32) (x1 : Int32) (x2 : Int32) (x3 : Int32) (x4 : Int64) (Fz : Nat → Int32) (Gz : Nat → Nat → Int32) (hDD : va_D (fun _ => True) (chW cI ad (fun _ => 0) (fun _ _ => 0))) (h : f_X0_putRun F G x1 x2 x3 x4 = some (Fz, Gz)) : Met l yX0_putRun wsX0_putRun ({ frames := 0, cells := 0, slots := 0, locals := 0 } : Room) (va_Pc [.ref (ad 38), .int x1, .int x2, .int x3, .long x4] (chR D cI ad F G)) (va_Qv (fun (_ : Unit) => True) (fun _ t => va_P D vwCl (chW cI ad Fz Gz) t.heap) (chA cI ad)) 0 0 (chA cI ad) := by
  refine Met.ofW (cc := cX0_putRun) (maxL := 8) (ret := none) (by decide) rfl ?_
  intro p e s m args below meth c s₁ B hml hv
  obtain ⟨rfl, hP, hK, hN⟩ := hv
  have hx := B.exec
  have hb := B.bytes
  have hr := B.returns
  have hts := atoms_spec (ws := wsX0_putRun) B.pre
  have hown : s.vm.findClass RX0 = some m.cls := findClass_of_methodNamed B.named
  have hlocks := B.notSynchronized
  have hS : va_S (chA cI ad) s.heap s.heap [] := va_S.rf
  have hl := lv_entry ([.ref (ad 38), .int x1, .int x2, .int x3, .long x4]) (n := 8) (Nat.le_of_ble_eq_true rfl)
  rw [lg_entry_eq]
  generalize (lg_sl ([.ref (ad 38), .int x1, .int x2, .int x3, .long x4]) ++ List.replicate (8 - (lg_sl ([.ref (ad 38), .int x1, .int x2, .int x3, .long x4])).length) Slot.unset).toArray = ls at hl ⊢
  have hl : lv_has ls 8 [(0, .ref (ad 38)), (1, .int (x1)), (2, .int (x2)), (3, .int (x3)), (4, .long (x4))] := hl
  have j3 : ∀ n3 : Nat, ∀ (F : Nat → Int32) (G : Nat → Nat → Int32) (x6 : Int32) (H : Heap) (locs : List Loc) , va_P D vwCl (chW cI ad F G) H → va_S (chA cI ad) s.heap H locs → ∀ ls : Array Slot, lv_has ls 8 [(0, .ref (ad 38)), (1, .int (x1)), (2, .int (x2)), (3, .int (x3)), (4, .long (x4)), (6, .int (x6))] → f_X0_putRun_L3 x1 x2 x3 x4 n3 F G x6 = some (Fz, Gz) → W p l e (headSpec wsX0_putRun ({ frames := 0, cells := 0, slots := 0, locals := 0 } : Room)).room s m (List.toArray ([.ref (ad 38), .int x1, .int x2, .int x3, .long x4] : List Value)) below meth c H locs 0 0 (MQ below (va_Qv (fun (_ : Unit) => True) (fun _ t => va_P D vwCl (chW cI ad Fz Gz) t.heap) (chA cI ad)) (List.toArray ([.ref (ad 38), .int x1, .int x2, .int x3, .long x4] : List Value)) s 0 0 (chA cI ad)) (F0 m 3 ls []) := by
    intro n3
    induction n3 with
    | zero =>
      intro F G x6 H locs hP hS ls hl h
      cases h
    | succ n3 ih3 =>
      have j57 : ∀ (F : Nat → Int32) (G : Nat → Nat → Int32) (x6 : Int32) (H : Heap) (locs : List Loc) , va_P D vwCl (chW cI ad F G) H → va_S (chA cI ad) s.heap H locs → ∀ ls : Array Slot, lv_has ls 8 [(0, .ref (ad 38)), (1, .int (x1)), (2, .int (x2)), (3, .int (x3)), (4, .long (x4)), (6, .int (x6))] → f_X0_putRun_B57 (f_X0_putRun_L3 x1 x2 x3 x4 n3) x1 x2 x3 x4 F G x6 = some (Fz, Gz) → W p l e (headSpec wsX0_putRun ({ frames := 0, cells := 0, slots := 0, locals := 0 } : Room)).room s m (List.toArray ([.ref (ad 38), .int x1, .int x2, .int x3, .long x4] : List Value)) below meth c H locs 0 0 (MQ below (va_Qv (fun (_ : Unit) => True) (fun _ t => va_P D vwCl (chW cI ad Fz Gz) t.heap) (chA cI ad)) (List.toArray ([.ref (ad 38), .int x1, .int x2, .int x3, .long x4] : List Value)) s 0 0 (chA cI ad)) (F0 m 57 ls []) := by
        intro F G x6 H locs hP hS ls hl h
        refine q_iinc (j := 5) (d := (1 : Int32)) (lv2 := fun v1 => [(6, .int (v1)), (0, .ref (ad 38)), (1, .int (x1)), (2, .int (x2)), (3, .int (x3)), (4, .long (x4))]) hx hb dX0_putRun_57 hl rfl (by decide) (by decide) (fun _ => rfl) h (fun v1 ls hl h => ?_)
        refine lv_goto (tgt := 3) hx hb dX0_putRun_60 (by decide) ?_
        exact ih3 F G v1 _ _ hP hS _ (lv_sub hl [1, 2, 3, 4, 5, 0] rfl) h
      have j56 : ∀ (F : Nat → Int32) (G : Nat → Nat → Int32) (x6 : Int32) (s1 : Int32) (s2 : Int32) (H : Heap) (locs : List Loc) , va_P D vwCl (chW cI ad F G) H → va_S (chA cI ad) s.heap H locs → ∀ ls : Array Slot, lv_has ls 8 [(0, .ref (ad 38)), (1, .int (x1)), (2, .int (x2)), (3, .int (x3)), (4, .long (x4)), (6, .int (x6))] → f_X0_putRun_B56 (f_X0_putRun_L3 x1 x2 x3 x4 n3) x1 x2 x3 x4 F G x6 s1 s2 = some (Fz, Gz) → W p l e (headSpec wsX0_putRun ({ frames := 0, cells := 0, slots := 0, locals := 0 } : Room)).room s m (List.toArray ([.ref (ad 38), .int x1, .int x2, .int x3, .long x4] : List Value)) below meth c H locs 0 0 (MQ below (va_Qv (fun (_ : Unit) => True) (fun _ t => va_P D vwCl (chW cI ad Fz Gz) t.heap) (chA cI ad)) (List.toArray ([.ref (ad 38), .int x1, .int x2, .int x3, .long x4] : List Value)) s 0 0 (chA cI ad)) (F0 m 56 ls [.int (s2), .int (s1), .ref (ad 30)]) := by
        intro F G x6 s1 s2 H locs hP hS ls hl h
        refine q_st hx hb hK hP (chW_D hDD _ _) hS 1 0 30 (fun z => chW cI ad F z) (ch_a30 cI ad F G) rfl (ch_g30 cI ad F G _) dX0_putRun_56 h (fun G2 H locs h hP hS => ?_)
        exact j57 F G2 x6 _ _ hP hS _ (lv_sub hl [0, 1, 2, 3, 4, 5] rfl) h
      intro F G x6 H locs hP hS ls hl h
      replace h : f_X0_putRun_L3_b (f_X0_putRun_L3 x1 x2 x3 x4 n3) x1 x2 x3 x4 F G x6 = some (Fz, Gz) := h
      refine lv_iload hx hb dX0_putRun_3 (lv_at hl 5 rfl) ?_
      refine lv_iload_n hx hb dX0_putRun_5 rfl (lv_at hl 3 rfl) ?_
      refine q_icmp_ge (tgt := 63) hx hb dX0_putRun_6 (by decide) h (fun h => ?_) (fun h => ?_)
      · have e2 := congrArg Prod.fst (Option.some.inj h)
        have e3 := congrArg Prod.snd (Option.some.inj h)
        dsimp only at e2 e3
        exact W.vret hx hb hr (fun t ht hW => ⟨⟨(), rfl, trivial, by show va_P D vwCl _ t.heap; rw [ht, ← e2, ← e3]; exact hP⟩, hS.F ht⟩) hS.2.2 dX0_putRun_63
      · refine lv_lload hx hb dX0_putRun_9 (lv_at hl 4 rfl) ?_
        refine lv_iconst (v := 3) hx hb dX0_putRun_11 (by decide) ?_
        refine lv_iload hx hb dX0_putRun_12 (lv_at hl 5 rfl) ?_
        refine lv_imul hx hb dX0_putRun_14 ?_
        refine lv_lushr hx hb dX0_putRun_15 rfl ?_
        refine lv_ldc2 (v := 7) hx hb hown (hts _ (List.mem_of_getElem? (i := 1) rfl)) dX0_putRun_16 ?_
        refine lv_land hx hb dX0_putRun_19 ?_
        refine lv_l2i hx hb dX0_putRun_20 rfl ?_
        refine q_nm h (fun v3 h => ?_)
        refine lv_istore (lv' := [(7, .int (v3)), (0, .ref (ad 38)), (1, .int (x1)), (2, .int (x2)), (3, .int (x3)), (4, .long (x4)), (6, .int (x6))]) hx hb dX0_putRun_21 hl (by decide) rfl (fun ls hl => ?_)
        refine lv_iload hx hb dX0_putRun_23 (lv_at hl 0 rfl) ?_
        refine lv_bipush (v := 7) hx hb dX0_putRun_25 (by decide) ?_
        refine q_icmp_eq (tgt := 57) hx hb dX0_putRun_27 (by decide) h (fun h => ?_) (fun h => ?_)
        · exact j57 F G x6 _ _ hP hS _ (lv_sub hl [1, 2, 3, 4, 5, 6] rfl) h
        · refine lv_aload_n hx hb dX0_putRun_30 rfl (lv_at hl 1 rfl) ?_
          refine va_get hx hb hts hi_X0_putRun_X0 hown hK hP 0 (ch_o38 cI ad F G) rfl 0 (by decide) (hts _ (List.mem_of_getElem? (i := 2) rfl)) (fun _ h9 => h9) rfl dX0_putRun_31 ?_
          refine lv_iload_n hx hb dX0_putRun_34 rfl (lv_at hl 2 rfl) ?_
          refine lv_bipush (v := 12) hx hb dX0_putRun_35 (by decide) ?_
          refine lv_imul hx hb dX0_putRun_37 ?_
          refine lv_iload_n hx hb dX0_putRun_38 rfl (lv_at hl 3 rfl) ?_
          refine lv_iadd hx hb dX0_putRun_39 ?_
          refine lv_iload hx hb dX0_putRun_40 (lv_at hl 6 rfl) ?_
          refine lv_iadd hx hb dX0_putRun_42 ?_
          refine lv_iload hx hb dX0_putRun_43 (lv_at hl 0 rfl) ?_
          refine lv_bipush (v := 6) hx hb dX0_putRun_45 (by decide) ?_
          refine q_icmp_ne (tgt := 54) hx hb dX0_putRun_47 (by decide) h (fun h => ?_) (fun h => ?_)
          · refine lv_iload hx hb dX0_putRun_54 (lv_at hl 0 rfl) ?_
            exact j56 F G x6 ((((x1 * (12 : Int32)) + x2) + x6)) v3 _ _ hP hS _ (lv_sub hl [1, 2, 3, 4, 5, 6] rfl) h
          · refine lv_iconst (v := -1) hx hb dX0_putRun_50 (by decide) ?_
            refine lv_goto (tgt := 56) hx hb dX0_putRun_51 (by decide) ?_
            exact j56 F G x6 ((((x1 * (12 : Int32)) + x2) + x6)) (-1 : Int32) _ _ hP hS _ (lv_sub hl [1, 2, 3, 4, 5, 6] rfl) h
  refine lv_iconst (v := 0) hx hb dX0_putRun_0 (by decide) ?_
  refine q_nm h (fun v4 h => ?_)
  refine lv_istore (lv' := [(6, .int (v4)), (0, .ref (ad 38)), (1, .int (x1)), (2, .int (x2)), (3, .int (x3)), (4, .long (x4))]) hx hb dX0_putRun_1 hl (by decide) rfl (fun ls hl => ?_)
  exact j3 1000 F G v4 _ _ hP hS _ (lv_sub hl [1, 2, 3, 4, 5, 0] rfl) h
