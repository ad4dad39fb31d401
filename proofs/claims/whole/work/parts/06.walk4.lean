set_option maxHeartbeats 4000000 in
set_option maxRecDepth 100000 in
theorem mt_X5_in (l : Launch) (x0 : Int32) (x1 : Int32) (x2 : Int32) (rv : Int32) (h : f_X5_in x0 x1 x2 = some rv) : Met l yX5_in wsX5_in ({ frames := 0, cells := 0, slots := 0, locals := 0 } : Room) (va_Pc [.int x0, .int x1, .int x2] (fun _ => True)) (vp_Si (fun z => z = rv)) 0 0 (fun _ => False) := by
  refine Met.ofW (cc := cX5_in) (maxL := 3) (ret := (some .boolean)) (by decide) rfl ?_
  intro p e s m args below meth c s₁ B hml hv
  obtain ⟨rfl, -⟩ := hv
  have hx := B.exec
  have hb := B.bytes
  have hr := B.returns
  have hts := atoms_spec (ws := wsX5_in) B.pre
  have hown : s.vm.findClass RX5 = some m.cls := findClass_of_methodNamed B.named
  have hlocks := B.notSynchronized
  have hl := lv_entry ([.int x0, .int x1, .int x2]) (n := 3) (Nat.le_of_ble_eq_true rfl)
  rw [lg_entry_eq]
  generalize (lg_sl ([.int x0, .int x1, .int x2]) ++ List.replicate (3 - (lg_sl ([.int x0, .int x1, .int x2])).length) Slot.unset).toArray = ls at hl ⊢
  have hl : lv_has ls 3 [(0, .int (x0)), (1, .int (x1)), (2, .int (x2))] := hl
  refine lv_iload_n hx hb dX5_in_0 rfl (lv_at hl 0 rfl) ?_
  refine lv_iload_n hx hb dX5_in_1 rfl (lv_at hl 1 rfl) ?_
  refine q_icmp_lt (tgt := 14) hx hb dX5_in_2 (by decide) h (fun h => ?_) (fun h => ?_)
  · refine lv_iconst (v := 0) hx hb dX5_in_14 (by decide) ?_
    exact W.zret hx hb hr rfl (fun t ht hW => ⟨_, rfl, Option.some.inj h, ht⟩) (fun q hq9 => by cases hq9) dX5_in_15
  · refine lv_iload_n hx hb dX5_in_5 rfl (lv_at hl 0 rfl) ?_
    refine lv_iload_n hx hb dX5_in_6 rfl (lv_at hl 2 rfl) ?_
    refine q_icmp_gt (tgt := 14) hx hb dX5_in_7 (by decide) h (fun h => ?_) (fun h => ?_)
    · refine lv_iconst (v := 0) hx hb dX5_in_14 (by decide) ?_
      exact W.zret hx hb hr rfl (fun t ht hW => ⟨_, rfl, Option.some.inj h, ht⟩) (fun q hq9 => by cases hq9) dX5_in_15
    · refine lv_iconst (v := 1) hx hb dX5_in_10 (by decide) ?_
      refine lv_goto (tgt := 15) hx hb dX5_in_11 (by decide) ?_
      exact W.zret hx hb hr rfl (fun t ht hW => ⟨_, rfl, Option.some.inj h, ht⟩) (fun q hq9 => by cases hq9) dX5_in_15
set_option maxHeartbeats 4000000 in
set_option maxRecDepth 100000 in
theorem mt_X5_isColour (l : Launch) (x0 : Int32) (rv : Int32) (h : f_X5_isColour x0 = some rv) : Met l yX5_isColour wsX5_isColour ({ frames := 1, cells := 0, slots := 0, locals := 22 } : Room) (va_Pc [.int x0] (fun _ => True)) (vp_Si (fun z => z = rv)) 0 0 (fun _ => False) := by
  refine Met.ofW (cc := cX5_isColour) (maxL := 1) (ret := (some .boolean)) (by decide) rfl ?_
  intro p e s m args below meth c s₁ B hml hv
  obtain ⟨rfl, -⟩ := hv
  have hx := B.exec
  have hb := B.bytes
  have hr := B.returns
  have hts := atoms_spec (ws := wsX5_isColour) B.pre
  have hown : s.vm.findClass RX5 = some m.cls := findClass_of_methodNamed B.named
  have hlocks := B.notSynchronized
  have hl := lv_entry ([.int x0]) (n := 1) (Nat.le_of_ble_eq_true rfl)
  rw [lg_entry_eq]
  generalize (lg_sl ([.int x0]) ++ List.replicate (1 - (lg_sl ([.int x0])).length) Slot.unset).toArray = ls at hl ⊢
  have hl : lv_has ls 1 [(0, .int (x0))] := hl
  refine lv_iload_n hx hb dX5_isColour_0 rfl (lv_at hl 0 rfl) ?_
  refine lv_iconst (v := 0) hx hb dX5_isColour_1 (by decide) ?_
  refine lv_iconst (v := 5) hx hb dX5_isColour_2 (by decide) ?_
  obtain ⟨v1, hc2, h⟩ := q_some h
  refine q_cs (W.runS (As := [.int (x0), .int ((0 : Int32)), .int ((5 : Int32))]) (rest := []) ⟨hx, hb, hml, hown, hts⟩ (mt_X5_in l x0 (0 : Int32) (5 : Int32) v1 hc2) (va_cwS 3 hts gX5_isColour_X5_in rfl rfl rfl (by decide +kernel) ⟨Nat.le_of_ble_eq_true rfl, Nat.le_of_ble_eq_true rfl⟩) q_pr0 rfl rfl hl.1 rfl (lv_room (Nat.le_of_ble_eq_true rfl)) dX5_isColour_3 ⟨Nat.le_of_ble_eq_true rfl, Nat.le_of_ble_eq_true rfl⟩) ?_
  obtain ⟨hq, hnr⟩ := q_bo h
  exact W.zret hx hb hr hnr (fun t ht hW => ⟨_, rfl, hq, ht⟩) (fun q hq9 => by cases hq9) dX5_isColour_6
theorem hi_X5_columns_X5 : ∀ w ∈ u_ws RX5 TX5 48, w ∈ wsX5_columns := fun w h => (List.mem_cons_of_mem _ (List.mem_append_right _ h))
set_option maxHeartbeats 4000000 in
set_option maxRecDepth 100000 in
theorem mt_X5_columns (l : Launch) (D : va_G) (cI cZ : ClassId) (ad : Nat → Nat) (F : Nat → Int32) (G : Nat → Nat → Int32)  (rv : Int32) (h : f_X5_columns F G  = some rv) : Met l yX5_columns wsX5_columns ({ frames := 0, cells := 0, slots := 0, locals := 0 } : Room) (va_Pc [.ref (ad 99)] (mR D cI cZ ad F G)) (vp_Si (fun z => z = rv)) 0 0 (fun _ => False) := by
  refine Met.ofW (cc := cX5_columns) (maxL := 1) (ret := (some .int)) (by decide) rfl ?_
  intro p e s m args below meth c s₁ B hml hv
  obtain ⟨rfl, hP, hK, hN⟩ := hv
  have hx := B.exec
  have hb := B.bytes
  have hr := B.returns
  have hts := atoms_spec (ws := wsX5_columns) B.pre
  have hown : s.vm.findClass RX5 = some m.cls := findClass_of_methodNamed B.named
  have hlocks := B.notSynchronized
  have hl := lv_entry ([.ref (ad 99)]) (n := 1) (Nat.le_of_ble_eq_true rfl)
  rw [lg_entry_eq]
  generalize (lg_sl ([.ref (ad 99)]) ++ List.replicate (1 - (lg_sl ([.ref (ad 99)])).length) Slot.unset).toArray = ls at hl ⊢
  have hl : lv_has ls 1 [(0, .ref (ad 99))] := hl
  refine lv_aload_n hx hb dX5_columns_0 rfl (lv_at hl 0 rfl) ?_
  refine va_get hx hb hts hi_X5_columns_X5 hown hK hP 0 (m_o99 cI cZ ad F G) rfl 2 (by decide) (hts _ (List.mem_of_getElem? (i := 1) rfl)) (fun _ h9 => h9) rfl dX5_columns_1 ?_
  refine q_if_ne (tgt := 12) hx hb dX5_columns_4 (by decide) h (fun h => ?_) (fun h => ?_)
  · refine lv_aload_n hx hb dX5_columns_12 rfl (lv_at hl 0 rfl) ?_
    refine va_get hx hb hts hi_X5_columns_X5 hown hK hP 0 (m_o99 cI cZ ad F G) rfl 2 (by decide) (hts _ (List.mem_of_getElem? (i := 1) rfl)) (fun _ h9 => h9) rfl dX5_columns_13 ?_
    exact W.iret hx hb hr (fun t ht hW => ⟨_, rfl, Option.some.inj h, ht⟩) (fun q hq9 => by cases hq9) dX5_columns_16
  · refine lv_bipush (v := 12) hx hb dX5_columns_7 (by decide) ?_
    refine lv_goto (tgt := 16) hx hb dX5_columns_9 (by decide) ?_
    exact W.iret hx hb hr (fun t ht hW => ⟨_, rfl, Option.some.inj h, ht⟩) (fun q hq9 => by cases hq9) dX5_columns_16
theorem hi_X5_cell_X5 : ∀ w ∈ u_ws RX5 TX5 48, w ∈ wsX5_cell := fun w h => (List.mem_cons_of_mem _ (List.mem_append_right _ h))
set_option maxHeartbeats 4000000 in
set_option maxRecDepth 100000 in
theorem mt_X5_cell (l : Launch) (D : va_G) (cI cZ : ClassId) (ad : Nat → Nat) (F : Nat → Int32) (G : Nat → Nat → Int32) (x1 : Int32) (x2 : Int32) (rv : Int32) (h : f_X5_cell F G x1 x2 = some rv) : Met l yX5_cell wsX5_cell ({ frames := 1, cells := 0, slots := 0, locals := 22 } : Room) (va_Pc [.ref (ad 99), .int x1, .int x2] (mR D cI cZ ad F G)) (vp_Si (fun z => z = rv)) 0 0 (fun _ => False) := by
  refine Met.ofW (cc := cX5_cell) (maxL := 3) (ret := (some .int)) (by decide) rfl ?_
  intro p e s m args below meth c s₁ B hml hv
  obtain ⟨rfl, hP, hK, hN⟩ := hv
  have hx := B.exec
  have hb := B.bytes
  have hr := B.returns
  have hts := atoms_spec (ws := wsX5_cell) B.pre
  have hown : s.vm.findClass RX5 = some m.cls := findClass_of_methodNamed B.named
  have hlocks := B.notSynchronized
  have hl := lv_entry ([.ref (ad 99), .int x1, .int x2]) (n := 3) (Nat.le_of_ble_eq_true rfl)
  rw [lg_entry_eq]
  generalize (lg_sl ([.ref (ad 99), .int x1, .int x2]) ++ List.replicate (3 - (lg_sl ([.ref (ad 99), .int x1, .int x2])).length) Slot.unset).toArray = ls at hl ⊢
  have hl : lv_has ls 3 [(0, .ref (ad 99)), (1, .int (x1)), (2, .int (x2))] := hl
  refine lv_iload_n hx hb dX5_cell_0 rfl (lv_at hl 1 rfl) ?_
  refine lv_iconst (v := 0) hx hb dX5_cell_1 (by decide) ?_
  refine lv_bipush (v := 11) hx hb dX5_cell_2 (by decide) ?_
  obtain ⟨v1, hc2, h⟩ := q_some h
  refine q_cs (W.runS (As := [.int (x1), .int ((0 : Int32)), .int ((11 : Int32))]) (rest := []) ⟨hx, hb, hml, hown, hts⟩ (mt_X5_in l x1 (0 : Int32) (11 : Int32) v1 hc2) (va_cwS 3 hts gX5_cell_X5_in rfl rfl rfl (by decide +kernel) ⟨Nat.le_of_ble_eq_true rfl, Nat.le_of_ble_eq_true rfl⟩) q_pr0 rfl rfl hl.1 rfl (lv_room (Nat.le_of_ble_eq_true rfl)) dX5_cell_4 ⟨Nat.le_of_ble_eq_true rfl, Nat.le_of_ble_eq_true rfl⟩) ?_
  refine q_if_eq (tgt := 34) hx hb dX5_cell_7 (by decide) h (fun h => ?_) (fun h => ?_)
  · refine lv_iconst (v := -1) hx hb dX5_cell_34 (by decide) ?_
    exact W.iret hx hb hr (fun t ht hW => ⟨_, rfl, Option.some.inj h, ht⟩) (fun q hq9 => by cases hq9) dX5_cell_35
  · refine lv_iload_n hx hb dX5_cell_10 rfl (lv_at hl 2 rfl) ?_
    refine lv_iconst (v := 0) hx hb dX5_cell_11 (by decide) ?_
    refine lv_bipush (v := 11) hx hb dX5_cell_12 (by decide) ?_
    obtain ⟨v3, hc4, h⟩ := q_some h
    refine q_cs (W.runS (As := [.int (x2), .int ((0 : Int32)), .int ((11 : Int32))]) (rest := []) ⟨hx, hb, hml, hown, hts⟩ (mt_X5_in l x2 (0 : Int32) (11 : Int32) v3 hc4) (va_cwS 3 hts gX5_cell_X5_in rfl rfl rfl (by decide +kernel) ⟨Nat.le_of_ble_eq_true rfl, Nat.le_of_ble_eq_true rfl⟩) q_pr0 rfl rfl hl.1 rfl (lv_room (Nat.le_of_ble_eq_true rfl)) dX5_cell_14 ⟨Nat.le_of_ble_eq_true rfl, Nat.le_of_ble_eq_true rfl⟩) ?_
    refine q_if_eq (tgt := 34) hx hb dX5_cell_17 (by decide) h (fun h => ?_) (fun h => ?_)
    · refine lv_iconst (v := -1) hx hb dX5_cell_34 (by decide) ?_
      exact W.iret hx hb hr (fun t ht hW => ⟨_, rfl, Option.some.inj h, ht⟩) (fun q hq9 => by cases hq9) dX5_cell_35
    · refine lv_aload_n hx hb dX5_cell_20 rfl (lv_at hl 0 rfl) ?_
      refine va_get hx hb hts hi_X5_cell_X5 hown hK hP 0 (m_o99 cI cZ ad F G) rfl 0 (by decide) (hts _ (List.mem_of_getElem? (i := 1) rfl)) (fun _ h9 => h9) rfl dX5_cell_21 ?_
      refine lv_bipush (v := 12) hx hb dX5_cell_24 (by decide) ?_
      refine lv_iload_n hx hb dX5_cell_26 rfl (lv_at hl 1 rfl) ?_
      refine lv_imul hx hb dX5_cell_27 ?_
      refine lv_iload_n hx hb dX5_cell_28 rfl (lv_at hl 2 rfl) ?_
      refine lv_iadd hx hb dX5_cell_29 ?_
      refine q_ld hx hb hK hP 1 0 (m_a0 cI cZ ad F G) rfl dX5_cell_30 h (fun v5 h => ?_)
      refine lv_goto (tgt := 35) hx hb dX5_cell_31 (by decide) ?_
      exact W.iret hx hb hr (fun t ht hW => ⟨_, rfl, Option.some.inj h, ht⟩) (fun q hq9 => by cases hq9) dX5_cell_35
theorem hi_X5_columnOf_X5 : ∀ w ∈ u_ws RX5 TX5 48, w ∈ wsX5_columnOf := fun w h => (List.mem_cons_of_mem _ (List.mem_append_right _ h))
set_option maxHeartbeats 4000000 in
set_option maxRecDepth 100000 in
theorem mt_X5_columnOf (l : Launch) (D : va_G) (cI cZ : ClassId) (ad : Nat → Nat) (F : Nat → Int32) (G : Nat → Nat → Int32) (x1 : Int32) (rv : Int32) (h : f_X5_columnOf F G x1 = some rv) : Met l yX5_columnOf wsX5_columnOf ({ frames := 0, cells := 0, slots := 0, locals := 0 } : Room) (va_Pc [.ref (ad 99), .int x1] (mR D cI cZ ad F G)) (vp_Si (fun z => z = rv)) 0 0 (fun _ => False) := by
  refine Met.ofW (cc := cX5_columnOf) (maxL := 2) (ret := (some .int)) (by decide) rfl ?_
  intro p e s m args below meth c s₁ B hml hv
  obtain ⟨rfl, hP, hK, hN⟩ := hv
  have hx := B.exec
  have hb := B.bytes
  have hr := B.returns
  have hts := atoms_spec (ws := wsX5_columnOf) B.pre
  have hown : s.vm.findClass RX5 = some m.cls := findClass_of_methodNamed B.named
  have hlocks := B.notSynchronized
  have hl := lv_entry ([.ref (ad 99), .int x1]) (n := 2) (Nat.le_of_ble_eq_true rfl)
  rw [lg_entry_eq]
  generalize (lg_sl ([.ref (ad 99), .int x1]) ++ List.replicate (2 - (lg_sl ([.ref (ad 99), .int x1])).length) Slot.unset).toArray = ls at hl ⊢
  have hl : lv_has ls 2 [(0, .ref (ad 99)), (1, .int (x1))] := hl
  refine lv_aload_n hx hb dX5_columnOf_0 rfl (lv_at hl 0 rfl) ?_
  refine va_get hx hb hts hi_X5_columnOf_X5 hown hK hP 0 (m_o99 cI cZ ad F G) rfl 2 (by decide) (hts _ (List.mem_of_getElem? (i := 1) rfl)) (fun _ h9 => h9) rfl dX5_columnOf_1 ?_
  refine q_if_ne (tgt := 9) hx hb dX5_columnOf_4 (by decide) h (fun h => ?_) (fun h => ?_)
  · refine lv_iload_n hx hb dX5_columnOf_9 rfl (lv_at hl 1 rfl) ?_
    refine lv_aload_n hx hb dX5_columnOf_10 rfl (lv_at hl 0 rfl) ?_
    refine va_get hx hb hts hi_X5_columnOf_X5 hown hK hP 0 (m_o99 cI cZ ad F G) rfl 2 (by decide) (hts _ (List.mem_of_getElem? (i := 1) rfl)) (fun _ h9 => h9) rfl dX5_columnOf_11 ?_
    obtain ⟨hne, h⟩ := q_dv h
    refine lv_irem hx hb dX5_columnOf_14 hne ?_
    refine lv_aload_n hx hb dX5_columnOf_15 rfl (lv_at hl 0 rfl) ?_
    refine va_get hx hb hts hi_X5_columnOf_X5 hown hK hP 0 (m_o99 cI cZ ad F G) rfl 2 (by decide) (hts _ (List.mem_of_getElem? (i := 1) rfl)) (fun _ h9 => h9) rfl dX5_columnOf_16 ?_
    refine lv_iadd hx hb dX5_columnOf_19 ?_
    refine lv_aload_n hx hb dX5_columnOf_20 rfl (lv_at hl 0 rfl) ?_
    refine va_get hx hb hts hi_X5_columnOf_X5 hown hK hP 0 (m_o99 cI cZ ad F G) rfl 2 (by decide) (hts _ (List.mem_of_getElem? (i := 1) rfl)) (fun _ h9 => h9) rfl dX5_columnOf_21 ?_
    obtain ⟨hne, h⟩ := q_dv h
    refine lv_irem hx hb dX5_columnOf_24 hne ?_
    exact W.iret hx hb hr (fun t ht hW => ⟨_, rfl, Option.some.inj h, ht⟩) (fun q hq9 => by cases hq9) dX5_columnOf_25
  · refine lv_iload_n hx hb dX5_columnOf_7 rfl (lv_at hl 1 rfl) ?_
    exact W.iret hx hb hr (fun t ht hW => ⟨_, rfl, Option.some.inj h, ht⟩) (fun q hq9 => by cases hq9) dX5_columnOf_8
theorem hi_X5_pickedAt_X5 : ∀ w ∈ u_ws RX5 TX5 48, w ∈ wsX5_pickedAt := fun w h => (List.mem_cons_of_mem _ (List.mem_append_right _ h))
set_option maxHeartbeats 4000000 in
set_option maxRecDepth 100000 in
theorem mt_X5_pickedAt (l : Launch) (D : va_G) (cI cZ : ClassId) (ad : Nat → Nat) (F : Nat → Int32) (G : Nat → Nat → Int32) (x1 : Int32) (x2 : Int32) (rv : Int32) (h : f_X5_pickedAt F G x1 x2 = some rv) : Met l yX5_pickedAt wsX5_pickedAt ({ frames := 1, cells := 0, slots := 0, locals := 22 } : Room) (va_Pc [.ref (ad 99), .int x1, .int x2] (mR D cI cZ ad F G)) (vp_Si (fun z => z = rv)) 0 0 (fun _ => False) := by
  refine Met.ofW (cc := cX5_pickedAt) (maxL := 4) (ret := (some .int)) (by decide) rfl ?_
  intro p e s m args below meth c s₁ B hml hv
  obtain ⟨rfl, hP, hK, hN⟩ := hv
  have hx := B.exec
  have hb := B.bytes
  have hr := B.returns
  have hts := atoms_spec (ws := wsX5_pickedAt) B.pre
  have hown : s.vm.findClass RX5 = some m.cls := findClass_of_methodNamed B.named
  have hlocks := B.notSynchronized
  have hl := lv_entry ([.ref (ad 99), .int x1, .int x2]) (n := 4) (Nat.le_of_ble_eq_true rfl)
  rw [lg_entry_eq]
  generalize (lg_sl ([.ref (ad 99), .int x1, .int x2]) ++ List.replicate (4 - (lg_sl ([.ref (ad 99), .int x1, .int x2])).length) Slot.unset).toArray = ls at hl ⊢
  have hl : lv_has ls 4 [(0, .ref (ad 99)), (1, .int (x1)), (2, .int (x2))] := hl
  refine lv_aload_n hx hb dX5_pickedAt_0 rfl (lv_at hl 0 rfl) ?_
  refine lv_iload_n hx hb dX5_pickedAt_1 rfl (lv_at hl 2 rfl) ?_
  obtain ⟨v1, hc2, h⟩ := q_some h
  refine q_cs (W.runV (C := RX5) (As := [.int (x2)]) (rest := []) ⟨hx, hb, hml, hown, hts⟩ (mt_X5_columnOf l D cI cZ ad F G x2 v1 hc2) (cwV 1 hts gX5_pickedAt_X5_columnOf rfl rfl rfl (by decide +kernel) ⟨Nat.le_of_ble_eq_true rfl, Nat.le_of_ble_eq_true rfl⟩) ⟨mR_b, va_recv hK hP (ci := 5) (q0 := 0) rfl rfl, (mR_p hP hK hN).2⟩ rfl rfl hl.1 rfl (lv_room (Nat.le_of_ble_eq_true rfl)) dX5_pickedAt_2 ⟨Nat.le_of_ble_eq_true rfl, Nat.le_of_ble_eq_true rfl⟩) ?_
  refine lv_istore_n (lv' := [(3, .int (v1)), (0, .ref (ad 99)), (1, .int (x1)), (2, .int (x2))]) hx hb dX5_pickedAt_5 rfl hl (by decide) rfl (fun ls hl => ?_)
  refine lv_iload_n hx hb dX5_pickedAt_6 rfl (lv_at hl 2 rfl) ?_
  refine lv_iconst (v := 0) hx hb dX5_pickedAt_7 (by decide) ?_
  refine lv_bipush (v := 11) hx hb dX5_pickedAt_8 (by decide) ?_
  obtain ⟨v3, hc4, h⟩ := q_some h
  refine q_cs (W.runS (As := [.int (x1), .int ((0 : Int32)), .int ((11 : Int32))]) (rest := []) ⟨hx, hb, hml, hown, hts⟩ (mt_X5_in l x1 (0 : Int32) (11 : Int32) v3 hc4) (va_cwS 3 hts gX5_pickedAt_X5_in rfl rfl rfl (by decide +kernel) ⟨Nat.le_of_ble_eq_true rfl, Nat.le_of_ble_eq_true rfl⟩) q_pr0 rfl rfl hl.1 rfl (lv_room (Nat.le_of_ble_eq_true rfl)) dX5_pickedAt_10 ⟨Nat.le_of_ble_eq_true rfl, Nat.le_of_ble_eq_true rfl⟩) ?_
  refine q_if_eq (tgt := 26) hx hb dX5_pickedAt_13 (by decide) h (fun h => ?_) (fun h => ?_)
  · refine lv_iconst (v := -1) hx hb dX5_pickedAt_26 (by decide) ?_
    exact W.iret hx hb hr (fun t ht hW => ⟨_, rfl, Option.some.inj h, ht⟩) (fun q hq9 => by cases hq9) dX5_pickedAt_27
  · refine lv_iload_n hx hb dX5_pickedAt_16 rfl (lv_at hl 0 rfl) ?_
    refine lv_iconst (v := 0) hx hb dX5_pickedAt_17 (by decide) ?_
    refine lv_bipush (v := 11) hx hb dX5_pickedAt_18 (by decide) ?_
    obtain ⟨v5, hc6, h⟩ := q_some h
    refine q_cs (W.runS (As := [.int (v1), .int ((0 : Int32)), .int ((11 : Int32))]) (rest := []) ⟨hx, hb, hml, hown, hts⟩ (mt_X5_in l v1 (0 : Int32) (11 : Int32) v5 hc6) (va_cwS 3 hts gX5_pickedAt_X5_in rfl rfl rfl (by decide +kernel) ⟨Nat.le_of_ble_eq_true rfl, Nat.le_of_ble_eq_true rfl⟩) q_pr0 rfl rfl hl.1 rfl (lv_room (Nat.le_of_ble_eq_true rfl)) dX5_pickedAt_20 ⟨Nat.le_of_ble_eq_true rfl, Nat.le_of_ble_eq_true rfl⟩) ?_
    refine q_if_ne (tgt := 28) hx hb dX5_pickedAt_23 (by decide) h (fun h => ?_) (fun h => ?_)
    · refine lv_aload_n hx hb dX5_pickedAt_28 rfl (lv_at hl 1 rfl) ?_
      refine va_get hx hb hts hi_X5_pickedAt_X5 hown hK hP 0 (m_o99 cI cZ ad F G) rfl 15 (by decide) (hts _ (List.mem_of_getElem? (i := 1) rfl)) (fun _ h9 => h9) rfl dX5_pickedAt_29 ?_
      refine lv_bipush (v := 12) hx hb dX5_pickedAt_32 (by decide) ?_
      refine lv_iload_n hx hb dX5_pickedAt_34 rfl (lv_at hl 2 rfl) ?_
      refine lv_imul hx hb dX5_pickedAt_35 ?_
      refine lv_iload_n hx hb dX5_pickedAt_36 rfl (lv_at hl 0 rfl) ?_
      refine lv_iadd hx hb dX5_pickedAt_37 ?_
      refine q_ld hx hb hK hP 11 0 (m_a15 cI cZ ad F G) rfl dX5_pickedAt_38 h (fun v7 h => ?_)
      exact W.iret hx hb hr (fun t ht hW => ⟨_, rfl, Option.some.inj h, ht⟩) (fun q hq9 => by cases hq9) dX5_pickedAt_39
    · refine lv_iconst (v := -1) hx hb dX5_pickedAt_26 (by decide) ?_
      exact W.iret hx hb hr (fun t ht hW => ⟨_, rfl, Option.some.inj h, ht⟩) (fun q hq9 => by cases hq9) dX5_pickedAt_27
theorem hi_X5_colourAt_X5 : ∀ w ∈ u_ws RX5 TX5 48, w ∈ wsX5_colourAt := fun w h => (List.mem_cons_of_mem _ (List.mem_append_right _ h))
set_option maxHeartbeats 4000000 in
set_option maxRecDepth 100000 in
theorem mt_X5_colourAt (l : Launch) (D : va_G) (cI cZ : ClassId) (ad : Nat → Nat) (F : Nat → Int32) (G : Nat → Nat → Int32) (x1 : Int32) (x2 : Int32) (rv : Int32) (h : f_X5_colourAt F G x1 x2 = some rv) : Met l yX5_colourAt wsX5_colourAt ({ frames := 0, cells := 0, slots := 0, locals := 0 } : Room) (va_Pc [.ref (ad 99), .int x1, .int x2] (mR D cI cZ ad F G)) (vp_Si (fun z => z = rv)) 0 0 (fun _ => False) := by
  refine Met.ofW (cc := cX5_colourAt) (maxL := 3) (ret := (some .int)) (by decide) rfl ?_
  intro p e s m args below meth c s₁ B hml hv
  obtain ⟨rfl, hP, hK, hN⟩ := hv
  have hx := B.exec
  have hb := B.bytes
  have hr := B.returns
  have hts := atoms_spec (ws := wsX5_colourAt) B.pre
  have hown : s.vm.findClass RX5 = some m.cls := findClass_of_methodNamed B.named
  have hlocks := B.notSynchronized
  have hl := lv_entry ([.ref (ad 99), .int x1, .int x2]) (n := 3) (Nat.le_of_ble_eq_true rfl)
  rw [lg_entry_eq]
  generalize (lg_sl ([.ref (ad 99), .int x1, .int x2]) ++ List.replicate (3 - (lg_sl ([.ref (ad 99), .int x1, .int x2])).length) Slot.unset).toArray = ls at hl ⊢
  have hl : lv_has ls 3 [(0, .ref (ad 99)), (1, .int (x1)), (2, .int (x2))] := hl
  refine lv_iload_n hx hb dX5_colourAt_0 rfl (lv_at hl 1 rfl) ?_
  refine lv_aload_n hx hb dX5_colourAt_1 rfl (lv_at hl 0 rfl) ?_
  refine va_get hx hb hts hi_X5_colourAt_X5 hown hK hP 0 (m_o99 cI cZ ad F G) rfl 8 (by decide) (hts _ (List.mem_of_getElem? (i := 1) rfl)) (fun _ h9 => h9) rfl dX5_colourAt_2 ?_
  refine q_icmp_ne (tgt := 17) hx hb dX5_colourAt_5 (by decide) h (fun h => ?_) (fun h => ?_)
  · refine lv_aload_n hx hb dX5_colourAt_17 rfl (lv_at hl 0 rfl) ?_
    refine va_get hx hb hts hi_X5_colourAt_X5 hown hK hP 0 (m_o99 cI cZ ad F G) rfl 14 (by decide) (hts _ (List.mem_of_getElem? (i := 3) rfl)) (fun _ h9 => h9) rfl dX5_colourAt_18 ?_
    refine lv_iload_n hx hb dX5_colourAt_21 rfl (lv_at hl 1 rfl) ?_
    refine q_ld hx hb hK hP 10 0 (m_a14 cI cZ ad F G) rfl dX5_colourAt_22 h (fun v1 h => ?_)
    exact W.iret hx hb hr (fun t ht hW => ⟨_, rfl, Option.some.inj h, ht⟩) (fun q hq9 => by cases hq9) dX5_colourAt_23
  · refine lv_aload_n hx hb dX5_colourAt_8 rfl (lv_at hl 0 rfl) ?_
    refine va_get hx hb hts hi_X5_colourAt_X5 hown hK hP 0 (m_o99 cI cZ ad F G) rfl 0 (by decide) (hts _ (List.mem_of_getElem? (i := 2) rfl)) (fun _ h9 => h9) rfl dX5_colourAt_9 ?_
    refine lv_iload_n hx hb dX5_colourAt_12 rfl (lv_at hl 2 rfl) ?_
    refine q_ld hx hb hK hP 1 0 (m_a0 cI cZ ad F G) rfl dX5_colourAt_13 h (fun v2 h => ?_)
    refine lv_goto (tgt := 23) hx hb dX5_colourAt_14 (by decide) ?_
    exact W.iret hx hb hr (fun t ht hW => ⟨_, rfl, Option.some.inj h, ht⟩) (fun q hq9 => by cases hq9) dX5_colourAt_23
theorem hi_X5_needs_X5 : ∀ w ∈ u_ws RX5 TX5 48, w ∈ wsX5_needs := fun w h => (List.mem_cons_of_mem _ (List.mem_append_right _ h))
set_option maxHeartbeats 4000000 in
set_option maxRecDepth 100000 in
theorem mt_X5_needs (l : Launch) (D : va_G) (cI cZ : ClassId) (ad : Nat → Nat) (F : Nat → Int32) (G : Nat → Nat → Int32) (x1 : Int32) (rv : Int32) (h : f_X5_needs F G x1 = some rv) : Met l yX5_needs wsX5_needs ({ frames := 1, cells := 0, slots := 0, locals := 22 } : Room) (va_Pc [.ref (ad 99), .int x1] (mR D cI cZ ad F G)) (vp_Si (fun z => z = rv)) 0 0 (fun _ => False) := by
  refine Met.ofW (cc := cX5_needs) (maxL := 4) (ret := (some .int)) (by decide) rfl ?_
  intro p e s m args below meth c s₁ B hml hv
  obtain ⟨rfl, hP, hK, hN⟩ := hv
  have hx := B.exec
  have hb := B.bytes
  have hr := B.returns
  have hts := atoms_spec (ws := wsX5_needs) B.pre
  have hown : s.vm.findClass RX5 = some m.cls := findClass_of_methodNamed B.named
  have hlocks := B.notSynchronized
  have hl := lv_entry ([.ref (ad 99), .int x1]) (n := 4) (Nat.le_of_ble_eq_true rfl)
  rw [lg_entry_eq]
  generalize (lg_sl ([.ref (ad 99), .int x1]) ++ List.replicate (4 - (lg_sl ([.ref (ad 99), .int x1])).length) Slot.unset).toArray = ls at hl ⊢
  have hl : lv_has ls 4 [(0, .ref (ad 99)), (1, .int (x1))] := hl
  have j4 : ∀ n4 : Nat, ∀ (x2 : Int32) (x3 : Int32) , ∀ ls : Array Slot, lv_has ls 4 [(0, .ref (ad 99)), (1, .int (x1)), (2, .int (x2)), (3, .int (x3))] → f_X5_needs_L4 F G x1 n4 x2 x3 = some rv → W p l e (headSpec wsX5_needs ({ frames := 1, cells := 0, slots := 0, locals := 22 } : Room)).room s m (List.toArray ([.ref (ad 99), .int x1] : List Value)) below meth c s.heap [] 0 0 (MQ below (vp_Si (fun z => z = rv)) (List.toArray ([.ref (ad 99), .int x1] : List Value)) s 0 0 (fun _ => False)) (F0 m 4 ls []) := by
    intro n4
    induction n4 with
    | zero =>
      intro x2 x3 ls hl h
      cases h
    | succ n4 ih4 =>
      intro x2 x3 ls hl h
      replace h : f_X5_needs_L4_b (f_X5_needs_L4 F G x1 n4) F G x1 x2 x3 = some rv := h
      refine lv_iload_n hx hb dX5_needs_4 rfl (lv_at hl 3 rfl) ?_
      refine lv_aload_n hx hb dX5_needs_5 rfl (lv_at hl 0 rfl) ?_
      refine va_get hx hb hts hi_X5_needs_X5 hown hK hP 0 (m_o99 cI cZ ad F G) rfl 27 (by decide) (hts _ (List.mem_of_getElem? (i := 1) rfl)) (fun _ h9 => h9) rfl dX5_needs_6 ?_
      refine q_icmp_ge (tgt := 37) hx hb dX5_needs_9 (by decide) h (fun h => ?_) (fun h => ?_)
      · refine lv_iload_n hx hb dX5_needs_37 rfl (lv_at hl 2 rfl) ?_
        exact W.iret hx hb hr (fun t ht hW => ⟨_, rfl, Option.some.inj h, ht⟩) (fun q hq9 => by cases hq9) dX5_needs_38
      · refine lv_iload_n hx hb dX5_needs_12 rfl (lv_at hl 2 rfl) ?_
        refine lv_aload_n hx hb dX5_needs_13 rfl (lv_at hl 0 rfl) ?_
        refine va_get hx hb hts hi_X5_needs_X5 hown hK hP 0 (m_o99 cI cZ ad F G) rfl 4 (by decide) (hts _ (List.mem_of_getElem? (i := 2) rfl)) (fun _ h9 => h9) rfl dX5_needs_14 ?_
        refine lv_aload_n hx hb dX5_needs_17 rfl (lv_at hl 0 rfl) ?_
        refine lv_aload_n hx hb dX5_needs_18 rfl (lv_at hl 0 rfl) ?_
        refine va_get hx hb hts hi_X5_needs_X5 hown hK hP 0 (m_o99 cI cZ ad F G) rfl 28 (by decide) (hts _ (List.mem_of_getElem? (i := 3) rfl)) (fun _ h9 => h9) rfl dX5_needs_19 ?_
        refine lv_iload_n hx hb dX5_needs_22 rfl (lv_at hl 3 rfl) ?_
        refine q_ld hx hb hK hP 14 0 (m_a28 cI cZ ad F G) rfl dX5_needs_23 h (fun v1 h => ?_)
        refine lv_iload_n hx hb dX5_needs_24 rfl (lv_at hl 1 rfl) ?_
        obtain ⟨v2, hc3, h⟩ := q_some h
        refine q_cs (W.runV (C := RX5) (As := [.int (v1), .int (x1)]) (rest := [.ref (ad 4), .int (x2)]) ⟨hx, hb, hml, hown, hts⟩ (mt_X5_colourAt l D cI cZ ad F G v1 x1 v2 hc3) (cwV 2 hts gX5_needs_X5_colourAt rfl rfl rfl (by decide +kernel) ⟨Nat.le_of_ble_eq_true rfl, Nat.le_of_ble_eq_true rfl⟩) ⟨mR_b, va_recv hK hP (ci := 5) (q0 := 0) rfl rfl, (mR_p hP hK hN).2⟩ rfl rfl hl.1 rfl (lv_room (Nat.le_of_ble_eq_true rfl)) dX5_needs_25 ⟨Nat.le_of_ble_eq_true rfl, Nat.le_of_ble_eq_true rfl⟩) ?_
        refine q_ld hx hb hK hP 3 0 (m_a4 cI cZ ad F G) rfl dX5_needs_28 h (fun v4 h => ?_)
        refine lv_iadd hx hb dX5_needs_29 ?_
        refine q_nm h (fun v5 h => ?_)
        refine lv_istore_n (lv' := [(2, .int (v5)), (0, .ref (ad 99)), (1, .int (x1)), (3, .int (x3))]) hx hb dX5_needs_30 rfl hl (by decide) rfl (fun ls hl => ?_)
        refine q_iinc (j := 3) (d := (1 : Int32)) (lv2 := fun v6 => [(3, .int (v6)), (2, .int (v5)), (0, .ref (ad 99)), (1, .int (x1))]) hx hb dX5_needs_31 hl rfl (by decide) (by decide) (fun _ => rfl) h (fun v6 ls hl h => ?_)
        refine lv_goto (tgt := 4) hx hb dX5_needs_34 (by decide) ?_
        exact ih4 v5 v6 _ (lv_sub hl [2, 3, 1, 0] rfl) h
  refine lv_iconst (v := 0) hx hb dX5_needs_0 (by decide) ?_
  refine q_nm h (fun v7 h => ?_)
  refine lv_istore_n (lv' := [(2, .int (v7)), (0, .ref (ad 99)), (1, .int (x1))]) hx hb dX5_needs_1 rfl hl (by decide) rfl (fun ls hl => ?_)
  refine lv_iconst (v := 0) hx hb dX5_needs_2 (by decide) ?_
  refine q_nm h (fun v8 h => ?_)
  refine lv_istore_n (lv' := [(3, .int (v8)), (2, .int (v7)), (0, .ref (ad 99)), (1, .int (x1))]) hx hb dX5_needs_3 rfl hl (by decide) rfl (fun ls hl => ?_)
  exact j4 1000 v7 v8 _ (lv_sub hl [2, 3, 1, 0] rfl) h
theorem hi_X5_hasRoom_X5 : ∀ w ∈ u_ws RX5 TX5 48, w ∈ wsX5_hasRoom := fun w h => (List.mem_cons_of_mem _ (List.mem_append_right _ h))
set_option maxHeartbeats 4000000 in
set_option maxRecDepth 100000 in
theorem mt_X5_hasRoom (l : Launch) (D : va_G) (cI cZ : ClassId) (ad : Nat → Nat) (F : Nat → Int32) (G : Nat → Nat → Int32) (x1 : Int32) (rv : Int32) (h : f_X5_hasRoom F G x1 = some rv) : Met l yX5_hasRoom wsX5_hasRoom ({ frames := 1, cells := 0, slots := 0, locals := 22 } : Room) (va_Pc [.ref (ad 99), .int x1] (mR D cI cZ ad F G)) (vp_Si (fun z => z = rv)) 0 0 (fun _ => False) := by
  refine Met.ofW (cc := cX5_hasRoom) (maxL := 6) (ret := (some .boolean)) (by decide) rfl ?_
  intro p e s m args below meth c s₁ B hml hv
  obtain ⟨rfl, hP, hK, hN⟩ := hv
  have hx := B.exec
  have hb := B.bytes
  have hr := B.returns
  have hts := atoms_spec (ws := wsX5_hasRoom) B.pre
  have hown : s.vm.findClass RX5 = some m.cls := findClass_of_methodNamed B.named
  have hlocks := B.notSynchronized
  have hl := lv_entry ([.ref (ad 99), .int x1]) (n := 6) (Nat.le_of_ble_eq_true rfl)
  rw [lg_entry_eq]
  generalize (lg_sl ([.ref (ad 99), .int x1]) ++ List.replicate (6 - (lg_sl ([.ref (ad 99), .int x1])).length) Slot.unset).toArray = ls at hl ⊢
  have hl : lv_has ls 6 [(0, .ref (ad 99)), (1, .int (x1))] := hl
  have j2 : ∀ n2 : Nat, ∀ (x2 : Int32) , ∀ ls : Array Slot, lv_has ls 6 [(0, .ref (ad 99)), (1, .int (x1)), (2, .int (x2))] → f_X5_hasRoom_L2 F G x1 n2 x2 = some rv → W p l e (headSpec wsX5_hasRoom ({ frames := 1, cells := 0, slots := 0, locals := 22 } : Room)).room s m (List.toArray ([.ref (ad 99), .int x1] : List Value)) below meth c s.heap [] 0 0 (MQ below (vp_Si (fun z => z = rv)) (List.toArray ([.ref (ad 99), .int x1] : List Value)) s 0 0 (fun _ => False)) (F0 m 2 ls []) := by
    intro n2
    induction n2 with
    | zero =>
      intro x2 ls hl h
      cases h
    | succ n2 ih2 =>
      have j40 : ∀ n40 : Nat, ∀ (x2 : Int32) (x3 : Int32) (x4 : Int32) (x5 : Int32) , ∀ ls : Array Slot, lv_has ls 6 [(0, .ref (ad 99)), (1, .int (x1)), (2, .int (x2)), (3, .int (x3)), (4, .int (x4)), (5, .int (x5))] → f_X5_hasRoom_L40 (f_X5_hasRoom_L2 F G x1 n2) F G x1 n40 x2 x3 x4 x5 = some rv → W p l e (headSpec wsX5_hasRoom ({ frames := 1, cells := 0, slots := 0, locals := 22 } : Room)).room s m (List.toArray ([.ref (ad 99), .int x1] : List Value)) below meth c s.heap [] 0 0 (MQ below (vp_Si (fun z => z = rv)) (List.toArray ([.ref (ad 99), .int x1] : List Value)) s 0 0 (fun _ => False)) (F0 m 40 ls []) := by
        intro n40
        induction n40 with
        | zero =>
          intro x2 x3 x4 x5 ls hl h
          cases h
        | succ n40 ih40 =>
          have j64 : ∀ (x2 : Int32) (x3 : Int32) (x5 : Int32) (s0 : Int32) (s1 : Int32) , ∀ ls : Array Slot, lv_has ls 6 [(0, .ref (ad 99)), (1, .int (x1)), (2, .int (x2)), (3, .int (x3)), (5, .int (x5))] → f_X5_hasRoom_B64 (f_X5_hasRoom_L2 F G x1 n2) (f_X5_hasRoom_L40 (f_X5_hasRoom_L2 F G x1 n2) F G x1 n40) F G x1 x2 x3 x5 s0 s1 = some rv → W p l e (headSpec wsX5_hasRoom ({ frames := 1, cells := 0, slots := 0, locals := 22 } : Room)).room s m (List.toArray ([.ref (ad 99), .int x1] : List Value)) below meth c s.heap [] 0 0 (MQ below (vp_Si (fun z => z = rv)) (List.toArray ([.ref (ad 99), .int x1] : List Value)) s 0 0 (fun _ => False)) (F0 m 64 ls [.int (s1), .int (s0)]) := by
            intro x2 x3 x5 s0 s1 ls hl h
            refine lv_iadd hx hb dX5_hasRoom_64 ?_
            refine q_nm h (fun v1 h => ?_)
            refine lv_istore (lv' := [(4, .int (v1)), (0, .ref (ad 99)), (1, .int (x1)), (2, .int (x2)), (3, .int (x3)), (5, .int (x5))]) hx hb dX5_hasRoom_65 hl (by decide) rfl (fun ls hl => ?_)
            refine q_iinc (j := 5) (d := (1 : Int32)) (lv2 := fun v2 => [(5, .int (v2)), (4, .int (v1)), (0, .ref (ad 99)), (1, .int (x1)), (2, .int (x2)), (3, .int (x3))]) hx hb dX5_hasRoom_67 hl rfl (by decide) (by decide) (fun _ => rfl) h (fun v2 ls hl h => ?_)
            refine lv_goto (tgt := 40) hx hb dX5_hasRoom_70 (by decide) ?_
            exact ih40 x2 x3 v1 v2 _ (lv_sub hl [2, 3, 4, 5, 1, 0] rfl) h
          intro x2 x3 x4 x5 ls hl h
          replace h : f_X5_hasRoom_L40_b (f_X5_hasRoom_L2 F G x1 n2) (f_X5_hasRoom_L40 (f_X5_hasRoom_L2 F G x1 n2) F G x1 n40) F G x1 x2 x3 x4 x5 = some rv := h
          refine lv_iload hx hb dX5_hasRoom_40 (lv_at hl 5 rfl) ?_
          refine lv_iload_n hx hb dX5_hasRoom_42 rfl (lv_at hl 2 rfl) ?_
          refine q_icmp_gt (tgt := 73) hx hb dX5_hasRoom_43 (by decide) h (fun h => ?_) (fun h => ?_)
          · refine lv_iload hx hb dX5_hasRoom_73 (lv_at hl 4 rfl) ?_
            refine lv_aload_n hx hb dX5_hasRoom_75 rfl (lv_at hl 0 rfl) ?_
            refine va_get hx hb hts hi_X5_hasRoom_X5 hown hK hP 0 (m_o99 cI cZ ad F G) rfl 3 (by decide) (hts _ (List.mem_of_getElem? (i := 5) rfl)) (fun _ h9 => h9) rfl dX5_hasRoom_76 ?_
            refine lv_aload_n hx hb dX5_hasRoom_79 rfl (lv_at hl 0 rfl) ?_
            refine lv_iload_n hx hb dX5_hasRoom_80 rfl (lv_at hl 3 rfl) ?_
            refine lv_iload_n hx hb dX5_hasRoom_81 rfl (lv_at hl 1 rfl) ?_
            obtain ⟨v3, hc4, h⟩ := q_some h
            refine q_cs (W.runV (C := RX5) (As := [.int (x3), .int (x1)]) (rest := [.ref (ad 3), .int (x4)]) ⟨hx, hb, hml, hown, hts⟩ (mt_X5_colourAt l D cI cZ ad F G x3 x1 v3 hc4) (cwV 2 hts gX5_hasRoom_X5_colourAt rfl rfl rfl (by decide +kernel) ⟨Nat.le_of_ble_eq_true rfl, Nat.le_of_ble_eq_true rfl⟩) ⟨mR_b, va_recv hK hP (ci := 5) (q0 := 0) rfl rfl, (mR_p hP hK hN).2⟩ rfl rfl hl.1 rfl (lv_room (Nat.le_of_ble_eq_true rfl)) dX5_hasRoom_82 ⟨Nat.le_of_ble_eq_true rfl, Nat.le_of_ble_eq_true rfl⟩) ?_
            refine q_ld hx hb hK hP 2 0 (m_a3 cI cZ ad F G) rfl dX5_hasRoom_85 h (fun v5 h => ?_)
            refine q_icmp_le (tgt := 91) hx hb dX5_hasRoom_86 (by decide) h (fun h => ?_) (fun h => ?_)
            · refine q_iinc (j := 2) (d := (1 : Int32)) (lv2 := fun v6 => [(2, .int (v6)), (0, .ref (ad 99)), (1, .int (x1)), (3, .int (x3)), (4, .int (x4)), (5, .int (x5))]) hx hb dX5_hasRoom_91 hl rfl (by decide) (by decide) (fun _ => rfl) h (fun v6 ls hl h => ?_)
              refine lv_goto (tgt := 2) hx hb dX5_hasRoom_94 (by decide) ?_
              exact ih2 v6 _ (lv_sub hl [1, 2, 0] rfl) h
            · refine lv_iconst (v := 0) hx hb dX5_hasRoom_89 (by decide) ?_
              exact W.zret hx hb hr rfl (fun t ht hW => ⟨_, rfl, Option.some.inj h, ht⟩) (fun q hq9 => by cases hq9) dX5_hasRoom_90
          · refine lv_iload hx hb dX5_hasRoom_46 (lv_at hl 4 rfl) ?_
            refine lv_aload_n hx hb dX5_hasRoom_48 rfl (lv_at hl 0 rfl) ?_
            refine va_get hx hb hts hi_X5_hasRoom_X5 hown hK hP 0 (m_o99 cI cZ ad F G) rfl 28 (by decide) (hts _ (List.mem_of_getElem? (i := 2) rfl)) (fun _ h9 => h9) rfl dX5_hasRoom_49 ?_
            refine lv_iload hx hb dX5_hasRoom_52 (lv_at hl 5 rfl) ?_
            refine q_ld hx hb hK hP 14 0 (m_a28 cI cZ ad F G) rfl dX5_hasRoom_54 h (fun v7 h => ?_)
            refine lv_iload_n hx hb dX5_hasRoom_55 rfl (lv_at hl 3 rfl) ?_
            refine q_icmp_ne (tgt := 63) hx hb dX5_hasRoom_56 (by decide) h (fun h => ?_) (fun h => ?_)
            · refine lv_iconst (v := 0) hx hb dX5_hasRoom_63 (by decide) ?_
              exact j64 x2 x3 x5 x4 (0 : Int32) _ (lv_sub hl [0, 1, 2, 3, 5] rfl) h
            · refine lv_iconst (v := 1) hx hb dX5_hasRoom_59 (by decide) ?_
              refine lv_goto (tgt := 64) hx hb dX5_hasRoom_60 (by decide) ?_
              exact j64 x2 x3 x5 x4 (1 : Int32) _ (lv_sub hl [0, 1, 2, 3, 5] rfl) h
      have j35 : ∀ (x2 : Int32) (x3 : Int32) (s0 : Int32) , ∀ ls : Array Slot, lv_has ls 6 [(0, .ref (ad 99)), (1, .int (x1)), (2, .int (x2)), (3, .int (x3))] → f_X5_hasRoom_B35 (f_X5_hasRoom_L2 F G x1 n2) F G x1 x2 x3 s0 = some rv → W p l e (headSpec wsX5_hasRoom ({ frames := 1, cells := 0, slots := 0, locals := 22 } : Room)).room s m (List.toArray ([.ref (ad 99), .int x1] : List Value)) below meth c s.heap [] 0 0 (MQ below (vp_Si (fun z => z = rv)) (List.toArray ([.ref (ad 99), .int x1] : List Value)) s 0 0 (fun _ => False)) (F0 m 35 ls [.int (s0)]) := by
        intro x2 x3 s0 ls hl h
        refine lv_istore (lv' := [(4, .int (s0)), (0, .ref (ad 99)), (1, .int (x1)), (2, .int (x2)), (3, .int (x3))]) hx hb dX5_hasRoom_35 hl (by decide) rfl (fun ls hl => ?_)
        refine lv_iconst (v := 0) hx hb dX5_hasRoom_37 (by decide) ?_
        refine q_nm h (fun v8 h => ?_)
        refine lv_istore (lv' := [(5, .int (v8)), (4, .int (s0)), (0, .ref (ad 99)), (1, .int (x1)), (2, .int (x2)), (3, .int (x3))]) hx hb dX5_hasRoom_38 hl (by decide) rfl (fun ls hl => ?_)
        exact j40 1000 x2 x3 s0 v8 _ (lv_sub hl [2, 3, 4, 5, 1, 0] rfl) h
      intro x2 ls hl h
      replace h : f_X5_hasRoom_L2_b (f_X5_hasRoom_L2 F G x1 n2) F G x1 x2 = some rv := h
      refine lv_iload_n hx hb dX5_hasRoom_2 rfl (lv_at hl 2 rfl) ?_
      refine lv_aload_n hx hb dX5_hasRoom_3 rfl (lv_at hl 0 rfl) ?_
      refine va_get hx hb hts hi_X5_hasRoom_X5 hown hK hP 0 (m_o99 cI cZ ad F G) rfl 27 (by decide) (hts _ (List.mem_of_getElem? (i := 1) rfl)) (fun _ h9 => h9) rfl dX5_hasRoom_4 ?_
      refine q_icmp_ge (tgt := 97) hx hb dX5_hasRoom_7 (by decide) h (fun h => ?_) (fun h => ?_)
      · refine lv_iconst (v := 1) hx hb dX5_hasRoom_97 (by decide) ?_
        exact W.zret hx hb hr rfl (fun t ht hW => ⟨_, rfl, Option.some.inj h, ht⟩) (fun q hq9 => by cases hq9) dX5_hasRoom_98
      · refine lv_aload_n hx hb dX5_hasRoom_10 rfl (lv_at hl 0 rfl) ?_
        refine va_get hx hb hts hi_X5_hasRoom_X5 hown hK hP 0 (m_o99 cI cZ ad F G) rfl 28 (by decide) (hts _ (List.mem_of_getElem? (i := 2) rfl)) (fun _ h9 => h9) rfl dX5_hasRoom_11 ?_
        refine lv_iload_n hx hb dX5_hasRoom_14 rfl (lv_at hl 2 rfl) ?_
        refine q_ld hx hb hK hP 14 0 (m_a28 cI cZ ad F G) rfl dX5_hasRoom_15 h (fun v9 h => ?_)
        refine lv_istore_n (lv' := [(3, .int (v9)), (0, .ref (ad 99)), (1, .int (x1)), (2, .int (x2))]) hx hb dX5_hasRoom_16 rfl hl (by decide) rfl (fun ls hl => ?_)
        refine lv_iload_n hx hb dX5_hasRoom_17 rfl (lv_at hl 0 rfl) ?_
        refine lv_aload_n hx hb dX5_hasRoom_18 rfl (lv_at hl 1 rfl) ?_
        refine va_get hx hb hts hi_X5_hasRoom_X5 hown hK hP 0 (m_o99 cI cZ ad F G) rfl 8 (by decide) (hts _ (List.mem_of_getElem? (i := 3) rfl)) (fun _ h9 => h9) rfl dX5_hasRoom_19 ?_
        refine q_icmp_ne (tgt := 29) hx hb dX5_hasRoom_22 (by decide) h (fun h => ?_) (fun h => ?_)
        · refine lv_aload_n hx hb dX5_hasRoom_29 rfl (lv_at hl 1 rfl) ?_
          refine va_get hx hb hts hi_X5_hasRoom_X5 hown hK hP 0 (m_o99 cI cZ ad F G) rfl 11 (by decide) (hts _ (List.mem_of_getElem? (i := 4) rfl)) (fun _ h9 => h9) rfl dX5_hasRoom_30 ?_
          refine lv_iload_n hx hb dX5_hasRoom_33 rfl (lv_at hl 0 rfl) ?_
          refine q_ld hx hb hK hP 7 0 (m_a11 cI cZ ad F G) rfl dX5_hasRoom_34 h (fun v10 h => ?_)
          exact j35 x2 v9 v10 _ (lv_sub hl [1, 2, 3, 0] rfl) h
        · refine lv_iconst (v := 0) hx hb dX5_hasRoom_25 (by decide) ?_
          refine lv_goto (tgt := 35) hx hb dX5_hasRoom_26 (by decide) ?_
          exact j35 x2 v9 (0 : Int32) _ (lv_sub hl [1, 2, 3, 0] rfl) h
  refine lv_iconst (v := 0) hx hb dX5_hasRoom_0 (by decide) ?_
  refine q_nm h (fun v11 h => ?_)
  refine lv_istore_n (lv' := [(2, .int (v11)), (0, .ref (ad 99)), (1, .int (x1))]) hx hb dX5_hasRoom_1 rfl hl (by decide) rfl (fun ls hl => ?_)
  exact j2 1000 v11 _ (lv_sub hl [1, 2, 0] rfl) h
theorem hi_X5_lastColumn_X5 : ∀ w ∈ u_ws RX5 TX5 48, w ∈ wsX5_lastColumn := fun w h => (List.mem_cons_of_mem _ (List.mem_append_right _ h))
set_option maxHeartbeats 4000000 in
set_option maxRecDepth 100000 in
theorem mt_X5_lastColumn (l : Launch) (D : va_G) (cI cZ : ClassId) (ad : Nat → Nat) (F : Nat → Int32) (G : Nat → Nat → Int32) (x1 : Int32) (x2 : Int32) (rv : Int32) (h : f_X5_lastColumn F G x1 x2 = some rv) : Met l yX5_lastColumn wsX5_lastColumn ({ frames := 1, cells := 0, slots := 0, locals := 20 } : Room) (va_Pc [.ref (ad 99), .int x1, .int x2] (mR D cI cZ ad F G)) (vp_Si (fun z => z = rv)) 0 0 (fun _ => False) := by
  refine Met.ofW (cc := cX5_lastColumn) (maxL := 6) (ret := (some .int)) (by decide) rfl ?_
  intro p e s m args below meth c s₁ B hml hv
  obtain ⟨rfl, hP, hK, hN⟩ := hv
  have hx := B.exec
  have hb := B.bytes
  have hr := B.returns
  have hts := atoms_spec (ws := wsX5_lastColumn) B.pre
  have hown : s.vm.findClass RX5 = some m.cls := findClass_of_methodNamed B.named
  have hlocks := B.notSynchronized
  have hl := lv_entry ([.ref (ad 99), .int x1, .int x2]) (n := 6) (Nat.le_of_ble_eq_true rfl)
  rw [lg_entry_eq]
  generalize (lg_sl ([.ref (ad 99), .int x1, .int x2]) ++ List.replicate (6 - (lg_sl ([.ref (ad 99), .int x1, .int x2])).length) Slot.unset).toArray = ls at hl ⊢
  have hl : lv_has ls 6 [(0, .ref (ad 99)), (1, .int (x1)), (2, .int (x2))] := hl
  have j5 : ∀ n5 : Nat, ∀ (x3 : Int32) (x4 : Int32) , ∀ ls : Array Slot, lv_has ls 6 [(0, .ref (ad 99)), (1, .int (x1)), (2, .int (x2)), (3, .int (x3)), (4, .int (x4))] → f_X5_lastColumn_L5 F G x1 x2 n5 x3 x4 = some rv → W p l e (headSpec wsX5_lastColumn ({ frames := 1, cells := 0, slots := 0, locals := 20 } : Room)).room s m (List.toArray ([.ref (ad 99), .int x1, .int x2] : List Value)) below meth c s.heap [] 0 0 (MQ below (vp_Si (fun z => z = rv)) (List.toArray ([.ref (ad 99), .int x1, .int x2] : List Value)) s 0 0 (fun _ => False)) (F0 m 5 ls []) := by
    intro n5
    induction n5 with
    | zero =>
      intro x3 x4 ls hl h
      cases h
    | succ n5 ih5 =>
      have j53 : ∀ (x3 : Int32) (x4 : Int32) , ∀ ls : Array Slot, lv_has ls 6 [(0, .ref (ad 99)), (1, .int (x1)), (2, .int (x2)), (3, .int (x3)), (4, .int (x4))] → f_X5_lastColumn_B53 (f_X5_lastColumn_L5 F G x1 x2 n5) F G x1 x2 x3 x4 = some rv → W p l e (headSpec wsX5_lastColumn ({ frames := 1, cells := 0, slots := 0, locals := 20 } : Room)).room s m (List.toArray ([.ref (ad 99), .int x1, .int x2] : List Value)) below meth c s.heap [] 0 0 (MQ below (vp_Si (fun z => z = rv)) (List.toArray ([.ref (ad 99), .int x1, .int x2] : List Value)) s 0 0 (fun _ => False)) (F0 m 53 ls []) := by
        intro x3 x4 ls hl h
        refine q_iinc (j := 4) (d := (1 : Int32)) (lv2 := fun v1 => [(4, .int (v1)), (0, .ref (ad 99)), (1, .int (x1)), (2, .int (x2)), (3, .int (x3))]) hx hb dX5_lastColumn_53 hl rfl (by decide) (by decide) (fun _ => rfl) h (fun v1 ls hl h => ?_)
        refine lv_goto (tgt := 5) hx hb dX5_lastColumn_56 (by decide) ?_
        exact ih5 x3 v1 _ (lv_sub hl [1, 2, 3, 4, 0] rfl) h
      have j32 : ∀ (x3 : Int32) (x4 : Int32) (s0 : Int32) , ∀ ls : Array Slot, lv_has ls 6 [(0, .ref (ad 99)), (1, .int (x1)), (2, .int (x2)), (3, .int (x3)), (4, .int (x4))] → f_X5_lastColumn_B32 (f_X5_lastColumn_L5 F G x1 x2 n5) F G x1 x2 x3 x4 s0 = some rv → W p l e (headSpec wsX5_lastColumn ({ frames := 1, cells := 0, slots := 0, locals := 20 } : Room)).room s m (List.toArray ([.ref (ad 99), .int x1, .int x2] : List Value)) below meth c s.heap [] 0 0 (MQ below (vp_Si (fun z => z = rv)) (List.toArray ([.ref (ad 99), .int x1, .int x2] : List Value)) s 0 0 (fun _ => False)) (F0 m 32 ls [.int (s0)]) := by
        intro x3 x4 s0 ls hl h
        refine lv_istore (lv' := [(5, .int (s0)), (0, .ref (ad 99)), (1, .int (x1)), (2, .int (x2)), (3, .int (x3)), (4, .int (x4))]) hx hb dX5_lastColumn_32 hl (by decide) rfl (fun ls hl => ?_)
        refine lv_aload_n hx hb dX5_lastColumn_34 rfl (lv_at hl 1 rfl) ?_
        refine va_get hx hb hts hi_X5_lastColumn_X5 hown hK hP 0 (m_o99 cI cZ ad F G) rfl 0 (by decide) (hts _ (List.mem_of_getElem? (i := 1) rfl)) (fun _ h9 => h9) rfl dX5_lastColumn_35 ?_
        refine lv_bipush (v := 12) hx hb dX5_lastColumn_38 (by decide) ?_
        refine lv_iload_n hx hb dX5_lastColumn_40 rfl (lv_at hl 2 rfl) ?_
        refine lv_imul hx hb dX5_lastColumn_41 ?_
        refine lv_iload hx hb dX5_lastColumn_42 (lv_at hl 0 rfl) ?_
        refine lv_iadd hx hb dX5_lastColumn_44 ?_
        refine q_ld hx hb hK hP 1 0 (m_a0 cI cZ ad F G) rfl dX5_lastColumn_45 h (fun v2 h => ?_)
        refine lv_iconst (v := -1) hx hb dX5_lastColumn_46 (by decide) ?_
        refine q_icmp_eq (tgt := 53) hx hb dX5_lastColumn_47 (by decide) h (fun h => ?_) (fun h => ?_)
        · exact j53 x3 x4 _ (lv_sub hl [1, 2, 3, 4, 5] rfl) h
        · refine lv_iload hx hb dX5_lastColumn_50 (lv_at hl 0 rfl) ?_
          refine lv_istore_n (lv' := [(3, .int (s0)), (5, .int (s0)), (0, .ref (ad 99)), (1, .int (x1)), (2, .int (x2)), (4, .int (x4))]) hx hb dX5_lastColumn_52 rfl hl (by decide) rfl (fun ls hl => ?_)
          exact j53 s0 x4 _ (lv_sub hl [2, 3, 4, 0, 5] rfl) h
      intro x3 x4 ls hl h
      replace h : f_X5_lastColumn_L5_b (f_X5_lastColumn_L5 F G x1 x2 n5) F G x1 x2 x3 x4 = some rv := h
      refine lv_iload hx hb dX5_lastColumn_5 (lv_at hl 4 rfl) ?_
      refine lv_aload_n hx hb dX5_lastColumn_7 rfl (lv_at hl 0 rfl) ?_
      obtain ⟨v3, hc4, h⟩ := q_some h
      refine q_cs (W.runV (C := RX5) (As := []) (rest := [.int (x4)]) ⟨hx, hb, hml, hown, hts⟩ (mt_X5_columns l D cI cZ ad F G  v3 hc4) (cwV 0 hts gX5_lastColumn_X5_columns rfl rfl rfl (by decide +kernel) ⟨Nat.le_of_ble_eq_true rfl, Nat.le_of_ble_eq_true rfl⟩) ⟨mR_b, va_recv hK hP (ci := 5) (q0 := 0) rfl rfl, (mR_p hP hK hN).2⟩ rfl rfl hl.1 rfl (lv_room (Nat.le_of_ble_eq_true rfl)) dX5_lastColumn_8 ⟨Nat.le_of_ble_eq_true rfl, Nat.le_of_ble_eq_true rfl⟩) ?_
      refine q_icmp_ge (tgt := 59) hx hb dX5_lastColumn_11 (by decide) h (fun h => ?_) (fun h => ?_)
      · refine lv_iload_n hx hb dX5_lastColumn_59 rfl (lv_at hl 3 rfl) ?_
        exact W.iret hx hb hr (fun t ht hW => ⟨_, rfl, Option.some.inj h, ht⟩) (fun q hq9 => by cases hq9) dX5_lastColumn_60
      · refine lv_iload_n hx hb dX5_lastColumn_14 rfl (lv_at hl 2 rfl) ?_
        refine q_if_eq (tgt := 23) hx hb dX5_lastColumn_15 (by decide) h (fun h => ?_) (fun h => ?_)
        · refine lv_aload_n hx hb dX5_lastColumn_23 rfl (lv_at hl 0 rfl) ?_
          obtain ⟨v5, hc6, h⟩ := q_some h
          refine q_cs (W.runV (C := RX5) (As := []) (rest := []) ⟨hx, hb, hml, hown, hts⟩ (mt_X5_columns l D cI cZ ad F G  v5 hc6) (cwV 0 hts gX5_lastColumn_X5_columns rfl rfl rfl (by decide +kernel) ⟨Nat.le_of_ble_eq_true rfl, Nat.le_of_ble_eq_true rfl⟩) ⟨mR_b, va_recv hK hP (ci := 5) (q0 := 0) rfl rfl, (mR_p hP hK hN).2⟩ rfl rfl hl.1 rfl (lv_room (Nat.le_of_ble_eq_true rfl)) dX5_lastColumn_24 ⟨Nat.le_of_ble_eq_true rfl, Nat.le_of_ble_eq_true rfl⟩) ?_
          refine lv_iconst (v := 1) hx hb dX5_lastColumn_27 (by decide) ?_
          refine lv_isub hx hb dX5_lastColumn_28 ?_
          refine lv_iload hx hb dX5_lastColumn_29 (lv_at hl 4 rfl) ?_
          refine lv_isub hx hb dX5_lastColumn_31 ?_
          exact j32 x3 x4 (((v5 - (1 : Int32)) - x4)) _ (lv_sub hl [0, 1, 2, 3, 4] rfl) h
        · refine lv_iload hx hb dX5_lastColumn_18 (lv_at hl 4 rfl) ?_
          refine lv_goto (tgt := 32) hx hb dX5_lastColumn_20 (by decide) ?_
          exact j32 x3 x4 x4 _ (lv_sub hl [0, 1, 2, 3, 4] rfl) h
  refine lv_iconst (v := -1) hx hb dX5_lastColumn_0 (by decide) ?_
  refine q_nm h (fun v7 h => ?_)
  refine lv_istore_n (lv' := [(3, .int (v7)), (0, .ref (ad 99)), (1, .int (x1)), (2, .int (x2))]) hx hb dX5_lastColumn_1 rfl hl (by decide) rfl (fun ls hl => ?_)
  refine lv_iconst (v := 0) hx hb dX5_lastColumn_2 (by decide) ?_
  refine q_nm h (fun v8 h => ?_)
  refine lv_istore (lv' := [(4, .int (v8)), (3, .int (v7)), (0, .ref (ad 99)), (1, .int (x1)), (2, .int (x2))]) hx hb dX5_lastColumn_3 hl (by decide) rfl (fun ls hl => ?_)
  exact j5 1000 v7 v8 _ (lv_sub hl [2, 3, 4, 1, 0] rfl) h
theorem hi_X5_worked_X5 : ∀ w ∈ u_ws RX5 TX5 48, w ∈ wsX5_worked := fun w h => (List.mem_cons_of_mem _ (List.mem_append_right _ h))
set_option maxHeartbeats 4000000 in
set_option maxRecDepth 100000 in
theorem mt_X5_worked (l : Launch) (D : va_G) (cI cZ : ClassId) (ad : Nat → Nat) (F : Nat → Int32) (G : Nat → Nat → Int32) (x1 : Int32) (rv : Int32) (h : f_X5_worked F G x1 = some rv) : Met l yX5_worked wsX5_worked ({ frames := 0, cells := 0, slots := 0, locals := 0 } : Room) (va_Pc [.ref (ad 99), .int x1] (mR D cI cZ ad F G)) (vp_Si (fun z => z = rv)) 0 0 (fun _ => False) := by
  refine Met.ofW (cc := cX5_worked) (maxL := 4) (ret := (some .int)) (by decide) rfl ?_
  intro p e s m args below meth c s₁ B hml hv
  obtain ⟨rfl, hP, hK, hN⟩ := hv
  have hx := B.exec
  have hb := B.bytes
  have hr := B.returns
  have hts := atoms_spec (ws := wsX5_worked) B.pre
  have hown : s.vm.findClass RX5 = some m.cls := findClass_of_methodNamed B.named
  have hlocks := B.notSynchronized
  have hl := lv_entry ([.ref (ad 99), .int x1]) (n := 4) (Nat.le_of_ble_eq_true rfl)
  rw [lg_entry_eq]
  generalize (lg_sl ([.ref (ad 99), .int x1]) ++ List.replicate (4 - (lg_sl ([.ref (ad 99), .int x1])).length) Slot.unset).toArray = ls at hl ⊢
  have hl : lv_has ls 4 [(0, .ref (ad 99)), (1, .int (x1))] := hl
  have j118 : ∀ n118 : Nat, ∀ (x2 : Int32) (x3 : Int32) , ∀ ls : Array Slot, lv_has ls 4 [(0, .ref (ad 99)), (2, .int (x2)), (3, .int (x3))] → f_X5_worked_L118 F G x1 n118 x2 x3 = some rv → W p l e (headSpec wsX5_worked ({ frames := 0, cells := 0, slots := 0, locals := 0 } : Room)).room s m (List.toArray ([.ref (ad 99), .int x1] : List Value)) below meth c s.heap [] 0 0 (MQ below (vp_Si (fun z => z = rv)) (List.toArray ([.ref (ad 99), .int x1] : List Value)) s 0 0 (fun _ => False)) (F0 m 118 ls []) := by
    intro n118
    induction n118 with
    | zero =>
      intro x2 x3 ls hl h
      cases h
    | succ n118 ih118 =>
      intro x2 x3 ls hl h
      replace h : f_X5_worked_L118_b (f_X5_worked_L118 F G x1 n118) F G x1 x2 x3 = some rv := h
      refine lv_iload_n hx hb dX5_worked_118 rfl (lv_at hl 2 rfl) ?_
      refine lv_aload_n hx hb dX5_worked_119 rfl (lv_at hl 0 rfl) ?_
      refine va_get hx hb hts hi_X5_worked_X5 hown hK hP 0 (m_o99 cI cZ ad F G) rfl 32 (by decide) (hts _ (List.mem_of_getElem? (i := 7) rfl)) (fun _ h9 => h9) rfl dX5_worked_120 ?_
      refine q_icmp_ge (tgt := 141) hx hb dX5_worked_123 (by decide) h (fun h => ?_) (fun h => ?_)
      · refine lv_iload_n hx hb dX5_worked_141 rfl (lv_at hl 1 rfl) ?_
        exact W.iret hx hb hr (fun t ht hW => ⟨_, rfl, Option.some.inj h, ht⟩) (fun q hq9 => by cases hq9) dX5_worked_142
      · refine lv_iload_n hx hb dX5_worked_126 rfl (lv_at hl 1 rfl) ?_
        refine lv_aload_n hx hb dX5_worked_127 rfl (lv_at hl 0 rfl) ?_
        refine va_get hx hb hts hi_X5_worked_X5 hown hK hP 0 (m_o99 cI cZ ad F G) rfl 40 (by decide) (hts _ (List.mem_of_getElem? (i := 8) rfl)) (fun _ h9 => h9) rfl dX5_worked_128 ?_
        refine lv_iload_n hx hb dX5_worked_131 rfl (lv_at hl 2 rfl) ?_
        refine q_ld hx hb hK hP 19 0 (m_a40 cI cZ ad F G) rfl dX5_worked_132 h (fun v1 h => ?_)
        refine lv_iadd hx hb dX5_worked_133 ?_
        refine q_nm h (fun v2 h => ?_)
        refine lv_istore_n (lv' := [(2, .int (v2)), (0, .ref (ad 99)), (3, .int (x3))]) hx hb dX5_worked_134 rfl hl (by decide) rfl (fun ls hl => ?_)
        refine q_iinc (j := 2) (d := (1 : Int32)) (lv2 := fun v3 => [(3, .int (v3)), (2, .int (v2)), (0, .ref (ad 99))]) hx hb dX5_worked_135 hl rfl (by decide) (by decide) (fun _ => rfl) h (fun v3 ls hl h => ?_)
        refine lv_goto (tgt := 118) hx hb dX5_worked_138 (by decide) ?_
        exact ih118 v2 v3 _ (lv_sub hl [2, 1, 0] rfl) h
  refine lv_aload_n hx hb dX5_worked_0 rfl (lv_at hl 0 rfl) ?_
  refine va_get hx hb hts hi_X5_worked_X5 hown hK hP 0 (m_o99 cI cZ ad F G) rfl 31 (by decide) (hts _ (List.mem_of_getElem? (i := 1) rfl)) (fun _ h9 => h9) rfl dX5_worked_1 ?_
  refine q_if_ne (tgt := 9) hx hb dX5_worked_4 (by decide) h (fun h => ?_) (fun h => ?_)
  · refine lv_iconst (v := 0) hx hb dX5_worked_9 (by decide) ?_
    refine q_nm h (fun v4 h => ?_)
    refine lv_istore_n (lv' := [(2, .int (v4)), (0, .ref (ad 99)), (1, .int (x1))]) hx hb dX5_worked_10 rfl hl (by decide) rfl (fun ls hl => ?_)
    refine lv_iload_n hx hb dX5_worked_11 rfl (lv_at hl 2 rfl) ?_
    rcases q_ite _ h with ⟨c0, h⟩ | ⟨c0, h⟩
    · refine lv_tableIn (tgt := 56) hx hb dX5_worked_12 (by rw [c0]; decide) (by rw [c0]; decide) (by rw [c0]; rfl) (by decide) ?_
      refine lv_aload_n hx hb dX5_worked_56 rfl (lv_at hl 1 rfl) ?_
      refine va_get hx hb hts hi_X5_worked_X5 hown hK hP 0 (m_o99 cI cZ ad F G) rfl 33 (by decide) (hts _ (List.mem_of_getElem? (i := 2) rfl)) (fun _ h9 => h9) rfl dX5_worked_57 ?_
      exact W.iret hx hb hr (fun t ht hW => ⟨_, rfl, Option.some.inj h, ht⟩) (fun q hq9 => by cases hq9) dX5_worked_60
    rcases q_ite _ h with ⟨c1, h⟩ | ⟨c1, h⟩
    · refine lv_tableIn (tgt := 61) hx hb dX5_worked_12 (by rw [c1]; decide) (by rw [c1]; decide) (by rw [c1]; rfl) (by decide) ?_
      refine lv_aload_n hx hb dX5_worked_61 rfl (lv_at hl 1 rfl) ?_
      refine va_get hx hb hts hi_X5_worked_X5 hown hK hP 0 (m_o99 cI cZ ad F G) rfl 34 (by decide) (hts _ (List.mem_of_getElem? (i := 3) rfl)) (fun _ h9 => h9) rfl dX5_worked_62 ?_
      refine lv_iconst (v := -1) hx hb dX5_worked_65 (by decide) ?_
      refine q_icmp_ne (tgt := 73) hx hb dX5_worked_66 (by decide) h (fun h => ?_) (fun h => ?_)
      · refine lv_aload_n hx hb dX5_worked_73 rfl (lv_at hl 1 rfl) ?_
        refine va_get hx hb hts hi_X5_worked_X5 hown hK hP 0 (m_o99 cI cZ ad F G) rfl 34 (by decide) (hts _ (List.mem_of_getElem? (i := 3) rfl)) (fun _ h9 => h9) rfl dX5_worked_74 ?_
        refine lv_bipush (v := 12) hx hb dX5_worked_77 (by decide) ?_
        refine lv_idiv hx hb dX5_worked_79 (by decide) ?_
        exact W.iret hx hb hr (fun t ht hW => ⟨_, rfl, Option.some.inj h, ht⟩) (fun q hq9 => by cases hq9) dX5_worked_80
      · refine lv_iconst (v := -1) hx hb dX5_worked_69 (by decide) ?_
        refine lv_goto (tgt := 80) hx hb dX5_worked_70 (by decide) ?_
        exact W.iret hx hb hr (fun t ht hW => ⟨_, rfl, Option.some.inj h, ht⟩) (fun q hq9 => by cases hq9) dX5_worked_80
    rcases q_ite _ h with ⟨c2, h⟩ | ⟨c2, h⟩
    · refine lv_tableIn (tgt := 81) hx hb dX5_worked_12 (by rw [c2]; decide) (by rw [c2]; decide) (by rw [c2]; rfl) (by decide) ?_
      refine lv_aload_n hx hb dX5_worked_81 rfl (lv_at hl 1 rfl) ?_
      refine va_get hx hb hts hi_X5_worked_X5 hown hK hP 0 (m_o99 cI cZ ad F G) rfl 34 (by decide) (hts _ (List.mem_of_getElem? (i := 3) rfl)) (fun _ h9 => h9) rfl dX5_worked_82 ?_
      refine lv_iconst (v := -1) hx hb dX5_worked_85 (by decide) ?_
      refine q_icmp_ne (tgt := 93) hx hb dX5_worked_86 (by decide) h (fun h => ?_) (fun h => ?_)
      · refine lv_aload_n hx hb dX5_worked_93 rfl (lv_at hl 1 rfl) ?_
        refine va_get hx hb hts hi_X5_worked_X5 hown hK hP 0 (m_o99 cI cZ ad F G) rfl 34 (by decide) (hts _ (List.mem_of_getElem? (i := 3) rfl)) (fun _ h9 => h9) rfl dX5_worked_94 ?_
        refine lv_bipush (v := 12) hx hb dX5_worked_97 (by decide) ?_
        refine lv_irem hx hb dX5_worked_99 (by decide) ?_
        exact W.iret hx hb hr (fun t ht hW => ⟨_, rfl, Option.some.inj h, ht⟩) (fun q hq9 => by cases hq9) dX5_worked_100
      · refine lv_iconst (v := -1) hx hb dX5_worked_89 (by decide) ?_
        refine lv_goto (tgt := 100) hx hb dX5_worked_90 (by decide) ?_
        exact W.iret hx hb hr (fun t ht hW => ⟨_, rfl, Option.some.inj h, ht⟩) (fun q hq9 => by cases hq9) dX5_worked_100
    rcases q_ite _ h with ⟨c3, h⟩ | ⟨c3, h⟩
    · refine lv_tableIn (tgt := 101) hx hb dX5_worked_12 (by rw [c3]; decide) (by rw [c3]; decide) (by rw [c3]; rfl) (by decide) ?_
      refine lv_aload_n hx hb dX5_worked_101 rfl (lv_at hl 1 rfl) ?_
      refine va_get hx hb hts hi_X5_worked_X5 hown hK hP 0 (m_o99 cI cZ ad F G) rfl 35 (by decide) (hts _ (List.mem_of_getElem? (i := 4) rfl)) (fun _ h9 => h9) rfl dX5_worked_102 ?_
      exact W.iret hx hb hr (fun t ht hW => ⟨_, rfl, Option.some.inj h, ht⟩) (fun q hq9 => by cases hq9) dX5_worked_105
    rcases q_ite _ h with ⟨c4, h⟩ | ⟨c4, h⟩
    · refine lv_tableIn (tgt := 106) hx hb dX5_worked_12 (by rw [c4]; decide) (by rw [c4]; decide) (by rw [c4]; rfl) (by decide) ?_
      refine lv_aload_n hx hb dX5_worked_106 rfl (lv_at hl 1 rfl) ?_
      refine va_get hx hb hts hi_X5_worked_X5 hown hK hP 0 (m_o99 cI cZ ad F G) rfl 36 (by decide) (hts _ (List.mem_of_getElem? (i := 5) rfl)) (fun _ h9 => h9) rfl dX5_worked_107 ?_
      exact W.iret hx hb hr (fun t ht hW => ⟨_, rfl, Option.some.inj h, ht⟩) (fun q hq9 => by cases hq9) dX5_worked_110
    rcases q_ite _ h with ⟨c5, h⟩ | ⟨c5, h⟩
    · refine lv_tableIn (tgt := 111) hx hb dX5_worked_12 (by rw [c5]; decide) (by rw [c5]; decide) (by rw [c5]; rfl) (by decide) ?_
      refine lv_aload_n hx hb dX5_worked_111 rfl (lv_at hl 1 rfl) ?_
      refine va_get hx hb hts hi_X5_worked_X5 hown hK hP 0 (m_o99 cI cZ ad F G) rfl 37 (by decide) (hts _ (List.mem_of_getElem? (i := 6) rfl)) (fun _ h9 => h9) rfl dX5_worked_112 ?_
      exact W.iret hx hb hr (fun t ht hW => ⟨_, rfl, Option.some.inj h, ht⟩) (fun q hq9 => by cases hq9) dX5_worked_115
    rcases q_ite _ h with ⟨c6, h⟩ | ⟨c6, h⟩
    · refine lv_tableIn (tgt := 116) hx hb dX5_worked_12 (by rw [c6]; decide) (by rw [c6]; decide) (by rw [c6]; rfl) (by decide) ?_
      refine lv_iconst (v := 0) hx hb dX5_worked_116 (by decide) ?_
      refine q_nm h (fun v5 h => ?_)
      refine lv_istore_n (lv' := [(3, .int (v5)), (2, .int (v4)), (0, .ref (ad 99)), (1, .int (x1))]) hx hb dX5_worked_117 rfl hl (by decide) rfl (fun ls hl => ?_)
      exact j118 1000 v4 v5 _ (lv_sub hl [2, 1, 0] rfl) h
    refine lv_tableOut (tgt := 143) hx hb dX5_worked_12 (by have n0 := lv_neT (a := 0) c0 (by decide); have n1 := lv_neT (a := 1) c1 (by decide); have n2 := lv_neT (a := 2) c2 (by decide); have n3 := lv_neT (a := 3) c3 (by decide); have n4 := lv_neT (a := 4) c4 (by decide); have n5 := lv_neT (a := 5) c5 (by decide); have n6 := lv_neT (a := 6) c6 (by decide); omega) (by decide) ?_
    refine lv_iconst (v := -1) hx hb dX5_worked_143 (by decide) ?_
    exact W.iret hx hb hr (fun t ht hW => ⟨_, rfl, Option.some.inj h, ht⟩) (fun q hq9 => by cases hq9) dX5_worked_144
  · refine lv_iconst (v := -1) hx hb dX5_worked_7 (by decide) ?_
    exact W.iret hx hb hr (fun t ht hW => ⟨_, rfl, Option.some.inj h, ht⟩) (fun q hq9 => by cases hq9) dX5_worked_8
theorem hi_X5_isPicked_X5 : ∀ w ∈ u_ws RX5 TX5 48, w ∈ wsX5_isPicked := fun w h => (List.mem_cons_of_mem _ (List.mem_append_right _ h))
set_option maxHeartbeats 4000000 in
set_option maxRecDepth 100000 in
theorem mt_X5_isPicked (l : Launch) (D : va_G) (cI cZ : ClassId) (ad : Nat → Nat) (F : Nat → Int32) (G : Nat → Nat → Int32) (x1 : Int32) (rv : Int32) (h : f_X5_isPicked F G x1 = some rv) : Met l yX5_isPicked wsX5_isPicked ({ frames := 1, cells := 0, slots := 0, locals := 22 } : Room) (va_Pc [.ref (ad 99), .int x1] (mR D cI cZ ad F G)) (vp_Si (fun z => z = rv)) 0 0 (fun _ => False) := by
  refine Met.ofW (cc := cX5_isPicked) (maxL := 2) (ret := (some .boolean)) (by decide) rfl ?_
  intro p e s m args below meth c s₁ B hml hv
  obtain ⟨rfl, hP, hK, hN⟩ := hv
  have hx := B.exec
  have hb := B.bytes
  have hr := B.returns
  have hts := atoms_spec (ws := wsX5_isPicked) B.pre
  have hown : s.vm.findClass RX5 = some m.cls := findClass_of_methodNamed B.named
  have hlocks := B.notSynchronized
  have hl := lv_entry ([.ref (ad 99), .int x1]) (n := 2) (Nat.le_of_ble_eq_true rfl)
  rw [lg_entry_eq]
  generalize (lg_sl ([.ref (ad 99), .int x1]) ++ List.replicate (2 - (lg_sl ([.ref (ad 99), .int x1])).length) Slot.unset).toArray = ls at hl ⊢
  have hl : lv_has ls 2 [(0, .ref (ad 99)), (1, .int (x1))] := hl
  refine lv_iload_n hx hb dX5_isPicked_0 rfl (lv_at hl 1 rfl) ?_
  refine lv_iconst (v := 0) hx hb dX5_isPicked_1 (by decide) ?_
  refine lv_aload_n hx hb dX5_isPicked_2 rfl (lv_at hl 0 rfl) ?_
  refine va_get hx hb hts hi_X5_isPicked_X5 hown hK hP 0 (m_o99 cI cZ ad F G) rfl 32 (by decide) (hts _ (List.mem_of_getElem? (i := 1) rfl)) (fun _ h9 => h9) rfl dX5_isPicked_3 ?_
  refine lv_iconst (v := 1) hx hb dX5_isPicked_6 (by decide) ?_
  refine lv_isub hx hb dX5_isPicked_7 ?_
  obtain ⟨v1, hc2, h⟩ := q_some h
  refine q_cs (W.runS (As := [.int (x1), .int ((0 : Int32)), .int (((F 32) - (1 : Int32)))]) (rest := []) ⟨hx, hb, hml, hown, hts⟩ (mt_X5_in l x1 (0 : Int32) (((F 32) - (1 : Int32))) v1 hc2) (va_cwS 3 hts gX5_isPicked_X5_in rfl rfl rfl (by decide +kernel) ⟨Nat.le_of_ble_eq_true rfl, Nat.le_of_ble_eq_true rfl⟩) q_pr0 rfl rfl hl.1 rfl (lv_room (Nat.le_of_ble_eq_true rfl)) dX5_isPicked_8 ⟨Nat.le_of_ble_eq_true rfl, Nat.le_of_ble_eq_true rfl⟩) ?_
  obtain ⟨hq, hnr⟩ := q_bo h
  exact W.zret hx hb hr hnr (fun t ht hW => ⟨_, rfl, hq, ht⟩) (fun q hq9 => by cases hq9) dX5_isPicked_11
theorem hi_X5_picked_X5 : ∀ w ∈ u_ws RX5 TX5 48, w ∈ wsX5_picked := fun w h => (List.mem_cons_of_mem _ (List.mem_append_right _ h))
set_option maxHeartbeats 4000000 in
set_option maxRecDepth 100000 in
theorem mt_X5_picked (l : Launch) (D : va_G) (cI cZ : ClassId) (ad : Nat → Nat) (F : Nat → Int32) (G : Nat → Nat → Int32) (x1 : Int32) (x2 : Int32) (rv : Int32) (h : f_X5_picked F G x1 x2 = some rv) : Met l yX5_picked wsX5_picked ({ frames := 2, cells := 0, slots := 0, locals := 43 } : Room) (va_Pc [.ref (ad 99), .int x1, .int x2] (mR D cI cZ ad F G)) (vp_Si (fun z => z = rv)) 0 0 (fun _ => False) := by
  refine Met.ofW (cc := cX5_picked) (maxL := 3) (ret := (some .int)) (by decide) rfl ?_
  intro p e s m args below meth c s₁ B hml hv
  obtain ⟨rfl, hP, hK, hN⟩ := hv
  have hx := B.exec
  have hb := B.bytes
  have hr := B.returns
  have hts := atoms_spec (ws := wsX5_picked) B.pre
  have hown : s.vm.findClass RX5 = some m.cls := findClass_of_methodNamed B.named
  have hlocks := B.notSynchronized
  have hl := lv_entry ([.ref (ad 99), .int x1, .int x2]) (n := 3) (Nat.le_of_ble_eq_true rfl)
  rw [lg_entry_eq]
  generalize (lg_sl ([.ref (ad 99), .int x1, .int x2]) ++ List.replicate (3 - (lg_sl ([.ref (ad 99), .int x1, .int x2])).length) Slot.unset).toArray = ls at hl ⊢
  have hl : lv_has ls 3 [(0, .ref (ad 99)), (1, .int (x1)), (2, .int (x2))] := hl
  have j96 : ∀ (s0 : Int32) , ∀ ls : Array Slot, lv_has ls 3 [(0, .ref (ad 99)), (1, .int (x1))] → f_X5_picked_B96 F G x1 x2 s0 = some rv → W p l e (headSpec wsX5_picked ({ frames := 2, cells := 0, slots := 0, locals := 43 } : Room)).room s m (List.toArray ([.ref (ad 99), .int x1, .int x2] : List Value)) below meth c s.heap [] 0 0 (MQ below (vp_Si (fun z => z = rv)) (List.toArray ([.ref (ad 99), .int x1, .int x2] : List Value)) s 0 0 (fun _ => False)) (F0 m 96 ls [.int (s0)]) := by
    intro s0 ls hl h
    refine lv_aload_n hx hb dX5_picked_96 rfl (lv_at hl 0 rfl) ?_
    refine va_get hx hb hts hi_X5_picked_X5 hown hK hP 0 (m_o99 cI cZ ad F G) rfl 42 (by decide) (hts _ (List.mem_of_getElem? (i := 5) rfl)) (fun _ h9 => h9) rfl dX5_picked_97 ?_
    refine lv_iload_n hx hb dX5_picked_100 rfl (lv_at hl 1 rfl) ?_
    refine q_ld hx hb hK hP 21 0 (m_a42 cI cZ ad F G) rfl dX5_picked_101 h (fun v1 h => ?_)
    refine q_if_lt (tgt := 109) hx hb dX5_picked_102 (by decide) h (fun h => ?_) (fun h => ?_)
    · refine lv_iconst (v := 0) hx hb dX5_picked_109 (by decide) ?_
      refine lv_iadd hx hb dX5_picked_110 ?_
      exact W.iret hx hb hr (fun t ht hW => ⟨_, rfl, Option.some.inj h, ht⟩) (fun q hq9 => by cases hq9) dX5_picked_111
    · refine lv_iconst (v := 1) hx hb dX5_picked_105 (by decide) ?_
      refine lv_goto (tgt := 110) hx hb dX5_picked_106 (by decide) ?_
      refine lv_iadd hx hb dX5_picked_110 ?_
      exact W.iret hx hb hr (fun t ht hW => ⟨_, rfl, Option.some.inj h, ht⟩) (fun q hq9 => by cases hq9) dX5_picked_111
  refine lv_aload_n hx hb dX5_picked_0 rfl (lv_at hl 0 rfl) ?_
  refine lv_iload_n hx hb dX5_picked_1 rfl (lv_at hl 1 rfl) ?_
  obtain ⟨v2, hc3, h⟩ := q_some h
  refine q_cs (W.runV (C := RX5) (As := [.int (x1)]) (rest := []) ⟨hx, hb, hml, hown, hts⟩ (mt_X5_isPicked l D cI cZ ad F G x1 v2 hc3) (cwV 1 hts gX5_picked_X5_isPicked rfl rfl rfl (by decide +kernel) ⟨Nat.le_of_ble_eq_true rfl, Nat.le_of_ble_eq_true rfl⟩) ⟨mR_b, va_recv hK hP (ci := 5) (q0 := 0) rfl rfl, (mR_p hP hK hN).2⟩ rfl rfl hl.1 rfl (lv_room (Nat.le_of_ble_eq_true rfl)) dX5_picked_2 ⟨Nat.le_of_ble_eq_true rfl, Nat.le_of_ble_eq_true rfl⟩) ?_
  refine q_if_ne (tgt := 10) hx hb dX5_picked_5 (by decide) h (fun h => ?_) (fun h => ?_)
  · refine lv_iload_n hx hb dX5_picked_10 rfl (lv_at hl 2 rfl) ?_
    rcases q_ite _ h with ⟨c0, h⟩ | ⟨c0, h⟩
    · refine lv_tableIn (tgt := 48) hx hb dX5_picked_11 (by rw [c0]; decide) (by rw [c0]; decide) (by rw [c0]; rfl) (by decide) ?_
      refine lv_aload_n hx hb dX5_picked_48 rfl (lv_at hl 0 rfl) ?_
      refine va_get hx hb hts hi_X5_picked_X5 hown hK hP 0 (m_o99 cI cZ ad F G) rfl 38 (by decide) (hts _ (List.mem_of_getElem? (i := 1) rfl)) (fun _ h9 => h9) rfl dX5_picked_49 ?_
      refine lv_iload_n hx hb dX5_picked_52 rfl (lv_at hl 1 rfl) ?_
      refine q_ld hx hb hK hP 17 0 (m_a38 cI cZ ad F G) rfl dX5_picked_53 h (fun v4 h => ?_)
      refine lv_bipush (v := 12) hx hb dX5_picked_54 (by decide) ?_
      refine lv_idiv hx hb dX5_picked_56 (by decide) ?_
      exact W.iret hx hb hr (fun t ht hW => ⟨_, rfl, Option.some.inj h, ht⟩) (fun q hq9 => by cases hq9) dX5_picked_57
    rcases q_ite _ h with ⟨c1, h⟩ | ⟨c1, h⟩
    · refine lv_tableIn (tgt := 58) hx hb dX5_picked_11 (by rw [c1]; decide) (by rw [c1]; decide) (by rw [c1]; rfl) (by decide) ?_
      refine lv_aload_n hx hb dX5_picked_58 rfl (lv_at hl 0 rfl) ?_
      refine va_get hx hb hts hi_X5_picked_X5 hown hK hP 0 (m_o99 cI cZ ad F G) rfl 38 (by decide) (hts _ (List.mem_of_getElem? (i := 1) rfl)) (fun _ h9 => h9) rfl dX5_picked_59 ?_
      refine lv_iload_n hx hb dX5_picked_62 rfl (lv_at hl 1 rfl) ?_
      refine q_ld hx hb hK hP 17 0 (m_a38 cI cZ ad F G) rfl dX5_picked_63 h (fun v5 h => ?_)
      refine lv_bipush (v := 12) hx hb dX5_picked_64 (by decide) ?_
      refine lv_irem hx hb dX5_picked_66 (by decide) ?_
      exact W.iret hx hb hr (fun t ht hW => ⟨_, rfl, Option.some.inj h, ht⟩) (fun q hq9 => by cases hq9) dX5_picked_67
    rcases q_ite _ h with ⟨c2, h⟩ | ⟨c2, h⟩
    · refine lv_tableIn (tgt := 68) hx hb dX5_picked_11 (by rw [c2]; decide) (by rw [c2]; decide) (by rw [c2]; rfl) (by decide) ?_
      refine lv_aload_n hx hb dX5_picked_68 rfl (lv_at hl 0 rfl) ?_
      refine va_get hx hb hts hi_X5_picked_X5 hown hK hP 0 (m_o99 cI cZ ad F G) rfl 39 (by decide) (hts _ (List.mem_of_getElem? (i := 2) rfl)) (fun _ h9 => h9) rfl dX5_picked_69 ?_
      refine lv_iload_n hx hb dX5_picked_72 rfl (lv_at hl 1 rfl) ?_
      refine q_ld hx hb hK hP 18 0 (m_a39 cI cZ ad F G) rfl dX5_picked_73 h (fun v6 h => ?_)
      exact W.iret hx hb hr (fun t ht hW => ⟨_, rfl, Option.some.inj h, ht⟩) (fun q hq9 => by cases hq9) dX5_picked_74
    rcases q_ite _ h with ⟨c3, h⟩ | ⟨c3, h⟩
    · refine lv_tableIn (tgt := 75) hx hb dX5_picked_11 (by rw [c3]; decide) (by rw [c3]; decide) (by rw [c3]; rfl) (by decide) ?_
      refine lv_aload_n hx hb dX5_picked_75 rfl (lv_at hl 0 rfl) ?_
      refine va_get hx hb hts hi_X5_picked_X5 hown hK hP 0 (m_o99 cI cZ ad F G) rfl 40 (by decide) (hts _ (List.mem_of_getElem? (i := 3) rfl)) (fun _ h9 => h9) rfl dX5_picked_76 ?_
      refine lv_iload_n hx hb dX5_picked_79 rfl (lv_at hl 1 rfl) ?_
      refine q_ld hx hb hK hP 19 0 (m_a40 cI cZ ad F G) rfl dX5_picked_80 h (fun v7 h => ?_)
      exact W.iret hx hb hr (fun t ht hW => ⟨_, rfl, Option.some.inj h, ht⟩) (fun q hq9 => by cases hq9) dX5_picked_81
    rcases q_ite _ h with ⟨c4, h⟩ | ⟨c4, h⟩
    · refine lv_tableIn (tgt := 82) hx hb dX5_picked_11 (by rw [c4]; decide) (by rw [c4]; decide) (by rw [c4]; rfl) (by decide) ?_
      refine lv_aload_n hx hb dX5_picked_82 rfl (lv_at hl 0 rfl) ?_
      refine va_get hx hb hts hi_X5_picked_X5 hown hK hP 0 (m_o99 cI cZ ad F G) rfl 41 (by decide) (hts _ (List.mem_of_getElem? (i := 4) rfl)) (fun _ h9 => h9) rfl dX5_picked_83 ?_
      refine lv_iload_n hx hb dX5_picked_86 rfl (lv_at hl 1 rfl) ?_
      refine q_ld hx hb hK hP 20 0 (m_a41 cI cZ ad F G) rfl dX5_picked_87 h (fun v8 h => ?_)
      refine q_if_lt (tgt := 95) hx hb dX5_picked_88 (by decide) h (fun h => ?_) (fun h => ?_)
      · refine lv_iconst (v := 0) hx hb dX5_picked_95 (by decide) ?_
        exact j96 (0 : Int32) _ (lv_sub hl [0, 1] rfl) h
      · refine lv_iconst (v := 1) hx hb dX5_picked_91 (by decide) ?_
        refine lv_goto (tgt := 96) hx hb dX5_picked_92 (by decide) ?_
        exact j96 (1 : Int32) _ (lv_sub hl [0, 1] rfl) h
    rcases q_ite _ h with ⟨c5, h⟩ | ⟨c5, h⟩
    · refine lv_tableIn (tgt := 112) hx hb dX5_picked_11 (by rw [c5]; decide) (by rw [c5]; decide) (by rw [c5]; rfl) (by decide) ?_
      refine lv_aload_n hx hb dX5_picked_112 rfl (lv_at hl 0 rfl) ?_
      refine va_get hx hb hts hi_X5_picked_X5 hown hK hP 0 (m_o99 cI cZ ad F G) rfl 43 (by decide) (hts _ (List.mem_of_getElem? (i := 6) rfl)) (fun _ h9 => h9) rfl dX5_picked_113 ?_
      refine lv_iload_n hx hb dX5_picked_116 rfl (lv_at hl 1 rfl) ?_
      refine q_ld hx hb hK hP 22 0 (m_a43 cI cZ ad F G) rfl dX5_picked_117 h (fun v9 h => ?_)
      exact W.iret hx hb hr (fun t ht hW => ⟨_, rfl, Option.some.inj h, ht⟩) (fun q hq9 => by cases hq9) dX5_picked_118
    refine lv_tableOut (tgt := 119) hx hb dX5_picked_11 (by have n0 := lv_neT (a := 0) c0 (by decide); have n1 := lv_neT (a := 1) c1 (by decide); have n2 := lv_neT (a := 2) c2 (by decide); have n3 := lv_neT (a := 3) c3 (by decide); have n4 := lv_neT (a := 4) c4 (by decide); have n5 := lv_neT (a := 5) c5 (by decide); omega) (by decide) ?_
    refine lv_iconst (v := -1) hx hb dX5_picked_119 (by decide) ?_
    exact W.iret hx hb hr (fun t ht hW => ⟨_, rfl, Option.some.inj h, ht⟩) (fun q hq9 => by cases hq9) dX5_picked_120
  · refine lv_iconst (v := -1) hx hb dX5_picked_8 (by decide) ?_
    exact W.iret hx hb hr (fun t ht hW => ⟨_, rfl, Option.some.inj h, ht⟩) (fun q hq9 => by cases hq9) dX5_picked_9
theorem hi_X5_order_X5 : ∀ w ∈ u_ws RX5 TX5 48, w ∈ wsX5_order := fun w h => (List.mem_cons_of_mem _ (List.mem_append_right _ h))
set_option maxHeartbeats 4000000 in
set_option maxRecDepth 100000 in
theorem mt_X5_order (l : Launch) (D : va_G) (cI cZ : ClassId) (ad : Nat → Nat) (F : Nat → Int32) (G : Nat → Nat → Int32) (x1 : Int32) (x2 : Int32) (rv : Int32) (h : f_X5_order F G x1 x2 = some rv) : Met l yX5_order wsX5_order ({ frames := 1, cells := 0, slots := 0, locals := 22 } : Room) (va_Pc [.ref (ad 99), .int x1, .int x2] (mR D cI cZ ad F G)) (vp_Si (fun z => z = rv)) 0 0 (fun _ => False) := by
  refine Met.ofW (cc := cX5_order) (maxL := 3) (ret := (some .int)) (by decide) rfl ?_
  intro p e s m args below meth c s₁ B hml hv
  obtain ⟨rfl, hP, hK, hN⟩ := hv
  have hx := B.exec
  have hb := B.bytes
  have hr := B.returns
  have hts := atoms_spec (ws := wsX5_order) B.pre
  have hown : s.vm.findClass RX5 = some m.cls := findClass_of_methodNamed B.named
  have hlocks := B.notSynchronized
  have hl := lv_entry ([.ref (ad 99), .int x1, .int x2]) (n := 3) (Nat.le_of_ble_eq_true rfl)
  rw [lg_entry_eq]
  generalize (lg_sl ([.ref (ad 99), .int x1, .int x2]) ++ List.replicate (3 - (lg_sl ([.ref (ad 99), .int x1, .int x2])).length) Slot.unset).toArray = ls at hl ⊢
  have hl : lv_has ls 3 [(0, .ref (ad 99)), (1, .int (x1)), (2, .int (x2))] := hl
  refine lv_iload_n hx hb dX5_order_0 rfl (lv_at hl 1 rfl) ?_
  refine lv_iconst (v := 0) hx hb dX5_order_1 (by decide) ?_
  refine lv_bipush (v := 11) hx hb dX5_order_2 (by decide) ?_
  obtain ⟨v1, hc2, h⟩ := q_some h
  refine q_cs (W.runS (As := [.int (x1), .int ((0 : Int32)), .int ((11 : Int32))]) (rest := []) ⟨hx, hb, hml, hown, hts⟩ (mt_X5_in l x1 (0 : Int32) (11 : Int32) v1 hc2) (va_cwS 3 hts gX5_order_X5_in rfl rfl rfl (by decide +kernel) ⟨Nat.le_of_ble_eq_true rfl, Nat.le_of_ble_eq_true rfl⟩) q_pr0 rfl rfl hl.1 rfl (lv_room (Nat.le_of_ble_eq_true rfl)) dX5_order_4 ⟨Nat.le_of_ble_eq_true rfl, Nat.le_of_ble_eq_true rfl⟩) ?_
  refine q_if_eq (tgt := 34) hx hb dX5_order_7 (by decide) h (fun h => ?_) (fun h => ?_)
  · refine lv_iconst (v := -1) hx hb dX5_order_34 (by decide) ?_
    exact W.iret hx hb hr (fun t ht hW => ⟨_, rfl, Option.some.inj h, ht⟩) (fun q hq9 => by cases hq9) dX5_order_35
  · refine lv_iload_n hx hb dX5_order_10 rfl (lv_at hl 2 rfl) ?_
    refine lv_iconst (v := 0) hx hb dX5_order_11 (by decide) ?_
    refine lv_bipush (v := 11) hx hb dX5_order_12 (by decide) ?_
    obtain ⟨v3, hc4, h⟩ := q_some h
    refine q_cs (W.runS (As := [.int (x2), .int ((0 : Int32)), .int ((11 : Int32))]) (rest := []) ⟨hx, hb, hml, hown, hts⟩ (mt_X5_in l x2 (0 : Int32) (11 : Int32) v3 hc4) (va_cwS 3 hts gX5_order_X5_in rfl rfl rfl (by decide +kernel) ⟨Nat.le_of_ble_eq_true rfl, Nat.le_of_ble_eq_true rfl⟩) q_pr0 rfl rfl hl.1 rfl (lv_room (Nat.le_of_ble_eq_true rfl)) dX5_order_14 ⟨Nat.le_of_ble_eq_true rfl, Nat.le_of_ble_eq_true rfl⟩) ?_
    refine q_if_eq (tgt := 34) hx hb dX5_order_17 (by decide) h (fun h => ?_) (fun h => ?_)
    · refine lv_iconst (v := -1) hx hb dX5_order_34 (by decide) ?_
      exact W.iret hx hb hr (fun t ht hW => ⟨_, rfl, Option.some.inj h, ht⟩) (fun q hq9 => by cases hq9) dX5_order_35
    · refine lv_aload_n hx hb dX5_order_20 rfl (lv_at hl 0 rfl) ?_
      refine va_get hx hb hts hi_X5_order_X5 hown hK hP 0 (m_o99 cI cZ ad F G) rfl 44 (by decide) (hts _ (List.mem_of_getElem? (i := 1) rfl)) (fun _ h9 => h9) rfl dX5_order_21 ?_
      refine lv_bipush (v := 12) hx hb dX5_order_24 (by decide) ?_
      refine lv_iload_n hx hb dX5_order_26 rfl (lv_at hl 1 rfl) ?_
      refine lv_imul hx hb dX5_order_27 ?_
      refine lv_iload_n hx hb dX5_order_28 rfl (lv_at hl 2 rfl) ?_
      refine lv_iadd hx hb dX5_order_29 ?_
      refine q_ld hx hb hK hP 23 0 (m_a44 cI cZ ad F G) rfl dX5_order_30 h (fun v5 h => ?_)
      refine lv_goto (tgt := 35) hx hb dX5_order_31 (by decide) ?_
      exact W.iret hx hb hr (fun t ht hW => ⟨_, rfl, Option.some.inj h, ht⟩) (fun q hq9 => by cases hq9) dX5_order_35
theorem hi_X5_isOn_X5 : ∀ w ∈ u_ws RX5 TX5 48, w ∈ wsX5_isOn := fun w h => (List.mem_cons_of_mem _ (List.mem_append_right _ h))
set_option maxHeartbeats 4000000 in
set_option maxRecDepth 100000 in
theorem mt_X5_isOn (l : Launch) (D : va_G) (cI cZ : ClassId) (ad : Nat → Nat) (F : Nat → Int32) (G : Nat → Nat → Int32) (x1 : Int32) (x2 : Int32) (rv : Int32) (h : f_X5_isOn F G x1 x2 = some rv) : Met l yX5_isOn wsX5_isOn ({ frames := 0, cells := 0, slots := 0, locals := 0 } : Room) (va_Pc [.ref (ad 99), .int x1, .int x2] (mR D cI cZ ad F G)) (vp_Si (fun z => z = rv)) 0 0 (fun _ => False) := by
  refine Met.ofW (cc := cX5_isOn) (maxL := 3) (ret := (some .boolean)) (by decide) rfl ?_
  intro p e s m args below meth c s₁ B hml hv
  obtain ⟨rfl, hP, hK, hN⟩ := hv
  have hx := B.exec
  have hb := B.bytes
  have hr := B.returns
  have hts := atoms_spec (ws := wsX5_isOn) B.pre
  have hown : s.vm.findClass RX5 = some m.cls := findClass_of_methodNamed B.named
  have hlocks := B.notSynchronized
  have hl := lv_entry ([.ref (ad 99), .int x1, .int x2]) (n := 3) (Nat.le_of_ble_eq_true rfl)
  rw [lg_entry_eq]
  generalize (lg_sl ([.ref (ad 99), .int x1, .int x2]) ++ List.replicate (3 - (lg_sl ([.ref (ad 99), .int x1, .int x2])).length) Slot.unset).toArray = ls at hl ⊢
  have hl : lv_has ls 3 [(0, .ref (ad 99)), (1, .int (x1)), (2, .int (x2))] := hl
  have j20 : ∀ ls : Array Slot, lv_has ls 3 [] → f_X5_isOn_B20 F G x1 x2 = some rv → W p l e (headSpec wsX5_isOn ({ frames := 0, cells := 0, slots := 0, locals := 0 } : Room)).room s m (List.toArray ([.ref (ad 99), .int x1, .int x2] : List Value)) below meth c s.heap [] 0 0 (MQ below (vp_Si (fun z => z = rv)) (List.toArray ([.ref (ad 99), .int x1, .int x2] : List Value)) s 0 0 (fun _ => False)) (F0 m 20 ls []) := by
    intro ls hl h
    refine lv_iconst (v := 1) hx hb dX5_isOn_20 (by decide) ?_
    refine lv_goto (tgt := 25) hx hb dX5_isOn_21 (by decide) ?_
    exact W.zret hx hb hr rfl (fun t ht hW => ⟨_, rfl, Option.some.inj h, ht⟩) (fun q hq9 => by cases hq9) dX5_isOn_25
  refine lv_aload_n hx hb dX5_isOn_0 rfl (lv_at hl 0 rfl) ?_
  refine va_get hx hb hts hi_X5_isOn_X5 hown hK hP 0 (m_o99 cI cZ ad F G) rfl 41 (by decide) (hts _ (List.mem_of_getElem? (i := 1) rfl)) (fun _ h9 => h9) rfl dX5_isOn_1 ?_
  refine lv_iload_n hx hb dX5_isOn_4 rfl (lv_at hl 1 rfl) ?_
  refine q_ld hx hb hK hP 20 0 (m_a41 cI cZ ad F G) rfl dX5_isOn_5 h (fun v1 h => ?_)
  refine lv_iload_n hx hb dX5_isOn_6 rfl (lv_at hl 2 rfl) ?_
  refine q_icmp_eq (tgt := 20) hx hb dX5_isOn_7 (by decide) h (fun h => ?_) (fun h => ?_)
  · exact j20 _ (lv_sub hl [] rfl) h
  · refine lv_aload_n hx hb dX5_isOn_10 rfl (lv_at hl 0 rfl) ?_
    refine va_get hx hb hts hi_X5_isOn_X5 hown hK hP 0 (m_o99 cI cZ ad F G) rfl 42 (by decide) (hts _ (List.mem_of_getElem? (i := 2) rfl)) (fun _ h9 => h9) rfl dX5_isOn_11 ?_
    refine lv_iload_n hx hb dX5_isOn_14 rfl (lv_at hl 1 rfl) ?_
    refine q_ld hx hb hK hP 21 0 (m_a42 cI cZ ad F G) rfl dX5_isOn_15 h (fun v2 h => ?_)
    refine lv_iload_n hx hb dX5_isOn_16 rfl (lv_at hl 2 rfl) ?_
    refine q_icmp_ne (tgt := 24) hx hb dX5_isOn_17 (by decide) h (fun h => ?_) (fun h => ?_)
    · refine lv_iconst (v := 0) hx hb dX5_isOn_24 (by decide) ?_
      exact W.zret hx hb hr rfl (fun t ht hW => ⟨_, rfl, Option.some.inj h, ht⟩) (fun q hq9 => by cases hq9) dX5_isOn_25
    · exact j20 _ (lv_sub hl [] rfl) h
theorem hi_X5_manyIn_X5 : ∀ w ∈ u_ws RX5 TX5 48, w ∈ wsX5_manyIn := fun w h => (List.mem_cons_of_mem _ (List.mem_append_right _ h))
set_option maxHeartbeats 4000000 in
set_option maxRecDepth 100000 in
theorem mt_X5_manyIn (l : Launch) (D : va_G) (cI cZ : ClassId) (ad : Nat → Nat) (F : Nat → Int32) (G : Nat → Nat → Int32)  (rv : Int32) (h : f_X5_manyIn F G  = some rv) : Met l yX5_manyIn wsX5_manyIn ({ frames := 0, cells := 0, slots := 0, locals := 0 } : Room) (va_Pc [.ref (ad 99)] (mR D cI cZ ad F G)) (vp_Si (fun z => z = rv)) 0 0 (fun _ => False) := by
  refine Met.ofW (cc := cX5_manyIn) (maxL := 3) (ret := (some .int)) (by decide) rfl ?_
  intro p e s m args below meth c s₁ B hml hv
  obtain ⟨rfl, hP, hK, hN⟩ := hv
  have hx := B.exec
  have hb := B.bytes
  have hr := B.returns
  have hts := atoms_spec (ws := wsX5_manyIn) B.pre
  have hown : s.vm.findClass RX5 = some m.cls := findClass_of_methodNamed B.named
  have hlocks := B.notSynchronized
  have hl := lv_entry ([.ref (ad 99)]) (n := 3) (Nat.le_of_ble_eq_true rfl)
  rw [lg_entry_eq]
  generalize (lg_sl ([.ref (ad 99)]) ++ List.replicate (3 - (lg_sl ([.ref (ad 99)])).length) Slot.unset).toArray = ls at hl ⊢
  have hl : lv_has ls 3 [(0, .ref (ad 99))] := hl
  have j4 : ∀ n4 : Nat, ∀ (x1 : Int32) (x2 : Int32) , ∀ ls : Array Slot, lv_has ls 3 [(0, .ref (ad 99)), (1, .int (x1)), (2, .int (x2))] → f_X5_manyIn_L4 F G n4 x1 x2 = some rv → W p l e (headSpec wsX5_manyIn ({ frames := 0, cells := 0, slots := 0, locals := 0 } : Room)).room s m (List.toArray ([.ref (ad 99)] : List Value)) below meth c s.heap [] 0 0 (MQ below (vp_Si (fun z => z = rv)) (List.toArray ([.ref (ad 99)] : List Value)) s 0 0 (fun _ => False)) (F0 m 4 ls []) := by
    intro n4
    induction n4 with
    | zero =>
      intro x1 x2 ls hl h
      cases h
    | succ n4 ih4 =>
      have j27 : ∀ (x2 : Int32) (s0 : Int32) (s1 : Int32) , ∀ ls : Array Slot, lv_has ls 3 [(0, .ref (ad 99)), (2, .int (x2))] → f_X5_manyIn_B27 (f_X5_manyIn_L4 F G n4) F G x2 s0 s1 = some rv → W p l e (headSpec wsX5_manyIn ({ frames := 0, cells := 0, slots := 0, locals := 0 } : Room)).room s m (List.toArray ([.ref (ad 99)] : List Value)) below meth c s.heap [] 0 0 (MQ below (vp_Si (fun z => z = rv)) (List.toArray ([.ref (ad 99)] : List Value)) s 0 0 (fun _ => False)) (F0 m 27 ls [.int (s1), .int (s0)]) := by
        intro x2 s0 s1 ls hl h
        refine lv_iadd hx hb dX5_manyIn_27 ?_
        refine q_nm h (fun v1 h => ?_)
        refine lv_istore_n (lv' := [(1, .int (v1)), (0, .ref (ad 99)), (2, .int (x2))]) hx hb dX5_manyIn_28 rfl hl (by decide) rfl (fun ls hl => ?_)
        refine q_iinc (j := 2) (d := (1 : Int32)) (lv2 := fun v2 => [(2, .int (v2)), (1, .int (v1)), (0, .ref (ad 99))]) hx hb dX5_manyIn_29 hl rfl (by decide) (by decide) (fun _ => rfl) h (fun v2 ls hl h => ?_)
        refine lv_goto (tgt := 4) hx hb dX5_manyIn_32 (by decide) ?_
        exact ih4 v1 v2 _ (lv_sub hl [2, 1, 0] rfl) h
      intro x1 x2 ls hl h
      replace h : f_X5_manyIn_L4_b (f_X5_manyIn_L4 F G n4) F G x1 x2 = some rv := h
      refine lv_iload_n hx hb dX5_manyIn_4 rfl (lv_at hl 2 rfl) ?_
      refine lv_aload_n hx hb dX5_manyIn_5 rfl (lv_at hl 0 rfl) ?_
      refine va_get hx hb hts hi_X5_manyIn_X5 hown hK hP 0 (m_o99 cI cZ ad F G) rfl 32 (by decide) (hts _ (List.mem_of_getElem? (i := 1) rfl)) (fun _ h9 => h9) rfl dX5_manyIn_6 ?_
      refine q_icmp_ge (tgt := 35) hx hb dX5_manyIn_9 (by decide) h (fun h => ?_) (fun h => ?_)
      · refine lv_iload_n hx hb dX5_manyIn_35 rfl (lv_at hl 1 rfl) ?_
        exact W.iret hx hb hr (fun t ht hW => ⟨_, rfl, Option.some.inj h, ht⟩) (fun q hq9 => by cases hq9) dX5_manyIn_36
      · refine lv_iload_n hx hb dX5_manyIn_12 rfl (lv_at hl 1 rfl) ?_
        refine lv_aload_n hx hb dX5_manyIn_13 rfl (lv_at hl 0 rfl) ?_
        refine va_get hx hb hts hi_X5_manyIn_X5 hown hK hP 0 (m_o99 cI cZ ad F G) rfl 47 (by decide) (hts _ (List.mem_of_getElem? (i := 2) rfl)) (fun _ h9 => h9) rfl dX5_manyIn_14 ?_
        refine lv_iload_n hx hb dX5_manyIn_17 rfl (lv_at hl 2 rfl) ?_
        refine q_ldz hx hb hK hP 26 1 (m_a47 cI cZ ad F G) rfl dX5_manyIn_18 h (fun v3 h => ?_)
        refine q_if_eq (tgt := 26) hx hb dX5_manyIn_19 (by decide) h (fun h => ?_) (fun h => ?_)
        · refine lv_iconst (v := 0) hx hb dX5_manyIn_26 (by decide) ?_
          exact j27 x2 x1 (0 : Int32) _ (lv_sub hl [0, 2] rfl) h
        · refine lv_iconst (v := 1) hx hb dX5_manyIn_22 (by decide) ?_
          refine lv_goto (tgt := 27) hx hb dX5_manyIn_23 (by decide) ?_
          exact j27 x2 x1 (1 : Int32) _ (lv_sub hl [0, 2] rfl) h
  refine lv_iconst (v := 0) hx hb dX5_manyIn_0 (by decide) ?_
  refine q_nm h (fun v4 h => ?_)
  refine lv_istore_n (lv' := [(1, .int (v4)), (0, .ref (ad 99))]) hx hb dX5_manyIn_1 rfl hl (by decide) rfl (fun ls hl => ?_)
  refine lv_iconst (v := 0) hx hb dX5_manyIn_2 (by decide) ?_
  refine q_nm h (fun v5 h => ?_)
  refine lv_istore_n (lv' := [(2, .int (v5)), (1, .int (v4)), (0, .ref (ad 99))]) hx hb dX5_manyIn_3 rfl hl (by decide) rfl (fun ls hl => ?_)
  exact j4 1000 v4 v5 _ (lv_sub hl [2, 1, 0] rfl) h
theorem hi_X5_isWovenThrough_X5 : ∀ w ∈ u_ws RX5 TX5 48, w ∈ wsX5_isWovenThrough := fun w h => (List.mem_cons_of_mem _ (List.mem_append_right _ h))
set_option maxHeartbeats 4000000 in
set_option maxRecDepth 100000 in
theorem mt_X5_isWovenThrough (l : Launch) (D : va_G) (cI cZ : ClassId) (ad : Nat → Nat) (F : Nat → Int32) (G : Nat → Nat → Int32) (x1 : Int32) (x2 : Int32) (rv : Int32) (h : f_X5_isWovenThrough F G x1 x2 = some rv) : Met l yX5_isWovenThrough wsX5_isWovenThrough ({ frames := 0, cells := 0, slots := 0, locals := 0 } : Room) (va_Pc [.ref (ad 99), .int x1, .int x2] (mR D cI cZ ad F G)) (vp_Si (fun z => z = rv)) 0 0 (fun _ => False) := by
  refine Met.ofW (cc := cX5_isWovenThrough) (maxL := 4) (ret := (some .boolean)) (by decide) rfl ?_
  intro p e s m args below meth c s₁ B hml hv
  obtain ⟨rfl, hP, hK, hN⟩ := hv
  have hx := B.exec
  have hb := B.bytes
  have hr := B.returns
  have hts := atoms_spec (ws := wsX5_isWovenThrough) B.pre
  have hown : s.vm.findClass RX5 = some m.cls := findClass_of_methodNamed B.named
  have hlocks := B.notSynchronized
  have hl := lv_entry ([.ref (ad 99), .int x1, .int x2]) (n := 4) (Nat.le_of_ble_eq_true rfl)
  rw [lg_entry_eq]
  generalize (lg_sl ([.ref (ad 99), .int x1, .int x2]) ++ List.replicate (4 - (lg_sl ([.ref (ad 99), .int x1, .int x2])).length) Slot.unset).toArray = ls at hl ⊢
  have hl : lv_has ls 4 [(0, .ref (ad 99)), (1, .int (x1)), (2, .int (x2))] := hl
  have j2 : ∀ n2 : Nat, ∀ (x3 : Int32) , ∀ ls : Array Slot, lv_has ls 4 [(0, .ref (ad 99)), (1, .int (x1)), (2, .int (x2)), (3, .int (x3))] → f_X5_isWovenThrough_L2 F G x1 x2 n2 x3 = some rv → W p l e (headSpec wsX5_isWovenThrough ({ frames := 0, cells := 0, slots := 0, locals := 0 } : Room)).room s m (List.toArray ([.ref (ad 99), .int x1, .int x2] : List Value)) below meth c s.heap [] 0 0 (MQ below (vp_Si (fun z => z = rv)) (List.toArray ([.ref (ad 99), .int x1, .int x2] : List Value)) s 0 0 (fun _ => False)) (F0 m 2 ls []) := by
    intro n2
    induction n2 with
    | zero =>
      intro x3 ls hl h
      cases h
    | succ n2 ih2 =>
      intro x3 ls hl h
      replace h : f_X5_isWovenThrough_L2_b (f_X5_isWovenThrough_L2 F G x1 x2 n2) F G x1 x2 x3 = some rv := h
      refine lv_iload_n hx hb dX5_isWovenThrough_2 rfl (lv_at hl 3 rfl) ?_
      refine lv_aload_n hx hb dX5_isWovenThrough_3 rfl (lv_at hl 0 rfl) ?_
      refine va_get hx hb hts hi_X5_isWovenThrough_X5 hown hK hP 0 (m_o99 cI cZ ad F G) rfl 45 (by decide) (hts _ (List.mem_of_getElem? (i := 1) rfl)) (fun _ h9 => h9) rfl dX5_isWovenThrough_4 ?_
      refine lv_iload_n hx hb dX5_isWovenThrough_7 rfl (lv_at hl 1 rfl) ?_
      refine q_ld hx hb hK hP 24 0 (m_a45 cI cZ ad F G) rfl dX5_isWovenThrough_8 h (fun v1 h => ?_)
      refine q_icmp_ge (tgt := 35) hx hb dX5_isWovenThrough_9 (by decide) h (fun h => ?_) (fun h => ?_)
      · refine lv_iconst (v := 0) hx hb dX5_isWovenThrough_35 (by decide) ?_
        exact W.zret hx hb hr rfl (fun t ht hW => ⟨_, rfl, Option.some.inj h, ht⟩) (fun q hq9 => by cases hq9) dX5_isWovenThrough_36
      · refine lv_aload_n hx hb dX5_isWovenThrough_12 rfl (lv_at hl 0 rfl) ?_
        refine va_get hx hb hts hi_X5_isWovenThrough_X5 hown hK hP 0 (m_o99 cI cZ ad F G) rfl 46 (by decide) (hts _ (List.mem_of_getElem? (i := 2) rfl)) (fun _ h9 => h9) rfl dX5_isWovenThrough_13 ?_
        refine lv_bipush (v := 6) hx hb dX5_isWovenThrough_16 (by decide) ?_
        refine lv_iload_n hx hb dX5_isWovenThrough_18 rfl (lv_at hl 1 rfl) ?_
        refine lv_imul hx hb dX5_isWovenThrough_19 ?_
        refine lv_iload_n hx hb dX5_isWovenThrough_20 rfl (lv_at hl 3 rfl) ?_
        refine lv_iadd hx hb dX5_isWovenThrough_21 ?_
        refine q_ld hx hb hK hP 25 0 (m_a46 cI cZ ad F G) rfl dX5_isWovenThrough_22 h (fun v2 h => ?_)
        refine lv_iload_n hx hb dX5_isWovenThrough_23 rfl (lv_at hl 2 rfl) ?_
        refine q_icmp_ne (tgt := 29) hx hb dX5_isWovenThrough_24 (by decide) h (fun h => ?_) (fun h => ?_)
        · refine q_iinc (j := 3) (d := (1 : Int32)) (lv2 := fun v3 => [(3, .int (v3)), (0, .ref (ad 99)), (1, .int (x1)), (2, .int (x2))]) hx hb dX5_isWovenThrough_29 hl rfl (by decide) (by decide) (fun _ => rfl) h (fun v3 ls hl h => ?_)
          refine lv_goto (tgt := 2) hx hb dX5_isWovenThrough_32 (by decide) ?_
          exact ih2 v3 _ (lv_sub hl [1, 2, 3, 0] rfl) h
        · refine lv_iconst (v := 1) hx hb dX5_isWovenThrough_27 (by decide) ?_
          exact W.zret hx hb hr rfl (fun t ht hW => ⟨_, rfl, Option.some.inj h, ht⟩) (fun q hq9 => by cases hq9) dX5_isWovenThrough_28
  refine lv_iconst (v := 0) hx hb dX5_isWovenThrough_0 (by decide) ?_
  refine q_nm h (fun v4 h => ?_)
  refine lv_istore_n (lv' := [(3, .int (v4)), (0, .ref (ad 99)), (1, .int (x1)), (2, .int (x2))]) hx hb dX5_isWovenThrough_1 rfl hl (by decide) rfl (fun ls hl => ?_)
  exact j2 1000 v4 _ (lv_sub hl [1, 2, 3, 0] rfl) h
theorem hi_X5_drawsOut_X5 : ∀ w ∈ u_ws RX5 TX5 48, w ∈ wsX5_drawsOut := fun w h => (List.mem_cons_of_mem _ (List.mem_append_right _ h))
set_option maxHeartbeats 4000000 in
set_option maxRecDepth 100000 in
theorem mt_X5_drawsOut (l : Launch) (D : va_G) (cI cZ : ClassId) (ad : Nat → Nat) (F : Nat → Int32) (G : Nat → Nat → Int32) (x1 : Int32) (x2 : Int32) (rv : Int32) (h : f_X5_drawsOut F G x1 x2 = some rv) : Met l yX5_drawsOut wsX5_drawsOut ({ frames := 1, cells := 0, slots := 0, locals := 23 } : Room) (va_Pc [.ref (ad 99), .int x1, .int x2] (mR D cI cZ ad F G)) (vp_Si (fun z => z = rv)) 0 0 (fun _ => False) := by
  refine Met.ofW (cc := cX5_drawsOut) (maxL := 3) (ret := (some .boolean)) (by decide) rfl ?_
  intro p e s m args below meth c s₁ B hml hv
  obtain ⟨rfl, hP, hK, hN⟩ := hv
  have hx := B.exec
  have hb := B.bytes
  have hr := B.returns
  have hts := atoms_spec (ws := wsX5_drawsOut) B.pre
  have hown : s.vm.findClass RX5 = some m.cls := findClass_of_methodNamed B.named
  have hlocks := B.notSynchronized
  have hl := lv_entry ([.ref (ad 99), .int x1, .int x2]) (n := 3) (Nat.le_of_ble_eq_true rfl)
  rw [lg_entry_eq]
  generalize (lg_sl ([.ref (ad 99), .int x1, .int x2]) ++ List.replicate (3 - (lg_sl ([.ref (ad 99), .int x1, .int x2])).length) Slot.unset).toArray = ls at hl ⊢
  have hl : lv_has ls 3 [(0, .ref (ad 99)), (1, .int (x1)), (2, .int (x2))] := hl
  have j43 : ∀ ls : Array Slot, lv_has ls 3 [] → f_X5_drawsOut_B43 F G x1 x2 = some rv → W p l e (headSpec wsX5_drawsOut ({ frames := 1, cells := 0, slots := 0, locals := 23 } : Room)).room s m (List.toArray ([.ref (ad 99), .int x1, .int x2] : List Value)) below meth c s.heap [] 0 0 (MQ below (vp_Si (fun z => z = rv)) (List.toArray ([.ref (ad 99), .int x1, .int x2] : List Value)) s 0 0 (fun _ => False)) (F0 m 43 ls []) := by
    intro ls hl h
    refine lv_iconst (v := 1) hx hb dX5_drawsOut_43 (by decide) ?_
    refine lv_goto (tgt := 48) hx hb dX5_drawsOut_44 (by decide) ?_
    exact W.zret hx hb hr rfl (fun t ht hW => ⟨_, rfl, Option.some.inj h, ht⟩) (fun q hq9 => by cases hq9) dX5_drawsOut_48
  have j20 : ∀ ls : Array Slot, lv_has ls 3 [(0, .ref (ad 99)), (1, .int (x1)), (2, .int (x2))] → f_X5_drawsOut_B20 F G x1 x2 = some rv → W p l e (headSpec wsX5_drawsOut ({ frames := 1, cells := 0, slots := 0, locals := 23 } : Room)).room s m (List.toArray ([.ref (ad 99), .int x1, .int x2] : List Value)) below meth c s.heap [] 0 0 (MQ below (vp_Si (fun z => z = rv)) (List.toArray ([.ref (ad 99), .int x1, .int x2] : List Value)) s 0 0 (fun _ => False)) (F0 m 20 ls []) := by
    intro ls hl h
    refine lv_aload_n hx hb dX5_drawsOut_20 rfl (lv_at hl 0 rfl) ?_
    refine lv_iload_n hx hb dX5_drawsOut_21 rfl (lv_at hl 2 rfl) ?_
    refine lv_iload_n hx hb dX5_drawsOut_22 rfl (lv_at hl 1 rfl) ?_
    obtain ⟨v1, hc2, h⟩ := q_some h
    refine q_cs (W.runV (C := RX5) (As := [.int (x2), .int (x1)]) (rest := []) ⟨hx, hb, hml, hown, hts⟩ (mt_X5_isOn l D cI cZ ad F G x2 x1 v1 hc2) (cwV 2 hts gX5_drawsOut_X5_isOn rfl rfl rfl (by decide +kernel) ⟨Nat.le_of_ble_eq_true rfl, Nat.le_of_ble_eq_true rfl⟩) ⟨mR_b, va_recv hK hP (ci := 5) (q0 := 0) rfl rfl, (mR_p hP hK hN).2⟩ rfl rfl hl.1 rfl (lv_room (Nat.le_of_ble_eq_true rfl)) dX5_drawsOut_23 ⟨Nat.le_of_ble_eq_true rfl, Nat.le_of_ble_eq_true rfl⟩) ?_
    refine q_if_ne (tgt := 43) hx hb dX5_drawsOut_26 (by decide) h (fun h => ?_) (fun h => ?_)
    · exact j43 _ (lv_sub hl [] rfl) h
    · refine lv_aload_n hx hb dX5_drawsOut_29 rfl (lv_at hl 0 rfl) ?_
      refine lv_aload_n hx hb dX5_drawsOut_30 rfl (lv_at hl 0 rfl) ?_
      refine va_get hx hb hts hi_X5_drawsOut_X5 hown hK hP 0 (m_o99 cI cZ ad F G) rfl 39 (by decide) (hts _ (List.mem_of_getElem? (i := 1) rfl)) (fun _ h9 => h9) rfl dX5_drawsOut_31 ?_
      refine lv_iload_n hx hb dX5_drawsOut_34 rfl (lv_at hl 2 rfl) ?_
      refine q_ld hx hb hK hP 18 0 (m_a39 cI cZ ad F G) rfl dX5_drawsOut_35 h (fun v3 h => ?_)
      refine lv_iload_n hx hb dX5_drawsOut_36 rfl (lv_at hl 1 rfl) ?_
      obtain ⟨v4, hc5, h⟩ := q_some h
      refine q_cs (W.runV (C := RX5) (As := [.int (v3), .int (x1)]) (rest := []) ⟨hx, hb, hml, hown, hts⟩ (mt_X5_isWovenThrough l D cI cZ ad F G v3 x1 v4 hc5) (cwV 2 hts gX5_drawsOut_X5_isWovenThrough rfl rfl rfl (by decide +kernel) ⟨Nat.le_of_ble_eq_true rfl, Nat.le_of_ble_eq_true rfl⟩) ⟨mR_b, va_recv hK hP (ci := 5) (q0 := 0) rfl rfl, (mR_p hP hK hN).2⟩ rfl rfl hl.1 rfl (lv_room (Nat.le_of_ble_eq_true rfl)) dX5_drawsOut_37 ⟨Nat.le_of_ble_eq_true rfl, Nat.le_of_ble_eq_true rfl⟩) ?_
      refine q_if_eq (tgt := 47) hx hb dX5_drawsOut_40 (by decide) h (fun h => ?_) (fun h => ?_)
      · refine lv_iconst (v := 0) hx hb dX5_drawsOut_47 (by decide) ?_
        exact W.zret hx hb hr rfl (fun t ht hW => ⟨_, rfl, Option.some.inj h, ht⟩) (fun q hq9 => by cases hq9) dX5_drawsOut_48
      · exact j43 _ (lv_sub hl [] rfl) h
  refine lv_aload_n hx hb dX5_drawsOut_0 rfl (lv_at hl 0 rfl) ?_
  refine va_get hx hb hts hi_X5_drawsOut_X5 hown hK hP 0 (m_o99 cI cZ ad F G) rfl 39 (by decide) (hts _ (List.mem_of_getElem? (i := 1) rfl)) (fun _ h9 => h9) rfl dX5_drawsOut_1 ?_
  refine lv_iload_n hx hb dX5_drawsOut_4 rfl (lv_at hl 1 rfl) ?_
  refine q_ld hx hb hK hP 18 0 (m_a39 cI cZ ad F G) rfl dX5_drawsOut_5 h (fun v6 h => ?_)
  refine lv_aload_n hx hb dX5_drawsOut_6 rfl (lv_at hl 0 rfl) ?_
  refine va_get hx hb hts hi_X5_drawsOut_X5 hown hK hP 0 (m_o99 cI cZ ad F G) rfl 39 (by decide) (hts _ (List.mem_of_getElem? (i := 1) rfl)) (fun _ h9 => h9) rfl dX5_drawsOut_7 ?_
  refine lv_iload_n hx hb dX5_drawsOut_10 rfl (lv_at hl 2 rfl) ?_
  refine q_ld hx hb hK hP 18 0 (m_a39 cI cZ ad F G) rfl dX5_drawsOut_11 h (fun v7 h => ?_)
  refine q_icmp_ne (tgt := 20) hx hb dX5_drawsOut_12 (by decide) h (fun h => ?_) (fun h => ?_)
  · exact j20 _ (lv_sub hl [0, 1, 2] rfl) h
  · refine lv_iload_n hx hb dX5_drawsOut_15 rfl (lv_at hl 2 rfl) ?_
    refine lv_iload_n hx hb dX5_drawsOut_16 rfl (lv_at hl 1 rfl) ?_
    refine q_icmp_gt (tgt := 43) hx hb dX5_drawsOut_17 (by decide) h (fun h => ?_) (fun h => ?_)
    · exact j43 _ (lv_sub hl [] rfl) h
    · exact j20 _ (lv_sub hl [0, 1, 2] rfl) h
theorem hi_X5_woven_X5 : ∀ w ∈ u_ws RX5 TX5 48, w ∈ wsX5_woven := fun w h => (List.mem_cons_of_mem _ (List.mem_append_right _ h))
set_option maxHeartbeats 4000000 in
set_option maxRecDepth 100000 in
theorem mt_X5_woven (l : Launch) (D : va_G) (cI cZ : ClassId) (ad : Nat → Nat) (F : Nat → Int32) (G : Nat → Nat → Int32) (x1 : Int32) (x2 : Int32) (rv : Int32) (h : f_X5_woven F G x1 x2 = some rv) : Met l yX5_woven wsX5_woven ({ frames := 1, cells := 0, slots := 0, locals := 22 } : Room) (va_Pc [.ref (ad 99), .int x1, .int x2] (mR D cI cZ ad F G)) (vp_Si (fun z => z = rv)) 0 0 (fun _ => False) := by
  refine Met.ofW (cc := cX5_woven) (maxL := 3) (ret := (some .int)) (by decide) rfl ?_
  intro p e s m args below meth c s₁ B hml hv
  obtain ⟨rfl, hP, hK, hN⟩ := hv
  have hx := B.exec
  have hb := B.bytes
  have hr := B.returns
  have hts := atoms_spec (ws := wsX5_woven) B.pre
  have hown : s.vm.findClass RX5 = some m.cls := findClass_of_methodNamed B.named
  have hlocks := B.notSynchronized
  have hl := lv_entry ([.ref (ad 99), .int x1, .int x2]) (n := 3) (Nat.le_of_ble_eq_true rfl)
  rw [lg_entry_eq]
  generalize (lg_sl ([.ref (ad 99), .int x1, .int x2]) ++ List.replicate (3 - (lg_sl ([.ref (ad 99), .int x1, .int x2])).length) Slot.unset).toArray = ls at hl ⊢
  have hl : lv_has ls 3 [(0, .ref (ad 99)), (1, .int (x1)), (2, .int (x2))] := hl
  refine lv_aload_n hx hb dX5_woven_0 rfl (lv_at hl 0 rfl) ?_
  refine va_get hx hb hts hi_X5_woven_X5 hown hK hP 0 (m_o99 cI cZ ad F G) rfl 31 (by decide) (hts _ (List.mem_of_getElem? (i := 1) rfl)) (fun _ h9 => h9) rfl dX5_woven_1 ?_
  refine q_if_eq (tgt := 51) hx hb dX5_woven_4 (by decide) h (fun h => ?_) (fun h => ?_)
  · refine lv_iconst (v := -1) hx hb dX5_woven_51 (by decide) ?_
    exact W.iret hx hb hr (fun t ht hW => ⟨_, rfl, Option.some.inj h, ht⟩) (fun q hq9 => by cases hq9) dX5_woven_52
  · refine lv_iload_n hx hb dX5_woven_7 rfl (lv_at hl 1 rfl) ?_
    refine lv_iconst (v := 0) hx hb dX5_woven_8 (by decide) ?_
    refine lv_aload_n hx hb dX5_woven_9 rfl (lv_at hl 0 rfl) ?_
    refine va_get hx hb hts hi_X5_woven_X5 hown hK hP 0 (m_o99 cI cZ ad F G) rfl 35 (by decide) (hts _ (List.mem_of_getElem? (i := 2) rfl)) (fun _ h9 => h9) rfl dX5_woven_10 ?_
    refine lv_iconst (v := 1) hx hb dX5_woven_13 (by decide) ?_
    refine lv_isub hx hb dX5_woven_14 ?_
    obtain ⟨v1, hc2, h⟩ := q_some h
    refine q_cs (W.runS (As := [.int (x1), .int ((0 : Int32)), .int (((F 35) - (1 : Int32)))]) (rest := []) ⟨hx, hb, hml, hown, hts⟩ (mt_X5_in l x1 (0 : Int32) (((F 35) - (1 : Int32))) v1 hc2) (va_cwS 3 hts gX5_woven_X5_in rfl rfl rfl (by decide +kernel) ⟨Nat.le_of_ble_eq_true rfl, Nat.le_of_ble_eq_true rfl⟩) q_pr0 rfl rfl hl.1 rfl (lv_room (Nat.le_of_ble_eq_true rfl)) dX5_woven_15 ⟨Nat.le_of_ble_eq_true rfl, Nat.le_of_ble_eq_true rfl⟩) ?_
    refine q_if_eq (tgt := 51) hx hb dX5_woven_18 (by decide) h (fun h => ?_) (fun h => ?_)
    · refine lv_iconst (v := -1) hx hb dX5_woven_51 (by decide) ?_
      exact W.iret hx hb hr (fun t ht hW => ⟨_, rfl, Option.some.inj h, ht⟩) (fun q hq9 => by cases hq9) dX5_woven_52
    · refine lv_iload_n hx hb dX5_woven_21 rfl (lv_at hl 2 rfl) ?_
      refine lv_iconst (v := 0) hx hb dX5_woven_22 (by decide) ?_
      refine lv_aload_n hx hb dX5_woven_23 rfl (lv_at hl 0 rfl) ?_
      refine va_get hx hb hts hi_X5_woven_X5 hown hK hP 0 (m_o99 cI cZ ad F G) rfl 45 (by decide) (hts _ (List.mem_of_getElem? (i := 3) rfl)) (fun _ h9 => h9) rfl dX5_woven_24 ?_
      refine lv_iload_n hx hb dX5_woven_27 rfl (lv_at hl 1 rfl) ?_
      refine q_ld hx hb hK hP 24 0 (m_a45 cI cZ ad F G) rfl dX5_woven_28 h (fun v3 h => ?_)
      refine lv_iconst (v := 1) hx hb dX5_woven_29 (by decide) ?_
      refine lv_isub hx hb dX5_woven_30 ?_
      obtain ⟨v4, hc5, h⟩ := q_some h
      refine q_cs (W.runS (As := [.int (x2), .int ((0 : Int32)), .int ((v3 - (1 : Int32)))]) (rest := []) ⟨hx, hb, hml, hown, hts⟩ (mt_X5_in l x2 (0 : Int32) ((v3 - (1 : Int32))) v4 hc5) (va_cwS 3 hts gX5_woven_X5_in rfl rfl rfl (by decide +kernel) ⟨Nat.le_of_ble_eq_true rfl, Nat.le_of_ble_eq_true rfl⟩) q_pr0 rfl rfl hl.1 rfl (lv_room (Nat.le_of_ble_eq_true rfl)) dX5_woven_31 ⟨Nat.le_of_ble_eq_true rfl, Nat.le_of_ble_eq_true rfl⟩) ?_
      refine q_if_eq (tgt := 51) hx hb dX5_woven_34 (by decide) h (fun h => ?_) (fun h => ?_)
      · refine lv_iconst (v := -1) hx hb dX5_woven_51 (by decide) ?_
        exact W.iret hx hb hr (fun t ht hW => ⟨_, rfl, Option.some.inj h, ht⟩) (fun q hq9 => by cases hq9) dX5_woven_52
      · refine lv_aload_n hx hb dX5_woven_37 rfl (lv_at hl 0 rfl) ?_
        refine va_get hx hb hts hi_X5_woven_X5 hown hK hP 0 (m_o99 cI cZ ad F G) rfl 46 (by decide) (hts _ (List.mem_of_getElem? (i := 4) rfl)) (fun _ h9 => h9) rfl dX5_woven_38 ?_
        refine lv_bipush (v := 6) hx hb dX5_woven_41 (by decide) ?_
        refine lv_iload_n hx hb dX5_woven_43 rfl (lv_at hl 1 rfl) ?_
        refine lv_imul hx hb dX5_woven_44 ?_
        refine lv_iload_n hx hb dX5_woven_45 rfl (lv_at hl 2 rfl) ?_
        refine lv_iadd hx hb dX5_woven_46 ?_
        refine q_ld hx hb hK hP 25 0 (m_a46 cI cZ ad F G) rfl dX5_woven_47 h (fun v6 h => ?_)
        refine lv_goto (tgt := 52) hx hb dX5_woven_48 (by decide) ?_
        exact W.iret hx hb hr (fun t ht hW => ⟨_, rfl, Option.some.inj h, ht⟩) (fun q hq9 => by cases hq9) dX5_woven_52
theorem hi_X5_beadsOf_X5 : ∀ w ∈ u_ws RX5 TX5 48, w ∈ wsX5_beadsOf := fun w h => (List.mem_cons_of_mem _ (List.mem_append_right _ h))
set_option maxHeartbeats 4000000 in
set_option maxRecDepth 100000 in
theorem mt_X5_beadsOf (l : Launch) (D : va_G) (cI cZ : ClassId) (ad : Nat → Nat) (F : Nat → Int32) (G : Nat → Nat → Int32) (x1 : Int32) (rv : Int32) (h : f_X5_beadsOf F G x1 = some rv) : Met l yX5_beadsOf wsX5_beadsOf ({ frames := 0, cells := 0, slots := 0, locals := 0 } : Room) (va_Pc [.ref (ad 99), .int x1] (mR D cI cZ ad F G)) (vp_Si (fun z => z = rv)) 0 0 (fun _ => False) := by
  refine Met.ofW (cc := cX5_beadsOf) (maxL := 4) (ret := (some .int)) (by decide) rfl ?_
  intro p e s m args below meth c s₁ B hml hv
  obtain ⟨rfl, hP, hK, hN⟩ := hv
  have hx := B.exec
  have hb := B.bytes
  have hr := B.returns
  have hts := atoms_spec (ws := wsX5_beadsOf) B.pre
  have hown : s.vm.findClass RX5 = some m.cls := findClass_of_methodNamed B.named
  have hlocks := B.notSynchronized
  have hl := lv_entry ([.ref (ad 99), .int x1]) (n := 4) (Nat.le_of_ble_eq_true rfl)
  rw [lg_entry_eq]
  generalize (lg_sl ([.ref (ad 99), .int x1]) ++ List.replicate (4 - (lg_sl ([.ref (ad 99), .int x1])).length) Slot.unset).toArray = ls at hl ⊢
  have hl : lv_has ls 4 [(0, .ref (ad 99)), (1, .int (x1))] := hl
  have j4 : ∀ n4 : Nat, ∀ (x2 : Int32) (x3 : Int32) , ∀ ls : Array Slot, lv_has ls 4 [(0, .ref (ad 99)), (1, .int (x1)), (2, .int (x2)), (3, .int (x3))] → f_X5_beadsOf_L4 F G x1 n4 x2 x3 = some rv → W p l e (headSpec wsX5_beadsOf ({ frames := 0, cells := 0, slots := 0, locals := 0 } : Room)).room s m (List.toArray ([.ref (ad 99), .int x1] : List Value)) below meth c s.heap [] 0 0 (MQ below (vp_Si (fun z => z = rv)) (List.toArray ([.ref (ad 99), .int x1] : List Value)) s 0 0 (fun _ => False)) (F0 m 4 ls []) := by
    intro n4
    induction n4 with
    | zero =>
      intro x2 x3 ls hl h
      cases h
    | succ n4 ih4 =>
      have j27 : ∀ (x3 : Int32) (s0 : Int32) (s1 : Int32) , ∀ ls : Array Slot, lv_has ls 4 [(0, .ref (ad 99)), (1, .int (x1)), (3, .int (x3))] → f_X5_beadsOf_B27 (f_X5_beadsOf_L4 F G x1 n4) F G x1 x3 s0 s1 = some rv → W p l e (headSpec wsX5_beadsOf ({ frames := 0, cells := 0, slots := 0, locals := 0 } : Room)).room s m (List.toArray ([.ref (ad 99), .int x1] : List Value)) below meth c s.heap [] 0 0 (MQ below (vp_Si (fun z => z = rv)) (List.toArray ([.ref (ad 99), .int x1] : List Value)) s 0 0 (fun _ => False)) (F0 m 27 ls [.int (s1), .int (s0)]) := by
        intro x3 s0 s1 ls hl h
        refine lv_iadd hx hb dX5_beadsOf_27 ?_
        refine q_nm h (fun v1 h => ?_)
        refine lv_istore_n (lv' := [(2, .int (v1)), (0, .ref (ad 99)), (1, .int (x1)), (3, .int (x3))]) hx hb dX5_beadsOf_28 rfl hl (by decide) rfl (fun ls hl => ?_)
        refine q_iinc (j := 3) (d := (1 : Int32)) (lv2 := fun v2 => [(3, .int (v2)), (2, .int (v1)), (0, .ref (ad 99)), (1, .int (x1))]) hx hb dX5_beadsOf_29 hl rfl (by decide) (by decide) (fun _ => rfl) h (fun v2 ls hl h => ?_)
        refine lv_goto (tgt := 4) hx hb dX5_beadsOf_32 (by decide) ?_
        exact ih4 v1 v2 _ (lv_sub hl [2, 3, 1, 0] rfl) h
      intro x2 x3 ls hl h
      replace h : f_X5_beadsOf_L4_b (f_X5_beadsOf_L4 F G x1 n4) F G x1 x2 x3 = some rv := h
      refine lv_iload_n hx hb dX5_beadsOf_4 rfl (lv_at hl 3 rfl) ?_
      refine lv_sipush (v := 144) hx hb dX5_beadsOf_5 (by decide) ?_
      refine q_icmp_ge (tgt := 35) hx hb dX5_beadsOf_8 (by decide) h (fun h => ?_) (fun h => ?_)
      · refine lv_iload_n hx hb dX5_beadsOf_35 rfl (lv_at hl 2 rfl) ?_
        exact W.iret hx hb hr (fun t ht hW => ⟨_, rfl, Option.some.inj h, ht⟩) (fun q hq9 => by cases hq9) dX5_beadsOf_36
      · refine lv_iload_n hx hb dX5_beadsOf_11 rfl (lv_at hl 2 rfl) ?_
        refine lv_aload_n hx hb dX5_beadsOf_12 rfl (lv_at hl 0 rfl) ?_
        refine va_get hx hb hts hi_X5_beadsOf_X5 hown hK hP 0 (m_o99 cI cZ ad F G) rfl 0 (by decide) (hts _ (List.mem_of_getElem? (i := 1) rfl)) (fun _ h9 => h9) rfl dX5_beadsOf_13 ?_
        refine lv_iload_n hx hb dX5_beadsOf_16 rfl (lv_at hl 3 rfl) ?_
        refine q_ld hx hb hK hP 1 0 (m_a0 cI cZ ad F G) rfl dX5_beadsOf_17 h (fun v3 h => ?_)
        refine lv_iload_n hx hb dX5_beadsOf_18 rfl (lv_at hl 1 rfl) ?_
        refine q_icmp_ne (tgt := 26) hx hb dX5_beadsOf_19 (by decide) h (fun h => ?_) (fun h => ?_)
        · refine lv_iconst (v := 0) hx hb dX5_beadsOf_26 (by decide) ?_
          exact j27 x3 x2 (0 : Int32) _ (lv_sub hl [0, 1, 3] rfl) h
        · refine lv_iconst (v := 1) hx hb dX5_beadsOf_22 (by decide) ?_
          refine lv_goto (tgt := 27) hx hb dX5_beadsOf_23 (by decide) ?_
          exact j27 x3 x2 (1 : Int32) _ (lv_sub hl [0, 1, 3] rfl) h
  refine lv_iconst (v := 0) hx hb dX5_beadsOf_0 (by decide) ?_
  refine q_nm h (fun v4 h => ?_)
  refine lv_istore_n (lv' := [(2, .int (v4)), (0, .ref (ad 99)), (1, .int (x1))]) hx hb dX5_beadsOf_1 rfl hl (by decide) rfl (fun ls hl => ?_)
  refine lv_iconst (v := 0) hx hb dX5_beadsOf_2 (by decide) ?_
  refine q_nm h (fun v5 h => ?_)
  refine lv_istore_n (lv' := [(3, .int (v5)), (2, .int (v4)), (0, .ref (ad 99)), (1, .int (x1))]) hx hb dX5_beadsOf_3 rfl hl (by decide) rfl (fun ls hl => ?_)
  exact j4 1000 v4 v5 _ (lv_sub hl [2, 3, 1, 0] rfl) h
theorem hi_X5_bought_X5 : ∀ w ∈ u_ws RX5 TX5 48, w ∈ wsX5_bought := fun w h => (List.mem_cons_of_mem _ (List.mem_append_right _ h))
set_option maxHeartbeats 4000000 in
set_option maxRecDepth 100000 in
theorem mt_X5_bought (l : Launch) (D : va_G) (cI cZ : ClassId) (ad : Nat → Nat) (F : Nat → Int32) (G : Nat → Nat → Int32) (x1 : Int32) (x2 : Int32) (rv : Int32) (h : f_X5_bought F G x1 x2 = some rv) : Met l yX5_bought wsX5_bought ({ frames := 2, cells := 0, slots := 0, locals := 42 } : Room) (va_Pc [.ref (ad 99), .int x1, .int x2] (mR D cI cZ ad F G)) (vp_Si (fun z => z = rv)) 0 0 (fun _ => False) := by
  refine Met.ofW (cc := cX5_bought) (maxL := 3) (ret := (some .int)) (by decide) rfl ?_
  intro p e s m args below meth c s₁ B hml hv
  obtain ⟨rfl, hP, hK, hN⟩ := hv
  have hx := B.exec
  have hb := B.bytes
  have hr := B.returns
  have hts := atoms_spec (ws := wsX5_bought) B.pre
  have hown : s.vm.findClass RX5 = some m.cls := findClass_of_methodNamed B.named
  have hlocks := B.notSynchronized
  have hl := lv_entry ([.ref (ad 99), .int x1, .int x2]) (n := 3) (Nat.le_of_ble_eq_true rfl)
  rw [lg_entry_eq]
  generalize (lg_sl ([.ref (ad 99), .int x1, .int x2]) ++ List.replicate (3 - (lg_sl ([.ref (ad 99), .int x1, .int x2])).length) Slot.unset).toArray = ls at hl ⊢
  have hl : lv_has ls 3 [(0, .ref (ad 99)), (1, .int (x1)), (2, .int (x2))] := hl
  refine lv_iload_n hx hb dX5_bought_0 rfl (lv_at hl 1 rfl) ?_
  obtain ⟨v1, hc2, h⟩ := q_some h
  refine q_cs (W.runS (As := [.int (x1)]) (rest := []) ⟨hx, hb, hml, hown, hts⟩ (mt_X5_isColour l x1 v1 hc2) (va_cwS 1 hts gX5_bought_X5_isColour rfl rfl rfl (by decide +kernel) ⟨Nat.le_of_ble_eq_true rfl, Nat.le_of_ble_eq_true rfl⟩) q_pr0 rfl rfl hl.1 rfl (lv_room (Nat.le_of_ble_eq_true rfl)) dX5_bought_1 ⟨Nat.le_of_ble_eq_true rfl, Nat.le_of_ble_eq_true rfl⟩) ?_
  refine q_if_eq (tgt := 18) hx hb dX5_bought_4 (by decide) h (fun h => ?_) (fun h => ?_)
  · refine lv_iconst (v := -1) hx hb dX5_bought_18 (by decide) ?_
    exact W.iret hx hb hr (fun t ht hW => ⟨_, rfl, Option.some.inj h, ht⟩) (fun q hq9 => by cases hq9) dX5_bought_19
  · refine lv_iload_n hx hb dX5_bought_7 rfl (lv_at hl 2 rfl) ?_
    refine lv_iconst (v := 1) hx hb dX5_bought_8 (by decide) ?_
    refine lv_sipush (v := 1000) hx hb dX5_bought_9 (by decide) ?_
    obtain ⟨v3, hc4, h⟩ := q_some h
    refine q_cs (W.runS (As := [.int (x2), .int ((1 : Int32)), .int ((1000 : Int32))]) (rest := []) ⟨hx, hb, hml, hown, hts⟩ (mt_X5_in l x2 (1 : Int32) (1000 : Int32) v3 hc4) (va_cwS 3 hts gX5_bought_X5_in rfl rfl rfl (by decide +kernel) ⟨Nat.le_of_ble_eq_true rfl, Nat.le_of_ble_eq_true rfl⟩) q_pr0 rfl rfl hl.1 rfl (lv_room (Nat.le_of_ble_eq_true rfl)) dX5_bought_12 ⟨Nat.le_of_ble_eq_true rfl, Nat.le_of_ble_eq_true rfl⟩) ?_
    refine q_if_ne (tgt := 20) hx hb dX5_bought_15 (by decide) h (fun h => ?_) (fun h => ?_)
    · refine lv_aload_n hx hb dX5_bought_20 rfl (lv_at hl 0 rfl) ?_
      refine lv_iload_n hx hb dX5_bought_21 rfl (lv_at hl 1 rfl) ?_
      obtain ⟨v5, hc6, h⟩ := q_some h
      refine q_cs (W.runV (C := RX5) (As := [.int (x1)]) (rest := []) ⟨hx, hb, hml, hown, hts⟩ (mt_X5_beadsOf l D cI cZ ad F G x1 v5 hc6) (cwV 1 hts gX5_bought_X5_beadsOf rfl rfl rfl (by decide +kernel) ⟨Nat.le_of_ble_eq_true rfl, Nat.le_of_ble_eq_true rfl⟩) ⟨mR_b, va_recv hK hP (ci := 5) (q0 := 0) rfl rfl, (mR_p hP hK hN).2⟩ rfl rfl hl.1 rfl (lv_room (Nat.le_of_ble_eq_true rfl)) dX5_bought_22 ⟨Nat.le_of_ble_eq_true rfl, Nat.le_of_ble_eq_true rfl⟩) ?_
      refine lv_aload_n hx hb dX5_bought_25 rfl (lv_at hl 0 rfl) ?_
      refine va_get hx hb hts hi_X5_bought_X5 hown hK hP 0 (m_o99 cI cZ ad F G) rfl 5 (by decide) (hts _ (List.mem_of_getElem? (i := 1) rfl)) (fun _ h9 => h9) rfl dX5_bought_26 ?_
      refine lv_iload_n hx hb dX5_bought_29 rfl (lv_at hl 1 rfl) ?_
      refine q_ld hx hb hK hP 4 0 (m_a5 cI cZ ad F G) rfl dX5_bought_30 h (fun v7 h => ?_)
      refine lv_imul hx hb dX5_bought_31 ?_
      refine lv_sipush (v := 1000) hx hb dX5_bought_32 (by decide) ?_
      refine lv_iload_n hx hb dX5_bought_35 rfl (lv_at hl 2 rfl) ?_
      refine lv_imul hx hb dX5_bought_36 ?_
      refine lv_iadd hx hb dX5_bought_37 ?_
      refine lv_iconst (v := 1) hx hb dX5_bought_38 (by decide) ?_
      refine lv_isub hx hb dX5_bought_39 ?_
      refine lv_sipush (v := 1000) hx hb dX5_bought_40 (by decide) ?_
      refine lv_iload_n hx hb dX5_bought_43 rfl (lv_at hl 2 rfl) ?_
      refine lv_imul hx hb dX5_bought_44 ?_
      obtain ⟨hne, h⟩ := q_dv h
      refine lv_idiv hx hb dX5_bought_45 hne ?_
      exact W.iret hx hb hr (fun t ht hW => ⟨_, rfl, Option.some.inj h, ht⟩) (fun q hq9 => by cases hq9) dX5_bought_46
    · refine lv_iconst (v := -1) hx hb dX5_bought_18 (by decide) ?_
      exact W.iret hx hb hr (fun t ht hW => ⟨_, rfl, Option.some.inj h, ht⟩) (fun q hq9 => by cases hq9) dX5_bought_19
