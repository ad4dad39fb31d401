theorem hi_X3_isCheaperThan_X3 : ∀ w ∈ u_ws RX3 TX3 19, w ∈ wsX3_isCheaperThan := fun w h => (List.mem_cons_of_mem _ (List.mem_append_right _ h))
set_option maxHeartbeats 4000000 in
set_option maxRecDepth 100000 in
theorem mt_X3_isCheaperThan (l : Launch) (D : va_G) (cI : ClassId) (ad : Nat → Nat) (F : Nat → Int32) (G : Nat → Nat → Int32)  (rv : Int32) (h : f_X3_isCheaperThan F G  = some rv) : Met l yX3_isCheaperThan wsX3_isCheaperThan ({ frames := 0, cells := 0, slots := 0, locals := 0 } : Room) (va_Pc [.ref (ad 72), .ref (ad 22)] (bdR D cI ad F G)) (vp_Si (fun z => z = rv)) 0 0 (fun _ => False) := by
  refine Met.ofW (cc := cX3_isCheaperThan) (maxL := 2) (ret := (some .boolean)) (by decide) rfl ?_
  intro p e s m args below meth c s₁ B hml hv
  obtain ⟨rfl, hP, hK, hN⟩ := hv
  have hx := B.exec
  have hb := B.bytes
  have hr := B.returns
  have hts := atoms_spec (ws := wsX3_isCheaperThan) B.pre
  have hown : s.vm.findClass RX3 = some m.cls := findClass_of_methodNamed B.named
  have hlocks := B.notSynchronized
  have hl := lv_entry ([.ref (ad 72), .ref (ad 22)]) (n := 2) (Nat.le_of_ble_eq_true rfl)
  rw [lg_entry_eq]
  generalize (lg_sl ([.ref (ad 72), .ref (ad 22)]) ++ List.replicate (2 - (lg_sl ([.ref (ad 72), .ref (ad 22)])).length) Slot.unset).toArray = ls at hl ⊢
  have hl : lv_has ls 2 [(0, .ref (ad 72)), (1, .ref (ad 22))] := hl
  have j33 : ∀ ls : Array Slot, lv_has ls 2 [] → f_X3_isCheaperThan_B33 F G = some rv → W p l e (headSpec wsX3_isCheaperThan ({ frames := 0, cells := 0, slots := 0, locals := 0 } : Room)).room s m (List.toArray ([.ref (ad 72), .ref (ad 22)] : List Value)) below meth c s.heap [] 0 0 (MQ below (vp_Si (fun z => z = rv)) (List.toArray ([.ref (ad 72), .ref (ad 22)] : List Value)) s 0 0 (fun _ => False)) (F0 m 33 ls []) := by
    intro ls hl h
    refine lv_iconst (v := 1) hx hb dX3_isCheaperThan_33 (by decide) ?_
    refine lv_goto (tgt := 38) hx hb dX3_isCheaperThan_34 (by decide) ?_
    exact W.zret hx hb hr rfl (fun t ht hW => ⟨_, rfl, Option.some.inj h, ht⟩) (fun q hq9 => by cases hq9) dX3_isCheaperThan_38
  refine lv_aload_n hx hb dX3_isCheaperThan_0 rfl (lv_at hl 0 rfl) ?_
  refine va_get hx hb hts hi_X3_isCheaperThan_X3 hown hK hP 20 (bd_o72 cI ad F G) rfl 14 (by decide) (hts _ (List.mem_of_getElem? (i := 1) rfl)) (fun _ h9 => h9) rfl dX3_isCheaperThan_1 ?_
  refine lv_aload_n hx hb dX3_isCheaperThan_4 rfl (lv_at hl 1 rfl) ?_
  refine va_get hx hb hts hi_X3_isCheaperThan_X3 hown hK hP 8 (bd_o22 cI ad F G) rfl 14 (by decide) (hts _ (List.mem_of_getElem? (i := 1) rfl)) (fun _ h9 => h9) rfl dX3_isCheaperThan_5 ?_
  refine q_icmp_lt (tgt := 33) hx hb dX3_isCheaperThan_8 (by decide) h (fun h => ?_) (fun h => ?_)
  · exact j33 _ (lv_sub hl [] rfl) h
  · refine lv_aload_n hx hb dX3_isCheaperThan_11 rfl (lv_at hl 0 rfl) ?_
    refine va_get hx hb hts hi_X3_isCheaperThan_X3 hown hK hP 20 (bd_o72 cI ad F G) rfl 14 (by decide) (hts _ (List.mem_of_getElem? (i := 1) rfl)) (fun _ h9 => h9) rfl dX3_isCheaperThan_12 ?_
    refine lv_aload_n hx hb dX3_isCheaperThan_15 rfl (lv_at hl 1 rfl) ?_
    refine va_get hx hb hts hi_X3_isCheaperThan_X3 hown hK hP 8 (bd_o22 cI ad F G) rfl 14 (by decide) (hts _ (List.mem_of_getElem? (i := 1) rfl)) (fun _ h9 => h9) rfl dX3_isCheaperThan_16 ?_
    refine q_icmp_ne (tgt := 37) hx hb dX3_isCheaperThan_19 (by decide) h (fun h => ?_) (fun h => ?_)
    · refine lv_iconst (v := 0) hx hb dX3_isCheaperThan_37 (by decide) ?_
      exact W.zret hx hb hr rfl (fun t ht hW => ⟨_, rfl, Option.some.inj h, ht⟩) (fun q hq9 => by cases hq9) dX3_isCheaperThan_38
    · refine lv_aload_n hx hb dX3_isCheaperThan_22 rfl (lv_at hl 0 rfl) ?_
      refine va_get hx hb hts hi_X3_isCheaperThan_X3 hown hK hP 20 (bd_o72 cI ad F G) rfl 15 (by decide) (hts _ (List.mem_of_getElem? (i := 2) rfl)) (fun _ h9 => h9) rfl dX3_isCheaperThan_23 ?_
      refine lv_aload_n hx hb dX3_isCheaperThan_26 rfl (lv_at hl 1 rfl) ?_
      refine va_get hx hb hts hi_X3_isCheaperThan_X3 hown hK hP 8 (bd_o22 cI ad F G) rfl 15 (by decide) (hts _ (List.mem_of_getElem? (i := 2) rfl)) (fun _ h9 => h9) rfl dX3_isCheaperThan_27 ?_
      refine q_icmp_ge (tgt := 37) hx hb dX3_isCheaperThan_30 (by decide) h (fun h => ?_) (fun h => ?_)
      · refine lv_iconst (v := 0) hx hb dX3_isCheaperThan_37 (by decide) ?_
        exact W.zret hx hb hr rfl (fun t ht hW => ⟨_, rfl, Option.some.inj h, ht⟩) (fun q hq9 => by cases hq9) dX3_isCheaperThan_38
      · exact j33 _ (lv_sub hl [] rfl) h
theorem hi_X4_cell_X4 : ∀ w ∈ u_ws RX4 TX4 4, w ∈ wsX4_cell := fun w h => (List.mem_cons_of_mem _ (List.mem_append_left _ (List.mem_append_right _ h)))
set_option maxHeartbeats 4000000 in
set_option maxRecDepth 100000 in
theorem mt_X4_cell (l : Launch) (D : va_G) (cI : ClassId) (ad : Nat → Nat) (F : Nat → Int32) (G : Nat → Nat → Int32) (x1 : Int32) (x2 : Int32) (rv : Int32) (h : f_X4_cell F G x1 x2 = some rv) : Met l yX4_cell wsX4_cell ({ frames := 3, cells := 0, slots := 0, locals := 65 } : Room) (va_Pc [.ref (ad 90), .int x1, .int x2] (bdR D cI ad F G)) (vp_Si (fun z => z = rv)) 0 0 (fun _ => False) := by
  refine Met.ofW (cc := cX4_cell) (maxL := 3) (ret := (some .int)) (by decide) rfl ?_
  intro p e s m args below meth c s₁ B hml hv
  obtain ⟨rfl, hP, hK, hN⟩ := hv
  have hx := B.exec
  have hb := B.bytes
  have hr := B.returns
  have hts := atoms_spec (ws := wsX4_cell) B.pre
  have hown : s.vm.findClass RX4 = some m.cls := findClass_of_methodNamed B.named
  have hlocks := B.notSynchronized
  have hl := lv_entry ([.ref (ad 90), .int x1, .int x2]) (n := 3) (Nat.le_of_ble_eq_true rfl)
  rw [lg_entry_eq]
  generalize (lg_sl ([.ref (ad 90), .int x1, .int x2]) ++ List.replicate (3 - (lg_sl ([.ref (ad 90), .int x1, .int x2])).length) Slot.unset).toArray = ls at hl ⊢
  have hl : lv_has ls 3 [(0, .ref (ad 90)), (1, .int (x1)), (2, .int (x2))] := hl
  refine lv_aload_n hx hb dX4_cell_0 rfl (lv_at hl 0 rfl) ?_
  refine va_get hx hb hts hi_X4_cell_X4 hown hK hP 0 (bd_o90 cI ad F G) rfl 0 (by decide) (hts _ (List.mem_of_getElem? (i := 1) rfl)) (fun _ h9 => h9) rfl dX4_cell_1 ?_
  refine lv_iload_n hx hb dX4_cell_4 rfl (lv_at hl 1 rfl) ?_
  refine lv_iload_n hx hb dX4_cell_5 rfl (lv_at hl 2 rfl) ?_
  obtain ⟨v1, hc2, h⟩ := q_some h
  refine q_cs (W.runV (C := RX0) (As := [.int (x1), .int (x2)]) (rest := []) ⟨hx, hb, hml, hown, hts⟩ (mt_X0_colourAt l D cI ad F G x1 x2 v1 hc2) (cwV 2 hts gX4_cell_X0_colourAt rfl rfl rfl (by decide +kernel) ⟨Nat.le_of_ble_eq_true rfl, Nat.le_of_ble_eq_true rfl⟩) ⟨chR_b, va_recv hK hP (ci := 0) (q0 := 1) rfl rfl, (chR_p (bd_ch hP) hK hN).2⟩ rfl rfl hl.1 rfl (lv_room (Nat.le_of_ble_eq_true rfl)) dX4_cell_6 ⟨Nat.le_of_ble_eq_true rfl, Nat.le_of_ble_eq_true rfl⟩) ?_
  exact W.iret hx hb hr (fun t ht hW => ⟨_, rfl, Option.some.inj h, ht⟩) (fun q hq9 => by cases hq9) dX4_cell_9
theorem hi_X4_worked_X3 : ∀ w ∈ u_ws RX3 TX3 19, w ∈ wsX4_worked := fun w h => (List.mem_cons_of_mem _ (List.mem_append_right _ h))
theorem hi_X4_worked_X4 : ∀ w ∈ u_ws RX4 TX4 4, w ∈ wsX4_worked := fun w h => (List.mem_cons_of_mem _ (List.mem_append_left _ (List.mem_append_right _ h)))
set_option maxHeartbeats 4000000 in
set_option maxRecDepth 100000 in
theorem mt_X4_worked (l : Launch) (D : va_G) (cI : ClassId) (ad : Nat → Nat) (F : Nat → Int32) (G : Nat → Nat → Int32) (x1 : Int32) (rv : Int32) (h : f_X4_worked F G x1 = some rv) : Met l yX4_worked wsX4_worked ({ frames := 1, cells := 0, slots := 0, locals := 20 } : Room) (va_Pc [.ref (ad 90), .int x1] (bdR D cI ad F G)) (vp_Si (fun z => z = rv)) 0 0 (fun _ => False) := by
  refine Met.ofW (cc := cX4_worked) (maxL := 2) (ret := (some .int)) (by decide) rfl ?_
  intro p e s m args below meth c s₁ B hml hv
  obtain ⟨rfl, hP, hK, hN⟩ := hv
  have hx := B.exec
  have hb := B.bytes
  have hr := B.returns
  have hts := atoms_spec (ws := wsX4_worked) B.pre
  have hown : s.vm.findClass RX4 = some m.cls := findClass_of_methodNamed B.named
  have hlocks := B.notSynchronized
  have hl := lv_entry ([.ref (ad 90), .int x1]) (n := 2) (Nat.le_of_ble_eq_true rfl)
  rw [lg_entry_eq]
  generalize (lg_sl ([.ref (ad 90), .int x1]) ++ List.replicate (2 - (lg_sl ([.ref (ad 90), .int x1])).length) Slot.unset).toArray = ls at hl ⊢
  have hl : lv_has ls 2 [(0, .ref (ad 90)), (1, .int (x1))] := hl
  refine lv_aload_n hx hb dX4_worked_0 rfl (lv_at hl 0 rfl) ?_
  refine va_get hx hb hts hi_X4_worked_X4 hown hK hP 0 (bd_o90 cI ad F G) rfl 2 (by decide) (hts _ (List.mem_of_getElem? (i := 1) rfl)) (fun _ h9 => h9) rfl dX4_worked_1 ?_
  refine va_get hx hb hts hi_X4_worked_X3 hown hK hP 8 (bd_o22 cI ad F G) rfl 10 (by decide) (hts _ (List.mem_of_getElem? (i := 2) rfl)) (fun _ h9 => h9) rfl dX4_worked_4 ?_
  refine q_if_ne (tgt := 12) hx hb dX4_worked_7 (by decide) h (fun h => ?_) (fun h => ?_)
  · refine lv_iload_n hx hb dX4_worked_12 rfl (lv_at hl 1 rfl) ?_
    rcases q_ite _ h with ⟨c0, h⟩ | ⟨c0, h⟩
    · refine lv_tableIn (tgt := 56) hx hb dX4_worked_13 (by rw [c0]; decide) (by rw [c0]; decide) (by rw [c0]; rfl) (by decide) ?_
      refine lv_aload_n hx hb dX4_worked_56 rfl (lv_at hl 0 rfl) ?_
      refine va_get hx hb hts hi_X4_worked_X4 hown hK hP 0 (bd_o90 cI ad F G) rfl 2 (by decide) (hts _ (List.mem_of_getElem? (i := 1) rfl)) (fun _ h9 => h9) rfl dX4_worked_57 ?_
      refine va_get hx hb hts hi_X4_worked_X3 hown hK hP 8 (bd_o22 cI ad F G) rfl 12 (by decide) (hts _ (List.mem_of_getElem? (i := 3) rfl)) (fun _ h9 => h9) rfl dX4_worked_60 ?_
      exact W.iret hx hb hr (fun t ht hW => ⟨_, rfl, Option.some.inj h, ht⟩) (fun q hq9 => by cases hq9) dX4_worked_63
    rcases q_ite _ h with ⟨c1, h⟩ | ⟨c1, h⟩
    · refine lv_tableIn (tgt := 64) hx hb dX4_worked_13 (by rw [c1]; decide) (by rw [c1]; decide) (by rw [c1]; rfl) (by decide) ?_
      refine lv_aload_n hx hb dX4_worked_64 rfl (lv_at hl 0 rfl) ?_
      refine va_get hx hb hts hi_X4_worked_X4 hown hK hP 0 (bd_o90 cI ad F G) rfl 2 (by decide) (hts _ (List.mem_of_getElem? (i := 1) rfl)) (fun _ h9 => h9) rfl dX4_worked_65 ?_
      refine va_get hx hb hts hi_X4_worked_X3 hown hK hP 8 (bd_o22 cI ad F G) rfl 13 (by decide) (hts _ (List.mem_of_getElem? (i := 4) rfl)) (fun _ h9 => h9) rfl dX4_worked_68 ?_
      obtain ⟨v1, hc2, h⟩ := q_some h
      refine q_cs (W.runS (As := [.int ((F 13))]) (rest := []) ⟨hx, hb, hml, hown, hts⟩ (mt_X4_rowOf l ((F 13)) v1 hc2) (va_cwS 1 hts gX4_worked_X4_rowOf rfl rfl rfl (by decide +kernel) ⟨Nat.le_of_ble_eq_true rfl, Nat.le_of_ble_eq_true rfl⟩) q_pr0 rfl rfl hl.1 rfl (lv_room (Nat.le_of_ble_eq_true rfl)) dX4_worked_71 ⟨Nat.le_of_ble_eq_true rfl, Nat.le_of_ble_eq_true rfl⟩) ?_
      exact W.iret hx hb hr (fun t ht hW => ⟨_, rfl, Option.some.inj h, ht⟩) (fun q hq9 => by cases hq9) dX4_worked_74
    rcases q_ite _ h with ⟨c2, h⟩ | ⟨c2, h⟩
    · refine lv_tableIn (tgt := 75) hx hb dX4_worked_13 (by rw [c2]; decide) (by rw [c2]; decide) (by rw [c2]; rfl) (by decide) ?_
      refine lv_aload_n hx hb dX4_worked_75 rfl (lv_at hl 0 rfl) ?_
      refine va_get hx hb hts hi_X4_worked_X4 hown hK hP 0 (bd_o90 cI ad F G) rfl 2 (by decide) (hts _ (List.mem_of_getElem? (i := 1) rfl)) (fun _ h9 => h9) rfl dX4_worked_76 ?_
      refine va_get hx hb hts hi_X4_worked_X3 hown hK hP 8 (bd_o22 cI ad F G) rfl 13 (by decide) (hts _ (List.mem_of_getElem? (i := 4) rfl)) (fun _ h9 => h9) rfl dX4_worked_79 ?_
      obtain ⟨v3, hc4, h⟩ := q_some h
      refine q_cs (W.runS (As := [.int ((F 13))]) (rest := []) ⟨hx, hb, hml, hown, hts⟩ (mt_X4_columnOf l ((F 13)) v3 hc4) (va_cwS 1 hts gX4_worked_X4_columnOf rfl rfl rfl (by decide +kernel) ⟨Nat.le_of_ble_eq_true rfl, Nat.le_of_ble_eq_true rfl⟩) q_pr0 rfl rfl hl.1 rfl (lv_room (Nat.le_of_ble_eq_true rfl)) dX4_worked_82 ⟨Nat.le_of_ble_eq_true rfl, Nat.le_of_ble_eq_true rfl⟩) ?_
      exact W.iret hx hb hr (fun t ht hW => ⟨_, rfl, Option.some.inj h, ht⟩) (fun q hq9 => by cases hq9) dX4_worked_85
    rcases q_ite _ h with ⟨c3, h⟩ | ⟨c3, h⟩
    · refine lv_tableIn (tgt := 86) hx hb dX4_worked_13 (by rw [c3]; decide) (by rw [c3]; decide) (by rw [c3]; rfl) (by decide) ?_
      refine lv_aload_n hx hb dX4_worked_86 rfl (lv_at hl 0 rfl) ?_
      refine va_get hx hb hts hi_X4_worked_X4 hown hK hP 0 (bd_o90 cI ad F G) rfl 2 (by decide) (hts _ (List.mem_of_getElem? (i := 1) rfl)) (fun _ h9 => h9) rfl dX4_worked_87 ?_
      refine va_get hx hb hts hi_X4_worked_X3 hown hK hP 8 (bd_o22 cI ad F G) rfl 14 (by decide) (hts _ (List.mem_of_getElem? (i := 5) rfl)) (fun _ h9 => h9) rfl dX4_worked_90 ?_
      exact W.iret hx hb hr (fun t ht hW => ⟨_, rfl, Option.some.inj h, ht⟩) (fun q hq9 => by cases hq9) dX4_worked_93
    rcases q_ite _ h with ⟨c4, h⟩ | ⟨c4, h⟩
    · refine lv_tableIn (tgt := 94) hx hb dX4_worked_13 (by rw [c4]; decide) (by rw [c4]; decide) (by rw [c4]; rfl) (by decide) ?_
      refine lv_aload_n hx hb dX4_worked_94 rfl (lv_at hl 0 rfl) ?_
      refine va_get hx hb hts hi_X4_worked_X4 hown hK hP 0 (bd_o90 cI ad F G) rfl 2 (by decide) (hts _ (List.mem_of_getElem? (i := 1) rfl)) (fun _ h9 => h9) rfl dX4_worked_95 ?_
      refine va_get hx hb hts hi_X4_worked_X3 hown hK hP 8 (bd_o22 cI ad F G) rfl 15 (by decide) (hts _ (List.mem_of_getElem? (i := 6) rfl)) (fun _ h9 => h9) rfl dX4_worked_98 ?_
      exact W.iret hx hb hr (fun t ht hW => ⟨_, rfl, Option.some.inj h, ht⟩) (fun q hq9 => by cases hq9) dX4_worked_101
    rcases q_ite _ h with ⟨c5, h⟩ | ⟨c5, h⟩
    · refine lv_tableIn (tgt := 102) hx hb dX4_worked_13 (by rw [c5]; decide) (by rw [c5]; decide) (by rw [c5]; rfl) (by decide) ?_
      refine lv_aload_n hx hb dX4_worked_102 rfl (lv_at hl 0 rfl) ?_
      refine va_get hx hb hts hi_X4_worked_X4 hown hK hP 0 (bd_o90 cI ad F G) rfl 2 (by decide) (hts _ (List.mem_of_getElem? (i := 1) rfl)) (fun _ h9 => h9) rfl dX4_worked_103 ?_
      refine va_get hx hb hts hi_X4_worked_X3 hown hK hP 8 (bd_o22 cI ad F G) rfl 16 (by decide) (hts _ (List.mem_of_getElem? (i := 7) rfl)) (fun _ h9 => h9) rfl dX4_worked_106 ?_
      exact W.iret hx hb hr (fun t ht hW => ⟨_, rfl, Option.some.inj h, ht⟩) (fun q hq9 => by cases hq9) dX4_worked_109
    rcases q_ite _ h with ⟨c6, h⟩ | ⟨c6, h⟩
    · refine lv_tableIn (tgt := 110) hx hb dX4_worked_13 (by rw [c6]; decide) (by rw [c6]; decide) (by rw [c6]; rfl) (by decide) ?_
      refine lv_aload_n hx hb dX4_worked_110 rfl (lv_at hl 0 rfl) ?_
      refine va_get hx hb hts hi_X4_worked_X4 hown hK hP 0 (bd_o90 cI ad F G) rfl 2 (by decide) (hts _ (List.mem_of_getElem? (i := 1) rfl)) (fun _ h9 => h9) rfl dX4_worked_111 ?_
      refine va_get hx hb hts hi_X4_worked_X3 hown hK hP 8 (bd_o22 cI ad F G) rfl 17 (by decide) (hts _ (List.mem_of_getElem? (i := 8) rfl)) (fun _ h9 => h9) rfl dX4_worked_114 ?_
      exact W.iret hx hb hr (fun t ht hW => ⟨_, rfl, Option.some.inj h, ht⟩) (fun q hq9 => by cases hq9) dX4_worked_117
    refine lv_tableOut (tgt := 118) hx hb dX4_worked_13 (by have n0 := lv_neT (a := 0) c0 (by decide); have n1 := lv_neT (a := 1) c1 (by decide); have n2 := lv_neT (a := 2) c2 (by decide); have n3 := lv_neT (a := 3) c3 (by decide); have n4 := lv_neT (a := 4) c4 (by decide); have n5 := lv_neT (a := 5) c5 (by decide); have n6 := lv_neT (a := 6) c6 (by decide); omega) (by decide) ?_
    refine lv_iconst (v := -1) hx hb dX4_worked_118 (by decide) ?_
    exact W.iret hx hb hr (fun t ht hW => ⟨_, rfl, Option.some.inj h, ht⟩) (fun q hq9 => by cases hq9) dX4_worked_119
  · refine lv_iconst (v := -1) hx hb dX4_worked_10 (by decide) ?_
    exact W.iret hx hb hr (fun t ht hW => ⟨_, rfl, Option.some.inj h, ht⟩) (fun q hq9 => by cases hq9) dX4_worked_11
theorem hi_X4_picked_X3 : ∀ w ∈ u_ws RX3 TX3 19, w ∈ wsX4_picked := fun w h => (List.mem_cons_of_mem _ (List.mem_append_right _ h))
theorem hi_X4_picked_X4 : ∀ w ∈ u_ws RX4 TX4 4, w ∈ wsX4_picked := fun w h => (List.mem_cons_of_mem _ (List.mem_append_left _ (List.mem_append_right _ h)))
set_option maxHeartbeats 4000000 in
set_option maxRecDepth 100000 in
theorem mt_X4_picked (l : Launch) (D : va_G) (cI : ClassId) (ad : Nat → Nat) (F : Nat → Int32) (G : Nat → Nat → Int32) (x1 : Int32) (x2 : Int32) (rv : Int32) (h : f_X4_picked F G x1 x2 = some rv) : Met l yX4_picked wsX4_picked ({ frames := 1, cells := 0, slots := 0, locals := 21 } : Room) (va_Pc [.ref (ad 90), .int x1, .int x2] (bdR D cI ad F G)) (vp_Si (fun z => z = rv)) 0 0 (fun _ => False) := by
  refine Met.ofW (cc := cX4_picked) (maxL := 3) (ret := (some .int)) (by decide) rfl ?_
  intro p e s m args below meth c s₁ B hml hv
  obtain ⟨rfl, hP, hK, hN⟩ := hv
  have hx := B.exec
  have hb := B.bytes
  have hr := B.returns
  have hts := atoms_spec (ws := wsX4_picked) B.pre
  have hown : s.vm.findClass RX4 = some m.cls := findClass_of_methodNamed B.named
  have hlocks := B.notSynchronized
  have hl := lv_entry ([.ref (ad 90), .int x1, .int x2]) (n := 3) (Nat.le_of_ble_eq_true rfl)
  rw [lg_entry_eq]
  generalize (lg_sl ([.ref (ad 90), .int x1, .int x2]) ++ List.replicate (3 - (lg_sl ([.ref (ad 90), .int x1, .int x2])).length) Slot.unset).toArray = ls at hl ⊢
  have hl : lv_has ls 3 [(0, .ref (ad 90)), (1, .int (x1)), (2, .int (x2))] := hl
  refine lv_aload_n hx hb dX4_picked_0 rfl (lv_at hl 0 rfl) ?_
  refine va_get hx hb hts hi_X4_picked_X4 hown hK hP 0 (bd_o90 cI ad F G) rfl 2 (by decide) (hts _ (List.mem_of_getElem? (i := 1) rfl)) (fun _ h9 => h9) rfl dX4_picked_1 ?_
  refine lv_iload_n hx hb dX4_picked_4 rfl (lv_at hl 1 rfl) ?_
  obtain ⟨v1, hc2, h⟩ := q_some h
  refine q_cs (W.runV (C := RX3) (As := [.int (x1)]) (rest := []) ⟨hx, hb, hml, hown, hts⟩ (mt_X3_has l D cI ad F G x1 v1 hc2) (cwV 1 hts gX4_picked_X3_has rfl rfl rfl (by decide +kernel) ⟨Nat.le_of_ble_eq_true rfl, Nat.le_of_ble_eq_true rfl⟩) ⟨wyR_b, va_recv hK hP (ci := 3) (q0 := 8) rfl rfl, (wyR_p (bd_wy hP) hK hN).2⟩ rfl rfl hl.1 rfl (lv_room (Nat.le_of_ble_eq_true rfl)) dX4_picked_5 ⟨Nat.le_of_ble_eq_true rfl, Nat.le_of_ble_eq_true rfl⟩) ?_
  refine q_if_ne (tgt := 13) hx hb dX4_picked_8 (by decide) h (fun h => ?_) (fun h => ?_)
  · refine lv_iload_n hx hb dX4_picked_13 rfl (lv_at hl 2 rfl) ?_
    rcases q_ite _ h with ⟨c0, h⟩ | ⟨c0, h⟩
    · refine lv_tableIn (tgt := 52) hx hb dX4_picked_14 (by rw [c0]; decide) (by rw [c0]; decide) (by rw [c0]; rfl) (by decide) ?_
      refine lv_aload_n hx hb dX4_picked_52 rfl (lv_at hl 0 rfl) ?_
      refine va_get hx hb hts hi_X4_picked_X4 hown hK hP 0 (bd_o90 cI ad F G) rfl 2 (by decide) (hts _ (List.mem_of_getElem? (i := 1) rfl)) (fun _ h9 => h9) rfl dX4_picked_53 ?_
      refine va_get hx hb hts hi_X4_picked_X3 hown hK hP 8 (bd_o22 cI ad F G) rfl 0 (by decide) (hts _ (List.mem_of_getElem? (i := 2) rfl)) (fun _ h9 => h9) rfl dX4_picked_56 ?_
      refine lv_iload_n hx hb dX4_picked_59 rfl (lv_at hl 1 rfl) ?_
      refine q_ld hx hb hK hP 9 0 (bd_a0 cI ad F G) rfl dX4_picked_60 h (fun v3 h => ?_)
      obtain ⟨v4, hc5, h⟩ := q_some h
      refine q_cs (W.runS (As := [.int (v3)]) (rest := []) ⟨hx, hb, hml, hown, hts⟩ (mt_X4_rowOf l v3 v4 hc5) (va_cwS 1 hts gX4_picked_X4_rowOf rfl rfl rfl (by decide +kernel) ⟨Nat.le_of_ble_eq_true rfl, Nat.le_of_ble_eq_true rfl⟩) q_pr0 rfl rfl hl.1 rfl (lv_room (Nat.le_of_ble_eq_true rfl)) dX4_picked_61 ⟨Nat.le_of_ble_eq_true rfl, Nat.le_of_ble_eq_true rfl⟩) ?_
      exact W.iret hx hb hr (fun t ht hW => ⟨_, rfl, Option.some.inj h, ht⟩) (fun q hq9 => by cases hq9) dX4_picked_64
    rcases q_ite _ h with ⟨c1, h⟩ | ⟨c1, h⟩
    · refine lv_tableIn (tgt := 65) hx hb dX4_picked_14 (by rw [c1]; decide) (by rw [c1]; decide) (by rw [c1]; rfl) (by decide) ?_
      refine lv_aload_n hx hb dX4_picked_65 rfl (lv_at hl 0 rfl) ?_
      refine va_get hx hb hts hi_X4_picked_X4 hown hK hP 0 (bd_o90 cI ad F G) rfl 2 (by decide) (hts _ (List.mem_of_getElem? (i := 1) rfl)) (fun _ h9 => h9) rfl dX4_picked_66 ?_
      refine va_get hx hb hts hi_X4_picked_X3 hown hK hP 8 (bd_o22 cI ad F G) rfl 0 (by decide) (hts _ (List.mem_of_getElem? (i := 2) rfl)) (fun _ h9 => h9) rfl dX4_picked_69 ?_
      refine lv_iload_n hx hb dX4_picked_72 rfl (lv_at hl 1 rfl) ?_
      refine q_ld hx hb hK hP 9 0 (bd_a0 cI ad F G) rfl dX4_picked_73 h (fun v6 h => ?_)
      obtain ⟨v7, hc8, h⟩ := q_some h
      refine q_cs (W.runS (As := [.int (v6)]) (rest := []) ⟨hx, hb, hml, hown, hts⟩ (mt_X4_columnOf l v6 v7 hc8) (va_cwS 1 hts gX4_picked_X4_columnOf rfl rfl rfl (by decide +kernel) ⟨Nat.le_of_ble_eq_true rfl, Nat.le_of_ble_eq_true rfl⟩) q_pr0 rfl rfl hl.1 rfl (lv_room (Nat.le_of_ble_eq_true rfl)) dX4_picked_74 ⟨Nat.le_of_ble_eq_true rfl, Nat.le_of_ble_eq_true rfl⟩) ?_
      exact W.iret hx hb hr (fun t ht hW => ⟨_, rfl, Option.some.inj h, ht⟩) (fun q hq9 => by cases hq9) dX4_picked_77
    rcases q_ite _ h with ⟨c2, h⟩ | ⟨c2, h⟩
    · refine lv_tableIn (tgt := 78) hx hb dX4_picked_14 (by rw [c2]; decide) (by rw [c2]; decide) (by rw [c2]; rfl) (by decide) ?_
      refine lv_aload_n hx hb dX4_picked_78 rfl (lv_at hl 0 rfl) ?_
      refine va_get hx hb hts hi_X4_picked_X4 hown hK hP 0 (bd_o90 cI ad F G) rfl 2 (by decide) (hts _ (List.mem_of_getElem? (i := 1) rfl)) (fun _ h9 => h9) rfl dX4_picked_79 ?_
      refine va_get hx hb hts hi_X4_picked_X3 hown hK hP 8 (bd_o22 cI ad F G) rfl 2 (by decide) (hts _ (List.mem_of_getElem? (i := 3) rfl)) (fun _ h9 => h9) rfl dX4_picked_82 ?_
      refine lv_iload_n hx hb dX4_picked_85 rfl (lv_at hl 1 rfl) ?_
      refine q_ld hx hb hK hP 11 0 (bd_a2 cI ad F G) rfl dX4_picked_86 h (fun v9 h => ?_)
      exact W.iret hx hb hr (fun t ht hW => ⟨_, rfl, Option.some.inj h, ht⟩) (fun q hq9 => by cases hq9) dX4_picked_87
    rcases q_ite _ h with ⟨c3, h⟩ | ⟨c3, h⟩
    · refine lv_tableIn (tgt := 88) hx hb dX4_picked_14 (by rw [c3]; decide) (by rw [c3]; decide) (by rw [c3]; rfl) (by decide) ?_
      refine lv_aload_n hx hb dX4_picked_88 rfl (lv_at hl 0 rfl) ?_
      refine va_get hx hb hts hi_X4_picked_X4 hown hK hP 0 (bd_o90 cI ad F G) rfl 2 (by decide) (hts _ (List.mem_of_getElem? (i := 1) rfl)) (fun _ h9 => h9) rfl dX4_picked_89 ?_
      refine va_get hx hb hts hi_X4_picked_X3 hown hK hP 8 (bd_o22 cI ad F G) rfl 3 (by decide) (hts _ (List.mem_of_getElem? (i := 4) rfl)) (fun _ h9 => h9) rfl dX4_picked_92 ?_
      refine lv_iload_n hx hb dX4_picked_95 rfl (lv_at hl 1 rfl) ?_
      refine q_ld hx hb hK hP 12 0 (bd_a3 cI ad F G) rfl dX4_picked_96 h (fun v10 h => ?_)
      exact W.iret hx hb hr (fun t ht hW => ⟨_, rfl, Option.some.inj h, ht⟩) (fun q hq9 => by cases hq9) dX4_picked_97
    rcases q_ite _ h with ⟨c4, h⟩ | ⟨c4, h⟩
    · refine lv_tableIn (tgt := 98) hx hb dX4_picked_14 (by rw [c4]; decide) (by rw [c4]; decide) (by rw [c4]; rfl) (by decide) ?_
      refine lv_aload_n hx hb dX4_picked_98 rfl (lv_at hl 0 rfl) ?_
      refine va_get hx hb hts hi_X4_picked_X4 hown hK hP 0 (bd_o90 cI ad F G) rfl 2 (by decide) (hts _ (List.mem_of_getElem? (i := 1) rfl)) (fun _ h9 => h9) rfl dX4_picked_99 ?_
      refine lv_iload_n hx hb dX4_picked_102 rfl (lv_at hl 1 rfl) ?_
      obtain ⟨v11, hc12, h⟩ := q_some h
      refine q_cs (W.runV (C := RX3) (As := [.int (x1)]) (rest := []) ⟨hx, hb, hml, hown, hts⟩ (mt_X3_caughtCount l D cI ad F G x1 v11 hc12) (cwV 1 hts gX4_picked_X3_caughtCount rfl rfl rfl (by decide +kernel) ⟨Nat.le_of_ble_eq_true rfl, Nat.le_of_ble_eq_true rfl⟩) ⟨wyR_b, va_recv hK hP (ci := 3) (q0 := 8) rfl rfl, (wyR_p (bd_wy hP) hK hN).2⟩ rfl rfl hl.1 rfl (lv_room (Nat.le_of_ble_eq_true rfl)) dX4_picked_103 ⟨Nat.le_of_ble_eq_true rfl, Nat.le_of_ble_eq_true rfl⟩) ?_
      exact W.iret hx hb hr (fun t ht hW => ⟨_, rfl, Option.some.inj h, ht⟩) (fun q hq9 => by cases hq9) dX4_picked_106
    rcases q_ite _ h with ⟨c5, h⟩ | ⟨c5, h⟩
    · refine lv_tableIn (tgt := 107) hx hb dX4_picked_14 (by rw [c5]; decide) (by rw [c5]; decide) (by rw [c5]; rfl) (by decide) ?_
      refine lv_aload_n hx hb dX4_picked_107 rfl (lv_at hl 0 rfl) ?_
      refine va_get hx hb hts hi_X4_picked_X4 hown hK hP 0 (bd_o90 cI ad F G) rfl 2 (by decide) (hts _ (List.mem_of_getElem? (i := 1) rfl)) (fun _ h9 => h9) rfl dX4_picked_108 ?_
      refine va_get hx hb hts hi_X4_picked_X3 hown hK hP 8 (bd_o22 cI ad F G) rfl 1 (by decide) (hts _ (List.mem_of_getElem? (i := 5) rfl)) (fun _ h9 => h9) rfl dX4_picked_111 ?_
      refine lv_iload_n hx hb dX4_picked_114 rfl (lv_at hl 1 rfl) ?_
      refine q_ld hx hb hK hP 10 0 (bd_a1 cI ad F G) rfl dX4_picked_115 h (fun v13 h => ?_)
      exact W.iret hx hb hr (fun t ht hW => ⟨_, rfl, Option.some.inj h, ht⟩) (fun q hq9 => by cases hq9) dX4_picked_116
    refine lv_tableOut (tgt := 117) hx hb dX4_picked_14 (by have n0 := lv_neT (a := 0) c0 (by decide); have n1 := lv_neT (a := 1) c1 (by decide); have n2 := lv_neT (a := 2) c2 (by decide); have n3 := lv_neT (a := 3) c3 (by decide); have n4 := lv_neT (a := 4) c4 (by decide); have n5 := lv_neT (a := 5) c5 (by decide); omega) (by decide) ?_
    refine lv_iconst (v := -1) hx hb dX4_picked_117 (by decide) ?_
    exact W.iret hx hb hr (fun t ht hW => ⟨_, rfl, Option.some.inj h, ht⟩) (fun q hq9 => by cases hq9) dX4_picked_118
  · refine lv_iconst (v := -1) hx hb dX4_picked_11 (by decide) ?_
    exact W.iret hx hb hr (fun t ht hW => ⟨_, rfl, Option.some.inj h, ht⟩) (fun q hq9 => by cases hq9) dX4_picked_12
theorem hi_X4_order_X4 : ∀ w ∈ u_ws RX4 TX4 4, w ∈ wsX4_order := fun w h => (List.mem_cons_of_mem _ (List.mem_append_left _ (List.mem_append_right _ h)))
set_option maxHeartbeats 4000000 in
set_option maxRecDepth 100000 in
theorem mt_X4_order (l : Launch) (D : va_G) (cI : ClassId) (ad : Nat → Nat) (F : Nat → Int32) (G : Nat → Nat → Int32) (x1 : Int32) (x2 : Int32) (rv : Int32) (h : f_X4_order F G x1 x2 = some rv) : Met l yX4_order wsX4_order ({ frames := 3, cells := 0, slots := 0, locals := 65 } : Room) (va_Pc [.ref (ad 90), .int x1, .int x2] (bdR D cI ad F G)) (vp_Si (fun z => z = rv)) 0 0 (fun _ => False) := by
  refine Met.ofW (cc := cX4_order) (maxL := 3) (ret := (some .int)) (by decide) rfl ?_
  intro p e s m args below meth c s₁ B hml hv
  obtain ⟨rfl, hP, hK, hN⟩ := hv
  have hx := B.exec
  have hb := B.bytes
  have hr := B.returns
  have hts := atoms_spec (ws := wsX4_order) B.pre
  have hown : s.vm.findClass RX4 = some m.cls := findClass_of_methodNamed B.named
  have hlocks := B.notSynchronized
  have hl := lv_entry ([.ref (ad 90), .int x1, .int x2]) (n := 3) (Nat.le_of_ble_eq_true rfl)
  rw [lg_entry_eq]
  generalize (lg_sl ([.ref (ad 90), .int x1, .int x2]) ++ List.replicate (3 - (lg_sl ([.ref (ad 90), .int x1, .int x2])).length) Slot.unset).toArray = ls at hl ⊢
  have hl : lv_has ls 3 [(0, .ref (ad 90)), (1, .int (x1)), (2, .int (x2))] := hl
  refine lv_aload_n hx hb dX4_order_0 rfl (lv_at hl 0 rfl) ?_
  refine va_get hx hb hts hi_X4_order_X4 hown hK hP 0 (bd_o90 cI ad F G) rfl 2 (by decide) (hts _ (List.mem_of_getElem? (i := 1) rfl)) (fun _ h9 => h9) rfl dX4_order_1 ?_
  refine lv_iload_n hx hb dX4_order_4 rfl (lv_at hl 1 rfl) ?_
  refine lv_iload_n hx hb dX4_order_5 rfl (lv_at hl 2 rfl) ?_
  obtain ⟨v1, hc2, h⟩ := q_some h
  refine q_cs (W.runV (C := RX3) (As := [.int (x1), .int (x2)]) (rest := []) ⟨hx, hb, hml, hown, hts⟩ (mt_X3_pickAt l D cI ad F G x1 x2 v1 hc2) (cwV 2 hts gX4_order_X3_pickAt rfl rfl rfl (by decide +kernel) ⟨Nat.le_of_ble_eq_true rfl, Nat.le_of_ble_eq_true rfl⟩) ⟨wyR_b, va_recv hK hP (ci := 3) (q0 := 8) rfl rfl, (wyR_p (bd_wy hP) hK hN).2⟩ rfl rfl hl.1 rfl (lv_room (Nat.le_of_ble_eq_true rfl)) dX4_order_6 ⟨Nat.le_of_ble_eq_true rfl, Nat.le_of_ble_eq_true rfl⟩) ?_
  exact W.iret hx hb hr (fun t ht hW => ⟨_, rfl, Option.some.inj h, ht⟩) (fun q hq9 => by cases hq9) dX4_order_9
theorem hi_X4_woven_X4 : ∀ w ∈ u_ws RX4 TX4 4, w ∈ wsX4_woven := fun w h => (List.mem_cons_of_mem _ (List.mem_append_left _ (List.mem_append_right _ h)))
set_option maxHeartbeats 4000000 in
set_option maxRecDepth 100000 in
theorem mt_X4_woven (l : Launch) (D : va_G) (cI : ClassId) (ad : Nat → Nat) (F : Nat → Int32) (G : Nat → Nat → Int32) (x1 : Int32) (x2 : Int32) (rv : Int32) (h : f_X4_woven F G x1 x2 = some rv) : Met l yX4_woven wsX4_woven ({ frames := 1, cells := 0, slots := 0, locals := 22 } : Room) (va_Pc [.ref (ad 90), .int x1, .int x2] (bdR D cI ad F G)) (vp_Si (fun z => z = rv)) 0 0 (fun _ => False) := by
  refine Met.ofW (cc := cX4_woven) (maxL := 3) (ret := (some .int)) (by decide) rfl ?_
  intro p e s m args below meth c s₁ B hml hv
  obtain ⟨rfl, hP, hK, hN⟩ := hv
  have hx := B.exec
  have hb := B.bytes
  have hr := B.returns
  have hts := atoms_spec (ws := wsX4_woven) B.pre
  have hown : s.vm.findClass RX4 = some m.cls := findClass_of_methodNamed B.named
  have hlocks := B.notSynchronized
  have hl := lv_entry ([.ref (ad 90), .int x1, .int x2]) (n := 3) (Nat.le_of_ble_eq_true rfl)
  rw [lg_entry_eq]
  generalize (lg_sl ([.ref (ad 90), .int x1, .int x2]) ++ List.replicate (3 - (lg_sl ([.ref (ad 90), .int x1, .int x2])).length) Slot.unset).toArray = ls at hl ⊢
  have hl : lv_has ls 3 [(0, .ref (ad 90)), (1, .int (x1)), (2, .int (x2))] := hl
  refine lv_aload_n hx hb dX4_woven_0 rfl (lv_at hl 0 rfl) ?_
  refine va_get hx hb hts hi_X4_woven_X4 hown hK hP 0 (bd_o90 cI ad F G) rfl 2 (by decide) (hts _ (List.mem_of_getElem? (i := 1) rfl)) (fun _ h9 => h9) rfl dX4_woven_1 ?_
  refine lv_iload_n hx hb dX4_woven_4 rfl (lv_at hl 1 rfl) ?_
  refine lv_iload_n hx hb dX4_woven_5 rfl (lv_at hl 2 rfl) ?_
  obtain ⟨v1, hc2, h⟩ := q_some h
  refine q_cs (W.runV (C := RX3) (As := [.int (x1), .int (x2)]) (rest := []) ⟨hx, hb, hml, hown, hts⟩ (mt_X3_wovenIn l D cI ad F G x1 x2 v1 hc2) (cwV 2 hts gX4_woven_X3_wovenIn rfl rfl rfl (by decide +kernel) ⟨Nat.le_of_ble_eq_true rfl, Nat.le_of_ble_eq_true rfl⟩) ⟨wyR_b, va_recv hK hP (ci := 3) (q0 := 8) rfl rfl, (wyR_p (bd_wy hP) hK hN).2⟩ rfl rfl hl.1 rfl (lv_room (Nat.le_of_ble_eq_true rfl)) dX4_woven_6 ⟨Nat.le_of_ble_eq_true rfl, Nat.le_of_ble_eq_true rfl⟩) ?_
  exact W.iret hx hb hr (fun t ht hW => ⟨_, rfl, Option.some.inj h, ht⟩) (fun q hq9 => by cases hq9) dX4_woven_9
theorem hi_X4_bought_X0 : ∀ w ∈ u_ws RX0 TX0 8, w ∈ wsX4_bought := fun w h => (List.mem_cons_of_mem _ (List.mem_append_right _ h))
theorem hi_X4_bought_X4 : ∀ w ∈ u_ws RX4 TX4 4, w ∈ wsX4_bought := fun w h => (List.mem_cons_of_mem _ (List.mem_append_left _ (List.mem_append_right _ h)))
set_option maxHeartbeats 4000000 in
set_option maxRecDepth 100000 in
theorem mt_X4_bought (l : Launch) (D : va_G) (cI : ClassId) (ad : Nat → Nat) (F : Nat → Int32) (G : Nat → Nat → Int32) (x1 : Int32) (x2 : Int32) (rv : Int32) (h : f_X4_bought F G x1 x2 = some rv) : Met l yX4_bought wsX4_bought ({ frames := 2, cells := 0, slots := 0, locals := 44 } : Room) (va_Pc [.ref (ad 90), .int x1, .int x2] (bdR D cI ad F G)) (vp_Si (fun z => z = rv)) 0 0 (fun _ => False) := by
  refine Met.ofW (cc := cX4_bought) (maxL := 5) (ret := (some .int)) (by decide) rfl ?_
  intro p e s m args below meth c s₁ B hml hv
  obtain ⟨rfl, hP, hK, hN⟩ := hv
  have hx := B.exec
  have hb := B.bytes
  have hr := B.returns
  have hts := atoms_spec (ws := wsX4_bought) B.pre
  have hown : s.vm.findClass RX4 = some m.cls := findClass_of_methodNamed B.named
  have hlocks := B.notSynchronized
  have hl := lv_entry ([.ref (ad 90), .int x1, .int x2]) (n := 5) (Nat.le_of_ble_eq_true rfl)
  rw [lg_entry_eq]
  generalize (lg_sl ([.ref (ad 90), .int x1, .int x2]) ++ List.replicate (5 - (lg_sl ([.ref (ad 90), .int x1, .int x2])).length) Slot.unset).toArray = ls at hl ⊢
  have hl : lv_has ls 5 [(0, .ref (ad 90)), (1, .int (x1)), (2, .int (x2))] := hl
  refine lv_iload_n hx hb dX4_bought_0 rfl (lv_at hl 1 rfl) ?_
  obtain ⟨v1, hc2, h⟩ := q_some h
  refine q_cs (W.runS (As := [.int (x1)]) (rest := []) ⟨hx, hb, hml, hown, hts⟩ (mt_X4_isColour l x1 v1 hc2) (va_cwS 1 hts gX4_bought_X4_isColour rfl rfl rfl (by decide +kernel) ⟨Nat.le_of_ble_eq_true rfl, Nat.le_of_ble_eq_true rfl⟩) q_pr0 rfl rfl hl.1 rfl (lv_room (Nat.le_of_ble_eq_true rfl)) dX4_bought_1 ⟨Nat.le_of_ble_eq_true rfl, Nat.le_of_ble_eq_true rfl⟩) ?_
  refine q_if_eq (tgt := 18) hx hb dX4_bought_4 (by decide) h (fun h => ?_) (fun h => ?_)
  · refine lv_iconst (v := -1) hx hb dX4_bought_18 (by decide) ?_
    exact W.iret hx hb hr (fun t ht hW => ⟨_, rfl, Option.some.inj h, ht⟩) (fun q hq9 => by cases hq9) dX4_bought_19
  · refine lv_iload_n hx hb dX4_bought_7 rfl (lv_at hl 2 rfl) ?_
    refine lv_iconst (v := 1) hx hb dX4_bought_8 (by decide) ?_
    refine lv_sipush (v := 1000) hx hb dX4_bought_9 (by decide) ?_
    obtain ⟨v3, hc4, h⟩ := q_some h
    refine q_cs (W.runS (As := [.int (x2), .int ((1 : Int32)), .int ((1000 : Int32))]) (rest := []) ⟨hx, hb, hml, hown, hts⟩ (mt_X4_isWithin l x2 (1 : Int32) (1000 : Int32) v3 hc4) (va_cwS 3 hts gX4_bought_X4_isWithin rfl rfl rfl (by decide +kernel) ⟨Nat.le_of_ble_eq_true rfl, Nat.le_of_ble_eq_true rfl⟩) q_pr0 rfl rfl hl.1 rfl (lv_room (Nat.le_of_ble_eq_true rfl)) dX4_bought_12 ⟨Nat.le_of_ble_eq_true rfl, Nat.le_of_ble_eq_true rfl⟩) ?_
    refine q_if_ne (tgt := 20) hx hb dX4_bought_15 (by decide) h (fun h => ?_) (fun h => ?_)
    · refine lv_aload_n hx hb dX4_bought_20 rfl (lv_at hl 0 rfl) ?_
      refine va_get hx hb hts hi_X4_bought_X4 hown hK hP 0 (bd_o90 cI ad F G) rfl 0 (by decide) (hts _ (List.mem_of_getElem? (i := 1) rfl)) (fun _ h9 => h9) rfl dX4_bought_21 ?_
      refine lv_iload_n hx hb dX4_bought_24 rfl (lv_at hl 1 rfl) ?_
      obtain ⟨v5, hc6, h⟩ := q_some h
      refine q_cs (W.runV (C := RX0) (As := [.int (x1)]) (rest := []) ⟨hx, hb, hml, hown, hts⟩ (mt_X0_beadsOfColour l D cI ad F G x1 v5 hc6) (cwV 1 hts gX4_bought_X0_beadsOfColour rfl rfl rfl (by decide +kernel) ⟨Nat.le_of_ble_eq_true rfl, Nat.le_of_ble_eq_true rfl⟩) ⟨chR_b, va_recv hK hP (ci := 0) (q0 := 1) rfl rfl, (chR_p (bd_ch hP) hK hN).2⟩ rfl rfl hl.1 rfl (lv_room (Nat.le_of_ble_eq_true rfl)) dX4_bought_25 ⟨Nat.le_of_ble_eq_true rfl, Nat.le_of_ble_eq_true rfl⟩) ?_
      refine lv_aload_n hx hb dX4_bought_28 rfl (lv_at hl 0 rfl) ?_
      refine va_get hx hb hts hi_X4_bought_X4 hown hK hP 0 (bd_o90 cI ad F G) rfl 0 (by decide) (hts _ (List.mem_of_getElem? (i := 1) rfl)) (fun _ h9 => h9) rfl dX4_bought_29 ?_
      refine va_get hx hb hts hi_X4_bought_X0 hown hK hP 1 (bd_o38 cI ad F G) rfl 3 (by decide) (hts _ (List.mem_of_getElem? (i := 2) rfl)) (fun _ h9 => h9) rfl dX4_bought_32 ?_
      refine lv_iload_n hx hb dX4_bought_35 rfl (lv_at hl 1 rfl) ?_
      refine q_ld hx hb hK hP 5 0 (bd_a33 cI ad F G) rfl dX4_bought_36 h (fun v7 h => ?_)
      refine lv_imul hx hb dX4_bought_37 ?_
      refine q_nm h (fun v8 h => ?_)
      refine lv_istore_n (lv' := [(3, .int (v8)), (0, .ref (ad 90)), (1, .int (x1)), (2, .int (x2))]) hx hb dX4_bought_38 rfl hl (by decide) rfl (fun ls hl => ?_)
      refine lv_iload_n hx hb dX4_bought_39 rfl (lv_at hl 3 rfl) ?_
      refine lv_sipush (v := 1000) hx hb dX4_bought_40 (by decide) ?_
      refine lv_imul hx hb dX4_bought_43 ?_
      refine q_nm h (fun v9 h => ?_)
      refine lv_istore (lv' := [(4, .int (v9)), (3, .int (v8)), (0, .ref (ad 90)), (1, .int (x1)), (2, .int (x2))]) hx hb dX4_bought_44 hl (by decide) rfl (fun ls hl => ?_)
      refine lv_iload_n hx hb dX4_bought_46 rfl (lv_at hl 1 rfl) ?_
      refine lv_iload hx hb dX4_bought_47 (lv_at hl 0 rfl) ?_
      refine lv_iadd hx hb dX4_bought_49 ?_
      refine lv_iconst (v := 1) hx hb dX4_bought_50 (by decide) ?_
      refine lv_isub hx hb dX4_bought_51 ?_
      refine lv_iload hx hb dX4_bought_52 (lv_at hl 0 rfl) ?_
      obtain ⟨hne, h⟩ := q_dv h
      refine lv_idiv hx hb dX4_bought_54 hne ?_
      exact W.iret hx hb hr (fun t ht hW => ⟨_, rfl, Option.some.inj h, ht⟩) (fun q hq9 => by cases hq9) dX4_bought_55
    · refine lv_iconst (v := -1) hx hb dX4_bought_18 (by decide) ?_
      exact W.iret hx hb hr (fun t ht hW => ⟨_, rfl, Option.some.inj h, ht⟩) (fun q hq9 => by cases hq9) dX4_bought_19
theorem hi_X4_count_X0 : ∀ w ∈ u_ws RX0 TX0 8, w ∈ wsX4_count := fun w h => (List.mem_cons_of_mem _ (List.mem_append_left _ (List.mem_append_right _ h)))
theorem hi_X4_count_X3 : ∀ w ∈ u_ws RX3 TX3 19, w ∈ wsX4_count := fun w h => (List.mem_cons_of_mem _ (List.mem_append_right _ h))
theorem hi_X4_count_X4 : ∀ w ∈ u_ws RX4 TX4 4, w ∈ wsX4_count := fun w h => (List.mem_cons_of_mem _ (List.mem_append_left _ (List.mem_append_left _ (List.mem_append_right _ h))))
set_option maxHeartbeats 4000000 in
set_option maxRecDepth 100000 in
theorem mt_X4_count (l : Launch) (D : va_G) (cI : ClassId) (ad : Nat → Nat) (F : Nat → Int32) (G : Nat → Nat → Int32) (x1 : Int32) (rv : Int32) (h : f_X4_count F G x1 = some rv) : Met l yX4_count wsX4_count ({ frames := 5, cells := 0, slots := 0, locals := 110 } : Room) (va_Pc [.ref (ad 90), .int x1] (bdR D cI ad F G)) (vp_Si (fun z => z = rv)) 0 0 (fun _ => False) := by
  refine Met.ofW (cc := cX4_count) (maxL := 2) (ret := (some .int)) (by decide) rfl ?_
  intro p e s m args below meth c s₁ B hml hv
  obtain ⟨rfl, hP, hK, hN⟩ := hv
  have hx := B.exec
  have hb := B.bytes
  have hr := B.returns
  have hts := atoms_spec (ws := wsX4_count) B.pre
  have hown : s.vm.findClass RX4 = some m.cls := findClass_of_methodNamed B.named
  have hlocks := B.notSynchronized
  have hl := lv_entry ([.ref (ad 90), .int x1]) (n := 2) (Nat.le_of_ble_eq_true rfl)
  rw [lg_entry_eq]
  generalize (lg_sl ([.ref (ad 90), .int x1]) ++ List.replicate (2 - (lg_sl ([.ref (ad 90), .int x1])).length) Slot.unset).toArray = ls at hl ⊢
  have hl : lv_has ls 2 [(0, .ref (ad 90)), (1, .int (x1))] := hl
  refine lv_iload_n hx hb dX4_count_0 rfl (lv_at hl 1 rfl) ?_
  refine lv_bipush (v := 10) hx hb dX4_count_1 (by decide) ?_
  refine lv_isub hx hb dX4_count_3 ?_
  obtain ⟨v1, hc2, h⟩ := q_some h
  refine q_cs (W.runS (As := [.int ((x1 - (10 : Int32)))]) (rest := []) ⟨hx, hb, hml, hown, hts⟩ (mt_X4_isColour l ((x1 - (10 : Int32))) v1 hc2) (va_cwS 1 hts gX4_count_X4_isColour rfl rfl rfl (by decide +kernel) ⟨Nat.le_of_ble_eq_true rfl, Nat.le_of_ble_eq_true rfl⟩) q_pr0 rfl rfl hl.1 rfl (lv_room (Nat.le_of_ble_eq_true rfl)) dX4_count_4 ⟨Nat.le_of_ble_eq_true rfl, Nat.le_of_ble_eq_true rfl⟩) ?_
  refine q_if_eq (tgt := 22) hx hb dX4_count_7 (by decide) h (fun h => ?_) (fun h => ?_)
  · refine lv_iload_n hx hb dX4_count_22 rfl (lv_at hl 1 rfl) ?_
    refine lv_bipush (v := 20) hx hb dX4_count_23 (by decide) ?_
    refine lv_isub hx hb dX4_count_25 ?_
    obtain ⟨v3, hc4, h⟩ := q_some h
    refine q_cs (W.runS (As := [.int ((x1 - (20 : Int32)))]) (rest := []) ⟨hx, hb, hml, hown, hts⟩ (mt_X4_isColour l ((x1 - (20 : Int32))) v3 hc4) (va_cwS 1 hts gX4_count_X4_isColour rfl rfl rfl (by decide +kernel) ⟨Nat.le_of_ble_eq_true rfl, Nat.le_of_ble_eq_true rfl⟩) q_pr0 rfl rfl hl.1 rfl (lv_room (Nat.le_of_ble_eq_true rfl)) dX4_count_26 ⟨Nat.le_of_ble_eq_true rfl, Nat.le_of_ble_eq_true rfl⟩) ?_
    refine q_if_eq (tgt := 45) hx hb dX4_count_29 (by decide) h (fun h => ?_) (fun h => ?_)
    · refine lv_iload_n hx hb dX4_count_45 rfl (lv_at hl 1 rfl) ?_
      rcases q_ite _ h with ⟨c0, h⟩ | ⟨c0, h⟩
      · refine lv_tableIn (tgt := 88) hx hb dX4_count_46 (by rw [c0]; decide) (by rw [c0]; decide) (by rw [c0]; rfl) (by decide) ?_
        refine lv_aload_n hx hb dX4_count_88 rfl (lv_at hl 0 rfl) ?_
        refine va_get hx hb hts hi_X4_count_X4 hown hK hP 0 (bd_o90 cI ad F G) rfl 0 (by decide) (hts _ (List.mem_of_getElem? (i := 1) rfl)) (fun _ h9 => h9) rfl dX4_count_89 ?_
        obtain ⟨v5, hc6, h⟩ := q_some h
        refine q_cs (W.runV (C := RX0) (As := []) (rest := []) ⟨hx, hb, hml, hown, hts⟩ (mt_X0_allBeads l D cI ad F G  v5 hc6) (cwV 0 hts gX4_count_X0_allBeads rfl rfl rfl (by decide +kernel) ⟨Nat.le_of_ble_eq_true rfl, Nat.le_of_ble_eq_true rfl⟩) ⟨chR_b, va_recv hK hP (ci := 0) (q0 := 1) rfl rfl, (chR_p (bd_ch hP) hK hN).2⟩ rfl rfl hl.1 rfl (lv_room (Nat.le_of_ble_eq_true rfl)) dX4_count_92 ⟨Nat.le_of_ble_eq_true rfl, Nat.le_of_ble_eq_true rfl⟩) ?_
        exact W.iret hx hb hr (fun t ht hW => ⟨_, rfl, Option.some.inj h, ht⟩) (fun q hq9 => by cases hq9) dX4_count_95
      rcases q_ite _ h with ⟨c1, h⟩ | ⟨c1, h⟩
      · refine lv_tableIn (tgt := 96) hx hb dX4_count_46 (by rw [c1]; decide) (by rw [c1]; decide) (by rw [c1]; rfl) (by decide) ?_
        refine lv_aload_n hx hb dX4_count_96 rfl (lv_at hl 0 rfl) ?_
        refine va_get hx hb hts hi_X4_count_X4 hown hK hP 0 (bd_o90 cI ad F G) rfl 0 (by decide) (hts _ (List.mem_of_getElem? (i := 1) rfl)) (fun _ h9 => h9) rfl dX4_count_97 ?_
        obtain ⟨v7, hc8, h⟩ := q_some h
        refine q_cs (W.runV (C := RX0) (As := []) (rest := []) ⟨hx, hb, hml, hown, hts⟩ (mt_X0_rowsWithBeads l D cI ad F G  v7 hc8) (cwV 0 hts gX4_count_X0_rowsWithBeads rfl rfl rfl (by decide +kernel) ⟨Nat.le_of_ble_eq_true rfl, Nat.le_of_ble_eq_true rfl⟩) ⟨chR_b, va_recv hK hP (ci := 0) (q0 := 1) rfl rfl, (chR_p (bd_ch hP) hK hN).2⟩ rfl rfl hl.1 rfl (lv_room (Nat.le_of_ble_eq_true rfl)) dX4_count_100 ⟨Nat.le_of_ble_eq_true rfl, Nat.le_of_ble_eq_true rfl⟩) ?_
        exact W.iret hx hb hr (fun t ht hW => ⟨_, rfl, Option.some.inj h, ht⟩) (fun q hq9 => by cases hq9) dX4_count_103
      rcases q_ite _ h with ⟨c2, h⟩ | ⟨c2, h⟩
      · refine lv_tableIn (tgt := 104) hx hb dX4_count_46 (by rw [c2]; decide) (by rw [c2]; decide) (by rw [c2]; rfl) (by decide) ?_
        refine lv_aload_n hx hb dX4_count_104 rfl (lv_at hl 0 rfl) ?_
        refine va_get hx hb hts hi_X4_count_X4 hown hK hP 0 (bd_o90 cI ad F G) rfl 0 (by decide) (hts _ (List.mem_of_getElem? (i := 1) rfl)) (fun _ h9 => h9) rfl dX4_count_105 ?_
        refine va_get hx hb hts hi_X4_count_X0 hown hK hP 1 (bd_o38 cI ad F G) rfl 4 (by decide) (hts _ (List.mem_of_getElem? (i := 3) rfl)) (fun _ h9 => h9) rfl dX4_count_108 ?_
        exact W.iret hx hb hr (fun t ht hW => ⟨_, rfl, Option.some.inj h, ht⟩) (fun q hq9 => by cases hq9) dX4_count_111
      rcases q_ite _ h with ⟨c3, h⟩ | ⟨c3, h⟩
      · refine lv_tableIn (tgt := 112) hx hb dX4_count_46 (by rw [c3]; decide) (by rw [c3]; decide) (by rw [c3]; rfl) (by decide) ?_
        refine lv_aload_n hx hb dX4_count_112 rfl (lv_at hl 0 rfl) ?_
        refine va_get hx hb hts hi_X4_count_X4 hown hK hP 0 (bd_o90 cI ad F G) rfl 0 (by decide) (hts _ (List.mem_of_getElem? (i := 1) rfl)) (fun _ h9 => h9) rfl dX4_count_113 ?_
        refine va_get hx hb hts hi_X4_count_X0 hown hK hP 1 (bd_o38 cI ad F G) rfl 5 (by decide) (hts _ (List.mem_of_getElem? (i := 4) rfl)) (fun _ h9 => h9) rfl dX4_count_116 ?_
        exact W.iret hx hb hr (fun t ht hW => ⟨_, rfl, Option.some.inj h, ht⟩) (fun q hq9 => by cases hq9) dX4_count_119
      rcases q_ite _ h with ⟨c4, h⟩ | ⟨c4, h⟩
      · refine lv_tableIn (tgt := 120) hx hb dX4_count_46 (by rw [c4]; decide) (by rw [c4]; decide) (by rw [c4]; rfl) (by decide) ?_
        refine lv_aload_n hx hb dX4_count_120 rfl (lv_at hl 0 rfl) ?_
        refine va_get hx hb hts hi_X4_count_X4 hown hK hP 0 (bd_o90 cI ad F G) rfl 0 (by decide) (hts _ (List.mem_of_getElem? (i := 1) rfl)) (fun _ h9 => h9) rfl dX4_count_121 ?_
        refine va_get hx hb hts hi_X4_count_X0 hown hK hP 1 (bd_o38 cI ad F G) rfl 6 (by decide) (hts _ (List.mem_of_getElem? (i := 5) rfl)) (fun _ h9 => h9) rfl dX4_count_124 ?_
        exact W.iret hx hb hr (fun t ht hW => ⟨_, rfl, Option.some.inj h, ht⟩) (fun q hq9 => by cases hq9) dX4_count_127
      rcases q_ite _ h with ⟨c5, h⟩ | ⟨c5, h⟩
      · refine lv_tableIn (tgt := 128) hx hb dX4_count_46 (by rw [c5]; decide) (by rw [c5]; decide) (by rw [c5]; rfl) (by decide) ?_
        refine lv_aload_n hx hb dX4_count_128 rfl (lv_at hl 0 rfl) ?_
        refine va_get hx hb hts hi_X4_count_X4 hown hK hP 0 (bd_o90 cI ad F G) rfl 0 (by decide) (hts _ (List.mem_of_getElem? (i := 1) rfl)) (fun _ h9 => h9) rfl dX4_count_129 ?_
        refine va_get hx hb hts hi_X4_count_X0 hown hK hP 1 (bd_o38 cI ad F G) rfl 7 (by decide) (hts _ (List.mem_of_getElem? (i := 6) rfl)) (fun _ h9 => h9) rfl dX4_count_132 ?_
        exact W.iret hx hb hr (fun t ht hW => ⟨_, rfl, Option.some.inj h, ht⟩) (fun q hq9 => by cases hq9) dX4_count_135
      rcases q_ite _ h with ⟨c6, h⟩ | ⟨c6, h⟩
      · refine lv_tableIn (tgt := 136) hx hb dX4_count_46 (by rw [c6]; decide) (by rw [c6]; decide) (by rw [c6]; rfl) (by decide) ?_
        refine lv_aload_n hx hb dX4_count_136 rfl (lv_at hl 0 rfl) ?_
        refine va_get hx hb hts hi_X4_count_X4 hown hK hP 0 (bd_o90 cI ad F G) rfl 2 (by decide) (hts _ (List.mem_of_getElem? (i := 7) rfl)) (fun _ h9 => h9) rfl dX4_count_137 ?_
        refine va_get hx hb hts hi_X4_count_X3 hown hK hP 8 (bd_o22 cI ad F G) rfl 11 (by decide) (hts _ (List.mem_of_getElem? (i := 8) rfl)) (fun _ h9 => h9) rfl dX4_count_140 ?_
        exact W.iret hx hb hr (fun t ht hW => ⟨_, rfl, Option.some.inj h, ht⟩) (fun q hq9 => by cases hq9) dX4_count_143
      refine lv_tableOut (tgt := 144) hx hb dX4_count_46 (by have n0 := lv_neT (a := 0) c0 (by decide); have n1 := lv_neT (a := 1) c1 (by decide); have n2 := lv_neT (a := 2) c2 (by decide); have n3 := lv_neT (a := 3) c3 (by decide); have n4 := lv_neT (a := 4) c4 (by decide); have n5 := lv_neT (a := 5) c5 (by decide); have n6 := lv_neT (a := 6) c6 (by decide); omega) (by decide) ?_
      refine lv_iconst (v := -1) hx hb dX4_count_144 (by decide) ?_
      exact W.iret hx hb hr (fun t ht hW => ⟨_, rfl, Option.some.inj h, ht⟩) (fun q hq9 => by cases hq9) dX4_count_145
    · refine lv_aload_n hx hb dX4_count_32 rfl (lv_at hl 0 rfl) ?_
      refine va_get hx hb hts hi_X4_count_X4 hown hK hP 0 (bd_o90 cI ad F G) rfl 0 (by decide) (hts _ (List.mem_of_getElem? (i := 1) rfl)) (fun _ h9 => h9) rfl dX4_count_33 ?_
      refine va_get hx hb hts hi_X4_count_X0 hown hK hP 1 (bd_o38 cI ad F G) rfl 1 (by decide) (hts _ (List.mem_of_getElem? (i := 2) rfl)) (fun _ h9 => h9) rfl dX4_count_36 ?_
      refine lv_iload_n hx hb dX4_count_39 rfl (lv_at hl 1 rfl) ?_
      refine lv_bipush (v := 20) hx hb dX4_count_40 (by decide) ?_
      refine lv_isub hx hb dX4_count_42 ?_
      refine q_ld hx hb hK hP 3 0 (bd_a31 cI ad F G) rfl dX4_count_43 h (fun v9 h => ?_)
      exact W.iret hx hb hr (fun t ht hW => ⟨_, rfl, Option.some.inj h, ht⟩) (fun q hq9 => by cases hq9) dX4_count_44
  · refine lv_aload_n hx hb dX4_count_10 rfl (lv_at hl 0 rfl) ?_
    refine va_get hx hb hts hi_X4_count_X4 hown hK hP 0 (bd_o90 cI ad F G) rfl 0 (by decide) (hts _ (List.mem_of_getElem? (i := 1) rfl)) (fun _ h9 => h9) rfl dX4_count_11 ?_
    refine lv_iload_n hx hb dX4_count_14 rfl (lv_at hl 1 rfl) ?_
    refine lv_bipush (v := 10) hx hb dX4_count_15 (by decide) ?_
    refine lv_isub hx hb dX4_count_17 ?_
    obtain ⟨v10, hc11, h⟩ := q_some h
    refine q_cs (W.runV (C := RX0) (As := [.int ((x1 - (10 : Int32)))]) (rest := []) ⟨hx, hb, hml, hown, hts⟩ (mt_X0_beadsOfColour l D cI ad F G ((x1 - (10 : Int32))) v10 hc11) (cwV 1 hts gX4_count_X0_beadsOfColour rfl rfl rfl (by decide +kernel) ⟨Nat.le_of_ble_eq_true rfl, Nat.le_of_ble_eq_true rfl⟩) ⟨chR_b, va_recv hK hP (ci := 0) (q0 := 1) rfl rfl, (chR_p (bd_ch hP) hK hN).2⟩ rfl rfl hl.1 rfl (lv_room (Nat.le_of_ble_eq_true rfl)) dX4_count_18 ⟨Nat.le_of_ble_eq_true rfl, Nat.le_of_ble_eq_true rfl⟩) ?_
    exact W.iret hx hb hr (fun t ht hW => ⟨_, rfl, Option.some.inj h, ht⟩) (fun q hq9 => by cases hq9) dX4_count_21
theorem hi_X4_beads_X4 : ∀ w ∈ u_ws RX4 TX4 4, w ∈ wsX4_beads := fun w h => (List.mem_cons_of_mem _ (List.mem_append_left _ (List.mem_append_right _ h)))
set_option maxHeartbeats 4000000 in
set_option maxRecDepth 100000 in
theorem mt_X4_beads (l : Launch) (D : va_G) (cI : ClassId) (ad : Nat → Nat) (F : Nat → Int32) (G : Nat → Nat → Int32) (x1 : Int32) (x2 : Int32) (x3 : Int32) (x4 : Int64) (rv : Int32) (Fz : Nat → Int32) (Gz : Nat → Nat → Int32) (hDD : va_D (fun _ => True) (bdW cI ad (fun _ => 0) (fun _ _ => 0))) (h : f_X4_beads F G x1 x2 x3 x4 = some (rv, Fz, Gz)) : Met l yX4_beads wsX4_beads ({ frames := 3, cells := 0, slots := 0, locals := 66 } : Room) (va_Pc [.ref (ad 90), .int x1, .int x2, .int x3, .long x4] (bdR D cI ad F G)) (va_Qi (fun z (_ : Unit) => z = rv) (fun _ t => va_P D vwCl (bdW cI ad Fz Gz) t.heap) (bdA cI ad)) 0 0 (bdA cI ad) := by
  refine Met.ofW (cc := cX4_beads) (maxL := 6) (ret := (some .boolean)) (by decide) rfl ?_
  intro p e s m args below meth c s₁ B hml hv
  obtain ⟨rfl, hP, hK, hN⟩ := hv
  have hx := B.exec
  have hb := B.bytes
  have hr := B.returns
  have hts := atoms_spec (ws := wsX4_beads) B.pre
  have hown : s.vm.findClass RX4 = some m.cls := findClass_of_methodNamed B.named
  have hlocks := B.notSynchronized
  have hS : va_S (bdA cI ad) s.heap s.heap [] := va_S.rf
  have hl := lv_entry ([.ref (ad 90), .int x1, .int x2, .int x3, .long x4]) (n := 6) (Nat.le_of_ble_eq_true rfl)
  rw [lg_entry_eq]
  generalize (lg_sl ([.ref (ad 90), .int x1, .int x2, .int x3, .long x4]) ++ List.replicate (6 - (lg_sl ([.ref (ad 90), .int x1, .int x2, .int x3, .long x4])).length) Slot.unset).toArray = ls at hl ⊢
  have hl : lv_has ls 6 [(0, .ref (ad 90)), (1, .int (x1)), (2, .int (x2)), (3, .int (x3)), (4, .long (x4))] := hl
  refine lv_aload_n hx hb dX4_beads_0 rfl (lv_at hl 0 rfl) ?_
  refine va_get hx hb hts hi_X4_beads_X4 hown hK hP 0 (bd_o90 cI ad F G) rfl 0 (by decide) (hts _ (List.mem_of_getElem? (i := 1) rfl)) (fun _ h9 => h9) rfl dX4_beads_1 ?_
  refine lv_iload_n hx hb dX4_beads_4 rfl (lv_at hl 1 rfl) ?_
  refine lv_iload_n hx hb dX4_beads_5 rfl (lv_at hl 2 rfl) ?_
  refine lv_iload_n hx hb dX4_beads_6 rfl (lv_at hl 3 rfl) ?_
  obtain ⟨v1, hc2, h⟩ := q_some h
  refine q_cs (W.runV (C := RX0) (As := [.int (x1), .int (x2), .int (x3)]) (rest := []) ⟨hx, hb, hml, hown, hts⟩ (mt_X0_holdsRun l D cI ad F G x1 x2 x3 v1 hc2) (cwV 3 hts gX4_beads_X0_holdsRun rfl rfl rfl (by decide +kernel) ⟨Nat.le_of_ble_eq_true rfl, Nat.le_of_ble_eq_true rfl⟩) ⟨chR_b, va_recv hK hP (ci := 0) (q0 := 1) rfl rfl, (chR_p (bd_ch hP) hK hN).2⟩ rfl rfl hl.1 rfl (lv_room (Nat.le_of_ble_eq_true rfl)) dX4_beads_7 ⟨Nat.le_of_ble_eq_true rfl, Nat.le_of_ble_eq_true rfl⟩) ?_
  refine q_if_ne (tgt := 15) hx hb dX4_beads_10 (by decide) h (fun h => ?_) (fun h => ?_)
  · refine lv_aload_n hx hb dX4_beads_15 rfl (lv_at hl 0 rfl) ?_
    refine va_get hx hb hts hi_X4_beads_X4 hown hK hP 0 (bd_o90 cI ad F G) rfl 0 (by decide) (hts _ (List.mem_of_getElem? (i := 1) rfl)) (fun _ h9 => h9) rfl dX4_beads_16 ?_
    refine lv_iload_n hx hb dX4_beads_19 rfl (lv_at hl 1 rfl) ?_
    refine lv_iload_n hx hb dX4_beads_20 rfl (lv_at hl 2 rfl) ?_
    refine lv_iload_n hx hb dX4_beads_21 rfl (lv_at hl 3 rfl) ?_
    refine lv_lload hx hb dX4_beads_22 (lv_at hl 4 rfl) ?_
    obtain ⟨⟨F4, G5⟩, hc6, h⟩ := q_some h
    refine q_sv (Wd := fun y z => bdW cI ad y z) (va_runV (C := RX0) (As := [.int (x1), .int (x2), .int (x3), .long (x4)]) (rest := []) ⟨hx, hb, hml, hown, hts⟩ (mt_X0_putRun l D cI ad F G x1 x2 x3 x4 F4 G5 (bd_ch_D hDD) hc6) (cwV 4 hts gX4_beads_X0_putRun rfl rfl rfl (by decide +kernel) ⟨Nat.le_of_ble_eq_true rfl, Nat.le_of_ble_eq_true rfl⟩) ⟨chR_b, va_recv hK hP (ci := 0) (q0 := 1) rfl rfl, (chR_p (bd_ch hP) hK hN).2⟩ rfl rfl hl.1 rfl (lv_room (Nat.le_of_ble_eq_true rfl)) dX4_beads_24 ⟨Nat.le_of_ble_eq_true rfl, Nat.le_of_ble_eq_true rfl⟩) (bd_ch_A) hS (fun H1 hB hk => bd_ch_back hDD hP hk hB) h (fun F7 G8 H locs h hP hS => ?_)
    refine lv_iconst (v := 1) hx hb dX4_beads_27 (by decide) ?_
    have e1 := congrArg Prod.fst (Option.some.inj h)
    have e2 := congrArg (fun z => z.2.1) (Option.some.inj h)
    have e3 := congrArg (fun z => z.2.2) (Option.some.inj h)
    dsimp only at e1 e2 e3
    exact W.zret hx hb hr rfl (fun t ht hW => ⟨⟨_, (), rfl, e1, by show va_P D vwCl _ t.heap; rw [ht, ← e2, ← e3]; exact hP⟩, hS.F ht⟩) hS.2.2 dX4_beads_28
  · refine lv_iconst (v := 0) hx hb dX4_beads_13 (by decide) ?_
    have e1 := congrArg Prod.fst (Option.some.inj h)
    have e2 := congrArg (fun z => z.2.1) (Option.some.inj h)
    have e3 := congrArg (fun z => z.2.2) (Option.some.inj h)
    dsimp only at e1 e2 e3
    exact W.zret hx hb hr rfl (fun t ht hW => ⟨⟨_, (), rfl, e1, by show va_P D vwCl _ t.heap; rw [ht, ← e2, ← e3]; exact hP⟩, hS.F ht⟩) hS.2.2 dX4_beads_14
theorem hi_X4_stitch_X0 : ∀ w ∈ u_ws RX0 TX0 8, w ∈ wsX4_stitch := fun w h => (List.mem_cons_of_mem _ (List.mem_append_right _ h))
theorem hi_X4_stitch_X4 : ∀ w ∈ u_ws RX4 TX4 4, w ∈ wsX4_stitch := fun w h => (List.mem_cons_of_mem _ (List.mem_append_left _ (List.mem_append_right _ h)))
set_option maxHeartbeats 4000000 in
set_option maxRecDepth 100000 in
theorem mt_X4_stitch (l : Launch) (D : va_G) (cI : ClassId) (ad : Nat → Nat) (F : Nat → Int32) (G : Nat → Nat → Int32) (x1 : Int32) (rv : Int32) (Fz : Nat → Int32) (Gz : Nat → Nat → Int32) (hDD : va_D (fun _ => True) (bdW cI ad (fun _ => 0) (fun _ _ => 0))) (h : f_X4_stitch F G x1 = some (rv, Fz, Gz)) : Met l yX4_stitch wsX4_stitch ({ frames := 0, cells := 0, slots := 0, locals := 0 } : Room) (va_Pc [.ref (ad 90), .int x1] (bdR D cI ad F G)) (va_Qi (fun z (_ : Unit) => z = rv) (fun _ t => va_P D vwCl (bdW cI ad Fz Gz) t.heap) (bdA cI ad)) 0 0 (bdA cI ad) := by
  refine Met.ofW (cc := cX4_stitch) (maxL := 3) (ret := (some .int)) (by decide) rfl ?_
  intro p e s m args below meth c s₁ B hml hv
  obtain ⟨rfl, hP, hK, hN⟩ := hv
  have hx := B.exec
  have hb := B.bytes
  have hr := B.returns
  have hts := atoms_spec (ws := wsX4_stitch) B.pre
  have hown : s.vm.findClass RX4 = some m.cls := findClass_of_methodNamed B.named
  have hlocks := B.notSynchronized
  have hS : va_S (bdA cI ad) s.heap s.heap [] := va_S.rf
  have hl := lv_entry ([.ref (ad 90), .int x1]) (n := 3) (Nat.le_of_ble_eq_true rfl)
  rw [lg_entry_eq]
  generalize (lg_sl ([.ref (ad 90), .int x1]) ++ List.replicate (3 - (lg_sl ([.ref (ad 90), .int x1])).length) Slot.unset).toArray = ls at hl ⊢
  have hl : lv_has ls 3 [(0, .ref (ad 90)), (1, .int (x1))] := hl
  have j11 : ∀ (F : Nat → Int32) (G : Nat → Nat → Int32) (H : Heap) (locs : List Loc) , va_P D vwCl (bdW cI ad F G) H → va_S (bdA cI ad) s.heap H locs → ∀ ls : Array Slot, lv_has ls 3 [(0, .ref (ad 90)), (1, .int (x1))] → f_X4_stitch_B11 x1 F G = some (rv, Fz, Gz) → W p l e (headSpec wsX4_stitch ({ frames := 0, cells := 0, slots := 0, locals := 0 } : Room)).room s m (List.toArray ([.ref (ad 90), .int x1] : List Value)) below meth c H locs 0 0 (MQ below (va_Qi (fun z (_ : Unit) => z = rv) (fun _ t => va_P D vwCl (bdW cI ad Fz Gz) t.heap) (bdA cI ad)) (List.toArray ([.ref (ad 90), .int x1] : List Value)) s 0 0 (bdA cI ad)) (F0 m 11 ls []) := by
    intro F G H locs hP hS ls hl h
    refine lv_aload_n hx hb dX4_stitch_11 rfl (lv_at hl 0 rfl) ?_
    refine va_get hx hb hts hi_X4_stitch_X4 hown hK hP 0 (bd_o90 cI ad F G) rfl 0 (by decide) (hts _ (List.mem_of_getElem? (i := 1) rfl)) (fun _ h9 => h9) rfl dX4_stitch_12 ?_
    refine va_get hx hb hts hi_X4_stitch_X0 hown hK hP 1 (bd_o38 cI ad F G) rfl 4 (by decide) (hts _ (List.mem_of_getElem? (i := 2) rfl)) (fun _ h9 => h9) rfl dX4_stitch_15 ?_
    refine q_nm h (fun v1 h => ?_)
    refine lv_istore_n (lv' := [(2, .int (v1)), (0, .ref (ad 90)), (1, .int (x1))]) hx hb dX4_stitch_18 rfl hl (by decide) rfl (fun ls hl => ?_)
    refine lv_aload_n hx hb dX4_stitch_19 rfl (lv_at hl 1 rfl) ?_
    refine va_get hx hb hts hi_X4_stitch_X4 hown hK hP 0 (bd_o90 cI ad F G) rfl 0 (by decide) (hts _ (List.mem_of_getElem? (i := 1) rfl)) (fun _ h9 => h9) rfl dX4_stitch_20 ?_
    refine lv_iload_n hx hb dX4_stitch_23 rfl (lv_at hl 2 rfl) ?_
    refine q_put (ty := .int) hx hb hts hi_X4_stitch_X0 tyX0 tyX0_ok nmX0 hown hK hP (bdW_D hDD _ _) hS 1 34 (fun z => bdW cI ad z G) (bd_o38 cI ad F G) rfl 4 (by decide) (hts _ (List.mem_of_getElem? (i := 2) rfl)) (fun _ h9 => h9) rfl (by decide +kernel) rfl rfl (Nat.le_of_ble_eq_true rfl) (bd_f34 cI ad F G _) dX4_stitch_24 h (fun F2 H locs h hP hS => ?_)
    refine lv_iload_n hx hb dX4_stitch_27 rfl (lv_at hl 0 rfl) ?_
    have e1 := congrArg Prod.fst (Option.some.inj h)
    have e2 := congrArg (fun z => z.2.1) (Option.some.inj h)
    have e3 := congrArg (fun z => z.2.2) (Option.some.inj h)
    dsimp only at e1 e2 e3
    exact W.iret hx hb hr (fun t ht hW => ⟨⟨_, (), rfl, e1, by show va_P D vwCl _ t.heap; rw [ht, ← e2, ← e3]; exact hP⟩, hS.F ht⟩) hS.2.2 dX4_stitch_28
  refine lv_iload_n hx hb dX4_stitch_0 rfl (lv_at hl 1 rfl) ?_
  refine q_if_eq (tgt := 11) hx hb dX4_stitch_1 (by decide) h (fun h => ?_) (fun h => ?_)
  · exact j11 F G _ _ hP hS _ (lv_sub hl [0, 1] rfl) h
  · refine lv_iload_n hx hb dX4_stitch_4 rfl (lv_at hl 1 rfl) ?_
    refine lv_iconst (v := 1) hx hb dX4_stitch_5 (by decide) ?_
    refine q_icmp_eq (tgt := 11) hx hb dX4_stitch_6 (by decide) h (fun h => ?_) (fun h => ?_)
    · exact j11 F G _ _ hP hS _ (lv_sub hl [0, 1] rfl) h
    · refine lv_iconst (v := -1) hx hb dX4_stitch_9 (by decide) ?_
      have e1 := congrArg Prod.fst (Option.some.inj h)
      have e2 := congrArg (fun z => z.2.1) (Option.some.inj h)
      have e3 := congrArg (fun z => z.2.2) (Option.some.inj h)
      dsimp only at e1 e2 e3
      exact W.iret hx hb hr (fun t ht hW => ⟨⟨_, (), rfl, e1, by show va_P D vwCl _ t.heap; rw [ht, ← e2, ← e3]; exact hP⟩, hS.F ht⟩) hS.2.2 dX4_stitch_10
theorem hi_X4_ring_X0 : ∀ w ∈ u_ws RX0 TX0 8, w ∈ wsX4_ring := fun w h => (List.mem_cons_of_mem _ (List.mem_append_right _ h))
theorem hi_X4_ring_X4 : ∀ w ∈ u_ws RX4 TX4 4, w ∈ wsX4_ring := fun w h => (List.mem_cons_of_mem _ (List.mem_append_left _ (List.mem_append_right _ h)))
set_option maxHeartbeats 4000000 in
set_option maxRecDepth 100000 in
theorem mt_X4_ring (l : Launch) (D : va_G) (cI : ClassId) (ad : Nat → Nat) (F : Nat → Int32) (G : Nat → Nat → Int32) (x1 : Int32) (rv : Int32) (Fz : Nat → Int32) (Gz : Nat → Nat → Int32) (hDD : va_D (fun _ => True) (bdW cI ad (fun _ => 0) (fun _ _ => 0))) (h : f_X4_ring F G x1 = some (rv, Fz, Gz)) : Met l yX4_ring wsX4_ring ({ frames := 1, cells := 0, slots := 0, locals := 22 } : Room) (va_Pc [.ref (ad 90), .int x1] (bdR D cI ad F G)) (va_Qi (fun z (_ : Unit) => z = rv) (fun _ t => va_P D vwCl (bdW cI ad Fz Gz) t.heap) (bdA cI ad)) 0 0 (bdA cI ad) := by
  refine Met.ofW (cc := cX4_ring) (maxL := 2) (ret := (some .boolean)) (by decide) rfl ?_
  intro p e s m args below meth c s₁ B hml hv
  obtain ⟨rfl, hP, hK, hN⟩ := hv
  have hx := B.exec
  have hb := B.bytes
  have hr := B.returns
  have hts := atoms_spec (ws := wsX4_ring) B.pre
  have hown : s.vm.findClass RX4 = some m.cls := findClass_of_methodNamed B.named
  have hlocks := B.notSynchronized
  have hS : va_S (bdA cI ad) s.heap s.heap [] := va_S.rf
  have hl := lv_entry ([.ref (ad 90), .int x1]) (n := 2) (Nat.le_of_ble_eq_true rfl)
  rw [lg_entry_eq]
  generalize (lg_sl ([.ref (ad 90), .int x1]) ++ List.replicate (2 - (lg_sl ([.ref (ad 90), .int x1])).length) Slot.unset).toArray = ls at hl ⊢
  have hl : lv_has ls 2 [(0, .ref (ad 90)), (1, .int (x1))] := hl
  have j27 : ∀ (F : Nat → Int32) (G : Nat → Nat → Int32) (H : Heap) (locs : List Loc) , va_P D vwCl (bdW cI ad F G) H → va_S (bdA cI ad) s.heap H locs → ∀ ls : Array Slot, lv_has ls 2 [(0, .ref (ad 90)), (1, .int (x1))] → f_X4_ring_B27 x1 F G = some (rv, Fz, Gz) → W p l e (headSpec wsX4_ring ({ frames := 1, cells := 0, slots := 0, locals := 22 } : Room)).room s m (List.toArray ([.ref (ad 90), .int x1] : List Value)) below meth c H locs 0 0 (MQ below (va_Qi (fun z (_ : Unit) => z = rv) (fun _ t => va_P D vwCl (bdW cI ad Fz Gz) t.heap) (bdA cI ad)) (List.toArray ([.ref (ad 90), .int x1] : List Value)) s 0 0 (bdA cI ad)) (F0 m 27 ls []) := by
    intro F G H locs hP hS ls hl h
    refine lv_aload_n hx hb dX4_ring_27 rfl (lv_at hl 0 rfl) ?_
    refine va_get hx hb hts hi_X4_ring_X4 hown hK hP 0 (bd_o90 cI ad F G) rfl 0 (by decide) (hts _ (List.mem_of_getElem? (i := 1) rfl)) (fun _ h9 => h9) rfl dX4_ring_28 ?_
    refine lv_iload_n hx hb dX4_ring_31 rfl (lv_at hl 1 rfl) ?_
    refine q_put (ty := .int) hx hb hts hi_X4_ring_X0 tyX0 tyX0_ok nmX0 hown hK hP (bdW_D hDD _ _) hS 1 35 (fun z => bdW cI ad z G) (bd_o38 cI ad F G) rfl 5 (by decide) (hts _ (List.mem_of_getElem? (i := 2) rfl)) (fun _ h9 => h9) rfl (by decide +kernel) rfl rfl (Nat.le_of_ble_eq_true rfl) (bd_f35 cI ad F G _) dX4_ring_32 h (fun F1 H locs h hP hS => ?_)
    refine lv_iconst (v := 1) hx hb dX4_ring_35 (by decide) ?_
    have e1 := congrArg Prod.fst (Option.some.inj h)
    have e2 := congrArg (fun z => z.2.1) (Option.some.inj h)
    have e3 := congrArg (fun z => z.2.2) (Option.some.inj h)
    dsimp only at e1 e2 e3
    exact W.zret hx hb hr rfl (fun t ht hW => ⟨⟨_, (), rfl, e1, by show va_P D vwCl _ t.heap; rw [ht, ← e2, ← e3]; exact hP⟩, hS.F ht⟩) hS.2.2 dX4_ring_36
  refine lv_iload_n hx hb dX4_ring_0 rfl (lv_at hl 1 rfl) ?_
  refine q_if_eq (tgt := 27) hx hb dX4_ring_1 (by decide) h (fun h => ?_) (fun h => ?_)
  · exact j27 F G _ _ hP hS _ (lv_sub hl [0, 1] rfl) h
  · refine lv_iload_n hx hb dX4_ring_4 rfl (lv_at hl 1 rfl) ?_
    refine lv_iconst (v := 3) hx hb dX4_ring_5 (by decide) ?_
    refine lv_bipush (v := 12) hx hb dX4_ring_6 (by decide) ?_
    obtain ⟨v2, hc3, h⟩ := q_some h
    refine q_cs (W.runS (As := [.int (x1), .int ((3 : Int32)), .int ((12 : Int32))]) (rest := []) ⟨hx, hb, hml, hown, hts⟩ (mt_X4_isWithin l x1 (3 : Int32) (12 : Int32) v2 hc3) (va_cwS 3 hts gX4_ring_X4_isWithin rfl rfl rfl (by decide +kernel) ⟨Nat.le_of_ble_eq_true rfl, Nat.le_of_ble_eq_true rfl⟩) q_pr0 rfl rfl hl.1 rfl (lv_room (Nat.le_of_ble_eq_true rfl)) dX4_ring_8 ⟨Nat.le_of_ble_eq_true rfl, Nat.le_of_ble_eq_true rfl⟩) ?_
    refine q_if_eq (tgt := 25) hx hb dX4_ring_11 (by decide) h (fun h => ?_) (fun h => ?_)
    · refine lv_iconst (v := 0) hx hb dX4_ring_25 (by decide) ?_
      have e1 := congrArg Prod.fst (Option.some.inj h)
      have e2 := congrArg (fun z => z.2.1) (Option.some.inj h)
      have e3 := congrArg (fun z => z.2.2) (Option.some.inj h)
      dsimp only at e1 e2 e3
      exact W.zret hx hb hr rfl (fun t ht hW => ⟨⟨_, (), rfl, e1, by show va_P D vwCl _ t.heap; rw [ht, ← e2, ← e3]; exact hP⟩, hS.F ht⟩) hS.2.2 dX4_ring_26
    · refine lv_aload_n hx hb dX4_ring_14 rfl (lv_at hl 0 rfl) ?_
      refine va_get hx hb hts hi_X4_ring_X4 hown hK hP 0 (bd_o90 cI ad F G) rfl 0 (by decide) (hts _ (List.mem_of_getElem? (i := 1) rfl)) (fun _ h9 => h9) rfl dX4_ring_15 ?_
      refine lv_iload_n hx hb dX4_ring_18 rfl (lv_at hl 1 rfl) ?_
      obtain ⟨v4, hc5, h⟩ := q_some h
      refine q_cs (W.runV (C := RX0) (As := [.int (x1)]) (rest := []) ⟨hx, hb, hml, hown, hts⟩ (mt_X0_hasBeadsFrom l D cI ad F G x1 v4 hc5) (cwV 1 hts gX4_ring_X0_hasBeadsFrom rfl rfl rfl (by decide +kernel) ⟨Nat.le_of_ble_eq_true rfl, Nat.le_of_ble_eq_true rfl⟩) ⟨chR_b, va_recv hK hP (ci := 0) (q0 := 1) rfl rfl, (chR_p (bd_ch hP) hK hN).2⟩ rfl rfl hl.1 rfl (lv_room (Nat.le_of_ble_eq_true rfl)) dX4_ring_19 ⟨Nat.le_of_ble_eq_true rfl, Nat.le_of_ble_eq_true rfl⟩) ?_
      refine q_if_eq (tgt := 27) hx hb dX4_ring_22 (by decide) h (fun h => ?_) (fun h => ?_)
      · exact j27 F G _ _ hP hS _ (lv_sub hl [0, 1] rfl) h
      · refine lv_iconst (v := 0) hx hb dX4_ring_25 (by decide) ?_
        have e1 := congrArg Prod.fst (Option.some.inj h)
        have e2 := congrArg (fun z => z.2.1) (Option.some.inj h)
        have e3 := congrArg (fun z => z.2.2) (Option.some.inj h)
        dsimp only at e1 e2 e3
        exact W.zret hx hb hr rfl (fun t ht hW => ⟨⟨_, (), rfl, e1, by show va_P D vwCl _ t.heap; rw [ht, ← e2, ← e3]; exact hP⟩, hS.F ht⟩) hS.2.2 dX4_ring_26
theorem hi_X4_colour_X0 : ∀ w ∈ u_ws RX0 TX0 8, w ∈ wsX4_colour := fun w h => (List.mem_cons_of_mem _ (List.mem_append_right _ h))
theorem hi_X4_colour_X4 : ∀ w ∈ u_ws RX4 TX4 4, w ∈ wsX4_colour := fun w h => (List.mem_cons_of_mem _ (List.mem_append_left _ (List.mem_append_right _ h)))
set_option maxHeartbeats 4000000 in
set_option maxRecDepth 100000 in
theorem mt_X4_colour (l : Launch) (D : va_G) (cI : ClassId) (ad : Nat → Nat) (F : Nat → Int32) (G : Nat → Nat → Int32) (x1 : Int32) (x2 : Int32) (x3 : Int32) (x4 : Int32) (rv : Int32) (Fz : Nat → Int32) (Gz : Nat → Nat → Int32) (hDD : va_D (fun _ => True) (bdW cI ad (fun _ => 0) (fun _ _ => 0))) (h : f_X4_colour F G x1 x2 x3 x4 = some (rv, Fz, Gz)) : Met l yX4_colour wsX4_colour ({ frames := 2, cells := 0, slots := 0, locals := 42 } : Room) (va_Pc [.ref (ad 90), .int x1, .int x2, .int x3, .int x4] (bdR D cI ad F G)) (va_Qi (fun z (_ : Unit) => z = rv) (fun _ t => va_P D vwCl (bdW cI ad Fz Gz) t.heap) (bdA cI ad)) 0 0 (bdA cI ad) := by
  refine Met.ofW (cc := cX4_colour) (maxL := 5) (ret := (some .boolean)) (by decide) rfl ?_
  intro p e s m args below meth c s₁ B hml hv
  obtain ⟨rfl, hP, hK, hN⟩ := hv
  have hx := B.exec
  have hb := B.bytes
  have hr := B.returns
  have hts := atoms_spec (ws := wsX4_colour) B.pre
  have hown : s.vm.findClass RX4 = some m.cls := findClass_of_methodNamed B.named
  have hlocks := B.notSynchronized
  have hS : va_S (bdA cI ad) s.heap s.heap [] := va_S.rf
  have hl := lv_entry ([.ref (ad 90), .int x1, .int x2, .int x3, .int x4]) (n := 5) (Nat.le_of_ble_eq_true rfl)
  rw [lg_entry_eq]
  generalize (lg_sl ([.ref (ad 90), .int x1, .int x2, .int x3, .int x4]) ++ List.replicate (5 - (lg_sl ([.ref (ad 90), .int x1, .int x2, .int x3, .int x4])).length) Slot.unset).toArray = ls at hl ⊢
  have hl : lv_has ls 5 [(0, .ref (ad 90)), (1, .int (x1)), (2, .int (x2)), (3, .int (x3)), (4, .int (x4))] := hl
  refine lv_iload_n hx hb dX4_colour_0 rfl (lv_at hl 1 rfl) ?_
  obtain ⟨v1, hc2, h⟩ := q_some h
  refine q_cs (W.runS (As := [.int (x1)]) (rest := []) ⟨hx, hb, hml, hown, hts⟩ (mt_X4_isColour l x1 v1 hc2) (va_cwS 1 hts gX4_colour_X4_isColour rfl rfl rfl (by decide +kernel) ⟨Nat.le_of_ble_eq_true rfl, Nat.le_of_ble_eq_true rfl⟩) q_pr0 rfl rfl hl.1 rfl (lv_room (Nat.le_of_ble_eq_true rfl)) dX4_colour_1 ⟨Nat.le_of_ble_eq_true rfl, Nat.le_of_ble_eq_true rfl⟩) ?_
  refine q_if_eq (tgt := 38) hx hb dX4_colour_4 (by decide) h (fun h => ?_) (fun h => ?_)
  · refine lv_iconst (v := 0) hx hb dX4_colour_38 (by decide) ?_
    have e1 := congrArg Prod.fst (Option.some.inj h)
    have e2 := congrArg (fun z => z.2.1) (Option.some.inj h)
    have e3 := congrArg (fun z => z.2.2) (Option.some.inj h)
    dsimp only at e1 e2 e3
    exact W.zret hx hb hr rfl (fun t ht hW => ⟨⟨_, (), rfl, e1, by show va_P D vwCl _ t.heap; rw [ht, ← e2, ← e3]; exact hP⟩, hS.F ht⟩) hS.2.2 dX4_colour_39
  · refine lv_iload_n hx hb dX4_colour_7 rfl (lv_at hl 2 rfl) ?_
    refine lv_iconst (v := 1) hx hb dX4_colour_8 (by decide) ?_
    refine lv_bipush (v := 9) hx hb dX4_colour_9 (by decide) ?_
    obtain ⟨v3, hc4, h⟩ := q_some h
    refine q_cs (W.runS (As := [.int (x2), .int ((1 : Int32)), .int ((9 : Int32))]) (rest := []) ⟨hx, hb, hml, hown, hts⟩ (mt_X4_isWithin l x2 (1 : Int32) (9 : Int32) v3 hc4) (va_cwS 3 hts gX4_colour_X4_isWithin rfl rfl rfl (by decide +kernel) ⟨Nat.le_of_ble_eq_true rfl, Nat.le_of_ble_eq_true rfl⟩) q_pr0 rfl rfl hl.1 rfl (lv_room (Nat.le_of_ble_eq_true rfl)) dX4_colour_11 ⟨Nat.le_of_ble_eq_true rfl, Nat.le_of_ble_eq_true rfl⟩) ?_
    refine q_if_eq (tgt := 38) hx hb dX4_colour_14 (by decide) h (fun h => ?_) (fun h => ?_)
    · refine lv_iconst (v := 0) hx hb dX4_colour_38 (by decide) ?_
      have e1 := congrArg Prod.fst (Option.some.inj h)
      have e2 := congrArg (fun z => z.2.1) (Option.some.inj h)
      have e3 := congrArg (fun z => z.2.2) (Option.some.inj h)
      dsimp only at e1 e2 e3
      exact W.zret hx hb hr rfl (fun t ht hW => ⟨⟨_, (), rfl, e1, by show va_P D vwCl _ t.heap; rw [ht, ← e2, ← e3]; exact hP⟩, hS.F ht⟩) hS.2.2 dX4_colour_39
    · refine lv_iload_n hx hb dX4_colour_17 rfl (lv_at hl 3 rfl) ?_
      refine lv_iconst (v := 1) hx hb dX4_colour_18 (by decide) ?_
      refine lv_bipush (v := 20) hx hb dX4_colour_19 (by decide) ?_
      obtain ⟨v5, hc6, h⟩ := q_some h
      refine q_cs (W.runS (As := [.int (x3), .int ((1 : Int32)), .int ((20 : Int32))]) (rest := []) ⟨hx, hb, hml, hown, hts⟩ (mt_X4_isWithin l x3 (1 : Int32) (20 : Int32) v5 hc6) (va_cwS 3 hts gX4_colour_X4_isWithin rfl rfl rfl (by decide +kernel) ⟨Nat.le_of_ble_eq_true rfl, Nat.le_of_ble_eq_true rfl⟩) q_pr0 rfl rfl hl.1 rfl (lv_room (Nat.le_of_ble_eq_true rfl)) dX4_colour_21 ⟨Nat.le_of_ble_eq_true rfl, Nat.le_of_ble_eq_true rfl⟩) ?_
      refine q_if_eq (tgt := 38) hx hb dX4_colour_24 (by decide) h (fun h => ?_) (fun h => ?_)
      · refine lv_iconst (v := 0) hx hb dX4_colour_38 (by decide) ?_
        have e1 := congrArg Prod.fst (Option.some.inj h)
        have e2 := congrArg (fun z => z.2.1) (Option.some.inj h)
        have e3 := congrArg (fun z => z.2.2) (Option.some.inj h)
        dsimp only at e1 e2 e3
        exact W.zret hx hb hr rfl (fun t ht hW => ⟨⟨_, (), rfl, e1, by show va_P D vwCl _ t.heap; rw [ht, ← e2, ← e3]; exact hP⟩, hS.F ht⟩) hS.2.2 dX4_colour_39
      · refine lv_iload hx hb dX4_colour_27 (lv_at hl 4 rfl) ?_
        refine lv_iconst (v := 1) hx hb dX4_colour_29 (by decide) ?_
        refine lv_bipush (v := 100) hx hb dX4_colour_30 (by decide) ?_
        obtain ⟨v7, hc8, h⟩ := q_some h
        refine q_cs (W.runS (As := [.int (x4), .int ((1 : Int32)), .int ((100 : Int32))]) (rest := []) ⟨hx, hb, hml, hown, hts⟩ (mt_X4_isWithin l x4 (1 : Int32) (100 : Int32) v7 hc8) (va_cwS 3 hts gX4_colour_X4_isWithin rfl rfl rfl (by decide +kernel) ⟨Nat.le_of_ble_eq_true rfl, Nat.le_of_ble_eq_true rfl⟩) q_pr0 rfl rfl hl.1 rfl (lv_room (Nat.le_of_ble_eq_true rfl)) dX4_colour_32 ⟨Nat.le_of_ble_eq_true rfl, Nat.le_of_ble_eq_true rfl⟩) ?_
        refine q_if_ne (tgt := 40) hx hb dX4_colour_35 (by decide) h (fun h => ?_) (fun h => ?_)
        · refine lv_aload_n hx hb dX4_colour_40 rfl (lv_at hl 0 rfl) ?_
          refine va_get hx hb hts hi_X4_colour_X4 hown hK hP 0 (bd_o90 cI ad F G) rfl 0 (by decide) (hts _ (List.mem_of_getElem? (i := 1) rfl)) (fun _ h9 => h9) rfl dX4_colour_41 ?_
          refine va_get hx hb hts hi_X4_colour_X0 hown hK hP 1 (bd_o38 cI ad F G) rfl 1 (by decide) (hts _ (List.mem_of_getElem? (i := 2) rfl)) (fun _ h9 => h9) rfl dX4_colour_44 ?_
          refine lv_iload_n hx hb dX4_colour_47 rfl (lv_at hl 1 rfl) ?_
          refine lv_iload_n hx hb dX4_colour_48 rfl (lv_at hl 2 rfl) ?_
          refine q_st hx hb hK hP (bdW_D hDD _ _) hS 3 0 31 (fun z => bdW cI ad F z) (bd_a31 cI ad F G) rfl (bd_g31 cI ad F G _) dX4_colour_49 h (fun G9 H locs h hP hS => ?_)
          refine lv_aload_n hx hb dX4_colour_50 rfl (lv_at hl 0 rfl) ?_
          refine va_get hx hb hts hi_X4_colour_X4 hown hK hP 0 (bd_o90 cI ad F G9) rfl 0 (by decide) (hts _ (List.mem_of_getElem? (i := 1) rfl)) (fun _ h9 => h9) rfl dX4_colour_51 ?_
          refine va_get hx hb hts hi_X4_colour_X0 hown hK hP 1 (bd_o38 cI ad F G9) rfl 2 (by decide) (hts _ (List.mem_of_getElem? (i := 3) rfl)) (fun _ h9 => h9) rfl dX4_colour_54 ?_
          refine lv_iload_n hx hb dX4_colour_57 rfl (lv_at hl 1 rfl) ?_
          refine lv_iload_n hx hb dX4_colour_58 rfl (lv_at hl 3 rfl) ?_
          refine q_st hx hb hK hP (bdW_D hDD _ _) hS 4 0 32 (fun z => bdW cI ad F z) (bd_a32 cI ad F G9) rfl (bd_g32 cI ad F G9 _) dX4_colour_59 h (fun G10 H locs h hP hS => ?_)
          refine lv_aload_n hx hb dX4_colour_60 rfl (lv_at hl 0 rfl) ?_
          refine va_get hx hb hts hi_X4_colour_X4 hown hK hP 0 (bd_o90 cI ad F G10) rfl 0 (by decide) (hts _ (List.mem_of_getElem? (i := 1) rfl)) (fun _ h9 => h9) rfl dX4_colour_61 ?_
          refine va_get hx hb hts hi_X4_colour_X0 hown hK hP 1 (bd_o38 cI ad F G10) rfl 3 (by decide) (hts _ (List.mem_of_getElem? (i := 4) rfl)) (fun _ h9 => h9) rfl dX4_colour_64 ?_
          refine lv_iload_n hx hb dX4_colour_67 rfl (lv_at hl 1 rfl) ?_
          refine lv_iload hx hb dX4_colour_68 (lv_at hl 4 rfl) ?_
          refine q_st hx hb hK hP (bdW_D hDD _ _) hS 5 0 33 (fun z => bdW cI ad F z) (bd_a33 cI ad F G10) rfl (bd_g33 cI ad F G10 _) dX4_colour_70 h (fun G11 H locs h hP hS => ?_)
          refine lv_iconst (v := 1) hx hb dX4_colour_71 (by decide) ?_
          have e1 := congrArg Prod.fst (Option.some.inj h)
          have e2 := congrArg (fun z => z.2.1) (Option.some.inj h)
          have e3 := congrArg (fun z => z.2.2) (Option.some.inj h)
          dsimp only at e1 e2 e3
          exact W.zret hx hb hr rfl (fun t ht hW => ⟨⟨_, (), rfl, e1, by show va_P D vwCl _ t.heap; rw [ht, ← e2, ← e3]; exact hP⟩, hS.F ht⟩) hS.2.2 dX4_colour_72
        · refine lv_iconst (v := 0) hx hb dX4_colour_38 (by decide) ?_
          have e1 := congrArg Prod.fst (Option.some.inj h)
          have e2 := congrArg (fun z => z.2.1) (Option.some.inj h)
          have e3 := congrArg (fun z => z.2.2) (Option.some.inj h)
          dsimp only at e1 e2 e3
          exact W.zret hx hb hr rfl (fun t ht hW => ⟨⟨_, (), rfl, e1, by show va_P D vwCl _ t.heap; rw [ht, ← e2, ← e3]; exact hP⟩, hS.F ht⟩) hS.2.2 dX4_colour_39
theorem hi_X4_thread_X0 : ∀ w ∈ u_ws RX0 TX0 8, w ∈ wsX4_thread := fun w h => (List.mem_cons_of_mem _ (List.mem_append_right _ h))
theorem hi_X4_thread_X4 : ∀ w ∈ u_ws RX4 TX4 4, w ∈ wsX4_thread := fun w h => (List.mem_cons_of_mem _ (List.mem_append_left _ (List.mem_append_right _ h)))
set_option maxHeartbeats 4000000 in
set_option maxRecDepth 100000 in
theorem mt_X4_thread (l : Launch) (D : va_G) (cI : ClassId) (ad : Nat → Nat) (F : Nat → Int32) (G : Nat → Nat → Int32) (x1 : Int32) (x2 : Int32) (rv : Int32) (Fz : Nat → Int32) (Gz : Nat → Nat → Int32) (hDD : va_D (fun _ => True) (bdW cI ad (fun _ => 0) (fun _ _ => 0))) (h : f_X4_thread F G x1 x2 = some (rv, Fz, Gz)) : Met l yX4_thread wsX4_thread ({ frames := 1, cells := 0, slots := 0, locals := 22 } : Room) (va_Pc [.ref (ad 90), .int x1, .int x2] (bdR D cI ad F G)) (va_Qi (fun z (_ : Unit) => z = rv) (fun _ t => va_P D vwCl (bdW cI ad Fz Gz) t.heap) (bdA cI ad)) 0 0 (bdA cI ad) := by
  refine Met.ofW (cc := cX4_thread) (maxL := 3) (ret := (some .boolean)) (by decide) rfl ?_
  intro p e s m args below meth c s₁ B hml hv
  obtain ⟨rfl, hP, hK, hN⟩ := hv
  have hx := B.exec
  have hb := B.bytes
  have hr := B.returns
  have hts := atoms_spec (ws := wsX4_thread) B.pre
  have hown : s.vm.findClass RX4 = some m.cls := findClass_of_methodNamed B.named
  have hlocks := B.notSynchronized
  have hS : va_S (bdA cI ad) s.heap s.heap [] := va_S.rf
  have hl := lv_entry ([.ref (ad 90), .int x1, .int x2]) (n := 3) (Nat.le_of_ble_eq_true rfl)
  rw [lg_entry_eq]
  generalize (lg_sl ([.ref (ad 90), .int x1, .int x2]) ++ List.replicate (3 - (lg_sl ([.ref (ad 90), .int x1, .int x2])).length) Slot.unset).toArray = ls at hl ⊢
  have hl : lv_has ls 3 [(0, .ref (ad 90)), (1, .int (x1)), (2, .int (x2))] := hl
  refine lv_iload_n hx hb dX4_thread_0 rfl (lv_at hl 1 rfl) ?_
  refine lv_iconst (v := 1) hx hb dX4_thread_1 (by decide) ?_
  refine lv_sipush (v := 9999) hx hb dX4_thread_2 (by decide) ?_
  obtain ⟨v1, hc2, h⟩ := q_some h
  refine q_cs (W.runS (As := [.int (x1), .int ((1 : Int32)), .int ((9999 : Int32))]) (rest := []) ⟨hx, hb, hml, hown, hts⟩ (mt_X4_isWithin l x1 (1 : Int32) (9999 : Int32) v1 hc2) (va_cwS 3 hts gX4_thread_X4_isWithin rfl rfl rfl (by decide +kernel) ⟨Nat.le_of_ble_eq_true rfl, Nat.le_of_ble_eq_true rfl⟩) q_pr0 rfl rfl hl.1 rfl (lv_room (Nat.le_of_ble_eq_true rfl)) dX4_thread_5 ⟨Nat.le_of_ble_eq_true rfl, Nat.le_of_ble_eq_true rfl⟩) ?_
  refine q_if_eq (tgt := 21) hx hb dX4_thread_8 (by decide) h (fun h => ?_) (fun h => ?_)
  · refine lv_iconst (v := 0) hx hb dX4_thread_21 (by decide) ?_
    have e1 := congrArg Prod.fst (Option.some.inj h)
    have e2 := congrArg (fun z => z.2.1) (Option.some.inj h)
    have e3 := congrArg (fun z => z.2.2) (Option.some.inj h)
    dsimp only at e1 e2 e3
    exact W.zret hx hb hr rfl (fun t ht hW => ⟨⟨_, (), rfl, e1, by show va_P D vwCl _ t.heap; rw [ht, ← e2, ← e3]; exact hP⟩, hS.F ht⟩) hS.2.2 dX4_thread_22
  · refine lv_iload_n hx hb dX4_thread_11 rfl (lv_at hl 2 rfl) ?_
    refine lv_iconst (v := 0) hx hb dX4_thread_12 (by decide) ?_
    refine lv_bipush (v := 6) hx hb dX4_thread_13 (by decide) ?_
    obtain ⟨v3, hc4, h⟩ := q_some h
    refine q_cs (W.runS (As := [.int (x2), .int ((0 : Int32)), .int ((6 : Int32))]) (rest := []) ⟨hx, hb, hml, hown, hts⟩ (mt_X4_isWithin l x2 (0 : Int32) (6 : Int32) v3 hc4) (va_cwS 3 hts gX4_thread_X4_isWithin rfl rfl rfl (by decide +kernel) ⟨Nat.le_of_ble_eq_true rfl, Nat.le_of_ble_eq_true rfl⟩) q_pr0 rfl rfl hl.1 rfl (lv_room (Nat.le_of_ble_eq_true rfl)) dX4_thread_15 ⟨Nat.le_of_ble_eq_true rfl, Nat.le_of_ble_eq_true rfl⟩) ?_
    refine q_if_ne (tgt := 23) hx hb dX4_thread_18 (by decide) h (fun h => ?_) (fun h => ?_)
    · refine lv_aload_n hx hb dX4_thread_23 rfl (lv_at hl 0 rfl) ?_
      refine va_get hx hb hts hi_X4_thread_X4 hown hK hP 0 (bd_o90 cI ad F G) rfl 0 (by decide) (hts _ (List.mem_of_getElem? (i := 1) rfl)) (fun _ h9 => h9) rfl dX4_thread_24 ?_
      refine lv_iload_n hx hb dX4_thread_27 rfl (lv_at hl 1 rfl) ?_
      refine q_put (ty := .int) hx hb hts hi_X4_thread_X0 tyX0 tyX0_ok nmX0 hown hK hP (bdW_D hDD _ _) hS 1 36 (fun z => bdW cI ad z G) (bd_o38 cI ad F G) rfl 6 (by decide) (hts _ (List.mem_of_getElem? (i := 2) rfl)) (fun _ h9 => h9) rfl (by decide +kernel) rfl rfl (Nat.le_of_ble_eq_true rfl) (bd_f36 cI ad F G _) dX4_thread_28 h (fun F5 H locs h hP hS => ?_)
      refine lv_aload_n hx hb dX4_thread_31 rfl (lv_at hl 0 rfl) ?_
      refine va_get hx hb hts hi_X4_thread_X4 hown hK hP 0 (bd_o90 cI ad F5 G) rfl 0 (by decide) (hts _ (List.mem_of_getElem? (i := 1) rfl)) (fun _ h9 => h9) rfl dX4_thread_32 ?_
      refine lv_iload_n hx hb dX4_thread_35 rfl (lv_at hl 2 rfl) ?_
      refine q_put (ty := .int) hx hb hts hi_X4_thread_X0 tyX0 tyX0_ok nmX0 hown hK hP (bdW_D hDD _ _) hS 1 37 (fun z => bdW cI ad z G) (bd_o38 cI ad F5 G) rfl 7 (by decide) (hts _ (List.mem_of_getElem? (i := 3) rfl)) (fun _ h9 => h9) rfl (by decide +kernel) rfl rfl (Nat.le_of_ble_eq_true rfl) (bd_f37 cI ad F5 G _) dX4_thread_36 h (fun F6 H locs h hP hS => ?_)
      refine lv_iconst (v := 1) hx hb dX4_thread_39 (by decide) ?_
      have e1 := congrArg Prod.fst (Option.some.inj h)
      have e2 := congrArg (fun z => z.2.1) (Option.some.inj h)
      have e3 := congrArg (fun z => z.2.2) (Option.some.inj h)
      dsimp only at e1 e2 e3
      exact W.zret hx hb hr rfl (fun t ht hW => ⟨⟨_, (), rfl, e1, by show va_P D vwCl _ t.heap; rw [ht, ← e2, ← e3]; exact hP⟩, hS.F ht⟩) hS.2.2 dX4_thread_40
    · refine lv_iconst (v := 0) hx hb dX4_thread_21 (by decide) ?_
      have e1 := congrArg Prod.fst (Option.some.inj h)
      have e2 := congrArg (fun z => z.2.1) (Option.some.inj h)
      have e3 := congrArg (fun z => z.2.2) (Option.some.inj h)
      dsimp only at e1 e2 e3
      exact W.zret hx hb hr rfl (fun t ht hW => ⟨⟨_, (), rfl, e1, by show va_P D vwCl _ t.heap; rw [ht, ← e2, ← e3]; exact hP⟩, hS.F ht⟩) hS.2.2 dX4_thread_22
theorem hi_X4_work_X3 : ∀ w ∈ u_ws RX3 TX3 19, w ∈ wsX4_work := fun w h => (List.mem_cons_of_mem _ (List.mem_append_left _ (List.mem_append_left _ (List.mem_append_right _ h))))
theorem hi_X4_work_X4 : ∀ w ∈ u_ws RX4 TX4 4, w ∈ wsX4_work := fun w h => (List.mem_cons_of_mem _ (List.mem_append_left _ (List.mem_append_left _ (List.mem_append_left _ (List.mem_append_right _ h)))))
set_option maxHeartbeats 4000000 in
set_option maxRecDepth 100000 in
theorem mt_X4_work (l : Launch) (D : va_G) (cI : ClassId) (ad : Nat → Nat) (F : Nat → Int32) (G : Nat → Nat → Int32) (x1 : Int32) (rv : Int32) (Fz : Nat → Int32) (Gz : Nat → Nat → Int32) (hDD : va_D (fun _ => True) (bdW cI ad (fun _ => 0) (fun _ _ => 0))) (h : f_X4_work F G x1 = some (rv, Fz, Gz)) : Met l yX4_work wsX4_work ({ frames := 6, cells := 0, slots := 0, locals := 155 } : Room) (va_Pc [.ref (ad 90), .int x1] (bdR D cI ad F G)) (va_Qi (fun z (_ : Unit) => z = rv) (fun _ t => va_P D vwCl (bdW cI ad Fz Gz) t.heap) (bdA cI ad)) 0 0 (bdA cI ad) := by
  refine Met.ofW (cc := cX4_work) (maxL := 2) (ret := (some .int)) (by decide) rfl ?_
  intro p e s m args below meth c s₁ B hml hv
  obtain ⟨rfl, hP, hK, hN⟩ := hv
  have hx := B.exec
  have hb := B.bytes
  have hr := B.returns
  have hts := atoms_spec (ws := wsX4_work) B.pre
  have hown : s.vm.findClass RX4 = some m.cls := findClass_of_methodNamed B.named
  have hlocks := B.notSynchronized
  have hS : va_S (bdA cI ad) s.heap s.heap [] := va_S.rf
  have hl := lv_entry ([.ref (ad 90), .int x1]) (n := 2) (Nat.le_of_ble_eq_true rfl)
  rw [lg_entry_eq]
  generalize (lg_sl ([.ref (ad 90), .int x1]) ++ List.replicate (2 - (lg_sl ([.ref (ad 90), .int x1])).length) Slot.unset).toArray = ls at hl ⊢
  have hl : lv_has ls 2 [(0, .ref (ad 90)), (1, .int (x1))] := hl
  refine lv_iload_n hx hb dX4_work_0 rfl (lv_at hl 1 rfl) ?_
  refine lv_iconst (v := 0) hx hb dX4_work_1 (by decide) ?_
  refine lv_iconst (v := 3) hx hb dX4_work_2 (by decide) ?_
  obtain ⟨v1, hc2, h⟩ := q_some h
  refine q_cs (W.runS (As := [.int (x1), .int ((0 : Int32)), .int ((3 : Int32))]) (rest := []) ⟨hx, hb, hml, hown, hts⟩ (mt_X4_isWithin l x1 (0 : Int32) (3 : Int32) v1 hc2) (va_cwS 3 hts gX4_work_X4_isWithin rfl rfl rfl (by decide +kernel) ⟨Nat.le_of_ble_eq_true rfl, Nat.le_of_ble_eq_true rfl⟩) q_pr0 rfl rfl hl.1 rfl (lv_room (Nat.le_of_ble_eq_true rfl)) dX4_work_3 ⟨Nat.le_of_ble_eq_true rfl, Nat.le_of_ble_eq_true rfl⟩) ?_
  refine q_if_ne (tgt := 11) hx hb dX4_work_6 (by decide) h (fun h => ?_) (fun h => ?_)
  · refine lv_aload_n hx hb dX4_work_11 rfl (lv_at hl 0 rfl) ?_
    refine va_get hx hb hts hi_X4_work_X4 hown hK hP 0 (bd_o90 cI ad F G) rfl 2 (by decide) (hts _ (List.mem_of_getElem? (i := 1) rfl)) (fun _ h9 => h9) rfl dX4_work_12 ?_
    refine lv_aload_n hx hb dX4_work_15 rfl (lv_at hl 0 rfl) ?_
    refine va_get hx hb hts hi_X4_work_X4 hown hK hP 0 (bd_o90 cI ad F G) rfl 0 (by decide) (hts _ (List.mem_of_getElem? (i := 2) rfl)) (fun _ h9 => h9) rfl dX4_work_16 ?_
    refine lv_iload_n hx hb dX4_work_19 rfl (lv_at hl 1 rfl) ?_
    obtain ⟨⟨F4, G5⟩, hc6, h⟩ := q_some h
    refine q_sv (Wd := fun y z => bdW cI ad y z) (va_runV (C := RX3) (As := [.ref (ad 38), .int (x1)]) (rest := []) ⟨hx, hb, hml, hown, hts⟩ (mt_X3_follow l D cI ad F G x1 F4 G5 (bd_kw_D hDD) hc6) (cwV 2 hts gX4_work_X3_follow rfl rfl rfl (by decide +kernel) ⟨Nat.le_of_ble_eq_true rfl, Nat.le_of_ble_eq_true rfl⟩) ⟨kwR_b, va_recv hK hP (ci := 3) (q0 := 8) rfl rfl, (kwR_p (bd_kw hP) hK hN).2⟩ rfl rfl hl.1 rfl (lv_room (Nat.le_of_ble_eq_true rfl)) dX4_work_20 ⟨Nat.le_of_ble_eq_true rfl, Nat.le_of_ble_eq_true rfl⟩) (bd_kw_A) hS (fun H1 hB hk => bd_kw_back hDD hP hk hB) h (fun F7 G8 H locs h hP hS => ?_)
    refine lv_aload_n hx hb dX4_work_23 rfl (lv_at hl 0 rfl) ?_
    refine va_get hx hb hts hi_X4_work_X4 hown hK hP 0 (bd_o90 cI ad F7 G8) rfl 2 (by decide) (hts _ (List.mem_of_getElem? (i := 1) rfl)) (fun _ h9 => h9) rfl dX4_work_24 ?_
    refine va_get hx hb hts hi_X4_work_X3 hown hK hP 8 (bd_o22 cI ad F7 G8) rfl 11 (by decide) (hts _ (List.mem_of_getElem? (i := 3) rfl)) (fun _ h9 => h9) rfl dX4_work_27 ?_
    have e1 := congrArg Prod.fst (Option.some.inj h)
    have e2 := congrArg (fun z => z.2.1) (Option.some.inj h)
    have e3 := congrArg (fun z => z.2.2) (Option.some.inj h)
    dsimp only at e1 e2 e3
    exact W.iret hx hb hr (fun t ht hW => ⟨⟨_, (), rfl, e1, by show va_P D vwCl _ t.heap; rw [ht, ← e2, ← e3]; exact hP⟩, hS.F ht⟩) hS.2.2 dX4_work_30
  · refine lv_iconst (v := -1) hx hb dX4_work_9 (by decide) ?_
    have e1 := congrArg Prod.fst (Option.some.inj h)
    have e2 := congrArg (fun z => z.2.1) (Option.some.inj h)
    have e3 := congrArg (fun z => z.2.2) (Option.some.inj h)
    dsimp only at e1 e2 e3
    exact W.iret hx hb hr (fun t ht hW => ⟨⟨_, (), rfl, e1, by show va_P D vwCl _ t.heap; rw [ht, ← e2, ← e3]; exact hP⟩, hS.F ht⟩) hS.2.2 dX4_work_10
theorem hi_X4_hang_X4 : ∀ w ∈ u_ws RX4 TX4 4, w ∈ wsX4_hang := fun w h => (List.mem_cons_of_mem _ (List.mem_append_left _ (List.mem_append_left _ (List.mem_append_right _ h))))
set_option maxHeartbeats 4000000 in
set_option maxRecDepth 100000 in
theorem mt_X4_hang (l : Launch) (D : va_G) (cI : ClassId) (ad : Nat → Nat) (F : Nat → Int32) (G : Nat → Nat → Int32) (x1 : Int32) (rv : Int32) (Fz : Nat → Int32) (Gz : Nat → Nat → Int32) (hDD : va_D (fun _ => True) (bdW cI ad (fun _ => 0) (fun _ _ => 0))) (h : f_X4_hang F G x1 = some (rv, Fz, Gz)) : Met l yX4_hang wsX4_hang ({ frames := 3, cells := 0, slots := 0, locals := 68 } : Room) (va_Pc [.ref (ad 90), .int x1] (bdR D cI ad F G)) (va_Qi (fun z (_ : Unit) => z = rv) (fun _ t => va_P D vwCl (bdW cI ad Fz Gz) t.heap) (bdA cI ad)) 0 0 (bdA cI ad) := by
  refine Met.ofW (cc := cX4_hang) (maxL := 2) (ret := (some .int)) (by decide) rfl ?_
  intro p e s m args below meth c s₁ B hml hv
  obtain ⟨rfl, hP, hK, hN⟩ := hv
  have hx := B.exec
  have hb := B.bytes
  have hr := B.returns
  have hts := atoms_spec (ws := wsX4_hang) B.pre
  have hown : s.vm.findClass RX4 = some m.cls := findClass_of_methodNamed B.named
  have hlocks := B.notSynchronized
  have hS : va_S (bdA cI ad) s.heap s.heap [] := va_S.rf
  have hl := lv_entry ([.ref (ad 90), .int x1]) (n := 2) (Nat.le_of_ble_eq_true rfl)
  rw [lg_entry_eq]
  generalize (lg_sl ([.ref (ad 90), .int x1]) ++ List.replicate (2 - (lg_sl ([.ref (ad 90), .int x1])).length) Slot.unset).toArray = ls at hl ⊢
  have hl : lv_has ls 2 [(0, .ref (ad 90)), (1, .int (x1))] := hl
  refine lv_aload_n hx hb dX4_hang_0 rfl (lv_at hl 0 rfl) ?_
  refine va_get hx hb hts hi_X4_hang_X4 hown hK hP 0 (bd_o90 cI ad F G) rfl 2 (by decide) (hts _ (List.mem_of_getElem? (i := 1) rfl)) (fun _ h9 => h9) rfl dX4_hang_1 ?_
  refine lv_iload_n hx hb dX4_hang_4 rfl (lv_at hl 1 rfl) ?_
  obtain ⟨v1, hc2, h⟩ := q_some h
  refine q_cs (W.runV (C := RX3) (As := [.int (x1)]) (rest := []) ⟨hx, hb, hml, hown, hts⟩ (mt_X3_has l D cI ad F G x1 v1 hc2) (cwV 1 hts gX4_hang_X3_has rfl rfl rfl (by decide +kernel) ⟨Nat.le_of_ble_eq_true rfl, Nat.le_of_ble_eq_true rfl⟩) ⟨wyR_b, va_recv hK hP (ci := 3) (q0 := 8) rfl rfl, (wyR_p (bd_wy hP) hK hN).2⟩ rfl rfl hl.1 rfl (lv_room (Nat.le_of_ble_eq_true rfl)) dX4_hang_5 ⟨Nat.le_of_ble_eq_true rfl, Nat.le_of_ble_eq_true rfl⟩) ?_
  refine q_if_eq (tgt := 26) hx hb dX4_hang_8 (by decide) h (fun h => ?_) (fun h => ?_)
  · refine lv_iconst (v := -1) hx hb dX4_hang_26 (by decide) ?_
    have e1 := congrArg Prod.fst (Option.some.inj h)
    have e2 := congrArg (fun z => z.2.1) (Option.some.inj h)
    have e3 := congrArg (fun z => z.2.2) (Option.some.inj h)
    dsimp only at e1 e2 e3
    exact W.iret hx hb hr (fun t ht hW => ⟨⟨_, (), rfl, e1, by show va_P D vwCl _ t.heap; rw [ht, ← e2, ← e3]; exact hP⟩, hS.F ht⟩) hS.2.2 dX4_hang_27
  · refine lv_aload_n hx hb dX4_hang_11 rfl (lv_at hl 0 rfl) ?_
    refine va_get hx hb hts hi_X4_hang_X4 hown hK hP 0 (bd_o90 cI ad F G) rfl 1 (by decide) (hts _ (List.mem_of_getElem? (i := 2) rfl)) (fun _ h9 => h9) rfl dX4_hang_12 ?_
    refine lv_aload_n hx hb dX4_hang_15 rfl (lv_at hl 0 rfl) ?_
    refine va_get hx hb hts hi_X4_hang_X4 hown hK hP 0 (bd_o90 cI ad F G) rfl 2 (by decide) (hts _ (List.mem_of_getElem? (i := 1) rfl)) (fun _ h9 => h9) rfl dX4_hang_16 ?_
    refine lv_iload_n hx hb dX4_hang_19 rfl (lv_at hl 1 rfl) ?_
    obtain ⟨⟨v3, F4, G5⟩, hc6, h⟩ := q_some h
    refine q_si (Wd := fun y z => bdW cI ad y z) (va_runV (C := RX1) (As := [.ref (ad 22), .int (x1)]) (rest := []) ⟨hx, hb, hml, hown, hts⟩ (mt_X1_markHanging l D cI ad F G x1 v3 F4 G5 (bd_mw_D hDD) hc6) (cwV 2 hts gX4_hang_X1_markHanging rfl rfl rfl (by decide +kernel) ⟨Nat.le_of_ble_eq_true rfl, Nat.le_of_ble_eq_true rfl⟩) ⟨mwR_b, va_recv hK hP (ci := 1) (q0 := 6) rfl rfl, (mwR_p (bd_mw hP) hK hN).2⟩ rfl rfl hl.1 rfl (lv_room (Nat.le_of_ble_eq_true rfl)) dX4_hang_20 ⟨Nat.le_of_ble_eq_true rfl, Nat.le_of_ble_eq_true rfl⟩) (bd_mw_A) hS (fun H1 hB hk => bd_mw_back hDD hP hk hB) h (fun F7 G8 H locs h hP hS => ?_)
    refine lv_goto (tgt := 27) hx hb dX4_hang_23 (by decide) ?_
    have e1 := congrArg Prod.fst (Option.some.inj h)
    have e2 := congrArg (fun z => z.2.1) (Option.some.inj h)
    have e3 := congrArg (fun z => z.2.2) (Option.some.inj h)
    dsimp only at e1 e2 e3
    exact W.iret hx hb hr (fun t ht hW => ⟨⟨_, (), rfl, e1, by show va_P D vwCl _ t.heap; rw [ht, ← e2, ← e3]; exact hP⟩, hS.F ht⟩) hS.2.2 dX4_hang_27
theorem hi_X4_pull_X4 : ∀ w ∈ u_ws RX4 TX4 4, w ∈ wsX4_pull := fun w h => (List.mem_cons_of_mem _ (List.mem_append_left _ (List.mem_append_left _ (List.mem_append_right _ h))))
set_option maxHeartbeats 4000000 in
set_option maxRecDepth 100000 in
theorem mt_X4_pull (l : Launch) (D : va_G) (cI : ClassId) (ad : Nat → Nat) (F : Nat → Int32) (G : Nat → Nat → Int32) (x1 : Int32) (rv : Int32) (Fz : Nat → Int32) (Gz : Nat → Nat → Int32) (hDD : va_D (fun _ => True) (bdW cI ad (fun _ => 0) (fun _ _ => 0))) (h : f_X4_pull F G x1 = some (rv, Fz, Gz)) : Met l yX4_pull wsX4_pull ({ frames := 3, cells := 0, slots := 0, locals := 69 } : Room) (va_Pc [.ref (ad 90), .int x1] (bdR D cI ad F G)) (va_Qi (fun z (_ : Unit) => z = rv) (fun _ t => va_P D vwCl (bdW cI ad Fz Gz) t.heap) (bdA cI ad)) 0 0 (bdA cI ad) := by
  refine Met.ofW (cc := cX4_pull) (maxL := 2) (ret := (some .int)) (by decide) rfl ?_
  intro p e s m args below meth c s₁ B hml hv
  obtain ⟨rfl, hP, hK, hN⟩ := hv
  have hx := B.exec
  have hb := B.bytes
  have hr := B.returns
  have hts := atoms_spec (ws := wsX4_pull) B.pre
  have hown : s.vm.findClass RX4 = some m.cls := findClass_of_methodNamed B.named
  have hlocks := B.notSynchronized
  have hS : va_S (bdA cI ad) s.heap s.heap [] := va_S.rf
  have hl := lv_entry ([.ref (ad 90), .int x1]) (n := 2) (Nat.le_of_ble_eq_true rfl)
  rw [lg_entry_eq]
  generalize (lg_sl ([.ref (ad 90), .int x1]) ++ List.replicate (2 - (lg_sl ([.ref (ad 90), .int x1])).length) Slot.unset).toArray = ls at hl ⊢
  have hl : lv_has ls 2 [(0, .ref (ad 90)), (1, .int (x1))] := hl
  refine lv_aload_n hx hb dX4_pull_0 rfl (lv_at hl 0 rfl) ?_
  refine va_get hx hb hts hi_X4_pull_X4 hown hK hP 0 (bd_o90 cI ad F G) rfl 2 (by decide) (hts _ (List.mem_of_getElem? (i := 1) rfl)) (fun _ h9 => h9) rfl dX4_pull_1 ?_
  refine lv_iload_n hx hb dX4_pull_4 rfl (lv_at hl 1 rfl) ?_
  obtain ⟨v1, hc2, h⟩ := q_some h
  refine q_cs (W.runV (C := RX3) (As := [.int (x1)]) (rest := []) ⟨hx, hb, hml, hown, hts⟩ (mt_X3_has l D cI ad F G x1 v1 hc2) (cwV 1 hts gX4_pull_X3_has rfl rfl rfl (by decide +kernel) ⟨Nat.le_of_ble_eq_true rfl, Nat.le_of_ble_eq_true rfl⟩) ⟨wyR_b, va_recv hK hP (ci := 3) (q0 := 8) rfl rfl, (wyR_p (bd_wy hP) hK hN).2⟩ rfl rfl hl.1 rfl (lv_room (Nat.le_of_ble_eq_true rfl)) dX4_pull_5 ⟨Nat.le_of_ble_eq_true rfl, Nat.le_of_ble_eq_true rfl⟩) ?_
  refine q_if_eq (tgt := 26) hx hb dX4_pull_8 (by decide) h (fun h => ?_) (fun h => ?_)
  · refine lv_iconst (v := -1) hx hb dX4_pull_26 (by decide) ?_
    have e1 := congrArg Prod.fst (Option.some.inj h)
    have e2 := congrArg (fun z => z.2.1) (Option.some.inj h)
    have e3 := congrArg (fun z => z.2.2) (Option.some.inj h)
    dsimp only at e1 e2 e3
    exact W.iret hx hb hr (fun t ht hW => ⟨⟨_, (), rfl, e1, by show va_P D vwCl _ t.heap; rw [ht, ← e2, ← e3]; exact hP⟩, hS.F ht⟩) hS.2.2 dX4_pull_27
  · refine lv_aload_n hx hb dX4_pull_11 rfl (lv_at hl 0 rfl) ?_
    refine va_get hx hb hts hi_X4_pull_X4 hown hK hP 0 (bd_o90 cI ad F G) rfl 1 (by decide) (hts _ (List.mem_of_getElem? (i := 2) rfl)) (fun _ h9 => h9) rfl dX4_pull_12 ?_
    refine lv_aload_n hx hb dX4_pull_15 rfl (lv_at hl 0 rfl) ?_
    refine va_get hx hb hts hi_X4_pull_X4 hown hK hP 0 (bd_o90 cI ad F G) rfl 2 (by decide) (hts _ (List.mem_of_getElem? (i := 1) rfl)) (fun _ h9 => h9) rfl dX4_pull_16 ?_
    refine lv_iload_n hx hb dX4_pull_19 rfl (lv_at hl 1 rfl) ?_
    obtain ⟨⟨v3, F4, G5⟩, hc6, h⟩ := q_some h
    refine q_si (Wd := fun y z => bdW cI ad y z) (va_runV (C := RX1) (As := [.ref (ad 22), .int (x1)]) (rest := []) ⟨hx, hb, hml, hown, hts⟩ (mt_X1_markPulledOut l D cI ad F G x1 v3 F4 G5 (bd_mw_D hDD) hc6) (cwV 2 hts gX4_pull_X1_markPulledOut rfl rfl rfl (by decide +kernel) ⟨Nat.le_of_ble_eq_true rfl, Nat.le_of_ble_eq_true rfl⟩) ⟨mwR_b, va_recv hK hP (ci := 1) (q0 := 6) rfl rfl, (mwR_p (bd_mw hP) hK hN).2⟩ rfl rfl hl.1 rfl (lv_room (Nat.le_of_ble_eq_true rfl)) dX4_pull_20 ⟨Nat.le_of_ble_eq_true rfl, Nat.le_of_ble_eq_true rfl⟩) (bd_mw_A) hS (fun H1 hB hk => bd_mw_back hDD hP hk hB) h (fun F7 G8 H locs h hP hS => ?_)
    refine lv_goto (tgt := 27) hx hb dX4_pull_23 (by decide) ?_
    have e1 := congrArg Prod.fst (Option.some.inj h)
    have e2 := congrArg (fun z => z.2.1) (Option.some.inj h)
    have e3 := congrArg (fun z => z.2.2) (Option.some.inj h)
    dsimp only at e1 e2 e3
    exact W.iret hx hb hr (fun t ht hW => ⟨⟨_, (), rfl, e1, by show va_P D vwCl _ t.heap; rw [ht, ← e2, ← e3]; exact hP⟩, hS.F ht⟩) hS.2.2 dX4_pull_27
theorem hi_X4_pulled_X1 : ∀ w ∈ u_ws RX1 TX1 1, w ∈ wsX4_pulled := fun w h => (List.mem_cons_of_mem _ (List.mem_append_left _ (List.mem_append_right _ h)))
theorem hi_X4_pulled_X4 : ∀ w ∈ u_ws RX4 TX4 4, w ∈ wsX4_pulled := fun w h => (List.mem_cons_of_mem _ (List.mem_append_left _ (List.mem_append_left _ (List.mem_append_right _ h))))
set_option maxHeartbeats 4000000 in
set_option maxRecDepth 100000 in
theorem mt_X4_pulled (l : Launch) (D : va_G) (cI : ClassId) (ad : Nat → Nat) (F : Nat → Int32) (G : Nat → Nat → Int32) (x1 : Int32) (x2 : Int32) (rv : Int32) (Fz : Nat → Int32) (Gz : Nat → Nat → Int32) (hDD : va_D (fun _ => True) (bdW cI ad (fun _ => 0) (fun _ _ => 0))) (h : f_X4_pulled F G x1 x2 = some (rv, Fz, Gz)) : Met l yX4_pulled wsX4_pulled ({ frames := 3, cells := 0, slots := 0, locals := 69 } : Room) (va_Pc [.ref (ad 90), .int x1, .int x2] (bdR D cI ad F G)) (va_Qi (fun z (_ : Unit) => z = rv) (fun _ t => va_P D vwCl (bdW cI ad Fz Gz) t.heap) (bdA cI ad)) 0 0 (bdA cI ad) := by
  refine Met.ofW (cc := cX4_pulled) (maxL := 3) (ret := (some .int)) (by decide) rfl ?_
  intro p e s m args below meth c s₁ B hml hv
  obtain ⟨rfl, hP, hK, hN⟩ := hv
  have hx := B.exec
  have hb := B.bytes
  have hr := B.returns
  have hts := atoms_spec (ws := wsX4_pulled) B.pre
  have hown : s.vm.findClass RX4 = some m.cls := findClass_of_methodNamed B.named
  have hlocks := B.notSynchronized
  have hS : va_S (bdA cI ad) s.heap s.heap [] := va_S.rf
  have hl := lv_entry ([.ref (ad 90), .int x1, .int x2]) (n := 3) (Nat.le_of_ble_eq_true rfl)
  rw [lg_entry_eq]
  generalize (lg_sl ([.ref (ad 90), .int x1, .int x2]) ++ List.replicate (3 - (lg_sl ([.ref (ad 90), .int x1, .int x2])).length) Slot.unset).toArray = ls at hl ⊢
  have hl : lv_has ls 3 [(0, .ref (ad 90)), (1, .int (x1)), (2, .int (x2))] := hl
  refine lv_aload_n hx hb dX4_pulled_0 rfl (lv_at hl 0 rfl) ?_
  refine va_get hx hb hts hi_X4_pulled_X4 hown hK hP 0 (bd_o90 cI ad F G) rfl 2 (by decide) (hts _ (List.mem_of_getElem? (i := 1) rfl)) (fun _ h9 => h9) rfl dX4_pulled_1 ?_
  refine lv_iload_n hx hb dX4_pulled_4 rfl (lv_at hl 1 rfl) ?_
  obtain ⟨v1, hc2, h⟩ := q_some h
  refine q_cs (W.runV (C := RX3) (As := [.int (x1)]) (rest := []) ⟨hx, hb, hml, hown, hts⟩ (mt_X3_has l D cI ad F G x1 v1 hc2) (cwV 1 hts gX4_pulled_X3_has rfl rfl rfl (by decide +kernel) ⟨Nat.le_of_ble_eq_true rfl, Nat.le_of_ble_eq_true rfl⟩) ⟨wyR_b, va_recv hK hP (ci := 3) (q0 := 8) rfl rfl, (wyR_p (bd_wy hP) hK hN).2⟩ rfl rfl hl.1 rfl (lv_room (Nat.le_of_ble_eq_true rfl)) dX4_pulled_5 ⟨Nat.le_of_ble_eq_true rfl, Nat.le_of_ble_eq_true rfl⟩) ?_
  refine q_if_eq (tgt := 22) hx hb dX4_pulled_8 (by decide) h (fun h => ?_) (fun h => ?_)
  · refine lv_iconst (v := -1) hx hb dX4_pulled_22 (by decide) ?_
    have e1 := congrArg Prod.fst (Option.some.inj h)
    have e2 := congrArg (fun z => z.2.1) (Option.some.inj h)
    have e3 := congrArg (fun z => z.2.2) (Option.some.inj h)
    dsimp only at e1 e2 e3
    exact W.iret hx hb hr (fun t ht hW => ⟨⟨_, (), rfl, e1, by show va_P D vwCl _ t.heap; rw [ht, ← e2, ← e3]; exact hP⟩, hS.F ht⟩) hS.2.2 dX4_pulled_23
  · refine lv_aload_n hx hb dX4_pulled_11 rfl (lv_at hl 0 rfl) ?_
    refine va_get hx hb hts hi_X4_pulled_X4 hown hK hP 0 (bd_o90 cI ad F G) rfl 2 (by decide) (hts _ (List.mem_of_getElem? (i := 1) rfl)) (fun _ h9 => h9) rfl dX4_pulled_12 ?_
    refine lv_iload_n hx hb dX4_pulled_15 rfl (lv_at hl 2 rfl) ?_
    obtain ⟨v3, hc4, h⟩ := q_some h
    refine q_cs (W.runV (C := RX3) (As := [.int (x2)]) (rest := []) ⟨hx, hb, hml, hown, hts⟩ (mt_X3_has l D cI ad F G x2 v3 hc4) (cwV 1 hts gX4_pulled_X3_has rfl rfl rfl (by decide +kernel) ⟨Nat.le_of_ble_eq_true rfl, Nat.le_of_ble_eq_true rfl⟩) ⟨wyR_b, va_recv hK hP (ci := 3) (q0 := 8) rfl rfl, (wyR_p (bd_wy hP) hK hN).2⟩ rfl rfl hl.1 rfl (lv_room (Nat.le_of_ble_eq_true rfl)) dX4_pulled_16 ⟨Nat.le_of_ble_eq_true rfl, Nat.le_of_ble_eq_true rfl⟩) ?_
    refine q_if_ne (tgt := 24) hx hb dX4_pulled_19 (by decide) h (fun h => ?_) (fun h => ?_)
    · refine lv_aload_n hx hb dX4_pulled_24 rfl (lv_at hl 0 rfl) ?_
      refine va_get hx hb hts hi_X4_pulled_X4 hown hK hP 0 (bd_o90 cI ad F G) rfl 1 (by decide) (hts _ (List.mem_of_getElem? (i := 2) rfl)) (fun _ h9 => h9) rfl dX4_pulled_25 ?_
      refine lv_aload_n hx hb dX4_pulled_28 rfl (lv_at hl 0 rfl) ?_
      refine va_get hx hb hts hi_X4_pulled_X4 hown hK hP 0 (bd_o90 cI ad F G) rfl 2 (by decide) (hts _ (List.mem_of_getElem? (i := 1) rfl)) (fun _ h9 => h9) rfl dX4_pulled_29 ?_
      refine lv_iload_n hx hb dX4_pulled_32 rfl (lv_at hl 1 rfl) ?_
      obtain ⟨⟨v5, F6, G7⟩, hc8, h⟩ := q_some h
      refine q_si (Wd := fun y z => bdW cI ad y z) (va_runV (C := RX1) (As := [.ref (ad 22), .int (x1)]) (rest := []) ⟨hx, hb, hml, hown, hts⟩ (mt_X1_markPulledOut l D cI ad F G x1 v5 F6 G7 (bd_mw_D hDD) hc8) (cwV 2 hts gX4_pulled_X1_markPulledOut rfl rfl rfl (by decide +kernel) ⟨Nat.le_of_ble_eq_true rfl, Nat.le_of_ble_eq_true rfl⟩) ⟨mwR_b, va_recv hK hP (ci := 1) (q0 := 6) rfl rfl, (mwR_p (bd_mw hP) hK hN).2⟩ rfl rfl hl.1 rfl (lv_room (Nat.le_of_ble_eq_true rfl)) dX4_pulled_33 ⟨Nat.le_of_ble_eq_true rfl, Nat.le_of_ble_eq_true rfl⟩) (bd_mw_A) hS (fun H1 hB hk => bd_mw_back hDD hP hk hB) h (fun F9 G10 H locs h hP hS => ?_)
      refine lv_pop hx hb dX4_pulled_36 rfl ?_
      refine lv_aload_n hx hb dX4_pulled_37 rfl (lv_at hl 0 rfl) ?_
      refine va_get hx hb hts hi_X4_pulled_X4 hown hK hP 0 (bd_o90 cI ad F9 G10) rfl 1 (by decide) (hts _ (List.mem_of_getElem? (i := 2) rfl)) (fun _ h9 => h9) rfl dX4_pulled_38 ?_
      refine va_get hx hb hts hi_X4_pulled_X1 hown hK hP 6 (bd_o41 cI ad F9 G10) rfl 0 (by decide) (hts _ (List.mem_of_getElem? (i := 3) rfl)) (fun _ h9 => h9) rfl dX4_pulled_41 ?_
      refine lv_iload_n hx hb dX4_pulled_44 rfl (lv_at hl 2 rfl) ?_
      refine q_ld hx hb hK hP 7 0 (bd_a40 cI ad F9 G10) rfl dX4_pulled_45 h (fun v11 h => ?_)
      have e1 := congrArg Prod.fst (Option.some.inj h)
      have e2 := congrArg (fun z => z.2.1) (Option.some.inj h)
      have e3 := congrArg (fun z => z.2.2) (Option.some.inj h)
      dsimp only at e1 e2 e3
      exact W.iret hx hb hr (fun t ht hW => ⟨⟨_, (), rfl, e1, by show va_P D vwCl _ t.heap; rw [ht, ← e2, ← e3]; exact hP⟩, hS.F ht⟩) hS.2.2 dX4_pulled_46
    · refine lv_iconst (v := -1) hx hb dX4_pulled_22 (by decide) ?_
      have e1 := congrArg Prod.fst (Option.some.inj h)
      have e2 := congrArg (fun z => z.2.1) (Option.some.inj h)
      have e3 := congrArg (fun z => z.2.2) (Option.some.inj h)
      dsimp only at e1 e2 e3
      exact W.iret hx hb hr (fun t ht hW => ⟨⟨_, (), rfl, e1, by show va_P D vwCl _ t.heap; rw [ht, ← e2, ← e3]; exact hP⟩, hS.F ht⟩) hS.2.2 dX4_pulled_23
