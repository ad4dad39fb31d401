theorem hi_X2_empty_X2 : ∀ w ∈ u_ws RX2 TX2 2, w ∈ wsX2_empty := fun w h => (List.mem_cons_of_mem _ (List.mem_append_right _ h))
set_option maxHeartbeats 4000000 in
set_option maxRecDepth 100000 in
theorem mt_X2_empty (l : Launch) (D : va_G) (cI : ClassId) (ad : Nat → Nat) (F : Nat → Int32) (G : Nat → Nat → Int32)  (Fz : Nat → Int32) (Gz : Nat → Nat → Int32) (hDD : va_D (fun _ => True) (kwW cI ad (fun _ => 0) (fun _ _ => 0))) (h : f_X2_empty F G  = some (Fz, Gz)) : Met l yX2_empty wsX2_empty ({ frames := 0, cells := 0, slots := 0, locals := 0 } : Room) (va_Pc [.ref (ad 9)] (kwR D cI ad F G)) (va_Qv (fun (_ : Unit) => True) (fun _ t => va_P D vwCl (kwW cI ad Fz Gz) t.heap) (kwA cI ad)) 0 0 (kwA cI ad) := by
  refine Met.ofW (cc := cX2_empty) (maxL := 1) (ret := none) (by decide) rfl ?_
  intro p e s m args below meth c s₁ B hml hv
  obtain ⟨rfl, hP, hK, hN⟩ := hv
  have hx := B.exec
  have hb := B.bytes
  have hr := B.returns
  have hts := atoms_spec (ws := wsX2_empty) B.pre
  have hown : s.vm.findClass RX2 = some m.cls := findClass_of_methodNamed B.named
  have hlocks := B.notSynchronized
  have hS : va_S (kwA cI ad) s.heap s.heap [] := va_S.rf
  have hl := lv_entry ([.ref (ad 9)]) (n := 1) (Nat.le_of_ble_eq_true rfl)
  rw [lg_entry_eq]
  generalize (lg_sl ([.ref (ad 9)]) ++ List.replicate (1 - (lg_sl ([.ref (ad 9)])).length) Slot.unset).toArray = ls at hl ⊢
  have hl : lv_has ls 1 [(0, .ref (ad 9))] := hl
  refine lv_aload_n hx hb dX2_empty_0 rfl (lv_at hl 0 rfl) ?_
  refine lv_iconst (v := 0) hx hb dX2_empty_1 (by decide) ?_
  refine q_put (ty := .int) hx hb hts hi_X2_empty_X2 tyX2 tyX2_ok nmX2 hown hK hP (kwW_D hDD _ _) hS 10 21 (fun z => kwW cI ad z G) (kw_o9 cI ad F G) rfl 1 (by decide) (hts _ (List.mem_of_getElem? (i := 1) rfl)) (fun _ h9 => h9) rfl (by decide +kernel) rfl rfl (Nat.le_of_ble_eq_true rfl) (kw_f21 cI ad F G _) dX2_empty_2 h (fun F1 H locs h hP hS => ?_)
  have e2 := congrArg Prod.fst (Option.some.inj h)
  have e3 := congrArg Prod.snd (Option.some.inj h)
  dsimp only at e2 e3
  exact W.vret hx hb hr (fun t ht hW => ⟨⟨(), rfl, trivial, by show va_P D vwCl _ t.heap; rw [ht, ← e2, ← e3]; exact hP⟩, hS.F ht⟩) hS.2.2 dX2_empty_5
theorem hi_X2_pass_X2 : ∀ w ∈ u_ws RX2 TX2 2, w ∈ wsX2_pass := fun w h => (List.mem_cons_of_mem _ (List.mem_append_right _ h))
set_option maxHeartbeats 4000000 in
set_option maxRecDepth 100000 in
theorem mt_X2_pass (l : Launch) (D : va_G) (cI : ClassId) (ad : Nat → Nat) (F : Nat → Int32) (G : Nat → Nat → Int32) (x1 : Int32) (Fz : Nat → Int32) (Gz : Nat → Nat → Int32) (hDD : va_D (fun _ => True) (kwW cI ad (fun _ => 0) (fun _ _ => 0))) (h : f_X2_pass F G x1 = some (Fz, Gz)) : Met l yX2_pass wsX2_pass ({ frames := 0, cells := 0, slots := 0, locals := 0 } : Room) (va_Pc [.ref (ad 9), .int x1] (kwR D cI ad F G)) (va_Qv (fun (_ : Unit) => True) (fun _ t => va_P D vwCl (kwW cI ad Fz Gz) t.heap) (kwA cI ad)) 0 0 (kwA cI ad) := by
  refine Met.ofW (cc := cX2_pass) (maxL := 2) (ret := none) (by decide) rfl ?_
  intro p e s m args below meth c s₁ B hml hv
  obtain ⟨rfl, hP, hK, hN⟩ := hv
  have hx := B.exec
  have hb := B.bytes
  have hr := B.returns
  have hts := atoms_spec (ws := wsX2_pass) B.pre
  have hown : s.vm.findClass RX2 = some m.cls := findClass_of_methodNamed B.named
  have hlocks := B.notSynchronized
  have hS : va_S (kwA cI ad) s.heap s.heap [] := va_S.rf
  have hl := lv_entry ([.ref (ad 9), .int x1]) (n := 2) (Nat.le_of_ble_eq_true rfl)
  rw [lg_entry_eq]
  generalize (lg_sl ([.ref (ad 9), .int x1]) ++ List.replicate (2 - (lg_sl ([.ref (ad 9), .int x1])).length) Slot.unset).toArray = ls at hl ⊢
  have hl : lv_has ls 2 [(0, .ref (ad 9)), (1, .int (x1))] := hl
  refine lv_iload_n hx hb dX2_pass_0 rfl (lv_at hl 1 rfl) ?_
  refine lv_iconst (v := -1) hx hb dX2_pass_1 (by decide) ?_
  refine q_icmp_eq (tgt := 33) hx hb dX2_pass_2 (by decide) h (fun h => ?_) (fun h => ?_)
  · have e2 := congrArg Prod.fst (Option.some.inj h)
    have e3 := congrArg Prod.snd (Option.some.inj h)
    dsimp only at e2 e3
    exact W.vret hx hb hr (fun t ht hW => ⟨⟨(), rfl, trivial, by show va_P D vwCl _ t.heap; rw [ht, ← e2, ← e3]; exact hP⟩, hS.F ht⟩) hS.2.2 dX2_pass_33
  · refine lv_aload_n hx hb dX2_pass_5 rfl (lv_at hl 0 rfl) ?_
    refine va_get hx hb hts hi_X2_pass_X2 hown hK hP 10 (kw_o9 cI ad F G) rfl 1 (by decide) (hts _ (List.mem_of_getElem? (i := 1) rfl)) (fun _ h9 => h9) rfl dX2_pass_6 ?_
    refine lv_iconst (v := 4) hx hb dX2_pass_9 (by decide) ?_
    refine q_icmp_ge (tgt := 33) hx hb dX2_pass_10 (by decide) h (fun h => ?_) (fun h => ?_)
    · have e2 := congrArg Prod.fst (Option.some.inj h)
      have e3 := congrArg Prod.snd (Option.some.inj h)
      dsimp only at e2 e3
      exact W.vret hx hb hr (fun t ht hW => ⟨⟨(), rfl, trivial, by show va_P D vwCl _ t.heap; rw [ht, ← e2, ← e3]; exact hP⟩, hS.F ht⟩) hS.2.2 dX2_pass_33
    · refine lv_aload_n hx hb dX2_pass_13 rfl (lv_at hl 0 rfl) ?_
      refine va_get hx hb hts hi_X2_pass_X2 hown hK hP 10 (kw_o9 cI ad F G) rfl 0 (by decide) (hts _ (List.mem_of_getElem? (i := 2) rfl)) (fun _ h9 => h9) rfl dX2_pass_14 ?_
      refine lv_aload_n hx hb dX2_pass_17 rfl (lv_at hl 0 rfl) ?_
      refine va_get hx hb hts hi_X2_pass_X2 hown hK hP 10 (kw_o9 cI ad F G) rfl 1 (by decide) (hts _ (List.mem_of_getElem? (i := 1) rfl)) (fun _ h9 => h9) rfl dX2_pass_18 ?_
      refine lv_iload_n hx hb dX2_pass_21 rfl (lv_at hl 1 rfl) ?_
      refine q_st hx hb hK hP (kwW_D hDD _ _) hS 11 0 20 (fun z => kwW cI ad F z) (kw_a20 cI ad F G) rfl (kw_g20 cI ad F G _) dX2_pass_22 h (fun G1 H locs h hP hS => ?_)
      refine lv_aload_n hx hb dX2_pass_23 rfl (lv_at hl 0 rfl) ?_
      refine lv_dup hx hb dX2_pass_24 rfl ?_
      refine va_get hx hb hts hi_X2_pass_X2 hown hK hP 10 (kw_o9 cI ad F G1) rfl 1 (by decide) (hts _ (List.mem_of_getElem? (i := 1) rfl)) (fun _ h9 => h9) rfl dX2_pass_25 ?_
      refine lv_iconst (v := 1) hx hb dX2_pass_28 (by decide) ?_
      refine lv_iadd hx hb dX2_pass_29 ?_
      refine q_put (ty := .int) hx hb hts hi_X2_pass_X2 tyX2 tyX2_ok nmX2 hown hK hP (kwW_D hDD _ _) hS 10 21 (fun z => kwW cI ad z G1) (kw_o9 cI ad F G1) rfl 1 (by decide) (hts _ (List.mem_of_getElem? (i := 1) rfl)) (fun _ h9 => h9) rfl (by decide +kernel) rfl rfl (Nat.le_of_ble_eq_true rfl) (kw_f21 cI ad F G1 _) dX2_pass_30 h (fun F2 H locs h hP hS => ?_)
      have e2 := congrArg Prod.fst (Option.some.inj h)
      have e3 := congrArg Prod.snd (Option.some.inj h)
      dsimp only at e2 e3
      exact W.vret hx hb hr (fun t ht hW => ⟨⟨(), rfl, trivial, by show va_P D vwCl _ t.heap; rw [ht, ← e2, ← e3]; exact hP⟩, hS.F ht⟩) hS.2.2 dX2_pass_33
theorem hi_X2_threadNeeded_X0 : ∀ w ∈ u_ws RX0 TX0 8, w ∈ wsX2_threadNeeded := fun w h => (List.mem_cons_of_mem _ (List.mem_append_right _ h))
theorem hi_X2_threadNeeded_X2 : ∀ w ∈ u_ws RX2 TX2 2, w ∈ wsX2_threadNeeded := fun w h => (List.mem_cons_of_mem _ (List.mem_append_left _ (List.mem_append_right _ h)))
set_option maxHeartbeats 4000000 in
set_option maxRecDepth 100000 in
theorem mt_X2_threadNeeded (l : Launch) (D : va_G) (cI : ClassId) (ad : Nat → Nat) (F : Nat → Int32) (G : Nat → Nat → Int32)  (rv : Int32) (h : f_X2_threadNeeded F G  = some rv) : Met l yX2_threadNeeded wsX2_threadNeeded ({ frames := 0, cells := 0, slots := 0, locals := 0 } : Room) (va_Pc [.ref (ad 9), .ref (ad 38), .ref (ad 1)] (kwR D cI ad F G)) (vp_Si (fun z => z = rv)) 0 0 (fun _ => False) := by
  refine Met.ofW (cc := cX2_threadNeeded) (maxL := 5) (ret := (some .int)) (by decide) rfl ?_
  intro p e s m args below meth c s₁ B hml hv
  obtain ⟨rfl, hP, hK, hN⟩ := hv
  have hx := B.exec
  have hb := B.bytes
  have hr := B.returns
  have hts := atoms_spec (ws := wsX2_threadNeeded) B.pre
  have hown : s.vm.findClass RX2 = some m.cls := findClass_of_methodNamed B.named
  have hlocks := B.notSynchronized
  have hl := lv_entry ([.ref (ad 9), .ref (ad 38), .ref (ad 1)]) (n := 5) (Nat.le_of_ble_eq_true rfl)
  rw [lg_entry_eq]
  generalize (lg_sl ([.ref (ad 9), .ref (ad 38), .ref (ad 1)]) ++ List.replicate (5 - (lg_sl ([.ref (ad 9), .ref (ad 38), .ref (ad 1)])).length) Slot.unset).toArray = ls at hl ⊢
  have hl : lv_has ls 5 [(0, .ref (ad 9)), (1, .ref (ad 38)), (2, .ref (ad 1))] := hl
  have j5 : ∀ n5 : Nat, ∀ (x3 : Int32) (x4 : Int32) , ∀ ls : Array Slot, lv_has ls 5 [(0, .ref (ad 9)), (1, .ref (ad 38)), (2, .ref (ad 1)), (3, .int (x3)), (4, .int (x4))] → f_X2_threadNeeded_L5 F G n5 x3 x4 = some rv → W p l e (headSpec wsX2_threadNeeded ({ frames := 0, cells := 0, slots := 0, locals := 0 } : Room)).room s m (List.toArray ([.ref (ad 9), .ref (ad 38), .ref (ad 1)] : List Value)) below meth c s.heap [] 0 0 (MQ below (vp_Si (fun z => z = rv)) (List.toArray ([.ref (ad 9), .ref (ad 38), .ref (ad 1)] : List Value)) s 0 0 (fun _ => False)) (F0 m 5 ls []) := by
    intro n5
    induction n5 with
    | zero =>
      intro x3 x4 ls hl h
      cases h
    | succ n5 ih5 =>
      intro x3 x4 ls hl h
      replace h : f_X2_threadNeeded_L5_b (f_X2_threadNeeded_L5 F G n5) F G x3 x4 = some rv := h
      refine lv_iload hx hb dX2_threadNeeded_5 (lv_at hl 4 rfl) ?_
      refine lv_aload_n hx hb dX2_threadNeeded_7 rfl (lv_at hl 0 rfl) ?_
      refine va_get hx hb hts hi_X2_threadNeeded_X2 hown hK hP 10 (kw_o9 cI ad F G) rfl 1 (by decide) (hts _ (List.mem_of_getElem? (i := 1) rfl)) (fun _ h9 => h9) rfl dX2_threadNeeded_8 ?_
      refine q_icmp_ge (tgt := 37) hx hb dX2_threadNeeded_11 (by decide) h (fun h => ?_) (fun h => ?_)
      · refine lv_iload_n hx hb dX2_threadNeeded_37 rfl (lv_at hl 3 rfl) ?_
        exact W.iret hx hb hr (fun t ht hW => ⟨_, rfl, Option.some.inj h, ht⟩) (fun q hq9 => by cases hq9) dX2_threadNeeded_38
      · refine lv_iload_n hx hb dX2_threadNeeded_14 rfl (lv_at hl 3 rfl) ?_
        refine lv_aload_n hx hb dX2_threadNeeded_15 rfl (lv_at hl 1 rfl) ?_
        refine va_get hx hb hts hi_X2_threadNeeded_X0 hown hK hP 12 (kw_o38 cI ad F G) rfl 2 (by decide) (hts _ (List.mem_of_getElem? (i := 2) rfl)) (fun _ h9 => h9) rfl dX2_threadNeeded_16 ?_
        refine lv_aload_n hx hb dX2_threadNeeded_19 rfl (lv_at hl 2 rfl) ?_
        refine lv_aload_n hx hb dX2_threadNeeded_20 rfl (lv_at hl 0 rfl) ?_
        refine va_get hx hb hts hi_X2_threadNeeded_X2 hown hK hP 10 (kw_o9 cI ad F G) rfl 0 (by decide) (hts _ (List.mem_of_getElem? (i := 3) rfl)) (fun _ h9 => h9) rfl dX2_threadNeeded_21 ?_
        refine lv_iload hx hb dX2_threadNeeded_24 (lv_at hl 4 rfl) ?_
        refine q_ld hx hb hK hP 11 0 (kw_a20 cI ad F G) rfl dX2_threadNeeded_26 h (fun v1 h => ?_)
        refine q_ld hx hb hK hP 2 0 (kw_a1 cI ad F G) rfl dX2_threadNeeded_27 h (fun v2 h => ?_)
        refine q_ld hx hb hK hP 15 0 (kw_a32 cI ad F G) rfl dX2_threadNeeded_28 h (fun v3 h => ?_)
        refine lv_iadd hx hb dX2_threadNeeded_29 ?_
        refine q_nm h (fun v4 h => ?_)
        refine lv_istore_n (lv' := [(3, .int (v4)), (0, .ref (ad 9)), (1, .ref (ad 38)), (2, .ref (ad 1)), (4, .int (x4))]) hx hb dX2_threadNeeded_30 rfl hl (by decide) rfl (fun ls hl => ?_)
        refine q_iinc (j := 4) (d := (1 : Int32)) (lv2 := fun v5 => [(4, .int (v5)), (3, .int (v4)), (0, .ref (ad 9)), (1, .ref (ad 38)), (2, .ref (ad 1))]) hx hb dX2_threadNeeded_31 hl rfl (by decide) (by decide) (fun _ => rfl) h (fun v5 ls hl h => ?_)
        refine lv_goto (tgt := 5) hx hb dX2_threadNeeded_34 (by decide) ?_
        exact ih5 v4 v5 _ (lv_sub hl [2, 3, 4, 1, 0] rfl) h
  refine lv_iconst (v := 0) hx hb dX2_threadNeeded_0 (by decide) ?_
  refine q_nm h (fun v6 h => ?_)
  refine lv_istore_n (lv' := [(3, .int (v6)), (0, .ref (ad 9)), (1, .ref (ad 38)), (2, .ref (ad 1))]) hx hb dX2_threadNeeded_1 rfl hl (by decide) rfl (fun ls hl => ?_)
  refine lv_iconst (v := 0) hx hb dX2_threadNeeded_2 (by decide) ?_
  refine q_nm h (fun v7 h => ?_)
  refine lv_istore (lv' := [(4, .int (v7)), (3, .int (v6)), (0, .ref (ad 9)), (1, .ref (ad 38)), (2, .ref (ad 1))]) hx hb dX2_threadNeeded_3 hl (by decide) rfl (fun ls hl => ?_)
  exact j5 1000 v6 v7 _ (lv_sub hl [2, 3, 4, 1, 0] rfl) h
theorem hi_X2_passesUpTo_X2 : ∀ w ∈ u_ws RX2 TX2 2, w ∈ wsX2_passesUpTo := fun w h => (List.mem_cons_of_mem _ (List.mem_append_right _ h))
set_option maxHeartbeats 4000000 in
set_option maxRecDepth 100000 in
theorem mt_X2_passesUpTo (l : Launch) (D : va_G) (cI : ClassId) (ad : Nat → Nat) (F : Nat → Int32) (G : Nat → Nat → Int32) (x1 : Int32) (rv : Int32) (h : f_X2_passesUpTo F G x1 = some rv) : Met l yX2_passesUpTo wsX2_passesUpTo ({ frames := 0, cells := 0, slots := 0, locals := 0 } : Room) (va_Pc [.ref (ad 9), .int x1] (kwR D cI ad F G)) (vp_Si (fun z => z = rv)) 0 0 (fun _ => False) := by
  refine Met.ofW (cc := cX2_passesUpTo) (maxL := 4) (ret := (some .int)) (by decide) rfl ?_
  intro p e s m args below meth c s₁ B hml hv
  obtain ⟨rfl, hP, hK, hN⟩ := hv
  have hx := B.exec
  have hb := B.bytes
  have hr := B.returns
  have hts := atoms_spec (ws := wsX2_passesUpTo) B.pre
  have hown : s.vm.findClass RX2 = some m.cls := findClass_of_methodNamed B.named
  have hlocks := B.notSynchronized
  have hl := lv_entry ([.ref (ad 9), .int x1]) (n := 4) (Nat.le_of_ble_eq_true rfl)
  rw [lg_entry_eq]
  generalize (lg_sl ([.ref (ad 9), .int x1]) ++ List.replicate (4 - (lg_sl ([.ref (ad 9), .int x1])).length) Slot.unset).toArray = ls at hl ⊢
  have hl : lv_has ls 4 [(0, .ref (ad 9)), (1, .int (x1))] := hl
  have j4 : ∀ n4 : Nat, ∀ (x2 : Int32) (x3 : Int32) , ∀ ls : Array Slot, lv_has ls 4 [(0, .ref (ad 9)), (1, .int (x1)), (2, .int (x2)), (3, .int (x3))] → f_X2_passesUpTo_L4 F G x1 n4 x2 x3 = some rv → W p l e (headSpec wsX2_passesUpTo ({ frames := 0, cells := 0, slots := 0, locals := 0 } : Room)).room s m (List.toArray ([.ref (ad 9), .int x1] : List Value)) below meth c s.heap [] 0 0 (MQ below (vp_Si (fun z => z = rv)) (List.toArray ([.ref (ad 9), .int x1] : List Value)) s 0 0 (fun _ => False)) (F0 m 4 ls []) := by
    intro n4
    induction n4 with
    | zero =>
      intro x2 x3 ls hl h
      cases h
    | succ n4 ih4 =>
      have j27 : ∀ (x2 : Int32) (x3 : Int32) , ∀ ls : Array Slot, lv_has ls 4 [(0, .ref (ad 9)), (1, .int (x1)), (2, .int (x2)), (3, .int (x3))] → f_X2_passesUpTo_B27 (f_X2_passesUpTo_L4 F G x1 n4) F G x1 x2 x3 = some rv → W p l e (headSpec wsX2_passesUpTo ({ frames := 0, cells := 0, slots := 0, locals := 0 } : Room)).room s m (List.toArray ([.ref (ad 9), .int x1] : List Value)) below meth c s.heap [] 0 0 (MQ below (vp_Si (fun z => z = rv)) (List.toArray ([.ref (ad 9), .int x1] : List Value)) s 0 0 (fun _ => False)) (F0 m 27 ls []) := by
        intro x2 x3 ls hl h
        refine q_iinc (j := 3) (d := (1 : Int32)) (lv2 := fun v1 => [(3, .int (v1)), (0, .ref (ad 9)), (1, .int (x1)), (2, .int (x2))]) hx hb dX2_passesUpTo_27 hl rfl (by decide) (by decide) (fun _ => rfl) h (fun v1 ls hl h => ?_)
        refine lv_goto (tgt := 4) hx hb dX2_passesUpTo_30 (by decide) ?_
        exact ih4 x2 v1 _ (lv_sub hl [1, 2, 3, 0] rfl) h
      intro x2 x3 ls hl h
      replace h : f_X2_passesUpTo_L4_b (f_X2_passesUpTo_L4 F G x1 n4) F G x1 x2 x3 = some rv := h
      refine lv_iload_n hx hb dX2_passesUpTo_4 rfl (lv_at hl 3 rfl) ?_
      refine lv_iload_n hx hb dX2_passesUpTo_5 rfl (lv_at hl 1 rfl) ?_
      refine q_icmp_gt (tgt := 33) hx hb dX2_passesUpTo_6 (by decide) h (fun h => ?_) (fun h => ?_)
      · refine lv_iload_n hx hb dX2_passesUpTo_33 rfl (lv_at hl 2 rfl) ?_
        exact W.iret hx hb hr (fun t ht hW => ⟨_, rfl, Option.some.inj h, ht⟩) (fun q hq9 => by cases hq9) dX2_passesUpTo_34
      · refine lv_aload_n hx hb dX2_passesUpTo_9 rfl (lv_at hl 0 rfl) ?_
        refine va_get hx hb hts hi_X2_passesUpTo_X2 hown hK hP 10 (kw_o9 cI ad F G) rfl 0 (by decide) (hts _ (List.mem_of_getElem? (i := 1) rfl)) (fun _ h9 => h9) rfl dX2_passesUpTo_10 ?_
        refine lv_iload_n hx hb dX2_passesUpTo_13 rfl (lv_at hl 3 rfl) ?_
        refine q_ld hx hb hK hP 11 0 (kw_a20 cI ad F G) rfl dX2_passesUpTo_14 h (fun v2 h => ?_)
        refine lv_aload_n hx hb dX2_passesUpTo_15 rfl (lv_at hl 0 rfl) ?_
        refine va_get hx hb hts hi_X2_passesUpTo_X2 hown hK hP 10 (kw_o9 cI ad F G) rfl 0 (by decide) (hts _ (List.mem_of_getElem? (i := 1) rfl)) (fun _ h9 => h9) rfl dX2_passesUpTo_16 ?_
        refine lv_iload_n hx hb dX2_passesUpTo_19 rfl (lv_at hl 1 rfl) ?_
        refine q_ld hx hb hK hP 11 0 (kw_a20 cI ad F G) rfl dX2_passesUpTo_20 h (fun v3 h => ?_)
        refine q_icmp_ne (tgt := 27) hx hb dX2_passesUpTo_21 (by decide) h (fun h => ?_) (fun h => ?_)
        · exact j27 x2 x3 _ (lv_sub hl [0, 1, 2, 3] rfl) h
        · refine q_iinc (j := 2) (d := (1 : Int32)) (lv2 := fun v4 => [(2, .int (v4)), (0, .ref (ad 9)), (1, .int (x1)), (3, .int (x3))]) hx hb dX2_passesUpTo_24 hl rfl (by decide) (by decide) (fun _ => rfl) h (fun v4 ls hl h => ?_)
          exact j27 v4 x3 _ (lv_sub hl [1, 2, 0, 3] rfl) h
  refine lv_iconst (v := 0) hx hb dX2_passesUpTo_0 (by decide) ?_
  refine q_nm h (fun v5 h => ?_)
  refine lv_istore_n (lv' := [(2, .int (v5)), (0, .ref (ad 9)), (1, .int (x1))]) hx hb dX2_passesUpTo_1 rfl hl (by decide) rfl (fun ls hl => ?_)
  refine lv_iconst (v := 0) hx hb dX2_passesUpTo_2 (by decide) ?_
  refine q_nm h (fun v6 h => ?_)
  refine lv_istore_n (lv' := [(3, .int (v6)), (2, .int (v5)), (0, .ref (ad 9)), (1, .int (x1))]) hx hb dX2_passesUpTo_3 rfl hl (by decide) rfl (fun ls hl => ?_)
  exact j4 1000 v5 v6 _ (lv_sub hl [2, 3, 1, 0] rfl) h
theorem hi_X2_fits_X0 : ∀ w ∈ u_ws RX0 TX0 8, w ∈ wsX2_fits := fun w h => (List.mem_cons_of_mem _ (List.mem_append_right _ h))
theorem hi_X2_fits_X2 : ∀ w ∈ u_ws RX2 TX2 2, w ∈ wsX2_fits := fun w h => (List.mem_cons_of_mem _ (List.mem_append_left _ (List.mem_append_right _ h)))
set_option maxHeartbeats 4000000 in
set_option maxRecDepth 100000 in
theorem mt_X2_fits (l : Launch) (D : va_G) (cI : ClassId) (ad : Nat → Nat) (F : Nat → Int32) (G : Nat → Nat → Int32)  (rv : Int32) (h : f_X2_fits F G  = some rv) : Met l yX2_fits wsX2_fits ({ frames := 1, cells := 0, slots := 0, locals := 23 } : Room) (va_Pc [.ref (ad 9), .ref (ad 38), .ref (ad 1), .ref (ad 3)] (kwR D cI ad F G)) (vp_Si (fun z => z = rv)) 0 0 (fun _ => False) := by
  refine Met.ofW (cc := cX2_fits) (maxL := 6) (ret := (some .boolean)) (by decide) rfl ?_
  intro p e s m args below meth c s₁ B hml hv
  obtain ⟨rfl, hP, hK, hN⟩ := hv
  have hx := B.exec
  have hb := B.bytes
  have hr := B.returns
  have hts := atoms_spec (ws := wsX2_fits) B.pre
  have hown : s.vm.findClass RX2 = some m.cls := findClass_of_methodNamed B.named
  have hlocks := B.notSynchronized
  have hl := lv_entry ([.ref (ad 9), .ref (ad 38), .ref (ad 1), .ref (ad 3)]) (n := 6) (Nat.le_of_ble_eq_true rfl)
  rw [lg_entry_eq]
  generalize (lg_sl ([.ref (ad 9), .ref (ad 38), .ref (ad 1), .ref (ad 3)]) ++ List.replicate (6 - (lg_sl ([.ref (ad 9), .ref (ad 38), .ref (ad 1), .ref (ad 3)])).length) Slot.unset).toArray = ls at hl ⊢
  have hl : lv_has ls 6 [(0, .ref (ad 9)), (1, .ref (ad 38)), (2, .ref (ad 1)), (3, .ref (ad 3))] := hl
  have j3 : ∀ n3 : Nat, ∀ (x4 : Int32) , ∀ ls : Array Slot, lv_has ls 6 [(0, .ref (ad 9)), (1, .ref (ad 38)), (2, .ref (ad 1)), (3, .ref (ad 3)), (4, .int (x4))] → f_X2_fits_L3 F G n3 x4 = some rv → W p l e (headSpec wsX2_fits ({ frames := 1, cells := 0, slots := 0, locals := 23 } : Room)).room s m (List.toArray ([.ref (ad 9), .ref (ad 38), .ref (ad 1), .ref (ad 3)] : List Value)) below meth c s.heap [] 0 0 (MQ below (vp_Si (fun z => z = rv)) (List.toArray ([.ref (ad 9), .ref (ad 38), .ref (ad 1), .ref (ad 3)] : List Value)) s 0 0 (fun _ => False)) (F0 m 3 ls []) := by
    intro n3
    induction n3 with
    | zero =>
      intro x4 ls hl h
      cases h
    | succ n3 ih3 =>
      intro x4 ls hl h
      replace h : f_X2_fits_L3_b (f_X2_fits_L3 F G n3) F G x4 = some rv := h
      refine lv_iload hx hb dX2_fits_3 (lv_at hl 4 rfl) ?_
      refine lv_aload_n hx hb dX2_fits_5 rfl (lv_at hl 0 rfl) ?_
      refine va_get hx hb hts hi_X2_fits_X2 hown hK hP 10 (kw_o9 cI ad F G) rfl 1 (by decide) (hts _ (List.mem_of_getElem? (i := 1) rfl)) (fun _ h9 => h9) rfl dX2_fits_6 ?_
      refine q_icmp_ge (tgt := 52) hx hb dX2_fits_9 (by decide) h (fun h => ?_) (fun h => ?_)
      · refine lv_iconst (v := 1) hx hb dX2_fits_52 (by decide) ?_
        exact W.zret hx hb hr rfl (fun t ht hW => ⟨_, rfl, Option.some.inj h, ht⟩) (fun q hq9 => by cases hq9) dX2_fits_53
      · refine lv_aload_n hx hb dX2_fits_12 rfl (lv_at hl 0 rfl) ?_
        refine va_get hx hb hts hi_X2_fits_X2 hown hK hP 10 (kw_o9 cI ad F G) rfl 0 (by decide) (hts _ (List.mem_of_getElem? (i := 2) rfl)) (fun _ h9 => h9) rfl dX2_fits_13 ?_
        refine lv_iload hx hb dX2_fits_16 (lv_at hl 4 rfl) ?_
        refine q_ld hx hb hK hP 11 0 (kw_a20 cI ad F G) rfl dX2_fits_18 h (fun v1 h => ?_)
        refine lv_istore (lv' := [(5, .int (v1)), (0, .ref (ad 9)), (1, .ref (ad 38)), (2, .ref (ad 1)), (3, .ref (ad 3)), (4, .int (x4))]) hx hb dX2_fits_19 hl (by decide) rfl (fun ls hl => ?_)
        refine lv_aload_n hx hb dX2_fits_21 rfl (lv_at hl 4 rfl) ?_
        refine lv_iload hx hb dX2_fits_22 (lv_at hl 0 rfl) ?_
        refine q_ld hx hb hK hP 4 0 (kw_a3 cI ad F G) rfl dX2_fits_24 h (fun v2 h => ?_)
        refine lv_aload_n hx hb dX2_fits_25 rfl (lv_at hl 1 rfl) ?_
        refine lv_iload hx hb dX2_fits_26 (lv_at hl 5 rfl) ?_
        obtain ⟨v3, hc4, h⟩ := q_some h
        refine q_cs (W.runV (C := RX2) (As := [.int (x4)]) (rest := [.int (v2)]) ⟨hx, hb, hml, hown, hts⟩ (mt_X2_passesUpTo l D cI ad F G x4 v3 hc4) (cwV 1 hts gX2_fits_X2_passesUpTo rfl rfl rfl (by decide +kernel) ⟨Nat.le_of_ble_eq_true rfl, Nat.le_of_ble_eq_true rfl⟩) ⟨kwR_b, va_recv hK hP (ci := 2) (q0 := 10) rfl rfl, (kwR_p hP hK hN).2⟩ rfl rfl hl.1 rfl (lv_room (Nat.le_of_ble_eq_true rfl)) dX2_fits_28 ⟨Nat.le_of_ble_eq_true rfl, Nat.le_of_ble_eq_true rfl⟩) ?_
        refine lv_iadd hx hb dX2_fits_31 ?_
        refine lv_aload_n hx hb dX2_fits_32 rfl (lv_at hl 2 rfl) ?_
        refine va_get hx hb hts hi_X2_fits_X0 hown hK hP 12 (kw_o38 cI ad F G) rfl 1 (by decide) (hts _ (List.mem_of_getElem? (i := 3) rfl)) (fun _ h9 => h9) rfl dX2_fits_33 ?_
        refine lv_aload_n hx hb dX2_fits_36 rfl (lv_at hl 3 rfl) ?_
        refine lv_iload hx hb dX2_fits_37 (lv_at hl 0 rfl) ?_
        refine q_ld hx hb hK hP 2 0 (kw_a1 cI ad F G) rfl dX2_fits_39 h (fun v5 h => ?_)
        refine q_ld hx hb hK hP 14 0 (kw_a31 cI ad F G) rfl dX2_fits_40 h (fun v6 h => ?_)
        refine q_icmp_le (tgt := 46) hx hb dX2_fits_41 (by decide) h (fun h => ?_) (fun h => ?_)
        · refine q_iinc (j := 5) (d := (1 : Int32)) (lv2 := fun v7 => [(4, .int (v7)), (5, .int (v1)), (0, .ref (ad 9)), (1, .ref (ad 38)), (2, .ref (ad 1)), (3, .ref (ad 3))]) hx hb dX2_fits_46 hl rfl (by decide) (by decide) (fun _ => rfl) h (fun v7 ls hl h => ?_)
          refine lv_goto (tgt := 3) hx hb dX2_fits_49 (by decide) ?_
          exact ih3 v7 _ (lv_sub hl [2, 3, 4, 5, 0] rfl) h
        · refine lv_iconst (v := 0) hx hb dX2_fits_44 (by decide) ?_
          exact W.zret hx hb hr rfl (fun t ht hW => ⟨_, rfl, Option.some.inj h, ht⟩) (fun q hq9 => by cases hq9) dX2_fits_45
  refine lv_iconst (v := 0) hx hb dX2_fits_0 (by decide) ?_
  refine q_nm h (fun v8 h => ?_)
  refine lv_istore (lv' := [(4, .int (v8)), (0, .ref (ad 9)), (1, .ref (ad 38)), (2, .ref (ad 1)), (3, .ref (ad 3))]) hx hb dX2_fits_1 hl (by decide) rfl (fun ls hl => ?_)
  exact j3 1000 v8 _ (lv_sub hl [1, 2, 3, 4, 0] rfl) h
theorem hi_X2_countInto_X2 : ∀ w ∈ u_ws RX2 TX2 2, w ∈ wsX2_countInto := fun w h => (List.mem_cons_of_mem _ (List.mem_append_right _ h))
set_option maxHeartbeats 4000000 in
set_option maxRecDepth 100000 in
theorem mt_X2_countInto (l : Launch) (D : va_G) (cI : ClassId) (ad : Nat → Nat) (F : Nat → Int32) (G : Nat → Nat → Int32)  (Fz : Nat → Int32) (Gz : Nat → Nat → Int32) (hDD : va_D (fun _ => True) (kwW cI ad (fun _ => 0) (fun _ _ => 0))) (h : f_X2_countInto F G  = some (Fz, Gz)) : Met l yX2_countInto wsX2_countInto ({ frames := 0, cells := 0, slots := 0, locals := 0 } : Room) (va_Pc [.ref (ad 9), .ref (ad 3)] (kwR D cI ad F G)) (va_Qv (fun (_ : Unit) => True) (fun _ t => va_P D vwCl (kwW cI ad Fz Gz) t.heap) (kwA cI ad)) 0 0 (kwA cI ad) := by
  refine Met.ofW (cc := cX2_countInto) (maxL := 3) (ret := none) (by decide) rfl ?_
  intro p e s m args below meth c s₁ B hml hv
  obtain ⟨rfl, hP, hK, hN⟩ := hv
  have hx := B.exec
  have hb := B.bytes
  have hr := B.returns
  have hts := atoms_spec (ws := wsX2_countInto) B.pre
  have hown : s.vm.findClass RX2 = some m.cls := findClass_of_methodNamed B.named
  have hlocks := B.notSynchronized
  have hS : va_S (kwA cI ad) s.heap s.heap [] := va_S.rf
  have hl := lv_entry ([.ref (ad 9), .ref (ad 3)]) (n := 3) (Nat.le_of_ble_eq_true rfl)
  rw [lg_entry_eq]
  generalize (lg_sl ([.ref (ad 9), .ref (ad 3)]) ++ List.replicate (3 - (lg_sl ([.ref (ad 9), .ref (ad 3)])).length) Slot.unset).toArray = ls at hl ⊢
  have hl : lv_has ls 3 [(0, .ref (ad 9)), (1, .ref (ad 3))] := hl
  have j2 : ∀ n2 : Nat, ∀ (F : Nat → Int32) (G : Nat → Nat → Int32) (x2 : Int32) (H : Heap) (locs : List Loc) , va_P D vwCl (kwW cI ad F G) H → va_S (kwA cI ad) s.heap H locs → ∀ ls : Array Slot, lv_has ls 3 [(0, .ref (ad 9)), (1, .ref (ad 3)), (2, .int (x2))] → f_X2_countInto_L2 n2 F G x2 = some (Fz, Gz) → W p l e (headSpec wsX2_countInto ({ frames := 0, cells := 0, slots := 0, locals := 0 } : Room)).room s m (List.toArray ([.ref (ad 9), .ref (ad 3)] : List Value)) below meth c H locs 0 0 (MQ below (va_Qv (fun (_ : Unit) => True) (fun _ t => va_P D vwCl (kwW cI ad Fz Gz) t.heap) (kwA cI ad)) (List.toArray ([.ref (ad 9), .ref (ad 3)] : List Value)) s 0 0 (kwA cI ad)) (F0 m 2 ls []) := by
    intro n2
    induction n2 with
    | zero =>
      intro F G x2 H locs hP hS ls hl h
      cases h
    | succ n2 ih2 =>
      intro F G x2 H locs hP hS ls hl h
      replace h : f_X2_countInto_L2_b (f_X2_countInto_L2 n2) F G x2 = some (Fz, Gz) := h
      refine lv_iload_n hx hb dX2_countInto_2 rfl (lv_at hl 2 rfl) ?_
      refine lv_aload_n hx hb dX2_countInto_3 rfl (lv_at hl 0 rfl) ?_
      refine va_get hx hb hts hi_X2_countInto_X2 hown hK hP 10 (kw_o9 cI ad F G) rfl 1 (by decide) (hts _ (List.mem_of_getElem? (i := 1) rfl)) (fun _ h9 => h9) rfl dX2_countInto_4 ?_
      refine q_icmp_ge (tgt := 28) hx hb dX2_countInto_7 (by decide) h (fun h => ?_) (fun h => ?_)
      · have e2 := congrArg Prod.fst (Option.some.inj h)
        have e3 := congrArg Prod.snd (Option.some.inj h)
        dsimp only at e2 e3
        exact W.vret hx hb hr (fun t ht hW => ⟨⟨(), rfl, trivial, by show va_P D vwCl _ t.heap; rw [ht, ← e2, ← e3]; exact hP⟩, hS.F ht⟩) hS.2.2 dX2_countInto_28
      · refine lv_aload_n hx hb dX2_countInto_10 rfl (lv_at hl 1 rfl) ?_
        refine lv_aload_n hx hb dX2_countInto_11 rfl (lv_at hl 0 rfl) ?_
        refine va_get hx hb hts hi_X2_countInto_X2 hown hK hP 10 (kw_o9 cI ad F G) rfl 0 (by decide) (hts _ (List.mem_of_getElem? (i := 2) rfl)) (fun _ h9 => h9) rfl dX2_countInto_12 ?_
        refine lv_iload_n hx hb dX2_countInto_15 rfl (lv_at hl 2 rfl) ?_
        refine q_ld hx hb hK hP 11 0 (kw_a20 cI ad F G) rfl dX2_countInto_16 h (fun v1 h => ?_)
        refine lv_dup2_11 hx hb dX2_countInto_17 rfl rfl ?_
        refine q_ld hx hb hK hP 4 0 (kw_a3 cI ad F G) rfl dX2_countInto_18 h (fun v2 h => ?_)
        refine lv_iconst (v := 1) hx hb dX2_countInto_19 (by decide) ?_
        refine lv_iadd hx hb dX2_countInto_20 ?_
        refine q_st hx hb hK hP (kwW_D hDD _ _) hS 4 0 3 (fun z => kwW cI ad F z) (kw_a3 cI ad F G) rfl (kw_g3 cI ad F G _) dX2_countInto_21 h (fun G3 H locs h hP hS => ?_)
        refine q_iinc (j := 2) (d := (1 : Int32)) (lv2 := fun v4 => [(2, .int (v4)), (0, .ref (ad 9)), (1, .ref (ad 3))]) hx hb dX2_countInto_22 hl rfl (by decide) (by decide) (fun _ => rfl) h (fun v4 ls hl h => ?_)
        refine lv_goto (tgt := 2) hx hb dX2_countInto_25 (by decide) ?_
        exact ih2 F G3 v4 _ _ hP hS _ (lv_sub hl [1, 2, 0] rfl) h
  refine lv_iconst (v := 0) hx hb dX2_countInto_0 (by decide) ?_
  refine q_nm h (fun v5 h => ?_)
  refine lv_istore_n (lv' := [(2, .int (v5)), (0, .ref (ad 9)), (1, .ref (ad 3))]) hx hb dX2_countInto_1 rfl hl (by decide) rfl (fun ls hl => ?_)
  exact j2 1000 F G v5 _ _ hP hS _ (lv_sub hl [1, 2, 0] rfl) h
theorem hi_X3_has_X3 : ∀ w ∈ u_ws RX3 TX3 19, w ∈ wsX3_has := fun w h => (List.mem_cons_of_mem _ (List.mem_append_right _ h))
set_option maxHeartbeats 4000000 in
set_option maxRecDepth 100000 in
theorem mt_X3_has (l : Launch) (D : va_G) (cI : ClassId) (ad : Nat → Nat) (F : Nat → Int32) (G : Nat → Nat → Int32) (x1 : Int32) (rv : Int32) (h : f_X3_has F G x1 = some rv) : Met l yX3_has wsX3_has ({ frames := 0, cells := 0, slots := 0, locals := 0 } : Room) (va_Pc [.ref (ad 22), .int x1] (wyR D cI ad F G)) (vp_Si (fun z => z = rv)) 0 0 (fun _ => False) := by
  refine Met.ofW (cc := cX3_has) (maxL := 2) (ret := (some .boolean)) (by decide) rfl ?_
  intro p e s m args below meth c s₁ B hml hv
  obtain ⟨rfl, hP, hK, hN⟩ := hv
  have hx := B.exec
  have hb := B.bytes
  have hr := B.returns
  have hts := atoms_spec (ws := wsX3_has) B.pre
  have hown : s.vm.findClass RX3 = some m.cls := findClass_of_methodNamed B.named
  have hlocks := B.notSynchronized
  have hl := lv_entry ([.ref (ad 22), .int x1]) (n := 2) (Nat.le_of_ble_eq_true rfl)
  rw [lg_entry_eq]
  generalize (lg_sl ([.ref (ad 22), .int x1]) ++ List.replicate (2 - (lg_sl ([.ref (ad 22), .int x1])).length) Slot.unset).toArray = ls at hl ⊢
  have hl : lv_has ls 2 [(0, .ref (ad 22)), (1, .int (x1))] := hl
  refine lv_iload_n hx hb dX3_has_0 rfl (lv_at hl 1 rfl) ?_
  refine q_if_lt (tgt := 16) hx hb dX3_has_1 (by decide) h (fun h => ?_) (fun h => ?_)
  · refine lv_iconst (v := 0) hx hb dX3_has_16 (by decide) ?_
    exact W.zret hx hb hr rfl (fun t ht hW => ⟨_, rfl, Option.some.inj h, ht⟩) (fun q hq9 => by cases hq9) dX3_has_17
  · refine lv_iload_n hx hb dX3_has_4 rfl (lv_at hl 1 rfl) ?_
    refine lv_aload_n hx hb dX3_has_5 rfl (lv_at hl 0 rfl) ?_
    refine va_get hx hb hts hi_X3_has_X3 hown hK hP 0 (wy_o22 cI ad F G) rfl 11 (by decide) (hts _ (List.mem_of_getElem? (i := 1) rfl)) (fun _ h9 => h9) rfl dX3_has_6 ?_
    refine q_icmp_ge (tgt := 16) hx hb dX3_has_9 (by decide) h (fun h => ?_) (fun h => ?_)
    · refine lv_iconst (v := 0) hx hb dX3_has_16 (by decide) ?_
      exact W.zret hx hb hr rfl (fun t ht hW => ⟨_, rfl, Option.some.inj h, ht⟩) (fun q hq9 => by cases hq9) dX3_has_17
    · refine lv_iconst (v := 1) hx hb dX3_has_12 (by decide) ?_
      refine lv_goto (tgt := 17) hx hb dX3_has_13 (by decide) ?_
      exact W.zret hx hb hr rfl (fun t ht hW => ⟨_, rfl, Option.some.inj h, ht⟩) (fun q hq9 => by cases hq9) dX3_has_17
theorem hi_X3_pickAt_X3 : ∀ w ∈ u_ws RX3 TX3 19, w ∈ wsX3_pickAt := fun w h => (List.mem_cons_of_mem _ (List.mem_append_right _ h))
set_option maxHeartbeats 4000000 in
set_option maxRecDepth 100000 in
theorem mt_X3_pickAt (l : Launch) (D : va_G) (cI : ClassId) (ad : Nat → Nat) (F : Nat → Int32) (G : Nat → Nat → Int32) (x1 : Int32) (x2 : Int32) (rv : Int32) (h : f_X3_pickAt F G x1 x2 = some rv) : Met l yX3_pickAt wsX3_pickAt ({ frames := 2, cells := 0, slots := 0, locals := 43 } : Room) (va_Pc [.ref (ad 22), .int x1, .int x2] (wyR D cI ad F G)) (vp_Si (fun z => z = rv)) 0 0 (fun _ => False) := by
  refine Met.ofW (cc := cX3_pickAt) (maxL := 3) (ret := (some .int)) (by decide) rfl ?_
  intro p e s m args below meth c s₁ B hml hv
  obtain ⟨rfl, hP, hK, hN⟩ := hv
  have hx := B.exec
  have hb := B.bytes
  have hr := B.returns
  have hts := atoms_spec (ws := wsX3_pickAt) B.pre
  have hown : s.vm.findClass RX3 = some m.cls := findClass_of_methodNamed B.named
  have hlocks := B.notSynchronized
  have hl := lv_entry ([.ref (ad 22), .int x1, .int x2]) (n := 3) (Nat.le_of_ble_eq_true rfl)
  rw [lg_entry_eq]
  generalize (lg_sl ([.ref (ad 22), .int x1, .int x2]) ++ List.replicate (3 - (lg_sl ([.ref (ad 22), .int x1, .int x2])).length) Slot.unset).toArray = ls at hl ⊢
  have hl : lv_has ls 3 [(0, .ref (ad 22)), (1, .int (x1)), (2, .int (x2))] := hl
  refine lv_iload_n hx hb dX3_pickAt_0 rfl (lv_at hl 1 rfl) ?_
  refine lv_iload_n hx hb dX3_pickAt_1 rfl (lv_at hl 2 rfl) ?_
  obtain ⟨v1, hc2, h⟩ := q_some h
  refine q_cs (va_Run.run (va_runSN (As := [.int (x1), .int (x2)]) (rest := []) ⟨hx, hb, hml, hown, hts⟩ (mt_X4_isCell l x1 x2 v1 hc2) ⟨va_cnB 2 hts gX3_pickAt_X4_isCell_n81 rfl rfl rfl hN.2.2 (hts _ (List.mem_of_getElem? (i := 3) rfl)) (by decide +kernel) ⟨Nat.le_of_ble_eq_true rfl, Nat.le_of_ble_eq_true rfl⟩, hts _ (List.mem_of_getElem? (i := 2) rfl), trivial⟩ q_pr0 rfl rfl hl.1 rfl (lv_room (Nat.le_of_ble_eq_true rfl)) dX3_pickAt_2 ⟨Nat.le_of_ble_eq_true rfl, Nat.le_of_ble_eq_true rfl⟩)) ?_
  refine q_if_eq (tgt := 22) hx hb dX3_pickAt_5 (by decide) h (fun h => ?_) (fun h => ?_)
  · refine lv_iconst (v := -1) hx hb dX3_pickAt_22 (by decide) ?_
    exact W.iret hx hb hr (fun t ht hW => ⟨_, rfl, Option.some.inj h, ht⟩) (fun q hq9 => by cases hq9) dX3_pickAt_23
  · refine lv_aload_n hx hb dX3_pickAt_8 rfl (lv_at hl 0 rfl) ?_
    refine va_get hx hb hts hi_X3_pickAt_X3 hown hK hP 0 (wy_o22 cI ad F G) rfl 6 (by decide) (hts _ (List.mem_of_getElem? (i := 1) rfl)) (fun _ h9 => h9) rfl dX3_pickAt_9 ?_
    refine lv_iload_n hx hb dX3_pickAt_12 rfl (lv_at hl 1 rfl) ?_
    refine lv_bipush (v := 12) hx hb dX3_pickAt_13 (by decide) ?_
    refine lv_imul hx hb dX3_pickAt_15 ?_
    refine lv_iload_n hx hb dX3_pickAt_16 rfl (lv_at hl 2 rfl) ?_
    refine lv_iadd hx hb dX3_pickAt_17 ?_
    refine q_ld hx hb hK hP 7 0 (wy_a6 cI ad F G) rfl dX3_pickAt_18 h (fun v3 h => ?_)
    refine lv_goto (tgt := 23) hx hb dX3_pickAt_19 (by decide) ?_
    exact W.iret hx hb hr (fun t ht hW => ⟨_, rfl, Option.some.inj h, ht⟩) (fun q hq9 => by cases hq9) dX3_pickAt_23
theorem hi_X3_caughtCount_X3 : ∀ w ∈ u_ws RX3 TX3 19, w ∈ wsX3_caughtCount := fun w h => (List.mem_cons_of_mem _ (List.mem_append_right _ h))
set_option maxHeartbeats 4000000 in
set_option maxRecDepth 100000 in
theorem mt_X3_caughtCount (l : Launch) (D : va_G) (cI : ClassId) (ad : Nat → Nat) (F : Nat → Int32) (G : Nat → Nat → Int32) (x1 : Int32) (rv : Int32) (h : f_X3_caughtCount F G x1 = some rv) : Met l yX3_caughtCount wsX3_caughtCount ({ frames := 0, cells := 0, slots := 0, locals := 0 } : Room) (va_Pc [.ref (ad 22), .int x1] (wyR D cI ad F G)) (vp_Si (fun z => z = rv)) 0 0 (fun _ => False) := by
  refine Met.ofW (cc := cX3_caughtCount) (maxL := 2) (ret := (some .int)) (by decide) rfl ?_
  intro p e s m args below meth c s₁ B hml hv
  obtain ⟨rfl, hP, hK, hN⟩ := hv
  have hx := B.exec
  have hb := B.bytes
  have hr := B.returns
  have hts := atoms_spec (ws := wsX3_caughtCount) B.pre
  have hown : s.vm.findClass RX3 = some m.cls := findClass_of_methodNamed B.named
  have hlocks := B.notSynchronized
  have hl := lv_entry ([.ref (ad 22), .int x1]) (n := 2) (Nat.le_of_ble_eq_true rfl)
  rw [lg_entry_eq]
  generalize (lg_sl ([.ref (ad 22), .int x1]) ++ List.replicate (2 - (lg_sl ([.ref (ad 22), .int x1])).length) Slot.unset).toArray = ls at hl ⊢
  have hl : lv_has ls 2 [(0, .ref (ad 22)), (1, .int (x1))] := hl
  have j15 : ∀ (s0 : Int32) , ∀ ls : Array Slot, lv_has ls 2 [(0, .ref (ad 22)), (1, .int (x1))] → f_X3_caughtCount_B15 F G x1 s0 = some rv → W p l e (headSpec wsX3_caughtCount ({ frames := 0, cells := 0, slots := 0, locals := 0 } : Room)).room s m (List.toArray ([.ref (ad 22), .int x1] : List Value)) below meth c s.heap [] 0 0 (MQ below (vp_Si (fun z => z = rv)) (List.toArray ([.ref (ad 22), .int x1] : List Value)) s 0 0 (fun _ => False)) (F0 m 15 ls [.int (s0)]) := by
    intro s0 ls hl h
    refine lv_aload_n hx hb dX3_caughtCount_15 rfl (lv_at hl 0 rfl) ?_
    refine va_get hx hb hts hi_X3_caughtCount_X3 hown hK hP 0 (wy_o22 cI ad F G) rfl 5 (by decide) (hts _ (List.mem_of_getElem? (i := 2) rfl)) (fun _ h9 => h9) rfl dX3_caughtCount_16 ?_
    refine lv_iload_n hx hb dX3_caughtCount_19 rfl (lv_at hl 1 rfl) ?_
    refine q_ld hx hb hK hP 6 0 (wy_a5 cI ad F G) rfl dX3_caughtCount_20 h (fun v1 h => ?_)
    refine lv_iconst (v := -1) hx hb dX3_caughtCount_21 (by decide) ?_
    refine q_icmp_ne (tgt := 29) hx hb dX3_caughtCount_22 (by decide) h (fun h => ?_) (fun h => ?_)
    · refine lv_iconst (v := 1) hx hb dX3_caughtCount_29 (by decide) ?_
      refine lv_iadd hx hb dX3_caughtCount_30 ?_
      exact W.iret hx hb hr (fun t ht hW => ⟨_, rfl, Option.some.inj h, ht⟩) (fun q hq9 => by cases hq9) dX3_caughtCount_31
    · refine lv_iconst (v := 0) hx hb dX3_caughtCount_25 (by decide) ?_
      refine lv_goto (tgt := 30) hx hb dX3_caughtCount_26 (by decide) ?_
      refine lv_iadd hx hb dX3_caughtCount_30 ?_
      exact W.iret hx hb hr (fun t ht hW => ⟨_, rfl, Option.some.inj h, ht⟩) (fun q hq9 => by cases hq9) dX3_caughtCount_31
  refine lv_aload_n hx hb dX3_caughtCount_0 rfl (lv_at hl 0 rfl) ?_
  refine va_get hx hb hts hi_X3_caughtCount_X3 hown hK hP 0 (wy_o22 cI ad F G) rfl 4 (by decide) (hts _ (List.mem_of_getElem? (i := 1) rfl)) (fun _ h9 => h9) rfl dX3_caughtCount_1 ?_
  refine lv_iload_n hx hb dX3_caughtCount_4 rfl (lv_at hl 1 rfl) ?_
  refine q_ld hx hb hK hP 5 0 (wy_a4 cI ad F G) rfl dX3_caughtCount_5 h (fun v2 h => ?_)
  refine lv_iconst (v := -1) hx hb dX3_caughtCount_6 (by decide) ?_
  refine q_icmp_ne (tgt := 14) hx hb dX3_caughtCount_7 (by decide) h (fun h => ?_) (fun h => ?_)
  · refine lv_iconst (v := 1) hx hb dX3_caughtCount_14 (by decide) ?_
    exact j15 (1 : Int32) _ (lv_sub hl [0, 1] rfl) h
  · refine lv_iconst (v := 0) hx hb dX3_caughtCount_10 (by decide) ?_
    refine lv_goto (tgt := 15) hx hb dX3_caughtCount_11 (by decide) ?_
    exact j15 (0 : Int32) _ (lv_sub hl [0, 1] rfl) h
theorem hi_X3_wovenIn_X3 : ∀ w ∈ u_ws RX3 TX3 19, w ∈ wsX3_wovenIn := fun w h => (List.mem_cons_of_mem _ (List.mem_append_right _ h))
set_option maxHeartbeats 4000000 in
set_option maxRecDepth 100000 in
theorem mt_X3_wovenIn (l : Launch) (D : va_G) (cI : ClassId) (ad : Nat → Nat) (F : Nat → Int32) (G : Nat → Nat → Int32) (x1 : Int32) (x2 : Int32) (rv : Int32) (h : f_X3_wovenIn F G x1 x2 = some rv) : Met l yX3_wovenIn wsX3_wovenIn ({ frames := 0, cells := 0, slots := 0, locals := 0 } : Room) (va_Pc [.ref (ad 22), .int x1, .int x2] (wyR D cI ad F G)) (vp_Si (fun z => z = rv)) 0 0 (fun _ => False) := by
  refine Met.ofW (cc := cX3_wovenIn) (maxL := 3) (ret := (some .int)) (by decide) rfl ?_
  intro p e s m args below meth c s₁ B hml hv
  obtain ⟨rfl, hP, hK, hN⟩ := hv
  have hx := B.exec
  have hb := B.bytes
  have hr := B.returns
  have hts := atoms_spec (ws := wsX3_wovenIn) B.pre
  have hown : s.vm.findClass RX3 = some m.cls := findClass_of_methodNamed B.named
  have hlocks := B.notSynchronized
  have hl := lv_entry ([.ref (ad 22), .int x1, .int x2]) (n := 3) (Nat.le_of_ble_eq_true rfl)
  rw [lg_entry_eq]
  generalize (lg_sl ([.ref (ad 22), .int x1, .int x2]) ++ List.replicate (3 - (lg_sl ([.ref (ad 22), .int x1, .int x2])).length) Slot.unset).toArray = ls at hl ⊢
  have hl : lv_has ls 3 [(0, .ref (ad 22)), (1, .int (x1)), (2, .int (x2))] := hl
  refine lv_iload_n hx hb dX3_wovenIn_0 rfl (lv_at hl 1 rfl) ?_
  refine lv_iconst (v := 1) hx hb dX3_wovenIn_1 (by decide) ?_
  refine q_icmp_lt (tgt := 25) hx hb dX3_wovenIn_2 (by decide) h (fun h => ?_) (fun h => ?_)
  · refine lv_iconst (v := -1) hx hb dX3_wovenIn_25 (by decide) ?_
    exact W.iret hx hb hr (fun t ht hW => ⟨_, rfl, Option.some.inj h, ht⟩) (fun q hq9 => by cases hq9) dX3_wovenIn_26
  · refine lv_iload_n hx hb dX3_wovenIn_5 rfl (lv_at hl 1 rfl) ?_
    refine lv_aload_n hx hb dX3_wovenIn_6 rfl (lv_at hl 0 rfl) ?_
    refine va_get hx hb hts hi_X3_wovenIn_X3 hown hK hP 0 (wy_o22 cI ad F G) rfl 14 (by decide) (hts _ (List.mem_of_getElem? (i := 1) rfl)) (fun _ h9 => h9) rfl dX3_wovenIn_7 ?_
    refine q_icmp_ge (tgt := 25) hx hb dX3_wovenIn_10 (by decide) h (fun h => ?_) (fun h => ?_)
    · refine lv_iconst (v := -1) hx hb dX3_wovenIn_25 (by decide) ?_
      exact W.iret hx hb hr (fun t ht hW => ⟨_, rfl, Option.some.inj h, ht⟩) (fun q hq9 => by cases hq9) dX3_wovenIn_26
    · refine lv_iload_n hx hb dX3_wovenIn_13 rfl (lv_at hl 2 rfl) ?_
      refine q_if_lt (tgt := 25) hx hb dX3_wovenIn_14 (by decide) h (fun h => ?_) (fun h => ?_)
      · refine lv_iconst (v := -1) hx hb dX3_wovenIn_25 (by decide) ?_
        exact W.iret hx hb hr (fun t ht hW => ⟨_, rfl, Option.some.inj h, ht⟩) (fun q hq9 => by cases hq9) dX3_wovenIn_26
      · refine lv_iload_n hx hb dX3_wovenIn_17 rfl (lv_at hl 2 rfl) ?_
        refine lv_aload_n hx hb dX3_wovenIn_18 rfl (lv_at hl 0 rfl) ?_
        refine va_get hx hb hts hi_X3_wovenIn_X3 hown hK hP 0 (wy_o22 cI ad F G) rfl 18 (by decide) (hts _ (List.mem_of_getElem? (i := 2) rfl)) (fun _ h9 => h9) rfl dX3_wovenIn_19 ?_
        refine q_icmp_lt (tgt := 27) hx hb dX3_wovenIn_22 (by decide) h (fun h => ?_) (fun h => ?_)
        · refine lv_aload_n hx hb dX3_wovenIn_27 rfl (lv_at hl 0 rfl) ?_
          refine va_get hx hb hts hi_X3_wovenIn_X3 hown hK hP 0 (wy_o22 cI ad F G) rfl 7 (by decide) (hts _ (List.mem_of_getElem? (i := 3) rfl)) (fun _ h9 => h9) rfl dX3_wovenIn_28 ?_
          refine lv_iload_n hx hb dX3_wovenIn_31 rfl (lv_at hl 1 rfl) ?_
          refine lv_bipush (v := 6) hx hb dX3_wovenIn_32 (by decide) ?_
          refine lv_imul hx hb dX3_wovenIn_34 ?_
          refine lv_iload_n hx hb dX3_wovenIn_35 rfl (lv_at hl 2 rfl) ?_
          refine lv_iadd hx hb dX3_wovenIn_36 ?_
          refine q_ld hx hb hK hP 8 0 (wy_a7 cI ad F G) rfl dX3_wovenIn_37 h (fun v1 h => ?_)
          exact W.iret hx hb hr (fun t ht hW => ⟨_, rfl, Option.some.inj h, ht⟩) (fun q hq9 => by cases hq9) dX3_wovenIn_38
        · refine lv_iconst (v := -1) hx hb dX3_wovenIn_25 (by decide) ?_
          exact W.iret hx hb hr (fun t ht hW => ⟨_, rfl, Option.some.inj h, ht⟩) (fun q hq9 => by cases hq9) dX3_wovenIn_26
theorem hi_X3_weaveThrough_X0 : ∀ w ∈ u_ws RX0 TX0 8, w ∈ wsX3_weaveThrough := fun w h => (List.mem_cons_of_mem _ (List.mem_append_right _ h))
theorem hi_X3_weaveThrough_X3 : ∀ w ∈ u_ws RX3 TX3 19, w ∈ wsX3_weaveThrough := fun w h => (List.mem_cons_of_mem _ (List.mem_append_left _ (List.mem_append_right _ h)))
set_option maxHeartbeats 4000000 in
set_option maxRecDepth 100000 in
theorem mt_X3_weaveThrough_7 (l : Launch) (D : va_G) (cI : ClassId) (ad : Nat → Nat) (F : Nat → Int32) (G : Nat → Nat → Int32) (x3 : Int32) (rv : Int32) (Fz : Nat → Int32) (Gz : Nat → Nat → Int32) (hDD : va_D (fun _ => True) (kwW cI ad (fun _ => 0) (fun _ _ => 0))) (h : f_X3_weaveThrough_7 F G x3 = some (rv, Fz, Gz)) : Met l yX3_weaveThrough wsX3_weaveThrough ({ frames := 0, cells := 0, slots := 0, locals := 0 } : Room) (va_Pc [.ref (ad 22), .ref (ad 38), .ref (ad 7), .int x3] (kwR D cI ad F G)) (va_Qi (fun z (_ : Unit) => z = rv) (fun _ t => va_P D vwCl (kwW cI ad Fz Gz) t.heap) (kwA cI ad)) 0 0 (kwA cI ad) := by
  refine Met.ofW (cc := cX3_weaveThrough) (maxL := 6) (ret := (some .int)) (by decide) rfl ?_
  intro p e s m args below meth c s₁ B hml hv
  obtain ⟨rfl, hP, hK, hN⟩ := hv
  have hx := B.exec
  have hb := B.bytes
  have hr := B.returns
  have hts := atoms_spec (ws := wsX3_weaveThrough) B.pre
  have hown : s.vm.findClass RX3 = some m.cls := findClass_of_methodNamed B.named
  have hlocks := B.notSynchronized
  have hS : va_S (kwA cI ad) s.heap s.heap [] := va_S.rf
  have hl := lv_entry ([.ref (ad 22), .ref (ad 38), .ref (ad 7), .int x3]) (n := 6) (Nat.le_of_ble_eq_true rfl)
  rw [lg_entry_eq]
  generalize (lg_sl ([.ref (ad 22), .ref (ad 38), .ref (ad 7), .int x3]) ++ List.replicate (6 - (lg_sl ([.ref (ad 22), .ref (ad 38), .ref (ad 7), .int x3])).length) Slot.unset).toArray = ls at hl ⊢
  have hl : lv_has ls 6 [(0, .ref (ad 22)), (1, .ref (ad 38)), (2, .ref (ad 7)), (3, .int (x3))] := hl
  have j11 : ∀ n11 : Nat, ∀ (F : Nat → Int32) (G : Nat → Nat → Int32) (x4 : Int32) (x5 : Int32) (H : Heap) (locs : List Loc) , va_P D vwCl (kwW cI ad F G) H → va_S (kwA cI ad) s.heap H locs → ∀ ls : Array Slot, lv_has ls 6 [(0, .ref (ad 22)), (1, .ref (ad 38)), (2, .ref (ad 7)), (3, .int (x3)), (4, .int (x4)), (5, .int (x5))] → f_X3_weaveThrough_7_L11 x3 n11 F G x4 x5 = some (rv, Fz, Gz) → W p l e (headSpec wsX3_weaveThrough ({ frames := 0, cells := 0, slots := 0, locals := 0 } : Room)).room s m (List.toArray ([.ref (ad 22), .ref (ad 38), .ref (ad 7), .int x3] : List Value)) below meth c H locs 0 0 (MQ below (va_Qi (fun z (_ : Unit) => z = rv) (fun _ t => va_P D vwCl (kwW cI ad Fz Gz) t.heap) (kwA cI ad)) (List.toArray ([.ref (ad 22), .ref (ad 38), .ref (ad 7), .int x3] : List Value)) s 0 0 (kwA cI ad)) (F0 m 11 ls []) := by
    intro n11
    induction n11 with
    | zero =>
      intro F G x4 x5 H locs hP hS ls hl h
      cases h
    | succ n11 ih11 =>
      have j69 : ∀ (F : Nat → Int32) (G : Nat → Nat → Int32) (x4 : Int32) (x5 : Int32) (H : Heap) (locs : List Loc) , va_P D vwCl (kwW cI ad F G) H → va_S (kwA cI ad) s.heap H locs → ∀ ls : Array Slot, lv_has ls 6 [(0, .ref (ad 22)), (1, .ref (ad 38)), (2, .ref (ad 7)), (3, .int (x3)), (4, .int (x4)), (5, .int (x5))] → f_X3_weaveThrough_7_B69 (f_X3_weaveThrough_7_L11 x3 n11) x3 F G x4 x5 = some (rv, Fz, Gz) → W p l e (headSpec wsX3_weaveThrough ({ frames := 0, cells := 0, slots := 0, locals := 0 } : Room)).room s m (List.toArray ([.ref (ad 22), .ref (ad 38), .ref (ad 7), .int x3] : List Value)) below meth c H locs 0 0 (MQ below (va_Qi (fun z (_ : Unit) => z = rv) (fun _ t => va_P D vwCl (kwW cI ad Fz Gz) t.heap) (kwA cI ad)) (List.toArray ([.ref (ad 22), .ref (ad 38), .ref (ad 7), .int x3] : List Value)) s 0 0 (kwA cI ad)) (F0 m 69 ls []) := by
        intro F G x4 x5 H locs hP hS ls hl h
        refine q_iinc (j := 5) (d := (-1 : Int32)) (lv2 := fun v1 => [(5, .int (v1)), (0, .ref (ad 22)), (1, .ref (ad 38)), (2, .ref (ad 7)), (3, .int (x3)), (4, .int (x4))]) hx hb dX3_weaveThrough_69 hl rfl (by decide) (by decide) (fun _ => rfl) h (fun v1 ls hl h => ?_)
        refine lv_goto (tgt := 11) hx hb dX3_weaveThrough_72 (by decide) ?_
        exact ih11 F G x4 v1 _ _ hP hS _ (lv_sub hl [1, 2, 3, 4, 5, 0] rfl) h
      intro F G x4 x5 H locs hP hS ls hl h
      replace h : f_X3_weaveThrough_7_L11_b (f_X3_weaveThrough_7_L11 x3 n11) x3 F G x4 x5 = some (rv, Fz, Gz) := h
      refine lv_iload hx hb dX3_weaveThrough_11 (lv_at hl 5 rfl) ?_
      refine q_if_lt (tgt := 75) hx hb dX3_weaveThrough_13 (by decide) h (fun h => ?_) (fun h => ?_)
      · refine lv_iload hx hb dX3_weaveThrough_75 (lv_at hl 4 rfl) ?_
        have e1 := congrArg Prod.fst (Option.some.inj h)
        have e2 := congrArg (fun z => z.2.1) (Option.some.inj h)
        have e3 := congrArg (fun z => z.2.2) (Option.some.inj h)
        dsimp only at e1 e2 e3
        exact W.iret hx hb hr (fun t ht hW => ⟨⟨_, (), rfl, e1, by show va_P D vwCl _ t.heap; rw [ht, ← e2, ← e3]; exact hP⟩, hS.F ht⟩) hS.2.2 dX3_weaveThrough_77
      · refine lv_iload hx hb dX3_weaveThrough_16 (lv_at hl 4 rfl) ?_
        refine lv_aload_n hx hb dX3_weaveThrough_18 rfl (lv_at hl 0 rfl) ?_
        refine va_get hx hb hts hi_X3_weaveThrough_X3 hown hK hP 0 (kw_o22 cI ad F G) rfl 18 (by decide) (hts _ (List.mem_of_getElem? (i := 2) rfl)) (fun _ h9 => h9) rfl dX3_weaveThrough_19 ?_
        refine q_icmp_ge (tgt := 75) hx hb dX3_weaveThrough_22 (by decide) h (fun h => ?_) (fun h => ?_)
        · refine lv_iload hx hb dX3_weaveThrough_75 (lv_at hl 4 rfl) ?_
          have e1 := congrArg Prod.fst (Option.some.inj h)
          have e2 := congrArg (fun z => z.2.1) (Option.some.inj h)
          have e3 := congrArg (fun z => z.2.2) (Option.some.inj h)
          dsimp only at e1 e2 e3
          exact W.iret hx hb hr (fun t ht hW => ⟨⟨_, (), rfl, e1, by show va_P D vwCl _ t.heap; rw [ht, ← e2, ← e3]; exact hP⟩, hS.F ht⟩) hS.2.2 dX3_weaveThrough_77
        · refine lv_aload_n hx hb dX3_weaveThrough_25 rfl (lv_at hl 0 rfl) ?_
          refine va_get hx hb hts hi_X3_weaveThrough_X3 hown hK hP 0 (kw_o22 cI ad F G) rfl 3 (by decide) (hts _ (List.mem_of_getElem? (i := 3) rfl)) (fun _ h9 => h9) rfl dX3_weaveThrough_26 ?_
          refine lv_iload hx hb dX3_weaveThrough_29 (lv_at hl 5 rfl) ?_
          refine q_ld hx hb hK hP 4 0 (kw_a3 cI ad F G) rfl dX3_weaveThrough_31 h (fun v2 h => ?_)
          refine lv_aload_n hx hb dX3_weaveThrough_32 rfl (lv_at hl 1 rfl) ?_
          refine va_get hx hb hts hi_X3_weaveThrough_X0 hown hK hP 12 (kw_o38 cI ad F G) rfl 1 (by decide) (hts _ (List.mem_of_getElem? (i := 4) rfl)) (fun _ h9 => h9) rfl dX3_weaveThrough_33 ?_
          refine lv_aload_n hx hb dX3_weaveThrough_36 rfl (lv_at hl 0 rfl) ?_
          refine va_get hx hb hts hi_X3_weaveThrough_X3 hown hK hP 0 (kw_o22 cI ad F G) rfl 1 (by decide) (hts _ (List.mem_of_getElem? (i := 5) rfl)) (fun _ h9 => h9) rfl dX3_weaveThrough_37 ?_
          refine lv_iload hx hb dX3_weaveThrough_40 (lv_at hl 5 rfl) ?_
          refine q_ld hx hb hK hP 2 0 (kw_a1 cI ad F G) rfl dX3_weaveThrough_42 h (fun v3 h => ?_)
          refine q_ld hx hb hK hP 14 0 (kw_a31 cI ad F G) rfl dX3_weaveThrough_43 h (fun v4 h => ?_)
          refine q_icmp_ge (tgt := 69) hx hb dX3_weaveThrough_44 (by decide) h (fun h => ?_) (fun h => ?_)
          · exact j69 F G x4 x5 _ _ hP hS _ (lv_sub hl [0, 1, 2, 3, 4, 5] rfl) h
          · refine lv_aload_n hx hb dX3_weaveThrough_47 rfl (lv_at hl 0 rfl) ?_
            refine va_get hx hb hts hi_X3_weaveThrough_X3 hown hK hP 0 (kw_o22 cI ad F G) rfl 3 (by decide) (hts _ (List.mem_of_getElem? (i := 3) rfl)) (fun _ h9 => h9) rfl dX3_weaveThrough_48 ?_
            refine lv_iload hx hb dX3_weaveThrough_51 (lv_at hl 5 rfl) ?_
            refine lv_dup2_11 hx hb dX3_weaveThrough_53 rfl rfl ?_
            refine q_ld hx hb hK hP 4 0 (kw_a3 cI ad F G) rfl dX3_weaveThrough_54 h (fun v5 h => ?_)
            refine lv_iconst (v := 1) hx hb dX3_weaveThrough_55 (by decide) ?_
            refine lv_iadd hx hb dX3_weaveThrough_56 ?_
            refine q_st hx hb hK hP (kwW_D hDD _ _) hS 4 0 3 (fun z => kwW cI ad F z) (kw_a3 cI ad F G) rfl (kw_g3 cI ad F G _) dX3_weaveThrough_57 h (fun G6 H locs h hP hS => ?_)
            refine lv_aload_n hx hb dX3_weaveThrough_58 rfl (lv_at hl 2 rfl) ?_
            refine lv_iload_n hx hb dX3_weaveThrough_59 rfl (lv_at hl 3 rfl) ?_
            refine lv_iload hx hb dX3_weaveThrough_60 (lv_at hl 4 rfl) ?_
            refine lv_iadd hx hb dX3_weaveThrough_62 ?_
            refine lv_iload hx hb dX3_weaveThrough_63 (lv_at hl 5 rfl) ?_
            refine q_st hx hb hK hP (kwW_D hDD _ _) hS 8 0 7 (fun z => kwW cI ad F z) (kw_a7 cI ad F G6) rfl (kw_g7 cI ad F G6 _) dX3_weaveThrough_65 h (fun G7 H locs h hP hS => ?_)
            refine q_iinc (j := 4) (d := (1 : Int32)) (lv2 := fun v8 => [(4, .int (v8)), (0, .ref (ad 22)), (1, .ref (ad 38)), (2, .ref (ad 7)), (3, .int (x3)), (5, .int (x5))]) hx hb dX3_weaveThrough_66 hl rfl (by decide) (by decide) (fun _ => rfl) h (fun v8 ls hl h => ?_)
            exact j69 F G7 v8 x5 _ _ hP hS _ (lv_sub hl [1, 2, 3, 4, 0, 5] rfl) h
  refine lv_iconst (v := 0) hx hb dX3_weaveThrough_0 (by decide) ?_
  refine q_nm h (fun v9 h => ?_)
  refine lv_istore (lv' := [(4, .int (v9)), (0, .ref (ad 22)), (1, .ref (ad 38)), (2, .ref (ad 7)), (3, .int (x3))]) hx hb dX3_weaveThrough_1 hl (by decide) rfl (fun ls hl => ?_)
  refine lv_aload_n hx hb dX3_weaveThrough_3 rfl (lv_at hl 1 rfl) ?_
  refine va_get hx hb hts hi_X3_weaveThrough_X3 hown hK hP 0 (kw_o22 cI ad F G) rfl 11 (by decide) (hts _ (List.mem_of_getElem? (i := 1) rfl)) (fun _ h9 => h9) rfl dX3_weaveThrough_4 ?_
  refine lv_iconst (v := 1) hx hb dX3_weaveThrough_7 (by decide) ?_
  refine lv_isub hx hb dX3_weaveThrough_8 ?_
  refine q_nm h (fun v10 h => ?_)
  refine lv_istore (lv' := [(5, .int (v10)), (4, .int (v9)), (0, .ref (ad 22)), (1, .ref (ad 38)), (2, .ref (ad 7)), (3, .int (x3))]) hx hb dX3_weaveThrough_9 hl (by decide) rfl (fun ls hl => ?_)
  exact j11 1000 F G v9 v10 _ _ hP hS _ (lv_sub hl [2, 3, 4, 5, 1, 0] rfl) h
theorem hi_X3_unweave_X3 : ∀ w ∈ u_ws RX3 TX3 19, w ∈ wsX3_unweave := fun w h => (List.mem_cons_of_mem _ (List.mem_append_right _ h))
set_option maxHeartbeats 4000000 in
set_option maxRecDepth 100000 in
theorem mt_X3_unweave_7 (l : Launch) (D : va_G) (cI : ClassId) (ad : Nat → Nat) (F : Nat → Int32) (G : Nat → Nat → Int32) (x2 : Int32) (x3 : Int32) (Fz : Nat → Int32) (Gz : Nat → Nat → Int32) (hDD : va_D (fun _ => True) (kwW cI ad (fun _ => 0) (fun _ _ => 0))) (h : f_X3_unweave_7 F G x2 x3 = some (Fz, Gz)) : Met l yX3_unweave wsX3_unweave ({ frames := 0, cells := 0, slots := 0, locals := 0 } : Room) (va_Pc [.ref (ad 22), .ref (ad 7), .int x2, .int x3] (kwR D cI ad F G)) (va_Qv (fun (_ : Unit) => True) (fun _ t => va_P D vwCl (kwW cI ad Fz Gz) t.heap) (kwA cI ad)) 0 0 (kwA cI ad) := by
  refine Met.ofW (cc := cX3_unweave) (maxL := 5) (ret := none) (by decide) rfl ?_
  intro p e s m args below meth c s₁ B hml hv
  obtain ⟨rfl, hP, hK, hN⟩ := hv
  have hx := B.exec
  have hb := B.bytes
  have hr := B.returns
  have hts := atoms_spec (ws := wsX3_unweave) B.pre
  have hown : s.vm.findClass RX3 = some m.cls := findClass_of_methodNamed B.named
  have hlocks := B.notSynchronized
  have hS : va_S (kwA cI ad) s.heap s.heap [] := va_S.rf
  have hl := lv_entry ([.ref (ad 22), .ref (ad 7), .int x2, .int x3]) (n := 5) (Nat.le_of_ble_eq_true rfl)
  rw [lg_entry_eq]
  generalize (lg_sl ([.ref (ad 22), .ref (ad 7), .int x2, .int x3]) ++ List.replicate (5 - (lg_sl ([.ref (ad 22), .ref (ad 7), .int x2, .int x3])).length) Slot.unset).toArray = ls at hl ⊢
  have hl : lv_has ls 5 [(0, .ref (ad 22)), (1, .ref (ad 7)), (2, .int (x2)), (3, .int (x3))] := hl
  have j3 : ∀ n3 : Nat, ∀ (F : Nat → Int32) (G : Nat → Nat → Int32) (x4 : Int32) (H : Heap) (locs : List Loc) , va_P D vwCl (kwW cI ad F G) H → va_S (kwA cI ad) s.heap H locs → ∀ ls : Array Slot, lv_has ls 5 [(0, .ref (ad 22)), (1, .ref (ad 7)), (2, .int (x2)), (3, .int (x3)), (4, .int (x4))] → f_X3_unweave_7_L3 x2 x3 n3 F G x4 = some (Fz, Gz) → W p l e (headSpec wsX3_unweave ({ frames := 0, cells := 0, slots := 0, locals := 0 } : Room)).room s m (List.toArray ([.ref (ad 22), .ref (ad 7), .int x2, .int x3] : List Value)) below meth c H locs 0 0 (MQ below (va_Qv (fun (_ : Unit) => True) (fun _ t => va_P D vwCl (kwW cI ad Fz Gz) t.heap) (kwA cI ad)) (List.toArray ([.ref (ad 22), .ref (ad 7), .int x2, .int x3] : List Value)) s 0 0 (kwA cI ad)) (F0 m 3 ls []) := by
    intro n3
    induction n3 with
    | zero =>
      intro F G x4 H locs hP hS ls hl h
      cases h
    | succ n3 ih3 =>
      intro F G x4 H locs hP hS ls hl h
      replace h : f_X3_unweave_7_L3_b (f_X3_unweave_7_L3 x2 x3 n3) x2 x3 F G x4 = some (Fz, Gz) := h
      refine lv_iload hx hb dX3_unweave_3 (lv_at hl 4 rfl) ?_
      refine lv_iload_n hx hb dX3_unweave_5 rfl (lv_at hl 3 rfl) ?_
      refine q_icmp_ge (tgt := 30) hx hb dX3_unweave_6 (by decide) h (fun h => ?_) (fun h => ?_)
      · have e2 := congrArg Prod.fst (Option.some.inj h)
        have e3 := congrArg Prod.snd (Option.some.inj h)
        dsimp only at e2 e3
        exact W.vret hx hb hr (fun t ht hW => ⟨⟨(), rfl, trivial, by show va_P D vwCl _ t.heap; rw [ht, ← e2, ← e3]; exact hP⟩, hS.F ht⟩) hS.2.2 dX3_unweave_30
      · refine lv_aload_n hx hb dX3_unweave_9 rfl (lv_at hl 0 rfl) ?_
        refine va_get hx hb hts hi_X3_unweave_X3 hown hK hP 0 (kw_o22 cI ad F G) rfl 3 (by decide) (hts _ (List.mem_of_getElem? (i := 1) rfl)) (fun _ h9 => h9) rfl dX3_unweave_10 ?_
        refine lv_aload_n hx hb dX3_unweave_13 rfl (lv_at hl 1 rfl) ?_
        refine lv_iload_n hx hb dX3_unweave_14 rfl (lv_at hl 2 rfl) ?_
        refine lv_iload hx hb dX3_unweave_15 (lv_at hl 4 rfl) ?_
        refine lv_iadd hx hb dX3_unweave_17 ?_
        refine q_ld hx hb hK hP 8 0 (kw_a7 cI ad F G) rfl dX3_unweave_18 h (fun v1 h => ?_)
        refine lv_dup2_11 hx hb dX3_unweave_19 rfl rfl ?_
        refine q_ld hx hb hK hP 4 0 (kw_a3 cI ad F G) rfl dX3_unweave_20 h (fun v2 h => ?_)
        refine lv_iconst (v := 1) hx hb dX3_unweave_21 (by decide) ?_
        refine lv_isub hx hb dX3_unweave_22 ?_
        refine q_st hx hb hK hP (kwW_D hDD _ _) hS 4 0 3 (fun z => kwW cI ad F z) (kw_a3 cI ad F G) rfl (kw_g3 cI ad F G _) dX3_unweave_23 h (fun G3 H locs h hP hS => ?_)
        refine q_iinc (j := 4) (d := (1 : Int32)) (lv2 := fun v4 => [(4, .int (v4)), (0, .ref (ad 22)), (1, .ref (ad 7)), (2, .int (x2)), (3, .int (x3))]) hx hb dX3_unweave_24 hl rfl (by decide) (by decide) (fun _ => rfl) h (fun v4 ls hl h => ?_)
        refine lv_goto (tgt := 3) hx hb dX3_unweave_27 (by decide) ?_
        exact ih3 F G3 v4 _ _ hP hS _ (lv_sub hl [1, 2, 3, 4, 0] rfl) h
  refine lv_iconst (v := 0) hx hb dX3_unweave_0 (by decide) ?_
  refine q_nm h (fun v5 h => ?_)
  refine lv_istore (lv' := [(4, .int (v5)), (0, .ref (ad 22)), (1, .ref (ad 7)), (2, .int (x2)), (3, .int (x3))]) hx hb dX3_unweave_1 hl (by decide) rfl (fun ls hl => ?_)
  exact j3 1000 F G v5 _ _ hP hS _ (lv_sub hl [1, 2, 3, 4, 0] rfl) h
set_option maxHeartbeats 4000000 in
set_option maxRecDepth 100000 in
theorem mt_X3_weaveThrough_8 (l : Launch) (D : va_G) (cI : ClassId) (ad : Nat → Nat) (F : Nat → Int32) (G : Nat → Nat → Int32) (x3 : Int32) (rv : Int32) (Fz : Nat → Int32) (Gz : Nat → Nat → Int32) (hDD : va_D (fun _ => True) (kwW cI ad (fun _ => 0) (fun _ _ => 0))) (h : f_X3_weaveThrough_8 F G x3 = some (rv, Fz, Gz)) : Met l yX3_weaveThrough wsX3_weaveThrough ({ frames := 0, cells := 0, slots := 0, locals := 0 } : Room) (va_Pc [.ref (ad 22), .ref (ad 38), .ref (ad 8), .int x3] (kwR D cI ad F G)) (va_Qi (fun z (_ : Unit) => z = rv) (fun _ t => va_P D vwCl (kwW cI ad Fz Gz) t.heap) (kwA cI ad)) 0 0 (kwA cI ad) := by
  refine Met.ofW (cc := cX3_weaveThrough) (maxL := 6) (ret := (some .int)) (by decide) rfl ?_
  intro p e s m args below meth c s₁ B hml hv
  obtain ⟨rfl, hP, hK, hN⟩ := hv
  have hx := B.exec
  have hb := B.bytes
  have hr := B.returns
  have hts := atoms_spec (ws := wsX3_weaveThrough) B.pre
  have hown : s.vm.findClass RX3 = some m.cls := findClass_of_methodNamed B.named
  have hlocks := B.notSynchronized
  have hS : va_S (kwA cI ad) s.heap s.heap [] := va_S.rf
  have hl := lv_entry ([.ref (ad 22), .ref (ad 38), .ref (ad 8), .int x3]) (n := 6) (Nat.le_of_ble_eq_true rfl)
  rw [lg_entry_eq]
  generalize (lg_sl ([.ref (ad 22), .ref (ad 38), .ref (ad 8), .int x3]) ++ List.replicate (6 - (lg_sl ([.ref (ad 22), .ref (ad 38), .ref (ad 8), .int x3])).length) Slot.unset).toArray = ls at hl ⊢
  have hl : lv_has ls 6 [(0, .ref (ad 22)), (1, .ref (ad 38)), (2, .ref (ad 8)), (3, .int (x3))] := hl
  have j11 : ∀ n11 : Nat, ∀ (F : Nat → Int32) (G : Nat → Nat → Int32) (x4 : Int32) (x5 : Int32) (H : Heap) (locs : List Loc) , va_P D vwCl (kwW cI ad F G) H → va_S (kwA cI ad) s.heap H locs → ∀ ls : Array Slot, lv_has ls 6 [(0, .ref (ad 22)), (1, .ref (ad 38)), (2, .ref (ad 8)), (3, .int (x3)), (4, .int (x4)), (5, .int (x5))] → f_X3_weaveThrough_8_L11 x3 n11 F G x4 x5 = some (rv, Fz, Gz) → W p l e (headSpec wsX3_weaveThrough ({ frames := 0, cells := 0, slots := 0, locals := 0 } : Room)).room s m (List.toArray ([.ref (ad 22), .ref (ad 38), .ref (ad 8), .int x3] : List Value)) below meth c H locs 0 0 (MQ below (va_Qi (fun z (_ : Unit) => z = rv) (fun _ t => va_P D vwCl (kwW cI ad Fz Gz) t.heap) (kwA cI ad)) (List.toArray ([.ref (ad 22), .ref (ad 38), .ref (ad 8), .int x3] : List Value)) s 0 0 (kwA cI ad)) (F0 m 11 ls []) := by
    intro n11
    induction n11 with
    | zero =>
      intro F G x4 x5 H locs hP hS ls hl h
      cases h
    | succ n11 ih11 =>
      have j69 : ∀ (F : Nat → Int32) (G : Nat → Nat → Int32) (x4 : Int32) (x5 : Int32) (H : Heap) (locs : List Loc) , va_P D vwCl (kwW cI ad F G) H → va_S (kwA cI ad) s.heap H locs → ∀ ls : Array Slot, lv_has ls 6 [(0, .ref (ad 22)), (1, .ref (ad 38)), (2, .ref (ad 8)), (3, .int (x3)), (4, .int (x4)), (5, .int (x5))] → f_X3_weaveThrough_8_B69 (f_X3_weaveThrough_8_L11 x3 n11) x3 F G x4 x5 = some (rv, Fz, Gz) → W p l e (headSpec wsX3_weaveThrough ({ frames := 0, cells := 0, slots := 0, locals := 0 } : Room)).room s m (List.toArray ([.ref (ad 22), .ref (ad 38), .ref (ad 8), .int x3] : List Value)) below meth c H locs 0 0 (MQ below (va_Qi (fun z (_ : Unit) => z = rv) (fun _ t => va_P D vwCl (kwW cI ad Fz Gz) t.heap) (kwA cI ad)) (List.toArray ([.ref (ad 22), .ref (ad 38), .ref (ad 8), .int x3] : List Value)) s 0 0 (kwA cI ad)) (F0 m 69 ls []) := by
        intro F G x4 x5 H locs hP hS ls hl h
        refine q_iinc (j := 5) (d := (-1 : Int32)) (lv2 := fun v1 => [(5, .int (v1)), (0, .ref (ad 22)), (1, .ref (ad 38)), (2, .ref (ad 8)), (3, .int (x3)), (4, .int (x4))]) hx hb dX3_weaveThrough_69 hl rfl (by decide) (by decide) (fun _ => rfl) h (fun v1 ls hl h => ?_)
        refine lv_goto (tgt := 11) hx hb dX3_weaveThrough_72 (by decide) ?_
        exact ih11 F G x4 v1 _ _ hP hS _ (lv_sub hl [1, 2, 3, 4, 5, 0] rfl) h
      intro F G x4 x5 H locs hP hS ls hl h
      replace h : f_X3_weaveThrough_8_L11_b (f_X3_weaveThrough_8_L11 x3 n11) x3 F G x4 x5 = some (rv, Fz, Gz) := h
      refine lv_iload hx hb dX3_weaveThrough_11 (lv_at hl 5 rfl) ?_
      refine q_if_lt (tgt := 75) hx hb dX3_weaveThrough_13 (by decide) h (fun h => ?_) (fun h => ?_)
      · refine lv_iload hx hb dX3_weaveThrough_75 (lv_at hl 4 rfl) ?_
        have e1 := congrArg Prod.fst (Option.some.inj h)
        have e2 := congrArg (fun z => z.2.1) (Option.some.inj h)
        have e3 := congrArg (fun z => z.2.2) (Option.some.inj h)
        dsimp only at e1 e2 e3
        exact W.iret hx hb hr (fun t ht hW => ⟨⟨_, (), rfl, e1, by show va_P D vwCl _ t.heap; rw [ht, ← e2, ← e3]; exact hP⟩, hS.F ht⟩) hS.2.2 dX3_weaveThrough_77
      · refine lv_iload hx hb dX3_weaveThrough_16 (lv_at hl 4 rfl) ?_
        refine lv_aload_n hx hb dX3_weaveThrough_18 rfl (lv_at hl 0 rfl) ?_
        refine va_get hx hb hts hi_X3_weaveThrough_X3 hown hK hP 0 (kw_o22 cI ad F G) rfl 18 (by decide) (hts _ (List.mem_of_getElem? (i := 2) rfl)) (fun _ h9 => h9) rfl dX3_weaveThrough_19 ?_
        refine q_icmp_ge (tgt := 75) hx hb dX3_weaveThrough_22 (by decide) h (fun h => ?_) (fun h => ?_)
        · refine lv_iload hx hb dX3_weaveThrough_75 (lv_at hl 4 rfl) ?_
          have e1 := congrArg Prod.fst (Option.some.inj h)
          have e2 := congrArg (fun z => z.2.1) (Option.some.inj h)
          have e3 := congrArg (fun z => z.2.2) (Option.some.inj h)
          dsimp only at e1 e2 e3
          exact W.iret hx hb hr (fun t ht hW => ⟨⟨_, (), rfl, e1, by show va_P D vwCl _ t.heap; rw [ht, ← e2, ← e3]; exact hP⟩, hS.F ht⟩) hS.2.2 dX3_weaveThrough_77
        · refine lv_aload_n hx hb dX3_weaveThrough_25 rfl (lv_at hl 0 rfl) ?_
          refine va_get hx hb hts hi_X3_weaveThrough_X3 hown hK hP 0 (kw_o22 cI ad F G) rfl 3 (by decide) (hts _ (List.mem_of_getElem? (i := 3) rfl)) (fun _ h9 => h9) rfl dX3_weaveThrough_26 ?_
          refine lv_iload hx hb dX3_weaveThrough_29 (lv_at hl 5 rfl) ?_
          refine q_ld hx hb hK hP 4 0 (kw_a3 cI ad F G) rfl dX3_weaveThrough_31 h (fun v2 h => ?_)
          refine lv_aload_n hx hb dX3_weaveThrough_32 rfl (lv_at hl 1 rfl) ?_
          refine va_get hx hb hts hi_X3_weaveThrough_X0 hown hK hP 12 (kw_o38 cI ad F G) rfl 1 (by decide) (hts _ (List.mem_of_getElem? (i := 4) rfl)) (fun _ h9 => h9) rfl dX3_weaveThrough_33 ?_
          refine lv_aload_n hx hb dX3_weaveThrough_36 rfl (lv_at hl 0 rfl) ?_
          refine va_get hx hb hts hi_X3_weaveThrough_X3 hown hK hP 0 (kw_o22 cI ad F G) rfl 1 (by decide) (hts _ (List.mem_of_getElem? (i := 5) rfl)) (fun _ h9 => h9) rfl dX3_weaveThrough_37 ?_
          refine lv_iload hx hb dX3_weaveThrough_40 (lv_at hl 5 rfl) ?_
          refine q_ld hx hb hK hP 2 0 (kw_a1 cI ad F G) rfl dX3_weaveThrough_42 h (fun v3 h => ?_)
          refine q_ld hx hb hK hP 14 0 (kw_a31 cI ad F G) rfl dX3_weaveThrough_43 h (fun v4 h => ?_)
          refine q_icmp_ge (tgt := 69) hx hb dX3_weaveThrough_44 (by decide) h (fun h => ?_) (fun h => ?_)
          · exact j69 F G x4 x5 _ _ hP hS _ (lv_sub hl [0, 1, 2, 3, 4, 5] rfl) h
          · refine lv_aload_n hx hb dX3_weaveThrough_47 rfl (lv_at hl 0 rfl) ?_
            refine va_get hx hb hts hi_X3_weaveThrough_X3 hown hK hP 0 (kw_o22 cI ad F G) rfl 3 (by decide) (hts _ (List.mem_of_getElem? (i := 3) rfl)) (fun _ h9 => h9) rfl dX3_weaveThrough_48 ?_
            refine lv_iload hx hb dX3_weaveThrough_51 (lv_at hl 5 rfl) ?_
            refine lv_dup2_11 hx hb dX3_weaveThrough_53 rfl rfl ?_
            refine q_ld hx hb hK hP 4 0 (kw_a3 cI ad F G) rfl dX3_weaveThrough_54 h (fun v5 h => ?_)
            refine lv_iconst (v := 1) hx hb dX3_weaveThrough_55 (by decide) ?_
            refine lv_iadd hx hb dX3_weaveThrough_56 ?_
            refine q_st hx hb hK hP (kwW_D hDD _ _) hS 4 0 3 (fun z => kwW cI ad F z) (kw_a3 cI ad F G) rfl (kw_g3 cI ad F G _) dX3_weaveThrough_57 h (fun G6 H locs h hP hS => ?_)
            refine lv_aload_n hx hb dX3_weaveThrough_58 rfl (lv_at hl 2 rfl) ?_
            refine lv_iload_n hx hb dX3_weaveThrough_59 rfl (lv_at hl 3 rfl) ?_
            refine lv_iload hx hb dX3_weaveThrough_60 (lv_at hl 4 rfl) ?_
            refine lv_iadd hx hb dX3_weaveThrough_62 ?_
            refine lv_iload hx hb dX3_weaveThrough_63 (lv_at hl 5 rfl) ?_
            refine q_st hx hb hK hP (kwW_D hDD _ _) hS 9 0 8 (fun z => kwW cI ad F z) (kw_a8 cI ad F G6) rfl (kw_g8 cI ad F G6 _) dX3_weaveThrough_65 h (fun G7 H locs h hP hS => ?_)
            refine q_iinc (j := 4) (d := (1 : Int32)) (lv2 := fun v8 => [(4, .int (v8)), (0, .ref (ad 22)), (1, .ref (ad 38)), (2, .ref (ad 8)), (3, .int (x3)), (5, .int (x5))]) hx hb dX3_weaveThrough_66 hl rfl (by decide) (by decide) (fun _ => rfl) h (fun v8 ls hl h => ?_)
            exact j69 F G7 v8 x5 _ _ hP hS _ (lv_sub hl [1, 2, 3, 4, 0, 5] rfl) h
  refine lv_iconst (v := 0) hx hb dX3_weaveThrough_0 (by decide) ?_
  refine q_nm h (fun v9 h => ?_)
  refine lv_istore (lv' := [(4, .int (v9)), (0, .ref (ad 22)), (1, .ref (ad 38)), (2, .ref (ad 8)), (3, .int (x3))]) hx hb dX3_weaveThrough_1 hl (by decide) rfl (fun ls hl => ?_)
  refine lv_aload_n hx hb dX3_weaveThrough_3 rfl (lv_at hl 1 rfl) ?_
  refine va_get hx hb hts hi_X3_weaveThrough_X3 hown hK hP 0 (kw_o22 cI ad F G) rfl 11 (by decide) (hts _ (List.mem_of_getElem? (i := 1) rfl)) (fun _ h9 => h9) rfl dX3_weaveThrough_4 ?_
  refine lv_iconst (v := 1) hx hb dX3_weaveThrough_7 (by decide) ?_
  refine lv_isub hx hb dX3_weaveThrough_8 ?_
  refine q_nm h (fun v10 h => ?_)
  refine lv_istore (lv' := [(5, .int (v10)), (4, .int (v9)), (0, .ref (ad 22)), (1, .ref (ad 38)), (2, .ref (ad 8)), (3, .int (x3))]) hx hb dX3_weaveThrough_9 hl (by decide) rfl (fun ls hl => ?_)
  exact j11 1000 F G v9 v10 _ _ hP hS _ (lv_sub hl [2, 3, 4, 5, 1, 0] rfl) h
set_option maxHeartbeats 4000000 in
set_option maxRecDepth 100000 in
theorem mt_X3_unweave_8 (l : Launch) (D : va_G) (cI : ClassId) (ad : Nat → Nat) (F : Nat → Int32) (G : Nat → Nat → Int32) (x2 : Int32) (x3 : Int32) (Fz : Nat → Int32) (Gz : Nat → Nat → Int32) (hDD : va_D (fun _ => True) (kwW cI ad (fun _ => 0) (fun _ _ => 0))) (h : f_X3_unweave_8 F G x2 x3 = some (Fz, Gz)) : Met l yX3_unweave wsX3_unweave ({ frames := 0, cells := 0, slots := 0, locals := 0 } : Room) (va_Pc [.ref (ad 22), .ref (ad 8), .int x2, .int x3] (kwR D cI ad F G)) (va_Qv (fun (_ : Unit) => True) (fun _ t => va_P D vwCl (kwW cI ad Fz Gz) t.heap) (kwA cI ad)) 0 0 (kwA cI ad) := by
  refine Met.ofW (cc := cX3_unweave) (maxL := 5) (ret := none) (by decide) rfl ?_
  intro p e s m args below meth c s₁ B hml hv
  obtain ⟨rfl, hP, hK, hN⟩ := hv
  have hx := B.exec
  have hb := B.bytes
  have hr := B.returns
  have hts := atoms_spec (ws := wsX3_unweave) B.pre
  have hown : s.vm.findClass RX3 = some m.cls := findClass_of_methodNamed B.named
  have hlocks := B.notSynchronized
  have hS : va_S (kwA cI ad) s.heap s.heap [] := va_S.rf
  have hl := lv_entry ([.ref (ad 22), .ref (ad 8), .int x2, .int x3]) (n := 5) (Nat.le_of_ble_eq_true rfl)
  rw [lg_entry_eq]
  generalize (lg_sl ([.ref (ad 22), .ref (ad 8), .int x2, .int x3]) ++ List.replicate (5 - (lg_sl ([.ref (ad 22), .ref (ad 8), .int x2, .int x3])).length) Slot.unset).toArray = ls at hl ⊢
  have hl : lv_has ls 5 [(0, .ref (ad 22)), (1, .ref (ad 8)), (2, .int (x2)), (3, .int (x3))] := hl
  have j3 : ∀ n3 : Nat, ∀ (F : Nat → Int32) (G : Nat → Nat → Int32) (x4 : Int32) (H : Heap) (locs : List Loc) , va_P D vwCl (kwW cI ad F G) H → va_S (kwA cI ad) s.heap H locs → ∀ ls : Array Slot, lv_has ls 5 [(0, .ref (ad 22)), (1, .ref (ad 8)), (2, .int (x2)), (3, .int (x3)), (4, .int (x4))] → f_X3_unweave_8_L3 x2 x3 n3 F G x4 = some (Fz, Gz) → W p l e (headSpec wsX3_unweave ({ frames := 0, cells := 0, slots := 0, locals := 0 } : Room)).room s m (List.toArray ([.ref (ad 22), .ref (ad 8), .int x2, .int x3] : List Value)) below meth c H locs 0 0 (MQ below (va_Qv (fun (_ : Unit) => True) (fun _ t => va_P D vwCl (kwW cI ad Fz Gz) t.heap) (kwA cI ad)) (List.toArray ([.ref (ad 22), .ref (ad 8), .int x2, .int x3] : List Value)) s 0 0 (kwA cI ad)) (F0 m 3 ls []) := by
    intro n3
    induction n3 with
    | zero =>
      intro F G x4 H locs hP hS ls hl h
      cases h
    | succ n3 ih3 =>
      intro F G x4 H locs hP hS ls hl h
      replace h : f_X3_unweave_8_L3_b (f_X3_unweave_8_L3 x2 x3 n3) x2 x3 F G x4 = some (Fz, Gz) := h
      refine lv_iload hx hb dX3_unweave_3 (lv_at hl 4 rfl) ?_
      refine lv_iload_n hx hb dX3_unweave_5 rfl (lv_at hl 3 rfl) ?_
      refine q_icmp_ge (tgt := 30) hx hb dX3_unweave_6 (by decide) h (fun h => ?_) (fun h => ?_)
      · have e2 := congrArg Prod.fst (Option.some.inj h)
        have e3 := congrArg Prod.snd (Option.some.inj h)
        dsimp only at e2 e3
        exact W.vret hx hb hr (fun t ht hW => ⟨⟨(), rfl, trivial, by show va_P D vwCl _ t.heap; rw [ht, ← e2, ← e3]; exact hP⟩, hS.F ht⟩) hS.2.2 dX3_unweave_30
      · refine lv_aload_n hx hb dX3_unweave_9 rfl (lv_at hl 0 rfl) ?_
        refine va_get hx hb hts hi_X3_unweave_X3 hown hK hP 0 (kw_o22 cI ad F G) rfl 3 (by decide) (hts _ (List.mem_of_getElem? (i := 1) rfl)) (fun _ h9 => h9) rfl dX3_unweave_10 ?_
        refine lv_aload_n hx hb dX3_unweave_13 rfl (lv_at hl 1 rfl) ?_
        refine lv_iload_n hx hb dX3_unweave_14 rfl (lv_at hl 2 rfl) ?_
        refine lv_iload hx hb dX3_unweave_15 (lv_at hl 4 rfl) ?_
        refine lv_iadd hx hb dX3_unweave_17 ?_
        refine q_ld hx hb hK hP 9 0 (kw_a8 cI ad F G) rfl dX3_unweave_18 h (fun v1 h => ?_)
        refine lv_dup2_11 hx hb dX3_unweave_19 rfl rfl ?_
        refine q_ld hx hb hK hP 4 0 (kw_a3 cI ad F G) rfl dX3_unweave_20 h (fun v2 h => ?_)
        refine lv_iconst (v := 1) hx hb dX3_unweave_21 (by decide) ?_
        refine lv_isub hx hb dX3_unweave_22 ?_
        refine q_st hx hb hK hP (kwW_D hDD _ _) hS 4 0 3 (fun z => kwW cI ad F z) (kw_a3 cI ad F G) rfl (kw_g3 cI ad F G _) dX3_unweave_23 h (fun G3 H locs h hP hS => ?_)
        refine q_iinc (j := 4) (d := (1 : Int32)) (lv2 := fun v4 => [(4, .int (v4)), (0, .ref (ad 22)), (1, .ref (ad 8)), (2, .int (x2)), (3, .int (x3))]) hx hb dX3_unweave_24 hl rfl (by decide) (by decide) (fun _ => rfl) h (fun v4 ls hl h => ?_)
        refine lv_goto (tgt := 3) hx hb dX3_unweave_27 (by decide) ?_
        exact ih3 F G3 v4 _ _ hP hS _ (lv_sub hl [1, 2, 3, 4, 0] rfl) h
  refine lv_iconst (v := 0) hx hb dX3_unweave_0 (by decide) ?_
  refine q_nm h (fun v5 h => ?_)
  refine lv_istore (lv' := [(4, .int (v5)), (0, .ref (ad 22)), (1, .ref (ad 8)), (2, .int (x2)), (3, .int (x3))]) hx hb dX3_unweave_1 hl (by decide) rfl (fun ls hl => ?_)
  exact j3 1000 F G v5 _ _ hP hS _ (lv_sub hl [1, 2, 3, 4, 0] rfl) h
theorem hi_X3_join_X0 : ∀ w ∈ u_ws RX0 TX0 8, w ∈ wsX3_join := fun w h => (List.mem_cons_of_mem _ (List.mem_append_right _ h))
theorem hi_X3_join_X3 : ∀ w ∈ u_ws RX3 TX3 19, w ∈ wsX3_join := fun w h => (List.mem_cons_of_mem _ (List.mem_append_left _ (List.mem_append_right _ h)))
set_option maxHeartbeats 4000000 in
set_option maxRecDepth 100000 in
theorem mt_X3_join (l : Launch) (D : va_G) (cI : ClassId) (ad : Nat → Nat) (F : Nat → Int32) (G : Nat → Nat → Int32)  (rv : Int32) (Fz : Nat → Int32) (Gz : Nat → Nat → Int32) (hDD : va_D (fun _ => True) (kwW cI ad (fun _ => 0) (fun _ _ => 0))) (h : f_X3_join F G  = some (rv, Fz, Gz)) : Met l yX3_join wsX3_join ({ frames := 1, cells := 0, slots := 0, locals := 25 } : Room) (va_Pc [.ref (ad 22), .ref (ad 38)] (kwR D cI ad F G)) (va_Qi (fun z (_ : Unit) => z = rv) (fun _ t => va_P D vwCl (kwW cI ad Fz Gz) t.heap) (kwA cI ad)) 0 0 (kwA cI ad) := by
  refine Met.ofW (cc := cX3_join) (maxL := 5) (ret := (some .boolean)) (by decide) rfl ?_
  intro p e s m args below meth c s₁ B hml hv
  obtain ⟨rfl, hP, hK, hN⟩ := hv
  have hx := B.exec
  have hb := B.bytes
  have hr := B.returns
  have hts := atoms_spec (ws := wsX3_join) B.pre
  have hown : s.vm.findClass RX3 = some m.cls := findClass_of_methodNamed B.named
  have hlocks := B.notSynchronized
  have hS : va_S (kwA cI ad) s.heap s.heap [] := va_S.rf
  have hl := lv_entry ([.ref (ad 22), .ref (ad 38)]) (n := 5) (Nat.le_of_ble_eq_true rfl)
  rw [lg_entry_eq]
  generalize (lg_sl ([.ref (ad 22), .ref (ad 38)]) ++ List.replicate (5 - (lg_sl ([.ref (ad 22), .ref (ad 38)])).length) Slot.unset).toArray = ls at hl ⊢
  have hl : lv_has ls 5 [(0, .ref (ad 22)), (1, .ref (ad 38))] := hl
  have j29 : ∀ (F : Nat → Int32) (G : Nat → Nat → Int32) (x2 : Int32) (H : Heap) (locs : List Loc) , va_P D vwCl (kwW cI ad F G) H → va_S (kwA cI ad) s.heap H locs → ∀ ls : Array Slot, lv_has ls 5 [(0, .ref (ad 22)), (2, .int (x2))] → f_X3_join_B29 F G x2 = some (rv, Fz, Gz) → W p l e (headSpec wsX3_join ({ frames := 1, cells := 0, slots := 0, locals := 25 } : Room)).room s m (List.toArray ([.ref (ad 22), .ref (ad 38)] : List Value)) below meth c H locs 0 0 (MQ below (va_Qi (fun z (_ : Unit) => z = rv) (fun _ t => va_P D vwCl (kwW cI ad Fz Gz) t.heap) (kwA cI ad)) (List.toArray ([.ref (ad 22), .ref (ad 38)] : List Value)) s 0 0 (kwA cI ad)) (F0 m 29 ls []) := by
    intro F G x2 H locs hP hS ls hl h
    refine lv_aload_n hx hb dX3_join_29 rfl (lv_at hl 0 rfl) ?_
    refine lv_aload_n hx hb dX3_join_30 rfl (lv_at hl 0 rfl) ?_
    refine va_get hx hb hts hi_X3_join_X3 hown hK hP 0 (kw_o22 cI ad F G) rfl 8 (by decide) (hts _ (List.mem_of_getElem? (i := 1) rfl)) (fun _ h9 => h9) rfl dX3_join_31 ?_
    refine lv_iconst (v := 0) hx hb dX3_join_34 (by decide) ?_
    refine lv_iload_n hx hb dX3_join_35 rfl (lv_at hl 1 rfl) ?_
    obtain ⟨⟨F2, G3⟩, hc4, h⟩ := q_some h
    refine q_cv (va_runV (C := RX3) (As := [.ref (ad 8), .int ((0 : Int32)), .int (x2)]) (rest := []) ⟨hx, hb, hml, hown, hts⟩ (mt_X3_unweave_8 l D cI ad F G (0 : Int32) x2 F2 G3 hDD hc4) (cwV 3 hts gX3_join_X3_unweave rfl rfl rfl (by decide +kernel) ⟨Nat.le_of_ble_eq_true rfl, Nat.le_of_ble_eq_true rfl⟩) ⟨kwR_b, va_recv hK hP (ci := 3) (q0 := 0) rfl rfl, (kwR_p hP hK hN).2⟩ rfl rfl hl.1 rfl (lv_room (Nat.le_of_ble_eq_true rfl)) dX3_join_36 ⟨Nat.le_of_ble_eq_true rfl, Nat.le_of_ble_eq_true rfl⟩) hS (fun H locs hP hS => ?_)
    refine lv_iconst (v := 0) hx hb dX3_join_39 (by decide) ?_
    have e1 := congrArg Prod.fst (Option.some.inj h)
    have e2 := congrArg (fun z => z.2.1) (Option.some.inj h)
    have e3 := congrArg (fun z => z.2.2) (Option.some.inj h)
    dsimp only at e1 e2 e3
    exact W.zret hx hb hr rfl (fun t ht hW => ⟨⟨_, (), rfl, e1, by show va_P D vwCl _ t.heap; rw [ht, ← e2, ← e3]; exact hP⟩, hS.F ht⟩) hS.2.2 dX3_join_40
  refine lv_aload_n hx hb dX3_join_0 rfl (lv_at hl 0 rfl) ?_
  refine lv_aload_n hx hb dX3_join_1 rfl (lv_at hl 1 rfl) ?_
  refine lv_aload_n hx hb dX3_join_2 rfl (lv_at hl 0 rfl) ?_
  refine va_get hx hb hts hi_X3_join_X3 hown hK hP 0 (kw_o22 cI ad F G) rfl 8 (by decide) (hts _ (List.mem_of_getElem? (i := 1) rfl)) (fun _ h9 => h9) rfl dX3_join_3 ?_
  refine lv_iconst (v := 0) hx hb dX3_join_6 (by decide) ?_
  obtain ⟨⟨v5, F6, G7⟩, hc8, h⟩ := q_some h
  refine q_ci (va_runV (C := RX3) (As := [.ref (ad 38), .ref (ad 8), .int ((0 : Int32))]) (rest := []) ⟨hx, hb, hml, hown, hts⟩ (mt_X3_weaveThrough_8 l D cI ad F G (0 : Int32) v5 F6 G7 hDD hc8) (cwV 3 hts gX3_join_X3_weaveThrough rfl rfl rfl (by decide +kernel) ⟨Nat.le_of_ble_eq_true rfl, Nat.le_of_ble_eq_true rfl⟩) ⟨kwR_b, va_recv hK hP (ci := 3) (q0 := 0) rfl rfl, (kwR_p hP hK hN).2⟩ rfl rfl hl.1 rfl (lv_room (Nat.le_of_ble_eq_true rfl)) dX3_join_7 ⟨Nat.le_of_ble_eq_true rfl, Nat.le_of_ble_eq_true rfl⟩) hS (fun H locs hP hS => ?_)
  refine lv_istore_n (lv' := [(2, .int (v5)), (0, .ref (ad 22)), (1, .ref (ad 38))]) hx hb dX3_join_10 rfl hl (by decide) rfl (fun ls hl => ?_)
  refine lv_iload_n hx hb dX3_join_11 rfl (lv_at hl 0 rfl) ?_
  refine lv_aload_n hx hb dX3_join_12 rfl (lv_at hl 1 rfl) ?_
  refine va_get hx hb hts hi_X3_join_X3 hown hK hP 0 (kw_o22 cI ad F6 G7) rfl 18 (by decide) (hts _ (List.mem_of_getElem? (i := 2) rfl)) (fun _ h9 => h9) rfl dX3_join_13 ?_
  refine q_icmp_lt (tgt := 29) hx hb dX3_join_16 (by decide) h (fun h => ?_) (fun h => ?_)
  · exact j29 F6 G7 v5 _ _ hP hS _ (lv_sub hl [1, 0] rfl) h
  · refine lv_aload_n hx hb dX3_join_19 rfl (lv_at hl 1 rfl) ?_
    refine va_get hx hb hts hi_X3_join_X3 hown hK hP 0 (kw_o22 cI ad F6 G7) rfl 14 (by decide) (hts _ (List.mem_of_getElem? (i := 3) rfl)) (fun _ h9 => h9) rfl dX3_join_20 ?_
    refine lv_sipush (v := 144) hx hb dX3_join_23 (by decide) ?_
    refine q_icmp_lt (tgt := 41) hx hb dX3_join_26 (by decide) h (fun h => ?_) (fun h => ?_)
    · refine lv_aload_n hx hb dX3_join_41 rfl (lv_at hl 1 rfl) ?_
      refine va_get hx hb hts hi_X3_join_X3 hown hK hP 0 (kw_o22 cI ad F6 G7) rfl 14 (by decide) (hts _ (List.mem_of_getElem? (i := 3) rfl)) (fun _ h9 => h9) rfl dX3_join_42 ?_
      refine lv_bipush (v := 6) hx hb dX3_join_45 (by decide) ?_
      refine lv_imul hx hb dX3_join_47 ?_
      refine q_nm h (fun v9 h => ?_)
      refine lv_istore_n (lv' := [(3, .int (v9)), (2, .int (v5)), (0, .ref (ad 22)), (1, .ref (ad 38))]) hx hb dX3_join_48 rfl hl (by decide) rfl (fun ls hl => ?_)
      refine lv_aload_n hx hb dX3_join_49 rfl (lv_at hl 2 rfl) ?_
      refine lv_aload_n hx hb dX3_join_50 rfl (lv_at hl 3 rfl) ?_
      refine lv_aload_n hx hb dX3_join_51 rfl (lv_at hl 2 rfl) ?_
      refine va_get hx hb hts hi_X3_join_X3 hown hK hP 0 (kw_o22 cI ad F6 G7) rfl 7 (by decide) (hts _ (List.mem_of_getElem? (i := 4) rfl)) (fun _ h9 => h9) rfl dX3_join_52 ?_
      refine lv_iload_n hx hb dX3_join_55 rfl (lv_at hl 0 rfl) ?_
      obtain ⟨⟨v10, F11, G12⟩, hc13, h⟩ := q_some h
      refine q_ci (va_runV (C := RX3) (As := [.ref (ad 38), .ref (ad 7), .int (v9)]) (rest := []) ⟨hx, hb, hml, hown, hts⟩ (mt_X3_weaveThrough_7 l D cI ad F6 G7 v9 v10 F11 G12 hDD hc13) (cwV 3 hts gX3_join_X3_weaveThrough rfl rfl rfl (by decide +kernel) ⟨Nat.le_of_ble_eq_true rfl, Nat.le_of_ble_eq_true rfl⟩) ⟨kwR_b, va_recv hK hP (ci := 3) (q0 := 0) rfl rfl, (kwR_p hP hK hN).2⟩ rfl rfl hl.1 rfl (lv_room (Nat.le_of_ble_eq_true rfl)) dX3_join_56 ⟨Nat.le_of_ble_eq_true rfl, Nat.le_of_ble_eq_true rfl⟩) hS (fun H locs hP hS => ?_)
      refine lv_istore (lv' := [(4, .int (v10)), (3, .int (v9)), (2, .int (v5)), (0, .ref (ad 22)), (1, .ref (ad 38))]) hx hb dX3_join_59 hl (by decide) rfl (fun ls hl => ?_)
      refine lv_iload hx hb dX3_join_61 (lv_at hl 0 rfl) ?_
      refine lv_aload_n hx hb dX3_join_63 rfl (lv_at hl 3 rfl) ?_
      refine va_get hx hb hts hi_X3_join_X3 hown hK hP 0 (kw_o22 cI ad F11 G12) rfl 18 (by decide) (hts _ (List.mem_of_getElem? (i := 2) rfl)) (fun _ h9 => h9) rfl dX3_join_64 ?_
      refine q_icmp_ge (tgt := 93) hx hb dX3_join_67 (by decide) h (fun h => ?_) (fun h => ?_)
      · refine lv_aload_n hx hb dX3_join_93 rfl (lv_at hl 3 rfl) ?_
        refine lv_dup hx hb dX3_join_94 rfl ?_
        refine va_get hx hb hts hi_X3_join_X3 hown hK hP 0 (kw_o22 cI ad F11 G12) rfl 17 (by decide) (hts _ (List.mem_of_getElem? (i := 5) rfl)) (fun _ h9 => h9) rfl dX3_join_95 ?_
        refine lv_iload_n hx hb dX3_join_98 rfl (lv_at hl 2 rfl) ?_
        refine lv_iload hx hb dX3_join_99 (lv_at hl 0 rfl) ?_
        refine lv_iadd hx hb dX3_join_101 ?_
        refine lv_iadd hx hb dX3_join_102 ?_
        refine q_put (ty := .int) hx hb hts hi_X3_join_X3 tyX3 tyX3_ok nmX3 hown hK hP (kwW_D hDD _ _) hS 0 17 (fun z => kwW cI ad z G12) (kw_o22 cI ad F11 G12) rfl 17 (by decide) (hts _ (List.mem_of_getElem? (i := 5) rfl)) (fun _ h9 => h9) rfl (by decide +kernel) rfl rfl (Nat.le_of_ble_eq_true rfl) (kw_f17 cI ad F11 G12 _) dX3_join_103 h (fun F14 H locs h hP hS => ?_)
        refine lv_aload_n hx hb dX3_join_106 rfl (lv_at hl 3 rfl) ?_
        refine lv_dup hx hb dX3_join_107 rfl ?_
        refine va_get hx hb hts hi_X3_join_X3 hown hK hP 0 (kw_o22 cI ad F14 G12) rfl 14 (by decide) (hts _ (List.mem_of_getElem? (i := 3) rfl)) (fun _ h9 => h9) rfl dX3_join_108 ?_
        refine lv_iconst (v := 1) hx hb dX3_join_111 (by decide) ?_
        refine lv_iadd hx hb dX3_join_112 ?_
        refine q_put (ty := .int) hx hb hts hi_X3_join_X3 tyX3 tyX3_ok nmX3 hown hK hP (kwW_D hDD _ _) hS 0 14 (fun z => kwW cI ad z G12) (kw_o22 cI ad F14 G12) rfl 14 (by decide) (hts _ (List.mem_of_getElem? (i := 3) rfl)) (fun _ h9 => h9) rfl (by decide +kernel) rfl rfl (Nat.le_of_ble_eq_true rfl) (kw_f14 cI ad F14 G12 _) dX3_join_113 h (fun F15 H locs h hP hS => ?_)
        refine lv_aload_n hx hb dX3_join_116 rfl (lv_at hl 3 rfl) ?_
        refine lv_aload_n hx hb dX3_join_117 rfl (lv_at hl 4 rfl) ?_
        refine va_get hx hb hts hi_X3_join_X0 hown hK hP 12 (kw_o38 cI ad F15 G12) rfl 6 (by decide) (hts _ (List.mem_of_getElem? (i := 6) rfl)) (fun _ h9 => h9) rfl dX3_join_118 ?_
        refine q_put (ty := .int) hx hb hts hi_X3_join_X3 tyX3 tyX3_ok nmX3 hown hK hP (kwW_D hDD _ _) hS 0 16 (fun z => kwW cI ad z G12) (kw_o22 cI ad F15 G12) rfl 16 (by decide) (hts _ (List.mem_of_getElem? (i := 7) rfl)) (fun _ h9 => h9) rfl (by decide +kernel) rfl rfl (Nat.le_of_ble_eq_true rfl) (kw_f16 cI ad F15 G12 _) dX3_join_121 h (fun F16 H locs h hP hS => ?_)
        refine lv_iconst (v := 1) hx hb dX3_join_124 (by decide) ?_
        have e1 := congrArg Prod.fst (Option.some.inj h)
        have e2 := congrArg (fun z => z.2.1) (Option.some.inj h)
        have e3 := congrArg (fun z => z.2.2) (Option.some.inj h)
        dsimp only at e1 e2 e3
        exact W.zret hx hb hr rfl (fun t ht hW => ⟨⟨_, (), rfl, e1, by show va_P D vwCl _ t.heap; rw [ht, ← e2, ← e3]; exact hP⟩, hS.F ht⟩) hS.2.2 dX3_join_125
      · refine lv_aload_n hx hb dX3_join_70 rfl (lv_at hl 3 rfl) ?_
        refine lv_aload_n hx hb dX3_join_71 rfl (lv_at hl 3 rfl) ?_
        refine va_get hx hb hts hi_X3_join_X3 hown hK hP 0 (kw_o22 cI ad F11 G12) rfl 7 (by decide) (hts _ (List.mem_of_getElem? (i := 4) rfl)) (fun _ h9 => h9) rfl dX3_join_72 ?_
        refine lv_iload_n hx hb dX3_join_75 rfl (lv_at hl 1 rfl) ?_
        refine lv_iload hx hb dX3_join_76 (lv_at hl 0 rfl) ?_
        obtain ⟨⟨F18, G19⟩, hc20, h⟩ := q_some h
        refine q_cv (va_runV (C := RX3) (As := [.ref (ad 7), .int (v9), .int (v10)]) (rest := []) ⟨hx, hb, hml, hown, hts⟩ (mt_X3_unweave_7 l D cI ad F11 G12 v9 v10 F18 G19 hDD hc20) (cwV 3 hts gX3_join_X3_unweave rfl rfl rfl (by decide +kernel) ⟨Nat.le_of_ble_eq_true rfl, Nat.le_of_ble_eq_true rfl⟩) ⟨kwR_b, va_recv hK hP (ci := 3) (q0 := 0) rfl rfl, (kwR_p hP hK hN).2⟩ rfl rfl hl.1 rfl (lv_room (Nat.le_of_ble_eq_true rfl)) dX3_join_78 ⟨Nat.le_of_ble_eq_true rfl, Nat.le_of_ble_eq_true rfl⟩) hS (fun H locs hP hS => ?_)
        refine lv_aload_n hx hb dX3_join_81 rfl (lv_at hl 3 rfl) ?_
        refine lv_aload_n hx hb dX3_join_82 rfl (lv_at hl 3 rfl) ?_
        refine va_get hx hb hts hi_X3_join_X3 hown hK hP 0 (kw_o22 cI ad F18 G19) rfl 8 (by decide) (hts _ (List.mem_of_getElem? (i := 1) rfl)) (fun _ h9 => h9) rfl dX3_join_83 ?_
        refine lv_iconst (v := 0) hx hb dX3_join_86 (by decide) ?_
        refine lv_iload_n hx hb dX3_join_87 rfl (lv_at hl 2 rfl) ?_
        obtain ⟨⟨F22, G23⟩, hc24, h⟩ := q_some h
        refine q_cv (va_runV (C := RX3) (As := [.ref (ad 8), .int ((0 : Int32)), .int (v5)]) (rest := []) ⟨hx, hb, hml, hown, hts⟩ (mt_X3_unweave_8 l D cI ad F18 G19 (0 : Int32) v5 F22 G23 hDD hc24) (cwV 3 hts gX3_join_X3_unweave rfl rfl rfl (by decide +kernel) ⟨Nat.le_of_ble_eq_true rfl, Nat.le_of_ble_eq_true rfl⟩) ⟨kwR_b, va_recv hK hP (ci := 3) (q0 := 0) rfl rfl, (kwR_p hP hK hN).2⟩ rfl rfl hl.1 rfl (lv_room (Nat.le_of_ble_eq_true rfl)) dX3_join_88 ⟨Nat.le_of_ble_eq_true rfl, Nat.le_of_ble_eq_true rfl⟩) hS (fun H locs hP hS => ?_)
        refine lv_iconst (v := 0) hx hb dX3_join_91 (by decide) ?_
        have e1 := congrArg Prod.fst (Option.some.inj h)
        have e2 := congrArg (fun z => z.2.1) (Option.some.inj h)
        have e3 := congrArg (fun z => z.2.2) (Option.some.inj h)
        dsimp only at e1 e2 e3
        exact W.zret hx hb hr rfl (fun t ht hW => ⟨⟨_, (), rfl, e1, by show va_P D vwCl _ t.heap; rw [ht, ← e2, ← e3]; exact hP⟩, hS.F ht⟩) hS.2.2 dX3_join_92
    · exact j29 F6 G7 v5 _ _ hP hS _ (lv_sub hl [1, 0] rfl) h
theorem hi_X3_startAnew_X0 : ∀ w ∈ u_ws RX0 TX0 8, w ∈ wsX3_startAnew := fun w h => (List.mem_cons_of_mem _ (List.mem_append_right _ h))
theorem hi_X3_startAnew_X3 : ∀ w ∈ u_ws RX3 TX3 19, w ∈ wsX3_startAnew := fun w h => (List.mem_cons_of_mem _ (List.mem_append_left _ (List.mem_append_right _ h)))
set_option maxHeartbeats 4000000 in
set_option maxRecDepth 100000 in
theorem mt_X3_startAnew (l : Launch) (D : va_G) (cI : ClassId) (ad : Nat → Nat) (F : Nat → Int32) (G : Nat → Nat → Int32)  (Fz : Nat → Int32) (Gz : Nat → Nat → Int32) (hDD : va_D (fun _ => True) (kwW cI ad (fun _ => 0) (fun _ _ => 0))) (h : f_X3_startAnew F G  = some (Fz, Gz)) : Met l yX3_startAnew wsX3_startAnew ({ frames := 1, cells := 0, slots := 0, locals := 23 } : Room) (va_Pc [.ref (ad 22), .ref (ad 38)] (kwR D cI ad F G)) (va_Qv (fun (_ : Unit) => True) (fun _ t => va_P D vwCl (kwW cI ad Fz Gz) t.heap) (kwA cI ad)) 0 0 (kwA cI ad) := by
  refine Met.ofW (cc := cX3_startAnew) (maxL := 2) (ret := none) (by decide) rfl ?_
  intro p e s m args below meth c s₁ B hml hv
  obtain ⟨rfl, hP, hK, hN⟩ := hv
  have hx := B.exec
  have hb := B.bytes
  have hr := B.returns
  have hts := atoms_spec (ws := wsX3_startAnew) B.pre
  have hown : s.vm.findClass RX3 = some m.cls := findClass_of_methodNamed B.named
  have hlocks := B.notSynchronized
  have hS : va_S (kwA cI ad) s.heap s.heap [] := va_S.rf
  have hl := lv_entry ([.ref (ad 22), .ref (ad 38)]) (n := 2) (Nat.le_of_ble_eq_true rfl)
  rw [lg_entry_eq]
  generalize (lg_sl ([.ref (ad 22), .ref (ad 38)]) ++ List.replicate (2 - (lg_sl ([.ref (ad 22), .ref (ad 38)])).length) Slot.unset).toArray = ls at hl ⊢
  have hl : lv_has ls 2 [(0, .ref (ad 22)), (1, .ref (ad 38))] := hl
  refine lv_aload_n hx hb dX3_startAnew_0 rfl (lv_at hl 0 rfl) ?_
  refine va_get hx hb hts hi_X3_startAnew_X3 hown hK hP 0 (kw_o22 cI ad F G) rfl 6 (by decide) (hts _ (List.mem_of_getElem? (i := 1) rfl)) (fun _ h9 => h9) rfl dX3_startAnew_1 ?_
  refine lv_iconst (v := -1) hx hb dX3_startAnew_4 (by decide) ?_
  refine q_fl (Wd := fun z => kwW cI ad F z) (va_runS (As := [.ref (ad 6), .int ((-1 : Int32))]) (rest := []) ⟨hx, hb, hml, hown, hts⟩ (mt_fill l D cI (-1 : Int32) (kw_a6 cI ad F G) (kwW_D hDD F G) (by decide)) (va_cwS 2 hts gX3_startAnew_J7_fill_53178 rfl rfl rfl (by decide +kernel) ⟨Nat.le_of_ble_eq_true rfl, Nat.le_of_ble_eq_true rfl⟩) (fill_p hP hK) rfl rfl hl.1 rfl (lv_room (Nat.le_of_ble_eq_true rfl)) dX3_startAnew_5 ⟨Nat.le_of_ble_eq_true rfl, Nat.le_of_ble_eq_true rfl⟩) (kw_h6 cI ad F G (-1 : Int32)) hS h (fun G1 H locs h hP hS => ?_)
  refine lv_aload_n hx hb dX3_startAnew_8 rfl (lv_at hl 0 rfl) ?_
  refine lv_iconst (v := 1) hx hb dX3_startAnew_9 (by decide) ?_
  refine q_put (ty := .boolean) hx hb hts hi_X3_startAnew_X3 tyX3 tyX3_ok nmX3 hown hK hP (kwW_D hDD _ _) hS 0 10 (fun z => kwW cI ad z G1) (kw_o22 cI ad F G1) rfl 10 (by decide) (hts _ (List.mem_of_getElem? (i := 2) rfl)) (fun _ h9 => h9) rfl (by decide +kernel) rfl rfl (Nat.le_of_ble_eq_true rfl) (kw_f10 cI ad F G1 _) dX3_startAnew_10 h (fun F2 H locs h hP hS => ?_)
  refine lv_aload_n hx hb dX3_startAnew_13 rfl (lv_at hl 0 rfl) ?_
  refine lv_iconst (v := 0) hx hb dX3_startAnew_14 (by decide) ?_
  refine q_put (ty := .int) hx hb hts hi_X3_startAnew_X3 tyX3 tyX3_ok nmX3 hown hK hP (kwW_D hDD _ _) hS 0 11 (fun z => kwW cI ad z G1) (kw_o22 cI ad F2 G1) rfl 11 (by decide) (hts _ (List.mem_of_getElem? (i := 3) rfl)) (fun _ h9 => h9) rfl (by decide +kernel) rfl rfl (Nat.le_of_ble_eq_true rfl) (kw_f11 cI ad F2 G1 _) dX3_startAnew_15 h (fun F3 H locs h hP hS => ?_)
  refine lv_aload_n hx hb dX3_startAnew_18 rfl (lv_at hl 0 rfl) ?_
  refine lv_iconst (v := 0) hx hb dX3_startAnew_19 (by decide) ?_
  refine q_put (ty := .int) hx hb hts hi_X3_startAnew_X3 tyX3 tyX3_ok nmX3 hown hK hP (kwW_D hDD _ _) hS 0 12 (fun z => kwW cI ad z G1) (kw_o22 cI ad F3 G1) rfl 12 (by decide) (hts _ (List.mem_of_getElem? (i := 4) rfl)) (fun _ h9 => h9) rfl (by decide +kernel) rfl rfl (Nat.le_of_ble_eq_true rfl) (kw_f12 cI ad F3 G1 _) dX3_startAnew_20 h (fun F4 H locs h hP hS => ?_)
  refine lv_aload_n hx hb dX3_startAnew_23 rfl (lv_at hl 0 rfl) ?_
  refine lv_iconst (v := -1) hx hb dX3_startAnew_24 (by decide) ?_
  refine q_put (ty := .int) hx hb hts hi_X3_startAnew_X3 tyX3 tyX3_ok nmX3 hown hK hP (kwW_D hDD _ _) hS 0 13 (fun z => kwW cI ad z G1) (kw_o22 cI ad F4 G1) rfl 13 (by decide) (hts _ (List.mem_of_getElem? (i := 5) rfl)) (fun _ h9 => h9) rfl (by decide +kernel) rfl rfl (Nat.le_of_ble_eq_true rfl) (kw_f13 cI ad F4 G1 _) dX3_startAnew_25 h (fun F5 H locs h hP hS => ?_)
  refine lv_aload_n hx hb dX3_startAnew_28 rfl (lv_at hl 0 rfl) ?_
  refine lv_iconst (v := 0) hx hb dX3_startAnew_29 (by decide) ?_
  refine q_put (ty := .int) hx hb hts hi_X3_startAnew_X3 tyX3 tyX3_ok nmX3 hown hK hP (kwW_D hDD _ _) hS 0 14 (fun z => kwW cI ad z G1) (kw_o22 cI ad F5 G1) rfl 14 (by decide) (hts _ (List.mem_of_getElem? (i := 6) rfl)) (fun _ h9 => h9) rfl (by decide +kernel) rfl rfl (Nat.le_of_ble_eq_true rfl) (kw_f14 cI ad F5 G1 _) dX3_startAnew_30 h (fun F6 H locs h hP hS => ?_)
  refine lv_aload_n hx hb dX3_startAnew_33 rfl (lv_at hl 0 rfl) ?_
  refine lv_iconst (v := 0) hx hb dX3_startAnew_34 (by decide) ?_
  refine q_put (ty := .int) hx hb hts hi_X3_startAnew_X3 tyX3 tyX3_ok nmX3 hown hK hP (kwW_D hDD _ _) hS 0 15 (fun z => kwW cI ad z G1) (kw_o22 cI ad F6 G1) rfl 15 (by decide) (hts _ (List.mem_of_getElem? (i := 7) rfl)) (fun _ h9 => h9) rfl (by decide +kernel) rfl rfl (Nat.le_of_ble_eq_true rfl) (kw_f15 cI ad F6 G1 _) dX3_startAnew_35 h (fun F7 H locs h hP hS => ?_)
  refine lv_aload_n hx hb dX3_startAnew_38 rfl (lv_at hl 0 rfl) ?_
  refine lv_iconst (v := 0) hx hb dX3_startAnew_39 (by decide) ?_
  refine q_put (ty := .int) hx hb hts hi_X3_startAnew_X3 tyX3 tyX3_ok nmX3 hown hK hP (kwW_D hDD _ _) hS 0 16 (fun z => kwW cI ad z G1) (kw_o22 cI ad F7 G1) rfl 16 (by decide) (hts _ (List.mem_of_getElem? (i := 8) rfl)) (fun _ h9 => h9) rfl (by decide +kernel) rfl rfl (Nat.le_of_ble_eq_true rfl) (kw_f16 cI ad F7 G1 _) dX3_startAnew_40 h (fun F8 H locs h hP hS => ?_)
  refine lv_aload_n hx hb dX3_startAnew_43 rfl (lv_at hl 0 rfl) ?_
  refine lv_iconst (v := 0) hx hb dX3_startAnew_44 (by decide) ?_
  refine q_put (ty := .int) hx hb hts hi_X3_startAnew_X3 tyX3 tyX3_ok nmX3 hown hK hP (kwW_D hDD _ _) hS 0 17 (fun z => kwW cI ad z G1) (kw_o22 cI ad F8 G1) rfl 17 (by decide) (hts _ (List.mem_of_getElem? (i := 9) rfl)) (fun _ h9 => h9) rfl (by decide +kernel) rfl rfl (Nat.le_of_ble_eq_true rfl) (kw_f17 cI ad F8 G1 _) dX3_startAnew_45 h (fun F9 H locs h hP hS => ?_)
  refine lv_aload_n hx hb dX3_startAnew_48 rfl (lv_at hl 0 rfl) ?_
  refine lv_aload_n hx hb dX3_startAnew_49 rfl (lv_at hl 1 rfl) ?_
  refine va_get hx hb hts hi_X3_startAnew_X0 hown hK hP 12 (kw_o38 cI ad F9 G1) rfl 7 (by decide) (hts _ (List.mem_of_getElem? (i := 10) rfl)) (fun _ h9 => h9) rfl dX3_startAnew_50 ?_
  refine q_put (ty := .int) hx hb hts hi_X3_startAnew_X3 tyX3 tyX3_ok nmX3 hown hK hP (kwW_D hDD _ _) hS 0 18 (fun z => kwW cI ad z G1) (kw_o22 cI ad F9 G1) rfl 18 (by decide) (hts _ (List.mem_of_getElem? (i := 11) rfl)) (fun _ h9 => h9) rfl (by decide +kernel) rfl rfl (Nat.le_of_ble_eq_true rfl) (kw_f18 cI ad F9 G1 _) dX3_startAnew_53 h (fun F10 H locs h hP hS => ?_)
  have e2 := congrArg Prod.fst (Option.some.inj h)
  have e3 := congrArg Prod.snd (Option.some.inj h)
  dsimp only at e2 e3
  exact W.vret hx hb hr (fun t ht hW => ⟨⟨(), rfl, trivial, by show va_P D vwCl _ t.heap; rw [ht, ← e2, ← e3]; exact hP⟩, hS.F ht⟩) hS.2.2 dX3_startAnew_56
theorem hi_X3_layOut_X3 : ∀ w ∈ u_ws RX3 TX3 19, w ∈ wsX3_layOut := fun w h => (List.mem_cons_of_mem _ (List.mem_append_left _ (List.mem_append_right _ h)))
set_option maxHeartbeats 4000000 in
set_option maxRecDepth 100000 in
theorem mt_X3_layOut (l : Launch) (D : va_G) (cI : ClassId) (ad : Nat → Nat) (F : Nat → Int32) (G : Nat → Nat → Int32) (x2 : Int32) (x3 : Int32) (x4 : Int32) (Fz : Nat → Int32) (Gz : Nat → Nat → Int32) (hDD : va_D (fun _ => True) (kwW cI ad (fun _ => 0) (fun _ _ => 0))) (h : f_X3_layOut F G x2 x3 x4 = some (Fz, Gz)) : Met l yX3_layOut wsX3_layOut ({ frames := 3, cells := 0, slots := 0, locals := 65 } : Room) (va_Pc [.ref (ad 22), .ref (ad 38), .int x2, .int x3, .int x4] (kwR D cI ad F G)) (va_Qv (fun (_ : Unit) => True) (fun _ t => va_P D vwCl (kwW cI ad Fz Gz) t.heap) (kwA cI ad)) 0 0 (kwA cI ad) := by
  refine Met.ofW (cc := cX3_layOut) (maxL := 6) (ret := none) (by decide) rfl ?_
  intro p e s m args below meth c s₁ B hml hv
  obtain ⟨rfl, hP, hK, hN⟩ := hv
  have hx := B.exec
  have hb := B.bytes
  have hr := B.returns
  have hts := atoms_spec (ws := wsX3_layOut) B.pre
  have hown : s.vm.findClass RX3 = some m.cls := findClass_of_methodNamed B.named
  have hlocks := B.notSynchronized
  have hS : va_S (kwA cI ad) s.heap s.heap [] := va_S.rf
  have hl := lv_entry ([.ref (ad 22), .ref (ad 38), .int x2, .int x3, .int x4]) (n := 6) (Nat.le_of_ble_eq_true rfl)
  rw [lg_entry_eq]
  generalize (lg_sl ([.ref (ad 22), .ref (ad 38), .int x2, .int x3, .int x4]) ++ List.replicate (6 - (lg_sl ([.ref (ad 22), .ref (ad 38), .int x2, .int x3, .int x4])).length) Slot.unset).toArray = ls at hl ⊢
  have hl : lv_has ls 6 [(0, .ref (ad 22)), (1, .ref (ad 38)), (2, .int (x2)), (3, .int (x3)), (4, .int (x4))] := hl
  refine lv_aload_n hx hb dX3_layOut_0 rfl (lv_at hl 0 rfl) ?_
  refine va_get hx hb hts hi_X3_layOut_X3 hown hK hP 0 (kw_o22 cI ad F G) rfl 11 (by decide) (hts _ (List.mem_of_getElem? (i := 1) rfl)) (fun _ h9 => h9) rfl dX3_layOut_1 ?_
  refine q_nm h (fun v1 h => ?_)
  refine lv_istore (lv' := [(5, .int (v1)), (0, .ref (ad 22)), (1, .ref (ad 38)), (2, .int (x2)), (3, .int (x3)), (4, .int (x4))]) hx hb dX3_layOut_4 hl (by decide) rfl (fun ls hl => ?_)
  refine lv_aload_n hx hb dX3_layOut_6 rfl (lv_at hl 1 rfl) ?_
  refine va_get hx hb hts hi_X3_layOut_X3 hown hK hP 0 (kw_o22 cI ad F G) rfl 0 (by decide) (hts _ (List.mem_of_getElem? (i := 2) rfl)) (fun _ h9 => h9) rfl dX3_layOut_7 ?_
  refine lv_iload hx hb dX3_layOut_10 (lv_at hl 0 rfl) ?_
  refine lv_iload_n hx hb dX3_layOut_12 rfl (lv_at hl 3 rfl) ?_
  refine lv_bipush (v := 12) hx hb dX3_layOut_13 (by decide) ?_
  refine lv_imul hx hb dX3_layOut_15 ?_
  refine lv_iload_n hx hb dX3_layOut_16 rfl (lv_at hl 4 rfl) ?_
  refine lv_iadd hx hb dX3_layOut_17 ?_
  refine q_st hx hb hK hP (kwW_D hDD _ _) hS 1 0 0 (fun z => kwW cI ad F z) (kw_a0 cI ad F G) rfl (kw_g0 cI ad F G _) dX3_layOut_18 h (fun G2 H locs h hP hS => ?_)
  refine lv_aload_n hx hb dX3_layOut_19 rfl (lv_at hl 1 rfl) ?_
  refine va_get hx hb hts hi_X3_layOut_X3 hown hK hP 0 (kw_o22 cI ad F G2) rfl 1 (by decide) (hts _ (List.mem_of_getElem? (i := 3) rfl)) (fun _ h9 => h9) rfl dX3_layOut_20 ?_
  refine lv_iload hx hb dX3_layOut_23 (lv_at hl 0 rfl) ?_
  refine lv_aload_n hx hb dX3_layOut_25 rfl (lv_at hl 2 rfl) ?_
  refine lv_iload_n hx hb dX3_layOut_26 rfl (lv_at hl 3 rfl) ?_
  refine lv_iload_n hx hb dX3_layOut_27 rfl (lv_at hl 4 rfl) ?_
  obtain ⟨v3, hc4, h⟩ := q_some h
  refine q_cs (W.runV (C := RX0) (As := [.int (x2), .int (x3)]) (rest := [.int (v1), .ref (ad 1)]) ⟨hx, hb, hml, hown, hts⟩ (mt_X0_colourAt l D cI ad F G2 x2 x3 v3 hc4) (cwV 2 hts gX3_layOut_X0_colourAt rfl rfl rfl (by decide +kernel) ⟨Nat.le_of_ble_eq_true rfl, Nat.le_of_ble_eq_true rfl⟩) ⟨chR_b, va_recv hK hP (ci := 0) (q0 := 12) rfl rfl, (chR_p (kw_ch hP) hK hN).2⟩ rfl rfl hl.1 rfl (lv_room (Nat.le_of_ble_eq_true rfl)) dX3_layOut_28 ⟨Nat.le_of_ble_eq_true rfl, Nat.le_of_ble_eq_true rfl⟩) ?_
  refine q_st hx hb hK hP (kwW_D hDD _ _) hS 2 0 1 (fun z => kwW cI ad F z) (kw_a1 cI ad F G2) rfl (kw_g1 cI ad F G2 _) dX3_layOut_31 h (fun G5 H locs h hP hS => ?_)
  refine lv_aload_n hx hb dX3_layOut_32 rfl (lv_at hl 1 rfl) ?_
  refine va_get hx hb hts hi_X3_layOut_X3 hown hK hP 0 (kw_o22 cI ad F G5) rfl 3 (by decide) (hts _ (List.mem_of_getElem? (i := 4) rfl)) (fun _ h9 => h9) rfl dX3_layOut_33 ?_
  refine lv_iload hx hb dX3_layOut_36 (lv_at hl 0 rfl) ?_
  refine lv_iconst (v := 0) hx hb dX3_layOut_38 (by decide) ?_
  refine q_st hx hb hK hP (kwW_D hDD _ _) hS 4 0 3 (fun z => kwW cI ad F z) (kw_a3 cI ad F G5) rfl (kw_g3 cI ad F G5 _) dX3_layOut_39 h (fun G6 H locs h hP hS => ?_)
  refine lv_aload_n hx hb dX3_layOut_40 rfl (lv_at hl 1 rfl) ?_
  refine va_get hx hb hts hi_X3_layOut_X3 hown hK hP 0 (kw_o22 cI ad F G6) rfl 4 (by decide) (hts _ (List.mem_of_getElem? (i := 5) rfl)) (fun _ h9 => h9) rfl dX3_layOut_41 ?_
  refine lv_iload hx hb dX3_layOut_44 (lv_at hl 0 rfl) ?_
  refine lv_aload_n hx hb dX3_layOut_46 rfl (lv_at hl 1 rfl) ?_
  refine lv_iload hx hb dX3_layOut_47 (lv_at hl 5 rfl) ?_
  refine lv_aload_n hx hb dX3_layOut_49 rfl (lv_at hl 2 rfl) ?_
  refine lv_iload_n hx hb dX3_layOut_50 rfl (lv_at hl 3 rfl) ?_
  refine lv_iload_n hx hb dX3_layOut_51 rfl (lv_at hl 4 rfl) ?_
  obtain ⟨v7, hc8, h⟩ := q_some h
  refine q_cs (W.runV (C := RX0) (As := [.int (x2), .int (x3)]) (rest := [.int (x4), .ref (ad 22), .int (v1), .ref (ad 4)]) ⟨hx, hb, hml, hown, hts⟩ (mt_X0_lowerCatch l D cI ad F G6 x2 x3 v7 hc8) (cwV 2 hts gX3_layOut_X0_lowerCatch rfl rfl rfl (by decide +kernel) ⟨Nat.le_of_ble_eq_true rfl, Nat.le_of_ble_eq_true rfl⟩) ⟨chR_b, va_recv hK hP (ci := 0) (q0 := 12) rfl rfl, (chR_p (kw_ch hP) hK hN).2⟩ rfl rfl hl.1 rfl (lv_room (Nat.le_of_ble_eq_true rfl)) dX3_layOut_52 ⟨Nat.le_of_ble_eq_true rfl, Nat.le_of_ble_eq_true rfl⟩) ?_
  obtain ⟨v9, hc10, h⟩ := q_some h
  refine q_cs (W.runV (C := RX3) (As := [.int (x4), .int (v7)]) (rest := [.int (v1), .ref (ad 4)]) ⟨hx, hb, hml, hown, hts⟩ (mt_X3_pickAt l D cI ad F G6 x4 v7 v9 hc10) (cwV 2 hts gX3_layOut_X3_pickAt rfl rfl rfl (by decide +kernel) ⟨Nat.le_of_ble_eq_true rfl, Nat.le_of_ble_eq_true rfl⟩) ⟨wyR_b, va_recv hK hP (ci := 3) (q0 := 0) rfl rfl, (wyR_p (kw_wy hP) hK hN).2⟩ rfl rfl hl.1 rfl (lv_room (Nat.le_of_ble_eq_true rfl)) dX3_layOut_55 ⟨Nat.le_of_ble_eq_true rfl, Nat.le_of_ble_eq_true rfl⟩) ?_
  refine q_st hx hb hK hP (kwW_D hDD _ _) hS 5 0 4 (fun z => kwW cI ad F z) (kw_a4 cI ad F G6) rfl (kw_g4 cI ad F G6 _) dX3_layOut_58 h (fun G11 H locs h hP hS => ?_)
  refine lv_aload_n hx hb dX3_layOut_59 rfl (lv_at hl 1 rfl) ?_
  refine va_get hx hb hts hi_X3_layOut_X3 hown hK hP 0 (kw_o22 cI ad F G11) rfl 5 (by decide) (hts _ (List.mem_of_getElem? (i := 6) rfl)) (fun _ h9 => h9) rfl dX3_layOut_60 ?_
  refine lv_iload hx hb dX3_layOut_63 (lv_at hl 0 rfl) ?_
  refine lv_aload_n hx hb dX3_layOut_65 rfl (lv_at hl 1 rfl) ?_
  refine lv_iload hx hb dX3_layOut_66 (lv_at hl 5 rfl) ?_
  refine lv_aload_n hx hb dX3_layOut_68 rfl (lv_at hl 2 rfl) ?_
  refine lv_iload_n hx hb dX3_layOut_69 rfl (lv_at hl 3 rfl) ?_
  refine lv_iload_n hx hb dX3_layOut_70 rfl (lv_at hl 4 rfl) ?_
  obtain ⟨v12, hc13, h⟩ := q_some h
  refine q_cs (W.runV (C := RX0) (As := [.int (x2), .int (x3)]) (rest := [.int (x4), .ref (ad 22), .int (v1), .ref (ad 5)]) ⟨hx, hb, hml, hown, hts⟩ (mt_X0_upperCatch l D cI ad F G11 x2 x3 v12 hc13) (cwV 2 hts gX3_layOut_X0_upperCatch rfl rfl rfl (by decide +kernel) ⟨Nat.le_of_ble_eq_true rfl, Nat.le_of_ble_eq_true rfl⟩) ⟨chR_b, va_recv hK hP (ci := 0) (q0 := 12) rfl rfl, (chR_p (kw_ch hP) hK hN).2⟩ rfl rfl hl.1 rfl (lv_room (Nat.le_of_ble_eq_true rfl)) dX3_layOut_71 ⟨Nat.le_of_ble_eq_true rfl, Nat.le_of_ble_eq_true rfl⟩) ?_
  obtain ⟨v14, hc15, h⟩ := q_some h
  refine q_cs (W.runV (C := RX3) (As := [.int (x4), .int (v12)]) (rest := [.int (v1), .ref (ad 5)]) ⟨hx, hb, hml, hown, hts⟩ (mt_X3_pickAt l D cI ad F G11 x4 v12 v14 hc15) (cwV 2 hts gX3_layOut_X3_pickAt rfl rfl rfl (by decide +kernel) ⟨Nat.le_of_ble_eq_true rfl, Nat.le_of_ble_eq_true rfl⟩) ⟨wyR_b, va_recv hK hP (ci := 3) (q0 := 0) rfl rfl, (wyR_p (kw_wy hP) hK hN).2⟩ rfl rfl hl.1 rfl (lv_room (Nat.le_of_ble_eq_true rfl)) dX3_layOut_74 ⟨Nat.le_of_ble_eq_true rfl, Nat.le_of_ble_eq_true rfl⟩) ?_
  refine q_st hx hb hK hP (kwW_D hDD _ _) hS 6 0 5 (fun z => kwW cI ad F z) (kw_a5 cI ad F G11) rfl (kw_g5 cI ad F G11 _) dX3_layOut_77 h (fun G16 H locs h hP hS => ?_)
  have e2 := congrArg Prod.fst (Option.some.inj h)
  have e3 := congrArg Prod.snd (Option.some.inj h)
  dsimp only at e2 e3
  exact W.vret hx hb hr (fun t ht hW => ⟨⟨(), rfl, trivial, by show va_P D vwCl _ t.heap; rw [ht, ← e2, ← e3]; exact hP⟩, hS.F ht⟩) hS.2.2 dX3_layOut_78
theorem hi_X3_faultAhead_X0 : ∀ w ∈ u_ws RX0 TX0 8, w ∈ wsX3_faultAhead := fun w h => (List.mem_cons_of_mem _ (List.mem_append_left _ (List.mem_append_right _ h)))
theorem hi_X3_faultAhead_X3 : ∀ w ∈ u_ws RX3 TX3 19, w ∈ wsX3_faultAhead := fun w h => (List.mem_cons_of_mem _ (List.mem_append_left _ (List.mem_append_left _ (List.mem_append_right _ h))))
set_option maxHeartbeats 4000000 in
set_option maxRecDepth 100000 in
theorem mt_X3_faultAhead (l : Launch) (D : va_G) (cI : ClassId) (ad : Nat → Nat) (F : Nat → Int32) (G : Nat → Nat → Int32) (x2 : Int32) (x3 : Int32) (rv : Int32) (Fz : Nat → Int32) (Gz : Nat → Nat → Int32) (hDD : va_D (fun _ => True) (kwW cI ad (fun _ => 0) (fun _ _ => 0))) (h : f_X3_faultAhead F G x2 x3 = some (rv, Fz, Gz)) : Met l yX3_faultAhead wsX3_faultAhead ({ frames := 2, cells := 0, slots := 0, locals := 49 } : Room) (va_Pc [.ref (ad 22), .ref (ad 38), .int x2, .int x3] (kwR D cI ad F G)) (va_Qi (fun z (_ : Unit) => z = rv) (fun _ t => va_P D vwCl (kwW cI ad Fz Gz) t.heap) (kwA cI ad)) 0 0 (kwA cI ad) := by
  refine Met.ofW (cc := cX3_faultAhead) (maxL := 4) (ret := (some .int)) (by decide) rfl ?_
  intro p e s m args below meth c s₁ B hml hv
  obtain ⟨rfl, hP, hK, hN⟩ := hv
  have hx := B.exec
  have hb := B.bytes
  have hr := B.returns
  have hts := atoms_spec (ws := wsX3_faultAhead) B.pre
  have hown : s.vm.findClass RX3 = some m.cls := findClass_of_methodNamed B.named
  have hlocks := B.notSynchronized
  have hS : va_S (kwA cI ad) s.heap s.heap [] := va_S.rf
  have hl := lv_entry ([.ref (ad 22), .ref (ad 38), .int x2, .int x3]) (n := 4) (Nat.le_of_ble_eq_true rfl)
  rw [lg_entry_eq]
  generalize (lg_sl ([.ref (ad 22), .ref (ad 38), .int x2, .int x3]) ++ List.replicate (4 - (lg_sl ([.ref (ad 22), .ref (ad 38), .int x2, .int x3])).length) Slot.unset).toArray = ls at hl ⊢
  have hl : lv_has ls 4 [(0, .ref (ad 22)), (1, .ref (ad 38)), (2, .int (x2)), (3, .int (x3))] := hl
  have j52 : ∀ (F : Nat → Int32) (G : Nat → Nat → Int32) (H : Heap) (locs : List Loc) , va_P D vwCl (kwW cI ad F G) H → va_S (kwA cI ad) s.heap H locs → ∀ ls : Array Slot, lv_has ls 4 [(0, .ref (ad 22)), (1, .ref (ad 38))] → f_X3_faultAhead_B52 x2 x3 F G = some (rv, Fz, Gz) → W p l e (headSpec wsX3_faultAhead ({ frames := 2, cells := 0, slots := 0, locals := 49 } : Room)).room s m (List.toArray ([.ref (ad 22), .ref (ad 38), .int x2, .int x3] : List Value)) below meth c H locs 0 0 (MQ below (va_Qi (fun z (_ : Unit) => z = rv) (fun _ t => va_P D vwCl (kwW cI ad Fz Gz) t.heap) (kwA cI ad)) (List.toArray ([.ref (ad 22), .ref (ad 38), .int x2, .int x3] : List Value)) s 0 0 (kwA cI ad)) (F0 m 52 ls []) := by
    intro F G H locs hP hS ls hl h
    refine lv_aload_n hx hb dX3_faultAhead_52 rfl (lv_at hl 0 rfl) ?_
    refine va_get hx hb hts hi_X3_faultAhead_X3 hown hK hP 0 (kw_o22 cI ad F G) rfl 9 (by decide) (hts _ (List.mem_of_getElem? (i := 5) rfl)) (fun _ h9 => h9) rfl dX3_faultAhead_53 ?_
    refine lv_aload_n hx hb dX3_faultAhead_56 rfl (lv_at hl 1 rfl) ?_
    refine lv_aload_n hx hb dX3_faultAhead_57 rfl (lv_at hl 0 rfl) ?_
    refine va_get hx hb hts hi_X3_faultAhead_X3 hown hK hP 0 (kw_o22 cI ad F G) rfl 1 (by decide) (hts _ (List.mem_of_getElem? (i := 6) rfl)) (fun _ h9 => h9) rfl dX3_faultAhead_58 ?_
    refine lv_aload_n hx hb dX3_faultAhead_61 rfl (lv_at hl 0 rfl) ?_
    refine va_get hx hb hts hi_X3_faultAhead_X3 hown hK hP 0 (kw_o22 cI ad F G) rfl 3 (by decide) (hts _ (List.mem_of_getElem? (i := 7) rfl)) (fun _ h9 => h9) rfl dX3_faultAhead_62 ?_
    obtain ⟨v1, hc2, h⟩ := q_some h
    refine q_cs (W.runV (C := RX2) (As := [.ref (ad 38), .ref (ad 1), .ref (ad 3)]) (rest := []) ⟨hx, hb, hml, hown, hts⟩ (mt_X2_fits l D cI ad F G  v1 hc2) (cwV 3 hts gX3_faultAhead_X2_fits rfl rfl rfl (by decide +kernel) ⟨Nat.le_of_ble_eq_true rfl, Nat.le_of_ble_eq_true rfl⟩) ⟨kwR_b, va_recv hK hP (ci := 2) (q0 := 10) rfl rfl, (kwR_p hP hK hN).2⟩ rfl rfl hl.1 rfl (lv_room (Nat.le_of_ble_eq_true rfl)) dX3_faultAhead_65 ⟨Nat.le_of_ble_eq_true rfl, Nat.le_of_ble_eq_true rfl⟩) ?_
    refine q_if_eq (tgt := 75) hx hb dX3_faultAhead_68 (by decide) h (fun h => ?_) (fun h => ?_)
    · refine lv_iconst (v := 2) hx hb dX3_faultAhead_75 (by decide) ?_
      have e1 := congrArg Prod.fst (Option.some.inj h)
      have e2 := congrArg (fun z => z.2.1) (Option.some.inj h)
      have e3 := congrArg (fun z => z.2.2) (Option.some.inj h)
      dsimp only at e1 e2 e3
      exact W.iret hx hb hr (fun t ht hW => ⟨⟨_, (), rfl, e1, by show va_P D vwCl _ t.heap; rw [ht, ← e2, ← e3]; exact hP⟩, hS.F ht⟩) hS.2.2 dX3_faultAhead_76
    · refine lv_iconst (v := 0) hx hb dX3_faultAhead_71 (by decide) ?_
      refine lv_goto (tgt := 76) hx hb dX3_faultAhead_72 (by decide) ?_
      have e1 := congrArg Prod.fst (Option.some.inj h)
      have e2 := congrArg (fun z => z.2.1) (Option.some.inj h)
      have e3 := congrArg (fun z => z.2.2) (Option.some.inj h)
      dsimp only at e1 e2 e3
      exact W.iret hx hb hr (fun t ht hW => ⟨⟨_, (), rfl, e1, by show va_P D vwCl _ t.heap; rw [ht, ← e2, ← e3]; exact hP⟩, hS.F ht⟩) hS.2.2 dX3_faultAhead_76
  have j17 : ∀ (F : Nat → Int32) (G : Nat → Nat → Int32) (H : Heap) (locs : List Loc) , va_P D vwCl (kwW cI ad F G) H → va_S (kwA cI ad) s.heap H locs → ∀ ls : Array Slot, lv_has ls 4 [(0, .ref (ad 22)), (1, .ref (ad 38)), (2, .int (x2))] → f_X3_faultAhead_B17 x2 x3 F G = some (rv, Fz, Gz) → W p l e (headSpec wsX3_faultAhead ({ frames := 2, cells := 0, slots := 0, locals := 49 } : Room)).room s m (List.toArray ([.ref (ad 22), .ref (ad 38), .int x2, .int x3] : List Value)) below meth c H locs 0 0 (MQ below (va_Qi (fun z (_ : Unit) => z = rv) (fun _ t => va_P D vwCl (kwW cI ad Fz Gz) t.heap) (kwA cI ad)) (List.toArray ([.ref (ad 22), .ref (ad 38), .int x2, .int x3] : List Value)) s 0 0 (kwA cI ad)) (F0 m 17 ls []) := by
    intro F G H locs hP hS ls hl h
    refine lv_iload_n hx hb dX3_faultAhead_17 rfl (lv_at hl 2 rfl) ?_
    refine lv_aload_n hx hb dX3_faultAhead_18 rfl (lv_at hl 1 rfl) ?_
    refine va_get hx hb hts hi_X3_faultAhead_X0 hown hK hP 12 (kw_o38 cI ad F G) rfl 6 (by decide) (hts _ (List.mem_of_getElem? (i := 2) rfl)) (fun _ h9 => h9) rfl dX3_faultAhead_19 ?_
    refine q_icmp_le (tgt := 27) hx hb dX3_faultAhead_22 (by decide) h (fun h => ?_) (fun h => ?_)
    · refine lv_aload_n hx hb dX3_faultAhead_27 rfl (lv_at hl 0 rfl) ?_
      refine va_get hx hb hts hi_X3_faultAhead_X3 hown hK hP 0 (kw_o22 cI ad F G) rfl 14 (by decide) (hts _ (List.mem_of_getElem? (i := 3) rfl)) (fun _ h9 => h9) rfl dX3_faultAhead_28 ?_
      refine q_if_le (tgt := 52) hx hb dX3_faultAhead_31 (by decide) h (fun h => ?_) (fun h => ?_)
      · exact j52 F G _ _ hP hS _ (lv_sub hl [0, 1] rfl) h
      · refine lv_aload_n hx hb dX3_faultAhead_34 rfl (lv_at hl 0 rfl) ?_
        refine va_get hx hb hts hi_X3_faultAhead_X3 hown hK hP 0 (kw_o22 cI ad F G) rfl 16 (by decide) (hts _ (List.mem_of_getElem? (i := 4) rfl)) (fun _ h9 => h9) rfl dX3_faultAhead_35 ?_
        refine lv_iload_n hx hb dX3_faultAhead_38 rfl (lv_at hl 2 rfl) ?_
        refine q_icmp_ge (tgt := 52) hx hb dX3_faultAhead_39 (by decide) h (fun h => ?_) (fun h => ?_)
        · exact j52 F G _ _ hP hS _ (lv_sub hl [0, 1] rfl) h
        · refine lv_aload_n hx hb dX3_faultAhead_42 rfl (lv_at hl 0 rfl) ?_
          refine lv_aload_n hx hb dX3_faultAhead_43 rfl (lv_at hl 1 rfl) ?_
          obtain ⟨⟨v3, F4, G5⟩, hc6, h⟩ := q_some h
          refine q_ci (va_runV (C := RX3) (As := [.ref (ad 38)]) (rest := []) ⟨hx, hb, hml, hown, hts⟩ (mt_X3_join l D cI ad F G  v3 F4 G5 hDD hc6) (cwV 1 hts gX3_faultAhead_X3_join rfl rfl rfl (by decide +kernel) ⟨Nat.le_of_ble_eq_true rfl, Nat.le_of_ble_eq_true rfl⟩) ⟨kwR_b, va_recv hK hP (ci := 3) (q0 := 0) rfl rfl, (kwR_p hP hK hN).2⟩ rfl rfl hl.1 rfl (lv_room (Nat.le_of_ble_eq_true rfl)) dX3_faultAhead_44 ⟨Nat.le_of_ble_eq_true rfl, Nat.le_of_ble_eq_true rfl⟩) hS (fun H locs hP hS => ?_)
          refine q_if_ne (tgt := 52) hx hb dX3_faultAhead_47 (by decide) h (fun h => ?_) (fun h => ?_)
          · exact j52 F4 G5 _ _ hP hS _ (lv_sub hl [0, 1] rfl) h
          · refine lv_iconst (v := 4) hx hb dX3_faultAhead_50 (by decide) ?_
            have e1 := congrArg Prod.fst (Option.some.inj h)
            have e2 := congrArg (fun z => z.2.1) (Option.some.inj h)
            have e3 := congrArg (fun z => z.2.2) (Option.some.inj h)
            dsimp only at e1 e2 e3
            exact W.iret hx hb hr (fun t ht hW => ⟨⟨_, (), rfl, e1, by show va_P D vwCl _ t.heap; rw [ht, ← e2, ← e3]; exact hP⟩, hS.F ht⟩) hS.2.2 dX3_faultAhead_51
    · refine lv_iconst (v := 3) hx hb dX3_faultAhead_25 (by decide) ?_
      have e1 := congrArg Prod.fst (Option.some.inj h)
      have e2 := congrArg (fun z => z.2.1) (Option.some.inj h)
      have e3 := congrArg (fun z => z.2.2) (Option.some.inj h)
      dsimp only at e1 e2 e3
      exact W.iret hx hb hr (fun t ht hW => ⟨⟨_, (), rfl, e1, by show va_P D vwCl _ t.heap; rw [ht, ← e2, ← e3]; exact hP⟩, hS.F ht⟩) hS.2.2 dX3_faultAhead_26
  refine lv_iload_n hx hb dX3_faultAhead_0 rfl (lv_at hl 3 rfl) ?_
  refine q_if_ne (tgt := 17) hx hb dX3_faultAhead_1 (by decide) h (fun h => ?_) (fun h => ?_)
  · exact j17 F G _ _ hP hS _ (lv_sub hl [0, 1, 2] rfl) h
  · refine lv_aload_n hx hb dX3_faultAhead_4 rfl (lv_at hl 0 rfl) ?_
    refine lv_aload_n hx hb dX3_faultAhead_5 rfl (lv_at hl 0 rfl) ?_
    refine va_get hx hb hts hi_X3_faultAhead_X3 hown hK hP 0 (kw_o22 cI ad F G) rfl 11 (by decide) (hts _ (List.mem_of_getElem? (i := 1) rfl)) (fun _ h9 => h9) rfl dX3_faultAhead_6 ?_
    obtain ⟨v7, hc8, h⟩ := q_some h
    refine q_cs (W.runV (C := RX3) (As := [.int ((F 11))]) (rest := []) ⟨hx, hb, hml, hown, hts⟩ (mt_X3_caughtCount l D cI ad F G ((F 11)) v7 hc8) (cwV 1 hts gX3_faultAhead_X3_caughtCount rfl rfl rfl (by decide +kernel) ⟨Nat.le_of_ble_eq_true rfl, Nat.le_of_ble_eq_true rfl⟩) ⟨wyR_b, va_recv hK hP (ci := 3) (q0 := 0) rfl rfl, (wyR_p (kw_wy hP) hK hN).2⟩ rfl rfl hl.1 rfl (lv_room (Nat.le_of_ble_eq_true rfl)) dX3_faultAhead_9 ⟨Nat.le_of_ble_eq_true rfl, Nat.le_of_ble_eq_true rfl⟩) ?_
    refine q_if_ne (tgt := 17) hx hb dX3_faultAhead_12 (by decide) h (fun h => ?_) (fun h => ?_)
    · exact j17 F G _ _ hP hS _ (lv_sub hl [0, 1, 2] rfl) h
    · refine lv_iconst (v := 1) hx hb dX3_faultAhead_15 (by decide) ?_
      have e1 := congrArg Prod.fst (Option.some.inj h)
      have e2 := congrArg (fun z => z.2.1) (Option.some.inj h)
      have e3 := congrArg (fun z => z.2.2) (Option.some.inj h)
      dsimp only at e1 e2 e3
      exact W.iret hx hb hr (fun t ht hW => ⟨⟨_, (), rfl, e1, by show va_P D vwCl _ t.heap; rw [ht, ← e2, ← e3]; exact hP⟩, hS.F ht⟩) hS.2.2 dX3_faultAhead_16
theorem hi_X3_pickUp_X0 : ∀ w ∈ u_ws RX0 TX0 8, w ∈ wsX3_pickUp := fun w h => (List.mem_cons_of_mem _ (List.mem_append_left _ (List.mem_append_right _ h)))
theorem hi_X3_pickUp_X2 : ∀ w ∈ u_ws RX2 TX2 2, w ∈ wsX3_pickUp := fun w h => (List.mem_cons_of_mem _ (List.mem_append_right _ h))
theorem hi_X3_pickUp_X3 : ∀ w ∈ u_ws RX3 TX3 19, w ∈ wsX3_pickUp := fun w h => (List.mem_cons_of_mem _ (List.mem_append_left _ (List.mem_append_left _ (List.mem_append_right _ h))))
set_option maxHeartbeats 4000000 in
set_option maxRecDepth 100000 in
theorem mt_X3_pickUp (l : Launch) (D : va_G) (cI : ClassId) (ad : Nat → Nat) (F : Nat → Int32) (G : Nat → Nat → Int32) (x2 : Int32) (Fz : Nat → Int32) (Gz : Nat → Nat → Int32) (hDD : va_D (fun _ => True) (kwW cI ad (fun _ => 0) (fun _ _ => 0))) (h : f_X3_pickUp F G x2 = some (Fz, Gz)) : Met l yX3_pickUp wsX3_pickUp ({ frames := 1, cells := 0, slots := 0, locals := 22 } : Room) (va_Pc [.ref (ad 22), .ref (ad 38), .int x2] (kwR D cI ad F G)) (va_Qv (fun (_ : Unit) => True) (fun _ t => va_P D vwCl (kwW cI ad Fz Gz) t.heap) (kwA cI ad)) 0 0 (kwA cI ad) := by
  refine Met.ofW (cc := cX3_pickUp) (maxL := 3) (ret := none) (by decide) rfl ?_
  intro p e s m args below meth c s₁ B hml hv
  obtain ⟨rfl, hP, hK, hN⟩ := hv
  have hx := B.exec
  have hb := B.bytes
  have hr := B.returns
  have hts := atoms_spec (ws := wsX3_pickUp) B.pre
  have hown : s.vm.findClass RX3 = some m.cls := findClass_of_methodNamed B.named
  have hlocks := B.notSynchronized
  have hS : va_S (kwA cI ad) s.heap s.heap [] := va_S.rf
  have hl := lv_entry ([.ref (ad 22), .ref (ad 38), .int x2]) (n := 3) (Nat.le_of_ble_eq_true rfl)
  rw [lg_entry_eq]
  generalize (lg_sl ([.ref (ad 22), .ref (ad 38), .int x2]) ++ List.replicate (3 - (lg_sl ([.ref (ad 22), .ref (ad 38), .int x2])).length) Slot.unset).toArray = ls at hl ⊢
  have hl : lv_has ls 3 [(0, .ref (ad 22)), (1, .ref (ad 38)), (2, .int (x2))] := hl
  have j20 : ∀ (F : Nat → Int32) (G : Nat → Nat → Int32) (H : Heap) (locs : List Loc) , va_P D vwCl (kwW cI ad F G) H → va_S (kwA cI ad) s.heap H locs → ∀ ls : Array Slot, lv_has ls 3 [(0, .ref (ad 22)), (2, .int (x2))] → f_X3_pickUp_B20 x2 F G = some (Fz, Gz) → W p l e (headSpec wsX3_pickUp ({ frames := 1, cells := 0, slots := 0, locals := 22 } : Room)).room s m (List.toArray ([.ref (ad 22), .ref (ad 38), .int x2] : List Value)) below meth c H locs 0 0 (MQ below (va_Qv (fun (_ : Unit) => True) (fun _ t => va_P D vwCl (kwW cI ad Fz Gz) t.heap) (kwA cI ad)) (List.toArray ([.ref (ad 22), .ref (ad 38), .int x2] : List Value)) s 0 0 (kwA cI ad)) (F0 m 20 ls []) := by
    intro F G H locs hP hS ls hl h
    refine lv_aload_n hx hb dX3_pickUp_20 rfl (lv_at hl 0 rfl) ?_
    refine va_get hx hb hts hi_X3_pickUp_X3 hown hK hP 0 (kw_o22 cI ad F G) rfl 2 (by decide) (hts _ (List.mem_of_getElem? (i := 4) rfl)) (fun _ h9 => h9) rfl dX3_pickUp_21 ?_
    refine lv_aload_n hx hb dX3_pickUp_24 rfl (lv_at hl 0 rfl) ?_
    refine va_get hx hb hts hi_X3_pickUp_X3 hown hK hP 0 (kw_o22 cI ad F G) rfl 11 (by decide) (hts _ (List.mem_of_getElem? (i := 5) rfl)) (fun _ h9 => h9) rfl dX3_pickUp_25 ?_
    refine lv_aload_n hx hb dX3_pickUp_28 rfl (lv_at hl 0 rfl) ?_
    refine va_get hx hb hts hi_X3_pickUp_X3 hown hK hP 0 (kw_o22 cI ad F G) rfl 14 (by decide) (hts _ (List.mem_of_getElem? (i := 1) rfl)) (fun _ h9 => h9) rfl dX3_pickUp_29 ?_
    refine lv_iconst (v := 1) hx hb dX3_pickUp_32 (by decide) ?_
    refine lv_isub hx hb dX3_pickUp_33 ?_
    refine q_st hx hb hK hP (kwW_D hDD _ _) hS 3 0 2 (fun z => kwW cI ad F z) (kw_a2 cI ad F G) rfl (kw_g2 cI ad F G _) dX3_pickUp_34 h (fun G1 H locs h hP hS => ?_)
    refine lv_aload_n hx hb dX3_pickUp_35 rfl (lv_at hl 0 rfl) ?_
    refine va_get hx hb hts hi_X3_pickUp_X3 hown hK hP 0 (kw_o22 cI ad F G1) rfl 6 (by decide) (hts _ (List.mem_of_getElem? (i := 6) rfl)) (fun _ h9 => h9) rfl dX3_pickUp_36 ?_
    refine lv_aload_n hx hb dX3_pickUp_39 rfl (lv_at hl 0 rfl) ?_
    refine va_get hx hb hts hi_X3_pickUp_X3 hown hK hP 0 (kw_o22 cI ad F G1) rfl 0 (by decide) (hts _ (List.mem_of_getElem? (i := 7) rfl)) (fun _ h9 => h9) rfl dX3_pickUp_40 ?_
    refine lv_aload_n hx hb dX3_pickUp_43 rfl (lv_at hl 0 rfl) ?_
    refine va_get hx hb hts hi_X3_pickUp_X3 hown hK hP 0 (kw_o22 cI ad F G1) rfl 11 (by decide) (hts _ (List.mem_of_getElem? (i := 5) rfl)) (fun _ h9 => h9) rfl dX3_pickUp_44 ?_
    refine q_ld hx hb hK hP 1 0 (kw_a0 cI ad F G1) rfl dX3_pickUp_47 h (fun v2 h => ?_)
    refine lv_aload_n hx hb dX3_pickUp_48 rfl (lv_at hl 0 rfl) ?_
    refine va_get hx hb hts hi_X3_pickUp_X3 hown hK hP 0 (kw_o22 cI ad F G1) rfl 11 (by decide) (hts _ (List.mem_of_getElem? (i := 5) rfl)) (fun _ h9 => h9) rfl dX3_pickUp_49 ?_
    refine q_st hx hb hK hP (kwW_D hDD _ _) hS 7 0 6 (fun z => kwW cI ad F z) (kw_a6 cI ad F G1) rfl (kw_g6 cI ad F G1 _) dX3_pickUp_52 h (fun G3 H locs h hP hS => ?_)
    refine lv_aload_n hx hb dX3_pickUp_53 rfl (lv_at hl 0 rfl) ?_
    refine va_get hx hb hts hi_X3_pickUp_X3 hown hK hP 0 (kw_o22 cI ad F G3) rfl 9 (by decide) (hts _ (List.mem_of_getElem? (i := 8) rfl)) (fun _ h9 => h9) rfl dX3_pickUp_54 ?_
    refine lv_aload_n hx hb dX3_pickUp_57 rfl (lv_at hl 0 rfl) ?_
    refine va_get hx hb hts hi_X3_pickUp_X3 hown hK hP 0 (kw_o22 cI ad F G3) rfl 3 (by decide) (hts _ (List.mem_of_getElem? (i := 9) rfl)) (fun _ h9 => h9) rfl dX3_pickUp_58 ?_
    obtain ⟨⟨F5, G6⟩, hc7, h⟩ := q_some h
    refine q_cv (va_runV (C := RX2) (As := [.ref (ad 3)]) (rest := []) ⟨hx, hb, hml, hown, hts⟩ (mt_X2_countInto l D cI ad F G3  F5 G6 hDD hc7) (cwV 1 hts gX3_pickUp_X2_countInto rfl rfl rfl (by decide +kernel) ⟨Nat.le_of_ble_eq_true rfl, Nat.le_of_ble_eq_true rfl⟩) ⟨kwR_b, va_recv hK hP (ci := 2) (q0 := 10) rfl rfl, (kwR_p hP hK hN).2⟩ rfl rfl hl.1 rfl (lv_room (Nat.le_of_ble_eq_true rfl)) dX3_pickUp_61 ⟨Nat.le_of_ble_eq_true rfl, Nat.le_of_ble_eq_true rfl⟩) hS (fun H locs hP hS => ?_)
    refine lv_aload_n hx hb dX3_pickUp_64 rfl (lv_at hl 0 rfl) ?_
    refine lv_dup hx hb dX3_pickUp_65 rfl ?_
    refine va_get hx hb hts hi_X3_pickUp_X3 hown hK hP 0 (kw_o22 cI ad F5 G6) rfl 17 (by decide) (hts _ (List.mem_of_getElem? (i := 10) rfl)) (fun _ h9 => h9) rfl dX3_pickUp_66 ?_
    refine lv_aload_n hx hb dX3_pickUp_69 rfl (lv_at hl 0 rfl) ?_
    refine va_get hx hb hts hi_X3_pickUp_X3 hown hK hP 0 (kw_o22 cI ad F5 G6) rfl 9 (by decide) (hts _ (List.mem_of_getElem? (i := 8) rfl)) (fun _ h9 => h9) rfl dX3_pickUp_70 ?_
    refine va_get hx hb hts hi_X3_pickUp_X2 hown hK hP 10 (kw_o9 cI ad F5 G6) rfl 1 (by decide) (hts _ (List.mem_of_getElem? (i := 11) rfl)) (fun _ h9 => h9) rfl dX3_pickUp_73 ?_
    refine lv_iadd hx hb dX3_pickUp_76 ?_
    refine q_put (ty := .int) hx hb hts hi_X3_pickUp_X3 tyX3 tyX3_ok nmX3 hown hK hP (kwW_D hDD _ _) hS 0 17 (fun z => kwW cI ad z G6) (kw_o22 cI ad F5 G6) rfl 17 (by decide) (hts _ (List.mem_of_getElem? (i := 10) rfl)) (fun _ h9 => h9) rfl (by decide +kernel) rfl rfl (Nat.le_of_ble_eq_true rfl) (kw_f17 cI ad F5 G6 _) dX3_pickUp_77 h (fun F8 H locs h hP hS => ?_)
    refine lv_aload_n hx hb dX3_pickUp_80 rfl (lv_at hl 0 rfl) ?_
    refine lv_dup hx hb dX3_pickUp_81 rfl ?_
    refine va_get hx hb hts hi_X3_pickUp_X3 hown hK hP 0 (kw_o22 cI ad F8 G6) rfl 16 (by decide) (hts _ (List.mem_of_getElem? (i := 3) rfl)) (fun _ h9 => h9) rfl dX3_pickUp_82 ?_
    refine lv_iload_n hx hb dX3_pickUp_85 rfl (lv_at hl 1 rfl) ?_
    refine lv_isub hx hb dX3_pickUp_86 ?_
    refine q_put (ty := .int) hx hb hts hi_X3_pickUp_X3 tyX3 tyX3_ok nmX3 hown hK hP (kwW_D hDD _ _) hS 0 16 (fun z => kwW cI ad z G6) (kw_o22 cI ad F8 G6) rfl 16 (by decide) (hts _ (List.mem_of_getElem? (i := 3) rfl)) (fun _ h9 => h9) rfl (by decide +kernel) rfl rfl (Nat.le_of_ble_eq_true rfl) (kw_f16 cI ad F8 G6 _) dX3_pickUp_87 h (fun F9 H locs h hP hS => ?_)
    refine lv_aload_n hx hb dX3_pickUp_90 rfl (lv_at hl 0 rfl) ?_
    refine lv_dup hx hb dX3_pickUp_91 rfl ?_
    refine va_get hx hb hts hi_X3_pickUp_X3 hown hK hP 0 (kw_o22 cI ad F9 G6) rfl 15 (by decide) (hts _ (List.mem_of_getElem? (i := 12) rfl)) (fun _ h9 => h9) rfl dX3_pickUp_92 ?_
    refine lv_iload_n hx hb dX3_pickUp_95 rfl (lv_at hl 1 rfl) ?_
    refine lv_iadd hx hb dX3_pickUp_96 ?_
    refine q_put (ty := .int) hx hb hts hi_X3_pickUp_X3 tyX3 tyX3_ok nmX3 hown hK hP (kwW_D hDD _ _) hS 0 15 (fun z => kwW cI ad z G6) (kw_o22 cI ad F9 G6) rfl 15 (by decide) (hts _ (List.mem_of_getElem? (i := 12) rfl)) (fun _ h9 => h9) rfl (by decide +kernel) rfl rfl (Nat.le_of_ble_eq_true rfl) (kw_f15 cI ad F9 G6 _) dX3_pickUp_97 h (fun F10 H locs h hP hS => ?_)
    refine lv_aload_n hx hb dX3_pickUp_100 rfl (lv_at hl 0 rfl) ?_
    refine lv_dup hx hb dX3_pickUp_101 rfl ?_
    refine va_get hx hb hts hi_X3_pickUp_X3 hown hK hP 0 (kw_o22 cI ad F10 G6) rfl 11 (by decide) (hts _ (List.mem_of_getElem? (i := 5) rfl)) (fun _ h9 => h9) rfl dX3_pickUp_102 ?_
    refine lv_iconst (v := 1) hx hb dX3_pickUp_105 (by decide) ?_
    refine lv_iadd hx hb dX3_pickUp_106 ?_
    refine q_put (ty := .int) hx hb hts hi_X3_pickUp_X3 tyX3 tyX3_ok nmX3 hown hK hP (kwW_D hDD _ _) hS 0 11 (fun z => kwW cI ad z G6) (kw_o22 cI ad F10 G6) rfl 11 (by decide) (hts _ (List.mem_of_getElem? (i := 5) rfl)) (fun _ h9 => h9) rfl (by decide +kernel) rfl rfl (Nat.le_of_ble_eq_true rfl) (kw_f11 cI ad F10 G6 _) dX3_pickUp_107 h (fun F11 H locs h hP hS => ?_)
    have e2 := congrArg Prod.fst (Option.some.inj h)
    have e3 := congrArg Prod.snd (Option.some.inj h)
    dsimp only at e2 e3
    exact W.vret hx hb hr (fun t ht hW => ⟨⟨(), rfl, trivial, by show va_P D vwCl _ t.heap; rw [ht, ← e2, ← e3]; exact hP⟩, hS.F ht⟩) hS.2.2 dX3_pickUp_110
  refine lv_aload_n hx hb dX3_pickUp_0 rfl (lv_at hl 0 rfl) ?_
  refine va_get hx hb hts hi_X3_pickUp_X3 hown hK hP 0 (kw_o22 cI ad F G) rfl 14 (by decide) (hts _ (List.mem_of_getElem? (i := 1) rfl)) (fun _ h9 => h9) rfl dX3_pickUp_1 ?_
  refine q_if_ne (tgt := 20) hx hb dX3_pickUp_4 (by decide) h (fun h => ?_) (fun h => ?_)
  · exact j20 F G _ _ hP hS _ (lv_sub hl [0, 2] rfl) h
  · refine lv_aload_n hx hb dX3_pickUp_7 rfl (lv_at hl 0 rfl) ?_
    refine lv_iconst (v := 1) hx hb dX3_pickUp_8 (by decide) ?_
    refine q_put (ty := .int) hx hb hts hi_X3_pickUp_X3 tyX3 tyX3_ok nmX3 hown hK hP (kwW_D hDD _ _) hS 0 14 (fun z => kwW cI ad z G) (kw_o22 cI ad F G) rfl 14 (by decide) (hts _ (List.mem_of_getElem? (i := 1) rfl)) (fun _ h9 => h9) rfl (by decide +kernel) rfl rfl (Nat.le_of_ble_eq_true rfl) (kw_f14 cI ad F G _) dX3_pickUp_9 h (fun F12 H locs h hP hS => ?_)
    refine lv_aload_n hx hb dX3_pickUp_12 rfl (lv_at hl 0 rfl) ?_
    refine lv_aload_n hx hb dX3_pickUp_13 rfl (lv_at hl 1 rfl) ?_
    refine va_get hx hb hts hi_X3_pickUp_X0 hown hK hP 12 (kw_o38 cI ad F12 G) rfl 6 (by decide) (hts _ (List.mem_of_getElem? (i := 2) rfl)) (fun _ h9 => h9) rfl dX3_pickUp_14 ?_
    refine q_put (ty := .int) hx hb hts hi_X3_pickUp_X3 tyX3 tyX3_ok nmX3 hown hK hP (kwW_D hDD _ _) hS 0 16 (fun z => kwW cI ad z G) (kw_o22 cI ad F12 G) rfl 16 (by decide) (hts _ (List.mem_of_getElem? (i := 3) rfl)) (fun _ h9 => h9) rfl (by decide +kernel) rfl rfl (Nat.le_of_ble_eq_true rfl) (kw_f16 cI ad F12 G _) dX3_pickUp_17 h (fun F13 H locs h hP hS => ?_)
    exact j20 F13 G _ _ hP hS _ (lv_sub hl [0, 2] rfl) h
theorem hi_X3_doStep_X3 : ∀ w ∈ u_ws RX3 TX3 19, w ∈ wsX3_doStep := fun w h => (List.mem_cons_of_mem _ (List.mem_append_left _ (List.mem_append_left _ (List.mem_append_right _ h))))
set_option maxHeartbeats 4000000 in
set_option maxRecDepth 100000 in
theorem mt_X3_doStep (l : Launch) (D : va_G) (cI : ClassId) (ad : Nat → Nat) (F : Nat → Int32) (G : Nat → Nat → Int32) (x2 : Int32) (Fz : Nat → Int32) (Gz : Nat → Nat → Int32) (hDD : va_D (fun _ => True) (kwW cI ad (fun _ => 0) (fun _ _ => 0))) (h : f_X3_doStep F G x2 = some (Fz, Gz)) : Met l yX3_doStep wsX3_doStep ({ frames := 3, cells := 0, slots := 0, locals := 72 } : Room) (va_Pc [.ref (ad 22), .ref (ad 38), .int x2] (kwR D cI ad F G)) (va_Qv (fun (_ : Unit) => True) (fun _ t => va_P D vwCl (kwW cI ad Fz Gz) t.heap) (kwA cI ad)) 0 0 (kwA cI ad) := by
  refine Met.ofW (cc := cX3_doStep) (maxL := 4) (ret := none) (by decide) rfl ?_
  intro p e s m args below meth c s₁ B hml hv
  obtain ⟨rfl, hP, hK, hN⟩ := hv
  have hx := B.exec
  have hb := B.bytes
  have hr := B.returns
  have hts := atoms_spec (ws := wsX3_doStep) B.pre
  have hown : s.vm.findClass RX3 = some m.cls := findClass_of_methodNamed B.named
  have hlocks := B.notSynchronized
  have hS : va_S (kwA cI ad) s.heap s.heap [] := va_S.rf
  have hl := lv_entry ([.ref (ad 22), .ref (ad 38), .int x2]) (n := 4) (Nat.le_of_ble_eq_true rfl)
  rw [lg_entry_eq]
  generalize (lg_sl ([.ref (ad 22), .ref (ad 38), .int x2]) ++ List.replicate (4 - (lg_sl ([.ref (ad 22), .ref (ad 38), .int x2])).length) Slot.unset).toArray = ls at hl ⊢
  have hl : lv_has ls 4 [(0, .ref (ad 22)), (1, .ref (ad 38)), (2, .int (x2))] := hl
  refine lv_aload_n hx hb dX3_doStep_0 rfl (lv_at hl 0 rfl) ?_
  refine va_get hx hb hts hi_X3_doStep_X3 hown hK hP 0 (kw_o22 cI ad F G) rfl 9 (by decide) (hts _ (List.mem_of_getElem? (i := 1) rfl)) (fun _ h9 => h9) rfl dX3_doStep_1 ?_
  refine lv_aload_n hx hb dX3_doStep_4 rfl (lv_at hl 1 rfl) ?_
  refine lv_aload_n hx hb dX3_doStep_5 rfl (lv_at hl 0 rfl) ?_
  refine va_get hx hb hts hi_X3_doStep_X3 hown hK hP 0 (kw_o22 cI ad F G) rfl 1 (by decide) (hts _ (List.mem_of_getElem? (i := 2) rfl)) (fun _ h9 => h9) rfl dX3_doStep_6 ?_
  obtain ⟨v1, hc2, h⟩ := q_some h
  refine q_cs (W.runV (C := RX2) (As := [.ref (ad 38), .ref (ad 1)]) (rest := []) ⟨hx, hb, hml, hown, hts⟩ (mt_X2_threadNeeded l D cI ad F G  v1 hc2) (cwV 2 hts gX3_doStep_X2_threadNeeded rfl rfl rfl (by decide +kernel) ⟨Nat.le_of_ble_eq_true rfl, Nat.le_of_ble_eq_true rfl⟩) ⟨kwR_b, va_recv hK hP (ci := 2) (q0 := 10) rfl rfl, (kwR_p hP hK hN).2⟩ rfl rfl hl.1 rfl (lv_room (Nat.le_of_ble_eq_true rfl)) dX3_doStep_9 ⟨Nat.le_of_ble_eq_true rfl, Nat.le_of_ble_eq_true rfl⟩) ?_
  refine lv_istore_n (lv' := [(3, .int (v1)), (0, .ref (ad 22)), (1, .ref (ad 38)), (2, .int (x2))]) hx hb dX3_doStep_12 rfl hl (by decide) rfl (fun ls hl => ?_)
  refine lv_aload_n hx hb dX3_doStep_13 rfl (lv_at hl 1 rfl) ?_
  refine lv_aload_n hx hb dX3_doStep_14 rfl (lv_at hl 1 rfl) ?_
  refine lv_aload_n hx hb dX3_doStep_15 rfl (lv_at hl 2 rfl) ?_
  refine lv_iload_n hx hb dX3_doStep_16 rfl (lv_at hl 0 rfl) ?_
  refine lv_iload_n hx hb dX3_doStep_17 rfl (lv_at hl 3 rfl) ?_
  obtain ⟨⟨v3, F4, G5⟩, hc6, h⟩ := q_some h
  refine q_ci (va_runV (C := RX3) (As := [.ref (ad 38), .int (v1), .int (x2)]) (rest := [.ref (ad 22)]) ⟨hx, hb, hml, hown, hts⟩ (mt_X3_faultAhead l D cI ad F G v1 x2 v3 F4 G5 hDD hc6) (cwV 3 hts gX3_doStep_X3_faultAhead rfl rfl rfl (by decide +kernel) ⟨Nat.le_of_ble_eq_true rfl, Nat.le_of_ble_eq_true rfl⟩) ⟨kwR_b, va_recv hK hP (ci := 3) (q0 := 0) rfl rfl, (kwR_p hP hK hN).2⟩ rfl rfl hl.1 rfl (lv_room (Nat.le_of_ble_eq_true rfl)) dX3_doStep_18 ⟨Nat.le_of_ble_eq_true rfl, Nat.le_of_ble_eq_true rfl⟩) hS (fun H locs hP hS => ?_)
  refine q_put (ty := .int) hx hb hts hi_X3_doStep_X3 tyX3 tyX3_ok nmX3 hown hK hP (kwW_D hDD _ _) hS 0 12 (fun z => kwW cI ad z G5) (kw_o22 cI ad F4 G5) rfl 12 (by decide) (hts _ (List.mem_of_getElem? (i := 3) rfl)) (fun _ h9 => h9) rfl (by decide +kernel) rfl rfl (Nat.le_of_ble_eq_true rfl) (kw_f12 cI ad F4 G5 _) dX3_doStep_21 h (fun F7 H locs h hP hS => ?_)
  refine lv_aload_n hx hb dX3_doStep_24 rfl (lv_at hl 1 rfl) ?_
  refine va_get hx hb hts hi_X3_doStep_X3 hown hK hP 0 (kw_o22 cI ad F7 G5) rfl 12 (by decide) (hts _ (List.mem_of_getElem? (i := 3) rfl)) (fun _ h9 => h9) rfl dX3_doStep_25 ?_
  refine q_if_ne (tgt := 40) hx hb dX3_doStep_28 (by decide) h (fun h => ?_) (fun h => ?_)
  · refine lv_aload_n hx hb dX3_doStep_40 rfl (lv_at hl 1 rfl) ?_
    refine lv_aload_n hx hb dX3_doStep_41 rfl (lv_at hl 1 rfl) ?_
    refine va_get hx hb hts hi_X3_doStep_X3 hown hK hP 0 (kw_o22 cI ad F7 G5) rfl 0 (by decide) (hts _ (List.mem_of_getElem? (i := 4) rfl)) (fun _ h9 => h9) rfl dX3_doStep_42 ?_
    refine lv_aload_n hx hb dX3_doStep_45 rfl (lv_at hl 1 rfl) ?_
    refine va_get hx hb hts hi_X3_doStep_X3 hown hK hP 0 (kw_o22 cI ad F7 G5) rfl 11 (by decide) (hts _ (List.mem_of_getElem? (i := 5) rfl)) (fun _ h9 => h9) rfl dX3_doStep_46 ?_
    refine q_ld hx hb hK hP 1 0 (kw_a0 cI ad F7 G5) rfl dX3_doStep_49 h (fun v8 h => ?_)
    refine q_put (ty := .int) hx hb hts hi_X3_doStep_X3 tyX3 tyX3_ok nmX3 hown hK hP (kwW_D hDD _ _) hS 0 13 (fun z => kwW cI ad z G5) (kw_o22 cI ad F7 G5) rfl 13 (by decide) (hts _ (List.mem_of_getElem? (i := 6) rfl)) (fun _ h9 => h9) rfl (by decide +kernel) rfl rfl (Nat.le_of_ble_eq_true rfl) (kw_f13 cI ad F7 G5 _) dX3_doStep_50 h (fun F9 H locs h hP hS => ?_)
    have e2 := congrArg Prod.fst (Option.some.inj h)
    have e3 := congrArg Prod.snd (Option.some.inj h)
    dsimp only at e2 e3
    exact W.vret hx hb hr (fun t ht hW => ⟨⟨(), rfl, trivial, by show va_P D vwCl _ t.heap; rw [ht, ← e2, ← e3]; exact hP⟩, hS.F ht⟩) hS.2.2 dX3_doStep_53
  · refine lv_aload_n hx hb dX3_doStep_31 rfl (lv_at hl 1 rfl) ?_
    refine lv_aload_n hx hb dX3_doStep_32 rfl (lv_at hl 2 rfl) ?_
    refine lv_iload_n hx hb dX3_doStep_33 rfl (lv_at hl 0 rfl) ?_
    obtain ⟨⟨F11, G12⟩, hc13, h⟩ := q_some h
    refine q_cv (va_runV (C := RX3) (As := [.ref (ad 38), .int (v1)]) (rest := []) ⟨hx, hb, hml, hown, hts⟩ (mt_X3_pickUp l D cI ad F7 G5 v1 F11 G12 hDD hc13) (cwV 2 hts gX3_doStep_X3_pickUp rfl rfl rfl (by decide +kernel) ⟨Nat.le_of_ble_eq_true rfl, Nat.le_of_ble_eq_true rfl⟩) ⟨kwR_b, va_recv hK hP (ci := 3) (q0 := 0) rfl rfl, (kwR_p hP hK hN).2⟩ rfl rfl hl.1 rfl (lv_room (Nat.le_of_ble_eq_true rfl)) dX3_doStep_34 ⟨Nat.le_of_ble_eq_true rfl, Nat.le_of_ble_eq_true rfl⟩) hS (fun H locs hP hS => ?_)
    refine lv_goto (tgt := 53) hx hb dX3_doStep_37 (by decide) ?_
    have e2 := congrArg Prod.fst (Option.some.inj h)
    have e3 := congrArg Prod.snd (Option.some.inj h)
    dsimp only at e2 e3
    exact W.vret hx hb hr (fun t ht hW => ⟨⟨(), rfl, trivial, by show va_P D vwCl _ t.heap; rw [ht, ← e2, ← e3]; exact hP⟩, hS.F ht⟩) hS.2.2 dX3_doStep_53
theorem hi_X3_gatherInFirstRow_X3 : ∀ w ∈ u_ws RX3 TX3 19, w ∈ wsX3_gatherInFirstRow := fun w h => (List.mem_cons_of_mem _ (List.mem_append_left _ (List.mem_append_right _ h)))
set_option maxHeartbeats 4000000 in
set_option maxRecDepth 100000 in
theorem mt_X3_gatherInFirstRow (l : Launch) (D : va_G) (cI : ClassId) (ad : Nat → Nat) (F : Nat → Int32) (G : Nat → Nat → Int32) (x1 : Int32) (x2 : Int32) (Fz : Nat → Int32) (Gz : Nat → Nat → Int32) (hDD : va_D (fun _ => True) (kwW cI ad (fun _ => 0) (fun _ _ => 0))) (h : f_X3_gatherInFirstRow F G x1 x2 = some (Fz, Gz)) : Met l yX3_gatherInFirstRow wsX3_gatherInFirstRow ({ frames := 1, cells := 0, slots := 0, locals := 21 } : Room) (va_Pc [.ref (ad 22), .int x1, .int x2] (kwR D cI ad F G)) (va_Qv (fun (_ : Unit) => True) (fun _ t => va_P D vwCl (kwW cI ad Fz Gz) t.heap) (kwA cI ad)) 0 0 (kwA cI ad) := by
  refine Met.ofW (cc := cX3_gatherInFirstRow) (maxL := 4) (ret := none) (by decide) rfl ?_
  intro p e s m args below meth c s₁ B hml hv
  obtain ⟨rfl, hP, hK, hN⟩ := hv
  have hx := B.exec
  have hb := B.bytes
  have hr := B.returns
  have hts := atoms_spec (ws := wsX3_gatherInFirstRow) B.pre
  have hown : s.vm.findClass RX3 = some m.cls := findClass_of_methodNamed B.named
  have hlocks := B.notSynchronized
  have hS : va_S (kwA cI ad) s.heap s.heap [] := va_S.rf
  have hl := lv_entry ([.ref (ad 22), .int x1, .int x2]) (n := 4) (Nat.le_of_ble_eq_true rfl)
  rw [lg_entry_eq]
  generalize (lg_sl ([.ref (ad 22), .int x1, .int x2]) ++ List.replicate (4 - (lg_sl ([.ref (ad 22), .int x1, .int x2])).length) Slot.unset).toArray = ls at hl ⊢
  have hl : lv_has ls 4 [(0, .ref (ad 22)), (1, .int (x1)), (2, .int (x2))] := hl
  refine lv_aload_n hx hb dX3_gatherInFirstRow_0 rfl (lv_at hl 0 rfl) ?_
  refine va_get hx hb hts hi_X3_gatherInFirstRow_X3 hown hK hP 0 (kw_o22 cI ad F G) rfl 11 (by decide) (hts _ (List.mem_of_getElem? (i := 1) rfl)) (fun _ h9 => h9) rfl dX3_gatherInFirstRow_1 ?_
  refine q_nm h (fun v1 h => ?_)
  refine lv_istore_n (lv' := [(3, .int (v1)), (0, .ref (ad 22)), (1, .int (x1)), (2, .int (x2))]) hx hb dX3_gatherInFirstRow_4 rfl hl (by decide) rfl (fun ls hl => ?_)
  refine lv_aload_n hx hb dX3_gatherInFirstRow_5 rfl (lv_at hl 1 rfl) ?_
  refine va_get hx hb hts hi_X3_gatherInFirstRow_X3 hown hK hP 0 (kw_o22 cI ad F G) rfl 9 (by decide) (hts _ (List.mem_of_getElem? (i := 2) rfl)) (fun _ h9 => h9) rfl dX3_gatherInFirstRow_6 ?_
  obtain ⟨⟨F3, G4⟩, hc5, h⟩ := q_some h
  refine q_cv (va_runV (C := RX2) (As := []) (rest := []) ⟨hx, hb, hml, hown, hts⟩ (mt_X2_empty l D cI ad F G  F3 G4 hDD hc5) (cwV 0 hts gX3_gatherInFirstRow_X2_empty rfl rfl rfl (by decide +kernel) ⟨Nat.le_of_ble_eq_true rfl, Nat.le_of_ble_eq_true rfl⟩) ⟨kwR_b, va_recv hK hP (ci := 2) (q0 := 10) rfl rfl, (kwR_p hP hK hN).2⟩ rfl rfl hl.1 rfl (lv_room (Nat.le_of_ble_eq_true rfl)) dX3_gatherInFirstRow_9 ⟨Nat.le_of_ble_eq_true rfl, Nat.le_of_ble_eq_true rfl⟩) hS (fun H locs hP hS => ?_)
  refine lv_aload_n hx hb dX3_gatherInFirstRow_12 rfl (lv_at hl 1 rfl) ?_
  refine va_get hx hb hts hi_X3_gatherInFirstRow_X3 hown hK hP 0 (kw_o22 cI ad F3 G4) rfl 9 (by decide) (hts _ (List.mem_of_getElem? (i := 2) rfl)) (fun _ h9 => h9) rfl dX3_gatherInFirstRow_13 ?_
  refine lv_iload_n hx hb dX3_gatherInFirstRow_16 rfl (lv_at hl 0 rfl) ?_
  obtain ⟨⟨F7, G8⟩, hc9, h⟩ := q_some h
  refine q_cv (va_runV (C := RX2) (As := [.int (v1)]) (rest := []) ⟨hx, hb, hml, hown, hts⟩ (mt_X2_pass l D cI ad F3 G4 v1 F7 G8 hDD hc9) (cwV 1 hts gX3_gatherInFirstRow_X2_pass rfl rfl rfl (by decide +kernel) ⟨Nat.le_of_ble_eq_true rfl, Nat.le_of_ble_eq_true rfl⟩) ⟨kwR_b, va_recv hK hP (ci := 2) (q0 := 10) rfl rfl, (kwR_p hP hK hN).2⟩ rfl rfl hl.1 rfl (lv_room (Nat.le_of_ble_eq_true rfl)) dX3_gatherInFirstRow_17 ⟨Nat.le_of_ble_eq_true rfl, Nat.le_of_ble_eq_true rfl⟩) hS (fun H locs hP hS => ?_)
  refine lv_aload_n hx hb dX3_gatherInFirstRow_20 rfl (lv_at hl 1 rfl) ?_
  refine va_get hx hb hts hi_X3_gatherInFirstRow_X3 hown hK hP 0 (kw_o22 cI ad F7 G8) rfl 9 (by decide) (hts _ (List.mem_of_getElem? (i := 2) rfl)) (fun _ h9 => h9) rfl dX3_gatherInFirstRow_21 ?_
  refine lv_iload_n hx hb dX3_gatherInFirstRow_24 rfl (lv_at hl 0 rfl) ?_
  refine lv_iconst (v := 1) hx hb dX3_gatherInFirstRow_25 (by decide) ?_
  refine lv_isub hx hb dX3_gatherInFirstRow_26 ?_
  obtain ⟨⟨F11, G12⟩, hc13, h⟩ := q_some h
  refine q_cv (va_runV (C := RX2) (As := [.int ((v1 - (1 : Int32)))]) (rest := []) ⟨hx, hb, hml, hown, hts⟩ (mt_X2_pass l D cI ad F7 G8 ((v1 - (1 : Int32))) F11 G12 hDD hc13) (cwV 1 hts gX3_gatherInFirstRow_X2_pass rfl rfl rfl (by decide +kernel) ⟨Nat.le_of_ble_eq_true rfl, Nat.le_of_ble_eq_true rfl⟩) ⟨kwR_b, va_recv hK hP (ci := 2) (q0 := 10) rfl rfl, (kwR_p hP hK hN).2⟩ rfl rfl hl.1 rfl (lv_room (Nat.le_of_ble_eq_true rfl)) dX3_gatherInFirstRow_27 ⟨Nat.le_of_ble_eq_true rfl, Nat.le_of_ble_eq_true rfl⟩) hS (fun H locs hP hS => ?_)
  refine lv_iload_n hx hb dX3_gatherInFirstRow_30 rfl (lv_at hl 2 rfl) ?_
  refine q_if_eq (tgt := 52) hx hb dX3_gatherInFirstRow_31 (by decide) h (fun h => ?_) (fun h => ?_)
  · have e2 := congrArg Prod.fst (Option.some.inj h)
    have e3 := congrArg Prod.snd (Option.some.inj h)
    dsimp only at e2 e3
    exact W.vret hx hb hr (fun t ht hW => ⟨⟨(), rfl, trivial, by show va_P D vwCl _ t.heap; rw [ht, ← e2, ← e3]; exact hP⟩, hS.F ht⟩) hS.2.2 dX3_gatherInFirstRow_52
  · refine lv_iload_n hx hb dX3_gatherInFirstRow_34 rfl (lv_at hl 0 rfl) ?_
    refine lv_iload_n hx hb dX3_gatherInFirstRow_35 rfl (lv_at hl 3 rfl) ?_
    refine q_icmp_ne (tgt := 52) hx hb dX3_gatherInFirstRow_36 (by decide) h (fun h => ?_) (fun h => ?_)
    · have e2 := congrArg Prod.fst (Option.some.inj h)
      have e3 := congrArg Prod.snd (Option.some.inj h)
      dsimp only at e2 e3
      exact W.vret hx hb hr (fun t ht hW => ⟨⟨(), rfl, trivial, by show va_P D vwCl _ t.heap; rw [ht, ← e2, ← e3]; exact hP⟩, hS.F ht⟩) hS.2.2 dX3_gatherInFirstRow_52
    · refine lv_iload_n hx hb dX3_gatherInFirstRow_39 rfl (lv_at hl 3 rfl) ?_
      refine lv_iconst (v := 2) hx hb dX3_gatherInFirstRow_40 (by decide) ?_
      refine q_icmp_lt (tgt := 52) hx hb dX3_gatherInFirstRow_41 (by decide) h (fun h => ?_) (fun h => ?_)
      · have e2 := congrArg Prod.fst (Option.some.inj h)
        have e3 := congrArg Prod.snd (Option.some.inj h)
        dsimp only at e2 e3
        exact W.vret hx hb hr (fun t ht hW => ⟨⟨(), rfl, trivial, by show va_P D vwCl _ t.heap; rw [ht, ← e2, ← e3]; exact hP⟩, hS.F ht⟩) hS.2.2 dX3_gatherInFirstRow_52
      · refine lv_aload_n hx hb dX3_gatherInFirstRow_44 rfl (lv_at hl 1 rfl) ?_
        refine va_get hx hb hts hi_X3_gatherInFirstRow_X3 hown hK hP 0 (kw_o22 cI ad F11 G12) rfl 9 (by decide) (hts _ (List.mem_of_getElem? (i := 2) rfl)) (fun _ h9 => h9) rfl dX3_gatherInFirstRow_45 ?_
        refine lv_iconst (v := 0) hx hb dX3_gatherInFirstRow_48 (by decide) ?_
        obtain ⟨⟨F15, G16⟩, hc17, h⟩ := q_some h
        refine q_cv (va_runV (C := RX2) (As := [.int ((0 : Int32))]) (rest := []) ⟨hx, hb, hml, hown, hts⟩ (mt_X2_pass l D cI ad F11 G12 (0 : Int32) F15 G16 hDD hc17) (cwV 1 hts gX3_gatherInFirstRow_X2_pass rfl rfl rfl (by decide +kernel) ⟨Nat.le_of_ble_eq_true rfl, Nat.le_of_ble_eq_true rfl⟩) ⟨kwR_b, va_recv hK hP (ci := 2) (q0 := 10) rfl rfl, (kwR_p hP hK hN).2⟩ rfl rfl hl.1 rfl (lv_room (Nat.le_of_ble_eq_true rfl)) dX3_gatherInFirstRow_49 ⟨Nat.le_of_ble_eq_true rfl, Nat.le_of_ble_eq_true rfl⟩) hS (fun H locs hP hS => ?_)
        have e2 := congrArg Prod.fst (Option.some.inj h)
        have e3 := congrArg Prod.snd (Option.some.inj h)
        dsimp only at e2 e3
        exact W.vret hx hb hr (fun t ht hW => ⟨⟨(), rfl, trivial, by show va_P D vwCl _ t.heap; rw [ht, ← e2, ← e3]; exact hP⟩, hS.F ht⟩) hS.2.2 dX3_gatherInFirstRow_52
theorem hi_X3_gatherInLaterRow_X3 : ∀ w ∈ u_ws RX3 TX3 19, w ∈ wsX3_gatherInLaterRow := fun w h => (List.mem_cons_of_mem _ (List.mem_append_left _ (List.mem_append_right _ h)))
set_option maxHeartbeats 4000000 in
set_option maxRecDepth 100000 in
theorem mt_X3_gatherInLaterRow (l : Launch) (D : va_G) (cI : ClassId) (ad : Nat → Nat) (F : Nat → Int32) (G : Nat → Nat → Int32) (x1 : Int32) (Fz : Nat → Int32) (Gz : Nat → Nat → Int32) (hDD : va_D (fun _ => True) (kwW cI ad (fun _ => 0) (fun _ _ => 0))) (h : f_X3_gatherInLaterRow F G x1 = some (Fz, Gz)) : Met l yX3_gatherInLaterRow wsX3_gatherInLaterRow ({ frames := 1, cells := 0, slots := 0, locals := 21 } : Room) (va_Pc [.ref (ad 22), .int x1] (kwR D cI ad F G)) (va_Qv (fun (_ : Unit) => True) (fun _ t => va_P D vwCl (kwW cI ad Fz Gz) t.heap) (kwA cI ad)) 0 0 (kwA cI ad) := by
  refine Met.ofW (cc := cX3_gatherInLaterRow) (maxL := 3) (ret := none) (by decide) rfl ?_
  intro p e s m args below meth c s₁ B hml hv
  obtain ⟨rfl, hP, hK, hN⟩ := hv
  have hx := B.exec
  have hb := B.bytes
  have hr := B.returns
  have hts := atoms_spec (ws := wsX3_gatherInLaterRow) B.pre
  have hown : s.vm.findClass RX3 = some m.cls := findClass_of_methodNamed B.named
  have hlocks := B.notSynchronized
  have hS : va_S (kwA cI ad) s.heap s.heap [] := va_S.rf
  have hl := lv_entry ([.ref (ad 22), .int x1]) (n := 3) (Nat.le_of_ble_eq_true rfl)
  rw [lg_entry_eq]
  generalize (lg_sl ([.ref (ad 22), .int x1]) ++ List.replicate (3 - (lg_sl ([.ref (ad 22), .int x1])).length) Slot.unset).toArray = ls at hl ⊢
  have hl : lv_has ls 3 [(0, .ref (ad 22)), (1, .int (x1))] := hl
  refine lv_aload_n hx hb dX3_gatherInLaterRow_0 rfl (lv_at hl 0 rfl) ?_
  refine va_get hx hb hts hi_X3_gatherInLaterRow_X3 hown hK hP 0 (kw_o22 cI ad F G) rfl 11 (by decide) (hts _ (List.mem_of_getElem? (i := 1) rfl)) (fun _ h9 => h9) rfl dX3_gatherInLaterRow_1 ?_
  refine q_nm h (fun v1 h => ?_)
  refine lv_istore_n (lv' := [(2, .int (v1)), (0, .ref (ad 22)), (1, .int (x1))]) hx hb dX3_gatherInLaterRow_4 rfl hl (by decide) rfl (fun ls hl => ?_)
  refine lv_aload_n hx hb dX3_gatherInLaterRow_5 rfl (lv_at hl 1 rfl) ?_
  refine va_get hx hb hts hi_X3_gatherInLaterRow_X3 hown hK hP 0 (kw_o22 cI ad F G) rfl 9 (by decide) (hts _ (List.mem_of_getElem? (i := 2) rfl)) (fun _ h9 => h9) rfl dX3_gatherInLaterRow_6 ?_
  obtain ⟨⟨F3, G4⟩, hc5, h⟩ := q_some h
  refine q_cv (va_runV (C := RX2) (As := []) (rest := []) ⟨hx, hb, hml, hown, hts⟩ (mt_X2_empty l D cI ad F G  F3 G4 hDD hc5) (cwV 0 hts gX3_gatherInLaterRow_X2_empty rfl rfl rfl (by decide +kernel) ⟨Nat.le_of_ble_eq_true rfl, Nat.le_of_ble_eq_true rfl⟩) ⟨kwR_b, va_recv hK hP (ci := 2) (q0 := 10) rfl rfl, (kwR_p hP hK hN).2⟩ rfl rfl hl.1 rfl (lv_room (Nat.le_of_ble_eq_true rfl)) dX3_gatherInLaterRow_9 ⟨Nat.le_of_ble_eq_true rfl, Nat.le_of_ble_eq_true rfl⟩) hS (fun H locs hP hS => ?_)
  refine lv_aload_n hx hb dX3_gatherInLaterRow_12 rfl (lv_at hl 1 rfl) ?_
  refine va_get hx hb hts hi_X3_gatherInLaterRow_X3 hown hK hP 0 (kw_o22 cI ad F3 G4) rfl 9 (by decide) (hts _ (List.mem_of_getElem? (i := 2) rfl)) (fun _ h9 => h9) rfl dX3_gatherInLaterRow_13 ?_
  refine lv_iload_n hx hb dX3_gatherInLaterRow_16 rfl (lv_at hl 2 rfl) ?_
  obtain ⟨⟨F7, G8⟩, hc9, h⟩ := q_some h
  refine q_cv (va_runV (C := RX2) (As := [.int (x1)]) (rest := []) ⟨hx, hb, hml, hown, hts⟩ (mt_X2_pass l D cI ad F3 G4 x1 F7 G8 hDD hc9) (cwV 1 hts gX3_gatherInLaterRow_X2_pass rfl rfl rfl (by decide +kernel) ⟨Nat.le_of_ble_eq_true rfl, Nat.le_of_ble_eq_true rfl⟩) ⟨kwR_b, va_recv hK hP (ci := 2) (q0 := 10) rfl rfl, (kwR_p hP hK hN).2⟩ rfl rfl hl.1 rfl (lv_room (Nat.le_of_ble_eq_true rfl)) dX3_gatherInLaterRow_17 ⟨Nat.le_of_ble_eq_true rfl, Nat.le_of_ble_eq_true rfl⟩) hS (fun H locs hP hS => ?_)
  refine lv_aload_n hx hb dX3_gatherInLaterRow_20 rfl (lv_at hl 1 rfl) ?_
  refine va_get hx hb hts hi_X3_gatherInLaterRow_X3 hown hK hP 0 (kw_o22 cI ad F7 G8) rfl 9 (by decide) (hts _ (List.mem_of_getElem? (i := 2) rfl)) (fun _ h9 => h9) rfl dX3_gatherInLaterRow_21 ?_
  refine lv_iload_n hx hb dX3_gatherInLaterRow_24 rfl (lv_at hl 0 rfl) ?_
  obtain ⟨⟨F11, G12⟩, hc13, h⟩ := q_some h
  refine q_cv (va_runV (C := RX2) (As := [.int (v1)]) (rest := []) ⟨hx, hb, hml, hown, hts⟩ (mt_X2_pass l D cI ad F7 G8 v1 F11 G12 hDD hc13) (cwV 1 hts gX3_gatherInLaterRow_X2_pass rfl rfl rfl (by decide +kernel) ⟨Nat.le_of_ble_eq_true rfl, Nat.le_of_ble_eq_true rfl⟩) ⟨kwR_b, va_recv hK hP (ci := 2) (q0 := 10) rfl rfl, (kwR_p hP hK hN).2⟩ rfl rfl hl.1 rfl (lv_room (Nat.le_of_ble_eq_true rfl)) dX3_gatherInLaterRow_25 ⟨Nat.le_of_ble_eq_true rfl, Nat.le_of_ble_eq_true rfl⟩) hS (fun H locs hP hS => ?_)
  refine lv_aload_n hx hb dX3_gatherInLaterRow_28 rfl (lv_at hl 1 rfl) ?_
  refine va_get hx hb hts hi_X3_gatherInLaterRow_X3 hown hK hP 0 (kw_o22 cI ad F11 G12) rfl 9 (by decide) (hts _ (List.mem_of_getElem? (i := 2) rfl)) (fun _ h9 => h9) rfl dX3_gatherInLaterRow_29 ?_
  refine lv_aload_n hx hb dX3_gatherInLaterRow_32 rfl (lv_at hl 1 rfl) ?_
  refine va_get hx hb hts hi_X3_gatherInLaterRow_X3 hown hK hP 0 (kw_o22 cI ad F11 G12) rfl 4 (by decide) (hts _ (List.mem_of_getElem? (i := 3) rfl)) (fun _ h9 => h9) rfl dX3_gatherInLaterRow_33 ?_
  refine lv_iload_n hx hb dX3_gatherInLaterRow_36 rfl (lv_at hl 0 rfl) ?_
  refine q_ld hx hb hK hP 5 0 (kw_a4 cI ad F11 G12) rfl dX3_gatherInLaterRow_37 h (fun v14 h => ?_)
  obtain ⟨⟨F16, G17⟩, hc18, h⟩ := q_some h
  refine q_cv (va_runV (C := RX2) (As := [.int (v14)]) (rest := []) ⟨hx, hb, hml, hown, hts⟩ (mt_X2_pass l D cI ad F11 G12 v14 F16 G17 hDD hc18) (cwV 1 hts gX3_gatherInLaterRow_X2_pass rfl rfl rfl (by decide +kernel) ⟨Nat.le_of_ble_eq_true rfl, Nat.le_of_ble_eq_true rfl⟩) ⟨kwR_b, va_recv hK hP (ci := 2) (q0 := 10) rfl rfl, (kwR_p hP hK hN).2⟩ rfl rfl hl.1 rfl (lv_room (Nat.le_of_ble_eq_true rfl)) dX3_gatherInLaterRow_38 ⟨Nat.le_of_ble_eq_true rfl, Nat.le_of_ble_eq_true rfl⟩) hS (fun H locs hP hS => ?_)
  refine lv_aload_n hx hb dX3_gatherInLaterRow_41 rfl (lv_at hl 1 rfl) ?_
  refine va_get hx hb hts hi_X3_gatherInLaterRow_X3 hown hK hP 0 (kw_o22 cI ad F16 G17) rfl 9 (by decide) (hts _ (List.mem_of_getElem? (i := 2) rfl)) (fun _ h9 => h9) rfl dX3_gatherInLaterRow_42 ?_
  refine lv_aload_n hx hb dX3_gatherInLaterRow_45 rfl (lv_at hl 1 rfl) ?_
  refine va_get hx hb hts hi_X3_gatherInLaterRow_X3 hown hK hP 0 (kw_o22 cI ad F16 G17) rfl 5 (by decide) (hts _ (List.mem_of_getElem? (i := 4) rfl)) (fun _ h9 => h9) rfl dX3_gatherInLaterRow_46 ?_
  refine lv_iload_n hx hb dX3_gatherInLaterRow_49 rfl (lv_at hl 0 rfl) ?_
  refine q_ld hx hb hK hP 6 0 (kw_a5 cI ad F16 G17) rfl dX3_gatherInLaterRow_50 h (fun v19 h => ?_)
  obtain ⟨⟨F21, G22⟩, hc23, h⟩ := q_some h
  refine q_cv (va_runV (C := RX2) (As := [.int (v19)]) (rest := []) ⟨hx, hb, hml, hown, hts⟩ (mt_X2_pass l D cI ad F16 G17 v19 F21 G22 hDD hc23) (cwV 1 hts gX3_gatherInLaterRow_X2_pass rfl rfl rfl (by decide +kernel) ⟨Nat.le_of_ble_eq_true rfl, Nat.le_of_ble_eq_true rfl⟩) ⟨kwR_b, va_recv hK hP (ci := 2) (q0 := 10) rfl rfl, (kwR_p hP hK hN).2⟩ rfl rfl hl.1 rfl (lv_room (Nat.le_of_ble_eq_true rfl)) dX3_gatherInLaterRow_51 ⟨Nat.le_of_ble_eq_true rfl, Nat.le_of_ble_eq_true rfl⟩) hS (fun H locs hP hS => ?_)
  have e2 := congrArg Prod.fst (Option.some.inj h)
  have e3 := congrArg Prod.snd (Option.some.inj h)
  dsimp only at e2 e3
  exact W.vret hx hb hr (fun t ht hW => ⟨⟨(), rfl, trivial, by show va_P D vwCl _ t.heap; rw [ht, ← e2, ← e3]; exact hP⟩, hS.F ht⟩) hS.2.2 dX3_gatherInLaterRow_54
theorem hi_X3_followRow_X0 : ∀ w ∈ u_ws RX0 TX0 8, w ∈ wsX3_followRow := fun w h => (List.mem_cons_of_mem _ (List.mem_append_left _ (List.mem_append_right _ h)))
theorem hi_X3_followRow_X3 : ∀ w ∈ u_ws RX3 TX3 19, w ∈ wsX3_followRow := fun w h => (List.mem_cons_of_mem _ (List.mem_append_left _ (List.mem_append_left _ (List.mem_append_right _ h))))
set_option maxHeartbeats 4000000 in
set_option maxRecDepth 100000 in
theorem mt_X3_followRow (l : Launch) (D : va_G) (cI : ClassId) (ad : Nat → Nat) (F : Nat → Int32) (G : Nat → Nat → Int32) (x2 : Int32) (x3 : Int32) (x4 : Int32) (x5 : Int32) (Fz : Nat → Int32) (Gz : Nat → Nat → Int32) (hDD : va_D (fun _ => True) (kwW cI ad (fun _ => 0) (fun _ _ => 0))) (h : f_X3_followRow F G x2 x3 x4 x5 = some (Fz, Gz)) : Met l yX3_followRow wsX3_followRow ({ frames := 4, cells := 0, slots := 0, locals := 95 } : Room) (va_Pc [.ref (ad 22), .ref (ad 38), .int x2, .int x3, .int x4, .int x5] (kwR D cI ad F G)) (va_Qv (fun (_ : Unit) => True) (fun _ t => va_P D vwCl (kwW cI ad Fz Gz) t.heap) (kwA cI ad)) 0 0 (kwA cI ad) := by
  refine Met.ofW (cc := cX3_followRow) (maxL := 13) (ret := none) (by decide) rfl ?_
  intro p e s m args below meth c s₁ B hml hv
  obtain ⟨rfl, hP, hK, hN⟩ := hv
  have hx := B.exec
  have hb := B.bytes
  have hr := B.returns
  have hts := atoms_spec (ws := wsX3_followRow) B.pre
  have hown : s.vm.findClass RX3 = some m.cls := findClass_of_methodNamed B.named
  have hlocks := B.notSynchronized
  have hS : va_S (kwA cI ad) s.heap s.heap [] := va_S.rf
  have hl := lv_entry ([.ref (ad 22), .ref (ad 38), .int x2, .int x3, .int x4, .int x5]) (n := 13) (Nat.le_of_ble_eq_true rfl)
  rw [lg_entry_eq]
  generalize (lg_sl ([.ref (ad 22), .ref (ad 38), .int x2, .int x3, .int x4, .int x5]) ++ List.replicate (13 - (lg_sl ([.ref (ad 22), .ref (ad 38), .int x2, .int x3, .int x4, .int x5])).length) Slot.unset).toArray = ls at hl ⊢
  have hl : lv_has ls 13 [(0, .ref (ad 22)), (1, .ref (ad 38)), (2, .int (x2)), (3, .int (x3)), (4, .int (x4)), (5, .int (x5))] := hl
  have j34 : ∀ n34 : Nat, ∀ (F : Nat → Int32) (G : Nat → Nat → Int32) (x6 : Int32) (x7 : Int32) (x8 : Int32) (x9 : Int32) (H : Heap) (locs : List Loc) , va_P D vwCl (kwW cI ad F G) H → va_S (kwA cI ad) s.heap H locs → ∀ ls : Array Slot, lv_has ls 13 [(0, .ref (ad 22)), (1, .ref (ad 38)), (2, .int (x2)), (3, .int (x3)), (4, .int (x4)), (5, .int (x5)), (6, .int (x6)), (7, .int (x7)), (8, .int (x8)), (9, .int (x9))] → f_X3_followRow_L34 x2 x3 x4 x5 n34 F G x6 x7 x8 x9 = some (Fz, Gz) → W p l e (headSpec wsX3_followRow ({ frames := 4, cells := 0, slots := 0, locals := 95 } : Room)).room s m (List.toArray ([.ref (ad 22), .ref (ad 38), .int x2, .int x3, .int x4, .int x5] : List Value)) below meth c H locs 0 0 (MQ below (va_Qv (fun (_ : Unit) => True) (fun _ t => va_P D vwCl (kwW cI ad Fz Gz) t.heap) (kwA cI ad)) (List.toArray ([.ref (ad 22), .ref (ad 38), .int x2, .int x3, .int x4, .int x5] : List Value)) s 0 0 (kwA cI ad)) (F0 m 34 ls []) := by
    intro n34
    induction n34 with
    | zero =>
      intro F G x6 x7 x8 x9 H locs hP hS ls hl h
      cases h
    | succ n34 ih34 =>
      have j179 : ∀ (F : Nat → Int32) (G : Nat → Nat → Int32) (x6 : Int32) (x7 : Int32) (x8 : Int32) (x9 : Int32) (H : Heap) (locs : List Loc) , va_P D vwCl (kwW cI ad F G) H → va_S (kwA cI ad) s.heap H locs → ∀ ls : Array Slot, lv_has ls 13 [(0, .ref (ad 22)), (1, .ref (ad 38)), (2, .int (x2)), (3, .int (x3)), (4, .int (x4)), (5, .int (x5)), (6, .int (x6)), (7, .int (x7)), (8, .int (x8)), (9, .int (x9))] → f_X3_followRow_B179 (f_X3_followRow_L34 x2 x3 x4 x5 n34) x2 x3 x4 x5 F G x6 x7 x8 x9 = some (Fz, Gz) → W p l e (headSpec wsX3_followRow ({ frames := 4, cells := 0, slots := 0, locals := 95 } : Room)).room s m (List.toArray ([.ref (ad 22), .ref (ad 38), .int x2, .int x3, .int x4, .int x5] : List Value)) below meth c H locs 0 0 (MQ below (va_Qv (fun (_ : Unit) => True) (fun _ t => va_P D vwCl (kwW cI ad Fz Gz) t.heap) (kwA cI ad)) (List.toArray ([.ref (ad 22), .ref (ad 38), .int x2, .int x3, .int x4, .int x5] : List Value)) s 0 0 (kwA cI ad)) (F0 m 179 ls []) := by
        intro F G x6 x7 x8 x9 H locs hP hS ls hl h
        refine q_iinc (j := 9) (d := (1 : Int32)) (lv2 := fun v1 => [(9, .int (v1)), (0, .ref (ad 22)), (1, .ref (ad 38)), (2, .int (x2)), (3, .int (x3)), (4, .int (x4)), (5, .int (x5)), (6, .int (x6)), (7, .int (x7)), (8, .int (x8))]) hx hb dX3_followRow_179 hl rfl (by decide) (by decide) (fun _ => rfl) h (fun v1 ls hl h => ?_)
        refine lv_goto (tgt := 34) hx hb dX3_followRow_182 (by decide) ?_
        exact ih34 F G x6 x7 x8 v1 _ _ hP hS _ (lv_sub hl [1, 2, 3, 4, 5, 6, 7, 8, 9, 0] rfl) h
      have j172 : ∀ (F : Nat → Int32) (G : Nat → Nat → Int32) (x6 : Int32) (x7 : Int32) (x8 : Int32) (x9 : Int32) (H : Heap) (locs : List Loc) , va_P D vwCl (kwW cI ad F G) H → va_S (kwA cI ad) s.heap H locs → ∀ ls : Array Slot, lv_has ls 13 [(0, .ref (ad 22)), (1, .ref (ad 38)), (2, .int (x2)), (3, .int (x3)), (4, .int (x4)), (5, .int (x5)), (6, .int (x6)), (7, .int (x7)), (8, .int (x8)), (9, .int (x9))] → f_X3_followRow_B172 (f_X3_followRow_L34 x2 x3 x4 x5 n34) x2 x3 x4 x5 F G x6 x7 x8 x9 = some (Fz, Gz) → W p l e (headSpec wsX3_followRow ({ frames := 4, cells := 0, slots := 0, locals := 95 } : Room)).room s m (List.toArray ([.ref (ad 22), .ref (ad 38), .int x2, .int x3, .int x4, .int x5] : List Value)) below meth c H locs 0 0 (MQ below (va_Qv (fun (_ : Unit) => True) (fun _ t => va_P D vwCl (kwW cI ad Fz Gz) t.heap) (kwA cI ad)) (List.toArray ([.ref (ad 22), .ref (ad 38), .int x2, .int x3, .int x4, .int x5] : List Value)) s 0 0 (kwA cI ad)) (F0 m 172 ls []) := by
        intro F G x6 x7 x8 x9 H locs hP hS ls hl h
        refine lv_aload_n hx hb dX3_followRow_172 rfl (lv_at hl 0 rfl) ?_
        refine lv_aload_n hx hb dX3_followRow_173 rfl (lv_at hl 1 rfl) ?_
        refine lv_iload hx hb dX3_followRow_174 (lv_at hl 8 rfl) ?_
        obtain ⟨⟨F3, G4⟩, hc5, h⟩ := q_some h
        refine q_cv (va_runV (C := RX3) (As := [.ref (ad 38), .int (x8)]) (rest := []) ⟨hx, hb, hml, hown, hts⟩ (mt_X3_doStep l D cI ad F G x8 F3 G4 hDD hc5) (cwV 2 hts gX3_followRow_X3_doStep rfl rfl rfl (by decide +kernel) ⟨Nat.le_of_ble_eq_true rfl, Nat.le_of_ble_eq_true rfl⟩) ⟨kwR_b, va_recv hK hP (ci := 3) (q0 := 0) rfl rfl, (kwR_p hP hK hN).2⟩ rfl rfl hl.1 rfl (lv_room (Nat.le_of_ble_eq_true rfl)) dX3_followRow_176 ⟨Nat.le_of_ble_eq_true rfl, Nat.le_of_ble_eq_true rfl⟩) hS (fun H locs hP hS => ?_)
        exact j179 F3 G4 x6 x7 x8 x9 _ _ hP hS _ (lv_sub hl [0, 1, 2, 3, 4, 5, 6, 7, 8, 9] rfl) h
      have j169 : ∀ (F : Nat → Int32) (G : Nat → Nat → Int32) (x6 : Int32) (x7 : Int32) (x8 : Int32) (x9 : Int32) (s1 : Int32) (H : Heap) (locs : List Loc) , va_P D vwCl (kwW cI ad F G) H → va_S (kwA cI ad) s.heap H locs → ∀ ls : Array Slot, lv_has ls 13 [(0, .ref (ad 22)), (1, .ref (ad 38)), (2, .int (x2)), (3, .int (x3)), (4, .int (x4)), (5, .int (x5)), (6, .int (x6)), (7, .int (x7)), (8, .int (x8)), (9, .int (x9))] → f_X3_followRow_B169 (f_X3_followRow_L34 x2 x3 x4 x5 n34) x2 x3 x4 x5 F G x6 x7 x8 x9 s1 = some (Fz, Gz) → W p l e (headSpec wsX3_followRow ({ frames := 4, cells := 0, slots := 0, locals := 95 } : Room)).room s m (List.toArray ([.ref (ad 22), .ref (ad 38), .int x2, .int x3, .int x4, .int x5] : List Value)) below meth c H locs 0 0 (MQ below (va_Qv (fun (_ : Unit) => True) (fun _ t => va_P D vwCl (kwW cI ad Fz Gz) t.heap) (kwA cI ad)) (List.toArray ([.ref (ad 22), .ref (ad 38), .int x2, .int x3, .int x4, .int x5] : List Value)) s 0 0 (kwA cI ad)) (F0 m 169 ls [.int (s1), .ref (ad 22)]) := by
        intro F G x6 x7 x8 x9 s1 H locs hP hS ls hl h
        obtain ⟨⟨F7, G8⟩, hc9, h⟩ := q_some h
        refine q_cv (va_runV (C := RX3) (As := [.int (s1)]) (rest := []) ⟨hx, hb, hml, hown, hts⟩ (mt_X3_gatherInLaterRow l D cI ad F G s1 F7 G8 hDD hc9) (cwV 1 hts gX3_followRow_X3_gatherInLaterRow rfl rfl rfl (by decide +kernel) ⟨Nat.le_of_ble_eq_true rfl, Nat.le_of_ble_eq_true rfl⟩) ⟨kwR_b, va_recv hK hP (ci := 3) (q0 := 0) rfl rfl, (kwR_p hP hK hN).2⟩ rfl rfl hl.1 rfl (lv_room (Nat.le_of_ble_eq_true rfl)) dX3_followRow_169 ⟨Nat.le_of_ble_eq_true rfl, Nat.le_of_ble_eq_true rfl⟩) hS (fun H locs hP hS => ?_)
        exact j172 F7 G8 x6 x7 x8 x9 _ _ hP hS _ (lv_sub hl [0, 1, 2, 3, 4, 5, 6, 7, 8, 9] rfl) h
      have j155 : ∀ (F : Nat → Int32) (G : Nat → Nat → Int32) (x6 : Int32) (x7 : Int32) (x8 : Int32) (x9 : Int32) (x11 : Int32) (s0 : Int32) (H : Heap) (locs : List Loc) , va_P D vwCl (kwW cI ad F G) H → va_S (kwA cI ad) s.heap H locs → ∀ ls : Array Slot, lv_has ls 13 [(0, .ref (ad 22)), (1, .ref (ad 38)), (2, .int (x2)), (3, .int (x3)), (4, .int (x4)), (5, .int (x5)), (6, .int (x6)), (7, .int (x7)), (8, .int (x8)), (9, .int (x9)), (11, .int (x11))] → f_X3_followRow_B155 (f_X3_followRow_L34 x2 x3 x4 x5 n34) x2 x3 x4 x5 F G x6 x7 x8 x9 x11 s0 = some (Fz, Gz) → W p l e (headSpec wsX3_followRow ({ frames := 4, cells := 0, slots := 0, locals := 95 } : Room)).room s m (List.toArray ([.ref (ad 22), .ref (ad 38), .int x2, .int x3, .int x4, .int x5] : List Value)) below meth c H locs 0 0 (MQ below (va_Qv (fun (_ : Unit) => True) (fun _ t => va_P D vwCl (kwW cI ad Fz Gz) t.heap) (kwA cI ad)) (List.toArray ([.ref (ad 22), .ref (ad 38), .int x2, .int x3, .int x4, .int x5] : List Value)) s 0 0 (kwA cI ad)) (F0 m 155 ls [.int (s0)]) := by
        intro F G x6 x7 x8 x9 x11 s0 H locs hP hS ls hl h
        refine lv_istore (lv' := [(12, .int (s0)), (0, .ref (ad 22)), (1, .ref (ad 38)), (2, .int (x2)), (3, .int (x3)), (4, .int (x4)), (5, .int (x5)), (6, .int (x6)), (7, .int (x7)), (8, .int (x8)), (9, .int (x9)), (11, .int (x11))]) hx hb dX3_followRow_155 hl (by decide) rfl (fun ls hl => ?_)
        refine lv_aload_n hx hb dX3_followRow_157 rfl (lv_at hl 1 rfl) ?_
        refine lv_iload hx hb dX3_followRow_158 (lv_at hl 11 rfl) ?_
        refine q_if_eq (tgt := 168) hx hb dX3_followRow_160 (by decide) h (fun h => ?_) (fun h => ?_)
        · refine lv_iconst (v := -1) hx hb dX3_followRow_168 (by decide) ?_
          exact j169 F G x6 x7 x8 x9 (-1 : Int32) _ _ hP hS _ (lv_sub hl [1, 2, 3, 4, 5, 6, 7, 8, 9, 10] rfl) h
        · refine lv_iload hx hb dX3_followRow_163 (lv_at hl 0 rfl) ?_
          refine lv_goto (tgt := 169) hx hb dX3_followRow_165 (by decide) ?_
          exact j169 F G x6 x7 x8 x9 s0 _ _ hP hS _ (lv_sub hl [1, 2, 3, 4, 5, 6, 7, 8, 9, 10] rfl) h
      have j135 : ∀ (F : Nat → Int32) (G : Nat → Nat → Int32) (x6 : Int32) (x7 : Int32) (x8 : Int32) (x9 : Int32) (s0 : Int32) (H : Heap) (locs : List Loc) , va_P D vwCl (kwW cI ad F G) H → va_S (kwA cI ad) s.heap H locs → ∀ ls : Array Slot, lv_has ls 13 [(0, .ref (ad 22)), (1, .ref (ad 38)), (2, .int (x2)), (3, .int (x3)), (4, .int (x4)), (5, .int (x5)), (6, .int (x6)), (7, .int (x7)), (8, .int (x8)), (9, .int (x9))] → f_X3_followRow_B135 (f_X3_followRow_L34 x2 x3 x4 x5 n34) x2 x3 x4 x5 F G x6 x7 x8 x9 s0 = some (Fz, Gz) → W p l e (headSpec wsX3_followRow ({ frames := 4, cells := 0, slots := 0, locals := 95 } : Room)).room s m (List.toArray ([.ref (ad 22), .ref (ad 38), .int x2, .int x3, .int x4, .int x5] : List Value)) below meth c H locs 0 0 (MQ below (va_Qv (fun (_ : Unit) => True) (fun _ t => va_P D vwCl (kwW cI ad Fz Gz) t.heap) (kwA cI ad)) (List.toArray ([.ref (ad 22), .ref (ad 38), .int x2, .int x3, .int x4, .int x5] : List Value)) s 0 0 (kwA cI ad)) (F0 m 135 ls [.int (s0)]) := by
        intro F G x6 x7 x8 x9 s0 H locs hP hS ls hl h
        refine lv_istore (lv' := [(11, .int (s0)), (0, .ref (ad 22)), (1, .ref (ad 38)), (2, .int (x2)), (3, .int (x3)), (4, .int (x4)), (5, .int (x5)), (6, .int (x6)), (7, .int (x7)), (8, .int (x8)), (9, .int (x9))]) hx hb dX3_followRow_135 hl (by decide) rfl (fun ls hl => ?_)
        refine lv_aload_n hx hb dX3_followRow_137 rfl (lv_at hl 2 rfl) ?_
        refine va_get hx hb hts hi_X3_followRow_X0 hown hK hP 12 (kw_o38 cI ad F G) rfl 5 (by decide) (hts _ (List.mem_of_getElem? (i := 3) rfl)) (fun _ h9 => h9) rfl dX3_followRow_138 ?_
        refine q_if_ne (tgt := 153) hx hb dX3_followRow_141 (by decide) h (fun h => ?_) (fun h => ?_)
        · refine lv_iload hx hb dX3_followRow_153 (lv_at hl 6 rfl) ?_
          exact j155 F G x6 x7 x8 x9 s0 x5 _ _ hP hS _ (lv_sub hl [1, 2, 3, 4, 5, 6, 7, 8, 9, 10, 0] rfl) h
        · refine lv_aload_n hx hb dX3_followRow_144 rfl (lv_at hl 1 rfl) ?_
          refine va_get hx hb hts hi_X3_followRow_X3 hown hK hP 0 (kw_o22 cI ad F G) rfl 11 (by decide) (hts _ (List.mem_of_getElem? (i := 1) rfl)) (fun _ h9 => h9) rfl dX3_followRow_145 ?_
          refine lv_iconst (v := 1) hx hb dX3_followRow_148 (by decide) ?_
          refine lv_isub hx hb dX3_followRow_149 ?_
          refine lv_goto (tgt := 155) hx hb dX3_followRow_150 (by decide) ?_
          exact j155 F G x6 x7 x8 x9 s0 (((F 11) - (1 : Int32))) _ _ hP hS _ (lv_sub hl [1, 2, 3, 4, 5, 6, 7, 8, 9, 10, 0] rfl) h
      have j113 : ∀ (F : Nat → Int32) (G : Nat → Nat → Int32) (x6 : Int32) (x7 : Int32) (x8 : Int32) (x9 : Int32) (s1 : Int32) (H : Heap) (locs : List Loc) , va_P D vwCl (kwW cI ad F G) H → va_S (kwA cI ad) s.heap H locs → ∀ ls : Array Slot, lv_has ls 13 [(0, .ref (ad 22)), (1, .ref (ad 38)), (2, .int (x2)), (3, .int (x3)), (4, .int (x4)), (5, .int (x5)), (6, .int (x6)), (7, .int (x7)), (8, .int (x8)), (9, .int (x9))] → f_X3_followRow_B113 (f_X3_followRow_L34 x2 x3 x4 x5 n34) x2 x3 x4 x5 F G x6 x7 x8 x9 s1 = some (Fz, Gz) → W p l e (headSpec wsX3_followRow ({ frames := 4, cells := 0, slots := 0, locals := 95 } : Room)).room s m (List.toArray ([.ref (ad 22), .ref (ad 38), .int x2, .int x3, .int x4, .int x5] : List Value)) below meth c H locs 0 0 (MQ below (va_Qv (fun (_ : Unit) => True) (fun _ t => va_P D vwCl (kwW cI ad Fz Gz) t.heap) (kwA cI ad)) (List.toArray ([.ref (ad 22), .ref (ad 38), .int x2, .int x3, .int x4, .int x5] : List Value)) s 0 0 (kwA cI ad)) (F0 m 113 ls [.int (s1), .ref (ad 22)]) := by
        intro F G x6 x7 x8 x9 s1 H locs hP hS ls hl h
        refine lv_iload hx hb dX3_followRow_113 (lv_at hl 7 rfl) ?_
        obtain ⟨⟨F11, G12⟩, hc13, h⟩ := q_some h
        refine q_cv (va_runV (C := RX3) (As := [.int (s1), .int (x7)]) (rest := []) ⟨hx, hb, hml, hown, hts⟩ (mt_X3_gatherInFirstRow l D cI ad F G s1 x7 F11 G12 hDD hc13) (cwV 2 hts gX3_followRow_X3_gatherInFirstRow rfl rfl rfl (by decide +kernel) ⟨Nat.le_of_ble_eq_true rfl, Nat.le_of_ble_eq_true rfl⟩) ⟨kwR_b, va_recv hK hP (ci := 3) (q0 := 0) rfl rfl, (kwR_p hP hK hN).2⟩ rfl rfl hl.1 rfl (lv_room (Nat.le_of_ble_eq_true rfl)) dX3_followRow_115 ⟨Nat.le_of_ble_eq_true rfl, Nat.le_of_ble_eq_true rfl⟩) hS (fun H locs hP hS => ?_)
        refine lv_goto (tgt := 172) hx hb dX3_followRow_118 (by decide) ?_
        exact j172 F11 G12 x6 x7 x8 x9 _ _ hP hS _ (lv_sub hl [0, 1, 2, 3, 4, 5, 6, 7, 8, 9] rfl) h
      have j73 : ∀ (F : Nat → Int32) (G : Nat → Nat → Int32) (x6 : Int32) (x7 : Int32) (x8 : Int32) (x9 : Int32) (s0 : Int32) (H : Heap) (locs : List Loc) , va_P D vwCl (kwW cI ad F G) H → va_S (kwA cI ad) s.heap H locs → ∀ ls : Array Slot, lv_has ls 13 [(0, .ref (ad 22)), (1, .ref (ad 38)), (2, .int (x2)), (3, .int (x3)), (4, .int (x4)), (5, .int (x5)), (6, .int (x6)), (7, .int (x7)), (8, .int (x8)), (9, .int (x9))] → f_X3_followRow_B73 (f_X3_followRow_L34 x2 x3 x4 x5 n34) x2 x3 x4 x5 F G x6 x7 x8 x9 s0 = some (Fz, Gz) → W p l e (headSpec wsX3_followRow ({ frames := 4, cells := 0, slots := 0, locals := 95 } : Room)).room s m (List.toArray ([.ref (ad 22), .ref (ad 38), .int x2, .int x3, .int x4, .int x5] : List Value)) below meth c H locs 0 0 (MQ below (va_Qv (fun (_ : Unit) => True) (fun _ t => va_P D vwCl (kwW cI ad Fz Gz) t.heap) (kwA cI ad)) (List.toArray ([.ref (ad 22), .ref (ad 38), .int x2, .int x3, .int x4, .int x5] : List Value)) s 0 0 (kwA cI ad)) (F0 m 73 ls [.int (s0)]) := by
        intro F G x6 x7 x8 x9 s0 H locs hP hS ls hl h
        refine lv_istore (lv' := [(10, .int (s0)), (0, .ref (ad 22)), (1, .ref (ad 38)), (2, .int (x2)), (3, .int (x3)), (4, .int (x4)), (5, .int (x5)), (6, .int (x6)), (7, .int (x7)), (8, .int (x8)), (9, .int (x9))]) hx hb dX3_followRow_73 hl (by decide) rfl (fun ls hl => ?_)
        refine lv_aload_n hx hb dX3_followRow_75 rfl (lv_at hl 2 rfl) ?_
        refine lv_iload_n hx hb dX3_followRow_76 rfl (lv_at hl 3 rfl) ?_
        refine lv_iload hx hb dX3_followRow_77 (lv_at hl 0 rfl) ?_
        obtain ⟨v14, hc15, h⟩ := q_some h
        refine q_cs (W.runV (C := RX0) (As := [.int (x2), .int (s0)]) (rest := []) ⟨hx, hb, hml, hown, hts⟩ (mt_X0_colourAt l D cI ad F G x2 s0 v14 hc15) (cwV 2 hts gX3_followRow_X0_colourAt rfl rfl rfl (by decide +kernel) ⟨Nat.le_of_ble_eq_true rfl, Nat.le_of_ble_eq_true rfl⟩) ⟨chR_b, va_recv hK hP (ci := 0) (q0 := 12) rfl rfl, (chR_p (kw_ch hP) hK hN).2⟩ rfl rfl hl.1 rfl (lv_room (Nat.le_of_ble_eq_true rfl)) dX3_followRow_79 ⟨Nat.le_of_ble_eq_true rfl, Nat.le_of_ble_eq_true rfl⟩) ?_
        refine lv_iconst (v := -1) hx hb dX3_followRow_82 (by decide) ?_
        refine q_icmp_eq (tgt := 179) hx hb dX3_followRow_83 (by decide) h (fun h => ?_) (fun h => ?_)
        · exact j179 F G x6 x7 x8 x9 _ _ hP hS _ (lv_sub hl [1, 2, 3, 4, 5, 6, 7, 8, 9, 10] rfl) h
        · refine lv_aload_n hx hb dX3_followRow_86 rfl (lv_at hl 1 rfl) ?_
          refine lv_aload_n hx hb dX3_followRow_87 rfl (lv_at hl 2 rfl) ?_
          refine lv_iload_n hx hb dX3_followRow_88 rfl (lv_at hl 3 rfl) ?_
          refine lv_iload hx hb dX3_followRow_89 (lv_at hl 0 rfl) ?_
          refine lv_iload_n hx hb dX3_followRow_91 rfl (lv_at hl 4 rfl) ?_
          obtain ⟨⟨F17, G18⟩, hc19, h⟩ := q_some h
          refine q_cv (va_runV (C := RX3) (As := [.ref (ad 38), .int (x2), .int (s0), .int (x3)]) (rest := []) ⟨hx, hb, hml, hown, hts⟩ (mt_X3_layOut l D cI ad F G x2 s0 x3 F17 G18 hDD hc19) (cwV 4 hts gX3_followRow_X3_layOut rfl rfl rfl (by decide +kernel) ⟨Nat.le_of_ble_eq_true rfl, Nat.le_of_ble_eq_true rfl⟩) ⟨kwR_b, va_recv hK hP (ci := 3) (q0 := 0) rfl rfl, (kwR_p hP hK hN).2⟩ rfl rfl hl.1 rfl (lv_room (Nat.le_of_ble_eq_true rfl)) dX3_followRow_92 ⟨Nat.le_of_ble_eq_true rfl, Nat.le_of_ble_eq_true rfl⟩) hS (fun H locs hP hS => ?_)
          refine lv_iload hx hb dX3_followRow_95 (lv_at hl 9 rfl) ?_
          refine q_if_eq (tgt := 121) hx hb dX3_followRow_97 (by decide) h (fun h => ?_) (fun h => ?_)
          · refine lv_aload_n hx hb dX3_followRow_121 rfl (lv_at hl 1 rfl) ?_
            refine va_get hx hb hts hi_X3_followRow_X3 hown hK hP 0 (kw_o22 cI ad F17 G18) rfl 11 (by decide) (hts _ (List.mem_of_getElem? (i := 1) rfl)) (fun _ h9 => h9) rfl dX3_followRow_122 ?_
            refine lv_iload hx hb dX3_followRow_125 (lv_at hl 7 rfl) ?_
            refine q_icmp_ne (tgt := 134) hx hb dX3_followRow_127 (by decide) h (fun h => ?_) (fun h => ?_)
            · refine lv_iconst (v := 0) hx hb dX3_followRow_134 (by decide) ?_
              exact j135 F17 G18 x6 x7 x8 x9 (0 : Int32) _ _ hP hS _ (lv_sub hl [1, 2, 3, 4, 5, 6, 7, 8, 9, 10] rfl) h
            · refine lv_iconst (v := 1) hx hb dX3_followRow_130 (by decide) ?_
              refine lv_goto (tgt := 135) hx hb dX3_followRow_131 (by decide) ?_
              exact j135 F17 G18 x6 x7 x8 x9 (1 : Int32) _ _ hP hS _ (lv_sub hl [1, 2, 3, 4, 5, 6, 7, 8, 9, 10] rfl) h
          · refine lv_aload_n hx hb dX3_followRow_100 rfl (lv_at hl 1 rfl) ?_
            refine lv_aload_n hx hb dX3_followRow_101 rfl (lv_at hl 2 rfl) ?_
            refine va_get hx hb hts hi_X3_followRow_X0 hown hK hP 12 (kw_o38 cI ad F17 G18) rfl 5 (by decide) (hts _ (List.mem_of_getElem? (i := 3) rfl)) (fun _ h9 => h9) rfl dX3_followRow_102 ?_
            refine q_if_eq (tgt := 112) hx hb dX3_followRow_105 (by decide) h (fun h => ?_) (fun h => ?_)
            · refine lv_iconst (v := 0) hx hb dX3_followRow_112 (by decide) ?_
              exact j113 F17 G18 x6 x7 x8 x9 (0 : Int32) _ _ hP hS _ (lv_sub hl [1, 2, 3, 4, 5, 6, 7, 8, 9, 10] rfl) h
            · refine lv_iconst (v := 1) hx hb dX3_followRow_108 (by decide) ?_
              refine lv_goto (tgt := 113) hx hb dX3_followRow_109 (by decide) ?_
              exact j113 F17 G18 x6 x7 x8 x9 (1 : Int32) _ _ hP hS _ (lv_sub hl [1, 2, 3, 4, 5, 6, 7, 8, 9, 10] rfl) h
      intro F G x6 x7 x8 x9 H locs hP hS ls hl h
      replace h : f_X3_followRow_L34_b (f_X3_followRow_L34 x2 x3 x4 x5 n34) x2 x3 x4 x5 F G x6 x7 x8 x9 = some (Fz, Gz) := h
      refine lv_iload hx hb dX3_followRow_34 (lv_at hl 9 rfl) ?_
      refine lv_bipush (v := 12) hx hb dX3_followRow_36 (by decide) ?_
      refine q_icmp_ge (tgt := 185) hx hb dX3_followRow_38 (by decide) h (fun h => ?_) (fun h => ?_)
      · have e2 := congrArg Prod.fst (Option.some.inj h)
        have e3 := congrArg Prod.snd (Option.some.inj h)
        dsimp only at e2 e3
        exact W.vret hx hb hr (fun t ht hW => ⟨⟨(), rfl, trivial, by show va_P D vwCl _ t.heap; rw [ht, ← e2, ← e3]; exact hP⟩, hS.F ht⟩) hS.2.2 dX3_followRow_185
      · refine lv_aload_n hx hb dX3_followRow_41 rfl (lv_at hl 0 rfl) ?_
        refine va_get hx hb hts hi_X3_followRow_X3 hown hK hP 0 (kw_o22 cI ad F G) rfl 12 (by decide) (hts _ (List.mem_of_getElem? (i := 2) rfl)) (fun _ h9 => h9) rfl dX3_followRow_42 ?_
        refine q_if_ne (tgt := 185) hx hb dX3_followRow_45 (by decide) h (fun h => ?_) (fun h => ?_)
        · have e2 := congrArg Prod.fst (Option.some.inj h)
          have e3 := congrArg Prod.snd (Option.some.inj h)
          dsimp only at e2 e3
          exact W.vret hx hb hr (fun t ht hW => ⟨⟨(), rfl, trivial, by show va_P D vwCl _ t.heap; rw [ht, ← e2, ← e3]; exact hP⟩, hS.F ht⟩) hS.2.2 dX3_followRow_185
        · refine lv_aload_n hx hb dX3_followRow_48 rfl (lv_at hl 0 rfl) ?_
          refine va_get hx hb hts hi_X3_followRow_X3 hown hK hP 0 (kw_o22 cI ad F G) rfl 11 (by decide) (hts _ (List.mem_of_getElem? (i := 1) rfl)) (fun _ h9 => h9) rfl dX3_followRow_49 ?_
          refine lv_sipush (v := 144) hx hb dX3_followRow_52 (by decide) ?_
          refine q_icmp_ge (tgt := 185) hx hb dX3_followRow_55 (by decide) h (fun h => ?_) (fun h => ?_)
          · have e2 := congrArg Prod.fst (Option.some.inj h)
            have e3 := congrArg Prod.snd (Option.some.inj h)
            dsimp only at e2 e3
            exact W.vret hx hb hr (fun t ht hW => ⟨⟨(), rfl, trivial, by show va_P D vwCl _ t.heap; rw [ht, ← e2, ← e3]; exact hP⟩, hS.F ht⟩) hS.2.2 dX3_followRow_185
          · refine lv_iload hx hb dX3_followRow_58 (lv_at hl 4 rfl) ?_
            refine q_if_eq (tgt := 68) hx hb dX3_followRow_60 (by decide) h (fun h => ?_) (fun h => ?_)
            · refine lv_bipush (v := 11) hx hb dX3_followRow_68 (by decide) ?_
              refine lv_iload hx hb dX3_followRow_70 (lv_at hl 9 rfl) ?_
              refine lv_isub hx hb dX3_followRow_72 ?_
              exact j73 F G x6 x7 x8 x9 (((11 : Int32) - x9)) _ _ hP hS _ (lv_sub hl [0, 1, 2, 3, 4, 5, 6, 7, 8, 9] rfl) h
            · refine lv_iload hx hb dX3_followRow_63 (lv_at hl 9 rfl) ?_
              refine lv_goto (tgt := 73) hx hb dX3_followRow_65 (by decide) ?_
              exact j73 F G x6 x7 x8 x9 x9 _ _ hP hS _ (lv_sub hl [0, 1, 2, 3, 4, 5, 6, 7, 8, 9] rfl) h
  have j29 : ∀ (F : Nat → Int32) (G : Nat → Nat → Int32) (x6 : Int32) (x7 : Int32) (s0 : Int32) (H : Heap) (locs : List Loc) , va_P D vwCl (kwW cI ad F G) H → va_S (kwA cI ad) s.heap H locs → ∀ ls : Array Slot, lv_has ls 13 [(0, .ref (ad 22)), (1, .ref (ad 38)), (2, .int (x2)), (3, .int (x3)), (4, .int (x4)), (5, .int (x5)), (6, .int (x6)), (7, .int (x7))] → f_X3_followRow_B29 x2 x3 x4 x5 F G x6 x7 s0 = some (Fz, Gz) → W p l e (headSpec wsX3_followRow ({ frames := 4, cells := 0, slots := 0, locals := 95 } : Room)).room s m (List.toArray ([.ref (ad 22), .ref (ad 38), .int x2, .int x3, .int x4, .int x5] : List Value)) below meth c H locs 0 0 (MQ below (va_Qv (fun (_ : Unit) => True) (fun _ t => va_P D vwCl (kwW cI ad Fz Gz) t.heap) (kwA cI ad)) (List.toArray ([.ref (ad 22), .ref (ad 38), .int x2, .int x3, .int x4, .int x5] : List Value)) s 0 0 (kwA cI ad)) (F0 m 29 ls [.int (s0)]) := by
    intro F G x6 x7 s0 H locs hP hS ls hl h
    refine lv_istore (lv' := [(8, .int (s0)), (0, .ref (ad 22)), (1, .ref (ad 38)), (2, .int (x2)), (3, .int (x3)), (4, .int (x4)), (5, .int (x5)), (6, .int (x6)), (7, .int (x7))]) hx hb dX3_followRow_29 hl (by decide) rfl (fun ls hl => ?_)
    refine lv_iconst (v := 0) hx hb dX3_followRow_31 (by decide) ?_
    refine q_nm h (fun v20 h => ?_)
    refine lv_istore (lv' := [(9, .int (v20)), (8, .int (s0)), (0, .ref (ad 22)), (1, .ref (ad 38)), (2, .int (x2)), (3, .int (x3)), (4, .int (x4)), (5, .int (x5)), (6, .int (x6)), (7, .int (x7))]) hx hb dX3_followRow_32 hl (by decide) rfl (fun ls hl => ?_)
    exact j34 1000 F G x6 x7 s0 v20 _ _ hP hS _ (lv_sub hl [2, 3, 4, 5, 6, 7, 8, 9, 1, 0] rfl) h
  refine lv_aload_n hx hb dX3_followRow_0 rfl (lv_at hl 0 rfl) ?_
  refine va_get hx hb hts hi_X3_followRow_X3 hown hK hP 0 (kw_o22 cI ad F G) rfl 11 (by decide) (hts _ (List.mem_of_getElem? (i := 1) rfl)) (fun _ h9 => h9) rfl dX3_followRow_1 ?_
  refine q_nm h (fun v21 h => ?_)
  refine lv_istore (lv' := [(6, .int (v21)), (0, .ref (ad 22)), (1, .ref (ad 38)), (2, .int (x2)), (3, .int (x3)), (4, .int (x4)), (5, .int (x5))]) hx hb dX3_followRow_4 hl (by decide) rfl (fun ls hl => ?_)
  refine lv_iload hx hb dX3_followRow_6 (lv_at hl 0 rfl) ?_
  refine lv_aload_n hx hb dX3_followRow_8 rfl (lv_at hl 2 rfl) ?_
  refine lv_iload_n hx hb dX3_followRow_9 rfl (lv_at hl 3 rfl) ?_
  obtain ⟨v22, hc23, h⟩ := q_some h
  refine q_cs (W.runV (C := RX0) (As := [.int (x2)]) (rest := [.int (v21)]) ⟨hx, hb, hml, hown, hts⟩ (mt_X0_beadsInRow l D cI ad F G x2 v22 hc23) (cwV 1 hts gX3_followRow_X0_beadsInRow rfl rfl rfl (by decide +kernel) ⟨Nat.le_of_ble_eq_true rfl, Nat.le_of_ble_eq_true rfl⟩) ⟨chR_b, va_recv hK hP (ci := 0) (q0 := 12) rfl rfl, (chR_p (kw_ch hP) hK hN).2⟩ rfl rfl hl.1 rfl (lv_room (Nat.le_of_ble_eq_true rfl)) dX3_followRow_10 ⟨Nat.le_of_ble_eq_true rfl, Nat.le_of_ble_eq_true rfl⟩) ?_
  refine lv_iadd hx hb dX3_followRow_13 ?_
  refine lv_iconst (v := 1) hx hb dX3_followRow_14 (by decide) ?_
  refine lv_isub hx hb dX3_followRow_15 ?_
  refine q_nm h (fun v24 h => ?_)
  refine lv_istore (lv' := [(7, .int (v24)), (6, .int (v21)), (0, .ref (ad 22)), (1, .ref (ad 38)), (2, .int (x2)), (3, .int (x3)), (4, .int (x4)), (5, .int (x5))]) hx hb dX3_followRow_16 hl (by decide) rfl (fun ls hl => ?_)
  refine lv_iload hx hb dX3_followRow_18 (lv_at hl 7 rfl) ?_
  refine lv_iconst (v := -1) hx hb dX3_followRow_20 (by decide) ?_
  refine q_icmp_ne (tgt := 28) hx hb dX3_followRow_21 (by decide) h (fun h => ?_) (fun h => ?_)
  · refine lv_iconst (v := 0) hx hb dX3_followRow_28 (by decide) ?_
    exact j29 F G v21 v24 (0 : Int32) _ _ hP hS _ (lv_sub hl [2, 3, 4, 5, 6, 7, 1, 0] rfl) h
  · refine lv_iconst (v := 1) hx hb dX3_followRow_24 (by decide) ?_
    refine lv_goto (tgt := 29) hx hb dX3_followRow_25 (by decide) ?_
    exact j29 F G v21 v24 (1 : Int32) _ _ hP hS _ (lv_sub hl [2, 3, 4, 5, 6, 7, 1, 0] rfl) h
theorem hi_X3_follow_X0 : ∀ w ∈ u_ws RX0 TX0 8, w ∈ wsX3_follow := fun w h => (List.mem_cons_of_mem _ (List.mem_append_left _ (List.mem_append_right _ h)))
theorem hi_X3_follow_X3 : ∀ w ∈ u_ws RX3 TX3 19, w ∈ wsX3_follow := fun w h => (List.mem_cons_of_mem _ (List.mem_append_left _ (List.mem_append_left _ (List.mem_append_right _ h))))
set_option maxHeartbeats 4000000 in
set_option maxRecDepth 100000 in
theorem mt_X3_follow (l : Launch) (D : va_G) (cI : ClassId) (ad : Nat → Nat) (F : Nat → Int32) (G : Nat → Nat → Int32) (x2 : Int32) (Fz : Nat → Int32) (Gz : Nat → Nat → Int32) (hDD : va_D (fun _ => True) (kwW cI ad (fun _ => 0) (fun _ _ => 0))) (h : f_X3_follow F G x2 = some (Fz, Gz)) : Met l yX3_follow wsX3_follow ({ frames := 5, cells := 0, slots := 0, locals := 127 } : Room) (va_Pc [.ref (ad 22), .ref (ad 38), .int x2] (kwR D cI ad F G)) (va_Qv (fun (_ : Unit) => True) (fun _ t => va_P D vwCl (kwW cI ad Fz Gz) t.heap) (kwA cI ad)) 0 0 (kwA cI ad) := by
  refine Met.ofW (cc := cX3_follow) (maxL := 9) (ret := none) (by decide) rfl ?_
  intro p e s m args below meth c s₁ B hml hv
  obtain ⟨rfl, hP, hK, hN⟩ := hv
  have hx := B.exec
  have hb := B.bytes
  have hr := B.returns
  have hts := atoms_spec (ws := wsX3_follow) B.pre
  have hown : s.vm.findClass RX3 = some m.cls := findClass_of_methodNamed B.named
  have hlocks := B.notSynchronized
  have hS : va_S (kwA cI ad) s.heap s.heap [] := va_S.rf
  have hl := lv_entry ([.ref (ad 22), .ref (ad 38), .int x2]) (n := 9) (Nat.le_of_ble_eq_true rfl)
  rw [lg_entry_eq]
  generalize (lg_sl ([.ref (ad 22), .ref (ad 38), .int x2]) ++ List.replicate (9 - (lg_sl ([.ref (ad 22), .ref (ad 38), .int x2])).length) Slot.unset).toArray = ls at hl ⊢
  have hl : lv_has ls 9 [(0, .ref (ad 22)), (1, .ref (ad 38)), (2, .int (x2))] := hl
  have j35 : ∀ n35 : Nat, ∀ (F : Nat → Int32) (G : Nat → Nat → Int32) (x3 : Int32) (x4 : Int32) (x5 : Int32) (x6 : Int32) (H : Heap) (locs : List Loc) , va_P D vwCl (kwW cI ad F G) H → va_S (kwA cI ad) s.heap H locs → ∀ ls : Array Slot, lv_has ls 9 [(0, .ref (ad 22)), (1, .ref (ad 38)), (3, .int (x3)), (4, .int (x4)), (5, .int (x5)), (6, .int (x6))] → f_X3_follow_L35 x2 n35 F G x3 x4 x5 x6 = some (Fz, Gz) → W p l e (headSpec wsX3_follow ({ frames := 5, cells := 0, slots := 0, locals := 127 } : Room)).room s m (List.toArray ([.ref (ad 22), .ref (ad 38), .int x2] : List Value)) below meth c H locs 0 0 (MQ below (va_Qv (fun (_ : Unit) => True) (fun _ t => va_P D vwCl (kwW cI ad Fz Gz) t.heap) (kwA cI ad)) (List.toArray ([.ref (ad 22), .ref (ad 38), .int x2] : List Value)) s 0 0 (kwA cI ad)) (F0 m 35 ls []) := by
    intro n35
    induction n35 with
    | zero =>
      intro F G x3 x4 x5 x6 H locs hP hS ls hl h
      cases h
    | succ n35 ih35 =>
      have j134 : ∀ (F : Nat → Int32) (G : Nat → Nat → Int32) (x3 : Int32) (x4 : Int32) (x5 : Int32) (x6 : Int32) (H : Heap) (locs : List Loc) , va_P D vwCl (kwW cI ad F G) H → va_S (kwA cI ad) s.heap H locs → ∀ ls : Array Slot, lv_has ls 9 [(0, .ref (ad 22)), (1, .ref (ad 38)), (3, .int (x3)), (4, .int (x4)), (5, .int (x5)), (6, .int (x6))] → f_X3_follow_B134 (f_X3_follow_L35 x2 n35) x2 F G x3 x4 x5 x6 = some (Fz, Gz) → W p l e (headSpec wsX3_follow ({ frames := 5, cells := 0, slots := 0, locals := 127 } : Room)).room s m (List.toArray ([.ref (ad 22), .ref (ad 38), .int x2] : List Value)) below meth c H locs 0 0 (MQ below (va_Qv (fun (_ : Unit) => True) (fun _ t => va_P D vwCl (kwW cI ad Fz Gz) t.heap) (kwA cI ad)) (List.toArray ([.ref (ad 22), .ref (ad 38), .int x2] : List Value)) s 0 0 (kwA cI ad)) (F0 m 134 ls []) := by
        intro F G x3 x4 x5 x6 H locs hP hS ls hl h
        refine q_iinc (j := 5) (d := (1 : Int32)) (lv2 := fun v1 => [(6, .int (v1)), (0, .ref (ad 22)), (1, .ref (ad 38)), (3, .int (x3)), (4, .int (x4)), (5, .int (x5))]) hx hb dX3_follow_134 hl rfl (by decide) (by decide) (fun _ => rfl) h (fun v1 ls hl h => ?_)
        refine lv_goto (tgt := 35) hx hb dX3_follow_137 (by decide) ?_
        exact ih35 F G x3 x4 x5 v1 _ _ hP hS _ (lv_sub hl [1, 2, 3, 4, 5, 0] rfl) h
      have j132 : ∀ (F : Nat → Int32) (G : Nat → Nat → Int32) (x3 : Int32) (x5 : Int32) (x6 : Int32) (s0 : Int32) (H : Heap) (locs : List Loc) , va_P D vwCl (kwW cI ad F G) H → va_S (kwA cI ad) s.heap H locs → ∀ ls : Array Slot, lv_has ls 9 [(0, .ref (ad 22)), (1, .ref (ad 38)), (3, .int (x3)), (5, .int (x5)), (6, .int (x6))] → f_X3_follow_B132 (f_X3_follow_L35 x2 n35) x2 F G x3 x5 x6 s0 = some (Fz, Gz) → W p l e (headSpec wsX3_follow ({ frames := 5, cells := 0, slots := 0, locals := 127 } : Room)).room s m (List.toArray ([.ref (ad 22), .ref (ad 38), .int x2] : List Value)) below meth c H locs 0 0 (MQ below (va_Qv (fun (_ : Unit) => True) (fun _ t => va_P D vwCl (kwW cI ad Fz Gz) t.heap) (kwA cI ad)) (List.toArray ([.ref (ad 22), .ref (ad 38), .int x2] : List Value)) s 0 0 (kwA cI ad)) (F0 m 132 ls [.int (s0)]) := by
        intro F G x3 x5 x6 s0 H locs hP hS ls hl h
        refine lv_istore (lv' := [(4, .int (s0)), (0, .ref (ad 22)), (1, .ref (ad 38)), (3, .int (x3)), (5, .int (x5)), (6, .int (x6))]) hx hb dX3_follow_132 hl (by decide) rfl (fun ls hl => ?_)
        exact j134 F G x3 s0 x5 x6 _ _ hP hS _ (lv_sub hl [1, 2, 3, 0, 4, 5] rfl) h
      have j99 : ∀ (F : Nat → Int32) (G : Nat → Nat → Int32) (x3 : Int32) (x4 : Int32) (x5 : Int32) (x6 : Int32) (x8 : Int32) (s2 : Int32) (s3 : Int32) (H : Heap) (locs : List Loc) , va_P D vwCl (kwW cI ad F G) H → va_S (kwA cI ad) s.heap H locs → ∀ ls : Array Slot, lv_has ls 9 [(0, .ref (ad 22)), (1, .ref (ad 38)), (3, .int (x3)), (4, .int (x4)), (5, .int (x5)), (6, .int (x6)), (8, .int (x8))] → f_X3_follow_B99 (f_X3_follow_L35 x2 n35) x2 F G x3 x4 x5 x6 x8 s2 s3 = some (Fz, Gz) → W p l e (headSpec wsX3_follow ({ frames := 5, cells := 0, slots := 0, locals := 127 } : Room)).room s m (List.toArray ([.ref (ad 22), .ref (ad 38), .int x2] : List Value)) below meth c H locs 0 0 (MQ below (va_Qv (fun (_ : Unit) => True) (fun _ t => va_P D vwCl (kwW cI ad Fz Gz) t.heap) (kwA cI ad)) (List.toArray ([.ref (ad 22), .ref (ad 38), .int x2] : List Value)) s 0 0 (kwA cI ad)) (F0 m 99 ls [.int (s3), .int (s2), .ref (ad 38), .ref (ad 22)]) := by
        intro F G x3 x4 x5 x6 x8 s2 s3 H locs hP hS ls hl h
        refine lv_iload hx hb dX3_follow_99 (lv_at hl 3 rfl) ?_
        refine lv_iload hx hb dX3_follow_101 (lv_at hl 4 rfl) ?_
        obtain ⟨⟨F3, G4⟩, hc5, h⟩ := q_some h
        refine q_cv (va_runV (C := RX3) (As := [.ref (ad 38), .int (s2), .int (s3), .int (x4), .int (x5)]) (rest := []) ⟨hx, hb, hml, hown, hts⟩ (mt_X3_followRow l D cI ad F G s2 s3 x4 x5 F3 G4 hDD hc5) (cwV 5 hts gX3_follow_X3_followRow rfl rfl rfl (by decide +kernel) ⟨Nat.le_of_ble_eq_true rfl, Nat.le_of_ble_eq_true rfl⟩) ⟨kwR_b, va_recv hK hP (ci := 3) (q0 := 0) rfl rfl, (kwR_p hP hK hN).2⟩ rfl rfl hl.1 rfl (lv_room (Nat.le_of_ble_eq_true rfl)) dX3_follow_103 ⟨Nat.le_of_ble_eq_true rfl, Nat.le_of_ble_eq_true rfl⟩) hS (fun H locs hP hS => ?_)
        refine lv_iload hx hb dX3_follow_106 (lv_at hl 6 rfl) ?_
        refine lv_istore (lv' := [(5, .int (x8)), (0, .ref (ad 22)), (1, .ref (ad 38)), (3, .int (x3)), (4, .int (x4)), (6, .int (x6)), (8, .int (x8))]) hx hb dX3_follow_108 hl (by decide) rfl (fun ls hl => ?_)
        refine lv_aload_n hx hb dX3_follow_110 rfl (lv_at hl 2 rfl) ?_
        refine va_get hx hb hts hi_X3_follow_X0 hown hK hP 12 (kw_o38 cI ad F3 G4) rfl 5 (by decide) (hts _ (List.mem_of_getElem? (i := 3) rfl)) (fun _ h9 => h9) rfl dX3_follow_111 ?_
        refine q_if_ne (tgt := 130) hx hb dX3_follow_114 (by decide) h (fun h => ?_) (fun h => ?_)
        · refine lv_iload hx hb dX3_follow_130 (lv_at hl 4 rfl) ?_
          exact j132 F3 G4 x3 x8 x6 x4 _ _ hP hS _ (lv_sub hl [1, 2, 3, 0, 5] rfl) h
        · refine lv_iload hx hb dX3_follow_117 (lv_at hl 4 rfl) ?_
          refine q_if_ne (tgt := 126) hx hb dX3_follow_119 (by decide) h (fun h => ?_) (fun h => ?_)
          · refine lv_iconst (v := 0) hx hb dX3_follow_126 (by decide) ?_
            refine lv_goto (tgt := 132) hx hb dX3_follow_127 (by decide) ?_
            exact j132 F3 G4 x3 x8 x6 (0 : Int32) _ _ hP hS _ (lv_sub hl [1, 2, 3, 0, 5] rfl) h
          · refine lv_iconst (v := 1) hx hb dX3_follow_122 (by decide) ?_
            refine lv_goto (tgt := 132) hx hb dX3_follow_123 (by decide) ?_
            exact j132 F3 G4 x3 x8 x6 (1 : Int32) _ _ hP hS _ (lv_sub hl [1, 2, 3, 0, 5] rfl) h
      have j63 : ∀ (F : Nat → Int32) (G : Nat → Nat → Int32) (x3 : Int32) (x4 : Int32) (x5 : Int32) (x6 : Int32) (s0 : Int32) (H : Heap) (locs : List Loc) , va_P D vwCl (kwW cI ad F G) H → va_S (kwA cI ad) s.heap H locs → ∀ ls : Array Slot, lv_has ls 9 [(0, .ref (ad 22)), (1, .ref (ad 38)), (3, .int (x3)), (4, .int (x4)), (5, .int (x5)), (6, .int (x6))] → f_X3_follow_B63 (f_X3_follow_L35 x2 n35) x2 F G x3 x4 x5 x6 s0 = some (Fz, Gz) → W p l e (headSpec wsX3_follow ({ frames := 5, cells := 0, slots := 0, locals := 127 } : Room)).room s m (List.toArray ([.ref (ad 22), .ref (ad 38), .int x2] : List Value)) below meth c H locs 0 0 (MQ below (va_Qv (fun (_ : Unit) => True) (fun _ t => va_P D vwCl (kwW cI ad Fz Gz) t.heap) (kwA cI ad)) (List.toArray ([.ref (ad 22), .ref (ad 38), .int x2] : List Value)) s 0 0 (kwA cI ad)) (F0 m 63 ls [.int (s0)]) := by
        intro F G x3 x4 x5 x6 s0 H locs hP hS ls hl h
        refine lv_istore (lv' := [(7, .int (s0)), (0, .ref (ad 22)), (1, .ref (ad 38)), (3, .int (x3)), (4, .int (x4)), (5, .int (x5)), (6, .int (x6))]) hx hb dX3_follow_63 hl (by decide) rfl (fun ls hl => ?_)
        refine lv_aload_n hx hb dX3_follow_65 rfl (lv_at hl 2 rfl) ?_
        refine lv_iload hx hb dX3_follow_66 (lv_at hl 0 rfl) ?_
        obtain ⟨v6, hc7, h⟩ := q_some h
        refine q_cs (W.runV (C := RX0) (As := [.int (s0)]) (rest := []) ⟨hx, hb, hml, hown, hts⟩ (mt_X0_beadsInRow l D cI ad F G s0 v6 hc7) (cwV 1 hts gX3_follow_X0_beadsInRow rfl rfl rfl (by decide +kernel) ⟨Nat.le_of_ble_eq_true rfl, Nat.le_of_ble_eq_true rfl⟩) ⟨chR_b, va_recv hK hP (ci := 0) (q0 := 12) rfl rfl, (chR_p (kw_ch hP) hK hN).2⟩ rfl rfl hl.1 rfl (lv_room (Nat.le_of_ble_eq_true rfl)) dX3_follow_68 ⟨Nat.le_of_ble_eq_true rfl, Nat.le_of_ble_eq_true rfl⟩) ?_
        refine q_if_le (tgt := 134) hx hb dX3_follow_71 (by decide) h (fun h => ?_) (fun h => ?_)
        · exact j134 F G x3 x4 x5 x6 _ _ hP hS _ (lv_sub hl [1, 2, 3, 4, 5, 6] rfl) h
        · refine lv_aload_n hx hb dX3_follow_74 rfl (lv_at hl 1 rfl) ?_
          refine va_get hx hb hts hi_X3_follow_X3 hown hK hP 0 (kw_o22 cI ad F G) rfl 11 (by decide) (hts _ (List.mem_of_getElem? (i := 2) rfl)) (fun _ h9 => h9) rfl dX3_follow_75 ?_
          refine q_nm h (fun v8 h => ?_)
          refine lv_istore (lv' := [(8, .int (v8)), (7, .int (s0)), (0, .ref (ad 22)), (1, .ref (ad 38)), (3, .int (x3)), (4, .int (x4)), (5, .int (x5)), (6, .int (x6))]) hx hb dX3_follow_78 hl (by decide) rfl (fun ls hl => ?_)
          refine lv_aload_n hx hb dX3_follow_80 rfl (lv_at hl 2 rfl) ?_
          refine lv_aload_n hx hb dX3_follow_81 rfl (lv_at hl 3 rfl) ?_
          refine lv_iload hx hb dX3_follow_82 (lv_at hl 1 rfl) ?_
          refine lv_iload_n hx hb dX3_follow_84 rfl (lv_at hl 4 rfl) ?_
          refine q_if_eq (tgt := 95) hx hb dX3_follow_85 (by decide) h (fun h => ?_) (fun h => ?_)
          · refine lv_iload hx hb dX3_follow_95 (lv_at hl 1 rfl) ?_
            refine lv_iconst (v := 1) hx hb dX3_follow_97 (by decide) ?_
            refine lv_iadd hx hb dX3_follow_98 ?_
            exact j99 F G x3 x4 x5 x6 v8 s0 ((s0 + (1 : Int32))) _ _ hP hS _ (lv_sub hl [2, 3, 4, 5, 6, 7, 0] rfl) h
          · refine lv_iload hx hb dX3_follow_88 (lv_at hl 1 rfl) ?_
            refine lv_iconst (v := 1) hx hb dX3_follow_90 (by decide) ?_
            refine lv_isub hx hb dX3_follow_91 ?_
            refine lv_goto (tgt := 99) hx hb dX3_follow_92 (by decide) ?_
            exact j99 F G x3 x4 x5 x6 v8 s0 ((s0 - (1 : Int32))) _ _ hP hS _ (lv_sub hl [2, 3, 4, 5, 6, 7, 0] rfl) h
      intro F G x3 x4 x5 x6 H locs hP hS ls hl h
      replace h : f_X3_follow_L35_b (f_X3_follow_L35 x2 n35) x2 F G x3 x4 x5 x6 = some (Fz, Gz) := h
      refine lv_iload hx hb dX3_follow_35 (lv_at hl 5 rfl) ?_
      refine lv_bipush (v := 12) hx hb dX3_follow_37 (by decide) ?_
      refine q_icmp_ge (tgt := 140) hx hb dX3_follow_39 (by decide) h (fun h => ?_) (fun h => ?_)
      · have e2 := congrArg Prod.fst (Option.some.inj h)
        have e3 := congrArg Prod.snd (Option.some.inj h)
        dsimp only at e2 e3
        exact W.vret hx hb hr (fun t ht hW => ⟨⟨(), rfl, trivial, by show va_P D vwCl _ t.heap; rw [ht, ← e2, ← e3]; exact hP⟩, hS.F ht⟩) hS.2.2 dX3_follow_140
      · refine lv_aload_n hx hb dX3_follow_42 rfl (lv_at hl 0 rfl) ?_
        refine va_get hx hb hts hi_X3_follow_X3 hown hK hP 0 (kw_o22 cI ad F G) rfl 12 (by decide) (hts _ (List.mem_of_getElem? (i := 1) rfl)) (fun _ h9 => h9) rfl dX3_follow_43 ?_
        refine q_if_ne (tgt := 140) hx hb dX3_follow_46 (by decide) h (fun h => ?_) (fun h => ?_)
        · have e2 := congrArg Prod.fst (Option.some.inj h)
          have e3 := congrArg Prod.snd (Option.some.inj h)
          dsimp only at e2 e3
          exact W.vret hx hb hr (fun t ht hW => ⟨⟨(), rfl, trivial, by show va_P D vwCl _ t.heap; rw [ht, ← e2, ← e3]; exact hP⟩, hS.F ht⟩) hS.2.2 dX3_follow_140
        · refine lv_iload_n hx hb dX3_follow_49 rfl (lv_at hl 2 rfl) ?_
          refine q_if_eq (tgt := 58) hx hb dX3_follow_50 (by decide) h (fun h => ?_) (fun h => ?_)
          · refine lv_bipush (v := 11) hx hb dX3_follow_58 (by decide) ?_
            refine lv_iload hx hb dX3_follow_60 (lv_at hl 5 rfl) ?_
            refine lv_isub hx hb dX3_follow_62 ?_
            exact j63 F G x3 x4 x5 x6 (((11 : Int32) - x6)) _ _ hP hS _ (lv_sub hl [0, 1, 2, 3, 4, 5] rfl) h
          · refine lv_iload hx hb dX3_follow_53 (lv_at hl 5 rfl) ?_
            refine lv_goto (tgt := 63) hx hb dX3_follow_55 (by decide) ?_
            exact j63 F G x3 x4 x5 x6 x6 _ _ hP hS _ (lv_sub hl [0, 1, 2, 3, 4, 5] rfl) h
  have j27 : ∀ (F : Nat → Int32) (G : Nat → Nat → Int32) (x3 : Int32) (s0 : Int32) (H : Heap) (locs : List Loc) , va_P D vwCl (kwW cI ad F G) H → va_S (kwA cI ad) s.heap H locs → ∀ ls : Array Slot, lv_has ls 9 [(0, .ref (ad 22)), (1, .ref (ad 38)), (3, .int (x3))] → f_X3_follow_B27 x2 F G x3 s0 = some (Fz, Gz) → W p l e (headSpec wsX3_follow ({ frames := 5, cells := 0, slots := 0, locals := 127 } : Room)).room s m (List.toArray ([.ref (ad 22), .ref (ad 38), .int x2] : List Value)) below meth c H locs 0 0 (MQ below (va_Qv (fun (_ : Unit) => True) (fun _ t => va_P D vwCl (kwW cI ad Fz Gz) t.heap) (kwA cI ad)) (List.toArray ([.ref (ad 22), .ref (ad 38), .int x2] : List Value)) s 0 0 (kwA cI ad)) (F0 m 27 ls [.int (s0)]) := by
    intro F G x3 s0 H locs hP hS ls hl h
    refine lv_istore (lv' := [(4, .int (s0)), (0, .ref (ad 22)), (1, .ref (ad 38)), (3, .int (x3))]) hx hb dX3_follow_27 hl (by decide) rfl (fun ls hl => ?_)
    refine lv_iconst (v := -1) hx hb dX3_follow_29 (by decide) ?_
    refine q_nm h (fun v9 h => ?_)
    refine lv_istore (lv' := [(5, .int (v9)), (4, .int (s0)), (0, .ref (ad 22)), (1, .ref (ad 38)), (3, .int (x3))]) hx hb dX3_follow_30 hl (by decide) rfl (fun ls hl => ?_)
    refine lv_iconst (v := 0) hx hb dX3_follow_32 (by decide) ?_
    refine q_nm h (fun v10 h => ?_)
    refine lv_istore (lv' := [(6, .int (v10)), (5, .int (v9)), (4, .int (s0)), (0, .ref (ad 22)), (1, .ref (ad 38)), (3, .int (x3))]) hx hb dX3_follow_33 hl (by decide) rfl (fun ls hl => ?_)
    exact j35 1000 F G x3 s0 v9 v10 _ _ hP hS _ (lv_sub hl [3, 4, 5, 2, 1, 0] rfl) h
  have j15 : ∀ (F : Nat → Int32) (G : Nat → Nat → Int32) (s0 : Int32) (H : Heap) (locs : List Loc) , va_P D vwCl (kwW cI ad F G) H → va_S (kwA cI ad) s.heap H locs → ∀ ls : Array Slot, lv_has ls 9 [(0, .ref (ad 22)), (1, .ref (ad 38)), (2, .int (x2))] → f_X3_follow_B15 x2 F G s0 = some (Fz, Gz) → W p l e (headSpec wsX3_follow ({ frames := 5, cells := 0, slots := 0, locals := 127 } : Room)).room s m (List.toArray ([.ref (ad 22), .ref (ad 38), .int x2] : List Value)) below meth c H locs 0 0 (MQ below (va_Qv (fun (_ : Unit) => True) (fun _ t => va_P D vwCl (kwW cI ad Fz Gz) t.heap) (kwA cI ad)) (List.toArray ([.ref (ad 22), .ref (ad 38), .int x2] : List Value)) s 0 0 (kwA cI ad)) (F0 m 15 ls [.int (s0)]) := by
    intro F G s0 H locs hP hS ls hl h
    refine lv_istore_n (lv' := [(3, .int (s0)), (0, .ref (ad 22)), (1, .ref (ad 38)), (2, .int (x2))]) hx hb dX3_follow_15 rfl hl (by decide) rfl (fun ls hl => ?_)
    refine lv_iload_n hx hb dX3_follow_16 rfl (lv_at hl 3 rfl) ?_
    refine lv_iconst (v := 2) hx hb dX3_follow_17 (by decide) ?_
    refine lv_irem hx hb dX3_follow_18 (by decide) ?_
    refine q_if_ne (tgt := 26) hx hb dX3_follow_19 (by decide) h (fun h => ?_) (fun h => ?_)
    · refine lv_iconst (v := 0) hx hb dX3_follow_26 (by decide) ?_
      exact j27 F G s0 (0 : Int32) _ _ hP hS _ (lv_sub hl [1, 2, 0] rfl) h
    · refine lv_iconst (v := 1) hx hb dX3_follow_22 (by decide) ?_
      refine lv_goto (tgt := 27) hx hb dX3_follow_23 (by decide) ?_
      exact j27 F G s0 (1 : Int32) _ _ hP hS _ (lv_sub hl [1, 2, 0] rfl) h
  refine lv_aload_n hx hb dX3_follow_0 rfl (lv_at hl 0 rfl) ?_
  refine lv_aload_n hx hb dX3_follow_1 rfl (lv_at hl 1 rfl) ?_
  obtain ⟨⟨F12, G13⟩, hc14, h⟩ := q_some h
  refine q_cv (va_runV (C := RX3) (As := [.ref (ad 38)]) (rest := []) ⟨hx, hb, hml, hown, hts⟩ (mt_X3_startAnew l D cI ad F G  F12 G13 hDD hc14) (cwV 1 hts gX3_follow_X3_startAnew rfl rfl rfl (by decide +kernel) ⟨Nat.le_of_ble_eq_true rfl, Nat.le_of_ble_eq_true rfl⟩) ⟨kwR_b, va_recv hK hP (ci := 3) (q0 := 0) rfl rfl, (kwR_p hP hK hN).2⟩ rfl rfl hl.1 rfl (lv_room (Nat.le_of_ble_eq_true rfl)) dX3_follow_2 ⟨Nat.le_of_ble_eq_true rfl, Nat.le_of_ble_eq_true rfl⟩) hS (fun H locs hP hS => ?_)
  refine lv_iload_n hx hb dX3_follow_5 rfl (lv_at hl 2 rfl) ?_
  refine lv_iconst (v := 2) hx hb dX3_follow_6 (by decide) ?_
  refine q_icmp_ge (tgt := 14) hx hb dX3_follow_7 (by decide) h (fun h => ?_) (fun h => ?_)
  · refine lv_iconst (v := 0) hx hb dX3_follow_14 (by decide) ?_
    exact j15 F12 G13 (0 : Int32) _ _ hP hS _ (lv_sub hl [0, 1, 2] rfl) h
  · refine lv_iconst (v := 1) hx hb dX3_follow_10 (by decide) ?_
    refine lv_goto (tgt := 15) hx hb dX3_follow_11 (by decide) ?_
    exact j15 F12 G13 (1 : Int32) _ _ hP hS _ (lv_sub hl [0, 1, 2] rfl) h
